section ZB1
variable {l : Launch} {D : va_G} {cI cII cF : ClassId} {o rk sp pp fp mo m1 m2 m3 m4 m5 m6 m7 m8 m9 : Nat}
variable {a : ax_A} {x : mx_X}
set_option maxRecDepth 100000 in
set_option maxHeartbeats 4000000 in
theorem c_X4_in {w : va_W} (v lo hi : Int32) : zz_Mi l D (zt cI cII cF) yX4_in cX4_in 3 (some .boolean) 0 0 0 0 [.int v, .int lo, .int hi] w (fun r w' => w' = w ∧ ((r = 1 ∧ (lo ≤ v ∧ v ≤ hi)) ∨ (r = 0 ∧ ¬ (lo ≤ v ∧ v ≤ hi)))) := by
  refine zz_mk (by decide) (Nat.le_of_ble_eq_true rfl) ?_
  intro p e s m below meth c A hC hr hk hnm
  have hC : zz_C p s m _ c A D (zt cI cII cF) 3 cX4_in RX4 := hC
  refine zr_iload_n 0 hC dX4_in_0 rfl rfl ?_
  refine zr_iload_n 1 hC dX4_in_1 rfl rfl ?_
  refine zr_icmp_lt (tgt := 14) hC dX4_in_2 (by decide) (fun c2 => ?_) (fun c2 => ?_)
  · refine zr_iconst (v := (0 : Int32)) hC dX4_in_14 rfl ?_
    refine zr_zret hC hr hk dX4_in_15 rfl (by decide) (by decide) ⟨_, rfl, ?_⟩
    exact ⟨rfl, Or.inr ⟨rfl, fun h => absurd h.1 (Int32.not_le.mpr c2)⟩⟩
  · refine zr_iload_n 0 hC dX4_in_5 rfl rfl ?_
    refine zr_iload_n 2 hC dX4_in_6 rfl rfl ?_
    refine zr_icmp_gt (tgt := 14) hC dX4_in_7 (by decide) (fun c7 => ?_) (fun c7 => ?_)
    · refine zr_iconst (v := (0 : Int32)) hC dX4_in_14 rfl ?_
      refine zr_zret hC hr hk dX4_in_15 rfl (by decide) (by decide) ⟨_, rfl, ?_⟩
      exact ⟨rfl, Or.inr ⟨rfl, fun h => absurd h.2 (Int32.not_le.mpr c7)⟩⟩
    · refine zr_iconst (v := (1 : Int32)) hC dX4_in_10 rfl ?_
      refine zr_goto (tgt := 15) hC dX4_in_11 (by decide) ?_
      refine zr_zret hC hr hk dX4_in_15 rfl (by decide) (by decide) ⟨_, rfl, ?_⟩
      exact ⟨rfl, Or.inl ⟨rfl, Int32.not_lt.mp c2, Int32.not_lt.mp c7⟩⟩
set_option maxRecDepth 100000 in
set_option maxHeartbeats 4000000 in
theorem c_X4_isBank {w : va_W} (b : Int32) : zz_Mi l D (zt cI cII cF) yX4_isBank cX4_isBank 1 (some .boolean) 1 22 0 0 [.int b] w (fun r w' => w' = w ∧ ((r = 1 ∧ zk_b b) ∨ (r = 0 ∧ ¬ zk_b b))) := by
  refine zz_mk (by decide) (Nat.le_of_ble_eq_true rfl) ?_
  intro p e s m below meth c A hC hr hk hnm
  have hC : zz_C p s m _ c A D (zt cI cII cF) 1 cX4_isBank RX4 := hC
  refine zr_iload_n 0 hC dX4_isBank_0 rfl rfl ?_
  refine zr_iconst (v := (0 : Int32)) hC dX4_isBank_1 rfl ?_
  refine zr_iconst (v := (5 : Int32)) hC dX4_isBank_2 rfl ?_
  refine zr_cSi hC cs_X4_in ml_X4_37 (c_X4_in (w := w) b (0 : Int32) (5 : Int32)) dX4_isBank_3 ⟨Nat.le_of_ble_eq_true rfl, Nat.le_of_ble_eq_true rfl⟩ ⟨Nat.le_of_ble_eq_true rfl, Nat.le_of_ble_eq_true rfl⟩ rfl rfl (Nat.le_of_ble_eq_true rfl) ?_
  rintro _ _ ⟨rfl, ⟨rfl, hi1⟩ | ⟨rfl, hi1⟩⟩
  · refine zr_zret hC hr hk dX4_isBank_6 rfl (by decide) (by decide) ⟨_, rfl, ?_⟩
    exact ⟨rfl, Or.inl ⟨rfl, zk_b5.mp hi1⟩⟩
  · refine zr_zret hC hr hk dX4_isBank_6 rfl (by decide) (by decide) ⟨_, rfl, ?_⟩
    exact ⟨rfl, Or.inr ⟨rfl, fun h => hi1 (zk_b5.mpr h)⟩⟩
set_option maxRecDepth 100000 in
set_option maxHeartbeats 4000000 in
theorem c_X4_isStrip {w : va_W} (b : Int32) : zz_Mi l D (zt cI cII cF) yX4_isStrip cX4_isStrip 1 (some .boolean) 1 22 0 0 [.int b] w (fun r w' => w' = w ∧ ((r = 1 ∧ zk_s b) ∨ (r = 0 ∧ ¬ zk_s b))) := by
  refine zz_mk (by decide) (Nat.le_of_ble_eq_true rfl) ?_
  intro p e s m below meth c A hC hr hk hnm
  have hC : zz_C p s m _ c A D (zt cI cII cF) 1 cX4_isStrip RX4 := hC
  refine zr_iload_n 0 hC dX4_isStrip_0 rfl rfl ?_
  refine zr_iconst (v := (0 : Int32)) hC dX4_isStrip_1 rfl ?_
  refine zr_iconst (v := (3 : Int32)) hC dX4_isStrip_2 rfl ?_
  refine zr_cSi hC cs_X4_in ml_X4_37 (c_X4_in (w := w) b (0 : Int32) (3 : Int32)) dX4_isStrip_3 ⟨Nat.le_of_ble_eq_true rfl, Nat.le_of_ble_eq_true rfl⟩ ⟨Nat.le_of_ble_eq_true rfl, Nat.le_of_ble_eq_true rfl⟩ rfl rfl (Nat.le_of_ble_eq_true rfl) ?_
  rintro _ _ ⟨rfl, ⟨rfl, hi1⟩ | ⟨rfl, hi1⟩⟩
  · refine zr_zret hC hr hk dX4_isStrip_6 rfl (by decide) (by decide) ⟨_, rfl, ?_⟩
    exact ⟨rfl, Or.inl ⟨rfl, zk_s3'.mp hi1⟩⟩
  · refine zr_zret hC hr hk dX4_isStrip_6 rfl (by decide) (by decide) ⟨_, rfl, ?_⟩
    exact ⟨rfl, Or.inr ⟨rfl, fun h => hi1 (zk_s3'.mpr h)⟩⟩
set_option maxRecDepth 100000 in
set_option maxHeartbeats 4000000 in
theorem c_X4_begins0  : zz_Mi l D (zt cI cII cF) yX4_begins cX4_begins 2 (some .boolean) 0 0 0 0 [.ref mo, .int (0 : Int32)] (mw_W mo m1 m2 m3 m4 m5 m6 m7 m8 m9 cI a x) (fun r w' => r = 0 ∧ w' = (mw_W mo m1 m2 m3 m4 m5 m6 m7 m8 m9 cI (as_sta a 1) x)) := by
  refine zz_mk (by decide) (Nat.le_of_ble_eq_true rfl) ?_
  intro p e s m below meth c A hC hr hk hnm
  have hC : zz_C p s m _ c A D (zt cI cII cF) 2 cX4_begins RX4 := hC
  refine zr_aload_n 0 hC dX4_begins_0 rfl rfl ?_
  refine zr_iload_n 1 hC dX4_begins_1 rfl rfl ?_
  refine zr_if_eqT (tgt := 9) hC dX4_begins_2 (by decide) (by decide) ?_
  refine zr_iconst (v := (1 : Int32)) hC dX4_begins_9 rfl ?_
  refine zr_put (w' := (mw_W mo m1 m2 m3 m4 m5 m6 m7 m8 m9 cI (as_sta a (1 : Int32)) x)) 0 13 hC iu_X4 tyX4_ok nmX4 rfl dX4_begins_10 fl_X4_41 (by decide) rfl rfl rfl rfl (Nat.le_of_ble_eq_true rfl) rfl ?_
  refine zr_iload_n 1 hC dX4_begins_13 rfl rfl ?_
  refine zr_zret hC hr hk dX4_begins_14 rfl (by decide) (by decide) ⟨_, rfl, ?_⟩
  exact ⟨rfl, rfl⟩
set_option maxRecDepth 100000 in
set_option maxHeartbeats 4000000 in
theorem c_X4_begins1  : zz_Mi l D (zt cI cII cF) yX4_begins cX4_begins 2 (some .boolean) 0 0 0 0 [.ref mo, .int (1 : Int32)] (mw_W mo m1 m2 m3 m4 m5 m6 m7 m8 m9 cI a x) (fun r w' => r = 1 ∧ w' = (mw_W mo m1 m2 m3 m4 m5 m6 m7 m8 m9 cI (as_sta a 0) x)) := by
  refine zz_mk (by decide) (Nat.le_of_ble_eq_true rfl) ?_
  intro p e s m below meth c A hC hr hk hnm
  have hC : zz_C p s m _ c A D (zt cI cII cF) 2 cX4_begins RX4 := hC
  refine zr_aload_n 0 hC dX4_begins_0 rfl rfl ?_
  refine zr_iload_n 1 hC dX4_begins_1 rfl rfl ?_
  refine zr_if_eqF (tgt := 9) hC dX4_begins_2 (by decide) (by decide) ?_
  refine zr_iconst (v := (0 : Int32)) hC dX4_begins_5 rfl ?_
  refine zr_goto (tgt := 10) hC dX4_begins_6 (by decide) ?_
  refine zr_put (w' := (mw_W mo m1 m2 m3 m4 m5 m6 m7 m8 m9 cI (as_sta a (0 : Int32)) x)) 0 13 hC iu_X4 tyX4_ok nmX4 rfl dX4_begins_10 fl_X4_41 (by decide) rfl rfl rfl rfl (Nat.le_of_ble_eq_true rfl) rfl ?_
  refine zr_iload_n 1 hC dX4_begins_13 rfl rfl ?_
  refine zr_zret hC hr hk dX4_begins_14 rfl (by decide) (by decide) ⟨_, rfl, ?_⟩
  exact ⟨rfl, rfl⟩
set_option maxRecDepth 100000 in
set_option maxHeartbeats 4000000 in
theorem c_X4_nearest {w : va_W} (v : Int32) : zz_Mi l D (zt cI cII cF) yX4_nearest cX4_nearest 1 (some .int) 0 0 0 0 [.int v] w (fun r w' => r = zf_lev v ∧ w' = w) := by
  refine zz_mk (by decide) (Nat.le_of_ble_eq_true rfl) ?_
  intro p e s m below meth c A hC hr hk hnm
  have hC : zz_C p s m _ c A D (zt cI cII cF) 1 cX4_nearest RX4 := hC
  refine zr_iload_n 0 hC dX4_nearest_0 rfl rfl ?_
  refine zr_ldc hC dX4_nearest_1 kc_X4_45 ?_
  refine zr_icmp_ge (tgt := 11) hC dX4_nearest_3 (by decide) (fun c3 => ?_) (fun c3 => ?_)
  · refine zr_iload_n 0 hC dX4_nearest_11 rfl rfl ?_
    refine zr_ldc hC dX4_nearest_12 kc_X4_46 ?_
    refine zr_icmp_le (tgt := 22) hC dX4_nearest_14 (by decide) (fun c14 => ?_) (fun c14 => ?_)
    · refine zr_iload_n 0 hC dX4_nearest_22 rfl rfl ?_
      refine zr_iret hC hr hk dX4_nearest_23 (by decide) (by decide) ⟨_, rfl, ?_⟩
      exact ⟨(zf_lev_in c3 c14).symm, rfl⟩
    · refine zr_ldc hC dX4_nearest_17 kc_X4_46 ?_
      refine zr_goto (tgt := 23) hC dX4_nearest_19 (by decide) ?_
      refine zr_iret hC hr hk dX4_nearest_23 (by decide) (by decide) ⟨_, rfl, ?_⟩
      exact ⟨(zf_lev_hi (Int32.not_le.mp c14)).symm, rfl⟩
  · refine zr_ldc hC dX4_nearest_6 kc_X4_45 ?_
    refine zr_goto (tgt := 23) hC dX4_nearest_8 (by decide) ?_
    refine zr_iret hC hr hk dX4_nearest_23 (by decide) (by decide) ⟨_, rfl, ?_⟩
    exact ⟨(zf_lev_lo (Int32.not_le.mp c3)).symm, rfl⟩
set_option maxRecDepth 100000 in
set_option maxHeartbeats 4000000 in
theorem c_X4_kept {w : va_W} (s0 v : Int32) : zz_Mi l D (zt cI cII cF) yX4_kept cX4_kept 3 (some .int) 1 20 0 0 [.int s0, .int v] w (fun r w' => r = zf_num s0 v ∧ w' = w) := by
  refine zz_mk (by decide) (Nat.le_of_ble_eq_true rfl) ?_
  intro p e s m below meth c A hC hr hk hnm
  have hC : zz_C p s m _ c A D (zt cI cII cF) 3 cX4_kept RX4 := hC
  refine zr_iload_n 0 hC dX4_kept_0 rfl rfl ?_
  refine zr_if_ne (tgt := 9) hC dX4_kept_1 (by decide) (fun c1 => ?_) (fun c1 => ?_)
  · refine zr_iload_n 0 hC dX4_kept_9 rfl rfl ?_
    refine zr_iconst (v := (1 : Int32)) hC dX4_kept_10 rfl ?_
    refine zr_icmp_ne (tgt := 35) hC dX4_kept_11 (by decide) (fun c11 => ?_) (fun c11 => ?_)
    · refine zr_iload_n 0 hC dX4_kept_35 rfl rfl ?_
      refine zr_iconst (v := (2 : Int32)) hC dX4_kept_36 rfl ?_
      refine zr_icmp_ne (tgt := 47) hC dX4_kept_37 (by decide) (fun c37 => ?_) (fun c37 => ?_)
      · refine zr_iload_n 1 hC dX4_kept_47 rfl rfl ?_
        refine zr_iconst (v := (1 : Int32)) hC dX4_kept_48 rfl ?_
        refine zr_iand hC dX4_kept_49 ?_
        refine zr_iret hC hr hk dX4_kept_50 (by decide) (by decide) ⟨_, rfl, ?_⟩
        exact ⟨by unfold zf_num; rw [if_neg c1, if_neg c11, if_neg c37], rfl⟩
      · refine zr_iload_n 1 hC dX4_kept_40 rfl rfl ?_
        refine zr_cSi hC cs_X4_nearest ml_X4_49 (c_X4_nearest (w := w) v) dX4_kept_41 ⟨Nat.le_of_ble_eq_true rfl, Nat.le_of_ble_eq_true rfl⟩ ⟨Nat.le_of_ble_eq_true rfl, Nat.le_of_ble_eq_true rfl⟩ rfl rfl (Nat.le_of_ble_eq_true rfl) ?_
        rintro _ _ ⟨rfl, rfl⟩
        refine zr_goto (tgt := 50) hC dX4_kept_44 (by decide) ?_
        refine zr_iret hC hr hk dX4_kept_50 (by decide) (by decide) ⟨_, rfl, ?_⟩
        exact ⟨by unfold zf_num; rw [if_neg c1, if_neg c11, if_pos c37], rfl⟩
    · refine zr_iload_n 1 hC dX4_kept_14 rfl rfl ?_
      refine zr_ldc hC dX4_kept_15 kc_X4_47 ?_
      refine zr_iand hC dX4_kept_17 ?_
      refine zr_istore_n (lv' := [(2, .int (v &&& (65535 : Int32))), (0, .int s0), (1, .int v)]) hC dX4_kept_18 rfl (by decide) rfl ?_
      refine zr_iload_n 0 hC dX4_kept_19 rfl rfl ?_
      refine zr_sipush (v := (32767 : Int32)) hC dX4_kept_20 rfl ?_
      refine zr_icmp_le (tgt := 33) hC dX4_kept_23 (by decide) (fun c23 => ?_) (fun c23 => ?_)
      · refine zr_iload_n 0 hC dX4_kept_33 rfl rfl ?_
        refine zr_iret hC hr hk dX4_kept_34 (by decide) (by decide) ⟨_, rfl, ?_⟩
        exact ⟨by unfold zf_num; rw [if_neg c1, if_pos c11]; exact (zf_short_lo c23).symm, rfl⟩
      · refine zr_iload_n 0 hC dX4_kept_26 rfl rfl ?_
        refine zr_ldc hC dX4_kept_27 kc_X4_48 ?_
        refine zr_isub hC dX4_kept_29 ?_
        refine zr_goto (tgt := 34) hC dX4_kept_30 (by decide) ?_
        refine zr_iret hC hr hk dX4_kept_34 (by decide) (by decide) ⟨_, rfl, ?_⟩
        exact ⟨by unfold zf_num; rw [if_neg c1, if_pos c11]; exact (zf_short_hi c23).symm, rfl⟩
  · refine zr_iload_n 1 hC dX4_kept_4 rfl rfl ?_
    refine zr_ldc hC dX4_kept_5 kc_X4_47 ?_
    refine zr_iand hC dX4_kept_7 ?_
    refine zr_iret hC hr hk dX4_kept_8 (by decide) (by decide) ⟨_, rfl, ?_⟩
    exact ⟨by unfold zf_num; rw [if_pos c1], rfl⟩
set_option maxRecDepth 100000 in
set_option maxHeartbeats 4000000 in
theorem c_X4_digit {w : va_W} (r0 : Int32) : zz_Mi l D (zt cI cII cF) yX4_digit cX4_digit 1 (some .int) 0 0 0 0 [.int r0] w (fun r w' => r = zf_dig r0 ∧ w' = w) := by
  refine zz_mk (by decide) (Nat.le_of_ble_eq_true rfl) ?_
  intro p e s m below meth c A hC hr hk hnm
  have hC : zz_C p s m _ c A D (zt cI cII cF) 1 cX4_digit RX4 := hC
  refine zr_iload_n 0 hC dX4_digit_0 rfl rfl ?_
  refine zr_iconst (v := (2 : Int32)) hC dX4_digit_1 rfl ?_
  refine zr_icmp_ne (tgt := 9) hC dX4_digit_2 (by decide) (fun c2 => ?_) (fun c2 => ?_)
  · refine zr_iload_n 0 hC dX4_digit_9 rfl rfl ?_
    refine zr_iconst (v := (3 : Int32)) hC dX4_digit_10 rfl ?_
    refine zr_icmp_ne (tgt := 18) hC dX4_digit_11 (by decide) (fun c11 => ?_) (fun c11 => ?_)
    · refine zr_iconst (v := (0 : Int32)) hC dX4_digit_18 rfl ?_
      refine zr_iret hC hr hk dX4_digit_19 (by decide) (by decide) ⟨_, rfl, ?_⟩
      exact ⟨by simp [zf_dig, c2, c11], rfl⟩
    · refine zr_iconst (v := (2 : Int32)) hC dX4_digit_14 rfl ?_
      refine zr_goto (tgt := 19) hC dX4_digit_15 (by decide) ?_
      refine zr_iret hC hr hk dX4_digit_19 (by decide) (by decide) ⟨_, rfl, ?_⟩
      exact ⟨by simp [zf_dig, c2, c11], rfl⟩
  · refine zr_iconst (v := (1 : Int32)) hC dX4_digit_5 rfl ?_
    refine zr_goto (tgt := 19) hC dX4_digit_6 (by decide) ?_
    refine zr_iret hC hr hk dX4_digit_19 (by decide) (by decide) ⟨_, rfl, ?_⟩
    exact ⟨by simp [zf_dig, c2], rfl⟩
set_option maxRecDepth 100000 in
set_option maxHeartbeats 4000000 in
theorem c_X4_counted (r0 : Int32) (hw4 : ¬ r0 = 4) : zz_Mi l D (zt cI cII cF) yX4_counted cX4_counted 2 (some .int) 0 0 0 0 [.ref mo, .int r0] (mw_W mo m1 m2 m3 m4 m5 m6 m7 m8 m9 cI a x) (fun r w' => r = r0 ∧ w' = (mw_W mo m1 m2 m3 m4 m5 m6 m7 m8 m9 cI (zf_cnt r0 a) x)) := by
  refine zz_mk (by decide) (Nat.le_of_ble_eq_true rfl) ?_
  intro p e s m below meth c A hC hr hk hnm
  have hC : zz_C p s m _ c A D (zt cI cII cF) 2 cX4_counted RX4 := hC
  refine zr_aload_n 0 hC dX4_counted_0 rfl rfl ?_
  refine zr_dup hC dX4_counted_1 rfl ?_
  refine zr_get (v := .int (aa_mi a)) 0 14 hC iu_X4 rfl dX4_counted_2 fl_X4_60 (by decide) rfl rfl ?_
  refine zr_iload_n 1 hC dX4_counted_5 rfl rfl ?_
  refine zr_iconst (v := (2 : Int32)) hC dX4_counted_6 rfl ?_
  refine zr_icmp_ne (tgt := 14) hC dX4_counted_7 (by decide) (fun c7 => ?_) (fun c7 => ?_)
  · refine zr_iconst (v := (0 : Int32)) hC dX4_counted_14 rfl ?_
    refine zr_iadd hC dX4_counted_15 ?_
    refine zr_put (w' := (mw_W mo m1 m2 m3 m4 m5 m6 m7 m8 m9 cI (as_mi a ((aa_mi a) + (0 : Int32))) x)) 0 14 hC iu_X4 tyX4_ok nmX4 rfl dX4_counted_16 fl_X4_60 (by decide) rfl rfl rfl rfl (Nat.le_of_ble_eq_true rfl) rfl ?_
    refine zr_aload_n 0 hC dX4_counted_19 rfl rfl ?_
    refine zr_dup hC dX4_counted_20 rfl ?_
    refine zr_get (v := .int (aa_ou a)) 0 15 hC iu_X4 rfl dX4_counted_21 fl_X4_63 (by decide) rfl rfl ?_
    refine zr_iload_n 1 hC dX4_counted_24 rfl rfl ?_
    refine zr_iconst (v := (3 : Int32)) hC dX4_counted_25 rfl ?_
    refine zr_icmp_ne (tgt := 33) hC dX4_counted_26 (by decide) (fun c26 => ?_) (fun c26 => ?_)
    · refine zr_iconst (v := (0 : Int32)) hC dX4_counted_33 rfl ?_
      refine zr_iadd hC dX4_counted_34 ?_
      refine zr_put (w' := (mw_W mo m1 m2 m3 m4 m5 m6 m7 m8 m9 cI (as_ou (as_mi a ((aa_mi a) + (0 : Int32))) ((aa_ou a) + (0 : Int32))) x)) 0 15 hC iu_X4 tyX4_ok nmX4 rfl dX4_counted_35 fl_X4_63 (by decide) rfl rfl rfl rfl (Nat.le_of_ble_eq_true rfl) rfl ?_
      refine zr_iload_n 1 hC dX4_counted_38 rfl rfl ?_
      refine zr_iret hC hr hk dX4_counted_39 (by decide) (by decide) ⟨_, rfl, ?_⟩
      exact ⟨rfl, by simp [zf_cnt, hw4, c7, c26]⟩
    · refine zr_iconst (v := (1 : Int32)) hC dX4_counted_29 rfl ?_
      refine zr_goto (tgt := 34) hC dX4_counted_30 (by decide) ?_
      refine zr_iadd hC dX4_counted_34 ?_
      refine zr_put (w' := (mw_W mo m1 m2 m3 m4 m5 m6 m7 m8 m9 cI (as_ou (as_mi a ((aa_mi a) + (0 : Int32))) ((aa_ou a) + (1 : Int32))) x)) 0 15 hC iu_X4 tyX4_ok nmX4 rfl dX4_counted_35 fl_X4_63 (by decide) rfl rfl rfl rfl (Nat.le_of_ble_eq_true rfl) rfl ?_
      refine zr_iload_n 1 hC dX4_counted_38 rfl rfl ?_
      refine zr_iret hC hr hk dX4_counted_39 (by decide) (by decide) ⟨_, rfl, ?_⟩
      exact ⟨rfl, by simp [zf_cnt, hw4, c7, c26]⟩
  · refine zr_iconst (v := (1 : Int32)) hC dX4_counted_10 rfl ?_
    refine zr_goto (tgt := 15) hC dX4_counted_11 (by decide) ?_
    refine zr_iadd hC dX4_counted_15 ?_
    refine zr_put (w' := (mw_W mo m1 m2 m3 m4 m5 m6 m7 m8 m9 cI (as_mi a ((aa_mi a) + (1 : Int32))) x)) 0 14 hC iu_X4 tyX4_ok nmX4 rfl dX4_counted_16 fl_X4_60 (by decide) rfl rfl rfl rfl (Nat.le_of_ble_eq_true rfl) rfl ?_
    refine zr_aload_n 0 hC dX4_counted_19 rfl rfl ?_
    refine zr_dup hC dX4_counted_20 rfl ?_
    refine zr_get (v := .int (aa_ou a)) 0 15 hC iu_X4 rfl dX4_counted_21 fl_X4_63 (by decide) rfl rfl ?_
    refine zr_iload_n 1 hC dX4_counted_24 rfl rfl ?_
    refine zr_iconst (v := (3 : Int32)) hC dX4_counted_25 rfl ?_
    refine zr_icmp_ne (tgt := 33) hC dX4_counted_26 (by decide) (fun c26 => ?_) (fun c26 => ?_)
    · refine zr_iconst (v := (0 : Int32)) hC dX4_counted_33 rfl ?_
      refine zr_iadd hC dX4_counted_34 ?_
      refine zr_put (w' := (mw_W mo m1 m2 m3 m4 m5 m6 m7 m8 m9 cI (as_ou (as_mi a ((aa_mi a) + (1 : Int32))) ((aa_ou a) + (0 : Int32))) x)) 0 15 hC iu_X4 tyX4_ok nmX4 rfl dX4_counted_35 fl_X4_63 (by decide) rfl rfl rfl rfl (Nat.le_of_ble_eq_true rfl) rfl ?_
      refine zr_iload_n 1 hC dX4_counted_38 rfl rfl ?_
      refine zr_iret hC hr hk dX4_counted_39 (by decide) (by decide) ⟨_, rfl, ?_⟩
      exact ⟨rfl, by simp [zf_cnt, hw4, c7, c26]⟩
    · refine zr_iconst (v := (1 : Int32)) hC dX4_counted_29 rfl ?_
      refine zr_goto (tgt := 34) hC dX4_counted_30 (by decide) ?_
      refine zr_iadd hC dX4_counted_34 ?_
      refine zr_put (w' := (mw_W mo m1 m2 m3 m4 m5 m6 m7 m8 m9 cI (as_ou (as_mi a ((aa_mi a) + (1 : Int32))) ((aa_ou a) + (1 : Int32))) x)) 0 15 hC iu_X4 tyX4_ok nmX4 rfl dX4_counted_35 fl_X4_63 (by decide) rfl rfl rfl rfl (Nat.le_of_ble_eq_true rfl) rfl ?_
      refine zr_iload_n 1 hC dX4_counted_38 rfl rfl ?_
      refine zr_iret hC hr hk dX4_counted_39 (by decide) (by decide) ⟨_, rfl, ?_⟩
      exact absurd (c7.symm.trans c26) (by decide)
set_option maxRecDepth 100000 in
set_option maxHeartbeats 4000000 in
theorem c_X4_why (hR : rm_Q a x) {b s0 : Int32} (i : Int32) (hb_b : zk_b b) (hs_s0 : zk_s s0) : zz_Mi l D (zt cI cII cF) yX4_why cX4_why 5 (some .int) 1 22 0 0 [.ref mo, .int b, .int s0, .int i] (mw_W mo m1 m2 m3 m4 m5 m6 m7 m8 m9 cI a x) (fun r w' => r = zf_why (aa_st a) (zl b s0) i ∧ w' = (mw_W mo m1 m2 m3 m4 m5 m6 m7 m8 m9 cI a x)) := by
  refine zz_mk (by decide) (Nat.le_of_ble_eq_true rfl) ?_
  intro p e s m below meth c A hC hr hk hnm
  have hC : zz_C p s m _ c A D (zt cI cII cF) 5 cX4_why RX4 := hC
  refine zr_aload_n 0 hC dX4_why_0 rfl rfl ?_
  refine zr_get (v := .ref m1) 0 0 hC iu_X4 rfl dX4_why_1 fl_X4_7 (by decide) rfl rfl ?_
  refine zr_iconst (v := (4 : Int32)) hC dX4_why_4 rfl ?_
  refine zr_iload_n 1 hC dX4_why_5 rfl rfl ?_
  refine zr_imul hC dX4_why_6 ?_
  refine zr_iload_n 2 hC dX4_why_7 rfl rfl ?_
  refine zr_iadd hC dX4_why_8 ?_
  refine zr_iaj (f := (mx_sp x)) (j := zl b s0) 1 0 hC dX4_why_9 rfl rfl (zl_lt hb_b hs_s0) (zl_m hb_b hs_s0) (by decide) ?_
  refine zr_istore (lv' := [(4, .int ((mx_sp x) (zl b s0))), (0, .ref mo), (1, .int b), (2, .int s0), (3, .int i)]) hC dX4_why_10 (by decide) rfl ?_
  refine zr_iload 0 hC dX4_why_12 rfl ?_
  refine zr_iconst (v := (-1 : Int32)) hC dX4_why_14 rfl ?_
  refine zr_icmp_ne (tgt := 20) hC dX4_why_15 (by decide) (fun c15 => ?_) (fun c15 => ?_)
  · obtain ⟨z, n, hz, hsz, hn, hln, hlen, -⟩ := rm_some hR (zl_lt hb_b hs_s0) c15
    refine zr_iload_n 4 hC dX4_why_20 rfl rfl ?_
    refine zr_iconst (v := (0 : Int32)) hC dX4_why_21 rfl ?_
    refine zr_aload_n 1 hC dX4_why_22 rfl rfl ?_
    refine zr_get (v := .ref m2) 0 1 hC iu_X4 rfl dX4_why_23 fl_X4_13 (by decide) rfl rfl ?_
    refine zr_iload 0 hC dX4_why_26 rfl ?_
    refine zr_iaj (f := (mx_ln x)) (j := z) 2 0 hC dX4_why_28 rfl rfl hz hsz (by decide) ?_
    refine zr_iconst (v := (1 : Int32)) hC dX4_why_29 rfl ?_
    refine zr_isub hC dX4_why_30 ?_
    refine zr_cSi hC cs_X4_in ml_X4_37 (c_X4_in (w := (mw_W mo m1 m2 m3 m4 m5 m6 m7 m8 m9 cI a x)) i (0 : Int32) (((mx_ln x) z) - (1 : Int32))) dX4_why_31 ⟨Nat.le_of_ble_eq_true rfl, Nat.le_of_ble_eq_true rfl⟩ ⟨Nat.le_of_ble_eq_true rfl, Nat.le_of_ble_eq_true rfl⟩ rfl rfl (Nat.le_of_ble_eq_true rfl) ?_
    rintro _ _ ⟨rfl, ⟨rfl, hi1⟩ | ⟨rfl, hi1⟩⟩
    · refine zr_if_eqF (tgt := 41) hC dX4_why_34 (by decide) (by decide) ?_
      refine zr_iconst (v := (0 : Int32)) hC dX4_why_37 rfl ?_
      refine zr_goto (tgt := 42) hC dX4_why_38 (by decide) ?_
      refine zr_iret hC hr hk dX4_why_42 (by decide) (by decide) ⟨_, rfl, ?_⟩
      rw [hln, zn_le (by omega)] at hi1
      exact ⟨by rw [zf_why_some hlen, if_pos hi1], rfl⟩
    · refine zr_if_eqT (tgt := 41) hC dX4_why_34 (by decide) (by decide) ?_
      refine zr_iconst (v := (3 : Int32)) hC dX4_why_41 rfl ?_
      refine zr_iret hC hr hk dX4_why_42 (by decide) (by decide) ⟨_, rfl, ?_⟩
      rw [hln, zn_le (by omega)] at hi1
      exact ⟨by rw [zf_why_some hlen, if_neg hi1], rfl⟩
  · refine zr_iconst (v := (2 : Int32)) hC dX4_why_18 rfl ?_
    refine zr_iret hC hr hk dX4_why_19 (by decide) (by decide) ⟨_, rfl, ?_⟩
    exact ⟨(zf_why_none (rm_none hR (zl_lt hb_b hs_s0) c15)).symm, rfl⟩
set_option maxRecDepth 100000 in
set_option maxHeartbeats 4000000 in
theorem c_X4_refused (hR : rm_Q a x) {b s0 : Int32} (i : Int32) (hb_b : zk_b b) (hs_s0 : zk_s s0) : zz_Mi l D (zt cI cII cF) yX4_refused cX4_refused 4 (some .int) 2 46 0 0 [.ref mo, .int b, .int s0, .int i] (mw_W mo m1 m2 m3 m4 m5 m6 m7 m8 m9 cI a x) (fun r w' => (zf_why (aa_st a) (zl b s0) i = 0 ∧ r = 0 ∧ w' = (mw_W mo m1 m2 m3 m4 m5 m6 m7 m8 m9 cI a x)) ∨ (¬ zf_why (aa_st a) (zl b s0) i = 0 ∧ r = zf_why (aa_st a) (zl b s0) i ∧ w' = (mw_W mo m1 m2 m3 m4 m5 m6 m7 m8 m9 cI (zf_cnt (zf_why (aa_st a) (zl b s0) i) a) x))) := by
  refine zz_mk (by decide) (Nat.le_of_ble_eq_true rfl) ?_
  intro p e s m below meth c A hC hr hk hnm
  have hC : zz_C p s m _ c A D (zt cI cII cF) 4 cX4_refused RX4 := hC
  refine zr_aload_n 0 hC dX4_refused_0 rfl rfl ?_
  refine zr_aload_n 0 hC dX4_refused_1 rfl rfl ?_
  refine zr_iload_n 1 hC dX4_refused_2 rfl rfl ?_
  refine zr_iload_n 2 hC dX4_refused_3 rfl rfl ?_
  refine zr_iload_n 3 hC dX4_refused_4 rfl rfl ?_
  refine zr_cVi 0 hC cv_X4_why ml_X4_53 (c_X4_why (a := a) (x := x) hR i hb_b hs_s0) dX4_refused_5 ⟨Nat.le_of_ble_eq_true rfl, Nat.le_of_ble_eq_true rfl⟩ ⟨Nat.le_of_ble_eq_true rfl, Nat.le_of_ble_eq_true rfl⟩ rfl rfl rfl rfl rfl (Nat.le_of_ble_eq_true rfl) ?_
  rintro _ _ ⟨rfl, rfl⟩
  refine zr_cVi 0 hC cv_X4_counted ml_X4_57 (c_X4_counted (a := a) (x := x) (zf_why (aa_st a) (zl b s0) i) (by rcases zf_why_or (aa_st a) (zl b s0) i with h | h | h <;> rw [h] <;> decide)) dX4_refused_8 ⟨Nat.le_of_ble_eq_true rfl, Nat.le_of_ble_eq_true rfl⟩ ⟨Nat.le_of_ble_eq_true rfl, Nat.le_of_ble_eq_true rfl⟩ rfl rfl rfl rfl rfl (Nat.le_of_ble_eq_true rfl) ?_
  rintro rr _ ⟨hrr, rfl⟩
  subst rr
  refine zr_iret hC hr hk dX4_refused_11 (by decide) (by decide) ⟨_, rfl, ?_⟩
  by_cases h0 : zf_why (aa_st a) (zl b s0) i = 0
  · exact Or.inl ⟨h0, h0, by rw [h0, zf_cnt0]⟩
  · exact Or.inr ⟨h0, rfl, rfl⟩
set_option maxRecDepth 100000 in
set_option maxHeartbeats 4000000 in
theorem c_X4_at (hR : rm_Q a x) {b s0 i : Int32} (hb_b : zk_b b) (hs_s0 : zk_s s0) (h0 : zf_why (aa_st a) (zl b s0) i = 0) : zz_Mi l D (zt cI cII cF) yX4_at cX4_at 4 (some .int) 0 0 0 0 [.ref mo, .int b, .int s0, .int i] (mw_W mo m1 m2 m3 m4 m5 m6 m7 m8 m9 cI a x) (fun r w' => r = zf_val (aa_st a) (zl b s0) i ∧ w' = (mw_W mo m1 m2 m3 m4 m5 m6 m7 m8 m9 cI a x)) := by
  refine zz_mk (by decide) (Nat.le_of_ble_eq_true rfl) ?_
  intro p e s m below meth c A hC hr hk hnm
  have hC : zz_C p s m _ c A D (zt cI cII cF) 4 cX4_at RX4 := hC
  obtain ⟨z, n, j, hz, hsz, hn, hln, hlen, hj, rfl, hval, hzk⟩ := rm_why0 hR (zl_lt hb_b hs_s0) h0
  refine zr_aload_n 0 hC dX4_at_0 rfl rfl ?_
  refine zr_get (v := .ref m3) 0 2 hC iu_X4 rfl dX4_at_1 fl_X4_16 (by decide) rfl rfl ?_
  refine zr_bipush (v := (25 : Int32)) hC dX4_at_4 rfl ?_
  refine zr_aload_n 0 hC dX4_at_6 rfl rfl ?_
  refine zr_get (v := .ref m1) 0 0 hC iu_X4 rfl dX4_at_7 fl_X4_7 (by decide) rfl rfl ?_
  refine zr_iconst (v := (4 : Int32)) hC dX4_at_10 rfl ?_
  refine zr_iload_n 1 hC dX4_at_11 rfl rfl ?_
  refine zr_imul hC dX4_at_12 ?_
  refine zr_iload_n 2 hC dX4_at_13 rfl rfl ?_
  refine zr_iadd hC dX4_at_14 ?_
  refine zr_iaj (f := (mx_sp x)) (j := zl b s0) 1 0 hC dX4_at_15 rfl rfl (zl_lt hb_b hs_s0) (zl_m hb_b hs_s0) (by decide) ?_
  refine zr_imul hC dX4_at_16 ?_
  refine zr_iload_n 3 hC dX4_at_17 rfl rfl ?_
  refine zr_iadd hC dX4_at_18 ?_
  refine zr_iaj (f := (mx_pl x)) (j := 25 * z + j) 3 0 hC dX4_at_19 rfl rfl (by omega) (by rw [hsz, show (25 : Int32) = nI 25 from rfl, pk_mul, nI_add]) (by decide) ?_
  refine zr_iret hC hr hk dX4_at_20 (by decide) (by decide) ⟨_, rfl, ?_⟩
  exact ⟨hval, rfl⟩
set_option maxRecDepth 100000 in
set_option maxHeartbeats 4000000 in
theorem c_X4_put (hR : rm_Q a x) {b s0 i : Int32} (v : Int32) (hb_b : zk_b b) (hs_s0 : zk_s s0) (h0 : zf_why (aa_st a) (zl b s0) i = 0) : zz_Mv l D (zt cI cII cF) yX4_put cX4_put 5 none 2 42 0 0 [.ref mo, .int b, .int s0, .int i, .int v] (mw_W mo m1 m2 m3 m4 m5 m6 m7 m8 m9 cI a x) (fun w' => ∃ p', w' = (mw_W mo m1 m2 m3 m4 m5 m6 m7 m8 m9 cI (zf_set a (zl b s0) i (zf_num s0 v)) (mk_pl x p')) ∧ rm_Q (zf_set a (zl b s0) i (zf_num s0 v)) (mk_pl x p')) := by
  refine zz_mk (by decide) (Nat.le_of_ble_eq_true rfl) ?_
  intro p e s m below meth c A hC hr hk hnm
  have hC : zz_C p s m _ c A D (zt cI cII cF) 5 cX4_put RX4 := hC
  obtain ⟨z, n, j, hz, hsz, hn, hln, hlen, hj, rfl, hval, hzk⟩ := rm_why0 hR (zl_lt hb_b hs_s0) h0
  refine zr_aload_n 0 hC dX4_put_0 rfl rfl ?_
  refine zr_get (v := .ref m3) 0 2 hC iu_X4 rfl dX4_put_1 fl_X4_16 (by decide) rfl rfl ?_
  refine zr_bipush (v := (25 : Int32)) hC dX4_put_4 rfl ?_
  refine zr_aload_n 0 hC dX4_put_6 rfl rfl ?_
  refine zr_get (v := .ref m1) 0 0 hC iu_X4 rfl dX4_put_7 fl_X4_7 (by decide) rfl rfl ?_
  refine zr_iconst (v := (4 : Int32)) hC dX4_put_10 rfl ?_
  refine zr_iload_n 1 hC dX4_put_11 rfl rfl ?_
  refine zr_imul hC dX4_put_12 ?_
  refine zr_iload_n 2 hC dX4_put_13 rfl rfl ?_
  refine zr_iadd hC dX4_put_14 ?_
  refine zr_iaj (f := (mx_sp x)) (j := zl b s0) 1 0 hC dX4_put_15 rfl rfl (zl_lt hb_b hs_s0) (zl_m hb_b hs_s0) (by decide) ?_
  refine zr_imul hC dX4_put_16 ?_
  refine zr_iload_n 3 hC dX4_put_17 rfl rfl ?_
  refine zr_iadd hC dX4_put_18 ?_
  refine zr_iload_n 2 hC dX4_put_19 rfl rfl ?_
  refine zr_iload 4 hC dX4_put_20 rfl ?_
  refine zr_cSi hC cs_X4_kept ml_X4_66 (c_X4_kept (w := (mw_W mo m1 m2 m3 m4 m5 m6 m7 m8 m9 cI a x)) s0 v) dX4_put_22 ⟨Nat.le_of_ble_eq_true rfl, Nat.le_of_ble_eq_true rfl⟩ ⟨Nat.le_of_ble_eq_true rfl, Nat.le_of_ble_eq_true rfl⟩ rfl rfl (Nat.le_of_ble_eq_true rfl) ?_
  rintro _ _ ⟨rfl, rfl⟩
  refine zr_iasj (f := (mx_pl x)) (j := 25 * z + j) (w' := (mw_W mo m1 m2 m3 m4 m5 m6 m7 m8 m9 cI a (mk_pl x (upd (mx_pl x) (25 * z + j) (zf_num s0 v))))) 3 0 hC dX4_put_25 rfl rfl (by omega) (by rw [hsz, show (25 : Int32) = nI 25 from rfl, pk_mul, nI_add]) (by decide) rfl ?_
  refine zr_aload_n 0 hC dX4_put_26 rfl rfl ?_
  refine zr_dup hC dX4_put_27 rfl ?_
  refine zr_get (v := .int (aa_se a)) 0 20 hC iu_X4 rfl dX4_put_28 fl_X4_70 (by decide) rfl rfl ?_
  refine zr_iconst (v := (1 : Int32)) hC dX4_put_31 rfl ?_
  refine zr_iadd hC dX4_put_32 ?_
  refine zr_put (w' := (mw_W mo m1 m2 m3 m4 m5 m6 m7 m8 m9 cI (as_se a ((aa_se a) + (1 : Int32))) (mk_pl x (upd (mx_pl x) (25 * z + j) (zf_num s0 v))))) 0 20 hC iu_X4 tyX4_ok nmX4 rfl dX4_put_33 fl_X4_70 (by decide) rfl rfl rfl rfl (Nat.le_of_ble_eq_true rfl) rfl ?_
  refine zr_vret hC hr hk dX4_put_36 (by decide) (by decide) ⟨rfl, ?_⟩
  exact ⟨_, rfl, rm_put hR (zl_lt hb_b hs_s0) hz hsz hn hln hj (zk_num v hb_b hs_s0)⟩
end ZB1
