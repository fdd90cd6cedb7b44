section ZA1
variable {l : Launch} {D : va_G} {cI cII cF : ClassId} {o rk sp pp fp mo m1 m2 m3 m4 m5 m6 m7 m8 m9 : Nat}
set_option maxRecDepth 100000 in
set_option maxHeartbeats 4000000 in
theorem c_X3_isBank {w : va_W} (b : Int32) : zz_Mi l D (zt cI cII cF) yX3_isBank cX3_isBank 1 (some .boolean) 0 0 0 0 [.int b] w (fun r w' => w' = w ∧ ((r = 1 ∧ zk_b b) ∨ (r = 0 ∧ ¬ zk_b b))) := by
  refine zz_mk (by decide) (Nat.le_of_ble_eq_true rfl) ?_
  intro p e s m below meth c A hC hr hk hnm
  have hC : zz_C p s m _ c A D (zt cI cII cF) 1 cX3_isBank RX3 := hC
  refine zr_iload_n 0 hC dX3_isBank_0 rfl rfl ?_
  refine zr_if_lt (tgt := 14) hC dX3_isBank_1 (by decide) (fun c1 => ?_) (fun c1 => ?_)
  · refine zr_iconst (v := (0 : Int32)) hC dX3_isBank_14 rfl ?_
    refine zr_zret hC hr hk dX3_isBank_15 rfl (by decide) (by decide) ⟨_, rfl, ?_⟩
    exact ⟨rfl, Or.inr ⟨rfl, fun h => absurd h.1 (Int32.not_le.mpr c1)⟩⟩
  · refine zr_iload_n 0 hC dX3_isBank_4 rfl rfl ?_
    refine zr_bipush (v := (6 : Int32)) hC dX3_isBank_5 rfl ?_
    refine zr_icmp_ge (tgt := 14) hC dX3_isBank_7 (by decide) (fun c7 => ?_) (fun c7 => ?_)
    · refine zr_iconst (v := (0 : Int32)) hC dX3_isBank_14 rfl ?_
      refine zr_zret hC hr hk dX3_isBank_15 rfl (by decide) (by decide) ⟨_, rfl, ?_⟩
      exact ⟨rfl, Or.inr ⟨rfl, fun h => absurd h.2 (Int32.not_lt.mpr c7)⟩⟩
    · refine zr_iconst (v := (1 : Int32)) hC dX3_isBank_10 rfl ?_
      refine zr_goto (tgt := 15) hC dX3_isBank_11 (by decide) ?_
      refine zr_zret hC hr hk dX3_isBank_15 rfl (by decide) (by decide) ⟨_, rfl, ?_⟩
      exact ⟨rfl, Or.inl ⟨rfl, Int32.not_lt.mp c1, Int32.not_le.mp c7⟩⟩
set_option maxRecDepth 100000 in
set_option maxHeartbeats 4000000 in
theorem c_X3_isStrip {w : va_W} (b : Int32) : zz_Mi l D (zt cI cII cF) yX3_isStrip cX3_isStrip 1 (some .boolean) 0 0 0 0 [.int b] w (fun r w' => w' = w ∧ ((r = 1 ∧ zk_s b) ∨ (r = 0 ∧ ¬ zk_s b))) := by
  refine zz_mk (by decide) (Nat.le_of_ble_eq_true rfl) ?_
  intro p e s m below meth c A hC hr hk hnm
  have hC : zz_C p s m _ c A D (zt cI cII cF) 1 cX3_isStrip RX3 := hC
  refine zr_iload_n 0 hC dX3_isStrip_0 rfl rfl ?_
  refine zr_if_lt (tgt := 13) hC dX3_isStrip_1 (by decide) (fun c1 => ?_) (fun c1 => ?_)
  · refine zr_iconst (v := (0 : Int32)) hC dX3_isStrip_13 rfl ?_
    refine zr_zret hC hr hk dX3_isStrip_14 rfl (by decide) (by decide) ⟨_, rfl, ?_⟩
    exact ⟨rfl, Or.inr ⟨rfl, fun h => absurd h.1 (Int32.not_le.mpr c1)⟩⟩
  · refine zr_iload_n 0 hC dX3_isStrip_4 rfl rfl ?_
    refine zr_iconst (v := (4 : Int32)) hC dX3_isStrip_5 rfl ?_
    refine zr_icmp_ge (tgt := 13) hC dX3_isStrip_6 (by decide) (fun c6 => ?_) (fun c6 => ?_)
    · refine zr_iconst (v := (0 : Int32)) hC dX3_isStrip_13 rfl ?_
      refine zr_zret hC hr hk dX3_isStrip_14 rfl (by decide) (by decide) ⟨_, rfl, ?_⟩
      exact ⟨rfl, Or.inr ⟨rfl, fun h => absurd h.2 (Int32.not_lt.mpr c6)⟩⟩
    · refine zr_iconst (v := (1 : Int32)) hC dX3_isStrip_9 rfl ?_
      refine zr_goto (tgt := 14) hC dX3_isStrip_10 (by decide) ?_
      refine zr_zret hC hr hk dX3_isStrip_14 rfl (by decide) (by decide) ⟨_, rfl, ?_⟩
      exact ⟨rfl, Or.inl ⟨rfl, Int32.not_lt.mp c1, Int32.not_le.mp c6⟩⟩
set_option maxRecDepth 100000 in
set_option maxHeartbeats 4000000 in
theorem c_X3_digitOf {w : va_W} (r0 : Int32) : zz_Mi l D (zt cI cII cF) yX3_digitOf cX3_digitOf 1 (some .int) 0 0 0 0 [.int r0] w (fun r w' => r = zf_dig r0 ∧ w' = w) := by
  refine zz_mk (by decide) (Nat.le_of_ble_eq_true rfl) ?_
  intro p e s m below meth c A hC hr hk hnm
  have hC : zz_C p s m _ c A D (zt cI cII cF) 1 cX3_digitOf RX3 := hC
  refine zr_iload_n 0 hC dX3_digitOf_0 rfl rfl ?_
  refine zr_iconst (v := (2 : Int32)) hC dX3_digitOf_1 rfl ?_
  refine zr_icmp_ne (tgt := 7) hC dX3_digitOf_2 (by decide) (fun c2 => ?_) (fun c2 => ?_)
  · refine zr_iload_n 0 hC dX3_digitOf_7 rfl rfl ?_
    refine zr_iconst (v := (3 : Int32)) hC dX3_digitOf_8 rfl ?_
    refine zr_icmp_ne (tgt := 16) hC dX3_digitOf_9 (by decide) (fun c9 => ?_) (fun c9 => ?_)
    · refine zr_iconst (v := (0 : Int32)) hC dX3_digitOf_16 rfl ?_
      refine zr_iret hC hr hk dX3_digitOf_17 (by decide) (by decide) ⟨_, rfl, ?_⟩
      exact ⟨by simp [zf_dig, c2, c9], rfl⟩
    · refine zr_iconst (v := (2 : Int32)) hC dX3_digitOf_12 rfl ?_
      refine zr_goto (tgt := 17) hC dX3_digitOf_13 (by decide) ?_
      refine zr_iret hC hr hk dX3_digitOf_17 (by decide) (by decide) ⟨_, rfl, ?_⟩
      exact ⟨by simp [zf_dig, c2, c9], rfl⟩
  · refine zr_iconst (v := (1 : Int32)) hC dX3_digitOf_5 rfl ?_
    refine zr_iret hC hr hk dX3_digitOf_6 (by decide) (by decide) ⟨_, rfl, ?_⟩
    exact ⟨by simp [zf_dig, c2], rfl⟩
set_option maxRecDepth 100000 in
set_option maxHeartbeats 4000000 in
theorem c_X3_asLevel {w : va_W} (v : Int32) : zz_Mi l D (zt cI cII cF) yX3_asLevel cX3_asLevel 1 (some .int) 1 21 0 0 [.int v] w (fun r w' => r = zf_lev v ∧ w' = w) := by
  refine zz_mk (by decide) (Nat.le_of_ble_eq_true rfl) ?_
  intro p e s m below meth c A hC hr hk hnm
  have hC : zz_C p s m _ c A D (zt cI cII cF) 1 cX3_asLevel RX3 := hC
  refine zr_ldc hC dX3_asLevel_0 kc_X3_187 ?_
  refine zr_ldc hC dX3_asLevel_2 kc_X3_188 ?_
  refine zr_iload_n 0 hC dX3_asLevel_4 rfl rfl ?_
  refine zr_min hC dX3_asLevel_5 ml_X3_189 ms_min in_Math mc_min (by decide) (Nat.le_of_ble_eq_true rfl) (by decide) (by decide) ?_
  refine zr_max hC dX3_asLevel_8 ml_X3_194 ms_max in_Math mc_max (by decide) (Nat.le_of_ble_eq_true rfl) (by decide) (by decide) ?_
  refine zr_iret hC hr hk dX3_asLevel_11 (by decide) (by decide) ⟨_, rfl, ?_⟩
  exact ⟨rfl, rfl⟩
set_option maxRecDepth 100000 in
set_option maxHeartbeats 4000000 in
theorem c_X3_asNumber {w : va_W} (s0 v : Int32) : zz_Mi l D (zt cI cII cF) yX3_asNumber cX3_asNumber 2 (some .int) 2 41 0 0 [.int s0, .int v] w (fun r w' => r = zf_num s0 v ∧ w' = w) := by
  refine zz_mk (by decide) (Nat.le_of_ble_eq_true rfl) ?_
  intro p e s m below meth c A hC hr hk hnm
  have hC : zz_C p s m _ c A D (zt cI cII cF) 2 cX3_asNumber RX3 := hC
  refine zr_iload_n 0 hC dX3_asNumber_0 rfl rfl ?_
  by_cases t1_0 : s0 = (0 : Int32)
  · refine zr_tableIn (tgt := 28) hC dX3_asNumber_1 (by rw [t1_0]; decide) (by rw [t1_0]; decide) (by rw [t1_0]; rfl) (by decide) ?_
    refine zr_iload_n 1 hC dX3_asNumber_28 rfl rfl ?_
    refine zr_ldc hC dX3_asNumber_29 kc_X3_186 ?_
    refine zr_iand hC dX3_asNumber_31 ?_
    refine zr_iret hC hr hk dX3_asNumber_32 (by decide) (by decide) ⟨_, rfl, ?_⟩
    exact ⟨by simp [zf_num, t1_0], rfl⟩
  by_cases t1_1 : s0 = (1 : Int32)
  · refine zr_tableIn (tgt := 33) hC dX3_asNumber_1 (by rw [t1_1]; decide) (by rw [t1_1]; decide) (by rw [t1_1]; rfl) (by decide) ?_
    refine zr_iload_n 1 hC dX3_asNumber_33 rfl rfl ?_
    refine zr_i2s hC dX3_asNumber_34 ?_
    refine zr_iret hC hr hk dX3_asNumber_35 (by decide) (by decide) ⟨_, rfl, ?_⟩
    exact ⟨by simp [zf_num, t1_0, t1_1], rfl⟩
  by_cases t1_2 : s0 = (2 : Int32)
  · refine zr_tableIn (tgt := 36) hC dX3_asNumber_1 (by rw [t1_2]; decide) (by rw [t1_2]; decide) (by rw [t1_2]; rfl) (by decide) ?_
    refine zr_iload_n 1 hC dX3_asNumber_36 rfl rfl ?_
    refine zr_cSi hC cs_X3_asLevel ml_X3_70 (c_X3_asLevel (w := w) v) dX3_asNumber_37 ⟨Nat.le_of_ble_eq_true rfl, Nat.le_of_ble_eq_true rfl⟩ ⟨Nat.le_of_ble_eq_true rfl, Nat.le_of_ble_eq_true rfl⟩ rfl rfl (Nat.le_of_ble_eq_true rfl) ?_
    rintro _ _ ⟨rfl, rfl⟩
    refine zr_iret hC hr hk dX3_asNumber_40 (by decide) (by decide) ⟨_, rfl, ?_⟩
    exact ⟨by simp [zf_num, t1_0, t1_1, t1_2], rfl⟩
  refine zr_tableOut (tgt := 41) hC dX3_asNumber_1 (by have e0 := lv_neT (a := 0) t1_0 rfl; have e1 := lv_neT (a := 1) t1_1 rfl; have e2 := lv_neT (a := 2) t1_2 rfl; omega) (by decide) ?_
  refine zr_iload_n 1 hC dX3_asNumber_41 rfl rfl ?_
  refine zr_iconst (v := (1 : Int32)) hC dX3_asNumber_42 rfl ?_
  refine zr_iand hC dX3_asNumber_43 ?_
  refine zr_iret hC hr hk dX3_asNumber_44 (by decide) (by decide) ⟨_, rfl, ?_⟩
  exact ⟨by simp [zf_num, t1_0, t1_1, t1_2], rfl⟩
set_option maxRecDepth 100000 in
set_option maxHeartbeats 4000000 in
theorem c_X0_nextLevel {w : va_W} {y0 q0 : Nat} {b0 p0 t0 s0 : Int32} (he : w[q0]? = some (y0, .inr (0, [.int b0, .int p0, .int t0, .int s0]))) (v : Int32) : zz_Mi l D (zt cI cII cF) yX0_nextLevel cX0_nextLevel 2 (some .int) 1 21 0 0 [.ref y0, .int v] w (fun r w' => r = zf_next t0 s0 v ∧ w' = w) := by
  refine zz_mk (by decide) (Nat.le_of_ble_eq_true rfl) ?_
  intro p e s m below meth c A hC hr hk hnm
  have hC : zz_C p s m _ c A D (zt cI cII cF) 2 cX0_nextLevel RX0 := hC
  refine zr_aload_n 0 hC dX0_nextLevel_0 rfl rfl ?_
  refine zr_get (v := .int t0) q0 2 hC iu_X0 rfl dX0_nextLevel_1 fl_X0_16 (by decide) he rfl ?_
  refine zr_iload_n 1 hC dX0_nextLevel_4 rfl rfl ?_
  refine zr_isub hC dX0_nextLevel_5 ?_
  refine zr_abs hC dX0_nextLevel_6 ml_X0_22 ms_abs in_Math mc_abs (by decide) (Nat.le_of_ble_eq_true rfl) (by decide) (by decide) ?_
  refine zr_aload_n 0 hC dX0_nextLevel_9 rfl rfl ?_
  refine zr_get (v := .int s0) q0 3 hC iu_X0 rfl dX0_nextLevel_10 fl_X0_19 (by decide) he rfl ?_
  refine zr_icmp_gt (tgt := 21) hC dX0_nextLevel_13 (by decide) (fun c13 => ?_) (fun c13 => ?_)
  · refine zr_iload_n 1 hC dX0_nextLevel_21 rfl rfl ?_
    refine zr_aload_n 0 hC dX0_nextLevel_22 rfl rfl ?_
    refine zr_get (v := .int t0) q0 2 hC iu_X0 rfl dX0_nextLevel_23 fl_X0_16 (by decide) he rfl ?_
    refine zr_icmp_ge (tgt := 38) hC dX0_nextLevel_26 (by decide) (fun c26 => ?_) (fun c26 => ?_)
    · refine zr_iload_n 1 hC dX0_nextLevel_38 rfl rfl ?_
      refine zr_aload_n 0 hC dX0_nextLevel_39 rfl rfl ?_
      refine zr_get (v := .int s0) q0 3 hC iu_X0 rfl dX0_nextLevel_40 fl_X0_19 (by decide) he rfl ?_
      refine zr_isub hC dX0_nextLevel_43 ?_
      refine zr_iret hC hr hk dX0_nextLevel_44 (by decide) (by decide) ⟨_, rfl, ?_⟩
      exact ⟨by unfold zf_next zf_abs; rw [if_neg (Int32.not_le.mpr c13), if_neg (Int32.not_lt.mpr c26)], rfl⟩
    · refine zr_iload_n 1 hC dX0_nextLevel_29 rfl rfl ?_
      refine zr_aload_n 0 hC dX0_nextLevel_30 rfl rfl ?_
      refine zr_get (v := .int s0) q0 3 hC iu_X0 rfl dX0_nextLevel_31 fl_X0_19 (by decide) he rfl ?_
      refine zr_iadd hC dX0_nextLevel_34 ?_
      refine zr_goto (tgt := 44) hC dX0_nextLevel_35 (by decide) ?_
      refine zr_iret hC hr hk dX0_nextLevel_44 (by decide) (by decide) ⟨_, rfl, ?_⟩
      exact ⟨by unfold zf_next zf_abs; rw [if_neg (Int32.not_le.mpr c13), if_pos (Int32.not_le.mp c26)], rfl⟩
  · refine zr_aload_n 0 hC dX0_nextLevel_16 rfl rfl ?_
    refine zr_get (v := .int t0) q0 2 hC iu_X0 rfl dX0_nextLevel_17 fl_X0_16 (by decide) he rfl ?_
    refine zr_iret hC hr hk dX0_nextLevel_20 (by decide) (by decide) ⟨_, rfl, ?_⟩
    exact ⟨by unfold zf_next zf_abs; rw [if_pos (Int32.not_lt.mp c13)], rfl⟩
end ZA1
