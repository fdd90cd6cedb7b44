section ZA2
variable {l : Launch} {D : va_G} {cI cII cF : ClassId} {o rk sp pp fp mo m1 m2 m3 m4 m5 m6 m7 m8 m9 : Nat}
variable {a : ax_A} {x : cx_X}
set_option maxRecDepth 100000 in
set_option maxHeartbeats 4000000 in
theorem c_X2_stripOf {b s0 : Int32} (hb : zk_b b) (hs : zk_s s0) : zz_Mr l D (zt cI cII cF) yX2_stripOf cX2_stripOf 3 (some (.array .int)) 0 0 0 0 [.ref rk, .int b, .int s0] (cw_W o rk sp pp fp cII cF a x) (fun r w' => r = cx_f x (zl b s0) ∧ w' = (cw_W o rk sp pp fp cII cF a x)) := by
  refine zz_mk (by decide) (Nat.le_of_ble_eq_true rfl) ?_
  intro p e s m below meth c A hC hr hk hnm
  have hC : zz_C p s m _ c A D (zt cI cII cF) 3 cX2_stripOf RX2 := hC
  refine zr_aload_n 0 hC dX2_stripOf_0 rfl rfl ?_
  refine zr_get (v := .ref sp) 1 0 hC iu_X2 rfl dX2_stripOf_1 fl_X2_11 (by decide) rfl rfl ?_
  refine zr_iload_n 1 hC dX2_stripOf_4 rfl rfl ?_
  refine zr_iconst (v := (4 : Int32)) hC dX2_stripOf_5 rfl ?_
  refine zr_imul hC dX2_stripOf_6 ?_
  refine zr_iload_n 2 hC dX2_stripOf_7 rfl rfl ?_
  refine zr_iadd hC dX2_stripOf_8 ?_
  refine zr_aaj (f := (cx_f x)) (j := zl b s0) 2 1 hC dX2_stripOf_9 rfl rfl rfl (zl_lt hb hs) (zl_c hb hs) (by decide) ?_
  refine zr_aret (v := ((cx_f x) (zl b s0))) hC hr hk dX2_stripOf_10 (by decide) (by decide) ⟨_, rfl, ?_⟩
  exact ⟨rfl, rfl⟩
set_option maxRecDepth 100000 in
set_option maxHeartbeats 4000000 in
theorem c_X2_replaceN {b s0 : Int32} (hb : zk_b b) (hs : zk_s s0) : zz_Mv l D (zt cI cII cF) yX2_replace cX2_replace 4 none 0 0 0 0 [.ref rk, .int b, .int s0, .null] (cw_W o rk sp pp fp cII cF a x) (fun w' => w' = (cw_W o rk sp pp fp cII cF a (ck_f x (va_up (cx_f x) (zl b s0) none)))) := by
  refine zz_mk (by decide) (Nat.le_of_ble_eq_true rfl) ?_
  intro p e s m below meth c A hC hr hk hnm
  have hC : zz_C p s m _ c A D (zt cI cII cF) 4 cX2_replace RX2 := hC
  refine zr_aload_n 0 hC dX2_replace_0 rfl rfl ?_
  refine zr_get (v := .ref sp) 1 0 hC iu_X2 rfl dX2_replace_1 fl_X2_11 (by decide) rfl rfl ?_
  refine zr_iload_n 1 hC dX2_replace_4 rfl rfl ?_
  refine zr_iconst (v := (4 : Int32)) hC dX2_replace_5 rfl ?_
  refine zr_imul hC dX2_replace_6 ?_
  refine zr_iload_n 2 hC dX2_replace_7 rfl rfl ?_
  refine zr_iadd hC dX2_replace_8 ?_
  refine zr_aload_nN 3 hC dX2_replace_9 rfl rfl ?_
  refine zr_asjN (j := zl b s0) (w' := (cw_W o rk sp pp fp cII cF a (ck_f x (va_up (cx_f x) (zl b s0) none)))) 2 1 hC dX2_replace_10 rfl rfl (zl_lt hb hs) (zl_c hb hs) (by decide) rfl ?_
  refine zr_vret hC hr hk dX2_replace_11 (by decide) (by decide) ⟨rfl, ?_⟩
  exact rfl
set_option maxRecDepth 100000 in
set_option maxHeartbeats 4000000 in
theorem c_X2_replaceA {b s0 : Int32} {q n : Nat} {z : Nat → Int32} (hq : q ∈ cx_L x) (he : cx_ent x q = ze_i cI n z) (hb : zk_b b) (hs : zk_s s0) : zz_Mv l D (zt cI cII cF) yX2_replace cX2_replace 4 none 0 0 0 0 [.ref rk, .int b, .int s0, .ref q] (cw_W o rk sp pp fp cII cF a x) (fun w' => w' = (cw_W o rk sp pp fp cII cF a (ck_f x (va_up (cx_f x) (zl b s0) (some q))))) := by
  refine zz_mk (by decide) (Nat.le_of_ble_eq_true rfl) ?_
  intro p e s m below meth c A hC hr hk hnm
  have hC : zz_C p s m _ c A D (zt cI cII cF) 4 cX2_replace RX2 := hC
  obtain ⟨k0, hk0⟩ := cw_get (o := o) (rk := rk) (sp := sp) (pp := pp) (fp := fp) (cII := cII) (cF := cF) (a := a) hq he
  refine zr_aload_n 0 hC dX2_replace_0 rfl rfl ?_
  refine zr_get (v := .ref sp) 1 0 hC iu_X2 rfl dX2_replace_1 fl_X2_11 (by decide) rfl rfl ?_
  refine zr_iload_n 1 hC dX2_replace_4 rfl rfl ?_
  refine zr_iconst (v := (4 : Int32)) hC dX2_replace_5 rfl ?_
  refine zr_imul hC dX2_replace_6 ?_
  refine zr_iload_n 2 hC dX2_replace_7 rfl rfl ?_
  refine zr_iadd hC dX2_replace_8 ?_
  refine zr_aload_n 3 hC dX2_replace_9 rfl rfl ?_
  refine zr_asjA (j := zl b s0) (w' := (cw_W o rk sp pp fp cII cF a (ck_f x (va_up (cx_f x) (zl b s0) (some q))))) 2 1 0 k0 hC dX2_replace_10 rfl rfl hk0 rfl (zl_lt hb hs) (zl_c hb hs) (by decide) rfl ?_
  refine zr_vret hC hr hk dX2_replace_11 (by decide) (by decide) ⟨rfl, ?_⟩
  exact rfl
set_option maxRecDepth 100000 in
set_option maxHeartbeats 4000000 in
theorem c_X2_refusalAt (hR : rc_Q cI cII a x) {b s0 : Int32} (i : Int32) (hb : zk_b b) (hs : zk_s s0) : zz_Mi l D (zt cI cII cF) yX2_refusalAt cX2_refusalAt 5 (some .int) 1 22 0 0 [.ref rk, .int b, .int s0, .int i] (cw_W o rk sp pp fp cII cF a x) (fun r w' => r = zf_why (aa_st a) (zl b s0) i ∧ w' = (cw_W o rk sp pp fp cII cF a x)) := by
  refine zz_mk (by decide) (Nat.le_of_ble_eq_true rfl) ?_
  intro p e s m below meth c A hC hr hk hnm
  have hC : zz_C p s m _ c A D (zt cI cII cF) 5 cX2_refusalAt RX2 := hC
  refine zr_aload_n 0 hC dX2_refusalAt_0 rfl rfl ?_
  refine zr_iload_n 1 hC dX2_refusalAt_1 rfl rfl ?_
  refine zr_iload_n 2 hC dX2_refusalAt_2 rfl rfl ?_
  refine zr_cVr 1 hC cv_X2_stripOf ml_X2_17 (c_X2_stripOf (a := a) (x := x) hb hs) dX2_refusalAt_3 ⟨Nat.le_of_ble_eq_true rfl, Nat.le_of_ble_eq_true rfl⟩ ⟨Nat.le_of_ble_eq_true rfl, Nat.le_of_ble_eq_true rfl⟩ rfl rfl rfl rfl rfl (Nat.le_of_ble_eq_true rfl) ?_
  rintro r0 _ ⟨hr0, rfl⟩
  refine zr_rf (fun hn => ?_) (fun q hn => ?_)
  · subst hn
    refine zr_astoreN (lv' := [(4, .null), (0, .ref rk), (1, .int b), (2, .int s0), (3, .int i)]) hC dX2_refusalAt_6 (by decide) rfl ?_
    refine zr_aloadN 0 hC dX2_refusalAt_8 rfl ?_
    refine zr_ifnonnullN hC dX2_refusalAt_10 ?_
    refine zr_iconst (v := (2 : Int32)) hC dX2_refusalAt_13 rfl ?_
    refine zr_iret hC hr hk dX2_refusalAt_14 (by decide) (by decide) ⟨_, rfl, ?_⟩
    exact ⟨(zf_why_none (rc_none hR (zl_lt hb hs) hr0.symm)).symm, rfl⟩
  · subst hn
    obtain ⟨n, z, hL, he, h24, hlen⟩ := rc_len hR (zl_lt hb hs) hr0.symm
    obtain ⟨k0, hk0⟩ := cw_get (o := o) (rk := rk) (sp := sp) (pp := pp) (fp := fp) (cII := cII) (cF := cF) (a := a) hL he
    refine zr_astore (lv' := [(4, .ref q), (0, .ref rk), (1, .int b), (2, .int s0), (3, .int i)]) hC dX2_refusalAt_6 (by decide) rfl ?_
    refine zr_aload 0 hC dX2_refusalAt_8 rfl ?_
    refine zr_ifnonnull (tgt := 15) hC dX2_refusalAt_10 (by decide) ?_
    refine zr_iload_n 4 hC dX2_refusalAt_15 rfl rfl ?_
    refine zr_if_lt (tgt := 30) hC dX2_refusalAt_16 (by decide) (fun c16 => ?_) (fun c16 => ?_)
    · refine zr_iconst (v := (3 : Int32)) hC dX2_refusalAt_30 rfl ?_
      refine zr_iret hC hr hk dX2_refusalAt_31 (by decide) (by decide) ⟨_, rfl, ?_⟩
      exact ⟨by rw [zf_why_some hlen, if_neg (fun h => absurd h.1 (Int32.not_le.mpr c16))], rfl⟩
    · refine zr_iload_n 4 hC dX2_refusalAt_19 rfl rfl ?_
      refine zr_aload 0 hC dX2_refusalAt_20 rfl ?_
      refine zr_alen k0 0 hC dX2_refusalAt_22 hk0 rfl ?_
      refine zr_icmp_ge (tgt := 30) hC dX2_refusalAt_23 (by decide) (fun c23 => ?_) (fun c23 => ?_)
      · refine zr_iconst (v := (3 : Int32)) hC dX2_refusalAt_30 rfl ?_
        refine zr_iret hC hr hk dX2_refusalAt_31 (by decide) (by decide) ⟨_, rfl, ?_⟩
        exact ⟨by rw [zf_why_some hlen, if_neg (fun h => absurd h.2 (Int32.not_lt.mpr c23))], rfl⟩
      · refine zr_iconst (v := (0 : Int32)) hC dX2_refusalAt_26 rfl ?_
        refine zr_goto (tgt := 31) hC dX2_refusalAt_27 (by decide) ?_
        refine zr_iret hC hr hk dX2_refusalAt_31 (by decide) (by decide) ⟨_, rfl, ?_⟩
        exact ⟨by rw [zf_why_some hlen, if_pos ⟨Int32.not_lt.mp c16, Int32.not_le.mp c23⟩], rfl⟩
set_option maxRecDepth 100000 in
set_option maxHeartbeats 4000000 in
theorem c_X2_numberAt (hR : rc_Q cI cII a x) {b s0 i : Int32} (hb : zk_b b) (hs : zk_s s0) (h0 : zf_why (aa_st a) (zl b s0) i = 0) : zz_Mi l D (zt cI cII cF) yX2_numberAt cX2_numberAt 4 (some .int) 1 22 0 0 [.ref rk, .int b, .int s0, .int i] (cw_W o rk sp pp fp cII cF a x) (fun r w' => r = zf_val (aa_st a) (zl b s0) i ∧ w' = (cw_W o rk sp pp fp cII cF a x)) := by
  refine zz_mk (by decide) (Nat.le_of_ble_eq_true rfl) ?_
  intro p e s m below meth c A hC hr hk hnm
  have hC : zz_C p s m _ c A D (zt cI cII cF) 4 cX2_numberAt RX2 := hC
  obtain ⟨q, n, z, j, hf, hL, he, h24, hlen, hj, rfl, hz⟩ := rc_why0 hR (zl_lt hb hs) h0
  obtain ⟨k0, hk0⟩ := cw_get (o := o) (rk := rk) (sp := sp) (pp := pp) (fp := fp) (cII := cII) (cF := cF) (a := a) hL he
  refine zr_aload_n 0 hC dX2_numberAt_0 rfl rfl ?_
  refine zr_iload_n 1 hC dX2_numberAt_1 rfl rfl ?_
  refine zr_iload_n 2 hC dX2_numberAt_2 rfl rfl ?_
  refine zr_cVr 1 hC cv_X2_stripOf ml_X2_17 (c_X2_stripOf (a := a) (x := x) hb hs) dX2_numberAt_3 ⟨Nat.le_of_ble_eq_true rfl, Nat.le_of_ble_eq_true rfl⟩ ⟨Nat.le_of_ble_eq_true rfl, Nat.le_of_ble_eq_true rfl⟩ rfl rfl rfl rfl rfl (Nat.le_of_ble_eq_true rfl) ?_
  rintro r0 _ ⟨hr0, rfl⟩
  obtain rfl : r0 = some q := hr0.trans hf
  refine zr_iload_n 3 hC dX2_numberAt_6 rfl rfl ?_
  refine zr_iaj (j := j) k0 0 hC dX2_numberAt_7 hk0 rfl hj rfl (by omega) ?_
  refine zr_iret hC hr hk dX2_numberAt_8 (by decide) (by decide) ⟨_, rfl, ?_⟩
  exact ⟨hz, rfl⟩
set_option maxRecDepth 100000 in
set_option maxHeartbeats 4000000 in
theorem c_X2_setAt (hR : rc_Q cI cII a x) {b s0 i : Int32} (v : Int32) (hb : zk_b b) (hs : zk_s s0) (h0 : zf_why (aa_st a) (zl b s0) i = 0) : zz_Mv l D (zt cI cII cF) yX2_setAt cX2_setAt 5 none 1 22 0 0 [.ref rk, .int b, .int s0, .int i, .int v] (cw_W o rk sp pp fp cII cF a x) (fun w' => ∃ x', cx_fnd x' = cx_fnd x ∧ cx_K x x' ∧ w' = (cw_W o rk sp pp fp cII cF (zf_set a (zl b s0) i v) x') ∧ rc_Q cI cII (zf_set a (zl b s0) i v) x') := by
  refine zz_mk (by decide) (Nat.le_of_ble_eq_true rfl) ?_
  intro p e s m below meth c A hC hr hk hnm
  have hC : zz_C p s m _ c A D (zt cI cII cF) 5 cX2_setAt RX2 := hC
  obtain ⟨q, n, z, j, hf, hL, he, h24, hlen, hj, rfl, hz⟩ := rc_why0 hR (zl_lt hb hs) h0
  obtain ⟨k0, hk0⟩ := cw_get (o := o) (rk := rk) (sp := sp) (pp := pp) (fp := fp) (cII := cII) (cF := cF) (a := a) hL he
  refine zr_aload_n 0 hC dX2_setAt_0 rfl rfl ?_
  refine zr_iload_n 1 hC dX2_setAt_1 rfl rfl ?_
  refine zr_iload_n 2 hC dX2_setAt_2 rfl rfl ?_
  refine zr_cVr 1 hC cv_X2_stripOf ml_X2_17 (c_X2_stripOf (a := a) (x := x) hb hs) dX2_setAt_3 ⟨Nat.le_of_ble_eq_true rfl, Nat.le_of_ble_eq_true rfl⟩ ⟨Nat.le_of_ble_eq_true rfl, Nat.le_of_ble_eq_true rfl⟩ rfl rfl rfl rfl rfl (Nat.le_of_ble_eq_true rfl) ?_
  rintro r0 _ ⟨hr0, rfl⟩
  obtain rfl : r0 = some q := hr0.trans hf
  refine zr_iload_n 3 hC dX2_setAt_6 rfl rfl ?_
  refine zr_iload 4 hC dX2_setAt_7 rfl ?_
  refine zr_apart (fun hD => ?_)
  refine zr_iasj (j := j) (w' := (cw_W o rk sp pp fp cII cF a (ck_ent x (va_up (cx_ent x) q (ze_i cI n (upd z j v)))))) k0 0 hC dX2_setAt_9 hk0 rfl hj rfl (by omega) (cw_set hL he hk0 hD) ?_
  refine zr_aload_n 0 hC dX2_setAt_10 rfl rfl ?_
  refine zr_dup hC dX2_setAt_11 rfl ?_
  refine zr_get (v := .int (aa_se a)) 1 1 hC iu_X2 rfl dX2_setAt_12 fl_X2_21 (by decide) rfl rfl ?_
  refine zr_iconst (v := (1 : Int32)) hC dX2_setAt_15 rfl ?_
  refine zr_iadd hC dX2_setAt_16 ?_
  refine zr_put (w' := (cw_W o rk sp pp fp cII cF (as_se a ((aa_se a) + (1 : Int32))) (ck_ent x (va_up (cx_ent x) q (ze_i cI n (upd z j v)))))) 1 1 hC iu_X2 tyX2_ok nmX2 rfl dX2_setAt_17 fl_X2_21 (by decide) rfl rfl rfl rfl (Nat.le_of_ble_eq_true rfl) rfl ?_
  refine zr_vret hC hr hk dX2_setAt_20 (by decide) (by decide) ⟨rfl, ?_⟩
  exact ⟨ck_ent x (va_up (cx_ent x) q (ze_i cI n (upd z j v))), rfl, cx_K.put he, rfl, rc_put hR (zl_lt hb hs) hf he hj h24 v⟩
set_option maxRecDepth 100000 in
set_option maxHeartbeats 4000000 in
theorem c_X2_placesSet  : zz_Mi l D (zt cI cII cF) yX2_placesSet cX2_placesSet 1 (some .int) 0 0 0 0 [.ref rk] (cw_W o rk sp pp fp cII cF a x) (fun r w' => r = aa_se a ∧ w' = (cw_W o rk sp pp fp cII cF a x)) := by
  refine zz_mk (by decide) (Nat.le_of_ble_eq_true rfl) ?_
  intro p e s m below meth c A hC hr hk hnm
  have hC : zz_C p s m _ c A D (zt cI cII cF) 1 cX2_placesSet RX2 := hC
  refine zr_aload_n 0 hC dX2_placesSet_0 rfl rfl ?_
  refine zr_get (v := .int (aa_se a)) 1 1 hC iu_X2 rfl dX2_placesSet_1 fl_X2_21 (by decide) rfl rfl ?_
  refine zr_iret hC hr hk dX2_placesSet_4 (by decide) (by decide) ⟨_, rfl, ?_⟩
  exact ⟨rfl, rfl⟩
set_option maxRecDepth 100000 in
set_option maxHeartbeats 4000000 in
theorem c_X1_isThere (hR : rc_Q cI cII a x) : zz_Mi l D (zt cI cII cF) yX1_isThere cX1_isThere 1 (some .boolean) 0 0 0 0 [.ref pp] (cw_W o rk sp pp fp cII cF a x) (fun r w' => w' = (cw_W o rk sp pp fp cII cF a x) ∧ ((r = 1 ∧ ¬ (aa_sh a).1 = none) ∨ (r = 0 ∧ (aa_sh a).1 = none))) := by
  refine zz_mk (by decide) (Nat.le_of_ble_eq_true rfl) ?_
  intro p e s m below meth c A hC hr hk hnm
  have hC : zz_C p s m _ c A D (zt cI cII cF) 1 cX1_isThere RX1 := hC
  refine zr_aload_n 0 hC dX1_isThere_0 rfl rfl ?_
  refine zr_get (v := va_rf (cx_rw x)) 3 0 hC iu_X1 rfl dX1_isThere_1 fl_X1_9 (by decide) rfl rfl ?_
  refine zr_rf (fun hq2 => ?_) (fun q1 hq2 => ?_)
  · refine zr_ifnullN (tgt := 11) hC dX1_isThere_4 (by decide) ?_
    refine zr_iconst (v := (0 : Int32)) hC dX1_isThere_11 rfl ?_
    refine zr_zret hC hr hk dX1_isThere_12 rfl (by decide) (by decide) ⟨_, rfl, ?_⟩
    exact ⟨rfl, Or.inr ⟨rfl, hR.2.1.mp hq2⟩⟩
  · refine zr_ifnull hC dX1_isThere_4 ?_
    refine zr_iconst (v := (1 : Int32)) hC dX1_isThere_7 rfl ?_
    refine zr_goto (tgt := 12) hC dX1_isThere_8 (by decide) ?_
    refine zr_zret hC hr hk dX1_isThere_12 rfl (by decide) (by decide) ⟨_, rfl, ?_⟩
    exact ⟨rfl, Or.inl ⟨rfl, fun h => by have := hR.2.1.mpr h; rw [hq2] at this; cases this⟩⟩
set_option maxRecDepth 100000 in
set_option maxHeartbeats 4000000 in
theorem c_X1_cellsWritten  : zz_Mi l D (zt cI cII cF) yX1_cellsWritten cX1_cellsWritten 1 (some .int) 0 0 0 0 [.ref pp] (cw_W o rk sp pp fp cII cF a x) (fun r w' => r = aa_wr a ∧ w' = (cw_W o rk sp pp fp cII cF a x)) := by
  refine zz_mk (by decide) (Nat.le_of_ble_eq_true rfl) ?_
  intro p e s m below meth c A hC hr hk hnm
  have hC : zz_C p s m _ c A D (zt cI cII cF) 1 cX1_cellsWritten RX1 := hC
  refine zr_aload_n 0 hC dX1_cellsWritten_0 rfl rfl ?_
  refine zr_get (v := .int (aa_wr a)) 3 1 hC iu_X1 rfl dX1_cellsWritten_1 fl_X1_23 (by decide) rfl rfl ?_
  refine zr_iret hC hr hk dX1_cellsWritten_4 (by decide) (by decide) ⟨_, rfl, ?_⟩
  exact ⟨rfl, rfl⟩
set_option maxRecDepth 100000 in
set_option maxHeartbeats 4000000 in
theorem c_X1_replace {q : Nat} : zz_Mv l D (zt cI cII cF) yX1_replace cX1_replace 2 none 0 0 0 0 [.ref pp, .ref q] (cw_W o rk sp pp fp cII cF a x) (fun w' => w' = (cw_W o rk sp pp fp cII cF a (ck_rw x (some q)))) := by
  refine zz_mk (by decide) (Nat.le_of_ble_eq_true rfl) ?_
  intro p e s m below meth c A hC hr hk hnm
  have hC : zz_C p s m _ c A D (zt cI cII cF) 2 cX1_replace RX1 := hC
  refine zr_aload_n 0 hC dX1_replace_0 rfl rfl ?_
  refine zr_aload_n 1 hC dX1_replace_1 rfl rfl ?_
  refine zr_put (w' := (cw_W o rk sp pp fp cII cF a (ck_rw x (some q)))) 3 0 hC iu_X1 tyX1_ok nmX1 rfl dX1_replace_2 fl_X1_9 (by decide) rfl rfl rfl rfl (Nat.le_of_ble_eq_true rfl) rfl ?_
  refine zr_vret hC hr hk dX1_replace_5 (by decide) (by decide) ⟨rfl, ?_⟩
  exact rfl
set_option maxRecDepth 100000 in
set_option maxHeartbeats 4000000 in
theorem c_X3_leave (r0 v : Int32) : zz_Mi l D (zt cI cII cF) yX3_leave cX3_leave 3 (some .int) 0 0 0 0 [.ref o, .int r0, .int v] (cw_W o rk sp pp fp cII cF a x) (fun r w' => r = v ∧ w' = (cw_W o rk sp pp fp cII cF (as_sta a r0) x)) := by
  refine zz_mk (by decide) (Nat.le_of_ble_eq_true rfl) ?_
  intro p e s m below meth c A hC hr hk hnm
  have hC : zz_C p s m _ c A D (zt cI cII cF) 3 cX3_leave RX3 := hC
  refine zr_aload_n 0 hC dX3_leave_0 rfl rfl ?_
  refine zr_iload_n 1 hC dX3_leave_1 rfl rfl ?_
  refine zr_put (w' := (cw_W o rk sp pp fp cII cF (as_sta a r0) x)) 0 10 hC iu_X3 tyX3_ok nmX3 rfl dX3_leave_2 fl_X3_122 (by decide) rfl rfl rfl rfl (Nat.le_of_ble_eq_true rfl) rfl ?_
  refine zr_iload_n 2 hC dX3_leave_5 rfl rfl ?_
  refine zr_iret hC hr hk dX3_leave_6 (by decide) (by decide) ⟨_, rfl, ?_⟩
  exact ⟨rfl, rfl⟩
set_option maxRecDepth 100000 in
set_option maxHeartbeats 4000000 in
theorem c_X3_counted (r0 : Int32) : zz_Mi l D (zt cI cII cF) yX3_counted cX3_counted 2 (some .int) 0 0 0 0 [.ref o, .int r0] (cw_W o rk sp pp fp cII cF a x) (fun r w' => r = r0 ∧ w' = (cw_W o rk sp pp fp cII cF (zf_cnt r0 a) x)) := by
  refine zz_mk (by decide) (Nat.le_of_ble_eq_true rfl) ?_
  intro p e s m below meth c A hC hr hk hnm
  have hC : zz_C p s m _ c A D (zt cI cII cF) 2 cX3_counted RX3 := hC
  refine zr_iload_n 1 hC dX3_counted_0 rfl rfl ?_
  refine zr_iconst (v := (2 : Int32)) hC dX3_counted_1 rfl ?_
  refine zr_icmp_ne (tgt := 18) hC dX3_counted_2 (by decide) (fun c2 => ?_) (fun c2 => ?_)
  · refine zr_iload_n 1 hC dX3_counted_18 rfl rfl ?_
    refine zr_iconst (v := (3 : Int32)) hC dX3_counted_19 rfl ?_
    refine zr_icmp_ne (tgt := 36) hC dX3_counted_20 (by decide) (fun c20 => ?_) (fun c20 => ?_)
    · refine zr_iload_n 1 hC dX3_counted_36 rfl rfl ?_
      refine zr_iconst (v := (4 : Int32)) hC dX3_counted_37 rfl ?_
      refine zr_icmp_ne (tgt := 51) hC dX3_counted_38 (by decide) (fun c38 => ?_) (fun c38 => ?_)
      · refine zr_iload_n 1 hC dX3_counted_51 rfl rfl ?_
        refine zr_iret hC hr hk dX3_counted_52 (by decide) (by decide) ⟨_, rfl, ?_⟩
        exact ⟨rfl, by simp [zf_cnt, c2, c20, c38]⟩
      · refine zr_aload_n 0 hC dX3_counted_41 rfl rfl ?_
        refine zr_dup hC dX3_counted_42 rfl ?_
        refine zr_get (v := .int (aa_ne a)) 0 9 hC iu_X3 rfl dX3_counted_43 fl_X3_131 (by decide) rfl rfl ?_
        refine zr_iconst (v := (1 : Int32)) hC dX3_counted_46 rfl ?_
        refine zr_iadd hC dX3_counted_47 ?_
        refine zr_put (w' := (cw_W o rk sp pp fp cII cF (as_ne a ((aa_ne a) + (1 : Int32))) x)) 0 9 hC iu_X3 tyX3_ok nmX3 rfl dX3_counted_48 fl_X3_131 (by decide) rfl rfl rfl rfl (Nat.le_of_ble_eq_true rfl) rfl ?_
        refine zr_iload_n 1 hC dX3_counted_51 rfl rfl ?_
        refine zr_iret hC hr hk dX3_counted_52 (by decide) (by decide) ⟨_, rfl, ?_⟩
        exact ⟨rfl, by simp [zf_cnt, c2, c20, c38]⟩
    · refine zr_aload_n 0 hC dX3_counted_23 rfl rfl ?_
      refine zr_dup hC dX3_counted_24 rfl ?_
      refine zr_get (v := .int (aa_ou a)) 0 8 hC iu_X3 rfl dX3_counted_25 fl_X3_128 (by decide) rfl rfl ?_
      refine zr_iconst (v := (1 : Int32)) hC dX3_counted_28 rfl ?_
      refine zr_iadd hC dX3_counted_29 ?_
      refine zr_put (w' := (cw_W o rk sp pp fp cII cF (as_ou a ((aa_ou a) + (1 : Int32))) x)) 0 8 hC iu_X3 tyX3_ok nmX3 rfl dX3_counted_30 fl_X3_128 (by decide) rfl rfl rfl rfl (Nat.le_of_ble_eq_true rfl) rfl ?_
      refine zr_goto (tgt := 51) hC dX3_counted_33 (by decide) ?_
      refine zr_iload_n 1 hC dX3_counted_51 rfl rfl ?_
      refine zr_iret hC hr hk dX3_counted_52 (by decide) (by decide) ⟨_, rfl, ?_⟩
      exact ⟨rfl, by simp [zf_cnt, c2, c20]⟩
  · refine zr_aload_n 0 hC dX3_counted_5 rfl rfl ?_
    refine zr_dup hC dX3_counted_6 rfl ?_
    refine zr_get (v := .int (aa_mi a)) 0 7 hC iu_X3 rfl dX3_counted_7 fl_X3_125 (by decide) rfl rfl ?_
    refine zr_iconst (v := (1 : Int32)) hC dX3_counted_10 rfl ?_
    refine zr_iadd hC dX3_counted_11 ?_
    refine zr_put (w' := (cw_W o rk sp pp fp cII cF (as_mi a ((aa_mi a) + (1 : Int32))) x)) 0 7 hC iu_X3 tyX3_ok nmX3 rfl dX3_counted_12 fl_X3_125 (by decide) rfl rfl rfl rfl (Nat.le_of_ble_eq_true rfl) rfl ?_
    refine zr_goto (tgt := 51) hC dX3_counted_15 (by decide) ?_
    refine zr_iload_n 1 hC dX3_counted_51 rfl rfl ?_
    refine zr_iret hC hr hk dX3_counted_52 (by decide) (by decide) ⟨_, rfl, ?_⟩
    exact ⟨rfl, by simp [zf_cnt, c2]⟩
set_option maxRecDepth 100000 in
set_option maxHeartbeats 4000000 in
theorem c_X3_leaveFound (r0 : Int32) : zz_Mi l D (zt cI cII cF) yX3_leaveFound cX3_leaveFound 2 (some .int) 1 22 0 0 [.ref o, .int r0] (cw_W o rk sp pp fp cII cF a x) (fun r w' => r = (if r0 = 0 then cx_fnd x else 0) ∧ w' = (cw_W o rk sp pp fp cII cF (as_sta a r0) x)) := by
  refine zz_mk (by decide) (Nat.le_of_ble_eq_true rfl) ?_
  intro p e s m below meth c A hC hr hk hnm
  have hC : zz_C p s m _ c A D (zt cI cII cF) 2 cX3_leaveFound RX3 := hC
  refine zr_aload_n 0 hC dX3_leaveFound_0 rfl rfl ?_
  refine zr_iload_n 1 hC dX3_leaveFound_1 rfl rfl ?_
  refine zr_iload_n 1 hC dX3_leaveFound_2 rfl rfl ?_
  refine zr_if_ne (tgt := 13) hC dX3_leaveFound_3 (by decide) (fun c3 => ?_) (fun c3 => ?_)
  · refine zr_iconst (v := (0 : Int32)) hC dX3_leaveFound_13 rfl ?_
    refine zr_cVi 0 hC cv_X3_leave ml_X3_36 (c_X3_leave (a := a) (x := x) r0 (0 : Int32)) dX3_leaveFound_14 ⟨Nat.le_of_ble_eq_true rfl, Nat.le_of_ble_eq_true rfl⟩ ⟨Nat.le_of_ble_eq_true rfl, Nat.le_of_ble_eq_true rfl⟩ rfl rfl rfl rfl rfl (Nat.le_of_ble_eq_true rfl) ?_
    rintro rr _ ⟨hrr, rfl⟩
    subst rr
    refine zr_iret hC hr hk dX3_leaveFound_17 (by decide) (by decide) ⟨_, rfl, ?_⟩
    exact ⟨by simp [c3], rfl⟩
  · refine zr_aload_n 0 hC dX3_leaveFound_6 rfl rfl ?_
    refine zr_get (v := .int (cx_fnd x)) 0 11 hC iu_X3 rfl dX3_leaveFound_7 fl_X3_66 (by decide) rfl rfl ?_
    refine zr_goto (tgt := 14) hC dX3_leaveFound_10 (by decide) ?_
    refine zr_cVi 0 hC cv_X3_leave ml_X3_36 (c_X3_leave (a := a) (x := x) r0 (cx_fnd x)) dX3_leaveFound_14 ⟨Nat.le_of_ble_eq_true rfl, Nat.le_of_ble_eq_true rfl⟩ ⟨Nat.le_of_ble_eq_true rfl, Nat.le_of_ble_eq_true rfl⟩ rfl rfl rfl rfl rfl (Nat.le_of_ble_eq_true rfl) ?_
    rintro rr _ ⟨hrr, rfl⟩
    subst rr
    refine zr_iret hC hr hk dX3_leaveFound_17 (by decide) (by decide) ⟨_, rfl, ?_⟩
    exact ⟨by simp [c3], rfl⟩
set_option maxRecDepth 100000 in
set_option maxHeartbeats 4000000 in
theorem c_X3_countDropped (r0 : Int32) : zz_Mv l D (zt cI cII cF) yX3_countDropped cX3_countDropped 2 none 0 0 0 0 [.ref o, .int r0] (cw_W o rk sp pp fp cII cF a x) (fun w' => w' = (cw_W o rk sp pp fp cII cF (if r0 = 2 then as_dm a (aa_dm a + 1) else as_dO a (aa_dO a + 1)) x)) := by
  refine zz_mk (by decide) (Nat.le_of_ble_eq_true rfl) ?_
  intro p e s m below meth c A hC hr hk hnm
  have hC : zz_C p s m _ c A D (zt cI cII cF) 2 cX3_countDropped RX3 := hC
  refine zr_iload_n 1 hC dX3_countDropped_0 rfl rfl ?_
  refine zr_iconst (v := (2 : Int32)) hC dX3_countDropped_1 rfl ?_
  refine zr_icmp_ne (tgt := 18) hC dX3_countDropped_2 (by decide) (fun c2 => ?_) (fun c2 => ?_)
  · refine zr_aload_n 0 hC dX3_countDropped_18 rfl rfl ?_
    refine zr_dup hC dX3_countDropped_19 rfl ?_
    refine zr_get (v := .int (aa_dO a)) 0 6 hC iu_X3 rfl dX3_countDropped_20 fl_X3_140 (by decide) rfl rfl ?_
    refine zr_iconst (v := (1 : Int32)) hC dX3_countDropped_23 rfl ?_
    refine zr_iadd hC dX3_countDropped_24 ?_
    refine zr_put (w' := (cw_W o rk sp pp fp cII cF (as_dO a ((aa_dO a) + (1 : Int32))) x)) 0 6 hC iu_X3 tyX3_ok nmX3 rfl dX3_countDropped_25 fl_X3_140 (by decide) rfl rfl rfl rfl (Nat.le_of_ble_eq_true rfl) rfl ?_
    refine zr_vret hC hr hk dX3_countDropped_28 (by decide) (by decide) ⟨rfl, ?_⟩
    simp [c2]
  · refine zr_aload_n 0 hC dX3_countDropped_5 rfl rfl ?_
    refine zr_dup hC dX3_countDropped_6 rfl ?_
    refine zr_get (v := .int (aa_dm a)) 0 5 hC iu_X3 rfl dX3_countDropped_7 fl_X3_137 (by decide) rfl rfl ?_
    refine zr_iconst (v := (1 : Int32)) hC dX3_countDropped_10 rfl ?_
    refine zr_iadd hC dX3_countDropped_11 ?_
    refine zr_put (w' := (cw_W o rk sp pp fp cII cF (as_dm a ((aa_dm a) + (1 : Int32))) x)) 0 5 hC iu_X3 tyX3_ok nmX3 rfl dX3_countDropped_12 fl_X3_137 (by decide) rfl rfl rfl rfl (Nat.le_of_ble_eq_true rfl) rfl ?_
    refine zr_goto (tgt := 28) hC dX3_countDropped_15 (by decide) ?_
    refine zr_vret hC hr hk dX3_countDropped_28 (by decide) (by decide) ⟨rfl, ?_⟩
    simp [c2]
end ZA2
