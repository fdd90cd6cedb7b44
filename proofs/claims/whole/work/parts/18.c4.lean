section ZA4
variable {l : Launch} {D : va_G} {cI cII cF : ClassId} {o rk sp pp fp mo m1 m2 m3 m4 m5 m6 m7 m8 m9 : Nat}
variable {a : ax_A} {x : cx_X}
set_option maxRecDepth 100000 in
set_option maxHeartbeats 4000000 in
theorem c_X3_look (hR : rc_Q cI cII a x) {b s0 : Int32} (i : Int32) (hb : zk_b b) (hs : zk_s s0) : zz_Mi l D (zt cI cII cF) yX3_look cX3_look 5 (some .int) 2 46 0 0 [.ref o, .int b, .int s0, .int i] (cw_W o rk sp pp fp cII cF a x) (fun r w' => (zf_why (aa_st a) (zl b s0) i = 0 ∧ r = 0 ∧ w' = (cw_W o rk sp pp fp cII cF a (ck_fnd x (zf_val (aa_st a) (zl b s0) i)))) ∨ (¬ zf_why (aa_st a) (zl b s0) i = 0 ∧ r = zf_why (aa_st a) (zl b s0) i ∧ w' = (cw_W o rk sp pp fp cII cF (zf_cnt (zf_why (aa_st a) (zl b s0) i) a) x))) := by
  refine zz_mk (by decide) (Nat.le_of_ble_eq_true rfl) ?_
  intro p e s m below meth c A hC hr hk hnm
  have hC : zz_C p s m _ c A D (zt cI cII cF) 5 cX3_look RX3 := hC
  refine zr_aload_n 0 hC dX3_look_0 rfl rfl ?_
  refine zr_get (v := .ref rk) 0 0 hC iu_X3 rfl dX3_look_1 fl_X3_10 (by decide) rfl rfl ?_
  refine zr_iload_n 1 hC dX3_look_4 rfl rfl ?_
  refine zr_iload_n 2 hC dX3_look_5 rfl rfl ?_
  refine zr_iload_n 3 hC dX3_look_6 rfl rfl ?_
  refine zr_cVi 1 hC cv_X2_refusalAt ml_X3_156 (c_X2_refusalAt (a := a) (x := x) hR i hb hs) dX3_look_7 ⟨Nat.le_of_ble_eq_true rfl, Nat.le_of_ble_eq_true rfl⟩ ⟨Nat.le_of_ble_eq_true rfl, Nat.le_of_ble_eq_true rfl⟩ rfl rfl rfl rfl rfl (Nat.le_of_ble_eq_true rfl) ?_
  rintro _ _ ⟨rfl, rfl⟩
  refine zr_istore (lv' := [(4, .int (zf_why (aa_st a) (zl b s0) i)), (0, .ref o), (1, .int b), (2, .int s0), (3, .int i)]) hC dX3_look_10 (by decide) rfl ?_
  refine zr_iload 0 hC dX3_look_12 rfl ?_
  refine zr_if_ne (tgt := 31) hC dX3_look_14 (by decide) (fun c14 => ?_) (fun c14 => ?_)
  · refine zr_aload_n 1 hC dX3_look_31 rfl rfl ?_
    refine zr_iload 0 hC dX3_look_32 rfl ?_
    refine zr_cVi 0 hC cv_X3_counted ml_X3_40 (c_X3_counted (a := a) (x := x) (zf_why (aa_st a) (zl b s0) i)) dX3_look_34 ⟨Nat.le_of_ble_eq_true rfl, Nat.le_of_ble_eq_true rfl⟩ ⟨Nat.le_of_ble_eq_true rfl, Nat.le_of_ble_eq_true rfl⟩ rfl rfl rfl rfl rfl (Nat.le_of_ble_eq_true rfl) ?_
    rintro _ _ ⟨rfl, rfl⟩
    refine zr_iret hC hr hk dX3_look_37 (by decide) (by decide) ⟨_, rfl, ?_⟩
    exact Or.inr ⟨c14, rfl, rfl⟩
  · refine zr_aload_n 1 hC dX3_look_17 rfl rfl ?_
    refine zr_aload_n 1 hC dX3_look_18 rfl rfl ?_
    refine zr_get (v := .ref rk) 0 0 hC iu_X3 rfl dX3_look_19 fl_X3_10 (by decide) rfl rfl ?_
    refine zr_iload_n 2 hC dX3_look_22 rfl rfl ?_
    refine zr_iload_n 3 hC dX3_look_23 rfl rfl ?_
    refine zr_iload_n 4 hC dX3_look_24 rfl rfl ?_
    refine zr_cVi 1 hC cv_X2_numberAt ml_X3_158 (c_X2_numberAt (a := a) (x := x) hR hb hs c14) dX3_look_25 ⟨Nat.le_of_ble_eq_true rfl, Nat.le_of_ble_eq_true rfl⟩ ⟨Nat.le_of_ble_eq_true rfl, Nat.le_of_ble_eq_true rfl⟩ rfl rfl rfl rfl rfl (Nat.le_of_ble_eq_true rfl) ?_
    rintro _ _ ⟨rfl, rfl⟩
    refine zr_put (w' := (cw_W o rk sp pp fp cII cF a (ck_fnd x (zf_val (aa_st a) (zl b s0) i)))) 0 11 hC iu_X3 tyX3_ok nmX3 rfl dX3_look_28 fl_X3_66 (by decide) rfl rfl rfl rfl (Nat.le_of_ble_eq_true rfl) rfl ?_
    refine zr_aload_n 1 hC dX3_look_31 rfl rfl ?_
    refine zr_iload 0 hC dX3_look_32 rfl ?_
    refine zr_cVi 0 hC cv_X3_counted ml_X3_40 (c_X3_counted (a := a) (x := (ck_fnd x (zf_val (aa_st a) (zl b s0) i))) (zf_why (aa_st a) (zl b s0) i)) dX3_look_34 ⟨Nat.le_of_ble_eq_true rfl, Nat.le_of_ble_eq_true rfl⟩ ⟨Nat.le_of_ble_eq_true rfl, Nat.le_of_ble_eq_true rfl⟩ rfl rfl rfl rfl rfl (Nat.le_of_ble_eq_true rfl) ?_
    rintro _ _ ⟨rfl, rfl⟩
    refine zr_iret hC hr hk dX3_look_37 (by decide) (by decide) ⟨_, rfl, ?_⟩
    exact Or.inl ⟨c14, c14, by rw [c14, zf_cnt0]⟩
set_option maxRecDepth 100000 in
set_option maxHeartbeats 4000000 in
theorem c_X3_put (hR : rc_Q cI cII a x) {b s0 : Int32} (i v : Int32) (hb : zk_b b) (hs : zk_s s0) : zz_Mi l D (zt cI cII cF) yX3_put cX3_put 6 (some .int) 3 62 0 0 [.ref o, .int b, .int s0, .int i, .int v] (cw_W o rk sp pp fp cII cF a x) (fun r w' => (zf_why (aa_st a) (zl b s0) i = 0 ∧ r = 0 ∧ ∃ x', cx_fnd x' = cx_fnd x ∧ cx_K x x' ∧ w' = (cw_W o rk sp pp fp cII cF (zf_set a (zl b s0) i (zf_num s0 v)) x') ∧ rc_Q cI cII (zf_set a (zl b s0) i (zf_num s0 v)) x') ∨ (¬ zf_why (aa_st a) (zl b s0) i = 0 ∧ r = zf_why (aa_st a) (zl b s0) i ∧ w' = (cw_W o rk sp pp fp cII cF (zf_cnt (zf_why (aa_st a) (zl b s0) i) a) x))) := by
  refine zz_mk (by decide) (Nat.le_of_ble_eq_true rfl) ?_
  intro p e s m below meth c A hC hr hk hnm
  have hC : zz_C p s m _ c A D (zt cI cII cF) 6 cX3_put RX3 := hC
  refine zr_aload_n 0 hC dX3_put_0 rfl rfl ?_
  refine zr_get (v := .ref rk) 0 0 hC iu_X3 rfl dX3_put_1 fl_X3_10 (by decide) rfl rfl ?_
  refine zr_iload_n 1 hC dX3_put_4 rfl rfl ?_
  refine zr_iload_n 2 hC dX3_put_5 rfl rfl ?_
  refine zr_iload_n 3 hC dX3_put_6 rfl rfl ?_
  refine zr_cVi 1 hC cv_X2_refusalAt ml_X3_156 (c_X2_refusalAt (a := a) (x := x) hR i hb hs) dX3_put_7 ⟨Nat.le_of_ble_eq_true rfl, Nat.le_of_ble_eq_true rfl⟩ ⟨Nat.le_of_ble_eq_true rfl, Nat.le_of_ble_eq_true rfl⟩ rfl rfl rfl rfl rfl (Nat.le_of_ble_eq_true rfl) ?_
  rintro _ _ ⟨rfl, rfl⟩
  refine zr_istore (lv' := [(5, .int (zf_why (aa_st a) (zl b s0) i)), (0, .ref o), (1, .int b), (2, .int s0), (3, .int i), (4, .int v)]) hC dX3_put_10 (by decide) rfl ?_
  refine zr_iload 0 hC dX3_put_12 rfl ?_
  refine zr_if_ne (tgt := 33) hC dX3_put_14 (by decide) (fun c14 => ?_) (fun c14 => ?_)
  · refine zr_aload_n 1 hC dX3_put_33 rfl rfl ?_
    refine zr_iload 0 hC dX3_put_34 rfl ?_
    refine zr_cVi 0 hC cv_X3_counted ml_X3_40 (c_X3_counted (a := a) (x := x) (zf_why (aa_st a) (zl b s0) i)) dX3_put_36 ⟨Nat.le_of_ble_eq_true rfl, Nat.le_of_ble_eq_true rfl⟩ ⟨Nat.le_of_ble_eq_true rfl, Nat.le_of_ble_eq_true rfl⟩ rfl rfl rfl rfl rfl (Nat.le_of_ble_eq_true rfl) ?_
    rintro _ _ ⟨rfl, rfl⟩
    refine zr_iret hC hr hk dX3_put_39 (by decide) (by decide) ⟨_, rfl, ?_⟩
    exact Or.inr ⟨c14, rfl, rfl⟩
  · refine zr_aload_n 1 hC dX3_put_17 rfl rfl ?_
    refine zr_get (v := .ref rk) 0 0 hC iu_X3 rfl dX3_put_18 fl_X3_10 (by decide) rfl rfl ?_
    refine zr_iload_n 2 hC dX3_put_21 rfl rfl ?_
    refine zr_iload_n 3 hC dX3_put_22 rfl rfl ?_
    refine zr_iload_n 4 hC dX3_put_23 rfl rfl ?_
    refine zr_iload_n 3 hC dX3_put_24 rfl rfl ?_
    refine zr_iload 5 hC dX3_put_25 rfl ?_
    refine zr_cSi hC cs_X3_asNumber ml_X3_160 (c_X3_asNumber (w := (cw_W o rk sp pp fp cII cF a x)) s0 v) dX3_put_27 ⟨Nat.le_of_ble_eq_true rfl, Nat.le_of_ble_eq_true rfl⟩ ⟨Nat.le_of_ble_eq_true rfl, Nat.le_of_ble_eq_true rfl⟩ rfl rfl (Nat.le_of_ble_eq_true rfl) ?_
    rintro _ _ ⟨rfl, rfl⟩
    refine zr_cVv 1 hC cv_X2_setAt ml_X3_163 (c_X2_setAt (a := a) (x := x) hR (zf_num s0 v) hb hs c14) dX3_put_30 ⟨Nat.le_of_ble_eq_true rfl, Nat.le_of_ble_eq_true rfl⟩ ⟨Nat.le_of_ble_eq_true rfl, Nat.le_of_ble_eq_true rfl⟩ rfl rfl rfl rfl rfl (Nat.le_of_ble_eq_true rfl) ?_
    rintro _ ⟨x', hx1, hx2, rfl, hQ⟩
    refine zr_aload_n 1 hC dX3_put_33 rfl rfl ?_
    refine zr_iload 0 hC dX3_put_34 rfl ?_
    refine zr_cVi 0 hC cv_X3_counted ml_X3_40 (c_X3_counted (a := (zf_set a (zl b s0) i (zf_num s0 v))) (x := x') (zf_why (aa_st a) (zl b s0) i)) dX3_put_36 ⟨Nat.le_of_ble_eq_true rfl, Nat.le_of_ble_eq_true rfl⟩ ⟨Nat.le_of_ble_eq_true rfl, Nat.le_of_ble_eq_true rfl⟩ rfl rfl rfl rfl rfl (Nat.le_of_ble_eq_true rfl) ?_
    rintro _ _ ⟨rfl, rfl⟩
    refine zr_iret hC hr hk dX3_put_39 (by decide) (by decide) ⟨_, rfl, ?_⟩
    exact Or.inl ⟨c14, c14, x', hx1, hx2, by rw [c14, zf_cnt0], hQ⟩
set_option maxRecDepth 100000 in
set_option maxHeartbeats 4000000 in
theorem c_X3_measure (hR : rc_Q cI cII a x) {b s0 : Int32} (hb : zk_b b) (hs : zk_s s0) : zz_Mi l D (zt cI cII cF) yX3_measure cX3_measure 4 (some .int) 1 22 0 0 [.ref o, .int b, .int s0] (cw_W o rk sp pp fp cII cF a x) (fun r w' => ((aa_st a).1 (zl b s0) = none ∧ r = 2 ∧ w' = (cw_W o rk sp pp fp cII cF (zf_cnt 2 a) x)) ∨ (∃ n, n ≤ 24 ∧ (aa_st a).1 (zl b s0) = some n ∧ r = 0 ∧ w' = (cw_W o rk sp pp fp cII cF a (ck_fnd x (nI n))))) := by
  refine zz_mk (by decide) (Nat.le_of_ble_eq_true rfl) ?_
  intro p e s m below meth c A hC hr hk hnm
  have hC : zz_C p s m _ c A D (zt cI cII cF) 4 cX3_measure RX3 := hC
  refine zr_aload_n 0 hC dX3_measure_0 rfl rfl ?_
  refine zr_get (v := .ref rk) 0 0 hC iu_X3 rfl dX3_measure_1 fl_X3_10 (by decide) rfl rfl ?_
  refine zr_iload_n 1 hC dX3_measure_4 rfl rfl ?_
  refine zr_iload_n 2 hC dX3_measure_5 rfl rfl ?_
  refine zr_cVr 1 hC cv_X2_stripOf ml_X3_48 (c_X2_stripOf (a := a) (x := x) hb hs) dX3_measure_6 ⟨Nat.le_of_ble_eq_true rfl, Nat.le_of_ble_eq_true rfl⟩ ⟨Nat.le_of_ble_eq_true rfl, Nat.le_of_ble_eq_true rfl⟩ rfl rfl rfl rfl rfl (Nat.le_of_ble_eq_true rfl) ?_
  rintro r0 _ ⟨hr0, rfl⟩
  refine zr_rf (fun hn => ?_) (fun q hn => ?_)
  · subst hn
    refine zr_astore_nN (lv' := [(3, .null), (0, .ref o), (1, .int b), (2, .int s0)]) hC dX3_measure_9 rfl (by decide) rfl ?_
    refine zr_aload_nN 0 hC dX3_measure_10 rfl rfl ?_
    refine zr_ifnonnullN hC dX3_measure_11 ?_
    refine zr_aload_n 1 hC dX3_measure_14 rfl rfl ?_
    refine zr_iconst (v := (2 : Int32)) hC dX3_measure_15 rfl ?_
    refine zr_cVi 0 hC cv_X3_counted ml_X3_40 (c_X3_counted (a := a) (x := x) (2 : Int32)) dX3_measure_16 ⟨Nat.le_of_ble_eq_true rfl, Nat.le_of_ble_eq_true rfl⟩ ⟨Nat.le_of_ble_eq_true rfl, Nat.le_of_ble_eq_true rfl⟩ rfl rfl rfl rfl rfl (Nat.le_of_ble_eq_true rfl) ?_
    rintro _ _ ⟨rfl, rfl⟩
    refine zr_iret hC hr hk dX3_measure_19 (by decide) (by decide) ⟨_, rfl, ?_⟩
    exact Or.inl ⟨rc_none hR (zl_lt hb hs) hr0.symm, rfl, rfl⟩
  · subst hn
    obtain ⟨n, z, hL, he, h24, hlen⟩ := rc_len hR (zl_lt hb hs) hr0.symm
    obtain ⟨k0, hk0⟩ := cw_get (o := o) (rk := rk) (sp := sp) (pp := pp) (fp := fp) (cII := cII) (cF := cF) (a := a) hL he
    refine zr_astore_n (lv' := [(3, .ref q), (0, .ref o), (1, .int b), (2, .int s0)]) hC dX3_measure_9 rfl (by decide) rfl ?_
    refine zr_aload_n 0 hC dX3_measure_10 rfl rfl ?_
    refine zr_ifnonnull (tgt := 20) hC dX3_measure_11 (by decide) ?_
    refine zr_aload_n 1 hC dX3_measure_20 rfl rfl ?_
    refine zr_aload_n 0 hC dX3_measure_21 rfl rfl ?_
    refine zr_alen k0 0 hC dX3_measure_22 hk0 rfl ?_
    refine zr_put (w' := (cw_W o rk sp pp fp cII cF a (ck_fnd x (nI n)))) 0 11 hC iu_X3 tyX3_ok nmX3 rfl dX3_measure_23 fl_X3_66 (by decide) rfl rfl rfl rfl (Nat.le_of_ble_eq_true rfl) rfl ?_
    refine zr_iconst (v := (0 : Int32)) hC dX3_measure_26 rfl ?_
    refine zr_iret hC hr hk dX3_measure_27 (by decide) (by decide) ⟨_, rfl, ?_⟩
    exact Or.inr ⟨n, h24, hlen, rfl, rfl⟩
set_option maxRecDepth 100000 in
set_option maxHeartbeats 4000000 in
theorem c_X3_findShown (hR : rc_Q cI cII a x) {b : Int32} (i : Int32) (hb : zk_b b) : zz_Mi l D (zt cI cII cF) yX3_findShown cX3_findShown 6 (some .int) 3 70 0 0 [.ref o, .int b, .int i] (cw_W o rk sp pp fp cII cF a x) (fun r w' => ((zf_show a b i).1 = 0 ∧ r = 0 ∧ w' = (cw_W o rk sp pp fp cII cF (zf_show a b i).2.2 (ck_fnd x (zf_show a b i).2.1))) ∨ (¬ (zf_show a b i).1 = 0 ∧ r = (zf_show a b i).1 ∧ ∃ fn, w' = (cw_W o rk sp pp fp cII cF (zf_show a b i).2.2 (ck_fnd x fn)))) := by
  refine zz_mk (by decide) (Nat.le_of_ble_eq_true rfl) ?_
  intro p e s m below meth c A hC hr hk hnm
  have hC : zz_C p s m _ c A D (zt cI cII cF) 6 cX3_findShown RX3 := hC
  refine zr_aload_n 0 hC dX3_findShown_0 rfl rfl ?_
  refine zr_iload_n 1 hC dX3_findShown_1 rfl rfl ?_
  refine zr_iconst (v := (3 : Int32)) hC dX3_findShown_2 rfl ?_
  refine zr_iload_n 2 hC dX3_findShown_3 rfl rfl ?_
  refine zr_cVi 0 hC cv_X3_look ml_X3_58 (c_X3_look (a := a) (x := x) hR i hb zk_s3) dX3_findShown_4 ⟨Nat.le_of_ble_eq_true rfl, Nat.le_of_ble_eq_true rfl⟩ ⟨Nat.le_of_ble_eq_true rfl, Nat.le_of_ble_eq_true rfl⟩ rfl rfl rfl rfl rfl (Nat.le_of_ble_eq_true rfl) ?_
  rintro _ _ (⟨h1, rfl, rfl⟩ | ⟨h1, rfl, rfl⟩)
  · refine zr_istore_n (lv' := [(3, .int (0 : Int32)), (0, .ref o), (1, .int b), (2, .int i)]) hC dX3_findShown_7 rfl (by decide) rfl ?_
    refine zr_iload_n 0 hC dX3_findShown_8 rfl rfl ?_
    refine zr_if_neF (tgt := 19) hC dX3_findShown_9 (by decide) (by decide) ?_
    refine zr_aload_n 1 hC dX3_findShown_12 rfl rfl ?_
    refine zr_get (v := .int (zf_val (aa_st a) (zl b 3) i)) 0 11 hC iu_X3 rfl dX3_findShown_13 fl_X3_66 (by decide) rfl rfl ?_
    refine zr_if_ne (tgt := 21) hC dX3_findShown_16 (by decide) (fun c16 => ?_) (fun c16 => ?_)
    · refine zr_aload_n 1 hC dX3_findShown_21 rfl rfl ?_
      refine zr_iload_n 2 hC dX3_findShown_22 rfl rfl ?_
      refine zr_iconst (v := (2 : Int32)) hC dX3_findShown_23 rfl ?_
      refine zr_iload_n 3 hC dX3_findShown_24 rfl rfl ?_
      refine zr_cVi 0 hC cv_X3_look ml_X3_58 (c_X3_look (a := a) (x := (ck_fnd x (zf_val (aa_st a) (zl b 3) i))) hR i hb zk_s2) dX3_findShown_25 ⟨Nat.le_of_ble_eq_true rfl, Nat.le_of_ble_eq_true rfl⟩ ⟨Nat.le_of_ble_eq_true rfl, Nat.le_of_ble_eq_true rfl⟩ rfl rfl rfl rfl rfl (Nat.le_of_ble_eq_true rfl) ?_
      rintro _ _ (⟨h2, rfl, rfl⟩ | ⟨h2, rfl, rfl⟩)
      · refine zr_istore_n (lv' := [(3, .int (0 : Int32)), (0, .ref o), (1, .int b), (2, .int i)]) hC dX3_findShown_28 rfl (by decide) rfl ?_
        refine zr_iload_n 0 hC dX3_findShown_29 rfl rfl ?_
        refine zr_if_eqT (tgt := 35) hC dX3_findShown_30 (by decide) (by decide) ?_
        refine zr_aload_n 1 hC dX3_findShown_35 rfl rfl ?_
        refine zr_get (v := .int (zf_val (aa_st a) (zl b 2) i)) 0 11 hC iu_X3 rfl dX3_findShown_36 fl_X3_66 (by decide) rfl rfl ?_
        refine zr_istore (lv' := [(4, .int (zf_val (aa_st a) (zl b 2) i)), (3, .int (0 : Int32)), (0, .ref o), (1, .int b), (2, .int i)]) hC dX3_findShown_39 (by decide) rfl ?_
        refine zr_aload_n 2 hC dX3_findShown_41 rfl rfl ?_
        refine zr_iload_n 3 hC dX3_findShown_42 rfl rfl ?_
        refine zr_iconst (v := (1 : Int32)) hC dX3_findShown_43 rfl ?_
        refine zr_iload_n 4 hC dX3_findShown_44 rfl rfl ?_
        refine zr_cVi 0 hC cv_X3_look ml_X3_58 (c_X3_look (a := a) (x := (ck_fnd (ck_fnd x (zf_val (aa_st a) (zl b 3) i)) (zf_val (aa_st a) (zl b 2) i))) hR i hb zk_s1) dX3_findShown_45 ⟨Nat.le_of_ble_eq_true rfl, Nat.le_of_ble_eq_true rfl⟩ ⟨Nat.le_of_ble_eq_true rfl, Nat.le_of_ble_eq_true rfl⟩ rfl rfl rfl rfl rfl (Nat.le_of_ble_eq_true rfl) ?_
        rintro _ _ (⟨h3, rfl, rfl⟩ | ⟨h3, rfl, rfl⟩)
        · refine zr_istore_n (lv' := [(3, .int (0 : Int32)), (4, .int (zf_val (aa_st a) (zl b 2) i)), (0, .ref o), (1, .int b), (2, .int i)]) hC dX3_findShown_48 rfl (by decide) rfl ?_
          refine zr_iload_n 0 hC dX3_findShown_49 rfl rfl ?_
          refine zr_if_eqT (tgt := 55) hC dX3_findShown_50 (by decide) (by decide) ?_
          refine zr_iload 1 hC dX3_findShown_55 rfl ?_
          refine zr_aload_n 2 hC dX3_findShown_57 rfl rfl ?_
          refine zr_get (v := .int (zf_val (aa_st a) (zl b 1) i)) 0 11 hC iu_X3 rfl dX3_findShown_58 fl_X3_66 (by decide) rfl rfl ?_
          refine zr_iadd hC dX3_findShown_61 ?_
          refine zr_istore (lv' := [(5, .int ((zf_val (aa_st a) (zl b 2) i) + (zf_val (aa_st a) (zl b 1) i))), (3, .int (0 : Int32)), (4, .int (zf_val (aa_st a) (zl b 2) i)), (0, .ref o), (1, .int b), (2, .int i)]) hC dX3_findShown_62 (by decide) rfl ?_
          refine zr_aload_n 3 hC dX3_findShown_64 rfl rfl ?_
          refine zr_iload_n 4 hC dX3_findShown_65 rfl rfl ?_
          refine zr_iconst (v := (0 : Int32)) hC dX3_findShown_66 rfl ?_
          refine zr_iload_n 5 hC dX3_findShown_67 rfl rfl ?_
          refine zr_cVi 0 hC cv_X3_look ml_X3_58 (c_X3_look (a := a) (x := (ck_fnd (ck_fnd (ck_fnd x (zf_val (aa_st a) (zl b 3) i)) (zf_val (aa_st a) (zl b 2) i)) (zf_val (aa_st a) (zl b 1) i))) hR i hb zk_s0) dX3_findShown_68 ⟨Nat.le_of_ble_eq_true rfl, Nat.le_of_ble_eq_true rfl⟩ ⟨Nat.le_of_ble_eq_true rfl, Nat.le_of_ble_eq_true rfl⟩ rfl rfl rfl rfl rfl (Nat.le_of_ble_eq_true rfl) ?_
          rintro _ _ (⟨h4, rfl, rfl⟩ | ⟨h4, rfl, rfl⟩)
          · refine zr_istore_n (lv' := [(3, .int (0 : Int32)), (5, .int ((zf_val (aa_st a) (zl b 2) i) + (zf_val (aa_st a) (zl b 1) i))), (4, .int (zf_val (aa_st a) (zl b 2) i)), (0, .ref o), (1, .int b), (2, .int i)]) hC dX3_findShown_71 rfl (by decide) rfl ?_
            refine zr_iload_n 0 hC dX3_findShown_72 rfl rfl ?_
            refine zr_if_eqT (tgt := 78) hC dX3_findShown_73 (by decide) (by decide) ?_
            refine zr_aload_n 3 hC dX3_findShown_78 rfl rfl ?_
            refine zr_aload_n 3 hC dX3_findShown_79 rfl rfl ?_
            refine zr_get (v := .int (zf_val (aa_st a) (zl b 0) i)) 0 11 hC iu_X3 rfl dX3_findShown_80 fl_X3_66 (by decide) rfl rfl ?_
            refine zr_iconst (v := (2 : Int32)) hC dX3_findShown_83 rfl ?_
            refine zr_irem hC dX3_findShown_84 (by decide) ?_
            refine zr_if_ne (tgt := 93) hC dX3_findShown_85 (by decide) (fun c85 => ?_) (fun c85 => ?_)
            · refine zr_iload 1 hC dX3_findShown_93 rfl ?_
              refine zr_ineg hC dX3_findShown_95 ?_
              refine zr_put (w' := (cw_W o rk sp pp fp cII cF a (ck_fnd (ck_fnd (ck_fnd (ck_fnd (ck_fnd x (zf_val (aa_st a) (zl b 3) i)) (zf_val (aa_st a) (zl b 2) i)) (zf_val (aa_st a) (zl b 1) i)) (zf_val (aa_st a) (zl b 0) i)) (0 - ((zf_val (aa_st a) (zl b 2) i) + (zf_val (aa_st a) (zl b 1) i)))))) 0 11 hC iu_X3 tyX3_ok nmX3 rfl dX3_findShown_96 fl_X3_66 (by decide) rfl rfl rfl rfl (Nat.le_of_ble_eq_true rfl) rfl ?_
              refine zr_iconst (v := (0 : Int32)) hC dX3_findShown_99 rfl ?_
              refine zr_iret hC hr hk dX3_findShown_100 (by decide) (by decide) ⟨_, rfl, ?_⟩
              have e0 : (zf_show a b i) = (0, (0 - ((zf_val (aa_st a) (zl b 2) i) + (zf_val (aa_st a) (zl b 1) i))), a) := by simp [zf_show, h1, c16, h2, h3, h4, c85]
              exact Or.inl ⟨by rw [e0], rfl, by rw [e0]⟩
            · refine zr_iload 1 hC dX3_findShown_88 rfl ?_
              refine zr_goto (tgt := 96) hC dX3_findShown_90 (by decide) ?_
              refine zr_put (w' := (cw_W o rk sp pp fp cII cF a (ck_fnd (ck_fnd (ck_fnd (ck_fnd (ck_fnd x (zf_val (aa_st a) (zl b 3) i)) (zf_val (aa_st a) (zl b 2) i)) (zf_val (aa_st a) (zl b 1) i)) (zf_val (aa_st a) (zl b 0) i)) ((zf_val (aa_st a) (zl b 2) i) + (zf_val (aa_st a) (zl b 1) i))))) 0 11 hC iu_X3 tyX3_ok nmX3 rfl dX3_findShown_96 fl_X3_66 (by decide) rfl rfl rfl rfl (Nat.le_of_ble_eq_true rfl) rfl ?_
              refine zr_iconst (v := (0 : Int32)) hC dX3_findShown_99 rfl ?_
              refine zr_iret hC hr hk dX3_findShown_100 (by decide) (by decide) ⟨_, rfl, ?_⟩
              have e0 : (zf_show a b i) = (0, ((zf_val (aa_st a) (zl b 2) i) + (zf_val (aa_st a) (zl b 1) i)), a) := by simp [zf_show, h1, c16, h2, h3, h4, c85]
              exact Or.inl ⟨by rw [e0], rfl, by rw [e0]⟩
          · refine zr_istore_n (lv' := [(3, .int (zf_why (aa_st a) (zl b 0) i)), (5, .int ((zf_val (aa_st a) (zl b 2) i) + (zf_val (aa_st a) (zl b 1) i))), (4, .int (zf_val (aa_st a) (zl b 2) i)), (0, .ref o), (1, .int b), (2, .int i)]) hC dX3_findShown_71 rfl (by decide) rfl ?_
            refine zr_iload_n 0 hC dX3_findShown_72 rfl rfl ?_
            refine zr_if_eqF (tgt := 78) hC dX3_findShown_73 (by decide) h4 ?_
            refine zr_iload_n 0 hC dX3_findShown_76 rfl rfl ?_
            refine zr_iret hC hr hk dX3_findShown_77 (by decide) (by decide) ⟨_, rfl, ?_⟩
            have e0 : (zf_show a b i) = ((zf_why (aa_st a) (zl b 0) i), 0, (zf_cnt (zf_why (aa_st a) (zl b 0) i) a)) := by simp [zf_show, h1, c16, h2, h3, h4]
            exact Or.inr ⟨by rw [e0]; exact h4, by rw [e0], cx_fnd (ck_fnd (ck_fnd (ck_fnd x (zf_val (aa_st a) (zl b 3) i)) (zf_val (aa_st a) (zl b 2) i)) (zf_val (aa_st a) (zl b 1) i)), by rw [e0]⟩
        · refine zr_istore_n (lv' := [(3, .int (zf_why (aa_st a) (zl b 1) i)), (4, .int (zf_val (aa_st a) (zl b 2) i)), (0, .ref o), (1, .int b), (2, .int i)]) hC dX3_findShown_48 rfl (by decide) rfl ?_
          refine zr_iload_n 0 hC dX3_findShown_49 rfl rfl ?_
          refine zr_if_eqF (tgt := 55) hC dX3_findShown_50 (by decide) h3 ?_
          refine zr_iload_n 0 hC dX3_findShown_53 rfl rfl ?_
          refine zr_iret hC hr hk dX3_findShown_54 (by decide) (by decide) ⟨_, rfl, ?_⟩
          have e0 : (zf_show a b i) = ((zf_why (aa_st a) (zl b 1) i), 0, (zf_cnt (zf_why (aa_st a) (zl b 1) i) a)) := by simp [zf_show, h1, c16, h2, h3]
          exact Or.inr ⟨by rw [e0]; exact h3, by rw [e0], cx_fnd (ck_fnd (ck_fnd x (zf_val (aa_st a) (zl b 3) i)) (zf_val (aa_st a) (zl b 2) i)), by rw [e0]⟩
      · refine zr_istore_n (lv' := [(3, .int (zf_why (aa_st a) (zl b 2) i)), (0, .ref o), (1, .int b), (2, .int i)]) hC dX3_findShown_28 rfl (by decide) rfl ?_
        refine zr_iload_n 0 hC dX3_findShown_29 rfl rfl ?_
        refine zr_if_eqF (tgt := 35) hC dX3_findShown_30 (by decide) h2 ?_
        refine zr_iload_n 0 hC dX3_findShown_33 rfl rfl ?_
        refine zr_iret hC hr hk dX3_findShown_34 (by decide) (by decide) ⟨_, rfl, ?_⟩
        have e0 : (zf_show a b i) = ((zf_why (aa_st a) (zl b 2) i), 0, (zf_cnt (zf_why (aa_st a) (zl b 2) i) a)) := by simp [zf_show, h1, c16, h2]
        exact Or.inr ⟨by rw [e0]; exact h2, by rw [e0], cx_fnd (ck_fnd x (zf_val (aa_st a) (zl b 3) i)), by rw [e0]⟩
    · refine zr_iload_n 0 hC dX3_findShown_19 rfl rfl ?_
      refine zr_iret hC hr hk dX3_findShown_20 (by decide) (by decide) ⟨_, rfl, ?_⟩
      have e0 : (zf_show a b i) = (0, (zf_val (aa_st a) (zl b 3) i), a) := by simp [zf_show, h1, c16]
      exact Or.inl ⟨by rw [e0], rfl, by rw [e0]⟩
  · refine zr_istore_n (lv' := [(3, .int (zf_why (aa_st a) (zl b 3) i)), (0, .ref o), (1, .int b), (2, .int i)]) hC dX3_findShown_7 rfl (by decide) rfl ?_
    refine zr_iload_n 0 hC dX3_findShown_8 rfl rfl ?_
    refine zr_if_neT (tgt := 19) hC dX3_findShown_9 (by decide) h1 ?_
    refine zr_iload_n 0 hC dX3_findShown_19 rfl rfl ?_
    refine zr_iret hC hr hk dX3_findShown_20 (by decide) (by decide) ⟨_, rfl, ?_⟩
    have e0 : (zf_show a b i) = ((zf_why (aa_st a) (zl b 3) i), 0, (zf_cnt (zf_why (aa_st a) (zl b 3) i) a)) := by simp [zf_show, h1]
    exact Or.inr ⟨by rw [e0]; exact h1, by rw [e0], cx_fnd x, by rw [e0]⟩
set_option maxRecDepth 100000 in
set_option maxHeartbeats 4000000 in
theorem c_X3_isLit (hR : rc_Q cI cII a x) {b : Int32} (i : Int32) (hb : zk_b b) (hl : zf_why (aa_st a) (zl b 2) i = 0) : zz_Mi l D (zt cI cII cF) yX3_isLit cX3_isLit 3 (some .boolean) 3 70 0 0 [.ref o, .int b, .int i] (cw_W o rk sp pp fp cII cF a x) (fun r w' => ∃ fn, w' = (cw_W o rk sp pp fp cII cF (zf_cnt (zf_why (aa_st a) (zl b 3) i) a) (ck_fnd x fn)) ∧ ((r = 1 ∧ zf_why (aa_st a) (zl b 3) i = 0 ∧ ¬ zf_val (aa_st a) (zl b 3) i = 0 ∧ 0 < zf_val (aa_st a) (zl b 2) i) ∨ (r = 0 ∧ ¬ (zf_why (aa_st a) (zl b 3) i = 0 ∧ ¬ zf_val (aa_st a) (zl b 3) i = 0 ∧ 0 < zf_val (aa_st a) (zl b 2) i)))) := by
  refine zz_mk (by decide) (Nat.le_of_ble_eq_true rfl) ?_
  intro p e s m below meth c A hC hr hk hnm
  have hC : zz_C p s m _ c A D (zt cI cII cF) 3 cX3_isLit RX3 := hC
  refine zr_aload_n 0 hC dX3_isLit_0 rfl rfl ?_
  refine zr_iload_n 1 hC dX3_isLit_1 rfl rfl ?_
  refine zr_iconst (v := (3 : Int32)) hC dX3_isLit_2 rfl ?_
  refine zr_iload_n 2 hC dX3_isLit_3 rfl rfl ?_
  refine zr_cVi 0 hC cv_X3_look ml_X3_58 (c_X3_look (a := a) (x := x) hR i hb zk_s3) dX3_isLit_4 ⟨Nat.le_of_ble_eq_true rfl, Nat.le_of_ble_eq_true rfl⟩ ⟨Nat.le_of_ble_eq_true rfl, Nat.le_of_ble_eq_true rfl⟩ rfl rfl rfl rfl rfl (Nat.le_of_ble_eq_true rfl) ?_
  rintro _ _ (⟨h1, rfl, rfl⟩ | ⟨h1, rfl, rfl⟩)
  · refine zr_if_neF (tgt := 17) hC dX3_isLit_7 (by decide) (by decide) ?_
    refine zr_aload_n 0 hC dX3_isLit_10 rfl rfl ?_
    refine zr_get (v := .int (zf_val (aa_st a) (zl b 3) i)) 0 11 hC iu_X3 rfl dX3_isLit_11 fl_X3_66 (by decide) rfl rfl ?_
    refine zr_if_ne (tgt := 19) hC dX3_isLit_14 (by decide) (fun c14 => ?_) (fun c14 => ?_)
    · refine zr_aload_n 0 hC dX3_isLit_19 rfl rfl ?_
      refine zr_iload_n 1 hC dX3_isLit_20 rfl rfl ?_
      refine zr_iconst (v := (2 : Int32)) hC dX3_isLit_21 rfl ?_
      refine zr_iload_n 2 hC dX3_isLit_22 rfl rfl ?_
      refine zr_cVi 0 hC cv_X3_look ml_X3_58 (c_X3_look (a := a) (x := (ck_fnd x (zf_val (aa_st a) (zl b 3) i))) hR i hb zk_s2) dX3_isLit_23 ⟨Nat.le_of_ble_eq_true rfl, Nat.le_of_ble_eq_true rfl⟩ ⟨Nat.le_of_ble_eq_true rfl, Nat.le_of_ble_eq_true rfl⟩ rfl rfl rfl rfl rfl (Nat.le_of_ble_eq_true rfl) ?_
      rintro _ _ (⟨h2, rfl, rfl⟩ | ⟨h2, rfl, rfl⟩)
      · refine zr_if_neF (tgt := 40) hC dX3_isLit_26 (by decide) (by decide) ?_
        refine zr_aload_n 0 hC dX3_isLit_29 rfl rfl ?_
        refine zr_get (v := .int (zf_val (aa_st a) (zl b 2) i)) 0 11 hC iu_X3 rfl dX3_isLit_30 fl_X3_66 (by decide) rfl rfl ?_
        refine zr_if_le (tgt := 40) hC dX3_isLit_33 (by decide) (fun c33 => ?_) (fun c33 => ?_)
        · refine zr_iconst (v := (0 : Int32)) hC dX3_isLit_40 rfl ?_
          refine zr_zret hC hr hk dX3_isLit_41 rfl (by decide) (by decide) ⟨_, rfl, ?_⟩
          exact ⟨(zf_val (aa_st a) (zl b 2) i), by rw [h1, zf_cnt0], Or.inr ⟨rfl, fun h => absurd h.2.2 (Int32.not_lt.mpr c33)⟩⟩
        · refine zr_iconst (v := (1 : Int32)) hC dX3_isLit_36 rfl ?_
          refine zr_goto (tgt := 41) hC dX3_isLit_37 (by decide) ?_
          refine zr_zret hC hr hk dX3_isLit_41 rfl (by decide) (by decide) ⟨_, rfl, ?_⟩
          exact ⟨(zf_val (aa_st a) (zl b 2) i), by rw [h1, zf_cnt0], Or.inl ⟨rfl, h1, c14, Int32.not_le.mp c33⟩⟩
      · refine zr_if_neT (tgt := 40) hC dX3_isLit_26 (by decide) h2 ?_
        refine zr_iconst (v := (0 : Int32)) hC dX3_isLit_40 rfl ?_
        refine zr_zret hC hr hk dX3_isLit_41 rfl (by decide) (by decide) ⟨_, rfl, ?_⟩
        exact absurd hl h2
    · refine zr_iconst (v := (0 : Int32)) hC dX3_isLit_17 rfl ?_
      refine zr_zret hC hr hk dX3_isLit_18 rfl (by decide) (by decide) ⟨_, rfl, ?_⟩
      exact ⟨(zf_val (aa_st a) (zl b 3) i), by rw [h1, zf_cnt0], Or.inr ⟨rfl, fun h => absurd c14 h.2.1⟩⟩
  · refine zr_if_neT (tgt := 17) hC dX3_isLit_7 (by decide) h1 ?_
    refine zr_iconst (v := (0 : Int32)) hC dX3_isLit_17 rfl ?_
    refine zr_zret hC hr hk dX3_isLit_18 rfl (by decide) (by decide) ⟨_, rfl, ?_⟩
    exact ⟨cx_fnd x, rfl, Or.inr ⟨rfl, fun h => absurd h.1 h1⟩⟩
theorem zf_show_st (a : ax_A) (b i : Int32) : aa_st (zf_show a b i).2.2 = aa_st a ∧ aa_sh (zf_show a b i).2.2 = aa_sh a ∧ aa_fd (zf_show a b i).2.2 = aa_fd a := by
  unfold zf_show
  repeat' split
  all_goals exact ⟨rfl, rfl, rfl⟩
theorem rc_show {cI cII : ClassId} {a : ax_A} {x : cx_X} (hR : rc_Q cI cII a x) (b i fn : Int32) : rc_Q cI cII (zf_show a b i).2.2 (ck_fnd x fn) := hR.keep (zf_show_st a b i).1 (zf_show_st a b i).2.1 rfl rfl rfl rfl
set_option maxRecDepth 100000 in
set_option maxHeartbeats 4000000 in
theorem c_X3_drawLamp (hR : rc_Q cI cII a x) {b : Int32} (i j0 : Int32) (hb : zk_b b) : zz_Mi l D (zt cI cII cF) yX3_drawLamp cX3_drawLamp 5 (some .int) 4 95 0 0 [.ref o, .int b, .int i, .int j0] (cw_W o rk sp pp fp cII cF a x) (fun r w' => ((zf_show a b j0).1 = 0 ∧ zf_whyC (aa_sh (zf_show a b j0).2.2) i j0 = 0 ∧ r = 0 ∧ ∃ x', cx_K x x' ∧ w' = (cw_W o rk sp pp fp cII cF (zf_wri (zf_show a b j0).2.2 i j0 (zf_show a b j0).2.1) x') ∧ rc_Q cI cII (zf_wri (zf_show a b j0).2.2 i j0 (zf_show a b j0).2.1) x') ∨ ((zf_show a b j0).1 = 0 ∧ ¬ zf_whyC (aa_sh (zf_show a b j0).2.2) i j0 = 0 ∧ r = zf_whyC (aa_sh (zf_show a b j0).2.2) i j0 ∧ ∃ fn, w' = (cw_W o rk sp pp fp cII cF (zf_cnt (zf_whyC (aa_sh (zf_show a b j0).2.2) i j0) (zf_show a b j0).2.2) (ck_fnd x fn))) ∨ (¬ (zf_show a b j0).1 = 0 ∧ r = (zf_show a b j0).1 ∧ ∃ fn, w' = (cw_W o rk sp pp fp cII cF (zf_show a b j0).2.2 (ck_fnd x fn)))) := by
  refine zz_mk (by decide) (Nat.le_of_ble_eq_true rfl) ?_
  intro p e s m below meth c A hC hr hk hnm
  have hC : zz_C p s m _ c A D (zt cI cII cF) 5 cX3_drawLamp RX3 := hC
  refine zr_aload_n 0 hC dX3_drawLamp_0 rfl rfl ?_
  refine zr_iload_n 1 hC dX3_drawLamp_1 rfl rfl ?_
  refine zr_iload_n 3 hC dX3_drawLamp_2 rfl rfl ?_
  refine zr_cVi 0 hC cv_X3_findShown ml_X3_76 (c_X3_findShown (a := a) (x := x) hR j0 hb) dX3_drawLamp_3 ⟨Nat.le_of_ble_eq_true rfl, Nat.le_of_ble_eq_true rfl⟩ ⟨Nat.le_of_ble_eq_true rfl, Nat.le_of_ble_eq_true rfl⟩ rfl rfl rfl rfl rfl (Nat.le_of_ble_eq_true rfl) ?_
  rintro _ _ (⟨h1, rfl, rfl⟩ | ⟨h1, rfl, fn2, rfl⟩)
  · refine zr_istore (lv' := [(4, .int (0 : Int32)), (0, .ref o), (1, .int b), (2, .int i), (3, .int j0)]) hC dX3_drawLamp_6 (by decide) rfl ?_
    refine zr_iload 0 hC dX3_drawLamp_8 rfl ?_
    refine zr_if_eqT (tgt := 16) hC dX3_drawLamp_10 (by decide) (by decide) ?_
    refine zr_aload_n 1 hC dX3_drawLamp_16 rfl rfl ?_
    refine zr_get (v := .ref pp) 0 1 hC iu_X3 rfl dX3_drawLamp_17 fl_X3_19 (by decide) rfl rfl ?_
    refine zr_iload_n 3 hC dX3_drawLamp_20 rfl rfl ?_
    refine zr_iload_n 4 hC dX3_drawLamp_21 rfl rfl ?_
    refine zr_cVi 3 hC cv_X1_refusalAt ml_X3_98 (c_X1_refusalAt (a := ((zf_show a b j0).2.2)) (x := (ck_fnd x ((zf_show a b j0).2.1))) (rc_show hR b j0 _) i j0) dX3_drawLamp_22 ⟨Nat.le_of_ble_eq_true rfl, Nat.le_of_ble_eq_true rfl⟩ ⟨Nat.le_of_ble_eq_true rfl, Nat.le_of_ble_eq_true rfl⟩ rfl rfl rfl rfl rfl (Nat.le_of_ble_eq_true rfl) ?_
    rintro _ _ ⟨rfl, rfl⟩
    refine zr_istore (lv' := [(4, .int (zf_whyC (aa_sh ((zf_show a b j0).2.2)) i j0)), (0, .ref o), (1, .int b), (2, .int i), (3, .int j0)]) hC dX3_drawLamp_25 (by decide) rfl ?_
    refine zr_iload 0 hC dX3_drawLamp_27 rfl ?_
    refine zr_if_ne (tgt := 45) hC dX3_drawLamp_29 (by decide) (fun c29 => ?_) (fun c29 => ?_)
    · refine zr_aload_n 1 hC dX3_drawLamp_45 rfl rfl ?_
      refine zr_iload 0 hC dX3_drawLamp_46 rfl ?_
      refine zr_cVi 0 hC cv_X3_counted ml_X3_40 (c_X3_counted (a := ((zf_show a b j0).2.2)) (x := (ck_fnd x ((zf_show a b j0).2.1))) (zf_whyC (aa_sh ((zf_show a b j0).2.2)) i j0)) dX3_drawLamp_48 ⟨Nat.le_of_ble_eq_true rfl, Nat.le_of_ble_eq_true rfl⟩ ⟨Nat.le_of_ble_eq_true rfl, Nat.le_of_ble_eq_true rfl⟩ rfl rfl rfl rfl rfl (Nat.le_of_ble_eq_true rfl) ?_
      rintro _ _ ⟨rfl, rfl⟩
      refine zr_iret hC hr hk dX3_drawLamp_51 (by decide) (by decide) ⟨_, rfl, ?_⟩
      exact Or.inr (Or.inl ⟨h1, c29, rfl, cx_fnd (ck_fnd x ((zf_show a b j0).2.1)), rfl⟩)
    · refine zr_aload_n 1 hC dX3_drawLamp_32 rfl rfl ?_
      refine zr_get (v := .ref pp) 0 1 hC iu_X3 rfl dX3_drawLamp_33 fl_X3_19 (by decide) rfl rfl ?_
      refine zr_iload_n 3 hC dX3_drawLamp_36 rfl rfl ?_
      refine zr_iload_n 4 hC dX3_drawLamp_37 rfl rfl ?_
      refine zr_aload_n 1 hC dX3_drawLamp_38 rfl rfl ?_
      refine zr_get (v := .int ((zf_show a b j0).2.1)) 0 11 hC iu_X3 rfl dX3_drawLamp_39 fl_X3_66 (by decide) rfl rfl ?_
      refine zr_cVv 3 hC cv_X1_write ml_X3_166 (c_X1_write (a := ((zf_show a b j0).2.2)) (x := (ck_fnd x ((zf_show a b j0).2.1))) (rc_show hR b j0 _) ((zf_show a b j0).2.1) c29) dX3_drawLamp_42 ⟨Nat.le_of_ble_eq_true rfl, Nat.le_of_ble_eq_true rfl⟩ ⟨Nat.le_of_ble_eq_true rfl, Nat.le_of_ble_eq_true rfl⟩ rfl rfl rfl rfl rfl (Nat.le_of_ble_eq_true rfl) ?_
      rintro _ ⟨x', hx1, hx2, rfl, hQ⟩
      refine zr_aload_n 1 hC dX3_drawLamp_45 rfl rfl ?_
      refine zr_iload 0 hC dX3_drawLamp_46 rfl ?_
      refine zr_cVi 0 hC cv_X3_counted ml_X3_40 (c_X3_counted (a := (zf_wri ((zf_show a b j0).2.2) i j0 ((zf_show a b j0).2.1))) (x := x') (zf_whyC (aa_sh ((zf_show a b j0).2.2)) i j0)) dX3_drawLamp_48 ⟨Nat.le_of_ble_eq_true rfl, Nat.le_of_ble_eq_true rfl⟩ ⟨Nat.le_of_ble_eq_true rfl, Nat.le_of_ble_eq_true rfl⟩ rfl rfl rfl rfl rfl (Nat.le_of_ble_eq_true rfl) ?_
      rintro _ _ ⟨rfl, rfl⟩
      refine zr_iret hC hr hk dX3_drawLamp_51 (by decide) (by decide) ⟨_, rfl, ?_⟩
      exact Or.inl ⟨h1, c29, c29, x', hx2, by rw [c29, zf_cnt0], hQ⟩
  · refine zr_istore (lv' := [(4, .int ((zf_show a b j0).1)), (0, .ref o), (1, .int b), (2, .int i), (3, .int j0)]) hC dX3_drawLamp_6 (by decide) rfl ?_
    refine zr_iload 0 hC dX3_drawLamp_8 rfl ?_
    refine zr_if_eqF (tgt := 16) hC dX3_drawLamp_10 (by decide) h1 ?_
    refine zr_iload 0 hC dX3_drawLamp_13 rfl ?_
    refine zr_iret hC hr hk dX3_drawLamp_15 (by decide) (by decide) ⟨_, rfl, ?_⟩
    exact Or.inr (Or.inr ⟨h1, rfl, cx_fnd (ck_fnd x fn2), rfl⟩)
end ZA4
