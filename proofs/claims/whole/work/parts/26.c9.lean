section ZA9
variable {l : Launch} {D : va_G} {cI cII cF : ClassId} {o rk sp pp fp mo m1 m2 m3 m4 m5 m6 m7 m8 m9 : Nat}
variable {a : ax_A} {x : cx_X}
set_option maxRecDepth 100000 in
set_option maxHeartbeats 4000000 in
theorem c_X3_runsOn (hR : rc_Q cI cII a x) {y : Nat} {b p0 t0 s0 : Int32} (hy : y ∈ cx_L x) (hey : cx_ent x y = .inr (0, [.int b, .int p0, .int t0, .int s0])) (hb_b : zk_b b) : zz_Mi l D (zt cI cII cF) yX3_runsOn cX3_runsOn 4 (some .boolean) 4 87 0 0 [.ref o, .ref y] (cw_W o rk sp pp fp cII cF a x) (fun r w' => (¬ zf_why (aa_st a) (zl b 2) p0 = 0 ∧ r = 0 ∧ w' = (cw_W o rk sp pp fp cII cF (if zf_why (aa_st a) (zl b 2) p0 = 2 then as_dm (zf_cnt (zf_why (aa_st a) (zl b 2) p0) a) (aa_dm a + 1) else as_dO (zf_cnt (zf_why (aa_st a) (zl b 2) p0) a) (aa_dO a + 1)) x)) ∨ (zf_why (aa_st a) (zl b 2) p0 = 0 ∧ ∃ x', cx_K x x' ∧ ((zf_next t0 s0 (zf_val (aa_st a) (zl b 2) p0) = t0 ∧ r = 0 ∧ w' = (cw_W o rk sp pp fp cII cF (as_re (zf_set a (zl b 2) p0 (zf_num 2 (zf_next t0 s0 (zf_val (aa_st a) (zl b 2) p0)))) (aa_re a + 1)) x') ∧ rc_Q cI cII (zf_set a (zl b 2) p0 (zf_num 2 (zf_next t0 s0 (zf_val (aa_st a) (zl b 2) p0)))) x') ∨ (¬ zf_next t0 s0 (zf_val (aa_st a) (zl b 2) p0) = t0 ∧ r = 1 ∧ w' = (cw_W o rk sp pp fp cII cF (zf_set a (zl b 2) p0 (zf_num 2 (zf_next t0 s0 (zf_val (aa_st a) (zl b 2) p0)))) x') ∧ rc_Q cI cII (zf_set a (zl b 2) p0 (zf_num 2 (zf_next t0 s0 (zf_val (aa_st a) (zl b 2) p0)))) x')))) := by
  refine zz_mk (by decide) (Nat.le_of_ble_eq_true rfl) ?_
  intro p e s m below meth c A hC hr hk hnm
  have hC : zz_C p s m _ c A D (zt cI cII cF) 4 cX3_runsOn RX3 := hC
  refine zr_aload_n 0 hC dX3_runsOn_0 rfl rfl ?_
  refine zr_aload_n 1 hC dX3_runsOn_1 rfl rfl ?_
  obtain ⟨k0, hk0⟩ := cw_get (o := o) (rk := rk) (sp := sp) (pp := pp) (fp := fp) (cII := cII) (cF := cF) (a := a) (x := x) hy hey
  refine zr_getN (host := RX3) (v := .int b) k0 0 hC iu_X0 rfl dX3_runsOn_2 hC.2.2.2.2.2.2.2.1 (by decide) hk0 rfl ?_
  refine zr_iconst (v := (2 : Int32)) hC dX3_runsOn_5 rfl ?_
  refine zr_aload_n 1 hC dX3_runsOn_6 rfl rfl ?_
  refine zr_getN (host := RX3) (v := .int p0) k0 1 hC iu_X0 rfl dX3_runsOn_7 hC.2.2.2.2.2.2.2.2.1 (by decide) hk0 rfl ?_
  refine zr_cVi 0 hC cv_X3_look ml_X3_58 (c_X3_look (a := a) (x := x) hR p0 hb_b zk_s2) dX3_runsOn_10 ⟨Nat.le_of_ble_eq_true rfl, Nat.le_of_ble_eq_true rfl⟩ ⟨Nat.le_of_ble_eq_true rfl, Nat.le_of_ble_eq_true rfl⟩ rfl rfl rfl rfl rfl (Nat.le_of_ble_eq_true rfl) ?_
  rintro _ _ (⟨h1, rfl, rfl⟩ | ⟨h1, rfl, rfl⟩)
  · refine zr_istore_n (lv' := [(2, .int (0 : Int32)), (0, .ref o), (1, .ref y)]) hC dX3_runsOn_13 rfl (by decide) rfl ?_
    refine zr_iload_n 0 hC dX3_runsOn_14 rfl rfl ?_
    refine zr_if_eqT (tgt := 25) hC dX3_runsOn_15 (by decide) (by decide) ?_
    obtain ⟨k1, hk1⟩ := cw_get (o := o) (rk := rk) (sp := sp) (pp := pp) (fp := fp) (cII := cII) (cF := cF) (a := a) (x := (ck_fnd x (zf_val (aa_st a) (zl b 2) p0))) hy hey
    refine zr_aload_n 2 hC dX3_runsOn_25 rfl rfl ?_
    refine zr_aload_n 1 hC dX3_runsOn_26 rfl rfl ?_
    refine zr_get (v := .int (zf_val (aa_st a) (zl b 2) p0)) 0 11 hC iu_X3 rfl dX3_runsOn_27 fl_X3_66 (by decide) rfl rfl ?_
    refine zr_cVi k1 hC cv_X0_nextLevel ml_X3_180 (c_X0_nextLevel hk1 (zf_val (aa_st a) (zl b 2) p0)) dX3_runsOn_30 ⟨Nat.le_of_ble_eq_true rfl, Nat.le_of_ble_eq_true rfl⟩ ⟨Nat.le_of_ble_eq_true rfl, Nat.le_of_ble_eq_true rfl⟩ rfl rfl hk1 rfl rfl (Nat.le_of_ble_eq_true rfl) ?_
    rintro _ _ ⟨rfl, rfl⟩
    refine zr_istore_n (lv' := [(3, .int (zf_next t0 s0 (zf_val (aa_st a) (zl b 2) p0))), (2, .int (0 : Int32)), (0, .ref o), (1, .ref y)]) hC dX3_runsOn_33 rfl (by decide) rfl ?_
    refine zr_aload_n 2 hC dX3_runsOn_34 rfl rfl ?_
    refine zr_aload_n 3 hC dX3_runsOn_35 rfl rfl ?_
    refine zr_getN (host := RX3) (v := .int b) k1 0 hC iu_X0 rfl dX3_runsOn_36 hC.2.2.2.2.2.2.2.1 (by decide) hk1 rfl ?_
    refine zr_iconst (v := (2 : Int32)) hC dX3_runsOn_39 rfl ?_
    refine zr_aload_n 3 hC dX3_runsOn_40 rfl rfl ?_
    refine zr_getN (host := RX3) (v := .int p0) k1 1 hC iu_X0 rfl dX3_runsOn_41 hC.2.2.2.2.2.2.2.2.1 (by decide) hk1 rfl ?_
    refine zr_iload_n 0 hC dX3_runsOn_44 rfl rfl ?_
    refine zr_cVi 0 hC cv_X3_put ml_X3_62 (c_X3_put (a := a) (x := (ck_fnd x (zf_val (aa_st a) (zl b 2) p0))) hR p0 (zf_next t0 s0 (zf_val (aa_st a) (zl b 2) p0)) hb_b zk_s2) dX3_runsOn_45 ⟨Nat.le_of_ble_eq_true rfl, Nat.le_of_ble_eq_true rfl⟩ ⟨Nat.le_of_ble_eq_true rfl, Nat.le_of_ble_eq_true rfl⟩ rfl rfl rfl rfl rfl (Nat.le_of_ble_eq_true rfl) ?_
    rintro _ _ (⟨-, rfl, x2, hFx2, hKx2, rfl, hQx2⟩ | ⟨hno, -, -⟩)
    · refine zr_pop hC dX3_runsOn_48 rfl ?_
      refine zr_iload_n 0 hC dX3_runsOn_49 rfl rfl ?_
      refine zr_aload_n 3 hC dX3_runsOn_50 rfl rfl ?_
      obtain ⟨k2, hk2⟩ := cw_get (o := o) (rk := rk) (sp := sp) (pp := pp) (fp := fp) (cII := cII) (cF := cF) (a := (zf_set a (zl b 2) p0 (zf_num (2 : Int32) (zf_next t0 s0 (zf_val (aa_st a) (zl b 2) p0))))) (x := x2) (hKx2.2.2.1 y hy) (hKx2.2.2.2 y _ hy hey)
      refine zr_getN (host := RX3) (v := .int t0) k2 2 hC iu_X0 rfl dX3_runsOn_51 hC.2.2.2.2.2.2.2.2.2.1 (by decide) hk2 rfl ?_
      refine zr_icmp_ne (tgt := 69) hC dX3_runsOn_54 (by decide) (fun c54 => ?_) (fun c54 => ?_)
      · refine zr_iconst (v := (1 : Int32)) hC dX3_runsOn_69 rfl ?_
        refine zr_zret hC hr hk dX3_runsOn_70 rfl (by decide) (by decide) ⟨_, rfl, ?_⟩
        exact Or.inr ⟨h1, x2, hKx2, Or.inr ⟨c54, rfl, rfl, hQx2⟩⟩
      · refine zr_aload_n 2 hC dX3_runsOn_57 rfl rfl ?_
        refine zr_dup hC dX3_runsOn_58 rfl ?_
        refine zr_get (v := .int (aa_re a)) 0 4 hC iu_X3 rfl dX3_runsOn_59 fl_X3_134 (by decide) rfl rfl ?_
        refine zr_iconst (v := (1 : Int32)) hC dX3_runsOn_62 rfl ?_
        refine zr_iadd hC dX3_runsOn_63 ?_
        refine zr_put (w' := (cw_W o rk sp pp fp cII cF (as_re (zf_set a (zl b 2) p0 (zf_num (2 : Int32) (zf_next t0 s0 (zf_val (aa_st a) (zl b 2) p0)))) ((aa_re a) + (1 : Int32))) x2)) 0 4 hC iu_X3 tyX3_ok nmX3 rfl dX3_runsOn_64 fl_X3_134 (by decide) rfl rfl rfl rfl (Nat.le_of_ble_eq_true rfl) rfl ?_
        refine zr_iconst (v := (0 : Int32)) hC dX3_runsOn_67 rfl ?_
        refine zr_zret hC hr hk dX3_runsOn_68 rfl (by decide) (by decide) ⟨_, rfl, ?_⟩
        exact Or.inr ⟨h1, x2, hKx2, Or.inl ⟨c54, rfl, rfl, hQx2⟩⟩
    · exact absurd h1 hno
  · refine zr_istore_n (lv' := [(2, .int (zf_why (aa_st a) (zl b 2) p0)), (0, .ref o), (1, .ref y)]) hC dX3_runsOn_13 rfl (by decide) rfl ?_
    refine zr_iload_n 0 hC dX3_runsOn_14 rfl rfl ?_
    refine zr_if_eqF (tgt := 25) hC dX3_runsOn_15 (by decide) h1 ?_
    refine zr_aload_n 1 hC dX3_runsOn_18 rfl rfl ?_
    refine zr_iload_n 0 hC dX3_runsOn_19 rfl rfl ?_
    refine zr_cVv 0 hC cv_X3_countDropped ml_X3_176 (c_X3_countDropped (a := (zf_cnt (zf_why (aa_st a) (zl b 2) p0) a)) (x := x) (zf_why (aa_st a) (zl b 2) p0)) dX3_runsOn_20 ⟨Nat.le_of_ble_eq_true rfl, Nat.le_of_ble_eq_true rfl⟩ ⟨Nat.le_of_ble_eq_true rfl, Nat.le_of_ble_eq_true rfl⟩ rfl rfl rfl rfl rfl (Nat.le_of_ble_eq_true rfl) ?_
    rintro _ rfl
    refine zr_iconst (v := (0 : Int32)) hC dX3_runsOn_23 rfl ?_
    refine zr_zret hC hr hk dX3_runsOn_24 rfl (by decide) (by decide) ⟨_, rfl, ?_⟩
    exact Or.inl ⟨h1, rfl, rfl⟩
set_option maxRecDepth 100000 in
set_option maxHeartbeats 4000000 in
theorem c_X3_tick (hR : rc_R cI cII a x) : zz_Mi l D (zt cI cII cF) yX3_tick cX3_tick 4 (some .int) 5 110 0 0 [.ref o] (cw_W o rk sp pp fp cII cF a x) (fun r w' => zp_c o rk sp pp fp cI cII cF (zo_tick a) r w') := by
  refine zz_mk (by decide) (Nat.le_of_ble_eq_true rfl) ?_
  intro p e s m below meth c A hC hr hk hnm
  have hC : zz_C p s m _ c A D (zt cI cII cF) 4 cX3_tick RX3 := hC
  refine zr_iconst (v := (0 : Int32)) hC dX3_tick_0 rfl ?_
  refine zr_istore_n (lv' := [(1, .int (0 : Int32)), (0, .ref o)]) hC dX3_tick_1 rfl (by decide) rfl ?_
  refine zr_iconst (v := (0 : Int32)) hC dX3_tick_2 rfl ?_
  refine zr_istore_n (lv' := [(2, .int (0 : Int32)), (1, .int (0 : Int32)), (0, .ref o)]) hC dX3_tick_3 rfl (by decide) rfl ?_
  refine zr_sub [1, 0, 2] rfl ?_
  refine zr_loop (σ := Nat × Int32 × Int32 × ax_FD × ax_FD × ax_A × cx_X) (fun t => [(1, .int t.2.1), (2, .int t.2.2.1), (0, .ref o)]) (fun t => cw_W o rk sp pp fp cII cF t.2.2.2.2.2.1 t.2.2.2.2.2.2) (fun t => t.2.1 = nI t.2.2.2.2.1.length ∧ t.2.2.1 = nI t.1 ∧ t.2.2.2.2.1.length ≤ t.1 ∧ t.1 + t.2.2.2.1.length = (aa_fd a).length ∧ cx_run t.2.2.2.2.2.2 = nI (aa_fd a).length ∧ rc_Q cI cII t.2.2.2.2.2.1 t.2.2.2.2.2.2 ∧ rc_F t.2.2.2.1 (cx_g t.2.2.2.2.2.2) (cx_L t.2.2.2.2.2.2) (cx_ent t.2.2.2.2.2.2) t.1 ∧ rc_F t.2.2.2.2.1 (cx_g t.2.2.2.2.2.2) (cx_L t.2.2.2.2.2.2) (cx_ent t.2.2.2.2.2.2) 0 ∧ zf_tick (aa_fd a) [] a = zf_tick t.2.2.2.1 t.2.2.2.2.1 t.2.2.2.2.2.1) (fun t => t.2.2.2.1.length) ?_ (0, 0, 0, aa_fd a, [], a, x) ⟨rfl, rfl, Nat.le_refl _, Nat.zero_add _, hR.2.2.1, hR.1, hR.2.1, rc_F_nil, rfl⟩
  rintro ⟨j, i1, i2, rest, kept, a1, x1⟩ ⟨hi1, hi2, hkj, hN, hrun, hQ1, hFr, hFk, hsp⟩ ih
  try dsimp only at hi1
  try dsimp only at hi2
  try dsimp only at hkj
  try dsimp only at hN
  try dsimp only at hrun
  try dsimp only at hQ1
  try dsimp only at hFr
  try dsimp only at hFk
  try dsimp only at hsp
  show zz_Z _ _ _ _ _ _ _ _ _ _ _ _ _ _ 4 [(1, .int i1), (2, .int i2), (0, .ref o)] [] (cw_W o rk sp pp fp cII cF a1 x1) 0 0
  refine zr_iload_n 1 hC dX3_tick_4 rfl rfl ?_
  refine zr_aload_n 2 hC dX3_tick_5 rfl rfl ?_
  refine zr_get (v := .int (cx_run x1)) 0 3 hC iu_X3 rfl dX3_tick_6 fl_X3_83 (by decide) rfl rfl ?_
  refine zr_icmp_ge (tgt := 47) hC dX3_tick_9 (by decide) (fun c9 => ?_) (fun c9 => ?_)
  · have hend : rest = [] := by
      rw [hi2, hrun] at c9
      have := (nI_leI (by have := hR.2.2.2; omega) (by have := hR.2.2.2; omega)).mp c9
      exact List.eq_nil_of_length_eq_zero (by omega)
    subst hend
    refine zr_aload_n 2 hC dX3_tick_47 rfl rfl ?_
    refine zr_iload_n 0 hC dX3_tick_48 rfl rfl ?_
    refine zr_put (w' := (cw_W o rk sp pp fp cII cF a1 (ck_run x1 i1))) 0 3 hC iu_X3 tyX3_ok nmX3 rfl dX3_tick_49 fl_X3_83 (by decide) rfl rfl rfl rfl (Nat.le_of_ble_eq_true rfl) rfl ?_
    refine zr_aload_n 2 hC dX3_tick_52 rfl rfl ?_
    refine zr_iconst (v := (0 : Int32)) hC dX3_tick_53 rfl ?_
    refine zr_aload_n 2 hC dX3_tick_54 rfl rfl ?_
    refine zr_get (v := .int i1) 0 3 hC iu_X3 rfl dX3_tick_55 fl_X3_83 (by decide) rfl rfl ?_
    refine zr_cVi 0 hC cv_X3_leave ml_X3_36 (c_X3_leave (a := a1) (x := (ck_run x1 i1)) (0 : Int32) i1) dX3_tick_58 ⟨Nat.le_of_ble_eq_true rfl, Nat.le_of_ble_eq_true rfl⟩ ⟨Nat.le_of_ble_eq_true rfl, Nat.le_of_ble_eq_true rfl⟩ rfl rfl rfl rfl rfl (Nat.le_of_ble_eq_true rfl) ?_
    rintro rr _ ⟨hrr, rfl⟩
    subst rr
    refine zr_iret hC hr hk dX3_tick_61 (by decide) (by decide) ⟨_, rfl, ?_⟩
    exact zp_mw (a' := as_sta (as_fd a1 kept) 0) (x' := ck_run x1 i1) (by show (nI (zf_tick (aa_fd a) [] a).1.length, as_sta (as_fd (zf_tick (aa_fd a) [] a).2 (zf_tick (aa_fd a) [] a).1) 0) = _; rw [hsp, hi1]; rfl) ⟨hQ1, hFk, hi1, by show kept.length ≤ 16; have := hR.2.2.2; omega⟩ rfl
  · obtain ⟨⟨b, p0, t0, s0⟩, rest, rfl⟩ : ∃ q r, rest = q :: r := by
      cases rest with
      | nil =>
        refine absurd ?_ c9
        rw [hi2, hrun, ← hN]
        exact nI_le (by simp) (by have := hR.2.2.2; simp at hN; omega)
      | cons q r => exact ⟨q, r, rfl⟩
    obtain ⟨hb, y, hgy, hyL, hey⟩ := rc_F_head hFr
    have hj16 : j < 16 := by
      have := hR.2.2.2
      simp at hN
      omega
    refine zr_aload_n 2 hC dX3_tick_12 rfl rfl ?_
    refine zr_get (v := .ref fp) 0 2 hC iu_X3 rfl dX3_tick_13 fl_X3_25 (by decide) rfl rfl ?_
    refine zr_iload_n 1 hC dX3_tick_16 rfl rfl ?_
    refine zr_aaj (f := cx_g x1) (j := j) 4 2 hC dX3_tick_17 rfl rfl rfl hj16 hi2 (by decide) ?_
    refine zr_rfs hgy ?_
    refine zr_astore_n (lv' := [(3, .ref y), (1, .int i1), (2, .int i2), (0, .ref o)]) hC dX3_tick_18 rfl (by decide) rfl ?_
    refine zr_aload_n 0 hC dX3_tick_19 rfl rfl ?_
    refine zr_ifnull hC dX3_tick_20 ?_
    refine zr_aload_n 3 hC dX3_tick_23 rfl rfl ?_
    refine zr_aload_n 0 hC dX3_tick_24 rfl rfl ?_
    refine zr_cVi 0 hC cv_X3_runsOn ml_X3_89 (c_X3_runsOn (a := a1) (x := x1) hQ1 hyL hey hb) dX3_tick_25 ⟨Nat.le_of_ble_eq_true rfl, Nat.le_of_ble_eq_true rfl⟩ ⟨Nat.le_of_ble_eq_true rfl, Nat.le_of_ble_eq_true rfl⟩ rfl rfl rfl rfl rfl (Nat.le_of_ble_eq_true rfl) ?_
    rintro _ _ (⟨hw, rfl, rfl⟩ | ⟨hw, x2, hK2, ⟨hl2, rfl, rfl, hQ2⟩ | ⟨hl2, rfl, rfl, hQ2⟩⟩)
    · refine zr_if_eqT (tgt := 41) hC dX3_tick_28 (by decide) (by decide) ?_
      have hQd : rc_Q cI cII (if zf_why (aa_st a1) (zl b 2) p0 = 2 then as_dm (zf_cnt (zf_why (aa_st a1) (zl b 2) p0) a1) (aa_dm a1 + 1) else as_dO (zf_cnt (zf_why (aa_st a1) (zl b 2) p0) a1) (aa_dO a1 + 1)) x1 := by
        by_cases h2 : zf_why (aa_st a1) (zl b 2) p0 = 2
        · rw [if_pos h2]; exact hQ1
        · rw [if_neg h2]; exact hQ1
      have hspd : zf_tick (aa_fd a) [] a = zf_tick rest kept (if zf_why (aa_st a1) (zl b 2) p0 = 2 then as_dm (zf_cnt (zf_why (aa_st a1) (zl b 2) p0) a1) (aa_dm a1 + 1) else as_dO (zf_cnt (zf_why (aa_st a1) (zl b 2) p0) a1) (aa_dO a1 + 1)) := by
        rw [hsp]; show (if _ then (if _ then _ else _) else if _ then _ else _) = _; rw [if_neg hw]
        by_cases h2 : zf_why (aa_st a1) (zl b 2) p0 = 2
        · rw [if_pos h2, if_pos h2, h2]
        · rw [if_neg h2, if_neg h2]
      refine zr_iinc (v := (i2 + 1)) (lv' := [(2, .int (i2 + 1)), (3, .ref y), (1, .int i1), (0, .ref o)]) 2 hC dX3_tick_41 rfl rfl (by decide) rfl ?_
      refine zr_goto (tgt := 4) hC dX3_tick_44 (by decide) ?_
      refine zr_sub [2, 0, 3] rfl ?_
      exact ih (j + 1, i1, i2 + 1, rest, kept, (if zf_why (aa_st a1) (zl b 2) p0 = 2 then as_dm (zf_cnt (zf_why (aa_st a1) (zl b 2) p0) a1) (aa_dm a1 + 1) else as_dO (zf_cnt (zf_why (aa_st a1) (zl b 2) p0) a1) (aa_dO a1 + 1)), x1) ⟨hi1, by show i2 + 1 = nI (j + 1); rw [hi2, nI_1], by show kept.length ≤ j + 1; omega, by show j + 1 + rest.length = _; simp at hN; omega, hrun, hQd, rc_F_tail hFr, hFk, hspd⟩ (by show rest.length < ((b, p0, t0, s0) :: rest).length; simp)
    · refine zr_if_eqT (tgt := 41) hC dX3_tick_28 (by decide) (by decide) ?_
      refine zr_iinc (v := (i2 + 1)) (lv' := [(2, .int (i2 + 1)), (3, .ref y), (1, .int i1), (0, .ref o)]) 2 hC dX3_tick_41 rfl rfl (by decide) rfl ?_
      refine zr_goto (tgt := 4) hC dX3_tick_44 (by decide) ?_
      refine zr_sub [2, 0, 3] rfl ?_
      exact ih (j + 1, i1, i2 + 1, rest, kept, as_re (zf_set a1 (zl b 2) p0 (zf_num 2 (zf_next t0 s0 (zf_val (aa_st a1) (zl b 2) p0)))) (aa_re a1 + 1), x2) ⟨hi1, by show i2 + 1 = nI (j + 1); rw [hi2, nI_1], by show kept.length ≤ j + 1; omega, by show j + 1 + rest.length = _; simp at hN; omega, hK2.1.trans hrun, hQ2, by show rc_F _ (cx_g x2) _ _ _; rw [hK2.2.1]; exact (rc_F_tail hFr).keep hK2, by show rc_F _ (cx_g x2) _ _ _; rw [hK2.2.1]; exact hFk.keep hK2, by rw [hsp]; show (if _ then (if _ then _ else _) else if _ then _ else _) = _; rw [if_pos hw, if_pos hl2, zf_num2]⟩ (by show rest.length < ((b, p0, t0, s0) :: rest).length; simp)
    · refine zr_if_eqF (tgt := 41) hC dX3_tick_28 (by decide) (by decide) ?_
      refine zr_aload_n 3 hC dX3_tick_31 rfl rfl ?_
      refine zr_get (v := .ref fp) 0 2 hC iu_X3 rfl dX3_tick_32 fl_X3_25 (by decide) rfl rfl ?_
      refine zr_iload_n 1 hC dX3_tick_35 rfl rfl ?_
      refine zr_aload_n 0 hC dX3_tick_36 rfl rfl ?_
      obtain ⟨kq, hkq⟩ := cw_get (o := o) (rk := rk) (sp := sp) (pp := pp) (fp := fp) (cII := cII) (cF := cF) (a := (zf_set a1 (zl b 2) p0 (zf_num 2 (zf_next t0 s0 (zf_val (aa_st a1) (zl b 2) p0))))) (x := x2) (hK2.2.2.1 y hyL) (hK2.2.2.2 y _ hyL hey)
      refine zr_asjq (f := cx_g x2) (j := kept.length) (w' := (cw_W o rk sp pp fp cII cF (zf_set a1 (zl b 2) p0 (zf_num 2 (zf_next t0 s0 (zf_val (aa_st a1) (zl b 2) p0)))) (ck_g x2 (va_up (cx_g x2) kept.length (some y))))) 4 2 kq hC dX3_tick_37 rfl rfl hkq rfl (by omega) hi1 (by decide) rfl ?_
      have hr2 : rc_F rest (cx_g x2) (cx_L x2) (cx_ent x2) (j + 1) := by rw [hK2.2.1]; exact (rc_F_tail hFr).keep hK2
      have hk2F : rc_F kept (cx_g x2) (cx_L x2) (cx_ent x2) 0 := by rw [hK2.2.1]; exact hFk.keep hK2
      refine zr_iinc (v := (i1 + 1)) (lv' := [(1, .int (i1 + 1)), (3, .ref y), (2, .int i2), (0, .ref o)]) 1 hC dX3_tick_38 rfl rfl (by decide) rfl ?_
      refine zr_iinc (v := (i2 + 1)) (lv' := [(2, .int (i2 + 1)), (1, .int (i1 + 1)), (3, .ref y), (0, .ref o)]) 2 hC dX3_tick_41 rfl rfl (by decide) rfl ?_
      refine zr_goto (tgt := 4) hC dX3_tick_44 (by decide) ?_
      refine zr_sub [1, 0, 3] rfl ?_
      exact ih (j + 1, i1 + 1, i2 + 1, rest, kept ++ [(b, p0, t0, s0)], (zf_set a1 (zl b 2) p0 (zf_num 2 (zf_next t0 s0 (zf_val (aa_st a1) (zl b 2) p0)))), (ck_g x2 (va_up (cx_g x2) kept.length (some y)))) ⟨by show i1 + 1 = nI (kept ++ [(b, p0, t0, s0)]).length; rw [hi1, nI_1, List.length_append]; rfl, by show i2 + 1 = nI (j + 1); rw [hi2, nI_1], by show (kept ++ [(b, p0, t0, s0)]).length ≤ j + 1; rw [List.length_append]; show kept.length + 1 ≤ j + 1; omega, by show j + 1 + rest.length = _; simp at hN; omega, hK2.1.trans hrun, hQ2, rc_F_up hr2 (by omega), rc_F_snoc hk2F hb (hK2.2.2.1 y hyL) (hK2.2.2.2 y _ hyL hey), by rw [hsp]; show (if _ then (if _ then _ else _) else if _ then _ else _) = _; rw [if_pos hw, if_neg hl2, zf_num2]⟩ (by show rest.length < ((b, p0, t0, s0) :: rest).length; simp)
set_option maxRecDepth 100000 in
set_option maxHeartbeats 4000000 in
theorem c_X3_sheet (hR : rc_R cI cII a x) (n m0 : Int32) : zz_Mi l D (zt cI cII cF) yX3_sheet cX3_sheet 5 (some .int) 1 22 13 156 [.ref o, .int n, .int m0] (cw_W o rk sp pp fp cII cF a x) (fun r w' => zp_c o rk sp pp fp cI cII cF (zo_sheet a n m0) r w') := by
  refine zz_mk (by decide) (Nat.le_of_ble_eq_true rfl) ?_
  intro p e s m below meth c A hC hr hk hnm
  have hC : zz_C p s m _ c A D (zt cI cII cF) 5 cX3_sheet RX3 := hC
  refine zr_iload_n 1 hC dX3_sheet_0 rfl rfl ?_
  refine zr_bipush (v := (12 : Int32)) hC dX3_sheet_1 rfl ?_
  refine zr_icmp_gt (tgt := 12) hC dX3_sheet_3 (by decide) (fun c3 => ?_) (fun c3 => ?_)
  · refine zr_aload_n 0 hC dX3_sheet_12 rfl rfl ?_
    refine zr_iconst (v := (5 : Int32)) hC dX3_sheet_13 rfl ?_
    refine zr_iconst (v := (0 : Int32)) hC dX3_sheet_14 rfl ?_
    refine zr_cVi 0 hC cv_X3_leave ml_X3_36 (c_X3_leave (a := a) (x := x) (5 : Int32) (0 : Int32)) dX3_sheet_15 ⟨Nat.le_of_ble_eq_true rfl, Nat.le_of_ble_eq_true rfl⟩ ⟨Nat.le_of_ble_eq_true rfl, Nat.le_of_ble_eq_true rfl⟩ rfl rfl rfl rfl rfl (Nat.le_of_ble_eq_true rfl) ?_
    rintro rr _ ⟨hrr, rfl⟩
    subst rr
    refine zr_iret hC hr hk dX3_sheet_18 (by decide) (by decide) ⟨_, rfl, ?_⟩
    exact zp_mk (if_neg (fun h => absurd h.1 (Int32.not_le.mpr c3))) hR
  · refine zr_iload_n 2 hC dX3_sheet_6 rfl rfl ?_
    refine zr_bipush (v := (12 : Int32)) hC dX3_sheet_7 rfl ?_
    refine zr_icmp_le (tgt := 19) hC dX3_sheet_9 (by decide) (fun c9 => ?_) (fun c9 => ?_)
    · refine zr_iload_n 1 hC dX3_sheet_19 rfl rfl ?_
      refine zr_if_lt (tgt := 27) hC dX3_sheet_20 (by decide) (fun c20 => ?_) (fun c20 => ?_)
      · refine zr_aload_n 0 hC dX3_sheet_27 rfl rfl ?_
        refine zr_aload_n 0 hC dX3_sheet_28 rfl rfl ?_
        refine zr_iconst (v := (4 : Int32)) hC dX3_sheet_29 rfl ?_
        refine zr_cVi 0 hC cv_X3_counted ml_X3_40 (c_X3_counted (a := a) (x := x) (4 : Int32)) dX3_sheet_30 ⟨Nat.le_of_ble_eq_true rfl, Nat.le_of_ble_eq_true rfl⟩ ⟨Nat.le_of_ble_eq_true rfl, Nat.le_of_ble_eq_true rfl⟩ rfl rfl rfl rfl rfl (Nat.le_of_ble_eq_true rfl) ?_
        rintro _ _ ⟨rfl, rfl⟩
        refine zr_iconst (v := (0 : Int32)) hC dX3_sheet_33 rfl ?_
        refine zr_cVi 0 hC cv_X3_leave ml_X3_36 (c_X3_leave (a := (zf_cnt (4 : Int32) a)) (x := x) (4 : Int32) (0 : Int32)) dX3_sheet_34 ⟨Nat.le_of_ble_eq_true rfl, Nat.le_of_ble_eq_true rfl⟩ ⟨Nat.le_of_ble_eq_true rfl, Nat.le_of_ble_eq_true rfl⟩ rfl rfl rfl rfl rfl (Nat.le_of_ble_eq_true rfl) ?_
        rintro rr _ ⟨hrr, rfl⟩
        subst rr
        refine zr_iret hC hr hk dX3_sheet_37 (by decide) (by decide) ⟨_, rfl, ?_⟩
        exact zp_mk (by unfold zo_sheet; rw [if_pos ⟨Int32.not_lt.mp c3, c9⟩, if_neg (fun h => absurd h.1 (Int32.not_le.mpr c20))]) hR
      · refine zr_iload_n 2 hC dX3_sheet_23 rfl rfl ?_
        refine zr_if_ge (tgt := 38) hC dX3_sheet_24 (by decide) (fun c24 => ?_) (fun c24 => ?_)
        · refine zr_iload_n 1 hC dX3_sheet_38 rfl rfl ?_
          obtain ⟨N, hN, rfl⟩ := zn_of (n := 13) (M := 13) (by decide) ⟨Int32.not_lt.mp c20, Int32.lt_of_le_of_lt (Int32.not_lt.mp c3) (by decide)⟩
          obtain ⟨M, hM, rfl⟩ := zn_of (n := 13) (M := 13) (by decide) ⟨c24, Int32.lt_of_le_of_lt c9 (by decide)⟩
          refine zr_newA (N' := N) 1 hC dX3_sheet_39 cl_X3_93 rfl (nI_pos (by omega)) (nI_clamp (by omega)) (by omega) (by decide) (by show 0 + N ≤ 156; omega) (fun qa hDq => ?_)
          obtain ⟨hqaL, hpush⟩ := cw_push hDq
          refine zr_eq rfl hpush ?_
          refine zr_astore_n (lv' := [(3, .ref qa), (0, .ref o), (1, .int (nI N)), (2, .int (nI M))]) hC dX3_sheet_42 rfl (by decide) rfl ?_
          refine zr_iconst (v := (0 : Int32)) hC dX3_sheet_43 rfl ?_
          refine zr_istore (lv' := [(4, .int (0 : Int32)), (3, .ref qa), (0, .ref o), (1, .int (nI N)), (2, .int (nI M))]) hC dX3_sheet_44 (by decide) rfl ?_
          refine zr_wide (k := 1 + 0) (n := N + 0 * M) (by omega) (by omega) ?_
          have hrw0 : ¬ cx_rw x = some qa := fun h => hqaL (hR.1.2.2 qa h).1
          refine zr_loopC (σ := Nat × Int32 × cx_X × (Nat → Option Nat)) (fun t => [(4, .int t.2.1), (3, .ref qa), (0, .ref o), (1, .int (nI N)), (2, .int (nI M))]) (fun t => cw_W o rk sp pp fp cII cF a t.2.2.1) (fun t => 1 + t.1) (fun t => N + t.1 * M) (fun t => t.1 ≤ N ∧ t.2.1 = nI t.1 ∧ rc_U cI cII x qa N M t.1 t.2.2.1 t.2.2.2 ∧ rc_Q cI cII a t.2.2.1) (fun t => N - t.1) ?_ (0, 0, ck_ent (ck_L x (cx_L x ++ [qa])) (va_up (cx_ent x) qa (ze_q cII N (fun _ => none))), fun _ => none) ⟨Nat.zero_le _, rfl, ⟨cx_K.new hqaL, rfl, rfl, hrw0, List.mem_append_right _ (List.mem_singleton.mpr rfl), va_up_self _ _ _, fun j h => absurd h (Nat.not_lt_zero _), fun i j h => absurd h (Nat.not_lt_zero _)⟩, hR.1.grow _ hqaL⟩
          rintro ⟨k, i1, x1, hh⟩ ⟨hk1, hk2, hU, hQ1⟩ ih
          try dsimp only at hk1
          try dsimp only at hk2
          try dsimp only at hU
          try dsimp only at hQ1
          show zz_Z _ _ _ _ _ _ _ _ _ _ _ _ _ _ 46 [(4, .int i1), (3, .ref qa), (0, .ref o), (1, .int (nI N)), (2, .int (nI M))] [] (cw_W o rk sp pp fp cII cF a x1) (1 + k) (N + k * M)
          refine zr_iload 0 hC dX3_sheet_46 rfl ?_
          refine zr_iload_n 3 hC dX3_sheet_48 rfl rfl ?_
          refine zr_icmp_ge (tgt := 65) hC dX3_sheet_49 (by decide) (fun c49 => ?_) (fun c49 => ?_)
          · have hend : k = N := by
              rw [hk2] at c49
              have := (nI_leI (a := N) (by omega) (by omega)).mp c49
              omega
            refine zr_wide (k := 13) (n := 156) (by omega) (by have h1 : k * M ≤ 12 * 12 := Nat.mul_le_mul (by omega) (by omega); omega) ?_
            refine zr_aload_n 2 hC dX3_sheet_65 rfl rfl ?_
            refine zr_get (v := .ref pp) 0 1 hC iu_X3 rfl dX3_sheet_66 fl_X3_19 (by decide) rfl rfl ?_
            refine zr_aload_n 1 hC dX3_sheet_69 rfl rfl ?_
            refine zr_cVv 3 hC cv_X1_replace ml_X3_95 (c_X1_replace (a := a) (x := x1) (q := qa)) dX3_sheet_70 ⟨Nat.le_of_ble_eq_true rfl, Nat.le_of_ble_eq_true rfl⟩ ⟨Nat.le_of_ble_eq_true rfl, Nat.le_of_ble_eq_true rfl⟩ rfl rfl rfl rfl rfl (Nat.le_of_ble_eq_true rfl) ?_
            rintro _ rfl
            refine zr_aload_n 2 hC dX3_sheet_73 rfl rfl ?_
            refine zr_iconst (v := (0 : Int32)) hC dX3_sheet_74 rfl ?_
            refine zr_iload_n 3 hC dX3_sheet_75 rfl rfl ?_
            refine zr_iload_n 4 hC dX3_sheet_76 rfl rfl ?_
            refine zr_imul hC dX3_sheet_77 ?_
            refine zr_cVi 0 hC cv_X3_leave ml_X3_36 (c_X3_leave (a := a) (x := (ck_rw x1 (some qa))) (0 : Int32) ((nI N) * (nI M))) dX3_sheet_78 ⟨Nat.le_of_ble_eq_true rfl, Nat.le_of_ble_eq_true rfl⟩ ⟨Nat.le_of_ble_eq_true rfl, Nat.le_of_ble_eq_true rfl⟩ rfl rfl rfl rfl rfl (Nat.le_of_ble_eq_true rfl) ?_
            rintro rr _ ⟨hrr, rfl⟩
            subst rr
            refine zr_iret hC hr hk dX3_sheet_81 (by decide) (by decide) ⟨_, rfl, ?_⟩
            exact zp_mw (a' := as_sta (as_sh a (zf_sheetS N M)) 0) (x' := (ck_rw x1 (some qa))) (by unfold zo_sheet; rw [if_pos ⟨Int32.not_lt.mp c3, c9⟩, if_pos ⟨Int32.not_lt.mp c20, c24⟩, nI_clamp (by omega), nI_clamp (by omega)]) (hR.of (rc_sheet (a := a) (by rw [hend] at hU; exact hU) hQ1 (by omega) (by omega)) hU.1 rfl) rfl
          · have hlt : k < N := by
              rcases Nat.lt_or_ge k N with h0 | h0
              · exact h0
              · exact absurd (by rw [hk2]; exact nI_le h0 (by omega)) c49
            refine zr_aload_n 1 hC dX3_sheet_52 rfl rfl ?_
            refine zr_iload 0 hC dX3_sheet_53 rfl ?_
            refine zr_iload_n 4 hC dX3_sheet_55 rfl rfl ?_
            have hslot : N + k * M + M ≤ 156 := by
              have h1 : (k + 1) * M ≤ 12 * 12 := Nat.mul_le_mul (by omega) (by omega)
              rw [Nat.succ_mul] at h1
              omega
            refine zr_newa (N' := M) 0 hC dX3_sheet_56 ac_int rfl (nI_pos (by omega)) (nI_clamp (by omega)) (by omega) (by show 1 + k + 1 ≤ 13; omega) hslot (fun q hDq => ?_)
            obtain ⟨hqL, hpush⟩ := cw_push hDq
            refine zr_eq rfl hpush ?_
            have hqq : qa ≠ q := fun e0 => hqL (e0 ▸ hU.2.2.2.2.1)
            have hea : va_up (cx_ent x1) q (ze_i cI M (fun _ => 0)) qa = ze_q cII N hh := (va_up_ne _ _ hqq).trans hU.2.2.2.2.2.1
            obtain ⟨ka, hka⟩ := cw_get (o := o) (rk := rk) (sp := sp) (pp := pp) (fp := fp) (cII := cII) (cF := cF) (a := a) (x := (ck_ent (ck_L x1 (cx_L x1 ++ [q])) (va_up (cx_ent x1) q (ze_i cI M (fun _ => 0))))) (q := qa) (E := ze_q cII N hh) (List.mem_append_left _ hU.2.2.2.2.1) hea
            obtain ⟨kq, hkq⟩ := cw_get (o := o) (rk := rk) (sp := sp) (pp := pp) (fp := fp) (cII := cII) (cF := cF) (a := a) (x := (ck_ent (ck_L x1 (cx_L x1 ++ [q])) (va_up (cx_ent x1) q (ze_i cI M (fun _ => 0))))) (q := q) (E := ze_i cI M (fun _ => 0)) (List.mem_append_right _ (List.mem_singleton.mpr rfl)) (va_up_self _ _ _)
            refine zr_apart (fun hD9 => ?_)
            refine zr_asjA (j := k) (w' := (cw_W o rk sp pp fp cII cF a (ck_ent (ck_ent (ck_L x1 (cx_L x1 ++ [q])) (va_up (cx_ent x1) q (ze_i cI M (fun _ => 0)))) (va_up (va_up (cx_ent x1) q (ze_i cI M (fun _ => 0))) qa (ze_q cII N (va_up hh k (some q))))))) ka 1 0 kq hC dX3_sheet_58 hka rfl hkq rfl hlt hk2 (by omega) (cw_set (List.mem_append_left _ hU.2.2.2.2.1) hea hka hD9) ?_
            refine zr_iinc (v := (i1 + 1)) (lv' := [(4, .int (i1 + 1)), (3, .ref qa), (0, .ref o), (1, .int (nI N)), (2, .int (nI M))]) 0 hC dX3_sheet_59 rfl rfl (by decide) rfl ?_
            refine zr_goto (tgt := 46) hC dX3_sheet_62 (by decide) ?_
            refine zr_wide (k := 1 + (k + 1)) (n := N + (k + 1) * M) (by omega) (by rw [Nat.succ_mul]; omega) ?_
            exact ih (k + 1, i1 + 1, (ck_ent (ck_ent (ck_L x1 (cx_L x1 ++ [q])) (va_up (cx_ent x1) q (ze_i cI M (fun _ => 0)))) (va_up (va_up (cx_ent x1) q (ze_i cI M (fun _ => 0))) qa (ze_q cII N (va_up hh k (some q))))), va_up hh k (some q)) ⟨by show k + 1 ≤ N; omega, by show i1 + 1 = nI (k + 1); rw [hk2, nI_1], (rc_U.step hR.1 hU hQ1 hqL).1, (rc_U.step hR.1 hU hQ1 hqL).2⟩ (by show N - (k + 1) < N - k; omega)
        · refine zr_aload_n 0 hC dX3_sheet_27 rfl rfl ?_
          refine zr_aload_n 0 hC dX3_sheet_28 rfl rfl ?_
          refine zr_iconst (v := (4 : Int32)) hC dX3_sheet_29 rfl ?_
          refine zr_cVi 0 hC cv_X3_counted ml_X3_40 (c_X3_counted (a := a) (x := x) (4 : Int32)) dX3_sheet_30 ⟨Nat.le_of_ble_eq_true rfl, Nat.le_of_ble_eq_true rfl⟩ ⟨Nat.le_of_ble_eq_true rfl, Nat.le_of_ble_eq_true rfl⟩ rfl rfl rfl rfl rfl (Nat.le_of_ble_eq_true rfl) ?_
          rintro _ _ ⟨rfl, rfl⟩
          refine zr_iconst (v := (0 : Int32)) hC dX3_sheet_33 rfl ?_
          refine zr_cVi 0 hC cv_X3_leave ml_X3_36 (c_X3_leave (a := (zf_cnt (4 : Int32) a)) (x := x) (4 : Int32) (0 : Int32)) dX3_sheet_34 ⟨Nat.le_of_ble_eq_true rfl, Nat.le_of_ble_eq_true rfl⟩ ⟨Nat.le_of_ble_eq_true rfl, Nat.le_of_ble_eq_true rfl⟩ rfl rfl rfl rfl rfl (Nat.le_of_ble_eq_true rfl) ?_
          rintro rr _ ⟨hrr, rfl⟩
          subst rr
          refine zr_iret hC hr hk dX3_sheet_37 (by decide) (by decide) ⟨_, rfl, ?_⟩
          exact zp_mk (by unfold zo_sheet; rw [if_pos ⟨Int32.not_lt.mp c3, c9⟩, if_neg (fun h => absurd h.2 c24)]) hR
    · refine zr_aload_n 0 hC dX3_sheet_12 rfl rfl ?_
      refine zr_iconst (v := (5 : Int32)) hC dX3_sheet_13 rfl ?_
      refine zr_iconst (v := (0 : Int32)) hC dX3_sheet_14 rfl ?_
      refine zr_cVi 0 hC cv_X3_leave ml_X3_36 (c_X3_leave (a := a) (x := x) (5 : Int32) (0 : Int32)) dX3_sheet_15 ⟨Nat.le_of_ble_eq_true rfl, Nat.le_of_ble_eq_true rfl⟩ ⟨Nat.le_of_ble_eq_true rfl, Nat.le_of_ble_eq_true rfl⟩ rfl rfl rfl rfl rfl (Nat.le_of_ble_eq_true rfl) ?_
      rintro rr _ ⟨hrr, rfl⟩
      subst rr
      refine zr_iret hC hr hk dX3_sheet_18 (by decide) (by decide) ⟨_, rfl, ?_⟩
      exact zp_mk (if_neg (fun h => absurd h.2 c9)) hR
end ZA9
