section ZB6
variable {l : Launch} {D : va_G} {cI cII cF : ClassId} {o rk sp pp fp mo m1 m2 m3 m4 m5 m6 m7 m8 m9 : Nat}
variable {a : ax_A} {x : mx_X}
set_option maxRecDepth 100000 in
set_option maxHeartbeats 4000000 in
theorem c_X4_tick (hR : rm_R a x) : zz_Mi l D (zt cI cII cF) yX4_tick cX4_tick 9 (some .int) 3 69 0 0 [.ref mo] (mw_W mo m1 m2 m3 m4 m5 m6 m7 m8 m9 cI a x) (fun r w' => zp_m mo m1 m2 m3 m4 m5 m6 m7 m8 m9 cI (zo_tick a) r w') := by
  refine zz_mk (by decide) (Nat.le_of_ble_eq_true rfl) ?_
  intro p e s m below meth c A hC hr hk hnm
  have hC : zz_C p s m _ c A D (zt cI cII cF) 9 cX4_tick RX4 := hC
  refine zr_aload_n 0 hC dX4_tick_0 rfl rfl ?_
  refine zr_iconst (v := (0 : Int32)) hC dX4_tick_1 rfl ?_
  refine zr_put (w' := (mw_W mo m1 m2 m3 m4 m5 m6 m7 m8 m9 cI (as_sta a (0 : Int32)) x)) 0 13 hC iu_X4 tyX4_ok nmX4 rfl dX4_tick_2 fl_X4_41 (by decide) rfl rfl rfl rfl (Nat.le_of_ble_eq_true rfl) rfl ?_
  refine zr_iconst (v := (0 : Int32)) hC dX4_tick_5 rfl ?_
  refine zr_istore_n (lv' := [(1, .int (0 : Int32)), (0, .ref mo)]) hC dX4_tick_6 rfl (by decide) rfl ?_
  refine zr_iconst (v := (0 : Int32)) hC dX4_tick_7 rfl ?_
  refine zr_istore_n (lv' := [(2, .int (0 : Int32)), (1, .int (0 : Int32)), (0, .ref mo)]) hC dX4_tick_8 rfl (by decide) rfl ?_
  refine zr_sub [1, 0, 2] rfl ?_
  refine zr_loop (σ := Nat × Int32 × Int32 × ax_FD × ax_FD × ax_A × mx_X) (fun t => [(1, .int t.2.1), (2, .int t.2.2.1), (0, .ref mo)]) (fun t => mw_W mo m1 m2 m3 m4 m5 m6 m7 m8 m9 cI (as_sta t.2.2.2.2.2.1 0) t.2.2.2.2.2.2) (fun t => t.2.1 = nI t.2.2.2.2.1.length ∧ t.2.2.1 = nI t.1 ∧ t.2.2.2.2.1.length ≤ t.1 ∧ t.1 + t.2.2.2.1.length = (aa_fd a).length ∧ mx_fs t.2.2.2.2.2.2 = nI (aa_fd a).length ∧ rm_Q t.2.2.2.2.2.1 t.2.2.2.2.2.2 ∧ rm_F t.2.2.2.1 (mx_fb t.2.2.2.2.2.2) (mx_fl t.2.2.2.2.2.2) (mx_ft t.2.2.2.2.2.2) (mx_fg t.2.2.2.2.2.2) t.1 ∧ rm_F t.2.2.2.2.1 (mx_fb t.2.2.2.2.2.2) (mx_fl t.2.2.2.2.2.2) (mx_ft t.2.2.2.2.2.2) (mx_fg t.2.2.2.2.2.2) 0 ∧ zf_tick (aa_fd a) [] a = zf_tick t.2.2.2.1 t.2.2.2.2.1 t.2.2.2.2.2.1) (fun t => t.2.2.2.1.length) ?_ (0, 0, 0, aa_fd a, [], a, x) ⟨rfl, rfl, Nat.le_refl _, Nat.zero_add _, hR.2.2.1, hR.1, hR.2.1, rm_F_nil, rfl⟩
  rintro ⟨j, i1, i2, rest, kept, a1, x1⟩ ⟨hi1, hi2, hkj, hN, hrun, hQ1, hFr, hFk, hsp⟩ ih
  try dsimp only at hi1
  try dsimp only at hi2
  try dsimp only at hkj
  try dsimp only at hN
  try dsimp only at hrun
  try dsimp only at hQ1
  try dsimp only at hFr
  try dsimp only at hFk
  try dsimp only at hsp
  show zz_Z _ _ _ _ _ _ _ _ _ _ _ _ _ _ 9 [(1, .int i1), (2, .int i2), (0, .ref mo)] [] (mw_W mo m1 m2 m3 m4 m5 m6 m7 m8 m9 cI (as_sta a1 0) x1) 0 0
  refine zr_iload_n 1 hC dX4_tick_9 rfl rfl ?_
  refine zr_aload_n 2 hC dX4_tick_10 rfl rfl ?_
  refine zr_get (v := .int (mx_fs x1)) 0 8 hC iu_X4 rfl dX4_tick_11 fl_X4_106 (by decide) rfl rfl ?_
  refine zr_icmp_ge (tgt := 238) hC dX4_tick_14 (by decide) (fun c14 => ?_) (fun c14 => ?_)
  · have hend : rest = [] := by
      rw [hi2, hrun] at c14
      have := (nI_leI (by have := hR.2.2.2; omega) (by have := hR.2.2.2; omega)).mp c14
      exact List.eq_nil_of_length_eq_zero (by omega)
    subst hend
    refine zr_aload_n 2 hC dX4_tick_238 rfl rfl ?_
    refine zr_iload_n 0 hC dX4_tick_239 rfl rfl ?_
    refine zr_put (w' := (mw_W mo m1 m2 m3 m4 m5 m6 m7 m8 m9 cI (as_sta a1 0) (mk_fs x1 i1))) 0 8 hC iu_X4 tyX4_ok nmX4 rfl dX4_tick_240 fl_X4_106 (by decide) rfl rfl rfl rfl (Nat.le_of_ble_eq_true rfl) rfl ?_
    refine zr_aload_n 2 hC dX4_tick_243 rfl rfl ?_
    refine zr_get (v := .int i1) 0 8 hC iu_X4 rfl dX4_tick_244 fl_X4_106 (by decide) rfl rfl ?_
    refine zr_iret hC hr hk dX4_tick_247 (by decide) (by decide) ⟨_, rfl, ?_⟩
    exact zq_mw (a' := as_sta (as_fd a1 kept) 0) (x' := mk_fs x1 i1) (by show (nI (zf_tick (aa_fd a) [] a).1.length, as_sta (as_fd (zf_tick (aa_fd a) [] a).2 (zf_tick (aa_fd a) [] a).1) 0) = _; rw [hsp, hi1]; rfl) ⟨hQ1, hFk, hi1, by show kept.length ≤ 16; have := hR.2.2.2; omega⟩ rfl
  · obtain ⟨⟨b, p0, t0, s0⟩, rest, rfl⟩ : ∃ q r, rest = q :: r := by
      cases rest with
      | nil =>
        refine absurd ?_ c14
        rw [hi2, hrun, ← hN]
        exact nI_le (by simp) (by have := hR.2.2.2; simp at hN; omega)
      | cons q r => exact ⟨q, r, rfl⟩
    obtain ⟨hb_b, hfb, hfl, hft, hfg, hrt, hrs⟩ := rm_F_head hFr
    have hj16 : j < 16 := by
      have := hR.2.2.2
      simp at hN
      omega
    refine zr_aload_n 2 hC dX4_tick_17 rfl rfl ?_
    refine zr_get (v := .ref m6) 0 9 hC iu_X4 rfl dX4_tick_18 fl_X4_25 (by decide) rfl rfl ?_
    refine zr_iload_n 1 hC dX4_tick_21 rfl rfl ?_
    refine zr_iaj (f := (mx_fb x1)) (j := j) 6 0 hC dX4_tick_22 rfl rfl hj16 hi2 (by decide) ?_
    refine zr_tope hfb ?_
    refine zr_istore_n (lv' := [(3, .int b), (1, .int i1), (2, .int i2), (0, .ref mo)]) hC dX4_tick_23 rfl (by decide) rfl ?_
    refine zr_aload_n 3 hC dX4_tick_24 rfl rfl ?_
    refine zr_get (v := .ref m7) 0 10 hC iu_X4 rfl dX4_tick_25 fl_X4_28 (by decide) rfl rfl ?_
    refine zr_iload_n 2 hC dX4_tick_28 rfl rfl ?_
    refine zr_iaj (f := (mx_fl x1)) (j := j) 7 0 hC dX4_tick_29 rfl rfl hj16 hi2 (by decide) ?_
    refine zr_tope hfl ?_
    refine zr_istore (lv' := [(4, .int p0), (3, .int b), (1, .int i1), (2, .int i2), (0, .ref mo)]) hC dX4_tick_30 (by decide) rfl ?_
    refine zr_aload_n 4 hC dX4_tick_32 rfl rfl ?_
    refine zr_iload_n 1 hC dX4_tick_33 rfl rfl ?_
    refine zr_iconst (v := (2 : Int32)) hC dX4_tick_34 rfl ?_
    refine zr_iload 0 hC dX4_tick_35 rfl ?_
    refine zr_cVi 0 hC cv_X4_refused ml_X4_87 (c_X4_refused (a := (as_sta a1 0)) (x := x1) hQ1 p0 hb_b zk_s2) dX4_tick_37 ⟨Nat.le_of_ble_eq_true rfl, Nat.le_of_ble_eq_true rfl⟩ ⟨Nat.le_of_ble_eq_true rfl, Nat.le_of_ble_eq_true rfl⟩ rfl rfl rfl rfl rfl (Nat.le_of_ble_eq_true rfl) ?_
    rintro _ _ (⟨h1, rfl, rfl⟩ | ⟨h1, rfl, rfl⟩)
    · have h1 : (zf_why (aa_st a1) (zl b 2) p0) = 0 := h1
      refine zr_istore (lv' := [(5, .int (0 : Int32)), (4, .int p0), (3, .int b), (1, .int i1), (2, .int i2), (0, .ref mo)]) hC dX4_tick_40 (by decide) rfl ?_
      refine zr_aload_n 5 hC dX4_tick_42 rfl rfl ?_
      refine zr_dup hC dX4_tick_43 rfl ?_
      refine zr_get (v := .int (aa_dm a1)) 0 18 hC iu_X4 rfl dX4_tick_44 fl_X4_109 (by decide) rfl rfl ?_
      refine zr_iload 0 hC dX4_tick_47 rfl ?_
      refine zr_iconst (v := (2 : Int32)) hC dX4_tick_49 rfl ?_
      refine zr_icmp_ne (tgt := 57) hC dX4_tick_50 (by decide) (fun _ => ?_) (fun q => absurd q (by decide))
      refine zr_iconst (v := (0 : Int32)) hC dX4_tick_57 rfl ?_
      refine zr_iadd hC dX4_tick_58 ?_
      refine zr_put (w' := (mw_W mo m1 m2 m3 m4 m5 m6 m7 m8 m9 cI (as_dm (as_sta a1 0) ((aa_dm a1) + (0 : Int32))) x1)) 0 18 hC iu_X4 tyX4_ok nmX4 rfl dX4_tick_59 fl_X4_109 (by decide) rfl rfl rfl rfl (Nat.le_of_ble_eq_true rfl) rfl ?_
      refine zr_aload_n 5 hC dX4_tick_62 rfl rfl ?_
      refine zr_dup hC dX4_tick_63 rfl ?_
      refine zr_get (v := .int (aa_dO a1)) 0 19 hC iu_X4 rfl dX4_tick_64 fl_X4_112 (by decide) rfl rfl ?_
      refine zr_iload 0 hC dX4_tick_67 rfl ?_
      refine zr_iconst (v := (3 : Int32)) hC dX4_tick_69 rfl ?_
      refine zr_icmp_ne (tgt := 77) hC dX4_tick_70 (by decide) (fun _ => ?_) (fun q => absurd q (by decide))
      refine zr_iconst (v := (0 : Int32)) hC dX4_tick_77 rfl ?_
      refine zr_iadd hC dX4_tick_78 ?_
      refine zr_put (w' := (mw_W mo m1 m2 m3 m4 m5 m6 m7 m8 m9 cI (as_dO (as_dm (as_sta a1 0) ((aa_dm a1) + (0 : Int32))) ((aa_dO a1) + (0 : Int32))) x1)) 0 19 hC iu_X4 tyX4_ok nmX4 rfl dX4_tick_79 fl_X4_112 (by decide) rfl rfl rfl rfl (Nat.le_of_ble_eq_true rfl) rfl ?_
      refine zr_iload 0 hC dX4_tick_82 rfl ?_
      refine zr_if_eqT (tgt := 90) hC dX4_tick_84 (by decide) (by decide) ?_
      refine zr_eq (w' := (mw_W mo m1 m2 m3 m4 m5 m6 m7 m8 m9 cI (as_sta a1 0) x1)) rfl (by simp) ?_
      obtain ⟨-, -, -, -, -, -, -, -, -, -, -, hzk⟩ := rm_why0 hQ1 (zl_lt hb_b zk_s2) h1
      have hrv := hzk.2.1 (zl_mod hb_b zk_s2)
      refine zr_aload_n 5 hC dX4_tick_90 rfl rfl ?_
      refine zr_iload_n 2 hC dX4_tick_91 rfl rfl ?_
      refine zr_iconst (v := (2 : Int32)) hC dX4_tick_92 rfl ?_
      refine zr_iload 1 hC dX4_tick_93 rfl ?_
      refine zr_cVi 0 hC cv_X4_at ml_X4_90 (c_X4_at (a := (as_sta a1 0)) (x := x1) hQ1 hb_b zk_s2 (by assumption)) dX4_tick_95 ⟨Nat.le_of_ble_eq_true rfl, Nat.le_of_ble_eq_true rfl⟩ ⟨Nat.le_of_ble_eq_true rfl, Nat.le_of_ble_eq_true rfl⟩ rfl rfl rfl rfl rfl (Nat.le_of_ble_eq_true rfl) ?_
      rintro _ _ ⟨rfl, rfl⟩
      refine zr_istore (lv' := [(6, .int (zf_val (aa_st a1) (zl b 2) p0)), (5, .int (0 : Int32)), (4, .int p0), (3, .int b), (1, .int i1), (2, .int i2), (0, .ref mo)]) hC dX4_tick_98 (by decide) rfl ?_
      refine zr_aload_n 6 hC dX4_tick_100 rfl rfl ?_
      refine zr_get (v := .ref m8) 0 11 hC iu_X4 rfl dX4_tick_101 fl_X4_31 (by decide) rfl rfl ?_
      refine zr_iload_n 5 hC dX4_tick_104 rfl rfl ?_
      refine zr_iaj (f := (mx_ft x1)) (j := j) 8 0 hC dX4_tick_105 rfl rfl hj16 hi2 (by decide) ?_
      refine zr_tope hft ?_
      refine zr_iload 0 hC dX4_tick_106 rfl ?_
      refine zr_isub hC dX4_tick_108 ?_
      refine zr_istore (lv' := [(7, .int (t0 - (zf_val (aa_st a1) (zl b 2) p0))), (6, .int (zf_val (aa_st a1) (zl b 2) p0)), (5, .int (0 : Int32)), (4, .int p0), (3, .int b), (1, .int i1), (2, .int i2), (0, .ref mo)]) hC dX4_tick_109 (by decide) rfl ?_
      refine zr_iload 0 hC dX4_tick_111 rfl ?_
      refine zr_aload_n 7 hC dX4_tick_113 rfl rfl ?_
      refine zr_get (v := .ref m9) 0 12 hC iu_X4 rfl dX4_tick_114 fl_X4_34 (by decide) rfl rfl ?_
      refine zr_iload_n 6 hC dX4_tick_117 rfl rfl ?_
      refine zr_iaj (f := (mx_fg x1)) (j := j) 9 0 hC dX4_tick_118 rfl rfl hj16 hi2 (by decide) ?_
      refine zr_tope hfg ?_
      refine zr_icmp_le (tgt := 131) hC dX4_tick_119 (by decide) (fun c119 => ?_) (fun c119 => ?_)
      · refine zr_iload 0 hC dX4_tick_131 rfl ?_
        refine zr_aload_n 7 hC dX4_tick_133 rfl rfl ?_
        refine zr_get (v := .ref m9) 0 12 hC iu_X4 rfl dX4_tick_134 fl_X4_34 (by decide) rfl rfl ?_
        refine zr_iload_n 6 hC dX4_tick_137 rfl rfl ?_
        refine zr_iaj (f := (mx_fg x1)) (j := j) 9 0 hC dX4_tick_138 rfl rfl hj16 hi2 (by decide) ?_
        refine zr_tope hfg ?_
        refine zr_ineg hC dX4_tick_139 ?_
        refine zr_icmp_ge (tgt := 153) hC dX4_tick_140 (by decide) (fun c140 => ?_) (fun c140 => ?_)
        · refine zr_iload 0 hC dX4_tick_153 rfl ?_
          refine zr_istore (lv' := [(8, .int (t0 - (zf_val (aa_st a1) (zl b 2) p0))), (7, .int (t0 - (zf_val (aa_st a1) (zl b 2) p0))), (6, .int (zf_val (aa_st a1) (zl b 2) p0)), (5, .int (0 : Int32)), (4, .int p0), (3, .int b), (1, .int i1), (2, .int i2), (0, .ref mo)]) hC dX4_tick_155 (by decide) rfl ?_
          refine zr_aload_n 8 hC dX4_tick_157 rfl rfl ?_
          refine zr_iload_n 5 hC dX4_tick_158 rfl rfl ?_
          refine zr_iconst (v := (2 : Int32)) hC dX4_tick_159 rfl ?_
          refine zr_iload 4 hC dX4_tick_160 rfl ?_
          refine zr_iload 2 hC dX4_tick_162 rfl ?_
          refine zr_iload 0 hC dX4_tick_164 rfl ?_
          refine zr_iadd hC dX4_tick_166 ?_
          refine zr_cVv 0 hC cv_X4_put ml_X4_93 (c_X4_put (a := (as_sta a1 0)) (x := x1) hQ1 ((zf_val (aa_st a1) (zl b 2) p0) + (t0 - (zf_val (aa_st a1) (zl b 2) p0))) hb_b zk_s2 h1) dX4_tick_167 ⟨Nat.le_of_ble_eq_true rfl, Nat.le_of_ble_eq_true rfl⟩ ⟨Nat.le_of_ble_eq_true rfl, Nat.le_of_ble_eq_true rfl⟩ rfl rfl rfl rfl rfl (Nat.le_of_ble_eq_true rfl) ?_
          rintro _ ⟨p2, rfl, hQ2⟩
          have hnv := zn_near hrt hrv c119 c140 hrs
          have hnum : ((zf_val (aa_st a1) (zl b 2) p0) + (t0 - (zf_val (aa_st a1) (zl b 2) p0))) = (zf_next t0 s0 (zf_val (aa_st a1) (zl b 2) p0)) := by rw [hnv, Int32.add_comm, Int32.sub_add_cancel]
          rw [hnum, zf_num2] at hQ2
          rw [hnum, zf_num2]
          refine zr_eq (w' := (mw_W mo m1 m2 m3 m4 m5 m6 m7 m8 m9 cI (as_sta (zf_set a1 (zl b 2) p0 (zf_lev (zf_next t0 s0 (zf_val (aa_st a1) (zl b 2) p0)))) 0) (mk_pl x1 p2))) rfl rfl ?_
          refine zr_iload 0 hC dX4_tick_170 rfl ?_
          refine zr_iload 1 hC dX4_tick_172 rfl ?_
          refine zr_icmp_ne (tgt := 190) hC dX4_tick_174 (by decide) (fun h => absurd rfl h) (fun _ => ?_)
          have hnx : (zf_next t0 s0 (zf_val (aa_st a1) (zl b 2) p0)) = t0 := hnv
          refine zr_aload_n 8 hC dX4_tick_177 rfl rfl ?_
          refine zr_dup hC dX4_tick_178 rfl ?_
          refine zr_get (v := .int (aa_re a1)) 0 17 hC iu_X4 rfl dX4_tick_179 fl_X4_115 (by decide) rfl rfl ?_
          refine zr_iconst (v := (1 : Int32)) hC dX4_tick_182 rfl ?_
          refine zr_iadd hC dX4_tick_183 ?_
          refine zr_put (w' := (mw_W mo m1 m2 m3 m4 m5 m6 m7 m8 m9 cI (as_re (as_sta (zf_set a1 (zl b 2) p0 (zf_lev (zf_next t0 s0 (zf_val (aa_st a1) (zl b 2) p0)))) 0) ((aa_re a1) + (1 : Int32))) (mk_pl x1 p2))) 0 17 hC iu_X4 tyX4_ok nmX4 rfl dX4_tick_184 fl_X4_115 (by decide) rfl rfl rfl rfl (Nat.le_of_ble_eq_true rfl) rfl ?_
          refine zr_goto (tgt := 232) hC dX4_tick_187 (by decide) ?_
          refine zr_iinc (v := (i2 + 1)) (lv' := [(2, .int (i2 + 1)), (8, .int (t0 - (zf_val (aa_st a1) (zl b 2) p0))), (7, .int (t0 - (zf_val (aa_st a1) (zl b 2) p0))), (6, .int (zf_val (aa_st a1) (zl b 2) p0)), (5, .int (0 : Int32)), (4, .int p0), (3, .int b), (1, .int i1), (0, .ref mo)]) 7 hC dX4_tick_232 rfl rfl (by decide) rfl ?_
          refine zr_goto (tgt := 9) hC dX4_tick_235 (by decide) ?_
          refine zr_sub [7, 0, 8] rfl ?_
          exact ih (j + 1, i1, i2 + 1, rest, kept, as_re (zf_set a1 (zl b 2) p0 (zf_lev (zf_next t0 s0 (zf_val (aa_st a1) (zl b 2) p0)))) (aa_re a1 + 1), (mk_pl x1 p2)) ⟨hi1, by show i2 + 1 = nI (j + 1); rw [hi2, nI_1], by show kept.length ≤ j + 1; omega, by show j + 1 + rest.length = _; simp at hN; omega, hrun, hQ2, rm_F_tail hFr, hFk, by rw [hsp]; show (if _ then (if _ then _ else _) else if _ then _ else _) = _; rw [if_pos h1, if_pos hnx]⟩ (by show rest.length < ((b, p0, t0, s0) :: rest).length; simp)
        · refine zr_aload_n 7 hC dX4_tick_143 rfl rfl ?_
          refine zr_get (v := .ref m9) 0 12 hC iu_X4 rfl dX4_tick_144 fl_X4_34 (by decide) rfl rfl ?_
          refine zr_iload_n 6 hC dX4_tick_147 rfl rfl ?_
          refine zr_iaj (f := (mx_fg x1)) (j := j) 9 0 hC dX4_tick_148 rfl rfl hj16 hi2 (by decide) ?_
          refine zr_tope hfg ?_
          refine zr_ineg hC dX4_tick_149 ?_
          refine zr_goto (tgt := 155) hC dX4_tick_150 (by decide) ?_
          refine zr_istore (lv' := [(8, .int (0 - s0)), (7, .int (t0 - (zf_val (aa_st a1) (zl b 2) p0))), (6, .int (zf_val (aa_st a1) (zl b 2) p0)), (5, .int (0 : Int32)), (4, .int p0), (3, .int b), (1, .int i1), (2, .int i2), (0, .ref mo)]) hC dX4_tick_155 (by decide) rfl ?_
          refine zr_aload_n 8 hC dX4_tick_157 rfl rfl ?_
          refine zr_iload_n 5 hC dX4_tick_158 rfl rfl ?_
          refine zr_iconst (v := (2 : Int32)) hC dX4_tick_159 rfl ?_
          refine zr_iload 4 hC dX4_tick_160 rfl ?_
          refine zr_iload 2 hC dX4_tick_162 rfl ?_
          refine zr_iload 0 hC dX4_tick_164 rfl ?_
          refine zr_iadd hC dX4_tick_166 ?_
          refine zr_cVv 0 hC cv_X4_put ml_X4_93 (c_X4_put (a := (as_sta a1 0)) (x := x1) hQ1 ((zf_val (aa_st a1) (zl b 2) p0) + (0 - s0)) hb_b zk_s2 h1) dX4_tick_167 ⟨Nat.le_of_ble_eq_true rfl, Nat.le_of_ble_eq_true rfl⟩ ⟨Nat.le_of_ble_eq_true rfl, Nat.le_of_ble_eq_true rfl⟩ rfl rfl rfl rfl rfl (Nat.le_of_ble_eq_true rfl) ?_
          rintro _ ⟨p2, rfl, hQ2⟩
          have hnx0 := zn_below hrt hrv c140 hrs
          have hnv := hnx0.1
          have hnum : ((zf_val (aa_st a1) (zl b 2) p0) + (0 - s0)) = (zf_next t0 s0 (zf_val (aa_st a1) (zl b 2) p0)) := by rw [hnv]
          rw [hnum, zf_num2] at hQ2
          rw [hnum, zf_num2]
          refine zr_eq (w' := (mw_W mo m1 m2 m3 m4 m5 m6 m7 m8 m9 cI (as_sta (zf_set a1 (zl b 2) p0 (zf_lev (zf_next t0 s0 (zf_val (aa_st a1) (zl b 2) p0)))) 0) (mk_pl x1 p2))) rfl rfl ?_
          refine zr_iload 0 hC dX4_tick_170 rfl ?_
          refine zr_iload 1 hC dX4_tick_172 rfl ?_
          refine zr_icmp_ne (tgt := 190) hC dX4_tick_174 (by decide) (fun _ => ?_) (fun h9 => ?_)
          · have hnx : ¬ (zf_next t0 s0 (zf_val (aa_st a1) (zl b 2) p0)) = t0 := by rw [hnv]; exact hnx0.2
            refine zr_aload_n 8 hC dX4_tick_190 rfl rfl ?_
            refine zr_get (v := .ref m6) 0 9 hC iu_X4 rfl dX4_tick_191 fl_X4_25 (by decide) rfl rfl ?_
            refine zr_iload_n 6 hC dX4_tick_194 rfl rfl ?_
            refine zr_iload_n 5 hC dX4_tick_195 rfl rfl ?_
            refine zr_iasj (f := (mx_fb x1)) (j := kept.length) (w' := (mw_W mo m1 m2 m3 m4 m5 m6 m7 m8 m9 cI (as_sta (zf_set a1 (zl b 2) p0 (zf_lev (zf_next t0 s0 (zf_val (aa_st a1) (zl b 2) p0)))) 0) (mk_fb (mk_pl x1 p2) (upd (mx_fb x1) kept.length b)))) 6 0 hC dX4_tick_196 rfl rfl (by omega) hi1 (by decide) rfl ?_
            refine zr_aload_n 8 hC dX4_tick_197 rfl rfl ?_
            refine zr_get (v := .ref m7) 0 10 hC iu_X4 rfl dX4_tick_198 fl_X4_28 (by decide) rfl rfl ?_
            refine zr_iload_n 6 hC dX4_tick_201 rfl rfl ?_
            refine zr_iload 4 hC dX4_tick_202 rfl ?_
            refine zr_iasj (f := (mx_fl x1)) (j := kept.length) (w' := (mw_W mo m1 m2 m3 m4 m5 m6 m7 m8 m9 cI (as_sta (zf_set a1 (zl b 2) p0 (zf_lev (zf_next t0 s0 (zf_val (aa_st a1) (zl b 2) p0)))) 0) (mk_fl (mk_fb (mk_pl x1 p2) (upd (mx_fb x1) kept.length b)) (upd (mx_fl x1) kept.length p0)))) 7 0 hC dX4_tick_204 rfl rfl (by omega) hi1 (by decide) rfl ?_
            refine zr_aload_n 8 hC dX4_tick_205 rfl rfl ?_
            refine zr_get (v := .ref m8) 0 11 hC iu_X4 rfl dX4_tick_206 fl_X4_31 (by decide) rfl rfl ?_
            refine zr_iload_n 6 hC dX4_tick_209 rfl rfl ?_
            refine zr_aload_n 8 hC dX4_tick_210 rfl rfl ?_
            refine zr_get (v := .ref m8) 0 11 hC iu_X4 rfl dX4_tick_211 fl_X4_31 (by decide) rfl rfl ?_
            refine zr_iload_n 7 hC dX4_tick_214 rfl rfl ?_
            refine zr_iaj (f := (mx_ft x1)) (j := j) 8 0 hC dX4_tick_215 rfl rfl hj16 hi2 (by decide) ?_
            refine zr_tope hft ?_
            refine zr_iasj (f := (mx_ft x1)) (j := kept.length) (w' := (mw_W mo m1 m2 m3 m4 m5 m6 m7 m8 m9 cI (as_sta (zf_set a1 (zl b 2) p0 (zf_lev (zf_next t0 s0 (zf_val (aa_st a1) (zl b 2) p0)))) 0) (mk_ft (mk_fl (mk_fb (mk_pl x1 p2) (upd (mx_fb x1) kept.length b)) (upd (mx_fl x1) kept.length p0)) (upd (mx_ft x1) kept.length t0)))) 8 0 hC dX4_tick_216 rfl rfl (by omega) hi1 (by decide) rfl ?_
            refine zr_aload_n 8 hC dX4_tick_217 rfl rfl ?_
            refine zr_get (v := .ref m9) 0 12 hC iu_X4 rfl dX4_tick_218 fl_X4_34 (by decide) rfl rfl ?_
            refine zr_iload_n 6 hC dX4_tick_221 rfl rfl ?_
            refine zr_aload_n 8 hC dX4_tick_222 rfl rfl ?_
            refine zr_get (v := .ref m9) 0 12 hC iu_X4 rfl dX4_tick_223 fl_X4_34 (by decide) rfl rfl ?_
            refine zr_iload_n 7 hC dX4_tick_226 rfl rfl ?_
            refine zr_iaj (f := (mx_fg x1)) (j := j) 9 0 hC dX4_tick_227 rfl rfl hj16 hi2 (by decide) ?_
            refine zr_tope hfg ?_
            refine zr_iasj (f := (mx_fg x1)) (j := kept.length) (w' := (mw_W mo m1 m2 m3 m4 m5 m6 m7 m8 m9 cI (as_sta (zf_set a1 (zl b 2) p0 (zf_lev (zf_next t0 s0 (zf_val (aa_st a1) (zl b 2) p0)))) 0) (mk_fg (mk_ft (mk_fl (mk_fb (mk_pl x1 p2) (upd (mx_fb x1) kept.length b)) (upd (mx_fl x1) kept.length p0)) (upd (mx_ft x1) kept.length t0)) (upd (mx_fg x1) kept.length s0)))) 9 0 hC dX4_tick_228 rfl rfl (by omega) hi1 (by decide) rfl ?_
            refine zr_iinc (v := (i1 + 1)) (lv' := [(1, .int (i1 + 1)), (8, .int (0 - s0)), (7, .int (t0 - (zf_val (aa_st a1) (zl b 2) p0))), (6, .int (zf_val (aa_st a1) (zl b 2) p0)), (5, .int (0 : Int32)), (4, .int p0), (3, .int b), (2, .int i2), (0, .ref mo)]) 6 hC dX4_tick_229 rfl rfl (by decide) rfl ?_
            refine zr_iinc (v := (i2 + 1)) (lv' := [(2, .int (i2 + 1)), (1, .int (i1 + 1)), (8, .int (0 - s0)), (7, .int (t0 - (zf_val (aa_st a1) (zl b 2) p0))), (6, .int (zf_val (aa_st a1) (zl b 2) p0)), (5, .int (0 : Int32)), (4, .int p0), (3, .int b), (0, .ref mo)]) 7 hC dX4_tick_232 rfl rfl (by decide) rfl ?_
            refine zr_goto (tgt := 9) hC dX4_tick_235 (by decide) ?_
            refine zr_sub [1, 0, 8] rfl ?_
            exact ih (j + 1, i1 + 1, i2 + 1, rest, kept ++ [(b, p0, t0, s0)], (zf_set a1 (zl b 2) p0 (zf_lev (zf_next t0 s0 (zf_val (aa_st a1) (zl b 2) p0)))), (mk_fg (mk_ft (mk_fl (mk_fb (mk_pl x1 p2) (upd (mx_fb x1) kept.length b)) (upd (mx_fl x1) kept.length p0)) (upd (mx_ft x1) kept.length t0)) (upd (mx_fg x1) kept.length s0))) ⟨by show i1 + 1 = nI (kept ++ [(b, p0, t0, s0)]).length; rw [hi1, nI_1, List.length_append]; rfl, by show i2 + 1 = nI (j + 1); rw [hi2, nI_1], by show (kept ++ [(b, p0, t0, s0)]).length ≤ j + 1; rw [List.length_append]; show kept.length + 1 ≤ j + 1; omega, by show j + 1 + rest.length = _; simp at hN; omega, hrun, hQ2, rm_F_up (rm_F_tail hFr) (by omega), rm_F_snoc (q := (b, p0, t0, s0)) hFk hb_b hrt hrs, by rw [hsp]; show (if _ then (if _ then _ else _) else if _ then _ else _) = _; rw [if_pos h1, if_neg hnx]⟩ (by show rest.length < ((b, p0, t0, s0) :: rest).length; simp)
          · exact absurd (by rw [← h9]; exact Int32.le_refl _) c140
      · refine zr_aload_n 7 hC dX4_tick_122 rfl rfl ?_
        refine zr_get (v := .ref m9) 0 12 hC iu_X4 rfl dX4_tick_123 fl_X4_34 (by decide) rfl rfl ?_
        refine zr_iload_n 6 hC dX4_tick_126 rfl rfl ?_
        refine zr_iaj (f := (mx_fg x1)) (j := j) 9 0 hC dX4_tick_127 rfl rfl hj16 hi2 (by decide) ?_
        refine zr_tope hfg ?_
        refine zr_goto (tgt := 155) hC dX4_tick_128 (by decide) ?_
        refine zr_istore (lv' := [(8, .int s0), (7, .int (t0 - (zf_val (aa_st a1) (zl b 2) p0))), (6, .int (zf_val (aa_st a1) (zl b 2) p0)), (5, .int (0 : Int32)), (4, .int p0), (3, .int b), (1, .int i1), (2, .int i2), (0, .ref mo)]) hC dX4_tick_155 (by decide) rfl ?_
        refine zr_aload_n 8 hC dX4_tick_157 rfl rfl ?_
        refine zr_iload_n 5 hC dX4_tick_158 rfl rfl ?_
        refine zr_iconst (v := (2 : Int32)) hC dX4_tick_159 rfl ?_
        refine zr_iload 4 hC dX4_tick_160 rfl ?_
        refine zr_iload 2 hC dX4_tick_162 rfl ?_
        refine zr_iload 0 hC dX4_tick_164 rfl ?_
        refine zr_iadd hC dX4_tick_166 ?_
        refine zr_cVv 0 hC cv_X4_put ml_X4_93 (c_X4_put (a := (as_sta a1 0)) (x := x1) hQ1 ((zf_val (aa_st a1) (zl b 2) p0) + s0) hb_b zk_s2 h1) dX4_tick_167 ⟨Nat.le_of_ble_eq_true rfl, Nat.le_of_ble_eq_true rfl⟩ ⟨Nat.le_of_ble_eq_true rfl, Nat.le_of_ble_eq_true rfl⟩ rfl rfl rfl rfl rfl (Nat.le_of_ble_eq_true rfl) ?_
        rintro _ ⟨p2, rfl, hQ2⟩
        have hnx0 := zn_above hrt hrv c119 hrs
        have hnv := hnx0.1
        have hnum : ((zf_val (aa_st a1) (zl b 2) p0) + s0) = (zf_next t0 s0 (zf_val (aa_st a1) (zl b 2) p0)) := by rw [hnv]
        rw [hnum, zf_num2] at hQ2
        rw [hnum, zf_num2]
        refine zr_eq (w' := (mw_W mo m1 m2 m3 m4 m5 m6 m7 m8 m9 cI (as_sta (zf_set a1 (zl b 2) p0 (zf_lev (zf_next t0 s0 (zf_val (aa_st a1) (zl b 2) p0)))) 0) (mk_pl x1 p2))) rfl rfl ?_
        refine zr_iload 0 hC dX4_tick_170 rfl ?_
        refine zr_iload 1 hC dX4_tick_172 rfl ?_
        refine zr_icmp_ne (tgt := 190) hC dX4_tick_174 (by decide) (fun _ => ?_) (fun h9 => ?_)
        · have hnx : ¬ (zf_next t0 s0 (zf_val (aa_st a1) (zl b 2) p0)) = t0 := by rw [hnv]; exact hnx0.2
          refine zr_aload_n 8 hC dX4_tick_190 rfl rfl ?_
          refine zr_get (v := .ref m6) 0 9 hC iu_X4 rfl dX4_tick_191 fl_X4_25 (by decide) rfl rfl ?_
          refine zr_iload_n 6 hC dX4_tick_194 rfl rfl ?_
          refine zr_iload_n 5 hC dX4_tick_195 rfl rfl ?_
          refine zr_iasj (f := (mx_fb x1)) (j := kept.length) (w' := (mw_W mo m1 m2 m3 m4 m5 m6 m7 m8 m9 cI (as_sta (zf_set a1 (zl b 2) p0 (zf_lev (zf_next t0 s0 (zf_val (aa_st a1) (zl b 2) p0)))) 0) (mk_fb (mk_pl x1 p2) (upd (mx_fb x1) kept.length b)))) 6 0 hC dX4_tick_196 rfl rfl (by omega) hi1 (by decide) rfl ?_
          refine zr_aload_n 8 hC dX4_tick_197 rfl rfl ?_
          refine zr_get (v := .ref m7) 0 10 hC iu_X4 rfl dX4_tick_198 fl_X4_28 (by decide) rfl rfl ?_
          refine zr_iload_n 6 hC dX4_tick_201 rfl rfl ?_
          refine zr_iload 4 hC dX4_tick_202 rfl ?_
          refine zr_iasj (f := (mx_fl x1)) (j := kept.length) (w' := (mw_W mo m1 m2 m3 m4 m5 m6 m7 m8 m9 cI (as_sta (zf_set a1 (zl b 2) p0 (zf_lev (zf_next t0 s0 (zf_val (aa_st a1) (zl b 2) p0)))) 0) (mk_fl (mk_fb (mk_pl x1 p2) (upd (mx_fb x1) kept.length b)) (upd (mx_fl x1) kept.length p0)))) 7 0 hC dX4_tick_204 rfl rfl (by omega) hi1 (by decide) rfl ?_
          refine zr_aload_n 8 hC dX4_tick_205 rfl rfl ?_
          refine zr_get (v := .ref m8) 0 11 hC iu_X4 rfl dX4_tick_206 fl_X4_31 (by decide) rfl rfl ?_
          refine zr_iload_n 6 hC dX4_tick_209 rfl rfl ?_
          refine zr_aload_n 8 hC dX4_tick_210 rfl rfl ?_
          refine zr_get (v := .ref m8) 0 11 hC iu_X4 rfl dX4_tick_211 fl_X4_31 (by decide) rfl rfl ?_
          refine zr_iload_n 7 hC dX4_tick_214 rfl rfl ?_
          refine zr_iaj (f := (mx_ft x1)) (j := j) 8 0 hC dX4_tick_215 rfl rfl hj16 hi2 (by decide) ?_
          refine zr_tope hft ?_
          refine zr_iasj (f := (mx_ft x1)) (j := kept.length) (w' := (mw_W mo m1 m2 m3 m4 m5 m6 m7 m8 m9 cI (as_sta (zf_set a1 (zl b 2) p0 (zf_lev (zf_next t0 s0 (zf_val (aa_st a1) (zl b 2) p0)))) 0) (mk_ft (mk_fl (mk_fb (mk_pl x1 p2) (upd (mx_fb x1) kept.length b)) (upd (mx_fl x1) kept.length p0)) (upd (mx_ft x1) kept.length t0)))) 8 0 hC dX4_tick_216 rfl rfl (by omega) hi1 (by decide) rfl ?_
          refine zr_aload_n 8 hC dX4_tick_217 rfl rfl ?_
          refine zr_get (v := .ref m9) 0 12 hC iu_X4 rfl dX4_tick_218 fl_X4_34 (by decide) rfl rfl ?_
          refine zr_iload_n 6 hC dX4_tick_221 rfl rfl ?_
          refine zr_aload_n 8 hC dX4_tick_222 rfl rfl ?_
          refine zr_get (v := .ref m9) 0 12 hC iu_X4 rfl dX4_tick_223 fl_X4_34 (by decide) rfl rfl ?_
          refine zr_iload_n 7 hC dX4_tick_226 rfl rfl ?_
          refine zr_iaj (f := (mx_fg x1)) (j := j) 9 0 hC dX4_tick_227 rfl rfl hj16 hi2 (by decide) ?_
          refine zr_tope hfg ?_
          refine zr_iasj (f := (mx_fg x1)) (j := kept.length) (w' := (mw_W mo m1 m2 m3 m4 m5 m6 m7 m8 m9 cI (as_sta (zf_set a1 (zl b 2) p0 (zf_lev (zf_next t0 s0 (zf_val (aa_st a1) (zl b 2) p0)))) 0) (mk_fg (mk_ft (mk_fl (mk_fb (mk_pl x1 p2) (upd (mx_fb x1) kept.length b)) (upd (mx_fl x1) kept.length p0)) (upd (mx_ft x1) kept.length t0)) (upd (mx_fg x1) kept.length s0)))) 9 0 hC dX4_tick_228 rfl rfl (by omega) hi1 (by decide) rfl ?_
          refine zr_iinc (v := (i1 + 1)) (lv' := [(1, .int (i1 + 1)), (8, .int s0), (7, .int (t0 - (zf_val (aa_st a1) (zl b 2) p0))), (6, .int (zf_val (aa_st a1) (zl b 2) p0)), (5, .int (0 : Int32)), (4, .int p0), (3, .int b), (2, .int i2), (0, .ref mo)]) 6 hC dX4_tick_229 rfl rfl (by decide) rfl ?_
          refine zr_iinc (v := (i2 + 1)) (lv' := [(2, .int (i2 + 1)), (1, .int (i1 + 1)), (8, .int s0), (7, .int (t0 - (zf_val (aa_st a1) (zl b 2) p0))), (6, .int (zf_val (aa_st a1) (zl b 2) p0)), (5, .int (0 : Int32)), (4, .int p0), (3, .int b), (0, .ref mo)]) 7 hC dX4_tick_232 rfl rfl (by decide) rfl ?_
          refine zr_goto (tgt := 9) hC dX4_tick_235 (by decide) ?_
          refine zr_sub [1, 0, 8] rfl ?_
          exact ih (j + 1, i1 + 1, i2 + 1, rest, kept ++ [(b, p0, t0, s0)], (zf_set a1 (zl b 2) p0 (zf_lev (zf_next t0 s0 (zf_val (aa_st a1) (zl b 2) p0)))), (mk_fg (mk_ft (mk_fl (mk_fb (mk_pl x1 p2) (upd (mx_fb x1) kept.length b)) (upd (mx_fl x1) kept.length p0)) (upd (mx_ft x1) kept.length t0)) (upd (mx_fg x1) kept.length s0))) ⟨by show i1 + 1 = nI (kept ++ [(b, p0, t0, s0)]).length; rw [hi1, nI_1, List.length_append]; rfl, by show i2 + 1 = nI (j + 1); rw [hi2, nI_1], by show (kept ++ [(b, p0, t0, s0)]).length ≤ j + 1; rw [List.length_append]; show kept.length + 1 ≤ j + 1; omega, by show j + 1 + rest.length = _; simp at hN; omega, hrun, hQ2, rm_F_up (rm_F_tail hFr) (by omega), rm_F_snoc (q := (b, p0, t0, s0)) hFk hb_b hrt hrs, by rw [hsp]; show (if _ then (if _ then _ else _) else if _ then _ else _) = _; rw [if_pos h1, if_neg hnx]⟩ (by show rest.length < ((b, p0, t0, s0) :: rest).length; simp)
        · exact absurd (by rw [← h9]; exact Int32.le_refl _) c119
    · have h1 : ¬ (zf_why (aa_st a1) (zl b 2) p0) = 0 := h1
      refine zr_istore (lv' := [(5, .int (zf_why (aa_st a1) (zl b 2) p0)), (4, .int p0), (3, .int b), (1, .int i1), (2, .int i2), (0, .ref mo)]) hC dX4_tick_40 (by decide) rfl ?_
      refine zr_aload_n 5 hC dX4_tick_42 rfl rfl ?_
      refine zr_dup hC dX4_tick_43 rfl ?_
      refine zr_get (v := .int (aa_dm a1)) 0 18 hC iu_X4 rfl dX4_tick_44 fl_X4_109 (by decide) rfl rfl ?_
      refine zr_iload 0 hC dX4_tick_47 rfl ?_
      refine zr_iconst (v := (2 : Int32)) hC dX4_tick_49 rfl ?_
      refine zr_icmp_ne (tgt := 57) hC dX4_tick_50 (by decide) (fun c50 => ?_) (fun c50 => ?_)
      · refine zr_iconst (v := (0 : Int32)) hC dX4_tick_57 rfl ?_
        refine zr_iadd hC dX4_tick_58 ?_
        refine zr_put (w' := (mw_W mo m1 m2 m3 m4 m5 m6 m7 m8 m9 cI (as_dm (zf_cnt (zf_why (aa_st a1) (zl b 2) p0) (as_sta a1 0)) ((aa_dm a1) + (0 : Int32))) x1)) 0 18 hC iu_X4 tyX4_ok nmX4 rfl dX4_tick_59 fl_X4_109 (by decide) rfl rfl rfl rfl (Nat.le_of_ble_eq_true rfl) rfl ?_
        refine zr_aload_n 5 hC dX4_tick_62 rfl rfl ?_
        refine zr_dup hC dX4_tick_63 rfl ?_
        refine zr_get (v := .int (aa_dO a1)) 0 19 hC iu_X4 rfl dX4_tick_64 fl_X4_112 (by decide) rfl rfl ?_
        refine zr_iload 0 hC dX4_tick_67 rfl ?_
        refine zr_iconst (v := (3 : Int32)) hC dX4_tick_69 rfl ?_
        refine zr_icmp_ne (tgt := 77) hC dX4_tick_70 (by decide) (fun c70 => ?_) (fun c70 => ?_)
        · refine zr_iconst (v := (0 : Int32)) hC dX4_tick_77 rfl ?_
          refine zr_iadd hC dX4_tick_78 ?_
          refine zr_put (w' := (mw_W mo m1 m2 m3 m4 m5 m6 m7 m8 m9 cI (as_dO (as_dm (zf_cnt (zf_why (aa_st a1) (zl b 2) p0) (as_sta a1 0)) ((aa_dm a1) + (0 : Int32))) ((aa_dO a1) + (0 : Int32))) x1)) 0 19 hC iu_X4 tyX4_ok nmX4 rfl dX4_tick_79 fl_X4_112 (by decide) rfl rfl rfl rfl (Nat.le_of_ble_eq_true rfl) rfl ?_
          refine zr_iload 0 hC dX4_tick_82 rfl ?_
          refine zr_if_eqF (tgt := 90) hC dX4_tick_84 (by decide) h1 ?_
          refine zr_goto (tgt := 232) hC dX4_tick_87 (by decide) ?_
          exact absurd (zf_why_or (aa_st a1) (zl b 2) p0) (fun h => h.elim h1 (fun h => h.elim c50 c70))
        · refine zr_iconst (v := (1 : Int32)) hC dX4_tick_73 rfl ?_
          refine zr_goto (tgt := 78) hC dX4_tick_74 (by decide) ?_
          refine zr_iadd hC dX4_tick_78 ?_
          refine zr_put (w' := (mw_W mo m1 m2 m3 m4 m5 m6 m7 m8 m9 cI (as_dO (as_dm (zf_cnt (zf_why (aa_st a1) (zl b 2) p0) (as_sta a1 0)) ((aa_dm a1) + (0 : Int32))) ((aa_dO a1) + (1 : Int32))) x1)) 0 19 hC iu_X4 tyX4_ok nmX4 rfl dX4_tick_79 fl_X4_112 (by decide) rfl rfl rfl rfl (Nat.le_of_ble_eq_true rfl) rfl ?_
          refine zr_iload 0 hC dX4_tick_82 rfl ?_
          refine zr_if_eqF (tgt := 90) hC dX4_tick_84 (by decide) h1 ?_
          refine zr_goto (tgt := 232) hC dX4_tick_87 (by decide) ?_
          refine zr_eq (w' := (mw_W mo m1 m2 m3 m4 m5 m6 m7 m8 m9 cI (as_sta (as_dO (zf_cnt (zf_why (aa_st a1) (zl b 2) p0) a1) (aa_dO a1 + 1)) 0) x1)) rfl (by simp) ?_
          refine zr_iinc (v := (i2 + 1)) (lv' := [(2, .int (i2 + 1)), (5, .int (zf_why (aa_st a1) (zl b 2) p0)), (4, .int p0), (3, .int b), (1, .int i1), (0, .ref mo)]) 4 hC dX4_tick_232 rfl rfl (by decide) rfl ?_
          refine zr_goto (tgt := 9) hC dX4_tick_235 (by decide) ?_
          refine zr_sub [4, 0, 5] rfl ?_
          exact ih (j + 1, i1, i2 + 1, rest, kept, (as_dO (zf_cnt (zf_why (aa_st a1) (zl b 2) p0) a1) (aa_dO a1 + 1)), x1) ⟨hi1, by show i2 + 1 = nI (j + 1); rw [hi2, nI_1], by show kept.length ≤ j + 1; omega, by show j + 1 + rest.length = _; simp at hN; omega, hrun, hQ1, rm_F_tail hFr, hFk, by rw [hsp]; show (if _ then (if _ then _ else _) else if _ then _ else _) = _; rw [if_neg h1, if_neg c50]⟩ (by show rest.length < ((b, p0, t0, s0) :: rest).length; simp)
      · refine zr_iconst (v := (1 : Int32)) hC dX4_tick_53 rfl ?_
        refine zr_goto (tgt := 58) hC dX4_tick_54 (by decide) ?_
        refine zr_iadd hC dX4_tick_58 ?_
        refine zr_put (w' := (mw_W mo m1 m2 m3 m4 m5 m6 m7 m8 m9 cI (as_dm (zf_cnt (zf_why (aa_st a1) (zl b 2) p0) (as_sta a1 0)) ((aa_dm a1) + (1 : Int32))) x1)) 0 18 hC iu_X4 tyX4_ok nmX4 rfl dX4_tick_59 fl_X4_109 (by decide) rfl rfl rfl rfl (Nat.le_of_ble_eq_true rfl) rfl ?_
        refine zr_aload_n 5 hC dX4_tick_62 rfl rfl ?_
        refine zr_dup hC dX4_tick_63 rfl ?_
        refine zr_get (v := .int (aa_dO a1)) 0 19 hC iu_X4 rfl dX4_tick_64 fl_X4_112 (by decide) rfl rfl ?_
        refine zr_iload 0 hC dX4_tick_67 rfl ?_
        refine zr_iconst (v := (3 : Int32)) hC dX4_tick_69 rfl ?_
        refine zr_icmp_ne (tgt := 77) hC dX4_tick_70 (by decide) (fun c70 => ?_) (fun c70 => ?_)
        · refine zr_iconst (v := (0 : Int32)) hC dX4_tick_77 rfl ?_
          refine zr_iadd hC dX4_tick_78 ?_
          refine zr_put (w' := (mw_W mo m1 m2 m3 m4 m5 m6 m7 m8 m9 cI (as_dO (as_dm (zf_cnt (zf_why (aa_st a1) (zl b 2) p0) (as_sta a1 0)) ((aa_dm a1) + (1 : Int32))) ((aa_dO a1) + (0 : Int32))) x1)) 0 19 hC iu_X4 tyX4_ok nmX4 rfl dX4_tick_79 fl_X4_112 (by decide) rfl rfl rfl rfl (Nat.le_of_ble_eq_true rfl) rfl ?_
          refine zr_iload 0 hC dX4_tick_82 rfl ?_
          refine zr_if_eqF (tgt := 90) hC dX4_tick_84 (by decide) h1 ?_
          refine zr_goto (tgt := 232) hC dX4_tick_87 (by decide) ?_
          refine zr_eq (w' := (mw_W mo m1 m2 m3 m4 m5 m6 m7 m8 m9 cI (as_sta (as_dm (zf_cnt (zf_why (aa_st a1) (zl b 2) p0) a1) (aa_dm a1 + 1)) 0) x1)) rfl (by simp) ?_
          refine zr_iinc (v := (i2 + 1)) (lv' := [(2, .int (i2 + 1)), (5, .int (zf_why (aa_st a1) (zl b 2) p0)), (4, .int p0), (3, .int b), (1, .int i1), (0, .ref mo)]) 4 hC dX4_tick_232 rfl rfl (by decide) rfl ?_
          refine zr_goto (tgt := 9) hC dX4_tick_235 (by decide) ?_
          refine zr_sub [4, 0, 5] rfl ?_
          exact ih (j + 1, i1, i2 + 1, rest, kept, (as_dm (zf_cnt (zf_why (aa_st a1) (zl b 2) p0) a1) (aa_dm a1 + 1)), x1) ⟨hi1, by show i2 + 1 = nI (j + 1); rw [hi2, nI_1], by show kept.length ≤ j + 1; omega, by show j + 1 + rest.length = _; simp at hN; omega, hrun, hQ1, rm_F_tail hFr, hFk, by rw [hsp]; show (if _ then (if _ then _ else _) else if _ then _ else _) = _; rw [if_neg h1, if_pos c50, c50]⟩ (by show rest.length < ((b, p0, t0, s0) :: rest).length; simp)
        · refine zr_iconst (v := (1 : Int32)) hC dX4_tick_73 rfl ?_
          refine zr_goto (tgt := 78) hC dX4_tick_74 (by decide) ?_
          refine zr_iadd hC dX4_tick_78 ?_
          refine zr_put (w' := (mw_W mo m1 m2 m3 m4 m5 m6 m7 m8 m9 cI (as_dO (as_dm (zf_cnt (zf_why (aa_st a1) (zl b 2) p0) (as_sta a1 0)) ((aa_dm a1) + (1 : Int32))) ((aa_dO a1) + (1 : Int32))) x1)) 0 19 hC iu_X4 tyX4_ok nmX4 rfl dX4_tick_79 fl_X4_112 (by decide) rfl rfl rfl rfl (Nat.le_of_ble_eq_true rfl) rfl ?_
          refine zr_iload 0 hC dX4_tick_82 rfl ?_
          refine zr_if_eqF (tgt := 90) hC dX4_tick_84 (by decide) h1 ?_
          refine zr_goto (tgt := 232) hC dX4_tick_87 (by decide) ?_
          exact absurd (c50.symm.trans c70) (by decide)
def mx_0 : mx_X := (fun _ => 0, fun _ => 0, fun _ => 0, 0, 0, 0, fun _ => 0, fun _ => 0, 0, fun _ => 0, fun _ => 0, fun _ => 0, fun _ => 0, 0)
theorem rm_0 {f : Nat → Int32} (h : ∀ k, k < 24 → f k = -1) : rm_R ax_0 (mk_sp mx_0 f) := by
  refine ⟨⟨⟨fun k hk => ⟨fun _ => rfl, fun _ => h k hk⟩, fun k hk e => absurd (h k hk) e, fun j k hj _ e => absurd (h j hj) e, fun j k hj _ e => absurd (h j hj) e⟩, Or.inl ⟨rfl, rfl⟩⟩, fun j q e => (by cases e), rfl, Nat.zero_le _⟩
set_option maxRecDepth 100000 in
set_option maxHeartbeats 4000000 in
theorem c_X4_init {mo : Nat} : zz_Mv l D (zt cI cII cF) yX4_init cX4_init 2 none 1 20 9 868 [.ref mo] [(mo, .inr (4, [.null, .null, .null, .int 0, .int 0, .int 0, .null, .null, .int 0, .null, .null, .null, .null, .int 0, .int 0, .int 0, .int 0, .int 0, .int 0, .int 0, .int 0, .int 0, .int 0]))] (fun w' => ∃ m1 m2 m3 m4 m5 m6 m7 m8 m9 x, w' = mw_W mo m1 m2 m3 m4 m5 m6 m7 m8 m9 cI ax_0 x ∧ rm_R ax_0 x) := by
  refine zz_mk (by decide) (Nat.le_of_ble_eq_true rfl) ?_
  intro p e s m below meth c A hC hr hk hnm
  have hC : zz_C p s m _ c A D (zt cI cII cF) 2 cX4_init RX4 := hC
  refine zr_aload_n 0 hC dX4_init_0 rfl rfl ?_
  refine zr_objInit hC dX4_init_1 ml_X4_1 oi_inst oi_code (by decide) (Nat.le_of_ble_eq_true rfl) ?_
  refine zr_aload_n 0 hC dX4_init_4 rfl rfl ?_
  refine zr_bipush (v := (24 : Int32)) hC dX4_init_5 rfl ?_
  refine zr_newa (N' := 24) 0 hC dX4_init_7 ac_int rfl (by decide) (by decide) (by decide) (by decide) (by decide) (fun m1 hDm1 => ?_)
  refine zr_putF (w' := [(mo, .inr (4, [.ref m1, .null, .null, .int 0, .int 0, .int 0, .null, .null, .int 0, .null, .null, .null, .null, .int 0, .int 0, .int 0, .int 0, .int 0, .int 0, .int 0, .int 0, .int 0, .int 0])), (m1, ze_i cI 24 (fun _ => 0))]) 0 0 hC iu_X4 tyX4_ok nmX4 rfl dX4_init_9 fl_X4_7 (by decide) rfl hnm rfl rfl rfl rfl (Nat.le_of_ble_eq_true rfl) rfl ?_
  refine zr_aload_n 0 hC dX4_init_12 rfl rfl ?_
  refine zr_bipush (v := (24 : Int32)) hC dX4_init_13 rfl ?_
  refine zr_newa (N' := 24) 0 hC dX4_init_15 ac_int rfl (by decide) (by decide) (by decide) (by decide) (by decide) (fun m2 hDm2 => ?_)
  refine zr_putF (w' := [(mo, .inr (4, [.ref m1, .ref m2, .null, .int 0, .int 0, .int 0, .null, .null, .int 0, .null, .null, .null, .null, .int 0, .int 0, .int 0, .int 0, .int 0, .int 0, .int 0, .int 0, .int 0, .int 0])), (m1, ze_i cI 24 (fun _ => 0)), (m2, ze_i cI 24 (fun _ => 0))]) 0 1 hC iu_X4 tyX4_ok nmX4 rfl dX4_init_17 fl_X4_13 (by decide) rfl hnm rfl rfl rfl rfl (Nat.le_of_ble_eq_true rfl) rfl ?_
  refine zr_aload_n 0 hC dX4_init_20 rfl rfl ?_
  refine zr_sipush (v := (600 : Int32)) hC dX4_init_21 rfl ?_
  refine zr_newa (N' := 600) 0 hC dX4_init_24 ac_int rfl (by decide) (by decide) (by decide) (by decide) (by decide) (fun m3 hDm3 => ?_)
  refine zr_putF (w' := [(mo, .inr (4, [.ref m1, .ref m2, .ref m3, .int 0, .int 0, .int 0, .null, .null, .int 0, .null, .null, .null, .null, .int 0, .int 0, .int 0, .int 0, .int 0, .int 0, .int 0, .int 0, .int 0, .int 0])), (m1, ze_i cI 24 (fun _ => 0)), (m2, ze_i cI 24 (fun _ => 0)), (m3, ze_i cI 600 (fun _ => 0))]) 0 2 hC iu_X4 tyX4_ok nmX4 rfl dX4_init_26 fl_X4_16 (by decide) rfl hnm rfl rfl rfl rfl (Nat.le_of_ble_eq_true rfl) rfl ?_
  refine zr_aload_n 0 hC dX4_init_29 rfl rfl ?_
  refine zr_bipush (v := (12 : Int32)) hC dX4_init_30 rfl ?_
  refine zr_newa (N' := 12) 0 hC dX4_init_32 ac_int rfl (by decide) (by decide) (by decide) (by decide) (by decide) (fun m4 hDm4 => ?_)
  refine zr_putF (w' := [(mo, .inr (4, [.ref m1, .ref m2, .ref m3, .int 0, .int 0, .int 0, .ref m4, .null, .int 0, .null, .null, .null, .null, .int 0, .int 0, .int 0, .int 0, .int 0, .int 0, .int 0, .int 0, .int 0, .int 0])), (m1, ze_i cI 24 (fun _ => 0)), (m2, ze_i cI 24 (fun _ => 0)), (m3, ze_i cI 600 (fun _ => 0)), (m4, ze_i cI 12 (fun _ => 0))]) 0 6 hC iu_X4 tyX4_ok nmX4 rfl dX4_init_34 fl_X4_19 (by decide) rfl hnm rfl rfl rfl rfl (Nat.le_of_ble_eq_true rfl) rfl ?_
  refine zr_aload_n 0 hC dX4_init_37 rfl rfl ?_
  refine zr_sipush (v := (144 : Int32)) hC dX4_init_38 rfl ?_
  refine zr_newa (N' := 144) 0 hC dX4_init_41 ac_int rfl (by decide) (by decide) (by decide) (by decide) (by decide) (fun m5 hDm5 => ?_)
  refine zr_putF (w' := [(mo, .inr (4, [.ref m1, .ref m2, .ref m3, .int 0, .int 0, .int 0, .ref m4, .ref m5, .int 0, .null, .null, .null, .null, .int 0, .int 0, .int 0, .int 0, .int 0, .int 0, .int 0, .int 0, .int 0, .int 0])), (m1, ze_i cI 24 (fun _ => 0)), (m2, ze_i cI 24 (fun _ => 0)), (m3, ze_i cI 600 (fun _ => 0)), (m4, ze_i cI 12 (fun _ => 0)), (m5, ze_i cI 144 (fun _ => 0))]) 0 7 hC iu_X4 tyX4_ok nmX4 rfl dX4_init_43 fl_X4_22 (by decide) rfl hnm rfl rfl rfl rfl (Nat.le_of_ble_eq_true rfl) rfl ?_
  refine zr_aload_n 0 hC dX4_init_46 rfl rfl ?_
  refine zr_bipush (v := (16 : Int32)) hC dX4_init_47 rfl ?_
  refine zr_newa (N' := 16) 0 hC dX4_init_49 ac_int rfl (by decide) (by decide) (by decide) (by decide) (by decide) (fun m6 hDm6 => ?_)
  refine zr_putF (w' := [(mo, .inr (4, [.ref m1, .ref m2, .ref m3, .int 0, .int 0, .int 0, .ref m4, .ref m5, .int 0, .ref m6, .null, .null, .null, .int 0, .int 0, .int 0, .int 0, .int 0, .int 0, .int 0, .int 0, .int 0, .int 0])), (m1, ze_i cI 24 (fun _ => 0)), (m2, ze_i cI 24 (fun _ => 0)), (m3, ze_i cI 600 (fun _ => 0)), (m4, ze_i cI 12 (fun _ => 0)), (m5, ze_i cI 144 (fun _ => 0)), (m6, ze_i cI 16 (fun _ => 0))]) 0 9 hC iu_X4 tyX4_ok nmX4 rfl dX4_init_51 fl_X4_25 (by decide) rfl hnm rfl rfl rfl rfl (Nat.le_of_ble_eq_true rfl) rfl ?_
  refine zr_aload_n 0 hC dX4_init_54 rfl rfl ?_
  refine zr_bipush (v := (16 : Int32)) hC dX4_init_55 rfl ?_
  refine zr_newa (N' := 16) 0 hC dX4_init_57 ac_int rfl (by decide) (by decide) (by decide) (by decide) (by decide) (fun m7 hDm7 => ?_)
  refine zr_putF (w' := [(mo, .inr (4, [.ref m1, .ref m2, .ref m3, .int 0, .int 0, .int 0, .ref m4, .ref m5, .int 0, .ref m6, .ref m7, .null, .null, .int 0, .int 0, .int 0, .int 0, .int 0, .int 0, .int 0, .int 0, .int 0, .int 0])), (m1, ze_i cI 24 (fun _ => 0)), (m2, ze_i cI 24 (fun _ => 0)), (m3, ze_i cI 600 (fun _ => 0)), (m4, ze_i cI 12 (fun _ => 0)), (m5, ze_i cI 144 (fun _ => 0)), (m6, ze_i cI 16 (fun _ => 0)), (m7, ze_i cI 16 (fun _ => 0))]) 0 10 hC iu_X4 tyX4_ok nmX4 rfl dX4_init_59 fl_X4_28 (by decide) rfl hnm rfl rfl rfl rfl (Nat.le_of_ble_eq_true rfl) rfl ?_
  refine zr_aload_n 0 hC dX4_init_62 rfl rfl ?_
  refine zr_bipush (v := (16 : Int32)) hC dX4_init_63 rfl ?_
  refine zr_newa (N' := 16) 0 hC dX4_init_65 ac_int rfl (by decide) (by decide) (by decide) (by decide) (by decide) (fun m8 hDm8 => ?_)
  refine zr_putF (w' := [(mo, .inr (4, [.ref m1, .ref m2, .ref m3, .int 0, .int 0, .int 0, .ref m4, .ref m5, .int 0, .ref m6, .ref m7, .ref m8, .null, .int 0, .int 0, .int 0, .int 0, .int 0, .int 0, .int 0, .int 0, .int 0, .int 0])), (m1, ze_i cI 24 (fun _ => 0)), (m2, ze_i cI 24 (fun _ => 0)), (m3, ze_i cI 600 (fun _ => 0)), (m4, ze_i cI 12 (fun _ => 0)), (m5, ze_i cI 144 (fun _ => 0)), (m6, ze_i cI 16 (fun _ => 0)), (m7, ze_i cI 16 (fun _ => 0)), (m8, ze_i cI 16 (fun _ => 0))]) 0 11 hC iu_X4 tyX4_ok nmX4 rfl dX4_init_67 fl_X4_31 (by decide) rfl hnm rfl rfl rfl rfl (Nat.le_of_ble_eq_true rfl) rfl ?_
  refine zr_aload_n 0 hC dX4_init_70 rfl rfl ?_
  refine zr_bipush (v := (16 : Int32)) hC dX4_init_71 rfl ?_
  refine zr_newa (N' := 16) 0 hC dX4_init_73 ac_int rfl (by decide) (by decide) (by decide) (by decide) (by decide) (fun m9 hDm9 => ?_)
  refine zr_putF (w' := [(mo, .inr (4, [.ref m1, .ref m2, .ref m3, .int 0, .int 0, .int 0, .ref m4, .ref m5, .int 0, .ref m6, .ref m7, .ref m8, .ref m9, .int 0, .int 0, .int 0, .int 0, .int 0, .int 0, .int 0, .int 0, .int 0, .int 0])), (m1, ze_i cI 24 (fun _ => 0)), (m2, ze_i cI 24 (fun _ => 0)), (m3, ze_i cI 600 (fun _ => 0)), (m4, ze_i cI 12 (fun _ => 0)), (m5, ze_i cI 144 (fun _ => 0)), (m6, ze_i cI 16 (fun _ => 0)), (m7, ze_i cI 16 (fun _ => 0)), (m8, ze_i cI 16 (fun _ => 0)), (m9, ze_i cI 16 (fun _ => 0))]) 0 12 hC iu_X4 tyX4_ok nmX4 rfl dX4_init_75 fl_X4_34 (by decide) rfl hnm rfl rfl rfl rfl (Nat.le_of_ble_eq_true rfl) rfl ?_
  refine zr_iconst (v := (0 : Int32)) hC dX4_init_78 rfl ?_
  refine zr_istore_n (lv' := [(1, .int (0 : Int32)), (0, .ref mo)]) hC dX4_init_79 rfl (by decide) rfl ?_
  refine zr_loop (σ := Nat × Int32 × (Nat → Int32)) (fun t => [(1, .int t.2.1), (0, .ref mo)]) (fun t => mw_W mo m1 m2 m3 m4 m5 m6 m7 m8 m9 cI ax_0 (mk_sp mx_0 t.2.2)) (fun t => t.1 ≤ 24 ∧ t.2.1 = nI t.1 ∧ ∀ j, j < t.1 → t.2.2 j = -1) (fun t => 24 - t.1) ?_ (0, 0, fun _ => 0) ⟨Nat.zero_le _, rfl, fun j h => absurd h (Nat.not_lt_zero _)⟩
  rintro ⟨kn, i1, r1⟩ ⟨hk1, hk2, h3⟩ ih
  try dsimp only at hk1
  try dsimp only at hk2
  try dsimp only at h3
  show zz_Z _ _ _ _ _ _ _ _ _ _ _ _ _ _ 80 [(1, .int i1), (0, .ref mo)] [] (mw_W mo m1 m2 m3 m4 m5 m6 m7 m8 m9 cI ax_0 (mk_sp mx_0 r1)) 9 868
  refine zr_iload_n 0 hC dX4_init_80 rfl rfl ?_
  refine zr_bipush (v := (24 : Int32)) hC dX4_init_81 rfl ?_
  refine zr_icmp_ge (tgt := 99) hC dX4_init_83 (by decide) (fun c83 => ?_) (fun c83 => ?_)
  · have hend : kn = 24 := by
      rw [hk2] at c83
      have := (nI_leI (a := 24) (by omega) (by omega)).mp c83
      omega
    refine zr_vret hC hr hk dX4_init_99 (by decide) (by decide) ⟨rfl, ?_⟩
    exact ⟨m1, m2, m3, m4, m5, m6, m7, m8, m9, _, rfl, rm_0 (fun k hk => h3 k (by omega))⟩
  · have hlt : kn < 24 := by
      rcases Nat.lt_or_ge kn 24 with h0 | h0
      · exact h0
      · exact absurd (by rw [hk2]; exact nI_le h0 (by omega)) c83
    refine zr_aload_n 1 hC dX4_init_86 rfl rfl ?_
    refine zr_get (v := .ref m1) 0 0 hC iu_X4 rfl dX4_init_87 fl_X4_7 (by decide) rfl rfl ?_
    refine zr_iload_n 0 hC dX4_init_90 rfl rfl ?_
    refine zr_iconst (v := (-1 : Int32)) hC dX4_init_91 rfl ?_
    refine zr_iasj (f := r1) (j := kn) (w' := (mw_W mo m1 m2 m3 m4 m5 m6 m7 m8 m9 cI ax_0 (mk_sp (mk_sp mx_0 r1) (upd r1 kn (-1 : Int32))))) 1 0 hC dX4_init_92 rfl rfl (by omega) hk2 (by decide) rfl ?_
    refine zr_iinc (v := (i1 + 1)) (lv' := [(1, .int (i1 + 1)), (0, .ref mo)]) 0 hC dX4_init_93 rfl rfl (by decide) rfl ?_
    refine zr_goto (tgt := 80) hC dX4_init_96 (by decide) ?_
    exact ih (kn + 1, i1 + 1, upd r1 kn (-1)) ⟨by show kn + 1 ≤ 24; omega, by show i1 + 1 = nI (kn + 1); rw [hk2, nI_1], fun j hj => by show upd r1 kn (-1) j = -1; by_cases e0 : j = kn; (· rw [e0, pk_us]); (· rw [pk_un e0]; exact h3 j (by have : j < kn + 1 := hj; omega))⟩ (by show 24 - (kn + 1) < 24 - kn; omega)
end ZB6
