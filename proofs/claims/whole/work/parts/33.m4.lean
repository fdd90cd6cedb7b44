section ZB4
variable {l : Launch} {D : va_G} {cI cII cF : ClassId} {o rk sp pp fp mo m1 m2 m3 m4 m5 m6 m7 m8 m9 : Nat}
variable {a : ax_A} {x : mx_X}
set_option maxRecDepth 100000 in
set_option maxHeartbeats 4000000 in
theorem c_X4_ripple (hR : rm_R a x) (b i d n s0 : Int32) : zz_Mi l D (zt cI cII cF) yX4_ripple cX4_ripple 8 (some .int) 3 69 0 0 [.ref mo, .int b, .int i, .int d, .int n, .int s0] (mw_W mo m1 m2 m3 m4 m5 m6 m7 m8 m9 cI a x) (fun r w' => zp_m mo m1 m2 m3 m4 m5 m6 m7 m8 m9 cI (zo_ripple a b i d n s0) r w') := by
  refine zz_mk (by decide) (Nat.le_of_ble_eq_true rfl) ?_
  intro p e s m below meth c A hC hr hk hnm
  have hC : zz_C p s m _ c A D (zt cI cII cF) 8 cX4_ripple RX4 := hC
  refine zr_aload_n 0 hC dX4_ripple_0 rfl rfl ?_
  refine zr_iload_n 1 hC dX4_ripple_1 rfl rfl ?_
  refine zr_cSi hC cs_X4_isBank ml_X4_73 (c_X4_isBank (w := (mw_W mo m1 m2 m3 m4 m5 m6 m7 m8 m9 cI a x)) b) dX4_ripple_2 ⟨Nat.le_of_ble_eq_true rfl, Nat.le_of_ble_eq_true rfl⟩ ⟨Nat.le_of_ble_eq_true rfl, Nat.le_of_ble_eq_true rfl⟩ rfl rfl (Nat.le_of_ble_eq_true rfl) ?_
  rintro _ _ ⟨rfl, ⟨rfl, hb_b⟩ | ⟨rfl, hb_b⟩⟩
  · refine zr_if_eqF (tgt := 23) hC dX4_ripple_5 (by decide) (by decide) ?_
    refine zr_iload 4 hC dX4_ripple_8 rfl ?_
    refine zr_iconst (v := (0 : Int32)) hC dX4_ripple_10 rfl ?_
    refine zr_bipush (v := (64 : Int32)) hC dX4_ripple_11 rfl ?_
    refine zr_cSi hC cs_X4_in ml_X4_37 (c_X4_in (w := (mw_W mo m1 m2 m3 m4 m5 m6 m7 m8 m9 cI a x)) n (0 : Int32) (64 : Int32)) dX4_ripple_13 ⟨Nat.le_of_ble_eq_true rfl, Nat.le_of_ble_eq_true rfl⟩ ⟨Nat.le_of_ble_eq_true rfl, Nat.le_of_ble_eq_true rfl⟩ rfl rfl (Nat.le_of_ble_eq_true rfl) ?_
    rintro _ _ ⟨rfl, ⟨rfl, hi1⟩ | ⟨rfl, hi1⟩⟩
    · refine zr_if_eqF (tgt := 23) hC dX4_ripple_16 (by decide) (by decide) ?_
      refine zr_iconst (v := (1 : Int32)) hC dX4_ripple_19 rfl ?_
      refine zr_goto (tgt := 24) hC dX4_ripple_20 (by decide) ?_
      refine zr_cVi 0 hC cv_X4_begins ml_X4_80 (c_X4_begins1 (a := a) (x := x)) dX4_ripple_24 ⟨Nat.le_of_ble_eq_true rfl, Nat.le_of_ble_eq_true rfl⟩ ⟨Nat.le_of_ble_eq_true rfl, Nat.le_of_ble_eq_true rfl⟩ rfl rfl rfl rfl rfl (Nat.le_of_ble_eq_true rfl) ?_
      rintro _ _ ⟨rfl, rfl⟩
      refine zr_if_neT (tgt := 32) hC dX4_ripple_27 (by decide) (by decide) ?_
      refine zr_iload_n 2 hC dX4_ripple_32 rfl rfl ?_
      refine zr_istore (lv' := [(6, .int i), (0, .ref mo), (1, .int b), (2, .int i), (3, .int d), (4, .int n), (5, .int s0)]) hC dX4_ripple_33 (by decide) rfl ?_
      refine zr_iconst (v := (0 : Int32)) hC dX4_ripple_35 rfl ?_
      refine zr_istore (lv' := [(7, .int (0 : Int32)), (6, .int i), (0, .ref mo), (1, .int b), (2, .int i), (3, .int d), (4, .int n), (5, .int s0)]) hC dX4_ripple_36 (by decide) rfl ?_
      have hnn := (zn_le (n := 65) (by decide)).mp hi1
      obtain ⟨N, hN, rfl⟩ := zn_of (n := 65) (M := nI 65) (by decide) hnn
      have hspec : zo_ripple a b i d (nI N) s0 = zf_rip (zf_lev s0) b d N i 0 a := by unfold zo_ripple; rw [if_pos ⟨hb_b, hi1⟩, nI_clamp (by omega)]
      refine zr_sub [1, 0, 2, 3, 5, 6, 7] rfl ?_
      refine zr_loop (σ := Nat × Int32 × Int32 × ax_A × mx_X) (fun t => [(6, .int t.2.2.1), (7, .int t.2.1), (0, .ref mo), (1, .int b), (3, .int d), (4, .int (nI N)), (5, .int s0)]) (fun t => mw_W mo m1 m2 m3 m4 m5 m6 m7 m8 m9 cI (as_sta t.2.2.2.1 0) t.2.2.2.2) (fun t => t.1 ≤ N ∧ t.2.1 = nI t.1 ∧ rm_R t.2.2.2.1 t.2.2.2.2 ∧ zf_rip (zf_lev s0) b d N i 0 a = zf_rip (zf_lev s0) b d (N - t.1) t.2.2.1 t.2.1 t.2.2.2.1) (fun t => N - t.1) ?_ (0, 0, i, a, x) ⟨Nat.zero_le _, rfl, hR, rfl⟩
      rintro ⟨kn, k1, p1, a1, x1⟩ ⟨hk1, hk2, hR1, hsp⟩ ih
      try dsimp only at hk1
      try dsimp only at hk2
      try dsimp only at hR1
      try dsimp only at hsp
      show zz_Z _ _ _ _ _ _ _ _ _ _ _ _ _ _ 38 [(6, .int p1), (7, .int k1), (0, .ref mo), (1, .int b), (3, .int d), (4, .int (nI N)), (5, .int s0)] [] (mw_W mo m1 m2 m3 m4 m5 m6 m7 m8 m9 cI (as_sta a1 0) x1) 0 0
      refine zr_iload 1 hC dX4_ripple_38 rfl ?_
      refine zr_iload 5 hC dX4_ripple_40 rfl ?_
      refine zr_icmp_ge (tgt := 105) hC dX4_ripple_42 (by decide) (fun c42 => ?_) (fun c42 => ?_)
      · have hend : kn = N := by
          rw [hk2] at c42
          have := (nI_leI (a := N) (by omega) (by omega)).mp c42
          omega
        refine zr_iload 1 hC dX4_ripple_105 rfl ?_
        refine zr_iret hC hr hk dX4_ripple_107 (by decide) (by decide) ⟨_, rfl, ?_⟩
        exact zq_mk (by rw [hspec, hsp, hend, Nat.sub_self]; rfl) hR1
      · have hlt : kn < N := by
          rcases Nat.lt_or_ge kn N with h0 | h0
          · exact h0
          · exact absurd (by rw [hk2]; exact nI_le h0 (by omega)) c42
        refine zr_aload_n 2 hC dX4_ripple_45 rfl rfl ?_
        refine zr_get (v := .int (0 : Int32)) 0 13 hC iu_X4 rfl dX4_ripple_46 fl_X4_41 (by decide) rfl rfl ?_
        refine zr_if_neF (tgt := 105) hC dX4_ripple_49 (by decide) (by decide) ?_
        refine zr_aload_n 2 hC dX4_ripple_52 rfl rfl ?_
        refine zr_aload_n 2 hC dX4_ripple_53 rfl rfl ?_
        refine zr_iload_n 3 hC dX4_ripple_54 rfl rfl ?_
        refine zr_iconst (v := (2 : Int32)) hC dX4_ripple_55 rfl ?_
        refine zr_iload 0 hC dX4_ripple_56 rfl ?_
        refine zr_cVi 0 hC cv_X4_refused ml_X4_87 (c_X4_refused (a := (as_sta a1 0)) (x := x1) hR1.1 p1 hb_b zk_s2) dX4_ripple_58 ⟨Nat.le_of_ble_eq_true rfl, Nat.le_of_ble_eq_true rfl⟩ ⟨Nat.le_of_ble_eq_true rfl, Nat.le_of_ble_eq_true rfl⟩ rfl rfl rfl rfl rfl (Nat.le_of_ble_eq_true rfl) ?_
        rintro _ _ (⟨h2, rfl, rfl⟩ | ⟨h2, rfl, rfl⟩)
        · have h2 : (zf_why (aa_st a1) (zl b 2) p1) = 0 := h2
          refine zr_put (w' := (mw_W mo m1 m2 m3 m4 m5 m6 m7 m8 m9 cI (as_sta (as_sta a1 0) (0 : Int32)) x1)) 0 13 hC iu_X4 tyX4_ok nmX4 rfl dX4_ripple_61 fl_X4_41 (by decide) rfl rfl rfl rfl (Nat.le_of_ble_eq_true rfl) rfl ?_
          refine zr_aload_n 2 hC dX4_ripple_64 rfl rfl ?_
          refine zr_get (v := .int (0 : Int32)) 0 13 hC iu_X4 rfl dX4_ripple_65 fl_X4_41 (by decide) rfl rfl ?_
          refine zr_if_neF (tgt := 38) hC dX4_ripple_68 (by decide) (by decide) ?_
          refine zr_aload_n 2 hC dX4_ripple_71 rfl rfl ?_
          refine zr_iload_n 3 hC dX4_ripple_72 rfl rfl ?_
          refine zr_iconst (v := (2 : Int32)) hC dX4_ripple_73 rfl ?_
          refine zr_iload 0 hC dX4_ripple_74 rfl ?_
          refine zr_aload_n 2 hC dX4_ripple_76 rfl rfl ?_
          refine zr_iload_n 3 hC dX4_ripple_77 rfl rfl ?_
          refine zr_iconst (v := (2 : Int32)) hC dX4_ripple_78 rfl ?_
          refine zr_iload 0 hC dX4_ripple_79 rfl ?_
          refine zr_cVi 0 hC cv_X4_at ml_X4_90 (c_X4_at (a := (as_sta (as_sta a1 0) (0 : Int32))) (x := x1) hR1.1 hb_b zk_s2 (by assumption)) dX4_ripple_81 ⟨Nat.le_of_ble_eq_true rfl, Nat.le_of_ble_eq_true rfl⟩ ⟨Nat.le_of_ble_eq_true rfl, Nat.le_of_ble_eq_true rfl⟩ rfl rfl rfl rfl rfl (Nat.le_of_ble_eq_true rfl) ?_
          rintro _ _ ⟨rfl, rfl⟩
          refine zr_iload 6 hC dX4_ripple_84 rfl ?_
          refine zr_cSi hC cs_X4_nearest ml_X4_49 (c_X4_nearest (w := (mw_W mo m1 m2 m3 m4 m5 m6 m7 m8 m9 cI (as_sta (as_sta a1 0) (0 : Int32)) x1)) s0) dX4_ripple_86 ⟨Nat.le_of_ble_eq_true rfl, Nat.le_of_ble_eq_true rfl⟩ ⟨Nat.le_of_ble_eq_true rfl, Nat.le_of_ble_eq_true rfl⟩ rfl rfl (Nat.le_of_ble_eq_true rfl) ?_
          rintro _ _ ⟨rfl, rfl⟩
          refine zr_iadd hC dX4_ripple_89 ?_
          refine zr_cVv 0 hC cv_X4_put ml_X4_93 (c_X4_put (a := (as_sta (as_sta a1 0) (0 : Int32))) (x := x1) hR1.1 ((zf_val (aa_st a1) (zl b 2) p1) + (zf_lev s0)) hb_b zk_s2 (by assumption)) dX4_ripple_90 ⟨Nat.le_of_ble_eq_true rfl, Nat.le_of_ble_eq_true rfl⟩ ⟨Nat.le_of_ble_eq_true rfl, Nat.le_of_ble_eq_true rfl⟩ rfl rfl rfl rfl rfl (Nat.le_of_ble_eq_true rfl) ?_
          rintro _ ⟨p3, rfl, hQp3⟩
          refine zr_iinc (v := (k1 + 1)) (lv' := [(7, .int (k1 + 1)), (6, .int p1), (0, .ref mo), (1, .int b), (3, .int d), (4, .int (nI N)), (5, .int s0)]) 1 hC dX4_ripple_93 rfl rfl (by decide) rfl ?_
          refine zr_iload 1 hC dX4_ripple_96 rfl ?_
          refine zr_iload_n 4 hC dX4_ripple_98 rfl rfl ?_
          refine zr_iadd hC dX4_ripple_99 ?_
          refine zr_istore (lv' := [(6, .int (p1 + d)), (7, .int (k1 + 1)), (0, .ref mo), (1, .int b), (3, .int d), (4, .int (nI N)), (5, .int s0)]) hC dX4_ripple_100 (by decide) rfl ?_
          refine zr_goto (tgt := 38) hC dX4_ripple_102 (by decide) ?_
          exact ih (kn + 1, k1 + 1, p1 + d, (zf_set a1 (zl b 2) p1 (zf_num 2 (zf_val (aa_st a1) (zl b 2) p1 + zf_lev s0))), (mk_pl x1 p3)) ⟨by show kn + 1 ≤ N; omega, by show k1 + 1 = nI (kn + 1); rw [hk2, nI_1], ⟨hQp3, hR1.2⟩, by rw [hsp, show N - kn = (N - (kn + 1)) + 1 by omega]; show (if _ then _ else _) = _; rw [if_pos h2, zf_num2]⟩ (by show N - (kn + 1) < N - kn; omega)
        · have h2 : ¬ (zf_why (aa_st a1) (zl b 2) p1) = 0 := h2
          refine zr_put (w' := (mw_W mo m1 m2 m3 m4 m5 m6 m7 m8 m9 cI (as_sta (zf_cnt (zf_why (aa_st a1) (zl b 2) p1) (as_sta a1 0)) (zf_why (aa_st a1) (zl b 2) p1)) x1)) 0 13 hC iu_X4 tyX4_ok nmX4 rfl dX4_ripple_61 fl_X4_41 (by decide) rfl rfl rfl rfl (Nat.le_of_ble_eq_true rfl) rfl ?_
          refine zr_aload_n 2 hC dX4_ripple_64 rfl rfl ?_
          refine zr_get (v := .int (zf_why (aa_st a1) (zl b 2) p1)) 0 13 hC iu_X4 rfl dX4_ripple_65 fl_X4_41 (by decide) rfl rfl ?_
          refine zr_if_neT (tgt := 38) hC dX4_ripple_68 (by decide) h2 ?_
          refine zr_iload 1 hC dX4_ripple_38 rfl ?_
          refine zr_iload 5 hC dX4_ripple_40 rfl ?_
          refine zr_icmp_ge (tgt := 105) hC dX4_ripple_42 (by decide) (fun h => absurd h c42) (fun _ => ?_)
          refine zr_aload_n 2 hC dX4_ripple_45 rfl rfl ?_
          refine zr_get (v := .int (zf_why (aa_st a1) (zl b 2) p1)) 0 13 hC iu_X4 rfl dX4_ripple_46 fl_X4_41 (by decide) rfl rfl ?_
          refine zr_if_neT (tgt := 105) hC dX4_ripple_49 (by decide) h2 ?_
          refine zr_iload 1 hC dX4_ripple_105 rfl ?_
          refine zr_iret hC hr hk dX4_ripple_107 (by decide) (by decide) ⟨_, rfl, ?_⟩
          exact zq_mk (by rw [hspec, hsp, show N - kn = (N - (kn + 1)) + 1 by omega]; show (if _ then _ else _) = _; rw [if_neg h2]) hR1
    · refine zr_if_eqT (tgt := 23) hC dX4_ripple_16 (by decide) (by decide) ?_
      refine zr_iconst (v := (0 : Int32)) hC dX4_ripple_23 rfl ?_
      refine zr_cVi 0 hC cv_X4_begins ml_X4_80 (c_X4_begins0 (a := a) (x := x)) dX4_ripple_24 ⟨Nat.le_of_ble_eq_true rfl, Nat.le_of_ble_eq_true rfl⟩ ⟨Nat.le_of_ble_eq_true rfl, Nat.le_of_ble_eq_true rfl⟩ rfl rfl rfl rfl rfl (Nat.le_of_ble_eq_true rfl) ?_
      rintro _ _ ⟨rfl, rfl⟩
      refine zr_if_neF (tgt := 32) hC dX4_ripple_27 (by decide) (by decide) ?_
      refine zr_iconst (v := (0 : Int32)) hC dX4_ripple_30 rfl ?_
      refine zr_iret hC hr hk dX4_ripple_31 (by decide) (by decide) ⟨_, rfl, ?_⟩
      exact zq_mk (if_neg (fun h => absurd h.2 hi1)) hR
  · refine zr_if_eqT (tgt := 23) hC dX4_ripple_5 (by decide) (by decide) ?_
    refine zr_iconst (v := (0 : Int32)) hC dX4_ripple_23 rfl ?_
    refine zr_cVi 0 hC cv_X4_begins ml_X4_80 (c_X4_begins0 (a := a) (x := x)) dX4_ripple_24 ⟨Nat.le_of_ble_eq_true rfl, Nat.le_of_ble_eq_true rfl⟩ ⟨Nat.le_of_ble_eq_true rfl, Nat.le_of_ble_eq_true rfl⟩ rfl rfl rfl rfl rfl (Nat.le_of_ble_eq_true rfl) ?_
    rintro _ _ ⟨rfl, rfl⟩
    refine zr_if_neF (tgt := 32) hC dX4_ripple_27 (by decide) (by decide) ?_
    refine zr_iconst (v := (0 : Int32)) hC dX4_ripple_30 rfl ?_
    refine zr_iret hC hr hk dX4_ripple_31 (by decide) (by decide) ⟨_, rfl, ?_⟩
    exact zq_mk (if_neg (fun h => absurd h.1 hb_b)) hR
set_option maxRecDepth 100000 in
set_option maxHeartbeats 4000000 in
theorem c_X4_probe (hR : rm_R a x) (b i : Int32) : zz_Mi l D (zt cI cII cF) yX4_probe cX4_probe 6 (some .int) 3 69 0 0 [.ref mo, .int b, .int i] (mw_W mo m1 m2 m3 m4 m5 m6 m7 m8 m9 cI a x) (fun r w' => zp_m mo m1 m2 m3 m4 m5 m6 m7 m8 m9 cI (zo_probe a b i) r w') := by
  refine zz_mk (by decide) (Nat.le_of_ble_eq_true rfl) ?_
  intro p e s m below meth c A hC hr hk hnm
  have hC : zz_C p s m _ c A D (zt cI cII cF) 6 cX4_probe RX4 := hC
  refine zr_aload_n 0 hC dX4_probe_0 rfl rfl ?_
  refine zr_iload_n 1 hC dX4_probe_1 rfl rfl ?_
  refine zr_cSi hC cs_X4_isBank ml_X4_73 (c_X4_isBank (w := (mw_W mo m1 m2 m3 m4 m5 m6 m7 m8 m9 cI a x)) b) dX4_probe_2 ⟨Nat.le_of_ble_eq_true rfl, Nat.le_of_ble_eq_true rfl⟩ ⟨Nat.le_of_ble_eq_true rfl, Nat.le_of_ble_eq_true rfl⟩ rfl rfl (Nat.le_of_ble_eq_true rfl) ?_
  rintro _ _ ⟨rfl, ⟨rfl, hb_b⟩ | ⟨rfl, hb_b⟩⟩
  · refine zr_cVi 0 hC cv_X4_begins ml_X4_80 (c_X4_begins1 (a := a) (x := x)) dX4_probe_5 ⟨Nat.le_of_ble_eq_true rfl, Nat.le_of_ble_eq_true rfl⟩ ⟨Nat.le_of_ble_eq_true rfl, Nat.le_of_ble_eq_true rfl⟩ rfl rfl rfl rfl rfl (Nat.le_of_ble_eq_true rfl) ?_
    rintro _ _ ⟨rfl, rfl⟩
    refine zr_if_neT (tgt := 13) hC dX4_probe_8 (by decide) (by decide) ?_
    refine zr_iconst (v := (0 : Int32)) hC dX4_probe_13 rfl ?_
    refine zr_istore_n (lv' := [(3, .int (0 : Int32)), (0, .ref mo), (1, .int b), (2, .int i)]) hC dX4_probe_14 rfl (by decide) rfl ?_
    refine zr_iconst (v := (1 : Int32)) hC dX4_probe_15 rfl ?_
    refine zr_istore (lv' := [(4, .int (1 : Int32)), (3, .int (0 : Int32)), (0, .ref mo), (1, .int b), (2, .int i)]) hC dX4_probe_16 (by decide) rfl ?_
    refine zr_iconst (v := (0 : Int32)) hC dX4_probe_18 rfl ?_
    refine zr_istore (lv' := [(5, .int (0 : Int32)), (4, .int (1 : Int32)), (3, .int (0 : Int32)), (0, .ref mo), (1, .int b), (2, .int i)]) hC dX4_probe_19 (by decide) rfl ?_
    refine zr_sub [2, 1, 0, 3, 4, 5] rfl ?_
    refine zr_loop (σ := Nat × Int32 × Int32 × Int32 × ax_A × mx_X) (fun t => [(3, .int t.2.2.2.1), (4, .int t.2.2.1), (5, .int t.2.1), (0, .ref mo), (1, .int b), (2, .int i)]) (fun t => mw_W mo m1 m2 m3 m4 m5 m6 m7 m8 m9 cI (as_sta t.2.2.2.2.1 0) t.2.2.2.2.2) (fun t => t.1 ≤ 4 ∧ t.2.1 = nI t.1 ∧ rm_R t.2.2.2.2.1 t.2.2.2.2.2 ∧ zf_pro b i 4 0 1 0 a = zf_pro b i (4 - t.1) t.2.1 t.2.2.1 t.2.2.2.1 t.2.2.2.2.1) (fun t => 4 - t.1) ?_ (0, 0, 1, 0, a, x) ⟨Nat.zero_le _, rfl, hR, rfl⟩
    rintro ⟨kn, s1, u1, t1, a1, x1⟩ ⟨hk1, hk2, hR1, hsp⟩ ih
    try dsimp only at hk1
    try dsimp only at hk2
    try dsimp only at hR1
    try dsimp only at hsp
    show zz_Z _ _ _ _ _ _ _ _ _ _ _ _ _ _ 21 [(3, .int t1), (4, .int u1), (5, .int s1), (0, .ref mo), (1, .int b), (2, .int i)] [] (mw_W mo m1 m2 m3 m4 m5 m6 m7 m8 m9 cI (as_sta a1 0) x1) 0 0
    refine zr_iload 2 hC dX4_probe_21 rfl ?_
    refine zr_iconst (v := (3 : Int32)) hC dX4_probe_23 rfl ?_
    refine zr_icmp_gt (tgt := 57) hC dX4_probe_24 (by decide) (fun c24 => ?_) (fun c24 => ?_)
    · have hend : kn = 4 := by
        rw [hk2] at c24
        have := (nI_ltI (a := 3) (by omega) (by omega)).mp c24
        omega
      refine zr_iload_n 0 hC dX4_probe_57 rfl rfl ?_
      refine zr_iret hC hr hk dX4_probe_58 (by decide) (by decide) ⟨_, rfl, ?_⟩
      exact zq_mk (by unfold zo_probe; rw [if_pos hb_b, hsp, hend]; rfl) hR1
    · have hlt : kn < 4 := by
        rcases Nat.lt_or_ge kn 4 with h0 | h0
        · exact h0
        · exact absurd (by rw [hk2]; exact nI_lt (a := 3) (by omega) (by omega)) c24
      have hs_s1 : zk_s s1 := by rw [hk2]; exact ⟨nI_pos' (by omega), nI_lt (b := 4) hlt (by omega)⟩
      refine zr_iload_n 0 hC dX4_probe_27 rfl rfl ?_
      refine zr_iload 1 hC dX4_probe_28 rfl ?_
      refine zr_aload_n 3 hC dX4_probe_30 rfl rfl ?_
      refine zr_iload_n 4 hC dX4_probe_31 rfl rfl ?_
      refine zr_iload 2 hC dX4_probe_32 rfl ?_
      refine zr_iload_n 5 hC dX4_probe_34 rfl rfl ?_
      refine zr_cVi 0 hC cv_X4_refused ml_X4_87 (c_X4_refused (a := (as_sta a1 0)) (x := x1) hR1.1 i hb_b hs_s1) dX4_probe_35 ⟨Nat.le_of_ble_eq_true rfl, Nat.le_of_ble_eq_true rfl⟩ ⟨Nat.le_of_ble_eq_true rfl, Nat.le_of_ble_eq_true rfl⟩ rfl rfl rfl rfl rfl (Nat.le_of_ble_eq_true rfl) ?_
      rintro _ _ (⟨h1, rfl, rfl⟩ | ⟨h1, rfl, rfl⟩)
      · have h1 : (zf_why (aa_st a1) (zl b s1) i) = 0 := h1
        refine zr_cSi hC cs_X4_digit ml_X4_97 (c_X4_digit (w := (mw_W mo m1 m2 m3 m4 m5 m6 m7 m8 m9 cI (as_sta a1 0) x1)) (0 : Int32)) dX4_probe_38 ⟨Nat.le_of_ble_eq_true rfl, Nat.le_of_ble_eq_true rfl⟩ ⟨Nat.le_of_ble_eq_true rfl, Nat.le_of_ble_eq_true rfl⟩ rfl rfl (Nat.le_of_ble_eq_true rfl) ?_
        rintro _ _ ⟨rfl, rfl⟩
        refine zr_imul hC dX4_probe_41 ?_
        refine zr_iadd hC dX4_probe_42 ?_
        refine zr_istore_n (lv' := [(3, .int (t1 + (u1 * (zf_dig (0 : Int32))))), (4, .int u1), (5, .int s1), (0, .ref mo), (1, .int b), (2, .int i)]) hC dX4_probe_43 rfl (by decide) rfl ?_
        refine zr_iload 1 hC dX4_probe_44 rfl ?_
        refine zr_bipush (v := (10 : Int32)) hC dX4_probe_46 rfl ?_
        refine zr_imul hC dX4_probe_48 ?_
        refine zr_istore (lv' := [(4, .int (u1 * (10 : Int32))), (3, .int (t1 + (u1 * (zf_dig (0 : Int32))))), (5, .int s1), (0, .ref mo), (1, .int b), (2, .int i)]) hC dX4_probe_49 (by decide) rfl ?_
        refine zr_iinc (v := (s1 + 1)) (lv' := [(5, .int (s1 + 1)), (4, .int (u1 * (10 : Int32))), (3, .int (t1 + (u1 * (zf_dig (0 : Int32))))), (0, .ref mo), (1, .int b), (2, .int i)]) 2 hC dX4_probe_51 rfl rfl (by decide) rfl ?_
        refine zr_goto (tgt := 21) hC dX4_probe_54 (by decide) ?_
        refine zr_sub [2, 1, 0, 3, 4, 5] rfl ?_
        exact ih (kn + 1, s1 + 1, (u1 * (10 : Int32)), (t1 + (u1 * (zf_dig (0 : Int32)))), a1, x1) ⟨by show kn + 1 ≤ 4; omega, by show s1 + 1 = nI (kn + 1); rw [hk2, nI_1], hR1, by rw [hsp, show 4 - kn = (4 - (kn + 1)) + 1 by omega]; show zf_pro _ _ _ _ _ (t1 + u1 * zf_dig (zf_why (aa_st a1) (zl b s1) i)) (zf_cnt (zf_why (aa_st a1) (zl b s1) i) a1) = _; rw [h1, zf_cnt0]⟩ (by show 4 - (kn + 1) < 4 - kn; omega)
      · have h1 : ¬ (zf_why (aa_st a1) (zl b s1) i) = 0 := h1
        refine zr_cSi hC cs_X4_digit ml_X4_97 (c_X4_digit (w := (mw_W mo m1 m2 m3 m4 m5 m6 m7 m8 m9 cI (zf_cnt (zf_why (aa_st a1) (zl b s1) i) (as_sta a1 0)) x1)) (zf_why (aa_st a1) (zl b s1) i)) dX4_probe_38 ⟨Nat.le_of_ble_eq_true rfl, Nat.le_of_ble_eq_true rfl⟩ ⟨Nat.le_of_ble_eq_true rfl, Nat.le_of_ble_eq_true rfl⟩ rfl rfl (Nat.le_of_ble_eq_true rfl) ?_
        rintro _ _ ⟨rfl, rfl⟩
        refine zr_imul hC dX4_probe_41 ?_
        refine zr_iadd hC dX4_probe_42 ?_
        refine zr_istore_n (lv' := [(3, .int (t1 + (u1 * (zf_dig (zf_why (aa_st a1) (zl b s1) i))))), (4, .int u1), (5, .int s1), (0, .ref mo), (1, .int b), (2, .int i)]) hC dX4_probe_43 rfl (by decide) rfl ?_
        refine zr_iload 1 hC dX4_probe_44 rfl ?_
        refine zr_bipush (v := (10 : Int32)) hC dX4_probe_46 rfl ?_
        refine zr_imul hC dX4_probe_48 ?_
        refine zr_istore (lv' := [(4, .int (u1 * (10 : Int32))), (3, .int (t1 + (u1 * (zf_dig (zf_why (aa_st a1) (zl b s1) i))))), (5, .int s1), (0, .ref mo), (1, .int b), (2, .int i)]) hC dX4_probe_49 (by decide) rfl ?_
        refine zr_iinc (v := (s1 + 1)) (lv' := [(5, .int (s1 + 1)), (4, .int (u1 * (10 : Int32))), (3, .int (t1 + (u1 * (zf_dig (zf_why (aa_st a1) (zl b s1) i))))), (0, .ref mo), (1, .int b), (2, .int i)]) 2 hC dX4_probe_51 rfl rfl (by decide) rfl ?_
        refine zr_goto (tgt := 21) hC dX4_probe_54 (by decide) ?_
        refine zr_sub [2, 1, 0, 3, 4, 5] rfl ?_
        exact ih (kn + 1, s1 + 1, (u1 * (10 : Int32)), (t1 + (u1 * (zf_dig (zf_why (aa_st a1) (zl b s1) i)))), (zf_cnt (zf_why (aa_st a1) (zl b s1) i) a1), x1) ⟨by show kn + 1 ≤ 4; omega, by show s1 + 1 = nI (kn + 1); rw [hk2, nI_1], hR1, by rw [hsp, show 4 - kn = (4 - (kn + 1)) + 1 by omega]; show zf_pro _ _ _ _ _ (t1 + u1 * zf_dig (zf_why (aa_st a1) (zl b s1) i)) (zf_cnt (zf_why (aa_st a1) (zl b s1) i) a1) = _; rfl⟩ (by show 4 - (kn + 1) < 4 - kn; omega)
  · refine zr_cVi 0 hC cv_X4_begins ml_X4_80 (c_X4_begins0 (a := a) (x := x)) dX4_probe_5 ⟨Nat.le_of_ble_eq_true rfl, Nat.le_of_ble_eq_true rfl⟩ ⟨Nat.le_of_ble_eq_true rfl, Nat.le_of_ble_eq_true rfl⟩ rfl rfl rfl rfl rfl (Nat.le_of_ble_eq_true rfl) ?_
    rintro _ _ ⟨rfl, rfl⟩
    refine zr_if_neF (tgt := 13) hC dX4_probe_8 (by decide) (by decide) ?_
    refine zr_iconst (v := (0 : Int32)) hC dX4_probe_11 rfl ?_
    refine zr_iret hC hr hk dX4_probe_12 (by decide) (by decide) ⟨_, rfl, ?_⟩
    exact zq_mk (if_neg (fun h => absurd h hb_b)) hR
set_option maxRecDepth 100000 in
set_option maxHeartbeats 4000000 in
theorem c_X4_poke (hR : rm_R a x) (b i v : Int32) : zz_Mi l D (zt cI cII cF) yX4_poke cX4_poke 8 (some .int) 3 69 0 0 [.ref mo, .int b, .int i, .int v] (mw_W mo m1 m2 m3 m4 m5 m6 m7 m8 m9 cI a x) (fun r w' => zp_m mo m1 m2 m3 m4 m5 m6 m7 m8 m9 cI (zo_poke a b i v) r w') := by
  refine zz_mk (by decide) (Nat.le_of_ble_eq_true rfl) ?_
  intro p e s m below meth c A hC hr hk hnm
  have hC : zz_C p s m _ c A D (zt cI cII cF) 8 cX4_poke RX4 := hC
  refine zr_aload_n 0 hC dX4_poke_0 rfl rfl ?_
  refine zr_iload_n 1 hC dX4_poke_1 rfl rfl ?_
  refine zr_cSi hC cs_X4_isBank ml_X4_73 (c_X4_isBank (w := (mw_W mo m1 m2 m3 m4 m5 m6 m7 m8 m9 cI a x)) b) dX4_poke_2 ⟨Nat.le_of_ble_eq_true rfl, Nat.le_of_ble_eq_true rfl⟩ ⟨Nat.le_of_ble_eq_true rfl, Nat.le_of_ble_eq_true rfl⟩ rfl rfl (Nat.le_of_ble_eq_true rfl) ?_
  rintro _ _ ⟨rfl, ⟨rfl, hb_b⟩ | ⟨rfl, hb_b⟩⟩
  · refine zr_cVi 0 hC cv_X4_begins ml_X4_80 (c_X4_begins1 (a := a) (x := x)) dX4_poke_5 ⟨Nat.le_of_ble_eq_true rfl, Nat.le_of_ble_eq_true rfl⟩ ⟨Nat.le_of_ble_eq_true rfl, Nat.le_of_ble_eq_true rfl⟩ rfl rfl rfl rfl rfl (Nat.le_of_ble_eq_true rfl) ?_
    rintro _ _ ⟨rfl, rfl⟩
    refine zr_if_neT (tgt := 13) hC dX4_poke_8 (by decide) (by decide) ?_
    refine zr_iconst (v := (0 : Int32)) hC dX4_poke_13 rfl ?_
    refine zr_istore (lv' := [(4, .int (0 : Int32)), (0, .ref mo), (1, .int b), (2, .int i), (3, .int v)]) hC dX4_poke_14 (by decide) rfl ?_
    refine zr_iconst (v := (1 : Int32)) hC dX4_poke_16 rfl ?_
    refine zr_istore (lv' := [(5, .int (1 : Int32)), (4, .int (0 : Int32)), (0, .ref mo), (1, .int b), (2, .int i), (3, .int v)]) hC dX4_poke_17 (by decide) rfl ?_
    refine zr_iconst (v := (0 : Int32)) hC dX4_poke_19 rfl ?_
    refine zr_istore (lv' := [(6, .int (0 : Int32)), (5, .int (1 : Int32)), (4, .int (0 : Int32)), (0, .ref mo), (1, .int b), (2, .int i), (3, .int v)]) hC dX4_poke_20 (by decide) rfl ?_
    refine zr_sub [2, 1, 0, 3, 4, 5, 6] rfl ?_
    refine zr_loop (σ := Nat × Int32 × Int32 × Int32 × ax_A × mx_X) (fun t => [(4, .int t.2.2.2.1), (5, .int t.2.2.1), (6, .int t.2.1), (0, .ref mo), (1, .int b), (2, .int i), (3, .int v)]) (fun t => mw_W mo m1 m2 m3 m4 m5 m6 m7 m8 m9 cI (as_sta t.2.2.2.2.1 0) t.2.2.2.2.2) (fun t => t.1 ≤ 4 ∧ t.2.1 = nI t.1 ∧ rm_R t.2.2.2.2.1 t.2.2.2.2.2 ∧ zf_pok b i v 4 0 1 0 a = zf_pok b i v (4 - t.1) t.2.1 t.2.2.1 t.2.2.2.1 t.2.2.2.2.1) (fun t => 4 - t.1) ?_ (0, 0, 1, 0, a, x) ⟨Nat.zero_le _, rfl, hR, rfl⟩
    rintro ⟨kn, s1, u1, t1, a1, x1⟩ ⟨hk1, hk2, hR1, hsp⟩ ih
    try dsimp only at hk1
    try dsimp only at hk2
    try dsimp only at hR1
    try dsimp only at hsp
    show zz_Z _ _ _ _ _ _ _ _ _ _ _ _ _ _ 22 [(4, .int t1), (5, .int u1), (6, .int s1), (0, .ref mo), (1, .int b), (2, .int i), (3, .int v)] [] (mw_W mo m1 m2 m3 m4 m5 m6 m7 m8 m9 cI (as_sta a1 0) x1) 0 0
    refine zr_iload 2 hC dX4_poke_22 rfl ?_
    refine zr_iconst (v := (3 : Int32)) hC dX4_poke_24 rfl ?_
    refine zr_icmp_gt (tgt := 78) hC dX4_poke_25 (by decide) (fun c25 => ?_) (fun c25 => ?_)
    · have hend : kn = 4 := by
        rw [hk2] at c25
        have := (nI_ltI (a := 3) (by omega) (by omega)).mp c25
        omega
      refine zr_iload 0 hC dX4_poke_78 rfl ?_
      refine zr_iret hC hr hk dX4_poke_80 (by decide) (by decide) ⟨_, rfl, ?_⟩
      exact zq_mk (by unfold zo_poke; rw [if_pos hb_b, hsp, hend]; rfl) hR1
    · have hlt : kn < 4 := by
        rcases Nat.lt_or_ge kn 4 with h0 | h0
        · exact h0
        · exact absurd (by rw [hk2]; exact nI_lt (a := 3) (by omega) (by omega)) c25
      have hs_s1 : zk_s s1 := by rw [hk2]; exact ⟨nI_pos' (by omega), nI_lt (b := 4) hlt (by omega)⟩
      refine zr_aload_n 3 hC dX4_poke_28 rfl rfl ?_
      refine zr_iload_n 4 hC dX4_poke_29 rfl rfl ?_
      refine zr_iload 2 hC dX4_poke_30 rfl ?_
      refine zr_iload_n 5 hC dX4_poke_32 rfl rfl ?_
      refine zr_cVi 0 hC cv_X4_refused ml_X4_87 (c_X4_refused (a := (as_sta a1 0)) (x := x1) hR1.1 i hb_b hs_s1) dX4_poke_33 ⟨Nat.le_of_ble_eq_true rfl, Nat.le_of_ble_eq_true rfl⟩ ⟨Nat.le_of_ble_eq_true rfl, Nat.le_of_ble_eq_true rfl⟩ rfl rfl rfl rfl rfl (Nat.le_of_ble_eq_true rfl) ?_
      rintro _ _ (⟨h1, rfl, rfl⟩ | ⟨h1, rfl, rfl⟩)
      · have h1 : (zf_why (aa_st a1) (zl b s1) i) = 0 := h1
        refine zr_istore (lv' := [(7, .int (0 : Int32)), (4, .int t1), (5, .int u1), (6, .int s1), (0, .ref mo), (1, .int b), (2, .int i), (3, .int v)]) hC dX4_poke_36 (by decide) rfl ?_
        refine zr_iload 0 hC dX4_poke_38 rfl ?_
        refine zr_if_neF (tgt := 52) hC dX4_poke_40 (by decide) (by decide) ?_
        refine zr_aload_n 4 hC dX4_poke_43 rfl rfl ?_
        refine zr_iload_n 5 hC dX4_poke_44 rfl rfl ?_
        refine zr_iload 3 hC dX4_poke_45 rfl ?_
        refine zr_iload_n 6 hC dX4_poke_47 rfl rfl ?_
        refine zr_iload_n 7 hC dX4_poke_48 rfl rfl ?_
        refine zr_cVv 0 hC cv_X4_put ml_X4_93 (c_X4_put (a := (as_sta a1 0)) (x := x1) hR1.1 v hb_b hs_s1 (by assumption)) dX4_poke_49 ⟨Nat.le_of_ble_eq_true rfl, Nat.le_of_ble_eq_true rfl⟩ ⟨Nat.le_of_ble_eq_true rfl, Nat.le_of_ble_eq_true rfl⟩ rfl rfl rfl rfl rfl (Nat.le_of_ble_eq_true rfl) ?_
        rintro _ ⟨p2, rfl, hQp2⟩
        refine zr_iload 1 hC dX4_poke_52 rfl ?_
        refine zr_iload 2 hC dX4_poke_54 rfl ?_
        refine zr_iload 0 hC dX4_poke_56 rfl ?_
        refine zr_cSi hC cs_X4_digit ml_X4_97 (c_X4_digit (w := (mw_W mo m1 m2 m3 m4 m5 m6 m7 m8 m9 cI (zf_set (as_sta a1 0) (zl b s1) i (zf_num s1 v)) (mk_pl x1 p2))) (0 : Int32)) dX4_poke_58 ⟨Nat.le_of_ble_eq_true rfl, Nat.le_of_ble_eq_true rfl⟩ ⟨Nat.le_of_ble_eq_true rfl, Nat.le_of_ble_eq_true rfl⟩ rfl rfl (Nat.le_of_ble_eq_true rfl) ?_
        rintro _ _ ⟨rfl, rfl⟩
        refine zr_imul hC dX4_poke_61 ?_
        refine zr_iadd hC dX4_poke_62 ?_
        refine zr_istore (lv' := [(4, .int (t1 + (u1 * (zf_dig (0 : Int32))))), (7, .int (0 : Int32)), (5, .int u1), (6, .int s1), (0, .ref mo), (1, .int b), (2, .int i), (3, .int v)]) hC dX4_poke_63 (by decide) rfl ?_
        refine zr_iload 2 hC dX4_poke_65 rfl ?_
        refine zr_bipush (v := (10 : Int32)) hC dX4_poke_67 rfl ?_
        refine zr_imul hC dX4_poke_69 ?_
        refine zr_istore (lv' := [(5, .int (u1 * (10 : Int32))), (4, .int (t1 + (u1 * (zf_dig (0 : Int32))))), (7, .int (0 : Int32)), (6, .int s1), (0, .ref mo), (1, .int b), (2, .int i), (3, .int v)]) hC dX4_poke_70 (by decide) rfl ?_
        refine zr_iinc (v := (s1 + 1)) (lv' := [(6, .int (s1 + 1)), (5, .int (u1 * (10 : Int32))), (4, .int (t1 + (u1 * (zf_dig (0 : Int32))))), (7, .int (0 : Int32)), (0, .ref mo), (1, .int b), (2, .int i), (3, .int v)]) 3 hC dX4_poke_72 rfl rfl (by decide) rfl ?_
        refine zr_goto (tgt := 22) hC dX4_poke_75 (by decide) ?_
        refine zr_sub [2, 1, 0, 4, 5, 6, 7] rfl ?_
        exact ih (kn + 1, s1 + 1, (u1 * (10 : Int32)), (t1 + (u1 * (zf_dig (0 : Int32)))), (zf_set a1 (zl b s1) i (zf_num s1 v)), (mk_pl x1 p2)) ⟨by show kn + 1 ≤ 4; omega, by show s1 + 1 = nI (kn + 1); rw [hk2, nI_1], ⟨hQp2, hR1.2⟩, by rw [hsp, show 4 - kn = (4 - (kn + 1)) + 1 by omega]; show zf_pok _ _ _ _ _ _ (t1 + u1 * zf_dig (zf_why (aa_st a1) (zl b s1) i)) (if zf_why (aa_st a1) (zl b s1) i = 0 then zf_set a1 (zl b s1) i (zf_num s1 v) else zf_cnt (zf_why (aa_st a1) (zl b s1) i) a1) = _; rw [h1, if_pos rfl]⟩ (by show 4 - (kn + 1) < 4 - kn; omega)
      · have h1 : ¬ (zf_why (aa_st a1) (zl b s1) i) = 0 := h1
        refine zr_istore (lv' := [(7, .int (zf_why (aa_st a1) (zl b s1) i)), (4, .int t1), (5, .int u1), (6, .int s1), (0, .ref mo), (1, .int b), (2, .int i), (3, .int v)]) hC dX4_poke_36 (by decide) rfl ?_
        refine zr_iload 0 hC dX4_poke_38 rfl ?_
        refine zr_if_neT (tgt := 52) hC dX4_poke_40 (by decide) h1 ?_
        refine zr_iload 1 hC dX4_poke_52 rfl ?_
        refine zr_iload 2 hC dX4_poke_54 rfl ?_
        refine zr_iload 0 hC dX4_poke_56 rfl ?_
        refine zr_cSi hC cs_X4_digit ml_X4_97 (c_X4_digit (w := (mw_W mo m1 m2 m3 m4 m5 m6 m7 m8 m9 cI (zf_cnt (zf_why (aa_st a1) (zl b s1) i) (as_sta a1 0)) x1)) (zf_why (aa_st a1) (zl b s1) i)) dX4_poke_58 ⟨Nat.le_of_ble_eq_true rfl, Nat.le_of_ble_eq_true rfl⟩ ⟨Nat.le_of_ble_eq_true rfl, Nat.le_of_ble_eq_true rfl⟩ rfl rfl (Nat.le_of_ble_eq_true rfl) ?_
        rintro _ _ ⟨rfl, rfl⟩
        refine zr_imul hC dX4_poke_61 ?_
        refine zr_iadd hC dX4_poke_62 ?_
        refine zr_istore (lv' := [(4, .int (t1 + (u1 * (zf_dig (zf_why (aa_st a1) (zl b s1) i))))), (7, .int (zf_why (aa_st a1) (zl b s1) i)), (5, .int u1), (6, .int s1), (0, .ref mo), (1, .int b), (2, .int i), (3, .int v)]) hC dX4_poke_63 (by decide) rfl ?_
        refine zr_iload 2 hC dX4_poke_65 rfl ?_
        refine zr_bipush (v := (10 : Int32)) hC dX4_poke_67 rfl ?_
        refine zr_imul hC dX4_poke_69 ?_
        refine zr_istore (lv' := [(5, .int (u1 * (10 : Int32))), (4, .int (t1 + (u1 * (zf_dig (zf_why (aa_st a1) (zl b s1) i))))), (7, .int (zf_why (aa_st a1) (zl b s1) i)), (6, .int s1), (0, .ref mo), (1, .int b), (2, .int i), (3, .int v)]) hC dX4_poke_70 (by decide) rfl ?_
        refine zr_iinc (v := (s1 + 1)) (lv' := [(6, .int (s1 + 1)), (5, .int (u1 * (10 : Int32))), (4, .int (t1 + (u1 * (zf_dig (zf_why (aa_st a1) (zl b s1) i))))), (7, .int (zf_why (aa_st a1) (zl b s1) i)), (0, .ref mo), (1, .int b), (2, .int i), (3, .int v)]) 3 hC dX4_poke_72 rfl rfl (by decide) rfl ?_
        refine zr_goto (tgt := 22) hC dX4_poke_75 (by decide) ?_
        refine zr_sub [2, 1, 0, 4, 5, 6, 7] rfl ?_
        exact ih (kn + 1, s1 + 1, (u1 * (10 : Int32)), (t1 + (u1 * (zf_dig (zf_why (aa_st a1) (zl b s1) i)))), (zf_cnt (zf_why (aa_st a1) (zl b s1) i) a1), x1) ⟨by show kn + 1 ≤ 4; omega, by show s1 + 1 = nI (kn + 1); rw [hk2, nI_1], hR1, by rw [hsp, show 4 - kn = (4 - (kn + 1)) + 1 by omega]; show zf_pok _ _ _ _ _ _ (t1 + u1 * zf_dig (zf_why (aa_st a1) (zl b s1) i)) (if zf_why (aa_st a1) (zl b s1) i = 0 then zf_set a1 (zl b s1) i (zf_num s1 v) else zf_cnt (zf_why (aa_st a1) (zl b s1) i) a1) = _; rw [if_neg h1]⟩ (by show 4 - (kn + 1) < 4 - kn; omega)
  · refine zr_cVi 0 hC cv_X4_begins ml_X4_80 (c_X4_begins0 (a := a) (x := x)) dX4_poke_5 ⟨Nat.le_of_ble_eq_true rfl, Nat.le_of_ble_eq_true rfl⟩ ⟨Nat.le_of_ble_eq_true rfl, Nat.le_of_ble_eq_true rfl⟩ rfl rfl rfl rfl rfl (Nat.le_of_ble_eq_true rfl) ?_
    rintro _ _ ⟨rfl, rfl⟩
    refine zr_if_neF (tgt := 13) hC dX4_poke_8 (by decide) (by decide) ?_
    refine zr_iconst (v := (0 : Int32)) hC dX4_poke_11 rfl ?_
    refine zr_iret hC hr hk dX4_poke_12 (by decide) (by decide) ⟨_, rfl, ?_⟩
    exact zq_mk (if_neg (fun h => absurd h hb_b)) hR
set_option maxRecDepth 100000 in
set_option maxHeartbeats 4000000 in
theorem c_X4_lit (hR : rm_R a x) (b : Int32) : zz_Mi l D (zt cI cII cF) yX4_lit cX4_lit 6 (some .int) 3 69 0 0 [.ref mo, .int b] (mw_W mo m1 m2 m3 m4 m5 m6 m7 m8 m9 cI a x) (fun r w' => zp_m mo m1 m2 m3 m4 m5 m6 m7 m8 m9 cI (zo_lit a b) r w') := by
  refine zz_mk (by decide) (Nat.le_of_ble_eq_true rfl) ?_
  intro p e s m below meth c A hC hr hk hnm
  have hC : zz_C p s m _ c A D (zt cI cII cF) 6 cX4_lit RX4 := hC
  refine zr_aload_n 0 hC dX4_lit_0 rfl rfl ?_
  refine zr_iload_n 1 hC dX4_lit_1 rfl rfl ?_
  refine zr_cSi hC cs_X4_isBank ml_X4_73 (c_X4_isBank (w := (mw_W mo m1 m2 m3 m4 m5 m6 m7 m8 m9 cI a x)) b) dX4_lit_2 ⟨Nat.le_of_ble_eq_true rfl, Nat.le_of_ble_eq_true rfl⟩ ⟨Nat.le_of_ble_eq_true rfl, Nat.le_of_ble_eq_true rfl⟩ rfl rfl (Nat.le_of_ble_eq_true rfl) ?_
  rintro _ _ ⟨rfl, ⟨rfl, hb_b⟩ | ⟨rfl, hb_b⟩⟩
  · refine zr_cVi 0 hC cv_X4_begins ml_X4_80 (c_X4_begins1 (a := a) (x := x)) dX4_lit_5 ⟨Nat.le_of_ble_eq_true rfl, Nat.le_of_ble_eq_true rfl⟩ ⟨Nat.le_of_ble_eq_true rfl, Nat.le_of_ble_eq_true rfl⟩ rfl rfl rfl rfl rfl (Nat.le_of_ble_eq_true rfl) ?_
    rintro _ _ ⟨rfl, rfl⟩
    refine zr_if_neT (tgt := 13) hC dX4_lit_8 (by decide) (by decide) ?_
    refine zr_aload_n 0 hC dX4_lit_13 rfl rfl ?_
    refine zr_get (v := .ref m1) 0 0 hC iu_X4 rfl dX4_lit_14 fl_X4_7 (by decide) rfl rfl ?_
    refine zr_iconst (v := (4 : Int32)) hC dX4_lit_17 rfl ?_
    refine zr_iload_n 1 hC dX4_lit_18 rfl rfl ?_
    refine zr_imul hC dX4_lit_19 ?_
    refine zr_iconst (v := (2 : Int32)) hC dX4_lit_20 rfl ?_
    refine zr_iadd hC dX4_lit_21 ?_
    refine zr_iaj (f := (mx_sp x)) (j := zl b 2) 1 0 hC dX4_lit_22 rfl rfl (zl_lt hb_b zk_s2) (zl_m hb_b zk_s2) (by decide) ?_
    refine zr_istore_n (lv' := [(2, .int ((mx_sp x) (zl b 2))), (0, .ref mo), (1, .int b)]) hC dX4_lit_23 rfl (by decide) rfl ?_
    refine zr_iload_n 0 hC dX4_lit_24 rfl rfl ?_
    refine zr_iconst (v := (-1 : Int32)) hC dX4_lit_25 rfl ?_
    refine zr_icmp_ne (tgt := 40) hC dX4_lit_26 (by decide) (fun c26 => ?_) (fun c26 => ?_)
    · obtain ⟨z, n, hz, hsz, hn, hln, hlen, hpl⟩ := rm_some hR.1 (zl_lt hb_b zk_s2) c26
      refine zr_iconst (v := (0 : Int32)) hC dX4_lit_40 rfl ?_
      refine zr_istore_n (lv' := [(3, .int (0 : Int32)), (2, .int ((mx_sp x) (zl b 2))), (0, .ref mo), (1, .int b)]) hC dX4_lit_41 rfl (by decide) rfl ?_
      refine zr_iconst (v := (0 : Int32)) hC dX4_lit_42 rfl ?_
      refine zr_istore (lv' := [(4, .int (0 : Int32)), (3, .int (0 : Int32)), (2, .int ((mx_sp x) (zl b 2))), (0, .ref mo), (1, .int b)]) hC dX4_lit_43 (by decide) rfl ?_
      refine zr_loop (σ := Nat × Int32 × Int32 × ax_A) (fun t => [(4, .int t.2.1), (3, .int t.2.2.1), (2, .int (mx_sp x (zl b 2))), (0, .ref mo), (1, .int b)]) (fun t => mw_W mo m1 m2 m3 m4 m5 m6 m7 m8 m9 cI (as_sta t.2.2.2 0) x) (fun t => t.1 ≤ n ∧ t.2.1 = nI t.1 ∧ rm_R t.2.2.2 x ∧ aa_st t.2.2.2 = aa_st a ∧ zf_lit b n 0 0 a = zf_lit b (n - t.1) t.2.1 t.2.2.1 t.2.2.2) (fun t => n - t.1) ?_ (0, 0, 0, a) ⟨Nat.zero_le _, rfl, hR, rfl, rfl⟩
      rintro ⟨kn, i1, k1, a1⟩ ⟨hk1, hk2, hR1, hst, hsp⟩ ih
      try dsimp only at hk1
      try dsimp only at hk2
      try dsimp only at hR1
      try dsimp only at hst
      try dsimp only at hsp
      show zz_Z _ _ _ _ _ _ _ _ _ _ _ _ _ _ 45 [(4, .int i1), (3, .int k1), (2, .int (mx_sp x (zl b 2))), (0, .ref mo), (1, .int b)] [] (mw_W mo m1 m2 m3 m4 m5 m6 m7 m8 m9 cI (as_sta a1 0) x) 0 0
      refine zr_iload 0 hC dX4_lit_45 rfl ?_
      refine zr_aload_n 3 hC dX4_lit_47 rfl rfl ?_
      refine zr_get (v := .ref m2) 0 1 hC iu_X4 rfl dX4_lit_48 fl_X4_13 (by decide) rfl rfl ?_
      refine zr_iload_n 2 hC dX4_lit_51 rfl rfl ?_
      refine zr_iaj (f := (mx_ln x)) (j := z) 2 0 hC dX4_lit_52 rfl rfl hz hsz (by decide) ?_
      refine zr_icmp_ge (tgt := 120) hC dX4_lit_53 (by decide) (fun c53 => ?_) (fun c53 => ?_)
      · have hend : kn = n := by
          rw [hk2, hln] at c53
          have := (nI_leI (a := n) (by omega) (by omega)).mp c53
          omega
        refine zr_iload_n 1 hC dX4_lit_120 rfl rfl ?_
        refine zr_iret hC hr hk dX4_lit_121 (by decide) (by decide) ⟨_, rfl, ?_⟩
        exact zq_mk (by unfold zo_lit; rw [if_pos hb_b, hlen]; show zf_lit b n 0 0 a = _; rw [hsp, hend, Nat.sub_self]; rfl) hR1
      · have hlt : kn < n := by
          rcases Nat.lt_or_ge kn n with h0 | h0
          · exact h0
          · exact absurd (by rw [hk2, hln]; exact nI_le h0 (by omega)) c53
        have hval : mx_pl x (25 * z + kn) = zf_val (aa_st a1) (zl b 2) i1 := by
          rw [(hpl kn hlt).1, zf_val, hk2, nI_clamp (by omega), hst]
        refine zr_aload_n 3 hC dX4_lit_56 rfl rfl ?_
        refine zr_iload_n 4 hC dX4_lit_57 rfl rfl ?_
        refine zr_iconst (v := (3 : Int32)) hC dX4_lit_58 rfl ?_
        refine zr_iload 0 hC dX4_lit_59 rfl ?_
        refine zr_cVi 0 hC cv_X4_refused ml_X4_87 (c_X4_refused (a := (as_sta a1 0)) (x := x) hR1.1 i1 hb_b zk_s3) dX4_lit_61 ⟨Nat.le_of_ble_eq_true rfl, Nat.le_of_ble_eq_true rfl⟩ ⟨Nat.le_of_ble_eq_true rfl, Nat.le_of_ble_eq_true rfl⟩ rfl rfl rfl rfl rfl (Nat.le_of_ble_eq_true rfl) ?_
        rintro _ _ (⟨h1, rfl, rfl⟩ | ⟨h1, rfl, rfl⟩)
        · have h1 : (zf_why (aa_st a1) (zl b 3) i1) = 0 := h1
          refine zr_if_neF (tgt := 83) hC dX4_lit_64 (by decide) (by decide) ?_
          have hkey : zf_val (aa_st a1) (zl b 3) i1 = 0 ∨ zf_val (aa_st a1) (zl b 3) i1 = 1 := by
            obtain ⟨-, -, -, -, -, -, -, -, -, -, -, hzk⟩ := rm_why0 hR1.1 (zl_lt hb_b zk_s3) h1
            exact hzk.2.2 (zl_mod hb_b zk_s3)
          refine zr_aload_n 3 hC dX4_lit_67 rfl rfl ?_
          refine zr_iload_n 4 hC dX4_lit_68 rfl rfl ?_
          refine zr_iconst (v := (3 : Int32)) hC dX4_lit_69 rfl ?_
          refine zr_iload 0 hC dX4_lit_70 rfl ?_
          refine zr_cVi 0 hC cv_X4_at ml_X4_90 (c_X4_at (a := (as_sta a1 0)) (x := x) hR1.1 hb_b zk_s3 (by assumption)) dX4_lit_72 ⟨Nat.le_of_ble_eq_true rfl, Nat.le_of_ble_eq_true rfl⟩ ⟨Nat.le_of_ble_eq_true rfl, Nat.le_of_ble_eq_true rfl⟩ rfl rfl rfl rfl rfl (Nat.le_of_ble_eq_true rfl) ?_
          rintro _ _ ⟨rfl, rfl⟩
          refine zr_iconst (v := (1 : Int32)) hC dX4_lit_75 rfl ?_
          refine zr_icmp_ne (tgt := 83) hC dX4_lit_76 (by decide) (fun c76 => ?_) (fun c76 => ?_)
          · refine zr_iconst (v := (0 : Int32)) hC dX4_lit_83 rfl ?_
            refine zr_istore (lv' := [(5, .int (0 : Int32)), (4, .int i1), (3, .int k1), (2, .int (mx_sp x (zl b 2))), (0, .ref mo), (1, .int b)]) hC dX4_lit_84 (by decide) rfl ?_
            refine zr_iload_n 2 hC dX4_lit_86 rfl rfl ?_
            refine zr_iload 0 hC dX4_lit_87 rfl ?_
            refine zr_if_eqT (tgt := 111) hC dX4_lit_89 (by decide) (by decide) ?_
            refine zr_iconst (v := (0 : Int32)) hC dX4_lit_111 rfl ?_
            refine zr_iadd hC dX4_lit_112 ?_
            refine zr_istore_n (lv' := [(3, .int (k1 + (0 : Int32))), (5, .int (0 : Int32)), (4, .int i1), (2, .int (mx_sp x (zl b 2))), (0, .ref mo), (1, .int b)]) hC dX4_lit_113 rfl (by decide) rfl ?_
            refine zr_iinc (v := (i1 + 1)) (lv' := [(4, .int (i1 + 1)), (3, .int (k1 + (0 : Int32))), (5, .int (0 : Int32)), (2, .int (mx_sp x (zl b 2))), (0, .ref mo), (1, .int b)]) 2 hC dX4_lit_114 rfl rfl (by decide) rfl ?_
            refine zr_goto (tgt := 45) hC dX4_lit_117 (by decide) ?_
            refine zr_sub [0, 1, 3, 4, 5] rfl ?_
            exact ih (kn + 1, i1 + 1, (k1 + (0 : Int32)), a1) ⟨by show kn + 1 ≤ n; omega, by show i1 + 1 = nI (kn + 1); rw [hk2, nI_1], hR1, hst, by rw [hsp, show n - kn = (n - (kn + 1)) + 1 by omega]; show zf_lit _ _ _ (if zf_why (aa_st a1) (zl b 3) i1 = 0 ∧ ¬ zf_val (aa_st a1) (zl b 3) i1 = 0 ∧ 0 < zf_val (aa_st a1) (zl b 2) i1 then _ else _) (zf_cnt (zf_why (aa_st a1) (zl b 3) i1) a1) = zf_lit _ _ _ (k1 + (0 : Int32)) _; rw [if_neg (fun q => q.2.1 (hkey.resolve_right c76)), Int32.add_zero]; rw [h1, zf_cnt0]⟩ (by show n - (kn + 1) < n - kn; omega)
          · refine zr_iconst (v := (1 : Int32)) hC dX4_lit_79 rfl ?_
            refine zr_goto (tgt := 84) hC dX4_lit_80 (by decide) ?_
            refine zr_istore (lv' := [(5, .int (1 : Int32)), (4, .int i1), (3, .int k1), (2, .int (mx_sp x (zl b 2))), (0, .ref mo), (1, .int b)]) hC dX4_lit_84 (by decide) rfl ?_
            refine zr_iload_n 2 hC dX4_lit_86 rfl rfl ?_
            refine zr_iload 0 hC dX4_lit_87 rfl ?_
            refine zr_if_eqF (tgt := 111) hC dX4_lit_89 (by decide) (by decide) ?_
            refine zr_aload_n 4 hC dX4_lit_92 rfl rfl ?_
            refine zr_get (v := .ref m3) 0 2 hC iu_X4 rfl dX4_lit_93 fl_X4_16 (by decide) rfl rfl ?_
            refine zr_bipush (v := (25 : Int32)) hC dX4_lit_96 rfl ?_
            refine zr_iload_n 3 hC dX4_lit_98 rfl rfl ?_
            refine zr_imul hC dX4_lit_99 ?_
            refine zr_iload 1 hC dX4_lit_100 rfl ?_
            refine zr_iadd hC dX4_lit_102 ?_
            refine zr_iaj (f := (mx_pl x)) (j := 25 * z + kn) 3 0 hC dX4_lit_103 rfl rfl (by omega) (by rw [hsz, hk2, show (25 : Int32) = nI 25 from rfl, pk_mul, nI_add]) (by decide) ?_
            refine zr_if_le (tgt := 111) hC dX4_lit_104 (by decide) (fun c104 => ?_) (fun c104 => ?_)
            · refine zr_iconst (v := (0 : Int32)) hC dX4_lit_111 rfl ?_
              refine zr_iadd hC dX4_lit_112 ?_
              refine zr_istore_n (lv' := [(3, .int (k1 + (0 : Int32))), (5, .int (1 : Int32)), (4, .int i1), (2, .int (mx_sp x (zl b 2))), (0, .ref mo), (1, .int b)]) hC dX4_lit_113 rfl (by decide) rfl ?_
              refine zr_iinc (v := (i1 + 1)) (lv' := [(4, .int (i1 + 1)), (3, .int (k1 + (0 : Int32))), (5, .int (1 : Int32)), (2, .int (mx_sp x (zl b 2))), (0, .ref mo), (1, .int b)]) 2 hC dX4_lit_114 rfl rfl (by decide) rfl ?_
              refine zr_goto (tgt := 45) hC dX4_lit_117 (by decide) ?_
              refine zr_sub [0, 1, 3, 4, 5] rfl ?_
              exact ih (kn + 1, i1 + 1, (k1 + (0 : Int32)), a1) ⟨by show kn + 1 ≤ n; omega, by show i1 + 1 = nI (kn + 1); rw [hk2, nI_1], hR1, hst, by rw [hsp, show n - kn = (n - (kn + 1)) + 1 by omega]; show zf_lit _ _ _ (if zf_why (aa_st a1) (zl b 3) i1 = 0 ∧ ¬ zf_val (aa_st a1) (zl b 3) i1 = 0 ∧ 0 < zf_val (aa_st a1) (zl b 2) i1 then _ else _) (zf_cnt (zf_why (aa_st a1) (zl b 3) i1) a1) = zf_lit _ _ _ (k1 + (0 : Int32)) _; rw [if_neg (fun q => absurd q.2.2 (Int32.not_lt.mpr (hval ▸ c104))), Int32.add_zero]; rw [h1, zf_cnt0]⟩ (by show n - (kn + 1) < n - kn; omega)
            · refine zr_iconst (v := (1 : Int32)) hC dX4_lit_107 rfl ?_
              refine zr_goto (tgt := 112) hC dX4_lit_108 (by decide) ?_
              refine zr_iadd hC dX4_lit_112 ?_
              refine zr_istore_n (lv' := [(3, .int (k1 + (1 : Int32))), (5, .int (1 : Int32)), (4, .int i1), (2, .int (mx_sp x (zl b 2))), (0, .ref mo), (1, .int b)]) hC dX4_lit_113 rfl (by decide) rfl ?_
              refine zr_iinc (v := (i1 + 1)) (lv' := [(4, .int (i1 + 1)), (3, .int (k1 + (1 : Int32))), (5, .int (1 : Int32)), (2, .int (mx_sp x (zl b 2))), (0, .ref mo), (1, .int b)]) 2 hC dX4_lit_114 rfl rfl (by decide) rfl ?_
              refine zr_goto (tgt := 45) hC dX4_lit_117 (by decide) ?_
              refine zr_sub [0, 1, 3, 4, 5] rfl ?_
              exact ih (kn + 1, i1 + 1, (k1 + (1 : Int32)), a1) ⟨by show kn + 1 ≤ n; omega, by show i1 + 1 = nI (kn + 1); rw [hk2, nI_1], hR1, hst, by rw [hsp, show n - kn = (n - (kn + 1)) + 1 by omega]; show zf_lit _ _ _ (if zf_why (aa_st a1) (zl b 3) i1 = 0 ∧ ¬ zf_val (aa_st a1) (zl b 3) i1 = 0 ∧ 0 < zf_val (aa_st a1) (zl b 2) i1 then _ else _) (zf_cnt (zf_why (aa_st a1) (zl b 3) i1) a1) = zf_lit _ _ _ (k1 + (1 : Int32)) _; rw [if_pos ⟨h1, by rw [c76]; decide, hval ▸ Int32.not_le.mp c104⟩]; rw [h1, zf_cnt0]⟩ (by show n - (kn + 1) < n - kn; omega)
        · have h1 : ¬ (zf_why (aa_st a1) (zl b 3) i1) = 0 := h1
          refine zr_if_neT (tgt := 83) hC dX4_lit_64 (by decide) h1 ?_
          refine zr_iconst (v := (0 : Int32)) hC dX4_lit_83 rfl ?_
          refine zr_istore (lv' := [(5, .int (0 : Int32)), (4, .int i1), (3, .int k1), (2, .int (mx_sp x (zl b 2))), (0, .ref mo), (1, .int b)]) hC dX4_lit_84 (by decide) rfl ?_
          refine zr_iload_n 2 hC dX4_lit_86 rfl rfl ?_
          refine zr_iload 0 hC dX4_lit_87 rfl ?_
          refine zr_if_eqT (tgt := 111) hC dX4_lit_89 (by decide) (by decide) ?_
          refine zr_iconst (v := (0 : Int32)) hC dX4_lit_111 rfl ?_
          refine zr_iadd hC dX4_lit_112 ?_
          refine zr_istore_n (lv' := [(3, .int (k1 + (0 : Int32))), (5, .int (0 : Int32)), (4, .int i1), (2, .int (mx_sp x (zl b 2))), (0, .ref mo), (1, .int b)]) hC dX4_lit_113 rfl (by decide) rfl ?_
          refine zr_iinc (v := (i1 + 1)) (lv' := [(4, .int (i1 + 1)), (3, .int (k1 + (0 : Int32))), (5, .int (0 : Int32)), (2, .int (mx_sp x (zl b 2))), (0, .ref mo), (1, .int b)]) 2 hC dX4_lit_114 rfl rfl (by decide) rfl ?_
          refine zr_goto (tgt := 45) hC dX4_lit_117 (by decide) ?_
          refine zr_sub [0, 1, 3, 4, 5] rfl ?_
          exact ih (kn + 1, i1 + 1, (k1 + (0 : Int32)), (zf_cnt (zf_why (aa_st a1) (zl b 3) i1) a1)) ⟨by show kn + 1 ≤ n; omega, by show i1 + 1 = nI (kn + 1); rw [hk2, nI_1], hR1, hst, by rw [hsp, show n - kn = (n - (kn + 1)) + 1 by omega]; show zf_lit _ _ _ (if zf_why (aa_st a1) (zl b 3) i1 = 0 ∧ ¬ zf_val (aa_st a1) (zl b 3) i1 = 0 ∧ 0 < zf_val (aa_st a1) (zl b 2) i1 then _ else _) (zf_cnt (zf_why (aa_st a1) (zl b 3) i1) a1) = zf_lit _ _ _ (k1 + (0 : Int32)) _; rw [if_neg (fun q => h1 q.1), Int32.add_zero]⟩ (by show n - (kn + 1) < n - kn; omega)
    · refine zr_aload_n 1 hC dX4_lit_29 rfl rfl ?_
      refine zr_aload_n 1 hC dX4_lit_30 rfl rfl ?_
      refine zr_iconst (v := (2 : Int32)) hC dX4_lit_31 rfl ?_
      refine zr_cVi 0 hC cv_X4_counted ml_X4_57 (c_X4_counted (a := (as_sta a 0)) (x := x) (2 : Int32) (by decide)) dX4_lit_32 ⟨Nat.le_of_ble_eq_true rfl, Nat.le_of_ble_eq_true rfl⟩ ⟨Nat.le_of_ble_eq_true rfl, Nat.le_of_ble_eq_true rfl⟩ rfl rfl rfl rfl rfl (Nat.le_of_ble_eq_true rfl) ?_
      rintro rr _ ⟨hrr, rfl⟩
      subst rr
      refine zr_put (w' := (mw_W mo m1 m2 m3 m4 m5 m6 m7 m8 m9 cI (as_sta (zf_cnt (2 : Int32) (as_sta a 0)) (2 : Int32)) x)) 0 13 hC iu_X4 tyX4_ok nmX4 rfl dX4_lit_35 fl_X4_41 (by decide) rfl rfl rfl rfl (Nat.le_of_ble_eq_true rfl) rfl ?_
      refine zr_iconst (v := (0 : Int32)) hC dX4_lit_38 rfl ?_
      refine zr_iret hC hr hk dX4_lit_39 (by decide) (by decide) ⟨_, rfl, ?_⟩
      exact zq_mk (by unfold zo_lit; rw [if_pos hb_b, rm_none hR.1 (zl_lt hb_b zk_s2) c26]) hR
  · refine zr_cVi 0 hC cv_X4_begins ml_X4_80 (c_X4_begins0 (a := a) (x := x)) dX4_lit_5 ⟨Nat.le_of_ble_eq_true rfl, Nat.le_of_ble_eq_true rfl⟩ ⟨Nat.le_of_ble_eq_true rfl, Nat.le_of_ble_eq_true rfl⟩ rfl rfl rfl rfl rfl (Nat.le_of_ble_eq_true rfl) ?_
    rintro _ _ ⟨rfl, rfl⟩
    refine zr_if_neF (tgt := 13) hC dX4_lit_8 (by decide) (by decide) ?_
    refine zr_iconst (v := (0 : Int32)) hC dX4_lit_11 rfl ?_
    refine zr_iret hC hr hk dX4_lit_12 (by decide) (by decide) ⟨_, rfl, ?_⟩
    exact zq_mk (if_neg (fun h => absurd h hb_b)) hR
set_option maxRecDepth 100000 in
set_option maxHeartbeats 4000000 in
theorem c_X4_draw (hR : rm_R a x) (b i : Int32) : zz_Mi l D (zt cI cII cF) yX4_draw cX4_draw 5 (some .int) 4 92 0 0 [.ref mo, .int b, .int i] (mw_W mo m1 m2 m3 m4 m5 m6 m7 m8 m9 cI a x) (fun r w' => zp_m mo m1 m2 m3 m4 m5 m6 m7 m8 m9 cI (zo_draw a b i) r w') := by
  refine zz_mk (by decide) (Nat.le_of_ble_eq_true rfl) ?_
  intro p e s m below meth c A hC hr hk hnm
  have hC : zz_C p s m _ c A D (zt cI cII cF) 5 cX4_draw RX4 := hC
  refine zr_aload_n 0 hC dX4_draw_0 rfl rfl ?_
  refine zr_iload_n 1 hC dX4_draw_1 rfl rfl ?_
  refine zr_cSi hC cs_X4_isBank ml_X4_73 (c_X4_isBank (w := (mw_W mo m1 m2 m3 m4 m5 m6 m7 m8 m9 cI a x)) b) dX4_draw_2 ⟨Nat.le_of_ble_eq_true rfl, Nat.le_of_ble_eq_true rfl⟩ ⟨Nat.le_of_ble_eq_true rfl, Nat.le_of_ble_eq_true rfl⟩ rfl rfl (Nat.le_of_ble_eq_true rfl) ?_
  rintro _ _ ⟨rfl, ⟨rfl, hb_b⟩ | ⟨rfl, hb_b⟩⟩
  · refine zr_cVi 0 hC cv_X4_begins ml_X4_80 (c_X4_begins1 (a := a) (x := x)) dX4_draw_5 ⟨Nat.le_of_ble_eq_true rfl, Nat.le_of_ble_eq_true rfl⟩ ⟨Nat.le_of_ble_eq_true rfl, Nat.le_of_ble_eq_true rfl⟩ rfl rfl rfl rfl rfl (Nat.le_of_ble_eq_true rfl) ?_
    rintro _ _ ⟨rfl, rfl⟩
    refine zr_if_neT (tgt := 13) hC dX4_draw_8 (by decide) (by decide) ?_
    refine zr_iconst (v := (0 : Int32)) hC dX4_draw_13 rfl ?_
    refine zr_istore_n (lv' := [(3, .int (0 : Int32)), (0, .ref mo), (1, .int b), (2, .int i)]) hC dX4_draw_14 rfl (by decide) rfl ?_
    refine zr_loop (σ := Nat × Int32 × ax_A × mx_X) (fun t => [(3, .int t.2.1), (0, .ref mo), (1, .int b), (2, .int i)]) (fun t => mw_W mo m1 m2 m3 m4 m5 m6 m7 m8 m9 cI (as_sta t.2.2.1 0) t.2.2.2) (fun t => t.1 ≤ 24 ∧ t.2.1 = nI t.1 ∧ rm_R t.2.2.1 t.2.2.2 ∧ zf_draw b i 25 0 a = zf_draw b i (25 - t.1) t.2.1 t.2.2.1) (fun t => 25 - t.1) ?_ (0, 0, a, x) ⟨Nat.zero_le _, rfl, hR, rfl⟩
    rintro ⟨kn, j1, a1, x1⟩ ⟨hk1, hk2, hR1, hsp⟩ ih
    try dsimp only at hk1
    try dsimp only at hk2
    try dsimp only at hR1
    try dsimp only at hsp
    show zz_Z _ _ _ _ _ _ _ _ _ _ _ _ _ _ 15 [(3, .int j1), (0, .ref mo), (1, .int b), (2, .int i)] [] (mw_W mo m1 m2 m3 m4 m5 m6 m7 m8 m9 cI (as_sta a1 0) x1) 0 0
    refine zr_aload_n 1 hC dX4_draw_15 rfl rfl ?_
    refine zr_get (v := .int (0 : Int32)) 0 13 hC iu_X4 rfl dX4_draw_16 fl_X4_41 (by decide) rfl rfl ?_
    refine zr_if_neF (tgt := 100) hC dX4_draw_19 (by decide) (by decide) ?_
    refine zr_aload_n 1 hC dX4_draw_22 rfl rfl ?_
    refine zr_iload_n 2 hC dX4_draw_23 rfl rfl ?_
    refine zr_iload_n 0 hC dX4_draw_24 rfl rfl ?_
    refine zr_cVi 0 hC cv_X4_light ml_X4_103 (c_X4_light (a := (as_sta a1 0)) (x := x1) hR1.1 j1 hb_b) dX4_draw_25 ⟨Nat.le_of_ble_eq_true rfl, Nat.le_of_ble_eq_true rfl⟩ ⟨Nat.le_of_ble_eq_true rfl, Nat.le_of_ble_eq_true rfl⟩ rfl rfl rfl rfl rfl (Nat.le_of_ble_eq_true rfl) ?_
    rintro rr ww ⟨hrr, hww⟩
    rw [zf_show_sta a1 b j1 0] at hrr hww
    subst hrr
    obtain rfl : ww = (mw_W mo m1 m2 m3 m4 m5 m6 m7 m8 m9 cI (as_sta (zf_show a1 b j1).2.2 0) (mk_dk x1 (zf_show a1 b j1).1)) := hww
    refine zr_istore (lv' := [(4, .int ((zf_show a1 b j1).2.1)), (3, .int j1), (0, .ref mo), (1, .int b), (2, .int i)]) hC dX4_draw_28 (by decide) rfl ?_
    refine zr_aload_n 2 hC dX4_draw_30 rfl rfl ?_
    refine zr_aload_n 2 hC dX4_draw_31 rfl rfl ?_
    refine zr_get (v := .int ((zf_show a1 b j1).1)) 0 22 hC iu_X4 rfl dX4_draw_32 fl_X4_100 (by decide) rfl rfl ?_
    refine zr_put (w' := (mw_W mo m1 m2 m3 m4 m5 m6 m7 m8 m9 cI (as_sta (as_sta (zf_show a1 b j1).2.2 0) ((zf_show a1 b j1).1)) (mk_dk x1 (zf_show a1 b j1).1))) 0 13 hC iu_X4 tyX4_ok nmX4 rfl dX4_draw_35 fl_X4_41 (by decide) rfl rfl rfl rfl (Nat.le_of_ble_eq_true rfl) rfl ?_
    refine zr_aload_n 2 hC dX4_draw_38 rfl rfl ?_
    refine zr_get (v := .int ((zf_show a1 b j1).1)) 0 13 hC iu_X4 rfl dX4_draw_39 fl_X4_41 (by decide) rfl rfl ?_
    refine zr_if_ne (tgt := 59) hC dX4_draw_42 (by decide) (fun c42 => ?_) (fun c42 => ?_)
    · refine zr_aload_n 2 hC dX4_draw_59 rfl rfl ?_
      refine zr_get (v := .int ((zf_show a1 b j1).1)) 0 13 hC iu_X4 rfl dX4_draw_60 fl_X4_41 (by decide) rfl rfl ?_
      refine zr_if_neT (tgt := 97) hC dX4_draw_63 (by decide) c42 ?_
      refine zr_goto (tgt := 15) hC dX4_draw_97 (by decide) ?_
      refine zr_aload_n 2 hC dX4_draw_15 rfl rfl ?_
      refine zr_get (v := .int ((zf_show a1 b j1).1)) 0 13 hC iu_X4 rfl dX4_draw_16 fl_X4_41 (by decide) rfl rfl ?_
      refine zr_if_neT (tgt := 100) hC dX4_draw_19 (by decide) c42 ?_
      refine zr_iload_n 1 hC dX4_draw_100 rfl rfl ?_
      refine zr_iret hC hr hk dX4_draw_101 (by decide) (by decide) ⟨_, rfl, ?_⟩
      exact zq_mw (a' := as_sta (zf_show a1 b j1).2.2 (zf_show a1 b j1).1) (x' := mk_dk x1 (zf_show a1 b j1).1) (by unfold zo_draw; rw [if_pos hb_b, hsp, show 25 - kn = (25 - (kn + 1)) + 1 by omega]; show (if _ then (if _ then _ else _) else _) = _; rw [if_neg c42]) (rm_show hR1 b j1 _) rfl
    · refine zr_aload_n 2 hC dX4_draw_45 rfl rfl ?_
      refine zr_aload_n 2 hC dX4_draw_46 rfl rfl ?_
      refine zr_aload_n 2 hC dX4_draw_47 rfl rfl ?_
      refine zr_iload_n 4 hC dX4_draw_48 rfl rfl ?_
      refine zr_iload_n 1 hC dX4_draw_49 rfl rfl ?_
      refine zr_cVi 0 hC cv_X4_whyCell ml_X4_128 (c_X4_whyCell (a := (as_sta (as_sta (zf_show a1 b j1).2.2 0) ((zf_show a1 b j1).1))) (x := (mk_dk x1 (zf_show a1 b j1).1)) (rm_show hR1 b j1 (zf_show a1 b j1).1).1 i j1) dX4_draw_50 ⟨Nat.le_of_ble_eq_true rfl, Nat.le_of_ble_eq_true rfl⟩ ⟨Nat.le_of_ble_eq_true rfl, Nat.le_of_ble_eq_true rfl⟩ rfl rfl rfl rfl rfl (Nat.le_of_ble_eq_true rfl) ?_
      rintro _ _ ⟨rfl, rfl⟩
      refine zr_cVi 0 hC cv_X4_counted ml_X4_57 (c_X4_counted (a := (as_sta (as_sta (zf_show a1 b j1).2.2 0) ((zf_show a1 b j1).1))) (x := (mk_dk x1 (zf_show a1 b j1).1)) (zf_whyC (aa_sh (zf_show a1 b j1).2.2) i j1) (by rcases zf_whyC_or (aa_sh (as_sta (as_sta (zf_show a1 b j1).2.2 0) ((zf_show a1 b j1).1))) i j1 with h | h | h <;> rw [h] <;> decide)) dX4_draw_53 ⟨Nat.le_of_ble_eq_true rfl, Nat.le_of_ble_eq_true rfl⟩ ⟨Nat.le_of_ble_eq_true rfl, Nat.le_of_ble_eq_true rfl⟩ rfl rfl rfl rfl rfl (Nat.le_of_ble_eq_true rfl) ?_
      rintro rr _ ⟨hrr, rfl⟩
      subst rr
      refine zr_put (w' := (mw_W mo m1 m2 m3 m4 m5 m6 m7 m8 m9 cI (as_sta (zf_cnt (zf_whyC (aa_sh (zf_show a1 b j1).2.2) i j1) (as_sta (as_sta (zf_show a1 b j1).2.2 0) ((zf_show a1 b j1).1))) (zf_whyC (aa_sh (zf_show a1 b j1).2.2) i j1)) (mk_dk x1 (zf_show a1 b j1).1))) 0 13 hC iu_X4 tyX4_ok nmX4 rfl dX4_draw_56 fl_X4_41 (by decide) rfl rfl rfl rfl (Nat.le_of_ble_eq_true rfl) rfl ?_
      refine zr_aload_n 2 hC dX4_draw_59 rfl rfl ?_
      refine zr_get (v := .int (zf_whyC (aa_sh (zf_show a1 b j1).2.2) i j1)) 0 13 hC iu_X4 rfl dX4_draw_60 fl_X4_41 (by decide) rfl rfl ?_
      refine zr_if_ne (tgt := 97) hC dX4_draw_63 (by decide) (fun c63 => ?_) (fun c63 => ?_)
      · refine zr_goto (tgt := 15) hC dX4_draw_97 (by decide) ?_
        refine zr_aload_n 2 hC dX4_draw_15 rfl rfl ?_
        refine zr_get (v := .int (zf_whyC (aa_sh (zf_show a1 b j1).2.2) i j1)) 0 13 hC iu_X4 rfl dX4_draw_16 fl_X4_41 (by decide) rfl rfl ?_
        refine zr_if_neT (tgt := 100) hC dX4_draw_19 (by decide) c63 ?_
        refine zr_iload_n 1 hC dX4_draw_100 rfl rfl ?_
        refine zr_iret hC hr hk dX4_draw_101 (by decide) (by decide) ⟨_, rfl, ?_⟩
        exact zq_mw (a' := as_sta (zf_cnt (zf_whyC (aa_sh (zf_show a1 b j1).2.2) i j1) (zf_show a1 b j1).2.2) (zf_whyC (aa_sh (zf_show a1 b j1).2.2) i j1)) (x' := mk_dk x1 (zf_show a1 b j1).1) (by unfold zo_draw; rw [if_pos hb_b, hsp, show 25 - kn = (25 - (kn + 1)) + 1 by omega]; show (if _ then (if _ then _ else _) else _) = _; rw [if_pos c42, if_neg c63]) (rm_show hR1 b j1 _) rfl
      · have hkey := zf_show_key c42
        obtain ⟨-, nk, jk, -, -, hnk, -, -, hjk, hjk2, -, -⟩ := rm_why0 hR1.1 (zl_lt hb_b zk_s3) hkey
        have hk24 : kn + 1 ≤ 24 := by
          rw [hk2] at hjk2
          have := (nI_eq (by omega) (by omega)).mp hjk2
          omega
        obtain ⟨n, m0, rr, ii, z, hdim, hn, hm, hrr, rfl, hii, rfl, hz, hrz, hcell⟩ := rm_cell0 (rm_show hR1 b j1 (zf_show a1 b j1).1).1 c63
        have hQw := rm_write (rm_show hR1 b (nI ii) (zf_show a1 b (nI ii)).1).1 hdim hrr hii hz hrz (zf_show a1 b (nI ii)).2.1
        refine zr_eq (w' := (mw_W mo m1 m2 m3 m4 m5 m6 m7 m8 m9 cI (as_sta (zf_show a1 b (nI ii)).2.2 0) (mk_dk x1 (zf_show a1 b (nI ii)).1))) rfl (by rw [c63, zf_cnt0]) ?_
        refine zr_aload_n 2 hC dX4_draw_66 rfl rfl ?_
        refine zr_get (v := .ref m5) 0 7 hC iu_X4 rfl dX4_draw_67 fl_X4_22 (by decide) rfl rfl ?_
        refine zr_bipush (v := (12 : Int32)) hC dX4_draw_70 rfl ?_
        refine zr_aload_n 2 hC dX4_draw_72 rfl rfl ?_
        refine zr_get (v := .ref m4) 0 6 hC iu_X4 rfl dX4_draw_73 fl_X4_19 (by decide) rfl rfl ?_
        refine zr_iload_n 4 hC dX4_draw_76 rfl rfl ?_
        refine zr_iaj (f := (mx_rw x1)) (j := rr) 4 0 hC dX4_draw_77 rfl rfl (by omega) rfl (by decide) ?_
        refine zr_imul hC dX4_draw_78 ?_
        refine zr_iload_n 1 hC dX4_draw_79 rfl rfl ?_
        refine zr_iadd hC dX4_draw_80 ?_
        refine zr_iload 0 hC dX4_draw_81 rfl ?_
        refine zr_iasj (f := (mx_ce x1)) (j := 12 * z + ii) (w' := (mw_W mo m1 m2 m3 m4 m5 m6 m7 m8 m9 cI (as_sta (zf_show a1 b (nI ii)).2.2 0) (mk_ce (mk_dk x1 (zf_show a1 b (nI ii)).1) (upd (mx_ce x1) (12 * z + ii) ((zf_show a1 b (nI ii)).2.1))))) 5 0 hC dX4_draw_83 rfl rfl (by omega) (by rw [hrz, show (12 : Int32) = nI 12 from rfl, pk_mul, nI_add]) (by decide) rfl ?_
        refine zr_aload_n 2 hC dX4_draw_84 rfl rfl ?_
        refine zr_dup hC dX4_draw_85 rfl ?_
        refine zr_get (v := .int (aa_wr (zf_show a1 b (nI ii)).2.2)) 0 21 hC iu_X4 rfl dX4_draw_86 fl_X4_131 (by decide) rfl rfl ?_
        refine zr_iconst (v := (1 : Int32)) hC dX4_draw_89 rfl ?_
        refine zr_iadd hC dX4_draw_90 ?_
        refine zr_put (w' := (mw_W mo m1 m2 m3 m4 m5 m6 m7 m8 m9 cI (as_wr (as_sta (zf_show a1 b (nI ii)).2.2 0) ((aa_wr (zf_show a1 b (nI ii)).2.2) + (1 : Int32))) (mk_ce (mk_dk x1 (zf_show a1 b (nI ii)).1) (upd (mx_ce x1) (12 * z + ii) ((zf_show a1 b (nI ii)).2.1))))) 0 21 hC iu_X4 tyX4_ok nmX4 rfl dX4_draw_91 fl_X4_131 (by decide) rfl rfl rfl rfl (Nat.le_of_ble_eq_true rfl) rfl ?_
        refine zr_iinc (v := ((nI ii) + 1)) (lv' := [(3, .int ((nI ii) + 1)), (4, .int ((zf_show a1 b (nI ii)).2.1)), (0, .ref mo), (1, .int b), (2, .int (nI rr))]) 1 hC dX4_draw_94 rfl rfl (by decide) rfl ?_
        refine zr_goto (tgt := 15) hC dX4_draw_97 (by decide) ?_
        refine zr_sub [0, 2, 3, 4] rfl ?_
        exact ih (kn + 1, nI ii + 1, zf_wri (zf_show a1 b (nI ii)).2.2 (nI rr) (nI ii) (zf_show a1 b (nI ii)).2.1, (mk_ce (mk_dk x1 (zf_show a1 b (nI ii)).1) (upd (mx_ce x1) (12 * z + ii) ((zf_show a1 b (nI ii)).2.1)))) ⟨hk24, by show nI ii + 1 = nI (kn + 1); rw [hk2, nI_1], ⟨hQw, by rw [show aa_fd (zf_wri (zf_show a1 b (nI ii)).2.2 (nI rr) (nI ii) (zf_show a1 b (nI ii)).2.1) = aa_fd a1 from (zf_show_st a1 b (nI ii)).2.2]; exact hR1.2⟩, by rw [hsp, show 25 - kn = (25 - (kn + 1)) + 1 by omega]; show (if _ then (if _ then _ else _) else _) = _; rw [if_pos c42, if_pos c63]⟩ (by show 25 - (kn + 1) < 25 - kn; omega)
  · refine zr_cVi 0 hC cv_X4_begins ml_X4_80 (c_X4_begins0 (a := a) (x := x)) dX4_draw_5 ⟨Nat.le_of_ble_eq_true rfl, Nat.le_of_ble_eq_true rfl⟩ ⟨Nat.le_of_ble_eq_true rfl, Nat.le_of_ble_eq_true rfl⟩ rfl rfl rfl rfl rfl (Nat.le_of_ble_eq_true rfl) ?_
    rintro _ _ ⟨rfl, rfl⟩
    refine zr_if_neF (tgt := 13) hC dX4_draw_8 (by decide) (by decide) ?_
    refine zr_iconst (v := (0 : Int32)) hC dX4_draw_11 rfl ?_
    refine zr_iret hC hr hk dX4_draw_12 (by decide) (by decide) ⟨_, rfl, ?_⟩
    exact zq_mk (if_neg (fun h => absurd h hb_b)) hR
set_option maxRecDepth 100000 in
set_option maxHeartbeats 4000000 in
theorem c_X4_count (hR : rm_R a x) (v : Int32) : zz_Mi l D (zt cI cII cF) yX4_count cX4_count 4 (some .int) 0 0 0 0 [.ref mo, .int v] (mw_W mo m1 m2 m3 m4 m5 m6 m7 m8 m9 cI a x) (fun r w' => zp_m mo m1 m2 m3 m4 m5 m6 m7 m8 m9 cI (zo_count a v) r w') := by
  refine zz_mk (by decide) (Nat.le_of_ble_eq_true rfl) ?_
  intro p e s m below meth c A hC hr hk hnm
  have hC : zz_C p s m _ c A D (zt cI cII cF) 4 cX4_count RX4 := hC
  refine zr_iconst (v := (0 : Int32)) hC dX4_count_0 rfl ?_
  refine zr_istore_n (lv' := [(2, .int (0 : Int32)), (0, .ref mo), (1, .int v)]) hC dX4_count_1 rfl (by decide) rfl ?_
  refine zr_iconst (v := (0 : Int32)) hC dX4_count_2 rfl ?_
  refine zr_istore_n (lv' := [(3, .int (0 : Int32)), (2, .int (0 : Int32)), (0, .ref mo), (1, .int v)]) hC dX4_count_3 rfl (by decide) rfl ?_
  refine zr_sub [1, 0, 2, 3] rfl ?_
  refine zr_loop (σ := Nat × Int32 × Int32) (fun t => [(2, .int t.2.1), (3, .int t.2.2), (0, .ref mo), (1, .int v)]) (fun t => mw_W mo m1 m2 m3 m4 m5 m6 m7 m8 m9 cI a x) (fun t => t.1 ≤ 24 ∧ t.2.2 = nI t.1 ∧ t.2.1 = zf_there (aa_st a) t.1) (fun t => 24 - t.1) ?_ (0, 0, 0) ⟨Nat.zero_le _, rfl, rfl⟩
  rintro ⟨kn, c1, i1⟩ ⟨hk1, hk2, h3⟩ ih
  try dsimp only at hk1
  try dsimp only at hk2
  try dsimp only at h3
  show zz_Z _ _ _ _ _ _ _ _ _ _ _ _ _ _ 4 [(2, .int c1), (3, .int i1), (0, .ref mo), (1, .int v)] [] (mw_W mo m1 m2 m3 m4 m5 m6 m7 m8 m9 cI a x) 0 0
  refine zr_iload_n 1 hC dX4_count_4 rfl rfl ?_
  refine zr_bipush (v := (24 : Int32)) hC dX4_count_5 rfl ?_
  refine zr_icmp_ge (tgt := 34) hC dX4_count_7 (by decide) (fun c7 => ?_) (fun c7 => ?_)
  · have hend : kn = 24 := by
      rw [hk2] at c7
      have := (nI_leI (a := 24) (by omega) (by omega)).mp c7
      omega
    refine zr_iload_n 3 hC dX4_count_34 rfl rfl ?_
    by_cases t35_0 : v = (0 : Int32)
    · refine zr_tableIn (tgt := 92) hC dX4_count_35 (by rw [t35_0]; decide) (by rw [t35_0]; decide) (by rw [t35_0]; rfl) (by decide) ?_
      refine zr_aload_n 2 hC dX4_count_92 rfl rfl ?_
      refine zr_get (v := .int (aa_mi a)) 0 14 hC iu_X4 rfl dX4_count_93 fl_X4_60 (by decide) rfl rfl ?_
      refine zr_iret hC hr hk dX4_count_96 (by decide) (by decide) ⟨_, rfl, ?_⟩
      exact zq_mk (by unfold zo_count; simp [t35_0, hR.2.2.1, h3, hend]) hR
    by_cases t35_1 : v = (1 : Int32)
    · refine zr_tableIn (tgt := 97) hC dX4_count_35 (by rw [t35_1]; decide) (by rw [t35_1]; decide) (by rw [t35_1]; rfl) (by decide) ?_
      refine zr_aload_n 2 hC dX4_count_97 rfl rfl ?_
      refine zr_get (v := .int (aa_ou a)) 0 15 hC iu_X4 rfl dX4_count_98 fl_X4_63 (by decide) rfl rfl ?_
      refine zr_iret hC hr hk dX4_count_101 (by decide) (by decide) ⟨_, rfl, ?_⟩
      exact zq_mk (by unfold zo_count; simp [t35_0, t35_1, hR.2.2.1, h3, hend]) hR
    by_cases t35_2 : v = (2 : Int32)
    · refine zr_tableIn (tgt := 102) hC dX4_count_35 (by rw [t35_2]; decide) (by rw [t35_2]; decide) (by rw [t35_2]; rfl) (by decide) ?_
      refine zr_aload_n 2 hC dX4_count_102 rfl rfl ?_
      refine zr_get (v := .int (aa_ne a)) 0 16 hC iu_X4 rfl dX4_count_103 fl_X4_84 (by decide) rfl rfl ?_
      refine zr_iret hC hr hk dX4_count_106 (by decide) (by decide) ⟨_, rfl, ?_⟩
      exact zq_mk (by unfold zo_count; simp [t35_0, t35_1, t35_2, hR.2.2.1, h3, hend]) hR
    by_cases t35_3 : v = (3 : Int32)
    · refine zr_tableIn (tgt := 107) hC dX4_count_35 (by rw [t35_3]; decide) (by rw [t35_3]; decide) (by rw [t35_3]; rfl) (by decide) ?_
      refine zr_aload_n 2 hC dX4_count_107 rfl rfl ?_
      refine zr_get (v := .int (mx_fs x)) 0 8 hC iu_X4 rfl dX4_count_108 fl_X4_106 (by decide) rfl rfl ?_
      refine zr_iret hC hr hk dX4_count_111 (by decide) (by decide) ⟨_, rfl, ?_⟩
      exact zq_mk (by unfold zo_count; simp [t35_0, t35_1, t35_2, t35_3, hR.2.2.1, h3, hend]) hR
    by_cases t35_4 : v = (4 : Int32)
    · refine zr_tableIn (tgt := 112) hC dX4_count_35 (by rw [t35_4]; decide) (by rw [t35_4]; decide) (by rw [t35_4]; rfl) (by decide) ?_
      refine zr_aload_n 2 hC dX4_count_112 rfl rfl ?_
      refine zr_get (v := .int (aa_re a)) 0 17 hC iu_X4 rfl dX4_count_113 fl_X4_115 (by decide) rfl rfl ?_
      refine zr_iret hC hr hk dX4_count_116 (by decide) (by decide) ⟨_, rfl, ?_⟩
      exact zq_mk (by unfold zo_count; simp [t35_0, t35_1, t35_2, t35_3, t35_4, hR.2.2.1, h3, hend]) hR
    by_cases t35_5 : v = (5 : Int32)
    · refine zr_tableIn (tgt := 117) hC dX4_count_35 (by rw [t35_5]; decide) (by rw [t35_5]; decide) (by rw [t35_5]; rfl) (by decide) ?_
      refine zr_aload_n 2 hC dX4_count_117 rfl rfl ?_
      refine zr_get (v := .int (aa_dm a)) 0 18 hC iu_X4 rfl dX4_count_118 fl_X4_109 (by decide) rfl rfl ?_
      refine zr_iret hC hr hk dX4_count_121 (by decide) (by decide) ⟨_, rfl, ?_⟩
      exact zq_mk (by unfold zo_count; simp [t35_0, t35_1, t35_2, t35_3, t35_4, t35_5, hR.2.2.1, h3, hend]) hR
    by_cases t35_6 : v = (6 : Int32)
    · refine zr_tableIn (tgt := 122) hC dX4_count_35 (by rw [t35_6]; decide) (by rw [t35_6]; decide) (by rw [t35_6]; rfl) (by decide) ?_
      refine zr_aload_n 2 hC dX4_count_122 rfl rfl ?_
      refine zr_get (v := .int (aa_dO a)) 0 19 hC iu_X4 rfl dX4_count_123 fl_X4_112 (by decide) rfl rfl ?_
      refine zr_iret hC hr hk dX4_count_126 (by decide) (by decide) ⟨_, rfl, ?_⟩
      exact zq_mk (by unfold zo_count; simp [t35_0, t35_1, t35_2, t35_3, t35_4, t35_5, t35_6, hR.2.2.1, h3, hend]) hR
    by_cases t35_7 : v = (7 : Int32)
    · refine zr_tableIn (tgt := 127) hC dX4_count_35 (by rw [t35_7]; decide) (by rw [t35_7]; decide) (by rw [t35_7]; rfl) (by decide) ?_
      refine zr_iload_n 0 hC dX4_count_127 rfl rfl ?_
      refine zr_iret hC hr hk dX4_count_128 (by decide) (by decide) ⟨_, rfl, ?_⟩
      exact zq_mk (by unfold zo_count; simp [t35_0, t35_1, t35_2, t35_3, t35_4, t35_5, t35_6, t35_7, hR.2.2.1, h3, hend]) hR
    by_cases t35_8 : v = (8 : Int32)
    · refine zr_tableIn (tgt := 129) hC dX4_count_35 (by rw [t35_8]; decide) (by rw [t35_8]; decide) (by rw [t35_8]; rfl) (by decide) ?_
      refine zr_aload_n 2 hC dX4_count_129 rfl rfl ?_
      refine zr_get (v := .int (aa_se a)) 0 20 hC iu_X4 rfl dX4_count_130 fl_X4_70 (by decide) rfl rfl ?_
      refine zr_iret hC hr hk dX4_count_133 (by decide) (by decide) ⟨_, rfl, ?_⟩
      exact zq_mk (by unfold zo_count; simp [t35_0, t35_1, t35_2, t35_3, t35_4, t35_5, t35_6, t35_7, t35_8, hR.2.2.1, h3, hend]) hR
    by_cases t35_9 : v = (9 : Int32)
    · refine zr_tableIn (tgt := 134) hC dX4_count_35 (by rw [t35_9]; decide) (by rw [t35_9]; decide) (by rw [t35_9]; rfl) (by decide) ?_
      refine zr_aload_n 2 hC dX4_count_134 rfl rfl ?_
      refine zr_get (v := .int (mx_hs x)) 0 3 hC iu_X4 rfl dX4_count_135 fl_X4_118 (by decide) rfl rfl ?_
      refine zr_if_eq (tgt := 148) hC dX4_count_138 (by decide) (fun c138 => ?_) (fun c138 => ?_)
      · refine zr_iconst (v := (0 : Int32)) hC dX4_count_148 rfl ?_
        refine zr_iret hC hr hk dX4_count_149 (by decide) (by decide) ⟨_, rfl, ?_⟩
        exact zq_mk (by unfold zo_count; simp [t35_0, t35_1, t35_2, t35_3, t35_4, t35_5, t35_6, t35_7, t35_8, t35_9, zf_rows_none (rm_no hR.1 c138), hR.2.2.1, h3, hend]) hR
      · refine zr_aload_n 2 hC dX4_count_141 rfl rfl ?_
        refine zr_get (v := .int (mx_rm x)) 0 4 hC iu_X4 rfl dX4_count_142 fl_X4_122 (by decide) rfl rfl ?_
        refine zr_goto (tgt := 149) hC dX4_count_145 (by decide) ?_
        refine zr_iret hC hr hk dX4_count_149 (by decide) (by decide) ⟨_, rfl, ?_⟩
        obtain ⟨-, n, m0, hdim, -, -, hrm, -⟩ := rm_dim hR.1 (rm_yes hR.1 c138)
        exact zq_mk (by unfold zo_count; simp [t35_0, t35_1, t35_2, t35_3, t35_4, t35_5, t35_6, t35_7, t35_8, t35_9, zf_rows_some hdim, hrm]) hR
    by_cases t35_10 : v = (10 : Int32)
    · refine zr_tableIn (tgt := 150) hC dX4_count_35 (by rw [t35_10]; decide) (by rw [t35_10]; decide) (by rw [t35_10]; rfl) (by decide) ?_
      refine zr_aload_n 2 hC dX4_count_150 rfl rfl ?_
      refine zr_get (v := .int (aa_wr a)) 0 21 hC iu_X4 rfl dX4_count_151 fl_X4_131 (by decide) rfl rfl ?_
      refine zr_iret hC hr hk dX4_count_154 (by decide) (by decide) ⟨_, rfl, ?_⟩
      exact zq_mk (by unfold zo_count; simp [t35_0, t35_1, t35_2, t35_3, t35_4, t35_5, t35_6, t35_7, t35_8, t35_9, t35_10, hR.2.2.1, h3, hend]) hR
    refine zr_tableOut (tgt := 155) hC dX4_count_35 (by have e0 := lv_neT (a := 0) t35_0 rfl; have e1 := lv_neT (a := 1) t35_1 rfl; have e2 := lv_neT (a := 2) t35_2 rfl; have e3 := lv_neT (a := 3) t35_3 rfl; have e4 := lv_neT (a := 4) t35_4 rfl; have e5 := lv_neT (a := 5) t35_5 rfl; have e6 := lv_neT (a := 6) t35_6 rfl; have e7 := lv_neT (a := 7) t35_7 rfl; have e8 := lv_neT (a := 8) t35_8 rfl; have e9 := lv_neT (a := 9) t35_9 rfl; have e10 := lv_neT (a := 10) t35_10 rfl; omega) (by decide) ?_
    refine zr_iconst (v := (0 : Int32)) hC dX4_count_155 rfl ?_
    refine zr_iret hC hr hk dX4_count_156 (by decide) (by decide) ⟨_, rfl, ?_⟩
    exact zq_mk (by unfold zo_count; simp [t35_0, t35_1, t35_2, t35_3, t35_4, t35_5, t35_6, t35_7, t35_8, t35_9, t35_10, hR.2.2.1, h3, hend]) hR
  · have hlt : kn < 24 := by
      rcases Nat.lt_or_ge kn 24 with h0 | h0
      · exact h0
      · exact absurd (by rw [hk2]; exact nI_le h0 (by omega)) c7
    refine zr_iload_n 0 hC dX4_count_10 rfl rfl ?_
    refine zr_aload_n 2 hC dX4_count_11 rfl rfl ?_
    refine zr_get (v := .ref m1) 0 0 hC iu_X4 rfl dX4_count_12 fl_X4_7 (by decide) rfl rfl ?_
    refine zr_iload_n 1 hC dX4_count_15 rfl rfl ?_
    refine zr_iaj (f := (mx_sp x)) (j := kn) 1 0 hC dX4_count_16 rfl rfl hlt hk2 (by decide) ?_
    refine zr_iconst (v := (-1 : Int32)) hC dX4_count_17 rfl ?_
    refine zr_icmp_ne (tgt := 25) hC dX4_count_18 (by decide) (fun c18 => ?_) (fun c18 => ?_)
    · refine zr_iconst (v := (1 : Int32)) hC dX4_count_25 rfl ?_
      refine zr_iadd hC dX4_count_26 ?_
      refine zr_istore_n (lv' := [(2, .int (c1 + (1 : Int32))), (3, .int i1), (0, .ref mo), (1, .int v)]) hC dX4_count_27 rfl (by decide) rfl ?_
      refine zr_iinc (v := (i1 + 1)) (lv' := [(3, .int (i1 + 1)), (2, .int (c1 + (1 : Int32))), (0, .ref mo), (1, .int v)]) 1 hC dX4_count_28 rfl rfl (by decide) rfl ?_
      refine zr_goto (tgt := 4) hC dX4_count_31 (by decide) ?_
      refine zr_sub [1, 0, 2, 3] rfl ?_
      exact ih (kn + 1, (c1 + (1 : Int32)), i1 + 1) ⟨by show kn + 1 ≤ 24; omega, by show i1 + 1 = nI (kn + 1); rw [hk2, nI_1], by show (c1 + (1 : Int32)) = zf_there (aa_st a) (kn + 1); rw [zf_there, if_neg (fun h => c18 ((hR.1.1.1 kn hlt).mpr h)), h3]⟩ (by show 24 - (kn + 1) < 24 - kn; omega)
    · refine zr_iconst (v := (0 : Int32)) hC dX4_count_21 rfl ?_
      refine zr_goto (tgt := 26) hC dX4_count_22 (by decide) ?_
      refine zr_iadd hC dX4_count_26 ?_
      refine zr_istore_n (lv' := [(2, .int (c1 + (0 : Int32))), (3, .int i1), (0, .ref mo), (1, .int v)]) hC dX4_count_27 rfl (by decide) rfl ?_
      refine zr_iinc (v := (i1 + 1)) (lv' := [(3, .int (i1 + 1)), (2, .int (c1 + (0 : Int32))), (0, .ref mo), (1, .int v)]) 1 hC dX4_count_28 rfl rfl (by decide) rfl ?_
      refine zr_goto (tgt := 4) hC dX4_count_31 (by decide) ?_
      refine zr_sub [1, 0, 2, 3] rfl ?_
      exact ih (kn + 1, (c1 + (0 : Int32)), i1 + 1) ⟨by show kn + 1 ≤ 24; omega, by show i1 + 1 = nI (kn + 1); rw [hk2, nI_1], by show (c1 + (0 : Int32)) = zf_there (aa_st a) (kn + 1); rw [zf_there, if_pos ((hR.1.1.1 kn hlt).mp c18), Int32.add_zero, h3]⟩ (by show 24 - (kn + 1) < 24 - kn; omega)
end ZB4
