section ZA8
variable {l : Launch} {D : va_G} {cI cII cF : ClassId} {o rk sp pp fp mo m1 m2 m3 m4 m5 m6 m7 m8 m9 : Nat}
variable {a : ax_A} {x : cx_X}
set_option maxRecDepth 100000 in
set_option maxHeartbeats 4000000 in
theorem c_X3_ripple (hR : rc_R cI cII a x) (b i d n s0 : Int32) : zz_Mi l D (zt cI cII cF) yX3_ripple cX3_ripple 10 (some .int) 4 87 0 0 [.ref o, .int b, .int i, .int d, .int n, .int s0] (cw_W o rk sp pp fp cII cF a x) (fun r w' => zp_c o rk sp pp fp cI cII cF (zo_ripple a b i d n s0) r w') := by
  refine zz_mk (by decide) (Nat.le_of_ble_eq_true rfl) ?_
  intro p e s m below meth c A hC hr hk hnm
  have hC : zz_C p s m _ c A D (zt cI cII cF) 10 cX3_ripple RX3 := hC
  refine zr_iload_n 1 hC dX3_ripple_0 rfl rfl ?_
  refine zr_cSi hC cs_X3_isBank ml_X3_29 (c_X3_isBank (w := (cw_W o rk sp pp fp cII cF a x)) b) dX3_ripple_1 ⟨Nat.le_of_ble_eq_true rfl, Nat.le_of_ble_eq_true rfl⟩ ⟨Nat.le_of_ble_eq_true rfl, Nat.le_of_ble_eq_true rfl⟩ rfl rfl (Nat.le_of_ble_eq_true rfl) ?_
  rintro _ _ ⟨rfl, ⟨rfl, hb_b⟩ | ⟨rfl, hb_b⟩⟩
  · refine zr_if_eqF (tgt := 19) hC dX3_ripple_4 (by decide) (by decide) ?_
    refine zr_iload 4 hC dX3_ripple_7 rfl ?_
    refine zr_if_lt (tgt := 19) hC dX3_ripple_9 (by decide) (fun c9 => ?_) (fun c9 => ?_)
    · refine zr_aload_n 0 hC dX3_ripple_19 rfl rfl ?_
      refine zr_iconst (v := (1 : Int32)) hC dX3_ripple_20 rfl ?_
      refine zr_iconst (v := (0 : Int32)) hC dX3_ripple_21 rfl ?_
      refine zr_cVi 0 hC cv_X3_leave ml_X3_36 (c_X3_leave (a := a) (x := x) (1 : Int32) (0 : Int32)) dX3_ripple_22 ⟨Nat.le_of_ble_eq_true rfl, Nat.le_of_ble_eq_true rfl⟩ ⟨Nat.le_of_ble_eq_true rfl, Nat.le_of_ble_eq_true rfl⟩ rfl rfl rfl rfl rfl (Nat.le_of_ble_eq_true rfl) ?_
      rintro rr _ ⟨hrr, rfl⟩
      subst rr
      refine zr_iret hC hr hk dX3_ripple_25 (by decide) (by decide) ⟨_, rfl, ?_⟩
      exact zp_mk (if_neg (fun h => absurd h.2.1 (Int32.not_le.mpr c9))) hR
    · refine zr_iload 4 hC dX3_ripple_12 rfl ?_
      refine zr_bipush (v := (64 : Int32)) hC dX3_ripple_14 rfl ?_
      refine zr_icmp_le (tgt := 26) hC dX3_ripple_16 (by decide) (fun c16 => ?_) (fun c16 => ?_)
      · refine zr_iload 5 hC dX3_ripple_26 rfl ?_
        refine zr_cSi hC cs_X3_asLevel ml_X3_70 (c_X3_asLevel (w := (cw_W o rk sp pp fp cII cF a x)) s0) dX3_ripple_28 ⟨Nat.le_of_ble_eq_true rfl, Nat.le_of_ble_eq_true rfl⟩ ⟨Nat.le_of_ble_eq_true rfl, Nat.le_of_ble_eq_true rfl⟩ rfl rfl (Nat.le_of_ble_eq_true rfl) ?_
        rintro _ _ ⟨rfl, rfl⟩
        refine zr_istore (lv' := [(6, .int (zf_lev s0)), (0, .ref o), (1, .int b), (2, .int i), (3, .int d), (4, .int n), (5, .int s0)]) hC dX3_ripple_31 (by decide) rfl ?_
        refine zr_iconst (v := (0 : Int32)) hC dX3_ripple_33 rfl ?_
        refine zr_istore (lv' := [(7, .int (0 : Int32)), (6, .int (zf_lev s0)), (0, .ref o), (1, .int b), (2, .int i), (3, .int d), (4, .int n), (5, .int s0)]) hC dX3_ripple_34 (by decide) rfl ?_
        obtain ⟨N, hN, rfl⟩ := zn_of (n := 65) (M := 65) (by decide) ⟨Int32.not_lt.mp c9, Int32.lt_of_le_of_lt c16 (by decide)⟩
        have hspec : zo_ripple a b i d (nI N) s0 = zf_rip (zf_lev s0) b d N i 0 a := by unfold zo_ripple; rw [if_pos ⟨hb_b, Int32.not_lt.mp c9, c16⟩, nI_clamp (by omega)]
        refine zr_sub [0, 2, 3, 4, 5, 6, 1] rfl ?_
        refine zr_loop (σ := Nat × Int32 × ax_A × cx_X) (fun t => [(7, .int t.2.1), (0, .ref o), (1, .int b), (2, .int i), (3, .int d), (4, .int (nI N)), (6, .int (zf_lev s0))]) (fun t => cw_W o rk sp pp fp cII cF t.2.2.1 t.2.2.2) (fun t => t.1 ≤ N ∧ t.2.1 = nI t.1 ∧ rc_R cI cII t.2.2.1 t.2.2.2 ∧ zf_rip (zf_lev s0) b d N i 0 a = zf_rip (zf_lev s0) b d (N - t.1) (i + t.2.1 * d) t.2.1 t.2.2.1) (fun t => N - t.1) ?_ (0, 0, a, x) ⟨Nat.zero_le _, rfl, hR, by show _ = zf_rip _ _ _ (N - 0) (i + 0 * d) 0 _; rw [Int32.zero_mul, Int32.add_zero]; rfl⟩
        rintro ⟨kn, k1, a1, x1⟩ ⟨hk1, hk2, hR1, hsp⟩ ih
        try dsimp only at hk1
        try dsimp only at hk2
        try dsimp only at hR1
        try dsimp only at hsp
        show zz_Z _ _ _ _ _ _ _ _ _ _ _ _ _ _ 36 [(7, .int k1), (0, .ref o), (1, .int b), (2, .int i), (3, .int d), (4, .int (nI N)), (6, .int (zf_lev s0))] [] (cw_W o rk sp pp fp cII cF a1 x1) 0 0
        refine zr_iload 0 hC dX3_ripple_36 rfl ?_
        refine zr_iload 5 hC dX3_ripple_38 rfl ?_
        refine zr_icmp_ge (tgt := 97) hC dX3_ripple_40 (by decide) (fun c40 => ?_) (fun c40 => ?_)
        · have hend : kn = N := by
            rw [hk2] at c40
            have := (nI_leI (a := N) (by omega) (by omega)).mp c40
            omega
          refine zr_aload_n 1 hC dX3_ripple_97 rfl rfl ?_
          refine zr_iconst (v := (0 : Int32)) hC dX3_ripple_98 rfl ?_
          refine zr_iload 5 hC dX3_ripple_99 rfl ?_
          refine zr_cVi 0 hC cv_X3_leave ml_X3_36 (c_X3_leave (a := a1) (x := x1) (0 : Int32) (nI N)) dX3_ripple_101 ⟨Nat.le_of_ble_eq_true rfl, Nat.le_of_ble_eq_true rfl⟩ ⟨Nat.le_of_ble_eq_true rfl, Nat.le_of_ble_eq_true rfl⟩ rfl rfl rfl rfl rfl (Nat.le_of_ble_eq_true rfl) ?_
          rintro rr _ ⟨hrr, rfl⟩
          subst rr
          refine zr_iret hC hr hk dX3_ripple_104 (by decide) (by decide) ⟨_, rfl, ?_⟩
          exact zp_mk (by rw [hspec, hsp, hend, Nat.sub_self, hk2, hend]; rfl) hR1
        · have hlt : kn < N := by
            rcases Nat.lt_or_ge kn N with h0 | h0
            · exact h0
            · exact absurd (by rw [hk2]; exact nI_le h0 (by omega)) c40
          refine zr_iload_n 3 hC dX3_ripple_43 rfl rfl ?_
          refine zr_iload 0 hC dX3_ripple_44 rfl ?_
          refine zr_iload_n 4 hC dX3_ripple_46 rfl rfl ?_
          refine zr_imul hC dX3_ripple_47 ?_
          refine zr_iadd hC dX3_ripple_48 ?_
          refine zr_istore (lv' := [(8, .int (i + (k1 * d))), (7, .int k1), (0, .ref o), (1, .int b), (2, .int i), (3, .int d), (4, .int (nI N)), (6, .int (zf_lev s0))]) hC dX3_ripple_49 (by decide) rfl ?_
          refine zr_aload_n 2 hC dX3_ripple_51 rfl rfl ?_
          refine zr_iload_n 3 hC dX3_ripple_52 rfl rfl ?_
          refine zr_iconst (v := (2 : Int32)) hC dX3_ripple_53 rfl ?_
          refine zr_iload 0 hC dX3_ripple_54 rfl ?_
          refine zr_cVi 0 hC cv_X3_look ml_X3_58 (c_X3_look (a := a1) (x := x1) hR1.1 (i + (k1 * d)) hb_b zk_s2) dX3_ripple_56 ⟨Nat.le_of_ble_eq_true rfl, Nat.le_of_ble_eq_true rfl⟩ ⟨Nat.le_of_ble_eq_true rfl, Nat.le_of_ble_eq_true rfl⟩ rfl rfl rfl rfl rfl (Nat.le_of_ble_eq_true rfl) ?_
          rintro _ _ (⟨h1, rfl, rfl⟩ | ⟨h1, rfl, rfl⟩)
          · refine zr_istore (lv' := [(9, .int (0 : Int32)), (8, .int (i + (k1 * d))), (7, .int k1), (0, .ref o), (1, .int b), (2, .int i), (3, .int d), (4, .int (nI N)), (6, .int (zf_lev s0))]) hC dX3_ripple_59 (by decide) rfl ?_
            refine zr_iload 0 hC dX3_ripple_61 rfl ?_
            refine zr_if_eqT (tgt := 75) hC dX3_ripple_63 (by decide) (by decide) ?_
            refine zr_aload_n 3 hC dX3_ripple_75 rfl rfl ?_
            refine zr_iload_n 4 hC dX3_ripple_76 rfl rfl ?_
            refine zr_iconst (v := (2 : Int32)) hC dX3_ripple_77 rfl ?_
            refine zr_iload 1 hC dX3_ripple_78 rfl ?_
            refine zr_aload_n 3 hC dX3_ripple_80 rfl rfl ?_
            refine zr_get (v := .int (zf_val (aa_st a1) (zl b 2) (i + (k1 * d)))) 0 11 hC iu_X3 rfl dX3_ripple_81 fl_X3_66 (by decide) rfl rfl ?_
            refine zr_iload 8 hC dX3_ripple_84 rfl ?_
            refine zr_iadd hC dX3_ripple_86 ?_
            refine zr_cVi 0 hC cv_X3_put ml_X3_62 (c_X3_put (a := a1) (x := (ck_fnd x1 (zf_val (aa_st a1) (zl b 2) (i + (k1 * d))))) hR1.1 (i + (k1 * d)) ((zf_val (aa_st a1) (zl b 2) (i + (k1 * d))) + (zf_lev s0)) hb_b zk_s2) dX3_ripple_87 ⟨Nat.le_of_ble_eq_true rfl, Nat.le_of_ble_eq_true rfl⟩ ⟨Nat.le_of_ble_eq_true rfl, Nat.le_of_ble_eq_true rfl⟩ rfl rfl rfl rfl rfl (Nat.le_of_ble_eq_true rfl) ?_
            rintro _ _ (⟨-, rfl, x2, hFx2, hKx2, rfl, hQx2⟩ | ⟨hno, -, -⟩)
            · refine zr_pop hC dX3_ripple_90 rfl ?_
              refine zr_iinc (v := (k1 + 1)) (lv' := [(7, .int (k1 + 1)), (9, .int (0 : Int32)), (8, .int (i + (k1 * d))), (0, .ref o), (1, .int b), (2, .int i), (3, .int d), (4, .int (nI N)), (6, .int (zf_lev s0))]) 2 hC dX3_ripple_91 rfl rfl (by decide) rfl ?_
              refine zr_goto (tgt := 36) hC dX3_ripple_94 (by decide) ?_
              refine zr_sub [0, 3, 4, 5, 6, 7, 8] rfl ?_
              exact ih (kn + 1, k1 + 1, (zf_set a1 (zl b 2) (i + (k1 * d)) (zf_num (2 : Int32) ((zf_val (aa_st a1) (zl b 2) (i + (k1 * d))) + (zf_lev s0)))), x2) ⟨by show kn + 1 ≤ N; omega, by show k1 + 1 = nI (kn + 1); rw [hk2, nI_1], (hR1.of hQx2 hKx2 rfl), by rw [hsp, show N - kn = (N - (kn + 1)) + 1 by omega]; show (if _ then _ else _) = _; rw [if_pos h1, zi_step, zf_num2]⟩ (by show N - (kn + 1) < N - kn; omega)
            · exact absurd h1 hno
          · refine zr_istore (lv' := [(9, .int (zf_why (aa_st a1) (zl b 2) (i + (k1 * d)))), (8, .int (i + (k1 * d))), (7, .int k1), (0, .ref o), (1, .int b), (2, .int i), (3, .int d), (4, .int (nI N)), (6, .int (zf_lev s0))]) hC dX3_ripple_59 (by decide) rfl ?_
            refine zr_iload 0 hC dX3_ripple_61 rfl ?_
            refine zr_if_eqF (tgt := 75) hC dX3_ripple_63 (by decide) h1 ?_
            refine zr_aload_n 3 hC dX3_ripple_66 rfl rfl ?_
            refine zr_iload 0 hC dX3_ripple_67 rfl ?_
            refine zr_iload 2 hC dX3_ripple_69 rfl ?_
            refine zr_cVi 0 hC cv_X3_leave ml_X3_36 (c_X3_leave (a := (zf_cnt (zf_why (aa_st a1) (zl b 2) (i + (k1 * d))) a1)) (x := x1) (zf_why (aa_st a1) (zl b 2) (i + (k1 * d))) k1) dX3_ripple_71 ⟨Nat.le_of_ble_eq_true rfl, Nat.le_of_ble_eq_true rfl⟩ ⟨Nat.le_of_ble_eq_true rfl, Nat.le_of_ble_eq_true rfl⟩ rfl rfl rfl rfl rfl (Nat.le_of_ble_eq_true rfl) ?_
            rintro rr _ ⟨hrr, rfl⟩
            subst rr
            refine zr_iret hC hr hk dX3_ripple_74 (by decide) (by decide) ⟨_, rfl, ?_⟩
            exact zp_mk (by rw [hspec, hsp, show N - kn = (N - (kn + 1)) + 1 by omega]; show (if _ then _ else _) = _; rw [if_neg h1]) hR1
      · refine zr_aload_n 0 hC dX3_ripple_19 rfl rfl ?_
        refine zr_iconst (v := (1 : Int32)) hC dX3_ripple_20 rfl ?_
        refine zr_iconst (v := (0 : Int32)) hC dX3_ripple_21 rfl ?_
        refine zr_cVi 0 hC cv_X3_leave ml_X3_36 (c_X3_leave (a := a) (x := x) (1 : Int32) (0 : Int32)) dX3_ripple_22 ⟨Nat.le_of_ble_eq_true rfl, Nat.le_of_ble_eq_true rfl⟩ ⟨Nat.le_of_ble_eq_true rfl, Nat.le_of_ble_eq_true rfl⟩ rfl rfl rfl rfl rfl (Nat.le_of_ble_eq_true rfl) ?_
        rintro rr _ ⟨hrr, rfl⟩
        subst rr
        refine zr_iret hC hr hk dX3_ripple_25 (by decide) (by decide) ⟨_, rfl, ?_⟩
        exact zp_mk (if_neg (fun h => absurd h.2.2 c16)) hR
  · refine zr_if_eqT (tgt := 19) hC dX3_ripple_4 (by decide) (by decide) ?_
    refine zr_aload_n 0 hC dX3_ripple_19 rfl rfl ?_
    refine zr_iconst (v := (1 : Int32)) hC dX3_ripple_20 rfl ?_
    refine zr_iconst (v := (0 : Int32)) hC dX3_ripple_21 rfl ?_
    refine zr_cVi 0 hC cv_X3_leave ml_X3_36 (c_X3_leave (a := a) (x := x) (1 : Int32) (0 : Int32)) dX3_ripple_22 ⟨Nat.le_of_ble_eq_true rfl, Nat.le_of_ble_eq_true rfl⟩ ⟨Nat.le_of_ble_eq_true rfl, Nat.le_of_ble_eq_true rfl⟩ rfl rfl rfl rfl rfl (Nat.le_of_ble_eq_true rfl) ?_
    rintro rr _ ⟨hrr, rfl⟩
    subst rr
    refine zr_iret hC hr hk dX3_ripple_25 (by decide) (by decide) ⟨_, rfl, ?_⟩
    exact zp_mk (if_neg (fun h => absurd h.1 hb_b)) hR
set_option maxRecDepth 100000 in
set_option maxHeartbeats 4000000 in
theorem c_X3_probe (hR : rc_R cI cII a x) (b i : Int32) : zz_Mi l D (zt cI cII cF) yX3_probe cX3_probe 6 (some .int) 3 70 0 0 [.ref o, .int b, .int i] (cw_W o rk sp pp fp cII cF a x) (fun r w' => zp_c o rk sp pp fp cI cII cF (zo_probe a b i) r w') := by
  refine zz_mk (by decide) (Nat.le_of_ble_eq_true rfl) ?_
  intro p e s m below meth c A hC hr hk hnm
  have hC : zz_C p s m _ c A D (zt cI cII cF) 6 cX3_probe RX3 := hC
  refine zr_iload_n 1 hC dX3_probe_0 rfl rfl ?_
  refine zr_cSi hC cs_X3_isBank ml_X3_29 (c_X3_isBank (w := (cw_W o rk sp pp fp cII cF a x)) b) dX3_probe_1 ⟨Nat.le_of_ble_eq_true rfl, Nat.le_of_ble_eq_true rfl⟩ ⟨Nat.le_of_ble_eq_true rfl, Nat.le_of_ble_eq_true rfl⟩ rfl rfl (Nat.le_of_ble_eq_true rfl) ?_
  rintro _ _ ⟨rfl, ⟨rfl, hb_b⟩ | ⟨rfl, hb_b⟩⟩
  · refine zr_if_neT (tgt := 14) hC dX3_probe_4 (by decide) (by decide) ?_
    refine zr_iconst (v := (0 : Int32)) hC dX3_probe_14 rfl ?_
    refine zr_istore_n (lv' := [(3, .int (0 : Int32)), (0, .ref o), (1, .int b), (2, .int i)]) hC dX3_probe_15 rfl (by decide) rfl ?_
    refine zr_iconst (v := (1 : Int32)) hC dX3_probe_16 rfl ?_
    refine zr_istore (lv' := [(4, .int (1 : Int32)), (3, .int (0 : Int32)), (0, .ref o), (1, .int b), (2, .int i)]) hC dX3_probe_17 (by decide) rfl ?_
    refine zr_iconst (v := (0 : Int32)) hC dX3_probe_19 rfl ?_
    refine zr_istore (lv' := [(5, .int (0 : Int32)), (4, .int (1 : Int32)), (3, .int (0 : Int32)), (0, .ref o), (1, .int b), (2, .int i)]) hC dX3_probe_20 (by decide) rfl ?_
    refine zr_sub [2, 1, 0, 3, 4, 5] rfl ?_
    refine zr_loop (σ := Nat × Int32 × Int32 × Int32 × ax_A × cx_X) (fun t => [(3, .int t.2.2.2.1), (4, .int t.2.2.1), (5, .int t.2.1), (0, .ref o), (1, .int b), (2, .int i)]) (fun t => cw_W o rk sp pp fp cII cF t.2.2.2.2.1 t.2.2.2.2.2) (fun t => t.1 ≤ 4 ∧ t.2.1 = nI t.1 ∧ rc_R cI cII t.2.2.2.2.1 t.2.2.2.2.2 ∧ zf_pro b i 4 0 1 0 a = zf_pro b i (4 - t.1) t.2.1 t.2.2.1 t.2.2.2.1 t.2.2.2.2.1) (fun t => 4 - t.1) ?_ (0, 0, 1, 0, a, x) ⟨Nat.zero_le _, rfl, hR, rfl⟩
    rintro ⟨kn, s1, u1, t1, a1, x1⟩ ⟨hk1, hk2, hR1, hsp⟩ ih
    try dsimp only at hk1
    try dsimp only at hk2
    try dsimp only at hR1
    try dsimp only at hsp
    show zz_Z _ _ _ _ _ _ _ _ _ _ _ _ _ _ 22 [(3, .int t1), (4, .int u1), (5, .int s1), (0, .ref o), (1, .int b), (2, .int i)] [] (cw_W o rk sp pp fp cII cF a1 x1) 0 0
    refine zr_iload 2 hC dX3_probe_22 rfl ?_
    refine zr_iconst (v := (4 : Int32)) hC dX3_probe_24 rfl ?_
    refine zr_icmp_ge (tgt := 58) hC dX3_probe_25 (by decide) (fun c25 => ?_) (fun c25 => ?_)
    · have hend : kn = 4 := by
        rw [hk2] at c25
        have := (nI_leI (a := 4) (by omega) (by omega)).mp c25
        omega
      refine zr_aload_n 3 hC dX3_probe_58 rfl rfl ?_
      refine zr_iconst (v := (0 : Int32)) hC dX3_probe_59 rfl ?_
      refine zr_iload_n 0 hC dX3_probe_60 rfl rfl ?_
      refine zr_cVi 0 hC cv_X3_leave ml_X3_36 (c_X3_leave (a := a1) (x := x1) (0 : Int32) t1) dX3_probe_61 ⟨Nat.le_of_ble_eq_true rfl, Nat.le_of_ble_eq_true rfl⟩ ⟨Nat.le_of_ble_eq_true rfl, Nat.le_of_ble_eq_true rfl⟩ rfl rfl rfl rfl rfl (Nat.le_of_ble_eq_true rfl) ?_
      rintro rr _ ⟨hrr, rfl⟩
      subst rr
      refine zr_iret hC hr hk dX3_probe_64 (by decide) (by decide) ⟨_, rfl, ?_⟩
      exact zp_mk (by unfold zo_probe; rw [if_pos hb_b, hsp, hend]; rfl) hR1
    · have hlt : kn < 4 := by
        rcases Nat.lt_or_ge kn 4 with h0 | h0
        · exact h0
        · exact absurd (by rw [hk2]; exact nI_le (a := 4) h0 (by omega)) c25
      have hs_s1 : zk_s s1 := by rw [hk2]; exact ⟨nI_pos' (by omega), nI_lt (b := 4) hlt (by omega)⟩
      refine zr_iload_n 0 hC dX3_probe_28 rfl rfl ?_
      refine zr_iload 1 hC dX3_probe_29 rfl ?_
      refine zr_aload_n 3 hC dX3_probe_31 rfl rfl ?_
      refine zr_iload_n 4 hC dX3_probe_32 rfl rfl ?_
      refine zr_iload 2 hC dX3_probe_33 rfl ?_
      refine zr_iload_n 5 hC dX3_probe_35 rfl rfl ?_
      refine zr_cVi 0 hC cv_X3_look ml_X3_58 (c_X3_look (a := a1) (x := x1) hR1.1 i hb_b hs_s1) dX3_probe_36 ⟨Nat.le_of_ble_eq_true rfl, Nat.le_of_ble_eq_true rfl⟩ ⟨Nat.le_of_ble_eq_true rfl, Nat.le_of_ble_eq_true rfl⟩ rfl rfl rfl rfl rfl (Nat.le_of_ble_eq_true rfl) ?_
      rintro _ _ (⟨h1, rfl, rfl⟩ | ⟨h1, rfl, rfl⟩)
      · refine zr_cSi hC cs_X3_digitOf ml_X3_73 (c_X3_digitOf (w := (cw_W o rk sp pp fp cII cF a1 (ck_fnd x1 (zf_val (aa_st a1) (zl b s1) i)))) (0 : Int32)) dX3_probe_39 ⟨Nat.le_of_ble_eq_true rfl, Nat.le_of_ble_eq_true rfl⟩ ⟨Nat.le_of_ble_eq_true rfl, Nat.le_of_ble_eq_true rfl⟩ rfl rfl (Nat.le_of_ble_eq_true rfl) ?_
        rintro _ _ ⟨rfl, rfl⟩
        refine zr_imul hC dX3_probe_42 ?_
        refine zr_iadd hC dX3_probe_43 ?_
        refine zr_istore_n (lv' := [(3, .int (t1 + (u1 * (zf_dig (0 : Int32))))), (4, .int u1), (5, .int s1), (0, .ref o), (1, .int b), (2, .int i)]) hC dX3_probe_44 rfl (by decide) rfl ?_
        refine zr_iload 1 hC dX3_probe_45 rfl ?_
        refine zr_bipush (v := (10 : Int32)) hC dX3_probe_47 rfl ?_
        refine zr_imul hC dX3_probe_49 ?_
        refine zr_istore (lv' := [(4, .int (u1 * (10 : Int32))), (3, .int (t1 + (u1 * (zf_dig (0 : Int32))))), (5, .int s1), (0, .ref o), (1, .int b), (2, .int i)]) hC dX3_probe_50 (by decide) rfl ?_
        refine zr_iinc (v := (s1 + 1)) (lv' := [(5, .int (s1 + 1)), (4, .int (u1 * (10 : Int32))), (3, .int (t1 + (u1 * (zf_dig (0 : Int32))))), (0, .ref o), (1, .int b), (2, .int i)]) 2 hC dX3_probe_52 rfl rfl (by decide) rfl ?_
        refine zr_goto (tgt := 22) hC dX3_probe_55 (by decide) ?_
        refine zr_sub [2, 1, 0, 3, 4, 5] rfl ?_
        exact ih (kn + 1, s1 + 1, (u1 * (10 : Int32)), (t1 + (u1 * (zf_dig (0 : Int32)))), a1, (ck_fnd x1 (zf_val (aa_st a1) (zl b s1) i))) ⟨by show kn + 1 ≤ 4; omega, by show s1 + 1 = nI (kn + 1); rw [hk2, nI_1], hR1, by rw [hsp, show 4 - kn = (4 - (kn + 1)) + 1 by omega]; show zf_pro _ _ _ _ _ (t1 + u1 * zf_dig (zf_why (aa_st a1) (zl b s1) i)) (zf_cnt (zf_why (aa_st a1) (zl b s1) i) a1) = _; rw [h1, zf_cnt0]⟩ (by show 4 - (kn + 1) < 4 - kn; omega)
      · refine zr_cSi hC cs_X3_digitOf ml_X3_73 (c_X3_digitOf (w := (cw_W o rk sp pp fp cII cF (zf_cnt (zf_why (aa_st a1) (zl b s1) i) a1) x1)) (zf_why (aa_st a1) (zl b s1) i)) dX3_probe_39 ⟨Nat.le_of_ble_eq_true rfl, Nat.le_of_ble_eq_true rfl⟩ ⟨Nat.le_of_ble_eq_true rfl, Nat.le_of_ble_eq_true rfl⟩ rfl rfl (Nat.le_of_ble_eq_true rfl) ?_
        rintro _ _ ⟨rfl, rfl⟩
        refine zr_imul hC dX3_probe_42 ?_
        refine zr_iadd hC dX3_probe_43 ?_
        refine zr_istore_n (lv' := [(3, .int (t1 + (u1 * (zf_dig (zf_why (aa_st a1) (zl b s1) i))))), (4, .int u1), (5, .int s1), (0, .ref o), (1, .int b), (2, .int i)]) hC dX3_probe_44 rfl (by decide) rfl ?_
        refine zr_iload 1 hC dX3_probe_45 rfl ?_
        refine zr_bipush (v := (10 : Int32)) hC dX3_probe_47 rfl ?_
        refine zr_imul hC dX3_probe_49 ?_
        refine zr_istore (lv' := [(4, .int (u1 * (10 : Int32))), (3, .int (t1 + (u1 * (zf_dig (zf_why (aa_st a1) (zl b s1) i))))), (5, .int s1), (0, .ref o), (1, .int b), (2, .int i)]) hC dX3_probe_50 (by decide) rfl ?_
        refine zr_iinc (v := (s1 + 1)) (lv' := [(5, .int (s1 + 1)), (4, .int (u1 * (10 : Int32))), (3, .int (t1 + (u1 * (zf_dig (zf_why (aa_st a1) (zl b s1) i))))), (0, .ref o), (1, .int b), (2, .int i)]) 2 hC dX3_probe_52 rfl rfl (by decide) rfl ?_
        refine zr_goto (tgt := 22) hC dX3_probe_55 (by decide) ?_
        refine zr_sub [2, 1, 0, 3, 4, 5] rfl ?_
        exact ih (kn + 1, s1 + 1, (u1 * (10 : Int32)), (t1 + (u1 * (zf_dig (zf_why (aa_st a1) (zl b s1) i)))), (zf_cnt (zf_why (aa_st a1) (zl b s1) i) a1), x1) ⟨by show kn + 1 ≤ 4; omega, by show s1 + 1 = nI (kn + 1); rw [hk2, nI_1], hR1, by rw [hsp, show 4 - kn = (4 - (kn + 1)) + 1 by omega]; show zf_pro _ _ _ _ _ (t1 + u1 * zf_dig (zf_why (aa_st a1) (zl b s1) i)) (zf_cnt (zf_why (aa_st a1) (zl b s1) i) a1) = _; rfl⟩ (by show 4 - (kn + 1) < 4 - kn; omega)
  · refine zr_if_neF (tgt := 14) hC dX3_probe_4 (by decide) (by decide) ?_
    refine zr_aload_n 0 hC dX3_probe_7 rfl rfl ?_
    refine zr_iconst (v := (1 : Int32)) hC dX3_probe_8 rfl ?_
    refine zr_iconst (v := (0 : Int32)) hC dX3_probe_9 rfl ?_
    refine zr_cVi 0 hC cv_X3_leave ml_X3_36 (c_X3_leave (a := a) (x := x) (1 : Int32) (0 : Int32)) dX3_probe_10 ⟨Nat.le_of_ble_eq_true rfl, Nat.le_of_ble_eq_true rfl⟩ ⟨Nat.le_of_ble_eq_true rfl, Nat.le_of_ble_eq_true rfl⟩ rfl rfl rfl rfl rfl (Nat.le_of_ble_eq_true rfl) ?_
    rintro rr _ ⟨hrr, rfl⟩
    subst rr
    refine zr_iret hC hr hk dX3_probe_13 (by decide) (by decide) ⟨_, rfl, ?_⟩
    exact zp_mk (if_neg (fun h => absurd h hb_b)) hR
set_option maxRecDepth 100000 in
set_option maxHeartbeats 4000000 in
theorem c_X3_poke (hR : rc_R cI cII a x) (b i v : Int32) : zz_Mi l D (zt cI cII cF) yX3_poke cX3_poke 7 (some .int) 4 87 0 0 [.ref o, .int b, .int i, .int v] (cw_W o rk sp pp fp cII cF a x) (fun r w' => zp_c o rk sp pp fp cI cII cF (zo_poke a b i v) r w') := by
  refine zz_mk (by decide) (Nat.le_of_ble_eq_true rfl) ?_
  intro p e s m below meth c A hC hr hk hnm
  have hC : zz_C p s m _ c A D (zt cI cII cF) 7 cX3_poke RX3 := hC
  refine zr_iload_n 1 hC dX3_poke_0 rfl rfl ?_
  refine zr_cSi hC cs_X3_isBank ml_X3_29 (c_X3_isBank (w := (cw_W o rk sp pp fp cII cF a x)) b) dX3_poke_1 ⟨Nat.le_of_ble_eq_true rfl, Nat.le_of_ble_eq_true rfl⟩ ⟨Nat.le_of_ble_eq_true rfl, Nat.le_of_ble_eq_true rfl⟩ rfl rfl (Nat.le_of_ble_eq_true rfl) ?_
  rintro _ _ ⟨rfl, ⟨rfl, hb_b⟩ | ⟨rfl, hb_b⟩⟩
  · refine zr_if_neT (tgt := 14) hC dX3_poke_4 (by decide) (by decide) ?_
    refine zr_iconst (v := (0 : Int32)) hC dX3_poke_14 rfl ?_
    refine zr_istore (lv' := [(4, .int (0 : Int32)), (0, .ref o), (1, .int b), (2, .int i), (3, .int v)]) hC dX3_poke_15 (by decide) rfl ?_
    refine zr_iconst (v := (1 : Int32)) hC dX3_poke_17 rfl ?_
    refine zr_istore (lv' := [(5, .int (1 : Int32)), (4, .int (0 : Int32)), (0, .ref o), (1, .int b), (2, .int i), (3, .int v)]) hC dX3_poke_18 (by decide) rfl ?_
    refine zr_iconst (v := (0 : Int32)) hC dX3_poke_20 rfl ?_
    refine zr_istore (lv' := [(6, .int (0 : Int32)), (5, .int (1 : Int32)), (4, .int (0 : Int32)), (0, .ref o), (1, .int b), (2, .int i), (3, .int v)]) hC dX3_poke_21 (by decide) rfl ?_
    refine zr_sub [2, 1, 0, 3, 4, 5, 6] rfl ?_
    refine zr_loop (σ := Nat × Int32 × Int32 × Int32 × ax_A × cx_X) (fun t => [(4, .int t.2.2.2.1), (5, .int t.2.2.1), (6, .int t.2.1), (0, .ref o), (1, .int b), (2, .int i), (3, .int v)]) (fun t => cw_W o rk sp pp fp cII cF t.2.2.2.2.1 t.2.2.2.2.2) (fun t => t.1 ≤ 4 ∧ t.2.1 = nI t.1 ∧ rc_R cI cII t.2.2.2.2.1 t.2.2.2.2.2 ∧ zf_pok b i v 4 0 1 0 a = zf_pok b i v (4 - t.1) t.2.1 t.2.2.1 t.2.2.2.1 t.2.2.2.2.1) (fun t => 4 - t.1) ?_ (0, 0, 1, 0, a, x) ⟨Nat.zero_le _, rfl, hR, rfl⟩
    rintro ⟨kn, s1, u1, t1, a1, x1⟩ ⟨hk1, hk2, hR1, hsp⟩ ih
    try dsimp only at hk1
    try dsimp only at hk2
    try dsimp only at hR1
    try dsimp only at hsp
    show zz_Z _ _ _ _ _ _ _ _ _ _ _ _ _ _ 23 [(4, .int t1), (5, .int u1), (6, .int s1), (0, .ref o), (1, .int b), (2, .int i), (3, .int v)] [] (cw_W o rk sp pp fp cII cF a1 x1) 0 0
    refine zr_iload 2 hC dX3_poke_23 rfl ?_
    refine zr_iconst (v := (4 : Int32)) hC dX3_poke_25 rfl ?_
    refine zr_icmp_ge (tgt := 62) hC dX3_poke_26 (by decide) (fun c26 => ?_) (fun c26 => ?_)
    · have hend : kn = 4 := by
        rw [hk2] at c26
        have := (nI_leI (a := 4) (by omega) (by omega)).mp c26
        omega
      refine zr_aload_n 3 hC dX3_poke_62 rfl rfl ?_
      refine zr_iconst (v := (0 : Int32)) hC dX3_poke_63 rfl ?_
      refine zr_iload 0 hC dX3_poke_64 rfl ?_
      refine zr_cVi 0 hC cv_X3_leave ml_X3_36 (c_X3_leave (a := a1) (x := x1) (0 : Int32) t1) dX3_poke_66 ⟨Nat.le_of_ble_eq_true rfl, Nat.le_of_ble_eq_true rfl⟩ ⟨Nat.le_of_ble_eq_true rfl, Nat.le_of_ble_eq_true rfl⟩ rfl rfl rfl rfl rfl (Nat.le_of_ble_eq_true rfl) ?_
      rintro rr _ ⟨hrr, rfl⟩
      subst rr
      refine zr_iret hC hr hk dX3_poke_69 (by decide) (by decide) ⟨_, rfl, ?_⟩
      exact zp_mk (by unfold zo_poke; rw [if_pos hb_b, hsp, hend]; rfl) hR1
    · have hlt : kn < 4 := by
        rcases Nat.lt_or_ge kn 4 with h0 | h0
        · exact h0
        · exact absurd (by rw [hk2]; exact nI_le (a := 4) h0 (by omega)) c26
      have hs_s1 : zk_s s1 := by rw [hk2]; exact ⟨nI_pos' (by omega), nI_lt (b := 4) hlt (by omega)⟩
      refine zr_iload 0 hC dX3_poke_29 rfl ?_
      refine zr_iload 1 hC dX3_poke_31 rfl ?_
      refine zr_aload_n 3 hC dX3_poke_33 rfl rfl ?_
      refine zr_iload_n 4 hC dX3_poke_34 rfl rfl ?_
      refine zr_iload 2 hC dX3_poke_35 rfl ?_
      refine zr_iload_n 5 hC dX3_poke_37 rfl rfl ?_
      refine zr_iload_n 6 hC dX3_poke_38 rfl rfl ?_
      refine zr_cVi 0 hC cv_X3_put ml_X3_62 (c_X3_put (a := a1) (x := x1) hR1.1 i v hb_b hs_s1) dX3_poke_39 ⟨Nat.le_of_ble_eq_true rfl, Nat.le_of_ble_eq_true rfl⟩ ⟨Nat.le_of_ble_eq_true rfl, Nat.le_of_ble_eq_true rfl⟩ rfl rfl rfl rfl rfl (Nat.le_of_ble_eq_true rfl) ?_
      rintro _ _ (⟨h2, rfl, x1, hFx1, hKx1, rfl, hQx1⟩ | ⟨h2, rfl, rfl⟩)
      · refine zr_cSi hC cs_X3_digitOf ml_X3_73 (c_X3_digitOf (w := (cw_W o rk sp pp fp cII cF (zf_set a1 (zl b s1) i (zf_num s1 v)) x1)) (0 : Int32)) dX3_poke_42 ⟨Nat.le_of_ble_eq_true rfl, Nat.le_of_ble_eq_true rfl⟩ ⟨Nat.le_of_ble_eq_true rfl, Nat.le_of_ble_eq_true rfl⟩ rfl rfl (Nat.le_of_ble_eq_true rfl) ?_
        rintro _ _ ⟨rfl, rfl⟩
        refine zr_imul hC dX3_poke_45 ?_
        refine zr_iadd hC dX3_poke_46 ?_
        refine zr_istore (lv' := [(4, .int (t1 + (u1 * (zf_dig (0 : Int32))))), (5, .int u1), (6, .int s1), (0, .ref o), (1, .int b), (2, .int i), (3, .int v)]) hC dX3_poke_47 (by decide) rfl ?_
        refine zr_iload 1 hC dX3_poke_49 rfl ?_
        refine zr_bipush (v := (10 : Int32)) hC dX3_poke_51 rfl ?_
        refine zr_imul hC dX3_poke_53 ?_
        refine zr_istore (lv' := [(5, .int (u1 * (10 : Int32))), (4, .int (t1 + (u1 * (zf_dig (0 : Int32))))), (6, .int s1), (0, .ref o), (1, .int b), (2, .int i), (3, .int v)]) hC dX3_poke_54 (by decide) rfl ?_
        refine zr_iinc (v := (s1 + 1)) (lv' := [(6, .int (s1 + 1)), (5, .int (u1 * (10 : Int32))), (4, .int (t1 + (u1 * (zf_dig (0 : Int32))))), (0, .ref o), (1, .int b), (2, .int i), (3, .int v)]) 2 hC dX3_poke_56 rfl rfl (by decide) rfl ?_
        refine zr_goto (tgt := 23) hC dX3_poke_59 (by decide) ?_
        refine zr_sub [2, 1, 0, 3, 4, 5, 6] rfl ?_
        exact ih (kn + 1, s1 + 1, (u1 * (10 : Int32)), (t1 + (u1 * (zf_dig (0 : Int32)))), (zf_set a1 (zl b s1) i (zf_num s1 v)), x1) ⟨by show kn + 1 ≤ 4; omega, by show s1 + 1 = nI (kn + 1); rw [hk2, nI_1], (hR1.of hQx1 hKx1 rfl), by rw [hsp, show 4 - kn = (4 - (kn + 1)) + 1 by omega]; show zf_pok _ _ _ _ _ _ (t1 + u1 * zf_dig (zf_why (aa_st a1) (zl b s1) i)) (if zf_why (aa_st a1) (zl b s1) i = 0 then zf_set a1 (zl b s1) i (zf_num s1 v) else zf_cnt (zf_why (aa_st a1) (zl b s1) i) a1) = _; rw [h2, if_pos rfl]⟩ (by show 4 - (kn + 1) < 4 - kn; omega)
      · refine zr_cSi hC cs_X3_digitOf ml_X3_73 (c_X3_digitOf (w := (cw_W o rk sp pp fp cII cF (zf_cnt (zf_why (aa_st a1) (zl b s1) i) a1) x1)) (zf_why (aa_st a1) (zl b s1) i)) dX3_poke_42 ⟨Nat.le_of_ble_eq_true rfl, Nat.le_of_ble_eq_true rfl⟩ ⟨Nat.le_of_ble_eq_true rfl, Nat.le_of_ble_eq_true rfl⟩ rfl rfl (Nat.le_of_ble_eq_true rfl) ?_
        rintro _ _ ⟨rfl, rfl⟩
        refine zr_imul hC dX3_poke_45 ?_
        refine zr_iadd hC dX3_poke_46 ?_
        refine zr_istore (lv' := [(4, .int (t1 + (u1 * (zf_dig (zf_why (aa_st a1) (zl b s1) i))))), (5, .int u1), (6, .int s1), (0, .ref o), (1, .int b), (2, .int i), (3, .int v)]) hC dX3_poke_47 (by decide) rfl ?_
        refine zr_iload 1 hC dX3_poke_49 rfl ?_
        refine zr_bipush (v := (10 : Int32)) hC dX3_poke_51 rfl ?_
        refine zr_imul hC dX3_poke_53 ?_
        refine zr_istore (lv' := [(5, .int (u1 * (10 : Int32))), (4, .int (t1 + (u1 * (zf_dig (zf_why (aa_st a1) (zl b s1) i))))), (6, .int s1), (0, .ref o), (1, .int b), (2, .int i), (3, .int v)]) hC dX3_poke_54 (by decide) rfl ?_
        refine zr_iinc (v := (s1 + 1)) (lv' := [(6, .int (s1 + 1)), (5, .int (u1 * (10 : Int32))), (4, .int (t1 + (u1 * (zf_dig (zf_why (aa_st a1) (zl b s1) i))))), (0, .ref o), (1, .int b), (2, .int i), (3, .int v)]) 2 hC dX3_poke_56 rfl rfl (by decide) rfl ?_
        refine zr_goto (tgt := 23) hC dX3_poke_59 (by decide) ?_
        refine zr_sub [2, 1, 0, 3, 4, 5, 6] rfl ?_
        exact ih (kn + 1, s1 + 1, (u1 * (10 : Int32)), (t1 + (u1 * (zf_dig (zf_why (aa_st a1) (zl b s1) i)))), (zf_cnt (zf_why (aa_st a1) (zl b s1) i) a1), x1) ⟨by show kn + 1 ≤ 4; omega, by show s1 + 1 = nI (kn + 1); rw [hk2, nI_1], hR1, by rw [hsp, show 4 - kn = (4 - (kn + 1)) + 1 by omega]; show zf_pok _ _ _ _ _ _ (t1 + u1 * zf_dig (zf_why (aa_st a1) (zl b s1) i)) (if zf_why (aa_st a1) (zl b s1) i = 0 then zf_set a1 (zl b s1) i (zf_num s1 v) else zf_cnt (zf_why (aa_st a1) (zl b s1) i) a1) = _; rw [if_neg h2]⟩ (by show 4 - (kn + 1) < 4 - kn; omega)
  · refine zr_if_neF (tgt := 14) hC dX3_poke_4 (by decide) (by decide) ?_
    refine zr_aload_n 0 hC dX3_poke_7 rfl rfl ?_
    refine zr_iconst (v := (1 : Int32)) hC dX3_poke_8 rfl ?_
    refine zr_iconst (v := (0 : Int32)) hC dX3_poke_9 rfl ?_
    refine zr_cVi 0 hC cv_X3_leave ml_X3_36 (c_X3_leave (a := a) (x := x) (1 : Int32) (0 : Int32)) dX3_poke_10 ⟨Nat.le_of_ble_eq_true rfl, Nat.le_of_ble_eq_true rfl⟩ ⟨Nat.le_of_ble_eq_true rfl, Nat.le_of_ble_eq_true rfl⟩ rfl rfl rfl rfl rfl (Nat.le_of_ble_eq_true rfl) ?_
    rintro rr _ ⟨hrr, rfl⟩
    subst rr
    refine zr_iret hC hr hk dX3_poke_13 (by decide) (by decide) ⟨_, rfl, ?_⟩
    exact zp_mk (if_neg (fun h => absurd h hb_b)) hR
set_option maxRecDepth 100000 in
set_option maxHeartbeats 4000000 in
theorem c_X3_lit (hR : rc_R cI cII a x) (b : Int32) : zz_Mi l D (zt cI cII cF) yX3_lit cX3_lit 6 (some .int) 4 92 0 0 [.ref o, .int b] (cw_W o rk sp pp fp cII cF a x) (fun r w' => zp_c o rk sp pp fp cI cII cF (zo_lit a b) r w') := by
  refine zz_mk (by decide) (Nat.le_of_ble_eq_true rfl) ?_
  intro p e s m below meth c A hC hr hk hnm
  have hC : zz_C p s m _ c A D (zt cI cII cF) 6 cX3_lit RX3 := hC
  refine zr_iload_n 1 hC dX3_lit_0 rfl rfl ?_
  refine zr_cSi hC cs_X3_isBank ml_X3_29 (c_X3_isBank (w := (cw_W o rk sp pp fp cII cF a x)) b) dX3_lit_1 ⟨Nat.le_of_ble_eq_true rfl, Nat.le_of_ble_eq_true rfl⟩ ⟨Nat.le_of_ble_eq_true rfl, Nat.le_of_ble_eq_true rfl⟩ rfl rfl (Nat.le_of_ble_eq_true rfl) ?_
  rintro _ _ ⟨rfl, ⟨rfl, hb_b⟩ | ⟨rfl, hb_b⟩⟩
  · refine zr_if_neT (tgt := 14) hC dX3_lit_4 (by decide) (by decide) ?_
    refine zr_aload_n 0 hC dX3_lit_14 rfl rfl ?_
    refine zr_iload_n 1 hC dX3_lit_15 rfl rfl ?_
    refine zr_iconst (v := (2 : Int32)) hC dX3_lit_16 rfl ?_
    refine zr_cVi 0 hC cv_X3_measure ml_X3_52 (c_X3_measure (a := a) (x := x) hR.1 hb_b zk_s2) dX3_lit_17 ⟨Nat.le_of_ble_eq_true rfl, Nat.le_of_ble_eq_true rfl⟩ ⟨Nat.le_of_ble_eq_true rfl, Nat.le_of_ble_eq_true rfl⟩ rfl rfl rfl rfl rfl (Nat.le_of_ble_eq_true rfl) ?_
    rintro _ _ (⟨hlen, rfl, rfl⟩ | ⟨n, hn24, hlen, rfl, rfl⟩)
    · refine zr_istore_n (lv' := [(2, .int (2 : Int32)), (0, .ref o), (1, .int b)]) hC dX3_lit_20 rfl (by decide) rfl ?_
      refine zr_iload_n 0 hC dX3_lit_21 rfl rfl ?_
      refine zr_if_eqF (tgt := 32) hC dX3_lit_22 (by decide) (by decide) ?_
      refine zr_aload_n 1 hC dX3_lit_25 rfl rfl ?_
      refine zr_iload_n 0 hC dX3_lit_26 rfl rfl ?_
      refine zr_iconst (v := (0 : Int32)) hC dX3_lit_27 rfl ?_
      refine zr_cVi 0 hC cv_X3_leave ml_X3_36 (c_X3_leave (a := (zf_cnt 2 a)) (x := x) (2 : Int32) (0 : Int32)) dX3_lit_28 ⟨Nat.le_of_ble_eq_true rfl, Nat.le_of_ble_eq_true rfl⟩ ⟨Nat.le_of_ble_eq_true rfl, Nat.le_of_ble_eq_true rfl⟩ rfl rfl rfl rfl rfl (Nat.le_of_ble_eq_true rfl) ?_
      rintro rr _ ⟨hrr, rfl⟩
      subst rr
      refine zr_iret hC hr hk dX3_lit_31 (by decide) (by decide) ⟨_, rfl, ?_⟩
      exact zp_mk (by unfold zo_lit; rw [if_pos hb_b, hlen]) hR
    · refine zr_istore_n (lv' := [(2, .int (0 : Int32)), (0, .ref o), (1, .int b)]) hC dX3_lit_20 rfl (by decide) rfl ?_
      refine zr_iload_n 0 hC dX3_lit_21 rfl rfl ?_
      refine zr_if_eqT (tgt := 32) hC dX3_lit_22 (by decide) (by decide) ?_
      refine zr_aload_n 1 hC dX3_lit_32 rfl rfl ?_
      refine zr_get (v := .int (nI n)) 0 11 hC iu_X3 rfl dX3_lit_33 fl_X3_66 (by decide) rfl rfl ?_
      refine zr_istore_n (lv' := [(3, .int (nI n)), (2, .int (0 : Int32)), (0, .ref o), (1, .int b)]) hC dX3_lit_36 rfl (by decide) rfl ?_
      refine zr_iconst (v := (0 : Int32)) hC dX3_lit_37 rfl ?_
      refine zr_istore (lv' := [(4, .int (0 : Int32)), (3, .int (nI n)), (2, .int (0 : Int32)), (0, .ref o), (1, .int b)]) hC dX3_lit_38 (by decide) rfl ?_
      refine zr_iconst (v := (0 : Int32)) hC dX3_lit_40 rfl ?_
      refine zr_istore (lv' := [(5, .int (0 : Int32)), (4, .int (0 : Int32)), (3, .int (nI n)), (2, .int (0 : Int32)), (0, .ref o), (1, .int b)]) hC dX3_lit_41 (by decide) rfl ?_
      refine zr_sub [0, 1, 2, 4, 5] rfl ?_
      refine zr_loop (σ := Nat × Int32 × Int32 × ax_A × Int32) (fun t => [(5, .int t.2.1), (4, .int t.2.2.1), (3, .int (nI n)), (0, .ref o), (1, .int b)]) (fun t => cw_W o rk sp pp fp cII cF t.2.2.2.1 (ck_fnd x t.2.2.2.2)) (fun t => t.1 ≤ n ∧ t.2.1 = nI t.1 ∧ rc_R cI cII t.2.2.2.1 (ck_fnd x t.2.2.2.2) ∧ aa_st t.2.2.2.1 = aa_st a ∧ zf_lit b n 0 0 a = zf_lit b (n - t.1) t.2.1 t.2.2.1 t.2.2.2.1) (fun t => n - t.1) ?_ (0, 0, 0, a, (nI n)) ⟨Nat.zero_le _, rfl, hR, rfl, rfl⟩
      rintro ⟨kn, i1, k1, a1, fn1⟩ ⟨hk1, hk2, hR1, hst, hsp⟩ ih
      try dsimp only at hk1
      try dsimp only at hk2
      try dsimp only at hR1
      try dsimp only at hst
      try dsimp only at hsp
      show zz_Z _ _ _ _ _ _ _ _ _ _ _ _ _ _ 43 [(5, .int i1), (4, .int k1), (3, .int (nI n)), (0, .ref o), (1, .int b)] [] (cw_W o rk sp pp fp cII cF a1 (ck_fnd x fn1)) 0 0
      refine zr_iload 0 hC dX3_lit_43 rfl ?_
      refine zr_iload_n 2 hC dX3_lit_45 rfl rfl ?_
      refine zr_icmp_ge (tgt := 68) hC dX3_lit_46 (by decide) (fun c46 => ?_) (fun c46 => ?_)
      · have hend : kn = n := by
          rw [hk2] at c46
          have := (nI_leI (a := n) (by omega) (by omega)).mp c46
          omega
        refine zr_aload_n 3 hC dX3_lit_68 rfl rfl ?_
        refine zr_iconst (v := (0 : Int32)) hC dX3_lit_69 rfl ?_
        refine zr_iload 1 hC dX3_lit_70 rfl ?_
        refine zr_cVi 0 hC cv_X3_leave ml_X3_36 (c_X3_leave (a := a1) (x := (ck_fnd x fn1)) (0 : Int32) k1) dX3_lit_72 ⟨Nat.le_of_ble_eq_true rfl, Nat.le_of_ble_eq_true rfl⟩ ⟨Nat.le_of_ble_eq_true rfl, Nat.le_of_ble_eq_true rfl⟩ rfl rfl rfl rfl rfl (Nat.le_of_ble_eq_true rfl) ?_
        rintro rr _ ⟨hrr, rfl⟩
        subst rr
        refine zr_iret hC hr hk dX3_lit_75 (by decide) (by decide) ⟨_, rfl, ?_⟩
        exact zp_mk (by unfold zo_lit; rw [if_pos hb_b, hlen]; show zf_lit b n 0 0 a = _; rw [hsp, hend, Nat.sub_self]; rfl) hR1
      · have hlt : kn < n := by
          rcases Nat.lt_or_ge kn n with h0 | h0
          · exact h0
          · exact absurd (by rw [hk2]; exact nI_le h0 (by omega)) c46
        refine zr_aload_n 3 hC dX3_lit_49 rfl rfl ?_
        refine zr_iload_n 4 hC dX3_lit_50 rfl rfl ?_
        refine zr_iload 0 hC dX3_lit_51 rfl ?_
        have hlv : zf_why (aa_st a1) (zl b 2) i1 = 0 := by
          rw [zf_why_some (n := n) (by rw [hst]; exact hlen), hk2]
          exact if_pos ⟨nI_pos' (by omega), nI_lt hlt (by omega)⟩
        refine zr_cVi 0 hC cv_X3_isLit ml_X3_79 (c_X3_isLit (a := a1) (x := (ck_fnd x fn1)) hR1.1 i1 hb_b hlv) dX3_lit_53 ⟨Nat.le_of_ble_eq_true rfl, Nat.le_of_ble_eq_true rfl⟩ ⟨Nat.le_of_ble_eq_true rfl, Nat.le_of_ble_eq_true rfl⟩ rfl rfl rfl rfl rfl (Nat.le_of_ble_eq_true rfl) ?_
        rintro _ _ ⟨fn1, rfl, ⟨rfl, h2⟩ | ⟨rfl, h2⟩⟩
        · refine zr_if_eqF (tgt := 62) hC dX3_lit_56 (by decide) (by decide) ?_
          refine zr_iinc (v := (k1 + 1)) (lv' := [(4, .int (k1 + 1)), (5, .int i1), (3, .int (nI n)), (0, .ref o), (1, .int b)]) 1 hC dX3_lit_59 rfl rfl (by decide) rfl ?_
          refine zr_iinc (v := (i1 + 1)) (lv' := [(5, .int (i1 + 1)), (4, .int (k1 + 1)), (3, .int (nI n)), (0, .ref o), (1, .int b)]) 1 hC dX3_lit_62 rfl rfl (by decide) rfl ?_
          refine zr_goto (tgt := 43) hC dX3_lit_65 (by decide) ?_
          exact ih (kn + 1, i1 + 1, (k1 + 1), (zf_cnt (zf_why (aa_st a1) (zl b 3) i1) a1), fn1) ⟨by show kn + 1 ≤ n; omega, by show i1 + 1 = nI (kn + 1); rw [hk2, nI_1], hR1, hst, by rw [hsp, show n - kn = (n - (kn + 1)) + 1 by omega]; show zf_lit _ _ _ (if zf_why (aa_st a1) (zl b 3) i1 = 0 ∧ ¬ zf_val (aa_st a1) (zl b 3) i1 = 0 ∧ 0 < zf_val (aa_st a1) (zl b 2) i1 then _ else _) _ = _; rw [if_pos h2]⟩ (by show n - (kn + 1) < n - kn; omega)
        · refine zr_if_eqT (tgt := 62) hC dX3_lit_56 (by decide) (by decide) ?_
          refine zr_iinc (v := (i1 + 1)) (lv' := [(5, .int (i1 + 1)), (4, .int k1), (3, .int (nI n)), (0, .ref o), (1, .int b)]) 0 hC dX3_lit_62 rfl rfl (by decide) rfl ?_
          refine zr_goto (tgt := 43) hC dX3_lit_65 (by decide) ?_
          exact ih (kn + 1, i1 + 1, k1, (zf_cnt (zf_why (aa_st a1) (zl b 3) i1) a1), fn1) ⟨by show kn + 1 ≤ n; omega, by show i1 + 1 = nI (kn + 1); rw [hk2, nI_1], hR1, hst, by rw [hsp, show n - kn = (n - (kn + 1)) + 1 by omega]; show zf_lit _ _ _ (if zf_why (aa_st a1) (zl b 3) i1 = 0 ∧ ¬ zf_val (aa_st a1) (zl b 3) i1 = 0 ∧ 0 < zf_val (aa_st a1) (zl b 2) i1 then _ else _) _ = _; rw [if_neg h2]⟩ (by show n - (kn + 1) < n - kn; omega)
  · refine zr_if_neF (tgt := 14) hC dX3_lit_4 (by decide) (by decide) ?_
    refine zr_aload_n 0 hC dX3_lit_7 rfl rfl ?_
    refine zr_iconst (v := (1 : Int32)) hC dX3_lit_8 rfl ?_
    refine zr_iconst (v := (0 : Int32)) hC dX3_lit_9 rfl ?_
    refine zr_cVi 0 hC cv_X3_leave ml_X3_36 (c_X3_leave (a := a) (x := x) (1 : Int32) (0 : Int32)) dX3_lit_10 ⟨Nat.le_of_ble_eq_true rfl, Nat.le_of_ble_eq_true rfl⟩ ⟨Nat.le_of_ble_eq_true rfl, Nat.le_of_ble_eq_true rfl⟩ rfl rfl rfl rfl rfl (Nat.le_of_ble_eq_true rfl) ?_
    rintro rr _ ⟨hrr, rfl⟩
    subst rr
    refine zr_iret hC hr hk dX3_lit_13 (by decide) (by decide) ⟨_, rfl, ?_⟩
    exact zp_mk (if_neg (fun h => absurd h hb_b)) hR
set_option maxRecDepth 100000 in
set_option maxHeartbeats 4000000 in
theorem c_X3_draw (hR : rc_R cI cII a x) (b i : Int32) : zz_Mi l D (zt cI cII cF) yX3_draw cX3_draw 5 (some .int) 5 119 0 0 [.ref o, .int b, .int i] (cw_W o rk sp pp fp cII cF a x) (fun r w' => zp_c o rk sp pp fp cI cII cF (zo_draw a b i) r w') := by
  refine zz_mk (by decide) (Nat.le_of_ble_eq_true rfl) ?_
  intro p e s m below meth c A hC hr hk hnm
  have hC : zz_C p s m _ c A D (zt cI cII cF) 5 cX3_draw RX3 := hC
  refine zr_iload_n 1 hC dX3_draw_0 rfl rfl ?_
  refine zr_cSi hC cs_X3_isBank ml_X3_29 (c_X3_isBank (w := (cw_W o rk sp pp fp cII cF a x)) b) dX3_draw_1 ⟨Nat.le_of_ble_eq_true rfl, Nat.le_of_ble_eq_true rfl⟩ ⟨Nat.le_of_ble_eq_true rfl, Nat.le_of_ble_eq_true rfl⟩ rfl rfl (Nat.le_of_ble_eq_true rfl) ?_
  rintro _ _ ⟨rfl, ⟨rfl, hb_b⟩ | ⟨rfl, hb_b⟩⟩
  · refine zr_if_neT (tgt := 14) hC dX3_draw_4 (by decide) (by decide) ?_
    refine zr_iconst (v := (0 : Int32)) hC dX3_draw_14 rfl ?_
    refine zr_istore_n (lv' := [(3, .int (0 : Int32)), (0, .ref o), (1, .int b), (2, .int i)]) hC dX3_draw_15 rfl (by decide) rfl ?_
    refine zr_loop (σ := Nat × Int32 × ax_A × cx_X) (fun t => [(3, .int t.2.1), (0, .ref o), (1, .int b), (2, .int i)]) (fun t => cw_W o rk sp pp fp cII cF t.2.2.1 t.2.2.2) (fun t => t.1 ≤ 25 ∧ t.2.1 = nI t.1 ∧ rc_R cI cII t.2.2.1 t.2.2.2 ∧ zf_draw b i 25 0 a = zf_draw b i (25 - t.1) t.2.1 t.2.2.1) (fun t => 25 - t.1) ?_ (0, 0, a, x) ⟨Nat.zero_le _, rfl, hR, rfl⟩
    rintro ⟨kn, j1, a1, x1⟩ ⟨hk1, hk2, hR1, hsp⟩ ih
    try dsimp only at hk1
    try dsimp only at hk2
    try dsimp only at hR1
    try dsimp only at hsp
    show zz_Z _ _ _ _ _ _ _ _ _ _ _ _ _ _ 16 [(3, .int j1), (0, .ref o), (1, .int b), (2, .int i)] [] (cw_W o rk sp pp fp cII cF a1 x1) 0 0
    refine zr_iload_n 0 hC dX3_draw_16 rfl rfl ?_
    refine zr_bipush (v := (24 : Int32)) hC dX3_draw_17 rfl ?_
    refine zr_icmp_gt (tgt := 50) hC dX3_draw_19 (by decide) (fun c19 => ?_) (fun c19 => ?_)
    · have hend : kn = 25 := by
        rw [hk2] at c19
        have := (nI_ltI (a := 24) (by omega) (by omega)).mp c19
        omega
      refine zr_aload_n 1 hC dX3_draw_50 rfl rfl ?_
      refine zr_iconst (v := (0 : Int32)) hC dX3_draw_51 rfl ?_
      refine zr_bipush (v := (24 : Int32)) hC dX3_draw_52 rfl ?_
      refine zr_cVi 0 hC cv_X3_leave ml_X3_36 (c_X3_leave (a := a1) (x := x1) (0 : Int32) (24 : Int32)) dX3_draw_54 ⟨Nat.le_of_ble_eq_true rfl, Nat.le_of_ble_eq_true rfl⟩ ⟨Nat.le_of_ble_eq_true rfl, Nat.le_of_ble_eq_true rfl⟩ rfl rfl rfl rfl rfl (Nat.le_of_ble_eq_true rfl) ?_
      rintro rr _ ⟨hrr, rfl⟩
      subst rr
      refine zr_iret hC hr hk dX3_draw_57 (by decide) (by decide) ⟨_, rfl, ?_⟩
      exact zp_mk (by unfold zo_draw; rw [if_pos hb_b, hsp, hend]; rfl) hR1
    · have hlt : kn < 25 := by
        rcases Nat.lt_or_ge kn 25 with h0 | h0
        · exact h0
        · exact absurd (by rw [hk2]; exact nI_lt (a := 24) (by omega) (by omega)) c19
      refine zr_aload_n 1 hC dX3_draw_22 rfl rfl ?_
      refine zr_iload_n 2 hC dX3_draw_23 rfl rfl ?_
      refine zr_iload_n 3 hC dX3_draw_24 rfl rfl ?_
      refine zr_iload_n 0 hC dX3_draw_25 rfl rfl ?_
      refine zr_cVi 0 hC cv_X3_drawLamp ml_X3_119 (c_X3_drawLamp (a := a1) (x := x1) hR1.1 i j1 hb_b) dX3_draw_26 ⟨Nat.le_of_ble_eq_true rfl, Nat.le_of_ble_eq_true rfl⟩ ⟨Nat.le_of_ble_eq_true rfl, Nat.le_of_ble_eq_true rfl⟩ rfl rfl rfl rfl rfl (Nat.le_of_ble_eq_true rfl) ?_
      rintro _ _ (⟨hs2, hw2, rfl, x2, hK2, rfl, hQ2⟩ | ⟨hs2, hw2, rfl, fn2, rfl⟩ | ⟨hs2, rfl, fn2, rfl⟩)
      · refine zr_istore (lv' := [(4, .int (0 : Int32)), (3, .int j1), (0, .ref o), (1, .int b), (2, .int i)]) hC dX3_draw_29 (by decide) rfl ?_
        refine zr_iload 0 hC dX3_draw_31 rfl ?_
        refine zr_if_eqT (tgt := 44) hC dX3_draw_33 (by decide) (by decide) ?_
        refine zr_iinc (v := (j1 + 1)) (lv' := [(3, .int (j1 + 1)), (4, .int (0 : Int32)), (0, .ref o), (1, .int b), (2, .int i)]) 1 hC dX3_draw_44 rfl rfl (by decide) rfl ?_
        refine zr_goto (tgt := 16) hC dX3_draw_47 (by decide) ?_
        refine zr_sub [0, 2, 3, 4] rfl ?_
        exact ih (kn + 1, j1 + 1, (zf_wri (zf_show a1 b j1).2.2 i j1 (zf_show a1 b j1).2.1), x2) ⟨by show kn + 1 ≤ 25; omega, by show j1 + 1 = nI (kn + 1); rw [hk2, nI_1], hR1.of hQ2 hK2 (zf_show_st a1 b j1).2.2, by rw [hsp, show 25 - kn = (25 - (kn + 1)) + 1 by omega]; show (if _ then (if _ then _ else _) else _) = _; rw [if_pos hs2, if_pos hw2]⟩ (by show 25 - (kn + 1) < 25 - kn; omega)
      · refine zr_istore (lv' := [(4, .int (zf_whyC (aa_sh (zf_show a1 b j1).2.2) i j1)), (3, .int j1), (0, .ref o), (1, .int b), (2, .int i)]) hC dX3_draw_29 (by decide) rfl ?_
        refine zr_iload 0 hC dX3_draw_31 rfl ?_
        refine zr_if_eqF (tgt := 44) hC dX3_draw_33 (by decide) hw2 ?_
        refine zr_aload_n 2 hC dX3_draw_36 rfl rfl ?_
        refine zr_iload 0 hC dX3_draw_37 rfl ?_
        refine zr_iload_n 1 hC dX3_draw_39 rfl rfl ?_
        refine zr_cVi 0 hC cv_X3_leave ml_X3_36 (c_X3_leave (a := (zf_cnt (zf_whyC (aa_sh (zf_show a1 b j1).2.2) i j1) (zf_show a1 b j1).2.2)) (x := (ck_fnd x1 fn2)) (zf_whyC (aa_sh (zf_show a1 b j1).2.2) i j1) j1) dX3_draw_40 ⟨Nat.le_of_ble_eq_true rfl, Nat.le_of_ble_eq_true rfl⟩ ⟨Nat.le_of_ble_eq_true rfl, Nat.le_of_ble_eq_true rfl⟩ rfl rfl rfl rfl rfl (Nat.le_of_ble_eq_true rfl) ?_
        rintro rr _ ⟨hrr, rfl⟩
        subst rr
        refine zr_iret hC hr hk dX3_draw_43 (by decide) (by decide) ⟨_, rfl, ?_⟩
        exact zp_mk (by unfold zo_draw; rw [if_pos hb_b, hsp, show 25 - kn = (25 - (kn + 1)) + 1 by omega]; show (if _ then (if _ then _ else _) else _) = _; rw [if_pos hs2, if_neg hw2]) (hR1.of (rc_show hR1.1 b j1 _) cx_K.rf (zf_show_st a1 b j1).2.2)
      · refine zr_istore (lv' := [(4, .int ((zf_show a1 b j1).1)), (3, .int j1), (0, .ref o), (1, .int b), (2, .int i)]) hC dX3_draw_29 (by decide) rfl ?_
        refine zr_iload 0 hC dX3_draw_31 rfl ?_
        refine zr_if_eqF (tgt := 44) hC dX3_draw_33 (by decide) hs2 ?_
        refine zr_aload_n 2 hC dX3_draw_36 rfl rfl ?_
        refine zr_iload 0 hC dX3_draw_37 rfl ?_
        refine zr_iload_n 1 hC dX3_draw_39 rfl rfl ?_
        refine zr_cVi 0 hC cv_X3_leave ml_X3_36 (c_X3_leave (a := ((zf_show a1 b j1).2.2)) (x := (ck_fnd x1 fn2)) ((zf_show a1 b j1).1) j1) dX3_draw_40 ⟨Nat.le_of_ble_eq_true rfl, Nat.le_of_ble_eq_true rfl⟩ ⟨Nat.le_of_ble_eq_true rfl, Nat.le_of_ble_eq_true rfl⟩ rfl rfl rfl rfl rfl (Nat.le_of_ble_eq_true rfl) ?_
        rintro rr _ ⟨hrr, rfl⟩
        subst rr
        refine zr_iret hC hr hk dX3_draw_43 (by decide) (by decide) ⟨_, rfl, ?_⟩
        exact zp_mk (by unfold zo_draw; rw [if_pos hb_b, hsp, show 25 - kn = (25 - (kn + 1)) + 1 by omega]; show (if _ then (if _ then _ else _) else _) = _; rw [if_neg hs2]) (hR1.of (rc_show hR1.1 b j1 _) cx_K.rf (zf_show_st a1 b j1).2.2)
  · refine zr_if_neF (tgt := 14) hC dX3_draw_4 (by decide) (by decide) ?_
    refine zr_aload_n 0 hC dX3_draw_7 rfl rfl ?_
    refine zr_iconst (v := (1 : Int32)) hC dX3_draw_8 rfl ?_
    refine zr_iconst (v := (0 : Int32)) hC dX3_draw_9 rfl ?_
    refine zr_cVi 0 hC cv_X3_leave ml_X3_36 (c_X3_leave (a := a) (x := x) (1 : Int32) (0 : Int32)) dX3_draw_10 ⟨Nat.le_of_ble_eq_true rfl, Nat.le_of_ble_eq_true rfl⟩ ⟨Nat.le_of_ble_eq_true rfl, Nat.le_of_ble_eq_true rfl⟩ rfl rfl rfl rfl rfl (Nat.le_of_ble_eq_true rfl) ?_
    rintro rr _ ⟨hrr, rfl⟩
    subst rr
    refine zr_iret hC hr hk dX3_draw_13 (by decide) (by decide) ⟨_, rfl, ?_⟩
    exact zp_mk (if_neg (fun h => absurd h hb_b)) hR
end ZA8
