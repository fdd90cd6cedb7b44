section ZB2
variable {l : Launch} {D : va_G} {cI cII cF : ClassId} {o rk sp pp fp mo m1 m2 m3 m4 m5 m6 m7 m8 m9 : Nat}
variable {a : ax_A} {x : mx_X}
set_option maxRecDepth 100000 in
set_option maxHeartbeats 4000000 in
theorem c_X4_light (hR : rm_Q a x) {b : Int32} (i : Int32) (hb_b : zk_b b) : zz_Mi l D (zt cI cII cF) yX4_light cX4_light 4 (some .int) 3 69 0 0 [.ref mo, .int b, .int i] (mw_W mo m1 m2 m3 m4 m5 m6 m7 m8 m9 cI a x) (fun r w' => r = (zf_show a b i).2.1 ∧ w' = (mw_W mo m1 m2 m3 m4 m5 m6 m7 m8 m9 cI (zf_show a b i).2.2 (mk_dk x (zf_show a b i).1))) := by
  refine zz_mk (by decide) (Nat.le_of_ble_eq_true rfl) ?_
  intro p e s m below meth c A hC hr hk hnm
  have hC : zz_C p s m _ c A D (zt cI cII cF) 4 cX4_light RX4 := hC
  refine zr_aload_n 0 hC dX4_light_0 rfl rfl ?_
  refine zr_aload_n 0 hC dX4_light_1 rfl rfl ?_
  refine zr_iload_n 1 hC dX4_light_2 rfl rfl ?_
  refine zr_iconst (v := (3 : Int32)) hC dX4_light_3 rfl ?_
  refine zr_iload_n 2 hC dX4_light_4 rfl rfl ?_
  refine zr_cVi 0 hC cv_X4_refused ml_X4_87 (c_X4_refused (a := a) (x := x) hR i hb_b zk_s3) dX4_light_5 ⟨Nat.le_of_ble_eq_true rfl, Nat.le_of_ble_eq_true rfl⟩ ⟨Nat.le_of_ble_eq_true rfl, Nat.le_of_ble_eq_true rfl⟩ rfl rfl rfl rfl rfl (Nat.le_of_ble_eq_true rfl) ?_
  rintro _ _ (⟨h1, rfl, rfl⟩ | ⟨h1, rfl, rfl⟩)
  · have h1 : (zf_why (aa_st a) (zl b 3) i) = 0 := h1
    refine zr_put (w' := (mw_W mo m1 m2 m3 m4 m5 m6 m7 m8 m9 cI a (mk_dk x (0 : Int32)))) 0 22 hC iu_X4 tyX4_ok nmX4 rfl dX4_light_8 fl_X4_100 (by decide) rfl rfl rfl rfl (Nat.le_of_ble_eq_true rfl) rfl ?_
    refine zr_aload_n 0 hC dX4_light_11 rfl rfl ?_
    refine zr_get (v := .int (0 : Int32)) 0 22 hC iu_X4 rfl dX4_light_12 fl_X4_100 (by decide) rfl rfl ?_
    refine zr_if_neF (tgt := 28) hC dX4_light_15 (by decide) (by decide) ?_
    refine zr_aload_n 0 hC dX4_light_18 rfl rfl ?_
    refine zr_iload_n 1 hC dX4_light_19 rfl rfl ?_
    refine zr_iconst (v := (3 : Int32)) hC dX4_light_20 rfl ?_
    refine zr_iload_n 2 hC dX4_light_21 rfl rfl ?_
    refine zr_cVi 0 hC cv_X4_at ml_X4_90 (c_X4_at (a := a) (x := (mk_dk x (0 : Int32))) hR hb_b zk_s3 (by assumption)) dX4_light_22 ⟨Nat.le_of_ble_eq_true rfl, Nat.le_of_ble_eq_true rfl⟩ ⟨Nat.le_of_ble_eq_true rfl, Nat.le_of_ble_eq_true rfl⟩ rfl rfl rfl rfl rfl (Nat.le_of_ble_eq_true rfl) ?_
    rintro _ _ ⟨rfl, rfl⟩
    refine zr_if_ne (tgt := 30) hC dX4_light_25 (by decide) (fun c25 => ?_) (fun c25 => ?_)
    · refine zr_aload_n 0 hC dX4_light_30 rfl rfl ?_
      refine zr_aload_n 0 hC dX4_light_31 rfl rfl ?_
      refine zr_iload_n 1 hC dX4_light_32 rfl rfl ?_
      refine zr_iconst (v := (2 : Int32)) hC dX4_light_33 rfl ?_
      refine zr_iload_n 2 hC dX4_light_34 rfl rfl ?_
      refine zr_cVi 0 hC cv_X4_refused ml_X4_87 (c_X4_refused (a := a) (x := (mk_dk x (0 : Int32))) hR i hb_b zk_s2) dX4_light_35 ⟨Nat.le_of_ble_eq_true rfl, Nat.le_of_ble_eq_true rfl⟩ ⟨Nat.le_of_ble_eq_true rfl, Nat.le_of_ble_eq_true rfl⟩ rfl rfl rfl rfl rfl (Nat.le_of_ble_eq_true rfl) ?_
      rintro _ _ (⟨h2, rfl, rfl⟩ | ⟨h2, rfl, rfl⟩)
      · have h2 : (zf_why (aa_st a) (zl b 2) i) = 0 := h2
        refine zr_put (w' := (mw_W mo m1 m2 m3 m4 m5 m6 m7 m8 m9 cI a (mk_dk (mk_dk x (0 : Int32)) (0 : Int32)))) 0 22 hC iu_X4 tyX4_ok nmX4 rfl dX4_light_38 fl_X4_100 (by decide) rfl rfl rfl rfl (Nat.le_of_ble_eq_true rfl) rfl ?_
        refine zr_aload_n 0 hC dX4_light_41 rfl rfl ?_
        refine zr_get (v := .int (0 : Int32)) 0 22 hC iu_X4 rfl dX4_light_42 fl_X4_100 (by decide) rfl rfl ?_
        refine zr_if_eqT (tgt := 50) hC dX4_light_45 (by decide) (by decide) ?_
        refine zr_aload_n 0 hC dX4_light_50 rfl rfl ?_
        refine zr_aload_n 0 hC dX4_light_51 rfl rfl ?_
        refine zr_iload_n 1 hC dX4_light_52 rfl rfl ?_
        refine zr_iconst (v := (1 : Int32)) hC dX4_light_53 rfl ?_
        refine zr_iload_n 2 hC dX4_light_54 rfl rfl ?_
        refine zr_cVi 0 hC cv_X4_refused ml_X4_87 (c_X4_refused (a := a) (x := (mk_dk (mk_dk x (0 : Int32)) (0 : Int32))) hR i hb_b zk_s1) dX4_light_55 ⟨Nat.le_of_ble_eq_true rfl, Nat.le_of_ble_eq_true rfl⟩ ⟨Nat.le_of_ble_eq_true rfl, Nat.le_of_ble_eq_true rfl⟩ rfl rfl rfl rfl rfl (Nat.le_of_ble_eq_true rfl) ?_
        rintro _ _ (⟨h3, rfl, rfl⟩ | ⟨h3, rfl, rfl⟩)
        · have h3 : (zf_why (aa_st a) (zl b 1) i) = 0 := h3
          refine zr_put (w' := (mw_W mo m1 m2 m3 m4 m5 m6 m7 m8 m9 cI a (mk_dk (mk_dk (mk_dk x (0 : Int32)) (0 : Int32)) (0 : Int32)))) 0 22 hC iu_X4 tyX4_ok nmX4 rfl dX4_light_58 fl_X4_100 (by decide) rfl rfl rfl rfl (Nat.le_of_ble_eq_true rfl) rfl ?_
          refine zr_aload_n 0 hC dX4_light_61 rfl rfl ?_
          refine zr_get (v := .int (0 : Int32)) 0 22 hC iu_X4 rfl dX4_light_62 fl_X4_100 (by decide) rfl rfl ?_
          refine zr_if_eqT (tgt := 70) hC dX4_light_65 (by decide) (by decide) ?_
          refine zr_aload_n 0 hC dX4_light_70 rfl rfl ?_
          refine zr_aload_n 0 hC dX4_light_71 rfl rfl ?_
          refine zr_iload_n 1 hC dX4_light_72 rfl rfl ?_
          refine zr_iconst (v := (0 : Int32)) hC dX4_light_73 rfl ?_
          refine zr_iload_n 2 hC dX4_light_74 rfl rfl ?_
          refine zr_cVi 0 hC cv_X4_refused ml_X4_87 (c_X4_refused (a := a) (x := (mk_dk (mk_dk (mk_dk x (0 : Int32)) (0 : Int32)) (0 : Int32))) hR i hb_b zk_s0) dX4_light_75 ⟨Nat.le_of_ble_eq_true rfl, Nat.le_of_ble_eq_true rfl⟩ ⟨Nat.le_of_ble_eq_true rfl, Nat.le_of_ble_eq_true rfl⟩ rfl rfl rfl rfl rfl (Nat.le_of_ble_eq_true rfl) ?_
          rintro _ _ (⟨h4, rfl, rfl⟩ | ⟨h4, rfl, rfl⟩)
          · have h4 : (zf_why (aa_st a) (zl b 0) i) = 0 := h4
            refine zr_put (w' := (mw_W mo m1 m2 m3 m4 m5 m6 m7 m8 m9 cI a (mk_dk (mk_dk (mk_dk (mk_dk x (0 : Int32)) (0 : Int32)) (0 : Int32)) (0 : Int32)))) 0 22 hC iu_X4 tyX4_ok nmX4 rfl dX4_light_78 fl_X4_100 (by decide) rfl rfl rfl rfl (Nat.le_of_ble_eq_true rfl) rfl ?_
            refine zr_aload_n 0 hC dX4_light_81 rfl rfl ?_
            refine zr_get (v := .int (0 : Int32)) 0 22 hC iu_X4 rfl dX4_light_82 fl_X4_100 (by decide) rfl rfl ?_
            refine zr_if_eqT (tgt := 90) hC dX4_light_85 (by decide) (by decide) ?_
            refine zr_aload_n 0 hC dX4_light_90 rfl rfl ?_
            refine zr_iload_n 1 hC dX4_light_91 rfl rfl ?_
            refine zr_iconst (v := (2 : Int32)) hC dX4_light_92 rfl ?_
            refine zr_iload_n 2 hC dX4_light_93 rfl rfl ?_
            refine zr_cVi 0 hC cv_X4_at ml_X4_90 (c_X4_at (a := a) (x := (mk_dk (mk_dk (mk_dk (mk_dk x (0 : Int32)) (0 : Int32)) (0 : Int32)) (0 : Int32))) hR hb_b zk_s2 (by assumption)) dX4_light_94 ⟨Nat.le_of_ble_eq_true rfl, Nat.le_of_ble_eq_true rfl⟩ ⟨Nat.le_of_ble_eq_true rfl, Nat.le_of_ble_eq_true rfl⟩ rfl rfl rfl rfl rfl (Nat.le_of_ble_eq_true rfl) ?_
            rintro _ _ ⟨rfl, rfl⟩
            refine zr_aload_n 0 hC dX4_light_97 rfl rfl ?_
            refine zr_iload_n 1 hC dX4_light_98 rfl rfl ?_
            refine zr_iconst (v := (1 : Int32)) hC dX4_light_99 rfl ?_
            refine zr_iload_n 2 hC dX4_light_100 rfl rfl ?_
            refine zr_cVi 0 hC cv_X4_at ml_X4_90 (c_X4_at (a := a) (x := (mk_dk (mk_dk (mk_dk (mk_dk x (0 : Int32)) (0 : Int32)) (0 : Int32)) (0 : Int32))) hR hb_b zk_s1 (by assumption)) dX4_light_101 ⟨Nat.le_of_ble_eq_true rfl, Nat.le_of_ble_eq_true rfl⟩ ⟨Nat.le_of_ble_eq_true rfl, Nat.le_of_ble_eq_true rfl⟩ rfl rfl rfl rfl rfl (Nat.le_of_ble_eq_true rfl) ?_
            rintro _ _ ⟨rfl, rfl⟩
            refine zr_iadd hC dX4_light_104 ?_
            refine zr_istore_n (lv' := [(3, .int ((zf_val (aa_st a) (zl b 2) i) + (zf_val (aa_st a) (zl b 1) i))), (0, .ref mo), (1, .int b), (2, .int i)]) hC dX4_light_105 rfl (by decide) rfl ?_
            refine zr_aload_n 1 hC dX4_light_106 rfl rfl ?_
            refine zr_iload_n 2 hC dX4_light_107 rfl rfl ?_
            refine zr_iconst (v := (0 : Int32)) hC dX4_light_108 rfl ?_
            refine zr_iload_n 3 hC dX4_light_109 rfl rfl ?_
            refine zr_cVi 0 hC cv_X4_at ml_X4_90 (c_X4_at (a := a) (x := (mk_dk (mk_dk (mk_dk (mk_dk x (0 : Int32)) (0 : Int32)) (0 : Int32)) (0 : Int32))) hR hb_b zk_s0 (by assumption)) dX4_light_110 ⟨Nat.le_of_ble_eq_true rfl, Nat.le_of_ble_eq_true rfl⟩ ⟨Nat.le_of_ble_eq_true rfl, Nat.le_of_ble_eq_true rfl⟩ rfl rfl rfl rfl rfl (Nat.le_of_ble_eq_true rfl) ?_
            rintro _ _ ⟨rfl, rfl⟩
            refine zr_iconst (v := (2 : Int32)) hC dX4_light_113 rfl ?_
            refine zr_irem hC dX4_light_114 (by decide) ?_
            refine zr_iconst (v := (1 : Int32)) hC dX4_light_115 rfl ?_
            refine zr_icmp_ne (tgt := 124) hC dX4_light_116 (by decide) (fun c116 => ?_) (fun c116 => ?_)
            · refine zr_iload_n 0 hC dX4_light_124 rfl rfl ?_
              refine zr_iret hC hr hk dX4_light_125 (by decide) (by decide) ⟨_, rfl, ?_⟩
              obtain ⟨-, -, -, -, -, -, -, -, -, -, -, hzk⟩ := rm_why0 hR (zl_lt hb_b zk_s0) h4
              have ht : zf_val (aa_st a) (zl b 0) i - zf_val (aa_st a) (zl b 0) i / 2 * 2 = 0 := (zk_odd hzk (zl_mod hb_b zk_s0)).resolve_right c116
              have e0 : (zf_show a b i) = (0, ((zf_val (aa_st a) (zl b 2) i) + (zf_val (aa_st a) (zl b 1) i)), a) := by simp [zf_show, h1, c25, h2, h3, h4, ht]
              exact ⟨by rw [e0], by rw [e0]; first | done | rfl⟩
            · refine zr_iload_n 0 hC dX4_light_119 rfl rfl ?_
              refine zr_ineg hC dX4_light_120 ?_
              refine zr_goto (tgt := 125) hC dX4_light_121 (by decide) ?_
              refine zr_iret hC hr hk dX4_light_125 (by decide) (by decide) ⟨_, rfl, ?_⟩
              obtain ⟨-, -, -, -, -, -, -, -, -, -, -, hzk⟩ := rm_why0 hR (zl_lt hb_b zk_s0) h4
              have ht : ¬ zf_val (aa_st a) (zl b 0) i - zf_val (aa_st a) (zl b 0) i / 2 * 2 = 0 := fun h => by rw [c116] at h; exact absurd h (by decide)
              have e0 : (zf_show a b i) = (0, (0 - ((zf_val (aa_st a) (zl b 2) i) + (zf_val (aa_st a) (zl b 1) i))), a) := by simp [zf_show, h1, c25, h2, h3, h4, ht]
              exact ⟨by rw [e0], by rw [e0]; first | done | rfl⟩
          · have h4 : ¬ (zf_why (aa_st a) (zl b 0) i) = 0 := h4
            refine zr_put (w' := (mw_W mo m1 m2 m3 m4 m5 m6 m7 m8 m9 cI (zf_cnt (zf_why (aa_st a) (zl b 0) i) a) (mk_dk (mk_dk (mk_dk (mk_dk x (0 : Int32)) (0 : Int32)) (0 : Int32)) (zf_why (aa_st a) (zl b 0) i)))) 0 22 hC iu_X4 tyX4_ok nmX4 rfl dX4_light_78 fl_X4_100 (by decide) rfl rfl rfl rfl (Nat.le_of_ble_eq_true rfl) rfl ?_
            refine zr_aload_n 0 hC dX4_light_81 rfl rfl ?_
            refine zr_get (v := .int (zf_why (aa_st a) (zl b 0) i)) 0 22 hC iu_X4 rfl dX4_light_82 fl_X4_100 (by decide) rfl rfl ?_
            refine zr_if_eqF (tgt := 90) hC dX4_light_85 (by decide) h4 ?_
            refine zr_iconst (v := (0 : Int32)) hC dX4_light_88 rfl ?_
            refine zr_iret hC hr hk dX4_light_89 (by decide) (by decide) ⟨_, rfl, ?_⟩
            have e0 : (zf_show a b i) = ((zf_why (aa_st a) (zl b 0) i), (0 : Int32), (zf_cnt (zf_why (aa_st a) (zl b 0) i) a)) := by simp [zf_show, h1, c25, h2, h3, h4]
            exact ⟨by rw [e0], by rw [e0]; first | done | rfl⟩
        · have h3 : ¬ (zf_why (aa_st a) (zl b 1) i) = 0 := h3
          refine zr_put (w' := (mw_W mo m1 m2 m3 m4 m5 m6 m7 m8 m9 cI (zf_cnt (zf_why (aa_st a) (zl b 1) i) a) (mk_dk (mk_dk (mk_dk x (0 : Int32)) (0 : Int32)) (zf_why (aa_st a) (zl b 1) i)))) 0 22 hC iu_X4 tyX4_ok nmX4 rfl dX4_light_58 fl_X4_100 (by decide) rfl rfl rfl rfl (Nat.le_of_ble_eq_true rfl) rfl ?_
          refine zr_aload_n 0 hC dX4_light_61 rfl rfl ?_
          refine zr_get (v := .int (zf_why (aa_st a) (zl b 1) i)) 0 22 hC iu_X4 rfl dX4_light_62 fl_X4_100 (by decide) rfl rfl ?_
          refine zr_if_eqF (tgt := 70) hC dX4_light_65 (by decide) h3 ?_
          refine zr_iconst (v := (0 : Int32)) hC dX4_light_68 rfl ?_
          refine zr_iret hC hr hk dX4_light_69 (by decide) (by decide) ⟨_, rfl, ?_⟩
          have e0 : (zf_show a b i) = ((zf_why (aa_st a) (zl b 1) i), (0 : Int32), (zf_cnt (zf_why (aa_st a) (zl b 1) i) a)) := by simp [zf_show, h1, c25, h2, h3]
          exact ⟨by rw [e0], by rw [e0]; first | done | rfl⟩
      · have h2 : ¬ (zf_why (aa_st a) (zl b 2) i) = 0 := h2
        refine zr_put (w' := (mw_W mo m1 m2 m3 m4 m5 m6 m7 m8 m9 cI (zf_cnt (zf_why (aa_st a) (zl b 2) i) a) (mk_dk (mk_dk x (0 : Int32)) (zf_why (aa_st a) (zl b 2) i)))) 0 22 hC iu_X4 tyX4_ok nmX4 rfl dX4_light_38 fl_X4_100 (by decide) rfl rfl rfl rfl (Nat.le_of_ble_eq_true rfl) rfl ?_
        refine zr_aload_n 0 hC dX4_light_41 rfl rfl ?_
        refine zr_get (v := .int (zf_why (aa_st a) (zl b 2) i)) 0 22 hC iu_X4 rfl dX4_light_42 fl_X4_100 (by decide) rfl rfl ?_
        refine zr_if_eqF (tgt := 50) hC dX4_light_45 (by decide) h2 ?_
        refine zr_iconst (v := (0 : Int32)) hC dX4_light_48 rfl ?_
        refine zr_iret hC hr hk dX4_light_49 (by decide) (by decide) ⟨_, rfl, ?_⟩
        have e0 : (zf_show a b i) = ((zf_why (aa_st a) (zl b 2) i), (0 : Int32), (zf_cnt (zf_why (aa_st a) (zl b 2) i) a)) := by simp [zf_show, h1, c25, h2]
        exact ⟨by rw [e0], by rw [e0]; first | done | rfl⟩
    · refine zr_iconst (v := (0 : Int32)) hC dX4_light_28 rfl ?_
      refine zr_iret hC hr hk dX4_light_29 (by decide) (by decide) ⟨_, rfl, ?_⟩
      have e0 : (zf_show a b i) = ((0 : Int32), (0 : Int32), a) := by simp [zf_show, h1, c25]
      exact ⟨by rw [e0], by rw [e0]; first | done | rfl⟩
  · have h1 : ¬ (zf_why (aa_st a) (zl b 3) i) = 0 := h1
    refine zr_put (w' := (mw_W mo m1 m2 m3 m4 m5 m6 m7 m8 m9 cI (zf_cnt (zf_why (aa_st a) (zl b 3) i) a) (mk_dk x (zf_why (aa_st a) (zl b 3) i)))) 0 22 hC iu_X4 tyX4_ok nmX4 rfl dX4_light_8 fl_X4_100 (by decide) rfl rfl rfl rfl (Nat.le_of_ble_eq_true rfl) rfl ?_
    refine zr_aload_n 0 hC dX4_light_11 rfl rfl ?_
    refine zr_get (v := .int (zf_why (aa_st a) (zl b 3) i)) 0 22 hC iu_X4 rfl dX4_light_12 fl_X4_100 (by decide) rfl rfl ?_
    refine zr_if_neT (tgt := 28) hC dX4_light_15 (by decide) h1 ?_
    refine zr_iconst (v := (0 : Int32)) hC dX4_light_28 rfl ?_
    refine zr_iret hC hr hk dX4_light_29 (by decide) (by decide) ⟨_, rfl, ?_⟩
    have e0 : (zf_show a b i) = ((zf_why (aa_st a) (zl b 3) i), (0 : Int32), (zf_cnt (zf_why (aa_st a) (zl b 3) i) a)) := by simp [zf_show, h1]
    exact ⟨by rw [e0], by rw [e0]; first | done | rfl⟩
set_option maxRecDepth 100000 in
set_option maxHeartbeats 4000000 in
theorem c_X4_get (hR : rm_R a x) (b s0 i : Int32) : zz_Mi l D (zt cI cII cF) yX4_get cX4_get 4 (some .int) 3 69 0 0 [.ref mo, .int b, .int s0, .int i] (mw_W mo m1 m2 m3 m4 m5 m6 m7 m8 m9 cI a x) (fun r w' => zp_m mo m1 m2 m3 m4 m5 m6 m7 m8 m9 cI (zo_get a b s0 i) r w') := by
  refine zz_mk (by decide) (Nat.le_of_ble_eq_true rfl) ?_
  intro p e s m below meth c A hC hr hk hnm
  have hC : zz_C p s m _ c A D (zt cI cII cF) 4 cX4_get RX4 := hC
  refine zr_aload_n 0 hC dX4_get_0 rfl rfl ?_
  refine zr_iload_n 1 hC dX4_get_1 rfl rfl ?_
  refine zr_cSi hC cs_X4_isBank ml_X4_73 (c_X4_isBank (w := (mw_W mo m1 m2 m3 m4 m5 m6 m7 m8 m9 cI a x)) b) dX4_get_2 ⟨Nat.le_of_ble_eq_true rfl, Nat.le_of_ble_eq_true rfl⟩ ⟨Nat.le_of_ble_eq_true rfl, Nat.le_of_ble_eq_true rfl⟩ rfl rfl (Nat.le_of_ble_eq_true rfl) ?_
  rintro _ _ ⟨rfl, ⟨rfl, hb_b⟩ | ⟨rfl, hb_b⟩⟩
  · refine zr_if_eqF (tgt := 19) hC dX4_get_5 (by decide) (by decide) ?_
    refine zr_iload_n 2 hC dX4_get_8 rfl rfl ?_
    refine zr_cSi hC cs_X4_isStrip ml_X4_77 (c_X4_isStrip (w := (mw_W mo m1 m2 m3 m4 m5 m6 m7 m8 m9 cI a x)) s0) dX4_get_9 ⟨Nat.le_of_ble_eq_true rfl, Nat.le_of_ble_eq_true rfl⟩ ⟨Nat.le_of_ble_eq_true rfl, Nat.le_of_ble_eq_true rfl⟩ rfl rfl (Nat.le_of_ble_eq_true rfl) ?_
    rintro _ _ ⟨rfl, ⟨rfl, hs_s0⟩ | ⟨rfl, hs_s0⟩⟩
    · refine zr_if_eqF (tgt := 19) hC dX4_get_12 (by decide) (by decide) ?_
      refine zr_iconst (v := (1 : Int32)) hC dX4_get_15 rfl ?_
      refine zr_goto (tgt := 20) hC dX4_get_16 (by decide) ?_
      refine zr_cVi 0 hC cv_X4_begins ml_X4_80 (c_X4_begins1 (a := a) (x := x)) dX4_get_20 ⟨Nat.le_of_ble_eq_true rfl, Nat.le_of_ble_eq_true rfl⟩ ⟨Nat.le_of_ble_eq_true rfl, Nat.le_of_ble_eq_true rfl⟩ rfl rfl rfl rfl rfl (Nat.le_of_ble_eq_true rfl) ?_
      rintro _ _ ⟨rfl, rfl⟩
      refine zr_if_neT (tgt := 28) hC dX4_get_23 (by decide) (by decide) ?_
      refine zr_aload_n 0 hC dX4_get_28 rfl rfl ?_
      refine zr_aload_n 0 hC dX4_get_29 rfl rfl ?_
      refine zr_iload_n 1 hC dX4_get_30 rfl rfl ?_
      refine zr_iload_n 2 hC dX4_get_31 rfl rfl ?_
      refine zr_iload_n 3 hC dX4_get_32 rfl rfl ?_
      refine zr_cVi 0 hC cv_X4_refused ml_X4_87 (c_X4_refused (a := (as_sta a 0)) (x := x) hR.1 i hb_b hs_s0) dX4_get_33 ⟨Nat.le_of_ble_eq_true rfl, Nat.le_of_ble_eq_true rfl⟩ ⟨Nat.le_of_ble_eq_true rfl, Nat.le_of_ble_eq_true rfl⟩ rfl rfl rfl rfl rfl (Nat.le_of_ble_eq_true rfl) ?_
      rintro _ _ (⟨h1, rfl, rfl⟩ | ⟨h1, rfl, rfl⟩)
      · have h1 : (zf_why (aa_st a) (zl b s0) i) = 0 := h1
        refine zr_put (w' := (mw_W mo m1 m2 m3 m4 m5 m6 m7 m8 m9 cI (as_sta (as_sta a 0) (0 : Int32)) x)) 0 13 hC iu_X4 tyX4_ok nmX4 rfl dX4_get_36 fl_X4_41 (by decide) rfl rfl rfl rfl (Nat.le_of_ble_eq_true rfl) rfl ?_
        refine zr_aload_n 0 hC dX4_get_39 rfl rfl ?_
        refine zr_get (v := .int (0 : Int32)) 0 13 hC iu_X4 rfl dX4_get_40 fl_X4_41 (by decide) rfl rfl ?_
        refine zr_if_neF (tgt := 56) hC dX4_get_43 (by decide) (by decide) ?_
        refine zr_aload_n 0 hC dX4_get_46 rfl rfl ?_
        refine zr_iload_n 1 hC dX4_get_47 rfl rfl ?_
        refine zr_iload_n 2 hC dX4_get_48 rfl rfl ?_
        refine zr_iload_n 3 hC dX4_get_49 rfl rfl ?_
        refine zr_cVi 0 hC cv_X4_at ml_X4_90 (c_X4_at (a := (as_sta (as_sta a 0) (0 : Int32))) (x := x) hR.1 hb_b hs_s0 (by assumption)) dX4_get_50 ⟨Nat.le_of_ble_eq_true rfl, Nat.le_of_ble_eq_true rfl⟩ ⟨Nat.le_of_ble_eq_true rfl, Nat.le_of_ble_eq_true rfl⟩ rfl rfl rfl rfl rfl (Nat.le_of_ble_eq_true rfl) ?_
        rintro _ _ ⟨rfl, rfl⟩
        refine zr_goto (tgt := 57) hC dX4_get_53 (by decide) ?_
        refine zr_iret hC hr hk dX4_get_57 (by decide) (by decide) ⟨_, rfl, ?_⟩
        exact zq_mk (by unfold zo_get; rw [if_pos ⟨hb_b, hs_s0⟩]; first | done | rfl | simp [h1]) hR
      · have h1 : ¬ (zf_why (aa_st a) (zl b s0) i) = 0 := h1
        refine zr_put (w' := (mw_W mo m1 m2 m3 m4 m5 m6 m7 m8 m9 cI (as_sta (zf_cnt (zf_why (aa_st a) (zl b s0) i) (as_sta a 0)) (zf_why (aa_st a) (zl b s0) i)) x)) 0 13 hC iu_X4 tyX4_ok nmX4 rfl dX4_get_36 fl_X4_41 (by decide) rfl rfl rfl rfl (Nat.le_of_ble_eq_true rfl) rfl ?_
        refine zr_aload_n 0 hC dX4_get_39 rfl rfl ?_
        refine zr_get (v := .int (zf_why (aa_st a) (zl b s0) i)) 0 13 hC iu_X4 rfl dX4_get_40 fl_X4_41 (by decide) rfl rfl ?_
        refine zr_if_neT (tgt := 56) hC dX4_get_43 (by decide) h1 ?_
        refine zr_iconst (v := (0 : Int32)) hC dX4_get_56 rfl ?_
        refine zr_iret hC hr hk dX4_get_57 (by decide) (by decide) ⟨_, rfl, ?_⟩
        exact zq_mk (by unfold zo_get; rw [if_pos ⟨hb_b, hs_s0⟩]; first | done | rfl | simp [h1]) hR
    · refine zr_if_eqT (tgt := 19) hC dX4_get_12 (by decide) (by decide) ?_
      refine zr_iconst (v := (0 : Int32)) hC dX4_get_19 rfl ?_
      refine zr_cVi 0 hC cv_X4_begins ml_X4_80 (c_X4_begins0 (a := a) (x := x)) dX4_get_20 ⟨Nat.le_of_ble_eq_true rfl, Nat.le_of_ble_eq_true rfl⟩ ⟨Nat.le_of_ble_eq_true rfl, Nat.le_of_ble_eq_true rfl⟩ rfl rfl rfl rfl rfl (Nat.le_of_ble_eq_true rfl) ?_
      rintro _ _ ⟨rfl, rfl⟩
      refine zr_if_neF (tgt := 28) hC dX4_get_23 (by decide) (by decide) ?_
      refine zr_iconst (v := (0 : Int32)) hC dX4_get_26 rfl ?_
      refine zr_iret hC hr hk dX4_get_27 (by decide) (by decide) ⟨_, rfl, ?_⟩
      exact zq_mk (if_neg (fun h => absurd h.2 hs_s0)) hR
  · refine zr_if_eqT (tgt := 19) hC dX4_get_5 (by decide) (by decide) ?_
    refine zr_iconst (v := (0 : Int32)) hC dX4_get_19 rfl ?_
    refine zr_cVi 0 hC cv_X4_begins ml_X4_80 (c_X4_begins0 (a := a) (x := x)) dX4_get_20 ⟨Nat.le_of_ble_eq_true rfl, Nat.le_of_ble_eq_true rfl⟩ ⟨Nat.le_of_ble_eq_true rfl, Nat.le_of_ble_eq_true rfl⟩ rfl rfl rfl rfl rfl (Nat.le_of_ble_eq_true rfl) ?_
    rintro _ _ ⟨rfl, rfl⟩
    refine zr_if_neF (tgt := 28) hC dX4_get_23 (by decide) (by decide) ?_
    refine zr_iconst (v := (0 : Int32)) hC dX4_get_26 rfl ?_
    refine zr_iret hC hr hk dX4_get_27 (by decide) (by decide) ⟨_, rfl, ?_⟩
    exact zq_mk (if_neg (fun h => absurd h.1 hb_b)) hR
set_option maxRecDepth 100000 in
set_option maxHeartbeats 4000000 in
theorem c_X4_set (hR : rm_R a x) (b s0 i v : Int32) : zz_Mi l D (zt cI cII cF) yX4_set cX4_set 6 (some .int) 3 69 0 0 [.ref mo, .int b, .int s0, .int i, .int v] (mw_W mo m1 m2 m3 m4 m5 m6 m7 m8 m9 cI a x) (fun r w' => zp_m mo m1 m2 m3 m4 m5 m6 m7 m8 m9 cI (zo_set a b s0 i v) r w') := by
  refine zz_mk (by decide) (Nat.le_of_ble_eq_true rfl) ?_
  intro p e s m below meth c A hC hr hk hnm
  have hC : zz_C p s m _ c A D (zt cI cII cF) 6 cX4_set RX4 := hC
  refine zr_aload_n 0 hC dX4_set_0 rfl rfl ?_
  refine zr_iload_n 1 hC dX4_set_1 rfl rfl ?_
  refine zr_cSi hC cs_X4_isBank ml_X4_73 (c_X4_isBank (w := (mw_W mo m1 m2 m3 m4 m5 m6 m7 m8 m9 cI a x)) b) dX4_set_2 ⟨Nat.le_of_ble_eq_true rfl, Nat.le_of_ble_eq_true rfl⟩ ⟨Nat.le_of_ble_eq_true rfl, Nat.le_of_ble_eq_true rfl⟩ rfl rfl (Nat.le_of_ble_eq_true rfl) ?_
  rintro _ _ ⟨rfl, ⟨rfl, hb_b⟩ | ⟨rfl, hb_b⟩⟩
  · refine zr_if_eqF (tgt := 19) hC dX4_set_5 (by decide) (by decide) ?_
    refine zr_iload_n 2 hC dX4_set_8 rfl rfl ?_
    refine zr_cSi hC cs_X4_isStrip ml_X4_77 (c_X4_isStrip (w := (mw_W mo m1 m2 m3 m4 m5 m6 m7 m8 m9 cI a x)) s0) dX4_set_9 ⟨Nat.le_of_ble_eq_true rfl, Nat.le_of_ble_eq_true rfl⟩ ⟨Nat.le_of_ble_eq_true rfl, Nat.le_of_ble_eq_true rfl⟩ rfl rfl (Nat.le_of_ble_eq_true rfl) ?_
    rintro _ _ ⟨rfl, ⟨rfl, hs_s0⟩ | ⟨rfl, hs_s0⟩⟩
    · refine zr_if_eqF (tgt := 19) hC dX4_set_12 (by decide) (by decide) ?_
      refine zr_iconst (v := (1 : Int32)) hC dX4_set_15 rfl ?_
      refine zr_goto (tgt := 20) hC dX4_set_16 (by decide) ?_
      refine zr_cVi 0 hC cv_X4_begins ml_X4_80 (c_X4_begins1 (a := a) (x := x)) dX4_set_20 ⟨Nat.le_of_ble_eq_true rfl, Nat.le_of_ble_eq_true rfl⟩ ⟨Nat.le_of_ble_eq_true rfl, Nat.le_of_ble_eq_true rfl⟩ rfl rfl rfl rfl rfl (Nat.le_of_ble_eq_true rfl) ?_
      rintro _ _ ⟨rfl, rfl⟩
      refine zr_if_neT (tgt := 28) hC dX4_set_23 (by decide) (by decide) ?_
      refine zr_aload_n 0 hC dX4_set_28 rfl rfl ?_
      refine zr_aload_n 0 hC dX4_set_29 rfl rfl ?_
      refine zr_iload_n 1 hC dX4_set_30 rfl rfl ?_
      refine zr_iload_n 2 hC dX4_set_31 rfl rfl ?_
      refine zr_iload_n 3 hC dX4_set_32 rfl rfl ?_
      refine zr_cVi 0 hC cv_X4_refused ml_X4_87 (c_X4_refused (a := (as_sta a 0)) (x := x) hR.1 i hb_b hs_s0) dX4_set_33 ⟨Nat.le_of_ble_eq_true rfl, Nat.le_of_ble_eq_true rfl⟩ ⟨Nat.le_of_ble_eq_true rfl, Nat.le_of_ble_eq_true rfl⟩ rfl rfl rfl rfl rfl (Nat.le_of_ble_eq_true rfl) ?_
      rintro _ _ (⟨h1, rfl, rfl⟩ | ⟨h1, rfl, rfl⟩)
      · have h1 : (zf_why (aa_st a) (zl b s0) i) = 0 := h1
        refine zr_put (w' := (mw_W mo m1 m2 m3 m4 m5 m6 m7 m8 m9 cI (as_sta (as_sta a 0) (0 : Int32)) x)) 0 13 hC iu_X4 tyX4_ok nmX4 rfl dX4_set_36 fl_X4_41 (by decide) rfl rfl rfl rfl (Nat.le_of_ble_eq_true rfl) rfl ?_
        refine zr_aload_n 0 hC dX4_set_39 rfl rfl ?_
        refine zr_get (v := .int (0 : Int32)) 0 13 hC iu_X4 rfl dX4_set_40 fl_X4_41 (by decide) rfl rfl ?_
        refine zr_if_eqT (tgt := 48) hC dX4_set_43 (by decide) (by decide) ?_
        refine zr_aload_n 0 hC dX4_set_48 rfl rfl ?_
        refine zr_iload_n 1 hC dX4_set_49 rfl rfl ?_
        refine zr_iload_n 2 hC dX4_set_50 rfl rfl ?_
        refine zr_iload_n 3 hC dX4_set_51 rfl rfl ?_
        refine zr_cVi 0 hC cv_X4_at ml_X4_90 (c_X4_at (a := (as_sta (as_sta a 0) (0 : Int32))) (x := x) hR.1 hb_b hs_s0 (by assumption)) dX4_set_52 ⟨Nat.le_of_ble_eq_true rfl, Nat.le_of_ble_eq_true rfl⟩ ⟨Nat.le_of_ble_eq_true rfl, Nat.le_of_ble_eq_true rfl⟩ rfl rfl rfl rfl rfl (Nat.le_of_ble_eq_true rfl) ?_
        rintro _ _ ⟨rfl, rfl⟩
        refine zr_istore (lv' := [(5, .int (zf_val (aa_st a) (zl b s0) i)), (0, .ref mo), (1, .int b), (2, .int s0), (3, .int i), (4, .int v)]) hC dX4_set_55 (by decide) rfl ?_
        refine zr_aload_n 1 hC dX4_set_57 rfl rfl ?_
        refine zr_iload_n 2 hC dX4_set_58 rfl rfl ?_
        refine zr_iload_n 3 hC dX4_set_59 rfl rfl ?_
        refine zr_iload_n 4 hC dX4_set_60 rfl rfl ?_
        refine zr_iload 5 hC dX4_set_61 rfl ?_
        refine zr_cVv 0 hC cv_X4_put ml_X4_93 (c_X4_put (a := (as_sta (as_sta a 0) (0 : Int32))) (x := x) hR.1 v hb_b hs_s0 (by assumption)) dX4_set_63 ⟨Nat.le_of_ble_eq_true rfl, Nat.le_of_ble_eq_true rfl⟩ ⟨Nat.le_of_ble_eq_true rfl, Nat.le_of_ble_eq_true rfl⟩ rfl rfl rfl rfl rfl (Nat.le_of_ble_eq_true rfl) ?_
        rintro _ ⟨p2, rfl, hQp2⟩
        refine zr_iload 0 hC dX4_set_66 rfl ?_
        refine zr_iret hC hr hk dX4_set_68 (by decide) (by decide) ⟨_, rfl, ?_⟩
        exact zq_mk (by unfold zo_set; rw [if_pos ⟨hb_b, hs_s0⟩]; first | done | rfl | simp [h1]) ⟨hQp2, hR.2⟩
      · have h1 : ¬ (zf_why (aa_st a) (zl b s0) i) = 0 := h1
        refine zr_put (w' := (mw_W mo m1 m2 m3 m4 m5 m6 m7 m8 m9 cI (as_sta (zf_cnt (zf_why (aa_st a) (zl b s0) i) (as_sta a 0)) (zf_why (aa_st a) (zl b s0) i)) x)) 0 13 hC iu_X4 tyX4_ok nmX4 rfl dX4_set_36 fl_X4_41 (by decide) rfl rfl rfl rfl (Nat.le_of_ble_eq_true rfl) rfl ?_
        refine zr_aload_n 0 hC dX4_set_39 rfl rfl ?_
        refine zr_get (v := .int (zf_why (aa_st a) (zl b s0) i)) 0 13 hC iu_X4 rfl dX4_set_40 fl_X4_41 (by decide) rfl rfl ?_
        refine zr_if_eqF (tgt := 48) hC dX4_set_43 (by decide) h1 ?_
        refine zr_iconst (v := (0 : Int32)) hC dX4_set_46 rfl ?_
        refine zr_iret hC hr hk dX4_set_47 (by decide) (by decide) ⟨_, rfl, ?_⟩
        exact zq_mk (by unfold zo_set; rw [if_pos ⟨hb_b, hs_s0⟩]; first | done | rfl | simp [h1]) hR
    · refine zr_if_eqT (tgt := 19) hC dX4_set_12 (by decide) (by decide) ?_
      refine zr_iconst (v := (0 : Int32)) hC dX4_set_19 rfl ?_
      refine zr_cVi 0 hC cv_X4_begins ml_X4_80 (c_X4_begins0 (a := a) (x := x)) dX4_set_20 ⟨Nat.le_of_ble_eq_true rfl, Nat.le_of_ble_eq_true rfl⟩ ⟨Nat.le_of_ble_eq_true rfl, Nat.le_of_ble_eq_true rfl⟩ rfl rfl rfl rfl rfl (Nat.le_of_ble_eq_true rfl) ?_
      rintro _ _ ⟨rfl, rfl⟩
      refine zr_if_neF (tgt := 28) hC dX4_set_23 (by decide) (by decide) ?_
      refine zr_iconst (v := (0 : Int32)) hC dX4_set_26 rfl ?_
      refine zr_iret hC hr hk dX4_set_27 (by decide) (by decide) ⟨_, rfl, ?_⟩
      exact zq_mk (if_neg (fun h => absurd h.2 hs_s0)) hR
  · refine zr_if_eqT (tgt := 19) hC dX4_set_5 (by decide) (by decide) ?_
    refine zr_iconst (v := (0 : Int32)) hC dX4_set_19 rfl ?_
    refine zr_cVi 0 hC cv_X4_begins ml_X4_80 (c_X4_begins0 (a := a) (x := x)) dX4_set_20 ⟨Nat.le_of_ble_eq_true rfl, Nat.le_of_ble_eq_true rfl⟩ ⟨Nat.le_of_ble_eq_true rfl, Nat.le_of_ble_eq_true rfl⟩ rfl rfl rfl rfl rfl (Nat.le_of_ble_eq_true rfl) ?_
    rintro _ _ ⟨rfl, rfl⟩
    refine zr_if_neF (tgt := 28) hC dX4_set_23 (by decide) (by decide) ?_
    refine zr_iconst (v := (0 : Int32)) hC dX4_set_26 rfl ?_
    refine zr_iret hC hr hk dX4_set_27 (by decide) (by decide) ⟨_, rfl, ?_⟩
    exact zq_mk (if_neg (fun h => absurd h.1 hb_b)) hR
set_option maxRecDepth 100000 in
set_option maxHeartbeats 4000000 in
theorem c_X4_size (hR : rm_R a x) (b s0 : Int32) : zz_Mi l D (zt cI cII cF) yX4_size cX4_size 4 (some .int) 2 42 0 0 [.ref mo, .int b, .int s0] (mw_W mo m1 m2 m3 m4 m5 m6 m7 m8 m9 cI a x) (fun r w' => zp_m mo m1 m2 m3 m4 m5 m6 m7 m8 m9 cI (zo_size a b s0) r w') := by
  refine zz_mk (by decide) (Nat.le_of_ble_eq_true rfl) ?_
  intro p e s m below meth c A hC hr hk hnm
  have hC : zz_C p s m _ c A D (zt cI cII cF) 4 cX4_size RX4 := hC
  refine zr_aload_n 0 hC dX4_size_0 rfl rfl ?_
  refine zr_iload_n 1 hC dX4_size_1 rfl rfl ?_
  refine zr_cSi hC cs_X4_isBank ml_X4_73 (c_X4_isBank (w := (mw_W mo m1 m2 m3 m4 m5 m6 m7 m8 m9 cI a x)) b) dX4_size_2 ⟨Nat.le_of_ble_eq_true rfl, Nat.le_of_ble_eq_true rfl⟩ ⟨Nat.le_of_ble_eq_true rfl, Nat.le_of_ble_eq_true rfl⟩ rfl rfl (Nat.le_of_ble_eq_true rfl) ?_
  rintro _ _ ⟨rfl, ⟨rfl, hb_b⟩ | ⟨rfl, hb_b⟩⟩
  · refine zr_if_eqF (tgt := 19) hC dX4_size_5 (by decide) (by decide) ?_
    refine zr_iload_n 2 hC dX4_size_8 rfl rfl ?_
    refine zr_cSi hC cs_X4_isStrip ml_X4_77 (c_X4_isStrip (w := (mw_W mo m1 m2 m3 m4 m5 m6 m7 m8 m9 cI a x)) s0) dX4_size_9 ⟨Nat.le_of_ble_eq_true rfl, Nat.le_of_ble_eq_true rfl⟩ ⟨Nat.le_of_ble_eq_true rfl, Nat.le_of_ble_eq_true rfl⟩ rfl rfl (Nat.le_of_ble_eq_true rfl) ?_
    rintro _ _ ⟨rfl, ⟨rfl, hs_s0⟩ | ⟨rfl, hs_s0⟩⟩
    · refine zr_if_eqF (tgt := 19) hC dX4_size_12 (by decide) (by decide) ?_
      refine zr_iconst (v := (1 : Int32)) hC dX4_size_15 rfl ?_
      refine zr_goto (tgt := 20) hC dX4_size_16 (by decide) ?_
      refine zr_cVi 0 hC cv_X4_begins ml_X4_80 (c_X4_begins1 (a := a) (x := x)) dX4_size_20 ⟨Nat.le_of_ble_eq_true rfl, Nat.le_of_ble_eq_true rfl⟩ ⟨Nat.le_of_ble_eq_true rfl, Nat.le_of_ble_eq_true rfl⟩ rfl rfl rfl rfl rfl (Nat.le_of_ble_eq_true rfl) ?_
      rintro _ _ ⟨rfl, rfl⟩
      refine zr_if_neT (tgt := 28) hC dX4_size_23 (by decide) (by decide) ?_
      refine zr_aload_n 0 hC dX4_size_28 rfl rfl ?_
      refine zr_get (v := .ref m1) 0 0 hC iu_X4 rfl dX4_size_29 fl_X4_7 (by decide) rfl rfl ?_
      refine zr_iconst (v := (4 : Int32)) hC dX4_size_32 rfl ?_
      refine zr_iload_n 1 hC dX4_size_33 rfl rfl ?_
      refine zr_imul hC dX4_size_34 ?_
      refine zr_iload_n 2 hC dX4_size_35 rfl rfl ?_
      refine zr_iadd hC dX4_size_36 ?_
      refine zr_iaj (f := (mx_sp x)) (j := zl b s0) 1 0 hC dX4_size_37 rfl rfl (zl_lt hb_b hs_s0) (zl_m hb_b hs_s0) (by decide) ?_
      refine zr_istore_n (lv' := [(3, .int ((mx_sp x) (zl b s0))), (0, .ref mo), (1, .int b), (2, .int s0)]) hC dX4_size_38 rfl (by decide) rfl ?_
      refine zr_iload_n 0 hC dX4_size_39 rfl rfl ?_
      refine zr_iconst (v := (-1 : Int32)) hC dX4_size_40 rfl ?_
      refine zr_icmp_ne (tgt := 55) hC dX4_size_41 (by decide) (fun c41 => ?_) (fun c41 => ?_)
      · obtain ⟨z, n, hz, hsz, hn, hln, hlen, -⟩ := rm_some hR.1 (zl_lt hb_b hs_s0) c41
        refine zr_aload_n 1 hC dX4_size_55 rfl rfl ?_
        refine zr_get (v := .ref m2) 0 1 hC iu_X4 rfl dX4_size_56 fl_X4_13 (by decide) rfl rfl ?_
        refine zr_iload_n 0 hC dX4_size_59 rfl rfl ?_
        refine zr_iaj (f := (mx_ln x)) (j := z) 2 0 hC dX4_size_60 rfl rfl hz hsz (by decide) ?_
        refine zr_iret hC hr hk dX4_size_61 (by decide) (by decide) ⟨_, rfl, ?_⟩
        exact zq_mk (by unfold zo_size; rw [if_pos ⟨hb_b, hs_s0⟩, if_neg (by rw [hlen]; exact fun h => by cases h)]; unfold zf_len; rw [hlen, hln]) hR
      · refine zr_aload_n 1 hC dX4_size_44 rfl rfl ?_
        refine zr_aload_n 1 hC dX4_size_45 rfl rfl ?_
        refine zr_iconst (v := (2 : Int32)) hC dX4_size_46 rfl ?_
        refine zr_cVi 0 hC cv_X4_counted ml_X4_57 (c_X4_counted (a := (as_sta a 0)) (x := x) (2 : Int32) (by decide)) dX4_size_47 ⟨Nat.le_of_ble_eq_true rfl, Nat.le_of_ble_eq_true rfl⟩ ⟨Nat.le_of_ble_eq_true rfl, Nat.le_of_ble_eq_true rfl⟩ rfl rfl rfl rfl rfl (Nat.le_of_ble_eq_true rfl) ?_
        rintro rr _ ⟨hrr, rfl⟩
        subst rr
        refine zr_put (w' := (mw_W mo m1 m2 m3 m4 m5 m6 m7 m8 m9 cI (as_sta (zf_cnt (2 : Int32) (as_sta a 0)) (2 : Int32)) x)) 0 13 hC iu_X4 tyX4_ok nmX4 rfl dX4_size_50 fl_X4_41 (by decide) rfl rfl rfl rfl (Nat.le_of_ble_eq_true rfl) rfl ?_
        refine zr_iconst (v := (0 : Int32)) hC dX4_size_53 rfl ?_
        refine zr_iret hC hr hk dX4_size_54 (by decide) (by decide) ⟨_, rfl, ?_⟩
        exact zq_mk (by unfold zo_size; rw [if_pos ⟨hb_b, hs_s0⟩, if_pos (rm_none hR.1 (zl_lt hb_b hs_s0) c41)]) hR
    · refine zr_if_eqT (tgt := 19) hC dX4_size_12 (by decide) (by decide) ?_
      refine zr_iconst (v := (0 : Int32)) hC dX4_size_19 rfl ?_
      refine zr_cVi 0 hC cv_X4_begins ml_X4_80 (c_X4_begins0 (a := a) (x := x)) dX4_size_20 ⟨Nat.le_of_ble_eq_true rfl, Nat.le_of_ble_eq_true rfl⟩ ⟨Nat.le_of_ble_eq_true rfl, Nat.le_of_ble_eq_true rfl⟩ rfl rfl rfl rfl rfl (Nat.le_of_ble_eq_true rfl) ?_
      rintro _ _ ⟨rfl, rfl⟩
      refine zr_if_neF (tgt := 28) hC dX4_size_23 (by decide) (by decide) ?_
      refine zr_iconst (v := (0 : Int32)) hC dX4_size_26 rfl ?_
      refine zr_iret hC hr hk dX4_size_27 (by decide) (by decide) ⟨_, rfl, ?_⟩
      exact zq_mk (if_neg (fun h => absurd h.2 hs_s0)) hR
  · refine zr_if_eqT (tgt := 19) hC dX4_size_5 (by decide) (by decide) ?_
    refine zr_iconst (v := (0 : Int32)) hC dX4_size_19 rfl ?_
    refine zr_cVi 0 hC cv_X4_begins ml_X4_80 (c_X4_begins0 (a := a) (x := x)) dX4_size_20 ⟨Nat.le_of_ble_eq_true rfl, Nat.le_of_ble_eq_true rfl⟩ ⟨Nat.le_of_ble_eq_true rfl, Nat.le_of_ble_eq_true rfl⟩ rfl rfl rfl rfl rfl (Nat.le_of_ble_eq_true rfl) ?_
    rintro _ _ ⟨rfl, rfl⟩
    refine zr_if_neF (tgt := 28) hC dX4_size_23 (by decide) (by decide) ?_
    refine zr_iconst (v := (0 : Int32)) hC dX4_size_26 rfl ?_
    refine zr_iret hC hr hk dX4_size_27 (by decide) (by decide) ⟨_, rfl, ?_⟩
    exact zq_mk (if_neg (fun h => absurd h.1 hb_b)) hR
set_option maxRecDepth 100000 in
set_option maxHeartbeats 4000000 in
theorem c_X4_strike (hR : rm_R a x) (b s0 : Int32) : zz_Mi l D (zt cI cII cF) yX4_strike cX4_strike 4 (some .int) 2 42 0 0 [.ref mo, .int b, .int s0] (mw_W mo m1 m2 m3 m4 m5 m6 m7 m8 m9 cI a x) (fun r w' => zp_m mo m1 m2 m3 m4 m5 m6 m7 m8 m9 cI (zo_strike a b s0) r w') := by
  refine zz_mk (by decide) (Nat.le_of_ble_eq_true rfl) ?_
  intro p e s m below meth c A hC hr hk hnm
  have hC : zz_C p s m _ c A D (zt cI cII cF) 4 cX4_strike RX4 := hC
  refine zr_aload_n 0 hC dX4_strike_0 rfl rfl ?_
  refine zr_iload_n 1 hC dX4_strike_1 rfl rfl ?_
  refine zr_cSi hC cs_X4_isBank ml_X4_73 (c_X4_isBank (w := (mw_W mo m1 m2 m3 m4 m5 m6 m7 m8 m9 cI a x)) b) dX4_strike_2 ⟨Nat.le_of_ble_eq_true rfl, Nat.le_of_ble_eq_true rfl⟩ ⟨Nat.le_of_ble_eq_true rfl, Nat.le_of_ble_eq_true rfl⟩ rfl rfl (Nat.le_of_ble_eq_true rfl) ?_
  rintro _ _ ⟨rfl, ⟨rfl, hb_b⟩ | ⟨rfl, hb_b⟩⟩
  · refine zr_if_eqF (tgt := 19) hC dX4_strike_5 (by decide) (by decide) ?_
    refine zr_iload_n 2 hC dX4_strike_8 rfl rfl ?_
    refine zr_cSi hC cs_X4_isStrip ml_X4_77 (c_X4_isStrip (w := (mw_W mo m1 m2 m3 m4 m5 m6 m7 m8 m9 cI a x)) s0) dX4_strike_9 ⟨Nat.le_of_ble_eq_true rfl, Nat.le_of_ble_eq_true rfl⟩ ⟨Nat.le_of_ble_eq_true rfl, Nat.le_of_ble_eq_true rfl⟩ rfl rfl (Nat.le_of_ble_eq_true rfl) ?_
    rintro _ _ ⟨rfl, ⟨rfl, hs_s0⟩ | ⟨rfl, hs_s0⟩⟩
    · refine zr_if_eqF (tgt := 19) hC dX4_strike_12 (by decide) (by decide) ?_
      refine zr_iconst (v := (1 : Int32)) hC dX4_strike_15 rfl ?_
      refine zr_goto (tgt := 20) hC dX4_strike_16 (by decide) ?_
      refine zr_cVi 0 hC cv_X4_begins ml_X4_80 (c_X4_begins1 (a := a) (x := x)) dX4_strike_20 ⟨Nat.le_of_ble_eq_true rfl, Nat.le_of_ble_eq_true rfl⟩ ⟨Nat.le_of_ble_eq_true rfl, Nat.le_of_ble_eq_true rfl⟩ rfl rfl rfl rfl rfl (Nat.le_of_ble_eq_true rfl) ?_
      rintro _ _ ⟨rfl, rfl⟩
      refine zr_if_neT (tgt := 28) hC dX4_strike_23 (by decide) (by decide) ?_
      refine zr_aload_n 0 hC dX4_strike_28 rfl rfl ?_
      refine zr_get (v := .ref m1) 0 0 hC iu_X4 rfl dX4_strike_29 fl_X4_7 (by decide) rfl rfl ?_
      refine zr_iconst (v := (4 : Int32)) hC dX4_strike_32 rfl ?_
      refine zr_iload_n 1 hC dX4_strike_33 rfl rfl ?_
      refine zr_imul hC dX4_strike_34 ?_
      refine zr_iload_n 2 hC dX4_strike_35 rfl rfl ?_
      refine zr_iadd hC dX4_strike_36 ?_
      refine zr_iaj (f := (mx_sp x)) (j := zl b s0) 1 0 hC dX4_strike_37 rfl rfl (zl_lt hb_b hs_s0) (zl_m hb_b hs_s0) (by decide) ?_
      refine zr_istore_n (lv' := [(3, .int ((mx_sp x) (zl b s0))), (0, .ref mo), (1, .int b), (2, .int s0)]) hC dX4_strike_38 rfl (by decide) rfl ?_
      refine zr_aload_n 1 hC dX4_strike_39 rfl rfl ?_
      refine zr_get (v := .ref m1) 0 0 hC iu_X4 rfl dX4_strike_40 fl_X4_7 (by decide) rfl rfl ?_
      refine zr_iconst (v := (4 : Int32)) hC dX4_strike_43 rfl ?_
      refine zr_iload_n 2 hC dX4_strike_44 rfl rfl ?_
      refine zr_imul hC dX4_strike_45 ?_
      refine zr_iload_n 3 hC dX4_strike_46 rfl rfl ?_
      refine zr_iadd hC dX4_strike_47 ?_
      refine zr_iconst (v := (-1 : Int32)) hC dX4_strike_48 rfl ?_
      refine zr_iasj (f := (mx_sp x)) (j := zl b s0) (w' := (mw_W mo m1 m2 m3 m4 m5 m6 m7 m8 m9 cI (as_sta a 0) (mk_sp x (upd (mx_sp x) (zl b s0) (-1 : Int32))))) 1 0 hC dX4_strike_49 rfl rfl (zl_lt hb_b hs_s0) (zl_m hb_b hs_s0) (by decide) rfl ?_
      refine zr_iload_n 0 hC dX4_strike_50 rfl rfl ?_
      refine zr_iconst (v := (-1 : Int32)) hC dX4_strike_51 rfl ?_
      refine zr_icmp_ne (tgt := 59) hC dX4_strike_52 (by decide) (fun c52 => ?_) (fun c52 => ?_)
      · refine zr_iconst (v := (1 : Int32)) hC dX4_strike_59 rfl ?_
        refine zr_iret hC hr hk dX4_strike_60 (by decide) (by decide) ⟨_, rfl, ?_⟩
        exact zq_mw (a' := as_sta (as_st a (zf_strikeS (aa_st a) (zl b s0))) 0) (x' := (mk_sp x (upd (mx_sp x) (zl b s0) (-1 : Int32)))) (by unfold zo_strike; rw [if_pos ⟨hb_b, hs_s0⟩, if_neg (fun h => c52 ((hR.1.1.1 _ (zl_lt hb_b hs_s0)).mpr h))]) ⟨rm_strike hR.1, hR.2⟩ rfl
      · refine zr_iconst (v := (0 : Int32)) hC dX4_strike_55 rfl ?_
        refine zr_goto (tgt := 60) hC dX4_strike_56 (by decide) ?_
        refine zr_iret hC hr hk dX4_strike_60 (by decide) (by decide) ⟨_, rfl, ?_⟩
        exact zq_mw (a' := as_sta (as_st a (zf_strikeS (aa_st a) (zl b s0))) 0) (x' := (mk_sp x (upd (mx_sp x) (zl b s0) (-1 : Int32)))) (by unfold zo_strike; rw [if_pos ⟨hb_b, hs_s0⟩, if_pos ((hR.1.1.1 _ (zl_lt hb_b hs_s0)).mp c52)]) ⟨rm_strike hR.1, hR.2⟩ rfl
    · refine zr_if_eqT (tgt := 19) hC dX4_strike_12 (by decide) (by decide) ?_
      refine zr_iconst (v := (0 : Int32)) hC dX4_strike_19 rfl ?_
      refine zr_cVi 0 hC cv_X4_begins ml_X4_80 (c_X4_begins0 (a := a) (x := x)) dX4_strike_20 ⟨Nat.le_of_ble_eq_true rfl, Nat.le_of_ble_eq_true rfl⟩ ⟨Nat.le_of_ble_eq_true rfl, Nat.le_of_ble_eq_true rfl⟩ rfl rfl rfl rfl rfl (Nat.le_of_ble_eq_true rfl) ?_
      rintro _ _ ⟨rfl, rfl⟩
      refine zr_if_neF (tgt := 28) hC dX4_strike_23 (by decide) (by decide) ?_
      refine zr_iconst (v := (0 : Int32)) hC dX4_strike_26 rfl ?_
      refine zr_iret hC hr hk dX4_strike_27 (by decide) (by decide) ⟨_, rfl, ?_⟩
      exact zq_mk (if_neg (fun h => absurd h.2 hs_s0)) hR
  · refine zr_if_eqT (tgt := 19) hC dX4_strike_5 (by decide) (by decide) ?_
    refine zr_iconst (v := (0 : Int32)) hC dX4_strike_19 rfl ?_
    refine zr_cVi 0 hC cv_X4_begins ml_X4_80 (c_X4_begins0 (a := a) (x := x)) dX4_strike_20 ⟨Nat.le_of_ble_eq_true rfl, Nat.le_of_ble_eq_true rfl⟩ ⟨Nat.le_of_ble_eq_true rfl, Nat.le_of_ble_eq_true rfl⟩ rfl rfl rfl rfl rfl (Nat.le_of_ble_eq_true rfl) ?_
    rintro _ _ ⟨rfl, rfl⟩
    refine zr_if_neF (tgt := 28) hC dX4_strike_23 (by decide) (by decide) ?_
    refine zr_iconst (v := (0 : Int32)) hC dX4_strike_26 rfl ?_
    refine zr_iret hC hr hk dX4_strike_27 (by decide) (by decide) ⟨_, rfl, ?_⟩
    exact zq_mk (if_neg (fun h => absurd h.1 hb_b)) hR
set_option maxRecDepth 100000 in
set_option maxHeartbeats 4000000 in
theorem c_X4_share (hR : rm_R a x) (b s0 f : Int32) : zz_Mi l D (zt cI cII cF) yX4_share cX4_share 4 (some .int) 2 42 0 0 [.ref mo, .int b, .int s0, .int f] (mw_W mo m1 m2 m3 m4 m5 m6 m7 m8 m9 cI a x) (fun r w' => zp_m mo m1 m2 m3 m4 m5 m6 m7 m8 m9 cI (zo_share a b s0 f) r w') := by
  refine zz_mk (by decide) (Nat.le_of_ble_eq_true rfl) ?_
  intro p e s m below meth c A hC hr hk hnm
  have hC : zz_C p s m _ c A D (zt cI cII cF) 4 cX4_share RX4 := hC
  refine zr_aload_n 0 hC dX4_share_0 rfl rfl ?_
  refine zr_iload_n 1 hC dX4_share_1 rfl rfl ?_
  refine zr_cSi hC cs_X4_isBank ml_X4_73 (c_X4_isBank (w := (mw_W mo m1 m2 m3 m4 m5 m6 m7 m8 m9 cI a x)) b) dX4_share_2 ⟨Nat.le_of_ble_eq_true rfl, Nat.le_of_ble_eq_true rfl⟩ ⟨Nat.le_of_ble_eq_true rfl, Nat.le_of_ble_eq_true rfl⟩ rfl rfl (Nat.le_of_ble_eq_true rfl) ?_
  rintro _ _ ⟨rfl, ⟨rfl, hb_b⟩ | ⟨rfl, hb_b⟩⟩
  · refine zr_if_eqF (tgt := 26) hC dX4_share_5 (by decide) (by decide) ?_
    refine zr_iload_n 2 hC dX4_share_8 rfl rfl ?_
    refine zr_cSi hC cs_X4_isStrip ml_X4_77 (c_X4_isStrip (w := (mw_W mo m1 m2 m3 m4 m5 m6 m7 m8 m9 cI a x)) s0) dX4_share_9 ⟨Nat.le_of_ble_eq_true rfl, Nat.le_of_ble_eq_true rfl⟩ ⟨Nat.le_of_ble_eq_true rfl, Nat.le_of_ble_eq_true rfl⟩ rfl rfl (Nat.le_of_ble_eq_true rfl) ?_
    rintro _ _ ⟨rfl, ⟨rfl, hs_s0⟩ | ⟨rfl, hs_s0⟩⟩
    · refine zr_if_eqF (tgt := 26) hC dX4_share_12 (by decide) (by decide) ?_
      refine zr_iload_n 3 hC dX4_share_15 rfl rfl ?_
      refine zr_cSi hC cs_X4_isBank ml_X4_73 (c_X4_isBank (w := (mw_W mo m1 m2 m3 m4 m5 m6 m7 m8 m9 cI a x)) f) dX4_share_16 ⟨Nat.le_of_ble_eq_true rfl, Nat.le_of_ble_eq_true rfl⟩ ⟨Nat.le_of_ble_eq_true rfl, Nat.le_of_ble_eq_true rfl⟩ rfl rfl (Nat.le_of_ble_eq_true rfl) ?_
      rintro _ _ ⟨rfl, ⟨rfl, hb_f⟩ | ⟨rfl, hb_f⟩⟩
      · refine zr_if_eqF (tgt := 26) hC dX4_share_19 (by decide) (by decide) ?_
        refine zr_iconst (v := (1 : Int32)) hC dX4_share_22 rfl ?_
        refine zr_goto (tgt := 27) hC dX4_share_23 (by decide) ?_
        refine zr_cVi 0 hC cv_X4_begins ml_X4_80 (c_X4_begins1 (a := a) (x := x)) dX4_share_27 ⟨Nat.le_of_ble_eq_true rfl, Nat.le_of_ble_eq_true rfl⟩ ⟨Nat.le_of_ble_eq_true rfl, Nat.le_of_ble_eq_true rfl⟩ rfl rfl rfl rfl rfl (Nat.le_of_ble_eq_true rfl) ?_
        rintro _ _ ⟨rfl, rfl⟩
        refine zr_if_neT (tgt := 35) hC dX4_share_30 (by decide) (by decide) ?_
        refine zr_aload_n 0 hC dX4_share_35 rfl rfl ?_
        refine zr_get (v := .ref m1) 0 0 hC iu_X4 rfl dX4_share_36 fl_X4_7 (by decide) rfl rfl ?_
        refine zr_iconst (v := (4 : Int32)) hC dX4_share_39 rfl ?_
        refine zr_iload_n 1 hC dX4_share_40 rfl rfl ?_
        refine zr_imul hC dX4_share_41 ?_
        refine zr_iload_n 2 hC dX4_share_42 rfl rfl ?_
        refine zr_iadd hC dX4_share_43 ?_
        refine zr_aload_n 0 hC dX4_share_44 rfl rfl ?_
        refine zr_get (v := .ref m1) 0 0 hC iu_X4 rfl dX4_share_45 fl_X4_7 (by decide) rfl rfl ?_
        refine zr_iconst (v := (4 : Int32)) hC dX4_share_48 rfl ?_
        refine zr_iload_n 3 hC dX4_share_49 rfl rfl ?_
        refine zr_imul hC dX4_share_50 ?_
        refine zr_iload_n 2 hC dX4_share_51 rfl rfl ?_
        refine zr_iadd hC dX4_share_52 ?_
        refine zr_iaj (f := (mx_sp x)) (j := zl f s0) 1 0 hC dX4_share_53 rfl rfl (zl_lt hb_f hs_s0) (zl_m hb_f hs_s0) (by decide) ?_
        refine zr_iasj (f := (mx_sp x)) (j := zl b s0) (w' := (mw_W mo m1 m2 m3 m4 m5 m6 m7 m8 m9 cI (as_sta a 0) (mk_sp x (upd (mx_sp x) (zl b s0) ((mx_sp x) (zl f s0)))))) 1 0 hC dX4_share_54 rfl rfl (zl_lt hb_b hs_s0) (zl_m hb_b hs_s0) (by decide) rfl ?_
        refine zr_aload_n 0 hC dX4_share_55 rfl rfl ?_
        refine zr_get (v := .ref m1) 0 0 hC iu_X4 rfl dX4_share_56 fl_X4_7 (by decide) rfl rfl ?_
        refine zr_iconst (v := (4 : Int32)) hC dX4_share_59 rfl ?_
        refine zr_iload_n 1 hC dX4_share_60 rfl rfl ?_
        refine zr_imul hC dX4_share_61 ?_
        refine zr_iload_n 2 hC dX4_share_62 rfl rfl ?_
        refine zr_iadd hC dX4_share_63 ?_
        refine zr_iaj (f := (upd (mx_sp x) (zl b s0) ((mx_sp x) (zl f s0)))) (j := zl b s0) 1 0 hC dX4_share_64 rfl rfl (zl_lt hb_b hs_s0) (zl_m hb_b hs_s0) (by decide) ?_
        refine zr_iconst (v := (-1 : Int32)) hC dX4_share_65 rfl ?_
        refine zr_icmp_ne (tgt := 73) hC dX4_share_66 (by decide) (fun c66 => ?_) (fun c66 => ?_)
        · refine zr_iconst (v := (1 : Int32)) hC dX4_share_73 rfl ?_
          refine zr_iret hC hr hk dX4_share_74 (by decide) (by decide) ⟨_, rfl, ?_⟩
          rw [pk_us] at c66
          exact zq_mw (a' := as_sta (as_st a (zf_shareS (aa_st a) (zl b s0) (zl f s0))) 0) (x' := (mk_sp x (upd (mx_sp x) (zl b s0) ((mx_sp x) (zl f s0))))) (by unfold zo_share; rw [if_pos ⟨hb_b, hs_s0, hb_f⟩, if_neg (fun h => c66 ((hR.1.1.1 _ (zl_lt hb_f hs_s0)).mpr h))]) ⟨rm_share hR.1 (zl_lt hb_f hs_s0) (by rw [zl_mod hb_b hs_s0, zl_mod hb_f hs_s0]), hR.2⟩ rfl
        · refine zr_iconst (v := (0 : Int32)) hC dX4_share_69 rfl ?_
          refine zr_goto (tgt := 74) hC dX4_share_70 (by decide) ?_
          refine zr_iret hC hr hk dX4_share_74 (by decide) (by decide) ⟨_, rfl, ?_⟩
          rw [pk_us] at c66
          exact zq_mw (a' := as_sta (as_st a (zf_shareS (aa_st a) (zl b s0) (zl f s0))) 0) (x' := (mk_sp x (upd (mx_sp x) (zl b s0) ((mx_sp x) (zl f s0))))) (by unfold zo_share; rw [if_pos ⟨hb_b, hs_s0, hb_f⟩, if_pos ((hR.1.1.1 _ (zl_lt hb_f hs_s0)).mp c66)]) ⟨rm_share hR.1 (zl_lt hb_f hs_s0) (by rw [zl_mod hb_b hs_s0, zl_mod hb_f hs_s0]), hR.2⟩ rfl
      · refine zr_if_eqT (tgt := 26) hC dX4_share_19 (by decide) (by decide) ?_
        refine zr_iconst (v := (0 : Int32)) hC dX4_share_26 rfl ?_
        refine zr_cVi 0 hC cv_X4_begins ml_X4_80 (c_X4_begins0 (a := a) (x := x)) dX4_share_27 ⟨Nat.le_of_ble_eq_true rfl, Nat.le_of_ble_eq_true rfl⟩ ⟨Nat.le_of_ble_eq_true rfl, Nat.le_of_ble_eq_true rfl⟩ rfl rfl rfl rfl rfl (Nat.le_of_ble_eq_true rfl) ?_
        rintro _ _ ⟨rfl, rfl⟩
        refine zr_if_neF (tgt := 35) hC dX4_share_30 (by decide) (by decide) ?_
        refine zr_iconst (v := (0 : Int32)) hC dX4_share_33 rfl ?_
        refine zr_iret hC hr hk dX4_share_34 (by decide) (by decide) ⟨_, rfl, ?_⟩
        exact zq_mk (if_neg (fun h => absurd h.2.2 hb_f)) hR
    · refine zr_if_eqT (tgt := 26) hC dX4_share_12 (by decide) (by decide) ?_
      refine zr_iconst (v := (0 : Int32)) hC dX4_share_26 rfl ?_
      refine zr_cVi 0 hC cv_X4_begins ml_X4_80 (c_X4_begins0 (a := a) (x := x)) dX4_share_27 ⟨Nat.le_of_ble_eq_true rfl, Nat.le_of_ble_eq_true rfl⟩ ⟨Nat.le_of_ble_eq_true rfl, Nat.le_of_ble_eq_true rfl⟩ rfl rfl rfl rfl rfl (Nat.le_of_ble_eq_true rfl) ?_
      rintro _ _ ⟨rfl, rfl⟩
      refine zr_if_neF (tgt := 35) hC dX4_share_30 (by decide) (by decide) ?_
      refine zr_iconst (v := (0 : Int32)) hC dX4_share_33 rfl ?_
      refine zr_iret hC hr hk dX4_share_34 (by decide) (by decide) ⟨_, rfl, ?_⟩
      exact zq_mk (if_neg (fun h => absurd h.2.1 hs_s0)) hR
  · refine zr_if_eqT (tgt := 26) hC dX4_share_5 (by decide) (by decide) ?_
    refine zr_iconst (v := (0 : Int32)) hC dX4_share_26 rfl ?_
    refine zr_cVi 0 hC cv_X4_begins ml_X4_80 (c_X4_begins0 (a := a) (x := x)) dX4_share_27 ⟨Nat.le_of_ble_eq_true rfl, Nat.le_of_ble_eq_true rfl⟩ ⟨Nat.le_of_ble_eq_true rfl, Nat.le_of_ble_eq_true rfl⟩ rfl rfl rfl rfl rfl (Nat.le_of_ble_eq_true rfl) ?_
    rintro _ _ ⟨rfl, rfl⟩
    refine zr_if_neF (tgt := 35) hC dX4_share_30 (by decide) (by decide) ?_
    refine zr_iconst (v := (0 : Int32)) hC dX4_share_33 rfl ?_
    refine zr_iret hC hr hk dX4_share_34 (by decide) (by decide) ⟨_, rfl, ?_⟩
    exact zq_mk (if_neg (fun h => absurd h.1 hb_b)) hR
set_option maxRecDepth 100000 in
set_option maxHeartbeats 4000000 in
theorem c_X4_patch (hR : rm_R a x) (f i t j q : Int32) : zz_Mi l D (zt cI cII cF) yX4_patch cX4_patch 7 (some .int) 3 69 0 0 [.ref mo, .int f, .int i, .int t, .int j, .int q] (mw_W mo m1 m2 m3 m4 m5 m6 m7 m8 m9 cI a x) (fun r w' => zp_m mo m1 m2 m3 m4 m5 m6 m7 m8 m9 cI (zo_patch a f i t j q) r w') := by
  refine zz_mk (by decide) (Nat.le_of_ble_eq_true rfl) ?_
  intro p e s m below meth c A hC hr hk hnm
  have hC : zz_C p s m _ c A D (zt cI cII cF) 7 cX4_patch RX4 := hC
  refine zr_aload_n 0 hC dX4_patch_0 rfl rfl ?_
  refine zr_iload_n 1 hC dX4_patch_1 rfl rfl ?_
  refine zr_cSi hC cs_X4_isBank ml_X4_73 (c_X4_isBank (w := (mw_W mo m1 m2 m3 m4 m5 m6 m7 m8 m9 cI a x)) f) dX4_patch_2 ⟨Nat.le_of_ble_eq_true rfl, Nat.le_of_ble_eq_true rfl⟩ ⟨Nat.le_of_ble_eq_true rfl, Nat.le_of_ble_eq_true rfl⟩ rfl rfl (Nat.le_of_ble_eq_true rfl) ?_
  rintro _ _ ⟨rfl, ⟨rfl, hb_f⟩ | ⟨rfl, hb_f⟩⟩
  · refine zr_if_eqF (tgt := 30) hC dX4_patch_5 (by decide) (by decide) ?_
    refine zr_iload_n 3 hC dX4_patch_8 rfl rfl ?_
    refine zr_cSi hC cs_X4_isBank ml_X4_73 (c_X4_isBank (w := (mw_W mo m1 m2 m3 m4 m5 m6 m7 m8 m9 cI a x)) t) dX4_patch_9 ⟨Nat.le_of_ble_eq_true rfl, Nat.le_of_ble_eq_true rfl⟩ ⟨Nat.le_of_ble_eq_true rfl, Nat.le_of_ble_eq_true rfl⟩ rfl rfl (Nat.le_of_ble_eq_true rfl) ?_
    rintro _ _ ⟨rfl, ⟨rfl, hb_t⟩ | ⟨rfl, hb_t⟩⟩
    · refine zr_if_eqF (tgt := 30) hC dX4_patch_12 (by decide) (by decide) ?_
      refine zr_iload 5 hC dX4_patch_15 rfl ?_
      refine zr_iconst (v := (0 : Int32)) hC dX4_patch_17 rfl ?_
      refine zr_bipush (v := (15 : Int32)) hC dX4_patch_18 rfl ?_
      refine zr_cSi hC cs_X4_in ml_X4_37 (c_X4_in (w := (mw_W mo m1 m2 m3 m4 m5 m6 m7 m8 m9 cI a x)) q (0 : Int32) (15 : Int32)) dX4_patch_20 ⟨Nat.le_of_ble_eq_true rfl, Nat.le_of_ble_eq_true rfl⟩ ⟨Nat.le_of_ble_eq_true rfl, Nat.le_of_ble_eq_true rfl⟩ rfl rfl (Nat.le_of_ble_eq_true rfl) ?_
      rintro _ _ ⟨rfl, ⟨rfl, hi1⟩ | ⟨rfl, hi1⟩⟩
      · refine zr_if_eqF (tgt := 30) hC dX4_patch_23 (by decide) (by decide) ?_
        refine zr_iconst (v := (1 : Int32)) hC dX4_patch_26 rfl ?_
        refine zr_goto (tgt := 31) hC dX4_patch_27 (by decide) ?_
        refine zr_cVi 0 hC cv_X4_begins ml_X4_80 (c_X4_begins1 (a := a) (x := x)) dX4_patch_31 ⟨Nat.le_of_ble_eq_true rfl, Nat.le_of_ble_eq_true rfl⟩ ⟨Nat.le_of_ble_eq_true rfl, Nat.le_of_ble_eq_true rfl⟩ rfl rfl rfl rfl rfl (Nat.le_of_ble_eq_true rfl) ?_
        rintro _ _ ⟨rfl, rfl⟩
        refine zr_if_neT (tgt := 39) hC dX4_patch_34 (by decide) (by decide) ?_
        have hq : (0 : Int32) ≤ q ∧ q < 16 := (zn_le (n := 16) (by decide)).mp hi1
        refine zr_aload_n 0 hC dX4_patch_39 rfl rfl ?_
        refine zr_aload_n 0 hC dX4_patch_40 rfl rfl ?_
        refine zr_iload_n 1 hC dX4_patch_41 rfl rfl ?_
        refine zr_iload 5 hC dX4_patch_42 rfl ?_
        refine zr_iconst (v := (4 : Int32)) hC dX4_patch_44 rfl ?_
        refine zr_idiv hC dX4_patch_45 (by decide) ?_
        refine zr_iload_n 2 hC dX4_patch_46 rfl rfl ?_
        refine zr_cVi 0 hC cv_X4_refused ml_X4_87 (c_X4_refused (a := (as_sta a 0)) (x := x) hR.1 i hb_f (zk_div hq)) dX4_patch_47 ⟨Nat.le_of_ble_eq_true rfl, Nat.le_of_ble_eq_true rfl⟩ ⟨Nat.le_of_ble_eq_true rfl, Nat.le_of_ble_eq_true rfl⟩ rfl rfl rfl rfl rfl (Nat.le_of_ble_eq_true rfl) ?_
        rintro _ _ (⟨h2, rfl, rfl⟩ | ⟨h2, rfl, rfl⟩)
        · have h2 : (zf_why (aa_st a) (zl f (q / (4 : Int32))) i) = 0 := h2
          refine zr_put (w' := (mw_W mo m1 m2 m3 m4 m5 m6 m7 m8 m9 cI (as_sta (as_sta a 0) (0 : Int32)) x)) 0 13 hC iu_X4 tyX4_ok nmX4 rfl dX4_patch_50 fl_X4_41 (by decide) rfl rfl rfl rfl (Nat.le_of_ble_eq_true rfl) rfl ?_
          refine zr_aload_n 0 hC dX4_patch_53 rfl rfl ?_
          refine zr_get (v := .int (0 : Int32)) 0 13 hC iu_X4 rfl dX4_patch_54 fl_X4_41 (by decide) rfl rfl ?_
          refine zr_if_eqT (tgt := 62) hC dX4_patch_57 (by decide) (by decide) ?_
          refine zr_aload_n 0 hC dX4_patch_62 rfl rfl ?_
          refine zr_iload_n 1 hC dX4_patch_63 rfl rfl ?_
          refine zr_iload 5 hC dX4_patch_64 rfl ?_
          refine zr_iconst (v := (4 : Int32)) hC dX4_patch_66 rfl ?_
          refine zr_idiv hC dX4_patch_67 (by decide) ?_
          refine zr_iload_n 2 hC dX4_patch_68 rfl rfl ?_
          refine zr_cVi 0 hC cv_X4_at ml_X4_90 (c_X4_at (a := (as_sta (as_sta a 0) (0 : Int32))) (x := x) hR.1 hb_f (zk_div hq) (by assumption)) dX4_patch_69 ⟨Nat.le_of_ble_eq_true rfl, Nat.le_of_ble_eq_true rfl⟩ ⟨Nat.le_of_ble_eq_true rfl, Nat.le_of_ble_eq_true rfl⟩ rfl rfl rfl rfl rfl (Nat.le_of_ble_eq_true rfl) ?_
          rintro _ _ ⟨rfl, rfl⟩
          refine zr_istore (lv' := [(6, .int (zf_val (aa_st a) (zl f (q / (4 : Int32))) i)), (0, .ref mo), (1, .int f), (2, .int i), (3, .int t), (4, .int j), (5, .int q)]) hC dX4_patch_72 (by decide) rfl ?_
          refine zr_aload_n 1 hC dX4_patch_74 rfl rfl ?_
          refine zr_aload_n 1 hC dX4_patch_75 rfl rfl ?_
          refine zr_iload_n 4 hC dX4_patch_76 rfl rfl ?_
          refine zr_iload 6 hC dX4_patch_77 rfl ?_
          refine zr_iconst (v := (4 : Int32)) hC dX4_patch_79 rfl ?_
          refine zr_irem hC dX4_patch_80 (by decide) ?_
          refine zr_iload 5 hC dX4_patch_81 rfl ?_
          refine zr_cVi 0 hC cv_X4_refused ml_X4_87 (c_X4_refused (a := (as_sta (as_sta a 0) (0 : Int32))) (x := x) hR.1 j hb_t (zk_rem hq)) dX4_patch_83 ⟨Nat.le_of_ble_eq_true rfl, Nat.le_of_ble_eq_true rfl⟩ ⟨Nat.le_of_ble_eq_true rfl, Nat.le_of_ble_eq_true rfl⟩ rfl rfl rfl rfl rfl (Nat.le_of_ble_eq_true rfl) ?_
          rintro _ _ (⟨h3, rfl, rfl⟩ | ⟨h3, rfl, rfl⟩)
          · have h3 : (zf_why (aa_st a) (zl t (q - q / (4 : Int32) * (4 : Int32))) j) = 0 := h3
            refine zr_put (w' := (mw_W mo m1 m2 m3 m4 m5 m6 m7 m8 m9 cI (as_sta (as_sta (as_sta a 0) (0 : Int32)) (0 : Int32)) x)) 0 13 hC iu_X4 tyX4_ok nmX4 rfl dX4_patch_86 fl_X4_41 (by decide) rfl rfl rfl rfl (Nat.le_of_ble_eq_true rfl) rfl ?_
            refine zr_aload_n 1 hC dX4_patch_89 rfl rfl ?_
            refine zr_get (v := .int (0 : Int32)) 0 13 hC iu_X4 rfl dX4_patch_90 fl_X4_41 (by decide) rfl rfl ?_
            refine zr_if_eqT (tgt := 98) hC dX4_patch_93 (by decide) (by decide) ?_
            refine zr_aload_n 1 hC dX4_patch_98 rfl rfl ?_
            refine zr_iload_n 4 hC dX4_patch_99 rfl rfl ?_
            refine zr_iload 6 hC dX4_patch_100 rfl ?_
            refine zr_iconst (v := (4 : Int32)) hC dX4_patch_102 rfl ?_
            refine zr_irem hC dX4_patch_103 (by decide) ?_
            refine zr_iload 5 hC dX4_patch_104 rfl ?_
            refine zr_iload 0 hC dX4_patch_106 rfl ?_
            refine zr_cVv 0 hC cv_X4_put ml_X4_93 (c_X4_put (a := (as_sta (as_sta (as_sta a 0) (0 : Int32)) (0 : Int32))) (x := x) hR.1 (zf_val (aa_st a) (zl f (q / (4 : Int32))) i) hb_t (zk_rem hq) (by assumption)) dX4_patch_108 ⟨Nat.le_of_ble_eq_true rfl, Nat.le_of_ble_eq_true rfl⟩ ⟨Nat.le_of_ble_eq_true rfl, Nat.le_of_ble_eq_true rfl⟩ rfl rfl rfl rfl rfl (Nat.le_of_ble_eq_true rfl) ?_
            rintro _ ⟨p4, rfl, hQp4⟩
            refine zr_iload 0 hC dX4_patch_111 rfl ?_
            refine zr_iret hC hr hk dX4_patch_113 (by decide) (by decide) ⟨_, rfl, ?_⟩
            exact zq_mk (by unfold zo_patch; rw [if_pos ⟨hb_f, hb_t, hq⟩]; simp [h2, h3]) ⟨hQp4, hR.2⟩
          · have h3 : ¬ (zf_why (aa_st a) (zl t (q - q / (4 : Int32) * (4 : Int32))) j) = 0 := h3
            refine zr_put (w' := (mw_W mo m1 m2 m3 m4 m5 m6 m7 m8 m9 cI (as_sta (zf_cnt (zf_why (aa_st a) (zl t (q - q / (4 : Int32) * (4 : Int32))) j) (as_sta (as_sta a 0) (0 : Int32))) (zf_why (aa_st a) (zl t (q - q / (4 : Int32) * (4 : Int32))) j)) x)) 0 13 hC iu_X4 tyX4_ok nmX4 rfl dX4_patch_86 fl_X4_41 (by decide) rfl rfl rfl rfl (Nat.le_of_ble_eq_true rfl) rfl ?_
            refine zr_aload_n 1 hC dX4_patch_89 rfl rfl ?_
            refine zr_get (v := .int (zf_why (aa_st a) (zl t (q - q / (4 : Int32) * (4 : Int32))) j)) 0 13 hC iu_X4 rfl dX4_patch_90 fl_X4_41 (by decide) rfl rfl ?_
            refine zr_if_eqF (tgt := 98) hC dX4_patch_93 (by decide) h3 ?_
            refine zr_iconst (v := (0 : Int32)) hC dX4_patch_96 rfl ?_
            refine zr_iret hC hr hk dX4_patch_97 (by decide) (by decide) ⟨_, rfl, ?_⟩
            exact zq_mk (by unfold zo_patch; rw [if_pos ⟨hb_f, hb_t, hq⟩]; simp [h2, h3]) hR
        · have h2 : ¬ (zf_why (aa_st a) (zl f (q / (4 : Int32))) i) = 0 := h2
          refine zr_put (w' := (mw_W mo m1 m2 m3 m4 m5 m6 m7 m8 m9 cI (as_sta (zf_cnt (zf_why (aa_st a) (zl f (q / (4 : Int32))) i) (as_sta a 0)) (zf_why (aa_st a) (zl f (q / (4 : Int32))) i)) x)) 0 13 hC iu_X4 tyX4_ok nmX4 rfl dX4_patch_50 fl_X4_41 (by decide) rfl rfl rfl rfl (Nat.le_of_ble_eq_true rfl) rfl ?_
          refine zr_aload_n 0 hC dX4_patch_53 rfl rfl ?_
          refine zr_get (v := .int (zf_why (aa_st a) (zl f (q / (4 : Int32))) i)) 0 13 hC iu_X4 rfl dX4_patch_54 fl_X4_41 (by decide) rfl rfl ?_
          refine zr_if_eqF (tgt := 62) hC dX4_patch_57 (by decide) h2 ?_
          refine zr_iconst (v := (0 : Int32)) hC dX4_patch_60 rfl ?_
          refine zr_iret hC hr hk dX4_patch_61 (by decide) (by decide) ⟨_, rfl, ?_⟩
          exact zq_mk (by unfold zo_patch; rw [if_pos ⟨hb_f, hb_t, hq⟩]; simp [h2]) hR
      · refine zr_if_eqT (tgt := 30) hC dX4_patch_23 (by decide) (by decide) ?_
        refine zr_iconst (v := (0 : Int32)) hC dX4_patch_30 rfl ?_
        refine zr_cVi 0 hC cv_X4_begins ml_X4_80 (c_X4_begins0 (a := a) (x := x)) dX4_patch_31 ⟨Nat.le_of_ble_eq_true rfl, Nat.le_of_ble_eq_true rfl⟩ ⟨Nat.le_of_ble_eq_true rfl, Nat.le_of_ble_eq_true rfl⟩ rfl rfl rfl rfl rfl (Nat.le_of_ble_eq_true rfl) ?_
        rintro _ _ ⟨rfl, rfl⟩
        refine zr_if_neF (tgt := 39) hC dX4_patch_34 (by decide) (by decide) ?_
        refine zr_iconst (v := (0 : Int32)) hC dX4_patch_37 rfl ?_
        refine zr_iret hC hr hk dX4_patch_38 (by decide) (by decide) ⟨_, rfl, ?_⟩
        exact zq_mk (if_neg (fun h => hi1 ((zn_le (n := 16) (by decide)).mpr h.2.2))) hR
    · refine zr_if_eqT (tgt := 30) hC dX4_patch_12 (by decide) (by decide) ?_
      refine zr_iconst (v := (0 : Int32)) hC dX4_patch_30 rfl ?_
      refine zr_cVi 0 hC cv_X4_begins ml_X4_80 (c_X4_begins0 (a := a) (x := x)) dX4_patch_31 ⟨Nat.le_of_ble_eq_true rfl, Nat.le_of_ble_eq_true rfl⟩ ⟨Nat.le_of_ble_eq_true rfl, Nat.le_of_ble_eq_true rfl⟩ rfl rfl rfl rfl rfl (Nat.le_of_ble_eq_true rfl) ?_
      rintro _ _ ⟨rfl, rfl⟩
      refine zr_if_neF (tgt := 39) hC dX4_patch_34 (by decide) (by decide) ?_
      refine zr_iconst (v := (0 : Int32)) hC dX4_patch_37 rfl ?_
      refine zr_iret hC hr hk dX4_patch_38 (by decide) (by decide) ⟨_, rfl, ?_⟩
      exact zq_mk (if_neg (fun h => absurd h.2.1 hb_t)) hR
  · refine zr_if_eqT (tgt := 30) hC dX4_patch_5 (by decide) (by decide) ?_
    refine zr_iconst (v := (0 : Int32)) hC dX4_patch_30 rfl ?_
    refine zr_cVi 0 hC cv_X4_begins ml_X4_80 (c_X4_begins0 (a := a) (x := x)) dX4_patch_31 ⟨Nat.le_of_ble_eq_true rfl, Nat.le_of_ble_eq_true rfl⟩ ⟨Nat.le_of_ble_eq_true rfl, Nat.le_of_ble_eq_true rfl⟩ rfl rfl rfl rfl rfl (Nat.le_of_ble_eq_true rfl) ?_
    rintro _ _ ⟨rfl, rfl⟩
    refine zr_if_neF (tgt := 39) hC dX4_patch_34 (by decide) (by decide) ?_
    refine zr_iconst (v := (0 : Int32)) hC dX4_patch_37 rfl ?_
    refine zr_iret hC hr hk dX4_patch_38 (by decide) (by decide) ⟨_, rfl, ?_⟩
    exact zq_mk (if_neg (fun h => absurd h.1 hb_f)) hR
theorem rm_Q.keep {a a' : ax_A} {x : mx_X} (hR : rm_Q a x) (h1 : aa_st a' = aa_st a) (h2 : aa_sh a' = aa_sh a) (d : Int32) : rm_Q a' (mk_dk x d) := by
  unfold rm_Q
  rw [h1, h2]
  exact hR
theorem rm_show {a : ax_A} {x : mx_X} (hR : rm_R a x) (b i d : Int32) : rm_R (zf_show a b i).2.2 (mk_dk x d) := by
  refine ⟨hR.1.keep (zf_show_st a b i).1 (zf_show_st a b i).2.1 d, ?_⟩
  rw [(zf_show_st a b i).2.2]
  exact hR.2
theorem zf_show_sta (a : ax_A) (b i v : Int32) : zf_show (as_sta a v) b i = ((zf_show a b i).1, (zf_show a b i).2.1, as_sta (zf_show a b i).2.2 v) := by
  unfold zf_show
  repeat' split
  all_goals rfl
set_option maxRecDepth 100000 in
set_option maxHeartbeats 4000000 in
theorem c_X4_shown (hR : rm_R a x) (b i : Int32) : zz_Mi l D (zt cI cII cF) yX4_shown cX4_shown 4 (some .int) 4 92 0 0 [.ref mo, .int b, .int i] (mw_W mo m1 m2 m3 m4 m5 m6 m7 m8 m9 cI a x) (fun r w' => zp_m mo m1 m2 m3 m4 m5 m6 m7 m8 m9 cI (zo_shown a b i) r w') := by
  refine zz_mk (by decide) (Nat.le_of_ble_eq_true rfl) ?_
  intro p e s m below meth c A hC hr hk hnm
  have hC : zz_C p s m _ c A D (zt cI cII cF) 4 cX4_shown RX4 := hC
  refine zr_aload_n 0 hC dX4_shown_0 rfl rfl ?_
  refine zr_iload_n 1 hC dX4_shown_1 rfl rfl ?_
  refine zr_cSi hC cs_X4_isBank ml_X4_73 (c_X4_isBank (w := (mw_W mo m1 m2 m3 m4 m5 m6 m7 m8 m9 cI a x)) b) dX4_shown_2 ⟨Nat.le_of_ble_eq_true rfl, Nat.le_of_ble_eq_true rfl⟩ ⟨Nat.le_of_ble_eq_true rfl, Nat.le_of_ble_eq_true rfl⟩ rfl rfl (Nat.le_of_ble_eq_true rfl) ?_
  rintro _ _ ⟨rfl, ⟨rfl, hb_b⟩ | ⟨rfl, hb_b⟩⟩
  · refine zr_cVi 0 hC cv_X4_begins ml_X4_80 (c_X4_begins1 (a := a) (x := x)) dX4_shown_5 ⟨Nat.le_of_ble_eq_true rfl, Nat.le_of_ble_eq_true rfl⟩ ⟨Nat.le_of_ble_eq_true rfl, Nat.le_of_ble_eq_true rfl⟩ rfl rfl rfl rfl rfl (Nat.le_of_ble_eq_true rfl) ?_
    rintro _ _ ⟨rfl, rfl⟩
    refine zr_if_neT (tgt := 13) hC dX4_shown_8 (by decide) (by decide) ?_
    refine zr_aload_n 0 hC dX4_shown_13 rfl rfl ?_
    refine zr_iload_n 1 hC dX4_shown_14 rfl rfl ?_
    refine zr_iload_n 2 hC dX4_shown_15 rfl rfl ?_
    refine zr_cVi 0 hC cv_X4_light ml_X4_103 (c_X4_light (a := (as_sta a 0)) (x := x) hR.1 i hb_b) dX4_shown_16 ⟨Nat.le_of_ble_eq_true rfl, Nat.le_of_ble_eq_true rfl⟩ ⟨Nat.le_of_ble_eq_true rfl, Nat.le_of_ble_eq_true rfl⟩ rfl rfl rfl rfl rfl (Nat.le_of_ble_eq_true rfl) ?_
    rintro _ _ ⟨rfl, rfl⟩
    refine zr_istore_n (lv' := [(3, .int ((zf_show (as_sta a 0) b i).2.1)), (0, .ref mo), (1, .int b), (2, .int i)]) hC dX4_shown_19 rfl (by decide) rfl ?_
    refine zr_aload_n 1 hC dX4_shown_20 rfl rfl ?_
    refine zr_aload_n 1 hC dX4_shown_21 rfl rfl ?_
    refine zr_get (v := .int ((zf_show (as_sta a 0) b i).1)) 0 22 hC iu_X4 rfl dX4_shown_22 fl_X4_100 (by decide) rfl rfl ?_
    refine zr_put (w' := (mw_W mo m1 m2 m3 m4 m5 m6 m7 m8 m9 cI (as_sta ((zf_show (as_sta a 0) b i).2.2) ((zf_show (as_sta a 0) b i).1)) (mk_dk x ((zf_show (as_sta a 0) b i).1)))) 0 13 hC iu_X4 tyX4_ok nmX4 rfl dX4_shown_25 fl_X4_41 (by decide) rfl rfl rfl rfl (Nat.le_of_ble_eq_true rfl) rfl ?_
    refine zr_iload_n 0 hC dX4_shown_28 rfl rfl ?_
    refine zr_iret hC hr hk dX4_shown_29 (by decide) (by decide) ⟨_, rfl, ?_⟩
    exact zq_mw (a' := as_sta (zf_show a b i).2.2 (zf_show a b i).1) (x' := mk_dk x (zf_show a b i).1) (by unfold zo_shown; rw [if_pos hb_b, zf_show_sta a b i 0]) (rm_show hR b i _) (by rw [zf_show_sta a b i 0]; first | done | rfl)
  · refine zr_cVi 0 hC cv_X4_begins ml_X4_80 (c_X4_begins0 (a := a) (x := x)) dX4_shown_5 ⟨Nat.le_of_ble_eq_true rfl, Nat.le_of_ble_eq_true rfl⟩ ⟨Nat.le_of_ble_eq_true rfl, Nat.le_of_ble_eq_true rfl⟩ rfl rfl rfl rfl rfl (Nat.le_of_ble_eq_true rfl) ?_
    rintro _ _ ⟨rfl, rfl⟩
    refine zr_if_neF (tgt := 13) hC dX4_shown_8 (by decide) (by decide) ?_
    refine zr_iconst (v := (0 : Int32)) hC dX4_shown_11 rfl ?_
    refine zr_iret hC hr hk dX4_shown_12 (by decide) (by decide) ⟨_, rfl, ?_⟩
    exact zq_mk (if_neg (fun h => absurd h hb_b)) hR
set_option maxRecDepth 100000 in
set_option maxHeartbeats 4000000 in
theorem c_X4_status (hR : rm_R a x) : zz_Mi l D (zt cI cII cF) yX4_status cX4_status 1 (some .int) 0 0 0 0 [.ref mo] (mw_W mo m1 m2 m3 m4 m5 m6 m7 m8 m9 cI a x) (fun r w' => zp_m mo m1 m2 m3 m4 m5 m6 m7 m8 m9 cI (zo_status a) r w') := by
  refine zz_mk (by decide) (Nat.le_of_ble_eq_true rfl) ?_
  intro p e s m below meth c A hC hr hk hnm
  have hC : zz_C p s m _ c A D (zt cI cII cF) 1 cX4_status RX4 := hC
  refine zr_aload_n 0 hC dX4_status_0 rfl rfl ?_
  refine zr_get (v := .int (aa_sta a)) 0 13 hC iu_X4 rfl dX4_status_1 fl_X4_41 (by decide) rfl rfl ?_
  refine zr_iret hC hr hk dX4_status_4 (by decide) (by decide) ⟨_, rfl, ?_⟩
  exact zq_mk rfl hR
end ZB2
