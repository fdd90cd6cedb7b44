section ZA7
variable {l : Launch} {D : va_G} {cI cII cF : ClassId} {o rk sp pp fp mo m1 m2 m3 m4 m5 m6 m7 m8 m9 : Nat}
variable {a : ax_A} {x : cx_X}
set_option maxRecDepth 100000 in
set_option maxHeartbeats 4000000 in
theorem c_X0_init {w : va_W} {q : Nat} (b i t0 s0 : Int32) : zz_Mv l D (zt cI cII cF) yX0_init cX0_init 5 none 1 20 0 0 [.ref q, .int b, .int i, .int t0, .int s0] (w ++ [(q, .inr (0, [.int 0, .int 0, .int 0, .int 0]))]) (fun w' => w' = (w ++ [(q, .inr (0, [.int b, .int i, .int t0, .int s0]))])) := by
  refine zz_mk (by decide) (Nat.le_of_ble_eq_true rfl) ?_
  intro p e s m below meth c A hC hr hk hnm
  have hC : zz_C p s m _ c A D (zt cI cII cF) 5 cX0_init RX0 := hC
  refine zr_aload_n 0 hC dX0_init_0 rfl rfl ?_
  refine zr_objInit hC dX0_init_1 ml_X0_1 oi_inst oi_code (by decide) (Nat.le_of_ble_eq_true rfl) ?_
  refine zr_aload_n 0 hC dX0_init_4 rfl rfl ?_
  refine zr_iload_n 1 hC dX0_init_5 rfl rfl ?_
  refine zr_putF (w' := (w ++ [(q, .inr (0, [.int b, .int 0, .int 0, .int 0]))])) w.length 0 hC iu_X0 tyX0_ok nmX0 rfl dX0_init_6 fl_X0_7 (by decide) rfl hnm rfl (zl_last _ _) rfl rfl (Nat.le_of_ble_eq_true rfl) (zl_setlast _ _ _) ?_
  refine zr_aload_n 0 hC dX0_init_9 rfl rfl ?_
  refine zr_iload_n 2 hC dX0_init_10 rfl rfl ?_
  refine zr_putF (w' := (w ++ [(q, .inr (0, [.int b, .int i, .int 0, .int 0]))])) w.length 1 hC iu_X0 tyX0_ok nmX0 rfl dX0_init_11 fl_X0_13 (by decide) rfl hnm rfl (zl_last _ _) rfl rfl (Nat.le_of_ble_eq_true rfl) (zl_setlast _ _ _) ?_
  refine zr_aload_n 0 hC dX0_init_14 rfl rfl ?_
  refine zr_iload_n 3 hC dX0_init_15 rfl rfl ?_
  refine zr_putF (w' := (w ++ [(q, .inr (0, [.int b, .int i, .int t0, .int 0]))])) w.length 2 hC iu_X0 tyX0_ok nmX0 rfl dX0_init_16 fl_X0_16 (by decide) rfl hnm rfl (zl_last _ _) rfl rfl (Nat.le_of_ble_eq_true rfl) (zl_setlast _ _ _) ?_
  refine zr_aload_n 0 hC dX0_init_19 rfl rfl ?_
  refine zr_iload 4 hC dX0_init_20 rfl ?_
  refine zr_putF (w' := (w ++ [(q, .inr (0, [.int b, .int i, .int t0, .int s0]))])) w.length 3 hC iu_X0 tyX0_ok nmX0 rfl dX0_init_22 fl_X0_19 (by decide) rfl hnm rfl (zl_last _ _) rfl rfl (Nat.le_of_ble_eq_true rfl) (zl_setlast _ _ _) ?_
  refine zr_vret hC hr hk dX0_init_25 (by decide) (by decide) ⟨rfl, ?_⟩
  exact rfl
set_option maxRecDepth 100000 in
set_option maxHeartbeats 4000000 in
theorem c_X3_fade (hR : rc_R cI cII a x) (b i t s0 : Int32) : zz_Mi l D (zt cI cII cF) yX3_fade cX3_fade 6 (some .int) 3 70 1 4 [.ref o, .int b, .int i, .int t, .int s0] (cw_W o rk sp pp fp cII cF a x) (fun r w' => zp_c o rk sp pp fp cI cII cF (zo_fade a b i t s0) r w') := by
  refine zz_mk (by decide) (Nat.le_of_ble_eq_true rfl) ?_
  intro p e s m below meth c A hC hr hk hnm
  have hC : zz_C p s m _ c A D (zt cI cII cF) 6 cX3_fade RX3 := hC
  refine zr_iload_n 1 hC dX3_fade_0 rfl rfl ?_
  refine zr_cSi hC cs_X3_isBank ml_X3_29 (c_X3_isBank (w := (cw_W o rk sp pp fp cII cF a x)) b) dX3_fade_1 ⟨Nat.le_of_ble_eq_true rfl, Nat.le_of_ble_eq_true rfl⟩ ⟨Nat.le_of_ble_eq_true rfl, Nat.le_of_ble_eq_true rfl⟩ rfl rfl (Nat.le_of_ble_eq_true rfl) ?_
  rintro _ _ ⟨rfl, ⟨rfl, hb_b⟩ | ⟨rfl, hb_b⟩⟩
  · refine zr_if_eqF (tgt := 21) hC dX3_fade_4 (by decide) (by decide) ?_
    refine zr_iload 4 hC dX3_fade_7 rfl ?_
    refine zr_iconst (v := (1 : Int32)) hC dX3_fade_9 rfl ?_
    refine zr_icmp_lt (tgt := 21) hC dX3_fade_10 (by decide) (fun c10 => ?_) (fun c10 => ?_)
    · refine zr_aload_n 0 hC dX3_fade_21 rfl rfl ?_
      refine zr_iconst (v := (1 : Int32)) hC dX3_fade_22 rfl ?_
      refine zr_iconst (v := (0 : Int32)) hC dX3_fade_23 rfl ?_
      refine zr_cVi 0 hC cv_X3_leave ml_X3_36 (c_X3_leave (a := a) (x := x) (1 : Int32) (0 : Int32)) dX3_fade_24 ⟨Nat.le_of_ble_eq_true rfl, Nat.le_of_ble_eq_true rfl⟩ ⟨Nat.le_of_ble_eq_true rfl, Nat.le_of_ble_eq_true rfl⟩ rfl rfl rfl rfl rfl (Nat.le_of_ble_eq_true rfl) ?_
      rintro rr _ ⟨hrr, rfl⟩
      subst rr
      refine zr_iret hC hr hk dX3_fade_27 (by decide) (by decide) ⟨_, rfl, ?_⟩
      exact zp_mk (if_neg (fun h => absurd h.2.1 (Int32.not_le.mpr c10))) hR
    · refine zr_iload 4 hC dX3_fade_13 rfl ?_
      refine zr_sipush (v := (1000 : Int32)) hC dX3_fade_15 rfl ?_
      refine zr_icmp_le (tgt := 28) hC dX3_fade_18 (by decide) (fun c18 => ?_) (fun c18 => ?_)
      · refine zr_aload_n 0 hC dX3_fade_28 rfl rfl ?_
        refine zr_get (v := .int (cx_run x)) 0 3 hC iu_X3 rfl dX3_fade_29 fl_X3_83 (by decide) rfl rfl ?_
        refine zr_bipush (v := (16 : Int32)) hC dX3_fade_32 rfl ?_
        refine zr_icmp_lt (tgt := 45) hC dX3_fade_34 (by decide) (fun c34 => ?_) (fun c34 => ?_)
        · have hl16 : (aa_fd a).length < 16 := by
            rw [hR.2.2.1] at c34
            exact (nI_ltI (b := 16) (by have := hR.2.2.2; omega) (by omega)).mp c34
          refine zr_aload_n 0 hC dX3_fade_45 rfl rfl ?_
          refine zr_iload_n 1 hC dX3_fade_46 rfl rfl ?_
          refine zr_iconst (v := (2 : Int32)) hC dX3_fade_47 rfl ?_
          refine zr_iload_n 2 hC dX3_fade_48 rfl rfl ?_
          refine zr_cVi 0 hC cv_X3_look ml_X3_58 (c_X3_look (a := a) (x := x) hR.1 i hb_b zk_s2) dX3_fade_49 ⟨Nat.le_of_ble_eq_true rfl, Nat.le_of_ble_eq_true rfl⟩ ⟨Nat.le_of_ble_eq_true rfl, Nat.le_of_ble_eq_true rfl⟩ rfl rfl rfl rfl rfl (Nat.le_of_ble_eq_true rfl) ?_
          rintro _ _ (⟨h1, rfl, rfl⟩ | ⟨h1, rfl, rfl⟩)
          · refine zr_istore (lv' := [(5, .int (0 : Int32)), (0, .ref o), (1, .int b), (2, .int i), (3, .int t), (4, .int s0)]) hC dX3_fade_52 (by decide) rfl ?_
            refine zr_iload 0 hC dX3_fade_54 rfl ?_
            refine zr_if_eqT (tgt := 67) hC dX3_fade_56 (by decide) (by decide) ?_
            refine zr_aload_n 1 hC dX3_fade_67 rfl rfl ?_
            refine zr_get (v := .ref fp) 0 2 hC iu_X3 rfl dX3_fade_68 fl_X3_25 (by decide) rfl rfl ?_
            refine zr_aload_n 1 hC dX3_fade_71 rfl rfl ?_
            refine zr_get (v := .int (cx_run x)) 0 3 hC iu_X3 rfl dX3_fade_72 fl_X3_83 (by decide) rfl rfl ?_
            refine zr_new (ci := 0) (fs := [.int 0, .int 0, .int 0, .int 0]) hC iu_X0 tyX0_ok rfl dX3_fade_75 cl_X3_23 it_X0 in_X0 (fun j hj => by rcases (show j = 0 ∨ j = 1 ∨ j = 2 ∨ j = 3 by omega) with rfl | rfl | rfl | rfl <;> rfl) (by decide) (by decide) (fun q hDq => ?_)
            refine zr_dup hC dX3_fade_78 rfl ?_
            refine zr_iload_n 2 hC dX3_fade_79 rfl rfl ?_
            refine zr_iload_n 3 hC dX3_fade_80 rfl rfl ?_
            refine zr_iload_n 4 hC dX3_fade_81 rfl rfl ?_
            refine zr_cSi hC cs_X3_asLevel ml_X3_70 (c_X3_asLevel (w := ((cw_W o rk sp pp fp cII cF a (ck_fnd x (zf_val (aa_st a) (zl b 2) i))) ++ [(q, .inr (0, [.int 0, .int 0, .int 0, .int 0]))])) t) dX3_fade_82 ⟨Nat.le_of_ble_eq_true rfl, Nat.le_of_ble_eq_true rfl⟩ ⟨Nat.le_of_ble_eq_true rfl, Nat.le_of_ble_eq_true rfl⟩ rfl rfl (Nat.le_of_ble_eq_true rfl) ?_
            rintro _ _ ⟨rfl, rfl⟩
            refine zr_iload 5 hC dX3_fade_85 rfl ?_
            refine zr_cIv hC ci_X0_init ml_X3_86 (c_X0_init (w := (cw_W o rk sp pp fp cII cF a (ck_fnd x (zf_val (aa_st a) (zl b 2) i)))) (q := q) b i (zf_lev t) s0) dX3_fade_87 ⟨Nat.le_of_ble_eq_true rfl, Nat.le_of_ble_eq_true rfl⟩ ⟨Nat.le_of_ble_eq_true rfl, Nat.le_of_ble_eq_true rfl⟩ rfl rfl (Nat.le_of_ble_eq_true rfl) ?_
            rintro _ rfl
            refine zr_apart (fun hD9 => ?_)
            obtain ⟨hqL, hpush⟩ := cw_push hD9
            refine zr_eq (w' := (cw_W o rk sp pp fp cII cF a (ck_ent (ck_L (ck_fnd x (zf_val (aa_st a) (zl b 2) i)) (cx_L (ck_fnd x (zf_val (aa_st a) (zl b 2) i)) ++ [q])) (va_up (cx_ent (ck_fnd x (zf_val (aa_st a) (zl b 2) i))) q (.inr (0, [.int b, .int i, .int (zf_lev t), .int s0])))))) rfl hpush ?_
            obtain ⟨kq, hkq⟩ := cw_get (o := o) (rk := rk) (sp := sp) (pp := pp) (fp := fp) (cII := cII) (cF := cF) (a := a) (x := (ck_ent (ck_L (ck_fnd x (zf_val (aa_st a) (zl b 2) i)) (cx_L (ck_fnd x (zf_val (aa_st a) (zl b 2) i)) ++ [q])) (va_up (cx_ent (ck_fnd x (zf_val (aa_st a) (zl b 2) i))) q (.inr (0, [.int b, .int i, .int (zf_lev t), .int s0]))))) (q := q) (List.mem_append_right _ (List.mem_singleton.mpr rfl)) (va_up_self _ _ _)
            refine zr_asjq (j := (aa_fd a).length) (w' := (cw_W o rk sp pp fp cII cF a (ck_g (ck_ent (ck_L (ck_fnd x (zf_val (aa_st a) (zl b 2) i)) (cx_L (ck_fnd x (zf_val (aa_st a) (zl b 2) i)) ++ [q])) (va_up (cx_ent (ck_fnd x (zf_val (aa_st a) (zl b 2) i))) q (.inr (0, [.int b, .int i, .int (zf_lev t), .int s0])))) (va_up (cx_g x) (aa_fd a).length (some q))))) 4 2 kq hC dX3_fade_90 rfl rfl hkq rfl hl16 hR.2.2.1 (by decide) rfl ?_
            refine zr_aload_n 1 hC dX3_fade_91 rfl rfl ?_
            refine zr_dup hC dX3_fade_92 rfl ?_
            refine zr_get (v := .int (cx_run x)) 0 3 hC iu_X3 rfl dX3_fade_93 fl_X3_83 (by decide) rfl rfl ?_
            refine zr_iconst (v := (1 : Int32)) hC dX3_fade_96 rfl ?_
            refine zr_iadd hC dX3_fade_97 ?_
            refine zr_put (w' := (cw_W o rk sp pp fp cII cF a (ck_run (ck_g (ck_ent (ck_L (ck_fnd x (zf_val (aa_st a) (zl b 2) i)) (cx_L (ck_fnd x (zf_val (aa_st a) (zl b 2) i)) ++ [q])) (va_up (cx_ent (ck_fnd x (zf_val (aa_st a) (zl b 2) i))) q (.inr (0, [.int b, .int i, .int (zf_lev t), .int s0])))) (va_up (cx_g x) (aa_fd a).length (some q))) ((cx_run x) + (1 : Int32))))) 0 3 hC iu_X3 tyX3_ok nmX3 rfl dX3_fade_98 fl_X3_83 (by decide) rfl rfl rfl rfl (Nat.le_of_ble_eq_true rfl) rfl ?_
            refine zr_aload_n 1 hC dX3_fade_101 rfl rfl ?_
            refine zr_iconst (v := (0 : Int32)) hC dX3_fade_102 rfl ?_
            refine zr_aload_n 1 hC dX3_fade_103 rfl rfl ?_
            refine zr_get (v := .int ((cx_run x) + (1 : Int32))) 0 3 hC iu_X3 rfl dX3_fade_104 fl_X3_83 (by decide) rfl rfl ?_
            refine zr_cVi 0 hC cv_X3_leave ml_X3_36 (c_X3_leave (a := a) (x := (ck_run (ck_g (ck_ent (ck_L (ck_fnd x (zf_val (aa_st a) (zl b 2) i)) (cx_L (ck_fnd x (zf_val (aa_st a) (zl b 2) i)) ++ [q])) (va_up (cx_ent (ck_fnd x (zf_val (aa_st a) (zl b 2) i))) q (.inr (0, [.int b, .int i, .int (zf_lev t), .int s0])))) (va_up (cx_g x) (aa_fd a).length (some q))) ((cx_run x) + (1 : Int32)))) (0 : Int32) ((cx_run x) + (1 : Int32))) dX3_fade_107 ⟨Nat.le_of_ble_eq_true rfl, Nat.le_of_ble_eq_true rfl⟩ ⟨Nat.le_of_ble_eq_true rfl, Nat.le_of_ble_eq_true rfl⟩ rfl rfl rfl rfl rfl (Nat.le_of_ble_eq_true rfl) ?_
            rintro rr _ ⟨hrr, rfl⟩
            subst rr
            refine zr_iret hC hr hk dX3_fade_110 (by decide) (by decide) ⟨_, rfl, ?_⟩
            exact zp_mw (a' := as_sta (as_fd a (aa_fd a ++ [(b, i, zf_lev t, s0)])) 0) (x' := (ck_run (ck_g (ck_ent (ck_L (ck_fnd x (zf_val (aa_st a) (zl b 2) i)) (cx_L (ck_fnd x (zf_val (aa_st a) (zl b 2) i)) ++ [q])) (va_up (cx_ent (ck_fnd x (zf_val (aa_st a) (zl b 2) i))) q (.inr (0, [.int b, .int i, .int (zf_lev t), .int s0])))) (va_up (cx_g x) (aa_fd a).length (some q))) ((cx_run x) + (1 : Int32)))) (by unfold zo_fade; rw [if_pos ⟨hb_b, Int32.not_lt.mp c10, c18⟩, if_pos hl16, if_pos h1, hR.2.2.1, nI_1]) (rc_fade hR hqL hb_b hl16 (by rw [hR.2.2.1, nI_1]) _) rfl
          · refine zr_istore (lv' := [(5, .int (zf_why (aa_st a) (zl b 2) i)), (0, .ref o), (1, .int b), (2, .int i), (3, .int t), (4, .int s0)]) hC dX3_fade_52 (by decide) rfl ?_
            refine zr_iload 0 hC dX3_fade_54 rfl ?_
            refine zr_if_eqF (tgt := 67) hC dX3_fade_56 (by decide) h1 ?_
            refine zr_aload_n 1 hC dX3_fade_59 rfl rfl ?_
            refine zr_iload 0 hC dX3_fade_60 rfl ?_
            refine zr_iconst (v := (0 : Int32)) hC dX3_fade_62 rfl ?_
            refine zr_cVi 0 hC cv_X3_leave ml_X3_36 (c_X3_leave (a := (zf_cnt (zf_why (aa_st a) (zl b 2) i) a)) (x := x) (zf_why (aa_st a) (zl b 2) i) (0 : Int32)) dX3_fade_63 ⟨Nat.le_of_ble_eq_true rfl, Nat.le_of_ble_eq_true rfl⟩ ⟨Nat.le_of_ble_eq_true rfl, Nat.le_of_ble_eq_true rfl⟩ rfl rfl rfl rfl rfl (Nat.le_of_ble_eq_true rfl) ?_
            rintro rr _ ⟨hrr, rfl⟩
            subst rr
            refine zr_iret hC hr hk dX3_fade_66 (by decide) (by decide) ⟨_, rfl, ?_⟩
            exact zp_mk (by unfold zo_fade; rw [if_pos ⟨hb_b, Int32.not_lt.mp c10, c18⟩, if_pos hl16, if_neg h1]) hR
        · refine zr_aload_n 0 hC dX3_fade_37 rfl rfl ?_
          refine zr_bipush (v := (6 : Int32)) hC dX3_fade_38 rfl ?_
          refine zr_iconst (v := (0 : Int32)) hC dX3_fade_40 rfl ?_
          refine zr_cVi 0 hC cv_X3_leave ml_X3_36 (c_X3_leave (a := a) (x := x) (6 : Int32) (0 : Int32)) dX3_fade_41 ⟨Nat.le_of_ble_eq_true rfl, Nat.le_of_ble_eq_true rfl⟩ ⟨Nat.le_of_ble_eq_true rfl, Nat.le_of_ble_eq_true rfl⟩ rfl rfl rfl rfl rfl (Nat.le_of_ble_eq_true rfl) ?_
          rintro rr _ ⟨hrr, rfl⟩
          subst rr
          refine zr_iret hC hr hk dX3_fade_44 (by decide) (by decide) ⟨_, rfl, ?_⟩
          exact zp_mk (by unfold zo_fade; rw [if_pos ⟨hb_b, Int32.not_lt.mp c10, c18⟩, if_neg (fun h => c34 (by rw [hR.2.2.1]; exact nI_lt (b := 16) h (by omega)))]) hR
      · refine zr_aload_n 0 hC dX3_fade_21 rfl rfl ?_
        refine zr_iconst (v := (1 : Int32)) hC dX3_fade_22 rfl ?_
        refine zr_iconst (v := (0 : Int32)) hC dX3_fade_23 rfl ?_
        refine zr_cVi 0 hC cv_X3_leave ml_X3_36 (c_X3_leave (a := a) (x := x) (1 : Int32) (0 : Int32)) dX3_fade_24 ⟨Nat.le_of_ble_eq_true rfl, Nat.le_of_ble_eq_true rfl⟩ ⟨Nat.le_of_ble_eq_true rfl, Nat.le_of_ble_eq_true rfl⟩ rfl rfl rfl rfl rfl (Nat.le_of_ble_eq_true rfl) ?_
        rintro rr _ ⟨hrr, rfl⟩
        subst rr
        refine zr_iret hC hr hk dX3_fade_27 (by decide) (by decide) ⟨_, rfl, ?_⟩
        exact zp_mk (if_neg (fun h => absurd h.2.2 c18)) hR
  · refine zr_if_eqT (tgt := 21) hC dX3_fade_4 (by decide) (by decide) ?_
    refine zr_aload_n 0 hC dX3_fade_21 rfl rfl ?_
    refine zr_iconst (v := (1 : Int32)) hC dX3_fade_22 rfl ?_
    refine zr_iconst (v := (0 : Int32)) hC dX3_fade_23 rfl ?_
    refine zr_cVi 0 hC cv_X3_leave ml_X3_36 (c_X3_leave (a := a) (x := x) (1 : Int32) (0 : Int32)) dX3_fade_24 ⟨Nat.le_of_ble_eq_true rfl, Nat.le_of_ble_eq_true rfl⟩ ⟨Nat.le_of_ble_eq_true rfl, Nat.le_of_ble_eq_true rfl⟩ rfl rfl rfl rfl rfl (Nat.le_of_ble_eq_true rfl) ?_
    rintro rr _ ⟨hrr, rfl⟩
    subst rr
    refine zr_iret hC hr hk dX3_fade_27 (by decide) (by decide) ⟨_, rfl, ?_⟩
    exact zp_mk (if_neg (fun h => absurd h.1 hb_b)) hR
set_option maxRecDepth 100000 in
set_option maxHeartbeats 4000000 in
theorem c_X3_tear (hR : rc_R cI cII a x) (i k : Int32) : zz_Mi l D (zt cI cII cF) yX3_tear cX3_tear 5 (some .int) 2 41 0 0 [.ref o, .int i, .int k] (cw_W o rk sp pp fp cII cF a x) (fun r w' => zp_c o rk sp pp fp cI cII cF (zo_tear a i k) r w') := by
  refine zz_mk (by decide) (Nat.le_of_ble_eq_true rfl) ?_
  intro p e s m below meth c A hC hr hk hnm
  have hC : zz_C p s m _ c A D (zt cI cII cF) 5 cX3_tear RX3 := hC
  refine zr_iconst (v := (0 : Int32)) hC dX3_tear_0 rfl ?_
  refine zr_istore_n (lv' := [(3, .int (0 : Int32)), (0, .ref o), (1, .int i), (2, .int k)]) hC dX3_tear_1 rfl (by decide) rfl ?_
  refine zr_aload_n 1 hC dX3_tear_2 rfl rfl ?_
  refine zr_get (v := .ref pp) 0 1 hC iu_X3 rfl dX3_tear_3 fl_X3_19 (by decide) rfl rfl ?_
  refine zr_cVi 3 hC cv_X1_isThere ml_X3_104 (c_X1_isThere (a := a) (x := x) hR.1) dX3_tear_6 ⟨Nat.le_of_ble_eq_true rfl, Nat.le_of_ble_eq_true rfl⟩ ⟨Nat.le_of_ble_eq_true rfl, Nat.le_of_ble_eq_true rfl⟩ rfl rfl rfl rfl rfl (Nat.le_of_ble_eq_true rfl) ?_
  rintro _ _ ⟨rfl, ⟨rfl, hth⟩ | ⟨rfl, hth⟩⟩
  · refine zr_if_neT (tgt := 17) hC dX3_tear_9 (by decide) (by decide) ?_
    refine zr_iload_n 3 hC dX3_tear_17 rfl rfl ?_
    refine zr_iconst (v := (-1 : Int32)) hC dX3_tear_18 rfl ?_
    refine zr_icmp_eq (tgt := 33) hC dX3_tear_19 (by decide) (fun c19 => ?_) (fun c19 => ?_)
    · refine zr_aload_n 1 hC dX3_tear_33 rfl rfl ?_
      refine zr_get (v := .ref pp) 0 1 hC iu_X3 rfl dX3_tear_34 fl_X3_19 (by decide) rfl rfl ?_
      refine zr_iload_n 2 hC dX3_tear_37 rfl rfl ?_
      refine zr_cVi 3 hC cv_X1_hasRow ml_X3_108 (c_X1_hasRow (a := a) (x := x) hR.1 i) dX3_tear_38 ⟨Nat.le_of_ble_eq_true rfl, Nat.le_of_ble_eq_true rfl⟩ ⟨Nat.le_of_ble_eq_true rfl, Nat.le_of_ble_eq_true rfl⟩ rfl rfl rfl rfl rfl (Nat.le_of_ble_eq_true rfl) ?_
      rintro _ _ ⟨rfl, ⟨rfl, hw_i⟩ | ⟨rfl, hw_i⟩⟩
      · refine zr_if_neT (tgt := 46) hC dX3_tear_41 (by decide) (by decide) ?_
        refine zr_iload_n 0 hC dX3_tear_46 rfl rfl ?_
        refine zr_if_eqT (tgt := 61) hC dX3_tear_47 (by decide) (by decide) ?_
        obtain ⟨q, n, m0, hh, hq, hL, hent, hn, hm, hdim, hrows, g6, g7⟩ := rc_dim hR.1 hth
        have hwi := hw_i
        rw [hrows] at hwi
        obtain ⟨ii, hii, rfl⟩ := zn_lt (by omega) hwi
        refine zr_iload_n 3 hC dX3_tear_61 rfl rfl ?_
        refine zr_iconst (v := (-1 : Int32)) hC dX3_tear_62 rfl ?_
        refine zr_icmp_ne (tgt := 70) hC dX3_tear_63 (by decide) (fun h => absurd c19 h) (fun _ => ?_)
        refine zr_null hC dX3_tear_66 ?_
        refine zr_goto (tgt := 78) hC dX3_tear_67 (by decide) ?_
        refine zr_astoreN (lv' := [(4, .null), (3, .int (0 : Int32)), (0, .ref o), (1, .int (nI ii)), (2, .int k)]) hC dX3_tear_78 (by decide) rfl ?_
        refine zr_aload_n 2 hC dX3_tear_80 rfl rfl ?_
        refine zr_get (v := .ref pp) 0 1 hC iu_X3 rfl dX3_tear_81 fl_X3_19 (by decide) rfl rfl ?_
        refine zr_iload_n 3 hC dX3_tear_84 rfl rfl ?_
        refine zr_aloadN 0 hC dX3_tear_85 rfl ?_
        refine zr_cVv 3 hC cv_X1_replaceRow ml_X3_115 (c_X1_replaceRowN (a := a) (x := x) hq hL hent hn hii) dX3_tear_87 ⟨Nat.le_of_ble_eq_true rfl, Nat.le_of_ble_eq_true rfl⟩ ⟨Nat.le_of_ble_eq_true rfl, Nat.le_of_ble_eq_true rfl⟩ rfl rfl rfl rfl rfl (Nat.le_of_ble_eq_true rfl) ?_
        rintro _ rfl
        refine zr_aload_n 2 hC dX3_tear_90 rfl rfl ?_
        refine zr_iconst (v := (0 : Int32)) hC dX3_tear_91 rfl ?_
        refine zr_aloadN 0 hC dX3_tear_92 rfl ?_
        refine zr_ifnullN (tgt := 101) hC dX3_tear_94 (by decide) ?_
        refine zr_iconst (v := (0 : Int32)) hC dX3_tear_101 rfl ?_
        refine zr_cVi 0 hC cv_X3_leave ml_X3_36 (c_X3_leave (a := a) (x := (ck_ent x (va_up (cx_ent x) q (ze_q cII n (va_up hh ii none))))) (0 : Int32) (0 : Int32)) dX3_tear_102 ⟨Nat.le_of_ble_eq_true rfl, Nat.le_of_ble_eq_true rfl⟩ ⟨Nat.le_of_ble_eq_true rfl, Nat.le_of_ble_eq_true rfl⟩ rfl rfl rfl rfl rfl (Nat.le_of_ble_eq_true rfl) ?_
        rintro rr _ ⟨hrr, rfl⟩
        subst rr
        refine zr_iret hC hr hk dX3_tear_105 (by decide) (by decide) ⟨_, rfl, ?_⟩
        exact zp_mw (a' := as_sta (as_sh a (zf_tear0 (aa_sh a) ii)) 0) (x' := (ck_ent x (va_up (cx_ent x) q (ze_q cII n (va_up hh ii none))))) (by unfold zo_tear; rw [if_neg hth, if_pos ⟨Or.inl c19, hw_i⟩, if_pos c19, nI_clamp (by omega)]) (hR.of (rc_tear0 hR.1 hq hent hdim) (cx_K.put hent) rfl) rfl
      · refine zr_if_neF (tgt := 46) hC dX3_tear_41 (by decide) (by decide) ?_
        refine zr_iconst (v := (3 : Int32)) hC dX3_tear_44 rfl ?_
        refine zr_istore_n (lv' := [(3, .int (3 : Int32)), (0, .ref o), (1, .int i), (2, .int k)]) hC dX3_tear_45 rfl (by decide) rfl ?_
        refine zr_iload_n 0 hC dX3_tear_46 rfl rfl ?_
        refine zr_if_eqF (tgt := 61) hC dX3_tear_47 (by decide) (by decide) ?_
        refine zr_aload_n 1 hC dX3_tear_50 rfl rfl ?_
        refine zr_aload_n 1 hC dX3_tear_51 rfl rfl ?_
        refine zr_iload_n 0 hC dX3_tear_52 rfl rfl ?_
        refine zr_cVi 0 hC cv_X3_counted ml_X3_40 (c_X3_counted (a := a) (x := x) (3 : Int32)) dX3_tear_53 ⟨Nat.le_of_ble_eq_true rfl, Nat.le_of_ble_eq_true rfl⟩ ⟨Nat.le_of_ble_eq_true rfl, Nat.le_of_ble_eq_true rfl⟩ rfl rfl rfl rfl rfl (Nat.le_of_ble_eq_true rfl) ?_
        rintro _ _ ⟨rfl, rfl⟩
        refine zr_iconst (v := (0 : Int32)) hC dX3_tear_56 rfl ?_
        refine zr_cVi 0 hC cv_X3_leave ml_X3_36 (c_X3_leave (a := (zf_cnt (3 : Int32) a)) (x := x) (3 : Int32) (0 : Int32)) dX3_tear_57 ⟨Nat.le_of_ble_eq_true rfl, Nat.le_of_ble_eq_true rfl⟩ ⟨Nat.le_of_ble_eq_true rfl, Nat.le_of_ble_eq_true rfl⟩ rfl rfl rfl rfl rfl (Nat.le_of_ble_eq_true rfl) ?_
        rintro rr _ ⟨hrr, rfl⟩
        subst rr
        refine zr_iret hC hr hk dX3_tear_60 (by decide) (by decide) ⟨_, rfl, ?_⟩
        exact zp_mk (by unfold zo_tear; rw [if_neg hth, if_neg (fun h => absurd h.2 hw_i)]) hR
    · refine zr_aload_n 1 hC dX3_tear_22 rfl rfl ?_
      refine zr_get (v := .ref pp) 0 1 hC iu_X3 rfl dX3_tear_23 fl_X3_19 (by decide) rfl rfl ?_
      refine zr_iload_n 3 hC dX3_tear_26 rfl rfl ?_
      refine zr_cVi 3 hC cv_X1_hasRow ml_X3_108 (c_X1_hasRow (a := a) (x := x) hR.1 k) dX3_tear_27 ⟨Nat.le_of_ble_eq_true rfl, Nat.le_of_ble_eq_true rfl⟩ ⟨Nat.le_of_ble_eq_true rfl, Nat.le_of_ble_eq_true rfl⟩ rfl rfl rfl rfl rfl (Nat.le_of_ble_eq_true rfl) ?_
      rintro _ _ ⟨rfl, ⟨rfl, hw_k⟩ | ⟨rfl, hw_k⟩⟩
      · refine zr_if_eqF (tgt := 44) hC dX3_tear_30 (by decide) (by decide) ?_
        refine zr_aload_n 1 hC dX3_tear_33 rfl rfl ?_
        refine zr_get (v := .ref pp) 0 1 hC iu_X3 rfl dX3_tear_34 fl_X3_19 (by decide) rfl rfl ?_
        refine zr_iload_n 2 hC dX3_tear_37 rfl rfl ?_
        refine zr_cVi 3 hC cv_X1_hasRow ml_X3_108 (c_X1_hasRow (a := a) (x := x) hR.1 i) dX3_tear_38 ⟨Nat.le_of_ble_eq_true rfl, Nat.le_of_ble_eq_true rfl⟩ ⟨Nat.le_of_ble_eq_true rfl, Nat.le_of_ble_eq_true rfl⟩ rfl rfl rfl rfl rfl (Nat.le_of_ble_eq_true rfl) ?_
        rintro _ _ ⟨rfl, ⟨rfl, hw_i⟩ | ⟨rfl, hw_i⟩⟩
        · refine zr_if_neT (tgt := 46) hC dX3_tear_41 (by decide) (by decide) ?_
          refine zr_iload_n 0 hC dX3_tear_46 rfl rfl ?_
          refine zr_if_eqT (tgt := 61) hC dX3_tear_47 (by decide) (by decide) ?_
          obtain ⟨q, n, m0, hh, hq, hL, hent, hn, hm, hdim, hrows, g6, g7⟩ := rc_dim hR.1 hth
          have hwi := hw_i
          rw [hrows] at hwi
          obtain ⟨ii, hii, rfl⟩ := zn_lt (by omega) hwi
          have hwk := hw_k
          rw [hrows] at hwk
          obtain ⟨kk, hkk, rfl⟩ := zn_lt (by omega) hwk
          refine zr_iload_n 3 hC dX3_tear_61 rfl rfl ?_
          refine zr_iconst (v := (-1 : Int32)) hC dX3_tear_62 rfl ?_
          refine zr_icmp_ne (tgt := 70) hC dX3_tear_63 (by decide) (fun _ => ?_) (fun h => absurd h c19)
          refine zr_aload_n 1 hC dX3_tear_70 rfl rfl ?_
          refine zr_get (v := .ref pp) 0 1 hC iu_X3 rfl dX3_tear_71 fl_X3_19 (by decide) rfl rfl ?_
          refine zr_iload_n 3 hC dX3_tear_74 rfl rfl ?_
          refine zr_cVr 3 hC cv_X1_rowOf ml_X3_111 (c_X1_rowOf (a := a) (x := x) hq hL hent hn hkk) dX3_tear_75 ⟨Nat.le_of_ble_eq_true rfl, Nat.le_of_ble_eq_true rfl⟩ ⟨Nat.le_of_ble_eq_true rfl, Nat.le_of_ble_eq_true rfl⟩ rfl rfl rfl rfl rfl (Nat.le_of_ble_eq_true rfl) ?_
          rintro r0 _ ⟨hr0, rfl⟩
          refine zr_rf (fun hy => ?_) (fun y hy => ?_)
          · have hy := hr0.symm.trans hy
            refine zr_astoreN (lv' := [(4, .null), (3, .int (0 : Int32)), (0, .ref o), (1, .int (nI ii)), (2, .int (nI kk))]) hC dX3_tear_78 (by decide) rfl ?_
            refine zr_aload_n 2 hC dX3_tear_80 rfl rfl ?_
            refine zr_get (v := .ref pp) 0 1 hC iu_X3 rfl dX3_tear_81 fl_X3_19 (by decide) rfl rfl ?_
            refine zr_iload_n 3 hC dX3_tear_84 rfl rfl ?_
            refine zr_aloadN 0 hC dX3_tear_85 rfl ?_
            refine zr_cVv 3 hC cv_X1_replaceRow ml_X3_115 (c_X1_replaceRowN (a := a) (x := x) hq hL hent hn hii) dX3_tear_87 ⟨Nat.le_of_ble_eq_true rfl, Nat.le_of_ble_eq_true rfl⟩ ⟨Nat.le_of_ble_eq_true rfl, Nat.le_of_ble_eq_true rfl⟩ rfl rfl rfl rfl rfl (Nat.le_of_ble_eq_true rfl) ?_
            rintro _ rfl
            refine zr_aload_n 2 hC dX3_tear_90 rfl rfl ?_
            refine zr_iconst (v := (0 : Int32)) hC dX3_tear_91 rfl ?_
            refine zr_aloadN 0 hC dX3_tear_92 rfl ?_
            refine zr_ifnullN (tgt := 101) hC dX3_tear_94 (by decide) ?_
            refine zr_iconst (v := (0 : Int32)) hC dX3_tear_101 rfl ?_
            refine zr_cVi 0 hC cv_X3_leave ml_X3_36 (c_X3_leave (a := a) (x := (ck_ent x (va_up (cx_ent x) q (ze_q cII n (va_up hh ii none))))) (0 : Int32) (0 : Int32)) dX3_tear_102 ⟨Nat.le_of_ble_eq_true rfl, Nat.le_of_ble_eq_true rfl⟩ ⟨Nat.le_of_ble_eq_true rfl, Nat.le_of_ble_eq_true rfl⟩ rfl rfl rfl rfl rfl (Nat.le_of_ble_eq_true rfl) ?_
            rintro rr _ ⟨hrr, rfl⟩
            subst rr
            refine zr_iret hC hr hk dX3_tear_105 (by decide) (by decide) ⟨_, rfl, ?_⟩
            exact zp_mw (a' := as_sta (as_sh a (zf_tearS (aa_sh a) ii kk)) 0) (x' := (ck_ent x (va_up (cx_ent x) q (ze_q cII n (va_up hh ii none))))) (by unfold zo_tear; rw [if_neg hth, if_pos ⟨Or.inr hw_k, hw_i⟩, if_neg c19, nI_clamp (by omega), nI_clamp (by omega), if_neg (by rw [(g6 kk hkk).mp hy]; decide)]) (hR.of (by have h9 := rc_tearS hR.1 (i := ii) hq hent hdim hkk; rw [hy] at h9; exact h9) (cx_K.put hent) rfl) rfl
          · have hy := hr0.symm.trans hy
            obtain ⟨hyL, z, hey⟩ := g7 kk y hkk hy
            refine zr_astore (lv' := [(4, .ref y), (3, .int (0 : Int32)), (0, .ref o), (1, .int (nI ii)), (2, .int (nI kk))]) hC dX3_tear_78 (by decide) rfl ?_
            refine zr_aload_n 2 hC dX3_tear_80 rfl rfl ?_
            refine zr_get (v := .ref pp) 0 1 hC iu_X3 rfl dX3_tear_81 fl_X3_19 (by decide) rfl rfl ?_
            refine zr_iload_n 3 hC dX3_tear_84 rfl rfl ?_
            refine zr_aload 0 hC dX3_tear_85 rfl ?_
            refine zr_cVv 3 hC cv_X1_replaceRow ml_X3_115 (c_X1_replaceRowA (a := a) (x := x) hq hL hent hn hii hyL hey) dX3_tear_87 ⟨Nat.le_of_ble_eq_true rfl, Nat.le_of_ble_eq_true rfl⟩ ⟨Nat.le_of_ble_eq_true rfl, Nat.le_of_ble_eq_true rfl⟩ rfl rfl rfl rfl rfl (Nat.le_of_ble_eq_true rfl) ?_
            rintro _ rfl
            refine zr_aload_n 2 hC dX3_tear_90 rfl rfl ?_
            refine zr_iconst (v := (0 : Int32)) hC dX3_tear_91 rfl ?_
            refine zr_aload 0 hC dX3_tear_92 rfl ?_
            refine zr_ifnull hC dX3_tear_94 ?_
            refine zr_iconst (v := (1 : Int32)) hC dX3_tear_97 rfl ?_
            refine zr_goto (tgt := 102) hC dX3_tear_98 (by decide) ?_
            refine zr_cVi 0 hC cv_X3_leave ml_X3_36 (c_X3_leave (a := a) (x := (ck_ent x (va_up (cx_ent x) q (ze_q cII n (va_up hh ii (some y)))))) (0 : Int32) (1 : Int32)) dX3_tear_102 ⟨Nat.le_of_ble_eq_true rfl, Nat.le_of_ble_eq_true rfl⟩ ⟨Nat.le_of_ble_eq_true rfl, Nat.le_of_ble_eq_true rfl⟩ rfl rfl rfl rfl rfl (Nat.le_of_ble_eq_true rfl) ?_
            rintro rr _ ⟨hrr, rfl⟩
            subst rr
            refine zr_iret hC hr hk dX3_tear_105 (by decide) (by decide) ⟨_, rfl, ?_⟩
            exact zp_mw (a' := as_sta (as_sh a (zf_tearS (aa_sh a) ii kk)) 0) (x' := (ck_ent x (va_up (cx_ent x) q (ze_q cII n (va_up hh ii (some y)))))) (by unfold zo_tear; rw [if_neg hth, if_pos ⟨Or.inr hw_k, hw_i⟩, if_neg c19, nI_clamp (by omega), nI_clamp (by omega), if_pos (by cases e0 : (aa_sh a).2.1 kk with | true => rfl | false => rw [(g6 kk hkk).mpr e0] at hy; cases hy)]) (hR.of (by have h9 := rc_tearS hR.1 (i := ii) hq hent hdim hkk; rw [hy] at h9; exact h9) (cx_K.put hent) rfl) rfl
        · refine zr_if_neF (tgt := 46) hC dX3_tear_41 (by decide) (by decide) ?_
          refine zr_iconst (v := (3 : Int32)) hC dX3_tear_44 rfl ?_
          refine zr_istore_n (lv' := [(3, .int (3 : Int32)), (0, .ref o), (1, .int i), (2, .int k)]) hC dX3_tear_45 rfl (by decide) rfl ?_
          refine zr_iload_n 0 hC dX3_tear_46 rfl rfl ?_
          refine zr_if_eqF (tgt := 61) hC dX3_tear_47 (by decide) (by decide) ?_
          refine zr_aload_n 1 hC dX3_tear_50 rfl rfl ?_
          refine zr_aload_n 1 hC dX3_tear_51 rfl rfl ?_
          refine zr_iload_n 0 hC dX3_tear_52 rfl rfl ?_
          refine zr_cVi 0 hC cv_X3_counted ml_X3_40 (c_X3_counted (a := a) (x := x) (3 : Int32)) dX3_tear_53 ⟨Nat.le_of_ble_eq_true rfl, Nat.le_of_ble_eq_true rfl⟩ ⟨Nat.le_of_ble_eq_true rfl, Nat.le_of_ble_eq_true rfl⟩ rfl rfl rfl rfl rfl (Nat.le_of_ble_eq_true rfl) ?_
          rintro _ _ ⟨rfl, rfl⟩
          refine zr_iconst (v := (0 : Int32)) hC dX3_tear_56 rfl ?_
          refine zr_cVi 0 hC cv_X3_leave ml_X3_36 (c_X3_leave (a := (zf_cnt (3 : Int32) a)) (x := x) (3 : Int32) (0 : Int32)) dX3_tear_57 ⟨Nat.le_of_ble_eq_true rfl, Nat.le_of_ble_eq_true rfl⟩ ⟨Nat.le_of_ble_eq_true rfl, Nat.le_of_ble_eq_true rfl⟩ rfl rfl rfl rfl rfl (Nat.le_of_ble_eq_true rfl) ?_
          rintro rr _ ⟨hrr, rfl⟩
          subst rr
          refine zr_iret hC hr hk dX3_tear_60 (by decide) (by decide) ⟨_, rfl, ?_⟩
          exact zp_mk (by unfold zo_tear; rw [if_neg hth, if_neg (fun h => absurd h.2 hw_i)]) hR
      · refine zr_if_eqT (tgt := 44) hC dX3_tear_30 (by decide) (by decide) ?_
        refine zr_iconst (v := (3 : Int32)) hC dX3_tear_44 rfl ?_
        refine zr_istore_n (lv' := [(3, .int (3 : Int32)), (0, .ref o), (1, .int i), (2, .int k)]) hC dX3_tear_45 rfl (by decide) rfl ?_
        refine zr_iload_n 0 hC dX3_tear_46 rfl rfl ?_
        refine zr_if_eqF (tgt := 61) hC dX3_tear_47 (by decide) (by decide) ?_
        refine zr_aload_n 1 hC dX3_tear_50 rfl rfl ?_
        refine zr_aload_n 1 hC dX3_tear_51 rfl rfl ?_
        refine zr_iload_n 0 hC dX3_tear_52 rfl rfl ?_
        refine zr_cVi 0 hC cv_X3_counted ml_X3_40 (c_X3_counted (a := a) (x := x) (3 : Int32)) dX3_tear_53 ⟨Nat.le_of_ble_eq_true rfl, Nat.le_of_ble_eq_true rfl⟩ ⟨Nat.le_of_ble_eq_true rfl, Nat.le_of_ble_eq_true rfl⟩ rfl rfl rfl rfl rfl (Nat.le_of_ble_eq_true rfl) ?_
        rintro _ _ ⟨rfl, rfl⟩
        refine zr_iconst (v := (0 : Int32)) hC dX3_tear_56 rfl ?_
        refine zr_cVi 0 hC cv_X3_leave ml_X3_36 (c_X3_leave (a := (zf_cnt (3 : Int32) a)) (x := x) (3 : Int32) (0 : Int32)) dX3_tear_57 ⟨Nat.le_of_ble_eq_true rfl, Nat.le_of_ble_eq_true rfl⟩ ⟨Nat.le_of_ble_eq_true rfl, Nat.le_of_ble_eq_true rfl⟩ rfl rfl rfl rfl rfl (Nat.le_of_ble_eq_true rfl) ?_
        rintro rr _ ⟨hrr, rfl⟩
        subst rr
        refine zr_iret hC hr hk dX3_tear_60 (by decide) (by decide) ⟨_, rfl, ?_⟩
        exact zp_mk (by unfold zo_tear; rw [if_neg hth, if_neg (fun h => h.1.elim c19 hw_k)]) hR
  · refine zr_if_neF (tgt := 17) hC dX3_tear_9 (by decide) (by decide) ?_
    refine zr_iconst (v := (2 : Int32)) hC dX3_tear_12 rfl ?_
    refine zr_istore_n (lv' := [(3, .int (2 : Int32)), (0, .ref o), (1, .int i), (2, .int k)]) hC dX3_tear_13 rfl (by decide) rfl ?_
    refine zr_goto (tgt := 46) hC dX3_tear_14 (by decide) ?_
    refine zr_iload_n 0 hC dX3_tear_46 rfl rfl ?_
    refine zr_if_eqF (tgt := 61) hC dX3_tear_47 (by decide) (by decide) ?_
    refine zr_aload_n 1 hC dX3_tear_50 rfl rfl ?_
    refine zr_aload_n 1 hC dX3_tear_51 rfl rfl ?_
    refine zr_iload_n 0 hC dX3_tear_52 rfl rfl ?_
    refine zr_cVi 0 hC cv_X3_counted ml_X3_40 (c_X3_counted (a := a) (x := x) (2 : Int32)) dX3_tear_53 ⟨Nat.le_of_ble_eq_true rfl, Nat.le_of_ble_eq_true rfl⟩ ⟨Nat.le_of_ble_eq_true rfl, Nat.le_of_ble_eq_true rfl⟩ rfl rfl rfl rfl rfl (Nat.le_of_ble_eq_true rfl) ?_
    rintro _ _ ⟨rfl, rfl⟩
    refine zr_iconst (v := (0 : Int32)) hC dX3_tear_56 rfl ?_
    refine zr_cVi 0 hC cv_X3_leave ml_X3_36 (c_X3_leave (a := (zf_cnt (2 : Int32) a)) (x := x) (2 : Int32) (0 : Int32)) dX3_tear_57 ⟨Nat.le_of_ble_eq_true rfl, Nat.le_of_ble_eq_true rfl⟩ ⟨Nat.le_of_ble_eq_true rfl, Nat.le_of_ble_eq_true rfl⟩ rfl rfl rfl rfl rfl (Nat.le_of_ble_eq_true rfl) ?_
    rintro rr _ ⟨hrr, rfl⟩
    subst rr
    refine zr_iret hC hr hk dX3_tear_60 (by decide) (by decide) ⟨_, rfl, ?_⟩
    exact zp_mk (if_pos hth) hR
end ZA7
