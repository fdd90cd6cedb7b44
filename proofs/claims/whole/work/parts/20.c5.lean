section ZA5
variable {l : Launch} {D : va_G} {cI cII cF : ClassId} {o rk sp pp fp mo m1 m2 m3 m4 m5 m6 m7 m8 m9 : Nat}
variable {a : ax_A} {x : cx_X}
set_option maxRecDepth 100000 in
set_option maxHeartbeats 4000000 in
theorem c_X3_get (hR : rc_R cI cII a x) (b s0 i : Int32) : zz_Mi l D (zt cI cII cF) yX3_get cX3_get 4 (some .int) 3 70 0 0 [.ref o, .int b, .int s0, .int i] (cw_W o rk sp pp fp cII cF a x) (fun r w' => zp_c o rk sp pp fp cI cII cF (zo_get a b s0 i) r w') := by
  refine zz_mk (by decide) (Nat.le_of_ble_eq_true rfl) ?_
  intro p e s m below meth c A hC hr hk hnm
  have hC : zz_C p s m _ c A D (zt cI cII cF) 4 cX3_get RX3 := hC
  refine zr_iload_n 1 hC dX3_get_0 rfl rfl ?_
  refine zr_cSi hC cs_X3_isBank ml_X3_29 (c_X3_isBank (w := (cw_W o rk sp pp fp cII cF a x)) b) dX3_get_1 ⟨Nat.le_of_ble_eq_true rfl, Nat.le_of_ble_eq_true rfl⟩ ⟨Nat.le_of_ble_eq_true rfl, Nat.le_of_ble_eq_true rfl⟩ rfl rfl (Nat.le_of_ble_eq_true rfl) ?_
  rintro _ _ ⟨rfl, ⟨rfl, hb_b⟩ | ⟨rfl, hb_b⟩⟩
  · refine zr_if_eqF (tgt := 14) hC dX3_get_4 (by decide) (by decide) ?_
    refine zr_iload_n 2 hC dX3_get_7 rfl rfl ?_
    refine zr_cSi hC cs_X3_isStrip ml_X3_33 (c_X3_isStrip (w := (cw_W o rk sp pp fp cII cF a x)) s0) dX3_get_8 ⟨Nat.le_of_ble_eq_true rfl, Nat.le_of_ble_eq_true rfl⟩ ⟨Nat.le_of_ble_eq_true rfl, Nat.le_of_ble_eq_true rfl⟩ rfl rfl (Nat.le_of_ble_eq_true rfl) ?_
    rintro _ _ ⟨rfl, ⟨rfl, hs_s0⟩ | ⟨rfl, hs_s0⟩⟩
    · refine zr_if_neT (tgt := 21) hC dX3_get_11 (by decide) (by decide) ?_
      refine zr_aload_n 0 hC dX3_get_21 rfl rfl ?_
      refine zr_aload_n 0 hC dX3_get_22 rfl rfl ?_
      refine zr_iload_n 1 hC dX3_get_23 rfl rfl ?_
      refine zr_iload_n 2 hC dX3_get_24 rfl rfl ?_
      refine zr_iload_n 3 hC dX3_get_25 rfl rfl ?_
      refine zr_cVi 0 hC cv_X3_look ml_X3_58 (c_X3_look (a := a) (x := x) hR.1 i hb_b hs_s0) dX3_get_26 ⟨Nat.le_of_ble_eq_true rfl, Nat.le_of_ble_eq_true rfl⟩ ⟨Nat.le_of_ble_eq_true rfl, Nat.le_of_ble_eq_true rfl⟩ rfl rfl rfl rfl rfl (Nat.le_of_ble_eq_true rfl) ?_
      rintro _ _ (⟨h1, rfl, rfl⟩ | ⟨h1, rfl, rfl⟩)
      · refine zr_cVi 0 hC cv_X3_leaveFound ml_X3_55 (c_X3_leaveFound (a := a) (x := (ck_fnd x (zf_val (aa_st a) (zl b s0) i))) (0 : Int32)) dX3_get_29 ⟨Nat.le_of_ble_eq_true rfl, Nat.le_of_ble_eq_true rfl⟩ ⟨Nat.le_of_ble_eq_true rfl, Nat.le_of_ble_eq_true rfl⟩ rfl rfl rfl rfl rfl (Nat.le_of_ble_eq_true rfl) ?_
        rintro _ _ ⟨rfl, rfl⟩
        refine zr_iret hC hr hk dX3_get_32 (by decide) (by decide) ⟨_, rfl, ?_⟩
        exact zp_mk (by unfold zo_get; rw [if_pos ⟨hb_b, hs_s0⟩]; first | done | rfl | simp [h1]) hR
      · refine zr_cVi 0 hC cv_X3_leaveFound ml_X3_55 (c_X3_leaveFound (a := (zf_cnt (zf_why (aa_st a) (zl b s0) i) a)) (x := x) (zf_why (aa_st a) (zl b s0) i)) dX3_get_29 ⟨Nat.le_of_ble_eq_true rfl, Nat.le_of_ble_eq_true rfl⟩ ⟨Nat.le_of_ble_eq_true rfl, Nat.le_of_ble_eq_true rfl⟩ rfl rfl rfl rfl rfl (Nat.le_of_ble_eq_true rfl) ?_
        rintro _ _ ⟨rfl, rfl⟩
        refine zr_iret hC hr hk dX3_get_32 (by decide) (by decide) ⟨_, rfl, ?_⟩
        exact zp_mk (by unfold zo_get; rw [if_pos ⟨hb_b, hs_s0⟩]; first | done | rfl | simp [h1]) hR
    · refine zr_if_neF (tgt := 21) hC dX3_get_11 (by decide) (by decide) ?_
      refine zr_aload_n 0 hC dX3_get_14 rfl rfl ?_
      refine zr_iconst (v := (1 : Int32)) hC dX3_get_15 rfl ?_
      refine zr_iconst (v := (0 : Int32)) hC dX3_get_16 rfl ?_
      refine zr_cVi 0 hC cv_X3_leave ml_X3_36 (c_X3_leave (a := a) (x := x) (1 : Int32) (0 : Int32)) dX3_get_17 ⟨Nat.le_of_ble_eq_true rfl, Nat.le_of_ble_eq_true rfl⟩ ⟨Nat.le_of_ble_eq_true rfl, Nat.le_of_ble_eq_true rfl⟩ rfl rfl rfl rfl rfl (Nat.le_of_ble_eq_true rfl) ?_
      rintro rr _ ⟨hrr, rfl⟩
      subst rr
      refine zr_iret hC hr hk dX3_get_20 (by decide) (by decide) ⟨_, rfl, ?_⟩
      exact zp_mk (if_neg (fun h => absurd h.2 hs_s0)) hR
  · refine zr_if_eqT (tgt := 14) hC dX3_get_4 (by decide) (by decide) ?_
    refine zr_aload_n 0 hC dX3_get_14 rfl rfl ?_
    refine zr_iconst (v := (1 : Int32)) hC dX3_get_15 rfl ?_
    refine zr_iconst (v := (0 : Int32)) hC dX3_get_16 rfl ?_
    refine zr_cVi 0 hC cv_X3_leave ml_X3_36 (c_X3_leave (a := a) (x := x) (1 : Int32) (0 : Int32)) dX3_get_17 ⟨Nat.le_of_ble_eq_true rfl, Nat.le_of_ble_eq_true rfl⟩ ⟨Nat.le_of_ble_eq_true rfl, Nat.le_of_ble_eq_true rfl⟩ rfl rfl rfl rfl rfl (Nat.le_of_ble_eq_true rfl) ?_
    rintro rr _ ⟨hrr, rfl⟩
    subst rr
    refine zr_iret hC hr hk dX3_get_20 (by decide) (by decide) ⟨_, rfl, ?_⟩
    exact zp_mk (if_neg (fun h => absurd h.1 hb_b)) hR
set_option maxRecDepth 100000 in
set_option maxHeartbeats 4000000 in
theorem c_X3_set (hR : rc_R cI cII a x) (b s0 i v : Int32) : zz_Mi l D (zt cI cII cF) yX3_set cX3_set 6 (some .int) 4 87 0 0 [.ref o, .int b, .int s0, .int i, .int v] (cw_W o rk sp pp fp cII cF a x) (fun r w' => zp_c o rk sp pp fp cI cII cF (zo_set a b s0 i v) r w') := by
  refine zz_mk (by decide) (Nat.le_of_ble_eq_true rfl) ?_
  intro p e s m below meth c A hC hr hk hnm
  have hC : zz_C p s m _ c A D (zt cI cII cF) 6 cX3_set RX3 := hC
  refine zr_iload_n 1 hC dX3_set_0 rfl rfl ?_
  refine zr_cSi hC cs_X3_isBank ml_X3_29 (c_X3_isBank (w := (cw_W o rk sp pp fp cII cF a x)) b) dX3_set_1 ⟨Nat.le_of_ble_eq_true rfl, Nat.le_of_ble_eq_true rfl⟩ ⟨Nat.le_of_ble_eq_true rfl, Nat.le_of_ble_eq_true rfl⟩ rfl rfl (Nat.le_of_ble_eq_true rfl) ?_
  rintro _ _ ⟨rfl, ⟨rfl, hb_b⟩ | ⟨rfl, hb_b⟩⟩
  · refine zr_if_eqF (tgt := 14) hC dX3_set_4 (by decide) (by decide) ?_
    refine zr_iload_n 2 hC dX3_set_7 rfl rfl ?_
    refine zr_cSi hC cs_X3_isStrip ml_X3_33 (c_X3_isStrip (w := (cw_W o rk sp pp fp cII cF a x)) s0) dX3_set_8 ⟨Nat.le_of_ble_eq_true rfl, Nat.le_of_ble_eq_true rfl⟩ ⟨Nat.le_of_ble_eq_true rfl, Nat.le_of_ble_eq_true rfl⟩ rfl rfl (Nat.le_of_ble_eq_true rfl) ?_
    rintro _ _ ⟨rfl, ⟨rfl, hs_s0⟩ | ⟨rfl, hs_s0⟩⟩
    · refine zr_if_neT (tgt := 21) hC dX3_set_11 (by decide) (by decide) ?_
      refine zr_aload_n 0 hC dX3_set_21 rfl rfl ?_
      refine zr_iload_n 1 hC dX3_set_22 rfl rfl ?_
      refine zr_iload_n 2 hC dX3_set_23 rfl rfl ?_
      refine zr_iload_n 3 hC dX3_set_24 rfl rfl ?_
      refine zr_cVi 0 hC cv_X3_look ml_X3_58 (c_X3_look (a := a) (x := x) hR.1 i hb_b hs_s0) dX3_set_25 ⟨Nat.le_of_ble_eq_true rfl, Nat.le_of_ble_eq_true rfl⟩ ⟨Nat.le_of_ble_eq_true rfl, Nat.le_of_ble_eq_true rfl⟩ rfl rfl rfl rfl rfl (Nat.le_of_ble_eq_true rfl) ?_
      rintro _ _ (⟨h1, rfl, rfl⟩ | ⟨h1, rfl, rfl⟩)
      · refine zr_istore (lv' := [(5, .int (0 : Int32)), (0, .ref o), (1, .int b), (2, .int s0), (3, .int i), (4, .int v)]) hC dX3_set_28 (by decide) rfl ?_
        refine zr_iload 0 hC dX3_set_30 rfl ?_
        refine zr_if_neF (tgt := 46) hC dX3_set_32 (by decide) (by decide) ?_
        refine zr_aload_n 1 hC dX3_set_35 rfl rfl ?_
        refine zr_iload_n 2 hC dX3_set_36 rfl rfl ?_
        refine zr_iload_n 3 hC dX3_set_37 rfl rfl ?_
        refine zr_iload_n 4 hC dX3_set_38 rfl rfl ?_
        refine zr_iload 5 hC dX3_set_39 rfl ?_
        refine zr_cVi 0 hC cv_X3_put ml_X3_62 (c_X3_put (a := a) (x := (ck_fnd x (zf_val (aa_st a) (zl b s0) i))) hR.1 i v hb_b hs_s0) dX3_set_41 ⟨Nat.le_of_ble_eq_true rfl, Nat.le_of_ble_eq_true rfl⟩ ⟨Nat.le_of_ble_eq_true rfl, Nat.le_of_ble_eq_true rfl⟩ rfl rfl rfl rfl rfl (Nat.le_of_ble_eq_true rfl) ?_
        rintro _ _ (⟨-, rfl, x2, hFx2, hKx2, rfl, hQx2⟩ | ⟨hno, -, -⟩)
        · refine zr_istore (lv' := [(5, .int (0 : Int32)), (0, .ref o), (1, .int b), (2, .int s0), (3, .int i), (4, .int v)]) hC dX3_set_44 (by decide) rfl ?_
          refine zr_aload_n 1 hC dX3_set_46 rfl rfl ?_
          refine zr_iload 0 hC dX3_set_47 rfl ?_
          refine zr_cVi 0 hC cv_X3_leaveFound ml_X3_55 (c_X3_leaveFound (a := (zf_set a (zl b s0) i (zf_num s0 v))) (x := x2) (0 : Int32)) dX3_set_49 ⟨Nat.le_of_ble_eq_true rfl, Nat.le_of_ble_eq_true rfl⟩ ⟨Nat.le_of_ble_eq_true rfl, Nat.le_of_ble_eq_true rfl⟩ rfl rfl rfl rfl rfl (Nat.le_of_ble_eq_true rfl) ?_
          rintro _ _ ⟨rfl, rfl⟩
          refine zr_iret hC hr hk dX3_set_52 (by decide) (by decide) ⟨_, rfl, ?_⟩
          exact zp_mk (by unfold zo_set; rw [if_pos ⟨hb_b, hs_s0⟩]; first | done | rfl | simp [h1, hFx2]) (hR.of hQx2 hKx2 rfl)
        · exact absurd h1 hno
      · refine zr_istore (lv' := [(5, .int (zf_why (aa_st a) (zl b s0) i)), (0, .ref o), (1, .int b), (2, .int s0), (3, .int i), (4, .int v)]) hC dX3_set_28 (by decide) rfl ?_
        refine zr_iload 0 hC dX3_set_30 rfl ?_
        refine zr_if_neT (tgt := 46) hC dX3_set_32 (by decide) h1 ?_
        refine zr_aload_n 1 hC dX3_set_46 rfl rfl ?_
        refine zr_iload 0 hC dX3_set_47 rfl ?_
        refine zr_cVi 0 hC cv_X3_leaveFound ml_X3_55 (c_X3_leaveFound (a := (zf_cnt (zf_why (aa_st a) (zl b s0) i) a)) (x := x) (zf_why (aa_st a) (zl b s0) i)) dX3_set_49 ⟨Nat.le_of_ble_eq_true rfl, Nat.le_of_ble_eq_true rfl⟩ ⟨Nat.le_of_ble_eq_true rfl, Nat.le_of_ble_eq_true rfl⟩ rfl rfl rfl rfl rfl (Nat.le_of_ble_eq_true rfl) ?_
        rintro _ _ ⟨rfl, rfl⟩
        refine zr_iret hC hr hk dX3_set_52 (by decide) (by decide) ⟨_, rfl, ?_⟩
        exact zp_mk (by unfold zo_set; rw [if_pos ⟨hb_b, hs_s0⟩]; first | done | rfl | simp [h1]) hR
    · refine zr_if_neF (tgt := 21) hC dX3_set_11 (by decide) (by decide) ?_
      refine zr_aload_n 0 hC dX3_set_14 rfl rfl ?_
      refine zr_iconst (v := (1 : Int32)) hC dX3_set_15 rfl ?_
      refine zr_iconst (v := (0 : Int32)) hC dX3_set_16 rfl ?_
      refine zr_cVi 0 hC cv_X3_leave ml_X3_36 (c_X3_leave (a := a) (x := x) (1 : Int32) (0 : Int32)) dX3_set_17 ⟨Nat.le_of_ble_eq_true rfl, Nat.le_of_ble_eq_true rfl⟩ ⟨Nat.le_of_ble_eq_true rfl, Nat.le_of_ble_eq_true rfl⟩ rfl rfl rfl rfl rfl (Nat.le_of_ble_eq_true rfl) ?_
      rintro rr _ ⟨hrr, rfl⟩
      subst rr
      refine zr_iret hC hr hk dX3_set_20 (by decide) (by decide) ⟨_, rfl, ?_⟩
      exact zp_mk (if_neg (fun h => absurd h.2 hs_s0)) hR
  · refine zr_if_eqT (tgt := 14) hC dX3_set_4 (by decide) (by decide) ?_
    refine zr_aload_n 0 hC dX3_set_14 rfl rfl ?_
    refine zr_iconst (v := (1 : Int32)) hC dX3_set_15 rfl ?_
    refine zr_iconst (v := (0 : Int32)) hC dX3_set_16 rfl ?_
    refine zr_cVi 0 hC cv_X3_leave ml_X3_36 (c_X3_leave (a := a) (x := x) (1 : Int32) (0 : Int32)) dX3_set_17 ⟨Nat.le_of_ble_eq_true rfl, Nat.le_of_ble_eq_true rfl⟩ ⟨Nat.le_of_ble_eq_true rfl, Nat.le_of_ble_eq_true rfl⟩ rfl rfl rfl rfl rfl (Nat.le_of_ble_eq_true rfl) ?_
    rintro rr _ ⟨hrr, rfl⟩
    subst rr
    refine zr_iret hC hr hk dX3_set_20 (by decide) (by decide) ⟨_, rfl, ?_⟩
    exact zp_mk (if_neg (fun h => absurd h.1 hb_b)) hR
set_option maxRecDepth 100000 in
set_option maxHeartbeats 4000000 in
theorem c_X3_size (hR : rc_R cI cII a x) (b s0 : Int32) : zz_Mi l D (zt cI cII cF) yX3_size cX3_size 3 (some .int) 2 45 0 0 [.ref o, .int b, .int s0] (cw_W o rk sp pp fp cII cF a x) (fun r w' => zp_c o rk sp pp fp cI cII cF (zo_size a b s0) r w') := by
  refine zz_mk (by decide) (Nat.le_of_ble_eq_true rfl) ?_
  intro p e s m below meth c A hC hr hk hnm
  have hC : zz_C p s m _ c A D (zt cI cII cF) 3 cX3_size RX3 := hC
  refine zr_iload_n 1 hC dX3_size_0 rfl rfl ?_
  refine zr_cSi hC cs_X3_isBank ml_X3_29 (c_X3_isBank (w := (cw_W o rk sp pp fp cII cF a x)) b) dX3_size_1 ⟨Nat.le_of_ble_eq_true rfl, Nat.le_of_ble_eq_true rfl⟩ ⟨Nat.le_of_ble_eq_true rfl, Nat.le_of_ble_eq_true rfl⟩ rfl rfl (Nat.le_of_ble_eq_true rfl) ?_
  rintro _ _ ⟨rfl, ⟨rfl, hb_b⟩ | ⟨rfl, hb_b⟩⟩
  · refine zr_if_eqF (tgt := 14) hC dX3_size_4 (by decide) (by decide) ?_
    refine zr_iload_n 2 hC dX3_size_7 rfl rfl ?_
    refine zr_cSi hC cs_X3_isStrip ml_X3_33 (c_X3_isStrip (w := (cw_W o rk sp pp fp cII cF a x)) s0) dX3_size_8 ⟨Nat.le_of_ble_eq_true rfl, Nat.le_of_ble_eq_true rfl⟩ ⟨Nat.le_of_ble_eq_true rfl, Nat.le_of_ble_eq_true rfl⟩ rfl rfl (Nat.le_of_ble_eq_true rfl) ?_
    rintro _ _ ⟨rfl, ⟨rfl, hs_s0⟩ | ⟨rfl, hs_s0⟩⟩
    · refine zr_if_neT (tgt := 21) hC dX3_size_11 (by decide) (by decide) ?_
      refine zr_aload_n 0 hC dX3_size_21 rfl rfl ?_
      refine zr_aload_n 0 hC dX3_size_22 rfl rfl ?_
      refine zr_iload_n 1 hC dX3_size_23 rfl rfl ?_
      refine zr_iload_n 2 hC dX3_size_24 rfl rfl ?_
      refine zr_cVi 0 hC cv_X3_measure ml_X3_52 (c_X3_measure (a := a) (x := x) hR.1 hb_b hs_s0) dX3_size_25 ⟨Nat.le_of_ble_eq_true rfl, Nat.le_of_ble_eq_true rfl⟩ ⟨Nat.le_of_ble_eq_true rfl, Nat.le_of_ble_eq_true rfl⟩ rfl rfl rfl rfl rfl (Nat.le_of_ble_eq_true rfl) ?_
      rintro _ _ (⟨h2, rfl, rfl⟩ | ⟨n1, k3, h2, rfl, rfl⟩)
      · refine zr_cVi 0 hC cv_X3_leaveFound ml_X3_55 (c_X3_leaveFound (a := (zf_cnt 2 a)) (x := x) (2 : Int32)) dX3_size_28 ⟨Nat.le_of_ble_eq_true rfl, Nat.le_of_ble_eq_true rfl⟩ ⟨Nat.le_of_ble_eq_true rfl, Nat.le_of_ble_eq_true rfl⟩ rfl rfl rfl rfl rfl (Nat.le_of_ble_eq_true rfl) ?_
        rintro _ _ ⟨rfl, rfl⟩
        refine zr_iret hC hr hk dX3_size_31 (by decide) (by decide) ⟨_, rfl, ?_⟩
        exact zp_mk (by unfold zo_size; rw [if_pos ⟨hb_b, hs_s0⟩]; first | done | rfl | simp [h2, zf_len]) hR
      · refine zr_cVi 0 hC cv_X3_leaveFound ml_X3_55 (c_X3_leaveFound (a := a) (x := (ck_fnd x (nI n1))) (0 : Int32)) dX3_size_28 ⟨Nat.le_of_ble_eq_true rfl, Nat.le_of_ble_eq_true rfl⟩ ⟨Nat.le_of_ble_eq_true rfl, Nat.le_of_ble_eq_true rfl⟩ rfl rfl rfl rfl rfl (Nat.le_of_ble_eq_true rfl) ?_
        rintro _ _ ⟨rfl, rfl⟩
        refine zr_iret hC hr hk dX3_size_31 (by decide) (by decide) ⟨_, rfl, ?_⟩
        exact zp_mk (by unfold zo_size; rw [if_pos ⟨hb_b, hs_s0⟩]; first | done | rfl | simp [h2, zf_len]) hR
    · refine zr_if_neF (tgt := 21) hC dX3_size_11 (by decide) (by decide) ?_
      refine zr_aload_n 0 hC dX3_size_14 rfl rfl ?_
      refine zr_iconst (v := (1 : Int32)) hC dX3_size_15 rfl ?_
      refine zr_iconst (v := (0 : Int32)) hC dX3_size_16 rfl ?_
      refine zr_cVi 0 hC cv_X3_leave ml_X3_36 (c_X3_leave (a := a) (x := x) (1 : Int32) (0 : Int32)) dX3_size_17 ⟨Nat.le_of_ble_eq_true rfl, Nat.le_of_ble_eq_true rfl⟩ ⟨Nat.le_of_ble_eq_true rfl, Nat.le_of_ble_eq_true rfl⟩ rfl rfl rfl rfl rfl (Nat.le_of_ble_eq_true rfl) ?_
      rintro rr _ ⟨hrr, rfl⟩
      subst rr
      refine zr_iret hC hr hk dX3_size_20 (by decide) (by decide) ⟨_, rfl, ?_⟩
      exact zp_mk (if_neg (fun h => absurd h.2 hs_s0)) hR
  · refine zr_if_eqT (tgt := 14) hC dX3_size_4 (by decide) (by decide) ?_
    refine zr_aload_n 0 hC dX3_size_14 rfl rfl ?_
    refine zr_iconst (v := (1 : Int32)) hC dX3_size_15 rfl ?_
    refine zr_iconst (v := (0 : Int32)) hC dX3_size_16 rfl ?_
    refine zr_cVi 0 hC cv_X3_leave ml_X3_36 (c_X3_leave (a := a) (x := x) (1 : Int32) (0 : Int32)) dX3_size_17 ⟨Nat.le_of_ble_eq_true rfl, Nat.le_of_ble_eq_true rfl⟩ ⟨Nat.le_of_ble_eq_true rfl, Nat.le_of_ble_eq_true rfl⟩ rfl rfl rfl rfl rfl (Nat.le_of_ble_eq_true rfl) ?_
    rintro rr _ ⟨hrr, rfl⟩
    subst rr
    refine zr_iret hC hr hk dX3_size_20 (by decide) (by decide) ⟨_, rfl, ?_⟩
    exact zp_mk (if_neg (fun h => absurd h.1 hb_b)) hR
set_option maxRecDepth 100000 in
set_option maxHeartbeats 4000000 in
theorem c_X3_shown (hR : rc_R cI cII a x) (b i : Int32) : zz_Mi l D (zt cI cII cF) yX3_shown cX3_shown 3 (some .int) 4 95 0 0 [.ref o, .int b, .int i] (cw_W o rk sp pp fp cII cF a x) (fun r w' => zp_c o rk sp pp fp cI cII cF (zo_shown a b i) r w') := by
  refine zz_mk (by decide) (Nat.le_of_ble_eq_true rfl) ?_
  intro p e s m below meth c A hC hr hk hnm
  have hC : zz_C p s m _ c A D (zt cI cII cF) 3 cX3_shown RX3 := hC
  refine zr_iload_n 1 hC dX3_shown_0 rfl rfl ?_
  refine zr_cSi hC cs_X3_isBank ml_X3_29 (c_X3_isBank (w := (cw_W o rk sp pp fp cII cF a x)) b) dX3_shown_1 ⟨Nat.le_of_ble_eq_true rfl, Nat.le_of_ble_eq_true rfl⟩ ⟨Nat.le_of_ble_eq_true rfl, Nat.le_of_ble_eq_true rfl⟩ rfl rfl (Nat.le_of_ble_eq_true rfl) ?_
  rintro _ _ ⟨rfl, ⟨rfl, hb_b⟩ | ⟨rfl, hb_b⟩⟩
  · refine zr_if_neT (tgt := 14) hC dX3_shown_4 (by decide) (by decide) ?_
    refine zr_aload_n 0 hC dX3_shown_14 rfl rfl ?_
    refine zr_aload_n 0 hC dX3_shown_15 rfl rfl ?_
    refine zr_iload_n 1 hC dX3_shown_16 rfl rfl ?_
    refine zr_iload_n 2 hC dX3_shown_17 rfl rfl ?_
    refine zr_cVi 0 hC cv_X3_findShown ml_X3_76 (c_X3_findShown (a := a) (x := x) hR.1 i hb_b) dX3_shown_18 ⟨Nat.le_of_ble_eq_true rfl, Nat.le_of_ble_eq_true rfl⟩ ⟨Nat.le_of_ble_eq_true rfl, Nat.le_of_ble_eq_true rfl⟩ rfl rfl rfl rfl rfl (Nat.le_of_ble_eq_true rfl) ?_
    rintro _ _ (⟨h1, rfl, rfl⟩ | ⟨h1, rfl, fn2, rfl⟩)
    · refine zr_cVi 0 hC cv_X3_leaveFound ml_X3_55 (c_X3_leaveFound (a := ((zf_show a b i).2.2)) (x := (ck_fnd x ((zf_show a b i).2.1))) (0 : Int32)) dX3_shown_21 ⟨Nat.le_of_ble_eq_true rfl, Nat.le_of_ble_eq_true rfl⟩ ⟨Nat.le_of_ble_eq_true rfl, Nat.le_of_ble_eq_true rfl⟩ rfl rfl rfl rfl rfl (Nat.le_of_ble_eq_true rfl) ?_
      rintro _ _ ⟨rfl, rfl⟩
      refine zr_iret hC hr hk dX3_shown_24 (by decide) (by decide) ⟨_, rfl, ?_⟩
      exact zp_mk (by unfold zo_shown; rw [if_pos hb_b]; simp [h1]) (hR.of (rc_show hR.1 b i _) cx_K.rf (zf_show_st a b i).2.2)
    · refine zr_cVi 0 hC cv_X3_leaveFound ml_X3_55 (c_X3_leaveFound (a := ((zf_show a b i).2.2)) (x := (ck_fnd x fn2)) ((zf_show a b i).1)) dX3_shown_21 ⟨Nat.le_of_ble_eq_true rfl, Nat.le_of_ble_eq_true rfl⟩ ⟨Nat.le_of_ble_eq_true rfl, Nat.le_of_ble_eq_true rfl⟩ rfl rfl rfl rfl rfl (Nat.le_of_ble_eq_true rfl) ?_
      rintro _ _ ⟨rfl, rfl⟩
      refine zr_iret hC hr hk dX3_shown_24 (by decide) (by decide) ⟨_, rfl, ?_⟩
      exact zp_mk (by unfold zo_shown; rw [if_pos hb_b]; simp [h1, zf_show_bad h1]) (hR.of (rc_show hR.1 b i _) cx_K.rf (zf_show_st a b i).2.2)
  · refine zr_if_neF (tgt := 14) hC dX3_shown_4 (by decide) (by decide) ?_
    refine zr_aload_n 0 hC dX3_shown_7 rfl rfl ?_
    refine zr_iconst (v := (1 : Int32)) hC dX3_shown_8 rfl ?_
    refine zr_iconst (v := (0 : Int32)) hC dX3_shown_9 rfl ?_
    refine zr_cVi 0 hC cv_X3_leave ml_X3_36 (c_X3_leave (a := a) (x := x) (1 : Int32) (0 : Int32)) dX3_shown_10 ⟨Nat.le_of_ble_eq_true rfl, Nat.le_of_ble_eq_true rfl⟩ ⟨Nat.le_of_ble_eq_true rfl, Nat.le_of_ble_eq_true rfl⟩ rfl rfl rfl rfl rfl (Nat.le_of_ble_eq_true rfl) ?_
    rintro rr _ ⟨hrr, rfl⟩
    subst rr
    refine zr_iret hC hr hk dX3_shown_13 (by decide) (by decide) ⟨_, rfl, ?_⟩
    exact zp_mk (if_neg (fun h => absurd h hb_b)) hR
set_option maxRecDepth 100000 in
set_option maxHeartbeats 4000000 in
theorem c_X3_strike (hR : rc_R cI cII a x) (b s0 : Int32) : zz_Mi l D (zt cI cII cF) yX3_strike cX3_strike 4 (some .int) 1 23 0 0 [.ref o, .int b, .int s0] (cw_W o rk sp pp fp cII cF a x) (fun r w' => zp_c o rk sp pp fp cI cII cF (zo_strike a b s0) r w') := by
  refine zz_mk (by decide) (Nat.le_of_ble_eq_true rfl) ?_
  intro p e s m below meth c A hC hr hk hnm
  have hC : zz_C p s m _ c A D (zt cI cII cF) 4 cX3_strike RX3 := hC
  refine zr_iload_n 1 hC dX3_strike_0 rfl rfl ?_
  refine zr_cSi hC cs_X3_isBank ml_X3_29 (c_X3_isBank (w := (cw_W o rk sp pp fp cII cF a x)) b) dX3_strike_1 ⟨Nat.le_of_ble_eq_true rfl, Nat.le_of_ble_eq_true rfl⟩ ⟨Nat.le_of_ble_eq_true rfl, Nat.le_of_ble_eq_true rfl⟩ rfl rfl (Nat.le_of_ble_eq_true rfl) ?_
  rintro _ _ ⟨rfl, ⟨rfl, hb_b⟩ | ⟨rfl, hb_b⟩⟩
  · refine zr_if_eqF (tgt := 14) hC dX3_strike_4 (by decide) (by decide) ?_
    refine zr_iload_n 2 hC dX3_strike_7 rfl rfl ?_
    refine zr_cSi hC cs_X3_isStrip ml_X3_33 (c_X3_isStrip (w := (cw_W o rk sp pp fp cII cF a x)) s0) dX3_strike_8 ⟨Nat.le_of_ble_eq_true rfl, Nat.le_of_ble_eq_true rfl⟩ ⟨Nat.le_of_ble_eq_true rfl, Nat.le_of_ble_eq_true rfl⟩ rfl rfl (Nat.le_of_ble_eq_true rfl) ?_
    rintro _ _ ⟨rfl, ⟨rfl, hs_s0⟩ | ⟨rfl, hs_s0⟩⟩
    · refine zr_if_neT (tgt := 21) hC dX3_strike_11 (by decide) (by decide) ?_
      refine zr_aload_n 0 hC dX3_strike_21 rfl rfl ?_
      refine zr_get (v := .ref rk) 0 0 hC iu_X3 rfl dX3_strike_22 fl_X3_10 (by decide) rfl rfl ?_
      refine zr_iload_n 1 hC dX3_strike_25 rfl rfl ?_
      refine zr_iload_n 2 hC dX3_strike_26 rfl rfl ?_
      refine zr_cVr 1 hC cv_X2_stripOf ml_X3_48 (c_X2_stripOf (a := a) (x := x) hb_b hs_s0) dX3_strike_27 ⟨Nat.le_of_ble_eq_true rfl, Nat.le_of_ble_eq_true rfl⟩ ⟨Nat.le_of_ble_eq_true rfl, Nat.le_of_ble_eq_true rfl⟩ rfl rfl rfl rfl rfl (Nat.le_of_ble_eq_true rfl) ?_
      rintro r0 _ ⟨hr0, rfl⟩
      refine zr_rf (fun hq2 => ?_) (fun q1 hq2 => ?_)
      · refine zr_ifnullN (tgt := 37) hC dX3_strike_30 (by decide) ?_
        refine zr_iconst (v := (0 : Int32)) hC dX3_strike_37 rfl ?_
        refine zr_istore_n (lv' := [(3, .int (0 : Int32)), (0, .ref o), (1, .int b), (2, .int s0)]) hC dX3_strike_38 rfl (by decide) rfl ?_
        refine zr_aload_n 1 hC dX3_strike_39 rfl rfl ?_
        refine zr_get (v := .ref rk) 0 0 hC iu_X3 rfl dX3_strike_40 fl_X3_10 (by decide) rfl rfl ?_
        refine zr_iload_n 2 hC dX3_strike_43 rfl rfl ?_
        refine zr_iload_n 3 hC dX3_strike_44 rfl rfl ?_
        refine zr_null hC dX3_strike_45 ?_
        refine zr_cVv 1 hC cv_X2_replace ml_X3_44 (c_X2_replaceN (a := a) (x := x) hb_b hs_s0) dX3_strike_46 ⟨Nat.le_of_ble_eq_true rfl, Nat.le_of_ble_eq_true rfl⟩ ⟨Nat.le_of_ble_eq_true rfl, Nat.le_of_ble_eq_true rfl⟩ rfl rfl rfl rfl rfl (Nat.le_of_ble_eq_true rfl) ?_
        rintro _ rfl
        refine zr_aload_n 1 hC dX3_strike_49 rfl rfl ?_
        refine zr_iconst (v := (0 : Int32)) hC dX3_strike_50 rfl ?_
        refine zr_iload_n 0 hC dX3_strike_51 rfl rfl ?_
        refine zr_if_eqT (tgt := 59) hC dX3_strike_52 (by decide) (by decide) ?_
        refine zr_iconst (v := (0 : Int32)) hC dX3_strike_59 rfl ?_
        refine zr_cVi 0 hC cv_X3_leave ml_X3_36 (c_X3_leave (a := a) (x := (ck_f x (va_up (cx_f x) (zl b s0) none))) (0 : Int32) (0 : Int32)) dX3_strike_60 ⟨Nat.le_of_ble_eq_true rfl, Nat.le_of_ble_eq_true rfl⟩ ⟨Nat.le_of_ble_eq_true rfl, Nat.le_of_ble_eq_true rfl⟩ rfl rfl rfl rfl rfl (Nat.le_of_ble_eq_true rfl) ?_
        rintro rr _ ⟨hrr, rfl⟩
        subst rr
        refine zr_iret hC hr hk dX3_strike_63 (by decide) (by decide) ⟨_, rfl, ?_⟩
        have hh : (aa_st a).1 (zl b s0) = none := (hR.1.1.1 (zl b s0) (zl_lt hb_b hs_s0)).mp (hr0.symm.trans hq2)
        exact zp_mw (a' := as_sta (as_st a (zf_strikeS (aa_st a) (zl b s0))) 0) (x' := (ck_f x (va_up (cx_f x) (zl b s0) none))) (by unfold zo_strike; rw [if_pos ⟨hb_b, hs_s0⟩, if_pos hh]) (hR.of (rc_strike hR.1) ⟨rfl, rfl, fun _ h => h, fun _ _ _ h => h⟩ rfl) rfl
      · refine zr_ifnull hC dX3_strike_30 ?_
        refine zr_iconst (v := (1 : Int32)) hC dX3_strike_33 rfl ?_
        refine zr_goto (tgt := 38) hC dX3_strike_34 (by decide) ?_
        refine zr_istore_n (lv' := [(3, .int (1 : Int32)), (0, .ref o), (1, .int b), (2, .int s0)]) hC dX3_strike_38 rfl (by decide) rfl ?_
        refine zr_aload_n 1 hC dX3_strike_39 rfl rfl ?_
        refine zr_get (v := .ref rk) 0 0 hC iu_X3 rfl dX3_strike_40 fl_X3_10 (by decide) rfl rfl ?_
        refine zr_iload_n 2 hC dX3_strike_43 rfl rfl ?_
        refine zr_iload_n 3 hC dX3_strike_44 rfl rfl ?_
        refine zr_null hC dX3_strike_45 ?_
        refine zr_cVv 1 hC cv_X2_replace ml_X3_44 (c_X2_replaceN (a := a) (x := x) hb_b hs_s0) dX3_strike_46 ⟨Nat.le_of_ble_eq_true rfl, Nat.le_of_ble_eq_true rfl⟩ ⟨Nat.le_of_ble_eq_true rfl, Nat.le_of_ble_eq_true rfl⟩ rfl rfl rfl rfl rfl (Nat.le_of_ble_eq_true rfl) ?_
        rintro _ rfl
        refine zr_aload_n 1 hC dX3_strike_49 rfl rfl ?_
        refine zr_iconst (v := (0 : Int32)) hC dX3_strike_50 rfl ?_
        refine zr_iload_n 0 hC dX3_strike_51 rfl rfl ?_
        refine zr_if_eqF (tgt := 59) hC dX3_strike_52 (by decide) (by decide) ?_
        refine zr_iconst (v := (1 : Int32)) hC dX3_strike_55 rfl ?_
        refine zr_goto (tgt := 60) hC dX3_strike_56 (by decide) ?_
        refine zr_cVi 0 hC cv_X3_leave ml_X3_36 (c_X3_leave (a := a) (x := (ck_f x (va_up (cx_f x) (zl b s0) none))) (0 : Int32) (1 : Int32)) dX3_strike_60 ⟨Nat.le_of_ble_eq_true rfl, Nat.le_of_ble_eq_true rfl⟩ ⟨Nat.le_of_ble_eq_true rfl, Nat.le_of_ble_eq_true rfl⟩ rfl rfl rfl rfl rfl (Nat.le_of_ble_eq_true rfl) ?_
        rintro rr _ ⟨hrr, rfl⟩
        subst rr
        refine zr_iret hC hr hk dX3_strike_63 (by decide) (by decide) ⟨_, rfl, ?_⟩
        have hh : ¬ (aa_st a).1 (zl b s0) = none := fun h => by have := (hR.1.1.1 (zl b s0) (zl_lt hb_b hs_s0)).mpr h; rw [← hr0, hq2] at this; cases this
        exact zp_mw (a' := as_sta (as_st a (zf_strikeS (aa_st a) (zl b s0))) 0) (x' := (ck_f x (va_up (cx_f x) (zl b s0) none))) (by unfold zo_strike; rw [if_pos ⟨hb_b, hs_s0⟩, if_neg hh]) (hR.of (rc_strike hR.1) ⟨rfl, rfl, fun _ h => h, fun _ _ _ h => h⟩ rfl) rfl
    · refine zr_if_neF (tgt := 21) hC dX3_strike_11 (by decide) (by decide) ?_
      refine zr_aload_n 0 hC dX3_strike_14 rfl rfl ?_
      refine zr_iconst (v := (1 : Int32)) hC dX3_strike_15 rfl ?_
      refine zr_iconst (v := (0 : Int32)) hC dX3_strike_16 rfl ?_
      refine zr_cVi 0 hC cv_X3_leave ml_X3_36 (c_X3_leave (a := a) (x := x) (1 : Int32) (0 : Int32)) dX3_strike_17 ⟨Nat.le_of_ble_eq_true rfl, Nat.le_of_ble_eq_true rfl⟩ ⟨Nat.le_of_ble_eq_true rfl, Nat.le_of_ble_eq_true rfl⟩ rfl rfl rfl rfl rfl (Nat.le_of_ble_eq_true rfl) ?_
      rintro rr _ ⟨hrr, rfl⟩
      subst rr
      refine zr_iret hC hr hk dX3_strike_20 (by decide) (by decide) ⟨_, rfl, ?_⟩
      exact zp_mk (if_neg (fun h => absurd h.2 hs_s0)) hR
  · refine zr_if_eqT (tgt := 14) hC dX3_strike_4 (by decide) (by decide) ?_
    refine zr_aload_n 0 hC dX3_strike_14 rfl rfl ?_
    refine zr_iconst (v := (1 : Int32)) hC dX3_strike_15 rfl ?_
    refine zr_iconst (v := (0 : Int32)) hC dX3_strike_16 rfl ?_
    refine zr_cVi 0 hC cv_X3_leave ml_X3_36 (c_X3_leave (a := a) (x := x) (1 : Int32) (0 : Int32)) dX3_strike_17 ⟨Nat.le_of_ble_eq_true rfl, Nat.le_of_ble_eq_true rfl⟩ ⟨Nat.le_of_ble_eq_true rfl, Nat.le_of_ble_eq_true rfl⟩ rfl rfl rfl rfl rfl (Nat.le_of_ble_eq_true rfl) ?_
    rintro rr _ ⟨hrr, rfl⟩
    subst rr
    refine zr_iret hC hr hk dX3_strike_20 (by decide) (by decide) ⟨_, rfl, ?_⟩
    exact zp_mk (if_neg (fun h => absurd h.1 hb_b)) hR
set_option maxRecDepth 100000 in
set_option maxHeartbeats 4000000 in
theorem c_X3_share (hR : rc_R cI cII a x) (b s0 f : Int32) : zz_Mi l D (zt cI cII cF) yX3_share cX3_share 5 (some .int) 1 23 0 0 [.ref o, .int b, .int s0, .int f] (cw_W o rk sp pp fp cII cF a x) (fun r w' => zp_c o rk sp pp fp cI cII cF (zo_share a b s0 f) r w') := by
  refine zz_mk (by decide) (Nat.le_of_ble_eq_true rfl) ?_
  intro p e s m below meth c A hC hr hk hnm
  have hC : zz_C p s m _ c A D (zt cI cII cF) 5 cX3_share RX3 := hC
  refine zr_iload_n 1 hC dX3_share_0 rfl rfl ?_
  refine zr_cSi hC cs_X3_isBank ml_X3_29 (c_X3_isBank (w := (cw_W o rk sp pp fp cII cF a x)) b) dX3_share_1 ⟨Nat.le_of_ble_eq_true rfl, Nat.le_of_ble_eq_true rfl⟩ ⟨Nat.le_of_ble_eq_true rfl, Nat.le_of_ble_eq_true rfl⟩ rfl rfl (Nat.le_of_ble_eq_true rfl) ?_
  rintro _ _ ⟨rfl, ⟨rfl, hb_b⟩ | ⟨rfl, hb_b⟩⟩
  · refine zr_if_eqF (tgt := 21) hC dX3_share_4 (by decide) (by decide) ?_
    refine zr_iload_n 2 hC dX3_share_7 rfl rfl ?_
    refine zr_cSi hC cs_X3_isStrip ml_X3_33 (c_X3_isStrip (w := (cw_W o rk sp pp fp cII cF a x)) s0) dX3_share_8 ⟨Nat.le_of_ble_eq_true rfl, Nat.le_of_ble_eq_true rfl⟩ ⟨Nat.le_of_ble_eq_true rfl, Nat.le_of_ble_eq_true rfl⟩ rfl rfl (Nat.le_of_ble_eq_true rfl) ?_
    rintro _ _ ⟨rfl, ⟨rfl, hs_s0⟩ | ⟨rfl, hs_s0⟩⟩
    · refine zr_if_eqF (tgt := 21) hC dX3_share_11 (by decide) (by decide) ?_
      refine zr_iload_n 3 hC dX3_share_14 rfl rfl ?_
      refine zr_cSi hC cs_X3_isBank ml_X3_29 (c_X3_isBank (w := (cw_W o rk sp pp fp cII cF a x)) f) dX3_share_15 ⟨Nat.le_of_ble_eq_true rfl, Nat.le_of_ble_eq_true rfl⟩ ⟨Nat.le_of_ble_eq_true rfl, Nat.le_of_ble_eq_true rfl⟩ rfl rfl (Nat.le_of_ble_eq_true rfl) ?_
      rintro _ _ ⟨rfl, ⟨rfl, hb_f⟩ | ⟨rfl, hb_f⟩⟩
      · refine zr_if_neT (tgt := 28) hC dX3_share_18 (by decide) (by decide) ?_
        refine zr_aload_n 0 hC dX3_share_28 rfl rfl ?_
        refine zr_get (v := .ref rk) 0 0 hC iu_X3 rfl dX3_share_29 fl_X3_10 (by decide) rfl rfl ?_
        refine zr_iload_n 3 hC dX3_share_32 rfl rfl ?_
        refine zr_iload_n 2 hC dX3_share_33 rfl rfl ?_
        refine zr_cVr 1 hC cv_X2_stripOf ml_X3_48 (c_X2_stripOf (a := a) (x := x) hb_f hs_s0) dX3_share_34 ⟨Nat.le_of_ble_eq_true rfl, Nat.le_of_ble_eq_true rfl⟩ ⟨Nat.le_of_ble_eq_true rfl, Nat.le_of_ble_eq_true rfl⟩ rfl rfl rfl rfl rfl (Nat.le_of_ble_eq_true rfl) ?_
        rintro r0 _ ⟨hr0, rfl⟩
        refine zr_rf (fun hn => ?_) (fun q hn => ?_)
        · subst hn
          refine zr_astoreN (lv' := [(4, .null), (0, .ref o), (1, .int b), (2, .int s0), (3, .int f)]) hC dX3_share_37 (by decide) rfl ?_
          refine zr_aload_n 1 hC dX3_share_39 rfl rfl ?_
          refine zr_get (v := .ref rk) 0 0 hC iu_X3 rfl dX3_share_40 fl_X3_10 (by decide) rfl rfl ?_
          refine zr_iload_n 2 hC dX3_share_43 rfl rfl ?_
          refine zr_iload_n 3 hC dX3_share_44 rfl rfl ?_
          refine zr_aloadN 0 hC dX3_share_45 rfl ?_
          refine zr_cVv 1 hC cv_X2_replace ml_X3_44 (c_X2_replaceN (a := a) (x := x) hb_b hs_s0) dX3_share_47 ⟨Nat.le_of_ble_eq_true rfl, Nat.le_of_ble_eq_true rfl⟩ ⟨Nat.le_of_ble_eq_true rfl, Nat.le_of_ble_eq_true rfl⟩ rfl rfl rfl rfl rfl (Nat.le_of_ble_eq_true rfl) ?_
          rintro _ rfl
          refine zr_aload_n 1 hC dX3_share_50 rfl rfl ?_
          refine zr_iconst (v := (0 : Int32)) hC dX3_share_51 rfl ?_
          refine zr_aloadN 0 hC dX3_share_52 rfl ?_
          refine zr_ifnullN (tgt := 61) hC dX3_share_54 (by decide) ?_
          refine zr_iconst (v := (0 : Int32)) hC dX3_share_61 rfl ?_
          refine zr_cVi 0 hC cv_X3_leave ml_X3_36 (c_X3_leave (a := a) (x := (ck_f x (va_up (cx_f x) (zl b s0) none))) (0 : Int32) (0 : Int32)) dX3_share_62 ⟨Nat.le_of_ble_eq_true rfl, Nat.le_of_ble_eq_true rfl⟩ ⟨Nat.le_of_ble_eq_true rfl, Nat.le_of_ble_eq_true rfl⟩ rfl rfl rfl rfl rfl (Nat.le_of_ble_eq_true rfl) ?_
          rintro rr _ ⟨hrr, rfl⟩
          subst rr
          refine zr_iret hC hr hk dX3_share_65 (by decide) (by decide) ⟨_, rfl, ?_⟩
          have hh : (aa_st a).1 (zl f s0) = none := (hR.1.1.1 (zl f s0) (zl_lt hb_f hs_s0)).mp hr0.symm
          exact zp_mw (a' := as_sta (as_st a (zf_shareS (aa_st a) (zl b s0) (zl f s0))) 0) (x' := (ck_f x (va_up (cx_f x) (zl b s0) none))) (by unfold zo_share; rw [if_pos ⟨hb_b, hs_s0, hb_f⟩, if_pos hh]) (hR.of (by have := rc_share hR.1 (k := zl b s0) (k0 := zl f s0) (zl_lt hb_f hs_s0); rw [← hr0] at this; exact this) ⟨rfl, rfl, fun _ h => h, fun _ _ _ h => h⟩ rfl) rfl
        · subst hn
          obtain ⟨n, z, hL, he, h24, hlen⟩ := rc_len hR.1 (zl_lt hb_f hs_s0) hr0.symm
          refine zr_astore (lv' := [(4, .ref q), (0, .ref o), (1, .int b), (2, .int s0), (3, .int f)]) hC dX3_share_37 (by decide) rfl ?_
          refine zr_aload_n 1 hC dX3_share_39 rfl rfl ?_
          refine zr_get (v := .ref rk) 0 0 hC iu_X3 rfl dX3_share_40 fl_X3_10 (by decide) rfl rfl ?_
          refine zr_iload_n 2 hC dX3_share_43 rfl rfl ?_
          refine zr_iload_n 3 hC dX3_share_44 rfl rfl ?_
          refine zr_aload 0 hC dX3_share_45 rfl ?_
          refine zr_cVv 1 hC cv_X2_replace ml_X3_44 (c_X2_replaceA (a := a) (x := x) hL he hb_b hs_s0) dX3_share_47 ⟨Nat.le_of_ble_eq_true rfl, Nat.le_of_ble_eq_true rfl⟩ ⟨Nat.le_of_ble_eq_true rfl, Nat.le_of_ble_eq_true rfl⟩ rfl rfl rfl rfl rfl (Nat.le_of_ble_eq_true rfl) ?_
          rintro _ rfl
          refine zr_aload_n 1 hC dX3_share_50 rfl rfl ?_
          refine zr_iconst (v := (0 : Int32)) hC dX3_share_51 rfl ?_
          refine zr_aload 0 hC dX3_share_52 rfl ?_
          refine zr_ifnull hC dX3_share_54 ?_
          refine zr_iconst (v := (1 : Int32)) hC dX3_share_57 rfl ?_
          refine zr_goto (tgt := 62) hC dX3_share_58 (by decide) ?_
          refine zr_cVi 0 hC cv_X3_leave ml_X3_36 (c_X3_leave (a := a) (x := (ck_f x (va_up (cx_f x) (zl b s0) (some q)))) (0 : Int32) (1 : Int32)) dX3_share_62 ⟨Nat.le_of_ble_eq_true rfl, Nat.le_of_ble_eq_true rfl⟩ ⟨Nat.le_of_ble_eq_true rfl, Nat.le_of_ble_eq_true rfl⟩ rfl rfl rfl rfl rfl (Nat.le_of_ble_eq_true rfl) ?_
          rintro rr _ ⟨hrr, rfl⟩
          subst rr
          refine zr_iret hC hr hk dX3_share_65 (by decide) (by decide) ⟨_, rfl, ?_⟩
          have hh : ¬ (aa_st a).1 (zl f s0) = none := fun h => by have := (hR.1.1.1 (zl f s0) (zl_lt hb_f hs_s0)).mpr h; rw [← hr0] at this; cases this
          exact zp_mw (a' := as_sta (as_st a (zf_shareS (aa_st a) (zl b s0) (zl f s0))) 0) (x' := (ck_f x (va_up (cx_f x) (zl b s0) (some q)))) (by unfold zo_share; rw [if_pos ⟨hb_b, hs_s0, hb_f⟩, if_neg hh]) (hR.of (by have := rc_share hR.1 (k := zl b s0) (k0 := zl f s0) (zl_lt hb_f hs_s0); rw [← hr0] at this; exact this) ⟨rfl, rfl, fun _ h => h, fun _ _ _ h => h⟩ rfl) rfl
      · refine zr_if_neF (tgt := 28) hC dX3_share_18 (by decide) (by decide) ?_
        refine zr_aload_n 0 hC dX3_share_21 rfl rfl ?_
        refine zr_iconst (v := (1 : Int32)) hC dX3_share_22 rfl ?_
        refine zr_iconst (v := (0 : Int32)) hC dX3_share_23 rfl ?_
        refine zr_cVi 0 hC cv_X3_leave ml_X3_36 (c_X3_leave (a := a) (x := x) (1 : Int32) (0 : Int32)) dX3_share_24 ⟨Nat.le_of_ble_eq_true rfl, Nat.le_of_ble_eq_true rfl⟩ ⟨Nat.le_of_ble_eq_true rfl, Nat.le_of_ble_eq_true rfl⟩ rfl rfl rfl rfl rfl (Nat.le_of_ble_eq_true rfl) ?_
        rintro rr _ ⟨hrr, rfl⟩
        subst rr
        refine zr_iret hC hr hk dX3_share_27 (by decide) (by decide) ⟨_, rfl, ?_⟩
        exact zp_mk (if_neg (fun h => absurd h.2.2 hb_f)) hR
    · refine zr_if_eqT (tgt := 21) hC dX3_share_11 (by decide) (by decide) ?_
      refine zr_aload_n 0 hC dX3_share_21 rfl rfl ?_
      refine zr_iconst (v := (1 : Int32)) hC dX3_share_22 rfl ?_
      refine zr_iconst (v := (0 : Int32)) hC dX3_share_23 rfl ?_
      refine zr_cVi 0 hC cv_X3_leave ml_X3_36 (c_X3_leave (a := a) (x := x) (1 : Int32) (0 : Int32)) dX3_share_24 ⟨Nat.le_of_ble_eq_true rfl, Nat.le_of_ble_eq_true rfl⟩ ⟨Nat.le_of_ble_eq_true rfl, Nat.le_of_ble_eq_true rfl⟩ rfl rfl rfl rfl rfl (Nat.le_of_ble_eq_true rfl) ?_
      rintro rr _ ⟨hrr, rfl⟩
      subst rr
      refine zr_iret hC hr hk dX3_share_27 (by decide) (by decide) ⟨_, rfl, ?_⟩
      exact zp_mk (if_neg (fun h => absurd h.2.1 hs_s0)) hR
  · refine zr_if_eqT (tgt := 21) hC dX3_share_4 (by decide) (by decide) ?_
    refine zr_aload_n 0 hC dX3_share_21 rfl rfl ?_
    refine zr_iconst (v := (1 : Int32)) hC dX3_share_22 rfl ?_
    refine zr_iconst (v := (0 : Int32)) hC dX3_share_23 rfl ?_
    refine zr_cVi 0 hC cv_X3_leave ml_X3_36 (c_X3_leave (a := a) (x := x) (1 : Int32) (0 : Int32)) dX3_share_24 ⟨Nat.le_of_ble_eq_true rfl, Nat.le_of_ble_eq_true rfl⟩ ⟨Nat.le_of_ble_eq_true rfl, Nat.le_of_ble_eq_true rfl⟩ rfl rfl rfl rfl rfl (Nat.le_of_ble_eq_true rfl) ?_
    rintro rr _ ⟨hrr, rfl⟩
    subst rr
    refine zr_iret hC hr hk dX3_share_27 (by decide) (by decide) ⟨_, rfl, ?_⟩
    exact zp_mk (if_neg (fun h => absurd h.1 hb_b)) hR
set_option maxRecDepth 100000 in
set_option maxHeartbeats 4000000 in
theorem c_X3_patch (hR : rc_R cI cII a x) (f i t j q : Int32) : zz_Mi l D (zt cI cII cF) yX3_patch cX3_patch 7 (some .int) 4 87 0 0 [.ref o, .int f, .int i, .int t, .int j, .int q] (cw_W o rk sp pp fp cII cF a x) (fun r w' => zp_c o rk sp pp fp cI cII cF (zo_patch a f i t j q) r w') := by
  refine zz_mk (by decide) (Nat.le_of_ble_eq_true rfl) ?_
  intro p e s m below meth c A hC hr hk hnm
  have hC : zz_C p s m _ c A D (zt cI cII cF) 7 cX3_patch RX3 := hC
  refine zr_iload_n 1 hC dX3_patch_0 rfl rfl ?_
  refine zr_cSi hC cs_X3_isBank ml_X3_29 (c_X3_isBank (w := (cw_W o rk sp pp fp cII cF a x)) f) dX3_patch_1 ⟨Nat.le_of_ble_eq_true rfl, Nat.le_of_ble_eq_true rfl⟩ ⟨Nat.le_of_ble_eq_true rfl, Nat.le_of_ble_eq_true rfl⟩ rfl rfl (Nat.le_of_ble_eq_true rfl) ?_
  rintro _ _ ⟨rfl, ⟨rfl, hb_f⟩ | ⟨rfl, hb_f⟩⟩
  · refine zr_if_eqF (tgt := 26) hC dX3_patch_4 (by decide) (by decide) ?_
    refine zr_iload_n 3 hC dX3_patch_7 rfl rfl ?_
    refine zr_cSi hC cs_X3_isBank ml_X3_29 (c_X3_isBank (w := (cw_W o rk sp pp fp cII cF a x)) t) dX3_patch_8 ⟨Nat.le_of_ble_eq_true rfl, Nat.le_of_ble_eq_true rfl⟩ ⟨Nat.le_of_ble_eq_true rfl, Nat.le_of_ble_eq_true rfl⟩ rfl rfl (Nat.le_of_ble_eq_true rfl) ?_
    rintro _ _ ⟨rfl, ⟨rfl, hb_t⟩ | ⟨rfl, hb_t⟩⟩
    · refine zr_if_eqF (tgt := 26) hC dX3_patch_11 (by decide) (by decide) ?_
      refine zr_iload 5 hC dX3_patch_14 rfl ?_
      refine zr_if_lt (tgt := 26) hC dX3_patch_16 (by decide) (fun c16 => ?_) (fun c16 => ?_)
      · refine zr_aload_n 0 hC dX3_patch_26 rfl rfl ?_
        refine zr_iconst (v := (1 : Int32)) hC dX3_patch_27 rfl ?_
        refine zr_iconst (v := (0 : Int32)) hC dX3_patch_28 rfl ?_
        refine zr_cVi 0 hC cv_X3_leave ml_X3_36 (c_X3_leave (a := a) (x := x) (1 : Int32) (0 : Int32)) dX3_patch_29 ⟨Nat.le_of_ble_eq_true rfl, Nat.le_of_ble_eq_true rfl⟩ ⟨Nat.le_of_ble_eq_true rfl, Nat.le_of_ble_eq_true rfl⟩ rfl rfl rfl rfl rfl (Nat.le_of_ble_eq_true rfl) ?_
        rintro rr _ ⟨hrr, rfl⟩
        subst rr
        refine zr_iret hC hr hk dX3_patch_32 (by decide) (by decide) ⟨_, rfl, ?_⟩
        exact zp_mk (if_neg (fun h => absurd h.2.2.1 (Int32.not_le.mpr c16))) hR
      · refine zr_iload 5 hC dX3_patch_19 rfl ?_
        refine zr_bipush (v := (16 : Int32)) hC dX3_patch_21 rfl ?_
        refine zr_icmp_lt (tgt := 33) hC dX3_patch_23 (by decide) (fun c23 => ?_) (fun c23 => ?_)
        · refine zr_aload_n 0 hC dX3_patch_33 rfl rfl ?_
          refine zr_iload_n 1 hC dX3_patch_34 rfl rfl ?_
          refine zr_iload 5 hC dX3_patch_35 rfl ?_
          refine zr_iconst (v := (4 : Int32)) hC dX3_patch_37 rfl ?_
          refine zr_idiv hC dX3_patch_38 (by decide) ?_
          refine zr_iload_n 2 hC dX3_patch_39 rfl rfl ?_
          have hq : (0 : Int32) ≤ q ∧ q < 16 := ⟨Int32.not_lt.mp c16, c23⟩
          refine zr_cVi 0 hC cv_X3_look ml_X3_58 (c_X3_look (a := a) (x := x) hR.1 i hb_f (zk_div hq)) dX3_patch_40 ⟨Nat.le_of_ble_eq_true rfl, Nat.le_of_ble_eq_true rfl⟩ ⟨Nat.le_of_ble_eq_true rfl, Nat.le_of_ble_eq_true rfl⟩ rfl rfl rfl rfl rfl (Nat.le_of_ble_eq_true rfl) ?_
          rintro _ _ (⟨h1, rfl, rfl⟩ | ⟨h1, rfl, rfl⟩)
          · refine zr_istore (lv' := [(6, .int (0 : Int32)), (0, .ref o), (1, .int f), (2, .int i), (3, .int t), (4, .int j), (5, .int q)]) hC dX3_patch_43 (by decide) rfl ?_
            refine zr_iload 0 hC dX3_patch_45 rfl ?_
            refine zr_if_neF (tgt := 67) hC dX3_patch_47 (by decide) (by decide) ?_
            refine zr_aload_n 1 hC dX3_patch_50 rfl rfl ?_
            refine zr_iload_n 4 hC dX3_patch_51 rfl rfl ?_
            refine zr_iload 6 hC dX3_patch_52 rfl ?_
            refine zr_iconst (v := (4 : Int32)) hC dX3_patch_54 rfl ?_
            refine zr_irem hC dX3_patch_55 (by decide) ?_
            refine zr_iload 5 hC dX3_patch_56 rfl ?_
            refine zr_aload_n 1 hC dX3_patch_58 rfl rfl ?_
            refine zr_get (v := .int (zf_val (aa_st a) (zl f (q / (4 : Int32))) i)) 0 11 hC iu_X3 rfl dX3_patch_59 fl_X3_66 (by decide) rfl rfl ?_
            refine zr_cVi 0 hC cv_X3_put ml_X3_62 (c_X3_put (a := a) (x := (ck_fnd x (zf_val (aa_st a) (zl f (q / (4 : Int32))) i))) hR.1 j (zf_val (aa_st a) (zl f (q / (4 : Int32))) i) hb_t (zk_rem hq)) dX3_patch_62 ⟨Nat.le_of_ble_eq_true rfl, Nat.le_of_ble_eq_true rfl⟩ ⟨Nat.le_of_ble_eq_true rfl, Nat.le_of_ble_eq_true rfl⟩ rfl rfl rfl rfl rfl (Nat.le_of_ble_eq_true rfl) ?_
            rintro _ _ (⟨h3, rfl, x2, hFx2, hKx2, rfl, hQx2⟩ | ⟨h3, rfl, rfl⟩)
            · refine zr_istore (lv' := [(6, .int (0 : Int32)), (0, .ref o), (1, .int f), (2, .int i), (3, .int t), (4, .int j), (5, .int q)]) hC dX3_patch_65 (by decide) rfl ?_
              refine zr_aload_n 1 hC dX3_patch_67 rfl rfl ?_
              refine zr_iload 0 hC dX3_patch_68 rfl ?_
              refine zr_cVi 0 hC cv_X3_leaveFound ml_X3_55 (c_X3_leaveFound (a := (zf_set a (zl t (q - q / (4 : Int32) * (4 : Int32))) j (zf_num (q - q / (4 : Int32) * (4 : Int32)) (zf_val (aa_st a) (zl f (q / (4 : Int32))) i)))) (x := x2) (0 : Int32)) dX3_patch_70 ⟨Nat.le_of_ble_eq_true rfl, Nat.le_of_ble_eq_true rfl⟩ ⟨Nat.le_of_ble_eq_true rfl, Nat.le_of_ble_eq_true rfl⟩ rfl rfl rfl rfl rfl (Nat.le_of_ble_eq_true rfl) ?_
              rintro _ _ ⟨rfl, rfl⟩
              refine zr_iret hC hr hk dX3_patch_73 (by decide) (by decide) ⟨_, rfl, ?_⟩
              exact zp_mk (by unfold zo_patch; rw [if_pos ⟨hb_f, hb_t, hq⟩]; simp [h1, h3, hFx2]) (hR.of hQx2 hKx2 rfl)
            · refine zr_istore (lv' := [(6, .int (zf_why (aa_st a) (zl t (q - q / (4 : Int32) * (4 : Int32))) j)), (0, .ref o), (1, .int f), (2, .int i), (3, .int t), (4, .int j), (5, .int q)]) hC dX3_patch_65 (by decide) rfl ?_
              refine zr_aload_n 1 hC dX3_patch_67 rfl rfl ?_
              refine zr_iload 0 hC dX3_patch_68 rfl ?_
              refine zr_cVi 0 hC cv_X3_leaveFound ml_X3_55 (c_X3_leaveFound (a := (zf_cnt (zf_why (aa_st a) (zl t (q - q / (4 : Int32) * (4 : Int32))) j) a)) (x := (ck_fnd x (zf_val (aa_st a) (zl f (q / (4 : Int32))) i))) (zf_why (aa_st a) (zl t (q - q / (4 : Int32) * (4 : Int32))) j)) dX3_patch_70 ⟨Nat.le_of_ble_eq_true rfl, Nat.le_of_ble_eq_true rfl⟩ ⟨Nat.le_of_ble_eq_true rfl, Nat.le_of_ble_eq_true rfl⟩ rfl rfl rfl rfl rfl (Nat.le_of_ble_eq_true rfl) ?_
              rintro _ _ ⟨rfl, rfl⟩
              refine zr_iret hC hr hk dX3_patch_73 (by decide) (by decide) ⟨_, rfl, ?_⟩
              exact zp_mk (by unfold zo_patch; rw [if_pos ⟨hb_f, hb_t, hq⟩]; simp [h1, h3]) hR
          · refine zr_istore (lv' := [(6, .int (zf_why (aa_st a) (zl f (q / (4 : Int32))) i)), (0, .ref o), (1, .int f), (2, .int i), (3, .int t), (4, .int j), (5, .int q)]) hC dX3_patch_43 (by decide) rfl ?_
            refine zr_iload 0 hC dX3_patch_45 rfl ?_
            refine zr_if_neT (tgt := 67) hC dX3_patch_47 (by decide) h1 ?_
            refine zr_aload_n 1 hC dX3_patch_67 rfl rfl ?_
            refine zr_iload 0 hC dX3_patch_68 rfl ?_
            refine zr_cVi 0 hC cv_X3_leaveFound ml_X3_55 (c_X3_leaveFound (a := (zf_cnt (zf_why (aa_st a) (zl f (q / (4 : Int32))) i) a)) (x := x) (zf_why (aa_st a) (zl f (q / (4 : Int32))) i)) dX3_patch_70 ⟨Nat.le_of_ble_eq_true rfl, Nat.le_of_ble_eq_true rfl⟩ ⟨Nat.le_of_ble_eq_true rfl, Nat.le_of_ble_eq_true rfl⟩ rfl rfl rfl rfl rfl (Nat.le_of_ble_eq_true rfl) ?_
            rintro _ _ ⟨rfl, rfl⟩
            refine zr_iret hC hr hk dX3_patch_73 (by decide) (by decide) ⟨_, rfl, ?_⟩
            exact zp_mk (by unfold zo_patch; rw [if_pos ⟨hb_f, hb_t, hq⟩]; simp [h1]) hR
        · refine zr_aload_n 0 hC dX3_patch_26 rfl rfl ?_
          refine zr_iconst (v := (1 : Int32)) hC dX3_patch_27 rfl ?_
          refine zr_iconst (v := (0 : Int32)) hC dX3_patch_28 rfl ?_
          refine zr_cVi 0 hC cv_X3_leave ml_X3_36 (c_X3_leave (a := a) (x := x) (1 : Int32) (0 : Int32)) dX3_patch_29 ⟨Nat.le_of_ble_eq_true rfl, Nat.le_of_ble_eq_true rfl⟩ ⟨Nat.le_of_ble_eq_true rfl, Nat.le_of_ble_eq_true rfl⟩ rfl rfl rfl rfl rfl (Nat.le_of_ble_eq_true rfl) ?_
          rintro rr _ ⟨hrr, rfl⟩
          subst rr
          refine zr_iret hC hr hk dX3_patch_32 (by decide) (by decide) ⟨_, rfl, ?_⟩
          exact zp_mk (if_neg (fun h => absurd h.2.2.2 c23)) hR
    · refine zr_if_eqT (tgt := 26) hC dX3_patch_11 (by decide) (by decide) ?_
      refine zr_aload_n 0 hC dX3_patch_26 rfl rfl ?_
      refine zr_iconst (v := (1 : Int32)) hC dX3_patch_27 rfl ?_
      refine zr_iconst (v := (0 : Int32)) hC dX3_patch_28 rfl ?_
      refine zr_cVi 0 hC cv_X3_leave ml_X3_36 (c_X3_leave (a := a) (x := x) (1 : Int32) (0 : Int32)) dX3_patch_29 ⟨Nat.le_of_ble_eq_true rfl, Nat.le_of_ble_eq_true rfl⟩ ⟨Nat.le_of_ble_eq_true rfl, Nat.le_of_ble_eq_true rfl⟩ rfl rfl rfl rfl rfl (Nat.le_of_ble_eq_true rfl) ?_
      rintro rr _ ⟨hrr, rfl⟩
      subst rr
      refine zr_iret hC hr hk dX3_patch_32 (by decide) (by decide) ⟨_, rfl, ?_⟩
      exact zp_mk (if_neg (fun h => absurd h.2.1 hb_t)) hR
  · refine zr_if_eqT (tgt := 26) hC dX3_patch_4 (by decide) (by decide) ?_
    refine zr_aload_n 0 hC dX3_patch_26 rfl rfl ?_
    refine zr_iconst (v := (1 : Int32)) hC dX3_patch_27 rfl ?_
    refine zr_iconst (v := (0 : Int32)) hC dX3_patch_28 rfl ?_
    refine zr_cVi 0 hC cv_X3_leave ml_X3_36 (c_X3_leave (a := a) (x := x) (1 : Int32) (0 : Int32)) dX3_patch_29 ⟨Nat.le_of_ble_eq_true rfl, Nat.le_of_ble_eq_true rfl⟩ ⟨Nat.le_of_ble_eq_true rfl, Nat.le_of_ble_eq_true rfl⟩ rfl rfl rfl rfl rfl (Nat.le_of_ble_eq_true rfl) ?_
    rintro rr _ ⟨hrr, rfl⟩
    subst rr
    refine zr_iret hC hr hk dX3_patch_32 (by decide) (by decide) ⟨_, rfl, ?_⟩
    exact zp_mk (if_neg (fun h => absurd h.1 hb_f)) hR
set_option maxRecDepth 100000 in
set_option maxHeartbeats 4000000 in
theorem c_X3_cell (hR : rc_R cI cII a x) (i j0 : Int32) : zz_Mi l D (zt cI cII cF) yX3_cell cX3_cell 4 (some .int) 3 64 0 0 [.ref o, .int i, .int j0] (cw_W o rk sp pp fp cII cF a x) (fun r w' => zp_c o rk sp pp fp cI cII cF (zo_cell a i j0) r w') := by
  refine zz_mk (by decide) (Nat.le_of_ble_eq_true rfl) ?_
  intro p e s m below meth c A hC hr hk hnm
  have hC : zz_C p s m _ c A D (zt cI cII cF) 4 cX3_cell RX3 := hC
  refine zr_aload_n 0 hC dX3_cell_0 rfl rfl ?_
  refine zr_aload_n 0 hC dX3_cell_1 rfl rfl ?_
  refine zr_get (v := .ref pp) 0 1 hC iu_X3 rfl dX3_cell_2 fl_X3_19 (by decide) rfl rfl ?_
  refine zr_iload_n 1 hC dX3_cell_5 rfl rfl ?_
  refine zr_iload_n 2 hC dX3_cell_6 rfl rfl ?_
  refine zr_cVi 3 hC cv_X1_refusalAt ml_X3_98 (c_X1_refusalAt (a := a) (x := x) hR.1 i j0) dX3_cell_7 ⟨Nat.le_of_ble_eq_true rfl, Nat.le_of_ble_eq_true rfl⟩ ⟨Nat.le_of_ble_eq_true rfl, Nat.le_of_ble_eq_true rfl⟩ rfl rfl rfl rfl rfl (Nat.le_of_ble_eq_true rfl) ?_
  rintro _ _ ⟨rfl, rfl⟩
  refine zr_cVi 0 hC cv_X3_counted ml_X3_40 (c_X3_counted (a := a) (x := x) (zf_whyC (aa_sh a) i j0)) dX3_cell_10 ⟨Nat.le_of_ble_eq_true rfl, Nat.le_of_ble_eq_true rfl⟩ ⟨Nat.le_of_ble_eq_true rfl, Nat.le_of_ble_eq_true rfl⟩ rfl rfl rfl rfl rfl (Nat.le_of_ble_eq_true rfl) ?_
  rintro _ _ ⟨rfl, rfl⟩
  refine zr_istore_n (lv' := [(3, .int (zf_whyC (aa_sh a) i j0)), (0, .ref o), (1, .int i), (2, .int j0)]) hC dX3_cell_13 rfl (by decide) rfl ?_
  refine zr_aload_n 1 hC dX3_cell_14 rfl rfl ?_
  refine zr_iload_n 0 hC dX3_cell_15 rfl rfl ?_
  refine zr_iload_n 0 hC dX3_cell_16 rfl rfl ?_
  refine zr_if_ne (tgt := 32) hC dX3_cell_17 (by decide) (fun c17 => ?_) (fun c17 => ?_)
  · refine zr_iconst (v := (0 : Int32)) hC dX3_cell_32 rfl ?_
    refine zr_cVi 0 hC cv_X3_leave ml_X3_36 (c_X3_leave (a := (zf_cnt (zf_whyC (aa_sh a) i j0) a)) (x := x) (zf_whyC (aa_sh a) i j0) (0 : Int32)) dX3_cell_33 ⟨Nat.le_of_ble_eq_true rfl, Nat.le_of_ble_eq_true rfl⟩ ⟨Nat.le_of_ble_eq_true rfl, Nat.le_of_ble_eq_true rfl⟩ rfl rfl rfl rfl rfl (Nat.le_of_ble_eq_true rfl) ?_
    rintro rr _ ⟨hrr, rfl⟩
    subst rr
    refine zr_iret hC hr hk dX3_cell_36 (by decide) (by decide) ⟨_, rfl, ?_⟩
    exact zp_mk (by unfold zo_cell; simp [c17, zf_cnt0]) hR
  · refine zr_aload_n 1 hC dX3_cell_20 rfl rfl ?_
    refine zr_get (v := .ref pp) 0 1 hC iu_X3 rfl dX3_cell_21 fl_X3_19 (by decide) rfl rfl ?_
    refine zr_iload_n 2 hC dX3_cell_24 rfl rfl ?_
    refine zr_iload_n 3 hC dX3_cell_25 rfl rfl ?_
    refine zr_cVi 3 hC cv_X1_numberAt ml_X3_101 (c_X1_numberAt (a := (zf_cnt (zf_whyC (aa_sh a) i j0) a)) (x := x) hR.1 c17) dX3_cell_26 ⟨Nat.le_of_ble_eq_true rfl, Nat.le_of_ble_eq_true rfl⟩ ⟨Nat.le_of_ble_eq_true rfl, Nat.le_of_ble_eq_true rfl⟩ rfl rfl rfl rfl rfl (Nat.le_of_ble_eq_true rfl) ?_
    rintro _ _ ⟨rfl, rfl⟩
    refine zr_goto (tgt := 33) hC dX3_cell_29 (by decide) ?_
    refine zr_cVi 0 hC cv_X3_leave ml_X3_36 (c_X3_leave (a := (zf_cnt (zf_whyC (aa_sh a) i j0) a)) (x := x) (zf_whyC (aa_sh a) i j0) (zf_cell (aa_sh a) i j0)) dX3_cell_33 ⟨Nat.le_of_ble_eq_true rfl, Nat.le_of_ble_eq_true rfl⟩ ⟨Nat.le_of_ble_eq_true rfl, Nat.le_of_ble_eq_true rfl⟩ rfl rfl rfl rfl rfl (Nat.le_of_ble_eq_true rfl) ?_
    rintro rr _ ⟨hrr, rfl⟩
    subst rr
    refine zr_iret hC hr hk dX3_cell_36 (by decide) (by decide) ⟨_, rfl, ?_⟩
    exact zp_mk (by unfold zo_cell; simp [c17, zf_cnt0]) hR
set_option maxRecDepth 100000 in
set_option maxHeartbeats 4000000 in
theorem c_X3_status (hR : rc_R cI cII a x) : zz_Mi l D (zt cI cII cF) yX3_status cX3_status 1 (some .int) 0 0 0 0 [.ref o] (cw_W o rk sp pp fp cII cF a x) (fun r w' => zp_c o rk sp pp fp cI cII cF (zo_status a) r w') := by
  refine zz_mk (by decide) (Nat.le_of_ble_eq_true rfl) ?_
  intro p e s m below meth c A hC hr hk hnm
  have hC : zz_C p s m _ c A D (zt cI cII cF) 1 cX3_status RX3 := hC
  refine zr_aload_n 0 hC dX3_status_0 rfl rfl ?_
  refine zr_get (v := .int (aa_sta a)) 0 10 hC iu_X3 rfl dX3_status_1 fl_X3_122 (by decide) rfl rfl ?_
  refine zr_iret hC hr hk dX3_status_4 (by decide) (by decide) ⟨_, rfl, ?_⟩
  exact zp_mk rfl hR
end ZA5
