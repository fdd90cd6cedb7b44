section ZB3
variable {l : Launch} {D : va_G} {cI cII cF : ClassId} {o rk sp pp fp mo m1 m2 m3 m4 m5 m6 m7 m8 m9 : Nat}
variable {a : ax_A} {x : mx_X}
theorem rm_F_nil {fb fl ft fg : Nat → Int32} {off : Nat} : rm_F [] fb fl ft fg off := fun j q h => by simp at h
theorem rm_F_tail {q : Int32 × Int32 × Int32 × Int32} {rest : ax_FD} {fb fl ft fg : Nat → Int32} {off : Nat} (h : rm_F (q :: rest) fb fl ft fg off) : rm_F rest fb fl ft fg (off + 1) := by
  intro j q' hj
  have := h (j + 1) q' (by rw [List.getElem?_cons_succ]; exact hj)
  rw [show off + (j + 1) = off + 1 + j by omega] at this
  exact this
theorem rm_F_head {q : Int32 × Int32 × Int32 × Int32} {rest : ax_FD} {fb fl ft fg : Nat → Int32} {off : Nat} (h : rm_F (q :: rest) fb fl ft fg off) : zk_b q.1 ∧ fb off = q.1 ∧ fl off = q.2.1 ∧ ft off = q.2.2.1 ∧ fg off = q.2.2.2 ∧ (-8000000 ≤ q.2.2.1 ∧ q.2.2.1 ≤ 8000000) ∧ (1 ≤ q.2.2.2 ∧ q.2.2.2 ≤ 1000) := h 0 q rfl
theorem rm_F_snoc {q : Int32 × Int32 × Int32 × Int32} {fd : ax_FD} {fb fl ft fg : Nat → Int32} (h : rm_F fd fb fl ft fg 0) (hb : zk_b q.1) (h1 : -8000000 ≤ q.2.2.1 ∧ q.2.2.1 ≤ 8000000) (h2 : 1 ≤ q.2.2.2 ∧ q.2.2.2 ≤ 1000) : rm_F (fd ++ [q]) (upd fb fd.length q.1) (upd fl fd.length q.2.1) (upd ft fd.length q.2.2.1) (upd fg fd.length q.2.2.2) 0 := by
  intro j q' hj
  by_cases hl : j < fd.length
  · rw [List.getElem?_append_left hl] at hj
    have := h j q' hj
    rw [pk_un (by omega), pk_un (by omega), pk_un (by omega), pk_un (by omega)]
    exact this
  · rw [List.getElem?_append_right (by omega)] at hj
    have hz : j - fd.length < 1 := (List.getElem?_eq_some_iff.mp hj).1
    have hj0 : j = fd.length := by omega
    subst hj0
    rw [Nat.sub_self] at hj
    cases hj
    rw [Nat.zero_add, pk_us, pk_us, pk_us, pk_us]
    exact ⟨hb, rfl, rfl, rfl, rfl, h1, h2⟩
theorem rm_F_up {fd : ax_FD} {fb fl ft fg : Nat → Int32} {off k : Nat} {v1 v2 v3 v4 : Int32} (h : rm_F fd fb fl ft fg off) (hk : k < off) : rm_F fd (upd fb k v1) (upd fl k v2) (upd ft k v3) (upd fg k v4) off := by
  intro j q hj
  have := h j q hj
  rw [pk_un (by omega), pk_un (by omega), pk_un (by omega), pk_un (by omega)]
  exact this
theorem rm_fade {a : ax_A} {x : mx_X} (hR : rm_R a x) {b i t s : Int32} (hb : zk_b b) (hs : 1 ≤ s ∧ s ≤ 1000) (hl : (aa_fd a).length < 16) {fs : Int32} (hfs : fs = nI ((aa_fd a).length + 1)) : rm_R (as_fd a (aa_fd a ++ [(b, i, zf_lev t, s)])) (mk_fs (mk_fg (mk_ft (mk_fl (mk_fb x (upd (mx_fb x) (aa_fd a).length b)) (upd (mx_fl x) (aa_fd a).length i)) (upd (mx_ft x) (aa_fd a).length (zf_lev t))) (upd (mx_fg x) (aa_fd a).length s)) fs) := by
  refine ⟨hR.1, rm_F_snoc (q := (b, i, zf_lev t, s)) hR.2.1 hb (zf_lev_rg t) hs, ?_, ?_⟩
  · show fs = nI (aa_fd a ++ [(b, i, zf_lev t, s)]).length
    rw [hfs, List.length_append]; rfl
  · show (aa_fd a ++ [(b, i, zf_lev t, s)]).length ≤ 16
    rw [List.length_append]; exact hl
theorem zf_show_key {a : ax_A} {b i : Int32} (h : (zf_show a b i).1 = 0) : zf_why (aa_st a) (zl b 3) i = 0 := by
  by_cases h0 : zf_why (aa_st a) (zl b 3) i = 0
  · exact h0
  · unfold zf_show at h
    rw [if_neg h0] at h
    exact absurd h h0
set_option maxRecDepth 100000 in
set_option maxHeartbeats 4000000 in
theorem c_X4_whyCell (hR : rm_Q a x) (i j0 : Int32) : zz_Mi l D (zt cI cII cF) yX4_whyCell cX4_whyCell 3 (some .int) 1 22 0 0 [.ref mo, .int i, .int j0] (mw_W mo m1 m2 m3 m4 m5 m6 m7 m8 m9 cI a x) (fun r w' => r = zf_whyC (aa_sh a) i j0 ∧ w' = (mw_W mo m1 m2 m3 m4 m5 m6 m7 m8 m9 cI a x)) := by
  refine zz_mk (by decide) (Nat.le_of_ble_eq_true rfl) ?_
  intro p e s m below meth c A hC hr hk hnm
  have hC : zz_C p s m _ c A D (zt cI cII cF) 3 cX4_whyCell RX4 := hC
  refine zr_aload_n 0 hC dX4_whyCell_0 rfl rfl ?_
  refine zr_get (v := .int (mx_hs x)) 0 3 hC iu_X4 rfl dX4_whyCell_1 fl_X4_118 (by decide) rfl rfl ?_
  refine zr_if_ne (tgt := 9) hC dX4_whyCell_4 (by decide) (fun c4 => ?_) (fun c4 => ?_)
  · obtain ⟨hhs, n, m0, hdim, hn, hm, hrm, hcm, g6, g7, g8⟩ := rm_dim hR (rm_yes hR c4)
    refine zr_iload_n 1 hC dX4_whyCell_9 rfl rfl ?_
    refine zr_iconst (v := (0 : Int32)) hC dX4_whyCell_10 rfl ?_
    refine zr_aload_n 0 hC dX4_whyCell_11 rfl rfl ?_
    refine zr_get (v := .int (mx_rm x)) 0 4 hC iu_X4 rfl dX4_whyCell_12 fl_X4_122 (by decide) rfl rfl ?_
    refine zr_iconst (v := (1 : Int32)) hC dX4_whyCell_15 rfl ?_
    refine zr_isub hC dX4_whyCell_16 ?_
    refine zr_cSi hC cs_X4_in ml_X4_37 (c_X4_in (w := (mw_W mo m1 m2 m3 m4 m5 m6 m7 m8 m9 cI a x)) i (0 : Int32) ((mx_rm x) - (1 : Int32))) dX4_whyCell_17 ⟨Nat.le_of_ble_eq_true rfl, Nat.le_of_ble_eq_true rfl⟩ ⟨Nat.le_of_ble_eq_true rfl, Nat.le_of_ble_eq_true rfl⟩ rfl rfl (Nat.le_of_ble_eq_true rfl) ?_
    rintro _ _ ⟨rfl, ⟨rfl, hi1⟩ | ⟨rfl, hi1⟩⟩
    · refine zr_if_neT (tgt := 25) hC dX4_whyCell_20 (by decide) (by decide) ?_
      rw [hrm, zn_le (by omega)] at hi1
      obtain ⟨ii, hii, rfl⟩ := zn_lt (by omega) hi1
      refine zr_aload_n 0 hC dX4_whyCell_25 rfl rfl ?_
      refine zr_get (v := .ref m4) 0 6 hC iu_X4 rfl dX4_whyCell_26 fl_X4_19 (by decide) rfl rfl ?_
      refine zr_iload_n 1 hC dX4_whyCell_29 rfl rfl ?_
      refine zr_iaj (f := (mx_rw x)) (j := ii) 4 0 hC dX4_whyCell_30 rfl rfl (by omega) rfl (by decide) ?_
      refine zr_iconst (v := (-1 : Int32)) hC dX4_whyCell_31 rfl ?_
      refine zr_icmp_ne (tgt := 37) hC dX4_whyCell_32 (by decide) (fun c32 => ?_) (fun c32 => ?_)
      · refine zr_iload_n 2 hC dX4_whyCell_37 rfl rfl ?_
        refine zr_iconst (v := (0 : Int32)) hC dX4_whyCell_38 rfl ?_
        refine zr_aload_n 0 hC dX4_whyCell_39 rfl rfl ?_
        refine zr_get (v := .int (mx_cm x)) 0 5 hC iu_X4 rfl dX4_whyCell_40 fl_X4_125 (by decide) rfl rfl ?_
        refine zr_iconst (v := (1 : Int32)) hC dX4_whyCell_43 rfl ?_
        refine zr_isub hC dX4_whyCell_44 ?_
        refine zr_cSi hC cs_X4_in ml_X4_37 (c_X4_in (w := (mw_W mo m1 m2 m3 m4 m5 m6 m7 m8 m9 cI a x)) j0 (0 : Int32) ((mx_cm x) - (1 : Int32))) dX4_whyCell_45 ⟨Nat.le_of_ble_eq_true rfl, Nat.le_of_ble_eq_true rfl⟩ ⟨Nat.le_of_ble_eq_true rfl, Nat.le_of_ble_eq_true rfl⟩ rfl rfl (Nat.le_of_ble_eq_true rfl) ?_
        rintro _ _ ⟨rfl, ⟨rfl, hi2⟩ | ⟨rfl, hi2⟩⟩
        · refine zr_if_eqF (tgt := 55) hC dX4_whyCell_48 (by decide) (by decide) ?_
          refine zr_iconst (v := (0 : Int32)) hC dX4_whyCell_51 rfl ?_
          refine zr_goto (tgt := 56) hC dX4_whyCell_52 (by decide) ?_
          refine zr_iret hC hr hk dX4_whyCell_56 (by decide) (by decide) ⟨_, rfl, ?_⟩
          have hp : (aa_sh a).2.1 ii = true := by
            cases e0 : (aa_sh a).2.1 ii with
            | true => rfl
            | false => exact absurd ((g6 ii hii).mpr e0) c32
          rw [hcm, zn_le (by omega)] at hi2
          exact ⟨by rw [zf_whyC_some hdim, if_pos hi1, nI_clamp (by omega)]; rw [if_pos hp, if_pos hi2], rfl⟩
        · refine zr_if_eqT (tgt := 55) hC dX4_whyCell_48 (by decide) (by decide) ?_
          refine zr_iconst (v := (3 : Int32)) hC dX4_whyCell_55 rfl ?_
          refine zr_iret hC hr hk dX4_whyCell_56 (by decide) (by decide) ⟨_, rfl, ?_⟩
          have hp : (aa_sh a).2.1 ii = true := by
            cases e0 : (aa_sh a).2.1 ii with
            | true => rfl
            | false => exact absurd ((g6 ii hii).mpr e0) c32
          rw [hcm, zn_le (by omega)] at hi2
          exact ⟨by rw [zf_whyC_some hdim, if_pos hi1, nI_clamp (by omega)]; rw [if_pos hp, if_neg hi2], rfl⟩
      · refine zr_iconst (v := (2 : Int32)) hC dX4_whyCell_35 rfl ?_
        refine zr_iret hC hr hk dX4_whyCell_36 (by decide) (by decide) ⟨_, rfl, ?_⟩
        exact ⟨by rw [zf_whyC_some hdim, if_pos hi1, nI_clamp (by omega)]; rw [if_neg (by rw [(g6 ii hii).mp c32]; decide)], rfl⟩
    · refine zr_if_neF (tgt := 25) hC dX4_whyCell_20 (by decide) (by decide) ?_
      refine zr_iconst (v := (3 : Int32)) hC dX4_whyCell_23 rfl ?_
      refine zr_iret hC hr hk dX4_whyCell_24 (by decide) (by decide) ⟨_, rfl, ?_⟩
      rw [hrm, zn_le (by omega)] at hi1
      exact ⟨by rw [zf_whyC_some hdim, if_neg hi1], rfl⟩
  · refine zr_iconst (v := (2 : Int32)) hC dX4_whyCell_7 rfl ?_
    refine zr_iret hC hr hk dX4_whyCell_8 (by decide) (by decide) ⟨_, rfl, ?_⟩
    exact ⟨(zf_whyC_none (rm_no hR c4)).symm, rfl⟩
set_option maxRecDepth 100000 in
set_option maxHeartbeats 4000000 in
theorem c_X4_cell (hR : rm_R a x) (i j0 : Int32) : zz_Mi l D (zt cI cII cF) yX4_cell cX4_cell 3 (some .int) 2 44 0 0 [.ref mo, .int i, .int j0] (mw_W mo m1 m2 m3 m4 m5 m6 m7 m8 m9 cI a x) (fun r w' => zp_m mo m1 m2 m3 m4 m5 m6 m7 m8 m9 cI (zo_cell a i j0) r w') := by
  refine zz_mk (by decide) (Nat.le_of_ble_eq_true rfl) ?_
  intro p e s m below meth c A hC hr hk hnm
  have hC : zz_C p s m _ c A D (zt cI cII cF) 3 cX4_cell RX4 := hC
  refine zr_aload_n 0 hC dX4_cell_0 rfl rfl ?_
  refine zr_aload_n 0 hC dX4_cell_1 rfl rfl ?_
  refine zr_aload_n 0 hC dX4_cell_2 rfl rfl ?_
  refine zr_iload_n 1 hC dX4_cell_3 rfl rfl ?_
  refine zr_iload_n 2 hC dX4_cell_4 rfl rfl ?_
  refine zr_cVi 0 hC cv_X4_whyCell ml_X4_128 (c_X4_whyCell (a := a) (x := x) hR.1 i j0) dX4_cell_5 ⟨Nat.le_of_ble_eq_true rfl, Nat.le_of_ble_eq_true rfl⟩ ⟨Nat.le_of_ble_eq_true rfl, Nat.le_of_ble_eq_true rfl⟩ rfl rfl rfl rfl rfl (Nat.le_of_ble_eq_true rfl) ?_
  rintro _ _ ⟨rfl, rfl⟩
  refine zr_cVi 0 hC cv_X4_counted ml_X4_57 (c_X4_counted (a := a) (x := x) (zf_whyC (aa_sh a) i j0) (by rcases zf_whyC_or (aa_sh a) i j0 with h | h | h <;> rw [h] <;> decide)) dX4_cell_8 ⟨Nat.le_of_ble_eq_true rfl, Nat.le_of_ble_eq_true rfl⟩ ⟨Nat.le_of_ble_eq_true rfl, Nat.le_of_ble_eq_true rfl⟩ rfl rfl rfl rfl rfl (Nat.le_of_ble_eq_true rfl) ?_
  rintro rr _ ⟨hrr, rfl⟩
  subst rr
  refine zr_put (w' := (mw_W mo m1 m2 m3 m4 m5 m6 m7 m8 m9 cI (as_sta (zf_cnt (zf_whyC (aa_sh a) i j0) a) (zf_whyC (aa_sh a) i j0)) x)) 0 13 hC iu_X4 tyX4_ok nmX4 rfl dX4_cell_11 fl_X4_41 (by decide) rfl rfl rfl rfl (Nat.le_of_ble_eq_true rfl) rfl ?_
  refine zr_aload_n 0 hC dX4_cell_14 rfl rfl ?_
  refine zr_get (v := .int (zf_whyC (aa_sh a) i j0)) 0 13 hC iu_X4 rfl dX4_cell_15 fl_X4_41 (by decide) rfl rfl ?_
  refine zr_if_ne (tgt := 40) hC dX4_cell_18 (by decide) (fun c18 => ?_) (fun c18 => ?_)
  · refine zr_iconst (v := (0 : Int32)) hC dX4_cell_40 rfl ?_
    refine zr_iret hC hr hk dX4_cell_41 (by decide) (by decide) ⟨_, rfl, ?_⟩
    exact zq_mk (by unfold zo_cell; rw [if_neg c18]) hR
  · obtain ⟨n, m0, ii, jj, z, hdim, hn, hm, hii, rfl, hjj, rfl, hz, hrz, hcell⟩ := rm_cell0 hR.1 c18
    refine zr_aload_n 0 hC dX4_cell_21 rfl rfl ?_
    refine zr_get (v := .ref m5) 0 7 hC iu_X4 rfl dX4_cell_22 fl_X4_22 (by decide) rfl rfl ?_
    refine zr_bipush (v := (12 : Int32)) hC dX4_cell_25 rfl ?_
    refine zr_aload_n 0 hC dX4_cell_27 rfl rfl ?_
    refine zr_get (v := .ref m4) 0 6 hC iu_X4 rfl dX4_cell_28 fl_X4_19 (by decide) rfl rfl ?_
    refine zr_iload_n 1 hC dX4_cell_31 rfl rfl ?_
    refine zr_iaj (f := (mx_rw x)) (j := ii) 4 0 hC dX4_cell_32 rfl rfl (by omega) rfl (by decide) ?_
    refine zr_imul hC dX4_cell_33 ?_
    refine zr_iload_n 2 hC dX4_cell_34 rfl rfl ?_
    refine zr_iadd hC dX4_cell_35 ?_
    refine zr_iaj (f := (mx_ce x)) (j := 12 * z + jj) 5 0 hC dX4_cell_36 rfl rfl (by omega) (by rw [hrz, show (12 : Int32) = nI 12 from rfl, pk_mul, nI_add]) (by decide) ?_
    refine zr_goto (tgt := 41) hC dX4_cell_37 (by decide) ?_
    refine zr_iret hC hr hk dX4_cell_41 (by decide) (by decide) ⟨_, rfl, ?_⟩
    exact zq_mk (by unfold zo_cell; rw [if_pos c18, hcell, c18, zf_cnt0]) hR
set_option maxRecDepth 100000 in
set_option maxHeartbeats 4000000 in
theorem c_X4_tear (hR : rm_R a x) (i k : Int32) : zz_Mi l D (zt cI cII cF) yX4_tear cX4_tear 3 (some .int) 1 22 0 0 [.ref mo, .int i, .int k] (mw_W mo m1 m2 m3 m4 m5 m6 m7 m8 m9 cI a x) (fun r w' => zp_m mo m1 m2 m3 m4 m5 m6 m7 m8 m9 cI (zo_tear a i k) r w') := by
  refine zz_mk (by decide) (Nat.le_of_ble_eq_true rfl) ?_
  intro p e s m below meth c A hC hr hk hnm
  have hC : zz_C p s m _ c A D (zt cI cII cF) 3 cX4_tear RX4 := hC
  refine zr_aload_n 0 hC dX4_tear_0 rfl rfl ?_
  refine zr_aload_n 0 hC dX4_tear_1 rfl rfl ?_
  refine zr_aload_n 0 hC dX4_tear_2 rfl rfl ?_
  refine zr_get (v := .int (mx_hs x)) 0 3 hC iu_X4 rfl dX4_tear_3 fl_X4_118 (by decide) rfl rfl ?_
  refine zr_if_ne (tgt := 13) hC dX4_tear_6 (by decide) (fun c6 => ?_) (fun c6 => ?_)
  · refine zr_iload_n 2 hC dX4_tear_13 rfl rfl ?_
    refine zr_iconst (v := (-1 : Int32)) hC dX4_tear_14 rfl ?_
    refine zr_icmp_eq (tgt := 32) hC dX4_tear_15 (by decide) (fun c15 => ?_) (fun c15 => ?_)
    · refine zr_iload_n 1 hC dX4_tear_32 rfl rfl ?_
      refine zr_iconst (v := (0 : Int32)) hC dX4_tear_33 rfl ?_
      refine zr_aload_n 0 hC dX4_tear_34 rfl rfl ?_
      refine zr_get (v := .int (mx_rm x)) 0 4 hC iu_X4 rfl dX4_tear_35 fl_X4_122 (by decide) rfl rfl ?_
      refine zr_iconst (v := (1 : Int32)) hC dX4_tear_38 rfl ?_
      refine zr_isub hC dX4_tear_39 ?_
      refine zr_cSi hC cs_X4_in ml_X4_37 (c_X4_in (w := (mw_W mo m1 m2 m3 m4 m5 m6 m7 m8 m9 cI a x)) i (0 : Int32) ((mx_rm x) - (1 : Int32))) dX4_tear_40 ⟨Nat.le_of_ble_eq_true rfl, Nat.le_of_ble_eq_true rfl⟩ ⟨Nat.le_of_ble_eq_true rfl, Nat.le_of_ble_eq_true rfl⟩ rfl rfl (Nat.le_of_ble_eq_true rfl) ?_
      rintro _ _ ⟨rfl, ⟨rfl, hi1⟩ | ⟨rfl, hi1⟩⟩
      · refine zr_if_neT (tgt := 50) hC dX4_tear_43 (by decide) (by decide) ?_
        refine zr_iconst (v := (0 : Int32)) hC dX4_tear_50 rfl ?_
        refine zr_cVi 0 hC cv_X4_counted ml_X4_57 (c_X4_counted (a := a) (x := x) (0 : Int32) (by decide)) dX4_tear_51 ⟨Nat.le_of_ble_eq_true rfl, Nat.le_of_ble_eq_true rfl⟩ ⟨Nat.le_of_ble_eq_true rfl, Nat.le_of_ble_eq_true rfl⟩ rfl rfl rfl rfl rfl (Nat.le_of_ble_eq_true rfl) ?_
        rintro rr _ ⟨hrr, rfl⟩
        subst rr
        refine zr_put (w' := (mw_W mo m1 m2 m3 m4 m5 m6 m7 m8 m9 cI (as_sta (zf_cnt (0 : Int32) a) (0 : Int32)) x)) 0 13 hC iu_X4 tyX4_ok nmX4 rfl dX4_tear_54 fl_X4_41 (by decide) rfl rfl rfl rfl (Nat.le_of_ble_eq_true rfl) rfl ?_
        refine zr_aload_n 0 hC dX4_tear_57 rfl rfl ?_
        refine zr_get (v := .int (0 : Int32)) 0 13 hC iu_X4 rfl dX4_tear_58 fl_X4_41 (by decide) rfl rfl ?_
        refine zr_if_eqT (tgt := 66) hC dX4_tear_61 (by decide) (by decide) ?_
        obtain ⟨hhs, n, m0, hdim, hn, hm, hrm, hcm, g6, g7, g8⟩ := rm_dim hR.1 (rm_yes hR.1 c6)
        have hwi := hi1
        rw [hrm, zn_le (by omega)] at hwi
        obtain ⟨ii, hii, rfl⟩ := zn_lt (by omega) hwi
        refine zr_aload_n 0 hC dX4_tear_66 rfl rfl ?_
        refine zr_get (v := .ref m4) 0 6 hC iu_X4 rfl dX4_tear_67 fl_X4_19 (by decide) rfl rfl ?_
        refine zr_iload_n 1 hC dX4_tear_70 rfl rfl ?_
        refine zr_iload_n 2 hC dX4_tear_71 rfl rfl ?_
        refine zr_iconst (v := (-1 : Int32)) hC dX4_tear_72 rfl ?_
        refine zr_icmp_ne (tgt := 80) hC dX4_tear_73 (by decide) (fun h => absurd c15 h) (fun _ => ?_)
        refine zr_iconst (v := (-1 : Int32)) hC dX4_tear_76 rfl ?_
        refine zr_goto (tgt := 86) hC dX4_tear_77 (by decide) ?_
        refine zr_iasj (f := (mx_rw x)) (j := ii) (w' := (mw_W mo m1 m2 m3 m4 m5 m6 m7 m8 m9 cI (as_sta (zf_cnt (0 : Int32) a) (0 : Int32)) (mk_rw x (upd (mx_rw x) ii (-1 : Int32))))) 4 0 hC dX4_tear_86 rfl rfl (by omega) rfl (by decide) rfl ?_
        refine zr_aload_n 0 hC dX4_tear_87 rfl rfl ?_
        refine zr_get (v := .ref m4) 0 6 hC iu_X4 rfl dX4_tear_88 fl_X4_19 (by decide) rfl rfl ?_
        refine zr_iload_n 1 hC dX4_tear_91 rfl rfl ?_
        refine zr_iaj (f := (upd (mx_rw x) ii (-1 : Int32))) (j := ii) 4 0 hC dX4_tear_92 rfl rfl (by omega) rfl (by decide) ?_
        refine zr_iconst (v := (-1 : Int32)) hC dX4_tear_93 rfl ?_
        refine zr_icmp_ne (tgt := 101) hC dX4_tear_94 (by decide) (fun c94 => ?_) (fun c94 => ?_)
        · refine zr_iconst (v := (1 : Int32)) hC dX4_tear_101 rfl ?_
          refine zr_iret hC hr hk dX4_tear_102 (by decide) (by decide) ⟨_, rfl, ?_⟩
          rw [pk_us] at c94
          exact absurd rfl c94
        · refine zr_iconst (v := (0 : Int32)) hC dX4_tear_97 rfl ?_
          refine zr_goto (tgt := 102) hC dX4_tear_98 (by decide) ?_
          refine zr_iret hC hr hk dX4_tear_102 (by decide) (by decide) ⟨_, rfl, ?_⟩
          exact zq_mw (a' := as_sta (as_sh a (zf_tear0 (aa_sh a) ii)) 0) (x' := (mk_rw x (upd (mx_rw x) ii (-1 : Int32)))) (by unfold zo_tear; rw [if_neg (rm_yes hR.1 c6), zf_rows_some hdim, if_pos ⟨Or.inl c15, hwi⟩, if_pos c15, nI_clamp (by omega)]) ⟨rm_tear0 hR.1 hdim, hR.2⟩ (by rw [zf_cnt0 a]; rfl)
      · refine zr_if_neF (tgt := 50) hC dX4_tear_43 (by decide) (by decide) ?_
        refine zr_iconst (v := (3 : Int32)) hC dX4_tear_46 rfl ?_
        refine zr_goto (tgt := 51) hC dX4_tear_47 (by decide) ?_
        refine zr_cVi 0 hC cv_X4_counted ml_X4_57 (c_X4_counted (a := a) (x := x) (3 : Int32) (by decide)) dX4_tear_51 ⟨Nat.le_of_ble_eq_true rfl, Nat.le_of_ble_eq_true rfl⟩ ⟨Nat.le_of_ble_eq_true rfl, Nat.le_of_ble_eq_true rfl⟩ rfl rfl rfl rfl rfl (Nat.le_of_ble_eq_true rfl) ?_
        rintro rr _ ⟨hrr, rfl⟩
        subst rr
        refine zr_put (w' := (mw_W mo m1 m2 m3 m4 m5 m6 m7 m8 m9 cI (as_sta (zf_cnt (3 : Int32) a) (3 : Int32)) x)) 0 13 hC iu_X4 tyX4_ok nmX4 rfl dX4_tear_54 fl_X4_41 (by decide) rfl rfl rfl rfl (Nat.le_of_ble_eq_true rfl) rfl ?_
        refine zr_aload_n 0 hC dX4_tear_57 rfl rfl ?_
        refine zr_get (v := .int (3 : Int32)) 0 13 hC iu_X4 rfl dX4_tear_58 fl_X4_41 (by decide) rfl rfl ?_
        refine zr_if_eqF (tgt := 66) hC dX4_tear_61 (by decide) (by decide) ?_
        refine zr_iconst (v := (0 : Int32)) hC dX4_tear_64 rfl ?_
        refine zr_iret hC hr hk dX4_tear_65 (by decide) (by decide) ⟨_, rfl, ?_⟩
        obtain ⟨hhs, n, m0, hdim, hn, hm, hrm, hcm, g6, g7, g8⟩ := rm_dim hR.1 (rm_yes hR.1 c6)
        rw [hrm, zn_le (by omega), ← zf_rows_some hdim] at hi1
        exact zq_mk (by unfold zo_tear; rw [if_neg (rm_yes hR.1 c6), if_neg (fun q => hi1 q.2)]) hR
    · refine zr_iload_n 2 hC dX4_tear_18 rfl rfl ?_
      refine zr_iconst (v := (0 : Int32)) hC dX4_tear_19 rfl ?_
      refine zr_aload_n 0 hC dX4_tear_20 rfl rfl ?_
      refine zr_get (v := .int (mx_rm x)) 0 4 hC iu_X4 rfl dX4_tear_21 fl_X4_122 (by decide) rfl rfl ?_
      refine zr_iconst (v := (1 : Int32)) hC dX4_tear_24 rfl ?_
      refine zr_isub hC dX4_tear_25 ?_
      refine zr_cSi hC cs_X4_in ml_X4_37 (c_X4_in (w := (mw_W mo m1 m2 m3 m4 m5 m6 m7 m8 m9 cI a x)) k (0 : Int32) ((mx_rm x) - (1 : Int32))) dX4_tear_26 ⟨Nat.le_of_ble_eq_true rfl, Nat.le_of_ble_eq_true rfl⟩ ⟨Nat.le_of_ble_eq_true rfl, Nat.le_of_ble_eq_true rfl⟩ rfl rfl (Nat.le_of_ble_eq_true rfl) ?_
      rintro _ _ ⟨rfl, ⟨rfl, hi2⟩ | ⟨rfl, hi2⟩⟩
      · refine zr_if_eqF (tgt := 46) hC dX4_tear_29 (by decide) (by decide) ?_
        refine zr_iload_n 1 hC dX4_tear_32 rfl rfl ?_
        refine zr_iconst (v := (0 : Int32)) hC dX4_tear_33 rfl ?_
        refine zr_aload_n 0 hC dX4_tear_34 rfl rfl ?_
        refine zr_get (v := .int (mx_rm x)) 0 4 hC iu_X4 rfl dX4_tear_35 fl_X4_122 (by decide) rfl rfl ?_
        refine zr_iconst (v := (1 : Int32)) hC dX4_tear_38 rfl ?_
        refine zr_isub hC dX4_tear_39 ?_
        refine zr_cSi hC cs_X4_in ml_X4_37 (c_X4_in (w := (mw_W mo m1 m2 m3 m4 m5 m6 m7 m8 m9 cI a x)) i (0 : Int32) ((mx_rm x) - (1 : Int32))) dX4_tear_40 ⟨Nat.le_of_ble_eq_true rfl, Nat.le_of_ble_eq_true rfl⟩ ⟨Nat.le_of_ble_eq_true rfl, Nat.le_of_ble_eq_true rfl⟩ rfl rfl (Nat.le_of_ble_eq_true rfl) ?_
        rintro _ _ ⟨rfl, ⟨rfl, hi3⟩ | ⟨rfl, hi3⟩⟩
        · refine zr_if_neT (tgt := 50) hC dX4_tear_43 (by decide) (by decide) ?_
          refine zr_iconst (v := (0 : Int32)) hC dX4_tear_50 rfl ?_
          refine zr_cVi 0 hC cv_X4_counted ml_X4_57 (c_X4_counted (a := a) (x := x) (0 : Int32) (by decide)) dX4_tear_51 ⟨Nat.le_of_ble_eq_true rfl, Nat.le_of_ble_eq_true rfl⟩ ⟨Nat.le_of_ble_eq_true rfl, Nat.le_of_ble_eq_true rfl⟩ rfl rfl rfl rfl rfl (Nat.le_of_ble_eq_true rfl) ?_
          rintro rr _ ⟨hrr, rfl⟩
          subst rr
          refine zr_put (w' := (mw_W mo m1 m2 m3 m4 m5 m6 m7 m8 m9 cI (as_sta (zf_cnt (0 : Int32) a) (0 : Int32)) x)) 0 13 hC iu_X4 tyX4_ok nmX4 rfl dX4_tear_54 fl_X4_41 (by decide) rfl rfl rfl rfl (Nat.le_of_ble_eq_true rfl) rfl ?_
          refine zr_aload_n 0 hC dX4_tear_57 rfl rfl ?_
          refine zr_get (v := .int (0 : Int32)) 0 13 hC iu_X4 rfl dX4_tear_58 fl_X4_41 (by decide) rfl rfl ?_
          refine zr_if_eqT (tgt := 66) hC dX4_tear_61 (by decide) (by decide) ?_
          obtain ⟨hhs, n, m0, hdim, hn, hm, hrm, hcm, g6, g7, g8⟩ := rm_dim hR.1 (rm_yes hR.1 c6)
          have hwi := hi3
          rw [hrm, zn_le (by omega)] at hwi
          obtain ⟨ii, hii, rfl⟩ := zn_lt (by omega) hwi
          have hwk := hi2
          rw [hrm, zn_le (by omega)] at hwk
          obtain ⟨kk, hkk, rfl⟩ := zn_lt (by omega) hwk
          refine zr_aload_n 0 hC dX4_tear_66 rfl rfl ?_
          refine zr_get (v := .ref m4) 0 6 hC iu_X4 rfl dX4_tear_67 fl_X4_19 (by decide) rfl rfl ?_
          refine zr_iload_n 1 hC dX4_tear_70 rfl rfl ?_
          refine zr_iload_n 2 hC dX4_tear_71 rfl rfl ?_
          refine zr_iconst (v := (-1 : Int32)) hC dX4_tear_72 rfl ?_
          refine zr_icmp_ne (tgt := 80) hC dX4_tear_73 (by decide) (fun _ => ?_) (fun h => absurd h c15)
          refine zr_aload_n 0 hC dX4_tear_80 rfl rfl ?_
          refine zr_get (v := .ref m4) 0 6 hC iu_X4 rfl dX4_tear_81 fl_X4_19 (by decide) rfl rfl ?_
          refine zr_iload_n 2 hC dX4_tear_84 rfl rfl ?_
          refine zr_iaj (f := (mx_rw x)) (j := kk) 4 0 hC dX4_tear_85 rfl rfl (by omega) rfl (by decide) ?_
          refine zr_iasj (f := (mx_rw x)) (j := ii) (w' := (mw_W mo m1 m2 m3 m4 m5 m6 m7 m8 m9 cI (as_sta (zf_cnt (0 : Int32) a) (0 : Int32)) (mk_rw x (upd (mx_rw x) ii ((mx_rw x) kk))))) 4 0 hC dX4_tear_86 rfl rfl (by omega) rfl (by decide) rfl ?_
          refine zr_aload_n 0 hC dX4_tear_87 rfl rfl ?_
          refine zr_get (v := .ref m4) 0 6 hC iu_X4 rfl dX4_tear_88 fl_X4_19 (by decide) rfl rfl ?_
          refine zr_iload_n 1 hC dX4_tear_91 rfl rfl ?_
          refine zr_iaj (f := (upd (mx_rw x) ii ((mx_rw x) kk))) (j := ii) 4 0 hC dX4_tear_92 rfl rfl (by omega) rfl (by decide) ?_
          refine zr_iconst (v := (-1 : Int32)) hC dX4_tear_93 rfl ?_
          refine zr_icmp_ne (tgt := 101) hC dX4_tear_94 (by decide) (fun c94 => ?_) (fun c94 => ?_)
          · refine zr_iconst (v := (1 : Int32)) hC dX4_tear_101 rfl ?_
            refine zr_iret hC hr hk dX4_tear_102 (by decide) (by decide) ⟨_, rfl, ?_⟩
            rw [pk_us] at c94
            exact zq_mw (a' := as_sta (as_sh a (zf_tearS (aa_sh a) ii kk)) 0) (x' := (mk_rw x (upd (mx_rw x) ii ((mx_rw x) kk)))) (by unfold zo_tear; rw [if_neg (rm_yes hR.1 c6), zf_rows_some hdim, if_pos ⟨Or.inr hwk, hwi⟩, if_neg c15, nI_clamp (by omega), nI_clamp (by omega), if_pos (by cases e0 : (aa_sh a).2.1 kk with | true => rfl | false => exact absurd ((g6 kk hkk).mpr e0) c94)]) ⟨rm_tearS hR.1 hdim hkk, hR.2⟩ (by rw [zf_cnt0 a]; rfl)
          · refine zr_iconst (v := (0 : Int32)) hC dX4_tear_97 rfl ?_
            refine zr_goto (tgt := 102) hC dX4_tear_98 (by decide) ?_
            refine zr_iret hC hr hk dX4_tear_102 (by decide) (by decide) ⟨_, rfl, ?_⟩
            rw [pk_us] at c94
            exact zq_mw (a' := as_sta (as_sh a (zf_tearS (aa_sh a) ii kk)) 0) (x' := (mk_rw x (upd (mx_rw x) ii ((mx_rw x) kk)))) (by unfold zo_tear; rw [if_neg (rm_yes hR.1 c6), zf_rows_some hdim, if_pos ⟨Or.inr hwk, hwi⟩, if_neg c15, nI_clamp (by omega), nI_clamp (by omega), if_neg (by rw [(g6 kk hkk).mp c94]; decide)]) ⟨rm_tearS hR.1 hdim hkk, hR.2⟩ (by rw [zf_cnt0 a]; rfl)
        · refine zr_if_neF (tgt := 50) hC dX4_tear_43 (by decide) (by decide) ?_
          refine zr_iconst (v := (3 : Int32)) hC dX4_tear_46 rfl ?_
          refine zr_goto (tgt := 51) hC dX4_tear_47 (by decide) ?_
          refine zr_cVi 0 hC cv_X4_counted ml_X4_57 (c_X4_counted (a := a) (x := x) (3 : Int32) (by decide)) dX4_tear_51 ⟨Nat.le_of_ble_eq_true rfl, Nat.le_of_ble_eq_true rfl⟩ ⟨Nat.le_of_ble_eq_true rfl, Nat.le_of_ble_eq_true rfl⟩ rfl rfl rfl rfl rfl (Nat.le_of_ble_eq_true rfl) ?_
          rintro rr _ ⟨hrr, rfl⟩
          subst rr
          refine zr_put (w' := (mw_W mo m1 m2 m3 m4 m5 m6 m7 m8 m9 cI (as_sta (zf_cnt (3 : Int32) a) (3 : Int32)) x)) 0 13 hC iu_X4 tyX4_ok nmX4 rfl dX4_tear_54 fl_X4_41 (by decide) rfl rfl rfl rfl (Nat.le_of_ble_eq_true rfl) rfl ?_
          refine zr_aload_n 0 hC dX4_tear_57 rfl rfl ?_
          refine zr_get (v := .int (3 : Int32)) 0 13 hC iu_X4 rfl dX4_tear_58 fl_X4_41 (by decide) rfl rfl ?_
          refine zr_if_eqF (tgt := 66) hC dX4_tear_61 (by decide) (by decide) ?_
          refine zr_iconst (v := (0 : Int32)) hC dX4_tear_64 rfl ?_
          refine zr_iret hC hr hk dX4_tear_65 (by decide) (by decide) ⟨_, rfl, ?_⟩
          obtain ⟨hhs, n, m0, hdim, hn, hm, hrm, hcm, g6, g7, g8⟩ := rm_dim hR.1 (rm_yes hR.1 c6)
          rw [hrm, zn_le (by omega), ← zf_rows_some hdim] at hi3
          exact zq_mk (by unfold zo_tear; rw [if_neg (rm_yes hR.1 c6), if_neg (fun q => hi3 q.2)]) hR
      · refine zr_if_eqT (tgt := 46) hC dX4_tear_29 (by decide) (by decide) ?_
        refine zr_iconst (v := (3 : Int32)) hC dX4_tear_46 rfl ?_
        refine zr_goto (tgt := 51) hC dX4_tear_47 (by decide) ?_
        refine zr_cVi 0 hC cv_X4_counted ml_X4_57 (c_X4_counted (a := a) (x := x) (3 : Int32) (by decide)) dX4_tear_51 ⟨Nat.le_of_ble_eq_true rfl, Nat.le_of_ble_eq_true rfl⟩ ⟨Nat.le_of_ble_eq_true rfl, Nat.le_of_ble_eq_true rfl⟩ rfl rfl rfl rfl rfl (Nat.le_of_ble_eq_true rfl) ?_
        rintro rr _ ⟨hrr, rfl⟩
        subst rr
        refine zr_put (w' := (mw_W mo m1 m2 m3 m4 m5 m6 m7 m8 m9 cI (as_sta (zf_cnt (3 : Int32) a) (3 : Int32)) x)) 0 13 hC iu_X4 tyX4_ok nmX4 rfl dX4_tear_54 fl_X4_41 (by decide) rfl rfl rfl rfl (Nat.le_of_ble_eq_true rfl) rfl ?_
        refine zr_aload_n 0 hC dX4_tear_57 rfl rfl ?_
        refine zr_get (v := .int (3 : Int32)) 0 13 hC iu_X4 rfl dX4_tear_58 fl_X4_41 (by decide) rfl rfl ?_
        refine zr_if_eqF (tgt := 66) hC dX4_tear_61 (by decide) (by decide) ?_
        refine zr_iconst (v := (0 : Int32)) hC dX4_tear_64 rfl ?_
        refine zr_iret hC hr hk dX4_tear_65 (by decide) (by decide) ⟨_, rfl, ?_⟩
        obtain ⟨hhs, n, m0, hdim, hn, hm, hrm, hcm, g6, g7, g8⟩ := rm_dim hR.1 (rm_yes hR.1 c6)
        rw [hrm, zn_le (by omega), ← zf_rows_some hdim] at hi2
        exact zq_mk (by unfold zo_tear; rw [if_neg (rm_yes hR.1 c6), if_neg (fun q => q.1.elim c15 hi2)]) hR
  · refine zr_iconst (v := (2 : Int32)) hC dX4_tear_9 rfl ?_
    refine zr_goto (tgt := 51) hC dX4_tear_10 (by decide) ?_
    refine zr_cVi 0 hC cv_X4_counted ml_X4_57 (c_X4_counted (a := a) (x := x) (2 : Int32) (by decide)) dX4_tear_51 ⟨Nat.le_of_ble_eq_true rfl, Nat.le_of_ble_eq_true rfl⟩ ⟨Nat.le_of_ble_eq_true rfl, Nat.le_of_ble_eq_true rfl⟩ rfl rfl rfl rfl rfl (Nat.le_of_ble_eq_true rfl) ?_
    rintro rr _ ⟨hrr, rfl⟩
    subst rr
    refine zr_put (w' := (mw_W mo m1 m2 m3 m4 m5 m6 m7 m8 m9 cI (as_sta (zf_cnt (2 : Int32) a) (2 : Int32)) x)) 0 13 hC iu_X4 tyX4_ok nmX4 rfl dX4_tear_54 fl_X4_41 (by decide) rfl rfl rfl rfl (Nat.le_of_ble_eq_true rfl) rfl ?_
    refine zr_aload_n 0 hC dX4_tear_57 rfl rfl ?_
    refine zr_get (v := .int (2 : Int32)) 0 13 hC iu_X4 rfl dX4_tear_58 fl_X4_41 (by decide) rfl rfl ?_
    refine zr_if_eqF (tgt := 66) hC dX4_tear_61 (by decide) (by decide) ?_
    refine zr_iconst (v := (0 : Int32)) hC dX4_tear_64 rfl ?_
    refine zr_iret hC hr hk dX4_tear_65 (by decide) (by decide) ⟨_, rfl, ?_⟩
    exact zq_mk (if_pos (rm_no hR.1 c6)) hR
set_option maxRecDepth 100000 in
set_option maxHeartbeats 4000000 in
theorem c_X4_fade (hR : rm_R a x) (b i t s0 : Int32) : zz_Mi l D (zt cI cII cF) yX4_fade cX4_fade 5 (some .int) 3 69 0 0 [.ref mo, .int b, .int i, .int t, .int s0] (mw_W mo m1 m2 m3 m4 m5 m6 m7 m8 m9 cI a x) (fun r w' => zp_m mo m1 m2 m3 m4 m5 m6 m7 m8 m9 cI (zo_fade a b i t s0) r w') := by
  refine zz_mk (by decide) (Nat.le_of_ble_eq_true rfl) ?_
  intro p e s m below meth c A hC hr hk hnm
  have hC : zz_C p s m _ c A D (zt cI cII cF) 5 cX4_fade RX4 := hC
  refine zr_aload_n 0 hC dX4_fade_0 rfl rfl ?_
  refine zr_iload_n 1 hC dX4_fade_1 rfl rfl ?_
  refine zr_cSi hC cs_X4_isBank ml_X4_73 (c_X4_isBank (w := (mw_W mo m1 m2 m3 m4 m5 m6 m7 m8 m9 cI a x)) b) dX4_fade_2 ⟨Nat.le_of_ble_eq_true rfl, Nat.le_of_ble_eq_true rfl⟩ ⟨Nat.le_of_ble_eq_true rfl, Nat.le_of_ble_eq_true rfl⟩ rfl rfl (Nat.le_of_ble_eq_true rfl) ?_
  rintro _ _ ⟨rfl, ⟨rfl, hb_b⟩ | ⟨rfl, hb_b⟩⟩
  · refine zr_if_eqF (tgt := 24) hC dX4_fade_5 (by decide) (by decide) ?_
    refine zr_iload 4 hC dX4_fade_8 rfl ?_
    refine zr_iconst (v := (1 : Int32)) hC dX4_fade_10 rfl ?_
    refine zr_sipush (v := (1000 : Int32)) hC dX4_fade_11 rfl ?_
    refine zr_cSi hC cs_X4_in ml_X4_37 (c_X4_in (w := (mw_W mo m1 m2 m3 m4 m5 m6 m7 m8 m9 cI a x)) s0 (1 : Int32) (1000 : Int32)) dX4_fade_14 ⟨Nat.le_of_ble_eq_true rfl, Nat.le_of_ble_eq_true rfl⟩ ⟨Nat.le_of_ble_eq_true rfl, Nat.le_of_ble_eq_true rfl⟩ rfl rfl (Nat.le_of_ble_eq_true rfl) ?_
    rintro _ _ ⟨rfl, ⟨rfl, hi1⟩ | ⟨rfl, hi1⟩⟩
    · refine zr_if_eqF (tgt := 24) hC dX4_fade_17 (by decide) (by decide) ?_
      refine zr_iconst (v := (1 : Int32)) hC dX4_fade_20 rfl ?_
      refine zr_goto (tgt := 25) hC dX4_fade_21 (by decide) ?_
      refine zr_cVi 0 hC cv_X4_begins ml_X4_80 (c_X4_begins1 (a := a) (x := x)) dX4_fade_25 ⟨Nat.le_of_ble_eq_true rfl, Nat.le_of_ble_eq_true rfl⟩ ⟨Nat.le_of_ble_eq_true rfl, Nat.le_of_ble_eq_true rfl⟩ rfl rfl rfl rfl rfl (Nat.le_of_ble_eq_true rfl) ?_
      rintro _ _ ⟨rfl, rfl⟩
      refine zr_if_neT (tgt := 33) hC dX4_fade_28 (by decide) (by decide) ?_
      refine zr_aload_n 0 hC dX4_fade_33 rfl rfl ?_
      refine zr_get (v := .int (mx_fs x)) 0 8 hC iu_X4 rfl dX4_fade_34 fl_X4_106 (by decide) rfl rfl ?_
      refine zr_bipush (v := (16 : Int32)) hC dX4_fade_37 rfl ?_
      refine zr_icmp_ne (tgt := 50) hC dX4_fade_39 (by decide) (fun c39 => ?_) (fun c39 => ?_)
      · have hl16 : (aa_fd a).length < 16 := by
          rcases Nat.lt_or_ge (aa_fd a).length 16 with h0 | h0
          · exact h0
          · exact absurd (by rw [hR.2.2.1, show (aa_fd a).length = 16 by have := hR.2.2.2; omega]; rfl) c39
        refine zr_aload_n 0 hC dX4_fade_50 rfl rfl ?_
        refine zr_aload_n 0 hC dX4_fade_51 rfl rfl ?_
        refine zr_iload_n 1 hC dX4_fade_52 rfl rfl ?_
        refine zr_iconst (v := (2 : Int32)) hC dX4_fade_53 rfl ?_
        refine zr_iload_n 2 hC dX4_fade_54 rfl rfl ?_
        refine zr_cVi 0 hC cv_X4_refused ml_X4_87 (c_X4_refused (a := (as_sta a 0)) (x := x) hR.1 i hb_b zk_s2) dX4_fade_55 ⟨Nat.le_of_ble_eq_true rfl, Nat.le_of_ble_eq_true rfl⟩ ⟨Nat.le_of_ble_eq_true rfl, Nat.le_of_ble_eq_true rfl⟩ rfl rfl rfl rfl rfl (Nat.le_of_ble_eq_true rfl) ?_
        rintro _ _ (⟨h2, rfl, rfl⟩ | ⟨h2, rfl, rfl⟩)
        · have h2 : (zf_why (aa_st a) (zl b 2) i) = 0 := h2
          refine zr_put (w' := (mw_W mo m1 m2 m3 m4 m5 m6 m7 m8 m9 cI (as_sta (as_sta a 0) (0 : Int32)) x)) 0 13 hC iu_X4 tyX4_ok nmX4 rfl dX4_fade_58 fl_X4_41 (by decide) rfl rfl rfl rfl (Nat.le_of_ble_eq_true rfl) rfl ?_
          refine zr_aload_n 0 hC dX4_fade_61 rfl rfl ?_
          refine zr_get (v := .int (0 : Int32)) 0 13 hC iu_X4 rfl dX4_fade_62 fl_X4_41 (by decide) rfl rfl ?_
          refine zr_if_eqT (tgt := 70) hC dX4_fade_65 (by decide) (by decide) ?_
          refine zr_aload_n 0 hC dX4_fade_70 rfl rfl ?_
          refine zr_get (v := .ref m6) 0 9 hC iu_X4 rfl dX4_fade_71 fl_X4_25 (by decide) rfl rfl ?_
          refine zr_aload_n 0 hC dX4_fade_74 rfl rfl ?_
          refine zr_get (v := .int (mx_fs x)) 0 8 hC iu_X4 rfl dX4_fade_75 fl_X4_106 (by decide) rfl rfl ?_
          refine zr_iload_n 1 hC dX4_fade_78 rfl rfl ?_
          refine zr_iasj (f := (mx_fb x)) (j := (aa_fd a).length) (w' := (mw_W mo m1 m2 m3 m4 m5 m6 m7 m8 m9 cI (as_sta (as_sta a 0) (0 : Int32)) (mk_fb x (upd (mx_fb x) ((aa_fd a).length) b)))) 6 0 hC dX4_fade_79 rfl rfl hl16 hR.2.2.1 (by decide) rfl ?_
          refine zr_aload_n 0 hC dX4_fade_80 rfl rfl ?_
          refine zr_get (v := .ref m7) 0 10 hC iu_X4 rfl dX4_fade_81 fl_X4_28 (by decide) rfl rfl ?_
          refine zr_aload_n 0 hC dX4_fade_84 rfl rfl ?_
          refine zr_get (v := .int (mx_fs x)) 0 8 hC iu_X4 rfl dX4_fade_85 fl_X4_106 (by decide) rfl rfl ?_
          refine zr_iload_n 2 hC dX4_fade_88 rfl rfl ?_
          refine zr_iasj (f := (mx_fl x)) (j := (aa_fd a).length) (w' := (mw_W mo m1 m2 m3 m4 m5 m6 m7 m8 m9 cI (as_sta (as_sta a 0) (0 : Int32)) (mk_fl (mk_fb x (upd (mx_fb x) ((aa_fd a).length) b)) (upd (mx_fl x) ((aa_fd a).length) i)))) 7 0 hC dX4_fade_89 rfl rfl hl16 hR.2.2.1 (by decide) rfl ?_
          refine zr_aload_n 0 hC dX4_fade_90 rfl rfl ?_
          refine zr_get (v := .ref m8) 0 11 hC iu_X4 rfl dX4_fade_91 fl_X4_31 (by decide) rfl rfl ?_
          refine zr_aload_n 0 hC dX4_fade_94 rfl rfl ?_
          refine zr_get (v := .int (mx_fs x)) 0 8 hC iu_X4 rfl dX4_fade_95 fl_X4_106 (by decide) rfl rfl ?_
          refine zr_iload_n 3 hC dX4_fade_98 rfl rfl ?_
          refine zr_cSi hC cs_X4_nearest ml_X4_49 (c_X4_nearest (w := (mw_W mo m1 m2 m3 m4 m5 m6 m7 m8 m9 cI (as_sta (as_sta a 0) (0 : Int32)) (mk_fl (mk_fb x (upd (mx_fb x) ((aa_fd a).length) b)) (upd (mx_fl x) ((aa_fd a).length) i)))) t) dX4_fade_99 ⟨Nat.le_of_ble_eq_true rfl, Nat.le_of_ble_eq_true rfl⟩ ⟨Nat.le_of_ble_eq_true rfl, Nat.le_of_ble_eq_true rfl⟩ rfl rfl (Nat.le_of_ble_eq_true rfl) ?_
          rintro _ _ ⟨rfl, rfl⟩
          refine zr_iasj (f := (mx_ft x)) (j := (aa_fd a).length) (w' := (mw_W mo m1 m2 m3 m4 m5 m6 m7 m8 m9 cI (as_sta (as_sta a 0) (0 : Int32)) (mk_ft (mk_fl (mk_fb x (upd (mx_fb x) ((aa_fd a).length) b)) (upd (mx_fl x) ((aa_fd a).length) i)) (upd (mx_ft x) ((aa_fd a).length) (zf_lev t))))) 8 0 hC dX4_fade_102 rfl rfl hl16 hR.2.2.1 (by decide) rfl ?_
          refine zr_aload_n 0 hC dX4_fade_103 rfl rfl ?_
          refine zr_get (v := .ref m9) 0 12 hC iu_X4 rfl dX4_fade_104 fl_X4_34 (by decide) rfl rfl ?_
          refine zr_aload_n 0 hC dX4_fade_107 rfl rfl ?_
          refine zr_get (v := .int (mx_fs x)) 0 8 hC iu_X4 rfl dX4_fade_108 fl_X4_106 (by decide) rfl rfl ?_
          refine zr_iload 4 hC dX4_fade_111 rfl ?_
          refine zr_iasj (f := (mx_fg x)) (j := (aa_fd a).length) (w' := (mw_W mo m1 m2 m3 m4 m5 m6 m7 m8 m9 cI (as_sta (as_sta a 0) (0 : Int32)) (mk_fg (mk_ft (mk_fl (mk_fb x (upd (mx_fb x) ((aa_fd a).length) b)) (upd (mx_fl x) ((aa_fd a).length) i)) (upd (mx_ft x) ((aa_fd a).length) (zf_lev t))) (upd (mx_fg x) ((aa_fd a).length) s0)))) 9 0 hC dX4_fade_113 rfl rfl hl16 hR.2.2.1 (by decide) rfl ?_
          refine zr_aload_n 0 hC dX4_fade_114 rfl rfl ?_
          refine zr_dup hC dX4_fade_115 rfl ?_
          refine zr_get (v := .int (mx_fs x)) 0 8 hC iu_X4 rfl dX4_fade_116 fl_X4_106 (by decide) rfl rfl ?_
          refine zr_iconst (v := (1 : Int32)) hC dX4_fade_119 rfl ?_
          refine zr_iadd hC dX4_fade_120 ?_
          refine zr_put (w' := (mw_W mo m1 m2 m3 m4 m5 m6 m7 m8 m9 cI (as_sta (as_sta a 0) (0 : Int32)) (mk_fs (mk_fg (mk_ft (mk_fl (mk_fb x (upd (mx_fb x) ((aa_fd a).length) b)) (upd (mx_fl x) ((aa_fd a).length) i)) (upd (mx_ft x) ((aa_fd a).length) (zf_lev t))) (upd (mx_fg x) ((aa_fd a).length) s0)) ((mx_fs x) + (1 : Int32))))) 0 8 hC iu_X4 tyX4_ok nmX4 rfl dX4_fade_121 fl_X4_106 (by decide) rfl rfl rfl rfl (Nat.le_of_ble_eq_true rfl) rfl ?_
          refine zr_aload_n 0 hC dX4_fade_124 rfl rfl ?_
          refine zr_get (v := .int ((mx_fs x) + (1 : Int32))) 0 8 hC iu_X4 rfl dX4_fade_125 fl_X4_106 (by decide) rfl rfl ?_
          refine zr_iret hC hr hk dX4_fade_128 (by decide) (by decide) ⟨_, rfl, ?_⟩
          exact zq_mw (a' := as_sta (as_fd a (aa_fd a ++ [(b, i, zf_lev t, s0)])) 0) (x' := (mk_fs (mk_fg (mk_ft (mk_fl (mk_fb x (upd (mx_fb x) ((aa_fd a).length) b)) (upd (mx_fl x) ((aa_fd a).length) i)) (upd (mx_ft x) ((aa_fd a).length) (zf_lev t))) (upd (mx_fg x) ((aa_fd a).length) s0)) ((mx_fs x) + (1 : Int32)))) (by unfold zo_fade; rw [if_pos ⟨hb_b, hi1⟩, if_pos hl16, if_pos h2, hR.2.2.1, nI_1]) (rm_fade hR hb_b hi1 hl16 (by rw [hR.2.2.1, nI_1])) rfl
        · have h2 : ¬ (zf_why (aa_st a) (zl b 2) i) = 0 := h2
          refine zr_put (w' := (mw_W mo m1 m2 m3 m4 m5 m6 m7 m8 m9 cI (as_sta (zf_cnt (zf_why (aa_st a) (zl b 2) i) (as_sta a 0)) (zf_why (aa_st a) (zl b 2) i)) x)) 0 13 hC iu_X4 tyX4_ok nmX4 rfl dX4_fade_58 fl_X4_41 (by decide) rfl rfl rfl rfl (Nat.le_of_ble_eq_true rfl) rfl ?_
          refine zr_aload_n 0 hC dX4_fade_61 rfl rfl ?_
          refine zr_get (v := .int (zf_why (aa_st a) (zl b 2) i)) 0 13 hC iu_X4 rfl dX4_fade_62 fl_X4_41 (by decide) rfl rfl ?_
          refine zr_if_eqF (tgt := 70) hC dX4_fade_65 (by decide) h2 ?_
          refine zr_iconst (v := (0 : Int32)) hC dX4_fade_68 rfl ?_
          refine zr_iret hC hr hk dX4_fade_69 (by decide) (by decide) ⟨_, rfl, ?_⟩
          exact zq_mk (by unfold zo_fade; rw [if_pos ⟨hb_b, hi1⟩, if_pos hl16, if_neg h2]) hR
      · refine zr_aload_n 0 hC dX4_fade_42 rfl rfl ?_
        refine zr_bipush (v := (6 : Int32)) hC dX4_fade_43 rfl ?_
        refine zr_put (w' := (mw_W mo m1 m2 m3 m4 m5 m6 m7 m8 m9 cI (as_sta (as_sta a 0) (6 : Int32)) x)) 0 13 hC iu_X4 tyX4_ok nmX4 rfl dX4_fade_45 fl_X4_41 (by decide) rfl rfl rfl rfl (Nat.le_of_ble_eq_true rfl) rfl ?_
        refine zr_iconst (v := (0 : Int32)) hC dX4_fade_48 rfl ?_
        refine zr_iret hC hr hk dX4_fade_49 (by decide) (by decide) ⟨_, rfl, ?_⟩
        exact zq_mk (by unfold zo_fade; rw [if_pos ⟨hb_b, hi1⟩, if_neg (fun h => by rw [hR.2.2.1] at c39; have := (nI_eq (b := 16) (by omega) (by omega)).mp c39; omega)]) hR
    · refine zr_if_eqT (tgt := 24) hC dX4_fade_17 (by decide) (by decide) ?_
      refine zr_iconst (v := (0 : Int32)) hC dX4_fade_24 rfl ?_
      refine zr_cVi 0 hC cv_X4_begins ml_X4_80 (c_X4_begins0 (a := a) (x := x)) dX4_fade_25 ⟨Nat.le_of_ble_eq_true rfl, Nat.le_of_ble_eq_true rfl⟩ ⟨Nat.le_of_ble_eq_true rfl, Nat.le_of_ble_eq_true rfl⟩ rfl rfl rfl rfl rfl (Nat.le_of_ble_eq_true rfl) ?_
      rintro _ _ ⟨rfl, rfl⟩
      refine zr_if_neF (tgt := 33) hC dX4_fade_28 (by decide) (by decide) ?_
      refine zr_iconst (v := (0 : Int32)) hC dX4_fade_31 rfl ?_
      refine zr_iret hC hr hk dX4_fade_32 (by decide) (by decide) ⟨_, rfl, ?_⟩
      exact zq_mk (if_neg (fun h => absurd h.2 hi1)) hR
  · refine zr_if_eqT (tgt := 24) hC dX4_fade_5 (by decide) (by decide) ?_
    refine zr_iconst (v := (0 : Int32)) hC dX4_fade_24 rfl ?_
    refine zr_cVi 0 hC cv_X4_begins ml_X4_80 (c_X4_begins0 (a := a) (x := x)) dX4_fade_25 ⟨Nat.le_of_ble_eq_true rfl, Nat.le_of_ble_eq_true rfl⟩ ⟨Nat.le_of_ble_eq_true rfl, Nat.le_of_ble_eq_true rfl⟩ rfl rfl rfl rfl rfl (Nat.le_of_ble_eq_true rfl) ?_
    rintro _ _ ⟨rfl, rfl⟩
    refine zr_if_neF (tgt := 33) hC dX4_fade_28 (by decide) (by decide) ?_
    refine zr_iconst (v := (0 : Int32)) hC dX4_fade_31 rfl ?_
    refine zr_iret hC hr hk dX4_fade_32 (by decide) (by decide) ⟨_, rfl, ?_⟩
    exact zq_mk (if_neg (fun h => absurd h.1 hb_b)) hR
end ZB3
