section ZA6
variable {l : Launch} {D : va_G} {cI cII cF : ClassId} {o rk sp pp fp mo m1 m2 m3 m4 m5 m6 m7 m8 m9 : Nat}
variable {a : ax_A} {x : cx_X}
set_option maxRecDepth 100000 in
set_option maxHeartbeats 4000000 in
theorem c_X2_stripsThere (hR : rc_Q cI cII a x) : zz_Mi l D (zt cI cII cF) yX2_stripsThere cX2_stripsThere 3 (some .int) 0 0 0 0 [.ref rk] (cw_W o rk sp pp fp cII cF a x) (fun r w' => r = zf_there (aa_st a) 24 ∧ w' = (cw_W o rk sp pp fp cII cF a x)) := by
  refine zz_mk (by decide) (Nat.le_of_ble_eq_true rfl) ?_
  intro p e s m below meth c A hC hr hk hnm
  have hC : zz_C p s m _ c A D (zt cI cII cF) 3 cX2_stripsThere RX2 := hC
  refine zr_iconst (v := (0 : Int32)) hC dX2_stripsThere_0 rfl ?_
  refine zr_istore_n (lv' := [(1, .int (0 : Int32)), (0, .ref rk)]) hC dX2_stripsThere_1 rfl (by decide) rfl ?_
  refine zr_iconst (v := (0 : Int32)) hC dX2_stripsThere_2 rfl ?_
  refine zr_istore_n (lv' := [(2, .int (0 : Int32)), (1, .int (0 : Int32)), (0, .ref rk)]) hC dX2_stripsThere_3 rfl (by decide) rfl ?_
  refine zr_loop (σ := Nat × Int32 × Int32) (fun t => [(2, .int t.2.2), (1, .int t.2.1), (0, .ref rk)]) (fun t => (cw_W o rk sp pp fp cII cF a x)) (fun t => t.1 ≤ 24 ∧ t.2.2 = nI t.1 ∧ t.2.1 = zf_there (aa_st a) t.1) (fun t => 24 - t.1) ?_ (0, 0, 0) ⟨by omega, rfl, rfl⟩
  rintro ⟨k, c0, i⟩ ⟨h1, h2, h3⟩ ih
  try dsimp only at h1
  try dsimp only at h2
  try dsimp only at h3
  show zz_Z _ _ _ _ _ _ _ _ _ _ _ _ _ _ 4 [(2, .int i), (1, .int c0), (0, .ref rk)] [] (cw_W o rk sp pp fp cII cF a x) 0 0
  refine zr_iload_n 0 hC dX2_stripsThere_4 rfl rfl ?_
  refine zr_aload_n 2 hC dX2_stripsThere_5 rfl rfl ?_
  refine zr_get (v := .ref sp) 1 0 hC iu_X2 rfl dX2_stripsThere_6 fl_X2_11 (by decide) rfl rfl ?_
  refine zr_alen 2 1 hC dX2_stripsThere_9 rfl rfl ?_
  refine zr_icmp_ge (tgt := 31) hC dX2_stripsThere_10 (by decide) (fun c10 => ?_) (fun c10 => ?_)
  · have hk24 : k = 24 := by
      rw [h2] at c10
      have := (nI_leI (by omega) (by omega)).mp c10
      omega
    refine zr_iload_n 1 hC dX2_stripsThere_31 rfl rfl ?_
    refine zr_iret hC hr hk dX2_stripsThere_32 (by decide) (by decide) ⟨_, rfl, ?_⟩
    exact ⟨by rw [h3, hk24], rfl⟩
  · have hk24 : k < 24 := by
      rcases Nat.lt_or_ge k 24 with h | h
      · exact h
      · exact absurd (by rw [h2]; exact nI_le h (by omega)) c10
    refine zr_aload_n 2 hC dX2_stripsThere_13 rfl rfl ?_
    refine zr_get (v := .ref sp) 1 0 hC iu_X2 rfl dX2_stripsThere_14 fl_X2_11 (by decide) rfl rfl ?_
    refine zr_iload_n 0 hC dX2_stripsThere_17 rfl rfl ?_
    refine zr_aaj (f := (cx_f x)) (j := k) 2 1 hC dX2_stripsThere_18 rfl rfl rfl hk24 h2 (by decide) ?_
    refine zr_rf (fun hq2 => ?_) (fun q1 hq2 => ?_)
    · have hno : (aa_st a).1 k = none := (hR.1.1 k hk24).mp hq2
      refine zr_ifnullN (tgt := 25) hC dX2_stripsThere_19 (by decide) ?_
      refine zr_iinc (v := (i + 1)) (lv' := [(2, .int (i + 1)), (1, .int c0), (0, .ref rk)]) 0 hC dX2_stripsThere_25 rfl rfl (by decide) rfl ?_
      refine zr_goto (tgt := 4) hC dX2_stripsThere_28 (by decide) ?_
      exact ih (k + 1, c0, (i + 1)) ⟨by show k + 1 ≤ 24; omega, by show i + 1 = nI (k + 1); rw [h2, nI_1], by show c0 = zf_there (aa_st a) (k + 1); rw [zf_there, if_pos hno]; exact h3⟩ (by show 24 - (k + 1) < 24 - k; omega)
    · have hno : ¬ (aa_st a).1 k = none := fun e0 => by
        have := (hR.1.1 k hk24).mpr e0
        rw [hq2] at this
        cases this
      refine zr_ifnull hC dX2_stripsThere_19 ?_
      refine zr_iinc (v := (c0 + 1)) (lv' := [(1, .int (c0 + 1)), (2, .int i), (0, .ref rk)]) 1 hC dX2_stripsThere_22 rfl rfl (by decide) rfl ?_
      refine zr_iinc (v := (i + 1)) (lv' := [(2, .int (i + 1)), (1, .int (c0 + 1)), (0, .ref rk)]) 1 hC dX2_stripsThere_25 rfl rfl (by decide) rfl ?_
      refine zr_goto (tgt := 4) hC dX2_stripsThere_28 (by decide) ?_
      exact ih (k + 1, (c0 + 1), (i + 1)) ⟨by show k + 1 ≤ 24; omega, by show i + 1 = nI (k + 1); rw [h2, nI_1], by show c0 + 1 = zf_there (aa_st a) (k + 1); rw [zf_there, if_neg hno, h3]⟩ (by show 24 - (k + 1) < 24 - k; omega)
set_option maxRecDepth 100000 in
set_option maxHeartbeats 4000000 in
theorem c_X3_count (hR : rc_R cI cII a x) (v : Int32) : zz_Mi l D (zt cI cII cF) yX3_count cX3_count 2 (some .int) 1 22 0 0 [.ref o, .int v] (cw_W o rk sp pp fp cII cF a x) (fun r w' => zp_c o rk sp pp fp cI cII cF (zo_count a v) r w') := by
  refine zz_mk (by decide) (Nat.le_of_ble_eq_true rfl) ?_
  intro p e s m below meth c A hC hr hk hnm
  have hC : zz_C p s m _ c A D (zt cI cII cF) 2 cX3_count RX3 := hC
  refine zr_iload_n 1 hC dX3_count_0 rfl rfl ?_
  by_cases t1_0 : v = (0 : Int32)
  · refine zr_tableIn (tgt := 60) hC dX3_count_1 (by rw [t1_0]; decide) (by rw [t1_0]; decide) (by rw [t1_0]; rfl) (by decide) ?_
    refine zr_aload_n 0 hC dX3_count_60 rfl rfl ?_
    refine zr_get (v := .int (aa_mi a)) 0 7 hC iu_X3 rfl dX3_count_61 fl_X3_125 (by decide) rfl rfl ?_
    refine zr_iret hC hr hk dX3_count_64 (by decide) (by decide) ⟨_, rfl, ?_⟩
    exact zp_mk (by unfold zo_count; simp [t1_0, hR.2.2.1]) hR
  by_cases t1_1 : v = (1 : Int32)
  · refine zr_tableIn (tgt := 65) hC dX3_count_1 (by rw [t1_1]; decide) (by rw [t1_1]; decide) (by rw [t1_1]; rfl) (by decide) ?_
    refine zr_aload_n 0 hC dX3_count_65 rfl rfl ?_
    refine zr_get (v := .int (aa_ou a)) 0 8 hC iu_X3 rfl dX3_count_66 fl_X3_128 (by decide) rfl rfl ?_
    refine zr_iret hC hr hk dX3_count_69 (by decide) (by decide) ⟨_, rfl, ?_⟩
    exact zp_mk (by unfold zo_count; simp [t1_0, t1_1, hR.2.2.1]) hR
  by_cases t1_2 : v = (2 : Int32)
  · refine zr_tableIn (tgt := 70) hC dX3_count_1 (by rw [t1_2]; decide) (by rw [t1_2]; decide) (by rw [t1_2]; rfl) (by decide) ?_
    refine zr_aload_n 0 hC dX3_count_70 rfl rfl ?_
    refine zr_get (v := .int (aa_ne a)) 0 9 hC iu_X3 rfl dX3_count_71 fl_X3_131 (by decide) rfl rfl ?_
    refine zr_iret hC hr hk dX3_count_74 (by decide) (by decide) ⟨_, rfl, ?_⟩
    exact zp_mk (by unfold zo_count; simp [t1_0, t1_1, t1_2, hR.2.2.1]) hR
  by_cases t1_3 : v = (3 : Int32)
  · refine zr_tableIn (tgt := 75) hC dX3_count_1 (by rw [t1_3]; decide) (by rw [t1_3]; decide) (by rw [t1_3]; rfl) (by decide) ?_
    refine zr_aload_n 0 hC dX3_count_75 rfl rfl ?_
    refine zr_get (v := .int (cx_run x)) 0 3 hC iu_X3 rfl dX3_count_76 fl_X3_83 (by decide) rfl rfl ?_
    refine zr_iret hC hr hk dX3_count_79 (by decide) (by decide) ⟨_, rfl, ?_⟩
    exact zp_mk (by unfold zo_count; simp [t1_0, t1_1, t1_2, t1_3, hR.2.2.1]) hR
  by_cases t1_4 : v = (4 : Int32)
  · refine zr_tableIn (tgt := 80) hC dX3_count_1 (by rw [t1_4]; decide) (by rw [t1_4]; decide) (by rw [t1_4]; rfl) (by decide) ?_
    refine zr_aload_n 0 hC dX3_count_80 rfl rfl ?_
    refine zr_get (v := .int (aa_re a)) 0 4 hC iu_X3 rfl dX3_count_81 fl_X3_134 (by decide) rfl rfl ?_
    refine zr_iret hC hr hk dX3_count_84 (by decide) (by decide) ⟨_, rfl, ?_⟩
    exact zp_mk (by unfold zo_count; simp [t1_0, t1_1, t1_2, t1_3, t1_4, hR.2.2.1]) hR
  by_cases t1_5 : v = (5 : Int32)
  · refine zr_tableIn (tgt := 85) hC dX3_count_1 (by rw [t1_5]; decide) (by rw [t1_5]; decide) (by rw [t1_5]; rfl) (by decide) ?_
    refine zr_aload_n 0 hC dX3_count_85 rfl rfl ?_
    refine zr_get (v := .int (aa_dm a)) 0 5 hC iu_X3 rfl dX3_count_86 fl_X3_137 (by decide) rfl rfl ?_
    refine zr_iret hC hr hk dX3_count_89 (by decide) (by decide) ⟨_, rfl, ?_⟩
    exact zp_mk (by unfold zo_count; simp [t1_0, t1_1, t1_2, t1_3, t1_4, t1_5, hR.2.2.1]) hR
  by_cases t1_6 : v = (6 : Int32)
  · refine zr_tableIn (tgt := 90) hC dX3_count_1 (by rw [t1_6]; decide) (by rw [t1_6]; decide) (by rw [t1_6]; rfl) (by decide) ?_
    refine zr_aload_n 0 hC dX3_count_90 rfl rfl ?_
    refine zr_get (v := .int (aa_dO a)) 0 6 hC iu_X3 rfl dX3_count_91 fl_X3_140 (by decide) rfl rfl ?_
    refine zr_iret hC hr hk dX3_count_94 (by decide) (by decide) ⟨_, rfl, ?_⟩
    exact zp_mk (by unfold zo_count; simp [t1_0, t1_1, t1_2, t1_3, t1_4, t1_5, t1_6, hR.2.2.1]) hR
  by_cases t1_7 : v = (7 : Int32)
  · refine zr_tableIn (tgt := 95) hC dX3_count_1 (by rw [t1_7]; decide) (by rw [t1_7]; decide) (by rw [t1_7]; rfl) (by decide) ?_
    refine zr_aload_n 0 hC dX3_count_95 rfl rfl ?_
    refine zr_get (v := .ref rk) 0 0 hC iu_X3 rfl dX3_count_96 fl_X3_10 (by decide) rfl rfl ?_
    refine zr_cVi 1 hC cv_X2_stripsThere ml_X3_143 (c_X2_stripsThere (a := a) (x := x) hR.1) dX3_count_99 ⟨Nat.le_of_ble_eq_true rfl, Nat.le_of_ble_eq_true rfl⟩ ⟨Nat.le_of_ble_eq_true rfl, Nat.le_of_ble_eq_true rfl⟩ rfl rfl rfl rfl rfl (Nat.le_of_ble_eq_true rfl) ?_
    rintro _ _ ⟨rfl, rfl⟩
    refine zr_iret hC hr hk dX3_count_102 (by decide) (by decide) ⟨_, rfl, ?_⟩
    exact zp_mk (by unfold zo_count; simp [t1_0, t1_1, t1_2, t1_3, t1_4, t1_5, t1_6, t1_7, hR.2.2.1]) hR
  by_cases t1_8 : v = (8 : Int32)
  · refine zr_tableIn (tgt := 103) hC dX3_count_1 (by rw [t1_8]; decide) (by rw [t1_8]; decide) (by rw [t1_8]; rfl) (by decide) ?_
    refine zr_aload_n 0 hC dX3_count_103 rfl rfl ?_
    refine zr_get (v := .ref rk) 0 0 hC iu_X3 rfl dX3_count_104 fl_X3_10 (by decide) rfl rfl ?_
    refine zr_cVi 1 hC cv_X2_placesSet ml_X3_147 (c_X2_placesSet (a := a) (x := x)) dX3_count_107 ⟨Nat.le_of_ble_eq_true rfl, Nat.le_of_ble_eq_true rfl⟩ ⟨Nat.le_of_ble_eq_true rfl, Nat.le_of_ble_eq_true rfl⟩ rfl rfl rfl rfl rfl (Nat.le_of_ble_eq_true rfl) ?_
    rintro _ _ ⟨rfl, rfl⟩
    refine zr_iret hC hr hk dX3_count_110 (by decide) (by decide) ⟨_, rfl, ?_⟩
    exact zp_mk (by unfold zo_count; simp [t1_0, t1_1, t1_2, t1_3, t1_4, t1_5, t1_6, t1_7, t1_8, hR.2.2.1]) hR
  by_cases t1_9 : v = (9 : Int32)
  · refine zr_tableIn (tgt := 111) hC dX3_count_1 (by rw [t1_9]; decide) (by rw [t1_9]; decide) (by rw [t1_9]; rfl) (by decide) ?_
    refine zr_aload_n 0 hC dX3_count_111 rfl rfl ?_
    refine zr_get (v := .ref pp) 0 1 hC iu_X3 rfl dX3_count_112 fl_X3_19 (by decide) rfl rfl ?_
    refine zr_cVi 3 hC cv_X1_rowCount ml_X3_150 (c_X1_rowCount (a := a) (x := x) hR.1) dX3_count_115 ⟨Nat.le_of_ble_eq_true rfl, Nat.le_of_ble_eq_true rfl⟩ ⟨Nat.le_of_ble_eq_true rfl, Nat.le_of_ble_eq_true rfl⟩ rfl rfl rfl rfl rfl (Nat.le_of_ble_eq_true rfl) ?_
    rintro _ _ ⟨rfl, rfl⟩
    refine zr_iret hC hr hk dX3_count_118 (by decide) (by decide) ⟨_, rfl, ?_⟩
    exact zp_mk (by unfold zo_count; simp [t1_0, t1_1, t1_2, t1_3, t1_4, t1_5, t1_6, t1_7, t1_8, t1_9, hR.2.2.1]) hR
  by_cases t1_10 : v = (10 : Int32)
  · refine zr_tableIn (tgt := 119) hC dX3_count_1 (by rw [t1_10]; decide) (by rw [t1_10]; decide) (by rw [t1_10]; rfl) (by decide) ?_
    refine zr_aload_n 0 hC dX3_count_119 rfl rfl ?_
    refine zr_get (v := .ref pp) 0 1 hC iu_X3 rfl dX3_count_120 fl_X3_19 (by decide) rfl rfl ?_
    refine zr_cVi 3 hC cv_X1_cellsWritten ml_X3_153 (c_X1_cellsWritten (a := a) (x := x)) dX3_count_123 ⟨Nat.le_of_ble_eq_true rfl, Nat.le_of_ble_eq_true rfl⟩ ⟨Nat.le_of_ble_eq_true rfl, Nat.le_of_ble_eq_true rfl⟩ rfl rfl rfl rfl rfl (Nat.le_of_ble_eq_true rfl) ?_
    rintro _ _ ⟨rfl, rfl⟩
    refine zr_iret hC hr hk dX3_count_126 (by decide) (by decide) ⟨_, rfl, ?_⟩
    exact zp_mk (by unfold zo_count; simp [t1_0, t1_1, t1_2, t1_3, t1_4, t1_5, t1_6, t1_7, t1_8, t1_9, t1_10, hR.2.2.1]) hR
  refine zr_tableOut (tgt := 127) hC dX3_count_1 (by have e0 := lv_neT (a := 0) t1_0 rfl; have e1 := lv_neT (a := 1) t1_1 rfl; have e2 := lv_neT (a := 2) t1_2 rfl; have e3 := lv_neT (a := 3) t1_3 rfl; have e4 := lv_neT (a := 4) t1_4 rfl; have e5 := lv_neT (a := 5) t1_5 rfl; have e6 := lv_neT (a := 6) t1_6 rfl; have e7 := lv_neT (a := 7) t1_7 rfl; have e8 := lv_neT (a := 8) t1_8 rfl; have e9 := lv_neT (a := 9) t1_9 rfl; have e10 := lv_neT (a := 10) t1_10 rfl; omega) (by decide) ?_
  refine zr_iconst (v := (0 : Int32)) hC dX3_count_127 rfl ?_
  refine zr_iret hC hr hk dX3_count_128 (by decide) (by decide) ⟨_, rfl, ?_⟩
  exact zp_mk (by unfold zo_count; simp [t1_0, t1_1, t1_2, t1_3, t1_4, t1_5, t1_6, t1_7, t1_8, t1_9, t1_10, hR.2.2.1]) hR
set_option maxRecDepth 100000 in
set_option maxHeartbeats 4000000 in
theorem c_X3_hang (hR : rc_R cI cII a x) (b s0 n : Int32) : zz_Mi l D (zt cI cII cF) yX3_hang cX3_hang 4 (some .int) 1 23 1 24 [.ref o, .int b, .int s0, .int n] (cw_W o rk sp pp fp cII cF a x) (fun r w' => zp_c o rk sp pp fp cI cII cF (zo_hang a b s0 n) r w') := by
  refine zz_mk (by decide) (Nat.le_of_ble_eq_true rfl) ?_
  intro p e s m below meth c A hC hr hk hnm
  have hC : zz_C p s m _ c A D (zt cI cII cF) 4 cX3_hang RX3 := hC
  refine zr_iload_n 1 hC dX3_hang_0 rfl rfl ?_
  refine zr_cSi hC cs_X3_isBank ml_X3_29 (c_X3_isBank (w := (cw_W o rk sp pp fp cII cF a x)) b) dX3_hang_1 ⟨Nat.le_of_ble_eq_true rfl, Nat.le_of_ble_eq_true rfl⟩ ⟨Nat.le_of_ble_eq_true rfl, Nat.le_of_ble_eq_true rfl⟩ rfl rfl (Nat.le_of_ble_eq_true rfl) ?_
  rintro _ _ ⟨rfl, ⟨rfl, hb_b⟩ | ⟨rfl, hb_b⟩⟩
  · refine zr_if_eqF (tgt := 14) hC dX3_hang_4 (by decide) (by decide) ?_
    refine zr_iload_n 2 hC dX3_hang_7 rfl rfl ?_
    refine zr_cSi hC cs_X3_isStrip ml_X3_33 (c_X3_isStrip (w := (cw_W o rk sp pp fp cII cF a x)) s0) dX3_hang_8 ⟨Nat.le_of_ble_eq_true rfl, Nat.le_of_ble_eq_true rfl⟩ ⟨Nat.le_of_ble_eq_true rfl, Nat.le_of_ble_eq_true rfl⟩ rfl rfl (Nat.le_of_ble_eq_true rfl) ?_
    rintro _ _ ⟨rfl, ⟨rfl, hs_s0⟩ | ⟨rfl, hs_s0⟩⟩
    · refine zr_if_neT (tgt := 21) hC dX3_hang_11 (by decide) (by decide) ?_
      refine zr_iload_n 3 hC dX3_hang_21 rfl rfl ?_
      refine zr_bipush (v := (24 : Int32)) hC dX3_hang_22 rfl ?_
      refine zr_icmp_le (tgt := 34) hC dX3_hang_24 (by decide) (fun c24 => ?_) (fun c24 => ?_)
      · refine zr_iload_n 3 hC dX3_hang_34 rfl rfl ?_
        refine zr_if_ge (tgt := 49) hC dX3_hang_35 (by decide) (fun c35 => ?_) (fun c35 => ?_)
        · refine zr_aload_n 0 hC dX3_hang_49 rfl rfl ?_
          refine zr_get (v := .ref rk) 0 0 hC iu_X3 rfl dX3_hang_50 fl_X3_10 (by decide) rfl rfl ?_
          refine zr_iload_n 1 hC dX3_hang_53 rfl rfl ?_
          refine zr_iload_n 2 hC dX3_hang_54 rfl rfl ?_
          refine zr_iload_n 3 hC dX3_hang_55 rfl rfl ?_
          obtain ⟨nn, hnn, rfl⟩ := zn_of (n := 25) (M := 25) (by decide) ⟨c35, Int32.lt_of_le_of_lt c24 (by decide)⟩
          refine zr_newa (N' := nn) 0 hC dX3_hang_56 ac_int rfl (nI_pos (by omega)) (nI_clamp (by omega)) (by omega) (by decide) (by show 0 + nn ≤ 24; omega) (fun q hDq => ?_)
          obtain ⟨hqL, hpush⟩ := cw_push hDq
          refine zr_eq rfl hpush ?_
          refine zr_wide (k := 1) (n := 24) (by omega) (by omega) ?_
          refine zr_cVv 1 hC cv_X2_replace ml_X3_44 (c_X2_replaceA (a := a) (x := (ck_ent (ck_L x (cx_L x ++ [q])) (va_up (cx_ent x) q (ze_i cI nn (fun _ => 0))))) (n := nn) (z := fun _ => 0) (List.mem_append_right _ (List.mem_singleton.mpr rfl)) (va_up_self _ _ _) hb_b hs_s0) dX3_hang_58 ⟨Nat.le_of_ble_eq_true rfl, Nat.le_of_ble_eq_true rfl⟩ ⟨Nat.le_of_ble_eq_true rfl, Nat.le_of_ble_eq_true rfl⟩ rfl rfl rfl rfl rfl (Nat.le_of_ble_eq_true rfl) ?_
          rintro _ rfl
          refine zr_aload_n 0 hC dX3_hang_61 rfl rfl ?_
          refine zr_iconst (v := (0 : Int32)) hC dX3_hang_62 rfl ?_
          refine zr_iload_n 3 hC dX3_hang_63 rfl rfl ?_
          refine zr_cVi 0 hC cv_X3_leave ml_X3_36 (c_X3_leave (a := a) (x := (ck_f (ck_ent (ck_L x (cx_L x ++ [q])) (va_up (cx_ent x) q (ze_i cI nn (fun _ => 0)))) (va_up (cx_f x) (zl b s0) (some q)))) (0 : Int32) (nI nn)) dX3_hang_64 ⟨Nat.le_of_ble_eq_true rfl, Nat.le_of_ble_eq_true rfl⟩ ⟨Nat.le_of_ble_eq_true rfl, Nat.le_of_ble_eq_true rfl⟩ rfl rfl rfl rfl rfl (Nat.le_of_ble_eq_true rfl) ?_
          rintro rr _ ⟨hrr, rfl⟩
          subst rr
          refine zr_iret hC hr hk dX3_hang_67 (by decide) (by decide) ⟨_, rfl, ?_⟩
          exact zp_mw (a' := as_sta (as_st a (zf_hangS (aa_st a) (zl b s0) nn)) 0) (x' := (ck_f (ck_ent (ck_L x (cx_L x ++ [q])) (va_up (cx_ent x) q (ze_i cI nn (fun _ => 0)))) (va_up (cx_f x) (zl b s0) (some q)))) (by unfold zo_hang; rw [if_pos ⟨hb_b, hs_s0⟩, if_pos c24, if_pos c35, nI_clamp (by omega)]) (hR.of (rc_hang hR.1 (zl_lt hb_b hs_s0) hqL (by omega)) (cx_K.new hqL) rfl) rfl
        · refine zr_aload_n 0 hC dX3_hang_38 rfl rfl ?_
          refine zr_aload_n 0 hC dX3_hang_39 rfl rfl ?_
          refine zr_iconst (v := (4 : Int32)) hC dX3_hang_40 rfl ?_
          refine zr_cVi 0 hC cv_X3_counted ml_X3_40 (c_X3_counted (a := a) (x := x) (4 : Int32)) dX3_hang_41 ⟨Nat.le_of_ble_eq_true rfl, Nat.le_of_ble_eq_true rfl⟩ ⟨Nat.le_of_ble_eq_true rfl, Nat.le_of_ble_eq_true rfl⟩ rfl rfl rfl rfl rfl (Nat.le_of_ble_eq_true rfl) ?_
          rintro _ _ ⟨rfl, rfl⟩
          refine zr_iconst (v := (0 : Int32)) hC dX3_hang_44 rfl ?_
          refine zr_cVi 0 hC cv_X3_leave ml_X3_36 (c_X3_leave (a := (zf_cnt (4 : Int32) a)) (x := x) (4 : Int32) (0 : Int32)) dX3_hang_45 ⟨Nat.le_of_ble_eq_true rfl, Nat.le_of_ble_eq_true rfl⟩ ⟨Nat.le_of_ble_eq_true rfl, Nat.le_of_ble_eq_true rfl⟩ rfl rfl rfl rfl rfl (Nat.le_of_ble_eq_true rfl) ?_
          rintro rr _ ⟨hrr, rfl⟩
          subst rr
          refine zr_iret hC hr hk dX3_hang_48 (by decide) (by decide) ⟨_, rfl, ?_⟩
          exact zp_mk (by unfold zo_hang; rw [if_pos ⟨hb_b, hs_s0⟩, if_pos c24, if_neg c35]) hR
      · refine zr_aload_n 0 hC dX3_hang_27 rfl rfl ?_
        refine zr_iconst (v := (5 : Int32)) hC dX3_hang_28 rfl ?_
        refine zr_iconst (v := (0 : Int32)) hC dX3_hang_29 rfl ?_
        refine zr_cVi 0 hC cv_X3_leave ml_X3_36 (c_X3_leave (a := a) (x := x) (5 : Int32) (0 : Int32)) dX3_hang_30 ⟨Nat.le_of_ble_eq_true rfl, Nat.le_of_ble_eq_true rfl⟩ ⟨Nat.le_of_ble_eq_true rfl, Nat.le_of_ble_eq_true rfl⟩ rfl rfl rfl rfl rfl (Nat.le_of_ble_eq_true rfl) ?_
        rintro rr _ ⟨hrr, rfl⟩
        subst rr
        refine zr_iret hC hr hk dX3_hang_33 (by decide) (by decide) ⟨_, rfl, ?_⟩
        exact zp_mk (by unfold zo_hang; rw [if_pos ⟨hb_b, hs_s0⟩, if_neg c24]) hR
    · refine zr_if_neF (tgt := 21) hC dX3_hang_11 (by decide) (by decide) ?_
      refine zr_aload_n 0 hC dX3_hang_14 rfl rfl ?_
      refine zr_iconst (v := (1 : Int32)) hC dX3_hang_15 rfl ?_
      refine zr_iconst (v := (0 : Int32)) hC dX3_hang_16 rfl ?_
      refine zr_cVi 0 hC cv_X3_leave ml_X3_36 (c_X3_leave (a := a) (x := x) (1 : Int32) (0 : Int32)) dX3_hang_17 ⟨Nat.le_of_ble_eq_true rfl, Nat.le_of_ble_eq_true rfl⟩ ⟨Nat.le_of_ble_eq_true rfl, Nat.le_of_ble_eq_true rfl⟩ rfl rfl rfl rfl rfl (Nat.le_of_ble_eq_true rfl) ?_
      rintro rr _ ⟨hrr, rfl⟩
      subst rr
      refine zr_iret hC hr hk dX3_hang_20 (by decide) (by decide) ⟨_, rfl, ?_⟩
      exact zp_mk (if_neg (fun h => absurd h.2 hs_s0)) hR
  · refine zr_if_eqT (tgt := 14) hC dX3_hang_4 (by decide) (by decide) ?_
    refine zr_aload_n 0 hC dX3_hang_14 rfl rfl ?_
    refine zr_iconst (v := (1 : Int32)) hC dX3_hang_15 rfl ?_
    refine zr_iconst (v := (0 : Int32)) hC dX3_hang_16 rfl ?_
    refine zr_cVi 0 hC cv_X3_leave ml_X3_36 (c_X3_leave (a := a) (x := x) (1 : Int32) (0 : Int32)) dX3_hang_17 ⟨Nat.le_of_ble_eq_true rfl, Nat.le_of_ble_eq_true rfl⟩ ⟨Nat.le_of_ble_eq_true rfl, Nat.le_of_ble_eq_true rfl⟩ rfl rfl rfl rfl rfl (Nat.le_of_ble_eq_true rfl) ?_
    rintro rr _ ⟨hrr, rfl⟩
    subst rr
    refine zr_iret hC hr hk dX3_hang_20 (by decide) (by decide) ⟨_, rfl, ?_⟩
    exact zp_mk (if_neg (fun h => absurd h.1 hb_b)) hR
end ZA6
