section ZB5
variable {l : Launch} {D : va_G} {cI cII cF : ClassId} {o rk sp pp fp mo m1 m2 m3 m4 m5 m6 m7 m8 m9 : Nat}
variable {a : ax_A} {x : mx_X}
theorem zr_tope {p : Program} {l : Launch} {e : Env} {R : Room} {s : State} {m : MethodId} {args : Array Value} {below : List Frame} {meth : Method} {c : Code} {A : Nat → Prop} {D : va_G} {nL : Nat} {Q : State → Prop} {pc : Nat} {lv : List (Nat × Value)} {st : List Value} {w : va_W} {cells slots : Nat} {u v : Int32} (h : u = v) (kk : zz_Z p l e R s m args below meth c A D nL Q pc lv (.int v :: st) w cells slots) : zz_Z p l e R s m args below meth c A D nL Q pc lv (.int u :: st) w cells slots := by
  subst h; exact kk
theorem zn_tsub {t v : Int32} (ht : -8000000 ≤ t ∧ t ≤ 8000000) (hv : -8000000 ≤ v ∧ v ≤ 8000000) : (t - v).toInt = t.toInt - v.toInt := by
  have a1 := Int32.le_iff_toInt_le.mp ht.1
  have a2 := Int32.le_iff_toInt_le.mp ht.2
  have a3 := Int32.le_iff_toInt_le.mp hv.1
  have a4 := Int32.le_iff_toInt_le.mp hv.2
  have k1 : ((-8000000 : Int32)).toInt = -8000000 := rfl
  have k2 : ((8000000 : Int32)).toInt = 8000000 := rfl
  have h32 : ((2 ^ 32 : Nat) : Int) = 4294967296 := by decide
  rw [Int32.toInt_sub, Int.bmod_def, h32]
  split <;> omega
theorem zn_tneg {s : Int32} (hs : 1 ≤ s ∧ s ≤ 1000) : (0 - s).toInt = - s.toInt := by
  have a1 := Int32.le_iff_toInt_le.mp hs.1
  have a2 := Int32.le_iff_toInt_le.mp hs.2
  have k1 : ((1 : Int32)).toInt = 1 := rfl
  have k2 : ((1000 : Int32)).toInt = 1000 := rfl
  have k0 : ((0 : Int32)).toInt = 0 := rfl
  have h32 : ((2 ^ 32 : Nat) : Int) = 4294967296 := by decide
  rw [Int32.toInt_sub, Int.bmod_def, h32, k0]
  split <;> omega
theorem zn_tneg2 {t v : Int32} (ht : -8000000 ≤ t ∧ t ≤ 8000000) (hv : -8000000 ≤ v ∧ v ≤ 8000000) : (0 - (t - v)).toInt = v.toInt - t.toInt := by
  have e : (0 - (t - v)) = v - t := by rw [Int32.zero_sub, Int32.neg_sub]
  rw [e, zn_tsub hv ht]
/-- a fade's step: the three ways -/
theorem zn_near {t s v : Int32} (ht : -8000000 ≤ t ∧ t ≤ 8000000) (hv : -8000000 ≤ v ∧ v ≤ 8000000) (h1 : t - v ≤ s) (h2 : 0 - s ≤ t - v) (hs : 1 ≤ s ∧ s ≤ 1000) : zf_next t s v = t := by
  have b1 := Int32.le_iff_toInt_le.mp h1
  have b2 := Int32.le_iff_toInt_le.mp h2
  rw [zn_tsub ht hv] at b1 b2
  rw [zn_tneg hs] at b2
  unfold zf_next
  rw [if_pos]
  apply Int32.le_iff_toInt_le.mpr
  unfold zf_abs
  split
  · rw [zn_tsub ht hv]; exact b1
  · rw [zn_tneg2 ht hv]; omega
theorem zn_above {t s v : Int32} (ht : -8000000 ≤ t ∧ t ≤ 8000000) (hv : -8000000 ≤ v ∧ v ≤ 8000000) (h1 : ¬ t - v ≤ s) (hs : 1 ≤ s ∧ s ≤ 1000) : zf_next t s v = v + s ∧ ¬ v + s = t := by
  have b1 : ¬ (t - v).toInt ≤ s.toInt := fun q => h1 (Int32.le_iff_toInt_le.mpr q)
  rw [zn_tsub ht hv] at b1
  have s1 := Int32.le_iff_toInt_le.mp hs.1
  have k1 : ((1 : Int32)).toInt = 1 := rfl
  have k0 : ((0 : Int32)).toInt = 0 := rfl
  constructor
  · unfold zf_next
    rw [if_neg, if_pos]
    · exact Int32.lt_iff_toInt_lt.mpr (by omega)
    · intro q
      have q := Int32.le_iff_toInt_le.mp q
      unfold zf_abs at q
      rw [if_pos (Int32.le_iff_toInt_le.mpr (by rw [zn_tsub ht hv, k0]; omega)), zn_tsub ht hv] at q
      omega
  · intro e
    have e2 : t - v = s := by rw [← e, Int32.add_comm, Int32.add_sub_cancel]
    exact h1 (by rw [e2]; exact Int32.le_refl _)
theorem zn_below {t s v : Int32} (ht : -8000000 ≤ t ∧ t ≤ 8000000) (hv : -8000000 ≤ v ∧ v ≤ 8000000) (h2 : ¬ 0 - s ≤ t - v) (hs : 1 ≤ s ∧ s ≤ 1000) : zf_next t s v = v + (0 - s) ∧ ¬ v + (0 - s) = t := by
  have b1 : ¬ (0 - s).toInt ≤ (t - v).toInt := fun q => h2 (Int32.le_iff_toInt_le.mpr q)
  rw [zn_tsub ht hv, zn_tneg hs] at b1
  have s1 := Int32.le_iff_toInt_le.mp hs.1
  have k1 : ((1 : Int32)).toInt = 1 := rfl
  have k0 : ((0 : Int32)).toInt = 0 := rfl
  constructor
  · unfold zf_next
    rw [if_neg, if_neg]
    · rw [Int32.zero_sub, Int32.sub_eq_add_neg]
    · intro q
      have q := Int32.lt_iff_toInt_lt.mp q
      omega
    · intro q
      have q := Int32.le_iff_toInt_le.mp q
      unfold zf_abs at q
      rw [if_neg (fun z => by have z := Int32.le_iff_toInt_le.mp z; rw [zn_tsub ht hv, k0] at z; omega), zn_tneg2 ht hv] at q
      omega
  · intro e
    have e2 : t - v = 0 - s := by rw [← e, Int32.add_comm, Int32.add_sub_cancel]
    exact h2 (by rw [e2]; exact Int32.le_refl _)
set_option maxRecDepth 100000 in
set_option maxHeartbeats 4000000 in
theorem c_X4_sheet (hR : rm_R a x) (n m0 : Int32) : zz_Mi l D (zt cI cII cF) yX4_sheet cX4_sheet 4 (some .int) 0 0 0 0 [.ref mo, .int n, .int m0] (mw_W mo m1 m2 m3 m4 m5 m6 m7 m8 m9 cI a x) (fun r w' => zp_m mo m1 m2 m3 m4 m5 m6 m7 m8 m9 cI (zo_sheet a n m0) r w') := by
  refine zz_mk (by decide) (Nat.le_of_ble_eq_true rfl) ?_
  intro p e s m below meth c A hC hr hk hnm
  have hC : zz_C p s m _ c A D (zt cI cII cF) 4 cX4_sheet RX4 := hC
  refine zr_aload_n 0 hC dX4_sheet_0 rfl rfl ?_
  refine zr_iconst (v := (0 : Int32)) hC dX4_sheet_1 rfl ?_
  refine zr_put (w' := (mw_W mo m1 m2 m3 m4 m5 m6 m7 m8 m9 cI (as_sta a (0 : Int32)) x)) 0 13 hC iu_X4 tyX4_ok nmX4 rfl dX4_sheet_2 fl_X4_41 (by decide) rfl rfl rfl rfl (Nat.le_of_ble_eq_true rfl) rfl ?_
  refine zr_iload_n 1 hC dX4_sheet_5 rfl rfl ?_
  refine zr_bipush (v := (12 : Int32)) hC dX4_sheet_6 rfl ?_
  refine zr_icmp_gt (tgt := 17) hC dX4_sheet_8 (by decide) (fun c8 => ?_) (fun c8 => ?_)
  · refine zr_aload_n 0 hC dX4_sheet_17 rfl rfl ?_
    refine zr_iconst (v := (5 : Int32)) hC dX4_sheet_18 rfl ?_
    refine zr_put (w' := (mw_W mo m1 m2 m3 m4 m5 m6 m7 m8 m9 cI (as_sta (as_sta a (0 : Int32)) (5 : Int32)) x)) 0 13 hC iu_X4 tyX4_ok nmX4 rfl dX4_sheet_19 fl_X4_41 (by decide) rfl rfl rfl rfl (Nat.le_of_ble_eq_true rfl) rfl ?_
    refine zr_iconst (v := (0 : Int32)) hC dX4_sheet_22 rfl ?_
    refine zr_iret hC hr hk dX4_sheet_23 (by decide) (by decide) ⟨_, rfl, ?_⟩
    exact zq_mk (if_neg (fun h => absurd h.1 (Int32.not_le.mpr c8))) hR
  · refine zr_iload_n 2 hC dX4_sheet_11 rfl rfl ?_
    refine zr_bipush (v := (12 : Int32)) hC dX4_sheet_12 rfl ?_
    refine zr_icmp_le (tgt := 24) hC dX4_sheet_14 (by decide) (fun c14 => ?_) (fun c14 => ?_)
    · refine zr_iload_n 1 hC dX4_sheet_24 rfl rfl ?_
      refine zr_if_lt (tgt := 32) hC dX4_sheet_25 (by decide) (fun c25 => ?_) (fun c25 => ?_)
      · refine zr_aload_n 0 hC dX4_sheet_32 rfl rfl ?_
        refine zr_iconst (v := (4 : Int32)) hC dX4_sheet_33 rfl ?_
        refine zr_put (w' := (mw_W mo m1 m2 m3 m4 m5 m6 m7 m8 m9 cI (as_sta (as_sta a (0 : Int32)) (4 : Int32)) x)) 0 13 hC iu_X4 tyX4_ok nmX4 rfl dX4_sheet_34 fl_X4_41 (by decide) rfl rfl rfl rfl (Nat.le_of_ble_eq_true rfl) rfl ?_
        refine zr_aload_n 0 hC dX4_sheet_37 rfl rfl ?_
        refine zr_dup hC dX4_sheet_38 rfl ?_
        refine zr_get (v := .int (aa_ne a)) 0 16 hC iu_X4 rfl dX4_sheet_39 fl_X4_84 (by decide) rfl rfl ?_
        refine zr_iconst (v := (1 : Int32)) hC dX4_sheet_42 rfl ?_
        refine zr_iadd hC dX4_sheet_43 ?_
        refine zr_put (w' := (mw_W mo m1 m2 m3 m4 m5 m6 m7 m8 m9 cI (as_ne (as_sta (as_sta a (0 : Int32)) (4 : Int32)) ((aa_ne a) + (1 : Int32))) x)) 0 16 hC iu_X4 tyX4_ok nmX4 rfl dX4_sheet_44 fl_X4_84 (by decide) rfl rfl rfl rfl (Nat.le_of_ble_eq_true rfl) rfl ?_
        refine zr_iconst (v := (0 : Int32)) hC dX4_sheet_47 rfl ?_
        refine zr_iret hC hr hk dX4_sheet_48 (by decide) (by decide) ⟨_, rfl, ?_⟩
        exact zq_mw (a' := as_sta (zf_cnt 4 a) 4) (x' := x) (by unfold zo_sheet; rw [if_pos ⟨Int32.not_lt.mp c8, c14⟩, if_neg (fun h => absurd h.1 (Int32.not_le.mpr c25))]) hR (by simp [zf_cnt])
      · refine zr_iload_n 2 hC dX4_sheet_28 rfl rfl ?_
        refine zr_if_ge (tgt := 49) hC dX4_sheet_29 (by decide) (fun c29 => ?_) (fun c29 => ?_)
        · obtain ⟨N, hN, rfl⟩ := zn_of (n := 13) (M := 13) (by decide) ⟨Int32.not_lt.mp c25, Int32.lt_of_le_of_lt (Int32.not_lt.mp c8) (by decide)⟩
          obtain ⟨M, hM, rfl⟩ := zn_of (n := 13) (M := 13) (by decide) ⟨c29, Int32.lt_of_le_of_lt c14 (by decide)⟩
          refine zr_aload_n 0 hC dX4_sheet_49 rfl rfl ?_
          refine zr_iconst (v := (1 : Int32)) hC dX4_sheet_50 rfl ?_
          refine zr_put (w' := (mw_W mo m1 m2 m3 m4 m5 m6 m7 m8 m9 cI (as_sta a (0 : Int32)) (mk_hs x (1 : Int32)))) 0 3 hC iu_X4 tyX4_ok nmX4 rfl dX4_sheet_51 fl_X4_118 (by decide) rfl rfl rfl rfl (Nat.le_of_ble_eq_true rfl) rfl ?_
          refine zr_aload_n 0 hC dX4_sheet_54 rfl rfl ?_
          refine zr_iload_n 1 hC dX4_sheet_55 rfl rfl ?_
          refine zr_put (w' := (mw_W mo m1 m2 m3 m4 m5 m6 m7 m8 m9 cI (as_sta a (0 : Int32)) (mk_rm (mk_hs x (1 : Int32)) (nI N)))) 0 4 hC iu_X4 tyX4_ok nmX4 rfl dX4_sheet_56 fl_X4_122 (by decide) rfl rfl rfl rfl (Nat.le_of_ble_eq_true rfl) rfl ?_
          refine zr_aload_n 0 hC dX4_sheet_59 rfl rfl ?_
          refine zr_iload_n 2 hC dX4_sheet_60 rfl rfl ?_
          refine zr_put (w' := (mw_W mo m1 m2 m3 m4 m5 m6 m7 m8 m9 cI (as_sta a (0 : Int32)) (mk_cm (mk_rm (mk_hs x (1 : Int32)) (nI N)) (nI M)))) 0 5 hC iu_X4 tyX4_ok nmX4 rfl dX4_sheet_61 fl_X4_125 (by decide) rfl rfl rfl rfl (Nat.le_of_ble_eq_true rfl) rfl ?_
          refine zr_iconst (v := (0 : Int32)) hC dX4_sheet_64 rfl ?_
          refine zr_istore_n (lv' := [(3, .int (0 : Int32)), (0, .ref mo), (1, .int (nI N)), (2, .int (nI M))]) hC dX4_sheet_65 rfl (by decide) rfl ?_
          refine zr_loop (σ := Nat × Int32 × (Nat → Int32)) (fun t => [(3, .int t.2.1), (0, .ref mo), (1, .int (nI N)), (2, .int (nI M))]) (fun t => mw_W mo m1 m2 m3 m4 m5 m6 m7 m8 m9 cI (as_sta a 0) (mk_rw (mk_cm (mk_rm (mk_hs x 1) (nI N)) (nI M)) t.2.2)) (fun t => t.1 ≤ 12 ∧ t.2.1 = nI t.1 ∧ ∀ j, j < t.1 → t.2.2 j = nI j) (fun t => 12 - t.1) ?_ (0, 0, mx_rw x) ⟨Nat.zero_le _, rfl, fun j h => absurd h (Nat.not_lt_zero _)⟩
          rintro ⟨kn, i1, r1⟩ ⟨hk1, hk2, h3⟩ ih
          try dsimp only at hk1
          try dsimp only at hk2
          try dsimp only at h3
          show zz_Z _ _ _ _ _ _ _ _ _ _ _ _ _ _ 66 [(3, .int i1), (0, .ref mo), (1, .int (nI N)), (2, .int (nI M))] [] (mw_W mo m1 m2 m3 m4 m5 m6 m7 m8 m9 cI (as_sta a 0) (mk_rw (mk_cm (mk_rm (mk_hs x 1) (nI N)) (nI M)) r1)) 0 0
          refine zr_iload_n 0 hC dX4_sheet_66 rfl rfl ?_
          refine zr_bipush (v := (12 : Int32)) hC dX4_sheet_67 rfl ?_
          refine zr_icmp_ge (tgt := 85) hC dX4_sheet_69 (by decide) (fun c69 => ?_) (fun c69 => ?_)
          · have hend : kn = 12 := by
              rw [hk2] at c69
              have := (nI_leI (a := 12) (by omega) (by omega)).mp c69
              omega
            refine zr_iconst (v := (0 : Int32)) hC dX4_sheet_85 rfl ?_
            refine zr_istore_n (lv' := [(3, .int (0 : Int32)), (0, .ref mo), (1, .int (nI N)), (2, .int (nI M))]) hC dX4_sheet_86 rfl (by decide) rfl ?_
            refine zr_loop (σ := Nat × Int32 × (Nat → Int32)) (fun t => [(3, .int t.2.1), (0, .ref mo), (1, .int (nI N)), (2, .int (nI M))]) (fun t => mw_W mo m1 m2 m3 m4 m5 m6 m7 m8 m9 cI (as_sta a 0) (mk_ce (mk_rw (mk_cm (mk_rm (mk_hs x 1) (nI N)) (nI M)) r1) t.2.2)) (fun t => t.1 ≤ 144 ∧ t.2.1 = nI t.1 ∧ ∀ j, j < t.1 → t.2.2 j = 0) (fun t => 144 - t.1) ?_ (0, 0, mx_ce x) ⟨Nat.zero_le _, rfl, fun j h => absurd h (Nat.not_lt_zero _)⟩
            rintro ⟨km, i2, r2⟩ ⟨hm1, hm2, h4⟩ ih2
            try dsimp only at hm1
            try dsimp only at hm2
            try dsimp only at h4
            show zz_Z _ _ _ _ _ _ _ _ _ _ _ _ _ _ 87 [(3, .int i2), (0, .ref mo), (1, .int (nI N)), (2, .int (nI M))] [] (mw_W mo m1 m2 m3 m4 m5 m6 m7 m8 m9 cI (as_sta a 0) (mk_ce (mk_rw (mk_cm (mk_rm (mk_hs x 1) (nI N)) (nI M)) r1) r2)) 0 0
            refine zr_iload_n 0 hC dX4_sheet_87 rfl rfl ?_
            refine zr_sipush (v := (144 : Int32)) hC dX4_sheet_88 rfl ?_
            refine zr_icmp_ge (tgt := 107) hC dX4_sheet_91 (by decide) (fun c91 => ?_) (fun c91 => ?_)
            · have hend : km = 144 := by
                rw [hm2] at c91
                have := (nI_leI (a := 144) (by omega) (by omega)).mp c91
                omega
              refine zr_iload_n 2 hC dX4_sheet_107 rfl rfl ?_
              refine zr_iload_n 3 hC dX4_sheet_108 rfl rfl ?_
              refine zr_imul hC dX4_sheet_109 ?_
              refine zr_iret hC hr hk dX4_sheet_110 (by decide) (by decide) ⟨_, rfl, ?_⟩
              exact zq_mw (a' := as_sta (as_sh a (zf_sheetS N M)) 0) (x' := (mk_ce (mk_rw (mk_cm (mk_rm (mk_hs x 1) (nI N)) (nI M)) r1) r2)) (by unfold zo_sheet; rw [if_pos ⟨Int32.not_lt.mp c8, c14⟩, if_pos ⟨Int32.not_lt.mp c25, c29⟩, nI_clamp (by omega), nI_clamp (by omega)]) ⟨rm_sheet hR.1 (by omega) (by omega) (fun i hi => h3 i (by omega)) (fun i hi => h4 i (by omega)), hR.2⟩ rfl
            · have hlt : km < 144 := by
                rcases Nat.lt_or_ge km 144 with h0 | h0
                · exact h0
                · exact absurd (by rw [hm2]; exact nI_le h0 (by omega)) c91
              refine zr_aload_n 1 hC dX4_sheet_94 rfl rfl ?_
              refine zr_get (v := .ref m5) 0 7 hC iu_X4 rfl dX4_sheet_95 fl_X4_22 (by decide) rfl rfl ?_
              refine zr_iload_n 0 hC dX4_sheet_98 rfl rfl ?_
              refine zr_iconst (v := (0 : Int32)) hC dX4_sheet_99 rfl ?_
              refine zr_iasj (f := r2) (j := km) (w' := (mw_W mo m1 m2 m3 m4 m5 m6 m7 m8 m9 cI (as_sta a 0) (mk_ce (mk_ce (mk_rw (mk_cm (mk_rm (mk_hs x 1) (nI N)) (nI M)) r1) r2) (upd r2 km (0 : Int32))))) 5 0 hC dX4_sheet_100 rfl rfl (by omega) hm2 (by decide) rfl ?_
              refine zr_iinc (v := (i2 + 1)) (lv' := [(3, .int (i2 + 1)), (0, .ref mo), (1, .int (nI N)), (2, .int (nI M))]) 0 hC dX4_sheet_101 rfl rfl (by decide) rfl ?_
              refine zr_goto (tgt := 87) hC dX4_sheet_104 (by decide) ?_
              exact ih2 (km + 1, i2 + 1, upd r2 km 0) ⟨by show km + 1 ≤ 144; omega, by show i2 + 1 = nI (km + 1); rw [hm2, nI_1], fun j hj => by show upd r2 km 0 j = 0; by_cases e0 : j = km; (· rw [e0, pk_us]); (· rw [pk_un e0]; exact h4 j (by have : j < km + 1 := hj; omega))⟩ (by show 144 - (km + 1) < 144 - km; omega)
          · have hlt : kn < 12 := by
              rcases Nat.lt_or_ge kn 12 with h0 | h0
              · exact h0
              · exact absurd (by rw [hk2]; exact nI_le h0 (by omega)) c69
            refine zr_aload_n 1 hC dX4_sheet_72 rfl rfl ?_
            refine zr_get (v := .ref m4) 0 6 hC iu_X4 rfl dX4_sheet_73 fl_X4_19 (by decide) rfl rfl ?_
            refine zr_iload_n 0 hC dX4_sheet_76 rfl rfl ?_
            refine zr_iload_n 0 hC dX4_sheet_77 rfl rfl ?_
            refine zr_iasj (f := r1) (j := kn) (w' := (mw_W mo m1 m2 m3 m4 m5 m6 m7 m8 m9 cI (as_sta a 0) (mk_rw (mk_rw (mk_cm (mk_rm (mk_hs x 1) (nI N)) (nI M)) r1) (upd r1 kn i1)))) 4 0 hC dX4_sheet_78 rfl rfl (by omega) hk2 (by decide) rfl ?_
            refine zr_iinc (v := (i1 + 1)) (lv' := [(3, .int (i1 + 1)), (0, .ref mo), (1, .int (nI N)), (2, .int (nI M))]) 0 hC dX4_sheet_79 rfl rfl (by decide) rfl ?_
            refine zr_goto (tgt := 66) hC dX4_sheet_82 (by decide) ?_
            exact ih (kn + 1, i1 + 1, upd r1 kn i1) ⟨by show kn + 1 ≤ 12; omega, by show i1 + 1 = nI (kn + 1); rw [hk2, nI_1], fun j hj => by show upd r1 kn i1 j = nI j; by_cases e0 : j = kn; (· rw [e0, pk_us, hk2]); (· rw [pk_un e0]; exact h3 j (by have : j < kn + 1 := hj; omega))⟩ (by show 12 - (kn + 1) < 12 - kn; omega)
        · refine zr_aload_n 0 hC dX4_sheet_32 rfl rfl ?_
          refine zr_iconst (v := (4 : Int32)) hC dX4_sheet_33 rfl ?_
          refine zr_put (w' := (mw_W mo m1 m2 m3 m4 m5 m6 m7 m8 m9 cI (as_sta (as_sta a (0 : Int32)) (4 : Int32)) x)) 0 13 hC iu_X4 tyX4_ok nmX4 rfl dX4_sheet_34 fl_X4_41 (by decide) rfl rfl rfl rfl (Nat.le_of_ble_eq_true rfl) rfl ?_
          refine zr_aload_n 0 hC dX4_sheet_37 rfl rfl ?_
          refine zr_dup hC dX4_sheet_38 rfl ?_
          refine zr_get (v := .int (aa_ne a)) 0 16 hC iu_X4 rfl dX4_sheet_39 fl_X4_84 (by decide) rfl rfl ?_
          refine zr_iconst (v := (1 : Int32)) hC dX4_sheet_42 rfl ?_
          refine zr_iadd hC dX4_sheet_43 ?_
          refine zr_put (w' := (mw_W mo m1 m2 m3 m4 m5 m6 m7 m8 m9 cI (as_ne (as_sta (as_sta a (0 : Int32)) (4 : Int32)) ((aa_ne a) + (1 : Int32))) x)) 0 16 hC iu_X4 tyX4_ok nmX4 rfl dX4_sheet_44 fl_X4_84 (by decide) rfl rfl rfl rfl (Nat.le_of_ble_eq_true rfl) rfl ?_
          refine zr_iconst (v := (0 : Int32)) hC dX4_sheet_47 rfl ?_
          refine zr_iret hC hr hk dX4_sheet_48 (by decide) (by decide) ⟨_, rfl, ?_⟩
          exact zq_mw (a' := as_sta (zf_cnt 4 a) 4) (x' := x) (by unfold zo_sheet; rw [if_pos ⟨Int32.not_lt.mp c8, c14⟩, if_neg (fun h => absurd h.2 c29)]) hR (by simp [zf_cnt])
    · refine zr_aload_n 0 hC dX4_sheet_17 rfl rfl ?_
      refine zr_iconst (v := (5 : Int32)) hC dX4_sheet_18 rfl ?_
      refine zr_put (w' := (mw_W mo m1 m2 m3 m4 m5 m6 m7 m8 m9 cI (as_sta (as_sta a (0 : Int32)) (5 : Int32)) x)) 0 13 hC iu_X4 tyX4_ok nmX4 rfl dX4_sheet_19 fl_X4_41 (by decide) rfl rfl rfl rfl (Nat.le_of_ble_eq_true rfl) rfl ?_
      refine zr_iconst (v := (0 : Int32)) hC dX4_sheet_22 rfl ?_
      refine zr_iret hC hr hk dX4_sheet_23 (by decide) (by decide) ⟨_, rfl, ?_⟩
      exact zq_mk (if_neg (fun h => absurd h.2 c14)) hR
set_option maxRecDepth 100000 in
set_option maxHeartbeats 4000000 in
theorem c_X4_hang (hR : rm_R a x) (b s0 n : Int32) : zz_Mi l D (zt cI cII cF) yX4_hang cX4_hang 8 (some .int) 2 42 0 0 [.ref mo, .int b, .int s0, .int n] (mw_W mo m1 m2 m3 m4 m5 m6 m7 m8 m9 cI a x) (fun r w' => zp_m mo m1 m2 m3 m4 m5 m6 m7 m8 m9 cI (zo_hang a b s0 n) r w') := by
  refine zz_mk (by decide) (Nat.le_of_ble_eq_true rfl) ?_
  intro p e s m below meth c A hC hr hk hnm
  have hC : zz_C p s m _ c A D (zt cI cII cF) 8 cX4_hang RX4 := hC
  refine zr_aload_n 0 hC dX4_hang_0 rfl rfl ?_
  refine zr_iload_n 1 hC dX4_hang_1 rfl rfl ?_
  refine zr_cSi hC cs_X4_isBank ml_X4_73 (c_X4_isBank (w := (mw_W mo m1 m2 m3 m4 m5 m6 m7 m8 m9 cI a x)) b) dX4_hang_2 ⟨Nat.le_of_ble_eq_true rfl, Nat.le_of_ble_eq_true rfl⟩ ⟨Nat.le_of_ble_eq_true rfl, Nat.le_of_ble_eq_true rfl⟩ rfl rfl (Nat.le_of_ble_eq_true rfl) ?_
  rintro _ _ ⟨rfl, ⟨rfl, hb_b⟩ | ⟨rfl, hb_b⟩⟩
  · refine zr_if_eqF (tgt := 19) hC dX4_hang_5 (by decide) (by decide) ?_
    refine zr_iload_n 2 hC dX4_hang_8 rfl rfl ?_
    refine zr_cSi hC cs_X4_isStrip ml_X4_77 (c_X4_isStrip (w := (mw_W mo m1 m2 m3 m4 m5 m6 m7 m8 m9 cI a x)) s0) dX4_hang_9 ⟨Nat.le_of_ble_eq_true rfl, Nat.le_of_ble_eq_true rfl⟩ ⟨Nat.le_of_ble_eq_true rfl, Nat.le_of_ble_eq_true rfl⟩ rfl rfl (Nat.le_of_ble_eq_true rfl) ?_
    rintro _ _ ⟨rfl, ⟨rfl, hs_s0⟩ | ⟨rfl, hs_s0⟩⟩
    · refine zr_if_eqF (tgt := 19) hC dX4_hang_12 (by decide) (by decide) ?_
      refine zr_iconst (v := (1 : Int32)) hC dX4_hang_15 rfl ?_
      refine zr_goto (tgt := 20) hC dX4_hang_16 (by decide) ?_
      refine zr_cVi 0 hC cv_X4_begins ml_X4_80 (c_X4_begins1 (a := a) (x := x)) dX4_hang_20 ⟨Nat.le_of_ble_eq_true rfl, Nat.le_of_ble_eq_true rfl⟩ ⟨Nat.le_of_ble_eq_true rfl, Nat.le_of_ble_eq_true rfl⟩ rfl rfl rfl rfl rfl (Nat.le_of_ble_eq_true rfl) ?_
      rintro _ _ ⟨rfl, rfl⟩
      refine zr_if_neT (tgt := 28) hC dX4_hang_23 (by decide) (by decide) ?_
      refine zr_iload_n 3 hC dX4_hang_28 rfl rfl ?_
      refine zr_bipush (v := (24 : Int32)) hC dX4_hang_29 rfl ?_
      refine zr_icmp_le (tgt := 41) hC dX4_hang_31 (by decide) (fun c31 => ?_) (fun c31 => ?_)
      · refine zr_iload_n 3 hC dX4_hang_41 rfl rfl ?_
        refine zr_if_ge (tgt := 62) hC dX4_hang_42 (by decide) (fun c42 => ?_) (fun c42 => ?_)
        · obtain ⟨nn, hnn, rfl⟩ := zn_of (n := 25) (M := 25) (by decide) ⟨c42, Int32.lt_of_le_of_lt c31 (by decide)⟩
          refine zr_iconst (v := (4 : Int32)) hC dX4_hang_62 rfl ?_
          refine zr_iload_n 1 hC dX4_hang_63 rfl rfl ?_
          refine zr_imul hC dX4_hang_64 ?_
          refine zr_iload_n 2 hC dX4_hang_65 rfl rfl ?_
          refine zr_iadd hC dX4_hang_66 ?_
          refine zr_istore (lv' := [(4, .int (((4 : Int32) * b) + s0)), (0, .ref mo), (1, .int b), (2, .int s0), (3, .int (nI nn))]) hC dX4_hang_67 (by decide) rfl ?_
          refine zr_aload_n 1 hC dX4_hang_69 rfl rfl ?_
          refine zr_get (v := .ref m1) 0 0 hC iu_X4 rfl dX4_hang_70 fl_X4_7 (by decide) rfl rfl ?_
          refine zr_iload 0 hC dX4_hang_73 rfl ?_
          refine zr_iconst (v := (-1 : Int32)) hC dX4_hang_75 rfl ?_
          refine zr_iasj (f := (mx_sp x)) (j := zl b s0) (w' := (mw_W mo m1 m2 m3 m4 m5 m6 m7 m8 m9 cI (as_sta a 0) (mk_sp x (upd (mx_sp x) (zl b s0) (-1 : Int32))))) 1 0 hC dX4_hang_76 rfl rfl (zl_lt hb_b hs_s0) (zl_m hb_b hs_s0) (by decide) rfl ?_
          refine zr_iconst (v := (0 : Int32)) hC dX4_hang_77 rfl ?_
          refine zr_istore (lv' := [(5, .int (0 : Int32)), (4, .int (((4 : Int32) * b) + s0)), (0, .ref mo), (1, .int b), (2, .int s0), (3, .int (nI nn))]) hC dX4_hang_78 (by decide) rfl ?_
          refine zr_iconst (v := (0 : Int32)) hC dX4_hang_80 rfl ?_
          refine zr_istore (lv' := [(6, .int (0 : Int32)), (5, .int (0 : Int32)), (4, .int (((4 : Int32) * b) + s0)), (0, .ref mo), (1, .int b), (2, .int s0), (3, .int (nI nn))]) hC dX4_hang_81 (by decide) rfl ?_
          refine zr_sub [1, 0, 3, 4, 5, 6, 2] rfl ?_
          refine zr_loop (σ := Nat × Int32 × Int32) (fun t => [(5, .int t.2.1), (6, .int t.2.2), (0, .ref mo), (1, .int b), (2, .int s0), (3, .int (nI nn)), (4, .int ((4 : Int32) * b + s0))]) (fun t => mw_W mo m1 m2 m3 m4 m5 m6 m7 m8 m9 cI (as_sta a 0) (mk_sp x (upd (mx_sp x) (zl b s0) (-1 : Int32)))) (fun t => t.1 ≤ 23 ∧ t.2.1 = nI t.1 ∧ (∀ v, v < t.1 → ∃ j, j < 24 ∧ j ≠ zl b s0 ∧ (upd (mx_sp x) (zl b s0) (-1 : Int32)) j = nI v) ∧ (t.2.2 = 0 ∨ (t.2.2 = 1 ∧ ∀ j, j < 24 → ¬ (upd (mx_sp x) (zl b s0) (-1 : Int32)) j = nI t.1))) (fun t => 2 * (24 - t.1) + (if t.2.2 = 0 then 1 else 0)) ?_ (0, 0, 0) ⟨Nat.zero_le _, rfl, fun v h => absurd h (Nat.not_lt_zero _), Or.inl rfl⟩
          rintro ⟨F, f1, e1⟩ ⟨hF1, hF2, hF3, hes⟩ ih
          try dsimp only at hF1
          try dsimp only at hF2
          try dsimp only at hF3
          try dsimp only at hes
          show zz_Z _ _ _ _ _ _ _ _ _ _ _ _ _ _ 83 [(5, .int f1), (6, .int e1), (0, .ref mo), (1, .int b), (2, .int s0), (3, .int (nI nn)), (4, .int ((4 : Int32) * b + s0))] [] (mw_W mo m1 m2 m3 m4 m5 m6 m7 m8 m9 cI (as_sta a 0) (mk_sp x (upd (mx_sp x) (zl b s0) (-1 : Int32)))) 0 0
          rcases hes with rfl | ⟨rfl, hfree⟩
          · refine zr_iload 1 hC dX4_hang_83 rfl ?_
            refine zr_if_neF (tgt := 149) hC dX4_hang_85 (by decide) (by decide) ?_
            refine zr_iconst (v := (1 : Int32)) hC dX4_hang_88 rfl ?_
            refine zr_istore (lv' := [(6, .int (1 : Int32)), (5, .int f1), (0, .ref mo), (1, .int b), (2, .int s0), (3, .int (nI nn)), (4, .int ((4 : Int32) * b + s0))]) hC dX4_hang_89 (by decide) rfl ?_
            refine zr_iconst (v := (0 : Int32)) hC dX4_hang_91 rfl ?_
            refine zr_istore (lv' := [(7, .int (0 : Int32)), (6, .int (1 : Int32)), (5, .int f1), (0, .ref mo), (1, .int b), (2, .int s0), (3, .int (nI nn)), (4, .int ((4 : Int32) * b + s0))]) hC dX4_hang_92 (by decide) rfl ?_
            refine zr_sub [1, 0, 2, 3, 4, 5, 6, 7] rfl ?_
            refine zr_loop (σ := Nat × Int32 × Int32) (fun t => [(6, .int t.2.1), (7, .int t.2.2), (5, .int f1), (0, .ref mo), (1, .int b), (2, .int s0), (3, .int (nI nn)), (4, .int ((4 : Int32) * b + s0))]) (fun t => mw_W mo m1 m2 m3 m4 m5 m6 m7 m8 m9 cI (as_sta a 0) (mk_sp x (upd (mx_sp x) (zl b s0) (-1 : Int32)))) (fun t => t.1 ≤ 24 ∧ t.2.2 = nI t.1 ∧ ((t.2.1 = 1 ∧ ∀ j, j < t.1 → ¬ (upd (mx_sp x) (zl b s0) (-1 : Int32)) j = nI F) ∨ (t.2.1 = 0 ∧ ∃ j, j < t.1 ∧ (upd (mx_sp x) (zl b s0) (-1 : Int32)) j = nI F))) (fun t => 24 - t.1) ?_ (0, 1, 0) ⟨Nat.zero_le _, rfl, Or.inl ⟨rfl, fun j h => absurd h (Nat.not_lt_zero _)⟩⟩
            rintro ⟨mm, e2, i7⟩ ⟨hm1, hm2, hes2⟩ ih2
            try dsimp only at hm1
            try dsimp only at hm2
            try dsimp only at hes2
            show zz_Z _ _ _ _ _ _ _ _ _ _ _ _ _ _ 94 [(6, .int e2), (7, .int i7), (5, .int f1), (0, .ref mo), (1, .int b), (2, .int s0), (3, .int (nI nn)), (4, .int ((4 : Int32) * b + s0))] [] (mw_W mo m1 m2 m3 m4 m5 m6 m7 m8 m9 cI (as_sta a 0) (mk_sp x (upd (mx_sp x) (zl b s0) (-1 : Int32)))) 0 0
            rcases hes2 with ⟨rfl, hin⟩ | ⟨rfl, hin⟩
            · refine zr_iload 1 hC dX4_hang_94 rfl ?_
              refine zr_bipush (v := (24 : Int32)) hC dX4_hang_96 rfl ?_
              refine zr_icmp_ge (tgt := 131) hC dX4_hang_98 (by decide) (fun c98 => ?_) (fun c98 => ?_)
              · have hend : mm = 24 := by
                  rw [hm2] at c98
                  have := (nI_leI (a := 24) (by omega) (by omega)).mp c98
                  omega
                refine zr_iload 2 hC dX4_hang_131 rfl ?_
                refine zr_iload 0 hC dX4_hang_133 rfl ?_
                refine zr_if_eqF (tgt := 142) hC dX4_hang_135 (by decide) (by decide) ?_
                refine zr_iconst (v := (0 : Int32)) hC dX4_hang_138 rfl ?_
                refine zr_goto (tgt := 143) hC dX4_hang_139 (by decide) ?_
                refine zr_iadd hC dX4_hang_143 ?_
                refine zr_istore (lv' := [(5, .int (f1 + (0 : Int32))), (6, .int (1 : Int32)), (7, .int i7), (0, .ref mo), (1, .int b), (2, .int s0), (3, .int (nI nn)), (4, .int ((4 : Int32) * b + s0))]) hC dX4_hang_144 (by decide) rfl ?_
                refine zr_goto (tgt := 83) hC dX4_hang_146 (by decide) ?_
                refine zr_sub [0, 1, 3, 4, 5, 6, 7] rfl ?_
                exact ih (F, (f1 + (0 : Int32)), 1) ⟨hF1, by show f1 + 0 = nI F; rw [hF2, Int32.add_zero], hF3, Or.inr ⟨rfl, fun j hj => hin j (by omega)⟩⟩ (by show 2 * (24 - F) + (if (1 : Int32) = 0 then 1 else 0) < 2 * (24 - F) + (if (0 : Int32) = 0 then 1 else 0); rw [if_neg (by decide), if_pos rfl]; omega)
              · have hlt : mm < 24 := by
                  rcases Nat.lt_or_ge mm 24 with h0 | h0
                  · exact h0
                  · exact absurd (by rw [hm2]; exact nI_le h0 (by omega)) c98
                refine zr_iload 0 hC dX4_hang_101 rfl ?_
                refine zr_if_eqF (tgt := 122) hC dX4_hang_103 (by decide) (by decide) ?_
                refine zr_aload_n 3 hC dX4_hang_106 rfl rfl ?_
                refine zr_get (v := .ref m1) 0 0 hC iu_X4 rfl dX4_hang_107 fl_X4_7 (by decide) rfl rfl ?_
                refine zr_iload 1 hC dX4_hang_110 rfl ?_
                refine zr_iaj (f := (upd (mx_sp x) (zl b s0) (-1 : Int32))) (j := mm) 1 0 hC dX4_hang_112 rfl rfl (by omega) hm2 (by decide) ?_
                refine zr_iload 2 hC dX4_hang_113 rfl ?_
                refine zr_icmp_eq (tgt := 122) hC dX4_hang_115 (by decide) (fun c115 => ?_) (fun c115 => ?_)
                · refine zr_iconst (v := (0 : Int32)) hC dX4_hang_122 rfl ?_
                  refine zr_istore (lv' := [(6, .int (0 : Int32)), (7, .int i7), (5, .int f1), (0, .ref mo), (1, .int b), (2, .int s0), (3, .int (nI nn)), (4, .int ((4 : Int32) * b + s0))]) hC dX4_hang_123 (by decide) rfl ?_
                  refine zr_iinc (v := (i7 + 1)) (lv' := [(7, .int (i7 + 1)), (6, .int (0 : Int32)), (5, .int f1), (0, .ref mo), (1, .int b), (2, .int s0), (3, .int (nI nn)), (4, .int ((4 : Int32) * b + s0))]) 1 hC dX4_hang_125 rfl rfl (by decide) rfl ?_
                  refine zr_goto (tgt := 94) hC dX4_hang_128 (by decide) ?_
                  refine zr_sub [1, 0, 2, 3, 4, 5, 6, 7] rfl ?_
                  exact ih2 (mm + 1, (0 : Int32), i7 + 1) ⟨by show mm + 1 ≤ 24; omega, by show i7 + 1 = nI (mm + 1); rw [hm2, nI_1], Or.inr ⟨rfl, mm, by show mm < mm + 1; omega, c115.trans hF2⟩⟩ (by show 24 - (mm + 1) < 24 - mm; omega)
                · refine zr_iconst (v := (1 : Int32)) hC dX4_hang_118 rfl ?_
                  refine zr_goto (tgt := 123) hC dX4_hang_119 (by decide) ?_
                  refine zr_istore (lv' := [(6, .int (1 : Int32)), (7, .int i7), (5, .int f1), (0, .ref mo), (1, .int b), (2, .int s0), (3, .int (nI nn)), (4, .int ((4 : Int32) * b + s0))]) hC dX4_hang_123 (by decide) rfl ?_
                  refine zr_iinc (v := (i7 + 1)) (lv' := [(7, .int (i7 + 1)), (6, .int (1 : Int32)), (5, .int f1), (0, .ref mo), (1, .int b), (2, .int s0), (3, .int (nI nn)), (4, .int ((4 : Int32) * b + s0))]) 1 hC dX4_hang_125 rfl rfl (by decide) rfl ?_
                  refine zr_goto (tgt := 94) hC dX4_hang_128 (by decide) ?_
                  refine zr_sub [1, 0, 2, 3, 4, 5, 6, 7] rfl ?_
                  exact ih2 (mm + 1, (1 : Int32), i7 + 1) ⟨by show mm + 1 ≤ 24; omega, by show i7 + 1 = nI (mm + 1); rw [hm2, nI_1], Or.inl ⟨rfl, fun j hj => by have hj : j < mm + 1 := hj; by_cases e0 : j = mm; (· rw [e0]; exact fun h => c115 (h.trans hF2.symm)); (· exact hin j (by omega))⟩⟩ (by show 24 - (mm + 1) < 24 - mm; omega)
            · refine zr_iload 1 hC dX4_hang_94 rfl ?_
              refine zr_bipush (v := (24 : Int32)) hC dX4_hang_96 rfl ?_
              refine zr_icmp_ge (tgt := 131) hC dX4_hang_98 (by decide) (fun c98 => ?_) (fun c98 => ?_)
              · have hend : mm = 24 := by
                  rw [hm2] at c98
                  have := (nI_leI (a := 24) (by omega) (by omega)).mp c98
                  omega
                have hused : ∀ v, v < F + 1 → ∃ j, j < 24 ∧ j ≠ zl b s0 ∧ (upd (mx_sp x) (zl b s0) (-1 : Int32)) j = nI v := by
                  intro v hv
                  by_cases e0 : v = F
                  · subst e0
                    obtain ⟨j, h1, h2⟩ := hin
                    refine ⟨j, by omega, fun e9 => ?_, h2⟩
                    rw [e9, pk_us] at h2
                    exact zn_m1 (by omega) h2.symm
                  · exact hF3 v (by omega)
                have hole : F + 1 ≤ 23 := zn_hole (zl_lt hb_b hs_s0) (by omega) hused
                refine zr_iload 2 hC dX4_hang_131 rfl ?_
                refine zr_iload 0 hC dX4_hang_133 rfl ?_
                refine zr_if_eqT (tgt := 142) hC dX4_hang_135 (by decide) (by decide) ?_
                refine zr_iconst (v := (1 : Int32)) hC dX4_hang_142 rfl ?_
                refine zr_iadd hC dX4_hang_143 ?_
                refine zr_istore (lv' := [(5, .int (f1 + (1 : Int32))), (6, .int (0 : Int32)), (7, .int i7), (0, .ref mo), (1, .int b), (2, .int s0), (3, .int (nI nn)), (4, .int ((4 : Int32) * b + s0))]) hC dX4_hang_144 (by decide) rfl ?_
                refine zr_goto (tgt := 83) hC dX4_hang_146 (by decide) ?_
                refine zr_sub [0, 1, 3, 4, 5, 6, 7] rfl ?_
                exact ih (F + 1, (f1 + (1 : Int32)), 0) ⟨hole, by show f1 + 1 = nI (F + 1); rw [hF2, nI_1], hused, Or.inl rfl⟩ (by show 2 * (24 - (F + 1)) + (if (0 : Int32) = 0 then 1 else 0) < 2 * (24 - F) + (if (0 : Int32) = 0 then 1 else 0); rw [if_pos rfl]; omega)
              · have hlt : mm < 24 := by
                  rcases Nat.lt_or_ge mm 24 with h0 | h0
                  · exact h0
                  · exact absurd (by rw [hm2]; exact nI_le h0 (by omega)) c98
                refine zr_iload 0 hC dX4_hang_101 rfl ?_
                refine zr_if_eqT (tgt := 122) hC dX4_hang_103 (by decide) (by decide) ?_
                refine zr_iconst (v := (0 : Int32)) hC dX4_hang_122 rfl ?_
                refine zr_istore (lv' := [(6, .int (0 : Int32)), (7, .int i7), (5, .int f1), (0, .ref mo), (1, .int b), (2, .int s0), (3, .int (nI nn)), (4, .int ((4 : Int32) * b + s0))]) hC dX4_hang_123 (by decide) rfl ?_
                refine zr_iinc (v := (i7 + 1)) (lv' := [(7, .int (i7 + 1)), (6, .int (0 : Int32)), (5, .int f1), (0, .ref mo), (1, .int b), (2, .int s0), (3, .int (nI nn)), (4, .int ((4 : Int32) * b + s0))]) 1 hC dX4_hang_125 rfl rfl (by decide) rfl ?_
                refine zr_goto (tgt := 94) hC dX4_hang_128 (by decide) ?_
                refine zr_sub [1, 0, 2, 3, 4, 5, 6, 7] rfl ?_
                exact ih2 (mm + 1, (0 : Int32), i7 + 1) ⟨by show mm + 1 ≤ 24; omega, by show i7 + 1 = nI (mm + 1); rw [hm2, nI_1], Or.inr ⟨rfl, by obtain ⟨j, h1, h2⟩ := hin; exact ⟨j, by show j < mm + 1; omega, h2⟩⟩⟩ (by show 24 - (mm + 1) < 24 - mm; omega)
          · refine zr_iload 1 hC dX4_hang_83 rfl ?_
            refine zr_if_neT (tgt := 149) hC dX4_hang_85 (by decide) (by decide) ?_
            refine zr_aload_n 2 hC dX4_hang_149 rfl rfl ?_
            refine zr_get (v := .ref m1) 0 0 hC iu_X4 rfl dX4_hang_150 fl_X4_7 (by decide) rfl rfl ?_
            refine zr_iload 6 hC dX4_hang_153 rfl ?_
            refine zr_iload 0 hC dX4_hang_155 rfl ?_
            refine zr_iasj (f := (upd (mx_sp x) (zl b s0) (-1 : Int32))) (j := zl b s0) (w' := (mw_W mo m1 m2 m3 m4 m5 m6 m7 m8 m9 cI (as_sta a 0) (mk_sp (mk_sp x (upd (mx_sp x) (zl b s0) (-1 : Int32))) (upd (upd (mx_sp x) (zl b s0) (-1 : Int32)) (zl b s0) f1)))) 1 0 hC dX4_hang_157 rfl rfl (zl_lt hb_b hs_s0) (zl_m hb_b hs_s0) (by decide) rfl ?_
            refine zr_aload_n 2 hC dX4_hang_158 rfl rfl ?_
            refine zr_get (v := .ref m2) 0 1 hC iu_X4 rfl dX4_hang_159 fl_X4_13 (by decide) rfl rfl ?_
            refine zr_iload 0 hC dX4_hang_162 rfl ?_
            refine zr_iload_n 5 hC dX4_hang_164 rfl rfl ?_
            refine zr_iasj (f := (mx_ln x)) (j := F) (w' := (mw_W mo m1 m2 m3 m4 m5 m6 m7 m8 m9 cI (as_sta a 0) (mk_ln (mk_sp (mk_sp x (upd (mx_sp x) (zl b s0) (-1 : Int32))) (upd (upd (mx_sp x) (zl b s0) (-1 : Int32)) (zl b s0) f1)) (upd (mx_ln x) F (nI nn))))) 2 0 hC dX4_hang_165 rfl rfl (by omega) hF2 (by decide) rfl ?_
            refine zr_iconst (v := (0 : Int32)) hC dX4_hang_166 rfl ?_
            refine zr_istore (lv' := [(7, .int (0 : Int32)), (5, .int f1), (6, .int (1 : Int32)), (0, .ref mo), (1, .int b), (2, .int s0), (3, .int (nI nn)), (4, .int ((4 : Int32) * b + s0))]) hC dX4_hang_167 (by decide) rfl ?_
            refine zr_sub [0, 1, 3, 4, 5, 6] rfl ?_
            refine zr_loop (σ := Nat × Int32 × (Nat → Int32)) (fun t => [(7, .int t.2.1), (5, .int f1), (0, .ref mo), (1, .int b), (2, .int s0), (3, .int (nI nn))]) (fun t => mw_W mo m1 m2 m3 m4 m5 m6 m7 m8 m9 cI (as_sta a 0) (mk_pl (mk_ln (mk_sp x (upd (upd (mx_sp x) (zl b s0) (-1 : Int32)) (zl b s0) f1)) (upd (mx_ln x) F (nI nn))) t.2.2)) (fun t => t.1 ≤ nn ∧ t.2.1 = nI t.1 ∧ (∀ j, j < t.1 → t.2.2 (25 * F + j) = 0) ∧ (∀ p, p < 25 * F ∨ 25 * F + 25 ≤ p → t.2.2 p = mx_pl x p)) (fun t => nn - t.1) ?_ (0, 0, mx_pl x) ⟨Nat.zero_le _, rfl, fun j h => absurd h (Nat.not_lt_zero _), fun _ _ => rfl⟩
            rintro ⟨km, i8, p8⟩ ⟨hp1, hp2, hp3, hp4⟩ ih3
            try dsimp only at hp1
            try dsimp only at hp2
            try dsimp only at hp3
            try dsimp only at hp4
            show zz_Z _ _ _ _ _ _ _ _ _ _ _ _ _ _ 169 [(7, .int i8), (5, .int f1), (0, .ref mo), (1, .int b), (2, .int s0), (3, .int (nI nn))] [] (mw_W mo m1 m2 m3 m4 m5 m6 m7 m8 m9 cI (as_sta a 0) (mk_pl (mk_ln (mk_sp x (upd (upd (mx_sp x) (zl b s0) (-1 : Int32)) (zl b s0) f1)) (upd (mx_ln x) F (nI nn))) p8)) 0 0
            refine zr_iload 0 hC dX4_hang_169 rfl ?_
            refine zr_iload_n 5 hC dX4_hang_171 rfl rfl ?_
            refine zr_icmp_ge (tgt := 195) hC dX4_hang_172 (by decide) (fun c172 => ?_) (fun c172 => ?_)
            · have hend : km = nn := by
                rw [hp2] at c172
                have := (nI_leI (a := nn) (by omega) (by omega)).mp c172
                omega
              refine zr_iload_n 5 hC dX4_hang_195 rfl rfl ?_
              refine zr_iret hC hr hk dX4_hang_196 (by decide) (by decide) ⟨_, rfl, ?_⟩
              exact zq_mw (a' := as_sta (as_st a (zf_hangS (aa_st a) (zl b s0) nn)) 0) (x' := (mk_pl (mk_ln (mk_sp x (upd (upd (mx_sp x) (zl b s0) (-1 : Int32)) (zl b s0) f1)) (upd (mx_ln x) F (nI nn))) p8)) (by unfold zo_hang; rw [if_pos ⟨hb_b, hs_s0⟩, if_pos c31, if_pos c42, nI_clamp (by omega)]) ⟨rm_hang hR.1 (zl_lt hb_b hs_s0) (z := F) (n := nn) (by omega) (by omega) (by rw [pk_us, hF2]) (fun j hj => by rw [pk_un hj, pk_un hj]) (fun j hj hjk => by have h9 := hfree j hj; rw [pk_un hjk] at h9; exact h9) pk_us (fun j hj => pk_un hj) (fun i hi => hp3 i (by omega)) hp4, hR.2⟩ rfl
            · have hlt : km < nn := by
                rcases Nat.lt_or_ge km nn with h0 | h0
                · exact h0
                · exact absurd (by rw [hp2]; exact nI_le h0 (by omega)) c172
              refine zr_aload_n 2 hC dX4_hang_175 rfl rfl ?_
              refine zr_get (v := .ref m3) 0 2 hC iu_X4 rfl dX4_hang_176 fl_X4_16 (by decide) rfl rfl ?_
              refine zr_bipush (v := (25 : Int32)) hC dX4_hang_179 rfl ?_
              refine zr_iload 1 hC dX4_hang_181 rfl ?_
              refine zr_imul hC dX4_hang_183 ?_
              refine zr_iload 0 hC dX4_hang_184 rfl ?_
              refine zr_iadd hC dX4_hang_186 ?_
              refine zr_iconst (v := (0 : Int32)) hC dX4_hang_187 rfl ?_
              refine zr_iasj (f := p8) (j := 25 * F + km) (w' := (mw_W mo m1 m2 m3 m4 m5 m6 m7 m8 m9 cI (as_sta a 0) (mk_pl (mk_pl (mk_ln (mk_sp x (upd (upd (mx_sp x) (zl b s0) (-1 : Int32)) (zl b s0) f1)) (upd (mx_ln x) F (nI nn))) p8) (upd p8 (25 * F + km) (0 : Int32))))) 3 0 hC dX4_hang_188 rfl rfl (by omega) (by rw [hF2, hp2, show (25 : Int32) = nI 25 from rfl, pk_mul, nI_add]) (by decide) rfl ?_
              refine zr_iinc (v := (i8 + 1)) (lv' := [(7, .int (i8 + 1)), (5, .int f1), (0, .ref mo), (1, .int b), (2, .int s0), (3, .int (nI nn))]) 0 hC dX4_hang_189 rfl rfl (by decide) rfl ?_
              refine zr_goto (tgt := 169) hC dX4_hang_192 (by decide) ?_
              exact ih3 (km + 1, i8 + 1, upd p8 (25 * F + km) 0) ⟨by show km + 1 ≤ nn; omega, by show i8 + 1 = nI (km + 1); rw [hp2, nI_1], fun j hj => by show upd p8 (25 * F + km) 0 (25 * F + j) = 0; by_cases e0 : j = km; (· rw [e0, pk_us]); (· rw [pk_un (by omega)]; exact hp3 j (by have : j < km + 1 := hj; omega)), fun p hp => by show upd p8 (25 * F + km) 0 p = mx_pl x p; rw [pk_un (by omega)]; exact hp4 p hp⟩ (by show nn - (km + 1) < nn - km; omega)
        · refine zr_aload_n 0 hC dX4_hang_45 rfl rfl ?_
          refine zr_iconst (v := (4 : Int32)) hC dX4_hang_46 rfl ?_
          refine zr_put (w' := (mw_W mo m1 m2 m3 m4 m5 m6 m7 m8 m9 cI (as_sta (as_sta a 0) (4 : Int32)) x)) 0 13 hC iu_X4 tyX4_ok nmX4 rfl dX4_hang_47 fl_X4_41 (by decide) rfl rfl rfl rfl (Nat.le_of_ble_eq_true rfl) rfl ?_
          refine zr_aload_n 0 hC dX4_hang_50 rfl rfl ?_
          refine zr_dup hC dX4_hang_51 rfl ?_
          refine zr_get (v := .int (aa_ne a)) 0 16 hC iu_X4 rfl dX4_hang_52 fl_X4_84 (by decide) rfl rfl ?_
          refine zr_iconst (v := (1 : Int32)) hC dX4_hang_55 rfl ?_
          refine zr_iadd hC dX4_hang_56 ?_
          refine zr_put (w' := (mw_W mo m1 m2 m3 m4 m5 m6 m7 m8 m9 cI (as_ne (as_sta (as_sta a 0) (4 : Int32)) ((aa_ne a) + (1 : Int32))) x)) 0 16 hC iu_X4 tyX4_ok nmX4 rfl dX4_hang_57 fl_X4_84 (by decide) rfl rfl rfl rfl (Nat.le_of_ble_eq_true rfl) rfl ?_
          refine zr_iconst (v := (0 : Int32)) hC dX4_hang_60 rfl ?_
          refine zr_iret hC hr hk dX4_hang_61 (by decide) (by decide) ⟨_, rfl, ?_⟩
          exact zq_mw (a' := as_sta (zf_cnt 4 a) 4) (x' := x) (by unfold zo_hang; rw [if_pos ⟨hb_b, hs_s0⟩, if_pos c31, if_neg c42]) hR (by simp [zf_cnt])
      · refine zr_aload_n 0 hC dX4_hang_34 rfl rfl ?_
        refine zr_iconst (v := (5 : Int32)) hC dX4_hang_35 rfl ?_
        refine zr_put (w' := (mw_W mo m1 m2 m3 m4 m5 m6 m7 m8 m9 cI (as_sta (as_sta a 0) (5 : Int32)) x)) 0 13 hC iu_X4 tyX4_ok nmX4 rfl dX4_hang_36 fl_X4_41 (by decide) rfl rfl rfl rfl (Nat.le_of_ble_eq_true rfl) rfl ?_
        refine zr_iconst (v := (0 : Int32)) hC dX4_hang_39 rfl ?_
        refine zr_iret hC hr hk dX4_hang_40 (by decide) (by decide) ⟨_, rfl, ?_⟩
        exact zq_mk (by unfold zo_hang; rw [if_pos ⟨hb_b, hs_s0⟩, if_neg c31]) hR
    · refine zr_if_eqT (tgt := 19) hC dX4_hang_12 (by decide) (by decide) ?_
      refine zr_iconst (v := (0 : Int32)) hC dX4_hang_19 rfl ?_
      refine zr_cVi 0 hC cv_X4_begins ml_X4_80 (c_X4_begins0 (a := a) (x := x)) dX4_hang_20 ⟨Nat.le_of_ble_eq_true rfl, Nat.le_of_ble_eq_true rfl⟩ ⟨Nat.le_of_ble_eq_true rfl, Nat.le_of_ble_eq_true rfl⟩ rfl rfl rfl rfl rfl (Nat.le_of_ble_eq_true rfl) ?_
      rintro _ _ ⟨rfl, rfl⟩
      refine zr_if_neF (tgt := 28) hC dX4_hang_23 (by decide) (by decide) ?_
      refine zr_iconst (v := (0 : Int32)) hC dX4_hang_26 rfl ?_
      refine zr_iret hC hr hk dX4_hang_27 (by decide) (by decide) ⟨_, rfl, ?_⟩
      exact zq_mk (if_neg (fun h => absurd h.2 hs_s0)) hR
  · refine zr_if_eqT (tgt := 19) hC dX4_hang_5 (by decide) (by decide) ?_
    refine zr_iconst (v := (0 : Int32)) hC dX4_hang_19 rfl ?_
    refine zr_cVi 0 hC cv_X4_begins ml_X4_80 (c_X4_begins0 (a := a) (x := x)) dX4_hang_20 ⟨Nat.le_of_ble_eq_true rfl, Nat.le_of_ble_eq_true rfl⟩ ⟨Nat.le_of_ble_eq_true rfl, Nat.le_of_ble_eq_true rfl⟩ rfl rfl rfl rfl rfl (Nat.le_of_ble_eq_true rfl) ?_
    rintro _ _ ⟨rfl, rfl⟩
    refine zr_if_neF (tgt := 28) hC dX4_hang_23 (by decide) (by decide) ?_
    refine zr_iconst (v := (0 : Int32)) hC dX4_hang_26 rfl ?_
    refine zr_iret hC hr hk dX4_hang_27 (by decide) (by decide) ⟨_, rfl, ?_⟩
    exact zq_mk (if_neg (fun h => absurd h.1 hb_b)) hR
end ZB5
