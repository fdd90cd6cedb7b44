section ZA3
variable {l : Launch} {D : va_G} {cI cII cF : ClassId} {o rk sp pp fp mo m1 m2 m3 m4 m5 m6 m7 m8 m9 : Nat}
variable {a : ax_A} {x : cx_X}
set_option maxRecDepth 100000 in
set_option maxHeartbeats 4000000 in
theorem c_X1_rowCount (hR : rc_Q cI cII a x) : zz_Mi l D (zt cI cII cF) yX1_rowCount cX1_rowCount 1 (some .int) 0 0 0 0 [.ref pp] (cw_W o rk sp pp fp cII cF a x) (fun r w' => r = zf_rows (aa_sh a) ∧ w' = (cw_W o rk sp pp fp cII cF a x)) := by
  refine zz_mk (by decide) (Nat.le_of_ble_eq_true rfl) ?_
  intro p e s m below meth c A hC hr hk hnm
  have hC : zz_C p s m _ c A D (zt cI cII cF) 1 cX1_rowCount RX1 := hC
  refine zr_aload_n 0 hC dX1_rowCount_0 rfl rfl ?_
  refine zr_get (v := va_rf (cx_rw x)) 3 0 hC iu_X1 rfl dX1_rowCount_1 fl_X1_9 (by decide) rfl rfl ?_
  refine zr_rf (fun hq2 => ?_) (fun q1 hq2 => ?_)
  · refine zr_ifnonnullN hC dX1_rowCount_4 ?_
    refine zr_iconst (v := (0 : Int32)) hC dX1_rowCount_7 rfl ?_
    refine zr_goto (tgt := 16) hC dX1_rowCount_8 (by decide) ?_
    refine zr_iret hC hr hk dX1_rowCount_16 (by decide) (by decide) ⟨_, rfl, ?_⟩
    exact ⟨(zf_rows_none (hR.2.1.mp hq2)).symm, rfl⟩
  · obtain ⟨hL, n, m0, hh, hdim, hn, hm, hent, g6, g7, g8⟩ := hR.2.2 q1 hq2
    obtain ⟨kq, hkq⟩ := cw_get (o := o) (rk := rk) (sp := sp) (pp := pp) (fp := fp) (cII := cII) (cF := cF) (a := a) hL hent
    refine zr_ifnonnull (tgt := 11) hC dX1_rowCount_4 (by decide) ?_
    refine zr_aload_n 0 hC dX1_rowCount_11 rfl rfl ?_
    refine zr_get (v := va_rf (cx_rw x)) 3 0 hC iu_X1 rfl dX1_rowCount_12 fl_X1_9 (by decide) rfl rfl ?_
    refine zr_rfs hq2 ?_
    refine zr_alen kq 1 hC dX1_rowCount_15 hkq rfl ?_
    refine zr_iret hC hr hk dX1_rowCount_16 (by decide) (by decide) ⟨_, rfl, ?_⟩
    exact ⟨(zf_rows_some hdim).symm, rfl⟩
set_option maxRecDepth 100000 in
set_option maxHeartbeats 4000000 in
theorem c_X1_hasRow (hR : rc_Q cI cII a x) (i : Int32) : zz_Mi l D (zt cI cII cF) yX1_hasRow cX1_hasRow 2 (some .boolean) 1 20 0 0 [.ref pp, .int i] (cw_W o rk sp pp fp cII cF a x) (fun r w' => w' = (cw_W o rk sp pp fp cII cF a x) ∧ ((r = 1 ∧ (0 ≤ i ∧ i < zf_rows (aa_sh a))) ∨ (r = 0 ∧ ¬ (0 ≤ i ∧ i < zf_rows (aa_sh a))))) := by
  refine zz_mk (by decide) (Nat.le_of_ble_eq_true rfl) ?_
  intro p e s m below meth c A hC hr hk hnm
  have hC : zz_C p s m _ c A D (zt cI cII cF) 2 cX1_hasRow RX1 := hC
  refine zr_iload_n 1 hC dX1_hasRow_0 rfl rfl ?_
  refine zr_if_lt (tgt := 16) hC dX1_hasRow_1 (by decide) (fun c1 => ?_) (fun c1 => ?_)
  · refine zr_iconst (v := (0 : Int32)) hC dX1_hasRow_16 rfl ?_
    refine zr_zret hC hr hk dX1_hasRow_17 rfl (by decide) (by decide) ⟨_, rfl, ?_⟩
    exact ⟨rfl, Or.inr ⟨rfl, fun h => absurd h.1 (Int32.not_le.mpr c1)⟩⟩
  · refine zr_iload_n 1 hC dX1_hasRow_4 rfl rfl ?_
    refine zr_aload_n 0 hC dX1_hasRow_5 rfl rfl ?_
    refine zr_cVi 3 hC cv_X1_rowCount ml_X1_15 (c_X1_rowCount (a := a) (x := x) hR) dX1_hasRow_6 ⟨Nat.le_of_ble_eq_true rfl, Nat.le_of_ble_eq_true rfl⟩ ⟨Nat.le_of_ble_eq_true rfl, Nat.le_of_ble_eq_true rfl⟩ rfl rfl rfl rfl rfl (Nat.le_of_ble_eq_true rfl) ?_
    rintro _ _ ⟨rfl, rfl⟩
    refine zr_icmp_ge (tgt := 16) hC dX1_hasRow_9 (by decide) (fun c9 => ?_) (fun c9 => ?_)
    · refine zr_iconst (v := (0 : Int32)) hC dX1_hasRow_16 rfl ?_
      refine zr_zret hC hr hk dX1_hasRow_17 rfl (by decide) (by decide) ⟨_, rfl, ?_⟩
      exact ⟨rfl, Or.inr ⟨rfl, fun h => absurd h.2 (Int32.not_lt.mpr c9)⟩⟩
    · refine zr_iconst (v := (1 : Int32)) hC dX1_hasRow_12 rfl ?_
      refine zr_goto (tgt := 17) hC dX1_hasRow_13 (by decide) ?_
      refine zr_zret hC hr hk dX1_hasRow_17 rfl (by decide) (by decide) ⟨_, rfl, ?_⟩
      exact ⟨rfl, Or.inl ⟨rfl, Int32.not_lt.mp c1, Int32.not_le.mp c9⟩⟩
set_option maxRecDepth 100000 in
set_option maxHeartbeats 4000000 in
theorem c_X1_rowOf {q n j : Nat} {hh : Nat → Option Nat} (hq : cx_rw x = some q) (hL : q ∈ cx_L x) (hent : cx_ent x q = ze_q cII n hh) (hn : n ≤ 12) (hj : j < n) : zz_Mr l D (zt cI cII cF) yX1_rowOf cX1_rowOf 2 (some (.array .int)) 0 0 0 0 [.ref pp, .int (nI j)] (cw_W o rk sp pp fp cII cF a x) (fun r w' => r = hh j ∧ w' = (cw_W o rk sp pp fp cII cF a x)) := by
  refine zz_mk (by decide) (Nat.le_of_ble_eq_true rfl) ?_
  intro p e s m below meth c A hC hr hk hnm
  have hC : zz_C p s m _ c A D (zt cI cII cF) 2 cX1_rowOf RX1 := hC
  obtain ⟨kq, hkq⟩ := cw_get (o := o) (rk := rk) (sp := sp) (pp := pp) (fp := fp) (cII := cII) (cF := cF) (a := a) hL hent
  refine zr_aload_n 0 hC dX1_rowOf_0 rfl rfl ?_
  refine zr_get (v := va_rf (cx_rw x)) 3 0 hC iu_X1 rfl dX1_rowOf_1 fl_X1_9 (by decide) rfl rfl ?_
  refine zr_rfs hq ?_
  refine zr_iload_n 1 hC dX1_rowOf_4 rfl rfl ?_
  refine zr_aaj (j := j) kq 1 hC dX1_rowOf_5 hkq rfl rfl hj rfl (by omega) ?_
  refine zr_aret (v := (hh j)) hC hr hk dX1_rowOf_6 (by decide) (by decide) ⟨_, rfl, ?_⟩
  exact ⟨rfl, rfl⟩
set_option maxRecDepth 100000 in
set_option maxHeartbeats 4000000 in
theorem c_X1_replaceRowN {q n j : Nat} {hh : Nat → Option Nat} (hq : cx_rw x = some q) (hL : q ∈ cx_L x) (hent : cx_ent x q = ze_q cII n hh) (hn : n ≤ 12) (hj : j < n) : zz_Mv l D (zt cI cII cF) yX1_replaceRow cX1_replaceRow 3 none 0 0 0 0 [.ref pp, .int (nI j), .null] (cw_W o rk sp pp fp cII cF a x) (fun w' => w' = (cw_W o rk sp pp fp cII cF a (ck_ent x (va_up (cx_ent x) q (ze_q cII n (va_up hh j none)))))) := by
  refine zz_mk (by decide) (Nat.le_of_ble_eq_true rfl) ?_
  intro p e s m below meth c A hC hr hk hnm
  have hC : zz_C p s m _ c A D (zt cI cII cF) 3 cX1_replaceRow RX1 := hC
  obtain ⟨kq, hkq⟩ := cw_get (o := o) (rk := rk) (sp := sp) (pp := pp) (fp := fp) (cII := cII) (cF := cF) (a := a) hL hent
  refine zr_aload_n 0 hC dX1_replaceRow_0 rfl rfl ?_
  refine zr_get (v := va_rf (cx_rw x)) 3 0 hC iu_X1 rfl dX1_replaceRow_1 fl_X1_9 (by decide) rfl rfl ?_
  refine zr_rfs hq ?_
  refine zr_iload_n 1 hC dX1_replaceRow_4 rfl rfl ?_
  refine zr_aload_nN 2 hC dX1_replaceRow_5 rfl rfl ?_
  refine zr_apart (fun hD => ?_)
  refine zr_asjN (j := j) (w' := (cw_W o rk sp pp fp cII cF a (ck_ent x (va_up (cx_ent x) q (ze_q cII n (va_up hh j none)))))) kq 1 hC dX1_replaceRow_6 hkq rfl hj rfl (by omega) (cw_set hL hent hkq hD) ?_
  refine zr_vret hC hr hk dX1_replaceRow_7 (by decide) (by decide) ⟨rfl, ?_⟩
  exact rfl
set_option maxRecDepth 100000 in
set_option maxHeartbeats 4000000 in
theorem c_X1_replaceRowA {q n j : Nat} {hh : Nat → Option Nat} (hq : cx_rw x = some q) (hL : q ∈ cx_L x) (hent : cx_ent x q = ze_q cII n hh) (hn : n ≤ 12) (hj : j < n) {y k : Nat} {z : Nat → Int32} (hy : y ∈ cx_L x) (hey : cx_ent x y = ze_i cI k z) : zz_Mv l D (zt cI cII cF) yX1_replaceRow cX1_replaceRow 3 none 0 0 0 0 [.ref pp, .int (nI j), .ref y] (cw_W o rk sp pp fp cII cF a x) (fun w' => w' = (cw_W o rk sp pp fp cII cF a (ck_ent x (va_up (cx_ent x) q (ze_q cII n (va_up hh j (some y))))))) := by
  refine zz_mk (by decide) (Nat.le_of_ble_eq_true rfl) ?_
  intro p e s m below meth c A hC hr hk hnm
  have hC : zz_C p s m _ c A D (zt cI cII cF) 3 cX1_replaceRow RX1 := hC
  obtain ⟨kq, hkq⟩ := cw_get (o := o) (rk := rk) (sp := sp) (pp := pp) (fp := fp) (cII := cII) (cF := cF) (a := a) hL hent
  obtain ⟨ky, hky⟩ := cw_get (o := o) (rk := rk) (sp := sp) (pp := pp) (fp := fp) (cII := cII) (cF := cF) (a := a) hy hey
  refine zr_aload_n 0 hC dX1_replaceRow_0 rfl rfl ?_
  refine zr_get (v := va_rf (cx_rw x)) 3 0 hC iu_X1 rfl dX1_replaceRow_1 fl_X1_9 (by decide) rfl rfl ?_
  refine zr_rfs hq ?_
  refine zr_iload_n 1 hC dX1_replaceRow_4 rfl rfl ?_
  refine zr_aload_n 2 hC dX1_replaceRow_5 rfl rfl ?_
  refine zr_apart (fun hD => ?_)
  refine zr_asjA (j := j) (w' := (cw_W o rk sp pp fp cII cF a (ck_ent x (va_up (cx_ent x) q (ze_q cII n (va_up hh j (some y))))))) kq 1 0 ky hC dX1_replaceRow_6 hkq rfl hky rfl hj rfl (by omega) (cw_set hL hent hkq hD) ?_
  refine zr_vret hC hr hk dX1_replaceRow_7 (by decide) (by decide) ⟨rfl, ?_⟩
  exact rfl
set_option maxRecDepth 100000 in
set_option maxHeartbeats 4000000 in
theorem c_X1_refusalAt (hR : rc_Q cI cII a x) (i j0 : Int32) : zz_Mi l D (zt cI cII cF) yX1_refusalAt cX1_refusalAt 4 (some .int) 2 41 0 0 [.ref pp, .int i, .int j0] (cw_W o rk sp pp fp cII cF a x) (fun r w' => r = zf_whyC (aa_sh a) i j0 ∧ w' = (cw_W o rk sp pp fp cII cF a x)) := by
  refine zz_mk (by decide) (Nat.le_of_ble_eq_true rfl) ?_
  intro p e s m below meth c A hC hr hk hnm
  have hC : zz_C p s m _ c A D (zt cI cII cF) 4 cX1_refusalAt RX1 := hC
  refine zr_aload_n 0 hC dX1_refusalAt_0 rfl rfl ?_
  refine zr_get (v := va_rf (cx_rw x)) 3 0 hC iu_X1 rfl dX1_refusalAt_1 fl_X1_9 (by decide) rfl rfl ?_
  refine zr_rf (fun hq2 => ?_) (fun q1 hq2 => ?_)
  · refine zr_ifnonnullN hC dX1_refusalAt_4 ?_
    refine zr_iconst (v := (2 : Int32)) hC dX1_refusalAt_7 rfl ?_
    refine zr_iret hC hr hk dX1_refusalAt_8 (by decide) (by decide) ⟨_, rfl, ?_⟩
    exact ⟨(zf_whyC_none (hR.2.1.mp hq2)).symm, rfl⟩
  · obtain ⟨hL, n, m0, hh, hdim, hn, hm, hent, g6, g7, g8⟩ := hR.2.2 q1 hq2
    obtain ⟨kq, hkq⟩ := cw_get (o := o) (rk := rk) (sp := sp) (pp := pp) (fp := fp) (cII := cII) (cF := cF) (a := a) hL hent
    refine zr_ifnonnull (tgt := 9) hC dX1_refusalAt_4 (by decide) ?_
    refine zr_aload_n 0 hC dX1_refusalAt_9 rfl rfl ?_
    refine zr_iload_n 1 hC dX1_refusalAt_10 rfl rfl ?_
    refine zr_cVi 3 hC cv_X1_hasRow ml_X1_19 (c_X1_hasRow (a := a) (x := x) hR i) dX1_refusalAt_11 ⟨Nat.le_of_ble_eq_true rfl, Nat.le_of_ble_eq_true rfl⟩ ⟨Nat.le_of_ble_eq_true rfl, Nat.le_of_ble_eq_true rfl⟩ rfl rfl rfl rfl rfl (Nat.le_of_ble_eq_true rfl) ?_
    rintro _ _ ⟨rfl, ⟨rfl, hw3⟩ | ⟨rfl, hw3⟩⟩
    · refine zr_if_neT (tgt := 19) hC dX1_refusalAt_14 (by decide) (by decide) ?_
      refine zr_aload_n 0 hC dX1_refusalAt_19 rfl rfl ?_
      refine zr_get (v := va_rf (cx_rw x)) 3 0 hC iu_X1 rfl dX1_refusalAt_20 fl_X1_9 (by decide) rfl rfl ?_
      refine zr_rfs hq2 ?_
      refine zr_iload_n 1 hC dX1_refusalAt_23 rfl rfl ?_
      rw [zf_rows_some hdim] at hw3
      obtain ⟨ii, hii, rfl⟩ := zn_lt (by omega) hw3
      refine zr_aaj (j := ii) kq 1 hC dX1_refusalAt_24 hkq rfl rfl hii rfl (by omega) ?_
      refine zr_rf (fun hy => ?_) (fun y hy => ?_)
      · refine zr_astore_nN (lv' := [(3, .null), (0, .ref pp), (1, .int (nI ii)), (2, .int j0)]) hC dX1_refusalAt_25 rfl (by decide) rfl ?_
        refine zr_aload_nN 0 hC dX1_refusalAt_26 rfl rfl ?_
        refine zr_ifnonnullN hC dX1_refusalAt_27 ?_
        refine zr_iconst (v := (2 : Int32)) hC dX1_refusalAt_30 rfl ?_
        refine zr_iret hC hr hk dX1_refusalAt_31 (by decide) (by decide) ⟨_, rfl, ?_⟩
        exact ⟨by rw [zf_whyC_some hdim, if_pos hw3, nI_clamp (by omega)]; rw [if_neg (by rw [(g6 ii hii).mp hy]; decide)], rfl⟩
      · obtain ⟨hyL, ⟨z, hey, hz⟩, -⟩ := g7 ii y hii hy
        obtain ⟨ky, hky⟩ := cw_get (o := o) (rk := rk) (sp := sp) (pp := pp) (fp := fp) (cII := cII) (cF := cF) (a := a) hyL hey
        refine zr_astore_n (lv' := [(3, .ref y), (0, .ref pp), (1, .int (nI ii)), (2, .int j0)]) hC dX1_refusalAt_25 rfl (by decide) rfl ?_
        refine zr_aload_n 0 hC dX1_refusalAt_26 rfl rfl ?_
        refine zr_ifnonnull (tgt := 32) hC dX1_refusalAt_27 (by decide) ?_
        refine zr_iload_n 3 hC dX1_refusalAt_32 rfl rfl ?_
        refine zr_if_lt (tgt := 46) hC dX1_refusalAt_33 (by decide) (fun c33 => ?_) (fun c33 => ?_)
        · refine zr_iconst (v := (3 : Int32)) hC dX1_refusalAt_46 rfl ?_
          refine zr_iret hC hr hk dX1_refusalAt_47 (by decide) (by decide) ⟨_, rfl, ?_⟩
          have hp : (aa_sh a).2.1 ii = true := by
            cases e0 : (aa_sh a).2.1 ii with
            | true => rfl
            | false => rw [(g6 ii hii).mpr e0] at hy; cases hy
          exact ⟨by rw [zf_whyC_some hdim, if_pos hw3, nI_clamp (by omega)]; rw [if_pos hp, if_neg (fun h => absurd h.1 (Int32.not_le.mpr c33))], rfl⟩
        · refine zr_iload_n 3 hC dX1_refusalAt_36 rfl rfl ?_
          refine zr_aload_n 0 hC dX1_refusalAt_37 rfl rfl ?_
          refine zr_alen ky 0 hC dX1_refusalAt_38 hky rfl ?_
          refine zr_icmp_ge (tgt := 46) hC dX1_refusalAt_39 (by decide) (fun c39 => ?_) (fun c39 => ?_)
          · refine zr_iconst (v := (3 : Int32)) hC dX1_refusalAt_46 rfl ?_
            refine zr_iret hC hr hk dX1_refusalAt_47 (by decide) (by decide) ⟨_, rfl, ?_⟩
            have hp : (aa_sh a).2.1 ii = true := by
              cases e0 : (aa_sh a).2.1 ii with
              | true => rfl
              | false => rw [(g6 ii hii).mpr e0] at hy; cases hy
            exact ⟨by rw [zf_whyC_some hdim, if_pos hw3, nI_clamp (by omega)]; rw [if_pos hp, if_neg (fun h => absurd h.2 (Int32.not_lt.mpr c39))], rfl⟩
          · refine zr_iconst (v := (0 : Int32)) hC dX1_refusalAt_42 rfl ?_
            refine zr_goto (tgt := 47) hC dX1_refusalAt_43 (by decide) ?_
            refine zr_iret hC hr hk dX1_refusalAt_47 (by decide) (by decide) ⟨_, rfl, ?_⟩
            have hp : (aa_sh a).2.1 ii = true := by
              cases e0 : (aa_sh a).2.1 ii with
              | true => rfl
              | false => rw [(g6 ii hii).mpr e0] at hy; cases hy
            exact ⟨by rw [zf_whyC_some hdim, if_pos hw3, nI_clamp (by omega)]; rw [if_pos hp, if_pos ⟨Int32.not_lt.mp c33, Int32.not_le.mp c39⟩], rfl⟩
    · refine zr_if_neF (tgt := 19) hC dX1_refusalAt_14 (by decide) (by decide) ?_
      refine zr_iconst (v := (3 : Int32)) hC dX1_refusalAt_17 rfl ?_
      refine zr_iret hC hr hk dX1_refusalAt_18 (by decide) (by decide) ⟨_, rfl, ?_⟩
      exact ⟨by rw [zf_whyC_some hdim, ← zf_rows_some hdim, if_neg hw3], rfl⟩
set_option maxRecDepth 100000 in
set_option maxHeartbeats 4000000 in
theorem c_X1_numberAt (hR : rc_Q cI cII a x) {i j0 : Int32} (h0 : zf_whyC (aa_sh a) i j0 = 0) : zz_Mi l D (zt cI cII cF) yX1_numberAt cX1_numberAt 3 (some .int) 0 0 0 0 [.ref pp, .int i, .int j0] (cw_W o rk sp pp fp cII cF a x) (fun r w' => r = zf_cell (aa_sh a) i j0 ∧ w' = (cw_W o rk sp pp fp cII cF a x)) := by
  refine zz_mk (by decide) (Nat.le_of_ble_eq_true rfl) ?_
  intro p e s m below meth c A hC hr hk hnm
  have hC : zz_C p s m _ c A D (zt cI cII cF) 3 cX1_numberAt RX1 := hC
  obtain ⟨q, n, m0, hh, y, z, ii, jj, hq, hL, hent, hn, hii, rfl, hy, hyL, hey, hm, hjj, rfl, hz⟩ := rc_cell0 hR h0
  obtain ⟨kq, hkq⟩ := cw_get (o := o) (rk := rk) (sp := sp) (pp := pp) (fp := fp) (cII := cII) (cF := cF) (a := a) hL hent
  obtain ⟨ky, hky⟩ := cw_get (o := o) (rk := rk) (sp := sp) (pp := pp) (fp := fp) (cII := cII) (cF := cF) (a := a) hyL hey
  refine zr_aload_n 0 hC dX1_numberAt_0 rfl rfl ?_
  refine zr_get (v := va_rf (cx_rw x)) 3 0 hC iu_X1 rfl dX1_numberAt_1 fl_X1_9 (by decide) rfl rfl ?_
  refine zr_rfs hq ?_
  refine zr_iload_n 1 hC dX1_numberAt_4 rfl rfl ?_
  refine zr_aaj (j := ii) kq 1 hC dX1_numberAt_5 hkq rfl rfl hii rfl (by omega) ?_
  refine zr_rfs hy ?_
  refine zr_iload_n 2 hC dX1_numberAt_6 rfl rfl ?_
  refine zr_iaj (j := jj) ky 0 hC dX1_numberAt_7 hky rfl hjj rfl (by omega) ?_
  refine zr_iret hC hr hk dX1_numberAt_8 (by decide) (by decide) ⟨_, rfl, ?_⟩
  exact ⟨hz, rfl⟩
set_option maxRecDepth 100000 in
set_option maxHeartbeats 4000000 in
theorem c_X1_write (hR : rc_Q cI cII a x) {i j0 : Int32} (v : Int32) (h0 : zf_whyC (aa_sh a) i j0 = 0) : zz_Mv l D (zt cI cII cF) yX1_write cX1_write 4 none 0 0 0 0 [.ref pp, .int i, .int j0, .int v] (cw_W o rk sp pp fp cII cF a x) (fun w' => ∃ x', cx_fnd x' = cx_fnd x ∧ cx_K x x' ∧ w' = (cw_W o rk sp pp fp cII cF (zf_wri a i j0 v) x') ∧ rc_Q cI cII (zf_wri a i j0 v) x') := by
  refine zz_mk (by decide) (Nat.le_of_ble_eq_true rfl) ?_
  intro p e s m below meth c A hC hr hk hnm
  have hC : zz_C p s m _ c A D (zt cI cII cF) 4 cX1_write RX1 := hC
  obtain ⟨q, n, m0, hh, y, z, ii, jj, hq, hL, hent, hn, hii, rfl, hy, hyL, hey, hm, hjj, rfl, hz⟩ := rc_cell0 hR h0
  obtain ⟨kq, hkq⟩ := cw_get (o := o) (rk := rk) (sp := sp) (pp := pp) (fp := fp) (cII := cII) (cF := cF) (a := a) hL hent
  obtain ⟨ky, hky⟩ := cw_get (o := o) (rk := rk) (sp := sp) (pp := pp) (fp := fp) (cII := cII) (cF := cF) (a := a) hyL hey
  refine zr_aload_n 0 hC dX1_write_0 rfl rfl ?_
  refine zr_get (v := va_rf (cx_rw x)) 3 0 hC iu_X1 rfl dX1_write_1 fl_X1_9 (by decide) rfl rfl ?_
  refine zr_rfs hq ?_
  refine zr_iload_n 1 hC dX1_write_4 rfl rfl ?_
  refine zr_aaj (j := ii) kq 1 hC dX1_write_5 hkq rfl rfl hii rfl (by omega) ?_
  refine zr_rfs hy ?_
  refine zr_iload_n 2 hC dX1_write_6 rfl rfl ?_
  refine zr_iload_n 3 hC dX1_write_7 rfl rfl ?_
  refine zr_apart (fun hD => ?_)
  refine zr_iasj (j := jj) (w' := (cw_W o rk sp pp fp cII cF a (ck_ent x (va_up (cx_ent x) y (ze_i cI m0 (upd z jj v)))))) ky 0 hC dX1_write_8 hky rfl hjj rfl (by omega) (cw_set hyL hey hky hD) ?_
  refine zr_aload_n 0 hC dX1_write_9 rfl rfl ?_
  refine zr_dup hC dX1_write_10 rfl ?_
  refine zr_get (v := .int (aa_wr a)) 3 1 hC iu_X1 rfl dX1_write_11 fl_X1_23 (by decide) rfl rfl ?_
  refine zr_iconst (v := (1 : Int32)) hC dX1_write_14 rfl ?_
  refine zr_iadd hC dX1_write_15 ?_
  refine zr_put (w' := (cw_W o rk sp pp fp cII cF (as_wr a ((aa_wr a) + (1 : Int32))) (ck_ent x (va_up (cx_ent x) y (ze_i cI m0 (upd z jj v)))))) 3 1 hC iu_X1 tyX1_ok nmX1 rfl dX1_write_16 fl_X1_23 (by decide) rfl rfl rfl rfl (Nat.le_of_ble_eq_true rfl) rfl ?_
  refine zr_vret hC hr hk dX1_write_19 (by decide) (by decide) ⟨rfl, ?_⟩
  exact ⟨ck_ent x (va_up (cx_ent x) y (ze_i cI m0 (upd z jj v))), rfl, cx_K.put hey, rfl, rc_write hR hq hent hn hii hy hey hm hjj v⟩
end ZA3
