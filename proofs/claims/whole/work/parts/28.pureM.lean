/-! ===== the reference's relation: numbers ===== -/
theorem zn_le {i : Int32} {n : Nat} (hn : n < 2 ^ 31) : (0 ≤ i ∧ i ≤ nI n - 1) ↔ (0 ≤ i ∧ i < nI n) := by
  constructor
  · rintro ⟨h0, h1⟩
    refine ⟨h0, ?_⟩
    obtain ⟨j, hj, rfl⟩ := nI_of (Int32.not_lt.mpr h0)
    cases n with
    | zero =>
      have h2 := Int32.le_iff_toInt_le.mp h1
      rw [nI_toInt hj] at h2
      exact absurd h2 (by rw [show (nI 0 - 1).toInt = -1 from rfl]; omega)
    | succ n =>
      rw [nI_pred] at h1
      have := (nI_leI hj (by omega)).mp h1
      exact nI_lt (by omega) hn
  · rintro ⟨h0, h1⟩
    refine ⟨h0, ?_⟩
    obtain ⟨j, hj, rfl⟩ := nI_of (Int32.not_lt.mpr h0)
    have h2 := (nI_ltI hj hn).mp h1
    cases n with
    | zero => omega
    | succ n =>
      rw [nI_pred]
      exact nI_le (by omega) (by omega)
theorem zk_b5 {b : Int32} : (0 ≤ b ∧ b ≤ 5) ↔ zk_b b := (zn_le (n := 6) (by decide))
theorem zk_s3' {s : Int32} : (0 ≤ s ∧ s ≤ 3) ↔ zk_s s := (zn_le (n := 4) (by decide))
theorem zn_m1 {z : Nat} (h : z < 2 ^ 31) : ¬ nI z = -1 := fun e => by
  have := congrArg Int32.toInt e
  rw [nI_toInt h] at this
  rw [show ((-1 : Int32)).toInt = -1 from rfl] at this
  omega
theorem zf_lev_lo {v : Int32} (h : v < -8000000) : zf_lev v = -8000000 := by
  have h1 : v < 8000000 := Int32.lt_trans h (by decide)
  unfold zf_lev
  rw [if_pos h1, if_neg (fun q => Int32.lt_irrefl (Int32.lt_trans q h))]
theorem zf_lev_hi {v : Int32} (h : 8000000 < v) : zf_lev v = 8000000 := by
  unfold zf_lev
  rw [if_neg (fun q => Int32.lt_irrefl (Int32.lt_trans q h)), if_pos (by decide)]
theorem zf_lev_in {v : Int32} (h1 : -8000000 ≤ v) (h2 : v ≤ 8000000) : zf_lev v = v := by
  have a1 := Int32.le_iff_toInt_le.mp h1
  have a2 := Int32.le_iff_toInt_le.mp h2
  have k1 : ((-8000000 : Int32)).toInt = -8000000 := rfl
  have k2 : ((8000000 : Int32)).toInt = 8000000 := rfl
  unfold zf_lev
  by_cases h3 : v < 8000000
  · rw [if_pos h3]
    by_cases h4 : -8000000 < v
    · rw [if_pos h4]
    · rw [if_neg h4]
      have a4 : ¬ (-8000000 : Int32).toInt < v.toInt := fun q => h4 (Int32.lt_iff_toInt_lt.mpr q)
      exact (Int32.toInt_inj.mp (by omega)).symm
  · rw [if_neg h3, if_pos (by decide)]
    have a3 : ¬ v.toInt < (8000000 : Int32).toInt := fun q => h3 (Int32.lt_iff_toInt_lt.mpr q)
    exact (Int32.toInt_inj.mp (by omega)).symm
theorem zf_lev_rg (v : Int32) : -8000000 ≤ zf_lev v ∧ zf_lev v ≤ 8000000 := by
  by_cases h1 : v < -8000000
  · rw [zf_lev_lo h1]; decide
  · by_cases h2 : 8000000 < v
    · rw [zf_lev_hi h2]; decide
    · rw [zf_lev_in (Int32.not_lt.mp h1) (Int32.not_lt.mp h2)]
      exact ⟨Int32.not_lt.mp h1, Int32.not_lt.mp h2⟩
theorem zf_and16 (v : Int32) : v &&& 65535 = nI (v.toBitVec.toNat % 65536) := pk_and v (m := 65535) 16 (by decide)
theorem zf_and1 (v : Int32) : v &&& 1 = nI (v.toBitVec.toNat % 2) := pk_and v (m := 1) 1 (by decide)
theorem zf_short_lo {v : Int32} (h : v &&& 65535 ≤ 32767) : v.toInt16.toInt32 = v &&& 65535 := by
  rw [zf_and16] at h ⊢
  have hm : v.toBitVec.toNat % 65536 < 65536 := Nat.mod_lt _ (by decide)
  have h2 := (nI_leI (b := 32767) (by omega) (by omega)).mp h
  apply Int32.toInt_inj.mp
  rw [nI_toInt (by omega), Int16.toInt_toInt32, Int32.toInt_toInt16]
  have e : v.toInt = v.toBitVec.toInt := rfl
  rw [e, BitVec.toInt_eq_toNat_bmod, Int.bmod_bmod_of_dvd (by decide)]
  have h16 : ((2 ^ 16 : Nat) : Int) = 65536 := by decide
  rw [Int.bmod_def, h16]
  have hl := v.toBitVec.isLt
  split <;> omega
theorem zf_short_hi {v : Int32} (h : ¬ v &&& 65535 ≤ 32767) : v.toInt16.toInt32 = (v &&& 65535) - 65536 := by
  rw [zf_and16] at h ⊢
  have hm : v.toBitVec.toNat % 65536 < 65536 := Nat.mod_lt _ (by decide)
  have h2 : ¬ v.toBitVec.toNat % 65536 ≤ 32767 := fun q => h (nI_le (b := 32767) q (by omega))
  apply Int32.toInt_inj.mp
  rw [show (65536 : Int32) = nI 65536 from rfl, pk_sub_toInt (by omega) (by omega), Int16.toInt_toInt32, Int32.toInt_toInt16]
  have e : v.toInt = v.toBitVec.toInt := rfl
  rw [e, BitVec.toInt_eq_toNat_bmod, Int.bmod_bmod_of_dvd (by decide)]
  have h16 : ((2 ^ 16 : Nat) : Int) = 65536 := by decide
  rw [Int.bmod_def, h16]
  have hl := v.toBitVec.isLt
  split <;> omega
theorem zk_num {b s : Int32} (v : Int32) (hb : zk_b b) (hs : zk_s s) : zk_n (zl b s) (zf_num s v) := by
  have hm := zl_mod hb hs
  obtain ⟨j, hj, rfl⟩ := zn_s hs
  rw [nI_clamp (by omega)] at hm
  unfold zk_n
  rw [hm]
  refine ⟨fun h => ?_, fun h => ?_, fun h => ?_⟩
  · subst h
    have e : zf_num (nI 0) v = v &&& 65535 := by
      unfold zf_num
      rw [if_pos nI_0]
    rw [e, zf_and16]
    have hm : v.toBitVec.toNat % 65536 < 65536 := Nat.mod_lt _ (by decide)
    exact ⟨nI_pos' (by omega), nI_le (b := 65535) (by omega) (by omega)⟩
  · subst h
    rw [show zf_num (nI 2) v = zf_lev v from zf_num2 v]
    exact zf_lev_rg v
  · subst h
    have e : zf_num (nI 3) v = v &&& 1 := by
      unfold zf_num
      rw [if_neg (by decide), if_neg (by decide), if_neg (by decide)]
    rw [e, zf_and1]
    have hm : v.toBitVec.toNat % 2 < 2 := Nat.mod_lt _ (by decide)
    rcases (show v.toBitVec.toNat % 2 = 0 ∨ v.toBitVec.toNat % 2 = 1 by omega) with h | h
    · rw [h]; exact Or.inl rfl
    · rw [h]; exact Or.inr rfl
theorem zk_n_mod {k k' : Nat} {v : Int32} (h : zk_n k v) (e : k % 4 = k' % 4) : zk_n k' v := by
  unfold zk_n at h ⊢
  rw [← e]
  exact h
theorem zk_odd {k : Nat} {v : Int32} (h : zk_n k v) (e : k % 4 = 0) : v - v / 2 * 2 = 0 ∨ v - v / 2 * 2 = 1 := by
  obtain ⟨h1, h2⟩ := h.1 e
  obtain ⟨j, hj, rfl⟩ := zn_of (n := 65536) (M := 65536) (by decide) ⟨h1, Int32.lt_of_le_of_lt h2 (by decide)⟩
  rw [show (2 : Int32) = nI 2 from rfl, pk_rem (by omega) (by omega) (by omega)]
  rcases (show j % 2 = 0 ∨ j % 2 = 1 by omega) with h | h
  · rw [h]; exact Or.inl rfl
  · rw [h]; exact Or.inr rfl
section ZPM
variable {a : ax_A} {x : mx_X}
theorem rm_none (hR : rm_Q a x) {k : Nat} (hk : k < 24) (h : mx_sp x k = -1) : (aa_st a).1 k = none := (hR.1.1 k hk).mp h
theorem rm_some (hR : rm_Q a x) {k : Nat} (hk : k < 24) (h : ¬ mx_sp x k = -1) : ∃ z n, z < 24 ∧ mx_sp x k = nI z ∧ n ≤ 24 ∧ mx_ln x z = nI n ∧ (aa_st a).1 k = some n ∧ ∀ i, i < n → mx_pl x (25 * z + i) = (aa_st a).2.1 k i ∧ zk_n k ((aa_st a).2.1 k i) := hR.1.2.1 k hk h
theorem rm_why0 (hR : rm_Q a x) {k : Nat} {i : Int32} (hk : k < 24) (h : zf_why (aa_st a) k i = 0) : ∃ z n j, z < 24 ∧ mx_sp x k = nI z ∧ n ≤ 24 ∧ mx_ln x z = nI n ∧ (aa_st a).1 k = some n ∧ j < n ∧ i = nI j ∧ mx_pl x (25 * z + j) = zf_val (aa_st a) k i ∧ zk_n k (zf_val (aa_st a) k i) := by
  obtain ⟨n, h1, h2⟩ := zf_why_in h
  by_cases e : mx_sp x k = -1
  · rw [rm_none hR hk e] at h1; cases h1
  · obtain ⟨z, n', g1, g2, g3, g4, g5, g6⟩ := rm_some hR hk e
    cases h1.symm.trans g5
    obtain ⟨j, hj, rfl⟩ := zn_lt (by omega) h2
    have e1 : (nI j).toNatClampNeg = j := nI_clamp (by omega)
    refine ⟨z, n, j, g1, g2, g3, g4, h1, hj, rfl, ?_, ?_⟩
    · rw [(g6 j hj).1, zf_val, e1]
    · rw [zf_val, e1]; exact (g6 j hj).2
theorem rm_put (hR : rm_Q a x) {k z n j : Nat} {v : Int32} (hk : k < 24) (hz : z < 24) (hsp : mx_sp x k = nI z) (hn : n ≤ 24) (hln : mx_ln x z = nI n) (hj : j < n) (hv : zk_n k v) : rm_Q (zf_set a k (nI j) v) (mk_pl x (upd (mx_pl x) (25 * z + j) v)) := by
  obtain ⟨⟨s1, s2, s3, s4⟩, t⟩ := hR
  have hjj : (nI j).toNatClampNeg = j := nI_clamp (by omega)
  have hk1 : ¬ mx_sp x k = -1 := by rw [hsp]; exact zn_m1 (by omega)
  refine ⟨⟨s1, fun k' hk' hf' => ?_, s3, s4⟩, t⟩
  obtain ⟨z', n', g1, g2, g3, g4, g5, g6⟩ := s2 k' hk' hf'
  refine ⟨z', n', g1, g2, g3, g4, g5, fun i hi => ?_⟩
  have hsame : (aa_st a).2.2 k k' = true ↔ mx_sp x k = mx_sp x k' := s3 k k' hk hk' hk1 hf'
  show upd (mx_pl x) (25 * z + j) v (25 * z' + i) = (if (aa_st a).2.2 k k' = true ∧ i = (nI j).toNatClampNeg then v else (aa_st a).2.1 k' i) ∧ zk_n k' (if (aa_st a).2.2 k k' = true ∧ i = (nI j).toNatClampNeg then v else (aa_st a).2.1 k' i)
  rw [hjj]
  by_cases hzz : z' = z
  · subst hzz
    have hs : (aa_st a).2.2 k k' = true := hsame.mpr (hsp.trans g2.symm)
    have hm : k % 4 = k' % 4 := s4 k k' hk hk' hk1 (hsp.trans g2.symm)
    by_cases hij : i = j
    · subst hij
      rw [pk_us, if_pos ⟨hs, rfl⟩]
      exact ⟨rfl, zk_n_mod hv hm⟩
    · rw [pk_un (by omega), if_neg (fun h => hij h.2)]
      exact g6 i hi
  · rw [pk_un (by omega), if_neg]
    · exact g6 i hi
    · intro h
      have h2 := hsame.mp h.1
      rw [hsp, g2] at h2
      exact hzz ((nI_eq (by omega) (by omega)).mp h2).symm
theorem rm_hang (hR : rm_Q a x) {k z n : Nat} {sp ln pl : Nat → Int32} (hk : k < 24) (hz : z < 24) (hn : n ≤ 24) (hsk : sp k = nI z) (hso : ∀ j, j ≠ k → sp j = mx_sp x j) (hfree : ∀ j, j < 24 → j ≠ k → ¬ mx_sp x j = nI z) (hlz : ln z = nI n) (hlo : ∀ j, j ≠ z → ln j = mx_ln x j) (hp0 : ∀ i, i < n → pl (25 * z + i) = 0) (hpo : ∀ p, p < 25 * z ∨ 25 * z + 25 ≤ p → pl p = mx_pl x p) : rm_Q (as_st a (zf_hangS (aa_st a) k n)) (mk_pl (mk_ln (mk_sp x sp) ln) pl) := by
  obtain ⟨⟨s1, s2, s3, s4⟩, t⟩ := hR
  have hnk : ¬ sp k = -1 := by rw [hsk]; exact zn_m1 (by omega)
  refine ⟨⟨fun j hj => ?_, fun k' hk' hf' => ?_, fun i j hi hj hfi hfj => ?_, fun i j hi hj hfi hij => ?_⟩, t⟩
  · show sp j = -1 ↔ (if j = k then some n else (aa_st a).1 j) = none
    by_cases hjk : j = k
    · subst hjk
      rw [if_pos rfl]
      exact ⟨fun h => absurd h hnk, fun h => (by cases h)⟩
    · rw [if_neg hjk, hso j hjk]; exact s1 j hj
  · by_cases hjk : k' = k
    · subst hjk
      refine ⟨z, n, hz, hsk, hn, hlz, ?_, fun i hi => ?_⟩
      · show (if k' = k' then some n else (aa_st a).1 k') = some n
        rw [if_pos rfl]
      · show pl (25 * z + i) = (if k' = k' then 0 else (aa_st a).2.1 k' i) ∧ zk_n k' (if k' = k' then 0 else (aa_st a).2.1 k' i)
        rw [if_pos rfl]
        exact ⟨hp0 i hi, ⟨fun _ => by decide, fun _ => by decide, fun _ => Or.inl rfl⟩⟩
    · have hf2 : ¬ mx_sp x k' = -1 := fun h => hf' ((hso k' hjk).trans h)
      obtain ⟨z', n', g1, g2, g3, g4, g5, g6⟩ := s2 k' hk' hf2
      have hzz : z' ≠ z := fun e => hfree k' hk' hjk (by rw [g2, e])
      refine ⟨z', n', g1, (hso k' hjk).trans g2, g3, (hlo z' hzz).trans g4, ?_, fun i hi => ?_⟩
      · show (if k' = k then some n else (aa_st a).1 k') = some n'
        rw [if_neg hjk]; exact g5
      · show pl (25 * z' + i) = (if k' = k then 0 else (aa_st a).2.1 k' i) ∧ zk_n k' (if k' = k then 0 else (aa_st a).2.1 k' i)
        rw [if_neg hjk, hpo _ (by omega)]
        exact g6 i hi
  · show (if i = k ∨ j = k then decide (i = j) else (aa_st a).2.2 i j) = true ↔ sp i = sp j
    by_cases hik : i = k <;> by_cases hjk : j = k
    · subst hik; subst hjk; simp
    · subst hik
      rw [if_pos (Or.inl rfl), hsk, hso j hjk, decide_eq_true_iff]
      exact ⟨fun h => absurd h.symm hjk, fun h => absurd h.symm (hfree j hj hjk)⟩
    · subst hjk
      rw [if_pos (Or.inr rfl), hsk, hso i hik, decide_eq_true_iff]
      exact ⟨fun h => absurd h hik, fun h => absurd h (hfree i hi hik)⟩
    · rw [if_neg (by rintro (h | h); exact hik h; exact hjk h), hso i hik, hso j hjk]
      exact s3 i j hi hj (fun h => hfi ((hso i hik).trans h)) (fun h => hfj ((hso j hjk).trans h))
  · have hij : sp i = sp j := hij
    by_cases hik : i = k <;> by_cases hjk : j = k
    · rw [hik, hjk]
    · subst hik
      rw [hsk, hso j hjk] at hij
      exact absurd hij.symm (hfree j hj hjk)
    · subst hjk
      rw [hsk, hso i hik] at hij
      exact absurd hij (hfree i hi hik)
    · rw [hso i hik, hso j hjk] at hij
      exact s4 i j hi hj (fun h => hfi ((hso i hik).trans h)) hij
theorem rm_strike (hR : rm_Q a x) {k : Nat} : rm_Q (as_st a (zf_strikeS (aa_st a) k)) (mk_sp x (upd (mx_sp x) k (-1))) := by
  obtain ⟨⟨s1, s2, s3, s4⟩, t⟩ := hR
  have key : ∀ j, ¬ upd (mx_sp x) k (-1) j = -1 → j ≠ k ∧ upd (mx_sp x) k (-1) j = mx_sp x j := by
    intro j h
    by_cases hjk : j = k
    · subst hjk; exact absurd pk_us h
    · exact ⟨hjk, pk_un hjk⟩
  refine ⟨⟨fun j hj => ?_, fun k' hk' hf' => ?_, fun i j hi hj hfi hfj => ?_, fun i j hi hj hfi hij => ?_⟩, t⟩
  · show upd (mx_sp x) k (-1) j = -1 ↔ (if j = k then none else (aa_st a).1 j) = none
    by_cases hjk : j = k
    · subst hjk
      rw [pk_us, if_pos rfl]; exact ⟨fun _ => rfl, fun _ => rfl⟩
    · rw [pk_un hjk, if_neg hjk]; exact s1 j hj
  · obtain ⟨h1, h2⟩ := key k' hf'
    obtain ⟨z', n', g1, g2, g3, g4, g5, g6⟩ := s2 k' hk' (fun h => hf' (h2.trans h))
    refine ⟨z', n', g1, h2.trans g2, g3, g4, ?_, g6⟩
    show (if k' = k then none else (aa_st a).1 k') = some n'
    rw [if_neg h1]; exact g5
  · obtain ⟨h1, h2⟩ := key i hfi
    obtain ⟨h3, h4⟩ := key j hfj
    show (aa_st a).2.2 i j = true ↔ upd (mx_sp x) k (-1) i = upd (mx_sp x) k (-1) j
    rw [h2, h4]
    exact s3 i j hi hj (fun h => hfi (h2.trans h)) (fun h => hfj (h4.trans h))
  · have hij : upd (mx_sp x) k (-1) i = upd (mx_sp x) k (-1) j := hij
    obtain ⟨h1, h2⟩ := key i hfi
    obtain ⟨h3, h4⟩ := key j (fun h => hfi (hij.trans h))
    rw [h2, h4] at hij
    exact s4 i j hi hj (fun h => hfi (h2.trans h)) hij
theorem rm_share (hR : rm_Q a x) {k k0 : Nat} (hk0 : k0 < 24) (hm : k % 4 = k0 % 4) : rm_Q (as_st a (zf_shareS (aa_st a) k k0)) (mk_sp x (upd (mx_sp x) k (mx_sp x k0))) := by
  obtain ⟨⟨s1, s2, s3, s4⟩, t⟩ := hR
  have key : ∀ j, upd (mx_sp x) k (mx_sp x k0) j = mx_sp x (zf_rho k k0 j) := by
    intro j
    by_cases hjk : j = k
    · subst hjk; rw [pk_us, zf_rho, if_pos rfl]
    · rw [pk_un hjk, zf_rho, if_neg hjk]
  have lt : ∀ j, j < 24 → zf_rho k k0 j < 24 := by
    intro j hj
    unfold zf_rho
    by_cases hjk : j = k
    · rw [if_pos hjk]; exact hk0
    · rw [if_neg hjk]; exact hj
  have md : ∀ j, zf_rho k k0 j % 4 = j % 4 := by
    intro j
    unfold zf_rho
    by_cases hjk : j = k
    · rw [if_pos hjk, hjk]; exact hm.symm
    · rw [if_neg hjk]
  refine ⟨⟨fun j hj => ?_, fun k' hk' hf' => ?_, fun i j hi hj hfi hfj => ?_, fun i j hi hj hfi hij => ?_⟩, t⟩
  · show upd (mx_sp x) k (mx_sp x k0) j = -1 ↔ (aa_st a).1 (zf_rho k k0 j) = none
    rw [key]; exact s1 _ (lt j hj)
  · have hf' : ¬ upd (mx_sp x) k (mx_sp x k0) k' = -1 := hf'
    rw [key] at hf'
    obtain ⟨z', n', g1, g2, g3, g4, g5, g6⟩ := s2 _ (lt k' hk') hf'
    exact ⟨z', n', g1, (key k').trans g2, g3, g4, g5, fun i hi => ⟨(g6 i hi).1, zk_n_mod (g6 i hi).2 (md k')⟩⟩
  · have hfi : ¬ upd (mx_sp x) k (mx_sp x k0) i = -1 := hfi
    have hfj : ¬ upd (mx_sp x) k (mx_sp x k0) j = -1 := hfj
    show (aa_st a).2.2 (zf_rho k k0 i) (zf_rho k k0 j) = true ↔ upd (mx_sp x) k (mx_sp x k0) i = upd (mx_sp x) k (mx_sp x k0) j
    rw [key] at hfi hfj
    rw [key, key]
    exact s3 _ _ (lt i hi) (lt j hj) hfi hfj
  · have hfi : ¬ upd (mx_sp x) k (mx_sp x k0) i = -1 := hfi
    have hij : upd (mx_sp x) k (mx_sp x k0) i = upd (mx_sp x) k (mx_sp x k0) j := hij
    rw [key] at hfi
    rw [key, key] at hij
    have := s4 _ _ (lt i hi) (lt j hj) hfi hij
    rw [md, md] at this
    exact this
end ZPM
