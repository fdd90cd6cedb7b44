/-! ===== the reference's relation: the sheet; a free place ===== -/
theorem zn_all : ∀ (m : Nat) (l : List Nat), (∀ v, v < m → v ∈ l) → m ≤ l.length
  | 0, _, _ => Nat.zero_le _
  | m + 1, l, h => by
    have h1 : m ∈ l := h m (Nat.lt_succ_self m)
    have h2 := zn_all m (l.erase m) (fun v hv => (List.mem_erase_of_ne (by omega)).mpr (h v (by omega)))
    rw [List.length_erase_of_mem h1] at h2
    have h3 : 0 < l.length := List.length_pos_of_mem h1
    omega
theorem zn_23 : ∀ k, k < 24 → ((List.range 24).filter (fun j => !(j == k))).length = 23 := by decide
theorem zn_hole {g : Nat → Int32} {k m : Nat} (hk : k < 24) (hm : m < 2 ^ 31) (h : ∀ v, v < m → ∃ j, j < 24 ∧ j ≠ k ∧ g j = nI v) : m ≤ 23 := by
  have h2 := zn_all m (((List.range 24).filter (fun j => !(j == k))).map (fun j => (g j).toNatClampNeg)) (fun v hv => by
    obtain ⟨j, h1, h2, h3⟩ := h v hv
    refine List.mem_map.mpr ⟨j, List.mem_filter.mpr ⟨List.mem_range.mpr h1, by simp [h2]⟩, ?_⟩
    rw [h3, nI_clamp (by omega)])
  rw [List.length_map, zn_23 k hk] at h2
  exact h2
section ZPN
variable {a : ax_A} {x : mx_X}
theorem rm_dim (hR : rm_Q a x) (h : ¬ (aa_sh a).1 = none) : mx_hs x = 1 ∧ ∃ n m, (aa_sh a).1 = some (n, m) ∧ n ≤ 12 ∧ m ≤ 12 ∧ mx_rm x = nI n ∧ mx_cm x = nI m ∧
    (∀ i, i < n → (mx_rw x i = -1 ↔ (aa_sh a).2.1 i = false)) ∧
    (∀ i, i < n → ¬ mx_rw x i = -1 → ∃ z, z < 12 ∧ mx_rw x i = nI z ∧ ∀ j, j < m → mx_ce x (12 * z + j) = (aa_sh a).2.2.1 i j) ∧
    (∀ i j, i < n → j < n → ¬ mx_rw x i = -1 → ¬ mx_rw x j = -1 → ((aa_sh a).2.2.2 i j = true ↔ mx_rw x i = mx_rw x j)) := by
  rcases hR.2 with ⟨-, h2⟩ | h2
  · exact absurd h2 h
  · exact h2
theorem rm_no (hR : rm_Q a x) (h : mx_hs x = 0) : (aa_sh a).1 = none := by
  rcases hR.2 with ⟨-, h2⟩ | ⟨h2, -⟩
  · exact h2
  · rw [h] at h2; exact absurd h2 (by decide)
theorem rm_yes (hR : rm_Q a x) (h : ¬ mx_hs x = 0) : ¬ (aa_sh a).1 = none := by
  rcases hR.2 with ⟨h2, -⟩ | ⟨h2, n, m, h3, -⟩
  · exact absurd h2 h
  · rw [h3]; exact fun h => by cases h
theorem rm_cell0 (hR : rm_Q a x) {i j : Int32} (h : zf_whyC (aa_sh a) i j = 0) : ∃ n m ii jj z, (aa_sh a).1 = some (n, m) ∧ n ≤ 12 ∧ m ≤ 12 ∧ ii < n ∧ i = nI ii ∧ jj < m ∧ j = nI jj ∧ z < 12 ∧ mx_rw x ii = nI z ∧ mx_ce x (12 * z + jj) = zf_cell (aa_sh a) i j := by
  obtain ⟨n, m, h1, h2, h3, h4⟩ := zf_whyC_in h
  obtain ⟨-, n', m', g1, g2, g3, g4, g5, g6, g7, g8⟩ := rm_dim hR (by rw [h1]; exact fun h => by cases h)
  cases h1.symm.trans g1
  obtain ⟨ii, hii, rfl⟩ := zn_lt (by omega) h2
  obtain ⟨jj, hjj, rfl⟩ := zn_lt (by omega) h4
  have e1 : (nI ii).toNatClampNeg = ii := nI_clamp (by omega)
  have e2 : (nI jj).toNatClampNeg = jj := nI_clamp (by omega)
  rw [e1] at h3
  have hr : ¬ mx_rw x ii = -1 := fun e => by rw [(g6 ii hii).mp e] at h3; cases h3
  obtain ⟨z, k1, k2, k3⟩ := g7 ii hii hr
  refine ⟨n, m, ii, jj, z, h1, g2, g3, hii, rfl, hjj, rfl, k1, k2, ?_⟩
  rw [k3 jj hjj, zf_cell, e1, e2]
theorem rm_write (hR : rm_Q a x) {n m ii jj z : Nat} (hd : (aa_sh a).1 = some (n, m)) (hii : ii < n) (hjj : jj < m) (hz : z < 12) (hrz : mx_rw x ii = nI z) (v : Int32) : rm_Q (zf_wri a (nI ii) (nI jj) v) (mk_ce x (upd (mx_ce x) (12 * z + jj) v)) := by
  obtain ⟨e0, n', m', g1, g2, g3, g4, g5, g6, g7, g8⟩ := rm_dim hR (by rw [hd]; exact fun h => by cases h)
  cases hd.symm.trans g1
  have hi1 : (nI ii).toNatClampNeg = ii := nI_clamp (by omega)
  have hj1 : (nI jj).toNatClampNeg = jj := nI_clamp (by omega)
  have hri : ¬ mx_rw x ii = -1 := by rw [hrz]; exact zn_m1 (by omega)
  refine ⟨hR.1, Or.inr ⟨e0, n, m, g1, g2, g3, g4, g5, g6, fun i hi hri' => ?_, g8⟩⟩
  obtain ⟨z', k1, k2, k3⟩ := g7 i hi hri'
  refine ⟨z', k1, k2, fun j hj => ?_⟩
  have hs := g8 ii i hii hi hri hri'
  show upd (mx_ce x) (12 * z + jj) v (12 * z' + j) = if (aa_sh a).2.2.2 (nI ii).toNatClampNeg i = true ∧ j = (nI jj).toNatClampNeg then v else (aa_sh a).2.2.1 i j
  rw [hi1, hj1]
  by_cases hzz : z' = z
  · subst hzz
    have h2 : (aa_sh a).2.2.2 ii i = true := hs.mpr (hrz.trans k2.symm)
    by_cases hij : j = jj
    · subst hij
      rw [pk_us, if_pos ⟨h2, rfl⟩]
    · rw [pk_un (by omega), if_neg (fun h => hij h.2)]
      exact k3 j hj
  · rw [pk_un (by omega), if_neg]
    · exact k3 j hj
    · intro h
      have h2 := hs.mp h.1
      rw [hrz, k2] at h2
      exact hzz ((nI_eq (by omega) (by omega)).mp h2).symm
theorem rm_tear0 (hR : rm_Q a x) {n m i : Nat} (hd : (aa_sh a).1 = some (n, m)) : rm_Q (as_sh a (zf_tear0 (aa_sh a) i)) (mk_rw x (upd (mx_rw x) i (-1))) := by
  obtain ⟨e0, n', m', g1, g2, g3, g4, g5, g6, g7, g8⟩ := rm_dim hR (by rw [hd]; exact fun h => by cases h)
  cases hd.symm.trans g1
  have key : ∀ r, ¬ upd (mx_rw x) i (-1) r = -1 → r ≠ i ∧ upd (mx_rw x) i (-1) r = mx_rw x r := by
    intro r h
    by_cases hri : r = i
    · subst hri; exact absurd pk_us h
    · exact ⟨hri, pk_un hri⟩
  refine ⟨hR.1, Or.inr ⟨e0, n, m, g1, g2, g3, g4, g5, fun r hr => ?_, fun r hr h => ?_, fun r r' hr hr' h1 h2 => ?_⟩⟩
  · show upd (mx_rw x) i (-1) r = -1 ↔ (if r = i then false else (aa_sh a).2.1 r) = false
    by_cases hri : r = i
    · subst hri
      rw [pk_us, if_pos rfl]; exact ⟨fun _ => rfl, fun _ => rfl⟩
    · rw [pk_un hri, if_neg hri]; exact g6 r hr
  · obtain ⟨h1, h2⟩ := key r h
    obtain ⟨z, k1, k2, k3⟩ := g7 r hr (fun e => h (h2.trans e))
    exact ⟨z, k1, h2.trans k2, k3⟩
  · obtain ⟨b1, b2⟩ := key r h1
    obtain ⟨b3, b4⟩ := key r' h2
    show (aa_sh a).2.2.2 r r' = true ↔ upd (mx_rw x) i (-1) r = upd (mx_rw x) i (-1) r'
    rw [b2, b4]
    exact g8 r r' hr hr' (fun e => h1 (b2.trans e)) (fun e => h2 (b4.trans e))
theorem rm_tearS (hR : rm_Q a x) {n m i k : Nat} (hd : (aa_sh a).1 = some (n, m)) (hk : k < n) : rm_Q (as_sh a (zf_tearS (aa_sh a) i k)) (mk_rw x (upd (mx_rw x) i (mx_rw x k))) := by
  obtain ⟨e0, n', m', g1, g2, g3, g4, g5, g6, g7, g8⟩ := rm_dim hR (by rw [hd]; exact fun h => by cases h)
  cases hd.symm.trans g1
  have key : ∀ r, upd (mx_rw x) i (mx_rw x k) r = mx_rw x (zf_rho i k r) := by
    intro r
    by_cases hri : r = i
    · subst hri; rw [pk_us, zf_rho, if_pos rfl]
    · rw [pk_un hri, zf_rho, if_neg hri]
  have lt : ∀ r, r < n → zf_rho i k r < n := by
    intro r hr
    unfold zf_rho
    by_cases hri : r = i
    · rw [if_pos hri]; exact hk
    · rw [if_neg hri]; exact hr
  refine ⟨hR.1, Or.inr ⟨e0, n, m, g1, g2, g3, g4, g5, fun r hr => ?_, fun r hr h => ?_, fun r r' hr hr' h1 h2 => ?_⟩⟩
  · show upd (mx_rw x) i (mx_rw x k) r = -1 ↔ _
    rw [key]; exact g6 _ (lt r hr)
  · have h : ¬ upd (mx_rw x) i (mx_rw x k) r = -1 := h
    rw [key] at h
    obtain ⟨z, k1, k2, k3⟩ := g7 _ (lt r hr) h
    exact ⟨z, k1, (key r).trans k2, k3⟩
  · have h1 : ¬ upd (mx_rw x) i (mx_rw x k) r = -1 := h1
    have h2 : ¬ upd (mx_rw x) i (mx_rw x k) r' = -1 := h2
    show (aa_sh a).2.2.2 (zf_rho i k r) (zf_rho i k r') = true ↔ upd (mx_rw x) i (mx_rw x k) r = upd (mx_rw x) i (mx_rw x k) r'
    rw [key] at h1 h2
    rw [key, key]
    exact g8 _ _ (lt r hr) (lt r' hr') h1 h2
theorem rm_sheet (hR : rm_Q a x) {n m : Nat} {rw ce : Nat → Int32} (hn : n ≤ 12) (hm : m ≤ 12) (hr : ∀ i, i < 12 → rw i = nI i) (hc : ∀ i, i < 144 → ce i = 0) : rm_Q (as_sh a (zf_sheetS n m)) (mk_ce (mk_rw (mk_cm (mk_rm (mk_hs x 1) (nI n)) (nI m)) rw) ce) := by
  refine ⟨hR.1, Or.inr ⟨rfl, n, m, rfl, hn, hm, rfl, rfl, fun i hi => ?_, fun i hi _ => ?_, fun i j hi hj _ _ => ?_⟩⟩
  · show rw i = -1 ↔ true = false
    rw [hr i (by omega)]
    exact ⟨fun h => absurd h (zn_m1 (by omega)), fun h => (by cases h)⟩
  · exact ⟨i, by omega, hr i (by omega), fun j hj => hc _ (by omega)⟩
  · show decide (i = j) = true ↔ rw i = rw j
    rw [hr i (by omega), hr j (by omega), nI_eq (by omega) (by omega), decide_eq_true_iff]
end ZPN
def zp_m (mo m1 m2 m3 m4 m5 m6 m7 m8 m9 : Nat) (cI : ClassId) (q : Int32 × ax_A) (r : Int32) (w' : va_W) : Prop := ∃ x', r = q.1 ∧ w' = mw_W mo m1 m2 m3 m4 m5 m6 m7 m8 m9 cI q.2 x' ∧ rm_R q.2 x'
theorem zq_mw {mo m1 m2 m3 m4 m5 m6 m7 m8 m9 : Nat} {cI : ClassId} {q : Int32 × ax_A} {r : Int32} {a' : ax_A} {x' : mx_X} {w' : va_W} (e : q = (r, a')) (hR : rm_R a' x') (hw : w' = mw_W mo m1 m2 m3 m4 m5 m6 m7 m8 m9 cI a' x') : zp_m mo m1 m2 m3 m4 m5 m6 m7 m8 m9 cI q r w' := by
  subst e
  exact ⟨x', rfl, hw, hR⟩
theorem zq_mk {mo m1 m2 m3 m4 m5 m6 m7 m8 m9 : Nat} {cI : ClassId} {q : Int32 × ax_A} {r : Int32} {a' : ax_A} {x' : mx_X} (e : q = (r, a')) (hR : rm_R a' x') : zp_m mo m1 m2 m3 m4 m5 m6 m7 m8 m9 cI q r (mw_W mo m1 m2 m3 m4 m5 m6 m7 m8 m9 cI a' x') := zq_mw e hR rfl
