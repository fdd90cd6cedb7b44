/-! ===== fades; cells at the end of a world ===== -/
theorem zl_last (w : va_W) (z : Nat × va_E) : (w ++ [z])[w.length]? = some z := by simp
theorem zl_setlast (w : va_W) (z z' : Nat × va_E) : (w ++ [z]).set w.length z' = w ++ [z'] := by simp
theorem zf_num2 (v : Int32) : zf_num 2 v = zf_lev v := by
  unfold zf_num
  rw [if_neg (by decide), if_neg (by decide), if_pos rfl]
section ZPT
variable {cI cII : ClassId} {a : ax_A} {x : cx_X}
theorem rc_Q.grow (hR : rc_Q cI cII a x) {q : Nat} (e : va_E) (hq : q ∉ cx_L x) : rc_Q cI cII a (ck_ent (ck_L x (cx_L x ++ [q])) (va_up (cx_ent x) q e)) := by
  obtain ⟨⟨s1, s2, s3⟩, ⟨t1, t2⟩⟩ := hR
  have old : ∀ y, y ∈ cx_L x → y ≠ q := fun y hy h => hq (h ▸ hy)
  have inL : ∀ y, y ∈ cx_L x → y ∈ cx_L x ++ [q] := fun y hy => List.mem_append_left _ hy
  refine ⟨⟨s1, fun k' q' hk' hf' => ?_, s3⟩, ⟨t1, fun qr hqr => ?_⟩⟩
  · obtain ⟨g1, n', z', g2, g3, g4, g5⟩ := s2 k' q' hk' hf'
    exact ⟨inL _ g1, n', z', (va_up_ne _ _ (old _ g1)).trans g2, g3, g4, g5⟩
  · obtain ⟨g1, n', m, h, g2, g3, g4, g5, g6, g7, g8⟩ := t2 qr hqr
    refine ⟨inL _ g1, n', m, h, g2, g3, g4, (va_up_ne _ _ (old _ g1)).trans g5, g6, fun i y hi hy => ?_, g8⟩
    obtain ⟨k1, ⟨z1, k2, k3⟩, k4⟩ := g7 i y hi hy
    exact ⟨inL _ k1, ⟨z1, (va_up_ne _ _ (old _ k1)).trans k2, k3⟩, k4⟩
theorem rc_F_tail {q : Int32 × Int32 × Int32 × Int32} {rest : ax_FD} {g : Nat → Option Nat} {L : List Nat} {ent : Nat → va_E} {off : Nat} (h : rc_F (q :: rest) g L ent off) : rc_F rest g L ent (off + 1) := by
  intro j q' hj
  obtain ⟨b1, y, b2, b3⟩ := h (j + 1) q' (by rw [List.getElem?_cons_succ]; exact hj)
  exact ⟨b1, y, by rw [show off + 1 + j = off + (j + 1) by omega]; exact b2, b3⟩
theorem rc_F_head {q : Int32 × Int32 × Int32 × Int32} {rest : ax_FD} {g : Nat → Option Nat} {L : List Nat} {ent : Nat → va_E} {off : Nat} (h : rc_F (q :: rest) g L ent off) : zk_b q.1 ∧ ∃ y, g off = some y ∧ y ∈ L ∧ ent y = .inr (0, [.int q.1, .int q.2.1, .int q.2.2.1, .int q.2.2.2]) := h 0 q rfl
theorem rc_F_nil {g : Nat → Option Nat} {L : List Nat} {ent : Nat → va_E} {off : Nat} : rc_F [] g L ent off := fun j q h => by simp at h
theorem rc_F_snoc {q : Int32 × Int32 × Int32 × Int32} {fd : ax_FD} {g : Nat → Option Nat} {L : List Nat} {ent : Nat → va_E} {y : Nat} (h : rc_F fd g L ent 0) (hb : zk_b q.1) (hy : y ∈ L) (he : ent y = .inr (0, [.int q.1, .int q.2.1, .int q.2.2.1, .int q.2.2.2])) : rc_F (fd ++ [q]) (va_up g fd.length (some y)) L ent 0 := by
  intro j q' hj
  by_cases hl : j < fd.length
  · rw [List.getElem?_append_left hl] at hj
    obtain ⟨b1, y', b2, b3⟩ := h j q' hj
    refine ⟨b1, y', ?_, b3⟩
    rw [va_up_ne _ _ (by omega)]; exact b2
  · rw [List.getElem?_append_right (by omega)] at hj
    have hz : j - fd.length < 1 := (List.getElem?_eq_some_iff.mp hj).1
    have hj0 : j = fd.length := by omega
    subst hj0
    rw [Nat.sub_self] at hj
    cases hj
    exact ⟨hb, y, by rw [Nat.zero_add, va_up_self], hy, he⟩
theorem rc_F_up {fd : ax_FD} {g : Nat → Option Nat} {L : List Nat} {ent : Nat → va_E} {off k : Nat} {v : Option Nat} (h : rc_F fd g L ent off) (hk : k < off) : rc_F fd (va_up g k v) L ent off := by
  intro j q hj
  obtain ⟨b1, y, b2, b3⟩ := h j q hj
  exact ⟨b1, y, by rw [va_up_ne _ _ (by omega)]; exact b2, b3⟩
theorem rc_fade (hR : rc_R cI cII a x) {q : Nat} {b i t s : Int32} (hq : q ∉ cx_L x) (hb : zk_b b) (hl : (aa_fd a).length < 16) {run : Int32} (hrun : run = nI ((aa_fd a).length + 1)) (fn : Int32) : rc_R cI cII (as_fd a (aa_fd a ++ [(b, i, t, s)])) (run, fn, cx_f x, va_up (cx_g x) (aa_fd a).length (some q), cx_rw x, cx_L x ++ [q], va_up (cx_ent x) q (.inr (0, [.int b, .int i, .int t, .int s]))) := by
  have hk : cx_K x (ck_ent (ck_L x (cx_L x ++ [q])) (va_up (cx_ent x) q (.inr (0, [.int b, .int i, .int t, .int s])))) := cx_K.new hq
  refine ⟨hR.1.grow _ hq, ?_, ?_, ?_⟩
  · have h1 := hR.2.1.keep hk
    exact rc_F_snoc (q := (b, i, t, s)) h1 hb (List.mem_append_right _ (List.mem_singleton.mpr rfl)) (va_up_self _ _ _)
  · show run = nI (aa_fd a ++ [(b, i, t, s)]).length
    rw [hrun, List.length_append]; rfl
  · show (aa_fd a ++ [(b, i, t, s)]).length ≤ 16
    rw [List.length_append]
    exact hl
end ZPT
