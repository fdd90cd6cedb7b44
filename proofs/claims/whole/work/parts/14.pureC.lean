/-! ===== the class's relation: what an operation does to it ===== -/
theorem zf_why_none {st : ax_ST} {k : Nat} {i : Int32} (h : st.1 k = none) : zf_why st k i = 2 := by
  unfold zf_why; rw [h]
theorem zf_why_some {st : ax_ST} {k n : Nat} {i : Int32} (h : st.1 k = some n) : zf_why st k i = if 0 ≤ i ∧ i < nI n then 0 else 3 := by
  unfold zf_why; rw [h]
theorem zf_why_in {st : ax_ST} {k : Nat} {i : Int32} (h : zf_why st k i = 0) : ∃ n, st.1 k = some n ∧ 0 ≤ i ∧ i < nI n := by
  cases e : st.1 k with
  | none => rw [zf_why_none e] at h; exact absurd h (by decide)
  | some n =>
    rw [zf_why_some e] at h
    by_cases hc : 0 ≤ i ∧ i < nI n
    · exact ⟨n, rfl, hc⟩
    · rw [if_neg hc] at h; exact absurd h (by decide)
theorem zn_lt {i : Int32} {n : Nat} (hn : n < 2 ^ 31) (h : 0 ≤ i ∧ i < nI n) : ∃ j : Nat, j < n ∧ i = nI j := zn_of (n := n) (nI_toInt hn) h
theorem ze_i_inj {c c' : ClassId} {n n' : Nat} {z z' : Nat → Int32} (h : ze_i c n z = ze_i c' n' z') : n = n' ∧ z = z' := by
  injection h with h1
  injection h1 with h2 h3
  injection h3 with h4 h5
  injection h5 with h6
  exact ⟨h4, h6⟩
section ZPC
variable {cI cII : ClassId} {a : ax_A} {x : cx_X}
theorem rc_why0 (hR : rc_Q cI cII a x) {k : Nat} {i : Int32} (hk : k < 24) (h : zf_why (aa_st a) k i = 0) : ∃ (q n : Nat) (z : Nat → Int32) (j : Nat), cx_f x k = some q ∧ q ∈ cx_L x ∧ cx_ent x q = ze_i cI n z ∧ n ≤ 24 ∧ (aa_st a).1 k = some n ∧ j < n ∧ i = nI j ∧ z j = zf_val (aa_st a) k i := by
  obtain ⟨n, h1, h2⟩ := zf_why_in h
  cases e : cx_f x k with
  | none => rw [(hR.1.1 k hk).mp e] at h1; cases h1
  | some q =>
    obtain ⟨g1, n', z, g2, g3, g4, g5⟩ := hR.1.2.1 k q hk e
    cases h1.symm.trans g4
    obtain ⟨j, hj, rfl⟩ := zn_lt (by omega) h2
    refine ⟨q, n, z, j, rfl, g1, g2, g3, h1, hj, rfl, ?_⟩
    rw [g5 j hj, zf_val, nI_clamp (by omega)]
theorem rc_len (hR : rc_Q cI cII a x) {k q : Nat} (hk : k < 24) (h : cx_f x k = some q) : ∃ (n : Nat) (z : Nat → Int32), q ∈ cx_L x ∧ cx_ent x q = ze_i cI n z ∧ n ≤ 24 ∧ (aa_st a).1 k = some n := by
  obtain ⟨g1, n, z, g2, g3, g4, -⟩ := hR.1.2.1 k q hk h
  exact ⟨n, z, g1, g2, g3, g4⟩
theorem rc_none (hR : rc_Q cI cII a x) {k : Nat} (hk : k < 24) (h : cx_f x k = none) : (aa_st a).1 k = none := (hR.1.1 k hk).mp h
/-- only counts, the STATUS and what was found have changed -/
theorem rc_Q.keep (hR : rc_Q cI cII a x) {a' : ax_A} {x' : cx_X} (h1 : aa_st a' = aa_st a) (h2 : aa_sh a' = aa_sh a) (h4 : cx_f x' = cx_f x) (h6 : cx_rw x' = cx_rw x) (h7 : cx_L x' = cx_L x) (h8 : cx_ent x' = cx_ent x) : rc_Q cI cII a' x' := by
  unfold rc_Q
  rw [h1, h2, h4, h6, h7, h8]
  exact hR
theorem rc_put (hR : rc_Q cI cII a x) {k q n j : Nat} {z : Nat → Int32} (hk : k < 24) (hf : cx_f x k = some q) (he : cx_ent x q = ze_i cI n z) (hj : j < n) (hn : n ≤ 24) (v : Int32) : rc_Q cI cII (zf_set a k (nI j) v) (ck_ent x (va_up (cx_ent x) q (ze_i cI n (upd z j v)))) := by
  obtain ⟨⟨s1, s2, s3⟩, ⟨t1, t2⟩⟩ := hR
  have hjj : (nI j).toNatClampNeg = j := nI_clamp (by omega)
  refine ⟨⟨s1, fun k' q' hk' hf' => ?_, s3⟩, ⟨t1, fun qr hqr => ?_⟩⟩
  · obtain ⟨g1, n', z', g2, g3, g4, g5⟩ := s2 k' q' hk' hf'
    refine ⟨g1, ?_⟩
    have hsame : (aa_st a).2.2 k k' = true ↔ cx_f x k = cx_f x k' := s3 k k' hk hk' (by rw [hf]; exact fun h => by cases h) (by rw [hf']; exact fun h => by cases h)
    by_cases hqq : q' = q
    · subst hqq
      obtain ⟨rfl, rfl⟩ := ze_i_inj (he.symm.trans g2)
      refine ⟨n, upd z j v, va_up_self _ _ _, g3, g4, fun i hi => ?_⟩
      have hs : (aa_st a).2.2 k k' = true := hsame.mpr (hf.trans hf'.symm)
      show upd z j v i = if (aa_st a).2.2 k k' = true ∧ i = (nI j).toNatClampNeg then v else (aa_st a).2.1 k' i
      rw [hjj]
      by_cases hij : i = j
      · subst hij
        rw [pk_us, if_pos ⟨hs, rfl⟩]
      · rw [pk_un hij, if_neg (fun h => hij h.2), g5 i hi]
    · refine ⟨n', z', (va_up_ne _ _ hqq).trans g2, g3, g4, fun i hi => ?_⟩
      show z' i = if (aa_st a).2.2 k k' = true ∧ i = (nI j).toNatClampNeg then v else (aa_st a).2.1 k' i
      rw [if_neg, g5 i hi]
      intro h
      have := hsame.mp h.1
      rw [hf, hf'] at this
      exact hqq (Option.some.inj this).symm
  · obtain ⟨g1, n', m, h, g2, g3, g4, g5, g6, g7, g8⟩ := t2 qr hqr
    have hne : qr ≠ q := fun e => by rw [e, he] at g5; cases g5
    refine ⟨g1, n', m, h, g2, g3, g4, (va_up_ne _ _ hne).trans g5, g6, fun i y hi hy => ?_, g8⟩
    obtain ⟨k1, ⟨z1, k2, k3⟩, k4⟩ := g7 i y hi hy
    have hyq : y ≠ q := fun e => k4 k hk (by rw [hf, e])
    exact ⟨k1, ⟨z1, (va_up_ne _ _ hyq).trans k2, k3⟩, k4⟩
theorem rc_hang (hR : rc_Q cI cII a x) {k q n : Nat} (hk : k < 24) (hq : q ∉ cx_L x) (hn : n ≤ 24) : rc_Q cI cII (as_st a (zf_hangS (aa_st a) k n)) (cx_run x, cx_fnd x, va_up (cx_f x) k (some q), cx_g x, cx_rw x, cx_L x ++ [q], va_up (cx_ent x) q (ze_i cI n (fun _ => 0))) := by
  obtain ⟨⟨s1, s2, s3⟩, ⟨t1, t2⟩⟩ := hR
  have old : ∀ y, y ∈ cx_L x → y ≠ q := fun y hy e => hq (e ▸ hy)
  have inL : ∀ y, y ∈ cx_L x → y ∈ cx_L x ++ [q] := fun y hy => List.mem_append_left _ hy
  have fnq : ∀ j, j < 24 → ¬ cx_f x j = some q := fun j hj h => hq (s2 j q hj h).1
  refine ⟨⟨fun j hj => ?_, fun k' q' hk' hf' => ?_, fun i j hi hj hfi hfj => ?_⟩, ⟨t1, fun qr hqr => ?_⟩⟩
  · show va_up (cx_f x) k (some q) j = none ↔ (if j = k then some n else (aa_st a).1 j) = none
    by_cases hjk : j = k
    · subst hjk
      rw [va_up_self, if_pos rfl]
      exact ⟨fun h => (by cases h), fun h => (by cases h)⟩
    · rw [va_up_ne _ _ hjk, if_neg hjk]
      exact s1 j hj
  · by_cases hjk : k' = k
    · subst hjk
      have : q' = q := by
        have h2 : va_up (cx_f x) k' (some q) k' = some q' := hf'
        rw [va_up_self] at h2
        exact (Option.some.inj h2).symm
      subst this
      refine ⟨List.mem_append_right _ (List.mem_singleton.mpr rfl), n, fun _ => 0, va_up_self _ _ _, hn, ?_, fun i hi => ?_⟩
      · show (if k' = k' then some n else (aa_st a).1 k') = some n
        rw [if_pos rfl]
      · show (0 : Int32) = if k' = k' then 0 else (aa_st a).2.1 k' i
        rw [if_pos rfl]
    · have h2 : cx_f x k' = some q' := (va_up_ne _ _ hjk).symm.trans hf'
      obtain ⟨g1, n', z', g2, g3, g4, g5⟩ := s2 k' q' hk' h2
      refine ⟨inL _ g1, n', z', (va_up_ne _ _ (old _ g1)).trans g2, g3, ?_, fun i hi => ?_⟩
      · show (if k' = k then some n else (aa_st a).1 k') = some n'
        rw [if_neg hjk]; exact g4
      · show z' i = if k' = k then 0 else (aa_st a).2.1 k' i
        rw [if_neg hjk]; exact g5 i hi
  · show (if i = k ∨ j = k then decide (i = j) else (aa_st a).2.2 i j) = true ↔ va_up (cx_f x) k (some q) i = va_up (cx_f x) k (some q) j
    by_cases hik : i = k <;> by_cases hjk : j = k
    · subst hik; subst hjk
      simp
    · subst hik
      rw [if_pos (Or.inl rfl), va_up_self, va_up_ne _ _ hjk, decide_eq_true_iff]
      exact ⟨fun h => absurd h.symm hjk, fun h => absurd h.symm (fnq j hj)⟩
    · subst hjk
      rw [if_pos (Or.inr rfl), va_up_self, va_up_ne _ _ hik, decide_eq_true_iff]
      exact ⟨fun h => absurd h hik, fun h => absurd h (fnq i hi)⟩
    · rw [if_neg (by rintro (h | h); exact hik h; exact hjk h), va_up_ne _ _ hik, va_up_ne _ _ hjk]
      exact s3 i j hi hj (fun h => hfi ((va_up_ne _ _ hik).trans h)) (fun h => hfj ((va_up_ne _ _ hjk).trans h))
  · obtain ⟨g1, n', m, h, g2, g3, g4, g5, g6, g7, g8⟩ := t2 qr hqr
    refine ⟨inL _ g1, n', m, h, g2, g3, g4, (va_up_ne _ _ (old _ g1)).trans g5, g6, fun i y hi hy => ?_, g8⟩
    obtain ⟨k1, ⟨z1, k2, k3⟩, k4⟩ := g7 i y hi hy
    refine ⟨inL _ k1, ⟨z1, (va_up_ne _ _ (old _ k1)).trans k2, k3⟩, fun j hj hfj => ?_⟩
    have hfj : va_up (cx_f x) k (some q) j = some y := hfj
    by_cases hjk : j = k
    · subst hjk
      rw [va_up_self] at hfj
      exact old _ k1 (Option.some.inj hfj).symm
    · rw [va_up_ne _ _ hjk] at hfj
      exact k4 j hj hfj
theorem rc_strike (hR : rc_Q cI cII a x) {k : Nat} : rc_Q cI cII (as_st a (zf_strikeS (aa_st a) k)) (ck_f x (va_up (cx_f x) k none)) := by
  obtain ⟨⟨s1, s2, s3⟩, ⟨t1, t2⟩⟩ := hR
  have key : ∀ j q, va_up (cx_f x) k none j = some q → j ≠ k ∧ cx_f x j = some q := by
    intro j q h
    by_cases hjk : j = k
    · subst hjk
      rw [va_up_self] at h
      cases h
    · exact ⟨hjk, (va_up_ne _ _ hjk).symm.trans h⟩
  have key2 : ∀ j, ¬ va_up (cx_f x) k none j = none → j ≠ k ∧ va_up (cx_f x) k none j = cx_f x j := by
    intro j h
    by_cases hjk : j = k
    · subst hjk
      exact absurd (va_up_self _ _ _) h
    · exact ⟨hjk, va_up_ne _ _ hjk⟩
  refine ⟨⟨fun j hj => ?_, fun k' q' hk' hf' => ?_, fun i j hi hj hfi hfj => ?_⟩, ⟨t1, fun qr hqr => ?_⟩⟩
  · show va_up (cx_f x) k none j = none ↔ (if j = k then none else (aa_st a).1 j) = none
    by_cases hjk : j = k
    · subst hjk
      rw [va_up_self, if_pos rfl]
    · rw [va_up_ne _ _ hjk, if_neg hjk]
      exact s1 j hj
  · obtain ⟨h1, h2⟩ := key k' q' hf'
    obtain ⟨g1, n', z', g2, g3, g4, g5⟩ := s2 k' q' hk' h2
    refine ⟨g1, n', z', g2, g3, ?_, g5⟩
    show (if k' = k then none else (aa_st a).1 k') = some n'
    rw [if_neg h1]; exact g4
  · obtain ⟨h1, h2⟩ := key2 i hfi
    obtain ⟨h3, h4⟩ := key2 j hfj
    show (aa_st a).2.2 i j = true ↔ va_up (cx_f x) k none i = va_up (cx_f x) k none j
    rw [h2, h4]
    exact s3 i j hi hj (fun h => hfi (h2.trans h)) (fun h => hfj (h4.trans h))
  · obtain ⟨g1, n', m, h, g2, g3, g4, g5, g6, g7, g8⟩ := t2 qr hqr
    refine ⟨g1, n', m, h, g2, g3, g4, g5, g6, fun i y hi hy => ?_, g8⟩
    obtain ⟨k1, k2, k4⟩ := g7 i y hi hy
    exact ⟨k1, k2, fun j hj hfj => k4 j hj (key j y hfj).2⟩
theorem rc_share (hR : rc_Q cI cII a x) {k k0 : Nat} (hk0 : k0 < 24) : rc_Q cI cII (as_st a (zf_shareS (aa_st a) k k0)) (ck_f x (va_up (cx_f x) k (cx_f x k0))) := by
  obtain ⟨⟨s1, s2, s3⟩, ⟨t1, t2⟩⟩ := hR
  have key : ∀ j, va_up (cx_f x) k (cx_f x k0) j = cx_f x (zf_rho k k0 j) := by
    intro j
    by_cases hjk : j = k
    · subst hjk
      rw [va_up_self, zf_rho, if_pos rfl]
    · rw [va_up_ne _ _ hjk, zf_rho, if_neg hjk]
  have lt : ∀ j, j < 24 → zf_rho k k0 j < 24 := by
    intro j hj
    unfold zf_rho
    by_cases hjk : j = k
    · rw [if_pos hjk]; exact hk0
    · rw [if_neg hjk]; exact hj
  refine ⟨⟨fun j hj => ?_, fun k' q' hk' hf' => ?_, fun i j hi hj hfi hfj => ?_⟩, ⟨t1, fun qr hqr => ?_⟩⟩
  · show va_up (cx_f x) k (cx_f x k0) j = none ↔ (aa_st a).1 (zf_rho k k0 j) = none
    rw [key]
    exact s1 _ (lt j hj)
  · have hf' : va_up (cx_f x) k (cx_f x k0) k' = some q' := hf'
    rw [key] at hf'
    exact s2 _ q' (lt k' hk') hf'
  · have hfi : ¬ va_up (cx_f x) k (cx_f x k0) i = none := hfi
    have hfj : ¬ va_up (cx_f x) k (cx_f x k0) j = none := hfj
    show (aa_st a).2.2 (zf_rho k k0 i) (zf_rho k k0 j) = true ↔ va_up (cx_f x) k (cx_f x k0) i = va_up (cx_f x) k (cx_f x k0) j
    rw [key] at hfi hfj
    rw [key, key]
    exact s3 _ _ (lt i hi) (lt j hj) hfi hfj
  · obtain ⟨g1, n', m, h, g2, g3, g4, g5, g6, g7, g8⟩ := t2 qr hqr
    refine ⟨g1, n', m, h, g2, g3, g4, g5, g6, fun i y hi hy => ?_, g8⟩
    obtain ⟨k1, k2, k4⟩ := g7 i y hi hy
    refine ⟨k1, k2, fun j hj hfj => ?_⟩
    have hfj : va_up (cx_f x) k (cx_f x k0) j = some y := hfj
    rw [key] at hfj
    exact k4 _ (lt j hj) hfj
theorem rc_F.keep {fd : ax_FD} {g : Nat → Option Nat} {off : Nat} {x' : cx_X} (h : rc_F fd g (cx_L x) (cx_ent x) off) (hk : cx_K x x') : rc_F fd g (cx_L x') (cx_ent x') off := by
  intro j q hj
  obtain ⟨b1, y, b2, b3, b4⟩ := h j q hj
  exact ⟨b1, y, b2, hk.2.2.1 y b3, hk.2.2.2 y _ b3 b4⟩
theorem cx_K.rf : cx_K x x := ⟨rfl, rfl, fun _ h => h, fun _ _ _ h => h⟩
theorem cx_K.tr {x' x'' : cx_X} (h : cx_K x x') (h' : cx_K x' x'') : cx_K x x'' := ⟨h'.1.trans h.1, h'.2.1.trans h.2.1, fun y hy => h'.2.2.1 y (h.2.2.1 y hy), fun y q hy e => h'.2.2.2 y q (h.2.2.1 y hy) (h.2.2.2 y q hy e)⟩
theorem cx_K.fnd {x' : cx_X} (h : cx_K x x') (v : Int32) : cx_K x (ck_fnd x' v) := h
theorem cx_K.put {q : Nat} {e : va_E} {e0 : ClassId × vp_A} (he : cx_ent x q = .inl e0) : cx_K x (ck_ent x (va_up (cx_ent x) q e)) := ⟨rfl, rfl, fun _ h => h, fun y o _ h => by
  have hne : y ≠ q := fun h2 => by rw [h2, he] at h; cases h
  exact (va_up_ne _ _ hne).trans h⟩
theorem cx_K.new {q : Nat} {e : va_E} {f : Nat → Option Nat} {rw : Option Nat} (hq : q ∉ cx_L x) : cx_K x (cx_run x, cx_fnd x, f, cx_g x, rw, cx_L x ++ [q], va_up (cx_ent x) q e) := ⟨rfl, rfl, fun _ h => List.mem_append_left _ h, fun y o hy h => by
  have hne : y ≠ q := fun h2 => hq (h2 ▸ hy)
  exact (va_up_ne _ _ hne).trans h⟩
/-- the relation behind a call that leaves the fades as they are -/
theorem rc_R.of {a' : ax_A} {x' : cx_X} (hR : rc_R cI cII a x) (hQ : rc_Q cI cII a' x') (hk : cx_K x x') (hf : aa_fd a' = aa_fd a) : rc_R cI cII a' x' := by
  refine ⟨hQ, ?_, ?_, ?_⟩
  · rw [hf, hk.2.1]; exact hR.2.1.keep hk
  · rw [hf, hk.1]; exact hR.2.2.1
  · rw [hf]; exact hR.2.2.2
end ZPC
section ZPW
variable {A : Nat → Prop} {o rk sp pp fp : Nat} {cII cF : ClassId} {a : ax_A} {x : cx_X}
theorem cw_get {q : Nat} {E : va_E} (hq : q ∈ cx_L x) (he : cx_ent x q = E) : ∃ k : Nat, (cw_W o rk sp pp fp cII cF a x)[k]? = some (q, E) := by
  subst he
  exact va_pl_get (X := cw_X o rk sp pp fp cII cF a x) hq
theorem cw_set {q k : Nat} {E E' : va_E} (hq : q ∈ cx_L x) (he : cx_ent x q = E) (hk : (cw_W o rk sp pp fp cII cF a x)[k]? = some (q, E)) (hD : va_D A (cw_W o rk sp pp fp cII cF a x)) : (cw_W o rk sp pp fp cII cF a x).set k (q, E') = cw_W o rk sp pp fp cII cF a (ck_ent x (va_up (cx_ent x) q E')) := by
  subst he
  exact va_pl_set (X := cw_X o rk sp pp fp cII cF a x) hD hq hk
theorem cw_push {q : Nat} {E : va_E} (hD : va_D A (cw_W o rk sp pp fp cII cF a x ++ [(q, E)])) : q ∉ cx_L x ∧ cw_W o rk sp pp fp cII cF a x ++ [(q, E)] = cw_W o rk sp pp fp cII cF a (ck_ent (ck_L x (cx_L x ++ [q])) (va_up (cx_ent x) q E)) := by
  have hq : q ∉ cx_L x := va_pl_fresh2 (X := cw_X o rk sp pp fp cII cF a x) hD
  refine ⟨hq, ?_⟩
  show (cw_X o rk sp pp fp cII cF a x ++ va_pl (cx_L x) (cx_ent x)) ++ [(q, E)] = cw_X o rk sp pp fp cII cF a x ++ va_pl (cx_L x ++ [q]) (va_up (cx_ent x) q E)
  rw [List.append_assoc, va_pl_push hq]
end ZPW
section ZGD
variable {p : Program} {l : Launch} {e : Env} {R : Room} {s : State} {m : MethodId} {args : Array Value} {below : List Frame} {meth : Method} {c : Code} {A : Nat → Prop} {D : va_G} {tys : List (ClassId × FieldType)} {nL : Nat} {Q : State → Prop} {cc : ByteArray} {own : String} {pc : Nat} {lv : List (Nat × Value)} {st : List Value} {w : va_W} {cells slots : Nat}
/-- what is said of the world's cells may use that they are apart -/
theorem zr_apart (kk : va_D A w → zz_Z p l e R s m args below meth c A D nL Q pc lv st w cells slots) : zz_Z p l e R s m args below meth c A D nL Q pc lv st w cells slots :=
  fun ls H locs hl hP hD hS => kk hD ls H locs hl hP hD hS
end ZGD
