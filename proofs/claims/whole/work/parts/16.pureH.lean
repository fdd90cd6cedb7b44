/-! ===== the class's relation: the sheet ===== -/
section ZRF
variable {p : Program} {l : Launch} {e : Env} {R : Room} {s : State} {m : MethodId} {args : Array Value} {below : List Frame} {meth : Method} {c : Code} {A : Nat → Prop} {D : va_G} {nL : Nat} {Q : State → Prop} {pc : Nat} {lv : List (Nat × Value)} {st : List Value} {w : va_W} {cells slots : Nat}
theorem zr_rfs {r : Option Nat} {q : Nat} (h : r = some q) (kk : zz_Z p l e R s m args below meth c A D nL Q pc lv (.ref q :: st) w cells slots) : zz_Z p l e R s m args below meth c A D nL Q pc lv (va_rf r :: st) w cells slots := by
  subst h; exact kk
theorem zr_rfn {r : Option Nat} (h : r = none) (kk : zz_Z p l e R s m args below meth c A D nL Q pc lv (.null :: st) w cells slots) : zz_Z p l e R s m args below meth c A D nL Q pc lv (va_rf r :: st) w cells slots := by
  subst h; exact kk
end ZRF
theorem zf_whyC_none {sh : ax_SH} {i j : Int32} (h : sh.1 = none) : zf_whyC sh i j = 2 := by
  unfold zf_whyC; rw [h]
theorem zf_whyC_some {sh : ax_SH} {n m : Nat} {i j : Int32} (h : sh.1 = some (n, m)) : zf_whyC sh i j = if 0 ≤ i ∧ i < nI n then (if sh.2.1 i.toNatClampNeg = true then (if 0 ≤ j ∧ j < nI m then 0 else 3) else 2) else 3 := by
  unfold zf_whyC; rw [h]
theorem zf_rows_none {sh : ax_SH} (h : sh.1 = none) : zf_rows sh = 0 := by
  unfold zf_rows; rw [h]
theorem zf_rows_some {sh : ax_SH} {n m : Nat} (h : sh.1 = some (n, m)) : zf_rows sh = nI n := by
  unfold zf_rows; rw [h]
theorem zf_whyC_in {sh : ax_SH} {i j : Int32} (h : zf_whyC sh i j = 0) : ∃ n m, sh.1 = some (n, m) ∧ (0 ≤ i ∧ i < nI n) ∧ sh.2.1 i.toNatClampNeg = true ∧ (0 ≤ j ∧ j < nI m) := by
  cases e : sh.1 with
  | none => rw [zf_whyC_none e] at h; exact absurd h (by decide)
  | some d =>
    obtain ⟨n, m⟩ := d
    rw [zf_whyC_some e] at h
    by_cases h1 : 0 ≤ i ∧ i < nI n
    · rw [if_pos h1] at h
      by_cases h2 : sh.2.1 i.toNatClampNeg = true
      · rw [if_pos h2] at h
        by_cases h3 : 0 ≤ j ∧ j < nI m
        · exact ⟨n, m, rfl, h1, h2, h3⟩
        · rw [if_neg h3] at h; exact absurd h (by decide)
      · rw [if_neg h2] at h; exact absurd h (by decide)
    · rw [if_neg h1] at h; exact absurd h (by decide)
theorem ze_q_inj {c c' : ClassId} {n n' : Nat} {z z' : Nat → Option Nat} (h : ze_q c n z = ze_q c' n' z') : n = n' ∧ z = z' := by
  injection h with h1
  injection h1 with h2 h3
  injection h3 with h4 h5
  injection h5 with h6
  injection h6 with h7
  injection h7 with h8
  injection h8 with h9
  exact ⟨h4, h9⟩
section ZPH
variable {cI cII : ClassId} {a : ax_A} {x : cx_X}
theorem rc_cell0 (hR : rc_Q cI cII a x) {i j : Int32} (h : zf_whyC (aa_sh a) i j = 0) : ∃ (q n m : Nat) (hh : Nat → Option Nat) (y : Nat) (z : Nat → Int32) (ii jj : Nat), cx_rw x = some q ∧ q ∈ cx_L x ∧ cx_ent x q = ze_q cII n hh ∧ n ≤ 12 ∧ ii < n ∧ i = nI ii ∧ hh ii = some y ∧ y ∈ cx_L x ∧ cx_ent x y = ze_i cI m z ∧ m ≤ 12 ∧ jj < m ∧ j = nI jj ∧ z jj = zf_cell (aa_sh a) i j := by
  obtain ⟨n, m, h1, h2, h3, h4⟩ := zf_whyC_in h
  cases e : cx_rw x with
  | none => rw [hR.2.1.mp e] at h1; cases h1
  | some q =>
    obtain ⟨g1, n', m', hh, g2, g3, g4, g5, g6, g7, g8⟩ := hR.2.2 q e
    cases h1.symm.trans g2
    obtain ⟨ii, hii, rfl⟩ := zn_lt (by omega) h2
    obtain ⟨jj, hjj, rfl⟩ := zn_lt (by omega) h4
    have e1 : (nI ii).toNatClampNeg = ii := nI_clamp (by omega)
    have e2 : (nI jj).toNatClampNeg = jj := nI_clamp (by omega)
    rw [e1] at h3
    cases ey : hh ii with
    | none => rw [(g6 ii hii).mp ey] at h3; cases h3
    | some y =>
      obtain ⟨k1, ⟨z, k2, k3⟩, -⟩ := g7 ii y hii ey
      refine ⟨q, n, m, hh, y, z, ii, jj, rfl, g1, g5, g3, hii, rfl, ey, k1, k2, g4, hjj, rfl, ?_⟩
      rw [k3 jj hjj, zf_cell, e1, e2]
theorem rc_write (hR : rc_Q cI cII a x) {q n m y ii jj : Nat} {hh : Nat → Option Nat} {z : Nat → Int32} (e1 : cx_rw x = some q) (e2 : cx_ent x q = ze_q cII n hh) (hn : n ≤ 12) (hii : ii < n) (ey : hh ii = some y) (e3 : cx_ent x y = ze_i cI m z) (hm : m ≤ 12) (hjj : jj < m) (v : Int32) : rc_Q cI cII (zf_wri a (nI ii) (nI jj) v) (ck_ent x (va_up (cx_ent x) y (ze_i cI m (upd z jj v)))) := by
  obtain ⟨⟨s1, s2, s3⟩, ⟨t1, t2⟩⟩ := hR
  have hi1 : (nI ii).toNatClampNeg = ii := nI_clamp (by omega)
  have hj1 : (nI jj).toNatClampNeg = jj := nI_clamp (by omega)
  obtain ⟨g1, n', m', h', g2, g3, g4, g5, g6, g7, g8⟩ := t2 q e1
  obtain ⟨rfl, rfl⟩ := ze_q_inj (g5.symm.trans e2)
  obtain ⟨w1, ⟨w2, w3, w4⟩, w5⟩ := g7 ii y hii ey
  obtain ⟨rfl, rfl⟩ := ze_i_inj (w3.symm.trans e3)
  refine ⟨⟨s1, fun k' q' hk' hf' => ?_, s3⟩, ⟨t1, fun qr hqr => ?_⟩⟩
  · obtain ⟨b1, n2, z2, b2, b3, b4, b5⟩ := s2 k' q' hk' hf'
    have hne : q' ≠ y := fun e => w5 k' hk' (by rw [hf', e])
    exact ⟨b1, n2, z2, (va_up_ne _ _ hne).trans b2, b3, b4, b5⟩
  · cases e1.symm.trans hqr
    have hne : q ≠ y := fun e => by rw [e, e3] at g5; cases g5
    refine ⟨g1, n', m', h', g2, g3, g4, (va_up_ne _ _ hne).trans g5, g6, fun i y' hi hy' => ?_, g8⟩
    obtain ⟨k1, ⟨z1, k2, k3⟩, k4⟩ := g7 i y' hi hy'
    have hs := g8 ii i hii hi (by rw [ey]; exact fun h => by cases h) (by rw [hy']; exact fun h => by cases h)
    refine ⟨k1, ?_, k4⟩
    by_cases hyy : y' = y
    · subst hyy
      obtain ⟨-, rfl⟩ := ze_i_inj (w3.symm.trans k2)
      refine ⟨upd w2 jj v, va_up_self _ _ _, fun j hj => ?_⟩
      have h2 : (aa_sh a).2.2.2 ii i = true := hs.mpr (ey.trans hy'.symm)
      show upd w2 jj v j = if (aa_sh a).2.2.2 (nI ii).toNatClampNeg i = true ∧ j = (nI jj).toNatClampNeg then v else (aa_sh a).2.2.1 i j
      rw [hi1, hj1]
      by_cases hjk : j = jj
      · subst hjk
        rw [pk_us, if_pos ⟨h2, rfl⟩]
      · rw [pk_un hjk, if_neg (fun h => hjk h.2), k3 j hj]
    · refine ⟨z1, (va_up_ne _ _ hyy).trans k2, fun j hj => ?_⟩
      show z1 j = if (aa_sh a).2.2.2 (nI ii).toNatClampNeg i = true ∧ j = (nI jj).toNatClampNeg then v else (aa_sh a).2.2.1 i j
      rw [hi1, if_neg, k3 j hj]
      intro h
      have := hs.mp h.1
      rw [ey, hy'] at this
      exact hyy (Option.some.inj this).symm
/-- the rows' array has changed at one place -/
theorem rc_tear (hR : rc_Q cI cII a x) {q n m i : Nat} {hh : Nat → Option Nat} {sh' : ax_SH} {v : Option Nat} (e1 : cx_rw x = some q) (e2 : cx_ent x q = ze_q cII n hh) (ed : (aa_sh a).1 = some (n, m)) (d1 : sh'.1 = some (n, m))
    (d2 : ∀ r, r < n → (va_up hh i v r = none ↔ sh'.2.1 r = false))
    (d3 : ∀ r y, r < n → va_up hh i v r = some y → ∃ r', r' < n ∧ hh r' = some y ∧ ∀ j, sh'.2.2.1 r j = (aa_sh a).2.2.1 r' j)
    (d4 : ∀ r r', r < n → r' < n → ¬ va_up hh i v r = none → ¬ va_up hh i v r' = none → (sh'.2.2.2 r r' = true ↔ va_up hh i v r = va_up hh i v r')) : rc_Q cI cII (as_sh a sh') (ck_ent x (va_up (cx_ent x) q (ze_q cII n (va_up hh i v)))) := by
  obtain ⟨⟨s1, s2, s3⟩, ⟨t1, t2⟩⟩ := hR
  obtain ⟨g1, n', m', h', g2, g3, g4, g5, g6, g7, g8⟩ := t2 q e1
  obtain ⟨rfl, rfl⟩ := ze_q_inj (g5.symm.trans e2)
  cases ed.symm.trans g2
  refine ⟨⟨s1, fun k' q' hk' hf' => ?_, s3⟩, ⟨?_, fun qr hqr => ?_⟩⟩
  · obtain ⟨b1, n2, z2, b2, b3, b4, b5⟩ := s2 k' q' hk' hf'
    have hne : q' ≠ q := fun e => by rw [e, e2] at b2; cases b2
    exact ⟨b1, n2, z2, (va_up_ne _ _ hne).trans b2, b3, b4, b5⟩
  · show cx_rw x = none ↔ sh'.1 = none
    rw [e1, d1]
    exact ⟨fun h => (by cases h), fun h => (by cases h)⟩
  · cases e1.symm.trans hqr
    refine ⟨g1, n', m, va_up h' i v, d1, g3, g4, va_up_self _ _ _, d2, fun r y hr hy => ?_, d4⟩
    obtain ⟨r', hr', hy', hv⟩ := d3 r y hr hy
    obtain ⟨k1, ⟨z1, k2, k3⟩, k4⟩ := g7 r' y hr' hy'
    have hne : y ≠ q := fun e => by rw [e, e2] at k2; cases k2
    exact ⟨k1, ⟨z1, (va_up_ne _ _ hne).trans k2, fun j hj => by rw [hv]; exact k3 j hj⟩, k4⟩
theorem rc_tear0 (hR : rc_Q cI cII a x) {q n m i : Nat} {hh : Nat → Option Nat} (e1 : cx_rw x = some q) (e2 : cx_ent x q = ze_q cII n hh) (ed : (aa_sh a).1 = some (n, m)) : rc_Q cI cII (as_sh a (zf_tear0 (aa_sh a) i)) (ck_ent x (va_up (cx_ent x) q (ze_q cII n (va_up hh i none)))) := by
  obtain ⟨g1, n', m', h', g2, g3, g4, g5, g6, g7, g8⟩ := hR.2.2 q e1
  obtain ⟨rfl, rfl⟩ := ze_q_inj (g5.symm.trans e2)
  have key : ∀ r, ¬ va_up h' i none r = none → r ≠ i ∧ va_up h' i none r = h' r := by
    intro r h
    by_cases hri : r = i
    · subst hri
      exact absurd (va_up_self _ _ _) h
    · exact ⟨hri, va_up_ne _ _ hri⟩
  refine rc_tear hR e1 e2 ed ed (fun r hr => ?_) (fun r y hr hy => ?_) (fun r r' hr hr' h1 h2 => ?_)
  · show va_up h' i none r = none ↔ (if r = i then false else (aa_sh a).2.1 r) = false
    by_cases hri : r = i
    · subst hri
      rw [va_up_self, if_pos rfl]; exact ⟨fun _ => rfl, fun _ => rfl⟩
    · rw [va_up_ne _ _ hri, if_neg hri]; exact g6 r hr
  · obtain ⟨h1, h2⟩ := key r (by rw [hy]; exact fun h => by cases h)
    exact ⟨r, hr, h2.symm.trans hy, fun j => rfl⟩
  · obtain ⟨b1, b2⟩ := key r h1
    obtain ⟨b3, b4⟩ := key r' h2
    show (aa_sh a).2.2.2 r r' = true ↔ _
    rw [b2, b4]
    exact g8 r r' hr hr' (fun h => h1 (b2.trans h)) (fun h => h2 (b4.trans h))
theorem rc_tearS (hR : rc_Q cI cII a x) {q n m i k : Nat} {hh : Nat → Option Nat} (e1 : cx_rw x = some q) (e2 : cx_ent x q = ze_q cII n hh) (ed : (aa_sh a).1 = some (n, m)) (hk : k < n) : rc_Q cI cII (as_sh a (zf_tearS (aa_sh a) i k)) (ck_ent x (va_up (cx_ent x) q (ze_q cII n (va_up hh i (hh k))))) := by
  obtain ⟨g1, n', m', h', g2, g3, g4, g5, g6, g7, g8⟩ := hR.2.2 q e1
  obtain ⟨rfl, rfl⟩ := ze_q_inj (g5.symm.trans e2)
  have key : ∀ r, va_up h' i (h' k) r = h' (zf_rho i k r) := by
    intro r
    by_cases hri : r = i
    · subst hri
      rw [va_up_self, zf_rho, if_pos rfl]
    · rw [va_up_ne _ _ hri, zf_rho, if_neg hri]
  have lt : ∀ r, r < n' → zf_rho i k r < n' := by
    intro r hr
    unfold zf_rho
    by_cases hri : r = i
    · rw [if_pos hri]; exact hk
    · rw [if_neg hri]; exact hr
  refine rc_tear hR e1 e2 ed ed (fun r hr => ?_) (fun r y hr hy => ?_) (fun r r' hr hr' h1 h2 => ?_)
  · rw [key]; exact g6 _ (lt r hr)
  · rw [key] at hy
    exact ⟨_, lt r hr, hy, fun j => rfl⟩
  · rw [key] at h1 h2
    rw [key, key]
    exact g8 _ _ (lt r hr) (lt r' hr') h1 h2
end ZPH
