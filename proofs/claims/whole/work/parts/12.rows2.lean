/-! ===== array rows by a natural place; numbers ===== -/
section ZG
variable {p : Program} {l : Launch} {e : Env} {R : Room} {s : State} {m : MethodId} {args : Array Value} {below : List Frame} {meth : Method} {c : Code} {A : Nat → Prop} {D : va_G} {tys : List (ClassId × FieldType)} {nL : Nat} {Q : State → Prop} {cc : ByteArray} {own : String} {pc : Nat} {lv : List (Nat × Value)} {st : List Value} {w : va_W} {cells slots : Nat}
theorem zr_iaj {a : Nat} {cA : ClassId} {n j : Nat} {f : Nat → Int32} {i : Int32} (q0 t0 : Nat) (hC : zz_C p s m args c A D tys nL cc own) (hd : decode cc pc = .ok (.iaload, 1)) (he : w[q0]? = some (a, .inl (cA, n, .inl f))) (ht : tys[t0]? = some (cA, .int)) (hj : j < n) (hi : i = nI j) (hn : n < 2 ^ 31) (kk : zz_Z p l e R s m args below meth c A D nL Q (pc + 1) lv (.int (f j) :: st) w cells slots) : zz_Z p l e R s m args below meth c A D nL Q pc lv (.int i :: .ref a :: st) w cells slots := by
  subst hi
  have hjj : (nI j).toNatClampNeg = j := nI_clamp (by omega)
  refine zr_iald q0 t0 hC hd he ht (vp_in_nI hj hn) ?_
  rw [hjj]; exact kk
theorem zr_iasj {a : Nat} {cA : ClassId} {n j : Nat} {f : Nat → Int32} {i x : Int32} {w' : va_W} (q0 t0 : Nat) (hC : zz_C p s m args c A D tys nL cc own) (hd : decode cc pc = .ok (.iastore, 1)) (he : w[q0]? = some (a, .inl (cA, n, .inl f))) (ht : tys[t0]? = some (cA, .int)) (hj : j < n) (hi : i = nI j) (hn : n < 2 ^ 31) (hw : w.set q0 (a, .inl (cA, n, .inl (upd f j x))) = w') (kk : zz_Z p l e R s m args below meth c A D nL Q (pc + 1) lv st w' cells slots) : zz_Z p l e R s m args below meth c A D nL Q pc lv (.int x :: .int i :: .ref a :: st) w cells slots := by
  subst hi
  have hjj : (nI j).toNatClampNeg = j := nI_clamp (by omega)
  refine zr_iast q0 t0 hC hd he ht (vp_in_nI hj hn) ?_ kk
  rw [hjj]; exact hw
theorem zr_aaj {a : Nat} {cA : ClassId} {n j : Nat} {f : Nat → Option Nat} {i : Int32} {ty : FieldType} (q0 t0 : Nat) (hC : zz_C p s m args c A D tys nL cc own) (hd : decode cc pc = .ok (.aaload, 1)) (he : w[q0]? = some (a, .inl (cA, n, .inr (.inr (.inr (.inr f)))))) (ht : tys[t0]? = some (cA, ty)) (hty : ty.isReference = true) (hj : j < n) (hi : i = nI j) (hn : n < 2 ^ 31) (kk : zz_Z p l e R s m args below meth c A D nL Q (pc + 1) lv (va_rf (f j) :: st) w cells slots) : zz_Z p l e R s m args below meth c A D nL Q pc lv (.int i :: .ref a :: st) w cells slots := by
  subst hi
  have hjj : (nI j).toNatClampNeg = j := nI_clamp (by omega)
  refine zr_aald q0 t0 hC hd he ht hty (vp_in_nI hj hn) ?_
  rw [hjj]; exact kk
theorem zr_asjN {a : Nat} {cA : ClassId} {n j : Nat} {f : Nat → Option Nat} {i : Int32} {w' : va_W} (q0 t0 : Nat) (hC : zz_C p s m args c A D tys nL cc own) (hd : decode cc pc = .ok (.aastore, 1)) (he : w[q0]? = some (a, .inl (cA, n, .inr (.inr (.inr (.inr f)))))) (ht : tys[t0]? = some (cA, .array .int)) (hj : j < n) (hi : i = nI j) (hn : n < 2 ^ 31) (hw : w.set q0 (a, .inl (cA, n, .inr (.inr (.inr (.inr (va_up f j none)))))) = w') (kk : zz_Z p l e R s m args below meth c A D nL Q (pc + 1) lv st w' cells slots) : zz_Z p l e R s m args below meth c A D nL Q pc lv (.null :: .int i :: .ref a :: st) w cells slots := by
  subst hi
  have hjj : (nI j).toNatClampNeg = j := nI_clamp (by omega)
  refine zr_astAN q0 t0 hC hd he ht (vp_in_nI hj hn) ?_ kk
  rw [hjj]; exact hw
theorem zr_asjA {a v : Nat} {cA cI : ClassId} {n k j : Nat} {f : Nat → Option Nat} {z : Nat → Int32} {i : Int32} {w' : va_W} (q0 t0 t1 qk : Nat) (hC : zz_C p s m args c A D tys nL cc own) (hd : decode cc pc = .ok (.aastore, 1)) (he : w[q0]? = some (a, .inl (cA, n, .inr (.inr (.inr (.inr f)))))) (ht : tys[t0]? = some (cA, .array .int)) (hv : w[qk]? = some (v, .inl (cI, k, .inl z))) (ht1 : tys[t1]? = some (cI, .int)) (hj : j < n) (hi : i = nI j) (hn : n < 2 ^ 31) (hw : w.set q0 (a, .inl (cA, n, .inr (.inr (.inr (.inr (va_up f j (some v))))))) = w') (kk : zz_Z p l e R s m args below meth c A D nL Q (pc + 1) lv st w' cells slots) : zz_Z p l e R s m args below meth c A D nL Q pc lv (.ref v :: .int i :: .ref a :: st) w cells slots := by
  subst hi
  have hjj : (nI j).toNatClampNeg = j := nI_clamp (by omega)
  refine zr_astA q0 t0 t1 qk hC hd he ht hv ht1 (vp_in_nI hj hn) ?_ kk
  rw [hjj]; exact hw
theorem zr_asjq {a v ci : Nat} {cA : ClassId} {r : vw_C} {n j : Nat} {vs : List Value} {f : Nat → Option Nat} {i : Int32} {w' : va_W} (q0 t0 qk : Nat) (hC : zz_C p s m args c A D tys nL cc own) (hd : decode cc pc = .ok (.aastore, 1)) (he : w[q0]? = some (a, .inl (cA, n, .inr (.inr (.inr (.inr f)))))) (ht : tys[t0]? = some (cA, .object r.1)) (hv : w[qk]? = some (v, .inr (ci, vs))) (hc : vwCl[ci]? = some r) (hj : j < n) (hi : i = nI j) (hn : n < 2 ^ 31) (hw : w.set q0 (a, .inl (cA, n, .inr (.inr (.inr (.inr (va_up f j (some v))))))) = w') (kk : zz_Z p l e R s m args below meth c A D nL Q (pc + 1) lv st w' cells slots) : zz_Z p l e R s m args below meth c A D nL Q pc lv (.ref v :: .int i :: .ref a :: st) w cells slots := by
  subst hi
  have hjj : (nI j).toNatClampNeg = j := nI_clamp (by omega)
  refine zr_astq q0 t0 qk hC hd he ht hv hc (vp_in_nI hj hn) ?_ kk
  rw [hjj]; exact hw
end ZG
theorem zn_of {x M : Int32} {n : Nat} (hM : M.toInt = n) (h : 0 ≤ x ∧ x < M) : ∃ j : Nat, j < n ∧ x = nI j := by
  obtain ⟨j, hj, rfl⟩ := nI_of (x := x) (Int32.not_lt.mpr h.1)
  refine ⟨j, ?_, rfl⟩
  have := Int32.lt_iff_toInt_lt.mp h.2
  rw [nI_toInt hj, hM] at this
  omega
theorem zn_b {b : Int32} (h : zk_b b) : ∃ j : Nat, j < 6 ∧ b = nI j := zn_of (n := 6) (by decide) h
theorem zn_s {s : Int32} (h : zk_s s) : ∃ j : Nat, j < 4 ∧ s = nI j := zn_of (n := 4) (by decide) h
theorem zl_nI {i j : Nat} (hi : i < 6) (hj : j < 4) : zl (nI i) (nI j) = 4 * i + j := by
  unfold zl
  rw [nI_clamp (by omega), nI_clamp (by omega)]
theorem zl_lt {b s : Int32} (hb : zk_b b) (hs : zk_s s) : zl b s < 24 := by
  obtain ⟨i, hi, rfl⟩ := zn_b hb
  obtain ⟨j, hj, rfl⟩ := zn_s hs
  rw [zl_nI hi hj]; omega
theorem zl_c {b s : Int32} (hb : zk_b b) (hs : zk_s s) : b * 4 + s = nI (zl b s) := by
  obtain ⟨i, hi, rfl⟩ := zn_b hb
  obtain ⟨j, hj, rfl⟩ := zn_s hs
  rw [zl_nI hi hj, show (4 : Int32) = nI 4 from rfl, pk_mul, nI_add, Nat.mul_comm]
theorem zl_m {b s : Int32} (hb : zk_b b) (hs : zk_s s) : 4 * b + s = nI (zl b s) := by
  obtain ⟨i, hi, rfl⟩ := zn_b hb
  obtain ⟨j, hj, rfl⟩ := zn_s hs
  rw [zl_nI hi hj, show (4 : Int32) = nI 4 from rfl, pk_mul, nI_add]
theorem zl_mod {b s : Int32} (hb : zk_b b) (hs : zk_s s) : zl b s % 4 = s.toNatClampNeg := by
  obtain ⟨i, hi, rfl⟩ := zn_b hb
  obtain ⟨j, hj, rfl⟩ := zn_s hs
  rw [zl_nI hi hj, nI_clamp (by omega)]; omega
theorem zl_inj {b s b' s' : Int32} (hb : zk_b b) (hs : zk_s s) (hb' : zk_b b') (hs' : zk_s s') (h : zl b s = zl b' s') : b = b' ∧ s = s' := by
  obtain ⟨i, hi, rfl⟩ := zn_b hb
  obtain ⟨j, hj, rfl⟩ := zn_s hs
  obtain ⟨i', hi', rfl⟩ := zn_b hb'
  obtain ⟨j', hj', rfl⟩ := zn_s hs'
  rw [zl_nI hi hj, zl_nI hi' hj'] at h
  exact ⟨by rw [show i = i' by omega], by rw [show j = j' by omega]⟩
theorem zk_s0 : zk_s 0 := by decide
theorem zk_s1 : zk_s 1 := by decide
theorem zk_s2 : zk_s 2 := by decide
theorem zk_s3 : zk_s 3 := by decide
theorem zf_cnt0 (a : ax_A) : zf_cnt 0 a = a := by
  show (_, _, _, _, _, _, aa_mi a + 0, aa_ou a + 0, aa_ne a + 0, _, _, _) = a
  rw [Int32.add_zero, Int32.add_zero, Int32.add_zero]
theorem zf_why_or (st : ax_ST) (k : Nat) (i : Int32) : zf_why st k i = 0 ∨ zf_why st k i = 2 ∨ zf_why st k i = 3 := by
  unfold zf_why
  cases st.1 k with
  | none => exact Or.inr (Or.inl rfl)
  | some n =>
    by_cases h : 0 ≤ i ∧ i < nI n
    · exact Or.inl (if_pos h)
    · exact Or.inr (Or.inr (if_neg h))
theorem zf_whyC_or (sh : ax_SH) (i j : Int32) : zf_whyC sh i j = 0 ∨ zf_whyC sh i j = 2 ∨ zf_whyC sh i j = 3 := by
  unfold zf_whyC
  split
  · exact Or.inr (Or.inl rfl)
  · split
    · split
      · split
        · exact Or.inl rfl
        · exact Or.inr (Or.inr rfl)
      · exact Or.inr (Or.inl rfl)
    · exact Or.inr (Or.inr rfl)
