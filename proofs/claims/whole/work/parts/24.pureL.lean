/-! ===== what loops need ===== -/
theorem zi_step (i k d : Int32) : i + k * d + d = i + (k + 1) * d := by
  rw [Int32.add_mul, Int32.one_mul, Int32.add_assoc]
section ZPS
variable {cI cII : ClassId} {a : ax_A} {x : cx_X}
theorem rc_Q.upq (hR : rc_Q cI cII a x) {qa n : Nat} {c : ClassId} {h h' : Nat → Option Nat} (he : cx_ent x qa = ze_q c n h) (hrw : ¬ cx_rw x = some qa) : rc_Q cI cII a (ck_ent x (va_up (cx_ent x) qa (ze_q c n h'))) := by
  obtain ⟨⟨s1, s2, s3⟩, ⟨t1, t2⟩⟩ := hR
  refine ⟨⟨s1, fun k' q' hk' hf' => ?_, s3⟩, ⟨t1, fun qr hqr => ?_⟩⟩
  · obtain ⟨g1, n', z', g2, g3, g4, g5⟩ := s2 k' q' hk' hf'
    have hne : q' ≠ qa := fun e => by rw [e, he] at g2; cases g2
    exact ⟨g1, n', z', (va_up_ne _ _ hne).trans g2, g3, g4, g5⟩
  · obtain ⟨g1, n', m, h, g2, g3, g4, g5, g6, g7, g8⟩ := t2 qr hqr
    have hne : qr ≠ qa := fun e => hrw (by rw [← e]; exact hqr)
    refine ⟨g1, n', m, h, g2, g3, g4, (va_up_ne _ _ hne).trans g5, g6, fun i y hi hy => ?_, g8⟩
    obtain ⟨k1, ⟨z1, k2, k3⟩, k4⟩ := g7 i y hi hy
    have hne : y ≠ qa := fun e => by rw [e, he] at k2; cases k2
    exact ⟨k1, ⟨z1, (va_up_ne _ _ hne).trans k2, k3⟩, k4⟩
/-- a sheet under way: k rows are laid -/
def rc_U (cI cII : ClassId) (x : cx_X) (qa N M k : Nat) (x' : cx_X) (hh : Nat → Option Nat) : Prop :=
  cx_K x x' ∧ cx_f x' = cx_f x ∧ cx_rw x' = cx_rw x ∧ ¬ cx_rw x = some qa ∧ qa ∈ cx_L x' ∧ cx_ent x' qa = ze_q cII N hh ∧
  (∀ j, j < k → ∃ y, hh j = some y ∧ y ∈ cx_L x' ∧ cx_ent x' y = ze_i cI M (fun _ => 0) ∧ ∀ i, i < 24 → ¬ cx_f x i = some y) ∧
  (∀ i j, i < k → j < k → hh i = hh j → i = j)
theorem rc_U.step (hR : rc_Q cI cII a x) {qa N M k q : Nat} {x' : cx_X} {hh : Nat → Option Nat} (hU : rc_U cI cII x qa N M k x' hh) (hQ : rc_Q cI cII a x') (hq : q ∉ cx_L x') :
    rc_U cI cII x qa N M (k + 1) (ck_ent (ck_ent (ck_L x' (cx_L x' ++ [q])) (va_up (cx_ent x') q (ze_i cI M (fun _ => 0)))) (va_up (va_up (cx_ent x') q (ze_i cI M (fun _ => 0))) qa (ze_q cII N (va_up hh k (some q))))) (va_up hh k (some q)) ∧
    rc_Q cI cII a (ck_ent (ck_ent (ck_L x' (cx_L x' ++ [q])) (va_up (cx_ent x') q (ze_i cI M (fun _ => 0)))) (va_up (va_up (cx_ent x') q (ze_i cI M (fun _ => 0))) qa (ze_q cII N (va_up hh k (some q))))) := by
  obtain ⟨u1, u2, u3, u4, u5, u6, u7, u8⟩ := hU
  have hqq : qa ≠ q := fun e => hq (e ▸ u5)
  have e1 : va_up (cx_ent x') q (ze_i cI M (fun _ => 0)) qa = ze_q cII N hh := (va_up_ne _ _ hqq).trans u6
  have hQ1 : rc_Q cI cII a (ck_ent (ck_L x' (cx_L x' ++ [q])) (va_up (cx_ent x') q (ze_i cI M (fun _ => 0)))) := hQ.grow _ hq
  have hQ2 := hQ1.upq (h' := va_up hh k (some q)) e1 (by show ¬ cx_rw x' = some qa; rw [u3]; exact u4)
  have nq : ∀ i, i < 24 → ¬ cx_f x i = some q := fun i hi h => hq ((hQ.1.2.1 i q hi (by rw [u2]; exact h)).1)
  refine ⟨⟨?_, u2, u3, u4, List.mem_append_left _ u5, va_up_self _ _ _, fun j hj => ?_, fun i j hi hj h => ?_⟩, hQ2⟩
  · have k1 : cx_K x' (ck_ent (ck_L x' (cx_L x' ++ [q])) (va_up (cx_ent x') q (ze_i cI M (fun _ => 0)))) := cx_K.new hq
    exact (u1.tr k1).tr (cx_K.put e1)
  · by_cases hjk : j = k
    · subst hjk
      refine ⟨q, va_up_self _ _ _, List.mem_append_right _ (List.mem_singleton.mpr rfl), ?_, nq⟩
      exact (va_up_ne _ _ (Ne.symm hqq)).trans (va_up_self _ _ _)
    · obtain ⟨y, y1, y2, y3, y4⟩ := u7 j (by omega)
      have hy1 : y ≠ q := fun e => hq (e ▸ y2)
      have hy2 : y ≠ qa := fun e => by rw [e, u6] at y3; cases y3
      exact ⟨y, (va_up_ne _ _ hjk).trans y1, List.mem_append_left _ y2, (va_up_ne _ _ hy2).trans ((va_up_ne _ _ hy1).trans y3), y4⟩
  · by_cases hik : i = k <;> by_cases hjk : j = k
    · omega
    · obtain ⟨y, y1, y2, -⟩ := u7 j (by omega)
      rw [hik, va_up_self, va_up_ne _ _ hjk, y1] at h
      exact absurd (Option.some.inj h ▸ y2) hq
    · obtain ⟨y, y1, y2, -⟩ := u7 i (by omega)
      rw [hjk, va_up_self, va_up_ne _ _ hik, y1] at h
      exact absurd ((Option.some.inj h).symm ▸ y2) hq
    · rw [va_up_ne _ _ hik, va_up_ne _ _ hjk] at h
      exact u8 i j (by omega) (by omega) h
theorem rc_sheet {qa N M : Nat} {x' : cx_X} {hh : Nat → Option Nat} (hU : rc_U cI cII x qa N M N x' hh) (hQ : rc_Q cI cII a x') (hN : N ≤ 12) (hM : M ≤ 12) : rc_Q cI cII (as_sh a (zf_sheetS N M)) (ck_rw x' (some qa)) := by
  obtain ⟨u1, u2, u3, u4, u5, u6, u7, u8⟩ := hU
  refine ⟨hQ.1, ⟨fun h => (by cases h), fun h => (by cases h)⟩, fun q hq => ?_⟩
  cases hq
  refine ⟨u5, N, M, hh, rfl, hN, hM, u6, fun i hi => ?_, fun i y hi hy => ?_, fun i j hi hj h1 h2 => ?_⟩
  · obtain ⟨y, y1, -⟩ := u7 i hi
    rw [y1]
    exact ⟨fun h => (by cases h), fun h => (by cases h)⟩
  · obtain ⟨y', y1, y2, y3, y4⟩ := u7 i hi
    cases y1.symm.trans hy
    exact ⟨y2, ⟨_, y3, fun j _ => rfl⟩, fun k hk h => y4 k hk (by rw [← u2]; exact h)⟩
  · show decide (i = j) = true ↔ hh i = hh j
    rw [decide_eq_true_iff]
    exact ⟨fun h => by rw [h], fun h => u8 i j hi hj h⟩
end ZPS
