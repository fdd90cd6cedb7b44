/-! ===== a public call's end; loops ===== -/
def zp_c (o rk sp pp fp : Nat) (cI cII cF : ClassId) (q : Int32 × ax_A) (r : Int32) (w' : va_W) : Prop := ∃ x', r = q.1 ∧ w' = cw_W o rk sp pp fp cII cF q.2 x' ∧ rc_R cI cII q.2 x'
theorem zp_mk {o rk sp pp fp : Nat} {cI cII cF : ClassId} {q : Int32 × ax_A} {r : Int32} {a' : ax_A} {x' : cx_X} (e : q = (r, a')) (hR : rc_R cI cII a' x') : zp_c o rk sp pp fp cI cII cF q r (cw_W o rk sp pp fp cII cF a' x') := by
  subst e
  exact ⟨x', rfl, rfl, hR⟩
theorem zp_mw {o rk sp pp fp : Nat} {cI cII cF : ClassId} {q : Int32 × ax_A} {r : Int32} {a' : ax_A} {x' : cx_X} {w' : va_W} (e : q = (r, a')) (hR : rc_R cI cII a' x') (hw : w' = cw_W o rk sp pp fp cII cF a' x') : zp_c o rk sp pp fp cI cII cF q r w' := by
  subst e
  exact ⟨x', rfl, hw, hR⟩
section ZLP
variable {p : Program} {l : Launch} {e : Env} {R : Room} {s : State} {m : MethodId} {args : Array Value} {below : List Frame} {meth : Method} {c : Code} {A : Nat → Prop} {D : va_G} {nL : Nat} {Q : State → Prop} {pc : Nat} {cells slots : Nat}
theorem zr_loop {σ : Type} (lvF : σ → List (Nat × Value)) (wF : σ → va_W) (I : σ → Prop) (μ : σ → Nat) (hs : ∀ t : σ, I t → (∀ t' : σ, I t' → μ t' < μ t → zz_Z p l e R s m args below meth c A D nL Q pc (lvF t') [] (wF t') cells slots) → zz_Z p l e R s m args below meth c A D nL Q pc (lvF t) [] (wF t) cells slots) (t0 : σ) (h0 : I t0) : zz_Z p l e R s m args below meth c A D nL Q pc (lvF t0) [] (wF t0) cells slots := by
  have key : ∀ (n : Nat) (t : σ), μ t < n → I t → zz_Z p l e R s m args below meth c A D nL Q pc (lvF t) [] (wF t) cells slots := by
    intro n
    induction n with
    | zero => intro t h; exact absurd h (Nat.not_lt_zero _)
    | succ n ih => intro t h hI; exact hs t hI (fun t' hI' hlt => ih t' (by omega) hI')
  exact key _ t0 (Nat.lt_succ_self _) h0
/-- the same, where the count of cells and slots grows with the rounds -/
theorem zr_loopC {σ : Type} (lvF : σ → List (Nat × Value)) (wF : σ → va_W) (cF sF : σ → Nat) (I : σ → Prop) (μ : σ → Nat) (hs : ∀ t : σ, I t → (∀ t' : σ, I t' → μ t' < μ t → zz_Z p l e R s m args below meth c A D nL Q pc (lvF t') [] (wF t') (cF t') (sF t')) → zz_Z p l e R s m args below meth c A D nL Q pc (lvF t) [] (wF t) (cF t) (sF t)) (t0 : σ) (h0 : I t0) : zz_Z p l e R s m args below meth c A D nL Q pc (lvF t0) [] (wF t0) (cF t0) (sF t0) := by
  have key : ∀ (n : Nat) (t : σ), μ t < n → I t → zz_Z p l e R s m args below meth c A D nL Q pc (lvF t) [] (wF t) (cF t) (sF t) := by
    intro n
    induction n with
    | zero => intro t h; exact absurd h (Nat.not_lt_zero _)
    | succ n ih => intro t h hI; exact hs t hI (fun t' hI' hlt => ih t' (by omega) hI')
  exact key _ t0 (Nat.lt_succ_self _) h0
end ZLP
theorem zk_div {q : Int32} (h : 0 ≤ q ∧ q < 16) : zk_s (q / 4) := by
  obtain ⟨j, hj, rfl⟩ := zn_of (n := 16) (by decide) h
  rw [show (4 : Int32) = nI 4 from rfl, pk_div (by omega) (by omega) (by omega)]
  exact ⟨nI_pos' (by omega), nI_lt (b := 4) (by omega) (by omega)⟩
theorem zk_rem {q : Int32} (h : 0 ≤ q ∧ q < 16) : zk_s (q - q / 4 * 4) := by
  obtain ⟨j, hj, rfl⟩ := zn_of (n := 16) (by decide) h
  rw [show (4 : Int32) = nI 4 from rfl, pk_rem (by omega) (by omega) (by omega)]
  exact ⟨nI_pos' (by omega), nI_lt (b := 4) (by omega) (by omega)⟩
theorem rc_dim {cI cII : ClassId} {a : ax_A} {x : cx_X} (hR : rc_Q cI cII a x) (h : ¬ (aa_sh a).1 = none) : ∃ (q n m : Nat) (hh : Nat → Option Nat), cx_rw x = some q ∧ q ∈ cx_L x ∧ cx_ent x q = ze_q cII n hh ∧ n ≤ 12 ∧ m ≤ 12 ∧ (aa_sh a).1 = some (n, m) ∧ zf_rows (aa_sh a) = nI n ∧ (∀ i, i < n → (hh i = none ↔ (aa_sh a).2.1 i = false)) ∧ (∀ i y, i < n → hh i = some y → y ∈ cx_L x ∧ ∃ z, cx_ent x y = ze_i cI m z) := by
  cases e : cx_rw x with
  | none => exact absurd (hR.2.1.mp e) h
  | some q =>
    obtain ⟨g1, n, m, hh, g2, g3, g4, g5, g6, g7, g8⟩ := hR.2.2 q e
    refine ⟨q, n, m, hh, rfl, g1, g5, g3, g4, g2, zf_rows_some g2, g6, fun i y hi hy => ?_⟩
    obtain ⟨k1, ⟨z, k2, -⟩, -⟩ := g7 i y hi hy
    exact ⟨k1, z, k2⟩
theorem zf_show_bad {a : ax_A} {b i : Int32} (h : ¬ (zf_show a b i).1 = 0) : (zf_show a b i).2.1 = 0 := by
  revert h
  unfold zf_show
  repeat' split
  all_goals first | exact fun _ => rfl | exact fun h => absurd rfl h
