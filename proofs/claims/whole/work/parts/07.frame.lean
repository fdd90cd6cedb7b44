/-! ===== words that a call hands on, and those that it doesn't ===== -/
def zu_tbl : List Cond := lw_tbl.filter goodWord
def zz_bad (U : State) : Prop := va_Nw (.fieldLinkNest RX3 170 "LampLoft$Fade" "bank" "I" RX3) U ∧ va_Nw (.fieldLinkNest RX3 173 "LampLoft$Fade" "place" "I" RX3) U ∧ va_Nw (.fieldLinkNest RX3 183 "LampLoft$Fade" "target" "I" RX3) U ∧ va_Nw (.methodLinkNest RX3 18 yX1_init RX3) U ∧ (Cond.arrayOver (.array .int)).before #[] U = true ∧ va_AO RX0 U
theorem zz_over {u U : State} (hvm : u.vm.Alike U.vm) (h : (Cond.arrayOver (.array .int)).before #[] u = true) : (Cond.arrayOver (.array .int)).before #[] U = true := by
  obtain ⟨comp, c, k, h1, h2, h3, h4, h5⟩ := arrayOverA_spec h
  obtain ⟨k', hk', he⟩ := hvm.2.2 _ _ h3
  have hi : (U.vm.classes.findIdx? fun (x : Class) => match x.kind with | .array component _ => component == comp | _ => false) = some c := by
    have e1 := va_idx_bare U.vm comp
    have e2 := va_idx_bare u.vm comp
    have e3 : u.vm.bare = U.vm.bare := by first | exact hvm.bare_eq | exact hvm.bare_eq.symm
    rw [e3] at e2
    exact e1.symm.trans (e2.trans h2)
  have hkind : k'.kind = .array comp (.array .int) := by rw [he]; exact h4
  have f1 : U.vm.findClass (FieldType.array .int).toString = some comp := by rw [hvm.findClass]; exact h1
  have f2 : U.vm.findClass ("[" ++ (FieldType.array .int).toString) = some c := by rw [hvm.findClass]; exact h5
  unfold Cond.before Cond.holds
  simp only [Cond.value]
  rw [f1, Option.bind_some]
  refine (congrArg (fun o : Option Nat => (o.bind (fun c => (U.vm.classes[c]?).map fun (k : Class) => match k.kind with | .array _ ty => decide (ty = FieldType.array .int) && decide (U.vm.findClass ("[" ++ (FieldType.array .int).toString) = some c) | _ => false) == some true)) hi).trans ?_
  simp [hk', hkind, f2]
theorem zz_bad.warm {u U : State} (hW : u.WarmedH U.vm) (h : zz_bad u) : zz_bad U :=
  ⟨va_Nw.warmF hW h.1, va_Nw.warmF hW h.2.1, va_Nw.warmF hW h.2.2.1, va_Nw.warmM hW h.2.2.2.1, zz_over hW.alike h.2.2.2.2.1, va_AO.moved hW.alike h.2.2.2.2.2⟩
theorem zz_bad.same {u U : State} (hv : u.vm = U.vm) (h : zz_bad u) : zz_bad U :=
  ⟨va_Nw.same rfl hv h.1, va_Nw.same rfl hv h.2.1, va_Nw.same rfl hv h.2.2.1, va_Nw.same rfl hv h.2.2.2.1, zz_over (by rw [hv]; exact Vm.Alike.refl _) h.2.2.2.2.1, va_AO.moved (by rw [hv]; exact Vm.Alike.refl _) h.2.2.2.2.2⟩
def zz_K (D : va_G) (tys : List (ClassId × FieldType)) (U : State) : Prop := va_K D vwCl tys U ∧ zz_bad U
/-! ===== the judgement: a frame by its pc, its locals' list, its stack, the world's cells ===== -/
def zz_C (p : Program) (s : State) (m : MethodId) (args : Array Value) (c : Code) (A : Nat → Prop) (D : va_G) (tys : List (ClassId × FieldType)) (nL : Nat) (cc : ByteArray) (own : String) : Prop :=
  p.tables.exec = Jvm.exec ∧ c.code = cc ∧ c.maxLocals = nL ∧ s.vm.findClass own = some m.cls ∧ (∀ w ∈ zu_tbl, w.before args s = true) ∧ (∀ q : Nat, s.heap.size ≤ q → A q) ∧ zz_K D tys s
def zz_Z (p : Program) (l : Launch) (e : Env) (R : Room) (s : State) (m : MethodId) (args : Array Value) (below : List Frame) (meth : Method) (c : Code) (A : Nat → Prop) (D : va_G) (nL : Nat) (Q : State → Prop) (pc : Nat) (lv : List (Nat × Value)) (st : List Value) (w : va_W) (cells slots : Nat) : Prop :=
  ∀ (ls : Array Slot) (H : Heap) (locs : List Loc), lv_has ls nL lv → va_P D vwCl w H → va_D A w → va_S A s.heap H locs → W p l e R s m args below meth c H locs cells slots Q (F0 m pc ls st)
section ZF
variable {p : Program} {l : Launch} {e : Env} {R : Room} {s : State} {m : MethodId} {args : Array Value} {below : List Frame} {meth : Method} {c : Code} {A : Nat → Prop} {D : va_G} {tys : List (ClassId × FieldType)} {nL : Nat} {Q : State → Prop} {cc : ByteArray} {own : String} {pc : Nat} {lv : List (Nat × Value)} {st : List Value} {w : va_W} {cells slots : Nat}
theorem zr_wide {k n : Nat} (h1 : cells ≤ k) (h2 : slots ≤ n) (kk : zz_Z p l e R s m args below meth c A D nL Q pc lv st w k n) : zz_Z p l e R s m args below meth c A D nL Q pc lv st w cells slots :=
  fun ls H locs hl hP hD hS => W.widen h1 h2 (kk ls H locs hl hP hD hS)
theorem zr_eq {st' : List Value} {w' : va_W} (h1 : st = st') (h2 : w = w') (kk : zz_Z p l e R s m args below meth c A D nL Q pc lv st' w' cells slots) : zz_Z p l e R s m args below meth c A D nL Q pc lv st w cells slots := by
  subst h1; subst h2; exact kk
theorem zr_sub {lv' : List (Nat × Value)} (ks : List Nat) (hl : lv_pick lv ks = lv') (kk : zz_Z p l e R s m args below meth c A D nL Q pc lv' st w cells slots) : zz_Z p l e R s m args below meth c A D nL Q pc lv st w cells slots :=
  fun ls H locs h hP hD hS => kk ls H locs (lv_sub h ks hl) hP hD hS
theorem zr_iconst {n : Int} {v : Int32} (hC : zz_C p s m args c A D tys nL cc own) (hd : decode cc pc = .ok (.iconst n, 1)) (hv : Int32.ofInt n = v) (kk : zz_Z p l e R s m args below meth c A D nL Q (pc + 1) lv (.int v :: st) w cells slots) : zz_Z p l e R s m args below meth c A D nL Q pc lv st w cells slots :=
  fun ls H locs hl hP hD hS => lv_iconst hC.1 hC.2.1 hd hv (kk ls H locs hl hP hD hS)
theorem zr_bipush {n : Int} {v : Int32} (hC : zz_C p s m args c A D tys nL cc own) (hd : decode cc pc = .ok (.bipush n, 2)) (hv : (Int8.ofInt n).toInt32 = v) (kk : zz_Z p l e R s m args below meth c A D nL Q (pc + 2) lv (.int v :: st) w cells slots) : zz_Z p l e R s m args below meth c A D nL Q pc lv st w cells slots :=
  fun ls H locs hl hP hD hS => lv_bipush hC.1 hC.2.1 hd hv (kk ls H locs hl hP hD hS)
theorem zr_sipush {n : Int} {v : Int32} (hC : zz_C p s m args c A D tys nL cc own) (hd : decode cc pc = .ok (.sipush n, 3)) (hv : (Int16.ofInt n).toInt32 = v) (kk : zz_Z p l e R s m args below meth c A D nL Q (pc + 3) lv (.int v :: st) w cells slots) : zz_Z p l e R s m args below meth c A D nL Q pc lv st w cells slots :=
  fun ls H locs hl hP hD hS => lv_sipush hC.1 hC.2.1 hd hv (kk ls H locs hl hP hD hS)
theorem zr_ldc {index : Nat} {v : Int32} (hC : zz_C p s m args c A D tys nL cc own) (hd : decode cc pc = .ok (.ldc index, 2)) (hw : Cond.constant own index v ∈ zu_tbl) (kk : zz_Z p l e R s m args below meth c A D nL Q (pc + 2) lv (.int v :: st) w cells slots) : zz_Z p l e R s m args below meth c A D nL Q pc lv st w cells slots :=
  fun ls H locs hl hP hD hS => lv_ldc hC.1 hC.2.1 hC.2.2.2.1 (hC.2.2.2.2.1 _ hw) hd (kk ls H locs hl hP hD hS)
theorem zr_iload_n {k : Fin 4} {i : Nat} {x : Int32} (j : Nat) (hC : zz_C p s m args c A D tys nL cc own) (hd : decode cc pc = .ok (.iload_n k, 1)) (hi : (k : Nat) = i) (hj : lv[j]? = some (i, .int x)) (kk : zz_Z p l e R s m args below meth c A D nL Q (pc + 1) lv (.int x :: st) w cells slots) : zz_Z p l e R s m args below meth c A D nL Q pc lv st w cells slots :=
  fun ls H locs hl hP hD hS => lv_iload_n hC.1 hC.2.1 hd hi (lv_at hl j hj) (kk ls H locs hl hP hD hS)
theorem zr_iload {i : Nat} {x : Int32} (j : Nat) (hC : zz_C p s m args c A D tys nL cc own) (hd : decode cc pc = .ok (.iload i, 2)) (hj : lv[j]? = some (i, .int x)) (kk : zz_Z p l e R s m args below meth c A D nL Q (pc + 2) lv (.int x :: st) w cells slots) : zz_Z p l e R s m args below meth c A D nL Q pc lv st w cells slots :=
  fun ls H locs hl hP hD hS => lv_iload hC.1 hC.2.1 hd (lv_at hl j hj) (kk ls H locs hl hP hD hS)
theorem zr_istore_n {k : Fin 4} {i : Nat} {x : Int32} {lv' : List (Nat × Value)} (hC : zz_C p s m args c A D tys nL cc own) (hd : decode cc pc = .ok (.istore_n k, 1)) (hi : (k : Nat) = i) (hn : i < nL) (hl' : (i, Value.int x) :: lv.filter (fun q => !(q.1 == i) && !(q.1 + 1 == i && q.2.category == 2)) = lv') (kk : zz_Z p l e R s m args below meth c A D nL Q (pc + 1) lv' st w cells slots) : zz_Z p l e R s m args below meth c A D nL Q pc lv (.int x :: st) w cells slots :=
  fun ls H locs hl hP hD hS => lv_istore_n hC.1 hC.2.1 hd hi hl hn hl' (fun ls hl => kk ls H locs hl hP hD hS)
theorem zr_istore {i : Nat} {x : Int32} {lv' : List (Nat × Value)} (hC : zz_C p s m args c A D tys nL cc own) (hd : decode cc pc = .ok (.istore i, 2)) (hn : i < nL) (hl' : (i, Value.int x) :: lv.filter (fun q => !(q.1 == i) && !(q.1 + 1 == i && q.2.category == 2)) = lv') (kk : zz_Z p l e R s m args below meth c A D nL Q (pc + 2) lv' st w cells slots) : zz_Z p l e R s m args below meth c A D nL Q pc lv (.int x :: st) w cells slots :=
  fun ls H locs hl hP hD hS => lv_istore hC.1 hC.2.1 hd hl hn hl' (fun ls hl => kk ls H locs hl hP hD hS)
theorem zr_aload_n {k : Fin 4} {i : Nat} {x : Nat} (j : Nat) (hC : zz_C p s m args c A D tys nL cc own) (hd : decode cc pc = .ok (.aload_n k, 1)) (hi : (k : Nat) = i) (hj : lv[j]? = some (i, .ref x)) (kk : zz_Z p l e R s m args below meth c A D nL Q (pc + 1) lv (.ref x :: st) w cells slots) : zz_Z p l e R s m args below meth c A D nL Q pc lv st w cells slots :=
  fun ls H locs hl hP hD hS => lv_aload_n hC.1 hC.2.1 hd hi (lv_at hl j hj) (kk ls H locs hl hP hD hS)
theorem zr_aload {i : Nat} {x : Nat} (j : Nat) (hC : zz_C p s m args c A D tys nL cc own) (hd : decode cc pc = .ok (.aload i, 2)) (hj : lv[j]? = some (i, .ref x)) (kk : zz_Z p l e R s m args below meth c A D nL Q (pc + 2) lv (.ref x :: st) w cells slots) : zz_Z p l e R s m args below meth c A D nL Q pc lv st w cells slots :=
  fun ls H locs hl hP hD hS => lv_aload hC.1 hC.2.1 hd (lv_at hl j hj) (kk ls H locs hl hP hD hS)
theorem zr_astore_n {k : Fin 4} {i : Nat} {x : Nat} {lv' : List (Nat × Value)} (hC : zz_C p s m args c A D tys nL cc own) (hd : decode cc pc = .ok (.astore_n k, 1)) (hi : (k : Nat) = i) (hn : i < nL) (hl' : (i, Value.ref x) :: lv.filter (fun q => !(q.1 == i) && !(q.1 + 1 == i && q.2.category == 2)) = lv') (kk : zz_Z p l e R s m args below meth c A D nL Q (pc + 1) lv' st w cells slots) : zz_Z p l e R s m args below meth c A D nL Q pc lv (.ref x :: st) w cells slots :=
  fun ls H locs hl hP hD hS => lv_astore_n hC.1 hC.2.1 hd hi hl hn hl' (fun ls hl => kk ls H locs hl hP hD hS)
theorem zr_astore {i : Nat} {x : Nat} {lv' : List (Nat × Value)} (hC : zz_C p s m args c A D tys nL cc own) (hd : decode cc pc = .ok (.astore i, 2)) (hn : i < nL) (hl' : (i, Value.ref x) :: lv.filter (fun q => !(q.1 == i) && !(q.1 + 1 == i && q.2.category == 2)) = lv') (kk : zz_Z p l e R s m args below meth c A D nL Q (pc + 2) lv' st w cells slots) : zz_Z p l e R s m args below meth c A D nL Q pc lv (.ref x :: st) w cells slots :=
  fun ls H locs hl hP hD hS => lv_astore hC.1 hC.2.1 hd hl hn hl' (fun ls hl => kk ls H locs hl hP hD hS)
theorem zr_aload_nN {k : Fin 4} {i : Nat} (j : Nat) (hC : zz_C p s m args c A D tys nL cc own) (hd : decode cc pc = .ok (.aload_n k, 1)) (hi : (k : Nat) = i) (hj : lv[j]? = some (i, .null)) (kk : zz_Z p l e R s m args below meth c A D nL Q (pc + 1) lv (.null :: st) w cells slots) : zz_Z p l e R s m args below meth c A D nL Q pc lv st w cells slots :=
  fun ls H locs hl hP hD hS => lv_aload_nN hC.1 hC.2.1 hd hi (lv_at hl j hj) (kk ls H locs hl hP hD hS)
theorem zr_aloadN {i : Nat} (j : Nat) (hC : zz_C p s m args c A D tys nL cc own) (hd : decode cc pc = .ok (.aload i, 2)) (hj : lv[j]? = some (i, .null)) (kk : zz_Z p l e R s m args below meth c A D nL Q (pc + 2) lv (.null :: st) w cells slots) : zz_Z p l e R s m args below meth c A D nL Q pc lv st w cells slots :=
  fun ls H locs hl hP hD hS => lv_aloadN hC.1 hC.2.1 hd (lv_at hl j hj) (kk ls H locs hl hP hD hS)
theorem zr_astore_nN {k : Fin 4} {i : Nat} {lv' : List (Nat × Value)} (hC : zz_C p s m args c A D tys nL cc own) (hd : decode cc pc = .ok (.astore_n k, 1)) (hi : (k : Nat) = i) (hn : i < nL) (hl' : (i, Value.null) :: lv.filter (fun q => !(q.1 == i) && !(q.1 + 1 == i && q.2.category == 2)) = lv') (kk : zz_Z p l e R s m args below meth c A D nL Q (pc + 1) lv' st w cells slots) : zz_Z p l e R s m args below meth c A D nL Q pc lv (.null :: st) w cells slots :=
  fun ls H locs hl hP hD hS => lv_astore_nN hC.1 hC.2.1 hd hi hl hn hl' (fun ls hl => kk ls H locs hl hP hD hS)
theorem zr_astoreN {i : Nat} {lv' : List (Nat × Value)} (hC : zz_C p s m args c A D tys nL cc own) (hd : decode cc pc = .ok (.astore i, 2)) (hn : i < nL) (hl' : (i, Value.null) :: lv.filter (fun q => !(q.1 == i) && !(q.1 + 1 == i && q.2.category == 2)) = lv') (kk : zz_Z p l e R s m args below meth c A D nL Q (pc + 2) lv' st w cells slots) : zz_Z p l e R s m args below meth c A D nL Q pc lv (.null :: st) w cells slots :=
  fun ls H locs hl hP hD hS => lv_astoreN hC.1 hC.2.1 hd hl hn hl' (fun ls hl => kk ls H locs hl hP hD hS)
theorem zr_iinc {i : Nat} {n : Int} {x v : Int32} {lv' : List (Nat × Value)} (j : Nat) (hC : zz_C p s m args c A D tys nL cc own) (hd : decode cc pc = .ok (.iinc i n, 3)) (hj : lv[j]? = some (i, .int x)) (hv : x + Int32.ofInt n = v) (hn : i < nL) (hl' : (i, Value.int v) :: lv.filter (fun q => !(q.1 == i) && !(q.1 + 1 == i && q.2.category == 2)) = lv') (kk : zz_Z p l e R s m args below meth c A D nL Q (pc + 3) lv' st w cells slots) : zz_Z p l e R s m args below meth c A D nL Q pc lv st w cells slots :=
  fun ls H locs hl hP hD hS => lv_iinc hC.1 hC.2.1 hd hl hj hv hn hl' (fun ls hl => kk ls H locs hl hP hD hS)
theorem zr_iadd {x y : Int32} (hC : zz_C p s m args c A D tys nL cc own) (hd : decode cc pc = .ok (.iadd, 1)) (kk : zz_Z p l e R s m args below meth c A D nL Q (pc + 1) lv (.int (x + y) :: st) w cells slots) : zz_Z p l e R s m args below meth c A D nL Q pc lv (.int y :: .int x :: st) w cells slots :=
  fun ls H locs hl hP hD hS => lv_iadd hC.1 hC.2.1 hd (kk ls H locs hl hP hD hS)
theorem zr_isub {x y : Int32} (hC : zz_C p s m args c A D tys nL cc own) (hd : decode cc pc = .ok (.isub, 1)) (kk : zz_Z p l e R s m args below meth c A D nL Q (pc + 1) lv (.int (x - y) :: st) w cells slots) : zz_Z p l e R s m args below meth c A D nL Q pc lv (.int y :: .int x :: st) w cells slots :=
  fun ls H locs hl hP hD hS => lv_isub hC.1 hC.2.1 hd (kk ls H locs hl hP hD hS)
theorem zr_imul {x y : Int32} (hC : zz_C p s m args c A D tys nL cc own) (hd : decode cc pc = .ok (.imul, 1)) (kk : zz_Z p l e R s m args below meth c A D nL Q (pc + 1) lv (.int (x * y) :: st) w cells slots) : zz_Z p l e R s m args below meth c A D nL Q pc lv (.int y :: .int x :: st) w cells slots :=
  fun ls H locs hl hP hD hS => lv_imul hC.1 hC.2.1 hd (kk ls H locs hl hP hD hS)
theorem zr_iand {x y : Int32} (hC : zz_C p s m args c A D tys nL cc own) (hd : decode cc pc = .ok (.iand, 1)) (kk : zz_Z p l e R s m args below meth c A D nL Q (pc + 1) lv (.int (x &&& y) :: st) w cells slots) : zz_Z p l e R s m args below meth c A D nL Q pc lv (.int y :: .int x :: st) w cells slots :=
  fun ls H locs hl hP hD hS => lv_iand hC.1 hC.2.1 hd (kk ls H locs hl hP hD hS)
theorem zr_idiv {x y : Int32} (hC : zz_C p s m args c A D tys nL cc own) (hd : decode cc pc = .ok (.idiv, 1)) (hne : ¬ y = 0) (kk : zz_Z p l e R s m args below meth c A D nL Q (pc + 1) lv (.int (x / y) :: st) w cells slots) : zz_Z p l e R s m args below meth c A D nL Q pc lv (.int y :: .int x :: st) w cells slots :=
  fun ls H locs hl hP hD hS => lv_idiv hC.1 hC.2.1 hd hne (kk ls H locs hl hP hD hS)
theorem zr_irem {x y : Int32} (hC : zz_C p s m args c A D tys nL cc own) (hd : decode cc pc = .ok (.irem, 1)) (hne : ¬ y = 0) (kk : zz_Z p l e R s m args below meth c A D nL Q (pc + 1) lv (.int (x - x / y * y) :: st) w cells slots) : zz_Z p l e R s m args below meth c A D nL Q pc lv (.int y :: .int x :: st) w cells slots :=
  fun ls H locs hl hP hD hS => lv_irem hC.1 hC.2.1 hd hne (kk ls H locs hl hP hD hS)
theorem zr_ineg {x : Int32} (hC : zz_C p s m args c A D tys nL cc own) (hd : decode cc pc = .ok (.ineg, 1)) (kk : zz_Z p l e R s m args below meth c A D nL Q (pc + 1) lv (.int (0 - x) :: st) w cells slots) : zz_Z p l e R s m args below meth c A D nL Q pc lv (.int x :: st) w cells slots :=
  fun ls H locs hl hP hD hS => lv_ineg hC.1 hC.2.1 hd (kk ls H locs hl hP hD hS)
theorem zr_i2s {x : Int32} (hC : zz_C p s m args c A D tys nL cc own) (hd : decode cc pc = .ok (.i2s, 1)) (kk : zz_Z p l e R s m args below meth c A D nL Q (pc + 1) lv (.int x.toInt16.toInt32 :: st) w cells slots) : zz_Z p l e R s m args below meth c A D nL Q pc lv (.int x :: st) w cells slots :=
  fun ls H locs hl hP hD hS => lv_i2s hC.1 hC.2.1 hd rfl (kk ls H locs hl hP hD hS)
theorem zr_dup {v : Value} (hC : zz_C p s m args c A D tys nL cc own) (hd : decode cc pc = .ok (.dup, 1)) (hv : v.category = 1) (kk : zz_Z p l e R s m args below meth c A D nL Q (pc + 1) lv (v :: v :: st) w cells slots) : zz_Z p l e R s m args below meth c A D nL Q pc lv (v :: st) w cells slots :=
  fun ls H locs hl hP hD hS => lv_dup hC.1 hC.2.1 hd hv (kk ls H locs hl hP hD hS)
theorem zr_pop {v : Value} (hC : zz_C p s m args c A D tys nL cc own) (hd : decode cc pc = .ok (.pop, 1)) (hv : v.category = 1) (kk : zz_Z p l e R s m args below meth c A D nL Q (pc + 1) lv st w cells slots) : zz_Z p l e R s m args below meth c A D nL Q pc lv (v :: st) w cells slots :=
  fun ls H locs hl hP hD hS => lv_pop hC.1 hC.2.1 hd hv (kk ls H locs hl hP hD hS)
theorem zr_null (hC : zz_C p s m args c A D tys nL cc own) (hd : decode cc pc = .ok (.aconst_null, 1)) (kk : zz_Z p l e R s m args below meth c A D nL Q (pc + 1) lv (.null :: st) w cells slots) : zz_Z p l e R s m args below meth c A D nL Q pc lv st w cells slots :=
  fun ls H locs hl hP hD hS => lv_null hC.1 hC.2.1 hd (kk ls H locs hl hP hD hS)
theorem zr_goto {off : Int} {tgt : Nat} (hC : zz_C p s m args c A D tys nL cc own) (hd : decode cc pc = .ok (.goto off, 3)) (ht : (pc : Int) + off = (tgt : Int)) (kk : zz_Z p l e R s m args below meth c A D nL Q tgt lv st w cells slots) : zz_Z p l e R s m args below meth c A D nL Q pc lv st w cells slots :=
  fun ls H locs hl hP hD hS => lv_goto hC.1 hC.2.1 hd ht (kk ls H locs hl hP hD hS)
theorem zr_if_eq {x : Int32} {off : Int} {tgt : Nat} (hC : zz_C p s m args c A D tys nL cc own) (hd : decode cc pc = .ok (.ifCond .eq off, 3)) (ht : (pc : Int) + off = (tgt : Int)) (kt : x = 0 → zz_Z p l e R s m args below meth c A D nL Q tgt lv st w cells slots) (kf : ¬ x = 0 → zz_Z p l e R s m args below meth c A D nL Q (pc + 3) lv st w cells slots) : zz_Z p l e R s m args below meth c A D nL Q pc lv (.int x :: st) w cells slots :=
  fun ls H locs hl hP hD hS => lv_if_eq hC.1 hC.2.1 hd ht (fun h => kt h ls H locs hl hP hD hS) (fun h => kf h ls H locs hl hP hD hS)
theorem zr_icmp_eq {x y : Int32} {off : Int} {tgt : Nat} (hC : zz_C p s m args c A D tys nL cc own) (hd : decode cc pc = .ok (.if_icmp .eq off, 3)) (ht : (pc : Int) + off = (tgt : Int)) (kt : x = y → zz_Z p l e R s m args below meth c A D nL Q tgt lv st w cells slots) (kf : ¬ x = y → zz_Z p l e R s m args below meth c A D nL Q (pc + 3) lv st w cells slots) : zz_Z p l e R s m args below meth c A D nL Q pc lv (.int y :: .int x :: st) w cells slots :=
  fun ls H locs hl hP hD hS => lv_icmp_eq hC.1 hC.2.1 hd ht (fun h => kt h ls H locs hl hP hD hS) (fun h => kf h ls H locs hl hP hD hS)
theorem zr_if_ne {x : Int32} {off : Int} {tgt : Nat} (hC : zz_C p s m args c A D tys nL cc own) (hd : decode cc pc = .ok (.ifCond .ne off, 3)) (ht : (pc : Int) + off = (tgt : Int)) (kt : ¬ x = 0 → zz_Z p l e R s m args below meth c A D nL Q tgt lv st w cells slots) (kf : x = 0 → zz_Z p l e R s m args below meth c A D nL Q (pc + 3) lv st w cells slots) : zz_Z p l e R s m args below meth c A D nL Q pc lv (.int x :: st) w cells slots :=
  fun ls H locs hl hP hD hS => lv_if_ne hC.1 hC.2.1 hd ht (fun h => kt h ls H locs hl hP hD hS) (fun h => kf h ls H locs hl hP hD hS)
theorem zr_icmp_ne {x y : Int32} {off : Int} {tgt : Nat} (hC : zz_C p s m args c A D tys nL cc own) (hd : decode cc pc = .ok (.if_icmp .ne off, 3)) (ht : (pc : Int) + off = (tgt : Int)) (kt : ¬ x = y → zz_Z p l e R s m args below meth c A D nL Q tgt lv st w cells slots) (kf : x = y → zz_Z p l e R s m args below meth c A D nL Q (pc + 3) lv st w cells slots) : zz_Z p l e R s m args below meth c A D nL Q pc lv (.int y :: .int x :: st) w cells slots :=
  fun ls H locs hl hP hD hS => lv_icmp_ne hC.1 hC.2.1 hd ht (fun h => kt h ls H locs hl hP hD hS) (fun h => kf h ls H locs hl hP hD hS)
theorem zr_if_lt {x : Int32} {off : Int} {tgt : Nat} (hC : zz_C p s m args c A D tys nL cc own) (hd : decode cc pc = .ok (.ifCond .lt off, 3)) (ht : (pc : Int) + off = (tgt : Int)) (kt : x < 0 → zz_Z p l e R s m args below meth c A D nL Q tgt lv st w cells slots) (kf : ¬ x < 0 → zz_Z p l e R s m args below meth c A D nL Q (pc + 3) lv st w cells slots) : zz_Z p l e R s m args below meth c A D nL Q pc lv (.int x :: st) w cells slots :=
  fun ls H locs hl hP hD hS => lv_if_lt hC.1 hC.2.1 hd ht (fun h => kt h ls H locs hl hP hD hS) (fun h => kf h ls H locs hl hP hD hS)
theorem zr_icmp_lt {x y : Int32} {off : Int} {tgt : Nat} (hC : zz_C p s m args c A D tys nL cc own) (hd : decode cc pc = .ok (.if_icmp .lt off, 3)) (ht : (pc : Int) + off = (tgt : Int)) (kt : x < y → zz_Z p l e R s m args below meth c A D nL Q tgt lv st w cells slots) (kf : ¬ x < y → zz_Z p l e R s m args below meth c A D nL Q (pc + 3) lv st w cells slots) : zz_Z p l e R s m args below meth c A D nL Q pc lv (.int y :: .int x :: st) w cells slots :=
  fun ls H locs hl hP hD hS => lv_icmp_lt hC.1 hC.2.1 hd ht (fun h => kt h ls H locs hl hP hD hS) (fun h => kf h ls H locs hl hP hD hS)
theorem zr_if_ge {x : Int32} {off : Int} {tgt : Nat} (hC : zz_C p s m args c A D tys nL cc own) (hd : decode cc pc = .ok (.ifCond .ge off, 3)) (ht : (pc : Int) + off = (tgt : Int)) (kt : 0 ≤ x → zz_Z p l e R s m args below meth c A D nL Q tgt lv st w cells slots) (kf : ¬ 0 ≤ x → zz_Z p l e R s m args below meth c A D nL Q (pc + 3) lv st w cells slots) : zz_Z p l e R s m args below meth c A D nL Q pc lv (.int x :: st) w cells slots :=
  fun ls H locs hl hP hD hS => lv_if_ge hC.1 hC.2.1 hd ht (fun h => kt h ls H locs hl hP hD hS) (fun h => kf h ls H locs hl hP hD hS)
theorem zr_icmp_ge {x y : Int32} {off : Int} {tgt : Nat} (hC : zz_C p s m args c A D tys nL cc own) (hd : decode cc pc = .ok (.if_icmp .ge off, 3)) (ht : (pc : Int) + off = (tgt : Int)) (kt : y ≤ x → zz_Z p l e R s m args below meth c A D nL Q tgt lv st w cells slots) (kf : ¬ y ≤ x → zz_Z p l e R s m args below meth c A D nL Q (pc + 3) lv st w cells slots) : zz_Z p l e R s m args below meth c A D nL Q pc lv (.int y :: .int x :: st) w cells slots :=
  fun ls H locs hl hP hD hS => lv_icmp_ge hC.1 hC.2.1 hd ht (fun h => kt h ls H locs hl hP hD hS) (fun h => kf h ls H locs hl hP hD hS)
theorem zr_if_gt {x : Int32} {off : Int} {tgt : Nat} (hC : zz_C p s m args c A D tys nL cc own) (hd : decode cc pc = .ok (.ifCond .gt off, 3)) (ht : (pc : Int) + off = (tgt : Int)) (kt : 0 < x → zz_Z p l e R s m args below meth c A D nL Q tgt lv st w cells slots) (kf : ¬ 0 < x → zz_Z p l e R s m args below meth c A D nL Q (pc + 3) lv st w cells slots) : zz_Z p l e R s m args below meth c A D nL Q pc lv (.int x :: st) w cells slots :=
  fun ls H locs hl hP hD hS => lv_if_gt hC.1 hC.2.1 hd ht (fun h => kt h ls H locs hl hP hD hS) (fun h => kf h ls H locs hl hP hD hS)
theorem zr_icmp_gt {x y : Int32} {off : Int} {tgt : Nat} (hC : zz_C p s m args c A D tys nL cc own) (hd : decode cc pc = .ok (.if_icmp .gt off, 3)) (ht : (pc : Int) + off = (tgt : Int)) (kt : y < x → zz_Z p l e R s m args below meth c A D nL Q tgt lv st w cells slots) (kf : ¬ y < x → zz_Z p l e R s m args below meth c A D nL Q (pc + 3) lv st w cells slots) : zz_Z p l e R s m args below meth c A D nL Q pc lv (.int y :: .int x :: st) w cells slots :=
  fun ls H locs hl hP hD hS => lv_icmp_gt hC.1 hC.2.1 hd ht (fun h => kt h ls H locs hl hP hD hS) (fun h => kf h ls H locs hl hP hD hS)
theorem zr_if_le {x : Int32} {off : Int} {tgt : Nat} (hC : zz_C p s m args c A D tys nL cc own) (hd : decode cc pc = .ok (.ifCond .le off, 3)) (ht : (pc : Int) + off = (tgt : Int)) (kt : x ≤ 0 → zz_Z p l e R s m args below meth c A D nL Q tgt lv st w cells slots) (kf : ¬ x ≤ 0 → zz_Z p l e R s m args below meth c A D nL Q (pc + 3) lv st w cells slots) : zz_Z p l e R s m args below meth c A D nL Q pc lv (.int x :: st) w cells slots :=
  fun ls H locs hl hP hD hS => lv_if_le hC.1 hC.2.1 hd ht (fun h => kt h ls H locs hl hP hD hS) (fun h => kf h ls H locs hl hP hD hS)
theorem zr_icmp_le {x y : Int32} {off : Int} {tgt : Nat} (hC : zz_C p s m args c A D tys nL cc own) (hd : decode cc pc = .ok (.if_icmp .le off, 3)) (ht : (pc : Int) + off = (tgt : Int)) (kt : x ≤ y → zz_Z p l e R s m args below meth c A D nL Q tgt lv st w cells slots) (kf : ¬ x ≤ y → zz_Z p l e R s m args below meth c A D nL Q (pc + 3) lv st w cells slots) : zz_Z p l e R s m args below meth c A D nL Q pc lv (.int y :: .int x :: st) w cells slots :=
  fun ls H locs hl hP hD hS => lv_icmp_le hC.1 hC.2.1 hd ht (fun h => kt h ls H locs hl hP hD hS) (fun h => kf h ls H locs hl hP hD hS)
theorem zr_ifnull {x : Nat} {off : Int} (hC : zz_C p s m args c A D tys nL cc own) (hd : decode cc pc = .ok (.ifnull off, 3)) (kk : zz_Z p l e R s m args below meth c A D nL Q (pc + 3) lv st w cells slots) : zz_Z p l e R s m args below meth c A D nL Q pc lv (.ref x :: st) w cells slots :=
  fun ls H locs hl hP hD hS => lv_ifnull hC.1 hC.2.1 hd (kk ls H locs hl hP hD hS)
theorem zr_ifnullN {off : Int} {tgt : Nat} (hC : zz_C p s m args c A D tys nL cc own) (hd : decode cc pc = .ok (.ifnull off, 3)) (ht : (pc : Int) + off = (tgt : Int)) (kk : zz_Z p l e R s m args below meth c A D nL Q tgt lv st w cells slots) : zz_Z p l e R s m args below meth c A D nL Q pc lv (.null :: st) w cells slots :=
  fun ls H locs hl hP hD hS => lv_ifnullN hC.1 hC.2.1 hd ht (kk ls H locs hl hP hD hS)
theorem zr_ifnonnull {x : Nat} {off : Int} {tgt : Nat} (hC : zz_C p s m args c A D tys nL cc own) (hd : decode cc pc = .ok (.ifnonnull off, 3)) (ht : (pc : Int) + off = (tgt : Int)) (kk : zz_Z p l e R s m args below meth c A D nL Q tgt lv st w cells slots) : zz_Z p l e R s m args below meth c A D nL Q pc lv (.ref x :: st) w cells slots :=
  fun ls H locs hl hP hD hS => lv_ifnonnull hC.1 hC.2.1 hd ht (kk ls H locs hl hP hD hS)
theorem zr_ifnonnullN {off : Int} (hC : zz_C p s m args c A D tys nL cc own) (hd : decode cc pc = .ok (.ifnonnull off, 3)) (kk : zz_Z p l e R s m args below meth c A D nL Q (pc + 3) lv st w cells slots) : zz_Z p l e R s m args below meth c A D nL Q pc lv (.null :: st) w cells slots :=
  fun ls H locs hl hP hD hS => lv_ifnonnullN hC.1 hC.2.1 hd (kk ls H locs hl hP hD hS)
theorem zr_rf {r : Option Nat} (kn : r = none → zz_Z p l e R s m args below meth c A D nL Q pc lv (.null :: st) w cells slots) (ks : ∀ q : Nat, r = some q → zz_Z p l e R s m args below meth c A D nL Q pc lv (.ref q :: st) w cells slots) : zz_Z p l e R s m args below meth c A D nL Q pc lv (va_rf r :: st) w cells slots := by
  cases r with
  | none => exact kn rfl
  | some q => exact ks q rfl
theorem zr_tableOut {dflt lo hi : Int} {offs : Array Int} {len : Nat} {x : Int32} {tgt : Nat} (hC : zz_C p s m args c A D tys nL cc own) (hd : decode cc pc = .ok (.tableswitch dflt lo hi offs, len)) (h : x.toInt < lo ∨ hi < x.toInt) (ht : (pc : Int) + dflt = (tgt : Int)) (kk : zz_Z p l e R s m args below meth c A D nL Q tgt lv st w cells slots) : zz_Z p l e R s m args below meth c A D nL Q pc lv (.int x :: st) w cells slots :=
  fun ls H locs hl hP hD hS => lv_tableOut hC.1 hC.2.1 hd h ht (kk ls H locs hl hP hD hS)
theorem zr_tableIn {dflt lo hi : Int} {offs : Array Int} {len : Nat} {x : Int32} {off : Int} {tgt : Nat} (hC : zz_C p s m args c A D tys nL cc own) (hd : decode cc pc = .ok (.tableswitch dflt lo hi offs, len)) (h1 : ¬ x.toInt < lo) (h2 : ¬ hi < x.toInt) (ho : offs[(x.toInt - lo).toNat]? = some off) (ht : (pc : Int) + off = (tgt : Int)) (kk : zz_Z p l e R s m args below meth c A D nL Q tgt lv st w cells slots) : zz_Z p l e R s m args below meth c A D nL Q pc lv (.int x :: st) w cells slots :=
  fun ls H locs hl hP hD hS => lv_tableIn hC.1 hC.2.1 hd h1 h2 ho ht (kk ls H locs hl hP hD hS)
theorem zr_get {C : String} {T : u_T} {N ci index a : Nat} {fs : List Value} {v : Value} (q0 k : Nat) (hC : zz_C p s m args c A D tys nL cc own) (hin : ∀ w ∈ u_ws C T N, w ∈ zu_tbl) (hc : vwCl[ci]? = some (C, T, N)) (hd : decode cc pc = .ok (.getfield index, 3)) (hlk : Cond.fieldLink own index (T k).1 (T k).2.1 (T k).2.2.1 ∈ zu_tbl) (hk : k < N) (he : w[q0]? = some (a, .inr (ci, fs))) (hv : fs[k]? = some v) (kk : zz_Z p l e R s m args below meth c A D nL Q (pc + 3) lv (v :: st) w cells slots) : zz_Z p l e R s m args below meth c A D nL Q pc lv (.ref a :: st) w cells slots :=
  fun ls H locs hl hP hD hS => va_get (ref := (T k).1) hC.1 hC.2.1 hC.2.2.2.2.1 hin hC.2.2.2.1 hC.2.2.2.2.2.2.1 hP q0 he hc k hk (hC.2.2.2.2.1 _ hlk) (fun _ h => h) hv hd (kk ls H locs hl hP hD hS)
theorem zr_getN {C host : String} {T : u_T} {N ci index a : Nat} {fs : List Value} {v : Value} (q0 k : Nat) (hC : zz_C p s m args c A D tys nL cc own) (hin : ∀ w ∈ u_ws C T N, w ∈ zu_tbl) (hc : vwCl[ci]? = some (C, T, N)) (hd : decode cc pc = .ok (.getfield index, 3)) (hlk : va_Nw (Cond.fieldLinkNest own index (T k).1 (T k).2.1 (T k).2.2.1 host) s) (hk : k < N) (he : w[q0]? = some (a, .inr (ci, fs))) (hv : fs[k]? = some v) (kk : zz_Z p l e R s m args below meth c A D nL Q (pc + 3) lv (v :: st) w cells slots) : zz_Z p l e R s m args below meth c A D nL Q pc lv (.ref a :: st) w cells slots :=
  fun ls H locs hl hP hD hS => va_getN (ref := (T k).1) hC.1 hC.2.1 hC.2.2.2.2.1 hin hC.2.2.2.1 hC.2.2.2.2.2.2.1 hP q0 he hc k hk (va_Nw.use rfl hlk) (fun _ h => h) hv hd (kk ls H locs hl hP hD hS)
theorem zr_put {C : String} {T : u_T} {N ci index a : Nat} {fs : List Value} {v : Value} {ty0 : Nat → FieldType} {w' : va_W} (q0 k : Nat) (hC : zz_C p s m args c A D tys nL cc own) (hin : ∀ w ∈ u_ws C T N, w ∈ zu_tbl) (hty : ∀ k, k < N → parseFieldDescriptor (T k).2.2.1 = some (ty0 k)) (hnm : ∀ a, a < N → ∀ b, b < N → a ≠ b → (T a).2.1 ≠ (T b).2.1) (hc : vwCl[ci]? = some (C, T, N)) (hd : decode cc pc = .ok (.putfield index, 3)) (hlk : Cond.fieldLink own index (T k).1 (T k).2.1 (T k).2.2.1 ∈ zu_tbl) (hk : k < N) (hfin : (T k).2.2.2 = false) (he : w[q0]? = some (a, .inr (ci, fs))) (hn : narrow (ty0 k) v = v) (hfit : fits (ty0 k) v = true) (hl : k < fs.length) (hw : w.set q0 (a, .inr (ci, fs.set k v)) = w') (kk : zz_Z p l e R s m args below meth c A D nL Q (pc + 3) lv st w' cells slots) : zz_Z p l e R s m args below meth c A D nL Q pc lv (v :: .ref a :: st) w cells slots := by
  subst hw
  exact fun ls H locs hl' hP hD hS => va_put (ref := (T k).1) hC.1 hC.2.1 hC.2.2.2.2.1 hin ty0 hty hnm hC.2.2.2.1 hC.2.2.2.2.2.2.1 hP hD hS q0 he hc k hk (hC.2.2.2.2.1 _ hlk) (fun _ h => h) hfin (hty k hk) hn hfit hl hd (fun H1 locs1 hP hD hS => kk ls H1 locs1 hl' hP hD hS)
theorem zr_putF {C : String} {T : u_T} {N ci index a : Nat} {fs : List Value} {v : Value} {ty0 : Nat → FieldType} {w' : va_W} (q0 k : Nat) (hC : zz_C p s m args c A D tys nL cc own) (hin : ∀ w ∈ u_ws C T N, w ∈ zu_tbl) (hty : ∀ k, k < N → parseFieldDescriptor (T k).2.2.1 = some (ty0 k)) (hnm : ∀ a, a < N → ∀ b, b < N → a ≠ b → (T a).2.1 ≠ (T b).2.1) (hc : vwCl[ci]? = some (C, T, N)) (hd : decode cc pc = .ok (.putfield index, 3)) (hlk : Cond.fieldLink own index (T k).1 (T k).2.1 (T k).2.2.1 ∈ zu_tbl) (hk : k < N) (hfin : (T k).2.2.2 = true) (hini : meth.name = "<init>") (hdecl : (T k).1 = own) (he : w[q0]? = some (a, .inr (ci, fs))) (hn : narrow (ty0 k) v = v) (hfit : fits (ty0 k) v = true) (hl : k < fs.length) (hw : w.set q0 (a, .inr (ci, fs.set k v)) = w') (kk : zz_Z p l e R s m args below meth c A D nL Q (pc + 3) lv st w' cells slots) : zz_Z p l e R s m args below meth c A D nL Q pc lv (v :: .ref a :: st) w cells slots := by
  subst hw
  exact fun ls H locs hl' hP hD hS => va_putF (ref := (T k).1) hC.1 hC.2.1 hC.2.2.2.2.1 hin ty0 hty hnm hC.2.2.2.1 hC.2.2.2.2.2.2.1 hP hD hS q0 he hc k hk (hC.2.2.2.2.1 _ hlk) (fun _ h => h) hfin hini hdecl (hty k hk) hn hfit hl hd (fun H1 locs1 hP hD hS => kk ls H1 locs1 hl' hP hD hS)
theorem zr_iald {a : Nat} {cA : ClassId} {n : Nat} {f : Nat → Int32} {i : Int32} (q0 t0 : Nat) (hC : zz_C p s m args c A D tys nL cc own) (hd : decode cc pc = .ok (.iaload, 1)) (he : w[q0]? = some (a, .inl (cA, n, .inl f))) (ht : tys[t0]? = some (cA, .int)) (hin : vp_in i n) (kk : zz_Z p l e R s m args below meth c A D nL Q (pc + 1) lv (.int (f i.toNatClampNeg) :: st) w cells slots) : zz_Z p l e R s m args below meth c A D nL Q pc lv (.int i :: .ref a :: st) w cells slots :=
  fun ls H locs hl hP hD hS => va_iald hC.1 hC.2.1 hC.2.2.2.2.2.2.1 hP q0 t0 he ht hin hd (kk ls H locs hl hP hD hS)
theorem zr_iast {a : Nat} {cA : ClassId} {n : Nat} {f : Nat → Int32} {i x : Int32} {w' : va_W} (q0 t0 : Nat) (hC : zz_C p s m args c A D tys nL cc own) (hd : decode cc pc = .ok (.iastore, 1)) (he : w[q0]? = some (a, .inl (cA, n, .inl f))) (ht : tys[t0]? = some (cA, .int)) (hin : vp_in i n) (hw : w.set q0 (a, .inl (cA, n, .inl (upd f i.toNatClampNeg x))) = w') (kk : zz_Z p l e R s m args below meth c A D nL Q (pc + 1) lv st w' cells slots) : zz_Z p l e R s m args below meth c A D nL Q pc lv (.int x :: .int i :: .ref a :: st) w cells slots := by
  subst hw
  exact fun ls H locs hl hP hD hS => va_iast hC.1 hC.2.1 hC.2.2.2.2.2.2.1 hP hD hS q0 t0 he ht hin hd (fun H1 locs1 hP hD hS => kk ls H1 locs1 hl hP hD hS)
theorem zr_alen {a : Nat} {cA : ClassId} {y : vp_A} {ty : FieldType} (q0 t0 : Nat) (hC : zz_C p s m args c A D tys nL cc own) (hd : decode cc pc = .ok (.arraylength, 1)) (he : w[q0]? = some (a, .inl (cA, y))) (ht : tys[t0]? = some (cA, ty)) (kk : zz_Z p l e R s m args below meth c A D nL Q (pc + 1) lv (.int (nI y.1) :: st) w cells slots) : zz_Z p l e R s m args below meth c A D nL Q pc lv (.ref a :: st) w cells slots :=
  fun ls H locs hl hP hD hS => va_alen hC.1 hC.2.1 hC.2.2.2.2.2.2.1 hP q0 t0 he ht rfl hd (kk ls H locs hl hP hD hS)
theorem zr_aald {a : Nat} {cA : ClassId} {n : Nat} {f : Nat → Option Nat} {i : Int32} {ty : FieldType} (q0 t0 : Nat) (hC : zz_C p s m args c A D tys nL cc own) (hd : decode cc pc = .ok (.aaload, 1)) (he : w[q0]? = some (a, .inl (cA, n, .inr (.inr (.inr (.inr f)))))) (ht : tys[t0]? = some (cA, ty)) (hty : ty.isReference = true) (hin : vp_in i n) (kk : zz_Z p l e R s m args below meth c A D nL Q (pc + 1) lv (va_rf (f i.toNatClampNeg) :: st) w cells slots) : zz_Z p l e R s m args below meth c A D nL Q pc lv (.int i :: .ref a :: st) w cells slots := by
  intro ls H locs hl hP hD hS
  have hlt : i.toNatClampNeg < n := Nat.not_le.mp fun q => hin (Or.inr q)
  exact W.aald (v := va_rf (f i.toNatClampNeg)) (ty := ty) hC.1 hC.2.1 (hP q0 _ he) ((hC.2.2.2.2.2.2.1.2 t0 _ ht).1 n (fun j => va_rf (f j))) hty (fun q => by cases q) (by show ¬ (i < 0 ∨ (arrV _ _ _).slots.size ≤ _); rw [arrV_size]; exact hin) (by show (arrV _ _ _).slots[_]? = _; rw [arrV_read _ _ hlt]) rfl rfl hd (kk ls H locs hl hP hD hS)
theorem zr_astq {a v ci : Nat} {cA : ClassId} {r : vw_C} {n : Nat} {vs : List Value} {f : Nat → Option Nat} {i : Int32} {w' : va_W} (q0 t0 qk : Nat) (hC : zz_C p s m args c A D tys nL cc own) (hd : decode cc pc = .ok (.aastore, 1)) (he : w[q0]? = some (a, .inl (cA, n, .inr (.inr (.inr (.inr f)))))) (ht : tys[t0]? = some (cA, .object r.1)) (hv : w[qk]? = some (v, .inr (ci, vs))) (hc : vwCl[ci]? = some r) (hin : vp_in i n) (hw : w.set q0 (a, .inl (cA, n, .inr (.inr (.inr (.inr (va_up f i.toNatClampNeg (some v))))))) = w') (kk : zz_Z p l e R s m args below meth c A D nL Q (pc + 1) lv st w' cells slots) : zz_Z p l e R s m args below meth c A D nL Q pc lv (.ref v :: .int i :: .ref a :: st) w cells slots := by
  subst hw
  exact fun ls H locs hl hP hD hS => va_astq hC.1 hC.2.1 hC.2.2.2.2.2.2.1 hP hD hS q0 t0 qk ci he ht hv hc hin hd (fun H1 locs1 hP hD hS => kk ls H1 locs1 hl hP hD hS)
theorem zz_aastN0 {T : State} {locs : List Loc} (X : Stand p l e R s m args below meth c T locs cells slots) (hexec : p.tables.exec = Jvm.exec) {a : Addr} {cell : Cell} {j : Int32} (hcell : T.heap[a]? = some cell) (harr : s.isArrayOf cell (.array .int)) (hknown : cell.vm ≠ .unknown)
    (hin : ¬ (j < 0 ∨ cell.slots.size ≤ j.toNatClampNeg))
    {g : JFrame} (hg : g.method = m) {rest : List Value} (hstack : g.stack = .null :: .int j :: .ref a :: rest) (hdg : decode c.code g.pc = .ok (.aastore, 1)) :
    Stand p l e R s m args below meth c (T.setCell a (cell.setSlot j.toNatClampNeg .null)) (locs ++ [⟨a, j.toNatClampNeg⟩]) cells slots ∧
      ∀ target, Steps p.tables e below ((T.setCell a (cell.setSlot j.toNatClampNeg .null)).setTop { g with pc := g.pc + 1, stack := rest }) target → Steps p.tables e below (T.setTop g) target := by
  have hT := State.isArrayOf_alike X.warmed.alike harr
  have hfit : T.fitsSlot cell.cls cell.vm j.toNatClampNeg .null = true := by
    obtain ⟨hobj, k, hk, comp, hkind⟩ := hT
    cases hvm : cell.vm <;> first | exact absurd hvm (hobj _) | simp [State.fitsSlot, State.slotType?, hk, hkind, fits]
  refine ⟨X.stored hcell _ _, fun target hrest => ?_⟩
  subst hg
  jvm_step X.here [hexec, hdg]
  refine aastore.wp_of_null (c := cell) (t := .array .int) X.here.top hstack hcell hT hin hknown (Nat.not_le.mp fun q => hin (Or.inr q)) hfit ?_
  intro acts
  rw [afterInstr_ok]
  exact hrest
theorem zr_astAN {a : Nat} {cA : ClassId} {n : Nat} {f : Nat → Option Nat} {i : Int32} {w' : va_W} (q0 t0 : Nat) (hC : zz_C p s m args c A D tys nL cc own) (hd : decode cc pc = .ok (.aastore, 1)) (he : w[q0]? = some (a, .inl (cA, n, .inr (.inr (.inr (.inr f)))))) (ht : tys[t0]? = some (cA, .array .int)) (hin : vp_in i n) (hw : w.set q0 (a, .inl (cA, n, .inr (.inr (.inr (.inr (va_up f i.toNatClampNeg none)))))) = w') (kk : zz_Z p l e R s m args below meth c A D nL Q (pc + 1) lv st w' cells slots) : zz_Z p l e R s m args below meth c A D nL Q pc lv (.null :: .int i :: .ref a :: st) w cells slots := by
  subst hw
  intro ls H locs hl hP hD hS T hT X
  have hcell : H[a]? = some (vp_cell cA (n, .inr (.inr (.inr (.inr f))))) := hP q0 _ he
  have hT' : T.heap[a]? = some (vp_cell cA (n, .inr (.inr (.inr (.inr f))))) := by rw [hT]; exact hcell
  obtain ⟨X', stp⟩ := zz_aastN0 X hC.1 hT' ((hC.2.2.2.2.2.2.1.2 t0 _ ht).1 n (fun j => va_rf (f j))) (fun h => by cases h) (by show ¬ (i < 0 ∨ (arrV _ _ _).slots.size ≤ _); rw [arrV_size]; exact hin) (g := F0 m pc ls (.null :: .int i :: .ref a :: st)) rfl rfl (by rw [hC.2.1]; exact hd)
  have hlt : a < T.heap.size := (Array.getElem?_eq_some_iff.mp hT').1
  have oq : ∀ q : Nat, q ≠ a → (T.setCell a ((vp_cell cA (n, .inr (.inr (.inr (.inr f))))).setSlot i.toNatClampNeg .null)).heap[q]? = H[q]? := fun q hq => by rw [heapAt_setCell_ne _ (Ne.symm hq), hT]
  obtain ⟨t', a1, b1⟩ := kk ls _ _ hl (hP.set hD he (e := .inl (cA, n, .inr (.inr (.inr (.inr (va_up f i.toNatClampNeg none)))))) (H1 := (T.setCell a ((vp_cell cA (n, .inr (.inr (.inr (.inr f))))).setSlot i.toNatClampNeg .null)).heap) (by
      show (T.setCell a _).heap[a]? = some (vp_cell _ _)
      rw [heapAt_setCell_self _ hlt]
      rw [vp_cell_q, vp_cell_q, arrV_store]
      congr 2
      funext q
      by_cases hq : q = i.toNatClampNeg
      · subst hq
        simp [updV, va_up, va_rf]
      · simp [updV, va_up, hq]) oq) (hD.set he) (hS.put (k := i.toNatClampNeg) (by rw [size_setCell, hT]) oq (hD.2 q0 _ he)) _ rfl X'
  exact ⟨t', stp t' a1, b1⟩
theorem zr_astA {a v : Nat} {cA cI : ClassId} {n k : Nat} {f : Nat → Option Nat} {z : Nat → Int32} {i : Int32} {w' : va_W} (q0 t0 t1 qk : Nat) (hC : zz_C p s m args c A D tys nL cc own) (hd : decode cc pc = .ok (.aastore, 1)) (he : w[q0]? = some (a, .inl (cA, n, .inr (.inr (.inr (.inr f)))))) (ht : tys[t0]? = some (cA, .array .int)) (hv : w[qk]? = some (v, .inl (cI, k, .inl z))) (ht1 : tys[t1]? = some (cI, .int)) (hin : vp_in i n) (hw : w.set q0 (a, .inl (cA, n, .inr (.inr (.inr (.inr (va_up f i.toNatClampNeg (some v))))))) = w') (kk : zz_Z p l e R s m args below meth c A D nL Q (pc + 1) lv st w' cells slots) : zz_Z p l e R s m args below meth c A D nL Q pc lv (.ref v :: .int i :: .ref a :: st) w cells slots := by
  subst hw
  intro ls H locs hl hP hD hS
  have hlt : i.toNatClampNeg < n := Nat.not_le.mp fun q => hin (Or.inr q)
  have h0 : ¬ i < 0 := fun q => hin (Or.inl q)
  obtain ⟨comp, c0, kA, f1, -, f2, f3, f4⟩ := arrayOverA_spec hC.2.2.2.2.2.2.2.2.2.2.2.1
  have r1 : s.vm.findClass ("[" ++ (FieldType.array .int).toString) = some cA := (hC.2.2.2.2.2.2.1.2 t0 _ ht).2
  have r2 : s.vm.findClass ("[" ++ FieldType.int.toString) = some cI := (hC.2.2.2.2.2.2.1.2 t1 _ ht1).2
  cases f4.symm.trans r1
  have r3 : s.vm.findClass (FieldType.array .int).toString = some cI := r2
  cases f1.symm.trans r3
  obtain ⟨kC, hkC, -⟩ := Vm.findClass_spec f1
  refine W.aast hC.1 hC.2.1 (hP q0 _ he) (fun q h => by cases h) (fun h => by cases h) f2 f3 rfl hkC ⟨h0, by show _ < (arrV _ _ _).slots.size; rw [arrV_size]; exact hlt⟩ (hP qk _ hv) (fun q h => by cases h) hkC (va_asg _ _) rfl rfl hd fun H1 e z oq => ?_
  refine kk ls H1 _ hl (hP.set hD he ?_ oq) (hD.set he) (hS.put z oq (hD.2 q0 _ he))
  show H1[a]? = some (vp_cell _ _)
  rw [e]
  rw [vp_cell_q, vp_cell_q, arrV_store]
  congr 2
  funext q
  by_cases hq : q = i.toNatClampNeg
  · subst hq
    simp [updV, va_up, va_rf]
  · simp [updV, va_up, hq]
theorem zr_newa {cI : ClassId} {n : Int32} {N' : Nat} (t0 : Nat) (hC : zz_C p s m args c A D tys nL cc own) (hd : decode cc pc = .ok (.newarray .int, 2)) (har : Cond.arrayClass .int ∈ zu_tbl) (ht : tys[t0]? = some (cI, .int)) (hn : ¬ n < 0) (hN : n.toNatClampNeg = N') (hbytes : N' ≤ 1000) (hcells : cells + 1 ≤ R.cells) (hslots : slots + N' ≤ R.slots) (kk : ∀ q : Nat, va_D A (w ++ [(q, .inl (cI, N', .inl (fun _ => 0)))]) → zz_Z p l e R s m args below meth c A D nL Q (pc + 2) lv (.ref q :: st) (w ++ [(q, .inl (cI, N', .inl (fun _ => 0)))]) (cells + 1) (slots + N')) : zz_Z p l e R s m args below meth c A D nL Q pc lv (.int n :: st) w cells slots := by
  intro ls H locs hl hP hD hS
  refine va_newa (atype := .int) (ty := .int) (a0 := (N', .inl (fun _ => 0))) (N' := N') hC.1 hC.2.1 (hC.2.2.2.2.1 _ har) rfl hC.2.2.2.2.2.2.1 hP hD hS hC.2.2.2.2.2.1 (fun _ => rfl) hn hN (by simp [componentBytes]; omega) hcells hslots hd ?_
  intro q cA H1 hK hP hD hS
  have r1 : s.vm.findClass ("[" ++ FieldType.int.toString) = some cA := (hK.2 tys.length (cA, .int) (by simp)).2
  have r2 : s.vm.findClass ("[" ++ FieldType.int.toString) = some cI := (hC.2.2.2.2.2.2.1.2 t0 _ ht).2
  cases r1.symm.trans r2
  exact kk q hD ls H1 locs hl hP hD hS
theorem zr_newA {cA : ClassId} {index : Nat} {n : Int32} {N' : Nat} (t0 : Nat) (hC : zz_C p s m args c A D tys nL cc own) (hd : decode cc pc = .ok (.anewarray index, 3)) (hcl : Cond.classLink own index (FieldType.array .int).toString ∈ zu_tbl) (ht : tys[t0]? = some (cA, .array .int)) (hn : ¬ n < 0) (hN : n.toNatClampNeg = N') (hbytes : N' ≤ 1000) (hcells : cells + 1 ≤ R.cells) (hslots : slots + N' ≤ R.slots) (kk : ∀ q : Nat, va_D A (w ++ [(q, .inl (cA, N', .inr (.inr (.inr (.inr (fun _ => none))))))]) → zz_Z p l e R s m args below meth c A D nL Q (pc + 3) lv (.ref q :: st) (w ++ [(q, .inl (cA, N', .inr (.inr (.inr (.inr (fun _ => none))))))]) (cells + 1) (slots + N')) : zz_Z p l e R s m args below meth c A D nL Q pc lv (.int n :: st) w cells slots := by
  intro ls H locs hl hP hD hS
  subst hN
  refine W.anewA hC.1 hC.2.1 hC.2.2.2.1 (hC.2.2.2.2.1 _ hcl) hC.2.2.2.2.2.2.2.2.2.2.2.1 rfl hd rfl hn (by omega) hcells hslots fun cB kA comp f1 f2 f3 f4 => ?_
  have r1 : s.vm.findClass ("[" ++ (FieldType.array .int).toString) = some cA := (hC.2.2.2.2.2.2.1.2 t0 _ ht).2
  cases f1.symm.trans r1
  generalize hH1 : H.push ({ cls := cA, slots := Array.replicate n.toNatClampNeg .null, vm := .none } : Cell) = H1
  have z1 : H1.size = H.size + 1 := by rw [← hH1, Array.size_push]
  have e1 : H1[H.size]? = some (arrV cA n.toNatClampNeg (fun _ => .null)) := by rw [← hH1, Array.getElem?_push_size, ← arrV_new]
  have o1 : ∀ q : Nat, q < H.size → H1[q]? = H[q]? := fun q hq => by rw [← hH1, Array.getElem?_push, if_neg (Nat.ne_of_lt hq)]
  have hk : ∀ (k : Nat) (x : Nat × va_E), w[k]? = some x → H1[x.1]? = H[x.1]? := fun k x hx => o1 x.1 ((hP k x hx).lt)
  have hD' : va_D A (w ++ [(H.size, .inl (cA, n.toNatClampNeg, .inr (.inr (.inr (.inr (fun _ => none))))))]) := hD.push hP rfl (hC.2.2.2.2.2.1 _ hS.1)
  refine kk H.size hD' ls H1 locs hl ((hP.kept hk).app (fun k x hx => ?_)) hD' ⟨Nat.le_trans hS.1 (by omega), fun x h1 h2 => (o1 x (Nat.lt_of_lt_of_le h1 hS.1)).trans (hS.2.1 x h1 h2), hS.2.2⟩
  have hz : k < 1 := (List.getElem?_eq_some_iff.mp hx).1
  rw [show k = 0 by omega] at hx
  cases hx
  show H1[H.size]? = some (vp_cell _ _)
  rw [vp_cell_q]
  exact e1
theorem zr_newq {cF : ClassId} {index : Nat} {n : Int32} {N' : Nat} (t0 : Nat) (hC : zz_C p s m args c A D tys nL cc own) (hd : decode cc pc = .ok (.anewarray index, 3)) (hcl : Cond.classLink own index RX0 ∈ zu_tbl) (ht : tys[t0]? = some (cF, .object RX0)) (hn : ¬ n < 0) (hN : n.toNatClampNeg = N') (hbytes : N' ≤ 1000) (hcells : cells + 1 ≤ R.cells) (hslots : slots + N' ≤ R.slots) (kk : ∀ q : Nat, va_D A (w ++ [(q, .inl (cF, N', .inr (.inr (.inr (.inr (fun _ => none))))))]) → zz_Z p l e R s m args below meth c A D nL Q (pc + 3) lv (.ref q :: st) (w ++ [(q, .inl (cF, N', .inr (.inr (.inr (.inr (fun _ => none))))))]) (cells + 1) (slots + N')) : zz_Z p l e R s m args below meth c A D nL Q pc lv (.int n :: st) w cells slots := by
  intro ls H locs hl hP hD hS
  refine va_newq hC.1 hC.2.1 hC.2.2.2.1 (hC.2.2.2.2.1 _ hcl) hC.2.2.2.2.2.2.2.2.2.2.2.2 hC.2.2.2.2.2.2.1 hP hD hS hC.2.2.2.2.2.1 hn hN (by omega) hcells hslots hd ?_
  intro q cA H1 hK hP hD hS
  obtain ⟨-, -, -, -, -, r1⟩ := (hK.2 tys.length (cA, .object RX0) (by simp)).2
  obtain ⟨-, -, -, -, -, r2⟩ := (hC.2.2.2.2.2.2.1.2 t0 _ ht).2
  cases r1.symm.trans r2
  exact kk q hD ls H1 locs hl hP hD hS
theorem zr_new {C : String} {T : u_T} {N ci index : Nat} {ty : Nat → FieldType} {fs : List Value} (hC : zz_C p s m args c A D tys nL cc own) (hin : ∀ w ∈ u_ws C T N, w ∈ zu_tbl) (hty : ∀ k, k < N → parseFieldDescriptor (T k).2.2.1 = some (ty k)) (hc : vwCl[ci]? = some (C, T, N)) (hd : decode cc pc = .ok (.new index, 3)) (hcl : Cond.classLink own index C ∈ zu_tbl) (hit : Cond.instantiable C N ∈ zu_tbl) (hii : Cond.initialized C ∈ zu_tbl) (hfs : ∀ j, j < N → defaultValue (ty j) = vp_V fs j) (hcells : cells + 1 ≤ R.cells) (hslots : slots + N ≤ R.slots) (kk : ∀ q : Nat, va_D A (w ++ [(q, .inr (ci, fs))]) → zz_Z p l e R s m args below meth c A D nL Q (pc + 3) lv (.ref q :: st) (w ++ [(q, .inr (ci, fs))]) (cells + 1) (slots + N)) : zz_Z p l e R s m args below meth c A D nL Q pc lv st w cells slots :=
  fun ls H locs hl hP hD hS => va_new hC.1 hC.2.1 hC.2.2.2.2.1 hin ty hty hC.2.2.2.1 (hC.2.2.2.2.1 _ hcl) (hC.2.2.2.2.1 _ hit) (hC.2.2.2.2.1 _ hii) hC.2.2.2.2.2.2.1 hP hD hS hC.2.2.2.2.2.1 hc hfs hcells hslots hd (fun q H1 hP hD hS => kk q hD ls H1 locs hl hP hD hS)
theorem zr_objInit {index a : Nat} (hC : zz_C p s m args c A D tys nL cc own) (hd : decode cc pc = .ok (.invokespecial index, 3)) (h1 : Cond.methodLink own index objectInit ∈ zu_tbl) (h2 : Cond.instanceMethod objectInit ∈ zu_tbl) (h3 : Cond.code objectInit ⟨#[0xb1]⟩ 1 none ∈ zu_tbl) (hfr : 1 ≤ R.frames) (hlo : (st.map fun v => v.category).sum + 12 ≤ R.locals) (kk : zz_Z p l e R s m args below meth c A D nL Q (pc + 3) lv st w cells slots) : zz_Z p l e R s m args below meth c A D nL Q pc lv (.ref a :: st) w cells slots := by
  intro ls H locs hl hP hD hS
  refine W.objInit hC.1 hC.2.1 hC.2.2.2.1 (hC.2.2.2.2.1 _ h1) (hC.2.2.2.2.1 _ h2) (hC.2.2.2.2.1 _ h3) rfl (by rw [hC.2.2.1]; exact hl.1) rfl hd hfr (by show 2 * 0 + _ + 12 ≤ _; omega) ?_
  exact W.eq (g2 := F0 m (pc + 3) ls st) rfl (kk ls H locs hl hP hD hS)
theorem zr_max {index : Nat} {x y : Int32} (hC : zz_C p s m args c A D tys nL cc own) (hd : decode cc pc = .ok (.invokestatic index, 3)) (h1 : Cond.methodLink own index Lib.Math.max.name ∈ zu_tbl) (h2 : Cond.static Lib.Math.max.name ∈ zu_tbl) (h3 : Cond.initialized "java/lang/Math" ∈ zu_tbl) (h4 : Cond.code Lib.Math.max.name Lib.Math.max.code 2 (some .int) ∈ zu_tbl) (hfr : 1 ≤ R.frames) (hlo : (st.map fun v => v.category).sum + 13 ≤ R.locals) (hcc : cells ≤ R.cells) (hss : slots ≤ R.slots) (kk : zz_Z p l e R s m args below meth c A D nL Q (pc + 3) lv (.int (if x < y then y else x) :: st) w cells slots) : zz_Z p l e R s m args below meth c A D nL Q pc lv (.int y :: .int x :: st) w cells slots :=
  fun ls H locs hl hP hD hS => va_mmax hC.1 hC.2.1 (by rw [hC.2.2.1]; exact hl.1.symm) hC.2.2.2.1 (hC.2.2.2.2.1 _ h1) (hC.2.2.2.2.1 _ h2) (hC.2.2.2.2.1 _ h3) (hC.2.2.2.2.1 _ h4) hfr hlo hcc hss hd (kk ls H locs hl hP hD hS)
theorem zr_min {index : Nat} {x y : Int32} (hC : zz_C p s m args c A D tys nL cc own) (hd : decode cc pc = .ok (.invokestatic index, 3)) (h1 : Cond.methodLink own index Lib.Math.min.name ∈ zu_tbl) (h2 : Cond.static Lib.Math.min.name ∈ zu_tbl) (h3 : Cond.initialized "java/lang/Math" ∈ zu_tbl) (h4 : Cond.code Lib.Math.min.name Lib.Math.min.code 2 (some .int) ∈ zu_tbl) (hfr : 1 ≤ R.frames) (hlo : (st.map fun v => v.category).sum + 13 ≤ R.locals) (hcc : cells ≤ R.cells) (hss : slots ≤ R.slots) (kk : zz_Z p l e R s m args below meth c A D nL Q (pc + 3) lv (.int (if y < x then y else x) :: st) w cells slots) : zz_Z p l e R s m args below meth c A D nL Q pc lv (.int y :: .int x :: st) w cells slots :=
  fun ls H locs hl hP hD hS => va_mmin hC.1 hC.2.1 (by rw [hC.2.2.1]; exact hl.1.symm) hC.2.2.2.1 (hC.2.2.2.2.1 _ h1) (hC.2.2.2.2.1 _ h2) (hC.2.2.2.2.1 _ h3) (hC.2.2.2.2.1 _ h4) hfr hlo hcc hss hd (kk ls H locs hl hP hD hS)
theorem zr_abs {index : Nat} {x : Int32} (hC : zz_C p s m args c A D tys nL cc own) (hd : decode cc pc = .ok (.invokestatic index, 3)) (h1 : Cond.methodLink own index Lib.Math.abs.name ∈ zu_tbl) (h2 : Cond.static Lib.Math.abs.name ∈ zu_tbl) (h3 : Cond.initialized "java/lang/Math" ∈ zu_tbl) (h4 : Cond.code Lib.Math.abs.name Lib.Math.abs.code 1 (some .int) ∈ zu_tbl) (hfr : 1 ≤ R.frames) (hlo : (st.map fun v => v.category).sum + 13 ≤ R.locals) (hcc : cells ≤ R.cells) (hss : slots ≤ R.slots) (kk : zz_Z p l e R s m args below meth c A D nL Q (pc + 3) lv (.int (if 0 ≤ x then x else 0 - x) :: st) w cells slots) : zz_Z p l e R s m args below meth c A D nL Q pc lv (.int x :: st) w cells slots :=
  fun ls H locs hl hP hD hS => va_mabs hC.1 hC.2.1 (by rw [hC.2.2.1]; exact hl.1.symm) hC.2.2.2.1 (hC.2.2.2.2.1 _ h1) (hC.2.2.2.2.1 _ h2) (hC.2.2.2.2.1 _ h3) (hC.2.2.2.2.1 _ h4) hfr hlo hcc hss hd (kk ls H locs hl hP hD hS)
end ZF
