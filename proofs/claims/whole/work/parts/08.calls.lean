/-! ===== contracts over a world of cells, and calls ===== -/
def zz_Q (D : va_G) (post : Option Value → va_W → Prop) (A : Nat → Prop) : Array Value → State → Outcome → State → Prop := fun _ st oc t =>
  (∃ (v : Option Value) (w' : va_W), oc = .returned v ∧ post v w' ∧ va_P D vwCl w' t.heap ∧ va_D A w') ∧ va_F A st t
def zz_P (D : va_G) (tys : List (ClassId × FieldType)) (av : List Value) (w : va_W) (sz : Nat) : Array Value → State → Prop :=
  va_Pc av (fun U => U.heap.size = sz ∧ va_P D vwCl w U.heap ∧ zz_K D tys U ∧ va_D (fun _ => True) w)
def zz_M (l : Launch) (D : va_G) (tys : List (ClassId × FieldType)) (y : MethodName) (bytes : ByteArray) (maxL : Nat) (ret : Option FieldType) (fr lo mc ms : Nat) (av : List Value) (w : va_W) (post : Option Value → va_W → Prop) : Prop :=
  ∀ sz : Nat, Met l y (Cond.code y bytes maxL ret :: zu_tbl) { frames := fr, cells := mc, slots := ms, locals := lo } (zz_P D tys av w sz) (zz_Q D post (va_A w sz)) mc ms (va_A w sz)
theorem zz_blind {D : va_G} {tys : List (ClassId × FieldType)} {av : List Value} {w : va_W} {sz : Nat} : FrameBlind (zz_P D tys av w sz) := fun a U g mk q => by
  obtain ⟨q0, q1, qP, qK, qD⟩ := q
  exact ⟨q0, q1, qP, ⟨va_K.moved (u := U) (U := U.calling g mk a) (Vm.Alike.refl U.vm) qK.1, zz_bad.same (u := U) (U := U.calling g mk a) rfl qK.2⟩, qD⟩
theorem zz_good {y : MethodName} {bytes : ByteArray} {maxL : Nat} {ret : Option FieldType} (h : Cond.code y bytes maxL ret ∈ zu_tbl) : GoodIn zu_tbl (Cond.code y bytes maxL ret :: zu_tbl) := fun w hw => by
  have hm : w ∈ zu_tbl := (List.mem_cons.mp hw).elim (fun e => e ▸ h) id
  exact ⟨hm, good_of_word (List.mem_filter.mp hm).2⟩
section ZC
variable {p : Program} {l : Launch} {e : Env} {R : Room} {s : State} {m : MethodId} {args : Array Value} {below : List Frame} {meth : Method} {c : Code} {A : Nat → Prop} {D : va_G} {tys : List (ClassId × FieldType)} {nL : Nat} {Q : State → Prop} {cc : ByteArray} {own : String} {pc : Nat} {lv : List (Nat × Value)} {st : List Value} {w : va_W} {cells slots : Nat}
variable {y : MethodName} {bytes : ByteArray} {maxL : Nat} {ret : Option FieldType} {fr lo mc ms : Nat} {post : Option Value → va_W → Prop}
/-- behind a call: the world around it, and what came back -/
theorem zz_back {wr w1 : va_W} {H H1 : Heap} {locs L : List Loc} {t : State} (hP : va_P D vwCl (wr ++ w) H) (hD : va_D A (wr ++ w)) (hS : va_S A s.heap H locs) (hA : ∀ q : Nat, s.heap.size ≤ q → A q) (hz : H.size ≤ H1.size) (hk : ∀ q : Nat, q < H.size → ¬ va_A w H.size q → H1[q]? = H[q]?) (hP1 : va_P D vwCl w1 H1) (hD1 : va_D (va_A w H.size) w1) (hL : ∀ q ∈ L, va_A w H.size q.base) :
    va_P D vwCl (wr ++ w1) H1 ∧ va_D A (wr ++ w1) ∧ va_S A s.heap H1 (locs ++ L) := by
  have inw : ∀ (k : Nat) (q : Nat × va_E), w[k]? = some q → (wr ++ w)[wr.length + k]? = some q := fun k q h => by
    rw [List.getElem?_append_right (by omega), Nat.add_sub_cancel_left]; exact h
  have inr : ∀ (k : Nat) (q : Nat × va_E), wr[k]? = some q → (wr ++ w)[k]? = some q := fun k q h => by
    rw [List.getElem?_append_left (List.getElem?_eq_some_iff.mp h).1]; exact h
  have hF : ∀ q, va_A w H.size q → A q := by
    intro q h
    rcases h with ⟨k, e0, h⟩ | h
    · exact hD.2 _ (q, e0) (inw k _ h)
    · exact hA q (Nat.le_trans hS.1 h)
  have apart : ∀ (k : Nat) (q : Nat × va_E), wr[k]? = some q → q.1 < H.size ∧ ¬ va_A w H.size q.1 := by
    intro k q hq
    have hl := (hP k q (inr k q hq)).lt
    refine ⟨hl, fun h => ?_⟩
    rcases h with ⟨k2, e0, h⟩ | h
    · have := hD.1 k (wr.length + k2) q (q.1, e0) (inr k q hq) (inw k2 _ h) rfl
      have hlen := (List.getElem?_eq_some_iff.mp hq).1
      omega
    · omega
  refine ⟨va_P.app (fun k q hq => (hP k q (inr k q hq)).kept (hk q.1 (apart k q hq).1 (apart k q hq).2)) hP1, va_D.app ?_ (hD1.weaken (fun k q _ h => hF q.1 h)) (fun i j x y0 hx hy hxy => (apart i x hx).2 (by rw [hxy]; exact hD1.2 j y0 hy)), ?_⟩
  · exact ⟨fun i j x y0 hi hj hxy => hD.1 i j x y0 (inr i x hi) (inr j y0 hj) hxy, fun k q hq => hD.2 k q (inr k q hq)⟩
  · refine ⟨Nat.le_trans hS.1 hz, fun q h1 h2 => ?_, fun q hq => ?_⟩
    · rw [hk q (Nat.lt_of_lt_of_le h1 hS.1) (fun z => h2 (hF q z))]
      exact hS.2.1 q h1 h2
    · rcases List.mem_append.mp hq with h | h
      · exact hS.2.2 q h
      · exact hF _ (hL q h)
/-- a run of a call gives the judgement behind it -/
theorem zz_run {wr : va_W} {st0 : List Value} {av : List Value} {a : Array Value} (hC : zz_C p s m args c A D tys nL cc own) (hr : ∀ (ls : Array Slot) (H : Heap) (locs : List Loc), lv_has ls nL lv → va_P D vwCl (wr ++ w) H → va_D A (wr ++ w) → va_Run p l e R s m args below meth c H locs cells slots mc ms (F0 m pc ls st0) st (zz_Q D post (va_A w H.size) a) (va_A w H.size))
    (kk : ∀ (v : Option Value) (w1 : va_W), post v w1 → zz_Z p l e R s m args below meth c A D nL Q (pc + 3) lv (v.toList ++ st) (wr ++ w1) (cells + mc) (slots + ms)) : zz_Z p l e R s m args below meth c A D nL Q pc lv st0 (wr ++ w) cells slots := by
  intro ls H locs hl hP hD hS T hT X
  obtain ⟨v, st₀, t, T', L, h0, X', hL, e1, e2, ⟨⟨v', w1, hv, hp, hP1, hD1⟩, hz, hk⟩, stp⟩ := hr ls H locs hl hP hD T hT X
  cases hv
  rw [h0] at hz hk
  obtain ⟨b1, b2, b3⟩ := zz_back (t := t) (H1 := T'.heap) hP hD hS hC.2.2.2.2.2.1 (by rw [e1]; exact hz) (fun q h1 h2 => by rw [e1]; exact hk q h1 h2) (by rw [e1]; exact hP1) hD1 hL
  obtain ⟨t2, a1, a2⟩ := kk v w1 hp ls T'.heap (locs ++ L) hl b1 b2 b3 T' rfl X'
  exact ⟨t2, stp t2 a1, a2⟩
theorem zz_sub {wr : va_W} {H : Heap} (hP : va_P D vwCl (wr ++ w) H) (hD : va_D A (wr ++ w)) : va_P D vwCl w H ∧ va_D (fun _ => True) w := by
  have inw : ∀ (k : Nat) (q : Nat × va_E), w[k]? = some q → (wr ++ w)[wr.length + k]? = some q := fun k q h => by
    rw [List.getElem?_append_right (by omega), Nat.add_sub_cancel_left]; exact h
  exact ⟨fun k q h => hP _ q (inw k q h), fun i j x y0 hi hj hxy => by have := hD.1 _ _ x y0 (inw i x hi) (inw j y0 hj) hxy; omega, fun _ _ _ => trivial⟩
def zz_nice (y : MethodName) (C : String) (n : Nat) : Prop := y.cls = C ∧ y.cls ≠ "java/lang/invoke/MethodHandle" ∧ y.cls ≠ "java/lang/invoke/VarHandle" ∧ (parseMethodDescriptor y.desc).map (fun d => d.parameters.length) = some n
/-- words of a callee that any caller needs -/
def zz_V (y : MethodName) (C : String) (bytes : ByteArray) (maxL : Nat) (ret : Option FieldType) (n : Nat) : Prop := Cond.instanceMethod y ∈ zu_tbl ∧ Cond.selects C y y ∈ zu_tbl ∧ Cond.initialized C ∈ zu_tbl ∧ Cond.code y bytes maxL ret ∈ zu_tbl ∧ zz_nice y C n
def zz_S (y : MethodName) (C : String) (bytes : ByteArray) (maxL : Nat) (ret : Option FieldType) (n : Nat) : Prop := Cond.static y ∈ zu_tbl ∧ Cond.initialized C ∈ zu_tbl ∧ Cond.code y bytes maxL ret ∈ zu_tbl ∧ zz_nice y C n
def zz_I (y : MethodName) (C : String) (bytes : ByteArray) (maxL : Nat) (n : Nat) : Prop := Cond.instanceMethod y ∈ zu_tbl ∧ Cond.initialized C ∈ zu_tbl ∧ Cond.code y bytes maxL none ∈ zu_tbl ∧ zz_nice y C n ∧ y.name = "<init>"
theorem zr_callV {wr : va_W} {C : String} {index n b ci q0 : Nat} {As st0 : List Value} {fs : List Value} {r : vw_C} (hC : zz_C p s m args c A D tys nL cc own) (hV : zz_V y C bytes maxL ret n) (hlk : Cond.methodLink own index y ∈ zu_tbl) (hM : zz_M l D tys y bytes maxL ret fr lo mc ms (.ref b :: As) w post) (hd : decode cc pc = .ok (.invokevirtual index, 3)) (hR : fr + 1 ≤ R.frames ∧ 8 + (maxL + 11) + lo ≤ R.locals) (hf : cells + mc ≤ R.cells ∧ slots + ms ≤ R.slots) (hcl : vwCl[ci]? = some r) (hrC : r.1 = C) (he : w[q0]? = some (b, .inr (ci, fs))) (hst : st0 = As.reverse ++ .ref b :: st) (hn : As.length = n) (hcat : (st.map fun v => v.category).sum ≤ 8)
    (kk : ∀ (v : Option Value) (w1 : va_W), post v w1 → zz_Z p l e R s m args below meth c A D nL Q (pc + 3) lv (v.toList ++ st) (wr ++ w1) (cells + mc) (slots + ms)) : zz_Z p l e R s m args below meth c A D nL Q pc lv st0 (wr ++ w) cells slots := by
  obtain ⟨v1, v2, v3, v4, v5⟩ := hV
  have hCW : CallW R s args own C index y bytes maxL ret (Cond.code y bytes maxL ret :: zu_tbl) { frames := fr, cells := mc, slots := ms, locals := lo } mc ms n :=
    ⟨callB_of n hC.2.2.2.2.1 (zz_good v4) rfl rfl rfl (by rw [v5.1]; exact hC.2.2.2.2.1 _ v3) (hC.2.2.2.2.1 _ hlk) v5.2 hR, hC.2.2.2.2.1 _ v1, hC.2.2.2.2.1 _ v2⟩
  refine zz_run (av := .ref b :: As) (a := (Value.ref b :: As).toArray) (post := post) (mc := mc) (ms := ms) hC (fun ls H locs hl hP hD => ?_) kk
  obtain ⟨hPc, hDc⟩ := zz_sub hP hD
  exact va_runV ⟨hC.1, hC.2.1, hC.2.2.1, hC.2.2.2.1, hC.2.2.2.2.1⟩ (hM H.size) hCW ⟨zz_blind, by rw [← hrC]; exact va_recv hC.2.2.2.2.2.2.1 hPc hcl he, fun U hU hW => ⟨rfl, by rw [hU], by rw [hU]; exact hPc, ⟨va_K.moved hW.alike hC.2.2.2.2.2.2.1, zz_bad.warm hW hC.2.2.2.2.2.2.2⟩, hDc⟩⟩ rfl hn hl.1 hst (by show 2 * 0 + _ ≤ 8; omega) hd hf
theorem zr_callS {wr : va_W} {index n : Nat} {As st0 : List Value} (hC : zz_C p s m args c A D tys nL cc own) (hV : zz_S y own bytes maxL ret n) (hlk : Cond.methodLink own index y ∈ zu_tbl) (hM : zz_M l D tys y bytes maxL ret fr lo mc ms As w post) (hd : decode cc pc = .ok (.invokestatic index, 3)) (hR : fr + 1 ≤ R.frames ∧ 8 + (maxL + 11) + lo ≤ R.locals) (hf : cells + mc ≤ R.cells ∧ slots + ms ≤ R.slots) (hst : st0 = As.reverse ++ st) (hn : As.length = n) (hcat : (st.map fun v => v.category).sum ≤ 8)
    (kk : ∀ (v : Option Value) (w1 : va_W), post v w1 → zz_Z p l e R s m args below meth c A D nL Q (pc + 3) lv (v.toList ++ st) (wr ++ w1) (cells + mc) (slots + ms)) : zz_Z p l e R s m args below meth c A D nL Q pc lv st0 (wr ++ w) cells slots := by
  obtain ⟨v1, v3, v4, v5⟩ := hV
  have hCB : CallB R s args own index y bytes maxL ret (Cond.code y bytes maxL ret :: zu_tbl) { frames := fr, cells := mc, slots := ms, locals := lo } mc ms n :=
    callB_of n hC.2.2.2.2.1 (zz_good v4) rfl rfl rfl (by rw [v5.1]; exact hC.2.2.2.2.1 _ v3) (hC.2.2.2.2.1 _ hlk) v5.2 hR
  refine zz_run (av := As) (a := As.toArray) (post := post) (mc := mc) (ms := ms) hC (fun ls H locs hl hP hD => ?_) kk
  obtain ⟨hPc, hDc⟩ := zz_sub hP hD
  exact va_runS ⟨hC.1, hC.2.1, hC.2.2.1, hC.2.2.2.1, hC.2.2.2.2.1⟩ (hM H.size) ⟨hCB, hC.2.2.2.2.1 _ v1⟩ ⟨zz_blind, fun U hU hW => ⟨rfl, by rw [hU], by rw [hU]; exact hPc, ⟨va_K.moved hW.alike hC.2.2.2.2.2.2.1, zz_bad.warm hW hC.2.2.2.2.2.2.2⟩, hDc⟩⟩ rfl hn hl.1 hst (by show 2 * 0 + _ ≤ 8; omega) hd hf
theorem zr_callI {wr : va_W} {C : String} {index n b : Nat} {As st0 : List Value} (hC : zz_C p s m args c A D tys nL cc own) (hV : zz_I y C bytes maxL n) (hlk : Cond.methodLink own index y ∈ zu_tbl) (hM : zz_M l D tys y bytes maxL none fr lo mc ms (.ref b :: As) w post) (hd : decode cc pc = .ok (.invokespecial index, 3)) (hR : fr + 1 ≤ R.frames ∧ 8 + (maxL + 11) + lo ≤ R.locals) (hf : cells + mc ≤ R.cells ∧ slots + ms ≤ R.slots) (hst : st0 = As.reverse ++ .ref b :: st) (hn : As.length = n) (hcat : (st.map fun v => v.category).sum ≤ 8)
    (kk : ∀ (v : Option Value) (w1 : va_W), post v w1 → zz_Z p l e R s m args below meth c A D nL Q (pc + 3) lv (v.toList ++ st) (wr ++ w1) (cells + mc) (slots + ms)) : zz_Z p l e R s m args below meth c A D nL Q pc lv st0 (wr ++ w) cells slots := by
  obtain ⟨v1, v3, v4, v5, v6⟩ := hV
  have hCB : CallB R s args own index y bytes maxL none (Cond.code y bytes maxL none :: zu_tbl) { frames := fr, cells := mc, slots := ms, locals := lo } mc ms n :=
    callB_of n hC.2.2.2.2.1 (zz_good v4) rfl rfl rfl (by rw [v5.1]; exact hC.2.2.2.2.1 _ v3) (hC.2.2.2.2.1 _ hlk) v5.2 hR
  refine zz_run (av := .ref b :: As) (a := (Value.ref b :: As).toArray) (post := post) (mc := mc) (ms := ms) hC (fun ls H locs hl hP hD => ?_) kk
  obtain ⟨hPc, hDc⟩ := zz_sub hP hD
  exact va_runI ⟨hC.1, hC.2.1, hC.2.2.1, hC.2.2.2.1, hC.2.2.2.2.1⟩ (hM H.size) ⟨hCB, v6, hC.2.2.2.2.1 _ v1⟩ ⟨zz_blind, fun U hU hW => ⟨rfl, by rw [hU], by rw [hU]; exact hPc, ⟨va_K.moved hW.alike hC.2.2.2.2.2.2.1, zz_bad.warm hW hC.2.2.2.2.2.2.2⟩, hDc⟩⟩ rfl hn hl.1 hst (by show 2 * 0 + _ ≤ 8; omega) hd hf
theorem zr_callIN {wr : va_W} {C : String} {index n b : Nat} {As st0 : List Value} (hC : zz_C p s m args c A D tys nL cc own) (hV : zz_I y C bytes maxL n) {host : String} (hlk : va_Nw (.methodLinkNest own index y host) s) (hM : zz_M l D tys y bytes maxL none fr lo mc ms (.ref b :: As) w post) (hd : decode cc pc = .ok (.invokespecial index, 3)) (hR : fr + 1 ≤ R.frames ∧ 8 + (maxL + 11) + lo ≤ R.locals) (hf : cells + mc ≤ R.cells ∧ slots + ms ≤ R.slots) (hst : st0 = As.reverse ++ .ref b :: st) (hn : As.length = n) (hcat : (st.map fun v => v.category).sum ≤ 8)
    (kk : ∀ (v : Option Value) (w1 : va_W), post v w1 → zz_Z p l e R s m args below meth c A D nL Q (pc + 3) lv (v.toList ++ st) (wr ++ w1) (cells + mc) (slots + ms)) : zz_Z p l e R s m args below meth c A D nL Q pc lv st0 (wr ++ w) cells slots := by
  obtain ⟨v1, v3, v4, v5, v6⟩ := hV
  have hCB : va_CN R s args own index y host bytes maxL none (Cond.code y bytes maxL none :: zu_tbl) { frames := fr, cells := mc, slots := ms, locals := lo } mc ms n :=
    va_cnB n hC.2.2.2.2.1 (zz_good v4) rfl rfl rfl hlk (by rw [v5.1]; exact hC.2.2.2.2.1 _ v3) v5.2 hR
  refine zz_run (av := .ref b :: As) (a := (Value.ref b :: As).toArray) (post := post) (mc := mc) (ms := ms) hC (fun ls H locs hl hP hD => ?_) kk
  obtain ⟨hPc, hDc⟩ := zz_sub hP hD
  exact va_runIN ⟨hC.1, hC.2.1, hC.2.2.1, hC.2.2.2.1, hC.2.2.2.2.1⟩ (hM H.size) ⟨hCB, v6, hC.2.2.2.2.1 _ v1⟩ ⟨zz_blind, fun U hU hW => ⟨rfl, by rw [hU], by rw [hU]; exact hPc, ⟨va_K.moved hW.alike hC.2.2.2.2.2.2.1, zz_bad.warm hW hC.2.2.2.2.2.2.2⟩, hDc⟩⟩ rfl hn hl.1 hst (by show 2 * 0 + _ ≤ 8; omega) hd hf
/-- a method's contract out of its walk -/
theorem zz_mk {av : List Value} (hy : plainName y.cls = true) (hlen : (lg_sl av).length ≤ maxL)
    (body : ∀ (p : Program) (e : Env) (s : State) (m : MethodId) (below : List Frame) (meth : Method) (c : Code) (A : Nat → Prop), zz_C p s m av.toArray c A D tys maxL bytes y.cls → meth.sig.returnType = ret → meth.locks = false → meth.name = y.name →
      zz_Z p l e { frames := fr, cells := mc, slots := ms, locals := lo } s m av.toArray below meth c A D maxL (MQ below (zz_Q D post A) av.toArray s mc ms A) 0 (lv_args 0 av) [] w 0 0) : zz_M l D tys y bytes maxL ret fr lo mc ms av w post := by
  intro sz
  refine Met.ofW (cc := bytes) (maxL := maxL) (ret := ret) hy rfl ?_
  intro p e s m args below meth c s₁ B hml hv
  obtain ⟨rfl, hsz, hP, hK, hD0⟩ := hv
  have hts := atoms_spec (ws := Cond.code y bytes maxL ret :: zu_tbl) B.pre
  have hown : s.vm.findClass y.cls = some m.cls := findClass_of_methodNamed B.named
  subst hsz
  have hl := lv_entry av (n := maxL) hlen
  rw [lg_entry_eq]
  exact body p e s m below meth c (va_A w s.heap.size) ⟨B.exec, B.bytes, hml, hown, fun x h => hts x (List.mem_cons_of_mem _ h), fun q h => Or.inr h, hK⟩ B.returns B.notSynchronized (name_of_methodNamed B.named B.method).1 _ _ _ hl hP hD0.self va_S.rf
theorem zr_iret {v : Int32} (hC : zz_C p s m args c A D tys nL cc own) (hr : meth.sig.returnType = some .int) (hlocks : meth.locks = false) (hd : decode cc pc = .ok (.ireturn, 1)) (hc : cells ≤ mc) (hs : slots ≤ ms) (hp : post (some (.int v)) w) : zz_Z p l e R s m args below meth c A D nL (MQ below (zz_Q D post A) args s mc ms A) pc lv [.int v] w cells slots := by
  intro ls H locs hl hP hD hS
  refine W.widen hc hs ?_
  exact W.iret hC.1 hC.2.1 hr (fun t ht hW => ⟨⟨_, w, rfl, hp, by rw [ht]; exact hP, hD⟩, hS.F ht⟩) hS.2.2 hd hlocks
theorem zr_zret {v : Int32} (hC : zz_C p s m args c A D tys nL cc own) (hr : meth.sig.returnType = some .boolean) (hlocks : meth.locks = false) (hd : decode cc pc = .ok (.ireturn, 1)) (hn : narrow .boolean (.int v) = .int v) (hc : cells ≤ mc) (hs : slots ≤ ms) (hp : post (some (.int v)) w) : zz_Z p l e R s m args below meth c A D nL (MQ below (zz_Q D post A) args s mc ms A) pc lv [.int v] w cells slots := by
  intro ls H locs hl hP hD hS
  refine W.widen hc hs ?_
  exact W.zret hC.1 hC.2.1 hr hn (fun t ht hW => ⟨⟨_, w, rfl, hp, by rw [ht]; exact hP, hD⟩, hS.F ht⟩) hS.2.2 hd hlocks
theorem zr_aret {v : Option Nat} {ty : FieldType} (hC : zz_C p s m args c A D tys nL cc own) (hr : meth.sig.returnType = some (.array ty)) (hlocks : meth.locks = false) (hd : decode cc pc = .ok (.areturn, 1)) (hc : cells ≤ mc) (hs : slots ≤ ms) (hp : post (some (va_rf v)) w) : zz_Z p l e R s m args below meth c A D nL (MQ below (zz_Q D post A) args s mc ms A) pc lv [va_rf v] w cells slots := by
  intro ls H locs hl hP hD hS
  refine W.widen hc hs ?_
  exact W.aret hC.1 hC.2.1 hr (Or.inr ⟨_, rfl⟩) (va_rf_or v) (fun t ht hW => ⟨⟨_, w, rfl, hp, by rw [ht]; exact hP, hD⟩, hS.F ht⟩) hS.2.2 hd hlocks
theorem zr_vret (hC : zz_C p s m args c A D tys nL cc own) (hr : meth.sig.returnType = none) (hlocks : meth.locks = false) (hd : decode cc pc = .ok (.return_, 1)) (hc : cells ≤ mc) (hs : slots ≤ ms) (hp : post none w) : zz_Z p l e R s m args below meth c A D nL (MQ below (zz_Q D post A) args s mc ms A) pc lv [] w cells slots := by
  intro ls H locs hl hP hD hS
  refine W.widen hc hs ?_
  exact W.vret hC.1 hC.2.1 hr (fun t ht hW => ⟨⟨_, w, rfl, hp, by rw [ht]; exact hP, hD⟩, hS.F ht⟩) hS.2.2 hd hlocks
end ZC
