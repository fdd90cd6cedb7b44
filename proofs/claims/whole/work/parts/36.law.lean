/-! THE CLAIM OUT OF ONE WALK OF THE LAW'S BODY. Your part is whole_start (and what it stands on); all else here is the same for every law, but numbers. -/
def R_law : String := "LampLoftLaw"
def lw_P (b : Addr) (xs : List Int32) (args : Array Value) (s : State) : Prop := args = #[.ref b] ∧ s.IntsAt b xs ∧ xs.length ≤ 3072 ∧ (Jvm.Cond.and given_1 narrow_1).before args s = true
def lw_Q (_ : Array Value) (s : State) (o : Outcome) (t : State) : Prop := o = .returned (some (.int 1)) ∧ Framed s o t [] 600000 7302250
def lw_Z (below : List Frame) (a : Array Value) (s : State) : State → Prop := fun t => ∃ o, t.status = .running ∧ Ended t below o ∧ lw_Q a s o t
/-- the law's own end, with 1 on the stack, nothing written that was there before, its room as the claim has it -/
theorem lw_ret {p : Program} {l : Launch} {e : Env} {s : State} {m : MethodId} {below : List Frame} {meth : Method} {c : Code} {b : Nat} (hx : p.tables.exec = Jvm.exec) (hb : c.code = code) (hr : meth.sig.returnType = ret) (hlocks : meth.locks = false) {pc : Nat} {H : Heap} {ls : Array Slot} (hdg : decode code pc = .ok (.ireturn, 1)) : W p l e room_1 s m #[Value.ref b] below meth c H [] 600000 7302250 (lw_Z below #[Value.ref b] s) (F0 m pc ls [.int 1]) := by
  intro T hT X
  obtain ⟨fs, hret, hrun, hended, hW, hframe⟩ := X.leave (v := some (.int 1)) (hlocks := hlocks) (fun h => by rw [hr] at h; cases h)
  have hmeth' : T.vm.method? m = some meth := X.method'
  refine ⟨T.setFrames fs, ?_, .returned (some (.int 1)), hrun, hended, rfl, ⟨_, rfl⟩, hW, hframe⟩
  jvm_step X.here [X.here.top, hx, hb, hdg, hmeth', hr, ret, narrow_b1]
  (try refine ⟨rfl, ?_⟩); (try refine ⟨rfl, ?_⟩)
  first | (intro acts; rw [hret _ acts rfl rfl rfl]) | rw [hret _ _ rfl rfl rfl]
  exact Steps.refl _
/-- what holds at the law's entry: the machine, the code, the tables' words (any of lw_tbl by 'hts w (by decide +kernel)'), the script of L ints xs at the cell b, what the Statement gives of the start (any of its parts by flat_of_before) -/
def lw_At (p : Program) (s : State) (m : MethodId) (meth : Method) (c : Code) (b L : Nat) (xs : Nat → Int32) : Prop :=
  p.tables.exec = Jvm.exec ∧ c.code = code ∧ meth.sig.returnType = ret ∧ c.maxLocals = 4 ∧ s.vm.findClass R_law = some m.cls ∧ (∀ w ∈ lw_tbl, w.before #[Value.ref b] s = true) ∧ va_X b L xs s s.heap ∧ b < s.heap.size ∧ meth.locks = false ∧ (Jvm.Cond.and given_1 narrow_1).before #[Value.ref b] s = true

section ZLW
variable {p : Program} {l : Launch} {e : Env} {R : Room} {s : State} {m : MethodId} {args : Array Value} {below : List Frame} {meth : Method} {c : Code} {A : Nat → Prop} {D : va_G} {tys : List (ClassId × FieldType)} {nL : Nat} {Q : State → Prop} {cc : ByteArray} {own : String} {pc : Nat} {lv : List (Nat × Value)} {st : List Value} {w : va_W} {cells slots : Nat}
theorem zr_swap {w1 w2 : va_W} (kk : zz_Z p l e R s m args below meth c A D nL Q pc lv st (w2 ++ w1) cells slots) : zz_Z p l e R s m args below meth c A D nL Q pc lv st (w1 ++ w2) cells slots :=
  fun ls H locs hl hP hD hS => kk ls H locs hl (va_P.swap (a := []) (b := w1) (c := w2) hP) (va_D.swap (a := []) (b := w1) (c := w2) hD) hS
theorem zr_sldj {b L j : Nat} {xs : Nat → Int32} {i : Int32} (hC : zz_C p s m args c A D tys nL cc own) (hX : va_X b L xs s s.heap) (hbl : b < s.heap.size) (hbA : ¬ A b) (hL : L ≤ 3072) (hd : decode cc pc = .ok (.iaload, 1)) (hj : j < L) (hi : i = nI j) (kk : zz_Z p l e R s m args below meth c A D nL Q (pc + 1) lv (.int (xs j) :: st) w cells slots) : zz_Z p l e R s m args below meth c A D nL Q pc lv (.int i :: .ref b :: st) w cells slots := by
  subst hi
  have hjj : (nI j).toNatClampNeg = j := nI_clamp (by omega)
  intro ls H locs hl hP hD hS
  refine va_sld hC.1 hC.2.1 hX hbl hbA hS (vp_in_nI hj (by omega)) hd ?_
  rw [hjj]
  exact kk ls H locs hl hP hD hS
theorem zr_slen {b L : Nat} {xs : Nat → Int32} (hC : zz_C p s m args c A D tys nL cc own) (hX : va_X b L xs s s.heap) (hbl : b < s.heap.size) (hbA : ¬ A b) (hd : decode cc pc = .ok (.arraylength, 1)) (kk : zz_Z p l e R s m args below meth c A D nL Q (pc + 1) lv (.int (nI L) :: st) w cells slots) : zz_Z p l e R s m args below meth c A D nL Q pc lv (.ref b :: st) w cells slots :=
  fun ls H locs hl hP hD hS => va_slen hC.1 hC.2.1 hX hbl hbA hS hd (kk ls H locs hl hP hD hS)
theorem zr_lend {b : Nat} (hC : zz_C p s m #[Value.ref b] c (fun q : Nat => s.heap.size ≤ q) D tys nL code own) (hr : meth.sig.returnType = ret) (hlocks : meth.locks = false) (hd : decode code pc = .ok (.ireturn, 1)) (hc : cells ≤ 600000) (hs : slots ≤ 7302250) : zz_Z p l e room_1 s m #[Value.ref b] below meth c (fun q : Nat => s.heap.size ≤ q) D nL (lw_Z below #[Value.ref b] s) pc lv [.int 1] w cells slots := by
  intro ls H locs hl hP hD hS
  refine va_forget (fun q hq => hS.2.2 q hq) ?_
  refine W.widen hc hs ?_
  exact lw_ret hC.1 hC.2.1 hr hlocks hd
end ZLW
theorem zn_six {L j : Nat} (hL : L ≤ 3072) (hj : j ≤ 3072) (h : ¬ nI L - 6 < nI j) : j + 6 ≤ L := by
  have h1 : ¬ (nI L - nI 6).toInt < (nI j).toInt := fun q => h (Int32.lt_iff_toInt_lt.mpr q)
  rw [pk_sub_toInt (by omega) (by omega), nI_toInt (by omega)] at h1
  omega
section ZLL
variable {l : Launch} {D : va_G} {cI cII cF : ClassId} {o rk sp pp fp mo m1 m2 m3 m4 m5 m6 m7 m8 m9 : Nat}
set_option maxRecDepth 100000 in
set_option maxHeartbeats 8000000 in
/-- THE LAW'S LOOP: at its head, with k calls done, class and reference hold one state -/
theorem law_loop {p : Program} {e : Env} {s : State} {m : MethodId} {below : List Frame} {meth : Method} {c : Code} {b L : Nat} {xs : Nat → Int32} (hL : L ≤ 3072) (hC : zz_C p s m #[Value.ref b] c (fun q : Nat => s.heap.size ≤ q) D (zt cI cII cF) 4 cL_law RL) (hr : meth.sig.returnType = ret) (hlocks : meth.locks = false) (hX : va_X b L xs s s.heap) (hbl : b < s.heap.size) {a0 : ax_A} {x0 : cx_X} {y0 : mx_X} (h0c : rc_R cI cII a0 x0) (h0m : rm_R a0 y0) :
    zz_Z p l e room_1 s m #[Value.ref b] below meth c (fun q : Nat => s.heap.size ≤ q) D 4 (lw_Z below #[Value.ref b] s) 18 [(3, .int 0), (0, .ref b), (1, .ref o), (2, .ref mo)] [] (mw_W mo m1 m2 m3 m4 m5 m6 m7 m8 m9 cI a0 y0 ++ cw_W o rk sp pp fp cII cF a0 x0) (15 + 13 * 0) (947 + 156 * 0) := by
  have hbA : ¬ (fun q : Nat => s.heap.size ≤ q) b := Nat.not_le.mpr hbl
  refine zr_loopC (σ := Nat × Int32 × ax_A × cx_X × mx_X) (fun t => [(3, .int t.2.1), (0, .ref b), (1, .ref o), (2, .ref mo)]) (fun t => mw_W mo m1 m2 m3 m4 m5 m6 m7 m8 m9 cI t.2.2.1 t.2.2.2.2 ++ cw_W o rk sp pp fp cII cF t.2.2.1 t.2.2.2.1) (fun t => 15 + 13 * t.1) (fun t => 947 + 156 * t.1) (fun t => 6 * t.1 ≤ L ∧ t.2.1 = nI (6 * t.1) ∧ rc_R cI cII t.2.2.1 t.2.2.2.1 ∧ rm_R t.2.2.1 t.2.2.2.2) (fun t => L - 6 * t.1) ?_ (0, 0, a0, x0, y0) ⟨Nat.zero_le _, rfl, h0c, h0m⟩
  rintro ⟨k, i1, a1, x1, y1⟩ ⟨hk1, hk2, hRc, hRm⟩ ih
  try dsimp only at hk1
  try dsimp only at hk2
  try dsimp only at hRc
  try dsimp only at hRm
  show zz_Z _ _ _ _ _ _ _ _ _ _ _ _ _ _ 18 [(3, .int i1), (0, .ref b), (1, .ref o), (2, .ref mo)] [] (mw_W mo m1 m2 m3 m4 m5 m6 m7 m8 m9 cI a1 y1 ++ cw_W o rk sp pp fp cII cF a1 x1) (15 + 13 * k) (947 + 156 * k)
  refine zr_iload_n 0 hC dL_law_18 rfl rfl ?_
  refine zr_aload_n 1 hC dL_law_19 rfl rfl ?_
  refine zr_slen hC hX hbl hbA dL_law_20 ?_
  refine zr_bipush (v := (6 : Int32)) hC dL_law_21 rfl ?_
  refine zr_isub hC dL_law_23 ?_
  refine zr_icmp_gt (tgt := 874) hC dL_law_24 (by decide) (fun c24 => ?_) (fun c24 => ?_)
  · refine zr_iconst (v := (1 : Int32)) hC dL_law_874 rfl ?_
    exact zr_lend hC hr hlocks dL_law_875 (by omega) (by omega)
  · have hlt : 6 * k + 6 ≤ L := zn_six hL (by omega) (by rw [hk2] at c24; exact c24)
    refine zr_aload_n 1 hC dL_law_27 rfl rfl ?_
    refine zr_iload_n 0 hC dL_law_28 rfl rfl ?_
    refine zr_sldj (j := 6 * k + 0) hC hX hbl hbA hL dL_law_29 (by omega) hk2 ?_
    refine zr_bipush (v := (31 : Int32)) hC dL_law_30 rfl ?_
    refine zr_iand hC dL_law_32 ?_
    by_cases t33_0 : ((xs (6 * k + 0)) &&& (31 : Int32)) = (0 : Int32)
    · refine zr_tableIn (tgt := 128) hC dL_law_33 (by rw [t33_0]; decide) (by rw [t33_0]; decide) (by rw [t33_0]; rfl) (by decide) ?_
      refine zr_aload_n 2 hC dL_law_128 rfl rfl ?_
      refine zr_aload_n 1 hC dL_law_129 rfl rfl ?_
      refine zr_iload_n 0 hC dL_law_130 rfl rfl ?_
      refine zr_iconst (v := (1 : Int32)) hC dL_law_131 rfl ?_
      refine zr_iadd hC dL_law_132 ?_
      refine zr_sldj (j := 6 * k + 1) hC hX hbl hbA hL dL_law_133 (by omega) (by rw [hk2, show (1 : Int32) = nI 1 from rfl, nI_add]) ?_
      refine zr_aload_n 1 hC dL_law_134 rfl rfl ?_
      refine zr_iload_n 0 hC dL_law_135 rfl rfl ?_
      refine zr_iconst (v := (2 : Int32)) hC dL_law_136 rfl ?_
      refine zr_iadd hC dL_law_137 ?_
      refine zr_sldj (j := 6 * k + 2) hC hX hbl hbA hL dL_law_138 (by omega) (by rw [hk2, show (2 : Int32) = nI 2 from rfl, nI_add]) ?_
      refine zr_aload_n 1 hC dL_law_139 rfl rfl ?_
      refine zr_iload_n 0 hC dL_law_140 rfl rfl ?_
      refine zr_iconst (v := (3 : Int32)) hC dL_law_141 rfl ?_
      refine zr_iadd hC dL_law_142 ?_
      refine zr_sldj (j := 6 * k + 3) hC hX hbl hbA hL dL_law_143 (by omega) (by rw [hk2, show (3 : Int32) = nI 3 from rfl, nI_add]) ?_
      refine zr_wVi (wr := (mw_W mo m1 m2 m3 m4 m5 m6 m7 m8 m9 cI a1 y1)) 0 hC cv_X3_hang ml_L_13 (c_X3_hang hRc (xs (6 * k + 1)) (xs (6 * k + 2)) (xs (6 * k + 3))) dL_law_144 ⟨Nat.le_of_ble_eq_true rfl, Nat.le_of_ble_eq_true rfl⟩ ⟨by show 15 + 13 * k + 1 ≤ 600000; omega, by show 947 + 156 * k + 24 ≤ 7302250; omega⟩ rfl rfl rfl rfl rfl (Nat.le_of_ble_eq_true rfl) ?_
      rintro _ _ ⟨x2, rfl, rfl, hRc2⟩
      refine zr_aload_n 3 hC dL_law_147 rfl rfl ?_
      refine zr_aload_n 1 hC dL_law_148 rfl rfl ?_
      refine zr_iload_n 0 hC dL_law_149 rfl rfl ?_
      refine zr_iconst (v := (1 : Int32)) hC dL_law_150 rfl ?_
      refine zr_iadd hC dL_law_151 ?_
      refine zr_sldj (j := 6 * k + 1) hC hX hbl hbA hL dL_law_152 (by omega) (by rw [hk2, show (1 : Int32) = nI 1 from rfl, nI_add]) ?_
      refine zr_aload_n 1 hC dL_law_153 rfl rfl ?_
      refine zr_iload_n 0 hC dL_law_154 rfl rfl ?_
      refine zr_iconst (v := (2 : Int32)) hC dL_law_155 rfl ?_
      refine zr_iadd hC dL_law_156 ?_
      refine zr_sldj (j := 6 * k + 2) hC hX hbl hbA hL dL_law_157 (by omega) (by rw [hk2, show (2 : Int32) = nI 2 from rfl, nI_add]) ?_
      refine zr_aload_n 1 hC dL_law_158 rfl rfl ?_
      refine zr_iload_n 0 hC dL_law_159 rfl rfl ?_
      refine zr_iconst (v := (3 : Int32)) hC dL_law_160 rfl ?_
      refine zr_iadd hC dL_law_161 ?_
      refine zr_sldj (j := 6 * k + 3) hC hX hbl hbA hL dL_law_162 (by omega) (by rw [hk2, show (3 : Int32) = nI 3 from rfl, nI_add]) ?_
      refine zr_swap ?_
      refine zr_wVi (wr := (cw_W o rk sp pp fp cII cF (zo_hang a1 (xs (6 * k + 1)) (xs (6 * k + 2)) (xs (6 * k + 3))).2 x2)) 0 hC cv_X4_hang ml_L_17 (c_X4_hang hRm (xs (6 * k + 1)) (xs (6 * k + 2)) (xs (6 * k + 3))) dL_law_163 ⟨Nat.le_of_ble_eq_true rfl, Nat.le_of_ble_eq_true rfl⟩ ⟨by show 15 + 13 * k + 1 + 0 ≤ 600000; omega, by show 947 + 156 * k + 24 + 0 ≤ 7302250; omega⟩ rfl rfl rfl rfl rfl (Nat.le_of_ble_eq_true rfl) ?_
      rintro _ _ ⟨y2, rfl, rfl, hRm2⟩
      refine zr_swap ?_
      refine zr_icmp_eq (tgt := 868) hC dL_law_166 (by decide) (fun _ => ?_) (fun h => absurd rfl h)
      refine zr_iinc (v := (i1 + 6)) (lv' := [(3, .int (i1 + 6)), (0, .ref b), (1, .ref o), (2, .ref mo)]) 0 hC dL_law_868 rfl rfl (by decide) rfl ?_
      refine zr_goto (tgt := 18) hC dL_law_871 (by decide) ?_
      refine zr_wide (k := 15 + 13 * (k + 1)) (n := 947 + 156 * (k + 1)) (by omega) (by omega) ?_
      exact ih (k + 1, i1 + 6, (zo_hang a1 (xs (6 * k + 1)) (xs (6 * k + 2)) (xs (6 * k + 3))).2, x2, y2) ⟨by show 6 * (k + 1) ≤ L; omega, by show i1 + 6 = nI (6 * (k + 1)); rw [hk2, show (6 : Int32) = nI 6 from rfl, nI_add, Nat.mul_succ], hRc2, hRm2⟩ (by show L - 6 * (k + 1) < L - 6 * k; omega)
    by_cases t33_1 : ((xs (6 * k + 0)) &&& (31 : Int32)) = (1 : Int32)
    · refine zr_tableIn (tgt := 171) hC dL_law_33 (by rw [t33_1]; decide) (by rw [t33_1]; decide) (by rw [t33_1]; rfl) (by decide) ?_
      refine zr_aload_n 2 hC dL_law_171 rfl rfl ?_
      refine zr_aload_n 1 hC dL_law_172 rfl rfl ?_
      refine zr_iload_n 0 hC dL_law_173 rfl rfl ?_
      refine zr_iconst (v := (1 : Int32)) hC dL_law_174 rfl ?_
      refine zr_iadd hC dL_law_175 ?_
      refine zr_sldj (j := 6 * k + 1) hC hX hbl hbA hL dL_law_176 (by omega) (by rw [hk2, show (1 : Int32) = nI 1 from rfl, nI_add]) ?_
      refine zr_aload_n 1 hC dL_law_177 rfl rfl ?_
      refine zr_iload_n 0 hC dL_law_178 rfl rfl ?_
      refine zr_iconst (v := (2 : Int32)) hC dL_law_179 rfl ?_
      refine zr_iadd hC dL_law_180 ?_
      refine zr_sldj (j := 6 * k + 2) hC hX hbl hbA hL dL_law_181 (by omega) (by rw [hk2, show (2 : Int32) = nI 2 from rfl, nI_add]) ?_
      refine zr_wVi (wr := (mw_W mo m1 m2 m3 m4 m5 m6 m7 m8 m9 cI a1 y1)) 0 hC cv_X3_strike ml_L_18 (c_X3_strike hRc (xs (6 * k + 1)) (xs (6 * k + 2))) dL_law_182 ⟨Nat.le_of_ble_eq_true rfl, Nat.le_of_ble_eq_true rfl⟩ ⟨by show 15 + 13 * k + 0 ≤ 600000; omega, by show 947 + 156 * k + 0 ≤ 7302250; omega⟩ rfl rfl rfl rfl rfl (Nat.le_of_ble_eq_true rfl) ?_
      rintro _ _ ⟨x2, rfl, rfl, hRc2⟩
      refine zr_aload_n 3 hC dL_law_185 rfl rfl ?_
      refine zr_aload_n 1 hC dL_law_186 rfl rfl ?_
      refine zr_iload_n 0 hC dL_law_187 rfl rfl ?_
      refine zr_iconst (v := (1 : Int32)) hC dL_law_188 rfl ?_
      refine zr_iadd hC dL_law_189 ?_
      refine zr_sldj (j := 6 * k + 1) hC hX hbl hbA hL dL_law_190 (by omega) (by rw [hk2, show (1 : Int32) = nI 1 from rfl, nI_add]) ?_
      refine zr_aload_n 1 hC dL_law_191 rfl rfl ?_
      refine zr_iload_n 0 hC dL_law_192 rfl rfl ?_
      refine zr_iconst (v := (2 : Int32)) hC dL_law_193 rfl ?_
      refine zr_iadd hC dL_law_194 ?_
      refine zr_sldj (j := 6 * k + 2) hC hX hbl hbA hL dL_law_195 (by omega) (by rw [hk2, show (2 : Int32) = nI 2 from rfl, nI_add]) ?_
      refine zr_swap ?_
      refine zr_wVi (wr := (cw_W o rk sp pp fp cII cF (zo_strike a1 (xs (6 * k + 1)) (xs (6 * k + 2))).2 x2)) 0 hC cv_X4_strike ml_L_22 (c_X4_strike hRm (xs (6 * k + 1)) (xs (6 * k + 2))) dL_law_196 ⟨Nat.le_of_ble_eq_true rfl, Nat.le_of_ble_eq_true rfl⟩ ⟨by show 15 + 13 * k + 0 + 0 ≤ 600000; omega, by show 947 + 156 * k + 0 + 0 ≤ 7302250; omega⟩ rfl rfl rfl rfl rfl (Nat.le_of_ble_eq_true rfl) ?_
      rintro _ _ ⟨y2, rfl, rfl, hRm2⟩
      refine zr_swap ?_
      refine zr_icmp_eq (tgt := 868) hC dL_law_199 (by decide) (fun _ => ?_) (fun h => absurd rfl h)
      refine zr_iinc (v := (i1 + 6)) (lv' := [(3, .int (i1 + 6)), (0, .ref b), (1, .ref o), (2, .ref mo)]) 0 hC dL_law_868 rfl rfl (by decide) rfl ?_
      refine zr_goto (tgt := 18) hC dL_law_871 (by decide) ?_
      refine zr_wide (k := 15 + 13 * (k + 1)) (n := 947 + 156 * (k + 1)) (by omega) (by omega) ?_
      exact ih (k + 1, i1 + 6, (zo_strike a1 (xs (6 * k + 1)) (xs (6 * k + 2))).2, x2, y2) ⟨by show 6 * (k + 1) ≤ L; omega, by show i1 + 6 = nI (6 * (k + 1)); rw [hk2, show (6 : Int32) = nI 6 from rfl, nI_add, Nat.mul_succ], hRc2, hRm2⟩ (by show L - 6 * (k + 1) < L - 6 * k; omega)
    by_cases t33_2 : ((xs (6 * k + 0)) &&& (31 : Int32)) = (2 : Int32)
    · refine zr_tableIn (tgt := 204) hC dL_law_33 (by rw [t33_2]; decide) (by rw [t33_2]; decide) (by rw [t33_2]; rfl) (by decide) ?_
      refine zr_aload_n 2 hC dL_law_204 rfl rfl ?_
      refine zr_aload_n 1 hC dL_law_205 rfl rfl ?_
      refine zr_iload_n 0 hC dL_law_206 rfl rfl ?_
      refine zr_iconst (v := (1 : Int32)) hC dL_law_207 rfl ?_
      refine zr_iadd hC dL_law_208 ?_
      refine zr_sldj (j := 6 * k + 1) hC hX hbl hbA hL dL_law_209 (by omega) (by rw [hk2, show (1 : Int32) = nI 1 from rfl, nI_add]) ?_
      refine zr_aload_n 1 hC dL_law_210 rfl rfl ?_
      refine zr_iload_n 0 hC dL_law_211 rfl rfl ?_
      refine zr_iconst (v := (2 : Int32)) hC dL_law_212 rfl ?_
      refine zr_iadd hC dL_law_213 ?_
      refine zr_sldj (j := 6 * k + 2) hC hX hbl hbA hL dL_law_214 (by omega) (by rw [hk2, show (2 : Int32) = nI 2 from rfl, nI_add]) ?_
      refine zr_aload_n 1 hC dL_law_215 rfl rfl ?_
      refine zr_iload_n 0 hC dL_law_216 rfl rfl ?_
      refine zr_iconst (v := (3 : Int32)) hC dL_law_217 rfl ?_
      refine zr_iadd hC dL_law_218 ?_
      refine zr_sldj (j := 6 * k + 3) hC hX hbl hbA hL dL_law_219 (by omega) (by rw [hk2, show (3 : Int32) = nI 3 from rfl, nI_add]) ?_
      refine zr_wVi (wr := (mw_W mo m1 m2 m3 m4 m5 m6 m7 m8 m9 cI a1 y1)) 0 hC cv_X3_share ml_L_23 (c_X3_share hRc (xs (6 * k + 1)) (xs (6 * k + 2)) (xs (6 * k + 3))) dL_law_220 ⟨Nat.le_of_ble_eq_true rfl, Nat.le_of_ble_eq_true rfl⟩ ⟨by show 15 + 13 * k + 0 ≤ 600000; omega, by show 947 + 156 * k + 0 ≤ 7302250; omega⟩ rfl rfl rfl rfl rfl (Nat.le_of_ble_eq_true rfl) ?_
      rintro _ _ ⟨x2, rfl, rfl, hRc2⟩
      refine zr_aload_n 3 hC dL_law_223 rfl rfl ?_
      refine zr_aload_n 1 hC dL_law_224 rfl rfl ?_
      refine zr_iload_n 0 hC dL_law_225 rfl rfl ?_
      refine zr_iconst (v := (1 : Int32)) hC dL_law_226 rfl ?_
      refine zr_iadd hC dL_law_227 ?_
      refine zr_sldj (j := 6 * k + 1) hC hX hbl hbA hL dL_law_228 (by omega) (by rw [hk2, show (1 : Int32) = nI 1 from rfl, nI_add]) ?_
      refine zr_aload_n 1 hC dL_law_229 rfl rfl ?_
      refine zr_iload_n 0 hC dL_law_230 rfl rfl ?_
      refine zr_iconst (v := (2 : Int32)) hC dL_law_231 rfl ?_
      refine zr_iadd hC dL_law_232 ?_
      refine zr_sldj (j := 6 * k + 2) hC hX hbl hbA hL dL_law_233 (by omega) (by rw [hk2, show (2 : Int32) = nI 2 from rfl, nI_add]) ?_
      refine zr_aload_n 1 hC dL_law_234 rfl rfl ?_
      refine zr_iload_n 0 hC dL_law_235 rfl rfl ?_
      refine zr_iconst (v := (3 : Int32)) hC dL_law_236 rfl ?_
      refine zr_iadd hC dL_law_237 ?_
      refine zr_sldj (j := 6 * k + 3) hC hX hbl hbA hL dL_law_238 (by omega) (by rw [hk2, show (3 : Int32) = nI 3 from rfl, nI_add]) ?_
      refine zr_swap ?_
      refine zr_wVi (wr := (cw_W o rk sp pp fp cII cF (zo_share a1 (xs (6 * k + 1)) (xs (6 * k + 2)) (xs (6 * k + 3))).2 x2)) 0 hC cv_X4_share ml_L_26 (c_X4_share hRm (xs (6 * k + 1)) (xs (6 * k + 2)) (xs (6 * k + 3))) dL_law_239 ⟨Nat.le_of_ble_eq_true rfl, Nat.le_of_ble_eq_true rfl⟩ ⟨by show 15 + 13 * k + 0 + 0 ≤ 600000; omega, by show 947 + 156 * k + 0 + 0 ≤ 7302250; omega⟩ rfl rfl rfl rfl rfl (Nat.le_of_ble_eq_true rfl) ?_
      rintro _ _ ⟨y2, rfl, rfl, hRm2⟩
      refine zr_swap ?_
      refine zr_icmp_eq (tgt := 868) hC dL_law_242 (by decide) (fun _ => ?_) (fun h => absurd rfl h)
      refine zr_iinc (v := (i1 + 6)) (lv' := [(3, .int (i1 + 6)), (0, .ref b), (1, .ref o), (2, .ref mo)]) 0 hC dL_law_868 rfl rfl (by decide) rfl ?_
      refine zr_goto (tgt := 18) hC dL_law_871 (by decide) ?_
      refine zr_wide (k := 15 + 13 * (k + 1)) (n := 947 + 156 * (k + 1)) (by omega) (by omega) ?_
      exact ih (k + 1, i1 + 6, (zo_share a1 (xs (6 * k + 1)) (xs (6 * k + 2)) (xs (6 * k + 3))).2, x2, y2) ⟨by show 6 * (k + 1) ≤ L; omega, by show i1 + 6 = nI (6 * (k + 1)); rw [hk2, show (6 : Int32) = nI 6 from rfl, nI_add, Nat.mul_succ], hRc2, hRm2⟩ (by show L - 6 * (k + 1) < L - 6 * k; omega)
    by_cases t33_3 : ((xs (6 * k + 0)) &&& (31 : Int32)) = (3 : Int32)
    · refine zr_tableIn (tgt := 247) hC dL_law_33 (by rw [t33_3]; decide) (by rw [t33_3]; decide) (by rw [t33_3]; rfl) (by decide) ?_
      refine zr_aload_n 2 hC dL_law_247 rfl rfl ?_
      refine zr_aload_n 1 hC dL_law_248 rfl rfl ?_
      refine zr_iload_n 0 hC dL_law_249 rfl rfl ?_
      refine zr_iconst (v := (1 : Int32)) hC dL_law_250 rfl ?_
      refine zr_iadd hC dL_law_251 ?_
      refine zr_sldj (j := 6 * k + 1) hC hX hbl hbA hL dL_law_252 (by omega) (by rw [hk2, show (1 : Int32) = nI 1 from rfl, nI_add]) ?_
      refine zr_aload_n 1 hC dL_law_253 rfl rfl ?_
      refine zr_iload_n 0 hC dL_law_254 rfl rfl ?_
      refine zr_iconst (v := (2 : Int32)) hC dL_law_255 rfl ?_
      refine zr_iadd hC dL_law_256 ?_
      refine zr_sldj (j := 6 * k + 2) hC hX hbl hbA hL dL_law_257 (by omega) (by rw [hk2, show (2 : Int32) = nI 2 from rfl, nI_add]) ?_
      refine zr_wVi (wr := (mw_W mo m1 m2 m3 m4 m5 m6 m7 m8 m9 cI a1 y1)) 0 hC cv_X3_size ml_L_27 (c_X3_size hRc (xs (6 * k + 1)) (xs (6 * k + 2))) dL_law_258 ⟨Nat.le_of_ble_eq_true rfl, Nat.le_of_ble_eq_true rfl⟩ ⟨by show 15 + 13 * k + 0 ≤ 600000; omega, by show 947 + 156 * k + 0 ≤ 7302250; omega⟩ rfl rfl rfl rfl rfl (Nat.le_of_ble_eq_true rfl) ?_
      rintro _ _ ⟨x2, rfl, rfl, hRc2⟩
      refine zr_aload_n 3 hC dL_law_261 rfl rfl ?_
      refine zr_aload_n 1 hC dL_law_262 rfl rfl ?_
      refine zr_iload_n 0 hC dL_law_263 rfl rfl ?_
      refine zr_iconst (v := (1 : Int32)) hC dL_law_264 rfl ?_
      refine zr_iadd hC dL_law_265 ?_
      refine zr_sldj (j := 6 * k + 1) hC hX hbl hbA hL dL_law_266 (by omega) (by rw [hk2, show (1 : Int32) = nI 1 from rfl, nI_add]) ?_
      refine zr_aload_n 1 hC dL_law_267 rfl rfl ?_
      refine zr_iload_n 0 hC dL_law_268 rfl rfl ?_
      refine zr_iconst (v := (2 : Int32)) hC dL_law_269 rfl ?_
      refine zr_iadd hC dL_law_270 ?_
      refine zr_sldj (j := 6 * k + 2) hC hX hbl hbA hL dL_law_271 (by omega) (by rw [hk2, show (2 : Int32) = nI 2 from rfl, nI_add]) ?_
      refine zr_swap ?_
      refine zr_wVi (wr := (cw_W o rk sp pp fp cII cF (zo_size a1 (xs (6 * k + 1)) (xs (6 * k + 2))).2 x2)) 0 hC cv_X4_size ml_L_30 (c_X4_size hRm (xs (6 * k + 1)) (xs (6 * k + 2))) dL_law_272 ⟨Nat.le_of_ble_eq_true rfl, Nat.le_of_ble_eq_true rfl⟩ ⟨by show 15 + 13 * k + 0 + 0 ≤ 600000; omega, by show 947 + 156 * k + 0 + 0 ≤ 7302250; omega⟩ rfl rfl rfl rfl rfl (Nat.le_of_ble_eq_true rfl) ?_
      rintro _ _ ⟨y2, rfl, rfl, hRm2⟩
      refine zr_swap ?_
      refine zr_icmp_eq (tgt := 868) hC dL_law_275 (by decide) (fun _ => ?_) (fun h => absurd rfl h)
      refine zr_iinc (v := (i1 + 6)) (lv' := [(3, .int (i1 + 6)), (0, .ref b), (1, .ref o), (2, .ref mo)]) 0 hC dL_law_868 rfl rfl (by decide) rfl ?_
      refine zr_goto (tgt := 18) hC dL_law_871 (by decide) ?_
      refine zr_wide (k := 15 + 13 * (k + 1)) (n := 947 + 156 * (k + 1)) (by omega) (by omega) ?_
      exact ih (k + 1, i1 + 6, (zo_size a1 (xs (6 * k + 1)) (xs (6 * k + 2))).2, x2, y2) ⟨by show 6 * (k + 1) ≤ L; omega, by show i1 + 6 = nI (6 * (k + 1)); rw [hk2, show (6 : Int32) = nI 6 from rfl, nI_add, Nat.mul_succ], hRc2, hRm2⟩ (by show L - 6 * (k + 1) < L - 6 * k; omega)
    by_cases t33_4 : ((xs (6 * k + 0)) &&& (31 : Int32)) = (4 : Int32)
    · refine zr_tableIn (tgt := 280) hC dL_law_33 (by rw [t33_4]; decide) (by rw [t33_4]; decide) (by rw [t33_4]; rfl) (by decide) ?_
      refine zr_aload_n 2 hC dL_law_280 rfl rfl ?_
      refine zr_aload_n 1 hC dL_law_281 rfl rfl ?_
      refine zr_iload_n 0 hC dL_law_282 rfl rfl ?_
      refine zr_iconst (v := (1 : Int32)) hC dL_law_283 rfl ?_
      refine zr_iadd hC dL_law_284 ?_
      refine zr_sldj (j := 6 * k + 1) hC hX hbl hbA hL dL_law_285 (by omega) (by rw [hk2, show (1 : Int32) = nI 1 from rfl, nI_add]) ?_
      refine zr_aload_n 1 hC dL_law_286 rfl rfl ?_
      refine zr_iload_n 0 hC dL_law_287 rfl rfl ?_
      refine zr_iconst (v := (2 : Int32)) hC dL_law_288 rfl ?_
      refine zr_iadd hC dL_law_289 ?_
      refine zr_sldj (j := 6 * k + 2) hC hX hbl hbA hL dL_law_290 (by omega) (by rw [hk2, show (2 : Int32) = nI 2 from rfl, nI_add]) ?_
      refine zr_aload_n 1 hC dL_law_291 rfl rfl ?_
      refine zr_iload_n 0 hC dL_law_292 rfl rfl ?_
      refine zr_iconst (v := (3 : Int32)) hC dL_law_293 rfl ?_
      refine zr_iadd hC dL_law_294 ?_
      refine zr_sldj (j := 6 * k + 3) hC hX hbl hbA hL dL_law_295 (by omega) (by rw [hk2, show (3 : Int32) = nI 3 from rfl, nI_add]) ?_
      refine zr_wVi (wr := (mw_W mo m1 m2 m3 m4 m5 m6 m7 m8 m9 cI a1 y1)) 0 hC cv_X3_get ml_L_31 (c_X3_get hRc (xs (6 * k + 1)) (xs (6 * k + 2)) (xs (6 * k + 3))) dL_law_296 ⟨Nat.le_of_ble_eq_true rfl, Nat.le_of_ble_eq_true rfl⟩ ⟨by show 15 + 13 * k + 0 ≤ 600000; omega, by show 947 + 156 * k + 0 ≤ 7302250; omega⟩ rfl rfl rfl rfl rfl (Nat.le_of_ble_eq_true rfl) ?_
      rintro _ _ ⟨x2, rfl, rfl, hRc2⟩
      refine zr_aload_n 3 hC dL_law_299 rfl rfl ?_
      refine zr_aload_n 1 hC dL_law_300 rfl rfl ?_
      refine zr_iload_n 0 hC dL_law_301 rfl rfl ?_
      refine zr_iconst (v := (1 : Int32)) hC dL_law_302 rfl ?_
      refine zr_iadd hC dL_law_303 ?_
      refine zr_sldj (j := 6 * k + 1) hC hX hbl hbA hL dL_law_304 (by omega) (by rw [hk2, show (1 : Int32) = nI 1 from rfl, nI_add]) ?_
      refine zr_aload_n 1 hC dL_law_305 rfl rfl ?_
      refine zr_iload_n 0 hC dL_law_306 rfl rfl ?_
      refine zr_iconst (v := (2 : Int32)) hC dL_law_307 rfl ?_
      refine zr_iadd hC dL_law_308 ?_
      refine zr_sldj (j := 6 * k + 2) hC hX hbl hbA hL dL_law_309 (by omega) (by rw [hk2, show (2 : Int32) = nI 2 from rfl, nI_add]) ?_
      refine zr_aload_n 1 hC dL_law_310 rfl rfl ?_
      refine zr_iload_n 0 hC dL_law_311 rfl rfl ?_
      refine zr_iconst (v := (3 : Int32)) hC dL_law_312 rfl ?_
      refine zr_iadd hC dL_law_313 ?_
      refine zr_sldj (j := 6 * k + 3) hC hX hbl hbA hL dL_law_314 (by omega) (by rw [hk2, show (3 : Int32) = nI 3 from rfl, nI_add]) ?_
      refine zr_swap ?_
      refine zr_wVi (wr := (cw_W o rk sp pp fp cII cF (zo_get a1 (xs (6 * k + 1)) (xs (6 * k + 2)) (xs (6 * k + 3))).2 x2)) 0 hC cv_X4_get ml_L_34 (c_X4_get hRm (xs (6 * k + 1)) (xs (6 * k + 2)) (xs (6 * k + 3))) dL_law_315 ⟨Nat.le_of_ble_eq_true rfl, Nat.le_of_ble_eq_true rfl⟩ ⟨by show 15 + 13 * k + 0 + 0 ≤ 600000; omega, by show 947 + 156 * k + 0 + 0 ≤ 7302250; omega⟩ rfl rfl rfl rfl rfl (Nat.le_of_ble_eq_true rfl) ?_
      rintro _ _ ⟨y2, rfl, rfl, hRm2⟩
      refine zr_swap ?_
      refine zr_icmp_eq (tgt := 868) hC dL_law_318 (by decide) (fun _ => ?_) (fun h => absurd rfl h)
      refine zr_iinc (v := (i1 + 6)) (lv' := [(3, .int (i1 + 6)), (0, .ref b), (1, .ref o), (2, .ref mo)]) 0 hC dL_law_868 rfl rfl (by decide) rfl ?_
      refine zr_goto (tgt := 18) hC dL_law_871 (by decide) ?_
      refine zr_wide (k := 15 + 13 * (k + 1)) (n := 947 + 156 * (k + 1)) (by omega) (by omega) ?_
      exact ih (k + 1, i1 + 6, (zo_get a1 (xs (6 * k + 1)) (xs (6 * k + 2)) (xs (6 * k + 3))).2, x2, y2) ⟨by show 6 * (k + 1) ≤ L; omega, by show i1 + 6 = nI (6 * (k + 1)); rw [hk2, show (6 : Int32) = nI 6 from rfl, nI_add, Nat.mul_succ], hRc2, hRm2⟩ (by show L - 6 * (k + 1) < L - 6 * k; omega)
    by_cases t33_5 : ((xs (6 * k + 0)) &&& (31 : Int32)) = (5 : Int32)
    · refine zr_tableIn (tgt := 323) hC dL_law_33 (by rw [t33_5]; decide) (by rw [t33_5]; decide) (by rw [t33_5]; rfl) (by decide) ?_
      refine zr_aload_n 2 hC dL_law_323 rfl rfl ?_
      refine zr_aload_n 1 hC dL_law_324 rfl rfl ?_
      refine zr_iload_n 0 hC dL_law_325 rfl rfl ?_
      refine zr_iconst (v := (1 : Int32)) hC dL_law_326 rfl ?_
      refine zr_iadd hC dL_law_327 ?_
      refine zr_sldj (j := 6 * k + 1) hC hX hbl hbA hL dL_law_328 (by omega) (by rw [hk2, show (1 : Int32) = nI 1 from rfl, nI_add]) ?_
      refine zr_aload_n 1 hC dL_law_329 rfl rfl ?_
      refine zr_iload_n 0 hC dL_law_330 rfl rfl ?_
      refine zr_iconst (v := (2 : Int32)) hC dL_law_331 rfl ?_
      refine zr_iadd hC dL_law_332 ?_
      refine zr_sldj (j := 6 * k + 2) hC hX hbl hbA hL dL_law_333 (by omega) (by rw [hk2, show (2 : Int32) = nI 2 from rfl, nI_add]) ?_
      refine zr_aload_n 1 hC dL_law_334 rfl rfl ?_
      refine zr_iload_n 0 hC dL_law_335 rfl rfl ?_
      refine zr_iconst (v := (3 : Int32)) hC dL_law_336 rfl ?_
      refine zr_iadd hC dL_law_337 ?_
      refine zr_sldj (j := 6 * k + 3) hC hX hbl hbA hL dL_law_338 (by omega) (by rw [hk2, show (3 : Int32) = nI 3 from rfl, nI_add]) ?_
      refine zr_aload_n 1 hC dL_law_339 rfl rfl ?_
      refine zr_iload_n 0 hC dL_law_340 rfl rfl ?_
      refine zr_iconst (v := (4 : Int32)) hC dL_law_341 rfl ?_
      refine zr_iadd hC dL_law_342 ?_
      refine zr_sldj (j := 6 * k + 4) hC hX hbl hbA hL dL_law_343 (by omega) (by rw [hk2, show (4 : Int32) = nI 4 from rfl, nI_add]) ?_
      refine zr_wVi (wr := (mw_W mo m1 m2 m3 m4 m5 m6 m7 m8 m9 cI a1 y1)) 0 hC cv_X3_set ml_L_35 (c_X3_set hRc (xs (6 * k + 1)) (xs (6 * k + 2)) (xs (6 * k + 3)) (xs (6 * k + 4))) dL_law_344 ⟨Nat.le_of_ble_eq_true rfl, Nat.le_of_ble_eq_true rfl⟩ ⟨by show 15 + 13 * k + 0 ≤ 600000; omega, by show 947 + 156 * k + 0 ≤ 7302250; omega⟩ rfl rfl rfl rfl rfl (Nat.le_of_ble_eq_true rfl) ?_
      rintro _ _ ⟨x2, rfl, rfl, hRc2⟩
      refine zr_aload_n 3 hC dL_law_347 rfl rfl ?_
      refine zr_aload_n 1 hC dL_law_348 rfl rfl ?_
      refine zr_iload_n 0 hC dL_law_349 rfl rfl ?_
      refine zr_iconst (v := (1 : Int32)) hC dL_law_350 rfl ?_
      refine zr_iadd hC dL_law_351 ?_
      refine zr_sldj (j := 6 * k + 1) hC hX hbl hbA hL dL_law_352 (by omega) (by rw [hk2, show (1 : Int32) = nI 1 from rfl, nI_add]) ?_
      refine zr_aload_n 1 hC dL_law_353 rfl rfl ?_
      refine zr_iload_n 0 hC dL_law_354 rfl rfl ?_
      refine zr_iconst (v := (2 : Int32)) hC dL_law_355 rfl ?_
      refine zr_iadd hC dL_law_356 ?_
      refine zr_sldj (j := 6 * k + 2) hC hX hbl hbA hL dL_law_357 (by omega) (by rw [hk2, show (2 : Int32) = nI 2 from rfl, nI_add]) ?_
      refine zr_aload_n 1 hC dL_law_358 rfl rfl ?_
      refine zr_iload_n 0 hC dL_law_359 rfl rfl ?_
      refine zr_iconst (v := (3 : Int32)) hC dL_law_360 rfl ?_
      refine zr_iadd hC dL_law_361 ?_
      refine zr_sldj (j := 6 * k + 3) hC hX hbl hbA hL dL_law_362 (by omega) (by rw [hk2, show (3 : Int32) = nI 3 from rfl, nI_add]) ?_
      refine zr_aload_n 1 hC dL_law_363 rfl rfl ?_
      refine zr_iload_n 0 hC dL_law_364 rfl rfl ?_
      refine zr_iconst (v := (4 : Int32)) hC dL_law_365 rfl ?_
      refine zr_iadd hC dL_law_366 ?_
      refine zr_sldj (j := 6 * k + 4) hC hX hbl hbA hL dL_law_367 (by omega) (by rw [hk2, show (4 : Int32) = nI 4 from rfl, nI_add]) ?_
      refine zr_swap ?_
      refine zr_wVi (wr := (cw_W o rk sp pp fp cII cF (zo_set a1 (xs (6 * k + 1)) (xs (6 * k + 2)) (xs (6 * k + 3)) (xs (6 * k + 4))).2 x2)) 0 hC cv_X4_set ml_L_39 (c_X4_set hRm (xs (6 * k + 1)) (xs (6 * k + 2)) (xs (6 * k + 3)) (xs (6 * k + 4))) dL_law_368 ⟨Nat.le_of_ble_eq_true rfl, Nat.le_of_ble_eq_true rfl⟩ ⟨by show 15 + 13 * k + 0 + 0 ≤ 600000; omega, by show 947 + 156 * k + 0 + 0 ≤ 7302250; omega⟩ rfl rfl rfl rfl rfl (Nat.le_of_ble_eq_true rfl) ?_
      rintro _ _ ⟨y2, rfl, rfl, hRm2⟩
      refine zr_swap ?_
      refine zr_icmp_eq (tgt := 868) hC dL_law_371 (by decide) (fun _ => ?_) (fun h => absurd rfl h)
      refine zr_iinc (v := (i1 + 6)) (lv' := [(3, .int (i1 + 6)), (0, .ref b), (1, .ref o), (2, .ref mo)]) 0 hC dL_law_868 rfl rfl (by decide) rfl ?_
      refine zr_goto (tgt := 18) hC dL_law_871 (by decide) ?_
      refine zr_wide (k := 15 + 13 * (k + 1)) (n := 947 + 156 * (k + 1)) (by omega) (by omega) ?_
      exact ih (k + 1, i1 + 6, (zo_set a1 (xs (6 * k + 1)) (xs (6 * k + 2)) (xs (6 * k + 3)) (xs (6 * k + 4))).2, x2, y2) ⟨by show 6 * (k + 1) ≤ L; omega, by show i1 + 6 = nI (6 * (k + 1)); rw [hk2, show (6 : Int32) = nI 6 from rfl, nI_add, Nat.mul_succ], hRc2, hRm2⟩ (by show L - 6 * (k + 1) < L - 6 * k; omega)
    by_cases t33_6 : ((xs (6 * k + 0)) &&& (31 : Int32)) = (6 : Int32)
    · refine zr_tableIn (tgt := 376) hC dL_law_33 (by rw [t33_6]; decide) (by rw [t33_6]; decide) (by rw [t33_6]; rfl) (by decide) ?_
      refine zr_aload_n 2 hC dL_law_376 rfl rfl ?_
      refine zr_aload_n 1 hC dL_law_377 rfl rfl ?_
      refine zr_iload_n 0 hC dL_law_378 rfl rfl ?_
      refine zr_iconst (v := (1 : Int32)) hC dL_law_379 rfl ?_
      refine zr_iadd hC dL_law_380 ?_
      refine zr_sldj (j := 6 * k + 1) hC hX hbl hbA hL dL_law_381 (by omega) (by rw [hk2, show (1 : Int32) = nI 1 from rfl, nI_add]) ?_
      refine zr_aload_n 1 hC dL_law_382 rfl rfl ?_
      refine zr_iload_n 0 hC dL_law_383 rfl rfl ?_
      refine zr_iconst (v := (2 : Int32)) hC dL_law_384 rfl ?_
      refine zr_iadd hC dL_law_385 ?_
      refine zr_sldj (j := 6 * k + 2) hC hX hbl hbA hL dL_law_386 (by omega) (by rw [hk2, show (2 : Int32) = nI 2 from rfl, nI_add]) ?_
      refine zr_aload_n 1 hC dL_law_387 rfl rfl ?_
      refine zr_iload_n 0 hC dL_law_388 rfl rfl ?_
      refine zr_iconst (v := (3 : Int32)) hC dL_law_389 rfl ?_
      refine zr_iadd hC dL_law_390 ?_
      refine zr_sldj (j := 6 * k + 3) hC hX hbl hbA hL dL_law_391 (by omega) (by rw [hk2, show (3 : Int32) = nI 3 from rfl, nI_add]) ?_
      refine zr_aload_n 1 hC dL_law_392 rfl rfl ?_
      refine zr_iload_n 0 hC dL_law_393 rfl rfl ?_
      refine zr_iconst (v := (4 : Int32)) hC dL_law_394 rfl ?_
      refine zr_iadd hC dL_law_395 ?_
      refine zr_sldj (j := 6 * k + 4) hC hX hbl hbA hL dL_law_396 (by omega) (by rw [hk2, show (4 : Int32) = nI 4 from rfl, nI_add]) ?_
      refine zr_aload_n 1 hC dL_law_397 rfl rfl ?_
      refine zr_iload_n 0 hC dL_law_398 rfl rfl ?_
      refine zr_iconst (v := (5 : Int32)) hC dL_law_399 rfl ?_
      refine zr_iadd hC dL_law_400 ?_
      refine zr_sldj (j := 6 * k + 5) hC hX hbl hbA hL dL_law_401 (by omega) (by rw [hk2, show (5 : Int32) = nI 5 from rfl, nI_add]) ?_
      refine zr_wVi (wr := (mw_W mo m1 m2 m3 m4 m5 m6 m7 m8 m9 cI a1 y1)) 0 hC cv_X3_patch ml_L_40 (c_X3_patch hRc (xs (6 * k + 1)) (xs (6 * k + 2)) (xs (6 * k + 3)) (xs (6 * k + 4)) (xs (6 * k + 5))) dL_law_402 ⟨Nat.le_of_ble_eq_true rfl, Nat.le_of_ble_eq_true rfl⟩ ⟨by show 15 + 13 * k + 0 ≤ 600000; omega, by show 947 + 156 * k + 0 ≤ 7302250; omega⟩ rfl rfl rfl rfl rfl (Nat.le_of_ble_eq_true rfl) ?_
      rintro _ _ ⟨x2, rfl, rfl, hRc2⟩
      refine zr_aload_n 3 hC dL_law_405 rfl rfl ?_
      refine zr_aload_n 1 hC dL_law_406 rfl rfl ?_
      refine zr_iload_n 0 hC dL_law_407 rfl rfl ?_
      refine zr_iconst (v := (1 : Int32)) hC dL_law_408 rfl ?_
      refine zr_iadd hC dL_law_409 ?_
      refine zr_sldj (j := 6 * k + 1) hC hX hbl hbA hL dL_law_410 (by omega) (by rw [hk2, show (1 : Int32) = nI 1 from rfl, nI_add]) ?_
      refine zr_aload_n 1 hC dL_law_411 rfl rfl ?_
      refine zr_iload_n 0 hC dL_law_412 rfl rfl ?_
      refine zr_iconst (v := (2 : Int32)) hC dL_law_413 rfl ?_
      refine zr_iadd hC dL_law_414 ?_
      refine zr_sldj (j := 6 * k + 2) hC hX hbl hbA hL dL_law_415 (by omega) (by rw [hk2, show (2 : Int32) = nI 2 from rfl, nI_add]) ?_
      refine zr_aload_n 1 hC dL_law_416 rfl rfl ?_
      refine zr_iload_n 0 hC dL_law_417 rfl rfl ?_
      refine zr_iconst (v := (3 : Int32)) hC dL_law_418 rfl ?_
      refine zr_iadd hC dL_law_419 ?_
      refine zr_sldj (j := 6 * k + 3) hC hX hbl hbA hL dL_law_420 (by omega) (by rw [hk2, show (3 : Int32) = nI 3 from rfl, nI_add]) ?_
      refine zr_aload_n 1 hC dL_law_421 rfl rfl ?_
      refine zr_iload_n 0 hC dL_law_422 rfl rfl ?_
      refine zr_iconst (v := (4 : Int32)) hC dL_law_423 rfl ?_
      refine zr_iadd hC dL_law_424 ?_
      refine zr_sldj (j := 6 * k + 4) hC hX hbl hbA hL dL_law_425 (by omega) (by rw [hk2, show (4 : Int32) = nI 4 from rfl, nI_add]) ?_
      refine zr_aload_n 1 hC dL_law_426 rfl rfl ?_
      refine zr_iload_n 0 hC dL_law_427 rfl rfl ?_
      refine zr_iconst (v := (5 : Int32)) hC dL_law_428 rfl ?_
      refine zr_iadd hC dL_law_429 ?_
      refine zr_sldj (j := 6 * k + 5) hC hX hbl hbA hL dL_law_430 (by omega) (by rw [hk2, show (5 : Int32) = nI 5 from rfl, nI_add]) ?_
      refine zr_swap ?_
      refine zr_wVi (wr := (cw_W o rk sp pp fp cII cF (zo_patch a1 (xs (6 * k + 1)) (xs (6 * k + 2)) (xs (6 * k + 3)) (xs (6 * k + 4)) (xs (6 * k + 5))).2 x2)) 0 hC cv_X4_patch ml_L_44 (c_X4_patch hRm (xs (6 * k + 1)) (xs (6 * k + 2)) (xs (6 * k + 3)) (xs (6 * k + 4)) (xs (6 * k + 5))) dL_law_431 ⟨Nat.le_of_ble_eq_true rfl, Nat.le_of_ble_eq_true rfl⟩ ⟨by show 15 + 13 * k + 0 + 0 ≤ 600000; omega, by show 947 + 156 * k + 0 + 0 ≤ 7302250; omega⟩ rfl rfl rfl rfl rfl (Nat.le_of_ble_eq_true rfl) ?_
      rintro _ _ ⟨y2, rfl, rfl, hRm2⟩
      refine zr_swap ?_
      refine zr_icmp_eq (tgt := 868) hC dL_law_434 (by decide) (fun _ => ?_) (fun h => absurd rfl h)
      refine zr_iinc (v := (i1 + 6)) (lv' := [(3, .int (i1 + 6)), (0, .ref b), (1, .ref o), (2, .ref mo)]) 0 hC dL_law_868 rfl rfl (by decide) rfl ?_
      refine zr_goto (tgt := 18) hC dL_law_871 (by decide) ?_
      refine zr_wide (k := 15 + 13 * (k + 1)) (n := 947 + 156 * (k + 1)) (by omega) (by omega) ?_
      exact ih (k + 1, i1 + 6, (zo_patch a1 (xs (6 * k + 1)) (xs (6 * k + 2)) (xs (6 * k + 3)) (xs (6 * k + 4)) (xs (6 * k + 5))).2, x2, y2) ⟨by show 6 * (k + 1) ≤ L; omega, by show i1 + 6 = nI (6 * (k + 1)); rw [hk2, show (6 : Int32) = nI 6 from rfl, nI_add, Nat.mul_succ], hRc2, hRm2⟩ (by show L - 6 * (k + 1) < L - 6 * k; omega)
    by_cases t33_7 : ((xs (6 * k + 0)) &&& (31 : Int32)) = (7 : Int32)
    · refine zr_tableIn (tgt := 439) hC dL_law_33 (by rw [t33_7]; decide) (by rw [t33_7]; decide) (by rw [t33_7]; rfl) (by decide) ?_
      refine zr_aload_n 2 hC dL_law_439 rfl rfl ?_
      refine zr_aload_n 1 hC dL_law_440 rfl rfl ?_
      refine zr_iload_n 0 hC dL_law_441 rfl rfl ?_
      refine zr_iconst (v := (1 : Int32)) hC dL_law_442 rfl ?_
      refine zr_iadd hC dL_law_443 ?_
      refine zr_sldj (j := 6 * k + 1) hC hX hbl hbA hL dL_law_444 (by omega) (by rw [hk2, show (1 : Int32) = nI 1 from rfl, nI_add]) ?_
      refine zr_aload_n 1 hC dL_law_445 rfl rfl ?_
      refine zr_iload_n 0 hC dL_law_446 rfl rfl ?_
      refine zr_iconst (v := (2 : Int32)) hC dL_law_447 rfl ?_
      refine zr_iadd hC dL_law_448 ?_
      refine zr_sldj (j := 6 * k + 2) hC hX hbl hbA hL dL_law_449 (by omega) (by rw [hk2, show (2 : Int32) = nI 2 from rfl, nI_add]) ?_
      refine zr_aload_n 1 hC dL_law_450 rfl rfl ?_
      refine zr_iload_n 0 hC dL_law_451 rfl rfl ?_
      refine zr_iconst (v := (3 : Int32)) hC dL_law_452 rfl ?_
      refine zr_iadd hC dL_law_453 ?_
      refine zr_sldj (j := 6 * k + 3) hC hX hbl hbA hL dL_law_454 (by omega) (by rw [hk2, show (3 : Int32) = nI 3 from rfl, nI_add]) ?_
      refine zr_aload_n 1 hC dL_law_455 rfl rfl ?_
      refine zr_iload_n 0 hC dL_law_456 rfl rfl ?_
      refine zr_iconst (v := (4 : Int32)) hC dL_law_457 rfl ?_
      refine zr_iadd hC dL_law_458 ?_
      refine zr_sldj (j := 6 * k + 4) hC hX hbl hbA hL dL_law_459 (by omega) (by rw [hk2, show (4 : Int32) = nI 4 from rfl, nI_add]) ?_
      refine zr_aload_n 1 hC dL_law_460 rfl rfl ?_
      refine zr_iload_n 0 hC dL_law_461 rfl rfl ?_
      refine zr_iconst (v := (5 : Int32)) hC dL_law_462 rfl ?_
      refine zr_iadd hC dL_law_463 ?_
      refine zr_sldj (j := 6 * k + 5) hC hX hbl hbA hL dL_law_464 (by omega) (by rw [hk2, show (5 : Int32) = nI 5 from rfl, nI_add]) ?_
      refine zr_wVi (wr := (mw_W mo m1 m2 m3 m4 m5 m6 m7 m8 m9 cI a1 y1)) 0 hC cv_X3_ripple ml_L_45 (c_X3_ripple hRc (xs (6 * k + 1)) (xs (6 * k + 2)) (xs (6 * k + 3)) (xs (6 * k + 4)) (xs (6 * k + 5))) dL_law_465 ⟨Nat.le_of_ble_eq_true rfl, Nat.le_of_ble_eq_true rfl⟩ ⟨by show 15 + 13 * k + 0 ≤ 600000; omega, by show 947 + 156 * k + 0 ≤ 7302250; omega⟩ rfl rfl rfl rfl rfl (Nat.le_of_ble_eq_true rfl) ?_
      rintro _ _ ⟨x2, rfl, rfl, hRc2⟩
      refine zr_aload_n 3 hC dL_law_468 rfl rfl ?_
      refine zr_aload_n 1 hC dL_law_469 rfl rfl ?_
      refine zr_iload_n 0 hC dL_law_470 rfl rfl ?_
      refine zr_iconst (v := (1 : Int32)) hC dL_law_471 rfl ?_
      refine zr_iadd hC dL_law_472 ?_
      refine zr_sldj (j := 6 * k + 1) hC hX hbl hbA hL dL_law_473 (by omega) (by rw [hk2, show (1 : Int32) = nI 1 from rfl, nI_add]) ?_
      refine zr_aload_n 1 hC dL_law_474 rfl rfl ?_
      refine zr_iload_n 0 hC dL_law_475 rfl rfl ?_
      refine zr_iconst (v := (2 : Int32)) hC dL_law_476 rfl ?_
      refine zr_iadd hC dL_law_477 ?_
      refine zr_sldj (j := 6 * k + 2) hC hX hbl hbA hL dL_law_478 (by omega) (by rw [hk2, show (2 : Int32) = nI 2 from rfl, nI_add]) ?_
      refine zr_aload_n 1 hC dL_law_479 rfl rfl ?_
      refine zr_iload_n 0 hC dL_law_480 rfl rfl ?_
      refine zr_iconst (v := (3 : Int32)) hC dL_law_481 rfl ?_
      refine zr_iadd hC dL_law_482 ?_
      refine zr_sldj (j := 6 * k + 3) hC hX hbl hbA hL dL_law_483 (by omega) (by rw [hk2, show (3 : Int32) = nI 3 from rfl, nI_add]) ?_
      refine zr_aload_n 1 hC dL_law_484 rfl rfl ?_
      refine zr_iload_n 0 hC dL_law_485 rfl rfl ?_
      refine zr_iconst (v := (4 : Int32)) hC dL_law_486 rfl ?_
      refine zr_iadd hC dL_law_487 ?_
      refine zr_sldj (j := 6 * k + 4) hC hX hbl hbA hL dL_law_488 (by omega) (by rw [hk2, show (4 : Int32) = nI 4 from rfl, nI_add]) ?_
      refine zr_aload_n 1 hC dL_law_489 rfl rfl ?_
      refine zr_iload_n 0 hC dL_law_490 rfl rfl ?_
      refine zr_iconst (v := (5 : Int32)) hC dL_law_491 rfl ?_
      refine zr_iadd hC dL_law_492 ?_
      refine zr_sldj (j := 6 * k + 5) hC hX hbl hbA hL dL_law_493 (by omega) (by rw [hk2, show (5 : Int32) = nI 5 from rfl, nI_add]) ?_
      refine zr_swap ?_
      refine zr_wVi (wr := (cw_W o rk sp pp fp cII cF (zo_ripple a1 (xs (6 * k + 1)) (xs (6 * k + 2)) (xs (6 * k + 3)) (xs (6 * k + 4)) (xs (6 * k + 5))).2 x2)) 0 hC cv_X4_ripple ml_L_48 (c_X4_ripple hRm (xs (6 * k + 1)) (xs (6 * k + 2)) (xs (6 * k + 3)) (xs (6 * k + 4)) (xs (6 * k + 5))) dL_law_494 ⟨Nat.le_of_ble_eq_true rfl, Nat.le_of_ble_eq_true rfl⟩ ⟨by show 15 + 13 * k + 0 + 0 ≤ 600000; omega, by show 947 + 156 * k + 0 + 0 ≤ 7302250; omega⟩ rfl rfl rfl rfl rfl (Nat.le_of_ble_eq_true rfl) ?_
      rintro _ _ ⟨y2, rfl, rfl, hRm2⟩
      refine zr_swap ?_
      refine zr_icmp_eq (tgt := 868) hC dL_law_497 (by decide) (fun _ => ?_) (fun h => absurd rfl h)
      refine zr_iinc (v := (i1 + 6)) (lv' := [(3, .int (i1 + 6)), (0, .ref b), (1, .ref o), (2, .ref mo)]) 0 hC dL_law_868 rfl rfl (by decide) rfl ?_
      refine zr_goto (tgt := 18) hC dL_law_871 (by decide) ?_
      refine zr_wide (k := 15 + 13 * (k + 1)) (n := 947 + 156 * (k + 1)) (by omega) (by omega) ?_
      exact ih (k + 1, i1 + 6, (zo_ripple a1 (xs (6 * k + 1)) (xs (6 * k + 2)) (xs (6 * k + 3)) (xs (6 * k + 4)) (xs (6 * k + 5))).2, x2, y2) ⟨by show 6 * (k + 1) ≤ L; omega, by show i1 + 6 = nI (6 * (k + 1)); rw [hk2, show (6 : Int32) = nI 6 from rfl, nI_add, Nat.mul_succ], hRc2, hRm2⟩ (by show L - 6 * (k + 1) < L - 6 * k; omega)
    by_cases t33_8 : ((xs (6 * k + 0)) &&& (31 : Int32)) = (8 : Int32)
    · refine zr_tableIn (tgt := 502) hC dL_law_33 (by rw [t33_8]; decide) (by rw [t33_8]; decide) (by rw [t33_8]; rfl) (by decide) ?_
      refine zr_aload_n 2 hC dL_law_502 rfl rfl ?_
      refine zr_aload_n 1 hC dL_law_503 rfl rfl ?_
      refine zr_iload_n 0 hC dL_law_504 rfl rfl ?_
      refine zr_iconst (v := (1 : Int32)) hC dL_law_505 rfl ?_
      refine zr_iadd hC dL_law_506 ?_
      refine zr_sldj (j := 6 * k + 1) hC hX hbl hbA hL dL_law_507 (by omega) (by rw [hk2, show (1 : Int32) = nI 1 from rfl, nI_add]) ?_
      refine zr_aload_n 1 hC dL_law_508 rfl rfl ?_
      refine zr_iload_n 0 hC dL_law_509 rfl rfl ?_
      refine zr_iconst (v := (2 : Int32)) hC dL_law_510 rfl ?_
      refine zr_iadd hC dL_law_511 ?_
      refine zr_sldj (j := 6 * k + 2) hC hX hbl hbA hL dL_law_512 (by omega) (by rw [hk2, show (2 : Int32) = nI 2 from rfl, nI_add]) ?_
      refine zr_wVi (wr := (mw_W mo m1 m2 m3 m4 m5 m6 m7 m8 m9 cI a1 y1)) 0 hC cv_X3_probe ml_L_49 (c_X3_probe hRc (xs (6 * k + 1)) (xs (6 * k + 2))) dL_law_513 ⟨Nat.le_of_ble_eq_true rfl, Nat.le_of_ble_eq_true rfl⟩ ⟨by show 15 + 13 * k + 0 ≤ 600000; omega, by show 947 + 156 * k + 0 ≤ 7302250; omega⟩ rfl rfl rfl rfl rfl (Nat.le_of_ble_eq_true rfl) ?_
      rintro _ _ ⟨x2, rfl, rfl, hRc2⟩
      refine zr_aload_n 3 hC dL_law_516 rfl rfl ?_
      refine zr_aload_n 1 hC dL_law_517 rfl rfl ?_
      refine zr_iload_n 0 hC dL_law_518 rfl rfl ?_
      refine zr_iconst (v := (1 : Int32)) hC dL_law_519 rfl ?_
      refine zr_iadd hC dL_law_520 ?_
      refine zr_sldj (j := 6 * k + 1) hC hX hbl hbA hL dL_law_521 (by omega) (by rw [hk2, show (1 : Int32) = nI 1 from rfl, nI_add]) ?_
      refine zr_aload_n 1 hC dL_law_522 rfl rfl ?_
      refine zr_iload_n 0 hC dL_law_523 rfl rfl ?_
      refine zr_iconst (v := (2 : Int32)) hC dL_law_524 rfl ?_
      refine zr_iadd hC dL_law_525 ?_
      refine zr_sldj (j := 6 * k + 2) hC hX hbl hbA hL dL_law_526 (by omega) (by rw [hk2, show (2 : Int32) = nI 2 from rfl, nI_add]) ?_
      refine zr_swap ?_
      refine zr_wVi (wr := (cw_W o rk sp pp fp cII cF (zo_probe a1 (xs (6 * k + 1)) (xs (6 * k + 2))).2 x2)) 0 hC cv_X4_probe ml_L_52 (c_X4_probe hRm (xs (6 * k + 1)) (xs (6 * k + 2))) dL_law_527 ⟨Nat.le_of_ble_eq_true rfl, Nat.le_of_ble_eq_true rfl⟩ ⟨by show 15 + 13 * k + 0 + 0 ≤ 600000; omega, by show 947 + 156 * k + 0 + 0 ≤ 7302250; omega⟩ rfl rfl rfl rfl rfl (Nat.le_of_ble_eq_true rfl) ?_
      rintro _ _ ⟨y2, rfl, rfl, hRm2⟩
      refine zr_swap ?_
      refine zr_icmp_eq (tgt := 868) hC dL_law_530 (by decide) (fun _ => ?_) (fun h => absurd rfl h)
      refine zr_iinc (v := (i1 + 6)) (lv' := [(3, .int (i1 + 6)), (0, .ref b), (1, .ref o), (2, .ref mo)]) 0 hC dL_law_868 rfl rfl (by decide) rfl ?_
      refine zr_goto (tgt := 18) hC dL_law_871 (by decide) ?_
      refine zr_wide (k := 15 + 13 * (k + 1)) (n := 947 + 156 * (k + 1)) (by omega) (by omega) ?_
      exact ih (k + 1, i1 + 6, (zo_probe a1 (xs (6 * k + 1)) (xs (6 * k + 2))).2, x2, y2) ⟨by show 6 * (k + 1) ≤ L; omega, by show i1 + 6 = nI (6 * (k + 1)); rw [hk2, show (6 : Int32) = nI 6 from rfl, nI_add, Nat.mul_succ], hRc2, hRm2⟩ (by show L - 6 * (k + 1) < L - 6 * k; omega)
    by_cases t33_9 : ((xs (6 * k + 0)) &&& (31 : Int32)) = (9 : Int32)
    · refine zr_tableIn (tgt := 535) hC dL_law_33 (by rw [t33_9]; decide) (by rw [t33_9]; decide) (by rw [t33_9]; rfl) (by decide) ?_
      refine zr_aload_n 2 hC dL_law_535 rfl rfl ?_
      refine zr_aload_n 1 hC dL_law_536 rfl rfl ?_
      refine zr_iload_n 0 hC dL_law_537 rfl rfl ?_
      refine zr_iconst (v := (1 : Int32)) hC dL_law_538 rfl ?_
      refine zr_iadd hC dL_law_539 ?_
      refine zr_sldj (j := 6 * k + 1) hC hX hbl hbA hL dL_law_540 (by omega) (by rw [hk2, show (1 : Int32) = nI 1 from rfl, nI_add]) ?_
      refine zr_aload_n 1 hC dL_law_541 rfl rfl ?_
      refine zr_iload_n 0 hC dL_law_542 rfl rfl ?_
      refine zr_iconst (v := (2 : Int32)) hC dL_law_543 rfl ?_
      refine zr_iadd hC dL_law_544 ?_
      refine zr_sldj (j := 6 * k + 2) hC hX hbl hbA hL dL_law_545 (by omega) (by rw [hk2, show (2 : Int32) = nI 2 from rfl, nI_add]) ?_
      refine zr_aload_n 1 hC dL_law_546 rfl rfl ?_
      refine zr_iload_n 0 hC dL_law_547 rfl rfl ?_
      refine zr_iconst (v := (3 : Int32)) hC dL_law_548 rfl ?_
      refine zr_iadd hC dL_law_549 ?_
      refine zr_sldj (j := 6 * k + 3) hC hX hbl hbA hL dL_law_550 (by omega) (by rw [hk2, show (3 : Int32) = nI 3 from rfl, nI_add]) ?_
      refine zr_wVi (wr := (mw_W mo m1 m2 m3 m4 m5 m6 m7 m8 m9 cI a1 y1)) 0 hC cv_X3_poke ml_L_53 (c_X3_poke hRc (xs (6 * k + 1)) (xs (6 * k + 2)) (xs (6 * k + 3))) dL_law_551 ⟨Nat.le_of_ble_eq_true rfl, Nat.le_of_ble_eq_true rfl⟩ ⟨by show 15 + 13 * k + 0 ≤ 600000; omega, by show 947 + 156 * k + 0 ≤ 7302250; omega⟩ rfl rfl rfl rfl rfl (Nat.le_of_ble_eq_true rfl) ?_
      rintro _ _ ⟨x2, rfl, rfl, hRc2⟩
      refine zr_aload_n 3 hC dL_law_554 rfl rfl ?_
      refine zr_aload_n 1 hC dL_law_555 rfl rfl ?_
      refine zr_iload_n 0 hC dL_law_556 rfl rfl ?_
      refine zr_iconst (v := (1 : Int32)) hC dL_law_557 rfl ?_
      refine zr_iadd hC dL_law_558 ?_
      refine zr_sldj (j := 6 * k + 1) hC hX hbl hbA hL dL_law_559 (by omega) (by rw [hk2, show (1 : Int32) = nI 1 from rfl, nI_add]) ?_
      refine zr_aload_n 1 hC dL_law_560 rfl rfl ?_
      refine zr_iload_n 0 hC dL_law_561 rfl rfl ?_
      refine zr_iconst (v := (2 : Int32)) hC dL_law_562 rfl ?_
      refine zr_iadd hC dL_law_563 ?_
      refine zr_sldj (j := 6 * k + 2) hC hX hbl hbA hL dL_law_564 (by omega) (by rw [hk2, show (2 : Int32) = nI 2 from rfl, nI_add]) ?_
      refine zr_aload_n 1 hC dL_law_565 rfl rfl ?_
      refine zr_iload_n 0 hC dL_law_566 rfl rfl ?_
      refine zr_iconst (v := (3 : Int32)) hC dL_law_567 rfl ?_
      refine zr_iadd hC dL_law_568 ?_
      refine zr_sldj (j := 6 * k + 3) hC hX hbl hbA hL dL_law_569 (by omega) (by rw [hk2, show (3 : Int32) = nI 3 from rfl, nI_add]) ?_
      refine zr_swap ?_
      refine zr_wVi (wr := (cw_W o rk sp pp fp cII cF (zo_poke a1 (xs (6 * k + 1)) (xs (6 * k + 2)) (xs (6 * k + 3))).2 x2)) 0 hC cv_X4_poke ml_L_56 (c_X4_poke hRm (xs (6 * k + 1)) (xs (6 * k + 2)) (xs (6 * k + 3))) dL_law_570 ⟨Nat.le_of_ble_eq_true rfl, Nat.le_of_ble_eq_true rfl⟩ ⟨by show 15 + 13 * k + 0 + 0 ≤ 600000; omega, by show 947 + 156 * k + 0 + 0 ≤ 7302250; omega⟩ rfl rfl rfl rfl rfl (Nat.le_of_ble_eq_true rfl) ?_
      rintro _ _ ⟨y2, rfl, rfl, hRm2⟩
      refine zr_swap ?_
      refine zr_icmp_eq (tgt := 868) hC dL_law_573 (by decide) (fun _ => ?_) (fun h => absurd rfl h)
      refine zr_iinc (v := (i1 + 6)) (lv' := [(3, .int (i1 + 6)), (0, .ref b), (1, .ref o), (2, .ref mo)]) 0 hC dL_law_868 rfl rfl (by decide) rfl ?_
      refine zr_goto (tgt := 18) hC dL_law_871 (by decide) ?_
      refine zr_wide (k := 15 + 13 * (k + 1)) (n := 947 + 156 * (k + 1)) (by omega) (by omega) ?_
      exact ih (k + 1, i1 + 6, (zo_poke a1 (xs (6 * k + 1)) (xs (6 * k + 2)) (xs (6 * k + 3))).2, x2, y2) ⟨by show 6 * (k + 1) ≤ L; omega, by show i1 + 6 = nI (6 * (k + 1)); rw [hk2, show (6 : Int32) = nI 6 from rfl, nI_add, Nat.mul_succ], hRc2, hRm2⟩ (by show L - 6 * (k + 1) < L - 6 * k; omega)
    by_cases t33_10 : ((xs (6 * k + 0)) &&& (31 : Int32)) = (10 : Int32)
    · refine zr_tableIn (tgt := 578) hC dL_law_33 (by rw [t33_10]; decide) (by rw [t33_10]; decide) (by rw [t33_10]; rfl) (by decide) ?_
      refine zr_aload_n 2 hC dL_law_578 rfl rfl ?_
      refine zr_aload_n 1 hC dL_law_579 rfl rfl ?_
      refine zr_iload_n 0 hC dL_law_580 rfl rfl ?_
      refine zr_iconst (v := (1 : Int32)) hC dL_law_581 rfl ?_
      refine zr_iadd hC dL_law_582 ?_
      refine zr_sldj (j := 6 * k + 1) hC hX hbl hbA hL dL_law_583 (by omega) (by rw [hk2, show (1 : Int32) = nI 1 from rfl, nI_add]) ?_
      refine zr_aload_n 1 hC dL_law_584 rfl rfl ?_
      refine zr_iload_n 0 hC dL_law_585 rfl rfl ?_
      refine zr_iconst (v := (2 : Int32)) hC dL_law_586 rfl ?_
      refine zr_iadd hC dL_law_587 ?_
      refine zr_sldj (j := 6 * k + 2) hC hX hbl hbA hL dL_law_588 (by omega) (by rw [hk2, show (2 : Int32) = nI 2 from rfl, nI_add]) ?_
      refine zr_wVi (wr := (mw_W mo m1 m2 m3 m4 m5 m6 m7 m8 m9 cI a1 y1)) 0 hC cv_X3_shown ml_L_57 (c_X3_shown hRc (xs (6 * k + 1)) (xs (6 * k + 2))) dL_law_589 ⟨Nat.le_of_ble_eq_true rfl, Nat.le_of_ble_eq_true rfl⟩ ⟨by show 15 + 13 * k + 0 ≤ 600000; omega, by show 947 + 156 * k + 0 ≤ 7302250; omega⟩ rfl rfl rfl rfl rfl (Nat.le_of_ble_eq_true rfl) ?_
      rintro _ _ ⟨x2, rfl, rfl, hRc2⟩
      refine zr_aload_n 3 hC dL_law_592 rfl rfl ?_
      refine zr_aload_n 1 hC dL_law_593 rfl rfl ?_
      refine zr_iload_n 0 hC dL_law_594 rfl rfl ?_
      refine zr_iconst (v := (1 : Int32)) hC dL_law_595 rfl ?_
      refine zr_iadd hC dL_law_596 ?_
      refine zr_sldj (j := 6 * k + 1) hC hX hbl hbA hL dL_law_597 (by omega) (by rw [hk2, show (1 : Int32) = nI 1 from rfl, nI_add]) ?_
      refine zr_aload_n 1 hC dL_law_598 rfl rfl ?_
      refine zr_iload_n 0 hC dL_law_599 rfl rfl ?_
      refine zr_iconst (v := (2 : Int32)) hC dL_law_600 rfl ?_
      refine zr_iadd hC dL_law_601 ?_
      refine zr_sldj (j := 6 * k + 2) hC hX hbl hbA hL dL_law_602 (by omega) (by rw [hk2, show (2 : Int32) = nI 2 from rfl, nI_add]) ?_
      refine zr_swap ?_
      refine zr_wVi (wr := (cw_W o rk sp pp fp cII cF (zo_shown a1 (xs (6 * k + 1)) (xs (6 * k + 2))).2 x2)) 0 hC cv_X4_shown ml_L_60 (c_X4_shown hRm (xs (6 * k + 1)) (xs (6 * k + 2))) dL_law_603 ⟨Nat.le_of_ble_eq_true rfl, Nat.le_of_ble_eq_true rfl⟩ ⟨by show 15 + 13 * k + 0 + 0 ≤ 600000; omega, by show 947 + 156 * k + 0 + 0 ≤ 7302250; omega⟩ rfl rfl rfl rfl rfl (Nat.le_of_ble_eq_true rfl) ?_
      rintro _ _ ⟨y2, rfl, rfl, hRm2⟩
      refine zr_swap ?_
      refine zr_icmp_eq (tgt := 868) hC dL_law_606 (by decide) (fun _ => ?_) (fun h => absurd rfl h)
      refine zr_iinc (v := (i1 + 6)) (lv' := [(3, .int (i1 + 6)), (0, .ref b), (1, .ref o), (2, .ref mo)]) 0 hC dL_law_868 rfl rfl (by decide) rfl ?_
      refine zr_goto (tgt := 18) hC dL_law_871 (by decide) ?_
      refine zr_wide (k := 15 + 13 * (k + 1)) (n := 947 + 156 * (k + 1)) (by omega) (by omega) ?_
      exact ih (k + 1, i1 + 6, (zo_shown a1 (xs (6 * k + 1)) (xs (6 * k + 2))).2, x2, y2) ⟨by show 6 * (k + 1) ≤ L; omega, by show i1 + 6 = nI (6 * (k + 1)); rw [hk2, show (6 : Int32) = nI 6 from rfl, nI_add, Nat.mul_succ], hRc2, hRm2⟩ (by show L - 6 * (k + 1) < L - 6 * k; omega)
    by_cases t33_11 : ((xs (6 * k + 0)) &&& (31 : Int32)) = (11 : Int32)
    · refine zr_tableIn (tgt := 611) hC dL_law_33 (by rw [t33_11]; decide) (by rw [t33_11]; decide) (by rw [t33_11]; rfl) (by decide) ?_
      refine zr_aload_n 2 hC dL_law_611 rfl rfl ?_
      refine zr_aload_n 1 hC dL_law_612 rfl rfl ?_
      refine zr_iload_n 0 hC dL_law_613 rfl rfl ?_
      refine zr_iconst (v := (1 : Int32)) hC dL_law_614 rfl ?_
      refine zr_iadd hC dL_law_615 ?_
      refine zr_sldj (j := 6 * k + 1) hC hX hbl hbA hL dL_law_616 (by omega) (by rw [hk2, show (1 : Int32) = nI 1 from rfl, nI_add]) ?_
      refine zr_wVi (wr := (mw_W mo m1 m2 m3 m4 m5 m6 m7 m8 m9 cI a1 y1)) 0 hC cv_X3_lit ml_L_61 (c_X3_lit hRc (xs (6 * k + 1))) dL_law_617 ⟨Nat.le_of_ble_eq_true rfl, Nat.le_of_ble_eq_true rfl⟩ ⟨by show 15 + 13 * k + 0 ≤ 600000; omega, by show 947 + 156 * k + 0 ≤ 7302250; omega⟩ rfl rfl rfl rfl rfl (Nat.le_of_ble_eq_true rfl) ?_
      rintro _ _ ⟨x2, rfl, rfl, hRc2⟩
      refine zr_aload_n 3 hC dL_law_620 rfl rfl ?_
      refine zr_aload_n 1 hC dL_law_621 rfl rfl ?_
      refine zr_iload_n 0 hC dL_law_622 rfl rfl ?_
      refine zr_iconst (v := (1 : Int32)) hC dL_law_623 rfl ?_
      refine zr_iadd hC dL_law_624 ?_
      refine zr_sldj (j := 6 * k + 1) hC hX hbl hbA hL dL_law_625 (by omega) (by rw [hk2, show (1 : Int32) = nI 1 from rfl, nI_add]) ?_
      refine zr_swap ?_
      refine zr_wVi (wr := (cw_W o rk sp pp fp cII cF (zo_lit a1 (xs (6 * k + 1))).2 x2)) 0 hC cv_X4_lit ml_L_65 (c_X4_lit hRm (xs (6 * k + 1))) dL_law_626 ⟨Nat.le_of_ble_eq_true rfl, Nat.le_of_ble_eq_true rfl⟩ ⟨by show 15 + 13 * k + 0 + 0 ≤ 600000; omega, by show 947 + 156 * k + 0 + 0 ≤ 7302250; omega⟩ rfl rfl rfl rfl rfl (Nat.le_of_ble_eq_true rfl) ?_
      rintro _ _ ⟨y2, rfl, rfl, hRm2⟩
      refine zr_swap ?_
      refine zr_icmp_eq (tgt := 868) hC dL_law_629 (by decide) (fun _ => ?_) (fun h => absurd rfl h)
      refine zr_iinc (v := (i1 + 6)) (lv' := [(3, .int (i1 + 6)), (0, .ref b), (1, .ref o), (2, .ref mo)]) 0 hC dL_law_868 rfl rfl (by decide) rfl ?_
      refine zr_goto (tgt := 18) hC dL_law_871 (by decide) ?_
      refine zr_wide (k := 15 + 13 * (k + 1)) (n := 947 + 156 * (k + 1)) (by omega) (by omega) ?_
      exact ih (k + 1, i1 + 6, (zo_lit a1 (xs (6 * k + 1))).2, x2, y2) ⟨by show 6 * (k + 1) ≤ L; omega, by show i1 + 6 = nI (6 * (k + 1)); rw [hk2, show (6 : Int32) = nI 6 from rfl, nI_add, Nat.mul_succ], hRc2, hRm2⟩ (by show L - 6 * (k + 1) < L - 6 * k; omega)
    by_cases t33_12 : ((xs (6 * k + 0)) &&& (31 : Int32)) = (12 : Int32)
    · refine zr_tableIn (tgt := 634) hC dL_law_33 (by rw [t33_12]; decide) (by rw [t33_12]; decide) (by rw [t33_12]; rfl) (by decide) ?_
      refine zr_aload_n 2 hC dL_law_634 rfl rfl ?_
      refine zr_aload_n 1 hC dL_law_635 rfl rfl ?_
      refine zr_iload_n 0 hC dL_law_636 rfl rfl ?_
      refine zr_iconst (v := (1 : Int32)) hC dL_law_637 rfl ?_
      refine zr_iadd hC dL_law_638 ?_
      refine zr_sldj (j := 6 * k + 1) hC hX hbl hbA hL dL_law_639 (by omega) (by rw [hk2, show (1 : Int32) = nI 1 from rfl, nI_add]) ?_
      refine zr_aload_n 1 hC dL_law_640 rfl rfl ?_
      refine zr_iload_n 0 hC dL_law_641 rfl rfl ?_
      refine zr_iconst (v := (2 : Int32)) hC dL_law_642 rfl ?_
      refine zr_iadd hC dL_law_643 ?_
      refine zr_sldj (j := 6 * k + 2) hC hX hbl hbA hL dL_law_644 (by omega) (by rw [hk2, show (2 : Int32) = nI 2 from rfl, nI_add]) ?_
      refine zr_aload_n 1 hC dL_law_645 rfl rfl ?_
      refine zr_iload_n 0 hC dL_law_646 rfl rfl ?_
      refine zr_iconst (v := (3 : Int32)) hC dL_law_647 rfl ?_
      refine zr_iadd hC dL_law_648 ?_
      refine zr_sldj (j := 6 * k + 3) hC hX hbl hbA hL dL_law_649 (by omega) (by rw [hk2, show (3 : Int32) = nI 3 from rfl, nI_add]) ?_
      refine zr_aload_n 1 hC dL_law_650 rfl rfl ?_
      refine zr_iload_n 0 hC dL_law_651 rfl rfl ?_
      refine zr_iconst (v := (4 : Int32)) hC dL_law_652 rfl ?_
      refine zr_iadd hC dL_law_653 ?_
      refine zr_sldj (j := 6 * k + 4) hC hX hbl hbA hL dL_law_654 (by omega) (by rw [hk2, show (4 : Int32) = nI 4 from rfl, nI_add]) ?_
      refine zr_wVi (wr := (mw_W mo m1 m2 m3 m4 m5 m6 m7 m8 m9 cI a1 y1)) 0 hC cv_X3_fade ml_L_66 (c_X3_fade hRc (xs (6 * k + 1)) (xs (6 * k + 2)) (xs (6 * k + 3)) (xs (6 * k + 4))) dL_law_655 ⟨Nat.le_of_ble_eq_true rfl, Nat.le_of_ble_eq_true rfl⟩ ⟨by show 15 + 13 * k + 1 ≤ 600000; omega, by show 947 + 156 * k + 4 ≤ 7302250; omega⟩ rfl rfl rfl rfl rfl (Nat.le_of_ble_eq_true rfl) ?_
      rintro _ _ ⟨x2, rfl, rfl, hRc2⟩
      refine zr_aload_n 3 hC dL_law_658 rfl rfl ?_
      refine zr_aload_n 1 hC dL_law_659 rfl rfl ?_
      refine zr_iload_n 0 hC dL_law_660 rfl rfl ?_
      refine zr_iconst (v := (1 : Int32)) hC dL_law_661 rfl ?_
      refine zr_iadd hC dL_law_662 ?_
      refine zr_sldj (j := 6 * k + 1) hC hX hbl hbA hL dL_law_663 (by omega) (by rw [hk2, show (1 : Int32) = nI 1 from rfl, nI_add]) ?_
      refine zr_aload_n 1 hC dL_law_664 rfl rfl ?_
      refine zr_iload_n 0 hC dL_law_665 rfl rfl ?_
      refine zr_iconst (v := (2 : Int32)) hC dL_law_666 rfl ?_
      refine zr_iadd hC dL_law_667 ?_
      refine zr_sldj (j := 6 * k + 2) hC hX hbl hbA hL dL_law_668 (by omega) (by rw [hk2, show (2 : Int32) = nI 2 from rfl, nI_add]) ?_
      refine zr_aload_n 1 hC dL_law_669 rfl rfl ?_
      refine zr_iload_n 0 hC dL_law_670 rfl rfl ?_
      refine zr_iconst (v := (3 : Int32)) hC dL_law_671 rfl ?_
      refine zr_iadd hC dL_law_672 ?_
      refine zr_sldj (j := 6 * k + 3) hC hX hbl hbA hL dL_law_673 (by omega) (by rw [hk2, show (3 : Int32) = nI 3 from rfl, nI_add]) ?_
      refine zr_aload_n 1 hC dL_law_674 rfl rfl ?_
      refine zr_iload_n 0 hC dL_law_675 rfl rfl ?_
      refine zr_iconst (v := (4 : Int32)) hC dL_law_676 rfl ?_
      refine zr_iadd hC dL_law_677 ?_
      refine zr_sldj (j := 6 * k + 4) hC hX hbl hbA hL dL_law_678 (by omega) (by rw [hk2, show (4 : Int32) = nI 4 from rfl, nI_add]) ?_
      refine zr_swap ?_
      refine zr_wVi (wr := (cw_W o rk sp pp fp cII cF (zo_fade a1 (xs (6 * k + 1)) (xs (6 * k + 2)) (xs (6 * k + 3)) (xs (6 * k + 4))).2 x2)) 0 hC cv_X4_fade ml_L_69 (c_X4_fade hRm (xs (6 * k + 1)) (xs (6 * k + 2)) (xs (6 * k + 3)) (xs (6 * k + 4))) dL_law_679 ⟨Nat.le_of_ble_eq_true rfl, Nat.le_of_ble_eq_true rfl⟩ ⟨by show 15 + 13 * k + 1 + 0 ≤ 600000; omega, by show 947 + 156 * k + 4 + 0 ≤ 7302250; omega⟩ rfl rfl rfl rfl rfl (Nat.le_of_ble_eq_true rfl) ?_
      rintro _ _ ⟨y2, rfl, rfl, hRm2⟩
      refine zr_swap ?_
      refine zr_icmp_eq (tgt := 868) hC dL_law_682 (by decide) (fun _ => ?_) (fun h => absurd rfl h)
      refine zr_iinc (v := (i1 + 6)) (lv' := [(3, .int (i1 + 6)), (0, .ref b), (1, .ref o), (2, .ref mo)]) 0 hC dL_law_868 rfl rfl (by decide) rfl ?_
      refine zr_goto (tgt := 18) hC dL_law_871 (by decide) ?_
      refine zr_wide (k := 15 + 13 * (k + 1)) (n := 947 + 156 * (k + 1)) (by omega) (by omega) ?_
      exact ih (k + 1, i1 + 6, (zo_fade a1 (xs (6 * k + 1)) (xs (6 * k + 2)) (xs (6 * k + 3)) (xs (6 * k + 4))).2, x2, y2) ⟨by show 6 * (k + 1) ≤ L; omega, by show i1 + 6 = nI (6 * (k + 1)); rw [hk2, show (6 : Int32) = nI 6 from rfl, nI_add, Nat.mul_succ], hRc2, hRm2⟩ (by show L - 6 * (k + 1) < L - 6 * k; omega)
    by_cases t33_13 : ((xs (6 * k + 0)) &&& (31 : Int32)) = (13 : Int32)
    · refine zr_tableIn (tgt := 687) hC dL_law_33 (by rw [t33_13]; decide) (by rw [t33_13]; decide) (by rw [t33_13]; rfl) (by decide) ?_
      refine zr_aload_n 2 hC dL_law_687 rfl rfl ?_
      refine zr_wVi (wr := (mw_W mo m1 m2 m3 m4 m5 m6 m7 m8 m9 cI a1 y1)) 0 hC cv_X3_tick ml_L_70 (c_X3_tick hRc ) dL_law_688 ⟨Nat.le_of_ble_eq_true rfl, Nat.le_of_ble_eq_true rfl⟩ ⟨by show 15 + 13 * k + 0 ≤ 600000; omega, by show 947 + 156 * k + 0 ≤ 7302250; omega⟩ rfl rfl rfl rfl rfl (Nat.le_of_ble_eq_true rfl) ?_
      rintro _ _ ⟨x2, rfl, rfl, hRc2⟩
      refine zr_aload_n 3 hC dL_law_691 rfl rfl ?_
      refine zr_swap ?_
      refine zr_wVi (wr := (cw_W o rk sp pp fp cII cF (zo_tick a1).2 x2)) 0 hC cv_X4_tick ml_L_74 (c_X4_tick hRm ) dL_law_692 ⟨Nat.le_of_ble_eq_true rfl, Nat.le_of_ble_eq_true rfl⟩ ⟨by show 15 + 13 * k + 0 + 0 ≤ 600000; omega, by show 947 + 156 * k + 0 + 0 ≤ 7302250; omega⟩ rfl rfl rfl rfl rfl (Nat.le_of_ble_eq_true rfl) ?_
      rintro _ _ ⟨y2, rfl, rfl, hRm2⟩
      refine zr_swap ?_
      refine zr_icmp_eq (tgt := 868) hC dL_law_695 (by decide) (fun _ => ?_) (fun h => absurd rfl h)
      refine zr_iinc (v := (i1 + 6)) (lv' := [(3, .int (i1 + 6)), (0, .ref b), (1, .ref o), (2, .ref mo)]) 0 hC dL_law_868 rfl rfl (by decide) rfl ?_
      refine zr_goto (tgt := 18) hC dL_law_871 (by decide) ?_
      refine zr_wide (k := 15 + 13 * (k + 1)) (n := 947 + 156 * (k + 1)) (by omega) (by omega) ?_
      exact ih (k + 1, i1 + 6, (zo_tick a1).2, x2, y2) ⟨by show 6 * (k + 1) ≤ L; omega, by show i1 + 6 = nI (6 * (k + 1)); rw [hk2, show (6 : Int32) = nI 6 from rfl, nI_add, Nat.mul_succ], hRc2, hRm2⟩ (by show L - 6 * (k + 1) < L - 6 * k; omega)
    by_cases t33_14 : ((xs (6 * k + 0)) &&& (31 : Int32)) = (14 : Int32)
    · refine zr_tableIn (tgt := 700) hC dL_law_33 (by rw [t33_14]; decide) (by rw [t33_14]; decide) (by rw [t33_14]; rfl) (by decide) ?_
      refine zr_aload_n 2 hC dL_law_700 rfl rfl ?_
      refine zr_aload_n 1 hC dL_law_701 rfl rfl ?_
      refine zr_iload_n 0 hC dL_law_702 rfl rfl ?_
      refine zr_iconst (v := (1 : Int32)) hC dL_law_703 rfl ?_
      refine zr_iadd hC dL_law_704 ?_
      refine zr_sldj (j := 6 * k + 1) hC hX hbl hbA hL dL_law_705 (by omega) (by rw [hk2, show (1 : Int32) = nI 1 from rfl, nI_add]) ?_
      refine zr_aload_n 1 hC dL_law_706 rfl rfl ?_
      refine zr_iload_n 0 hC dL_law_707 rfl rfl ?_
      refine zr_iconst (v := (2 : Int32)) hC dL_law_708 rfl ?_
      refine zr_iadd hC dL_law_709 ?_
      refine zr_sldj (j := 6 * k + 2) hC hX hbl hbA hL dL_law_710 (by omega) (by rw [hk2, show (2 : Int32) = nI 2 from rfl, nI_add]) ?_
      refine zr_wVi (wr := (mw_W mo m1 m2 m3 m4 m5 m6 m7 m8 m9 cI a1 y1)) 0 hC cv_X3_sheet ml_L_75 (c_X3_sheet hRc (xs (6 * k + 1)) (xs (6 * k + 2))) dL_law_711 ⟨Nat.le_of_ble_eq_true rfl, Nat.le_of_ble_eq_true rfl⟩ ⟨by show 15 + 13 * k + 13 ≤ 600000; omega, by show 947 + 156 * k + 156 ≤ 7302250; omega⟩ rfl rfl rfl rfl rfl (Nat.le_of_ble_eq_true rfl) ?_
      rintro _ _ ⟨x2, rfl, rfl, hRc2⟩
      refine zr_aload_n 3 hC dL_law_714 rfl rfl ?_
      refine zr_aload_n 1 hC dL_law_715 rfl rfl ?_
      refine zr_iload_n 0 hC dL_law_716 rfl rfl ?_
      refine zr_iconst (v := (1 : Int32)) hC dL_law_717 rfl ?_
      refine zr_iadd hC dL_law_718 ?_
      refine zr_sldj (j := 6 * k + 1) hC hX hbl hbA hL dL_law_719 (by omega) (by rw [hk2, show (1 : Int32) = nI 1 from rfl, nI_add]) ?_
      refine zr_aload_n 1 hC dL_law_720 rfl rfl ?_
      refine zr_iload_n 0 hC dL_law_721 rfl rfl ?_
      refine zr_iconst (v := (2 : Int32)) hC dL_law_722 rfl ?_
      refine zr_iadd hC dL_law_723 ?_
      refine zr_sldj (j := 6 * k + 2) hC hX hbl hbA hL dL_law_724 (by omega) (by rw [hk2, show (2 : Int32) = nI 2 from rfl, nI_add]) ?_
      refine zr_swap ?_
      refine zr_wVi (wr := (cw_W o rk sp pp fp cII cF (zo_sheet a1 (xs (6 * k + 1)) (xs (6 * k + 2))).2 x2)) 0 hC cv_X4_sheet ml_L_78 (c_X4_sheet hRm (xs (6 * k + 1)) (xs (6 * k + 2))) dL_law_725 ⟨Nat.le_of_ble_eq_true rfl, Nat.le_of_ble_eq_true rfl⟩ ⟨by show 15 + 13 * k + 13 + 0 ≤ 600000; omega, by show 947 + 156 * k + 156 + 0 ≤ 7302250; omega⟩ rfl rfl rfl rfl rfl (Nat.le_of_ble_eq_true rfl) ?_
      rintro _ _ ⟨y2, rfl, rfl, hRm2⟩
      refine zr_swap ?_
      refine zr_icmp_eq (tgt := 868) hC dL_law_728 (by decide) (fun _ => ?_) (fun h => absurd rfl h)
      refine zr_iinc (v := (i1 + 6)) (lv' := [(3, .int (i1 + 6)), (0, .ref b), (1, .ref o), (2, .ref mo)]) 0 hC dL_law_868 rfl rfl (by decide) rfl ?_
      refine zr_goto (tgt := 18) hC dL_law_871 (by decide) ?_
      refine zr_wide (k := 15 + 13 * (k + 1)) (n := 947 + 156 * (k + 1)) (by omega) (by omega) ?_
      exact ih (k + 1, i1 + 6, (zo_sheet a1 (xs (6 * k + 1)) (xs (6 * k + 2))).2, x2, y2) ⟨by show 6 * (k + 1) ≤ L; omega, by show i1 + 6 = nI (6 * (k + 1)); rw [hk2, show (6 : Int32) = nI 6 from rfl, nI_add, Nat.mul_succ], hRc2, hRm2⟩ (by show L - 6 * (k + 1) < L - 6 * k; omega)
    by_cases t33_15 : ((xs (6 * k + 0)) &&& (31 : Int32)) = (15 : Int32)
    · refine zr_tableIn (tgt := 733) hC dL_law_33 (by rw [t33_15]; decide) (by rw [t33_15]; decide) (by rw [t33_15]; rfl) (by decide) ?_
      refine zr_aload_n 2 hC dL_law_733 rfl rfl ?_
      refine zr_aload_n 1 hC dL_law_734 rfl rfl ?_
      refine zr_iload_n 0 hC dL_law_735 rfl rfl ?_
      refine zr_iconst (v := (1 : Int32)) hC dL_law_736 rfl ?_
      refine zr_iadd hC dL_law_737 ?_
      refine zr_sldj (j := 6 * k + 1) hC hX hbl hbA hL dL_law_738 (by omega) (by rw [hk2, show (1 : Int32) = nI 1 from rfl, nI_add]) ?_
      refine zr_aload_n 1 hC dL_law_739 rfl rfl ?_
      refine zr_iload_n 0 hC dL_law_740 rfl rfl ?_
      refine zr_iconst (v := (2 : Int32)) hC dL_law_741 rfl ?_
      refine zr_iadd hC dL_law_742 ?_
      refine zr_sldj (j := 6 * k + 2) hC hX hbl hbA hL dL_law_743 (by omega) (by rw [hk2, show (2 : Int32) = nI 2 from rfl, nI_add]) ?_
      refine zr_wVi (wr := (mw_W mo m1 m2 m3 m4 m5 m6 m7 m8 m9 cI a1 y1)) 0 hC cv_X3_cell ml_L_79 (c_X3_cell hRc (xs (6 * k + 1)) (xs (6 * k + 2))) dL_law_744 ⟨Nat.le_of_ble_eq_true rfl, Nat.le_of_ble_eq_true rfl⟩ ⟨by show 15 + 13 * k + 0 ≤ 600000; omega, by show 947 + 156 * k + 0 ≤ 7302250; omega⟩ rfl rfl rfl rfl rfl (Nat.le_of_ble_eq_true rfl) ?_
      rintro _ _ ⟨x2, rfl, rfl, hRc2⟩
      refine zr_aload_n 3 hC dL_law_747 rfl rfl ?_
      refine zr_aload_n 1 hC dL_law_748 rfl rfl ?_
      refine zr_iload_n 0 hC dL_law_749 rfl rfl ?_
      refine zr_iconst (v := (1 : Int32)) hC dL_law_750 rfl ?_
      refine zr_iadd hC dL_law_751 ?_
      refine zr_sldj (j := 6 * k + 1) hC hX hbl hbA hL dL_law_752 (by omega) (by rw [hk2, show (1 : Int32) = nI 1 from rfl, nI_add]) ?_
      refine zr_aload_n 1 hC dL_law_753 rfl rfl ?_
      refine zr_iload_n 0 hC dL_law_754 rfl rfl ?_
      refine zr_iconst (v := (2 : Int32)) hC dL_law_755 rfl ?_
      refine zr_iadd hC dL_law_756 ?_
      refine zr_sldj (j := 6 * k + 2) hC hX hbl hbA hL dL_law_757 (by omega) (by rw [hk2, show (2 : Int32) = nI 2 from rfl, nI_add]) ?_
      refine zr_swap ?_
      refine zr_wVi (wr := (cw_W o rk sp pp fp cII cF (zo_cell a1 (xs (6 * k + 1)) (xs (6 * k + 2))).2 x2)) 0 hC cv_X4_cell ml_L_82 (c_X4_cell hRm (xs (6 * k + 1)) (xs (6 * k + 2))) dL_law_758 ⟨Nat.le_of_ble_eq_true rfl, Nat.le_of_ble_eq_true rfl⟩ ⟨by show 15 + 13 * k + 0 + 0 ≤ 600000; omega, by show 947 + 156 * k + 0 + 0 ≤ 7302250; omega⟩ rfl rfl rfl rfl rfl (Nat.le_of_ble_eq_true rfl) ?_
      rintro _ _ ⟨y2, rfl, rfl, hRm2⟩
      refine zr_swap ?_
      refine zr_icmp_eq (tgt := 868) hC dL_law_761 (by decide) (fun _ => ?_) (fun h => absurd rfl h)
      refine zr_iinc (v := (i1 + 6)) (lv' := [(3, .int (i1 + 6)), (0, .ref b), (1, .ref o), (2, .ref mo)]) 0 hC dL_law_868 rfl rfl (by decide) rfl ?_
      refine zr_goto (tgt := 18) hC dL_law_871 (by decide) ?_
      refine zr_wide (k := 15 + 13 * (k + 1)) (n := 947 + 156 * (k + 1)) (by omega) (by omega) ?_
      exact ih (k + 1, i1 + 6, (zo_cell a1 (xs (6 * k + 1)) (xs (6 * k + 2))).2, x2, y2) ⟨by show 6 * (k + 1) ≤ L; omega, by show i1 + 6 = nI (6 * (k + 1)); rw [hk2, show (6 : Int32) = nI 6 from rfl, nI_add, Nat.mul_succ], hRc2, hRm2⟩ (by show L - 6 * (k + 1) < L - 6 * k; omega)
    by_cases t33_16 : ((xs (6 * k + 0)) &&& (31 : Int32)) = (16 : Int32)
    · refine zr_tableIn (tgt := 766) hC dL_law_33 (by rw [t33_16]; decide) (by rw [t33_16]; decide) (by rw [t33_16]; rfl) (by decide) ?_
      refine zr_aload_n 2 hC dL_law_766 rfl rfl ?_
      refine zr_aload_n 1 hC dL_law_767 rfl rfl ?_
      refine zr_iload_n 0 hC dL_law_768 rfl rfl ?_
      refine zr_iconst (v := (1 : Int32)) hC dL_law_769 rfl ?_
      refine zr_iadd hC dL_law_770 ?_
      refine zr_sldj (j := 6 * k + 1) hC hX hbl hbA hL dL_law_771 (by omega) (by rw [hk2, show (1 : Int32) = nI 1 from rfl, nI_add]) ?_
      refine zr_aload_n 1 hC dL_law_772 rfl rfl ?_
      refine zr_iload_n 0 hC dL_law_773 rfl rfl ?_
      refine zr_iconst (v := (2 : Int32)) hC dL_law_774 rfl ?_
      refine zr_iadd hC dL_law_775 ?_
      refine zr_sldj (j := 6 * k + 2) hC hX hbl hbA hL dL_law_776 (by omega) (by rw [hk2, show (2 : Int32) = nI 2 from rfl, nI_add]) ?_
      refine zr_wVi (wr := (mw_W mo m1 m2 m3 m4 m5 m6 m7 m8 m9 cI a1 y1)) 0 hC cv_X3_tear ml_L_83 (c_X3_tear hRc (xs (6 * k + 1)) (xs (6 * k + 2))) dL_law_777 ⟨Nat.le_of_ble_eq_true rfl, Nat.le_of_ble_eq_true rfl⟩ ⟨by show 15 + 13 * k + 0 ≤ 600000; omega, by show 947 + 156 * k + 0 ≤ 7302250; omega⟩ rfl rfl rfl rfl rfl (Nat.le_of_ble_eq_true rfl) ?_
      rintro _ _ ⟨x2, rfl, rfl, hRc2⟩
      refine zr_aload_n 3 hC dL_law_780 rfl rfl ?_
      refine zr_aload_n 1 hC dL_law_781 rfl rfl ?_
      refine zr_iload_n 0 hC dL_law_782 rfl rfl ?_
      refine zr_iconst (v := (1 : Int32)) hC dL_law_783 rfl ?_
      refine zr_iadd hC dL_law_784 ?_
      refine zr_sldj (j := 6 * k + 1) hC hX hbl hbA hL dL_law_785 (by omega) (by rw [hk2, show (1 : Int32) = nI 1 from rfl, nI_add]) ?_
      refine zr_aload_n 1 hC dL_law_786 rfl rfl ?_
      refine zr_iload_n 0 hC dL_law_787 rfl rfl ?_
      refine zr_iconst (v := (2 : Int32)) hC dL_law_788 rfl ?_
      refine zr_iadd hC dL_law_789 ?_
      refine zr_sldj (j := 6 * k + 2) hC hX hbl hbA hL dL_law_790 (by omega) (by rw [hk2, show (2 : Int32) = nI 2 from rfl, nI_add]) ?_
      refine zr_swap ?_
      refine zr_wVi (wr := (cw_W o rk sp pp fp cII cF (zo_tear a1 (xs (6 * k + 1)) (xs (6 * k + 2))).2 x2)) 0 hC cv_X4_tear ml_L_86 (c_X4_tear hRm (xs (6 * k + 1)) (xs (6 * k + 2))) dL_law_791 ⟨Nat.le_of_ble_eq_true rfl, Nat.le_of_ble_eq_true rfl⟩ ⟨by show 15 + 13 * k + 0 + 0 ≤ 600000; omega, by show 947 + 156 * k + 0 + 0 ≤ 7302250; omega⟩ rfl rfl rfl rfl rfl (Nat.le_of_ble_eq_true rfl) ?_
      rintro _ _ ⟨y2, rfl, rfl, hRm2⟩
      refine zr_swap ?_
      refine zr_icmp_eq (tgt := 868) hC dL_law_794 (by decide) (fun _ => ?_) (fun h => absurd rfl h)
      refine zr_iinc (v := (i1 + 6)) (lv' := [(3, .int (i1 + 6)), (0, .ref b), (1, .ref o), (2, .ref mo)]) 0 hC dL_law_868 rfl rfl (by decide) rfl ?_
      refine zr_goto (tgt := 18) hC dL_law_871 (by decide) ?_
      refine zr_wide (k := 15 + 13 * (k + 1)) (n := 947 + 156 * (k + 1)) (by omega) (by omega) ?_
      exact ih (k + 1, i1 + 6, (zo_tear a1 (xs (6 * k + 1)) (xs (6 * k + 2))).2, x2, y2) ⟨by show 6 * (k + 1) ≤ L; omega, by show i1 + 6 = nI (6 * (k + 1)); rw [hk2, show (6 : Int32) = nI 6 from rfl, nI_add, Nat.mul_succ], hRc2, hRm2⟩ (by show L - 6 * (k + 1) < L - 6 * k; omega)
    by_cases t33_17 : ((xs (6 * k + 0)) &&& (31 : Int32)) = (17 : Int32)
    · refine zr_tableIn (tgt := 799) hC dL_law_33 (by rw [t33_17]; decide) (by rw [t33_17]; decide) (by rw [t33_17]; rfl) (by decide) ?_
      refine zr_aload_n 2 hC dL_law_799 rfl rfl ?_
      refine zr_aload_n 1 hC dL_law_800 rfl rfl ?_
      refine zr_iload_n 0 hC dL_law_801 rfl rfl ?_
      refine zr_iconst (v := (1 : Int32)) hC dL_law_802 rfl ?_
      refine zr_iadd hC dL_law_803 ?_
      refine zr_sldj (j := 6 * k + 1) hC hX hbl hbA hL dL_law_804 (by omega) (by rw [hk2, show (1 : Int32) = nI 1 from rfl, nI_add]) ?_
      refine zr_aload_n 1 hC dL_law_805 rfl rfl ?_
      refine zr_iload_n 0 hC dL_law_806 rfl rfl ?_
      refine zr_iconst (v := (2 : Int32)) hC dL_law_807 rfl ?_
      refine zr_iadd hC dL_law_808 ?_
      refine zr_sldj (j := 6 * k + 2) hC hX hbl hbA hL dL_law_809 (by omega) (by rw [hk2, show (2 : Int32) = nI 2 from rfl, nI_add]) ?_
      refine zr_wVi (wr := (mw_W mo m1 m2 m3 m4 m5 m6 m7 m8 m9 cI a1 y1)) 0 hC cv_X3_draw ml_L_87 (c_X3_draw hRc (xs (6 * k + 1)) (xs (6 * k + 2))) dL_law_810 ⟨Nat.le_of_ble_eq_true rfl, Nat.le_of_ble_eq_true rfl⟩ ⟨by show 15 + 13 * k + 0 ≤ 600000; omega, by show 947 + 156 * k + 0 ≤ 7302250; omega⟩ rfl rfl rfl rfl rfl (Nat.le_of_ble_eq_true rfl) ?_
      rintro _ _ ⟨x2, rfl, rfl, hRc2⟩
      refine zr_aload_n 3 hC dL_law_813 rfl rfl ?_
      refine zr_aload_n 1 hC dL_law_814 rfl rfl ?_
      refine zr_iload_n 0 hC dL_law_815 rfl rfl ?_
      refine zr_iconst (v := (1 : Int32)) hC dL_law_816 rfl ?_
      refine zr_iadd hC dL_law_817 ?_
      refine zr_sldj (j := 6 * k + 1) hC hX hbl hbA hL dL_law_818 (by omega) (by rw [hk2, show (1 : Int32) = nI 1 from rfl, nI_add]) ?_
      refine zr_aload_n 1 hC dL_law_819 rfl rfl ?_
      refine zr_iload_n 0 hC dL_law_820 rfl rfl ?_
      refine zr_iconst (v := (2 : Int32)) hC dL_law_821 rfl ?_
      refine zr_iadd hC dL_law_822 ?_
      refine zr_sldj (j := 6 * k + 2) hC hX hbl hbA hL dL_law_823 (by omega) (by rw [hk2, show (2 : Int32) = nI 2 from rfl, nI_add]) ?_
      refine zr_swap ?_
      refine zr_wVi (wr := (cw_W o rk sp pp fp cII cF (zo_draw a1 (xs (6 * k + 1)) (xs (6 * k + 2))).2 x2)) 0 hC cv_X4_draw ml_L_90 (c_X4_draw hRm (xs (6 * k + 1)) (xs (6 * k + 2))) dL_law_824 ⟨Nat.le_of_ble_eq_true rfl, Nat.le_of_ble_eq_true rfl⟩ ⟨by show 15 + 13 * k + 0 + 0 ≤ 600000; omega, by show 947 + 156 * k + 0 + 0 ≤ 7302250; omega⟩ rfl rfl rfl rfl rfl (Nat.le_of_ble_eq_true rfl) ?_
      rintro _ _ ⟨y2, rfl, rfl, hRm2⟩
      refine zr_swap ?_
      refine zr_icmp_eq (tgt := 868) hC dL_law_827 (by decide) (fun _ => ?_) (fun h => absurd rfl h)
      refine zr_iinc (v := (i1 + 6)) (lv' := [(3, .int (i1 + 6)), (0, .ref b), (1, .ref o), (2, .ref mo)]) 0 hC dL_law_868 rfl rfl (by decide) rfl ?_
      refine zr_goto (tgt := 18) hC dL_law_871 (by decide) ?_
      refine zr_wide (k := 15 + 13 * (k + 1)) (n := 947 + 156 * (k + 1)) (by omega) (by omega) ?_
      exact ih (k + 1, i1 + 6, (zo_draw a1 (xs (6 * k + 1)) (xs (6 * k + 2))).2, x2, y2) ⟨by show 6 * (k + 1) ≤ L; omega, by show i1 + 6 = nI (6 * (k + 1)); rw [hk2, show (6 : Int32) = nI 6 from rfl, nI_add, Nat.mul_succ], hRc2, hRm2⟩ (by show L - 6 * (k + 1) < L - 6 * k; omega)
    by_cases t33_18 : ((xs (6 * k + 0)) &&& (31 : Int32)) = (18 : Int32)
    · refine zr_tableIn (tgt := 832) hC dL_law_33 (by rw [t33_18]; decide) (by rw [t33_18]; decide) (by rw [t33_18]; rfl) (by decide) ?_
      refine zr_aload_n 2 hC dL_law_832 rfl rfl ?_
      refine zr_wVi (wr := (mw_W mo m1 m2 m3 m4 m5 m6 m7 m8 m9 cI a1 y1)) 0 hC cv_X3_status ml_L_91 (c_X3_status hRc ) dL_law_833 ⟨Nat.le_of_ble_eq_true rfl, Nat.le_of_ble_eq_true rfl⟩ ⟨by show 15 + 13 * k + 0 ≤ 600000; omega, by show 947 + 156 * k + 0 ≤ 7302250; omega⟩ rfl rfl rfl rfl rfl (Nat.le_of_ble_eq_true rfl) ?_
      rintro _ _ ⟨x2, rfl, rfl, hRc2⟩
      refine zr_aload_n 3 hC dL_law_836 rfl rfl ?_
      refine zr_swap ?_
      refine zr_wVi (wr := (cw_W o rk sp pp fp cII cF (zo_status a1).2 x2)) 0 hC cv_X4_status ml_L_94 (c_X4_status hRm ) dL_law_837 ⟨Nat.le_of_ble_eq_true rfl, Nat.le_of_ble_eq_true rfl⟩ ⟨by show 15 + 13 * k + 0 + 0 ≤ 600000; omega, by show 947 + 156 * k + 0 + 0 ≤ 7302250; omega⟩ rfl rfl rfl rfl rfl (Nat.le_of_ble_eq_true rfl) ?_
      rintro _ _ ⟨y2, rfl, rfl, hRm2⟩
      refine zr_swap ?_
      refine zr_icmp_eq (tgt := 868) hC dL_law_840 (by decide) (fun _ => ?_) (fun h => absurd rfl h)
      refine zr_iinc (v := (i1 + 6)) (lv' := [(3, .int (i1 + 6)), (0, .ref b), (1, .ref o), (2, .ref mo)]) 0 hC dL_law_868 rfl rfl (by decide) rfl ?_
      refine zr_goto (tgt := 18) hC dL_law_871 (by decide) ?_
      refine zr_wide (k := 15 + 13 * (k + 1)) (n := 947 + 156 * (k + 1)) (by omega) (by omega) ?_
      exact ih (k + 1, i1 + 6, (zo_status a1).2, x2, y2) ⟨by show 6 * (k + 1) ≤ L; omega, by show i1 + 6 = nI (6 * (k + 1)); rw [hk2, show (6 : Int32) = nI 6 from rfl, nI_add, Nat.mul_succ], hRc2, hRm2⟩ (by show L - 6 * (k + 1) < L - 6 * k; omega)
    by_cases t33_19 : ((xs (6 * k + 0)) &&& (31 : Int32)) = (19 : Int32)
    · refine zr_tableIn (tgt := 845) hC dL_law_33 (by rw [t33_19]; decide) (by rw [t33_19]; decide) (by rw [t33_19]; rfl) (by decide) ?_
      refine zr_aload_n 2 hC dL_law_845 rfl rfl ?_
      refine zr_aload_n 1 hC dL_law_846 rfl rfl ?_
      refine zr_iload_n 0 hC dL_law_847 rfl rfl ?_
      refine zr_iconst (v := (1 : Int32)) hC dL_law_848 rfl ?_
      refine zr_iadd hC dL_law_849 ?_
      refine zr_sldj (j := 6 * k + 1) hC hX hbl hbA hL dL_law_850 (by omega) (by rw [hk2, show (1 : Int32) = nI 1 from rfl, nI_add]) ?_
      refine zr_wVi (wr := (mw_W mo m1 m2 m3 m4 m5 m6 m7 m8 m9 cI a1 y1)) 0 hC cv_X3_count ml_L_95 (c_X3_count hRc (xs (6 * k + 1))) dL_law_851 ⟨Nat.le_of_ble_eq_true rfl, Nat.le_of_ble_eq_true rfl⟩ ⟨by show 15 + 13 * k + 0 ≤ 600000; omega, by show 947 + 156 * k + 0 ≤ 7302250; omega⟩ rfl rfl rfl rfl rfl (Nat.le_of_ble_eq_true rfl) ?_
      rintro _ _ ⟨x2, rfl, rfl, hRc2⟩
      refine zr_aload_n 3 hC dL_law_854 rfl rfl ?_
      refine zr_aload_n 1 hC dL_law_855 rfl rfl ?_
      refine zr_iload_n 0 hC dL_law_856 rfl rfl ?_
      refine zr_iconst (v := (1 : Int32)) hC dL_law_857 rfl ?_
      refine zr_iadd hC dL_law_858 ?_
      refine zr_sldj (j := 6 * k + 1) hC hX hbl hbA hL dL_law_859 (by omega) (by rw [hk2, show (1 : Int32) = nI 1 from rfl, nI_add]) ?_
      refine zr_swap ?_
      refine zr_wVi (wr := (cw_W o rk sp pp fp cII cF (zo_count a1 (xs (6 * k + 1))).2 x2)) 0 hC cv_X4_count ml_L_98 (c_X4_count hRm (xs (6 * k + 1))) dL_law_860 ⟨Nat.le_of_ble_eq_true rfl, Nat.le_of_ble_eq_true rfl⟩ ⟨by show 15 + 13 * k + 0 + 0 ≤ 600000; omega, by show 947 + 156 * k + 0 + 0 ≤ 7302250; omega⟩ rfl rfl rfl rfl rfl (Nat.le_of_ble_eq_true rfl) ?_
      rintro _ _ ⟨y2, rfl, rfl, hRm2⟩
      refine zr_swap ?_
      refine zr_icmp_eq (tgt := 868) hC dL_law_863 (by decide) (fun _ => ?_) (fun h => absurd rfl h)
      refine zr_iinc (v := (i1 + 6)) (lv' := [(3, .int (i1 + 6)), (0, .ref b), (1, .ref o), (2, .ref mo)]) 0 hC dL_law_868 rfl rfl (by decide) rfl ?_
      refine zr_goto (tgt := 18) hC dL_law_871 (by decide) ?_
      refine zr_wide (k := 15 + 13 * (k + 1)) (n := 947 + 156 * (k + 1)) (by omega) (by omega) ?_
      exact ih (k + 1, i1 + 6, (zo_count a1 (xs (6 * k + 1))).2, x2, y2) ⟨by show 6 * (k + 1) ≤ L; omega, by show i1 + 6 = nI (6 * (k + 1)); rw [hk2, show (6 : Int32) = nI 6 from rfl, nI_add, Nat.mul_succ], hRc2, hRm2⟩ (by show L - 6 * (k + 1) < L - 6 * k; omega)
    refine zr_tableOut (tgt := 868) hC dL_law_33 (by have e0 := lv_neT (a := 0) t33_0 rfl; have e1 := lv_neT (a := 1) t33_1 rfl; have e2 := lv_neT (a := 2) t33_2 rfl; have e3 := lv_neT (a := 3) t33_3 rfl; have e4 := lv_neT (a := 4) t33_4 rfl; have e5 := lv_neT (a := 5) t33_5 rfl; have e6 := lv_neT (a := 6) t33_6 rfl; have e7 := lv_neT (a := 7) t33_7 rfl; have e8 := lv_neT (a := 8) t33_8 rfl; have e9 := lv_neT (a := 9) t33_9 rfl; have e10 := lv_neT (a := 10) t33_10 rfl; have e11 := lv_neT (a := 11) t33_11 rfl; have e12 := lv_neT (a := 12) t33_12 rfl; have e13 := lv_neT (a := 13) t33_13 rfl; have e14 := lv_neT (a := 14) t33_14 rfl; have e15 := lv_neT (a := 15) t33_15 rfl; have e16 := lv_neT (a := 16) t33_16 rfl; have e17 := lv_neT (a := 17) t33_17 rfl; have e18 := lv_neT (a := 18) t33_18 rfl; have e19 := lv_neT (a := 19) t33_19 rfl; omega) (by decide) ?_
    refine zr_iinc (v := (i1 + 6)) (lv' := [(3, .int (i1 + 6)), (0, .ref b), (1, .ref o), (2, .ref mo)]) 0 hC dL_law_868 rfl rfl (by decide) rfl ?_
    refine zr_goto (tgt := 18) hC dL_law_871 (by decide) ?_
    refine zr_wide (k := 15 + 13 * (k + 1)) (n := 947 + 156 * (k + 1)) (by omega) (by omega) ?_
    exact ih (k + 1, i1 + 6, a1, x1, y1) ⟨by show 6 * (k + 1) ≤ L; omega, by show i1 + 6 = nI (6 * (k + 1)); rw [hk2, show (6 : Int32) = nI 6 from rfl, nI_add, Nat.mul_succ], hRc, hRm⟩ (by show L - 6 * (k + 1) < L - 6 * k; omega)
end ZLL
