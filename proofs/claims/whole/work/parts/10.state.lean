/-! ===== the mathematical state ===== -/
abbrev ax_ST : Type := (Nat → Option Nat) × (Nat → Nat → Int32) × (Nat → Nat → Bool)
abbrev ax_SH : Type := Option (Nat × Nat) × (Nat → Bool) × (Nat → Nat → Int32) × (Nat → Nat → Bool)
abbrev ax_FD : Type := List (Int32 × Int32 × Int32 × Int32)
abbrev ax_A : Type := ax_ST × ax_SH × ax_FD × Int32 × Int32 × Int32 × Int32 × Int32 × Int32 × Int32 × Int32 × Int32
abbrev aa_st (a : ax_A) : ax_ST := a.1
abbrev aa_sh (a : ax_A) : ax_SH := a.2.1
abbrev aa_fd (a : ax_A) : ax_FD := a.2.2.1
abbrev aa_re (a : ax_A) : Int32 := a.2.2.2.1
abbrev aa_dm (a : ax_A) : Int32 := a.2.2.2.2.1
abbrev aa_dO (a : ax_A) : Int32 := a.2.2.2.2.2.1
abbrev aa_mi (a : ax_A) : Int32 := a.2.2.2.2.2.2.1
abbrev aa_ou (a : ax_A) : Int32 := a.2.2.2.2.2.2.2.1
abbrev aa_ne (a : ax_A) : Int32 := a.2.2.2.2.2.2.2.2.1
abbrev aa_sta (a : ax_A) : Int32 := a.2.2.2.2.2.2.2.2.2.1
abbrev aa_se (a : ax_A) : Int32 := a.2.2.2.2.2.2.2.2.2.2.1
abbrev aa_wr (a : ax_A) : Int32 := a.2.2.2.2.2.2.2.2.2.2.2
abbrev as_st (a : ax_A) (v : ax_ST) : ax_A := (v, a.2.1, a.2.2.1, a.2.2.2.1, a.2.2.2.2.1, a.2.2.2.2.2.1, a.2.2.2.2.2.2.1, a.2.2.2.2.2.2.2.1, a.2.2.2.2.2.2.2.2.1, a.2.2.2.2.2.2.2.2.2.1, a.2.2.2.2.2.2.2.2.2.2.1, a.2.2.2.2.2.2.2.2.2.2.2)
abbrev as_sh (a : ax_A) (v : ax_SH) : ax_A := (a.1, v, a.2.2.1, a.2.2.2.1, a.2.2.2.2.1, a.2.2.2.2.2.1, a.2.2.2.2.2.2.1, a.2.2.2.2.2.2.2.1, a.2.2.2.2.2.2.2.2.1, a.2.2.2.2.2.2.2.2.2.1, a.2.2.2.2.2.2.2.2.2.2.1, a.2.2.2.2.2.2.2.2.2.2.2)
abbrev as_fd (a : ax_A) (v : ax_FD) : ax_A := (a.1, a.2.1, v, a.2.2.2.1, a.2.2.2.2.1, a.2.2.2.2.2.1, a.2.2.2.2.2.2.1, a.2.2.2.2.2.2.2.1, a.2.2.2.2.2.2.2.2.1, a.2.2.2.2.2.2.2.2.2.1, a.2.2.2.2.2.2.2.2.2.2.1, a.2.2.2.2.2.2.2.2.2.2.2)
abbrev as_re (a : ax_A) (v : Int32) : ax_A := (a.1, a.2.1, a.2.2.1, v, a.2.2.2.2.1, a.2.2.2.2.2.1, a.2.2.2.2.2.2.1, a.2.2.2.2.2.2.2.1, a.2.2.2.2.2.2.2.2.1, a.2.2.2.2.2.2.2.2.2.1, a.2.2.2.2.2.2.2.2.2.2.1, a.2.2.2.2.2.2.2.2.2.2.2)
abbrev as_dm (a : ax_A) (v : Int32) : ax_A := (a.1, a.2.1, a.2.2.1, a.2.2.2.1, v, a.2.2.2.2.2.1, a.2.2.2.2.2.2.1, a.2.2.2.2.2.2.2.1, a.2.2.2.2.2.2.2.2.1, a.2.2.2.2.2.2.2.2.2.1, a.2.2.2.2.2.2.2.2.2.2.1, a.2.2.2.2.2.2.2.2.2.2.2)
abbrev as_dO (a : ax_A) (v : Int32) : ax_A := (a.1, a.2.1, a.2.2.1, a.2.2.2.1, a.2.2.2.2.1, v, a.2.2.2.2.2.2.1, a.2.2.2.2.2.2.2.1, a.2.2.2.2.2.2.2.2.1, a.2.2.2.2.2.2.2.2.2.1, a.2.2.2.2.2.2.2.2.2.2.1, a.2.2.2.2.2.2.2.2.2.2.2)
abbrev as_mi (a : ax_A) (v : Int32) : ax_A := (a.1, a.2.1, a.2.2.1, a.2.2.2.1, a.2.2.2.2.1, a.2.2.2.2.2.1, v, a.2.2.2.2.2.2.2.1, a.2.2.2.2.2.2.2.2.1, a.2.2.2.2.2.2.2.2.2.1, a.2.2.2.2.2.2.2.2.2.2.1, a.2.2.2.2.2.2.2.2.2.2.2)
abbrev as_ou (a : ax_A) (v : Int32) : ax_A := (a.1, a.2.1, a.2.2.1, a.2.2.2.1, a.2.2.2.2.1, a.2.2.2.2.2.1, a.2.2.2.2.2.2.1, v, a.2.2.2.2.2.2.2.2.1, a.2.2.2.2.2.2.2.2.2.1, a.2.2.2.2.2.2.2.2.2.2.1, a.2.2.2.2.2.2.2.2.2.2.2)
abbrev as_ne (a : ax_A) (v : Int32) : ax_A := (a.1, a.2.1, a.2.2.1, a.2.2.2.1, a.2.2.2.2.1, a.2.2.2.2.2.1, a.2.2.2.2.2.2.1, a.2.2.2.2.2.2.2.1, v, a.2.2.2.2.2.2.2.2.2.1, a.2.2.2.2.2.2.2.2.2.2.1, a.2.2.2.2.2.2.2.2.2.2.2)
abbrev as_sta (a : ax_A) (v : Int32) : ax_A := (a.1, a.2.1, a.2.2.1, a.2.2.2.1, a.2.2.2.2.1, a.2.2.2.2.2.1, a.2.2.2.2.2.2.1, a.2.2.2.2.2.2.2.1, a.2.2.2.2.2.2.2.2.1, v, a.2.2.2.2.2.2.2.2.2.2.1, a.2.2.2.2.2.2.2.2.2.2.2)
abbrev as_se (a : ax_A) (v : Int32) : ax_A := (a.1, a.2.1, a.2.2.1, a.2.2.2.1, a.2.2.2.2.1, a.2.2.2.2.2.1, a.2.2.2.2.2.2.1, a.2.2.2.2.2.2.2.1, a.2.2.2.2.2.2.2.2.1, a.2.2.2.2.2.2.2.2.2.1, v, a.2.2.2.2.2.2.2.2.2.2.2)
abbrev as_wr (a : ax_A) (v : Int32) : ax_A := (a.1, a.2.1, a.2.2.1, a.2.2.2.1, a.2.2.2.2.1, a.2.2.2.2.2.1, a.2.2.2.2.2.2.1, a.2.2.2.2.2.2.2.1, a.2.2.2.2.2.2.2.2.1, a.2.2.2.2.2.2.2.2.2.1, a.2.2.2.2.2.2.2.2.2.2.1, v)
abbrev zk_b (b : Int32) : Prop := 0 ≤ b ∧ b < 6
abbrev zk_s (s : Int32) : Prop := 0 ≤ s ∧ s < 4
def zl (b s : Int32) : Nat := 4 * b.toNatClampNeg + s.toNatClampNeg
def zf_why (st : ax_ST) (k : Nat) (i : Int32) : Int32 := match st.1 k with
  | none => 2
  | some n => if 0 ≤ i ∧ i < nI n then 0 else 3
def zf_val (st : ax_ST) (k : Nat) (i : Int32) : Int32 := st.2.1 k i.toNatClampNeg
def zf_lev (v : Int32) : Int32 := if (-8000000) < (if v < 8000000 then v else 8000000) then (if v < 8000000 then v else 8000000) else (-8000000)
def zf_num (s v : Int32) : Int32 := if s = 0 then v &&& 65535 else if s = 1 then v.toInt16.toInt32 else if s = 2 then zf_lev v else v &&& 1
def zf_putS (st : ax_ST) (k : Nat) (i v : Int32) : ax_ST := (st.1, fun j p => if st.2.2 k j = true ∧ p = i.toNatClampNeg then v else st.2.1 j p, st.2.2)
def zf_hangS (st : ax_ST) (k n : Nat) : ax_ST := (fun j => if j = k then some n else st.1 j, fun j p => if j = k then 0 else st.2.1 j p, fun i j => if i = k ∨ j = k then decide (i = j) else st.2.2 i j)
def zf_strikeS (st : ax_ST) (k : Nat) : ax_ST := (fun j => if j = k then none else st.1 j, st.2.1, st.2.2)
def zf_rho (k k0 j : Nat) : Nat := if j = k then k0 else j
def zf_shareS (st : ax_ST) (k k0 : Nat) : ax_ST := (fun j => st.1 (zf_rho k k0 j), fun j p => st.2.1 (zf_rho k k0 j) p, fun i j => st.2.2 (zf_rho k k0 i) (zf_rho k k0 j))
def zf_there (st : ax_ST) : Nat → Int32
  | 0 => 0
  | n + 1 => if st.1 n = none then zf_there st n else zf_there st n + 1
abbrev zf_cnt (w : Int32) (a : ax_A) : ax_A := (aa_st a, aa_sh a, aa_fd a, aa_re a, aa_dm a, aa_dO a, aa_mi a + (if w = 2 then 1 else 0), aa_ou a + (if w = 3 then 1 else 0), aa_ne a + (if w = 4 then 1 else 0), aa_sta a, aa_se a, aa_wr a)
abbrev zf_set (a : ax_A) (k : Nat) (i v : Int32) : ax_A := (zf_putS (aa_st a) k i v, aa_sh a, aa_fd a, aa_re a, aa_dm a, aa_dO a, aa_mi a, aa_ou a, aa_ne a, aa_sta a, aa_se a + 1, aa_wr a)
def zf_dig (r : Int32) : Int32 := if r = 2 then 1 else if r = 3 then 2 else 0
def zf_abs (v : Int32) : Int32 := if 0 ≤ v then v else 0 - v
def zf_next (t s v : Int32) : Int32 := if zf_abs (t - v) ≤ s then t else if v < t then v + s else v - s
def zf_whyC (sh : ax_SH) (i j : Int32) : Int32 := match sh.1 with
  | none => 2
  | some d => if 0 ≤ i ∧ i < nI d.1 then (if sh.2.1 i.toNatClampNeg = true then (if 0 ≤ j ∧ j < nI d.2 then 0 else 3) else 2) else 3
def zf_cell (sh : ax_SH) (i j : Int32) : Int32 := sh.2.2.1 i.toNatClampNeg j.toNatClampNeg
def zf_sheetS (n m : Nat) : ax_SH := (some (n, m), fun _ => true, fun _ _ => 0, fun i j => decide (i = j))
def zf_writeS (sh : ax_SH) (i j v : Int32) : ax_SH := (sh.1, sh.2.1, fun r p => if sh.2.2.2 i.toNatClampNeg r = true ∧ p = j.toNatClampNeg then v else sh.2.2.1 r p, sh.2.2.2)
def zf_tear0 (sh : ax_SH) (i : Nat) : ax_SH := (sh.1, fun r => if r = i then false else sh.2.1 r, sh.2.2.1, sh.2.2.2)
def zf_tearS (sh : ax_SH) (i k : Nat) : ax_SH := (sh.1, fun r => sh.2.1 (zf_rho i k r), fun r p => sh.2.2.1 (zf_rho i k r) p, fun r q => sh.2.2.2 (zf_rho i k r) (zf_rho i k q))
abbrev zf_wri (a : ax_A) (i j v : Int32) : ax_A := (aa_st a, zf_writeS (aa_sh a) i j v, aa_fd a, aa_re a, aa_dm a, aa_dO a, aa_mi a, aa_ou a, aa_ne a, aa_sta a, aa_se a, aa_wr a + 1)
/-- what a lamp shows: the refusal, the number, the state behind the looks -/
def zf_show (a : ax_A) (b i : Int32) : Int32 × Int32 × ax_A :=
  if zf_why (aa_st a) (zl b 3) i = 0 then
    (if zf_val (aa_st a) (zl b 3) i = 0 then (0, 0, a)
     else if zf_why (aa_st a) (zl b 2) i = 0 then
       (if zf_why (aa_st a) (zl b 1) i = 0 then
         (if zf_why (aa_st a) (zl b 0) i = 0 then
           (0, (if zf_val (aa_st a) (zl b 0) i - zf_val (aa_st a) (zl b 0) i / 2 * 2 = 0 then zf_val (aa_st a) (zl b 2) i + zf_val (aa_st a) (zl b 1) i else 0 - (zf_val (aa_st a) (zl b 2) i + zf_val (aa_st a) (zl b 1) i)), a)
          else (zf_why (aa_st a) (zl b 0) i, 0, zf_cnt (zf_why (aa_st a) (zl b 0) i) a))
        else (zf_why (aa_st a) (zl b 1) i, 0, zf_cnt (zf_why (aa_st a) (zl b 1) i) a))
      else (zf_why (aa_st a) (zl b 2) i, 0, zf_cnt (zf_why (aa_st a) (zl b 2) i) a))
  else (zf_why (aa_st a) (zl b 3) i, 0, zf_cnt (zf_why (aa_st a) (zl b 3) i) a)
/-! the operations: the answer, and the state behind it -/
def zo_hang (a : ax_A) (b s n : Int32) : Int32 × ax_A := if zk_b b ∧ zk_s s then (if n ≤ 24 then (if 0 ≤ n then (n, as_sta (as_st a (zf_hangS (aa_st a) (zl b s) n.toNatClampNeg)) 0) else (0, as_sta (zf_cnt 4 a) 4)) else (0, as_sta a 5)) else (0, as_sta a 1)
def zo_strike (a : ax_A) (b s : Int32) : Int32 × ax_A := if zk_b b ∧ zk_s s then ((if (aa_st a).1 (zl b s) = none then 0 else 1), as_sta (as_st a (zf_strikeS (aa_st a) (zl b s))) 0) else (0, as_sta a 1)
def zo_share (a : ax_A) (b s f : Int32) : Int32 × ax_A := if zk_b b ∧ zk_s s ∧ zk_b f then ((if (aa_st a).1 (zl f s) = none then 0 else 1), as_sta (as_st a (zf_shareS (aa_st a) (zl b s) (zl f s))) 0) else (0, as_sta a 1)
def zf_len (st : ax_ST) (k : Nat) : Int32 := match st.1 k with
  | none => 0
  | some n => nI n
def zo_size (a : ax_A) (b s : Int32) : Int32 × ax_A := if zk_b b ∧ zk_s s then (if (aa_st a).1 (zl b s) = none then (0, as_sta (zf_cnt 2 a) 2) else (zf_len (aa_st a) (zl b s), as_sta a 0)) else (0, as_sta a 1)
def zo_get (a : ax_A) (b s i : Int32) : Int32 × ax_A := if zk_b b ∧ zk_s s then (if zf_why (aa_st a) (zl b s) i = 0 then (zf_val (aa_st a) (zl b s) i, as_sta a 0) else (0, as_sta (zf_cnt (zf_why (aa_st a) (zl b s) i) a) (zf_why (aa_st a) (zl b s) i))) else (0, as_sta a 1)
def zo_set (a : ax_A) (b s i v : Int32) : Int32 × ax_A := if zk_b b ∧ zk_s s then (if zf_why (aa_st a) (zl b s) i = 0 then (zf_val (aa_st a) (zl b s) i, as_sta (zf_set a (zl b s) i (zf_num s v)) 0) else (0, as_sta (zf_cnt (zf_why (aa_st a) (zl b s) i) a) (zf_why (aa_st a) (zl b s) i))) else (0, as_sta a 1)
def zo_patch (a : ax_A) (f i t j q : Int32) : Int32 × ax_A := if zk_b f ∧ zk_b t ∧ (0 ≤ q ∧ q < 16) then
    (if zf_why (aa_st a) (zl f (q / 4)) i = 0 then
      (if zf_why (aa_st a) (zl t (q - q / 4 * 4)) j = 0 then (zf_val (aa_st a) (zl f (q / 4)) i, as_sta (zf_set a (zl t (q - q / 4 * 4)) j (zf_num (q - q / 4 * 4) (zf_val (aa_st a) (zl f (q / 4)) i))) 0)
       else (0, as_sta (zf_cnt (zf_why (aa_st a) (zl t (q - q / 4 * 4)) j) a) (zf_why (aa_st a) (zl t (q - q / 4 * 4)) j)))
     else (0, as_sta (zf_cnt (zf_why (aa_st a) (zl f (q / 4)) i) a) (zf_why (aa_st a) (zl f (q / 4)) i))) else (0, as_sta a 1)
def zf_rip (r b d : Int32) : Nat → Int32 → Int32 → ax_A → Int32 × ax_A
  | 0, _, k, a => (k, as_sta a 0)
  | n + 1, p, k, a => if zf_why (aa_st a) (zl b 2) p = 0 then zf_rip r b d n (p + d) (k + 1) (zf_set a (zl b 2) p (zf_lev (zf_val (aa_st a) (zl b 2) p + r))) else (k, as_sta (zf_cnt (zf_why (aa_st a) (zl b 2) p) a) (zf_why (aa_st a) (zl b 2) p))
def zo_ripple (a : ax_A) (b i d n s : Int32) : Int32 × ax_A := if zk_b b ∧ (0 ≤ n ∧ n ≤ 64) then zf_rip (zf_lev s) b d n.toNatClampNeg i 0 a else (0, as_sta a 1)
def zf_pro (b i : Int32) : Nat → Int32 → Int32 → Int32 → ax_A → Int32 × ax_A
  | 0, _, _, t, a => (t, as_sta a 0)
  | n + 1, s, u, t, a => zf_pro b i n (s + 1) (u * 10) (t + u * zf_dig (zf_why (aa_st a) (zl b s) i)) (zf_cnt (zf_why (aa_st a) (zl b s) i) a)
def zo_probe (a : ax_A) (b i : Int32) : Int32 × ax_A := if zk_b b then zf_pro b i 4 0 1 0 a else (0, as_sta a 1)
def zf_pok (b i v : Int32) : Nat → Int32 → Int32 → Int32 → ax_A → Int32 × ax_A
  | 0, _, _, t, a => (t, as_sta a 0)
  | n + 1, s, u, t, a => zf_pok b i v n (s + 1) (u * 10) (t + u * zf_dig (zf_why (aa_st a) (zl b s) i)) (if zf_why (aa_st a) (zl b s) i = 0 then zf_set a (zl b s) i (zf_num s v) else zf_cnt (zf_why (aa_st a) (zl b s) i) a)
def zo_poke (a : ax_A) (b i v : Int32) : Int32 × ax_A := if zk_b b then zf_pok b i v 4 0 1 0 a else (0, as_sta a 1)
def zo_shown (a : ax_A) (b i : Int32) : Int32 × ax_A := if zk_b b then ((zf_show a b i).2.1, as_sta (zf_show a b i).2.2 (zf_show a b i).1) else (0, as_sta a 1)
def zf_lit (b : Int32) : Nat → Int32 → Int32 → ax_A → Int32 × ax_A
  | 0, _, k, a => (k, as_sta a 0)
  | n + 1, i, k, a => zf_lit b n (i + 1) (if zf_why (aa_st a) (zl b 3) i = 0 ∧ ¬ zf_val (aa_st a) (zl b 3) i = 0 ∧ 0 < zf_val (aa_st a) (zl b 2) i then k + 1 else k) (zf_cnt (zf_why (aa_st a) (zl b 3) i) a)
def zo_lit (a : ax_A) (b : Int32) : Int32 × ax_A := if zk_b b then (match (aa_st a).1 (zl b 2) with
  | none => (0, as_sta (zf_cnt 2 a) 2)
  | some n => zf_lit b n 0 0 a) else (0, as_sta a 1)
def zo_fade (a : ax_A) (b i t s : Int32) : Int32 × ax_A := if zk_b b ∧ (1 ≤ s ∧ s ≤ 1000) then (if (aa_fd a).length < 16 then
    (if zf_why (aa_st a) (zl b 2) i = 0 then (nI ((aa_fd a).length + 1), as_sta (as_fd a (aa_fd a ++ [(b, i, zf_lev t, s)])) 0) else (0, as_sta (zf_cnt (zf_why (aa_st a) (zl b 2) i) a) (zf_why (aa_st a) (zl b 2) i))) else (0, as_sta a 6)) else (0, as_sta a 1)
def zf_tick : ax_FD → ax_FD → ax_A → ax_FD × ax_A
  | [], kept, a => (kept, a)
  | q :: rest, kept, a => if zf_why (aa_st a) (zl q.1 2) q.2.1 = 0 then
      (if zf_next q.2.2.1 q.2.2.2 (zf_val (aa_st a) (zl q.1 2) q.2.1) = q.2.2.1 then zf_tick rest kept (as_re (zf_set a (zl q.1 2) q.2.1 (zf_lev (zf_next q.2.2.1 q.2.2.2 (zf_val (aa_st a) (zl q.1 2) q.2.1)))) (aa_re a + 1))
       else zf_tick rest (kept ++ [q]) (zf_set a (zl q.1 2) q.2.1 (zf_lev (zf_next q.2.2.1 q.2.2.2 (zf_val (aa_st a) (zl q.1 2) q.2.1)))))
    else if zf_why (aa_st a) (zl q.1 2) q.2.1 = 2 then zf_tick rest kept (as_dm (zf_cnt 2 a) (aa_dm a + 1)) else zf_tick rest kept (as_dO (zf_cnt (zf_why (aa_st a) (zl q.1 2) q.2.1) a) (aa_dO a + 1))
def zo_tick (a : ax_A) : Int32 × ax_A := (nI (zf_tick (aa_fd a) [] a).1.length, as_sta (as_fd (zf_tick (aa_fd a) [] a).2 (zf_tick (aa_fd a) [] a).1) 0)
def zo_sheet (a : ax_A) (n m : Int32) : Int32 × ax_A := if n ≤ 12 ∧ m ≤ 12 then (if 0 ≤ n ∧ 0 ≤ m then (n * m, as_sta (as_sh a (zf_sheetS n.toNatClampNeg m.toNatClampNeg)) 0) else (0, as_sta (zf_cnt 4 a) 4)) else (0, as_sta a 5)
def zo_cell (a : ax_A) (i j : Int32) : Int32 × ax_A := if zf_whyC (aa_sh a) i j = 0 then (zf_cell (aa_sh a) i j, as_sta a 0) else (0, as_sta (zf_cnt (zf_whyC (aa_sh a) i j) a) (zf_whyC (aa_sh a) i j))
def zf_rows (sh : ax_SH) : Int32 := match sh.1 with
  | none => 0
  | some d => nI d.1
def zo_tear (a : ax_A) (i k : Int32) : Int32 × ax_A := if (aa_sh a).1 = none then (0, as_sta (zf_cnt 2 a) 2) else
    if (k = -1 ∨ (0 ≤ k ∧ k < zf_rows (aa_sh a))) ∧ (0 ≤ i ∧ i < zf_rows (aa_sh a)) then
      (if k = -1 then (0, as_sta (as_sh a (zf_tear0 (aa_sh a) i.toNatClampNeg)) 0) else ((if (aa_sh a).2.1 k.toNatClampNeg = true then 1 else 0), as_sta (as_sh a (zf_tearS (aa_sh a) i.toNatClampNeg k.toNatClampNeg)) 0))
    else (0, as_sta (zf_cnt 3 a) 3)
def zf_draw (b i : Int32) : Nat → Int32 → ax_A → Int32 × ax_A
  | 0, _, a => (24, as_sta a 0)
  | n + 1, j, a => if (zf_show a b j).1 = 0 then
      (if zf_whyC (aa_sh (zf_show a b j).2.2) i j = 0 then zf_draw b i n (j + 1) (zf_wri (zf_show a b j).2.2 i j (zf_show a b j).2.1)
       else (j, as_sta (zf_cnt (zf_whyC (aa_sh (zf_show a b j).2.2) i j) (zf_show a b j).2.2) (zf_whyC (aa_sh (zf_show a b j).2.2) i j)))
    else (j, as_sta (zf_show a b j).2.2 (zf_show a b j).1)
def zo_draw (a : ax_A) (b i : Int32) : Int32 × ax_A := if zk_b b then zf_draw b i 25 0 a else (0, as_sta a 1)
def zo_status (a : ax_A) : Int32 × ax_A := (aa_sta a, a)
def zo_count (a : ax_A) (w : Int32) : Int32 × ax_A := ((if w = 0 then aa_mi a else if w = 1 then aa_ou a else if w = 2 then aa_ne a else if w = 3 then nI (aa_fd a).length else if w = 4 then aa_re a else if w = 5 then aa_dm a else if w = 6 then aa_dO a else if w = 7 then zf_there (aa_st a) 24 else if w = 8 then aa_se a else if w = 9 then zf_rows (aa_sh a) else if w = 10 then aa_wr a else 0), a)
/-! the class's world -/
abbrev zt (cI cII cF : ClassId) : List (ClassId × FieldType) := [(cI, .int), (cII, .array .int), (cF, .object RX0)]
abbrev cx_X : Type := Int32 × Int32 × (Nat → Option Nat) × (Nat → Option Nat) × Option Nat × List Nat × (Nat → va_E)
abbrev cx_run (x : cx_X) : Int32 := x.1
abbrev cx_fnd (x : cx_X) : Int32 := x.2.1
abbrev cx_f (x : cx_X) : (Nat → Option Nat) := x.2.2.1
abbrev cx_g (x : cx_X) : (Nat → Option Nat) := x.2.2.2.1
abbrev cx_rw (x : cx_X) : (Option Nat) := x.2.2.2.2.1
abbrev cx_L (x : cx_X) : (List Nat) := x.2.2.2.2.2.1
abbrev cx_ent (x : cx_X) : (Nat → va_E) := x.2.2.2.2.2.2
abbrev ck_run (x : cx_X) (v : Int32) : cx_X := (v, x.2.1, x.2.2.1, x.2.2.2.1, x.2.2.2.2.1, x.2.2.2.2.2.1, x.2.2.2.2.2.2)
abbrev ck_fnd (x : cx_X) (v : Int32) : cx_X := (x.1, v, x.2.2.1, x.2.2.2.1, x.2.2.2.2.1, x.2.2.2.2.2.1, x.2.2.2.2.2.2)
abbrev ck_f (x : cx_X) (v : (Nat → Option Nat)) : cx_X := (x.1, x.2.1, v, x.2.2.2.1, x.2.2.2.2.1, x.2.2.2.2.2.1, x.2.2.2.2.2.2)
abbrev ck_g (x : cx_X) (v : (Nat → Option Nat)) : cx_X := (x.1, x.2.1, x.2.2.1, v, x.2.2.2.2.1, x.2.2.2.2.2.1, x.2.2.2.2.2.2)
abbrev ck_rw (x : cx_X) (v : (Option Nat)) : cx_X := (x.1, x.2.1, x.2.2.1, x.2.2.2.1, v, x.2.2.2.2.2.1, x.2.2.2.2.2.2)
abbrev ck_L (x : cx_X) (v : (List Nat)) : cx_X := (x.1, x.2.1, x.2.2.1, x.2.2.2.1, x.2.2.2.2.1, v, x.2.2.2.2.2.2)
abbrev ck_ent (x : cx_X) (v : (Nat → va_E)) : cx_X := (x.1, x.2.1, x.2.2.1, x.2.2.2.1, x.2.2.2.2.1, x.2.2.2.2.2.1, v)
abbrev ze_i (c : ClassId) (n : Nat) (z : Nat → Int32) : va_E := .inl (c, n, .inl z)
abbrev ze_q (c : ClassId) (n : Nat) (z : Nat → Option Nat) : va_E := .inl (c, n, .inr (.inr (.inr (.inr z))))
def cw_X (o rk sp pp fp : Nat) (cII cF : ClassId) (a : ax_A) (x : cx_X) : va_W := [(o, .inr (3, [.ref rk, .ref pp, .ref fp, .int (cx_run x), .int (aa_re a), .int (aa_dm a), .int (aa_dO a), .int (aa_mi a), .int (aa_ou a), .int (aa_ne a), .int (aa_sta a), .int (cx_fnd x)])), (rk, .inr (2, [.ref sp, .int (aa_se a)])), (sp, ze_q cII 24 (cx_f x)), (pp, .inr (1, [va_rf (cx_rw x), .int (aa_wr a)])), (fp, ze_q cF 16 (cx_g x))]
def cw_W (o rk sp pp fp : Nat) (cII cF : ClassId) (a : ax_A) (x : cx_X) : va_W := cw_X o rk sp pp fp cII cF a x ++ va_pl (cx_L x) (cx_ent x)
/-- what the class's cells say of the strips -/
def rc_S (cI : ClassId) (st : ax_ST) (f : Nat → Option Nat) (L : List Nat) (ent : Nat → va_E) : Prop :=
  (∀ k, k < 24 → (f k = none ↔ st.1 k = none)) ∧
  (∀ k q, k < 24 → f k = some q → q ∈ L ∧ ∃ n z, ent q = ze_i cI n z ∧ n ≤ 24 ∧ st.1 k = some n ∧ ∀ i, i < n → z i = st.2.1 k i) ∧
  (∀ j k, j < 24 → k < 24 → ¬ f j = none → ¬ f k = none → (st.2.2 j k = true ↔ f j = f k))
def rc_H (cI cII : ClassId) (sh : ax_SH) (f : Nat → Option Nat) (rw : Option Nat) (L : List Nat) (ent : Nat → va_E) : Prop :=
  (rw = none ↔ sh.1 = none) ∧
  (∀ q, rw = some q → q ∈ L ∧ ∃ n m h, sh.1 = some (n, m) ∧ n ≤ 12 ∧ m ≤ 12 ∧ ent q = ze_q cII n h ∧
    (∀ i, i < n → (h i = none ↔ sh.2.1 i = false)) ∧
    (∀ i y, i < n → h i = some y → y ∈ L ∧ (∃ z, ent y = ze_i cI m z ∧ ∀ j, j < m → z j = sh.2.2.1 i j) ∧ ∀ k, k < 24 → ¬ f k = some y) ∧
    (∀ i j, i < n → j < n → ¬ h i = none → ¬ h j = none → (sh.2.2.2 i j = true ↔ h i = h j)))
def rc_F (fd : ax_FD) (g : Nat → Option Nat) (L : List Nat) (ent : Nat → va_E) (off : Nat) : Prop :=
  ∀ (j : Nat) (q : Int32 × Int32 × Int32 × Int32), fd[j]? = some q → zk_b q.1 ∧ ∃ y, g (off + j) = some y ∧ y ∈ L ∧ ent y = .inr (0, [.int q.1, .int q.2.1, .int q.2.2.1, .int q.2.2.2])
def rc_Q (cI cII : ClassId) (a : ax_A) (x : cx_X) : Prop :=
  rc_S cI (aa_st a) (cx_f x) (cx_L x) (cx_ent x) ∧ rc_H cI cII (aa_sh a) (cx_f x) (cx_rw x) (cx_L x) (cx_ent x)
def rc_R (cI cII : ClassId) (a : ax_A) (x : cx_X) : Prop :=
  rc_Q cI cII a x ∧ rc_F (aa_fd a) (cx_g x) (cx_L x) (cx_ent x) 0 ∧ cx_run x = nI (aa_fd a).length ∧ (aa_fd a).length ≤ 16
/-- the class's own objects stay -/
def cx_K (x x' : cx_X) : Prop := cx_run x' = cx_run x ∧ cx_g x' = cx_g x ∧ (∀ y, y ∈ cx_L x → y ∈ cx_L x') ∧ ∀ y q, y ∈ cx_L x → cx_ent x y = .inr q → cx_ent x' y = .inr q
/-! the reference's world -/
abbrev mx_X : Type := (Nat → Int32) × (Nat → Int32) × (Nat → Int32) × Int32 × Int32 × Int32 × (Nat → Int32) × (Nat → Int32) × Int32 × (Nat → Int32) × (Nat → Int32) × (Nat → Int32) × (Nat → Int32) × Int32
abbrev mx_sp (x : mx_X) : (Nat → Int32) := x.1
abbrev mx_ln (x : mx_X) : (Nat → Int32) := x.2.1
abbrev mx_pl (x : mx_X) : (Nat → Int32) := x.2.2.1
abbrev mx_hs (x : mx_X) : Int32 := x.2.2.2.1
abbrev mx_rm (x : mx_X) : Int32 := x.2.2.2.2.1
abbrev mx_cm (x : mx_X) : Int32 := x.2.2.2.2.2.1
abbrev mx_rw (x : mx_X) : (Nat → Int32) := x.2.2.2.2.2.2.1
abbrev mx_ce (x : mx_X) : (Nat → Int32) := x.2.2.2.2.2.2.2.1
abbrev mx_fs (x : mx_X) : Int32 := x.2.2.2.2.2.2.2.2.1
abbrev mx_fb (x : mx_X) : (Nat → Int32) := x.2.2.2.2.2.2.2.2.2.1
abbrev mx_fl (x : mx_X) : (Nat → Int32) := x.2.2.2.2.2.2.2.2.2.2.1
abbrev mx_ft (x : mx_X) : (Nat → Int32) := x.2.2.2.2.2.2.2.2.2.2.2.1
abbrev mx_fg (x : mx_X) : (Nat → Int32) := x.2.2.2.2.2.2.2.2.2.2.2.2.1
abbrev mx_dk (x : mx_X) : Int32 := x.2.2.2.2.2.2.2.2.2.2.2.2.2
abbrev mk_sp (x : mx_X) (v : (Nat → Int32)) : mx_X := (v, x.2.1, x.2.2.1, x.2.2.2.1, x.2.2.2.2.1, x.2.2.2.2.2.1, x.2.2.2.2.2.2.1, x.2.2.2.2.2.2.2.1, x.2.2.2.2.2.2.2.2.1, x.2.2.2.2.2.2.2.2.2.1, x.2.2.2.2.2.2.2.2.2.2.1, x.2.2.2.2.2.2.2.2.2.2.2.1, x.2.2.2.2.2.2.2.2.2.2.2.2.1, x.2.2.2.2.2.2.2.2.2.2.2.2.2)
abbrev mk_ln (x : mx_X) (v : (Nat → Int32)) : mx_X := (x.1, v, x.2.2.1, x.2.2.2.1, x.2.2.2.2.1, x.2.2.2.2.2.1, x.2.2.2.2.2.2.1, x.2.2.2.2.2.2.2.1, x.2.2.2.2.2.2.2.2.1, x.2.2.2.2.2.2.2.2.2.1, x.2.2.2.2.2.2.2.2.2.2.1, x.2.2.2.2.2.2.2.2.2.2.2.1, x.2.2.2.2.2.2.2.2.2.2.2.2.1, x.2.2.2.2.2.2.2.2.2.2.2.2.2)
abbrev mk_pl (x : mx_X) (v : (Nat → Int32)) : mx_X := (x.1, x.2.1, v, x.2.2.2.1, x.2.2.2.2.1, x.2.2.2.2.2.1, x.2.2.2.2.2.2.1, x.2.2.2.2.2.2.2.1, x.2.2.2.2.2.2.2.2.1, x.2.2.2.2.2.2.2.2.2.1, x.2.2.2.2.2.2.2.2.2.2.1, x.2.2.2.2.2.2.2.2.2.2.2.1, x.2.2.2.2.2.2.2.2.2.2.2.2.1, x.2.2.2.2.2.2.2.2.2.2.2.2.2)
abbrev mk_hs (x : mx_X) (v : Int32) : mx_X := (x.1, x.2.1, x.2.2.1, v, x.2.2.2.2.1, x.2.2.2.2.2.1, x.2.2.2.2.2.2.1, x.2.2.2.2.2.2.2.1, x.2.2.2.2.2.2.2.2.1, x.2.2.2.2.2.2.2.2.2.1, x.2.2.2.2.2.2.2.2.2.2.1, x.2.2.2.2.2.2.2.2.2.2.2.1, x.2.2.2.2.2.2.2.2.2.2.2.2.1, x.2.2.2.2.2.2.2.2.2.2.2.2.2)
abbrev mk_rm (x : mx_X) (v : Int32) : mx_X := (x.1, x.2.1, x.2.2.1, x.2.2.2.1, v, x.2.2.2.2.2.1, x.2.2.2.2.2.2.1, x.2.2.2.2.2.2.2.1, x.2.2.2.2.2.2.2.2.1, x.2.2.2.2.2.2.2.2.2.1, x.2.2.2.2.2.2.2.2.2.2.1, x.2.2.2.2.2.2.2.2.2.2.2.1, x.2.2.2.2.2.2.2.2.2.2.2.2.1, x.2.2.2.2.2.2.2.2.2.2.2.2.2)
abbrev mk_cm (x : mx_X) (v : Int32) : mx_X := (x.1, x.2.1, x.2.2.1, x.2.2.2.1, x.2.2.2.2.1, v, x.2.2.2.2.2.2.1, x.2.2.2.2.2.2.2.1, x.2.2.2.2.2.2.2.2.1, x.2.2.2.2.2.2.2.2.2.1, x.2.2.2.2.2.2.2.2.2.2.1, x.2.2.2.2.2.2.2.2.2.2.2.1, x.2.2.2.2.2.2.2.2.2.2.2.2.1, x.2.2.2.2.2.2.2.2.2.2.2.2.2)
abbrev mk_rw (x : mx_X) (v : (Nat → Int32)) : mx_X := (x.1, x.2.1, x.2.2.1, x.2.2.2.1, x.2.2.2.2.1, x.2.2.2.2.2.1, v, x.2.2.2.2.2.2.2.1, x.2.2.2.2.2.2.2.2.1, x.2.2.2.2.2.2.2.2.2.1, x.2.2.2.2.2.2.2.2.2.2.1, x.2.2.2.2.2.2.2.2.2.2.2.1, x.2.2.2.2.2.2.2.2.2.2.2.2.1, x.2.2.2.2.2.2.2.2.2.2.2.2.2)
abbrev mk_ce (x : mx_X) (v : (Nat → Int32)) : mx_X := (x.1, x.2.1, x.2.2.1, x.2.2.2.1, x.2.2.2.2.1, x.2.2.2.2.2.1, x.2.2.2.2.2.2.1, v, x.2.2.2.2.2.2.2.2.1, x.2.2.2.2.2.2.2.2.2.1, x.2.2.2.2.2.2.2.2.2.2.1, x.2.2.2.2.2.2.2.2.2.2.2.1, x.2.2.2.2.2.2.2.2.2.2.2.2.1, x.2.2.2.2.2.2.2.2.2.2.2.2.2)
abbrev mk_fs (x : mx_X) (v : Int32) : mx_X := (x.1, x.2.1, x.2.2.1, x.2.2.2.1, x.2.2.2.2.1, x.2.2.2.2.2.1, x.2.2.2.2.2.2.1, x.2.2.2.2.2.2.2.1, v, x.2.2.2.2.2.2.2.2.2.1, x.2.2.2.2.2.2.2.2.2.2.1, x.2.2.2.2.2.2.2.2.2.2.2.1, x.2.2.2.2.2.2.2.2.2.2.2.2.1, x.2.2.2.2.2.2.2.2.2.2.2.2.2)
abbrev mk_fb (x : mx_X) (v : (Nat → Int32)) : mx_X := (x.1, x.2.1, x.2.2.1, x.2.2.2.1, x.2.2.2.2.1, x.2.2.2.2.2.1, x.2.2.2.2.2.2.1, x.2.2.2.2.2.2.2.1, x.2.2.2.2.2.2.2.2.1, v, x.2.2.2.2.2.2.2.2.2.2.1, x.2.2.2.2.2.2.2.2.2.2.2.1, x.2.2.2.2.2.2.2.2.2.2.2.2.1, x.2.2.2.2.2.2.2.2.2.2.2.2.2)
abbrev mk_fl (x : mx_X) (v : (Nat → Int32)) : mx_X := (x.1, x.2.1, x.2.2.1, x.2.2.2.1, x.2.2.2.2.1, x.2.2.2.2.2.1, x.2.2.2.2.2.2.1, x.2.2.2.2.2.2.2.1, x.2.2.2.2.2.2.2.2.1, x.2.2.2.2.2.2.2.2.2.1, v, x.2.2.2.2.2.2.2.2.2.2.2.1, x.2.2.2.2.2.2.2.2.2.2.2.2.1, x.2.2.2.2.2.2.2.2.2.2.2.2.2)
abbrev mk_ft (x : mx_X) (v : (Nat → Int32)) : mx_X := (x.1, x.2.1, x.2.2.1, x.2.2.2.1, x.2.2.2.2.1, x.2.2.2.2.2.1, x.2.2.2.2.2.2.1, x.2.2.2.2.2.2.2.1, x.2.2.2.2.2.2.2.2.1, x.2.2.2.2.2.2.2.2.2.1, x.2.2.2.2.2.2.2.2.2.2.1, v, x.2.2.2.2.2.2.2.2.2.2.2.2.1, x.2.2.2.2.2.2.2.2.2.2.2.2.2)
abbrev mk_fg (x : mx_X) (v : (Nat → Int32)) : mx_X := (x.1, x.2.1, x.2.2.1, x.2.2.2.1, x.2.2.2.2.1, x.2.2.2.2.2.1, x.2.2.2.2.2.2.1, x.2.2.2.2.2.2.2.1, x.2.2.2.2.2.2.2.2.1, x.2.2.2.2.2.2.2.2.2.1, x.2.2.2.2.2.2.2.2.2.2.1, x.2.2.2.2.2.2.2.2.2.2.2.1, v, x.2.2.2.2.2.2.2.2.2.2.2.2.2)
abbrev mk_dk (x : mx_X) (v : Int32) : mx_X := (x.1, x.2.1, x.2.2.1, x.2.2.2.1, x.2.2.2.2.1, x.2.2.2.2.2.1, x.2.2.2.2.2.2.1, x.2.2.2.2.2.2.2.1, x.2.2.2.2.2.2.2.2.1, x.2.2.2.2.2.2.2.2.2.1, x.2.2.2.2.2.2.2.2.2.2.1, x.2.2.2.2.2.2.2.2.2.2.2.1, x.2.2.2.2.2.2.2.2.2.2.2.2.1, v)
def mw_W (mo m1 m2 m3 m4 m5 m6 m7 m8 m9 : Nat) (cI : ClassId) (a : ax_A) (x : mx_X) : va_W := [(mo, .inr (4, [.ref m1, .ref m2, .ref m3, .int (mx_hs x), .int (mx_rm x), .int (mx_cm x), .ref m4, .ref m5, .int (mx_fs x), .ref m6, .ref m7, .ref m8, .ref m9, .int (aa_sta a), .int (aa_mi a), .int (aa_ou a), .int (aa_ne a), .int (aa_re a), .int (aa_dm a), .int (aa_dO a), .int (aa_se a), .int (aa_wr a), .int (mx_dk x)])), (m1, ze_i cI 24 (mx_sp x)), (m2, ze_i cI 24 (mx_ln x)), (m3, ze_i cI 600 (mx_pl x)), (m4, ze_i cI 12 (mx_rw x)), (m5, ze_i cI 144 (mx_ce x)), (m6, ze_i cI 16 (mx_fb x)), (m7, ze_i cI 16 (mx_fl x)), (m8, ze_i cI 16 (mx_ft x)), (m9, ze_i cI 16 (mx_fg x))]
/-- which numbers stand in a strip of kind k -/
def zk_n (k : Nat) (v : Int32) : Prop := (k % 4 = 0 → 0 ≤ v ∧ v ≤ 65535) ∧ (k % 4 = 2 → -8000000 ≤ v ∧ v ≤ 8000000) ∧ (k % 4 = 3 → v = 0 ∨ v = 1)
def rm_S (st : ax_ST) (sp ln pl : Nat → Int32) : Prop :=
  (∀ k, k < 24 → (sp k = -1 ↔ st.1 k = none)) ∧
  (∀ k, k < 24 → ¬ sp k = -1 → ∃ z n, z < 24 ∧ sp k = nI z ∧ n ≤ 24 ∧ ln z = nI n ∧ st.1 k = some n ∧ ∀ i, i < n → pl (25 * z + i) = st.2.1 k i ∧ zk_n k (st.2.1 k i)) ∧
  (∀ j k, j < 24 → k < 24 → ¬ sp j = -1 → ¬ sp k = -1 → (st.2.2 j k = true ↔ sp j = sp k)) ∧
  (∀ j k, j < 24 → k < 24 → ¬ sp j = -1 → sp j = sp k → j % 4 = k % 4)
def rm_H (sh : ax_SH) (hs rm cm : Int32) (rw ce : Nat → Int32) : Prop :=
  (hs = 0 ∧ sh.1 = none) ∨ (hs = 1 ∧ ∃ n m, sh.1 = some (n, m) ∧ n ≤ 12 ∧ m ≤ 12 ∧ rm = nI n ∧ cm = nI m ∧
    (∀ i, i < n → (rw i = -1 ↔ sh.2.1 i = false)) ∧
    (∀ i, i < n → ¬ rw i = -1 → ∃ z, z < 12 ∧ rw i = nI z ∧ ∀ j, j < m → ce (12 * z + j) = sh.2.2.1 i j) ∧
    (∀ i j, i < n → j < n → ¬ rw i = -1 → ¬ rw j = -1 → (sh.2.2.2 i j = true ↔ rw i = rw j)))
def rm_F (fd : ax_FD) (fb fl ft fg : Nat → Int32) (off : Nat) : Prop :=
  ∀ (j : Nat) (q : Int32 × Int32 × Int32 × Int32), fd[j]? = some q → zk_b q.1 ∧ fb (off + j) = q.1 ∧ fl (off + j) = q.2.1 ∧ ft (off + j) = q.2.2.1 ∧ fg (off + j) = q.2.2.2 ∧ (-8000000 ≤ q.2.2.1 ∧ q.2.2.1 ≤ 8000000) ∧ (1 ≤ q.2.2.2 ∧ q.2.2.2 ≤ 1000)
def rm_Q (a : ax_A) (x : mx_X) : Prop :=
  rm_S (aa_st a) (mx_sp x) (mx_ln x) (mx_pl x) ∧ rm_H (aa_sh a) (mx_hs x) (mx_rm x) (mx_cm x) (mx_rw x) (mx_ce x)
def rm_R (a : ax_A) (x : mx_X) : Prop :=
  rm_Q a x ∧ rm_F (aa_fd a) (mx_fb x) (mx_fl x) (mx_ft x) (mx_fg x) 0 ∧ mx_fs x = nI (aa_fd a).length ∧ (aa_fd a).length ≤ 16
