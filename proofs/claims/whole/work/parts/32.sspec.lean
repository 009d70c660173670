-- WHAT EACH CALL ANSWERS AND DOES
/-- which case of a switch: n if none -/
def ix (n : Nat) (x : Int32) : Nat := if x < 0 ∨ nI n ≤ x then n else x.toNatClampNeg
theorem ix_k {n k : Nat} (hk : k < n) (hn : n < 2 ^ 31) : ix n (nI k) = k := by
  rw [ix, if_neg (by rintro (q | q); (· exact nI_pos (by omega) q); (· exact nI_ge hk hn q)), nI_clamp (by omega)]
theorem ix_neg {n : Nat} {x : Int32} (h : x < 0) : ix n x = n := by rw [ix, if_pos (Or.inl h)]
theorem ix_big {n : Nat} {x : Int32} (h : nI n ≤ x) : ix n x = n := by rw [ix, if_pos (Or.inr h)]
theorem sw_neg {x : Int32} (h : x < 0) : x.toInt < 0 := by rw [Int32.lt_iff_toInt_lt] at h; simpa using h
theorem sw_big {n : Nat} {x : Int32} (hn : n + 1 < 2 ^ 31) (h : nI (n + 1) ≤ x) : (n : Int) < x.toInt := by
  rw [Int32.le_iff_toInt_le, nI_toInt hn] at h; omega
def s_rule (S : sT) (what : Int32) : Int32 := match ix 7 what with
  | 0 => nI (sN (tA S))
  | 1 => nI (sG (tA S))
  | 2 => nI (sB (tA S))
  | 3 => nI (tY S)
  | 4 => nI (tX S)
  | 5 => bI (al (tA S) (tX S))
  | 6 => bI (ag (tA S) (tX S))
  | _ => -1
def s_thing (S : sT) (f what : Int32) : Int32 := if inb (nI (sN (tA S))) f then (match ix 5 what with
  | 0 => nI (sK (tA S) f.toNatClampNeg)
  | 1 => nI (sF (tA S) f.toNatClampNeg)
  | 2 => nI (sS (tA S) f.toNatClampNeg)
  | 3 => nI (tb (tX S) f.toNatClampNeg)
  | 4 => nI (nb (tA S) (tX S) f.toNatClampNeg)
  | _ => -1) else -1
def s_guest (S : sT) (g what : Int32) : Int32 := if inb (nI (sG (tA S))) g then (match ix 2 what with
  | 0 => nI (sU (tA S) g.toNatClampNeg)
  | 1 => nI (sP (tA S) g.toNatClampNeg)
  | _ => -1) else -1
def s_ban (S : sT) (b what : Int32) : Int32 := if inb (nI (sB (tA S))) b then (match ix 3 what with
  | 0 => nI (sC (tA S) b.toNatClampNeg)
  | 1 => nI (sE (tA S) b.toNatClampNeg)
  | 2 => bI (brk (tA S) (tX S) b.toNatClampNeg)
  | _ => -1) else -1
def s_ahead (S : sT) (n : Int32) : Int32 := if inb 100 n then nI (ny (tA S) n.toNatClampNeg (tX S)) else -1
def s_next (S : sT) (x : Int32) : Int32 := if inb (nI (2 ^ sN (tA S))) x then nI (nx (tA S) x.toNatClampNeg) else -1
def clf (A : sA) (x : Nat) : Nat → Nat → Int32
  | 0, _ => -4
  | k + 1, m => if al A (ny A m x) then clf A x k (m + 1) else nI m
def s_clash (S : sT) : Int32 := clf (tA S) (tX S) 100 0
abbrev tSX (S : sT) (x : Nat) : sT := (S.1, x, S.2.2)
abbrev tSXY (S : sT) (x y : Nat) : sT := (S.1, x, y, S.2.2.2)
def s_go (S : sT) (n : Int32) : Int32 × sT := if inb 100 n then (if tY S + n.toNatClampNeg ≤ 999 then (nI (ny (tA S) n.toNatClampNeg (tX S)), tSXY S (ny (tA S) n.toNatClampNeg (tX S)) (tY S + n.toNatClampNeg)) else (-3, S)) else (-1, S)
def s_undo (S : sT) (g : Int32) : Int32 × sT := if inb (nI (sG (tA S))) g then (if al (tA S) (tX S ^^^ 2 ^ sU (tA S) g.toNatClampNeg) then (nI (tX S ^^^ 2 ^ sU (tA S) g.toNatClampNeg), tSX S (tX S ^^^ 2 ^ sU (tA S) g.toNatClampNeg)) else (-2, S)) else (-1, S)
abbrev tST (S : sT) (t : Nat × (Nat → Nat)) : sT := (S.1, S.2.1, S.2.2.1, t, S.2.2.2.2)
def s_feed (S : sT) (c : Int32) : Int32 × sT := if inb 128 c then (if (tT S).1 < 160 then (nI ((tT S).1 + 1), tST S ((tT S).1 + 1, fun i => if i = (tT S).1 then c.toNatClampNeg else (tT S).2 i)) else (-3, S)) else (-1, S)
def s_end (S : sT) (n : Int32) : Int32 × sT := if inb (nI ((tT S).1 + 1)) n then (nI (tT S).1, tST S (n.toNatClampNeg, (tT S).2)) else (-1, S)
abbrev tSV (S : sT) (V : sV) : sT := (S.1, S.2.1, S.2.2.1, S.2.2.2.1, S.2.2.2.2.1, V, S.2.2.2.2.2.2)
def s_see (S : sT) (f n : Int32) (b : Bool) : Int32 × sT := if inb (nI (sN (tA S))) f && inb 10 n then (if (tV S).1 < 6 then (nI ((tV S).1 + 1), tSV S ((tV S).1 + 1, (fun i => if i = (tV S).1 then f.toNatClampNeg else (tV S).2.1 i), (fun i => if i = (tV S).1 then n.toNatClampNeg else (tV S).2.2.1 i), (fun i => if i = (tV S).1 then (if b then 1 else 0) else (tV S).2.2.2 i))) else (-3, S)) else (-1, S)
def s_forget (S : sT) (n : Int32) : Int32 × sT := if inb (nI ((tV S).1 + 1)) n then (nI (tV S).1, tSV S (n.toNatClampNeg, (tV S).2)) else (-1, S)
def s_count (S : sT) (what : Int32) : Int32 := match ix 6 what with
  | 0 => nI (tV S).1
  | 1 => nI ((if (tI S 0).isSome then 1 else 0) + (if (tI S 1).isSome then 1 else 0))
  | 2 => nI (tT S).1
  | 3 => if (tH S).1 0 = 3 then -4 else nI ((tH S).2.1 0)
  | 4 => nI (pcn (tX S) 6)
  | 5 => nI (smp (tA S))
  | _ => -1
theorem inb_lit {k : Nat} {v : Int32} (hk : k < 2 ^ 31) (h : inb (nI k) v = true) : ∃ j, j < k ∧ v = nI j := inb_nI hk h
