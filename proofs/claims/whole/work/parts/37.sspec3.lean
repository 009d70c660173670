-- TALLIES
def tlL (p : Nat → Bool) : Nat → Nat
  | 0 => 0
  | n + 1 => if p n then (if fb_ct p n = 0 then n else tlL p n) else tlL p n
def tlA (p : Nat → Bool) : Nat → Nat
  | 0 => 63
  | n + 1 => if p n then tlA p n &&& n else tlA p n
def tlS (p : Nat → Bool) : Nat → Nat
  | 0 => 0
  | n + 1 => if p n then tlS p n ||| n else tlS p n
def tlT (p : Nat → Bool) (n : Nat) : TaT := (nI (fb_ct p n), nI (tlL p n), nI (tlA p n), nI (tlS p n))
def tla (p : Nat → Bool) (n : Nat) (what : Int32) : Int32 := tans (nI (fb_ct p n)) (nI (tlL p n)) (nI (tlA p n)) (nI (tlS p n)) what
theorem tlL_le (p : Nat → Bool) : ∀ n, tlL p n ≤ n
  | 0 => Nat.le_refl _
  | n + 1 => by
    have := tlL_le p n
    rw [tlL]
    split
    · split <;> omega
    · omega
theorem tlT_0 (p : Nat → Bool) : tlT p 0 = (0, 0, 63, 0) := rfl
theorem tlT_no {p : Nat → Bool} {i : Nat} (h : p i = false) : tlT p i = tlT p (i + 1) := by
  simp only [tlT, fb_ct_succ, tlL, tlA, tlS, h]; rfl
theorem tlT_yes {p : Nat → Bool} {i : Nat} (h : p i = true) : (nI (fb_ct p i + 1), nI (if fb_ct p i = 0 then i else min (tlL p i) i), nI (tlA p i &&& i), nI (tlS p i ||| i)) = tlT p (i + 1) := by
  have e : min (tlL p i) i = tlL p i := Nat.min_eq_left (tlL_le p i)
  simp only [tlT, fb_ct_succ, tlL, tlA, tlS, h, e]; rfl
def isb (v : Int32) : Bool := decide (v = 0 ∨ v = 1)
def s_agree (S : sT) (what : Int32) : Int32 := if inb 4 what then tla (stl (tA S)) (2 ^ sN (tA S)) what else -1
def bfr (A : sA) (x a : Nat) : Bool := decide (nx A a = x)
def s_before (S : sT) (x what : Int32) : Int32 := if inb (nI (2 ^ sN (tA S))) x && isb what then tla (bfr (tA S) x.toNatClampNeg) (2 ^ sN (tA S)) what else -1
def s_fits (S : sT) (what : Int32) : Int32 := if inb 4 what then tla (fit (tV S) (tA S)) (2 ^ sN (tA S)) what else -1
def grd (A : sA) (x : Nat) : Bool := decide (fb_ct (bfr A x) (2 ^ sN A) = 0)
def s_gardens (S : sT) : Int32 := nI (fb_ct (grd (tA S)) (2 ^ sN (tA S)))
-- RINGS
def rgf (A : sA) (x : Nat) : Nat → Nat → Nat
  | 0, m => m
  | k + 1, m => if rg A (ny A m x) = 0 then rgf A x k (m + 1) else m
def rgA (A : sA) (y : Nat) : Nat → Nat
  | 0 => 63
  | i + 1 => rgA A y i &&& ny A i y
def rgS (A : sA) (y : Nat) : Nat → Nat
  | 0 => 0
  | i + 1 => rgS A y i ||| ny A i y
def rgM (A : sA) (x : Nat) : Nat := rgf A x 64 0
def s_ring (S : sT) (what : Int32) : Int32 := if inb 4 what then (if what = 0 then nI (rgM (tA S) (tX S)) else if what = 1 then nI (rg (tA S) (ny (tA S) (rgM (tA S) (tX S)) (tX S))) else if rg (tA S) (ny (tA S) (rgM (tA S) (tX S)) (tX S)) = 0 then -4 else if what = 2 then nI (rgA (tA S) (ny (tA S) (rgM (tA S) (tX S)) (tX S)) (rg (tA S) (ny (tA S) (rgM (tA S) (tX S)) (tX S)))) else nI (rgS (tA S) (ny (tA S) (rgM (tA S) (tX S)) (tX S)) (rg (tA S) (ny (tA S) (rgM (tA S) (tX S)) (tX S))))) else -1
/-- many, shortest, least, longest -/
def rsF (A : sA) : Nat → Nat × Nat × Nat × Nat
  | 0 => (0, 0, 0, 0)
  | i + 1 => if rl A i = 0 then rsF A i else ((rsF A i).1 + 1, (if (rsF A i).2.1 = 0 ∨ rl A i < (rsF A i).2.1 then rl A i else (rsF A i).2.1), (if (rsF A i).2.1 = 0 ∨ rl A i < (rsF A i).2.1 then i else (rsF A i).2.2.1), max (rsF A i).2.2.2 (rl A i))
def s_rings (S : sT) (what : Int32) : Int32 := match ix 4 what with
  | 0 => nI (rsF (tA S) (2 ^ sN (tA S))).1
  | 1 => nI (rsF (tA S) (2 ^ sN (tA S))).2.1
  | 2 => nI (rsF (tA S) (2 ^ sN (tA S))).2.2.1
  | 3 => nI (rsF (tA S) (2 ^ sN (tA S))).2.2.2
  | _ => -1
-- AMENDED LAWS, A BAN MORE
def amG (A : sA) (f : Nat) : Nat → Nat × Int32 → Nat × Int32
  | 0, q => q
  | g + 1, q => if (amG A f g q).1 < sct (aF A f g) then (sct (aF A f g), nI (10 * f + g)) else amG A f g q
def amF (A : sA) : Nat → Nat × Int32
  | 0 => (sct A, -4)
  | f + 1 => amG A f (sN A) (amF A f)
def pick (what : Int32) (q : Nat × Int32) : Int32 := if what = 0 then q.2 else if q.2 = -4 then q.2 else nI q.1
def s_amend (S : sT) (what : Int32) : Int32 := if isb what then pick what (amF (tA S) (sN (tA S))) else -1
def stG (A : sA) (f : Nat) : Nat → Nat × Int32 → Nat × Int32
  | 0, q => q
  | k + 1, q => if 1 ≤ scw A f (f + 1 + k) ∧ scw A f (f + 1 + k) < (stG A f k q).1 then (scw A f (f + 1 + k), nI (10 * f + (f + 1 + k))) else stG A f k q
def stF (A : sA) : Nat → Nat × Int32
  | 0 => (sct A, -4)
  | f + 1 => stG A f (sN A - (f + 1)) (stF A f)
def s_strict (S : sT) (what : Int32) : Int32 := if isb what then pick what (stF (tA S) (sN (tA S))) else -1
-- SLIPS
def wth (A : sA) (w x : Nat) : Nat := match w with
  | 0 => if al A x then 1 else 0
  | 1 => if ag A x then 1 else 0
  | _ => pcn x 6
def slt (A : sA) (x v w s : Nat) : Nat := v ^ pcn s 6 * (10 - v) ^ (sN A - pcn s 6) * wth A w (nx A x ^^^ s)
def slp (A : sA) (x v w : Nat) : Nat := fb_sm (slt A x v w) (2 ^ sN A)
def s_slips (w : Nat) (S : sT) (v what : Int32) : Int64 := if inb 11 v && isb what then lN ((if what = 0 then slp (tA S) (tX S) v.toNatClampNeg w else 10 ^ sN (tA S)) / Nat.gcd (slp (tA S) (tX S) v.toNatClampNeg w) (10 ^ sN (tA S))) else -1
-- WHERE TO LOOK
def lkc (A : sA) (V : sV) (n f : Nat) : Nat := fb_ct (fun x => fit V A x && decide (tb (ny A n x) f = 1)) (2 ^ sN A)
def lka (A : sA) (V : sV) : Nat := fb_ct (fit V A) (2 ^ sN A)
def lkw (A : sA) (V : sV) (n f : Nat) : Nat := max (lkc A V n f) (lka A V - lkc A V n f)
def lkF (A : sA) (V : sV) (n : Nat) : Nat → Nat × Int32 → Nat × Int32
  | 0, q => q
  | f + 1, q => if lkw A V n f < (lkF A V n f q).1 then (lkw A V n f, nI (10 * n + f)) else lkF A V n f q
def lkN (A : sA) (V : sV) : Nat → Nat × Int32
  | 0 => (lka A V, -4)
  | n + 1 => lkF A V n (sN A) (lkN A V n)
def s_look (S : sT) (what : Int32) : Int32 := if isb what then pick what (lkN (tA S) (tV S) 10) else -1
-- BY A SEED
def drD (d : Int32) : Int32 := d * 1103515245 + 12345
def drf (N : Nat) (d : Int32) : Nat := d.toBitVec.toNat / 65536 % 32768 % N
def drs (A : sA) (seed : Int32) (x : Nat) : Nat → Int32 × Nat × Nat
  | 0 => (seed, x, 0)
  | i + 1 => (drD (drs A seed x i).1, nx A ((drs A seed x i).2.1 ^^^ 2 ^ drf (sN A) (drD (drs A seed x i).1)), (drs A seed x i).2.2 + (if al A (nx A ((drs A seed x i).2.1 ^^^ 2 ^ drf (sN A) (drD (drs A seed x i).1))) then 1 else 0))
def s_drift (S : sT) (seed n what : Int32) : Int32 := if (decide (¬ n < 1) && decide (¬ 60 < n)) && isb what then (if sN (tA S) = 0 then -2 else if what = 0 then nI (drs (tA S) seed (tX S) n.toNatClampNeg).2.2 else nI (drs (tA S) seed (tX S) n.toNatClampNeg).2.1) else -1
-- WAYS
def wy (A : sA) (x : Nat) (G : Option (Nat × Nat)) : Nat → Nat → Option (Nat × Nat)
  | 0, _ => none
  | k + 1, n => match bst A x n G ((sG A + 1) ^ n) with
    | some c => some (n, c)
    | none => wy A x G k (n + 1)
def iwy (v : Int32) : Bool := decide (¬ v < 10) && decide (¬ 14 ≤ v)
def s_way (S : sT) (f v what : Int32) : Int32 := if (inb (nI (sN (tA S))) f && isb v) && (isb what || iwy what) then (match wy (tA S) (tX S) (some (f.toNatClampNeg, v.toNatClampNeg)) 5 0 with
  | none => -4
  | some q => if what = 0 then nI q.1 else if what = 1 then nI (prc (tA S) q.1 q.2) else who (sG (tA S)) q.1 (some q.2) (what - 10)) else -1
def s_peace (S : sT) (n what : Int32) : Int32 := if inb 5 n && (decide (what = 0) || iwy what) then (match bst (tA S) (tX S) n.toNatClampNeg none ((sG (tA S) + 1) ^ n.toNatClampNeg) with
  | none => -4
  | some c => if what = 0 then nI (prc (tA S) n.toNatClampNeg c) else who (sG (tA S)) n.toNatClampNeg (some c) (what - 10)) else -1
-- READING OF SHEETS
abbrev tSN (S : sT) (n : Nat) : sT := (S.1, S.2.1, S.2.2.1, S.2.2.2.1, S.2.2.2.2.1, S.2.2.2.2.2.1, S.2.2.2.2.2.2.1, S.2.2.2.2.2.2.2.1, n)
def rfo (S : sT) (k : Nat) (lane f : Int32) (came : Nat) : Nat := if (tH S).1 k = 3 then 1 else if ¬ nI ((tH S).1 k) = lane then 3 else if 0 ≤ f.toInt + (came : Int) ∧ f.toInt + (came : Int) < ((tH S).2.1 k : Int) then 0 else 2
def rdL (S : sT) (k : Nat) (lane f : Int32) : Nat → Nat → Nat → Nat → Int32 × sT
  | 0, came, x, y => (nI came, tSN (tSXY S x y) 0)
  | m + 1, came, x, y => if rfo S k lane f came = 0 then (if y < 999 ∧ inb (nI (sG (tA S))) ((tH S).2.2 k (f.toInt + (came : Int)).toNat) = true ∧ al (tA S) (x ^^^ 2 ^ sU (tA S) ((tH S).2.2 k (f.toInt + (came : Int)).toNat).toNatClampNeg) = true then rdL S k lane f m (came + 1) (nx (tA S) (x ^^^ 2 ^ sU (tA S) ((tH S).2.2 k (f.toInt + (came : Int)).toNat).toNatClampNeg)) (y + 1) else (-20 - nI came, S)) else (nI came, tSN (tSXY S x y) (rfo S k lane f came))
def s_read (S : sT) (k lane f n : Int32) : Int32 × sT := if (inb 4 k && inb 3 lane) && inb 21 n then rdL S k.toNatClampNeg lane f n.toNatClampNeg 0 (tX S) (tY S) else (-1, S)
theorem gtk {k : Nat} {n : Int32} (hk : k + 1 < 2 ^ 31) (h : ¬ n ≤ nI k) : nI (k + 1) ≤ n := by
  rw [Int32.le_iff_toInt_le] at h ⊢
  have e1 : (nI k).toInt = k := nI_toInt (by omega)
  have e2 : (nI (k + 1)).toInt = ((k + 1 : Nat) : Int) := nI_toInt (by omega)
  omega
theorem ngtk {k : Nat} {n : Int32} (hk : k + 1 < 2 ^ 31) (h : n ≤ nI k) : ¬ nI (k + 1) ≤ n := by
  rw [Int32.le_iff_toInt_le] at h ⊢
  have e1 : (nI k).toInt = k := nI_toInt (by omega)
  have e2 : (nI (k + 1)).toInt = ((k + 1 : Nat) : Int) := nI_toInt (by omega)
  omega
theorem gt3 {n : Int32} (h : ¬ n ≤ 3) : nI 4 ≤ n := gtk (k := 3) (by decide) h
theorem ngt3 {n : Int32} (h : n ≤ 3) : ¬ nI 4 ≤ n := ngtk (k := 3) (by decide) h
