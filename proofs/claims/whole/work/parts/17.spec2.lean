theorem ble_of {a b : Nat} (ha : a < 2 ^ 31) (hb : b < 2 ^ 31) (h : nI a ≤ nI b) : a ≤ b := (nI_leI ha hb).mp h
theorem bnle_of {a b : Nat} (ha : a < 2 ^ 31) (hb : b < 2 ^ 31) (h : ¬ nI a ≤ nI b) : b < a := by have := mt (nI_leI ha hb).mpr h; omega
theorem blt_of {a b : Nat} (ha : a < 2 ^ 31) (hb : b < 2 ^ 31) (h : nI a < nI b) : a < b := (nI_ltI ha hb).mp h
theorem bnlt_of {a b : Nat} (ha : a < 2 ^ 31) (hb : b < 2 ^ 31) (h : ¬ nI a < nI b) : b ≤ a := by have := mt (nI_ltI ha hb).mpr h; omega
theorem beq_of {a b : Nat} (ha : a < 2 ^ 31) (hb : b < 2 ^ 31) (h : nI a = nI b) : a = b := (nI_eq ha hb).mp h
theorem bne_of {a b : Nat} (ha : a < 2 ^ 31) (hb : b < 2 ^ 31) (h : ¬ nI a = nI b) : a ≠ b := fun e => h (by rw [e])
def stl (A : sA) (x : Nat) : Bool := ag A x && al A x
def sct (A : sA) : Nat := fb_ct (stl A) (2 ^ sN A)
def stw (A : sA) (f g x : Nat) : Bool := stl A x && !(decide (tb x f = 1) && decide (tb x g = 1))
def scw (A : sA) (f g : Nat) : Nat := fb_ct (stw A f g) (2 ^ sN A)
def rgl (A : sA) (x : Nat) : Nat → Nat → Nat
  | 0, _ => 0
  | k + 1, m => if ny A m x = x then m else rgl A x k (m + 1)
def rg (A : sA) (x : Nat) : Nat := rgl A x (2 ^ sN A) 1
def rll (A : sA) (x : Nat) : Nat → Nat → Nat
  | 0, _ => 0
  | k + 1, m => if ny A m x = x then m else if ny A m x < x then 0 else rll A x k (m + 1)
def rl (A : sA) (x : Nat) : Nat := rll A x (2 ^ sN A) 1
theorem rgl_le (A : sA) (x : Nat) : ∀ k m, rgl A x k m ≤ m + k
  | 0, m => by simp [rgl]
  | k + 1, m => by
    have := rgl_le A x k (m + 1)
    rw [rgl]
    split <;> omega
theorem rll_le (A : sA) (x : Nat) : ∀ k m, rll A x k m ≤ m + k
  | 0, m => by simp [rll]
  | k + 1, m => by
    have := rll_le A x k (m + 1)
    rw [rll]
    split
    · omega
    · split <;> omega
def smp (A : sA) : Nat := fb_sm (sP A) (sG A)
/-- how many bits -/
def pcn (x : Nat) : Nat → Nat
  | 0 => 0
  | i + 1 => pcn x i + tb x i
