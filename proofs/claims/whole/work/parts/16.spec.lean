-- WHAT IS COMPUTED, over plain numbers
def bI (b : Bool) : Int32 := if b then 1 else 0
theorem bI_nar (b : Bool) : narrow .boolean (.int (bI b)) = .int (bI b) := by cases b <;> rfl
theorem bI_true : bI true = 1 := rfl
theorem bI_false : bI false = 0 := rfl
theorem bI_eq0 {b : Bool} (h : bI b = 0) : b = false := by cases b with | false => rfl | true => exact absurd h (by decide)
theorem bI_ne0 {b : Bool} (h : ¬ bI b = 0) : b = true := by cases b with | true => rfl | false => exact absurd rfl h
theorem bI_nI (b : Bool) : bI b = nI (if b then 1 else 0) := by cases b <;> rfl
def inb (n v : Int32) : Bool := decide (¬ v < 0) && decide (¬ n ≤ v)
theorem inb_t {n v : Int32} (h1 : ¬ v < 0) (h2 : ¬ n ≤ v) : inb n v = true := by simp only [inb, h1, h2, not_false_eq_true, decide_true, Bool.and_self]
theorem inb_f1 {n v : Int32} (h1 : v < 0) : inb n v = false := by simp only [inb, h1, not_true_eq_false, decide_false, Bool.false_and]
theorem inb_f2 {n v : Int32} (h2 : n ≤ v) : inb n v = false := by simp only [inb, h2, not_true_eq_false, decide_false, Bool.and_false]
theorem inb_of {n v : Int32} (h : inb n v = true) : ¬ v < 0 ∧ ¬ n ≤ v := by simpa only [inb, Bool.and_eq_true, decide_eq_true_eq] using h
theorem inb_nI {n : Nat} {v : Int32} (hn : n < 2 ^ 31) (h : inb (nI n) v = true) : ∃ j, j < n ∧ v = nI j := by
  obtain ⟨h1, h2⟩ := inb_of h
  rcases pk_ix v hn with q | q | q
  · exact absurd q h1
  · exact absurd q h2
  · exact q
theorem nI_inb {n j : Nat} (hj : j < n) (hn : n < 2 ^ 31) : inb (nI n) (nI j) = true := inb_t (nI_pos (by omega)) (nI_ge hj hn)
def tb (x i : Nat) : Nat := x / 2 ^ i % 2
theorem tb_le (x i : Nat) : tb x i ≤ 1 := by unfold tb; omega
theorem tb_01 (x i : Nat) : tb x i = 0 ∨ tb x i = 1 := by unfold tb; omega
theorem tb_test (x i : Nat) : x.testBit i = decide (tb x i = 1) := by
  rw [Nat.testBit_eq_decide_div_mod_eq]; rfl
theorem n_and1 (a : Nat) : nI a &&& 1 = nI (a % 2) := by
  rw [show (1 : Int32) = nI 1 from rfl, fa_and, Nat.and_one_is_mod]
theorem n_shr {x j : Nat} (h : x < 2 ^ 31) (hj : j < 32) : nI x >>> (nI j &&& 31) = nI (x / 2 ^ j) := pk_shrN h _ j (s_l j hj)
theorem n_bit {x j : Nat} (h : x < 2 ^ 31) (hj : j < 32) : nI x >>> (nI j &&& 31) &&& 1 = nI (tb x j) := by rw [n_shr h hj, n_and1]; rfl
theorem n_shl {x j : Nat} (hj : j < 32) (h : x * 2 ^ j < 2 ^ 32) : nI x <<< (nI j &&& 31) = nI (x * 2 ^ j) := pk_shlN _ j (s_l j hj) h
theorem n_shl1 {j : Nat} (hj : j < 31) : (1 : Int32) <<< (nI j &&& 31) = nI (2 ^ j) := by
  have h : 2 ^ j ≤ 2 ^ 30 := Nat.pow_le_pow_right (by decide) (by omega)
  rw [show (1 : Int32) = nI 1 from rfl, n_shl (by omega) (by omega), Nat.one_mul]
theorem p2_le {n : Nat} (h : n ≤ 6) : 2 ^ n ≤ 64 := Nat.le_trans (Nat.pow_le_pow_right (by decide) h) (by decide)
theorem p2_lt {i n : Nat} (h : i < n) : 2 ^ i < 2 ^ n := Nat.pow_lt_pow_right (by decide) h
/-- laws, guests, bans: things, kind, first, second, guests, undoes, price, bans, one, other -/
abbrev sA : Type := Nat × (Nat → Nat) × (Nat → Nat) × (Nat → Nat) × Nat × (Nat → Nat) × (Nat → Nat) × Nat × (Nat → Nat) × (Nat → Nat)
abbrev sN (A : sA) : Nat := A.1
abbrev sK (A : sA) : Nat → Nat := A.2.1
abbrev sF (A : sA) : Nat → Nat := A.2.2.1
abbrev sS (A : sA) : Nat → Nat := A.2.2.2.1
abbrev sG (A : sA) : Nat := A.2.2.2.2.1
abbrev sU (A : sA) : Nat → Nat := A.2.2.2.2.2.1
abbrev sP (A : sA) : Nat → Nat := A.2.2.2.2.2.2.1
abbrev sB (A : sA) : Nat := A.2.2.2.2.2.2.2.1
abbrev sC (A : sA) : Nat → Nat := A.2.2.2.2.2.2.2.2.1
abbrev sE (A : sA) : Nat → Nat := A.2.2.2.2.2.2.2.2.2
/-- well told -/
def sOk (A : sA) : Prop := sN A ≤ 6 ∧ (∀ i, i < sN A → sK A i ≤ 4 ∧ sF A i < sN A ∧ sS A i < sN A) ∧ sG A ≤ 4 ∧ (∀ i, i < sG A → sU A i < sN A ∧ sP A i ≤ 9) ∧ sB A ≤ 4 ∧ (∀ i, i < sB A → sC A i < sN A ∧ sE A i < sN A)
def nb (A : sA) (x i : Nat) : Nat := match sK A i with
  | 0 => tb x i
  | 1 => tb x (sF A i)
  | 2 => 1 - tb x (sF A i)
  | 3 => tb x (sF A i) &&& (1 - tb x (sS A i))
  | _ => tb x (sF A i) ||| tb x (sS A i)
theorem nb_le (A : sA) (x i : Nat) : nb A x i ≤ 1 := by
  unfold nb
  rcases tb_01 x (sF A i) with h | h <;> rcases tb_01 x (sS A i) with h2 | h2 <;> have h3 := tb_le x i <;> split <;> (try rw [h]) <;> (try rw [h2]) <;> first | decide | omega
def nx' (A : sA) (x : Nat) : Nat → Nat
  | 0 => 0
  | i + 1 => nx' A x i ||| nb A x i * 2 ^ i
def nx (A : sA) (x : Nat) : Nat := nx' A x (sN A)
theorem or_lt {a b k : Nat} (ha : a < 2 ^ k) (hb : b < 2 ^ k) : a ||| b < 2 ^ k := Nat.or_lt_two_pow ha hb
theorem nx'_lt (A : sA) (x : Nat) : ∀ i, nx' A x i < 2 ^ i
  | 0 => by simp [nx']
  | i + 1 => by
    have h1 := nx'_lt A x i
    have h2 := nb_le A x i
    have h3 : 2 ^ i < 2 ^ (i + 1) := p2_lt (by omega)
    exact or_lt (by omega) (by
      have : nb A x i * 2 ^ i ≤ 1 * 2 ^ i := Nat.mul_le_mul_right _ h2
      omega)
theorem nx_lt (A : sA) (x : Nat) : nx A x < 2 ^ sN A := nx'_lt A x _
def ny (A : sA) : Nat → Nat → Nat
  | 0, x => x
  | m + 1, x => nx A (ny A m x)
theorem ny_lt {A : sA} {x : Nat} (hx : x < 2 ^ sN A) : ∀ m, ny A m x < 2 ^ sN A
  | 0 => hx
  | m + 1 => nx_lt A _
def brk (A : sA) (x b : Nat) : Bool := decide (tb x (sC A b) = 1) && decide (tb x (sE A b) = 1)
def al' (A : sA) (x : Nat) : Nat → Bool
  | 0 => true
  | b + 1 => al' A x b && !brk A x b
def al (A : sA) (x : Nat) : Bool := al' A x (sB A)
theorem al'_mono {A : sA} {x : Nat} : ∀ {n b : Nat}, b < n → brk A x b = true → al' A x n = false
  | 0, b, h, _ => absurd h (Nat.not_lt_zero b)
  | n + 1, b, h, hb => by
    rcases Nat.lt_or_ge b n with q | q
    · rw [al', al'_mono q hb]; rfl
    · have : b = n := by omega
      subst this
      rw [al', hb]; simp
def ag (A : sA) (x : Nat) : Bool := decide (nx A x = x)
