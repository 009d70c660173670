-- THE TEXT
def so (b : Nat → Nat) (n p : Nat) : Nat := if n ≤ p then 4 else if 97 ≤ b p ∧ b p ≤ 122 then 1 else if 48 ≤ b p ∧ b p ≤ 57 then 2 else if b p = 59 then 3 else 0
def sk (b : Nat → Nat) : Nat → Nat → Nat
  | 0, p => p
  | k + 1, p => if b p = 32 then sk b k (p + 1) else p
def rn (b : Nat → Nat) (n s : Nat) : Nat → Nat → Nat
  | 0, p => p
  | k + 1, p => if so b n p = s then rn b n s k (p + 1) else p
def tB (b : Nat → Nat) (n p : Nat) : Nat := sk b (n - p) p
def tR (b : Nat → Nat) (n p : Nat) : Nat := so b n (tB b n p)
def tE (b : Nat → Nat) (n p : Nat) : Nat := if tR b n p = 1 ∨ tR b n p = 2 then rn b n (tR b n p) (n - tB b n p) (tB b n p) else if tB b n p < n then tB b n p + 1 else tB b n p
def tK (b : Nat → Nat) (n p : Nat) : Nat := if tR b n p = 2 ∧ 2 < tE b n p - tB b n p then 0 else tR b n p
def vl (b : Nat → Nat) (a : Nat) : Nat → Nat
  | 0 => 0
  | k + 1 => vl b a k * 10 + b (a + k) - 48
def wrd (b : Nat → Nat) (a e j : Nat) : Bool := decide (e - a = sLen j) && allb (fun i => decide (b (a + i) = sCh j i)) (sLen j)
def wf (b : Nat → Nat) (a e : Nat) : Nat → Nat → Nat
  | 0, _ => 8
  | k + 1, j => if wrd b a e j then j else wf b a e k (j + 1)
theorem so_le (b : Nat → Nat) (n p : Nat) : so b n p ≤ 4 := by
  unfold so
  split
  · omega
  · split
    · omega
    · split
      · omega
      · split <;> omega
theorem so_4 {b : Nat → Nat} {n p : Nat} : so b n p = 4 ↔ n ≤ p := by
  unfold so
  split
  · simp_all
  · split
    · simp_all
    · split
      · simp_all
      · split <;> simp_all
theorem sk_le (b : Nat → Nat) : ∀ k p, p ≤ sk b k p ∧ sk b k p ≤ p + k
  | 0, p => ⟨Nat.le_refl _, Nat.le_refl _⟩
  | k + 1, p => by
    have := sk_le b k (p + 1)
    rw [sk]
    split <;> omega
theorem rn_le (b : Nat → Nat) (n s : Nat) : ∀ k p, p ≤ rn b n s k p ∧ rn b n s k p ≤ p + k
  | 0, p => ⟨Nat.le_refl _, Nat.le_refl _⟩
  | k + 1, p => by
    have := rn_le b n s k (p + 1)
    rw [rn]
    split <;> omega
theorem rn_in (b : Nat → Nat) (n s : Nat) : ∀ k p i, p ≤ i → i < rn b n s k p → so b n i = s
  | 0, p, i, h1, h2 => by rw [rn] at h2; omega
  | k + 1, p, i, h1, h2 => by
    rw [rn] at h2
    split at h2
    · rcases Nat.eq_or_lt_of_le h1 with q | q
      · subst q; assumption
      · exact rn_in b n s k (p + 1) i q h2
    · omega
theorem tB_le {b : Nat → Nat} {n p : Nat} (h : p ≤ n) : p ≤ tB b n p ∧ tB b n p ≤ n := by
  have := sk_le b (n - p) p
  unfold tB
  omega
theorem tE_le {b : Nat → Nat} {n p : Nat} (h : p ≤ n) : tB b n p ≤ tE b n p ∧ tE b n p ≤ n := by
  have := tB_le (b := b) h
  have h2 := rn_le b n (tR b n p) (n - tB b n p) (tB b n p)
  unfold tE
  split
  · omega
  · split <;> omega
theorem tE_lt {b : Nat → Nat} {n p : Nat} (h : p ≤ n) (hk : ¬ tR b n p = 4) : tB b n p < tE b n p := by
  have h1 := tB_le (b := b) h
  have h3 : tB b n p < n := by
    rcases Nat.lt_or_ge (tB b n p) n with q | q
    · exact q
    · exact absurd (so_4.mpr q) hk
  have h2 := rn_le b n (tR b n p) (n - tB b n p - 1) (tB b n p + 1)
  unfold tE
  split
  · have e : n - tB b n p = (n - tB b n p - 1) + 1 := by omega
    rw [e, rn, if_pos (show so b n (tB b n p) = tR b n p from rfl)]
    omega
  · first | omega | (rw [if_pos h3]; omega)
theorem tR_le (b : Nat → Nat) (n p : Nat) : tR b n p ≤ 4 := so_le _ _ _
theorem tK_le (b : Nat → Nat) (n p : Nat) : tK b n p ≤ 4 := by
  unfold tK
  split
  · omega
  · exact tR_le b n p
theorem tK_4 {b : Nat → Nat} {n p : Nat} (h : ¬ tK b n p = 4) : ¬ tR b n p = 4 := by
  intro z
  apply h
  unfold tK
  rw [if_neg (by omega)]
  exact z
theorem tK_2 {b : Nat → Nat} {n p : Nat} (hp : p ≤ n) (h : tK b n p = 2) : tE b n p - tB b n p ≤ 2 ∧ ∀ i, tB b n p ≤ i → i < tE b n p → 48 ≤ b i ∧ b i ≤ 57 := by
  have hr : tR b n p = 2 := by
    unfold tK at h
    split at h
    · omega
    · exact h
  refine ⟨?_, fun i h1 h2 => ?_⟩
  · unfold tK at h
    split at h
    · omega
    · omega
  · have e : tE b n p = rn b n 2 (n - tB b n p) (tB b n p) := by unfold tE; rw [if_pos (Or.inr hr), hr]
    rw [e] at h2
    have := rn_in b n 2 _ _ i h1 h2
    unfold so at this
    split at this
    · omega
    · split at this
      · omega
      · split at this
        · assumption
        · split at this <;> omega
theorem vl_le {b : Nat → Nat} {a : Nat} : ∀ k, (∀ i, a ≤ i → i < a + k → 48 ≤ b i ∧ b i ≤ 57) → vl b a k < 10 ^ k
  | 0, _ => by simp [vl]
  | k + 1, h => by
    have h1 := vl_le k (fun i h1 h2 => h i h1 (by omega))
    have h2 := h (a + k) (by omega) (by omega)
    rw [vl, Nat.pow_succ]
    omega
/-- the reader: place, token, its place, flaw, its place -/
abbrev pS : Type := Nat × Nat × Nat × Nat × Nat
abbrev pP (s : pS) : Nat := s.1
abbrev pK (s : pS) : Nat := s.2.1
abbrev pT (s : pS) : Nat := s.2.2.1
abbrev pF (s : pS) : Nat := s.2.2.2.1
abbrev pL (s : pS) : Nat := s.2.2.2.2
def fIf (c : Bool) (k : Nat) (s : pS) : pS := if c && decide (pF s = 0) then (pP s, pK s, pT s, k, pT s) else s
def tkT (b : Nat → Nat) (n : Nat) (s : pS) : pS := if pF s = 0 then fIf (decide (tK b n (pP s) = 0)) 1 (tE b n (pP s), tK b n (pP s), tB b n (pP s), 0, pL s) else s
def tkS (b : Nat → Nat) (n : Nat) (s : pS) : pS := fIf (decide (¬ pK (tkT b n s) = 3)) 2 (tkT b n s)
def tkN1 (b : Nat → Nat) (n : Nat) (s : pS) : pS := fIf (decide (¬ pK (tkT b n s) = 2)) 2 (tkT b n s)
def tkV (b : Nat → Nat) (s : pS) : Nat := vl b (pT s) (pP s - pT s)
def tkN (b : Nat → Nat) (n most : Nat) (s : pS) : pS := if pF (tkN1 b n s) = 0 then fIf (decide (most < tkV b (tkN1 b n s))) 3 (tkN1 b n s) else tkN1 b n s
def tkW (b : Nat → Nat) (n most : Nat) (s : pS) : Nat := if pF (tkN b n most s) = 0 then tkV b (tkN1 b n s) else 0
def aT (A : sA) (k f g : Nat) : sA := (sN A + 1, updN (sK A) (sN A) k, updN (sF A) (sN A) f, updN (sS A) (sN A) g, A.2.2.2.2)
def aG (A : sA) (f c : Nat) : sA := (A.1, A.2.1, A.2.2.1, A.2.2.2.1, sG A + 1, updN (sU A) (sG A) f, updN (sP A) (sG A) c, A.2.2.2.2.2.2.2)
abbrev pZ : Type := pS × sA × Nat
def c_thing1 (b : Nat → Nat) (n k : Nat) (s : pS) (A : sA) (x : Nat) : pZ :=
  (tkS b n (if k = 3 ∨ k = 4 then tkN b n 5 (if k = 0 then s else tkN b n 5 s) else (if k = 0 then s else tkN b n 5 s)), (if sN A < 6 then aT A k (if k = 0 then sN A else tkW b n 5 s) (if k = 3 ∨ k = 4 then tkW b n 5 (if k = 0 then s else tkN b n 5 s) else sN A) else A), x)
def c_thing (b : Nat → Nat) (n k : Nat) (Z : pZ) : pZ := c_thing1 b n k (fIf (decide (6 ≤ sN Z.2.1)) 5 Z.1) Z.2.1 Z.2.2
def c_so (b : Nat → Nat) (n : Nat) (Z : pZ) : pZ :=
  (tkS b n (fIf (decide (tb Z.2.2 (tkW b n 5 Z.1) = 1)) 4 (tkN b n 5 Z.1)), Z.2.1, Z.2.2 ||| 2 ^ tkW b n 5 Z.1)
def c_guest1 (b : Nat → Nat) (n : Nat) (s : pS) (A : sA) (x : Nat) : pZ :=
  (tkS b n (tkN b n 9 (tkN b n 5 s)), (if sG A < 4 then aG A (tkW b n 5 s) (tkW b n 9 (tkN b n 5 s)) else A), x)
def c_guest (b : Nat → Nat) (n : Nat) (Z : pZ) : pZ := c_guest1 b n (fIf (decide (4 ≤ sG Z.2.1)) 5 Z.1) Z.2.1 Z.2.2
def c_ban1 (b : Nat → Nat) (n : Nat) (s : pS) (A : sA) (x : Nat) : pZ :=
  (tkS b n (fIf (decide (tkW b n 5 s = tkW b n 5 (tkN b n 5 s))) 3 (tkN b n 5 (tkN b n 5 s))), (if sB A < 4 then aB A (tkW b n 5 s) (tkW b n 5 (tkN b n 5 s)) else A), x)
def c_ban (b : Nat → Nat) (n : Nat) (Z : pZ) : pZ := c_ban1 b n (fIf (decide (4 ≤ sB Z.2.1)) 5 Z.1) Z.2.1 Z.2.2
theorem c_thing_0 (b : Nat → Nat) (n : Nat) (s : pS) (A : sA) (x : Nat) : c_thing1 b n 0 s A x = (tkS b n s, (if sN A < 6 then aT A 0 (sN A) (sN A) else A), x) := by
  simp [c_thing1]
theorem c_thing_1 (b : Nat → Nat) (n : Nat) {k : Nat} (hk : k = 1 ∨ k = 2) (s : pS) (A : sA) (x : Nat) : c_thing1 b n k s A x = (tkS b n (tkN b n 5 s), (if sN A < 6 then aT A k (tkW b n 5 s) (sN A) else A), x) := by
  rcases hk with rfl | rfl <;> simp [c_thing1]
theorem c_thing_3 (b : Nat → Nat) (n : Nat) {k : Nat} (hk : k = 3 ∨ k = 4) (s : pS) (A : sA) (x : Nat) : c_thing1 b n k s A x = (tkS b n (tkN b n 5 (tkN b n 5 s)), (if sN A < 6 then aT A k (tkW b n 5 s) (tkW b n 5 (tkN b n 5 s)) else A), x) := by
  rcases hk with rfl | rfl <;> simp [c_thing1]
def tw (b : Nat → Nat) (s : pS) : Nat := if pK s = 1 then wf b (pT s) (pP s) 8 0 else 8
def c_body (b : Nat → Nat) (n : Nat) (Z : pZ) : pZ :=
  if tw b Z.1 = 8 then (fIf true 2 Z.1, Z.2.1, Z.2.2)
  else if tw b Z.1 = 5 then c_so b n Z
  else if tw b Z.1 = 6 then c_guest b n Z
  else if tw b Z.1 = 7 then c_ban b n Z
  else c_thing b n (tw b Z.1) Z
/-- a line, from a place; whether there was one -/
def c_line (b : Nat → Nat) (n p : Nat) (A : sA) (x : Nat) : Bool × pZ :=
  if ¬ pF (tkT b n (p, 0, 0, 0, 0)) = 0 ∨ pK (tkT b n (p, 0, 0, 0, 0)) = 4 then (false, tkT b n (p, 0, 0, 0, 0), A, x) else (decide (pF (c_body b n (tkT b n (p, 0, 0, 0, 0), A, x)).1 = 0), c_body b n (tkT b n (p, 0, 0, 0, 0), A, x))
def c_loop (b : Nat → Nat) (n : Nat) : Nat → Nat → sA → Nat → Nat → pZ × Nat
  | 0, p, A, x, l => (((p, 0, 0, 0, 0), A, x), l)
  | k + 1, p, A, x, l => if (c_line b n p A x).1 then c_loop b n k (pP (c_line b n p A x).2.1) (c_line b n p A x).2.2.1 (c_line b n p A x).2.2.2 (l + 1) else ((c_line b n p A x).2, l)
def A0 : sA := (0, fun _ => 0, fun _ => 0, fun _ => 0, 0, fun _ => 0, fun _ => 0, 0, fun _ => 0, fun _ => 0)
def c_read (b : Nat → Nat) (n : Nat) : pZ × Nat := c_loop b n 160 0 A0 0 0
def c_end (r : pZ × Nat) : pS := fIf (!whl r.1.2.1 r.1.2.2) 6 r.1.1
def c_all (b : Nat → Nat) (n : Nat) : pS := c_end (c_read b n)
abbrev tSF (S : sT) (f : Nat) : sT := (S.1, S.2.1, S.2.2.1, S.2.2.2.1, f, S.2.2.2.2.2)
def s_text (S : sT) : Int32 × sT :=
  if pF (c_all (tT S).2 (tT S).1) = 0 then (nI (c_read (tT S).2 (tT S).1).2, ((c_read (tT S).2 (tT S).1).1.2.1, (c_read (tT S).2 (tT S).1).1.2.2, 0, (0, (tT S).2), 0, (0, (tV S).2), (fun _ => none), S.2.2.2.2.2.2.2))
  else (-10 - nI (pL (c_all (tT S).2 (tT S).1)), tSF (tST S (0, (tT S).2)) (pF (c_all (tT S).2 (tT S).1)))
-- what stays in bounds
def sI (n : Nat) (s : pS) : Prop := pP s ≤ n ∧ pT s ≤ n ∧ pK s ≤ 4 ∧ pF s ≤ 6 ∧ pL s ≤ n
theorem fIf_0 {c : Bool} {k : Nat} {s : pS} (h : pF (fIf c k s) = 0) (hk : k ≠ 0) : c = false ∧ fIf c k s = s ∨ pF s ≠ 0 ∧ fIf c k s = s := by
  unfold fIf at h ⊢
  split at h
  · exact absurd h hk
  · rename_i q
    rw [if_neg q]
    simp only [Bool.and_eq_true, decide_eq_true_eq, not_and] at q
    cases c with
    | false => exact Or.inl ⟨rfl, rfl⟩
    | true => exact Or.inr ⟨q rfl, rfl⟩
theorem sI_fIf {n : Nat} {c : Bool} {k : Nat} {s : pS} (hk : k ≤ 6) (h : sI n s) : sI n (fIf c k s) := by
  unfold fIf
  split
  · exact ⟨h.1, h.2.1, h.2.2.1, hk, h.2.1⟩
  · exact h
theorem sI_tkT {b : Nat → Nat} {n : Nat} {s : pS} (h : sI n s) : sI n (tkT b n s) := by
  unfold tkT
  split
  · have h1 := tB_le (b := b) h.1
    have h2 := tE_le (b := b) h.1
    have h3 := tK_le b n (pP s)
    exact sI_fIf (by decide) ⟨h2.2, by show tB b n (pP s) ≤ n; omega, h3, Nat.zero_le _, h.2.2.2.2⟩
  · exact h
theorem sI_tkS {b : Nat → Nat} {n : Nat} {s : pS} (h : sI n s) : sI n (tkS b n s) := sI_fIf (by decide) (sI_tkT h)
theorem sI_tkN1 {b : Nat → Nat} {n : Nat} {s : pS} (h : sI n s) : sI n (tkN1 b n s) := sI_fIf (by decide) (sI_tkT h)
theorem sI_tkN {b : Nat → Nat} {n most : Nat} {s : pS} (h : sI n s) : sI n (tkN b n most s) := by
  unfold tkN
  split
  · exact sI_fIf (by decide) (sI_tkN1 h)
  · exact sI_tkN1 h
theorem tkT_ok {b : Nat → Nat} {n : Nat} {s : pS} (h : pF (tkT b n s) = 0) : pF s = 0 ∧ ¬ tK b n (pP s) = 0 ∧ tkT b n s = (tE b n (pP s), tK b n (pP s), tB b n (pP s), 0, pL s) := by
  unfold tkT at h ⊢
  split at h
  · rename_i q
    rw [if_pos q]
    rcases fIf_0 h (by decide) with ⟨z, e⟩ | ⟨z, e⟩
    · exact ⟨q, of_decide_eq_false z, e⟩
    · exact absurd rfl z
  · rename_i q
    exact absurd h q
theorem tkS_ok {b : Nat → Nat} {n : Nat} {s : pS} (h : pF (tkS b n s) = 0) : pF s = 0 ∧ tK b n (pP s) = 3 ∧ tkS b n s = (tE b n (pP s), 3, tB b n (pP s), 0, pL s) := by
  unfold tkS at h ⊢
  rcases fIf_0 h (by decide) with ⟨z, e⟩ | ⟨z, e⟩
  · rw [e] at h ⊢
    obtain ⟨h1, h2, h3⟩ := tkT_ok h
    have h4 : tK b n (pP s) = 3 := by
      have := of_decide_eq_false z
      rw [h3] at this
      exact Classical.not_not.mp this
    exact ⟨h1, h4, by rw [h3, h4]⟩
  · rw [e] at h; exact absurd h z
theorem tkN1_ok {b : Nat → Nat} {n : Nat} {s : pS} (h : pF (tkN1 b n s) = 0) : pF s = 0 ∧ tK b n (pP s) = 2 ∧ tkN1 b n s = (tE b n (pP s), 2, tB b n (pP s), 0, pL s) := by
  unfold tkN1 at h ⊢
  rcases fIf_0 h (by decide) with ⟨z, e⟩ | ⟨z, e⟩
  · rw [e] at h ⊢
    obtain ⟨h1, h2, h3⟩ := tkT_ok h
    have h4 : tK b n (pP s) = 2 := by
      have := of_decide_eq_false z
      rw [h3] at this
      exact Classical.not_not.mp this
    exact ⟨h1, h4, by rw [h3, h4]⟩
  · rw [e] at h; exact absurd h z
def tVl (b : Nat → Nat) (n p : Nat) : Nat := vl b (tB b n p) (tE b n p - tB b n p)
theorem tkN_ok {b : Nat → Nat} {n most : Nat} {s : pS} (h : pF (tkN b n most s) = 0) : pF s = 0 ∧ tK b n (pP s) = 2 ∧ tVl b n (pP s) ≤ most ∧ tkN b n most s = (tE b n (pP s), 2, tB b n (pP s), 0, pL s) ∧ tkW b n most s = tVl b n (pP s) := by
  have h0 := h
  unfold tkN at h
  split at h
  · rename_i q
    obtain ⟨h1, h2, h3⟩ := tkN1_ok q
    rcases fIf_0 h (by decide) with ⟨z, e⟩ | ⟨z, e⟩
    · have hv : tVl b n (pP s) ≤ most := by
        have := of_decide_eq_false z
        rw [h3] at this
        exact Nat.not_lt.mp this
      refine ⟨h1, h2, hv, by unfold tkN; rw [if_pos q, e, h3], by unfold tkW; rw [if_pos h0, h3]; rfl⟩
    · exact absurd q z
  · rename_i q
    exact absurd h q
theorem tkW_le {b : Nat → Nat} {n most : Nat} (s : pS) : tkW b n most s ≤ most := by
  by_cases h : pF (tkN b n most s) = 0
  · obtain ⟨-, -, h3, -, h5⟩ := tkN_ok h
    omega
  · unfold tkW; rw [if_neg h]; exact Nat.zero_le _
theorem fIf_n0 {c : Bool} {k : Nat} {s : pS} (h : pF (fIf c k s) = 0) (hk : k ≠ 0) : pF s = 0 ∧ c = false ∧ fIf c k s = s := by
  rcases fIf_0 h hk with ⟨z, e⟩ | ⟨z, e⟩
  · exact ⟨by rw [e] at h; exact h, z, e⟩
  · rw [e] at h; exact absurd h z
