-- RINGS
theorem ny_add (A : sA) (x : Nat) : ∀ a b, ny A (a + b) x = ny A a (ny A b x)
  | 0, b => by rw [Nat.zero_add]; rfl
  | a + 1, b => by rw [show a + 1 + b = (a + b) + 1 by omega, ny, ny_add A x a b]; rfl
theorem rgl_1 {A : sA} {x : Nat} : ∀ (k m n : Nat), rgl A x k m = n → ¬ n = 0 → m ≤ n ∧ n < m + k ∧ ny A n x = x ∧ ∀ t, m ≤ t → t < n → ¬ ny A t x = x
  | 0, m, n, h, h0 => absurd h.symm h0
  | k + 1, m, n, h, h0 => by
    rw [rgl] at h
    split at h
    · rename_i q
      subst h
      exact ⟨Nat.le_refl _, by omega, q, fun t h1 h2 => by omega⟩
    · rename_i q
      obtain ⟨a, b, c, e⟩ := rgl_1 k (m + 1) n h h0
      refine ⟨by omega, by omega, c, fun t h1 h2 => ?_⟩
      by_cases z : t = m
      · subst z; exact q
      · exact e t (by omega) h2
theorem rgl_2 {A : sA} {x : Nat} : ∀ (k m i : Nat), 1 ≤ m → m ≤ i → i < m + k → ny A i x = x → ¬ rgl A x k m = 0 ∧ rgl A x k m ≤ i
  | 0, m, i, h0, h1, h2, _ => by omega
  | k + 1, m, i, h0, h1, h2, h3 => by
    rw [rgl]
    split
    · exact ⟨by omega, h1⟩
    · rename_i q
      have : ¬ m = i := fun z => q (by rw [z]; exact h3)
      exact rgl_2 k (m + 1) i (by omega) (by omega) (by omega) h3
theorem rg_1 {A : sA} {x : Nat} (h : ¬ rg A x = 0) : 1 ≤ rg A x ∧ rg A x ≤ 2 ^ sN A ∧ ny A (rg A x) x = x ∧ ∀ t, 1 ≤ t → t < rg A x → ¬ ny A t x = x := by
  obtain ⟨a, b, c, e⟩ := rgl_1 (2 ^ sN A) 1 (rg A x) rfl h
  exact ⟨a, by omega, c, e⟩
theorem rg_2 {A : sA} {x i : Nat} (h1 : 1 ≤ i) (h2 : i ≤ 2 ^ sN A) (h3 : ny A i x = x) : ¬ rg A x = 0 ∧ rg A x ≤ i := rgl_2 (2 ^ sN A) 1 i (Nat.le_refl _) h1 (by omega) h3
theorem rg_le64 {A : sA} (hA : sN A ≤ 6) (x : Nat) : rg A x ≤ 64 := by
  by_cases h : rg A x = 0
  · omega
  · have := (rg_1 h).2.1
    have := p2_le hA
    omega
theorem rg_ny {A : sA} {x t : Nat} (h : ¬ rg A x = 0) (ht : t < rg A x) : rg A (ny A t x) = rg A x := by
  obtain ⟨a, b, c, e⟩ := rg_1 h
  have h1 : ny A (rg A x) (ny A t x) = ny A t x := by
    rw [← ny_add, Nat.add_comm, ny_add, c]
  obtain ⟨f, g⟩ := rg_2 a b h1
  obtain ⟨a', b', c', e'⟩ := rg_1 f
  have hx : ny A (rg A x - t) (ny A t x) = x := by
    rw [← ny_add, show rg A x - t + t = rg A x by omega]; exact c
  have h2 : ny A (rg A (ny A t x)) x = x := by
    have : ny A (rg A (ny A t x)) (ny A (rg A x - t) (ny A t x)) = ny A (rg A x - t) (ny A t x) := by
      rw [← ny_add, Nat.add_comm, ny_add, c']
    rw [hx] at this
    exact this
  have := (rg_2 a' b' h2).2
  omega
/-- within so many years a ring is come to -/
theorem rg_ex {A : sA} (hA : sN A ≤ 6) {x : Nat} (hx : x < 2 ^ sN A) : ∃ i, i < 64 ∧ ¬ rg A (ny A i x) = 0 := by
  obtain ⟨i, j, h1, h2, h3⟩ := fb_twice (m := 2 ^ sN A) (n := 2 ^ sN A + 1) (f := fun i => ny A i x) (fun i _ => ny_lt hx i) (by omega)
  have h3 : ny A i x = ny A j x := h3
  have := p2_le hA
  refine ⟨i, by omega, (rg_2 (i := j - i) (by omega) (by omega) ?_).1⟩
  rw [← ny_add, show j - i + i = j by omega]
  exact h3.symm
theorem rgf_ok {A : sA} {x : Nat} : ∀ (k m i : Nat), m ≤ i → i < m + k → ¬ rg A (ny A i x) = 0 → ¬ rg A (ny A (rgf A x k m) x) = 0 ∧ rgf A x k m < m + k
  | 0, m, i, h1, h2, _ => by omega
  | k + 1, m, i, h1, h2, h3 => by
    rw [rgf]
    split
    · rename_i q
      have : ¬ m = i := fun z => h3 (by rw [← z]; exact q)
      have := rgf_ok k (m + 1) i (by omega) (by omega) h3
      exact ⟨this.1, by omega⟩
    · rename_i q
      exact ⟨q, by omega⟩
theorem rll_no0 {A : sA} {x : Nat} : ∀ (k m : Nat), rgl A x k m = 0 → 1 ≤ m → rll A x k m = 0
  | 0, m, _, _ => rfl
  | k + 1, m, h, hm => by
    rw [rgl] at h
    rw [rll]
    split at h
    · omega
    · rename_i q
      rw [if_neg q]
      split
      · rfl
      · exact rll_no0 k (m + 1) h (by omega)
theorem rll_no1 {A : sA} {x : Nat} : ∀ (k m t : Nat), m ≤ t → t < rgl A x k m → ny A t x < x → rll A x k m = 0
  | 0, m, t, _, h, _ => by rw [rgl] at h; omega
  | k + 1, m, t, h1, h2, h3 => by
    rw [rgl] at h2
    rw [rll]
    split at h2
    · omega
    · rename_i q
      rw [if_neg q]
      split
      · rfl
      · rename_i q2
        have : ¬ m = t := fun z => q2 (by rw [z]; exact h3)
        exact rll_no1 k (m + 1) t (by omega) h2 h3
theorem rll_yes {A : sA} {x : Nat} : ∀ (k m : Nat), (∀ t, m ≤ t → t < rgl A x k m → x < ny A t x) → rll A x k m = rgl A x k m
  | 0, m, _ => rfl
  | k + 1, m, h => by
    rw [rll, rgl]
    split
    · rfl
    · rename_i q
      rw [rgl, if_neg q] at h
      by_cases z : rgl A x k (m + 1) = 0
      · rw [z]
        split
        · rfl
        · rw [rll_yes k (m + 1) (fun t h1 h2 => by rw [z] at h2; omega)]; exact z
      · have hb := (rgl_1 k (m + 1) _ rfl z).1
        have h1 := h m (Nat.le_refl _) (by omega)
        rw [if_neg (by omega)]
        exact rll_yes k (m + 1) (fun t h1 h2 => h t (by omega) h2)
def ldr (A : sA) (x n : Nat) : Bool := allb (fun t => decide (x < ny A (t + 1) x)) n
theorem ldr_succ (A : sA) (x t : Nat) : ldr A x (t + 1) = (ldr A x t && decide (x < ny A (t + 1) x)) := rfl
theorem rl_spec (A : sA) (x : Nat) : rl A x = if ldr A x (rg A x - 1) then rg A x else 0 := by
  unfold rl
  by_cases h : rg A x = 0
  · rw [rll_no0 _ _ h (Nat.le_refl _), h]
    split <;> rfl
  · cases hl : ldr A x (rg A x - 1) with
    | true =>
      rw [if_pos rfl]
      have := allb_iff.mp hl
      exact rll_yes _ _ (fun t h1 h2 => by
        have h3 := this (t - 1) (by have : t < rg A x := h2; omega)
        rw [show t - 1 + 1 = t by omega] at h3
        exact of_decide_eq_true h3)
    | false =>
      rw [if_neg (by decide)]
      obtain ⟨a, b, c, e⟩ := rg_1 h
      have : ∃ t, t < rg A x - 1 ∧ ¬ x < ny A (t + 1) x := by
        apply Classical.byContradiction
        intro hn
        have : ldr A x (rg A x - 1) = true := allb_iff.mpr (fun i hi => decide_eq_true (Classical.byContradiction (fun z => hn ⟨i, hi, z⟩)))
        rw [hl] at this
        cases this
      obtain ⟨t, h1, h2⟩ := this
      have h3 := e (t + 1) (by omega) (by omega)
      exact rll_no1 _ _ (t + 1) (by omega) (by show t + 1 < rg A x; omega) (by omega)
/-- all that is on a ring below i has been counted -/
def rsI (A : sA) (i : Nat) : Prop := ∀ s, s < i → ¬ rg A s = 0 → ¬ (rsF A i).2.1 = 0 ∧ (rsF A i).2.1 ≤ rg A s ∧ rg A s ≤ (rsF A i).2.2.2
theorem rsF_b {A : sA} (hA : sN A ≤ 6) : ∀ i, (rsF A i).1 ≤ i ∧ (rsF A i).2.1 ≤ 64 ∧ (rsF A i).2.2.1 ≤ i ∧ (rsF A i).2.2.2 ≤ 64
  | 0 => by simp [rsF]
  | i + 1 => by
    obtain ⟨h1, h2, h3, h4⟩ := rsF_b hA i
    have h5 : rl A i ≤ 64 := by
      rw [rl_spec]
      split
      · exact rg_le64 hA i
      · omega
    rw [rsF]
    split
    · exact ⟨by omega, h2, by omega, h4⟩
    · refine ⟨by show (rsF A i).1 + 1 ≤ i + 1; omega, ?_, ?_, ?_⟩
      · show (if _ then _ else _) ≤ 64
        split <;> omega
      · show (if _ then _ else _) ≤ i + 1
        split <;> omega
      · show max _ _ ≤ 64
        omega
theorem rsI_step {A : sA} (hA : sN A ≤ 6) {i : Nat} (hi : i < 2 ^ sN A) (h : rsI A i) : rsI A (i + 1) := by
  intro s hs hr
  have hl := rl_spec A i
  by_cases q : s = i
  · subst q
    rw [rsF]
    by_cases z : rl A s = 0
    · rw [if_pos z]
      cases hd : ldr A s (rg A s - 1) with
      | true => rw [hd, if_pos rfl] at hl; omega
      | false =>
        obtain ⟨a, b, c, e⟩ := rg_1 hr
        have : ∃ t, t < rg A s - 1 ∧ ¬ s < ny A (t + 1) s := by
          apply Classical.byContradiction
          intro hn
          have : ldr A s (rg A s - 1) = true := allb_iff.mpr (fun i hi => decide_eq_true (Classical.byContradiction (fun z => hn ⟨i, hi, z⟩)))
          rw [hd] at this
          cases this
        obtain ⟨t, h1, h2⟩ := this
        have h3 := e (t + 1) (by omega) (by omega)
        have h4 := rg_ny (t := t + 1) hr (by omega)
        have := h (ny A (t + 1) s) (by omega) (by rw [h4]; exact hr)
        rw [h4] at this
        exact this
    · rw [if_neg z]
      have e1 : rl A s = rg A s := by
        rw [hl] at z ⊢
        split at z
        · rename_i y; rw [if_pos y]
        · exact absurd rfl z
      rw [e1]
      refine ⟨?_, ?_, Nat.le_max_right _ _⟩
      · show ¬ (if _ then _ else _) = 0
        split <;> omega
      · show (if _ then _ else _) ≤ _
        split <;> omega
  · have := h s (by omega) hr
    rw [rsF]
    by_cases z : rl A i = 0
    · rw [if_pos z]; exact this
    · rw [if_neg z]
      refine ⟨?_, ?_, ?_⟩
      · show ¬ (if _ then _ else _) = 0
        split <;> omega
      · show (if _ then _ else _) ≤ _
        split <;> omega
      · show _ ≤ max _ _
        omega
section MG
variable {d : Nat} {S : sT} {w : mm_W} {W : MT} {A : sA}
theorem l2_ringOf (h : mok W.1 A) {x : Nat} (hx : x < 2 ^ sN A) : ∀ (k m : Nat), 2 ^ sN A - m = k → m ≤ 2 ^ sN A → rg A x = rgl A x k (m + 1) → mm_r (d + 4) mX8_ringOf (mm_q (some (.int (nI (rg A x)))) (wM W)) 4 [some (.ref 0), some (.int (nI x)), some (.int (nI (ny A m x))), some (.int (nI (m + 1)))] [] (wM W) := by
  intro k
  have p6 := p2_le h.n6
  induction k with
  | zero =>
    intro m hk hm hr
    refine r_iload_n (i := 3) 5 dX8_ringOf_4 rfl rfl rfl ?_
    refine r_aload_n (i := 0) 6 dX8_ringOf_5 rfl rfl rfl ?_
    refine r_callMi 9 dX8_ringOf_6 rfl ykX8_states lk_X8_134 (e2_states h) rfl rfl rfl rfl rfl rfl ⟨Nat.le_refl _, Nat.le_refl _⟩ ?_
    refine r_icmp_gt 31 12 dX8_ringOf_9 rfl rfl (fun h9 => ?_) (fun h9 => absurd (nI_lt (by omega) (by omega)) h9)
    refine r_iconst (v := 0) 32 dX8_ringOf_31 rfl rfl ?_
    exact r_reti dX8_ringOf_32 rfl (by first | rfl | exact bI_nar _) ⟨Nat.le_refl _, Nat.le_refl _⟩ (fun _ => rfl) (⟨by rw [hr]; rfl, rfl⟩)
  | succ k ih =>
    intro m hk hm hr
    have l1 := h.lt31 (ny_lt hx m)
    have l2 := h.lt31 (ny_lt hx (m + 1))
    have l3 := h.lt31 hx
    refine r_iload_n (i := 3) 5 dX8_ringOf_4 rfl rfl rfl ?_
    refine r_aload_n (i := 0) 6 dX8_ringOf_5 rfl rfl rfl ?_
    refine r_callMi 9 dX8_ringOf_6 rfl ykX8_states lk_X8_134 (e2_states h) rfl rfl rfl rfl rfl rfl ⟨Nat.le_refl _, Nat.le_refl _⟩ ?_
    refine r_icmp_gt 31 12 dX8_ringOf_9 rfl rfl (fun h9 => absurd (blt_of (by omega) (by omega) h9) (by omega)) (fun h9 => ?_)
    refine r_aload_n (i := 0) 13 dX8_ringOf_12 rfl rfl rfl ?_
    refine r_iload_n (i := 2) 14 dX8_ringOf_13 rfl rfl rfl ?_
    refine r_callMi 17 dX8_ringOf_14 rfl ykX8_nextOf lk_X8_147 (e2_nextOf h l1) rfl rfl rfl rfl rfl rfl ⟨Nat.le_refl _, Nat.le_refl _⟩ ?_
    refine r_istore_n (i := 2) 18 dX8_ringOf_17 rfl rfl rfl ?_
    refine r_iload_n (i := 2) 19 dX8_ringOf_18 rfl rfl rfl ?_
    refine r_iload_n (i := 1) 20 dX8_ringOf_19 rfl rfl rfl ?_
    refine r_icmp_ne 25 23 dX8_ringOf_20 rfl rfl (fun h20 => ?_) (fun h20 => ?_)
    · have g := bne_of l2 l3 h20
      refine r_iinc (i := 3) 28 dX8_ringOf_25 rfl rfl (by first | exact nI_1 _ | rfl) rfl ?_
      refine r_goto 4 dX8_ringOf_28 rfl ?_
      exact ih (m + 1) (by omega) (by omega) (by rw [hr, rgl, if_neg g])
    · have g := beq_of l2 l3 h20
      refine r_iload_n (i := 3) 24 dX8_ringOf_23 rfl rfl rfl ?_
      exact r_reti dX8_ringOf_24 rfl (by first | rfl | exact bI_nar _) ⟨Nat.le_refl _, Nat.le_refl _⟩ (fun _ => rfl) (⟨by rw [hr, rgl, if_pos g], rfl⟩)
theorem e2_ringOf (h : mok W.1 A) {x : Nat} (hx : x < 2 ^ sN A) : mm_e (d + 4) yX8_ringOf mX8_ringOf [.ref 0, .int (nI x)] (wM W) (mm_q (some (.int (nI (rg A x)))) (wM W)) := by
  refine e_of [some (.ref 0), some (.int (nI x)), none, none] rfl (by decide) rfl rfl rfl ?_
  refine r_iload_n (i := 1) 1 dX8_ringOf_0 rfl rfl rfl ?_
  refine r_istore_n (i := 2) 2 dX8_ringOf_1 rfl rfl rfl ?_
  refine r_iconst (v := 1) 3 dX8_ringOf_2 rfl rfl ?_
  refine r_istore_n (i := 3) 4 dX8_ringOf_3 rfl rfl rfl ?_
  exact l2_ringOf h hx _ 0 rfl (Nat.zero_le _) rfl
theorem l2_ringA (h : mok W.1 A) {x : Nat} (hx : x < 2 ^ sN A) {what : Int32} {Qf : Option Value → mm_W → Prop} (kk : mm_r (d + 5) mX8_ring Qf 44 [some (.ref 0), some (.int what), some (.int (nI (ny A (rgM A x) x))), some (.int (nI (rgM A x))), none, none, none] [] (wM W)) : ∀ (k m i : Nat), k + m = 64 → m ≤ i → i < m + k → ¬ rg A (ny A i x) = 0 → rgM A x = rgf A x k m → mm_r (d + 5) mX8_ring Qf 24 [some (.ref 0), some (.int what), some (.int (nI (ny A m x))), some (.int (nI m)), none, none, none] [] (wM W) := by
  intro k
  have p6 := p2_le h.n6
  induction k with
  | zero => intro m i hk h1 h2; omega
  | succ k ih =>
    intro m i hk h1 h2 h3 h4
    have l1 := ny_lt hx m
    have l2 := rg_le64 h.n6 (ny A m x)
    refine r_aload_n (i := 0) 25 dX8_ring_24 rfl rfl rfl ?_
    refine r_iload_n (i := 2) 26 dX8_ring_25 rfl rfl rfl ?_
    refine r_callMi 29 dX8_ring_26 rfl ykX8_ringOf lk_X8_196 (e2_ringOf h l1) rfl rfl rfl rfl rfl rfl ⟨Nat.le_refl _, Nat.le_refl _⟩ ?_
    refine r_if_ne 44 32 dX8_ring_29 rfl rfl (fun h29 => ?_) (fun h29 => ?_)
    · have g := bne_of (b := 0) (by omega) (by decide) h29
      rw [rgf, if_neg g] at h4
      rw [h4] at kk
      exact kk
    · have g := beq_of (b := 0) (by omega) (by decide) h29
      rw [rgf, if_pos g] at h4
      have g2 : ¬ m = i := (fun z => h3 (by rw [← z]; exact g))
      refine r_aload_n (i := 0) 33 dX8_ring_32 rfl rfl rfl ?_
      refine r_iload_n (i := 2) 34 dX8_ring_33 rfl rfl rfl ?_
      refine r_callMi 37 dX8_ring_34 rfl ykX8_nextOf lk_X8_147 (e2_nextOf h (by omega)) rfl rfl rfl rfl rfl rfl ⟨Nat.le_refl _, Nat.le_refl _⟩ ?_
      refine r_istore_n (i := 2) 38 dX8_ring_37 rfl rfl rfl ?_
      refine r_iinc (i := 3) 41 dX8_ring_38 rfl rfl (by first | exact nI_1 _ | rfl) rfl ?_
      refine r_goto 24 dX8_ring_41 rfl ?_
      exact ih (m + 1) i (by omega) (by omega) (by omega) h3 h4
theorem rgA_le (A : sA) {y : Nat} (hy : y < 64) : rgA A y 1 = y := by
  show 63 &&& y = y
  rw [Nat.and_comm, show (63 : Nat) = 2 ^ 6 - 1 from rfl, Nat.and_two_pow_sub_one_eq_mod, Nat.mod_eq_of_lt hy]
theorem rgS_le (A : sA) (y : Nat) : rgS A y 1 = y := by
  show 0 ||| y = y
  rw [Nat.zero_or]
theorem l2_ringB (h : mok W.1 A) {y m : Nat} (hy : y < 2 ^ sN A) (hr : ¬ rg A y = 0) {what : Int32} {Qf : Option Value → mm_W → Prop} (kk : mm_r (d + 5) mX8_ring Qf 93 [some (.ref 0), some (.int what), some (.int (nI y)), some (.int (nI m)), some (.int (nI (rgA A y (rg A y)))), some (.int (nI (rgS A y (rg A y)))), some (.int (nI (rg A y)))] [] (wM W)) : ∀ (k t : Nat), rg A y - t = k → t ≤ rg A y → mm_r (d + 5) mX8_ring Qf 53 [some (.ref 0), some (.int what), some (.int (nI y)), some (.int (nI m)), some (.int (nI (rgA A y t))), some (.int (nI (rgS A y t))), some (.int (nI t))] [] (wM W) := by
  intro k
  have p6 := p2_le h.n6
  have l2 := rg_le64 h.n6 y
  induction k with
  | zero =>
    intro t hk ht
    have e : t = rg A y := by omega
    rw [e]
    refine r_iload (i := 6) 55 dX8_ring_53 rfl rfl ?_
    refine r_aload_n (i := 0) 56 dX8_ring_55 rfl rfl rfl ?_
    refine r_iload_n (i := 2) 57 dX8_ring_56 rfl rfl rfl ?_
    refine r_callMi 60 dX8_ring_57 rfl ykX8_ringOf lk_X8_196 (e2_ringOf h hy) rfl rfl rfl rfl rfl rfl ⟨Nat.le_refl _, Nat.le_refl _⟩ ?_
    refine r_icmp_ge 93 63 dX8_ring_60 rfl rfl (fun h60 => ?_) (fun h60 => absurd (Int32.le_refl _) h60)
    exact kk
  | succ k ih =>
    intro t hk ht
    refine r_iload (i := 6) 55 dX8_ring_53 rfl rfl ?_
    refine r_aload_n (i := 0) 56 dX8_ring_55 rfl rfl rfl ?_
    refine r_iload_n (i := 2) 57 dX8_ring_56 rfl rfl rfl ?_
    refine r_callMi 60 dX8_ring_57 rfl ykX8_ringOf lk_X8_196 (e2_ringOf h hy) rfl rfl rfl rfl rfl rfl ⟨Nat.le_refl _, Nat.le_refl _⟩ ?_
    refine r_icmp_ge 93 63 dX8_ring_60 rfl rfl (fun h60 => absurd (ble_of (by omega) (by omega) h60) (by omega)) (fun h60 => ?_)
    refine r_iload (i := 4) 65 dX8_ring_63 rfl rfl ?_
    refine r_aload_n (i := 0) 66 dX8_ring_65 rfl rfl rfl ?_
    refine r_iload_n (i := 2) 67 dX8_ring_66 rfl rfl rfl ?_
    refine r_iload (i := 6) 69 dX8_ring_67 rfl rfl ?_
    refine r_callMi 72 dX8_ring_69 rfl ykX8_afterYears lk_X8_188 (e2_afterYears h hy (by omega)) rfl rfl rfl rfl rfl rfl ⟨Nat.le_refl _, Nat.le_refl _⟩ ?_
    refine r_iand 73 dX8_ring_72 rfl ?_
    rw [fa_and]
    refine r_istore (i := 4) 75 dX8_ring_73 rfl rfl ?_
    refine r_iload (i := 5) 77 dX8_ring_75 rfl rfl ?_
    refine r_aload_n (i := 0) 78 dX8_ring_77 rfl rfl rfl ?_
    refine r_iload_n (i := 2) 79 dX8_ring_78 rfl rfl rfl ?_
    refine r_iload (i := 6) 81 dX8_ring_79 rfl rfl ?_
    refine r_callMi 84 dX8_ring_81 rfl ykX8_afterYears lk_X8_188 (e2_afterYears h hy (by omega)) rfl rfl rfl rfl rfl rfl ⟨Nat.le_refl _, Nat.le_refl _⟩ ?_
    refine r_ior 85 dX8_ring_84 rfl ?_
    rw [fa_or]
    refine r_istore (i := 5) 87 dX8_ring_85 rfl rfl ?_
    refine r_iinc (i := 6) 90 dX8_ring_87 rfl rfl (by first | exact nI_1 _ | rfl) rfl ?_
    refine r_goto 53 dX8_ring_90 rfl ?_
    exact ih (t + 1) (by omega) (by omega)
theorem q_ring (hT : tOk S) (hC : CM S w) (what : Int32) : mm_e (d + 5) yX8_ring mX8_ring [.ref 0, .int what] w (QM (s_ring S what) S) := by
  have hC0 := hC
  obtain ⟨W, rfl, hR⟩ := hC
  obtain ⟨hM, ⟨hx, hy⟩, ⟨ht, hb⟩, hf, ⟨v1, v2⟩, ⟨hk0, hk1⟩, hI, hH, hn⟩ := id hR
  have h6 := hM.n6
  have h4 := hM.g4
  have h5 := hM.b4
  have p6 := p2_le hM.n6
  have l0 := hM.lt31 hT.2.1
  have i18 : vp_in (18 : Int32) 148 := vp_in_nI (n := 18) (by decide) (by decide)
  have i35 : vp_in (35 : Int32) 148 := vp_in_nI (n := 35) (by decide) (by decide)
  have i36 : vp_in (36 : Int32) 148 := vp_in_nI (n := 36) (by decide) (by decide)
  have ex : W.1.1 (18 : Int32).toNatClampNeg = nI (tX S) := hx
  have ey : W.1.1 (36 : Int32).toNatClampNeg = nI (tY S) := hy
  have eb : W.1.1 (35 : Int32).toNatClampNeg = nI (sB (tA S)) := hM.bn
  refine e_of [some (.ref 0), some (.int what), none, none, none, none, none] rfl (by decide) rfl rfl rfl ?_
  rw [s_ring]
  cases g : inb 4 what with
  | false =>
    refine r_iload_n (i := 1) 1 dX8_ring_0 rfl rfl rfl ?_
    refine r_i2l 2 dX8_ring_1 rfl ?_
    refine r_lconst (v := 0) 3 dX8_ring_2 rfl rfl ?_
    refine r_ldc2 6 dX8_ring_3 rfl k_X8_194 ?_
    refine r_callSi [] 9 dX8_ring_6 rfl ykX8_in lk_X8_46 (e_in0 what (n := 4) (by decide) (by decide)) rfl rfl rfl ⟨Nat.le_refl _, Nat.le_refl _⟩ ?_
    rw [show inb (nI 4) what = false from g]
    refine r_if_ne 14 12 dX8_ring_9 rfl rfl (fun h9 => absurd rfl h9) (fun h9 => ?_)
    refine r_iconst (v := (-1)) 13 dX8_ring_12 rfl rfl ?_
    exact r_reti dX8_ring_13 rfl (by first | rfl | exact bI_nar _) ⟨Nat.le_refl _, Nat.le_refl _⟩ (fun _ => rfl) (⟨rfl, hC0⟩)
  | true =>
    rw [if_pos rfl]
    obtain ⟨i, hi, hr⟩ := rg_ex h6 hT.2.1
    have fo := (rgf_ok 64 0 i (Nat.zero_le _) (by omega) hr).1
    have hr : ¬ rg (tA S) (ny (tA S) (rgM (tA S) (tX S)) (tX S)) = 0 := fo
    have hy0 := ny_lt hT.2.1 (rgM (tA S) (tX S))
    have rA := rgA_le (tA S) (y := ny (tA S) (rgM (tA S) (tX S)) (tX S)) (by omega)
    have rS := rgS_le (tA S) (ny (tA S) (rgM (tA S) (tX S)) (tX S))
    have r1 := (rg_1 hr).1
    refine r_iload_n (i := 1) 1 dX8_ring_0 rfl rfl rfl ?_
    refine r_i2l 2 dX8_ring_1 rfl ?_
    refine r_lconst (v := 0) 3 dX8_ring_2 rfl rfl ?_
    refine r_ldc2 6 dX8_ring_3 rfl k_X8_194 ?_
    refine r_callSi [] 9 dX8_ring_6 rfl ykX8_in lk_X8_46 (e_in0 what (n := 4) (by decide) (by decide)) rfl rfl rfl ⟨Nat.le_refl _, Nat.le_refl _⟩ ?_
    rw [show inb (nI 4) what = true from g]
    refine r_if_ne 14 12 dX8_ring_9 rfl rfl (fun h9 => ?_) (fun h9 => absurd h9 (by decide))
    refine r_aload_n (i := 0) 15 dX8_ring_14 rfl rfl rfl ?_
    refine r_getf 18 dX8_ring_15 rfl fl_X8_7 rfl rfl ?_
    refine r_bipush (v := 18) 20 dX8_ring_18 rfl rfl ?_
    refine r_iald 21 dX8_ring_20 rfl rfl (by assumption) ?_
    rw [ex]
    refine r_istore_n (i := 2) 22 dX8_ring_21 rfl rfl rfl ?_
    refine r_iconst (v := 0) 23 dX8_ring_22 rfl rfl ?_
    refine r_istore_n (i := 3) 24 dX8_ring_23 rfl rfl rfl ?_
    refine l2_ringA hM hT.2.1 ?_ 64 0 i rfl (Nat.zero_le _) (by omega) ‹_› rfl
    refine r_iload_n (i := 2) 45 dX8_ring_44 rfl rfl rfl ?_
    refine r_istore (i := 4) 47 dX8_ring_45 rfl rfl ?_
    refine r_iload_n (i := 2) 48 dX8_ring_47 rfl rfl rfl ?_
    refine r_istore (i := 5) 50 dX8_ring_48 rfl rfl ?_
    refine r_iconst (v := 1) 51 dX8_ring_50 rfl rfl ?_
    refine r_istore (i := 6) 53 dX8_ring_51 rfl rfl ?_
    refine r_eq (l2_ringB (m := rgM (tA S) (tX S)) hM hy0 hr ?_ _ 1 rfl r1) (by rw [rA, rS]; rfl) rfl rfl
    rw [if_neg hr]
    refine r_iload_n (i := 1) 94 dX8_ring_93 rfl rfl rfl ?_
    refine r_if_ne 101 97 dX8_ring_94 rfl rfl (fun h94 => ?_) (fun h94 => ?_)
    · refine r_iload_n (i := 1) 102 dX8_ring_101 rfl rfl rfl ?_
      refine r_iconst (v := 1) 103 dX8_ring_102 rfl rfl ?_
      refine r_icmp_ne 114 106 dX8_ring_103 rfl rfl (fun h103 => ?_) (fun h103 => ?_)
      · refine r_iload_n (i := 1) 115 dX8_ring_114 rfl rfl rfl ?_
        refine r_iconst (v := 2) 116 dX8_ring_115 rfl rfl ?_
        refine r_icmp_ne 124 119 dX8_ring_116 rfl rfl (fun h116 => ?_) (fun h116 => ?_)
        · refine r_iload (i := 5) 126 dX8_ring_124 rfl rfl ?_
          exact r_reti dX8_ring_126 rfl (by first | rfl | exact bI_nar _) ⟨Nat.le_refl _, Nat.le_refl _⟩ (fun _ => rfl) (⟨by simp_all, hC0⟩)
        · refine r_iload (i := 4) 121 dX8_ring_119 rfl rfl ?_
          refine r_goto 126 dX8_ring_121 rfl ?_
          exact r_reti dX8_ring_126 rfl (by first | rfl | exact bI_nar _) ⟨Nat.le_refl _, Nat.le_refl _⟩ (fun _ => rfl) (⟨by simp_all, hC0⟩)
      · refine r_aload_n (i := 0) 107 dX8_ring_106 rfl rfl rfl ?_
        refine r_iload_n (i := 2) 108 dX8_ring_107 rfl rfl rfl ?_
        refine r_callMi 111 dX8_ring_108 rfl ykX8_ringOf lk_X8_196 (e2_ringOf hM hy0) rfl rfl rfl rfl rfl rfl ⟨Nat.le_refl _, Nat.le_refl _⟩ ?_
        refine r_goto 126 dX8_ring_111 rfl ?_
        exact r_reti dX8_ring_126 rfl (by first | rfl | exact bI_nar _) ⟨Nat.le_refl _, Nat.le_refl _⟩ (fun _ => rfl) (⟨by simp_all, hC0⟩)
    · refine r_iload_n (i := 3) 98 dX8_ring_97 rfl rfl rfl ?_
      refine r_goto 126 dX8_ring_98 rfl ?_
      exact r_reti dX8_ring_126 rfl (by first | rfl | exact bI_nar _) ⟨Nat.le_refl _, Nat.le_refl _⟩ (fun _ => rfl) (⟨by simp_all, hC0⟩)
def shF (n : Nat) : Nat := if n = 0 then 1000000 else n
theorem l2_rings0 (h : mok W.1 A) {s n : Nat} (hs : s < 2 ^ sN A) (hn : n ≤ 64) (h1 : 1 ≤ n) {what a b c e : Int32} {Qf : Option Value → mm_W → Prop} (kk : mm_r (d + 5) mX8_rings Qf 98 [some (.ref 0), some (.int what), some (.int a), some (.int b), some (.int c), some (.int e), some (.int (nI s)), some (.int (nI n)), some (.int (bI (ldr A s (n - 1)))), some (.int (nI n))] [] (wM W)) : ∀ (k t : Nat), n - 1 - t = k → t ≤ n - 1 → mm_r (d + 5) mX8_rings Qf 60 [some (.ref 0), some (.int what), some (.int a), some (.int b), some (.int c), some (.int e), some (.int (nI s)), some (.int (nI n)), some (.int (bI (ldr A s t))), some (.int (nI (t + 1)))] [] (wM W) := by
  intro k
  have p6 := p2_le h.n6
  induction k with
  | zero =>
    intro t hk ht
    have e : t = n - 1 := by omega
    have e2 : t + 1 = n := by omega
    refine r_iload (i := 9) 62 dX8_rings_60 rfl rfl ?_
    refine r_iload (i := 7) 64 dX8_rings_62 rfl rfl ?_
    rw [e2]
    refine r_icmp_ge 98 67 dX8_rings_64 rfl rfl (fun h64 => ?_) (fun h64 => absurd (Int32.le_refl _) h64)
    rw [e]
    exact kk
  | succ k ih =>
    intro t hk ht
    have l1 := ny_lt (A := A) hs (t + 1)
    refine r_iload (i := 9) 62 dX8_rings_60 rfl rfl ?_
    refine r_iload (i := 7) 64 dX8_rings_62 rfl rfl ?_
    refine r_icmp_ge 98 67 dX8_rings_64 rfl rfl (fun h64 => absurd (ble_of (by omega) (by omega) h64) (by omega)) (fun h64 => ?_)
    refine r_iload (i := 8) 69 dX8_rings_67 rfl rfl ?_
    refine r_if_eq 89 72 dX8_rings_69 rfl rfl (fun h69 => ?_) (fun h69 => ?_)
    · have g := bI_eq0 h69
      refine r_iconst (v := 0) 90 dX8_rings_89 rfl rfl ?_
      refine r_istore (i := 8) 92 dX8_rings_90 rfl rfl ?_
      refine r_iinc (i := 9) 95 dX8_rings_92 rfl rfl (by first | exact nI_1 _ | rfl) rfl ?_
      refine r_goto 60 dX8_rings_95 rfl ?_
      refine r_eq (ih (t + 1) (by omega) (by omega)) ?_ rfl rfl
      first | (rw [ldr_succ, g, decide_eq_true g2]; rfl) | (rw [ldr_succ, g, decide_eq_false (by omega)]; rfl) | (rw [ldr_succ, g]; rfl)
    · have g := bI_ne0 h69
      refine r_aload_n (i := 0) 73 dX8_rings_72 rfl rfl rfl ?_
      refine r_iload (i := 6) 75 dX8_rings_73 rfl rfl ?_
      refine r_iload (i := 9) 77 dX8_rings_75 rfl rfl ?_
      refine r_callMi 80 dX8_rings_77 rfl ykX8_afterYears lk_X8_188 (e2_afterYears h hs (by omega)) rfl rfl rfl rfl rfl rfl ⟨Nat.le_refl _, Nat.le_refl _⟩ ?_
      refine r_iload (i := 6) 82 dX8_rings_80 rfl rfl ?_
      refine r_icmp_le 89 85 dX8_rings_82 rfl rfl (fun h82 => ?_) (fun h82 => ?_)
      · have g2 := ble_of (by omega) (by omega) h82
        refine r_iconst (v := 0) 90 dX8_rings_89 rfl rfl ?_
        refine r_istore (i := 8) 92 dX8_rings_90 rfl rfl ?_
        refine r_iinc (i := 9) 95 dX8_rings_92 rfl rfl (by first | exact nI_1 _ | rfl) rfl ?_
        refine r_goto 60 dX8_rings_95 rfl ?_
        refine r_eq (ih (t + 1) (by omega) (by omega)) ?_ rfl rfl
        first | (rw [ldr_succ, g, decide_eq_true g2]; rfl) | (rw [ldr_succ, g, decide_eq_false (by omega)]; rfl) | (rw [ldr_succ, g]; rfl)
      · have g2 := bnle_of (by omega) (by omega) h82
        refine r_iconst (v := 1) 86 dX8_rings_85 rfl rfl ?_
        refine r_goto 90 dX8_rings_86 rfl ?_
        refine r_istore (i := 8) 92 dX8_rings_90 rfl rfl ?_
        refine r_iinc (i := 9) 95 dX8_rings_92 rfl rfl (by first | exact nI_1 _ | rfl) rfl ?_
        refine r_goto 60 dX8_rings_95 rfl ?_
        refine r_eq (ih (t + 1) (by omega) (by omega)) ?_ rfl rfl
        first | (rw [ldr_succ, g, decide_eq_true g2]; rfl) | (rw [ldr_succ, g, decide_eq_false (by omega)]; rfl) | (rw [ldr_succ, g]; rfl)
theorem l2_rings (h : mok W.1 A) {what : Int32} {Qf : Option Value → mm_W → Prop} (kk : ∀ o7 o8 o9, mm_r (d + 5) mX8_rings Qf 171 [some (.ref 0), some (.int what), some (.int (nI (rsF A (2 ^ sN A)).1)), some (.int (nI (shF (rsF A (2 ^ sN A)).2.1))), some (.int (nI (rsF A (2 ^ sN A)).2.2.1)), some (.int (nI (rsF A (2 ^ sN A)).2.2.2)), some (.int (nI (2 ^ sN A))), o7, o8, o9] [] (wM W)) : ∀ (k i : Nat) (o7 o8 o9 : Option Value), 2 ^ sN A - i = k → i ≤ 2 ^ sN A → rsI A i → mm_r (d + 5) mX8_rings Qf 28 [some (.ref 0), some (.int what), some (.int (nI (rsF A i).1)), some (.int (nI (shF (rsF A i).2.1))), some (.int (nI (rsF A i).2.2.1)), some (.int (nI (rsF A i).2.2.2)), some (.int (nI i)), o7, o8, o9] [] (wM W) := by
  intro k
  have p6 := p2_le h.n6
  induction k with
  | zero =>
    intro i o7 o8 o9 hk hi hI
    have e : i = 2 ^ sN A := by omega
    subst e
    refine r_iload (i := 6) 30 dX8_rings_28 rfl rfl ?_
    refine r_aload_n (i := 0) 31 dX8_rings_30 rfl rfl rfl ?_
    refine r_callMi 34 dX8_rings_31 rfl ykX8_states lk_X8_134 (e2_states h) rfl rfl rfl rfl rfl rfl ⟨Nat.le_refl _, Nat.le_refl _⟩ ?_
    refine r_icmp_ge 171 37 dX8_rings_34 rfl rfl (fun h34 => ?_) (fun h34 => absurd (Int32.le_refl _) h34)
    exact kk _ _ _
  | succ k ih =>
    intro i o7 o8 o9 hk hi hI
    have hi2 : i < 2 ^ sN A := by omega
    obtain ⟨b1, b2, b3, b4⟩ := rsF_b h.n6 i
    have l2 := rg_le64 h.n6 i
    have hst := rsI_step h.n6 hi2 hI
    have hl := rl_spec A i
    have sl : shF (rsF A i).2.1 < 2 ^ 31 := by unfold shF; split <;> omega
    have nx1 : nI i + 1 = nI (i + 1) := nI_1 i
    by_cases q : rg A i = 0
    · have e0 : rsF A (i + 1) = rsF A i := by
        rw [rsF, if_pos]
        rw [hl, q]
        split <;> rfl
      have ih2 := ih (i + 1) (some (.int (nI 0))) (some (.int 0)) (some (.int 1)) (by omega) (by omega) hst
      rw [e0] at ih2
      refine r_iload (i := 6) 30 dX8_rings_28 rfl rfl ?_
      refine r_aload_n (i := 0) 31 dX8_rings_30 rfl rfl rfl ?_
      refine r_callMi 34 dX8_rings_31 rfl ykX8_states lk_X8_134 (e2_states h) rfl rfl rfl rfl rfl rfl ⟨Nat.le_refl _, Nat.le_refl _⟩ ?_
      refine r_icmp_ge 171 37 dX8_rings_34 rfl rfl (fun h34 => absurd (ble_of (by omega) (by omega) h34) (by omega)) (fun h34 => ?_)
      refine r_aload_n (i := 0) 38 dX8_rings_37 rfl rfl rfl ?_
      refine r_iload (i := 6) 40 dX8_rings_38 rfl rfl ?_
      refine r_callMi 43 dX8_rings_40 rfl ykX8_ringOf lk_X8_196 (e2_ringOf h hi2) rfl rfl rfl rfl rfl rfl ⟨Nat.le_refl _, Nat.le_refl _⟩ ?_
      rw [q]
      refine r_istore (i := 7) 45 dX8_rings_43 rfl rfl ?_
      refine r_iload (i := 7) 47 dX8_rings_45 rfl rfl ?_
      refine r_if_le 54 50 dX8_rings_47 rfl rfl (fun h47 => ?_) (fun h47 => absurd (show nI 0 ≤ 0 from by decide) h47)
      refine r_iconst (v := 0) 55 dX8_rings_54 rfl rfl ?_
      refine r_istore (i := 8) 57 dX8_rings_55 rfl rfl ?_
      refine r_iconst (v := 1) 58 dX8_rings_57 rfl rfl ?_
      refine r_istore (i := 9) 60 dX8_rings_58 rfl rfl ?_
      refine r_iload (i := 9) 62 dX8_rings_60 rfl rfl ?_
      refine r_iload (i := 7) 64 dX8_rings_62 rfl rfl ?_
      refine r_icmp_ge 98 67 dX8_rings_64 rfl rfl (fun h64 => ?_) (fun h64 => absurd (show nI 0 ≤ 1 from by decide) h64)
      refine r_iload_n (i := 2) 99 dX8_rings_98 rfl rfl rfl ?_
      refine r_iload (i := 8) 101 dX8_rings_99 rfl rfl ?_
      refine r_if_eq 108 104 dX8_rings_101 rfl rfl (fun h101 => ?_) (fun h101 => absurd rfl h101)
      refine r_iconst (v := 0) 109 dX8_rings_108 rfl rfl ?_
      refine r_iadd 110 dX8_rings_109 rfl ?_
      rw [Int32.add_zero]
      refine r_istore_n (i := 2) 111 dX8_rings_110 rfl rfl rfl ?_
      refine r_iload (i := 7) 113 dX8_rings_111 rfl rfl ?_
      refine r_if_le 127 116 dX8_rings_113 rfl rfl (fun h113 => ?_) (fun h113 => absurd (show nI 0 ≤ 0 from by decide) h113)
      refine r_iload (i := 4) 129 dX8_rings_127 rfl rfl ?_
      refine r_istore (i := 4) 131 dX8_rings_129 rfl rfl ?_
      refine r_iload (i := 7) 133 dX8_rings_131 rfl rfl ?_
      refine r_if_le 147 136 dX8_rings_133 rfl rfl (fun h133 => ?_) (fun h133 => absurd (show nI 0 ≤ 0 from by decide) h133)
      refine r_iload_n (i := 3) 148 dX8_rings_147 rfl rfl rfl ?_
      refine r_istore_n (i := 3) 149 dX8_rings_148 rfl rfl rfl ?_
      refine r_iload (i := 7) 151 dX8_rings_149 rfl rfl ?_
      refine r_iload (i := 5) 153 dX8_rings_151 rfl rfl ?_
      refine r_icmp_le 161 156 dX8_rings_153 rfl rfl (fun h153 => ?_) (fun h153 => absurd (show nI 0 ≤ nI (rsF A i).2.2.2 from nI_le (Nat.zero_le _) (by omega)) h153)
      refine r_iload (i := 5) 163 dX8_rings_161 rfl rfl ?_
      refine r_istore (i := 5) 165 dX8_rings_163 rfl rfl ?_
      refine r_iinc (i := 6) 168 dX8_rings_165 rfl rfl (by first | exact nI_1 _ | rfl) rfl ?_
      refine r_goto 28 dX8_rings_168 rfl ?_
      exact ih2
    · have r1 := (rg_1 q).1
      have pos : ¬ nI (rg A i) ≤ 0 := nI_nle r1 (by omega)
      have fin : mm_r (d + 5) mX8_rings Qf 98 [some (.ref 0), some (.int what), some (.int (nI (rsF A i).1)), some (.int (nI (shF (rsF A i).2.1))), some (.int (nI (rsF A i).2.2.1)), some (.int (nI (rsF A i).2.2.2)), some (.int (nI i)), some (.int (nI (rg A i))), some (.int (bI (ldr A i (rg A i - 1)))), some (.int (nI (rg A i)))] [] (wM W) := by
        have ih2 := ih (i + 1) (some (.int (nI (rg A i)))) (some (.int (bI (ldr A i (rg A i - 1))))) (some (.int (nI (rg A i)))) (by omega) (by omega) hst
        cases hd : ldr A i (rg A i - 1) with
        | false =>
          rw [hd, if_neg (by decide)] at hl
          have e0 : rsF A (i + 1) = rsF A i := by rw [rsF, if_pos hl]
          have hz := hst i (by omega) q
          rw [e0] at hz ih2
          rw [hd] at ih2
          have es : shF (rsF A i).2.1 = (rsF A i).2.1 := if_neg hz.1
          rw [es] at ih2 ⊢
          refine r_iload_n (i := 2) 99 dX8_rings_98 rfl rfl rfl ?_
          refine r_iload (i := 8) 101 dX8_rings_99 rfl rfl ?_
          refine r_if_eq 108 104 dX8_rings_101 rfl rfl (fun h101 => ?_) (fun h101 => absurd rfl h101)
          refine r_iconst (v := 0) 109 dX8_rings_108 rfl rfl ?_
          refine r_iadd 110 dX8_rings_109 rfl ?_
          rw [Int32.add_zero]
          refine r_istore_n (i := 2) 111 dX8_rings_110 rfl rfl rfl ?_
          refine r_iload (i := 7) 113 dX8_rings_111 rfl rfl ?_
          refine r_if_le 127 116 dX8_rings_113 rfl rfl (fun h113 => absurd h113 pos) (fun h113 => ?_)
          refine r_iload (i := 7) 118 dX8_rings_116 rfl rfl ?_
          refine r_iload_n (i := 3) 119 dX8_rings_118 rfl rfl rfl ?_
          refine r_icmp_ge 127 122 dX8_rings_119 rfl rfl (fun h119 => ?_) (fun h119 => absurd (nI_le hz.2.1 (by omega)) h119)
          refine r_iload (i := 4) 129 dX8_rings_127 rfl rfl ?_
          refine r_istore (i := 4) 131 dX8_rings_129 rfl rfl ?_
          refine r_iload (i := 7) 133 dX8_rings_131 rfl rfl ?_
          refine r_if_le 147 136 dX8_rings_133 rfl rfl (fun h133 => absurd h133 pos) (fun h133 => ?_)
          refine r_iload (i := 7) 138 dX8_rings_136 rfl rfl ?_
          refine r_iload_n (i := 3) 139 dX8_rings_138 rfl rfl rfl ?_
          refine r_icmp_ge 147 142 dX8_rings_139 rfl rfl (fun h139 => ?_) (fun h139 => absurd (nI_le hz.2.1 (by omega)) h139)
          refine r_iload_n (i := 3) 148 dX8_rings_147 rfl rfl rfl ?_
          refine r_istore_n (i := 3) 149 dX8_rings_148 rfl rfl rfl ?_
          refine r_iload (i := 7) 151 dX8_rings_149 rfl rfl ?_
          refine r_iload (i := 5) 153 dX8_rings_151 rfl rfl ?_
          refine r_icmp_le 161 156 dX8_rings_153 rfl rfl (fun h153 => ?_) (fun h153 => absurd (nI_le hz.2.2 (by omega)) h153)
          refine r_iload (i := 5) 163 dX8_rings_161 rfl rfl ?_
          refine r_istore (i := 5) 165 dX8_rings_163 rfl rfl ?_
          refine r_iinc (i := 6) 168 dX8_rings_165 rfl rfl (by first | exact nI_1 _ | rfl) rfl ?_
          refine r_goto 28 dX8_rings_168 rfl ?_
          exact ih2
        | true =>
          rw [hd, if_pos rfl] at hl
          have e0 : rsF A (i + 1) = ((rsF A i).1 + 1, (if (rsF A i).2.1 = 0 ∨ rg A i < (rsF A i).2.1 then rg A i else (rsF A i).2.1), (if (rsF A i).2.1 = 0 ∨ rg A i < (rsF A i).2.1 then i else (rsF A i).2.2.1), max (rsF A i).2.2.2 (rg A i)) := by rw [rsF, hl, if_neg q]
          rw [e0, hd] at ih2
          have m1 : (rsF A i).2.2.2 < rg A i → max (rsF A i).2.2.2 (rg A i) = rg A i := fun z => Nat.max_eq_right (by omega)
          have m2 : rg A i ≤ (rsF A i).2.2.2 → max (rsF A i).2.2.2 (rg A i) = (rsF A i).2.2.2 := fun z => Nat.max_eq_left z
          by_cases c : (rsF A i).2.1 = 0 ∨ rg A i < (rsF A i).2.1
          · have c2 : rg A i < shF (rsF A i).2.1 := by
              unfold shF
              split <;> omega
            have es : shF (rg A i) = rg A i := if_neg q
            simp only [if_pos c, es] at ih2
            refine r_iload_n (i := 2) 99 dX8_rings_98 rfl rfl rfl ?_
            refine r_iload (i := 8) 101 dX8_rings_99 rfl rfl ?_
            refine r_if_eq 108 104 dX8_rings_101 rfl rfl (fun h101 => absurd h101 (by decide)) (fun h101 => ?_)
            refine r_iconst (v := 1) 105 dX8_rings_104 rfl rfl ?_
            refine r_goto 109 dX8_rings_105 rfl ?_
            refine r_iadd 110 dX8_rings_109 rfl ?_
            rw [nI_1]
            refine r_istore_n (i := 2) 111 dX8_rings_110 rfl rfl rfl ?_
            refine r_iload (i := 7) 113 dX8_rings_111 rfl rfl ?_
            refine r_if_le 127 116 dX8_rings_113 rfl rfl (fun h113 => absurd h113 pos) (fun h113 => ?_)
            refine r_iload (i := 7) 118 dX8_rings_116 rfl rfl ?_
            refine r_iload_n (i := 3) 119 dX8_rings_118 rfl rfl rfl ?_
            refine r_icmp_ge 127 122 dX8_rings_119 rfl rfl (fun h119 => absurd (ble_of (by omega) (by omega) h119) (by omega)) (fun h119 => ?_)
            refine r_iload (i := 6) 124 dX8_rings_122 rfl rfl ?_
            refine r_goto 129 dX8_rings_124 rfl ?_
            refine r_istore (i := 4) 131 dX8_rings_129 rfl rfl ?_
            refine r_iload (i := 7) 133 dX8_rings_131 rfl rfl ?_
            refine r_if_le 147 136 dX8_rings_133 rfl rfl (fun h133 => absurd h133 pos) (fun h133 => ?_)
            refine r_iload (i := 7) 138 dX8_rings_136 rfl rfl ?_
            refine r_iload_n (i := 3) 139 dX8_rings_138 rfl rfl rfl ?_
            refine r_icmp_ge 147 142 dX8_rings_139 rfl rfl (fun h139 => absurd (ble_of (by omega) (by omega) h139) (by omega)) (fun h139 => ?_)
            refine r_iload (i := 7) 144 dX8_rings_142 rfl rfl ?_
            refine r_goto 148 dX8_rings_144 rfl ?_
            refine r_istore_n (i := 3) 149 dX8_rings_148 rfl rfl rfl ?_
            refine r_iload (i := 7) 151 dX8_rings_149 rfl rfl ?_
            refine r_iload (i := 5) 153 dX8_rings_151 rfl rfl ?_
            refine r_icmp_le 161 156 dX8_rings_153 rfl rfl (fun h153 => ?_) (fun h153 => ?_)
            · have z := ble_of (by omega) (by omega) h153
              rw [m2 z] at ih2
              refine r_iload (i := 5) 163 dX8_rings_161 rfl rfl ?_
              refine r_istore (i := 5) 165 dX8_rings_163 rfl rfl ?_
              refine r_iinc (i := 6) 168 dX8_rings_165 rfl rfl (by first | exact nI_1 _ | rfl) rfl ?_
              refine r_goto 28 dX8_rings_168 rfl ?_
              exact ih2
            · have z := bnle_of (by omega) (by omega) h153
              rw [m1 z] at ih2
              refine r_iload (i := 7) 158 dX8_rings_156 rfl rfl ?_
              refine r_goto 163 dX8_rings_158 rfl ?_
              refine r_istore (i := 5) 165 dX8_rings_163 rfl rfl ?_
              refine r_iinc (i := 6) 168 dX8_rings_165 rfl rfl (by first | exact nI_1 _ | rfl) rfl ?_
              refine r_goto 28 dX8_rings_168 rfl ?_
              exact ih2
          · have c2 : shF (rsF A i).2.1 ≤ rg A i := by
              unfold shF
              split <;> omega
            simp only [if_neg c] at ih2
            refine r_iload_n (i := 2) 99 dX8_rings_98 rfl rfl rfl ?_
            refine r_iload (i := 8) 101 dX8_rings_99 rfl rfl ?_
            refine r_if_eq 108 104 dX8_rings_101 rfl rfl (fun h101 => absurd h101 (by decide)) (fun h101 => ?_)
            refine r_iconst (v := 1) 105 dX8_rings_104 rfl rfl ?_
            refine r_goto 109 dX8_rings_105 rfl ?_
            refine r_iadd 110 dX8_rings_109 rfl ?_
            rw [nI_1]
            refine r_istore_n (i := 2) 111 dX8_rings_110 rfl rfl rfl ?_
            refine r_iload (i := 7) 113 dX8_rings_111 rfl rfl ?_
            refine r_if_le 127 116 dX8_rings_113 rfl rfl (fun h113 => absurd h113 pos) (fun h113 => ?_)
            refine r_iload (i := 7) 118 dX8_rings_116 rfl rfl ?_
            refine r_iload_n (i := 3) 119 dX8_rings_118 rfl rfl rfl ?_
            refine r_icmp_ge 127 122 dX8_rings_119 rfl rfl (fun h119 => ?_) (fun h119 => absurd (nI_le c2 (by omega)) h119)
            refine r_iload (i := 4) 129 dX8_rings_127 rfl rfl ?_
            refine r_istore (i := 4) 131 dX8_rings_129 rfl rfl ?_
            refine r_iload (i := 7) 133 dX8_rings_131 rfl rfl ?_
            refine r_if_le 147 136 dX8_rings_133 rfl rfl (fun h133 => absurd h133 pos) (fun h133 => ?_)
            refine r_iload (i := 7) 138 dX8_rings_136 rfl rfl ?_
            refine r_iload_n (i := 3) 139 dX8_rings_138 rfl rfl rfl ?_
            refine r_icmp_ge 147 142 dX8_rings_139 rfl rfl (fun h139 => ?_) (fun h139 => absurd (nI_le c2 (by omega)) h139)
            refine r_iload_n (i := 3) 148 dX8_rings_147 rfl rfl rfl ?_
            refine r_istore_n (i := 3) 149 dX8_rings_148 rfl rfl rfl ?_
            refine r_iload (i := 7) 151 dX8_rings_149 rfl rfl ?_
            refine r_iload (i := 5) 153 dX8_rings_151 rfl rfl ?_
            refine r_icmp_le 161 156 dX8_rings_153 rfl rfl (fun h153 => ?_) (fun h153 => ?_)
            · have z := ble_of (by omega) (by omega) h153
              rw [m2 z] at ih2
              refine r_iload (i := 5) 163 dX8_rings_161 rfl rfl ?_
              refine r_istore (i := 5) 165 dX8_rings_163 rfl rfl ?_
              refine r_iinc (i := 6) 168 dX8_rings_165 rfl rfl (by first | exact nI_1 _ | rfl) rfl ?_
              refine r_goto 28 dX8_rings_168 rfl ?_
              exact ih2
            · have z := bnle_of (by omega) (by omega) h153
              rw [m1 z] at ih2
              refine r_iload (i := 7) 158 dX8_rings_156 rfl rfl ?_
              refine r_goto 163 dX8_rings_158 rfl ?_
              refine r_istore (i := 5) 165 dX8_rings_163 rfl rfl ?_
              refine r_iinc (i := 6) 168 dX8_rings_165 rfl rfl (by first | exact nI_1 _ | rfl) rfl ?_
              refine r_goto 28 dX8_rings_168 rfl ?_
              exact ih2
      refine r_iload (i := 6) 30 dX8_rings_28 rfl rfl ?_
      refine r_aload_n (i := 0) 31 dX8_rings_30 rfl rfl rfl ?_
      refine r_callMi 34 dX8_rings_31 rfl ykX8_states lk_X8_134 (e2_states h) rfl rfl rfl rfl rfl rfl ⟨Nat.le_refl _, Nat.le_refl _⟩ ?_
      refine r_icmp_ge 171 37 dX8_rings_34 rfl rfl (fun h34 => absurd (ble_of (by omega) (by omega) h34) (by omega)) (fun h34 => ?_)
      refine r_aload_n (i := 0) 38 dX8_rings_37 rfl rfl rfl ?_
      refine r_iload (i := 6) 40 dX8_rings_38 rfl rfl ?_
      refine r_callMi 43 dX8_rings_40 rfl ykX8_ringOf lk_X8_196 (e2_ringOf h hi2) rfl rfl rfl rfl rfl rfl ⟨Nat.le_refl _, Nat.le_refl _⟩ ?_
      refine r_istore (i := 7) 45 dX8_rings_43 rfl rfl ?_
      refine r_iload (i := 7) 47 dX8_rings_45 rfl rfl ?_
      refine r_if_le 54 50 dX8_rings_47 rfl rfl (fun h47 => absurd h47 pos) (fun h47 => ?_)
      refine r_iconst (v := 1) 51 dX8_rings_50 rfl rfl ?_
      refine r_goto 55 dX8_rings_51 rfl ?_
      refine r_istore (i := 8) 57 dX8_rings_55 rfl rfl ?_
      refine r_iconst (v := 1) 58 dX8_rings_57 rfl rfl ?_
      refine r_istore (i := 9) 60 dX8_rings_58 rfl rfl ?_
      exact l2_rings0 h hi2 l2 r1 fin _ 0 rfl (Nat.zero_le _)
theorem q_rings (hT : tOk S) (hC : CM S w) (what : Int32) : mm_e (d + 5) yX8_rings mX8_rings [.ref 0, .int what] w (QM (s_rings S what) S) := by
  have hC0 := hC
  obtain ⟨W, rfl, hR⟩ := hC
  obtain ⟨hM, ⟨hx, hy⟩, ⟨ht, hb⟩, hf, ⟨v1, v2⟩, ⟨hk0, hk1⟩, hI, hH, hn⟩ := id hR
  have h6 := hM.n6
  have h4 := hM.g4
  have h5 := hM.b4
  have p6 := p2_le hM.n6
  have l0 := hM.lt31 hT.2.1
  have i18 : vp_in (18 : Int32) 148 := vp_in_nI (n := 18) (by decide) (by decide)
  have i35 : vp_in (35 : Int32) 148 := vp_in_nI (n := 35) (by decide) (by decide)
  have i36 : vp_in (36 : Int32) 148 := vp_in_nI (n := 36) (by decide) (by decide)
  have ex : W.1.1 (18 : Int32).toNatClampNeg = nI (tX S) := hx
  have ey : W.1.1 (36 : Int32).toNatClampNeg = nI (tY S) := hy
  have eb : W.1.1 (35 : Int32).toNatClampNeg = nI (sB (tA S)) := hM.bn
  refine e_of [some (.ref 0), some (.int what), none, none, none, none, none, none, none, none] rfl (by decide) rfl rfl rfl ?_
  have hz : ¬ (rsF (tA S) (2 ^ sN (tA S))).2.1 = 0 := by
    obtain ⟨i, hi, hr⟩ := rg_ex h6 hT.2.1
    have hI : ∀ k, k ≤ 2 ^ sN (tA S) → rsI (tA S) k := by
      intro k
      induction k with
      | zero => intro _ s hs; omega
      | succ k ih => intro hk; exact rsI_step h6 (by omega) (ih (by omega))
    exact (hI _ (Nat.le_refl _) _ (ny_lt hT.2.1 i) hr).1
  have es : shF (rsF (tA S) (2 ^ sN (tA S))).2.1 = (rsF (tA S) (2 ^ sN (tA S))).2.1 := if_neg hz
  rcases pk_ix what (n := 4) (by decide) with q | q | ⟨k, hk, rfl⟩
  · refine r_iload_n (i := 1) 1 dX8_rings_0 rfl rfl rfl ?_
    refine r_i2l 2 dX8_rings_1 rfl ?_
    refine r_lconst (v := 0) 3 dX8_rings_2 rfl rfl ?_
    refine r_ldc2 6 dX8_rings_3 rfl k_X8_194 ?_
    refine r_callSi [] 9 dX8_rings_6 rfl ykX8_in lk_X8_46 (e_in0 what (n := 4) (by decide) (by decide)) rfl rfl rfl ⟨Nat.le_refl _, Nat.le_refl _⟩ ?_
    rw [inb_f1 q]
    refine r_if_ne 14 12 dX8_rings_9 rfl rfl (fun h9 => absurd rfl h9) (fun h9 => ?_)
    refine r_iconst (v := (-1)) 13 dX8_rings_12 rfl rfl ?_
    exact r_reti dX8_rings_13 rfl (by first | rfl | exact bI_nar _) ⟨Nat.le_refl _, Nat.le_refl _⟩ (fun _ => rfl) (⟨by rw [s_rings, ix_neg q] <;> rfl, hC0⟩)
  · refine r_iload_n (i := 1) 1 dX8_rings_0 rfl rfl rfl ?_
    refine r_i2l 2 dX8_rings_1 rfl ?_
    refine r_lconst (v := 0) 3 dX8_rings_2 rfl rfl ?_
    refine r_ldc2 6 dX8_rings_3 rfl k_X8_194 ?_
    refine r_callSi [] 9 dX8_rings_6 rfl ykX8_in lk_X8_46 (e_in0 what (n := 4) (by decide) (by decide)) rfl rfl rfl ⟨Nat.le_refl _, Nat.le_refl _⟩ ?_
    rw [inb_f2 q]
    refine r_if_ne 14 12 dX8_rings_9 rfl rfl (fun h9 => absurd rfl h9) (fun h9 => ?_)
    refine r_iconst (v := (-1)) 13 dX8_rings_12 rfl rfl ?_
    exact r_reti dX8_rings_13 rfl (by first | rfl | exact bI_nar _) ⟨Nat.le_refl _, Nat.le_refl _⟩ (fun _ => rfl) (⟨by rw [s_rings, ix_big q] <;> rfl, hC0⟩)
  · refine r_iload_n (i := 1) 1 dX8_rings_0 rfl rfl rfl ?_
    refine r_i2l 2 dX8_rings_1 rfl ?_
    refine r_lconst (v := 0) 3 dX8_rings_2 rfl rfl ?_
    refine r_ldc2 6 dX8_rings_3 rfl k_X8_194 ?_
    refine r_callSi [] 9 dX8_rings_6 rfl ykX8_in lk_X8_46 (e_in0 (nI k) (n := 4) (by decide) (by decide)) rfl rfl rfl ⟨Nat.le_refl _, Nat.le_refl _⟩ ?_
    rw [nI_inb hk (by decide)]
    refine r_if_ne 14 12 dX8_rings_9 rfl rfl (fun h9 => ?_) (fun h9 => absurd h9 (by decide))
    refine r_iconst (v := 0) 15 dX8_rings_14 rfl rfl ?_
    refine r_istore_n (i := 2) 16 dX8_rings_15 rfl rfl rfl ?_
    refine r_ldc 18 dX8_rings_16 rfl k_X8_199 ?_
    refine r_istore_n (i := 3) 19 dX8_rings_18 rfl rfl rfl ?_
    refine r_iconst (v := 0) 20 dX8_rings_19 rfl rfl ?_
    refine r_istore (i := 4) 22 dX8_rings_20 rfl rfl ?_
    refine r_iconst (v := 0) 23 dX8_rings_22 rfl rfl ?_
    refine r_istore (i := 5) 25 dX8_rings_23 rfl rfl ?_
    refine r_iconst (v := 0) 26 dX8_rings_25 rfl rfl ?_
    refine r_istore (i := 6) 28 dX8_rings_26 rfl rfl ?_
    refine l2_rings hM (fun o7 o8 o9 => ?_) _ 0 none none none rfl (Nat.zero_le _) (fun s hs => absurd hs (Nat.not_lt_zero s))
    rw [s_rings, ix_k hk (by decide), es]
    rcases (by omega : k = 0 ∨ k = 1 ∨ k = 2 ∨ k = 3) with rfl | rfl | rfl | rfl
    · refine r_iload_n (i := 1) 172 dX8_rings_171 rfl rfl rfl ?_
      refine r_if_ne 179 175 dX8_rings_172 rfl rfl (fun h172 => absurd rfl h172) (fun h172 => ?_)
      refine r_iload_n (i := 2) 176 dX8_rings_175 rfl rfl rfl ?_
      refine r_goto 200 dX8_rings_176 rfl ?_
      exact r_reti dX8_rings_200 rfl (by first | rfl | exact bI_nar _) ⟨Nat.le_refl _, Nat.le_refl _⟩ (fun _ => rfl) (⟨rfl, hC0⟩)
    · refine r_iload_n (i := 1) 172 dX8_rings_171 rfl rfl rfl ?_
      refine r_if_ne 179 175 dX8_rings_172 rfl rfl (fun h172 => ?_) (fun h172 => absurd h172 (by decide))
      refine r_iload_n (i := 1) 180 dX8_rings_179 rfl rfl rfl ?_
      refine r_iconst (v := 1) 181 dX8_rings_180 rfl rfl ?_
      refine r_icmp_ne 188 184 dX8_rings_181 rfl rfl (fun h181 => absurd rfl h181) (fun h181 => ?_)
      refine r_iload_n (i := 3) 185 dX8_rings_184 rfl rfl rfl ?_
      refine r_goto 200 dX8_rings_185 rfl ?_
      exact r_reti dX8_rings_200 rfl (by first | rfl | exact bI_nar _) ⟨Nat.le_refl _, Nat.le_refl _⟩ (fun _ => rfl) (⟨rfl, hC0⟩)
    · refine r_iload_n (i := 1) 172 dX8_rings_171 rfl rfl rfl ?_
      refine r_if_ne 179 175 dX8_rings_172 rfl rfl (fun h172 => ?_) (fun h172 => absurd h172 (by decide))
      refine r_iload_n (i := 1) 180 dX8_rings_179 rfl rfl rfl ?_
      refine r_iconst (v := 1) 181 dX8_rings_180 rfl rfl ?_
      refine r_icmp_ne 188 184 dX8_rings_181 rfl rfl (fun h181 => ?_) (fun h181 => absurd h181 (by decide))
      refine r_iload_n (i := 1) 189 dX8_rings_188 rfl rfl rfl ?_
      refine r_iconst (v := 2) 190 dX8_rings_189 rfl rfl ?_
      refine r_icmp_ne 198 193 dX8_rings_190 rfl rfl (fun h190 => absurd rfl h190) (fun h190 => ?_)
      refine r_iload (i := 4) 195 dX8_rings_193 rfl rfl ?_
      refine r_goto 200 dX8_rings_195 rfl ?_
      exact r_reti dX8_rings_200 rfl (by first | rfl | exact bI_nar _) ⟨Nat.le_refl _, Nat.le_refl _⟩ (fun _ => rfl) (⟨rfl, hC0⟩)
    · refine r_iload_n (i := 1) 172 dX8_rings_171 rfl rfl rfl ?_
      refine r_if_ne 179 175 dX8_rings_172 rfl rfl (fun h172 => ?_) (fun h172 => absurd h172 (by decide))
      refine r_iload_n (i := 1) 180 dX8_rings_179 rfl rfl rfl ?_
      refine r_iconst (v := 1) 181 dX8_rings_180 rfl rfl ?_
      refine r_icmp_ne 188 184 dX8_rings_181 rfl rfl (fun h181 => ?_) (fun h181 => absurd h181 (by decide))
      refine r_iload_n (i := 1) 189 dX8_rings_188 rfl rfl rfl ?_
      refine r_iconst (v := 2) 190 dX8_rings_189 rfl rfl ?_
      refine r_icmp_ne 198 193 dX8_rings_190 rfl rfl (fun h190 => ?_) (fun h190 => absurd h190 (by decide))
      refine r_iload (i := 5) 200 dX8_rings_198 rfl rfl ?_
      exact r_reti dX8_rings_200 rfl (by first | rfl | exact bI_nar _) ⟨Nat.le_refl _, Nat.le_refl _⟩ (fun _ => rfl) (⟨rfl, hC0⟩)
end MG
