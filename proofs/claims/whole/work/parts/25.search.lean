-- WAYS
def dg (g n c t : Nat) : Nat := c / (g + 1) ^ (n - 1 - t) % (g + 1)
theorem dg_le (g n c t : Nat) : dg g n c t ≤ g := Nat.le_of_lt_succ (Nat.mod_lt _ (Nat.succ_pos g))
def wS (A : sA) (D : Nat → Nat) (x : Nat) : Nat → Nat
  | 0 => x
  | t + 1 => if D t = 0 then nx A (wS A D x t) else nx A (wS A D x t ^^^ 2 ^ sU A (D t - 1))
def wP (A : sA) (D : Nat → Nat) : Nat → Nat
  | 0 => 0
  | t + 1 => wP A D t + (if D t = 0 then 0 else sP A (D t - 1))
def wC (A : sA) (D : Nat → Nat) (x : Nat) : Nat → Bool
  | 0 => true
  | t + 1 => (wC A D x t && (decide (D t = 0) || al A (wS A D x t ^^^ 2 ^ sU A (D t - 1)))) && al A (wS A D x (t + 1))
/-- what is aimed at: none: that it agrees; a thing, so or not -/
def gl (A : sA) (G : Option (Nat × Nat)) (s : Nat) : Bool := match G with
  | none => ag A s
  | some q => decide (tb s q.1 = q.2)
def okc (A : sA) (x n : Nat) (G : Option (Nat × Nat)) (c : Nat) : Bool := wC A (dg (sG A) n c) x n && gl A G (wS A (dg (sG A) n c) x n)
def prc (A : sA) (n c : Nat) : Nat := wP A (dg (sG A) n c) n
def bst (A : sA) (x n : Nat) (G : Option (Nat × Nat)) : Nat → Option Nat
  | 0 => none
  | i + 1 => match bst A x n G i with
    | none => if okc A x n G i then some i else none
    | some c => if okc A x n G i && decide (prc A n i < prc A n c) then some i else some c
theorem wC_false {A : sA} {D : Nat → Nat} {x : Nat} : ∀ {n t : Nat}, t ≤ n → wC A D x t = false → wC A D x n = false
  | 0, t, h, ht => by rw [show t = 0 by omega] at ht; exact ht
  | n + 1, t, h, ht => by
    rcases Nat.lt_or_ge n t with q | q
    · rw [show t = n + 1 by omega] at ht; exact ht
    · rw [wC, wC_false q ht]; rfl
theorem wS_lt {A : sA} {D : Nat → Nat} {x : Nat} (hx : x < 2 ^ sN A) : ∀ t, wS A D x t < 2 ^ sN A
  | 0 => hx
  | t + 1 => by rw [wS]; split <;> exact nx_lt A _
theorem xor_lt {A : sA} {x j : Nat} (hx : x < 2 ^ sN A) (hj : j < sN A) : x ^^^ 2 ^ j < 2 ^ sN A := Nat.xor_lt_two_pow hx (p2_lt hj)
theorem wP_le {A : sA} (hA : sOk A) {D : Nat → Nat} (hD : ∀ t, D t ≤ sG A) : ∀ t, wP A D t ≤ 9 * t
  | 0 => Nat.le_refl _
  | t + 1 => by
    have h1 := wP_le hA hD t
    have h2 := hD t
    rw [wP]
    split
    · omega
    · have := (hA.2.2.2.1 (D t - 1) (by omega)).2
      omega
/-- a row's number: nobody is -1 -/
def rv (k : Nat) : Int32 := nI k - 1
abbrev SrT : Type := (Nat → Int32) × (Nat → Int32) × Int32 × Int32 × Int32 × Int32 × Int32 × Int32
def wSr (S : SrT) : mm_W := [.inr (2, [.ref 1, .ref 2, .int S.2.2.1, .int S.2.2.2.1, .int S.2.2.2.2.1, .int S.2.2.2.2.2.1, .int S.2.2.2.2.2.2.1, .int S.2.2.2.2.2.2.2]), .inl (0, (4, .inl S.1)), .inl (0, (4, .inl S.2.1))]
def wRF (S : SrT) (F : FlT) : mm_W := wSr S ++ (wFl F).map (mm_rc (fun k => 3 + k))
abbrev srRow (S : SrT) (r : Nat → Int32) : SrT := (r, S.2)
abbrev srP (S : SrT) (p : Int32) : SrT := (S.1, S.2.1, S.2.2.1, S.2.2.2.1, S.2.2.2.2.1, S.2.2.2.2.2.1, S.2.2.2.2.2.2.1, p)
/-- the aim as it is held -/
def aim (S : SrT) (G : Option (Nat × Nat)) (N : Nat) : Prop := match G with
  | none => S.2.2.2.2.2.1 = -1
  | some q => S.2.2.2.2.2.1 = nI q.1 ∧ q.1 < N ∧ S.2.2.2.2.2.2.1 = nI q.2 ∧ q.2 ≤ 1
section X2
variable {d : Nat} {F : FlT} {A : sA} {S : SrT}
theorem rv_inb {g k : Nat} (hg : g < 2 ^ 31) (hk : k ≤ g) : inb (nI g) (rv k) = decide (¬ k = 0) := by
  by_cases h : k = 0
  · subst h
    rw [inb_f1 (show rv 0 < 0 by decide)]; rfl
  · rw [show rv k = nI (k - 1) from by rw [rv, show (1 : Int32) = nI 1 from rfl, pk_sub (by omega)], nI_inb (by omega) hg]; simp [h]
theorem rv_pos {k : Nat} (h : ¬ k = 0) : rv k = nI (k - 1) := by rw [rv, show (1 : Int32) = nI 1 from rfl, pk_sub (by omega)]
def succPost (A : sA) (D : Nat → Nat) (x n : Nat) (G : Option (Nat × Nat)) (S : SrT) (F : FlT) : Option Value → mm_W → Prop := fun v u => v = some (.int (bI (wC A D x n && gl A G (wS A D x n)))) ∧ ∃ p : Int32, u = wRF (srP S p) F ∧ ((wC A D x n && gl A G (wS A D x n)) = true → p = nI (wP A D n))
theorem l_succ {G : Option (Nat × Nat)} (h : fok F A) {x n : Nat} (hx : x < 2 ^ sN A) (hn : n ≤ 4) {D : Nat → Nat} (hD : ∀ t, D t ≤ sG A) (hrow : ∀ t, t < n → S.1 t = rv (D t)) (hG : aim S G (sN A)) : ∀ (k t : Nat) (o : Option Value), n - t = k → t ≤ n → wC A D x t = true → (o = none ∨ ∃ z, o = some (.int z)) → mm_r (d + 4) mX2_succeeds (succPost A D x n G S F) 13 [some (.ref 0), some (.ref 3), some (.int (nI n)), some (.int (nI (wS A D x t))), some (.int (nI t)), o] [] (wRF (srP S (nI (wP A D t))) F) := by
  intro k
  have h6 := h.n6
  have hg4 := h.g4
  induction k with
  | zero =>
    intro t o hk ht hc ho
    have e : t = n := by omega
    subst e
    have hw := lt31 h (wS_lt (D := D) hx t)
    cases G with
    | none =>
      have hG : S.2.2.2.2.2.1 = -1 := hG
      refine r_iload (i := 4) 15 dX2_succeeds_13 rfl rfl ?_
      refine r_iload_n (i := 2) 16 dX2_succeeds_15 rfl rfl rfl ?_
      refine r_icmp_ge 97 19 dX2_succeeds_16 rfl rfl (fun h16 => ?_) (fun h16 => absurd (Int32.le_refl _) h16)
      refine r_aload_n (i := 0) 98 dX2_succeeds_97 rfl rfl rfl ?_
      refine r_getf 101 dX2_succeeds_98 rfl fl_X2_18 rfl rfl ?_
      refine r_iconst (v := (-1)) 102 dX2_succeeds_101 rfl rfl ?_
      refine r_icmp_ne 113 105 dX2_succeeds_102 rfl rfl (fun h102 => absurd hG h102) (fun h102 => ?_)
      refine r_aload_n (i := 1) 106 dX2_succeeds_105 rfl rfl rfl ?_
      refine r_iload_n (i := 3) 107 dX2_succeeds_106 rfl rfl rfl ?_
      refine r_callVi [3, 4, 5, 6, 7, 8, 9, 10] 110 dX2_succeeds_107 rfl ykX0_agrees lk_X2_80 (e_agrees h hw) rfl rfl rfl rfl rfl rfl rfl ⟨Nat.le_refl _, Nat.le_refl _⟩ ?_
      refine r_goto 136 dX2_succeeds_110 rfl ?_
      exact r_reti dX2_succeeds_136 rfl (by first | rfl | exact bI_nar _) ⟨Nat.le_refl _, Nat.le_refl _⟩ (fun _ => rfl) (⟨by rw [hc]; rfl, _, rfl, fun _ => rfl⟩)
    | some q =>
      obtain ⟨g1, g2, g3, g4⟩ := hG
      have et : bI (decide (tb (wS A D x t) q.1 = 1)) = nI q.2 ↔ tb (wS A D x t) q.1 = q.2 := by
        rcases tb_01 (wS A D x t) q.1 with z | z <;> rcases (by omega : q.2 = 0 ∨ q.2 = 1) with z2 | z2 <;> rw [z, z2] <;> decide
      refine r_iload (i := 4) 15 dX2_succeeds_13 rfl rfl ?_
      refine r_iload_n (i := 2) 16 dX2_succeeds_15 rfl rfl rfl ?_
      refine r_icmp_ge 97 19 dX2_succeeds_16 rfl rfl (fun h16 => ?_) (fun h16 => absurd (Int32.le_refl _) h16)
      refine r_aload_n (i := 0) 98 dX2_succeeds_97 rfl rfl rfl ?_
      refine r_getf 101 dX2_succeeds_98 rfl fl_X2_18 rfl rfl ?_
      refine r_iconst (v := (-1)) 102 dX2_succeeds_101 rfl rfl ?_
      refine r_icmp_ne 113 105 dX2_succeeds_102 rfl rfl (fun h102 => ?_) (fun h102 => absurd (show nI q.1 = -1 from by rw [← g1]; exact h102) (fun z => nI_pos (n := q.1) (by omega) (by rw [z]; decide)))
      refine r_iload_n (i := 3) 114 dX2_succeeds_113 rfl rfl rfl ?_
      refine r_aload_n (i := 0) 115 dX2_succeeds_114 rfl rfl rfl ?_
      refine r_getf 118 dX2_succeeds_115 rfl fl_X2_18 rfl rfl ?_
      rw [show (srP S (nI (wP A D t))).2.2.2.2.2.1 = nI q.1 from g1]
      refine r_callSi [] 121 dX2_succeeds_118 rfl ykX7_isSo lk_X2_83 (e_isSo hw (by omega)) rfl rfl rfl ⟨Nat.le_refl _, Nat.le_refl _⟩ ?_
      refine r_callSi [] 124 dX2_succeeds_121 rfl ykX7_bit lk_X2_87 (e_bit _) rfl rfl rfl ⟨Nat.le_refl _, Nat.le_refl _⟩ ?_
      refine r_aload_n (i := 0) 125 dX2_succeeds_124 rfl rfl rfl ?_
      refine r_getf 128 dX2_succeeds_125 rfl fl_X2_22 rfl rfl ?_
      rw [show (srP S (nI (wP A D t))).2.2.2.2.2.2.1 = nI q.2 from g3]
      refine r_icmp_ne 135 131 dX2_succeeds_128 rfl rfl (fun h128 => ?_) (fun h128 => ?_)
      · have z := mt et.mpr h128
        refine r_iconst (v := 0) 136 dX2_succeeds_135 rfl rfl ?_
        exact r_reti dX2_succeeds_136 rfl (by first | rfl | exact bI_nar _) ⟨Nat.le_refl _, Nat.le_refl _⟩ (fun _ => rfl) (⟨by rw [hc]; simp [gl, z, bI], _, rfl, fun _ => rfl⟩)
      · have z := et.mp h128
        refine r_iconst (v := 1) 132 dX2_succeeds_131 rfl rfl ?_
        refine r_goto 136 dX2_succeeds_132 rfl ?_
        exact r_reti dX2_succeeds_136 rfl (by first | rfl | exact bI_nar _) ⟨Nat.le_refl _, Nat.le_refl _⟩ (fun _ => rfl) (⟨by rw [hc]; simp [gl, z, bI], _, rfl, fun _ => rfl⟩)
  | succ k ih =>
    intro t o hk ht hc ho
    have hin : vp_in (nI t) 4 := vp_in_nI (by omega) (by decide)
    have hr := hrow t (by omega)
    have hdt := hD t
    have hw := wS_lt (D := D) hx t
    have l0 := lt31 h hw
    have ob := rv_inb (g := sG A) (by omega) hdt
    have bad : ∀ {t' : Nat}, t' ≤ n → wC A D x t' = false → (wC A D x n && gl A G (wS A D x n)) = false := fun h1 h2 => by rw [wC_false h1 h2]; rfl
    have rest : ∀ (s1 : Nat) (p1 : Int32) (o' : Option Value), s1 < 2 ^ sN A → nx A s1 = wS A D x (t + 1) → p1 = nI (wP A D (t + 1)) → (al A (wS A D x (t + 1)) = true → wC A D x (t + 1) = true) → (o' = none ∨ ∃ z, o' = some (.int z)) → mm_r (d + 4) mX2_succeeds (succPost A D x n G S F) 75 [some (.ref 0), some (.ref 3), some (.int (nI n)), some (.int (nI s1)), some (.int (nI t)), o'] [] (wRF (srP S p1) F) := by
      intro s1 p1 o' hs1 hs2 hp1 hcl ho'
      subst hp1
      have l1 := lt31 h hs1
      have l2 := lt31 h (wS_lt (D := D) hx (t + 1))
      refine r_aload_n (i := 1) 76 dX2_succeeds_75 rfl rfl rfl ?_
      refine r_iload_n (i := 3) 77 dX2_succeeds_76 rfl rfl rfl ?_
      refine r_callVi [3, 4, 5, 6, 7, 8, 9, 10] 80 dX2_succeeds_77 rfl ykX0_afterYear lk_X2_76 (e_afterYear h l1) rfl rfl rfl rfl rfl rfl rfl ⟨Nat.le_refl _, Nat.le_refl _⟩ ?_
      rw [hs2]
      refine r_istore_n (i := 3) 81 dX2_succeeds_80 rfl rfl rfl ?_
      refine r_aload_n (i := 1) 82 dX2_succeeds_81 rfl rfl rfl ?_
      refine r_iload_n (i := 3) 83 dX2_succeeds_82 rfl rfl rfl ?_
      refine r_callVi [3, 4, 5, 6, 7, 8, 9, 10] 86 dX2_succeeds_83 rfl ykX0_allows lk_X2_73 (e_allows h l2) rfl rfl rfl rfl rfl rfl rfl ⟨Nat.le_refl _, Nat.le_refl _⟩ ?_
      refine r_if_ne 91 89 dX2_succeeds_86 rfl rfl (fun h86 => ?_) (fun h86 => ?_)
      · have g := bI_ne0 h86
        refine r_iinc (i := 4) 94 dX2_succeeds_91 rfl rfl (by first | exact nI_1 _ | rfl) rfl ?_
        refine r_goto 13 dX2_succeeds_94 rfl ?_
        exact ih (t + 1) o' (by omega) (by omega) (hcl g) ho'
      · have g := bI_eq0 h86
        refine r_iconst (v := 0) 90 dX2_succeeds_89 rfl rfl ?_
        exact r_reti dX2_succeeds_90 rfl (by first | rfl | exact bI_nar _) ⟨Nat.le_refl _, Nat.le_refl _⟩ (fun _ => rfl) (⟨by rw [bad (t' := t + 1) (by omega) (by rw [wC, g]; simp)]; rfl, nI (wP A D (t + 1)), rfl, fun z => absurd z (by rw [bad (t' := t + 1) (by omega) (by rw [wC, g]; simp)]; decide)⟩)
    by_cases h0 : D t = 0
    · have e1 : wS A D x (t + 1) = nx A (wS A D x t) := by rw [wS, if_pos h0]
      have e2 : wP A D (t + 1) = wP A D t := by rw [wP, if_pos h0, Nat.add_zero]
      rcases ho with rfl | ⟨z, rfl⟩
      · refine r_iload (i := 4) 15 dX2_succeeds_13 rfl rfl ?_
        refine r_iload_n (i := 2) 16 dX2_succeeds_15 rfl rfl rfl ?_
        refine r_icmp_ge 97 19 dX2_succeeds_16 rfl rfl (fun h16 => absurd (ble_of (by omega) (by omega) h16) (by omega)) (fun h16 => ?_)
        refine r_aload_n (i := 0) 20 dX2_succeeds_19 rfl rfl rfl ?_
        refine r_getf 23 dX2_succeeds_20 rfl fl_X2_9 rfl rfl ?_
        refine r_iload (i := 4) 25 dX2_succeeds_23 rfl rfl ?_
        refine r_iald 26 dX2_succeeds_25 rfl rfl (by assumption) ?_
        rw [nI_clamp (by omega), show (srP S (nI (wP A D t))).1 t = rv (D t) from hr]
        refine r_istore (i := 5) 28 dX2_succeeds_26 rfl rfl ?_
        refine r_aload_n (i := 1) 29 dX2_succeeds_28 rfl rfl rfl ?_
        refine r_iload (i := 5) 31 dX2_succeeds_29 rfl rfl ?_
        refine r_callVi [3, 4, 5, 6, 7, 8, 9, 10] 34 dX2_succeeds_31 rfl ykX0_hasGuest lk_X2_59 (e_hasGuest (rv (D t))) rfl rfl rfl rfl rfl rfl rfl ⟨Nat.le_refl _, Nat.le_refl _⟩ ?_
        rw [h.gu, ob]
        refine r_if_eq 75 37 dX2_succeeds_34 rfl rfl (fun h34 => ?_) (fun h34 => ?_)
        · exact rest (wS A D x t) _ _ hw e1.symm (by rw [e2]) (fun z => by rw [wC, hc, z]; simp [h0]) (Or.inr ⟨_, rfl⟩)
        · have z := bI_ne0 h34
          exact absurd h0 (by simpa using z)
      · refine r_iload (i := 4) 15 dX2_succeeds_13 rfl rfl ?_
        refine r_iload_n (i := 2) 16 dX2_succeeds_15 rfl rfl rfl ?_
        refine r_icmp_ge 97 19 dX2_succeeds_16 rfl rfl (fun h16 => absurd (ble_of (by omega) (by omega) h16) (by omega)) (fun h16 => ?_)
        refine r_aload_n (i := 0) 20 dX2_succeeds_19 rfl rfl rfl ?_
        refine r_getf 23 dX2_succeeds_20 rfl fl_X2_9 rfl rfl ?_
        refine r_iload (i := 4) 25 dX2_succeeds_23 rfl rfl ?_
        refine r_iald 26 dX2_succeeds_25 rfl rfl (by assumption) ?_
        rw [nI_clamp (by omega), show (srP S (nI (wP A D t))).1 t = rv (D t) from hr]
        refine r_istore (i := 5) 28 dX2_succeeds_26 rfl rfl ?_
        refine r_aload_n (i := 1) 29 dX2_succeeds_28 rfl rfl rfl ?_
        refine r_iload (i := 5) 31 dX2_succeeds_29 rfl rfl ?_
        refine r_callVi [3, 4, 5, 6, 7, 8, 9, 10] 34 dX2_succeeds_31 rfl ykX0_hasGuest lk_X2_59 (e_hasGuest (rv (D t))) rfl rfl rfl rfl rfl rfl rfl ⟨Nat.le_refl _, Nat.le_refl _⟩ ?_
        rw [h.gu, ob]
        refine r_if_eq 75 37 dX2_succeeds_34 rfl rfl (fun h34 => ?_) (fun h34 => ?_)
        · exact rest (wS A D x t) _ _ hw e1.symm (by rw [e2]) (fun z => by rw [wC, hc, z]; simp [h0]) (Or.inr ⟨_, rfl⟩)
        · have z := bI_ne0 h34
          exact absurd h0 (by simpa using z)
    · obtain ⟨u1, u2, u3, u4⟩ := h.gat (i := D t - 1) (by omega)
      have e1 : wS A D x (t + 1) = nx A (wS A D x t ^^^ 2 ^ sU A (D t - 1)) := by rw [wS, if_neg h0]
      have e2 : wP A D (t + 1) = wP A D t + sP A (D t - 1) := by rw [wP, if_neg h0]
      have hs1 := xor_lt (A := A) hw u3
      have l1 := lt31 h hs1
      have hin2 : vp_in (nI (D t - 1)) 4 := vp_in_nI (by omega) (by decide)
      have rvp := rv_pos h0
      rcases ho with rfl | ⟨z, rfl⟩
      · refine r_iload (i := 4) 15 dX2_succeeds_13 rfl rfl ?_
        refine r_iload_n (i := 2) 16 dX2_succeeds_15 rfl rfl rfl ?_
        refine r_icmp_ge 97 19 dX2_succeeds_16 rfl rfl (fun h16 => absurd (ble_of (by omega) (by omega) h16) (by omega)) (fun h16 => ?_)
        refine r_aload_n (i := 0) 20 dX2_succeeds_19 rfl rfl rfl ?_
        refine r_getf 23 dX2_succeeds_20 rfl fl_X2_9 rfl rfl ?_
        refine r_iload (i := 4) 25 dX2_succeeds_23 rfl rfl ?_
        refine r_iald 26 dX2_succeeds_25 rfl rfl (by assumption) ?_
        rw [nI_clamp (by omega), show (srP S (nI (wP A D t))).1 t = rv (D t) from hr]
        refine r_istore (i := 5) 28 dX2_succeeds_26 rfl rfl ?_
        refine r_aload_n (i := 1) 29 dX2_succeeds_28 rfl rfl rfl ?_
        refine r_iload (i := 5) 31 dX2_succeeds_29 rfl rfl ?_
        refine r_callVi [3, 4, 5, 6, 7, 8, 9, 10] 34 dX2_succeeds_31 rfl ykX0_hasGuest lk_X2_59 (e_hasGuest (rv (D t))) rfl rfl rfl rfl rfl rfl rfl ⟨Nat.le_refl _, Nat.le_refl _⟩ ?_
        rw [h.gu, ob, rvp]
        refine r_if_eq 75 37 dX2_succeeds_34 rfl rfl (fun h34 => ?_) (fun h34 => ?_)
        · have z := bI_eq0 h34
          exact absurd h0 (by simpa using z)
        · refine r_iload_n (i := 3) 38 dX2_succeeds_37 rfl rfl rfl ?_
          refine r_aload_n (i := 1) 39 dX2_succeeds_38 rfl rfl rfl ?_
          refine r_getf 42 dX2_succeeds_39 rfl fl_X2_63 rfl rfl ?_
          refine r_iload (i := 5) 44 dX2_succeeds_42 rfl rfl ?_
          refine r_iald 45 dX2_succeeds_44 rfl rfl (by assumption) ?_
          rw [nI_clamp (n := D t - 1) (by omega), u1]
          refine r_callSi [] 48 dX2_succeeds_45 rfl ykX7_undone lk_X2_66 (e_undone (by omega)) rfl rfl rfl ⟨Nat.le_refl _, Nat.le_refl _⟩ ?_
          refine r_istore_n (i := 3) 49 dX2_succeeds_48 rfl rfl rfl ?_
          refine r_aload_n (i := 0) 50 dX2_succeeds_49 rfl rfl rfl ?_
          refine r_dup 51 dX2_succeeds_50 rfl rfl ?_
          refine r_getf 54 dX2_succeeds_51 rfl fl_X2_42 rfl rfl ?_
          refine r_aload_n (i := 1) 55 dX2_succeeds_54 rfl rfl rfl ?_
          refine r_getf 58 dX2_succeeds_55 rfl fl_X2_70 rfl rfl ?_
          refine r_iload (i := 5) 60 dX2_succeeds_58 rfl rfl ?_
          refine r_iald 61 dX2_succeeds_60 rfl rfl (by assumption) ?_
          rw [nI_clamp (n := D t - 1) (by omega), u2]
          refine r_iadd 62 dX2_succeeds_61 rfl ?_
          rw [nI_add, ← e2]
          refine r_putf 65 dX2_succeeds_62 rfl fl_X2_42 rfl rfl (fun _ _ => ⟨rfl, rfl⟩) (fun z => absurd z Bool.false_ne_true) ?_
          refine r_aload_n (i := 1) 66 dX2_succeeds_65 rfl rfl rfl ?_
          refine r_iload_n (i := 3) 67 dX2_succeeds_66 rfl rfl rfl ?_
          refine r_callVi [3, 4, 5, 6, 7, 8, 9, 10] 70 dX2_succeeds_67 rfl ykX0_allows lk_X2_73 (e_allows h l1) rfl rfl rfl rfl rfl rfl rfl ⟨Nat.le_refl _, Nat.le_refl _⟩ ?_
          refine r_if_ne 75 73 dX2_succeeds_70 rfl rfl (fun h70 => ?_) (fun h70 => ?_)
          · have g := bI_ne0 h70
            exact rest _ _ _ hs1 e1.symm rfl (fun z => by rw [wC, hc, z, g]; simp) (Or.inr ⟨_, rfl⟩)
          · have g := bI_eq0 h70
            refine r_iconst (v := 0) 74 dX2_succeeds_73 rfl rfl ?_
            exact r_reti dX2_succeeds_74 rfl (by first | rfl | exact bI_nar _) ⟨Nat.le_refl _, Nat.le_refl _⟩ (fun _ => rfl) (⟨by rw [bad (t' := t + 1) (by omega) (by rw [wC, g]; simp [h0])]; rfl, nI (wP A D (t + 1)), rfl, fun z => absurd z (by rw [bad (t' := t + 1) (by omega) (by rw [wC, g]; simp [h0])]; decide)⟩)
      · refine r_iload (i := 4) 15 dX2_succeeds_13 rfl rfl ?_
        refine r_iload_n (i := 2) 16 dX2_succeeds_15 rfl rfl rfl ?_
        refine r_icmp_ge 97 19 dX2_succeeds_16 rfl rfl (fun h16 => absurd (ble_of (by omega) (by omega) h16) (by omega)) (fun h16 => ?_)
        refine r_aload_n (i := 0) 20 dX2_succeeds_19 rfl rfl rfl ?_
        refine r_getf 23 dX2_succeeds_20 rfl fl_X2_9 rfl rfl ?_
        refine r_iload (i := 4) 25 dX2_succeeds_23 rfl rfl ?_
        refine r_iald 26 dX2_succeeds_25 rfl rfl (by assumption) ?_
        rw [nI_clamp (by omega), show (srP S (nI (wP A D t))).1 t = rv (D t) from hr]
        refine r_istore (i := 5) 28 dX2_succeeds_26 rfl rfl ?_
        refine r_aload_n (i := 1) 29 dX2_succeeds_28 rfl rfl rfl ?_
        refine r_iload (i := 5) 31 dX2_succeeds_29 rfl rfl ?_
        refine r_callVi [3, 4, 5, 6, 7, 8, 9, 10] 34 dX2_succeeds_31 rfl ykX0_hasGuest lk_X2_59 (e_hasGuest (rv (D t))) rfl rfl rfl rfl rfl rfl rfl ⟨Nat.le_refl _, Nat.le_refl _⟩ ?_
        rw [h.gu, ob, rvp]
        refine r_if_eq 75 37 dX2_succeeds_34 rfl rfl (fun h34 => ?_) (fun h34 => ?_)
        · have z := bI_eq0 h34
          exact absurd h0 (by simpa using z)
        · refine r_iload_n (i := 3) 38 dX2_succeeds_37 rfl rfl rfl ?_
          refine r_aload_n (i := 1) 39 dX2_succeeds_38 rfl rfl rfl ?_
          refine r_getf 42 dX2_succeeds_39 rfl fl_X2_63 rfl rfl ?_
          refine r_iload (i := 5) 44 dX2_succeeds_42 rfl rfl ?_
          refine r_iald 45 dX2_succeeds_44 rfl rfl (by assumption) ?_
          rw [nI_clamp (n := D t - 1) (by omega), u1]
          refine r_callSi [] 48 dX2_succeeds_45 rfl ykX7_undone lk_X2_66 (e_undone (by omega)) rfl rfl rfl ⟨Nat.le_refl _, Nat.le_refl _⟩ ?_
          refine r_istore_n (i := 3) 49 dX2_succeeds_48 rfl rfl rfl ?_
          refine r_aload_n (i := 0) 50 dX2_succeeds_49 rfl rfl rfl ?_
          refine r_dup 51 dX2_succeeds_50 rfl rfl ?_
          refine r_getf 54 dX2_succeeds_51 rfl fl_X2_42 rfl rfl ?_
          refine r_aload_n (i := 1) 55 dX2_succeeds_54 rfl rfl rfl ?_
          refine r_getf 58 dX2_succeeds_55 rfl fl_X2_70 rfl rfl ?_
          refine r_iload (i := 5) 60 dX2_succeeds_58 rfl rfl ?_
          refine r_iald 61 dX2_succeeds_60 rfl rfl (by assumption) ?_
          rw [nI_clamp (n := D t - 1) (by omega), u2]
          refine r_iadd 62 dX2_succeeds_61 rfl ?_
          rw [nI_add, ← e2]
          refine r_putf 65 dX2_succeeds_62 rfl fl_X2_42 rfl rfl (fun _ _ => ⟨rfl, rfl⟩) (fun z => absurd z Bool.false_ne_true) ?_
          refine r_aload_n (i := 1) 66 dX2_succeeds_65 rfl rfl rfl ?_
          refine r_iload_n (i := 3) 67 dX2_succeeds_66 rfl rfl rfl ?_
          refine r_callVi [3, 4, 5, 6, 7, 8, 9, 10] 70 dX2_succeeds_67 rfl ykX0_allows lk_X2_73 (e_allows h l1) rfl rfl rfl rfl rfl rfl rfl ⟨Nat.le_refl _, Nat.le_refl _⟩ ?_
          refine r_if_ne 75 73 dX2_succeeds_70 rfl rfl (fun h70 => ?_) (fun h70 => ?_)
          · have g := bI_ne0 h70
            exact rest _ _ _ hs1 e1.symm rfl (fun z => by rw [wC, hc, z, g]; simp) (Or.inr ⟨_, rfl⟩)
          · have g := bI_eq0 h70
            refine r_iconst (v := 0) 74 dX2_succeeds_73 rfl rfl ?_
            exact r_reti dX2_succeeds_74 rfl (by first | rfl | exact bI_nar _) ⟨Nat.le_refl _, Nat.le_refl _⟩ (fun _ => rfl) (⟨by rw [bad (t' := t + 1) (by omega) (by rw [wC, g]; simp [h0])]; rfl, nI (wP A D (t + 1)), rfl, fun z => absurd z (by rw [bad (t' := t + 1) (by omega) (by rw [wC, g]; simp [h0])]; decide)⟩)
theorem e_succ {G : Option (Nat × Nat)} (h : fok F A) {x n : Nat} (hfx : fSt F = nI x) (hx : x < 2 ^ sN A) (hn : n ≤ 4) {D : Nat → Nat} (hD : ∀ t, D t ≤ sG A) (hrow : ∀ t, t < n → S.1 t = rv (D t)) (hG : aim S G (sN A)) : mm_e (d + 4) yX2_succeeds mX2_succeeds [.ref 0, .ref 3, .int (nI n)] (wRF S F) (succPost A D x n G S F) := by
  refine e_of [some (.ref 0), some (.ref 3), some (.int (nI n)), none, none, none] rfl (by decide) rfl rfl rfl ?_
  refine r_aload_n (i := 1) 1 dX2_succeeds_0 rfl rfl rfl ?_
  refine r_getf 4 dX2_succeeds_1 rfl fl_X2_56 rfl rfl ?_
  rw [hfx]
  refine r_istore_n (i := 3) 5 dX2_succeeds_4 rfl rfl rfl ?_
  refine r_aload_n (i := 0) 6 dX2_succeeds_5 rfl rfl rfl ?_
  refine r_iconst (v := 0) 7 dX2_succeeds_6 rfl rfl ?_
  refine r_putf 10 dX2_succeeds_7 rfl fl_X2_42 rfl rfl (fun _ _ => ⟨rfl, rfl⟩) (fun z => absurd z Bool.false_ne_true) ?_
  refine r_iconst (v := 0) 11 dX2_succeeds_10 rfl rfl ?_
  refine r_istore (i := 4) 13 dX2_succeeds_11 rfl rfl ?_
  exact l_succ h hx hn hD hrow hG _ 0 none rfl (Nat.zero_le _) rfl (Or.inl rfl)
theorem e_aimAt (f so : Int32) : mm_e (d + 1) yX2_aimAt mX2_aimAt [.ref 0, .int f, .int so] (wSr S) (mm_q none (wSr (S.1, S.2.1, S.2.2.1, S.2.2.2.1, 0, f, so, S.2.2.2.2.2.2.2))) := by
  refine e_of [some (.ref 0), some (.int f), some (.int so)] rfl (by decide) rfl rfl rfl ?_
  refine r_aload_n (i := 0) 1 dX2_aimAt_0 rfl rfl rfl ?_
  refine r_iload_n (i := 1) 2 dX2_aimAt_1 rfl rfl rfl ?_
  refine r_putf 5 dX2_aimAt_2 rfl fl_X2_18 rfl rfl (fun _ _ => ⟨rfl, rfl⟩) (fun z => absurd z Bool.false_ne_true) ?_
  refine r_aload_n (i := 0) 6 dX2_aimAt_5 rfl rfl rfl ?_
  refine r_iload_n (i := 2) 7 dX2_aimAt_6 rfl rfl rfl ?_
  refine r_putf 10 dX2_aimAt_7 rfl fl_X2_22 rfl rfl (fun _ _ => ⟨rfl, rfl⟩) (fun z => absurd z Bool.false_ne_true) ?_
  refine r_aload_n (i := 0) 11 dX2_aimAt_10 rfl rfl rfl ?_
  refine r_iconst (v := 0) 12 dX2_aimAt_11 rfl rfl ?_
  refine r_putf 15 dX2_aimAt_12 rfl fl_X2_25 rfl rfl (fun _ _ => ⟨rfl, rfl⟩) (fun z => absurd z Bool.false_ne_true) ?_
  exact r_retv dX2_aimAt_15 rfl ⟨Nat.le_refl _, Nat.le_refl _⟩ (fun _ => rfl) (⟨rfl, rfl⟩)
def srH (S : SrT) (n : Nat) : SrT := (S.1, va_cpy S.1 S.2.1 0 0 n, nI n, S.2.2.2.2.2.2.2, 1, S.2.2.2.2.2.1, S.2.2.2.2.2.2.1, S.2.2.2.2.2.2.2)
theorem e_holdRow {n : Nat} (hn : n ≤ 4) : mm_e (d + 1) yX2_holdRow mX2_holdRow [.ref 0, .int (nI n)] (wSr S) (mm_q none (wSr (srH S n))) := by
  have ec := nI_clamp (n := n) (by omega)
  have z0 : (0 : Int32).toNatClampNeg = 0 := rfl
  refine e_of [some (.ref 0), some (.int (nI n))] rfl (by decide) rfl rfl rfl ?_
  refine r_aload_n (i := 0) 1 dX2_holdRow_0 rfl rfl rfl ?_
  refine r_getf 4 dX2_holdRow_1 rfl fl_X2_9 rfl rfl ?_
  refine r_iconst (v := 0) 5 dX2_holdRow_4 rfl rfl ?_
  refine r_aload_n (i := 0) 6 dX2_holdRow_5 rfl rfl rfl ?_
  refine r_getf 9 dX2_holdRow_6 rfl fl_X2_15 rfl rfl ?_
  refine r_iconst (v := 0) 10 dX2_holdRow_9 rfl rfl ?_
  refine r_iload_n (i := 1) 11 dX2_holdRow_10 rfl rfl rfl ?_
  refine r_acopy 14 dX2_holdRow_11 rfl lk_X2_91 w_ac1 w_ac2 w_ac3 (Nat.succ_le_succ (Nat.zero_le _)) rfl rfl (by decide) (by decide) (nI_pos (by omega)) (by rw [ec, z0]; omega) (by rw [ec, z0]; omega) rfl ?_
  refine r_aload_n (i := 0) 15 dX2_holdRow_14 rfl rfl rfl ?_
  refine r_iload_n (i := 1) 16 dX2_holdRow_15 rfl rfl rfl ?_
  refine r_putf 19 dX2_holdRow_16 rfl fl_X2_97 rfl rfl (fun _ _ => ⟨rfl, rfl⟩) (fun z => absurd z Bool.false_ne_true) ?_
  refine r_aload_n (i := 0) 20 dX2_holdRow_19 rfl rfl rfl ?_
  refine r_aload_n (i := 0) 21 dX2_holdRow_20 rfl rfl rfl ?_
  refine r_getf 24 dX2_holdRow_21 rfl fl_X2_42 rfl rfl ?_
  refine r_putf 27 dX2_holdRow_24 rfl fl_X2_45 rfl rfl (fun _ _ => ⟨rfl, rfl⟩) (fun z => absurd z Bool.false_ne_true) ?_
  refine r_aload_n (i := 0) 28 dX2_holdRow_27 rfl rfl rfl ?_
  refine r_iconst (v := 1) 29 dX2_holdRow_28 rfl rfl ?_
  refine r_putf 32 dX2_holdRow_29 rfl fl_X2_25 rfl rfl (fun _ _ => ⟨rfl, rfl⟩) (fun z => absurd z Bool.false_ne_true) ?_
  exact r_retv dX2_holdRow_32 rfl ⟨Nat.le_refl _, Nat.le_refl _⟩ (fun _ => rfl) (⟨rfl, by rw [ec]; rfl⟩)
theorem dg_next {g n c t : Nat} (ht : t < n) : ∀ (e : Nat), e = n - 1 - t → c % (g + 1) ^ e = (g + 1) ^ e - 1 → (dg g n c t < g → dg g n (c + 1) t = dg g n c t + 1 ∧ ∀ t', t' < t → dg g n (c + 1) t' = dg g n c t') ∧ (∀ t', t < t' → t' < n → dg g n (c + 1) t' = 0) ∧ (dg g n c t = g → c % (g + 1) ^ (e + 1) = (g + 1) ^ (e + 1) - 1 ∧ dg g n (c + 1) t = 0) := by
  intro e he hc
  have hB : 0 < (g + 1) ^ e := Nat.pow_pos (Nat.succ_pos g)
  have hdm := Nat.div_add_mod c ((g + 1) ^ e)
  have hc1 : (c + 1) / (g + 1) ^ e = c / (g + 1) ^ e + 1 := by
    have h1 : c + 1 = (g + 1) ^ e * (c / (g + 1) ^ e + 1) := by rw [Nat.mul_add, Nat.mul_one]; omega
    rw [h1, Nat.mul_div_cancel_left _ hB]
  have hdt : dg g n c t = c / (g + 1) ^ e % (g + 1) := by rw [dg, he]
  have hdt1 : dg g n (c + 1) t = (c / (g + 1) ^ e + 1) % (g + 1) := by rw [dg, ← he, hc1]
  have hlow : ∀ t', t < t' → t' < n → dg g n (c + 1) t' = 0 := by
    intro t' h1 h2
    have h3 : c + 1 = (g + 1) ^ e * (c / (g + 1) ^ e + 1) := by rw [Nat.mul_add, Nat.mul_one]; omega
    have h4 : (g + 1) ^ e = (g + 1) ^ (n - 1 - t') * ((g + 1) * (g + 1) ^ (e - (n - 1 - t') - 1)) := by
      rw [← Nat.pow_succ', ← Nat.pow_add]; congr 1; omega
    rw [dg, h3, h4, Nat.mul_assoc, Nat.mul_div_cancel_left _ (Nat.pow_pos (Nat.succ_pos g)), Nat.mul_assoc, Nat.mul_mod_right]
  refine ⟨fun hlt => ⟨?_, fun t' ht' => ?_⟩, hlow, fun heq => ⟨?_, ?_⟩⟩
  · rw [hdt1, hdt]
    rw [hdt] at hlt
    rw [Nat.add_mod, Nat.mod_eq_of_lt (show 1 < g + 1 by omega), Nat.mod_eq_of_lt (by omega)]
  · rw [hdt] at hlt
    have h1 : n - 1 - t' = e + 1 + (t - t' - 1) := by omega
    have key : (c + 1) / (g + 1) ^ (e + 1) = c / (g + 1) ^ (e + 1) := by
      rw [Nat.pow_succ, ← Nat.div_div_eq_div_mul, ← Nat.div_div_eq_div_mul, hc1]
      have h2 := Nat.div_add_mod (c / (g + 1) ^ e) (g + 1)
      have h3 : c / (g + 1) ^ e + 1 = (g + 1) * (c / (g + 1) ^ e / (g + 1)) + (c / (g + 1) ^ e % (g + 1) + 1) := by omega
      rw [h3, Nat.mul_add_div (Nat.succ_pos g), Nat.div_eq_of_lt (show c / (g + 1) ^ e % (g + 1) + 1 < g + 1 by omega), Nat.add_zero]
    rw [dg, dg, h1, Nat.pow_add, ← Nat.div_div_eq_div_mul, ← Nat.div_div_eq_div_mul, key]
  · rw [hdt] at heq
    rw [Nat.pow_succ, Nat.mod_mul, hc, heq, Nat.mul_add, Nat.mul_one]
    omega
  · rw [hdt] at heq
    rw [hdt1, Nat.add_mod, heq]
    rcases Nat.eq_zero_or_pos g with q | q
    · subst q; rfl
    · rw [Nat.mod_eq_of_lt (show 1 < g + 1 by omega), Nat.mod_self]
def turnPost (S : SrT) (g n c : Nat) : Option Value → mm_W → Prop := fun v u => v = none ∧ ∃ r : Nat → Int32, u = wSr (srRow S r) ∧ ∀ t, t < n → r t = rv (dg g n (c + 1) t)
theorem rv_1 (k : Nat) : rv k + 1 = nI k := by rw [rv]; exact Int32.sub_add_cancel _ _
theorem rv_m (t : Nat) : nI t + Int32.ofInt (-1) = rv t := by rw [rv, Int32.sub_eq_add_neg]; rfl
theorem l_turn {g n c : Nat} (hg : g ≤ 4) (hn : n ≤ 4) : ∀ (t : Nat) (r : Nat → Int32), t ≤ n → c % (g + 1) ^ (n - t) = (g + 1) ^ (n - t) - 1 → (∀ q, q < t → r q = rv (dg g n c q)) → (∀ q, t ≤ q → q < n → r q = rv (dg g n (c + 1) q)) → mm_r (d + 1) mX2_turnRow (turnPost S g n c) 4 [some (.ref 0), some (.int (nI g)), some (.int (nI n)), some (.int (rv t))] [] (wSr (srRow S r)) := by
  intro t
  induction t with
  | zero =>
    intro r ht hc h1 h2
    refine r_iload_n (i := 3) 5 dX2_turnRow_4 rfl rfl rfl ?_
    refine r_if_lt 44 8 dX2_turnRow_5 rfl rfl (fun h5 => ?_) (fun h5 => absurd (show rv 0 < 0 by decide) h5)
    exact r_retv dX2_turnRow_44 rfl ⟨Nat.le_refl _, Nat.le_refl _⟩ (fun _ => rfl) (⟨rfl, r, rfl, fun t ht => h2 t (Nat.zero_le _) ht⟩)
  | succ t ih =>
    intro r ht hc h1 h2
    have e0 : rv (t + 1) = nI t := by rw [rv_pos (by omega)]; rfl
    have hin : vp_in (nI t) 4 := vp_in_nI (by omega) (by decide)
    have hdl := dg_le g n c t
    obtain ⟨a1, a2, a3⟩ := dg_next (g := g) (c := c) (show t < n by omega) (n - (t + 1)) (by omega) hc
    rw [e0]
    have hrt : r t = rv (dg g n c t) := h1 t (by omega)
    refine r_iload_n (i := 3) 5 dX2_turnRow_4 rfl rfl rfl ?_
    refine r_if_lt 44 8 dX2_turnRow_5 rfl rfl (fun h5 => absurd h5 (nI_pos (by omega))) (fun h5 => ?_)
    refine r_aload_n (i := 0) 9 dX2_turnRow_8 rfl rfl rfl ?_
    refine r_getf 12 dX2_turnRow_9 rfl fl_X2_9 rfl rfl ?_
    refine r_iload_n (i := 3) 13 dX2_turnRow_12 rfl rfl rfl ?_
    refine r_iald 14 dX2_turnRow_13 rfl rfl (by assumption) ?_
    rw [nI_clamp (by omega), show (srRow S r).1 t = rv (dg g n c t) from hrt]
    refine r_iconst (v := 1) 15 dX2_turnRow_14 rfl rfl ?_
    refine r_iadd 16 dX2_turnRow_15 rfl ?_
    refine r_iload_n (i := 1) 17 dX2_turnRow_16 rfl rfl rfl ?_
    rw [rv_1]
    refine r_icmp_ge 31 20 dX2_turnRow_17 rfl rfl (fun h17 => ?_) (fun h17 => ?_)
    · have z := ble_of (by omega) (by omega) h17
      refine r_aload_n (i := 0) 32 dX2_turnRow_31 rfl rfl rfl ?_
      refine r_getf 35 dX2_turnRow_32 rfl fl_X2_9 rfl rfl ?_
      refine r_iload_n (i := 3) 36 dX2_turnRow_35 rfl rfl rfl ?_
      refine r_iconst (v := (-1)) 37 dX2_turnRow_36 rfl rfl ?_
      refine r_iast 38 dX2_turnRow_37 rfl rfl (by assumption) ?_
      refine r_iinc (i := 3) 41 dX2_turnRow_38 rfl rfl (rv_m t) rfl ?_
      refine r_goto 4 dX2_turnRow_41 rfl ?_
      rw [nI_clamp (n := t) (by omega)]
      exact ih (upd r t (-1)) (by omega) (by rw [show n - t = n - (t + 1) + 1 by omega]; exact (a3 (by omega)).1) (fun q hq => by simp only [upd, if_neg (Nat.ne_of_lt hq)]; exact h1 q (by omega)) (fun q hq hq2 => by by_cases w : q = t; (· subst w; simp only [upd, if_true]; rw [(a3 (by omega)).2]; rfl); (· simp only [upd, if_neg w]; exact h2 q (by omega) hq2))
    · have z := bnle_of (by omega) (by omega) h17
      refine r_aload_n (i := 0) 21 dX2_turnRow_20 rfl rfl rfl ?_
      refine r_getf 24 dX2_turnRow_21 rfl fl_X2_9 rfl rfl ?_
      refine r_iload_n (i := 3) 25 dX2_turnRow_24 rfl rfl rfl ?_
      refine r_dup2 26 dX2_turnRow_25 rfl rfl rfl ?_
      refine r_iald 27 dX2_turnRow_26 rfl rfl (by assumption) ?_
      refine r_iconst (v := 1) 28 dX2_turnRow_27 rfl rfl ?_
      refine r_iadd 29 dX2_turnRow_28 rfl ?_
      rw [nI_clamp (by omega), show (srRow S r).1 t = rv (dg g n c t) from hrt, rv_1]
      refine r_iast 30 dX2_turnRow_29 rfl rfl (by assumption) ?_
      exact r_retv dX2_turnRow_30 rfl ⟨Nat.le_refl _, Nat.le_refl _⟩ (fun _ => rfl) (⟨rfl, upd r t (nI (dg g n c t)), by rw [nI_clamp (by omega)]; rfl, fun q hq => by by_cases w : q = t; (· subst w; simp only [upd, if_true]; rw [(a1 z).1, rv_pos (by omega)]; rfl); (· simp only [upd, if_neg w]; rcases Nat.lt_or_ge q t with y | y; (· rw [h1 q (by omega), (a1 z).2 q y]); (· exact h2 q (by omega) hq))⟩)
theorem e_turn {g n c : Nat} (hg : g ≤ 4) (hn : n ≤ 4) (hr : ∀ q, q < n → S.1 q = rv (dg g n c q)) : mm_e (d + 1) yX2_turnRow mX2_turnRow [.ref 0, .int (nI g), .int (nI n)] (wSr S) (turnPost S g n c) := by
  refine e_of [some (.ref 0), some (.int (nI g)), some (.int (nI n)), none] rfl (by decide) rfl rfl rfl ?_
  refine r_iload_n (i := 2) 1 dX2_turnRow_0 rfl rfl rfl ?_
  refine r_iconst (v := 1) 2 dX2_turnRow_1 rfl rfl ?_
  refine r_isub 3 dX2_turnRow_2 rfl ?_
  refine r_istore_n (i := 3) 4 dX2_turnRow_3 rfl rfl rfl ?_
  exact l_turn hg hn n S.1 (Nat.le_refl _) (by rw [Nat.sub_self, Nat.pow_zero, Nat.mod_one]) hr (fun q h1 h2 => by omega)
/-- what is held behind the codes up to i -/
def hld (S : SrT) (A : sA) (n : Nat) (b : Option Nat) : Prop := match b with
  | none => S.2.2.2.2.1 = 0
  | some c => S.2.2.2.2.1 = 1 ∧ S.2.2.1 = nI n ∧ S.2.2.2.1 = nI (prc A n c) ∧ ∀ t, t < n → S.2.1 t = rv (dg (sG A) n c t)
def tryPost (A : sA) (x n : Nat) (G : Option (Nat × Nat)) (F : FlT) : Option Value → mm_W → Prop := fun v u => v = none ∧ ∃ S : SrT, u = wRF S F ∧ aim S G (sN A) ∧ hld S A n (bst A x n G ((sG A + 1) ^ n))
theorem back_RF (S S' : SrT) (F : FlT) : mm_back [0, 1, 2] (wRF S F) (wSr S') = wRF S' F := rfl
theorem back_RF2 (S S' : SrT) (F F' : FlT) : mm_back [0, 1, 2, 3, 4, 5, 6, 7, 8, 9, 10] (wRF S F) (wRF S' F') = wRF S' F' := rfl
theorem dg_0 (g n t : Nat) : dg g n 0 t = 0 := by rw [dg, Nat.zero_div, Nat.zero_mod]
theorem prc_le {A : sA} (hA : sOk A) (n c : Nat) : prc A n c ≤ 9 * n := wP_le hA (fun t => dg_le _ _ _ t) n
theorem p5_le {g n : Nat} (hg : g ≤ 4) (hn : n ≤ 4) : (g + 1) ^ n ≤ 625 := Nat.le_trans (Nat.pow_le_pow_left (show g + 1 ≤ 5 by omega) n) (Nat.le_trans (Nat.pow_le_pow_right (by decide) hn) (by decide))
theorem l_try2 {G : Option (Nat × Nat)} (h : fok F A) {x n : Nat} (hfx : fSt F = nI x) (hx : x < 2 ^ sN A) (hn : n ≤ 4) : ∀ (k i : Nat) (S : SrT), (sG A + 1) ^ n - i = k → i ≤ (sG A + 1) ^ n → (∀ t, t < n → S.1 t = rv (dg (sG A) n i t)) → aim S G (sN A) → hld S A n (bst A x n G i) → mm_r (d + 5) mX2_tryRows (tryPost A x n G F) 35 [some (.ref 0), some (.ref 3), some (.int (nI n)), some (.int (nI ((sG A + 1) ^ n))), some (.int (nI i))] [] (wRF S F) := by
  intro k
  have hg4 := h.g4
  have p5 := p5_le hg4 hn
  induction k with
  | zero =>
    intro i S hk hi hr ha hh
    have e : i = (sG A + 1) ^ n := by omega
    refine r_iload (i := 4) 37 dX2_tryRows_35 rfl rfl ?_
    refine r_iload_n (i := 3) 38 dX2_tryRows_37 rfl rfl rfl ?_
    refine r_icmp_ge 88 41 dX2_tryRows_38 rfl rfl (fun h38 => ?_) (fun h38 => absurd (by rw [e]; exact Int32.le_refl _) h38)
    exact r_retv dX2_tryRows_88 rfl ⟨Nat.le_refl _, Nat.le_refl _⟩ (fun _ => rfl) (⟨rfl, S, rfl, ha, by rw [← e]; exact hh⟩)
  | succ k ih =>
    intro i S hk hi hr ha hh
    have hsok : sOk A := h.2.2.2.2.2.2
    have pl := prc_le hsok n i
    have turn : ∀ (S' : SrT), S'.1 = S.1 → aim S' G (sN A) → hld S' A n (bst A x n G (i + 1)) → mm_r (d + 5) mX2_tryRows (tryPost A x n G F) 73 [some (.ref 0), some (.ref 3), some (.int (nI n)), some (.int (nI ((sG A + 1) ^ n))), some (.int (nI i))] [] (wRF S' F) := by
      intro S' h1 h2 h3
      refine r_aload_n (i := 0) 74 dX2_tryRows_73 rfl rfl rfl ?_
      refine r_aload_n (i := 1) 75 dX2_tryRows_74 rfl rfl rfl ?_
      refine r_getf 78 dX2_tryRows_75 rfl fl_X2_29 rfl rfl ?_
      rw [h.gu]
      refine r_iload_n (i := 2) 79 dX2_tryRows_78 rfl rfl rfl ?_
      refine r_callVq [0, 1, 2] 82 dX2_tryRows_79 rfl ykX2_turnRow lk_X2_52 (e_turn (S := S') (c := i) hg4 hn (by rw [h1]; exact hr)) rfl rfl rfl rfl rfl rfl rfl ⟨Nat.le_refl _, Nat.le_refl _⟩ (fun v u hq => ?_)
      obtain ⟨rfl, r, rfl, hr2⟩ := hq
      rw [back_RF]
      refine r_iinc (i := 4) 85 dX2_tryRows_82 rfl rfl (by first | exact nI_1 _ | rfl) rfl ?_
      refine r_goto 35 dX2_tryRows_85 rfl ?_
      exact ih (i + 1) (srRow S' r) (by omega) (by omega) hr2 h2 h3
    refine r_iload (i := 4) 37 dX2_tryRows_35 rfl rfl ?_
    refine r_iload_n (i := 3) 38 dX2_tryRows_37 rfl rfl rfl ?_
    refine r_icmp_ge 88 41 dX2_tryRows_38 rfl rfl (fun h38 => absurd (ble_of (by omega) (by omega) h38) (by omega)) (fun h38 => ?_)
    refine r_aload_n (i := 0) 42 dX2_tryRows_41 rfl rfl rfl ?_
    refine r_aload_n (i := 1) 43 dX2_tryRows_42 rfl rfl rfl ?_
    refine r_iload_n (i := 2) 44 dX2_tryRows_43 rfl rfl rfl ?_
    refine r_callVq [0, 1, 2, 3, 4, 5, 6, 7, 8, 9, 10] 47 dX2_tryRows_44 rfl ykX2_succeeds lk_X2_38 (e_succ (G := G) h hfx hx hn (fun t => dg_le (sG A) n i t) hr ha) rfl rfl rfl rfl rfl rfl rfl ⟨Nat.le_refl _, Nat.le_refl _⟩ (fun v u hq => ?_)
    obtain ⟨rfl, p, rfl, hp⟩ := hq
    rw [back_RF2]
    have eo : (wC A (dg (sG A) n i) x n && gl A G (wS A (dg (sG A) n i) x n)) = okc A x n G i := rfl
    rw [eo] at hp ⊢
    cases hb : bst A x n G i with
    | none =>
      rw [hb] at hh
      have hh0 : S.2.2.2.2.1 = 0 := hh
      refine r_if_eq 73 50 dX2_tryRows_47 rfl rfl (fun h47 => ?_) (fun h47 => ?_)
      · have g := bI_eq0 h47
        exact turn (srP S p) rfl ha (by rw [bst, hb]; simp only [g]; exact hh0)
      · have g := bI_ne0 h47
        refine r_aload_n (i := 0) 51 dX2_tryRows_50 rfl rfl rfl ?_
        refine r_getf 54 dX2_tryRows_51 rfl fl_X2_25 rfl rfl ?_
        refine r_if_eq 68 57 dX2_tryRows_54 rfl rfl (fun h54 => ?_) (fun h54 => absurd hh0 h54)
        refine r_aload_n (i := 0) 69 dX2_tryRows_68 rfl rfl rfl ?_
        refine r_iload_n (i := 2) 70 dX2_tryRows_69 rfl rfl rfl ?_
        refine r_callVu [0, 1, 2] 73 dX2_tryRows_70 rfl ykX2_holdRow lk_X2_48 (e_holdRow (S := srP S p) hn) rfl rfl rfl rfl rfl rfl rfl ⟨Nat.le_refl _, Nat.le_refl _⟩ ?_
        rw [back_RF]
        exact turn (srH (srP S p) n) rfl ha (by rw [bst, hb]; simp only [g, if_true]; exact ⟨rfl, rfl, hp g, fun t ht => by show va_cpy S.1 S.2.1 0 0 n t = _; rw [pk_cpy_in (Nat.zero_le _) (by omega), Nat.zero_add, Nat.sub_zero]; exact hr t ht⟩)
    | some c =>
      rw [hb] at hh
      obtain ⟨hf1, hf2, hf3, hf4⟩ := hh
      have pl2 := prc_le hsok n c
      refine r_if_eq 73 50 dX2_tryRows_47 rfl rfl (fun h47 => ?_) (fun h47 => ?_)
      · have g := bI_eq0 h47
        refine turn (srP S p) rfl ha ?_
        rw [bst, hb]
        first | (simp only [g, Bool.false_and]; exact ⟨hf1, hf2, hf3, hf4⟩) | (simp only [g, show ¬ prc A n i < prc A n c by omega, decide_false, Bool.and_false]; exact ⟨hf1, hf2, hf3, hf4⟩)
      · have g := bI_ne0 h47
        refine r_aload_n (i := 0) 51 dX2_tryRows_50 rfl rfl rfl ?_
        refine r_getf 54 dX2_tryRows_51 rfl fl_X2_25 rfl rfl ?_
        refine r_if_eq 68 57 dX2_tryRows_54 rfl rfl (fun h54 => absurd (show (1 : Int32) = 0 from by rw [← hf1]; exact h54) (by decide)) (fun h54 => ?_)
        refine r_aload_n (i := 0) 58 dX2_tryRows_57 rfl rfl rfl ?_
        refine r_getf 61 dX2_tryRows_58 rfl fl_X2_42 rfl rfl ?_
        refine r_aload_n (i := 0) 62 dX2_tryRows_61 rfl rfl rfl ?_
        refine r_getf 65 dX2_tryRows_62 rfl fl_X2_45 rfl rfl ?_
        rw [show (srP S p).2.2.2.2.2.2.2 = nI (prc A n i) from hp g, show (srP S p).2.2.2.1 = nI (prc A n c) from hf3]
        refine r_icmp_ge 73 68 dX2_tryRows_65 rfl rfl (fun h65 => ?_) (fun h65 => ?_)
        · have g2 := ble_of (by omega) (by omega) h65
          refine turn (srP S p) rfl ha ?_
          rw [bst, hb]
          first | (simp only [g, Bool.false_and]; exact ⟨hf1, hf2, hf3, hf4⟩) | (simp only [g, show ¬ prc A n i < prc A n c by omega, decide_false, Bool.and_false]; exact ⟨hf1, hf2, hf3, hf4⟩)
        · have g2 := bnle_of (by omega) (by omega) h65
          refine r_aload_n (i := 0) 69 dX2_tryRows_68 rfl rfl rfl ?_
          refine r_iload_n (i := 2) 70 dX2_tryRows_69 rfl rfl rfl ?_
          refine r_callVu [0, 1, 2] 73 dX2_tryRows_70 rfl ykX2_holdRow lk_X2_48 (e_holdRow (S := srP S p) hn) rfl rfl rfl rfl rfl rfl rfl ⟨Nat.le_refl _, Nat.le_refl _⟩ ?_
          rw [back_RF]
          exact turn (srH (srP S p) n) rfl ha (by rw [bst, hb]; simp only [g, g2, decide_true, Bool.and_self, if_true]; exact ⟨rfl, rfl, hp g, fun t ht => by show va_cpy S.1 S.2.1 0 0 n t = _; rw [pk_cpy_in (Nat.zero_le _) (by omega), Nat.zero_add, Nat.sub_zero]; exact hr t ht⟩)
theorem l_try1 {G : Option (Nat × Nat)} (h : fok F A) {x n : Nat} (hfx : fSt F = nI x) (hx : x < 2 ^ sN A) (hn : n ≤ 4) : ∀ (k i : Nat) (S : SrT), n - i = k → i ≤ n → (∀ t, t < i → S.1 t = -1) → aim S G (sN A) → S.2.2.2.2.1 = 0 → mm_r (d + 5) mX2_tryRows (tryPost A x n G F) 2 [some (.ref 0), some (.ref 3), some (.int (nI n)), some (.int (nI i)), none] [] (wRF S F) := by
  intro k
  have hg4 := h.g4
  have p5 := p5_le hg4 hn
  induction k with
  | zero =>
    intro i S hk hi hr ha hf
    have e : i = n := by omega
    subst e
    refine r_iload_n (i := 3) 3 dX2_tryRows_2 rfl rfl rfl ?_
    refine r_iload_n (i := 2) 4 dX2_tryRows_3 rfl rfl rfl ?_
    refine r_icmp_ge 20 7 dX2_tryRows_4 rfl rfl (fun h4 => ?_) (fun h4 => absurd (Int32.le_refl _) h4)
    refine r_aload_n (i := 1) 21 dX2_tryRows_20 rfl rfl rfl ?_
    refine r_getf 24 dX2_tryRows_21 rfl fl_X2_29 rfl rfl ?_
    rw [h.gu]
    refine r_iconst (v := 1) 25 dX2_tryRows_24 rfl rfl ?_
    refine r_iadd 26 dX2_tryRows_25 rfl ?_
    rw [nI_1]
    refine r_iload_n (i := 2) 27 dX2_tryRows_26 rfl rfl rfl ?_
    refine r_callSl [] 30 dX2_tryRows_27 rfl ykX7_power lk_X2_34 (e_power (by omega) (by omega)) rfl rfl rfl ⟨Nat.le_refl _, Nat.le_refl _⟩ ?_
    refine r_l2i 31 dX2_tryRows_30 rfl ?_
    rw [lN_i]
    refine r_istore_n (i := 3) 32 dX2_tryRows_31 rfl rfl rfl ?_
    refine r_iconst (v := 0) 33 dX2_tryRows_32 rfl rfl ?_
    refine r_istore (i := 4) 35 dX2_tryRows_33 rfl rfl ?_
    exact l_try2 h hfx hx hn _ 0 S rfl (Nat.zero_le _) (fun t ht => by rw [dg_0, hr t ht]; rfl) ha hf
  | succ k ih =>
    intro i S hk hi hr ha hf
    have hin : vp_in (nI i) 4 := vp_in_nI (by omega) (by decide)
    refine r_iload_n (i := 3) 3 dX2_tryRows_2 rfl rfl rfl ?_
    refine r_iload_n (i := 2) 4 dX2_tryRows_3 rfl rfl rfl ?_
    refine r_icmp_ge 20 7 dX2_tryRows_4 rfl rfl (fun h4 => absurd (ble_of (by omega) (by omega) h4) (by omega)) (fun h4 => ?_)
    refine r_aload_n (i := 0) 8 dX2_tryRows_7 rfl rfl rfl ?_
    refine r_getf 11 dX2_tryRows_8 rfl fl_X2_9 rfl rfl ?_
    refine r_iload_n (i := 3) 12 dX2_tryRows_11 rfl rfl rfl ?_
    refine r_iconst (v := (-1)) 13 dX2_tryRows_12 rfl rfl ?_
    refine r_iast 14 dX2_tryRows_13 rfl rfl (by assumption) ?_
    refine r_iinc (i := 3) 17 dX2_tryRows_14 rfl rfl (by first | exact nI_1 _ | rfl) rfl ?_
    refine r_goto 2 dX2_tryRows_17 rfl ?_
    rw [nI_clamp (n := i) (by omega)]
    exact ih (i + 1) (srRow S (upd S.1 i (-1))) (by omega) (by omega) (fun t ht => by by_cases w : t = i; (· subst w; simp only [upd, if_true]); (· simp only [upd, if_neg w]; exact hr t (by omega))) ha hf
theorem e_try {G : Option (Nat × Nat)} (h : fok F A) {x n : Nat} (hfx : fSt F = nI x) (hx : x < 2 ^ sN A) (hn : n ≤ 4) (ha : aim S G (sN A)) (hf : S.2.2.2.2.1 = 0) : mm_e (d + 5) yX2_tryRows mX2_tryRows [.ref 0, .ref 3, .int (nI n)] (wRF S F) (tryPost A x n G F) := by
  refine e_of [some (.ref 0), some (.ref 3), some (.int (nI n)), none, none] rfl (by decide) rfl rfl rfl ?_
  refine r_iconst (v := 0) 1 dX2_tryRows_0 rfl rfl ?_
  refine r_istore_n (i := 3) 2 dX2_tryRows_1 rfl rfl rfl ?_
  exact l_try1 h hfx hx hn _ 0 S rfl (Nat.zero_le _) (fun t ht => absurd ht (Nat.not_lt_zero t)) ha hf
/-- who goes ahead of a year -/
def who (g n : Nat) (b : Option Nat) (t : Int32) : Int32 := match b with
  | none => -4
  | some c => if ¬ t < 0 ∧ ¬ nI n ≤ t ∧ ¬ dg g n c t.toNatClampNeg = 0 then nI (dg g n c t.toNatClampNeg - 1) else -4
theorem e_guestAhead {n : Nat} {b : Option Nat} (h : hld S A n b) (hn : n ≤ 4) (hg : sG A ≤ 4) (t : Int32) : mm_e (d + 1) yX2_guestAhead mX2_guestAhead [.ref 0, .int t] (wSr S) (mm_q (some (.int (who (sG A) n b t))) (wSr S)) := by
  refine e_of [some (.ref 0), some (.int t)] rfl (by decide) rfl rfl rfl ?_
  cases b with
  | none =>
    have h0 : S.2.2.2.2.1 = 0 := h
    refine r_aload_n (i := 0) 1 dX2_guestAhead_0 rfl rfl rfl ?_
    refine r_getf 4 dX2_guestAhead_1 rfl fl_X2_25 rfl rfl ?_
    refine r_if_eq 29 7 dX2_guestAhead_4 rfl rfl (fun h4 => ?_) (fun h4 => absurd h0 h4)
    refine r_bipush (v := (-4)) 31 dX2_guestAhead_29 rfl rfl ?_
    exact r_reti dX2_guestAhead_31 rfl (by first | rfl | exact bI_nar _) ⟨Nat.le_refl _, Nat.le_refl _⟩ (fun _ => rfl) (⟨rfl, rfl⟩)
  | some c =>
    obtain ⟨h1, h2, h3, h4'⟩ := h
    have ne0 : ∀ {k : Nat}, k ≤ 4 → (rv k = -1 ↔ k = 0) := fun {k} hk => by
      rcases (by omega : k = 0 ∨ k = 1 ∨ k = 2 ∨ k = 3 ∨ k = 4) with q | q | q | q | q <;> rw [q] <;> decide
    refine r_aload_n (i := 0) 1 dX2_guestAhead_0 rfl rfl rfl ?_
    refine r_getf 4 dX2_guestAhead_1 rfl fl_X2_25 rfl rfl ?_
    refine r_if_eq 29 7 dX2_guestAhead_4 rfl rfl (fun h4 => absurd (show (1 : Int32) = 0 from by rw [← h1]; exact h4) (by decide)) (fun h4 => ?_)
    refine r_iload_n (i := 1) 8 dX2_guestAhead_7 rfl rfl rfl ?_
    refine r_if_lt 29 11 dX2_guestAhead_8 rfl rfl (fun h8 => ?_) (fun h8 => ?_)
    · refine r_bipush (v := (-4)) 31 dX2_guestAhead_29 rfl rfl ?_
      exact r_reti dX2_guestAhead_31 rfl (by first | rfl | exact bI_nar _) ⟨Nat.le_refl _, Nat.le_refl _⟩ (fun _ => rfl) (⟨by first | (simp [who, h8]; done) | (simp [who, h16]; done) | (rw [who, nI_clamp (n := j) (by omega)]; simp [h8, h16, g]; done) | (rw [who, nI_clamp (n := j) (by omega), rv_pos g]; simp [h8, h16, g]; done), rfl⟩)
    · refine r_iload_n (i := 1) 12 dX2_guestAhead_11 rfl rfl rfl ?_
      refine r_aload_n (i := 0) 13 dX2_guestAhead_12 rfl rfl rfl ?_
      refine r_getf 16 dX2_guestAhead_13 rfl fl_X2_97 rfl rfl ?_
      rw [h2]
      refine r_icmp_ge 29 19 dX2_guestAhead_16 rfl rfl (fun h16 => ?_) (fun h16 => ?_)
      · refine r_bipush (v := (-4)) 31 dX2_guestAhead_29 rfl rfl ?_
        exact r_reti dX2_guestAhead_31 rfl (by first | rfl | exact bI_nar _) ⟨Nat.le_refl _, Nat.le_refl _⟩ (fun _ => rfl) (⟨by first | (simp [who, h8]; done) | (simp [who, h16]; done) | (rw [who, nI_clamp (n := j) (by omega)]; simp [h8, h16, g]; done) | (rw [who, nI_clamp (n := j) (by omega), rv_pos g]; simp [h8, h16, g]; done), rfl⟩)
      · have ht : inb (nI n) t = true := inb_t h8 h16
        obtain ⟨j, hj, rfl⟩ := inb_nI (by omega) ht
        have hin : vp_in (nI j) 4 := vp_in_nI (by omega) (by decide)
        have hd := dg_le (sG A) n c j
        refine r_aload_n (i := 0) 20 dX2_guestAhead_19 rfl rfl rfl ?_
        refine r_getf 23 dX2_guestAhead_20 rfl fl_X2_15 rfl rfl ?_
        refine r_iload_n (i := 1) 24 dX2_guestAhead_23 rfl rfl rfl ?_
        refine r_iald 25 dX2_guestAhead_24 rfl rfl (by assumption) ?_
        rw [nI_clamp (by omega), h4' j hj]
        refine r_iconst (v := (-1)) 26 dX2_guestAhead_25 rfl rfl ?_
        refine r_icmp_ne 32 29 dX2_guestAhead_26 rfl rfl (fun h26 => ?_) (fun h26 => ?_)
        · have g := mt (ne0 (k := dg (sG A) n c j) (by omega)).mpr h26
          refine r_aload_n (i := 0) 33 dX2_guestAhead_32 rfl rfl rfl ?_
          refine r_getf 36 dX2_guestAhead_33 rfl fl_X2_15 rfl rfl ?_
          refine r_iload_n (i := 1) 37 dX2_guestAhead_36 rfl rfl rfl ?_
          refine r_iald 38 dX2_guestAhead_37 rfl rfl (by assumption) ?_
          rw [nI_clamp (by omega), h4' j hj]
          exact r_reti dX2_guestAhead_38 rfl (by first | rfl | exact bI_nar _) ⟨Nat.le_refl _, Nat.le_refl _⟩ (fun _ => rfl) (⟨by first | (simp [who, h8]; done) | (simp [who, h16]; done) | (rw [who, nI_clamp (n := j) (by omega)]; simp [h8, h16, g]; done) | (rw [who, nI_clamp (n := j) (by omega), rv_pos g]; simp [h8, h16, g]; done), rfl⟩)
        · have g := (ne0 (k := dg (sG A) n c j) (by omega)).mp h26
          refine r_bipush (v := (-4)) 31 dX2_guestAhead_29 rfl rfl ?_
          exact r_reti dX2_guestAhead_31 rfl (by first | rfl | exact bI_nar _) ⟨Nat.le_refl _, Nat.le_refl _⟩ (fun _ => rfl) (⟨by first | (simp [who, h8]; done) | (simp [who, h16]; done) | (rw [who, nI_clamp (n := j) (by omega)]; simp [h8, h16, g]; done) | (rw [who, nI_clamp (n := j) (by omega), rv_pos g]; simp [h8, h16, g]; done), rfl⟩)
end X2
