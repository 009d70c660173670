-- TALLIES OF THE REFERENCE
def tmA (M : Nat) (p : Nat → Bool) : Nat → Nat
  | 0 => M
  | n + 1 => if p n then tmA M p n &&& n else tmA M p n
theorem tmA_eq {N : Nat} (hN : N ≤ 6) (p : Nat → Bool) : ∀ n, tmA (2 ^ N - 1) p n = tlA p n &&& (2 ^ N - 1)
  | 0 => by
    show 2 ^ N - 1 = 63 &&& (2 ^ N - 1)
    rcases (by omega : N = 0 ∨ N = 1 ∨ N = 2 ∨ N = 3 ∨ N = 4 ∨ N = 5 ∨ N = 6) with z | z | z | z | z | z | z <;> rw [z] <;> decide
  | n + 1 => by
    rw [tmA, tlA, tmA_eq hN p n]
    split
    · rw [Nat.and_assoc, Nat.and_assoc, Nat.and_comm (2 ^ N - 1) n]
    · rfl
theorem tlA_lt (p : Nat → Bool) {M : Nat} : ∀ n, n ≤ M → ¬ fb_ct p n = 0 → tlA p n < M
  | 0, _, h => absurd rfl h
  | n + 1, hn, h => by
    rw [tlA]
    rw [fb_ct_succ] at h
    cases hp : p n with
    | true =>
      rw [if_pos rfl]
      have := Nat.and_le_right (n := tlA p n) (m := n)
      omega
    | false =>
      rw [hp] at h
      rw [if_neg (by decide)]
      exact tlA_lt p n (by omega) h
theorem tmA_tlA {N : Nat} (hN : N ≤ 6) (p : Nat → Bool) {n : Nat} (hn : n ≤ 2 ^ N) (h : ¬ fb_ct p n = 0) : tmA (2 ^ N - 1) p n = tlA p n := by
  rw [tmA_eq hN, Nat.and_two_pow_sub_one_eq_mod, Nat.mod_eq_of_lt (tlA_lt p n hn h)]
def mtl (N : Nat) (p : Nat → Bool) (n : Nat) : mQu := (nI (fb_ct p n), (if fb_ct p n = 0 then -4 else nI (tlL p n)), nI (tmA (2 ^ N - 1) p n), nI (tlS p n))
theorem mtl_0 (N : Nat) (p : Nat → Bool) : mtl N p 0 = (0, -4, nI (2 ^ N - 1), 0) := rfl
theorem mtl_no (N : Nat) {p : Nat → Bool} {n : Nat} (h : p n = false) : mtl N p n = mtl N p (n + 1) := by
  unfold mtl
  rw [fb_ct_succ, tlL, tmA, tlS, h]
  rfl
theorem mtl_yes (N : Nat) {p : Nat → Bool} {n : Nat} (h : p n = true) : (nI (fb_ct p n + 1), (if fb_ct p n = 0 then nI n else (if fb_ct p n = 0 then -4 else nI (tlL p n))), nI (tmA (2 ^ N - 1) p n &&& n), nI (tlS p n ||| n)) = mtl N p (n + 1) := by
  unfold mtl
  rw [fb_ct_succ, tlL, tmA, tlS, h, if_pos rfl, if_pos rfl, if_pos rfl, if_pos rfl, if_neg (show ¬ fb_ct p n + 1 = 0 by omega)]
  by_cases q : fb_ct p n = 0
  · rw [if_pos q, if_pos q]
  · rw [if_neg q, if_neg q, if_neg q]
theorem mtl_tla {N : Nat} (hN : N ≤ 6) (p : Nat → Bool) {n : Nat} (hn : n ≤ 2 ^ N) (what : Int32) : tans (mtl N p n).1 (mtl N p n).2.1 (mtl N p n).2.2.1 (mtl N p n).2.2.2 what = tla p n what := by
  have p6 := p2_le hN
  have hl := fb_ct_le p n
  show tans (nI (fb_ct p n)) (if fb_ct p n = 0 then -4 else nI (tlL p n)) (nI (tmA (2 ^ N - 1) p n)) (nI (tlS p n)) what = tans (nI (fb_ct p n)) (nI (tlL p n)) (nI (tlA p n)) (nI (tlS p n)) what
  by_cases q : fb_ct p n = 0
  · rw [q]
    unfold tans
    rfl
  · rw [if_neg q, tmA_tlA hN p hn q]
theorem fit_iff {V : sV} {N : Nat} (hV : vok V N) (A : sA) (x : Nat) : fit V A x = allb (fun i => decide (tb (ny A (V.2.2.1 i) x) (V.2.1 i) = V.2.2.2 i)) V.1 := by
  rw [Bool.eq_iff_iff]
  unfold fit
  rw [allb_iff, allb_iff]
  constructor
  · intro h i hi
    have h1 := h (V.2.2.1 i) (by have := (hV.2 i hi).2.1; omega)
    unfold sy at h1
    have h2 := allb_iff.mp h1 i hi
    simpa using h2
  · intro h n hn
    unfold sy
    rw [allb_iff]
    intro i hi
    have h1 := h i hi
    by_cases q : V.2.2.1 i = n
    · subst q
      simpa using h1
    · simp [q]
section MF
variable {d : Nat} {S : sT} {w : mm_W} {W : MT} {A : sA}
theorem relM_To (h : relM W S) (t : mQu) : relM (zTo W t) S := h
theorem e2_tellsNone (h : mok W.1 A) (p : Nat → Bool) : mm_e (d + 2) yX8_tellsNone mX8_tellsNone [.ref 0] (wM W) (mm_q none (wM (zTo W (mtl (sN A) p 0)))) := by
  have h6 := h.n6
  have hp : 0 < 2 ^ sN A := Nat.two_pow_pos _
  have e1 : nI (2 ^ sN A) - 1 = nI (2 ^ sN A - 1) := by rw [show (1 : Int32) = nI 1 from rfl, pk_sub (by omega)]
  refine e_of [some (.ref 0)] rfl (by decide) rfl rfl rfl ?_
  refine r_aload_n (i := 0) 1 dX8_tellsNone_0 rfl rfl rfl ?_
  refine r_iconst (v := 0) 2 dX8_tellsNone_1 rfl rfl ?_
  refine r_putf 5 dX8_tellsNone_2 rfl fl_X8_200 rfl rfl (fun _ _ => ⟨rfl, rfl⟩) (fun z => absurd z Bool.false_ne_true) ?_
  refine r_aload_n (i := 0) 6 dX8_tellsNone_5 rfl rfl rfl ?_
  refine r_bipush (v := (-4)) 8 dX8_tellsNone_6 rfl rfl ?_
  refine r_putf 11 dX8_tellsNone_8 rfl fl_X8_203 rfl rfl (fun _ _ => ⟨rfl, rfl⟩) (fun z => absurd z Bool.false_ne_true) ?_
  skip
  show mm_r (d + 2) mX8_tellsNone _ 11 [some (.ref 0)] [] (wM (zTo W (0, -4, W.2.2.2.1.2.2)))
  refine r_aload_n (i := 0) 12 dX8_tellsNone_11 rfl rfl rfl ?_
  refine r_aload_n (i := 0) 13 dX8_tellsNone_12 rfl rfl rfl ?_
  refine r_callMi 16 dX8_tellsNone_13 rfl ykX8_states lk_X8_134 (e2_states (W := zTo W (0, -4, W.2.2.2.1.2.2)) h) rfl rfl rfl rfl rfl rfl ⟨Nat.le_refl _, Nat.le_refl _⟩ ?_
  refine r_iconst (v := 1) 17 dX8_tellsNone_16 rfl rfl ?_
  refine r_isub 18 dX8_tellsNone_17 rfl ?_
  rw [e1]
  refine r_putf 21 dX8_tellsNone_18 rfl fl_X8_206 rfl rfl (fun _ _ => ⟨rfl, rfl⟩) (fun z => absurd z Bool.false_ne_true) ?_
  refine r_aload_n (i := 0) 22 dX8_tellsNone_21 rfl rfl rfl ?_
  refine r_iconst (v := 0) 23 dX8_tellsNone_22 rfl rfl ?_
  refine r_putf 26 dX8_tellsNone_23 rfl fl_X8_209 rfl rfl (fun _ _ => ⟨rfl, rfl⟩) (fun z => absurd z Bool.false_ne_true) ?_
  exact r_retv dX8_tellsNone_26 rfl ⟨Nat.le_refl _, Nat.le_refl _⟩ (fun _ => rfl) (⟨rfl, rfl⟩)
theorem e2_tells {p : Nat → Bool} {i : Nat} (ht : W.2.2.2.1 = mtl (sN A) p i) (hp : p i = true) (hi : i < 2 ^ 30) : mm_e (d + 1) yX8_tells mX8_tells [.ref 0, .int (nI i)] (wM W) (mm_q none (wM (zTo W (mtl (sN A) p (i + 1))))) := by
  have hl := fb_ct_le p i
  obtain ⟨C, R, T, To, Q⟩ := W
  have ht : To = mtl (sN A) p i := ht
  subst ht
  refine e_of [some (.ref 0), some (.int (nI i))] rfl (by decide) rfl rfl rfl ?_
  rw [← mtl_yes (sN A) hp]
  refine r_aload_n (i := 0) 1 dX8_tells_0 rfl rfl rfl ?_
  refine r_aload_n (i := 0) 2 dX8_tells_1 rfl rfl rfl ?_
  refine r_getf 5 dX8_tells_2 rfl fl_X8_200 rfl rfl ?_
  refine r_if_ne 12 8 dX8_tells_5 rfl rfl (fun h5 => ?_) (fun h5 => ?_)
  · have g := bne_of (a := fb_ct p i) (b := 0) (by omega) (by decide) h5
    refine r_aload_n (i := 0) 13 dX8_tells_12 rfl rfl rfl ?_
    refine r_getf 16 dX8_tells_13 rfl fl_X8_203 rfl rfl ?_
    refine r_putf 19 dX8_tells_16 rfl fl_X8_203 rfl rfl (fun _ _ => ⟨rfl, rfl⟩) (fun z => absurd z Bool.false_ne_true) ?_
    refine r_aload_n (i := 0) 20 dX8_tells_19 rfl rfl rfl ?_
    refine r_dup 21 dX8_tells_20 rfl rfl ?_
    refine r_getf 24 dX8_tells_21 rfl fl_X8_200 rfl rfl ?_
    refine r_iconst (v := 1) 25 dX8_tells_24 rfl rfl ?_
    refine r_iadd 26 dX8_tells_25 rfl ?_
    rw [show (C, R, T, mtl (sN A) p i, Q).2.2.2.1.1 + 1 = nI (fb_ct p i + 1) from nI_1 _]
    refine r_putf 29 dX8_tells_26 rfl fl_X8_200 rfl rfl (fun _ _ => ⟨rfl, rfl⟩) (fun z => absurd z Bool.false_ne_true) ?_
    refine r_aload_n (i := 0) 30 dX8_tells_29 rfl rfl rfl ?_
    refine r_dup 31 dX8_tells_30 rfl rfl ?_
    refine r_getf 34 dX8_tells_31 rfl fl_X8_206 rfl rfl ?_
    refine r_iload_n (i := 1) 35 dX8_tells_34 rfl rfl rfl ?_
    refine r_iand 36 dX8_tells_35 rfl ?_
    rw [show (C, R, T, mtl (sN A) p i, Q).2.2.2.1.2.2.1 &&& nI i = nI (tmA (2 ^ sN A - 1) p i &&& i) from fa_and _ _]
    refine r_putf 39 dX8_tells_36 rfl fl_X8_206 rfl rfl (fun _ _ => ⟨rfl, rfl⟩) (fun z => absurd z Bool.false_ne_true) ?_
    refine r_aload_n (i := 0) 40 dX8_tells_39 rfl rfl rfl ?_
    refine r_dup 41 dX8_tells_40 rfl rfl ?_
    refine r_getf 44 dX8_tells_41 rfl fl_X8_209 rfl rfl ?_
    refine r_iload_n (i := 1) 45 dX8_tells_44 rfl rfl rfl ?_
    refine r_ior 46 dX8_tells_45 rfl ?_
    rw [show (C, R, T, mtl (sN A) p i, Q).2.2.2.1.2.2.2 ||| nI i = nI (tlS p i ||| i) from fa_or _ _]
    refine r_putf 49 dX8_tells_46 rfl fl_X8_209 rfl rfl (fun _ _ => ⟨rfl, rfl⟩) (fun z => absurd z Bool.false_ne_true) ?_
    exact r_retv dX8_tells_49 rfl ⟨Nat.le_refl _, Nat.le_refl _⟩ (fun _ => rfl) (⟨rfl, by first | (rw [if_pos g]; rfl) | (rw [if_neg g]; rfl)⟩)
  · have g := beq_of (a := fb_ct p i) (b := 0) (by omega) (by decide) h5
    refine r_iload_n (i := 1) 9 dX8_tells_8 rfl rfl rfl ?_
    refine r_goto 16 dX8_tells_9 rfl ?_
    refine r_putf 19 dX8_tells_16 rfl fl_X8_203 rfl rfl (fun _ _ => ⟨rfl, rfl⟩) (fun z => absurd z Bool.false_ne_true) ?_
    refine r_aload_n (i := 0) 20 dX8_tells_19 rfl rfl rfl ?_
    refine r_dup 21 dX8_tells_20 rfl rfl ?_
    refine r_getf 24 dX8_tells_21 rfl fl_X8_200 rfl rfl ?_
    refine r_iconst (v := 1) 25 dX8_tells_24 rfl rfl ?_
    refine r_iadd 26 dX8_tells_25 rfl ?_
    rw [show (C, R, T, mtl (sN A) p i, Q).2.2.2.1.1 + 1 = nI (fb_ct p i + 1) from nI_1 _]
    refine r_putf 29 dX8_tells_26 rfl fl_X8_200 rfl rfl (fun _ _ => ⟨rfl, rfl⟩) (fun z => absurd z Bool.false_ne_true) ?_
    refine r_aload_n (i := 0) 30 dX8_tells_29 rfl rfl rfl ?_
    refine r_dup 31 dX8_tells_30 rfl rfl ?_
    refine r_getf 34 dX8_tells_31 rfl fl_X8_206 rfl rfl ?_
    refine r_iload_n (i := 1) 35 dX8_tells_34 rfl rfl rfl ?_
    refine r_iand 36 dX8_tells_35 rfl ?_
    rw [show (C, R, T, mtl (sN A) p i, Q).2.2.2.1.2.2.1 &&& nI i = nI (tmA (2 ^ sN A - 1) p i &&& i) from fa_and _ _]
    refine r_putf 39 dX8_tells_36 rfl fl_X8_206 rfl rfl (fun _ _ => ⟨rfl, rfl⟩) (fun z => absurd z Bool.false_ne_true) ?_
    refine r_aload_n (i := 0) 40 dX8_tells_39 rfl rfl rfl ?_
    refine r_dup 41 dX8_tells_40 rfl rfl ?_
    refine r_getf 44 dX8_tells_41 rfl fl_X8_209 rfl rfl ?_
    refine r_iload_n (i := 1) 45 dX8_tells_44 rfl rfl rfl ?_
    refine r_ior 46 dX8_tells_45 rfl ?_
    rw [show (C, R, T, mtl (sN A) p i, Q).2.2.2.1.2.2.2 ||| nI i = nI (tlS p i ||| i) from fa_or _ _]
    refine r_putf 49 dX8_tells_46 rfl fl_X8_209 rfl rfl (fun _ _ => ⟨rfl, rfl⟩) (fun z => absurd z Bool.false_ne_true) ?_
    exact r_retv dX8_tells_49 rfl ⟨Nat.le_refl _, Nat.le_refl _⟩ (fun _ => rfl) (⟨rfl, by first | (rw [if_pos g]; rfl) | (rw [if_neg g]; rfl)⟩)
theorem e2_told (what : Int32) : mm_e (d + 1) yX8_told mX8_told [.ref 0, .int what] (wM W) (mm_q (some (.int (tans W.2.2.2.1.1 W.2.2.2.1.2.1 W.2.2.2.1.2.2.1 W.2.2.2.1.2.2.2 what))) (wM W)) := by
  refine e_of [some (.ref 0), some (.int what)] rfl (by decide) rfl rfl rfl ?_
  refine r_iload_n (i := 1) 1 dX8_told_0 rfl rfl rfl ?_
  refine r_if_ne 11 4 dX8_told_1 rfl rfl (fun h1 => ?_) (fun h1 => ?_)
  · refine r_aload_n (i := 0) 12 dX8_told_11 rfl rfl rfl ?_
    refine r_getf 15 dX8_told_12 rfl fl_X8_200 rfl rfl ?_
    refine r_if_ne 23 18 dX8_told_15 rfl rfl (fun h15 => ?_) (fun h15 => ?_)
    · refine r_iload_n (i := 1) 24 dX8_told_23 rfl rfl rfl ?_
      refine r_iconst (v := 1) 25 dX8_told_24 rfl rfl ?_
      refine r_icmp_ne 35 28 dX8_told_25 rfl rfl (fun h25 => ?_) (fun h25 => ?_)
      · refine r_iload_n (i := 1) 36 dX8_told_35 rfl rfl rfl ?_
        refine r_iconst (v := 2) 37 dX8_told_36 rfl rfl ?_
        refine r_icmp_ne 47 40 dX8_told_37 rfl rfl (fun h37 => ?_) (fun h37 => ?_)
        · refine r_aload_n (i := 0) 48 dX8_told_47 rfl rfl rfl ?_
          refine r_getf 51 dX8_told_48 rfl fl_X8_209 rfl rfl ?_
          exact r_reti dX8_told_51 rfl (by first | rfl | exact bI_nar _) ⟨Nat.le_refl _, Nat.le_refl _⟩ (fun _ => rfl) (⟨by simp_all [tans], rfl⟩)
        · refine r_aload_n (i := 0) 41 dX8_told_40 rfl rfl rfl ?_
          refine r_getf 44 dX8_told_41 rfl fl_X8_206 rfl rfl ?_
          refine r_goto 51 dX8_told_44 rfl ?_
          exact r_reti dX8_told_51 rfl (by first | rfl | exact bI_nar _) ⟨Nat.le_refl _, Nat.le_refl _⟩ (fun _ => rfl) (⟨by simp_all [tans], rfl⟩)
      · refine r_aload_n (i := 0) 29 dX8_told_28 rfl rfl rfl ?_
        refine r_getf 32 dX8_told_29 rfl fl_X8_203 rfl rfl ?_
        refine r_goto 51 dX8_told_32 rfl ?_
        exact r_reti dX8_told_51 rfl (by first | rfl | exact bI_nar _) ⟨Nat.le_refl _, Nat.le_refl _⟩ (fun _ => rfl) (⟨by simp_all [tans], rfl⟩)
    · refine r_bipush (v := (-4)) 20 dX8_told_18 rfl rfl ?_
      refine r_goto 51 dX8_told_20 rfl ?_
      exact r_reti dX8_told_51 rfl (by first | rfl | exact bI_nar _) ⟨Nat.le_refl _, Nat.le_refl _⟩ (fun _ => rfl) (⟨by simp_all [tans], rfl⟩)
  · refine r_aload_n (i := 0) 5 dX8_told_4 rfl rfl rfl ?_
    refine r_getf 8 dX8_told_5 rfl fl_X8_200 rfl rfl ?_
    refine r_goto 51 dX8_told_8 rfl ?_
    exact r_reti dX8_told_51 rfl (by first | rfl | exact bI_nar _) ⟨Nat.le_refl _, Nat.le_refl _⟩ (fun _ => rfl) (⟨by simp_all [tans], rfl⟩)
theorem l2_agreeMany (h : mok W.1 A) : ∀ (k i : Nat), 2 ^ sN A - i = k → i ≤ 2 ^ sN A → mm_r (d + 5) mX8_agreeMany (mm_q (some (.int (nI (sct A)))) (wM (zTo W (mtl (sN A) (stl A) (2 ^ sN A))))) 6 [some (.ref 0), some (.int (nI i))] [] (wM (zTo W (mtl (sN A) (stl A) i))) := by
  intro k
  have p6 := p2_le h.n6
  induction k with
  | zero =>
    intro i hk hi
    have e : i = 2 ^ sN A := by omega
    subst e
    refine r_iload_n (i := 1) 7 dX8_agreeMany_6 rfl rfl rfl ?_
    refine r_aload_n (i := 0) 8 dX8_agreeMany_7 rfl rfl rfl ?_
    refine r_callMi 11 dX8_agreeMany_8 rfl ykX8_states lk_X8_134 (e2_states (W := zTo W _) h) rfl rfl rfl rfl rfl rfl ⟨Nat.le_refl _, Nat.le_refl _⟩ ?_
    refine r_icmp_ge 41 14 dX8_agreeMany_11 rfl rfl (fun h11 => ?_) (fun h11 => absurd (Int32.le_refl _) h11)
    refine r_aload_n (i := 0) 42 dX8_agreeMany_41 rfl rfl rfl ?_
    refine r_getf 45 dX8_agreeMany_42 rfl fl_X8_200 rfl rfl ?_
    exact r_reti dX8_agreeMany_45 rfl (by first | rfl | exact bI_nar _) ⟨Nat.le_refl _, Nat.le_refl _⟩ (fun _ => rfl) (⟨rfl, rfl⟩)
  | succ k ih =>
    intro i hk hi
    refine r_iload_n (i := 1) 7 dX8_agreeMany_6 rfl rfl rfl ?_
    refine r_aload_n (i := 0) 8 dX8_agreeMany_7 rfl rfl rfl ?_
    refine r_callMi 11 dX8_agreeMany_8 rfl ykX8_states lk_X8_134 (e2_states (W := zTo W _) h) rfl rfl rfl rfl rfl rfl ⟨Nat.le_refl _, Nat.le_refl _⟩ ?_
    refine r_icmp_ge 41 14 dX8_agreeMany_11 rfl rfl (fun h11 => absurd (ble_of (by omega) (by omega) h11) (by omega)) (fun h11 => ?_)
    refine r_aload_n (i := 0) 15 dX8_agreeMany_14 rfl rfl rfl ?_
    refine r_iload_n (i := 1) 16 dX8_agreeMany_15 rfl rfl rfl ?_
    refine r_callMi 19 dX8_agreeMany_16 rfl ykX8_agrees lk_X8_157 (e2_agrees (W := zTo W (mtl (sN A) (stl A) i)) h (by omega)) rfl rfl rfl rfl rfl rfl ⟨Nat.le_refl _, Nat.le_refl _⟩ ?_
    refine r_if_eq 35 22 dX8_agreeMany_19 rfl rfl (fun h19 => ?_) (fun h19 => ?_)
    · have g := bI_eq0 h19
      have g0 : stl A i = false := (by rw [stl, g]; rfl)
      refine r_iinc (i := 1) 38 dX8_agreeMany_35 rfl rfl (by first | exact nI_1 _ | rfl) rfl ?_
      refine r_goto 6 dX8_agreeMany_38 rfl ?_
      first | exact ih (i + 1) (by omega) (by omega) | exact r_eq (ih (i + 1) (by omega) (by omega)) rfl rfl (by rw [mtl_no _ g0])
    · have g := bI_ne0 h19
      refine r_aload_n (i := 0) 23 dX8_agreeMany_22 rfl rfl rfl ?_
      refine r_iload_n (i := 1) 24 dX8_agreeMany_23 rfl rfl rfl ?_
      refine r_callMi 27 dX8_agreeMany_24 rfl ykX8_isAllowed lk_X8_153 (e2_isAllowed (W := zTo W (mtl (sN A) (stl A) i)) h (by omega)) rfl rfl rfl rfl rfl rfl ⟨Nat.le_refl _, Nat.le_refl _⟩ ?_
      refine r_if_eq 35 30 dX8_agreeMany_27 rfl rfl (fun h27 => ?_) (fun h27 => ?_)
      · have g2 := bI_eq0 h27
        have g0 : stl A i = false := (by rw [stl, g2, Bool.and_false])
        refine r_iinc (i := 1) 38 dX8_agreeMany_35 rfl rfl (by first | exact nI_1 _ | rfl) rfl ?_
        refine r_goto 6 dX8_agreeMany_38 rfl ?_
        first | exact ih (i + 1) (by omega) (by omega) | exact r_eq (ih (i + 1) (by omega) (by omega)) rfl rfl (by rw [mtl_no _ g0])
      · have g2 := bI_ne0 h27
        have g0 : stl A i = true := (by rw [stl, g, g2]; rfl)
        refine r_aload_n (i := 0) 31 dX8_agreeMany_30 rfl rfl rfl ?_
        refine r_iload_n (i := 1) 32 dX8_agreeMany_31 rfl rfl rfl ?_
        refine r_callMu 35 dX8_agreeMany_32 rfl ykX8_tells lk_X8_215 (e2_tells (W := zTo W (mtl (sN A) (stl A) i)) (A := A) rfl g0 (by omega)) rfl rfl rfl rfl rfl rfl ⟨Nat.le_refl _, Nat.le_refl _⟩ ?_
        refine r_iinc (i := 1) 38 dX8_agreeMany_35 rfl rfl (by first | exact nI_1 _ | rfl) rfl ?_
        refine r_goto 6 dX8_agreeMany_38 rfl ?_
        first | exact ih (i + 1) (by omega) (by omega) | exact r_eq (ih (i + 1) (by omega) (by omega)) rfl rfl (by rw [mtl_no _ g0])
theorem e2_agreeMany (h : mok W.1 A) : mm_e (d + 5) yX8_agreeMany mX8_agreeMany [.ref 0] (wM W) (mm_q (some (.int (nI (sct A)))) (wM (zTo W (mtl (sN A) (stl A) (2 ^ sN A))))) := by
  refine e_of [some (.ref 0), none] rfl (by decide) rfl rfl rfl ?_
  refine r_aload_n (i := 0) 1 dX8_agreeMany_0 rfl rfl rfl ?_
  refine r_callMu 4 dX8_agreeMany_1 rfl ykX8_tellsNone lk_X8_212 (e2_tellsNone h (stl A)) rfl rfl rfl rfl rfl rfl ⟨Nat.le_refl _, Nat.le_refl _⟩ ?_
  refine r_iconst (v := 0) 5 dX8_agreeMany_4 rfl rfl ?_
  refine r_istore_n (i := 1) 6 dX8_agreeMany_5 rfl rfl rfl ?_
  exact l2_agreeMany h _ 0 rfl (Nat.zero_le _)
theorem l2_comesOf (h : mok W.1 A) {x : Nat} (hx : x < 2 ^ sN A) : ∀ (k i : Nat), 2 ^ sN A - i = k → i ≤ 2 ^ sN A → mm_r (d + 4) mX8_comesOf (mm_q none (wM (zTo W (mtl (sN A) (bfr A x) (2 ^ sN A))))) 6 [some (.ref 0), some (.int (nI x)), some (.int (nI i))] [] (wM (zTo W (mtl (sN A) (bfr A x) i))) := by
  intro k
  have p6 := p2_le h.n6
  induction k with
  | zero =>
    intro i hk hi
    have e : i = 2 ^ sN A := by omega
    subst e
    refine r_iload_n (i := 2) 7 dX8_comesOf_6 rfl rfl rfl ?_
    refine r_aload_n (i := 0) 8 dX8_comesOf_7 rfl rfl rfl ?_
    refine r_callMi 11 dX8_comesOf_8 rfl ykX8_states lk_X8_134 (e2_states (W := zTo W _) h) rfl rfl rfl rfl rfl rfl ⟨Nat.le_refl _, Nat.le_refl _⟩ ?_
    refine r_icmp_ge 34 14 dX8_comesOf_11 rfl rfl (fun h11 => ?_) (fun h11 => absurd (Int32.le_refl _) h11)
    exact r_retv dX8_comesOf_34 rfl ⟨Nat.le_refl _, Nat.le_refl _⟩ (fun _ => rfl) (⟨rfl, rfl⟩)
  | succ k ih =>
    intro i hk hi
    have hn := nx_lt A i
    refine r_iload_n (i := 2) 7 dX8_comesOf_6 rfl rfl rfl ?_
    refine r_aload_n (i := 0) 8 dX8_comesOf_7 rfl rfl rfl ?_
    refine r_callMi 11 dX8_comesOf_8 rfl ykX8_states lk_X8_134 (e2_states (W := zTo W _) h) rfl rfl rfl rfl rfl rfl ⟨Nat.le_refl _, Nat.le_refl _⟩ ?_
    refine r_icmp_ge 34 14 dX8_comesOf_11 rfl rfl (fun h11 => absurd (ble_of (by omega) (by omega) h11) (by omega)) (fun h11 => ?_)
    refine r_aload_n (i := 0) 15 dX8_comesOf_14 rfl rfl rfl ?_
    refine r_iload_n (i := 2) 16 dX8_comesOf_15 rfl rfl rfl ?_
    refine r_callMi 19 dX8_comesOf_16 rfl ykX8_nextOf lk_X8_147 (e2_nextOf (W := zTo W (mtl (sN A) (bfr A x) i)) h (by omega)) rfl rfl rfl rfl rfl rfl ⟨Nat.le_refl _, Nat.le_refl _⟩ ?_
    refine r_iload_n (i := 1) 20 dX8_comesOf_19 rfl rfl rfl ?_
    refine r_icmp_ne 28 23 dX8_comesOf_20 rfl rfl (fun h20 => ?_) (fun h20 => ?_)
    · have g := bne_of (by omega) (by omega) h20
      have g0 : bfr A x i = false := decide_eq_false g
      refine r_iinc (i := 2) 31 dX8_comesOf_28 rfl rfl (by first | exact nI_1 _ | rfl) rfl ?_
      refine r_goto 6 dX8_comesOf_31 rfl ?_
      first | exact ih (i + 1) (by omega) (by omega) | exact r_eq (ih (i + 1) (by omega) (by omega)) rfl rfl (by rw [mtl_no _ g0])
    · have g := beq_of (by omega) (by omega) h20
      have g0 : bfr A x i = true := decide_eq_true g
      refine r_aload_n (i := 0) 24 dX8_comesOf_23 rfl rfl rfl ?_
      refine r_iload_n (i := 2) 25 dX8_comesOf_24 rfl rfl rfl ?_
      refine r_callMu 28 dX8_comesOf_25 rfl ykX8_tells lk_X8_215 (e2_tells (W := zTo W (mtl (sN A) (bfr A x) i)) (A := A) rfl g0 (by omega)) rfl rfl rfl rfl rfl rfl ⟨Nat.le_refl _, Nat.le_refl _⟩ ?_
      refine r_iinc (i := 2) 31 dX8_comesOf_28 rfl rfl (by first | exact nI_1 _ | rfl) rfl ?_
      refine r_goto 6 dX8_comesOf_31 rfl ?_
      first | exact ih (i + 1) (by omega) (by omega) | exact r_eq (ih (i + 1) (by omega) (by omega)) rfl rfl (by rw [mtl_no _ g0])
theorem e2_comesOf (h : mok W.1 A) {x : Nat} (hx : x < 2 ^ sN A) : mm_e (d + 4) yX8_comesOf mX8_comesOf [.ref 0, .int (nI x)] (wM W) (mm_q none (wM (zTo W (mtl (sN A) (bfr A x) (2 ^ sN A))))) := by
  refine e_of [some (.ref 0), some (.int (nI x)), none] rfl (by decide) rfl rfl rfl ?_
  refine r_aload_n (i := 0) 1 dX8_comesOf_0 rfl rfl rfl ?_
  refine r_callMu 4 dX8_comesOf_1 rfl ykX8_tellsNone lk_X8_212 (e2_tellsNone h (bfr A x)) rfl rfl rfl rfl rfl rfl ⟨Nat.le_refl _, Nat.le_refl _⟩ ?_
  refine r_iconst (v := 0) 5 dX8_comesOf_4 rfl rfl ?_
  refine r_istore_n (i := 2) 6 dX8_comesOf_5 rfl rfl rfl ?_
  exact l2_comesOf h hx _ 0 rfl (Nat.zero_le _)
theorem e2_tlTold (h : mok W.1 A) (p : Nat → Bool) (what : Int32) : mm_e (d + 1) yX8_told mX8_told [.ref 0, .int what] (wM (zTo W (mtl (sN A) p (2 ^ sN A)))) (mm_q (some (.int (tla p (2 ^ sN A) what))) (wM (zTo W (mtl (sN A) p (2 ^ sN A))))) := by
  have := e2_told (d := d) (W := zTo W (mtl (sN A) p (2 ^ sN A))) what
  rw [mtl_tla h.n6 p (Nat.le_refl _) what] at this
  exact this
theorem l2_doesFit (h : mok W.1 A) {V : sV} (hs : mSe W.2.2.2.2.2.1 V) (hV : vok V (sN A)) {x : Nat} (hx : x < 2 ^ sN A) : ∀ (k i : Nat), V.1 - i = k → i ≤ V.1 → mm_r (d + 5) mX8_doesFit (mm_q (some (.int (bI (fit V A x)))) (wM W)) 4 [some (.ref 0), some (.int (nI x)), some (.int (bI (allb (fun i => decide (tb (ny A (V.2.2.1 i) x) (V.2.1 i) = V.2.2.2 i)) i))), some (.int (nI i))] [] (wM W) := by
  intro k
  have h6 := h.n6
  have hv6 := hV.1
  obtain ⟨v1, v2⟩ := hs
  induction k with
  | zero =>
    intro i hk hi
    have e : i = V.1 := by omega
    refine r_iload_n (i := 3) 5 dX8_doesFit_4 rfl rfl rfl ?_
    refine r_aload_n (i := 0) 6 dX8_doesFit_5 rfl rfl rfl ?_
    refine r_getf 9 dX8_doesFit_6 rfl fl_X8_131 rfl rfl ?_
    rw [v1]
    refine r_icmp_ge 67 12 dX8_doesFit_9 rfl rfl (fun h9 => ?_) (fun h9 => absurd (by rw [e]; exact Int32.le_refl _) h9)
    refine r_iload_n (i := 2) 68 dX8_doesFit_67 rfl rfl rfl ?_
    exact r_reti dX8_doesFit_68 rfl (by first | rfl | exact bI_nar _) ⟨Nat.le_refl _, Nat.le_refl _⟩ (fun _ => rfl) (⟨by rw [fit_iff hV, e], rfl⟩)
  | succ k ih =>
    intro i hk hi
    have hi2 : i < V.1 := by omega
    have c3' := c3 i
    obtain ⟨c1, c2, c3⟩ := v2 i hi2
    obtain ⟨b1, b2, b3⟩ := hV.2 i hi2
    have in1 : vp_in (nI (3 * i)) 18 := vp_in_nI (by omega) (by decide)
    have in2 : vp_in (nI (3 * i + 1)) 18 := vp_in_nI (by omega) (by decide)
    have in3 : vp_in (nI (3 * i + 2)) 18 := vp_in_nI (by omega) (by decide)
    have ly := h.lt31 (ny_lt hx (V.2.2.1 i))
    have tl := tb_le (ny A (V.2.2.1 i) x) (V.2.1 i)
    refine r_iload_n (i := 3) 5 dX8_doesFit_4 rfl rfl rfl ?_
    refine r_aload_n (i := 0) 6 dX8_doesFit_5 rfl rfl rfl ?_
    refine r_getf 9 dX8_doesFit_6 rfl fl_X8_131 rfl rfl ?_
    rw [v1]
    refine r_icmp_ge 67 12 dX8_doesFit_9 rfl rfl (fun h9 => absurd (ble_of (a := V.1) (b := i) (by omega) (by omega) h9) (by omega)) (fun h9 => ?_)
    refine r_iload_n (i := 2) 13 dX8_doesFit_12 rfl rfl rfl ?_
    refine r_if_eq 59 16 dX8_doesFit_13 rfl rfl (fun h13 => ?_) (fun h13 => ?_)
    · have g := bI_eq0 h13
      refine r_iconst (v := 0) 60 dX8_doesFit_59 rfl rfl ?_
      refine r_istore_n (i := 2) 61 dX8_doesFit_60 rfl rfl rfl ?_
      refine r_iinc (i := 3) 64 dX8_doesFit_61 rfl rfl (by first | exact nI_1 _ | rfl) rfl ?_
      refine r_goto 4 dX8_doesFit_64 rfl ?_
      refine r_eq (ih (i + 1) (by omega) (by omega)) ?_ rfl rfl
      first | (rw [allb, g, decide_eq_true g2]; rfl) | (rw [allb, g, decide_eq_false g2]; rfl) | (rw [allb, g]; rfl)
    · have g := bI_ne0 h13
      refine r_aload_n (i := 0) 17 dX8_doesFit_16 rfl rfl rfl ?_
      refine r_iload_n (i := 1) 18 dX8_doesFit_17 rfl rfl rfl ?_
      refine r_aload_n (i := 0) 19 dX8_doesFit_18 rfl rfl rfl ?_
      refine r_getf 22 dX8_doesFit_19 rfl fl_X8_25 rfl rfl ?_
      refine r_iconst (v := 3) 23 dX8_doesFit_22 rfl rfl ?_
      refine r_iload_n (i := 3) 24 dX8_doesFit_23 rfl rfl rfl ?_
      refine r_imul 25 dX8_doesFit_24 rfl ?_
      refine r_iconst (v := 1) 26 dX8_doesFit_25 rfl rfl ?_
      refine r_iadd 27 dX8_doesFit_26 rfl ?_
      rw [c3', nI_1]
      refine r_iald 28 dX8_doesFit_27 rfl rfl (by assumption) ?_
      rw [nI_clamp (n := 3 * i + 1) (by omega), c2]
      refine r_callMi 31 dX8_doesFit_28 rfl ykX8_afterYears lk_X8_188 (e2_afterYears h hx (by omega)) rfl rfl rfl rfl rfl rfl ⟨Nat.le_refl _, Nat.le_refl _⟩ ?_
      refine r_aload_n (i := 0) 32 dX8_doesFit_31 rfl rfl rfl ?_
      refine r_getf 35 dX8_doesFit_32 rfl fl_X8_25 rfl rfl ?_
      refine r_iconst (v := 3) 36 dX8_doesFit_35 rfl rfl ?_
      refine r_iload_n (i := 3) 37 dX8_doesFit_36 rfl rfl rfl ?_
      refine r_imul 38 dX8_doesFit_37 rfl ?_
      rw [c3']
      refine r_iald 39 dX8_doesFit_38 rfl rfl (by assumption) ?_
      rw [nI_clamp (n := 3 * i) (by omega), c1]
      refine r_ishr 40 dX8_doesFit_39 rfl ?_
      refine r_iconst (v := 1) 41 dX8_doesFit_40 rfl rfl ?_
      refine r_iand 42 dX8_doesFit_41 rfl ?_
      rw [n_bit ly (by omega)]
      refine r_aload_n (i := 0) 43 dX8_doesFit_42 rfl rfl rfl ?_
      refine r_getf 46 dX8_doesFit_43 rfl fl_X8_25 rfl rfl ?_
      refine r_iconst (v := 3) 47 dX8_doesFit_46 rfl rfl ?_
      refine r_iload_n (i := 3) 48 dX8_doesFit_47 rfl rfl rfl ?_
      refine r_imul 49 dX8_doesFit_48 rfl ?_
      refine r_iconst (v := 2) 50 dX8_doesFit_49 rfl rfl ?_
      refine r_iadd 51 dX8_doesFit_50 rfl ?_
      rw [c3', show nI (3 * i) + 2 = nI (3 * i + 2) from nI_add _ 2]
      refine r_iald 52 dX8_doesFit_51 rfl rfl (by assumption) ?_
      rw [nI_clamp (n := 3 * i + 2) (by omega), c3]
      refine r_icmp_ne 59 55 dX8_doesFit_52 rfl rfl (fun h52 => ?_) (fun h52 => ?_)
      · have g2 := bne_of (by omega) (by omega) h52
        refine r_iconst (v := 0) 60 dX8_doesFit_59 rfl rfl ?_
        refine r_istore_n (i := 2) 61 dX8_doesFit_60 rfl rfl rfl ?_
        refine r_iinc (i := 3) 64 dX8_doesFit_61 rfl rfl (by first | exact nI_1 _ | rfl) rfl ?_
        refine r_goto 4 dX8_doesFit_64 rfl ?_
        refine r_eq (ih (i + 1) (by omega) (by omega)) ?_ rfl rfl
        first | (rw [allb, g, decide_eq_true g2]; rfl) | (rw [allb, g, decide_eq_false g2]; rfl) | (rw [allb, g]; rfl)
      · have g2 := beq_of (by omega) (by omega) h52
        refine r_iconst (v := 1) 56 dX8_doesFit_55 rfl rfl ?_
        refine r_goto 60 dX8_doesFit_56 rfl ?_
        refine r_istore_n (i := 2) 61 dX8_doesFit_60 rfl rfl rfl ?_
        refine r_iinc (i := 3) 64 dX8_doesFit_61 rfl rfl (by first | exact nI_1 _ | rfl) rfl ?_
        refine r_goto 4 dX8_doesFit_64 rfl ?_
        refine r_eq (ih (i + 1) (by omega) (by omega)) ?_ rfl rfl
        first | (rw [allb, g, decide_eq_true g2]; rfl) | (rw [allb, g, decide_eq_false g2]; rfl) | (rw [allb, g]; rfl)
theorem e2_doesFit (h : mok W.1 A) {V : sV} (hs : mSe W.2.2.2.2.2.1 V) (hV : vok V (sN A)) {x : Nat} (hx : x < 2 ^ sN A) : mm_e (d + 5) yX8_doesFit mX8_doesFit [.ref 0, .int (nI x)] (wM W) (mm_q (some (.int (bI (fit V A x)))) (wM W)) := by
  refine e_of [some (.ref 0), some (.int (nI x)), none, none] rfl (by decide) rfl rfl rfl ?_
  refine r_iconst (v := 1) 1 dX8_doesFit_0 rfl rfl ?_
  refine r_istore_n (i := 2) 2 dX8_doesFit_1 rfl rfl rfl ?_
  refine r_iconst (v := 0) 3 dX8_doesFit_2 rfl rfl ?_
  refine r_istore_n (i := 3) 4 dX8_doesFit_3 rfl rfl rfl ?_
  exact l2_doesFit h hs hV hx _ 0 rfl (Nat.zero_le _)
theorem l2_fits (h : mok W.1 A) {V : sV} (hs : mSe W.2.2.2.2.2.1 V) (hV : vok V (sN A)) {what : Int32} {Qf : Option Value → mm_W → Prop} (kk : mm_r (d + 6) mX8_fits Qf 47 [some (.ref 0), some (.int what), some (.int (nI (2 ^ sN A)))] [] (wM (zTo W (mtl (sN A) (fit V A) (2 ^ sN A))))) : ∀ (k i : Nat), 2 ^ sN A - i = k → i ≤ 2 ^ sN A → mm_r (d + 6) mX8_fits Qf 20 [some (.ref 0), some (.int what), some (.int (nI i))] [] (wM (zTo W (mtl (sN A) (fit V A) i))) := by
  intro k
  have p6 := p2_le h.n6
  induction k with
  | zero =>
    intro i hk hi
    have e : i = 2 ^ sN A := by omega
    subst e
    refine r_iload_n (i := 2) 21 dX8_fits_20 rfl rfl rfl ?_
    refine r_aload_n (i := 0) 22 dX8_fits_21 rfl rfl rfl ?_
    refine r_callMi 25 dX8_fits_22 rfl ykX8_states lk_X8_134 (e2_states (W := zTo W _) h) rfl rfl rfl rfl rfl rfl ⟨Nat.le_refl _, Nat.le_refl _⟩ ?_
    refine r_icmp_ge 47 28 dX8_fits_25 rfl rfl (fun h25 => ?_) (fun h25 => absurd (Int32.le_refl _) h25)
    exact kk
  | succ k ih =>
    intro i hk hi
    refine r_iload_n (i := 2) 21 dX8_fits_20 rfl rfl rfl ?_
    refine r_aload_n (i := 0) 22 dX8_fits_21 rfl rfl rfl ?_
    refine r_callMi 25 dX8_fits_22 rfl ykX8_states lk_X8_134 (e2_states (W := zTo W _) h) rfl rfl rfl rfl rfl rfl ⟨Nat.le_refl _, Nat.le_refl _⟩ ?_
    refine r_icmp_ge 47 28 dX8_fits_25 rfl rfl (fun h25 => absurd (ble_of (by omega) (by omega) h25) (by omega)) (fun h25 => ?_)
    refine r_aload_n (i := 0) 29 dX8_fits_28 rfl rfl rfl ?_
    refine r_iload_n (i := 2) 30 dX8_fits_29 rfl rfl rfl ?_
    refine r_callMi 33 dX8_fits_30 rfl ykX8_doesFit lk_X8_272 (e2_doesFit (W := zTo W (mtl (sN A) (fit V A) i)) h hs hV (by omega)) rfl rfl rfl rfl rfl rfl ⟨Nat.le_refl _, Nat.le_refl _⟩ ?_
    refine r_if_eq 41 36 dX8_fits_33 rfl rfl (fun h33 => ?_) (fun h33 => ?_)
    · have g0 := bI_eq0 h33
      refine r_iinc (i := 2) 44 dX8_fits_41 rfl rfl (by first | exact nI_1 _ | rfl) rfl ?_
      refine r_goto 20 dX8_fits_44 rfl ?_
      first | exact ih (i + 1) (by omega) (by omega) | exact r_eq (ih (i + 1) (by omega) (by omega)) rfl rfl (by rw [mtl_no _ g0])
    · have g0 := bI_ne0 h33
      refine r_aload_n (i := 0) 37 dX8_fits_36 rfl rfl rfl ?_
      refine r_iload_n (i := 2) 38 dX8_fits_37 rfl rfl rfl ?_
      refine r_callMu 41 dX8_fits_38 rfl ykX8_tells lk_X8_215 (e2_tells (W := zTo W (mtl (sN A) (fit V A) i)) (A := A) rfl g0 (by omega)) rfl rfl rfl rfl rfl rfl ⟨Nat.le_refl _, Nat.le_refl _⟩ ?_
      refine r_iinc (i := 2) 44 dX8_fits_41 rfl rfl (by first | exact nI_1 _ | rfl) rfl ?_
      refine r_goto 20 dX8_fits_44 rfl ?_
      first | exact ih (i + 1) (by omega) (by omega) | exact r_eq (ih (i + 1) (by omega) (by omega)) rfl rfl (by rw [mtl_no _ g0])
theorem l2_gardens (h : mok W.1 A) {Qf : Option Value → mm_W → Prop} (kk : ∀ t, mm_r (d + 5) mX8_gardens Qf 38 [some (.ref 0), some (.int (nI (fb_ct (grd A) (2 ^ sN A)))), some (.int (nI (2 ^ sN A)))] [] (wM (zTo W t))) : ∀ (k i : Nat) (t : mQu), 2 ^ sN A - i = k → i ≤ 2 ^ sN A → mm_r (d + 5) mX8_gardens Qf 4 [some (.ref 0), some (.int (nI (fb_ct (grd A) i))), some (.int (nI i))] [] (wM (zTo W t)) := by
  intro k
  have p6 := p2_le h.n6
  induction k with
  | zero =>
    intro i t hk hi
    have e : i = 2 ^ sN A := by omega
    subst e
    refine r_iload_n (i := 2) 5 dX8_gardens_4 rfl rfl rfl ?_
    refine r_aload_n (i := 0) 6 dX8_gardens_5 rfl rfl rfl ?_
    refine r_callMi 9 dX8_gardens_6 rfl ykX8_states lk_X8_134 (e2_states (W := zTo W _) h) rfl rfl rfl rfl rfl rfl ⟨Nat.le_refl _, Nat.le_refl _⟩ ?_
    refine r_icmp_ge 38 12 dX8_gardens_9 rfl rfl (fun h9 => ?_) (fun h9 => absurd (Int32.le_refl _) h9)
    exact kk t
  | succ k ih =>
    intro i t hk hi
    have hl := fb_ct_le (bfr A i) (2 ^ sN A)
    refine r_iload_n (i := 2) 5 dX8_gardens_4 rfl rfl rfl ?_
    refine r_aload_n (i := 0) 6 dX8_gardens_5 rfl rfl rfl ?_
    refine r_callMi 9 dX8_gardens_6 rfl ykX8_states lk_X8_134 (e2_states (W := zTo W _) h) rfl rfl rfl rfl rfl rfl ⟨Nat.le_refl _, Nat.le_refl _⟩ ?_
    refine r_icmp_ge 38 12 dX8_gardens_9 rfl rfl (fun h9 => absurd (ble_of (by omega) (by omega) h9) (by omega)) (fun h9 => ?_)
    refine r_aload_n (i := 0) 13 dX8_gardens_12 rfl rfl rfl ?_
    refine r_iload_n (i := 2) 14 dX8_gardens_13 rfl rfl rfl ?_
    refine r_callMu 17 dX8_gardens_14 rfl ykX8_comesOf lk_X8_224 (e2_comesOf (W := zTo W t) (A := A) h (by omega)) rfl rfl rfl rfl rfl rfl ⟨Nat.le_refl _, Nat.le_refl _⟩ ?_
    refine r_iload_n (i := 1) 18 dX8_gardens_17 rfl rfl rfl ?_
    refine r_aload_n (i := 0) 19 dX8_gardens_18 rfl rfl rfl ?_
    refine r_getf 22 dX8_gardens_19 rfl fl_X8_200 rfl rfl ?_
    refine r_if_ne 29 25 dX8_gardens_22 rfl rfl (fun h22 => ?_) (fun h22 => ?_)
    · have g := bne_of (a := fb_ct (bfr A i) (2 ^ sN A)) (b := 0) (by omega) (by decide) h22
      have g0 : grd A i = false := decide_eq_false g
      refine r_iconst (v := 0) 30 dX8_gardens_29 rfl rfl ?_
      refine r_iadd 31 dX8_gardens_30 rfl ?_
      refine r_istore_n (i := 1) 32 dX8_gardens_31 rfl rfl rfl ?_
      refine r_iinc (i := 2) 35 dX8_gardens_32 rfl rfl (by first | exact nI_1 _ | rfl) rfl ?_
      refine r_goto 4 dX8_gardens_35 rfl ?_
      refine r_eq (ih (i + 1) (mtl (sN A) (bfr A i) (2 ^ sN A)) (by omega) (by omega)) ?_ rfl rfl
      rw [← ct_next, g0]
      rfl
    · have g := beq_of (a := fb_ct (bfr A i) (2 ^ sN A)) (b := 0) (by omega) (by decide) h22
      have g0 : grd A i = true := decide_eq_true g
      refine r_iconst (v := 1) 26 dX8_gardens_25 rfl rfl ?_
      refine r_goto 30 dX8_gardens_26 rfl ?_
      refine r_iadd 31 dX8_gardens_30 rfl ?_
      refine r_istore_n (i := 1) 32 dX8_gardens_31 rfl rfl rfl ?_
      refine r_iinc (i := 2) 35 dX8_gardens_32 rfl rfl (by first | exact nI_1 _ | rfl) rfl ?_
      refine r_goto 4 dX8_gardens_35 rfl ?_
      refine r_eq (ih (i + 1) (mtl (sN A) (bfr A i) (2 ^ sN A)) (by omega) (by omega)) ?_ rfl rfl
      rw [← ct_next, g0]
      rfl
theorem l2_drift (h : mok W.1 A) {x : Nat} (hx : x < 2 ^ sN A) (h0 : 0 < sN A) (seed s0 what : Int32) {n : Nat} (hn : n < 2 ^ 31) {Q : mm_W → Prop} (hQ : Q (wM W)) : ∀ (k i : Nat), n - i = k → i ≤ n → mm_r (d + 4) mX8_drift (fun v u => v = some (.int (if what = 0 then nI (drs A seed x n).2.2 else nI (drs A seed x n).2.1)) ∧ Q u) 52 [some (.ref 0), some (.int s0), some (.int (nI n)), some (.int what), some (.int (drs A seed x i).1), some (.int (nI (drs A seed x i).2.1)), some (.int (nI (drs A seed x i).2.2)), some (.int (nI i))] [] (wM W) := by
  have h6 := h.n6
  intro k
  induction k with
  | zero =>
    intro i hk hi
    have : i = n := by omega
    subst this
    refine r_iload (i := 7) 54 dX8_drift_52 rfl rfl ?_
    refine r_iload_n (i := 2) 55 dX8_drift_54 rfl rfl rfl ?_
    refine r_icmp_ge 120 58 dX8_drift_55 rfl rfl (fun h55 => ?_) (fun h55 => absurd (Int32.le_refl _) h55)
    refine r_iload_n (i := 3) 121 dX8_drift_120 rfl rfl rfl ?_
    refine r_if_ne 129 124 dX8_drift_121 rfl rfl (fun h121 => ?_) (fun h121 => ?_)
    · refine r_iload (i := 5) 131 dX8_drift_129 rfl rfl ?_
      exact r_reti dX8_drift_131 rfl (by first | rfl | exact bI_nar _) ⟨Nat.le_refl _, Nat.le_refl _⟩ (fun _ => rfl) (⟨by simp_all, hQ⟩)
    · refine r_iload (i := 6) 126 dX8_drift_124 rfl rfl ?_
      refine r_goto 131 dX8_drift_126 rfl ?_
      exact r_reti dX8_drift_131 rfl (by first | rfl | exact bI_nar _) ⟨Nat.le_refl _, Nat.le_refl _⟩ (fun _ => rfl) (⟨by simp_all, hQ⟩)
  | succ k ih =>
    intro i hk hi
    have l1 := drs_lt A seed hx i
    have l2 := drs_lt A seed hx (i + 1)
    have l3 : drf (sN A) (drD (drs A seed x i).1) < sN A := Nat.mod_lt _ h0
    have ne : ¬ nI (sN A) = 0 := fun z => by have := beq_of (b := 0) (by omega) (by decide) z; omega
    have lx := xor_lt l1 l3
    have e2 : nI (drs A seed x (i + 1)).2.2 = nI (drs A seed x i).2.2 + bI (al A (drs A seed x (i + 1)).2.1) := (al_bI _ _).symm
    refine r_iload (i := 7) 54 dX8_drift_52 rfl rfl ?_
    refine r_iload_n (i := 2) 55 dX8_drift_54 rfl rfl rfl ?_
    refine r_icmp_ge 120 58 dX8_drift_55 rfl rfl (fun h55 => absurd (ble_of (by omega) (by omega) h55) (by omega)) (fun h55 => ?_)
    refine r_iload (i := 4) 60 dX8_drift_58 rfl rfl ?_
    refine r_ldcw 63 dX8_drift_60 rfl k_X8_277 ?_
    refine r_imul 64 dX8_drift_63 rfl ?_
    refine r_sipush (v := 12345) 67 dX8_drift_64 rfl rfl ?_
    refine r_iadd 68 dX8_drift_67 rfl ?_
    refine r_istore (i := 4) 70 dX8_drift_68 rfl rfl ?_
    refine r_aload_n (i := 0) 71 dX8_drift_70 rfl rfl rfl ?_
    refine r_iload (i := 5) 73 dX8_drift_71 rfl rfl ?_
    refine r_iconst (v := 1) 74 dX8_drift_73 rfl rfl ?_
    refine r_iload (i := 4) 76 dX8_drift_74 rfl rfl ?_
    refine r_bipush (v := 16) 78 dX8_drift_76 rfl rfl ?_
    refine r_ishr 79 dX8_drift_78 rfl ?_
    refine r_sipush (v := 32767) 82 dX8_drift_79 rfl rfl ?_
    refine r_iand 83 dX8_drift_82 rfl ?_
    rw [drI]
    refine r_aload_n (i := 0) 84 dX8_drift_83 rfl rfl rfl ?_
    refine r_getf 87 dX8_drift_84 rfl fl_X8_125 rfl rfl ?_
    rw [h.tm]
    refine r_irem 88 dX8_drift_87 rfl (by assumption) ?_
    rw [pk_rem (by omega) h0 (by omega), show (drs A seed x i).1 * 1103515245 + 12345 = drD (drs A seed x i).1 from rfl, show (drD (drs A seed x i).1).toBitVec.toNat / 65536 % 32768 % sN A = drf (sN A) (drD (drs A seed x i).1) from rfl]
    refine r_ishl 89 dX8_drift_88 rfl ?_
    refine r_ixor 90 dX8_drift_89 rfl ?_
    rw [n_shl1 (by omega), fb_xorI]
    refine r_callMi 93 dX8_drift_90 rfl ykX8_nextOf lk_X8_147 (e2_nextOf h (h.lt31 lx)) rfl rfl rfl rfl rfl rfl ⟨Nat.le_refl _, Nat.le_refl _⟩ ?_
    refine r_istore (i := 5) 95 dX8_drift_93 rfl rfl ?_
    refine r_iload (i := 6) 97 dX8_drift_95 rfl rfl ?_
    refine r_aload_n (i := 0) 98 dX8_drift_97 rfl rfl rfl ?_
    refine r_iload (i := 5) 100 dX8_drift_98 rfl rfl ?_
    refine r_callMi 103 dX8_drift_100 rfl ykX8_isAllowed lk_X8_153 (e2_isAllowed h (h.lt31 l2)) rfl rfl rfl rfl rfl rfl ⟨Nat.le_refl _, Nat.le_refl _⟩ ?_
    refine r_if_eq 110 106 dX8_drift_103 rfl rfl (fun h103 => ?_) (fun h103 => ?_)
    · have g := bI_eq0 h103
      refine r_iconst (v := 0) 111 dX8_drift_110 rfl rfl ?_
      refine r_iadd 112 dX8_drift_111 rfl ?_
      refine r_istore (i := 6) 114 dX8_drift_112 rfl rfl ?_
      refine r_iinc (i := 7) 117 dX8_drift_114 rfl rfl (by first | exact nI_1 _ | rfl) rfl ?_
      refine r_goto 52 dX8_drift_117 rfl ?_
      refine r_eq (ih (i + 1) (by omega) (by omega)) ?_ rfl rfl
      rw [e2, show al A (drs A seed x (i + 1)).2.1 = _ from g]
      rfl
    · have g := bI_ne0 h103
      refine r_iconst (v := 1) 107 dX8_drift_106 rfl rfl ?_
      refine r_goto 111 dX8_drift_107 rfl ?_
      refine r_iadd 112 dX8_drift_111 rfl ?_
      refine r_istore (i := 6) 114 dX8_drift_112 rfl rfl ?_
      refine r_iinc (i := 7) 117 dX8_drift_114 rfl rfl (by first | exact nI_1 _ | rfl) rfl ?_
      refine r_goto 52 dX8_drift_117 rfl ?_
      refine r_eq (ih (i + 1) (by omega) (by omega)) ?_ rfl rfl
      rw [e2, show al A (drs A seed x (i + 1)).2.1 = _ from g]
      rfl
theorem q_agree (hT : tOk S) (hC : CM S w) (what : Int32) : mm_e (d + 6) yX8_agree mX8_agree [.ref 0, .int what] w (QM (s_agree S what) S) := by
  have hC0 := hC
  obtain ⟨W, rfl, hR⟩ := hC
  obtain ⟨hM, ⟨hx, hy⟩, ⟨ht, hb⟩, hf, ⟨v1, v2⟩, ⟨hk0, hk1⟩, hI, hH, hn⟩ := id hR
  have h6 := hM.n6
  have h4 := hM.g4
  have h5 := hM.b4
  have p6 := p2_le hM.n6
  have l0 := hM.lt31 hT.2.1
  have i18 : vp_in (18 : Int32) 148 := vp_in_nI (n := 18) (by decide) (by decide)
  have i35 : vp_in (35 : Int32) 148 := vp_in_nI (n := 35) (by decide) (by decide)
  have i36 : vp_in (36 : Int32) 148 := vp_in_nI (n := 36) (by decide) (by decide)
  have ex : W.1.1 (18 : Int32).toNatClampNeg = nI (tX S) := hx
  have ey : W.1.1 (36 : Int32).toNatClampNeg = nI (tY S) := hy
  have eb : W.1.1 (35 : Int32).toNatClampNeg = nI (sB (tA S)) := hM.bn
  refine e_of [some (.ref 0), some (.int what)] rfl (by decide) rfl rfl rfl ?_
  rw [s_agree]
  cases g : inb 4 what with
  | false =>
    refine r_iload_n (i := 1) 1 dX8_agree_0 rfl rfl rfl ?_
    refine r_i2l 2 dX8_agree_1 rfl ?_
    refine r_lconst (v := 0) 3 dX8_agree_2 rfl rfl ?_
    refine r_ldc2 6 dX8_agree_3 rfl k_X8_194 ?_
    refine r_callSi [] 9 dX8_agree_6 rfl ykX8_in lk_X8_46 (e_in0 what (n := 4) (by decide) (by decide)) rfl rfl rfl ⟨Nat.le_refl _, Nat.le_refl _⟩ ?_
    rw [show inb (nI 4) what = false from g]
    refine r_if_ne 14 12 dX8_agree_9 rfl rfl (fun h9 => absurd rfl h9) (fun h9 => ?_)
    refine r_iconst (v := (-1)) 13 dX8_agree_12 rfl rfl ?_
    exact r_reti dX8_agree_13 rfl (by first | rfl | exact bI_nar _) ⟨Nat.le_refl _, Nat.le_refl _⟩ (fun _ => rfl) (⟨rfl, hC0⟩)
  | true =>
    refine r_iload_n (i := 1) 1 dX8_agree_0 rfl rfl rfl ?_
    refine r_i2l 2 dX8_agree_1 rfl ?_
    refine r_lconst (v := 0) 3 dX8_agree_2 rfl rfl ?_
    refine r_ldc2 6 dX8_agree_3 rfl k_X8_194 ?_
    refine r_callSi [] 9 dX8_agree_6 rfl ykX8_in lk_X8_46 (e_in0 what (n := 4) (by decide) (by decide)) rfl rfl rfl ⟨Nat.le_refl _, Nat.le_refl _⟩ ?_
    rw [show inb (nI 4) what = true from g]
    refine r_if_ne 14 12 dX8_agree_9 rfl rfl (fun h9 => ?_) (fun h9 => absurd h9 (by decide))
    refine r_aload_n (i := 0) 15 dX8_agree_14 rfl rfl rfl ?_
    refine r_callMu 18 dX8_agree_15 rfl ykX8_agreeMany lk_X8_218 (e2_agreeMany hM) rfl rfl rfl rfl rfl rfl ⟨Nat.le_refl _, Nat.le_refl _⟩ ?_
    skip
    refine r_pop 19 dX8_agree_18 rfl rfl ?_
    refine r_aload_n (i := 0) 20 dX8_agree_19 rfl rfl rfl ?_
    refine r_iload_n (i := 1) 21 dX8_agree_20 rfl rfl rfl ?_
    refine r_callMi 24 dX8_agree_21 rfl ykX8_told lk_X8_221 (e2_tlTold hM (stl (tA S)) what) rfl rfl rfl rfl rfl rfl ⟨Nat.le_refl _, Nat.le_refl _⟩ ?_
    exact r_reti dX8_agree_24 rfl (by first | rfl | exact bI_nar _) ⟨Nat.le_refl _, Nat.le_refl _⟩ (fun _ => rfl) (⟨rfl, _, rfl, relM_To hR _⟩)
theorem q_before (hT : tOk S) (hC : CM S w) (x : Int32) (what : Int32) : mm_e (d + 5) yX8_before mX8_before [.ref 0, .int x, .int what] w (QM (s_before S x what) S) := by
  have hC0 := hC
  obtain ⟨W, rfl, hR⟩ := hC
  obtain ⟨hM, ⟨hx, hy⟩, ⟨ht, hb⟩, hf, ⟨v1, v2⟩, ⟨hk0, hk1⟩, hI, hH, hn⟩ := id hR
  have h6 := hM.n6
  have h4 := hM.g4
  have h5 := hM.b4
  have p6 := p2_le hM.n6
  have l0 := hM.lt31 hT.2.1
  have i18 : vp_in (18 : Int32) 148 := vp_in_nI (n := 18) (by decide) (by decide)
  have i35 : vp_in (35 : Int32) 148 := vp_in_nI (n := 35) (by decide) (by decide)
  have i36 : vp_in (36 : Int32) 148 := vp_in_nI (n := 36) (by decide) (by decide)
  have ex : W.1.1 (18 : Int32).toNatClampNeg = nI (tX S) := hx
  have ey : W.1.1 (36 : Int32).toNatClampNeg = nI (tY S) := hy
  have eb : W.1.1 (35 : Int32).toNatClampNeg = nI (sB (tA S)) := hM.bn
  refine e_of [some (.ref 0), some (.int x), some (.int what)] rfl (by decide) rfl rfl rfl ?_
  rw [s_before]
  cases g : inb (nI (2 ^ sN (tA S))) x with
  | false =>
    refine r_aload_n (i := 0) 1 dX8_before_0 rfl rfl rfl ?_
    refine r_iload_n (i := 1) 2 dX8_before_1 rfl rfl rfl ?_
    refine r_callMi 5 dX8_before_2 rfl ykX8_isState lk_X8_191 (e2_isState hM x) rfl rfl rfl rfl rfl rfl ⟨Nat.le_refl _, Nat.le_refl _⟩ ?_
    rw [g]
    refine r_if_eq 18 8 dX8_before_5 rfl rfl (fun h5 => ?_) (fun h5 => absurd rfl h5)
    refine r_iconst (v := (-1)) 19 dX8_before_18 rfl rfl ?_
    exact r_reti dX8_before_19 rfl (by first | rfl | exact bI_nar _) ⟨Nat.le_refl _, Nat.le_refl _⟩ (fun _ => rfl) (⟨rfl, hC0⟩)
  | true =>
    obtain ⟨j, hj, rfl⟩ := inb_nI (by omega) g
    rw [nI_clamp (n := j) (by omega), isb_inb]
    cases g2 : inb (nI 2) what with
    | false =>
      refine r_aload_n (i := 0) 1 dX8_before_0 rfl rfl rfl ?_
      refine r_iload_n (i := 1) 2 dX8_before_1 rfl rfl rfl ?_
      refine r_callMi 5 dX8_before_2 rfl ykX8_isState lk_X8_191 (e2_isState hM (nI j)) rfl rfl rfl rfl rfl rfl ⟨Nat.le_refl _, Nat.le_refl _⟩ ?_
      rw [g]
      refine r_if_eq 18 8 dX8_before_5 rfl rfl (fun h5 => absurd h5 (by decide)) (fun h5 => ?_)
      refine r_iload_n (i := 2) 9 dX8_before_8 rfl rfl rfl ?_
      refine r_i2l 10 dX8_before_9 rfl ?_
      refine r_lconst (v := 0) 11 dX8_before_10 rfl rfl ?_
      refine r_lconst (v := 1) 12 dX8_before_11 rfl rfl ?_
      refine r_callSi [] 15 dX8_before_12 rfl ykX8_in lk_X8_46 (e_in0 what (n := 2) (by decide) (by decide)) rfl rfl rfl ⟨Nat.le_refl _, Nat.le_refl _⟩ ?_
      rw [g2]
      refine r_if_ne 20 18 dX8_before_15 rfl rfl (fun h15 => absurd rfl h15) (fun h15 => ?_)
      refine r_iconst (v := (-1)) 19 dX8_before_18 rfl rfl ?_
      exact r_reti dX8_before_19 rfl (by first | rfl | exact bI_nar _) ⟨Nat.le_refl _, Nat.le_refl _⟩ (fun _ => rfl) (⟨rfl, hC0⟩)
    | true =>
      refine r_aload_n (i := 0) 1 dX8_before_0 rfl rfl rfl ?_
      refine r_iload_n (i := 1) 2 dX8_before_1 rfl rfl rfl ?_
      refine r_callMi 5 dX8_before_2 rfl ykX8_isState lk_X8_191 (e2_isState hM (nI j)) rfl rfl rfl rfl rfl rfl ⟨Nat.le_refl _, Nat.le_refl _⟩ ?_
      rw [g]
      refine r_if_eq 18 8 dX8_before_5 rfl rfl (fun h5 => absurd h5 (by decide)) (fun h5 => ?_)
      refine r_iload_n (i := 2) 9 dX8_before_8 rfl rfl rfl ?_
      refine r_i2l 10 dX8_before_9 rfl ?_
      refine r_lconst (v := 0) 11 dX8_before_10 rfl rfl ?_
      refine r_lconst (v := 1) 12 dX8_before_11 rfl rfl ?_
      refine r_callSi [] 15 dX8_before_12 rfl ykX8_in lk_X8_46 (e_in0 what (n := 2) (by decide) (by decide)) rfl rfl rfl ⟨Nat.le_refl _, Nat.le_refl _⟩ ?_
      rw [g2]
      refine r_if_ne 20 18 dX8_before_15 rfl rfl (fun h15 => ?_) (fun h15 => absurd h15 (by decide))
      refine r_aload_n (i := 0) 21 dX8_before_20 rfl rfl rfl ?_
      refine r_iload_n (i := 1) 22 dX8_before_21 rfl rfl rfl ?_
      refine r_callMu 25 dX8_before_22 rfl ykX8_comesOf lk_X8_224 (e2_comesOf hM hj) rfl rfl rfl rfl rfl rfl ⟨Nat.le_refl _, Nat.le_refl _⟩ ?_
      refine r_aload_n (i := 0) 26 dX8_before_25 rfl rfl rfl ?_
      refine r_iload_n (i := 2) 27 dX8_before_26 rfl rfl rfl ?_
      refine r_callMi 30 dX8_before_27 rfl ykX8_told lk_X8_221 (e2_tlTold hM (bfr (tA S) j) what) rfl rfl rfl rfl rfl rfl ⟨Nat.le_refl _, Nat.le_refl _⟩ ?_
      exact r_reti dX8_before_30 rfl (by first | rfl | exact bI_nar _) ⟨Nat.le_refl _, Nat.le_refl _⟩ (fun _ => rfl) (⟨rfl, _, rfl, relM_To hR _⟩)
theorem q_fits (hT : tOk S) (hC : CM S w) (what : Int32) : mm_e (d + 6) yX8_fits mX8_fits [.ref 0, .int what] w (QM (s_fits S what) S) := by
  have hC0 := hC
  obtain ⟨W, rfl, hR⟩ := hC
  obtain ⟨hM, ⟨hx, hy⟩, ⟨ht, hb⟩, hf, ⟨v1, v2⟩, ⟨hk0, hk1⟩, hI, hH, hn⟩ := id hR
  have h6 := hM.n6
  have h4 := hM.g4
  have h5 := hM.b4
  have p6 := p2_le hM.n6
  have l0 := hM.lt31 hT.2.1
  have i18 : vp_in (18 : Int32) 148 := vp_in_nI (n := 18) (by decide) (by decide)
  have i35 : vp_in (35 : Int32) 148 := vp_in_nI (n := 35) (by decide) (by decide)
  have i36 : vp_in (36 : Int32) 148 := vp_in_nI (n := 36) (by decide) (by decide)
  have ex : W.1.1 (18 : Int32).toNatClampNeg = nI (tX S) := hx
  have ey : W.1.1 (36 : Int32).toNatClampNeg = nI (tY S) := hy
  have eb : W.1.1 (35 : Int32).toNatClampNeg = nI (sB (tA S)) := hM.bn
  refine e_of [some (.ref 0), some (.int what), none] rfl (by decide) rfl rfl rfl ?_
  rw [s_fits]
  cases g : inb 4 what with
  | false =>
    refine r_iload_n (i := 1) 1 dX8_fits_0 rfl rfl rfl ?_
    refine r_i2l 2 dX8_fits_1 rfl ?_
    refine r_lconst (v := 0) 3 dX8_fits_2 rfl rfl ?_
    refine r_ldc2 6 dX8_fits_3 rfl k_X8_194 ?_
    refine r_callSi [] 9 dX8_fits_6 rfl ykX8_in lk_X8_46 (e_in0 what (n := 4) (by decide) (by decide)) rfl rfl rfl ⟨Nat.le_refl _, Nat.le_refl _⟩ ?_
    rw [show inb (nI 4) what = false from g]
    refine r_if_ne 14 12 dX8_fits_9 rfl rfl (fun h9 => absurd rfl h9) (fun h9 => ?_)
    refine r_iconst (v := (-1)) 13 dX8_fits_12 rfl rfl ?_
    exact r_reti dX8_fits_13 rfl (by first | rfl | exact bI_nar _) ⟨Nat.le_refl _, Nat.le_refl _⟩ (fun _ => rfl) (⟨rfl, hC0⟩)
  | true =>
    refine r_iload_n (i := 1) 1 dX8_fits_0 rfl rfl rfl ?_
    refine r_i2l 2 dX8_fits_1 rfl ?_
    refine r_lconst (v := 0) 3 dX8_fits_2 rfl rfl ?_
    refine r_ldc2 6 dX8_fits_3 rfl k_X8_194 ?_
    refine r_callSi [] 9 dX8_fits_6 rfl ykX8_in lk_X8_46 (e_in0 what (n := 4) (by decide) (by decide)) rfl rfl rfl ⟨Nat.le_refl _, Nat.le_refl _⟩ ?_
    rw [show inb (nI 4) what = true from g]
    refine r_if_ne 14 12 dX8_fits_9 rfl rfl (fun h9 => ?_) (fun h9 => absurd h9 (by decide))
    refine r_aload_n (i := 0) 15 dX8_fits_14 rfl rfl rfl ?_
    refine r_callMu 18 dX8_fits_15 rfl ykX8_tellsNone lk_X8_212 (e2_tellsNone hM (fit (tV S) (tA S))) rfl rfl rfl rfl rfl rfl ⟨Nat.le_refl _, Nat.le_refl _⟩ ?_
    refine r_iconst (v := 0) 19 dX8_fits_18 rfl rfl ?_
    refine r_istore_n (i := 2) 20 dX8_fits_19 rfl rfl rfl ?_
    refine l2_fits hM ⟨v1, v2⟩ hT.2.2.2.2.2.2.1 ?_ _ 0 rfl (Nat.zero_le _)
    refine r_aload_n (i := 0) 48 dX8_fits_47 rfl rfl rfl ?_
    refine r_iload_n (i := 1) 49 dX8_fits_48 rfl rfl rfl ?_
    refine r_callMi 52 dX8_fits_49 rfl ykX8_told lk_X8_221 (e2_tlTold hM (fit (tV S) (tA S)) what) rfl rfl rfl rfl rfl rfl ⟨Nat.le_refl _, Nat.le_refl _⟩ ?_
    exact r_reti dX8_fits_52 rfl (by first | rfl | exact bI_nar _) ⟨Nat.le_refl _, Nat.le_refl _⟩ (fun _ => rfl) (⟨rfl, _, rfl, relM_To hR _⟩)
theorem q_gardens (hT : tOk S) (hC : CM S w) : mm_e (d + 5) yX8_gardens mX8_gardens [.ref 0] w (QM (s_gardens S) S) := by
  have hC0 := hC
  obtain ⟨W, rfl, hR⟩ := hC
  obtain ⟨hM, ⟨hx, hy⟩, ⟨ht, hb⟩, hf, ⟨v1, v2⟩, ⟨hk0, hk1⟩, hI, hH, hn⟩ := id hR
  have h6 := hM.n6
  have h4 := hM.g4
  have h5 := hM.b4
  have p6 := p2_le hM.n6
  have l0 := hM.lt31 hT.2.1
  have i18 : vp_in (18 : Int32) 148 := vp_in_nI (n := 18) (by decide) (by decide)
  have i35 : vp_in (35 : Int32) 148 := vp_in_nI (n := 35) (by decide) (by decide)
  have i36 : vp_in (36 : Int32) 148 := vp_in_nI (n := 36) (by decide) (by decide)
  have ex : W.1.1 (18 : Int32).toNatClampNeg = nI (tX S) := hx
  have ey : W.1.1 (36 : Int32).toNatClampNeg = nI (tY S) := hy
  have eb : W.1.1 (35 : Int32).toNatClampNeg = nI (sB (tA S)) := hM.bn
  refine e_of [some (.ref 0), none, none] rfl (by decide) rfl rfl rfl ?_
  refine r_iconst (v := 0) 1 dX8_gardens_0 rfl rfl ?_
  refine r_istore_n (i := 1) 2 dX8_gardens_1 rfl rfl rfl ?_
  refine r_iconst (v := 0) 3 dX8_gardens_2 rfl rfl ?_
  refine r_istore_n (i := 2) 4 dX8_gardens_3 rfl rfl rfl ?_
  refine r_eq (l2_gardens hM (fun t => ?_) _ 0 W.2.2.2.1 rfl (Nat.zero_le _)) rfl rfl rfl
  refine r_iload_n (i := 1) 39 dX8_gardens_38 rfl rfl rfl ?_
  exact r_reti dX8_gardens_39 rfl (by first | rfl | exact bI_nar _) ⟨Nat.le_refl _, Nat.le_refl _⟩ (fun _ => rfl) (⟨rfl, _, rfl, relM_To hR _⟩)
theorem dr60 (n : Int32) : (decide (¬ n < 1) && decide (¬ 60 < n)) = true ↔ (1 : Int64).toInt ≤ n.toInt64.toInt ∧ n.toInt64.toInt ≤ (60 : Int64).toInt := by
  rw [Bool.and_eq_true, decide_eq_true_eq, decide_eq_true_eq, fa_lt, fa_lt, Int32.toInt_toInt64]
  have h1 : (1 : Int32).toInt = 1 := rfl
  have h2 : (60 : Int32).toInt = 60 := rfl
  have h3 : (1 : Int64).toInt = 1 := rfl
  have h4 : (60 : Int64).toInt = 60 := rfl
  omega
theorem q_drift (hT : tOk S) (hC : CM S w) (seed : Int32) (n : Int32) (what : Int32) : mm_e (d + 4) yX8_drift mX8_drift [.ref 0, .int seed, .int n, .int what] w (QM (s_drift S seed n what) S) := by
  have hC0 := hC
  obtain ⟨W, rfl, hR⟩ := hC
  obtain ⟨hM, ⟨hx, hy⟩, ⟨ht, hb⟩, hf, ⟨v1, v2⟩, ⟨hk0, hk1⟩, hI, hH, hn⟩ := id hR
  have h6 := hM.n6
  have h4 := hM.g4
  have h5 := hM.b4
  have p6 := p2_le hM.n6
  have l0 := hM.lt31 hT.2.1
  have i18 : vp_in (18 : Int32) 148 := vp_in_nI (n := 18) (by decide) (by decide)
  have i35 : vp_in (35 : Int32) 148 := vp_in_nI (n := 35) (by decide) (by decide)
  have i36 : vp_in (36 : Int32) 148 := vp_in_nI (n := 36) (by decide) (by decide)
  have ex : W.1.1 (18 : Int32).toNatClampNeg = nI (tX S) := hx
  have ey : W.1.1 (36 : Int32).toNatClampNeg = nI (tY S) := hy
  have eb : W.1.1 (35 : Int32).toNatClampNeg = nI (sB (tA S)) := hM.bn
  refine e_of [some (.ref 0), some (.int seed), some (.int n), some (.int what), none, none, none, none] rfl (by decide) rfl rfl rfl ?_
  rw [s_drift, isb_inb]
  cases g : (decide (¬ n < 1) && decide (¬ 60 < n)) with
  | false =>
    refine r_iload_n (i := 2) 1 dX8_drift_0 rfl rfl rfl ?_
    refine r_i2l 2 dX8_drift_1 rfl ?_
    refine r_lconst (v := 1) 3 dX8_drift_2 rfl rfl ?_
    refine r_ldc2 6 dX8_drift_3 rfl k_X8_275 ?_
    refine r_callSi [] 9 dX8_drift_6 rfl ykX8_in lk_X8_46 (e_inx (b := decide (¬ n < 1) && decide (¬ 60 < n)) (dr60 n)) rfl rfl rfl ⟨Nat.le_refl _, Nat.le_refl _⟩ ?_
    rw [g]
    refine r_if_eq 22 12 dX8_drift_9 rfl rfl (fun h9 => ?_) (fun h9 => absurd rfl h9)
    refine r_iconst (v := (-1)) 23 dX8_drift_22 rfl rfl ?_
    exact r_reti dX8_drift_23 rfl (by first | rfl | exact bI_nar _) ⟨Nat.le_refl _, Nat.le_refl _⟩ (fun _ => rfl) (⟨rfl, hC0⟩)
  | true =>
    cases g2 : inb (nI 2) what with
    | false =>
      refine r_iload_n (i := 2) 1 dX8_drift_0 rfl rfl rfl ?_
      refine r_i2l 2 dX8_drift_1 rfl ?_
      refine r_lconst (v := 1) 3 dX8_drift_2 rfl rfl ?_
      refine r_ldc2 6 dX8_drift_3 rfl k_X8_275 ?_
      refine r_callSi [] 9 dX8_drift_6 rfl ykX8_in lk_X8_46 (e_inx (b := decide (¬ n < 1) && decide (¬ 60 < n)) (dr60 n)) rfl rfl rfl ⟨Nat.le_refl _, Nat.le_refl _⟩ ?_
      rw [g]
      refine r_if_eq 22 12 dX8_drift_9 rfl rfl (fun h9 => absurd h9 (by decide)) (fun h9 => ?_)
      refine r_iload_n (i := 3) 13 dX8_drift_12 rfl rfl rfl ?_
      refine r_i2l 14 dX8_drift_13 rfl ?_
      refine r_lconst (v := 0) 15 dX8_drift_14 rfl rfl ?_
      refine r_lconst (v := 1) 16 dX8_drift_15 rfl rfl ?_
      refine r_callSi [] 19 dX8_drift_16 rfl ykX8_in lk_X8_46 (e_in0 what (n := 2) (by decide) (by decide)) rfl rfl rfl ⟨Nat.le_refl _, Nat.le_refl _⟩ ?_
      rw [g2]
      refine r_if_ne 24 22 dX8_drift_19 rfl rfl (fun h19 => absurd rfl h19) (fun h19 => ?_)
      refine r_iconst (v := (-1)) 23 dX8_drift_22 rfl rfl ?_
      exact r_reti dX8_drift_23 rfl (by first | rfl | exact bI_nar _) ⟨Nat.le_refl _, Nat.le_refl _⟩ (fun _ => rfl) (⟨rfl, hC0⟩)
    | true =>
      have gn : inb (nI 61) n = true := by
        have := (dr60 n).mp g
        rw [inb_iff (by decide)]
        rw [Int32.toInt_toInt64] at this
        have h3 : (1 : Int64).toInt = 1 := rfl
        have h4 : (60 : Int64).toInt = 60 := rfl
        omega
      obtain ⟨j, hj, rfl⟩ := inb_nI (n := 61) (by decide) gn
      rw [nI_clamp (n := j) (by omega), Bool.and_self, if_pos rfl]
      refine r_iload_n (i := 2) 1 dX8_drift_0 rfl rfl rfl ?_
      refine r_i2l 2 dX8_drift_1 rfl ?_
      refine r_lconst (v := 1) 3 dX8_drift_2 rfl rfl ?_
      refine r_ldc2 6 dX8_drift_3 rfl k_X8_275 ?_
      refine r_callSi [] 9 dX8_drift_6 rfl ykX8_in lk_X8_46 (e_inx (b := decide (¬ nI j < 1) && decide (¬ 60 < nI j)) (dr60 (nI j))) rfl rfl rfl ⟨Nat.le_refl _, Nat.le_refl _⟩ ?_
      rw [g]
      refine r_if_eq 22 12 dX8_drift_9 rfl rfl (fun h9 => absurd h9 (by decide)) (fun h9 => ?_)
      refine r_iload_n (i := 3) 13 dX8_drift_12 rfl rfl rfl ?_
      refine r_i2l 14 dX8_drift_13 rfl ?_
      refine r_lconst (v := 0) 15 dX8_drift_14 rfl rfl ?_
      refine r_lconst (v := 1) 16 dX8_drift_15 rfl rfl ?_
      refine r_callSi [] 19 dX8_drift_16 rfl ykX8_in lk_X8_46 (e_in0 what (n := 2) (by decide) (by decide)) rfl rfl rfl ⟨Nat.le_refl _, Nat.le_refl _⟩ ?_
      rw [g2]
      refine r_if_ne 24 22 dX8_drift_19 rfl rfl (fun h19 => ?_) (fun h19 => absurd h19 (by decide))
      refine r_aload_n (i := 0) 25 dX8_drift_24 rfl rfl rfl ?_
      refine r_getf 28 dX8_drift_25 rfl fl_X8_125 rfl rfl ?_
      rw [hM.tm]
      refine r_if_ne 34 31 dX8_drift_28 rfl rfl (fun h28 => ?_) (fun h28 => ?_)
      · have q := bne_of (b := 0) (by omega) (by decide) h28
        rw [if_neg q]
        refine r_iload_n (i := 1) 35 dX8_drift_34 rfl rfl rfl ?_
        refine r_istore (i := 4) 37 dX8_drift_35 rfl rfl ?_
        refine r_aload_n (i := 0) 38 dX8_drift_37 rfl rfl rfl ?_
        refine r_getf 41 dX8_drift_38 rfl fl_X8_7 rfl rfl ?_
        refine r_bipush (v := 18) 43 dX8_drift_41 rfl rfl ?_
        refine r_iald 44 dX8_drift_43 rfl rfl (by assumption) ?_
        rw [ex]
        refine r_istore (i := 5) 46 dX8_drift_44 rfl rfl ?_
        refine r_iconst (v := 0) 47 dX8_drift_46 rfl rfl ?_
        refine r_istore (i := 6) 49 dX8_drift_47 rfl rfl ?_
        refine r_iconst (v := 0) 50 dX8_drift_49 rfl rfl ?_
        refine r_istore (i := 7) 52 dX8_drift_50 rfl rfl ?_
        exact l2_drift hM hT.2.1 (by omega) seed seed what (by omega) hC0 _ 0 rfl (Nat.zero_le _)
      · have q := beq_of (b := 0) (by omega) (by decide) h28
        rw [if_pos q]
        refine r_bipush (v := (-2)) 33 dX8_drift_31 rfl rfl ?_
        exact r_reti dX8_drift_33 rfl (by first | rfl | exact bI_nar _) ⟨Nat.le_refl _, Nat.le_refl _⟩ (fun _ => rfl) (⟨rfl, hC0⟩)
end MF
