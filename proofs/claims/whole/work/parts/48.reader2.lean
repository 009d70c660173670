section X1S
variable {d : Nat} {B : Nat → Int32} {b : Nat → Nat} {n : Nat} {F : FlT} {A : sA} {l : Int32} {s : pS}
def twP (b : Nat → Nat) (s : pS) (j : Nat) : Bool := decide (pK s = 1) && wrd b (pT s) (pP s) j
theorem tw_eq (b : Nat → Nat) (s : pS) : tw b s = if twP b s 0 then 0 else if twP b s 1 then 1 else if twP b s 2 then 2 else if twP b s 3 then 3 else if twP b s 4 then 4 else if twP b s 5 then 5 else if twP b s 6 then 6 else if twP b s 7 then 7 else 8 := by
  unfold tw twP
  by_cases q : pK s = 1
  · rw [if_pos q, decide_eq_true q]
    simp only [Bool.true_and]
    rfl
  · rw [if_neg q, decide_eq_false q]
    simp
theorem tw_le (b : Nat → Nat) (s : pS) : tw b s ≤ 8 := by
  rw [tw_eq]
  repeat (first | omega | split)
def wv (j : Nat) : Int32 := if j = 8 then -1 else nI j
theorem e_wordRead (h : tpo B b n) (hs : sI n s) (ha : pT s ≤ pP s) : mm_e (d + 6) yX1_wordRead mX1_wordRead [.ref 0] (wRd (rR B n s F l)) (mm_q (some (.int (wv (tw b s)))) (wRd (rR B n s F l))) := by
  have hn := h.1
  refine e_of [some (.ref 0)] rfl (by decide) rfl rfl rfl ?_
  rw [tw_eq]
  refine r_aload_n (i := 0) 1 dX1_wordRead_0 rfl rfl rfl ?_
  refine r_getf 4 dX1_wordRead_1 rfl fl_X1_12 rfl rfl ?_
  refine r_ldcS (j := 0) 6 dX1_wordRead_4 rfl rfl rfl rfl ?_
  refine r_callVi [1, 2] 9 dX1_wordRead_6 rfl ykX6_tokenIs lk_X1_77 (e_tokenIs (t := pK s) h hs.2.2.1 (j := 0) (by decide) hs.1 ha) rfl rfl rfl rfl rfl rfl rfl ⟨Nat.le_refl _, Nat.le_refl _⟩ ?_
  refine r_if_eq 14 12 dX1_wordRead_9 rfl rfl (fun h9 => ?_) (fun h9 => ?_)
  · have g0 : twP b s 0 = false := bI_eq0 h9
    rw [if_neg (show ¬ twP b s 0 = true by rw [g0]; decide)]
    refine r_aload_n (i := 0) 15 dX1_wordRead_14 rfl rfl rfl ?_
    refine r_getf 18 dX1_wordRead_15 rfl fl_X1_12 rfl rfl ?_
    refine r_ldcS (j := 1) 20 dX1_wordRead_18 rfl rfl rfl rfl ?_
    refine r_callVi [1, 2] 23 dX1_wordRead_20 rfl ykX6_tokenIs lk_X1_77 (e_tokenIs (t := pK s) h hs.2.2.1 (j := 1) (by decide) hs.1 ha) rfl rfl rfl rfl rfl rfl rfl ⟨Nat.le_refl _, Nat.le_refl _⟩ ?_
    refine r_if_eq 28 26 dX1_wordRead_23 rfl rfl (fun h23 => ?_) (fun h23 => ?_)
    · have g1 : twP b s 1 = false := bI_eq0 h23
      rw [if_neg (show ¬ twP b s 1 = true by rw [g1]; decide)]
      refine r_aload_n (i := 0) 29 dX1_wordRead_28 rfl rfl rfl ?_
      refine r_getf 32 dX1_wordRead_29 rfl fl_X1_12 rfl rfl ?_
      refine r_ldcS (j := 2) 34 dX1_wordRead_32 rfl rfl rfl rfl ?_
      refine r_callVi [1, 2] 37 dX1_wordRead_34 rfl ykX6_tokenIs lk_X1_77 (e_tokenIs (t := pK s) h hs.2.2.1 (j := 2) (by decide) hs.1 ha) rfl rfl rfl rfl rfl rfl rfl ⟨Nat.le_refl _, Nat.le_refl _⟩ ?_
      refine r_if_eq 42 40 dX1_wordRead_37 rfl rfl (fun h37 => ?_) (fun h37 => ?_)
      · have g2 : twP b s 2 = false := bI_eq0 h37
        rw [if_neg (show ¬ twP b s 2 = true by rw [g2]; decide)]
        refine r_aload_n (i := 0) 43 dX1_wordRead_42 rfl rfl rfl ?_
        refine r_getf 46 dX1_wordRead_43 rfl fl_X1_12 rfl rfl ?_
        refine r_ldcS (j := 3) 48 dX1_wordRead_46 rfl rfl rfl rfl ?_
        refine r_callVi [1, 2] 51 dX1_wordRead_48 rfl ykX6_tokenIs lk_X1_77 (e_tokenIs (t := pK s) h hs.2.2.1 (j := 3) (by decide) hs.1 ha) rfl rfl rfl rfl rfl rfl rfl ⟨Nat.le_refl _, Nat.le_refl _⟩ ?_
        refine r_if_eq 56 54 dX1_wordRead_51 rfl rfl (fun h51 => ?_) (fun h51 => ?_)
        · have g3 : twP b s 3 = false := bI_eq0 h51
          rw [if_neg (show ¬ twP b s 3 = true by rw [g3]; decide)]
          refine r_aload_n (i := 0) 57 dX1_wordRead_56 rfl rfl rfl ?_
          refine r_getf 60 dX1_wordRead_57 rfl fl_X1_12 rfl rfl ?_
          refine r_ldcS (j := 4) 62 dX1_wordRead_60 rfl rfl rfl rfl ?_
          refine r_callVi [1, 2] 65 dX1_wordRead_62 rfl ykX6_tokenIs lk_X1_77 (e_tokenIs (t := pK s) h hs.2.2.1 (j := 4) (by decide) hs.1 ha) rfl rfl rfl rfl rfl rfl rfl ⟨Nat.le_refl _, Nat.le_refl _⟩ ?_
          refine r_if_eq 70 68 dX1_wordRead_65 rfl rfl (fun h65 => ?_) (fun h65 => ?_)
          · have g4 : twP b s 4 = false := bI_eq0 h65
            rw [if_neg (show ¬ twP b s 4 = true by rw [g4]; decide)]
            refine r_aload_n (i := 0) 71 dX1_wordRead_70 rfl rfl rfl ?_
            refine r_getf 74 dX1_wordRead_71 rfl fl_X1_12 rfl rfl ?_
            refine r_ldcS (j := 5) 76 dX1_wordRead_74 rfl rfl rfl rfl ?_
            refine r_callVi [1, 2] 79 dX1_wordRead_76 rfl ykX6_tokenIs lk_X1_77 (e_tokenIs (t := pK s) h hs.2.2.1 (j := 5) (by decide) hs.1 ha) rfl rfl rfl rfl rfl rfl rfl ⟨Nat.le_refl _, Nat.le_refl _⟩ ?_
            refine r_if_eq 84 82 dX1_wordRead_79 rfl rfl (fun h79 => ?_) (fun h79 => ?_)
            · have g5 : twP b s 5 = false := bI_eq0 h79
              rw [if_neg (show ¬ twP b s 5 = true by rw [g5]; decide)]
              refine r_aload_n (i := 0) 85 dX1_wordRead_84 rfl rfl rfl ?_
              refine r_getf 88 dX1_wordRead_85 rfl fl_X1_12 rfl rfl ?_
              refine r_ldcS (j := 6) 90 dX1_wordRead_88 rfl rfl rfl rfl ?_
              refine r_callVi [1, 2] 93 dX1_wordRead_90 rfl ykX6_tokenIs lk_X1_77 (e_tokenIs (t := pK s) h hs.2.2.1 (j := 6) (by decide) hs.1 ha) rfl rfl rfl rfl rfl rfl rfl ⟨Nat.le_refl _, Nat.le_refl _⟩ ?_
              refine r_if_eq 99 96 dX1_wordRead_93 rfl rfl (fun h93 => ?_) (fun h93 => ?_)
              · have g6 : twP b s 6 = false := bI_eq0 h93
                rw [if_neg (show ¬ twP b s 6 = true by rw [g6]; decide)]
                refine r_aload_n (i := 0) 100 dX1_wordRead_99 rfl rfl rfl ?_
                refine r_getf 103 dX1_wordRead_100 rfl fl_X1_12 rfl rfl ?_
                refine r_ldcS (j := 7) 105 dX1_wordRead_103 rfl rfl rfl rfl ?_
                refine r_callVi [1, 2] 108 dX1_wordRead_105 rfl ykX6_tokenIs lk_X1_77 (e_tokenIs (t := pK s) h hs.2.2.1 (j := 7) (by decide) hs.1 ha) rfl rfl rfl rfl rfl rfl rfl ⟨Nat.le_refl _, Nat.le_refl _⟩ ?_
                refine r_if_eq 116 111 dX1_wordRead_108 rfl rfl (fun h108 => ?_) (fun h108 => ?_)
                · have g7 : twP b s 7 = false := bI_eq0 h108
                  rw [if_neg (show ¬ twP b s 7 = true by rw [g7]; decide)]
                  refine r_iconst (v := (-1)) 117 dX1_wordRead_116 rfl rfl ?_
                  exact r_reti dX1_wordRead_117 rfl (by first | rfl | exact bI_nar _) ⟨Nat.le_refl _, Nat.le_refl _⟩ (fun _ => rfl) (⟨rfl, rfl⟩)
                · have g7 : twP b s 7 = true := bI_ne0 h108
                  rw [if_pos g7]
                  refine r_bipush (v := 7) 113 dX1_wordRead_111 rfl rfl ?_
                  refine r_goto 117 dX1_wordRead_113 rfl ?_
                  exact r_reti dX1_wordRead_117 rfl (by first | rfl | exact bI_nar _) ⟨Nat.le_refl _, Nat.le_refl _⟩ (fun _ => rfl) (⟨rfl, rfl⟩)
              · have g6 : twP b s 6 = true := bI_ne0 h93
                rw [if_pos g6]
                refine r_bipush (v := 6) 98 dX1_wordRead_96 rfl rfl ?_
                exact r_reti dX1_wordRead_98 rfl (by first | rfl | exact bI_nar _) ⟨Nat.le_refl _, Nat.le_refl _⟩ (fun _ => rfl) (⟨rfl, rfl⟩)
            · have g5 : twP b s 5 = true := bI_ne0 h79
              rw [if_pos g5]
              refine r_iconst (v := 5) 83 dX1_wordRead_82 rfl rfl ?_
              exact r_reti dX1_wordRead_83 rfl (by first | rfl | exact bI_nar _) ⟨Nat.le_refl _, Nat.le_refl _⟩ (fun _ => rfl) (⟨rfl, rfl⟩)
          · have g4 : twP b s 4 = true := bI_ne0 h65
            rw [if_pos g4]
            refine r_iconst (v := 4) 69 dX1_wordRead_68 rfl rfl ?_
            exact r_reti dX1_wordRead_69 rfl (by first | rfl | exact bI_nar _) ⟨Nat.le_refl _, Nat.le_refl _⟩ (fun _ => rfl) (⟨rfl, rfl⟩)
        · have g3 : twP b s 3 = true := bI_ne0 h51
          rw [if_pos g3]
          refine r_iconst (v := 3) 55 dX1_wordRead_54 rfl rfl ?_
          exact r_reti dX1_wordRead_55 rfl (by first | rfl | exact bI_nar _) ⟨Nat.le_refl _, Nat.le_refl _⟩ (fun _ => rfl) (⟨rfl, rfl⟩)
      · have g2 : twP b s 2 = true := bI_ne0 h37
        rw [if_pos g2]
        refine r_iconst (v := 2) 41 dX1_wordRead_40 rfl rfl ?_
        exact r_reti dX1_wordRead_41 rfl (by first | rfl | exact bI_nar _) ⟨Nat.le_refl _, Nat.le_refl _⟩ (fun _ => rfl) (⟨rfl, rfl⟩)
    · have g1 : twP b s 1 = true := bI_ne0 h23
      rw [if_pos g1]
      refine r_iconst (v := 1) 27 dX1_wordRead_26 rfl rfl ?_
      exact r_reti dX1_wordRead_27 rfl (by first | rfl | exact bI_nar _) ⟨Nat.le_refl _, Nat.le_refl _⟩ (fun _ => rfl) (⟨rfl, rfl⟩)
  · have g0 : twP b s 0 = true := bI_ne0 h9
    rw [if_pos g0]
    refine r_iconst (v := 0) 13 dX1_wordRead_12 rfl rfl ?_
    exact r_reti dX1_wordRead_13 rfl (by first | rfl | exact bI_nar _) ⟨Nat.le_refl _, Nat.le_refl _⟩ (fun _ => rfl) (⟨rfl, rfl⟩)
-- a line goes on
def adv (n : Nat) (s s' : pS) : Prop := pP s ≤ n → pF s' = 0 → pF s = 0 ∧ pP s ≤ pP s' ∧ pP s' ≤ n ∧ pL s' = pL s
theorem adv_tr {n : Nat} {s s' s'' : pS} (h1 : adv n s s') (h2 : pP s' ≤ n → adv n s' s'') (hb : pP s' ≤ n) : adv n s s'' := by
  intro a z
  obtain ⟨b1, b2, b3, b4⟩ := h2 hb hb z
  obtain ⟨c1, c2, c3, c4⟩ := h1 a b1
  exact ⟨c1, by omega, b3, by rw [b4, c4]⟩
theorem adv_fIf (n : Nat) (c : Bool) {k : Nat} (hk : k ≠ 0) (s : pS) : adv n s (fIf c k s) := by
  intro a z
  obtain ⟨b1, b2, b3⟩ := fIf_n0 z hk
  rw [b3]
  exact ⟨b1, Nat.le_refl _, a, rfl⟩
theorem adv_tkN (b : Nat → Nat) (n most : Nat) (s : pS) : adv n s (tkN b n most s) := by
  intro a z
  obtain ⟨b1, b2, b3, b4, b5⟩ := tkN_ok z
  have h1 := tB_le (b := b) a
  have h2 := tE_le (b := b) a
  rw [b4]
  exact ⟨b1, by show pP s ≤ tE b n (pP s); omega, h2.2, rfl⟩
theorem adv_tkS {b : Nat → Nat} {n : Nat} {s : pS} (a : pP s ≤ n) (z : pF (tkS b n s) = 0) : pF s = 0 ∧ pP s + 1 ≤ pP (tkS b n s) ∧ pP (tkS b n s) ≤ n ∧ pL (tkS b n s) = pL s := by
  obtain ⟨b1, b2, b4⟩ := tkS_ok z
  have h1 := tB_le (b := b) a
  have h2 := tE_le (b := b) a
  have h3 := tE_lt (b := b) a (tK_4 (by omega))
  rw [b4]
  exact ⟨b1, by show pP s + 1 ≤ tE b n (pP s); omega, h2.2, rfl⟩
theorem pz1 (s : pS) (A : sA) (x : Nat) : ((s, A, x) : pZ).1 = s := rfl
theorem e_guest (b : Nat → Nat) (n : Nat) (s : pS) (A : sA) (x : Nat) : c_guest b n (s, A, x) = (tkS b n (tkN b n 9 (tkN b n 5 (fIf (decide (4 ≤ sG A)) 5 s))), (if sG A < 4 then aG A (tkW b n 5 (fIf (decide (4 ≤ sG A)) 5 s)) (tkW b n 9 (tkN b n 5 (fIf (decide (4 ≤ sG A)) 5 s))) else A), x) := rfl
theorem e_ban (b : Nat → Nat) (n : Nat) (s : pS) (A : sA) (x : Nat) : c_ban b n (s, A, x) = (tkS b n (fIf (decide (tkW b n 5 (fIf (decide (4 ≤ sB A)) 5 s) = tkW b n 5 (tkN b n 5 (fIf (decide (4 ≤ sB A)) 5 s)))) 3 (tkN b n 5 (tkN b n 5 (fIf (decide (4 ≤ sB A)) 5 s)))), (if sB A < 4 then aB A (tkW b n 5 (fIf (decide (4 ≤ sB A)) 5 s)) (tkW b n 5 (tkN b n 5 (fIf (decide (4 ≤ sB A)) 5 s))) else A), x) := rfl
theorem e_so (b : Nat → Nat) (n : Nat) (s : pS) (A : sA) (x : Nat) : c_so b n (s, A, x) = (tkS b n (fIf (decide (tb x (tkW b n 5 s) = 1)) 4 (tkN b n 5 s)), A, x ||| 2 ^ tkW b n 5 s) := rfl
theorem e_thing (b : Nat → Nat) (n k : Nat) (s : pS) (A : sA) (x : Nat) : c_thing b n k (s, A, x) = c_thing1 b n k (fIf (decide (6 ≤ sN A)) 5 s) A x := rfl
theorem sI_thing (hs : sI n s) {k : Nat} (hk : k ≤ 4) (x : Nat) : sI n (c_thing b n k (s, A, x)).1 := by
  have h1 : sI n (fIf (decide (6 ≤ sN A)) 5 s) := sI_fIf (by decide) hs
  rw [e_thing]
  generalize fIf (decide (6 ≤ sN A)) 5 s = s1 at h1 ⊢
  rcases (by omega : k = 0 ∨ (k = 1 ∨ k = 2) ∨ (k = 3 ∨ k = 4)) with rfl | q | q
  · rw [c_thing_0, pz1]; exact sI_tkS h1
  · rw [c_thing_1 b n q, pz1]; exact sI_tkS (sI_tkN h1)
  · rw [c_thing_3 b n q, pz1]; exact sI_tkS (sI_tkN (sI_tkN h1))
theorem sI_so (hs : sI n s) (x : Nat) : sI n (c_so b n (s, A, x)).1 := by
  rw [e_so, pz1]; exact sI_tkS (sI_fIf (by decide) (sI_tkN hs))
theorem sI_guest (hs : sI n s) (x : Nat) : sI n (c_guest b n (s, A, x)).1 := by
  rw [e_guest, pz1]; exact sI_tkS (sI_tkN (sI_tkN (sI_fIf (by decide) hs)))
theorem sI_ban (hs : sI n s) (x : Nat) : sI n (c_ban b n (s, A, x)).1 := by
  rw [e_ban, pz1]; exact sI_tkS (sI_fIf (by decide) (sI_tkN (sI_tkN (sI_fIf (by decide) hs))))
theorem sI_body (hs : sI n s) (x : Nat) : sI n (c_body b n (s, A, x)).1 := by
  unfold c_body
  split
  · exact sI_fIf (by decide) hs
  · split
    · exact sI_so hs x
    · split
      · exact sI_guest hs x
      · split
        · exact sI_ban hs x
        · have := tw_le b s
          exact sI_thing hs (by show tw b s ≤ 4; have h1 : ¬ tw b s = 8 := by assumption
                                have h2 : ¬ tw b s = 5 := by assumption
                                have h3 : ¬ tw b s = 6 := by assumption
                                have h4 : ¬ tw b s = 7 := by assumption
                                omega) x
theorem stp_body (hs : sI n s) (x : Nat) (z : pF (c_body b n (s, A, x)).1 = 0) : pF s = 0 ∧ pP s + 1 ≤ pP (c_body b n (s, A, x)).1 ∧ pP (c_body b n (s, A, x)).1 ≤ n ∧ pL (c_body b n (s, A, x)).1 = pL s := by
  have fin : ∀ s' : pS, sI n s' → adv n s s' → pF (tkS b n s') = 0 → pF s = 0 ∧ pP s + 1 ≤ pP (tkS b n s') ∧ pP (tkS b n s') ≤ n ∧ pL (tkS b n s') = pL s := by
    intro s' h1 h2 h3
    obtain ⟨a1, a2, a3, a4⟩ := adv_tkS h1.1 h3
    obtain ⟨b1, b2, b3, b4⟩ := h2 hs.1 a1
    exact ⟨b1, by omega, a3, by rw [a4, b4]⟩
  have z2 := z
  unfold c_body at z2 ⊢
  split at z2
  · obtain ⟨-, q, -⟩ := fIf_n0 z2 (by decide)
    cases q
  · rename_i t8
    rw [if_neg t8]
    split at z2
    · rename_i t5
      rw [if_pos t5]
      rw [e_so, pz1] at z2 ⊢
      exact fin _ (sI_fIf (by decide) (sI_tkN hs)) (adv_tr (adv_tkN b n 5 s) (fun _ => adv_fIf n _ (by decide) _) (sI_tkN hs).1) z2
    · rename_i t5
      rw [if_neg t5]
      split at z2
      · rename_i t6
        rw [if_pos t6]
        have h1 : sI n (fIf (decide (4 ≤ sG A)) 5 s) := sI_fIf (by decide) hs
        have a1 : adv n s (fIf (decide (4 ≤ sG A)) 5 s) := adv_fIf n _ (by decide) s
        rw [e_guest, pz1] at z2 ⊢
        generalize fIf (decide (4 ≤ sG A)) 5 s = s1 at h1 a1 z2 ⊢
        exact fin _ (sI_tkN (sI_tkN h1)) (adv_tr (adv_tr a1 (fun _ => adv_tkN b n 5 _) h1.1) (fun _ => adv_tkN b n 9 _) (sI_tkN h1).1) z2
      · rename_i t6
        rw [if_neg t6]
        split at z2
        · rename_i t7
          rw [if_pos t7]
          have h1 : sI n (fIf (decide (4 ≤ sB A)) 5 s) := sI_fIf (by decide) hs
          have a1 : adv n s (fIf (decide (4 ≤ sB A)) 5 s) := adv_fIf n _ (by decide) s
          rw [e_ban, pz1] at z2 ⊢
          generalize fIf (decide (4 ≤ sB A)) 5 s = s1 at h1 a1 z2 ⊢
          generalize decide (tkW b n 5 s1 = tkW b n 5 (tkN b n 5 s1)) = cc at z2 ⊢
          exact fin _ (sI_fIf (by decide) (sI_tkN (sI_tkN h1))) (adv_tr (adv_tr (adv_tr a1 (fun _ => adv_tkN b n 5 _) h1.1) (fun _ => adv_tkN b n 5 _) (sI_tkN h1).1) (fun _ => adv_fIf n _ (by decide) _) (sI_tkN (sI_tkN h1)).1) z2
        · rename_i t7
          rw [if_neg t7]
          have h1 : sI n (fIf (decide (6 ≤ sN A)) 5 s) := sI_fIf (by decide) hs
          have a1 : adv n s (fIf (decide (6 ≤ sN A)) 5 s) := adv_fIf n _ (by decide) s
          have ht := tw_le b s
          have t8' : ¬ tw b s = 8 := t8
          have t5' : ¬ tw b s = 5 := t5
          have t6' : ¬ tw b s = 6 := t6
          have t7' : ¬ tw b s = 7 := t7
          rw [pz1, e_thing] at z2 ⊢
          generalize fIf (decide (6 ≤ sN A)) 5 s = s1 at h1 a1 z2 ⊢
          rcases (by omega : tw b s = 0 ∨ (tw b s = 1 ∨ tw b s = 2) ∨ (tw b s = 3 ∨ tw b s = 4)) with q | q | q
          · rw [q, c_thing_0, pz1] at z2 ⊢
            exact fin _ h1 a1 z2
          · rw [c_thing_1 b n q, pz1] at z2 ⊢
            exact fin _ (sI_tkN h1) (adv_tr a1 (fun _ => adv_tkN b n 5 _) h1.1) z2
          · rw [c_thing_3 b n q, pz1] at z2 ⊢
            exact fin _ (sI_tkN (sI_tkN h1)) (adv_tr (adv_tr a1 (fun _ => adv_tkN b n 5 _) h1.1) (fun _ => adv_tkN b n 5 _) (sI_tkN h1).1) z2
theorem sI_0 {p : Nat} (hp : p ≤ n) : sI n (p, 0, 0, 0, 0) := ⟨hp, Nat.zero_le _, Nat.zero_le _, Nat.zero_le _, Nat.zero_le _⟩
theorem c_line_no {p x : Nat} (h : ¬ pF (tkT b n (p, 0, 0, 0, 0)) = 0 ∨ pK (tkT b n (p, 0, 0, 0, 0)) = 4) : c_line b n p A x = (false, tkT b n (p, 0, 0, 0, 0), A, x) := by rw [c_line, if_pos h]
theorem c_line_go {p x : Nat} (h : ¬ (¬ pF (tkT b n (p, 0, 0, 0, 0)) = 0 ∨ pK (tkT b n (p, 0, 0, 0, 0)) = 4)) : c_line b n p A x = (decide (pF (c_body b n (tkT b n (p, 0, 0, 0, 0), A, x)).1 = 0), c_body b n (tkT b n (p, 0, 0, 0, 0), A, x)) := by rw [c_line, if_neg h]
theorem sI_line {p x : Nat} (hp : p ≤ n) : sI n (c_line b n p A x).2.1 := by
  by_cases h : ¬ pF (tkT b n (p, 0, 0, 0, 0)) = 0 ∨ pK (tkT b n (p, 0, 0, 0, 0)) = 4
  · rw [c_line_no h]; exact sI_tkT (sI_0 hp)
  · rw [c_line_go h]; exact sI_body (sI_tkT (sI_0 hp)) x
theorem stp_line {p x : Nat} (hp : p ≤ n) (z : (c_line b n p A x).1 = true) : pF (c_line b n p A x).2.1 = 0 ∧ pL (c_line b n p A x).2.1 = 0 ∧ p + 2 ≤ pP (c_line b n p A x).2.1 ∧ pP (c_line b n p A x).2.1 ≤ n := by
  by_cases h : ¬ pF (tkT b n (p, 0, 0, 0, 0)) = 0 ∨ pK (tkT b n (p, 0, 0, 0, 0)) = 4
  · rw [c_line_no h] at z; cases z
  · rw [c_line_go h] at z ⊢
    have z2 := of_decide_eq_true z
    obtain ⟨a1, a2, a3, a4⟩ := stp_body (sI_tkT (sI_0 hp)) x z2
    obtain ⟨b1, b2, b3⟩ := tkT_ok a1
    have k4 : ¬ tK b n p = 4 := fun q => h (Or.inr (by rw [b3]; exact q))
    have h1 := tB_le (b := b) hp
    have h3 := tE_lt (b := b) hp (tK_4 k4)
    have e1 : pP (tkT b n (p, 0, 0, 0, 0)) = tE b n p := by rw [b3]
    have e2 : pL (tkT b n (p, 0, 0, 0, 0)) = 0 := by rw [b3]
    exact ⟨z2, by rw [a4, e2], by show p + 2 ≤ pP (c_body b n (tkT b n (p, 0, 0, 0, 0), A, x)).1; omega, a3⟩
def QL1 (B : Nat → Int32) (n : Nat) (r : Bool × pZ) (l : Int32) : Option Value → mm_W → Prop := fun v u => v = some (.int (bI r.1)) ∧ ∃ F, u = wRd (rR B n r.2.1 F l) ∧ tol F r.2.2.1 r.2.2.2
theorem e_readLine (h : tpo B b n) {p x : Nat} (hp : p ≤ n) (hF : tol F A x) (t u : Int32) : mm_e (d + 7) yX1_readLine mX1_readLine [.ref 0] (wRd ((B, nI n, nI p, t, u), F, 0, 0, l)) (QL1 B n (c_line b n p A x) l) := by
  have hn := h.1
  have hs1 : sI n (tkT b n (p, 0, 0, 0, 0)) := sI_tkT (sI_0 hp)
  have hf1 := hs1.2.2.2.1
  have hk1 := hs1.2.2.1
  refine e_of [some (.ref 0), none] rfl (by decide) rfl rfl rfl ?_
  refine r_aload_n (i := 0) 1 dX1_readLine_0 rfl rfl rfl ?_
  refine r_callVu [0, 1, 2, 3, 4, 5, 6, 7, 8, 9, 10] 4 dX1_readLine_1 rfl ykX1_takeToken lk_X1_52 (e_takeToken0 h hp (q := 0) (Nat.zero_le _) t u) rfl rfl rfl rfl rfl rfl rfl ⟨Nat.le_refl _, Nat.le_refl _⟩ ?_
  rw [bk_r0]
  by_cases hno : ¬ pF (tkT b n (p, 0, 0, 0, 0)) = 0 ∨ pK (tkT b n (p, 0, 0, 0, 0)) = 4
  · rw [c_line_no hno]
    generalize tkT b n (p, 0, 0, 0, 0) = s1 at hno hs1 hf1 hk1 ⊢
    refine r_aload_n (i := 0) 5 dX1_readLine_4 rfl rfl rfl ?_
    refine r_getf 8 dX1_readLine_5 rfl fl_X1_31 rfl rfl ?_
    refine r_if_ne 22 11 dX1_readLine_8 rfl rfl (fun h8 => ?_) (fun h8 => ?_)
    · refine r_iconst (v := 0) 23 dX1_readLine_22 rfl rfl ?_
      exact r_reti dX1_readLine_23 rfl (by first | rfl | exact bI_nar _) ⟨Nat.le_refl _, Nat.le_refl _⟩ (fun _ => rfl) (⟨rfl, F, rfl, hF⟩)
    · have g := beq_of (a := pF s1) (b := 0) (by omega) (by decide) h8
      refine r_aload_n (i := 0) 12 dX1_readLine_11 rfl rfl rfl ?_
      refine r_getf 15 dX1_readLine_12 rfl fl_X1_12 rfl rfl ?_
      refine r_getf 18 dX1_readLine_15 rfl fl_X1_55 rfl rfl ?_
      refine r_iconst (v := 4) 19 dX1_readLine_18 rfl rfl ?_
      refine r_icmp_ne 24 22 dX1_readLine_19 rfl rfl (fun h19 => absurd (hno.resolve_left (not_not_intro g)) (bne_of (a := pK s1) (b := 4) (by omega) (by decide) h19)) (fun h19 => ?_)
      refine r_iconst (v := 0) 23 dX1_readLine_22 rfl rfl ?_
      exact r_reti dX1_readLine_23 rfl (by first | rfl | exact bI_nar _) ⟨Nat.le_refl _, Nat.le_refl _⟩ (fun _ => rfl) (⟨rfl, F, rfl, hF⟩)
  · rw [c_line_go hno]
    have q1 : pF (tkT b n (p, 0, 0, 0, 0)) = 0 := Classical.byContradiction fun z => hno (Or.inl z)
    have q2 : ¬ pK (tkT b n (p, 0, 0, 0, 0)) = 4 := fun z => hno (Or.inr z)
    obtain ⟨-, -, q3⟩ := tkT_ok q1
    have ha : pT (tkT b n (p, 0, 0, 0, 0)) ≤ pP (tkT b n (p, 0, 0, 0, 0)) := by rw [q3]; exact (tE_le (b := b) hp).1
    clear q3 hno
    generalize tkT b n (p, 0, 0, 0, 0) = s1 at q1 q2 ha hs1 hf1 hk1 ⊢
    have sb := sI_body (b := b) (A := A) hs1 x
    have wl := tw_le b s1
    have fin : ∀ (Z : pZ) (F : FlT) (v : Value), sI n Z.1 → tol F Z.2.1 Z.2.2 → mm_r (d + 7) mX1_readLine (QL1 B n (decide (pF Z.1 = 0), Z) l) 115 [some (.ref 0), some v] [] (wRd (rR B n Z.1 F l)) := by
      intro Z F v hs hF
      have hf := hs.2.2.2.1
      refine r_aload_n (i := 0) 116 dX1_readLine_115 rfl rfl rfl ?_
      refine r_getf 119 dX1_readLine_116 rfl fl_X1_31 rfl rfl ?_
      refine r_if_ne 126 122 dX1_readLine_119 rfl rfl (fun h119 => ?_) (fun h119 => ?_)
      · have g := bne_of (a := pF Z.1) (b := 0) (by omega) (by decide) h119
        refine r_iconst (v := 0) 127 dX1_readLine_126 rfl rfl ?_
        exact r_reti dX1_readLine_127 rfl (by first | rfl | exact bI_nar _) ⟨Nat.le_refl _, Nat.le_refl _⟩ (fun _ => rfl) (⟨by first | rw [decide_eq_false g]; rfl | rw [decide_eq_true g]; rfl, F, rfl, hF⟩)
      · have g := beq_of (a := pF Z.1) (b := 0) (by omega) (by decide) h119
        refine r_iconst (v := 1) 123 dX1_readLine_122 rfl rfl ?_
        refine r_goto 127 dX1_readLine_123 rfl ?_
        exact r_reti dX1_readLine_127 rfl (by first | rfl | exact bI_nar _) ⟨Nat.le_refl _, Nat.le_refl _⟩ (fun _ => rfl) (⟨by first | rw [decide_eq_false g]; rfl | rw [decide_eq_true g]; rfl, F, rfl, hF⟩)
    refine r_aload_n (i := 0) 5 dX1_readLine_4 rfl rfl rfl ?_
    refine r_getf 8 dX1_readLine_5 rfl fl_X1_31 rfl rfl ?_
    refine r_if_ne 22 11 dX1_readLine_8 rfl rfl (fun h8 => absurd (show nI (pF s1) = 0 by rw [q1]; rfl) h8) (fun h8 => ?_)
    refine r_aload_n (i := 0) 12 dX1_readLine_11 rfl rfl rfl ?_
    refine r_getf 15 dX1_readLine_12 rfl fl_X1_12 rfl rfl ?_
    refine r_getf 18 dX1_readLine_15 rfl fl_X1_55 rfl rfl ?_
    refine r_iconst (v := 4) 19 dX1_readLine_18 rfl rfl ?_
    refine r_icmp_ne 24 22 dX1_readLine_19 rfl rfl (fun h19 => ?_) (fun h19 => absurd (beq_of (a := pK s1) (b := 4) (by omega) (by decide) h19) q2)
    refine r_aload_n (i := 0) 25 dX1_readLine_24 rfl rfl rfl ?_
    refine r_callVi [0, 1, 2, 3, 4, 5, 6, 7, 8, 9, 10] 28 dX1_readLine_25 rfl ykX1_wordRead lk_X1_58 (e_wordRead h hs1 ha) rfl rfl rfl rfl rfl rfl rfl ⟨Nat.le_refl _, Nat.le_refl _⟩ ?_
    refine r_istore_n (i := 1) 29 dX1_readLine_28 rfl rfl rfl ?_
    refine r_iload_n (i := 1) 30 dX1_readLine_29 rfl rfl rfl ?_
    have hb : ∀ j, tw b s1 = j → c_body b n (s1, A, x) = (if j = 8 then (fIf true 2 s1, A, x) else if j = 5 then c_so b n (s1, A, x) else if j = 6 then c_guest b n (s1, A, x) else if j = 7 then c_ban b n (s1, A, x) else c_thing b n j (s1, A, x)) := by
      intro j e
      subst e
      rfl
    rcases (by omega : tw b s1 = 0 ∨ tw b s1 = 1 ∨ tw b s1 = 2 ∨ tw b s1 = 3 ∨ tw b s1 = 4 ∨ tw b s1 = 5 ∨ tw b s1 = 6 ∨ tw b s1 = 7 ∨ tw b s1 = 8) with e | e | e | e | e | e | e | e | e
    · have eb : c_body b n (s1, A, x) = c_thing b n 0 (s1, A, x) := hb 0 e
      rw [eb] at sb ⊢
      rw [e]
      refine r_tabIn 110 dX1_readLine_30 (by decide) (by decide) rfl rfl ?_
      refine r_aload_n (i := 0) 111 dX1_readLine_110 rfl rfl rfl ?_
      refine r_iload_n (i := 1) 112 dX1_readLine_111 rfl rfl rfl ?_
      refine r_callVq [0, 1, 2, 3, 4, 5, 6, 7, 8, 9, 10] 115 dX1_readLine_112 rfl ykX1_readThing lk_X1_71 (e_readThing h hs1 hF (k := 0) (by decide)) rfl rfl rfl rfl rfl rfl rfl ⟨Nat.le_refl _, Nat.le_refl _⟩ (fun v u hq => ?_)
      obtain ⟨rfl, F', rfl, hF'⟩ := hq
      rw [bk_r0]
      exact fin (c_thing b n 0 (s1, A, x)) F' _ sb hF'
    · have eb : c_body b n (s1, A, x) = c_thing b n 1 (s1, A, x) := hb 1 e
      rw [eb] at sb ⊢
      rw [e]
      refine r_tabIn 110 dX1_readLine_30 (by decide) (by decide) rfl rfl ?_
      refine r_aload_n (i := 0) 111 dX1_readLine_110 rfl rfl rfl ?_
      refine r_iload_n (i := 1) 112 dX1_readLine_111 rfl rfl rfl ?_
      refine r_callVq [0, 1, 2, 3, 4, 5, 6, 7, 8, 9, 10] 115 dX1_readLine_112 rfl ykX1_readThing lk_X1_71 (e_readThing h hs1 hF (k := 1) (by decide)) rfl rfl rfl rfl rfl rfl rfl ⟨Nat.le_refl _, Nat.le_refl _⟩ (fun v u hq => ?_)
      obtain ⟨rfl, F', rfl, hF'⟩ := hq
      rw [bk_r0]
      exact fin (c_thing b n 1 (s1, A, x)) F' _ sb hF'
    · have eb : c_body b n (s1, A, x) = c_thing b n 2 (s1, A, x) := hb 2 e
      rw [eb] at sb ⊢
      rw [e]
      refine r_tabIn 110 dX1_readLine_30 (by decide) (by decide) rfl rfl ?_
      refine r_aload_n (i := 0) 111 dX1_readLine_110 rfl rfl rfl ?_
      refine r_iload_n (i := 1) 112 dX1_readLine_111 rfl rfl rfl ?_
      refine r_callVq [0, 1, 2, 3, 4, 5, 6, 7, 8, 9, 10] 115 dX1_readLine_112 rfl ykX1_readThing lk_X1_71 (e_readThing h hs1 hF (k := 2) (by decide)) rfl rfl rfl rfl rfl rfl rfl ⟨Nat.le_refl _, Nat.le_refl _⟩ (fun v u hq => ?_)
      obtain ⟨rfl, F', rfl, hF'⟩ := hq
      rw [bk_r0]
      exact fin (c_thing b n 2 (s1, A, x)) F' _ sb hF'
    · have eb : c_body b n (s1, A, x) = c_thing b n 3 (s1, A, x) := hb 3 e
      rw [eb] at sb ⊢
      rw [e]
      refine r_tabIn 110 dX1_readLine_30 (by decide) (by decide) rfl rfl ?_
      refine r_aload_n (i := 0) 111 dX1_readLine_110 rfl rfl rfl ?_
      refine r_iload_n (i := 1) 112 dX1_readLine_111 rfl rfl rfl ?_
      refine r_callVq [0, 1, 2, 3, 4, 5, 6, 7, 8, 9, 10] 115 dX1_readLine_112 rfl ykX1_readThing lk_X1_71 (e_readThing h hs1 hF (k := 3) (by decide)) rfl rfl rfl rfl rfl rfl rfl ⟨Nat.le_refl _, Nat.le_refl _⟩ (fun v u hq => ?_)
      obtain ⟨rfl, F', rfl, hF'⟩ := hq
      rw [bk_r0]
      exact fin (c_thing b n 3 (s1, A, x)) F' _ sb hF'
    · have eb : c_body b n (s1, A, x) = c_thing b n 4 (s1, A, x) := hb 4 e
      rw [eb] at sb ⊢
      rw [e]
      refine r_tabIn 110 dX1_readLine_30 (by decide) (by decide) rfl rfl ?_
      refine r_aload_n (i := 0) 111 dX1_readLine_110 rfl rfl rfl ?_
      refine r_iload_n (i := 1) 112 dX1_readLine_111 rfl rfl rfl ?_
      refine r_callVq [0, 1, 2, 3, 4, 5, 6, 7, 8, 9, 10] 115 dX1_readLine_112 rfl ykX1_readThing lk_X1_71 (e_readThing h hs1 hF (k := 4) (by decide)) rfl rfl rfl rfl rfl rfl rfl ⟨Nat.le_refl _, Nat.le_refl _⟩ (fun v u hq => ?_)
      obtain ⟨rfl, F', rfl, hF'⟩ := hq
      rw [bk_r0]
      exact fin (c_thing b n 4 (s1, A, x)) F' _ sb hF'
    · have eb : c_body b n (s1, A, x) = c_so b n (s1, A, x) := hb 5 e
      rw [eb] at sb ⊢
      rw [e]
      refine r_tabIn 89 dX1_readLine_30 (by decide) (by decide) rfl rfl ?_
      refine r_aload_n (i := 0) 90 dX1_readLine_89 rfl rfl rfl ?_
      refine r_callVq [0, 1, 2, 3, 4, 5, 6, 7, 8, 9, 10] 93 dX1_readLine_90 rfl ykX1_readSo lk_X1_62 (e_readSo h hs1 hF) rfl rfl rfl rfl rfl rfl rfl ⟨Nat.le_refl _, Nat.le_refl _⟩ (fun v u hq => ?_)
      obtain ⟨rfl, F', rfl, hF'⟩ := hq
      rw [bk_r0]
      refine r_goto 115 dX1_readLine_93 rfl ?_
      exact fin (c_so b n (s1, A, x)) F' _ sb hF'
    · have eb : c_body b n (s1, A, x) = c_guest b n (s1, A, x) := hb 6 e
      rw [eb] at sb ⊢
      rw [e]
      refine r_tabIn 96 dX1_readLine_30 (by decide) (by decide) rfl rfl ?_
      refine r_aload_n (i := 0) 97 dX1_readLine_96 rfl rfl rfl ?_
      refine r_callVq [0, 1, 2, 3, 4, 5, 6, 7, 8, 9, 10] 100 dX1_readLine_97 rfl ykX1_readGuest lk_X1_65 (e_readGuest h hs1 hF) rfl rfl rfl rfl rfl rfl rfl ⟨Nat.le_refl _, Nat.le_refl _⟩ (fun v u hq => ?_)
      obtain ⟨rfl, F', rfl, hF'⟩ := hq
      rw [bk_r0]
      refine r_goto 115 dX1_readLine_100 rfl ?_
      exact fin (c_guest b n (s1, A, x)) F' _ sb hF'
    · have eb : c_body b n (s1, A, x) = c_ban b n (s1, A, x) := hb 7 e
      rw [eb] at sb ⊢
      rw [e]
      refine r_tabIn 103 dX1_readLine_30 (by decide) (by decide) rfl rfl ?_
      refine r_aload_n (i := 0) 104 dX1_readLine_103 rfl rfl rfl ?_
      refine r_callVq [0, 1, 2, 3, 4, 5, 6, 7, 8, 9, 10] 107 dX1_readLine_104 rfl ykX1_readBan lk_X1_68 (e_readBan h hs1 hF) rfl rfl rfl rfl rfl rfl rfl ⟨Nat.le_refl _, Nat.le_refl _⟩ (fun v u hq => ?_)
      obtain ⟨rfl, F', rfl, hF'⟩ := hq
      rw [bk_r0]
      refine r_goto 115 dX1_readLine_107 rfl ?_
      exact fin (c_ban b n (s1, A, x)) F' _ sb hF'
    · have eb : c_body b n (s1, A, x) = (fIf true 2 s1, A, x) := hb 8 e
      rw [eb] at sb ⊢
      rw [e]
      refine r_tabIn 80 dX1_readLine_30 (by decide) (by decide) rfl rfl ?_
      refine r_aload_n (i := 0) 81 dX1_readLine_80 rfl rfl rfl ?_
      refine r_iconst (v := 1) 82 dX1_readLine_81 rfl rfl ?_
      refine r_iconst (v := 2) 83 dX1_readLine_82 rfl rfl ?_
      refine r_callVu [0, 1, 2, 3, 4, 5, 6, 7, 8, 9, 10] 86 dX1_readLine_83 rfl ykX1_failIf lk_X1_48 (e_failIfT hs1 hn 2) rfl rfl rfl rfl rfl rfl rfl ⟨Nat.le_refl _, Nat.le_refl _⟩ ?_
      rw [bk_r0]
      refine r_goto 115 dX1_readLine_86 rfl ?_
      exact fin (fIf true 2 s1, A, x) F _ sb hF
def QA (B : Nat → Int32) (n : Nat) (r : pZ × Nat) : Option Value → mm_W → Prop := fun v u => v = none ∧ ∃ F, u = wRd (rR B n (c_end r) F (nI r.2)) ∧ tol F r.1.2.1 r.1.2.2
theorem l_readAll (h : tpo B b n) : ∀ (k p x m : Nat) (A : sA) (F : FlT) (t u : Int32), k + m = 160 → 2 * m ≤ p → p ≤ n → tol F A x → mm_r (d + 8) mX1_readAll (QA B n (c_loop b n k p A x m)) 29 [some (.ref 0)] [] (wRd ((B, nI n, nI p, t, u), F, 0, 0, nI m)) := by
  intro k
  have hn := h.1
  induction k with
  | zero =>
    intro p x m A F t u hk hm hp hF
    omega
  | succ k ih =>
    intro p x m A F t u hk hm hp hF
    have sl := sI_line (b := b) (A := A) (x := x) hp
    rw [c_loop]
    refine r_aload_n (i := 0) 30 dX1_readAll_29 rfl rfl rfl ?_
    refine r_getf 33 dX1_readAll_30 rfl fl_X1_38 rfl rfl ?_
    refine r_sipush (v := 160) 36 dX1_readAll_33 rfl rfl ?_
    refine r_icmp_ge 59 39 dX1_readAll_36 rfl rfl (fun h36 => absurd (ble_of (a := 160) (by decide) (by omega) h36) (by omega)) (fun h36 => ?_)
    refine r_aload_n (i := 0) 40 dX1_readAll_39 rfl rfl rfl ?_
    refine r_callVq [0, 1, 2, 3, 4, 5, 6, 7, 8, 9, 10] 43 dX1_readAll_40 rfl ykX1_readLine lk_X1_41 (e_readLine h hp hF t u) rfl rfl rfl rfl rfl rfl rfl ⟨Nat.le_refl _, Nat.le_refl _⟩ (fun v u hq => ?_)
    obtain ⟨rfl, F', rfl, hF'⟩ := hq
    rw [bk_r0]
    skip
    show mm_r (d + 8) mX1_readAll _ 43 [some (.ref 0)] [.int (bI (c_line b n p A x).1)] (wRd (rR B n (c_line b n p A x).2.1 F' (nI m)))
    cases hz : (c_line b n p A x).1 with
    | true =>
      obtain ⟨z1, z2, z3, z4⟩ := stp_line hp hz
      rw [if_pos rfl]
      generalize c_line b n p A x = r at hF' sl z1 z2 z3 z4 ⊢
      have eR : rR B n r.2.1 F' (nI m) = ((B, nI n, nI (pP r.2.1), nI (pK r.2.1), nI (pT r.2.1)), F', 0, 0, nI m) := by show (_, _, nI (pF r.2.1), nI (pL r.2.1), _) = _; rw [z1, z2]; rfl
      rw [eR]
      refine r_if_eq 59 46 dX1_readAll_43 rfl rfl (fun h43 => absurd h43 (by decide)) (fun h43 => ?_)
      refine r_aload_n (i := 0) 47 dX1_readAll_46 rfl rfl rfl ?_
      refine r_dup 48 dX1_readAll_47 rfl rfl ?_
      refine r_getf 51 dX1_readAll_48 rfl fl_X1_38 rfl rfl ?_
      refine r_iconst (v := 1) 52 dX1_readAll_51 rfl rfl ?_
      refine r_iadd 53 dX1_readAll_52 rfl ?_
      rw [nI_1]
      refine r_putf 56 dX1_readAll_53 rfl fl_X1_38 rfl rfl (fun _ _ => ⟨rfl, rfl⟩) (fun z => absurd z Bool.false_ne_true) ?_
      refine r_goto 29 dX1_readAll_56 rfl ?_
      exact ih (pP r.2.1) r.2.2.2 (m + 1) r.2.2.1 F' _ _ (by omega) (by omega) z4 hF'
    | false =>
      rw [if_neg (by decide)]
      generalize c_line b n p A x = r at hF' sl ⊢
      have fin : ∀ c : Bool, c = (!whl r.2.2.1 r.2.2.2) → mm_r (d + 8) mX1_readAll (QA B n (r.2, m)) 77 [some (.ref 0)] [.int 6, .int (bI c), .ref 0] (wRd (rR B n r.2.1 F' (nI m))) := by
        intro c hc
        subst hc
        refine r_callVu [0, 1, 2, 3, 4, 5, 6, 7, 8, 9, 10] 80 dX1_readAll_77 rfl ykX1_failIf lk_X1_48 (e_failIf sl hn _ 6) rfl rfl rfl rfl rfl rfl rfl ⟨Nat.le_refl _, Nat.le_refl _⟩ ?_
        rw [bk_r0]
        exact r_retv dX1_readAll_80 rfl ⟨Nat.le_refl _, Nat.le_refl _⟩ (fun _ => rfl) (⟨rfl, F', rfl, hF'⟩)
      refine r_if_eq 59 46 dX1_readAll_43 rfl rfl (fun h43 => ?_) (fun h43 => absurd rfl h43)
      refine r_aload_n (i := 0) 60 dX1_readAll_59 rfl rfl rfl ?_
      refine r_aload_n (i := 0) 61 dX1_readAll_60 rfl rfl rfl ?_
      refine r_getf 64 dX1_readAll_61 rfl fl_X1_21 rfl rfl ?_
      refine r_callVi [3, 4, 5, 6, 7, 8, 9, 10] 67 dX1_readAll_64 rfl ykX0_isWhole lk_X1_45 (e_isWhole hF'.1 hF'.2.1 (by have := hF'.2.2.1; omega)) rfl rfl rfl rfl rfl rfl rfl ⟨Nat.le_refl _, Nat.le_refl _⟩ ?_
      refine r_if_ne 74 70 dX1_readAll_67 rfl rfl (fun h67 => ?_) (fun h67 => ?_)
      · have g := bI_ne0 h67
        refine r_iconst (v := 0) 75 dX1_readAll_74 rfl rfl ?_
        refine r_bipush (v := 6) 77 dX1_readAll_75 rfl rfl ?_
        first | exact fin true (by rw [g]; rfl) | exact fin false (by rw [g]; rfl)
      · have g := bI_eq0 h67
        refine r_iconst (v := 1) 71 dX1_readAll_70 rfl rfl ?_
        refine r_goto 75 dX1_readAll_71 rfl ?_
        refine r_bipush (v := 6) 77 dX1_readAll_75 rfl rfl ?_
        first | exact fin true (by rw [g]; rfl) | exact fin false (by rw [g]; rfl)
theorem tol_0 {F : FlT} : tol (fClr F) A0 0 := ⟨⟨rfl, fun i hi => absurd hi (Nat.not_lt_zero i), rfl, fun i hi => absurd hi (Nat.not_lt_zero i), rfl, fun i hi => absurd hi (Nat.not_lt_zero i), Nat.zero_le _, Nat.zero_le _, Nat.zero_le _, fun i hi => absurd hi (Nat.not_lt_zero i), fun i hi => absurd hi (Nat.not_lt_zero i), fun i hi => absurd hi (Nat.not_lt_zero i)⟩, rfl, by decide, rfl⟩
theorem e_readAll {R : RdT} (h : tpo R.1.1 b n) (hR : R.1.2.1 = nI n) : mm_e (d + 8) yX1_readAll mX1_readAll [.ref 0] (wRd R) (QA R.1.1 n (c_read b n)) := by
  refine e_of [some (.ref 0)] rfl (by decide) rfl rfl rfl ?_
  refine r_aload_n (i := 0) 1 dX1_readAll_0 rfl rfl rfl ?_
  refine r_getf 4 dX1_readAll_1 rfl fl_X1_21 rfl rfl ?_
  refine r_callVu [3, 4, 5, 6, 7, 8, 9, 10] 7 dX1_readAll_4 rfl ykX0_clear lk_X1_25 (e_clear0) rfl rfl rfl rfl rfl rfl rfl ⟨Nat.le_refl _, Nat.le_refl _⟩ ?_
  rw [bk_rf]
  refine r_aload_n (i := 0) 8 dX1_readAll_7 rfl rfl rfl ?_
  refine r_getf 11 dX1_readAll_8 rfl fl_X1_12 rfl rfl ?_
  refine r_callVu [1, 2] 14 dX1_readAll_11 rfl ykX6_rewind lk_X1_28 (e_rewind) rfl rfl rfl rfl rfl rfl rfl ⟨Nat.le_refl _, Nat.le_refl _⟩ ?_
  rw [bk_rt]
  refine r_aload_n (i := 0) 15 dX1_readAll_14 rfl rfl rfl ?_
  refine r_iconst (v := 0) 16 dX1_readAll_15 rfl rfl ?_
  refine r_putf 19 dX1_readAll_16 rfl fl_X1_31 rfl rfl (fun _ _ => ⟨rfl, rfl⟩) (fun z => absurd z Bool.false_ne_true) ?_
  refine r_aload_n (i := 0) 20 dX1_readAll_19 rfl rfl rfl ?_
  refine r_iconst (v := 0) 21 dX1_readAll_20 rfl rfl ?_
  refine r_putf 24 dX1_readAll_21 rfl fl_X1_35 rfl rfl (fun _ _ => ⟨rfl, rfl⟩) (fun z => absurd z Bool.false_ne_true) ?_
  refine r_aload_n (i := 0) 25 dX1_readAll_24 rfl rfl rfl ?_
  refine r_iconst (v := 0) 26 dX1_readAll_25 rfl rfl ?_
  refine r_putf 29 dX1_readAll_26 rfl fl_X1_38 rfl rfl (fun _ _ => ⟨rfl, rfl⟩) (fun z => absurd z Bool.false_ne_true) ?_
  skip
  refine r_eq (l_readAll h 160 0 0 0 A0 (fClr R.2.1) R.1.2.2.2.1 R.1.2.2.2.2 rfl (Nat.le_refl _) (Nat.zero_le _) tol_0) rfl rfl ?_
  rw [← hR]
  rfl
end X1S
