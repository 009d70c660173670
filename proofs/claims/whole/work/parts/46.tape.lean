section X6T
variable {d : Nat} {B : Nat → Int32} {b : Nat → Nat} {n : Nat} {T : TpT}
/-- a tape holds these bytes -/
def tpo (B : Nat → Int32) (b : Nat → Nat) (n : Nat) : Prop := n ≤ 160 ∧ ∀ i, i < n → B i = nI (b i) ∧ b i < 128
theorem e_rewind : mm_e (d + 1) yX6_rewind mX6_rewind [.ref 0] (wTp T) (mm_q none (wTp (T.1, T.2.1, 0, T.2.2.2.1, T.2.2.2.2))) := by
  refine e_of [some (.ref 0)] rfl (by decide) rfl rfl rfl ?_
  refine r_aload_n (i := 0) 1 dX6_rewind_0 rfl rfl rfl ?_
  refine r_iconst (v := 0) 2 dX6_rewind_1 rfl rfl ?_
  refine r_putf 5 dX6_rewind_2 rfl fl_X6_19 rfl rfl (fun _ _ => ⟨rfl, rfl⟩) (fun z => absurd z Bool.false_ne_true) ?_
  exact r_retv dX6_rewind_5 rfl ⟨Nat.le_refl _, Nat.le_refl _⟩ (fun _ => rfl) (⟨rfl, rfl⟩)
theorem e_sortAt (h : tpo B b n) {q t u : Int32} {p : Nat} (hp : p < 2 ^ 31) : mm_e (d + 1) yX6_sortAt mX6_sortAt [.ref 0, .int (nI p)] (wTp (B, nI n, q, t, u)) (mm_q (some (.int (nI (so b n p)))) (wTp (B, nI n, q, t, u))) := by
  refine e_of [some (.ref 0), some (.int (nI p)), none] rfl (by decide) rfl rfl rfl ?_
  have hn := h.1
  by_cases hq : n ≤ p
  · refine r_iload_n (i := 1) 1 dX6_sortAt_0 rfl rfl rfl ?_
    refine r_if_lt 12 4 dX6_sortAt_1 rfl rfl (fun h1 => absurd h1 (nI_pos hp)) (fun h1 => ?_)
    refine r_iload_n (i := 1) 5 dX6_sortAt_4 rfl rfl rfl ?_
    refine r_aload_n (i := 0) 6 dX6_sortAt_5 rfl rfl rfl ?_
    refine r_getf 9 dX6_sortAt_6 rfl fl_X6_15 rfl rfl ?_
    refine r_icmp_lt 14 12 dX6_sortAt_9 rfl rfl (fun h9 => absurd (blt_of hp (by omega) h9) (by omega)) (fun h9 => ?_)
    refine r_iconst (v := 4) 13 dX6_sortAt_12 rfl rfl ?_
    exact r_reti dX6_sortAt_13 rfl (by first | rfl | exact bI_nar _) ⟨Nat.le_refl _, Nat.le_refl _⟩ (fun _ => rfl) (⟨by rw [so, if_pos hq]; rfl, rfl⟩)
  · obtain ⟨e1, e2⟩ := h.2 p (by omega)
    have hin : vp_in (nI p) 160 := vp_in_nI (by omega) (by decide)
    rw [so, if_neg hq]
    refine r_iload_n (i := 1) 1 dX6_sortAt_0 rfl rfl rfl ?_
    refine r_if_lt 12 4 dX6_sortAt_1 rfl rfl (fun h1 => absurd h1 (nI_pos hp)) (fun h1 => ?_)
    refine r_iload_n (i := 1) 5 dX6_sortAt_4 rfl rfl rfl ?_
    refine r_aload_n (i := 0) 6 dX6_sortAt_5 rfl rfl rfl ?_
    refine r_getf 9 dX6_sortAt_6 rfl fl_X6_15 rfl rfl ?_
    refine r_icmp_lt 14 12 dX6_sortAt_9 rfl rfl (fun h9 => ?_) (fun h9 => absurd ((nI_ltI hp (by omega)).mpr (by omega)) h9)
    refine r_aload_n (i := 0) 15 dX6_sortAt_14 rfl rfl rfl ?_
    refine r_getf 18 dX6_sortAt_15 rfl fl_X6_9 rfl rfl ?_
    refine r_iload_n (i := 1) 19 dX6_sortAt_18 rfl rfl rfl ?_
    refine r_bald 20 dX6_sortAt_19 rfl rfl (by assumption) ?_
    rw [nI_clamp (n := p) hp, show (B, nI n, q, t, u).1 p = nI (b p) from e1]
    refine r_istore_n (i := 2) 21 dX6_sortAt_20 rfl rfl rfl ?_
    refine r_iload_n (i := 2) 22 dX6_sortAt_21 rfl rfl rfl ?_
    refine r_bipush (v := 97) 24 dX6_sortAt_22 rfl rfl ?_
    refine r_icmp_lt 35 27 dX6_sortAt_24 rfl rfl (fun h24 => ?_) (fun h24 => ?_)
    · have g1 := blt_of (b := 97) (by omega) (by decide) h24
      rw [if_neg (by omega)]
      refine r_iload_n (i := 2) 36 dX6_sortAt_35 rfl rfl rfl ?_
      refine r_bipush (v := 48) 38 dX6_sortAt_36 rfl rfl ?_
      refine r_icmp_lt 49 41 dX6_sortAt_38 rfl rfl (fun h38 => ?_) (fun h38 => ?_)
      · have g3 := blt_of (b := 48) (by omega) (by decide) h38
        rw [if_neg (by omega)]
        refine r_iload_n (i := 2) 50 dX6_sortAt_49 rfl rfl rfl ?_
        refine r_bipush (v := 59) 52 dX6_sortAt_50 rfl rfl ?_
        refine r_icmp_ne 59 55 dX6_sortAt_52 rfl rfl (fun h52 => ?_) (fun h52 => ?_)
        · have g5 := bne_of (b := 59) (by omega) (by decide) h52
          rw [if_neg g5]
          refine r_iconst (v := 0) 60 dX6_sortAt_59 rfl rfl ?_
          exact r_reti dX6_sortAt_60 rfl (by first | rfl | exact bI_nar _) ⟨Nat.le_refl _, Nat.le_refl _⟩ (fun _ => rfl) (⟨rfl, rfl⟩)
        · have g5 := beq_of (b := 59) (by omega) (by decide) h52
          rw [if_pos g5]
          refine r_iconst (v := 3) 56 dX6_sortAt_55 rfl rfl ?_
          refine r_goto 60 dX6_sortAt_56 rfl ?_
          exact r_reti dX6_sortAt_60 rfl (by first | rfl | exact bI_nar _) ⟨Nat.le_refl _, Nat.le_refl _⟩ (fun _ => rfl) (⟨rfl, rfl⟩)
      · have g3 := bnlt_of (b := 48) (by omega) (by decide) h38
        refine r_iload_n (i := 2) 42 dX6_sortAt_41 rfl rfl rfl ?_
        refine r_bipush (v := 57) 44 dX6_sortAt_42 rfl rfl ?_
        refine r_icmp_gt 49 47 dX6_sortAt_44 rfl rfl (fun h44 => ?_) (fun h44 => ?_)
        · have g4 := blt_of (a := 57) (by decide) (by omega) h44
          rw [if_neg (by omega)]
          refine r_iload_n (i := 2) 50 dX6_sortAt_49 rfl rfl rfl ?_
          refine r_bipush (v := 59) 52 dX6_sortAt_50 rfl rfl ?_
          refine r_icmp_ne 59 55 dX6_sortAt_52 rfl rfl (fun h52 => ?_) (fun h52 => ?_)
          · have g5 := bne_of (b := 59) (by omega) (by decide) h52
            rw [if_neg g5]
            refine r_iconst (v := 0) 60 dX6_sortAt_59 rfl rfl ?_
            exact r_reti dX6_sortAt_60 rfl (by first | rfl | exact bI_nar _) ⟨Nat.le_refl _, Nat.le_refl _⟩ (fun _ => rfl) (⟨rfl, rfl⟩)
          · have g5 := beq_of (b := 59) (by omega) (by decide) h52
            rw [if_pos g5]
            refine r_iconst (v := 3) 56 dX6_sortAt_55 rfl rfl ?_
            refine r_goto 60 dX6_sortAt_56 rfl ?_
            exact r_reti dX6_sortAt_60 rfl (by first | rfl | exact bI_nar _) ⟨Nat.le_refl _, Nat.le_refl _⟩ (fun _ => rfl) (⟨rfl, rfl⟩)
        · have g4 := bnlt_of (a := 57) (by decide) (by omega) h44
          rw [if_pos ⟨g3, g4⟩]
          refine r_iconst (v := 2) 48 dX6_sortAt_47 rfl rfl ?_
          exact r_reti dX6_sortAt_48 rfl (by first | rfl | exact bI_nar _) ⟨Nat.le_refl _, Nat.le_refl _⟩ (fun _ => rfl) (⟨rfl, rfl⟩)
    · have g1 := bnlt_of (b := 97) (by omega) (by decide) h24
      refine r_iload_n (i := 2) 28 dX6_sortAt_27 rfl rfl rfl ?_
      refine r_bipush (v := 122) 30 dX6_sortAt_28 rfl rfl ?_
      refine r_icmp_gt 35 33 dX6_sortAt_30 rfl rfl (fun h30 => ?_) (fun h30 => ?_)
      · have g2 := blt_of (a := 122) (by decide) (by omega) h30
        rw [if_neg (by omega)]
        refine r_iload_n (i := 2) 36 dX6_sortAt_35 rfl rfl rfl ?_
        refine r_bipush (v := 48) 38 dX6_sortAt_36 rfl rfl ?_
        refine r_icmp_lt 49 41 dX6_sortAt_38 rfl rfl (fun h38 => ?_) (fun h38 => ?_)
        · have g3 := blt_of (b := 48) (by omega) (by decide) h38
          rw [if_neg (by omega)]
          refine r_iload_n (i := 2) 50 dX6_sortAt_49 rfl rfl rfl ?_
          refine r_bipush (v := 59) 52 dX6_sortAt_50 rfl rfl ?_
          refine r_icmp_ne 59 55 dX6_sortAt_52 rfl rfl (fun h52 => ?_) (fun h52 => ?_)
          · have g5 := bne_of (b := 59) (by omega) (by decide) h52
            rw [if_neg g5]
            refine r_iconst (v := 0) 60 dX6_sortAt_59 rfl rfl ?_
            exact r_reti dX6_sortAt_60 rfl (by first | rfl | exact bI_nar _) ⟨Nat.le_refl _, Nat.le_refl _⟩ (fun _ => rfl) (⟨rfl, rfl⟩)
          · have g5 := beq_of (b := 59) (by omega) (by decide) h52
            rw [if_pos g5]
            refine r_iconst (v := 3) 56 dX6_sortAt_55 rfl rfl ?_
            refine r_goto 60 dX6_sortAt_56 rfl ?_
            exact r_reti dX6_sortAt_60 rfl (by first | rfl | exact bI_nar _) ⟨Nat.le_refl _, Nat.le_refl _⟩ (fun _ => rfl) (⟨rfl, rfl⟩)
        · have g3 := bnlt_of (b := 48) (by omega) (by decide) h38
          refine r_iload_n (i := 2) 42 dX6_sortAt_41 rfl rfl rfl ?_
          refine r_bipush (v := 57) 44 dX6_sortAt_42 rfl rfl ?_
          refine r_icmp_gt 49 47 dX6_sortAt_44 rfl rfl (fun h44 => ?_) (fun h44 => ?_)
          · have g4 := blt_of (a := 57) (by decide) (by omega) h44
            rw [if_neg (by omega)]
            refine r_iload_n (i := 2) 50 dX6_sortAt_49 rfl rfl rfl ?_
            refine r_bipush (v := 59) 52 dX6_sortAt_50 rfl rfl ?_
            refine r_icmp_ne 59 55 dX6_sortAt_52 rfl rfl (fun h52 => ?_) (fun h52 => ?_)
            · have g5 := bne_of (b := 59) (by omega) (by decide) h52
              rw [if_neg g5]
              refine r_iconst (v := 0) 60 dX6_sortAt_59 rfl rfl ?_
              exact r_reti dX6_sortAt_60 rfl (by first | rfl | exact bI_nar _) ⟨Nat.le_refl _, Nat.le_refl _⟩ (fun _ => rfl) (⟨rfl, rfl⟩)
            · have g5 := beq_of (b := 59) (by omega) (by decide) h52
              rw [if_pos g5]
              refine r_iconst (v := 3) 56 dX6_sortAt_55 rfl rfl ?_
              refine r_goto 60 dX6_sortAt_56 rfl ?_
              exact r_reti dX6_sortAt_60 rfl (by first | rfl | exact bI_nar _) ⟨Nat.le_refl _, Nat.le_refl _⟩ (fun _ => rfl) (⟨rfl, rfl⟩)
          · have g4 := bnlt_of (a := 57) (by decide) (by omega) h44
            rw [if_pos ⟨g3, g4⟩]
            refine r_iconst (v := 2) 48 dX6_sortAt_47 rfl rfl ?_
            exact r_reti dX6_sortAt_48 rfl (by first | rfl | exact bI_nar _) ⟨Nat.le_refl _, Nat.le_refl _⟩ (fun _ => rfl) (⟨rfl, rfl⟩)
      · have g2 := bnlt_of (a := 122) (by decide) (by omega) h30
        rw [if_pos ⟨g1, g2⟩]
        refine r_iconst (v := 1) 34 dX6_sortAt_33 rfl rfl ?_
        exact r_reti dX6_sortAt_34 rfl (by first | rfl | exact bI_nar _) ⟨Nat.le_refl _, Nat.le_refl _⟩ (fun _ => rfl) (⟨rfl, rfl⟩)
theorem l_skip (h : tpo B b n) {t u : Int32} (Q : Option Value → mm_W → Prop) : ∀ (k p : Nat), p ≤ n → n - p = k → (mm_r (d + 2) mX6_readToken Q 38 [some (.ref 0)] [] (wTp (B, nI n, nI (sk b k p), t, u))) → mm_r (d + 2) mX6_readToken Q 0 [some (.ref 0)] [] (wTp (B, nI n, nI p, t, u)) := by
  intro k
  have hn := h.1
  induction k with
  | zero =>
    intro p hp hk kk
    have : p = n := by omega
    subst this
    refine r_aload_n (i := 0) 1 dX6_readToken_0 rfl rfl rfl ?_
    refine r_getf 4 dX6_readToken_1 rfl fl_X6_19 rfl rfl ?_
    refine r_aload_n (i := 0) 5 dX6_readToken_4 rfl rfl rfl ?_
    refine r_getf 8 dX6_readToken_5 rfl fl_X6_15 rfl rfl ?_
    refine r_icmp_ge 38 11 dX6_readToken_8 rfl rfl (fun h8 => ?_) (fun h8 => absurd (Int32.le_refl _) h8)
    exact kk
  | succ k ih =>
    intro p hp hk kk
    obtain ⟨e1, e2⟩ := h.2 p (by omega)
    have hin : vp_in (nI p) 160 := vp_in_nI (by omega) (by decide)
    rw [sk] at kk
    refine r_aload_n (i := 0) 1 dX6_readToken_0 rfl rfl rfl ?_
    refine r_getf 4 dX6_readToken_1 rfl fl_X6_19 rfl rfl ?_
    refine r_aload_n (i := 0) 5 dX6_readToken_4 rfl rfl rfl ?_
    refine r_getf 8 dX6_readToken_5 rfl fl_X6_15 rfl rfl ?_
    refine r_icmp_ge 38 11 dX6_readToken_8 rfl rfl (fun h8 => absurd (ble_of (by omega) (by omega) h8) (by omega)) (fun h8 => ?_)
    refine r_aload_n (i := 0) 12 dX6_readToken_11 rfl rfl rfl ?_
    refine r_getf 15 dX6_readToken_12 rfl fl_X6_9 rfl rfl ?_
    refine r_aload_n (i := 0) 16 dX6_readToken_15 rfl rfl rfl ?_
    refine r_getf 19 dX6_readToken_16 rfl fl_X6_19 rfl rfl ?_
    refine r_bald 20 dX6_readToken_19 rfl rfl (by assumption) ?_
    rw [nI_clamp (n := p) (by omega), show (B, nI n, nI p, t, u).1 p = nI (b p) from e1]
    refine r_bipush (v := 32) 22 dX6_readToken_20 rfl rfl ?_
    refine r_icmp_ne 38 25 dX6_readToken_22 rfl rfl (fun h22 => ?_) (fun h22 => ?_)
    · have g := bne_of (b := 32) (by omega) (by decide) h22
      rw [if_neg g] at kk
      exact kk
    · have g := beq_of (b := 32) (by omega) (by decide) h22
      rw [if_pos g] at kk
      refine r_aload_n (i := 0) 26 dX6_readToken_25 rfl rfl rfl ?_
      refine r_dup 27 dX6_readToken_26 rfl rfl ?_
      refine r_getf 30 dX6_readToken_27 rfl fl_X6_19 rfl rfl ?_
      refine r_iconst (v := 1) 31 dX6_readToken_30 rfl rfl ?_
      refine r_iadd 32 dX6_readToken_31 rfl ?_
      rw [nI_1]
      refine r_putf 35 dX6_readToken_32 rfl fl_X6_19 rfl rfl (fun _ _ => ⟨rfl, rfl⟩) (fun z => absurd z Bool.false_ne_true) ?_
      refine r_goto 0 dX6_readToken_35 rfl ?_
      exact ih (p + 1) (by omega) (by omega) kk
theorem l_run (h : tpo B b n) {s : Nat} (hs : s ≤ 4) {u : Int32} (Q : Option Value → mm_W → Prop) : ∀ (k p : Nat), p ≤ n → n - p = k → (mm_r (d + 2) mX6_readToken Q 134 [some (.ref 0)] [] (wTp (B, nI n, nI (rn b n s k p), nI s, u))) → mm_r (d + 2) mX6_readToken Q 74 [some (.ref 0)] [] (wTp (B, nI n, nI p, nI s, u)) := by
  intro k
  have hn := h.1
  induction k with
  | zero =>
    intro p hp hk kk
    have : p = n := by omega
    subst this
    refine r_aload_n (i := 0) 75 dX6_readToken_74 rfl rfl rfl ?_
    refine r_getf 78 dX6_readToken_75 rfl fl_X6_19 rfl rfl ?_
    refine r_aload_n (i := 0) 79 dX6_readToken_78 rfl rfl rfl ?_
    refine r_getf 82 dX6_readToken_79 rfl fl_X6_15 rfl rfl ?_
    refine r_icmp_ge 134 85 dX6_readToken_82 rfl rfl (fun h82 => ?_) (fun h82 => absurd (Int32.le_refl _) h82)
    exact kk
  | succ k ih =>
    intro p hp hk kk
    have sl := so_le b n p
    rw [rn] at kk
    refine r_aload_n (i := 0) 75 dX6_readToken_74 rfl rfl rfl ?_
    refine r_getf 78 dX6_readToken_75 rfl fl_X6_19 rfl rfl ?_
    refine r_aload_n (i := 0) 79 dX6_readToken_78 rfl rfl rfl ?_
    refine r_getf 82 dX6_readToken_79 rfl fl_X6_15 rfl rfl ?_
    refine r_icmp_ge 134 85 dX6_readToken_82 rfl rfl (fun h82 => absurd (ble_of (by omega) (by omega) h82) (by omega)) (fun h82 => ?_)
    refine r_aload_n (i := 0) 86 dX6_readToken_85 rfl rfl rfl ?_
    refine r_aload_n (i := 0) 87 dX6_readToken_86 rfl rfl rfl ?_
    refine r_getf 90 dX6_readToken_87 rfl fl_X6_19 rfl rfl ?_
    refine r_callVi [0, 1] 93 dX6_readToken_90 rfl ykX6_sortAt lk_X6_25 (e_sortAt h (by omega)) rfl rfl rfl rfl rfl rfl rfl ⟨Nat.le_refl _, Nat.le_refl _⟩ ?_
    refine r_aload_n (i := 0) 94 dX6_readToken_93 rfl rfl rfl ?_
    refine r_getf 97 dX6_readToken_94 rfl fl_X6_29 rfl rfl ?_
    refine r_icmp_ne 134 100 dX6_readToken_97 rfl rfl (fun h97 => ?_) (fun h97 => ?_)
    · have g := bne_of (by omega) (by omega) h97
      rw [if_neg g] at kk
      exact kk
    · have g := beq_of (by omega) (by omega) h97
      rw [if_pos g] at kk
      refine r_aload_n (i := 0) 101 dX6_readToken_100 rfl rfl rfl ?_
      refine r_dup 102 dX6_readToken_101 rfl rfl ?_
      refine r_getf 105 dX6_readToken_102 rfl fl_X6_19 rfl rfl ?_
      refine r_iconst (v := 1) 106 dX6_readToken_105 rfl rfl ?_
      refine r_iadd 107 dX6_readToken_106 rfl ?_
      rw [nI_1]
      refine r_putf 110 dX6_readToken_107 rfl fl_X6_19 rfl rfl (fun _ _ => ⟨rfl, rfl⟩) (fun z => absurd z Bool.false_ne_true) ?_
      refine r_goto 74 dX6_readToken_110 rfl ?_
      exact ih (p + 1) (by omega) (by omega) kk
theorem e_readToken (h : tpo B b n) {t u : Int32} {p : Nat} (hp : p ≤ n) : mm_e (d + 2) yX6_readToken mX6_readToken [.ref 0] (wTp (B, nI n, nI p, t, u)) (mm_q none (wTp (B, nI n, nI (tE b n p), nI (tK b n p), nI (tB b n p)))) := by
  refine e_of [some (.ref 0)] rfl (by decide) rfl rfl rfl ?_
  have hn := h.1
  have b1 := tB_le (b := b) hp
  have b2 := tE_le (b := b) hp
  have b3 := tR_le b n p
  refine l_skip h _ (n - p) p hp rfl ?_
  show mm_r (d + 2) mX6_readToken _ 38 [some (.ref 0)] [] (wTp (B, nI n, nI (tB b n p), t, u))
  have fin : mm_r (d + 2) mX6_readToken (mm_q none (wTp (B, nI n, nI (tE b n p), nI (tK b n p), nI (tB b n p)))) 134 [some (.ref 0)] [] (wTp (B, nI n, nI (tE b n p), nI (tR b n p), nI (tB b n p))) := by
    by_cases q : tR b n p = 2
    · rw [tK, q]
      refine r_aload_n (i := 0) 135 dX6_readToken_134 rfl rfl rfl ?_
      refine r_getf 138 dX6_readToken_135 rfl fl_X6_29 rfl rfl ?_
      refine r_iconst (v := 2) 139 dX6_readToken_138 rfl rfl ?_
      refine r_icmp_ne 160 142 dX6_readToken_139 rfl rfl (fun h139 => absurd rfl h139) (fun h139 => ?_)
      refine r_aload_n (i := 0) 143 dX6_readToken_142 rfl rfl rfl ?_
      refine r_getf 146 dX6_readToken_143 rfl fl_X6_19 rfl rfl ?_
      refine r_aload_n (i := 0) 147 dX6_readToken_146 rfl rfl rfl ?_
      refine r_getf 150 dX6_readToken_147 rfl fl_X6_22 rfl rfl ?_
      refine r_isub 151 dX6_readToken_150 rfl ?_
      refine r_iconst (v := 2) 152 dX6_readToken_151 rfl rfl ?_
      rw [pk_sub b2.1]
      refine r_icmp_le 160 155 dX6_readToken_152 rfl rfl (fun h152 => ?_) (fun h152 => ?_)
      · have g := ble_of (b := 2) (by omega) (by decide) h152
        rw [if_neg (by omega)]
        exact r_retv dX6_readToken_160 rfl ⟨Nat.le_refl _, Nat.le_refl _⟩ (fun _ => rfl) (⟨rfl, rfl⟩)
      · have g := bnle_of (b := 2) (by omega) (by decide) h152
        rw [if_pos ⟨rfl, g⟩]
        refine r_aload_n (i := 0) 156 dX6_readToken_155 rfl rfl rfl ?_
        refine r_iconst (v := 0) 157 dX6_readToken_156 rfl rfl ?_
        refine r_putf 160 dX6_readToken_157 rfl fl_X6_29 rfl rfl (fun _ _ => ⟨rfl, rfl⟩) (fun z => absurd z Bool.false_ne_true) ?_
        exact r_retv dX6_readToken_160 rfl ⟨Nat.le_refl _, Nat.le_refl _⟩ (fun _ => rfl) (⟨rfl, rfl⟩)
    · rw [tK, if_neg (fun z => q z.1)]
      refine r_aload_n (i := 0) 135 dX6_readToken_134 rfl rfl rfl ?_
      refine r_getf 138 dX6_readToken_135 rfl fl_X6_29 rfl rfl ?_
      refine r_iconst (v := 2) 139 dX6_readToken_138 rfl rfl ?_
      refine r_icmp_ne 160 142 dX6_readToken_139 rfl rfl (fun h139 => ?_) (fun h139 => absurd (beq_of (b := 2) (by omega) (by decide) h139) q)
      exact r_retv dX6_readToken_160 rfl ⟨Nat.le_refl _, Nat.le_refl _⟩ (fun _ => rfl) (⟨rfl, rfl⟩)
  refine r_aload_n (i := 0) 39 dX6_readToken_38 rfl rfl rfl ?_
  refine r_aload_n (i := 0) 40 dX6_readToken_39 rfl rfl rfl ?_
  refine r_getf 43 dX6_readToken_40 rfl fl_X6_19 rfl rfl ?_
  refine r_putf 46 dX6_readToken_43 rfl fl_X6_22 rfl rfl (fun _ _ => ⟨rfl, rfl⟩) (fun z => absurd z Bool.false_ne_true) ?_
  skip
  show mm_r (d + 2) mX6_readToken _ 46 [some (.ref 0)] [] (wTp (B, nI n, nI (tB b n p), t, nI (tB b n p)))
  refine r_aload_n (i := 0) 47 dX6_readToken_46 rfl rfl rfl ?_
  refine r_aload_n (i := 0) 48 dX6_readToken_47 rfl rfl rfl ?_
  refine r_aload_n (i := 0) 49 dX6_readToken_48 rfl rfl rfl ?_
  refine r_getf 52 dX6_readToken_49 rfl fl_X6_19 rfl rfl ?_
  refine r_callVi [0, 1] 55 dX6_readToken_52 rfl ykX6_sortAt lk_X6_25 (e_sortAt (p := tB b n p) h (by omega)) rfl rfl rfl rfl rfl rfl rfl ⟨Nat.le_refl _, Nat.le_refl _⟩ ?_
  refine r_putf 58 dX6_readToken_55 rfl fl_X6_29 rfl rfl (fun _ _ => ⟨rfl, rfl⟩) (fun z => absurd z Bool.false_ne_true) ?_
  skip
  show mm_r (d + 2) mX6_readToken _ 58 [some (.ref 0)] [] (wTp (B, nI n, nI (tB b n p), nI (tR b n p), nI (tB b n p)))
  by_cases q : tR b n p = 1 ∨ tR b n p = 2
  · have e : tE b n p = rn b n (tR b n p) (n - tB b n p) (tB b n p) := by rw [tE, if_pos q]
    have go : mm_r (d + 2) mX6_readToken (mm_q none (wTp (B, nI n, nI (tE b n p), nI (tK b n p), nI (tB b n p)))) 74 [some (.ref 0)] [] (wTp (B, nI n, nI (tB b n p), nI (tR b n p), nI (tB b n p))) := l_run h (by omega) _ (n - tB b n p) (tB b n p) b1.2 rfl (by rw [← e]; exact fin)
    refine r_aload_n (i := 0) 59 dX6_readToken_58 rfl rfl rfl ?_
    refine r_getf 62 dX6_readToken_59 rfl fl_X6_29 rfl rfl ?_
    refine r_iconst (v := 1) 63 dX6_readToken_62 rfl rfl ?_
    refine r_icmp_eq 74 66 dX6_readToken_63 rfl rfl (fun h63 => ?_) (fun h63 => ?_)
    · exact go
    · refine r_aload_n (i := 0) 67 dX6_readToken_66 rfl rfl rfl ?_
      refine r_getf 70 dX6_readToken_67 rfl fl_X6_29 rfl rfl ?_
      refine r_iconst (v := 2) 71 dX6_readToken_70 rfl rfl ?_
      refine r_icmp_ne 113 74 dX6_readToken_71 rfl rfl (fun h71 => absurd q (by rintro (z | z); (· exact h63 (by rw [z]; rfl)); (· exact h71 (by rw [z]; rfl)))) (fun h71 => ?_)
      exact go
  · have n1 : ¬ nI (tR b n p) = 1 := fun z => q (Or.inl (beq_of (b := 1) (by omega) (by decide) z))
    have n2 : ¬ nI (tR b n p) = 2 := fun z => q (Or.inr (beq_of (b := 2) (by omega) (by decide) z))
    have e : tE b n p = if tB b n p < n then tB b n p + 1 else tB b n p := by rw [tE, if_neg q]
    rw [e] at fin ⊢
    refine r_aload_n (i := 0) 59 dX6_readToken_58 rfl rfl rfl ?_
    refine r_getf 62 dX6_readToken_59 rfl fl_X6_29 rfl rfl ?_
    refine r_iconst (v := 1) 63 dX6_readToken_62 rfl rfl ?_
    refine r_icmp_eq 74 66 dX6_readToken_63 rfl rfl (fun h63 => absurd h63 n1) (fun h63 => ?_)
    refine r_aload_n (i := 0) 67 dX6_readToken_66 rfl rfl rfl ?_
    refine r_getf 70 dX6_readToken_67 rfl fl_X6_29 rfl rfl ?_
    refine r_iconst (v := 2) 71 dX6_readToken_70 rfl rfl ?_
    refine r_icmp_ne 113 74 dX6_readToken_71 rfl rfl (fun h71 => ?_) (fun h71 => absurd h71 n2)
    refine r_aload_n (i := 0) 114 dX6_readToken_113 rfl rfl rfl ?_
    refine r_getf 117 dX6_readToken_114 rfl fl_X6_19 rfl rfl ?_
    refine r_aload_n (i := 0) 118 dX6_readToken_117 rfl rfl rfl ?_
    refine r_getf 121 dX6_readToken_118 rfl fl_X6_15 rfl rfl ?_
    refine r_icmp_ge 134 124 dX6_readToken_121 rfl rfl (fun h121 => ?_) (fun h121 => ?_)
    · have g := ble_of (by omega) (by omega) h121
      rw [if_neg (by omega)] at fin ⊢
      exact fin
    · have g := bnle_of (by omega) (by omega) h121
      rw [if_pos (by omega)] at fin ⊢
      refine r_aload_n (i := 0) 125 dX6_readToken_124 rfl rfl rfl ?_
      refine r_dup 126 dX6_readToken_125 rfl rfl ?_
      refine r_getf 129 dX6_readToken_126 rfl fl_X6_19 rfl rfl ?_
      refine r_iconst (v := 1) 130 dX6_readToken_129 rfl rfl ?_
      refine r_iadd 131 dX6_readToken_130 rfl ?_
      rw [nI_1]
      refine r_putf 134 dX6_readToken_131 rfl fl_X6_19 rfl rfl (fun _ _ => ⟨rfl, rfl⟩) (fun z => absurd z Bool.false_ne_true) ?_
      exact fin
theorem l_value (h : tpo B b n) {t : Int32} {a e : Nat} (he : e ≤ n) (ha : a ≤ e) (h2 : e - a ≤ 2) (hd : ∀ i, a ≤ i → i < e → 48 ≤ b i ∧ b i ≤ 57) : ∀ (k i : Nat), e - a - i = k → i ≤ e - a → mm_r (d + 1) mX6_tokenValue (mm_q (some (.int (nI (vl b a (e - a))))) (wTp (B, nI n, nI e, t, nI a))) 7 [some (.ref 0), some (.int (nI (vl b a i))), some (.int (nI (a + i)))] [] (wTp (B, nI n, nI e, t, nI a)) := by
  intro k
  have hn := h.1
  induction k with
  | zero =>
    intro i hk hi
    have : i = e - a := by omega
    subst this
    have e2 : a + (e - a) = e := by omega
    refine r_iload_n (i := 2) 8 dX6_tokenValue_7 rfl rfl rfl ?_
    refine r_aload_n (i := 0) 9 dX6_tokenValue_8 rfl rfl rfl ?_
    refine r_getf 12 dX6_tokenValue_9 rfl fl_X6_19 rfl rfl ?_
    rw [e2]
    refine r_icmp_ge 44 15 dX6_tokenValue_12 rfl rfl (fun h12 => ?_) (fun h12 => absurd (Int32.le_refl _) h12)
    refine r_iload_n (i := 1) 45 dX6_tokenValue_44 rfl rfl rfl ?_
    exact r_reti dX6_tokenValue_45 rfl (by first | rfl | exact bI_nar _) ⟨Nat.le_refl _, Nat.le_refl _⟩ (fun _ => rfl) (⟨rfl, rfl⟩)
  | succ k ih =>
    intro i hk hi
    obtain ⟨e1, e2⟩ := h.2 (a + i) (by omega)
    have hin : vp_in (nI (a + i)) 160 := vp_in_nI (by omega) (by decide)
    have d1 := hd (a + i) (by omega) (by omega)
    refine r_iload_n (i := 2) 8 dX6_tokenValue_7 rfl rfl rfl ?_
    refine r_aload_n (i := 0) 9 dX6_tokenValue_8 rfl rfl rfl ?_
    refine r_getf 12 dX6_tokenValue_9 rfl fl_X6_19 rfl rfl ?_
    refine r_icmp_ge 44 15 dX6_tokenValue_12 rfl rfl (fun h12 => absurd (ble_of (by omega) (by omega) h12) (by omega)) (fun h12 => ?_)
    refine r_iload_n (i := 2) 16 dX6_tokenValue_15 rfl rfl rfl ?_
    refine r_aload_n (i := 0) 17 dX6_tokenValue_16 rfl rfl rfl ?_
    refine r_getf 20 dX6_tokenValue_17 rfl fl_X6_15 rfl rfl ?_
    refine r_icmp_ge 44 23 dX6_tokenValue_20 rfl rfl (fun h20 => absurd (ble_of (by omega) (by omega) h20) (by omega)) (fun h20 => ?_)
    refine r_iload_n (i := 1) 24 dX6_tokenValue_23 rfl rfl rfl ?_
    refine r_bipush (v := 10) 26 dX6_tokenValue_24 rfl rfl ?_
    refine r_imul 27 dX6_tokenValue_26 rfl ?_
    refine r_aload_n (i := 0) 28 dX6_tokenValue_27 rfl rfl rfl ?_
    refine r_getf 31 dX6_tokenValue_28 rfl fl_X6_9 rfl rfl ?_
    refine r_iload_n (i := 2) 32 dX6_tokenValue_31 rfl rfl rfl ?_
    refine r_bald 33 dX6_tokenValue_32 rfl rfl (by assumption) ?_
    rw [nI_clamp (n := a + i) (by omega), show (B, nI n, nI e, t, nI a).1 (a + i) = nI (b (a + i)) from e1]
    refine r_iadd 34 dX6_tokenValue_33 rfl ?_
    refine r_bipush (v := 48) 36 dX6_tokenValue_34 rfl rfl ?_
    refine r_isub 37 dX6_tokenValue_36 rfl ?_
    rw [show (10 : Int32) = nI 10 from rfl, pk_mul, nI_add, show (48 : Int32) = nI 48 from rfl, pk_sub (by omega)]
    refine r_istore_n (i := 1) 38 dX6_tokenValue_37 rfl rfl rfl ?_
    refine r_iinc (i := 2) 41 dX6_tokenValue_38 rfl rfl (by first | exact nI_1 _ | rfl) rfl ?_
    refine r_goto 7 dX6_tokenValue_41 rfl ?_
    exact ih (i + 1) (by omega) (by omega)
theorem e_tokenValue (h : tpo B b n) {t : Int32} {a e : Nat} (he : e ≤ n) (ha : a ≤ e) (h2 : e - a ≤ 2) (hd : ∀ i, a ≤ i → i < e → 48 ≤ b i ∧ b i ≤ 57) : mm_e (d + 1) yX6_tokenValue mX6_tokenValue [.ref 0] (wTp (B, nI n, nI e, t, nI a)) (mm_q (some (.int (nI (vl b a (e - a))))) (wTp (B, nI n, nI e, t, nI a))) := by
  refine e_of [some (.ref 0), none, none] rfl (by decide) rfl rfl rfl ?_
  refine r_iconst (v := 0) 1 dX6_tokenValue_0 rfl rfl ?_
  refine r_istore_n (i := 1) 2 dX6_tokenValue_1 rfl rfl rfl ?_
  refine r_aload_n (i := 0) 3 dX6_tokenValue_2 rfl rfl rfl ?_
  refine r_getf 6 dX6_tokenValue_3 rfl fl_X6_22 rfl rfl ?_
  refine r_istore_n (i := 2) 7 dX6_tokenValue_6 rfl rfl rfl ?_
  exact l_value h he ha h2 hd _ 0 rfl (Nat.zero_le _)
theorem sCh_lt : ∀ j, j < 8 → ∀ i, i < sLen j → sCh j i < 256 := fun j _ i _ => Nat.mod_lt _ (by decide)
theorem l_tokenIs (h : tpo B b n) {t : Int32} {a e j : Nat} (hj : j < 8) (he : e ≤ n) (ha : a ≤ e) (hl : e - a = sLen j) : ∀ (k i : Nat), sLen j - i = k → i ≤ sLen j → allb (fun i => decide (b (a + i) = sCh j i)) i = true → mm_r (d + 5) mX6_tokenIs (mm_q (some (.int (bI (allb (fun i => decide (b (a + i) = sCh j i)) (sLen j))))) (wTp (B, nI n, nI e, t, nI a))) 28 [some (.ref 0), some (.retAddr (j + 1)), some (.int (nI i))] [] (wTp (B, nI n, nI e, t, nI a)) := by
  intro k
  have hn := h.1
  have hL := sLen_lt j hj
  induction k with
  | zero =>
    intro i hk hi hb
    have : i = sLen j := by omega
    subst this
    refine r_iload_n (i := 2) 29 dX6_tokenIs_28 rfl rfl rfl ?_
    refine r_xload_n (i := 1) 30 dX6_tokenIs_29 rfl rfl rfl ?_
    refine r_callXi 33 dX6_tokenIs_30 rfl ykJ0_length_8abf5 lk_X6_32 rfl hj (e_sLength hj) rfl rfl rfl ⟨Nat.le_refl _, Nat.le_refl _⟩ ?_
    refine r_icmp_ge 63 36 dX6_tokenIs_33 rfl rfl (fun h33 => ?_) (fun h33 => absurd (Int32.le_refl _) h33)
    refine r_iconst (v := 1) 64 dX6_tokenIs_63 rfl rfl ?_
    exact r_reti dX6_tokenIs_64 rfl (by first | rfl | exact bI_nar _) ⟨Nat.le_refl _, Nat.le_refl _⟩ (fun _ => rfl) (⟨by rw [hb]; rfl, rfl⟩)
  | succ k ih =>
    intro i hk hi hb
    obtain ⟨e1, e2⟩ := h.2 (a + i) (by omega)
    have hin : vp_in (nI (a + i)) 160 := vp_in_nI (by omega) (by decide)
    have hc := sCh_lt j hj i (by omega)
    refine r_iload_n (i := 2) 29 dX6_tokenIs_28 rfl rfl rfl ?_
    refine r_xload_n (i := 1) 30 dX6_tokenIs_29 rfl rfl rfl ?_
    refine r_callXi 33 dX6_tokenIs_30 rfl ykJ0_length_8abf5 lk_X6_32 rfl hj (e_sLength hj) rfl rfl rfl ⟨Nat.le_refl _, Nat.le_refl _⟩ ?_
    refine r_icmp_ge 63 36 dX6_tokenIs_33 rfl rfl (fun h33 => absurd (ble_of (by omega) (by omega) h33) (by omega)) (fun h33 => ?_)
    refine r_aload_n (i := 0) 37 dX6_tokenIs_36 rfl rfl rfl ?_
    refine r_getf 40 dX6_tokenIs_37 rfl fl_X6_9 rfl rfl ?_
    refine r_aload_n (i := 0) 41 dX6_tokenIs_40 rfl rfl rfl ?_
    refine r_getf 44 dX6_tokenIs_41 rfl fl_X6_22 rfl rfl ?_
    refine r_iload_n (i := 2) 45 dX6_tokenIs_44 rfl rfl rfl ?_
    refine r_iadd 46 dX6_tokenIs_45 rfl ?_
    rw [nI_add]
    refine r_bald 47 dX6_tokenIs_46 rfl rfl (by assumption) ?_
    rw [nI_clamp (n := a + i) (by omega), show (B, nI n, nI e, t, nI a).1 (a + i) = nI (b (a + i)) from e1]
    refine r_xload_n (i := 1) 48 dX6_tokenIs_47 rfl rfl rfl ?_
    refine r_iload_n (i := 2) 49 dX6_tokenIs_48 rfl rfl rfl ?_
    refine r_callXi 52 dX6_tokenIs_49 rfl ykJ0_charAt_5068e lk_X6_37 rfl hj (e_charAt hj (by omega)) rfl rfl rfl ⟨Nat.le_refl _, Nat.le_refl _⟩ ?_
    refine r_icmp_eq 57 55 dX6_tokenIs_52 rfl rfl (fun h52 => ?_) (fun h52 => ?_)
    · have g := beq_of (by omega) (by omega) h52
      refine r_iinc (i := 2) 60 dX6_tokenIs_57 rfl rfl (by first | exact nI_1 _ | rfl) rfl ?_
      refine r_goto 28 dX6_tokenIs_60 rfl ?_
      exact ih (i + 1) (by omega) (by omega) (by rw [allb, hb]; exact decide_eq_true g)
    · have g := bne_of (by omega) (by omega) h52
      rw [allb_false (p := fun i => decide (b (a + i) = sCh j i)) (i := i) (by omega) (decide_eq_false g)]
      refine r_iconst (v := 0) 56 dX6_tokenIs_55 rfl rfl ?_
      exact r_reti dX6_tokenIs_56 rfl (by first | rfl | exact bI_nar _) ⟨Nat.le_refl _, Nat.le_refl _⟩ (fun _ => rfl) (⟨rfl, rfl⟩)
theorem e_tokenIs (h : tpo B b n) {t a e j : Nat} (ht : t ≤ 4) (hj : j < 8) (he : e ≤ n) (ha : a ≤ e) : mm_e (d + 5) yX6_tokenIs mX6_tokenIs [.ref 0, .retAddr (j + 1)] (wTp (B, nI n, nI e, nI t, nI a)) (mm_q (some (.int (bI (decide (t = 1) && wrd b a e j)))) (wTp (B, nI n, nI e, nI t, nI a))) := by
  refine e_of [some (.ref 0), some (.retAddr (j + 1)), none] rfl (by decide) rfl rfl rfl ?_
  have hn := h.1
  have hL := sLen_lt j hj
  rw [wrd]
  refine r_aload_n (i := 0) 1 dX6_tokenIs_0 rfl rfl rfl ?_
  refine r_getf 4 dX6_tokenIs_1 rfl fl_X6_29 rfl rfl ?_
  refine r_iconst (v := 1) 5 dX6_tokenIs_4 rfl rfl ?_
  refine r_icmp_ne 24 8 dX6_tokenIs_5 rfl rfl (fun h5 => ?_) (fun h5 => ?_)
  · have g := bne_of (b := 1) (by omega) (by decide) h5
    rw [decide_eq_false g]
    refine r_iconst (v := 0) 25 dX6_tokenIs_24 rfl rfl ?_
    exact r_reti dX6_tokenIs_25 rfl (by first | rfl | exact bI_nar _) ⟨Nat.le_refl _, Nat.le_refl _⟩ (fun _ => rfl) (⟨rfl, rfl⟩)
  · have g := beq_of (b := 1) (by omega) (by decide) h5
    rw [decide_eq_true g]
    refine r_aload_n (i := 0) 9 dX6_tokenIs_8 rfl rfl rfl ?_
    refine r_getf 12 dX6_tokenIs_9 rfl fl_X6_19 rfl rfl ?_
    refine r_aload_n (i := 0) 13 dX6_tokenIs_12 rfl rfl rfl ?_
    refine r_getf 16 dX6_tokenIs_13 rfl fl_X6_22 rfl rfl ?_
    refine r_isub 17 dX6_tokenIs_16 rfl ?_
    rw [pk_sub ha]
    refine r_xload_n (i := 1) 18 dX6_tokenIs_17 rfl rfl rfl ?_
    refine r_callXi 21 dX6_tokenIs_18 rfl ykJ0_length_8abf5 lk_X6_32 rfl hj (e_sLength hj) rfl rfl rfl ⟨Nat.le_refl _, Nat.le_refl _⟩ ?_
    refine r_icmp_eq 26 24 dX6_tokenIs_21 rfl rfl (fun h21 => ?_) (fun h21 => ?_)
    · have g2 := beq_of (by omega) (by omega) h21
      rw [decide_eq_true g2]
      refine r_iconst (v := 0) 27 dX6_tokenIs_26 rfl rfl ?_
      refine r_istore_n (i := 2) 28 dX6_tokenIs_27 rfl rfl rfl ?_
      exact l_tokenIs h hj he ha g2 _ 0 rfl (Nat.zero_le _) rfl
    · have g2 := bne_of (by omega) (by omega) h21
      rw [decide_eq_false g2]
      refine r_iconst (v := 0) 25 dX6_tokenIs_24 rfl rfl ?_
      exact r_reti dX6_tokenIs_25 rfl (by first | rfl | exact bI_nar _) ⟨Nat.le_refl _, Nat.le_refl _⟩ (fun _ => rfl) (⟨rfl, rfl⟩)
end X6T
