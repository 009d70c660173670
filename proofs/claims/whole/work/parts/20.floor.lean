-- THE CLASS'S FLOOR
abbrev FlT : Type := Int32 × (Nat → Int32) × (Nat → Int32) × (Nat → Int32) × Int32 × Int32 × (Nat → Int32) × (Nat → Int32) × Int32 × (Nat → Int32) × (Nat → Int32) × Int32
abbrev fTh (F : FlT) : Int32 := F.1
abbrev fKd (F : FlT) : Nat → Int32 := F.2.1
abbrev fFi (F : FlT) : Nat → Int32 := F.2.2.1
abbrev fSe (F : FlT) : Nat → Int32 := F.2.2.2.1
abbrev fSt (F : FlT) : Int32 := F.2.2.2.2.1
abbrev fGu (F : FlT) : Int32 := F.2.2.2.2.2.1
abbrev fUn (F : FlT) : Nat → Int32 := F.2.2.2.2.2.2.1
abbrev fPr (F : FlT) : Nat → Int32 := F.2.2.2.2.2.2.2.1
abbrev fBn (F : FlT) : Int32 := F.2.2.2.2.2.2.2.2.1
abbrev fB1 (F : FlT) : Nat → Int32 := F.2.2.2.2.2.2.2.2.2.1
abbrev fB2 (F : FlT) : Nat → Int32 := F.2.2.2.2.2.2.2.2.2.2.1
abbrev fYr (F : FlT) : Int32 := F.2.2.2.2.2.2.2.2.2.2.2
def wFl (F : FlT) : mm_W := [.inr (0, [.int (fTh F), .ref 1, .ref 2, .ref 3, .int (fSt F), .int (fGu F), .ref 4, .ref 5, .int (fBn F), .ref 6, .ref 7, .int (fYr F)]), .inl (0, (6, .inl (fKd F))), .inl (0, (6, .inl (fFi F))), .inl (0, (6, .inl (fSe F))), .inl (0, (4, .inl (fUn F))), .inl (0, (4, .inl (fPr F))), .inl (0, (4, .inl (fB1 F))), .inl (0, (4, .inl (fB2 F)))]
/-- a floor holds these laws -/
def fok (F : FlT) (A : sA) : Prop := fTh F = nI (sN A) ∧ (∀ i, i < sN A → fKd F i = nI (sK A i) ∧ fFi F i = nI (sF A i) ∧ fSe F i = nI (sS A i)) ∧ fGu F = nI (sG A) ∧ (∀ i, i < sG A → fUn F i = nI (sU A i) ∧ fPr F i = nI (sP A i)) ∧ fBn F = nI (sB A) ∧ (∀ i, i < sB A → fB1 F i = nI (sC A i) ∧ fB2 F i = nI (sE A i)) ∧ sOk A
section X7static
variable {d : Nat}
theorem e_bit (b : Bool) : mm_e (d + 1) yX7_bit mX7_bit [.int (bI b)] [] (mm_q (some (.int (bI b))) []) := by
  refine e_of [some (.int (bI b))] rfl (by decide) rfl rfl rfl ?_
  refine r_iload_n (i := 0) 1 dX7_bit_0 rfl rfl rfl ?_
  refine r_if_eq 8 4 dX7_bit_1 rfl rfl (fun h1 => ?_) (fun h1 => ?_)
  · refine r_iconst (v := 0) 9 dX7_bit_8 rfl rfl ?_
    exact r_reti dX7_bit_9 rfl (by first | rfl | exact bI_nar _) ⟨Nat.le_refl _, Nat.le_refl _⟩ (fun _ => rfl) (⟨by cases b <;> first | rfl | exact absurd rfl h1 | exact absurd h1 (by decide), rfl⟩)
  · refine r_iconst (v := 1) 5 dX7_bit_4 rfl rfl ?_
    refine r_goto 9 dX7_bit_5 rfl ?_
    exact r_reti dX7_bit_9 rfl (by first | rfl | exact bI_nar _) ⟨Nat.le_refl _, Nat.le_refl _⟩ (fun _ => rfl) (⟨by cases b <;> first | rfl | exact absurd rfl h1 | exact absurd h1 (by decide), rfl⟩)
theorem e_isBit (v : Int32) : mm_e (d + 1) yX7_isBit mX7_isBit [.int v] [] (mm_q (some (.int (bI (decide (v = 0 ∨ v = 1))))) []) := by
  refine e_of [some (.int v)] rfl (by decide) rfl rfl rfl ?_
  refine r_iload_n (i := 0) 1 dX7_isBit_0 rfl rfl rfl ?_
  refine r_if_eq 9 4 dX7_isBit_1 rfl rfl (fun h1 => ?_) (fun h1 => ?_)
  · refine r_iconst (v := 1) 10 dX7_isBit_9 rfl rfl ?_
    refine r_goto 14 dX7_isBit_10 rfl ?_
    exact r_reti dX7_isBit_14 rfl (by first | rfl | exact bI_nar _) ⟨Nat.le_refl _, Nat.le_refl _⟩ (fun _ => rfl) (⟨by simp_all [bI], rfl⟩)
  · refine r_iload_n (i := 0) 5 dX7_isBit_4 rfl rfl rfl ?_
    refine r_iconst (v := 1) 6 dX7_isBit_5 rfl rfl ?_
    refine r_icmp_ne 13 9 dX7_isBit_6 rfl rfl (fun h6 => ?_) (fun h6 => ?_)
    · refine r_iconst (v := 0) 14 dX7_isBit_13 rfl rfl ?_
      exact r_reti dX7_isBit_14 rfl (by first | rfl | exact bI_nar _) ⟨Nat.le_refl _, Nat.le_refl _⟩ (fun _ => rfl) (⟨by simp_all [bI], rfl⟩)
    · refine r_iconst (v := 1) 10 dX7_isBit_9 rfl rfl ?_
      refine r_goto 14 dX7_isBit_10 rfl ?_
      exact r_reti dX7_isBit_14 rfl (by first | rfl | exact bI_nar _) ⟨Nat.le_refl _, Nat.le_refl _⟩ (fun _ => rfl) (⟨by simp_all [bI], rfl⟩)
theorem e_isSo {x j : Nat} (hx : x < 2 ^ 31) (hj : j < 32) : mm_e (d + 1) yX7_isSo mX7_isSo [.int (nI x), .int (nI j)] [] (mm_q (some (.int (bI (decide (tb x j = 1))))) []) := by
  refine e_of [some (.int (nI x)), some (.int (nI j))] rfl (by decide) rfl rfl rfl ?_
  have e := n_bit hx hj
  refine r_iload_n (i := 0) 1 dX7_isSo_0 rfl rfl rfl ?_
  refine r_iload_n (i := 1) 2 dX7_isSo_1 rfl rfl rfl ?_
  refine r_ishr 3 dX7_isSo_2 rfl ?_
  refine r_iconst (v := 1) 4 dX7_isSo_3 rfl rfl ?_
  refine r_iand 5 dX7_isSo_4 rfl ?_
  rw [e]
  refine r_iconst (v := 1) 6 dX7_isSo_5 rfl rfl ?_
  refine r_icmp_ne 13 9 dX7_isSo_6 rfl rfl (fun h6 => ?_) (fun h6 => ?_)
  · refine r_iconst (v := 0) 14 dX7_isSo_13 rfl rfl ?_
    exact r_reti dX7_isSo_14 rfl (by first | rfl | exact bI_nar _) ⟨Nat.le_refl _, Nat.le_refl _⟩ (fun _ => rfl) (⟨by rcases tb_01 x j with q | q <;> rw [q] at h6 ⊢ <;> first | rfl | exact absurd h6 (by decide) | exact absurd rfl h6, rfl⟩)
  · refine r_iconst (v := 1) 10 dX7_isSo_9 rfl rfl ?_
    refine r_goto 14 dX7_isSo_10 rfl ?_
    exact r_reti dX7_isSo_14 rfl (by first | rfl | exact bI_nar _) ⟨Nat.le_refl _, Nat.le_refl _⟩ (fun _ => rfl) (⟨by rcases tb_01 x j with q | q <;> rw [q] at h6 ⊢ <;> first | rfl | exact absurd h6 (by decide) | exact absurd rfl h6, rfl⟩)
theorem e_undone {x j : Nat} (hj : j < 31) : mm_e (d + 1) yX7_undone mX7_undone [.int (nI x), .int (nI j)] [] (mm_q (some (.int (nI (x ^^^ 2 ^ j)))) []) := by
  refine e_of [some (.int (nI x)), some (.int (nI j))] rfl (by decide) rfl rfl rfl ?_
  refine r_iload_n (i := 0) 1 dX7_undone_0 rfl rfl rfl ?_
  refine r_iconst (v := 1) 2 dX7_undone_1 rfl rfl ?_
  refine r_iload_n (i := 1) 3 dX7_undone_2 rfl rfl rfl ?_
  refine r_ishl 4 dX7_undone_3 rfl ?_
  refine r_ixor 5 dX7_undone_4 rfl ?_
  exact r_reti dX7_undone_5 rfl (by first | rfl | exact bI_nar _) ⟨Nat.le_refl _, Nat.le_refl _⟩ (fun _ => rfl) (⟨by rw [n_shl1 hj, fb_xorI], rfl⟩)
theorem e_isWayYear (v : Int32) : mm_e (d + 1) yX7_isWayYear mX7_isWayYear [.int v] [] (mm_q (some (.int (bI (decide (¬ v < 10) && decide (¬ 14 ≤ v))))) []) := by
  refine e_of [some (.int v)] rfl (by decide) rfl rfl rfl ?_
  refine r_iload_n (i := 0) 1 dX7_isWayYear_0 rfl rfl rfl ?_
  refine r_bipush (v := 10) 3 dX7_isWayYear_1 rfl rfl ?_
  refine r_icmp_lt 16 6 dX7_isWayYear_3 rfl rfl (fun h3 => ?_) (fun h3 => ?_)
  · refine r_iconst (v := 0) 17 dX7_isWayYear_16 rfl rfl ?_
    exact r_reti dX7_isWayYear_17 rfl (by first | rfl | exact bI_nar _) ⟨Nat.le_refl _, Nat.le_refl _⟩ (fun _ => rfl) (⟨by simp_all [bI], rfl⟩)
  · refine r_iload_n (i := 0) 7 dX7_isWayYear_6 rfl rfl rfl ?_
    refine r_bipush (v := 14) 9 dX7_isWayYear_7 rfl rfl ?_
    refine r_icmp_ge 16 12 dX7_isWayYear_9 rfl rfl (fun h9 => ?_) (fun h9 => ?_)
    · refine r_iconst (v := 0) 17 dX7_isWayYear_16 rfl rfl ?_
      exact r_reti dX7_isWayYear_17 rfl (by first | rfl | exact bI_nar _) ⟨Nat.le_refl _, Nat.le_refl _⟩ (fun _ => rfl) (⟨by simp_all [bI], rfl⟩)
    · refine r_iconst (v := 1) 13 dX7_isWayYear_12 rfl rfl ?_
      refine r_goto 17 dX7_isWayYear_13 rfl ?_
      exact r_reti dX7_isWayYear_17 rfl (by first | rfl | exact bI_nar _) ⟨Nat.le_refl _, Nat.le_refl _⟩ (fun _ => rfl) (⟨by simp_all [bI], rfl⟩)
theorem e_isSheet (v : Int32) : mm_e (d + 1) yX7_isSheet mX7_isSheet [.int v] [] (mm_q (some (.int (bI (inb 4 v)))) []) := by
  refine e_of [some (.int v)] rfl (by decide) rfl rfl rfl ?_
  refine r_iload_n (i := 0) 1 dX7_isSheet_0 rfl rfl rfl ?_
  refine r_if_lt 13 4 dX7_isSheet_1 rfl rfl (fun h1 => ?_) (fun h1 => ?_)
  · refine r_iconst (v := 0) 14 dX7_isSheet_13 rfl rfl ?_
    exact r_reti dX7_isSheet_14 rfl (by first | rfl | exact bI_nar _) ⟨Nat.le_refl _, Nat.le_refl _⟩ (fun _ => rfl) (⟨by simp_all [bI, inb], rfl⟩)
  · refine r_iload_n (i := 0) 5 dX7_isSheet_4 rfl rfl rfl ?_
    refine r_iconst (v := 4) 6 dX7_isSheet_5 rfl rfl ?_
    refine r_icmp_ge 13 9 dX7_isSheet_6 rfl rfl (fun h6 => ?_) (fun h6 => ?_)
    · refine r_iconst (v := 0) 14 dX7_isSheet_13 rfl rfl ?_
      exact r_reti dX7_isSheet_14 rfl (by first | rfl | exact bI_nar _) ⟨Nat.le_refl _, Nat.le_refl _⟩ (fun _ => rfl) (⟨by simp_all [bI, inb], rfl⟩)
    · refine r_iconst (v := 1) 10 dX7_isSheet_9 rfl rfl ?_
      refine r_goto 14 dX7_isSheet_10 rfl ?_
      exact r_reti dX7_isSheet_14 rfl (by first | rfl | exact bI_nar _) ⟨Nat.le_refl _, Nat.le_refl _⟩ (fun _ => rfl) (⟨by simp_all [bI, inb], rfl⟩)
theorem e_isLane (v : Int32) : mm_e (d + 1) yX7_isLane mX7_isLane [.int v] [] (mm_q (some (.int (bI (inb 3 v)))) []) := by
  refine e_of [some (.int v)] rfl (by decide) rfl rfl rfl ?_
  refine r_iload_n (i := 0) 1 dX7_isLane_0 rfl rfl rfl ?_
  refine r_if_lt 13 4 dX7_isLane_1 rfl rfl (fun h1 => ?_) (fun h1 => ?_)
  · refine r_iconst (v := 0) 14 dX7_isLane_13 rfl rfl ?_
    exact r_reti dX7_isLane_14 rfl (by first | rfl | exact bI_nar _) ⟨Nat.le_refl _, Nat.le_refl _⟩ (fun _ => rfl) (⟨by simp_all [bI, inb], rfl⟩)
  · refine r_iload_n (i := 0) 5 dX7_isLane_4 rfl rfl rfl ?_
    refine r_iconst (v := 3) 6 dX7_isLane_5 rfl rfl ?_
    refine r_icmp_ge 13 9 dX7_isLane_6 rfl rfl (fun h6 => ?_) (fun h6 => ?_)
    · refine r_iconst (v := 0) 14 dX7_isLane_13 rfl rfl ?_
      exact r_reti dX7_isLane_14 rfl (by first | rfl | exact bI_nar _) ⟨Nat.le_refl _, Nat.le_refl _⟩ (fun _ => rfl) (⟨by simp_all [bI, inb], rfl⟩)
    · refine r_iconst (v := 1) 10 dX7_isLane_9 rfl rfl ?_
      refine r_goto 14 dX7_isLane_10 rfl ?_
      exact r_reti dX7_isLane_14 rfl (by first | rfl | exact bI_nar _) ⟨Nat.le_refl _, Nat.le_refl _⟩ (fun _ => rfl) (⟨by simp_all [bI, inb], rfl⟩)
end X7static
section X0a
variable {d : Nat} {F : FlT} {A : sA}
theorem e_hasThing (v : Int32) : mm_e (d + 1) yX0_hasThing mX0_hasThing [.ref 0, .int v] (wFl F) (mm_q (some (.int (bI (inb (fTh F) v)))) (wFl F)) := by
  refine e_of [some (.ref 0), some (.int v)] rfl (by decide) rfl rfl rfl ?_
  refine r_iload_n (i := 1) 1 dX0_hasThing_0 rfl rfl rfl ?_
  refine r_if_lt 16 4 dX0_hasThing_1 rfl rfl (fun h1 => ?_) (fun h1 => ?_)
  · refine r_iconst (v := 0) 17 dX0_hasThing_16 rfl rfl ?_
    exact r_reti dX0_hasThing_17 rfl (by first | rfl | exact bI_nar _) ⟨Nat.le_refl _, Nat.le_refl _⟩ (fun _ => rfl) (⟨by simp_all [bI, inb], rfl⟩)
  · refine r_iload_n (i := 1) 5 dX0_hasThing_4 rfl rfl rfl ?_
    refine r_aload_n (i := 0) 6 dX0_hasThing_5 rfl rfl rfl ?_
    refine r_getf 9 dX0_hasThing_6 rfl fl_X0_33 rfl rfl ?_
    refine r_icmp_ge 16 12 dX0_hasThing_9 rfl rfl (fun h9 => ?_) (fun h9 => ?_)
    · refine r_iconst (v := 0) 17 dX0_hasThing_16 rfl rfl ?_
      exact r_reti dX0_hasThing_17 rfl (by first | rfl | exact bI_nar _) ⟨Nat.le_refl _, Nat.le_refl _⟩ (fun _ => rfl) (⟨by simp_all [bI, inb], rfl⟩)
    · refine r_iconst (v := 1) 13 dX0_hasThing_12 rfl rfl ?_
      refine r_goto 17 dX0_hasThing_13 rfl ?_
      exact r_reti dX0_hasThing_17 rfl (by first | rfl | exact bI_nar _) ⟨Nat.le_refl _, Nat.le_refl _⟩ (fun _ => rfl) (⟨by simp_all [bI, inb], rfl⟩)
theorem e_hasGuest (v : Int32) : mm_e (d + 1) yX0_hasGuest mX0_hasGuest [.ref 0, .int v] (wFl F) (mm_q (some (.int (bI (inb (fGu F) v)))) (wFl F)) := by
  refine e_of [some (.ref 0), some (.int v)] rfl (by decide) rfl rfl rfl ?_
  refine r_iload_n (i := 1) 1 dX0_hasGuest_0 rfl rfl rfl ?_
  refine r_if_lt 16 4 dX0_hasGuest_1 rfl rfl (fun h1 => ?_) (fun h1 => ?_)
  · refine r_iconst (v := 0) 17 dX0_hasGuest_16 rfl rfl ?_
    exact r_reti dX0_hasGuest_17 rfl (by first | rfl | exact bI_nar _) ⟨Nat.le_refl _, Nat.le_refl _⟩ (fun _ => rfl) (⟨by simp_all [bI, inb], rfl⟩)
  · refine r_iload_n (i := 1) 5 dX0_hasGuest_4 rfl rfl rfl ?_
    refine r_aload_n (i := 0) 6 dX0_hasGuest_5 rfl rfl rfl ?_
    refine r_getf 9 dX0_hasGuest_6 rfl fl_X0_40 rfl rfl ?_
    refine r_icmp_ge 16 12 dX0_hasGuest_9 rfl rfl (fun h9 => ?_) (fun h9 => ?_)
    · refine r_iconst (v := 0) 17 dX0_hasGuest_16 rfl rfl ?_
      exact r_reti dX0_hasGuest_17 rfl (by first | rfl | exact bI_nar _) ⟨Nat.le_refl _, Nat.le_refl _⟩ (fun _ => rfl) (⟨by simp_all [bI, inb], rfl⟩)
    · refine r_iconst (v := 1) 13 dX0_hasGuest_12 rfl rfl ?_
      refine r_goto 17 dX0_hasGuest_13 rfl ?_
      exact r_reti dX0_hasGuest_17 rfl (by first | rfl | exact bI_nar _) ⟨Nat.le_refl _, Nat.le_refl _⟩ (fun _ => rfl) (⟨by simp_all [bI, inb], rfl⟩)
theorem e_hasBan (v : Int32) : mm_e (d + 1) yX0_hasBan mX0_hasBan [.ref 0, .int v] (wFl F) (mm_q (some (.int (bI (inb (fBn F) v)))) (wFl F)) := by
  refine e_of [some (.ref 0), some (.int v)] rfl (by decide) rfl rfl rfl ?_
  refine r_iload_n (i := 1) 1 dX0_hasBan_0 rfl rfl rfl ?_
  refine r_if_lt 16 4 dX0_hasBan_1 rfl rfl (fun h1 => ?_) (fun h1 => ?_)
  · refine r_iconst (v := 0) 17 dX0_hasBan_16 rfl rfl ?_
    exact r_reti dX0_hasBan_17 rfl (by first | rfl | exact bI_nar _) ⟨Nat.le_refl _, Nat.le_refl _⟩ (fun _ => rfl) (⟨by simp_all [bI, inb], rfl⟩)
  · refine r_iload_n (i := 1) 5 dX0_hasBan_4 rfl rfl rfl ?_
    refine r_aload_n (i := 0) 6 dX0_hasBan_5 rfl rfl rfl ?_
    refine r_getf 9 dX0_hasBan_6 rfl fl_X0_43 rfl rfl ?_
    refine r_icmp_ge 16 12 dX0_hasBan_9 rfl rfl (fun h9 => ?_) (fun h9 => ?_)
    · refine r_iconst (v := 0) 17 dX0_hasBan_16 rfl rfl ?_
      exact r_reti dX0_hasBan_17 rfl (by first | rfl | exact bI_nar _) ⟨Nat.le_refl _, Nat.le_refl _⟩ (fun _ => rfl) (⟨by simp_all [bI, inb], rfl⟩)
    · refine r_iconst (v := 1) 13 dX0_hasBan_12 rfl rfl ?_
      refine r_goto 17 dX0_hasBan_13 rfl ?_
      exact r_reti dX0_hasBan_17 rfl (by first | rfl | exact bI_nar _) ⟨Nat.le_refl _, Nat.le_refl _⟩ (fun _ => rfl) (⟨by simp_all [bI, inb], rfl⟩)
theorem e_states {n : Nat} (h : fTh F = nI n) (hn : n ≤ 6) : mm_e (d + 1) yX0_states mX0_states [.ref 0] (wFl F) (mm_q (some (.int (nI (2 ^ n)))) (wFl F)) := by
  refine e_of [some (.ref 0)] rfl (by decide) rfl rfl rfl ?_
  refine r_iconst (v := 1) 1 dX0_states_0 rfl rfl ?_
  refine r_aload_n (i := 0) 2 dX0_states_1 rfl rfl rfl ?_
  refine r_getf 5 dX0_states_2 rfl fl_X0_33 rfl rfl ?_
  refine r_ishl 6 dX0_states_5 rfl ?_
  exact r_reti dX0_states_6 rfl (by first | rfl | exact bI_nar _) ⟨Nat.le_refl _, Nat.le_refl _⟩ (fun _ => rfl) (⟨by rw [h, n_shl1 (by omega)], rfl⟩)
theorem e_hasState {n : Nat} (h : fTh F = nI n) (hn : n ≤ 6) (v : Int32) : mm_e (d + 2) yX0_hasState mX0_hasState [.ref 0, .int v] (wFl F) (mm_q (some (.int (bI (inb (nI (2 ^ n)) v)))) (wFl F)) := by
  refine e_of [some (.ref 0), some (.int v)] rfl (by decide) rfl rfl rfl ?_
  refine r_iload_n (i := 1) 1 dX0_hasState_0 rfl rfl rfl ?_
  refine r_if_lt 16 4 dX0_hasState_1 rfl rfl (fun h1 => ?_) (fun h1 => ?_)
  · refine r_iconst (v := 0) 17 dX0_hasState_16 rfl rfl ?_
    exact r_reti dX0_hasState_17 rfl (by first | rfl | exact bI_nar _) ⟨Nat.le_refl _, Nat.le_refl _⟩ (fun _ => rfl) (⟨by simp_all [bI, inb], rfl⟩)
  · refine r_iload_n (i := 1) 5 dX0_hasState_4 rfl rfl rfl ?_
    refine r_aload_n (i := 0) 6 dX0_hasState_5 rfl rfl rfl ?_
    refine r_callVi [0, 1, 2, 3, 4, 5, 6, 7] 9 dX0_hasState_6 rfl ykX0_states lk_X0_55 (e_states h hn) rfl rfl rfl rfl rfl rfl rfl ⟨Nat.le_refl _, Nat.le_refl _⟩ ?_
    refine r_icmp_ge 16 12 dX0_hasState_9 rfl rfl (fun h9 => ?_) (fun h9 => ?_)
    · refine r_iconst (v := 0) 17 dX0_hasState_16 rfl rfl ?_
      exact r_reti dX0_hasState_17 rfl (by first | rfl | exact bI_nar _) ⟨Nat.le_refl _, Nat.le_refl _⟩ (fun _ => rfl) (⟨by simp_all [bI, inb], rfl⟩)
    · refine r_iconst (v := 1) 13 dX0_hasState_12 rfl rfl ?_
      refine r_goto 17 dX0_hasState_13 rfl ?_
      exact r_reti dX0_hasState_17 rfl (by first | rfl | exact bI_nar _) ⟨Nat.le_refl _, Nat.le_refl _⟩ (fun _ => rfl) (⟨by simp_all [bI, inb], rfl⟩)
end X0a
