section X0c
variable {d : Nat} {F G : FlT} {A : sA}
/-- what is told of a floor, not yet known to be well told -/
def fw (F : FlT) (A : sA) : Prop := fTh F = nI (sN A) ∧ (∀ i, i < sN A → fKd F i = nI (sK A i) ∧ fFi F i = nI (sF A i) ∧ fSe F i = nI (sS A i)) ∧ fGu F = nI (sG A) ∧ (∀ i, i < sG A → fUn F i = nI (sU A i) ∧ fPr F i = nI (sP A i)) ∧ fBn F = nI (sB A) ∧ (∀ i, i < sB A → fB1 F i = nI (sC A i) ∧ fB2 F i = nI (sE A i)) ∧ sN A ≤ 6 ∧ sG A ≤ 4 ∧ sB A ≤ 4 ∧ (∀ i, i < sN A → sK A i ≤ 4 ∧ sF A i < 6 ∧ sS A i < 6) ∧ (∀ i, i < sG A → sU A i < 6 ∧ sP A i ≤ 9) ∧ (∀ i, i < sB A → sC A i < 6 ∧ sE A i < 6)
def fClr (F : FlT) : FlT := (0, fKd F, fFi F, fSe F, 0, 0, fUn F, fPr F, 0, fB1 F, fB2 F, 0)
theorem e_clear0 : mm_e (d + 1) yX0_clear mX0_clear [.ref 0] (wFl F) (mm_q none (wFl (fClr F))) := by
  refine e_of [some (.ref 0)] rfl (by decide) rfl rfl rfl ?_
  refine r_aload_n (i := 0) 1 dX0_clear_0 rfl rfl rfl ?_
  refine r_iconst (v := 0) 2 dX0_clear_1 rfl rfl ?_
  refine r_putf 5 dX0_clear_2 rfl fl_X0_33 rfl rfl (fun _ _ => ⟨rfl, rfl⟩) (fun z => absurd z Bool.false_ne_true) ?_
  refine r_aload_n (i := 0) 6 dX0_clear_5 rfl rfl rfl ?_
  refine r_iconst (v := 0) 7 dX0_clear_6 rfl rfl ?_
  refine r_putf 10 dX0_clear_7 rfl fl_X0_37 rfl rfl (fun _ _ => ⟨rfl, rfl⟩) (fun z => absurd z Bool.false_ne_true) ?_
  refine r_aload_n (i := 0) 11 dX0_clear_10 rfl rfl rfl ?_
  refine r_iconst (v := 0) 12 dX0_clear_11 rfl rfl ?_
  refine r_putf 15 dX0_clear_12 rfl fl_X0_40 rfl rfl (fun _ _ => ⟨rfl, rfl⟩) (fun z => absurd z Bool.false_ne_true) ?_
  refine r_aload_n (i := 0) 16 dX0_clear_15 rfl rfl rfl ?_
  refine r_iconst (v := 0) 17 dX0_clear_16 rfl rfl ?_
  refine r_putf 20 dX0_clear_17 rfl fl_X0_43 rfl rfl (fun _ _ => ⟨rfl, rfl⟩) (fun z => absurd z Bool.false_ne_true) ?_
  refine r_aload_n (i := 0) 21 dX0_clear_20 rfl rfl rfl ?_
  refine r_iconst (v := 0) 22 dX0_clear_21 rfl rfl ?_
  refine r_putf 25 dX0_clear_22 rfl fl_X0_46 rfl rfl (fun _ _ => ⟨rfl, rfl⟩) (fun z => absurd z Bool.false_ne_true) ?_
  exact r_retv dX0_clear_25 rfl ⟨Nat.le_refl _, Nat.le_refl _⟩ (fun _ => rfl) (⟨rfl, rfl⟩)
def fCpy (F G : FlT) : FlT := (fTh G, va_cpy (fKd G) (fKd F) 0 0 6, va_cpy (fFi G) (fFi F) 0 0 6, va_cpy (fSe G) (fSe F) 0 0 6, fSt G, fGu G, va_cpy (fUn G) (fUn F) 0 0 4, va_cpy (fPr G) (fPr F) 0 0 4, fBn G, va_cpy (fB1 G) (fB1 F) 0 0 4, va_cpy (fB2 G) (fB2 F) 0 0 4, fYr G)
def wF2 (F G : FlT) : mm_W := wFl F ++ (wFl G).map (mm_rc (fun k => 8 + k))
theorem e_copyFrom : mm_e (d + 1) yX0_copyFrom mX0_copyFrom [.ref 0, .ref 8] (wF2 F G) (mm_q none (wF2 (fCpy F G) G)) := by
  refine e_of [some (.ref 0), some (.ref 8)] rfl (by decide) rfl rfl rfl ?_
  refine r_aload_n (i := 0) 1 dX0_copyFrom_0 rfl rfl rfl ?_
  refine r_aload_n (i := 1) 2 dX0_copyFrom_1 rfl rfl rfl ?_
  refine r_getf 5 dX0_copyFrom_2 rfl fl_X0_33 rfl rfl ?_
  refine r_putf 8 dX0_copyFrom_5 rfl fl_X0_33 rfl rfl (fun _ _ => ⟨rfl, rfl⟩) (fun z => absurd z Bool.false_ne_true) ?_
  refine r_aload_n (i := 1) 9 dX0_copyFrom_8 rfl rfl rfl ?_
  refine r_getf 12 dX0_copyFrom_9 rfl fl_X0_9 rfl rfl ?_
  refine r_iconst (v := 0) 13 dX0_copyFrom_12 rfl rfl ?_
  refine r_aload_n (i := 0) 14 dX0_copyFrom_13 rfl rfl rfl ?_
  refine r_getf 17 dX0_copyFrom_14 rfl fl_X0_9 rfl rfl ?_
  refine r_iconst (v := 0) 18 dX0_copyFrom_17 rfl rfl ?_
  refine r_bipush (v := 6) 20 dX0_copyFrom_18 rfl rfl ?_
  refine r_acopy 23 dX0_copyFrom_20 rfl lk_X0_49 w_ac1 w_ac2 w_ac3 (Nat.succ_le_succ (Nat.zero_le _)) rfl rfl (by decide) (by decide) (by decide) (by decide) (by decide) rfl ?_
  refine r_aload_n (i := 1) 24 dX0_copyFrom_23 rfl rfl rfl ?_
  refine r_getf 27 dX0_copyFrom_24 rfl fl_X0_15 rfl rfl ?_
  refine r_iconst (v := 0) 28 dX0_copyFrom_27 rfl rfl ?_
  refine r_aload_n (i := 0) 29 dX0_copyFrom_28 rfl rfl rfl ?_
  refine r_getf 32 dX0_copyFrom_29 rfl fl_X0_15 rfl rfl ?_
  refine r_iconst (v := 0) 33 dX0_copyFrom_32 rfl rfl ?_
  refine r_bipush (v := 6) 35 dX0_copyFrom_33 rfl rfl ?_
  refine r_acopy 38 dX0_copyFrom_35 rfl lk_X0_49 w_ac1 w_ac2 w_ac3 (Nat.succ_le_succ (Nat.zero_le _)) rfl rfl (by decide) (by decide) (by decide) (by decide) (by decide) rfl ?_
  refine r_aload_n (i := 1) 39 dX0_copyFrom_38 rfl rfl rfl ?_
  refine r_getf 42 dX0_copyFrom_39 rfl fl_X0_18 rfl rfl ?_
  refine r_iconst (v := 0) 43 dX0_copyFrom_42 rfl rfl ?_
  refine r_aload_n (i := 0) 44 dX0_copyFrom_43 rfl rfl rfl ?_
  refine r_getf 47 dX0_copyFrom_44 rfl fl_X0_18 rfl rfl ?_
  refine r_iconst (v := 0) 48 dX0_copyFrom_47 rfl rfl ?_
  refine r_bipush (v := 6) 50 dX0_copyFrom_48 rfl rfl ?_
  refine r_acopy 53 dX0_copyFrom_50 rfl lk_X0_49 w_ac1 w_ac2 w_ac3 (Nat.succ_le_succ (Nat.zero_le _)) rfl rfl (by decide) (by decide) (by decide) (by decide) (by decide) rfl ?_
  refine r_aload_n (i := 0) 54 dX0_copyFrom_53 rfl rfl rfl ?_
  refine r_aload_n (i := 1) 55 dX0_copyFrom_54 rfl rfl rfl ?_
  refine r_getf 58 dX0_copyFrom_55 rfl fl_X0_37 rfl rfl ?_
  refine r_putf 61 dX0_copyFrom_58 rfl fl_X0_37 rfl rfl (fun _ _ => ⟨rfl, rfl⟩) (fun z => absurd z Bool.false_ne_true) ?_
  refine r_aload_n (i := 0) 62 dX0_copyFrom_61 rfl rfl rfl ?_
  refine r_aload_n (i := 1) 63 dX0_copyFrom_62 rfl rfl rfl ?_
  refine r_getf 66 dX0_copyFrom_63 rfl fl_X0_40 rfl rfl ?_
  refine r_putf 69 dX0_copyFrom_66 rfl fl_X0_40 rfl rfl (fun _ _ => ⟨rfl, rfl⟩) (fun z => absurd z Bool.false_ne_true) ?_
  refine r_aload_n (i := 1) 70 dX0_copyFrom_69 rfl rfl rfl ?_
  refine r_getf 73 dX0_copyFrom_70 rfl fl_X0_21 rfl rfl ?_
  refine r_iconst (v := 0) 74 dX0_copyFrom_73 rfl rfl ?_
  refine r_aload_n (i := 0) 75 dX0_copyFrom_74 rfl rfl rfl ?_
  refine r_getf 78 dX0_copyFrom_75 rfl fl_X0_21 rfl rfl ?_
  refine r_iconst (v := 0) 79 dX0_copyFrom_78 rfl rfl ?_
  refine r_iconst (v := 4) 80 dX0_copyFrom_79 rfl rfl ?_
  refine r_acopy 83 dX0_copyFrom_80 rfl lk_X0_49 w_ac1 w_ac2 w_ac3 (Nat.succ_le_succ (Nat.zero_le _)) rfl rfl (by decide) (by decide) (by decide) (by decide) (by decide) rfl ?_
  refine r_aload_n (i := 1) 84 dX0_copyFrom_83 rfl rfl rfl ?_
  refine r_getf 87 dX0_copyFrom_84 rfl fl_X0_24 rfl rfl ?_
  refine r_iconst (v := 0) 88 dX0_copyFrom_87 rfl rfl ?_
  refine r_aload_n (i := 0) 89 dX0_copyFrom_88 rfl rfl rfl ?_
  refine r_getf 92 dX0_copyFrom_89 rfl fl_X0_24 rfl rfl ?_
  refine r_iconst (v := 0) 93 dX0_copyFrom_92 rfl rfl ?_
  refine r_iconst (v := 4) 94 dX0_copyFrom_93 rfl rfl ?_
  refine r_acopy 97 dX0_copyFrom_94 rfl lk_X0_49 w_ac1 w_ac2 w_ac3 (Nat.succ_le_succ (Nat.zero_le _)) rfl rfl (by decide) (by decide) (by decide) (by decide) (by decide) rfl ?_
  refine r_aload_n (i := 0) 98 dX0_copyFrom_97 rfl rfl rfl ?_
  refine r_aload_n (i := 1) 99 dX0_copyFrom_98 rfl rfl rfl ?_
  refine r_getf 102 dX0_copyFrom_99 rfl fl_X0_43 rfl rfl ?_
  refine r_putf 105 dX0_copyFrom_102 rfl fl_X0_43 rfl rfl (fun _ _ => ⟨rfl, rfl⟩) (fun z => absurd z Bool.false_ne_true) ?_
  refine r_aload_n (i := 1) 106 dX0_copyFrom_105 rfl rfl rfl ?_
  refine r_getf 109 dX0_copyFrom_106 rfl fl_X0_27 rfl rfl ?_
  refine r_iconst (v := 0) 110 dX0_copyFrom_109 rfl rfl ?_
  refine r_aload_n (i := 0) 111 dX0_copyFrom_110 rfl rfl rfl ?_
  refine r_getf 114 dX0_copyFrom_111 rfl fl_X0_27 rfl rfl ?_
  refine r_iconst (v := 0) 115 dX0_copyFrom_114 rfl rfl ?_
  refine r_iconst (v := 4) 116 dX0_copyFrom_115 rfl rfl ?_
  refine r_acopy 119 dX0_copyFrom_116 rfl lk_X0_49 w_ac1 w_ac2 w_ac3 (Nat.succ_le_succ (Nat.zero_le _)) rfl rfl (by decide) (by decide) (by decide) (by decide) (by decide) rfl ?_
  refine r_aload_n (i := 1) 120 dX0_copyFrom_119 rfl rfl rfl ?_
  refine r_getf 123 dX0_copyFrom_120 rfl fl_X0_30 rfl rfl ?_
  refine r_iconst (v := 0) 124 dX0_copyFrom_123 rfl rfl ?_
  refine r_aload_n (i := 0) 125 dX0_copyFrom_124 rfl rfl rfl ?_
  refine r_getf 128 dX0_copyFrom_125 rfl fl_X0_30 rfl rfl ?_
  refine r_iconst (v := 0) 129 dX0_copyFrom_128 rfl rfl ?_
  refine r_iconst (v := 4) 130 dX0_copyFrom_129 rfl rfl ?_
  refine r_acopy 133 dX0_copyFrom_130 rfl lk_X0_49 w_ac1 w_ac2 w_ac3 (Nat.succ_le_succ (Nat.zero_le _)) rfl rfl (by decide) (by decide) (by decide) (by decide) (by decide) rfl ?_
  refine r_aload_n (i := 0) 134 dX0_copyFrom_133 rfl rfl rfl ?_
  refine r_aload_n (i := 1) 135 dX0_copyFrom_134 rfl rfl rfl ?_
  refine r_getf 138 dX0_copyFrom_135 rfl fl_X0_46 rfl rfl ?_
  refine r_putf 141 dX0_copyFrom_138 rfl fl_X0_46 rfl rfl (fun _ _ => ⟨rfl, rfl⟩) (fun z => absurd z Bool.false_ne_true) ?_
  exact r_retv dX0_copyFrom_141 rfl ⟨Nat.le_refl _, Nat.le_refl _⟩ (fun _ => rfl) (⟨rfl, rfl⟩)
theorem fok_cpy (h : fok G A) : fok (fCpy F G) A := by
  have h6 := h.n6
  have h4 := h.g4
  have h5 := h.b4
  refine ⟨h.1, fun i hi => ?_, h.2.2.1, fun i hi => ?_, h.2.2.2.2.1, fun i hi => ?_, h.2.2.2.2.2.2⟩
  · obtain ⟨k1, k2, k3, -⟩ := h.at hi
    simp only [fCpy, fKd, fFi, fSe, va_cpy, show (0 ≤ i ∧ i < 0 + 6) from by omega, and_self, if_true, Nat.zero_add, Nat.sub_zero]
    exact ⟨k1, k2, k3⟩
  · obtain ⟨k1, k2, -⟩ := h.gat hi
    simp only [fCpy, fUn, fPr, va_cpy, show (0 ≤ i ∧ i < 0 + 4) from by omega, and_self, if_true, Nat.zero_add, Nat.sub_zero]
    exact ⟨k1, k2⟩
  · obtain ⟨k1, k2, -⟩ := h.bat hi
    simp only [fCpy, fB1, fB2, va_cpy, show (0 ≤ i ∧ i < 0 + 4) from by omega, and_self, if_true, Nat.zero_add, Nat.sub_zero]
    exact ⟨k1, k2⟩
def allb (p : Nat → Bool) : Nat → Bool
  | 0 => true
  | i + 1 => allb p i && p i
theorem allb_iff {p : Nat → Bool} : ∀ {n : Nat}, allb p n = true ↔ ∀ i, i < n → p i = true
  | 0 => ⟨fun _ i hi => absurd hi (Nat.not_lt_zero i), fun _ => rfl⟩
  | n + 1 => by
    rw [allb, Bool.and_eq_true, allb_iff]
    constructor
    · rintro ⟨h1, h2⟩ i hi
      rcases Nat.lt_or_ge i n with q | q
      · exact h1 i q
      · rw [show i = n by omega]; exact h2
    · intro h
      exact ⟨fun i hi => h i (by omega), h n (by omega)⟩
def wh1 (A : sA) (i : Nat) : Bool := decide (sF A i < sN A) && decide (sS A i < sN A)
def wh2 (A : sA) (i : Nat) : Bool := decide (sU A i < sN A)
def wh3 (A : sA) (i : Nat) : Bool := decide (sC A i < sN A) && decide (sE A i < sN A)
def whl (A : sA) (x : Nat) : Bool := ((decide (x < 2 ^ sN A) && allb (wh1 A) (sN A)) && allb (wh2 A) (sG A)) && allb (wh3 A) (sB A)
theorem inb_nI' {n v : Nat} (hn : n < 2 ^ 31) (hv : v < 2 ^ 31) : inb (nI n) (nI v) = decide (v < n) := by
  by_cases h : v < n
  · rw [nI_inb h hn]; simp [h]
  · rw [inb_f2 (nI_le (by omega) hv)]; simp [h]
theorem bI_and (a b : Bool) : bI a &&& bI b = bI (a && b) := by cases a <;> cases b <;> rfl
theorem l_isWhole3 (h : fw F A) {x : Nat} (hx : fSt F = nI x) : ∀ (k i : Nat) (b : Bool), sB A - i = k → i ≤ sB A → mm_r (d + 2) mX0_isWhole (mm_q (some (.int (bI (b && allb (wh3 A) (sB A))))) (wFl F)) 98 [some (.ref 0), some (.int (bI (b && allb (wh3 A) i))), some (.int (nI i))] [] (wFl F) := by
  intro k
  obtain ⟨a1, a2, a3, a4, a5, a6, a7, a8, a9, b1, b2, b3⟩ := h
  induction k with
  | zero =>
    intro i b hk hi
    have e : i = sB A := by omega
    refine r_iload_n (i := 2) 99 dX0_isWhole_98 rfl rfl rfl ?_
    refine r_aload_n (i := 0) 100 dX0_isWhole_99 rfl rfl rfl ?_
    refine r_getf 103 dX0_isWhole_100 rfl fl_X0_43 rfl rfl ?_
    refine r_icmp_ge 146 106 dX0_isWhole_103 rfl rfl (fun h103 => ?_) (fun h103 => absurd (by rw [a5, e]; exact Int32.le_refl _) h103)
    refine r_iload_n (i := 1) 147 dX0_isWhole_146 rfl rfl rfl ?_
    exact r_reti dX0_isWhole_147 rfl (bI_nar _) ⟨Nat.le_refl _, Nat.le_refl _⟩ (fun _ => rfl) (⟨by rw [e], rfl⟩)
  | succ k ih =>
    intro i b hk hi
    have hi2 : i < sB A := by omega
    obtain ⟨c1, c2⟩ := a6 i hi2
    obtain ⟨c3, c4⟩ := b3 i hi2
    have hin : vp_in (nI i) 4 := vp_in_nI (by omega) (by decide)
    have fin : ∀ (z : Bool), z = wh3 A i → mm_r (d + 2) mX0_isWhole (mm_q (some (.int (bI (b && allb (wh3 A) (sB A))))) (wFl F)) 138 [some (.ref 0), some (.int (bI (b && allb (wh3 A) i))), some (.int (nI i))] [.int (bI z), .int (bI (b && allb (wh3 A) i))] (wFl F) := by
      intro z hz
      subst hz
      refine r_iand 139 dX0_isWhole_138 rfl ?_
      rw [bI_and, Bool.and_assoc b (allb (wh3 A) i), show (allb (wh3 A) i && wh3 A i) = allb (wh3 A) (i + 1) from rfl]
      refine r_istore_n (i := 1) 140 dX0_isWhole_139 rfl rfl rfl ?_
      refine r_iinc (i := 2) 143 dX0_isWhole_140 rfl rfl (by first | exact nI_1 _ | rfl) rfl ?_
      refine r_goto 98 dX0_isWhole_143 rfl ?_
      exact ih (i + 1) b (by omega) (by omega)
    refine r_iload_n (i := 2) 99 dX0_isWhole_98 rfl rfl rfl ?_
    refine r_aload_n (i := 0) 100 dX0_isWhole_99 rfl rfl rfl ?_
    refine r_getf 103 dX0_isWhole_100 rfl fl_X0_43 rfl rfl ?_
    refine r_icmp_ge 146 106 dX0_isWhole_103 rfl rfl (fun h103 => absurd (ble_of (a := sB A) (b := i) (by omega) (by omega) (by rw [← a5]; exact h103)) (by omega)) (fun h103 => ?_)
    refine r_iload_n (i := 1) 107 dX0_isWhole_106 rfl rfl rfl ?_
    refine r_aload_n (i := 0) 108 dX0_isWhole_107 rfl rfl rfl ?_
    refine r_aload_n (i := 0) 109 dX0_isWhole_108 rfl rfl rfl ?_
    refine r_getf 112 dX0_isWhole_109 rfl fl_X0_27 rfl rfl ?_
    refine r_iload_n (i := 2) 113 dX0_isWhole_112 rfl rfl rfl ?_
    refine r_iald 114 dX0_isWhole_113 rfl rfl (by assumption) ?_
    rw [nI_clamp (by omega), c1]
    refine r_callVi [0, 1, 2, 3, 4, 5, 6, 7] 117 dX0_isWhole_114 rfl ykX0_hasThing lk_X0_59 (e_hasThing (nI (sC A i))) rfl rfl rfl rfl rfl rfl rfl ⟨Nat.le_refl _, Nat.le_refl _⟩ ?_
    refine r_if_eq 137 120 dX0_isWhole_117 rfl rfl (fun h117 => ?_) (fun h117 => ?_)
    · have g1 := bI_eq0 h117
      rw [a1, inb_nI' (by omega) (by omega)] at g1
      refine r_iconst (v := 0) 138 dX0_isWhole_137 rfl rfl ?_
      first | exact fin true (by rw [wh3, g1, g2]; rfl) | exact fin false (by rw [wh3, g1]; rfl) | exact fin false (by rw [wh3, g1, g2]; rfl)
    · have g1 := bI_ne0 h117
      rw [a1, inb_nI' (by omega) (by omega)] at g1
      refine r_aload_n (i := 0) 121 dX0_isWhole_120 rfl rfl rfl ?_
      refine r_aload_n (i := 0) 122 dX0_isWhole_121 rfl rfl rfl ?_
      refine r_getf 125 dX0_isWhole_122 rfl fl_X0_30 rfl rfl ?_
      refine r_iload_n (i := 2) 126 dX0_isWhole_125 rfl rfl rfl ?_
      refine r_iald 127 dX0_isWhole_126 rfl rfl (by assumption) ?_
      rw [nI_clamp (by omega), c2]
      refine r_callVi [0, 1, 2, 3, 4, 5, 6, 7] 130 dX0_isWhole_127 rfl ykX0_hasThing lk_X0_59 (e_hasThing (nI (sE A i))) rfl rfl rfl rfl rfl rfl rfl ⟨Nat.le_refl _, Nat.le_refl _⟩ ?_
      refine r_if_eq 137 133 dX0_isWhole_130 rfl rfl (fun h130 => ?_) (fun h130 => ?_)
      · have g2 := bI_eq0 h130
        rw [a1, inb_nI' (by omega) (by omega)] at g2
        refine r_iconst (v := 0) 138 dX0_isWhole_137 rfl rfl ?_
        first | exact fin true (by rw [wh3, g1, g2]; rfl) | exact fin false (by rw [wh3, g1]; rfl) | exact fin false (by rw [wh3, g1, g2]; rfl)
      · have g2 := bI_ne0 h130
        rw [a1, inb_nI' (by omega) (by omega)] at g2
        refine r_iconst (v := 1) 134 dX0_isWhole_133 rfl rfl ?_
        refine r_goto 138 dX0_isWhole_134 rfl ?_
        first | exact fin true (by rw [wh3, g1, g2]; rfl) | exact fin false (by rw [wh3, g1]; rfl) | exact fin false (by rw [wh3, g1, g2]; rfl)
theorem l_isWhole2 (h : fw F A) {x : Nat} (hx : fSt F = nI x) : ∀ (k i : Nat) (b : Bool), sG A - i = k → i ≤ sG A → mm_r (d + 2) mX0_isWhole (mm_q (some (.int (bI ((b && allb (wh2 A) (sG A)) && allb (wh3 A) (sB A))))) (wFl F)) 69 [some (.ref 0), some (.int (bI (b && allb (wh2 A) i))), some (.int (nI i))] [] (wFl F) := by
  intro k
  obtain ⟨a1, a2, a3, a4, a5, a6, a7, a8, a9, b1, b2, b3⟩ := id h
  induction k with
  | zero =>
    intro i b hk hi
    have e : i = sG A := by omega
    refine r_iload_n (i := 2) 70 dX0_isWhole_69 rfl rfl rfl ?_
    refine r_aload_n (i := 0) 71 dX0_isWhole_70 rfl rfl rfl ?_
    refine r_getf 74 dX0_isWhole_71 rfl fl_X0_40 rfl rfl ?_
    refine r_icmp_ge 96 77 dX0_isWhole_74 rfl rfl (fun h74 => ?_) (fun h74 => absurd (by rw [a3, e]; exact Int32.le_refl _) h74)
    refine r_iconst (v := 0) 97 dX0_isWhole_96 rfl rfl ?_
    refine r_istore_n (i := 2) 98 dX0_isWhole_97 rfl rfl rfl ?_
    have := l_isWhole3 (d := d) h hx _ 0 (b && allb (wh2 A) (sG A)) rfl (Nat.zero_le _)
    rw [e]
    refine r_eq this ?_ rfl rfl
    simp [mm_s1, mm_kl, allb, nI_0]
  | succ k ih =>
    intro i b hk hi
    have hi2 : i < sG A := by omega
    obtain ⟨c1, c2⟩ := a4 i hi2
    obtain ⟨c3, c4⟩ := b2 i hi2
    have hin : vp_in (nI i) 4 := vp_in_nI (by omega) (by decide)
    refine r_iload_n (i := 2) 70 dX0_isWhole_69 rfl rfl rfl ?_
    refine r_aload_n (i := 0) 71 dX0_isWhole_70 rfl rfl rfl ?_
    refine r_getf 74 dX0_isWhole_71 rfl fl_X0_40 rfl rfl ?_
    refine r_icmp_ge 96 77 dX0_isWhole_74 rfl rfl (fun h74 => absurd (ble_of (a := sG A) (b := i) (by omega) (by omega) (by rw [← a3]; exact h74)) (by omega)) (fun h74 => ?_)
    refine r_iload_n (i := 1) 78 dX0_isWhole_77 rfl rfl rfl ?_
    refine r_aload_n (i := 0) 79 dX0_isWhole_78 rfl rfl rfl ?_
    refine r_aload_n (i := 0) 80 dX0_isWhole_79 rfl rfl rfl ?_
    refine r_getf 83 dX0_isWhole_80 rfl fl_X0_21 rfl rfl ?_
    refine r_iload_n (i := 2) 84 dX0_isWhole_83 rfl rfl rfl ?_
    refine r_iald 85 dX0_isWhole_84 rfl rfl (by assumption) ?_
    rw [nI_clamp (by omega), c1]
    refine r_callVi [0, 1, 2, 3, 4, 5, 6, 7] 88 dX0_isWhole_85 rfl ykX0_hasThing lk_X0_59 (e_hasThing (nI (sU A i))) rfl rfl rfl rfl rfl rfl rfl ⟨Nat.le_refl _, Nat.le_refl _⟩ ?_
    refine r_iand 89 dX0_isWhole_88 rfl ?_
    rw [a1, inb_nI' (by omega) (by omega), bI_and, Bool.and_assoc b (allb (wh2 A) i), show (allb (wh2 A) i && decide (sU A i < sN A)) = allb (wh2 A) (i + 1) from rfl]
    refine r_istore_n (i := 1) 90 dX0_isWhole_89 rfl rfl rfl ?_
    refine r_iinc (i := 2) 93 dX0_isWhole_90 rfl rfl (by first | exact nI_1 _ | rfl) rfl ?_
    refine r_goto 69 dX0_isWhole_93 rfl ?_
    exact ih (i + 1) b (by omega) (by omega)
theorem l_isWhole1 (h : fw F A) {x : Nat} (hx : fSt F = nI x) : ∀ (k i : Nat) (b : Bool), sN A - i = k → i ≤ sN A → mm_r (d + 2) mX0_isWhole (mm_q (some (.int (bI (((b && allb (wh1 A) (sN A)) && allb (wh2 A) (sG A)) && allb (wh3 A) (sB A))))) (wFl F)) 19 [some (.ref 0), some (.int (bI (b && allb (wh1 A) i))), some (.int (nI i))] [] (wFl F) := by
  intro k
  obtain ⟨a1, a2, a3, a4, a5, a6, a7, a8, a9, b1, b2, b3⟩ := id h
  induction k with
  | zero =>
    intro i b hk hi
    have e : i = sN A := by omega
    refine r_iload_n (i := 2) 20 dX0_isWhole_19 rfl rfl rfl ?_
    refine r_aload_n (i := 0) 21 dX0_isWhole_20 rfl rfl rfl ?_
    refine r_getf 24 dX0_isWhole_21 rfl fl_X0_33 rfl rfl ?_
    refine r_icmp_ge 67 27 dX0_isWhole_24 rfl rfl (fun h24 => ?_) (fun h24 => absurd (by rw [a1, e]; exact Int32.le_refl _) h24)
    refine r_iconst (v := 0) 68 dX0_isWhole_67 rfl rfl ?_
    refine r_istore_n (i := 2) 69 dX0_isWhole_68 rfl rfl rfl ?_
    have := l_isWhole2 (d := d) h hx _ 0 (b && allb (wh1 A) (sN A)) rfl (Nat.zero_le _)
    rw [e]
    refine r_eq this ?_ rfl rfl
    simp [mm_s1, mm_kl, allb, nI_0]
  | succ k ih =>
    intro i b hk hi
    have hi2 : i < sN A := by omega
    obtain ⟨c0, c1, c2⟩ := a2 i hi2
    obtain ⟨c5, c3, c4⟩ := b1 i hi2
    have hin : vp_in (nI i) 6 := vp_in_nI (by omega) (by decide)
    have fin : ∀ (z : Bool), z = wh1 A i → mm_r (d + 2) mX0_isWhole (mm_q (some (.int (bI (((b && allb (wh1 A) (sN A)) && allb (wh2 A) (sG A)) && allb (wh3 A) (sB A))))) (wFl F)) 59 [some (.ref 0), some (.int (bI (b && allb (wh1 A) i))), some (.int (nI i))] [.int (bI z), .int (bI (b && allb (wh1 A) i))] (wFl F) := by
      intro z hz
      subst hz
      refine r_iand 60 dX0_isWhole_59 rfl ?_
      rw [bI_and, Bool.and_assoc b (allb (wh1 A) i), show (allb (wh1 A) i && wh1 A i) = allb (wh1 A) (i + 1) from rfl]
      refine r_istore_n (i := 1) 61 dX0_isWhole_60 rfl rfl rfl ?_
      refine r_iinc (i := 2) 64 dX0_isWhole_61 rfl rfl (by first | exact nI_1 _ | rfl) rfl ?_
      refine r_goto 19 dX0_isWhole_64 rfl ?_
      exact ih (i + 1) b (by omega) (by omega)
    refine r_iload_n (i := 2) 20 dX0_isWhole_19 rfl rfl rfl ?_
    refine r_aload_n (i := 0) 21 dX0_isWhole_20 rfl rfl rfl ?_
    refine r_getf 24 dX0_isWhole_21 rfl fl_X0_33 rfl rfl ?_
    refine r_icmp_ge 67 27 dX0_isWhole_24 rfl rfl (fun h24 => absurd (ble_of (a := sN A) (b := i) (by omega) (by omega) (by rw [← a1]; exact h24)) (by omega)) (fun h24 => ?_)
    refine r_iload_n (i := 1) 28 dX0_isWhole_27 rfl rfl rfl ?_
    refine r_aload_n (i := 0) 29 dX0_isWhole_28 rfl rfl rfl ?_
    refine r_aload_n (i := 0) 30 dX0_isWhole_29 rfl rfl rfl ?_
    refine r_getf 33 dX0_isWhole_30 rfl fl_X0_15 rfl rfl ?_
    refine r_iload_n (i := 2) 34 dX0_isWhole_33 rfl rfl rfl ?_
    refine r_iald 35 dX0_isWhole_34 rfl rfl (by assumption) ?_
    rw [nI_clamp (by omega), c1]
    refine r_callVi [0, 1, 2, 3, 4, 5, 6, 7] 38 dX0_isWhole_35 rfl ykX0_hasThing lk_X0_59 (e_hasThing (nI (sF A i))) rfl rfl rfl rfl rfl rfl rfl ⟨Nat.le_refl _, Nat.le_refl _⟩ ?_
    refine r_if_eq 58 41 dX0_isWhole_38 rfl rfl (fun h38 => ?_) (fun h38 => ?_)
    · have g1 := bI_eq0 h38
      rw [a1, inb_nI' (by omega) (by omega)] at g1
      refine r_iconst (v := 0) 59 dX0_isWhole_58 rfl rfl ?_
      first | exact fin true (by rw [wh1, g1, g2]; rfl) | exact fin false (by rw [wh1, g1]; rfl) | exact fin false (by rw [wh1, g1, g2]; rfl)
    · have g1 := bI_ne0 h38
      rw [a1, inb_nI' (by omega) (by omega)] at g1
      refine r_aload_n (i := 0) 42 dX0_isWhole_41 rfl rfl rfl ?_
      refine r_aload_n (i := 0) 43 dX0_isWhole_42 rfl rfl rfl ?_
      refine r_getf 46 dX0_isWhole_43 rfl fl_X0_18 rfl rfl ?_
      refine r_iload_n (i := 2) 47 dX0_isWhole_46 rfl rfl rfl ?_
      refine r_iald 48 dX0_isWhole_47 rfl rfl (by assumption) ?_
      rw [nI_clamp (by omega), c2]
      refine r_callVi [0, 1, 2, 3, 4, 5, 6, 7] 51 dX0_isWhole_48 rfl ykX0_hasThing lk_X0_59 (e_hasThing (nI (sS A i))) rfl rfl rfl rfl rfl rfl rfl ⟨Nat.le_refl _, Nat.le_refl _⟩ ?_
      refine r_if_eq 58 54 dX0_isWhole_51 rfl rfl (fun h51 => ?_) (fun h51 => ?_)
      · have g2 := bI_eq0 h51
        rw [a1, inb_nI' (by omega) (by omega)] at g2
        refine r_iconst (v := 0) 59 dX0_isWhole_58 rfl rfl ?_
        first | exact fin true (by rw [wh1, g1, g2]; rfl) | exact fin false (by rw [wh1, g1]; rfl) | exact fin false (by rw [wh1, g1, g2]; rfl)
      · have g2 := bI_ne0 h51
        rw [a1, inb_nI' (by omega) (by omega)] at g2
        refine r_iconst (v := 1) 55 dX0_isWhole_54 rfl rfl ?_
        refine r_goto 59 dX0_isWhole_55 rfl ?_
        first | exact fin true (by rw [wh1, g1, g2]; rfl) | exact fin false (by rw [wh1, g1]; rfl) | exact fin false (by rw [wh1, g1, g2]; rfl)
theorem e_isWhole (h : fw F A) {x : Nat} (hx : fSt F = nI x) (hx2 : x < 2 ^ 31) : mm_e (d + 2) yX0_isWhole mX0_isWhole [.ref 0] (wFl F) (mm_q (some (.int (bI (whl A x)))) (wFl F)) := by
  obtain ⟨a1, a2, a3, a4, a5, a6, a7, a8, a9, b1, b2, b3⟩ := id h
  have p6 := p2_le a7
  have fin : ∀ (z : Bool), z = decide (x < 2 ^ sN A) → mm_r (d + 2) mX0_isWhole (mm_q (some (.int (bI (whl A x)))) (wFl F)) 16 [some (.ref 0), none, none] [.int (bI z)] (wFl F) := by
    intro z hz
    subst hz
    refine r_istore_n (i := 1) 17 dX0_isWhole_16 rfl rfl rfl ?_
    refine r_iconst (v := 0) 18 dX0_isWhole_17 rfl rfl ?_
    refine r_istore_n (i := 2) 19 dX0_isWhole_18 rfl rfl rfl ?_
    have := l_isWhole1 (d := d) h hx _ 0 (decide (x < 2 ^ sN A)) rfl (Nat.zero_le _)
    refine r_eq this ?_ rfl rfl
    simp [mm_s1, mm_kl, allb, nI_0]
  refine e_of [some (.ref 0), none, none] rfl (by decide) rfl rfl rfl ?_
  refine r_aload_n (i := 0) 1 dX0_isWhole_0 rfl rfl rfl ?_
  refine r_getf 4 dX0_isWhole_1 rfl fl_X0_37 rfl rfl ?_
  rw [hx]
  refine r_aload_n (i := 0) 5 dX0_isWhole_4 rfl rfl rfl ?_
  refine r_callVi [0, 1, 2, 3, 4, 5, 6, 7] 8 dX0_isWhole_5 rfl ykX0_states lk_X0_55 (e_states a1 a7) rfl rfl rfl rfl rfl rfl rfl ⟨Nat.le_refl _, Nat.le_refl _⟩ ?_
  refine r_icmp_ge 15 11 dX0_isWhole_8 rfl rfl (fun h8 => ?_) (fun h8 => ?_)
  · have g := ble_of (by omega) (by omega) h8
    refine r_iconst (v := 0) 16 dX0_isWhole_15 rfl rfl ?_
    first | exact fin true (by simp [g]) | exact fin false (by simp; omega)
  · have g := bnle_of (by omega) (by omega) h8
    refine r_iconst (v := 1) 12 dX0_isWhole_11 rfl rfl ?_
    refine r_goto 16 dX0_isWhole_12 rfl ?_
    first | exact fin true (by simp [g]) | exact fin false (by simp; omega)
def mbc (n what v : Int32) : Bool := if what = 0 then decide (¬ v < 0) && decide (¬ 4 < v) else if what = 3 then decide (v = 0 ∨ v = 1) else inb n v
theorem e_mayBecome (what v : Int32) : mm_e (d + 2) yX0_mayBecome mX0_mayBecome [.ref 0, .int what, .int v] (wFl F) (mm_q (some (.int (bI (mbc (fTh F) what v)))) (wFl F)) := by
  refine e_of [some (.ref 0), some (.int what), some (.int v)] rfl (by decide) rfl rfl rfl ?_
  refine r_iload_n (i := 1) 1 dX0_mayBecome_0 rfl rfl rfl ?_
  refine r_if_ne 19 4 dX0_mayBecome_1 rfl rfl (fun h1 => ?_) (fun h1 => ?_)
  · refine r_iload_n (i := 1) 20 dX0_mayBecome_19 rfl rfl rfl ?_
    refine r_iconst (v := 3) 21 dX0_mayBecome_20 rfl rfl ?_
    refine r_icmp_ne 31 24 dX0_mayBecome_21 rfl rfl (fun h21 => ?_) (fun h21 => ?_)
    · refine r_aload_n (i := 0) 32 dX0_mayBecome_31 rfl rfl rfl ?_
      refine r_iload_n (i := 2) 33 dX0_mayBecome_32 rfl rfl rfl ?_
      refine r_callVi [0, 1, 2, 3, 4, 5, 6, 7] 36 dX0_mayBecome_33 rfl ykX0_hasThing lk_X0_59 (e_hasThing v) rfl rfl rfl rfl rfl rfl rfl ⟨Nat.le_refl _, Nat.le_refl _⟩ ?_
      exact r_reti dX0_mayBecome_36 rfl (by first | rfl | exact bI_nar _) ⟨Nat.le_refl _, Nat.le_refl _⟩ (fun _ => rfl) (⟨by simp_all [mbc, bI], rfl⟩)
    · refine r_iload_n (i := 2) 25 dX0_mayBecome_24 rfl rfl rfl ?_
      refine r_callSi [] 28 dX0_mayBecome_25 rfl ykX7_isBit lk_X0_63 (e_isBit v) rfl rfl rfl ⟨Nat.le_refl _, Nat.le_refl _⟩ ?_
      refine r_goto 36 dX0_mayBecome_28 rfl ?_
      exact r_reti dX0_mayBecome_36 rfl (by first | rfl | exact bI_nar _) ⟨Nat.le_refl _, Nat.le_refl _⟩ (fun _ => rfl) (⟨by simp_all [mbc, bI], rfl⟩)
  · refine r_iload_n (i := 2) 5 dX0_mayBecome_4 rfl rfl rfl ?_
    refine r_if_lt 17 8 dX0_mayBecome_5 rfl rfl (fun h5 => ?_) (fun h5 => ?_)
    · refine r_iconst (v := 0) 18 dX0_mayBecome_17 rfl rfl ?_
      exact r_reti dX0_mayBecome_18 rfl (by first | rfl | exact bI_nar _) ⟨Nat.le_refl _, Nat.le_refl _⟩ (fun _ => rfl) (⟨by simp_all [mbc, bI], rfl⟩)
    · refine r_iload_n (i := 2) 9 dX0_mayBecome_8 rfl rfl rfl ?_
      refine r_iconst (v := 4) 10 dX0_mayBecome_9 rfl rfl ?_
      refine r_icmp_gt 17 13 dX0_mayBecome_10 rfl rfl (fun h10 => ?_) (fun h10 => ?_)
      · refine r_iconst (v := 0) 18 dX0_mayBecome_17 rfl rfl ?_
        exact r_reti dX0_mayBecome_18 rfl (by first | rfl | exact bI_nar _) ⟨Nat.le_refl _, Nat.le_refl _⟩ (fun _ => rfl) (⟨by simp_all [mbc, bI], rfl⟩)
      · refine r_iconst (v := 1) 14 dX0_mayBecome_13 rfl rfl ?_
        refine r_goto 18 dX0_mayBecome_14 rfl ?_
        exact r_reti dX0_mayBecome_18 rfl (by first | rfl | exact bI_nar _) ⟨Nat.le_refl _, Nat.le_refl _⟩ (fun _ => rfl) (⟨by simp_all [mbc, bI], rfl⟩)
def fTng (F : FlT) (n : Nat) (k f s : Int32) : FlT := (nI (n + 1), upd (fKd F) n k, upd (fFi F) n f, upd (fSe F) n s, fSt F, fGu F, fUn F, fPr F, fBn F, fB1 F, fB2 F, fYr F)
theorem e_addThing {n : Nat} (h : fTh F = nI n) (hn : n < 6) (k f s : Int32) : mm_e (d + 1) yX0_addThing mX0_addThing [.ref 0, .int k, .int f, .int s] (wFl F) (mm_q none (wFl (fTng F n k f s))) := by
  have hin : vp_in (fTh F) 6 := by rw [h]; exact vp_in_nI hn (by decide)
  have ec : (fTh F).toNatClampNeg = n := by rw [h]; exact nI_clamp (by omega)
  have e1 : fTh F + 1 = nI (n + 1) := by rw [h]; exact nI_1 n
  refine e_of [some (.ref 0), some (.int k), some (.int f), some (.int s)] rfl (by decide) rfl rfl rfl ?_
  refine r_aload_n (i := 0) 1 dX0_addThing_0 rfl rfl rfl ?_
  refine r_getf 4 dX0_addThing_1 rfl fl_X0_33 rfl rfl ?_
  refine r_bipush (v := 6) 6 dX0_addThing_4 rfl rfl ?_
  refine r_icmp_ge 49 9 dX0_addThing_6 rfl rfl (fun h6 => absurd (ble_of (a := 6) (b := n) (by decide) (by omega) (by rw [← h]; exact h6)) (by omega)) (fun h6 => ?_)
  refine r_aload_n (i := 0) 10 dX0_addThing_9 rfl rfl rfl ?_
  refine r_getf 13 dX0_addThing_10 rfl fl_X0_9 rfl rfl ?_
  refine r_aload_n (i := 0) 14 dX0_addThing_13 rfl rfl rfl ?_
  refine r_getf 17 dX0_addThing_14 rfl fl_X0_33 rfl rfl ?_
  refine r_iload_n (i := 1) 18 dX0_addThing_17 rfl rfl rfl ?_
  refine r_iast 19 dX0_addThing_18 rfl rfl (by assumption) ?_
  refine r_aload_n (i := 0) 20 dX0_addThing_19 rfl rfl rfl ?_
  refine r_getf 23 dX0_addThing_20 rfl fl_X0_15 rfl rfl ?_
  refine r_aload_n (i := 0) 24 dX0_addThing_23 rfl rfl rfl ?_
  refine r_getf 27 dX0_addThing_24 rfl fl_X0_33 rfl rfl ?_
  refine r_iload_n (i := 2) 28 dX0_addThing_27 rfl rfl rfl ?_
  refine r_iast 29 dX0_addThing_28 rfl rfl (by assumption) ?_
  refine r_aload_n (i := 0) 30 dX0_addThing_29 rfl rfl rfl ?_
  refine r_getf 33 dX0_addThing_30 rfl fl_X0_18 rfl rfl ?_
  refine r_aload_n (i := 0) 34 dX0_addThing_33 rfl rfl rfl ?_
  refine r_getf 37 dX0_addThing_34 rfl fl_X0_33 rfl rfl ?_
  refine r_iload_n (i := 3) 38 dX0_addThing_37 rfl rfl rfl ?_
  refine r_iast 39 dX0_addThing_38 rfl rfl (by assumption) ?_
  refine r_aload_n (i := 0) 40 dX0_addThing_39 rfl rfl rfl ?_
  refine r_dup 41 dX0_addThing_40 rfl rfl ?_
  refine r_getf 44 dX0_addThing_41 rfl fl_X0_33 rfl rfl ?_
  refine r_iconst (v := 1) 45 dX0_addThing_44 rfl rfl ?_
  refine r_iadd 46 dX0_addThing_45 rfl ?_
  refine r_putf 49 dX0_addThing_46 rfl fl_X0_33 rfl rfl (fun _ _ => ⟨rfl, rfl⟩) (fun z => absurd z Bool.false_ne_true) ?_
  exact r_retv dX0_addThing_49 rfl ⟨Nat.le_refl _, Nat.le_refl _⟩ (fun _ => rfl) (⟨rfl, by rw [ec, e1]; rfl⟩)
def fGst (F : FlT) (n : Nat) (f p : Int32) : FlT := (fTh F, fKd F, fFi F, fSe F, fSt F, nI (n + 1), upd (fUn F) n f, upd (fPr F) n p, fBn F, fB1 F, fB2 F, fYr F)
theorem e_addGuest {n : Nat} (h : fGu F = nI n) (hn : n < 4) (f p : Int32) : mm_e (d + 1) yX0_addGuest mX0_addGuest [.ref 0, .int f, .int p] (wFl F) (mm_q none (wFl (fGst F n f p))) := by
  have hin : vp_in (fGu F) 4 := by rw [h]; exact vp_in_nI hn (by decide)
  have ec : (fGu F).toNatClampNeg = n := by rw [h]; exact nI_clamp (by omega)
  have e1 : fGu F + 1 = nI (n + 1) := by rw [h]; exact nI_1 n
  refine e_of [some (.ref 0), some (.int f), some (.int p)] rfl (by decide) rfl rfl rfl ?_
  refine r_aload_n (i := 0) 1 dX0_addGuest_0 rfl rfl rfl ?_
  refine r_getf 4 dX0_addGuest_1 rfl fl_X0_40 rfl rfl ?_
  refine r_iconst (v := 4) 5 dX0_addGuest_4 rfl rfl ?_
  refine r_icmp_ge 38 8 dX0_addGuest_5 rfl rfl (fun h5 => absurd (ble_of (a := 4) (b := n) (by decide) (by omega) (by rw [← h]; exact h5)) (by omega)) (fun h5 => ?_)
  refine r_aload_n (i := 0) 9 dX0_addGuest_8 rfl rfl rfl ?_
  refine r_getf 12 dX0_addGuest_9 rfl fl_X0_21 rfl rfl ?_
  refine r_aload_n (i := 0) 13 dX0_addGuest_12 rfl rfl rfl ?_
  refine r_getf 16 dX0_addGuest_13 rfl fl_X0_40 rfl rfl ?_
  refine r_iload_n (i := 1) 17 dX0_addGuest_16 rfl rfl rfl ?_
  refine r_iast 18 dX0_addGuest_17 rfl rfl (by assumption) ?_
  refine r_aload_n (i := 0) 19 dX0_addGuest_18 rfl rfl rfl ?_
  refine r_getf 22 dX0_addGuest_19 rfl fl_X0_24 rfl rfl ?_
  refine r_aload_n (i := 0) 23 dX0_addGuest_22 rfl rfl rfl ?_
  refine r_getf 26 dX0_addGuest_23 rfl fl_X0_40 rfl rfl ?_
  refine r_iload_n (i := 2) 27 dX0_addGuest_26 rfl rfl rfl ?_
  refine r_iast 28 dX0_addGuest_27 rfl rfl (by assumption) ?_
  refine r_aload_n (i := 0) 29 dX0_addGuest_28 rfl rfl rfl ?_
  refine r_dup 30 dX0_addGuest_29 rfl rfl ?_
  refine r_getf 33 dX0_addGuest_30 rfl fl_X0_40 rfl rfl ?_
  refine r_iconst (v := 1) 34 dX0_addGuest_33 rfl rfl ?_
  refine r_iadd 35 dX0_addGuest_34 rfl ?_
  refine r_putf 38 dX0_addGuest_35 rfl fl_X0_40 rfl rfl (fun _ _ => ⟨rfl, rfl⟩) (fun z => absurd z Bool.false_ne_true) ?_
  exact r_retv dX0_addGuest_38 rfl ⟨Nat.le_refl _, Nat.le_refl _⟩ (fun _ => rfl) (⟨rfl, by rw [ec, e1]; rfl⟩)
def fBan (F : FlT) (n : Nat) (f g : Int32) : FlT := (fTh F, fKd F, fFi F, fSe F, fSt F, fGu F, fUn F, fPr F, nI (n + 1), upd (fB1 F) n f, upd (fB2 F) n g, fYr F)
theorem e_addBan {n : Nat} (h : fBn F = nI n) (hn : n < 4) (f g : Int32) : mm_e (d + 1) yX0_addBan mX0_addBan [.ref 0, .int f, .int g] (wFl F) (mm_q none (wFl (fBan F n f g))) := by
  have hin : vp_in (fBn F) 4 := by rw [h]; exact vp_in_nI hn (by decide)
  have ec : (fBn F).toNatClampNeg = n := by rw [h]; exact nI_clamp (by omega)
  have e1 : fBn F + 1 = nI (n + 1) := by rw [h]; exact nI_1 n
  refine e_of [some (.ref 0), some (.int f), some (.int g)] rfl (by decide) rfl rfl rfl ?_
  refine r_aload_n (i := 0) 1 dX0_addBan_0 rfl rfl rfl ?_
  refine r_getf 4 dX0_addBan_1 rfl fl_X0_43 rfl rfl ?_
  refine r_iconst (v := 4) 5 dX0_addBan_4 rfl rfl ?_
  refine r_icmp_ge 38 8 dX0_addBan_5 rfl rfl (fun h5 => absurd (ble_of (a := 4) (b := n) (by decide) (by omega) (by rw [← h]; exact h5)) (by omega)) (fun h5 => ?_)
  refine r_aload_n (i := 0) 9 dX0_addBan_8 rfl rfl rfl ?_
  refine r_getf 12 dX0_addBan_9 rfl fl_X0_27 rfl rfl ?_
  refine r_aload_n (i := 0) 13 dX0_addBan_12 rfl rfl rfl ?_
  refine r_getf 16 dX0_addBan_13 rfl fl_X0_43 rfl rfl ?_
  refine r_iload_n (i := 1) 17 dX0_addBan_16 rfl rfl rfl ?_
  refine r_iast 18 dX0_addBan_17 rfl rfl (by assumption) ?_
  refine r_aload_n (i := 0) 19 dX0_addBan_18 rfl rfl rfl ?_
  refine r_getf 22 dX0_addBan_19 rfl fl_X0_30 rfl rfl ?_
  refine r_aload_n (i := 0) 23 dX0_addBan_22 rfl rfl rfl ?_
  refine r_getf 26 dX0_addBan_23 rfl fl_X0_43 rfl rfl ?_
  refine r_iload_n (i := 2) 27 dX0_addBan_26 rfl rfl rfl ?_
  refine r_iast 28 dX0_addBan_27 rfl rfl (by assumption) ?_
  refine r_aload_n (i := 0) 29 dX0_addBan_28 rfl rfl rfl ?_
  refine r_dup 30 dX0_addBan_29 rfl rfl ?_
  refine r_getf 33 dX0_addBan_30 rfl fl_X0_43 rfl rfl ?_
  refine r_iconst (v := 1) 34 dX0_addBan_33 rfl rfl ?_
  refine r_iadd 35 dX0_addBan_34 rfl ?_
  refine r_putf 38 dX0_addBan_35 rfl fl_X0_43 rfl rfl (fun _ _ => ⟨rfl, rfl⟩) (fun z => absurd z Bool.false_ne_true) ?_
  exact r_retv dX0_addBan_38 rfl ⟨Nat.le_refl _, Nat.le_refl _⟩ (fun _ => rfl) (⟨rfl, by rw [ec, e1]; rfl⟩)
/-- the list without its b-th, i done -/
def drp (f : Nat → Int32) (b i : Nat) : Nat → Int32 := fun k => if b ≤ k ∧ k < i then f (k + 1) else f k
theorem drp_0 (f : Nat → Int32) (b : Nat) : drp f b b = f := by funext k; simp only [drp]; rw [if_neg (by omega)]
theorem drp_s (f : Nat → Int32) {b i : Nat} (h : b ≤ i) : upd (drp f b i) i (drp f b i (i + 1)) = drp f b (i + 1) := by
  funext k
  simp only [upd, drp]
  by_cases hk : k = i
  · subst hk
    rw [if_pos rfl, if_neg (by omega), if_pos (by omega)]
  · rw [if_neg hk]
    by_cases h2 : b ≤ k ∧ k < i
    · rw [if_pos h2, if_pos (by omega)]
    · rw [if_neg h2, if_neg (by omega)]
def fDrp (F : FlT) (b n i : Nat) : FlT := (fTh F, fKd F, fFi F, fSe F, fSt F, fGu F, fUn F, fPr F, nI n, drp (fB1 F) b i, drp (fB2 F) b i, fYr F)
theorem l_dropBan {b n : Nat} (hb : b < n) (hn : n ≤ 4) : ∀ (k i : Nat), n - 1 - i = k → b ≤ i → i ≤ n - 1 → mm_r (d + 1) mX0_dropBan (mm_q none (wFl (fDrp F b (n - 1) (n - 1)))) 2 [some (.ref 0), some (.int (nI b)), some (.int (nI i))] [] (wFl (fDrp F b n i)) := by
  intro k
  induction k with
  | zero =>
    intro i hk hi hi2
    have e : i = n - 1 := by omega
    have e1 : nI n - 1 = nI (n - 1) := by rw [show (1 : Int32) = nI 1 from rfl, pk_sub (by omega)]
    refine r_iload_n (i := 2) 3 dX0_dropBan_2 rfl rfl rfl ?_
    refine r_iconst (v := 1) 4 dX0_dropBan_3 rfl rfl ?_
    refine r_iadd 5 dX0_dropBan_4 rfl ?_
    refine r_aload_n (i := 0) 6 dX0_dropBan_5 rfl rfl rfl ?_
    refine r_getf 9 dX0_dropBan_6 rfl fl_X0_43 rfl rfl ?_
    refine r_icmp_ge 46 12 dX0_dropBan_9 rfl rfl (fun h9 => ?_) (fun h9 => absurd (show nI n ≤ nI i + 1 from by rw [nI_1]; exact nI_le (by omega) (by omega)) h9)
    refine r_aload_n (i := 0) 47 dX0_dropBan_46 rfl rfl rfl ?_
    refine r_dup 48 dX0_dropBan_47 rfl rfl ?_
    refine r_getf 51 dX0_dropBan_48 rfl fl_X0_43 rfl rfl ?_
    refine r_iconst (v := 1) 52 dX0_dropBan_51 rfl rfl ?_
    refine r_isub 53 dX0_dropBan_52 rfl ?_
    refine r_putf 56 dX0_dropBan_53 rfl fl_X0_43 rfl rfl (fun _ _ => ⟨rfl, rfl⟩) (fun z => absurd z Bool.false_ne_true) ?_
    exact r_retv dX0_dropBan_56 rfl ⟨Nat.le_refl _, Nat.le_refl _⟩ (fun _ => rfl) (⟨rfl, by rw [e]; show wFl (_, _, _, _, _, _, _, _, nI n - 1, _, _, _) = _; rw [e1]; rfl⟩)
  | succ k ih =>
    intro i hk hi hi2
    have hin : vp_in (nI i) 4 := vp_in_nI (by omega) (by decide)
    have hin2 : vp_in (nI (i + 1)) 4 := vp_in_nI (by omega) (by decide)
    refine r_iload_n (i := 2) 3 dX0_dropBan_2 rfl rfl rfl ?_
    refine r_iconst (v := 1) 4 dX0_dropBan_3 rfl rfl ?_
    refine r_iadd 5 dX0_dropBan_4 rfl ?_
    refine r_aload_n (i := 0) 6 dX0_dropBan_5 rfl rfl rfl ?_
    refine r_getf 9 dX0_dropBan_6 rfl fl_X0_43 rfl rfl ?_
    refine r_icmp_ge 46 12 dX0_dropBan_9 rfl rfl (fun h9 => ?_) (fun h9 => ?_)
    · have h9 : nI n ≤ nI i + 1 := h9
      rw [nI_1] at h9
      exact absurd (ble_of (by omega) (by omega) h9) (by omega)
    · refine r_aload_n (i := 0) 13 dX0_dropBan_12 rfl rfl rfl ?_
      refine r_getf 16 dX0_dropBan_13 rfl fl_X0_27 rfl rfl ?_
      refine r_iload_n (i := 2) 17 dX0_dropBan_16 rfl rfl rfl ?_
      refine r_aload_n (i := 0) 18 dX0_dropBan_17 rfl rfl rfl ?_
      refine r_getf 21 dX0_dropBan_18 rfl fl_X0_27 rfl rfl ?_
      refine r_iload_n (i := 2) 22 dX0_dropBan_21 rfl rfl rfl ?_
      refine r_iconst (v := 1) 23 dX0_dropBan_22 rfl rfl ?_
      refine r_iadd 24 dX0_dropBan_23 rfl ?_
      rw [nI_1]
      refine r_iald 25 dX0_dropBan_24 rfl rfl (by assumption) ?_
      rw [nI_clamp (n := i + 1) (by omega)]
      refine r_iast 26 dX0_dropBan_25 rfl rfl (by assumption) ?_
      refine r_aload_n (i := 0) 27 dX0_dropBan_26 rfl rfl rfl ?_
      refine r_getf 30 dX0_dropBan_27 rfl fl_X0_30 rfl rfl ?_
      refine r_iload_n (i := 2) 31 dX0_dropBan_30 rfl rfl rfl ?_
      refine r_aload_n (i := 0) 32 dX0_dropBan_31 rfl rfl rfl ?_
      refine r_getf 35 dX0_dropBan_32 rfl fl_X0_30 rfl rfl ?_
      refine r_iload_n (i := 2) 36 dX0_dropBan_35 rfl rfl rfl ?_
      refine r_iconst (v := 1) 37 dX0_dropBan_36 rfl rfl ?_
      refine r_iadd 38 dX0_dropBan_37 rfl ?_
      rw [nI_1]
      refine r_iald 39 dX0_dropBan_38 rfl rfl (by assumption) ?_
      rw [nI_clamp (n := i + 1) (by omega)]
      refine r_iast 40 dX0_dropBan_39 rfl rfl (by assumption) ?_
      refine r_iinc (i := 2) 43 dX0_dropBan_40 rfl rfl (by first | exact nI_1 _ | rfl) rfl ?_
      refine r_goto 2 dX0_dropBan_43 rfl ?_
      refine r_eq (ih (i + 1) (by omega) (by omega) (by omega)) rfl rfl ?_
      have e1 := drp_s (fB1 F) hi
      have e2 := drp_s (fB2 F) hi
      rw [nI_clamp (n := i) (by omega)]
      show wFl (_, _, _, _, _, _, _, _, _, upd (drp (fB1 F) b i) i (drp (fB1 F) b i (i + 1)), upd (drp (fB2 F) b i) i (drp (fB2 F) b i (i + 1)), _) = _
      rw [e1, e2]
      rfl
theorem e_dropBan {b n : Nat} (h : fBn F = nI n) (hb : b < n) (hn : n ≤ 4) : mm_e (d + 1) yX0_dropBan mX0_dropBan [.ref 0, .int (nI b)] (wFl F) (mm_q none (wFl (fDrp F b (n - 1) (n - 1)))) := by
  refine e_of [some (.ref 0), some (.int (nI b)), none] rfl (by decide) rfl rfl rfl ?_
  refine r_iload_n (i := 1) 1 dX0_dropBan_0 rfl rfl rfl ?_
  refine r_istore_n (i := 2) 2 dX0_dropBan_1 rfl rfl rfl ?_
  refine r_eq (l_dropBan hb hn _ b rfl (Nat.le_refl _) (by omega)) rfl rfl ?_
  show _ = wFl (_, _, _, _, _, _, _, _, nI n, drp (fB1 F) b b, drp (fB2 F) b b, _)
  rw [drp_0, drp_0, ← h]
end X0c
