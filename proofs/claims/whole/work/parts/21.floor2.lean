section X0b
variable {d : Nat} {F : FlT} {A : sA}
theorem fok.n6 (h : fok F A) : sN A ≤ 6 := h.2.2.2.2.2.2.1
theorem fok.at (h : fok F A) {i : Nat} (hi : i < sN A) : fKd F i = nI (sK A i) ∧ fFi F i = nI (sF A i) ∧ fSe F i = nI (sS A i) ∧ sK A i ≤ 4 ∧ sF A i < sN A ∧ sS A i < sN A := by
  obtain ⟨h1, h2, h3⟩ := h.2.1 i hi
  obtain ⟨g1, g2, g3⟩ := h.2.2.2.2.2.2.2.1 i hi
  exact ⟨h1, h2, h3, g1, g2, g3⟩
theorem fok.g4 (h : fok F A) : sG A ≤ 4 := h.2.2.2.2.2.2.2.2.1
theorem fok.gat (h : fok F A) {i : Nat} (hi : i < sG A) : fUn F i = nI (sU A i) ∧ fPr F i = nI (sP A i) ∧ sU A i < sN A ∧ sP A i ≤ 9 := by
  obtain ⟨h1, h2⟩ := h.2.2.2.1 i hi
  obtain ⟨g1, g2⟩ := h.2.2.2.2.2.2.2.2.2.1 i hi
  exact ⟨h1, h2, g1, g2⟩
theorem fok.b4 (h : fok F A) : sB A ≤ 4 := h.2.2.2.2.2.2.2.2.2.2.1
theorem fok.bat (h : fok F A) {i : Nat} (hi : i < sB A) : fB1 F i = nI (sC A i) ∧ fB2 F i = nI (sE A i) ∧ sC A i < sN A ∧ sE A i < sN A := by
  obtain ⟨h1, h2⟩ := h.2.2.2.2.2.1 i hi
  obtain ⟨g1, g2⟩ := h.2.2.2.2.2.2.2.2.2.2.2 i hi
  exact ⟨h1, h2, g1, g2⟩
theorem fok.th (h : fok F A) : fTh F = nI (sN A) := h.1
theorem fok.gu (h : fok F A) : fGu F = nI (sG A) := h.2.2.1
theorem fok.bn (h : fok F A) : fBn F = nI (sB A) := h.2.2.2.2.1
theorem e_soAfter (h : fok F A) {i x : Nat} (hi : i < sN A) (hx : x < 2 ^ 31) : mm_e (d + 1) yX0_soAfter mX0_soAfter [.ref 0, .int (nI i), .int (nI x)] (wFl F) (mm_q (some (.int (nI (nb A x i)))) (wFl F)) := by
  have h6 := h.n6
  obtain ⟨k1, k2, k3, k4, k5, k6⟩ := h.at hi
  have hin : vp_in (nI i) 6 := vp_in_nI (by omega) (by decide)
  refine e_of [some (.ref 0), some (.int (nI i)), some (.int (nI x)), none, none] rfl (by decide) rfl rfl rfl ?_
  refine r_iload_n (i := 2) 1 dX0_soAfter_0 rfl rfl rfl ?_
  refine r_aload_n (i := 0) 2 dX0_soAfter_1 rfl rfl rfl ?_
  refine r_getf 5 dX0_soAfter_2 rfl fl_X0_15 rfl rfl ?_
  refine r_iload_n (i := 1) 6 dX0_soAfter_5 rfl rfl rfl ?_
  refine r_iald 7 dX0_soAfter_6 rfl rfl (by assumption) ?_
  rw [nI_clamp (by omega), k2]
  refine r_ishr 8 dX0_soAfter_7 rfl ?_
  refine r_iconst (v := 1) 9 dX0_soAfter_8 rfl rfl ?_
  refine r_iand 10 dX0_soAfter_9 rfl ?_
  rw [n_bit hx (by omega)]
  refine r_istore_n (i := 3) 11 dX0_soAfter_10 rfl rfl rfl ?_
  refine r_iload_n (i := 2) 12 dX0_soAfter_11 rfl rfl rfl ?_
  refine r_aload_n (i := 0) 13 dX0_soAfter_12 rfl rfl rfl ?_
  refine r_getf 16 dX0_soAfter_13 rfl fl_X0_18 rfl rfl ?_
  refine r_iload_n (i := 1) 17 dX0_soAfter_16 rfl rfl rfl ?_
  refine r_iald 18 dX0_soAfter_17 rfl rfl (by assumption) ?_
  rw [nI_clamp (by omega), k3]
  refine r_ishr 19 dX0_soAfter_18 rfl ?_
  refine r_iconst (v := 1) 20 dX0_soAfter_19 rfl rfl ?_
  refine r_iand 21 dX0_soAfter_20 rfl ?_
  rw [n_bit hx (by omega)]
  refine r_istore (i := 4) 23 dX0_soAfter_21 rfl rfl ?_
  refine r_aload_n (i := 0) 24 dX0_soAfter_23 rfl rfl rfl ?_
  refine r_getf 27 dX0_soAfter_24 rfl fl_X0_9 rfl rfl ?_
  refine r_iload_n (i := 1) 28 dX0_soAfter_27 rfl rfl rfl ?_
  refine r_iald 29 dX0_soAfter_28 rfl rfl (by assumption) ?_
  rw [nI_clamp (by omega), k1]
  have e : ∀ {a : Nat}, a ≤ 1 → (1 : Int32) - nI a = nI (1 - a) := fun {a} ha => by rw [show (1 : Int32) = nI 1 from rfl, pk_sub ha]
  rcases (by omega : sK A i = 0 ∨ sK A i = 1 ∨ sK A i = 2 ∨ sK A i = 3 ∨ sK A i = 4) with q | q | q | q | q
  · rw [q]
    refine r_tabOut 78 dX0_soAfter_29 (by decide) rfl ?_
    refine r_iload_n (i := 2) 79 dX0_soAfter_78 rfl rfl rfl ?_
    refine r_iload_n (i := 1) 80 dX0_soAfter_79 rfl rfl rfl ?_
    refine r_ishr 81 dX0_soAfter_80 rfl ?_
    refine r_iconst (v := 1) 82 dX0_soAfter_81 rfl rfl ?_
    refine r_iand 83 dX0_soAfter_82 rfl ?_
    exact r_reti dX0_soAfter_83 rfl (by first | rfl | exact bI_nar _) ⟨Nat.le_refl _, Nat.le_refl _⟩ (fun _ => rfl) (⟨by rw [n_bit hx (by omega)]; simp only [nb, q], rfl⟩)
  · rw [q]
    refine r_tabIn 60 dX0_soAfter_29 (by decide) (by decide) rfl rfl ?_
    refine r_iload_n (i := 3) 61 dX0_soAfter_60 rfl rfl rfl ?_
    exact r_reti dX0_soAfter_61 rfl (by first | rfl | exact bI_nar _) ⟨Nat.le_refl _, Nat.le_refl _⟩ (fun _ => rfl) (⟨by simp only [nb, q], rfl⟩)
  · rw [q]
    refine r_tabIn 62 dX0_soAfter_29 (by decide) (by decide) rfl rfl ?_
    refine r_iconst (v := 1) 63 dX0_soAfter_62 rfl rfl ?_
    refine r_iload_n (i := 3) 64 dX0_soAfter_63 rfl rfl rfl ?_
    refine r_isub 65 dX0_soAfter_64 rfl ?_
    exact r_reti dX0_soAfter_65 rfl (by first | rfl | exact bI_nar _) ⟨Nat.le_refl _, Nat.le_refl _⟩ (fun _ => rfl) (⟨by rw [e (tb_le _ _)]; simp only [nb, q], rfl⟩)
  · rw [q]
    refine r_tabIn 66 dX0_soAfter_29 (by decide) (by decide) rfl rfl ?_
    refine r_iload_n (i := 3) 67 dX0_soAfter_66 rfl rfl rfl ?_
    refine r_iconst (v := 1) 68 dX0_soAfter_67 rfl rfl ?_
    refine r_iload (i := 4) 70 dX0_soAfter_68 rfl rfl ?_
    refine r_isub 71 dX0_soAfter_70 rfl ?_
    refine r_iand 72 dX0_soAfter_71 rfl ?_
    exact r_reti dX0_soAfter_72 rfl (by first | rfl | exact bI_nar _) ⟨Nat.le_refl _, Nat.le_refl _⟩ (fun _ => rfl) (⟨by rw [e (tb_le _ _), fa_and]; simp only [nb, q], rfl⟩)
  · rw [q]
    refine r_tabIn 73 dX0_soAfter_29 (by decide) (by decide) rfl rfl ?_
    refine r_iload_n (i := 3) 74 dX0_soAfter_73 rfl rfl rfl ?_
    refine r_iload (i := 4) 76 dX0_soAfter_74 rfl rfl ?_
    refine r_ior 77 dX0_soAfter_76 rfl ?_
    exact r_reti dX0_soAfter_77 rfl (by first | rfl | exact bI_nar _) ⟨Nat.le_refl _, Nat.le_refl _⟩ (fun _ => rfl) (⟨by rw [fa_or]; simp only [nb, q], rfl⟩)
theorem l_afterYear (h : fok F A) {x : Nat} (hx : x < 2 ^ 31) : ∀ (k i : Nat), sN A - i = k → i ≤ sN A → mm_r (d + 2) mX0_afterYear (mm_q (some (.int (nI (nx A x)))) (wFl F)) 4 [some (.ref 0), some (.int (nI x)), some (.int (nI (nx' A x i))), some (.int (nI i))] [] (wFl F) := by
  intro k
  have h6 := h.n6
  induction k with
  | zero =>
    intro i hk hi
    have e : i = sN A := by omega
    refine r_iload_n (i := 3) 5 dX0_afterYear_4 rfl rfl rfl ?_
    refine r_aload_n (i := 0) 6 dX0_afterYear_5 rfl rfl rfl ?_
    refine r_getf 9 dX0_afterYear_6 rfl fl_X0_33 rfl rfl ?_
    refine r_icmp_ge 29 12 dX0_afterYear_9 rfl rfl (fun h9 => ?_) (fun h9 => absurd (by rw [h.th, e]; exact Int32.le_refl _) h9)
    refine r_iload_n (i := 2) 30 dX0_afterYear_29 rfl rfl rfl ?_
    exact r_reti dX0_afterYear_30 rfl (by first | rfl | exact bI_nar _) ⟨Nat.le_refl _, Nat.le_refl _⟩ (fun _ => rfl) (⟨by rw [e]; rfl, rfl⟩)
  | succ k ih =>
    intro i hk hi
    have hi2 : i < sN A := by omega
    have hl := nx'_lt A x i
    have hb := nb_le A x i
    have p1 : 2 ^ i ≤ 64 := p2_le (by omega)
    have p2 : nb A x i * 2 ^ i ≤ 1 * 2 ^ i := Nat.mul_le_mul_right _ hb
    have e2 : nI (nx' A x i) ||| nI (nb A x i) <<< (nI i &&& 31) = nI (nx' A x (i + 1)) := by rw [n_shl (by omega) (by omega), fa_or]; rfl
    refine r_iload_n (i := 3) 5 dX0_afterYear_4 rfl rfl rfl ?_
    refine r_aload_n (i := 0) 6 dX0_afterYear_5 rfl rfl rfl ?_
    refine r_getf 9 dX0_afterYear_6 rfl fl_X0_33 rfl rfl ?_
    refine r_icmp_ge 29 12 dX0_afterYear_9 rfl rfl (fun h9 => absurd (ble_of (a := sN A) (b := i) (by omega) (by omega) (by rw [← h.th]; exact h9)) (by omega)) (fun h9 => ?_)
    refine r_iload_n (i := 2) 13 dX0_afterYear_12 rfl rfl rfl ?_
    refine r_aload_n (i := 0) 14 dX0_afterYear_13 rfl rfl rfl ?_
    refine r_iload_n (i := 3) 15 dX0_afterYear_14 rfl rfl rfl ?_
    refine r_iload_n (i := 1) 16 dX0_afterYear_15 rfl rfl rfl ?_
    refine r_callVi [0, 1, 2, 3, 4, 5, 6, 7] 19 dX0_afterYear_16 rfl ykX0_soAfter lk_X0_66 (e_soAfter h hi2 hx) rfl rfl rfl rfl rfl rfl rfl ⟨Nat.le_refl _, Nat.le_refl _⟩ ?_
    refine r_iload_n (i := 3) 20 dX0_afterYear_19 rfl rfl rfl ?_
    refine r_ishl 21 dX0_afterYear_20 rfl ?_
    refine r_ior 22 dX0_afterYear_21 rfl ?_
    rw [e2]
    refine r_istore_n (i := 2) 23 dX0_afterYear_22 rfl rfl rfl ?_
    refine r_iinc (i := 3) 26 dX0_afterYear_23 rfl rfl (by first | exact nI_1 _ | rfl) rfl ?_
    refine r_goto 4 dX0_afterYear_26 rfl ?_
    exact ih (i + 1) (by omega) (by omega)
theorem e_afterYear (h : fok F A) {x : Nat} (hx : x < 2 ^ 31) : mm_e (d + 2) yX0_afterYear mX0_afterYear [.ref 0, .int (nI x)] (wFl F) (mm_q (some (.int (nI (nx A x)))) (wFl F)) := by
  refine e_of [some (.ref 0), some (.int (nI x)), none, none] rfl (by decide) rfl rfl rfl ?_
  refine r_iconst (v := 0) 1 dX0_afterYear_0 rfl rfl ?_
  refine r_istore_n (i := 2) 2 dX0_afterYear_1 rfl rfl rfl ?_
  refine r_iconst (v := 0) 3 dX0_afterYear_2 rfl rfl ?_
  refine r_istore_n (i := 3) 4 dX0_afterYear_3 rfl rfl rfl ?_
  exact l_afterYear h hx _ 0 rfl (Nat.zero_le _)
theorem lt31 (h : fok F A) {x : Nat} (hx : x < 2 ^ sN A) : x < 2 ^ 31 := by have := p2_le h.n6; omega
theorem l_afterYears (h : fok F A) {x m : Nat} (hx : x < 2 ^ sN A) (hm : m < 2 ^ 31) : ∀ (k i : Nat), m - i = k → i ≤ m → mm_r (d + 3) mX0_afterYears (mm_q (some (.int (nI (ny A m x)))) (wFl F)) 5 [some (.ref 0), some (.int (nI x)), some (.int (nI m)), some (.int (nI (ny A i x))), some (.int (nI i))] [] (wFl F) := by
  intro k
  induction k with
  | zero =>
    intro i hk hi
    have e : i = m := by omega
    refine r_iload (i := 4) 7 dX0_afterYears_5 rfl rfl ?_
    refine r_iload_n (i := 2) 8 dX0_afterYears_7 rfl rfl rfl ?_
    refine r_icmp_ge 23 11 dX0_afterYears_8 rfl rfl (fun h8 => ?_) (fun h8 => absurd (by rw [e]; exact Int32.le_refl _) h8)
    refine r_iload_n (i := 3) 24 dX0_afterYears_23 rfl rfl rfl ?_
    exact r_reti dX0_afterYears_24 rfl (by first | rfl | exact bI_nar _) ⟨Nat.le_refl _, Nat.le_refl _⟩ (fun _ => rfl) (⟨by rw [e], rfl⟩)
  | succ k ih =>
    intro i hk hi
    refine r_iload (i := 4) 7 dX0_afterYears_5 rfl rfl ?_
    refine r_iload_n (i := 2) 8 dX0_afterYears_7 rfl rfl rfl ?_
    refine r_icmp_ge 23 11 dX0_afterYears_8 rfl rfl (fun h8 => absurd (ble_of (by omega) (by omega) h8) (by omega)) (fun h8 => ?_)
    refine r_aload_n (i := 0) 12 dX0_afterYears_11 rfl rfl rfl ?_
    refine r_iload_n (i := 3) 13 dX0_afterYears_12 rfl rfl rfl ?_
    refine r_callVi [0, 1, 2, 3, 4, 5, 6, 7] 16 dX0_afterYears_13 rfl ykX0_afterYear lk_X0_70 (e_afterYear h (lt31 h (ny_lt hx i))) rfl rfl rfl rfl rfl rfl rfl ⟨Nat.le_refl _, Nat.le_refl _⟩ ?_
    refine r_istore_n (i := 3) 17 dX0_afterYears_16 rfl rfl rfl ?_
    refine r_iinc (i := 4) 20 dX0_afterYears_17 rfl rfl (by first | exact nI_1 _ | rfl) rfl ?_
    refine r_goto 5 dX0_afterYears_20 rfl ?_
    exact ih (i + 1) (by omega) (by omega)
theorem e_afterYears (h : fok F A) {x m : Nat} (hx : x < 2 ^ sN A) (hm : m < 2 ^ 31) : mm_e (d + 3) yX0_afterYears mX0_afterYears [.ref 0, .int (nI x), .int (nI m)] (wFl F) (mm_q (some (.int (nI (ny A m x)))) (wFl F)) := by
  refine e_of [some (.ref 0), some (.int (nI x)), some (.int (nI m)), none, none] rfl (by decide) rfl rfl rfl ?_
  refine r_iload_n (i := 1) 1 dX0_afterYears_0 rfl rfl rfl ?_
  refine r_istore_n (i := 3) 2 dX0_afterYears_1 rfl rfl rfl ?_
  refine r_iconst (v := 0) 3 dX0_afterYears_2 rfl rfl ?_
  refine r_istore (i := 4) 5 dX0_afterYears_3 rfl rfl ?_
  exact l_afterYears h hx hm _ 0 rfl (Nat.zero_le _)
theorem e_breaks (h : fok F A) {x b : Nat} (hb : b < sB A) (hx : x < 2 ^ 31) : mm_e (d + 2) yX0_breaks mX0_breaks [.ref 0, .int (nI b), .int (nI x)] (wFl F) (mm_q (some (.int (bI (brk A x b)))) (wFl F)) := by
  have h6 := h.n6
  have h4 := h.b4
  obtain ⟨k1, k2, k3, k4⟩ := h.bat hb
  have hin : vp_in (nI b) 4 := vp_in_nI (by omega) (by decide)
  refine e_of [some (.ref 0), some (.int (nI b)), some (.int (nI x))] rfl (by decide) rfl rfl rfl ?_
  refine r_iload_n (i := 2) 1 dX0_breaks_0 rfl rfl rfl ?_
  refine r_aload_n (i := 0) 2 dX0_breaks_1 rfl rfl rfl ?_
  refine r_getf 5 dX0_breaks_2 rfl fl_X0_27 rfl rfl ?_
  refine r_iload_n (i := 1) 6 dX0_breaks_5 rfl rfl rfl ?_
  refine r_iald 7 dX0_breaks_6 rfl rfl (by assumption) ?_
  rw [nI_clamp (by omega), k1]
  refine r_callSi [] 10 dX0_breaks_7 rfl ykX7_isSo lk_X0_74 (e_isSo hx (by omega)) rfl rfl rfl ⟨Nat.le_refl _, Nat.le_refl _⟩ ?_
  refine r_if_eq 30 13 dX0_breaks_10 rfl rfl (fun h10 => ?_) (fun h10 => ?_)
  · have g := bI_eq0 h10
    refine r_iconst (v := 0) 31 dX0_breaks_30 rfl rfl ?_
    exact r_reti dX0_breaks_31 rfl (by first | rfl | exact bI_nar _) ⟨Nat.le_refl _, Nat.le_refl _⟩ (fun _ => rfl) (⟨by simp_all [brk, bI], rfl⟩)
  · have g := bI_ne0 h10
    refine r_iload_n (i := 2) 14 dX0_breaks_13 rfl rfl rfl ?_
    refine r_aload_n (i := 0) 15 dX0_breaks_14 rfl rfl rfl ?_
    refine r_getf 18 dX0_breaks_15 rfl fl_X0_30 rfl rfl ?_
    refine r_iload_n (i := 1) 19 dX0_breaks_18 rfl rfl rfl ?_
    refine r_iald 20 dX0_breaks_19 rfl rfl (by assumption) ?_
    rw [nI_clamp (by omega), k2]
    refine r_callSi [] 23 dX0_breaks_20 rfl ykX7_isSo lk_X0_74 (e_isSo hx (by omega)) rfl rfl rfl ⟨Nat.le_refl _, Nat.le_refl _⟩ ?_
    refine r_if_eq 30 26 dX0_breaks_23 rfl rfl (fun h23 => ?_) (fun h23 => ?_)
    · have g2 := bI_eq0 h23
      refine r_iconst (v := 0) 31 dX0_breaks_30 rfl rfl ?_
      exact r_reti dX0_breaks_31 rfl (by first | rfl | exact bI_nar _) ⟨Nat.le_refl _, Nat.le_refl _⟩ (fun _ => rfl) (⟨by simp_all [brk, bI], rfl⟩)
    · have g2 := bI_ne0 h23
      refine r_iconst (v := 1) 27 dX0_breaks_26 rfl rfl ?_
      refine r_goto 31 dX0_breaks_27 rfl ?_
      exact r_reti dX0_breaks_31 rfl (by first | rfl | exact bI_nar _) ⟨Nat.le_refl _, Nat.le_refl _⟩ (fun _ => rfl) (⟨by simp_all [brk, bI], rfl⟩)
theorem l_allows (h : fok F A) {x : Nat} (hx : x < 2 ^ 31) : ∀ (k i : Nat), sB A - i = k → i ≤ sB A → al' A x i = true → mm_r (d + 3) mX0_allows (mm_q (some (.int (bI (al A x)))) (wFl F)) 2 [some (.ref 0), some (.int (nI x)), some (.int (nI i))] [] (wFl F) := by
  intro k
  have h4 := h.b4
  induction k with
  | zero =>
    intro i hk hi ha
    have e : i = sB A := by omega
    refine r_iload_n (i := 2) 3 dX0_allows_2 rfl rfl rfl ?_
    refine r_aload_n (i := 0) 4 dX0_allows_3 rfl rfl rfl ?_
    refine r_getf 7 dX0_allows_4 rfl fl_X0_43 rfl rfl ?_
    refine r_icmp_ge 27 10 dX0_allows_7 rfl rfl (fun h7 => ?_) (fun h7 => absurd (by rw [h.bn, e]; exact Int32.le_refl _) h7)
    refine r_iconst (v := 1) 28 dX0_allows_27 rfl rfl ?_
    exact r_reti dX0_allows_28 rfl (by first | rfl | exact bI_nar _) ⟨Nat.le_refl _, Nat.le_refl _⟩ (fun _ => rfl) (⟨by rw [al, ← e, ha]; rfl, rfl⟩)
  | succ k ih =>
    intro i hk hi ha
    have hi2 : i < sB A := by omega
    refine r_iload_n (i := 2) 3 dX0_allows_2 rfl rfl rfl ?_
    refine r_aload_n (i := 0) 4 dX0_allows_3 rfl rfl rfl ?_
    refine r_getf 7 dX0_allows_4 rfl fl_X0_43 rfl rfl ?_
    refine r_icmp_ge 27 10 dX0_allows_7 rfl rfl (fun h7 => absurd (ble_of (a := sB A) (b := i) (by omega) (by omega) (by rw [← h.bn]; exact h7)) (by omega)) (fun h7 => ?_)
    refine r_aload_n (i := 0) 11 dX0_allows_10 rfl rfl rfl ?_
    refine r_iload_n (i := 2) 12 dX0_allows_11 rfl rfl rfl ?_
    refine r_iload_n (i := 1) 13 dX0_allows_12 rfl rfl rfl ?_
    refine r_callVi [0, 1, 2, 3, 4, 5, 6, 7] 16 dX0_allows_13 rfl ykX0_breaks lk_X0_78 (e_breaks h hi2 hx) rfl rfl rfl rfl rfl rfl rfl ⟨Nat.le_refl _, Nat.le_refl _⟩ ?_
    refine r_if_eq 21 19 dX0_allows_16 rfl rfl (fun h16 => ?_) (fun h16 => ?_)
    · have g := bI_eq0 h16
      refine r_iinc (i := 2) 24 dX0_allows_21 rfl rfl (by first | exact nI_1 _ | rfl) rfl ?_
      refine r_goto 2 dX0_allows_24 rfl ?_
      exact ih (i + 1) (by omega) (by omega) (by rw [al', ha, g]; rfl)
    · have g := bI_ne0 h16
      refine r_iconst (v := 0) 20 dX0_allows_19 rfl rfl ?_
      exact r_reti dX0_allows_20 rfl (by first | rfl | exact bI_nar _) ⟨Nat.le_refl _, Nat.le_refl _⟩ (fun _ => rfl) (⟨by rw [al, al'_mono hi2 g]; rfl, rfl⟩)
theorem e_allows (h : fok F A) {x : Nat} (hx : x < 2 ^ 31) : mm_e (d + 3) yX0_allows mX0_allows [.ref 0, .int (nI x)] (wFl F) (mm_q (some (.int (bI (al A x)))) (wFl F)) := by
  refine e_of [some (.ref 0), some (.int (nI x)), none] rfl (by decide) rfl rfl rfl ?_
  refine r_iconst (v := 0) 1 dX0_allows_0 rfl rfl ?_
  refine r_istore_n (i := 2) 2 dX0_allows_1 rfl rfl rfl ?_
  exact l_allows h hx _ 0 rfl (Nat.zero_le _) rfl
theorem e_agrees (h : fok F A) {x : Nat} (hx : x < 2 ^ 31) : mm_e (d + 3) yX0_agrees mX0_agrees [.ref 0, .int (nI x)] (wFl F) (mm_q (some (.int (bI (ag A x)))) (wFl F)) := by
  have h1 := lt31 h (nx_lt A x)
  refine e_of [some (.ref 0), some (.int (nI x))] rfl (by decide) rfl rfl rfl ?_
  refine r_aload_n (i := 0) 1 dX0_agrees_0 rfl rfl rfl ?_
  refine r_iload_n (i := 1) 2 dX0_agrees_1 rfl rfl rfl ?_
  refine r_callVi [0, 1, 2, 3, 4, 5, 6, 7] 5 dX0_agrees_2 rfl ykX0_afterYear lk_X0_70 (e_afterYear h hx) rfl rfl rfl rfl rfl rfl rfl ⟨Nat.le_refl _, Nat.le_refl _⟩ ?_
  refine r_iload_n (i := 1) 6 dX0_agrees_5 rfl rfl rfl ?_
  refine r_icmp_ne 13 9 dX0_agrees_6 rfl rfl (fun h6 => ?_) (fun h6 => ?_)
  · have g := bne_of h1 hx h6
    refine r_iconst (v := 0) 14 dX0_agrees_13 rfl rfl ?_
    exact r_reti dX0_agrees_14 rfl (by first | rfl | exact bI_nar _) ⟨Nat.le_refl _, Nat.le_refl _⟩ (fun _ => rfl) (⟨by simp [ag, g, bI], rfl⟩)
  · have g := beq_of h1 hx h6
    refine r_iconst (v := 1) 10 dX0_agrees_9 rfl rfl ?_
    refine r_goto 14 dX0_agrees_10 rfl ?_
    exact r_reti dX0_agrees_14 rfl (by first | rfl | exact bI_nar _) ⟨Nat.le_refl _, Nat.le_refl _⟩ (fun _ => rfl) (⟨by simp [ag, g, bI], rfl⟩)
theorem e_settles (h : fok F A) {x : Nat} (hx : x < 2 ^ 31) : mm_e (d + 4) yX0_settles mX0_settles [.ref 0, .int (nI x)] (wFl F) (mm_q (some (.int (bI (stl A x)))) (wFl F)) := by
  refine e_of [some (.ref 0), some (.int (nI x))] rfl (by decide) rfl rfl rfl ?_
  refine r_aload_n (i := 0) 1 dX0_settles_0 rfl rfl rfl ?_
  refine r_iload_n (i := 1) 2 dX0_settles_1 rfl rfl rfl ?_
  refine r_callVi [0, 1, 2, 3, 4, 5, 6, 7] 5 dX0_settles_2 rfl ykX0_agrees lk_X0_81 (e_agrees h hx) rfl rfl rfl rfl rfl rfl rfl ⟨Nat.le_refl _, Nat.le_refl _⟩ ?_
  refine r_if_eq 20 8 dX0_settles_5 rfl rfl (fun h5 => ?_) (fun h5 => ?_)
  · have g := bI_eq0 h5
    refine r_iconst (v := 0) 21 dX0_settles_20 rfl rfl ?_
    exact r_reti dX0_settles_21 rfl (by first | rfl | exact bI_nar _) ⟨Nat.le_refl _, Nat.le_refl _⟩ (fun _ => rfl) (⟨by simp_all [stl, bI], rfl⟩)
  · have g := bI_ne0 h5
    refine r_aload_n (i := 0) 9 dX0_settles_8 rfl rfl rfl ?_
    refine r_iload_n (i := 1) 10 dX0_settles_9 rfl rfl rfl ?_
    refine r_callVi [0, 1, 2, 3, 4, 5, 6, 7] 13 dX0_settles_10 rfl ykX0_allows lk_X0_84 (e_allows h hx) rfl rfl rfl rfl rfl rfl rfl ⟨Nat.le_refl _, Nat.le_refl _⟩ ?_
    refine r_if_eq 20 16 dX0_settles_13 rfl rfl (fun h13 => ?_) (fun h13 => ?_)
    · have g2 := bI_eq0 h13
      refine r_iconst (v := 0) 21 dX0_settles_20 rfl rfl ?_
      exact r_reti dX0_settles_21 rfl (by first | rfl | exact bI_nar _) ⟨Nat.le_refl _, Nat.le_refl _⟩ (fun _ => rfl) (⟨by simp_all [stl, bI], rfl⟩)
    · have g2 := bI_ne0 h13
      refine r_iconst (v := 1) 17 dX0_settles_16 rfl rfl ?_
      refine r_goto 21 dX0_settles_17 rfl ?_
      exact r_reti dX0_settles_21 rfl (by first | rfl | exact bI_nar _) ⟨Nat.le_refl _, Nat.le_refl _⟩ (fun _ => rfl) (⟨by simp_all [stl, bI], rfl⟩)
theorem ct_next (p : Nat → Bool) (i : Nat) : nI (fb_ct p i) + bI (p i) = nI (fb_ct p (i + 1)) := by
  rw [fb_ct_succ, bI_nI, nI_add]
theorem l_settled (h : fok F A) : ∀ (k i : Nat), 2 ^ sN A - i = k → i ≤ 2 ^ sN A → mm_r (d + 5) mX0_settled (mm_q (some (.int (nI (sct A)))) (wFl F)) 4 [some (.ref 0), some (.int (nI (fb_ct (stl A) i))), some (.int (nI i))] [] (wFl F) := by
  intro k
  have p6 := p2_le h.n6
  induction k with
  | zero =>
    intro i hk hi
    have e : i = 2 ^ sN A := by omega
    refine r_iload_n (i := 2) 5 dX0_settled_4 rfl rfl rfl ?_
    refine r_aload_n (i := 0) 6 dX0_settled_5 rfl rfl rfl ?_
    refine r_callVi [0, 1, 2, 3, 4, 5, 6, 7] 9 dX0_settled_6 rfl ykX0_states lk_X0_55 (e_states h.th h.n6) rfl rfl rfl rfl rfl rfl rfl ⟨Nat.le_refl _, Nat.le_refl _⟩ ?_
    refine r_icmp_ge 29 12 dX0_settled_9 rfl rfl (fun h9 => ?_) (fun h9 => absurd (by rw [e]; exact Int32.le_refl _) h9)
    refine r_iload_n (i := 1) 30 dX0_settled_29 rfl rfl rfl ?_
    exact r_reti dX0_settled_30 rfl (by first | rfl | exact bI_nar _) ⟨Nat.le_refl _, Nat.le_refl _⟩ (fun _ => rfl) (⟨by rw [e]; rfl, rfl⟩)
  | succ k ih =>
    intro i hk hi
    refine r_iload_n (i := 2) 5 dX0_settled_4 rfl rfl rfl ?_
    refine r_aload_n (i := 0) 6 dX0_settled_5 rfl rfl rfl ?_
    refine r_callVi [0, 1, 2, 3, 4, 5, 6, 7] 9 dX0_settled_6 rfl ykX0_states lk_X0_55 (e_states h.th h.n6) rfl rfl rfl rfl rfl rfl rfl ⟨Nat.le_refl _, Nat.le_refl _⟩ ?_
    refine r_icmp_ge 29 12 dX0_settled_9 rfl rfl (fun h9 => absurd (ble_of (by omega) (by omega) h9) (by omega)) (fun h9 => ?_)
    refine r_iload_n (i := 1) 13 dX0_settled_12 rfl rfl rfl ?_
    refine r_aload_n (i := 0) 14 dX0_settled_13 rfl rfl rfl ?_
    refine r_iload_n (i := 2) 15 dX0_settled_14 rfl rfl rfl ?_
    refine r_callVi [0, 1, 2, 3, 4, 5, 6, 7] 18 dX0_settled_15 rfl ykX0_settles lk_X0_87 (e_settles h (by omega)) rfl rfl rfl rfl rfl rfl rfl ⟨Nat.le_refl _, Nat.le_refl _⟩ ?_
    refine r_callSi [] 21 dX0_settled_18 rfl ykX7_bit lk_X0_90 (e_bit (stl A i)) rfl rfl rfl ⟨Nat.le_refl _, Nat.le_refl _⟩ ?_
    refine r_iadd 22 dX0_settled_21 rfl ?_
    rw [ct_next]
    refine r_istore_n (i := 1) 23 dX0_settled_22 rfl rfl rfl ?_
    refine r_iinc (i := 2) 26 dX0_settled_23 rfl rfl (by first | exact nI_1 _ | rfl) rfl ?_
    refine r_goto 4 dX0_settled_26 rfl ?_
    exact ih (i + 1) (by omega) (by omega)
theorem e_settled (h : fok F A) : mm_e (d + 5) yX0_settled mX0_settled [.ref 0] (wFl F) (mm_q (some (.int (nI (sct A)))) (wFl F)) := by
  refine e_of [some (.ref 0), none, none] rfl (by decide) rfl rfl rfl ?_
  refine r_iconst (v := 0) 1 dX0_settled_0 rfl rfl ?_
  refine r_istore_n (i := 1) 2 dX0_settled_1 rfl rfl rfl ?_
  refine r_iconst (v := 0) 3 dX0_settled_2 rfl rfl ?_
  refine r_istore_n (i := 2) 4 dX0_settled_3 rfl rfl rfl ?_
  exact l_settled h _ 0 rfl (Nat.zero_le _)
theorem l_settledWithout (h : fok F A) {f g : Nat} (hf : f < sN A) (hg : g < sN A) : ∀ (k i : Nat), 2 ^ sN A - i = k → i ≤ 2 ^ sN A → mm_r (d + 5) mX0_settledWithout (mm_q (some (.int (nI (scw A f g)))) (wFl F)) 5 [some (.ref 0), some (.int (nI f)), some (.int (nI g)), some (.int (nI (fb_ct (stw A f g) i))), some (.int (nI i))] [] (wFl F) := by
  intro k
  have p6 := p2_le h.n6
  have h6 := h.n6
  induction k with
  | zero =>
    intro i hk hi
    have e : i = 2 ^ sN A := by omega
    refine r_iload (i := 4) 7 dX0_settledWithout_5 rfl rfl ?_
    refine r_aload_n (i := 0) 8 dX0_settledWithout_7 rfl rfl rfl ?_
    refine r_callVi [0, 1, 2, 3, 4, 5, 6, 7] 11 dX0_settledWithout_8 rfl ykX0_states lk_X0_55 (e_states h.th h.n6) rfl rfl rfl rfl rfl rfl rfl ⟨Nat.le_refl _, Nat.le_refl _⟩ ?_
    refine r_icmp_ge 58 14 dX0_settledWithout_11 rfl rfl (fun h11 => ?_) (fun h11 => absurd (by rw [e]; exact Int32.le_refl _) h11)
    refine r_iload_n (i := 3) 59 dX0_settledWithout_58 rfl rfl rfl ?_
    exact r_reti dX0_settledWithout_59 rfl (by first | rfl | exact bI_nar _) ⟨Nat.le_refl _, Nat.le_refl _⟩ (fun _ => rfl) (⟨by rw [e]; rfl, rfl⟩)
  | succ k ih =>
    intro i hk hi
    have fin : ∀ (b : Bool), b = stw A f g i → mm_r (d + 5) mX0_settledWithout (mm_q (some (.int (nI (scw A f g)))) (wFl F)) 47 [some (.ref 0), some (.int (nI f)), some (.int (nI g)), some (.int (nI (fb_ct (stw A f g) i))), some (.int (nI i))] [.int (bI b), .int (nI (fb_ct (stw A f g) i))] (wFl F) := by
      intro b hb
      subst hb
      refine r_callSi [] 50 dX0_settledWithout_47 rfl ykX7_bit lk_X0_90 (e_bit (stw A f g i)) rfl rfl rfl ⟨Nat.le_refl _, Nat.le_refl _⟩ ?_
      refine r_iadd 51 dX0_settledWithout_50 rfl ?_
      rw [ct_next]
      refine r_istore_n (i := 3) 52 dX0_settledWithout_51 rfl rfl rfl ?_
      refine r_iinc (i := 4) 55 dX0_settledWithout_52 rfl rfl (by first | exact nI_1 _ | rfl) rfl ?_
      refine r_goto 5 dX0_settledWithout_55 rfl ?_
      exact ih (i + 1) (by omega) (by omega)
    refine r_iload (i := 4) 7 dX0_settledWithout_5 rfl rfl ?_
    refine r_aload_n (i := 0) 8 dX0_settledWithout_7 rfl rfl rfl ?_
    refine r_callVi [0, 1, 2, 3, 4, 5, 6, 7] 11 dX0_settledWithout_8 rfl ykX0_states lk_X0_55 (e_states h.th h.n6) rfl rfl rfl rfl rfl rfl rfl ⟨Nat.le_refl _, Nat.le_refl _⟩ ?_
    refine r_icmp_ge 58 14 dX0_settledWithout_11 rfl rfl (fun h11 => absurd (ble_of (by omega) (by omega) h11) (by omega)) (fun h11 => ?_)
    refine r_iload_n (i := 3) 15 dX0_settledWithout_14 rfl rfl rfl ?_
    refine r_aload_n (i := 0) 16 dX0_settledWithout_15 rfl rfl rfl ?_
    refine r_iload (i := 4) 18 dX0_settledWithout_16 rfl rfl ?_
    refine r_callVi [0, 1, 2, 3, 4, 5, 6, 7] 21 dX0_settledWithout_18 rfl ykX0_settles lk_X0_87 (e_settles h (by omega)) rfl rfl rfl rfl rfl rfl rfl ⟨Nat.le_refl _, Nat.le_refl _⟩ ?_
    refine r_if_eq 46 24 dX0_settledWithout_21 rfl rfl (fun h21 => ?_) (fun h21 => ?_)
    · have g1 := bI_eq0 h21
      refine r_iconst (v := 0) 47 dX0_settledWithout_46 rfl rfl ?_
      first | exact fin true (by simp_all [stw]) | exact fin false (by simp_all [stw])
    · have g1 := bI_ne0 h21
      refine r_iload (i := 4) 26 dX0_settledWithout_24 rfl rfl ?_
      refine r_iload_n (i := 1) 27 dX0_settledWithout_26 rfl rfl rfl ?_
      refine r_callSi [] 30 dX0_settledWithout_27 rfl ykX7_isSo lk_X0_74 (e_isSo (by omega) (by omega)) rfl rfl rfl ⟨Nat.le_refl _, Nat.le_refl _⟩ ?_
      refine r_if_eq 42 33 dX0_settledWithout_30 rfl rfl (fun h30 => ?_) (fun h30 => ?_)
      · have g2 := bI_eq0 h30
        refine r_iconst (v := 1) 43 dX0_settledWithout_42 rfl rfl ?_
        refine r_goto 47 dX0_settledWithout_43 rfl ?_
        first | exact fin true (by simp_all [stw]) | exact fin false (by simp_all [stw])
      · have g2 := bI_ne0 h30
        refine r_iload (i := 4) 35 dX0_settledWithout_33 rfl rfl ?_
        refine r_iload_n (i := 2) 36 dX0_settledWithout_35 rfl rfl rfl ?_
        refine r_callSi [] 39 dX0_settledWithout_36 rfl ykX7_isSo lk_X0_74 (e_isSo (by omega) (by omega)) rfl rfl rfl ⟨Nat.le_refl _, Nat.le_refl _⟩ ?_
        refine r_if_ne 46 42 dX0_settledWithout_39 rfl rfl (fun h39 => ?_) (fun h39 => ?_)
        · have g3 := bI_ne0 h39
          refine r_iconst (v := 0) 47 dX0_settledWithout_46 rfl rfl ?_
          first | exact fin true (by simp_all [stw]) | exact fin false (by simp_all [stw])
        · have g3 := bI_eq0 h39
          refine r_iconst (v := 1) 43 dX0_settledWithout_42 rfl rfl ?_
          refine r_goto 47 dX0_settledWithout_43 rfl ?_
          first | exact fin true (by simp_all [stw]) | exact fin false (by simp_all [stw])
theorem e_settledWithout (h : fok F A) {f g : Nat} (hf : f < sN A) (hg : g < sN A) : mm_e (d + 5) yX0_settledWithout mX0_settledWithout [.ref 0, .int (nI f), .int (nI g)] (wFl F) (mm_q (some (.int (nI (scw A f g)))) (wFl F)) := by
  refine e_of [some (.ref 0), some (.int (nI f)), some (.int (nI g)), none, none] rfl (by decide) rfl rfl rfl ?_
  refine r_iconst (v := 0) 1 dX0_settledWithout_0 rfl rfl ?_
  refine r_istore_n (i := 3) 2 dX0_settledWithout_1 rfl rfl rfl ?_
  refine r_iconst (v := 0) 3 dX0_settledWithout_2 rfl rfl ?_
  refine r_istore (i := 4) 5 dX0_settledWithout_3 rfl rfl ?_
  exact l_settledWithout h hf hg _ 0 rfl (Nat.zero_le _)
theorem l_ringFrom (h : fok F A) {x : Nat} (hx : x < 2 ^ sN A) : ∀ (k m : Nat), 2 ^ sN A - m = k → m ≤ 2 ^ sN A → rg A x = rgl A x k (m + 1) → mm_r (d + 3) mX0_ringFrom (mm_q (some (.int (nI (rg A x)))) (wFl F)) 4 [some (.ref 0), some (.int (nI x)), some (.int (nI (ny A m x))), some (.int (nI (m + 1)))] [] (wFl F) := by
  intro k
  have p6 := p2_le h.n6
  induction k with
  | zero =>
    intro m hk hm hr
    refine r_iload_n (i := 3) 5 dX0_ringFrom_4 rfl rfl rfl ?_
    refine r_aload_n (i := 0) 6 dX0_ringFrom_5 rfl rfl rfl ?_
    refine r_callVi [0, 1, 2, 3, 4, 5, 6, 7] 9 dX0_ringFrom_6 rfl ykX0_states lk_X0_55 (e_states h.th h.n6) rfl rfl rfl rfl rfl rfl rfl ⟨Nat.le_refl _, Nat.le_refl _⟩ ?_
    refine r_icmp_gt 31 12 dX0_ringFrom_9 rfl rfl (fun h9 => ?_) (fun h9 => absurd (nI_lt (by omega) (by omega)) h9)
    refine r_iconst (v := 0) 32 dX0_ringFrom_31 rfl rfl ?_
    exact r_reti dX0_ringFrom_32 rfl (by first | rfl | exact bI_nar _) ⟨Nat.le_refl _, Nat.le_refl _⟩ (fun _ => rfl) (⟨by rw [hr]; rfl, rfl⟩)
  | succ k ih =>
    intro m hk hm hr
    have l1 := lt31 h (ny_lt hx m)
    have l2 := lt31 h (ny_lt hx (m + 1))
    have l3 := lt31 h hx
    refine r_iload_n (i := 3) 5 dX0_ringFrom_4 rfl rfl rfl ?_
    refine r_aload_n (i := 0) 6 dX0_ringFrom_5 rfl rfl rfl ?_
    refine r_callVi [0, 1, 2, 3, 4, 5, 6, 7] 9 dX0_ringFrom_6 rfl ykX0_states lk_X0_55 (e_states h.th h.n6) rfl rfl rfl rfl rfl rfl rfl ⟨Nat.le_refl _, Nat.le_refl _⟩ ?_
    refine r_icmp_gt 31 12 dX0_ringFrom_9 rfl rfl (fun h9 => absurd (blt_of (by omega) (by omega) h9) (by omega)) (fun h9 => ?_)
    refine r_aload_n (i := 0) 13 dX0_ringFrom_12 rfl rfl rfl ?_
    refine r_iload_n (i := 2) 14 dX0_ringFrom_13 rfl rfl rfl ?_
    refine r_callVi [0, 1, 2, 3, 4, 5, 6, 7] 17 dX0_ringFrom_14 rfl ykX0_afterYear lk_X0_70 (e_afterYear h l1) rfl rfl rfl rfl rfl rfl rfl ⟨Nat.le_refl _, Nat.le_refl _⟩ ?_
    refine r_istore_n (i := 2) 18 dX0_ringFrom_17 rfl rfl rfl ?_
    refine r_iload_n (i := 2) 19 dX0_ringFrom_18 rfl rfl rfl ?_
    refine r_iload_n (i := 1) 20 dX0_ringFrom_19 rfl rfl rfl ?_
    refine r_icmp_ne 25 23 dX0_ringFrom_20 rfl rfl (fun h20 => ?_) (fun h20 => ?_)
    · have g := bne_of l2 l3 h20
      refine r_iinc (i := 3) 28 dX0_ringFrom_25 rfl rfl (by first | exact nI_1 _ | rfl) rfl ?_
      refine r_goto 4 dX0_ringFrom_28 rfl ?_
      exact ih (m + 1) (by omega) (by omega) (by rw [hr, rgl, if_neg g])
    · have g := beq_of l2 l3 h20
      refine r_iload_n (i := 3) 24 dX0_ringFrom_23 rfl rfl rfl ?_
      exact r_reti dX0_ringFrom_24 rfl (by first | rfl | exact bI_nar _) ⟨Nat.le_refl _, Nat.le_refl _⟩ (fun _ => rfl) (⟨by rw [hr, rgl, if_pos g], rfl⟩)
theorem e_ringFrom (h : fok F A) {x : Nat} (hx : x < 2 ^ sN A) : mm_e (d + 3) yX0_ringFrom mX0_ringFrom [.ref 0, .int (nI x)] (wFl F) (mm_q (some (.int (nI (rg A x)))) (wFl F)) := by
  refine e_of [some (.ref 0), some (.int (nI x)), none, none] rfl (by decide) rfl rfl rfl ?_
  refine r_iload_n (i := 1) 1 dX0_ringFrom_0 rfl rfl rfl ?_
  refine r_istore_n (i := 2) 2 dX0_ringFrom_1 rfl rfl rfl ?_
  refine r_iconst (v := 1) 3 dX0_ringFrom_2 rfl rfl ?_
  refine r_istore_n (i := 3) 4 dX0_ringFrom_3 rfl rfl rfl ?_
  exact l_ringFrom h hx _ 0 rfl (Nat.zero_le _) rfl
theorem l_ringLedBy (h : fok F A) {x : Nat} (hx : x < 2 ^ sN A) : ∀ (k m : Nat), 2 ^ sN A - m = k → m ≤ 2 ^ sN A → rl A x = rll A x k (m + 1) → mm_r (d + 3) mX0_ringLedBy (mm_q (some (.int (nI (rl A x)))) (wFl F)) 4 [some (.ref 0), some (.int (nI x)), some (.int (nI (ny A m x))), some (.int (nI (m + 1)))] [] (wFl F) := by
  intro k
  have p6 := p2_le h.n6
  induction k with
  | zero =>
    intro m hk hm hr
    refine r_iload_n (i := 3) 5 dX0_ringLedBy_4 rfl rfl rfl ?_
    refine r_aload_n (i := 0) 6 dX0_ringLedBy_5 rfl rfl rfl ?_
    refine r_callVi [0, 1, 2, 3, 4, 5, 6, 7] 9 dX0_ringLedBy_6 rfl ykX0_states lk_X0_55 (e_states h.th h.n6) rfl rfl rfl rfl rfl rfl rfl ⟨Nat.le_refl _, Nat.le_refl _⟩ ?_
    refine r_icmp_gt 38 12 dX0_ringLedBy_9 rfl rfl (fun h9 => ?_) (fun h9 => absurd (nI_lt (by omega) (by omega)) h9)
    refine r_iconst (v := 0) 39 dX0_ringLedBy_38 rfl rfl ?_
    exact r_reti dX0_ringLedBy_39 rfl (by first | rfl | exact bI_nar _) ⟨Nat.le_refl _, Nat.le_refl _⟩ (fun _ => rfl) (⟨by rw [hr]; rfl, rfl⟩)
  | succ k ih =>
    intro m hk hm hr
    have l1 := lt31 h (ny_lt hx m)
    have l2 := lt31 h (ny_lt hx (m + 1))
    have l3 := lt31 h hx
    refine r_iload_n (i := 3) 5 dX0_ringLedBy_4 rfl rfl rfl ?_
    refine r_aload_n (i := 0) 6 dX0_ringLedBy_5 rfl rfl rfl ?_
    refine r_callVi [0, 1, 2, 3, 4, 5, 6, 7] 9 dX0_ringLedBy_6 rfl ykX0_states lk_X0_55 (e_states h.th h.n6) rfl rfl rfl rfl rfl rfl rfl ⟨Nat.le_refl _, Nat.le_refl _⟩ ?_
    refine r_icmp_gt 38 12 dX0_ringLedBy_9 rfl rfl (fun h9 => absurd (blt_of (by omega) (by omega) h9) (by omega)) (fun h9 => ?_)
    refine r_aload_n (i := 0) 13 dX0_ringLedBy_12 rfl rfl rfl ?_
    refine r_iload_n (i := 2) 14 dX0_ringLedBy_13 rfl rfl rfl ?_
    refine r_callVi [0, 1, 2, 3, 4, 5, 6, 7] 17 dX0_ringLedBy_14 rfl ykX0_afterYear lk_X0_70 (e_afterYear h l1) rfl rfl rfl rfl rfl rfl rfl ⟨Nat.le_refl _, Nat.le_refl _⟩ ?_
    refine r_istore_n (i := 2) 18 dX0_ringLedBy_17 rfl rfl rfl ?_
    refine r_iload_n (i := 2) 19 dX0_ringLedBy_18 rfl rfl rfl ?_
    refine r_iload_n (i := 1) 20 dX0_ringLedBy_19 rfl rfl rfl ?_
    refine r_icmp_ne 25 23 dX0_ringLedBy_20 rfl rfl (fun h20 => ?_) (fun h20 => ?_)
    · have g := bne_of l2 l3 h20
      refine r_iload_n (i := 2) 26 dX0_ringLedBy_25 rfl rfl rfl ?_
      refine r_iload_n (i := 1) 27 dX0_ringLedBy_26 rfl rfl rfl ?_
      refine r_icmp_ge 32 30 dX0_ringLedBy_27 rfl rfl (fun h27 => ?_) (fun h27 => ?_)
      · have g2 := ble_of l3 l2 h27
        refine r_iinc (i := 3) 35 dX0_ringLedBy_32 rfl rfl (by first | exact nI_1 _ | rfl) rfl ?_
        refine r_goto 4 dX0_ringLedBy_35 rfl ?_
        exact ih (m + 1) (by omega) (by omega) (by rw [hr, rll, if_neg g, if_neg (by omega)])
      · have g2 := bnle_of l3 l2 h27
        refine r_iconst (v := 0) 31 dX0_ringLedBy_30 rfl rfl ?_
        exact r_reti dX0_ringLedBy_31 rfl (by first | rfl | exact bI_nar _) ⟨Nat.le_refl _, Nat.le_refl _⟩ (fun _ => rfl) (⟨by rw [hr, rll, if_neg g, if_pos g2]; rfl, rfl⟩)
    · have g := beq_of l2 l3 h20
      refine r_iload_n (i := 3) 24 dX0_ringLedBy_23 rfl rfl rfl ?_
      exact r_reti dX0_ringLedBy_24 rfl (by first | rfl | exact bI_nar _) ⟨Nat.le_refl _, Nat.le_refl _⟩ (fun _ => rfl) (⟨by rw [hr, rll, if_pos g], rfl⟩)
theorem e_ringLedBy (h : fok F A) {x : Nat} (hx : x < 2 ^ sN A) : mm_e (d + 3) yX0_ringLedBy mX0_ringLedBy [.ref 0, .int (nI x)] (wFl F) (mm_q (some (.int (nI (rl A x)))) (wFl F)) := by
  refine e_of [some (.ref 0), some (.int (nI x)), none, none] rfl (by decide) rfl rfl rfl ?_
  refine r_iload_n (i := 1) 1 dX0_ringLedBy_0 rfl rfl rfl ?_
  refine r_istore_n (i := 2) 2 dX0_ringLedBy_1 rfl rfl rfl ?_
  refine r_iconst (v := 1) 3 dX0_ringLedBy_2 rfl rfl ?_
  refine r_istore_n (i := 3) 4 dX0_ringLedBy_3 rfl rfl rfl ?_
  exact l_ringLedBy h hx _ 0 rfl (Nat.zero_le _) rfl
theorem l_allPrices (h : fok F A) : ∀ (k i : Nat), sG A - i = k → i ≤ sG A → mm_r (d + 1) mX0_allPrices (mm_q (some (.int (nI (smp A)))) (wFl F)) 4 [some (.ref 0), some (.int (nI (fb_sm (sP A) i))), some (.int (nI i))] [] (wFl F) := by
  intro k
  have h4 := h.g4
  induction k with
  | zero =>
    intro i hk hi
    have e : i = sG A := by omega
    refine r_iload_n (i := 2) 5 dX0_allPrices_4 rfl rfl rfl ?_
    refine r_aload_n (i := 0) 6 dX0_allPrices_5 rfl rfl rfl ?_
    refine r_getf 9 dX0_allPrices_6 rfl fl_X0_40 rfl rfl ?_
    refine r_icmp_ge 27 12 dX0_allPrices_9 rfl rfl (fun h9 => ?_) (fun h9 => absurd (by rw [h.gu, e]; exact Int32.le_refl _) h9)
    refine r_iload_n (i := 1) 28 dX0_allPrices_27 rfl rfl rfl ?_
    exact r_reti dX0_allPrices_28 rfl (by first | rfl | exact bI_nar _) ⟨Nat.le_refl _, Nat.le_refl _⟩ (fun _ => rfl) (⟨by rw [e]; rfl, rfl⟩)
  | succ k ih =>
    intro i hk hi
    have hi2 : i < sG A := by omega
    have hin : vp_in (nI i) 4 := vp_in_nI (by omega) (by decide)
    refine r_iload_n (i := 2) 5 dX0_allPrices_4 rfl rfl rfl ?_
    refine r_aload_n (i := 0) 6 dX0_allPrices_5 rfl rfl rfl ?_
    refine r_getf 9 dX0_allPrices_6 rfl fl_X0_40 rfl rfl ?_
    refine r_icmp_ge 27 12 dX0_allPrices_9 rfl rfl (fun h9 => absurd (ble_of (a := sG A) (b := i) (by omega) (by omega) (by rw [← h.gu]; exact h9)) (by omega)) (fun h9 => ?_)
    refine r_iload_n (i := 1) 13 dX0_allPrices_12 rfl rfl rfl ?_
    refine r_aload_n (i := 0) 14 dX0_allPrices_13 rfl rfl rfl ?_
    refine r_getf 17 dX0_allPrices_14 rfl fl_X0_24 rfl rfl ?_
    refine r_iload_n (i := 2) 18 dX0_allPrices_17 rfl rfl rfl ?_
    refine r_iald 19 dX0_allPrices_18 rfl rfl (by assumption) ?_
    rw [nI_clamp (by omega), (h.gat hi2).2.1]
    refine r_iadd 20 dX0_allPrices_19 rfl ?_
    rw [nI_add, ← fb_sm_succ]
    refine r_istore_n (i := 1) 21 dX0_allPrices_20 rfl rfl rfl ?_
    refine r_iinc (i := 2) 24 dX0_allPrices_21 rfl rfl (by first | exact nI_1 _ | rfl) rfl ?_
    refine r_goto 4 dX0_allPrices_24 rfl ?_
    exact ih (i + 1) (by omega) (by omega)
theorem e_allPrices (h : fok F A) : mm_e (d + 1) yX0_allPrices mX0_allPrices [.ref 0] (wFl F) (mm_q (some (.int (nI (smp A)))) (wFl F)) := by
  refine e_of [some (.ref 0), none, none] rfl (by decide) rfl rfl rfl ?_
  refine r_iconst (v := 0) 1 dX0_allPrices_0 rfl rfl ?_
  refine r_istore_n (i := 1) 2 dX0_allPrices_1 rfl rfl rfl ?_
  refine r_iconst (v := 0) 3 dX0_allPrices_2 rfl rfl ?_
  refine r_istore_n (i := 2) 4 dX0_allPrices_3 rfl rfl rfl ?_
  exact l_allPrices h _ 0 rfl (Nat.zero_le _)
end X0b
