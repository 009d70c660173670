/-- what is seen: how many, things, years, so -/
abbrev sV : Type := Nat × (Nat → Nat) × (Nat → Nat) × (Nat → Nat)
def sy (V : sV) (n x : Nat) : Bool := allb (fun i => !(decide (V.2.2.1 i = n) && !decide (tb x (V.2.1 i) = V.2.2.2 i))) V.1
def fit (V : sV) (A : sA) (x : Nat) : Bool := allb (fun n => sy V n (ny A n x)) 10
def vok (V : sV) (N : Nat) : Prop := V.1 ≤ 6 ∧ ∀ i, i < V.1 → V.2.1 i < N ∧ V.2.2.1 i ≤ 9 ∧ V.2.2.2 i ≤ 1
abbrev SiT : Type := Int32 × (Nat → Int32) × (Nat → Int32) × (Nat → Int32) × Int32 × (Nat → Int32)
def wSi (S : SiT) : mm_W := [.inr (4, [.int S.1, .ref 1, .ref 2, .ref 3, .int S.2.2.2.2.1, .ref 4]), .inl (0, (6, .inl S.2.1)), .inl (0, (6, .inl S.2.2.1)), .inl (2, (6, .inl S.2.2.2.1)), .inl (0, (64, .inl S.2.2.2.2.2))]
def wSF (S : SiT) (F : FlT) : mm_W := wSi S ++ (wFl F).map (mm_rc (fun k => 5 + k))
def sok (S : SiT) (V : sV) : Prop := S.1 = nI V.1 ∧ V.1 ≤ 6 ∧ ∀ i, i < V.1 → S.2.1 i = nI (V.2.1 i) ∧ V.2.1 i < 6 ∧ S.2.2.1 i = nI (V.2.2.1 i) ∧ V.2.2.1 i ≤ 9 ∧ S.2.2.2.1 i = nI (V.2.2.2 i) ∧ V.2.2.2 i ≤ 1
def lok (S : SiT) (k : Nat) (l : Nat → Nat) (N : Nat) : Prop := S.2.2.2.2.1 = nI k ∧ k ≤ 64 ∧ ∀ i, i < k → S.2.2.2.2.2 i = nI (l i) ∧ l i < 2 ^ N
abbrev siL (S : SiT) (k : Int32) (l : Nat → Int32) : SiT := (S.1, S.2.1, S.2.2.1, S.2.2.2.1, k, l)
theorem allb_false {p : Nat → Bool} : ∀ {n i : Nat}, i < n → p i = false → allb p n = false
  | 0, i, h, _ => absurd h (Nat.not_lt_zero i)
  | n + 1, i, h, hp => by
    rw [allb]
    rcases Nat.lt_or_ge i n with q | q
    · rw [allb_false q hp]; rfl
    · rw [← show i = n by omega, hp]; simp
section X4
variable {d : Nat} {F : FlT} {A : sA} {S : SiT} {V : sV}
def siA (S : SiT) (m : Nat) (f n b : Int32) : SiT := (nI (m + 1), upd S.2.1 m f, upd S.2.2.1 m n, upd S.2.2.2.1 m b, S.2.2.2.2.1, S.2.2.2.2.2)
theorem e_siAdd {m : Nat} (h : S.1 = nI m) (hm : m < 6) (f n : Int32) (b : Bool) : mm_e (d + 1) yX4_add mX4_add [.ref 0, .int f, .int n, .int (bI b)] (wSi S) (mm_q none (wSi (siA S m f n (bI b)))) := by
  have hin : vp_in S.1 6 := by rw [h]; exact vp_in_nI hm (by decide)
  have ec : (S.1).toNatClampNeg = m := by rw [h]; exact nI_clamp (by omega)
  have e1 : S.1 + 1 = nI (m + 1) := by rw [h]; exact nI_1 m
  refine e_of [some (.ref 0), some (.int f), some (.int n), some (.int (bI b))] rfl (by decide) rfl rfl rfl ?_
  refine r_aload_n (i := 0) 1 dX4_add_0 rfl rfl rfl ?_
  refine r_getf 4 dX4_add_1 rfl fl_X4_25 rfl rfl ?_
  refine r_bipush (v := 6) 6 dX4_add_4 rfl rfl ?_
  refine r_icmp_ge 49 9 dX4_add_6 rfl rfl (fun h6 => absurd (ble_of (a := 6) (b := m) (by decide) (by omega) (by rw [← h]; exact h6)) (by omega)) (fun h6 => ?_)
  refine r_aload_n (i := 0) 10 dX4_add_9 rfl rfl rfl ?_
  refine r_getf 13 dX4_add_10 rfl fl_X4_9 rfl rfl ?_
  refine r_aload_n (i := 0) 14 dX4_add_13 rfl rfl rfl ?_
  refine r_getf 17 dX4_add_14 rfl fl_X4_25 rfl rfl ?_
  refine r_iload_n (i := 1) 18 dX4_add_17 rfl rfl rfl ?_
  refine r_iast 19 dX4_add_18 rfl rfl (by assumption) ?_
  refine r_aload_n (i := 0) 20 dX4_add_19 rfl rfl rfl ?_
  refine r_getf 23 dX4_add_20 rfl fl_X4_15 rfl rfl ?_
  refine r_aload_n (i := 0) 24 dX4_add_23 rfl rfl rfl ?_
  refine r_getf 27 dX4_add_24 rfl fl_X4_25 rfl rfl ?_
  refine r_iload_n (i := 2) 28 dX4_add_27 rfl rfl rfl ?_
  refine r_iast 29 dX4_add_28 rfl rfl (by assumption) ?_
  refine r_aload_n (i := 0) 30 dX4_add_29 rfl rfl rfl ?_
  refine r_getf 33 dX4_add_30 rfl fl_X4_18 rfl rfl ?_
  refine r_aload_n (i := 0) 34 dX4_add_33 rfl rfl rfl ?_
  refine r_getf 37 dX4_add_34 rfl fl_X4_25 rfl rfl ?_
  refine r_iload_n (i := 3) 38 dX4_add_37 rfl rfl rfl ?_
  refine r_zast 39 dX4_add_38 rfl rfl (by assumption) (bI_nar b) ?_
  refine r_aload_n (i := 0) 40 dX4_add_39 rfl rfl rfl ?_
  refine r_dup 41 dX4_add_40 rfl rfl ?_
  refine r_getf 44 dX4_add_41 rfl fl_X4_25 rfl rfl ?_
  refine r_iconst (v := 1) 45 dX4_add_44 rfl rfl ?_
  refine r_iadd 46 dX4_add_45 rfl ?_
  refine r_putf 49 dX4_add_46 rfl fl_X4_25 rfl rfl (fun _ _ => ⟨rfl, rfl⟩) (fun z => absurd z Bool.false_ne_true) ?_
  exact r_retv dX4_add_49 rfl ⟨Nat.le_refl _, Nat.le_refl _⟩ (fun _ => rfl) (⟨rfl, by rw [ec, e1]; rfl⟩)
theorem l_suitYear (h : sok S V) {n x : Nat} (hn : n < 2 ^ 31) (hx : x < 2 ^ 31) : ∀ (k i : Nat), V.1 - i = k → i ≤ V.1 → allb (fun i => !(decide (V.2.2.1 i = n) && !decide (tb x (V.2.1 i) = V.2.2.2 i))) i = true → mm_r (d + 2) mX4_suitYear (mm_q (some (.int (bI (sy V n x)))) (wSi S)) 2 [some (.ref 0), some (.int (nI n)), some (.int (nI x)), some (.int (nI i))] [] (wSi S) := by
  intro k
  obtain ⟨a1, a2, a3⟩ := h
  induction k with
  | zero =>
    intro i hk hi ha
    have e : i = V.1 := by omega
    refine r_iload_n (i := 3) 3 dX4_suitYear_2 rfl rfl rfl ?_
    refine r_aload_n (i := 0) 4 dX4_suitYear_3 rfl rfl rfl ?_
    refine r_getf 7 dX4_suitYear_4 rfl fl_X4_25 rfl rfl ?_
    refine r_icmp_ge 47 10 dX4_suitYear_7 rfl rfl (fun h7 => ?_) (fun h7 => absurd (by rw [a1, e]; exact Int32.le_refl _) h7)
    refine r_iconst (v := 1) 48 dX4_suitYear_47 rfl rfl ?_
    exact r_reti dX4_suitYear_48 rfl (by first | rfl | exact bI_nar _) ⟨Nat.le_refl _, Nat.le_refl _⟩ (fun _ => rfl) (⟨by rw [sy, ← e, ha]; rfl, rfl⟩)
  | succ k ih =>
    intro i hk hi ha
    have hi2 : i < V.1 := by omega
    obtain ⟨c1, c2, c3, c4, c5, c6⟩ := a3 i hi2
    have hin : vp_in (nI i) 6 := vp_in_nI (by omega) (by decide)
    have et : bI (decide (tb x (V.2.1 i) = 1)) = nI (V.2.2.2 i) ↔ tb x (V.2.1 i) = V.2.2.2 i := by
      rcases tb_01 x (V.2.1 i) with q | q <;> rcases (by omega : V.2.2.2 i = 0 ∨ V.2.2.2 i = 1) with q2 | q2 <;> rw [q, q2] <;> decide
    refine r_iload_n (i := 3) 3 dX4_suitYear_2 rfl rfl rfl ?_
    refine r_aload_n (i := 0) 4 dX4_suitYear_3 rfl rfl rfl ?_
    refine r_getf 7 dX4_suitYear_4 rfl fl_X4_25 rfl rfl ?_
    refine r_icmp_ge 47 10 dX4_suitYear_7 rfl rfl (fun h7 => absurd (ble_of (a := V.1) (b := i) (by omega) (by omega) (by rw [← a1]; exact h7)) (by omega)) (fun h7 => ?_)
    refine r_aload_n (i := 0) 11 dX4_suitYear_10 rfl rfl rfl ?_
    refine r_getf 14 dX4_suitYear_11 rfl fl_X4_15 rfl rfl ?_
    refine r_iload_n (i := 3) 15 dX4_suitYear_14 rfl rfl rfl ?_
    refine r_iald 16 dX4_suitYear_15 rfl rfl (by assumption) ?_
    rw [nI_clamp (by omega), c3]
    refine r_iload_n (i := 1) 17 dX4_suitYear_16 rfl rfl rfl ?_
    refine r_icmp_ne 41 20 dX4_suitYear_17 rfl rfl (fun h17 => ?_) (fun h17 => ?_)
    · have g := bne_of (by omega) hn h17
      refine r_iinc (i := 3) 44 dX4_suitYear_41 rfl rfl (by first | exact nI_1 _ | rfl) rfl ?_
      refine r_goto 2 dX4_suitYear_44 rfl ?_
      exact ih (i + 1) (by omega) (by omega) (by rw [allb, ha]; first | simp [g, g2] | simp [g])
    · have g := beq_of (by omega) hn h17
      refine r_iload_n (i := 2) 21 dX4_suitYear_20 rfl rfl rfl ?_
      refine r_aload_n (i := 0) 22 dX4_suitYear_21 rfl rfl rfl ?_
      refine r_getf 25 dX4_suitYear_22 rfl fl_X4_9 rfl rfl ?_
      refine r_iload_n (i := 3) 26 dX4_suitYear_25 rfl rfl rfl ?_
      refine r_iald 27 dX4_suitYear_26 rfl rfl (by assumption) ?_
      rw [nI_clamp (by omega), c1]
      refine r_callSi [] 30 dX4_suitYear_27 rfl ykX7_isSo lk_X4_39 (e_isSo hx (by omega)) rfl rfl rfl ⟨Nat.le_refl _, Nat.le_refl _⟩ ?_
      refine r_aload_n (i := 0) 31 dX4_suitYear_30 rfl rfl rfl ?_
      refine r_getf 34 dX4_suitYear_31 rfl fl_X4_18 rfl rfl ?_
      refine r_iload_n (i := 3) 35 dX4_suitYear_34 rfl rfl rfl ?_
      refine r_zald 36 dX4_suitYear_35 rfl rfl (by assumption) ?_
      rw [nI_clamp (by omega), c5]
      refine r_icmp_eq 41 39 dX4_suitYear_36 rfl rfl (fun h36 => ?_) (fun h36 => ?_)
      · have g2 := et.mp h36
        refine r_iinc (i := 3) 44 dX4_suitYear_41 rfl rfl (by first | exact nI_1 _ | rfl) rfl ?_
        refine r_goto 2 dX4_suitYear_44 rfl ?_
        exact ih (i + 1) (by omega) (by omega) (by rw [allb, ha]; first | simp [g, g2] | simp [g])
      · have g2 := mt et.mpr h36
        refine r_iconst (v := 0) 40 dX4_suitYear_39 rfl rfl ?_
        exact r_reti dX4_suitYear_40 rfl (by first | rfl | exact bI_nar _) ⟨Nat.le_refl _, Nat.le_refl _⟩ (fun _ => rfl) (⟨by rw [sy, allb_false hi2 (by simp [g, g2])]; rfl, rfl⟩)
theorem e_suitYear (h : sok S V) {n x : Nat} (hn : n < 2 ^ 31) (hx : x < 2 ^ 31) : mm_e (d + 2) yX4_suitYear mX4_suitYear [.ref 0, .int (nI n), .int (nI x)] (wSi S) (mm_q (some (.int (bI (sy V n x)))) (wSi S)) := by
  refine e_of [some (.ref 0), some (.int (nI n)), some (.int (nI x)), none] rfl (by decide) rfl rfl rfl ?_
  refine r_iconst (v := 0) 1 dX4_suitYear_0 rfl rfl ?_
  refine r_istore_n (i := 3) 2 dX4_suitYear_1 rfl rfl rfl ?_
  exact l_suitYear h hn hx _ 0 rfl (Nat.zero_le _) rfl
theorem l_suit (h : sok S V) (hF : fok F A) {x : Nat} (hx : x < 2 ^ sN A) : ∀ (k n : Nat), 10 - n = k → n ≤ 10 → allb (fun n => sy V n (ny A n x)) n = true → mm_r (d + 3) mX4_suit (mm_q (some (.int (bI (fit V A x)))) (wSF S F)) 5 [some (.ref 0), some (.ref 5), some (.int (nI x)), some (.int (nI (ny A n x))), some (.int (nI n))] [] (wSF S F) := by
  intro k
  induction k with
  | zero =>
    intro n hk hn ha
    have e : n = 10 := by omega
    subst e
    refine r_iload (i := 4) 7 dX4_suit_5 rfl rfl ?_
    refine r_bipush (v := 9) 9 dX4_suit_7 rfl rfl ?_
    refine r_icmp_gt 36 12 dX4_suit_9 rfl rfl (fun h9 => ?_) (fun h9 => absurd (show (9 : Int32) < nI 10 from by decide) h9)
    refine r_iconst (v := 1) 37 dX4_suit_36 rfl rfl ?_
    exact r_reti dX4_suit_37 rfl (by first | rfl | exact bI_nar _) ⟨Nat.le_refl _, Nat.le_refl _⟩ (fun _ => rfl) (⟨by rw [fit, ha]; rfl, rfl⟩)
  | succ k ih =>
    intro n hk hn ha
    have l1 := lt31 hF (ny_lt hx n)
    refine r_iload (i := 4) 7 dX4_suit_5 rfl rfl ?_
    refine r_bipush (v := 9) 9 dX4_suit_7 rfl rfl ?_
    refine r_icmp_gt 36 12 dX4_suit_9 rfl rfl (fun h9 => absurd (blt_of (a := 9) (b := n) (by decide) (by omega) h9) (by omega)) (fun h9 => ?_)
    refine r_aload_n (i := 0) 13 dX4_suit_12 rfl rfl rfl ?_
    refine r_iload (i := 4) 15 dX4_suit_13 rfl rfl ?_
    refine r_iload_n (i := 3) 16 dX4_suit_15 rfl rfl rfl ?_
    refine r_callVi [0, 1, 2, 3, 4] 19 dX4_suit_16 rfl ykX4_suitYear lk_X4_29 (e_suitYear h (by omega) l1) rfl rfl rfl rfl rfl rfl rfl ⟨Nat.le_refl _, Nat.le_refl _⟩ ?_
    refine r_if_ne 24 22 dX4_suit_19 rfl rfl (fun h19 => ?_) (fun h19 => ?_)
    · have g := bI_ne0 h19
      refine r_aload_n (i := 1) 25 dX4_suit_24 rfl rfl rfl ?_
      refine r_iload_n (i := 3) 26 dX4_suit_25 rfl rfl rfl ?_
      refine r_callVi [5, 6, 7, 8, 9, 10, 11, 12] 29 dX4_suit_26 rfl ykX0_afterYear lk_X4_33 (e_afterYear hF l1) rfl rfl rfl rfl rfl rfl rfl ⟨Nat.le_refl _, Nat.le_refl _⟩ ?_
      refine r_istore_n (i := 3) 30 dX4_suit_29 rfl rfl rfl ?_
      refine r_iinc (i := 4) 33 dX4_suit_30 rfl rfl (by first | exact nI_1 _ | rfl) rfl ?_
      refine r_goto 5 dX4_suit_33 rfl ?_
      exact ih (n + 1) (by omega) (by omega) (by rw [allb, ha, g]; rfl)
    · have g := bI_eq0 h19
      refine r_iconst (v := 0) 23 dX4_suit_22 rfl rfl ?_
      exact r_reti dX4_suit_23 rfl (by first | rfl | exact bI_nar _) ⟨Nat.le_refl _, Nat.le_refl _⟩ (fun _ => rfl) (⟨by rw [fit, allb_false (i := n) (by omega) g]; rfl, rfl⟩)
theorem e_suit (h : sok S V) (hF : fok F A) {x : Nat} (hx : x < 2 ^ sN A) : mm_e (d + 3) yX4_suit mX4_suit [.ref 0, .ref 5, .int (nI x)] (wSF S F) (mm_q (some (.int (bI (fit V A x)))) (wSF S F)) := by
  refine e_of [some (.ref 0), some (.ref 5), some (.int (nI x)), none, none] rfl (by decide) rfl rfl rfl ?_
  refine r_iload_n (i := 2) 1 dX4_suit_0 rfl rfl rfl ?_
  refine r_istore_n (i := 3) 2 dX4_suit_1 rfl rfl rfl ?_
  refine r_iconst (v := 0) 3 dX4_suit_2 rfl rfl ?_
  refine r_istore (i := 4) 5 dX4_suit_3 rfl rfl ?_
  exact l_suit h hF hx _ 0 rfl (Nat.zero_le _) rfl
/-- the states that fit, up to a -/
def gat (V : sV) (A : sA) (a k : Nat) (l : Nat → Nat) : Prop := k = fb_ct (fit V A) a ∧ ∀ q : Nat → Bool, fb_ct (fun i => q (l i)) k = fb_ct (fun x => fit V A x && q x) a
theorem gat_yes {a k : Nat} {l : Nat → Nat} (h : gat V A a k l) (hf : fit V A a = true) : gat V A (a + 1) (k + 1) (fun i => if i = k then a else l i) := by
  refine ⟨by rw [fb_ct_succ, hf, ← h.1]; rfl, fun q => ?_⟩
  rw [fb_ct_succ, fb_ct_succ, hf, ← h.2 q]
  simp only [if_true, Bool.true_and]
  congr 1
  exact fb_ct_cong (fun i hi => by simp only [if_neg (Nat.ne_of_lt hi)])
theorem gat_no {a k : Nat} {l : Nat → Nat} (h : gat V A a k l) (hf : fit V A a = false) : gat V A (a + 1) k l := by
  refine ⟨by rw [fb_ct_succ, hf, ← h.1]; rfl, fun q => ?_⟩
  rw [fb_ct_succ, hf, ← h.2 q]; rfl
def gPost (S : SiT) (V : sV) (F : FlT) (A : sA) : Option Value → mm_W → Prop := fun v u => v = none ∧ ∃ (kk : Int32) (ll : Nat → Int32) (k : Nat) (l : Nat → Nat), u = wSF (siL S kk ll) F ∧ lok (siL S kk ll) k l (sN A) ∧ gat V A (2 ^ sN A) k l
theorem sok_L (h : sok S V) (k : Int32) (l : Nat → Int32) : sok (siL S k l) V := h
theorem l_gather (h : sok S V) (hF : fok F A) : ∀ (j a : Nat) (ll : Nat → Int32) (k : Nat) (l : Nat → Nat), 2 ^ sN A - a = j → a ≤ 2 ^ sN A → k ≤ a → (∀ i, i < k → ll i = nI (l i) ∧ l i < 2 ^ sN A) → gat V A a k l → mm_r (d + 4) mX4_gather (gPost S V F A) 7 [some (.ref 0), some (.ref 5), some (.int (nI a))] [] (wSF (siL S (nI k) ll) F) := by
  intro j
  have p6 := p2_le hF.n6
  induction j with
  | zero =>
    intro a ll k l hj ha hk hl hg
    have e : a = 2 ^ sN A := by omega
    refine r_iload_n (i := 2) 8 dX4_gather_7 rfl rfl rfl ?_
    refine r_aload_n (i := 1) 9 dX4_gather_8 rfl rfl rfl ?_
    refine r_callVi [5, 6, 7, 8, 9, 10, 11, 12] 12 dX4_gather_9 rfl ykX0_states lk_X4_45 (e_states hF.th hF.n6) rfl rfl rfl rfl rfl rfl rfl ⟨Nat.le_refl _, Nat.le_refl _⟩ ?_
    refine r_icmp_ge 59 15 dX4_gather_12 rfl rfl (fun h12 => ?_) (fun h12 => absurd (by rw [e]; exact Int32.le_refl _) h12)
    exact r_retv dX4_gather_59 rfl ⟨Nat.le_refl _, Nat.le_refl _⟩ (fun _ => rfl) (⟨rfl, nI k, ll, k, l, rfl, ⟨rfl, by omega, hl⟩, by rw [← e]; exact hg⟩)
  | succ j ih =>
    intro a ll k l hj ha hk hl hg
    have hin : vp_in (nI k) 64 := vp_in_nI (by omega) (by decide)
    refine r_iload_n (i := 2) 8 dX4_gather_7 rfl rfl rfl ?_
    refine r_aload_n (i := 1) 9 dX4_gather_8 rfl rfl rfl ?_
    refine r_callVi [5, 6, 7, 8, 9, 10, 11, 12] 12 dX4_gather_9 rfl ykX0_states lk_X4_45 (e_states hF.th hF.n6) rfl rfl rfl rfl rfl rfl rfl ⟨Nat.le_refl _, Nat.le_refl _⟩ ?_
    refine r_icmp_ge 59 15 dX4_gather_12 rfl rfl (fun h12 => absurd (ble_of (by omega) (by omega) h12) (by omega)) (fun h12 => ?_)
    refine r_aload_n (i := 0) 16 dX4_gather_15 rfl rfl rfl ?_
    refine r_getf 19 dX4_gather_16 rfl fl_X4_42 rfl rfl ?_
    refine r_bipush (v := 64) 21 dX4_gather_19 rfl rfl ?_
    refine r_icmp_ge 53 24 dX4_gather_21 rfl rfl (fun h21 => absurd (ble_of (a := 64) (b := k) (by decide) (by omega) h21) (by omega)) (fun h21 => ?_)
    refine r_aload_n (i := 0) 25 dX4_gather_24 rfl rfl rfl ?_
    refine r_aload_n (i := 1) 26 dX4_gather_25 rfl rfl rfl ?_
    refine r_iload_n (i := 2) 27 dX4_gather_26 rfl rfl rfl ?_
    refine r_callVi [0, 1, 2, 3, 4, 5, 6, 7, 8, 9, 10, 11, 12] 30 dX4_gather_27 rfl ykX4_suit lk_X4_49 (e_suit (S := siL S (nI k) ll) (sok_L h _ _) hF (by omega)) rfl rfl rfl rfl rfl rfl rfl ⟨Nat.le_refl _, Nat.le_refl _⟩ ?_
    refine r_if_eq 53 33 dX4_gather_30 rfl rfl (fun h30 => ?_) (fun h30 => ?_)
    · have g := bI_eq0 h30
      refine r_iinc (i := 2) 56 dX4_gather_53 rfl rfl (by first | exact nI_1 _ | rfl) rfl ?_
      refine r_goto 7 dX4_gather_56 rfl ?_
      first | exact ih (a + 1) ll k l (by omega) (by omega) (by omega) hl (gat_no hg g) | exact ih (a + 1) (upd ll k (nI a)) (k + 1) (fun i => if i = k then a else l i) (by omega) (by omega) (by omega) (fun i hi => by by_cases q : i = k; (· subst q; simp only [upd, if_true]; exact ⟨trivial, by omega⟩); (· simp only [upd, if_neg q]; exact hl i (by omega))) (gat_yes hg g)
    · have g := bI_ne0 h30
      refine r_aload_n (i := 0) 34 dX4_gather_33 rfl rfl rfl ?_
      refine r_getf 37 dX4_gather_34 rfl fl_X4_22 rfl rfl ?_
      refine r_aload_n (i := 0) 38 dX4_gather_37 rfl rfl rfl ?_
      refine r_getf 41 dX4_gather_38 rfl fl_X4_42 rfl rfl ?_
      refine r_iload_n (i := 2) 42 dX4_gather_41 rfl rfl rfl ?_
      refine r_iast 43 dX4_gather_42 rfl rfl (by assumption) ?_
      refine r_aload_n (i := 0) 44 dX4_gather_43 rfl rfl rfl ?_
      refine r_dup 45 dX4_gather_44 rfl rfl ?_
      refine r_getf 48 dX4_gather_45 rfl fl_X4_42 rfl rfl ?_
      refine r_iconst (v := 1) 49 dX4_gather_48 rfl rfl ?_
      refine r_iadd 50 dX4_gather_49 rfl ?_
      rw [nI_1, nI_clamp (n := k) (by omega)]
      refine r_putf 53 dX4_gather_50 rfl fl_X4_42 rfl rfl (fun _ _ => ⟨rfl, rfl⟩) (fun z => absurd z Bool.false_ne_true) ?_
      refine r_iinc (i := 2) 56 dX4_gather_53 rfl rfl (by first | exact nI_1 _ | rfl) rfl ?_
      refine r_goto 7 dX4_gather_56 rfl ?_
      first | exact ih (a + 1) ll k l (by omega) (by omega) (by omega) hl (gat_no hg g) | exact ih (a + 1) (upd ll k (nI a)) (k + 1) (fun i => if i = k then a else l i) (by omega) (by omega) (by omega) (fun i hi => by by_cases q : i = k; (· subst q; simp only [upd, if_true]; exact ⟨trivial, by omega⟩); (· simp only [upd, if_neg q]; exact hl i (by omega))) (gat_yes hg g)
theorem e_gather (h : sok S V) (hF : fok F A) : mm_e (d + 4) yX4_gather mX4_gather [.ref 0, .ref 5] (wSF S F) (gPost S V F A) := by
  refine e_of [some (.ref 0), some (.ref 5), none] rfl (by decide) rfl rfl rfl ?_
  refine r_aload_n (i := 0) 1 dX4_gather_0 rfl rfl rfl ?_
  refine r_iconst (v := 0) 2 dX4_gather_1 rfl rfl ?_
  refine r_putf 5 dX4_gather_2 rfl fl_X4_42 rfl rfl (fun _ _ => ⟨rfl, rfl⟩) (fun z => absurd z Bool.false_ne_true) ?_
  refine r_iconst (v := 0) 6 dX4_gather_5 rfl rfl ?_
  refine r_istore_n (i := 2) 7 dX4_gather_6 rfl rfl rfl ?_
  refine r_eq (l_gather h hF _ 0 S.2.2.2.2.2 0 (fun _ => 0) rfl (Nat.zero_le _) (Nat.le_refl _) (fun i hi => absurd hi (Nat.not_lt_zero i)) ⟨rfl, fun _ => rfl⟩) rfl rfl rfl
theorem l_worst {k : Nat} {l : Nat → Nat} {N f : Nat} (h : lok S k l N) (hN : N ≤ 6) (hf : f < 32) : ∀ (j i : Nat), k - i = j → i ≤ k → mm_r (d + 2) mX4_worstLeft (mm_q (some (.int (nI (max (fb_ct (fun i => decide (tb (l i) f = 1)) k) (k - fb_ct (fun i => decide (tb (l i) f = 1)) k))))) (wSi S)) 4 [some (.ref 0), some (.int (nI f)), some (.int (nI (fb_ct (fun i => decide (tb (l i) f = 1)) i))), some (.int (nI i))] [] (wSi S) := by
  intro j
  obtain ⟨a1, a2, a3⟩ := h
  have p6 := p2_le hN
  induction j with
  | zero =>
    intro i hj hi
    have e : i = k := by omega
    subst e
    have cl := fb_ct_le (fun j => decide (tb (l j) f = 1)) i
    refine r_iload_n (i := 3) 5 dX4_worstLeft_4 rfl rfl rfl ?_
    refine r_aload_n (i := 0) 6 dX4_worstLeft_5 rfl rfl rfl ?_
    refine r_getf 9 dX4_worstLeft_6 rfl fl_X4_42 rfl rfl ?_
    refine r_icmp_ge 34 12 dX4_worstLeft_9 rfl rfl (fun h9 => ?_) (fun h9 => absurd (by rw [a1]; exact Int32.le_refl _) h9)
    refine r_iload_n (i := 2) 35 dX4_worstLeft_34 rfl rfl rfl ?_
    refine r_aload_n (i := 0) 36 dX4_worstLeft_35 rfl rfl rfl ?_
    refine r_getf 39 dX4_worstLeft_36 rfl fl_X4_42 rfl rfl ?_
    refine r_iload_n (i := 2) 40 dX4_worstLeft_39 rfl rfl rfl ?_
    refine r_isub 41 dX4_worstLeft_40 rfl ?_
    rw [a1, pk_sub cl]
    refine r_mmax 44 dX4_worstLeft_41 rfl (mm_in 823 (by decide +kernel) rfl) (by omega) (by omega) rfl ⟨Nat.le_refl _, Nat.le_refl _⟩ ?_
    exact r_reti dX4_worstLeft_44 rfl (by first | rfl | exact bI_nar _) ⟨Nat.le_refl _, Nat.le_refl _⟩ (fun _ => rfl) (⟨rfl, rfl⟩)
  | succ j ih =>
    intro i hj hi
    have hi2 : i < k := by omega
    obtain ⟨c1, c2⟩ := a3 i hi2
    have hin : vp_in (nI i) 64 := vp_in_nI (by omega) (by decide)
    refine r_iload_n (i := 3) 5 dX4_worstLeft_4 rfl rfl rfl ?_
    refine r_aload_n (i := 0) 6 dX4_worstLeft_5 rfl rfl rfl ?_
    refine r_getf 9 dX4_worstLeft_6 rfl fl_X4_42 rfl rfl ?_
    refine r_icmp_ge 34 12 dX4_worstLeft_9 rfl rfl (fun h9 => absurd (ble_of (a := k) (b := i) (by omega) (by omega) (by rw [← a1]; exact h9)) (by omega)) (fun h9 => ?_)
    refine r_iload_n (i := 2) 13 dX4_worstLeft_12 rfl rfl rfl ?_
    refine r_aload_n (i := 0) 14 dX4_worstLeft_13 rfl rfl rfl ?_
    refine r_getf 17 dX4_worstLeft_14 rfl fl_X4_22 rfl rfl ?_
    refine r_iload_n (i := 3) 18 dX4_worstLeft_17 rfl rfl rfl ?_
    refine r_iald 19 dX4_worstLeft_18 rfl rfl (by assumption) ?_
    rw [nI_clamp (by omega), c1]
    refine r_iload_n (i := 1) 20 dX4_worstLeft_19 rfl rfl rfl ?_
    refine r_callSi [] 23 dX4_worstLeft_20 rfl ykX7_isSo lk_X4_39 (e_isSo (by omega) hf) rfl rfl rfl ⟨Nat.le_refl _, Nat.le_refl _⟩ ?_
    refine r_callSi [] 26 dX4_worstLeft_23 rfl ykX7_bit lk_X4_53 (e_bit _) rfl rfl rfl ⟨Nat.le_refl _, Nat.le_refl _⟩ ?_
    refine r_iadd 27 dX4_worstLeft_26 rfl ?_
    rw [ct_next (fun i => decide (tb (l i) f = 1))]
    refine r_istore_n (i := 2) 28 dX4_worstLeft_27 rfl rfl rfl ?_
    refine r_iinc (i := 3) 31 dX4_worstLeft_28 rfl rfl (by first | exact nI_1 _ | rfl) rfl ?_
    refine r_goto 4 dX4_worstLeft_31 rfl ?_
    exact ih (i + 1) (by omega) (by omega)
theorem e_worst {k : Nat} {l : Nat → Nat} {N f : Nat} (h : lok S k l N) (hN : N ≤ 6) (hf : f < 32) : mm_e (d + 2) yX4_worstLeft mX4_worstLeft [.ref 0, .int (nI f)] (wSi S) (mm_q (some (.int (nI (max (fb_ct (fun i => decide (tb (l i) f = 1)) k) (k - fb_ct (fun i => decide (tb (l i) f = 1)) k))))) (wSi S)) := by
  refine e_of [some (.ref 0), some (.int (nI f)), none, none] rfl (by decide) rfl rfl rfl ?_
  refine r_iconst (v := 0) 1 dX4_worstLeft_0 rfl rfl ?_
  refine r_istore_n (i := 2) 2 dX4_worstLeft_1 rfl rfl rfl ?_
  refine r_iconst (v := 0) 3 dX4_worstLeft_2 rfl rfl ?_
  refine r_istore_n (i := 3) 4 dX4_worstLeft_3 rfl rfl rfl ?_
  exact l_worst h hN hf _ 0 rfl (Nat.zero_le _)
def pPost (S : SiT) (k : Nat) (l : Nat → Nat) (F : FlT) (A : sA) : Option Value → mm_W → Prop := fun v u => v = none ∧ ∃ (ll : Nat → Int32), u = wSF (siL S S.2.2.2.2.1 ll) F ∧ lok (siL S S.2.2.2.2.1 ll) k (fun i => nx A (l i)) (sN A)
theorem l_pass (hF : fok F A) {k : Nat} {l : Nat → Nat} (a1 : S.2.2.2.2.1 = nI k) (a2 : k ≤ 64) : ∀ (j i : Nat) (ll : Nat → Int32), k - i = j → i ≤ k → (∀ q, q < i → ll q = nI (nx A (l q))) → (∀ q, i ≤ q → q < k → ll q = nI (l q) ∧ l q < 2 ^ sN A) → mm_r (d + 3) mX4_passYear (pPost S k l F A) 2 [some (.ref 0), some (.ref 5), some (.int (nI i))] [] (wSF (siL S S.2.2.2.2.1 ll) F) := by
  intro j
  have p6 := p2_le hF.n6
  induction j with
  | zero =>
    intro i ll hj hi h1 h2
    have e : i = k := by omega
    refine r_iload_n (i := 2) 3 dX4_passYear_2 rfl rfl rfl ?_
    refine r_aload_n (i := 0) 4 dX4_passYear_3 rfl rfl rfl ?_
    refine r_getf 7 dX4_passYear_4 rfl fl_X4_42 rfl rfl ?_
    refine r_icmp_ge 32 10 dX4_passYear_7 rfl rfl (fun h7 => ?_) (fun h7 => absurd (show S.2.2.2.2.1 ≤ nI i from by rw [a1, e]; exact Int32.le_refl _) h7)
    exact r_retv dX4_passYear_32 rfl ⟨Nat.le_refl _, Nat.le_refl _⟩ (fun _ => rfl) (⟨rfl, ll, rfl, a1, a2, fun q hq => ⟨h1 q (by omega), nx_lt A _⟩⟩)
  | succ j ih =>
    intro i ll hj hi h1 h2
    have hi2 : i < k := by omega
    obtain ⟨c1, c2⟩ := h2 i (Nat.le_refl _) hi2
    have hin : vp_in (nI i) 64 := vp_in_nI (by omega) (by decide)
    refine r_iload_n (i := 2) 3 dX4_passYear_2 rfl rfl rfl ?_
    refine r_aload_n (i := 0) 4 dX4_passYear_3 rfl rfl rfl ?_
    refine r_getf 7 dX4_passYear_4 rfl fl_X4_42 rfl rfl ?_
    refine r_icmp_ge 32 10 dX4_passYear_7 rfl rfl (fun h7 => absurd (ble_of (a := k) (b := i) (by omega) (by omega) (by rw [← a1]; exact h7)) (by omega)) (fun h7 => ?_)
    refine r_aload_n (i := 0) 11 dX4_passYear_10 rfl rfl rfl ?_
    refine r_getf 14 dX4_passYear_11 rfl fl_X4_22 rfl rfl ?_
    refine r_iload_n (i := 2) 15 dX4_passYear_14 rfl rfl rfl ?_
    refine r_aload_n (i := 1) 16 dX4_passYear_15 rfl rfl rfl ?_
    refine r_aload_n (i := 0) 17 dX4_passYear_16 rfl rfl rfl ?_
    refine r_getf 20 dX4_passYear_17 rfl fl_X4_22 rfl rfl ?_
    refine r_iload_n (i := 2) 21 dX4_passYear_20 rfl rfl rfl ?_
    refine r_iald 22 dX4_passYear_21 rfl rfl (by assumption) ?_
    rw [nI_clamp (by omega), show (siL S S.2.2.2.2.1 ll).2.2.2.2.2 i = nI (l i) from c1]
    refine r_callVi [5, 6, 7, 8, 9, 10, 11, 12] 25 dX4_passYear_22 rfl ykX0_afterYear lk_X4_33 (e_afterYear hF (by omega)) rfl rfl rfl rfl rfl rfl rfl ⟨Nat.le_refl _, Nat.le_refl _⟩ ?_
    refine r_iast 26 dX4_passYear_25 rfl rfl (by assumption) ?_
    refine r_iinc (i := 2) 29 dX4_passYear_26 rfl rfl (by first | exact nI_1 _ | rfl) rfl ?_
    refine r_goto 2 dX4_passYear_29 rfl ?_
    rw [nI_clamp (n := i) (by omega)]
    exact ih (i + 1) (upd ll i (nI (nx A (l i)))) (by omega) (by omega) (fun q hq => by by_cases z : q = i <;> simp only [upd, z, if_true, if_false] <;> first | rfl | exact h1 q (by omega)) (fun q hq hq2 => by simp only [upd, if_neg (show ¬ q = i by omega)]; exact h2 q (by omega) hq2)
theorem e_pass (hF : fok F A) {k : Nat} {l : Nat → Nat} (h : lok S k l (sN A)) : mm_e (d + 3) yX4_passYear mX4_passYear [.ref 0, .ref 5] (wSF S F) (pPost S k l F A) := by
  refine e_of [some (.ref 0), some (.ref 5), none] rfl (by decide) rfl rfl rfl ?_
  refine r_iconst (v := 0) 1 dX4_passYear_0 rfl rfl ?_
  refine r_istore_n (i := 2) 2 dX4_passYear_1 rfl rfl rfl ?_
  refine r_eq (l_pass hF h.1 h.2.1 _ 0 S.2.2.2.2.2 rfl (Nat.zero_le _) (fun q hq => absurd hq (Nat.not_lt_zero q)) (fun q _ hq => h.2.2 q hq)) rfl rfl rfl
end X4
