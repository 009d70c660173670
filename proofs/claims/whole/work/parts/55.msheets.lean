section ME
variable {d : Nat} {S : sT} {w : mm_W} {W : MT} {A : sA}
def cpP (f : Nat → Int32) (a b n : Nat) : Nat → Int32 := fb_put f (fun k => f (a + k)) b n
theorem cp_out (f : Nat → Int32) (a b n k : Nat) (h : k < b ∨ b + n ≤ k) : cpP f a b n k = f k := fb_put_out h
theorem cp_in (f : Nat → Int32) (a b n i : Nat) (h : i < n) : cpP f a b n (b + i) = f (a + i) := by
  unfold cpP
  rw [fb_put_in (by omega) (by omega), show b + i - b = i by omega]
theorem cp_0 (f : Nat → Int32) (a b : Nat) : cpP f a b 0 = f := fb_put_0 _ _ _
theorem cp_succ (f : Nat → Int32) (a b n : Nat) : upd (cpP f a b n) (b + n) (f (a + n)) = cpP f a b (n + 1) := fb_put_succ _ _ _ _
theorem l2_copies {a b : Nat} (ha : a + 37 ≤ 148) (hb : b + 37 ≤ 148) (hab : a + 37 ≤ b ∨ b + 37 ≤ a) : ∀ (k t : Nat), 37 - t = k → t ≤ 37 → mm_r (d + 1) mX8_copies (mm_q none (wM (zSt W (cpP W.1.1 a b 37)))) 2 [some (.ref 0), some (.int (nI a)), some (.int (nI b)), some (.int (nI t))] [] (wM (zSt W (cpP W.1.1 a b t))) := by
  intro k
  induction k with
  | zero =>
    intro t hk ht
    have e : t = 37 := by omega
    subst e
    refine r_iload_n (i := 3) 3 dX8_copies_2 rfl rfl rfl ?_
    refine r_bipush (v := 37) 5 dX8_copies_3 rfl rfl ?_
    refine r_icmp_ge 30 8 dX8_copies_5 rfl rfl (fun h5 => ?_) (fun h5 => absurd (show (37 : Int32) ≤ nI 37 from by decide) h5)
    exact r_retv dX8_copies_30 rfl ⟨Nat.le_refl _, Nat.le_refl _⟩ (fun _ => rfl) (⟨rfl, rfl⟩)
  | succ k ih =>
    intro t hk ht
    have in1 : vp_in (nI (a + t)) 148 := vp_in_nI (by omega) (by decide)
    have in2 : vp_in (nI (b + t)) 148 := vp_in_nI (by omega) (by decide)
    have er : (zSt W (cpP W.1.1 a b t)).1.1 (a + t) = W.1.1 (a + t) := cp_out W.1.1 a b t (a + t) (by omega)
    refine r_iload_n (i := 3) 3 dX8_copies_2 rfl rfl rfl ?_
    refine r_bipush (v := 37) 5 dX8_copies_3 rfl rfl ?_
    refine r_icmp_ge 30 8 dX8_copies_5 rfl rfl (fun h5 => absurd (ble_of (a := 37) (b := t) (by decide) (by omega) h5) (by omega)) (fun h5 => ?_)
    refine r_aload_n (i := 0) 9 dX8_copies_8 rfl rfl rfl ?_
    refine r_getf 12 dX8_copies_9 rfl fl_X8_7 rfl rfl ?_
    refine r_iload_n (i := 2) 13 dX8_copies_12 rfl rfl rfl ?_
    refine r_iload_n (i := 3) 14 dX8_copies_13 rfl rfl rfl ?_
    refine r_iadd 15 dX8_copies_14 rfl ?_
    rw [nI_add]
    refine r_aload_n (i := 0) 16 dX8_copies_15 rfl rfl rfl ?_
    refine r_getf 19 dX8_copies_16 rfl fl_X8_7 rfl rfl ?_
    refine r_iload_n (i := 1) 20 dX8_copies_19 rfl rfl rfl ?_
    refine r_iload_n (i := 3) 21 dX8_copies_20 rfl rfl rfl ?_
    refine r_iadd 22 dX8_copies_21 rfl ?_
    rw [nI_add]
    refine r_iald 23 dX8_copies_22 rfl rfl (by assumption) ?_
    rw [nI_clamp (n := a + t) (by omega), er]
    refine r_iast 24 dX8_copies_23 rfl rfl (by assumption) ?_
    refine r_iinc (i := 3) 27 dX8_copies_24 rfl rfl (by first | exact nI_1 _ | rfl) rfl ?_
    refine r_goto 2 dX8_copies_27 rfl ?_
    refine r_eq (ih (t + 1) (by omega) (by omega)) rfl rfl ?_
    rw [nI_clamp (n := b + t) (by omega), ← cp_succ]
    rfl
theorem e2_copies {a b : Nat} (ha : a + 37 ≤ 148) (hb : b + 37 ≤ 148) (hab : a + 37 ≤ b ∨ b + 37 ≤ a) : mm_e (d + 1) yX8_copies mX8_copies [.ref 0, .int (nI a), .int (nI b)] (wM W) (mm_q none (wM (zSt W (cpP W.1.1 a b 37)))) := by
  refine e_of [some (.ref 0), some (.int (nI a)), some (.int (nI b)), none] rfl (by decide) rfl rfl rfl ?_
  refine r_iconst (v := 0) 1 dX8_copies_0 rfl rfl ?_
  refine r_istore_n (i := 3) 2 dX8_copies_1 rfl rfl rfl ?_
  refine r_eq (l2_copies ha hb hab _ 0 rfl (Nat.zero_le _)) rfl rfl (by rw [cp_0])
theorem c37 (k : Nat) : (37 : Int32) * (nI k + 1) = nI (37 * (k + 1)) := by rw [nI_1, show (37 : Int32) = nI 37 from rfl, pk_mul]
theorem c40 (k : Nat) : (40 : Int32) * nI k = nI (40 * k) := by rw [show (40 : Int32) = nI 40 from rfl, pk_mul]
theorem q_keep (hT : tOk S) (hC : CM S w) (k : Int32) : mm_e (d + 2) yX8_keep mX8_keep [.ref 0, .int k] w (QM (s_keep S k).1 (s_keep S k).2) := by
  have hC0 := hC
  obtain ⟨W, rfl, hR⟩ := hC
  obtain ⟨hM, ⟨hx, hy⟩, ⟨ht, hb⟩, hf, ⟨v1, v2⟩, ⟨hk0, hk1⟩, hI, hH, hn⟩ := id hR
  have h6 := hM.n6
  have h4 := hM.g4
  have h5 := hM.b4
  have p6 := p2_le hM.n6
  have l0 := hM.lt31 hT.2.1
  have i18 : vp_in (18 : Int32) 148 := vp_in_nI (n := 18) (by decide) (by decide)
  have i35 : vp_in (35 : Int32) 148 := vp_in_nI (n := 35) (by decide) (by decide)
  have i36 : vp_in (36 : Int32) 148 := vp_in_nI (n := 36) (by decide) (by decide)
  have ex : W.1.1 (18 : Int32).toNatClampNeg = nI (tX S) := hx
  have ey : W.1.1 (36 : Int32).toNatClampNeg = nI (tY S) := hy
  have eb : W.1.1 (35 : Int32).toNatClampNeg = nI (sB (tA S)) := hM.bn
  refine e_of [some (.ref 0), some (.int k), none] rfl (by decide) rfl rfl rfl ?_
  rw [s_keep]
  cases g : inb 2 k with
  | false =>
    refine r_iload_n (i := 1) 1 dX8_keep_0 rfl rfl rfl ?_
    refine r_i2l 2 dX8_keep_1 rfl ?_
    refine r_lconst (v := 0) 3 dX8_keep_2 rfl rfl ?_
    refine r_lconst (v := 1) 4 dX8_keep_3 rfl rfl ?_
    refine r_callSi [] 7 dX8_keep_4 rfl ykX8_in lk_X8_46 (e_in0 k (n := 2) (by decide) (by decide)) rfl rfl rfl ⟨Nat.le_refl _, Nat.le_refl _⟩ ?_
    rw [show inb (nI 2) k = false from g]
    refine r_if_ne 12 10 dX8_keep_7 rfl rfl (fun h7 => absurd rfl h7) (fun h7 => ?_)
    refine r_iconst (v := (-1)) 11 dX8_keep_10 rfl rfl ?_
    exact r_reti dX8_keep_11 rfl (by first | rfl | exact bI_nar _) ⟨Nat.le_refl _, Nat.le_refl _⟩ (fun _ => rfl) (⟨rfl, hC0⟩)
  | true =>
    obtain ⟨j, hj, rfl⟩ := inb_nI (n := 2) (by decide) g
    rw [nI_clamp (n := j) (by omega), if_pos rfl]
    have hin : vp_in (nI j) 2 := vp_in_nI hj (by decide)
    have ekj : W.2.2.2.2.2.2.2.1 j = bI (tI S j).isSome := by
      rcases (by omega : j = 0 ∨ j = 1) with rfl | rfl
      · exact hk0
      · exact hk1
    have fin : ∃ W2 : MT, wM (zZz (zSt W (cpP W.1.1 0 (37 * (j + 1)) 37)) (upd W.2.2.2.2.2.2.2.1 j 1, W.2.2.2.2.2.2.2.2)) = wM W2 ∧ relM W2 (tSI S (fun i => if i = j then some (tA S, tX S, tY S) else tI S i)) := by
      refine ⟨((cpP W.1.1 0 (37 * (j + 1)) 37, W.1.2), W.2.1, W.2.2.1, W.2.2.2.1, W.2.2.2.2.1, W.2.2.2.2.2.1, W.2.2.2.2.2.2.1, (upd W.2.2.2.2.2.2.2.1 j 1, W.2.2.2.2.2.2.2.2)), rfl, ⟨hM.1, hM.2.1, mpg_cong hM.2.2 (fun i hi _ => cp_out W.1.1 0 (37 * (j + 1)) 37 _ (by omega))⟩, ⟨(cp_out W.1.1 0 (37 * (j + 1)) 37 _ (by omega)).trans hx, (cp_out W.1.1 0 (37 * (j + 1)) 37 _ (by omega)).trans hy⟩, ⟨ht, hb⟩, hf, ⟨v1, v2⟩, ?_, ?_, hH, hn⟩
      · rcases (by omega : j = 0 ∨ j = 1) with rfl | rfl
        · exact ⟨rfl, hk1⟩
        · exact ⟨hk0, rfl⟩
      · intro k' hk' q hq
        have hq : (if k' = j then some (tA S, tX S, tY S) else tI S k') = some q := hq
        by_cases z : k' = j
        · rw [if_pos z] at hq
          cases hq
          subst z
          refine ⟨mpg_cong hM.2.2 (fun i hi _ => ?_), ?_, ?_⟩
          · exact (cp_in W.1.1 0 (37 * (k' + 1)) 37 i (by omega)).trans (by rw [Nat.zero_add])
          · exact (cp_in W.1.1 0 (37 * (k' + 1)) 37 18 (by decide)).trans hx
          · exact (cp_in W.1.1 0 (37 * (k' + 1)) 37 36 (by decide)).trans hy
        · rw [if_neg z] at hq
          obtain ⟨a1, a2, a3⟩ := hI k' hk' q hq
          refine ⟨mpg_cong a1 (fun i hi _ => cp_out W.1.1 0 (37 * (j + 1)) 37 _ (by omega)), (cp_out W.1.1 0 (37 * (j + 1)) 37 _ (by omega)).trans a2, (cp_out W.1.1 0 (37 * (j + 1)) 37 _ (by omega)).trans a3⟩
    refine r_iload_n (i := 1) 1 dX8_keep_0 rfl rfl rfl ?_
    refine r_i2l 2 dX8_keep_1 rfl ?_
    refine r_lconst (v := 0) 3 dX8_keep_2 rfl rfl ?_
    refine r_lconst (v := 1) 4 dX8_keep_3 rfl rfl ?_
    refine r_callSi [] 7 dX8_keep_4 rfl ykX8_in lk_X8_46 (e_in0 (nI j) (n := 2) (by decide) (by decide)) rfl rfl rfl ⟨Nat.le_refl _, Nat.le_refl _⟩ ?_
    rw [show inb (nI 2) (nI j) = true from g]
    refine r_if_ne 12 10 dX8_keep_7 rfl rfl (fun h7 => ?_) (fun h7 => absurd h7 (by decide))
    refine r_aload_n (i := 0) 13 dX8_keep_12 rfl rfl rfl ?_
    refine r_iconst (v := 0) 14 dX8_keep_13 rfl rfl ?_
    refine r_bipush (v := 37) 16 dX8_keep_14 rfl rfl ?_
    refine r_iload_n (i := 1) 17 dX8_keep_16 rfl rfl rfl ?_
    refine r_iconst (v := 1) 18 dX8_keep_17 rfl rfl ?_
    refine r_iadd 19 dX8_keep_18 rfl ?_
    refine r_imul 20 dX8_keep_19 rfl ?_
    rw [c37]
    refine r_callMu 23 dX8_keep_20 rfl ykX8_copies lk_X8_278 (e2_copies (a := 0) (b := 37 * (j + 1)) (by decide) (by omega) (by omega)) rfl rfl rfl rfl rfl rfl ⟨Nat.le_refl _, Nat.le_refl _⟩ ?_
    refine r_aload_n (i := 0) 24 dX8_keep_23 rfl rfl rfl ?_
    refine r_getf 27 dX8_keep_24 rfl fl_X8_31 rfl rfl ?_
    refine r_iload_n (i := 1) 28 dX8_keep_27 rfl rfl rfl ?_
    refine r_zald 29 dX8_keep_28 rfl rfl (by assumption) ?_
    rw [nI_clamp (n := j) (by omega), show (zSt W (cpP W.1.1 0 (37 * (j + 1)) 37)).2.2.2.2.2.2.2.1 j = bI (tI S j).isSome from ekj]
    refine r_if_eq 36 32 dX8_keep_29 rfl rfl (fun h29 => ?_) (fun h29 => ?_)
    · have e0 := bI_eq0 h29
      refine r_iconst (v := 0) 37 dX8_keep_36 rfl rfl ?_
      refine r_istore_n (i := 2) 38 dX8_keep_37 rfl rfl rfl ?_
      refine r_aload_n (i := 0) 39 dX8_keep_38 rfl rfl rfl ?_
      refine r_getf 42 dX8_keep_39 rfl fl_X8_31 rfl rfl ?_
      refine r_iload_n (i := 1) 43 dX8_keep_42 rfl rfl rfl ?_
      refine r_iconst (v := 1) 44 dX8_keep_43 rfl rfl ?_
      refine r_zast 45 dX8_keep_44 rfl rfl (by assumption) (rfl) ?_
      rw [nI_clamp (n := j) (by omega)]
      refine r_iload_n (i := 2) 46 dX8_keep_45 rfl rfl rfl ?_
      exact r_reti dX8_keep_46 rfl (by first | rfl | exact bI_nar _) ⟨Nat.le_refl _, Nat.le_refl _⟩ (fun _ => rfl) (⟨by rw [e0] <;> rfl, fin⟩)
    · have e0 := bI_ne0 h29
      refine r_iconst (v := 1) 33 dX8_keep_32 rfl rfl ?_
      refine r_goto 37 dX8_keep_33 rfl ?_
      refine r_istore_n (i := 2) 38 dX8_keep_37 rfl rfl rfl ?_
      refine r_aload_n (i := 0) 39 dX8_keep_38 rfl rfl rfl ?_
      refine r_getf 42 dX8_keep_39 rfl fl_X8_31 rfl rfl ?_
      refine r_iload_n (i := 1) 43 dX8_keep_42 rfl rfl rfl ?_
      refine r_iconst (v := 1) 44 dX8_keep_43 rfl rfl ?_
      refine r_zast 45 dX8_keep_44 rfl rfl (by assumption) (rfl) ?_
      rw [nI_clamp (n := j) (by omega)]
      refine r_iload_n (i := 2) 46 dX8_keep_45 rfl rfl rfl ?_
      exact r_reti dX8_keep_46 rfl (by first | rfl | exact bI_nar _) ⟨Nat.le_refl _, Nat.le_refl _⟩ (fun _ => rfl) (⟨by rw [e0] <;> rfl, fin⟩)
theorem q_back (hT : tOk S) (hC : CM S w) (k : Int32) : mm_e (d + 2) yX8_back mX8_back [.ref 0, .int k] w (QM (s_back S k).1 (s_back S k).2) := by
  have hC0 := hC
  obtain ⟨W, rfl, hR⟩ := hC
  obtain ⟨hM, ⟨hx, hy⟩, ⟨ht, hb⟩, hf, ⟨v1, v2⟩, ⟨hk0, hk1⟩, hI, hH, hn⟩ := id hR
  have h6 := hM.n6
  have h4 := hM.g4
  have h5 := hM.b4
  have p6 := p2_le hM.n6
  have l0 := hM.lt31 hT.2.1
  have i18 : vp_in (18 : Int32) 148 := vp_in_nI (n := 18) (by decide) (by decide)
  have i35 : vp_in (35 : Int32) 148 := vp_in_nI (n := 35) (by decide) (by decide)
  have i36 : vp_in (36 : Int32) 148 := vp_in_nI (n := 36) (by decide) (by decide)
  have ex : W.1.1 (18 : Int32).toNatClampNeg = nI (tX S) := hx
  have ey : W.1.1 (36 : Int32).toNatClampNeg = nI (tY S) := hy
  have eb : W.1.1 (35 : Int32).toNatClampNeg = nI (sB (tA S)) := hM.bn
  refine e_of [some (.ref 0), some (.int k)] rfl (by decide) rfl rfl rfl ?_
  rw [s_back]
  cases g : inb 2 k with
  | false =>
    refine r_iload_n (i := 1) 1 dX8_back_0 rfl rfl rfl ?_
    refine r_i2l 2 dX8_back_1 rfl ?_
    refine r_lconst (v := 0) 3 dX8_back_2 rfl rfl ?_
    refine r_lconst (v := 1) 4 dX8_back_3 rfl rfl ?_
    refine r_callSi [] 7 dX8_back_4 rfl ykX8_in lk_X8_46 (e_in0 k (n := 2) (by decide) (by decide)) rfl rfl rfl ⟨Nat.le_refl _, Nat.le_refl _⟩ ?_
    rw [show inb (nI 2) k = false from g]
    refine r_if_ne 12 10 dX8_back_7 rfl rfl (fun h7 => absurd rfl h7) (fun h7 => ?_)
    refine r_iconst (v := (-1)) 11 dX8_back_10 rfl rfl ?_
    exact r_reti dX8_back_11 rfl (by first | rfl | exact bI_nar _) ⟨Nat.le_refl _, Nat.le_refl _⟩ (fun _ => rfl) (⟨rfl, hC0⟩)
  | true =>
    obtain ⟨j, hj, rfl⟩ := inb_nI (n := 2) (by decide) g
    rw [nI_clamp (n := j) (by omega), if_pos rfl]
    have hin : vp_in (nI j) 2 := vp_in_nI hj (by decide)
    have ekj : W.2.2.2.2.2.2.2.1 j = bI (tI S j).isSome := by
      rcases (by omega : j = 0 ∨ j = 1) with rfl | rfl
      · exact hk0
      · exact hk1
    cases hq : tI S j with
    | none =>
      refine r_iload_n (i := 1) 1 dX8_back_0 rfl rfl rfl ?_
      refine r_i2l 2 dX8_back_1 rfl ?_
      refine r_lconst (v := 0) 3 dX8_back_2 rfl rfl ?_
      refine r_lconst (v := 1) 4 dX8_back_3 rfl rfl ?_
      refine r_callSi [] 7 dX8_back_4 rfl ykX8_in lk_X8_46 (e_in0 (nI j) (n := 2) (by decide) (by decide)) rfl rfl rfl ⟨Nat.le_refl _, Nat.le_refl _⟩ ?_
      rw [show inb (nI 2) (nI j) = true from g]
      refine r_if_ne 12 10 dX8_back_7 rfl rfl (fun h7 => ?_) (fun h7 => absurd h7 (by decide))
      refine r_aload_n (i := 0) 13 dX8_back_12 rfl rfl rfl ?_
      refine r_getf 16 dX8_back_13 rfl fl_X8_31 rfl rfl ?_
      refine r_iload_n (i := 1) 17 dX8_back_16 rfl rfl rfl ?_
      refine r_zald 18 dX8_back_17 rfl rfl (by assumption) ?_
      rw [nI_clamp (n := j) (by omega), ekj, hq]
      refine r_if_ne 24 21 dX8_back_18 rfl rfl (fun h18 => absurd rfl h18) (fun h18 => ?_)
      refine r_bipush (v := (-2)) 23 dX8_back_21 rfl rfl ?_
      exact r_reti dX8_back_23 rfl (by first | rfl | exact bI_nar _) ⟨Nat.le_refl _, Nat.le_refl _⟩ (fun _ => rfl) (⟨rfl, hC0⟩)
    | some q =>
      obtain ⟨a1, a2, a3⟩ := hI j hj q hq
      obtain ⟨b1, b2, b3, b4, b5⟩ := hT.2.2.2.2.2.2.2.1 j hj q hq
      have eP : ∀ i, i < 37 → cpP W.1.1 (37 * (j + 1)) 0 37 i = W.1.1 (37 * (j + 1) + i) := fun i hi => by
        have := cp_in W.1.1 (37 * (j + 1)) 0 37 i hi
        rw [Nat.zero_add] at this
        exact this
      refine r_iload_n (i := 1) 1 dX8_back_0 rfl rfl rfl ?_
      refine r_i2l 2 dX8_back_1 rfl ?_
      refine r_lconst (v := 0) 3 dX8_back_2 rfl rfl ?_
      refine r_lconst (v := 1) 4 dX8_back_3 rfl rfl ?_
      refine r_callSi [] 7 dX8_back_4 rfl ykX8_in lk_X8_46 (e_in0 (nI j) (n := 2) (by decide) (by decide)) rfl rfl rfl ⟨Nat.le_refl _, Nat.le_refl _⟩ ?_
      rw [show inb (nI 2) (nI j) = true from g]
      refine r_if_ne 12 10 dX8_back_7 rfl rfl (fun h7 => ?_) (fun h7 => absurd h7 (by decide))
      refine r_aload_n (i := 0) 13 dX8_back_12 rfl rfl rfl ?_
      refine r_getf 16 dX8_back_13 rfl fl_X8_31 rfl rfl ?_
      refine r_iload_n (i := 1) 17 dX8_back_16 rfl rfl rfl ?_
      refine r_zald 18 dX8_back_17 rfl rfl (by assumption) ?_
      rw [nI_clamp (n := j) (by omega), ekj, hq]
      refine r_if_ne 24 21 dX8_back_18 rfl rfl (fun h18 => ?_) (fun h18 => absurd (show (1 : Int32) = 0 from h18) (by decide))
      refine r_aload_n (i := 0) 25 dX8_back_24 rfl rfl rfl ?_
      refine r_bipush (v := 37) 27 dX8_back_25 rfl rfl ?_
      refine r_iload_n (i := 1) 28 dX8_back_27 rfl rfl rfl ?_
      refine r_iconst (v := 1) 29 dX8_back_28 rfl rfl ?_
      refine r_iadd 30 dX8_back_29 rfl ?_
      refine r_imul 31 dX8_back_30 rfl ?_
      rw [c37]
      refine r_iconst (v := 0) 32 dX8_back_31 rfl rfl ?_
      refine r_callMu 35 dX8_back_32 rfl ykX8_copies lk_X8_278 (e2_copies (a := 37 * (j + 1)) (b := 0) (by omega) (by decide) (by omega)) rfl rfl rfl rfl rfl rfl ⟨Nat.le_refl _, Nat.le_refl _⟩ ?_
      refine r_aload_n (i := 0) 36 dX8_back_35 rfl rfl rfl ?_
      refine r_getf 39 dX8_back_36 rfl fl_X8_7 rfl rfl ?_
      refine r_bipush (v := 36) 41 dX8_back_39 rfl rfl ?_
      refine r_iald 42 dX8_back_41 rfl rfl (by assumption) ?_
      rw [show (zSt W (cpP W.1.1 (37 * (j + 1)) 0 37)).1.1 (36 : Int32).toNatClampNeg = nI q.2.2 from (eP 36 (by decide)).trans a3]
      exact r_reti dX8_back_42 rfl (by first | rfl | exact bI_nar _) ⟨Nat.le_refl _, Nat.le_refl _⟩ (fun _ => rfl) (⟨rfl, ((cpP W.1.1 (37 * (j + 1)) 0 37, W.1.2), W.2), rfl, ⟨by show W.1.2.1 = nI (sN q.1); rw [b4]; exact hM.1, by show W.1.2.2 = nI (sG q.1); rw [b5]; exact hM.2.1, mpg_cong a1 (fun i hi _ => eP i (by omega))⟩, ⟨(eP 18 (by decide)).trans a2, (eP 36 (by decide)).trans a3⟩, ⟨ht, hb⟩, hf, ⟨v1, v2⟩, ⟨hk0, hk1⟩, fun k' hk' q' hq' => (by obtain ⟨c1, c2, c3⟩ := hI k' hk' q' hq'; exact ⟨mpg_cong c1 (fun i hi _ => cp_out W.1.1 (37 * (j + 1)) 0 37 _ (by omega)), (cp_out W.1.1 (37 * (j + 1)) 0 37 _ (by omega)).trans c2, (cp_out W.1.1 (37 * (j + 1)) 0 37 _ (by omega)).trans c3⟩), hH, hn⟩)
theorem shM_new {z : mZz} {H : (Nat → Nat) × (Nat → Nat) × (Nat → Nat → Int32)} (h : mSh z H) {k l n : Nat} (hk : k < 4) (hl : l < 3) : mSh (z.1, upd z.2.1 k (nI l), upd z.2.2.1 k (nI n), fb_put z.2.2.2.1 (fun _ => 0) (40 * k) 40, z.2.2.2.2) (updN H.1 k l, updN H.2.1 k n, fun i => if i = k then (fun _ => 0) else H.2.2 i) := by
  intro j hj
  obtain ⟨a1, a2, a3⟩ := h j hj
  by_cases q : j = k
  · subst q
    refine ⟨?_, ?_, fun i hi => ?_⟩
    · show upd z.2.1 j (nI l) j = laM (updN H.1 j l j)
      rw [u_at, updN_at, laM, if_neg (by omega)]
    · show upd z.2.2.1 j (nI n) j = nI (updN H.2.1 j n j)
      rw [u_at, updN_at]
    · show fb_put z.2.2.2.1 (fun _ => 0) (40 * j) 40 (40 * j + i) = (if j = j then (fun _ => (0 : Int32)) else H.2.2 j) i
      rw [fb_put_in (by omega) (by omega), if_pos rfl]
  · refine ⟨?_, ?_, fun i hi => ?_⟩
    · show upd z.2.1 k (nI l) j = laM (updN H.1 k l j)
      rw [u_ne q, updN_ne _ _ q]; exact a1
    · show upd z.2.2.1 k (nI n) j = nI (updN H.2.1 k n j)
      rw [u_ne q, updN_ne _ _ q]; exact a2
    · show fb_put z.2.2.2.1 (fun _ => 0) (40 * k) 40 (40 * j + i) = (if j = k then (fun _ => (0 : Int32)) else H.2.2 j) i
      rw [fb_put_out (by omega), if_neg q]; exact a3 i hi
theorem shM_lay {z : mZz} {H : (Nat → Nat) × (Nat → Nat) × (Nat → Nat → Int32)} (h : mSh z H) {k m : Nat} {v : Int32} (hk : k < 4) (hm : m < 40) : mSh (z.1, z.2.1, z.2.2.1, upd z.2.2.2.1 (40 * k + m) v, z.2.2.2.2) (H.1, H.2.1, fun j => if j = k then upd (H.2.2 j) m v else H.2.2 j) := by
  intro j hj
  obtain ⟨a1, a2, a3⟩ := h j hj
  refine ⟨a1, a2, fun i hi => ?_⟩
  show upd z.2.2.2.1 (40 * k + m) v (40 * j + i) = (if j = k then upd (H.2.2 j) m v else H.2.2 j) i
  by_cases q : j = k
  · subst q
    rw [if_pos rfl]
    by_cases q2 : i = m
    · subst q2; rw [u_at, u_at]
    · rw [u_ne (by omega), u_ne q2]; exact a3 i hi
  · rw [if_neg q, u_ne (by omega)]; exact a3 i hi
theorem laM_3 {l : Nat} (h : l ≤ 3) : laM l = -4 ↔ l = 3 := by
  rcases (by omega : l = 0 ∨ l = 1 ∨ l = 2 ∨ l = 3) with z | z | z | z <;> rw [z] <;> decide
theorem laM_n {l : Nat} (h : l ≤ 3) (h3 : ¬ l = 3) : laM l = nI l := by rw [laM, if_neg h3]
theorem l2_sheet {k : Nat} (hk4 : k < 4) {a b c : Int32} {Qf : Option Value → mm_W → Prop} (kk : mm_r (d + 2) mX8_sheet Qf 82 [some (.ref 0), some (.int (nI k)), some (.int b), some (.int c), some (.int (nI 40))] [] (wM (zZz W (W.2.2.2.2.2.2.2.1, W.2.2.2.2.2.2.2.2.1, W.2.2.2.2.2.2.2.2.2.1, fb_put W.2.2.2.2.2.2.2.2.2.2.1 (fun _ => 0) (40 * k) 40, W.2.2.2.2.2.2.2.2.2.2.2)))) : ∀ (j t : Nat), 40 - t = j → t ≤ 40 → mm_r (d + 2) mX8_sheet Qf 56 [some (.ref 0), some (.int (nI k)), some (.int b), some (.int c), some (.int (nI t))] [] (wM (zZz W (W.2.2.2.2.2.2.2.1, W.2.2.2.2.2.2.2.2.1, W.2.2.2.2.2.2.2.2.2.1, fb_put W.2.2.2.2.2.2.2.2.2.2.1 (fun _ => 0) (40 * k) t, W.2.2.2.2.2.2.2.2.2.2.2))) := by
  intro j
  induction j with
  | zero =>
    intro t hj ht
    have e : t = 40 := by omega
    subst e
    refine r_iload (i := 4) 58 dX8_sheet_56 rfl rfl ?_
    refine r_bipush (v := 40) 60 dX8_sheet_58 rfl rfl ?_
    refine r_icmp_ge 82 63 dX8_sheet_60 rfl rfl (fun h60 => ?_) (fun h60 => absurd (show (40 : Int32) ≤ nI 40 from by decide) h60)
    exact kk
  | succ j ih =>
    intro t hj ht
    have in1 : vp_in (nI (40 * k + t)) 160 := vp_in_nI (by omega) (by decide)
    refine r_iload (i := 4) 58 dX8_sheet_56 rfl rfl ?_
    refine r_bipush (v := 40) 60 dX8_sheet_58 rfl rfl ?_
    refine r_icmp_ge 82 63 dX8_sheet_60 rfl rfl (fun h60 => absurd (ble_of (a := 40) (b := t) (by decide) (by omega) h60) (by omega)) (fun h60 => ?_)
    refine r_aload_n (i := 0) 64 dX8_sheet_63 rfl rfl rfl ?_
    refine r_getf 67 dX8_sheet_64 rfl fl_X8_41 rfl rfl ?_
    refine r_bipush (v := 40) 69 dX8_sheet_67 rfl rfl ?_
    refine r_iload_n (i := 1) 70 dX8_sheet_69 rfl rfl rfl ?_
    refine r_imul 71 dX8_sheet_70 rfl ?_
    refine r_iload (i := 4) 73 dX8_sheet_71 rfl rfl ?_
    refine r_iadd 74 dX8_sheet_73 rfl ?_
    rw [c40, nI_add]
    refine r_iconst (v := 0) 75 dX8_sheet_74 rfl rfl ?_
    refine r_iast 76 dX8_sheet_75 rfl rfl (by assumption) ?_
    refine r_iinc (i := 4) 79 dX8_sheet_76 rfl rfl (by first | exact nI_1 _ | rfl) rfl ?_
    refine r_goto 56 dX8_sheet_79 rfl ?_
    refine r_eq (ih (t + 1) (by omega) (by omega)) rfl rfl ?_
    rw [nI_clamp (n := 40 * k + t) (by omega), ← fb_put_succ]
    rfl
theorem q_sheet (hT : tOk S) (hC : CM S w) (k : Int32) (lane : Int32) (n : Int32) : mm_e (d + 2) yX8_sheet mX8_sheet [.ref 0, .int k, .int lane, .int n] w (QM (s_sheet S k lane n).1 (s_sheet S k lane n).2) := by
  have hC0 := hC
  obtain ⟨W, rfl, hR⟩ := hC
  obtain ⟨hM, ⟨hx, hy⟩, ⟨ht, hb⟩, hf, ⟨v1, v2⟩, ⟨hk0, hk1⟩, hI, hH, hn⟩ := id hR
  have h6 := hM.n6
  have h4 := hM.g4
  have h5 := hM.b4
  have p6 := p2_le hM.n6
  have l0 := hM.lt31 hT.2.1
  have i18 : vp_in (18 : Int32) 148 := vp_in_nI (n := 18) (by decide) (by decide)
  have i35 : vp_in (35 : Int32) 148 := vp_in_nI (n := 35) (by decide) (by decide)
  have i36 : vp_in (36 : Int32) 148 := vp_in_nI (n := 36) (by decide) (by decide)
  have ex : W.1.1 (18 : Int32).toNatClampNeg = nI (tX S) := hx
  have ey : W.1.1 (36 : Int32).toNatClampNeg = nI (tY S) := hy
  have eb : W.1.1 (35 : Int32).toNatClampNeg = nI (sB (tA S)) := hM.bn
  refine e_of [some (.ref 0), some (.int k), some (.int lane), some (.int n), none] rfl (by decide) rfl rfl rfl ?_
  rw [s_sheet]
  cases g : inb 4 k with
  | false =>
    refine r_iload_n (i := 1) 1 dX8_sheet_0 rfl rfl rfl ?_
    refine r_i2l 2 dX8_sheet_1 rfl ?_
    refine r_lconst (v := 0) 3 dX8_sheet_2 rfl rfl ?_
    refine r_ldc2 6 dX8_sheet_3 rfl k_X8_194 ?_
    refine r_callSi [] 9 dX8_sheet_6 rfl ykX8_in lk_X8_46 (e_in0 k (n := 4) (by decide) (by decide)) rfl rfl rfl ⟨Nat.le_refl _, Nat.le_refl _⟩ ?_
    rw [show inb (nI 4) k = false from g]
    refine r_if_eq 30 12 dX8_sheet_9 rfl rfl (fun h9 => ?_) (fun h9 => absurd rfl h9)
    refine r_iconst (v := (-1)) 31 dX8_sheet_30 rfl rfl ?_
    exact r_reti dX8_sheet_31 rfl (by first | rfl | exact bI_nar _) ⟨Nat.le_refl _, Nat.le_refl _⟩ (fun _ => rfl) (⟨rfl, hC0⟩)
  | true =>
    cases g2 : inb 3 lane with
    | false =>
      refine r_iload_n (i := 1) 1 dX8_sheet_0 rfl rfl rfl ?_
      refine r_i2l 2 dX8_sheet_1 rfl ?_
      refine r_lconst (v := 0) 3 dX8_sheet_2 rfl rfl ?_
      refine r_ldc2 6 dX8_sheet_3 rfl k_X8_194 ?_
      refine r_callSi [] 9 dX8_sheet_6 rfl ykX8_in lk_X8_46 (e_in0 k (n := 4) (by decide) (by decide)) rfl rfl rfl ⟨Nat.le_refl _, Nat.le_refl _⟩ ?_
      rw [show inb (nI 4) k = true from g]
      refine r_if_eq 30 12 dX8_sheet_9 rfl rfl (fun h9 => absurd h9 (by decide)) (fun h9 => ?_)
      refine r_iload_n (i := 2) 13 dX8_sheet_12 rfl rfl rfl ?_
      refine r_i2l 14 dX8_sheet_13 rfl ?_
      refine r_lconst (v := 0) 15 dX8_sheet_14 rfl rfl ?_
      refine r_ldc2 18 dX8_sheet_15 rfl k_X8_169 ?_
      refine r_callSi [] 21 dX8_sheet_18 rfl ykX8_in lk_X8_46 (e_in0 lane (n := 3) (by decide) (by decide)) rfl rfl rfl ⟨Nat.le_refl _, Nat.le_refl _⟩ ?_
      rw [show inb (nI 3) lane = false from g2]
      refine r_if_eq 30 24 dX8_sheet_21 rfl rfl (fun h21 => ?_) (fun h21 => absurd rfl h21)
      refine r_iconst (v := (-1)) 31 dX8_sheet_30 rfl rfl ?_
      exact r_reti dX8_sheet_31 rfl (by first | rfl | exact bI_nar _) ⟨Nat.le_refl _, Nat.le_refl _⟩ (fun _ => rfl) (⟨rfl, hC0⟩)
    | true =>
      obtain ⟨i, hi, rfl⟩ := inb_nI (n := 4) (by decide) g
      obtain ⟨j, hj, rfl⟩ := inb_nI (n := 3) (by decide) g2
      have hin : vp_in (nI i) 4 := vp_in_nI hi (by decide)
      have fin : ∀ m, mm_r (d + 2) mX8_sheet (QM 1 (tSH S (updN (tH S).1 i j, updN (tH S).2.1 i m, fun z => if z = i then (fun _ => 0) else (tH S).2.2 z))) 82 [some (.ref 0), some (.int (nI i)), some (.int (nI j)), some (.int (nI m)), some (.int (nI 40))] [] (wM (zZz W (W.2.2.2.2.2.2.2.1, upd W.2.2.2.2.2.2.2.2.1 i (nI j), upd W.2.2.2.2.2.2.2.2.2.1 i (nI m), fb_put W.2.2.2.2.2.2.2.2.2.2.1 (fun _ => 0) (40 * i) 40, W.2.2.2.2.2.2.2.2.2.2.2))) := by
        intro m
        refine r_iconst (v := 1) 83 dX8_sheet_82 rfl rfl ?_
        exact r_reti dX8_sheet_83 rfl (by first | rfl | exact bI_nar _) ⟨Nat.le_refl _, Nat.le_refl _⟩ (fun _ => rfl) (⟨rfl, _, rfl, hM, ⟨hx, hy⟩, ⟨ht, hb⟩, hf, ⟨v1, v2⟩, ⟨hk0, hk1⟩, hI, shM_new hH hi hj, hn⟩)
      rw [nI_clamp (n := i) (by omega), nI_clamp (n := j) (by omega), Bool.and_self, Bool.true_and]
      refine r_iload_n (i := 1) 1 dX8_sheet_0 rfl rfl rfl ?_
      refine r_i2l 2 dX8_sheet_1 rfl ?_
      refine r_lconst (v := 0) 3 dX8_sheet_2 rfl rfl ?_
      refine r_ldc2 6 dX8_sheet_3 rfl k_X8_194 ?_
      refine r_callSi [] 9 dX8_sheet_6 rfl ykX8_in lk_X8_46 (e_in0 (nI i) (n := 4) (by decide) (by decide)) rfl rfl rfl ⟨Nat.le_refl _, Nat.le_refl _⟩ ?_
      rw [show inb (nI 4) (nI i) = true from g]
      refine r_if_eq 30 12 dX8_sheet_9 rfl rfl (fun h9 => absurd h9 (by decide)) (fun h9 => ?_)
      refine r_iload_n (i := 2) 13 dX8_sheet_12 rfl rfl rfl ?_
      refine r_i2l 14 dX8_sheet_13 rfl ?_
      refine r_lconst (v := 0) 15 dX8_sheet_14 rfl rfl ?_
      refine r_ldc2 18 dX8_sheet_15 rfl k_X8_169 ?_
      refine r_callSi [] 21 dX8_sheet_18 rfl ykX8_in lk_X8_46 (e_in0 (nI j) (n := 3) (by decide) (by decide)) rfl rfl rfl ⟨Nat.le_refl _, Nat.le_refl _⟩ ?_
      rw [show inb (nI 3) (nI j) = true from g2]
      refine r_if_eq 30 24 dX8_sheet_21 rfl rfl (fun h21 => absurd h21 (by decide)) (fun h21 => ?_)
      refine r_iload_n (i := 3) 25 dX8_sheet_24 rfl rfl rfl ?_
      refine r_bipush (v := 40) 27 dX8_sheet_25 rfl rfl ?_
      refine r_icmp_le 32 30 dX8_sheet_27 rfl rfl (fun h27 => ?_) (fun h27 => ?_)
      · rw [if_pos (decide_eq_true h27)]
        refine r_iload_n (i := 3) 33 dX8_sheet_32 rfl rfl rfl ?_
        refine r_if_ge 39 36 dX8_sheet_33 rfl rfl (fun h33 => ?_) (fun h33 => ?_)
        · have h33' : ¬ n < 0 := (Int32.not_lt.mpr h33)
          rw [if_neg h33']
          refine r_aload_n (i := 0) 40 dX8_sheet_39 rfl rfl rfl ?_
          refine r_getf 43 dX8_sheet_40 rfl fl_X8_35 rfl rfl ?_
          refine r_iload_n (i := 1) 44 dX8_sheet_43 rfl rfl rfl ?_
          refine r_iload_n (i := 2) 45 dX8_sheet_44 rfl rfl rfl ?_
          refine r_iast 46 dX8_sheet_45 rfl rfl (by assumption) ?_
          refine r_aload_n (i := 0) 47 dX8_sheet_46 rfl rfl rfl ?_
          refine r_getf 50 dX8_sheet_47 rfl fl_X8_38 rfl rfl ?_
          refine r_iload_n (i := 1) 51 dX8_sheet_50 rfl rfl rfl ?_
          refine r_iload_n (i := 3) 52 dX8_sheet_51 rfl rfl rfl ?_
          refine r_iast 53 dX8_sheet_52 rfl rfl (by assumption) ?_
          refine r_iconst (v := 0) 54 dX8_sheet_53 rfl rfl ?_
          refine r_istore (i := 4) 56 dX8_sheet_54 rfl rfl ?_
          obtain ⟨m, hm, rfl⟩ := nI_of2 (n := 40) (M := 40) rfl h33' h27
          rw [nI_clamp (n := m) (by omega), nI_clamp (n := i) (by omega)]
          exact r_eq (l2_sheet (W := zZz W (W.2.2.2.2.2.2.2.1, upd W.2.2.2.2.2.2.2.2.1 i (nI j), upd W.2.2.2.2.2.2.2.2.2.1 i (nI m), W.2.2.2.2.2.2.2.2.2.2)) (a := 0) hi (fin m) _ 0 rfl (Nat.zero_le _)) rfl rfl (by rw [fb_put_0]; rfl)
        · have h33' : n < 0 := (Int32.not_le.mp h33)
          rw [if_pos h33']
          refine r_bipush (v := (-14)) 38 dX8_sheet_36 rfl rfl ?_
          exact r_reti dX8_sheet_38 rfl (by first | rfl | exact bI_nar _) ⟨Nat.le_refl _, Nat.le_refl _⟩ (fun _ => rfl) (⟨rfl, hC0⟩)
      · rw [if_neg (fun z => h27 (of_decide_eq_true z))]
        refine r_iconst (v := (-1)) 31 dX8_sheet_30 rfl rfl ?_
        exact r_reti dX8_sheet_31 rfl (by first | rfl | exact bI_nar _) ⟨Nat.le_refl _, Nat.le_refl _⟩ (fun _ => rfl) (⟨rfl, hC0⟩)
theorem q_lay (hT : tOk S) (hC : CM S w) (k : Int32) (i : Int32) (v : Int32) : mm_e (d + 2) yX8_lay mX8_lay [.ref 0, .int k, .int i, .int v] w (QM (s_lay S k i v).1 (s_lay S k i v).2) := by
  have hC0 := hC
  obtain ⟨W, rfl, hR⟩ := hC
  obtain ⟨hM, ⟨hx, hy⟩, ⟨ht, hb⟩, hf, ⟨v1, v2⟩, ⟨hk0, hk1⟩, hI, hH, hn⟩ := id hR
  have h6 := hM.n6
  have h4 := hM.g4
  have h5 := hM.b4
  have p6 := p2_le hM.n6
  have l0 := hM.lt31 hT.2.1
  have i18 : vp_in (18 : Int32) 148 := vp_in_nI (n := 18) (by decide) (by decide)
  have i35 : vp_in (35 : Int32) 148 := vp_in_nI (n := 35) (by decide) (by decide)
  have i36 : vp_in (36 : Int32) 148 := vp_in_nI (n := 36) (by decide) (by decide)
  have ex : W.1.1 (18 : Int32).toNatClampNeg = nI (tX S) := hx
  have ey : W.1.1 (36 : Int32).toNatClampNeg = nI (tY S) := hy
  have eb : W.1.1 (35 : Int32).toNatClampNeg = nI (sB (tA S)) := hM.bn
  refine e_of [some (.ref 0), some (.int k), some (.int i), some (.int v)] rfl (by decide) rfl rfl rfl ?_
  rw [s_lay]
  cases g : inb 4 k with
  | false =>
    refine r_iload_n (i := 1) 1 dX8_lay_0 rfl rfl rfl ?_
    refine r_i2l 2 dX8_lay_1 rfl ?_
    refine r_lconst (v := 0) 3 dX8_lay_2 rfl rfl ?_
    refine r_ldc2 6 dX8_lay_3 rfl k_X8_194 ?_
    refine r_callSi [] 9 dX8_lay_6 rfl ykX8_in lk_X8_46 (e_in0 k (n := 4) (by decide) (by decide)) rfl rfl rfl ⟨Nat.le_refl _, Nat.le_refl _⟩ ?_
    rw [show inb (nI 4) k = false from g]
    refine r_if_ne 14 12 dX8_lay_9 rfl rfl (fun h9 => absurd rfl h9) (fun h9 => ?_)
    refine r_iconst (v := (-1)) 13 dX8_lay_12 rfl rfl ?_
    exact r_reti dX8_lay_13 rfl (by first | rfl | exact bI_nar _) ⟨Nat.le_refl _, Nat.le_refl _⟩ (fun _ => rfl) (⟨rfl, hC0⟩)
  | true =>
    obtain ⟨j, hj, rfl⟩ := inb_nI (n := 4) (by decide) g
    have hin : vp_in (nI j) 4 := vp_in_nI hj (by decide)
    have ec := nI_clamp (n := j) (by omega)
    obtain ⟨s1, s2, s3⟩ := hH j hj
    obtain ⟨t1, t2⟩ := hT.2.2.2.2.2.2.2.2.1 j hj
    rw [ec, if_pos rfl]
    by_cases q : (tH S).1 j = 3
    · rw [if_pos q]
      refine r_iload_n (i := 1) 1 dX8_lay_0 rfl rfl rfl ?_
      refine r_i2l 2 dX8_lay_1 rfl ?_
      refine r_lconst (v := 0) 3 dX8_lay_2 rfl rfl ?_
      refine r_ldc2 6 dX8_lay_3 rfl k_X8_194 ?_
      refine r_callSi [] 9 dX8_lay_6 rfl ykX8_in lk_X8_46 (e_in0 (nI j) (n := 4) (by decide) (by decide)) rfl rfl rfl ⟨Nat.le_refl _, Nat.le_refl _⟩ ?_
      rw [show inb (nI 4) (nI j) = true from g]
      refine r_if_ne 14 12 dX8_lay_9 rfl rfl (fun h9 => ?_) (fun h9 => absurd h9 (by decide))
      refine r_aload_n (i := 0) 15 dX8_lay_14 rfl rfl rfl ?_
      refine r_getf 18 dX8_lay_15 rfl fl_X8_35 rfl rfl ?_
      refine r_iload_n (i := 1) 19 dX8_lay_18 rfl rfl rfl ?_
      refine r_iald 20 dX8_lay_19 rfl rfl (by assumption) ?_
      rw [ec, s1]
      refine r_bipush (v := (-4)) 22 dX8_lay_20 rfl rfl ?_
      refine r_icmp_ne 28 25 dX8_lay_22 rfl rfl (fun h22 => absurd ((laM_3 t1).mpr q) h22) (fun h22 => ?_)
      refine r_bipush (v := (-11)) 27 dX8_lay_25 rfl rfl ?_
      exact r_reti dX8_lay_27 rfl (by first | rfl | exact bI_nar _) ⟨Nat.le_refl _, Nat.le_refl _⟩ (fun _ => rfl) (⟨rfl, hC0⟩)
    · rw [if_neg q]
      have el := laM_n t1 q
      cases g2 : inb (nI ((tH S).2.1 j)) i with
      | false =>
        refine r_iload_n (i := 1) 1 dX8_lay_0 rfl rfl rfl ?_
        refine r_i2l 2 dX8_lay_1 rfl ?_
        refine r_lconst (v := 0) 3 dX8_lay_2 rfl rfl ?_
        refine r_ldc2 6 dX8_lay_3 rfl k_X8_194 ?_
        refine r_callSi [] 9 dX8_lay_6 rfl ykX8_in lk_X8_46 (e_in0 (nI j) (n := 4) (by decide) (by decide)) rfl rfl rfl ⟨Nat.le_refl _, Nat.le_refl _⟩ ?_
        rw [show inb (nI 4) (nI j) = true from g]
        refine r_if_ne 14 12 dX8_lay_9 rfl rfl (fun h9 => ?_) (fun h9 => absurd h9 (by decide))
        refine r_aload_n (i := 0) 15 dX8_lay_14 rfl rfl rfl ?_
        refine r_getf 18 dX8_lay_15 rfl fl_X8_35 rfl rfl ?_
        refine r_iload_n (i := 1) 19 dX8_lay_18 rfl rfl rfl ?_
        refine r_iald 20 dX8_lay_19 rfl rfl (by assumption) ?_
        rw [ec, s1]
        refine r_bipush (v := (-4)) 22 dX8_lay_20 rfl rfl ?_
        refine r_icmp_ne 28 25 dX8_lay_22 rfl rfl (fun h22 => ?_) (fun h22 => absurd ((laM_3 t1).mp h22) q)
        refine r_iload_n (i := 2) 29 dX8_lay_28 rfl rfl rfl ?_
        refine r_i2l 30 dX8_lay_29 rfl ?_
        refine r_lconst (v := 0) 31 dX8_lay_30 rfl rfl ?_
        refine r_aload_n (i := 0) 32 dX8_lay_31 rfl rfl rfl ?_
        refine r_getf 35 dX8_lay_32 rfl fl_X8_38 rfl rfl ?_
        refine r_iload_n (i := 1) 36 dX8_lay_35 rfl rfl rfl ?_
        refine r_iald 37 dX8_lay_36 rfl rfl (by assumption) ?_
        rw [ec, s2]
        refine r_iconst (v := 1) 38 dX8_lay_37 rfl rfl ?_
        refine r_isub 39 dX8_lay_38 rfl ?_
        refine r_i2l 40 dX8_lay_39 rfl ?_
        refine r_callSi [] 43 dX8_lay_40 rfl ykX8_in lk_X8_46 (e_in0 i (n := (tH S).2.1 j) (by omega) (hiN (by omega))) rfl rfl rfl ⟨Nat.le_refl _, Nat.le_refl _⟩ ?_
        rw [g2]
        refine r_if_ne 49 46 dX8_lay_43 rfl rfl (fun h43 => absurd rfl h43) (fun h43 => ?_)
        refine r_bipush (v := (-12)) 48 dX8_lay_46 rfl rfl ?_
        exact r_reti dX8_lay_48 rfl (by first | rfl | exact bI_nar _) ⟨Nat.le_refl _, Nat.le_refl _⟩ (fun _ => rfl) (⟨rfl, hC0⟩)
      | true =>
        obtain ⟨m, hm, rfl⟩ := inb_nI (by omega) g2
        have hin2 : vp_in (nI (40 * j + m)) 160 := vp_in_nI (by omega) (by decide)
        rw [nI_clamp (n := m) (by omega), if_pos rfl]
        have fin : ∀ u, u = cut3 (nI ((tH S).1 j)) v → ∃ W2 : MT, wM (zZz W (W.2.2.2.2.2.2.2.1, W.2.2.2.2.2.2.2.2.1, W.2.2.2.2.2.2.2.2.2.1, upd W.2.2.2.2.2.2.2.2.2.2.1 (40 * j + m) u, W.2.2.2.2.2.2.2.2.2.2.2)) = wM W2 ∧ relM W2 (tSH S ((tH S).1, (tH S).2.1, fun z => if z = j then upd ((tH S).2.2 z) m (cut3 (nI ((tH S).1 j)) v) else (tH S).2.2 z)) := by
          intro u hu
          subst hu
          exact ⟨_, rfl, hM, ⟨hx, hy⟩, ⟨ht, hb⟩, hf, ⟨v1, v2⟩, ⟨hk0, hk1⟩, hI, shM_lay hH hj (by omega), hn⟩
        refine r_iload_n (i := 1) 1 dX8_lay_0 rfl rfl rfl ?_
        refine r_i2l 2 dX8_lay_1 rfl ?_
        refine r_lconst (v := 0) 3 dX8_lay_2 rfl rfl ?_
        refine r_ldc2 6 dX8_lay_3 rfl k_X8_194 ?_
        refine r_callSi [] 9 dX8_lay_6 rfl ykX8_in lk_X8_46 (e_in0 (nI j) (n := 4) (by decide) (by decide)) rfl rfl rfl ⟨Nat.le_refl _, Nat.le_refl _⟩ ?_
        rw [show inb (nI 4) (nI j) = true from g]
        refine r_if_ne 14 12 dX8_lay_9 rfl rfl (fun h9 => ?_) (fun h9 => absurd h9 (by decide))
        refine r_aload_n (i := 0) 15 dX8_lay_14 rfl rfl rfl ?_
        refine r_getf 18 dX8_lay_15 rfl fl_X8_35 rfl rfl ?_
        refine r_iload_n (i := 1) 19 dX8_lay_18 rfl rfl rfl ?_
        refine r_iald 20 dX8_lay_19 rfl rfl (by assumption) ?_
        rw [ec, s1]
        refine r_bipush (v := (-4)) 22 dX8_lay_20 rfl rfl ?_
        refine r_icmp_ne 28 25 dX8_lay_22 rfl rfl (fun h22 => ?_) (fun h22 => absurd ((laM_3 t1).mp h22) q)
        refine r_iload_n (i := 2) 29 dX8_lay_28 rfl rfl rfl ?_
        refine r_i2l 30 dX8_lay_29 rfl ?_
        refine r_lconst (v := 0) 31 dX8_lay_30 rfl rfl ?_
        refine r_aload_n (i := 0) 32 dX8_lay_31 rfl rfl rfl ?_
        refine r_getf 35 dX8_lay_32 rfl fl_X8_38 rfl rfl ?_
        refine r_iload_n (i := 1) 36 dX8_lay_35 rfl rfl rfl ?_
        refine r_iald 37 dX8_lay_36 rfl rfl (by assumption) ?_
        rw [ec, s2]
        refine r_iconst (v := 1) 38 dX8_lay_37 rfl rfl ?_
        refine r_isub 39 dX8_lay_38 rfl ?_
        refine r_i2l 40 dX8_lay_39 rfl ?_
        refine r_callSi [] 43 dX8_lay_40 rfl ykX8_in lk_X8_46 (e_in0 (nI m) (n := (tH S).2.1 j) (by omega) (hiN (by omega))) rfl rfl rfl ⟨Nat.le_refl _, Nat.le_refl _⟩ ?_
        rw [g2]
        refine r_if_ne 49 46 dX8_lay_43 rfl rfl (fun h43 => ?_) (fun h43 => absurd h43 (by decide))
        refine r_aload_n (i := 0) 50 dX8_lay_49 rfl rfl rfl ?_
        refine r_getf 53 dX8_lay_50 rfl fl_X8_41 rfl rfl ?_
        refine r_bipush (v := 40) 55 dX8_lay_53 rfl rfl ?_
        refine r_iload_n (i := 1) 56 dX8_lay_55 rfl rfl rfl ?_
        refine r_imul 57 dX8_lay_56 rfl ?_
        refine r_iload_n (i := 2) 58 dX8_lay_57 rfl rfl rfl ?_
        refine r_iadd 59 dX8_lay_58 rfl ?_
        rw [c40, nI_add]
        refine r_aload_n (i := 0) 60 dX8_lay_59 rfl rfl rfl ?_
        refine r_getf 63 dX8_lay_60 rfl fl_X8_35 rfl rfl ?_
        refine r_iload_n (i := 1) 64 dX8_lay_63 rfl rfl rfl ?_
        refine r_iald 65 dX8_lay_64 rfl rfl (by assumption) ?_
        rw [ec, s1, el]
        refine r_if_ne 78 68 dX8_lay_65 rfl rfl (fun h65 => ?_) (fun h65 => ?_)
        · refine r_aload_n (i := 0) 79 dX8_lay_78 rfl rfl rfl ?_
          refine r_getf 82 dX8_lay_79 rfl fl_X8_35 rfl rfl ?_
          refine r_iload_n (i := 1) 83 dX8_lay_82 rfl rfl rfl ?_
          refine r_iald 84 dX8_lay_83 rfl rfl (by assumption) ?_
          rw [ec, s1, el]
          refine r_iconst (v := 1) 85 dX8_lay_84 rfl rfl ?_
          refine r_icmp_ne 98 88 dX8_lay_85 rfl rfl (fun h85 => ?_) (fun h85 => ?_)
          · refine r_iload_n (i := 3) 99 dX8_lay_98 rfl rfl rfl ?_
            refine r_iast 100 dX8_lay_99 rfl rfl (by assumption) ?_
            rw [nI_clamp (n := 40 * j + m) (by omega)]
            refine r_iconst (v := 1) 101 dX8_lay_100 rfl rfl ?_
            exact r_reti dX8_lay_101 rfl (by first | rfl | exact bI_nar _) ⟨Nat.le_refl _, Nat.le_refl _⟩ (fun _ => rfl) (⟨rfl, fin _ (by unfold cut3; first | (rw [if_pos h65]; done) | (rw [if_neg h65, if_pos h85]; done) | (rw [if_neg h65, if_neg h85]; done))⟩)
          · refine r_iload_n (i := 3) 89 dX8_lay_88 rfl rfl rfl ?_
            refine r_bipush (v := 16) 91 dX8_lay_89 rfl rfl ?_
            refine r_ishl 92 dX8_lay_91 rfl ?_
            refine r_bipush (v := 16) 94 dX8_lay_92 rfl rfl ?_
            refine r_ishr 95 dX8_lay_94 rfl ?_
            rw [cutS]
            refine r_goto 99 dX8_lay_95 rfl ?_
            refine r_iast 100 dX8_lay_99 rfl rfl (by assumption) ?_
            rw [nI_clamp (n := 40 * j + m) (by omega)]
            refine r_iconst (v := 1) 101 dX8_lay_100 rfl rfl ?_
            exact r_reti dX8_lay_101 rfl (by first | rfl | exact bI_nar _) ⟨Nat.le_refl _, Nat.le_refl _⟩ (fun _ => rfl) (⟨rfl, fin _ (by unfold cut3; first | (rw [if_pos h65]; done) | (rw [if_neg h65, if_pos h85]; done) | (rw [if_neg h65, if_neg h85]; done))⟩)
        · refine r_iload_n (i := 3) 69 dX8_lay_68 rfl rfl rfl ?_
          refine r_bipush (v := 24) 71 dX8_lay_69 rfl rfl ?_
          refine r_ishl 72 dX8_lay_71 rfl ?_
          refine r_bipush (v := 24) 74 dX8_lay_72 rfl rfl ?_
          refine r_ishr 75 dX8_lay_74 rfl ?_
          rw [cutB]
          refine r_goto 99 dX8_lay_75 rfl ?_
          refine r_iast 100 dX8_lay_99 rfl rfl (by assumption) ?_
          rw [nI_clamp (n := 40 * j + m) (by omega)]
          refine r_iconst (v := 1) 101 dX8_lay_100 rfl rfl ?_
          exact r_reti dX8_lay_101 rfl (by first | rfl | exact bI_nar _) ⟨Nat.le_refl _, Nat.le_refl _⟩ (fun _ => rfl) (⟨rfl, fin _ (by unfold cut3; first | (rw [if_pos h65]; done) | (rw [if_neg h65, if_pos h85]; done) | (rw [if_neg h65, if_neg h85]; done))⟩)
end ME
