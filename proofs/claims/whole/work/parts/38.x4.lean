section XD
variable {d : Nat} {A : sA} {S : sT} {w : mm_W} {N Z : FlT} {kp : Nat → Int32} {R : RdT} {Si : SiT} {Sr : SrT} {Ta : TaT} {I J : FlT} {H0 H1 H2 H3 : ShT} {tn : Int32}
theorem e_taC (T : TaT) : mm_e (d + 1) yX5_clear mX5_clear [.ref 0] (wTa T.1 T.2.1 T.2.2.1 T.2.2.2) (mm_q none (wTa 0 0 63 0)) := e_taClear _ _ _ _
theorem e_taT (p : Nat → Bool) {i : Nat} (hi : i < 2 ^ 29) (h : p i = true) : mm_e (d + 2) yX5_take mX5_take [.ref 0, .int (nI i)] (wTa (tlT p i).1 (tlT p i).2.1 (tlT p i).2.2.1 (tlT p i).2.2.2) (mm_q none (wTa (tlT p (i + 1)).1 (tlT p (i + 1)).2.1 (tlT p (i + 1)).2.2.1 (tlT p (i + 1)).2.2.2)) := by
  have h1 := fb_ct_le p i
  have h2 := tlL_le p i
  have e := e_take (d := d) (m := fb_ct p i) (l := tlL p i) (a := tlA p i) (s := tlS p i) (x := i) (by omega) (by omega) (by omega)
  rw [← tlT_yes h]
  exact e
theorem CX_ta (h : CX S (wX N Z kp R Si Sr Ta I J H0 H1 H2 H3 tn)) (hr : relX N Z kp R Si Sr Ta I J H0 H1 H2 H3 tn S) (Ta' : TaT) : CX S (wX N Z kp R Si Sr Ta' I J H0 H1 H2 H3 tn) := ⟨h.1, N, Z, kp, R, Si, Sr, Ta', I, J, H0, H1, H2, H3, tn, rfl, hr⟩
theorem l_agree (hA : ∀ Ta, CX S (wX N Z kp R Si Sr Ta I J H0 H1 H2 H3 tn)) (hN : fok N (tA S)) (what : Int32) : ∀ (k i : Nat), 2 ^ sN (tA S) - i = k → i ≤ 2 ^ sN (tA S) → mm_r (d + 5) mX7_agree (QX (tla (stl (tA S)) (2 ^ sN (tA S)) what) S) 20 [some (.ref 0), some (.int what), some (.int (nI i))] [] (wX N Z kp R Si Sr (tlT (stl (tA S)) i) I J H0 H1 H2 H3 tn) := by
  have h6 := hN.n6
  have p6 := p2_le h6
  intro k
  induction k with
  | zero =>
    intro i hk hi
    have : i = 2 ^ sN (tA S) := by omega
    subst this
    refine r_iload_n (i := 2) 21 dX7_agree_20 rfl rfl rfl ?_
    refine r_aload_n (i := 0) 22 dX7_agree_21 rfl rfl rfl ?_
    refine r_getf 25 dX7_agree_22 rfl fl_X7_10 rfl rfl ?_
    refine r_callVi [1, 2, 3, 4, 5, 6, 7, 8] 28 dX7_agree_25 rfl ykX0_states lk_X7_210 (e_states hN.th h6) rfl rfl (sb_now _ _ _ _ _ _ _ _ _ _ _ _ _ _) rfl rfl rfl rfl ⟨Nat.le_refl _, Nat.le_refl _⟩ ?_
    refine r_icmp_ge 56 31 dX7_agree_28 rfl rfl (fun h28 => ?_) (fun h28 => absurd (Int32.le_refl _) h28)
    refine r_aload_n (i := 0) 57 dX7_agree_56 rfl rfl rfl ?_
    refine r_getf 60 dX7_agree_57 rfl fl_X7_51 rfl rfl ?_
    refine r_iload_n (i := 1) 61 dX7_agree_60 rfl rfl rfl ?_
    refine r_callVi [38] 64 dX7_agree_61 rfl ykX5_answer lk_X7_207 (e_answer _ _ _ _ _) rfl rfl (sb_ta _ _ _ _ _ _ _ _ _ _ _ _ _ _) rfl rfl rfl rfl ⟨Nat.le_refl _, Nat.le_refl _⟩ ?_
    exact r_reti dX7_agree_64 rfl (by first | rfl | exact bI_nar _) ⟨Nat.le_refl _, Nat.le_refl _⟩ (fun _ => rfl) (⟨rfl, hA _⟩)
  | succ k ih =>
    intro i hk hi
    have hi2 : i < 2 ^ sN (tA S) := by omega
    refine r_iload_n (i := 2) 21 dX7_agree_20 rfl rfl rfl ?_
    refine r_aload_n (i := 0) 22 dX7_agree_21 rfl rfl rfl ?_
    refine r_getf 25 dX7_agree_22 rfl fl_X7_10 rfl rfl ?_
    refine r_callVi [1, 2, 3, 4, 5, 6, 7, 8] 28 dX7_agree_25 rfl ykX0_states lk_X7_210 (e_states hN.th h6) rfl rfl (sb_now _ _ _ _ _ _ _ _ _ _ _ _ _ _) rfl rfl rfl rfl ⟨Nat.le_refl _, Nat.le_refl _⟩ ?_
    refine r_icmp_ge 56 31 dX7_agree_28 rfl rfl (fun h28 => absurd (ble_of (by omega) (by omega) h28) (by omega)) (fun h28 => ?_)
    refine r_aload_n (i := 0) 32 dX7_agree_31 rfl rfl rfl ?_
    refine r_getf 35 dX7_agree_32 rfl fl_X7_10 rfl rfl ?_
    refine r_iload_n (i := 2) 36 dX7_agree_35 rfl rfl rfl ?_
    refine r_callVi [1, 2, 3, 4, 5, 6, 7, 8] 39 dX7_agree_36 rfl ykX0_settles lk_X7_222 (e_settles hN (by omega)) rfl rfl (sb_now _ _ _ _ _ _ _ _ _ _ _ _ _ _) rfl rfl rfl rfl ⟨Nat.le_refl _, Nat.le_refl _⟩ ?_
    refine r_if_eq 50 42 dX7_agree_39 rfl rfl (fun h39 => ?_) (fun h39 => ?_)
    · have g := bI_eq0 h39
      rw [tlT_no g]
      refine r_iinc (i := 2) 53 dX7_agree_50 rfl rfl (by first | exact nI_1 _ | rfl) rfl ?_
      refine r_goto 20 dX7_agree_53 rfl ?_
      exact ih (i + 1) (by omega) (by omega)
    · have g := bI_ne0 h39
      refine r_aload_n (i := 0) 43 dX7_agree_42 rfl rfl rfl ?_
      refine r_getf 46 dX7_agree_43 rfl fl_X7_51 rfl rfl ?_
      refine r_iload_n (i := 2) 47 dX7_agree_46 rfl rfl rfl ?_
      refine r_callVu [38] 50 dX7_agree_47 rfl ykX5_take lk_X7_204 (e_taT (stl (tA S)) (by omega) g) rfl rfl (sb_ta _ _ _ _ _ _ _ _ _ _ _ _ _ _) rfl rfl rfl rfl ⟨Nat.le_refl _, Nat.le_refl _⟩ ?_
      rw [bk_ta]
      refine r_iinc (i := 2) 53 dX7_agree_50 rfl rfl (by first | exact nI_1 _ | rfl) rfl ?_
      refine r_goto 20 dX7_agree_53 rfl ?_
      exact ih (i + 1) (by omega) (by omega)
theorem p_agree (hC : CX S w) (what : Int32) : mm_e (d + 5) yX7_agree mX7_agree [.ref 0, .int what] w (QX (s_agree S what) S) := by
  have hC0 := hC
  obtain ⟨hT, N, Z, kp, R, Si, Sr, Ta, I, J, H0, H1, H2, H3, tn, rfl, hN, hx, hy, ⟨ht, hb⟩, hf, hs, ⟨hk0, hk1⟩, hI, hJ, ⟨s0, s1, s2, s3⟩, hn⟩ := hC
  have l0 := lt31 hN hT.2.1
  have h6 := hN.n6
  have h4 := hN.g4
  have h5 := hN.b4
  have hA : ∀ Ta, CX S (wX N Z kp R Si Sr Ta I J H0 H1 H2 H3 tn) := fun Ta => ⟨hT, N, Z, kp, R, Si, Sr, Ta, I, J, H0, H1, H2, H3, tn, rfl, hN, hx, hy, ⟨ht, hb⟩, hf, hs, ⟨hk0, hk1⟩, hI, hJ, ⟨s0, s1, s2, s3⟩, hn⟩
  refine e_of [some (.ref 0), some (.int what), none] rfl (by decide) rfl rfl rfl ?_
  rw [s_agree]
  refine r_iload_n (i := 1) 1 dX7_agree_0 rfl rfl rfl ?_
  refine r_if_lt 9 4 dX7_agree_1 rfl rfl (fun h1 => ?_) (fun h1 => ?_)
  · have gv : inb 4 what = false := inb_f1 h1
    refine r_iconst (v := (-1)) 10 dX7_agree_9 rfl rfl ?_
    exact r_reti dX7_agree_10 rfl (by first | rfl | exact bI_nar _) ⟨Nat.le_refl _, Nat.le_refl _⟩ (fun _ => rfl) (⟨by rw [gv]; rfl, hC0⟩)
  · refine r_iload_n (i := 1) 5 dX7_agree_4 rfl rfl rfl ?_
    refine r_iconst (v := 3) 6 dX7_agree_5 rfl rfl ?_
    refine r_icmp_le 11 9 dX7_agree_6 rfl rfl (fun h6 => ?_) (fun h6 => ?_)
    · have gv : inb 4 what = true := inb_t h1 (ngt3 h6)
      rw [gv]
      refine r_aload_n (i := 0) 12 dX7_agree_11 rfl rfl rfl ?_
      refine r_getf 15 dX7_agree_12 rfl fl_X7_51 rfl rfl ?_
      refine r_callVu [38] 18 dX7_agree_15 rfl ykX5_clear lk_X7_201 (e_taC _) rfl rfl (sb_ta _ _ _ _ _ _ _ _ _ _ _ _ _ _) rfl rfl rfl rfl ⟨Nat.le_refl _, Nat.le_refl _⟩ ?_
      rw [bk_ta]
      refine r_iconst (v := 0) 19 dX7_agree_18 rfl rfl ?_
      refine r_istore_n (i := 2) 20 dX7_agree_19 rfl rfl rfl ?_
      exact l_agree hA hN what _ 0 rfl (Nat.zero_le _)
    · have gv : inb 4 what = false := inb_f2 (n := 4) (gt3 h6)
      refine r_iconst (v := (-1)) 10 dX7_agree_9 rfl rfl ?_
      exact r_reti dX7_agree_10 rfl (by first | rfl | exact bI_nar _) ⟨Nat.le_refl _, Nat.le_refl _⟩ (fun _ => rfl) (⟨by rw [gv]; rfl, hC0⟩)
theorem l_fits (hA : ∀ Ta, CX S (wX N Z kp R Si Sr Ta I J H0 H1 H2 H3 tn)) (hN : fok N (tA S)) (hs : sok Si (tV S)) (what : Int32) : ∀ (k i : Nat), 2 ^ sN (tA S) - i = k → i ≤ 2 ^ sN (tA S) → mm_r (d + 5) mX7_fits (QX (tla (fit (tV S) (tA S)) (2 ^ sN (tA S)) what) S) 20 [some (.ref 0), some (.int what), some (.int (nI i))] [] (wX N Z kp R Si Sr (tlT (fit (tV S) (tA S)) i) I J H0 H1 H2 H3 tn) := by
  have h6 := hN.n6
  have p6 := p2_le h6
  intro k
  induction k with
  | zero =>
    intro i hk hi
    have : i = 2 ^ sN (tA S) := by omega
    subst this
    refine r_iload_n (i := 2) 21 dX7_fits_20 rfl rfl rfl ?_
    refine r_aload_n (i := 0) 22 dX7_fits_21 rfl rfl rfl ?_
    refine r_getf 25 dX7_fits_22 rfl fl_X7_10 rfl rfl ?_
    refine r_callVi [1, 2, 3, 4, 5, 6, 7, 8] 28 dX7_fits_25 rfl ykX0_states lk_X7_210 (e_states hN.th h6) rfl rfl (sb_now _ _ _ _ _ _ _ _ _ _ _ _ _ _) rfl rfl rfl rfl ⟨Nat.le_refl _, Nat.le_refl _⟩ ?_
    refine r_icmp_ge 60 31 dX7_fits_28 rfl rfl (fun h28 => ?_) (fun h28 => absurd (Int32.le_refl _) h28)
    refine r_aload_n (i := 0) 61 dX7_fits_60 rfl rfl rfl ?_
    refine r_getf 64 dX7_fits_61 rfl fl_X7_51 rfl rfl ?_
    refine r_iload_n (i := 1) 65 dX7_fits_64 rfl rfl rfl ?_
    refine r_callVi [38] 68 dX7_fits_65 rfl ykX5_answer lk_X7_207 (e_answer _ _ _ _ _) rfl rfl (sb_ta _ _ _ _ _ _ _ _ _ _ _ _ _ _) rfl rfl rfl rfl ⟨Nat.le_refl _, Nat.le_refl _⟩ ?_
    exact r_reti dX7_fits_68 rfl (by first | rfl | exact bI_nar _) ⟨Nat.le_refl _, Nat.le_refl _⟩ (fun _ => rfl) (⟨rfl, hA _⟩)
  | succ k ih =>
    intro i hk hi
    have hi2 : i < 2 ^ sN (tA S) := by omega
    refine r_iload_n (i := 2) 21 dX7_fits_20 rfl rfl rfl ?_
    refine r_aload_n (i := 0) 22 dX7_fits_21 rfl rfl rfl ?_
    refine r_getf 25 dX7_fits_22 rfl fl_X7_10 rfl rfl ?_
    refine r_callVi [1, 2, 3, 4, 5, 6, 7, 8] 28 dX7_fits_25 rfl ykX0_states lk_X7_210 (e_states hN.th h6) rfl rfl (sb_now _ _ _ _ _ _ _ _ _ _ _ _ _ _) rfl rfl rfl rfl ⟨Nat.le_refl _, Nat.le_refl _⟩ ?_
    refine r_icmp_ge 60 31 dX7_fits_28 rfl rfl (fun h28 => absurd (ble_of (by omega) (by omega) h28) (by omega)) (fun h28 => ?_)
    refine r_aload_n (i := 0) 32 dX7_fits_31 rfl rfl rfl ?_
    refine r_getf 35 dX7_fits_32 rfl fl_X7_37 rfl rfl ?_
    refine r_aload_n (i := 0) 36 dX7_fits_35 rfl rfl rfl ?_
    refine r_getf 39 dX7_fits_36 rfl fl_X7_10 rfl rfl ?_
    refine r_iload_n (i := 2) 40 dX7_fits_39 rfl rfl rfl ?_
    refine r_callVi [30, 31, 32, 33, 34, 1, 2, 3, 4, 5, 6, 7, 8] 43 dX7_fits_40 rfl ykX4_suit lk_X7_268 (e_suit hs hN hi2) rfl rfl (sb_sif _ _ _ _ _ _ _ _ _ _ _ _ _ _) rfl rfl rfl rfl ⟨Nat.le_refl _, Nat.le_refl _⟩ ?_
    refine r_if_eq 54 46 dX7_fits_43 rfl rfl (fun h43 => ?_) (fun h43 => ?_)
    · have g := bI_eq0 h43
      rw [tlT_no g]
      refine r_iinc (i := 2) 57 dX7_fits_54 rfl rfl (by first | exact nI_1 _ | rfl) rfl ?_
      refine r_goto 20 dX7_fits_57 rfl ?_
      exact ih (i + 1) (by omega) (by omega)
    · have g := bI_ne0 h43
      refine r_aload_n (i := 0) 47 dX7_fits_46 rfl rfl rfl ?_
      refine r_getf 50 dX7_fits_47 rfl fl_X7_51 rfl rfl ?_
      refine r_iload_n (i := 2) 51 dX7_fits_50 rfl rfl rfl ?_
      refine r_callVu [38] 54 dX7_fits_51 rfl ykX5_take lk_X7_204 (e_taT (fit (tV S) (tA S)) (by omega) g) rfl rfl (sb_ta _ _ _ _ _ _ _ _ _ _ _ _ _ _) rfl rfl rfl rfl ⟨Nat.le_refl _, Nat.le_refl _⟩ ?_
      rw [bk_ta]
      refine r_iinc (i := 2) 57 dX7_fits_54 rfl rfl (by first | exact nI_1 _ | rfl) rfl ?_
      refine r_goto 20 dX7_fits_57 rfl ?_
      exact ih (i + 1) (by omega) (by omega)
theorem p_fits (hC : CX S w) (what : Int32) : mm_e (d + 5) yX7_fits mX7_fits [.ref 0, .int what] w (QX (s_fits S what) S) := by
  have hC0 := hC
  obtain ⟨hT, N, Z, kp, R, Si, Sr, Ta, I, J, H0, H1, H2, H3, tn, rfl, hN, hx, hy, ⟨ht, hb⟩, hf, hs, ⟨hk0, hk1⟩, hI, hJ, ⟨s0, s1, s2, s3⟩, hn⟩ := hC
  have l0 := lt31 hN hT.2.1
  have h6 := hN.n6
  have h4 := hN.g4
  have h5 := hN.b4
  have hA : ∀ Ta, CX S (wX N Z kp R Si Sr Ta I J H0 H1 H2 H3 tn) := fun Ta => ⟨hT, N, Z, kp, R, Si, Sr, Ta, I, J, H0, H1, H2, H3, tn, rfl, hN, hx, hy, ⟨ht, hb⟩, hf, hs, ⟨hk0, hk1⟩, hI, hJ, ⟨s0, s1, s2, s3⟩, hn⟩
  refine e_of [some (.ref 0), some (.int what), none] rfl (by decide) rfl rfl rfl ?_
  rw [s_fits]
  refine r_iload_n (i := 1) 1 dX7_fits_0 rfl rfl rfl ?_
  refine r_if_lt 9 4 dX7_fits_1 rfl rfl (fun h1 => ?_) (fun h1 => ?_)
  · have gv : inb 4 what = false := inb_f1 h1
    refine r_iconst (v := (-1)) 10 dX7_fits_9 rfl rfl ?_
    exact r_reti dX7_fits_10 rfl (by first | rfl | exact bI_nar _) ⟨Nat.le_refl _, Nat.le_refl _⟩ (fun _ => rfl) (⟨by rw [gv]; rfl, hC0⟩)
  · refine r_iload_n (i := 1) 5 dX7_fits_4 rfl rfl rfl ?_
    refine r_iconst (v := 3) 6 dX7_fits_5 rfl rfl ?_
    refine r_icmp_le 11 9 dX7_fits_6 rfl rfl (fun h6 => ?_) (fun h6 => ?_)
    · have gv : inb 4 what = true := inb_t h1 (ngt3 h6)
      rw [gv]
      refine r_aload_n (i := 0) 12 dX7_fits_11 rfl rfl rfl ?_
      refine r_getf 15 dX7_fits_12 rfl fl_X7_51 rfl rfl ?_
      refine r_callVu [38] 18 dX7_fits_15 rfl ykX5_clear lk_X7_201 (e_taC _) rfl rfl (sb_ta _ _ _ _ _ _ _ _ _ _ _ _ _ _) rfl rfl rfl rfl ⟨Nat.le_refl _, Nat.le_refl _⟩ ?_
      rw [bk_ta]
      refine r_iconst (v := 0) 19 dX7_fits_18 rfl rfl ?_
      refine r_istore_n (i := 2) 20 dX7_fits_19 rfl rfl rfl ?_
      exact l_fits hA hN hs what _ 0 rfl (Nat.zero_le _)
    · have gv : inb 4 what = false := inb_f2 (n := 4) (gt3 h6)
      refine r_iconst (v := (-1)) 10 dX7_fits_9 rfl rfl ?_
      exact r_reti dX7_fits_10 rfl (by first | rfl | exact bI_nar _) ⟨Nat.le_refl _, Nat.le_refl _⟩ (fun _ => rfl) (⟨by rw [gv]; rfl, hC0⟩)
theorem l_before (hA : ∀ Ta, CX S (wX N Z kp R Si Sr Ta I J H0 H1 H2 H3 tn)) (hN : fok N (tA S)) {x : Nat} (hx : x < 2 ^ sN (tA S)) (what : Int32) : ∀ (k i : Nat), 2 ^ sN (tA S) - i = k → i ≤ 2 ^ sN (tA S) → mm_r (d + 5) mX7_before (QX (tla (bfr (tA S) x) (2 ^ sN (tA S)) what) S) 29 [some (.ref 0), some (.int (nI x)), some (.int what), some (.int (nI i))] [] (wX N Z kp R Si Sr (tlT (bfr (tA S) x) i) I J H0 H1 H2 H3 tn) := by
  have h6 := hN.n6
  have p6 := p2_le h6
  intro k
  induction k with
  | zero =>
    intro i hk hi
    have : i = 2 ^ sN (tA S) := by omega
    subst this
    refine r_iload_n (i := 3) 30 dX7_before_29 rfl rfl rfl ?_
    refine r_aload_n (i := 0) 31 dX7_before_30 rfl rfl rfl ?_
    refine r_getf 34 dX7_before_31 rfl fl_X7_10 rfl rfl ?_
    refine r_callVi [1, 2, 3, 4, 5, 6, 7, 8] 37 dX7_before_34 rfl ykX0_states lk_X7_210 (e_states hN.th h6) rfl rfl (sb_now _ _ _ _ _ _ _ _ _ _ _ _ _ _) rfl rfl rfl rfl ⟨Nat.le_refl _, Nat.le_refl _⟩ ?_
    refine r_icmp_ge 66 40 dX7_before_37 rfl rfl (fun h37 => ?_) (fun h37 => absurd (Int32.le_refl _) h37)
    refine r_aload_n (i := 0) 67 dX7_before_66 rfl rfl rfl ?_
    refine r_getf 70 dX7_before_67 rfl fl_X7_51 rfl rfl ?_
    refine r_iload_n (i := 2) 71 dX7_before_70 rfl rfl rfl ?_
    refine r_callVi [38] 74 dX7_before_71 rfl ykX5_answer lk_X7_207 (e_answer _ _ _ _ _) rfl rfl (sb_ta _ _ _ _ _ _ _ _ _ _ _ _ _ _) rfl rfl rfl rfl ⟨Nat.le_refl _, Nat.le_refl _⟩ ?_
    exact r_reti dX7_before_74 rfl (by first | rfl | exact bI_nar _) ⟨Nat.le_refl _, Nat.le_refl _⟩ (fun _ => rfl) (⟨rfl, hA _⟩)
  | succ k ih =>
    intro i hk hi
    have hi2 : i < 2 ^ sN (tA S) := by omega
    have hl := lt31 hN (nx_lt (tA S) i)
    refine r_iload_n (i := 3) 30 dX7_before_29 rfl rfl rfl ?_
    refine r_aload_n (i := 0) 31 dX7_before_30 rfl rfl rfl ?_
    refine r_getf 34 dX7_before_31 rfl fl_X7_10 rfl rfl ?_
    refine r_callVi [1, 2, 3, 4, 5, 6, 7, 8] 37 dX7_before_34 rfl ykX0_states lk_X7_210 (e_states hN.th h6) rfl rfl (sb_now _ _ _ _ _ _ _ _ _ _ _ _ _ _) rfl rfl rfl rfl ⟨Nat.le_refl _, Nat.le_refl _⟩ ?_
    refine r_icmp_ge 66 40 dX7_before_37 rfl rfl (fun h37 => absurd (ble_of (by omega) (by omega) h37) (by omega)) (fun h37 => ?_)
    refine r_aload_n (i := 0) 41 dX7_before_40 rfl rfl rfl ?_
    refine r_getf 44 dX7_before_41 rfl fl_X7_10 rfl rfl ?_
    refine r_iload_n (i := 3) 45 dX7_before_44 rfl rfl rfl ?_
    refine r_callVi [1, 2, 3, 4, 5, 6, 7, 8] 48 dX7_before_45 rfl ykX0_afterYear lk_X7_194 (e_afterYear hN (by omega)) rfl rfl (sb_now _ _ _ _ _ _ _ _ _ _ _ _ _ _) rfl rfl rfl rfl ⟨Nat.le_refl _, Nat.le_refl _⟩ ?_
    refine r_iload_n (i := 1) 49 dX7_before_48 rfl rfl rfl ?_
    refine r_icmp_ne 60 52 dX7_before_49 rfl rfl (fun h49 => ?_) (fun h49 => ?_)
    · have g : bfr (tA S) x i = false := decide_eq_false (bne_of hl (by omega) h49)
      rw [tlT_no g]
      refine r_iinc (i := 3) 63 dX7_before_60 rfl rfl (by first | exact nI_1 _ | rfl) rfl ?_
      refine r_goto 29 dX7_before_63 rfl ?_
      exact ih (i + 1) (by omega) (by omega)
    · have g : bfr (tA S) x i = true := decide_eq_true (beq_of hl (by omega) h49)
      refine r_aload_n (i := 0) 53 dX7_before_52 rfl rfl rfl ?_
      refine r_getf 56 dX7_before_53 rfl fl_X7_51 rfl rfl ?_
      refine r_iload_n (i := 3) 57 dX7_before_56 rfl rfl rfl ?_
      refine r_callVu [38] 60 dX7_before_57 rfl ykX5_take lk_X7_204 (e_taT (bfr (tA S) x) (by omega) g) rfl rfl (sb_ta _ _ _ _ _ _ _ _ _ _ _ _ _ _) rfl rfl rfl rfl ⟨Nat.le_refl _, Nat.le_refl _⟩ ?_
      rw [bk_ta]
      refine r_iinc (i := 3) 63 dX7_before_60 rfl rfl (by first | exact nI_1 _ | rfl) rfl ?_
      refine r_goto 29 dX7_before_63 rfl ?_
      exact ih (i + 1) (by omega) (by omega)
theorem p_before (hC : CX S w) (x what : Int32) : mm_e (d + 5) yX7_before mX7_before [.ref 0, .int x, .int what] w (QX (s_before S x what) S) := by
  have hC0 := hC
  obtain ⟨hT, N, Z, kp, R, Si, Sr, Ta, I, J, H0, H1, H2, H3, tn, rfl, hN, hx, hy, ⟨ht, hb⟩, hf, hs, ⟨hk0, hk1⟩, hI, hJ, ⟨s0, s1, s2, s3⟩, hn⟩ := hC
  have l0 := lt31 hN hT.2.1
  have h6 := hN.n6
  have h4 := hN.g4
  have h5 := hN.b4
  have hA : ∀ Ta, CX S (wX N Z kp R Si Sr Ta I J H0 H1 H2 H3 tn) := fun Ta => ⟨hT, N, Z, kp, R, Si, Sr, Ta, I, J, H0, H1, H2, H3, tn, rfl, hN, hx, hy, ⟨ht, hb⟩, hf, hs, ⟨hk0, hk1⟩, hI, hJ, ⟨s0, s1, s2, s3⟩, hn⟩
  have p6 := p2_le h6
  refine e_of [some (.ref 0), some (.int x), some (.int what), none] rfl (by decide) rfl rfl rfl ?_
  rw [s_before, isb]
  cases g1 : inb (nI (2 ^ sN (tA S))) x with
  | false =>
    refine r_aload_n (i := 0) 1 dX7_before_0 rfl rfl rfl ?_
    refine r_getf 4 dX7_before_1 rfl fl_X7_10 rfl rfl ?_
    refine r_iload_n (i := 1) 5 dX7_before_4 rfl rfl rfl ?_
    refine r_callVi [1, 2, 3, 4, 5, 6, 7, 8] 8 dX7_before_5 rfl ykX0_hasState lk_X7_191 (e_hasState hN.th h6 x) rfl rfl (sb_now _ _ _ _ _ _ _ _ _ _ _ _ _ _) rfl rfl rfl rfl ⟨Nat.le_refl _, Nat.le_refl _⟩ ?_
    rw [g1]
    refine r_if_eq 18 11 dX7_before_8 rfl rfl (fun h8 => ?_) (fun h8 => absurd rfl h8)
    refine r_iconst (v := (-1)) 19 dX7_before_18 rfl rfl ?_
    exact r_reti dX7_before_19 rfl (by first | rfl | exact bI_nar _) ⟨Nat.le_refl _, Nat.le_refl _⟩ (fun _ => rfl) (⟨rfl, hC0⟩)
  | true =>
    obtain ⟨j, hj, rfl⟩ := inb_nI (by omega) g1
    rw [nI_clamp (n := j) (by omega)]
    refine r_aload_n (i := 0) 1 dX7_before_0 rfl rfl rfl ?_
    refine r_getf 4 dX7_before_1 rfl fl_X7_10 rfl rfl ?_
    refine r_iload_n (i := 1) 5 dX7_before_4 rfl rfl rfl ?_
    refine r_callVi [1, 2, 3, 4, 5, 6, 7, 8] 8 dX7_before_5 rfl ykX0_hasState lk_X7_191 (e_hasState hN.th h6 (nI j)) rfl rfl (sb_now _ _ _ _ _ _ _ _ _ _ _ _ _ _) rfl rfl rfl rfl ⟨Nat.le_refl _, Nat.le_refl _⟩ ?_
    rw [g1]
    refine r_if_eq 18 11 dX7_before_8 rfl rfl (fun h8 => absurd h8 (by decide)) (fun h8 => ?_)
    refine r_iload_n (i := 2) 12 dX7_before_11 rfl rfl rfl ?_
    refine r_callSi [] 15 dX7_before_12 rfl ykX7_isBit lk_X7_148 (e_isBit what) rfl rfl rfl ⟨Nat.le_refl _, Nat.le_refl _⟩ ?_
    refine r_if_ne 20 18 dX7_before_15 rfl rfl (fun h15 => ?_) (fun h15 => ?_)
    · have g := bI_ne0 h15
      rw [g]
      refine r_aload_n (i := 0) 21 dX7_before_20 rfl rfl rfl ?_
      refine r_getf 24 dX7_before_21 rfl fl_X7_51 rfl rfl ?_
      refine r_callVu [38] 27 dX7_before_24 rfl ykX5_clear lk_X7_201 (e_taC _) rfl rfl (sb_ta _ _ _ _ _ _ _ _ _ _ _ _ _ _) rfl rfl rfl rfl ⟨Nat.le_refl _, Nat.le_refl _⟩ ?_
      rw [bk_ta]
      refine r_iconst (v := 0) 28 dX7_before_27 rfl rfl ?_
      refine r_istore_n (i := 3) 29 dX7_before_28 rfl rfl rfl ?_
      exact l_before hA hN hj what _ 0 rfl (Nat.zero_le _)
    · have g := bI_eq0 h15
      rw [g]
      refine r_iconst (v := (-1)) 19 dX7_before_18 rfl rfl ?_
      exact r_reti dX7_before_19 rfl (by first | rfl | exact bI_nar _) ⟨Nat.le_refl _, Nat.le_refl _⟩ (fun _ => rfl) (⟨rfl, hC0⟩)
theorem l_ring2 (hA : ∀ Ta, CX S (wX N Z kp R Si Sr Ta I J H0 H1 H2 H3 tn)) (hN : fok N (tA S)) {y n m : Nat} (hy : y < 2 ^ sN (tA S)) (hn : n ≤ 65) (what : Int32) (h23 : what = 1 ∨ what = 2 ∨ what = 3) : ∀ (k i : Nat) (l : Nat), n - i = k → i ≤ n → l < 2 ^ 31 → mm_r (d + 5) mX7_ring (QX (if what = 1 then nI n else if n = 0 then -4 else if what = 2 then nI (rgA (tA S) y n) else nI (rgS (tA S) y n)) S) 79 [some (.ref 0), some (.int what), some (.int (nI (ny (tA S) i y))), some (.int (nI m)), some (.int (nI n)), some (.int (nI i))] [] (wX N Z kp R Si Sr (nI i, nI l, nI (rgA (tA S) y i), nI (rgS (tA S) y i)) I J H0 H1 H2 H3 tn) := by
  have h6 := hN.n6
  have p6 := p2_le h6
  intro k
  induction k with
  | zero =>
    intro i l hk hi hl
    have : i = n := by omega
    subst this
    refine r_iload (i := 5) 81 dX7_ring_79 rfl rfl ?_
    refine r_iload (i := 4) 83 dX7_ring_81 rfl rfl ?_
    refine r_icmp_ge 109 86 dX7_ring_83 rfl rfl (fun h83 => ?_) (fun h83 => absurd (Int32.le_refl _) h83)
    refine r_iload_n (i := 1) 110 dX7_ring_109 rfl rfl rfl ?_
    refine r_iconst (v := 1) 111 dX7_ring_110 rfl rfl ?_
    refine r_icmp_ne 119 114 dX7_ring_111 rfl rfl (fun h111 => ?_) (fun h111 => ?_)
    · rw [if_neg h111]
      refine r_aload_n (i := 0) 120 dX7_ring_119 rfl rfl rfl ?_
      refine r_getf 123 dX7_ring_120 rfl fl_X7_51 rfl rfl ?_
      refine r_iload_n (i := 1) 124 dX7_ring_123 rfl rfl rfl ?_
      refine r_callVi [38] 127 dX7_ring_124 rfl ykX5_answer lk_X7_207 (e_answer _ _ _ _ _) rfl rfl (sb_ta _ _ _ _ _ _ _ _ _ _ _ _ _ _) rfl rfl rfl rfl ⟨Nat.le_refl _, Nat.le_refl _⟩ ?_
      exact r_reti dX7_ring_127 rfl (by first | rfl | exact bI_nar _) ⟨Nat.le_refl _, Nat.le_refl _⟩ (fun _ => rfl) (⟨by first | rfl | (rcases h23 with rfl | rfl | rfl; (· exact absurd rfl h111); (· by_cases q : i = 0; (· subst q; rfl); (· rw [if_neg q]; have q2 : ¬ nI i = 0 := fun z => q (beq_of (b := 0) (by omega) (by decide) z); simp [tans, q2])); (· by_cases q : i = 0; (· subst q; rfl); (· rw [if_neg q]; have q2 : ¬ nI i = 0 := fun z => q (beq_of (b := 0) (by omega) (by decide) z); simp [tans, q2]))), hA _⟩)
    · subst h111
      rw [if_pos rfl]
      refine r_iload (i := 4) 116 dX7_ring_114 rfl rfl ?_
      refine r_goto 127 dX7_ring_116 rfl ?_
      exact r_reti dX7_ring_127 rfl (by first | rfl | exact bI_nar _) ⟨Nat.le_refl _, Nat.le_refl _⟩ (fun _ => rfl) (⟨by first | rfl | (rcases h23 with rfl | rfl | rfl; (· exact absurd rfl h111); (· by_cases q : i = 0; (· subst q; rfl); (· rw [if_neg q]; have q2 : ¬ nI i = 0 := fun z => q (beq_of (b := 0) (by omega) (by decide) z); simp [tans, q2])); (· by_cases q : i = 0; (· subst q; rfl); (· rw [if_neg q]; have q2 : ¬ nI i = 0 := fun z => q (beq_of (b := 0) (by omega) (by decide) z); simp [tans, q2]))), hA _⟩)
  | succ k ih =>
    intro i l hk hi hl
    have l1 := lt31 hN (ny_lt hy i)
    refine r_iload (i := 5) 81 dX7_ring_79 rfl rfl ?_
    refine r_iload (i := 4) 83 dX7_ring_81 rfl rfl ?_
    refine r_icmp_ge 109 86 dX7_ring_83 rfl rfl (fun h83 => absurd (ble_of (by omega) (by omega) h83) (by omega)) (fun h83 => ?_)
    refine r_aload_n (i := 0) 87 dX7_ring_86 rfl rfl rfl ?_
    refine r_getf 90 dX7_ring_87 rfl fl_X7_51 rfl rfl ?_
    refine r_iload_n (i := 2) 91 dX7_ring_90 rfl rfl rfl ?_
    refine r_callVu [38] 94 dX7_ring_91 rfl ykX5_take lk_X7_204 (e_take (by omega) hl l1) rfl rfl (sb_ta _ _ _ _ _ _ _ _ _ _ _ _ _ _) rfl rfl rfl rfl ⟨Nat.le_refl _, Nat.le_refl _⟩ ?_
    rw [bk_ta]
    refine r_aload_n (i := 0) 95 dX7_ring_94 rfl rfl rfl ?_
    refine r_getf 98 dX7_ring_95 rfl fl_X7_10 rfl rfl ?_
    refine r_iload_n (i := 2) 99 dX7_ring_98 rfl rfl rfl ?_
    refine r_callVi [1, 2, 3, 4, 5, 6, 7, 8] 102 dX7_ring_99 rfl ykX0_afterYear lk_X7_194 (e_afterYear hN l1) rfl rfl (sb_now _ _ _ _ _ _ _ _ _ _ _ _ _ _) rfl rfl rfl rfl ⟨Nat.le_refl _, Nat.le_refl _⟩ ?_
    refine r_istore_n (i := 2) 103 dX7_ring_102 rfl rfl rfl ?_
    refine r_iinc (i := 5) 106 dX7_ring_103 rfl rfl (by first | exact nI_1 _ | rfl) rfl ?_
    refine r_goto 79 dX7_ring_106 rfl ?_
    exact ih (i + 1) _ (by omega) (by omega) (by split <;> omega)
theorem rg_le (A : sA) (h : sN A ≤ 6) (y : Nat) : rg A y ≤ 65 := by
  have := rgl_le A y (2 ^ sN A) 1
  have := p2_le h
  rw [rg]; omega
theorem l_ring1 (hA : ∀ Ta, CX S (wX N Z kp R Si Sr Ta I J H0 H1 H2 H3 tn)) (hN : fok N (tA S)) (hx : tX S < 2 ^ sN (tA S)) (what : Int32) (h4 : inb 4 what = true) : ∀ (k m : Nat), k + m = 64 → rgM (tA S) (tX S) = rgf (tA S) (tX S) k m → mm_r (d + 5) mX7_ring (QX (s_ring S what) S) 21 [some (.ref 0), some (.int what), some (.int (nI (ny (tA S) m (tX S)))), some (.int (nI m)), none, none] [] (wX N Z kp R Si Sr Ta I J H0 H1 H2 H3 tn) := by
  have h6 := hN.n6
  have p6 := p2_le h6
  have out : ∀ m, m ≤ 64 → rgM (tA S) (tX S) = m → mm_r (d + 5) mX7_ring (QX (s_ring S what) S) 53 [some (.ref 0), some (.int what), some (.int (nI (ny (tA S) m (tX S)))), some (.int (nI m)), none, none] [] (wX N Z kp R Si Sr Ta I J H0 H1 H2 H3 tn) := by
    intro m hm e
    have hr := rg_le (tA S) h6 (ny (tA S) m (tX S))
    rw [s_ring, h4, e]
    simp only [if_true]
    refine r_iload_n (i := 1) 54 dX7_ring_53 rfl rfl rfl ?_
    refine r_if_ne 59 57 dX7_ring_54 rfl rfl (fun h54 => ?_) (fun h54 => ?_)
    · rw [if_neg h54]
      refine r_aload_n (i := 0) 60 dX7_ring_59 rfl rfl rfl ?_
      refine r_getf 63 dX7_ring_60 rfl fl_X7_10 rfl rfl ?_
      refine r_iload_n (i := 2) 64 dX7_ring_63 rfl rfl rfl ?_
      refine r_callVi [1, 2, 3, 4, 5, 6, 7, 8] 67 dX7_ring_64 rfl ykX0_ringFrom lk_X7_198 (e_ringFrom hN (ny_lt hx m)) rfl rfl (sb_now _ _ _ _ _ _ _ _ _ _ _ _ _ _) rfl rfl rfl rfl ⟨Nat.le_refl _, Nat.le_refl _⟩ ?_
      refine r_istore (i := 4) 69 dX7_ring_67 rfl rfl ?_
      refine r_aload_n (i := 0) 70 dX7_ring_69 rfl rfl rfl ?_
      refine r_getf 73 dX7_ring_70 rfl fl_X7_51 rfl rfl ?_
      refine r_callVu [38] 76 dX7_ring_73 rfl ykX5_clear lk_X7_201 (e_taC _) rfl rfl (sb_ta _ _ _ _ _ _ _ _ _ _ _ _ _ _) rfl rfl rfl rfl ⟨Nat.le_refl _, Nat.le_refl _⟩ ?_
      rw [bk_ta]
      refine r_iconst (v := 0) 77 dX7_ring_76 rfl rfl ?_
      refine r_istore (i := 5) 79 dX7_ring_77 rfl rfl ?_
      exact l_ring2 hA hN (ny_lt hx m) hr what (by obtain ⟨j, hj, rfl⟩ := inb_nI (n := 4) (by decide) h4; rcases (by omega : j = 0 ∨ j = 1 ∨ j = 2 ∨ j = 3) with rfl | rfl | rfl | rfl; (· exact absurd rfl h54); (· exact Or.inl rfl); (· exact Or.inr (Or.inl rfl)); (· exact Or.inr (Or.inr rfl))) _ 0 0 rfl (Nat.zero_le _) (by decide)
    · subst h54
      refine r_iload_n (i := 3) 58 dX7_ring_57 rfl rfl rfl ?_
      exact r_reti dX7_ring_58 rfl (by first | rfl | exact bI_nar _) ⟨Nat.le_refl _, Nat.le_refl _⟩ (fun _ => rfl) (⟨rfl, hA _⟩)
  intro k
  induction k with
  | zero =>
    intro m hm e
    have : m = 64 := by omega
    subst this
    refine r_iload_n (i := 3) 22 dX7_ring_21 rfl rfl rfl ?_
    refine r_bipush (v := 64) 24 dX7_ring_22 rfl rfl ?_
    refine r_icmp_ge 53 27 dX7_ring_24 rfl rfl (fun h24 => ?_) (fun h24 => absurd (Int32.le_refl _) h24)
    exact out 64 (by omega) e
  | succ k ih =>
    intro m hm e
    have l1 := ny_lt hx m
    have l2 := lt31 hN l1
    have hr := rg_le (tA S) h6 (ny (tA S) m (tX S))
    rw [rgf] at e
    refine r_iload_n (i := 3) 22 dX7_ring_21 rfl rfl rfl ?_
    refine r_bipush (v := 64) 24 dX7_ring_22 rfl rfl ?_
    refine r_icmp_ge 53 27 dX7_ring_24 rfl rfl (fun h24 => absurd (ble_of (a := 64) (by omega) (by omega) h24) (by omega)) (fun h24 => ?_)
    refine r_aload_n (i := 0) 28 dX7_ring_27 rfl rfl rfl ?_
    refine r_getf 31 dX7_ring_28 rfl fl_X7_10 rfl rfl ?_
    refine r_iload_n (i := 2) 32 dX7_ring_31 rfl rfl rfl ?_
    refine r_callVi [1, 2, 3, 4, 5, 6, 7, 8] 35 dX7_ring_32 rfl ykX0_ringFrom lk_X7_198 (e_ringFrom hN l1) rfl rfl (sb_now _ _ _ _ _ _ _ _ _ _ _ _ _ _) rfl rfl rfl rfl ⟨Nat.le_refl _, Nat.le_refl _⟩ ?_
    refine r_if_ne 53 38 dX7_ring_35 rfl rfl (fun h35 => ?_) (fun h35 => ?_)
    · have g := bne_of (b := 0) (by omega) (by decide) h35
      rw [if_neg g] at e
      exact out m (by omega) e
    · have g := beq_of (b := 0) (by omega) (by decide) h35
      rw [if_pos g] at e
      refine r_aload_n (i := 0) 39 dX7_ring_38 rfl rfl rfl ?_
      refine r_getf 42 dX7_ring_39 rfl fl_X7_10 rfl rfl ?_
      refine r_iload_n (i := 2) 43 dX7_ring_42 rfl rfl rfl ?_
      refine r_callVi [1, 2, 3, 4, 5, 6, 7, 8] 46 dX7_ring_43 rfl ykX0_afterYear lk_X7_194 (e_afterYear hN l2) rfl rfl (sb_now _ _ _ _ _ _ _ _ _ _ _ _ _ _) rfl rfl rfl rfl ⟨Nat.le_refl _, Nat.le_refl _⟩ ?_
      refine r_istore_n (i := 2) 47 dX7_ring_46 rfl rfl rfl ?_
      refine r_iinc (i := 3) 50 dX7_ring_47 rfl rfl (by first | exact nI_1 _ | rfl) rfl ?_
      refine r_goto 21 dX7_ring_50 rfl ?_
      exact ih (m + 1) (by omega) e
theorem p_ring (hC : CX S w) (what : Int32) : mm_e (d + 5) yX7_ring mX7_ring [.ref 0, .int what] w (QX (s_ring S what) S) := by
  have hC0 := hC
  obtain ⟨hT, N, Z, kp, R, Si, Sr, Ta, I, J, H0, H1, H2, H3, tn, rfl, hN, hx, hy, ⟨ht, hb⟩, hf, hs, ⟨hk0, hk1⟩, hI, hJ, ⟨s0, s1, s2, s3⟩, hn⟩ := hC
  have l0 := lt31 hN hT.2.1
  have h6 := hN.n6
  have h4 := hN.g4
  have h5 := hN.b4
  have hA : ∀ Ta, CX S (wX N Z kp R Si Sr Ta I J H0 H1 H2 H3 tn) := fun Ta => ⟨hT, N, Z, kp, R, Si, Sr, Ta, I, J, H0, H1, H2, H3, tn, rfl, hN, hx, hy, ⟨ht, hb⟩, hf, hs, ⟨hk0, hk1⟩, hI, hJ, ⟨s0, s1, s2, s3⟩, hn⟩
  refine e_of [some (.ref 0), some (.int what), none, none, none, none] rfl (by decide) rfl rfl rfl ?_
  refine r_iload_n (i := 1) 1 dX7_ring_0 rfl rfl rfl ?_
  refine r_if_lt 9 4 dX7_ring_1 rfl rfl (fun h1 => ?_) (fun h1 => ?_)
  · have gv : inb 4 what = false := inb_f1 h1
    refine r_iconst (v := (-1)) 10 dX7_ring_9 rfl rfl ?_
    exact r_reti dX7_ring_10 rfl (by first | rfl | exact bI_nar _) ⟨Nat.le_refl _, Nat.le_refl _⟩ (fun _ => rfl) (⟨by rw [s_ring, gv]; rfl, hC0⟩)
  · refine r_iload_n (i := 1) 5 dX7_ring_4 rfl rfl rfl ?_
    refine r_iconst (v := 3) 6 dX7_ring_5 rfl rfl ?_
    refine r_icmp_le 11 9 dX7_ring_6 rfl rfl (fun h6 => ?_) (fun h6 => ?_)
    · have gv : inb 4 what = true := inb_t h1 (ngt3 h6)
      refine r_aload_n (i := 0) 12 dX7_ring_11 rfl rfl rfl ?_
      refine r_getf 15 dX7_ring_12 rfl fl_X7_10 rfl rfl ?_
      refine r_getf 18 dX7_ring_15 rfl fl_X7_110 rfl rfl ?_
      rw [hx]
      refine r_istore_n (i := 2) 19 dX7_ring_18 rfl rfl rfl ?_
      refine r_iconst (v := 0) 20 dX7_ring_19 rfl rfl ?_
      refine r_istore_n (i := 3) 21 dX7_ring_20 rfl rfl rfl ?_
      exact l_ring1 hA hN hT.2.1 what gv 64 0 rfl rfl
    · have gv : inb 4 what = false := inb_f2 (n := 4) (gt3 h6)
      refine r_iconst (v := (-1)) 10 dX7_ring_9 rfl rfl ?_
      exact r_reti dX7_ring_10 rfl (by first | rfl | exact bI_nar _) ⟨Nat.le_refl _, Nat.le_refl _⟩ (fun _ => rfl) (⟨by rw [s_ring, gv]; rfl, hC0⟩)
theorem rl_le (A : sA) (h : sN A ≤ 6) (y : Nat) : rl A y ≤ 65 := by
  have := rll_le A y (2 ^ sN A) 1
  have := p2_le h
  rw [rl]; omega
theorem rsF_le (A : sA) (h : sN A ≤ 6) : ∀ i, (rsF A i).1 ≤ i ∧ (rsF A i).2.1 ≤ 65 ∧ (rsF A i).2.2.1 ≤ i ∧ (rsF A i).2.2.2 ≤ 65
  | 0 => by simp [rsF]
  | i + 1 => by
    obtain ⟨h1, h2, h3, h4⟩ := rsF_le A h i
    have h5 := rl_le A h i
    rw [rsF]
    split
    · exact ⟨by omega, h2, by omega, h4⟩
    · refine ⟨by show (rsF A i).1 + 1 ≤ i + 1; omega, ?_, ?_, ?_⟩
      · show (if _ then _ else _) ≤ 65; split <;> omega
      · show (if _ then _ else _) ≤ i + 1; split <;> omega
      · show max _ _ ≤ 65; omega
theorem l_rings (hC0 : CX S (wX N Z kp R Si Sr Ta I J H0 H1 H2 H3 tn)) (hN : fok N (tA S)) (what : Int32) : ∀ (k i : Nat) (o : Option Value), 2 ^ sN (tA S) - i = k → i ≤ 2 ^ sN (tA S) → mm_r (d + 4) mX7_rings (QX (s_rings S what) S) 13 [some (.ref 0), some (.int what), some (.int (nI (rsF (tA S) i).1)), some (.int (nI (rsF (tA S) i).2.1)), some (.int (nI (rsF (tA S) i).2.2.1)), some (.int (nI (rsF (tA S) i).2.2.2)), some (.int (nI i)), o] [] (wX N Z kp R Si Sr Ta I J H0 H1 H2 H3 tn) := by
  have h6 := hN.n6
  have p6 := p2_le h6
  intro k
  induction k with
  | zero =>
    intro i o hk hi
    have : i = 2 ^ sN (tA S) := by omega
    subst this
    refine r_iload (i := 6) 15 dX7_rings_13 rfl rfl ?_
    refine r_aload_n (i := 0) 16 dX7_rings_15 rfl rfl rfl ?_
    refine r_getf 19 dX7_rings_16 rfl fl_X7_10 rfl rfl ?_
    refine r_callVi [1, 2, 3, 4, 5, 6, 7, 8] 22 dX7_rings_19 rfl ykX0_states lk_X7_210 (e_states hN.th h6) rfl rfl (sb_now _ _ _ _ _ _ _ _ _ _ _ _ _ _) rfl rfl rfl rfl ⟨Nat.le_refl _, Nat.le_refl _⟩ ?_
    refine r_icmp_ge 76 25 dX7_rings_22 rfl rfl (fun h22 => ?_) (fun h22 => absurd (Int32.le_refl _) h22)
    refine r_iload_n (i := 1) 77 dX7_rings_76 rfl rfl rfl ?_
    rcases pk_ix what (n := 4) (by decide) with q | q | ⟨k, hk, rfl⟩
    · refine r_tabOut 118 dX7_rings_77 (Or.inl (sw_neg q)) rfl ?_
      refine r_iconst (v := (-1)) 119 dX7_rings_118 rfl rfl ?_
      exact r_reti dX7_rings_119 rfl (by first | rfl | exact bI_nar _) ⟨Nat.le_refl _, Nat.le_refl _⟩ (fun _ => rfl) (⟨by rw [s_rings, ix_neg q] <;> rfl, hC0⟩)
    · refine r_tabOut 118 dX7_rings_77 (Or.inr (sw_big (n := 3) (by decide) q)) rfl ?_
      refine r_iconst (v := (-1)) 119 dX7_rings_118 rfl rfl ?_
      exact r_reti dX7_rings_119 rfl (by first | rfl | exact bI_nar _) ⟨Nat.le_refl _, Nat.le_refl _⟩ (fun _ => rfl) (⟨by rw [s_rings, ix_big q] <;> rfl, hC0⟩)
    · rw [s_rings, ix_k hk (by decide)]
      rcases (by omega : k = 0 ∨ k = 1 ∨ k = 2 ∨ k = 3) with rfl | rfl | rfl | rfl
      · refine r_tabIn 108 dX7_rings_77 (by decide) (by decide) rfl rfl ?_
        refine r_iload_n (i := 2) 109 dX7_rings_108 rfl rfl rfl ?_
        exact r_reti dX7_rings_109 rfl (by first | rfl | exact bI_nar _) ⟨Nat.le_refl _, Nat.le_refl _⟩ (fun _ => rfl) (⟨rfl, hC0⟩)
      · refine r_tabIn 110 dX7_rings_77 (by decide) (by decide) rfl rfl ?_
        refine r_iload_n (i := 3) 111 dX7_rings_110 rfl rfl rfl ?_
        exact r_reti dX7_rings_111 rfl (by first | rfl | exact bI_nar _) ⟨Nat.le_refl _, Nat.le_refl _⟩ (fun _ => rfl) (⟨rfl, hC0⟩)
      · refine r_tabIn 112 dX7_rings_77 (by decide) (by decide) rfl rfl ?_
        refine r_iload (i := 4) 114 dX7_rings_112 rfl rfl ?_
        exact r_reti dX7_rings_114 rfl (by first | rfl | exact bI_nar _) ⟨Nat.le_refl _, Nat.le_refl _⟩ (fun _ => rfl) (⟨rfl, hC0⟩)
      · refine r_tabIn 115 dX7_rings_77 (by decide) (by decide) rfl rfl ?_
        refine r_iload (i := 5) 117 dX7_rings_115 rfl rfl ?_
        exact r_reti dX7_rings_117 rfl (by first | rfl | exact bI_nar _) ⟨Nat.le_refl _, Nat.le_refl _⟩ (fun _ => rfl) (⟨rfl, hC0⟩)
  | succ k ih =>
    intro i o hk hi
    have hi2 : i < 2 ^ sN (tA S) := by omega
    have b1 := rl_le (tA S) h6 i
    obtain ⟨b2, b3, b4, b5⟩ := rsF_le (tA S) h6 i
    refine r_iload (i := 6) 15 dX7_rings_13 rfl rfl ?_
    refine r_aload_n (i := 0) 16 dX7_rings_15 rfl rfl rfl ?_
    refine r_getf 19 dX7_rings_16 rfl fl_X7_10 rfl rfl ?_
    refine r_callVi [1, 2, 3, 4, 5, 6, 7, 8] 22 dX7_rings_19 rfl ykX0_states lk_X7_210 (e_states hN.th h6) rfl rfl (sb_now _ _ _ _ _ _ _ _ _ _ _ _ _ _) rfl rfl rfl rfl ⟨Nat.le_refl _, Nat.le_refl _⟩ ?_
    refine r_icmp_ge 76 25 dX7_rings_22 rfl rfl (fun h22 => absurd (ble_of (by omega) (by omega) h22) (by omega)) (fun h22 => ?_)
    refine r_aload_n (i := 0) 26 dX7_rings_25 rfl rfl rfl ?_
    refine r_getf 29 dX7_rings_26 rfl fl_X7_10 rfl rfl ?_
    refine r_iload (i := 6) 31 dX7_rings_29 rfl rfl ?_
    refine r_callVi [1, 2, 3, 4, 5, 6, 7, 8] 34 dX7_rings_31 rfl ykX0_ringLedBy lk_X7_214 (e_ringLedBy hN hi2) rfl rfl (sb_now _ _ _ _ _ _ _ _ _ _ _ _ _ _) rfl rfl rfl rfl ⟨Nat.le_refl _, Nat.le_refl _⟩ ?_
    refine r_istore (i := 7) 36 dX7_rings_34 rfl rfl ?_
    have e := ih (i + 1) (some (.int (nI (rl (tA S) i)))) (by omega) (by omega)
    rw [rsF] at e
    by_cases g : rl (tA S) i = 0
    · rw [if_pos g] at e
      refine r_iload (i := 7) 38 dX7_rings_36 rfl rfl ?_
      refine r_if_le 70 41 dX7_rings_38 rfl rfl (fun h38 => ?_) (fun h38 => absurd (by rw [g]; decide) h38)
      refine r_iinc (i := 6) 73 dX7_rings_70 rfl rfl (by first | exact nI_1 _ | rfl) rfl ?_
      refine r_goto 13 dX7_rings_73 rfl ?_
      exact e
    · rw [if_neg g] at e
      refine r_iload (i := 7) 38 dX7_rings_36 rfl rfl ?_
      refine r_if_le 70 41 dX7_rings_38 rfl rfl (fun h38 => absurd (ble_of (b := 0) (by omega) (by decide) h38) (by omega)) (fun h38 => ?_)
      refine r_iinc (i := 2) 44 dX7_rings_41 rfl rfl (by first | exact nI_1 _ | rfl) rfl ?_
      refine r_iload (i := 5) 46 dX7_rings_44 rfl rfl ?_
      refine r_iload (i := 7) 48 dX7_rings_46 rfl rfl ?_
      refine r_mmax 51 dX7_rings_48 rfl (mm_in 655 (by decide +kernel) rfl) (by omega) (by omega) rfl ⟨Nat.le_refl _, Nat.le_refl _⟩ ?_
      refine r_istore (i := 5) 53 dX7_rings_51 rfl rfl ?_
      refine r_iload_n (i := 3) 54 dX7_rings_53 rfl rfl rfl ?_
      refine r_if_eq 63 57 dX7_rings_54 rfl rfl (fun h54 => ?_) (fun h54 => ?_)
      · have q : (rsF (tA S) i).2.1 = 0 := beq_of (b := 0) (by omega) (by decide) h54
        rw [if_pos (Or.inl q), if_pos (Or.inl q)] at e
        refine r_iload (i := 7) 65 dX7_rings_63 rfl rfl ?_
        refine r_istore_n (i := 3) 66 dX7_rings_65 rfl rfl rfl ?_
        refine r_iload (i := 6) 68 dX7_rings_66 rfl rfl ?_
        refine r_istore (i := 4) 70 dX7_rings_68 rfl rfl ?_
        refine r_iinc (i := 6) 73 dX7_rings_70 rfl rfl (by first | exact nI_1 _ | rfl) rfl ?_
        refine r_goto 13 dX7_rings_73 rfl ?_
        exact e
      · have q : (rsF (tA S) i).2.1 ≠ 0 := bne_of (b := 0) (by omega) (by decide) h54
        refine r_iload (i := 7) 59 dX7_rings_57 rfl rfl ?_
        refine r_iload_n (i := 3) 60 dX7_rings_59 rfl rfl rfl ?_
        refine r_icmp_ge 70 63 dX7_rings_60 rfl rfl (fun h60 => ?_) (fun h60 => ?_)
        · have q2 := ble_of (by omega) (by omega) h60
          rw [if_neg (by omega), if_neg (by omega)] at e
          refine r_iinc (i := 6) 73 dX7_rings_70 rfl rfl (by first | exact nI_1 _ | rfl) rfl ?_
          refine r_goto 13 dX7_rings_73 rfl ?_
          exact e
        · have q2 := bnle_of (by omega) (by omega) h60
          rw [if_pos (Or.inr q2), if_pos (Or.inr q2)] at e
          refine r_iload (i := 7) 65 dX7_rings_63 rfl rfl ?_
          refine r_istore_n (i := 3) 66 dX7_rings_65 rfl rfl rfl ?_
          refine r_iload (i := 6) 68 dX7_rings_66 rfl rfl ?_
          refine r_istore (i := 4) 70 dX7_rings_68 rfl rfl ?_
          refine r_iinc (i := 6) 73 dX7_rings_70 rfl rfl (by first | exact nI_1 _ | rfl) rfl ?_
          refine r_goto 13 dX7_rings_73 rfl ?_
          exact e
theorem p_rings (hC : CX S w) (what : Int32) : mm_e (d + 4) yX7_rings mX7_rings [.ref 0, .int what] w (QX (s_rings S what) S) := by
  have hC0 := hC
  obtain ⟨hT, N, Z, kp, R, Si, Sr, Ta, I, J, H0, H1, H2, H3, tn, rfl, hN, hx, hy, ⟨ht, hb⟩, hf, hs, ⟨hk0, hk1⟩, hI, hJ, ⟨s0, s1, s2, s3⟩, hn⟩ := hC
  have l0 := lt31 hN hT.2.1
  have h6 := hN.n6
  have h4 := hN.g4
  have h5 := hN.b4
  refine e_of [some (.ref 0), some (.int what), none, none, none, none, none, none] rfl (by decide) rfl rfl rfl ?_
  refine r_iconst (v := 0) 1 dX7_rings_0 rfl rfl ?_
  refine r_istore_n (i := 2) 2 dX7_rings_1 rfl rfl rfl ?_
  refine r_iconst (v := 0) 3 dX7_rings_2 rfl rfl ?_
  refine r_istore_n (i := 3) 4 dX7_rings_3 rfl rfl rfl ?_
  refine r_iconst (v := 0) 5 dX7_rings_4 rfl rfl ?_
  refine r_istore (i := 4) 7 dX7_rings_5 rfl rfl ?_
  refine r_iconst (v := 0) 8 dX7_rings_7 rfl rfl ?_
  refine r_istore (i := 5) 10 dX7_rings_8 rfl rfl ?_
  refine r_iconst (v := 0) 11 dX7_rings_10 rfl rfl ?_
  refine r_istore (i := 6) 13 dX7_rings_11 rfl rfl ?_
  exact l_rings hC0 hN what _ 0 none rfl (Nat.zero_le _)
end XD
