section XB
variable {d : Nat} {A : sA} {S : sT} {w : mm_W} {N Z : FlT} {kp : Nat → Int32} {R : RdT} {Si : SiT} {Sr : SrT} {Ta : TaT} {I J : FlT} {H0 H1 H2 H3 : ShT} {tn : Int32}
abbrev fSXY (F : FlT) (x y : Int32) : FlT := (F.1, F.2.1, F.2.2.1, F.2.2.2.1, x, F.2.2.2.2.2.1, F.2.2.2.2.2.2.1, F.2.2.2.2.2.2.2.1, F.2.2.2.2.2.2.2.2.1, F.2.2.2.2.2.2.2.2.2.1, F.2.2.2.2.2.2.2.2.2.2.1, y)
theorem fok_XY (h : fok N A) (x y : Int32) : fok (fSXY N x y) A := h
theorem p_go (hC : CX S w) (n : Int32) : mm_e (d + 4) yX7_go mX7_go [.ref 0, .int n] w (QX (s_go S n).1 (s_go S n).2) := by
  have hC0 := hC
  obtain ⟨hT, N, Z, kp, R, Si, Sr, Ta, I, J, H0, H1, H2, H3, tn, rfl, hN, hx, hy, ⟨ht, hb⟩, hf, hs, ⟨hk0, hk1⟩, hI, hJ, ⟨s0, s1, s2, s3⟩, hn⟩ := hC
  have l0 := lt31 hN hT.2.1
  have h6 := hN.n6
  have h4 := hN.g4
  have h5 := hN.b4
  refine e_of [some (.ref 0), some (.int n)] rfl (by decide) rfl rfl rfl ?_
  have h999 := hT.2.2.1
  rw [s_go]
  refine r_iload_n (i := 1) 1 dX7_go_0 rfl rfl rfl ?_
  refine r_if_lt 10 4 dX7_go_1 rfl rfl (fun h1 => ?_) (fun h1 => ?_)
  · refine r_iconst (v := (-1)) 11 dX7_go_10 rfl rfl ?_
    exact r_reti dX7_go_11 rfl (by first | rfl | exact bI_nar _) ⟨Nat.le_refl _, Nat.le_refl _⟩ (fun _ => rfl) (⟨by first | rw [inb_f1 h1]; rfl | rw [inb_f2 (n := 100) (gt99 h7)]; rfl, by first | rw [inb_f1 h1]; exact hC0 | rw [inb_f2 (n := 100) (gt99 h7)]; exact hC0⟩)
  · refine r_iload_n (i := 1) 5 dX7_go_4 rfl rfl rfl ?_
    refine r_bipush (v := 99) 7 dX7_go_5 rfl rfl ?_
    refine r_icmp_le 12 10 dX7_go_7 rfl rfl (fun h7 => ?_) (fun h7 => ?_)
    · obtain ⟨j, hj, rfl⟩ := inb_nI (n := 100) (by decide) (inb_t h1 (ngt99 h7))
      rw [inb_t h1 (ngt99 h7), nI_clamp (n := j) (by omega), if_pos rfl]
      refine r_aload_n (i := 0) 13 dX7_go_12 rfl rfl rfl ?_
      refine r_getf 16 dX7_go_13 rfl fl_X7_10 rfl rfl ?_
      refine r_getf 19 dX7_go_16 rfl fl_X7_107 rfl rfl ?_
      refine r_iload_n (i := 1) 20 dX7_go_19 rfl rfl rfl ?_
      rw [hy]
      refine r_iadd 21 dX7_go_20 rfl ?_
      refine r_sipush (v := 999) 24 dX7_go_21 rfl rfl ?_
      rw [nI_add]
      refine r_icmp_le 30 27 dX7_go_24 rfl rfl (fun h24 => ?_) (fun h24 => ?_)
      · have g := ble_of (b := 999) (by omega) (by decide) h24
        rw [if_pos g]
        refine r_aload_n (i := 0) 31 dX7_go_30 rfl rfl rfl ?_
        refine r_getf 34 dX7_go_31 rfl fl_X7_10 rfl rfl ?_
        refine r_aload_n (i := 0) 35 dX7_go_34 rfl rfl rfl ?_
        refine r_getf 38 dX7_go_35 rfl fl_X7_10 rfl rfl ?_
        refine r_aload_n (i := 0) 39 dX7_go_38 rfl rfl rfl ?_
        refine r_getf 42 dX7_go_39 rfl fl_X7_10 rfl rfl ?_
        refine r_getf 45 dX7_go_42 rfl fl_X7_110 rfl rfl ?_
        rw [hx]
        refine r_iload_n (i := 1) 46 dX7_go_45 rfl rfl rfl ?_
        refine r_callVi [1, 2, 3, 4, 5, 6, 7, 8] 49 dX7_go_46 rfl ykX0_afterYears lk_X7_188 (e_afterYears hN hT.2.1 (by omega)) rfl rfl (sb_now _ _ _ _ _ _ _ _ _ _ _ _ _ _) rfl rfl rfl rfl ⟨Nat.le_refl _, Nat.le_refl _⟩ ?_
        refine r_putf 52 dX7_go_49 rfl fl_X7_110 rfl rfl (fun _ _ => ⟨rfl, rfl⟩) (fun z => absurd z Bool.false_ne_true) ?_
        refine r_aload_n (i := 0) 53 dX7_go_52 rfl rfl rfl ?_
        refine r_getf 56 dX7_go_53 rfl fl_X7_10 rfl rfl ?_
        refine r_dup 57 dX7_go_56 rfl rfl ?_
        refine r_getf 60 dX7_go_57 rfl fl_X7_107 rfl rfl ?_
        rw [hy]
        refine r_iload_n (i := 1) 61 dX7_go_60 rfl rfl rfl ?_
        refine r_iadd 62 dX7_go_61 rfl ?_
        rw [nI_add]
        refine r_putf 65 dX7_go_62 rfl fl_X7_107 rfl rfl (fun _ _ => ⟨rfl, rfl⟩) (fun z => absurd z Bool.false_ne_true) ?_
        refine r_aload_n (i := 0) 66 dX7_go_65 rfl rfl rfl ?_
        refine r_getf 69 dX7_go_66 rfl fl_X7_10 rfl rfl ?_
        refine r_getf 72 dX7_go_69 rfl fl_X7_110 rfl rfl ?_
        exact r_reti dX7_go_72 rfl (by first | rfl | exact bI_nar _) ⟨Nat.le_refl _, Nat.le_refl _⟩ (fun _ => rfl) (⟨rfl, ⟨hT.1, ny_lt hT.2.1 j, g, hT.2.2.2⟩, fSXY N (nI (ny (tA S) j (tX S))) (nI (tY S + j)), Z, kp, R, Si, Sr, Ta, I, J, H0, H1, H2, H3, tn, rfl, hN, rfl, rfl, ⟨ht, hb⟩, hf, hs, ⟨hk0, hk1⟩, hI, hJ, ⟨s0, s1, s2, s3⟩, hn⟩)
      · have g := bnle_of (b := 999) (by omega) (by decide) h24
        rw [if_neg (by omega)]
        refine r_bipush (v := (-3)) 29 dX7_go_27 rfl rfl ?_
        exact r_reti dX7_go_29 rfl (by first | rfl | exact bI_nar _) ⟨Nat.le_refl _, Nat.le_refl _⟩ (fun _ => rfl) (⟨rfl, hC0⟩)
    · refine r_iconst (v := (-1)) 11 dX7_go_10 rfl rfl ?_
      exact r_reti dX7_go_11 rfl (by first | rfl | exact bI_nar _) ⟨Nat.le_refl _, Nat.le_refl _⟩ (fun _ => rfl) (⟨by first | rw [inb_f1 h1]; rfl | rw [inb_f2 (n := 100) (gt99 h7)]; rfl, by first | rw [inb_f1 h1]; exact hC0 | rw [inb_f2 (n := 100) (gt99 h7)]; exact hC0⟩)
theorem p_undo (hC : CX S w) (g : Int32) : mm_e (d + 4) yX7_undo mX7_undo [.ref 0, .int g] w (QX (s_undo S g).1 (s_undo S g).2) := by
  have hC0 := hC
  obtain ⟨hT, N, Z, kp, R, Si, Sr, Ta, I, J, H0, H1, H2, H3, tn, rfl, hN, hx, hy, ⟨ht, hb⟩, hf, hs, ⟨hk0, hk1⟩, hI, hJ, ⟨s0, s1, s2, s3⟩, hn⟩ := hC
  have l0 := lt31 hN hT.2.1
  have h6 := hN.n6
  have h4 := hN.g4
  have h5 := hN.b4
  refine e_of [some (.ref 0), some (.int g), none] rfl (by decide) rfl rfl rfl ?_
  rw [s_undo]
  cases hg : inb (nI (sG (tA S))) g with
  | false =>
    refine r_aload_n (i := 0) 1 dX7_undo_0 rfl rfl rfl ?_
    refine r_getf 4 dX7_undo_1 rfl fl_X7_10 rfl rfl ?_
    refine r_iload_n (i := 1) 5 dX7_undo_4 rfl rfl rfl ?_
    refine r_callVi [1, 2, 3, 4, 5, 6, 7, 8] 8 dX7_undo_5 rfl ykX0_hasGuest lk_X7_145 (e_hasGuest g) rfl rfl (sb_now _ _ _ _ _ _ _ _ _ _ _ _ _ _) rfl rfl rfl rfl ⟨Nat.le_refl _, Nat.le_refl _⟩ ?_
    rw [hN.gu, hg]
    refine r_if_ne 13 11 dX7_undo_8 rfl rfl (fun h8 => absurd rfl h8) (fun h8 => ?_)
    refine r_iconst (v := (-1)) 12 dX7_undo_11 rfl rfl ?_
    exact r_reti dX7_undo_12 rfl (by first | rfl | exact bI_nar _) ⟨Nat.le_refl _, Nat.le_refl _⟩ (fun _ => rfl) (⟨rfl, hC0⟩)
  | true =>
    obtain ⟨i, hi, rfl⟩ := inb_nI (by omega) hg
    obtain ⟨k1, k2, k3, k4⟩ := hN.gat hi
    have hin : vp_in (nI i) 4 := vp_in_nI (by omega) (by decide)
    have ec := nI_clamp (n := i) (by omega)
    have xl := xor_lt (A := tA S) hT.2.1 k3
    rw [ec, if_pos rfl]
    refine r_aload_n (i := 0) 1 dX7_undo_0 rfl rfl rfl ?_
    refine r_getf 4 dX7_undo_1 rfl fl_X7_10 rfl rfl ?_
    refine r_iload_n (i := 1) 5 dX7_undo_4 rfl rfl rfl ?_
    refine r_callVi [1, 2, 3, 4, 5, 6, 7, 8] 8 dX7_undo_5 rfl ykX0_hasGuest lk_X7_145 (e_hasGuest (nI i)) rfl rfl (sb_now _ _ _ _ _ _ _ _ _ _ _ _ _ _) rfl rfl rfl rfl ⟨Nat.le_refl _, Nat.le_refl _⟩ ?_
    rw [hN.gu, hg]
    refine r_if_ne 13 11 dX7_undo_8 rfl rfl (fun h8 => ?_) (fun h8 => absurd h8 (by decide))
    refine r_aload_n (i := 0) 14 dX7_undo_13 rfl rfl rfl ?_
    refine r_getf 17 dX7_undo_14 rfl fl_X7_10 rfl rfl ?_
    refine r_getf 20 dX7_undo_17 rfl fl_X7_110 rfl rfl ?_
    refine r_aload_n (i := 0) 21 dX7_undo_20 rfl rfl rfl ?_
    refine r_getf 24 dX7_undo_21 rfl fl_X7_10 rfl rfl ?_
    refine r_getf 27 dX7_undo_24 rfl fl_X7_151 rfl rfl ?_
    refine r_iload_n (i := 1) 28 dX7_undo_27 rfl rfl rfl ?_
    refine r_iald 29 dX7_undo_28 rfl rfl (by assumption) ?_
    rw [hx, ec, k1]
    refine r_callSi [] 32 dX7_undo_29 rfl ykX7_undone lk_X7_175 (e_undone (by omega)) rfl rfl rfl ⟨Nat.le_refl _, Nat.le_refl _⟩ ?_
    refine r_istore_n (i := 2) 33 dX7_undo_32 rfl rfl rfl ?_
    refine r_aload_n (i := 0) 34 dX7_undo_33 rfl rfl rfl ?_
    refine r_getf 37 dX7_undo_34 rfl fl_X7_10 rfl rfl ?_
    refine r_iload_n (i := 2) 38 dX7_undo_37 rfl rfl rfl ?_
    refine r_callVi [1, 2, 3, 4, 5, 6, 7, 8] 41 dX7_undo_38 rfl ykX0_allows lk_X7_113 (e_allows hN (lt31 hN xl)) rfl rfl (sb_now _ _ _ _ _ _ _ _ _ _ _ _ _ _) rfl rfl rfl rfl ⟨Nat.le_refl _, Nat.le_refl _⟩ ?_
    refine r_if_ne 47 44 dX7_undo_41 rfl rfl (fun h41 => ?_) (fun h41 => ?_)
    · have g := bI_ne0 h41
      rw [if_pos g]
      refine r_aload_n (i := 0) 48 dX7_undo_47 rfl rfl rfl ?_
      refine r_getf 51 dX7_undo_48 rfl fl_X7_10 rfl rfl ?_
      refine r_iload_n (i := 2) 52 dX7_undo_51 rfl rfl rfl ?_
      refine r_putf 55 dX7_undo_52 rfl fl_X7_110 rfl rfl (fun _ _ => ⟨rfl, rfl⟩) (fun z => absurd z Bool.false_ne_true) ?_
      refine r_iload_n (i := 2) 56 dX7_undo_55 rfl rfl rfl ?_
      exact r_reti dX7_undo_56 rfl (by first | rfl | exact bI_nar _) ⟨Nat.le_refl _, Nat.le_refl _⟩ (fun _ => rfl) (⟨rfl, ⟨hT.1, xl, hT.2.2⟩, fSXY N (nI (tX S ^^^ 2 ^ sU (tA S) i)) (fYr N), Z, kp, R, Si, Sr, Ta, I, J, H0, H1, H2, H3, tn, rfl, hN, rfl, hy, ⟨ht, hb⟩, hf, hs, ⟨hk0, hk1⟩, hI, hJ, ⟨s0, s1, s2, s3⟩, hn⟩)
    · have g := bI_eq0 h41
      rw [if_neg (by rw [g]; decide)]
      refine r_bipush (v := (-2)) 46 dX7_undo_44 rfl rfl ?_
      exact r_reti dX7_undo_46 rfl (by first | rfl | exact bI_nar _) ⟨Nat.le_refl _, Nat.le_refl _⟩ (fun _ => rfl) (⟨rfl, hC0⟩)
theorem e_tpPut {T : TpT} {t j : Nat} (h : T.2.1 = nI t) (ht : t < 160) (hj : j < 128) : mm_e (d + 1) yX6_put mX6_put [.ref 0, .int (nI j)] (wTp T) (mm_q none (wTp (upd T.1 t (nI j), nI (t + 1), T.2.2))) := by
  have hin : vp_in T.2.1 160 := by rw [h]; exact vp_in_nI ht (by decide)
  have ec : T.2.1.toNatClampNeg = t := by rw [h]; exact nI_clamp (by omega)
  have e1 : T.2.1 + 1 = nI (t + 1) := by rw [h]; exact nI_1 t
  refine e_of [some (.ref 0), some (.int (nI j))] rfl (by decide) rfl rfl rfl ?_
  refine r_aload_n (i := 0) 1 dX6_put_0 rfl rfl rfl ?_
  refine r_getf 4 dX6_put_1 rfl fl_X6_15 rfl rfl ?_
  refine r_sipush (v := 160) 7 dX6_put_4 rfl rfl ?_
  refine r_icmp_ge 31 10 dX6_put_7 rfl rfl (fun h7 => absurd (ble_of (a := 160) (b := t) (by decide) (by omega) (by rw [← h]; exact h7)) (by omega)) (fun h7 => ?_)
  refine r_aload_n (i := 0) 11 dX6_put_10 rfl rfl rfl ?_
  refine r_getf 14 dX6_put_11 rfl fl_X6_9 rfl rfl ?_
  refine r_aload_n (i := 0) 15 dX6_put_14 rfl rfl rfl ?_
  refine r_getf 18 dX6_put_15 rfl fl_X6_15 rfl rfl ?_
  refine r_iload_n (i := 1) 19 dX6_put_18 rfl rfl rfl ?_
  refine r_i2b 20 dX6_put_19 rfl ?_
  rw [fa_byte_small hj]
  refine r_bast 21 dX6_put_20 rfl rfl (by assumption) ?_
  refine r_aload_n (i := 0) 22 dX6_put_21 rfl rfl rfl ?_
  refine r_dup 23 dX6_put_22 rfl rfl ?_
  refine r_getf 26 dX6_put_23 rfl fl_X6_15 rfl rfl ?_
  refine r_iconst (v := 1) 27 dX6_put_26 rfl rfl ?_
  refine r_iadd 28 dX6_put_27 rfl ?_
  refine r_putf 31 dX6_put_28 rfl fl_X6_15 rfl rfl (fun _ _ => ⟨rfl, rfl⟩) (fun z => absurd z Bool.false_ne_true) ?_
  exact r_retv dX6_put_31 rfl ⟨Nat.le_refl _, Nat.le_refl _⟩ (fun _ => rfl) (⟨rfl, by rw [ec, e1, fa_byte_small hj]; rfl⟩)
theorem gt127 {n : Int32} (h : ¬ n ≤ 127) : (128 : Int32) ≤ n := by
  rw [Int32.le_iff_toInt_le] at h ⊢
  have h1 : (127 : Int32).toInt = 127 := by decide
  have h2 : (128 : Int32).toInt = 128 := by decide
  omega
theorem ngt127 {n : Int32} (h : n ≤ 127) : ¬ (128 : Int32) ≤ n := by
  rw [Int32.le_iff_toInt_le] at h ⊢
  have h1 : (127 : Int32).toInt = 127 := by decide
  have h2 : (128 : Int32).toInt = 128 := by decide
  omega
theorem p_feed (hC : CX S w) (c : Int32) : mm_e (d + 2) yX7_feed mX7_feed [.ref 0, .int c] w (QX (s_feed S c).1 (s_feed S c).2) := by
  have hC0 := hC
  obtain ⟨hT, N, Z, kp, R, Si, Sr, Ta, I, J, H0, H1, H2, H3, tn, rfl, hN, hx, hy, ⟨ht, hb⟩, hf, hs, ⟨hk0, hk1⟩, hI, hJ, ⟨s0, s1, s2, s3⟩, hn⟩ := hC
  have l0 := lt31 hN hT.2.1
  have h6 := hN.n6
  have h4 := hN.g4
  have h5 := hN.b4
  have h160 := hT.2.2.2.1
  refine e_of [some (.ref 0), some (.int c)] rfl (by decide) rfl rfl rfl ?_
  rw [s_feed]
  refine r_iload_n (i := 1) 1 dX7_feed_0 rfl rfl rfl ?_
  refine r_if_lt 10 4 dX7_feed_1 rfl rfl (fun h1 => ?_) (fun h1 => ?_)
  · refine r_iconst (v := (-1)) 11 dX7_feed_10 rfl rfl ?_
    exact r_reti dX7_feed_11 rfl (by first | rfl | exact bI_nar _) ⟨Nat.le_refl _, Nat.le_refl _⟩ (fun _ => rfl) (⟨by first | rw [inb_f1 h1]; rfl | rw [inb_f2 (n := 128) (gt127 h7)]; rfl, by first | rw [inb_f1 h1]; exact hC0 | rw [inb_f2 (n := 128) (gt127 h7)]; exact hC0⟩)
  · refine r_iload_n (i := 1) 5 dX7_feed_4 rfl rfl rfl ?_
    refine r_bipush (v := 127) 7 dX7_feed_5 rfl rfl ?_
    refine r_icmp_le 12 10 dX7_feed_7 rfl rfl (fun h7 => ?_) (fun h7 => ?_)
    · obtain ⟨j, hj, rfl⟩ := inb_nI (n := 128) (by decide) (inb_t h1 (ngt127 h7))
      rw [inb_t h1 (ngt127 h7), nI_clamp (n := j) (by omega), if_pos rfl]
      refine r_aload_n (i := 0) 13 dX7_feed_12 rfl rfl rfl ?_
      refine r_getf 16 dX7_feed_13 rfl fl_X7_30 rfl rfl ?_
      refine r_getf 19 dX7_feed_16 rfl fl_X7_62 rfl rfl ?_
      refine r_getf 22 dX7_feed_19 rfl fl_X7_66 rfl rfl ?_
      refine r_sipush (v := 160) 25 dX7_feed_22 rfl rfl ?_
      rw [ht]
      refine r_icmp_lt 31 28 dX7_feed_25 rfl rfl (fun h25 => ?_) (fun h25 => ?_)
      · have g := blt_of (b := 160) (by omega) (by decide) h25
        rw [if_pos g]
        refine r_aload_n (i := 0) 32 dX7_feed_31 rfl rfl rfl ?_
        refine r_getf 35 dX7_feed_32 rfl fl_X7_30 rfl rfl ?_
        refine r_getf 38 dX7_feed_35 rfl fl_X7_62 rfl rfl ?_
        refine r_iload_n (i := 1) 39 dX7_feed_38 rfl rfl rfl ?_
        refine r_callVu [20, 21] 42 dX7_feed_39 rfl ykX6_put lk_X7_72 (e_tpPut (T := R.1) ht g hj) rfl rfl (sb_tp _ _ _ _ _ _ _ _ _ _ _ _ _ _) rfl rfl rfl rfl ⟨Nat.le_refl _, Nat.le_refl _⟩ ?_
        rw [bk_tp]
        refine r_aload_n (i := 0) 43 dX7_feed_42 rfl rfl rfl ?_
        refine r_getf 46 dX7_feed_43 rfl fl_X7_30 rfl rfl ?_
        refine r_getf 49 dX7_feed_46 rfl fl_X7_62 rfl rfl ?_
        refine r_getf 52 dX7_feed_49 rfl fl_X7_66 rfl rfl ?_
        exact r_reti dX7_feed_52 rfl (by first | rfl | exact bI_nar _) ⟨Nat.le_refl _, Nat.le_refl _⟩ (fun _ => rfl) (⟨rfl, ⟨hT.1, hT.2.1, hT.2.2.1, show (tT S).1 + 1 ≤ 160 by omega, fun i hi => by by_cases q : i = (tT S).1; (· simp only [q, if_true]; exact hj); (· simp only [if_neg q]; exact hT.2.2.2.2.1 i (by have hi : i < (tT S).1 + 1 := hi; omega)), hT.2.2.2.2.2⟩, N, Z, kp, ((upd R.1.1 (tT S).1 (nI j), nI ((tT S).1 + 1), R.1.2.2), R.2), Si, Sr, Ta, I, J, H0, H1, H2, H3, tn, rfl, hN, hx, hy, ⟨rfl, fun i hi => by by_cases q : i = (tT S).1; (· simp only [upd, q, if_true]); (· simp only [upd, if_neg q]; exact hb i (by have hi : i < (tT S).1 + 1 := hi; omega))⟩, hf, hs, ⟨hk0, hk1⟩, hI, hJ, ⟨s0, s1, s2, s3⟩, hn⟩)
      · have g := bnlt_of (b := 160) (by omega) (by decide) h25
        rw [if_neg (by omega)]
        refine r_bipush (v := (-3)) 30 dX7_feed_28 rfl rfl ?_
        exact r_reti dX7_feed_30 rfl (by first | rfl | exact bI_nar _) ⟨Nat.le_refl _, Nat.le_refl _⟩ (fun _ => rfl) (⟨rfl, hC0⟩)
    · refine r_iconst (v := (-1)) 11 dX7_feed_10 rfl rfl ?_
      exact r_reti dX7_feed_11 rfl (by first | rfl | exact bI_nar _) ⟨Nat.le_refl _, Nat.le_refl _⟩ (fun _ => rfl) (⟨by first | rw [inb_f1 h1]; rfl | rw [inb_f2 (n := 128) (gt127 h7)]; rfl, by first | rw [inb_f1 h1]; exact hC0 | rw [inb_f2 (n := 128) (gt127 h7)]; exact hC0⟩)
theorem p_end (hC : CX S w) (n : Int32) : mm_e (d + 1) yX7_end mX7_end [.ref 0, .int n] w (QX (s_end S n).1 (s_end S n).2) := by
  have hC0 := hC
  obtain ⟨hT, N, Z, kp, R, Si, Sr, Ta, I, J, H0, H1, H2, H3, tn, rfl, hN, hx, hy, ⟨ht, hb⟩, hf, hs, ⟨hk0, hk1⟩, hI, hJ, ⟨s0, s1, s2, s3⟩, hn⟩ := hC
  have l0 := lt31 hN hT.2.1
  have h6 := hN.n6
  have h4 := hN.g4
  have h5 := hN.b4
  have h160 := hT.2.2.2.1
  refine e_of [some (.ref 0), some (.int n), none] rfl (by decide) rfl rfl rfl ?_
  rw [s_end]
  refine r_iload_n (i := 1) 1 dX7_end_0 rfl rfl rfl ?_
  refine r_if_lt 18 4 dX7_end_1 rfl rfl (fun h1 => ?_) (fun h1 => ?_)
  · refine r_iconst (v := (-1)) 19 dX7_end_18 rfl rfl ?_
    exact r_reti dX7_end_19 rfl (by first | rfl | exact bI_nar _) ⟨Nat.le_refl _, Nat.le_refl _⟩ (fun _ => rfl) (⟨by first | rw [inb_f1 h1]; rfl | rw [g]; rfl, by first | rw [inb_f1 h1]; exact hC0 | rw [g]; exact hC0⟩)
  · refine r_iload_n (i := 1) 5 dX7_end_4 rfl rfl rfl ?_
    refine r_aload_n (i := 0) 6 dX7_end_5 rfl rfl rfl ?_
    refine r_getf 9 dX7_end_6 rfl fl_X7_30 rfl rfl ?_
    refine r_getf 12 dX7_end_9 rfl fl_X7_62 rfl rfl ?_
    refine r_getf 15 dX7_end_12 rfl fl_X7_66 rfl rfl ?_
    rw [ht]
    refine r_icmp_le 20 18 dX7_end_15 rfl rfl (fun h15 => ?_) (fun h15 => ?_)
    · obtain ⟨j, hj, rfl⟩ : ∃ j, j < (tT S).1 + 1 ∧ n = nI j := by rcases pk_ix n (n := (tT S).1 + 1) (by omega) with q | q | q; (· exact absurd q h1); (· exact absurd (Int32.le_trans q h15) (nI_ge (by omega) (by omega))); (· exact q)
      rw [nI_inb hj (by omega), nI_clamp (n := j) (by omega), if_pos rfl]
      refine r_aload_n (i := 0) 21 dX7_end_20 rfl rfl rfl ?_
      refine r_getf 24 dX7_end_21 rfl fl_X7_30 rfl rfl ?_
      refine r_getf 27 dX7_end_24 rfl fl_X7_62 rfl rfl ?_
      refine r_getf 30 dX7_end_27 rfl fl_X7_66 rfl rfl ?_
      rw [ht]
      refine r_istore_n (i := 2) 31 dX7_end_30 rfl rfl rfl ?_
      refine r_aload_n (i := 0) 32 dX7_end_31 rfl rfl rfl ?_
      refine r_getf 35 dX7_end_32 rfl fl_X7_30 rfl rfl ?_
      refine r_getf 38 dX7_end_35 rfl fl_X7_62 rfl rfl ?_
      refine r_iload_n (i := 1) 39 dX7_end_38 rfl rfl rfl ?_
      refine r_putf 42 dX7_end_39 rfl fl_X7_66 rfl rfl (fun _ _ => ⟨rfl, rfl⟩) (fun z => absurd z Bool.false_ne_true) ?_
      refine r_iload_n (i := 2) 43 dX7_end_42 rfl rfl rfl ?_
      exact r_reti dX7_end_43 rfl (by first | rfl | exact bI_nar _) ⟨Nat.le_refl _, Nat.le_refl _⟩ (fun _ => rfl) (⟨rfl, ⟨hT.1, hT.2.1, hT.2.2.1, show j ≤ 160 by omega, fun i hi => hT.2.2.2.2.1 i (by have hi : i < j := hi; omega), hT.2.2.2.2.2⟩, N, Z, kp, ((R.1.1, nI j, R.1.2.2), R.2), Si, Sr, Ta, I, J, H0, H1, H2, H3, tn, rfl, hN, hx, hy, ⟨rfl, fun i hi => hb i (by have hi : i < j := hi; omega)⟩, hf, hs, ⟨hk0, hk1⟩, hI, hJ, ⟨s0, s1, s2, s3⟩, hn⟩)
    · have g : inb (nI ((tT S).1 + 1)) n = false := inb_f2 (by rcases pk_ix n (n := (tT S).1 + 1) (by omega) with q | q | ⟨k, hk, rfl⟩; (· exact absurd q h1); (· exact q); (· exact absurd (nI_le (by omega) (by omega)) h15))
      refine r_iconst (v := (-1)) 19 dX7_end_18 rfl rfl ?_
      exact r_reti dX7_end_19 rfl (by first | rfl | exact bI_nar _) ⟨Nat.le_refl _, Nat.le_refl _⟩ (fun _ => rfl) (⟨by first | rw [inb_f1 h1]; rfl | rw [g]; rfl, by first | rw [inb_f1 h1]; exact hC0 | rw [g]; exact hC0⟩)
theorem p_forget (hC : CX S w) (n : Int32) : mm_e (d + 1) yX7_forget mX7_forget [.ref 0, .int n] w (QX (s_forget S n).1 (s_forget S n).2) := by
  have hC0 := hC
  obtain ⟨hT, N, Z, kp, R, Si, Sr, Ta, I, J, H0, H1, H2, H3, tn, rfl, hN, hx, hy, ⟨ht, hb⟩, hf, hs, ⟨hk0, hk1⟩, hI, hJ, ⟨s0, s1, s2, s3⟩, hn⟩ := hC
  have l0 := lt31 hN hT.2.1
  have h6 := hN.n6
  have h4 := hN.g4
  have h5 := hN.b4
  have hv6 := hs.2.1
  have hmn : Si.1 = nI (tV S).1 := hs.1
  refine e_of [some (.ref 0), some (.int n), none] rfl (by decide) rfl rfl rfl ?_
  rw [s_forget]
  refine r_iload_n (i := 1) 1 dX7_forget_0 rfl rfl rfl ?_
  refine r_if_lt 15 4 dX7_forget_1 rfl rfl (fun h1 => ?_) (fun h1 => ?_)
  · refine r_iconst (v := (-1)) 16 dX7_forget_15 rfl rfl ?_
    exact r_reti dX7_forget_16 rfl (by first | rfl | exact bI_nar _) ⟨Nat.le_refl _, Nat.le_refl _⟩ (fun _ => rfl) (⟨by first | rw [inb_f1 h1]; rfl | rw [g]; rfl, by first | rw [inb_f1 h1]; exact hC0 | rw [g]; exact hC0⟩)
  · refine r_iload_n (i := 1) 5 dX7_forget_4 rfl rfl rfl ?_
    refine r_aload_n (i := 0) 6 dX7_forget_5 rfl rfl rfl ?_
    refine r_getf 9 dX7_forget_6 rfl fl_X7_37 rfl rfl ?_
    refine r_getf 12 dX7_forget_9 rfl fl_X7_92 rfl rfl ?_
    rw [hmn]
    refine r_icmp_le 17 15 dX7_forget_12 rfl rfl (fun h12 => ?_) (fun h12 => ?_)
    · obtain ⟨j, hj, rfl⟩ : ∃ j, j < (tV S).1 + 1 ∧ n = nI j := by rcases pk_ix n (n := (tV S).1 + 1) (by omega) with q | q | q; (· exact absurd q h1); (· exact absurd (Int32.le_trans q h12) (nI_ge (by omega) (by omega))); (· exact q)
      rw [nI_inb hj (by omega), nI_clamp (n := j) (by omega), if_pos rfl]
      refine r_aload_n (i := 0) 18 dX7_forget_17 rfl rfl rfl ?_
      refine r_getf 21 dX7_forget_18 rfl fl_X7_37 rfl rfl ?_
      refine r_getf 24 dX7_forget_21 rfl fl_X7_92 rfl rfl ?_
      rw [hmn]
      refine r_istore_n (i := 2) 25 dX7_forget_24 rfl rfl rfl ?_
      refine r_aload_n (i := 0) 26 dX7_forget_25 rfl rfl rfl ?_
      refine r_getf 29 dX7_forget_26 rfl fl_X7_37 rfl rfl ?_
      refine r_iload_n (i := 1) 30 dX7_forget_29 rfl rfl rfl ?_
      refine r_putf 33 dX7_forget_30 rfl fl_X7_92 rfl rfl (fun _ _ => ⟨rfl, rfl⟩) (fun z => absurd z Bool.false_ne_true) ?_
      refine r_iload_n (i := 2) 34 dX7_forget_33 rfl rfl rfl ?_
      exact r_reti dX7_forget_34 rfl (by first | rfl | exact bI_nar _) ⟨Nat.le_refl _, Nat.le_refl _⟩ (fun _ => rfl) (⟨rfl, ⟨hT.1, hT.2.1, hT.2.2.1, hT.2.2.2.1, hT.2.2.2.2.1, hT.2.2.2.2.2.1, ⟨show j ≤ 6 by omega, fun i hi => hT.2.2.2.2.2.2.1.2 i (by have hi : i < j := hi; omega)⟩, hT.2.2.2.2.2.2.2⟩, N, Z, kp, R, (nI j, Si.2), Sr, Ta, I, J, H0, H1, H2, H3, tn, rfl, hN, hx, hy, ⟨ht, hb⟩, hf, ⟨rfl, show j ≤ 6 by omega, fun i hi => hs.2.2 i (by have hi : i < j := hi; omega)⟩, ⟨hk0, hk1⟩, hI, hJ, ⟨s0, s1, s2, s3⟩, hn⟩)
    · have g : inb (nI ((tV S).1 + 1)) n = false := inb_f2 (by rcases pk_ix n (n := (tV S).1 + 1) (by omega) with q | q | ⟨k, hk, rfl⟩; (· exact absurd q h1); (· exact q); (· exact absurd (nI_le (by omega) (by omega)) h12))
      refine r_iconst (v := (-1)) 16 dX7_forget_15 rfl rfl ?_
      exact r_reti dX7_forget_16 rfl (by first | rfl | exact bI_nar _) ⟨Nat.le_refl _, Nat.le_refl _⟩ (fun _ => rfl) (⟨by first | rw [inb_f1 h1]; rfl | rw [g]; rfl, by first | rw [inb_f1 h1]; exact hC0 | rw [g]; exact hC0⟩)
theorem gt9 {n : Int32} (h : ¬ n ≤ 9) : (10 : Int32) ≤ n := by
  rw [Int32.le_iff_toInt_le] at h ⊢
  have h1 : (9 : Int32).toInt = 9 := by decide
  have h2 : (10 : Int32).toInt = 10 := by decide
  omega
theorem ngt9 {n : Int32} (h : n ≤ 9) : ¬ (10 : Int32) ≤ n := by
  rw [Int32.le_iff_toInt_le] at h ⊢
  have h1 : (9 : Int32).toInt = 9 := by decide
  have h2 : (10 : Int32).toInt = 10 := by decide
  omega
theorem p_see (hC : CX S w) (f n : Int32) (b : Bool) : mm_e (d + 2) yX7_see mX7_see [.ref 0, .int f, .int n, .int (bI b)] w (QX (s_see S f n b).1 (s_see S f n b).2) := by
  have hC0 := hC
  obtain ⟨hT, N, Z, kp, R, Si, Sr, Ta, I, J, H0, H1, H2, H3, tn, rfl, hN, hx, hy, ⟨ht, hb⟩, hf, hs, ⟨hk0, hk1⟩, hI, hJ, ⟨s0, s1, s2, s3⟩, hn⟩ := hC
  have l0 := lt31 hN hT.2.1
  have h6 := hN.n6
  have h4 := hN.g4
  have h5 := hN.b4
  have hv6 := hs.2.1
  have hmn : Si.1 = nI (tV S).1 := hs.1
  refine e_of [some (.ref 0), some (.int f), some (.int n), some (.int (bI b))] rfl (by decide) rfl rfl rfl ?_
  rw [s_see]
  cases hg : inb (nI (sN (tA S))) f with
  | false =>
    refine r_aload_n (i := 0) 1 dX7_see_0 rfl rfl rfl ?_
    refine r_getf 4 dX7_see_1 rfl fl_X7_10 rfl rfl ?_
    refine r_iload_n (i := 1) 5 dX7_see_4 rfl rfl rfl ?_
    refine r_callVi [1, 2, 3, 4, 5, 6, 7, 8] 8 dX7_see_5 rfl ykX0_hasThing lk_X7_124 (e_hasThing f) rfl rfl (sb_now _ _ _ _ _ _ _ _ _ _ _ _ _ _) rfl rfl rfl rfl ⟨Nat.le_refl _, Nat.le_refl _⟩ ?_
    rw [hN.th, hg]
    refine r_if_eq 21 11 dX7_see_8 rfl rfl (fun h8 => ?_) (fun h8 => absurd rfl h8)
    refine r_iconst (v := (-1)) 22 dX7_see_21 rfl rfl ?_
    exact r_reti dX7_see_22 rfl (by first | rfl | exact bI_nar _) ⟨Nat.le_refl _, Nat.le_refl _⟩ (fun _ => rfl) (⟨rfl, hC0⟩)
  | true =>
    obtain ⟨i, hi, rfl⟩ := inb_nI (by omega) hg
    rw [nI_clamp (n := i) (by omega), Bool.true_and]
    refine r_aload_n (i := 0) 1 dX7_see_0 rfl rfl rfl ?_
    refine r_getf 4 dX7_see_1 rfl fl_X7_10 rfl rfl ?_
    refine r_iload_n (i := 1) 5 dX7_see_4 rfl rfl rfl ?_
    refine r_callVi [1, 2, 3, 4, 5, 6, 7, 8] 8 dX7_see_5 rfl ykX0_hasThing lk_X7_124 (e_hasThing (nI i)) rfl rfl (sb_now _ _ _ _ _ _ _ _ _ _ _ _ _ _) rfl rfl rfl rfl ⟨Nat.le_refl _, Nat.le_refl _⟩ ?_
    rw [hN.th, hg]
    refine r_if_eq 21 11 dX7_see_8 rfl rfl (fun h8 => absurd h8 (by decide)) (fun h8 => ?_)
    refine r_iload_n (i := 2) 12 dX7_see_11 rfl rfl rfl ?_
    refine r_if_lt 21 15 dX7_see_12 rfl rfl (fun h12 => ?_) (fun h12 => ?_)
    · refine r_iconst (v := (-1)) 22 dX7_see_21 rfl rfl ?_
      exact r_reti dX7_see_22 rfl (by first | rfl | exact bI_nar _) ⟨Nat.le_refl _, Nat.le_refl _⟩ (fun _ => rfl) (⟨by first | rw [inb_f1 h12]; rfl | rw [inb_f2 (n := 10) (gt9 h18)]; rfl, by first | rw [inb_f1 h12]; exact hC0 | rw [inb_f2 (n := 10) (gt9 h18)]; exact hC0⟩)
    · refine r_iload_n (i := 2) 16 dX7_see_15 rfl rfl rfl ?_
      refine r_bipush (v := 9) 18 dX7_see_16 rfl rfl ?_
      refine r_icmp_le 23 21 dX7_see_18 rfl rfl (fun h18 => ?_) (fun h18 => ?_)
      · obtain ⟨j, hj, rfl⟩ := inb_nI (n := 10) (by decide) (inb_t h12 (ngt9 h18))
        rw [inb_t h12 (ngt9 h18), nI_clamp (n := j) (by omega), if_pos rfl]
        refine r_aload_n (i := 0) 24 dX7_see_23 rfl rfl rfl ?_
        refine r_getf 27 dX7_see_24 rfl fl_X7_37 rfl rfl ?_
        refine r_getf 30 dX7_see_27 rfl fl_X7_92 rfl rfl ?_
        refine r_bipush (v := 6) 32 dX7_see_30 rfl rfl ?_
        rw [hmn]
        refine r_icmp_lt 38 35 dX7_see_32 rfl rfl (fun h32 => ?_) (fun h32 => ?_)
        · have g := blt_of (b := 6) (by omega) (by decide) h32
          rw [if_pos g]
          refine r_aload_n (i := 0) 39 dX7_see_38 rfl rfl rfl ?_
          refine r_getf 42 dX7_see_39 rfl fl_X7_37 rfl rfl ?_
          refine r_iload_n (i := 1) 43 dX7_see_42 rfl rfl rfl ?_
          refine r_iload_n (i := 2) 44 dX7_see_43 rfl rfl rfl ?_
          refine r_iload_n (i := 3) 45 dX7_see_44 rfl rfl rfl ?_
          refine r_callVu [30, 31, 32, 33, 34] 48 dX7_see_45 rfl ykX4_add lk_X7_264 (e_siAdd (S := Si) hmn g (nI i) (nI j) b) rfl rfl (sb_si _ _ _ _ _ _ _ _ _ _ _ _ _ _) rfl rfl rfl rfl ⟨Nat.le_refl _, Nat.le_refl _⟩ ?_
          rw [bk_si]
          refine r_aload_n (i := 0) 49 dX7_see_48 rfl rfl rfl ?_
          refine r_getf 52 dX7_see_49 rfl fl_X7_37 rfl rfl ?_
          refine r_getf 55 dX7_see_52 rfl fl_X7_92 rfl rfl ?_
          exact r_reti dX7_see_55 rfl (by first | rfl | exact bI_nar _) ⟨Nat.le_refl _, Nat.le_refl _⟩ (fun _ => rfl) (⟨rfl, ⟨hT.1, hT.2.1, hT.2.2.1, hT.2.2.2.1, hT.2.2.2.2.1, hT.2.2.2.2.2.1, ⟨show (tV S).1 + 1 ≤ 6 by omega, fun k hk => by by_cases q : k = (tV S).1; (· simp only [q, if_true]; exact ⟨hi, by omega, by cases b <;> decide⟩); (· simp only [if_neg q]; exact hT.2.2.2.2.2.2.1.2 k (by have hk : k < (tV S).1 + 1 := hk; omega))⟩, hT.2.2.2.2.2.2.2⟩, N, Z, kp, R, siA Si (tV S).1 (nI i) (nI j) (bI b), Sr, Ta, I, J, H0, H1, H2, H3, tn, rfl, hN, hx, hy, ⟨ht, hb⟩, hf, ⟨rfl, show (tV S).1 + 1 ≤ 6 by omega, fun k hk => by by_cases q : k = (tV S).1; (· simp only [siA, upd, q, if_true]; exact ⟨trivial, by omega, trivial, by omega, by cases b <;> rfl, by cases b <;> decide⟩); (· simp only [siA, upd, if_neg q]; exact hs.2.2 k (by have hk : k < (tV S).1 + 1 := hk; omega))⟩, ⟨hk0, hk1⟩, hI, hJ, ⟨s0, s1, s2, s3⟩, hn⟩)
        · have g := bnlt_of (b := 6) (by omega) (by decide) h32
          rw [if_neg (by omega)]
          refine r_bipush (v := (-3)) 37 dX7_see_35 rfl rfl ?_
          exact r_reti dX7_see_37 rfl (by first | rfl | exact bI_nar _) ⟨Nat.le_refl _, Nat.le_refl _⟩ (fun _ => rfl) (⟨rfl, hC0⟩)
      · refine r_iconst (v := (-1)) 22 dX7_see_21 rfl rfl ?_
        exact r_reti dX7_see_22 rfl (by first | rfl | exact bI_nar _) ⟨Nat.le_refl _, Nat.le_refl _⟩ (fun _ => rfl) (⟨by first | rw [inb_f1 h12]; rfl | rw [inb_f2 (n := 10) (gt9 h18)]; rfl, by first | rw [inb_f1 h12]; exact hC0 | rw [inb_f2 (n := 10) (gt9 h18)]; exact hC0⟩)
end XB
