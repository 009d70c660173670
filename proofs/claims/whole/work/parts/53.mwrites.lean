theorem c3 (m : Nat) : (3 : Int32) * nI m = nI (3 * m) := by rw [show (3 : Int32) = nI 3 from rfl, pk_mul]
theorem mSe_add {s : mSn} {V : sV} (h : mSe s V) (a b c : Nat) : mSe (upd (upd (upd s.1 (3 * V.1) (nI a)) (3 * V.1 + 1) (nI b)) (3 * V.1 + 2) (nI c), nI (V.1 + 1)) (V.1 + 1, (fun i => if i = V.1 then a else V.2.1 i), (fun i => if i = V.1 then b else V.2.2.1 i), (fun i => if i = V.1 then c else V.2.2.2 i)) := by
  refine ⟨rfl, fun i hi => ?_⟩
  have hi : i < V.1 + 1 := hi
  by_cases q : i = V.1
  · subst q
    simp only [if_true]
    refine ⟨?_, ?_, ?_⟩
    · rw [u_ne (by omega), u_ne (by omega), u_at]
    · rw [u_ne (by omega), u_at]
    · rw [u_at]
  · obtain ⟨a1, a2, a3⟩ := h.2 i (by omega)
    simp only [if_neg q]
    refine ⟨?_, ?_, ?_⟩
    · rw [u_ne (by omega), u_ne (by omega), u_ne (by omega)]; exact a1
    · rw [u_ne (by omega), u_ne (by omega), u_ne (by omega)]; exact a2
    · rw [u_ne (by omega), u_ne (by omega), u_ne (by omega)]; exact a3
section MC
variable {d : Nat} {S : sT} {w : mm_W} {W : MT} {A : sA}
theorem q_feed (hT : tOk S) (hC : CM S w) (c : Int32) : mm_e (d + 2) yX8_feed mX8_feed [.ref 0, .int c] w (QM (s_feed S c).1 (s_feed S c).2) := by
  have hC0 := hC
  obtain ⟨W, rfl, hR⟩ := hC
  obtain ⟨hM, ⟨hx, hy⟩, ⟨ht, hb⟩, hf, ⟨v1, v2⟩, ⟨hk0, hk1⟩, hI, hH, hn⟩ := id hR
  have h6 := hM.n6
  have h4 := hM.g4
  have h5 := hM.b4
  have p6 := p2_le hM.n6
  have l0 := hM.lt31 hT.2.1
  have i18 : vp_in (18 : Int32) 148 := vp_in_nI (n := 18) (by decide) (by decide)
  have i35 : vp_in (35 : Int32) 148 := vp_in_nI (n := 35) (by decide) (by decide)
  have i36 : vp_in (36 : Int32) 148 := vp_in_nI (n := 36) (by decide) (by decide)
  have ex : W.1.1 (18 : Int32).toNatClampNeg = nI (tX S) := hx
  have ey : W.1.1 (36 : Int32).toNatClampNeg = nI (tY S) := hy
  have eb : W.1.1 (35 : Int32).toNatClampNeg = nI (sB (tA S)) := hM.bn
  refine e_of [some (.ref 0), some (.int c)] rfl (by decide) rfl rfl rfl ?_
  rw [s_feed]
  cases g : inb 128 c with
  | false =>
    refine r_iload_n (i := 1) 1 dX8_feed_0 rfl rfl rfl ?_
    refine r_i2l 2 dX8_feed_1 rfl ?_
    refine r_lconst (v := 0) 3 dX8_feed_2 rfl rfl ?_
    refine r_ldc2 6 dX8_feed_3 rfl k_X8_44 ?_
    refine r_callSi [] 9 dX8_feed_6 rfl ykX8_in lk_X8_46 (e_in0 c (n := 128) (by decide) (by decide)) rfl rfl rfl ⟨Nat.le_refl _, Nat.le_refl _⟩ ?_
    rw [show inb (nI 128) c = false from g]
    refine r_if_ne 14 12 dX8_feed_9 rfl rfl (fun h9 => absurd rfl h9) (fun h9 => ?_)
    refine r_iconst (v := (-1)) 13 dX8_feed_12 rfl rfl ?_
    exact r_reti dX8_feed_13 rfl (by first | rfl | exact bI_nar _) ⟨Nat.le_refl _, Nat.le_refl _⟩ (fun _ => rfl) (⟨rfl, hC0⟩)
  | true =>
    obtain ⟨j, hj, rfl⟩ := inb_nI (n := 128) (by decide) g
    have hl := hT.2.2.2.1
    have ec := nI_clamp (n := (tT S).1) (by omega)
    rw [nI_clamp (n := j) (by omega), if_pos rfl]
    refine r_iload_n (i := 1) 1 dX8_feed_0 rfl rfl rfl ?_
    refine r_i2l 2 dX8_feed_1 rfl ?_
    refine r_lconst (v := 0) 3 dX8_feed_2 rfl rfl ?_
    refine r_ldc2 6 dX8_feed_3 rfl k_X8_44 ?_
    refine r_callSi [] 9 dX8_feed_6 rfl ykX8_in lk_X8_46 (e_in0 (nI j) (n := 128) (by decide) (by decide)) rfl rfl rfl ⟨Nat.le_refl _, Nat.le_refl _⟩ ?_
    rw [show inb (nI 128) (nI j) = true from g]
    refine r_if_ne 14 12 dX8_feed_9 rfl rfl (fun h9 => ?_) (fun h9 => absurd h9 (by decide))
    refine r_aload_n (i := 0) 15 dX8_feed_14 rfl rfl rfl ?_
    refine r_getf 18 dX8_feed_15 rfl fl_X8_50 rfl rfl ?_
    rw [ht]
    refine r_sipush (v := 160) 21 dX8_feed_18 rfl rfl ?_
    refine r_icmp_ne 27 24 dX8_feed_21 rfl rfl (fun h21 => ?_) (fun h21 => ?_)
    · have q := bne_of (b := 160) (by omega) (by decide) h21
      have q2 : (tT S).1 < 160 := (by omega)
      have hin : vp_in (nI (tT S).1) 160 := vp_in_nI q2 (by decide)
      rw [if_pos q2]
      refine r_aload_n (i := 0) 28 dX8_feed_27 rfl rfl rfl ?_
      refine r_getf 31 dX8_feed_28 rfl fl_X8_16 rfl rfl ?_
      refine r_aload_n (i := 0) 32 dX8_feed_31 rfl rfl rfl ?_
      refine r_getf 35 dX8_feed_32 rfl fl_X8_50 rfl rfl ?_
      rw [ht]
      refine r_iload_n (i := 1) 36 dX8_feed_35 rfl rfl rfl ?_
      refine r_iast 37 dX8_feed_36 rfl rfl (by assumption) ?_
      refine r_aload_n (i := 0) 38 dX8_feed_37 rfl rfl rfl ?_
      refine r_dup 39 dX8_feed_38 rfl rfl ?_
      refine r_getf 42 dX8_feed_39 rfl fl_X8_50 rfl rfl ?_
      rw [ht]
      refine r_iconst (v := 1) 43 dX8_feed_42 rfl rfl ?_
      refine r_iadd 44 dX8_feed_43 rfl ?_
      rw [nI_1]
      refine r_putf 47 dX8_feed_44 rfl fl_X8_50 rfl rfl (fun _ _ => ⟨rfl, rfl⟩) (fun z => absurd z Bool.false_ne_true) ?_
      refine r_aload_n (i := 0) 48 dX8_feed_47 rfl rfl rfl ?_
      refine r_getf 51 dX8_feed_48 rfl fl_X8_50 rfl rfl ?_
      rw [ec]
      exact r_reti dX8_feed_51 rfl (by first | rfl | exact bI_nar _) ⟨Nat.le_refl _, Nat.le_refl _⟩ (fun _ => rfl) (⟨rfl, zTp W (upd W.2.2.1.1 (tT S).1 (nI j), nI ((tT S).1 + 1), W.2.2.1.2.2), rfl, hM, ⟨hx, hy⟩, ⟨rfl, fun i hi => by by_cases q : i = (tT S).1; (· simp only [upd, q, if_true]); (· simp only [upd, if_neg q]; exact hb i (by have hi : i < (tT S).1 + 1 := hi; omega))⟩, hf, ⟨v1, v2⟩, ⟨hk0, hk1⟩, hI, hH, hn⟩)
    · have q := beq_of (b := 160) (by omega) (by decide) h21
      rw [if_neg (by omega)]
      refine r_bipush (v := (-3)) 26 dX8_feed_24 rfl rfl ?_
      exact r_reti dX8_feed_26 rfl (by first | rfl | exact bI_nar _) ⟨Nat.le_refl _, Nat.le_refl _⟩ (fun _ => rfl) (⟨rfl, hC0⟩)
theorem q_end (hT : tOk S) (hC : CM S w) (n : Int32) : mm_e (d + 2) yX8_end mX8_end [.ref 0, .int n] w (QM (s_end S n).1 (s_end S n).2) := by
  have hC0 := hC
  obtain ⟨W, rfl, hR⟩ := hC
  obtain ⟨hM, ⟨hx, hy⟩, ⟨ht, hb⟩, hf, ⟨v1, v2⟩, ⟨hk0, hk1⟩, hI, hH, hn⟩ := id hR
  have h6 := hM.n6
  have h4 := hM.g4
  have h5 := hM.b4
  have p6 := p2_le hM.n6
  have l0 := hM.lt31 hT.2.1
  have i18 : vp_in (18 : Int32) 148 := vp_in_nI (n := 18) (by decide) (by decide)
  have i35 : vp_in (35 : Int32) 148 := vp_in_nI (n := 35) (by decide) (by decide)
  have i36 : vp_in (36 : Int32) 148 := vp_in_nI (n := 36) (by decide) (by decide)
  have ex : W.1.1 (18 : Int32).toNatClampNeg = nI (tX S) := hx
  have ey : W.1.1 (36 : Int32).toNatClampNeg = nI (tY S) := hy
  have eb : W.1.1 (35 : Int32).toNatClampNeg = nI (sB (tA S)) := hM.bn
  refine e_of [some (.ref 0), some (.int n), none] rfl (by decide) rfl rfl rfl ?_
  rw [s_end]
  have hl := hT.2.2.2.1
  cases g : inb (nI ((tT S).1 + 1)) n with
  | false =>
    refine r_iload_n (i := 1) 1 dX8_end_0 rfl rfl rfl ?_
    refine r_i2l 2 dX8_end_1 rfl ?_
    refine r_lconst (v := 0) 3 dX8_end_2 rfl rfl ?_
    refine r_aload_n (i := 0) 4 dX8_end_3 rfl rfl rfl ?_
    refine r_getf 7 dX8_end_4 rfl fl_X8_50 rfl rfl ?_
    rw [ht]
    refine r_i2l 8 dX8_end_7 rfl ?_
    refine r_callSi [] 11 dX8_end_8 rfl ykX8_in lk_X8_46 (e_in0 n (n := (tT S).1 + 1) (by omega) (hiT (by omega))) rfl rfl rfl ⟨Nat.le_refl _, Nat.le_refl _⟩ ?_
    rw [g]
    refine r_if_ne 16 14 dX8_end_11 rfl rfl (fun h11 => absurd rfl h11) (fun h11 => ?_)
    refine r_iconst (v := (-1)) 15 dX8_end_14 rfl rfl ?_
    exact r_reti dX8_end_15 rfl (by first | rfl | exact bI_nar _) ⟨Nat.le_refl _, Nat.le_refl _⟩ (fun _ => rfl) (⟨rfl, hC0⟩)
  | true =>
    obtain ⟨j, hj, rfl⟩ := inb_nI (by omega) g
    rw [nI_clamp (n := j) (by omega), if_pos rfl]
    refine r_iload_n (i := 1) 1 dX8_end_0 rfl rfl rfl ?_
    refine r_i2l 2 dX8_end_1 rfl ?_
    refine r_lconst (v := 0) 3 dX8_end_2 rfl rfl ?_
    refine r_aload_n (i := 0) 4 dX8_end_3 rfl rfl rfl ?_
    refine r_getf 7 dX8_end_4 rfl fl_X8_50 rfl rfl ?_
    rw [ht]
    refine r_i2l 8 dX8_end_7 rfl ?_
    refine r_callSi [] 11 dX8_end_8 rfl ykX8_in lk_X8_46 (e_in0 (nI j) (n := (tT S).1 + 1) (by omega) (hiT (by omega))) rfl rfl rfl ⟨Nat.le_refl _, Nat.le_refl _⟩ ?_
    rw [g]
    refine r_if_ne 16 14 dX8_end_11 rfl rfl (fun h11 => ?_) (fun h11 => absurd h11 (by decide))
    refine r_aload_n (i := 0) 17 dX8_end_16 rfl rfl rfl ?_
    refine r_getf 20 dX8_end_17 rfl fl_X8_50 rfl rfl ?_
    rw [ht]
    refine r_istore_n (i := 2) 21 dX8_end_20 rfl rfl rfl ?_
    refine r_aload_n (i := 0) 22 dX8_end_21 rfl rfl rfl ?_
    refine r_iload_n (i := 1) 23 dX8_end_22 rfl rfl rfl ?_
    refine r_putf 26 dX8_end_23 rfl fl_X8_50 rfl rfl (fun _ _ => ⟨rfl, rfl⟩) (fun z => absurd z Bool.false_ne_true) ?_
    refine r_iload_n (i := 2) 27 dX8_end_26 rfl rfl rfl ?_
    exact r_reti dX8_end_27 rfl (by first | rfl | exact bI_nar _) ⟨Nat.le_refl _, Nat.le_refl _⟩ (fun _ => rfl) (⟨rfl, zTp W (W.2.2.1.1, nI j, W.2.2.1.2.2), rfl, hM, ⟨hx, hy⟩, ⟨rfl, fun i hi => hb i (by have hi : i < j := hi; omega)⟩, hf, ⟨v1, v2⟩, ⟨hk0, hk1⟩, hI, hH, hn⟩)
theorem q_forget (hT : tOk S) (hC : CM S w) (n : Int32) : mm_e (d + 2) yX8_forget mX8_forget [.ref 0, .int n] w (QM (s_forget S n).1 (s_forget S n).2) := by
  have hC0 := hC
  obtain ⟨W, rfl, hR⟩ := hC
  obtain ⟨hM, ⟨hx, hy⟩, ⟨ht, hb⟩, hf, ⟨v1, v2⟩, ⟨hk0, hk1⟩, hI, hH, hn⟩ := id hR
  have h6 := hM.n6
  have h4 := hM.g4
  have h5 := hM.b4
  have p6 := p2_le hM.n6
  have l0 := hM.lt31 hT.2.1
  have i18 : vp_in (18 : Int32) 148 := vp_in_nI (n := 18) (by decide) (by decide)
  have i35 : vp_in (35 : Int32) 148 := vp_in_nI (n := 35) (by decide) (by decide)
  have i36 : vp_in (36 : Int32) 148 := vp_in_nI (n := 36) (by decide) (by decide)
  have ex : W.1.1 (18 : Int32).toNatClampNeg = nI (tX S) := hx
  have ey : W.1.1 (36 : Int32).toNatClampNeg = nI (tY S) := hy
  have eb : W.1.1 (35 : Int32).toNatClampNeg = nI (sB (tA S)) := hM.bn
  refine e_of [some (.ref 0), some (.int n), none] rfl (by decide) rfl rfl rfl ?_
  rw [s_forget]
  have hl := hT.2.2.2.2.2.2.1.1
  cases g : inb (nI ((tV S).1 + 1)) n with
  | false =>
    refine r_iload_n (i := 1) 1 dX8_forget_0 rfl rfl rfl ?_
    refine r_i2l 2 dX8_forget_1 rfl ?_
    refine r_lconst (v := 0) 3 dX8_forget_2 rfl rfl ?_
    refine r_aload_n (i := 0) 4 dX8_forget_3 rfl rfl rfl ?_
    refine r_getf 7 dX8_forget_4 rfl fl_X8_131 rfl rfl ?_
    rw [v1]
    refine r_i2l 8 dX8_forget_7 rfl ?_
    refine r_callSi [] 11 dX8_forget_8 rfl ykX8_in lk_X8_46 (e_in0 n (n := (tV S).1 + 1) (by omega) (hiT (by omega))) rfl rfl rfl ⟨Nat.le_refl _, Nat.le_refl _⟩ ?_
    rw [g]
    refine r_if_ne 16 14 dX8_forget_11 rfl rfl (fun h11 => absurd rfl h11) (fun h11 => ?_)
    refine r_iconst (v := (-1)) 15 dX8_forget_14 rfl rfl ?_
    exact r_reti dX8_forget_15 rfl (by first | rfl | exact bI_nar _) ⟨Nat.le_refl _, Nat.le_refl _⟩ (fun _ => rfl) (⟨rfl, hC0⟩)
  | true =>
    obtain ⟨j, hj, rfl⟩ := inb_nI (by omega) g
    rw [nI_clamp (n := j) (by omega), if_pos rfl]
    refine r_iload_n (i := 1) 1 dX8_forget_0 rfl rfl rfl ?_
    refine r_i2l 2 dX8_forget_1 rfl ?_
    refine r_lconst (v := 0) 3 dX8_forget_2 rfl rfl ?_
    refine r_aload_n (i := 0) 4 dX8_forget_3 rfl rfl rfl ?_
    refine r_getf 7 dX8_forget_4 rfl fl_X8_131 rfl rfl ?_
    rw [v1]
    refine r_i2l 8 dX8_forget_7 rfl ?_
    refine r_callSi [] 11 dX8_forget_8 rfl ykX8_in lk_X8_46 (e_in0 (nI j) (n := (tV S).1 + 1) (by omega) (hiT (by omega))) rfl rfl rfl ⟨Nat.le_refl _, Nat.le_refl _⟩ ?_
    rw [g]
    refine r_if_ne 16 14 dX8_forget_11 rfl rfl (fun h11 => ?_) (fun h11 => absurd h11 (by decide))
    refine r_aload_n (i := 0) 17 dX8_forget_16 rfl rfl rfl ?_
    refine r_getf 20 dX8_forget_17 rfl fl_X8_131 rfl rfl ?_
    rw [v1]
    refine r_istore_n (i := 2) 21 dX8_forget_20 rfl rfl rfl ?_
    refine r_aload_n (i := 0) 22 dX8_forget_21 rfl rfl rfl ?_
    refine r_iload_n (i := 1) 23 dX8_forget_22 rfl rfl rfl ?_
    refine r_putf 26 dX8_forget_23 rfl fl_X8_131 rfl rfl (fun _ _ => ⟨rfl, rfl⟩) (fun z => absurd z Bool.false_ne_true) ?_
    refine r_iload_n (i := 2) 27 dX8_forget_26 rfl rfl rfl ?_
    exact r_reti dX8_forget_27 rfl (by first | rfl | exact bI_nar _) ⟨Nat.le_refl _, Nat.le_refl _⟩ (fun _ => rfl) (⟨rfl, zSn W (W.2.2.2.2.2.1.1, nI j), rfl, hM, ⟨hx, hy⟩, ⟨ht, hb⟩, hf, ⟨rfl, fun i hi => v2 i (by have hi : i < j := hi; omega)⟩, ⟨hk0, hk1⟩, hI, hH, hn⟩)
theorem q_see (hT : tOk S) (hC : CM S w) (f n : Int32) (b : Bool) : mm_e (d + 3) yX8_see mX8_see [.ref 0, .int f, .int n, .int (bI b)] w (QM (s_see S f n b).1 (s_see S f n b).2) := by
  have hC0 := hC
  obtain ⟨W, rfl, hR⟩ := hC
  obtain ⟨hM, ⟨hx, hy⟩, ⟨ht, hb⟩, hf, ⟨v1, v2⟩, ⟨hk0, hk1⟩, hI, hH, hn⟩ := id hR
  have h6 := hM.n6
  have h4 := hM.g4
  have h5 := hM.b4
  have p6 := p2_le hM.n6
  have l0 := hM.lt31 hT.2.1
  have i18 : vp_in (18 : Int32) 148 := vp_in_nI (n := 18) (by decide) (by decide)
  have i35 : vp_in (35 : Int32) 148 := vp_in_nI (n := 35) (by decide) (by decide)
  have i36 : vp_in (36 : Int32) 148 := vp_in_nI (n := 36) (by decide) (by decide)
  have ex : W.1.1 (18 : Int32).toNatClampNeg = nI (tX S) := hx
  have ey : W.1.1 (36 : Int32).toNatClampNeg = nI (tY S) := hy
  have eb : W.1.1 (35 : Int32).toNatClampNeg = nI (sB (tA S)) := hM.bn
  refine e_of [some (.ref 0), some (.int f), some (.int n), some (.int (bI b))] rfl (by decide) rfl rfl rfl ?_
  have hl := hT.2.2.2.2.2.2.1.1
  rw [s_see]
  cases g : inb (nI (sN (tA S))) f with
  | false =>
    refine r_aload_n (i := 0) 1 dX8_see_0 rfl rfl rfl ?_
    refine r_iload_n (i := 1) 2 dX8_see_1 rfl rfl rfl ?_
    refine r_callMi 5 dX8_see_2 rfl ykX8_isThing lk_X8_160 (e2_isThing hM f) rfl rfl rfl rfl rfl rfl ⟨Nat.le_refl _, Nat.le_refl _⟩ ?_
    rw [g]
    refine r_if_eq 20 8 dX8_see_5 rfl rfl (fun h5 => ?_) (fun h5 => absurd rfl h5)
    refine r_iconst (v := (-1)) 21 dX8_see_20 rfl rfl ?_
    exact r_reti dX8_see_21 rfl (by first | rfl | exact bI_nar _) ⟨Nat.le_refl _, Nat.le_refl _⟩ (fun _ => rfl) (⟨rfl, hC0⟩)
  | true =>
    cases g2 : inb 10 n with
    | false =>
      refine r_aload_n (i := 0) 1 dX8_see_0 rfl rfl rfl ?_
      refine r_iload_n (i := 1) 2 dX8_see_1 rfl rfl rfl ?_
      refine r_callMi 5 dX8_see_2 rfl ykX8_isThing lk_X8_160 (e2_isThing hM f) rfl rfl rfl rfl rfl rfl ⟨Nat.le_refl _, Nat.le_refl _⟩ ?_
      rw [g]
      refine r_if_eq 20 8 dX8_see_5 rfl rfl (fun h5 => absurd h5 (by decide)) (fun h5 => ?_)
      refine r_iload_n (i := 2) 9 dX8_see_8 rfl rfl rfl ?_
      refine r_i2l 10 dX8_see_9 rfl ?_
      refine r_lconst (v := 0) 11 dX8_see_10 rfl rfl ?_
      refine r_ldc2 14 dX8_see_11 rfl k_X8_181 ?_
      refine r_callSi [] 17 dX8_see_14 rfl ykX8_in lk_X8_46 (e_in0 n (n := 10) (by decide) (by decide)) rfl rfl rfl ⟨Nat.le_refl _, Nat.le_refl _⟩ ?_
      rw [show inb (nI 10) n = false from g2]
      refine r_if_ne 22 20 dX8_see_17 rfl rfl (fun h17 => absurd rfl h17) (fun h17 => ?_)
      refine r_iconst (v := (-1)) 21 dX8_see_20 rfl rfl ?_
      exact r_reti dX8_see_21 rfl (by first | rfl | exact bI_nar _) ⟨Nat.le_refl _, Nat.le_refl _⟩ (fun _ => rfl) (⟨rfl, hC0⟩)
    | true =>
      obtain ⟨i, hi, rfl⟩ := inb_nI (by omega) g
      obtain ⟨j, hj, rfl⟩ := inb_nI (n := 10) (by decide) g2
      rw [nI_clamp (n := i) (by omega), nI_clamp (n := j) (by omega), Bool.and_self, if_pos rfl]
      have a0 := mSe_add ⟨v1, v2⟩ i j (if b then 1 else 0)
      refine r_aload_n (i := 0) 1 dX8_see_0 rfl rfl rfl ?_
      refine r_iload_n (i := 1) 2 dX8_see_1 rfl rfl rfl ?_
      refine r_callMi 5 dX8_see_2 rfl ykX8_isThing lk_X8_160 (e2_isThing hM (nI i)) rfl rfl rfl rfl rfl rfl ⟨Nat.le_refl _, Nat.le_refl _⟩ ?_
      rw [g]
      refine r_if_eq 20 8 dX8_see_5 rfl rfl (fun h5 => absurd h5 (by decide)) (fun h5 => ?_)
      refine r_iload_n (i := 2) 9 dX8_see_8 rfl rfl rfl ?_
      refine r_i2l 10 dX8_see_9 rfl ?_
      refine r_lconst (v := 0) 11 dX8_see_10 rfl rfl ?_
      refine r_ldc2 14 dX8_see_11 rfl k_X8_181 ?_
      refine r_callSi [] 17 dX8_see_14 rfl ykX8_in lk_X8_46 (e_in0 (nI j) (n := 10) (by decide) (by decide)) rfl rfl rfl ⟨Nat.le_refl _, Nat.le_refl _⟩ ?_
      rw [show inb (nI 10) (nI j) = true from g2]
      refine r_if_ne 22 20 dX8_see_17 rfl rfl (fun h17 => ?_) (fun h17 => absurd h17 (by decide))
      refine r_aload_n (i := 0) 23 dX8_see_22 rfl rfl rfl ?_
      refine r_getf 26 dX8_see_23 rfl fl_X8_131 rfl rfl ?_
      rw [v1]
      refine r_bipush (v := 6) 28 dX8_see_26 rfl rfl ?_
      refine r_icmp_ne 34 31 dX8_see_28 rfl rfl (fun h28 => ?_) (fun h28 => ?_)
      · have q := bne_of (b := 6) (by omega) (by decide) h28
        have q2 : (tV S).1 < 6 := (by omega)
        have in1 : vp_in (nI (3 * (tV S).1)) 18 := vp_in_nI (by omega) (by decide)
        have in2 : vp_in (nI (3 * (tV S).1 + 1)) 18 := vp_in_nI (by omega) (by decide)
        have in3 : vp_in (nI (3 * (tV S).1 + 2)) 18 := vp_in_nI (by omega) (by decide)
        rw [if_pos q2]
        refine r_aload_n (i := 0) 35 dX8_see_34 rfl rfl rfl ?_
        refine r_getf 38 dX8_see_35 rfl fl_X8_25 rfl rfl ?_
        refine r_iconst (v := 3) 39 dX8_see_38 rfl rfl ?_
        refine r_aload_n (i := 0) 40 dX8_see_39 rfl rfl rfl ?_
        refine r_getf 43 dX8_see_40 rfl fl_X8_131 rfl rfl ?_
        rw [v1]
        refine r_imul 44 dX8_see_43 rfl ?_
        rw [c3]
        refine r_iload_n (i := 1) 45 dX8_see_44 rfl rfl rfl ?_
        refine r_iast 46 dX8_see_45 rfl rfl (by assumption) ?_
        refine r_aload_n (i := 0) 47 dX8_see_46 rfl rfl rfl ?_
        refine r_getf 50 dX8_see_47 rfl fl_X8_25 rfl rfl ?_
        refine r_iconst (v := 3) 51 dX8_see_50 rfl rfl ?_
        refine r_aload_n (i := 0) 52 dX8_see_51 rfl rfl rfl ?_
        refine r_getf 55 dX8_see_52 rfl fl_X8_131 rfl rfl ?_
        rw [v1]
        refine r_imul 56 dX8_see_55 rfl ?_
        refine r_iconst (v := 1) 57 dX8_see_56 rfl rfl ?_
        refine r_iadd 58 dX8_see_57 rfl ?_
        rw [c3, nI_1]
        refine r_iload_n (i := 2) 59 dX8_see_58 rfl rfl rfl ?_
        refine r_iast 60 dX8_see_59 rfl rfl (by assumption) ?_
        refine r_aload_n (i := 0) 61 dX8_see_60 rfl rfl rfl ?_
        refine r_getf 64 dX8_see_61 rfl fl_X8_25 rfl rfl ?_
        refine r_iconst (v := 3) 65 dX8_see_64 rfl rfl ?_
        refine r_aload_n (i := 0) 66 dX8_see_65 rfl rfl rfl ?_
        refine r_getf 69 dX8_see_66 rfl fl_X8_131 rfl rfl ?_
        rw [v1]
        refine r_imul 70 dX8_see_69 rfl ?_
        refine r_iconst (v := 2) 71 dX8_see_70 rfl rfl ?_
        refine r_iadd 72 dX8_see_71 rfl ?_
        rw [c3, show nI (3 * (tV S).1) + 2 = nI (3 * (tV S).1 + 2) from nI_add _ 2]
        refine r_iload_n (i := 3) 73 dX8_see_72 rfl rfl rfl ?_
        refine r_if_eq 80 76 dX8_see_73 rfl rfl (fun h73 => ?_) (fun h73 => ?_)
        · have e0 := bI_eq0 h73
          subst e0
          refine r_iconst (v := 0) 81 dX8_see_80 rfl rfl ?_
          refine r_iast 82 dX8_see_81 rfl rfl (by assumption) ?_
          refine r_aload_n (i := 0) 83 dX8_see_82 rfl rfl rfl ?_
          refine r_dup 84 dX8_see_83 rfl rfl ?_
          refine r_getf 87 dX8_see_84 rfl fl_X8_131 rfl rfl ?_
          rw [v1]
          refine r_iconst (v := 1) 88 dX8_see_87 rfl rfl ?_
          refine r_iadd 89 dX8_see_88 rfl ?_
          rw [nI_1, nI_clamp (n := 3 * (tV S).1) (by omega), nI_clamp (n := 3 * (tV S).1 + 1) (by omega), nI_clamp (n := 3 * (tV S).1 + 2) (by omega)]
          refine r_putf 92 dX8_see_89 rfl fl_X8_131 rfl rfl (fun _ _ => ⟨rfl, rfl⟩) (fun z => absurd z Bool.false_ne_true) ?_
          refine r_aload_n (i := 0) 93 dX8_see_92 rfl rfl rfl ?_
          refine r_getf 96 dX8_see_93 rfl fl_X8_131 rfl rfl ?_
          exact r_reti dX8_see_96 rfl (by first | rfl | exact bI_nar _) ⟨Nat.le_refl _, Nat.le_refl _⟩ (fun _ => rfl) (by first | exact ⟨rfl, zSn W (upd (upd (upd W.2.2.2.2.2.1.1 (3 * (tV S).1) (nI i)) (3 * (tV S).1 + 1) (nI j)) (3 * (tV S).1 + 2) (nI (if false = true then 1 else 0)), nI ((tV S).1 + 1)), rfl, hM, ⟨hx, hy⟩, ⟨ht, hb⟩, hf, a0, ⟨hk0, hk1⟩, hI, hH, hn⟩ | exact ⟨rfl, zSn W (upd (upd (upd W.2.2.2.2.2.1.1 (3 * (tV S).1) (nI i)) (3 * (tV S).1 + 1) (nI j)) (3 * (tV S).1 + 2) (nI (if true = true then 1 else 0)), nI ((tV S).1 + 1)), rfl, hM, ⟨hx, hy⟩, ⟨ht, hb⟩, hf, a0, ⟨hk0, hk1⟩, hI, hH, hn⟩)
        · have e0 := bI_ne0 h73
          subst e0
          refine r_iconst (v := 1) 77 dX8_see_76 rfl rfl ?_
          refine r_goto 81 dX8_see_77 rfl ?_
          refine r_iast 82 dX8_see_81 rfl rfl (by assumption) ?_
          refine r_aload_n (i := 0) 83 dX8_see_82 rfl rfl rfl ?_
          refine r_dup 84 dX8_see_83 rfl rfl ?_
          refine r_getf 87 dX8_see_84 rfl fl_X8_131 rfl rfl ?_
          rw [v1]
          refine r_iconst (v := 1) 88 dX8_see_87 rfl rfl ?_
          refine r_iadd 89 dX8_see_88 rfl ?_
          rw [nI_1, nI_clamp (n := 3 * (tV S).1) (by omega), nI_clamp (n := 3 * (tV S).1 + 1) (by omega), nI_clamp (n := 3 * (tV S).1 + 2) (by omega)]
          refine r_putf 92 dX8_see_89 rfl fl_X8_131 rfl rfl (fun _ _ => ⟨rfl, rfl⟩) (fun z => absurd z Bool.false_ne_true) ?_
          refine r_aload_n (i := 0) 93 dX8_see_92 rfl rfl rfl ?_
          refine r_getf 96 dX8_see_93 rfl fl_X8_131 rfl rfl ?_
          exact r_reti dX8_see_96 rfl (by first | rfl | exact bI_nar _) ⟨Nat.le_refl _, Nat.le_refl _⟩ (fun _ => rfl) (by first | exact ⟨rfl, zSn W (upd (upd (upd W.2.2.2.2.2.1.1 (3 * (tV S).1) (nI i)) (3 * (tV S).1 + 1) (nI j)) (3 * (tV S).1 + 2) (nI (if false = true then 1 else 0)), nI ((tV S).1 + 1)), rfl, hM, ⟨hx, hy⟩, ⟨ht, hb⟩, hf, a0, ⟨hk0, hk1⟩, hI, hH, hn⟩ | exact ⟨rfl, zSn W (upd (upd (upd W.2.2.2.2.2.1.1 (3 * (tV S).1) (nI i)) (3 * (tV S).1 + 1) (nI j)) (3 * (tV S).1 + 2) (nI (if true = true then 1 else 0)), nI ((tV S).1 + 1)), rfl, hM, ⟨hx, hy⟩, ⟨ht, hb⟩, hf, a0, ⟨hk0, hk1⟩, hI, hH, hn⟩)
      · have q := beq_of (b := 6) (by omega) (by decide) h28
        rw [if_neg (by omega)]
        refine r_bipush (v := (-3)) 33 dX8_see_31 rfl rfl ?_
        exact r_reti dX8_see_33 rfl (by first | rfl | exact bI_nar _) ⟨Nat.le_refl _, Nat.le_refl _⟩ (fun _ => rfl) (⟨rfl, hC0⟩)
theorem e2_undoes_b (h : mok W.1 A) {g : Int32} (hg : inb (nI (sG A)) g = false) : mm_e (d + 3) yX8_undoes mX8_undoes [.ref 0, .int g] (wM W) (mm_q (some (.int (-1))) (wM W)) := by
  refine e_of [some (.ref 0), some (.int g), none] rfl (by decide) rfl rfl rfl ?_
  refine r_aload_n (i := 0) 1 dX8_undoes_0 rfl rfl rfl ?_
  refine r_iload_n (i := 1) 2 dX8_undoes_1 rfl rfl rfl ?_
  refine r_callMi 5 dX8_undoes_2 rfl ykX8_isGuest lk_X8_163 (e2_isGuest h g) rfl rfl rfl rfl rfl rfl ⟨Nat.le_refl _, Nat.le_refl _⟩ ?_
  rw [hg]
  refine r_if_ne 10 8 dX8_undoes_5 rfl rfl (fun h5 => absurd rfl h5) (fun h5 => ?_)
  refine r_iconst (v := (-1)) 9 dX8_undoes_8 rfl rfl ?_
  exact r_reti dX8_undoes_9 rfl (by first | rfl | exact bI_nar _) ⟨Nat.le_refl _, Nat.le_refl _⟩ (fun _ => rfl) (⟨rfl, rfl⟩)
theorem e2_undoes_i (h : mok W.1 A) {x i : Nat} (hx : W.1.1 18 = nI x) (hxl : x < 2 ^ sN A) (hi : i < sG A) : mm_e (d + 3) yX8_undoes mX8_undoes [.ref 0, .int (nI i)] (wM W) (mm_q (some (.int (if al A (x ^^^ 2 ^ sU A i) then nI (x ^^^ 2 ^ sU A i) else -2))) (wM (if al A (x ^^^ 2 ^ sU A i) then zSt W (upd W.1.1 18 (nI (x ^^^ 2 ^ sU A i))) else W))) := by
  have h6 := h.n6
  have h4 := h.g4
  have i18 : vp_in (18 : Int32) 148 := vp_in_nI (n := 18) (by decide) (by decide)
  have hin : vp_in (nI (19 + i)) 148 := vp_in_nI (by omega) (by decide)
  have ex : W.1.1 (18 : Int32).toNatClampNeg = nI x := hx
  obtain ⟨k1, k2, k3, k4⟩ := h.gat hi
  have l1 := h.lt31 (xor_lt hxl k3)
  refine e_of [some (.ref 0), some (.int (nI i)), none] rfl (by decide) rfl rfl rfl ?_
  refine r_aload_n (i := 0) 1 dX8_undoes_0 rfl rfl rfl ?_
  refine r_iload_n (i := 1) 2 dX8_undoes_1 rfl rfl rfl ?_
  refine r_callMi 5 dX8_undoes_2 rfl ykX8_isGuest lk_X8_163 (e2_isGuest h (nI i)) rfl rfl rfl rfl rfl rfl ⟨Nat.le_refl _, Nat.le_refl _⟩ ?_
  rw [nI_inb hi (by omega)]
  refine r_if_ne 10 8 dX8_undoes_5 rfl rfl (fun h5 => ?_) (fun h5 => absurd h5 (by decide))
  refine r_aload_n (i := 0) 11 dX8_undoes_10 rfl rfl rfl ?_
  refine r_getf 14 dX8_undoes_11 rfl fl_X8_7 rfl rfl ?_
  refine r_bipush (v := 18) 16 dX8_undoes_14 rfl rfl ?_
  refine r_iald 17 dX8_undoes_16 rfl rfl (by assumption) ?_
  rw [ex]
  refine r_iconst (v := 1) 18 dX8_undoes_17 rfl rfl ?_
  refine r_aload_n (i := 0) 19 dX8_undoes_18 rfl rfl rfl ?_
  refine r_getf 22 dX8_undoes_19 rfl fl_X8_7 rfl rfl ?_
  refine r_bipush (v := 19) 24 dX8_undoes_22 rfl rfl ?_
  refine r_iload_n (i := 1) 25 dX8_undoes_24 rfl rfl rfl ?_
  refine r_iadd 26 dX8_undoes_25 rfl ?_
  rw [show (19 : Int32) + nI i = nI (19 + i) from nI_add 19 i]
  refine r_iald 27 dX8_undoes_26 rfl rfl (by assumption) ?_
  rw [nI_clamp (n := 19 + i) (by omega), k1]
  refine r_ishl 28 dX8_undoes_27 rfl ?_
  refine r_ixor 29 dX8_undoes_28 rfl ?_
  rw [n_shl1 (by omega), fb_xorI]
  refine r_istore_n (i := 2) 30 dX8_undoes_29 rfl rfl rfl ?_
  refine r_aload_n (i := 0) 31 dX8_undoes_30 rfl rfl rfl ?_
  refine r_iload_n (i := 2) 32 dX8_undoes_31 rfl rfl rfl ?_
  refine r_callMi 35 dX8_undoes_32 rfl ykX8_isAllowed lk_X8_153 (e2_isAllowed h l1) rfl rfl rfl rfl rfl rfl ⟨Nat.le_refl _, Nat.le_refl _⟩ ?_
  refine r_if_ne 41 38 dX8_undoes_35 rfl rfl (fun h35 => ?_) (fun h35 => ?_)
  · have g := bI_ne0 h35
    rw [if_pos g, if_pos g]
    refine r_aload_n (i := 0) 42 dX8_undoes_41 rfl rfl rfl ?_
    refine r_getf 45 dX8_undoes_42 rfl fl_X8_7 rfl rfl ?_
    refine r_bipush (v := 18) 47 dX8_undoes_45 rfl rfl ?_
    refine r_iload_n (i := 2) 48 dX8_undoes_47 rfl rfl rfl ?_
    refine r_iast 49 dX8_undoes_48 rfl rfl (by assumption) ?_
    refine r_iload_n (i := 2) 50 dX8_undoes_49 rfl rfl rfl ?_
    exact r_reti dX8_undoes_50 rfl (by first | rfl | exact bI_nar _) ⟨Nat.le_refl _, Nat.le_refl _⟩ (fun _ => rfl) (⟨rfl, rfl⟩)
  · have g := bI_eq0 h35
    rw [if_neg (by rw [g]; decide), if_neg (by rw [g]; decide)]
    refine r_bipush (v := (-2)) 40 dX8_undoes_38 rfl rfl ?_
    exact r_reti dX8_undoes_40 rfl (by first | rfl | exact bI_nar _) ⟨Nat.le_refl _, Nat.le_refl _⟩ (fun _ => rfl) (⟨rfl, rfl⟩)
theorem q_undo (hT : tOk S) (hC : CM S w) (g : Int32) : mm_e (d + 4) yX8_undo mX8_undo [.ref 0, .int g] w (QM (s_undo S g).1 (s_undo S g).2) := by
  have hC0 := hC
  obtain ⟨W, rfl, hR⟩ := hC
  obtain ⟨hM, ⟨hx, hy⟩, ⟨ht, hb⟩, hf, ⟨v1, v2⟩, ⟨hk0, hk1⟩, hI, hH, hn⟩ := id hR
  have h6 := hM.n6
  have h4 := hM.g4
  have h5 := hM.b4
  have p6 := p2_le hM.n6
  have l0 := hM.lt31 hT.2.1
  have i18 : vp_in (18 : Int32) 148 := vp_in_nI (n := 18) (by decide) (by decide)
  have i35 : vp_in (35 : Int32) 148 := vp_in_nI (n := 35) (by decide) (by decide)
  have i36 : vp_in (36 : Int32) 148 := vp_in_nI (n := 36) (by decide) (by decide)
  have ex : W.1.1 (18 : Int32).toNatClampNeg = nI (tX S) := hx
  have ey : W.1.1 (36 : Int32).toNatClampNeg = nI (tY S) := hy
  have eb : W.1.1 (35 : Int32).toNatClampNeg = nI (sB (tA S)) := hM.bn
  refine e_of [some (.ref 0), some (.int g)] rfl (by decide) rfl rfl rfl ?_
  rw [s_undo]
  cases hg : inb (nI (sG (tA S))) g with
  | false =>
    refine r_aload_n (i := 0) 1 dX8_undo_0 rfl rfl rfl ?_
    refine r_iload_n (i := 1) 2 dX8_undo_1 rfl rfl rfl ?_
    refine r_callMi 5 dX8_undo_2 rfl ykX8_undoes lk_X8_183 (e2_undoes_b hM hg) rfl rfl rfl rfl rfl rfl ⟨Nat.le_refl _, Nat.le_refl _⟩ ?_
    exact r_reti dX8_undo_5 rfl (by first | rfl | exact bI_nar _) ⟨Nat.le_refl _, Nat.le_refl _⟩ (fun _ => rfl) (⟨rfl, hC0⟩)
  | true =>
    obtain ⟨i, hi, rfl⟩ := inb_nI (by omega) hg
    rw [nI_clamp (n := i) (by omega), if_pos rfl]
    refine r_aload_n (i := 0) 1 dX8_undo_0 rfl rfl rfl ?_
    refine r_iload_n (i := 1) 2 dX8_undo_1 rfl rfl rfl ?_
    refine r_callMu 5 dX8_undo_2 rfl ykX8_undoes lk_X8_183 (e2_undoes_i hM hx hT.2.1 hi) rfl rfl rfl rfl rfl rfl ⟨Nat.le_refl _, Nat.le_refl _⟩ ?_
    skip
    by_cases g : al (tA S) (tX S ^^^ 2 ^ sU (tA S) i) = true
    · rw [if_pos g, if_pos g, if_pos g]
      exact r_reti dX8_undo_5 rfl (by first | rfl | exact bI_nar _) ⟨Nat.le_refl _, Nat.le_refl _⟩ (fun _ => rfl) (⟨rfl, zSt W (upd W.1.1 18 (nI (tX S ^^^ 2 ^ sU (tA S) i))), rfl, relM_XY hR (fun j h1 h2 h3 => u_ne h2) u_at hy⟩)
    · rw [if_neg g, if_neg g, if_neg g]
      exact r_reti dX8_undo_5 rfl (by first | rfl | exact bI_nar _) ⟨Nat.le_refl _, Nat.le_refl _⟩ (fun _ => rfl) (⟨rfl, hC0⟩)
theorem e2_go (h : mok W.1 A) {x y j : Nat} (hx : W.1.1 18 = nI x) (hy : W.1.1 36 = nI y) (hxl : x < 2 ^ sN A) (hj : j < 100) (hyj : y + j ≤ 999) : mm_e (d + 5) yX8_go mX8_go [.ref 0, .int (nI j)] (wM W) (mm_q (some (.int (nI (ny A j x)))) (wM (zSt W (upd (upd W.1.1 18 (nI (ny A j x))) 36 (nI (y + j)))))) := by
  have i18 : vp_in (18 : Int32) 148 := vp_in_nI (n := 18) (by decide) (by decide)
  have i36 : vp_in (36 : Int32) 148 := vp_in_nI (n := 36) (by decide) (by decide)
  have ex : W.1.1 (18 : Int32).toNatClampNeg = nI x := hx
  have ey : W.1.1 (36 : Int32).toNatClampNeg = nI y := hy
  have ey2 : ∀ z, upd W.1.1 (18 : Int32).toNatClampNeg z (36 : Int32).toNatClampNeg = nI y := fun z => hy
  refine e_of [some (.ref 0), some (.int (nI j))] rfl (by decide) rfl rfl rfl ?_
  refine r_iload_n (i := 1) 1 dX8_go_0 rfl rfl rfl ?_
  refine r_i2l 2 dX8_go_1 rfl ?_
  refine r_lconst (v := 0) 3 dX8_go_2 rfl rfl ?_
  refine r_ldc2 6 dX8_go_3 rfl k_X8_186 ?_
  refine r_callSi [] 9 dX8_go_6 rfl ykX8_in lk_X8_46 (e_in0 (nI j) (n := 100) (by decide) (by decide)) rfl rfl rfl ⟨Nat.le_refl _, Nat.le_refl _⟩ ?_
  rw [nI_inb hj (by decide)]
  refine r_if_ne 14 12 dX8_go_9 rfl rfl (fun h9 => ?_) (fun h9 => absurd h9 (by decide))
  refine r_aload_n (i := 0) 15 dX8_go_14 rfl rfl rfl ?_
  refine r_getf 18 dX8_go_15 rfl fl_X8_7 rfl rfl ?_
  refine r_bipush (v := 36) 20 dX8_go_18 rfl rfl ?_
  refine r_iald 21 dX8_go_20 rfl rfl (by assumption) ?_
  rw [ey]
  refine r_iload_n (i := 1) 22 dX8_go_21 rfl rfl rfl ?_
  refine r_iadd 23 dX8_go_22 rfl ?_
  rw [nI_add]
  refine r_sipush (v := 999) 26 dX8_go_23 rfl rfl ?_
  refine r_icmp_le 32 29 dX8_go_26 rfl rfl (fun h26 => ?_) (fun h26 => absurd (show nI (y + j) ≤ nI 999 from nI_le hyj (by decide)) h26)
  refine r_aload_n (i := 0) 33 dX8_go_32 rfl rfl rfl ?_
  refine r_getf 36 dX8_go_33 rfl fl_X8_7 rfl rfl ?_
  refine r_bipush (v := 18) 38 dX8_go_36 rfl rfl ?_
  refine r_aload_n (i := 0) 39 dX8_go_38 rfl rfl rfl ?_
  refine r_aload_n (i := 0) 40 dX8_go_39 rfl rfl rfl ?_
  refine r_getf 43 dX8_go_40 rfl fl_X8_7 rfl rfl ?_
  refine r_bipush (v := 18) 45 dX8_go_43 rfl rfl ?_
  refine r_iald 46 dX8_go_45 rfl rfl (by assumption) ?_
  rw [ex]
  refine r_iload_n (i := 1) 47 dX8_go_46 rfl rfl rfl ?_
  refine r_callMi 50 dX8_go_47 rfl ykX8_afterYears lk_X8_188 (e2_afterYears h hxl (by omega)) rfl rfl rfl rfl rfl rfl ⟨Nat.le_refl _, Nat.le_refl _⟩ ?_
  refine r_iast 51 dX8_go_50 rfl rfl (by assumption) ?_
  refine r_aload_n (i := 0) 52 dX8_go_51 rfl rfl rfl ?_
  refine r_getf 55 dX8_go_52 rfl fl_X8_7 rfl rfl ?_
  refine r_bipush (v := 36) 57 dX8_go_55 rfl rfl ?_
  refine r_dup2 58 dX8_go_57 rfl rfl rfl ?_
  refine r_iald 59 dX8_go_58 rfl rfl (by assumption) ?_
  rw [ey2]
  refine r_iload_n (i := 1) 60 dX8_go_59 rfl rfl rfl ?_
  refine r_iadd 61 dX8_go_60 rfl ?_
  rw [nI_add]
  refine r_iast 62 dX8_go_61 rfl rfl (by assumption) ?_
  refine r_aload_n (i := 0) 63 dX8_go_62 rfl rfl rfl ?_
  refine r_getf 66 dX8_go_63 rfl fl_X8_7 rfl rfl ?_
  refine r_bipush (v := 18) 68 dX8_go_66 rfl rfl ?_
  refine r_iald 69 dX8_go_68 rfl rfl (by assumption) ?_
  exact r_reti dX8_go_69 rfl (by first | rfl | exact bI_nar _) ⟨Nat.le_refl _, Nat.le_refl _⟩ (fun _ => rfl) (⟨rfl, rfl⟩)
theorem q_go (hT : tOk S) (hC : CM S w) (n : Int32) : mm_e (d + 5) yX8_go mX8_go [.ref 0, .int n] w (QM (s_go S n).1 (s_go S n).2) := by
  have hC0 := hC
  obtain ⟨W, rfl, hR⟩ := hC
  obtain ⟨hM, ⟨hx, hy⟩, ⟨ht, hb⟩, hf, ⟨v1, v2⟩, ⟨hk0, hk1⟩, hI, hH, hn⟩ := id hR
  have h6 := hM.n6
  have h4 := hM.g4
  have h5 := hM.b4
  have p6 := p2_le hM.n6
  have l0 := hM.lt31 hT.2.1
  have i18 : vp_in (18 : Int32) 148 := vp_in_nI (n := 18) (by decide) (by decide)
  have i35 : vp_in (35 : Int32) 148 := vp_in_nI (n := 35) (by decide) (by decide)
  have i36 : vp_in (36 : Int32) 148 := vp_in_nI (n := 36) (by decide) (by decide)
  have ex : W.1.1 (18 : Int32).toNatClampNeg = nI (tX S) := hx
  have ey : W.1.1 (36 : Int32).toNatClampNeg = nI (tY S) := hy
  have eb : W.1.1 (35 : Int32).toNatClampNeg = nI (sB (tA S)) := hM.bn
  refine e_of [some (.ref 0), some (.int n)] rfl (by decide) rfl rfl rfl ?_
  rw [s_go]
  cases g : inb 100 n with
  | false =>
    refine r_iload_n (i := 1) 1 dX8_go_0 rfl rfl rfl ?_
    refine r_i2l 2 dX8_go_1 rfl ?_
    refine r_lconst (v := 0) 3 dX8_go_2 rfl rfl ?_
    refine r_ldc2 6 dX8_go_3 rfl k_X8_186 ?_
    refine r_callSi [] 9 dX8_go_6 rfl ykX8_in lk_X8_46 (e_in0 n (n := 100) (by decide) (by decide)) rfl rfl rfl ⟨Nat.le_refl _, Nat.le_refl _⟩ ?_
    rw [show inb (nI 100) n = false from g]
    refine r_if_ne 14 12 dX8_go_9 rfl rfl (fun h9 => absurd rfl h9) (fun h9 => ?_)
    refine r_iconst (v := (-1)) 13 dX8_go_12 rfl rfl ?_
    exact r_reti dX8_go_13 rfl (by first | rfl | exact bI_nar _) ⟨Nat.le_refl _, Nat.le_refl _⟩ (fun _ => rfl) (⟨rfl, hC0⟩)
  | true =>
    obtain ⟨j, hj, rfl⟩ := inb_nI (n := 100) (by decide) g
    have h999 := hT.2.2.1
    have ey2 : ∀ z, upd W.1.1 (18 : Int32).toNatClampNeg z (36 : Int32).toNatClampNeg = nI (tY S) := fun z => hy
    rw [nI_clamp (n := j) (by omega), if_pos rfl]
    refine r_iload_n (i := 1) 1 dX8_go_0 rfl rfl rfl ?_
    refine r_i2l 2 dX8_go_1 rfl ?_
    refine r_lconst (v := 0) 3 dX8_go_2 rfl rfl ?_
    refine r_ldc2 6 dX8_go_3 rfl k_X8_186 ?_
    refine r_callSi [] 9 dX8_go_6 rfl ykX8_in lk_X8_46 (e_in0 (nI j) (n := 100) (by decide) (by decide)) rfl rfl rfl ⟨Nat.le_refl _, Nat.le_refl _⟩ ?_
    rw [show inb (nI 100) (nI j) = true from g]
    refine r_if_ne 14 12 dX8_go_9 rfl rfl (fun h9 => ?_) (fun h9 => absurd h9 (by decide))
    refine r_aload_n (i := 0) 15 dX8_go_14 rfl rfl rfl ?_
    refine r_getf 18 dX8_go_15 rfl fl_X8_7 rfl rfl ?_
    refine r_bipush (v := 36) 20 dX8_go_18 rfl rfl ?_
    refine r_iald 21 dX8_go_20 rfl rfl (by assumption) ?_
    rw [ey]
    refine r_iload_n (i := 1) 22 dX8_go_21 rfl rfl rfl ?_
    refine r_iadd 23 dX8_go_22 rfl ?_
    rw [nI_add]
    refine r_sipush (v := 999) 26 dX8_go_23 rfl rfl ?_
    refine r_icmp_le 32 29 dX8_go_26 rfl rfl (fun h26 => ?_) (fun h26 => ?_)
    · have q := ble_of (b := 999) (by omega) (by decide) h26
      rw [if_pos q]
      refine r_aload_n (i := 0) 33 dX8_go_32 rfl rfl rfl ?_
      refine r_getf 36 dX8_go_33 rfl fl_X8_7 rfl rfl ?_
      refine r_bipush (v := 18) 38 dX8_go_36 rfl rfl ?_
      refine r_aload_n (i := 0) 39 dX8_go_38 rfl rfl rfl ?_
      refine r_aload_n (i := 0) 40 dX8_go_39 rfl rfl rfl ?_
      refine r_getf 43 dX8_go_40 rfl fl_X8_7 rfl rfl ?_
      refine r_bipush (v := 18) 45 dX8_go_43 rfl rfl ?_
      refine r_iald 46 dX8_go_45 rfl rfl (by assumption) ?_
      rw [ex]
      refine r_iload_n (i := 1) 47 dX8_go_46 rfl rfl rfl ?_
      refine r_callMi 50 dX8_go_47 rfl ykX8_afterYears lk_X8_188 (e2_afterYears hM hT.2.1 (by omega)) rfl rfl rfl rfl rfl rfl ⟨Nat.le_refl _, Nat.le_refl _⟩ ?_
      refine r_iast 51 dX8_go_50 rfl rfl (by assumption) ?_
      refine r_aload_n (i := 0) 52 dX8_go_51 rfl rfl rfl ?_
      refine r_getf 55 dX8_go_52 rfl fl_X8_7 rfl rfl ?_
      refine r_bipush (v := 36) 57 dX8_go_55 rfl rfl ?_
      refine r_dup2 58 dX8_go_57 rfl rfl rfl ?_
      refine r_iald 59 dX8_go_58 rfl rfl (by assumption) ?_
      rw [ey2]
      refine r_iload_n (i := 1) 60 dX8_go_59 rfl rfl rfl ?_
      refine r_iadd 61 dX8_go_60 rfl ?_
      rw [nI_add]
      refine r_iast 62 dX8_go_61 rfl rfl (by assumption) ?_
      refine r_aload_n (i := 0) 63 dX8_go_62 rfl rfl rfl ?_
      refine r_getf 66 dX8_go_63 rfl fl_X8_7 rfl rfl ?_
      refine r_bipush (v := 18) 68 dX8_go_66 rfl rfl ?_
      refine r_iald 69 dX8_go_68 rfl rfl (by assumption) ?_
      exact r_reti dX8_go_69 rfl (by first | rfl | exact bI_nar _) ⟨Nat.le_refl _, Nat.le_refl _⟩ (fun _ => rfl) (⟨rfl, zSt W (upd (upd W.1.1 18 (nI (ny (tA S) j (tX S)))) 36 (nI (tY S + j))), rfl, relM_XY hR (fun i h1 h2 h3 => by rw [u_ne h3, u_ne h2]) (by rw [u_ne (by decide), u_at]) u_at⟩)
    · have q := bnle_of (b := 999) (by omega) (by decide) h26
      rw [if_neg (by omega)]
      refine r_bipush (v := (-3)) 31 dX8_go_29 rfl rfl ?_
      exact r_reti dX8_go_31 rfl (by first | rfl | exact bI_nar _) ⟨Nat.le_refl _, Nat.le_refl _⟩ (fun _ => rfl) (⟨rfl, hC0⟩)
end MC
