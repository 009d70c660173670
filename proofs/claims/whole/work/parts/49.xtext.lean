section XJ
variable {d : Nat} {A : sA} {S : sT} {w : mm_W} {N Z : FlT} {kp : Nat → Int32} {R : RdT} {Si : SiT} {Sr : SrT} {Ta : TaT} {I J : FlT} {H0 H1 H2 H3 : ShT} {tn : Int32}
theorem fok_of_fw {F : FlT} {A : sA} {x : Nat} (h : fw F A) (hw : whl A x = true) : fok F A ∧ x < 2 ^ sN A := by
  obtain ⟨a1, a2, a3, a4, a5, a6, a7, a8, a9, a10, a11, a12⟩ := h
  unfold whl at hw
  simp only [Bool.and_eq_true, decide_eq_true_eq] at hw
  obtain ⟨⟨⟨w0, w1⟩, w2⟩, w3⟩ := hw
  have v1 := allb_iff.mp w1
  have v2 := allb_iff.mp w2
  have v3 := allb_iff.mp w3
  refine ⟨⟨a1, a2, a3, a4, a5, a6, a7, fun i hi => ?_, a8, fun i hi => ?_, a9, fun i hi => ?_⟩, w0⟩
  · have := v1 i hi
    unfold wh1 at this
    simp only [Bool.and_eq_true, decide_eq_true_eq] at this
    exact ⟨(a10 i hi).1, this.1, this.2⟩
  · have := v2 i hi
    unfold wh2 at this
    exact ⟨of_decide_eq_true this, (a11 i hi).2⟩
  · have := v3 i hi
    unfold wh3 at this
    simp only [Bool.and_eq_true, decide_eq_true_eq] at this
    exact this
theorem c_loop_ok {b : Nat → Nat} {n : Nat} : ∀ (k p : Nat) (A : sA) (x l : Nat), p ≤ n → sI n (c_loop b n k p A x l).1.1 ∧ (c_loop b n k p A x l).2 ≤ l + k
  | 0, p, A, x, l, hp => ⟨sI_0 hp, Nat.le_refl _⟩
  | k + 1, p, A, x, l, hp => by
    have sl := sI_line (b := b) (A := A) (x := x) hp
    rw [c_loop]
    split
    · have := c_loop_ok (b := b) (n := n) k (pP (c_line b n p A x).2.1) (c_line b n p A x).2.2.1 (c_line b n p A x).2.2.2 (l + 1) sl.1
      exact ⟨this.1, by omega⟩
    · exact ⟨sl, by show l ≤ l + (k + 1); omega⟩
theorem c_all_ok (b : Nat → Nat) (n : Nat) : sI n (c_all b n) ∧ (c_read b n).2 ≤ 160 := by
  have := c_loop_ok (b := b) (n := n) 160 0 A0 0 0 (Nat.zero_le _)
  exact ⟨sI_fIf (by decide) this.1, by have := this.2; show (c_loop b n 160 0 A0 0 0).2 ≤ 160; omega⟩
theorem p_text (hC : CX S w) : mm_e (d + 9) yX7_text mX7_text [.ref 0] w (QX (s_text S).1 (s_text S).2) := by
  have hC0 := hC
  obtain ⟨hT, N, Z, kp, R, Si, Sr, Ta, I, J, H0, H1, H2, H3, tn, rfl, hN, hx, hy, ⟨ht, hb⟩, hf, hs, ⟨hk0, hk1⟩, hI, hJ, ⟨s0, s1, s2, s3⟩, hn⟩ := hC
  have l0 := lt31 hN hT.2.1
  have h6 := hN.n6
  have h4 := hN.g4
  have h5 := hN.b4
  have hpo : tpo R.1.1 (tT S).2 (tT S).1 := ⟨hT.2.2.2.1, fun i hi => ⟨hb i hi, hT.2.2.2.2.1 i hi⟩⟩
  have hnl := hT.2.2.2.1
  obtain ⟨ok1, ok2⟩ := c_all_ok (tT S).2 (tT S).1
  have of := ok1.2.2.2.1
  have ol := ok1.2.2.2.2
  refine e_of [some (.ref 0), none] rfl (by decide) rfl rfl rfl ?_
  refine r_aload_n (i := 0) 1 dX7_text_0 rfl rfl rfl ?_
  refine r_getf 4 dX7_text_1 rfl fl_X7_30 rfl rfl ?_
  refine r_callVq [19, 20, 21, 22, 23, 24, 25, 26, 27, 28, 29] 7 dX7_text_4 rfl ykX1_readAll lk_X7_76 (e_readAll hpo ht) rfl rfl (sb_rd _ _ _ _ _ _ _ _ _ _ _ _ _ _) rfl rfl rfl rfl ⟨Nat.le_refl _, Nat.le_refl _⟩ (fun v u hq => ?_)
  obtain ⟨rfl, F, rfl, hF⟩ := hq
  rw [bk_rd]
  refine r_aload_n (i := 0) 8 dX7_text_7 rfl rfl rfl ?_
  refine r_getf 11 dX7_text_8 rfl fl_X7_30 rfl rfl ?_
  refine r_getf 14 dX7_text_11 rfl fl_X7_62 rfl rfl ?_
  refine r_iconst (v := 0) 15 dX7_text_14 rfl rfl ?_
  refine r_putf 18 dX7_text_15 rfl fl_X7_66 rfl rfl (fun _ _ => ⟨rfl, rfl⟩) (fun z => absurd z Bool.false_ne_true) ?_
  skip
  rw [s_text]
  have ea : c_end (c_read (tT S).2 (tT S).1) = c_all (tT S).2 (tT S).1 := rfl
  rw [ea]
  show mm_r (d + 9) mX7_text _ 18 [some (.ref 0), none] [] (wX N Z kp ((R.1.1, 0, nI (pP (c_all (tT S).2 (tT S).1)), nI (pK (c_all (tT S).2 (tT S).1)), nI (pT (c_all (tT S).2 (tT S).1))), F, nI (pF (c_all (tT S).2 (tT S).1)), nI (pL (c_all (tT S).2 (tT S).1)), nI (c_read (tT S).2 (tT S).1).2) Si Sr Ta I J H0 H1 H2 H3 tn)
  have hfin : pF (c_all (tT S).2 (tT S).1) = 0 → whl (c_read (tT S).2 (tT S).1).1.2.1 (c_read (tT S).2 (tT S).1).1.2.2 = true := fun z => by
    obtain ⟨-, q, -⟩ := fIf_n0 (s := (c_read (tT S).2 (tT S).1).1.1) (k := 6) z (by decide)
    cases hw : whl (c_read (tT S).2 (tT S).1).1.2.1 (c_read (tT S).2 (tT S).1).1.2.2 with
    | true => rfl
    | false => rw [hw] at q; cases q
  generalize c_all (tT S).2 (tT S).1 = sa at *
  generalize c_read (tT S).2 (tT S).1 = cr at *
  by_cases q : pF sa = 0
  · rw [if_pos q]
    obtain ⟨k1, k2⟩ := fok_of_fw hF.1 (hfin q)
    have q0 : nI (pF sa) = 0 := by rw [q]; rfl
    refine r_aload_n (i := 0) 19 dX7_text_18 rfl rfl rfl ?_
    refine r_getf 22 dX7_text_19 rfl fl_X7_30 rfl rfl ?_
    refine r_getf 25 dX7_text_22 rfl fl_X7_79 rfl rfl ?_
    refine r_if_eq 39 28 dX7_text_25 rfl rfl (fun h25 => ?_) (fun h25 => absurd q0 h25)
    refine r_aload_n (i := 0) 40 dX7_text_39 rfl rfl rfl ?_
    refine r_getf 43 dX7_text_40 rfl fl_X7_10 rfl rfl ?_
    refine r_aload_n (i := 0) 44 dX7_text_43 rfl rfl rfl ?_
    refine r_getf 47 dX7_text_44 rfl fl_X7_30 rfl rfl ?_
    refine r_getf 50 dX7_text_47 rfl fl_X7_85 rfl rfl ?_
    refine r_callVu [1, 2, 3, 4, 5, 6, 7, 8, 22, 23, 24, 25, 26, 27, 28, 29] 53 dX7_text_50 rfl ykX0_copyFrom lk_X7_88 (e_copyFrom) rfl rfl (sb_text _ _ _ _ _ _ _ _ _ _ _ _ _ _) rfl rfl rfl rfl ⟨Nat.le_refl _, Nat.le_refl _⟩ ?_
    rw [bk_text]
    refine r_aload_n (i := 0) 54 dX7_text_53 rfl rfl rfl ?_
    refine r_getf 57 dX7_text_54 rfl fl_X7_37 rfl rfl ?_
    refine r_iconst (v := 0) 58 dX7_text_57 rfl rfl ?_
    refine r_putf 61 dX7_text_58 rfl fl_X7_92 rfl rfl (fun _ _ => ⟨rfl, rfl⟩) (fun z => absurd z Bool.false_ne_true) ?_
    refine r_iconst (v := 0) 62 dX7_text_61 rfl rfl ?_
    refine r_istore_n (i := 1) 63 dX7_text_62 rfl rfl rfl ?_
    skip
    show mm_r (d + 9) mX7_text _ 63 [some (.ref 0), some (.int 0)] [] (wX (fCpy N F) Z kp ((R.1.1, 0, nI (pP sa), nI (pK sa), nI (pT sa)), F, nI (pF sa), nI (pL sa), nI cr.2) (0, Si.2) Sr Ta I J H0 H1 H2 H3 tn)
    refine r_iload_n (i := 1) 64 dX7_text_63 rfl rfl rfl ?_
    refine r_iconst (v := 2) 65 dX7_text_64 rfl rfl ?_
    refine r_icmp_ge 81 68 dX7_text_65 rfl rfl (fun h65 => absurd h65 (by decide)) (fun h65 => ?_)
    refine r_aload_n (i := 0) 69 dX7_text_68 rfl rfl rfl ?_
    refine r_getf 72 dX7_text_69 rfl fl_X7_23 rfl rfl ?_
    refine r_iload_n (i := 1) 73 dX7_text_72 rfl rfl rfl ?_
    refine r_iconst (v := 0) 74 dX7_text_73 rfl rfl ?_
    refine r_zast 75 dX7_text_74 rfl rfl (vp_in_nI (n := 0) (by decide) (by decide)) (rfl) ?_
    refine r_iinc (i := 1) 78 dX7_text_75 rfl rfl (rfl) rfl ?_
    refine r_goto 63 dX7_text_78 rfl ?_
    skip
    show mm_r (d + 9) mX7_text _ 63 [some (.ref 0), some (.int 1)] [] (wX (fCpy N F) Z (upd kp 0 0) ((R.1.1, 0, nI (pP sa), nI (pK sa), nI (pT sa)), F, nI (pF sa), nI (pL sa), nI cr.2) (0, Si.2) Sr Ta I J H0 H1 H2 H3 tn)
    refine r_iload_n (i := 1) 64 dX7_text_63 rfl rfl rfl ?_
    refine r_iconst (v := 2) 65 dX7_text_64 rfl rfl ?_
    refine r_icmp_ge 81 68 dX7_text_65 rfl rfl (fun h65 => absurd h65 (by decide)) (fun h65 => ?_)
    refine r_aload_n (i := 0) 69 dX7_text_68 rfl rfl rfl ?_
    refine r_getf 72 dX7_text_69 rfl fl_X7_23 rfl rfl ?_
    refine r_iload_n (i := 1) 73 dX7_text_72 rfl rfl rfl ?_
    refine r_iconst (v := 0) 74 dX7_text_73 rfl rfl ?_
    refine r_zast 75 dX7_text_74 rfl rfl (vp_in_nI (n := 1) (by decide) (by decide)) (rfl) ?_
    refine r_iinc (i := 1) 78 dX7_text_75 rfl rfl (rfl) rfl ?_
    refine r_goto 63 dX7_text_78 rfl ?_
    skip
    show mm_r (d + 9) mX7_text _ 63 [some (.ref 0), some (.int 2)] [] (wX (fCpy N F) Z (upd (upd kp 0 0) 1 0) ((R.1.1, 0, nI (pP sa), nI (pK sa), nI (pT sa)), F, nI (pF sa), nI (pL sa), nI cr.2) (0, Si.2) Sr Ta I J H0 H1 H2 H3 tn)
    refine r_iload_n (i := 1) 64 dX7_text_63 rfl rfl rfl ?_
    refine r_iconst (v := 2) 65 dX7_text_64 rfl rfl ?_
    refine r_icmp_ge 81 68 dX7_text_65 rfl rfl (fun h65 => ?_) (fun h65 => absurd (by decide) h65)
    refine r_aload_n (i := 0) 82 dX7_text_81 rfl rfl rfl ?_
    refine r_getf 85 dX7_text_82 rfl fl_X7_30 rfl rfl ?_
    refine r_getf 88 dX7_text_85 rfl fl_X7_95 rfl rfl ?_
    exact r_reti dX7_text_88 rfl (by first | rfl | exact bI_nar _) ⟨Nat.le_refl _, Nat.le_refl _⟩ (fun _ => rfl) (⟨rfl, ⟨k1.2.2.2.2.2.2, k2, Nat.zero_le _, Nat.zero_le _, fun i hi => absurd hi (Nat.not_lt_zero i), Nat.zero_le _, ⟨Nat.zero_le _, fun i hi => absurd hi (Nat.not_lt_zero i)⟩, fun k hk q hq => (by cases hq), hT.2.2.2.2.2.2.2.2⟩, fCpy N F, Z, upd (upd kp 0 0) 1 0, ((R.1.1, 0, nI (pP sa), nI (pK sa), nI (pT sa)), F, nI (pF sa), nI (pL sa), nI cr.2), (0, Si.2), Sr, Ta, I, J, H0, H1, H2, H3, tn, rfl, fok_cpy k1, hF.2.1, hF.2.2.2, ⟨rfl, fun i hi => absurd hi (Nat.not_lt_zero i)⟩, q0, ⟨rfl, Nat.zero_le _, fun i hi => absurd hi (Nat.not_lt_zero i)⟩, ⟨rfl, rfl⟩, (fun q hq => by cases hq), (fun q hq => by cases hq), ⟨s0, s1, s2, s3⟩, hn⟩)
  · rw [if_neg q]
    refine r_aload_n (i := 0) 19 dX7_text_18 rfl rfl rfl ?_
    refine r_getf 22 dX7_text_19 rfl fl_X7_30 rfl rfl ?_
    refine r_getf 25 dX7_text_22 rfl fl_X7_79 rfl rfl ?_
    refine r_if_eq 39 28 dX7_text_25 rfl rfl (fun h25 => absurd (beq_of (a := pF sa) (b := 0) (by omega) (by decide) h25) q) (fun h25 => ?_)
    refine r_bipush (v := (-10)) 30 dX7_text_28 rfl rfl ?_
    refine r_aload_n (i := 0) 31 dX7_text_30 rfl rfl rfl ?_
    refine r_getf 34 dX7_text_31 rfl fl_X7_30 rfl rfl ?_
    refine r_getf 37 dX7_text_34 rfl fl_X7_82 rfl rfl ?_
    refine r_isub 38 dX7_text_37 rfl ?_
    exact r_reti dX7_text_38 rfl (by first | rfl | exact bI_nar _) ⟨Nat.le_refl _, Nat.le_refl _⟩ (fun _ => rfl) (⟨rfl, ⟨hT.1, hT.2.1, hT.2.2.1, Nat.zero_le _, fun i hi => absurd hi (Nat.not_lt_zero i), of, hT.2.2.2.2.2.2⟩, N, Z, kp, ((R.1.1, 0, nI (pP sa), nI (pK sa), nI (pT sa)), F, nI (pF sa), nI (pL sa), nI cr.2), Si, Sr, Ta, I, J, H0, H1, H2, H3, tn, rfl, hN, hx, hy, ⟨rfl, fun i hi => absurd hi (Nat.not_lt_zero i)⟩, rfl, hs, ⟨hk0, hk1⟩, hI, hJ, ⟨s0, s1, s2, s3⟩, hn⟩)
end XJ
