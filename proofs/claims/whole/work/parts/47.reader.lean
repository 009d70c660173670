section X1R
variable {d : Nat} {B : Nat → Int32} {b : Nat → Nat} {n : Nat} {F : FlT} {A : sA} {l : Int32} {s : pS}
abbrev rR (B : Nat → Int32) (n : Nat) (s : pS) (F : FlT) (l : Int32) : RdT := ((B, nI n, nI (pP s), nI (pK s), nI (pT s)), F, nI (pF s), nI (pL s), l)
theorem bk_rt (R : RdT) (T : TpT) : mm_back [1, 2] (wRd R) (wTp T) = wRd (T, R.2) := rfl
theorem bk_rf (R : RdT) (F : FlT) : mm_back [3, 4, 5, 6, 7, 8, 9, 10] (wRd R) (wFl F) = wRd (R.1, F, R.2.2) := rfl
theorem bk_r0 (R R' : RdT) : mm_back [0, 1, 2, 3, 4, 5, 6, 7, 8, 9, 10] (wRd R) (wRd R') = wRd R' := rfl
theorem e_failIf (hs : sI n s) (hn : n ≤ 160) (c : Bool) (k : Nat) : mm_e (d + 1) yX1_failIf mX1_failIf [.ref 0, .int (bI c), .int (nI k)] (wRd (rR B n s F l)) (mm_q none (wRd (rR B n (fIf c k s) F l))) := by
  have hf := hs.2.2.2.1
  refine e_of [some (.ref 0), some (.int (bI c)), some (.int (nI k))] rfl (by decide) rfl rfl rfl ?_
  unfold fIf
  cases c with
  | false =>
    refine r_iload_n (i := 1) 1 dX1_failIf_0 rfl rfl rfl ?_
    refine r_if_eq 27 4 dX1_failIf_1 rfl rfl (fun h1 => ?_) (fun h1 => absurd rfl h1)
    exact r_retv dX1_failIf_27 rfl ⟨Nat.le_refl _, Nat.le_refl _⟩ (fun _ => rfl) (⟨rfl, rfl⟩)
  | true =>
    by_cases q : pF s = 0
    · rw [if_pos (show (true && decide (pF s = 0)) = true by rw [decide_eq_true q]; rfl)]
      have q2 : nI (pF s) = 0 := by rw [q]; rfl
      refine r_iload_n (i := 1) 1 dX1_failIf_0 rfl rfl rfl ?_
      refine r_if_eq 27 4 dX1_failIf_1 rfl rfl (fun h1 => absurd h1 (by decide)) (fun h1 => ?_)
      refine r_aload_n (i := 0) 5 dX1_failIf_4 rfl rfl rfl ?_
      refine r_getf 8 dX1_failIf_5 rfl fl_X1_31 rfl rfl ?_
      refine r_if_ne 27 11 dX1_failIf_8 rfl rfl (fun h8 => absurd q2 h8) (fun h8 => ?_)
      refine r_aload_n (i := 0) 12 dX1_failIf_11 rfl rfl rfl ?_
      refine r_iload_n (i := 2) 13 dX1_failIf_12 rfl rfl rfl ?_
      refine r_putf 16 dX1_failIf_13 rfl fl_X1_31 rfl rfl (fun _ _ => ⟨rfl, rfl⟩) (fun z => absurd z Bool.false_ne_true) ?_
      refine r_aload_n (i := 0) 17 dX1_failIf_16 rfl rfl rfl ?_
      refine r_aload_n (i := 0) 18 dX1_failIf_17 rfl rfl rfl ?_
      refine r_getf 21 dX1_failIf_18 rfl fl_X1_12 rfl rfl ?_
      refine r_getf 24 dX1_failIf_21 rfl fl_X1_135 rfl rfl ?_
      refine r_putf 27 dX1_failIf_24 rfl fl_X1_35 rfl rfl (fun _ _ => ⟨rfl, rfl⟩) (fun z => absurd z Bool.false_ne_true) ?_
      exact r_retv dX1_failIf_27 rfl ⟨Nat.le_refl _, Nat.le_refl _⟩ (fun _ => rfl) (⟨rfl, rfl⟩)
    · rw [if_neg (show ¬ (true && decide (pF s = 0)) = true by rw [decide_eq_false q]; decide)]
      refine r_iload_n (i := 1) 1 dX1_failIf_0 rfl rfl rfl ?_
      refine r_if_eq 27 4 dX1_failIf_1 rfl rfl (fun h1 => absurd h1 (by decide)) (fun h1 => ?_)
      refine r_aload_n (i := 0) 5 dX1_failIf_4 rfl rfl rfl ?_
      refine r_getf 8 dX1_failIf_5 rfl fl_X1_31 rfl rfl ?_
      refine r_if_ne 27 11 dX1_failIf_8 rfl rfl (fun h8 => ?_) (fun h8 => absurd (beq_of (a := pF s) (b := 0) (by omega) (by decide) h8) q)
      exact r_retv dX1_failIf_27 rfl ⟨Nat.le_refl _, Nat.le_refl _⟩ (fun _ => rfl) (⟨rfl, rfl⟩)
theorem e_failIfT (hs : sI n s) (hn : n ≤ 160) (k : Nat) : mm_e (d + 1) yX1_failIf mX1_failIf [.ref 0, .int 1, .int (nI k)] (wRd (rR B n s F l)) (mm_q none (wRd (rR B n (fIf true k s) F l))) := e_failIf hs hn true k
theorem e_failIfF (hs : sI n s) (hn : n ≤ 160) (k : Nat) : mm_e (d + 1) yX1_failIf mX1_failIf [.ref 0, .int 0, .int (nI k)] (wRd (rR B n s F l)) (mm_q none (wRd (rR B n (fIf false k s) F l))) := e_failIf hs hn false k
theorem tkT_0 (b : Nat → Nat) (n : Nat) {s : pS} (h : pF s = 0) : tkT b n s = tkT b n (pP s, 0, 0, 0, pL s) := by
  unfold tkT; rw [if_pos h, if_pos rfl]
/-- the first TOKEN, whatever was read before -/
theorem e_takeToken0 (h : tpo B b n) {p q : Nat} (hp : p ≤ n) (hq : q ≤ n) (t u : Int32) : mm_e (d + 3) yX1_takeToken mX1_takeToken [.ref 0] (wRd ((B, nI n, nI p, t, u), F, 0, nI q, l)) (mm_q none (wRd (rR B n (tkT b n (p, 0, 0, 0, q)) F l))) := by
  have hn := h.1
  have b1 := tB_le (b := b) hp
  have b2 := tE_le (b := b) hp
  have b3 := tK_le b n p
  have hs : sI n (tE b n p, tK b n p, tB b n p, 0, q) := ⟨b2.2, by show tB b n p ≤ n; omega, b3, Nat.zero_le _, hq⟩
  refine e_of [some (.ref 0)] rfl (by decide) rfl rfl rfl ?_
  have e : tkT b n (p, 0, 0, 0, q) = fIf (decide (tK b n p = 0)) 1 (tE b n p, tK b n p, tB b n p, 0, q) := by unfold tkT; rw [if_pos rfl]
  rw [e]
  refine r_aload_n (i := 0) 1 dX1_takeToken_0 rfl rfl rfl ?_
  refine r_getf 4 dX1_takeToken_1 rfl fl_X1_31 rfl rfl ?_
  refine r_if_ne 34 7 dX1_takeToken_4 rfl rfl (fun h4 => absurd rfl h4) (fun h4 => ?_)
  refine r_aload_n (i := 0) 8 dX1_takeToken_7 rfl rfl rfl ?_
  refine r_getf 11 dX1_takeToken_8 rfl fl_X1_12 rfl rfl ?_
  refine r_callVu [1, 2] 14 dX1_takeToken_11 rfl ykX6_readToken lk_X1_132 (e_readToken h hp) rfl rfl rfl rfl rfl rfl rfl ⟨Nat.le_refl _, Nat.le_refl _⟩ ?_
  rw [bk_rt]
  refine r_aload_n (i := 0) 15 dX1_takeToken_14 rfl rfl rfl ?_
  refine r_aload_n (i := 0) 16 dX1_takeToken_15 rfl rfl rfl ?_
  refine r_getf 19 dX1_takeToken_16 rfl fl_X1_12 rfl rfl ?_
  refine r_getf 22 dX1_takeToken_19 rfl fl_X1_55 rfl rfl ?_
  refine r_if_ne 29 25 dX1_takeToken_22 rfl rfl (fun h22 => ?_) (fun h22 => ?_)
  · rw [decide_eq_false (bne_of (a := tK b n p) (b := 0) (by omega) (by decide) h22)]
    refine r_iconst (v := 0) 30 dX1_takeToken_29 rfl rfl ?_
    refine r_iconst (v := 1) 31 dX1_takeToken_30 rfl rfl ?_
    first | refine r_callVu [0, 1, 2, 3, 4, 5, 6, 7, 8, 9, 10] 34 dX1_takeToken_31 rfl ykX1_failIf lk_X1_48 (e_failIfT (s := (tE b n p, tK b n p, tB b n p, 0, q)) hs hn 1) rfl rfl rfl rfl rfl rfl rfl ⟨Nat.le_refl _, Nat.le_refl _⟩ ?_ | refine r_callVu [0, 1, 2, 3, 4, 5, 6, 7, 8, 9, 10] 34 dX1_takeToken_31 rfl ykX1_failIf lk_X1_48 (e_failIfF (s := (tE b n p, tK b n p, tB b n p, 0, q)) hs hn 1) rfl rfl rfl rfl rfl rfl rfl ⟨Nat.le_refl _, Nat.le_refl _⟩ ?_
    rw [bk_r0]
    exact r_retv dX1_takeToken_34 rfl ⟨Nat.le_refl _, Nat.le_refl _⟩ (fun _ => rfl) (⟨rfl, rfl⟩)
  · rw [decide_eq_true (beq_of (a := tK b n p) (b := 0) (by omega) (by decide) h22)]
    refine r_iconst (v := 1) 26 dX1_takeToken_25 rfl rfl ?_
    refine r_goto 30 dX1_takeToken_26 rfl ?_
    refine r_iconst (v := 1) 31 dX1_takeToken_30 rfl rfl ?_
    first | refine r_callVu [0, 1, 2, 3, 4, 5, 6, 7, 8, 9, 10] 34 dX1_takeToken_31 rfl ykX1_failIf lk_X1_48 (e_failIfT (s := (tE b n p, tK b n p, tB b n p, 0, q)) hs hn 1) rfl rfl rfl rfl rfl rfl rfl ⟨Nat.le_refl _, Nat.le_refl _⟩ ?_ | refine r_callVu [0, 1, 2, 3, 4, 5, 6, 7, 8, 9, 10] 34 dX1_takeToken_31 rfl ykX1_failIf lk_X1_48 (e_failIfF (s := (tE b n p, tK b n p, tB b n p, 0, q)) hs hn 1) rfl rfl rfl rfl rfl rfl rfl ⟨Nat.le_refl _, Nat.le_refl _⟩ ?_
    rw [bk_r0]
    exact r_retv dX1_takeToken_34 rfl ⟨Nat.le_refl _, Nat.le_refl _⟩ (fun _ => rfl) (⟨rfl, rfl⟩)
theorem e_takeToken (h : tpo B b n) (hs : sI n s) : mm_e (d + 3) yX1_takeToken mX1_takeToken [.ref 0] (wRd (rR B n s F l)) (mm_q none (wRd (rR B n (tkT b n s) F l))) := by
  have hn := h.1
  by_cases q : pF s = 0
  · rw [tkT_0 b n q]
    have e := e_takeToken0 (d := d) (F := F) (l := l) h hs.1 hs.2.2.2.2 (nI (pK s)) (nI (pT s))
    have e2 : rR B n s F l = ((B, nI n, nI (pP s), nI (pK s), nI (pT s)), F, 0, nI (pL s), l) := by show (_, _, nI (pF s), _, _) = _; rw [q]; rfl
    rw [e2]
    exact e
  · have e : tkT b n s = s := by unfold tkT; rw [if_neg q]
    rw [e]
    refine e_of [some (.ref 0)] rfl (by decide) rfl rfl rfl ?_
    refine r_aload_n (i := 0) 1 dX1_takeToken_0 rfl rfl rfl ?_
    refine r_getf 4 dX1_takeToken_1 rfl fl_X1_31 rfl rfl ?_
    refine r_if_ne 34 7 dX1_takeToken_4 rfl rfl (fun h4 => ?_) (fun h4 => absurd (beq_of (a := pF s) (b := 0) (by have := hs.2.2.2.1; omega) (by decide) h4) q)
    exact r_retv dX1_takeToken_34 rfl ⟨Nat.le_refl _, Nat.le_refl _⟩ (fun _ => rfl) (⟨rfl, rfl⟩)
theorem e_takeStop (h : tpo B b n) (hs : sI n s) : mm_e (d + 4) yX1_takeStop mX1_takeStop [.ref 0] (wRd (rR B n s F l)) (mm_q none (wRd (rR B n (tkS b n s) F l))) := by
  have hn := h.1
  have hs1 := sI_tkT (b := b) hs
  have hk := hs1.2.2.1
  refine e_of [some (.ref 0)] rfl (by decide) rfl rfl rfl ?_
  unfold tkS
  refine r_aload_n (i := 0) 1 dX1_takeStop_0 rfl rfl rfl ?_
  refine r_callVu [0, 1, 2, 3, 4, 5, 6, 7, 8, 9, 10] 4 dX1_takeStop_1 rfl ykX1_takeToken lk_X1_52 (e_takeToken h hs) rfl rfl rfl rfl rfl rfl rfl ⟨Nat.le_refl _, Nat.le_refl _⟩ ?_
  rw [bk_r0]
  refine r_aload_n (i := 0) 5 dX1_takeStop_4 rfl rfl rfl ?_
  refine r_aload_n (i := 0) 6 dX1_takeStop_5 rfl rfl rfl ?_
  refine r_getf 9 dX1_takeStop_6 rfl fl_X1_12 rfl rfl ?_
  refine r_getf 12 dX1_takeStop_9 rfl fl_X1_55 rfl rfl ?_
  refine r_iconst (v := 3) 13 dX1_takeStop_12 rfl rfl ?_
  refine r_icmp_eq 20 16 dX1_takeStop_13 rfl rfl (fun h13 => ?_) (fun h13 => ?_)
  · rw [decide_eq_false (not_not_intro (beq_of (a := pK (tkT b n s)) (b := 3) (by omega) (by decide) h13))]
    refine r_iconst (v := 0) 21 dX1_takeStop_20 rfl rfl ?_
    refine r_iconst (v := 2) 22 dX1_takeStop_21 rfl rfl ?_
    first | refine r_callVu [0, 1, 2, 3, 4, 5, 6, 7, 8, 9, 10] 25 dX1_takeStop_22 rfl ykX1_failIf lk_X1_48 (e_failIfT hs1 hn 2) rfl rfl rfl rfl rfl rfl rfl ⟨Nat.le_refl _, Nat.le_refl _⟩ ?_ | refine r_callVu [0, 1, 2, 3, 4, 5, 6, 7, 8, 9, 10] 25 dX1_takeStop_22 rfl ykX1_failIf lk_X1_48 (e_failIfF hs1 hn 2) rfl rfl rfl rfl rfl rfl rfl ⟨Nat.le_refl _, Nat.le_refl _⟩ ?_
    rw [bk_r0]
    exact r_retv dX1_takeStop_25 rfl ⟨Nat.le_refl _, Nat.le_refl _⟩ (fun _ => rfl) (⟨rfl, rfl⟩)
  · rw [decide_eq_true (bne_of (a := pK (tkT b n s)) (b := 3) (by omega) (by decide) h13)]
    refine r_iconst (v := 1) 17 dX1_takeStop_16 rfl rfl ?_
    refine r_goto 21 dX1_takeStop_17 rfl ?_
    refine r_iconst (v := 2) 22 dX1_takeStop_21 rfl rfl ?_
    first | refine r_callVu [0, 1, 2, 3, 4, 5, 6, 7, 8, 9, 10] 25 dX1_takeStop_22 rfl ykX1_failIf lk_X1_48 (e_failIfT hs1 hn 2) rfl rfl rfl rfl rfl rfl rfl ⟨Nat.le_refl _, Nat.le_refl _⟩ ?_ | refine r_callVu [0, 1, 2, 3, 4, 5, 6, 7, 8, 9, 10] 25 dX1_takeStop_22 rfl ykX1_failIf lk_X1_48 (e_failIfF hs1 hn 2) rfl rfl rfl rfl rfl rfl rfl ⟨Nat.le_refl _, Nat.le_refl _⟩ ?_
    rw [bk_r0]
    exact r_retv dX1_takeStop_25 rfl ⟨Nat.le_refl _, Nat.le_refl _⟩ (fun _ => rfl) (⟨rfl, rfl⟩)
theorem e_takeNumber (h : tpo B b n) (hs : sI n s) {most : Nat} (hm : most < 100) : mm_e (d + 4) yX1_takeNumber mX1_takeNumber [.ref 0, .int (nI most)] (wRd (rR B n s F l)) (mm_q (some (.int (nI (tkW b n most s)))) (wRd (rR B n (tkN b n most s) F l))) := by
  have hn := h.1
  have hs1 := sI_tkT (b := b) hs
  have hk := hs1.2.2.1
  have hs2 := sI_tkN1 (b := b) hs
  have hf2 := hs2.2.2.2.1
  have hs3 := sI_tkN (b := b) (most := most) hs
  refine e_of [some (.ref 0), some (.int (nI most)), none] rfl (by decide) rfl rfl rfl ?_
  suffices go : mm_r (d + 4) mX1_takeNumber (mm_q (some (.int (nI (tkW b n most s)))) (wRd (rR B n (tkN b n most s) F l))) 25 [some (.ref 0), some (.int (nI most)), none] [] (wRd (rR B n (tkN1 b n s) F l)) by
    have e1 : tkN1 b n s = fIf (decide (¬ pK (tkT b n s) = 2)) 2 (tkT b n s) := rfl
    refine r_aload_n (i := 0) 1 dX1_takeNumber_0 rfl rfl rfl ?_
    refine r_callVu [0, 1, 2, 3, 4, 5, 6, 7, 8, 9, 10] 4 dX1_takeNumber_1 rfl ykX1_takeToken lk_X1_52 (e_takeToken h hs) rfl rfl rfl rfl rfl rfl rfl ⟨Nat.le_refl _, Nat.le_refl _⟩ ?_
    rw [bk_r0]
    refine r_aload_n (i := 0) 5 dX1_takeNumber_4 rfl rfl rfl ?_
    refine r_aload_n (i := 0) 6 dX1_takeNumber_5 rfl rfl rfl ?_
    refine r_getf 9 dX1_takeNumber_6 rfl fl_X1_12 rfl rfl ?_
    refine r_getf 12 dX1_takeNumber_9 rfl fl_X1_55 rfl rfl ?_
    refine r_iconst (v := 2) 13 dX1_takeNumber_12 rfl rfl ?_
    refine r_icmp_eq 20 16 dX1_takeNumber_13 rfl rfl (fun h13 => ?_) (fun h13 => ?_)
    · rw [decide_eq_false (not_not_intro (beq_of (a := pK (tkT b n s)) (b := 2) (by omega) (by decide) h13))] at e1
      refine r_iconst (v := 0) 21 dX1_takeNumber_20 rfl rfl ?_
      refine r_iconst (v := 2) 22 dX1_takeNumber_21 rfl rfl ?_
      first | refine r_callVu [0, 1, 2, 3, 4, 5, 6, 7, 8, 9, 10] 25 dX1_takeNumber_22 rfl ykX1_failIf lk_X1_48 (e_failIfT hs1 hn 2) rfl rfl rfl rfl rfl rfl rfl ⟨Nat.le_refl _, Nat.le_refl _⟩ ?_ | refine r_callVu [0, 1, 2, 3, 4, 5, 6, 7, 8, 9, 10] 25 dX1_takeNumber_22 rfl ykX1_failIf lk_X1_48 (e_failIfF hs1 hn 2) rfl rfl rfl rfl rfl rfl rfl ⟨Nat.le_refl _, Nat.le_refl _⟩ ?_
      rw [bk_r0, ← e1]
      exact go
    · rw [decide_eq_true (bne_of (a := pK (tkT b n s)) (b := 2) (by omega) (by decide) h13)] at e1
      refine r_iconst (v := 1) 17 dX1_takeNumber_16 rfl rfl ?_
      refine r_goto 21 dX1_takeNumber_17 rfl ?_
      refine r_iconst (v := 2) 22 dX1_takeNumber_21 rfl rfl ?_
      first | refine r_callVu [0, 1, 2, 3, 4, 5, 6, 7, 8, 9, 10] 25 dX1_takeNumber_22 rfl ykX1_failIf lk_X1_48 (e_failIfT hs1 hn 2) rfl rfl rfl rfl rfl rfl rfl ⟨Nat.le_refl _, Nat.le_refl _⟩ ?_ | refine r_callVu [0, 1, 2, 3, 4, 5, 6, 7, 8, 9, 10] 25 dX1_takeNumber_22 rfl ykX1_failIf lk_X1_48 (e_failIfF hs1 hn 2) rfl rfl rfl rfl rfl rfl rfl ⟨Nat.le_refl _, Nat.le_refl _⟩ ?_
      rw [bk_r0, ← e1]
      exact go
  by_cases q : pF (tkN1 b n s) = 0
  · obtain ⟨q1, q2, q3⟩ := tkN1_ok q
    obtain ⟨k1, k2⟩ := tK_2 hs.1 q2
    have b2 := tE_le (b := b) hs.1
    have ve : vl b (pT (tkN1 b n s)) (pP (tkN1 b n s) - pT (tkN1 b n s)) = tkV b (tkN1 b n s) := rfl
    have ep : pP (tkN1 b n s) = tE b n (pP s) := by rw [q3]
    have et : pT (tkN1 b n s) = tB b n (pP s) := by rw [q3]
    have vb : tkV b (tkN1 b n s) < 100 := by
      unfold tkV
      rw [ep, et]
      have h1 := vl_le (b := b) (a := tB b n (pP s)) (tE b n (pP s) - tB b n (pP s)) (fun i z1 z2 => k2 i z1 (by omega))
      have h2 : 10 ^ (tE b n (pP s) - tB b n (pP s)) ≤ 10 ^ 2 := Nat.pow_le_pow_right (by decide) k1
      omega
    have tv := e_tokenValue (d := d + 2) h (t := nI (pK (tkN1 b n s))) (a := pT (tkN1 b n s)) (e := pP (tkN1 b n s)) hs2.1 (by rw [ep, et]; exact b2.1) (by rw [ep, et]; exact k1) (by rw [ep, et]; exact k2)
    have e3 : tkN b n most s = fIf (decide (most < tkV b (tkN1 b n s))) 3 (tkN1 b n s) := by unfold tkN; rw [if_pos q]
    have z0 : nI (pF (tkN1 b n s)) = 0 := by rw [q]; rfl
    have fin : mm_r (d + 4) mX1_takeNumber (mm_q (some (.int (nI (tkW b n most s)))) (wRd (rR B n (tkN b n most s) F l))) 57 [some (.ref 0), some (.int (nI most)), some (.int (nI (tkV b (tkN1 b n s))))] [] (wRd (rR B n (tkN b n most s) F l)) := by
      have hf3 := hs3.2.2.2.1
      refine r_aload_n (i := 0) 58 dX1_takeNumber_57 rfl rfl rfl ?_
      refine r_getf 61 dX1_takeNumber_58 rfl fl_X1_31 rfl rfl ?_
      refine r_if_ne 68 64 dX1_takeNumber_61 rfl rfl (fun h61 => ?_) (fun h61 => ?_)
      · have g := bne_of (a := pF (tkN b n most s)) (b := 0) (by omega) (by decide) h61
        refine r_iconst (v := 0) 69 dX1_takeNumber_68 rfl rfl ?_
        exact r_reti dX1_takeNumber_69 rfl (by first | rfl | exact bI_nar _) ⟨Nat.le_refl _, Nat.le_refl _⟩ (fun _ => rfl) (⟨by first | (rw [tkW, if_neg g]; rfl) | rw [tkW, if_pos g], rfl⟩)
      · have g := beq_of (a := pF (tkN b n most s)) (b := 0) (by omega) (by decide) h61
        refine r_iload_n (i := 2) 65 dX1_takeNumber_64 rfl rfl rfl ?_
        refine r_goto 69 dX1_takeNumber_65 rfl ?_
        exact r_reti dX1_takeNumber_69 rfl (by first | rfl | exact bI_nar _) ⟨Nat.le_refl _, Nat.le_refl _⟩ (fun _ => rfl) (⟨by first | (rw [tkW, if_neg g]; rfl) | rw [tkW, if_pos g], rfl⟩)
    refine r_aload_n (i := 0) 26 dX1_takeNumber_25 rfl rfl rfl ?_
    refine r_getf 29 dX1_takeNumber_26 rfl fl_X1_31 rfl rfl ?_
    refine r_if_eq 34 32 dX1_takeNumber_29 rfl rfl (fun h29 => ?_) (fun h29 => absurd z0 h29)
    refine r_aload_n (i := 0) 35 dX1_takeNumber_34 rfl rfl rfl ?_
    refine r_getf 38 dX1_takeNumber_35 rfl fl_X1_12 rfl rfl ?_
    refine r_callVi [1, 2] 41 dX1_takeNumber_38 rfl ykX6_tokenValue lk_X1_129 (tv) rfl rfl rfl rfl rfl rfl rfl ⟨Nat.le_refl _, Nat.le_refl _⟩ ?_
    refine r_istore_n (i := 2) 42 dX1_takeNumber_41 rfl rfl rfl ?_
    refine r_aload_n (i := 0) 43 dX1_takeNumber_42 rfl rfl rfl ?_
    refine r_iload_n (i := 2) 44 dX1_takeNumber_43 rfl rfl rfl ?_
    refine r_iload_n (i := 1) 45 dX1_takeNumber_44 rfl rfl rfl ?_
    refine r_icmp_le 52 48 dX1_takeNumber_45 rfl rfl (fun h45 => ?_) (fun h45 => ?_)
    · have g := ble_of (a := tkV b (tkN1 b n s)) (by omega) (by omega) h45
      rw [decide_eq_false (by omega)] at e3
      refine r_iconst (v := 0) 53 dX1_takeNumber_52 rfl rfl ?_
      refine r_iconst (v := 3) 54 dX1_takeNumber_53 rfl rfl ?_
      first | refine r_callVu [0, 1, 2, 3, 4, 5, 6, 7, 8, 9, 10] 57 dX1_takeNumber_54 rfl ykX1_failIf lk_X1_48 (e_failIfT hs2 hn 3) rfl rfl rfl rfl rfl rfl rfl ⟨Nat.le_refl _, Nat.le_refl _⟩ ?_ | refine r_callVu [0, 1, 2, 3, 4, 5, 6, 7, 8, 9, 10] 57 dX1_takeNumber_54 rfl ykX1_failIf lk_X1_48 (e_failIfF hs2 hn 3) rfl rfl rfl rfl rfl rfl rfl ⟨Nat.le_refl _, Nat.le_refl _⟩ ?_
      rw [bk_r0, ← e3]
      exact fin
    · have g := bnle_of (a := tkV b (tkN1 b n s)) (by omega) (by omega) h45
      rw [decide_eq_true (by omega)] at e3
      refine r_iconst (v := 1) 49 dX1_takeNumber_48 rfl rfl ?_
      refine r_goto 53 dX1_takeNumber_49 rfl ?_
      refine r_iconst (v := 3) 54 dX1_takeNumber_53 rfl rfl ?_
      first | refine r_callVu [0, 1, 2, 3, 4, 5, 6, 7, 8, 9, 10] 57 dX1_takeNumber_54 rfl ykX1_failIf lk_X1_48 (e_failIfT hs2 hn 3) rfl rfl rfl rfl rfl rfl rfl ⟨Nat.le_refl _, Nat.le_refl _⟩ ?_ | refine r_callVu [0, 1, 2, 3, 4, 5, 6, 7, 8, 9, 10] 57 dX1_takeNumber_54 rfl ykX1_failIf lk_X1_48 (e_failIfF hs2 hn 3) rfl rfl rfl rfl rfl rfl rfl ⟨Nat.le_refl _, Nat.le_refl _⟩ ?_
      rw [bk_r0, ← e3]
      exact fin
  · have e3 : tkN b n most s = tkN1 b n s := by unfold tkN; rw [if_neg q]
    have e4 : tkW b n most s = 0 := by unfold tkW; rw [e3, if_neg q]
    rw [e3, e4]
    refine r_aload_n (i := 0) 26 dX1_takeNumber_25 rfl rfl rfl ?_
    refine r_getf 29 dX1_takeNumber_26 rfl fl_X1_31 rfl rfl ?_
    refine r_if_eq 34 32 dX1_takeNumber_29 rfl rfl (fun h29 => absurd (beq_of (a := pF (tkN1 b n s)) (b := 0) (by omega) (by decide) h29) q) (fun h29 => ?_)
    refine r_iconst (v := 0) 33 dX1_takeNumber_32 rfl rfl ?_
    exact r_reti dX1_takeNumber_33 rfl (by first | rfl | exact bI_nar _) ⟨Nat.le_refl _, Nat.le_refl _⟩ (fun _ => rfl) (⟨rfl, rfl⟩)
theorem e_addThingN {F : FlT} {m : Nat} (h : fTh F = nI m) (hm : 6 ≤ m) (hm2 : m < 2 ^ 31) (k f s : Int32) : mm_e (d + 1) yX0_addThing mX0_addThing [.ref 0, .int k, .int f, .int s] (wFl F) (mm_q none (wFl F)) := by
  refine e_of [some (.ref 0), some (.int k), some (.int f), some (.int s)] rfl (by decide) rfl rfl rfl ?_
  refine r_aload_n (i := 0) 1 dX0_addThing_0 rfl rfl rfl ?_
  refine r_getf 4 dX0_addThing_1 rfl fl_X0_33 rfl rfl ?_
  refine r_bipush (v := 6) 6 dX0_addThing_4 rfl rfl ?_
  refine r_icmp_ge 49 9 dX0_addThing_6 rfl rfl (fun h6 => ?_) (fun h6 => absurd (show (6 : Int32) ≤ fTh F by rw [h]; exact (nI_leI (a := 6) (by decide) hm2).mpr hm) h6)
  exact r_retv dX0_addThing_49 rfl ⟨Nat.le_refl _, Nat.le_refl _⟩ (fun _ => rfl) (⟨rfl, rfl⟩)
theorem e_addGuestN {F : FlT} {m : Nat} (h : fGu F = nI m) (hm : 4 ≤ m) (hm2 : m < 2 ^ 31) (f s : Int32) : mm_e (d + 1) yX0_addGuest mX0_addGuest [.ref 0, .int f, .int s] (wFl F) (mm_q none (wFl F)) := by
  refine e_of [some (.ref 0), some (.int f), some (.int s)] rfl (by decide) rfl rfl rfl ?_
  refine r_aload_n (i := 0) 1 dX0_addGuest_0 rfl rfl rfl ?_
  refine r_getf 4 dX0_addGuest_1 rfl fl_X0_40 rfl rfl ?_
  refine r_iconst (v := 4) 5 dX0_addGuest_4 rfl rfl ?_
  refine r_icmp_ge 38 8 dX0_addGuest_5 rfl rfl (fun h5 => ?_) (fun h5 => absurd (show (4 : Int32) ≤ fGu F by rw [h]; exact (nI_leI (a := 4) (by decide) hm2).mpr hm) h5)
  exact r_retv dX0_addGuest_38 rfl ⟨Nat.le_refl _, Nat.le_refl _⟩ (fun _ => rfl) (⟨rfl, rfl⟩)
theorem e_addBanN {F : FlT} {m : Nat} (h : fBn F = nI m) (hm : 4 ≤ m) (hm2 : m < 2 ^ 31) (f s : Int32) : mm_e (d + 1) yX0_addBan mX0_addBan [.ref 0, .int f, .int s] (wFl F) (mm_q none (wFl F)) := by
  refine e_of [some (.ref 0), some (.int f), some (.int s)] rfl (by decide) rfl rfl rfl ?_
  refine r_aload_n (i := 0) 1 dX0_addBan_0 rfl rfl rfl ?_
  refine r_getf 4 dX0_addBan_1 rfl fl_X0_43 rfl rfl ?_
  refine r_iconst (v := 4) 5 dX0_addBan_4 rfl rfl ?_
  refine r_icmp_ge 38 8 dX0_addBan_5 rfl rfl (fun h5 => ?_) (fun h5 => absurd (show (4 : Int32) ≤ fBn F by rw [h]; exact (nI_leI (a := 4) (by decide) hm2).mpr hm) h5)
  exact r_retv dX0_addBan_38 rfl ⟨Nat.le_refl _, Nat.le_refl _⟩ (fun _ => rfl) (⟨rfl, rfl⟩)
theorem at_upd {f : Nat → Int32} {g : Nat → Nat} {k v i : Nat} (hi : i < k + 1) (h : i < k → f i = nI (g i)) : upd f k (nI v) i = nI (updN g k v i) := by
  by_cases q : i = k
  · simp [upd, updN, q]
  · simp [upd, updN, q, h (by omega)]
theorem updN_b {g : Nat → Nat} {k v i m : Nat} (hi : i < k + 1) (hv : v < m) (h : i < k → g i < m) : updN g k v i < m := by
  by_cases q : i = k
  · simp [updN, q, hv]
  · simp [updN, q, h (by omega)]
theorem fw_T {F : FlT} {A : sA} (h : fw F A) (h6 : sN A < 6) {k f g : Nat} (hk : k ≤ 4) (hf : f < 6) (hg : g < 6) : fw (fTng F (sN A) (nI k) (nI f) (nI g)) (aT A k f g) := by
  obtain ⟨a1, a2, a3, a4, a5, a6, a7, a8, a9, a10, a11, a12⟩ := h
  refine ⟨rfl, fun i hi => ?_, a3, a4, a5, a6, ?_, a8, a9, fun i hi => ?_, a11, a12⟩
  · exact ⟨at_upd hi (fun z => (a2 i z).1), at_upd hi (fun z => (a2 i z).2.1), at_upd hi (fun z => (a2 i z).2.2)⟩
  · show sN A + 1 ≤ 6; omega
  · exact ⟨Nat.le_of_lt_succ (updN_b (m := 5) hi (by omega) (fun z => Nat.lt_succ_of_le (a10 i z).1)), updN_b hi hf (fun z => (a10 i z).2.1), updN_b hi hg (fun z => (a10 i z).2.2)⟩
theorem fw_G {F : FlT} {A : sA} (h : fw F A) (h6 : sG A < 4) {f c : Nat} (hf : f < 6) (hc : c ≤ 9) : fw (fGst F (sG A) (nI f) (nI c)) (aG A f c) := by
  obtain ⟨a1, a2, a3, a4, a5, a6, a7, a8, a9, a10, a11, a12⟩ := h
  refine ⟨a1, a2, rfl, fun i hi => ?_, a5, a6, a7, ?_, a9, a10, fun i hi => ?_, a12⟩
  · exact ⟨at_upd hi (fun z => (a4 i z).1), at_upd hi (fun z => (a4 i z).2)⟩
  · show sG A + 1 ≤ 4; omega
  · exact ⟨updN_b hi hf (fun z => (a11 i z).1), Nat.le_of_lt_succ (updN_b (m := 10) hi (by omega) (fun z => Nat.lt_succ_of_le (a11 i z).2))⟩
theorem fw_B {F : FlT} {A : sA} (h : fw F A) (h6 : sB A < 4) {f g : Nat} (hf : f < 6) (hg : g < 6) : fw (fBan F (sB A) (nI f) (nI g)) (aB A f g) := by
  obtain ⟨a1, a2, a3, a4, a5, a6, a7, a8, a9, a10, a11, a12⟩ := h
  refine ⟨a1, a2, a3, a4, rfl, fun i hi => ?_, a7, a8, ?_, a10, a11, fun i hi => ?_⟩
  · exact ⟨at_upd hi (fun z => (a6 i z).1), at_upd hi (fun z => (a6 i z).2)⟩
  · show sB A + 1 ≤ 4; omega
  · exact ⟨updN_b hi hf (fun z => (a12 i z).1), updN_b hi hg (fun z => (a12 i z).2)⟩
/-- what is told: laws, STATE, no YEAR -/
def tol (F : FlT) (A : sA) (x : Nat) : Prop := fw F A ∧ fSt F = nI x ∧ x < 64 ∧ fYr F = 0
def QR (B : Nat → Int32) (n : Nat) (Z : pZ) (l : Int32) : Option Value → mm_W → Prop := fun v u => v = none ∧ ∃ F, u = wRd (rR B n Z.1 F l) ∧ tol F Z.2.1 Z.2.2
theorem e_readThing (h : tpo B b n) (hs : sI n s) {x : Nat} (hF : tol F A x) {k : Nat} (hk : k ≤ 4) : mm_e (d + 5) yX1_readThing mX1_readThing [.ref 0, .int (nI k)] (wRd (rR B n s F l)) (QR B n (c_thing b n k (s, A, x)) l) := by
  have hn := h.1
  have h6 := hF.1.2.2.2.2.2.2.1
  have hth := hF.1.1
  refine e_of [some (.ref 0), some (.int (nI k)), none, none, none] rfl (by decide) rfl rfl rfl ?_
  have hs1 : sI n (fIf (decide (6 ≤ sN A)) 5 s) := sI_fIf (by decide) hs
  have fin : ∀ (s3 : pS) (f g : Nat) (Q : Option Value → mm_W → Prop), Q = QR B n (tkS b n s3, (if sN A < 6 then aT A k f g else A), x) l → sI n s3 → (sN A < 6 → f < 6 ∧ g < 6) → mm_r (d + 5) mX1_readThing Q 59 [some (.ref 0), some (.int (nI k)), some (.int (nI (sN A))), some (.int (nI f)), some (.int (nI g))] [] (wRd (rR B n s3 F l)) := by
    intro s3 f g Q hQ hs3 hfg
    subst hQ
    by_cases q : sN A < 6
    · rw [if_pos q]
      obtain ⟨hf, hg⟩ := hfg q
      refine r_aload_n (i := 0) 60 dX1_readThing_59 rfl rfl rfl ?_
      refine r_callVu [0, 1, 2, 3, 4, 5, 6, 7, 8, 9, 10] 63 dX1_readThing_60 rfl ykX1_takeStop lk_X1_102 (e_takeStop h hs3) rfl rfl rfl rfl rfl rfl rfl ⟨Nat.le_refl _, Nat.le_refl _⟩ ?_
      rw [bk_r0]
      refine r_aload_n (i := 0) 64 dX1_readThing_63 rfl rfl rfl ?_
      refine r_getf 67 dX1_readThing_64 rfl fl_X1_21 rfl rfl ?_
      refine r_iload_n (i := 1) 68 dX1_readThing_67 rfl rfl rfl ?_
      refine r_iload_n (i := 3) 69 dX1_readThing_68 rfl rfl rfl ?_
      refine r_iload (i := 4) 71 dX1_readThing_69 rfl rfl ?_
      refine r_callVu [3, 4, 5, 6, 7, 8, 9, 10] 74 dX1_readThing_71 rfl ykX0_addThing lk_X1_105 (e_addThing hth q _ _ _) rfl rfl rfl rfl rfl rfl rfl ⟨Nat.le_refl _, Nat.le_refl _⟩ ?_
      rw [bk_rf]
      exact r_retv dX1_readThing_74 rfl ⟨Nat.le_refl _, Nat.le_refl _⟩ (fun _ => rfl) (⟨rfl, _, rfl, fw_T hF.1 q hk hf hg, hF.2.1, hF.2.2.1, hF.2.2.2⟩)
    · rw [if_neg q]
      refine r_aload_n (i := 0) 60 dX1_readThing_59 rfl rfl rfl ?_
      refine r_callVu [0, 1, 2, 3, 4, 5, 6, 7, 8, 9, 10] 63 dX1_readThing_60 rfl ykX1_takeStop lk_X1_102 (e_takeStop h hs3) rfl rfl rfl rfl rfl rfl rfl ⟨Nat.le_refl _, Nat.le_refl _⟩ ?_
      rw [bk_r0]
      refine r_aload_n (i := 0) 64 dX1_readThing_63 rfl rfl rfl ?_
      refine r_getf 67 dX1_readThing_64 rfl fl_X1_21 rfl rfl ?_
      refine r_iload_n (i := 1) 68 dX1_readThing_67 rfl rfl rfl ?_
      refine r_iload_n (i := 3) 69 dX1_readThing_68 rfl rfl rfl ?_
      refine r_iload (i := 4) 71 dX1_readThing_69 rfl rfl ?_
      refine r_callVu [3, 4, 5, 6, 7, 8, 9, 10] 74 dX1_readThing_71 rfl ykX0_addThing lk_X1_105 (e_addThingN hth (by omega) (by omega) _ _ _) rfl rfl rfl rfl rfl rfl rfl ⟨Nat.le_refl _, Nat.le_refl _⟩ ?_
      rw [bk_rf]
      exact r_retv dX1_readThing_74 rfl ⟨Nat.le_refl _, Nat.le_refl _⟩ (fun _ => rfl) (⟨rfl, _, rfl, hF⟩)
  suffices go : mm_r (d + 5) mX1_readThing (QR B n (c_thing b n k (s, A, x)) l) 24 [some (.ref 0), some (.int (nI k)), some (.int (nI (sN A))), none, none] [] (wRd (rR B n (fIf (decide (6 ≤ sN A)) 5 s) F l)) by
    refine r_aload_n (i := 0) 1 dX1_readThing_0 rfl rfl rfl ?_
    refine r_getf 4 dX1_readThing_1 rfl fl_X1_21 rfl rfl ?_
    refine r_getf 7 dX1_readThing_4 rfl fl_X1_95 rfl rfl ?_
    rw [show fTh F = nI (sN A) from hth]
    refine r_istore_n (i := 2) 8 dX1_readThing_7 rfl rfl rfl ?_
    refine r_aload_n (i := 0) 9 dX1_readThing_8 rfl rfl rfl ?_
    refine r_iload_n (i := 2) 10 dX1_readThing_9 rfl rfl rfl ?_
    refine r_bipush (v := 6) 12 dX1_readThing_10 rfl rfl ?_
    refine r_icmp_lt 19 15 dX1_readThing_12 rfl rfl (fun h12 => ?_) (fun h12 => ?_)
    · have g := blt_of (b := 6) (by omega) (by decide) h12
      rw [decide_eq_false (by omega)] at go
      refine r_iconst (v := 0) 20 dX1_readThing_19 rfl rfl ?_
      refine r_iconst (v := 5) 21 dX1_readThing_20 rfl rfl ?_
      first | refine r_callVu [0, 1, 2, 3, 4, 5, 6, 7, 8, 9, 10] 24 dX1_readThing_21 rfl ykX1_failIf lk_X1_48 (e_failIfT hs hn 5) rfl rfl rfl rfl rfl rfl rfl ⟨Nat.le_refl _, Nat.le_refl _⟩ ?_ | refine r_callVu [0, 1, 2, 3, 4, 5, 6, 7, 8, 9, 10] 24 dX1_readThing_21 rfl ykX1_failIf lk_X1_48 (e_failIfF hs hn 5) rfl rfl rfl rfl rfl rfl rfl ⟨Nat.le_refl _, Nat.le_refl _⟩ ?_
      rw [bk_r0]
      exact go
    · have g := bnlt_of (b := 6) (by omega) (by decide) h12
      rw [decide_eq_true (by omega)] at go
      refine r_iconst (v := 1) 16 dX1_readThing_15 rfl rfl ?_
      refine r_goto 20 dX1_readThing_16 rfl ?_
      refine r_iconst (v := 5) 21 dX1_readThing_20 rfl rfl ?_
      first | refine r_callVu [0, 1, 2, 3, 4, 5, 6, 7, 8, 9, 10] 24 dX1_readThing_21 rfl ykX1_failIf lk_X1_48 (e_failIfT hs hn 5) rfl rfl rfl rfl rfl rfl rfl ⟨Nat.le_refl _, Nat.le_refl _⟩ ?_ | refine r_callVu [0, 1, 2, 3, 4, 5, 6, 7, 8, 9, 10] 24 dX1_readThing_21 rfl ykX1_failIf lk_X1_48 (e_failIfF hs hn 5) rfl rfl rfl rfl rfl rfl rfl ⟨Nat.le_refl _, Nat.le_refl _⟩ ?_
      rw [bk_r0]
      exact go
  have w5 := tkW_le (b := b) (n := n) (most := 5) (fIf (decide (6 ≤ sN A)) 5 s)
  have hs2 : sI n (tkN b n 5 (fIf (decide (6 ≤ sN A)) 5 s)) := sI_tkN hs1
  have w6 := tkW_le (b := b) (n := n) (most := 5) (tkN b n 5 (fIf (decide (6 ≤ sN A)) 5 s))
  rcases (by omega : k = 0 ∨ k = 1 ∨ k = 2 ∨ k = 3 ∨ k = 4) with rfl | rfl | rfl | rfl | rfl
  · rw [c_thing, c_thing_0]
    refine r_iload_n (i := 1) 25 dX1_readThing_24 rfl rfl rfl ?_
    refine r_if_ne 32 28 dX1_readThing_25 rfl rfl (fun h25 => absurd rfl h25) (fun h25 => ?_)
    refine r_iload_n (i := 2) 29 dX1_readThing_28 rfl rfl rfl ?_
    refine r_goto 37 dX1_readThing_29 rfl ?_
    refine r_istore_n (i := 3) 38 dX1_readThing_37 rfl rfl rfl ?_
    refine r_iload_n (i := 1) 39 dX1_readThing_38 rfl rfl rfl ?_
    refine r_iconst (v := 3) 40 dX1_readThing_39 rfl rfl ?_
    refine r_icmp_eq 48 43 dX1_readThing_40 rfl rfl (fun h40 => absurd h40 (by decide)) (fun h40 => ?_)
    refine r_iload_n (i := 1) 44 dX1_readThing_43 rfl rfl rfl ?_
    refine r_iconst (v := 4) 45 dX1_readThing_44 rfl rfl ?_
    refine r_icmp_ne 56 48 dX1_readThing_45 rfl rfl (fun h45 => ?_) (fun h45 => absurd h45 (by decide))
    refine r_iload_n (i := 2) 57 dX1_readThing_56 rfl rfl rfl ?_
    refine r_istore (i := 4) 59 dX1_readThing_57 rfl rfl ?_
    exact fin _ (sN A) (sN A) _ rfl hs1 (fun z => ⟨z, z⟩)
  · rw [c_thing, c_thing_1 b n (by decide)]
    refine r_iload_n (i := 1) 25 dX1_readThing_24 rfl rfl rfl ?_
    refine r_if_ne 32 28 dX1_readThing_25 rfl rfl (fun h25 => ?_) (fun h25 => absurd h25 (by decide))
    refine r_aload_n (i := 0) 33 dX1_readThing_32 rfl rfl rfl ?_
    refine r_iconst (v := 5) 34 dX1_readThing_33 rfl rfl ?_
    refine r_callVu [0, 1, 2, 3, 4, 5, 6, 7, 8, 9, 10] 37 dX1_readThing_34 rfl ykX1_takeNumber lk_X1_98 (e_takeNumber h hs1 (most := 5) (by decide)) rfl rfl rfl rfl rfl rfl rfl ⟨Nat.le_refl _, Nat.le_refl _⟩ ?_
    rw [bk_r0]
    refine r_istore_n (i := 3) 38 dX1_readThing_37 rfl rfl rfl ?_
    refine r_iload_n (i := 1) 39 dX1_readThing_38 rfl rfl rfl ?_
    refine r_iconst (v := 3) 40 dX1_readThing_39 rfl rfl ?_
    refine r_icmp_eq 48 43 dX1_readThing_40 rfl rfl (fun h40 => absurd h40 (by decide)) (fun h40 => ?_)
    refine r_iload_n (i := 1) 44 dX1_readThing_43 rfl rfl rfl ?_
    refine r_iconst (v := 4) 45 dX1_readThing_44 rfl rfl ?_
    refine r_icmp_ne 56 48 dX1_readThing_45 rfl rfl (fun h45 => ?_) (fun h45 => absurd h45 (by decide))
    refine r_iload_n (i := 2) 57 dX1_readThing_56 rfl rfl rfl ?_
    refine r_istore (i := 4) 59 dX1_readThing_57 rfl rfl ?_
    exact fin _ (tkW b n 5 (fIf (decide (6 ≤ sN A)) 5 s)) (sN A) _ rfl hs2 (fun z => ⟨by omega, z⟩)
  · rw [c_thing, c_thing_1 b n (by decide)]
    refine r_iload_n (i := 1) 25 dX1_readThing_24 rfl rfl rfl ?_
    refine r_if_ne 32 28 dX1_readThing_25 rfl rfl (fun h25 => ?_) (fun h25 => absurd h25 (by decide))
    refine r_aload_n (i := 0) 33 dX1_readThing_32 rfl rfl rfl ?_
    refine r_iconst (v := 5) 34 dX1_readThing_33 rfl rfl ?_
    refine r_callVu [0, 1, 2, 3, 4, 5, 6, 7, 8, 9, 10] 37 dX1_readThing_34 rfl ykX1_takeNumber lk_X1_98 (e_takeNumber h hs1 (most := 5) (by decide)) rfl rfl rfl rfl rfl rfl rfl ⟨Nat.le_refl _, Nat.le_refl _⟩ ?_
    rw [bk_r0]
    refine r_istore_n (i := 3) 38 dX1_readThing_37 rfl rfl rfl ?_
    refine r_iload_n (i := 1) 39 dX1_readThing_38 rfl rfl rfl ?_
    refine r_iconst (v := 3) 40 dX1_readThing_39 rfl rfl ?_
    refine r_icmp_eq 48 43 dX1_readThing_40 rfl rfl (fun h40 => absurd h40 (by decide)) (fun h40 => ?_)
    refine r_iload_n (i := 1) 44 dX1_readThing_43 rfl rfl rfl ?_
    refine r_iconst (v := 4) 45 dX1_readThing_44 rfl rfl ?_
    refine r_icmp_ne 56 48 dX1_readThing_45 rfl rfl (fun h45 => ?_) (fun h45 => absurd h45 (by decide))
    refine r_iload_n (i := 2) 57 dX1_readThing_56 rfl rfl rfl ?_
    refine r_istore (i := 4) 59 dX1_readThing_57 rfl rfl ?_
    exact fin _ (tkW b n 5 (fIf (decide (6 ≤ sN A)) 5 s)) (sN A) _ rfl hs2 (fun z => ⟨by omega, z⟩)
  · rw [c_thing, c_thing_3 b n (by decide)]
    refine r_iload_n (i := 1) 25 dX1_readThing_24 rfl rfl rfl ?_
    refine r_if_ne 32 28 dX1_readThing_25 rfl rfl (fun h25 => ?_) (fun h25 => absurd h25 (by decide))
    refine r_aload_n (i := 0) 33 dX1_readThing_32 rfl rfl rfl ?_
    refine r_iconst (v := 5) 34 dX1_readThing_33 rfl rfl ?_
    refine r_callVu [0, 1, 2, 3, 4, 5, 6, 7, 8, 9, 10] 37 dX1_readThing_34 rfl ykX1_takeNumber lk_X1_98 (e_takeNumber h hs1 (most := 5) (by decide)) rfl rfl rfl rfl rfl rfl rfl ⟨Nat.le_refl _, Nat.le_refl _⟩ ?_
    rw [bk_r0]
    refine r_istore_n (i := 3) 38 dX1_readThing_37 rfl rfl rfl ?_
    refine r_iload_n (i := 1) 39 dX1_readThing_38 rfl rfl rfl ?_
    refine r_iconst (v := 3) 40 dX1_readThing_39 rfl rfl ?_
    refine r_icmp_eq 48 43 dX1_readThing_40 rfl rfl (fun h40 => ?_) (fun h40 => absurd rfl h40)
    refine r_aload_n (i := 0) 49 dX1_readThing_48 rfl rfl rfl ?_
    refine r_iconst (v := 5) 50 dX1_readThing_49 rfl rfl ?_
    refine r_callVu [0, 1, 2, 3, 4, 5, 6, 7, 8, 9, 10] 53 dX1_readThing_50 rfl ykX1_takeNumber lk_X1_98 (e_takeNumber h hs2 (most := 5) (by decide)) rfl rfl rfl rfl rfl rfl rfl ⟨Nat.le_refl _, Nat.le_refl _⟩ ?_
    rw [bk_r0]
    refine r_goto 57 dX1_readThing_53 rfl ?_
    refine r_istore (i := 4) 59 dX1_readThing_57 rfl rfl ?_
    exact fin _ (tkW b n 5 (fIf (decide (6 ≤ sN A)) 5 s)) (tkW b n 5 (tkN b n 5 (fIf (decide (6 ≤ sN A)) 5 s))) _ rfl (sI_tkN hs2) (fun z => ⟨by omega, by omega⟩)
  · rw [c_thing, c_thing_3 b n (by decide)]
    refine r_iload_n (i := 1) 25 dX1_readThing_24 rfl rfl rfl ?_
    refine r_if_ne 32 28 dX1_readThing_25 rfl rfl (fun h25 => ?_) (fun h25 => absurd h25 (by decide))
    refine r_aload_n (i := 0) 33 dX1_readThing_32 rfl rfl rfl ?_
    refine r_iconst (v := 5) 34 dX1_readThing_33 rfl rfl ?_
    refine r_callVu [0, 1, 2, 3, 4, 5, 6, 7, 8, 9, 10] 37 dX1_readThing_34 rfl ykX1_takeNumber lk_X1_98 (e_takeNumber h hs1 (most := 5) (by decide)) rfl rfl rfl rfl rfl rfl rfl ⟨Nat.le_refl _, Nat.le_refl _⟩ ?_
    rw [bk_r0]
    refine r_istore_n (i := 3) 38 dX1_readThing_37 rfl rfl rfl ?_
    refine r_iload_n (i := 1) 39 dX1_readThing_38 rfl rfl rfl ?_
    refine r_iconst (v := 3) 40 dX1_readThing_39 rfl rfl ?_
    refine r_icmp_eq 48 43 dX1_readThing_40 rfl rfl (fun h40 => absurd h40 (by decide)) (fun h40 => ?_)
    refine r_iload_n (i := 1) 44 dX1_readThing_43 rfl rfl rfl ?_
    refine r_iconst (v := 4) 45 dX1_readThing_44 rfl rfl ?_
    refine r_icmp_ne 56 48 dX1_readThing_45 rfl rfl (fun h45 => absurd rfl h45) (fun h45 => ?_)
    refine r_aload_n (i := 0) 49 dX1_readThing_48 rfl rfl rfl ?_
    refine r_iconst (v := 5) 50 dX1_readThing_49 rfl rfl ?_
    refine r_callVu [0, 1, 2, 3, 4, 5, 6, 7, 8, 9, 10] 53 dX1_readThing_50 rfl ykX1_takeNumber lk_X1_98 (e_takeNumber h hs2 (most := 5) (by decide)) rfl rfl rfl rfl rfl rfl rfl ⟨Nat.le_refl _, Nat.le_refl _⟩ ?_
    rw [bk_r0]
    refine r_goto 57 dX1_readThing_53 rfl ?_
    refine r_istore (i := 4) 59 dX1_readThing_57 rfl rfl ?_
    exact fin _ (tkW b n 5 (fIf (decide (6 ≤ sN A)) 5 s)) (tkW b n 5 (tkN b n 5 (fIf (decide (6 ≤ sN A)) 5 s))) _ rfl (sI_tkN hs2) (fun z => ⟨by omega, by omega⟩)
theorem or64 {x f : Nat} (hx : x < 64) (hf : f < 6) : x ||| 2 ^ f < 64 := or_lt (k := 6) hx (p2_lt hf)
theorem e_readSo (h : tpo B b n) (hs : sI n s) {x : Nat} (hF : tol F A x) : mm_e (d + 5) yX1_readSo mX1_readSo [.ref 0] (wRd (rR B n s F l)) (QR B n (c_so b n (s, A, x)) l) := by
  have hn := h.1
  obtain ⟨f1, f2, f3, f4⟩ := hF
  have hs1 : sI n (tkN b n 5 s) := sI_tkN hs
  have w5 := tkW_le (b := b) (n := n) (most := 5) s
  have hs2 : sI n (fIf (decide (tb x (tkW b n 5 s) = 1)) 4 (tkN b n 5 s)) := sI_fIf (by decide) hs1
  refine e_of [some (.ref 0), none] rfl (by decide) rfl rfl rfl ?_
  refine r_aload_n (i := 0) 1 dX1_readSo_0 rfl rfl rfl ?_
  refine r_iconst (v := 5) 2 dX1_readSo_1 rfl rfl ?_
  refine r_callVu [0, 1, 2, 3, 4, 5, 6, 7, 8, 9, 10] 5 dX1_readSo_2 rfl ykX1_takeNumber lk_X1_98 (e_takeNumber h hs (most := 5) (by decide)) rfl rfl rfl rfl rfl rfl rfl ⟨Nat.le_refl _, Nat.le_refl _⟩ ?_
  rw [bk_r0]
  refine r_istore_n (i := 1) 6 dX1_readSo_5 rfl rfl rfl ?_
  refine r_aload_n (i := 0) 7 dX1_readSo_6 rfl rfl rfl ?_
  refine r_aload_n (i := 0) 8 dX1_readSo_7 rfl rfl rfl ?_
  refine r_getf 11 dX1_readSo_8 rfl fl_X1_21 rfl rfl ?_
  refine r_getf 14 dX1_readSo_11 rfl fl_X1_109 rfl rfl ?_
  rw [show fSt F = nI x from f2]
  refine r_iload_n (i := 1) 15 dX1_readSo_14 rfl rfl rfl ?_
  refine r_callSi [] 18 dX1_readSo_15 rfl ykX7_isSo lk_X1_112 (e_isSo (j := tkW b n 5 s) (by omega) (by omega)) rfl rfl rfl ⟨Nat.le_refl _, Nat.le_refl _⟩ ?_
  refine r_iconst (v := 4) 19 dX1_readSo_18 rfl rfl ?_
  refine r_callVu [0, 1, 2, 3, 4, 5, 6, 7, 8, 9, 10] 22 dX1_readSo_19 rfl ykX1_failIf lk_X1_48 (e_failIf hs1 hn _ 4) rfl rfl rfl rfl rfl rfl rfl ⟨Nat.le_refl _, Nat.le_refl _⟩ ?_
  rw [bk_r0]
  refine r_aload_n (i := 0) 23 dX1_readSo_22 rfl rfl rfl ?_
  refine r_callVu [0, 1, 2, 3, 4, 5, 6, 7, 8, 9, 10] 26 dX1_readSo_23 rfl ykX1_takeStop lk_X1_102 (e_takeStop h hs2) rfl rfl rfl rfl rfl rfl rfl ⟨Nat.le_refl _, Nat.le_refl _⟩ ?_
  rw [bk_r0]
  refine r_aload_n (i := 0) 27 dX1_readSo_26 rfl rfl rfl ?_
  refine r_getf 30 dX1_readSo_27 rfl fl_X1_21 rfl rfl ?_
  refine r_dup 31 dX1_readSo_30 rfl rfl ?_
  refine r_getf 34 dX1_readSo_31 rfl fl_X1_109 rfl rfl ?_
  rw [show fSt F = nI x from f2]
  refine r_iconst (v := 1) 35 dX1_readSo_34 rfl rfl ?_
  refine r_iload_n (i := 1) 36 dX1_readSo_35 rfl rfl rfl ?_
  refine r_ishl 37 dX1_readSo_36 rfl ?_
  rw [n_shl1 (j := tkW b n 5 s) (by omega)]
  refine r_ior 38 dX1_readSo_37 rfl ?_
  rw [fa_or]
  refine r_putf 41 dX1_readSo_38 rfl fl_X1_109 rfl rfl (fun _ _ => ⟨rfl, rfl⟩) (fun z => absurd z Bool.false_ne_true) ?_
  exact r_retv dX1_readSo_41 rfl ⟨Nat.le_refl _, Nat.le_refl _⟩ (fun _ => rfl) (⟨rfl, (F.1, F.2.1, F.2.2.1, F.2.2.2.1, nI (x ||| 2 ^ tkW b n 5 s), F.2.2.2.2.2), rfl, f1, rfl, or64 f3 (show tkW b n 5 s < 6 by omega), f4⟩)
theorem e_readGuest (h : tpo B b n) (hs : sI n s) {x : Nat} (hF : tol F A x) : mm_e (d + 5) yX1_readGuest mX1_readGuest [.ref 0] (wRd (rR B n s F l)) (QR B n (c_guest b n (s, A, x)) l) := by
  have hn := h.1
  have h6 := hF.1.2.2.2.2.2.2.2.1
  have hgu := hF.1.2.2.1
  refine e_of [some (.ref 0), none, none] rfl (by decide) rfl rfl rfl ?_
  have hs1 : sI n (fIf (decide (4 ≤ sG A)) 5 s) := sI_fIf (by decide) hs
  have w5 := tkW_le (b := b) (n := n) (most := 5) (fIf (decide (4 ≤ sG A)) 5 s)
  have hs2 : sI n (tkN b n 5 (fIf (decide (4 ≤ sG A)) 5 s)) := sI_tkN hs1
  have w9 := tkW_le (b := b) (n := n) (most := 9) (tkN b n 5 (fIf (decide (4 ≤ sG A)) 5 s))
  have hs3 : sI n (tkN b n 9 (tkN b n 5 (fIf (decide (4 ≤ sG A)) 5 s))) := sI_tkN hs2
  suffices go : mm_r (d + 5) mX1_readGuest (QR B n (c_guest b n (s, A, x)) l) 21 [some (.ref 0), none, none] [] (wRd (rR B n (fIf (decide (4 ≤ sG A)) 5 s) F l)) by
    refine r_aload_n (i := 0) 1 dX1_readGuest_0 rfl rfl rfl ?_
    refine r_aload_n (i := 0) 2 dX1_readGuest_1 rfl rfl rfl ?_
    refine r_getf 5 dX1_readGuest_2 rfl fl_X1_21 rfl rfl ?_
    refine r_getf 8 dX1_readGuest_5 rfl fl_X1_116 rfl rfl ?_
    rw [show fGu F = nI (sG A) from hgu]
    refine r_iconst (v := 4) 9 dX1_readGuest_8 rfl rfl ?_
    refine r_icmp_lt 16 12 dX1_readGuest_9 rfl rfl (fun h9 => ?_) (fun h9 => ?_)
    · have g := blt_of (b := 4) (by omega) (by decide) h9
      rw [decide_eq_false (by omega)] at go
      refine r_iconst (v := 0) 17 dX1_readGuest_16 rfl rfl ?_
      refine r_iconst (v := 5) 18 dX1_readGuest_17 rfl rfl ?_
      first | refine r_callVu [0, 1, 2, 3, 4, 5, 6, 7, 8, 9, 10] 21 dX1_readGuest_18 rfl ykX1_failIf lk_X1_48 (e_failIfT hs hn 5) rfl rfl rfl rfl rfl rfl rfl ⟨Nat.le_refl _, Nat.le_refl _⟩ ?_ | refine r_callVu [0, 1, 2, 3, 4, 5, 6, 7, 8, 9, 10] 21 dX1_readGuest_18 rfl ykX1_failIf lk_X1_48 (e_failIfF hs hn 5) rfl rfl rfl rfl rfl rfl rfl ⟨Nat.le_refl _, Nat.le_refl _⟩ ?_
      rw [bk_r0]
      exact go
    · have g := bnlt_of (b := 4) (by omega) (by decide) h9
      rw [decide_eq_true (by omega)] at go
      refine r_iconst (v := 1) 13 dX1_readGuest_12 rfl rfl ?_
      refine r_goto 17 dX1_readGuest_13 rfl ?_
      refine r_iconst (v := 5) 18 dX1_readGuest_17 rfl rfl ?_
      first | refine r_callVu [0, 1, 2, 3, 4, 5, 6, 7, 8, 9, 10] 21 dX1_readGuest_18 rfl ykX1_failIf lk_X1_48 (e_failIfT hs hn 5) rfl rfl rfl rfl rfl rfl rfl ⟨Nat.le_refl _, Nat.le_refl _⟩ ?_ | refine r_callVu [0, 1, 2, 3, 4, 5, 6, 7, 8, 9, 10] 21 dX1_readGuest_18 rfl ykX1_failIf lk_X1_48 (e_failIfF hs hn 5) rfl rfl rfl rfl rfl rfl rfl ⟨Nat.le_refl _, Nat.le_refl _⟩ ?_
      rw [bk_r0]
      exact go
  have fin : ∀ (s3 : pS) (f c : Nat) (Q : Option Value → mm_W → Prop), Q = QR B n (tkS b n s3, (if sG A < 4 then aG A f c else A), x) l → sI n s3 → f < 6 → c ≤ 9 → mm_r (d + 5) mX1_readGuest Q 34 [some (.ref 0), some (.int (nI f)), some (.int (nI c))] [] (wRd (rR B n s3 F l)) := by
    intro s3 f c Q hQ hs3 hf hc
    subst hQ
    by_cases q : sG A < 4
    · rw [if_pos q]
      refine r_aload_n (i := 0) 35 dX1_readGuest_34 rfl rfl rfl ?_
      refine r_callVu [0, 1, 2, 3, 4, 5, 6, 7, 8, 9, 10] 38 dX1_readGuest_35 rfl ykX1_takeStop lk_X1_102 (e_takeStop h hs3) rfl rfl rfl rfl rfl rfl rfl ⟨Nat.le_refl _, Nat.le_refl _⟩ ?_
      rw [bk_r0]
      refine r_aload_n (i := 0) 39 dX1_readGuest_38 rfl rfl rfl ?_
      refine r_getf 42 dX1_readGuest_39 rfl fl_X1_21 rfl rfl ?_
      refine r_iload_n (i := 1) 43 dX1_readGuest_42 rfl rfl rfl ?_
      refine r_iload_n (i := 2) 44 dX1_readGuest_43 rfl rfl rfl ?_
      refine r_callVu [3, 4, 5, 6, 7, 8, 9, 10] 47 dX1_readGuest_44 rfl ykX0_addGuest lk_X1_119 (e_addGuest hgu q _ _) rfl rfl rfl rfl rfl rfl rfl ⟨Nat.le_refl _, Nat.le_refl _⟩ ?_
      rw [bk_rf]
      exact r_retv dX1_readGuest_47 rfl ⟨Nat.le_refl _, Nat.le_refl _⟩ (fun _ => rfl) (⟨rfl, _, rfl, fw_G hF.1 q hf hc, hF.2.1, hF.2.2.1, hF.2.2.2⟩)
    · rw [if_neg q]
      refine r_aload_n (i := 0) 35 dX1_readGuest_34 rfl rfl rfl ?_
      refine r_callVu [0, 1, 2, 3, 4, 5, 6, 7, 8, 9, 10] 38 dX1_readGuest_35 rfl ykX1_takeStop lk_X1_102 (e_takeStop h hs3) rfl rfl rfl rfl rfl rfl rfl ⟨Nat.le_refl _, Nat.le_refl _⟩ ?_
      rw [bk_r0]
      refine r_aload_n (i := 0) 39 dX1_readGuest_38 rfl rfl rfl ?_
      refine r_getf 42 dX1_readGuest_39 rfl fl_X1_21 rfl rfl ?_
      refine r_iload_n (i := 1) 43 dX1_readGuest_42 rfl rfl rfl ?_
      refine r_iload_n (i := 2) 44 dX1_readGuest_43 rfl rfl rfl ?_
      refine r_callVu [3, 4, 5, 6, 7, 8, 9, 10] 47 dX1_readGuest_44 rfl ykX0_addGuest lk_X1_119 (e_addGuestN hgu (by omega) (by omega) _ _) rfl rfl rfl rfl rfl rfl rfl ⟨Nat.le_refl _, Nat.le_refl _⟩ ?_
      rw [bk_rf]
      exact r_retv dX1_readGuest_47 rfl ⟨Nat.le_refl _, Nat.le_refl _⟩ (fun _ => rfl) (⟨rfl, _, rfl, hF⟩)
  have e : c_guest b n (s, A, x) = (tkS b n (tkN b n 9 (tkN b n 5 (fIf (decide (4 ≤ sG A)) 5 s))), (if sG A < 4 then aG A (tkW b n 5 (fIf (decide (4 ≤ sG A)) 5 s)) (tkW b n 9 (tkN b n 5 (fIf (decide (4 ≤ sG A)) 5 s))) else A), x) := rfl
  rw [e]
  have fin2 := fin (tkN b n 9 (tkN b n 5 (fIf (decide (4 ≤ sG A)) 5 s))) (tkW b n 5 (fIf (decide (4 ≤ sG A)) 5 s)) (tkW b n 9 (tkN b n 5 (fIf (decide (4 ≤ sG A)) 5 s))) _ rfl hs3 (by omega) w9
  refine r_aload_n (i := 0) 22 dX1_readGuest_21 rfl rfl rfl ?_
  refine r_iconst (v := 5) 23 dX1_readGuest_22 rfl rfl ?_
  refine r_callVu [0, 1, 2, 3, 4, 5, 6, 7, 8, 9, 10] 26 dX1_readGuest_23 rfl ykX1_takeNumber lk_X1_98 (e_takeNumber h hs1 (most := 5) (by decide)) rfl rfl rfl rfl rfl rfl rfl ⟨Nat.le_refl _, Nat.le_refl _⟩ ?_
  rw [bk_r0]
  refine r_istore_n (i := 1) 27 dX1_readGuest_26 rfl rfl rfl ?_
  refine r_aload_n (i := 0) 28 dX1_readGuest_27 rfl rfl rfl ?_
  refine r_bipush (v := 9) 30 dX1_readGuest_28 rfl rfl ?_
  refine r_callVu [0, 1, 2, 3, 4, 5, 6, 7, 8, 9, 10] 33 dX1_readGuest_30 rfl ykX1_takeNumber lk_X1_98 (e_takeNumber h hs2 (most := 9) (by decide)) rfl rfl rfl rfl rfl rfl rfl ⟨Nat.le_refl _, Nat.le_refl _⟩ ?_
  rw [bk_r0]
  refine r_istore_n (i := 2) 34 dX1_readGuest_33 rfl rfl rfl ?_
  exact fin2
theorem e_readBan (h : tpo B b n) (hs : sI n s) {x : Nat} (hF : tol F A x) : mm_e (d + 5) yX1_readBan mX1_readBan [.ref 0] (wRd (rR B n s F l)) (QR B n (c_ban b n (s, A, x)) l) := by
  have hn := h.1
  have h6 := hF.1.2.2.2.2.2.2.2.2.1
  have hbn := hF.1.2.2.2.2.1
  refine e_of [some (.ref 0), none, none] rfl (by decide) rfl rfl rfl ?_
  have hs1 : sI n (fIf (decide (4 ≤ sB A)) 5 s) := sI_fIf (by decide) hs
  have w5 := tkW_le (b := b) (n := n) (most := 5) (fIf (decide (4 ≤ sB A)) 5 s)
  have hs2 : sI n (tkN b n 5 (fIf (decide (4 ≤ sB A)) 5 s)) := sI_tkN hs1
  have w9 := tkW_le (b := b) (n := n) (most := 5) (tkN b n 5 (fIf (decide (4 ≤ sB A)) 5 s))
  have hs3 : sI n (tkN b n 5 (tkN b n 5 (fIf (decide (4 ≤ sB A)) 5 s))) := sI_tkN hs2
  suffices go : mm_r (d + 5) mX1_readBan (QR B n (c_ban b n (s, A, x)) l) 21 [some (.ref 0), none, none] [] (wRd (rR B n (fIf (decide (4 ≤ sB A)) 5 s) F l)) by
    refine r_aload_n (i := 0) 1 dX1_readBan_0 rfl rfl rfl ?_
    refine r_aload_n (i := 0) 2 dX1_readBan_1 rfl rfl rfl ?_
    refine r_getf 5 dX1_readBan_2 rfl fl_X1_21 rfl rfl ?_
    refine r_getf 8 dX1_readBan_5 rfl fl_X1_123 rfl rfl ?_
    rw [show fBn F = nI (sB A) from hbn]
    refine r_iconst (v := 4) 9 dX1_readBan_8 rfl rfl ?_
    refine r_icmp_lt 16 12 dX1_readBan_9 rfl rfl (fun h9 => ?_) (fun h9 => ?_)
    · have g := blt_of (b := 4) (by omega) (by decide) h9
      rw [decide_eq_false (by omega)] at go
      refine r_iconst (v := 0) 17 dX1_readBan_16 rfl rfl ?_
      refine r_iconst (v := 5) 18 dX1_readBan_17 rfl rfl ?_
      first | refine r_callVu [0, 1, 2, 3, 4, 5, 6, 7, 8, 9, 10] 21 dX1_readBan_18 rfl ykX1_failIf lk_X1_48 (e_failIfT hs hn 5) rfl rfl rfl rfl rfl rfl rfl ⟨Nat.le_refl _, Nat.le_refl _⟩ ?_ | refine r_callVu [0, 1, 2, 3, 4, 5, 6, 7, 8, 9, 10] 21 dX1_readBan_18 rfl ykX1_failIf lk_X1_48 (e_failIfF hs hn 5) rfl rfl rfl rfl rfl rfl rfl ⟨Nat.le_refl _, Nat.le_refl _⟩ ?_
      rw [bk_r0]
      exact go
    · have g := bnlt_of (b := 4) (by omega) (by decide) h9
      rw [decide_eq_true (by omega)] at go
      refine r_iconst (v := 1) 13 dX1_readBan_12 rfl rfl ?_
      refine r_goto 17 dX1_readBan_13 rfl ?_
      refine r_iconst (v := 5) 18 dX1_readBan_17 rfl rfl ?_
      first | refine r_callVu [0, 1, 2, 3, 4, 5, 6, 7, 8, 9, 10] 21 dX1_readBan_18 rfl ykX1_failIf lk_X1_48 (e_failIfT hs hn 5) rfl rfl rfl rfl rfl rfl rfl ⟨Nat.le_refl _, Nat.le_refl _⟩ ?_ | refine r_callVu [0, 1, 2, 3, 4, 5, 6, 7, 8, 9, 10] 21 dX1_readBan_18 rfl ykX1_failIf lk_X1_48 (e_failIfF hs hn 5) rfl rfl rfl rfl rfl rfl rfl ⟨Nat.le_refl _, Nat.le_refl _⟩ ?_
      rw [bk_r0]
      exact go
  have fin : ∀ (s4 : pS) (f g : Nat) (Q : Option Value → mm_W → Prop), Q = QR B n (tkS b n s4, (if sB A < 4 then aB A f g else A), x) l → sI n s4 → f < 6 → g < 6 → mm_r (d + 5) mX1_readBan Q 48 [some (.ref 0), some (.int (nI f)), some (.int (nI g))] [] (wRd (rR B n s4 F l)) := by
    intro s4 f g Q hQ hs4 hf hg
    subst hQ
    by_cases q : sB A < 4
    · rw [if_pos q]
      refine r_aload_n (i := 0) 49 dX1_readBan_48 rfl rfl rfl ?_
      refine r_callVu [0, 1, 2, 3, 4, 5, 6, 7, 8, 9, 10] 52 dX1_readBan_49 rfl ykX1_takeStop lk_X1_102 (e_takeStop h hs4) rfl rfl rfl rfl rfl rfl rfl ⟨Nat.le_refl _, Nat.le_refl _⟩ ?_
      rw [bk_r0]
      refine r_aload_n (i := 0) 53 dX1_readBan_52 rfl rfl rfl ?_
      refine r_getf 56 dX1_readBan_53 rfl fl_X1_21 rfl rfl ?_
      refine r_iload_n (i := 1) 57 dX1_readBan_56 rfl rfl rfl ?_
      refine r_iload_n (i := 2) 58 dX1_readBan_57 rfl rfl rfl ?_
      refine r_callVu [3, 4, 5, 6, 7, 8, 9, 10] 61 dX1_readBan_58 rfl ykX0_addBan lk_X1_126 (e_addBan hbn q _ _) rfl rfl rfl rfl rfl rfl rfl ⟨Nat.le_refl _, Nat.le_refl _⟩ ?_
      rw [bk_rf]
      exact r_retv dX1_readBan_61 rfl ⟨Nat.le_refl _, Nat.le_refl _⟩ (fun _ => rfl) (⟨rfl, _, rfl, fw_B hF.1 q hf hg, hF.2.1, hF.2.2.1, hF.2.2.2⟩)
    · rw [if_neg q]
      refine r_aload_n (i := 0) 49 dX1_readBan_48 rfl rfl rfl ?_
      refine r_callVu [0, 1, 2, 3, 4, 5, 6, 7, 8, 9, 10] 52 dX1_readBan_49 rfl ykX1_takeStop lk_X1_102 (e_takeStop h hs4) rfl rfl rfl rfl rfl rfl rfl ⟨Nat.le_refl _, Nat.le_refl _⟩ ?_
      rw [bk_r0]
      refine r_aload_n (i := 0) 53 dX1_readBan_52 rfl rfl rfl ?_
      refine r_getf 56 dX1_readBan_53 rfl fl_X1_21 rfl rfl ?_
      refine r_iload_n (i := 1) 57 dX1_readBan_56 rfl rfl rfl ?_
      refine r_iload_n (i := 2) 58 dX1_readBan_57 rfl rfl rfl ?_
      refine r_callVu [3, 4, 5, 6, 7, 8, 9, 10] 61 dX1_readBan_58 rfl ykX0_addBan lk_X1_126 (e_addBanN hbn (by omega) (by omega) _ _) rfl rfl rfl rfl rfl rfl rfl ⟨Nat.le_refl _, Nat.le_refl _⟩ ?_
      rw [bk_rf]
      exact r_retv dX1_readBan_61 rfl ⟨Nat.le_refl _, Nat.le_refl _⟩ (fun _ => rfl) (⟨rfl, _, rfl, hF⟩)
  have mid : ∀ (s3 : pS) (f g : Nat) (Q : Option Value → mm_W → Prop), Q = QR B n (tkS b n (fIf (decide (f = g)) 3 s3), (if sB A < 4 then aB A f g else A), x) l → sI n s3 → f < 6 → g < 6 → mm_r (d + 5) mX1_readBan Q 33 [some (.ref 0), some (.int (nI f)), some (.int (nI g))] [] (wRd (rR B n s3 F l)) := by
    intro s3 f g Q hQ hs3 hf hg
    have fin2 := fin (fIf (decide (f = g)) 3 s3) f g Q hQ (sI_fIf (by decide) hs3) hf hg
    refine r_aload_n (i := 0) 34 dX1_readBan_33 rfl rfl rfl ?_
    refine r_iload_n (i := 1) 35 dX1_readBan_34 rfl rfl rfl ?_
    refine r_iload_n (i := 2) 36 dX1_readBan_35 rfl rfl rfl ?_
    refine r_icmp_ne 43 39 dX1_readBan_36 rfl rfl (fun h36 => ?_) (fun h36 => ?_)
    · have g := bne_of (by omega) (by omega) h36
      rw [decide_eq_false g] at fin2
      refine r_iconst (v := 0) 44 dX1_readBan_43 rfl rfl ?_
      refine r_iconst (v := 3) 45 dX1_readBan_44 rfl rfl ?_
      first | refine r_callVu [0, 1, 2, 3, 4, 5, 6, 7, 8, 9, 10] 48 dX1_readBan_45 rfl ykX1_failIf lk_X1_48 (e_failIfT hs3 hn 3) rfl rfl rfl rfl rfl rfl rfl ⟨Nat.le_refl _, Nat.le_refl _⟩ ?_ | refine r_callVu [0, 1, 2, 3, 4, 5, 6, 7, 8, 9, 10] 48 dX1_readBan_45 rfl ykX1_failIf lk_X1_48 (e_failIfF hs3 hn 3) rfl rfl rfl rfl rfl rfl rfl ⟨Nat.le_refl _, Nat.le_refl _⟩ ?_
      rw [bk_r0]
      exact fin2
    · have g := beq_of (by omega) (by omega) h36
      rw [decide_eq_true g] at fin2
      refine r_iconst (v := 1) 40 dX1_readBan_39 rfl rfl ?_
      refine r_goto 44 dX1_readBan_40 rfl ?_
      refine r_iconst (v := 3) 45 dX1_readBan_44 rfl rfl ?_
      first | refine r_callVu [0, 1, 2, 3, 4, 5, 6, 7, 8, 9, 10] 48 dX1_readBan_45 rfl ykX1_failIf lk_X1_48 (e_failIfT hs3 hn 3) rfl rfl rfl rfl rfl rfl rfl ⟨Nat.le_refl _, Nat.le_refl _⟩ ?_ | refine r_callVu [0, 1, 2, 3, 4, 5, 6, 7, 8, 9, 10] 48 dX1_readBan_45 rfl ykX1_failIf lk_X1_48 (e_failIfF hs3 hn 3) rfl rfl rfl rfl rfl rfl rfl ⟨Nat.le_refl _, Nat.le_refl _⟩ ?_
      rw [bk_r0]
      exact fin2
  have e : c_ban b n (s, A, x) = (tkS b n (fIf (decide (tkW b n 5 (fIf (decide (4 ≤ sB A)) 5 s) = tkW b n 5 (tkN b n 5 (fIf (decide (4 ≤ sB A)) 5 s)))) 3 (tkN b n 5 (tkN b n 5 (fIf (decide (4 ≤ sB A)) 5 s)))), (if sB A < 4 then aB A (tkW b n 5 (fIf (decide (4 ≤ sB A)) 5 s)) (tkW b n 5 (tkN b n 5 (fIf (decide (4 ≤ sB A)) 5 s))) else A), x) := rfl
  rw [e]
  have mid2 := mid (tkN b n 5 (tkN b n 5 (fIf (decide (4 ≤ sB A)) 5 s))) (tkW b n 5 (fIf (decide (4 ≤ sB A)) 5 s)) (tkW b n 5 (tkN b n 5 (fIf (decide (4 ≤ sB A)) 5 s))) _ rfl hs3 (by omega) (by omega)
  refine r_aload_n (i := 0) 22 dX1_readBan_21 rfl rfl rfl ?_
  refine r_iconst (v := 5) 23 dX1_readBan_22 rfl rfl ?_
  refine r_callVu [0, 1, 2, 3, 4, 5, 6, 7, 8, 9, 10] 26 dX1_readBan_23 rfl ykX1_takeNumber lk_X1_98 (e_takeNumber h hs1 (most := 5) (by decide)) rfl rfl rfl rfl rfl rfl rfl ⟨Nat.le_refl _, Nat.le_refl _⟩ ?_
  rw [bk_r0]
  refine r_istore_n (i := 1) 27 dX1_readBan_26 rfl rfl rfl ?_
  refine r_aload_n (i := 0) 28 dX1_readBan_27 rfl rfl rfl ?_
  refine r_iconst (v := 5) 29 dX1_readBan_28 rfl rfl ?_
  refine r_callVu [0, 1, 2, 3, 4, 5, 6, 7, 8, 9, 10] 32 dX1_readBan_29 rfl ykX1_takeNumber lk_X1_98 (e_takeNumber h hs2 (most := 5) (by decide)) rfl rfl rfl rfl rfl rfl rfl ⟨Nat.le_refl _, Nat.le_refl _⟩ ?_
  rw [bk_r0]
  refine r_istore_n (i := 2) 33 dX1_readBan_32 rfl rfl rfl ?_
  exact mid2
end X1R
