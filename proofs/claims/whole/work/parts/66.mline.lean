-- LINES OF THE REFERENCE
theorem tkN_nz {b : Nat → Nat} {n m : Nat} {s : pS} (h : ¬ pF s = 0) : tkN b n m s = s := by
  have e1 : tkN1 b n s = s := by
    unfold tkN1
    rw [tkT_nz h, fIf_nz h]
  unfold tkN
  rw [e1, if_neg h]
theorem tkS_nz {b : Nat → Nat} {n : Nat} {s : pS} (h : ¬ pF s = 0) : tkS b n s = s := by
  unfold tkS
  rw [tkT_nz h, fIf_nz h]
theorem tkS_bad {b : Nat → Nat} {n : Nat} {s : pS} (h : ¬ pF (tkT b n s) = 0) : tkS b n s = tkT b n s := by
  unfold tkS
  rw [fIf_nz h]
theorem tkN_bad {b : Nat → Nat} {n m : Nat} {s : pS} (h : ¬ pF (tkT b n s) = 0) : tkN b n m s = tkT b n s := by
  have e1 : tkN1 b n s = tkT b n s := by
    unfold tkN1
    rw [fIf_nz h]
  unfold tkN
  rw [e1, if_neg h]
theorem PG_SP {r r' : mRe} {A : sA} {x H : Nat} (h : PG r A x H) (hs : SP r r') : PG r' A x H := by
  obtain ⟨a, b, c, e⟩ := hs
  obtain ⟨h1, h2, h3, h4, h5, h6⟩ := h
  exact ⟨b.trans h1, c.trans h2, e.trans h3, h4, by rw [a]; exact h5, h6⟩
theorem tkV_lt {b : Nat → Nat} {n : Nat} {s : pS} (hs : sI n s) (h : pF (tkT b n s) = 0) (hk : pK (tkT b n s) = 2) : tkV b (tkT b n s) < 100 := by
  obtain ⟨d1, d2, d3⟩ := tkT_ok h
  rw [d3] at hk ⊢
  have hk : tK b n (pP s) = 2 := hk
  show vl b (tB b n (pP s)) (tE b n (pP s) - tB b n (pP s)) < 100
  obtain ⟨g1, g2⟩ := tK_2 hs.1 hk
  have g3 := vl_le (b := b) (a := tB b n (pP s)) (tE b n (pP s) - tB b n (pP s)) (fun i h1 h2 => g2 i h1 (by omega))
  have g4 : 10 ^ (tE b n (pP s) - tB b n (pP s)) ≤ 10 ^ 2 := Nat.pow_le_pow_right (by decide) g1
  omega
theorem tkN_eqT {b : Nat → Nat} {n m : Nat} {s : pS} (h0 : pF (tkT b n s) = 0) (hk : pK (tkT b n s) = 2) (hv : tkV b (tkT b n s) ≤ m) : tkN b n m s = tkT b n s := by
  have e1 : tkN1 b n s = tkT b n s := by
    unfold tkN1
    rw [hk]
    rfl
  unfold tkN
  rw [e1, if_pos h0, decide_eq_false (by omega)]
  rfl
theorem rb_no {b : Nat → Nat} {n f : Nat} {s : pS} (h : pF (tkN b n 5 s) = 0 → ¬ f = tkW b n 5 s) : fIf (decide (f = tkW b n 5 s)) 3 (tkN b n 5 s) = tkN b n 5 s := by
  by_cases z : pF (tkN b n 5 s) = 0
  · rw [decide_eq_false (h z)]; rfl
  · exact fIf_nz z
theorem fIf_t {k : Nat} {s : pS} (h : pF s = 0) : pF (fIf true k s) = k := by
  unfold fIf
  rw [h]
  rfl
section MR
variable {d : Nat} {W : MT} {b : Nat → Nat} {n : Nat} {s : pS} {A : sA} {x H : Nat}
theorem e2_readBan (ht : tpM W b n) (hs : sI n s) (hr : RS b (tkT b n s) W.2.1) (hp : PG W.2.1 A x H) (hb4 : sB A < 4) : mm_e (d + 5) yX8_readBan mX8_readBan [.ref 0] (wM W) (rmP W b n (fIf (decide (tkW b n 5 s = tkW b n 5 (tkN b n 5 s))) 3 (tkN b n 5 (tkN b n 5 s))) (aB A (tkW b n 5 s) (tkW b n 5 (tkN b n 5 s))) x) := by
  obtain ⟨p1, p2, p3, p4, p5, p6⟩ := id hp
  have in35 : vp_in (35 : Int32) 37 := vp_in_nI (n := 35) (by decide) (by decide)
  have e35 : W.2.1.1 (35 : Int32).toNatClampNeg = nI (sB A) := p5.2.2.1
  have in1 : vp_in (nI (27 + 2 * sB A)) 37 := vp_in_nI (by omega) (by decide)
  have in2 : vp_in (nI (27 + 2 * sB A + 1)) 37 := vp_in_nI (by omega) (by decide)
  have tl := tkW_le (b := b) (n := n) (most := 5) s
  have tl2 := tkW_le (b := b) (n := n) (most := 5) (tkN b n 5 s)
  have s2 := sI_tkN (b := b) (most := 5) hs
  have et := e2_thingHere (d := d) (som := 0) ht hs hr (by decide) p3 p4
  rw [nW_0, nV_0] at et
  refine e_of [some (.ref 0), none, none] rfl (by decide) rfl rfl rfl ?_
  refine r_bipush (v := 27) 2 dX8_readBan_0 rfl rfl ?_
  refine r_iconst (v := 2) 3 dX8_readBan_2 rfl rfl ?_
  refine r_aload_n (i := 0) 4 dX8_readBan_3 rfl rfl rfl ?_
  refine r_getf 7 dX8_readBan_4 rfl fl_X8_13 rfl rfl ?_
  refine r_bipush (v := 35) 9 dX8_readBan_7 rfl rfl ?_
  refine r_iald 10 dX8_readBan_9 rfl rfl (by assumption) ?_
  rw [e35]
  refine r_imul 11 dX8_readBan_10 rfl ?_
  refine r_iadd 12 dX8_readBan_11 rfl ?_
  rw [c27]
  refine r_istore_n (i := 1) 13 dX8_readBan_12 rfl rfl rfl ?_
  refine r_aload_n (i := 0) 14 dX8_readBan_13 rfl rfl rfl ?_
  refine r_iconst (v := 0) 15 dX8_readBan_14 rfl rfl ?_
  refine r_callMq 18 dX8_readBan_15 rfl ykX8_thingHere lk_X8_98 (et) rfl rfl rfl rfl rfl rfl ⟨Nat.le_refl _, Nat.le_refl _⟩ (fun v u hq => by obtain ⟨-, r, rfl, -⟩ := hq; rfl) (fun v u hq => ?_)
  obtain ⟨rfl, ⟨q1, q2, q3, q4, q5⟩, rfl, g1, e1, e2, e3, e4⟩ := hq
  refine r_istore_n (i := 2) 19 dX8_readBan_18 rfl rfl rfl ?_
  skip
  have e1 : q1 = W.2.1.1 := e1
  have e2 : q2 = W.2.1.2.1 := e2
  have e3 : q3 = W.2.1.2.2.1 := e3
  have e4 : q4 = rv (max H (tkW b n 5 s + 1)) := e4
  subst e1 e2 e3 e4
  show mm_r (d + 5) mX8_readBan _ 19 [some (.ref 0), some (.int (nI (27 + 2 * sB A))), some (.int (nI (tkW b n 5 s)))] [] (wM (zRe W (W.2.1.1, W.2.1.2.1, W.2.1.2.2.1, rv (max H (tkW b n 5 s + 1)), q5)))
  have k47 : ∀ (sX : pS) (z5 : Int32 × Int32 × Int32 × Int32 × Int32 × Int32), sI n sX → RS b (tkT b n sX) (W.2.1.1, W.2.1.2.1, W.2.1.2.2.1, rv (max H (tkW b n 5 s + 1)), z5) → fIf (decide (tkW b n 5 s = tkW b n 5 (tkN b n 5 s))) 3 (tkN b n 5 (tkN b n 5 s)) = tkN b n 5 sX → (pF (tkN b n 5 sX) = 0 → tkW b n 5 sX = tkW b n 5 (tkN b n 5 s)) → mm_r (d + 5) mX8_readBan (rmP W b n (fIf (decide (tkW b n 5 s = tkW b n 5 (tkN b n 5 s))) 3 (tkN b n 5 (tkN b n 5 s))) (aB A (tkW b n 5 s) (tkW b n 5 (tkN b n 5 s))) x) 47 [some (.ref 0), some (.int (nI (27 + 2 * sB A))), some (.int (nI (tkW b n 5 s)))] [] (wM (zRe W (W.2.1.1, W.2.1.2.1, W.2.1.2.2.1, rv (max H (tkW b n 5 s + 1)), z5))) := by
    intro sX z5 hsX hrX eS eW
    have tlX := tkW_le (b := b) (n := n) (most := 5) sX
    rw [eS]
    refine r_aload_n (i := 0) 48 dX8_readBan_47 rfl rfl rfl ?_
    refine r_getf 51 dX8_readBan_48 rfl fl_X8_13 rfl rfl ?_
    refine r_iload_n (i := 1) 52 dX8_readBan_51 rfl rfl rfl ?_
    refine r_iload_n (i := 2) 53 dX8_readBan_52 rfl rfl rfl ?_
    refine r_iast 54 dX8_readBan_53 rfl rfl (by assumption) ?_
    skip
    rw [nI_clamp (n := 27 + 2 * sB A) (by omega)]
    show mm_r (d + 5) mX8_readBan _ 54 [some (.ref 0), some (.int (nI (27 + 2 * sB A))), some (.int (nI (tkW b n 5 s)))] [] (wM (zRe W (upd W.2.1.1 (27 + 2 * sB A) (nI (tkW b n 5 s)), W.2.1.2.1, W.2.1.2.2.1, rv (max H (tkW b n 5 s + 1)), z5)))
    have et2 := e2_thingHere (d := d) (W := zRe W (upd W.2.1.1 (27 + 2 * sB A) (nI (tkW b n 5 s)), W.2.1.2.1, W.2.1.2.2.1, rv (max H (tkW b n 5 s + 1)), z5)) (som := 0) (H := max H (tkW b n 5 s + 1)) (s := sX) ht hsX hrX (by decide) rfl (by omega)
    rw [nW_0, nV_0] at et2
    refine r_aload_n (i := 0) 55 dX8_readBan_54 rfl rfl rfl ?_
    refine r_getf 58 dX8_readBan_55 rfl fl_X8_13 rfl rfl ?_
    refine r_iload_n (i := 1) 59 dX8_readBan_58 rfl rfl rfl ?_
    refine r_iconst (v := 1) 60 dX8_readBan_59 rfl rfl ?_
    refine r_iadd 61 dX8_readBan_60 rfl ?_
    rw [nI_1]
    refine r_aload_n (i := 0) 62 dX8_readBan_61 rfl rfl rfl ?_
    refine r_iconst (v := 0) 63 dX8_readBan_62 rfl rfl ?_
    refine r_callMq 66 dX8_readBan_63 rfl ykX8_thingHere lk_X8_98 (et2) rfl rfl rfl rfl rfl rfl ⟨Nat.le_refl _, Nat.le_refl _⟩ (fun v u hq => by obtain ⟨-, r, rfl, -⟩ := hq; rfl) (fun v u hq => ?_)
    obtain ⟨rfl, ⟨w1, w2, w3, w4, w5⟩, rfl, g2, f1, f2, f3, f4⟩ := hq
    refine r_iast 67 dX8_readBan_66 rfl rfl (by assumption) ?_
    skip
    have f1 : w1 = upd W.2.1.1 (27 + 2 * sB A) (nI (tkW b n 5 s)) := f1
    have f2 : w2 = W.2.1.2.1 := f2
    have f3 : w3 = W.2.1.2.2.1 := f3
    have f4 : w4 = rv (max (max H (tkW b n 5 s + 1)) (tkW b n 5 sX + 1)) := f4
    subst f1 f2 f3 f4
    rw [nI_clamp (n := 27 + 2 * sB A + 1) (by omega)]
    show mm_r (d + 5) mX8_readBan _ 67 [some (.ref 0), some (.int (nI (27 + 2 * sB A))), some (.int (nI (tkW b n 5 s)))] [] (wM (zRe W (upd (upd W.2.1.1 (27 + 2 * sB A) (nI (tkW b n 5 s))) (27 + 2 * sB A + 1) (nI (tkW b n 5 sX)), W.2.1.2.1, W.2.1.2.2.1, rv (max (max H (tkW b n 5 s + 1)) (tkW b n 5 sX + 1)), w5)))
    have ee : (zRe W (upd (upd W.2.1.1 (27 + 2 * sB A) (nI (tkW b n 5 s))) (27 + 2 * sB A + 1) (nI (tkW b n 5 sX)), W.2.1.2.1, W.2.1.2.2.1, rv (max (max H (tkW b n 5 s + 1)) (tkW b n 5 sX + 1)), w5)).2.1.1 (35 : Int32).toNatClampNeg = nI (sB A) := by
      show upd (upd W.2.1.1 (27 + 2 * sB A) (nI (tkW b n 5 s))) (27 + 2 * sB A + 1) (nI (tkW b n 5 sX)) 35 = nI (sB A)
      rw [u_ne (by omega), u_ne (by omega)]
      exact e35
    refine r_aload_n (i := 0) 68 dX8_readBan_67 rfl rfl rfl ?_
    refine r_getf 71 dX8_readBan_68 rfl fl_X8_13 rfl rfl ?_
    refine r_bipush (v := 35) 73 dX8_readBan_71 rfl rfl ?_
    refine r_dup2 74 dX8_readBan_73 rfl rfl rfl ?_
    refine r_iald 75 dX8_readBan_74 rfl rfl (by assumption) ?_
    rw [ee]
    refine r_iconst (v := 1) 76 dX8_readBan_75 rfl rfl ?_
    refine r_iadd 77 dX8_readBan_76 rfl ?_
    rw [nI_1]
    refine r_iast 78 dX8_readBan_77 rfl rfl (by assumption) ?_
    exact r_retv dX8_readBan_78 rfl ⟨Nat.le_refl _, Nat.le_refl _⟩ (fun _ => rfl) (⟨rfl, (upd (upd (upd W.2.1.1 (27 + 2 * sB A) (nI (tkW b n 5 s))) (27 + 2 * sB A + 1) (nI (tkW b n 5 sX))) 35 (nI (sB A + 1)), W.2.1.2.1, W.2.1.2.2.1, rv (max (max H (tkW b n 5 s + 1)) (tkW b n 5 sX + 1)), w5), rfl, g2, fun z => (by rw [← eW z]; exact ⟨_, p1, p2, rfl, by omega, pgR_B p5 hb4, hHi_B p6⟩)⟩)
  have T6 := (sI_tkT (b := b) s2).2.2.2.1
  by_cases z : pF (tkT b n (tkN b n 5 s)) = 0
  · obtain ⟨z1, z2⟩ := tkT_K z
    obtain ⟨d1, d2, d3⟩ := tkT_ok z
    have b0 : rB (W.2.1.1, W.2.1.2.1, W.2.1.2.2.1, rv (max H (tkW b n 5 s + 1)), q5) = 0 := by rw [g1.1, z]; rfl
    obtain ⟨c1, c2, c3, c4⟩ := g1.2.2 z
    by_cases y : pK (tkT b n (tkN b n 5 s)) = 2
    · have b2 : rK (W.2.1.1, W.2.1.2.1, W.2.1.2.2.1, rv (max H (tkW b n 5 s + 1)), q5) = 2 := by rw [c3, y]; rfl
      rw [if_pos y] at c4
      have vlt := tkV_lt s2 z y
      have dK : tK b n (pP (tkN b n 5 s)) = 2 := by rw [d3] at y; exact y
      have dV : tkV b (tkT b n (tkN b n 5 s)) = tVl b n (pP (tkN b n 5 s)) := by rw [d3]; rfl
      by_cases v : tkV b (tkT b n (tkN b n 5 s)) = tkW b n 5 s
      · have e2 : tkN b n 5 (tkN b n 5 s) = tkT b n (tkN b n 5 s) := tkN_eqT z y (by rw [v]; exact tl)
        have e3 : tkW b n 5 (tkN b n 5 s) = tkW b n 5 s := by
          have := (tkN_ok (b := b) (n := n) (most := 5) (s := tkN b n 5 s) (by rw [e2]; exact z)).2.2.2.2
          rw [this, ← dV, v]
        have e4 : ¬ pF (fIf true 3 (tkT b n (tkN b n 5 s))) = 0 := by rw [fIf_t z]; decide
        refine r_aload_n (i := 0) 20 dX8_readBan_19 rfl rfl rfl ?_
        refine r_getf 23 dX8_readBan_20 rfl fl_X8_54 rfl rfl ?_
        refine r_if_ne 47 26 dX8_readBan_23 rfl rfl (fun h23 => absurd b0 h23) (fun h23 => ?_)
        refine r_aload_n (i := 0) 27 dX8_readBan_26 rfl rfl rfl ?_
        refine r_getf 30 dX8_readBan_27 rfl fl_X8_63 rfl rfl ?_
        refine r_iconst (v := 2) 31 dX8_readBan_30 rfl rfl ?_
        refine r_icmp_ne 47 34 dX8_readBan_31 rfl rfl (fun h31 => absurd b2 h31) (fun h31 => ?_)
        refine r_aload_n (i := 0) 35 dX8_readBan_34 rfl rfl rfl ?_
        refine r_getf 38 dX8_readBan_35 rfl fl_X8_73 rfl rfl ?_
        refine r_iload_n (i := 2) 39 dX8_readBan_38 rfl rfl rfl ?_
        refine r_icmp_ne 47 42 dX8_readBan_39 rfl rfl (fun h39 => absurd (by rw [show (zRe W (W.2.1.1, W.2.1.2.1, W.2.1.2.2.1, rv (max H (tkW b n 5 s + 1)), q5)).2.1.2.2.2.2.2.2.2.2.2 = _ from c4, v]) h39) (fun h39 => ?_)
        refine r_aload_n (i := 0) 43 dX8_readBan_42 rfl rfl rfl ?_
        refine r_iconst (v := 3) 44 dX8_readBan_43 rfl rfl ?_
        refine r_callMu 47 dX8_readBan_44 rfl ykX8_fails lk_X8_84 (e2_fails0 (W := zRe W (W.2.1.1, W.2.1.2.1, W.2.1.2.2.1, rv (max H (tkW b n 5 s + 1)), q5)) b0 3) rfl rfl rfl rfl rfl rfl ⟨Nat.le_refl _, Nat.le_refl _⟩ ?_
        exact k47 (fIf true 3 (tkT b n (tkN b n 5 s))) _ (sI_fIf (by decide) (sI_tkT s2)) (by rw [tkT_nz e4]; exact RS_fail g1 z (by decide)) (by rw [e3, decide_eq_true rfl, e2, tkN_nz e4]) (fun w => absurd (by rw [tkN_nz e4] at w; exact w) e4)
      · refine r_aload_n (i := 0) 20 dX8_readBan_19 rfl rfl rfl ?_
        refine r_getf 23 dX8_readBan_20 rfl fl_X8_54 rfl rfl ?_
        refine r_if_ne 47 26 dX8_readBan_23 rfl rfl (fun h23 => absurd b0 h23) (fun h23 => ?_)
        refine r_aload_n (i := 0) 27 dX8_readBan_26 rfl rfl rfl ?_
        refine r_getf 30 dX8_readBan_27 rfl fl_X8_63 rfl rfl ?_
        refine r_iconst (v := 2) 31 dX8_readBan_30 rfl rfl ?_
        refine r_icmp_ne 47 34 dX8_readBan_31 rfl rfl (fun h31 => absurd b2 h31) (fun h31 => ?_)
        refine r_aload_n (i := 0) 35 dX8_readBan_34 rfl rfl rfl ?_
        refine r_getf 38 dX8_readBan_35 rfl fl_X8_73 rfl rfl ?_
        refine r_iload_n (i := 2) 39 dX8_readBan_38 rfl rfl rfl ?_
        refine r_icmp_ne 47 42 dX8_readBan_39 rfl rfl (fun h39 => ?_) (fun h39 => absurd (beq_of (by omega) (by omega) (show nI (tkV b (tkT b n (tkN b n 5 s))) = nI (tkW b n 5 s) from c4 ▸ h39)) v)
        exact k47 (tkN b n 5 s) q5 s2 g1 (rb_no (fun z w => v (by rw [dV, ← (tkN_ok z).2.2.2.2, ← w]))) (fun _ => rfl)
    · have b2 : ¬ rK (W.2.1.1, W.2.1.2.1, W.2.1.2.2.1, rv (max H (tkW b n 5 s + 1)), q5) = 2 := by
        rw [c3, mtk]
        intro w
        have := beq_of (b := 2) (by split <;> omega) (by decide) w
        split at this <;> omega
      refine r_aload_n (i := 0) 20 dX8_readBan_19 rfl rfl rfl ?_
      refine r_getf 23 dX8_readBan_20 rfl fl_X8_54 rfl rfl ?_
      refine r_if_ne 47 26 dX8_readBan_23 rfl rfl (fun h23 => absurd b0 h23) (fun h23 => ?_)
      refine r_aload_n (i := 0) 27 dX8_readBan_26 rfl rfl rfl ?_
      refine r_getf 30 dX8_readBan_27 rfl fl_X8_63 rfl rfl ?_
      refine r_iconst (v := 2) 31 dX8_readBan_30 rfl rfl ?_
      refine r_icmp_ne 47 34 dX8_readBan_31 rfl rfl (fun h31 => ?_) (fun h31 => absurd h31 b2)
      exact k47 (tkN b n 5 s) q5 s2 g1 (rb_no (fun z _ => y (by rw [d3]; exact (tkN_ok z).2.1))) (fun _ => rfl)
  · have b0 : ¬ rB (W.2.1.1, W.2.1.2.1, W.2.1.2.2.1, rv (max H (tkW b n 5 s + 1)), q5) = 0 := by rw [g1.1]; exact nI_ne0 (by omega) (by omega)
    refine r_aload_n (i := 0) 20 dX8_readBan_19 rfl rfl rfl ?_
    refine r_getf 23 dX8_readBan_20 rfl fl_X8_54 rfl rfl ?_
    refine r_if_ne 47 26 dX8_readBan_23 rfl rfl (fun h23 => ?_) (fun h23 => absurd h23 b0)
    exact k47 (tkN b n 5 s) q5 s2 g1 (fIf_nz (by rw [tkN_bad z]; exact z)) (fun _ => rfl)
theorem e2_rmB (ht : tpM W b n) (hs : sI n s) (hr : RS b (tkT b n s) W.2.1) (hp : PG W.2.1 A x H) (hb4 : sB A < 4) : mm_e (d + 6) yX8_readMore mX8_readMore [.ref 0, .int (nI 7)] (wM W) (rmP W b n (fIf (decide (tkW b n 5 s = tkW b n 5 (tkN b n 5 s))) 3 (tkN b n 5 (tkN b n 5 s))) (aB A (tkW b n 5 s) (tkW b n 5 (tkN b n 5 s))) x) := by
  refine e_of [some (.ref 0), some (.int (nI 7)), none] rfl (by decide) rfl rfl rfl ?_
  refine r_iload_n (i := 1) 1 dX8_readMore_0 rfl rfl rfl ?_
  refine r_iconst (v := 4) 2 dX8_readMore_1 rfl rfl ?_
  refine r_icmp_gt 80 5 dX8_readMore_2 rfl rfl (fun h2 => ?_) (fun h2 => absurd (show (4 : Int32) < nI 7 from by decide) h2)
  refine r_iload_n (i := 1) 81 dX8_readMore_80 rfl rfl rfl ?_
  refine r_iconst (v := 5) 82 dX8_readMore_81 rfl rfl ?_
  refine r_icmp_ne 111 85 dX8_readMore_82 rfl rfl (fun h82 => ?_) (fun h82 => absurd h82 (by decide))
  refine r_iload_n (i := 1) 112 dX8_readMore_111 rfl rfl rfl ?_
  refine r_bipush (v := 6) 114 dX8_readMore_112 rfl rfl ?_
  refine r_icmp_ne 167 117 dX8_readMore_114 rfl rfl (fun h114 => ?_) (fun h114 => absurd h114 (by decide))
  refine r_aload_n (i := 0) 168 dX8_readMore_167 rfl rfl rfl ?_
  refine r_callMq 171 dX8_readMore_168 rfl ykX8_readBan lk_X8_107 (e2_readBan ht hs hr hp hb4) rfl rfl rfl rfl rfl rfl ⟨Nat.le_refl _, Nat.le_refl _⟩ (fun v u hq => by obtain ⟨-, r, rfl, -⟩ := hq; rfl) (fun v u hq => ?_)
  have hq0 := hq
  obtain ⟨rfl, r, rfl, g1, g2⟩ := hq
  exact r_retv dX8_readMore_171 rfl ⟨Nat.le_refl _, Nat.le_refl _⟩ (fun _ => rfl) (hq0)
theorem body_8 {s : pS} (h : tw b s = 8) : c_body b n (s, A, x) = (fIf true 2 s, A, x) := by
  unfold c_body
  rw [show tw b (s, A, x).1 = 8 from h, if_pos rfl]
theorem body_5 {s : pS} (h : tw b s = 5) : c_body b n (s, A, x) = c_so b n (s, A, x) := by
  unfold c_body
  rw [show tw b (s, A, x).1 = 5 from h, if_neg (by decide), if_pos rfl]
theorem body_6 {s : pS} (h : tw b s = 6) : c_body b n (s, A, x) = c_guest b n (s, A, x) := by
  unfold c_body
  rw [show tw b (s, A, x).1 = 6 from h, if_neg (by decide), if_neg (by decide), if_pos rfl]
theorem body_7 {s : pS} (h : tw b s = 7) : c_body b n (s, A, x) = c_ban b n (s, A, x) := by
  unfold c_body
  rw [show tw b (s, A, x).1 = 7 from h, if_neg (by decide), if_neg (by decide), if_neg (by decide), if_pos rfl]
theorem body_k {s : pS} {k : Nat} (hk : k ≤ 4) (h : tw b s = k) : c_body b n (s, A, x) = c_thing b n k (s, A, x) := by
  unfold c_body
  rw [show tw b (s, A, x).1 = k from h, if_neg (by omega), if_neg (by omega), if_neg (by omega), if_neg (by omega)]
theorem thing_nz {s : pS} (nz : ¬ pF s = 0) {j : Nat} (hj : j ≤ 4) : (c_thing1 b n j s A x).1 = s := by
  rcases (by omega : j = 0 ∨ (j = 1 ∨ j = 2) ∨ (j = 3 ∨ j = 4)) with rfl | q | q
  · rw [c_thing_0, pz1]; exact tkS_nz nz
  · rw [c_thing_1 b n q, pz1, tkN_nz nz]; exact tkS_nz nz
  · rw [c_thing_3 b n q, pz1, tkN_nz nz, tkN_nz nz]; exact tkS_nz nz
set_option maxHeartbeats 4000000 in
theorem e2_readLine (ht : tpM W b n) (hs : sI n s) (h0 : pF s = 0) (ha : pT s ≤ pP s) (hr : RS b s W.2.1) (hp : PG W.2.1 A x H) : mm_e (d + 7) yX8_readLine mX8_readLine [.ref 0] (wM W) (rmP W b n (c_body b n (s, A, x)).1 (c_body b n (s, A, x)).2.1 (c_body b n (s, A, x)).2.2) := by
  obtain ⟨p1, p2, p3, p4, p5, p6⟩ := id hp
  obtain ⟨b6, b4, b4', x64⟩ := p5.2.2.2.2.2
  have r0 : rB W.2.1 = 0 := by rw [hr.1, h0]; rfl
  have w8 := tw_le b s
  have in35 : vp_in (35 : Int32) 37 := vp_in_nI (n := 35) (by decide) (by decide)
  have e35 : W.2.1.1 (35 : Int32).toNatClampNeg = nI (sB A) := p5.2.2.1
  refine e_of [some (.ref 0), none] rfl (by decide) rfl rfl rfl ?_
  have tail : ∀ (j : Int32) (s' : pS) (A' : sA) (x' : Nat) (r : mRe), sI n s' → RS b (tkT b n s') r → (pF s' = 0 → ∃ H, PG r A' x' H) → mm_r (d + 7) mX8_readLine (rmP W b n (tkS b n s') A' x') 90 [some (.ref 0), some (.int j)] [] (wM (zRe W r)) := by
    intro j s' A' x' r i1 i2 i3
    have iT := sI_tkT (b := b) i1
    have f6 := iT.2.2.2.1
    by_cases z : pF (tkT b n s') = 0
    · obtain ⟨z1, z2⟩ := tkT_K z
      have b0 : rB r = 0 := by rw [i2.1, z]; rfl
      have bk := (i2.2.2 z).2.2.1
      by_cases y : pK (tkT b n s') = 3
      · have eS : tkS b n s' = tkT b n s' := by unfold tkS; rw [y]; rfl
        have b3 : rK r = 3 := by rw [bk, y]; rfl
        have sz : pF s' = 0 := (tkT_ok z).1
        obtain ⟨H2, pg⟩ := i3 sz
        rw [eS]
        refine r_aload_n (i := 0) 91 dX8_readLine_90 rfl rfl rfl ?_
        refine r_getf 94 dX8_readLine_91 rfl fl_X8_54 rfl rfl ?_
        refine r_if_ne 110 97 dX8_readLine_94 rfl rfl (fun h94 => absurd b0 h94) (fun h94 => ?_)
        refine r_aload_n (i := 0) 98 dX8_readLine_97 rfl rfl rfl ?_
        refine r_getf 101 dX8_readLine_98 rfl fl_X8_63 rfl rfl ?_
        refine r_iconst (v := 3) 102 dX8_readLine_101 rfl rfl ?_
        refine r_icmp_eq 110 105 dX8_readLine_102 rfl rfl (fun h102 => ?_) (fun h102 => absurd b3 h102)
        refine r_aload_n (i := 0) 111 dX8_readLine_110 rfl rfl rfl ?_
        refine r_callMq 114 dX8_readLine_111 rfl ykX8_step lk_X8_88 (e2_step (W := zRe W r) ht iT i2) rfl rfl rfl rfl rfl rfl ⟨Nat.le_refl _, Nat.le_refl _⟩ (fun v u hq => by obtain ⟨-, r, rfl, -⟩ := hq; rfl) (fun v u hq => ?_)
        obtain ⟨rfl, r2, rfl, g1, g2⟩ := hq
        exact r_retv dX8_readLine_114 rfl ⟨Nat.le_refl _, Nat.le_refl _⟩ (fun _ => rfl) (⟨rfl, r2, rfl, g1, fun _ => ⟨H2, PG_SP pg g2⟩⟩)
      · have eS : tkS b n s' = fIf true 2 (tkT b n s') := by unfold tkS; rw [decide_eq_true y]
        have b3 : ¬ rK r = 3 := by
          rw [bk, mtk]
          intro w
          have := beq_of (b := 3) (by split <;> omega) (by decide) w
          split at this <;> omega
        have nz : ¬ pF (fIf true 2 (tkT b n s')) = 0 := by rw [fIf_t z]; decide
        rw [eS]
        refine r_aload_n (i := 0) 91 dX8_readLine_90 rfl rfl rfl ?_
        refine r_getf 94 dX8_readLine_91 rfl fl_X8_54 rfl rfl ?_
        refine r_if_ne 110 97 dX8_readLine_94 rfl rfl (fun h94 => absurd b0 h94) (fun h94 => ?_)
        refine r_aload_n (i := 0) 98 dX8_readLine_97 rfl rfl rfl ?_
        refine r_getf 101 dX8_readLine_98 rfl fl_X8_63 rfl rfl ?_
        refine r_iconst (v := 3) 102 dX8_readLine_101 rfl rfl ?_
        refine r_icmp_eq 110 105 dX8_readLine_102 rfl rfl (fun h102 => absurd h102 b3) (fun h102 => ?_)
        refine r_aload_n (i := 0) 106 dX8_readLine_105 rfl rfl rfl ?_
        refine r_iconst (v := 2) 107 dX8_readLine_106 rfl rfl ?_
        refine r_callMu 110 dX8_readLine_107 rfl ykX8_fails lk_X8_84 (e2_fails0 (W := zRe W r) b0 2) rfl rfl rfl rfl rfl rfl ⟨Nat.le_refl _, Nat.le_refl _⟩ ?_
        refine r_aload_n (i := 0) 111 dX8_readLine_110 rfl rfl rfl ?_
        refine r_callMq 114 dX8_readLine_111 rfl ykX8_step lk_X8_88 (e2_step (W := zRe W (rF r 2 (rH r))) ht (sI_fIf (c := true) (k := 2) (by decide) iT) (RS_fail i2 z (by decide))) rfl rfl rfl rfl rfl rfl ⟨Nat.le_refl _, Nat.le_refl _⟩ (fun v u hq => by obtain ⟨-, r, rfl, -⟩ := hq; rfl) (fun v u hq => ?_)
        obtain ⟨rfl, r2, rfl, g1, g2⟩ := hq
        exact r_retv dX8_readLine_114 rfl ⟨Nat.le_refl _, Nat.le_refl _⟩ (fun _ => rfl) (⟨rfl, r2, rfl, g1, fun w => absurd w nz⟩)
    · have b0 : ¬ rB r = 0 := by rw [i2.1]; exact nI_ne0 (by omega) (by omega)
      have eS : tkS b n s' = tkT b n s' := tkS_bad z
      rw [eS]
      refine r_aload_n (i := 0) 91 dX8_readLine_90 rfl rfl rfl ?_
      refine r_getf 94 dX8_readLine_91 rfl fl_X8_54 rfl rfl ?_
      refine r_if_ne 110 97 dX8_readLine_94 rfl rfl (fun h94 => ?_) (fun h94 => absurd h94 b0)
      refine r_aload_n (i := 0) 111 dX8_readLine_110 rfl rfl rfl ?_
      refine r_callMq 114 dX8_readLine_111 rfl ykX8_step lk_X8_88 (e2_step (W := zRe W r) ht iT i2) rfl rfl rfl rfl rfl rfl ⟨Nat.le_refl _, Nat.le_refl _⟩ (fun v u hq => by obtain ⟨-, r, rfl, -⟩ := hq; rfl) (fun v u hq => ?_)
      obtain ⟨rfl, r2, rfl, g1, g2⟩ := hq
      exact r_retv dX8_readLine_114 rfl ⟨Nat.le_refl _, Nat.le_refl _⟩ (fun _ => rfl) (⟨rfl, r2, rfl, g1, fun w => absurd w z⟩)
  have go : ∀ (j : Nat) (s' : pS) (A' : sA) (x' : Nat), sI n s' → (¬ pF (tkT b n s) = 0 → tkS b n s' = tkT b n s) → (∀ r1, RS b (tkT b n s) r1 → PG r1 A x H → mm_e (d + 6) yX8_readMore mX8_readMore [.ref 0, .int (nI j)] (wM (zRe W r1)) (rmP (zRe W r1) b n s' A' x')) → mm_r (d + 7) mX8_readLine (rmP W b n (tkS b n s') A' x') 73 [some (.ref 0), some (.int (nI j))] [] (wM W) := by
    intro j s' A' x' i1 i2 i3
    have iT := sI_tkT (b := b) hs
    have f6 := iT.2.2.2.1
    refine r_aload_n (i := 0) 74 dX8_readLine_73 rfl rfl rfl ?_
    refine r_callMq 77 dX8_readLine_74 rfl ykX8_step lk_X8_88 (e2_step ht hs hr) rfl rfl rfl rfl rfl rfl ⟨Nat.le_refl _, Nat.le_refl _⟩ (fun v u hq => by obtain ⟨-, r, rfl, -⟩ := hq; rfl) (fun v u hq => ?_)
    obtain ⟨rfl, r2, rfl, g1, g2⟩ := hq
    skip
    by_cases z : pF (tkT b n s) = 0
    · have le0 : rB r2 ≤ 0 := by rw [g1.1, z]; decide
      refine r_aload_n (i := 0) 78 dX8_readLine_77 rfl rfl rfl ?_
      refine r_getf 81 dX8_readLine_78 rfl fl_X8_54 rfl rfl ?_
      refine r_if_le 85 84 dX8_readLine_81 rfl rfl (fun h81 => ?_) (fun h81 => absurd le0 h81)
      refine r_aload_n (i := 0) 86 dX8_readLine_85 rfl rfl rfl ?_
      refine r_iload_n (i := 1) 87 dX8_readLine_86 rfl rfl rfl ?_
      refine r_callMq 90 dX8_readLine_87 rfl ykX8_readMore lk_X8_116 (i3 r2 g1 (PG_SP hp g2)) rfl rfl rfl rfl rfl rfl ⟨Nat.le_refl _, Nat.le_refl _⟩ (fun v u hq => by obtain ⟨-, r, rfl, -⟩ := hq; rfl) (fun v u hq => ?_)
      obtain ⟨rfl, r3, rfl, g3, g4⟩ := hq
      exact tail _ s' A' x' r3 i1 g3 g4
    · have gt0 : ¬ rB r2 ≤ 0 := by rw [g1.1]; exact nI_nle (by omega) (by omega)
      rw [i2 z]
      refine r_aload_n (i := 0) 78 dX8_readLine_77 rfl rfl rfl ?_
      refine r_getf 81 dX8_readLine_78 rfl fl_X8_54 rfl rfl ?_
      refine r_if_le 85 84 dX8_readLine_81 rfl rfl (fun h81 => absurd h81 gt0) (fun h81 => ?_)
      exact r_retv dX8_readLine_84 rfl ⟨Nat.le_refl _, Nat.le_refl _⟩ (fun _ => rfl) (⟨rfl, r2, rfl, by rw [tkT_nz z]; exact g1, fun w => absurd w z⟩)
  have many : ∀ (j : Int32) (A' : sA) (x' : Nat), mm_r (d + 7) mX8_readLine (rmP W b n (fIf true 5 s) A' x') 68 [some (.ref 0), some (.int j)] [] (wM W) := by
    intro j A' x'
    have nz : ¬ pF (fIf true 5 s) = 0 := by rw [fIf_t h0]; decide
    refine r_aload_n (i := 0) 69 dX8_readLine_68 rfl rfl rfl ?_
    refine r_iconst (v := 5) 70 dX8_readLine_69 rfl rfl ?_
    refine r_callMu 73 dX8_readLine_70 rfl ykX8_fails lk_X8_84 (e2_fails0 r0 5) rfl rfl rfl rfl rfl rfl ⟨Nat.le_refl _, Nat.le_refl _⟩ ?_
    refine r_aload_n (i := 0) 74 dX8_readLine_73 rfl rfl rfl ?_
    refine r_callMq 77 dX8_readLine_74 rfl ykX8_step lk_X8_88 (e2_step (W := zRe W (rF W.2.1 5 (rH W.2.1))) ht (sI_fIf (c := true) (k := 5) (by decide) hs) (RS_fail hr h0 (by decide))) rfl rfl rfl rfl rfl rfl ⟨Nat.le_refl _, Nat.le_refl _⟩ (fun v u hq => by obtain ⟨-, r, rfl, -⟩ := hq; rfl) (fun v u hq => ?_)
    obtain ⟨rfl, r2, rfl, g1, g2⟩ := hq
    skip
    have gt0 : ¬ rB r2 ≤ 0 := by rw [g1.1, tkT_nz nz, fIf_t h0]; decide
    refine r_aload_n (i := 0) 78 dX8_readLine_77 rfl rfl rfl ?_
    refine r_getf 81 dX8_readLine_78 rfl fl_X8_54 rfl rfl ?_
    refine r_if_le 85 84 dX8_readLine_81 rfl rfl (fun h81 => absurd h81 gt0) (fun h81 => ?_)
    exact r_retv dX8_readLine_84 rfl ⟨Nat.le_refl _, Nat.le_refl _⟩ (fun _ => rfl) (⟨rfl, r2, rfl, g1, fun w => absurd w nz⟩)
  by_cases q8 : tw b s = 8
  · rw [body_8 q8]
    dsimp only
    have nz : ¬ pF (fIf true 2 s) = 0 := by rw [fIf_t h0]; decide
    refine r_aload_n (i := 0) 1 dX8_readLine_0 rfl rfl rfl ?_
    refine r_callMi 4 dX8_readLine_1 rfl ykX8_nameHere lk_X8_110 (e2_nameHere ht hs ha hr h0) rfl rfl rfl rfl rfl rfl ⟨Nat.le_refl _, Nat.le_refl _⟩ ?_
    rw [q8]
    refine r_istore_n (i := 1) 5 dX8_readLine_4 rfl rfl rfl ?_
    refine r_iload_n (i := 1) 6 dX8_readLine_5 rfl rfl rfl ?_
    refine r_i2l 7 dX8_readLine_6 rfl ?_
    refine r_lconst (v := 0) 8 dX8_readLine_7 rfl rfl ?_
    refine r_ldc2 11 dX8_readLine_8 rfl k_X8_114 ?_
    refine r_callSi [] 14 dX8_readLine_11 rfl ykX8_in lk_X8_46 (e_in0 (wm 8) (n := 8) (by decide) (by decide)) rfl rfl rfl ⟨Nat.le_refl _, Nat.le_refl _⟩ ?_
    rw [show inb (nI 8) (wm 8) = false from rfl]
    refine r_if_ne 23 17 dX8_readLine_14 rfl rfl (fun h14 => absurd rfl h14) (fun h14 => ?_)
    refine r_aload_n (i := 0) 18 dX8_readLine_17 rfl rfl rfl ?_
    refine r_iconst (v := 2) 19 dX8_readLine_18 rfl rfl ?_
    refine r_callMu 22 dX8_readLine_19 rfl ykX8_fails lk_X8_84 (e2_fails0 r0 2) rfl rfl rfl rfl rfl rfl ⟨Nat.le_refl _, Nat.le_refl _⟩ ?_
    exact r_retv dX8_readLine_22 rfl ⟨Nat.le_refl _, Nat.le_refl _⟩ (fun _ => rfl) (⟨rfl, _, rfl, by rw [tkT_nz nz]; exact RS_fail hr h0 (by decide), fun w => absurd w nz⟩)
  · generalize hj : tw b s = j at *
    have ej : wm j = nI j := by rw [wm, if_neg q8]
    have ib : inb (nI 8) (nI j) = true := nI_inb (by omega) (by decide)
    refine r_aload_n (i := 0) 1 dX8_readLine_0 rfl rfl rfl ?_
    refine r_callMi 4 dX8_readLine_1 rfl ykX8_nameHere lk_X8_110 (e2_nameHere ht hs ha hr h0) rfl rfl rfl rfl rfl rfl ⟨Nat.le_refl _, Nat.le_refl _⟩ ?_
    rw [hj, ej]
    refine r_istore_n (i := 1) 5 dX8_readLine_4 rfl rfl rfl ?_
    refine r_iload_n (i := 1) 6 dX8_readLine_5 rfl rfl rfl ?_
    refine r_i2l 7 dX8_readLine_6 rfl ?_
    refine r_lconst (v := 0) 8 dX8_readLine_7 rfl rfl ?_
    refine r_ldc2 11 dX8_readLine_8 rfl k_X8_114 ?_
    refine r_callSi [] 14 dX8_readLine_11 rfl ykX8_in lk_X8_46 (e_in0 (nI j) (n := 8) (by decide) (by decide)) rfl rfl rfl ⟨Nat.le_refl _, Nat.le_refl _⟩ ?_
    rw [ib]
    refine r_if_ne 23 17 dX8_readLine_14 rfl rfl (fun h14 => ?_) (fun h14 => absurd h14 (by decide))
    skip
    by_cases q4 : j ≤ 4
    · rw [body_k q4 hj, e_thing]
      have jl : ¬ nI j > 4 := fun z => absurd (blt_of (a := 4) (b := j) (by decide) (by omega) z) (by omega)
      have j6 : ¬ nI j = 6 := fun z => absurd (beq_of (b := 6) (by omega) (by decide) z) (by omega)
      have j7 : ¬ nI j = 7 := fun z => absurd (beq_of (b := 7) (by omega) (by decide) z) (by omega)
      by_cases q6 : sN A = 6
      · have s5 : fIf (decide (6 ≤ sN A)) 5 s = fIf true 5 s := by rw [decide_eq_true (by omega)]
        have nz : ¬ pF (fIf true 5 s) = 0 := by rw [fIf_t h0]; decide
        have eZ : (c_thing1 b n j (fIf true 5 s) A x).1 = fIf true 5 s := thing_nz nz q4
        rw [s5, eZ]
        refine r_iload_n (i := 1) 24 dX8_readLine_23 rfl rfl rfl ?_
        refine r_iconst (v := 4) 25 dX8_readLine_24 rfl rfl ?_
        refine r_icmp_gt 37 28 dX8_readLine_25 rfl rfl (fun h25 => absurd h25 jl) (fun h25 => ?_)
        refine r_aload_n (i := 0) 29 dX8_readLine_28 rfl rfl rfl ?_
        refine r_getf 32 dX8_readLine_29 rfl fl_X8_101 rfl rfl ?_
        refine r_bipush (v := 6) 34 dX8_readLine_32 rfl rfl ?_
        refine r_icmp_eq 68 37 dX8_readLine_34 rfl rfl (fun h34 => ?_) (fun h34 => absurd (show W.2.1.2.1 = 6 from by rw [p1, q6]; rfl) h34)
        exact many _ _ _
      · have s5 : fIf (decide (6 ≤ sN A)) 5 s = s := by rw [decide_eq_false (by omega)]; rfl
        have n6 : ¬ W.2.1.2.1 = 6 := fun z => by rw [p1] at z; exact absurd (beq_of (b := 6) (by omega) (by decide) z) q6
        rw [s5]
        have g73 : mm_r (d + 7) mX8_readLine (rmP W b n (c_thing1 b n j s A x).1 (c_thing1 b n j s A x).2.1 (c_thing1 b n j s A x).2.2) 73 [some (.ref 0), some (.int (nI j))] [] (wM W) := by
          rcases (by omega : j = 0 ∨ (j = 1 ∨ j = 2) ∨ (j = 3 ∨ j = 4)) with rfl | q | q
          · rw [c_thing_0, if_pos (by omega)]
            dsimp only
            exact go 0 s (aT A 0 (sN A) (sN A)) x hs (fun z => tkS_bad z) (fun r1 i1 i2 => e2_rmT0 (W := zRe W r1) i1 i2 (by omega))
          · rw [c_thing_1 b n q, if_pos (by omega)]
            dsimp only
            exact go j (tkN b n 5 s) (aT A j (tkW b n 5 s) (sN A)) x (sI_tkN hs) (fun z => by rw [tkN_bad z, tkS_nz z]) (fun r1 i1 i2 => e2_rmT1 (W := zRe W r1) ht hs i1 i2 (by omega) q)
          · rw [c_thing_3 b n q, if_pos (by omega)]
            dsimp only
            exact go j (tkN b n 5 (tkN b n 5 s)) (aT A j (tkW b n 5 s) (tkW b n 5 (tkN b n 5 s))) x (sI_tkN (sI_tkN hs)) (fun z => by rw [tkN_bad z, tkN_nz z, tkS_nz z]) (fun r1 i1 i2 => e2_rmT3 (W := zRe W r1) ht hs i1 i2 (by omega) q)
        refine r_iload_n (i := 1) 24 dX8_readLine_23 rfl rfl rfl ?_
        refine r_iconst (v := 4) 25 dX8_readLine_24 rfl rfl ?_
        refine r_icmp_gt 37 28 dX8_readLine_25 rfl rfl (fun h25 => absurd h25 jl) (fun h25 => ?_)
        refine r_aload_n (i := 0) 29 dX8_readLine_28 rfl rfl rfl ?_
        refine r_getf 32 dX8_readLine_29 rfl fl_X8_101 rfl rfl ?_
        refine r_bipush (v := 6) 34 dX8_readLine_32 rfl rfl ?_
        refine r_icmp_eq 68 37 dX8_readLine_34 rfl rfl (fun h34 => absurd h34 n6) (fun h34 => ?_)
        refine r_iload_n (i := 1) 38 dX8_readLine_37 rfl rfl rfl ?_
        refine r_bipush (v := 6) 40 dX8_readLine_38 rfl rfl ?_
        refine r_icmp_ne 51 43 dX8_readLine_40 rfl rfl (fun h40 => ?_) (fun h40 => absurd h40 j6)
        refine r_iload_n (i := 1) 52 dX8_readLine_51 rfl rfl rfl ?_
        refine r_bipush (v := 7) 54 dX8_readLine_52 rfl rfl ?_
        refine r_icmp_ne 73 57 dX8_readLine_54 rfl rfl (fun h54 => ?_) (fun h54 => absurd h54 j7)
        exact g73
    · rcases (by omega : j = 5 ∨ j = 6 ∨ j = 7) with rfl | rfl | rfl
      · rw [body_5 hj, e_so]
        dsimp only
        have g73 := go 5 (fIf (decide (tb x (tkW b n 5 s) = 1)) 4 (tkN b n 5 s)) A (x ||| 2 ^ tkW b n 5 s) (sI_fIf (by decide) (sI_tkN hs)) (fun z => by rw [tkN_bad z, fIf_nz z, tkS_nz z]) (fun r1 i1 i2 => e2_rmS (W := zRe W r1) ht hs i1 i2)
        refine r_iload_n (i := 1) 24 dX8_readLine_23 rfl rfl rfl ?_
        refine r_iconst (v := 4) 25 dX8_readLine_24 rfl rfl ?_
        refine r_icmp_gt 37 28 dX8_readLine_25 rfl rfl (fun h25 => ?_) (fun h25 => absurd (show (4 : Int32) < nI 5 from by decide) h25)
        refine r_iload_n (i := 1) 38 dX8_readLine_37 rfl rfl rfl ?_
        refine r_bipush (v := 6) 40 dX8_readLine_38 rfl rfl ?_
        refine r_icmp_ne 51 43 dX8_readLine_40 rfl rfl (fun h40 => ?_) (fun h40 => absurd h40 (by decide))
        refine r_iload_n (i := 1) 52 dX8_readLine_51 rfl rfl rfl ?_
        refine r_bipush (v := 7) 54 dX8_readLine_52 rfl rfl ?_
        refine r_icmp_ne 73 57 dX8_readLine_54 rfl rfl (fun h54 => ?_) (fun h54 => absurd h54 (by decide))
        exact g73
      · rw [body_6 hj, e_guest]
        by_cases qg : sG A = 4
        · have s5 : fIf (decide (4 ≤ sG A)) 5 s = fIf true 5 s := by rw [decide_eq_true (by omega)]
          have nz : ¬ pF (fIf true 5 s) = 0 := by rw [fIf_t h0]; decide
          rw [s5, tkN_nz nz, tkN_nz nz, tkS_nz nz]
          dsimp only
          refine r_iload_n (i := 1) 24 dX8_readLine_23 rfl rfl rfl ?_
          refine r_iconst (v := 4) 25 dX8_readLine_24 rfl rfl ?_
          refine r_icmp_gt 37 28 dX8_readLine_25 rfl rfl (fun h25 => ?_) (fun h25 => absurd (show (4 : Int32) < nI 6 from by decide) h25)
          refine r_iload_n (i := 1) 38 dX8_readLine_37 rfl rfl rfl ?_
          refine r_bipush (v := 6) 40 dX8_readLine_38 rfl rfl ?_
          refine r_icmp_ne 51 43 dX8_readLine_40 rfl rfl (fun h40 => absurd rfl h40) (fun h40 => ?_)
          refine r_aload_n (i := 0) 44 dX8_readLine_43 rfl rfl rfl ?_
          refine r_getf 47 dX8_readLine_44 rfl fl_X8_104 rfl rfl ?_
          refine r_iconst (v := 4) 48 dX8_readLine_47 rfl rfl ?_
          refine r_icmp_eq 68 51 dX8_readLine_48 rfl rfl (fun h48 => ?_) (fun h48 => absurd (show W.2.1.2.2.1 = 4 from by rw [p2, qg]; rfl) h48)
          exact many _ _ _
        · have s5 : fIf (decide (4 ≤ sG A)) 5 s = s := by rw [decide_eq_false (by omega)]; rfl
          have n4 : ¬ W.2.1.2.2.1 = 4 := fun z => by rw [p2] at z; exact absurd (beq_of (b := 4) (by omega) (by decide) z) qg
          rw [s5, if_pos (by omega)]
          dsimp only
          have g73 := go 6 (tkN b n 9 (tkN b n 5 s)) (aG A (tkW b n 5 s) (tkW b n 9 (tkN b n 5 s))) x (sI_tkN (sI_tkN hs)) (fun z => by rw [tkN_bad z, tkN_nz z, tkS_nz z]) (fun r1 i1 i2 => e2_rmG (W := zRe W r1) ht hs i1 i2 (by omega))
          refine r_iload_n (i := 1) 24 dX8_readLine_23 rfl rfl rfl ?_
          refine r_iconst (v := 4) 25 dX8_readLine_24 rfl rfl ?_
          refine r_icmp_gt 37 28 dX8_readLine_25 rfl rfl (fun h25 => ?_) (fun h25 => absurd (show (4 : Int32) < nI 6 from by decide) h25)
          refine r_iload_n (i := 1) 38 dX8_readLine_37 rfl rfl rfl ?_
          refine r_bipush (v := 6) 40 dX8_readLine_38 rfl rfl ?_
          refine r_icmp_ne 51 43 dX8_readLine_40 rfl rfl (fun h40 => absurd rfl h40) (fun h40 => ?_)
          refine r_aload_n (i := 0) 44 dX8_readLine_43 rfl rfl rfl ?_
          refine r_getf 47 dX8_readLine_44 rfl fl_X8_104 rfl rfl ?_
          refine r_iconst (v := 4) 48 dX8_readLine_47 rfl rfl ?_
          refine r_icmp_eq 68 51 dX8_readLine_48 rfl rfl (fun h48 => absurd h48 n4) (fun h48 => ?_)
          refine r_iload_n (i := 1) 52 dX8_readLine_51 rfl rfl rfl ?_
          refine r_bipush (v := 7) 54 dX8_readLine_52 rfl rfl ?_
          refine r_icmp_ne 73 57 dX8_readLine_54 rfl rfl (fun h54 => ?_) (fun h54 => absurd h54 (by decide))
          exact g73
      · rw [body_7 hj, e_ban]
        by_cases qb : sB A = 4
        · have s5 : fIf (decide (4 ≤ sB A)) 5 s = fIf true 5 s := by rw [decide_eq_true (by omega)]
          have nz : ¬ pF (fIf true 5 s) = 0 := by rw [fIf_t h0]; decide
          rw [s5, tkN_nz nz, tkN_nz nz, fIf_nz nz, tkS_nz nz]
          dsimp only
          refine r_iload_n (i := 1) 24 dX8_readLine_23 rfl rfl rfl ?_
          refine r_iconst (v := 4) 25 dX8_readLine_24 rfl rfl ?_
          refine r_icmp_gt 37 28 dX8_readLine_25 rfl rfl (fun h25 => ?_) (fun h25 => absurd (show (4 : Int32) < nI 7 from by decide) h25)
          refine r_iload_n (i := 1) 38 dX8_readLine_37 rfl rfl rfl ?_
          refine r_bipush (v := 6) 40 dX8_readLine_38 rfl rfl ?_
          refine r_icmp_ne 51 43 dX8_readLine_40 rfl rfl (fun h40 => ?_) (fun h40 => absurd h40 (by decide))
          refine r_iload_n (i := 1) 52 dX8_readLine_51 rfl rfl rfl ?_
          refine r_bipush (v := 7) 54 dX8_readLine_52 rfl rfl ?_
          refine r_icmp_ne 73 57 dX8_readLine_54 rfl rfl (fun h54 => absurd rfl h54) (fun h54 => ?_)
          refine r_aload_n (i := 0) 58 dX8_readLine_57 rfl rfl rfl ?_
          refine r_getf 61 dX8_readLine_58 rfl fl_X8_13 rfl rfl ?_
          refine r_bipush (v := 35) 63 dX8_readLine_61 rfl rfl ?_
          refine r_iald 64 dX8_readLine_63 rfl rfl (by assumption) ?_
          rw [e35, qb]
          refine r_iconst (v := 4) 65 dX8_readLine_64 rfl rfl ?_
          refine r_icmp_ne 73 68 dX8_readLine_65 rfl rfl (fun h65 => absurd rfl h65) (fun h65 => ?_)
          exact many _ _ _
        · have s5 : fIf (decide (4 ≤ sB A)) 5 s = s := by rw [decide_eq_false (by omega)]; rfl
          have n4 : ¬ nI (sB A) = 4 := fun z => absurd (beq_of (b := 4) (by omega) (by decide) z) qb
          rw [s5, if_pos (by omega)]
          dsimp only
          have g73 := go 7 (fIf (decide (tkW b n 5 s = tkW b n 5 (tkN b n 5 s))) 3 (tkN b n 5 (tkN b n 5 s))) (aB A (tkW b n 5 s) (tkW b n 5 (tkN b n 5 s))) x (sI_fIf (by decide) (sI_tkN (sI_tkN hs))) (fun z => by rw [tkN_bad z, tkN_nz z, fIf_nz z, tkS_nz z]) (fun r1 i1 i2 => e2_rmB (W := zRe W r1) ht hs i1 i2 (by omega))
          refine r_iload_n (i := 1) 24 dX8_readLine_23 rfl rfl rfl ?_
          refine r_iconst (v := 4) 25 dX8_readLine_24 rfl rfl ?_
          refine r_icmp_gt 37 28 dX8_readLine_25 rfl rfl (fun h25 => ?_) (fun h25 => absurd (show (4 : Int32) < nI 7 from by decide) h25)
          refine r_iload_n (i := 1) 38 dX8_readLine_37 rfl rfl rfl ?_
          refine r_bipush (v := 6) 40 dX8_readLine_38 rfl rfl ?_
          refine r_icmp_ne 51 43 dX8_readLine_40 rfl rfl (fun h40 => ?_) (fun h40 => absurd h40 (by decide))
          refine r_iload_n (i := 1) 52 dX8_readLine_51 rfl rfl rfl ?_
          refine r_bipush (v := 7) 54 dX8_readLine_52 rfl rfl ?_
          refine r_icmp_ne 73 57 dX8_readLine_54 rfl rfl (fun h54 => absurd rfl h54) (fun h54 => ?_)
          refine r_aload_n (i := 0) 58 dX8_readLine_57 rfl rfl rfl ?_
          refine r_getf 61 dX8_readLine_58 rfl fl_X8_13 rfl rfl ?_
          refine r_bipush (v := 35) 63 dX8_readLine_61 rfl rfl ?_
          refine r_iald 64 dX8_readLine_63 rfl rfl (by assumption) ?_
          rw [e35]
          refine r_iconst (v := 4) 65 dX8_readLine_64 rfl rfl ?_
          refine r_icmp_ne 73 68 dX8_readLine_65 rfl rfl (fun h65 => ?_) (fun h65 => absurd h65 n4)
          exact g73
end MR
