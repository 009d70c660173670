section MB
variable {d : Nat} {S : sT} {w : mm_W}
theorem q_fault (hT : tOk S) (hC : CM S w) : mm_e (d + 1) yX8_fault mX8_fault [.ref 0] w (QM (nI (tF S)) S) := by
  have hC0 := hC
  obtain ⟨W, rfl, hR⟩ := hC
  obtain ⟨hM, ⟨hx, hy⟩, ⟨ht, hb⟩, hf, ⟨v1, v2⟩, ⟨hk0, hk1⟩, hI, hH, hn⟩ := id hR
  have h6 := hM.n6
  have h4 := hM.g4
  have h5 := hM.b4
  have p6 := p2_le hM.n6
  have l0 := hM.lt31 hT.2.1
  have i18 : vp_in (18 : Int32) 148 := vp_in_nI (n := 18) (by decide) (by decide)
  have i35 : vp_in (35 : Int32) 148 := vp_in_nI (n := 35) (by decide) (by decide)
  have i36 : vp_in (36 : Int32) 148 := vp_in_nI (n := 36) (by decide) (by decide)
  have ex : W.1.1 (18 : Int32).toNatClampNeg = nI (tX S) := hx
  have ey : W.1.1 (36 : Int32).toNatClampNeg = nI (tY S) := hy
  have eb : W.1.1 (35 : Int32).toNatClampNeg = nI (sB (tA S)) := hM.bn
  refine e_of [some (.ref 0)] rfl (by decide) rfl rfl rfl ?_
  refine r_aload_n (i := 0) 1 dX8_fault_0 rfl rfl rfl ?_
  refine r_getf 4 dX8_fault_1 rfl fl_X8_122 rfl rfl ?_
  exact r_reti dX8_fault_4 rfl (by first | rfl | exact bI_nar _) ⟨Nat.le_refl _, Nat.le_refl _⟩ (fun _ => rfl) (⟨by rw [hf], hC0⟩)
theorem q_torn (hT : tOk S) (hC : CM S w) : mm_e (d + 1) yX8_torn mX8_torn [.ref 0] w (QM (nI (tN S)) S) := by
  have hC0 := hC
  obtain ⟨W, rfl, hR⟩ := hC
  obtain ⟨hM, ⟨hx, hy⟩, ⟨ht, hb⟩, hf, ⟨v1, v2⟩, ⟨hk0, hk1⟩, hI, hH, hn⟩ := id hR
  have h6 := hM.n6
  have h4 := hM.g4
  have h5 := hM.b4
  have p6 := p2_le hM.n6
  have l0 := hM.lt31 hT.2.1
  have i18 : vp_in (18 : Int32) 148 := vp_in_nI (n := 18) (by decide) (by decide)
  have i35 : vp_in (35 : Int32) 148 := vp_in_nI (n := 35) (by decide) (by decide)
  have i36 : vp_in (36 : Int32) 148 := vp_in_nI (n := 36) (by decide) (by decide)
  have ex : W.1.1 (18 : Int32).toNatClampNeg = nI (tX S) := hx
  have ey : W.1.1 (36 : Int32).toNatClampNeg = nI (tY S) := hy
  have eb : W.1.1 (35 : Int32).toNatClampNeg = nI (sB (tA S)) := hM.bn
  refine e_of [some (.ref 0)] rfl (by decide) rfl rfl rfl ?_
  refine r_aload_n (i := 0) 1 dX8_torn_0 rfl rfl rfl ?_
  refine r_getf 4 dX8_torn_1 rfl fl_X8_287 rfl rfl ?_
  exact r_reti dX8_torn_4 rfl (by first | rfl | exact bI_nar _) ⟨Nat.le_refl _, Nat.le_refl _⟩ (fun _ => rfl) (⟨by rw [hn], hC0⟩)
theorem q_rule (hT : tOk S) (hC : CM S w) (what : Int32) : mm_e (d + 5) yX8_rule mX8_rule [.ref 0, .int what] w (QM (s_rule S what) S) := by
  have hC0 := hC
  obtain ⟨W, rfl, hR⟩ := hC
  obtain ⟨hM, ⟨hx, hy⟩, ⟨ht, hb⟩, hf, ⟨v1, v2⟩, ⟨hk0, hk1⟩, hI, hH, hn⟩ := id hR
  have h6 := hM.n6
  have h4 := hM.g4
  have h5 := hM.b4
  have p6 := p2_le hM.n6
  have l0 := hM.lt31 hT.2.1
  have i18 : vp_in (18 : Int32) 148 := vp_in_nI (n := 18) (by decide) (by decide)
  have i35 : vp_in (35 : Int32) 148 := vp_in_nI (n := 35) (by decide) (by decide)
  have i36 : vp_in (36 : Int32) 148 := vp_in_nI (n := 36) (by decide) (by decide)
  have ex : W.1.1 (18 : Int32).toNatClampNeg = nI (tX S) := hx
  have ey : W.1.1 (36 : Int32).toNatClampNeg = nI (tY S) := hy
  have eb : W.1.1 (35 : Int32).toNatClampNeg = nI (sB (tA S)) := hM.bn
  refine e_of [some (.ref 0), some (.int what), none] rfl (by decide) rfl rfl rfl ?_
  refine r_aload_n (i := 0) 1 dX8_rule_0 rfl rfl rfl ?_
  refine r_getf 4 dX8_rule_1 rfl fl_X8_7 rfl rfl ?_
  refine r_bipush (v := 18) 6 dX8_rule_4 rfl rfl ?_
  refine r_iald 7 dX8_rule_6 rfl rfl (by assumption) ?_
  rw [ex]
  refine r_istore_n (i := 2) 8 dX8_rule_7 rfl rfl rfl ?_
  refine r_iload_n (i := 1) 9 dX8_rule_8 rfl rfl rfl ?_
  rcases pk_ix what (n := 7) (by decide) with q | q | ⟨k, hk, rfl⟩
  · refine r_tabOut 108 dX8_rule_9 (Or.inl (sw_neg q)) rfl ?_
    refine r_iconst (v := (-1)) 109 dX8_rule_108 rfl rfl ?_
    exact r_reti dX8_rule_109 rfl (by first | rfl | exact bI_nar _) ⟨Nat.le_refl _, Nat.le_refl _⟩ (fun _ => rfl) (⟨by rw [s_rule, ix_neg q] <;> rfl, hC0⟩)
  · refine r_tabOut 108 dX8_rule_9 (Or.inr (sw_big (n := 6) (by decide) q)) rfl ?_
    refine r_iconst (v := (-1)) 109 dX8_rule_108 rfl rfl ?_
    exact r_reti dX8_rule_109 rfl (by first | rfl | exact bI_nar _) ⟨Nat.le_refl _, Nat.le_refl _⟩ (fun _ => rfl) (⟨by rw [s_rule, ix_big q] <;> rfl, hC0⟩)
  · rw [s_rule, ix_k hk (by decide)]
    rcases (by omega : k = 0 ∨ k = 1 ∨ k = 2 ∨ k = 3 ∨ k = 4 ∨ k = 5 ∨ k = 6) with rfl | rfl | rfl | rfl | rfl | rfl | rfl
    · refine r_tabIn 52 dX8_rule_9 (by decide) (by decide) rfl rfl ?_
      refine r_aload_n (i := 0) 53 dX8_rule_52 rfl rfl rfl ?_
      refine r_getf 56 dX8_rule_53 rfl fl_X8_125 rfl rfl ?_
      exact r_reti dX8_rule_56 rfl (by first | rfl | exact bI_nar _) ⟨Nat.le_refl _, Nat.le_refl _⟩ (fun _ => rfl) (⟨by rw [hM.tm] <;> rfl, hC0⟩)
    · refine r_tabIn 57 dX8_rule_9 (by decide) (by decide) rfl rfl ?_
      refine r_aload_n (i := 0) 58 dX8_rule_57 rfl rfl rfl ?_
      refine r_getf 61 dX8_rule_58 rfl fl_X8_128 rfl rfl ?_
      exact r_reti dX8_rule_61 rfl (by first | rfl | exact bI_nar _) ⟨Nat.le_refl _, Nat.le_refl _⟩ (fun _ => rfl) (⟨by rw [hM.gm] <;> rfl, hC0⟩)
    · refine r_tabIn 62 dX8_rule_9 (by decide) (by decide) rfl rfl ?_
      refine r_aload_n (i := 0) 63 dX8_rule_62 rfl rfl rfl ?_
      refine r_getf 66 dX8_rule_63 rfl fl_X8_7 rfl rfl ?_
      refine r_bipush (v := 35) 68 dX8_rule_66 rfl rfl ?_
      refine r_iald 69 dX8_rule_68 rfl rfl (by assumption) ?_
      exact r_reti dX8_rule_69 rfl (by first | rfl | exact bI_nar _) ⟨Nat.le_refl _, Nat.le_refl _⟩ (fun _ => rfl) (⟨by rw [eb] <;> rfl, hC0⟩)
    · refine r_tabIn 70 dX8_rule_9 (by decide) (by decide) rfl rfl ?_
      refine r_aload_n (i := 0) 71 dX8_rule_70 rfl rfl rfl ?_
      refine r_getf 74 dX8_rule_71 rfl fl_X8_7 rfl rfl ?_
      refine r_bipush (v := 36) 76 dX8_rule_74 rfl rfl ?_
      refine r_iald 77 dX8_rule_76 rfl rfl (by assumption) ?_
      exact r_reti dX8_rule_77 rfl (by first | rfl | exact bI_nar _) ⟨Nat.le_refl _, Nat.le_refl _⟩ (fun _ => rfl) (⟨by rw [ey] <;> rfl, hC0⟩)
    · refine r_tabIn 78 dX8_rule_9 (by decide) (by decide) rfl rfl ?_
      refine r_iload_n (i := 2) 79 dX8_rule_78 rfl rfl rfl ?_
      exact r_reti dX8_rule_79 rfl (by first | rfl | exact bI_nar _) ⟨Nat.le_refl _, Nat.le_refl _⟩ (fun _ => rfl) (⟨rfl, hC0⟩)
    · refine r_tabIn 80 dX8_rule_9 (by decide) (by decide) rfl rfl ?_
      refine r_aload_n (i := 0) 81 dX8_rule_80 rfl rfl rfl ?_
      refine r_iload_n (i := 2) 82 dX8_rule_81 rfl rfl rfl ?_
      refine r_callMi 85 dX8_rule_82 rfl ykX8_isAllowed lk_X8_153 (e2_isAllowed hM l0) rfl rfl rfl rfl rfl rfl ⟨Nat.le_refl _, Nat.le_refl _⟩ ?_
      refine r_if_eq 92 88 dX8_rule_85 rfl rfl (fun h85 => ?_) (fun h85 => ?_)
      · have g := bI_eq0 h85
        refine r_iconst (v := 0) 93 dX8_rule_92 rfl rfl ?_
        exact r_reti dX8_rule_93 rfl (by first | rfl | exact bI_nar _) ⟨Nat.le_refl _, Nat.le_refl _⟩ (fun _ => rfl) (⟨by rw [g] <;> rfl, hC0⟩)
      · have g := bI_ne0 h85
        refine r_iconst (v := 1) 89 dX8_rule_88 rfl rfl ?_
        refine r_goto 93 dX8_rule_89 rfl ?_
        exact r_reti dX8_rule_93 rfl (by first | rfl | exact bI_nar _) ⟨Nat.le_refl _, Nat.le_refl _⟩ (fun _ => rfl) (⟨by rw [g] <;> rfl, hC0⟩)
    · refine r_tabIn 94 dX8_rule_9 (by decide) (by decide) rfl rfl ?_
      refine r_aload_n (i := 0) 95 dX8_rule_94 rfl rfl rfl ?_
      refine r_iload_n (i := 2) 96 dX8_rule_95 rfl rfl rfl ?_
      refine r_callMi 99 dX8_rule_96 rfl ykX8_agrees lk_X8_157 (e2_agrees hM l0) rfl rfl rfl rfl rfl rfl ⟨Nat.le_refl _, Nat.le_refl _⟩ ?_
      refine r_if_eq 106 102 dX8_rule_99 rfl rfl (fun h99 => ?_) (fun h99 => ?_)
      · have g := bI_eq0 h99
        refine r_iconst (v := 0) 107 dX8_rule_106 rfl rfl ?_
        exact r_reti dX8_rule_107 rfl (by first | rfl | exact bI_nar _) ⟨Nat.le_refl _, Nat.le_refl _⟩ (fun _ => rfl) (⟨by rw [g] <;> rfl, hC0⟩)
      · have g := bI_ne0 h99
        refine r_iconst (v := 1) 103 dX8_rule_102 rfl rfl ?_
        refine r_goto 107 dX8_rule_103 rfl ?_
        exact r_reti dX8_rule_107 rfl (by first | rfl | exact bI_nar _) ⟨Nat.le_refl _, Nat.le_refl _⟩ (fun _ => rfl) (⟨by rw [g] <;> rfl, hC0⟩)
theorem q_thing (hT : tOk S) (hC : CM S w) (f : Int32) (what : Int32) : mm_e (d + 4) yX8_thing mX8_thing [.ref 0, .int f, .int what] w (QM (s_thing S f what) S) := by
  have hC0 := hC
  obtain ⟨W, rfl, hR⟩ := hC
  obtain ⟨hM, ⟨hx, hy⟩, ⟨ht, hb⟩, hf, ⟨v1, v2⟩, ⟨hk0, hk1⟩, hI, hH, hn⟩ := id hR
  have h6 := hM.n6
  have h4 := hM.g4
  have h5 := hM.b4
  have p6 := p2_le hM.n6
  have l0 := hM.lt31 hT.2.1
  have i18 : vp_in (18 : Int32) 148 := vp_in_nI (n := 18) (by decide) (by decide)
  have i35 : vp_in (35 : Int32) 148 := vp_in_nI (n := 35) (by decide) (by decide)
  have i36 : vp_in (36 : Int32) 148 := vp_in_nI (n := 36) (by decide) (by decide)
  have ex : W.1.1 (18 : Int32).toNatClampNeg = nI (tX S) := hx
  have ey : W.1.1 (36 : Int32).toNatClampNeg = nI (tY S) := hy
  have eb : W.1.1 (35 : Int32).toNatClampNeg = nI (sB (tA S)) := hM.bn
  refine e_of [some (.ref 0), some (.int f), some (.int what)] rfl (by decide) rfl rfl rfl ?_
  rw [s_thing]
  cases g : inb (nI (sN (tA S))) f with
  | false =>
    refine r_aload_n (i := 0) 1 dX8_thing_0 rfl rfl rfl ?_
    refine r_iload_n (i := 1) 2 dX8_thing_1 rfl rfl rfl ?_
    refine r_callMi 5 dX8_thing_2 rfl ykX8_isThing lk_X8_160 (e2_isThing hM f) rfl rfl rfl rfl rfl rfl ⟨Nat.le_refl _, Nat.le_refl _⟩ ?_
    rw [g]
    refine r_if_ne 10 8 dX8_thing_5 rfl rfl (fun h5 => absurd rfl h5) (fun h5 => ?_)
    refine r_iconst (v := (-1)) 9 dX8_thing_8 rfl rfl ?_
    exact r_reti dX8_thing_9 rfl (by first | rfl | exact bI_nar _) ⟨Nat.le_refl _, Nat.le_refl _⟩ (fun _ => rfl) (⟨rfl, hC0⟩)
  | true =>
    obtain ⟨i, hi, rfl⟩ := inb_nI (by omega) g
    obtain ⟨k1, k2, k3, k4, k5, k6⟩ := hM.at hi
    have hin : vp_in (nI i) 148 := vp_in_nI (by omega) (by decide)
    have ec := nI_clamp (n := i) (by omega)
    have n1 := nbI (tA S) (tX S) i
    have n2 := nb_le (tA S) (tX S) i
    rw [ec]
    refine r_aload_n (i := 0) 1 dX8_thing_0 rfl rfl rfl ?_
    refine r_iload_n (i := 1) 2 dX8_thing_1 rfl rfl rfl ?_
    refine r_callMi 5 dX8_thing_2 rfl ykX8_isThing lk_X8_160 (e2_isThing hM (nI i)) rfl rfl rfl rfl rfl rfl ⟨Nat.le_refl _, Nat.le_refl _⟩ ?_
    rw [g]
    refine r_if_ne 10 8 dX8_thing_5 rfl rfl (fun h5 => ?_) (fun h5 => absurd h5 (by decide))
    refine r_iload_n (i := 2) 11 dX8_thing_10 rfl rfl rfl ?_
    rcases pk_ix what (n := 5) (by decide) with q | q | ⟨k, hk, rfl⟩
    · refine r_tabOut 96 dX8_thing_11 (Or.inl (sw_neg q)) rfl ?_
      refine r_iconst (v := (-1)) 97 dX8_thing_96 rfl rfl ?_
      exact r_reti dX8_thing_97 rfl (by first | rfl | exact bI_nar _) ⟨Nat.le_refl _, Nat.le_refl _⟩ (fun _ => rfl) (⟨by rw [ix_neg q] <;> rfl, hC0⟩)
    · refine r_tabOut 96 dX8_thing_11 (Or.inr (sw_big (n := 4) (by decide) q)) rfl ?_
      refine r_iconst (v := (-1)) 97 dX8_thing_96 rfl rfl ?_
      exact r_reti dX8_thing_97 rfl (by first | rfl | exact bI_nar _) ⟨Nat.le_refl _, Nat.le_refl _⟩ (fun _ => rfl) (⟨by rw [ix_big q] <;> rfl, hC0⟩)
    · rw [ix_k hk (by decide)]
      rcases (by omega : k = 0 ∨ k = 1 ∨ k = 2 ∨ k = 3 ∨ k = 4) with rfl | rfl | rfl | rfl | rfl
      · refine r_tabIn 44 dX8_thing_11 (by decide) (by decide) rfl rfl ?_
        refine r_aload_n (i := 0) 45 dX8_thing_44 rfl rfl rfl ?_
        refine r_getf 48 dX8_thing_45 rfl fl_X8_7 rfl rfl ?_
        refine r_iload_n (i := 1) 49 dX8_thing_48 rfl rfl rfl ?_
        refine r_iald 50 dX8_thing_49 rfl rfl (by assumption) ?_
        exact r_reti dX8_thing_50 rfl (by first | rfl | exact bI_nar _) ⟨Nat.le_refl _, Nat.le_refl _⟩ (fun _ => rfl) (⟨by rw [ec, k1] <;> rfl, hC0⟩)
      · refine r_tabIn 51 dX8_thing_11 (by decide) (by decide) rfl rfl ?_
        refine r_aload_n (i := 0) 52 dX8_thing_51 rfl rfl rfl ?_
        refine r_iload_n (i := 1) 53 dX8_thing_52 rfl rfl rfl ?_
        refine r_callMi 56 dX8_thing_53 rfl ykX8_firstOf lk_X8_137 (e2_firstOf hM hi) rfl rfl rfl rfl rfl rfl ⟨Nat.le_refl _, Nat.le_refl _⟩ ?_
        exact r_reti dX8_thing_56 rfl (by first | rfl | exact bI_nar _) ⟨Nat.le_refl _, Nat.le_refl _⟩ (fun _ => rfl) (⟨rfl, hC0⟩)
      · refine r_tabIn 57 dX8_thing_11 (by decide) (by decide) rfl rfl ?_
        refine r_aload_n (i := 0) 58 dX8_thing_57 rfl rfl rfl ?_
        refine r_iload_n (i := 1) 59 dX8_thing_58 rfl rfl rfl ?_
        refine r_callMi 62 dX8_thing_59 rfl ykX8_secondOf lk_X8_140 (e2_secondOf hM hi) rfl rfl rfl rfl rfl rfl ⟨Nat.le_refl _, Nat.le_refl _⟩ ?_
        exact r_reti dX8_thing_62 rfl (by first | rfl | exact bI_nar _) ⟨Nat.le_refl _, Nat.le_refl _⟩ (fun _ => rfl) (⟨rfl, hC0⟩)
      · refine r_tabIn 63 dX8_thing_11 (by decide) (by decide) rfl rfl ?_
        refine r_aload_n (i := 0) 64 dX8_thing_63 rfl rfl rfl ?_
        refine r_getf 67 dX8_thing_64 rfl fl_X8_7 rfl rfl ?_
        refine r_bipush (v := 18) 69 dX8_thing_67 rfl rfl ?_
        refine r_iald 70 dX8_thing_69 rfl rfl (by assumption) ?_
        rw [ex]
        refine r_iload_n (i := 1) 71 dX8_thing_70 rfl rfl rfl ?_
        refine r_ishr 72 dX8_thing_71 rfl ?_
        refine r_iconst (v := 1) 73 dX8_thing_72 rfl rfl ?_
        refine r_iand 74 dX8_thing_73 rfl ?_
        exact r_reti dX8_thing_74 rfl (by first | rfl | exact bI_nar _) ⟨Nat.le_refl _, Nat.le_refl _⟩ (fun _ => rfl) (⟨by rw [n_bit l0 (by omega)] <;> rfl, hC0⟩)
      · refine r_tabIn 75 dX8_thing_11 (by decide) (by decide) rfl rfl ?_
        refine r_aload_n (i := 0) 76 dX8_thing_75 rfl rfl rfl ?_
        refine r_aload_n (i := 0) 77 dX8_thing_76 rfl rfl rfl ?_
        refine r_getf 80 dX8_thing_77 rfl fl_X8_7 rfl rfl ?_
        refine r_bipush (v := 18) 82 dX8_thing_80 rfl rfl ?_
        refine r_iald 83 dX8_thing_82 rfl rfl (by assumption) ?_
        rw [ex]
        refine r_iload_n (i := 1) 84 dX8_thing_83 rfl rfl rfl ?_
        refine r_callMi 87 dX8_thing_84 rfl ykX8_willBe lk_X8_143 (e2_willBe hM hi l0) rfl rfl rfl rfl rfl rfl ⟨Nat.le_refl _, Nat.le_refl _⟩ ?_
        refine r_if_eq 94 90 dX8_thing_87 rfl rfl (fun h87 => ?_) (fun h87 => ?_)
        · have g2 := n1.mp h87
          refine r_iconst (v := 0) 95 dX8_thing_94 rfl rfl ?_
          exact r_reti dX8_thing_95 rfl (by first | rfl | exact bI_nar _) ⟨Nat.le_refl _, Nat.le_refl _⟩ (fun _ => rfl) (⟨by first | (rw [g2] <;> rfl) | (rw [show nb (tA S) (tX S) i = 1 by omega] <;> rfl), hC0⟩)
        · have g2 := mt n1.mpr h87
          refine r_iconst (v := 1) 91 dX8_thing_90 rfl rfl ?_
          refine r_goto 95 dX8_thing_91 rfl ?_
          exact r_reti dX8_thing_95 rfl (by first | rfl | exact bI_nar _) ⟨Nat.le_refl _, Nat.le_refl _⟩ (fun _ => rfl) (⟨by first | (rw [g2] <;> rfl) | (rw [show nb (tA S) (tX S) i = 1 by omega] <;> rfl), hC0⟩)
theorem q_guest (hT : tOk S) (hC : CM S w) (g : Int32) (what : Int32) : mm_e (d + 3) yX8_guest mX8_guest [.ref 0, .int g, .int what] w (QM (s_guest S g what) S) := by
  have hC0 := hC
  obtain ⟨W, rfl, hR⟩ := hC
  obtain ⟨hM, ⟨hx, hy⟩, ⟨ht, hb⟩, hf, ⟨v1, v2⟩, ⟨hk0, hk1⟩, hI, hH, hn⟩ := id hR
  have h6 := hM.n6
  have h4 := hM.g4
  have h5 := hM.b4
  have p6 := p2_le hM.n6
  have l0 := hM.lt31 hT.2.1
  have i18 : vp_in (18 : Int32) 148 := vp_in_nI (n := 18) (by decide) (by decide)
  have i35 : vp_in (35 : Int32) 148 := vp_in_nI (n := 35) (by decide) (by decide)
  have i36 : vp_in (36 : Int32) 148 := vp_in_nI (n := 36) (by decide) (by decide)
  have ex : W.1.1 (18 : Int32).toNatClampNeg = nI (tX S) := hx
  have ey : W.1.1 (36 : Int32).toNatClampNeg = nI (tY S) := hy
  have eb : W.1.1 (35 : Int32).toNatClampNeg = nI (sB (tA S)) := hM.bn
  refine e_of [some (.ref 0), some (.int g), some (.int what)] rfl (by decide) rfl rfl rfl ?_
  rw [s_guest]
  cases hg : inb (nI (sG (tA S))) g with
  | false =>
    refine r_aload_n (i := 0) 1 dX8_guest_0 rfl rfl rfl ?_
    refine r_iload_n (i := 1) 2 dX8_guest_1 rfl rfl rfl ?_
    refine r_callMi 5 dX8_guest_2 rfl ykX8_isGuest lk_X8_163 (e2_isGuest hM g) rfl rfl rfl rfl rfl rfl ⟨Nat.le_refl _, Nat.le_refl _⟩ ?_
    rw [hg]
    refine r_if_eq 34 8 dX8_guest_5 rfl rfl (fun h5 => ?_) (fun h5 => absurd rfl h5)
    refine r_iconst (v := (-1)) 35 dX8_guest_34 rfl rfl ?_
    exact r_reti dX8_guest_35 rfl (by first | rfl | exact bI_nar _) ⟨Nat.le_refl _, Nat.le_refl _⟩ (fun _ => rfl) (⟨rfl, hC0⟩)
  | true =>
    obtain ⟨i, hi, rfl⟩ := inb_nI (by omega) hg
    obtain ⟨k1, k2, k3, k4⟩ := hM.gat hi
    have ec := nI_clamp (n := i) (by omega)
    rw [ec]
    rcases pk_ix what (n := 2) (by decide) with q | q | ⟨k, hk, rfl⟩
    · refine r_aload_n (i := 0) 1 dX8_guest_0 rfl rfl rfl ?_
      refine r_iload_n (i := 1) 2 dX8_guest_1 rfl rfl rfl ?_
      refine r_callMi 5 dX8_guest_2 rfl ykX8_isGuest lk_X8_163 (e2_isGuest hM (nI i)) rfl rfl rfl rfl rfl rfl ⟨Nat.le_refl _, Nat.le_refl _⟩ ?_
      rw [hg]
      refine r_if_eq 34 8 dX8_guest_5 rfl rfl (fun h5 => absurd h5 (by decide)) (fun h5 => ?_)
      refine r_iload_n (i := 2) 9 dX8_guest_8 rfl rfl rfl ?_
      refine r_i2l 10 dX8_guest_9 rfl ?_
      refine r_lconst (v := 0) 11 dX8_guest_10 rfl rfl ?_
      refine r_lconst (v := 1) 12 dX8_guest_11 rfl rfl ?_
      refine r_callSi [] 15 dX8_guest_12 rfl ykX8_in lk_X8_46 (e_in0 what (n := 2) (by decide) (by decide)) rfl rfl rfl ⟨Nat.le_refl _, Nat.le_refl _⟩ ?_
      rw [inb_f1 q]
      refine r_if_eq 34 18 dX8_guest_15 rfl rfl (fun h15 => ?_) (fun h15 => absurd rfl h15)
      refine r_iconst (v := (-1)) 35 dX8_guest_34 rfl rfl ?_
      exact r_reti dX8_guest_35 rfl (by first | rfl | exact bI_nar _) ⟨Nat.le_refl _, Nat.le_refl _⟩ (fun _ => rfl) (⟨by rw [ix_neg q] <;> rfl, hC0⟩)
    · refine r_aload_n (i := 0) 1 dX8_guest_0 rfl rfl rfl ?_
      refine r_iload_n (i := 1) 2 dX8_guest_1 rfl rfl rfl ?_
      refine r_callMi 5 dX8_guest_2 rfl ykX8_isGuest lk_X8_163 (e2_isGuest hM (nI i)) rfl rfl rfl rfl rfl rfl ⟨Nat.le_refl _, Nat.le_refl _⟩ ?_
      rw [hg]
      refine r_if_eq 34 8 dX8_guest_5 rfl rfl (fun h5 => absurd h5 (by decide)) (fun h5 => ?_)
      refine r_iload_n (i := 2) 9 dX8_guest_8 rfl rfl rfl ?_
      refine r_i2l 10 dX8_guest_9 rfl ?_
      refine r_lconst (v := 0) 11 dX8_guest_10 rfl rfl ?_
      refine r_lconst (v := 1) 12 dX8_guest_11 rfl rfl ?_
      refine r_callSi [] 15 dX8_guest_12 rfl ykX8_in lk_X8_46 (e_in0 what (n := 2) (by decide) (by decide)) rfl rfl rfl ⟨Nat.le_refl _, Nat.le_refl _⟩ ?_
      rw [inb_f2 q]
      refine r_if_eq 34 18 dX8_guest_15 rfl rfl (fun h15 => ?_) (fun h15 => absurd rfl h15)
      refine r_iconst (v := (-1)) 35 dX8_guest_34 rfl rfl ?_
      exact r_reti dX8_guest_35 rfl (by first | rfl | exact bI_nar _) ⟨Nat.le_refl _, Nat.le_refl _⟩ (fun _ => rfl) (⟨by rw [ix_big q] <;> rfl, hC0⟩)
    · rw [ix_k hk (by decide)]
      have hin : vp_in (nI (19 + 4 * k + i)) 148 := vp_in_nI (by omega) (by decide)
      refine r_aload_n (i := 0) 1 dX8_guest_0 rfl rfl rfl ?_
      refine r_iload_n (i := 1) 2 dX8_guest_1 rfl rfl rfl ?_
      refine r_callMi 5 dX8_guest_2 rfl ykX8_isGuest lk_X8_163 (e2_isGuest hM (nI i)) rfl rfl rfl rfl rfl rfl ⟨Nat.le_refl _, Nat.le_refl _⟩ ?_
      rw [hg]
      refine r_if_eq 34 8 dX8_guest_5 rfl rfl (fun h5 => absurd h5 (by decide)) (fun h5 => ?_)
      refine r_iload_n (i := 2) 9 dX8_guest_8 rfl rfl rfl ?_
      refine r_i2l 10 dX8_guest_9 rfl ?_
      refine r_lconst (v := 0) 11 dX8_guest_10 rfl rfl ?_
      refine r_lconst (v := 1) 12 dX8_guest_11 rfl rfl ?_
      refine r_callSi [] 15 dX8_guest_12 rfl ykX8_in lk_X8_46 (e_in0 (nI k) (n := 2) (by decide) (by decide)) rfl rfl rfl ⟨Nat.le_refl _, Nat.le_refl _⟩ ?_
      rw [nI_inb hk (by decide)]
      refine r_if_eq 34 18 dX8_guest_15 rfl rfl (fun h15 => absurd h15 (by decide)) (fun h15 => ?_)
      refine r_aload_n (i := 0) 19 dX8_guest_18 rfl rfl rfl ?_
      refine r_getf 22 dX8_guest_19 rfl fl_X8_7 rfl rfl ?_
      refine r_bipush (v := 19) 24 dX8_guest_22 rfl rfl ?_
      refine r_iconst (v := 4) 25 dX8_guest_24 rfl rfl ?_
      refine r_iload_n (i := 2) 26 dX8_guest_25 rfl rfl rfl ?_
      refine r_imul 27 dX8_guest_26 rfl ?_
      refine r_iadd 28 dX8_guest_27 rfl ?_
      refine r_iload_n (i := 1) 29 dX8_guest_28 rfl rfl rfl ?_
      refine r_iadd 30 dX8_guest_29 rfl ?_
      rw [c19]
      refine r_iald 31 dX8_guest_30 rfl rfl (by assumption) ?_
      refine r_goto 35 dX8_guest_31 rfl ?_
      exact r_reti dX8_guest_35 rfl (by first | rfl | exact bI_nar _) ⟨Nat.le_refl _, Nat.le_refl _⟩ (fun _ => rfl) (⟨by rw [nI_clamp (n := 19 + 4 * k + i) (by omega)]; rcases (by omega : k = 0 ∨ k = 1) with rfl | rfl; (· exact congrArg (fun z => some (Value.int z)) k1); (· exact congrArg (fun z => some (Value.int z)) (show W.1.1 (19 + 4 * 1 + i) = _ from k2)), hC0⟩)
theorem q_ban (hT : tOk S) (hC : CM S w) (b : Int32) (what : Int32) : mm_e (d + 3) yX8_ban mX8_ban [.ref 0, .int b, .int what] w (QM (s_ban S b what) S) := by
  have hC0 := hC
  obtain ⟨W, rfl, hR⟩ := hC
  obtain ⟨hM, ⟨hx, hy⟩, ⟨ht, hb⟩, hf, ⟨v1, v2⟩, ⟨hk0, hk1⟩, hI, hH, hn⟩ := id hR
  have h6 := hM.n6
  have h4 := hM.g4
  have h5 := hM.b4
  have p6 := p2_le hM.n6
  have l0 := hM.lt31 hT.2.1
  have i18 : vp_in (18 : Int32) 148 := vp_in_nI (n := 18) (by decide) (by decide)
  have i35 : vp_in (35 : Int32) 148 := vp_in_nI (n := 35) (by decide) (by decide)
  have i36 : vp_in (36 : Int32) 148 := vp_in_nI (n := 36) (by decide) (by decide)
  have ex : W.1.1 (18 : Int32).toNatClampNeg = nI (tX S) := hx
  have ey : W.1.1 (36 : Int32).toNatClampNeg = nI (tY S) := hy
  have eb : W.1.1 (35 : Int32).toNatClampNeg = nI (sB (tA S)) := hM.bn
  refine e_of [some (.ref 0), some (.int b), some (.int what)] rfl (by decide) rfl rfl rfl ?_
  rw [s_ban]
  cases hg : inb (nI (sB (tA S))) b with
  | false =>
    refine r_aload_n (i := 0) 1 dX8_ban_0 rfl rfl rfl ?_
    refine r_iload_n (i := 1) 2 dX8_ban_1 rfl rfl rfl ?_
    refine r_callMi 5 dX8_ban_2 rfl ykX8_isBan lk_X8_166 (e2_isBan hM b) rfl rfl rfl rfl rfl rfl ⟨Nat.le_refl _, Nat.le_refl _⟩ ?_
    rw [hg]
    refine r_if_eq 20 8 dX8_ban_5 rfl rfl (fun h5 => ?_) (fun h5 => absurd rfl h5)
    refine r_iconst (v := (-1)) 21 dX8_ban_20 rfl rfl ?_
    exact r_reti dX8_ban_21 rfl (by first | rfl | exact bI_nar _) ⟨Nat.le_refl _, Nat.le_refl _⟩ (fun _ => rfl) (⟨rfl, hC0⟩)
  | true =>
    obtain ⟨i, hi, rfl⟩ := inb_nI (by omega) hg
    obtain ⟨k1, k2, k3, k4⟩ := hM.bat hi
    have ec := nI_clamp (n := i) (by omega)
    rw [ec]
    rcases pk_ix what (n := 3) (by decide) with q | q | ⟨k, hk, rfl⟩
    · refine r_aload_n (i := 0) 1 dX8_ban_0 rfl rfl rfl ?_
      refine r_iload_n (i := 1) 2 dX8_ban_1 rfl rfl rfl ?_
      refine r_callMi 5 dX8_ban_2 rfl ykX8_isBan lk_X8_166 (e2_isBan hM (nI i)) rfl rfl rfl rfl rfl rfl ⟨Nat.le_refl _, Nat.le_refl _⟩ ?_
      rw [hg]
      refine r_if_eq 20 8 dX8_ban_5 rfl rfl (fun h5 => absurd h5 (by decide)) (fun h5 => ?_)
      refine r_iload_n (i := 2) 9 dX8_ban_8 rfl rfl rfl ?_
      refine r_i2l 10 dX8_ban_9 rfl ?_
      refine r_lconst (v := 0) 11 dX8_ban_10 rfl rfl ?_
      refine r_ldc2 14 dX8_ban_11 rfl k_X8_169 ?_
      refine r_callSi [] 17 dX8_ban_14 rfl ykX8_in lk_X8_46 (e_in0 what (n := 3) (by decide) (by decide)) rfl rfl rfl ⟨Nat.le_refl _, Nat.le_refl _⟩ ?_
      rw [inb_f1 q]
      refine r_if_ne 22 20 dX8_ban_17 rfl rfl (fun h17 => absurd rfl h17) (fun h17 => ?_)
      refine r_iconst (v := (-1)) 21 dX8_ban_20 rfl rfl ?_
      exact r_reti dX8_ban_21 rfl (by first | rfl | exact bI_nar _) ⟨Nat.le_refl _, Nat.le_refl _⟩ (fun _ => rfl) (⟨by rw [ix_neg q] <;> rfl, hC0⟩)
    · refine r_aload_n (i := 0) 1 dX8_ban_0 rfl rfl rfl ?_
      refine r_iload_n (i := 1) 2 dX8_ban_1 rfl rfl rfl ?_
      refine r_callMi 5 dX8_ban_2 rfl ykX8_isBan lk_X8_166 (e2_isBan hM (nI i)) rfl rfl rfl rfl rfl rfl ⟨Nat.le_refl _, Nat.le_refl _⟩ ?_
      rw [hg]
      refine r_if_eq 20 8 dX8_ban_5 rfl rfl (fun h5 => absurd h5 (by decide)) (fun h5 => ?_)
      refine r_iload_n (i := 2) 9 dX8_ban_8 rfl rfl rfl ?_
      refine r_i2l 10 dX8_ban_9 rfl ?_
      refine r_lconst (v := 0) 11 dX8_ban_10 rfl rfl ?_
      refine r_ldc2 14 dX8_ban_11 rfl k_X8_169 ?_
      refine r_callSi [] 17 dX8_ban_14 rfl ykX8_in lk_X8_46 (e_in0 what (n := 3) (by decide) (by decide)) rfl rfl rfl ⟨Nat.le_refl _, Nat.le_refl _⟩ ?_
      rw [inb_f2 q]
      refine r_if_ne 22 20 dX8_ban_17 rfl rfl (fun h17 => absurd rfl h17) (fun h17 => ?_)
      refine r_iconst (v := (-1)) 21 dX8_ban_20 rfl rfl ?_
      exact r_reti dX8_ban_21 rfl (by first | rfl | exact bI_nar _) ⟨Nat.le_refl _, Nat.le_refl _⟩ (fun _ => rfl) (⟨by rw [ix_big q] <;> rfl, hC0⟩)
    · rw [ix_k hk (by decide)]
      have hin : vp_in (nI (27 + 2 * i + k)) 148 := vp_in_nI (by omega) (by decide)
      refine r_aload_n (i := 0) 1 dX8_ban_0 rfl rfl rfl ?_
      refine r_iload_n (i := 1) 2 dX8_ban_1 rfl rfl rfl ?_
      refine r_callMi 5 dX8_ban_2 rfl ykX8_isBan lk_X8_166 (e2_isBan hM (nI i)) rfl rfl rfl rfl rfl rfl ⟨Nat.le_refl _, Nat.le_refl _⟩ ?_
      rw [hg]
      refine r_if_eq 20 8 dX8_ban_5 rfl rfl (fun h5 => absurd h5 (by decide)) (fun h5 => ?_)
      refine r_iload_n (i := 2) 9 dX8_ban_8 rfl rfl rfl ?_
      refine r_i2l 10 dX8_ban_9 rfl ?_
      refine r_lconst (v := 0) 11 dX8_ban_10 rfl rfl ?_
      refine r_ldc2 14 dX8_ban_11 rfl k_X8_169 ?_
      refine r_callSi [] 17 dX8_ban_14 rfl ykX8_in lk_X8_46 (e_in0 (nI k) (n := 3) (by decide) (by decide)) rfl rfl rfl ⟨Nat.le_refl _, Nat.le_refl _⟩ ?_
      rw [nI_inb hk (by decide)]
      refine r_if_ne 22 20 dX8_ban_17 rfl rfl (fun h17 => ?_) (fun h17 => absurd h17 (by decide))
      refine r_iload_n (i := 2) 23 dX8_ban_22 rfl rfl rfl ?_
      refine r_iconst (v := 2) 24 dX8_ban_23 rfl rfl ?_
      refine r_icmp_ge 43 27 dX8_ban_24 rfl rfl (fun h24 => ?_) (fun h24 => ?_)
      · have g := ble_of (a := 2) (b := k) (by decide) (by omega) h24
        refine r_aload_n (i := 0) 44 dX8_ban_43 rfl rfl rfl ?_
        refine r_aload_n (i := 0) 45 dX8_ban_44 rfl rfl rfl ?_
        refine r_getf 48 dX8_ban_45 rfl fl_X8_7 rfl rfl ?_
        refine r_bipush (v := 18) 50 dX8_ban_48 rfl rfl ?_
        refine r_iald 51 dX8_ban_50 rfl rfl (by assumption) ?_
        rw [ex]
        refine r_iload_n (i := 1) 52 dX8_ban_51 rfl rfl rfl ?_
        refine r_callMi 55 dX8_ban_52 rfl ykX8_isBroken lk_X8_150 (e2_isBroken hM hi l0) rfl rfl rfl rfl rfl rfl ⟨Nat.le_refl _, Nat.le_refl _⟩ ?_
        refine r_if_eq 62 58 dX8_ban_55 rfl rfl (fun h55 => ?_) (fun h55 => ?_)
        · have g2 := bI_eq0 h55
          refine r_iconst (v := 0) 63 dX8_ban_62 rfl rfl ?_
          exact r_reti dX8_ban_63 rfl (by first | rfl | exact bI_nar _) ⟨Nat.le_refl _, Nat.le_refl _⟩ (fun _ => rfl) (⟨by first | (rw [nI_clamp (n := 27 + 2 * i + k) (by omega)]; rcases (by omega : k = 0 ∨ k = 1) with rfl | rfl; (· exact congrArg (fun z => some (Value.int z)) k1); (· exact congrArg (fun z => some (Value.int z)) k2)) | (rw [show k = 2 by omega, g2] <;> rfl), hC0⟩)
        · have g2 := bI_ne0 h55
          refine r_iconst (v := 1) 59 dX8_ban_58 rfl rfl ?_
          refine r_goto 63 dX8_ban_59 rfl ?_
          exact r_reti dX8_ban_63 rfl (by first | rfl | exact bI_nar _) ⟨Nat.le_refl _, Nat.le_refl _⟩ (fun _ => rfl) (⟨by first | (rw [nI_clamp (n := 27 + 2 * i + k) (by omega)]; rcases (by omega : k = 0 ∨ k = 1) with rfl | rfl; (· exact congrArg (fun z => some (Value.int z)) k1); (· exact congrArg (fun z => some (Value.int z)) k2)) | (rw [show k = 2 by omega, g2] <;> rfl), hC0⟩)
      · have g := bnle_of (a := 2) (b := k) (by decide) (by omega) h24
        refine r_aload_n (i := 0) 28 dX8_ban_27 rfl rfl rfl ?_
        refine r_getf 31 dX8_ban_28 rfl fl_X8_7 rfl rfl ?_
        refine r_bipush (v := 27) 33 dX8_ban_31 rfl rfl ?_
        refine r_iconst (v := 2) 34 dX8_ban_33 rfl rfl ?_
        refine r_iload_n (i := 1) 35 dX8_ban_34 rfl rfl rfl ?_
        refine r_imul 36 dX8_ban_35 rfl ?_
        refine r_iadd 37 dX8_ban_36 rfl ?_
        refine r_iload_n (i := 2) 38 dX8_ban_37 rfl rfl rfl ?_
        refine r_iadd 39 dX8_ban_38 rfl ?_
        rw [c27k]
        refine r_iald 40 dX8_ban_39 rfl rfl (by assumption) ?_
        refine r_goto 63 dX8_ban_40 rfl ?_
        exact r_reti dX8_ban_63 rfl (by first | rfl | exact bI_nar _) ⟨Nat.le_refl _, Nat.le_refl _⟩ (fun _ => rfl) (⟨by first | (rw [nI_clamp (n := 27 + 2 * i + k) (by omega)]; rcases (by omega : k = 0 ∨ k = 1) with rfl | rfl; (· exact congrArg (fun z => some (Value.int z)) k1); (· exact congrArg (fun z => some (Value.int z)) k2)) | (rw [show k = 2 by omega, g2] <;> rfl), hC0⟩)
theorem q_ahead (hT : tOk S) (hC : CM S w) (n : Int32) : mm_e (d + 5) yX8_ahead mX8_ahead [.ref 0, .int n] w (QM (s_ahead S n) S) := by
  have hC0 := hC
  obtain ⟨W, rfl, hR⟩ := hC
  obtain ⟨hM, ⟨hx, hy⟩, ⟨ht, hb⟩, hf, ⟨v1, v2⟩, ⟨hk0, hk1⟩, hI, hH, hn⟩ := id hR
  have h6 := hM.n6
  have h4 := hM.g4
  have h5 := hM.b4
  have p6 := p2_le hM.n6
  have l0 := hM.lt31 hT.2.1
  have i18 : vp_in (18 : Int32) 148 := vp_in_nI (n := 18) (by decide) (by decide)
  have i35 : vp_in (35 : Int32) 148 := vp_in_nI (n := 35) (by decide) (by decide)
  have i36 : vp_in (36 : Int32) 148 := vp_in_nI (n := 36) (by decide) (by decide)
  have ex : W.1.1 (18 : Int32).toNatClampNeg = nI (tX S) := hx
  have ey : W.1.1 (36 : Int32).toNatClampNeg = nI (tY S) := hy
  have eb : W.1.1 (35 : Int32).toNatClampNeg = nI (sB (tA S)) := hM.bn
  refine e_of [some (.ref 0), some (.int n)] rfl (by decide) rfl rfl rfl ?_
  rw [s_ahead]
  cases g : inb 100 n with
  | false =>
    refine r_iload_n (i := 1) 1 dX8_ahead_0 rfl rfl rfl ?_
    refine r_i2l 2 dX8_ahead_1 rfl ?_
    refine r_lconst (v := 0) 3 dX8_ahead_2 rfl rfl ?_
    refine r_ldc2 6 dX8_ahead_3 rfl k_X8_186 ?_
    refine r_callSi [] 9 dX8_ahead_6 rfl ykX8_in lk_X8_46 (e_in0 n (n := 100) (by decide) (by decide)) rfl rfl rfl ⟨Nat.le_refl _, Nat.le_refl _⟩ ?_
    rw [show inb (nI 100) n = false from g]
    refine r_if_eq 27 12 dX8_ahead_9 rfl rfl (fun h9 => ?_) (fun h9 => absurd rfl h9)
    refine r_iconst (v := (-1)) 28 dX8_ahead_27 rfl rfl ?_
    exact r_reti dX8_ahead_28 rfl (by first | rfl | exact bI_nar _) ⟨Nat.le_refl _, Nat.le_refl _⟩ (fun _ => rfl) (⟨rfl, hC0⟩)
  | true =>
    obtain ⟨j, hj, rfl⟩ := inb_nI (n := 100) (by decide) g
    rw [nI_clamp (n := j) (by omega)]
    refine r_iload_n (i := 1) 1 dX8_ahead_0 rfl rfl rfl ?_
    refine r_i2l 2 dX8_ahead_1 rfl ?_
    refine r_lconst (v := 0) 3 dX8_ahead_2 rfl rfl ?_
    refine r_ldc2 6 dX8_ahead_3 rfl k_X8_186 ?_
    refine r_callSi [] 9 dX8_ahead_6 rfl ykX8_in lk_X8_46 (e_in0 (nI j) (n := 100) (by decide) (by decide)) rfl rfl rfl ⟨Nat.le_refl _, Nat.le_refl _⟩ ?_
    rw [show inb (nI 100) (nI j) = true from g]
    refine r_if_eq 27 12 dX8_ahead_9 rfl rfl (fun h9 => absurd h9 (by decide)) (fun h9 => ?_)
    refine r_aload_n (i := 0) 13 dX8_ahead_12 rfl rfl rfl ?_
    refine r_aload_n (i := 0) 14 dX8_ahead_13 rfl rfl rfl ?_
    refine r_getf 17 dX8_ahead_14 rfl fl_X8_7 rfl rfl ?_
    refine r_bipush (v := 18) 19 dX8_ahead_17 rfl rfl ?_
    refine r_iald 20 dX8_ahead_19 rfl rfl (by assumption) ?_
    rw [ex]
    refine r_iload_n (i := 1) 21 dX8_ahead_20 rfl rfl rfl ?_
    refine r_callMi 24 dX8_ahead_21 rfl ykX8_afterYears lk_X8_188 (e2_afterYears hM hT.2.1 (by omega)) rfl rfl rfl rfl rfl rfl ⟨Nat.le_refl _, Nat.le_refl _⟩ ?_
    refine r_goto 28 dX8_ahead_24 rfl ?_
    exact r_reti dX8_ahead_28 rfl (by first | rfl | exact bI_nar _) ⟨Nat.le_refl _, Nat.le_refl _⟩ (fun _ => rfl) (⟨rfl, hC0⟩)
theorem q_next (hT : tOk S) (hC : CM S w) (x : Int32) : mm_e (d + 4) yX8_next mX8_next [.ref 0, .int x] w (QM (s_next S x) S) := by
  have hC0 := hC
  obtain ⟨W, rfl, hR⟩ := hC
  obtain ⟨hM, ⟨hx, hy⟩, ⟨ht, hb⟩, hf, ⟨v1, v2⟩, ⟨hk0, hk1⟩, hI, hH, hn⟩ := id hR
  have h6 := hM.n6
  have h4 := hM.g4
  have h5 := hM.b4
  have p6 := p2_le hM.n6
  have l0 := hM.lt31 hT.2.1
  have i18 : vp_in (18 : Int32) 148 := vp_in_nI (n := 18) (by decide) (by decide)
  have i35 : vp_in (35 : Int32) 148 := vp_in_nI (n := 35) (by decide) (by decide)
  have i36 : vp_in (36 : Int32) 148 := vp_in_nI (n := 36) (by decide) (by decide)
  have ex : W.1.1 (18 : Int32).toNatClampNeg = nI (tX S) := hx
  have ey : W.1.1 (36 : Int32).toNatClampNeg = nI (tY S) := hy
  have eb : W.1.1 (35 : Int32).toNatClampNeg = nI (sB (tA S)) := hM.bn
  refine e_of [some (.ref 0), some (.int x)] rfl (by decide) rfl rfl rfl ?_
  rw [s_next]
  cases g : inb (nI (2 ^ sN (tA S))) x with
  | false =>
    refine r_aload_n (i := 0) 1 dX8_next_0 rfl rfl rfl ?_
    refine r_iload_n (i := 1) 2 dX8_next_1 rfl rfl rfl ?_
    refine r_callMi 5 dX8_next_2 rfl ykX8_isState lk_X8_191 (e2_isState hM x) rfl rfl rfl rfl rfl rfl ⟨Nat.le_refl _, Nat.le_refl _⟩ ?_
    rw [g]
    refine r_if_eq 16 8 dX8_next_5 rfl rfl (fun h5 => ?_) (fun h5 => absurd rfl h5)
    refine r_iconst (v := (-1)) 17 dX8_next_16 rfl rfl ?_
    exact r_reti dX8_next_17 rfl (by first | rfl | exact bI_nar _) ⟨Nat.le_refl _, Nat.le_refl _⟩ (fun _ => rfl) (⟨rfl, hC0⟩)
  | true =>
    obtain ⟨j, hj, rfl⟩ := inb_nI (by omega) g
    rw [nI_clamp (n := j) (by omega)]
    refine r_aload_n (i := 0) 1 dX8_next_0 rfl rfl rfl ?_
    refine r_iload_n (i := 1) 2 dX8_next_1 rfl rfl rfl ?_
    refine r_callMi 5 dX8_next_2 rfl ykX8_isState lk_X8_191 (e2_isState hM (nI j)) rfl rfl rfl rfl rfl rfl ⟨Nat.le_refl _, Nat.le_refl _⟩ ?_
    rw [g]
    refine r_if_eq 16 8 dX8_next_5 rfl rfl (fun h5 => absurd h5 (by decide)) (fun h5 => ?_)
    refine r_aload_n (i := 0) 9 dX8_next_8 rfl rfl rfl ?_
    refine r_iload_n (i := 1) 10 dX8_next_9 rfl rfl rfl ?_
    refine r_callMi 13 dX8_next_10 rfl ykX8_nextOf lk_X8_147 (e2_nextOf hM (by omega)) rfl rfl rfl rfl rfl rfl ⟨Nat.le_refl _, Nat.le_refl _⟩ ?_
    refine r_goto 17 dX8_next_13 rfl ?_
    exact r_reti dX8_next_17 rfl (by first | rfl | exact bI_nar _) ⟨Nat.le_refl _, Nat.le_refl _⟩ (fun _ => rfl) (⟨rfl, hC0⟩)
theorem l2_clash {W : MT} {A : sA} (hM : mok W.1 A) {x : Nat} (hx : x < 2 ^ sN A) {Q : mm_W → Prop} (hQ : Q (wM W)) : ∀ (k m : Nat), k + m = 100 → clf A x 100 0 = clf A x k m → mm_r (d + 4) mX8_clash (fun v u => v = some (.int (clf A x 100 0)) ∧ Q u) 10 [some (.ref 0), some (.int (nI (ny A m x))), some (.int (nI m))] [] (wM W) := by
  intro k
  induction k with
  | zero =>
    intro m hk hc
    have e : m = 100 := by omega
    subst e
    refine r_iload_n (i := 2) 11 dX8_clash_10 rfl rfl rfl ?_
    refine r_bipush (v := 99) 13 dX8_clash_11 rfl rfl ?_
    refine r_icmp_gt 38 16 dX8_clash_13 rfl rfl (fun h13 => ?_) (fun h13 => absurd (show (99 : Int32) < nI 100 from by decide) h13)
    refine r_bipush (v := (-4)) 40 dX8_clash_38 rfl rfl ?_
    exact r_reti dX8_clash_40 rfl (by first | rfl | exact bI_nar _) ⟨Nat.le_refl _, Nat.le_refl _⟩ (fun _ => rfl) (⟨by rw [hc]; rfl, hQ⟩)
  | succ k ih =>
    intro m hk hc
    have l1 := hM.lt31 (ny_lt hx m)
    rw [show clf A x (k + 1) m = if al A (ny A m x) then clf A x k (m + 1) else nI m from rfl] at hc
    refine r_iload_n (i := 2) 11 dX8_clash_10 rfl rfl rfl ?_
    refine r_bipush (v := 99) 13 dX8_clash_11 rfl rfl ?_
    refine r_icmp_gt 38 16 dX8_clash_13 rfl rfl (fun h13 => absurd (blt_of (a := 99) (b := m) (by decide) (by omega) h13) (by omega)) (fun h13 => ?_)
    refine r_aload_n (i := 0) 17 dX8_clash_16 rfl rfl rfl ?_
    refine r_iload_n (i := 1) 18 dX8_clash_17 rfl rfl rfl ?_
    refine r_callMi 21 dX8_clash_18 rfl ykX8_isAllowed lk_X8_153 (e2_isAllowed hM l1) rfl rfl rfl rfl rfl rfl ⟨Nat.le_refl _, Nat.le_refl _⟩ ?_
    refine r_if_ne 26 24 dX8_clash_21 rfl rfl (fun h21 => ?_) (fun h21 => ?_)
    · have g := bI_ne0 h21
      refine r_aload_n (i := 0) 27 dX8_clash_26 rfl rfl rfl ?_
      refine r_iload_n (i := 1) 28 dX8_clash_27 rfl rfl rfl ?_
      refine r_callMi 31 dX8_clash_28 rfl ykX8_nextOf lk_X8_147 (e2_nextOf hM l1) rfl rfl rfl rfl rfl rfl ⟨Nat.le_refl _, Nat.le_refl _⟩ ?_
      refine r_istore_n (i := 1) 32 dX8_clash_31 rfl rfl rfl ?_
      refine r_iinc (i := 2) 35 dX8_clash_32 rfl rfl (by first | exact nI_1 _ | rfl) rfl ?_
      refine r_goto 10 dX8_clash_35 rfl ?_
      exact ih (m + 1) (by omega) (by rw [hc, g]; rfl)
    · have g := bI_eq0 h21
      refine r_iload_n (i := 2) 25 dX8_clash_24 rfl rfl rfl ?_
      exact r_reti dX8_clash_25 rfl (by first | rfl | exact bI_nar _) ⟨Nat.le_refl _, Nat.le_refl _⟩ (fun _ => rfl) (⟨by rw [hc, g]; rfl, hQ⟩)
theorem q_clash (hT : tOk S) (hC : CM S w) : mm_e (d + 4) yX8_clash mX8_clash [.ref 0] w (QM (s_clash S) S) := by
  have hC0 := hC
  obtain ⟨W, rfl, hR⟩ := hC
  obtain ⟨hM, ⟨hx, hy⟩, ⟨ht, hb⟩, hf, ⟨v1, v2⟩, ⟨hk0, hk1⟩, hI, hH, hn⟩ := id hR
  have h6 := hM.n6
  have h4 := hM.g4
  have h5 := hM.b4
  have p6 := p2_le hM.n6
  have l0 := hM.lt31 hT.2.1
  have i18 : vp_in (18 : Int32) 148 := vp_in_nI (n := 18) (by decide) (by decide)
  have i35 : vp_in (35 : Int32) 148 := vp_in_nI (n := 35) (by decide) (by decide)
  have i36 : vp_in (36 : Int32) 148 := vp_in_nI (n := 36) (by decide) (by decide)
  have ex : W.1.1 (18 : Int32).toNatClampNeg = nI (tX S) := hx
  have ey : W.1.1 (36 : Int32).toNatClampNeg = nI (tY S) := hy
  have eb : W.1.1 (35 : Int32).toNatClampNeg = nI (sB (tA S)) := hM.bn
  refine e_of [some (.ref 0), none, none] rfl (by decide) rfl rfl rfl ?_
  refine r_aload_n (i := 0) 1 dX8_clash_0 rfl rfl rfl ?_
  refine r_getf 4 dX8_clash_1 rfl fl_X8_7 rfl rfl ?_
  refine r_bipush (v := 18) 6 dX8_clash_4 rfl rfl ?_
  refine r_iald 7 dX8_clash_6 rfl rfl (by assumption) ?_
  rw [ex]
  refine r_istore_n (i := 1) 8 dX8_clash_7 rfl rfl rfl ?_
  refine r_iconst (v := 0) 9 dX8_clash_8 rfl rfl ?_
  refine r_istore_n (i := 2) 10 dX8_clash_9 rfl rfl rfl ?_
  exact l2_clash hM hT.2.1 hC0 100 0 rfl rfl
theorem e2_bitsOf_l {x : Nat} (hx : x < 2 ^ 31) : ∀ (k i : Nat), 6 - i = k → i ≤ 6 → mm_r (d + 1) mX8_bitsOf (mm_q (some (.int (nI (pcn x 6)))) []) 4 [some (.int (nI x)), some (.int (nI (pcn x i))), some (.int (nI i))] [] [] := by
  intro k
  induction k with
  | zero =>
    intro i hk hi
    have e : i = 6 := by omega
    subst e
    refine r_iload_n (i := 2) 5 dX8_bitsOf_4 rfl rfl rfl ?_
    refine r_bipush (v := 6) 7 dX8_bitsOf_5 rfl rfl ?_
    refine r_icmp_ge 24 10 dX8_bitsOf_7 rfl rfl (fun h7 => ?_) (fun h7 => absurd (show (6 : Int32) ≤ nI 6 from by decide) h7)
    refine r_iload_n (i := 1) 25 dX8_bitsOf_24 rfl rfl rfl ?_
    exact r_reti dX8_bitsOf_25 rfl (by first | rfl | exact bI_nar _) ⟨Nat.le_refl _, Nat.le_refl _⟩ (fun _ => rfl) (⟨rfl, rfl⟩)
  | succ k ih =>
    intro i hk hi
    refine r_iload_n (i := 2) 5 dX8_bitsOf_4 rfl rfl rfl ?_
    refine r_bipush (v := 6) 7 dX8_bitsOf_5 rfl rfl ?_
    refine r_icmp_ge 24 10 dX8_bitsOf_7 rfl rfl (fun h7 => absurd (ble_of (a := 6) (b := i) (by decide) (by omega) h7) (by omega)) (fun h7 => ?_)
    refine r_iload_n (i := 1) 11 dX8_bitsOf_10 rfl rfl rfl ?_
    refine r_iload_n (i := 0) 12 dX8_bitsOf_11 rfl rfl rfl ?_
    refine r_iload_n (i := 2) 13 dX8_bitsOf_12 rfl rfl rfl ?_
    refine r_ishr 14 dX8_bitsOf_13 rfl ?_
    refine r_iconst (v := 1) 15 dX8_bitsOf_14 rfl rfl ?_
    refine r_iand 16 dX8_bitsOf_15 rfl ?_
    rw [n_bit hx (by omega)]
    refine r_iadd 17 dX8_bitsOf_16 rfl ?_
    rw [nI_add]
    refine r_istore_n (i := 1) 18 dX8_bitsOf_17 rfl rfl rfl ?_
    refine r_iinc (i := 2) 21 dX8_bitsOf_18 rfl rfl (by first | exact nI_1 _ | rfl) rfl ?_
    refine r_goto 4 dX8_bitsOf_21 rfl ?_
    exact ih (i + 1) (by omega) (by omega)
theorem e2_bitsOf {x : Nat} (hx : x < 2 ^ 31) : mm_e (d + 1) yX8_bitsOf mX8_bitsOf [.int (nI x)] [] (mm_q (some (.int (nI (pcn x 6)))) []) := by
  refine e_of [some (.int (nI x)), none, none] rfl (by decide) rfl rfl rfl ?_
  refine r_iconst (v := 0) 1 dX8_bitsOf_0 rfl rfl ?_
  refine r_istore_n (i := 1) 2 dX8_bitsOf_1 rfl rfl rfl ?_
  refine r_iconst (v := 0) 3 dX8_bitsOf_2 rfl rfl ?_
  refine r_istore_n (i := 2) 4 dX8_bitsOf_3 rfl rfl rfl ?_
  exact e2_bitsOf_l hx _ 0 rfl (Nat.zero_le _)
theorem l2_count {W : MT} {A : sA} (hM : mok W.1 A) (what : Int32) {Qf : Option Value → mm_W → Prop} (kk : mm_r (d + 2) mX8_count Qf 30 [some (.ref 0), some (.int what), some (.int (nI (smp A))), some (.int (nI (sG A)))] [] (wM W)) : ∀ (k i : Nat), sG A - i = k → i ≤ sG A → mm_r (d + 2) mX8_count Qf 4 [some (.ref 0), some (.int what), some (.int (nI (fb_sm (sP A) i))), some (.int (nI i))] [] (wM W) := by
  intro k
  have h4 := hM.g4
  induction k with
  | zero =>
    intro i hk hi
    have e : i = sG A := by omega
    subst e
    refine r_iload_n (i := 3) 5 dX8_count_4 rfl rfl rfl ?_
    refine r_aload_n (i := 0) 6 dX8_count_5 rfl rfl rfl ?_
    refine r_getf 9 dX8_count_6 rfl fl_X8_128 rfl rfl ?_
    refine r_icmp_ge 30 12 dX8_count_9 rfl rfl (fun h9 => ?_) (fun h9 => absurd (by rw [hM.gm]; exact Int32.le_refl _) h9)
    exact kk
  | succ k ih =>
    intro i hk hi
    have hi2 : i < sG A := by omega
    have hin : vp_in (nI (23 + i)) 148 := vp_in_nI (by omega) (by decide)
    refine r_iload_n (i := 3) 5 dX8_count_4 rfl rfl rfl ?_
    refine r_aload_n (i := 0) 6 dX8_count_5 rfl rfl rfl ?_
    refine r_getf 9 dX8_count_6 rfl fl_X8_128 rfl rfl ?_
    refine r_icmp_ge 30 12 dX8_count_9 rfl rfl (fun h9 => absurd (ble_of (a := sG A) (b := i) (by omega) (by omega) (by rw [← hM.gm]; exact h9)) (by omega)) (fun h9 => ?_)
    refine r_iload_n (i := 2) 13 dX8_count_12 rfl rfl rfl ?_
    refine r_aload_n (i := 0) 14 dX8_count_13 rfl rfl rfl ?_
    refine r_getf 17 dX8_count_14 rfl fl_X8_7 rfl rfl ?_
    refine r_bipush (v := 23) 19 dX8_count_17 rfl rfl ?_
    refine r_iload_n (i := 3) 20 dX8_count_19 rfl rfl rfl ?_
    refine r_iadd 21 dX8_count_20 rfl ?_
    rw [show (23 : Int32) + nI i = nI (23 + i) from nI_add 23 i]
    refine r_iald 22 dX8_count_21 rfl rfl (by assumption) ?_
    rw [nI_clamp (n := 23 + i) (by omega), (hM.gat hi2).2.1]
    refine r_iadd 23 dX8_count_22 rfl ?_
    rw [nI_add, ← fb_sm_succ]
    refine r_istore_n (i := 2) 24 dX8_count_23 rfl rfl rfl ?_
    refine r_iinc (i := 3) 27 dX8_count_24 rfl rfl (by first | exact nI_1 _ | rfl) rfl ?_
    refine r_goto 4 dX8_count_27 rfl ?_
    exact ih (i + 1) (by omega) (by omega)
theorem q_count (hT : tOk S) (hC : CM S w) (what : Int32) : mm_e (d + 2) yX8_count mX8_count [.ref 0, .int what] w (QM (s_count S what) S) := by
  have hC0 := hC
  obtain ⟨W, rfl, hR⟩ := hC
  obtain ⟨hM, ⟨hx, hy⟩, ⟨ht, hb⟩, hf, ⟨v1, v2⟩, ⟨hk0, hk1⟩, hI, hH, hn⟩ := id hR
  have h6 := hM.n6
  have h4 := hM.g4
  have h5 := hM.b4
  have p6 := p2_le hM.n6
  have l0 := hM.lt31 hT.2.1
  have i18 : vp_in (18 : Int32) 148 := vp_in_nI (n := 18) (by decide) (by decide)
  have i35 : vp_in (35 : Int32) 148 := vp_in_nI (n := 35) (by decide) (by decide)
  have i36 : vp_in (36 : Int32) 148 := vp_in_nI (n := 36) (by decide) (by decide)
  have ex : W.1.1 (18 : Int32).toNatClampNeg = nI (tX S) := hx
  have ey : W.1.1 (36 : Int32).toNatClampNeg = nI (tY S) := hy
  have eb : W.1.1 (35 : Int32).toNatClampNeg = nI (sB (tA S)) := hM.bn
  refine e_of [some (.ref 0), some (.int what), none, none] rfl (by decide) rfl rfl rfl ?_
  have z0 : vp_in (0 : Int32) 2 := vp_in_nI (n := 0) (by decide) (by decide)
  have z1 : vp_in (1 : Int32) 2 := vp_in_nI (n := 1) (by decide) (by decide)
  have z4 : vp_in (0 : Int32) 4 := vp_in_nI (n := 0) (by decide) (by decide)
  obtain ⟨s1, s2, -⟩ := hH 0 (by decide)
  have ek0 : W.2.2.2.2.2.2.2.1 (0 : Int32).toNatClampNeg = bI (tI S 0).isSome := hk0
  have ek1 : W.2.2.2.2.2.2.2.1 (1 : Int32).toNatClampNeg = bI (tI S 1).isSome := hk1
  have es1 : W.2.2.2.2.2.2.2.2.1 (0 : Int32).toNatClampNeg = laM ((tH S).1 0) := s1
  have es2 : W.2.2.2.2.2.2.2.2.2.1 (0 : Int32).toNatClampNeg = nI ((tH S).2.1 0) := s2
  have hl := (hT.2.2.2.2.2.2.2.2.1 0 (by decide)).1
  have el : laM ((tH S).1 0) = -4 ↔ (tH S).1 0 = 3 := by
    unfold laM
    split
    · rename_i q; simp [q]
    · rename_i q
      rcases (by omega : (tH S).1 0 = 0 ∨ (tH S).1 0 = 1 ∨ (tH S).1 0 = 2) with z | z | z <;> rw [z] <;> decide
  refine r_iconst (v := 0) 1 dX8_count_0 rfl rfl ?_
  refine r_istore_n (i := 2) 2 dX8_count_1 rfl rfl rfl ?_
  refine r_iconst (v := 0) 3 dX8_count_2 rfl rfl ?_
  refine r_istore_n (i := 3) 4 dX8_count_3 rfl rfl rfl ?_
  refine l2_count hM what ?_ _ 0 rfl (Nat.zero_le _)
  refine r_iload_n (i := 1) 31 dX8_count_30 rfl rfl rfl ?_
  rcases pk_ix what (n := 6) (by decide) with q | q | ⟨k, hk, rfl⟩
  · refine r_tabOut 144 dX8_count_31 (Or.inl (sw_neg q)) rfl ?_
    refine r_iconst (v := (-1)) 145 dX8_count_144 rfl rfl ?_
    exact r_reti dX8_count_145 rfl (by first | rfl | exact bI_nar _) ⟨Nat.le_refl _, Nat.le_refl _⟩ (fun _ => rfl) (⟨by rw [s_count, ix_neg q] <;> rfl, hC0⟩)
  · refine r_tabOut 144 dX8_count_31 (Or.inr (sw_big (n := 5) (by decide) q)) rfl ?_
    refine r_iconst (v := (-1)) 145 dX8_count_144 rfl rfl ?_
    exact r_reti dX8_count_145 rfl (by first | rfl | exact bI_nar _) ⟨Nat.le_refl _, Nat.le_refl _⟩ (fun _ => rfl) (⟨by rw [s_count, ix_big q] <;> rfl, hC0⟩)
  · rw [s_count, ix_k hk (by decide)]
    rcases (by omega : k = 0 ∨ k = 1 ∨ k = 2 ∨ k = 3 ∨ k = 4 ∨ k = 5) with rfl | rfl | rfl | rfl | rfl | rfl
    · refine r_tabIn 68 dX8_count_31 (by decide) (by decide) rfl rfl ?_
      refine r_aload_n (i := 0) 69 dX8_count_68 rfl rfl rfl ?_
      refine r_getf 72 dX8_count_69 rfl fl_X8_131 rfl rfl ?_
      exact r_reti dX8_count_72 rfl (by first | rfl | exact bI_nar _) ⟨Nat.le_refl _, Nat.le_refl _⟩ (fun _ => rfl) (⟨by rw [v1] <;> rfl, hC0⟩)
    · refine r_tabIn 73 dX8_count_31 (by decide) (by decide) rfl rfl ?_
      refine r_aload_n (i := 0) 74 dX8_count_73 rfl rfl rfl ?_
      refine r_getf 77 dX8_count_74 rfl fl_X8_31 rfl rfl ?_
      refine r_iconst (v := 0) 78 dX8_count_77 rfl rfl ?_
      refine r_zald 79 dX8_count_78 rfl rfl (by assumption) ?_
      rw [ek0]
      refine r_if_eq 86 82 dX8_count_79 rfl rfl (fun h79 => ?_) (fun h79 => ?_)
      · have g := bI_eq0 h79
        refine r_iconst (v := 0) 87 dX8_count_86 rfl rfl ?_
        refine r_aload_n (i := 0) 88 dX8_count_87 rfl rfl rfl ?_
        refine r_getf 91 dX8_count_88 rfl fl_X8_31 rfl rfl ?_
        refine r_iconst (v := 1) 92 dX8_count_91 rfl rfl ?_
        refine r_zald 93 dX8_count_92 rfl rfl (by assumption) ?_
        rw [ek1]
        refine r_if_eq 100 96 dX8_count_93 rfl rfl (fun h93 => ?_) (fun h93 => ?_)
        · have g2 := bI_eq0 h93
          refine r_iconst (v := 0) 101 dX8_count_100 rfl rfl ?_
          refine r_iadd 102 dX8_count_101 rfl ?_
          exact r_reti dX8_count_102 rfl (by first | rfl | exact bI_nar _) ⟨Nat.le_refl _, Nat.le_refl _⟩ (fun _ => rfl) (⟨by rw [g, g2] <;> rfl, hC0⟩)
        · have g2 := bI_ne0 h93
          refine r_iconst (v := 1) 97 dX8_count_96 rfl rfl ?_
          refine r_goto 101 dX8_count_97 rfl ?_
          refine r_iadd 102 dX8_count_101 rfl ?_
          exact r_reti dX8_count_102 rfl (by first | rfl | exact bI_nar _) ⟨Nat.le_refl _, Nat.le_refl _⟩ (fun _ => rfl) (⟨by rw [g, g2] <;> rfl, hC0⟩)
      · have g := bI_ne0 h79
        refine r_iconst (v := 1) 83 dX8_count_82 rfl rfl ?_
        refine r_goto 87 dX8_count_83 rfl ?_
        refine r_aload_n (i := 0) 88 dX8_count_87 rfl rfl rfl ?_
        refine r_getf 91 dX8_count_88 rfl fl_X8_31 rfl rfl ?_
        refine r_iconst (v := 1) 92 dX8_count_91 rfl rfl ?_
        refine r_zald 93 dX8_count_92 rfl rfl (by assumption) ?_
        rw [ek1]
        refine r_if_eq 100 96 dX8_count_93 rfl rfl (fun h93 => ?_) (fun h93 => ?_)
        · have g2 := bI_eq0 h93
          refine r_iconst (v := 0) 101 dX8_count_100 rfl rfl ?_
          refine r_iadd 102 dX8_count_101 rfl ?_
          exact r_reti dX8_count_102 rfl (by first | rfl | exact bI_nar _) ⟨Nat.le_refl _, Nat.le_refl _⟩ (fun _ => rfl) (⟨by rw [g, g2] <;> rfl, hC0⟩)
        · have g2 := bI_ne0 h93
          refine r_iconst (v := 1) 97 dX8_count_96 rfl rfl ?_
          refine r_goto 101 dX8_count_97 rfl ?_
          refine r_iadd 102 dX8_count_101 rfl ?_
          exact r_reti dX8_count_102 rfl (by first | rfl | exact bI_nar _) ⟨Nat.le_refl _, Nat.le_refl _⟩ (fun _ => rfl) (⟨by rw [g, g2] <;> rfl, hC0⟩)
    · refine r_tabIn 103 dX8_count_31 (by decide) (by decide) rfl rfl ?_
      refine r_aload_n (i := 0) 104 dX8_count_103 rfl rfl rfl ?_
      refine r_getf 107 dX8_count_104 rfl fl_X8_50 rfl rfl ?_
      exact r_reti dX8_count_107 rfl (by first | rfl | exact bI_nar _) ⟨Nat.le_refl _, Nat.le_refl _⟩ (fun _ => rfl) (⟨by rw [ht] <;> rfl, hC0⟩)
    · refine r_tabIn 108 dX8_count_31 (by decide) (by decide) rfl rfl ?_
      refine r_aload_n (i := 0) 109 dX8_count_108 rfl rfl rfl ?_
      refine r_getf 112 dX8_count_109 rfl fl_X8_35 rfl rfl ?_
      refine r_iconst (v := 0) 113 dX8_count_112 rfl rfl ?_
      refine r_iald 114 dX8_count_113 rfl rfl (by assumption) ?_
      rw [es1]
      refine r_bipush (v := (-4)) 116 dX8_count_114 rfl rfl ?_
      refine r_icmp_ne 124 119 dX8_count_116 rfl rfl (fun h116 => ?_) (fun h116 => ?_)
      · have g := mt el.mpr h116
        refine r_aload_n (i := 0) 125 dX8_count_124 rfl rfl rfl ?_
        refine r_getf 128 dX8_count_125 rfl fl_X8_38 rfl rfl ?_
        refine r_iconst (v := 0) 129 dX8_count_128 rfl rfl ?_
        refine r_iald 130 dX8_count_129 rfl rfl (by assumption) ?_
        first | rw [es2] | skip
        exact r_reti dX8_count_130 rfl (by first | rfl | exact bI_nar _) ⟨Nat.le_refl _, Nat.le_refl _⟩ (fun _ => rfl) (⟨by first | (show _ = some (Value.int (if _ then _ else _)); rw [if_pos g]) | (show _ = some (Value.int (if _ then _ else _)); rw [if_neg g]), hC0⟩)
      · have g := el.mp h116
        refine r_bipush (v := (-4)) 121 dX8_count_119 rfl rfl ?_
        refine r_goto 130 dX8_count_121 rfl ?_
        first | rw [es2] | skip
        exact r_reti dX8_count_130 rfl (by first | rfl | exact bI_nar _) ⟨Nat.le_refl _, Nat.le_refl _⟩ (fun _ => rfl) (⟨by first | (show _ = some (Value.int (if _ then _ else _)); rw [if_pos g]) | (show _ = some (Value.int (if _ then _ else _)); rw [if_neg g]), hC0⟩)
    · refine r_tabIn 131 dX8_count_31 (by decide) (by decide) rfl rfl ?_
      refine r_aload_n (i := 0) 132 dX8_count_131 rfl rfl rfl ?_
      refine r_getf 135 dX8_count_132 rfl fl_X8_7 rfl rfl ?_
      refine r_bipush (v := 18) 137 dX8_count_135 rfl rfl ?_
      refine r_iald 138 dX8_count_137 rfl rfl (by assumption) ?_
      rw [ex]
      refine r_callSi [] 141 dX8_count_138 rfl ykX8_bitsOf lk_X8_259 (e2_bitsOf l0) rfl rfl rfl ⟨Nat.le_refl _, Nat.le_refl _⟩ ?_
      exact r_reti dX8_count_141 rfl (by first | rfl | exact bI_nar _) ⟨Nat.le_refl _, Nat.le_refl _⟩ (fun _ => rfl) (⟨rfl, hC0⟩)
    · refine r_tabIn 142 dX8_count_31 (by decide) (by decide) rfl rfl ?_
      refine r_iload_n (i := 2) 143 dX8_count_142 rfl rfl rfl ?_
      exact r_reti dX8_count_143 rfl (by first | rfl | exact bI_nar _) ⟨Nat.le_refl _, Nat.le_refl _⟩ (fun _ => rfl) (⟨rfl, hC0⟩)
end MB
