section XA
variable {d : Nat} {S : sT} {w : mm_W} {N Z : FlT} {kp : Nat → Int32} {R : RdT} {Si : SiT} {Sr : SrT} {Ta : TaT} {I J : FlT} {H0 H1 H2 H3 : ShT} {tn : Int32}
theorem gt99 {n : Int32} (h : ¬ n ≤ 99) : (100 : Int32) ≤ n := by
  rw [Int32.le_iff_toInt_le] at h ⊢
  have h1 : (99 : Int32).toInt = 99 := by decide
  have h2 : (100 : Int32).toInt = 100 := by decide
  omega
theorem ngt99 {n : Int32} (h : n ≤ 99) : ¬ (100 : Int32) ≤ n := by
  rw [Int32.le_iff_toInt_le] at h ⊢
  have h1 : (99 : Int32).toInt = 99 := by decide
  have h2 : (100 : Int32).toInt = 100 := by decide
  omega
theorem p_fault (hC : CX S w) : mm_e (d + 1) yX7_fault mX7_fault [.ref 0] w (QX (nI (tF S)) S) := by
  have hC0 := hC
  obtain ⟨hT, N, Z, kp, R, Si, Sr, Ta, I, J, H0, H1, H2, H3, tn, rfl, hN, hx, hy, ⟨ht, hb⟩, hf, hs, ⟨hk0, hk1⟩, hI, hJ, ⟨s0, s1, s2, s3⟩, hn⟩ := hC
  refine e_of [some (.ref 0)] rfl (by decide) rfl rfl rfl ?_
  refine r_aload_n (i := 0) 1 dX7_fault_0 rfl rfl rfl ?_
  refine r_getf 4 dX7_fault_1 rfl fl_X7_30 rfl rfl ?_
  refine r_getf 7 dX7_fault_4 rfl fl_X7_79 rfl rfl ?_
  exact r_reti dX7_fault_7 rfl (by first | rfl | exact bI_nar _) ⟨Nat.le_refl _, Nat.le_refl _⟩ (fun _ => rfl) (⟨by rw [hf] <;> rfl, hC0⟩)
theorem p_torn (hC : CX S w) : mm_e (d + 1) yX7_torn mX7_torn [.ref 0] w (QX (nI (tN S)) S) := by
  have hC0 := hC
  obtain ⟨hT, N, Z, kp, R, Si, Sr, Ta, I, J, H0, H1, H2, H3, tn, rfl, hN, hx, hy, ⟨ht, hb⟩, hf, hs, ⟨hk0, hk1⟩, hI, hJ, ⟨s0, s1, s2, s3⟩, hn⟩ := hC
  refine e_of [some (.ref 0)] rfl (by decide) rfl rfl rfl ?_
  refine r_aload_n (i := 0) 1 dX7_torn_0 rfl rfl rfl ?_
  refine r_getf 4 dX7_torn_1 rfl fl_X7_308 rfl rfl ?_
  exact r_reti dX7_torn_4 rfl (by first | rfl | exact bI_nar _) ⟨Nat.le_refl _, Nat.le_refl _⟩ (fun _ => rfl) (⟨by rw [hn] <;> rfl, hC0⟩)
theorem p_rule (hC : CX S w) (what : Int32) : mm_e (d + 4) yX7_rule mX7_rule [.ref 0, .int what] w (QX (s_rule S what) S) := by
  have hC0 := hC
  obtain ⟨hT, N, Z, kp, R, Si, Sr, Ta, I, J, H0, H1, H2, H3, tn, rfl, hN, hx, hy, ⟨ht, hb⟩, hf, hs, ⟨hk0, hk1⟩, hI, hJ, ⟨s0, s1, s2, s3⟩, hn⟩ := hC
  have l0 := lt31 hN hT.2.1
  refine e_of [some (.ref 0), some (.int what)] rfl (by decide) rfl rfl rfl ?_
  refine r_iload_n (i := 1) 1 dX7_rule_0 rfl rfl rfl ?_
  rcases pk_ix what (n := 7) (by decide) with q | q | ⟨k, hk, rfl⟩
  · refine r_tabOut 120 dX7_rule_1 (Or.inl (sw_neg q)) rfl ?_
    refine r_iconst (v := (-1)) 121 dX7_rule_120 rfl rfl ?_
    exact r_reti dX7_rule_121 rfl (by first | rfl | exact bI_nar _) ⟨Nat.le_refl _, Nat.le_refl _⟩ (fun _ => rfl) (⟨by rw [s_rule, ix_neg q] <;> rfl, hC0⟩)
  · refine r_tabOut 120 dX7_rule_1 (Or.inr (sw_big (n := 6) (by decide) q)) rfl ?_
    refine r_iconst (v := (-1)) 121 dX7_rule_120 rfl rfl ?_
    exact r_reti dX7_rule_121 rfl (by first | rfl | exact bI_nar _) ⟨Nat.le_refl _, Nat.le_refl _⟩ (fun _ => rfl) (⟨by rw [s_rule, ix_big q] <;> rfl, hC0⟩)
  · rw [s_rule, ix_k hk (by decide)]
    rcases (by omega : k = 0 ∨ k = 1 ∨ k = 2 ∨ k = 3 ∨ k = 4 ∨ k = 5 ∨ k = 6) with rfl | rfl | rfl | rfl | rfl | rfl | rfl
    · refine r_tabIn 44 dX7_rule_1 (by decide) (by decide) rfl rfl ?_
      refine r_aload_n (i := 0) 45 dX7_rule_44 rfl rfl rfl ?_
      refine r_getf 48 dX7_rule_45 rfl fl_X7_10 rfl rfl ?_
      refine r_getf 51 dX7_rule_48 rfl fl_X7_98 rfl rfl ?_
      exact r_reti dX7_rule_51 rfl (by first | rfl | exact bI_nar _) ⟨Nat.le_refl _, Nat.le_refl _⟩ (fun _ => rfl) (⟨by rw [hN.th] <;> rfl, hC0⟩)
    · refine r_tabIn 52 dX7_rule_1 (by decide) (by decide) rfl rfl ?_
      refine r_aload_n (i := 0) 53 dX7_rule_52 rfl rfl rfl ?_
      refine r_getf 56 dX7_rule_53 rfl fl_X7_10 rfl rfl ?_
      refine r_getf 59 dX7_rule_56 rfl fl_X7_101 rfl rfl ?_
      exact r_reti dX7_rule_59 rfl (by first | rfl | exact bI_nar _) ⟨Nat.le_refl _, Nat.le_refl _⟩ (fun _ => rfl) (⟨by rw [hN.gu] <;> rfl, hC0⟩)
    · refine r_tabIn 60 dX7_rule_1 (by decide) (by decide) rfl rfl ?_
      refine r_aload_n (i := 0) 61 dX7_rule_60 rfl rfl rfl ?_
      refine r_getf 64 dX7_rule_61 rfl fl_X7_10 rfl rfl ?_
      refine r_getf 67 dX7_rule_64 rfl fl_X7_104 rfl rfl ?_
      exact r_reti dX7_rule_67 rfl (by first | rfl | exact bI_nar _) ⟨Nat.le_refl _, Nat.le_refl _⟩ (fun _ => rfl) (⟨by rw [hN.bn] <;> rfl, hC0⟩)
    · refine r_tabIn 68 dX7_rule_1 (by decide) (by decide) rfl rfl ?_
      refine r_aload_n (i := 0) 69 dX7_rule_68 rfl rfl rfl ?_
      refine r_getf 72 dX7_rule_69 rfl fl_X7_10 rfl rfl ?_
      refine r_getf 75 dX7_rule_72 rfl fl_X7_107 rfl rfl ?_
      exact r_reti dX7_rule_75 rfl (by first | rfl | exact bI_nar _) ⟨Nat.le_refl _, Nat.le_refl _⟩ (fun _ => rfl) (⟨by rw [hy] <;> rfl, hC0⟩)
    · refine r_tabIn 76 dX7_rule_1 (by decide) (by decide) rfl rfl ?_
      refine r_aload_n (i := 0) 77 dX7_rule_76 rfl rfl rfl ?_
      refine r_getf 80 dX7_rule_77 rfl fl_X7_10 rfl rfl ?_
      refine r_getf 83 dX7_rule_80 rfl fl_X7_110 rfl rfl ?_
      exact r_reti dX7_rule_83 rfl (by first | rfl | exact bI_nar _) ⟨Nat.le_refl _, Nat.le_refl _⟩ (fun _ => rfl) (⟨by rw [hx] <;> rfl, hC0⟩)
    · refine r_tabIn 84 dX7_rule_1 (by decide) (by decide) rfl rfl ?_
      refine r_aload_n (i := 0) 85 dX7_rule_84 rfl rfl rfl ?_
      refine r_getf 88 dX7_rule_85 rfl fl_X7_10 rfl rfl ?_
      refine r_aload_n (i := 0) 89 dX7_rule_88 rfl rfl rfl ?_
      refine r_getf 92 dX7_rule_89 rfl fl_X7_10 rfl rfl ?_
      refine r_getf 95 dX7_rule_92 rfl fl_X7_110 rfl rfl ?_
      rw [hx]
      refine r_callVi [1, 2, 3, 4, 5, 6, 7, 8] 98 dX7_rule_95 rfl ykX0_allows lk_X7_113 (e_allows hN l0) rfl rfl (sb_now _ _ _ _ _ _ _ _ _ _ _ _ _ _) rfl rfl rfl rfl ⟨Nat.le_refl _, Nat.le_refl _⟩ ?_
      refine r_callSi [] 101 dX7_rule_98 rfl ykX7_bit lk_X7_117 (e_bit _) rfl rfl rfl ⟨Nat.le_refl _, Nat.le_refl _⟩ ?_
      exact r_reti dX7_rule_101 rfl (by first | rfl | exact bI_nar _) ⟨Nat.le_refl _, Nat.le_refl _⟩ (fun _ => rfl) (⟨rfl, hC0⟩)
    · refine r_tabIn 102 dX7_rule_1 (by decide) (by decide) rfl rfl ?_
      refine r_aload_n (i := 0) 103 dX7_rule_102 rfl rfl rfl ?_
      refine r_getf 106 dX7_rule_103 rfl fl_X7_10 rfl rfl ?_
      refine r_aload_n (i := 0) 107 dX7_rule_106 rfl rfl rfl ?_
      refine r_getf 110 dX7_rule_107 rfl fl_X7_10 rfl rfl ?_
      refine r_getf 113 dX7_rule_110 rfl fl_X7_110 rfl rfl ?_
      rw [hx]
      refine r_callVi [1, 2, 3, 4, 5, 6, 7, 8] 116 dX7_rule_113 rfl ykX0_agrees lk_X7_121 (e_agrees hN l0) rfl rfl (sb_now _ _ _ _ _ _ _ _ _ _ _ _ _ _) rfl rfl rfl rfl ⟨Nat.le_refl _, Nat.le_refl _⟩ ?_
      refine r_callSi [] 119 dX7_rule_116 rfl ykX7_bit lk_X7_117 (e_bit _) rfl rfl rfl ⟨Nat.le_refl _, Nat.le_refl _⟩ ?_
      exact r_reti dX7_rule_119 rfl (by first | rfl | exact bI_nar _) ⟨Nat.le_refl _, Nat.le_refl _⟩ (fun _ => rfl) (⟨rfl, hC0⟩)
theorem p_thing (hC : CX S w) (f what : Int32) : mm_e (d + 2) yX7_thing mX7_thing [.ref 0, .int f, .int what] w (QX (s_thing S f what) S) := by
  have hC0 := hC
  obtain ⟨hT, N, Z, kp, R, Si, Sr, Ta, I, J, H0, H1, H2, H3, tn, rfl, hN, hx, hy, ⟨ht, hb⟩, hf, hs, ⟨hk0, hk1⟩, hI, hJ, ⟨s0, s1, s2, s3⟩, hn⟩ := hC
  have l0 := lt31 hN hT.2.1
  have h6 := hN.n6
  have h4 := hN.g4
  have h5 := hN.b4
  refine e_of [some (.ref 0), some (.int f), some (.int what)] rfl (by decide) rfl rfl rfl ?_
  rw [s_thing]
  cases g : inb (nI (sN (tA S))) f with
  | false =>
    refine r_aload_n (i := 0) 1 dX7_thing_0 rfl rfl rfl ?_
    refine r_getf 4 dX7_thing_1 rfl fl_X7_10 rfl rfl ?_
    refine r_iload_n (i := 1) 5 dX7_thing_4 rfl rfl rfl ?_
    refine r_callVi [1, 2, 3, 4, 5, 6, 7, 8] 8 dX7_thing_5 rfl ykX0_hasThing lk_X7_124 (e_hasThing f) rfl rfl (sb_now _ _ _ _ _ _ _ _ _ _ _ _ _ _) rfl rfl rfl rfl ⟨Nat.le_refl _, Nat.le_refl _⟩ ?_
    rw [hN.th, g]
    refine r_if_ne 13 11 dX7_thing_8 rfl rfl (fun h8 => absurd rfl h8) (fun h8 => ?_)
    refine r_iconst (v := (-1)) 12 dX7_thing_11 rfl rfl ?_
    exact r_reti dX7_thing_12 rfl (by first | rfl | exact bI_nar _) ⟨Nat.le_refl _, Nat.le_refl _⟩ (fun _ => rfl) (⟨rfl, hC0⟩)
  | true =>
    obtain ⟨i, hi, rfl⟩ := inb_nI (by omega) g
    obtain ⟨k1, k2, k3, k4, k5, k6⟩ := hN.at hi
    have hin : vp_in (nI i) 6 := vp_in_nI (by omega) (by decide)
    have ec := nI_clamp (n := i) (by omega)
    rw [ec]
    refine r_aload_n (i := 0) 1 dX7_thing_0 rfl rfl rfl ?_
    refine r_getf 4 dX7_thing_1 rfl fl_X7_10 rfl rfl ?_
    refine r_iload_n (i := 1) 5 dX7_thing_4 rfl rfl rfl ?_
    refine r_callVi [1, 2, 3, 4, 5, 6, 7, 8] 8 dX7_thing_5 rfl ykX0_hasThing lk_X7_124 (e_hasThing (nI i)) rfl rfl (sb_now _ _ _ _ _ _ _ _ _ _ _ _ _ _) rfl rfl rfl rfl ⟨Nat.le_refl _, Nat.le_refl _⟩ ?_
    rw [hN.th, g]
    refine r_if_ne 13 11 dX7_thing_8 rfl rfl (fun h8 => ?_) (fun h8 => absurd h8 (by decide))
    refine r_iload_n (i := 2) 14 dX7_thing_13 rfl rfl rfl ?_
    rcases pk_ix what (n := 5) (by decide) with q | q | ⟨k, hk, rfl⟩
    · refine r_tabOut 109 dX7_thing_14 (Or.inl (sw_neg q)) rfl ?_
      refine r_iconst (v := (-1)) 110 dX7_thing_109 rfl rfl ?_
      exact r_reti dX7_thing_110 rfl (by first | rfl | exact bI_nar _) ⟨Nat.le_refl _, Nat.le_refl _⟩ (fun _ => rfl) (⟨by rw [ix_neg q] <;> rfl, hC0⟩)
    · refine r_tabOut 109 dX7_thing_14 (Or.inr (sw_big (n := 4) (by decide) q)) rfl ?_
      refine r_iconst (v := (-1)) 110 dX7_thing_109 rfl rfl ?_
      exact r_reti dX7_thing_110 rfl (by first | rfl | exact bI_nar _) ⟨Nat.le_refl _, Nat.le_refl _⟩ (fun _ => rfl) (⟨by rw [ix_big q] <;> rfl, hC0⟩)
    · rw [ix_k hk (by decide)]
      rcases (by omega : k = 0 ∨ k = 1 ∨ k = 2 ∨ k = 3 ∨ k = 4) with rfl | rfl | rfl | rfl | rfl
      · refine r_tabIn 48 dX7_thing_14 (by decide) (by decide) rfl rfl ?_
        refine r_aload_n (i := 0) 49 dX7_thing_48 rfl rfl rfl ?_
        refine r_getf 52 dX7_thing_49 rfl fl_X7_10 rfl rfl ?_
        refine r_getf 55 dX7_thing_52 rfl fl_X7_127 rfl rfl ?_
        refine r_iload_n (i := 1) 56 dX7_thing_55 rfl rfl rfl ?_
        refine r_iald 57 dX7_thing_56 rfl rfl (by assumption) ?_
        exact r_reti dX7_thing_57 rfl (by first | rfl | exact bI_nar _) ⟨Nat.le_refl _, Nat.le_refl _⟩ (fun _ => rfl) (⟨by rw [ec, k1]; rfl, hC0⟩)
      · refine r_tabIn 58 dX7_thing_14 (by decide) (by decide) rfl rfl ?_
        refine r_aload_n (i := 0) 59 dX7_thing_58 rfl rfl rfl ?_
        refine r_getf 62 dX7_thing_59 rfl fl_X7_10 rfl rfl ?_
        refine r_getf 65 dX7_thing_62 rfl fl_X7_131 rfl rfl ?_
        refine r_iload_n (i := 1) 66 dX7_thing_65 rfl rfl rfl ?_
        refine r_iald 67 dX7_thing_66 rfl rfl (by assumption) ?_
        exact r_reti dX7_thing_67 rfl (by first | rfl | exact bI_nar _) ⟨Nat.le_refl _, Nat.le_refl _⟩ (fun _ => rfl) (⟨by rw [ec, k2]; rfl, hC0⟩)
      · refine r_tabIn 68 dX7_thing_14 (by decide) (by decide) rfl rfl ?_
        refine r_aload_n (i := 0) 69 dX7_thing_68 rfl rfl rfl ?_
        refine r_getf 72 dX7_thing_69 rfl fl_X7_10 rfl rfl ?_
        refine r_getf 75 dX7_thing_72 rfl fl_X7_134 rfl rfl ?_
        refine r_iload_n (i := 1) 76 dX7_thing_75 rfl rfl rfl ?_
        refine r_iald 77 dX7_thing_76 rfl rfl (by assumption) ?_
        exact r_reti dX7_thing_77 rfl (by first | rfl | exact bI_nar _) ⟨Nat.le_refl _, Nat.le_refl _⟩ (fun _ => rfl) (⟨by rw [ec, k3]; rfl, hC0⟩)
      · refine r_tabIn 78 dX7_thing_14 (by decide) (by decide) rfl rfl ?_
        refine r_aload_n (i := 0) 79 dX7_thing_78 rfl rfl rfl ?_
        refine r_getf 82 dX7_thing_79 rfl fl_X7_10 rfl rfl ?_
        refine r_getf 85 dX7_thing_82 rfl fl_X7_110 rfl rfl ?_
        rw [hx]
        refine r_iload_n (i := 1) 86 dX7_thing_85 rfl rfl rfl ?_
        refine r_callSi [] 89 dX7_thing_86 rfl ykX7_isSo lk_X7_137 (e_isSo l0 (by omega)) rfl rfl rfl ⟨Nat.le_refl _, Nat.le_refl _⟩ ?_
        refine r_callSi [] 92 dX7_thing_89 rfl ykX7_bit lk_X7_117 (e_bit _) rfl rfl rfl ⟨Nat.le_refl _, Nat.le_refl _⟩ ?_
        exact r_reti dX7_thing_92 rfl (by first | rfl | exact bI_nar _) ⟨Nat.le_refl _, Nat.le_refl _⟩ (fun _ => rfl) (⟨by rcases tb_01 (tX S) i with z | z <;> rw [z] <;> rfl, hC0⟩)
      · refine r_tabIn 93 dX7_thing_14 (by decide) (by decide) rfl rfl ?_
        refine r_aload_n (i := 0) 94 dX7_thing_93 rfl rfl rfl ?_
        refine r_getf 97 dX7_thing_94 rfl fl_X7_10 rfl rfl ?_
        refine r_iload_n (i := 1) 98 dX7_thing_97 rfl rfl rfl ?_
        refine r_aload_n (i := 0) 99 dX7_thing_98 rfl rfl rfl ?_
        refine r_getf 102 dX7_thing_99 rfl fl_X7_10 rfl rfl ?_
        refine r_getf 105 dX7_thing_102 rfl fl_X7_110 rfl rfl ?_
        rw [hx]
        refine r_callVi [1, 2, 3, 4, 5, 6, 7, 8] 108 dX7_thing_105 rfl ykX0_soAfter lk_X7_141 (e_soAfter hN hi l0) rfl rfl (sb_now _ _ _ _ _ _ _ _ _ _ _ _ _ _) rfl rfl rfl rfl ⟨Nat.le_refl _, Nat.le_refl _⟩ ?_
        exact r_reti dX7_thing_108 rfl (by first | rfl | exact bI_nar _) ⟨Nat.le_refl _, Nat.le_refl _⟩ (fun _ => rfl) (⟨rfl, hC0⟩)
theorem p_guest (hC : CX S w) (g what : Int32) : mm_e (d + 2) yX7_guest mX7_guest [.ref 0, .int g, .int what] w (QX (s_guest S g what) S) := by
  have hC0 := hC
  obtain ⟨hT, N, Z, kp, R, Si, Sr, Ta, I, J, H0, H1, H2, H3, tn, rfl, hN, hx, hy, ⟨ht, hb⟩, hf, hs, ⟨hk0, hk1⟩, hI, hJ, ⟨s0, s1, s2, s3⟩, hn⟩ := hC
  have l0 := lt31 hN hT.2.1
  have h6 := hN.n6
  have h4 := hN.g4
  have h5 := hN.b4
  refine e_of [some (.ref 0), some (.int g), some (.int what)] rfl (by decide) rfl rfl rfl ?_
  rw [s_guest]
  cases hg : inb (nI (sG (tA S))) g with
  | false =>
    refine r_aload_n (i := 0) 1 dX7_guest_0 rfl rfl rfl ?_
    refine r_getf 4 dX7_guest_1 rfl fl_X7_10 rfl rfl ?_
    refine r_iload_n (i := 1) 5 dX7_guest_4 rfl rfl rfl ?_
    refine r_callVi [1, 2, 3, 4, 5, 6, 7, 8] 8 dX7_guest_5 rfl ykX0_hasGuest lk_X7_145 (e_hasGuest g) rfl rfl (sb_now _ _ _ _ _ _ _ _ _ _ _ _ _ _) rfl rfl rfl rfl ⟨Nat.le_refl _, Nat.le_refl _⟩ ?_
    rw [hN.gu, hg]
    refine r_if_eq 18 11 dX7_guest_8 rfl rfl (fun h8 => ?_) (fun h8 => absurd rfl h8)
    refine r_iconst (v := (-1)) 19 dX7_guest_18 rfl rfl ?_
    exact r_reti dX7_guest_19 rfl (by first | rfl | exact bI_nar _) ⟨Nat.le_refl _, Nat.le_refl _⟩ (fun _ => rfl) (⟨rfl, hC0⟩)
  | true =>
    obtain ⟨i, hi, rfl⟩ := inb_nI (by omega) hg
    obtain ⟨k1, k2, k3, k4⟩ := hN.gat hi
    have hin : vp_in (nI i) 4 := vp_in_nI (by omega) (by decide)
    have ec := nI_clamp (n := i) (by omega)
    rw [ec]
    have out : ∀ {z : Int32}, (z < 0 ∨ nI 2 ≤ z) → decide (z = 0 ∨ z = 1) = false := fun {z} h => by
      rcases h with h | h
      · exact decide_eq_false (by rintro (rfl | rfl) <;> exact absurd h (by decide))
      · exact decide_eq_false (by rintro (rfl | rfl) <;> exact absurd h (by decide))
    refine r_aload_n (i := 0) 1 dX7_guest_0 rfl rfl rfl ?_
    refine r_getf 4 dX7_guest_1 rfl fl_X7_10 rfl rfl ?_
    refine r_iload_n (i := 1) 5 dX7_guest_4 rfl rfl rfl ?_
    refine r_callVi [1, 2, 3, 4, 5, 6, 7, 8] 8 dX7_guest_5 rfl ykX0_hasGuest lk_X7_145 (e_hasGuest (nI i)) rfl rfl (sb_now _ _ _ _ _ _ _ _ _ _ _ _ _ _) rfl rfl rfl rfl ⟨Nat.le_refl _, Nat.le_refl _⟩ ?_
    rw [hN.gu, hg]
    refine r_if_eq 18 11 dX7_guest_8 rfl rfl (fun h8 => absurd h8 (by decide)) (fun h8 => ?_)
    refine r_iload_n (i := 2) 12 dX7_guest_11 rfl rfl rfl ?_
    refine r_callSi [] 15 dX7_guest_12 rfl ykX7_isBit lk_X7_148 (e_isBit what) rfl rfl rfl ⟨Nat.le_refl _, Nat.le_refl _⟩ ?_
    rcases pk_ix what (n := 2) (by decide) with q | q | ⟨k, hk, rfl⟩
    · rw [out (Or.inl q), ix_neg q]
      refine r_if_ne 20 18 dX7_guest_15 rfl rfl (fun h15 => absurd rfl h15) (fun h15 => ?_)
      refine r_iconst (v := (-1)) 19 dX7_guest_18 rfl rfl ?_
      exact r_reti dX7_guest_19 rfl (by first | rfl | exact bI_nar _) ⟨Nat.le_refl _, Nat.le_refl _⟩ (fun _ => rfl) (⟨rfl, hC0⟩)
    · rw [out (Or.inr q), ix_big q]
      refine r_if_ne 20 18 dX7_guest_15 rfl rfl (fun h15 => absurd rfl h15) (fun h15 => ?_)
      refine r_iconst (v := (-1)) 19 dX7_guest_18 rfl rfl ?_
      exact r_reti dX7_guest_19 rfl (by first | rfl | exact bI_nar _) ⟨Nat.le_refl _, Nat.le_refl _⟩ (fun _ => rfl) (⟨rfl, hC0⟩)
    · rw [ix_k hk (by decide)]
      rcases (by omega : k = 0 ∨ k = 1) with rfl | rfl
      · refine r_if_ne 20 18 dX7_guest_15 rfl rfl (fun h15 => ?_) (fun h15 => absurd h15 (by decide))
        refine r_iload_n (i := 2) 21 dX7_guest_20 rfl rfl rfl ?_
        refine r_if_ne 36 24 dX7_guest_21 rfl rfl (fun h21 => absurd rfl h21) (fun h21 => ?_)
        refine r_aload_n (i := 0) 25 dX7_guest_24 rfl rfl rfl ?_
        refine r_getf 28 dX7_guest_25 rfl fl_X7_10 rfl rfl ?_
        refine r_getf 31 dX7_guest_28 rfl fl_X7_151 rfl rfl ?_
        refine r_iload_n (i := 1) 32 dX7_guest_31 rfl rfl rfl ?_
        refine r_iald 33 dX7_guest_32 rfl rfl (by assumption) ?_
        refine r_goto 45 dX7_guest_33 rfl ?_
        exact r_reti dX7_guest_45 rfl (by first | rfl | exact bI_nar _) ⟨Nat.le_refl _, Nat.le_refl _⟩ (fun _ => rfl) (⟨by rw [ec, k1]; rfl, hC0⟩)
      · refine r_if_ne 20 18 dX7_guest_15 rfl rfl (fun h15 => ?_) (fun h15 => absurd h15 (by decide))
        refine r_iload_n (i := 2) 21 dX7_guest_20 rfl rfl rfl ?_
        refine r_if_ne 36 24 dX7_guest_21 rfl rfl (fun h21 => ?_) (fun h21 => absurd h21 (by decide))
        refine r_aload_n (i := 0) 37 dX7_guest_36 rfl rfl rfl ?_
        refine r_getf 40 dX7_guest_37 rfl fl_X7_10 rfl rfl ?_
        refine r_getf 43 dX7_guest_40 rfl fl_X7_154 rfl rfl ?_
        refine r_iload_n (i := 1) 44 dX7_guest_43 rfl rfl rfl ?_
        refine r_iald 45 dX7_guest_44 rfl rfl (by assumption) ?_
        exact r_reti dX7_guest_45 rfl (by first | rfl | exact bI_nar _) ⟨Nat.le_refl _, Nat.le_refl _⟩ (fun _ => rfl) (⟨by rw [ec, k2]; rfl, hC0⟩)
theorem p_ban (hC : CX S w) (b what : Int32) : mm_e (d + 3) yX7_ban mX7_ban [.ref 0, .int b, .int what] w (QX (s_ban S b what) S) := by
  have hC0 := hC
  obtain ⟨hT, N, Z, kp, R, Si, Sr, Ta, I, J, H0, H1, H2, H3, tn, rfl, hN, hx, hy, ⟨ht, hb⟩, hf, hs, ⟨hk0, hk1⟩, hI, hJ, ⟨s0, s1, s2, s3⟩, hn⟩ := hC
  have l0 := lt31 hN hT.2.1
  have h6 := hN.n6
  have h4 := hN.g4
  have h5 := hN.b4
  refine e_of [some (.ref 0), some (.int b), some (.int what)] rfl (by decide) rfl rfl rfl ?_
  rw [s_ban]
  cases g : inb (nI (sB (tA S))) b with
  | false =>
    refine r_aload_n (i := 0) 1 dX7_ban_0 rfl rfl rfl ?_
    refine r_getf 4 dX7_ban_1 rfl fl_X7_10 rfl rfl ?_
    refine r_iload_n (i := 1) 5 dX7_ban_4 rfl rfl rfl ?_
    refine r_callVi [1, 2, 3, 4, 5, 6, 7, 8] 8 dX7_ban_5 rfl ykX0_hasBan lk_X7_157 (e_hasBan b) rfl rfl (sb_now _ _ _ _ _ _ _ _ _ _ _ _ _ _) rfl rfl rfl rfl ⟨Nat.le_refl _, Nat.le_refl _⟩ ?_
    rw [hN.bn, g]
    refine r_if_ne 13 11 dX7_ban_8 rfl rfl (fun h8 => absurd rfl h8) (fun h8 => ?_)
    refine r_iconst (v := (-1)) 12 dX7_ban_11 rfl rfl ?_
    exact r_reti dX7_ban_12 rfl (by first | rfl | exact bI_nar _) ⟨Nat.le_refl _, Nat.le_refl _⟩ (fun _ => rfl) (⟨rfl, hC0⟩)
  | true =>
    obtain ⟨i, hi, rfl⟩ := inb_nI (by omega) g
    obtain ⟨k1, k2, k3, k4⟩ := hN.bat hi
    have hin : vp_in (nI i) 4 := vp_in_nI (by omega) (by decide)
    have ec := nI_clamp (n := i) (by omega)
    rw [ec]
    refine r_aload_n (i := 0) 1 dX7_ban_0 rfl rfl rfl ?_
    refine r_getf 4 dX7_ban_1 rfl fl_X7_10 rfl rfl ?_
    refine r_iload_n (i := 1) 5 dX7_ban_4 rfl rfl rfl ?_
    refine r_callVi [1, 2, 3, 4, 5, 6, 7, 8] 8 dX7_ban_5 rfl ykX0_hasBan lk_X7_157 (e_hasBan (nI i)) rfl rfl (sb_now _ _ _ _ _ _ _ _ _ _ _ _ _ _) rfl rfl rfl rfl ⟨Nat.le_refl _, Nat.le_refl _⟩ ?_
    rw [hN.bn, g]
    refine r_if_ne 13 11 dX7_ban_8 rfl rfl (fun h8 => ?_) (fun h8 => absurd h8 (by decide))
    refine r_iload_n (i := 2) 14 dX7_ban_13 rfl rfl rfl ?_
    rcases pk_ix what (n := 3) (by decide) with q | q | ⟨k, hk, rfl⟩
    · refine r_tabOut 79 dX7_ban_14 (Or.inl (sw_neg q)) rfl ?_
      refine r_iconst (v := (-1)) 80 dX7_ban_79 rfl rfl ?_
      exact r_reti dX7_ban_80 rfl (by first | rfl | exact bI_nar _) ⟨Nat.le_refl _, Nat.le_refl _⟩ (fun _ => rfl) (⟨by rw [ix_neg q] <;> rfl, hC0⟩)
    · refine r_tabOut 79 dX7_ban_14 (Or.inr (sw_big (n := 2) (by decide) q)) rfl ?_
      refine r_iconst (v := (-1)) 80 dX7_ban_79 rfl rfl ?_
      exact r_reti dX7_ban_80 rfl (by first | rfl | exact bI_nar _) ⟨Nat.le_refl _, Nat.le_refl _⟩ (fun _ => rfl) (⟨by rw [ix_big q] <;> rfl, hC0⟩)
    · rw [ix_k hk (by decide)]
      rcases (by omega : k = 0 ∨ k = 1 ∨ k = 2) with rfl | rfl | rfl
      · refine r_tabIn 40 dX7_ban_14 (by decide) (by decide) rfl rfl ?_
        refine r_aload_n (i := 0) 41 dX7_ban_40 rfl rfl rfl ?_
        refine r_getf 44 dX7_ban_41 rfl fl_X7_10 rfl rfl ?_
        refine r_getf 47 dX7_ban_44 rfl fl_X7_160 rfl rfl ?_
        refine r_iload_n (i := 1) 48 dX7_ban_47 rfl rfl rfl ?_
        refine r_iald 49 dX7_ban_48 rfl rfl (by assumption) ?_
        exact r_reti dX7_ban_49 rfl (by first | rfl | exact bI_nar _) ⟨Nat.le_refl _, Nat.le_refl _⟩ (fun _ => rfl) (⟨by rw [ec, k1]; rfl, hC0⟩)
      · refine r_tabIn 50 dX7_ban_14 (by decide) (by decide) rfl rfl ?_
        refine r_aload_n (i := 0) 51 dX7_ban_50 rfl rfl rfl ?_
        refine r_getf 54 dX7_ban_51 rfl fl_X7_10 rfl rfl ?_
        refine r_getf 57 dX7_ban_54 rfl fl_X7_163 rfl rfl ?_
        refine r_iload_n (i := 1) 58 dX7_ban_57 rfl rfl rfl ?_
        refine r_iald 59 dX7_ban_58 rfl rfl (by assumption) ?_
        exact r_reti dX7_ban_59 rfl (by first | rfl | exact bI_nar _) ⟨Nat.le_refl _, Nat.le_refl _⟩ (fun _ => rfl) (⟨by rw [ec, k2]; rfl, hC0⟩)
      · refine r_tabIn 60 dX7_ban_14 (by decide) (by decide) rfl rfl ?_
        refine r_aload_n (i := 0) 61 dX7_ban_60 rfl rfl rfl ?_
        refine r_getf 64 dX7_ban_61 rfl fl_X7_10 rfl rfl ?_
        refine r_iload_n (i := 1) 65 dX7_ban_64 rfl rfl rfl ?_
        refine r_aload_n (i := 0) 66 dX7_ban_65 rfl rfl rfl ?_
        refine r_getf 69 dX7_ban_66 rfl fl_X7_10 rfl rfl ?_
        refine r_getf 72 dX7_ban_69 rfl fl_X7_110 rfl rfl ?_
        rw [hx]
        refine r_callVi [1, 2, 3, 4, 5, 6, 7, 8] 75 dX7_ban_72 rfl ykX0_breaks lk_X7_166 (e_breaks hN hi l0) rfl rfl (sb_now _ _ _ _ _ _ _ _ _ _ _ _ _ _) rfl rfl rfl rfl ⟨Nat.le_refl _, Nat.le_refl _⟩ ?_
        refine r_callSi [] 78 dX7_ban_75 rfl ykX7_bit lk_X7_117 (e_bit _) rfl rfl rfl ⟨Nat.le_refl _, Nat.le_refl _⟩ ?_
        exact r_reti dX7_ban_78 rfl (by first | rfl | exact bI_nar _) ⟨Nat.le_refl _, Nat.le_refl _⟩ (fun _ => rfl) (⟨rfl, hC0⟩)
theorem p_ahead (hC : CX S w) (n : Int32) : mm_e (d + 4) yX7_ahead mX7_ahead [.ref 0, .int n] w (QX (s_ahead S n) S) := by
  have hC0 := hC
  obtain ⟨hT, N, Z, kp, R, Si, Sr, Ta, I, J, H0, H1, H2, H3, tn, rfl, hN, hx, hy, ⟨ht, hb⟩, hf, hs, ⟨hk0, hk1⟩, hI, hJ, ⟨s0, s1, s2, s3⟩, hn⟩ := hC
  have l0 := lt31 hN hT.2.1
  have h6 := hN.n6
  have h4 := hN.g4
  have h5 := hN.b4
  refine e_of [some (.ref 0), some (.int n)] rfl (by decide) rfl rfl rfl ?_
  rw [s_ahead]
  refine r_iload_n (i := 1) 1 dX7_ahead_0 rfl rfl rfl ?_
  refine r_if_lt 10 4 dX7_ahead_1 rfl rfl (fun h1 => ?_) (fun h1 => ?_)
  · refine r_iconst (v := (-1)) 11 dX7_ahead_10 rfl rfl ?_
    exact r_reti dX7_ahead_11 rfl (by first | rfl | exact bI_nar _) ⟨Nat.le_refl _, Nat.le_refl _⟩ (fun _ => rfl) (⟨by first | rw [inb_f1 h1]; rfl | rw [inb_f2 (n := 100) (gt99 h7)]; rfl, hC0⟩)
  · refine r_iload_n (i := 1) 5 dX7_ahead_4 rfl rfl rfl ?_
    refine r_bipush (v := 99) 7 dX7_ahead_5 rfl rfl ?_
    refine r_icmp_le 12 10 dX7_ahead_7 rfl rfl (fun h7 => ?_) (fun h7 => ?_)
    · obtain ⟨j, hj, rfl⟩ := inb_nI (n := 100) (by decide) (inb_t h1 (ngt99 h7))
      rw [inb_t h1 (ngt99 h7), nI_clamp (n := j) (by omega)]
      refine r_aload_n (i := 0) 13 dX7_ahead_12 rfl rfl rfl ?_
      refine r_getf 16 dX7_ahead_13 rfl fl_X7_10 rfl rfl ?_
      refine r_aload_n (i := 0) 17 dX7_ahead_16 rfl rfl rfl ?_
      refine r_getf 20 dX7_ahead_17 rfl fl_X7_10 rfl rfl ?_
      refine r_getf 23 dX7_ahead_20 rfl fl_X7_110 rfl rfl ?_
      rw [hx]
      refine r_iload_n (i := 1) 24 dX7_ahead_23 rfl rfl rfl ?_
      refine r_callVi [1, 2, 3, 4, 5, 6, 7, 8] 27 dX7_ahead_24 rfl ykX0_afterYears lk_X7_188 (e_afterYears hN hT.2.1 (by omega)) rfl rfl (sb_now _ _ _ _ _ _ _ _ _ _ _ _ _ _) rfl rfl rfl rfl ⟨Nat.le_refl _, Nat.le_refl _⟩ ?_
      exact r_reti dX7_ahead_27 rfl (by first | rfl | exact bI_nar _) ⟨Nat.le_refl _, Nat.le_refl _⟩ (fun _ => rfl) (⟨rfl, hC0⟩)
    · refine r_iconst (v := (-1)) 11 dX7_ahead_10 rfl rfl ?_
      exact r_reti dX7_ahead_11 rfl (by first | rfl | exact bI_nar _) ⟨Nat.le_refl _, Nat.le_refl _⟩ (fun _ => rfl) (⟨by first | rw [inb_f1 h1]; rfl | rw [inb_f2 (n := 100) (gt99 h7)]; rfl, hC0⟩)
theorem p_next (hC : CX S w) (x : Int32) : mm_e (d + 3) yX7_next mX7_next [.ref 0, .int x] w (QX (s_next S x) S) := by
  have hC0 := hC
  obtain ⟨hT, N, Z, kp, R, Si, Sr, Ta, I, J, H0, H1, H2, H3, tn, rfl, hN, hx, hy, ⟨ht, hb⟩, hf, hs, ⟨hk0, hk1⟩, hI, hJ, ⟨s0, s1, s2, s3⟩, hn⟩ := hC
  have l0 := lt31 hN hT.2.1
  have h6 := hN.n6
  have h4 := hN.g4
  have h5 := hN.b4
  have p6 := p2_le h6
  refine e_of [some (.ref 0), some (.int x)] rfl (by decide) rfl rfl rfl ?_
  rw [s_next]
  cases g : inb (nI (2 ^ sN (tA S))) x with
  | false =>
    refine r_aload_n (i := 0) 1 dX7_next_0 rfl rfl rfl ?_
    refine r_getf 4 dX7_next_1 rfl fl_X7_10 rfl rfl ?_
    refine r_iload_n (i := 1) 5 dX7_next_4 rfl rfl rfl ?_
    refine r_callVi [1, 2, 3, 4, 5, 6, 7, 8] 8 dX7_next_5 rfl ykX0_hasState lk_X7_191 (e_hasState hN.th h6 x) rfl rfl (sb_now _ _ _ _ _ _ _ _ _ _ _ _ _ _) rfl rfl rfl rfl ⟨Nat.le_refl _, Nat.le_refl _⟩ ?_
    rw [g]
    refine r_if_ne 13 11 dX7_next_8 rfl rfl (fun h8 => absurd rfl h8) (fun h8 => ?_)
    refine r_iconst (v := (-1)) 12 dX7_next_11 rfl rfl ?_
    exact r_reti dX7_next_12 rfl (by first | rfl | exact bI_nar _) ⟨Nat.le_refl _, Nat.le_refl _⟩ (fun _ => rfl) (⟨rfl, hC0⟩)
  | true =>
    obtain ⟨i, hi, rfl⟩ := inb_nI (by omega) g
    rw [nI_clamp (n := i) (by omega)]
    refine r_aload_n (i := 0) 1 dX7_next_0 rfl rfl rfl ?_
    refine r_getf 4 dX7_next_1 rfl fl_X7_10 rfl rfl ?_
    refine r_iload_n (i := 1) 5 dX7_next_4 rfl rfl rfl ?_
    refine r_callVi [1, 2, 3, 4, 5, 6, 7, 8] 8 dX7_next_5 rfl ykX0_hasState lk_X7_191 (e_hasState hN.th h6 (nI i)) rfl rfl (sb_now _ _ _ _ _ _ _ _ _ _ _ _ _ _) rfl rfl rfl rfl ⟨Nat.le_refl _, Nat.le_refl _⟩ ?_
    rw [g]
    refine r_if_ne 13 11 dX7_next_8 rfl rfl (fun h8 => ?_) (fun h8 => absurd h8 (by decide))
    refine r_aload_n (i := 0) 14 dX7_next_13 rfl rfl rfl ?_
    refine r_getf 17 dX7_next_14 rfl fl_X7_10 rfl rfl ?_
    refine r_iload_n (i := 1) 18 dX7_next_17 rfl rfl rfl ?_
    refine r_callVi [1, 2, 3, 4, 5, 6, 7, 8] 21 dX7_next_18 rfl ykX0_afterYear lk_X7_194 (e_afterYear hN (by omega)) rfl rfl (sb_now _ _ _ _ _ _ _ _ _ _ _ _ _ _) rfl rfl rfl rfl ⟨Nat.le_refl _, Nat.le_refl _⟩ ?_
    exact r_reti dX7_next_21 rfl (by first | rfl | exact bI_nar _) ⟨Nat.le_refl _, Nat.le_refl _⟩ (fun _ => rfl) (⟨rfl, hC0⟩)
theorem l_clash (hC0 : CX S (wX N Z kp R Si Sr Ta I J H0 H1 H2 H3 tn)) (hN : fok N (tA S)) (hT : tX S < 2 ^ sN (tA S)) : ∀ (k m : Nat), k + m = 100 → mm_r (d + 4) mX7_clash (QX (clf (tA S) (tX S) k m) S) 10 [some (.ref 0), some (.int (nI (ny (tA S) m (tX S)))), some (.int (nI m))] [] (wX N Z kp R Si Sr Ta I J H0 H1 H2 H3 tn) := by
  intro k
  induction k with
  | zero =>
    intro m hm
    have : m = 100 := by omega
    subst this
    refine r_iload_n (i := 2) 11 dX7_clash_10 rfl rfl rfl ?_
    refine r_bipush (v := 99) 13 dX7_clash_11 rfl rfl ?_
    refine r_icmp_gt 44 16 dX7_clash_13 rfl rfl (fun h13 => ?_) (fun h13 => absurd (show (99 : Int32) < nI 100 by decide) h13)
    refine r_bipush (v := (-4)) 46 dX7_clash_44 rfl rfl ?_
    exact r_reti dX7_clash_46 rfl (by first | rfl | exact bI_nar _) ⟨Nat.le_refl _, Nat.le_refl _⟩ (fun _ => rfl) (⟨rfl, hC0⟩)
  | succ k ih =>
    intro m hm
    have l1 := lt31 hN (ny_lt hT m)
    rw [clf]
    refine r_iload_n (i := 2) 11 dX7_clash_10 rfl rfl rfl ?_
    refine r_bipush (v := 99) 13 dX7_clash_11 rfl rfl ?_
    refine r_icmp_gt 44 16 dX7_clash_13 rfl rfl (fun h13 => absurd (blt_of (a := 99) (b := m) (by decide) (by omega) h13) (by omega)) (fun h13 => ?_)
    refine r_aload_n (i := 0) 17 dX7_clash_16 rfl rfl rfl ?_
    refine r_getf 20 dX7_clash_17 rfl fl_X7_10 rfl rfl ?_
    refine r_iload_n (i := 1) 21 dX7_clash_20 rfl rfl rfl ?_
    refine r_callVi [1, 2, 3, 4, 5, 6, 7, 8] 24 dX7_clash_21 rfl ykX0_allows lk_X7_113 (e_allows hN l1) rfl rfl (sb_now _ _ _ _ _ _ _ _ _ _ _ _ _ _) rfl rfl rfl rfl ⟨Nat.le_refl _, Nat.le_refl _⟩ ?_
    refine r_if_ne 29 27 dX7_clash_24 rfl rfl (fun h24 => ?_) (fun h24 => ?_)
    · have g := bI_ne0 h24
      rw [g, if_pos rfl]
      refine r_aload_n (i := 0) 30 dX7_clash_29 rfl rfl rfl ?_
      refine r_getf 33 dX7_clash_30 rfl fl_X7_10 rfl rfl ?_
      refine r_iload_n (i := 1) 34 dX7_clash_33 rfl rfl rfl ?_
      refine r_callVi [1, 2, 3, 4, 5, 6, 7, 8] 37 dX7_clash_34 rfl ykX0_afterYear lk_X7_194 (e_afterYear hN l1) rfl rfl (sb_now _ _ _ _ _ _ _ _ _ _ _ _ _ _) rfl rfl rfl rfl ⟨Nat.le_refl _, Nat.le_refl _⟩ ?_
      refine r_istore_n (i := 1) 38 dX7_clash_37 rfl rfl rfl ?_
      refine r_iinc (i := 2) 41 dX7_clash_38 rfl rfl (by first | exact nI_1 _ | rfl) rfl ?_
      refine r_goto 10 dX7_clash_41 rfl ?_
      exact ih (m + 1) (by omega)
    · have g := bI_eq0 h24
      rw [g, if_neg (by decide)]
      refine r_iload_n (i := 2) 28 dX7_clash_27 rfl rfl rfl ?_
      exact r_reti dX7_clash_28 rfl (by first | rfl | exact bI_nar _) ⟨Nat.le_refl _, Nat.le_refl _⟩ (fun _ => rfl) (⟨rfl, hC0⟩)
theorem p_clash (hC : CX S w) : mm_e (d + 4) yX7_clash mX7_clash [.ref 0] w (QX (s_clash S) S) := by
  have hC0 := hC
  obtain ⟨hT, N, Z, kp, R, Si, Sr, Ta, I, J, H0, H1, H2, H3, tn, rfl, hN, hx, hy, ⟨ht, hb⟩, hf, hs, ⟨hk0, hk1⟩, hI, hJ, ⟨s0, s1, s2, s3⟩, hn⟩ := hC
  have l0 := lt31 hN hT.2.1
  have h6 := hN.n6
  have h4 := hN.g4
  have h5 := hN.b4
  refine e_of [some (.ref 0), none, none] rfl (by decide) rfl rfl rfl ?_
  refine r_aload_n (i := 0) 1 dX7_clash_0 rfl rfl rfl ?_
  refine r_getf 4 dX7_clash_1 rfl fl_X7_10 rfl rfl ?_
  refine r_getf 7 dX7_clash_4 rfl fl_X7_110 rfl rfl ?_
  rw [hx]
  refine r_istore_n (i := 1) 8 dX7_clash_7 rfl rfl rfl ?_
  refine r_iconst (v := 0) 9 dX7_clash_8 rfl rfl ?_
  refine r_istore_n (i := 2) 10 dX7_clash_9 rfl rfl rfl ?_
  exact l_clash hC0 hN hT.2.1 100 0 rfl
end XA
