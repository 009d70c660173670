section XE
variable {d : Nat} {A : sA} {S : sT} {w : mm_W} {N Z : FlT} {kp : Nat → Int32} {R : RdT} {Si : SiT} {Sr : SrT} {Ta : TaT} {I J : FlT} {H0 H1 H2 H3 : ShT} {tn : Int32}
theorem updN_updN (f : Nat → Nat) (k v v' : Nat) : updN (updN f k v) k v' = updN f k v' := by
  funext i; by_cases q : i = k <;> simp [updN, q]
theorem updN_self (f : Nat → Nat) (k : Nat) : updN f k (f k) = f := by
  funext i; by_cases q : i = k <;> simp [updN, q]
theorem aF_aF (A : sA) (f v v' : Nat) : aF (aF A f v) f v' = aF A f v' := by
  show (A.1, A.2.1, updN (updN _ _ _) _ _, A.2.2.2) = (A.1, A.2.1, updN _ _ _, A.2.2.2); rw [updN_updN]
theorem aF_self (A : sA) (f : Nat) : aF A f (sF A f) = A := by
  show (_, _, updN _ _ _, _) = _; rw [updN_self]
theorem amG_le (A : sA) (hA : sN A ≤ 6) (f : Nat) (q : Nat × Int32) (hq : q.1 ≤ 64) : ∀ g, (amG A f g q).1 ≤ 64
  | 0 => hq
  | g + 1 => by
    have h1 := amG_le A hA f q hq g
    have h2 : sct (aF A f g) ≤ 2 ^ sN A := fb_ct_le _ _
    have h3 := p2_le hA
    rw [amG]
    split
    · show sct _ ≤ 64; omega
    · exact h1
theorem amF_le (A : sA) (hA : sN A ≤ 6) : ∀ f, (amF A f).1 ≤ 64
  | 0 => by have h2 : sct A ≤ 2 ^ sN A := fb_ct_le _ _; have h3 := p2_le hA; show sct A ≤ 64; omega
  | f + 1 => amG_le A hA f _ (amF_le A hA f) _
theorem mul10 {f g : Nat} (hf : f < 100) (hg : g < 100) : (10 : Int32) * nI f + nI g = nI (10 * f + g) := by
  rw [show (10 : Int32) = nI 10 from rfl, pk_mul, nI_add]
theorem l_amend2 (hZ : ∀ Z, CX S (wX N Z kp R Si Sr Ta I J H0 H1 H2 H3 tn)) (hN : fok N (tA S)) (what : Int32) {f : Nat} (hf : f < sN (tA S)) (q : Nat × Int32) (hq : q.1 ≤ 64) (Q : Option Value → mm_W → Prop) (out : ∀ (Z : FlT) (v : Nat) (o : Option Value), v < sN (tA S) → fok Z (aF (tA S) f v) → mm_r (d + 6) mX7_amend Q 106 [some (.ref 0), some (.int what), some (.int (nI (amG (tA S) f (sN (tA S)) q).1)), some (.int (amG (tA S) f (sN (tA S)) q).2), some (.int (nI f)), some (.int (nI (sN (tA S)))), o] [] (wX N Z kp R Si Sr Ta I J H0 H1 H2 H3 tn)) : ∀ (k g : Nat) (Z : FlT) (v : Nat) (o : Option Value), sN (tA S) - g = k → g ≤ sN (tA S) → v < sN (tA S) → fok Z (aF (tA S) f v) → mm_r (d + 6) mX7_amend Q 49 [some (.ref 0), some (.int what), some (.int (nI (amG (tA S) f g q).1)), some (.int (amG (tA S) f g q).2), some (.int (nI f)), some (.int (nI g)), o] [] (wX N Z kp R Si Sr Ta I J H0 H1 H2 H3 tn) := by
  have h6 := hN.n6
  have p6 := p2_le h6
  intro k
  induction k with
  | zero =>
    intro g Z v o hk hg hv hz
    have : g = sN (tA S) := by omega
    subst this
    refine r_iload (i := 5) 51 dX7_amend_49 rfl rfl ?_
    refine r_aload_n (i := 0) 52 dX7_amend_51 rfl rfl rfl ?_
    refine r_getf 55 dX7_amend_52 rfl fl_X7_10 rfl rfl ?_
    refine r_getf 58 dX7_amend_55 rfl fl_X7_98 rfl rfl ?_
    rw [hN.th]
    refine r_icmp_ge 106 61 dX7_amend_58 rfl rfl (fun h58 => ?_) (fun h58 => absurd (Int32.le_refl _) h58)
    exact out Z v o hv hz
  | succ k ih =>
    intro g Z v o hk hg hv hz
    have hg2 : g < sN (tA S) := by omega
    have hin : vp_in (nI f) 6 := vp_in_nI (by omega) (by decide)
    have hz2 : fok (fSF Z (upd (fFi Z) f (nI g))) (aF (tA S) f g) := by have := fok_F hz (f := f) (v := g) hg2; rw [aF_aF] at this; exact this
    have b1 : sct (aF (tA S) f g) ≤ 2 ^ sN (tA S) := fb_ct_le _ _
    have b2 := amG_le (tA S) h6 f q hq g
    refine r_iload (i := 5) 51 dX7_amend_49 rfl rfl ?_
    refine r_aload_n (i := 0) 52 dX7_amend_51 rfl rfl rfl ?_
    refine r_getf 55 dX7_amend_52 rfl fl_X7_10 rfl rfl ?_
    refine r_getf 58 dX7_amend_55 rfl fl_X7_98 rfl rfl ?_
    rw [hN.th]
    refine r_icmp_ge 106 61 dX7_amend_58 rfl rfl (fun h58 => absurd (ble_of (by omega) (by omega) h58) (by omega)) (fun h58 => ?_)
    refine r_aload_n (i := 0) 62 dX7_amend_61 rfl rfl rfl ?_
    refine r_getf 65 dX7_amend_62 rfl fl_X7_16 rfl rfl ?_
    refine r_getf 68 dX7_amend_65 rfl fl_X7_131 rfl rfl ?_
    refine r_iload (i := 4) 70 dX7_amend_68 rfl rfl ?_
    refine r_iload (i := 5) 72 dX7_amend_70 rfl rfl ?_
    refine r_iast 73 dX7_amend_72 rfl rfl (by assumption) ?_
    rw [nI_clamp (n := f) (by omega)]
    refine r_eq (w' := wX N (fSF Z (upd (fFi Z) f (nI g))) kp R Si Sr Ta I J H0 H1 H2 H3 tn) ?_ rfl rfl rfl
    have e := ih (g + 1) (fSF Z (upd (fFi Z) f (nI g))) g (some (.int (nI (sct (aF (tA S) f g))))) (by omega) (by omega) hg2 hz2
    rw [amG] at e
    refine r_aload_n (i := 0) 74 dX7_amend_73 rfl rfl rfl ?_
    refine r_getf 77 dX7_amend_74 rfl fl_X7_16 rfl rfl ?_
    refine r_callVi [9, 10, 11, 12, 13, 14, 15, 16] 80 dX7_amend_77 rfl ykX0_settled lk_X7_254 (e_settled hz2) rfl rfl (sb_tri _ _ _ _ _ _ _ _ _ _ _ _ _ _) rfl rfl rfl rfl ⟨Nat.le_refl _, Nat.le_refl _⟩ ?_
    refine r_istore (i := 6) 82 dX7_amend_80 rfl rfl ?_
    refine r_iload (i := 6) 84 dX7_amend_82 rfl rfl ?_
    refine r_iload_n (i := 2) 85 dX7_amend_84 rfl rfl rfl ?_
    refine r_icmp_le 100 88 dX7_amend_85 rfl rfl (fun h85 => ?_) (fun h85 => ?_)
    · have z := ble_of (by omega) (by omega) h85
      rw [if_neg (by omega)] at e
      refine r_iinc (i := 5) 103 dX7_amend_100 rfl rfl (by first | exact nI_1 _ | rfl) rfl ?_
      refine r_goto 49 dX7_amend_103 rfl ?_
      exact e
    · have z := bnle_of (by omega) (by omega) h85
      rw [if_pos z, ← mul10 (by omega) (by omega)] at e
      refine r_iload (i := 6) 90 dX7_amend_88 rfl rfl ?_
      refine r_istore_n (i := 2) 91 dX7_amend_90 rfl rfl rfl ?_
      refine r_bipush (v := 10) 93 dX7_amend_91 rfl rfl ?_
      refine r_iload (i := 4) 95 dX7_amend_93 rfl rfl ?_
      refine r_imul 96 dX7_amend_95 rfl ?_
      refine r_iload (i := 5) 98 dX7_amend_96 rfl rfl ?_
      refine r_iadd 99 dX7_amend_98 rfl ?_
      refine r_istore_n (i := 3) 100 dX7_amend_99 rfl rfl rfl ?_
      refine r_iinc (i := 5) 103 dX7_amend_100 rfl rfl (by first | exact nI_1 _ | rfl) rfl ?_
      refine r_goto 49 dX7_amend_103 rfl ?_
      exact e
theorem l_amend1 (hZ : ∀ Z, CX S (wX N Z kp R Si Sr Ta I J H0 H1 H2 H3 tn)) (hN : fok N (tA S)) (what : Int32) : ∀ (k f : Nat) (Z : FlT) (o5 o6 : Option Value), sN (tA S) - f = k → f ≤ sN (tA S) → fok Z (tA S) → mm_r (d + 6) mX7_amend (QX (pick what (amF (tA S) (sN (tA S)))) S) 34 [some (.ref 0), some (.int what), some (.int (nI (amF (tA S) f).1)), some (.int (amF (tA S) f).2), some (.int (nI f)), o5, o6] [] (wX N Z kp R Si Sr Ta I J H0 H1 H2 H3 tn) := by
  have h6 := hN.n6
  intro k
  induction k with
  | zero =>
    intro f Z o5 o6 hk hf hz
    have : f = sN (tA S) := by omega
    subst this
    refine r_iload (i := 4) 36 dX7_amend_34 rfl rfl ?_
    refine r_aload_n (i := 0) 37 dX7_amend_36 rfl rfl rfl ?_
    refine r_getf 40 dX7_amend_37 rfl fl_X7_10 rfl rfl ?_
    refine r_getf 43 dX7_amend_40 rfl fl_X7_98 rfl rfl ?_
    rw [hN.th]
    refine r_icmp_ge 132 46 dX7_amend_43 rfl rfl (fun h43 => ?_) (fun h43 => absurd (Int32.le_refl _) h43)
    refine r_iload_n (i := 1) 133 dX7_amend_132 rfl rfl rfl ?_
    refine r_if_eq 142 136 dX7_amend_133 rfl rfl (fun h133 => ?_) (fun h133 => ?_)
    · refine r_iload_n (i := 3) 143 dX7_amend_142 rfl rfl rfl ?_
      refine r_goto 147 dX7_amend_143 rfl ?_
      exact r_reti dX7_amend_147 rfl (by first | rfl | exact bI_nar _) ⟨Nat.le_refl _, Nat.le_refl _⟩ (fun _ => rfl) (⟨by simp_all [pick], hZ _⟩)
    · refine r_iload_n (i := 3) 137 dX7_amend_136 rfl rfl rfl ?_
      refine r_bipush (v := (-4)) 139 dX7_amend_137 rfl rfl ?_
      refine r_icmp_ne 146 142 dX7_amend_139 rfl rfl (fun h139 => ?_) (fun h139 => ?_)
      · refine r_iload_n (i := 2) 147 dX7_amend_146 rfl rfl rfl ?_
        exact r_reti dX7_amend_147 rfl (by first | rfl | exact bI_nar _) ⟨Nat.le_refl _, Nat.le_refl _⟩ (fun _ => rfl) (⟨by simp_all [pick], hZ _⟩)
      · refine r_iload_n (i := 3) 143 dX7_amend_142 rfl rfl rfl ?_
        refine r_goto 147 dX7_amend_143 rfl ?_
        exact r_reti dX7_amend_147 rfl (by first | rfl | exact bI_nar _) ⟨Nat.le_refl _, Nat.le_refl _⟩ (fun _ => rfl) (⟨by simp_all [pick], hZ _⟩)
  | succ k ih =>
    intro f Z o5 o6 hk hf hz
    have hf2 : f < sN (tA S) := by omega
    have hin : vp_in (nI f) 6 := vp_in_nI (by omega) (by decide)
    obtain ⟨k1, k2, k3, k4, k5, k6⟩ := hN.at hf2
    refine r_iload (i := 4) 36 dX7_amend_34 rfl rfl ?_
    refine r_aload_n (i := 0) 37 dX7_amend_36 rfl rfl rfl ?_
    refine r_getf 40 dX7_amend_37 rfl fl_X7_10 rfl rfl ?_
    refine r_getf 43 dX7_amend_40 rfl fl_X7_98 rfl rfl ?_
    rw [hN.th]
    refine r_icmp_ge 132 46 dX7_amend_43 rfl rfl (fun h43 => absurd (ble_of (by omega) (by omega) h43) (by omega)) (fun h43 => ?_)
    refine r_iconst (v := 0) 47 dX7_amend_46 rfl rfl ?_
    refine r_istore (i := 5) 49 dX7_amend_47 rfl rfl ?_
    refine l_amend2 hZ hN what hf2 (amF (tA S) f) (amF_le _ h6 f) _ ?_ _ 0 Z (sF (tA S) f) _ rfl (Nat.zero_le _) k5 (by rw [aF_self]; exact hz)
    intro Z v o hv hz
    have hz2 : fok (fSF Z (upd (fFi Z) f (nI (sF (tA S) f)))) (tA S) := by have := fok_F hz (f := f) (v := sF (tA S) f) k5; rw [aF_aF, aF_self] at this; exact this
    refine r_aload_n (i := 0) 107 dX7_amend_106 rfl rfl rfl ?_
    refine r_getf 110 dX7_amend_107 rfl fl_X7_16 rfl rfl ?_
    refine r_getf 113 dX7_amend_110 rfl fl_X7_131 rfl rfl ?_
    refine r_iload (i := 4) 115 dX7_amend_113 rfl rfl ?_
    refine r_aload_n (i := 0) 116 dX7_amend_115 rfl rfl rfl ?_
    refine r_getf 119 dX7_amend_116 rfl fl_X7_10 rfl rfl ?_
    refine r_getf 122 dX7_amend_119 rfl fl_X7_131 rfl rfl ?_
    refine r_iload (i := 4) 124 dX7_amend_122 rfl rfl ?_
    refine r_iald 125 dX7_amend_124 rfl rfl (by assumption) ?_
    refine r_iast 126 dX7_amend_125 rfl rfl (by assumption) ?_
    rw [nI_clamp (n := f) (by omega), k2]
    refine r_eq (w' := wX N (fSF Z (upd (fFi Z) f (nI (sF (tA S) f)))) kp R Si Sr Ta I J H0 H1 H2 H3 tn) ?_ rfl rfl rfl
    refine r_iinc (i := 4) 129 dX7_amend_126 rfl rfl (by first | exact nI_1 _ | rfl) rfl ?_
    refine r_goto 34 dX7_amend_129 rfl ?_
    exact ih (f + 1) _ _ _ (by omega) (by omega) hz2
theorem p_amend (hC : CX S w) (what : Int32) : mm_e (d + 6) yX7_amend mX7_amend [.ref 0, .int what] w (QX (s_amend S what) S) := by
  have hC0 := hC
  obtain ⟨hT, N, Z, kp, R, Si, Sr, Ta, I, J, H0, H1, H2, H3, tn, rfl, hN, hx, hy, ⟨ht, hb⟩, hf, hs, ⟨hk0, hk1⟩, hI, hJ, ⟨s0, s1, s2, s3⟩, hn⟩ := hC
  have l0 := lt31 hN hT.2.1
  have h6 := hN.n6
  have h4 := hN.g4
  have h5 := hN.b4
  have hZ : ∀ Z, CX S (wX N Z kp R Si Sr Ta I J H0 H1 H2 H3 tn) := fun Z => ⟨hT, N, Z, kp, R, Si, Sr, Ta, I, J, H0, H1, H2, H3, tn, rfl, hN, hx, hy, ⟨ht, hb⟩, hf, hs, ⟨hk0, hk1⟩, hI, hJ, ⟨s0, s1, s2, s3⟩, hn⟩
  refine e_of [some (.ref 0), some (.int what), none, none, none, none, none] rfl (by decide) rfl rfl rfl ?_
  rw [s_amend, isb]
  refine r_iload_n (i := 1) 1 dX7_amend_0 rfl rfl rfl ?_
  refine r_callSi [] 4 dX7_amend_1 rfl ykX7_isBit lk_X7_148 (e_isBit what) rfl rfl rfl ⟨Nat.le_refl _, Nat.le_refl _⟩ ?_
  refine r_if_ne 9 7 dX7_amend_4 rfl rfl (fun h4 => ?_) (fun h4 => ?_)
  · have g := bI_ne0 h4
    rw [g]
    refine r_aload_n (i := 0) 10 dX7_amend_9 rfl rfl rfl ?_
    refine r_getf 13 dX7_amend_10 rfl fl_X7_10 rfl rfl ?_
    refine r_callVi [1, 2, 3, 4, 5, 6, 7, 8] 16 dX7_amend_13 rfl ykX0_settled lk_X7_254 (e_settled hN) rfl rfl (sb_now _ _ _ _ _ _ _ _ _ _ _ _ _ _) rfl rfl rfl rfl ⟨Nat.le_refl _, Nat.le_refl _⟩ ?_
    refine r_istore_n (i := 2) 17 dX7_amend_16 rfl rfl rfl ?_
    refine r_bipush (v := (-4)) 19 dX7_amend_17 rfl rfl ?_
    refine r_istore_n (i := 3) 20 dX7_amend_19 rfl rfl rfl ?_
    refine r_aload_n (i := 0) 21 dX7_amend_20 rfl rfl rfl ?_
    refine r_getf 24 dX7_amend_21 rfl fl_X7_16 rfl rfl ?_
    refine r_aload_n (i := 0) 25 dX7_amend_24 rfl rfl rfl ?_
    refine r_getf 28 dX7_amend_25 rfl fl_X7_10 rfl rfl ?_
    refine r_callVu [9, 10, 11, 12, 13, 14, 15, 16, 1, 2, 3, 4, 5, 6, 7, 8] 31 dX7_amend_28 rfl ykX0_copyFrom lk_X7_88 (e_copyFrom) rfl rfl (sb_trial _ _ _ _ _ _ _ _ _ _ _ _ _ _) rfl rfl rfl rfl ⟨Nat.le_refl _, Nat.le_refl _⟩ ?_
    rw [bk_trial]
    refine r_iconst (v := 0) 32 dX7_amend_31 rfl rfl ?_
    refine r_istore (i := 4) 34 dX7_amend_32 rfl rfl ?_
    exact l_amend1 hZ hN what _ 0 (fCpy Z N) none none rfl (Nat.zero_le _) (fok_cpy hN)
  · have g := bI_eq0 h4
    rw [g]
    refine r_iconst (v := (-1)) 8 dX7_amend_7 rfl rfl ?_
    exact r_reti dX7_amend_8 rfl (by first | rfl | exact bI_nar _) ⟨Nat.le_refl _, Nat.le_refl _⟩ (fun _ => rfl) (⟨rfl, hC0⟩)
theorem stG_le (A : sA) (hA : sN A ≤ 6) (f : Nat) (q : Nat × Int32) (hq : q.1 ≤ 64) : ∀ g, (stG A f g q).1 ≤ 64
  | 0 => hq
  | g + 1 => by
    have h1 := stG_le A hA f q hq g
    rw [stG]
    split
    · rename_i z; show scw _ _ _ ≤ 64; omega
    · exact h1
theorem stF_le (A : sA) (hA : sN A ≤ 6) : ∀ f, (stF A f).1 ≤ 64
  | 0 => by have h2 : sct A ≤ 2 ^ sN A := fb_ct_le _ _; have h3 := p2_le hA; show sct A ≤ 64; omega
  | f + 1 => stG_le A hA f _ (stF_le A hA f) _
theorem l_strict2 (hN : fok N (tA S)) (what : Int32) {f : Nat} (hf : f < sN (tA S)) (q : Nat × Int32) (hq : q.1 ≤ 64) (Q : Option Value → mm_W → Prop) (out : ∀ (o5 o : Option Value), mm_r (d + 6) mX7_strict Q 96 [some (.ref 0), some (.int what), some (.int (nI (stG (tA S) f (sN (tA S) - (f + 1)) q).1)), some (.int (stG (tA S) f (sN (tA S) - (f + 1)) q).2), some (.int (nI f)), o5, o] [] (wX N Z kp R Si Sr Ta I J H0 H1 H2 H3 tn)) : ∀ (k g : Nat) (o : Option Value), sN (tA S) - (f + 1) - g = k → g ≤ sN (tA S) - (f + 1) → mm_r (d + 6) mX7_strict Q 41 [some (.ref 0), some (.int what), some (.int (nI (stG (tA S) f g q).1)), some (.int (stG (tA S) f g q).2), some (.int (nI f)), some (.int (nI (f + 1 + g))), o] [] (wX N Z kp R Si Sr Ta I J H0 H1 H2 H3 tn) := by
  have h6 := hN.n6
  have p6 := p2_le h6
  intro k
  induction k with
  | zero =>
    intro g o hk hg
    have : g = sN (tA S) - (f + 1) := by omega
    subst this
    have e : f + 1 + (sN (tA S) - (f + 1)) = sN (tA S) := by omega
    refine r_iload (i := 5) 43 dX7_strict_41 rfl rfl ?_
    refine r_aload_n (i := 0) 44 dX7_strict_43 rfl rfl rfl ?_
    refine r_getf 47 dX7_strict_44 rfl fl_X7_10 rfl rfl ?_
    refine r_getf 50 dX7_strict_47 rfl fl_X7_98 rfl rfl ?_
    rw [hN.th, e]
    refine r_icmp_ge 96 53 dX7_strict_50 rfl rfl (fun h50 => ?_) (fun h50 => absurd (Int32.le_refl _) h50)
    exact out _ o
  | succ k ih =>
    intro g o hk hg
    have b1 : scw (tA S) f (f + 1 + g) ≤ 2 ^ sN (tA S) := fb_ct_le _ _
    have b2 := stG_le (tA S) h6 f q hq g
    have e := ih (g + 1) (some (.int (nI (scw (tA S) f (f + 1 + g))))) (by omega) (by omega)
    rw [stG] at e
    refine r_iload (i := 5) 43 dX7_strict_41 rfl rfl ?_
    refine r_aload_n (i := 0) 44 dX7_strict_43 rfl rfl rfl ?_
    refine r_getf 47 dX7_strict_44 rfl fl_X7_10 rfl rfl ?_
    refine r_getf 50 dX7_strict_47 rfl fl_X7_98 rfl rfl ?_
    rw [hN.th]
    refine r_icmp_ge 96 53 dX7_strict_50 rfl rfl (fun h50 => absurd (ble_of (by omega) (by omega) h50) (by omega)) (fun h50 => ?_)
    refine r_aload_n (i := 0) 54 dX7_strict_53 rfl rfl rfl ?_
    refine r_getf 57 dX7_strict_54 rfl fl_X7_10 rfl rfl ?_
    refine r_iload (i := 4) 59 dX7_strict_57 rfl rfl ?_
    refine r_iload (i := 5) 61 dX7_strict_59 rfl rfl ?_
    refine r_callVi [1, 2, 3, 4, 5, 6, 7, 8] 64 dX7_strict_61 rfl ykX0_settledWithout lk_X7_257 (e_settledWithout hN hf (by omega)) rfl rfl (sb_now _ _ _ _ _ _ _ _ _ _ _ _ _ _) rfl rfl rfl rfl ⟨Nat.le_refl _, Nat.le_refl _⟩ ?_
    refine r_istore (i := 6) 66 dX7_strict_64 rfl rfl ?_
    refine r_iload (i := 6) 68 dX7_strict_66 rfl rfl ?_
    refine r_iconst (v := 1) 69 dX7_strict_68 rfl rfl ?_
    refine r_icmp_lt 90 72 dX7_strict_69 rfl rfl (fun h69 => ?_) (fun h69 => ?_)
    · have z := blt_of (b := 1) (by omega) (by decide) h69
      rw [if_neg (by omega)] at e
      refine r_iinc (i := 5) 93 dX7_strict_90 rfl rfl (by first | exact nI_1 _ | rfl) rfl ?_
      refine r_goto 41 dX7_strict_93 rfl ?_
      exact e
    · have z := bnlt_of (b := 1) (by omega) (by decide) h69
      refine r_iload (i := 6) 74 dX7_strict_72 rfl rfl ?_
      refine r_iload_n (i := 2) 75 dX7_strict_74 rfl rfl rfl ?_
      refine r_icmp_ge 90 78 dX7_strict_75 rfl rfl (fun h75 => ?_) (fun h75 => ?_)
      · have z2 := ble_of (by omega) (by omega) h75
        rw [if_neg (by omega)] at e
        refine r_iinc (i := 5) 93 dX7_strict_90 rfl rfl (by first | exact nI_1 _ | rfl) rfl ?_
        refine r_goto 41 dX7_strict_93 rfl ?_
        exact e
      · have z2 := bnle_of (by omega) (by omega) h75
        rw [if_pos ⟨z, z2⟩, ← mul10 (by omega) (by omega)] at e
        refine r_iload (i := 6) 80 dX7_strict_78 rfl rfl ?_
        refine r_istore_n (i := 2) 81 dX7_strict_80 rfl rfl rfl ?_
        refine r_bipush (v := 10) 83 dX7_strict_81 rfl rfl ?_
        refine r_iload (i := 4) 85 dX7_strict_83 rfl rfl ?_
        refine r_imul 86 dX7_strict_85 rfl ?_
        refine r_iload (i := 5) 88 dX7_strict_86 rfl rfl ?_
        refine r_iadd 89 dX7_strict_88 rfl ?_
        refine r_istore_n (i := 3) 90 dX7_strict_89 rfl rfl rfl ?_
        refine r_iinc (i := 5) 93 dX7_strict_90 rfl rfl (by first | exact nI_1 _ | rfl) rfl ?_
        refine r_goto 41 dX7_strict_93 rfl ?_
        exact e
theorem l_strict1 (hC0 : CX S (wX N Z kp R Si Sr Ta I J H0 H1 H2 H3 tn)) (hN : fok N (tA S)) (what : Int32) : ∀ (k f : Nat) (o5 o6 : Option Value), sN (tA S) - f = k → f ≤ sN (tA S) → mm_r (d + 6) mX7_strict (QX (pick what (stF (tA S) (sN (tA S)))) S) 23 [some (.ref 0), some (.int what), some (.int (nI (stF (tA S) f).1)), some (.int (stF (tA S) f).2), some (.int (nI f)), o5, o6] [] (wX N Z kp R Si Sr Ta I J H0 H1 H2 H3 tn) := by
  have h6 := hN.n6
  intro k
  induction k with
  | zero =>
    intro f o5 o6 hk hf
    have : f = sN (tA S) := by omega
    subst this
    refine r_iload (i := 4) 25 dX7_strict_23 rfl rfl ?_
    refine r_aload_n (i := 0) 26 dX7_strict_25 rfl rfl rfl ?_
    refine r_getf 29 dX7_strict_26 rfl fl_X7_10 rfl rfl ?_
    refine r_getf 32 dX7_strict_29 rfl fl_X7_98 rfl rfl ?_
    rw [hN.th]
    refine r_icmp_ge 102 35 dX7_strict_32 rfl rfl (fun h32 => ?_) (fun h32 => absurd (Int32.le_refl _) h32)
    refine r_iload_n (i := 1) 103 dX7_strict_102 rfl rfl rfl ?_
    refine r_if_eq 112 106 dX7_strict_103 rfl rfl (fun h103 => ?_) (fun h103 => ?_)
    · refine r_iload_n (i := 3) 113 dX7_strict_112 rfl rfl rfl ?_
      refine r_goto 117 dX7_strict_113 rfl ?_
      exact r_reti dX7_strict_117 rfl (by first | rfl | exact bI_nar _) ⟨Nat.le_refl _, Nat.le_refl _⟩ (fun _ => rfl) (⟨by simp_all [pick], hC0⟩)
    · refine r_iload_n (i := 3) 107 dX7_strict_106 rfl rfl rfl ?_
      refine r_bipush (v := (-4)) 109 dX7_strict_107 rfl rfl ?_
      refine r_icmp_ne 116 112 dX7_strict_109 rfl rfl (fun h109 => ?_) (fun h109 => ?_)
      · refine r_iload_n (i := 2) 117 dX7_strict_116 rfl rfl rfl ?_
        exact r_reti dX7_strict_117 rfl (by first | rfl | exact bI_nar _) ⟨Nat.le_refl _, Nat.le_refl _⟩ (fun _ => rfl) (⟨by simp_all [pick], hC0⟩)
      · refine r_iload_n (i := 3) 113 dX7_strict_112 rfl rfl rfl ?_
        refine r_goto 117 dX7_strict_113 rfl ?_
        exact r_reti dX7_strict_117 rfl (by first | rfl | exact bI_nar _) ⟨Nat.le_refl _, Nat.le_refl _⟩ (fun _ => rfl) (⟨by simp_all [pick], hC0⟩)
  | succ k ih =>
    intro f o5 o6 hk hf
    have hf2 : f < sN (tA S) := by omega
    refine r_iload (i := 4) 25 dX7_strict_23 rfl rfl ?_
    refine r_aload_n (i := 0) 26 dX7_strict_25 rfl rfl rfl ?_
    refine r_getf 29 dX7_strict_26 rfl fl_X7_10 rfl rfl ?_
    refine r_getf 32 dX7_strict_29 rfl fl_X7_98 rfl rfl ?_
    rw [hN.th]
    refine r_icmp_ge 102 35 dX7_strict_32 rfl rfl (fun h32 => absurd (ble_of (by omega) (by omega) h32) (by omega)) (fun h32 => ?_)
    refine r_iload (i := 4) 37 dX7_strict_35 rfl rfl ?_
    refine r_iconst (v := 1) 38 dX7_strict_37 rfl rfl ?_
    refine r_iadd 39 dX7_strict_38 rfl ?_
    refine r_istore (i := 5) 41 dX7_strict_39 rfl rfl ?_
    rw [nI_1]
    refine l_strict2 hN what hf2 (stF (tA S) f) (stF_le _ h6 f) _ ?_ _ 0 _ rfl (Nat.zero_le _)
    intro o5 o
    refine r_iinc (i := 4) 99 dX7_strict_96 rfl rfl (by first | exact nI_1 _ | rfl) rfl ?_
    refine r_goto 23 dX7_strict_99 rfl ?_
    exact ih (f + 1) _ _ (by omega) (by omega)
theorem p_strict (hC : CX S w) (what : Int32) : mm_e (d + 6) yX7_strict mX7_strict [.ref 0, .int what] w (QX (s_strict S what) S) := by
  have hC0 := hC
  obtain ⟨hT, N, Z, kp, R, Si, Sr, Ta, I, J, H0, H1, H2, H3, tn, rfl, hN, hx, hy, ⟨ht, hb⟩, hf, hs, ⟨hk0, hk1⟩, hI, hJ, ⟨s0, s1, s2, s3⟩, hn⟩ := hC
  have l0 := lt31 hN hT.2.1
  have h6 := hN.n6
  have h4 := hN.g4
  have h5 := hN.b4
  refine e_of [some (.ref 0), some (.int what), none, none, none, none, none] rfl (by decide) rfl rfl rfl ?_
  rw [s_strict, isb]
  refine r_iload_n (i := 1) 1 dX7_strict_0 rfl rfl rfl ?_
  refine r_callSi [] 4 dX7_strict_1 rfl ykX7_isBit lk_X7_148 (e_isBit what) rfl rfl rfl ⟨Nat.le_refl _, Nat.le_refl _⟩ ?_
  refine r_if_ne 9 7 dX7_strict_4 rfl rfl (fun h4 => ?_) (fun h4 => ?_)
  · have g := bI_ne0 h4
    rw [g]
    refine r_aload_n (i := 0) 10 dX7_strict_9 rfl rfl rfl ?_
    refine r_getf 13 dX7_strict_10 rfl fl_X7_10 rfl rfl ?_
    refine r_callVi [1, 2, 3, 4, 5, 6, 7, 8] 16 dX7_strict_13 rfl ykX0_settled lk_X7_254 (e_settled hN) rfl rfl (sb_now _ _ _ _ _ _ _ _ _ _ _ _ _ _) rfl rfl rfl rfl ⟨Nat.le_refl _, Nat.le_refl _⟩ ?_
    refine r_istore_n (i := 2) 17 dX7_strict_16 rfl rfl rfl ?_
    refine r_bipush (v := (-4)) 19 dX7_strict_17 rfl rfl ?_
    refine r_istore_n (i := 3) 20 dX7_strict_19 rfl rfl rfl ?_
    refine r_iconst (v := 0) 21 dX7_strict_20 rfl rfl ?_
    refine r_istore (i := 4) 23 dX7_strict_21 rfl rfl ?_
    exact l_strict1 hC0 hN what _ 0 none none rfl (Nat.zero_le _)
  · have g := bI_eq0 h4
    rw [g]
    refine r_iconst (v := (-1)) 8 dX7_strict_7 rfl rfl ?_
    exact r_reti dX7_strict_8 rfl (by first | rfl | exact bI_nar _) ⟨Nat.le_refl _, Nat.le_refl _⟩ (fun _ => rfl) (⟨rfl, hC0⟩)
theorem lkF_le (A : sA) (V : sV) (n : Nat) (q : Nat × Int32) (hq : q.1 ≤ 64) : ∀ g, (lkF A V n g q).1 ≤ 64
  | 0 => hq
  | g + 1 => by
    have h1 := lkF_le A V n q hq g
    rw [lkF]
    split
    · rename_i z; show lkw _ _ _ _ ≤ 64; omega
    · exact h1
theorem lka_le (A : sA) (V : sV) (hA : sN A ≤ 6) : lka A V ≤ 64 := by have h2 : lka A V ≤ 2 ^ sN A := fb_ct_le _ _; have h3 := p2_le hA; omega
theorem lkN_le (A : sA) (V : sV) (hA : sN A ≤ 6) : ∀ n, (lkN A V n).1 ≤ 64
  | 0 => lka_le A V hA
  | n + 1 => lkF_le A V n _ (lkN_le A V hA n) _
/-- what is left after some years -/
def lft (A : sA) (V : sV) (n : Nat) (Si : SiT) : Prop := ∃ l, lok Si (lka A V) (fun i => ny A n (l i)) (sN A) ∧ gat V A (2 ^ sN A) (lka A V) l
theorem lft_ct {A : sA} {V : sV} {n f : Nat} {l : Nat → Nat} (h : gat V A (2 ^ sN A) (lka A V) l) : fb_ct (fun i => decide (tb (ny A n (l i)) f = 1)) (lka A V) = lkc A V n f := h.2 (fun x => decide (tb (ny A n x) f = 1))
theorem l_look2 (hN : fok N (tA S)) (what : Int32) {n : Nat} (hn : n < 10) (hl : lft (tA S) (tV S) n Si) (q : Nat × Int32) (hq : q.1 ≤ 64) (Q : Option Value → mm_W → Prop) (out : ∀ (o : Option Value), mm_r (d + 6) mX7_look Q 91 [some (.ref 0), some (.int what), some (.int (nI (lkF (tA S) (tV S) n (sN (tA S)) q).1)), some (.int (lkF (tA S) (tV S) n (sN (tA S)) q).2), some (.int (nI n)), some (.int (nI (sN (tA S)))), o] [] (wX N Z kp R Si Sr Ta I J H0 H1 H2 H3 tn)) : ∀ (k g : Nat) (o : Option Value), sN (tA S) - g = k → g ≤ sN (tA S) → mm_r (d + 6) mX7_look Q 44 [some (.ref 0), some (.int what), some (.int (nI (lkF (tA S) (tV S) n g q).1)), some (.int (lkF (tA S) (tV S) n g q).2), some (.int (nI n)), some (.int (nI g)), o] [] (wX N Z kp R Si Sr Ta I J H0 H1 H2 H3 tn) := by
  have h6 := hN.n6
  have p6 := p2_le h6
  intro k
  induction k with
  | zero =>
    intro g o hk hg
    have : g = sN (tA S) := by omega
    subst this
    refine r_iload (i := 5) 46 dX7_look_44 rfl rfl ?_
    refine r_aload_n (i := 0) 47 dX7_look_46 rfl rfl rfl ?_
    refine r_getf 50 dX7_look_47 rfl fl_X7_10 rfl rfl ?_
    refine r_getf 53 dX7_look_50 rfl fl_X7_98 rfl rfl ?_
    rw [hN.th]
    refine r_icmp_ge 91 56 dX7_look_53 rfl rfl (fun h53 => ?_) (fun h53 => absurd (Int32.le_refl _) h53)
    exact out o
  | succ k ih =>
    intro g o hk hg
    obtain ⟨l, hl1, hl2⟩ := hl
    have b0 := lka_le (tA S) (tV S) h6
    have b1 : lkc (tA S) (tV S) n g ≤ 2 ^ sN (tA S) := fb_ct_le _ _
    have b3 : lkw (tA S) (tV S) n g ≤ 64 := by rw [lkw]; omega
    have b2 := lkF_le (tA S) (tV S) n q hq g
    have e := ih (g + 1) (some (.int (nI (lkw (tA S) (tV S) n g)))) (by omega) (by omega)
    rw [lkF] at e
    have ew := e_worst (d := d + 3) (f := g) hl1 h6 (by omega)
    rw [lft_ct hl2] at ew
    refine r_iload (i := 5) 46 dX7_look_44 rfl rfl ?_
    refine r_aload_n (i := 0) 47 dX7_look_46 rfl rfl rfl ?_
    refine r_getf 50 dX7_look_47 rfl fl_X7_10 rfl rfl ?_
    refine r_getf 53 dX7_look_50 rfl fl_X7_98 rfl rfl ?_
    rw [hN.th]
    refine r_icmp_ge 91 56 dX7_look_53 rfl rfl (fun h53 => absurd (ble_of (by omega) (by omega) h53) (by omega)) (fun h53 => ?_)
    refine r_aload_n (i := 0) 57 dX7_look_56 rfl rfl rfl ?_
    refine r_getf 60 dX7_look_57 rfl fl_X7_37 rfl rfl ?_
    refine r_iload (i := 5) 62 dX7_look_60 rfl rfl ?_
    refine r_callVi [30, 31, 32, 33, 34] 65 dX7_look_62 rfl ykX4_worstLeft lk_X7_278 (ew) rfl rfl (sb_si _ _ _ _ _ _ _ _ _ _ _ _ _ _) rfl rfl rfl rfl ⟨Nat.le_refl _, Nat.le_refl _⟩ ?_
    refine r_istore (i := 6) 67 dX7_look_65 rfl rfl ?_
    refine r_iload (i := 6) 69 dX7_look_67 rfl rfl ?_
    refine r_iload_n (i := 2) 70 dX7_look_69 rfl rfl rfl ?_
    refine r_icmp_ge 85 73 dX7_look_70 rfl rfl (fun h70 => ?_) (fun h70 => ?_)
    · have z2 := ble_of (b := lkw (tA S) (tV S) n g) (by omega) (by omega) h70
      rw [if_neg (by omega)] at e
      refine r_iinc (i := 5) 88 dX7_look_85 rfl rfl (by first | exact nI_1 _ | rfl) rfl ?_
      refine r_goto 44 dX7_look_88 rfl ?_
      exact e
    · have z2 := bnle_of (b := lkw (tA S) (tV S) n g) (by omega) (by omega) h70
      rw [if_pos z2, ← mul10 (by omega) (by omega)] at e
      refine r_iload (i := 6) 75 dX7_look_73 rfl rfl ?_
      refine r_istore_n (i := 2) 76 dX7_look_75 rfl rfl rfl ?_
      refine r_bipush (v := 10) 78 dX7_look_76 rfl rfl ?_
      refine r_iload (i := 4) 80 dX7_look_78 rfl rfl ?_
      refine r_imul 81 dX7_look_80 rfl ?_
      refine r_iload (i := 5) 83 dX7_look_81 rfl rfl ?_
      refine r_iadd 84 dX7_look_83 rfl ?_
      refine r_istore_n (i := 3) 85 dX7_look_84 rfl rfl rfl ?_
      refine r_iinc (i := 5) 88 dX7_look_85 rfl rfl (by first | exact nI_1 _ | rfl) rfl ?_
      refine r_goto 44 dX7_look_88 rfl ?_
      exact e
theorem l_look1 (hS : ∀ Si, sok Si (tV S) → CX S (wX N Z kp R Si Sr Ta I J H0 H1 H2 H3 tn)) (hN : fok N (tA S)) (what : Int32) : ∀ (k n : Nat) (Si : SiT) (o5 o6 : Option Value), 10 - n = k → n ≤ 10 → sok Si (tV S) → lft (tA S) (tV S) n Si → mm_r (d + 6) mX7_look (QX (pick what (lkN (tA S) (tV S) 10)) S) 34 [some (.ref 0), some (.int what), some (.int (nI (lkN (tA S) (tV S) n).1)), some (.int (lkN (tA S) (tV S) n).2), some (.int (nI n)), o5, o6] [] (wX N Z kp R Si Sr Ta I J H0 H1 H2 H3 tn) := by
  have h6 := hN.n6
  intro k
  induction k with
  | zero =>
    intro n Si o5 o6 hk hn hs hl
    have : n = 10 := by omega
    subst this
    refine r_iload (i := 4) 36 dX7_look_34 rfl rfl ?_
    refine r_bipush (v := 9) 38 dX7_look_36 rfl rfl ?_
    refine r_icmp_gt 108 41 dX7_look_38 rfl rfl (fun h38 => ?_) (fun h38 => absurd (by decide) h38)
    refine r_iload_n (i := 1) 109 dX7_look_108 rfl rfl rfl ?_
    refine r_if_eq 118 112 dX7_look_109 rfl rfl (fun h109 => ?_) (fun h109 => ?_)
    · refine r_iload_n (i := 3) 119 dX7_look_118 rfl rfl rfl ?_
      refine r_goto 123 dX7_look_119 rfl ?_
      exact r_reti dX7_look_123 rfl (by first | rfl | exact bI_nar _) ⟨Nat.le_refl _, Nat.le_refl _⟩ (fun _ => rfl) (⟨by simp_all [pick], hS _ hs⟩)
    · refine r_iload_n (i := 3) 113 dX7_look_112 rfl rfl rfl ?_
      refine r_bipush (v := (-4)) 115 dX7_look_113 rfl rfl ?_
      refine r_icmp_ne 122 118 dX7_look_115 rfl rfl (fun h115 => ?_) (fun h115 => ?_)
      · refine r_iload_n (i := 2) 123 dX7_look_122 rfl rfl rfl ?_
        exact r_reti dX7_look_123 rfl (by first | rfl | exact bI_nar _) ⟨Nat.le_refl _, Nat.le_refl _⟩ (fun _ => rfl) (⟨by simp_all [pick], hS _ hs⟩)
      · refine r_iload_n (i := 3) 119 dX7_look_118 rfl rfl rfl ?_
        refine r_goto 123 dX7_look_119 rfl ?_
        exact r_reti dX7_look_123 rfl (by first | rfl | exact bI_nar _) ⟨Nat.le_refl _, Nat.le_refl _⟩ (fun _ => rfl) (⟨by simp_all [pick], hS _ hs⟩)
  | succ k ih =>
    intro n Si o5 o6 hk hn hs hl
    refine r_iload (i := 4) 36 dX7_look_34 rfl rfl ?_
    refine r_bipush (v := 9) 38 dX7_look_36 rfl rfl ?_
    refine r_icmp_gt 108 41 dX7_look_38 rfl rfl (fun h38 => absurd (blt_of (a := 9) (by decide) (by omega) h38) (by omega)) (fun h38 => ?_)
    refine r_iconst (v := 0) 42 dX7_look_41 rfl rfl ?_
    refine r_istore (i := 5) 44 dX7_look_42 rfl rfl ?_
    refine l_look2 hN what (by omega) hl (lkN (tA S) (tV S) n) (lkN_le _ _ h6 n) _ ?_ _ 0 _ rfl (Nat.zero_le _)
    intro o
    obtain ⟨l, hl1, hl2⟩ := hl
    refine r_aload_n (i := 0) 92 dX7_look_91 rfl rfl rfl ?_
    refine r_getf 95 dX7_look_92 rfl fl_X7_37 rfl rfl ?_
    refine r_aload_n (i := 0) 96 dX7_look_95 rfl rfl rfl ?_
    refine r_getf 99 dX7_look_96 rfl fl_X7_10 rfl rfl ?_
    refine r_callVq [30, 31, 32, 33, 34, 1, 2, 3, 4, 5, 6, 7, 8] 102 dX7_look_99 rfl ykX4_passYear lk_X7_281 (e_pass hN hl1) rfl rfl (sb_sif _ _ _ _ _ _ _ _ _ _ _ _ _ _) rfl rfl rfl rfl ⟨Nat.le_refl _, Nat.le_refl _⟩ (fun v u hq => ?_)
    obtain ⟨rfl, ll, rfl, hl3⟩ := hq
    rw [bk_sif]
    refine r_iinc (i := 4) 105 dX7_look_102 rfl rfl (by first | exact nI_1 _ | rfl) rfl ?_
    refine r_goto 34 dX7_look_105 rfl ?_
    exact ih (n + 1) _ _ _ (by omega) (by omega) (sok_L hs _ _) ⟨l, hl3, hl2⟩
theorem p_look (hC : CX S w) (what : Int32) : mm_e (d + 6) yX7_look mX7_look [.ref 0, .int what] w (QX (s_look S what) S) := by
  have hC0 := hC
  obtain ⟨hT, N, Z, kp, R, Si, Sr, Ta, I, J, H0, H1, H2, H3, tn, rfl, hN, hx, hy, ⟨ht, hb⟩, hf, hs, ⟨hk0, hk1⟩, hI, hJ, ⟨s0, s1, s2, s3⟩, hn⟩ := hC
  have l0 := lt31 hN hT.2.1
  have h6 := hN.n6
  have h4 := hN.g4
  have h5 := hN.b4
  have hS : ∀ Si, sok Si (tV S) → CX S (wX N Z kp R Si Sr Ta I J H0 H1 H2 H3 tn) := fun Si hs => ⟨hT, N, Z, kp, R, Si, Sr, Ta, I, J, H0, H1, H2, H3, tn, rfl, hN, hx, hy, ⟨ht, hb⟩, hf, hs, ⟨hk0, hk1⟩, hI, hJ, ⟨s0, s1, s2, s3⟩, hn⟩
  refine e_of [some (.ref 0), some (.int what), none, none, none, none, none] rfl (by decide) rfl rfl rfl ?_
  rw [s_look, isb]
  refine r_iload_n (i := 1) 1 dX7_look_0 rfl rfl rfl ?_
  refine r_callSi [] 4 dX7_look_1 rfl ykX7_isBit lk_X7_148 (e_isBit what) rfl rfl rfl ⟨Nat.le_refl _, Nat.le_refl _⟩ ?_
  refine r_if_ne 9 7 dX7_look_4 rfl rfl (fun h4 => ?_) (fun h4 => ?_)
  · have g := bI_ne0 h4
    rw [g]
    refine r_aload_n (i := 0) 10 dX7_look_9 rfl rfl rfl ?_
    refine r_getf 13 dX7_look_10 rfl fl_X7_37 rfl rfl ?_
    refine r_aload_n (i := 0) 14 dX7_look_13 rfl rfl rfl ?_
    refine r_getf 17 dX7_look_14 rfl fl_X7_10 rfl rfl ?_
    refine r_callVq [30, 31, 32, 33, 34, 1, 2, 3, 4, 5, 6, 7, 8] 20 dX7_look_17 rfl ykX4_gather lk_X7_272 (e_gather hs hN) rfl rfl (sb_sif _ _ _ _ _ _ _ _ _ _ _ _ _ _) rfl rfl rfl rfl ⟨Nat.le_refl _, Nat.le_refl _⟩ (fun v u hq => ?_)
    obtain ⟨rfl, kk, ll, k, l, rfl, hlo, hga⟩ := hq
    rw [bk_sif]
    have ek : k = lka (tA S) (tV S) := hga.1
    subst ek
    have ek2 : kk = nI (lka (tA S) (tV S)) := hlo.1
    subst ek2
    refine r_aload_n (i := 0) 21 dX7_look_20 rfl rfl rfl ?_
    refine r_getf 24 dX7_look_21 rfl fl_X7_37 rfl rfl ?_
    refine r_getf 27 dX7_look_24 rfl fl_X7_275 rfl rfl ?_
    refine r_istore_n (i := 2) 28 dX7_look_27 rfl rfl rfl ?_
    refine r_bipush (v := (-4)) 30 dX7_look_28 rfl rfl ?_
    refine r_istore_n (i := 3) 31 dX7_look_30 rfl rfl rfl ?_
    refine r_iconst (v := 0) 32 dX7_look_31 rfl rfl ?_
    refine r_istore (i := 4) 34 dX7_look_32 rfl rfl ?_
    exact l_look1 hS hN what _ 0 _ none none rfl (Nat.zero_le _) (sok_L hs _ _) ⟨l, hlo, hga⟩
  · have g := bI_eq0 h4
    rw [g]
    refine r_iconst (v := (-1)) 8 dX7_look_7 rfl rfl ?_
    exact r_reti dX7_look_8 rfl (by first | rfl | exact bI_nar _) ⟨Nat.le_refl _, Nat.le_refl _⟩ (fun _ => rfl) (⟨rfl, hC0⟩)
theorem lit15 : ∀ i, i < 32 → (32767#32).getLsbD i = decide (i < 15) := by decide
theorem drV (b : BitVec 32) : (b >>> 16 &&& 32767#32) = BitVec.ofNat 32 (b.toNat / 65536 % 32768) := by
  apply BitVec.eq_of_toNat_eq
  rw [BitVec.toNat_and, BitVec.toNat_ushiftRight, BitVec.toNat_ofNat, BitVec.toNat_ofNat, Nat.shiftRight_eq_div_pow, show 32767 % 2 ^ 32 = 2 ^ 15 - 1 from rfl, Nat.and_two_pow_sub_one_eq_mod]
  have := b.isLt
  omega
theorem drW (b : BitVec 32) : (b.sshiftRight 16 &&& 32767#32) = (b >>> 16 &&& 32767#32) := by
  apply BitVec.eq_of_getLsbD_eq
  intro i hi
  rw [BitVec.getLsbD_and, BitVec.getLsbD_and, lit15 i hi, BitVec.getLsbD_sshiftRight, BitVec.getLsbD_ushiftRight]
  by_cases q : i < 15
  · have : 16 + i < 32 := by omega
    rw [if_pos this, decide_eq_false (show ¬ 32 ≤ i by omega)]; rfl
  · simp [q]
theorem drU (x : Int32) : (x.toUInt32 >>> (Int32.toUInt32 16 &&& Int32.toUInt32 31)).toInt32 &&& 32767 = nI (x.toBitVec.toNat / 65536 % 32768) := Int32.toBitVec_inj.mp (drV x.toBitVec)
theorem drI (x : Int32) : x >>> ((16 : Int32) &&& 31) &&& 32767 = nI (x.toBitVec.toNat / 65536 % 32768) := Int32.toBitVec_inj.mp ((drW x.toBitVec).trans (drV x.toBitVec))
theorem drs_lt (A : sA) (seed : Int32) {x : Nat} (hx : x < 2 ^ sN A) : ∀ i, (drs A seed x i).2.1 < 2 ^ sN A
  | 0 => hx
  | i + 1 => nx_lt _ _
theorem al_bI (b : Bool) (c : Nat) : nI c + bI b = nI (c + (if b then 1 else 0)) := by rw [bI_nI, nI_add]
theorem l_drift (hC0 : CX S (wX N Z kp R Si Sr Ta I J H0 H1 H2 H3 tn)) (hN : fok N (tA S)) (hx : tX S < 2 ^ sN (tA S)) (h0 : 0 < sN (tA S)) (seed what : Int32) {n : Nat} (hn : n < 2 ^ 31) : ∀ (k i : Nat) (o : Option Value), n - i = k → i ≤ n → mm_r (d + 4) mX7_drift (QX (if what = 0 then nI (drs (tA S) seed (tX S) n).2.2 else nI (drs (tA S) seed (tX S) n).2.1) S) 51 [some (.ref 0), some (.int seed), some (.int (nI n)), some (.int what), some (.int (nI (drs (tA S) seed (tX S) i).2.1)), some (.int (nI (drs (tA S) seed (tX S) i).2.2)), some (.int (drs (tA S) seed (tX S) i).1), some (.int (nI i)), o] [] (wX N Z kp R Si Sr Ta I J H0 H1 H2 H3 tn) := by
  have h6 := hN.n6
  intro k
  induction k with
  | zero =>
    intro i o hk hi
    have : i = n := by omega
    subst this
    refine r_iload (i := 7) 53 dX7_drift_51 rfl rfl ?_
    refine r_iload_n (i := 2) 54 dX7_drift_53 rfl rfl rfl ?_
    refine r_icmp_ge 127 57 dX7_drift_54 rfl rfl (fun h54 => ?_) (fun h54 => absurd (Int32.le_refl _) h54)
    refine r_iload_n (i := 3) 128 dX7_drift_127 rfl rfl rfl ?_
    refine r_if_ne 136 131 dX7_drift_128 rfl rfl (fun h128 => ?_) (fun h128 => ?_)
    · refine r_iload (i := 4) 138 dX7_drift_136 rfl rfl ?_
      exact r_reti dX7_drift_138 rfl (by first | rfl | exact bI_nar _) ⟨Nat.le_refl _, Nat.le_refl _⟩ (fun _ => rfl) (⟨by simp_all, hC0⟩)
    · refine r_iload (i := 5) 133 dX7_drift_131 rfl rfl ?_
      refine r_goto 138 dX7_drift_133 rfl ?_
      exact r_reti dX7_drift_138 rfl (by first | rfl | exact bI_nar _) ⟨Nat.le_refl _, Nat.le_refl _⟩ (fun _ => rfl) (⟨by simp_all, hC0⟩)
  | succ k ih =>
    intro i o hk hi
    have l1 := drs_lt (tA S) seed hx i
    have l2 := drs_lt (tA S) seed hx (i + 1)
    have l3 : drf (sN (tA S)) (drD (drs (tA S) seed (tX S) i).1) < sN (tA S) := Nat.mod_lt _ h0
    have ne : ¬ nI (sN (tA S)) = 0 := fun z => by have := beq_of (b := 0) (by omega) (by decide) z; omega
    have lx := xor_lt l1 l3
    refine r_iload (i := 7) 53 dX7_drift_51 rfl rfl ?_
    refine r_iload_n (i := 2) 54 dX7_drift_53 rfl rfl rfl ?_
    refine r_icmp_ge 127 57 dX7_drift_54 rfl rfl (fun h54 => absurd (ble_of (by omega) (by omega) h54) (by omega)) (fun h54 => ?_)
    refine r_iload (i := 6) 59 dX7_drift_57 rfl rfl ?_
    refine r_ldcw 62 dX7_drift_59 rfl k_X7_284 ?_
    refine r_imul 63 dX7_drift_62 rfl ?_
    refine r_sipush (v := 12345) 66 dX7_drift_63 rfl rfl ?_
    refine r_iadd 67 dX7_drift_66 rfl ?_
    refine r_istore (i := 6) 69 dX7_drift_67 rfl rfl ?_
    refine r_iload (i := 6) 71 dX7_drift_69 rfl rfl ?_
    refine r_bipush (v := 16) 73 dX7_drift_71 rfl rfl ?_
    refine r_iushr 74 dX7_drift_73 rfl ?_
    refine r_sipush (v := 32767) 77 dX7_drift_74 rfl rfl ?_
    refine r_iand 78 dX7_drift_77 rfl ?_
    rw [drU]
    refine r_aload_n (i := 0) 79 dX7_drift_78 rfl rfl rfl ?_
    refine r_getf 82 dX7_drift_79 rfl fl_X7_10 rfl rfl ?_
    refine r_getf 85 dX7_drift_82 rfl fl_X7_98 rfl rfl ?_
    rw [hN.th]
    refine r_irem 86 dX7_drift_85 rfl (by assumption) ?_
    rw [pk_rem (by omega) h0 (by omega)]
    refine r_istore (i := 8) 88 dX7_drift_86 rfl rfl ?_
    refine r_aload_n (i := 0) 89 dX7_drift_88 rfl rfl rfl ?_
    refine r_getf 92 dX7_drift_89 rfl fl_X7_10 rfl rfl ?_
    refine r_iload (i := 4) 94 dX7_drift_92 rfl rfl ?_
    refine r_iload (i := 8) 96 dX7_drift_94 rfl rfl ?_
    refine r_callSi [] 99 dX7_drift_96 rfl ykX7_undone lk_X7_175 (e_undone (j := drf (sN (tA S)) (drD (drs (tA S) seed (tX S) i).1)) (by omega)) rfl rfl rfl ⟨Nat.le_refl _, Nat.le_refl _⟩ ?_
    refine r_callVi [1, 2, 3, 4, 5, 6, 7, 8] 102 dX7_drift_99 rfl ykX0_afterYear lk_X7_194 (e_afterYear hN (lt31 hN lx)) rfl rfl (sb_now _ _ _ _ _ _ _ _ _ _ _ _ _ _) rfl rfl rfl rfl ⟨Nat.le_refl _, Nat.le_refl _⟩ ?_
    refine r_istore (i := 4) 104 dX7_drift_102 rfl rfl ?_
    refine r_iload (i := 5) 106 dX7_drift_104 rfl rfl ?_
    refine r_aload_n (i := 0) 107 dX7_drift_106 rfl rfl rfl ?_
    refine r_getf 110 dX7_drift_107 rfl fl_X7_10 rfl rfl ?_
    refine r_iload (i := 4) 112 dX7_drift_110 rfl rfl ?_
    refine r_callVi [1, 2, 3, 4, 5, 6, 7, 8] 115 dX7_drift_112 rfl ykX0_allows lk_X7_113 (e_allows hN (lt31 hN l2)) rfl rfl (sb_now _ _ _ _ _ _ _ _ _ _ _ _ _ _) rfl rfl rfl rfl ⟨Nat.le_refl _, Nat.le_refl _⟩ ?_
    refine r_callSi [] 118 dX7_drift_115 rfl ykX7_bit lk_X7_117 (e_bit _) rfl rfl rfl ⟨Nat.le_refl _, Nat.le_refl _⟩ ?_
    refine r_iadd 119 dX7_drift_118 rfl ?_
    rw [al_bI]
    refine r_istore (i := 5) 121 dX7_drift_119 rfl rfl ?_
    refine r_iinc (i := 7) 124 dX7_drift_121 rfl rfl (by first | exact nI_1 _ | rfl) rfl ?_
    refine r_goto 51 dX7_drift_124 rfl ?_
    exact ih (i + 1) _ (by omega) (by omega)
theorem p_drift (hC : CX S w) (seed n what : Int32) : mm_e (d + 4) yX7_drift mX7_drift [.ref 0, .int seed, .int n, .int what] w (QX (s_drift S seed n what) S) := by
  have hC0 := hC
  obtain ⟨hT, N, Z, kp, R, Si, Sr, Ta, I, J, H0, H1, H2, H3, tn, rfl, hN, hx, hy, ⟨ht, hb⟩, hf, hs, ⟨hk0, hk1⟩, hI, hJ, ⟨s0, s1, s2, s3⟩, hn⟩ := hC
  have l0 := lt31 hN hT.2.1
  have h6 := hN.n6
  have h4 := hN.g4
  have h5 := hN.b4
  refine e_of [some (.ref 0), some (.int seed), some (.int n), some (.int what), none, none, none, none, none] rfl (by decide) rfl rfl rfl ?_
  rw [s_drift, isb]
  refine r_iload_n (i := 2) 1 dX7_drift_0 rfl rfl rfl ?_
  refine r_iconst (v := 1) 2 dX7_drift_1 rfl rfl ?_
  refine r_icmp_lt 18 5 dX7_drift_2 rfl rfl (fun h2 => ?_) (fun h2 => ?_)
  · have gv : (decide (¬ n < 1) && decide (¬ 60 < n) && decide (what = 0 ∨ what = 1)) = false := by rw [decide_eq_false (not_not_intro h2)]; rfl
    refine r_iconst (v := (-1)) 19 dX7_drift_18 rfl rfl ?_
    exact r_reti dX7_drift_19 rfl (by first | rfl | exact bI_nar _) ⟨Nat.le_refl _, Nat.le_refl _⟩ (fun _ => rfl) (⟨by rw [gv]; rfl, hC0⟩)
  · refine r_iload_n (i := 2) 6 dX7_drift_5 rfl rfl rfl ?_
    refine r_bipush (v := 60) 8 dX7_drift_6 rfl rfl ?_
    refine r_icmp_gt 18 11 dX7_drift_8 rfl rfl (fun h8 => ?_) (fun h8 => ?_)
    · have gv : (decide (¬ n < 1) && decide (¬ 60 < n) && decide (what = 0 ∨ what = 1)) = false := by rw [decide_eq_false (p := ¬ 60 < n) (not_not_intro h8), Bool.and_false]; rfl
      refine r_iconst (v := (-1)) 19 dX7_drift_18 rfl rfl ?_
      exact r_reti dX7_drift_19 rfl (by first | rfl | exact bI_nar _) ⟨Nat.le_refl _, Nat.le_refl _⟩ (fun _ => rfl) (⟨by rw [gv]; rfl, hC0⟩)
    · refine r_iload_n (i := 3) 12 dX7_drift_11 rfl rfl rfl ?_
      refine r_callSi [] 15 dX7_drift_12 rfl ykX7_isBit lk_X7_148 (e_isBit what) rfl rfl rfl ⟨Nat.le_refl _, Nat.le_refl _⟩ ?_
      refine r_if_ne 20 18 dX7_drift_15 rfl rfl (fun h15 => ?_) (fun h15 => ?_)
      · have gv : (decide (¬ n < 1) && decide (¬ 60 < n) && decide (what = 0 ∨ what = 1)) = true := by rw [bI_ne0 h15, decide_eq_true h2, decide_eq_true h8]; rfl
        rw [gv, if_pos rfl]
        refine r_aload_n (i := 0) 21 dX7_drift_20 rfl rfl rfl ?_
        refine r_getf 24 dX7_drift_21 rfl fl_X7_10 rfl rfl ?_
        refine r_getf 27 dX7_drift_24 rfl fl_X7_98 rfl rfl ?_
        rw [hN.th]
        refine r_if_ne 33 30 dX7_drift_27 rfl rfl (fun h27 => ?_) (fun h27 => ?_)
        · have z := bne_of (b := 0) (by omega) (by decide) h27
          rw [if_neg z]
          have gn : inb (nI 61) n = true := inb_t (fun q => h2 (Int32.lt_trans q (by decide))) (ngtk (k := 60) (by decide) (Int32.not_lt.mp h8))
          obtain ⟨j, hj, rfl⟩ := inb_nI (by decide) gn
          rw [nI_clamp (n := j) (by omega)]
          refine r_aload_n (i := 0) 34 dX7_drift_33 rfl rfl rfl ?_
          refine r_getf 37 dX7_drift_34 rfl fl_X7_10 rfl rfl ?_
          refine r_getf 40 dX7_drift_37 rfl fl_X7_110 rfl rfl ?_
          rw [hx]
          refine r_istore (i := 4) 42 dX7_drift_40 rfl rfl ?_
          refine r_iconst (v := 0) 43 dX7_drift_42 rfl rfl ?_
          refine r_istore (i := 5) 45 dX7_drift_43 rfl rfl ?_
          refine r_iload_n (i := 1) 46 dX7_drift_45 rfl rfl rfl ?_
          refine r_istore (i := 6) 48 dX7_drift_46 rfl rfl ?_
          refine r_iconst (v := 0) 49 dX7_drift_48 rfl rfl ?_
          refine r_istore (i := 7) 51 dX7_drift_49 rfl rfl ?_
          exact l_drift hC0 hN hT.2.1 (by omega) seed what (by omega) _ 0 none rfl (Nat.zero_le _)
        · have z := beq_of (b := 0) (by omega) (by decide) h27
          rw [if_pos z]
          refine r_bipush (v := (-2)) 32 dX7_drift_30 rfl rfl ?_
          exact r_reti dX7_drift_32 rfl (by first | rfl | exact bI_nar _) ⟨Nat.le_refl _, Nat.le_refl _⟩ (fun _ => rfl) (⟨rfl, hC0⟩)
      · have gv : (decide (¬ n < 1) && decide (¬ 60 < n) && decide (what = 0 ∨ what = 1)) = false := by rw [bI_eq0 h15, Bool.and_false]
        refine r_iconst (v := (-1)) 19 dX7_drift_18 rfl rfl ?_
        exact r_reti dX7_drift_19 rfl (by first | rfl | exact bI_nar _) ⟨Nat.le_refl _, Nat.le_refl _⟩ (fun _ => rfl) (⟨by rw [gv]; rfl, hC0⟩)
end XE
