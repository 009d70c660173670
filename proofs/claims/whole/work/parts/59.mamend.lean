-- A LAW AMENDED, A BAN MORE
section MI
variable {d : Nat} {S : sT} {w : mm_W} {W : MT} {A : sA}
theorem l2_amend2 (h : mok W.1 A) {what : Int32} {f : Nat} (hf : f < sN A) (q : Nat × Int32) (hq : q.1 ≤ 64) {Qf : Option Value → mm_W → Prop} (out : ∀ (z : Int32) (t : mQu) (o7 : Option Value), mm_r (d + 6) mX8_amend Qf 115 [some (.ref 0), some (.int what), some (.int (nI (amG A f (sN A) q).1)), some (.int (amG A f (sN A) q).2), some (.int (nI f)), some (.int (W.1.1 (6 + f))), some (.int (nI (sN A))), o7] [] (wM (zTo (zSt W (upd W.1.1 (6 + f) z)) t))) : ∀ (k g : Nat) (z : Int32) (t : mQu) (o7 : Option Value), sN A - g = k → g ≤ sN A → mm_r (d + 6) mX8_amend Qf 47 [some (.ref 0), some (.int what), some (.int (nI (amG A f g q).1)), some (.int (amG A f g q).2), some (.int (nI f)), some (.int (W.1.1 (6 + f))), some (.int (nI g)), o7] [] (wM (zTo (zSt W (upd W.1.1 (6 + f) z)) t)) := by
  have h6 := h.n6
  have p6 := p2_le h6
  intro k
  induction k with
  | zero =>
    intro g z t o7 hk hg
    have : g = sN A := by omega
    subst this
    refine r_iload (i := 6) 49 dX8_amend_47 rfl rfl ?_
    refine r_aload_n (i := 0) 50 dX8_amend_49 rfl rfl rfl ?_
    refine r_getf 53 dX8_amend_50 rfl fl_X8_125 rfl rfl ?_
    rw [show (zTo (zSt W (upd W.1.1 (6 + f) z)) t).1.2.1 = nI (sN A) from h.tm]
    refine r_icmp_ge 115 56 dX8_amend_53 rfl rfl (fun h53 => ?_) (fun h53 => absurd (Int32.le_refl _) h53)
    exact out z t o7
  | succ k ih =>
    intro g z t o7 hk hg
    have hg2 : g < sN A := by omega
    have hin : vp_in (nI (6 + f)) 148 := vp_in_nI (by omega) (by decide)
    have hz2 : mok (zTo (zSt W (upd W.1.1 (6 + f) (nI g - nI f))) t).1 (aF A f g) := ⟨h.1, h.2.1, mpg_F h.2.2 hf hg2⟩
    have b1 : sct (aF A f g) ≤ 2 ^ sN A := fb_ct_le _ _
    have b2 := amG_le A h6 f q hq g
    refine r_iload (i := 6) 49 dX8_amend_47 rfl rfl ?_
    refine r_aload_n (i := 0) 50 dX8_amend_49 rfl rfl rfl ?_
    refine r_getf 53 dX8_amend_50 rfl fl_X8_125 rfl rfl ?_
    rw [show (zTo (zSt W (upd W.1.1 (6 + f) z)) t).1.2.1 = nI (sN A) from h.tm]
    refine r_icmp_ge 115 56 dX8_amend_53 rfl rfl (fun h53 => absurd (ble_of (by omega) (by omega) h53) (by omega)) (fun h53 => ?_)
    refine r_aload_n (i := 0) 57 dX8_amend_56 rfl rfl rfl ?_
    refine r_getf 60 dX8_amend_57 rfl fl_X8_7 rfl rfl ?_
    refine r_bipush (v := 6) 62 dX8_amend_60 rfl rfl ?_
    refine r_iload (i := 4) 64 dX8_amend_62 rfl rfl ?_
    refine r_iadd 65 dX8_amend_64 rfl ?_
    rw [show (6 : Int32) + nI f = nI (6 + f) from nI_add 6 f]
    refine r_iload (i := 6) 67 dX8_amend_65 rfl rfl ?_
    refine r_iload (i := 4) 69 dX8_amend_67 rfl rfl ?_
    refine r_isub 70 dX8_amend_69 rfl ?_
    refine r_iast 71 dX8_amend_70 rfl rfl (by assumption) ?_
    refine r_eq (w' := wM (zTo (zSt W (upd W.1.1 (6 + f) (nI g - nI f))) t)) ?_ rfl rfl (by rw [nI_clamp (n := 6 + f) (by omega), ← fa_upd_twice W.1.1 (6 + f) z (nI g - nI f)]; rfl)
    have e := ih (g + 1) (nI g - nI f) (mtl (sN (aF A f g)) (stl (aF A f g)) (2 ^ sN (aF A f g))) (some (.int (nI (sct (aF A f g))))) (by omega) (by omega)
    rw [amG] at e
    by_cases c : (amG A f g q).1 < sct (aF A f g)
    · rw [if_pos c] at e
      refine r_aload_n (i := 0) 72 dX8_amend_71 rfl rfl rfl ?_
      refine r_callMu 75 dX8_amend_72 rfl ykX8_agreeMany lk_X8_218 (e2_agreeMany (W := zTo (zSt W (upd W.1.1 (6 + f) (nI g - nI f))) t) hz2) rfl rfl rfl rfl rfl rfl ⟨Nat.le_refl _, Nat.le_refl _⟩ ?_
      refine r_istore (i := 7) 77 dX8_amend_75 rfl rfl ?_
      refine r_iload (i := 7) 79 dX8_amend_77 rfl rfl ?_
      refine r_iload_n (i := 2) 80 dX8_amend_79 rfl rfl rfl ?_
      refine r_icmp_le 94 83 dX8_amend_80 rfl rfl (fun h80 => absurd (ble_of (by omega) (by omega) h80) (by omega)) (fun h80 => ?_)
      refine r_bipush (v := 10) 85 dX8_amend_83 rfl rfl ?_
      refine r_iload (i := 4) 87 dX8_amend_85 rfl rfl ?_
      refine r_imul 88 dX8_amend_87 rfl ?_
      refine r_iload (i := 6) 90 dX8_amend_88 rfl rfl ?_
      refine r_iadd 91 dX8_amend_90 rfl ?_
      rw [mul10 (by omega) (by omega)]
      refine r_goto 95 dX8_amend_91 rfl ?_
      refine r_istore_n (i := 3) 96 dX8_amend_95 rfl rfl rfl ?_
      refine r_iload (i := 7) 98 dX8_amend_96 rfl rfl ?_
      refine r_iload_n (i := 2) 99 dX8_amend_98 rfl rfl rfl ?_
      refine r_icmp_le 107 102 dX8_amend_99 rfl rfl (fun h99 => absurd (ble_of (by omega) (by omega) h99) (by omega)) (fun h99 => ?_)
      refine r_iload (i := 7) 104 dX8_amend_102 rfl rfl ?_
      refine r_goto 108 dX8_amend_104 rfl ?_
      refine r_istore_n (i := 2) 109 dX8_amend_108 rfl rfl rfl ?_
      refine r_iinc (i := 6) 112 dX8_amend_109 rfl rfl (by first | exact nI_1 _ | rfl) rfl ?_
      refine r_goto 47 dX8_amend_112 rfl ?_
      exact e
    · rw [if_neg c] at e
      refine r_aload_n (i := 0) 72 dX8_amend_71 rfl rfl rfl ?_
      refine r_callMu 75 dX8_amend_72 rfl ykX8_agreeMany lk_X8_218 (e2_agreeMany (W := zTo (zSt W (upd W.1.1 (6 + f) (nI g - nI f))) t) hz2) rfl rfl rfl rfl rfl rfl ⟨Nat.le_refl _, Nat.le_refl _⟩ ?_
      refine r_istore (i := 7) 77 dX8_amend_75 rfl rfl ?_
      refine r_iload (i := 7) 79 dX8_amend_77 rfl rfl ?_
      refine r_iload_n (i := 2) 80 dX8_amend_79 rfl rfl rfl ?_
      refine r_icmp_le 94 83 dX8_amend_80 rfl rfl (fun h80 => ?_) (fun h80 => absurd (nI_le (by omega) (by omega)) h80)
      refine r_iload_n (i := 3) 95 dX8_amend_94 rfl rfl rfl ?_
      refine r_istore_n (i := 3) 96 dX8_amend_95 rfl rfl rfl ?_
      refine r_iload (i := 7) 98 dX8_amend_96 rfl rfl ?_
      refine r_iload_n (i := 2) 99 dX8_amend_98 rfl rfl rfl ?_
      refine r_icmp_le 107 102 dX8_amend_99 rfl rfl (fun h99 => ?_) (fun h99 => absurd (nI_le (by omega) (by omega)) h99)
      refine r_iload_n (i := 2) 108 dX8_amend_107 rfl rfl rfl ?_
      refine r_istore_n (i := 2) 109 dX8_amend_108 rfl rfl rfl ?_
      refine r_iinc (i := 6) 112 dX8_amend_109 rfl rfl (by first | exact nI_1 _ | rfl) rfl ?_
      refine r_goto 47 dX8_amend_112 rfl ?_
      exact e
theorem l2_amend1 (h : mok W.1 A) {what : Int32} {Q : mm_W → Prop} (hQ : ∀ t, Q (wM (zTo W t))) : ∀ (k f : Nat) (t : mQu) (o5 o6 o7 : Option Value), sN A - f = k → f ≤ sN A → mm_r (d + 6) mX8_amend (fun v u => v = some (.int (pick what (amF A (sN A)))) ∧ Q u) 23 [some (.ref 0), some (.int what), some (.int (nI (amF A f).1)), some (.int (amF A f).2), some (.int (nI f)), o5, o6, o7] [] (wM (zTo W t)) := by
  have h6 := h.n6
  intro k
  induction k with
  | zero =>
    intro f t o5 o6 o7 hk hf
    have : f = sN A := by omega
    subst this
    refine r_iload (i := 4) 25 dX8_amend_23 rfl rfl ?_
    refine r_aload_n (i := 0) 26 dX8_amend_25 rfl rfl rfl ?_
    refine r_getf 29 dX8_amend_26 rfl fl_X8_125 rfl rfl ?_
    rw [show (zTo W t).1.2.1 = nI (sN A) from h.tm]
    refine r_icmp_ge 133 32 dX8_amend_29 rfl rfl (fun h29 => ?_) (fun h29 => absurd (Int32.le_refl _) h29)
    refine r_iload_n (i := 3) 134 dX8_amend_133 rfl rfl rfl ?_
    refine r_bipush (v := (-4)) 136 dX8_amend_134 rfl rfl ?_
    refine r_icmp_eq 143 139 dX8_amend_136 rfl rfl (fun h136 => ?_) (fun h136 => ?_)
    · refine r_iload_n (i := 3) 144 dX8_amend_143 rfl rfl rfl ?_
      refine r_goto 148 dX8_amend_144 rfl ?_
      exact r_reti dX8_amend_148 rfl (by first | rfl | exact bI_nar _) ⟨Nat.le_refl _, Nat.le_refl _⟩ (fun _ => rfl) (⟨by simp_all [pick], hQ t⟩)
    · refine r_iload_n (i := 1) 140 dX8_amend_139 rfl rfl rfl ?_
      refine r_if_ne 147 143 dX8_amend_140 rfl rfl (fun h140 => ?_) (fun h140 => ?_)
      · refine r_iload_n (i := 2) 148 dX8_amend_147 rfl rfl rfl ?_
        exact r_reti dX8_amend_148 rfl (by first | rfl | exact bI_nar _) ⟨Nat.le_refl _, Nat.le_refl _⟩ (fun _ => rfl) (⟨by simp_all [pick], hQ t⟩)
      · refine r_iload_n (i := 3) 144 dX8_amend_143 rfl rfl rfl ?_
        refine r_goto 148 dX8_amend_144 rfl ?_
        exact r_reti dX8_amend_148 rfl (by first | rfl | exact bI_nar _) ⟨Nat.le_refl _, Nat.le_refl _⟩ (fun _ => rfl) (⟨by simp_all [pick], hQ t⟩)
  | succ k ih =>
    intro f t o5 o6 o7 hk hf
    have hf2 : f < sN A := by omega
    have hin : vp_in (nI (6 + f)) 148 := vp_in_nI (by omega) (by decide)
    refine r_iload (i := 4) 25 dX8_amend_23 rfl rfl ?_
    refine r_aload_n (i := 0) 26 dX8_amend_25 rfl rfl rfl ?_
    refine r_getf 29 dX8_amend_26 rfl fl_X8_125 rfl rfl ?_
    rw [show (zTo W t).1.2.1 = nI (sN A) from h.tm]
    refine r_icmp_ge 133 32 dX8_amend_29 rfl rfl (fun h29 => absurd (ble_of (by omega) (by omega) h29) (by omega)) (fun h29 => ?_)
    refine r_aload_n (i := 0) 33 dX8_amend_32 rfl rfl rfl ?_
    refine r_getf 36 dX8_amend_33 rfl fl_X8_7 rfl rfl ?_
    refine r_bipush (v := 6) 38 dX8_amend_36 rfl rfl ?_
    refine r_iload (i := 4) 40 dX8_amend_38 rfl rfl ?_
    refine r_iadd 41 dX8_amend_40 rfl ?_
    rw [show (6 : Int32) + nI f = nI (6 + f) from nI_add 6 f]
    refine r_iald 42 dX8_amend_41 rfl rfl (by assumption) ?_
    rw [nI_clamp (n := 6 + f) (by omega)]
    refine r_istore (i := 5) 44 dX8_amend_42 rfl rfl ?_
    refine r_iconst (v := 0) 45 dX8_amend_44 rfl rfl ?_
    refine r_istore (i := 6) 47 dX8_amend_45 rfl rfl ?_
    refine r_eq (l2_amend2 (what := what) h hf2 (amF A f) (amF_le _ h6 f) ?_ _ 0 (W.1.1 (6 + f)) t o7 rfl (Nat.zero_le _)) rfl rfl (by rw [fa_upd_same rfl])
    intro z t2 o
    refine r_aload_n (i := 0) 116 dX8_amend_115 rfl rfl rfl ?_
    refine r_getf 119 dX8_amend_116 rfl fl_X8_7 rfl rfl ?_
    refine r_bipush (v := 6) 121 dX8_amend_119 rfl rfl ?_
    refine r_iload (i := 4) 123 dX8_amend_121 rfl rfl ?_
    refine r_iadd 124 dX8_amend_123 rfl ?_
    rw [show (6 : Int32) + nI f = nI (6 + f) from nI_add 6 f]
    refine r_iload (i := 5) 126 dX8_amend_124 rfl rfl ?_
    refine r_iast 127 dX8_amend_126 rfl rfl (by assumption) ?_
    refine r_eq (w' := wM (zTo W t2)) ?_ rfl rfl (by
      have e1 : upd (upd W.1.1 (6 + f) z) (6 + f) (W.1.1 (6 + f)) = W.1.1 := by rw [fa_upd_twice, fa_upd_same rfl]
      rw [nI_clamp (n := 6 + f) (by omega)]
      show wM (zTo (zSt W (upd (upd W.1.1 (6 + f) z) (6 + f) (W.1.1 (6 + f)))) t2) = _
      rw [e1])
    refine r_iinc (i := 4) 130 dX8_amend_127 rfl rfl (by first | exact nI_1 _ | rfl) rfl ?_
    refine r_goto 23 dX8_amend_130 rfl ?_
    exact ih (f + 1) t2 _ _ _ (by omega) (by omega)
theorem q_amend (hT : tOk S) (hC : CM S w) (what : Int32) : mm_e (d + 6) yX8_amend mX8_amend [.ref 0, .int what] w (QM (s_amend S what) S) := by
  have hC0 := hC
  obtain ⟨W, rfl, hR⟩ := hC
  obtain ⟨hM, ⟨hx, hy⟩, ⟨ht, hb⟩, hf, ⟨v1, v2⟩, ⟨hk0, hk1⟩, hI, hH, hn⟩ := id hR
  have h6 := hM.n6
  have h4 := hM.g4
  have h5 := hM.b4
  have p6 := p2_le hM.n6
  have l0 := hM.lt31 hT.2.1
  have i18 : vp_in (18 : Int32) 148 := vp_in_nI (n := 18) (by decide) (by decide)
  have i35 : vp_in (35 : Int32) 148 := vp_in_nI (n := 35) (by decide) (by decide)
  have i36 : vp_in (36 : Int32) 148 := vp_in_nI (n := 36) (by decide) (by decide)
  have ex : W.1.1 (18 : Int32).toNatClampNeg = nI (tX S) := hx
  have ey : W.1.1 (36 : Int32).toNatClampNeg = nI (tY S) := hy
  have eb : W.1.1 (35 : Int32).toNatClampNeg = nI (sB (tA S)) := hM.bn
  refine e_of [some (.ref 0), some (.int what), none, none, none, none, none, none] rfl (by decide) rfl rfl rfl ?_
  rw [s_amend, isb_inb]
  cases g : inb (nI 2) what with
  | false =>
    refine r_iload_n (i := 1) 1 dX8_amend_0 rfl rfl rfl ?_
    refine r_i2l 2 dX8_amend_1 rfl ?_
    refine r_lconst (v := 0) 3 dX8_amend_2 rfl rfl ?_
    refine r_lconst (v := 1) 4 dX8_amend_3 rfl rfl ?_
    refine r_callSi [] 7 dX8_amend_4 rfl ykX8_in lk_X8_46 (e_in0 what (n := 2) (by decide) (by decide)) rfl rfl rfl ⟨Nat.le_refl _, Nat.le_refl _⟩ ?_
    rw [g]
    refine r_if_ne 12 10 dX8_amend_7 rfl rfl (fun h7 => absurd rfl h7) (fun h7 => ?_)
    refine r_iconst (v := (-1)) 11 dX8_amend_10 rfl rfl ?_
    exact r_reti dX8_amend_11 rfl (by first | rfl | exact bI_nar _) ⟨Nat.le_refl _, Nat.le_refl _⟩ (fun _ => rfl) (⟨rfl, hC0⟩)
  | true =>
    refine r_iload_n (i := 1) 1 dX8_amend_0 rfl rfl rfl ?_
    refine r_i2l 2 dX8_amend_1 rfl ?_
    refine r_lconst (v := 0) 3 dX8_amend_2 rfl rfl ?_
    refine r_lconst (v := 1) 4 dX8_amend_3 rfl rfl ?_
    refine r_callSi [] 7 dX8_amend_4 rfl ykX8_in lk_X8_46 (e_in0 what (n := 2) (by decide) (by decide)) rfl rfl rfl ⟨Nat.le_refl _, Nat.le_refl _⟩ ?_
    rw [g]
    refine r_if_ne 12 10 dX8_amend_7 rfl rfl (fun h7 => ?_) (fun h7 => absurd h7 (by decide))
    refine r_aload_n (i := 0) 13 dX8_amend_12 rfl rfl rfl ?_
    refine r_callMu 16 dX8_amend_13 rfl ykX8_agreeMany lk_X8_218 (e2_agreeMany hM) rfl rfl rfl rfl rfl rfl ⟨Nat.le_refl _, Nat.le_refl _⟩ ?_
    refine r_istore_n (i := 2) 17 dX8_amend_16 rfl rfl rfl ?_
    refine r_bipush (v := (-4)) 19 dX8_amend_17 rfl rfl ?_
    refine r_istore_n (i := 3) 20 dX8_amend_19 rfl rfl rfl ?_
    refine r_iconst (v := 0) 21 dX8_amend_20 rfl rfl ?_
    refine r_istore (i := 4) 23 dX8_amend_21 rfl rfl ?_
    exact l2_amend1 hM (Q := CM S) (fun t => ⟨_, rfl, relM_To hR t⟩) _ 0 _ none none none rfl (Nat.zero_le _)
theorem l2_strict3 (h : mok W.1 A) {f g : Nat} (hf : f < sN A) (hg : g < sN A) {what a b : Int32} {Qf : Option Value → mm_W → Prop} (out : ∀ o8, mm_r (d + 5) mX8_strict Qf 130 [some (.ref 0), some (.int what), some (.int a), some (.int b), some (.int (nI f)), some (.int (nI g)), some (.int (nI (scw A f g))), some (.int (nI (2 ^ sN A))), o8] [] (wM W)) : ∀ (k s : Nat) (o8 : Option Value), 2 ^ sN A - s = k → s ≤ 2 ^ sN A → mm_r (d + 5) mX8_strict Qf 53 [some (.ref 0), some (.int what), some (.int a), some (.int b), some (.int (nI f)), some (.int (nI g)), some (.int (nI (fb_ct (stw A f g) s))), some (.int (nI s)), o8] [] (wM W) := by
  have h6 := h.n6
  have p6 := p2_le h6
  intro k
  induction k with
  | zero =>
    intro s o8 hk hs
    have : s = 2 ^ sN A := by omega
    subst this
    refine r_iload (i := 7) 55 dX8_strict_53 rfl rfl ?_
    refine r_aload_n (i := 0) 56 dX8_strict_55 rfl rfl rfl ?_
    refine r_callMi 59 dX8_strict_56 rfl ykX8_states lk_X8_134 (e2_states h) rfl rfl rfl rfl rfl rfl ⟨Nat.le_refl _, Nat.le_refl _⟩ ?_
    refine r_icmp_ge 130 62 dX8_strict_59 rfl rfl (fun h59 => ?_) (fun h59 => absurd (Int32.le_refl _) h59)
    exact out o8
  | succ k ih =>
    intro s o8 hk hs
    have k89 : ∀ b1 : Bool, b1 = (decide (tb s f = 1) && decide (tb s g = 1)) → mm_r (d + 5) mX8_strict Qf 89 [some (.ref 0), some (.int what), some (.int a), some (.int b), some (.int (nI f)), some (.int (nI g)), some (.int (nI (fb_ct (stw A f g) s))), some (.int (nI s)), o8] [.int (bI b1)] (wM W) := by
      intro b1 e1
      have fin : ∀ b2 : Bool, b2 = stw A f g s → mm_r (d + 5) mX8_strict Qf 121 [some (.ref 0), some (.int what), some (.int a), some (.int b), some (.int (nI f)), some (.int (nI g)), some (.int (nI (fb_ct (stw A f g) s))), some (.int (nI s)), some (.int (bI b1))] [.int (bI b2), .int (nI (fb_ct (stw A f g) s))] (wM W) := by
        intro b2 e2
        subst e2
        refine r_iadd 122 dX8_strict_121 rfl ?_
        rw [ct_next]
        refine r_istore (i := 6) 124 dX8_strict_122 rfl rfl ?_
        refine r_iinc (i := 7) 127 dX8_strict_124 rfl rfl (by first | exact nI_1 _ | rfl) rfl ?_
        refine r_goto 53 dX8_strict_127 rfl ?_
        exact ih (s + 1) _ (by omega) (by omega)
      refine r_istore (i := 8) 91 dX8_strict_89 rfl rfl ?_
      refine r_iload (i := 6) 93 dX8_strict_91 rfl rfl ?_
      refine r_iload (i := 8) 95 dX8_strict_93 rfl rfl ?_
      refine r_if_ne 120 98 dX8_strict_95 rfl rfl (fun h95 => ?_) (fun h95 => ?_)
      · have g3 := bI_ne0 h95
        rw [g3] at e1
        refine r_iconst (v := 0) 121 dX8_strict_120 rfl rfl ?_
        first | exact fin true (by rw [stw, stl, ← e1, g4, g5]; rfl) | exact fin false (by rw [stw, stl, ← e1, g4, g5]; rfl) | exact fin false (by rw [stw, stl, ← e1, g4]; rfl) | exact fin false (by rw [stw, ← e1, Bool.not_true, Bool.and_false])
      · have g3 := bI_eq0 h95
        rw [g3] at e1
        refine r_aload_n (i := 0) 99 dX8_strict_98 rfl rfl rfl ?_
        refine r_iload (i := 7) 101 dX8_strict_99 rfl rfl ?_
        refine r_callMi 104 dX8_strict_101 rfl ykX8_agrees lk_X8_157 (e2_agrees h (by omega)) rfl rfl rfl rfl rfl rfl ⟨Nat.le_refl _, Nat.le_refl _⟩ ?_
        refine r_if_eq 120 107 dX8_strict_104 rfl rfl (fun h104 => ?_) (fun h104 => ?_)
        · have g4 := bI_eq0 h104
          refine r_iconst (v := 0) 121 dX8_strict_120 rfl rfl ?_
          first | exact fin true (by rw [stw, stl, ← e1, g4, g5]; rfl) | exact fin false (by rw [stw, stl, ← e1, g4, g5]; rfl) | exact fin false (by rw [stw, stl, ← e1, g4]; rfl) | exact fin false (by rw [stw, ← e1, Bool.not_true, Bool.and_false])
        · have g4 := bI_ne0 h104
          refine r_aload_n (i := 0) 108 dX8_strict_107 rfl rfl rfl ?_
          refine r_iload (i := 7) 110 dX8_strict_108 rfl rfl ?_
          refine r_callMi 113 dX8_strict_110 rfl ykX8_isAllowed lk_X8_153 (e2_isAllowed h (by omega)) rfl rfl rfl rfl rfl rfl ⟨Nat.le_refl _, Nat.le_refl _⟩ ?_
          refine r_if_eq 120 116 dX8_strict_113 rfl rfl (fun h113 => ?_) (fun h113 => ?_)
          · have g5 := bI_eq0 h113
            refine r_iconst (v := 0) 121 dX8_strict_120 rfl rfl ?_
            first | exact fin true (by rw [stw, stl, ← e1, g4, g5]; rfl) | exact fin false (by rw [stw, stl, ← e1, g4, g5]; rfl) | exact fin false (by rw [stw, stl, ← e1, g4]; rfl) | exact fin false (by rw [stw, ← e1, Bool.not_true, Bool.and_false])
          · have g5 := bI_ne0 h113
            refine r_iconst (v := 1) 117 dX8_strict_116 rfl rfl ?_
            refine r_goto 121 dX8_strict_117 rfl ?_
            first | exact fin true (by rw [stw, stl, ← e1, g4, g5]; rfl) | exact fin false (by rw [stw, stl, ← e1, g4, g5]; rfl) | exact fin false (by rw [stw, stl, ← e1, g4]; rfl) | exact fin false (by rw [stw, ← e1, Bool.not_true, Bool.and_false])
    refine r_iload (i := 7) 55 dX8_strict_53 rfl rfl ?_
    refine r_aload_n (i := 0) 56 dX8_strict_55 rfl rfl rfl ?_
    refine r_callMi 59 dX8_strict_56 rfl ykX8_states lk_X8_134 (e2_states h) rfl rfl rfl rfl rfl rfl ⟨Nat.le_refl _, Nat.le_refl _⟩ ?_
    refine r_icmp_ge 130 62 dX8_strict_59 rfl rfl (fun h59 => absurd (ble_of (by omega) (by omega) h59) (by omega)) (fun h59 => ?_)
    refine r_iload (i := 7) 64 dX8_strict_62 rfl rfl ?_
    refine r_iload (i := 4) 66 dX8_strict_64 rfl rfl ?_
    refine r_ishr 67 dX8_strict_66 rfl ?_
    refine r_iconst (v := 1) 68 dX8_strict_67 rfl rfl ?_
    refine r_iand 69 dX8_strict_68 rfl ?_
    rw [n_bit (by omega) (by omega)]
    refine r_iconst (v := 1) 70 dX8_strict_69 rfl rfl ?_
    refine r_icmp_ne 88 73 dX8_strict_70 rfl rfl (fun h70 => ?_) (fun h70 => ?_)
    · have g1 := mt (tbI _ _).mpr h70
      refine r_iconst (v := 0) 89 dX8_strict_88 rfl rfl ?_
      first | exact k89 true (by rw [decide_eq_true g1, decide_eq_true g2]; rfl) | exact k89 false (by rw [decide_eq_true g1, decide_eq_false g2]; rfl) | exact k89 false (by rw [decide_eq_false g1]; rfl)
    · have g1 := (tbI _ _).mp h70
      refine r_iload (i := 7) 75 dX8_strict_73 rfl rfl ?_
      refine r_iload (i := 5) 77 dX8_strict_75 rfl rfl ?_
      refine r_ishr 78 dX8_strict_77 rfl ?_
      refine r_iconst (v := 1) 79 dX8_strict_78 rfl rfl ?_
      refine r_iand 80 dX8_strict_79 rfl ?_
      rw [n_bit (by omega) (by omega)]
      refine r_iconst (v := 1) 81 dX8_strict_80 rfl rfl ?_
      refine r_icmp_ne 88 84 dX8_strict_81 rfl rfl (fun h81 => ?_) (fun h81 => ?_)
      · have g2 := mt (tbI _ _).mpr h81
        refine r_iconst (v := 0) 89 dX8_strict_88 rfl rfl ?_
        first | exact k89 true (by rw [decide_eq_true g1, decide_eq_true g2]; rfl) | exact k89 false (by rw [decide_eq_true g1, decide_eq_false g2]; rfl) | exact k89 false (by rw [decide_eq_false g1]; rfl)
      · have g2 := (tbI _ _).mp h81
        refine r_iconst (v := 1) 85 dX8_strict_84 rfl rfl ?_
        refine r_goto 89 dX8_strict_85 rfl ?_
        first | exact k89 true (by rw [decide_eq_true g1, decide_eq_true g2]; rfl) | exact k89 false (by rw [decide_eq_true g1, decide_eq_false g2]; rfl) | exact k89 false (by rw [decide_eq_false g1]; rfl)
theorem l2_strict2 (h : mok W.1 A) {what : Int32} {f : Nat} (hf : f < sN A) (q : Nat × Int32) (hq : q.1 ≤ 64) {Qf : Option Value → mm_W → Prop} (out : ∀ (o5 o6 o7 o8 : Option Value), mm_r (d + 5) mX8_strict Qf 178 [some (.ref 0), some (.int what), some (.int (nI (stG A f (sN A - (f + 1)) q).1)), some (.int (stG A f (sN A - (f + 1)) q).2), some (.int (nI f)), o5, o6, o7, o8] [] (wM W)) : ∀ (k g : Nat) (o6 o7 o8 : Option Value), sN A - (f + 1) - g = k → g ≤ sN A - (f + 1) → mm_r (d + 5) mX8_strict Qf 38 [some (.ref 0), some (.int what), some (.int (nI (stG A f g q).1)), some (.int (stG A f g q).2), some (.int (nI f)), some (.int (nI (f + 1 + g))), o6, o7, o8] [] (wM W) := by
  have h6 := h.n6
  have p6 := p2_le h6
  intro k
  induction k with
  | zero =>
    intro g o6 o7 o8 hk hg
    have : g = sN A - (f + 1) := by omega
    subst this
    have e : f + 1 + (sN A - (f + 1)) = sN A := by omega
    refine r_iload (i := 5) 40 dX8_strict_38 rfl rfl ?_
    refine r_aload_n (i := 0) 41 dX8_strict_40 rfl rfl rfl ?_
    refine r_getf 44 dX8_strict_41 rfl fl_X8_125 rfl rfl ?_
    rw [h.tm, e]
    refine r_icmp_ge 178 47 dX8_strict_44 rfl rfl (fun h44 => ?_) (fun h44 => absurd (Int32.le_refl _) h44)
    exact out _ _ _ _
  | succ k ih =>
    intro g o6 o7 o8 hk hg
    have b1 : scw A f (f + 1 + g) ≤ 2 ^ sN A := fb_ct_le _ _
    have b2 := stG_le A h6 f q hq g
    have e := fun o8 => ih (g + 1) (some (.int (nI (scw A f (f + 1 + g))))) (some (.int (nI (2 ^ sN A)))) o8 (by omega) (by omega)
    rw [stG] at e
    refine r_iload (i := 5) 40 dX8_strict_38 rfl rfl ?_
    refine r_aload_n (i := 0) 41 dX8_strict_40 rfl rfl rfl ?_
    refine r_getf 44 dX8_strict_41 rfl fl_X8_125 rfl rfl ?_
    rw [h.tm]
    refine r_icmp_ge 178 47 dX8_strict_44 rfl rfl (fun h44 => absurd (ble_of (by omega) (by omega) h44) (by omega)) (fun h44 => ?_)
    refine r_iconst (v := 0) 48 dX8_strict_47 rfl rfl ?_
    refine r_istore (i := 6) 50 dX8_strict_48 rfl rfl ?_
    refine r_iconst (v := 0) 51 dX8_strict_50 rfl rfl ?_
    refine r_istore (i := 7) 53 dX8_strict_51 rfl rfl ?_
    refine l2_strict3 h hf (by omega) (fun o8 => ?_) _ 0 o8 rfl (Nat.zero_le _)
    by_cases c0 : scw A f (f + 1 + g) = 0
    · rw [if_neg (by omega)] at e
      have le0 : nI (scw A f (f + 1 + g)) ≤ 0 := by rw [c0]; decide
      refine r_iload (i := 6) 132 dX8_strict_130 rfl rfl ?_
      refine r_if_le 152 135 dX8_strict_132 rfl rfl (fun h132 => ?_) (fun h132 => absurd le0 h132)
      refine r_iload_n (i := 3) 153 dX8_strict_152 rfl rfl rfl ?_
      refine r_istore_n (i := 3) 154 dX8_strict_153 rfl rfl rfl ?_
      refine r_iload (i := 6) 156 dX8_strict_154 rfl rfl ?_
      refine r_if_le 170 159 dX8_strict_156 rfl rfl (fun h156 => ?_) (fun h156 => absurd le0 h156)
      refine r_iload_n (i := 2) 171 dX8_strict_170 rfl rfl rfl ?_
      refine r_istore_n (i := 2) 172 dX8_strict_171 rfl rfl rfl ?_
      refine r_iinc (i := 5) 175 dX8_strict_172 rfl rfl (by first | exact nI_1 _ | rfl) rfl ?_
      refine r_goto 38 dX8_strict_175 rfl ?_
      exact e o8
    · have pos : ¬ nI (scw A f (f + 1 + g)) ≤ 0 := nI_nle (by omega) (by omega)
      by_cases c : scw A f (f + 1 + g) < (stG A f g q).1
      · rw [if_pos ⟨by omega, c⟩] at e
        refine r_iload (i := 6) 132 dX8_strict_130 rfl rfl ?_
        refine r_if_le 152 135 dX8_strict_132 rfl rfl (fun h132 => absurd h132 pos) (fun h132 => ?_)
        refine r_iload (i := 6) 137 dX8_strict_135 rfl rfl ?_
        refine r_iload_n (i := 2) 138 dX8_strict_137 rfl rfl rfl ?_
        refine r_icmp_ge 152 141 dX8_strict_138 rfl rfl (fun h138 => absurd (ble_of (by omega) (by omega) h138) (by omega)) (fun h138 => ?_)
        refine r_bipush (v := 10) 143 dX8_strict_141 rfl rfl ?_
        refine r_iload (i := 4) 145 dX8_strict_143 rfl rfl ?_
        refine r_imul 146 dX8_strict_145 rfl ?_
        refine r_iload (i := 5) 148 dX8_strict_146 rfl rfl ?_
        refine r_iadd 149 dX8_strict_148 rfl ?_
        rw [mul10 (by omega) (by omega)]
        refine r_goto 153 dX8_strict_149 rfl ?_
        refine r_istore_n (i := 3) 154 dX8_strict_153 rfl rfl rfl ?_
        refine r_iload (i := 6) 156 dX8_strict_154 rfl rfl ?_
        refine r_if_le 170 159 dX8_strict_156 rfl rfl (fun h156 => absurd h156 pos) (fun h156 => ?_)
        refine r_iload (i := 6) 161 dX8_strict_159 rfl rfl ?_
        refine r_iload_n (i := 2) 162 dX8_strict_161 rfl rfl rfl ?_
        refine r_icmp_ge 170 165 dX8_strict_162 rfl rfl (fun h162 => absurd (ble_of (by omega) (by omega) h162) (by omega)) (fun h162 => ?_)
        refine r_iload (i := 6) 167 dX8_strict_165 rfl rfl ?_
        refine r_goto 171 dX8_strict_167 rfl ?_
        refine r_istore_n (i := 2) 172 dX8_strict_171 rfl rfl rfl ?_
        refine r_iinc (i := 5) 175 dX8_strict_172 rfl rfl (by first | exact nI_1 _ | rfl) rfl ?_
        refine r_goto 38 dX8_strict_175 rfl ?_
        exact e o8
      · rw [if_neg (by omega)] at e
        refine r_iload (i := 6) 132 dX8_strict_130 rfl rfl ?_
        refine r_if_le 152 135 dX8_strict_132 rfl rfl (fun h132 => absurd h132 pos) (fun h132 => ?_)
        refine r_iload (i := 6) 137 dX8_strict_135 rfl rfl ?_
        refine r_iload_n (i := 2) 138 dX8_strict_137 rfl rfl rfl ?_
        refine r_icmp_ge 152 141 dX8_strict_138 rfl rfl (fun h138 => ?_) (fun h138 => absurd (nI_le (by omega) (by omega)) h138)
        refine r_iload_n (i := 3) 153 dX8_strict_152 rfl rfl rfl ?_
        refine r_istore_n (i := 3) 154 dX8_strict_153 rfl rfl rfl ?_
        refine r_iload (i := 6) 156 dX8_strict_154 rfl rfl ?_
        refine r_if_le 170 159 dX8_strict_156 rfl rfl (fun h156 => absurd h156 pos) (fun h156 => ?_)
        refine r_iload (i := 6) 161 dX8_strict_159 rfl rfl ?_
        refine r_iload_n (i := 2) 162 dX8_strict_161 rfl rfl rfl ?_
        refine r_icmp_ge 170 165 dX8_strict_162 rfl rfl (fun h162 => ?_) (fun h162 => absurd (nI_le (by omega) (by omega)) h162)
        refine r_iload_n (i := 2) 171 dX8_strict_170 rfl rfl rfl ?_
        refine r_istore_n (i := 2) 172 dX8_strict_171 rfl rfl rfl ?_
        refine r_iinc (i := 5) 175 dX8_strict_172 rfl rfl (by first | exact nI_1 _ | rfl) rfl ?_
        refine r_goto 38 dX8_strict_175 rfl ?_
        exact e o8
theorem l2_strict1 (h : mok W.1 A) {what : Int32} {Q : mm_W → Prop} (hQ : Q (wM W)) : ∀ (k f : Nat) (o5 o6 o7 o8 : Option Value), sN A - f = k → f ≤ sN A → mm_r (d + 5) mX8_strict (fun v u => v = some (.int (pick what (stF A (sN A)))) ∧ Q u) 23 [some (.ref 0), some (.int what), some (.int (nI (stF A f).1)), some (.int (stF A f).2), some (.int (nI f)), o5, o6, o7, o8] [] (wM W) := by
  have h6 := h.n6
  intro k
  induction k with
  | zero =>
    intro f o5 o6 o7 o8 hk hf
    have : f = sN A := by omega
    subst this
    refine r_iload (i := 4) 25 dX8_strict_23 rfl rfl ?_
    refine r_aload_n (i := 0) 26 dX8_strict_25 rfl rfl rfl ?_
    refine r_getf 29 dX8_strict_26 rfl fl_X8_125 rfl rfl ?_
    rw [h.tm]
    refine r_icmp_ge 184 32 dX8_strict_29 rfl rfl (fun h29 => ?_) (fun h29 => absurd (Int32.le_refl _) h29)
    refine r_iload_n (i := 3) 185 dX8_strict_184 rfl rfl rfl ?_
    refine r_bipush (v := (-4)) 187 dX8_strict_185 rfl rfl ?_
    refine r_icmp_eq 194 190 dX8_strict_187 rfl rfl (fun h187 => ?_) (fun h187 => ?_)
    · refine r_iload_n (i := 3) 195 dX8_strict_194 rfl rfl rfl ?_
      refine r_goto 199 dX8_strict_195 rfl ?_
      exact r_reti dX8_strict_199 rfl (by first | rfl | exact bI_nar _) ⟨Nat.le_refl _, Nat.le_refl _⟩ (fun _ => rfl) (⟨by simp_all [pick], hQ⟩)
    · refine r_iload_n (i := 1) 191 dX8_strict_190 rfl rfl rfl ?_
      refine r_if_ne 198 194 dX8_strict_191 rfl rfl (fun h191 => ?_) (fun h191 => ?_)
      · refine r_iload_n (i := 2) 199 dX8_strict_198 rfl rfl rfl ?_
        exact r_reti dX8_strict_199 rfl (by first | rfl | exact bI_nar _) ⟨Nat.le_refl _, Nat.le_refl _⟩ (fun _ => rfl) (⟨by simp_all [pick], hQ⟩)
      · refine r_iload_n (i := 3) 195 dX8_strict_194 rfl rfl rfl ?_
        refine r_goto 199 dX8_strict_195 rfl ?_
        exact r_reti dX8_strict_199 rfl (by first | rfl | exact bI_nar _) ⟨Nat.le_refl _, Nat.le_refl _⟩ (fun _ => rfl) (⟨by simp_all [pick], hQ⟩)
  | succ k ih =>
    intro f o5 o6 o7 o8 hk hf
    have hf2 : f < sN A := by omega
    refine r_iload (i := 4) 25 dX8_strict_23 rfl rfl ?_
    refine r_aload_n (i := 0) 26 dX8_strict_25 rfl rfl rfl ?_
    refine r_getf 29 dX8_strict_26 rfl fl_X8_125 rfl rfl ?_
    rw [h.tm]
    refine r_icmp_ge 184 32 dX8_strict_29 rfl rfl (fun h29 => absurd (ble_of (by omega) (by omega) h29) (by omega)) (fun h29 => ?_)
    refine r_iload (i := 4) 34 dX8_strict_32 rfl rfl ?_
    refine r_iconst (v := 1) 35 dX8_strict_34 rfl rfl ?_
    refine r_iadd 36 dX8_strict_35 rfl ?_
    rw [nI_1]
    refine r_istore (i := 5) 38 dX8_strict_36 rfl rfl ?_
    refine l2_strict2 h hf2 (stF A f) (stF_le _ h6 f) ?_ _ 0 o6 o7 o8 rfl (Nat.zero_le _)
    intro o5 o6 o7 o8
    refine r_iinc (i := 4) 181 dX8_strict_178 rfl rfl (by first | exact nI_1 _ | rfl) rfl ?_
    refine r_goto 23 dX8_strict_181 rfl ?_
    exact ih (f + 1) _ _ _ _ (by omega) (by omega)
theorem q_strict (hT : tOk S) (hC : CM S w) (what : Int32) : mm_e (d + 6) yX8_strict mX8_strict [.ref 0, .int what] w (QM (s_strict S what) S) := by
  have hC0 := hC
  obtain ⟨W, rfl, hR⟩ := hC
  obtain ⟨hM, ⟨hx, hy⟩, ⟨ht, hb⟩, hf, ⟨v1, v2⟩, ⟨hk0, hk1⟩, hI, hH, hn⟩ := id hR
  have h6 := hM.n6
  have h4 := hM.g4
  have h5 := hM.b4
  have p6 := p2_le hM.n6
  have l0 := hM.lt31 hT.2.1
  have i18 : vp_in (18 : Int32) 148 := vp_in_nI (n := 18) (by decide) (by decide)
  have i35 : vp_in (35 : Int32) 148 := vp_in_nI (n := 35) (by decide) (by decide)
  have i36 : vp_in (36 : Int32) 148 := vp_in_nI (n := 36) (by decide) (by decide)
  have ex : W.1.1 (18 : Int32).toNatClampNeg = nI (tX S) := hx
  have ey : W.1.1 (36 : Int32).toNatClampNeg = nI (tY S) := hy
  have eb : W.1.1 (35 : Int32).toNatClampNeg = nI (sB (tA S)) := hM.bn
  refine e_of [some (.ref 0), some (.int what), none, none, none, none, none, none, none] rfl (by decide) rfl rfl rfl ?_
  rw [s_strict, isb_inb]
  cases g : inb (nI 2) what with
  | false =>
    refine r_iload_n (i := 1) 1 dX8_strict_0 rfl rfl rfl ?_
    refine r_i2l 2 dX8_strict_1 rfl ?_
    refine r_lconst (v := 0) 3 dX8_strict_2 rfl rfl ?_
    refine r_lconst (v := 1) 4 dX8_strict_3 rfl rfl ?_
    refine r_callSi [] 7 dX8_strict_4 rfl ykX8_in lk_X8_46 (e_in0 what (n := 2) (by decide) (by decide)) rfl rfl rfl ⟨Nat.le_refl _, Nat.le_refl _⟩ ?_
    rw [g]
    refine r_if_ne 12 10 dX8_strict_7 rfl rfl (fun h7 => absurd rfl h7) (fun h7 => ?_)
    refine r_iconst (v := (-1)) 11 dX8_strict_10 rfl rfl ?_
    exact r_reti dX8_strict_11 rfl (by first | rfl | exact bI_nar _) ⟨Nat.le_refl _, Nat.le_refl _⟩ (fun _ => rfl) (⟨rfl, hC0⟩)
  | true =>
    refine r_iload_n (i := 1) 1 dX8_strict_0 rfl rfl rfl ?_
    refine r_i2l 2 dX8_strict_1 rfl ?_
    refine r_lconst (v := 0) 3 dX8_strict_2 rfl rfl ?_
    refine r_lconst (v := 1) 4 dX8_strict_3 rfl rfl ?_
    refine r_callSi [] 7 dX8_strict_4 rfl ykX8_in lk_X8_46 (e_in0 what (n := 2) (by decide) (by decide)) rfl rfl rfl ⟨Nat.le_refl _, Nat.le_refl _⟩ ?_
    rw [g]
    refine r_if_ne 12 10 dX8_strict_7 rfl rfl (fun h7 => ?_) (fun h7 => absurd h7 (by decide))
    refine r_aload_n (i := 0) 13 dX8_strict_12 rfl rfl rfl ?_
    refine r_callMu 16 dX8_strict_13 rfl ykX8_agreeMany lk_X8_218 (e2_agreeMany hM) rfl rfl rfl rfl rfl rfl ⟨Nat.le_refl _, Nat.le_refl _⟩ ?_
    refine r_istore_n (i := 2) 17 dX8_strict_16 rfl rfl rfl ?_
    refine r_bipush (v := (-4)) 19 dX8_strict_17 rfl rfl ?_
    refine r_istore_n (i := 3) 20 dX8_strict_19 rfl rfl rfl ?_
    refine r_iconst (v := 0) 21 dX8_strict_20 rfl rfl ?_
    refine r_istore (i := 4) 23 dX8_strict_21 rfl rfl ?_
    exact l2_strict1 (d := d + 1) (what := what) (W := zTo W (mtl (sN (tA S)) (stl (tA S)) (2 ^ sN (tA S)))) hM (Q := CM S) ⟨_, rfl, relM_To hR (mtl (sN (tA S)) (stl (tA S)) (2 ^ sN (tA S)))⟩ _ 0 none none none none rfl (Nat.zero_le _)
end MI
