section XF
variable {d : Nat} {A : sA} {S : sT} {w : mm_W} {N Z : FlT} {kp : Nat → Int32} {R : RdT} {Si : SiT} {Sr : SrT} {Ta : TaT} {I J : FlT} {H0 H1 H2 H3 : ShT} {tn : Int32}
theorem e_worth {F : FlT} (h : fok F A) {x v : Nat} (hx : x < 2 ^ sN A) (hv : v ≤ 2) : mm_e (d + 4) yX0_worth mX0_worth [.ref 0, .int (nI x), .int (nI v)] (wFl F) (mm_q (some (.int (nI (wth A v x)))) (wFl F)) := by
  have h6 := h.n6
  have p6 := p2_le h6
  have l1 := lt31 h hx
  refine e_of [some (.ref 0), some (.int (nI x)), some (.int (nI v))] rfl (by decide) rfl rfl rfl ?_
  refine r_iload_n (i := 2) 1 dX0_worth_0 rfl rfl rfl ?_
  rcases (by omega : v = 0 ∨ v = 1 ∨ v = 2) with rfl | rfl | rfl
  · refine r_lookup 28 dX0_worth_1 (by decide) rfl rfl ?_
    refine r_aload_n (i := 0) 29 dX0_worth_28 rfl rfl rfl ?_
    refine r_iload_n (i := 1) 30 dX0_worth_29 rfl rfl rfl ?_
    refine r_callVi [0, 1, 2, 3, 4, 5, 6, 7] 33 dX0_worth_30 rfl ykX0_allows lk_X0_84 (e_allows h l1) rfl rfl rfl rfl rfl rfl rfl ⟨Nat.le_refl _, Nat.le_refl _⟩ ?_
    refine r_callSi [] 36 dX0_worth_33 rfl ykX7_bit lk_X0_90 (e_bit _) rfl rfl rfl ⟨Nat.le_refl _, Nat.le_refl _⟩ ?_
    exact r_reti dX0_worth_36 rfl (by first | rfl | exact bI_nar _) ⟨Nat.le_refl _, Nat.le_refl _⟩ (fun _ => rfl) (⟨by rw [bI_nI]; rfl, rfl⟩)
  · refine r_lookup 37 dX0_worth_1 (by decide) rfl rfl ?_
    refine r_aload_n (i := 0) 38 dX0_worth_37 rfl rfl rfl ?_
    refine r_iload_n (i := 1) 39 dX0_worth_38 rfl rfl rfl ?_
    refine r_callVi [0, 1, 2, 3, 4, 5, 6, 7] 42 dX0_worth_39 rfl ykX0_agrees lk_X0_81 (e_agrees h l1) rfl rfl rfl rfl rfl rfl rfl ⟨Nat.le_refl _, Nat.le_refl _⟩ ?_
    refine r_callSi [] 45 dX0_worth_42 rfl ykX7_bit lk_X0_90 (e_bit _) rfl rfl rfl ⟨Nat.le_refl _, Nat.le_refl _⟩ ?_
    exact r_reti dX0_worth_45 rfl (by first | rfl | exact bI_nar _) ⟨Nat.le_refl _, Nat.le_refl _⟩ (fun _ => rfl) (⟨by rw [bI_nI]; rfl, rfl⟩)
  · refine r_lookup 46 dX0_worth_1 (by decide) rfl rfl ?_
    refine r_iload_n (i := 1) 47 dX0_worth_46 rfl rfl rfl ?_
    refine r_callSi [] 50 dX0_worth_47 rfl ykJ6_bitCount_0f7a4 lk_X0_94 (e_bitCount (by omega)) rfl rfl rfl ⟨Nat.le_refl _, Nat.le_refl _⟩ ?_
    exact r_reti dX0_worth_50 rfl (by first | rfl | exact bI_nar _) ⟨Nat.le_refl _, Nat.le_refl _⟩ (fun _ => rfl) (⟨rfl, rfl⟩)
theorem pcn_le (x : Nat) : ∀ n, pcn x n ≤ n
  | 0 => Nat.le_refl _
  | n + 1 => by have := pcn_le x n; have := tb_le x n; rw [pcn]; omega
theorem tb_hi {x n i : Nat} (hx : x < 2 ^ n) (hi : n ≤ i) : tb x i = 0 := by
  have : 2 ^ n ≤ 2 ^ i := Nat.pow_le_pow_right (by decide) hi
  rw [tb, Nat.div_eq_of_lt (by omega)]
theorem pcn_hi {x n : Nat} (hx : x < 2 ^ n) : ∀ m, pcn x (n + m) = pcn x n
  | 0 => rfl
  | m + 1 => by rw [← Nat.add_assoc, pcn, pcn_hi hx m, tb_hi hx (by omega)]; rfl
theorem pcn_6 {x n : Nat} (hn : n ≤ 6) (hx : x < 2 ^ n) : pcn x 6 = pcn x n := by
  have := pcn_hi hx (6 - n)
  rw [show n + (6 - n) = 6 by omega] at this
  exact this
theorem wth_le (A : sA) (w x : Nat) : wth A w x ≤ 6 := by
  unfold wth
  split
  · split <;> decide
  · split <;> decide
  · exact pcn_le x 6
theorem pow10_le {v n : Nat} (hv : v ≤ 10) : v ^ n ≤ 10 ^ n := Nat.pow_le_pow_left hv n
theorem slt_le {A : sA} (hA : sN A ≤ 6) {x v w s : Nat} (hv : v ≤ 10) (hs : s < 2 ^ sN A) : slt A x v w s ≤ 6000000 := by
  have h1 : pcn s 6 ≤ sN A := by rw [pcn_6 hA hs]; exact pcn_le _ _
  have h2 : v ^ pcn s 6 * (10 - v) ^ (sN A - pcn s 6) ≤ 10 ^ pcn s 6 * 10 ^ (sN A - pcn s 6) := Nat.mul_le_mul (pow10_le hv) (pow10_le (by omega))
  rw [← Nat.pow_add, show pcn s 6 + (sN A - pcn s 6) = sN A by omega] at h2
  have h3 : 10 ^ sN A ≤ 10 ^ 6 := Nat.pow_le_pow_right (by decide) hA
  have h4 := wth_le A w (nx A x ^^^ s)
  have := Nat.mul_le_mul (Nat.le_trans h2 h3) h4
  unfold slt
  omega
theorem slp_le {A : sA} (hA : sN A ≤ 6) {x v w : Nat} (hv : v ≤ 10) : slp A x v w ≤ 64 * 6000000 := by
  have := fb_sm_bound (f := slt A x v w) (c := 6000000) (n := 2 ^ sN A) (fun k hk => slt_le hA hv hk)
  exact Nat.le_trans this (Nat.mul_le_mul_right 6000000 (p2_le hA))
theorem lmulN (a b : Nat) : lN a * lN b = lN (a * b) := (Int64.ofNat_mul a b).symm
theorem laddN (a b : Nat) : lN a + lN b = lN (a + b) := (Int64.ofNat_add a b).symm
theorem i2lN {a : Nat} (h : a < 2 ^ 31) : (nI a).toInt64 = lN a := nI_l h
theorem ldivN {a b : Nat} (ha : a < 2 ^ 62) (h0 : 0 < b) (hb : b < 2 ^ 62) : lN a / lN b = lN (a / b) := pk_lDiv (by omega) h0 (by omega)
theorem lcmp1 {a : Nat} (h0 : 0 < a) (h : a < 2 ^ 62) : ¬ lg_cmp (lN a) 1 < 0 := by
  unfold lg_cmp
  rw [show (1 : Int64) = lN 1 from rfl]
  split
  · decide
  · rename_i q1
    split
    · decide
    · rename_i q2
      have r1 : ¬ 1 < a := fun z => q1 ((pk_lLT (by decide) (by omega)).mpr z)
      have r2 : ¬ a = 1 := fun z => q2 ((pk_lEQ (by omega) (by decide)).mpr z)
      omega
theorem l_slips (hC0 : CX S (wX N Z kp R Si Sr Ta I J H0 H1 H2 H3 tn)) (hN : fok N (tA S)) (hx : tX S < 2 ^ sN (tA S)) (what : Int32) {v q : Nat} (hv : v ≤ 10) (hq : q ≤ 2) : ∀ (k i : Nat) (o8 o9 o10 : Option Value), 2 ^ sN (tA S) - i = k → i ≤ 2 ^ sN (tA S) → mm_r (d + 5) mX7_afterSlips (QL (lN ((if what = 0 then slp (tA S) (tX S) v q else 10 ^ sN (tA S)) / Nat.gcd (slp (tA S) (tX S) v q) (10 ^ sN (tA S)))) S) 43 [some (.ref 0), some (.int (nI v)), some (.int what), some (.int (nI q)), some (.int (nI (nx (tA S) (tX S)))), some (.long (lN (fb_sm (slt (tA S) (tX S) v q) i))), none, some (.int (nI i)), o8, o9, o10] [] (wX N Z kp R Si Sr Ta I J H0 H1 H2 H3 tn) := by
  have h6 := hN.n6
  have p6 := p2_le h6
  have b10 : 10 ^ sN (tA S) ≤ 10 ^ 6 := Nat.pow_le_pow_right (by decide) h6
  have b0 : 0 < 10 ^ sN (tA S) := Nat.pow_pos (by decide)
  have bs := slp_le h6 (x := tX S) (w := q) hv
  intro k
  induction k with
  | zero =>
    intro i o8 o9 o10 hk hi
    have : i = 2 ^ sN (tA S) := by omega
    subst this
    have g0 : 0 < Nat.gcd (slp (tA S) (tX S) v q) (10 ^ sN (tA S)) := Nat.gcd_pos_of_pos_right _ b0
    have g1 : Nat.gcd (slp (tA S) (tX S) v q) (10 ^ sN (tA S)) ≤ 10 ^ sN (tA S) := Nat.le_of_dvd b0 (Nat.gcd_dvd_right _ _)
    have gne : ¬ lN (Nat.gcd (slp (tA S) (tX S) v q) (10 ^ sN (tA S))) = 0 := fun z => by have := (fb_lN_inj (b := 0) (by omega) (by decide)).mp z; omega
    refine r_iload (i := 7) 45 dX7_afterSlips_43 rfl rfl ?_
    refine r_aload_n (i := 0) 46 dX7_afterSlips_45 rfl rfl rfl ?_
    refine r_getf 49 dX7_afterSlips_46 rfl fl_X7_10 rfl rfl ?_
    refine r_callVi [1, 2, 3, 4, 5, 6, 7, 8] 52 dX7_afterSlips_49 rfl ykX0_states lk_X7_210 (e_states hN.th h6) rfl rfl (sb_now _ _ _ _ _ _ _ _ _ _ _ _ _ _) rfl rfl rfl rfl ⟨Nat.le_refl _, Nat.le_refl _⟩ ?_
    refine r_icmp_ge 116 55 dX7_afterSlips_52 rfl rfl (fun h52 => ?_) (fun h52 => absurd (Int32.le_refl _) h52)
    refine r_bipush (v := 10) 118 dX7_afterSlips_116 rfl rfl ?_
    refine r_aload_n (i := 0) 119 dX7_afterSlips_118 rfl rfl rfl ?_
    refine r_getf 122 dX7_afterSlips_119 rfl fl_X7_10 rfl rfl ?_
    refine r_getf 125 dX7_afterSlips_122 rfl fl_X7_98 rfl rfl ?_
    rw [hN.th]
    refine r_callSl [] 128 dX7_afterSlips_125 rfl ykX7_power lk_X7_329 (e_power (b := 10) (by decide) (by omega)) rfl rfl rfl ⟨Nat.le_refl _, Nat.le_refl _⟩ ?_
    refine r_lstore (i := 7) 130 dX7_afterSlips_128 rfl rfl ?_
    refine r_lload (i := 5) 132 dX7_afterSlips_130 rfl rfl ?_
    refine r_lload (i := 7) 134 dX7_afterSlips_132 rfl rfl ?_
    refine r_callSl [] 137 dX7_afterSlips_134 rfl ykX7_commonDivisor lk_X7_336 (e_commonDivisor (x := slp (tA S) (tX S) v q) (by omega) (by omega)) rfl rfl rfl ⟨Nat.le_refl _, Nat.le_refl _⟩ ?_
    refine r_lstore (i := 9) 139 dX7_afterSlips_137 rfl rfl ?_
    refine r_lload (i := 9) 141 dX7_afterSlips_139 rfl rfl ?_
    refine r_lconst (v := 1) 142 dX7_afterSlips_141 rfl rfl ?_
    refine r_lcmp 143 dX7_afterSlips_142 rfl ?_
    refine r_if_ge 150 146 dX7_afterSlips_143 rfl rfl (fun h143 => ?_) (fun h143 => absurd (Int32.not_le.mp h143) (lcmp1 g0 (by omega)))
    refine r_iload_n (i := 2) 151 dX7_afterSlips_150 rfl rfl rfl ?_
    refine r_if_ne 159 154 dX7_afterSlips_151 rfl rfl (fun h151 => ?_) (fun h151 => ?_)
    · refine r_lload (i := 7) 161 dX7_afterSlips_159 rfl rfl ?_
      refine r_lload (i := 9) 163 dX7_afterSlips_161 rfl rfl ?_
      refine r_ldiv 164 dX7_afterSlips_163 rfl (gne) ?_
      rw [ldivN (by first | exact Nat.lt_of_le_of_lt bs (by decide) | omega) g0 (by omega)]
      exact r_retl dX7_afterSlips_164 rfl ⟨Nat.le_refl _, Nat.le_refl _⟩ (fun _ => rfl) (⟨by first | rw [if_neg h151] | (rw [if_pos h151]; rfl), hC0⟩)
    · refine r_lload (i := 5) 156 dX7_afterSlips_154 rfl rfl ?_
      refine r_goto 161 dX7_afterSlips_156 rfl ?_
      refine r_lload (i := 9) 163 dX7_afterSlips_161 rfl rfl ?_
      refine r_ldiv 164 dX7_afterSlips_163 rfl (gne) ?_
      rw [ldivN (by first | exact Nat.lt_of_le_of_lt bs (by decide) | omega) g0 (by omega)]
      exact r_retl dX7_afterSlips_164 rfl ⟨Nat.le_refl _, Nat.le_refl _⟩ (fun _ => rfl) (⟨by first | rw [if_neg h151] | (rw [if_pos h151]; rfl), hC0⟩)
  | succ k ih =>
    intro i o8 o9 o10 hk hi
    have hi2 : i < 2 ^ sN (tA S) := by omega
    have c1 : pcn i 6 ≤ sN (tA S) := by rw [pcn_6 h6 hi2]; exact pcn_le _ _
    have w1 := wth_le (tA S) q (nx (tA S) (tX S) ^^^ i)
    have lx : nx (tA S) (tX S) ^^^ i < 2 ^ sN (tA S) := Nat.xor_lt_two_pow (nx_lt _ _) hi2
    refine r_iload (i := 7) 45 dX7_afterSlips_43 rfl rfl ?_
    refine r_aload_n (i := 0) 46 dX7_afterSlips_45 rfl rfl rfl ?_
    refine r_getf 49 dX7_afterSlips_46 rfl fl_X7_10 rfl rfl ?_
    refine r_callVi [1, 2, 3, 4, 5, 6, 7, 8] 52 dX7_afterSlips_49 rfl ykX0_states lk_X7_210 (e_states hN.th h6) rfl rfl (sb_now _ _ _ _ _ _ _ _ _ _ _ _ _ _) rfl rfl rfl rfl ⟨Nat.le_refl _, Nat.le_refl _⟩ ?_
    refine r_icmp_ge 116 55 dX7_afterSlips_52 rfl rfl (fun h52 => absurd (ble_of (by omega) (by omega) h52) (by omega)) (fun h52 => ?_)
    refine r_iload (i := 7) 57 dX7_afterSlips_55 rfl rfl ?_
    refine r_callSi [] 60 dX7_afterSlips_57 rfl ykJ6_bitCount_0f7a4 lk_X7_314 (e_bitCount (by omega)) rfl rfl rfl ⟨Nat.le_refl _, Nat.le_refl _⟩ ?_
    refine r_istore (i := 8) 62 dX7_afterSlips_60 rfl rfl ?_
    refine r_iload_n (i := 1) 63 dX7_afterSlips_62 rfl rfl rfl ?_
    refine r_iload (i := 8) 65 dX7_afterSlips_63 rfl rfl ?_
    refine r_callSl [] 68 dX7_afterSlips_65 rfl ykX7_power lk_X7_329 (e_power (by omega) (by omega)) rfl rfl rfl ⟨Nat.le_refl _, Nat.le_refl _⟩ ?_
    refine r_bipush (v := 10) 70 dX7_afterSlips_68 rfl rfl ?_
    refine r_iload_n (i := 1) 71 dX7_afterSlips_70 rfl rfl rfl ?_
    refine r_isub 72 dX7_afterSlips_71 rfl ?_
    refine r_aload_n (i := 0) 73 dX7_afterSlips_72 rfl rfl rfl ?_
    refine r_getf 76 dX7_afterSlips_73 rfl fl_X7_10 rfl rfl ?_
    refine r_getf 79 dX7_afterSlips_76 rfl fl_X7_98 rfl rfl ?_
    refine r_iload (i := 8) 81 dX7_afterSlips_79 rfl rfl ?_
    refine r_isub 82 dX7_afterSlips_81 rfl ?_
    rw [hN.th, show (10 : Int32) = nI 10 from rfl, pk_sub hv, pk_sub c1]
    refine r_callSl [] 85 dX7_afterSlips_82 rfl ykX7_power lk_X7_329 (e_power (by omega) (by omega)) rfl rfl rfl ⟨Nat.le_refl _, Nat.le_refl _⟩ ?_
    refine r_lmul 86 dX7_afterSlips_85 rfl ?_
    rw [lmulN]
    refine r_lstore (i := 9) 88 dX7_afterSlips_86 rfl rfl ?_
    refine r_lload (i := 5) 90 dX7_afterSlips_88 rfl rfl ?_
    refine r_lload (i := 9) 92 dX7_afterSlips_90 rfl rfl ?_
    refine r_aload_n (i := 0) 93 dX7_afterSlips_92 rfl rfl rfl ?_
    refine r_getf 96 dX7_afterSlips_93 rfl fl_X7_10 rfl rfl ?_
    refine r_iload (i := 4) 98 dX7_afterSlips_96 rfl rfl ?_
    refine r_iload (i := 7) 100 dX7_afterSlips_98 rfl rfl ?_
    refine r_ixor 101 dX7_afterSlips_100 rfl ?_
    rw [fb_xorI]
    refine r_iload_n (i := 3) 102 dX7_afterSlips_101 rfl rfl rfl ?_
    refine r_callVi [1, 2, 3, 4, 5, 6, 7, 8] 105 dX7_afterSlips_102 rfl ykX0_worth lk_X7_333 (e_worth hN lx hq) rfl rfl (sb_now _ _ _ _ _ _ _ _ _ _ _ _ _ _) rfl rfl rfl rfl ⟨Nat.le_refl _, Nat.le_refl _⟩ ?_
    refine r_i2l 106 dX7_afterSlips_105 rfl ?_
    rw [i2lN (by omega)]
    refine r_lmul 107 dX7_afterSlips_106 rfl ?_
    rw [lmulN]
    refine r_ladd 108 dX7_afterSlips_107 rfl ?_
    rw [laddN]
    refine r_lstore (i := 5) 110 dX7_afterSlips_108 rfl rfl ?_
    refine r_iinc (i := 7) 113 dX7_afterSlips_110 rfl rfl (by first | exact nI_1 _ | rfl) rfl ?_
    refine r_goto 43 dX7_afterSlips_113 rfl ?_
    exact ih (i + 1) _ _ _ (by omega) (by omega)
theorem p_slips (hC : CX S w) (v what : Int32) {q : Nat} (hq : q ≤ 2) : mm_e (d + 5) yX7_afterSlips mX7_afterSlips [.ref 0, .int v, .int what, .int (nI q)] w (QL (s_slips q S v what) S) := by
  have hC0 := hC
  obtain ⟨hT, N, Z, kp, R, Si, Sr, Ta, I, J, H0, H1, H2, H3, tn, rfl, hN, hx, hy, ⟨ht, hb⟩, hf, hs, ⟨hk0, hk1⟩, hI, hJ, ⟨s0, s1, s2, s3⟩, hn⟩ := hC
  have l0 := lt31 hN hT.2.1
  have h6 := hN.n6
  have h4 := hN.g4
  have h5 := hN.b4
  refine e_of [some (.ref 0), some (.int v), some (.int what), some (.int (nI q)), none, none, none, none, none, none, none] rfl (by decide) rfl rfl rfl ?_
  rw [s_slips, isb]
  refine r_iload_n (i := 1) 1 dX7_afterSlips_0 rfl rfl rfl ?_
  refine r_if_lt 17 4 dX7_afterSlips_1 rfl rfl (fun h1 => ?_) (fun h1 => ?_)
  · have gv : (inb 11 v && decide (what = 0 ∨ what = 1)) = false := by rw [inb_f1 h1]; rfl
    refine r_ldc2 20 dX7_afterSlips_17 rfl k_X7_327 ?_
    exact r_retl dX7_afterSlips_20 rfl ⟨Nat.le_refl _, Nat.le_refl _⟩ (fun _ => rfl) (⟨by rw [gv]; rfl, hC0⟩)
  · refine r_iload_n (i := 1) 5 dX7_afterSlips_4 rfl rfl rfl ?_
    refine r_bipush (v := 10) 7 dX7_afterSlips_5 rfl rfl ?_
    refine r_icmp_gt 17 10 dX7_afterSlips_7 rfl rfl (fun h7 => ?_) (fun h7 => ?_)
    · have gv : (inb 11 v && decide (what = 0 ∨ what = 1)) = false := by rw [inb_f2 (n := 11) (gtk (k := 10) (by decide) (Int32.not_le.mpr h7))]; rfl
      refine r_ldc2 20 dX7_afterSlips_17 rfl k_X7_327 ?_
      exact r_retl dX7_afterSlips_20 rfl ⟨Nat.le_refl _, Nat.le_refl _⟩ (fun _ => rfl) (⟨by rw [gv]; rfl, hC0⟩)
    · refine r_iload_n (i := 2) 11 dX7_afterSlips_10 rfl rfl rfl ?_
      refine r_callSi [] 14 dX7_afterSlips_11 rfl ykX7_isBit lk_X7_148 (e_isBit what) rfl rfl rfl ⟨Nat.le_refl _, Nat.le_refl _⟩ ?_
      refine r_if_ne 21 17 dX7_afterSlips_14 rfl rfl (fun h14 => ?_) (fun h14 => ?_)
      · have gv1 : inb 11 v = true := inb_t h1 (ngtk (k := 10) (by decide) (Int32.not_lt.mp h7))
        obtain ⟨j, hj, rfl⟩ := inb_nI (n := 11) (by decide) gv1
        rw [gv1, bI_ne0 h14, nI_clamp (n := j) (by omega)]
        refine r_aload_n (i := 0) 22 dX7_afterSlips_21 rfl rfl rfl ?_
        refine r_getf 25 dX7_afterSlips_22 rfl fl_X7_10 rfl rfl ?_
        refine r_aload_n (i := 0) 26 dX7_afterSlips_25 rfl rfl rfl ?_
        refine r_getf 29 dX7_afterSlips_26 rfl fl_X7_10 rfl rfl ?_
        refine r_getf 32 dX7_afterSlips_29 rfl fl_X7_110 rfl rfl ?_
        rw [hx]
        refine r_callVi [1, 2, 3, 4, 5, 6, 7, 8] 35 dX7_afterSlips_32 rfl ykX0_afterYear lk_X7_194 (e_afterYear hN l0) rfl rfl (sb_now _ _ _ _ _ _ _ _ _ _ _ _ _ _) rfl rfl rfl rfl ⟨Nat.le_refl _, Nat.le_refl _⟩ ?_
        refine r_istore (i := 4) 37 dX7_afterSlips_35 rfl rfl ?_
        refine r_lconst (v := 0) 38 dX7_afterSlips_37 rfl rfl ?_
        refine r_lstore (i := 5) 40 dX7_afterSlips_38 rfl rfl ?_
        refine r_iconst (v := 0) 41 dX7_afterSlips_40 rfl rfl ?_
        refine r_istore (i := 7) 43 dX7_afterSlips_41 rfl rfl ?_
        exact l_slips hC0 hN hT.2.1 what (by omega) hq _ 0 none none none rfl (Nat.zero_le _)
      · have gv : (inb 11 v && decide (what = 0 ∨ what = 1)) = false := by rw [bI_eq0 h14, Bool.and_false]
        refine r_ldc2 20 dX7_afterSlips_17 rfl k_X7_327 ?_
        exact r_retl dX7_afterSlips_20 rfl ⟨Nat.le_refl _, Nat.le_refl _⟩ (fun _ => rfl) (⟨by rw [gv]; rfl, hC0⟩)
theorem QL_len (r : Int64) (S : sT) (v : Option Value) (u : mm_W) (h : QL r S v u) : u.length = 64 := by
  obtain ⟨-, -, N, Z, kp, R, Si, Sr, Ta, I, J, H0, H1, H2, H3, tn, rfl, -⟩ := h
  rfl
theorem p_luck (hC : CX S w) (v what : Int32) : mm_e (d + 6) yX7_luck mX7_luck [.ref 0, .int v, .int what] w (QL (s_slips 0 S v what) S) := by
  have hC0 := hC
  obtain ⟨hT, N, Z, kp, R, Si, Sr, Ta, I, J, H0, H1, H2, H3, tn, rfl, hN, hx, hy, ⟨ht, hb⟩, hf, hs, ⟨hk0, hk1⟩, hI, hJ, ⟨s0, s1, s2, s3⟩, hn⟩ := hC
  have l0 := lt31 hN hT.2.1
  have h6 := hN.n6
  have h4 := hN.g4
  have h5 := hN.b4
  refine e_of [some (.ref 0), some (.int v), some (.int what)] rfl (by decide) rfl rfl rfl ?_
  refine r_aload_n (i := 0) 1 dX7_luck_0 rfl rfl rfl ?_
  refine r_iload_n (i := 1) 2 dX7_luck_1 rfl rfl rfl ?_
  refine r_iload_n (i := 2) 3 dX7_luck_2 rfl rfl rfl ?_
  refine r_iconst (v := 0) 4 dX7_luck_3 rfl rfl ?_
  refine r_callVw 7 dX7_luck_4 rfl ykX7_afterSlips lk_X7_260 (p_slips (q := 0) hC0 v what (by decide)) rfl nd64 rfl rfl rfl rfl ⟨Nat.le_refl _, Nat.le_refl _⟩ (QL_len _ _) (fun v u hq => ?_)
  obtain ⟨rfl, hC2⟩ := hq
  exact r_retl dX7_luck_7 rfl ⟨Nat.le_refl _, Nat.le_refl _⟩ (fun _ => rfl) (⟨rfl, hC2⟩)
theorem p_calm (hC : CX S w) (v what : Int32) : mm_e (d + 6) yX7_calm mX7_calm [.ref 0, .int v, .int what] w (QL (s_slips 1 S v what) S) := by
  have hC0 := hC
  obtain ⟨hT, N, Z, kp, R, Si, Sr, Ta, I, J, H0, H1, H2, H3, tn, rfl, hN, hx, hy, ⟨ht, hb⟩, hf, hs, ⟨hk0, hk1⟩, hI, hJ, ⟨s0, s1, s2, s3⟩, hn⟩ := hC
  have l0 := lt31 hN hT.2.1
  have h6 := hN.n6
  have h4 := hN.g4
  have h5 := hN.b4
  refine e_of [some (.ref 0), some (.int v), some (.int what)] rfl (by decide) rfl rfl rfl ?_
  refine r_aload_n (i := 0) 1 dX7_calm_0 rfl rfl rfl ?_
  refine r_iload_n (i := 1) 2 dX7_calm_1 rfl rfl rfl ?_
  refine r_iload_n (i := 2) 3 dX7_calm_2 rfl rfl rfl ?_
  refine r_iconst (v := 1) 4 dX7_calm_3 rfl rfl ?_
  refine r_callVw 7 dX7_calm_4 rfl ykX7_afterSlips lk_X7_260 (p_slips (q := 1) hC0 v what (by decide)) rfl nd64 rfl rfl rfl rfl ⟨Nat.le_refl _, Nat.le_refl _⟩ (QL_len _ _) (fun v u hq => ?_)
  obtain ⟨rfl, hC2⟩ := hq
  exact r_retl dX7_calm_7 rfl ⟨Nat.le_refl _, Nat.le_refl _⟩ (fun _ => rfl) (⟨rfl, hC2⟩)
theorem p_mean (hC : CX S w) (v what : Int32) : mm_e (d + 6) yX7_mean mX7_mean [.ref 0, .int v, .int what] w (QL (s_slips 2 S v what) S) := by
  have hC0 := hC
  obtain ⟨hT, N, Z, kp, R, Si, Sr, Ta, I, J, H0, H1, H2, H3, tn, rfl, hN, hx, hy, ⟨ht, hb⟩, hf, hs, ⟨hk0, hk1⟩, hI, hJ, ⟨s0, s1, s2, s3⟩, hn⟩ := hC
  have l0 := lt31 hN hT.2.1
  have h6 := hN.n6
  have h4 := hN.g4
  have h5 := hN.b4
  refine e_of [some (.ref 0), some (.int v), some (.int what)] rfl (by decide) rfl rfl rfl ?_
  refine r_aload_n (i := 0) 1 dX7_mean_0 rfl rfl rfl ?_
  refine r_iload_n (i := 1) 2 dX7_mean_1 rfl rfl rfl ?_
  refine r_iload_n (i := 2) 3 dX7_mean_2 rfl rfl rfl ?_
  refine r_iconst (v := 2) 4 dX7_mean_3 rfl rfl ?_
  refine r_callVw 7 dX7_mean_4 rfl ykX7_afterSlips lk_X7_260 (p_slips (q := 2) hC0 v what (by decide)) rfl nd64 rfl rfl rfl rfl ⟨Nat.le_refl _, Nat.le_refl _⟩ (QL_len _ _) (fun v u hq => ?_)
  obtain ⟨rfl, hC2⟩ := hq
  exact r_retl dX7_mean_7 rfl ⟨Nat.le_refl _, Nat.le_refl _⟩ (fun _ => rfl) (⟨rfl, hC2⟩)
theorem l_way {W0 : Option (Nat × Nat)} (hR : ∀ Sr, CX S (wX N Z kp R Si Sr Ta I J H0 H1 H2 H3 tn)) (hN : fok N (tA S)) (hfx : fSt N = nI (tX S)) (hx : tX S < 2 ^ sN (tA S)) (f v what : Int32) {G : Option (Nat × Nat)} (Q : Option Value → mm_W → Prop) (out : ∀ (Sr : SrT) (m n : Nat) (b : Option Nat), n ≤ 4 → hld Sr (tA S) n b → (match b with | some c => W0 = some (n, c) | none => W0 = none) → mm_r (d + 6) mX7_way Q 81 [some (.ref 0), some (.int f), some (.int v), some (.int what), some (.int (nI m))] [] (wX N Z kp R Si Sr Ta I J H0 H1 H2 H3 tn)) : ∀ (k n : Nat) (Sr : SrT), k + n = 5 → W0 = wy (tA S) (tX S) G k n → aim Sr G (sN (tA S)) → Sr.2.2.2.2.1 = 0 → mm_r (d + 6) mX7_way Q 46 [some (.ref 0), some (.int f), some (.int v), some (.int what), some (.int (nI n))] [] (wX N Z kp R Si Sr Ta I J H0 H1 H2 H3 tn) := by
  intro k
  induction k with
  | zero =>
    intro n Sr hk e ha h0
    have : n = 5 := by omega
    subst this
    refine r_iload (i := 4) 48 dX7_way_46 rfl rfl ?_
    refine r_iconst (v := 4) 49 dX7_way_48 rfl rfl ?_
    refine r_icmp_gt 81 52 dX7_way_49 rfl rfl (fun h49 => ?_) (fun h49 => absurd (by decide) h49)
    exact out Sr 5 0 none (by decide) h0 e
  | succ k ih =>
    intro n Sr hk e ha h0
    rw [wy] at e
    refine r_iload (i := 4) 48 dX7_way_46 rfl rfl ?_
    refine r_iconst (v := 4) 49 dX7_way_48 rfl rfl ?_
    refine r_icmp_gt 81 52 dX7_way_49 rfl rfl (fun h49 => absurd (blt_of (a := 4) (by decide) (by omega) h49) (by omega)) (fun h49 => ?_)
    refine r_aload_n (i := 0) 53 dX7_way_52 rfl rfl rfl ?_
    refine r_getf 56 dX7_way_53 rfl fl_X7_44 rfl rfl ?_
    refine r_getf 59 dX7_way_56 rfl fl_X7_237 rfl rfl ?_
    rw [h0]
    refine r_if_ne 81 62 dX7_way_59 rfl rfl (fun h59 => absurd rfl h59) (fun h59 => ?_)
    refine r_aload_n (i := 0) 63 dX7_way_62 rfl rfl rfl ?_
    refine r_getf 66 dX7_way_63 rfl fl_X7_44 rfl rfl ?_
    refine r_aload_n (i := 0) 67 dX7_way_66 rfl rfl rfl ?_
    refine r_getf 70 dX7_way_67 rfl fl_X7_10 rfl rfl ?_
    refine r_iload (i := 4) 72 dX7_way_70 rfl rfl ?_
    refine r_callVq [35, 36, 37, 1, 2, 3, 4, 5, 6, 7, 8] 75 dX7_way_72 rfl ykX2_tryRows lk_X7_241 (e_try (G := G) hN hfx hx (by omega) ha h0) rfl rfl (sb_srf _ _ _ _ _ _ _ _ _ _ _ _ _ _) rfl rfl rfl rfl ⟨Nat.le_refl _, Nat.le_refl _⟩ (fun v u hq => ?_)
    obtain ⟨rfl, Sr2, rfl, ha2, hh2⟩ := hq
    rw [bk_srf]
    cases hb : bst (tA S) (tX S) n G ((sG (tA S) + 1) ^ n) with
    | none =>
      rw [hb] at e hh2
      refine r_iinc (i := 4) 78 dX7_way_75 rfl rfl (by first | exact nI_1 _ | rfl) rfl ?_
      refine r_goto 46 dX7_way_78 rfl ?_
      exact ih (n + 1) Sr2 (by omega) e ha2 hh2
    | some c =>
      rw [hb] at e hh2
      refine r_iinc (i := 4) 78 dX7_way_75 rfl rfl (by first | exact nI_1 _ | rfl) rfl ?_
      refine r_goto 46 dX7_way_78 rfl ?_
      by_cases q5 : n = 4
      · subst q5
        refine r_iload (i := 4) 48 dX7_way_46 rfl rfl ?_
        refine r_iconst (v := 4) 49 dX7_way_48 rfl rfl ?_
        refine r_icmp_gt 81 52 dX7_way_49 rfl rfl (fun h49 => ?_) (fun h49 => absurd (by decide) h49)
        exact out Sr2 5 4 (some c) (by decide) hh2 e
      · refine r_iload (i := 4) 48 dX7_way_46 rfl rfl ?_
        refine r_iconst (v := 4) 49 dX7_way_48 rfl rfl ?_
        refine r_icmp_gt 81 52 dX7_way_49 rfl rfl (fun h49 => absurd (blt_of (a := 4) (b := n + 1) (by decide) (by omega) h49) (by omega)) (fun h49 => ?_)
        refine r_aload_n (i := 0) 53 dX7_way_52 rfl rfl rfl ?_
        refine r_getf 56 dX7_way_53 rfl fl_X7_44 rfl rfl ?_
        refine r_getf 59 dX7_way_56 rfl fl_X7_237 rfl rfl ?_
        rw [hh2.1]
        refine r_if_ne 81 62 dX7_way_59 rfl rfl (fun h59 => ?_) (fun h59 => absurd h59 (by decide))
        exact out Sr2 (n + 1) n (some c) (by omega) hh2 e
theorem p_way (hC : CX S w) (f v what : Int32) : mm_e (d + 6) yX7_way mX7_way [.ref 0, .int f, .int v, .int what] w (QX (s_way S f v what) S) := by
  have hC0 := hC
  obtain ⟨hT, N, Z, kp, R, Si, Sr, Ta, I, J, H0, H1, H2, H3, tn, rfl, hN, hx, hy, ⟨ht, hb⟩, hf, hs, ⟨hk0, hk1⟩, hI, hJ, ⟨s0, s1, s2, s3⟩, hn⟩ := hC
  have l0 := lt31 hN hT.2.1
  have h6 := hN.n6
  have h4 := hN.g4
  have h5 := hN.b4
  have hR : ∀ Sr, CX S (wX N Z kp R Si Sr Ta I J H0 H1 H2 H3 tn) := fun Sr => ⟨hT, N, Z, kp, R, Si, Sr, Ta, I, J, H0, H1, H2, H3, tn, rfl, hN, hx, hy, ⟨ht, hb⟩, hf, hs, ⟨hk0, hk1⟩, hI, hJ, ⟨s0, s1, s2, s3⟩, hn⟩
  refine e_of [some (.ref 0), some (.int f), some (.int v), some (.int what), none] rfl (by decide) rfl rfl rfl ?_
  rw [s_way]
  have go : inb (nI (sN (tA S))) f = true → isb v = true → (isb what || iwy what) = true → mm_r (d + 6) mX7_way (QX (match wy (tA S) (tX S) (some (f.toNatClampNeg, v.toNatClampNeg)) 5 0 with | none => -4 | some q => if what = 0 then nI q.1 else if what = 1 then nI (prc (tA S) q.1 q.2) else who (sG (tA S)) q.1 (some q.2) (what - 10)) S) 34 [some (.ref 0), some (.int f), some (.int v), some (.int what), none] [] (wX N Z kp R Si Sr Ta I J H0 H1 H2 H3 tn) := by
    intro g1 g2 g3
    obtain ⟨j, hj, rfl⟩ := inb_nI (by omega) g1
    obtain ⟨u, hu, rfl⟩ : ∃ u, u ≤ 1 ∧ v = nI u := by rcases of_decide_eq_true g2 with rfl | rfl; (· exact ⟨0, by decide, rfl⟩); (· exact ⟨1, by decide, rfl⟩)
    rw [nI_clamp (n := j) (by omega), nI_clamp (n := u) (by omega)]
    refine r_aload_n (i := 0) 35 dX7_way_34 rfl rfl rfl ?_
    refine r_getf 38 dX7_way_35 rfl fl_X7_44 rfl rfl ?_
    refine r_iload_n (i := 1) 39 dX7_way_38 rfl rfl rfl ?_
    refine r_iload_n (i := 2) 40 dX7_way_39 rfl rfl rfl ?_
    refine r_callVu [35, 36, 37] 43 dX7_way_40 rfl ykX2_aimAt lk_X7_234 (e_aimAt (nI j) (nI u)) rfl rfl (sb_sr _ _ _ _ _ _ _ _ _ _ _ _ _ _) rfl rfl rfl rfl ⟨Nat.le_refl _, Nat.le_refl _⟩ ?_
    rw [bk_sr]
    refine r_iconst (v := 0) 44 dX7_way_43 rfl rfl ?_
    refine r_istore (i := 4) 46 dX7_way_44 rfl rfl ?_
    refine l_way (G := some (j, u)) (W0 := wy (tA S) (tX S) (some (j, u)) 5 0) hR hN hx hT.2.1 (nI j) (nI u) what _ ?_ 5 0 _ rfl rfl ⟨rfl, hj, rfl, hu⟩ rfl
    intro Sr m n b hn hh e
    cases b with
    | none =>
      rw [e]
      have h0 : Sr.2.2.2.2.1 = 0 := hh
      refine r_iload_n (i := 3) 82 dX7_way_81 rfl rfl rfl ?_
      refine r_callSi [] 85 dX7_way_82 rfl ykX7_isWayYear lk_X7_231 (e_isWayYear what) rfl rfl rfl ⟨Nat.le_refl _, Nat.le_refl _⟩ ?_
      refine r_if_eq 100 88 dX7_way_85 rfl rfl (fun h85 => ?_) (fun h85 => ?_)
      · refine r_aload_n (i := 0) 101 dX7_way_100 rfl rfl rfl ?_
        refine r_getf 104 dX7_way_101 rfl fl_X7_44 rfl rfl ?_
        refine r_getf 107 dX7_way_104 rfl fl_X7_237 rfl rfl ?_
        rw [h0]
        refine r_if_ne 113 110 dX7_way_107 rfl rfl (fun h107 => absurd rfl h107) (fun h107 => ?_)
        refine r_bipush (v := (-4)) 112 dX7_way_110 rfl rfl ?_
        exact r_reti dX7_way_112 rfl (by first | rfl | exact bI_nar _) ⟨Nat.le_refl _, Nat.le_refl _⟩ (fun _ => rfl) (⟨rfl, hR _⟩)
      · refine r_aload_n (i := 0) 89 dX7_way_88 rfl rfl rfl ?_
        refine r_getf 92 dX7_way_89 rfl fl_X7_44 rfl rfl ?_
        refine r_iload_n (i := 3) 93 dX7_way_92 rfl rfl rfl ?_
        refine r_bipush (v := 10) 95 dX7_way_93 rfl rfl ?_
        refine r_isub 96 dX7_way_95 rfl ?_
        refine r_callVi [35, 36, 37] 99 dX7_way_96 rfl ykX2_guestAhead lk_X7_245 (e_guestAhead (A := tA S) (b := none) hh hn h4 _) rfl rfl (sb_sr _ _ _ _ _ _ _ _ _ _ _ _ _ _) rfl rfl rfl rfl ⟨Nat.le_refl _, Nat.le_refl _⟩ ?_
        exact r_reti dX7_way_99 rfl (by first | rfl | exact bI_nar _) ⟨Nat.le_refl _, Nat.le_refl _⟩ (fun _ => rfl) (⟨rfl, hR _⟩)
    | some c =>
      rw [e]
      obtain ⟨q1, q2, q3, q4⟩ := id hh
      have pl := prc_le hN.2.2.2.2.2.2 n c
      refine r_iload_n (i := 3) 82 dX7_way_81 rfl rfl rfl ?_
      refine r_callSi [] 85 dX7_way_82 rfl ykX7_isWayYear lk_X7_231 (e_isWayYear what) rfl rfl rfl ⟨Nat.le_refl _, Nat.le_refl _⟩ ?_
      refine r_if_eq 100 88 dX7_way_85 rfl rfl (fun h85 => ?_) (fun h85 => ?_)
      · have g := bI_eq0 h85
        refine r_aload_n (i := 0) 101 dX7_way_100 rfl rfl rfl ?_
        refine r_getf 104 dX7_way_101 rfl fl_X7_44 rfl rfl ?_
        refine r_getf 107 dX7_way_104 rfl fl_X7_237 rfl rfl ?_
        rw [q1]
        refine r_if_ne 113 110 dX7_way_107 rfl rfl (fun h107 => ?_) (fun h107 => absurd h107 (by decide))
        refine r_iload_n (i := 3) 114 dX7_way_113 rfl rfl rfl ?_
        refine r_if_ne 127 117 dX7_way_114 rfl rfl (fun h114 => ?_) (fun h114 => ?_)
        · have z1 : what = 1 := by rw [show iwy what = false from g, Bool.or_false] at g3; exact (of_decide_eq_true g3).resolve_left h114
          subst z1
          refine r_aload_n (i := 0) 128 dX7_way_127 rfl rfl rfl ?_
          refine r_getf 131 dX7_way_128 rfl fl_X7_44 rfl rfl ?_
          refine r_getf 134 dX7_way_131 rfl fl_X7_251 rfl rfl ?_
          skip
          exact r_reti dX7_way_134 rfl (by first | rfl | exact bI_nar _) ⟨Nat.le_refl _, Nat.le_refl _⟩ (fun _ => rfl) (⟨by first | rfl | (rw [q3]; rfl), hR _⟩)
        · subst h114
          refine r_aload_n (i := 0) 118 dX7_way_117 rfl rfl rfl ?_
          refine r_getf 121 dX7_way_118 rfl fl_X7_44 rfl rfl ?_
          refine r_getf 124 dX7_way_121 rfl fl_X7_248 rfl rfl ?_
          rw [q2]
          refine r_goto 134 dX7_way_124 rfl ?_
          skip
          exact r_reti dX7_way_134 rfl (by first | rfl | exact bI_nar _) ⟨Nat.le_refl _, Nat.le_refl _⟩ (fun _ => rfl) (⟨by first | rfl | (rw [q3]; rfl), hR _⟩)
      · have g := bI_ne0 h85
        refine r_aload_n (i := 0) 89 dX7_way_88 rfl rfl rfl ?_
        refine r_getf 92 dX7_way_89 rfl fl_X7_44 rfl rfl ?_
        refine r_iload_n (i := 3) 93 dX7_way_92 rfl rfl rfl ?_
        refine r_bipush (v := 10) 95 dX7_way_93 rfl rfl ?_
        refine r_isub 96 dX7_way_95 rfl ?_
        refine r_callVi [35, 36, 37] 99 dX7_way_96 rfl ykX2_guestAhead lk_X7_245 (e_guestAhead (A := tA S) (b := some c) hh hn h4 _) rfl rfl (sb_sr _ _ _ _ _ _ _ _ _ _ _ _ _ _) rfl rfl rfl rfl ⟨Nat.le_refl _, Nat.le_refl _⟩ ?_
        have z0 : ¬ what = 0 := fun z => by subst z; exact absurd g (by decide)
        have z1 : ¬ what = 1 := fun z => by subst z; exact absurd g (by decide)
        exact r_reti dX7_way_99 rfl (by first | rfl | exact bI_nar _) ⟨Nat.le_refl _, Nat.le_refl _⟩ (fun _ => rfl) (⟨by show _ = some (Value.int (if what = 0 then _ else if what = 1 then _ else _)); rw [if_neg z0, if_neg z1], hR _⟩)
  cases g1 : inb (nI (sN (tA S))) f with
  | false =>
    refine r_aload_n (i := 0) 1 dX7_way_0 rfl rfl rfl ?_
    refine r_getf 4 dX7_way_1 rfl fl_X7_10 rfl rfl ?_
    refine r_iload_n (i := 1) 5 dX7_way_4 rfl rfl rfl ?_
    refine r_callVi [1, 2, 3, 4, 5, 6, 7, 8] 8 dX7_way_5 rfl ykX0_hasThing lk_X7_124 (e_hasThing f) rfl rfl (sb_now _ _ _ _ _ _ _ _ _ _ _ _ _ _) rfl rfl rfl rfl ⟨Nat.le_refl _, Nat.le_refl _⟩ ?_
    rw [hN.th, g1]
    refine r_if_eq 32 11 dX7_way_8 rfl rfl (fun h8 => ?_) (fun h8 => absurd rfl h8)
    refine r_iconst (v := (-1)) 33 dX7_way_32 rfl rfl ?_
    exact r_reti dX7_way_33 rfl (by first | rfl | exact bI_nar _) ⟨Nat.le_refl _, Nat.le_refl _⟩ (fun _ => rfl) (⟨rfl, hC0⟩)
  | true =>
    refine r_aload_n (i := 0) 1 dX7_way_0 rfl rfl rfl ?_
    refine r_getf 4 dX7_way_1 rfl fl_X7_10 rfl rfl ?_
    refine r_iload_n (i := 1) 5 dX7_way_4 rfl rfl rfl ?_
    refine r_callVi [1, 2, 3, 4, 5, 6, 7, 8] 8 dX7_way_5 rfl ykX0_hasThing lk_X7_124 (e_hasThing f) rfl rfl (sb_now _ _ _ _ _ _ _ _ _ _ _ _ _ _) rfl rfl rfl rfl ⟨Nat.le_refl _, Nat.le_refl _⟩ ?_
    rw [hN.th, g1]
    refine r_if_eq 32 11 dX7_way_8 rfl rfl (fun h8 => absurd h8 (by decide)) (fun h8 => ?_)
    refine r_iload_n (i := 2) 12 dX7_way_11 rfl rfl rfl ?_
    refine r_callSi [] 15 dX7_way_12 rfl ykX7_isBit lk_X7_148 (e_isBit v) rfl rfl rfl ⟨Nat.le_refl _, Nat.le_refl _⟩ ?_
    refine r_if_eq 32 18 dX7_way_15 rfl rfl (fun h15 => ?_) (fun h15 => ?_)
    · rw [show isb v = false from bI_eq0 h15]
      refine r_iconst (v := (-1)) 33 dX7_way_32 rfl rfl ?_
      exact r_reti dX7_way_33 rfl (by first | rfl | exact bI_nar _) ⟨Nat.le_refl _, Nat.le_refl _⟩ (fun _ => rfl) (⟨rfl, hC0⟩)
    · have g2 : isb v = true := bI_ne0 h15
      rw [g2]
      refine r_iload_n (i := 3) 19 dX7_way_18 rfl rfl rfl ?_
      refine r_callSi [] 22 dX7_way_19 rfl ykX7_isBit lk_X7_148 (e_isBit what) rfl rfl rfl ⟨Nat.le_refl _, Nat.le_refl _⟩ ?_
      refine r_if_ne 34 25 dX7_way_22 rfl rfl (fun h22 => ?_) (fun h22 => ?_)
      · have g3 : isb what = true := bI_ne0 h22
        rw [g3]
        have g4 : (isb what || iwy what) = true := by rw [g3]; rfl
        exact go g1 g2 g4
      · rw [show isb what = false from bI_eq0 h22]
        refine r_iload_n (i := 3) 26 dX7_way_25 rfl rfl rfl ?_
        refine r_callSi [] 29 dX7_way_26 rfl ykX7_isWayYear lk_X7_231 (e_isWayYear what) rfl rfl rfl ⟨Nat.le_refl _, Nat.le_refl _⟩ ?_
        refine r_if_ne 34 32 dX7_way_29 rfl rfl (fun h29 => ?_) (fun h29 => ?_)
        · have g3 : iwy what = true := bI_ne0 h29
          rw [g3]
          have g4 : (isb what || iwy what) = true := by rw [g3, Bool.or_true]
          exact go g1 g2 g4
        · rw [show iwy what = false from bI_eq0 h29]
          refine r_iconst (v := (-1)) 33 dX7_way_32 rfl rfl ?_
          exact r_reti dX7_way_33 rfl (by first | rfl | exact bI_nar _) ⟨Nat.le_refl _, Nat.le_refl _⟩ (fun _ => rfl) (⟨rfl, hC0⟩)
theorem p_peace (hC : CX S w) (n what : Int32) : mm_e (d + 6) yX7_peace mX7_peace [.ref 0, .int n, .int what] w (QX (s_peace S n what) S) := by
  have hC0 := hC
  obtain ⟨hT, N, Z, kp, R, Si, Sr, Ta, I, J, H0, H1, H2, H3, tn, rfl, hN, hx, hy, ⟨ht, hb⟩, hf, hs, ⟨hk0, hk1⟩, hI, hJ, ⟨s0, s1, s2, s3⟩, hn⟩ := hC
  have l0 := lt31 hN hT.2.1
  have h6 := hN.n6
  have h4 := hN.g4
  have h5 := hN.b4
  have hR : ∀ Sr, CX S (wX N Z kp R Si Sr Ta I J H0 H1 H2 H3 tn) := fun Sr => ⟨hT, N, Z, kp, R, Si, Sr, Ta, I, J, H0, H1, H2, H3, tn, rfl, hN, hx, hy, ⟨ht, hb⟩, hf, hs, ⟨hk0, hk1⟩, hI, hJ, ⟨s0, s1, s2, s3⟩, hn⟩
  refine e_of [some (.ref 0), some (.int n), some (.int what)] rfl (by decide) rfl rfl rfl ?_
  rw [s_peace]
  have go : inb (nI 5) n = true → (decide (what = 0) || iwy what) = true → mm_r (d + 6) mX7_peace (QX (match bst (tA S) (tX S) n.toNatClampNeg none ((sG (tA S) + 1) ^ n.toNatClampNeg) with | none => -4 | some c => if what = 0 then nI (prc (tA S) n.toNatClampNeg c) else who (sG (tA S)) n.toNatClampNeg (some c) (what - 10)) S) 22 [some (.ref 0), some (.int n), some (.int what)] [] (wX N Z kp R Si Sr Ta I J H0 H1 H2 H3 tn) := by
    intro g1 g3
    obtain ⟨j, hj, rfl⟩ := inb_nI (by omega) g1
    rw [nI_clamp (n := j) (by omega)]
    refine r_aload_n (i := 0) 23 dX7_peace_22 rfl rfl rfl ?_
    refine r_getf 26 dX7_peace_23 rfl fl_X7_44 rfl rfl ?_
    refine r_iconst (v := (-1)) 27 dX7_peace_26 rfl rfl ?_
    refine r_iconst (v := 0) 28 dX7_peace_27 rfl rfl ?_
    refine r_callVu [35, 36, 37] 31 dX7_peace_28 rfl ykX2_aimAt lk_X7_234 (e_aimAt (-1) 0) rfl rfl (sb_sr _ _ _ _ _ _ _ _ _ _ _ _ _ _) rfl rfl rfl rfl ⟨Nat.le_refl _, Nat.le_refl _⟩ ?_
    rw [bk_sr]
    refine r_aload_n (i := 0) 32 dX7_peace_31 rfl rfl rfl ?_
    refine r_getf 35 dX7_peace_32 rfl fl_X7_44 rfl rfl ?_
    refine r_aload_n (i := 0) 36 dX7_peace_35 rfl rfl rfl ?_
    refine r_getf 39 dX7_peace_36 rfl fl_X7_10 rfl rfl ?_
    refine r_iload_n (i := 1) 40 dX7_peace_39 rfl rfl rfl ?_
    refine r_callVq [35, 36, 37, 1, 2, 3, 4, 5, 6, 7, 8] 43 dX7_peace_40 rfl ykX2_tryRows lk_X7_241 (e_try (G := none) hN hx hT.2.1 (by omega) (by show (-1 : Int32) = -1; rfl) rfl) rfl rfl (sb_srf _ _ _ _ _ _ _ _ _ _ _ _ _ _) rfl rfl rfl rfl ⟨Nat.le_refl _, Nat.le_refl _⟩ (fun v u hq => ?_)
    obtain ⟨rfl, Sr2, rfl, ha2, hh2⟩ := hq
    rw [bk_srf]
    cases hb : bst (tA S) (tX S) j none ((sG (tA S) + 1) ^ j) with
    | none =>
      rw [hb] at hh2
      have h0 : Sr2.2.2.2.2.1 = 0 := hh2
      refine r_iload_n (i := 2) 44 dX7_peace_43 rfl rfl rfl ?_
      refine r_callSi [] 47 dX7_peace_44 rfl ykX7_isWayYear lk_X7_231 (e_isWayYear what) rfl rfl rfl ⟨Nat.le_refl _, Nat.le_refl _⟩ ?_
      refine r_if_eq 62 50 dX7_peace_47 rfl rfl (fun h47 => ?_) (fun h47 => ?_)
      · refine r_aload_n (i := 0) 63 dX7_peace_62 rfl rfl rfl ?_
        refine r_getf 66 dX7_peace_63 rfl fl_X7_44 rfl rfl ?_
        refine r_getf 69 dX7_peace_66 rfl fl_X7_237 rfl rfl ?_
        rw [h0]
        refine r_if_eq 82 72 dX7_peace_69 rfl rfl (fun h69 => ?_) (fun h69 => absurd rfl h69)
        refine r_bipush (v := (-4)) 84 dX7_peace_82 rfl rfl ?_
        exact r_reti dX7_peace_84 rfl (by first | rfl | exact bI_nar _) ⟨Nat.le_refl _, Nat.le_refl _⟩ (fun _ => rfl) (⟨rfl, hR _⟩)
      · refine r_aload_n (i := 0) 51 dX7_peace_50 rfl rfl rfl ?_
        refine r_getf 54 dX7_peace_51 rfl fl_X7_44 rfl rfl ?_
        refine r_iload_n (i := 2) 55 dX7_peace_54 rfl rfl rfl ?_
        refine r_bipush (v := 10) 57 dX7_peace_55 rfl rfl ?_
        refine r_isub 58 dX7_peace_57 rfl ?_
        refine r_callVi [35, 36, 37] 61 dX7_peace_58 rfl ykX2_guestAhead lk_X7_245 (e_guestAhead (A := tA S) (b := none) hh2 (n := j) (by omega) h4 _) rfl rfl (sb_sr _ _ _ _ _ _ _ _ _ _ _ _ _ _) rfl rfl rfl rfl ⟨Nat.le_refl _, Nat.le_refl _⟩ ?_
        exact r_reti dX7_peace_61 rfl (by first | rfl | exact bI_nar _) ⟨Nat.le_refl _, Nat.le_refl _⟩ (fun _ => rfl) (⟨rfl, hR _⟩)
    | some c =>
      rw [hb] at hh2
      obtain ⟨q1, q2, q3, q4⟩ := id hh2
      refine r_iload_n (i := 2) 44 dX7_peace_43 rfl rfl rfl ?_
      refine r_callSi [] 47 dX7_peace_44 rfl ykX7_isWayYear lk_X7_231 (e_isWayYear what) rfl rfl rfl ⟨Nat.le_refl _, Nat.le_refl _⟩ ?_
      refine r_if_eq 62 50 dX7_peace_47 rfl rfl (fun h47 => ?_) (fun h47 => ?_)
      · have g := bI_eq0 h47
        have z1 : what = 0 := by rw [show iwy what = false from g, Bool.or_false] at g3; exact of_decide_eq_true g3
        subst z1
        refine r_aload_n (i := 0) 63 dX7_peace_62 rfl rfl rfl ?_
        refine r_getf 66 dX7_peace_63 rfl fl_X7_44 rfl rfl ?_
        refine r_getf 69 dX7_peace_66 rfl fl_X7_237 rfl rfl ?_
        rw [q1]
        refine r_if_eq 82 72 dX7_peace_69 rfl rfl (fun h69 => absurd h69 (by decide)) (fun h69 => ?_)
        refine r_aload_n (i := 0) 73 dX7_peace_72 rfl rfl rfl ?_
        refine r_getf 76 dX7_peace_73 rfl fl_X7_44 rfl rfl ?_
        refine r_getf 79 dX7_peace_76 rfl fl_X7_251 rfl rfl ?_
        rw [q3]
        refine r_goto 84 dX7_peace_79 rfl ?_
        exact r_reti dX7_peace_84 rfl (by first | rfl | exact bI_nar _) ⟨Nat.le_refl _, Nat.le_refl _⟩ (fun _ => rfl) (⟨rfl, hR _⟩)
      · have g := bI_ne0 h47
        have z0 : ¬ what = 0 := fun z => by subst z; exact absurd g (by decide)
        refine r_aload_n (i := 0) 51 dX7_peace_50 rfl rfl rfl ?_
        refine r_getf 54 dX7_peace_51 rfl fl_X7_44 rfl rfl ?_
        refine r_iload_n (i := 2) 55 dX7_peace_54 rfl rfl rfl ?_
        refine r_bipush (v := 10) 57 dX7_peace_55 rfl rfl ?_
        refine r_isub 58 dX7_peace_57 rfl ?_
        refine r_callVi [35, 36, 37] 61 dX7_peace_58 rfl ykX2_guestAhead lk_X7_245 (e_guestAhead (A := tA S) (b := some c) hh2 (n := j) (by omega) h4 _) rfl rfl (sb_sr _ _ _ _ _ _ _ _ _ _ _ _ _ _) rfl rfl rfl rfl ⟨Nat.le_refl _, Nat.le_refl _⟩ ?_
        exact r_reti dX7_peace_61 rfl (by first | rfl | exact bI_nar _) ⟨Nat.le_refl _, Nat.le_refl _⟩ (fun _ => rfl) (⟨by show _ = some (Value.int (if what = 0 then _ else _)); rw [if_neg z0], hR _⟩)
  refine r_iload_n (i := 1) 1 dX7_peace_0 rfl rfl rfl ?_
  refine r_if_lt 20 4 dX7_peace_1 rfl rfl (fun h1 => ?_) (fun h1 => ?_)
  · have gv : (inb 5 n && (decide (what = 0) || iwy what)) = false := by rw [inb_f1 h1]; rfl
    refine r_iconst (v := (-1)) 21 dX7_peace_20 rfl rfl ?_
    exact r_reti dX7_peace_21 rfl (by first | rfl | exact bI_nar _) ⟨Nat.le_refl _, Nat.le_refl _⟩ (fun _ => rfl) (⟨by rw [gv]; rfl, hC0⟩)
  · refine r_iload_n (i := 1) 5 dX7_peace_4 rfl rfl rfl ?_
    refine r_iconst (v := 4) 6 dX7_peace_5 rfl rfl ?_
    refine r_icmp_gt 20 9 dX7_peace_6 rfl rfl (fun h6 => ?_) (fun h6 => ?_)
    · have gv : (inb 5 n && (decide (what = 0) || iwy what)) = false := by rw [inb_f2 (n := 5) (gtk (k := 4) (by decide) (Int32.not_le.mpr h6))]; rfl
      refine r_iconst (v := (-1)) 21 dX7_peace_20 rfl rfl ?_
      exact r_reti dX7_peace_21 rfl (by first | rfl | exact bI_nar _) ⟨Nat.le_refl _, Nat.le_refl _⟩ (fun _ => rfl) (⟨by rw [gv]; rfl, hC0⟩)
    · have gv1 : inb (nI 5) n = true := inb_t h1 (ngtk (k := 4) (by decide) (Int32.not_lt.mp h6))
      refine r_iload_n (i := 2) 10 dX7_peace_9 rfl rfl rfl ?_
      refine r_if_eq 22 13 dX7_peace_10 rfl rfl (fun h10 => ?_) (fun h10 => ?_)
      · rw [show inb 5 n = true from gv1, decide_eq_true h10]
        have g4 : (decide (what = 0) || iwy what) = true := by rw [decide_eq_true h10]; rfl
        exact go gv1 g4
      · refine r_iload_n (i := 2) 14 dX7_peace_13 rfl rfl rfl ?_
        refine r_callSi [] 17 dX7_peace_14 rfl ykX7_isWayYear lk_X7_231 (e_isWayYear what) rfl rfl rfl ⟨Nat.le_refl _, Nat.le_refl _⟩ ?_
        refine r_if_ne 22 20 dX7_peace_17 rfl rfl (fun h17 => ?_) (fun h17 => ?_)
        · rw [show inb 5 n = true from gv1, decide_eq_false h10, show iwy what = true from bI_ne0 h17]
          have g4 : (decide (what = 0) || iwy what) = true := by rw [show iwy what = true from bI_ne0 h17, Bool.or_true]
          exact go gv1 g4
        · have gv : (inb 5 n && (decide (what = 0) || iwy what)) = false := by rw [decide_eq_false h10, show iwy what = false from bI_eq0 h17]; simp
          refine r_iconst (v := (-1)) 21 dX7_peace_20 rfl rfl ?_
          exact r_reti dX7_peace_21 rfl (by first | rfl | exact bI_nar _) ⟨Nat.le_refl _, Nat.le_refl _⟩ (fun _ => rfl) (⟨by rw [gv]; rfl, hC0⟩)
end XF
