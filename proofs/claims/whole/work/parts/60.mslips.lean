-- SLIPS OF THE REFERENCE
def odd (v s i : Nat) : Nat := v ^ pcn s i * (10 - v) ^ (i - pcn s i)
theorem odd_1 {v s i : Nat} (h : tb s i = 1) : odd v s i * v = odd v s (i + 1) := by
  unfold odd
  rw [pcn, h, show i + 1 - (pcn s i + 1) = i - pcn s i by omega, Nat.pow_succ, Nat.mul_assoc, Nat.mul_comm _ v, ← Nat.mul_assoc]
theorem odd_0 {v s i : Nat} (h : ¬ tb s i = 1) : odd v s i * (10 - v) = odd v s (i + 1) := by
  have h0 : tb s i = 0 := by have := tb_le s i; omega
  have := pcn_le s i
  unfold odd
  rw [pcn, h0, Nat.add_zero, show i + 1 - pcn s i = (i - pcn s i) + 1 by omega, Nat.pow_succ, Nat.mul_assoc]
section MJ
variable {d : Nat} {S : sT} {w : mm_W} {W : MT} {A : sA}
theorem l2_lowest {x y : Nat} {what : Int32} (hx : x < 2 ^ 60) (hy : y < 2 ^ 60) (hy0 : 0 < y) : ∀ (n b a : Nat) (o9 : Option Value), b ≤ n → a < 2 ^ 60 → b < 2 ^ 60 → Nat.gcd a b = Nat.gcd x y → mm_r (d + 1) mX8_lowest (mm_q (some (.long (lN ((if what = 0 then x else y) / Nat.gcd x y)))) []) 6 [some (.long (lN x)), none, some (.long (lN y)), none, some (.int what), some (.long (lN a)), none, some (.long (lN b)), none, o9, none] [] [] := by
  have g0 : 0 < Nat.gcd x y := Nat.gcd_pos_of_pos_right _ hy0
  have g1 : Nat.gcd x y ≤ y := Nat.le_of_dvd hy0 (Nat.gcd_dvd_right _ _)
  have gne : ¬ lN (Nat.gcd x y) = 0 := fun z => by have := (fb_lN_inj (b := 0) (by omega) (by decide)).mp z; omega
  have fin : ∀ (o7 o9 : Option Value), mm_r (d + 1) mX8_lowest (mm_q (some (.long (lN ((if what = 0 then x else y) / Nat.gcd x y)))) []) 31 [some (.long (lN x)), none, some (.long (lN y)), none, some (.int what), some (.long (lN (Nat.gcd x y))), none, o7, none, o9, none] [] [] := by
    intro o7 o9
    refine r_iload (i := 4) 33 dX8_lowest_31 rfl rfl ?_
    refine r_if_ne 40 36 dX8_lowest_33 rfl rfl (fun h33 => ?_) (fun h33 => ?_)
    · refine r_lload_n (i := 2) 41 dX8_lowest_40 rfl rfl rfl ?_
      refine r_lload (i := 5) 43 dX8_lowest_41 rfl rfl ?_
      refine r_ldiv 44 dX8_lowest_43 rfl (gne) ?_
      rw [ldivN (by omega) g0 (by omega)]
      exact r_retl dX8_lowest_44 rfl ⟨Nat.le_refl _, Nat.le_refl _⟩ (fun _ => rfl) (⟨by first | (rw [if_pos h33]; done) | (rw [if_neg h33]; done), rfl⟩)
    · refine r_lload_n (i := 0) 37 dX8_lowest_36 rfl rfl rfl ?_
      refine r_goto 41 dX8_lowest_37 rfl ?_
      refine r_lload (i := 5) 43 dX8_lowest_41 rfl rfl ?_
      refine r_ldiv 44 dX8_lowest_43 rfl (gne) ?_
      rw [ldivN (by omega) g0 (by omega)]
      exact r_retl dX8_lowest_44 rfl ⟨Nat.le_refl _, Nat.le_refl _⟩ (fun _ => rfl) (⟨by first | (rw [if_pos h33]; done) | (rw [if_neg h33]; done), rfl⟩)
  intro n
  induction n with
  | zero =>
    intro b a o9 hb ha hb2 hg
    have : b = 0 := by omega
    subst this
    rw [Nat.gcd_zero_right] at hg
    subst hg
    refine r_lload (i := 7) 8 dX8_lowest_6 rfl rfl ?_
    refine r_lconst (v := 0) 9 dX8_lowest_8 rfl rfl ?_
    refine r_lcmp 10 dX8_lowest_9 rfl ?_
    refine r_if_eq 31 13 dX8_lowest_10 rfl rfl (fun h10 => ?_) (fun h10 => absurd ((lcmp0 (by omega)).mpr rfl) h10)
    exact fin _ o9
  | succ n ih =>
    intro b a o9 hb ha hb2 hg
    by_cases q : b = 0
    · subst q
      rw [Nat.gcd_zero_right] at hg
      subst hg
      refine r_lload (i := 7) 8 dX8_lowest_6 rfl rfl ?_
      refine r_lconst (v := 0) 9 dX8_lowest_8 rfl rfl ?_
      refine r_lcmp 10 dX8_lowest_9 rfl ?_
      refine r_if_eq 31 13 dX8_lowest_10 rfl rfl (fun h10 => ?_) (fun h10 => absurd ((lcmp0 (by omega)).mpr rfl) h10)
      exact fin _ o9
    · have bp : 0 < b := by omega
      have ml := Nat.mod_lt a bp
      refine r_lload (i := 7) 8 dX8_lowest_6 rfl rfl ?_
      refine r_lconst (v := 0) 9 dX8_lowest_8 rfl rfl ?_
      refine r_lcmp 10 dX8_lowest_9 rfl ?_
      refine r_if_eq 31 13 dX8_lowest_10 rfl rfl (fun h10 => absurd ((lcmp0 (by omega)).mp h10) q) (fun h10 => ?_)
      refine r_lload (i := 5) 15 dX8_lowest_13 rfl rfl ?_
      refine r_lload (i := 7) 17 dX8_lowest_15 rfl rfl ?_
      refine r_lrem 18 dX8_lowest_17 rfl (fun z => q ((pk_lEQ (by omega) (by decide)).mp (show lN b = lN 0 from z))) ?_
      rw [pk_lRem (by omega) bp (by omega)]
      refine r_lstore (i := 9) 20 dX8_lowest_18 rfl rfl ?_
      refine r_lload (i := 7) 22 dX8_lowest_20 rfl rfl ?_
      refine r_lstore (i := 5) 24 dX8_lowest_22 rfl rfl ?_
      refine r_lload (i := 9) 26 dX8_lowest_24 rfl rfl ?_
      refine r_lstore (i := 7) 28 dX8_lowest_26 rfl rfl ?_
      refine r_goto 6 dX8_lowest_28 rfl ?_
      exact ih (a % b) b _ (by omega) (by omega) (by omega) (by rw [← hg, Nat.gcd_comm a b, Nat.gcd_rec b a]; exact Nat.gcd_comm _ _)
theorem e2_lowest {x y : Nat} (what : Int32) (hx : x < 2 ^ 60) (hy : y < 2 ^ 60) (hy0 : 0 < y) : mm_e (d + 1) yX8_lowest mX8_lowest [.long (lN x), .long (lN y), .int what] [] (mm_q (some (.long (lN ((if what = 0 then x else y) / Nat.gcd x y)))) []) := by
  refine e_of [some (.long (lN x)), none, some (.long (lN y)), none, some (.int what), none, none, none, none, none, none] rfl (by decide) rfl rfl rfl ?_
  refine r_lload_n (i := 0) 1 dX8_lowest_0 rfl rfl rfl ?_
  refine r_lstore (i := 5) 3 dX8_lowest_1 rfl rfl ?_
  refine r_lload_n (i := 2) 4 dX8_lowest_3 rfl rfl rfl ?_
  refine r_lstore (i := 7) 6 dX8_lowest_4 rfl rfl ?_
  exact l2_lowest hx hy hy0 y y x none (Nat.le_refl _) hx hy rfl
theorem l2_slip0 (h : mok W.1 A) {v q : Int32} {what t4 : Int32} {u : Int64} {Qf : Option Value → mm_W → Prop} (out : mm_r (d + 5) mX8_bySlips Qf 45 [some (.ref 0), some (.int v), some (.int q), some (.int what), some (.int t4), some (.long u), none, some (.long (lN (10 ^ sN A))), none, some (.int (nI (sN A))), none, none, none] [] (wM W)) : ∀ (k i : Nat), sN A - i = k → i ≤ sN A → mm_r (d + 5) mX8_bySlips Qf 22 [some (.ref 0), some (.int v), some (.int q), some (.int what), some (.int t4), some (.long u), none, some (.long (lN (10 ^ i))), none, some (.int (nI i)), none, none, none] [] (wM W) := by
  have h6 := h.n6
  intro k
  induction k with
  | zero =>
    intro i hk hi
    have : i = sN A := by omega
    subst this
    refine r_iload (i := 9) 24 dX8_bySlips_22 rfl rfl ?_
    refine r_aload_n (i := 0) 25 dX8_bySlips_24 rfl rfl rfl ?_
    refine r_getf 28 dX8_bySlips_25 rfl fl_X8_125 rfl rfl ?_
    rw [h.tm]
    refine r_icmp_ge 45 31 dX8_bySlips_28 rfl rfl (fun h28 => ?_) (fun h28 => absurd (Int32.le_refl _) h28)
    exact out
  | succ k ih =>
    intro i hk hi
    refine r_iload (i := 9) 24 dX8_bySlips_22 rfl rfl ?_
    refine r_aload_n (i := 0) 25 dX8_bySlips_24 rfl rfl rfl ?_
    refine r_getf 28 dX8_bySlips_25 rfl fl_X8_125 rfl rfl ?_
    rw [h.tm]
    refine r_icmp_ge 45 31 dX8_bySlips_28 rfl rfl (fun h28 => absurd (ble_of (by omega) (by omega) h28) (by omega)) (fun h28 => ?_)
    refine r_lload (i := 7) 33 dX8_bySlips_31 rfl rfl ?_
    refine r_ldc2 36 dX8_bySlips_33 rfl k_X8_248 ?_
    refine r_lmul 37 dX8_bySlips_36 rfl ?_
    rw [show lN (10 ^ i) * 10 = lN (10 ^ (i + 1)) from (lmulN (10 ^ i) 10).trans (by rw [Nat.pow_succ])]
    refine r_lstore (i := 7) 39 dX8_bySlips_37 rfl rfl ?_
    refine r_iinc (i := 9) 42 dX8_bySlips_39 rfl rfl (by first | exact nI_1 _ | rfl) rfl ?_
    refine r_goto 22 dX8_bySlips_42 rfl ?_
    exact ih (i + 1) (by omega) (by omega)
theorem l2_slip1 (h : mok W.1 A) {v s : Nat} (hv : v ≤ 10) (hs : s < 2 ^ sN A) {q what t4 : Int32} {u p : Int64} {Qf : Option Value → mm_W → Prop} (out : mm_r (d + 5) mX8_bySlips Qf 104 [some (.ref 0), some (.int (nI v)), some (.int q), some (.int what), some (.int t4), some (.long u), none, some (.long p), none, some (.int (nI s)), some (.long (lN (odd v s (sN A)))), none, some (.int (nI (sN A)))] [] (wM W)) : ∀ (k i : Nat), sN A - i = k → i ≤ sN A → mm_r (d + 5) mX8_bySlips Qf 63 [some (.ref 0), some (.int (nI v)), some (.int q), some (.int what), some (.int t4), some (.long u), none, some (.long p), none, some (.int (nI s)), some (.long (lN (odd v s i))), none, some (.int (nI i))] [] (wM W) := by
  have h6 := h.n6
  have p6 := p2_le h6
  intro k
  induction k with
  | zero =>
    intro i hk hi
    have : i = sN A := by omega
    subst this
    refine r_iload (i := 12) 65 dX8_bySlips_63 rfl rfl ?_
    refine r_aload_n (i := 0) 66 dX8_bySlips_65 rfl rfl rfl ?_
    refine r_getf 69 dX8_bySlips_66 rfl fl_X8_125 rfl rfl ?_
    rw [h.tm]
    refine r_icmp_ge 104 72 dX8_bySlips_69 rfl rfl (fun h69 => ?_) (fun h69 => absurd (Int32.le_refl _) h69)
    exact out
  | succ k ih =>
    intro i hk hi
    refine r_iload (i := 12) 65 dX8_bySlips_63 rfl rfl ?_
    refine r_aload_n (i := 0) 66 dX8_bySlips_65 rfl rfl rfl ?_
    refine r_getf 69 dX8_bySlips_66 rfl fl_X8_125 rfl rfl ?_
    rw [h.tm]
    refine r_icmp_ge 104 72 dX8_bySlips_69 rfl rfl (fun h69 => absurd (ble_of (by omega) (by omega) h69) (by omega)) (fun h69 => ?_)
    refine r_lload (i := 10) 74 dX8_bySlips_72 rfl rfl ?_
    refine r_iload (i := 9) 76 dX8_bySlips_74 rfl rfl ?_
    refine r_iload (i := 12) 78 dX8_bySlips_76 rfl rfl ?_
    refine r_ishr 79 dX8_bySlips_78 rfl ?_
    refine r_iconst (v := 1) 80 dX8_bySlips_79 rfl rfl ?_
    refine r_iand 81 dX8_bySlips_80 rfl ?_
    rw [n_bit (by omega) (by omega)]
    refine r_iconst (v := 1) 82 dX8_bySlips_81 rfl rfl ?_
    refine r_icmp_ne 90 85 dX8_bySlips_82 rfl rfl (fun h82 => ?_) (fun h82 => ?_)
    · have g := mt (tbI _ _).mpr h82
      refine r_bipush (v := 10) 92 dX8_bySlips_90 rfl rfl ?_
      refine r_iload_n (i := 1) 93 dX8_bySlips_92 rfl rfl rfl ?_
      refine r_isub 94 dX8_bySlips_93 rfl ?_
      rw [show (10 : Int32) - nI v = nI (10 - v) from pk_sub (a := 10) hv]
      refine r_i2l 95 dX8_bySlips_94 rfl ?_
      first | rw [i2lN (by omega)] | skip
      refine r_lmul 96 dX8_bySlips_95 rfl ?_
      first | rw [lmulN, odd_1 g] | rw [lmulN, odd_0 g]
      refine r_lstore (i := 10) 98 dX8_bySlips_96 rfl rfl ?_
      refine r_iinc (i := 12) 101 dX8_bySlips_98 rfl rfl (by first | exact nI_1 _ | rfl) rfl ?_
      refine r_goto 63 dX8_bySlips_101 rfl ?_
      exact ih (i + 1) (by omega) (by omega)
    · have g := (tbI _ _).mp h82
      refine r_iload_n (i := 1) 86 dX8_bySlips_85 rfl rfl rfl ?_
      refine r_i2l 87 dX8_bySlips_86 rfl ?_
      rw [i2lN (by omega)]
      refine r_goto 95 dX8_bySlips_87 rfl ?_
      first | rw [i2lN (by omega)] | skip
      refine r_lmul 96 dX8_bySlips_95 rfl ?_
      first | rw [lmulN, odd_1 g] | rw [lmulN, odd_0 g]
      refine r_lstore (i := 10) 98 dX8_bySlips_96 rfl rfl ?_
      refine r_iinc (i := 12) 101 dX8_bySlips_98 rfl rfl (by first | exact nI_1 _ | rfl) rfl ?_
      refine r_goto 63 dX8_bySlips_101 rfl ?_
      exact ih (i + 1) (by omega) (by omega)
theorem l2_slip2 (h : mok W.1 A) {x v q : Nat} (hx : x < 2 ^ sN A) (hv : v ≤ 10) (hq : q ≤ 2) {what : Int32} {Q : mm_W → Prop} (hQ : Q (wM W)) : ∀ (k i : Nat) (o10 o12 : Option Value), 2 ^ sN A - i = k → i ≤ 2 ^ sN A → mm_r (d + 5) mX8_bySlips (fun r z => r = some (.long (lN ((if what = 0 then slp A x v q else 10 ^ sN A) / Nat.gcd (slp A x v q) (10 ^ sN A)))) ∧ Q z) 48 [some (.ref 0), some (.int (nI v)), some (.int (nI q)), some (.int what), some (.int (nI (nx A x))), some (.long (lN (fb_sm (slt A x v q) i))), none, some (.long (lN (10 ^ sN A))), none, some (.int (nI i)), o10, none, o12] [] (wM W) := by
  have h6 := h.n6
  have p6 := p2_le h6
  have b10 : 10 ^ sN A ≤ 10 ^ 6 := Nat.pow_le_pow_right (by decide) h6
  have b0 : 0 < 10 ^ sN A := Nat.pow_pos (by decide)
  have bs := slp_le h6 (x := x) (w := q) hv
  intro k
  induction k with
  | zero =>
    intro i o10 o12 hk hi
    have : i = 2 ^ sN A := by omega
    subst this
    refine r_iload (i := 9) 50 dX8_bySlips_48 rfl rfl ?_
    refine r_aload_n (i := 0) 51 dX8_bySlips_50 rfl rfl rfl ?_
    refine r_callMi 54 dX8_bySlips_51 rfl ykX8_states lk_X8_134 (e2_states h) rfl rfl rfl rfl rfl rfl ⟨Nat.le_refl _, Nat.le_refl _⟩ ?_
    refine r_icmp_ge 169 57 dX8_bySlips_54 rfl rfl (fun h54 => ?_) (fun h54 => absurd (Int32.le_refl _) h54)
    refine r_lload (i := 5) 171 dX8_bySlips_169 rfl rfl ?_
    refine r_lload (i := 7) 173 dX8_bySlips_171 rfl rfl ?_
    refine r_iload_n (i := 3) 174 dX8_bySlips_173 rfl rfl rfl ?_
    refine r_callSl [] 177 dX8_bySlips_174 rfl ykX8_lowest lk_X8_262 (e2_lowest (x := slp A x v q) (y := 10 ^ sN A) what (by omega) (by omega) b0) rfl rfl rfl ⟨Nat.le_refl _, Nat.le_refl _⟩ ?_
    exact r_retl dX8_bySlips_177 rfl ⟨Nat.le_refl _, Nat.le_refl _⟩ (fun _ => rfl) (⟨rfl, hQ⟩)
  | succ k ih =>
    intro i o10 o12 hk hi
    have hi2 : i < 2 ^ sN A := by omega
    have lx : nx A x ^^^ i < 2 ^ sN A := Nat.xor_lt_two_pow (nx_lt _ _) hi2
    have l31 := h.lt31 lx
    have w1 := wth_le A q (nx A x ^^^ i)
    have fin : mm_r (d + 5) mX8_bySlips (fun r z => r = some (.long (lN ((if what = 0 then slp A x v q else 10 ^ sN A) / Nat.gcd (slp A x v q) (10 ^ sN A)))) ∧ Q z) 158 [some (.ref 0), some (.int (nI v)), some (.int (nI q)), some (.int what), some (.int (nI (nx A x))), some (.long (lN (fb_sm (slt A x v q) i))), none, some (.long (lN (10 ^ sN A))), none, some (.int (nI i)), some (.long (lN (odd v i (sN A)))), none, some (.int (nI (nx A x ^^^ i)))] [.int (nI (wth A q (nx A x ^^^ i))), .long (lN (odd v i (sN A))), .long (lN (fb_sm (slt A x v q) i))] (wM W) := by
      have es : fb_sm (slt A x v q) i + odd v i (sN A) * wth A q (nx A x ^^^ i) = fb_sm (slt A x v q) (i + 1) := by
        rw [fb_sm_succ, slt, odd, pcn_6 h6 hi2]
      refine r_i2l 159 dX8_bySlips_158 rfl ?_
      rw [i2lN (by omega)]
      refine r_lmul 160 dX8_bySlips_159 rfl ?_
      rw [lmulN]
      refine r_ladd 161 dX8_bySlips_160 rfl ?_
      rw [laddN, es]
      refine r_lstore (i := 5) 163 dX8_bySlips_161 rfl rfl ?_
      refine r_iinc (i := 9) 166 dX8_bySlips_163 rfl rfl (by first | exact nI_1 _ | rfl) rfl ?_
      refine r_goto 48 dX8_bySlips_166 rfl ?_
      exact ih (i + 1) _ _ (by omega) (by omega)
    have e0 : bI (al A (nx A x ^^^ i)) = nI (wth A 0 (nx A x ^^^ i)) := by rw [bI_nI]; rfl
    have e1 : bI (ag A (nx A x ^^^ i)) = nI (wth A 1 (nx A x ^^^ i)) := by rw [bI_nI]; rfl
    refine r_iload (i := 9) 50 dX8_bySlips_48 rfl rfl ?_
    refine r_aload_n (i := 0) 51 dX8_bySlips_50 rfl rfl rfl ?_
    refine r_callMi 54 dX8_bySlips_51 rfl ykX8_states lk_X8_134 (e2_states h) rfl rfl rfl rfl rfl rfl ⟨Nat.le_refl _, Nat.le_refl _⟩ ?_
    refine r_icmp_ge 169 57 dX8_bySlips_54 rfl rfl (fun h54 => absurd (ble_of (by omega) (by omega) h54) (by omega)) (fun h54 => ?_)
    refine r_lconst (v := 1) 58 dX8_bySlips_57 rfl rfl ?_
    refine r_lstore (i := 10) 60 dX8_bySlips_58 rfl rfl ?_
    refine r_iconst (v := 0) 61 dX8_bySlips_60 rfl rfl ?_
    refine r_istore (i := 12) 63 dX8_bySlips_61 rfl rfl ?_
    refine l2_slip1 h hv hi2 ?_ _ 0 rfl (Nat.zero_le _)
    rcases (by omega : q = 0 ∨ q = 1 ∨ q = 2) with rfl | rfl | rfl
    · rw [← e0] at fin
      refine r_iload (i := 4) 106 dX8_bySlips_104 rfl rfl ?_
      refine r_iload (i := 9) 108 dX8_bySlips_106 rfl rfl ?_
      refine r_ixor 109 dX8_bySlips_108 rfl ?_
      rw [fb_xorI]
      refine r_istore (i := 12) 111 dX8_bySlips_109 rfl rfl ?_
      refine r_lload (i := 5) 113 dX8_bySlips_111 rfl rfl ?_
      refine r_lload (i := 10) 115 dX8_bySlips_113 rfl rfl ?_
      refine r_iload_n (i := 2) 116 dX8_bySlips_115 rfl rfl rfl ?_
      refine r_iconst (v := 2) 117 dX8_bySlips_116 rfl rfl ?_
      refine r_icmp_ne 128 120 dX8_bySlips_117 rfl rfl (fun h117 => ?_) (fun h117 => absurd h117 (by decide))
      refine r_iload_n (i := 2) 129 dX8_bySlips_128 rfl rfl rfl ?_
      refine r_if_ne 144 132 dX8_bySlips_129 rfl rfl (fun h129 => absurd rfl h129) (fun h129 => ?_)
      refine r_aload_n (i := 0) 133 dX8_bySlips_132 rfl rfl rfl ?_
      refine r_iload (i := 12) 135 dX8_bySlips_133 rfl rfl ?_
      refine r_callMi 138 dX8_bySlips_135 rfl ykX8_isAllowed lk_X8_153 (e2_isAllowed h l31) rfl rfl rfl rfl rfl rfl ⟨Nat.le_refl _, Nat.le_refl _⟩ ?_
      refine r_if_eq 157 141 dX8_bySlips_138 rfl rfl (fun h138 => ?_) (fun h138 => ?_)
      · have g := bI_eq0 h138
        rw [g] at fin
        refine r_iconst (v := 0) 158 dX8_bySlips_157 rfl rfl ?_
        exact fin
      · have g := bI_ne0 h138
        rw [g] at fin
        refine r_goto 153 dX8_bySlips_141 rfl ?_
        refine r_iconst (v := 1) 154 dX8_bySlips_153 rfl rfl ?_
        refine r_goto 158 dX8_bySlips_154 rfl ?_
        exact fin
    · rw [← e1] at fin
      refine r_iload (i := 4) 106 dX8_bySlips_104 rfl rfl ?_
      refine r_iload (i := 9) 108 dX8_bySlips_106 rfl rfl ?_
      refine r_ixor 109 dX8_bySlips_108 rfl ?_
      rw [fb_xorI]
      refine r_istore (i := 12) 111 dX8_bySlips_109 rfl rfl ?_
      refine r_lload (i := 5) 113 dX8_bySlips_111 rfl rfl ?_
      refine r_lload (i := 10) 115 dX8_bySlips_113 rfl rfl ?_
      refine r_iload_n (i := 2) 116 dX8_bySlips_115 rfl rfl rfl ?_
      refine r_iconst (v := 2) 117 dX8_bySlips_116 rfl rfl ?_
      refine r_icmp_ne 128 120 dX8_bySlips_117 rfl rfl (fun h117 => ?_) (fun h117 => absurd h117 (by decide))
      refine r_iload_n (i := 2) 129 dX8_bySlips_128 rfl rfl rfl ?_
      refine r_if_ne 144 132 dX8_bySlips_129 rfl rfl (fun h129 => ?_) (fun h129 => absurd h129 (by decide))
      refine r_aload_n (i := 0) 145 dX8_bySlips_144 rfl rfl rfl ?_
      refine r_iload (i := 12) 147 dX8_bySlips_145 rfl rfl ?_
      refine r_callMi 150 dX8_bySlips_147 rfl ykX8_agrees lk_X8_157 (e2_agrees h l31) rfl rfl rfl rfl rfl rfl ⟨Nat.le_refl _, Nat.le_refl _⟩ ?_
      refine r_if_eq 157 153 dX8_bySlips_150 rfl rfl (fun h150 => ?_) (fun h150 => ?_)
      · have g := bI_eq0 h150
        rw [g] at fin
        refine r_iconst (v := 0) 158 dX8_bySlips_157 rfl rfl ?_
        exact fin
      · have g := bI_ne0 h150
        rw [g] at fin
        refine r_iconst (v := 1) 154 dX8_bySlips_153 rfl rfl ?_
        refine r_goto 158 dX8_bySlips_154 rfl ?_
        exact fin
    · refine r_iload (i := 4) 106 dX8_bySlips_104 rfl rfl ?_
      refine r_iload (i := 9) 108 dX8_bySlips_106 rfl rfl ?_
      refine r_ixor 109 dX8_bySlips_108 rfl ?_
      rw [fb_xorI]
      refine r_istore (i := 12) 111 dX8_bySlips_109 rfl rfl ?_
      refine r_lload (i := 5) 113 dX8_bySlips_111 rfl rfl ?_
      refine r_lload (i := 10) 115 dX8_bySlips_113 rfl rfl ?_
      refine r_iload_n (i := 2) 116 dX8_bySlips_115 rfl rfl rfl ?_
      refine r_iconst (v := 2) 117 dX8_bySlips_116 rfl rfl ?_
      refine r_icmp_ne 128 120 dX8_bySlips_117 rfl rfl (fun h117 => absurd rfl h117) (fun h117 => ?_)
      refine r_iload (i := 12) 122 dX8_bySlips_120 rfl rfl ?_
      refine r_callSi [] 125 dX8_bySlips_122 rfl ykX8_bitsOf lk_X8_259 (e2_bitsOf l31) rfl rfl rfl ⟨Nat.le_refl _, Nat.le_refl _⟩ ?_
      refine r_goto 158 dX8_bySlips_125 rfl ?_
      exact fin
theorem e2_bySlips (h : mok W.1 A) {x v q : Nat} (hx : W.1.1 18 = nI x) (hxl : x < 2 ^ sN A) (hv : v ≤ 10) (hq : q ≤ 2) (what : Int32) : mm_e (d + 5) yX8_bySlips mX8_bySlips [.ref 0, .int (nI v), .int (nI q), .int what] (wM W) (mm_q (some (.long (lN ((if what = 0 then slp A x v q else 10 ^ sN A) / Nat.gcd (slp A x v q) (10 ^ sN A))))) (wM W)) := by
  have i18 : vp_in (18 : Int32) 148 := vp_in_nI (n := 18) (by decide) (by decide)
  have ex : W.1.1 (18 : Int32).toNatClampNeg = nI x := hx
  refine e_of [some (.ref 0), some (.int (nI v)), some (.int (nI q)), some (.int what), none, none, none, none, none, none, none, none, none] rfl (by decide) rfl rfl rfl ?_
  refine r_aload_n (i := 0) 1 dX8_bySlips_0 rfl rfl rfl ?_
  refine r_aload_n (i := 0) 2 dX8_bySlips_1 rfl rfl rfl ?_
  refine r_getf 5 dX8_bySlips_2 rfl fl_X8_7 rfl rfl ?_
  refine r_bipush (v := 18) 7 dX8_bySlips_5 rfl rfl ?_
  refine r_iald 8 dX8_bySlips_7 rfl rfl (by assumption) ?_
  rw [ex]
  refine r_callMi 11 dX8_bySlips_8 rfl ykX8_nextOf lk_X8_147 (e2_nextOf h (h.lt31 hxl)) rfl rfl rfl rfl rfl rfl ⟨Nat.le_refl _, Nat.le_refl _⟩ ?_
  refine r_istore (i := 4) 13 dX8_bySlips_11 rfl rfl ?_
  refine r_lconst (v := 0) 14 dX8_bySlips_13 rfl rfl ?_
  refine r_lstore (i := 5) 16 dX8_bySlips_14 rfl rfl ?_
  refine r_lconst (v := 1) 17 dX8_bySlips_16 rfl rfl ?_
  refine r_lstore (i := 7) 19 dX8_bySlips_17 rfl rfl ?_
  refine r_iconst (v := 0) 20 dX8_bySlips_19 rfl rfl ?_
  refine r_istore (i := 9) 22 dX8_bySlips_20 rfl rfl ?_
  refine l2_slip0 h ?_ _ 0 rfl (Nat.zero_le _)
  refine r_iconst (v := 0) 46 dX8_bySlips_45 rfl rfl ?_
  refine r_istore (i := 9) 48 dX8_bySlips_46 rfl rfl ?_
  exact l2_slip2 h hxl hv hq (Q := fun u => u = wM W) rfl _ 0 none none rfl (Nat.zero_le _)
theorem q_luck (hT : tOk S) (hC : CM S w) (v : Int32) (what : Int32) : mm_e (d + 6) yX8_luck mX8_luck [.ref 0, .int v, .int what] w (QML (s_slips 0 S v what) S) := by
  have hC0 := hC
  obtain ⟨W, rfl, hR⟩ := hC
  obtain ⟨hM, ⟨hx, hy⟩, ⟨ht, hb⟩, hf, ⟨v1, v2⟩, ⟨hk0, hk1⟩, hI, hH, hn⟩ := id hR
  have h6 := hM.n6
  have h4 := hM.g4
  have h5 := hM.b4
  have p6 := p2_le hM.n6
  have l0 := hM.lt31 hT.2.1
  have i18 : vp_in (18 : Int32) 148 := vp_in_nI (n := 18) (by decide) (by decide)
  have i35 : vp_in (35 : Int32) 148 := vp_in_nI (n := 35) (by decide) (by decide)
  have i36 : vp_in (36 : Int32) 148 := vp_in_nI (n := 36) (by decide) (by decide)
  have ex : W.1.1 (18 : Int32).toNatClampNeg = nI (tX S) := hx
  have ey : W.1.1 (36 : Int32).toNatClampNeg = nI (tY S) := hy
  have eb : W.1.1 (35 : Int32).toNatClampNeg = nI (sB (tA S)) := hM.bn
  refine e_of [some (.ref 0), some (.int v), some (.int what)] rfl (by decide) rfl rfl rfl ?_
  rw [s_slips, isb_inb]
  cases g : inb 11 v with
  | false =>
    refine r_iload_n (i := 1) 1 dX8_luck_0 rfl rfl rfl ?_
    refine r_i2l 2 dX8_luck_1 rfl ?_
    refine r_lconst (v := 0) 3 dX8_luck_2 rfl rfl ?_
    refine r_ldc2 6 dX8_luck_3 rfl k_X8_248 ?_
    refine r_callSi [] 9 dX8_luck_6 rfl ykX8_in lk_X8_46 (e_in0 v (n := 11) (by decide) (by decide)) rfl rfl rfl ⟨Nat.le_refl _, Nat.le_refl _⟩ ?_
    rw [show inb (nI 11) v = false from g]
    refine r_if_eq 32 12 dX8_luck_9 rfl rfl (fun h9 => ?_) (fun h9 => absurd rfl h9)
    refine r_ldc2 35 dX8_luck_32 rfl k_X8_270 ?_
    exact r_retl dX8_luck_35 rfl ⟨Nat.le_refl _, Nat.le_refl _⟩ (fun _ => rfl) (⟨rfl, hC0⟩)
  | true =>
    cases g2 : inb (nI 2) what with
    | false =>
      refine r_iload_n (i := 1) 1 dX8_luck_0 rfl rfl rfl ?_
      refine r_i2l 2 dX8_luck_1 rfl ?_
      refine r_lconst (v := 0) 3 dX8_luck_2 rfl rfl ?_
      refine r_ldc2 6 dX8_luck_3 rfl k_X8_248 ?_
      refine r_callSi [] 9 dX8_luck_6 rfl ykX8_in lk_X8_46 (e_in0 v (n := 11) (by decide) (by decide)) rfl rfl rfl ⟨Nat.le_refl _, Nat.le_refl _⟩ ?_
      rw [show inb (nI 11) v = true from g]
      refine r_if_eq 32 12 dX8_luck_9 rfl rfl (fun h9 => absurd h9 (by decide)) (fun h9 => ?_)
      refine r_iload_n (i := 2) 13 dX8_luck_12 rfl rfl rfl ?_
      refine r_i2l 14 dX8_luck_13 rfl ?_
      refine r_lconst (v := 0) 15 dX8_luck_14 rfl rfl ?_
      refine r_lconst (v := 1) 16 dX8_luck_15 rfl rfl ?_
      refine r_callSi [] 19 dX8_luck_16 rfl ykX8_in lk_X8_46 (e_in0 what (n := 2) (by decide) (by decide)) rfl rfl rfl ⟨Nat.le_refl _, Nat.le_refl _⟩ ?_
      rw [g2]
      refine r_if_eq 32 22 dX8_luck_19 rfl rfl (fun h19 => ?_) (fun h19 => absurd rfl h19)
      refine r_ldc2 35 dX8_luck_32 rfl k_X8_270 ?_
      exact r_retl dX8_luck_35 rfl ⟨Nat.le_refl _, Nat.le_refl _⟩ (fun _ => rfl) (⟨rfl, hC0⟩)
    | true =>
      obtain ⟨j, hj, rfl⟩ := inb_nI (n := 11) (by decide) g
      rw [nI_clamp (n := j) (by omega)]
      refine r_iload_n (i := 1) 1 dX8_luck_0 rfl rfl rfl ?_
      refine r_i2l 2 dX8_luck_1 rfl ?_
      refine r_lconst (v := 0) 3 dX8_luck_2 rfl rfl ?_
      refine r_ldc2 6 dX8_luck_3 rfl k_X8_248 ?_
      refine r_callSi [] 9 dX8_luck_6 rfl ykX8_in lk_X8_46 (e_in0 (nI j) (n := 11) (by decide) (by decide)) rfl rfl rfl ⟨Nat.le_refl _, Nat.le_refl _⟩ ?_
      rw [show inb (nI 11) (nI j) = true from g]
      refine r_if_eq 32 12 dX8_luck_9 rfl rfl (fun h9 => absurd h9 (by decide)) (fun h9 => ?_)
      refine r_iload_n (i := 2) 13 dX8_luck_12 rfl rfl rfl ?_
      refine r_i2l 14 dX8_luck_13 rfl ?_
      refine r_lconst (v := 0) 15 dX8_luck_14 rfl rfl ?_
      refine r_lconst (v := 1) 16 dX8_luck_15 rfl rfl ?_
      refine r_callSi [] 19 dX8_luck_16 rfl ykX8_in lk_X8_46 (e_in0 what (n := 2) (by decide) (by decide)) rfl rfl rfl ⟨Nat.le_refl _, Nat.le_refl _⟩ ?_
      rw [g2]
      refine r_if_eq 32 22 dX8_luck_19 rfl rfl (fun h19 => absurd h19 (by decide)) (fun h19 => ?_)
      refine r_aload_n (i := 0) 23 dX8_luck_22 rfl rfl rfl ?_
      refine r_iload_n (i := 1) 24 dX8_luck_23 rfl rfl rfl ?_
      refine r_iconst (v := 0) 25 dX8_luck_24 rfl rfl ?_
      refine r_iload_n (i := 2) 26 dX8_luck_25 rfl rfl rfl ?_
      refine r_callMl 29 dX8_luck_26 rfl ykX8_bySlips lk_X8_266 (e2_bySlips (q := 0) hM hx hT.2.1 (by omega) (by decide) what) rfl rfl rfl rfl rfl rfl ⟨Nat.le_refl _, Nat.le_refl _⟩ ?_
      refine r_goto 35 dX8_luck_29 rfl ?_
      exact r_retl dX8_luck_35 rfl ⟨Nat.le_refl _, Nat.le_refl _⟩ (fun _ => rfl) (⟨rfl, hC0⟩)
theorem q_calm (hT : tOk S) (hC : CM S w) (v : Int32) (what : Int32) : mm_e (d + 6) yX8_calm mX8_calm [.ref 0, .int v, .int what] w (QML (s_slips 1 S v what) S) := by
  have hC0 := hC
  obtain ⟨W, rfl, hR⟩ := hC
  obtain ⟨hM, ⟨hx, hy⟩, ⟨ht, hb⟩, hf, ⟨v1, v2⟩, ⟨hk0, hk1⟩, hI, hH, hn⟩ := id hR
  have h6 := hM.n6
  have h4 := hM.g4
  have h5 := hM.b4
  have p6 := p2_le hM.n6
  have l0 := hM.lt31 hT.2.1
  have i18 : vp_in (18 : Int32) 148 := vp_in_nI (n := 18) (by decide) (by decide)
  have i35 : vp_in (35 : Int32) 148 := vp_in_nI (n := 35) (by decide) (by decide)
  have i36 : vp_in (36 : Int32) 148 := vp_in_nI (n := 36) (by decide) (by decide)
  have ex : W.1.1 (18 : Int32).toNatClampNeg = nI (tX S) := hx
  have ey : W.1.1 (36 : Int32).toNatClampNeg = nI (tY S) := hy
  have eb : W.1.1 (35 : Int32).toNatClampNeg = nI (sB (tA S)) := hM.bn
  refine e_of [some (.ref 0), some (.int v), some (.int what)] rfl (by decide) rfl rfl rfl ?_
  rw [s_slips, isb_inb]
  cases g : inb 11 v with
  | false =>
    refine r_iload_n (i := 1) 1 dX8_calm_0 rfl rfl rfl ?_
    refine r_i2l 2 dX8_calm_1 rfl ?_
    refine r_lconst (v := 0) 3 dX8_calm_2 rfl rfl ?_
    refine r_ldc2 6 dX8_calm_3 rfl k_X8_248 ?_
    refine r_callSi [] 9 dX8_calm_6 rfl ykX8_in lk_X8_46 (e_in0 v (n := 11) (by decide) (by decide)) rfl rfl rfl ⟨Nat.le_refl _, Nat.le_refl _⟩ ?_
    rw [show inb (nI 11) v = false from g]
    refine r_if_eq 32 12 dX8_calm_9 rfl rfl (fun h9 => ?_) (fun h9 => absurd rfl h9)
    refine r_ldc2 35 dX8_calm_32 rfl k_X8_270 ?_
    exact r_retl dX8_calm_35 rfl ⟨Nat.le_refl _, Nat.le_refl _⟩ (fun _ => rfl) (⟨rfl, hC0⟩)
  | true =>
    cases g2 : inb (nI 2) what with
    | false =>
      refine r_iload_n (i := 1) 1 dX8_calm_0 rfl rfl rfl ?_
      refine r_i2l 2 dX8_calm_1 rfl ?_
      refine r_lconst (v := 0) 3 dX8_calm_2 rfl rfl ?_
      refine r_ldc2 6 dX8_calm_3 rfl k_X8_248 ?_
      refine r_callSi [] 9 dX8_calm_6 rfl ykX8_in lk_X8_46 (e_in0 v (n := 11) (by decide) (by decide)) rfl rfl rfl ⟨Nat.le_refl _, Nat.le_refl _⟩ ?_
      rw [show inb (nI 11) v = true from g]
      refine r_if_eq 32 12 dX8_calm_9 rfl rfl (fun h9 => absurd h9 (by decide)) (fun h9 => ?_)
      refine r_iload_n (i := 2) 13 dX8_calm_12 rfl rfl rfl ?_
      refine r_i2l 14 dX8_calm_13 rfl ?_
      refine r_lconst (v := 0) 15 dX8_calm_14 rfl rfl ?_
      refine r_lconst (v := 1) 16 dX8_calm_15 rfl rfl ?_
      refine r_callSi [] 19 dX8_calm_16 rfl ykX8_in lk_X8_46 (e_in0 what (n := 2) (by decide) (by decide)) rfl rfl rfl ⟨Nat.le_refl _, Nat.le_refl _⟩ ?_
      rw [g2]
      refine r_if_eq 32 22 dX8_calm_19 rfl rfl (fun h19 => ?_) (fun h19 => absurd rfl h19)
      refine r_ldc2 35 dX8_calm_32 rfl k_X8_270 ?_
      exact r_retl dX8_calm_35 rfl ⟨Nat.le_refl _, Nat.le_refl _⟩ (fun _ => rfl) (⟨rfl, hC0⟩)
    | true =>
      obtain ⟨j, hj, rfl⟩ := inb_nI (n := 11) (by decide) g
      rw [nI_clamp (n := j) (by omega)]
      refine r_iload_n (i := 1) 1 dX8_calm_0 rfl rfl rfl ?_
      refine r_i2l 2 dX8_calm_1 rfl ?_
      refine r_lconst (v := 0) 3 dX8_calm_2 rfl rfl ?_
      refine r_ldc2 6 dX8_calm_3 rfl k_X8_248 ?_
      refine r_callSi [] 9 dX8_calm_6 rfl ykX8_in lk_X8_46 (e_in0 (nI j) (n := 11) (by decide) (by decide)) rfl rfl rfl ⟨Nat.le_refl _, Nat.le_refl _⟩ ?_
      rw [show inb (nI 11) (nI j) = true from g]
      refine r_if_eq 32 12 dX8_calm_9 rfl rfl (fun h9 => absurd h9 (by decide)) (fun h9 => ?_)
      refine r_iload_n (i := 2) 13 dX8_calm_12 rfl rfl rfl ?_
      refine r_i2l 14 dX8_calm_13 rfl ?_
      refine r_lconst (v := 0) 15 dX8_calm_14 rfl rfl ?_
      refine r_lconst (v := 1) 16 dX8_calm_15 rfl rfl ?_
      refine r_callSi [] 19 dX8_calm_16 rfl ykX8_in lk_X8_46 (e_in0 what (n := 2) (by decide) (by decide)) rfl rfl rfl ⟨Nat.le_refl _, Nat.le_refl _⟩ ?_
      rw [g2]
      refine r_if_eq 32 22 dX8_calm_19 rfl rfl (fun h19 => absurd h19 (by decide)) (fun h19 => ?_)
      refine r_aload_n (i := 0) 23 dX8_calm_22 rfl rfl rfl ?_
      refine r_iload_n (i := 1) 24 dX8_calm_23 rfl rfl rfl ?_
      refine r_iconst (v := 1) 25 dX8_calm_24 rfl rfl ?_
      refine r_iload_n (i := 2) 26 dX8_calm_25 rfl rfl rfl ?_
      refine r_callMl 29 dX8_calm_26 rfl ykX8_bySlips lk_X8_266 (e2_bySlips (q := 1) hM hx hT.2.1 (by omega) (by decide) what) rfl rfl rfl rfl rfl rfl ⟨Nat.le_refl _, Nat.le_refl _⟩ ?_
      refine r_goto 35 dX8_calm_29 rfl ?_
      exact r_retl dX8_calm_35 rfl ⟨Nat.le_refl _, Nat.le_refl _⟩ (fun _ => rfl) (⟨rfl, hC0⟩)
theorem q_mean (hT : tOk S) (hC : CM S w) (v : Int32) (what : Int32) : mm_e (d + 6) yX8_mean mX8_mean [.ref 0, .int v, .int what] w (QML (s_slips 2 S v what) S) := by
  have hC0 := hC
  obtain ⟨W, rfl, hR⟩ := hC
  obtain ⟨hM, ⟨hx, hy⟩, ⟨ht, hb⟩, hf, ⟨v1, v2⟩, ⟨hk0, hk1⟩, hI, hH, hn⟩ := id hR
  have h6 := hM.n6
  have h4 := hM.g4
  have h5 := hM.b4
  have p6 := p2_le hM.n6
  have l0 := hM.lt31 hT.2.1
  have i18 : vp_in (18 : Int32) 148 := vp_in_nI (n := 18) (by decide) (by decide)
  have i35 : vp_in (35 : Int32) 148 := vp_in_nI (n := 35) (by decide) (by decide)
  have i36 : vp_in (36 : Int32) 148 := vp_in_nI (n := 36) (by decide) (by decide)
  have ex : W.1.1 (18 : Int32).toNatClampNeg = nI (tX S) := hx
  have ey : W.1.1 (36 : Int32).toNatClampNeg = nI (tY S) := hy
  have eb : W.1.1 (35 : Int32).toNatClampNeg = nI (sB (tA S)) := hM.bn
  refine e_of [some (.ref 0), some (.int v), some (.int what)] rfl (by decide) rfl rfl rfl ?_
  rw [s_slips, isb_inb]
  cases g : inb 11 v with
  | false =>
    refine r_iload_n (i := 1) 1 dX8_mean_0 rfl rfl rfl ?_
    refine r_i2l 2 dX8_mean_1 rfl ?_
    refine r_lconst (v := 0) 3 dX8_mean_2 rfl rfl ?_
    refine r_ldc2 6 dX8_mean_3 rfl k_X8_248 ?_
    refine r_callSi [] 9 dX8_mean_6 rfl ykX8_in lk_X8_46 (e_in0 v (n := 11) (by decide) (by decide)) rfl rfl rfl ⟨Nat.le_refl _, Nat.le_refl _⟩ ?_
    rw [show inb (nI 11) v = false from g]
    refine r_if_eq 32 12 dX8_mean_9 rfl rfl (fun h9 => ?_) (fun h9 => absurd rfl h9)
    refine r_ldc2 35 dX8_mean_32 rfl k_X8_270 ?_
    exact r_retl dX8_mean_35 rfl ⟨Nat.le_refl _, Nat.le_refl _⟩ (fun _ => rfl) (⟨rfl, hC0⟩)
  | true =>
    cases g2 : inb (nI 2) what with
    | false =>
      refine r_iload_n (i := 1) 1 dX8_mean_0 rfl rfl rfl ?_
      refine r_i2l 2 dX8_mean_1 rfl ?_
      refine r_lconst (v := 0) 3 dX8_mean_2 rfl rfl ?_
      refine r_ldc2 6 dX8_mean_3 rfl k_X8_248 ?_
      refine r_callSi [] 9 dX8_mean_6 rfl ykX8_in lk_X8_46 (e_in0 v (n := 11) (by decide) (by decide)) rfl rfl rfl ⟨Nat.le_refl _, Nat.le_refl _⟩ ?_
      rw [show inb (nI 11) v = true from g]
      refine r_if_eq 32 12 dX8_mean_9 rfl rfl (fun h9 => absurd h9 (by decide)) (fun h9 => ?_)
      refine r_iload_n (i := 2) 13 dX8_mean_12 rfl rfl rfl ?_
      refine r_i2l 14 dX8_mean_13 rfl ?_
      refine r_lconst (v := 0) 15 dX8_mean_14 rfl rfl ?_
      refine r_lconst (v := 1) 16 dX8_mean_15 rfl rfl ?_
      refine r_callSi [] 19 dX8_mean_16 rfl ykX8_in lk_X8_46 (e_in0 what (n := 2) (by decide) (by decide)) rfl rfl rfl ⟨Nat.le_refl _, Nat.le_refl _⟩ ?_
      rw [g2]
      refine r_if_eq 32 22 dX8_mean_19 rfl rfl (fun h19 => ?_) (fun h19 => absurd rfl h19)
      refine r_ldc2 35 dX8_mean_32 rfl k_X8_270 ?_
      exact r_retl dX8_mean_35 rfl ⟨Nat.le_refl _, Nat.le_refl _⟩ (fun _ => rfl) (⟨rfl, hC0⟩)
    | true =>
      obtain ⟨j, hj, rfl⟩ := inb_nI (n := 11) (by decide) g
      rw [nI_clamp (n := j) (by omega)]
      refine r_iload_n (i := 1) 1 dX8_mean_0 rfl rfl rfl ?_
      refine r_i2l 2 dX8_mean_1 rfl ?_
      refine r_lconst (v := 0) 3 dX8_mean_2 rfl rfl ?_
      refine r_ldc2 6 dX8_mean_3 rfl k_X8_248 ?_
      refine r_callSi [] 9 dX8_mean_6 rfl ykX8_in lk_X8_46 (e_in0 (nI j) (n := 11) (by decide) (by decide)) rfl rfl rfl ⟨Nat.le_refl _, Nat.le_refl _⟩ ?_
      rw [show inb (nI 11) (nI j) = true from g]
      refine r_if_eq 32 12 dX8_mean_9 rfl rfl (fun h9 => absurd h9 (by decide)) (fun h9 => ?_)
      refine r_iload_n (i := 2) 13 dX8_mean_12 rfl rfl rfl ?_
      refine r_i2l 14 dX8_mean_13 rfl ?_
      refine r_lconst (v := 0) 15 dX8_mean_14 rfl rfl ?_
      refine r_lconst (v := 1) 16 dX8_mean_15 rfl rfl ?_
      refine r_callSi [] 19 dX8_mean_16 rfl ykX8_in lk_X8_46 (e_in0 what (n := 2) (by decide) (by decide)) rfl rfl rfl ⟨Nat.le_refl _, Nat.le_refl _⟩ ?_
      rw [g2]
      refine r_if_eq 32 22 dX8_mean_19 rfl rfl (fun h19 => absurd h19 (by decide)) (fun h19 => ?_)
      refine r_aload_n (i := 0) 23 dX8_mean_22 rfl rfl rfl ?_
      refine r_iload_n (i := 1) 24 dX8_mean_23 rfl rfl rfl ?_
      refine r_iconst (v := 2) 25 dX8_mean_24 rfl rfl ?_
      refine r_iload_n (i := 2) 26 dX8_mean_25 rfl rfl rfl ?_
      refine r_callMl 29 dX8_mean_26 rfl ykX8_bySlips lk_X8_266 (e2_bySlips (q := 2) hM hx hT.2.1 (by omega) (by decide) what) rfl rfl rfl rfl rfl rfl ⟨Nat.le_refl _, Nat.le_refl _⟩ ?_
      refine r_goto 35 dX8_mean_29 rfl ?_
      exact r_retl dX8_mean_35 rfl ⟨Nat.le_refl _, Nat.le_refl _⟩ (fun _ => rfl) (⟨rfl, hC0⟩)
end MJ
