-- THE REFERENCE READS TOKENS
abbrev rB (r : mRe) : Int32 := r.2.2.2.2.1
abbrev rA (r : mRe) : Int32 := r.2.2.2.2.2.1
abbrev rP (r : mRe) : Int32 := r.2.2.2.2.2.2.1
abbrev rH (r : mRe) : Int32 := r.2.2.2.2.2.2.2.1
abbrev rK (r : mRe) : Int32 := r.2.2.2.2.2.2.2.2.1
abbrev rV (r : mRe) : Int32 := r.2.2.2.2.2.2.2.2.2
abbrev rS (r : mRe) (p h k v : Int32) : mRe := (r.1, r.2.1, r.2.2.1, r.2.2.2.1, r.2.2.2.2.1, r.2.2.2.2.2.1, p, h, k, v)
abbrev rF (r : mRe) (k a : Int32) : mRe := (r.1, r.2.1, r.2.2.1, r.2.2.2.1, k, a, r.2.2.2.2.2.2)
def mtk (k : Nat) : Nat := if k = 4 then 0 else k
def RS (b : Nat → Nat) (s : pS) (r : mRe) : Prop := rB r = nI (pF s) ∧ (¬ pF s = 0 → rA r = nI (pL s)) ∧ (pF s = 0 → rH r = nI (pT s) ∧ rP r = nI (pP s) ∧ rK r = nI (mtk (pK s)) ∧ rV r = nI (if pK s = 2 then tkV b s else 0))
def SP (r r' : mRe) : Prop := r'.1 = r.1 ∧ r'.2.1 = r.2.1 ∧ r'.2.2.1 = r.2.2.1 ∧ r'.2.2.2.1 = r.2.2.2.1
theorem SP.rf (r : mRe) : SP r r := ⟨rfl, rfl, rfl, rfl⟩
theorem SP.tr {r r' r'' : mRe} (h : SP r r') (h2 : SP r' r'') : SP r r'' := ⟨h2.1.trans h.1, h2.2.1.trans h.2.1, h2.2.2.1.trans h.2.2.1, h2.2.2.2.trans h.2.2.2⟩
theorem SP.F {r r' : mRe} (h : SP r r') (k a : Int32) : SP r (rF r' k a) := h
def tpM (W : MT) (b : Nat → Nat) (n : Nat) : Prop := W.2.2.1.2.1 = nI n ∧ n ≤ 160 ∧ ∀ i, i < n → W.2.2.1.1 i = nI (b i) ∧ b i < 128
def bA (b : Nat → Nat) (n p : Nat) : Int32 := if p < n then nI (b p) else -4
theorem RS_fail {b : Nat → Nat} {s : pS} {r : mRe} (h : RS b s r) (h0 : pF s = 0) {k : Nat} (hk : k ≠ 0) : RS b (fIf true k s) (rF r (nI k) (rH r)) := by
  have e : fIf true k s = (pP s, pK s, pT s, k, pT s) := by
    unfold fIf
    rw [h0]
    rfl
  rw [e]
  exact ⟨rfl, fun _ => (h.2.2 h0).1, fun z => absurd z hk⟩
theorem fIf_f {k : Nat} {s : pS} : fIf false k s = s := rfl
theorem fIf_nz {c : Bool} {k : Nat} {s : pS} (h : ¬ pF s = 0) : fIf c k s = s := by
  unfold fIf
  rw [decide_eq_false h, Bool.and_false]
  rfl
theorem tkT_nz {b : Nat → Nat} {n : Nat} {s : pS} (h : ¬ pF s = 0) : tkT b n s = s := by
  unfold tkT
  rw [if_neg h]
theorem tkT_K {b : Nat → Nat} {n : Nat} {s : pS} (h : pF (tkT b n s) = 0) : ¬ pK (tkT b n s) = 0 ∧ pK (tkT b n s) ≤ 4 := by
  obtain ⟨h1, h2, h3⟩ := tkT_ok h
  rw [h3]
  exact ⟨h2, tK_le _ _ _⟩
theorem bA_lt {b : Nat → Nat} {n p : Nat} (h : p < n) : bA b n p = nI (b p) := if_pos h
theorem bA_ge {b : Nat → Nat} {n p : Nat} (h : ¬ p < n) : bA b n p = -4 := if_neg h
theorem so_1 {b : Nat → Nat} {n p : Nat} : so b n p = 1 ↔ p < n ∧ 97 ≤ b p ∧ b p ≤ 122 := by
  unfold so
  split
  · omega
  · split
    · omega
    · split
      · omega
      · split <;> omega
theorem so_2 {b : Nat → Nat} {n p : Nat} : so b n p = 2 ↔ p < n ∧ 48 ≤ b p ∧ b p ≤ 57 := by
  unfold so
  split
  · omega
  · split
    · omega
    · split
      · omega
      · split <;> omega
theorem so_3 {b : Nat → Nat} {n p : Nat} : so b n p = 3 ↔ p < n ∧ b p = 59 := by
  unfold so
  split
  · omega
  · split
    · omega
    · split
      · omega
      · split <;> omega
theorem in_az {b : Nat → Nat} {n p : Nat} (hb : p < n → b p < 128) : decide (so b n p = 1) = true ↔ (97 : Int64).toInt ≤ (bA b n p).toInt64.toInt ∧ (bA b n p).toInt64.toInt ≤ (122 : Int64).toInt := by
  rw [decide_eq_true_eq, so_1, Int32.toInt_toInt64, show (97 : Int64).toInt = 97 from rfl, show (122 : Int64).toInt = 122 from rfl]
  by_cases h : p < n
  · rw [bA_lt h, nI_toInt (by have := hb h; omega)]; omega
  · rw [bA_ge h, show ((-4 : Int32)).toInt = -4 from rfl]; omega
theorem in_09 {b : Nat → Nat} {n p : Nat} (hb : p < n → b p < 128) : decide (so b n p = 2) = true ↔ (48 : Int64).toInt ≤ (bA b n p).toInt64.toInt ∧ (bA b n p).toInt64.toInt ≤ (57 : Int64).toInt := by
  rw [decide_eq_true_eq, so_2, Int32.toInt_toInt64, show (48 : Int64).toInt = 48 from rfl, show (57 : Int64).toInt = 57 from rfl]
  by_cases h : p < n
  · rw [bA_lt h, nI_toInt (by have := hb h; omega)]; omega
  · rw [bA_ge h, show ((-4 : Int32)).toInt = -4 from rfl]; omega
theorem bA_eq {b : Nat → Nat} {n p : Nat} (hb : p < n → b p < 128) {k : Nat} (hk : k < 128) : bA b n p = nI k ↔ p < n ∧ b p = k := by
  by_cases h : p < n
  · rw [bA_lt h, nI_eq (by have := hb h; omega) (by omega)]
    exact ⟨fun z => ⟨h, z⟩, fun z => z.2⟩
  · rw [bA_ge h]
    refine ⟨fun z => absurd (show nI k < 0 from by rw [← z]; decide) (nI_pos (by omega)), fun z => absurd z.1 h⟩
section MN
variable {d : Nat} {W : MT} {b : Nat → Nat} {n : Nat} {s : pS} {r : mRe}
theorem e2_byteAt (ht : tpM W b n) {p : Nat} (hp : p < 2 ^ 31) : mm_e (d + 1) yX8_byteAt mX8_byteAt [.ref 0, .int (nI p)] (wM W) (mm_q (some (.int (bA b n p))) (wM W)) := by
  obtain ⟨t1, t2, t3⟩ := ht
  refine e_of [some (.ref 0), some (.int (nI p))] rfl (by decide) rfl rfl rfl ?_
  by_cases q : p < n
  · have hin : vp_in (nI p) 160 := vp_in_nI (by omega) (by decide)
    refine r_iload_n (i := 1) 1 dX8_byteAt_0 rfl rfl rfl ?_
    refine r_aload_n (i := 0) 2 dX8_byteAt_1 rfl rfl rfl ?_
    refine r_getf 5 dX8_byteAt_2 rfl fl_X8_50 rfl rfl ?_
    rw [t1]
    refine r_icmp_ge 17 8 dX8_byteAt_5 rfl rfl (fun h5 => absurd (ble_of (by omega) (by omega) h5) (by omega)) (fun h5 => ?_)
    refine r_aload_n (i := 0) 9 dX8_byteAt_8 rfl rfl rfl ?_
    refine r_getf 12 dX8_byteAt_9 rfl fl_X8_16 rfl rfl ?_
    refine r_iload_n (i := 1) 13 dX8_byteAt_12 rfl rfl rfl ?_
    refine r_iald 14 dX8_byteAt_13 rfl rfl (by assumption) ?_
    refine r_goto 19 dX8_byteAt_14 rfl ?_
    exact r_reti dX8_byteAt_19 rfl (by first | rfl | exact bI_nar _) ⟨Nat.le_refl _, Nat.le_refl _⟩ (fun _ => rfl) (⟨by rw [nI_clamp (n := p) hp, (t3 p q).1, bA_lt q], rfl⟩)
  · refine r_iload_n (i := 1) 1 dX8_byteAt_0 rfl rfl rfl ?_
    refine r_aload_n (i := 0) 2 dX8_byteAt_1 rfl rfl rfl ?_
    refine r_getf 5 dX8_byteAt_2 rfl fl_X8_50 rfl rfl ?_
    rw [t1]
    refine r_icmp_ge 17 8 dX8_byteAt_5 rfl rfl (fun h5 => ?_) (fun h5 => absurd (nI_le (by omega) hp) h5)
    refine r_bipush (v := (-4)) 19 dX8_byteAt_17 rfl rfl ?_
    exact r_reti dX8_byteAt_19 rfl (by first | rfl | exact bI_nar _) ⟨Nat.le_refl _, Nat.le_refl _⟩ (fun _ => rfl) (⟨by rw [bA_ge q], rfl⟩)
theorem e2_fails0 (h : rB W.2.1 = 0) (c : Int32) : mm_e (d + 1) yX8_fails mX8_fails [.ref 0, .int c] (wM W) (mm_q none (wM (zRe W (rF W.2.1 c (rH W.2.1))))) := by
  refine e_of [some (.ref 0), some (.int c)] rfl (by decide) rfl rfl rfl ?_
  refine r_aload_n (i := 0) 1 dX8_fails_0 rfl rfl rfl ?_
  refine r_getf 4 dX8_fails_1 rfl fl_X8_54 rfl rfl ?_
  refine r_if_ne 20 7 dX8_fails_4 rfl rfl (fun h4 => absurd h h4) (fun h4 => ?_)
  refine r_aload_n (i := 0) 8 dX8_fails_7 rfl rfl rfl ?_
  refine r_iload_n (i := 1) 9 dX8_fails_8 rfl rfl rfl ?_
  refine r_putf 12 dX8_fails_9 rfl fl_X8_54 rfl rfl (fun _ _ => ⟨rfl, rfl⟩) (fun z => absurd z Bool.false_ne_true) ?_
  refine r_aload_n (i := 0) 13 dX8_fails_12 rfl rfl rfl ?_
  refine r_aload_n (i := 0) 14 dX8_fails_13 rfl rfl rfl ?_
  refine r_getf 17 dX8_fails_14 rfl fl_X8_57 rfl rfl ?_
  refine r_putf 20 dX8_fails_17 rfl fl_X8_60 rfl rfl (fun _ _ => ⟨rfl, rfl⟩) (fun z => absurd z Bool.false_ne_true) ?_
  exact r_retv dX8_fails_20 rfl ⟨Nat.le_refl _, Nat.le_refl _⟩ (fun _ => rfl) (⟨rfl, rfl⟩)
theorem l2_sp (ht : tpM W b n) {h t v : Int32} {E : Nat} {Qf : Option Value → mm_W → Prop} (kk : mm_r (d + 2) mX8_step Qf 34 [some (.ref 0), none] [] (wM (zRe W (rS r (nI E) h t v)))) : ∀ (k q : Nat), n - q = k → q ≤ n → sk b k q = E → mm_r (d + 2) mX8_step Qf 8 [some (.ref 0), none] [] (wM (zRe W (rS r (nI q) h t v))) := by
  have t2 := ht.2.1
  have hb : ∀ p, p < n → b p < 128 := fun p hp => (ht.2.2 p hp).2
  intro k
  induction k with
  | zero =>
    intro q hk hq e
    have e : q = E := e
    subst e
    have ne : ¬ bA b n q = 32 := fun z => by have := ((bA_eq (hb q) (k := 32) (by decide)).mp z).1; omega
    refine r_aload_n (i := 0) 9 dX8_step_8 rfl rfl rfl ?_
    refine r_aload_n (i := 0) 10 dX8_step_9 rfl rfl rfl ?_
    refine r_getf 13 dX8_step_10 rfl fl_X8_66 rfl rfl ?_
    refine r_callMi 16 dX8_step_13 rfl ykX8_byteAt lk_X8_69 (e2_byteAt (W := zRe W (rS r (nI q) h t v)) (b := b) (n := n) ht (p := q) (by omega)) rfl rfl rfl rfl rfl rfl ⟨Nat.le_refl _, Nat.le_refl _⟩ ?_
    refine r_bipush (v := 32) 18 dX8_step_16 rfl rfl ?_
    refine r_icmp_ne 34 21 dX8_step_18 rfl rfl (fun h18 => ?_) (fun h18 => absurd h18 ne)
    exact kk
  | succ k ih =>
    intro q hk hq e
    rw [sk] at e
    refine r_aload_n (i := 0) 9 dX8_step_8 rfl rfl rfl ?_
    refine r_aload_n (i := 0) 10 dX8_step_9 rfl rfl rfl ?_
    refine r_getf 13 dX8_step_10 rfl fl_X8_66 rfl rfl ?_
    refine r_callMi 16 dX8_step_13 rfl ykX8_byteAt lk_X8_69 (e2_byteAt (W := zRe W (rS r (nI q) h t v)) (b := b) (n := n) ht (p := q) (by omega)) rfl rfl rfl rfl rfl rfl ⟨Nat.le_refl _, Nat.le_refl _⟩ ?_
    refine r_bipush (v := 32) 18 dX8_step_16 rfl rfl ?_
    refine r_icmp_ne 34 21 dX8_step_18 rfl rfl (fun h18 => ?_) (fun h18 => ?_)
    · have g : ¬ b q = 32 := (fun z => h18 ((bA_eq (hb q) (k := 32) (by decide)).mpr ⟨by omega, z⟩))
      rw [if_neg g] at e
      subst e
      exact kk
    · have g : b q = 32 := ((bA_eq (hb q) (k := 32) (by decide)).mp h18).2
      rw [if_pos g] at e
      refine r_aload_n (i := 0) 22 dX8_step_21 rfl rfl rfl ?_
      refine r_dup 23 dX8_step_22 rfl rfl ?_
      refine r_getf 26 dX8_step_23 rfl fl_X8_66 rfl rfl ?_
      refine r_iconst (v := 1) 27 dX8_step_26 rfl rfl ?_
      refine r_iadd 28 dX8_step_27 rfl ?_
      rw [show (zRe W (rS r (nI q) h t v)).2.1.2.2.2.2.2.2.1 + 1 = nI (q + 1) from nI_1 q]
      refine r_putf 31 dX8_step_28 rfl fl_X8_66 rfl rfl (fun _ _ => ⟨rfl, rfl⟩) (fun z => absurd z Bool.false_ne_true) ?_
      refine r_goto 8 dX8_step_31 rfl ?_
      exact ih (q + 1) (by omega) (by omega) e
theorem l2_az (ht : tpM W b n) {h t v c : Int32} {E : Nat} {Qf : Option Value → mm_W → Prop} (kk : mm_r (d + 2) mX8_step Qf 118 [some (.ref 0), some (.int c)] [] (wM (zRe W (rS r (nI E) h t v)))) : ∀ (k q : Nat), n - q = k → q ≤ n → rn b n 1 k q = E → mm_r (d + 2) mX8_step Qf 84 [some (.ref 0), some (.int c)] [] (wM (zRe W (rS r (nI q) h t v))) := by
  have t2 := ht.2.1
  have hb : ∀ p, p < n → b p < 128 := fun p hp => (ht.2.2 p hp).2
  intro k
  induction k with
  | zero =>
    intro q hk hq e
    have e : q = E := e
    subst e
    have ne : decide (so b n q = 1) = false := decide_eq_false (fun z => by have := (so_1.mp z).1; omega)
    refine r_aload_n (i := 0) 85 dX8_step_84 rfl rfl rfl ?_
    refine r_aload_n (i := 0) 86 dX8_step_85 rfl rfl rfl ?_
    refine r_getf 89 dX8_step_86 rfl fl_X8_66 rfl rfl ?_
    refine r_callMi 92 dX8_step_89 rfl ykX8_byteAt lk_X8_69 (e2_byteAt (W := zRe W (rS r (nI q) h t v)) (b := b) (n := n) ht (p := q) (by omega)) rfl rfl rfl rfl rfl rfl ⟨Nat.le_refl _, Nat.le_refl _⟩ ?_
    refine r_i2l 93 dX8_step_92 rfl ?_
    refine r_ldc2 96 dX8_step_93 rfl k_X8_76 ?_
    refine r_ldc2 99 dX8_step_96 rfl k_X8_78 ?_
    refine r_callSi [] 102 dX8_step_99 rfl ykX8_in lk_X8_46 (e_inx (in_az (hb q))) rfl rfl rfl ⟨Nat.le_refl _, Nat.le_refl _⟩ ?_
    rw [ne]
    refine r_if_eq 118 105 dX8_step_102 rfl rfl (fun h102 => ?_) (fun h102 => absurd rfl h102)
    exact kk
  | succ k ih =>
    intro q hk hq e
    rw [rn] at e
    refine r_aload_n (i := 0) 85 dX8_step_84 rfl rfl rfl ?_
    refine r_aload_n (i := 0) 86 dX8_step_85 rfl rfl rfl ?_
    refine r_getf 89 dX8_step_86 rfl fl_X8_66 rfl rfl ?_
    refine r_callMi 92 dX8_step_89 rfl ykX8_byteAt lk_X8_69 (e2_byteAt (W := zRe W (rS r (nI q) h t v)) (b := b) (n := n) ht (p := q) (by omega)) rfl rfl rfl rfl rfl rfl ⟨Nat.le_refl _, Nat.le_refl _⟩ ?_
    refine r_i2l 93 dX8_step_92 rfl ?_
    refine r_ldc2 96 dX8_step_93 rfl k_X8_76 ?_
    refine r_ldc2 99 dX8_step_96 rfl k_X8_78 ?_
    refine r_callSi [] 102 dX8_step_99 rfl ykX8_in lk_X8_46 (e_inx (in_az (hb q))) rfl rfl rfl ⟨Nat.le_refl _, Nat.le_refl _⟩ ?_
    refine r_if_eq 118 105 dX8_step_102 rfl rfl (fun h102 => ?_) (fun h102 => ?_)
    · have g := of_decide_eq_false (bI_eq0 h102)
      rw [if_neg g] at e
      subst e
      exact kk
    · have g := of_decide_eq_true (bI_ne0 h102)
      rw [if_pos g] at e
      refine r_aload_n (i := 0) 106 dX8_step_105 rfl rfl rfl ?_
      refine r_dup 107 dX8_step_106 rfl rfl ?_
      refine r_getf 110 dX8_step_107 rfl fl_X8_66 rfl rfl ?_
      refine r_iconst (v := 1) 111 dX8_step_110 rfl rfl ?_
      refine r_iadd 112 dX8_step_111 rfl ?_
      rw [show (zRe W (rS r (nI q) h t v)).2.1.2.2.2.2.2.2.1 + 1 = nI (q + 1) from nI_1 q]
      refine r_putf 115 dX8_step_112 rfl fl_X8_66 rfl rfl (fun _ _ => ⟨rfl, rfl⟩) (fun z => absurd z Bool.false_ne_true) ?_
      refine r_goto 84 dX8_step_115 rfl ?_
      exact ih (q + 1) (by omega) (by omega) e
theorem vl_min {a q : Nat} (h : a ≤ q) (h2 : q - a < 2) : vl b a (min 2 (q + 1 - a)) = vl b a (min 2 (q - a)) * 10 + b q - 48 := by
  rw [Nat.min_eq_right (by omega), Nat.min_eq_right (by omega), show q + 1 - a = (q - a) + 1 by omega, vl, show a + (q - a) = q by omega]
theorem vl_min2 {a q : Nat} (h : a ≤ q) (h2 : ¬ q - a < 2) : vl b a (min 2 (q + 1 - a)) = vl b a (min 2 (q - a)) := by
  rw [Nat.min_eq_left (by omega), Nat.min_eq_left (by omega)]
theorem l2_09 (ht : tpM W b n) {t c : Int32} {a E : Nat} {Qf : Option Value → mm_W → Prop} (kk : mm_r (d + 2) mX8_step Qf 217 [some (.ref 0), some (.int c)] [] (wM (zRe W (rS r (nI E) (nI a) t (nI (vl b a (min 2 (E - a)))))))) : ∀ (k q : Nat), n - q = k → q ≤ n → a ≤ q → rn b n 2 k q = E → mm_r (d + 2) mX8_step Qf 140 [some (.ref 0), some (.int c)] [] (wM (zRe W (rS r (nI q) (nI a) t (nI (vl b a (min 2 (q - a))))))) := by
  have t2 := ht.2.1
  have hb : ∀ p, p < n → b p < 128 := fun p hp => (ht.2.2 p hp).2
  intro k
  induction k with
  | zero =>
    intro q hk hq ha e
    have e : q = E := e
    subst e
    have ne : decide (so b n q = 2) = false := decide_eq_false (fun z => by have := (so_2.mp z).1; omega)
    refine r_aload_n (i := 0) 141 dX8_step_140 rfl rfl rfl ?_
    refine r_aload_n (i := 0) 142 dX8_step_141 rfl rfl rfl ?_
    refine r_getf 145 dX8_step_142 rfl fl_X8_66 rfl rfl ?_
    refine r_callMi 148 dX8_step_145 rfl ykX8_byteAt lk_X8_69 (e2_byteAt (W := zRe W (rS r (nI q) (nI a) t (nI (vl b a (min 2 (q - a)))))) (b := b) (n := n) ht (p := q) (by omega)) rfl rfl rfl rfl rfl rfl ⟨Nat.le_refl _, Nat.le_refl _⟩ ?_
    refine r_i2l 149 dX8_step_148 rfl ?_
    refine r_ldc2 152 dX8_step_149 rfl k_X8_80 ?_
    refine r_ldc2 155 dX8_step_152 rfl k_X8_82 ?_
    refine r_callSi [] 158 dX8_step_155 rfl ykX8_in lk_X8_46 (e_inx (in_09 (hb q))) rfl rfl rfl ⟨Nat.le_refl _, Nat.le_refl _⟩ ?_
    rw [ne]
    refine r_if_eq 217 161 dX8_step_158 rfl rfl (fun h158 => ?_) (fun h158 => absurd rfl h158)
    exact kk
  | succ k ih =>
    intro q hk hq ha e
    rw [rn] at e
    have ql : q < n := by omega
    have bq := bA_lt (b := b) ql
    have b128 := hb q ql
    have es : (zRe W (rS r (nI q) (nI a) t (nI (vl b a (min 2 (q - a)))))).2.1.2.2.2.2.2.2.1 - (zRe W (rS r (nI q) (nI a) t (nI (vl b a (min 2 (q - a)))))).2.1.2.2.2.2.2.2.2.1 = nI (q - a) := pk_sub ha
    by_cases g : so b n q = 2
    · rw [if_pos g] at e
      obtain ⟨g1, g2, g3⟩ := so_2.mp g
      by_cases c2 : q - a < 2
      · have ev := vl_min (b := b) ha c2
        have e10 : (10 : Int32) * (zRe W (rS r (nI q) (nI a) t (nI (vl b a (min 2 (q - a)))))).2.1.2.2.2.2.2.2.2.2.2 + bA b n q - 48 = nI (vl b a (min 2 (q + 1 - a))) := by
          show (10 : Int32) * nI (vl b a (min 2 (q - a))) + bA b n q - 48 = _
          rw [bq, show (10 : Int32) = nI 10 from rfl, pk_mul, nI_add, show (48 : Int32) = nI 48 from rfl, pk_sub (by omega), ev, Nat.mul_comm]
        refine r_aload_n (i := 0) 141 dX8_step_140 rfl rfl rfl ?_
        refine r_aload_n (i := 0) 142 dX8_step_141 rfl rfl rfl ?_
        refine r_getf 145 dX8_step_142 rfl fl_X8_66 rfl rfl ?_
        refine r_callMi 148 dX8_step_145 rfl ykX8_byteAt lk_X8_69 (e2_byteAt (W := zRe W (rS r (nI q) (nI a) t (nI (vl b a (min 2 (q - a)))))) (b := b) (n := n) ht (p := q) (by omega)) rfl rfl rfl rfl rfl rfl ⟨Nat.le_refl _, Nat.le_refl _⟩ ?_
        refine r_i2l 149 dX8_step_148 rfl ?_
        refine r_ldc2 152 dX8_step_149 rfl k_X8_80 ?_
        refine r_ldc2 155 dX8_step_152 rfl k_X8_82 ?_
        refine r_callSi [] 158 dX8_step_155 rfl ykX8_in lk_X8_46 (e_inx (in_09 (hb q))) rfl rfl rfl ⟨Nat.le_refl _, Nat.le_refl _⟩ ?_
        rw [decide_eq_true g]
        refine r_if_eq 217 161 dX8_step_158 rfl rfl (fun h158 => absurd h158 (by decide)) (fun h158 => ?_)
        refine r_aload_n (i := 0) 162 dX8_step_161 rfl rfl rfl ?_
        refine r_aload_n (i := 0) 163 dX8_step_162 rfl rfl rfl ?_
        refine r_getf 166 dX8_step_163 rfl fl_X8_66 rfl rfl ?_
        refine r_aload_n (i := 0) 167 dX8_step_166 rfl rfl rfl ?_
        refine r_getf 170 dX8_step_167 rfl fl_X8_57 rfl rfl ?_
        refine r_isub 171 dX8_step_170 rfl ?_
        rw [es]
        refine r_iconst (v := 2) 172 dX8_step_171 rfl rfl ?_
        refine r_icmp_ge 197 175 dX8_step_172 rfl rfl (fun h172 => absurd (ble_of (a := 2) (b := q - a) (by decide) (by omega) h172) (by omega)) (fun h172 => ?_)
        refine r_bipush (v := 10) 177 dX8_step_175 rfl rfl ?_
        refine r_aload_n (i := 0) 178 dX8_step_177 rfl rfl rfl ?_
        refine r_getf 181 dX8_step_178 rfl fl_X8_73 rfl rfl ?_
        refine r_imul 182 dX8_step_181 rfl ?_
        refine r_aload_n (i := 0) 183 dX8_step_182 rfl rfl rfl ?_
        refine r_aload_n (i := 0) 184 dX8_step_183 rfl rfl rfl ?_
        refine r_getf 187 dX8_step_184 rfl fl_X8_66 rfl rfl ?_
        refine r_callMi 190 dX8_step_187 rfl ykX8_byteAt lk_X8_69 (e2_byteAt (W := zRe W (rS r (nI q) (nI a) t (nI (vl b a (min 2 (q - a)))))) (b := b) (n := n) ht (p := q) (by omega)) rfl rfl rfl rfl rfl rfl ⟨Nat.le_refl _, Nat.le_refl _⟩ ?_
        refine r_iadd 191 dX8_step_190 rfl ?_
        refine r_bipush (v := 48) 193 dX8_step_191 rfl rfl ?_
        refine r_isub 194 dX8_step_193 rfl ?_
        rw [e10]
        refine r_goto 201 dX8_step_194 rfl ?_
        refine r_putf 204 dX8_step_201 rfl fl_X8_73 rfl rfl (fun _ _ => ⟨rfl, rfl⟩) (fun z => absurd z Bool.false_ne_true) ?_
        refine r_aload_n (i := 0) 205 dX8_step_204 rfl rfl rfl ?_
        refine r_dup 206 dX8_step_205 rfl rfl ?_
        refine r_getf 209 dX8_step_206 rfl fl_X8_66 rfl rfl ?_
        refine r_iconst (v := 1) 210 dX8_step_209 rfl rfl ?_
        refine r_iadd 211 dX8_step_210 rfl ?_
        rw [show (zRe W (rS r (nI q) (nI a) t (nI (vl b a (min 2 (q - a)))))).2.1.2.2.2.2.2.2.1 + 1 = nI (q + 1) from nI_1 q]
        refine r_putf 214 dX8_step_211 rfl fl_X8_66 rfl rfl (fun _ _ => ⟨rfl, rfl⟩) (fun z => absurd z Bool.false_ne_true) ?_
        refine r_goto 140 dX8_step_214 rfl ?_
        exact ih (q + 1) (by omega) (by omega) (by omega) e
      · have ev := vl_min2 (b := b) ha c2
        have ih2 := ih (q + 1) (by omega) (by omega) (by omega) e
        rw [ev] at ih2
        refine r_aload_n (i := 0) 141 dX8_step_140 rfl rfl rfl ?_
        refine r_aload_n (i := 0) 142 dX8_step_141 rfl rfl rfl ?_
        refine r_getf 145 dX8_step_142 rfl fl_X8_66 rfl rfl ?_
        refine r_callMi 148 dX8_step_145 rfl ykX8_byteAt lk_X8_69 (e2_byteAt (W := zRe W (rS r (nI q) (nI a) t (nI (vl b a (min 2 (q - a)))))) (b := b) (n := n) ht (p := q) (by omega)) rfl rfl rfl rfl rfl rfl ⟨Nat.le_refl _, Nat.le_refl _⟩ ?_
        refine r_i2l 149 dX8_step_148 rfl ?_
        refine r_ldc2 152 dX8_step_149 rfl k_X8_80 ?_
        refine r_ldc2 155 dX8_step_152 rfl k_X8_82 ?_
        refine r_callSi [] 158 dX8_step_155 rfl ykX8_in lk_X8_46 (e_inx (in_09 (hb q))) rfl rfl rfl ⟨Nat.le_refl _, Nat.le_refl _⟩ ?_
        rw [decide_eq_true g]
        refine r_if_eq 217 161 dX8_step_158 rfl rfl (fun h158 => absurd h158 (by decide)) (fun h158 => ?_)
        refine r_aload_n (i := 0) 162 dX8_step_161 rfl rfl rfl ?_
        refine r_aload_n (i := 0) 163 dX8_step_162 rfl rfl rfl ?_
        refine r_getf 166 dX8_step_163 rfl fl_X8_66 rfl rfl ?_
        refine r_aload_n (i := 0) 167 dX8_step_166 rfl rfl rfl ?_
        refine r_getf 170 dX8_step_167 rfl fl_X8_57 rfl rfl ?_
        refine r_isub 171 dX8_step_170 rfl ?_
        rw [es]
        refine r_iconst (v := 2) 172 dX8_step_171 rfl rfl ?_
        refine r_icmp_ge 197 175 dX8_step_172 rfl rfl (fun h172 => ?_) (fun h172 => absurd (show nI 2 ≤ nI (q - a) from nI_le (by omega) (by omega)) h172)
        refine r_aload_n (i := 0) 198 dX8_step_197 rfl rfl rfl ?_
        refine r_getf 201 dX8_step_198 rfl fl_X8_73 rfl rfl ?_
        refine r_putf 204 dX8_step_201 rfl fl_X8_73 rfl rfl (fun _ _ => ⟨rfl, rfl⟩) (fun z => absurd z Bool.false_ne_true) ?_
        refine r_aload_n (i := 0) 205 dX8_step_204 rfl rfl rfl ?_
        refine r_dup 206 dX8_step_205 rfl rfl ?_
        refine r_getf 209 dX8_step_206 rfl fl_X8_66 rfl rfl ?_
        refine r_iconst (v := 1) 210 dX8_step_209 rfl rfl ?_
        refine r_iadd 211 dX8_step_210 rfl ?_
        rw [show (zRe W (rS r (nI q) (nI a) t (nI (vl b a (min 2 (q - a)))))).2.1.2.2.2.2.2.2.1 + 1 = nI (q + 1) from nI_1 q]
        refine r_putf 214 dX8_step_211 rfl fl_X8_66 rfl rfl (fun _ _ => ⟨rfl, rfl⟩) (fun z => absurd z Bool.false_ne_true) ?_
        refine r_goto 140 dX8_step_214 rfl ?_
        exact ih2
    · rw [if_neg g] at e
      subst e
      refine r_aload_n (i := 0) 141 dX8_step_140 rfl rfl rfl ?_
      refine r_aload_n (i := 0) 142 dX8_step_141 rfl rfl rfl ?_
      refine r_getf 145 dX8_step_142 rfl fl_X8_66 rfl rfl ?_
      refine r_callMi 148 dX8_step_145 rfl ykX8_byteAt lk_X8_69 (e2_byteAt (W := zRe W (rS r (nI q) (nI a) t (nI (vl b a (min 2 (q - a)))))) (b := b) (n := n) ht (p := q) (by omega)) rfl rfl rfl rfl rfl rfl ⟨Nat.le_refl _, Nat.le_refl _⟩ ?_
      refine r_i2l 149 dX8_step_148 rfl ?_
      refine r_ldc2 152 dX8_step_149 rfl k_X8_80 ?_
      refine r_ldc2 155 dX8_step_152 rfl k_X8_82 ?_
      refine r_callSi [] 158 dX8_step_155 rfl ykX8_in lk_X8_46 (e_inx (in_09 (hb q))) rfl rfl rfl ⟨Nat.le_refl _, Nat.le_refl _⟩ ?_
      rw [decide_eq_false g]
      refine r_if_eq 217 161 dX8_step_158 rfl rfl (fun h158 => ?_) (fun h158 => absurd rfl h158)
      exact kk
def stP (W : MT) (b : Nat → Nat) (s : pS) : Option Value → mm_W → Prop := fun v u => v = none ∧ ∃ r, u = wM (zRe W r) ∧ RS b s r ∧ SP W.2.1 r
theorem e2_stepG (ht : tpM W b n) (hs : sI n s) (hr : rB W.2.1 = nI (pF s) ∧ (¬ pF s = 0 → rA W.2.1 = nI (pL s)) ∧ (pF s = 0 → rP W.2.1 = nI (pP s))) : mm_e (d + 2) yX8_step mX8_step [.ref 0] (wM W) (stP W b (tkT b n s)) := by
  have t2 := ht.2.1
  have hb : ∀ p, p < n → b p < 128 := fun p hp => (ht.2.2 p hp).2
  obtain ⟨r1, r2, r3⟩ := id hr
  have f6 := hs.2.2.2.1
  refine e_of [some (.ref 0), none] rfl (by decide) rfl rfl rfl ?_
  by_cases h0 : pF s = 0
  · have a2 := r3 h0
    have r10 : rB W.2.1 = 0 := by rw [r1, h0]; rfl
    have pn := hs.1
    have tB1 := tB_le (b := b) pn
    have tE1 := tE_le (b := b) pn
    have eT : tkT b n s = fIf (decide (tK b n (pP s) = 0)) 1 (tE b n (pP s), tK b n (pP s), tB b n (pP s), 0, pL s) := by unfold tkT; rw [if_pos h0]
    have good : ∀ v : Int32, ¬ tK b n (pP s) = 0 → v = nI (if tK b n (pP s) = 2 then tVl b n (pP s) else 0) → RS b (tkT b n s) (rS W.2.1 (nI (tE b n (pP s))) (nI (tB b n (pP s))) (nI (mtk (tK b n (pP s)))) v) := by
      intro v g e
      rw [eT, decide_eq_false g]
      exact ⟨r10, fun z => absurd rfl z, fun _ => ⟨rfl, rfl, rfl, e⟩⟩
    have bad : ∀ p k v : Int32, tK b n (pP s) = 0 → RS b (tkT b n s) (rF (rS W.2.1 p (nI (tB b n (pP s))) k v) 1 (nI (tB b n (pP s)))) := by
      intro p k v g
      rw [eT, decide_eq_true g]
      exact ⟨rfl, fun _ => rfl, fun z => absurd (show (1 : Nat) = 0 from z) (by decide)⟩
    refine r_aload_n (i := 0) 1 dX8_step_0 rfl rfl rfl ?_
    refine r_getf 4 dX8_step_1 rfl fl_X8_54 rfl rfl ?_
    rw [show W.2.1.2.2.2.2.1 = 0 from r10]
    refine r_if_le 8 7 dX8_step_4 rfl rfl (fun h4 => ?_) (fun h4 => absurd (show (0 : Int32) ≤ 0 from by decide) h4)
    refine r_eq (l2_sp (r := W.2.1) (b := b) (n := n) (E := tB b n (pP s)) (h := rH W.2.1) (t := rK W.2.1) (v := rV W.2.1) ht ?_ (n - pP s) (pP s) rfl pn rfl) rfl rfl (by rw [← a2])
    refine r_aload_n (i := 0) 35 dX8_step_34 rfl rfl rfl ?_
    refine r_aload_n (i := 0) 36 dX8_step_35 rfl rfl rfl ?_
    refine r_getf 39 dX8_step_36 rfl fl_X8_66 rfl rfl ?_
    refine r_putf 42 dX8_step_39 rfl fl_X8_57 rfl rfl (fun _ _ => ⟨rfl, rfl⟩) (fun z => absurd z Bool.false_ne_true) ?_
    skip
    show mm_r (d + 2) mX8_step _ 42 [some (.ref 0), none] [] (wM (zRe W (rS W.2.1 (nI (tB b n (pP s))) (nI (tB b n (pP s))) (rK W.2.1) (rV W.2.1))))
    refine r_aload_n (i := 0) 43 dX8_step_42 rfl rfl rfl ?_
    refine r_aload_n (i := 0) 44 dX8_step_43 rfl rfl rfl ?_
    refine r_getf 47 dX8_step_44 rfl fl_X8_66 rfl rfl ?_
    refine r_callMi 50 dX8_step_47 rfl ykX8_byteAt lk_X8_69 (e2_byteAt (W := zRe W (rS W.2.1 (nI (tB b n (pP s))) (nI (tB b n (pP s))) (rK W.2.1) (rV W.2.1))) (b := b) (n := n) ht (p := tB b n (pP s)) (by omega)) rfl rfl rfl rfl rfl rfl ⟨Nat.le_refl _, Nat.le_refl _⟩ ?_
    refine r_istore_n (i := 1) 51 dX8_step_50 rfl rfl rfl ?_
    refine r_aload_n (i := 0) 52 dX8_step_51 rfl rfl rfl ?_
    refine r_iconst (v := 0) 53 dX8_step_52 rfl rfl ?_
    refine r_putf 56 dX8_step_53 rfl fl_X8_73 rfl rfl (fun _ _ => ⟨rfl, rfl⟩) (fun z => absurd z Bool.false_ne_true) ?_
    skip
    show mm_r (d + 2) mX8_step _ 56 [some (.ref 0), some (.int (bA b n (tB b n (pP s))))] [] (wM (zRe W (rS W.2.1 (nI (tB b n (pP s))) (nI (tB b n (pP s))) (rK W.2.1) 0)))
    by_cases q4 : tB b n (pP s) < n
    · have c4 : ¬ bA b n (tB b n (pP s)) = -4 := fun z => absurd (show nI (b (tB b n (pP s))) < 0 from by rw [← bA_lt q4, z]; decide) (nI_pos (by have := hb _ q4; omega))
      by_cases q1 : so b n (tB b n (pP s)) = 1
      · have eR : tR b n (pP s) = 1 := q1
        have eK : tK b n (pP s) = 1 := by unfold tK; rw [if_neg (by omega), eR]
        have eE : tE b n (pP s) = rn b n 1 (n - tB b n (pP s)) (tB b n (pP s)) := by unfold tE; rw [if_pos (Or.inl eR), eR]
        have gd := good 0 (by omega) (by rw [if_neg (by omega)]; rfl)
        rw [eK] at gd
        refine r_iload_n (i := 1) 57 dX8_step_56 rfl rfl rfl ?_
        refine r_bipush (v := (-4)) 59 dX8_step_57 rfl rfl ?_
        refine r_icmp_ne 70 62 dX8_step_59 rfl rfl (fun h59 => ?_) (fun h59 => absurd h59 c4)
        refine r_iload_n (i := 1) 71 dX8_step_70 rfl rfl rfl ?_
        refine r_i2l 72 dX8_step_71 rfl ?_
        refine r_ldc2 75 dX8_step_72 rfl k_X8_76 ?_
        refine r_ldc2 78 dX8_step_75 rfl k_X8_78 ?_
        refine r_callSi [] 81 dX8_step_78 rfl ykX8_in lk_X8_46 (e_inx (in_az (hb _))) rfl rfl rfl ⟨Nat.le_refl _, Nat.le_refl _⟩ ?_
        rw [decide_eq_true q1]
        refine r_if_eq 126 84 dX8_step_81 rfl rfl (fun h81 => absurd h81 (by decide)) (fun h81 => ?_)
        refine l2_az (r := W.2.1) (E := tE b n (pP s)) ht ?_ (n - tB b n (pP s)) (tB b n (pP s)) rfl (by omega) eE.symm
        refine r_aload_n (i := 0) 119 dX8_step_118 rfl rfl rfl ?_
        refine r_iconst (v := 1) 120 dX8_step_119 rfl rfl ?_
        refine r_putf 123 dX8_step_120 rfl fl_X8_63 rfl rfl (fun _ _ => ⟨rfl, rfl⟩) (fun z => absurd z Bool.false_ne_true) ?_
        refine r_goto 269 dX8_step_123 rfl ?_
        exact r_retv dX8_step_269 rfl ⟨Nat.le_refl _, Nat.le_refl _⟩ (fun _ => rfl) (⟨rfl, _, rfl, gd, SP.rf _⟩)
      · by_cases q2 : so b n (tB b n (pP s)) = 2
        · have eR : tR b n (pP s) = 2 := q2
          have eE : tE b n (pP s) = rn b n 2 (n - tB b n (pP s)) (tB b n (pP s)) := by unfold tE; rw [if_pos (Or.inr eR), eR]
          refine r_iload_n (i := 1) 57 dX8_step_56 rfl rfl rfl ?_
          refine r_bipush (v := (-4)) 59 dX8_step_57 rfl rfl ?_
          refine r_icmp_ne 70 62 dX8_step_59 rfl rfl (fun h59 => ?_) (fun h59 => absurd h59 c4)
          refine r_iload_n (i := 1) 71 dX8_step_70 rfl rfl rfl ?_
          refine r_i2l 72 dX8_step_71 rfl ?_
          refine r_ldc2 75 dX8_step_72 rfl k_X8_76 ?_
          refine r_ldc2 78 dX8_step_75 rfl k_X8_78 ?_
          refine r_callSi [] 81 dX8_step_78 rfl ykX8_in lk_X8_46 (e_inx (in_az (hb _))) rfl rfl rfl ⟨Nat.le_refl _, Nat.le_refl _⟩ ?_
          rw [decide_eq_false q1]
          refine r_if_eq 126 84 dX8_step_81 rfl rfl (fun h81 => ?_) (fun h81 => absurd rfl h81)
          refine r_iload_n (i := 1) 127 dX8_step_126 rfl rfl rfl ?_
          refine r_i2l 128 dX8_step_127 rfl ?_
          refine r_ldc2 131 dX8_step_128 rfl k_X8_80 ?_
          refine r_ldc2 134 dX8_step_131 rfl k_X8_82 ?_
          refine r_callSi [] 137 dX8_step_134 rfl ykX8_in lk_X8_46 (e_inx (in_09 (hb _))) rfl rfl rfl ⟨Nat.le_refl _, Nat.le_refl _⟩ ?_
          rw [decide_eq_true q2]
          refine r_if_eq 243 140 dX8_step_137 rfl rfl (fun h137 => absurd h137 (by decide)) (fun h137 => ?_)
          refine r_eq (l2_09 (r := W.2.1) (t := rK W.2.1) (a := tB b n (pP s)) (E := tE b n (pP s)) ht ?_ (n - tB b n (pP s)) (tB b n (pP s)) rfl (by omega) (Nat.le_refl _) eE.symm) rfl rfl (by rw [Nat.sub_self]; rfl)
          refine r_aload_n (i := 0) 218 dX8_step_217 rfl rfl rfl ?_
          refine r_iconst (v := 2) 219 dX8_step_218 rfl rfl ?_
          refine r_putf 222 dX8_step_219 rfl fl_X8_63 rfl rfl (fun _ _ => ⟨rfl, rfl⟩) (fun z => absurd z Bool.false_ne_true) ?_
          skip
          show mm_r (d + 2) mX8_step _ 222 [some (.ref 0), some (.int (bA b n (tB b n (pP s))))] [] (wM (zRe W (rS W.2.1 (nI (tE b n (pP s))) (nI (tB b n (pP s))) 2 (nI (vl b (tB b n (pP s)) (min 2 (tE b n (pP s) - tB b n (pP s))))))))
          have es : (zRe W (rS W.2.1 (nI (tE b n (pP s))) (nI (tB b n (pP s))) 2 (nI (vl b (tB b n (pP s)) (min 2 (tE b n (pP s) - tB b n (pP s))))))).2.1.2.2.2.2.2.2.1 - (zRe W (rS W.2.1 (nI (tE b n (pP s))) (nI (tB b n (pP s))) 2 (nI (vl b (tB b n (pP s)) (min 2 (tE b n (pP s) - tB b n (pP s))))))).2.1.2.2.2.2.2.2.2.1 = nI (tE b n (pP s) - tB b n (pP s)) := pk_sub tE1.1
          by_cases q3 : 2 < tE b n (pP s) - tB b n (pP s)
          · have eK : tK b n (pP s) = 0 := by unfold tK; rw [if_pos ⟨eR, q3⟩]
            refine r_aload_n (i := 0) 223 dX8_step_222 rfl rfl rfl ?_
            refine r_getf 226 dX8_step_223 rfl fl_X8_66 rfl rfl ?_
            refine r_aload_n (i := 0) 227 dX8_step_226 rfl rfl rfl ?_
            refine r_getf 230 dX8_step_227 rfl fl_X8_57 rfl rfl ?_
            refine r_isub 231 dX8_step_230 rfl ?_
            rw [es]
            refine r_iconst (v := 2) 232 dX8_step_231 rfl rfl ?_
            refine r_icmp_le 269 235 dX8_step_232 rfl rfl (fun h232 => absurd (ble_of (a := tE b n (pP s) - tB b n (pP s)) (b := 2) (by omega) (by decide) h232) (by omega)) (fun h232 => ?_)
            refine r_aload_n (i := 0) 236 dX8_step_235 rfl rfl rfl ?_
            refine r_iconst (v := 1) 237 dX8_step_236 rfl rfl ?_
            refine r_callMu 240 dX8_step_237 rfl ykX8_fails lk_X8_84 (e2_fails0 (W := zRe W (rS W.2.1 (nI (tE b n (pP s))) (nI (tB b n (pP s))) 2 (nI (vl b (tB b n (pP s)) (min 2 (tE b n (pP s) - tB b n (pP s))))))) r10 1) rfl rfl rfl rfl rfl rfl ⟨Nat.le_refl _, Nat.le_refl _⟩ ?_
            refine r_goto 269 dX8_step_240 rfl ?_
            exact r_retv dX8_step_269 rfl ⟨Nat.le_refl _, Nat.le_refl _⟩ (fun _ => rfl) (⟨rfl, _, rfl, bad _ _ _ eK, SP.rf _⟩)
          · have eK : tK b n (pP s) = 2 := by unfold tK; rw [if_neg (by omega), eR]
            have gd := good (nI (vl b (tB b n (pP s)) (min 2 (tE b n (pP s) - tB b n (pP s))))) (by omega) (by rw [if_pos eK, Nat.min_eq_right (by omega)]; rfl)
            rw [eK] at gd
            refine r_aload_n (i := 0) 223 dX8_step_222 rfl rfl rfl ?_
            refine r_getf 226 dX8_step_223 rfl fl_X8_66 rfl rfl ?_
            refine r_aload_n (i := 0) 227 dX8_step_226 rfl rfl rfl ?_
            refine r_getf 230 dX8_step_227 rfl fl_X8_57 rfl rfl ?_
            refine r_isub 231 dX8_step_230 rfl ?_
            rw [es]
            refine r_iconst (v := 2) 232 dX8_step_231 rfl rfl ?_
            refine r_icmp_le 269 235 dX8_step_232 rfl rfl (fun h232 => ?_) (fun h232 => absurd (show nI (tE b n (pP s) - tB b n (pP s)) ≤ nI 2 from nI_le (by omega) (by decide)) h232)
            exact r_retv dX8_step_269 rfl ⟨Nat.le_refl _, Nat.le_refl _⟩ (fun _ => rfl) (⟨rfl, _, rfl, gd, SP.rf _⟩)
        · have eE : tE b n (pP s) = tB b n (pP s) + 1 := by
            have n1 : ¬ tR b n (pP s) = 1 := q1
            have n2 : ¬ tR b n (pP s) = 2 := q2
            unfold tE
            rw [if_neg (fun z => z.elim n1 n2), if_pos q4]
          have eK0 : tK b n (pP s) = so b n (tB b n (pP s)) := by
            have n2 : ¬ tR b n (pP s) = 2 := q2
            unfold tK
            rw [if_neg (fun z => n2 z.1)]
            rfl
          refine r_iload_n (i := 1) 57 dX8_step_56 rfl rfl rfl ?_
          refine r_bipush (v := (-4)) 59 dX8_step_57 rfl rfl ?_
          refine r_icmp_ne 70 62 dX8_step_59 rfl rfl (fun h59 => ?_) (fun h59 => absurd h59 c4)
          refine r_iload_n (i := 1) 71 dX8_step_70 rfl rfl rfl ?_
          refine r_i2l 72 dX8_step_71 rfl ?_
          refine r_ldc2 75 dX8_step_72 rfl k_X8_76 ?_
          refine r_ldc2 78 dX8_step_75 rfl k_X8_78 ?_
          refine r_callSi [] 81 dX8_step_78 rfl ykX8_in lk_X8_46 (e_inx (in_az (hb _))) rfl rfl rfl ⟨Nat.le_refl _, Nat.le_refl _⟩ ?_
          rw [decide_eq_false q1]
          refine r_if_eq 126 84 dX8_step_81 rfl rfl (fun h81 => ?_) (fun h81 => absurd rfl h81)
          refine r_iload_n (i := 1) 127 dX8_step_126 rfl rfl rfl ?_
          refine r_i2l 128 dX8_step_127 rfl ?_
          refine r_ldc2 131 dX8_step_128 rfl k_X8_80 ?_
          refine r_ldc2 134 dX8_step_131 rfl k_X8_82 ?_
          refine r_callSi [] 137 dX8_step_134 rfl ykX8_in lk_X8_46 (e_inx (in_09 (hb _))) rfl rfl rfl ⟨Nat.le_refl _, Nat.le_refl _⟩ ?_
          rw [decide_eq_false q2]
          refine r_if_eq 243 140 dX8_step_137 rfl rfl (fun h137 => ?_) (fun h137 => absurd rfl h137)
          refine r_aload_n (i := 0) 244 dX8_step_243 rfl rfl rfl ?_
          refine r_iconst (v := 3) 245 dX8_step_244 rfl rfl ?_
          refine r_putf 248 dX8_step_245 rfl fl_X8_63 rfl rfl (fun _ _ => ⟨rfl, rfl⟩) (fun z => absurd z Bool.false_ne_true) ?_
          refine r_aload_n (i := 0) 249 dX8_step_248 rfl rfl rfl ?_
          refine r_dup 250 dX8_step_249 rfl rfl ?_
          refine r_getf 253 dX8_step_250 rfl fl_X8_66 rfl rfl ?_
          refine r_iconst (v := 1) 254 dX8_step_253 rfl rfl ?_
          refine r_iadd 255 dX8_step_254 rfl ?_
          rw [show (zRe W (rS W.2.1 (nI (tB b n (pP s))) (nI (tB b n (pP s))) (rK W.2.1) 0)).2.1.2.2.2.2.2.2.1 + 1 = nI (tE b n (pP s)) from (by rw [eE]; exact nI_1 _)]
          refine r_putf 258 dX8_step_255 rfl fl_X8_66 rfl rfl (fun _ _ => ⟨rfl, rfl⟩) (fun z => absurd z Bool.false_ne_true) ?_
          skip
          show mm_r (d + 2) mX8_step _ 258 [some (.ref 0), some (.int (bA b n (tB b n (pP s))))] [] (wM (zRe W (rS W.2.1 (nI (tE b n (pP s))) (nI (tB b n (pP s))) 3 0)))
          by_cases q3 : b (tB b n (pP s)) = 59
          · have eK : tK b n (pP s) = 3 := by rw [eK0]; exact so_3.mpr ⟨q4, q3⟩
            have gd := good 0 (by omega) (by rw [if_neg (by omega)]; rfl)
            rw [eK] at gd
            refine r_iload_n (i := 1) 259 dX8_step_258 rfl rfl rfl ?_
            refine r_bipush (v := 59) 261 dX8_step_259 rfl rfl ?_
            refine r_icmp_eq 269 264 dX8_step_261 rfl rfl (fun h261 => ?_) (fun h261 => absurd ((bA_eq (hb _) (k := 59) (by decide)).mpr ⟨q4, q3⟩) h261)
            exact r_retv dX8_step_269 rfl ⟨Nat.le_refl _, Nat.le_refl _⟩ (fun _ => rfl) (⟨rfl, _, rfl, gd, SP.rf _⟩)
          · have eK : tK b n (pP s) = 0 := by
              have l4 := so_le b n (tB b n (pP s))
              have n3 : ¬ so b n (tB b n (pP s)) = 3 := fun z => q3 (so_3.mp z).2
              have n4 : ¬ so b n (tB b n (pP s)) = 4 := fun z => by have := so_4.mp z; omega
              omega
            refine r_iload_n (i := 1) 259 dX8_step_258 rfl rfl rfl ?_
            refine r_bipush (v := 59) 261 dX8_step_259 rfl rfl ?_
            refine r_icmp_eq 269 264 dX8_step_261 rfl rfl (fun h261 => absurd ((bA_eq (hb _) (k := 59) (by decide)).mp h261).2 q3) (fun h261 => ?_)
            refine r_aload_n (i := 0) 265 dX8_step_264 rfl rfl rfl ?_
            refine r_iconst (v := 1) 266 dX8_step_265 rfl rfl ?_
            refine r_callMu 269 dX8_step_266 rfl ykX8_fails lk_X8_84 (e2_fails0 (W := zRe W (rS W.2.1 (nI (tE b n (pP s))) (nI (tB b n (pP s))) 3 0)) r10 1) rfl rfl rfl rfl rfl rfl ⟨Nat.le_refl _, Nat.le_refl _⟩ ?_
            exact r_retv dX8_step_269 rfl ⟨Nat.le_refl _, Nat.le_refl _⟩ (fun _ => rfl) (⟨rfl, _, rfl, bad _ _ _ eK, SP.rf _⟩)
    · have eB : tB b n (pP s) = n := by omega
      have eR : tR b n (pP s) = 4 := so_4.mpr (by omega)
      have eK : tK b n (pP s) = 4 := by unfold tK; rw [if_neg (by omega), eR]
      have eE : tE b n (pP s) = tB b n (pP s) := by unfold tE; rw [if_neg (by omega), if_neg q4]
      have gd := good 0 (by omega) (by rw [if_neg (by omega)]; rfl)
      rw [eK, eE] at gd
      refine r_iload_n (i := 1) 57 dX8_step_56 rfl rfl rfl ?_
      refine r_bipush (v := (-4)) 59 dX8_step_57 rfl rfl ?_
      refine r_icmp_ne 70 62 dX8_step_59 rfl rfl (fun h59 => absurd (bA_ge q4) h59) (fun h59 => ?_)
      refine r_aload_n (i := 0) 63 dX8_step_62 rfl rfl rfl ?_
      refine r_iconst (v := 0) 64 dX8_step_63 rfl rfl ?_
      refine r_putf 67 dX8_step_64 rfl fl_X8_63 rfl rfl (fun _ _ => ⟨rfl, rfl⟩) (fun z => absurd z Bool.false_ne_true) ?_
      refine r_goto 269 dX8_step_67 rfl ?_
      exact r_retv dX8_step_269 rfl ⟨Nat.le_refl _, Nat.le_refl _⟩ (fun _ => rfl) (⟨rfl, _, rfl, gd, SP.rf _⟩)
  · have pos : ¬ nI (pF s) ≤ 0 := nI_nle (by omega) (by omega)
    rw [tkT_nz h0]
    refine r_aload_n (i := 0) 1 dX8_step_0 rfl rfl rfl ?_
    refine r_getf 4 dX8_step_1 rfl fl_X8_54 rfl rfl ?_
    rw [show W.2.1.2.2.2.2.1 = nI (pF s) from r1]
    refine r_if_le 8 7 dX8_step_4 rfl rfl (fun h4 => absurd h4 pos) (fun h4 => ?_)
    exact r_retv dX8_step_7 rfl ⟨Nat.le_refl _, Nat.le_refl _⟩ (fun _ => rfl) (⟨rfl, W.2.1, rfl, ⟨r1, r2, fun z => absurd z h0⟩, SP.rf _⟩)
theorem e2_step (ht : tpM W b n) (hs : sI n s) (hr : RS b s W.2.1) : mm_e (d + 2) yX8_step mX8_step [.ref 0] (wM W) (stP W b (tkT b n s)) := e2_stepG ht hs ⟨hr.1, hr.2.1, fun z => (hr.2.2 z).2.1⟩
end MN
