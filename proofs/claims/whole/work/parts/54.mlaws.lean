theorem isb_inb (v : Int32) : isb v = inb (nI 2) v := by
  rw [Bool.eq_iff_iff, inb_iff (by decide)]
  unfold isb
  rw [decide_eq_true_eq, fa_eq, fa_eq]
  have h0 : (0 : Int32).toInt = 0 := rfl
  have h1 : (1 : Int32).toInt = 1 := rfl
  omega
theorem mbc_0 (n v : Int32) : mbc n (nI 0) v = inb (nI 5) v := by
  rw [Bool.eq_iff_iff, inb_iff (by decide)]
  show (if (0 : Int32) = 0 then decide (¬ v < 0) && decide (¬ 4 < v) else _) = true ↔ _
  rw [if_pos rfl, Bool.and_eq_true, decide_eq_true_eq, decide_eq_true_eq, fa_lt, fa_lt]
  have h0 : (0 : Int32).toInt = 0 := rfl
  have h1 : (4 : Int32).toInt = 4 := rfl
  omega
theorem mbc_1 (n v : Int32) : mbc n (nI 1) v = inb n v := by
  unfold mbc
  rw [if_neg (by decide), if_neg (by decide)]
theorem mbc_2 (n v : Int32) : mbc n (nI 2) v = inb n v := by
  unfold mbc
  rw [if_neg (by decide), if_neg (by decide)]
theorem mbc_3 (n v : Int32) : mbc n (nI 3) v = inb (nI 2) v := by
  unfold mbc
  rw [if_neg (by decide), if_pos (by decide)]
  exact isb_inb v
theorem mpg_K {p : Nat → Int32} {A : sA} (h : mpg p A) {f v : Nat} (hf : f < sN A) (hv : v ≤ 4) : mpg (upd p f (nI v)) (aK A f v) := by
  obtain ⟨h1, h2, h3, h4, h5⟩ := h
  have n6 := h5.1
  have b4 := h5.2.2.2.2.1
  refine ⟨fun i hi => ?_, fun i hi => ?_, ?_, fun i hi => ?_, sOk_K h5 hv⟩
  · have hi : i < sN A := hi
    obtain ⟨a1, a2, a3⟩ := h1 i hi
    refine ⟨?_, by rw [u_ne (by omega)]; exact a2, by rw [u_ne (by omega)]; exact a3⟩
    show _ = nI (updN (sK A) f v i)
    by_cases q : i = f
    · subst q; rw [u_at, updN_at]
    · rw [u_ne q, updN_ne _ _ q]; exact a1
  · rw [u_ne (by omega), u_ne (by omega)]; exact h2 i hi
  · rw [u_ne (by omega)]; exact h3
  · have hi : i < sB A := hi
    rw [u_ne (by omega), u_ne (by omega)]; exact h4 i hi
theorem mpg_F {p : Nat → Int32} {A : sA} (h : mpg p A) {f v : Nat} (hf : f < sN A) (hv : v < sN A) : mpg (upd p (6 + f) (nI v - nI f)) (aF A f v) := by
  obtain ⟨h1, h2, h3, h4, h5⟩ := h
  have n6 := h5.1
  have b4 := h5.2.2.2.2.1
  refine ⟨fun i hi => ?_, fun i hi => ?_, ?_, fun i hi => ?_, sOk_F h5 hv⟩
  · have hi : i < sN A := hi
    obtain ⟨a1, a2, a3⟩ := h1 i hi
    refine ⟨by rw [u_ne (by omega)]; exact a1, ?_, by rw [u_ne (by omega)]; exact a3⟩
    show _ = nI (updN (sF A) f v i)
    by_cases q : i = f
    · subst q; rw [u_at, updN_at, Int32.sub_add_cancel]
    · rw [u_ne (by omega), updN_ne _ _ q]; exact a2
  · rw [u_ne (by omega), u_ne (by omega)]; exact h2 i hi
  · rw [u_ne (by omega)]; exact h3
  · have hi : i < sB A := hi
    rw [u_ne (by omega), u_ne (by omega)]; exact h4 i hi
theorem mpg_S {p : Nat → Int32} {A : sA} (h : mpg p A) {f v : Nat} (hf : f < sN A) (hv : v < sN A) : mpg (upd p (12 + f) (nI v - nI f)) (aS A f v) := by
  obtain ⟨h1, h2, h3, h4, h5⟩ := h
  have n6 := h5.1
  have b4 := h5.2.2.2.2.1
  refine ⟨fun i hi => ?_, fun i hi => ?_, ?_, fun i hi => ?_, sOk_S h5 hv⟩
  · have hi : i < sN A := hi
    obtain ⟨a1, a2, a3⟩ := h1 i hi
    refine ⟨by rw [u_ne (by omega)]; exact a1, by rw [u_ne (by omega)]; exact a2, ?_⟩
    show _ = nI (updN (sS A) f v i)
    by_cases q : i = f
    · subst q; rw [u_at, updN_at, Int32.sub_add_cancel]
    · rw [u_ne (by omega), updN_ne _ _ q]; exact a3
  · rw [u_ne (by omega), u_ne (by omega)]; exact h2 i hi
  · rw [u_ne (by omega)]; exact h3
  · have hi : i < sB A := hi
    rw [u_ne (by omega), u_ne (by omega)]; exact h4 i hi
theorem mpg_U {p : Nat → Int32} {A : sA} (h : mpg p A) {f v : Nat} (hf : f < sG A) (hv : v < sN A) : mpg (upd p (19 + 4 * 0 + f) (nI v)) (aU A f v) := by
  obtain ⟨h1, h2, h3, h4, h5⟩ := h
  have n6 := h5.1
  have g4 := h5.2.2.1
  have b4 := h5.2.2.2.2.1
  refine ⟨fun i hi => ?_, fun i hi => ?_, ?_, fun i hi => ?_, sOk_U h5 hv⟩
  · have hi : i < sN A := hi
    rw [u_ne (by omega), u_ne (by omega), u_ne (by omega)]; exact h1 i hi
  · have hi : i < sG A := hi
    obtain ⟨a1, a2⟩ := h2 i hi
    refine ⟨?_, by rw [u_ne (by omega)]; exact a2⟩
    show _ = nI (updN (sU A) f v i)
    by_cases q : i = f
    · subst q; rw [show 19 + 4 * 0 + i = 19 + i by omega, u_at, updN_at]
    · rw [u_ne (by omega), updN_ne _ _ q]; exact a1
  · rw [u_ne (by omega)]; exact h3
  · have hi : i < sB A := hi
    rw [u_ne (by omega), u_ne (by omega)]; exact h4 i hi
theorem mpg_P {p : Nat → Int32} {A : sA} (h : mpg p A) {f v : Nat} (hf : f < sG A) (hv : v ≤ 9) : mpg (upd p (19 + 4 * 1 + f) (nI v)) (aP A f v) := by
  obtain ⟨h1, h2, h3, h4, h5⟩ := h
  have n6 := h5.1
  have g4 := h5.2.2.1
  have b4 := h5.2.2.2.2.1
  refine ⟨fun i hi => ?_, fun i hi => ?_, ?_, fun i hi => ?_, sOk_P h5 hv⟩
  · have hi : i < sN A := hi
    rw [u_ne (by omega), u_ne (by omega), u_ne (by omega)]; exact h1 i hi
  · have hi : i < sG A := hi
    obtain ⟨a1, a2⟩ := h2 i hi
    refine ⟨by rw [u_ne (by omega)]; exact a1, ?_⟩
    show _ = nI (updN (sP A) f v i)
    by_cases q : i = f
    · subst q; rw [show 19 + 4 * 1 + i = 23 + i by omega, u_at, updN_at]
    · rw [u_ne (by omega), updN_ne _ _ q]; exact a2
  · rw [u_ne (by omega)]; exact h3
  · have hi : i < sB A := hi
    rw [u_ne (by omega), u_ne (by omega)]; exact h4 i hi
theorem mpg_B {p : Nat → Int32} {A : sA} (h : mpg p A) {f g : Nat} (hf : f < sN A) (hg : g < sN A) (hb : sB A < 4) : mpg (upd (upd (upd p (27 + 2 * sB A) (nI f)) (27 + 2 * sB A + 1) (nI g)) 35 (nI (sB A + 1))) (aB A f g) := by
  obtain ⟨h1, h2, h3, h4, h5⟩ := h
  have n6 := h5.1
  have g4 := h5.2.2.1
  refine ⟨fun i hi => ?_, fun i hi => ?_, ?_, fun i hi => ?_, sOk_B h5 hf hg hb⟩
  · have hi : i < sN A := hi
    rw [u_ne (by omega), u_ne (by omega), u_ne (by omega), u_ne (by omega), u_ne (by omega), u_ne (by omega), u_ne (by omega), u_ne (by omega), u_ne (by omega)]; exact h1 i hi
  · have hi : i < sG A := hi
    rw [u_ne (by omega), u_ne (by omega), u_ne (by omega), u_ne (by omega), u_ne (by omega), u_ne (by omega)]; exact h2 i hi
  · rw [u_at]; rfl
  · have hi : i < sB A + 1 := hi
    show _ = nI (updN (sC A) (sB A) f i) ∧ _ = nI (updN (sE A) (sB A) g i)
    by_cases q : i = sB A
    · rw [q, updN_at, updN_at, u_ne (by omega), u_ne (by omega), u_at, u_ne (by omega), u_at]
      exact ⟨rfl, rfl⟩
    · rw [updN_ne _ _ q, updN_ne _ _ q, u_ne (by omega), u_ne (by omega), u_ne (by omega), u_ne (by omega), u_ne (by omega), u_ne (by omega)]
      exact h4 i (by omega)
theorem mpg_D {p : Nat → Int32} {A : sA} (h : mpg p A) {b : Nat} (hb : b < sB A) : mpg (upd (fb_put p (fun k => p (27 + 2 * b + k + 2)) (27 + 2 * b) (6 - 2 * b)) 35 (nI (sB A - 1))) (aD A b) := by
  obtain ⟨h1, h2, h3, h4, h5⟩ := h
  have n6 := h5.1
  have g4 := h5.2.2.1
  have b4 := h5.2.2.2.2.1
  refine ⟨fun i hi => ?_, fun i hi => ?_, ?_, fun i hi => ?_, sOk_D h5 b⟩
  · have hi : i < sN A := hi
    rw [u_ne (by omega), u_ne (by omega), u_ne (by omega), fb_put_out (by omega), fb_put_out (by omega), fb_put_out (by omega)]; exact h1 i hi
  · have hi : i < sG A := hi
    rw [u_ne (by omega), u_ne (by omega), fb_put_out (by omega), fb_put_out (by omega)]; exact h2 i hi
  · rw [u_at]; rfl
  · have hi : i < sB A - 1 := hi
    show _ = nI (if b ≤ i then sC A (i + 1) else sC A i) ∧ _ = nI (if b ≤ i then sE A (i + 1) else sE A i)
    rw [u_ne (by omega), u_ne (by omega)]
    by_cases q : b ≤ i
    · rw [if_pos q, if_pos q, fb_put_in (by omega) (by omega), fb_put_in (by omega) (by omega)]
      have := h4 (i + 1) (by omega)
      rw [show 27 + 2 * b + (27 + 2 * i - (27 + 2 * b)) + 2 = 27 + 2 * (i + 1) by omega, show 27 + 2 * b + (27 + 2 * i + 1 - (27 + 2 * b)) + 2 = 27 + 2 * (i + 1) + 1 by omega]
      exact this
    · rw [if_neg q, if_neg q, fb_put_out (by omega), fb_put_out (by omega)]
      exact h4 i (by omega)
section MD
variable {d : Nat} {S : sT} {w : mm_W} {W : MT} {A : sA}
theorem e2_puts_f (a v l : Int32) : mm_e (d + 1) yX8_puts mX8_puts [.ref 0, .int (bI false), .int a, .int v, .int l] (wM W) (mm_q (some (.int (-1))) (wM W)) := by
  refine e_of [some (.ref 0), some (.int (bI false)), some (.int a), some (.int v), some (.int l), none] rfl (by decide) rfl rfl rfl ?_
  refine r_iload_n (i := 1) 1 dX8_puts_0 rfl rfl rfl ?_
  refine r_if_ne 6 4 dX8_puts_1 rfl rfl (fun h1 => absurd rfl h1) (fun h1 => ?_)
  refine r_iconst (v := (-1)) 5 dX8_puts_4 rfl rfl ?_
  exact r_reti dX8_puts_5 rfl (by first | rfl | exact bI_nar _) ⟨Nat.le_refl _, Nat.le_refl _⟩ (fun _ => rfl) (⟨rfl, rfl⟩)
theorem e2_puts_t {k : Nat} (hk : k < 148) (v l : Int32) : mm_e (d + 1) yX8_puts mX8_puts [.ref 0, .int (bI true), .int (nI k), .int v, .int l] (wM W) (mm_q (some (.int (W.1.1 k + l))) (wM (zSt W (upd W.1.1 k (v - l))))) := by
  have hin : vp_in (nI k) 148 := vp_in_nI hk (by decide)
  have ec := nI_clamp (n := k) (by omega)
  refine e_of [some (.ref 0), some (.int (bI true)), some (.int (nI k)), some (.int v), some (.int l), none] rfl (by decide) rfl rfl rfl ?_
  refine r_iload_n (i := 1) 1 dX8_puts_0 rfl rfl rfl ?_
  refine r_if_ne 6 4 dX8_puts_1 rfl rfl (fun h1 => ?_) (fun h1 => absurd h1 (by decide))
  refine r_aload_n (i := 0) 7 dX8_puts_6 rfl rfl rfl ?_
  refine r_getf 10 dX8_puts_7 rfl fl_X8_7 rfl rfl ?_
  refine r_iload_n (i := 2) 11 dX8_puts_10 rfl rfl rfl ?_
  refine r_iald 12 dX8_puts_11 rfl rfl (by assumption) ?_
  rw [ec]
  refine r_iload (i := 4) 14 dX8_puts_12 rfl rfl ?_
  refine r_iadd 15 dX8_puts_14 rfl ?_
  refine r_istore (i := 5) 17 dX8_puts_15 rfl rfl ?_
  refine r_aload_n (i := 0) 18 dX8_puts_17 rfl rfl rfl ?_
  refine r_getf 21 dX8_puts_18 rfl fl_X8_7 rfl rfl ?_
  refine r_iload_n (i := 2) 22 dX8_puts_21 rfl rfl rfl ?_
  refine r_iload_n (i := 3) 23 dX8_puts_22 rfl rfl rfl ?_
  refine r_iload (i := 4) 25 dX8_puts_23 rfl rfl ?_
  refine r_isub 26 dX8_puts_25 rfl ?_
  refine r_iast 27 dX8_puts_26 rfl rfl (by assumption) ?_
  refine r_iload (i := 5) 29 dX8_puts_27 rfl rfl ?_
  exact r_reti dX8_puts_29 rfl (by first | rfl | exact bI_nar _) ⟨Nat.le_refl _, Nat.le_refl _⟩ (fun _ => rfl) (⟨rfl, by rw [ec]; rfl⟩)
theorem e2_becomes_f {v : Int32} (hv : inb (nI 2) v = false) (f : Int32) : mm_e (d + 2) yX8_becomes mX8_becomes [.ref 0, .int f, .int v] (wM W) (mm_q (some (.int (-1))) (wM W)) := by
  refine e_of [some (.ref 0), some (.int f), some (.int v), none] rfl (by decide) rfl rfl rfl ?_
  refine r_iload_n (i := 2) 1 dX8_becomes_0 rfl rfl rfl ?_
  refine r_i2l 2 dX8_becomes_1 rfl ?_
  refine r_lconst (v := 0) 3 dX8_becomes_2 rfl rfl ?_
  refine r_lconst (v := 1) 4 dX8_becomes_3 rfl rfl ?_
  refine r_callSi [] 7 dX8_becomes_4 rfl ykX8_in lk_X8_46 (e_in0 v (n := 2) (by decide) (by decide)) rfl rfl rfl ⟨Nat.le_refl _, Nat.le_refl _⟩ ?_
  rw [hv]
  refine r_if_ne 12 10 dX8_becomes_7 rfl rfl (fun h7 => absurd rfl h7) (fun h7 => ?_)
  refine r_iconst (v := (-1)) 11 dX8_becomes_10 rfl rfl ?_
  exact r_reti dX8_becomes_11 rfl (by first | rfl | exact bI_nar _) ⟨Nat.le_refl _, Nat.le_refl _⟩ (fun _ => rfl) (⟨rfl, rfl⟩)
theorem e2_becomes_t {x i v : Nat} (hx : W.1.1 18 = nI x) (hxl : x < 64) (hi : i < 6) (hv : v < 2) : mm_e (d + 2) yX8_becomes mX8_becomes [.ref 0, .int (nI i), .int (nI v)] (wM W) (mm_q (some (.int (nI (tb x i)))) (wM (zSt W (upd W.1.1 18 (nI (bitTo x i v)))))) := by
  have i18 : vp_in (18 : Int32) 148 := vp_in_nI (n := 18) (by decide) (by decide)
  have ex : W.1.1 (18 : Int32).toNatClampNeg = nI x := hx
  refine e_of [some (.ref 0), some (.int (nI i)), some (.int (nI v)), none] rfl (by decide) rfl rfl rfl ?_
  refine r_iload_n (i := 2) 1 dX8_becomes_0 rfl rfl rfl ?_
  refine r_i2l 2 dX8_becomes_1 rfl ?_
  refine r_lconst (v := 0) 3 dX8_becomes_2 rfl rfl ?_
  refine r_lconst (v := 1) 4 dX8_becomes_3 rfl rfl ?_
  refine r_callSi [] 7 dX8_becomes_4 rfl ykX8_in lk_X8_46 (e_in0 (nI v) (n := 2) (by decide) (by decide)) rfl rfl rfl ⟨Nat.le_refl _, Nat.le_refl _⟩ ?_
  rw [nI_inb hv (by decide)]
  refine r_if_ne 12 10 dX8_becomes_7 rfl rfl (fun h7 => ?_) (fun h7 => absurd h7 (by decide))
  refine r_aload_n (i := 0) 13 dX8_becomes_12 rfl rfl rfl ?_
  refine r_getf 16 dX8_becomes_13 rfl fl_X8_7 rfl rfl ?_
  refine r_bipush (v := 18) 18 dX8_becomes_16 rfl rfl ?_
  refine r_iald 19 dX8_becomes_18 rfl rfl (by assumption) ?_
  rw [ex]
  refine r_iload_n (i := 1) 20 dX8_becomes_19 rfl rfl rfl ?_
  refine r_ishr 21 dX8_becomes_20 rfl ?_
  refine r_iconst (v := 1) 22 dX8_becomes_21 rfl rfl ?_
  refine r_iand 23 dX8_becomes_22 rfl ?_
  rw [n_bit (by omega) (by omega)]
  refine r_istore_n (i := 3) 24 dX8_becomes_23 rfl rfl rfl ?_
  refine r_aload_n (i := 0) 25 dX8_becomes_24 rfl rfl rfl ?_
  refine r_getf 28 dX8_becomes_25 rfl fl_X8_7 rfl rfl ?_
  refine r_bipush (v := 18) 30 dX8_becomes_28 rfl rfl ?_
  refine r_aload_n (i := 0) 31 dX8_becomes_30 rfl rfl rfl ?_
  refine r_getf 34 dX8_becomes_31 rfl fl_X8_7 rfl rfl ?_
  refine r_bipush (v := 18) 36 dX8_becomes_34 rfl rfl ?_
  refine r_iald 37 dX8_becomes_36 rfl rfl (by assumption) ?_
  rw [ex]
  refine r_iconst (v := 1) 38 dX8_becomes_37 rfl rfl ?_
  refine r_iload_n (i := 1) 39 dX8_becomes_38 rfl rfl rfl ?_
  refine r_ishl 40 dX8_becomes_39 rfl ?_
  refine r_iconst (v := (-1)) 41 dX8_becomes_40 rfl rfl ?_
  refine r_ixor 42 dX8_becomes_41 rfl ?_
  refine r_iand 43 dX8_becomes_42 rfl ?_
  refine r_iload_n (i := 2) 44 dX8_becomes_43 rfl rfl rfl ?_
  refine r_iload_n (i := 1) 45 dX8_becomes_44 rfl rfl rfl ?_
  refine r_ishl 46 dX8_becomes_45 rfl ?_
  refine r_ior 47 dX8_becomes_46 rfl ?_
  rw [bitsB x hxl i hi v hv]
  refine r_iast 48 dX8_becomes_47 rfl rfl (by assumption) ?_
  refine r_iload_n (i := 3) 49 dX8_becomes_48 rfl rfl rfl ?_
  exact r_reti dX8_becomes_49 rfl (by first | rfl | exact bI_nar _) ⟨Nat.le_refl _, Nat.le_refl _⟩ (fun _ => rfl) (⟨rfl, rfl⟩)
theorem q_alter (hT : tOk S) (hC : CM S w) (f : Int32) (what : Int32) (v : Int32) : mm_e (d + 3) yX8_alter mX8_alter [.ref 0, .int f, .int what, .int v] w (QM (s_alter S f what v).1 (s_alter S f what v).2) := by
  have hC0 := hC
  obtain ⟨W, rfl, hR⟩ := hC
  obtain ⟨hM, ⟨hx, hy⟩, ⟨ht, hb⟩, hf, ⟨v1, v2⟩, ⟨hk0, hk1⟩, hI, hH, hn⟩ := id hR
  have h6 := hM.n6
  have h4 := hM.g4
  have h5 := hM.b4
  have p6 := p2_le hM.n6
  have l0 := hM.lt31 hT.2.1
  have i18 : vp_in (18 : Int32) 148 := vp_in_nI (n := 18) (by decide) (by decide)
  have i35 : vp_in (35 : Int32) 148 := vp_in_nI (n := 35) (by decide) (by decide)
  have i36 : vp_in (36 : Int32) 148 := vp_in_nI (n := 36) (by decide) (by decide)
  have ex : W.1.1 (18 : Int32).toNatClampNeg = nI (tX S) := hx
  have ey : W.1.1 (36 : Int32).toNatClampNeg = nI (tY S) := hy
  have eb : W.1.1 (35 : Int32).toNatClampNeg = nI (sB (tA S)) := hM.bn
  refine e_of [some (.ref 0), some (.int f), some (.int what), some (.int v)] rfl (by decide) rfl rfl rfl ?_
  rw [s_alter]
  cases g : inb (nI (sN (tA S))) f with
  | false =>
    refine r_aload_n (i := 0) 1 dX8_alter_0 rfl rfl rfl ?_
    refine r_iload_n (i := 1) 2 dX8_alter_1 rfl rfl rfl ?_
    refine r_callMi 5 dX8_alter_2 rfl ykX8_isThing lk_X8_160 (e2_isThing hM f) rfl rfl rfl rfl rfl rfl ⟨Nat.le_refl _, Nat.le_refl _⟩ ?_
    rw [g]
    refine r_if_ne 10 8 dX8_alter_5 rfl rfl (fun h5 => absurd rfl h5) (fun h5 => ?_)
    refine r_iconst (v := (-1)) 9 dX8_alter_8 rfl rfl ?_
    exact r_reti dX8_alter_9 rfl (by first | rfl | exact bI_nar _) ⟨Nat.le_refl _, Nat.le_refl _⟩ (fun _ => rfl) (⟨rfl, hC0⟩)
  | true =>
    obtain ⟨i, hi, rfl⟩ := inb_nI (by omega) g
    obtain ⟨k1, k2, k3, k4, k5, k6⟩ := hM.at hi
    rw [nI_clamp (n := i) (by omega), Bool.true_and]
    refine r_aload_n (i := 0) 1 dX8_alter_0 rfl rfl rfl ?_
    refine r_iload_n (i := 1) 2 dX8_alter_1 rfl rfl rfl ?_
    refine r_callMi 5 dX8_alter_2 rfl ykX8_isThing lk_X8_160 (e2_isThing hM (nI i)) rfl rfl rfl rfl rfl rfl ⟨Nat.le_refl _, Nat.le_refl _⟩ ?_
    rw [g]
    refine r_if_ne 10 8 dX8_alter_5 rfl rfl (fun h5 => ?_) (fun h5 => absurd h5 (by decide))
    refine r_iload_n (i := 2) 11 dX8_alter_10 rfl rfl rfl ?_
    rcases pk_ix what (n := 4) (by decide) with q | q | ⟨k, hk, rfl⟩
    · rw [ix_neg q]
      refine r_tabOut 96 dX8_alter_11 (Or.inl (sw_neg q)) rfl ?_
      refine r_iconst (v := (-1)) 97 dX8_alter_96 rfl rfl ?_
      exact r_reti dX8_alter_97 rfl (by first | rfl | exact bI_nar _) ⟨Nat.le_refl _, Nat.le_refl _⟩ (fun _ => rfl) ((by split <;> exact ⟨rfl, hC0⟩))
    · rw [ix_big q]
      refine r_tabOut 96 dX8_alter_11 (Or.inr (sw_big (n := 3) (by decide) q)) rfl ?_
      refine r_iconst (v := (-1)) 97 dX8_alter_96 rfl rfl ?_
      exact r_reti dX8_alter_97 rfl (by first | rfl | exact bI_nar _) ⟨Nat.le_refl _, Nat.le_refl _⟩ (fun _ => rfl) ((by split <;> exact ⟨rfl, hC0⟩))
    · rw [ix_k hk (by decide)]
      rcases (by omega : k = 0 ∨ k = 1 ∨ k = 2 ∨ k = 3) with rfl | rfl | rfl | rfl
      · refine r_tabIn 40 dX8_alter_11 (by decide) (by decide) rfl rfl ?_
        rw [mbc_0]
        cases g2 : inb (nI 5) v with
        | false =>
          refine r_aload_n (i := 0) 41 dX8_alter_40 rfl rfl rfl ?_
          refine r_iload_n (i := 3) 42 dX8_alter_41 rfl rfl rfl ?_
          refine r_i2l 43 dX8_alter_42 rfl ?_
          refine r_lconst (v := 0) 44 dX8_alter_43 rfl rfl ?_
          refine r_ldc2 47 dX8_alter_44 rfl k_X8_171 ?_
          refine r_callSi [] 50 dX8_alter_47 rfl ykX8_in lk_X8_46 (e_in0 v (n := 5) (by decide) (by decide)) rfl rfl rfl ⟨Nat.le_refl _, Nat.le_refl _⟩ ?_
          rw [g2]
          refine r_iload_n (i := 1) 51 dX8_alter_50 rfl rfl rfl ?_
          refine r_iload_n (i := 3) 52 dX8_alter_51 rfl rfl rfl ?_
          refine r_iconst (v := 0) 53 dX8_alter_52 rfl rfl ?_
          refine r_callMi 56 dX8_alter_53 rfl ykX8_puts lk_X8_173 (e2_puts_f _ _ _) rfl rfl rfl rfl rfl rfl ⟨Nat.le_refl _, Nat.le_refl _⟩ ?_
          exact r_reti dX8_alter_56 rfl (by first | rfl | exact bI_nar _) ⟨Nat.le_refl _, Nat.le_refl _⟩ (fun _ => rfl) (⟨rfl, hC0⟩)
        | true =>
          obtain ⟨j, hj, rfl⟩ := inb_nI (n := 5) (by decide) g2
          rw [nI_clamp (n := j) (by omega)]
          refine r_aload_n (i := 0) 41 dX8_alter_40 rfl rfl rfl ?_
          refine r_iload_n (i := 3) 42 dX8_alter_41 rfl rfl rfl ?_
          refine r_i2l 43 dX8_alter_42 rfl ?_
          refine r_lconst (v := 0) 44 dX8_alter_43 rfl rfl ?_
          refine r_ldc2 47 dX8_alter_44 rfl k_X8_171 ?_
          refine r_callSi [] 50 dX8_alter_47 rfl ykX8_in lk_X8_46 (e_in0 (nI j) (n := 5) (by decide) (by decide)) rfl rfl rfl ⟨Nat.le_refl _, Nat.le_refl _⟩ ?_
          rw [g2]
          refine r_iload_n (i := 1) 51 dX8_alter_50 rfl rfl rfl ?_
          refine r_iload_n (i := 3) 52 dX8_alter_51 rfl rfl rfl ?_
          refine r_iconst (v := 0) 53 dX8_alter_52 rfl rfl ?_
          refine r_callMu 56 dX8_alter_53 rfl ykX8_puts lk_X8_173 (e2_puts_t (by omega) _ _) rfl rfl rfl rfl rfl rfl ⟨Nat.le_refl _, Nat.le_refl _⟩ ?_
          exact r_reti dX8_alter_56 rfl (by first | rfl | exact bI_nar _) ⟨Nat.le_refl _, Nat.le_refl _⟩ (fun _ => rfl) (⟨by rw [k1, Int32.add_zero] <;> rfl, zSt W (upd W.1.1 i (nI j - 0)), rfl, by rw [Int32.sub_zero]; exact relM_A hR (mpg_K hM.2.2 hi (by omega)) rfl rfl (fun z hz => u_ne (by omega))⟩)
      · refine r_tabIn 57 dX8_alter_11 (by decide) (by decide) rfl rfl ?_
        rw [mbc_1]
        cases g2 : inb (nI (sN (tA S))) v with
        | false =>
          refine r_aload_n (i := 0) 58 dX8_alter_57 rfl rfl rfl ?_
          refine r_aload_n (i := 0) 59 dX8_alter_58 rfl rfl rfl ?_
          refine r_iload_n (i := 3) 60 dX8_alter_59 rfl rfl rfl ?_
          refine r_callMi 63 dX8_alter_60 rfl ykX8_isThing lk_X8_160 (e2_isThing hM v) rfl rfl rfl rfl rfl rfl ⟨Nat.le_refl _, Nat.le_refl _⟩ ?_
          rw [g2]
          refine r_bipush (v := 6) 65 dX8_alter_63 rfl rfl ?_
          refine r_iload_n (i := 1) 66 dX8_alter_65 rfl rfl rfl ?_
          refine r_iadd 67 dX8_alter_66 rfl ?_
          refine r_iload_n (i := 3) 68 dX8_alter_67 rfl rfl rfl ?_
          refine r_iload_n (i := 1) 69 dX8_alter_68 rfl rfl rfl ?_
          refine r_callMi 72 dX8_alter_69 rfl ykX8_puts lk_X8_173 (e2_puts_f _ _ _) rfl rfl rfl rfl rfl rfl ⟨Nat.le_refl _, Nat.le_refl _⟩ ?_
          exact r_reti dX8_alter_72 rfl (by first | rfl | exact bI_nar _) ⟨Nat.le_refl _, Nat.le_refl _⟩ (fun _ => rfl) (⟨rfl, hC0⟩)
        | true =>
          obtain ⟨j, hj, rfl⟩ := inb_nI (by omega) g2
          rw [nI_clamp (n := j) (by omega)]
          refine r_aload_n (i := 0) 58 dX8_alter_57 rfl rfl rfl ?_
          refine r_aload_n (i := 0) 59 dX8_alter_58 rfl rfl rfl ?_
          refine r_iload_n (i := 3) 60 dX8_alter_59 rfl rfl rfl ?_
          refine r_callMi 63 dX8_alter_60 rfl ykX8_isThing lk_X8_160 (e2_isThing hM (nI j)) rfl rfl rfl rfl rfl rfl ⟨Nat.le_refl _, Nat.le_refl _⟩ ?_
          rw [g2]
          refine r_bipush (v := 6) 65 dX8_alter_63 rfl rfl ?_
          refine r_iload_n (i := 1) 66 dX8_alter_65 rfl rfl rfl ?_
          refine r_iadd 67 dX8_alter_66 rfl ?_
          rw [show (6 : Int32) + nI i = nI (6 + i) from nI_add 6 i]
          refine r_iload_n (i := 3) 68 dX8_alter_67 rfl rfl rfl ?_
          refine r_iload_n (i := 1) 69 dX8_alter_68 rfl rfl rfl ?_
          refine r_callMu 72 dX8_alter_69 rfl ykX8_puts lk_X8_173 (e2_puts_t (k := 6 + i) (by omega) _ _) rfl rfl rfl rfl rfl rfl ⟨Nat.le_refl _, Nat.le_refl _⟩ ?_
          exact r_reti dX8_alter_72 rfl (by first | rfl | exact bI_nar _) ⟨Nat.le_refl _, Nat.le_refl _⟩ (fun _ => rfl) (⟨by rw [k2] <;> rfl, zSt W (upd W.1.1 (6 + i) (nI j - nI i)), rfl, relM_A hR (mpg_F hM.2.2 hi hj) rfl rfl (fun z hz => u_ne (by omega))⟩)
      · refine r_tabIn 73 dX8_alter_11 (by decide) (by decide) rfl rfl ?_
        rw [mbc_2]
        cases g2 : inb (nI (sN (tA S))) v with
        | false =>
          refine r_aload_n (i := 0) 74 dX8_alter_73 rfl rfl rfl ?_
          refine r_aload_n (i := 0) 75 dX8_alter_74 rfl rfl rfl ?_
          refine r_iload_n (i := 3) 76 dX8_alter_75 rfl rfl rfl ?_
          refine r_callMi 79 dX8_alter_76 rfl ykX8_isThing lk_X8_160 (e2_isThing hM v) rfl rfl rfl rfl rfl rfl ⟨Nat.le_refl _, Nat.le_refl _⟩ ?_
          rw [g2]
          refine r_bipush (v := 12) 81 dX8_alter_79 rfl rfl ?_
          refine r_iload_n (i := 1) 82 dX8_alter_81 rfl rfl rfl ?_
          refine r_iadd 83 dX8_alter_82 rfl ?_
          refine r_iload_n (i := 3) 84 dX8_alter_83 rfl rfl rfl ?_
          refine r_iload_n (i := 1) 85 dX8_alter_84 rfl rfl rfl ?_
          refine r_callMi 88 dX8_alter_85 rfl ykX8_puts lk_X8_173 (e2_puts_f _ _ _) rfl rfl rfl rfl rfl rfl ⟨Nat.le_refl _, Nat.le_refl _⟩ ?_
          exact r_reti dX8_alter_88 rfl (by first | rfl | exact bI_nar _) ⟨Nat.le_refl _, Nat.le_refl _⟩ (fun _ => rfl) (⟨rfl, hC0⟩)
        | true =>
          obtain ⟨j, hj, rfl⟩ := inb_nI (by omega) g2
          rw [nI_clamp (n := j) (by omega)]
          refine r_aload_n (i := 0) 74 dX8_alter_73 rfl rfl rfl ?_
          refine r_aload_n (i := 0) 75 dX8_alter_74 rfl rfl rfl ?_
          refine r_iload_n (i := 3) 76 dX8_alter_75 rfl rfl rfl ?_
          refine r_callMi 79 dX8_alter_76 rfl ykX8_isThing lk_X8_160 (e2_isThing hM (nI j)) rfl rfl rfl rfl rfl rfl ⟨Nat.le_refl _, Nat.le_refl _⟩ ?_
          rw [g2]
          refine r_bipush (v := 12) 81 dX8_alter_79 rfl rfl ?_
          refine r_iload_n (i := 1) 82 dX8_alter_81 rfl rfl rfl ?_
          refine r_iadd 83 dX8_alter_82 rfl ?_
          rw [show (12 : Int32) + nI i = nI (12 + i) from nI_add 12 i]
          refine r_iload_n (i := 3) 84 dX8_alter_83 rfl rfl rfl ?_
          refine r_iload_n (i := 1) 85 dX8_alter_84 rfl rfl rfl ?_
          refine r_callMu 88 dX8_alter_85 rfl ykX8_puts lk_X8_173 (e2_puts_t (k := 12 + i) (by omega) _ _) rfl rfl rfl rfl rfl rfl ⟨Nat.le_refl _, Nat.le_refl _⟩ ?_
          exact r_reti dX8_alter_88 rfl (by first | rfl | exact bI_nar _) ⟨Nat.le_refl _, Nat.le_refl _⟩ (fun _ => rfl) (⟨by rw [k3] <;> rfl, zSt W (upd W.1.1 (12 + i) (nI j - nI i)), rfl, relM_A hR (mpg_S hM.2.2 hi hj) rfl rfl (fun z hz => u_ne (by omega))⟩)
      · refine r_tabIn 89 dX8_alter_11 (by decide) (by decide) rfl rfl ?_
        rw [mbc_3]
        cases g2 : inb (nI 2) v with
        | false =>
          refine r_aload_n (i := 0) 90 dX8_alter_89 rfl rfl rfl ?_
          refine r_iload_n (i := 1) 91 dX8_alter_90 rfl rfl rfl ?_
          refine r_iload_n (i := 3) 92 dX8_alter_91 rfl rfl rfl ?_
          refine r_callMi 95 dX8_alter_92 rfl ykX8_becomes lk_X8_177 (e2_becomes_f g2 _) rfl rfl rfl rfl rfl rfl ⟨Nat.le_refl _, Nat.le_refl _⟩ ?_
          exact r_reti dX8_alter_95 rfl (by first | rfl | exact bI_nar _) ⟨Nat.le_refl _, Nat.le_refl _⟩ (fun _ => rfl) (⟨rfl, hC0⟩)
        | true =>
          obtain ⟨j, hj, rfl⟩ := inb_nI (n := 2) (by decide) g2
          have x64 : tX S < 64 := Nat.lt_of_lt_of_le hT.2.1 p6
          rw [nI_clamp (n := j) (by omega)]
          refine r_aload_n (i := 0) 90 dX8_alter_89 rfl rfl rfl ?_
          refine r_iload_n (i := 1) 91 dX8_alter_90 rfl rfl rfl ?_
          refine r_iload_n (i := 3) 92 dX8_alter_91 rfl rfl rfl ?_
          refine r_callMu 95 dX8_alter_92 rfl ykX8_becomes lk_X8_177 (e2_becomes_t hx x64 (by omega) hj) rfl rfl rfl rfl rfl rfl ⟨Nat.le_refl _, Nat.le_refl _⟩ ?_
          exact r_reti dX8_alter_95 rfl (by first | rfl | exact bI_nar _) ⟨Nat.le_refl _, Nat.le_refl _⟩ (fun _ => rfl) (⟨rfl, zSt W (upd W.1.1 18 (nI (bitTo (tX S) i j))), rfl, relM_XY hR (fun z h1 h2 h3 => u_ne h2) u_at hy⟩)
theorem q_hire (hT : tOk S) (hC : CM S w) (g : Int32) (what : Int32) (v : Int32) : mm_e (d + 3) yX8_hire mX8_hire [.ref 0, .int g, .int what, .int v] w (QM (s_hire S g what v).1 (s_hire S g what v).2) := by
  have hC0 := hC
  obtain ⟨W, rfl, hR⟩ := hC
  obtain ⟨hM, ⟨hx, hy⟩, ⟨ht, hb⟩, hf, ⟨v1, v2⟩, ⟨hk0, hk1⟩, hI, hH, hn⟩ := id hR
  have h6 := hM.n6
  have h4 := hM.g4
  have h5 := hM.b4
  have p6 := p2_le hM.n6
  have l0 := hM.lt31 hT.2.1
  have i18 : vp_in (18 : Int32) 148 := vp_in_nI (n := 18) (by decide) (by decide)
  have i35 : vp_in (35 : Int32) 148 := vp_in_nI (n := 35) (by decide) (by decide)
  have i36 : vp_in (36 : Int32) 148 := vp_in_nI (n := 36) (by decide) (by decide)
  have ex : W.1.1 (18 : Int32).toNatClampNeg = nI (tX S) := hx
  have ey : W.1.1 (36 : Int32).toNatClampNeg = nI (tY S) := hy
  have eb : W.1.1 (35 : Int32).toNatClampNeg = nI (sB (tA S)) := hM.bn
  refine e_of [some (.ref 0), some (.int g), some (.int what), some (.int v)] rfl (by decide) rfl rfl rfl ?_
  rw [s_hire]
  have bad : QM (-1) S (some (.int (-1))) (wM W) := ⟨rfl, hC0⟩
  cases hg : inb (nI (sG (tA S))) g with
  | false =>
    refine r_aload_n (i := 0) 1 dX8_hire_0 rfl rfl rfl ?_
    refine r_aload_n (i := 0) 2 dX8_hire_1 rfl rfl rfl ?_
    refine r_iload_n (i := 1) 3 dX8_hire_2 rfl rfl rfl ?_
    refine r_callMi 6 dX8_hire_3 rfl ykX8_isGuest lk_X8_163 (e2_isGuest hM g) rfl rfl rfl rfl rfl rfl ⟨Nat.le_refl _, Nat.le_refl _⟩ ?_
    rw [hg]
    refine r_if_eq 42 9 dX8_hire_6 rfl rfl (fun h6 => ?_) (fun h6 => absurd rfl h6)
    refine r_iconst (v := 0) 43 dX8_hire_42 rfl rfl ?_
    refine r_bipush (v := 19) 45 dX8_hire_43 rfl rfl ?_
    refine r_iconst (v := 4) 46 dX8_hire_45 rfl rfl ?_
    refine r_iload_n (i := 2) 47 dX8_hire_46 rfl rfl rfl ?_
    refine r_imul 48 dX8_hire_47 rfl ?_
    refine r_iadd 49 dX8_hire_48 rfl ?_
    refine r_iload_n (i := 1) 50 dX8_hire_49 rfl rfl rfl ?_
    refine r_iadd 51 dX8_hire_50 rfl ?_
    refine r_iload_n (i := 3) 52 dX8_hire_51 rfl rfl rfl ?_
    refine r_iconst (v := 0) 53 dX8_hire_52 rfl rfl ?_
    refine r_callMi 56 dX8_hire_53 rfl ykX8_puts lk_X8_173 (e2_puts_f _ _ _) rfl rfl rfl rfl rfl rfl ⟨Nat.le_refl _, Nat.le_refl _⟩ ?_
    exact r_reti dX8_hire_56 rfl (by first | rfl | exact bI_nar _) ⟨Nat.le_refl _, Nat.le_refl _⟩ (fun _ => rfl) (bad)
  | true =>
    obtain ⟨i, hi, rfl⟩ := inb_nI (by omega) hg
    obtain ⟨k1, k2, k3, k4⟩ := hM.gat hi
    have hi0 : i < 4 := Nat.lt_of_lt_of_le hi h4
    rw [nI_clamp (n := i) (by omega)]
    rcases pk_ix what (n := 2) (by decide) with q | q | ⟨k, hk, rfl⟩
    · have n0 : ¬ what = 0 := fun z => by rw [z] at q; exact absurd q (by decide)
      have n1 : ¬ what = 1 := fun z => by rw [z] at q; exact absurd q (by decide)
      rw [ix_neg q]
      refine r_aload_n (i := 0) 1 dX8_hire_0 rfl rfl rfl ?_
      refine r_aload_n (i := 0) 2 dX8_hire_1 rfl rfl rfl ?_
      refine r_iload_n (i := 1) 3 dX8_hire_2 rfl rfl rfl ?_
      refine r_callMi 6 dX8_hire_3 rfl ykX8_isGuest lk_X8_163 (e2_isGuest hM (nI i)) rfl rfl rfl rfl rfl rfl ⟨Nat.le_refl _, Nat.le_refl _⟩ ?_
      rw [hg]
      refine r_if_eq 42 9 dX8_hire_6 rfl rfl (fun h6 => absurd h6 (by decide)) (fun h6 => ?_)
      refine r_iload_n (i := 2) 10 dX8_hire_9 rfl rfl rfl ?_
      refine r_if_ne 21 13 dX8_hire_10 rfl rfl (fun h10 => ?_) (fun h10 => absurd h10 n0)
      refine r_iload_n (i := 2) 22 dX8_hire_21 rfl rfl rfl ?_
      refine r_iconst (v := 1) 23 dX8_hire_22 rfl rfl ?_
      refine r_icmp_ne 42 26 dX8_hire_23 rfl rfl (fun h23 => ?_) (fun h23 => absurd h23 n1)
      refine r_iconst (v := 0) 43 dX8_hire_42 rfl rfl ?_
      refine r_bipush (v := 19) 45 dX8_hire_43 rfl rfl ?_
      refine r_iconst (v := 4) 46 dX8_hire_45 rfl rfl ?_
      refine r_iload_n (i := 2) 47 dX8_hire_46 rfl rfl rfl ?_
      refine r_imul 48 dX8_hire_47 rfl ?_
      refine r_iadd 49 dX8_hire_48 rfl ?_
      refine r_iload_n (i := 1) 50 dX8_hire_49 rfl rfl rfl ?_
      refine r_iadd 51 dX8_hire_50 rfl ?_
      refine r_iload_n (i := 3) 52 dX8_hire_51 rfl rfl rfl ?_
      refine r_iconst (v := 0) 53 dX8_hire_52 rfl rfl ?_
      refine r_callMi 56 dX8_hire_53 rfl ykX8_puts lk_X8_173 (e2_puts_f _ _ _) rfl rfl rfl rfl rfl rfl ⟨Nat.le_refl _, Nat.le_refl _⟩ ?_
      exact r_reti dX8_hire_56 rfl (by first | rfl | exact bI_nar _) ⟨Nat.le_refl _, Nat.le_refl _⟩ (fun _ => rfl) (bad)
    · have n0 : ¬ what = 0 := fun z => by rw [z] at q; exact absurd q (by decide)
      have n1 : ¬ what = 1 := fun z => by rw [z] at q; exact absurd q (by decide)
      rw [ix_big q]
      refine r_aload_n (i := 0) 1 dX8_hire_0 rfl rfl rfl ?_
      refine r_aload_n (i := 0) 2 dX8_hire_1 rfl rfl rfl ?_
      refine r_iload_n (i := 1) 3 dX8_hire_2 rfl rfl rfl ?_
      refine r_callMi 6 dX8_hire_3 rfl ykX8_isGuest lk_X8_163 (e2_isGuest hM (nI i)) rfl rfl rfl rfl rfl rfl ⟨Nat.le_refl _, Nat.le_refl _⟩ ?_
      rw [hg]
      refine r_if_eq 42 9 dX8_hire_6 rfl rfl (fun h6 => absurd h6 (by decide)) (fun h6 => ?_)
      refine r_iload_n (i := 2) 10 dX8_hire_9 rfl rfl rfl ?_
      refine r_if_ne 21 13 dX8_hire_10 rfl rfl (fun h10 => ?_) (fun h10 => absurd h10 n0)
      refine r_iload_n (i := 2) 22 dX8_hire_21 rfl rfl rfl ?_
      refine r_iconst (v := 1) 23 dX8_hire_22 rfl rfl ?_
      refine r_icmp_ne 42 26 dX8_hire_23 rfl rfl (fun h23 => ?_) (fun h23 => absurd h23 n1)
      refine r_iconst (v := 0) 43 dX8_hire_42 rfl rfl ?_
      refine r_bipush (v := 19) 45 dX8_hire_43 rfl rfl ?_
      refine r_iconst (v := 4) 46 dX8_hire_45 rfl rfl ?_
      refine r_iload_n (i := 2) 47 dX8_hire_46 rfl rfl rfl ?_
      refine r_imul 48 dX8_hire_47 rfl ?_
      refine r_iadd 49 dX8_hire_48 rfl ?_
      refine r_iload_n (i := 1) 50 dX8_hire_49 rfl rfl rfl ?_
      refine r_iadd 51 dX8_hire_50 rfl ?_
      refine r_iload_n (i := 3) 52 dX8_hire_51 rfl rfl rfl ?_
      refine r_iconst (v := 0) 53 dX8_hire_52 rfl rfl ?_
      refine r_callMi 56 dX8_hire_53 rfl ykX8_puts lk_X8_173 (e2_puts_f _ _ _) rfl rfl rfl rfl rfl rfl ⟨Nat.le_refl _, Nat.le_refl _⟩ ?_
      exact r_reti dX8_hire_56 rfl (by first | rfl | exact bI_nar _) ⟨Nat.le_refl _, Nat.le_refl _⟩ (fun _ => rfl) (bad)
    · rw [ix_k hk (by decide)]
      rcases (by omega : k = 0 ∨ k = 1) with rfl | rfl
      · cases g2 : inb (nI (sN (tA S))) v with
        | false =>
          refine r_aload_n (i := 0) 1 dX8_hire_0 rfl rfl rfl ?_
          refine r_aload_n (i := 0) 2 dX8_hire_1 rfl rfl rfl ?_
          refine r_iload_n (i := 1) 3 dX8_hire_2 rfl rfl rfl ?_
          refine r_callMi 6 dX8_hire_3 rfl ykX8_isGuest lk_X8_163 (e2_isGuest hM (nI i)) rfl rfl rfl rfl rfl rfl ⟨Nat.le_refl _, Nat.le_refl _⟩ ?_
          rw [hg]
          refine r_if_eq 42 9 dX8_hire_6 rfl rfl (fun h6 => absurd h6 (by decide)) (fun h6 => ?_)
          refine r_iload_n (i := 2) 10 dX8_hire_9 rfl rfl rfl ?_
          refine r_if_ne 21 13 dX8_hire_10 rfl rfl (fun h10 => absurd rfl h10) (fun h10 => ?_)
          refine r_aload_n (i := 0) 14 dX8_hire_13 rfl rfl rfl ?_
          refine r_iload_n (i := 3) 15 dX8_hire_14 rfl rfl rfl ?_
          refine r_callMi 18 dX8_hire_15 rfl ykX8_isThing lk_X8_160 (e2_isThing hM v) rfl rfl rfl rfl rfl rfl ⟨Nat.le_refl _, Nat.le_refl _⟩ ?_
          rw [g2]
          refine r_if_ne 38 21 dX8_hire_18 rfl rfl (fun h18 => absurd rfl h18) (fun h18 => ?_)
          refine r_iload_n (i := 2) 22 dX8_hire_21 rfl rfl rfl ?_
          refine r_iconst (v := 1) 23 dX8_hire_22 rfl rfl ?_
          refine r_icmp_ne 42 26 dX8_hire_23 rfl rfl (fun h23 => ?_) (fun h23 => absurd h23 (by decide))
          refine r_iconst (v := 0) 43 dX8_hire_42 rfl rfl ?_
          refine r_bipush (v := 19) 45 dX8_hire_43 rfl rfl ?_
          refine r_iconst (v := 4) 46 dX8_hire_45 rfl rfl ?_
          refine r_iload_n (i := 2) 47 dX8_hire_46 rfl rfl rfl ?_
          refine r_imul 48 dX8_hire_47 rfl ?_
          refine r_iadd 49 dX8_hire_48 rfl ?_
          refine r_iload_n (i := 1) 50 dX8_hire_49 rfl rfl rfl ?_
          refine r_iadd 51 dX8_hire_50 rfl ?_
          refine r_iload_n (i := 3) 52 dX8_hire_51 rfl rfl rfl ?_
          refine r_iconst (v := 0) 53 dX8_hire_52 rfl rfl ?_
          refine r_callMi 56 dX8_hire_53 rfl ykX8_puts lk_X8_173 (e2_puts_f _ _ _) rfl rfl rfl rfl rfl rfl ⟨Nat.le_refl _, Nat.le_refl _⟩ ?_
          exact r_reti dX8_hire_56 rfl (by first | rfl | exact bI_nar _) ⟨Nat.le_refl _, Nat.le_refl _⟩ (fun _ => rfl) (bad)
        | true =>
          obtain ⟨j, hj, rfl⟩ := inb_nI (by omega) g2
          rw [nI_clamp (n := j) (by omega)]
          refine r_aload_n (i := 0) 1 dX8_hire_0 rfl rfl rfl ?_
          refine r_aload_n (i := 0) 2 dX8_hire_1 rfl rfl rfl ?_
          refine r_iload_n (i := 1) 3 dX8_hire_2 rfl rfl rfl ?_
          refine r_callMi 6 dX8_hire_3 rfl ykX8_isGuest lk_X8_163 (e2_isGuest hM (nI i)) rfl rfl rfl rfl rfl rfl ⟨Nat.le_refl _, Nat.le_refl _⟩ ?_
          rw [hg]
          refine r_if_eq 42 9 dX8_hire_6 rfl rfl (fun h6 => absurd h6 (by decide)) (fun h6 => ?_)
          refine r_iload_n (i := 2) 10 dX8_hire_9 rfl rfl rfl ?_
          refine r_if_ne 21 13 dX8_hire_10 rfl rfl (fun h10 => absurd rfl h10) (fun h10 => ?_)
          refine r_aload_n (i := 0) 14 dX8_hire_13 rfl rfl rfl ?_
          refine r_iload_n (i := 3) 15 dX8_hire_14 rfl rfl rfl ?_
          refine r_callMi 18 dX8_hire_15 rfl ykX8_isThing lk_X8_160 (e2_isThing hM (nI j)) rfl rfl rfl rfl rfl rfl ⟨Nat.le_refl _, Nat.le_refl _⟩ ?_
          rw [g2]
          refine r_if_ne 38 21 dX8_hire_18 rfl rfl (fun h18 => ?_) (fun h18 => absurd h18 (by decide))
          refine r_iconst (v := 1) 39 dX8_hire_38 rfl rfl ?_
          refine r_goto 43 dX8_hire_39 rfl ?_
          refine r_bipush (v := 19) 45 dX8_hire_43 rfl rfl ?_
          refine r_iconst (v := 4) 46 dX8_hire_45 rfl rfl ?_
          refine r_iload_n (i := 2) 47 dX8_hire_46 rfl rfl rfl ?_
          refine r_imul 48 dX8_hire_47 rfl ?_
          refine r_iadd 49 dX8_hire_48 rfl ?_
          refine r_iload_n (i := 1) 50 dX8_hire_49 rfl rfl rfl ?_
          refine r_iadd 51 dX8_hire_50 rfl ?_
          rw [c19]
          refine r_iload_n (i := 3) 52 dX8_hire_51 rfl rfl rfl ?_
          refine r_iconst (v := 0) 53 dX8_hire_52 rfl rfl ?_
          refine r_callMu 56 dX8_hire_53 rfl ykX8_puts lk_X8_173 (e2_puts_t (k := 19 + 4 * 0 + i) (by omega) _ _) rfl rfl rfl rfl rfl rfl ⟨Nat.le_refl _, Nat.le_refl _⟩ ?_
          exact r_reti dX8_hire_56 rfl (by first | rfl | exact bI_nar _) ⟨Nat.le_refl _, Nat.le_refl _⟩ (fun _ => rfl) (⟨by rw [show W.1.1 (19 + 4 * 0 + i) = nI (sU (tA S) i) from (by rw [show 19 + 4 * 0 + i = 19 + i by omega]; exact k1), Int32.add_zero] <;> rfl, zSt W (upd W.1.1 (19 + 4 * 0 + i) (nI j - 0)), rfl, by rw [Int32.sub_zero]; exact relM_A hR (mpg_U hM.2.2 hi hj) rfl rfl (fun z hz => u_ne (by omega))⟩)
      · cases g2 : inb 10 v with
        | false =>
          refine r_aload_n (i := 0) 1 dX8_hire_0 rfl rfl rfl ?_
          refine r_aload_n (i := 0) 2 dX8_hire_1 rfl rfl rfl ?_
          refine r_iload_n (i := 1) 3 dX8_hire_2 rfl rfl rfl ?_
          refine r_callMi 6 dX8_hire_3 rfl ykX8_isGuest lk_X8_163 (e2_isGuest hM (nI i)) rfl rfl rfl rfl rfl rfl ⟨Nat.le_refl _, Nat.le_refl _⟩ ?_
          rw [hg]
          refine r_if_eq 42 9 dX8_hire_6 rfl rfl (fun h6 => absurd h6 (by decide)) (fun h6 => ?_)
          refine r_iload_n (i := 2) 10 dX8_hire_9 rfl rfl rfl ?_
          refine r_if_ne 21 13 dX8_hire_10 rfl rfl (fun h10 => ?_) (fun h10 => absurd h10 (by decide))
          refine r_iload_n (i := 2) 22 dX8_hire_21 rfl rfl rfl ?_
          refine r_iconst (v := 1) 23 dX8_hire_22 rfl rfl ?_
          refine r_icmp_ne 42 26 dX8_hire_23 rfl rfl (fun h23 => absurd rfl h23) (fun h23 => ?_)
          refine r_iload_n (i := 3) 27 dX8_hire_26 rfl rfl rfl ?_
          refine r_i2l 28 dX8_hire_27 rfl ?_
          refine r_lconst (v := 0) 29 dX8_hire_28 rfl rfl ?_
          refine r_ldc2 32 dX8_hire_29 rfl k_X8_181 ?_
          refine r_callSi [] 35 dX8_hire_32 rfl ykX8_in lk_X8_46 (e_in0 v (n := 10) (by decide) (by decide)) rfl rfl rfl ⟨Nat.le_refl _, Nat.le_refl _⟩ ?_
          rw [show inb (nI 10) v = false from g2]
          refine r_if_eq 42 38 dX8_hire_35 rfl rfl (fun h35 => ?_) (fun h35 => absurd rfl h35)
          refine r_iconst (v := 0) 43 dX8_hire_42 rfl rfl ?_
          refine r_bipush (v := 19) 45 dX8_hire_43 rfl rfl ?_
          refine r_iconst (v := 4) 46 dX8_hire_45 rfl rfl ?_
          refine r_iload_n (i := 2) 47 dX8_hire_46 rfl rfl rfl ?_
          refine r_imul 48 dX8_hire_47 rfl ?_
          refine r_iadd 49 dX8_hire_48 rfl ?_
          refine r_iload_n (i := 1) 50 dX8_hire_49 rfl rfl rfl ?_
          refine r_iadd 51 dX8_hire_50 rfl ?_
          refine r_iload_n (i := 3) 52 dX8_hire_51 rfl rfl rfl ?_
          refine r_iconst (v := 0) 53 dX8_hire_52 rfl rfl ?_
          refine r_callMi 56 dX8_hire_53 rfl ykX8_puts lk_X8_173 (e2_puts_f _ _ _) rfl rfl rfl rfl rfl rfl ⟨Nat.le_refl _, Nat.le_refl _⟩ ?_
          exact r_reti dX8_hire_56 rfl (by first | rfl | exact bI_nar _) ⟨Nat.le_refl _, Nat.le_refl _⟩ (fun _ => rfl) (bad)
        | true =>
          obtain ⟨j, hj, rfl⟩ := inb_nI (n := 10) (by decide) g2
          rw [nI_clamp (n := j) (by omega)]
          refine r_aload_n (i := 0) 1 dX8_hire_0 rfl rfl rfl ?_
          refine r_aload_n (i := 0) 2 dX8_hire_1 rfl rfl rfl ?_
          refine r_iload_n (i := 1) 3 dX8_hire_2 rfl rfl rfl ?_
          refine r_callMi 6 dX8_hire_3 rfl ykX8_isGuest lk_X8_163 (e2_isGuest hM (nI i)) rfl rfl rfl rfl rfl rfl ⟨Nat.le_refl _, Nat.le_refl _⟩ ?_
          rw [hg]
          refine r_if_eq 42 9 dX8_hire_6 rfl rfl (fun h6 => absurd h6 (by decide)) (fun h6 => ?_)
          refine r_iload_n (i := 2) 10 dX8_hire_9 rfl rfl rfl ?_
          refine r_if_ne 21 13 dX8_hire_10 rfl rfl (fun h10 => ?_) (fun h10 => absurd h10 (by decide))
          refine r_iload_n (i := 2) 22 dX8_hire_21 rfl rfl rfl ?_
          refine r_iconst (v := 1) 23 dX8_hire_22 rfl rfl ?_
          refine r_icmp_ne 42 26 dX8_hire_23 rfl rfl (fun h23 => absurd rfl h23) (fun h23 => ?_)
          refine r_iload_n (i := 3) 27 dX8_hire_26 rfl rfl rfl ?_
          refine r_i2l 28 dX8_hire_27 rfl ?_
          refine r_lconst (v := 0) 29 dX8_hire_28 rfl rfl ?_
          refine r_ldc2 32 dX8_hire_29 rfl k_X8_181 ?_
          refine r_callSi [] 35 dX8_hire_32 rfl ykX8_in lk_X8_46 (e_in0 (nI j) (n := 10) (by decide) (by decide)) rfl rfl rfl ⟨Nat.le_refl _, Nat.le_refl _⟩ ?_
          rw [show inb (nI 10) (nI j) = true from g2]
          refine r_if_eq 42 38 dX8_hire_35 rfl rfl (fun h35 => absurd h35 (by decide)) (fun h35 => ?_)
          refine r_iconst (v := 1) 39 dX8_hire_38 rfl rfl ?_
          refine r_goto 43 dX8_hire_39 rfl ?_
          refine r_bipush (v := 19) 45 dX8_hire_43 rfl rfl ?_
          refine r_iconst (v := 4) 46 dX8_hire_45 rfl rfl ?_
          refine r_iload_n (i := 2) 47 dX8_hire_46 rfl rfl rfl ?_
          refine r_imul 48 dX8_hire_47 rfl ?_
          refine r_iadd 49 dX8_hire_48 rfl ?_
          refine r_iload_n (i := 1) 50 dX8_hire_49 rfl rfl rfl ?_
          refine r_iadd 51 dX8_hire_50 rfl ?_
          rw [c19]
          refine r_iload_n (i := 3) 52 dX8_hire_51 rfl rfl rfl ?_
          refine r_iconst (v := 0) 53 dX8_hire_52 rfl rfl ?_
          refine r_callMu 56 dX8_hire_53 rfl ykX8_puts lk_X8_173 (e2_puts_t (k := 19 + 4 * 1 + i) (by omega) _ _) rfl rfl rfl rfl rfl rfl ⟨Nat.le_refl _, Nat.le_refl _⟩ ?_
          exact r_reti dX8_hire_56 rfl (by first | rfl | exact bI_nar _) ⟨Nat.le_refl _, Nat.le_refl _⟩ (fun _ => rfl) (⟨by rw [show W.1.1 (19 + 4 * 1 + i) = nI (sP (tA S) i) from k2, Int32.add_zero] <;> rfl, zSt W (upd W.1.1 (19 + 4 * 1 + i) (nI j - 0)), rfl, by rw [Int32.sub_zero]; exact relM_A hR (mpg_P hM.2.2 hi (by omega)) rfl rfl (fun z hz => u_ne (by omega))⟩)
theorem q_forbid (hT : tOk S) (hC : CM S w) (f : Int32) (g : Int32) : mm_e (d + 3) yX8_forbid mX8_forbid [.ref 0, .int f, .int g] w (QM (s_forbid S f g).1 (s_forbid S f g).2) := by
  have hC0 := hC
  obtain ⟨W, rfl, hR⟩ := hC
  obtain ⟨hM, ⟨hx, hy⟩, ⟨ht, hb⟩, hf, ⟨v1, v2⟩, ⟨hk0, hk1⟩, hI, hH, hn⟩ := id hR
  have h6 := hM.n6
  have h4 := hM.g4
  have h5 := hM.b4
  have p6 := p2_le hM.n6
  have l0 := hM.lt31 hT.2.1
  have i18 : vp_in (18 : Int32) 148 := vp_in_nI (n := 18) (by decide) (by decide)
  have i35 : vp_in (35 : Int32) 148 := vp_in_nI (n := 35) (by decide) (by decide)
  have i36 : vp_in (36 : Int32) 148 := vp_in_nI (n := 36) (by decide) (by decide)
  have ex : W.1.1 (18 : Int32).toNatClampNeg = nI (tX S) := hx
  have ey : W.1.1 (36 : Int32).toNatClampNeg = nI (tY S) := hy
  have eb : W.1.1 (35 : Int32).toNatClampNeg = nI (sB (tA S)) := hM.bn
  refine e_of [some (.ref 0), some (.int f), some (.int g)] rfl (by decide) rfl rfl rfl ?_
  rw [s_forbid]
  cases hf0 : inb (nI (sN (tA S))) f with
  | false =>
    refine r_aload_n (i := 0) 1 dX8_forbid_0 rfl rfl rfl ?_
    refine r_iload_n (i := 1) 2 dX8_forbid_1 rfl rfl rfl ?_
    refine r_callMi 5 dX8_forbid_2 rfl ykX8_isThing lk_X8_160 (e2_isThing hM f) rfl rfl rfl rfl rfl rfl ⟨Nat.le_refl _, Nat.le_refl _⟩ ?_
    rw [hf0]
    refine r_if_eq 21 8 dX8_forbid_5 rfl rfl (fun h5 => ?_) (fun h5 => absurd rfl h5)
    refine r_iconst (v := (-1)) 22 dX8_forbid_21 rfl rfl ?_
    exact r_reti dX8_forbid_22 rfl (by first | rfl | exact bI_nar _) ⟨Nat.le_refl _, Nat.le_refl _⟩ (fun _ => rfl) (⟨rfl, hC0⟩)
  | true =>
    cases hg0 : inb (nI (sN (tA S))) g with
    | false =>
      refine r_aload_n (i := 0) 1 dX8_forbid_0 rfl rfl rfl ?_
      refine r_iload_n (i := 1) 2 dX8_forbid_1 rfl rfl rfl ?_
      refine r_callMi 5 dX8_forbid_2 rfl ykX8_isThing lk_X8_160 (e2_isThing hM f) rfl rfl rfl rfl rfl rfl ⟨Nat.le_refl _, Nat.le_refl _⟩ ?_
      rw [hf0]
      refine r_if_eq 21 8 dX8_forbid_5 rfl rfl (fun h5 => absurd h5 (by decide)) (fun h5 => ?_)
      refine r_aload_n (i := 0) 9 dX8_forbid_8 rfl rfl rfl ?_
      refine r_iload_n (i := 2) 10 dX8_forbid_9 rfl rfl rfl ?_
      refine r_callMi 13 dX8_forbid_10 rfl ykX8_isThing lk_X8_160 (e2_isThing hM g) rfl rfl rfl rfl rfl rfl ⟨Nat.le_refl _, Nat.le_refl _⟩ ?_
      rw [hg0]
      refine r_if_eq 21 16 dX8_forbid_13 rfl rfl (fun h13 => ?_) (fun h13 => absurd rfl h13)
      refine r_iconst (v := (-1)) 22 dX8_forbid_21 rfl rfl ?_
      exact r_reti dX8_forbid_22 rfl (by first | rfl | exact bI_nar _) ⟨Nat.le_refl _, Nat.le_refl _⟩ (fun _ => rfl) (⟨rfl, hC0⟩)
    | true =>
      obtain ⟨i, hi, rfl⟩ := inb_nI (by omega) hf0
      obtain ⟨j, hj, rfl⟩ := inb_nI (by omega) hg0
      rw [nI_clamp (n := i) (by omega), nI_clamp (n := j) (by omega), Bool.and_self, Bool.true_and]
      refine r_aload_n (i := 0) 1 dX8_forbid_0 rfl rfl rfl ?_
      refine r_iload_n (i := 1) 2 dX8_forbid_1 rfl rfl rfl ?_
      refine r_callMi 5 dX8_forbid_2 rfl ykX8_isThing lk_X8_160 (e2_isThing hM (nI i)) rfl rfl rfl rfl rfl rfl ⟨Nat.le_refl _, Nat.le_refl _⟩ ?_
      rw [hf0]
      refine r_if_eq 21 8 dX8_forbid_5 rfl rfl (fun h5 => absurd h5 (by decide)) (fun h5 => ?_)
      refine r_aload_n (i := 0) 9 dX8_forbid_8 rfl rfl rfl ?_
      refine r_iload_n (i := 2) 10 dX8_forbid_9 rfl rfl rfl ?_
      refine r_callMi 13 dX8_forbid_10 rfl ykX8_isThing lk_X8_160 (e2_isThing hM (nI j)) rfl rfl rfl rfl rfl rfl ⟨Nat.le_refl _, Nat.le_refl _⟩ ?_
      rw [hg0]
      refine r_if_eq 21 16 dX8_forbid_13 rfl rfl (fun h13 => absurd h13 (by decide)) (fun h13 => ?_)
      refine r_iload_n (i := 1) 17 dX8_forbid_16 rfl rfl rfl ?_
      refine r_iload_n (i := 2) 18 dX8_forbid_17 rfl rfl rfl ?_
      refine r_icmp_ne 23 21 dX8_forbid_18 rfl rfl (fun h18 => ?_) (fun h18 => ?_)
      · rw [if_pos (decide_eq_true h18)]
        refine r_aload_n (i := 0) 24 dX8_forbid_23 rfl rfl rfl ?_
        refine r_getf 27 dX8_forbid_24 rfl fl_X8_7 rfl rfl ?_
        refine r_bipush (v := 35) 29 dX8_forbid_27 rfl rfl ?_
        refine r_iald 30 dX8_forbid_29 rfl rfl (by assumption) ?_
        rw [eb]
        refine r_iconst (v := 4) 31 dX8_forbid_30 rfl rfl ?_
        refine r_icmp_ne 37 34 dX8_forbid_31 rfl rfl (fun h31 => ?_) (fun h31 => ?_)
        · have q := bne_of (b := 4) (by omega) (by decide) h31
          have q2 : sB (tA S) < 4 := (by omega)
          have in1 : vp_in (nI (27 + 2 * sB (tA S))) 148 := vp_in_nI (by omega) (by decide)
          have in2 : vp_in (nI (27 + 2 * sB (tA S) + 1)) 148 := vp_in_nI (by omega) (by decide)
          rw [if_pos q2]
          have eu1 : ∀ z, upd W.1.1 (27 + 2 * sB (tA S)) z (35 : Int32).toNatClampNeg = nI (sB (tA S)) := (fun z => (u_ne (j := 35) (by omega)).trans hM.bn)
          have eu2 : ∀ z y, upd (upd W.1.1 (27 + 2 * sB (tA S)) z) (27 + 2 * sB (tA S) + 1) y (35 : Int32).toNatClampNeg = nI (sB (tA S)) := (fun z y => (u_ne (j := 35) (by omega)).trans (eu1 z))
          refine r_aload_n (i := 0) 38 dX8_forbid_37 rfl rfl rfl ?_
          refine r_getf 41 dX8_forbid_38 rfl fl_X8_7 rfl rfl ?_
          refine r_bipush (v := 27) 43 dX8_forbid_41 rfl rfl ?_
          refine r_iconst (v := 2) 44 dX8_forbid_43 rfl rfl ?_
          refine r_aload_n (i := 0) 45 dX8_forbid_44 rfl rfl rfl ?_
          refine r_getf 48 dX8_forbid_45 rfl fl_X8_7 rfl rfl ?_
          refine r_bipush (v := 35) 50 dX8_forbid_48 rfl rfl ?_
          refine r_iald 51 dX8_forbid_50 rfl rfl (by assumption) ?_
          rw [eb]
          refine r_imul 52 dX8_forbid_51 rfl ?_
          refine r_iadd 53 dX8_forbid_52 rfl ?_
          rw [c27]
          refine r_iload_n (i := 1) 54 dX8_forbid_53 rfl rfl rfl ?_
          refine r_iast 55 dX8_forbid_54 rfl rfl (by assumption) ?_
          rw [nI_clamp (n := 27 + 2 * sB (tA S)) (by omega)]
          refine r_aload_n (i := 0) 56 dX8_forbid_55 rfl rfl rfl ?_
          refine r_getf 59 dX8_forbid_56 rfl fl_X8_7 rfl rfl ?_
          refine r_bipush (v := 27) 61 dX8_forbid_59 rfl rfl ?_
          refine r_iconst (v := 2) 62 dX8_forbid_61 rfl rfl ?_
          refine r_aload_n (i := 0) 63 dX8_forbid_62 rfl rfl rfl ?_
          refine r_getf 66 dX8_forbid_63 rfl fl_X8_7 rfl rfl ?_
          refine r_bipush (v := 35) 68 dX8_forbid_66 rfl rfl ?_
          refine r_iald 69 dX8_forbid_68 rfl rfl (by assumption) ?_
          rw [eu1]
          refine r_imul 70 dX8_forbid_69 rfl ?_
          refine r_iadd 71 dX8_forbid_70 rfl ?_
          refine r_iconst (v := 1) 72 dX8_forbid_71 rfl rfl ?_
          refine r_iadd 73 dX8_forbid_72 rfl ?_
          rw [c27, nI_1]
          refine r_iload_n (i := 2) 74 dX8_forbid_73 rfl rfl rfl ?_
          refine r_iast 75 dX8_forbid_74 rfl rfl (by assumption) ?_
          rw [nI_clamp (n := 27 + 2 * sB (tA S) + 1) (by omega)]
          refine r_aload_n (i := 0) 76 dX8_forbid_75 rfl rfl rfl ?_
          refine r_getf 79 dX8_forbid_76 rfl fl_X8_7 rfl rfl ?_
          refine r_bipush (v := 35) 81 dX8_forbid_79 rfl rfl ?_
          refine r_dup2 82 dX8_forbid_81 rfl rfl rfl ?_
          refine r_iald 83 dX8_forbid_82 rfl rfl (by assumption) ?_
          rw [eu2]
          refine r_iconst (v := 1) 84 dX8_forbid_83 rfl rfl ?_
          refine r_iadd 85 dX8_forbid_84 rfl ?_
          rw [nI_1]
          refine r_iast 86 dX8_forbid_85 rfl rfl (by assumption) ?_
          refine r_aload_n (i := 0) 87 dX8_forbid_86 rfl rfl rfl ?_
          refine r_getf 90 dX8_forbid_87 rfl fl_X8_7 rfl rfl ?_
          refine r_bipush (v := 35) 92 dX8_forbid_90 rfl rfl ?_
          refine r_iald 93 dX8_forbid_92 rfl rfl (by assumption) ?_
          rw [pk_us]
          exact r_reti dX8_forbid_93 rfl (by first | rfl | exact bI_nar _) ⟨Nat.le_refl _, Nat.le_refl _⟩ (fun _ => rfl) (⟨rfl, zSt W (upd (upd (upd W.1.1 (27 + 2 * sB (tA S)) (nI i)) (27 + 2 * sB (tA S) + 1) (nI j)) 35 (nI (sB (tA S) + 1))), rfl, relM_A hR (mpg_B hM.2.2 hi hj q2) rfl rfl (fun z hz => by rw [u_ne (by omega), u_ne (by omega), u_ne (by omega)])⟩)
        · have q := beq_of (b := 4) (by omega) (by decide) h31
          rw [if_neg (by omega)]
          refine r_bipush (v := (-3)) 36 dX8_forbid_34 rfl rfl ?_
          exact r_reti dX8_forbid_36 rfl (by first | rfl | exact bI_nar _) ⟨Nat.le_refl _, Nat.le_refl _⟩ (fun _ => rfl) (⟨rfl, hC0⟩)
      · rw [if_neg (fun z => (decide_eq_true_iff.mp z) h18)]
        refine r_iconst (v := (-1)) 22 dX8_forbid_21 rfl rfl ?_
        exact r_reti dX8_forbid_22 rfl (by first | rfl | exact bI_nar _) ⟨Nat.le_refl _, Nat.le_refl _⟩ (fun _ => rfl) (⟨rfl, hC0⟩)
theorem l2_lift {b : Nat} (hb : b < 4) {v : Int32} {Qf : Option Value → mm_W → Prop} (kk : mm_r (d + 3) mX8_lift Qf 43 [some (.ref 0), some (.int v), some (.int (nI 33))] [] (wM (zSt W (fb_put W.1.1 (fun k => W.1.1 (27 + 2 * b + k + 2)) (27 + 2 * b) (6 - 2 * b))))) : ∀ (k t : Nat), 6 - 2 * b - t = k → t ≤ 6 - 2 * b → mm_r (d + 3) mX8_lift Qf 17 [some (.ref 0), some (.int v), some (.int (nI (27 + 2 * b + t)))] [] (wM (zSt W (fb_put W.1.1 (fun k => W.1.1 (27 + 2 * b + k + 2)) (27 + 2 * b) t))) := by
  intro k
  induction k with
  | zero =>
    intro t hk ht
    have e : t = 6 - 2 * b := by omega
    subst e
    refine r_iload_n (i := 2) 18 dX8_lift_17 rfl rfl rfl ?_
    refine r_bipush (v := 33) 20 dX8_lift_18 rfl rfl ?_
    refine r_icmp_ge 43 23 dX8_lift_20 rfl rfl (fun h20 => ?_) (fun h20 => absurd (show nI 33 ≤ nI (27 + 2 * b + (6 - 2 * b)) from nI_le (by omega) (by omega)) h20)
    refine r_eq kk ?_ rfl rfl
    rw [show 27 + 2 * b + (6 - 2 * b) = 33 by omega]
  | succ k ih =>
    intro t hk ht
    have in1 : vp_in (nI (27 + 2 * b + t)) 148 := vp_in_nI (by omega) (by decide)
    have in2 : vp_in (nI (27 + 2 * b + t + 2)) 148 := vp_in_nI (by omega) (by decide)
    refine r_iload_n (i := 2) 18 dX8_lift_17 rfl rfl rfl ?_
    refine r_bipush (v := 33) 20 dX8_lift_18 rfl rfl ?_
    refine r_icmp_ge 43 23 dX8_lift_20 rfl rfl (fun h20 => absurd (ble_of (a := 33) (b := 27 + 2 * b + t) (by decide) (by omega) h20) (by omega)) (fun h20 => ?_)
    refine r_aload_n (i := 0) 24 dX8_lift_23 rfl rfl rfl ?_
    refine r_getf 27 dX8_lift_24 rfl fl_X8_7 rfl rfl ?_
    refine r_iload_n (i := 2) 28 dX8_lift_27 rfl rfl rfl ?_
    refine r_aload_n (i := 0) 29 dX8_lift_28 rfl rfl rfl ?_
    refine r_getf 32 dX8_lift_29 rfl fl_X8_7 rfl rfl ?_
    refine r_iload_n (i := 2) 33 dX8_lift_32 rfl rfl rfl ?_
    refine r_iconst (v := 2) 34 dX8_lift_33 rfl rfl ?_
    refine r_iadd 35 dX8_lift_34 rfl ?_
    rw [show nI (27 + 2 * b + t) + 2 = nI (27 + 2 * b + t + 2) from nI_add _ 2]
    refine r_iald 36 dX8_lift_35 rfl rfl (by assumption) ?_
    rw [nI_clamp (n := 27 + 2 * b + t + 2) (by omega), show (zSt W (fb_put W.1.1 (fun k => W.1.1 (27 + 2 * b + k + 2)) (27 + 2 * b) t)).1.1 (27 + 2 * b + t + 2) = W.1.1 (27 + 2 * b + t + 2) from (by show fb_put W.1.1 (fun k => W.1.1 (27 + 2 * b + k + 2)) (27 + 2 * b) t (27 + 2 * b + t + 2) = _; exact fb_put_out (by omega))]
    refine r_iast 37 dX8_lift_36 rfl rfl (by assumption) ?_
    refine r_iinc (i := 2) 40 dX8_lift_37 rfl rfl (by first | exact nI_1 _ | rfl) rfl ?_
    refine r_goto 17 dX8_lift_40 rfl ?_
    refine r_eq (ih (t + 1) (by omega) (by omega)) rfl rfl ?_
    rw [nI_clamp (n := 27 + 2 * b + t) (by omega), ← fb_put_succ]
    rfl
theorem q_lift (hT : tOk S) (hC : CM S w) (b : Int32) : mm_e (d + 3) yX8_lift mX8_lift [.ref 0, .int b] w (QM (s_lift S b).1 (s_lift S b).2) := by
  have hC0 := hC
  obtain ⟨W, rfl, hR⟩ := hC
  obtain ⟨hM, ⟨hx, hy⟩, ⟨ht, hb⟩, hf, ⟨v1, v2⟩, ⟨hk0, hk1⟩, hI, hH, hn⟩ := id hR
  have h6 := hM.n6
  have h4 := hM.g4
  have h5 := hM.b4
  have p6 := p2_le hM.n6
  have l0 := hM.lt31 hT.2.1
  have i18 : vp_in (18 : Int32) 148 := vp_in_nI (n := 18) (by decide) (by decide)
  have i35 : vp_in (35 : Int32) 148 := vp_in_nI (n := 35) (by decide) (by decide)
  have i36 : vp_in (36 : Int32) 148 := vp_in_nI (n := 36) (by decide) (by decide)
  have ex : W.1.1 (18 : Int32).toNatClampNeg = nI (tX S) := hx
  have ey : W.1.1 (36 : Int32).toNatClampNeg = nI (tY S) := hy
  have eb : W.1.1 (35 : Int32).toNatClampNeg = nI (sB (tA S)) := hM.bn
  refine e_of [some (.ref 0), some (.int b), none] rfl (by decide) rfl rfl rfl ?_
  rw [s_lift]
  cases hg : inb (nI (sB (tA S))) b with
  | false =>
    refine r_aload_n (i := 0) 1 dX8_lift_0 rfl rfl rfl ?_
    refine r_iload_n (i := 1) 2 dX8_lift_1 rfl rfl rfl ?_
    refine r_callMi 5 dX8_lift_2 rfl ykX8_isBan lk_X8_166 (e2_isBan hM b) rfl rfl rfl rfl rfl rfl ⟨Nat.le_refl _, Nat.le_refl _⟩ ?_
    rw [hg]
    refine r_if_ne 10 8 dX8_lift_5 rfl rfl (fun h5 => absurd rfl h5) (fun h5 => ?_)
    refine r_iconst (v := (-1)) 9 dX8_lift_8 rfl rfl ?_
    exact r_reti dX8_lift_9 rfl (by first | rfl | exact bI_nar _) ⟨Nat.le_refl _, Nat.le_refl _⟩ (fun _ => rfl) (⟨rfl, hC0⟩)
  | true =>
    obtain ⟨i, hi, rfl⟩ := inb_nI (by omega) hg
    have hi4 : i < 4 := Nat.lt_of_lt_of_le hi h5
    rw [nI_clamp (n := i) (by omega), if_pos rfl]
    have e35 : (zSt W (fb_put W.1.1 (fun k => W.1.1 (27 + 2 * i + k + 2)) (27 + 2 * i) (6 - 2 * i))).1.1 (35 : Int32).toNatClampNeg = nI (sB (tA S)) := (by show fb_put W.1.1 (fun k => W.1.1 (27 + 2 * i + k + 2)) (27 + 2 * i) (6 - 2 * i) 35 = _; rw [fb_put_out (by omega)]; exact hM.bn)
    have e1 : nI (sB (tA S)) - 1 = nI (sB (tA S) - 1) := by rw [show (1 : Int32) = nI 1 from rfl, pk_sub (by omega)]
    refine r_aload_n (i := 0) 1 dX8_lift_0 rfl rfl rfl ?_
    refine r_iload_n (i := 1) 2 dX8_lift_1 rfl rfl rfl ?_
    refine r_callMi 5 dX8_lift_2 rfl ykX8_isBan lk_X8_166 (e2_isBan hM (nI i)) rfl rfl rfl rfl rfl rfl ⟨Nat.le_refl _, Nat.le_refl _⟩ ?_
    rw [hg]
    refine r_if_ne 10 8 dX8_lift_5 rfl rfl (fun h5 => ?_) (fun h5 => absurd h5 (by decide))
    refine r_bipush (v := 27) 12 dX8_lift_10 rfl rfl ?_
    refine r_iconst (v := 2) 13 dX8_lift_12 rfl rfl ?_
    refine r_iload_n (i := 1) 14 dX8_lift_13 rfl rfl rfl ?_
    refine r_imul 15 dX8_lift_14 rfl ?_
    refine r_iadd 16 dX8_lift_15 rfl ?_
    rw [c27]
    refine r_istore_n (i := 2) 17 dX8_lift_16 rfl rfl rfl ?_
    refine r_eq (l2_lift hi4 ?_ _ 0 rfl (Nat.zero_le _)) rfl rfl (by rw [fb_put_0])
    refine r_aload_n (i := 0) 44 dX8_lift_43 rfl rfl rfl ?_
    refine r_getf 47 dX8_lift_44 rfl fl_X8_7 rfl rfl ?_
    refine r_bipush (v := 35) 49 dX8_lift_47 rfl rfl ?_
    refine r_dup2 50 dX8_lift_49 rfl rfl rfl ?_
    refine r_iald 51 dX8_lift_50 rfl rfl (by assumption) ?_
    rw [e35]
    refine r_iconst (v := 1) 52 dX8_lift_51 rfl rfl ?_
    refine r_isub 53 dX8_lift_52 rfl ?_
    rw [e1]
    refine r_iast 54 dX8_lift_53 rfl rfl (by assumption) ?_
    refine r_aload_n (i := 0) 55 dX8_lift_54 rfl rfl rfl ?_
    refine r_getf 58 dX8_lift_55 rfl fl_X8_7 rfl rfl ?_
    refine r_bipush (v := 35) 60 dX8_lift_58 rfl rfl ?_
    refine r_iald 61 dX8_lift_60 rfl rfl (by assumption) ?_
    rw [pk_us]
    exact r_reti dX8_lift_61 rfl (by first | rfl | exact bI_nar _) ⟨Nat.le_refl _, Nat.le_refl _⟩ (fun _ => rfl) (⟨rfl, zSt W (upd (fb_put W.1.1 (fun k => W.1.1 (27 + 2 * i + k + 2)) (27 + 2 * i) (6 - 2 * i)) 35 (nI (sB (tA S) - 1))), rfl, relM_A hR (mpg_D hM.2.2 hi) rfl rfl (fun z hz => by rw [u_ne (by omega), fb_put_out (by omega)])⟩)
end MD
