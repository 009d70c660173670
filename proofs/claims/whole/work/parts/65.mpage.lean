-- THE REFERENCE'S PAGE AS IT IS READ
def pgR (p : Nat → Int32) (A : sA) (x : Nat) : Prop := (∀ i, i < sN A → p i = nI (sK A i) ∧ p (6 + i) + nI i = nI (sF A i) ∧ p (12 + i) + nI i = nI (sS A i) ∧ sK A i ≤ 4) ∧ (∀ i, i < sG A → p (19 + i) = nI (sU A i) ∧ p (23 + i) = nI (sP A i) ∧ sP A i ≤ 9) ∧ p 35 = nI (sB A) ∧ (∀ i, i < sB A → p (27 + 2 * i) = nI (sC A i) ∧ p (27 + 2 * i + 1) = nI (sE A i)) ∧ (p 18 = nI x ∧ p 36 = 0) ∧ (sN A ≤ 6 ∧ sG A ≤ 4 ∧ sB A ≤ 4 ∧ x < 64)
def hAll (A : sA) (x m : Nat) : Prop := x < 2 ^ m ∧ (∀ i, i < sN A → sF A i < m ∧ sS A i < m) ∧ (∀ i, i < sG A → sU A i < m) ∧ ∀ i, i < sB A → sC A i < m ∧ sE A i < m
def hHi (A : sA) (x H : Nat) : Prop := ∀ m, sN A ≤ m → (H ≤ m ↔ hAll A x m)
def PG (r : mRe) (A : sA) (x H : Nat) : Prop := r.2.1 = nI (sN A) ∧ r.2.2.1 = nI (sG A) ∧ r.2.2.2.1 = rv H ∧ H ≤ 6 ∧ pgR r.1 A x ∧ hHi A x H
theorem pgR_T {p : Nat → Int32} {A : sA} {x k f g : Nat} {z1 z2 : Int32} (h : pgR p A x) (h6 : sN A < 6) (hk : k ≤ 4) (e1 : z1 + nI (sN A) = nI f) (e2 : z2 + nI (sN A) = nI g) : pgR (upd (upd (upd p (sN A) (nI k)) (6 + sN A) z1) (12 + sN A) z2) (aT A k f g) x := by
  obtain ⟨h1, h2, h3, h4, ⟨h5, h7⟩, b1, b2, b3, b4⟩ := h
  refine ⟨fun i hi => ?_, fun i hi => ?_, ?_, fun i hi => ?_, ⟨?_, ?_⟩, ⟨show sN A + 1 ≤ 6 by omega, b2, b3, b4⟩⟩
  · have hi : i < sN A + 1 := hi
    show _ = nI (updN (sK A) (sN A) k i) ∧ _ = nI (updN (sF A) (sN A) f i) ∧ _ = nI (updN (sS A) (sN A) g i) ∧ updN (sK A) (sN A) k i ≤ 4
    by_cases q : i = sN A
    · rw [q, updN_at, updN_at, updN_at, u_ne (by omega), u_ne (by omega), u_at, u_ne (by omega), u_at, u_at]
      exact ⟨rfl, e1, e2, hk⟩
    · rw [updN_ne _ _ q, updN_ne _ _ q, updN_ne _ _ q, u_ne (by omega), u_ne (by omega), u_ne (by omega), u_ne (by omega), u_ne (by omega), u_ne (by omega), u_ne (by omega), u_ne (by omega), u_ne (by omega)]
      exact h1 i (by omega)
  · have hi : i < sG A := hi
    rw [u_ne (by omega), u_ne (by omega), u_ne (by omega), u_ne (by omega), u_ne (by omega), u_ne (by omega)]
    exact h2 i hi
  · rw [u_ne (by omega), u_ne (by omega), u_ne (by omega)]; exact h3
  · have hi : i < sB A := hi
    rw [u_ne (by omega), u_ne (by omega), u_ne (by omega), u_ne (by omega), u_ne (by omega), u_ne (by omega)]
    exact h4 i hi
  · rw [u_ne (by omega), u_ne (by omega), u_ne (by omega)]; exact h5
  · rw [u_ne (by omega), u_ne (by omega), u_ne (by omega)]; exact h7
theorem hHi_T {A : sA} {x H H' k f g : Nat} (h : hHi A x H) (hH : ∀ m, sN A + 1 ≤ m → (H' ≤ m ↔ H ≤ m ∧ f < m ∧ g < m)) : hHi (aT A k f g) x H' := by
  intro m hm
  have hm : sN A + 1 ≤ m := hm
  rw [hH m hm, h m (by omega)]
  constructor
  · rintro ⟨⟨a, b, c, e⟩, hf, hg⟩
    refine ⟨a, fun i hi => ?_, c, e⟩
    have hi : i < sN A + 1 := hi
    show updN (sF A) (sN A) f i < m ∧ updN (sS A) (sN A) g i < m
    by_cases q : i = sN A
    · rw [q, updN_at, updN_at]; exact ⟨hf, hg⟩
    · rw [updN_ne _ _ q, updN_ne _ _ q]; exact b i (by omega)
  · rintro ⟨a, b, c, e⟩
    have b0 := b (sN A) (show sN A < sN A + 1 by omega)
    have b0 : updN (sF A) (sN A) f (sN A) < m ∧ updN (sS A) (sN A) g (sN A) < m := b0
    rw [updN_at, updN_at] at b0
    refine ⟨⟨a, fun i hi => ?_, c, e⟩, b0⟩
    have b1 : updN (sF A) (sN A) f i < m ∧ updN (sS A) (sN A) g i < m := b i (show i < sN A + 1 by omega)
    rw [updN_ne _ _ (by omega), updN_ne _ _ (by omega)] at b1
    exact b1
theorem pgR_S {p : Nat → Int32} {A : sA} {x f : Nat} (h : pgR p A x) (hf : f < 6) : pgR (upd p 18 (nI (x ||| 2 ^ f))) A (x ||| 2 ^ f) := by
  obtain ⟨h1, h2, h3, h4, ⟨h5, h7⟩, b1, b2, b3, b4⟩ := h
  refine ⟨fun i hi => ?_, fun i hi => ?_, ?_, fun i hi => ?_, ⟨u_at, ?_⟩, ⟨b1, b2, b3, or64 b4 hf⟩⟩
  · rw [u_ne (by omega), u_ne (by omega), u_ne (by omega)]; exact h1 i hi
  · rw [u_ne (by omega), u_ne (by omega)]; exact h2 i hi
  · rw [u_ne (by omega)]; exact h3
  · rw [u_ne (by omega), u_ne (by omega)]; exact h4 i hi
  · rw [u_ne (by omega)]; exact h7
theorem or_iff {x f m : Nat} : x ||| 2 ^ f < 2 ^ m ↔ x < 2 ^ m ∧ f < m := by
  constructor
  · intro h
    refine ⟨Nat.lt_of_le_of_lt Nat.left_le_or h, ?_⟩
    have h2 : 2 ^ f < 2 ^ m := Nat.lt_of_le_of_lt Nat.right_le_or h
    exact (Nat.pow_lt_pow_iff_right (by decide)).mp h2
  · rintro ⟨h1, h2⟩
    exact or_lt h1 (p2_lt h2)
theorem hHi_S {A : sA} {x H f : Nat} (h : hHi A x H) : hHi A (x ||| 2 ^ f) (max H (f + 1)) := by
  intro m hm
  have e : max H (f + 1) ≤ m ↔ H ≤ m ∧ f < m := by omega
  rw [e, h m hm]
  unfold hAll
  rw [or_iff]
  constructor
  · rintro ⟨⟨a, b⟩, c⟩; exact ⟨⟨a, c⟩, b⟩
  · rintro ⟨⟨a, c⟩, b⟩; exact ⟨⟨a, b⟩, c⟩
theorem pgR_G {p : Nat → Int32} {A : sA} {x f c : Nat} (h : pgR p A x) (h4' : sG A < 4) (hc : c ≤ 9) : pgR (upd (upd p (19 + sG A) (nI f)) (23 + sG A) (nI c)) (aG A f c) x := by
  obtain ⟨h1, h2, h3, h4, ⟨h5, h7⟩, b1, b2, b3, b4⟩ := h
  refine ⟨fun i hi => ?_, fun i hi => ?_, ?_, fun i hi => ?_, ⟨?_, ?_⟩, ⟨b1, show sG A + 1 ≤ 4 by omega, b3, b4⟩⟩
  · have hi : i < sN A := hi
    rw [u_ne (by omega), u_ne (by omega), u_ne (by omega), u_ne (by omega), u_ne (by omega), u_ne (by omega)]; exact h1 i hi
  · have hi : i < sG A + 1 := hi
    show _ = nI (updN (sU A) (sG A) f i) ∧ _ = nI (updN (sP A) (sG A) c i) ∧ updN (sP A) (sG A) c i ≤ 9
    by_cases q : i = sG A
    · rw [q, updN_at, updN_at, u_ne (by omega), u_at, u_at]
      exact ⟨rfl, rfl, hc⟩
    · rw [updN_ne _ _ q, updN_ne _ _ q, u_ne (by omega), u_ne (by omega), u_ne (by omega), u_ne (by omega)]
      exact h2 i (by omega)
  · rw [u_ne (by omega), u_ne (by omega)]; exact h3
  · have hi : i < sB A := hi
    rw [u_ne (by omega), u_ne (by omega), u_ne (by omega), u_ne (by omega)]; exact h4 i hi
  · rw [u_ne (by omega), u_ne (by omega)]; exact h5
  · rw [u_ne (by omega), u_ne (by omega)]; exact h7
theorem hHi_G {A : sA} {x H f c : Nat} (h : hHi A x H) : hHi (aG A f c) x (max H (f + 1)) := by
  intro m hm
  have e : max H (f + 1) ≤ m ↔ H ≤ m ∧ f < m := by omega
  rw [e, h m hm]
  constructor
  · rintro ⟨⟨a, b, c', g⟩, hf⟩
    refine ⟨a, b, fun i hi => ?_, g⟩
    have hi : i < sG A + 1 := hi
    show updN (sU A) (sG A) f i < m
    by_cases q : i = sG A
    · rw [q, updN_at]; exact hf
    · rw [updN_ne _ _ q]; exact c' i (by omega)
  · rintro ⟨a, b, c', g⟩
    have c0 : updN (sU A) (sG A) f (sG A) < m := c' (sG A) (show sG A < sG A + 1 by omega)
    rw [updN_at] at c0
    refine ⟨⟨a, b, fun i hi => ?_, g⟩, c0⟩
    have c1 : updN (sU A) (sG A) f i < m := c' i (show i < sG A + 1 by omega)
    rw [updN_ne _ _ (by omega)] at c1
    exact c1
theorem pgR_B {p : Nat → Int32} {A : sA} {x f g : Nat} (h : pgR p A x) (hb : sB A < 4) : pgR (upd (upd (upd p (27 + 2 * sB A) (nI f)) (27 + 2 * sB A + 1) (nI g)) 35 (nI (sB A + 1))) (aB A f g) x := by
  obtain ⟨h1, h2, h3, h4, ⟨h5, h7⟩, b1, b2, b3, b4⟩ := h
  refine ⟨fun i hi => ?_, fun i hi => ?_, ?_, fun i hi => ?_, ⟨?_, ?_⟩, ⟨b1, b2, show sB A + 1 ≤ 4 by omega, b4⟩⟩
  · have hi : i < sN A := hi
    rw [u_ne (by omega), u_ne (by omega), u_ne (by omega), u_ne (by omega), u_ne (by omega), u_ne (by omega), u_ne (by omega), u_ne (by omega), u_ne (by omega)]; exact h1 i hi
  · have hi : i < sG A := hi
    rw [u_ne (by omega), u_ne (by omega), u_ne (by omega), u_ne (by omega), u_ne (by omega), u_ne (by omega)]; exact h2 i hi
  · rw [u_at]; rfl
  · have hi : i < sB A + 1 := hi
    show _ = nI (updN (sC A) (sB A) f i) ∧ _ = nI (updN (sE A) (sB A) g i)
    by_cases q : i = sB A
    · rw [q, updN_at, updN_at, u_ne (by omega), u_ne (by omega), u_at, u_ne (by omega), u_at]
      exact ⟨rfl, rfl⟩
    · rw [updN_ne _ _ q, updN_ne _ _ q, u_ne (by omega), u_ne (by omega), u_ne (by omega), u_ne (by omega), u_ne (by omega), u_ne (by omega)]
      exact h4 i (by omega)
  · rw [u_ne (by omega), u_ne (by omega), u_ne (by omega)]; exact h5
  · rw [u_ne (by omega), u_ne (by omega), u_ne (by omega)]; exact h7
theorem hHi_B {A : sA} {x H f g : Nat} (h : hHi A x H) : hHi (aB A f g) x (max (max H (f + 1)) (g + 1)) := by
  intro m hm
  have e : max (max H (f + 1)) (g + 1) ≤ m ↔ H ≤ m ∧ f < m ∧ g < m := by omega
  rw [e, h m hm]
  constructor
  · rintro ⟨⟨a, b, c, e⟩, hf, hg⟩
    refine ⟨a, b, c, fun i hi => ?_⟩
    have hi : i < sB A + 1 := hi
    show updN (sC A) (sB A) f i < m ∧ updN (sE A) (sB A) g i < m
    by_cases q : i = sB A
    · rw [q, updN_at, updN_at]; exact ⟨hf, hg⟩
    · rw [updN_ne _ _ q, updN_ne _ _ q]; exact e i (by omega)
  · rintro ⟨a, b, c, e⟩
    have e0 : updN (sC A) (sB A) f (sB A) < m ∧ updN (sE A) (sB A) g (sB A) < m := e (sB A) (show sB A < sB A + 1 by omega)
    rw [updN_at, updN_at] at e0
    refine ⟨⟨a, b, c, fun i hi => ?_⟩, e0⟩
    have e1 : updN (sC A) (sB A) f i < m ∧ updN (sE A) (sB A) g i < m := e i (show i < sB A + 1 by omega)
    rw [updN_ne _ _ (by omega), updN_ne _ _ (by omega)] at e1
    exact e1
theorem tb_0 (j : Nat) : tb 0 j = 0 := by unfold tb; rw [Nat.zero_div]
theorem nW_0 (b : Nat → Nat) (n m : Nat) (s : pS) : nW b n m 0 s = tkN b n m s := by
  unfold nW
  rw [tb_0]
  rfl
theorem nV_0 (b : Nat → Nat) (n m : Nat) (s : pS) : nV b n m 0 s = tkW b n m s := by
  unfold nV
  rw [nW_0]
  split
  · rfl
  · rename_i z
    unfold tkW
    rw [if_neg z]
theorem nV_S {b : Nat → Nat} {n m x : Nat} {s : pS} (h : pF (nW b n m x s) = 0) : nV b n m x s = tkW b n m s := by
  unfold nV
  rw [if_pos h]
def rmP (W : MT) (b : Nat → Nat) (n : Nat) (s' : pS) (A' : sA) (x' : Nat) : Option Value → mm_W → Prop := fun v u => v = none ∧ ∃ r, u = wM (zRe W r) ∧ RS b (tkT b n s') r ∧ (pF s' = 0 → ∃ H, PG r A' x' H)
section MQ
variable {d : Nat} {W : MT} {b : Nat → Nat} {n : Nat} {s : pS} {A : sA} {x H : Nat}
theorem e2_rmT0 (hr : RS b (tkT b n s) W.2.1) (hp : PG W.2.1 A x H) (h6 : sN A < 6) : mm_e (d + 6) yX8_readMore mX8_readMore [.ref 0, .int (nI 0)] (wM W) (rmP W b n s (aT A 0 (sN A) (sN A)) x) := by
  obtain ⟨p1, p2, p3, p4, p5, p6⟩ := id hp
  have in1 : vp_in (nI (sN A)) 37 := vp_in_nI (by omega) (by decide)
  have in2 : vp_in (nI (6 + sN A)) 37 := vp_in_nI (by omega) (by decide)
  have in3 : vp_in (nI (12 + sN A)) 37 := vp_in_nI (by omega) (by decide)
  refine e_of [some (.ref 0), some (.int (nI 0)), none] rfl (by decide) rfl rfl rfl ?_
  refine r_iload_n (i := 1) 1 dX8_readMore_0 rfl rfl rfl ?_
  refine r_iconst (v := 4) 2 dX8_readMore_1 rfl rfl ?_
  refine r_icmp_gt 80 5 dX8_readMore_2 rfl rfl (fun h2 => absurd h2 (by decide)) (fun h2 => ?_)
  refine r_aload_n (i := 0) 6 dX8_readMore_5 rfl rfl rfl ?_
  refine r_getf 9 dX8_readMore_6 rfl fl_X8_101 rfl rfl ?_
  rw [show W.2.1.2.1 = nI (sN A) from p1]
  refine r_istore_n (i := 2) 10 dX8_readMore_9 rfl rfl rfl ?_
  refine r_aload_n (i := 0) 11 dX8_readMore_10 rfl rfl rfl ?_
  refine r_getf 14 dX8_readMore_11 rfl fl_X8_13 rfl rfl ?_
  refine r_iload_n (i := 2) 15 dX8_readMore_14 rfl rfl rfl ?_
  refine r_iload_n (i := 1) 16 dX8_readMore_15 rfl rfl rfl ?_
  refine r_iast 17 dX8_readMore_16 rfl rfl (by assumption) ?_
  refine r_aload_n (i := 0) 18 dX8_readMore_17 rfl rfl rfl ?_
  refine r_getf 21 dX8_readMore_18 rfl fl_X8_13 rfl rfl ?_
  refine r_bipush (v := 6) 23 dX8_readMore_21 rfl rfl ?_
  refine r_iload_n (i := 2) 24 dX8_readMore_23 rfl rfl rfl ?_
  refine r_iadd 25 dX8_readMore_24 rfl ?_
  rw [show (6 : Int32) + nI (sN A) = nI (6 + sN A) from nI_add 6 _]
  refine r_iload_n (i := 1) 26 dX8_readMore_25 rfl rfl rfl ?_
  refine r_iconst (v := 1) 27 dX8_readMore_26 rfl rfl ?_
  refine r_icmp_lt 40 30 dX8_readMore_27 rfl rfl (fun h27 => ?_) (fun h27 => absurd (show nI 0 < 1 from by decide) h27)
  refine r_iconst (v := 0) 41 dX8_readMore_40 rfl rfl ?_
  refine r_iast 42 dX8_readMore_41 rfl rfl (by assumption) ?_
  refine r_aload_n (i := 0) 43 dX8_readMore_42 rfl rfl rfl ?_
  refine r_getf 46 dX8_readMore_43 rfl fl_X8_13 rfl rfl ?_
  refine r_bipush (v := 12) 48 dX8_readMore_46 rfl rfl ?_
  refine r_iload_n (i := 2) 49 dX8_readMore_48 rfl rfl rfl ?_
  refine r_iadd 50 dX8_readMore_49 rfl ?_
  rw [show (12 : Int32) + nI (sN A) = nI (12 + sN A) from nI_add 12 _]
  refine r_iload_n (i := 1) 51 dX8_readMore_50 rfl rfl rfl ?_
  refine r_iconst (v := 3) 52 dX8_readMore_51 rfl rfl ?_
  refine r_icmp_lt 65 55 dX8_readMore_52 rfl rfl (fun h52 => ?_) (fun h52 => absurd (show nI 0 < 3 from by decide) h52)
  refine r_iconst (v := 0) 66 dX8_readMore_65 rfl rfl ?_
  refine r_iast 67 dX8_readMore_66 rfl rfl (by assumption) ?_
  refine r_aload_n (i := 0) 68 dX8_readMore_67 rfl rfl rfl ?_
  refine r_dup 69 dX8_readMore_68 rfl rfl ?_
  refine r_getf 72 dX8_readMore_69 rfl fl_X8_101 rfl rfl ?_
  rw [show W.2.1.2.1 = nI (sN A) from p1]
  refine r_iconst (v := 1) 73 dX8_readMore_72 rfl rfl ?_
  refine r_iadd 74 dX8_readMore_73 rfl ?_
  rw [nI_1, nI_clamp (n := sN A) (by omega), nI_clamp (n := 6 + sN A) (by omega), nI_clamp (n := 12 + sN A) (by omega)]
  refine r_putf 77 dX8_readMore_74 rfl fl_X8_101 rfl rfl (fun _ _ => ⟨rfl, rfl⟩) (fun z => absurd z Bool.false_ne_true) ?_
  refine r_goto 171 dX8_readMore_77 rfl ?_
  exact r_retv dX8_readMore_171 rfl ⟨Nat.le_refl _, Nat.le_refl _⟩ (fun _ => rfl) (⟨rfl, (upd (upd (upd W.2.1.1 (sN A) (nI 0)) (6 + sN A) 0) (12 + sN A) 0, nI (sN A + 1), W.2.1.2.2), rfl, hr, fun _ => ⟨H, rfl, p2, p3, p4, pgR_T p5 h6 (by decide) (by rw [Int32.zero_add]) (by rw [Int32.zero_add]), hHi_T p6 (fun m hm => ⟨fun z => ⟨z, by omega, by omega⟩, fun z => z.1⟩)⟩⟩)
theorem e2_rmT1 (ht : tpM W b n) (hs : sI n s) (hr : RS b (tkT b n s) W.2.1) (hp : PG W.2.1 A x H) (h6 : sN A < 6) {k : Nat} (hk : k = 1 ∨ k = 2) : mm_e (d + 6) yX8_readMore mX8_readMore [.ref 0, .int (nI k)] (wM W) (rmP W b n (tkN b n 5 s) (aT A k (tkW b n 5 s) (sN A)) x) := by
  obtain ⟨p1, p2, p3, p4, p5, p6⟩ := id hp
  have in1 : vp_in (nI (sN A)) 37 := vp_in_nI (by omega) (by decide)
  have in2 : vp_in (nI (6 + sN A)) 37 := vp_in_nI (by omega) (by decide)
  have in3 : vp_in (nI (12 + sN A)) 37 := vp_in_nI (by omega) (by decide)
  have tl := tkW_le (b := b) (n := n) (most := 5) s
  refine e_of [some (.ref 0), some (.int (nI k)), none] rfl (by decide) rfl rfl rfl ?_
  refine r_iload_n (i := 1) 1 dX8_readMore_0 rfl rfl rfl ?_
  refine r_iconst (v := 4) 2 dX8_readMore_1 rfl rfl ?_
  refine r_icmp_gt 80 5 dX8_readMore_2 rfl rfl (fun h2 => absurd (blt_of (a := 4) (b := k) (by decide) (by omega) h2) (by omega)) (fun h2 => ?_)
  refine r_aload_n (i := 0) 6 dX8_readMore_5 rfl rfl rfl ?_
  refine r_getf 9 dX8_readMore_6 rfl fl_X8_101 rfl rfl ?_
  rw [show W.2.1.2.1 = nI (sN A) from p1]
  refine r_istore_n (i := 2) 10 dX8_readMore_9 rfl rfl rfl ?_
  refine r_aload_n (i := 0) 11 dX8_readMore_10 rfl rfl rfl ?_
  refine r_getf 14 dX8_readMore_11 rfl fl_X8_13 rfl rfl ?_
  refine r_iload_n (i := 2) 15 dX8_readMore_14 rfl rfl rfl ?_
  refine r_iload_n (i := 1) 16 dX8_readMore_15 rfl rfl rfl ?_
  refine r_iast 17 dX8_readMore_16 rfl rfl (by assumption) ?_
  skip
  rw [nI_clamp (n := sN A) (by omega)]
  show mm_r (d + 6) mX8_readMore _ 17 [some (.ref 0), some (.int (nI k)), some (.int (nI (sN A)))] [] (wM (zRe W (upd W.2.1.1 (sN A) (nI k), W.2.1.2)))
  have et := e2_thingHere (d := d + 1) (W := zRe W (upd W.2.1.1 (sN A) (nI k), W.2.1.2)) (som := 0) ht hs hr (by decide) p3 p4
  rw [nW_0, nV_0] at et
  refine r_aload_n (i := 0) 18 dX8_readMore_17 rfl rfl rfl ?_
  refine r_getf 21 dX8_readMore_18 rfl fl_X8_13 rfl rfl ?_
  refine r_bipush (v := 6) 23 dX8_readMore_21 rfl rfl ?_
  refine r_iload_n (i := 2) 24 dX8_readMore_23 rfl rfl rfl ?_
  refine r_iadd 25 dX8_readMore_24 rfl ?_
  rw [show (6 : Int32) + nI (sN A) = nI (6 + sN A) from nI_add 6 _]
  refine r_iload_n (i := 1) 26 dX8_readMore_25 rfl rfl rfl ?_
  refine r_iconst (v := 1) 27 dX8_readMore_26 rfl rfl ?_
  refine r_icmp_lt 40 30 dX8_readMore_27 rfl rfl (fun h27 => absurd (blt_of (a := k) (b := 1) (by omega) (by decide) h27) (by omega)) (fun h27 => ?_)
  refine r_aload_n (i := 0) 31 dX8_readMore_30 rfl rfl rfl ?_
  refine r_iconst (v := 0) 32 dX8_readMore_31 rfl rfl ?_
  refine r_callMq 35 dX8_readMore_32 rfl ykX8_thingHere lk_X8_98 (et) rfl rfl rfl rfl rfl rfl ⟨Nat.le_refl _, Nat.le_refl _⟩ (fun v u hq => by obtain ⟨-, r, rfl, -⟩ := hq; rfl) (fun v u hq => ?_)
  obtain ⟨rfl, ⟨q1, q2, q3, q4, q5⟩, rfl, g1, e1, e2, e3, e4⟩ := hq
  refine r_iload_n (i := 2) 36 dX8_readMore_35 rfl rfl rfl ?_
  refine r_isub 37 dX8_readMore_36 rfl ?_
  refine r_goto 41 dX8_readMore_37 rfl ?_
  refine r_iast 42 dX8_readMore_41 rfl rfl (by assumption) ?_
  skip
  have e1 : q1 = upd W.2.1.1 (sN A) (nI k) := e1
  have e2 : q2 = W.2.1.2.1 := e2
  have e3 : q3 = W.2.1.2.2.1 := e3
  have e4 : q4 = rv (max H (tkW b n 5 s + 1)) := e4
  subst e1 e2 e3 e4
  rw [nI_clamp (n := 6 + sN A) (by omega)]
  show mm_r (d + 6) mX8_readMore _ 42 [some (.ref 0), some (.int (nI k)), some (.int (nI (sN A)))] [] (wM (zRe W (upd (upd W.2.1.1 (sN A) (nI k)) (6 + sN A) (nI (tkW b n 5 s) - nI (sN A)), W.2.1.2.1, W.2.1.2.2.1, rv (max H (tkW b n 5 s + 1)), q5)))
  refine r_aload_n (i := 0) 43 dX8_readMore_42 rfl rfl rfl ?_
  refine r_getf 46 dX8_readMore_43 rfl fl_X8_13 rfl rfl ?_
  refine r_bipush (v := 12) 48 dX8_readMore_46 rfl rfl ?_
  refine r_iload_n (i := 2) 49 dX8_readMore_48 rfl rfl rfl ?_
  refine r_iadd 50 dX8_readMore_49 rfl ?_
  rw [show (12 : Int32) + nI (sN A) = nI (12 + sN A) from nI_add 12 _]
  refine r_iload_n (i := 1) 51 dX8_readMore_50 rfl rfl rfl ?_
  refine r_iconst (v := 3) 52 dX8_readMore_51 rfl rfl ?_
  refine r_icmp_lt 65 55 dX8_readMore_52 rfl rfl (fun h52 => ?_) (fun h52 => absurd (show nI k < nI 3 from nI_lt (by omega) (by decide)) h52)
  refine r_iconst (v := 0) 66 dX8_readMore_65 rfl rfl ?_
  refine r_iast 67 dX8_readMore_66 rfl rfl (by assumption) ?_
  refine r_aload_n (i := 0) 68 dX8_readMore_67 rfl rfl rfl ?_
  refine r_dup 69 dX8_readMore_68 rfl rfl ?_
  refine r_getf 72 dX8_readMore_69 rfl fl_X8_101 rfl rfl ?_
  refine r_iconst (v := 1) 73 dX8_readMore_72 rfl rfl ?_
  refine r_iadd 74 dX8_readMore_73 rfl ?_
  rw [show (zRe W (upd (upd W.2.1.1 (sN A) (nI k)) (6 + sN A) (nI (tkW b n 5 s) - nI (sN A)), W.2.1.2.1, W.2.1.2.2.1, rv (max H (tkW b n 5 s + 1)), q5)).2.1.2.1 + 1 = nI (sN A + 1) from (by show W.2.1.2.1 + 1 = _; rw [p1, nI_1]), nI_clamp (n := 12 + sN A) (by omega)]
  refine r_putf 77 dX8_readMore_74 rfl fl_X8_101 rfl rfl (fun _ _ => ⟨rfl, rfl⟩) (fun z => absurd z Bool.false_ne_true) ?_
  refine r_goto 171 dX8_readMore_77 rfl ?_
  exact r_retv dX8_readMore_171 rfl ⟨Nat.le_refl _, Nat.le_refl _⟩ (fun _ => rfl) (⟨rfl, (upd (upd (upd W.2.1.1 (sN A) (nI k)) (6 + sN A) (nI (tkW b n 5 s) - nI (sN A))) (12 + sN A) 0, nI (sN A + 1), W.2.1.2.2.1, rv (max H (tkW b n 5 s + 1)), q5), rfl, g1, fun _ => ⟨_, rfl, p2, rfl, by omega, pgR_T p5 h6 (by omega) (Int32.sub_add_cancel _ _) (by rw [Int32.zero_add]), hHi_T p6 (fun m hm => by omega)⟩⟩)
theorem e2_rmT3 (ht : tpM W b n) (hs : sI n s) (hr : RS b (tkT b n s) W.2.1) (hp : PG W.2.1 A x H) (h6 : sN A < 6) {k : Nat} (hk : k = 3 ∨ k = 4) : mm_e (d + 6) yX8_readMore mX8_readMore [.ref 0, .int (nI k)] (wM W) (rmP W b n (tkN b n 5 (tkN b n 5 s)) (aT A k (tkW b n 5 s) (tkW b n 5 (tkN b n 5 s))) x) := by
  obtain ⟨p1, p2, p3, p4, p5, p6⟩ := id hp
  have in1 : vp_in (nI (sN A)) 37 := vp_in_nI (by omega) (by decide)
  have in2 : vp_in (nI (6 + sN A)) 37 := vp_in_nI (by omega) (by decide)
  have in3 : vp_in (nI (12 + sN A)) 37 := vp_in_nI (by omega) (by decide)
  have tl := tkW_le (b := b) (n := n) (most := 5) s
  have tl2 := tkW_le (b := b) (n := n) (most := 5) (tkN b n 5 s)
  refine e_of [some (.ref 0), some (.int (nI k)), none] rfl (by decide) rfl rfl rfl ?_
  refine r_iload_n (i := 1) 1 dX8_readMore_0 rfl rfl rfl ?_
  refine r_iconst (v := 4) 2 dX8_readMore_1 rfl rfl ?_
  refine r_icmp_gt 80 5 dX8_readMore_2 rfl rfl (fun h2 => absurd (blt_of (a := 4) (b := k) (by decide) (by omega) h2) (by omega)) (fun h2 => ?_)
  refine r_aload_n (i := 0) 6 dX8_readMore_5 rfl rfl rfl ?_
  refine r_getf 9 dX8_readMore_6 rfl fl_X8_101 rfl rfl ?_
  rw [show W.2.1.2.1 = nI (sN A) from p1]
  refine r_istore_n (i := 2) 10 dX8_readMore_9 rfl rfl rfl ?_
  refine r_aload_n (i := 0) 11 dX8_readMore_10 rfl rfl rfl ?_
  refine r_getf 14 dX8_readMore_11 rfl fl_X8_13 rfl rfl ?_
  refine r_iload_n (i := 2) 15 dX8_readMore_14 rfl rfl rfl ?_
  refine r_iload_n (i := 1) 16 dX8_readMore_15 rfl rfl rfl ?_
  refine r_iast 17 dX8_readMore_16 rfl rfl (by assumption) ?_
  skip
  rw [nI_clamp (n := sN A) (by omega)]
  show mm_r (d + 6) mX8_readMore _ 17 [some (.ref 0), some (.int (nI k)), some (.int (nI (sN A)))] [] (wM (zRe W (upd W.2.1.1 (sN A) (nI k), W.2.1.2)))
  have et := e2_thingHere (d := d + 1) (W := zRe W (upd W.2.1.1 (sN A) (nI k), W.2.1.2)) (som := 0) ht hs hr (by decide) p3 p4
  rw [nW_0, nV_0] at et
  refine r_aload_n (i := 0) 18 dX8_readMore_17 rfl rfl rfl ?_
  refine r_getf 21 dX8_readMore_18 rfl fl_X8_13 rfl rfl ?_
  refine r_bipush (v := 6) 23 dX8_readMore_21 rfl rfl ?_
  refine r_iload_n (i := 2) 24 dX8_readMore_23 rfl rfl rfl ?_
  refine r_iadd 25 dX8_readMore_24 rfl ?_
  rw [show (6 : Int32) + nI (sN A) = nI (6 + sN A) from nI_add 6 _]
  refine r_iload_n (i := 1) 26 dX8_readMore_25 rfl rfl rfl ?_
  refine r_iconst (v := 1) 27 dX8_readMore_26 rfl rfl ?_
  refine r_icmp_lt 40 30 dX8_readMore_27 rfl rfl (fun h27 => absurd (blt_of (a := k) (b := 1) (by omega) (by decide) h27) (by omega)) (fun h27 => ?_)
  refine r_aload_n (i := 0) 31 dX8_readMore_30 rfl rfl rfl ?_
  refine r_iconst (v := 0) 32 dX8_readMore_31 rfl rfl ?_
  refine r_callMq 35 dX8_readMore_32 rfl ykX8_thingHere lk_X8_98 (et) rfl rfl rfl rfl rfl rfl ⟨Nat.le_refl _, Nat.le_refl _⟩ (fun v u hq => by obtain ⟨-, r, rfl, -⟩ := hq; rfl) (fun v u hq => ?_)
  obtain ⟨rfl, ⟨q1, q2, q3, q4, q5⟩, rfl, g1, e1, e2, e3, e4⟩ := hq
  refine r_iload_n (i := 2) 36 dX8_readMore_35 rfl rfl rfl ?_
  refine r_isub 37 dX8_readMore_36 rfl ?_
  refine r_goto 41 dX8_readMore_37 rfl ?_
  refine r_iast 42 dX8_readMore_41 rfl rfl (by assumption) ?_
  skip
  have e1 : q1 = upd W.2.1.1 (sN A) (nI k) := e1
  have e2 : q2 = W.2.1.2.1 := e2
  have e3 : q3 = W.2.1.2.2.1 := e3
  have e4 : q4 = rv (max H (tkW b n 5 s + 1)) := e4
  subst e1 e2 e3 e4
  rw [nI_clamp (n := 6 + sN A) (by omega)]
  show mm_r (d + 6) mX8_readMore _ 42 [some (.ref 0), some (.int (nI k)), some (.int (nI (sN A)))] [] (wM (zRe W (upd (upd W.2.1.1 (sN A) (nI k)) (6 + sN A) (nI (tkW b n 5 s) - nI (sN A)), W.2.1.2.1, W.2.1.2.2.1, rv (max H (tkW b n 5 s + 1)), q5)))
  have et2 := e2_thingHere (d := d + 1) (W := zRe W (upd (upd W.2.1.1 (sN A) (nI k)) (6 + sN A) (nI (tkW b n 5 s) - nI (sN A)), W.2.1.2.1, W.2.1.2.2.1, rv (max H (tkW b n 5 s + 1)), q5)) (som := 0) (H := max H (tkW b n 5 s + 1)) (s := tkN b n 5 s) ht (sI_tkN hs) g1 (by decide) rfl (by omega)
  rw [nW_0, nV_0] at et2
  refine r_aload_n (i := 0) 43 dX8_readMore_42 rfl rfl rfl ?_
  refine r_getf 46 dX8_readMore_43 rfl fl_X8_13 rfl rfl ?_
  refine r_bipush (v := 12) 48 dX8_readMore_46 rfl rfl ?_
  refine r_iload_n (i := 2) 49 dX8_readMore_48 rfl rfl rfl ?_
  refine r_iadd 50 dX8_readMore_49 rfl ?_
  rw [show (12 : Int32) + nI (sN A) = nI (12 + sN A) from nI_add 12 _]
  refine r_iload_n (i := 1) 51 dX8_readMore_50 rfl rfl rfl ?_
  refine r_iconst (v := 3) 52 dX8_readMore_51 rfl rfl ?_
  refine r_icmp_lt 65 55 dX8_readMore_52 rfl rfl (fun h52 => absurd (blt_of (a := k) (b := 3) (by omega) (by decide) h52) (by omega)) (fun h52 => ?_)
  refine r_aload_n (i := 0) 56 dX8_readMore_55 rfl rfl rfl ?_
  refine r_iconst (v := 0) 57 dX8_readMore_56 rfl rfl ?_
  refine r_callMq 60 dX8_readMore_57 rfl ykX8_thingHere lk_X8_98 (et2) rfl rfl rfl rfl rfl rfl ⟨Nat.le_refl _, Nat.le_refl _⟩ (fun v u hq => by obtain ⟨-, r, rfl, -⟩ := hq; rfl) (fun v u hq => ?_)
  obtain ⟨rfl, ⟨w1, w2, w3, w4, w5⟩, rfl, g2, f1, f2, f3, f4⟩ := hq
  refine r_iload_n (i := 2) 61 dX8_readMore_60 rfl rfl rfl ?_
  refine r_isub 62 dX8_readMore_61 rfl ?_
  refine r_goto 66 dX8_readMore_62 rfl ?_
  refine r_iast 67 dX8_readMore_66 rfl rfl (by assumption) ?_
  skip
  have f1 : w1 = upd (upd W.2.1.1 (sN A) (nI k)) (6 + sN A) (nI (tkW b n 5 s) - nI (sN A)) := f1
  have f2 : w2 = W.2.1.2.1 := f2
  have f3 : w3 = W.2.1.2.2.1 := f3
  have f4 : w4 = rv (max (max H (tkW b n 5 s + 1)) (tkW b n 5 (tkN b n 5 s) + 1)) := f4
  subst f1 f2 f3 f4
  rw [nI_clamp (n := 12 + sN A) (by omega)]
  show mm_r (d + 6) mX8_readMore _ 67 [some (.ref 0), some (.int (nI k)), some (.int (nI (sN A)))] [] (wM (zRe W (upd (upd (upd W.2.1.1 (sN A) (nI k)) (6 + sN A) (nI (tkW b n 5 s) - nI (sN A))) (12 + sN A) (nI (tkW b n 5 (tkN b n 5 s)) - nI (sN A)), W.2.1.2.1, W.2.1.2.2.1, rv (max (max H (tkW b n 5 s + 1)) (tkW b n 5 (tkN b n 5 s) + 1)), w5)))
  refine r_aload_n (i := 0) 68 dX8_readMore_67 rfl rfl rfl ?_
  refine r_dup 69 dX8_readMore_68 rfl rfl ?_
  refine r_getf 72 dX8_readMore_69 rfl fl_X8_101 rfl rfl ?_
  refine r_iconst (v := 1) 73 dX8_readMore_72 rfl rfl ?_
  refine r_iadd 74 dX8_readMore_73 rfl ?_
  rw [show (zRe W (upd (upd (upd W.2.1.1 (sN A) (nI k)) (6 + sN A) (nI (tkW b n 5 s) - nI (sN A))) (12 + sN A) (nI (tkW b n 5 (tkN b n 5 s)) - nI (sN A)), W.2.1.2.1, W.2.1.2.2.1, rv (max (max H (tkW b n 5 s + 1)) (tkW b n 5 (tkN b n 5 s) + 1)), w5)).2.1.2.1 + 1 = nI (sN A + 1) from (by show W.2.1.2.1 + 1 = _; rw [p1, nI_1])]
  refine r_putf 77 dX8_readMore_74 rfl fl_X8_101 rfl rfl (fun _ _ => ⟨rfl, rfl⟩) (fun z => absurd z Bool.false_ne_true) ?_
  refine r_goto 171 dX8_readMore_77 rfl ?_
  exact r_retv dX8_readMore_171 rfl ⟨Nat.le_refl _, Nat.le_refl _⟩ (fun _ => rfl) (⟨rfl, (upd (upd (upd W.2.1.1 (sN A) (nI k)) (6 + sN A) (nI (tkW b n 5 s) - nI (sN A))) (12 + sN A) (nI (tkW b n 5 (tkN b n 5 s)) - nI (sN A)), nI (sN A + 1), W.2.1.2.2.1, rv (max (max H (tkW b n 5 s + 1)) (tkW b n 5 (tkN b n 5 s) + 1)), w5), rfl, g2, fun _ => ⟨_, rfl, p2, rfl, by omega, pgR_T p5 h6 (by omega) (Int32.sub_add_cancel _ _) (Int32.sub_add_cancel _ _), hHi_T p6 (fun m hm => by omega)⟩⟩)
theorem e2_rmS (ht : tpM W b n) (hs : sI n s) (hr : RS b (tkT b n s) W.2.1) (hp : PG W.2.1 A x H) : mm_e (d + 6) yX8_readMore mX8_readMore [.ref 0, .int (nI 5)] (wM W) (rmP W b n (fIf (decide (tb x (tkW b n 5 s) = 1)) 4 (tkN b n 5 s)) A (x ||| 2 ^ tkW b n 5 s)) := by
  obtain ⟨p1, p2, p3, p4, p5, p6⟩ := id hp
  have x64 := p5.2.2.2.2.2.2.2.2
  have in18 : vp_in (18 : Int32) 37 := vp_in_nI (n := 18) (by decide) (by decide)
  have e18 : W.2.1.1 (18 : Int32).toNatClampNeg = nI x := p5.2.2.2.2.1.1
  have nl := nV_le b n 5 x s
  refine e_of [some (.ref 0), some (.int (nI 5)), none] rfl (by decide) rfl rfl rfl ?_
  refine r_iload_n (i := 1) 1 dX8_readMore_0 rfl rfl rfl ?_
  refine r_iconst (v := 4) 2 dX8_readMore_1 rfl rfl ?_
  refine r_icmp_gt 80 5 dX8_readMore_2 rfl rfl (fun h2 => ?_) (fun h2 => absurd (show (4 : Int32) < nI 5 from by decide) h2)
  refine r_iload_n (i := 1) 81 dX8_readMore_80 rfl rfl rfl ?_
  refine r_iconst (v := 5) 82 dX8_readMore_81 rfl rfl ?_
  refine r_icmp_ne 111 85 dX8_readMore_82 rfl rfl (fun h82 => absurd rfl h82) (fun h82 => ?_)
  refine r_aload_n (i := 0) 86 dX8_readMore_85 rfl rfl rfl ?_
  refine r_getf 89 dX8_readMore_86 rfl fl_X8_13 rfl rfl ?_
  refine r_bipush (v := 18) 91 dX8_readMore_89 rfl rfl ?_
  refine r_dup2 92 dX8_readMore_91 rfl rfl rfl ?_
  refine r_iald 93 dX8_readMore_92 rfl rfl (by assumption) ?_
  rw [e18]
  refine r_iconst (v := 1) 94 dX8_readMore_93 rfl rfl ?_
  refine r_aload_n (i := 0) 95 dX8_readMore_94 rfl rfl rfl ?_
  refine r_aload_n (i := 0) 96 dX8_readMore_95 rfl rfl rfl ?_
  refine r_getf 99 dX8_readMore_96 rfl fl_X8_13 rfl rfl ?_
  refine r_bipush (v := 18) 101 dX8_readMore_99 rfl rfl ?_
  refine r_iald 102 dX8_readMore_101 rfl rfl (by assumption) ?_
  rw [e18]
  refine r_callMq 105 dX8_readMore_102 rfl ykX8_thingHere lk_X8_98 (e2_thingHere (som := x) ht hs hr (by omega) p3 p4) rfl rfl rfl rfl rfl rfl ⟨Nat.le_refl _, Nat.le_refl _⟩ (fun v u hq => by obtain ⟨-, r, rfl, -⟩ := hq; rfl) (fun v u hq => ?_)
  obtain ⟨rfl, ⟨q1, q2, q3, q4, q5⟩, rfl, g1, e1, e2, e3, e4⟩ := hq
  refine r_ishl 106 dX8_readMore_105 rfl ?_
  refine r_ior 107 dX8_readMore_106 rfl ?_
  rw [n_shl1 (by omega), fa_or]
  refine r_iast 108 dX8_readMore_107 rfl rfl (by assumption) ?_
  refine r_goto 171 dX8_readMore_108 rfl ?_
  exact r_retv dX8_readMore_171 rfl ⟨Nat.le_refl _, Nat.le_refl _⟩ (fun _ => rfl) (⟨rfl, (upd q1 18 (nI (x ||| 2 ^ nV b n 5 x s)), q2, q3, q4, q5), rfl, g1, fun z => (by have ez : nV b n 5 x s = tkW b n 5 s := (nV_S z); have e1 : q1 = W.2.1.1 := e1; have e2 : q2 = W.2.1.2.1 := e2; have e3 : q3 = W.2.1.2.2.1 := e3; have e4 : q4 = rv (max H (nV b n 5 x s + 1)) := e4; subst e1 e2 e3 e4; rw [← ez]; exact ⟨_, p1, p2, rfl, by omega, pgR_S p5 (by omega), hHi_S p6⟩)⟩)
theorem e2_rmG (ht : tpM W b n) (hs : sI n s) (hr : RS b (tkT b n s) W.2.1) (hp : PG W.2.1 A x H) (h4 : sG A < 4) : mm_e (d + 6) yX8_readMore mX8_readMore [.ref 0, .int (nI 6)] (wM W) (rmP W b n (tkN b n 9 (tkN b n 5 s)) (aG A (tkW b n 5 s) (tkW b n 9 (tkN b n 5 s))) x) := by
  obtain ⟨p1, p2, p3, p4, p5, p6⟩ := id hp
  have in1 : vp_in (nI (19 + sG A)) 37 := vp_in_nI (by omega) (by decide)
  have in2 : vp_in (nI (23 + sG A)) 37 := vp_in_nI (by omega) (by decide)
  have tl := tkW_le (b := b) (n := n) (most := 5) s
  have tl2 := tkW_le (b := b) (n := n) (most := 9) (tkN b n 5 s)
  have et := e2_thingHere (d := d + 1) (som := 0) ht hs hr (by decide) p3 p4
  rw [nW_0, nV_0] at et
  refine e_of [some (.ref 0), some (.int (nI 6)), none] rfl (by decide) rfl rfl rfl ?_
  refine r_iload_n (i := 1) 1 dX8_readMore_0 rfl rfl rfl ?_
  refine r_iconst (v := 4) 2 dX8_readMore_1 rfl rfl ?_
  refine r_icmp_gt 80 5 dX8_readMore_2 rfl rfl (fun h2 => ?_) (fun h2 => absurd (show (4 : Int32) < nI 6 from by decide) h2)
  refine r_iload_n (i := 1) 81 dX8_readMore_80 rfl rfl rfl ?_
  refine r_iconst (v := 5) 82 dX8_readMore_81 rfl rfl ?_
  refine r_icmp_ne 111 85 dX8_readMore_82 rfl rfl (fun h82 => ?_) (fun h82 => absurd h82 (by decide))
  refine r_iload_n (i := 1) 112 dX8_readMore_111 rfl rfl rfl ?_
  refine r_bipush (v := 6) 114 dX8_readMore_112 rfl rfl ?_
  refine r_icmp_ne 167 117 dX8_readMore_114 rfl rfl (fun h114 => absurd rfl h114) (fun h114 => ?_)
  refine r_aload_n (i := 0) 118 dX8_readMore_117 rfl rfl rfl ?_
  refine r_getf 121 dX8_readMore_118 rfl fl_X8_13 rfl rfl ?_
  refine r_bipush (v := 19) 123 dX8_readMore_121 rfl rfl ?_
  refine r_aload_n (i := 0) 124 dX8_readMore_123 rfl rfl rfl ?_
  refine r_getf 127 dX8_readMore_124 rfl fl_X8_104 rfl rfl ?_
  rw [show W.2.1.2.2.1 = nI (sG A) from p2]
  refine r_iadd 128 dX8_readMore_127 rfl ?_
  rw [show (19 : Int32) + nI (sG A) = nI (19 + sG A) from nI_add 19 _]
  refine r_aload_n (i := 0) 129 dX8_readMore_128 rfl rfl rfl ?_
  refine r_iconst (v := 0) 130 dX8_readMore_129 rfl rfl ?_
  refine r_callMq 133 dX8_readMore_130 rfl ykX8_thingHere lk_X8_98 (et) rfl rfl rfl rfl rfl rfl ⟨Nat.le_refl _, Nat.le_refl _⟩ (fun v u hq => by obtain ⟨-, r, rfl, -⟩ := hq; rfl) (fun v u hq => ?_)
  obtain ⟨rfl, ⟨q1, q2, q3, q4, q5⟩, rfl, g1, e1, e2, e3, e4⟩ := hq
  refine r_iast 134 dX8_readMore_133 rfl rfl (by assumption) ?_
  skip
  have e1 : q1 = W.2.1.1 := e1
  have e2 : q2 = W.2.1.2.1 := e2
  have e3 : q3 = W.2.1.2.2.1 := e3
  have e4 : q4 = rv (max H (tkW b n 5 s + 1)) := e4
  subst e1 e2 e3 e4
  rw [nI_clamp (n := 19 + sG A) (by omega), p2]
  show mm_r (d + 6) mX8_readMore _ 134 [some (.ref 0), some (.int (nI 6)), none] [] (wM (zRe W (upd W.2.1.1 (19 + sG A) (nI (tkW b n 5 s)), W.2.1.2.1, nI (sG A), rv (max H (tkW b n 5 s + 1)), q5)))
  have eo := e2_other (d := d + 2) (W := zRe W (upd W.2.1.1 (19 + sG A) (nI (tkW b n 5 s)), W.2.1.2.1, nI (sG A), rv (max H (tkW b n 5 s + 1)), q5)) (som := 0) (most := 9) (s := tkN b n 5 s) ht (sI_tkN hs) g1 (by decide) (by decide)
  rw [nW_0, nV_0] at eo
  refine r_aload_n (i := 0) 135 dX8_readMore_134 rfl rfl rfl ?_
  refine r_getf 138 dX8_readMore_135 rfl fl_X8_13 rfl rfl ?_
  refine r_bipush (v := 23) 140 dX8_readMore_138 rfl rfl ?_
  refine r_aload_n (i := 0) 141 dX8_readMore_140 rfl rfl rfl ?_
  refine r_getf 144 dX8_readMore_141 rfl fl_X8_104 rfl rfl ?_
  rw [show (zRe W (upd W.2.1.1 (19 + sG A) (nI (tkW b n 5 s)), W.2.1.2.1, nI (sG A), rv (max H (tkW b n 5 s + 1)), q5)).2.1.2.2.1 = nI (sG A) from rfl]
  refine r_iadd 145 dX8_readMore_144 rfl ?_
  rw [show (23 : Int32) + nI (sG A) = nI (23 + sG A) from nI_add 23 _]
  refine r_aload_n (i := 0) 146 dX8_readMore_145 rfl rfl rfl ?_
  refine r_iconst (v := 0) 147 dX8_readMore_146 rfl rfl ?_
  refine r_bipush (v := 9) 149 dX8_readMore_147 rfl rfl ?_
  refine r_iconst (v := 0) 150 dX8_readMore_149 rfl rfl ?_
  refine r_callMq 153 dX8_readMore_150 rfl ykX8_other lk_X8_91 (eo) rfl rfl rfl rfl rfl rfl ⟨Nat.le_refl _, Nat.le_refl _⟩ (fun v u hq => by obtain ⟨-, r, rfl, -⟩ := hq; rfl) (fun v u hq => ?_)
  obtain ⟨rfl, ⟨w1, w2, w3, w4, w5⟩, rfl, g2, f1, f2, f3, f4⟩ := hq
  refine r_iast 154 dX8_readMore_153 rfl rfl (by assumption) ?_
  skip
  have f1 : w1 = upd W.2.1.1 (19 + sG A) (nI (tkW b n 5 s)) := f1
  have f2 : w2 = W.2.1.2.1 := f2
  have f3 : w3 = nI (sG A) := f3
  have f4 : w4 = rv (max H (tkW b n 5 s + 1)) := f4
  subst f1 f2 f3 f4
  rw [nI_clamp (n := 23 + sG A) (by omega)]
  show mm_r (d + 6) mX8_readMore _ 154 [some (.ref 0), some (.int (nI 6)), none] [] (wM (zRe W (upd (upd W.2.1.1 (19 + sG A) (nI (tkW b n 5 s))) (23 + sG A) (nI (tkW b n 9 (tkN b n 5 s))), W.2.1.2.1, nI (sG A), rv (max H (tkW b n 5 s + 1)), w5)))
  refine r_aload_n (i := 0) 155 dX8_readMore_154 rfl rfl rfl ?_
  refine r_dup 156 dX8_readMore_155 rfl rfl ?_
  refine r_getf 159 dX8_readMore_156 rfl fl_X8_104 rfl rfl ?_
  refine r_iconst (v := 1) 160 dX8_readMore_159 rfl rfl ?_
  refine r_iadd 161 dX8_readMore_160 rfl ?_
  rw [show (zRe W (upd (upd W.2.1.1 (19 + sG A) (nI (tkW b n 5 s))) (23 + sG A) (nI (tkW b n 9 (tkN b n 5 s))), W.2.1.2.1, nI (sG A), rv (max H (tkW b n 5 s + 1)), w5)).2.1.2.2.1 + 1 = nI (sG A + 1) from nI_1 (sG A)]
  refine r_putf 164 dX8_readMore_161 rfl fl_X8_104 rfl rfl (fun _ _ => ⟨rfl, rfl⟩) (fun z => absurd z Bool.false_ne_true) ?_
  refine r_goto 171 dX8_readMore_164 rfl ?_
  exact r_retv dX8_readMore_171 rfl ⟨Nat.le_refl _, Nat.le_refl _⟩ (fun _ => rfl) (⟨rfl, (upd (upd W.2.1.1 (19 + sG A) (nI (tkW b n 5 s))) (23 + sG A) (nI (tkW b n 9 (tkN b n 5 s))), W.2.1.2.1, nI (sG A + 1), rv (max H (tkW b n 5 s + 1)), w5), rfl, g2, fun _ => ⟨_, p1, rfl, rfl, by omega, pgR_G p5 h4 tl2, hHi_G p6⟩⟩)
end MQ
