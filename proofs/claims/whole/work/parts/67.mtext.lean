-- THE REFERENCE'S TEXT
theorem whl_iff {A : sA} {x : Nat} : whl A x = true ↔ hAll A x (sN A) := by
  unfold whl hAll
  simp only [Bool.and_eq_true, decide_eq_true_eq]
  rw [allb_iff, allb_iff, allb_iff]
  unfold wh1 wh2 wh3
  simp only [Bool.and_eq_true, decide_eq_true_eq]
  constructor
  · rintro ⟨⟨⟨a, b⟩, c⟩, e⟩; exact ⟨a, b, c, e⟩
  · rintro ⟨a, b, c, e⟩; exact ⟨⟨⟨a, b⟩, c⟩, e⟩
theorem rv_lt {m H : Nat} (hm : m < 100) (hH : H < 100) : rv H < nI m ↔ H ≤ m := by
  rw [rv, fa_lt, show (1 : Int32) = nI 1 from rfl, pk_sub_toInt (by omega) (by decide), nI_toInt (by omega)]
  omega
theorem RS_tkT {b : Nat → Nat} {n : Nat} {s : pS} {r : mRe} (h0 : pF s = 0) (h : RS b (tkT b n s) r) : RS b (tkT b n (pP s, 0, 0, 0, 0)) r := by
  have e1 : tkT b n s = fIf (decide (tK b n (pP s) = 0)) 1 (tE b n (pP s), tK b n (pP s), tB b n (pP s), 0, pL s) := by unfold tkT; rw [if_pos h0]
  have e2 : tkT b n (pP s, 0, 0, 0, 0) = fIf (decide (tK b n (pP s) = 0)) 1 (tE b n (pP s), tK b n (pP s), tB b n (pP s), 0, 0) := by
    show (if pF ((pP s, 0, 0, 0, 0) : pS) = 0 then _ else _) = _
    rw [if_pos rfl]
  rw [e1] at h
  rw [e2]
  cases hd : decide (tK b n (pP s) = 0) with
  | true =>
    rw [hd] at h
    exact h
  | false =>
    rw [hd] at h
    exact ⟨h.1, fun w => absurd rfl w, h.2.2⟩
theorem mpg_pgR {p f : Nat → Int32} {A : sA} {x : Nat} (h : pgR p A x) (hA : hAll A x (sN A)) (hf : ∀ i, i < 37 → f i = p i) : mpg f A ∧ f 18 = nI x ∧ f 36 = 0 := by
  obtain ⟨h1, h2, h3, h4, ⟨h5, h7⟩, b1, b2, b3, b4⟩ := h
  obtain ⟨a1, a2, a3, a4⟩ := hA
  refine ⟨⟨fun i hi => ?_, fun i hi => ?_, ?_, fun i hi => ?_, b1, fun i hi => ⟨(h1 i hi).2.2.2, a2 i hi⟩, b2, fun i hi => ⟨a3 i hi, (h2 i hi).2.2⟩, b3, a4⟩, ?_, ?_⟩
  · rw [hf i (by omega), hf (6 + i) (by omega), hf (12 + i) (by omega)]
    exact ⟨(h1 i hi).1, (h1 i hi).2.1, (h1 i hi).2.2.1⟩
  · rw [hf (19 + i) (by omega), hf (23 + i) (by omega)]
    exact ⟨(h2 i hi).1, (h2 i hi).2.1⟩
  · rw [hf 35 (by decide)]; exact h3
  · rw [hf (27 + 2 * i) (by omega), hf (27 + 2 * i + 1) (by omega)]
    exact h4 i hi
  · rw [hf 18 (by decide)]; exact h5
  · rw [hf 36 (by decide)]; exact h7
section MS
variable {d : Nat} {S : sT} {w : mm_W} {W : MT} {b : Nat → Nat} {n : Nat}
theorem l2_text0 {r : mRe} {Qf : Option Value → mm_W → Prop} (kk : ∀ p, (∀ i, i < 37 → p i = 0) → mm_r (d + 8) mX8_text Qf 48 [some (.ref 0), some (.int 0), some (.int (nI 37))] [] (wM (zRe W (p, r.2)))) : ∀ (k i : Nat) (p : Nat → Int32), 37 - i = k → i ≤ 37 → (∀ j, j < i → p j = 0) → mm_r (d + 8) mX8_text Qf 29 [some (.ref 0), some (.int 0), some (.int (nI i))] [] (wM (zRe W (p, r.2))) := by
  intro k
  induction k with
  | zero =>
    intro i p hk hi hp
    have : i = 37 := by omega
    subst this
    refine r_iload_n (i := 2) 30 dX8_text_29 rfl rfl rfl ?_
    refine r_bipush (v := 37) 32 dX8_text_30 rfl rfl ?_
    refine r_icmp_ge 48 35 dX8_text_32 rfl rfl (fun h32 => ?_) (fun h32 => absurd (show (37 : Int32) ≤ nI 37 from by decide) h32)
    exact kk p hp
  | succ k ih =>
    intro i p hk hi hp
    have hin : vp_in (nI i) 37 := vp_in_nI (by omega) (by decide)
    refine r_iload_n (i := 2) 30 dX8_text_29 rfl rfl rfl ?_
    refine r_bipush (v := 37) 32 dX8_text_30 rfl rfl ?_
    refine r_icmp_ge 48 35 dX8_text_32 rfl rfl (fun h32 => absurd (ble_of (a := 37) (b := i) (by decide) (by omega) h32) (by omega)) (fun h32 => ?_)
    refine r_aload_n (i := 0) 36 dX8_text_35 rfl rfl rfl ?_
    refine r_getf 39 dX8_text_36 rfl fl_X8_13 rfl rfl ?_
    refine r_iload_n (i := 2) 40 dX8_text_39 rfl rfl rfl ?_
    refine r_iconst (v := 0) 41 dX8_text_40 rfl rfl ?_
    refine r_iast 42 dX8_text_41 rfl rfl (by assumption) ?_
    refine r_iinc (i := 2) 45 dX8_text_42 rfl rfl (by first | exact nI_1 _ | rfl) rfl ?_
    refine r_goto 29 dX8_text_45 rfl ?_
    refine r_eq (ih (i + 1) (upd p i 0) (by omega) (by omega) (fun j hj => ?_)) rfl rfl (by rw [nI_clamp (n := i) (by omega)]; rfl)
    by_cases q : j = i <;> simp only [upd, q, if_true, if_false]
    exact hp j (by omega)
theorem l2_text2 {r : mRe} {l : Int32} {Qf : Option Value → mm_W → Prop} (kk : ∀ f, (∀ i, i < 37 → f i = r.1 i) → mm_r (d + 8) mX8_text Qf 154 [some (.ref 0), some (.int l), some (.int (nI 37))] [] (wM (zRe (zSt W f) r))) : ∀ (k i : Nat) (f : Nat → Int32), 37 - i = k → i ≤ 37 → (∀ j, j < i → f j = r.1 j) → mm_r (d + 8) mX8_text Qf 130 [some (.ref 0), some (.int l), some (.int (nI i))] [] (wM (zRe (zSt W f) r)) := by
  intro k
  induction k with
  | zero =>
    intro i f hk hi hf
    have : i = 37 := by omega
    subst this
    refine r_iload_n (i := 2) 131 dX8_text_130 rfl rfl rfl ?_
    refine r_bipush (v := 37) 133 dX8_text_131 rfl rfl ?_
    refine r_icmp_ge 154 136 dX8_text_133 rfl rfl (fun h133 => ?_) (fun h133 => absurd (show (37 : Int32) ≤ nI 37 from by decide) h133)
    exact kk f hf
  | succ k ih =>
    intro i f hk hi hf
    have hin : vp_in (nI i) 37 := vp_in_nI (by omega) (by decide)
    have hin2 : vp_in (nI i) 148 := vp_in_nI (by omega) (by decide)
    refine r_iload_n (i := 2) 131 dX8_text_130 rfl rfl rfl ?_
    refine r_bipush (v := 37) 133 dX8_text_131 rfl rfl ?_
    refine r_icmp_ge 154 136 dX8_text_133 rfl rfl (fun h133 => absurd (ble_of (a := 37) (b := i) (by decide) (by omega) h133) (by omega)) (fun h133 => ?_)
    refine r_aload_n (i := 0) 137 dX8_text_136 rfl rfl rfl ?_
    refine r_getf 140 dX8_text_137 rfl fl_X8_7 rfl rfl ?_
    refine r_iload_n (i := 2) 141 dX8_text_140 rfl rfl rfl ?_
    refine r_aload_n (i := 0) 142 dX8_text_141 rfl rfl rfl ?_
    refine r_getf 145 dX8_text_142 rfl fl_X8_13 rfl rfl ?_
    refine r_iload_n (i := 2) 146 dX8_text_145 rfl rfl rfl ?_
    refine r_iald 147 dX8_text_146 rfl rfl (by assumption) ?_
    refine r_iast 148 dX8_text_147 rfl rfl (by assumption) ?_
    refine r_iinc (i := 2) 151 dX8_text_148 rfl rfl (by first | exact nI_1 _ | rfl) rfl ?_
    refine r_goto 130 dX8_text_151 rfl ?_
    refine r_eq (ih (i + 1) (upd f i (r.1 i)) (by omega) (by omega) (fun j hj => ?_)) rfl rfl (by rw [nI_clamp (n := i) (by omega)]; rfl)
    by_cases q : j = i
    (· subst q; rw [u_at])
    (· rw [u_ne q]; exact hf j (by omega))
theorem tT_le {b : Nat → Nat} {n p : Nat} (hp : p ≤ n) (h : pF (tkT b n (p, 0, 0, 0, 0)) = 0) : pT (tkT b n (p, 0, 0, 0, 0)) ≤ pP (tkT b n (p, 0, 0, 0, 0)) := by
  obtain ⟨-, -, h3⟩ := tkT_ok h
  rw [h3]
  exact (tE_le hp).1
theorem l2_text1 (ht : tpM W b n) {Qf : Option Value → mm_W → Prop} {R : pZ × Nat} (out : ∀ (r : mRe) (L : Int32), RS b R.1.1 r → (pF R.1.1 = 0 → (∃ H, PG r R.1.2.1 R.1.2.2 H) ∧ L = nI R.2) → mm_r (d + 8) mX8_text Qf 76 [some (.ref 0), some (.int L), some (.int (nI 37))] [] (wM (zRe W r))) : ∀ (k p x m : Nat) (A : sA) (r : mRe), k + m = 160 → 2 * m ≤ p → p ≤ n → RS b (tkT b n (p, 0, 0, 0, 0)) r → (∃ H, PG r A x H) → R = c_loop b n k p A x m → mm_r (d + 8) mX8_text Qf 52 [some (.ref 0), some (.int (nI m)), some (.int (nI 37))] [] (wM (zRe W r)) := by
  have t2 := ht.2.1
  intro k
  induction k with
  | zero => intro p x m A r hk hm hp; omega
  | succ k ih =>
    intro p x m A r hk hm hp hr hpg eR
    have s0 : sI n (p, 0, 0, 0, 0) := sI_0 hp
    have s1 := sI_tkT (b := b) s0
    have f6 := s1.2.2.2.1
    by_cases z : ¬ pF (tkT b n (p, 0, 0, 0, 0)) = 0 ∨ pK (tkT b n (p, 0, 0, 0, 0)) = 4
    · have eR2 : R = ((tkT b n (p, 0, 0, 0, 0), A, x), m) := by
        rw [eR, c_loop, c_line_no z]
        rfl
      have o4 := out r (nI m) (by rw [eR2]; exact hr) (fun _ => by rw [eR2]; exact ⟨hpg, rfl⟩)
      by_cases y : pF (tkT b n (p, 0, 0, 0, 0)) = 0
      · have k4 := z.resolve_left (fun w => w y)
        have b0 : rB r = 0 := by rw [hr.1, y]; rfl
        have b4 : rK r = 0 := by rw [(hr.2.2 y).2.2.1, k4]; rfl
        refine r_aload_n (i := 0) 53 dX8_text_52 rfl rfl rfl ?_
        refine r_getf 56 dX8_text_53 rfl fl_X8_54 rfl rfl ?_
        refine r_if_ne 76 59 dX8_text_56 rfl rfl (fun h56 => absurd b0 h56) (fun h56 => ?_)
        refine r_aload_n (i := 0) 60 dX8_text_59 rfl rfl rfl ?_
        refine r_getf 63 dX8_text_60 rfl fl_X8_63 rfl rfl ?_
        refine r_if_eq 76 66 dX8_text_63 rfl rfl (fun h63 => ?_) (fun h63 => absurd b4 h63)
        exact o4
      · have b0 : ¬ rB r = 0 := by rw [hr.1]; exact nI_ne0 (by omega) (by omega)
        refine r_aload_n (i := 0) 53 dX8_text_52 rfl rfl rfl ?_
        refine r_getf 56 dX8_text_53 rfl fl_X8_54 rfl rfl ?_
        refine r_if_ne 76 59 dX8_text_56 rfl rfl (fun h56 => ?_) (fun h56 => absurd h56 b0)
        exact o4
    · have y : pF (tkT b n (p, 0, 0, 0, 0)) = 0 := Classical.byContradiction (fun w => z (Or.inl w))
      have k4 : ¬ pK (tkT b n (p, 0, 0, 0, 0)) = 4 := fun w => z (Or.inr w)
      obtain ⟨k0, k1⟩ := tkT_K y
      obtain ⟨H, pg⟩ := hpg
      have b0 : rB r = 0 := by rw [hr.1, y]; rfl
      have b4 : ¬ rK r = 0 := by
        rw [(hr.2.2 y).2.2.1, mtk, if_neg k4]
        exact nI_ne0 (by omega) (by omega)
      have eL := c_line_go (b := b) (n := n) (A := A) (x := x) z
      have sB := sI_body (b := b) (A := A) s1 x
      have eR2 : R = if (c_line b n p A x).1 then c_loop b n k (pP (c_line b n p A x).2.1) (c_line b n p A x).2.2.1 (c_line b n p A x).2.2.2 (m + 1) else ((c_line b n p A x).2, m) := by rw [eR, c_loop]
      have st := stp_line (b := b) (n := n) (A := A) (x := x) hp
      rw [eL] at eR2 st
      dsimp only at eR2 st
      generalize hZ : c_body b n (tkT b n (p, 0, 0, 0, 0), A, x) = Z at *
      have er := e2_readLine (d := d) (W := zRe W r) ht s1 y (tT_le hp y) hr pg
      rw [hZ] at er
      refine r_aload_n (i := 0) 53 dX8_text_52 rfl rfl rfl ?_
      refine r_getf 56 dX8_text_53 rfl fl_X8_54 rfl rfl ?_
      refine r_if_ne 76 59 dX8_text_56 rfl rfl (fun h56 => absurd b0 h56) (fun h56 => ?_)
      refine r_aload_n (i := 0) 60 dX8_text_59 rfl rfl rfl ?_
      refine r_getf 63 dX8_text_60 rfl fl_X8_63 rfl rfl ?_
      refine r_if_eq 76 66 dX8_text_63 rfl rfl (fun h63 => absurd h63 b4) (fun h63 => ?_)
      refine r_aload_n (i := 0) 67 dX8_text_66 rfl rfl rfl ?_
      refine r_callMq 70 dX8_text_67 rfl ykX8_readLine lk_X8_119 (er) rfl rfl rfl rfl rfl rfl ⟨Nat.le_refl _, Nat.le_refl _⟩ (fun v u hq => by obtain ⟨-, r, rfl, -⟩ := hq; rfl) (fun v u hq => ?_)
      obtain ⟨rfl, r2, rfl, g1, g2⟩ := hq
      by_cases w : pF Z.1 = 0
      · rw [decide_eq_true w, if_pos rfl] at eR2
        obtain ⟨-, -, st3, st4⟩ := st (decide_eq_true w)
        refine r_iinc (i := 1) 73 dX8_text_70 rfl rfl (by first | exact nI_1 _ | rfl) rfl ?_
        refine r_goto 52 dX8_text_73 rfl ?_
        exact ih (pP Z.1) Z.2.2 (m + 1) Z.2.1 r2 (by omega) (by omega) st4 (RS_tkT w g1) (g2 w) eR2
      · rw [decide_eq_false w, if_neg (by decide)] at eR2
        have g1' : RS b Z.1 r2 := by rw [tkT_nz w] at g1; exact g1
        have b9 : ¬ rB r2 = 0 := by rw [g1'.1]; exact nI_ne0 (by omega) (by have := sB.2.2.2.1; omega)
        have o4 := out r2 (nI (m + 1)) (by rw [eR2]; exact g1') (fun w2 => absurd (by rw [eR2] at w2; exact w2) w)
        refine r_iinc (i := 1) 73 dX8_text_70 rfl rfl (nI_1 _) rfl ?_
        refine r_goto 52 dX8_text_73 rfl ?_
        skip
        refine r_aload_n (i := 0) 53 dX8_text_52 rfl rfl rfl ?_
        refine r_getf 56 dX8_text_53 rfl fl_X8_54 rfl rfl ?_
        refine r_if_ne 76 59 dX8_text_56 rfl rfl (fun h56 => ?_) (fun h56 => absurd h56 b9)
        exact o4
theorem q_text (hT : tOk S) (hC : CM S w) : mm_e (d + 8) yX8_text mX8_text [.ref 0] w (QM (s_text S).1 (s_text S).2) := by
  have hC0 := hC
  obtain ⟨W, rfl, hR⟩ := hC
  obtain ⟨hM, ⟨hx, hy⟩, ⟨ht, hb⟩, hf, ⟨v1, v2⟩, ⟨hk0, hk1⟩, hI, hH, hn⟩ := id hR
  have h6 := hM.n6
  have h4 := hM.g4
  have h5 := hM.b4
  have p6 := p2_le hM.n6
  have l0 := hM.lt31 hT.2.1
  have i18 : vp_in (18 : Int32) 148 := vp_in_nI (n := 18) (by decide) (by decide)
  have i35 : vp_in (35 : Int32) 148 := vp_in_nI (n := 35) (by decide) (by decide)
  have i36 : vp_in (36 : Int32) 148 := vp_in_nI (n := 36) (by decide) (by decide)
  have ex : W.1.1 (18 : Int32).toNatClampNeg = nI (tX S) := hx
  have ey : W.1.1 (36 : Int32).toNatClampNeg = nI (tY S) := hy
  have eb : W.1.1 (35 : Int32).toNatClampNeg = nI (sB (tA S)) := hM.bn
  refine e_of [some (.ref 0), none, none] rfl (by decide) rfl rfl rfl ?_
  have ht0 : tpM W (tT S).2 (tT S).1 := ⟨ht, hT.2.2.2.1, fun i hi => ⟨hb i hi, hT.2.2.2.2.1 i hi⟩⟩
  have hnl := hT.2.2.2.1
  have z0 : vp_in (0 : Int32) 2 := vp_in_nI (n := 0) (by decide) (by decide)
  have z1 : vp_in (1 : Int32) 2 := vp_in_nI (n := 1) (by decide) (by decide)
  obtain ⟨ok1, ok2⟩ := c_all_ok (tT S).2 (tT S).1
  have ea : fIf (!whl (c_read (tT S).2 (tT S).1).1.2.1 (c_read (tT S).2 (tT S).1).1.2.2) 6 (c_read (tT S).2 (tT S).1).1.1 = c_all (tT S).2 (tT S).1 := rfl
  have sr := (c_loop_ok (b := (tT S).2) (n := (tT S).1) 160 0 A0 0 0 (Nat.zero_le _)).1
  have sr : sI (tT S).1 (c_read (tT S).2 (tT S).1).1.1 := sr
  refine r_aload_n (i := 0) 1 dX8_text_0 rfl rfl rfl ?_
  refine r_iconst (v := 0) 2 dX8_text_1 rfl rfl ?_
  refine r_putf 5 dX8_text_2 rfl fl_X8_54 rfl rfl (fun _ _ => ⟨rfl, rfl⟩) (fun z => absurd z Bool.false_ne_true) ?_
  refine r_aload_n (i := 0) 6 dX8_text_5 rfl rfl rfl ?_
  refine r_iconst (v := 0) 7 dX8_text_6 rfl rfl ?_
  refine r_putf 10 dX8_text_7 rfl fl_X8_66 rfl rfl (fun _ _ => ⟨rfl, rfl⟩) (fun z => absurd z Bool.false_ne_true) ?_
  refine r_aload_n (i := 0) 11 dX8_text_10 rfl rfl rfl ?_
  refine r_iconst (v := 0) 12 dX8_text_11 rfl rfl ?_
  refine r_putf 15 dX8_text_12 rfl fl_X8_101 rfl rfl (fun _ _ => ⟨rfl, rfl⟩) (fun z => absurd z Bool.false_ne_true) ?_
  refine r_aload_n (i := 0) 16 dX8_text_15 rfl rfl rfl ?_
  refine r_iconst (v := 0) 17 dX8_text_16 rfl rfl ?_
  refine r_putf 20 dX8_text_17 rfl fl_X8_104 rfl rfl (fun _ _ => ⟨rfl, rfl⟩) (fun z => absurd z Bool.false_ne_true) ?_
  refine r_aload_n (i := 0) 21 dX8_text_20 rfl rfl rfl ?_
  refine r_iconst (v := (-1)) 22 dX8_text_21 rfl rfl ?_
  refine r_putf 25 dX8_text_22 rfl fl_X8_95 rfl rfl (fun _ _ => ⟨rfl, rfl⟩) (fun z => absurd z Bool.false_ne_true) ?_
  refine r_iconst (v := 0) 26 dX8_text_25 rfl rfl ?_
  refine r_istore_n (i := 1) 27 dX8_text_26 rfl rfl rfl ?_
  refine r_iconst (v := 0) 28 dX8_text_27 rfl rfl ?_
  refine r_istore_n (i := 2) 29 dX8_text_28 rfl rfl rfl ?_
  refine r_eq (l2_text0 (W := W) (r := (W.2.1.1, 0, 0, -1, 0, W.2.1.2.2.2.2.2.1, 0, W.2.1.2.2.2.2.2.2.2)) (fun p hp0 => ?_) _ 0 W.2.1.1 rfl (Nat.zero_le _) (fun j hj => absurd hj (Nat.not_lt_zero j))) rfl rfl rfl
  have pg0 : ∀ q5, PG (p, 0, 0, -1, q5) A0 0 0 := fun q5 => ⟨rfl, rfl, rfl, Nat.zero_le _, ⟨fun i hi => absurd hi (Nat.not_lt_zero i), fun i hi => absurd hi (Nat.not_lt_zero i), hp0 35 (by decide), fun i hi => absurd hi (Nat.not_lt_zero i), ⟨hp0 18 (by decide), hp0 36 (by decide)⟩, ⟨by decide, by decide, by decide, by decide⟩⟩, fun m hm => ⟨fun _ => ⟨Nat.two_pow_pos m, fun i hi => absurd hi (Nat.not_lt_zero i), fun i hi => absurd hi (Nat.not_lt_zero i), fun i hi => absurd hi (Nat.not_lt_zero i)⟩, fun _ => Nat.zero_le _⟩⟩
  refine r_aload_n (i := 0) 49 dX8_text_48 rfl rfl rfl ?_
  refine r_callMq 52 dX8_text_49 rfl ykX8_step lk_X8_88 (e2_stepG (W := zRe W (p, 0, 0, -1, 0, W.2.1.2.2.2.2.2.1, 0, W.2.1.2.2.2.2.2.2.2)) (b := (tT S).2) (n := (tT S).1) (s := (0, 0, 0, 0, 0)) ht0 (sI_0 (Nat.zero_le _)) ⟨rfl, fun z => absurd rfl z, fun _ => rfl⟩) rfl rfl rfl rfl rfl rfl ⟨Nat.le_refl _, Nat.le_refl _⟩ (fun v u hq => by obtain ⟨-, r, rfl, -⟩ := hq; rfl) (fun v u hq => ?_)
  obtain ⟨rfl, r, rfl, g1, g2⟩ := hq
  refine l2_text1 (R := c_read (tT S).2 (tT S).1) ht0 ?_ 160 0 0 0 A0 r rfl (Nat.zero_le _) (Nat.zero_le _) g1 ⟨0, PG_SP (pg0 _) g2⟩ rfl
  rw [s_text, ← ea]
  generalize c_read (tT S).2 (tT S).1 = R at *
  clear g1 g2 r
  intro r L hr hpg
  have f6 := sr.2.2.2.1
  have fail : ∀ (sX : pS) (r : mRe), RS (tT S).2 sX r → ¬ pF sX = 0 → pF sX ≤ 6 → mm_r (d + 8) mX8_text (QM (-10 - nI (pL sX)) (tSF (tST S (0, (tT S).2)) (pF sX))) 100 [some (.ref 0), some (.int L), some (.int (nI 37))] [] (wM (zRe W r)) := by
    intro sX r h1 h2 h3
    have gt0 : ¬ rB r ≤ 0 := by rw [h1.1]; exact nI_nle (by omega) (by omega)
    refine r_aload_n (i := 0) 101 dX8_text_100 rfl rfl rfl ?_
    refine r_iconst (v := 0) 102 dX8_text_101 rfl rfl ?_
    refine r_putf 105 dX8_text_102 rfl fl_X8_50 rfl rfl (fun _ _ => ⟨rfl, rfl⟩) (fun z => absurd z Bool.false_ne_true) ?_
    refine r_aload_n (i := 0) 106 dX8_text_105 rfl rfl rfl ?_
    refine r_aload_n (i := 0) 107 dX8_text_106 rfl rfl rfl ?_
    refine r_getf 110 dX8_text_107 rfl fl_X8_54 rfl rfl ?_
    refine r_putf 113 dX8_text_110 rfl fl_X8_122 rfl rfl (fun _ _ => ⟨rfl, rfl⟩) (fun z => absurd z Bool.false_ne_true) ?_
    refine r_aload_n (i := 0) 114 dX8_text_113 rfl rfl rfl ?_
    refine r_getf 117 dX8_text_114 rfl fl_X8_54 rfl rfl ?_
    refine r_if_le 128 120 dX8_text_117 rfl rfl (fun h117 => absurd h117 gt0) (fun h117 => ?_)
    refine r_bipush (v := (-10)) 122 dX8_text_120 rfl rfl ?_
    refine r_aload_n (i := 0) 123 dX8_text_122 rfl rfl rfl ?_
    refine r_getf 126 dX8_text_123 rfl fl_X8_60 rfl rfl ?_
    refine r_isub 127 dX8_text_126 rfl ?_
    exact r_reti dX8_text_127 rfl (by first | rfl | exact bI_nar _) ⟨Nat.le_refl _, Nat.le_refl _⟩ (fun _ => rfl) (⟨by rw [show (zRe W r).2.1.2.2.2.2.2.1 = nI (pL sX) from h1.2.1 h2], zTp (zRe W r) (W.2.2.1.1, 0, rB r), rfl, hM, ⟨hx, hy⟩, ⟨rfl, fun i hi => absurd hi (Nat.not_lt_zero i)⟩, h1.1, ⟨v1, v2⟩, ⟨hk0, hk1⟩, hI, hH, hn⟩)
  by_cases z : pF R.1.1 = 0
  · obtain ⟨⟨H, pg⟩, eL⟩ := hpg z
    obtain ⟨p1, p2, p3, p4, p5, p6⟩ := id pg
    have b6 := p5.2.2.2.2.2.1
    have b0 : rB r = 0 := by rw [hr.1, z]; rfl
    have iw := p6 (sN R.1.2.1) (Nat.le_refl _)
    cases hw : whl R.1.2.1 R.1.2.2 with
    | true =>
      have hall := whl_iff.mp hw
      have hlt := (rv_lt (m := sN R.1.2.1) (by omega) (by omega)).mpr (iw.mpr hall)
      rw [Bool.not_true, fIf_f, if_pos z]
      have fin : ∀ f, (∀ i, i < 37 → f i = r.1 i) → mm_r (d + 8) mX8_text (QM (nI R.2) (R.1.2.1, R.1.2.2, 0, (0, (tT S).2), 0, (0, (tV S).2), (fun _ => none), S.2.2.2.2.2.2.2)) 154 [some (.ref 0), some (.int L), some (.int (nI 37))] [] (wM (zRe (zSt (zTp W (W.2.2.1.1, 0, rB r)) f) r)) := by
        intro f hf37
        obtain ⟨m1, m2, m3⟩ := mpg_pgR p5 hall hf37
        refine r_aload_n (i := 0) 155 dX8_text_154 rfl rfl rfl ?_
        refine r_aload_n (i := 0) 156 dX8_text_155 rfl rfl rfl ?_
        refine r_getf 159 dX8_text_156 rfl fl_X8_101 rfl rfl ?_
        refine r_putf 162 dX8_text_159 rfl fl_X8_125 rfl rfl (fun _ _ => ⟨rfl, rfl⟩) (fun z => absurd z Bool.false_ne_true) ?_
        refine r_aload_n (i := 0) 163 dX8_text_162 rfl rfl rfl ?_
        refine r_aload_n (i := 0) 164 dX8_text_163 rfl rfl rfl ?_
        refine r_getf 167 dX8_text_164 rfl fl_X8_104 rfl rfl ?_
        refine r_putf 170 dX8_text_167 rfl fl_X8_128 rfl rfl (fun _ _ => ⟨rfl, rfl⟩) (fun z => absurd z Bool.false_ne_true) ?_
        refine r_aload_n (i := 0) 171 dX8_text_170 rfl rfl rfl ?_
        refine r_iconst (v := 0) 172 dX8_text_171 rfl rfl ?_
        refine r_putf 175 dX8_text_172 rfl fl_X8_131 rfl rfl (fun _ _ => ⟨rfl, rfl⟩) (fun z => absurd z Bool.false_ne_true) ?_
        refine r_aload_n (i := 0) 176 dX8_text_175 rfl rfl rfl ?_
        refine r_getf 179 dX8_text_176 rfl fl_X8_31 rfl rfl ?_
        refine r_iconst (v := 0) 180 dX8_text_179 rfl rfl ?_
        refine r_iconst (v := 0) 181 dX8_text_180 rfl rfl ?_
        refine r_zast 182 dX8_text_181 rfl rfl (by assumption) (rfl) ?_
        refine r_aload_n (i := 0) 183 dX8_text_182 rfl rfl rfl ?_
        refine r_getf 186 dX8_text_183 rfl fl_X8_31 rfl rfl ?_
        refine r_iconst (v := 1) 187 dX8_text_186 rfl rfl ?_
        refine r_iconst (v := 0) 188 dX8_text_187 rfl rfl ?_
        refine r_zast 189 dX8_text_188 rfl rfl (by assumption) (rfl) ?_
        refine r_iload_n (i := 1) 190 dX8_text_189 rfl rfl rfl ?_
        exact r_reti dX8_text_190 rfl (by first | rfl | exact bI_nar _) ⟨Nat.le_refl _, Nat.le_refl _⟩ (fun _ => rfl) (⟨by rw [eL], ((f, r.2.1, r.2.2.1), r, (W.2.2.1.1, 0, rB r), W.2.2.2.1, W.2.2.2.2.1, (W.2.2.2.2.2.1.1, 0), W.2.2.2.2.2.2.1, (upd (upd W.2.2.2.2.2.2.2.1 0 0) 1 0, W.2.2.2.2.2.2.2.2)), rfl, ⟨p1, p2, m1⟩, ⟨m2, m3⟩, ⟨rfl, fun i hi => absurd hi (Nat.not_lt_zero i)⟩, b0, ⟨rfl, fun i hi => absurd hi (Nat.not_lt_zero i)⟩, ⟨rfl, rfl⟩, (fun k hk q hq => by cases hq), hH, hn⟩)
      refine r_aload_n (i := 0) 77 dX8_text_76 rfl rfl rfl ?_
      refine r_getf 80 dX8_text_77 rfl fl_X8_54 rfl rfl ?_
      refine r_if_ne 100 83 dX8_text_80 rfl rfl (fun h80 => absurd b0 h80) (fun h80 => ?_)
      refine r_aload_n (i := 0) 84 dX8_text_83 rfl rfl rfl ?_
      refine r_getf 87 dX8_text_84 rfl fl_X8_95 rfl rfl ?_
      refine r_aload_n (i := 0) 88 dX8_text_87 rfl rfl rfl ?_
      refine r_getf 91 dX8_text_88 rfl fl_X8_101 rfl rfl ?_
      refine r_icmp_lt 100 94 dX8_text_91 rfl rfl (fun h91 => ?_) (fun h91 => absurd (show (zRe W r).2.1.2.2.2.1 < (zRe W r).2.1.2.1 from by rw [show (zRe W r).2.1.2.2.2.1 = rv H from p3, show (zRe W r).2.1.2.1 = nI (sN R.1.2.1) from p1]; exact hlt) h91)
      refine r_aload_n (i := 0) 101 dX8_text_100 rfl rfl rfl ?_
      refine r_iconst (v := 0) 102 dX8_text_101 rfl rfl ?_
      refine r_putf 105 dX8_text_102 rfl fl_X8_50 rfl rfl (fun _ _ => ⟨rfl, rfl⟩) (fun z => absurd z Bool.false_ne_true) ?_
      refine r_aload_n (i := 0) 106 dX8_text_105 rfl rfl rfl ?_
      refine r_aload_n (i := 0) 107 dX8_text_106 rfl rfl rfl ?_
      refine r_getf 110 dX8_text_107 rfl fl_X8_54 rfl rfl ?_
      refine r_putf 113 dX8_text_110 rfl fl_X8_122 rfl rfl (fun _ _ => ⟨rfl, rfl⟩) (fun z => absurd z Bool.false_ne_true) ?_
      refine r_aload_n (i := 0) 114 dX8_text_113 rfl rfl rfl ?_
      refine r_getf 117 dX8_text_114 rfl fl_X8_54 rfl rfl ?_
      refine r_if_le 128 120 dX8_text_117 rfl rfl (fun h117 => ?_) (fun h117 => absurd (show rB r ≤ 0 from by rw [b0]; decide) h117)
      refine r_iconst (v := 0) 129 dX8_text_128 rfl rfl ?_
      refine r_istore_n (i := 2) 130 dX8_text_129 rfl rfl rfl ?_
      exact r_eq (l2_text2 (W := zTp W (W.2.2.1.1, 0, rB r)) (r := r) fin _ 0 W.1.1 rfl (Nat.zero_le _) (fun j hj => absurd hj (Nat.not_lt_zero j))) rfl rfl rfl
    | false =>
      have nlt : ¬ rv H < nI (sN R.1.2.1) := fun y => by
        have := whl_iff.mpr (iw.mp ((rv_lt (m := sN R.1.2.1) (by omega) (by omega)).mp y))
        rw [hw] at this
        cases this
      have nz : ¬ pF (fIf true 6 R.1.1) = 0 := by rw [fIf_t z]; decide
      rw [Bool.not_false, if_neg nz]
      have f100 := fail (fIf true 6 R.1.1) (rF r 6 (rH r)) (RS_fail hr z (by decide)) nz (by rw [fIf_t z]; decide)
      refine r_aload_n (i := 0) 77 dX8_text_76 rfl rfl rfl ?_
      refine r_getf 80 dX8_text_77 rfl fl_X8_54 rfl rfl ?_
      refine r_if_ne 100 83 dX8_text_80 rfl rfl (fun h80 => absurd b0 h80) (fun h80 => ?_)
      refine r_aload_n (i := 0) 84 dX8_text_83 rfl rfl rfl ?_
      refine r_getf 87 dX8_text_84 rfl fl_X8_95 rfl rfl ?_
      refine r_aload_n (i := 0) 88 dX8_text_87 rfl rfl rfl ?_
      refine r_getf 91 dX8_text_88 rfl fl_X8_101 rfl rfl ?_
      refine r_icmp_lt 100 94 dX8_text_91 rfl rfl (fun h91 => absurd (show rv H < nI (sN R.1.2.1) from by rw [← p3, ← p1]; exact h91) nlt) (fun h91 => ?_)
      refine r_aload_n (i := 0) 95 dX8_text_94 rfl rfl rfl ?_
      refine r_bipush (v := 6) 97 dX8_text_95 rfl rfl ?_
      refine r_callMu 100 dX8_text_97 rfl ykX8_fails lk_X8_84 (e2_fails0 (W := zRe W r) b0 6) rfl rfl rfl rfl rfl rfl ⟨Nat.le_refl _, Nat.le_refl _⟩ ?_
      exact f100
  · have b0 : ¬ rB r = 0 := by rw [hr.1]; exact nI_ne0 (by omega) (by omega)
    rw [fIf_nz z, if_neg z]
    have f100 := fail R.1.1 r hr z f6
    refine r_aload_n (i := 0) 77 dX8_text_76 rfl rfl rfl ?_
    refine r_getf 80 dX8_text_77 rfl fl_X8_54 rfl rfl ?_
    refine r_if_ne 100 83 dX8_text_80 rfl rfl (fun h80 => ?_) (fun h80 => absurd h80 b0)
    exact f100
end MS
