-- THE REFERENCE'S WORLD
abbrev mCo : Type := (Nat → Int32) × Int32 × Int32
abbrev mRe : Type := (Nat → Int32) × Int32 × Int32 × Int32 × Int32 × Int32 × Int32 × Int32 × Int32 × Int32
abbrev mTp : Type := (Nat → Int32) × Int32 × Int32
abbrev mQu : Type := Int32 × Int32 × Int32 × Int32
abbrev mSn : Type := (Nat → Int32) × Int32
abbrev mZz : Type := (Nat → Int32) × (Nat → Int32) × (Nat → Int32) × (Nat → Int32) × Int32
abbrev MT : Type := mCo × mRe × mTp × mQu × mQu × mSn × (Nat → Int32) × mZz
def cutF : Nat → Int32 := (upd (upd (upd (upd (upd (upd (upd (upd (upd (fun _ => 0) 0 0) 1 5) 2 9) 3 17) 4 24) 5 28) 6 30) 7 35) 8 38)
def letF : Nat → Int32 := (upd (upd (upd (upd (upd (upd (upd (upd (upd (upd (upd (upd (upd (upd (upd (upd (upd (upd (upd (upd (upd (upd (upd (upd (upd (upd (upd (upd (upd (upd (upd (upd (upd (upd (upd (upd (upd (upd (fun _ => 0) 0 112) 1 108) 2 97) 3 105) 4 110) 5 101) 6 99) 7 104) 8 111) 9 99) 10 111) 11 110) 12 116) 13 114) 14 97) 15 114) 16 121) 17 106) 18 101) 19 97) 20 108) 21 111) 22 117) 23 115) 24 101) 25 97) 26 115) 27 121) 28 115) 29 111) 30 103) 31 117) 32 101) 33 115) 34 116) 35 98) 36 97) 37 110)
def wM (W : MT) : mm_W := [.inr (8, [.ref 1, .int W.1.2.1, .int W.1.2.2, .ref 2, .int W.2.1.2.1, .int W.2.1.2.2.1, .int W.2.1.2.2.2.1, .ref 3, .int W.2.2.1.2.1, .int W.2.2.1.2.2, .int W.2.1.2.2.2.2.1, .int W.2.1.2.2.2.2.2.1, .int W.2.1.2.2.2.2.2.2.1, .int W.2.1.2.2.2.2.2.2.2.1, .int W.2.1.2.2.2.2.2.2.2.2.1, .int W.2.1.2.2.2.2.2.2.2.2.2, .ref 4, .ref 5, .int W.2.2.2.1.1, .int W.2.2.2.1.2.1, .int W.2.2.2.1.2.2.1, .int W.2.2.2.1.2.2.2, .int W.2.2.2.2.1.1, .int W.2.2.2.2.1.2.1, .int W.2.2.2.2.1.2.2.1, .int W.2.2.2.2.1.2.2.2, .ref 6, .int W.2.2.2.2.2.1.2, .ref 7, .ref 8, .ref 9, .ref 10, .ref 11, .int W.2.2.2.2.2.2.2.2.2.2.2]), .inl (0, (148, .inl W.1.1)), .inl (0, (37, .inl W.2.1.1)), .inl (0, (160, .inl W.2.2.1.1)), .inl (0, (9, .inl cutF)), .inl (0, (38, .inl letF)), .inl (0, (18, .inl W.2.2.2.2.2.1.1)), .inl (0, (60, .inl W.2.2.2.2.2.2.1)), .inl (2, (2, .inl W.2.2.2.2.2.2.2.1)), .inl (0, (4, .inl W.2.2.2.2.2.2.2.2.1)), .inl (0, (4, .inl W.2.2.2.2.2.2.2.2.2.1)), .inl (0, (160, .inl W.2.2.2.2.2.2.2.2.2.2.1))]
abbrev zCo (W : MT) (c : mCo) : MT := (c, W.2)
abbrev zRe (W : MT) (r : mRe) : MT := (W.1, r, W.2.2)
abbrev zTp (W : MT) (t : mTp) : MT := (W.1, W.2.1, t, W.2.2.2)
abbrev zTo (W : MT) (t : mQu) : MT := (W.1, W.2.1, W.2.2.1, t, W.2.2.2.2)
abbrev zWy (W : MT) (t : mQu) : MT := (W.1, W.2.1, W.2.2.1, W.2.2.2.1, t, W.2.2.2.2.2)
abbrev zSn (W : MT) (s : mSn) : MT := (W.1, W.2.1, W.2.2.1, W.2.2.2.1, W.2.2.2.2.1, s, W.2.2.2.2.2.2)
abbrev zSo (W : MT) (s : Nat → Int32) : MT := (W.1, W.2.1, W.2.2.1, W.2.2.2.1, W.2.2.2.2.1, W.2.2.2.2.2.1, s, W.2.2.2.2.2.2.2)
abbrev zZz (W : MT) (z : mZz) : MT := (W.1, W.2.1, W.2.2.1, W.2.2.2.1, W.2.2.2.2.1, W.2.2.2.2.2.1, W.2.2.2.2.2.2.1, z)
abbrev zSt (W : MT) (f : Nat → Int32) : MT := ((f, W.1.2), W.2)
theorem wM_len (W : MT) : (wM W).length = 12 := rfl
theorem nd12 : va_nd (List.range 12) = true := by decide
section MMS2
variable {d : Nat} {M : mm_M} {scr : Option (Nat × (Nat → Int32))} {mc ms : Nat} {ah : Bool} {Qf : Option Value → mm_W → Prop} {kc ks pc : Nat} {L : List (Option Value)} {st : List Value} {w w1 : mm_W}
variable {idx n : Nat} {y : MethodName} {M' : mm_M} {As0 : List Value} {r0 : Nat} {rest : List Value} {ci : Nat} {fs : List Value} {T : u_T} {N : Nat} {Q0 : Option Value → mm_W → Prop}
theorem r_callMq (pc' : Nat) (h : decode M.2.1 pc = .ok (.invokevirtual idx, 3)) (hp : pc + 3 = pc') (hy : mm_Yk y M' n) (hlk : mm_LkV M.1 idx y) (hE : mm_e d y M' (.ref r0 :: As0) w Q0) (hn : As0.length = n) (hl : w.length = 12) (hrc : w[r0]? = some (.inr (ci, fs))) (hcl : vwCl[ci]? = some (y.cls, T, N)) (hst : st = As0.reverse ++ .ref r0 :: rest) (hcat : Nat.ble (rest.map fun v => v.category).sum 8 = true) (hm : kc ≤ mc ∧ ks ≤ ms) (hu : ∀ v u, Q0 v u → u.length = 12) (kk : ∀ v u, Q0 v u → mm_R (d + 1) M scr mc ms ah false Qf kc ks pc' L (v.toList ++ rest) u) : mm_R (d + 1) M scr mc ms ah false Qf kc ks pc L st w :=
  r_callVw pc' h hp hy hlk hE hn (by rw [hl]; exact nd12) hrc hcl hst hcat hm (fun v u q => by rw [hl]; exact hu v u q) kk
theorem r_callMi {r : Int32} (pc' : Nat) (h : decode M.2.1 pc = .ok (.invokevirtual idx, 3)) (hp : pc + 3 = pc') (hy : mm_Yk y M' n) (hlk : mm_LkV M.1 idx y) (hE : mm_e d y M' (.ref r0 :: As0) w (mm_q (some (.int r)) w)) (hn : As0.length = n) (hl : w.length = 12) (hrc : w[r0]? = some (.inr (ci, fs))) (hcl : vwCl[ci]? = some (y.cls, T, N)) (hst : st = As0.reverse ++ .ref r0 :: rest) (hcat : Nat.ble (rest.map fun v => v.category).sum 8 = true) (hm : kc ≤ mc ∧ ks ≤ ms) (kk : mm_R (d + 1) M scr mc ms ah false Qf kc ks pc' L (.int r :: rest) w) : mm_R (d + 1) M scr mc ms ah false Qf kc ks pc L st w :=
  r_callMq pc' h hp hy hlk hE hn hl hrc hcl hst hcat hm (fun v u q => by rw [q.2]; exact hl) (fun v u q => by obtain ⟨rfl, rfl⟩ := q; exact kk)
theorem r_callMl {r : Int64} (pc' : Nat) (h : decode M.2.1 pc = .ok (.invokevirtual idx, 3)) (hp : pc + 3 = pc') (hy : mm_Yk y M' n) (hlk : mm_LkV M.1 idx y) (hE : mm_e d y M' (.ref r0 :: As0) w (mm_q (some (.long r)) w)) (hn : As0.length = n) (hl : w.length = 12) (hrc : w[r0]? = some (.inr (ci, fs))) (hcl : vwCl[ci]? = some (y.cls, T, N)) (hst : st = As0.reverse ++ .ref r0 :: rest) (hcat : Nat.ble (rest.map fun v => v.category).sum 8 = true) (hm : kc ≤ mc ∧ ks ≤ ms) (kk : mm_R (d + 1) M scr mc ms ah false Qf kc ks pc' L (.long r :: rest) w) : mm_R (d + 1) M scr mc ms ah false Qf kc ks pc L st w :=
  r_callMq pc' h hp hy hlk hE hn hl hrc hcl hst hcat hm (fun v u q => by rw [q.2]; exact hl) (fun v u q => by obtain ⟨rfl, rfl⟩ := q; exact kk)
theorem r_callMu {v0 : Option Value} {W1 : MT} (pc' : Nat) (h : decode M.2.1 pc = .ok (.invokevirtual idx, 3)) (hp : pc + 3 = pc') (hy : mm_Yk y M' n) (hlk : mm_LkV M.1 idx y) (hE : mm_e d y M' (.ref r0 :: As0) w (mm_q v0 (wM W1))) (hn : As0.length = n) (hl : w.length = 12) (hrc : w[r0]? = some (.inr (ci, fs))) (hcl : vwCl[ci]? = some (y.cls, T, N)) (hst : st = As0.reverse ++ .ref r0 :: rest) (hcat : Nat.ble (rest.map fun v => v.category).sum 8 = true) (hm : kc ≤ mc ∧ ks ≤ ms) (kk : mm_R (d + 1) M scr mc ms ah false Qf kc ks pc' L (v0.toList ++ rest) (wM W1)) : mm_R (d + 1) M scr mc ms ah false Qf kc ks pc L st w :=
  r_callMq pc' h hp hy hlk hE hn hl hrc hcl hst hcat hm (fun v u q => by rw [q.2]; rfl) (fun v u q => by obtain ⟨rfl, rfl⟩ := q; exact kk)
end MMS2
-- a page: kinds, firsts, seconds, so, undone, prices, bans, how many bans, year
def mpg (p : Nat → Int32) (A : sA) : Prop := (∀ i, i < sN A → p i = nI (sK A i) ∧ p (6 + i) + nI i = nI (sF A i) ∧ p (12 + i) + nI i = nI (sS A i)) ∧ (∀ i, i < sG A → p (19 + i) = nI (sU A i) ∧ p (23 + i) = nI (sP A i)) ∧ p 35 = nI (sB A) ∧ (∀ i, i < sB A → p (27 + 2 * i) = nI (sC A i) ∧ p (27 + 2 * i + 1) = nI (sE A i)) ∧ sOk A
def mok (C : mCo) (A : sA) : Prop := C.2.1 = nI (sN A) ∧ C.2.2 = nI (sG A) ∧ mpg C.1 A
theorem mok.tm {C : mCo} {A : sA} (h : mok C A) : C.2.1 = nI (sN A) := h.1
theorem mok.gm {C : mCo} {A : sA} (h : mok C A) : C.2.2 = nI (sG A) := h.2.1
theorem mok.ok {C : mCo} {A : sA} (h : mok C A) : sOk A := h.2.2.2.2.2.2
theorem mok.n6 {C : mCo} {A : sA} (h : mok C A) : sN A ≤ 6 := h.ok.1
theorem mok.g4 {C : mCo} {A : sA} (h : mok C A) : sG A ≤ 4 := h.ok.2.2.1
theorem mok.b4 {C : mCo} {A : sA} (h : mok C A) : sB A ≤ 4 := h.ok.2.2.2.2.1
theorem mok.bn {C : mCo} {A : sA} (h : mok C A) : C.1 35 = nI (sB A) := h.2.2.2.2.1
theorem mok.at {C : mCo} {A : sA} (h : mok C A) {i : Nat} (hi : i < sN A) : C.1 i = nI (sK A i) ∧ C.1 (6 + i) + nI i = nI (sF A i) ∧ C.1 (12 + i) + nI i = nI (sS A i) ∧ sK A i ≤ 4 ∧ sF A i < sN A ∧ sS A i < sN A := by
  obtain ⟨h1, h2, h3⟩ := h.2.2.1 i hi
  obtain ⟨g1, g2, g3⟩ := h.ok.2.1 i hi
  exact ⟨h1, h2, h3, g1, g2, g3⟩
theorem mok.gat {C : mCo} {A : sA} (h : mok C A) {i : Nat} (hi : i < sG A) : C.1 (19 + i) = nI (sU A i) ∧ C.1 (23 + i) = nI (sP A i) ∧ sU A i < sN A ∧ sP A i ≤ 9 := by
  obtain ⟨h1, h2⟩ := h.2.2.2.1 i hi
  obtain ⟨g1, g2⟩ := h.ok.2.2.2.1 i hi
  exact ⟨h1, h2, g1, g2⟩
theorem mok.bat {C : mCo} {A : sA} (h : mok C A) {i : Nat} (hi : i < sB A) : C.1 (27 + 2 * i) = nI (sC A i) ∧ C.1 (27 + 2 * i + 1) = nI (sE A i) ∧ sC A i < sN A ∧ sE A i < sN A := by
  obtain ⟨h1, h2⟩ := h.2.2.2.2.2.1 i hi
  obtain ⟨g1, g2⟩ := h.ok.2.2.2.2.2 i hi
  exact ⟨h1, h2, g1, g2⟩
theorem mok.lt31 {C : mCo} {A : sA} (h : mok C A) {x : Nat} (hx : x < 2 ^ sN A) : x < 2 ^ 31 := by have := p2_le h.n6; omega
theorem cmp_lt (x y : Int64) : lg_cmp x y < 0 ↔ x.toInt < y.toInt := by
  unfold lg_cmp
  split
  · rename_i q
    have := Int64.lt_iff_toInt_lt.mp q
    exact ⟨fun z => absurd z (by decide), fun z => by omega⟩
  · split
    · rename_i q
      subst q
      exact ⟨fun z => absurd z (by decide), fun z => by omega⟩
    · rename_i q q2
      have h1 := mt Int64.lt_iff_toInt_lt.mpr q
      have h2 : x.toInt ≠ y.toInt := fun e => q2 (Int64.toInt_inj.mp e)
      exact ⟨fun _ => by omega, fun _ => by decide⟩
theorem cmp_gt (x y : Int64) : 0 < lg_cmp x y ↔ y.toInt < x.toInt := by
  unfold lg_cmp
  split
  · rename_i q
    have := Int64.lt_iff_toInt_lt.mp q
    exact ⟨fun _ => by omega, fun _ => by decide⟩
  · rename_i q
    have h1 := mt Int64.lt_iff_toInt_lt.mpr q
    split
    · exact ⟨fun z => absurd z (by decide), fun z => by omega⟩
    · exact ⟨fun z => absurd z (by decide), fun z => by omega⟩
theorem inb_iff {n : Nat} (hn : n < 2 ^ 31) {v : Int32} : inb (nI n) v = true ↔ 0 ≤ v.toInt ∧ v.toInt < n := by
  have h0 : (0 : Int32).toInt = 0 := rfl
  simp only [inb, Bool.and_eq_true, decide_eq_true_eq, Int32.lt_iff_toInt_lt, Int32.le_iff_toInt_le, nI_toInt hn, h0]
  omega
theorem hiN {n : Nat} (hn : n < 2 ^ 30) : ((nI n - 1).toInt64).toInt = (n : Int) - 1 := by
  rw [Int32.toInt_toInt64]
  have := pk_sub_toInt (a := n) (b := 1) hn (by decide)
  exact this
theorem hiT {n : Nat} (hn : n < 2 ^ 31) : ((nI n).toInt64).toInt = ((n + 1 : Nat) : Int) - 1 := by
  rw [Int32.toInt_toInt64, nI_toInt hn]; omega
theorem tbI (x j : Nat) : nI (tb x j) = 1 ↔ tb x j = 1 := by
  rcases tb_01 x j with q | q <;> rw [q] <;> decide
theorem nbI (A : sA) (x i : Nat) : nI (nb A x i) = 0 ↔ nb A x i = 0 := by
  have := nb_le A x i
  rcases (by omega : nb A x i = 0 ∨ nb A x i = 1) with q | q <;> rw [q] <;> decide
theorem c27 (b : Nat) : (27 : Int32) + 2 * nI b = nI (27 + 2 * b) := by
  rw [show (2 : Int32) = nI 2 from rfl, pk_mul, show (27 : Int32) = nI 27 from rfl, nI_add]
section MA
variable {d : Nat} {W : MT} {A : sA}
theorem e_inx {v lo hi : Int64} {b : Bool} (hb : b = true ↔ lo.toInt ≤ v.toInt ∧ v.toInt ≤ hi.toInt) : mm_e (d + 1) yX8_in mX8_in [.long v, .long lo, .long hi] [] (mm_q (some (.int (bI b))) []) := by
  refine e_of [some (.long v), none, some (.long lo), none, some (.long hi), none] rfl (by decide) rfl rfl rfl ?_
  refine r_lload_n (i := 0) 1 dX8_in_0 rfl rfl rfl ?_
  refine r_lload_n (i := 2) 2 dX8_in_1 rfl rfl rfl ?_
  refine r_lcmp 3 dX8_in_2 rfl ?_
  refine r_if_lt 17 6 dX8_in_3 rfl rfl (fun h3 => ?_) (fun h3 => ?_)
  · have g := (cmp_lt _ _).mp h3
    refine r_iconst (v := 0) 18 dX8_in_17 rfl rfl ?_
    exact r_reti dX8_in_18 rfl (by first | rfl | exact bI_nar _) ⟨Nat.le_refl _, Nat.le_refl _⟩ (fun _ => rfl) (⟨by first | (rw [hb.mpr ⟨by omega, by omega⟩]; rfl) | (rw [show b = false from (by cases b with | false => rfl | true => (have := hb.mp rfl; omega))]; rfl), rfl⟩)
  · have g := mt (cmp_lt _ _).mpr h3
    refine r_lload_n (i := 0) 7 dX8_in_6 rfl rfl rfl ?_
    refine r_lload (i := 4) 9 dX8_in_7 rfl rfl ?_
    refine r_lcmp 10 dX8_in_9 rfl ?_
    refine r_if_gt 17 13 dX8_in_10 rfl rfl (fun h10 => ?_) (fun h10 => ?_)
    · have g2 := (cmp_gt _ _).mp h10
      refine r_iconst (v := 0) 18 dX8_in_17 rfl rfl ?_
      exact r_reti dX8_in_18 rfl (by first | rfl | exact bI_nar _) ⟨Nat.le_refl _, Nat.le_refl _⟩ (fun _ => rfl) (⟨by first | (rw [hb.mpr ⟨by omega, by omega⟩]; rfl) | (rw [show b = false from (by cases b with | false => rfl | true => (have := hb.mp rfl; omega))]; rfl), rfl⟩)
    · have g2 := mt (cmp_gt _ _).mpr h10
      refine r_iconst (v := 1) 14 dX8_in_13 rfl rfl ?_
      refine r_goto 18 dX8_in_14 rfl ?_
      exact r_reti dX8_in_18 rfl (by first | rfl | exact bI_nar _) ⟨Nat.le_refl _, Nat.le_refl _⟩ (fun _ => rfl) (⟨by first | (rw [hb.mpr ⟨by omega, by omega⟩]; rfl) | (rw [show b = false from (by cases b with | false => rfl | true => (have := hb.mp rfl; omega))]; rfl), rfl⟩)
theorem e_in0 (v : Int32) {n : Nat} {hi : Int64} (hn : n < 2 ^ 31) (hh : hi.toInt = (n : Int) - 1) : mm_e (d + 1) yX8_in mX8_in [.long v.toInt64, .long 0, .long hi] [] (mm_q (some (.int (bI (inb (nI n) v)))) []) :=
  e_inx (by rw [inb_iff hn, Int32.toInt_toInt64, hh, show (0 : Int64).toInt = 0 from rfl]; omega)
theorem e2_isThing (h : mok W.1 A) (v : Int32) : mm_e (d + 2) yX8_isThing mX8_isThing [.ref 0, .int v] (wM W) (mm_q (some (.int (bI (inb (nI (sN A)) v)))) (wM W)) := by
  have h6 := h.n6
  refine e_of [some (.ref 0), some (.int v)] rfl (by decide) rfl rfl rfl ?_
  refine r_iload_n (i := 1) 1 dX8_isThing_0 rfl rfl rfl ?_
  refine r_i2l 2 dX8_isThing_1 rfl ?_
  refine r_lconst (v := 0) 3 dX8_isThing_2 rfl rfl ?_
  refine r_aload_n (i := 0) 4 dX8_isThing_3 rfl rfl rfl ?_
  refine r_getf 7 dX8_isThing_4 rfl fl_X8_125 rfl rfl ?_
  rw [h.tm]
  refine r_iconst (v := 1) 8 dX8_isThing_7 rfl rfl ?_
  refine r_isub 9 dX8_isThing_8 rfl ?_
  refine r_i2l 10 dX8_isThing_9 rfl ?_
  refine r_callSi [] 13 dX8_isThing_10 rfl ykX8_in lk_X8_46 (e_in0 v (n := sN A) (by omega) (hiN (by omega))) rfl rfl rfl ⟨Nat.le_refl _, Nat.le_refl _⟩ ?_
  exact r_reti dX8_isThing_13 rfl (by first | rfl | exact bI_nar _) ⟨Nat.le_refl _, Nat.le_refl _⟩ (fun _ => rfl) (⟨rfl, rfl⟩)
theorem e2_isGuest (h : mok W.1 A) (v : Int32) : mm_e (d + 2) yX8_isGuest mX8_isGuest [.ref 0, .int v] (wM W) (mm_q (some (.int (bI (inb (nI (sG A)) v)))) (wM W)) := by
  have h6 := h.g4
  refine e_of [some (.ref 0), some (.int v)] rfl (by decide) rfl rfl rfl ?_
  refine r_iload_n (i := 1) 1 dX8_isGuest_0 rfl rfl rfl ?_
  refine r_i2l 2 dX8_isGuest_1 rfl ?_
  refine r_lconst (v := 0) 3 dX8_isGuest_2 rfl rfl ?_
  refine r_aload_n (i := 0) 4 dX8_isGuest_3 rfl rfl rfl ?_
  refine r_getf 7 dX8_isGuest_4 rfl fl_X8_128 rfl rfl ?_
  rw [h.gm]
  refine r_iconst (v := 1) 8 dX8_isGuest_7 rfl rfl ?_
  refine r_isub 9 dX8_isGuest_8 rfl ?_
  refine r_i2l 10 dX8_isGuest_9 rfl ?_
  refine r_callSi [] 13 dX8_isGuest_10 rfl ykX8_in lk_X8_46 (e_in0 v (n := sG A) (by omega) (hiN (by omega))) rfl rfl rfl ⟨Nat.le_refl _, Nat.le_refl _⟩ ?_
  exact r_reti dX8_isGuest_13 rfl (by first | rfl | exact bI_nar _) ⟨Nat.le_refl _, Nat.le_refl _⟩ (fun _ => rfl) (⟨rfl, rfl⟩)
theorem e2_isBan (h : mok W.1 A) (v : Int32) : mm_e (d + 2) yX8_isBan mX8_isBan [.ref 0, .int v] (wM W) (mm_q (some (.int (bI (inb (nI (sB A)) v)))) (wM W)) := by
  have h6 := h.b4
  have hin : vp_in (35 : Int32) 148 := vp_in_nI (n := 35) (by decide) (by decide)
  refine e_of [some (.ref 0), some (.int v)] rfl (by decide) rfl rfl rfl ?_
  refine r_iload_n (i := 1) 1 dX8_isBan_0 rfl rfl rfl ?_
  refine r_i2l 2 dX8_isBan_1 rfl ?_
  refine r_lconst (v := 0) 3 dX8_isBan_2 rfl rfl ?_
  refine r_aload_n (i := 0) 4 dX8_isBan_3 rfl rfl rfl ?_
  refine r_getf 7 dX8_isBan_4 rfl fl_X8_7 rfl rfl ?_
  refine r_bipush (v := 35) 9 dX8_isBan_7 rfl rfl ?_
  refine r_iald 10 dX8_isBan_9 rfl rfl (by assumption) ?_
  rw [show W.1.1 (35 : Int32).toNatClampNeg = nI (sB A) from h.bn]
  refine r_iconst (v := 1) 11 dX8_isBan_10 rfl rfl ?_
  refine r_isub 12 dX8_isBan_11 rfl ?_
  refine r_i2l 13 dX8_isBan_12 rfl ?_
  refine r_callSi [] 16 dX8_isBan_13 rfl ykX8_in lk_X8_46 (e_in0 v (n := sB A) (by omega) (hiN (by omega))) rfl rfl rfl ⟨Nat.le_refl _, Nat.le_refl _⟩ ?_
  exact r_reti dX8_isBan_16 rfl (by first | rfl | exact bI_nar _) ⟨Nat.le_refl _, Nat.le_refl _⟩ (fun _ => rfl) (⟨rfl, rfl⟩)
theorem e2_states (h : mok W.1 A) : mm_e (d + 1) yX8_states mX8_states [.ref 0] (wM W) (mm_q (some (.int (nI (2 ^ sN A)))) (wM W)) := by
  have h6 := h.n6
  refine e_of [some (.ref 0)] rfl (by decide) rfl rfl rfl ?_
  refine r_iconst (v := 1) 1 dX8_states_0 rfl rfl ?_
  refine r_aload_n (i := 0) 2 dX8_states_1 rfl rfl rfl ?_
  refine r_getf 5 dX8_states_2 rfl fl_X8_125 rfl rfl ?_
  refine r_ishl 6 dX8_states_5 rfl ?_
  exact r_reti dX8_states_6 rfl (by first | rfl | exact bI_nar _) ⟨Nat.le_refl _, Nat.le_refl _⟩ (fun _ => rfl) (⟨by rw [h.tm, n_shl1 (by omega)], rfl⟩)
theorem e2_isState (h : mok W.1 A) (v : Int32) : mm_e (d + 2) yX8_isState mX8_isState [.ref 0, .int v] (wM W) (mm_q (some (.int (bI (inb (nI (2 ^ sN A)) v)))) (wM W)) := by
  have p6 := p2_le h.n6
  refine e_of [some (.ref 0), some (.int v)] rfl (by decide) rfl rfl rfl ?_
  refine r_iload_n (i := 1) 1 dX8_isState_0 rfl rfl rfl ?_
  refine r_i2l 2 dX8_isState_1 rfl ?_
  refine r_lconst (v := 0) 3 dX8_isState_2 rfl rfl ?_
  refine r_aload_n (i := 0) 4 dX8_isState_3 rfl rfl rfl ?_
  refine r_callMi 7 dX8_isState_4 rfl ykX8_states lk_X8_134 (e2_states h) rfl rfl rfl rfl rfl rfl ⟨Nat.le_refl _, Nat.le_refl _⟩ ?_
  refine r_iconst (v := 1) 8 dX8_isState_7 rfl rfl ?_
  refine r_isub 9 dX8_isState_8 rfl ?_
  refine r_i2l 10 dX8_isState_9 rfl ?_
  refine r_callSi [] 13 dX8_isState_10 rfl ykX8_in lk_X8_46 (e_in0 v (n := 2 ^ sN A) (by omega) (hiN (by omega))) rfl rfl rfl ⟨Nat.le_refl _, Nat.le_refl _⟩ ?_
  exact r_reti dX8_isState_13 rfl (by first | rfl | exact bI_nar _) ⟨Nat.le_refl _, Nat.le_refl _⟩ (fun _ => rfl) (⟨rfl, rfl⟩)
theorem e2_firstOf (h : mok W.1 A) {i : Nat} (hi : i < sN A) : mm_e (d + 1) yX8_firstOf mX8_firstOf [.ref 0, .int (nI i)] (wM W) (mm_q (some (.int (nI (sF A i)))) (wM W)) := by
  have h6 := h.n6
  have hin : vp_in (nI (6 + i)) 148 := vp_in_nI (by omega) (by decide)
  refine e_of [some (.ref 0), some (.int (nI i))] rfl (by decide) rfl rfl rfl ?_
  refine r_aload_n (i := 0) 1 dX8_firstOf_0 rfl rfl rfl ?_
  refine r_getf 4 dX8_firstOf_1 rfl fl_X8_7 rfl rfl ?_
  refine r_bipush (v := 6) 6 dX8_firstOf_4 rfl rfl ?_
  refine r_iload_n (i := 1) 7 dX8_firstOf_6 rfl rfl rfl ?_
  refine r_iadd 8 dX8_firstOf_7 rfl ?_
  rw [show (6 : Int32) + nI i = nI (6 + i) from nI_add 6 i]
  refine r_iald 9 dX8_firstOf_8 rfl rfl (by assumption) ?_
  rw [nI_clamp (n := 6 + i) (by omega)]
  refine r_iload_n (i := 1) 10 dX8_firstOf_9 rfl rfl rfl ?_
  refine r_iadd 11 dX8_firstOf_10 rfl ?_
  exact r_reti dX8_firstOf_11 rfl (by first | rfl | exact bI_nar _) ⟨Nat.le_refl _, Nat.le_refl _⟩ (fun _ => rfl) (⟨by rw [(h.at hi).2.1], rfl⟩)
theorem e2_secondOf (h : mok W.1 A) {i : Nat} (hi : i < sN A) : mm_e (d + 1) yX8_secondOf mX8_secondOf [.ref 0, .int (nI i)] (wM W) (mm_q (some (.int (nI (sS A i)))) (wM W)) := by
  have h6 := h.n6
  have hin : vp_in (nI (12 + i)) 148 := vp_in_nI (by omega) (by decide)
  refine e_of [some (.ref 0), some (.int (nI i))] rfl (by decide) rfl rfl rfl ?_
  refine r_aload_n (i := 0) 1 dX8_secondOf_0 rfl rfl rfl ?_
  refine r_getf 4 dX8_secondOf_1 rfl fl_X8_7 rfl rfl ?_
  refine r_bipush (v := 12) 6 dX8_secondOf_4 rfl rfl ?_
  refine r_iload_n (i := 1) 7 dX8_secondOf_6 rfl rfl rfl ?_
  refine r_iadd 8 dX8_secondOf_7 rfl ?_
  rw [show (12 : Int32) + nI i = nI (12 + i) from nI_add 12 i]
  refine r_iald 9 dX8_secondOf_8 rfl rfl (by assumption) ?_
  rw [nI_clamp (n := 12 + i) (by omega)]
  refine r_iload_n (i := 1) 10 dX8_secondOf_9 rfl rfl rfl ?_
  refine r_iadd 11 dX8_secondOf_10 rfl ?_
  exact r_reti dX8_secondOf_11 rfl (by first | rfl | exact bI_nar _) ⟨Nat.le_refl _, Nat.le_refl _⟩ (fun _ => rfl) (⟨by rw [(h.at hi).2.2.1], rfl⟩)
theorem e2_willBe (h : mok W.1 A) {i x : Nat} (hi : i < sN A) (hx : x < 2 ^ 31) : mm_e (d + 2) yX8_willBe mX8_willBe [.ref 0, .int (nI x), .int (nI i)] (wM W) (mm_q (some (.int (nI (nb A x i)))) (wM W)) := by
  have h6 := h.n6
  obtain ⟨k1, k2, k3, k4, k5, k6⟩ := h.at hi
  have hin : vp_in (nI i) 148 := vp_in_nI (by omega) (by decide)
  have fin : ∀ b1 b2 : Bool, b1 = decide (tb x (sF A i) = 1) → b2 = decide (tb x (sS A i) = 1) → mm_r (d + 2) mX8_willBe (mm_q (some (.int (nI (nb A x i)))) (wM W)) 39 [some (.ref 0), some (.int (nI x)), some (.int (nI i)), some (.int (bI b1)), some (.int (bI b2))] [] (wM W) := by
    intro b1 b2 e1 e2
    have t1 := tb_01 x (sF A i)
    have t2 := tb_01 x (sS A i)
    have t3 := tb_01 x i
    refine r_aload_n (i := 0) 40 dX8_willBe_39 rfl rfl rfl ?_
    refine r_getf 43 dX8_willBe_40 rfl fl_X8_7 rfl rfl ?_
    refine r_iload_n (i := 2) 44 dX8_willBe_43 rfl rfl rfl ?_
    refine r_iald 45 dX8_willBe_44 rfl rfl (by assumption) ?_
    rw [nI_clamp (n := i) (by omega), k1]
    rcases (by omega : sK A i = 0 ∨ sK A i = 1 ∨ sK A i = 2 ∨ sK A i = 3 ∨ sK A i = 4) with q | q | q | q | q
    · rw [q]
      refine r_tabIn 76 dX8_willBe_45 (by decide) (by decide) rfl rfl ?_
      refine r_iload_n (i := 1) 77 dX8_willBe_76 rfl rfl rfl ?_
      refine r_iload_n (i := 2) 78 dX8_willBe_77 rfl rfl rfl ?_
      refine r_ishr 79 dX8_willBe_78 rfl ?_
      refine r_iconst (v := 1) 80 dX8_willBe_79 rfl rfl ?_
      refine r_iand 81 dX8_willBe_80 rfl ?_
      rw [n_bit hx (by omega)]
      refine r_iconst (v := 1) 82 dX8_willBe_81 rfl rfl ?_
      refine r_icmp_ne 89 85 dX8_willBe_82 rfl rfl (fun h82 => ?_) (fun h82 => ?_)
      · have g := mt (tbI _ _).mpr h82
        refine r_iconst (v := 0) 90 dX8_willBe_89 rfl rfl ?_
        exact r_reti dX8_willBe_90 rfl (by first | rfl | exact bI_nar _) ⟨Nat.le_refl _, Nat.le_refl _⟩ (fun _ => rfl) (⟨by have g0 : nb A x i = tb x i := (by simp only [nb, q]); rw [g0]; first | (rw [g]; rfl) | (rw [show tb x i = 0 by omega]; rfl), rfl⟩)
      · have g := (tbI _ _).mp h82
        refine r_iconst (v := 1) 86 dX8_willBe_85 rfl rfl ?_
        refine r_goto 90 dX8_willBe_86 rfl ?_
        exact r_reti dX8_willBe_90 rfl (by first | rfl | exact bI_nar _) ⟨Nat.le_refl _, Nat.le_refl _⟩ (fun _ => rfl) (⟨by have g0 : nb A x i = tb x i := (by simp only [nb, q]); rw [g0]; first | (rw [g]; rfl) | (rw [show tb x i = 0 by omega]; rfl), rfl⟩)
    · rw [q]
      refine r_tabIn 91 dX8_willBe_45 (by decide) (by decide) rfl rfl ?_
      refine r_iload_n (i := 3) 92 dX8_willBe_91 rfl rfl rfl ?_
      exact r_reti dX8_willBe_92 rfl (by first | rfl | exact bI_nar _) ⟨Nat.le_refl _, Nat.le_refl _⟩ (fun _ => rfl) (⟨by have g0 : nb A x i = tb x (sF A i) := (by simp only [nb, q]); rw [g0, e1]; rcases t1 with z | z <;> rw [z] <;> rfl, rfl⟩)
    · rw [q]
      refine r_tabIn 93 dX8_willBe_45 (by decide) (by decide) rfl rfl ?_
      refine r_iload_n (i := 3) 94 dX8_willBe_93 rfl rfl rfl ?_
      refine r_if_ne 101 97 dX8_willBe_94 rfl rfl (fun h94 => ?_) (fun h94 => ?_)
      · have g := bI_ne0 h94
        refine r_iconst (v := 0) 102 dX8_willBe_101 rfl rfl ?_
        exact r_reti dX8_willBe_102 rfl (by first | rfl | exact bI_nar _) ⟨Nat.le_refl _, Nat.le_refl _⟩ (fun _ => rfl) (⟨by have g0 : nb A x i = 1 - tb x (sF A i) := (by simp only [nb, q]); rw [g0]; rw [e1] at g; rcases t1 with z | z <;> rw [z] at g ⊢ <;> first | rfl | exact absurd g (by decide), rfl⟩)
      · have g := bI_eq0 h94
        refine r_iconst (v := 1) 98 dX8_willBe_97 rfl rfl ?_
        refine r_goto 102 dX8_willBe_98 rfl ?_
        exact r_reti dX8_willBe_102 rfl (by first | rfl | exact bI_nar _) ⟨Nat.le_refl _, Nat.le_refl _⟩ (fun _ => rfl) (⟨by have g0 : nb A x i = 1 - tb x (sF A i) := (by simp only [nb, q]); rw [g0]; rw [e1] at g; rcases t1 with z | z <;> rw [z] at g ⊢ <;> first | rfl | exact absurd g (by decide), rfl⟩)
    · rw [q]
      refine r_tabIn 103 dX8_willBe_45 (by decide) (by decide) rfl rfl ?_
      refine r_iload_n (i := 3) 104 dX8_willBe_103 rfl rfl rfl ?_
      refine r_if_eq 116 107 dX8_willBe_104 rfl rfl (fun h104 => ?_) (fun h104 => ?_)
      · have g := bI_eq0 h104
        refine r_iconst (v := 0) 117 dX8_willBe_116 rfl rfl ?_
        exact r_reti dX8_willBe_117 rfl (by first | rfl | exact bI_nar _) ⟨Nat.le_refl _, Nat.le_refl _⟩ (fun _ => rfl) (⟨by have g0 : nb A x i = tb x (sF A i) &&& (1 - tb x (sS A i)) := (by simp only [nb, q]); rw [g0]; rw [e1] at g; rcases t1 with z | z <;> rcases t2 with z2 | z2 <;> rw [z] at g ⊢ <;> (try rw [e2, z2] at g2) <;> rw [z2] <;> first | rfl | exact absurd g (by decide) | exact absurd g2 (by decide), rfl⟩)
      · have g := bI_ne0 h104
        refine r_iload (i := 4) 109 dX8_willBe_107 rfl rfl ?_
        refine r_if_ne 116 112 dX8_willBe_109 rfl rfl (fun h109 => ?_) (fun h109 => ?_)
        · have g2 := bI_ne0 h109
          refine r_iconst (v := 0) 117 dX8_willBe_116 rfl rfl ?_
          exact r_reti dX8_willBe_117 rfl (by first | rfl | exact bI_nar _) ⟨Nat.le_refl _, Nat.le_refl _⟩ (fun _ => rfl) (⟨by have g0 : nb A x i = tb x (sF A i) &&& (1 - tb x (sS A i)) := (by simp only [nb, q]); rw [g0]; rw [e1] at g; rcases t1 with z | z <;> rcases t2 with z2 | z2 <;> rw [z] at g ⊢ <;> (try rw [e2, z2] at g2) <;> rw [z2] <;> first | rfl | exact absurd g (by decide) | exact absurd g2 (by decide), rfl⟩)
        · have g2 := bI_eq0 h109
          refine r_iconst (v := 1) 113 dX8_willBe_112 rfl rfl ?_
          refine r_goto 117 dX8_willBe_113 rfl ?_
          exact r_reti dX8_willBe_117 rfl (by first | rfl | exact bI_nar _) ⟨Nat.le_refl _, Nat.le_refl _⟩ (fun _ => rfl) (⟨by have g0 : nb A x i = tb x (sF A i) &&& (1 - tb x (sS A i)) := (by simp only [nb, q]); rw [g0]; rw [e1] at g; rcases t1 with z | z <;> rcases t2 with z2 | z2 <;> rw [z] at g ⊢ <;> (try rw [e2, z2] at g2) <;> rw [z2] <;> first | rfl | exact absurd g (by decide) | exact absurd g2 (by decide), rfl⟩)
    · rw [q]
      refine r_tabOut 118 dX8_willBe_45 (by decide) rfl ?_
      refine r_iload_n (i := 3) 119 dX8_willBe_118 rfl rfl rfl ?_
      refine r_if_ne 127 122 dX8_willBe_119 rfl rfl (fun h119 => ?_) (fun h119 => ?_)
      · have g := bI_ne0 h119
        refine r_iconst (v := 1) 128 dX8_willBe_127 rfl rfl ?_
        refine r_goto 132 dX8_willBe_128 rfl ?_
        exact r_reti dX8_willBe_132 rfl (by first | rfl | exact bI_nar _) ⟨Nat.le_refl _, Nat.le_refl _⟩ (fun _ => rfl) (⟨by have g0 : nb A x i = tb x (sF A i) ||| tb x (sS A i) := (by simp only [nb, q]); rw [g0]; rw [e1] at g; rcases t1 with z | z <;> rcases t2 with z2 | z2 <;> rw [z] at g ⊢ <;> (try rw [e2, z2] at g2) <;> rw [z2] <;> first | rfl | exact absurd g (by decide) | exact absurd g2 (by decide), rfl⟩)
      · have g := bI_eq0 h119
        refine r_iload (i := 4) 124 dX8_willBe_122 rfl rfl ?_
        refine r_if_eq 131 127 dX8_willBe_124 rfl rfl (fun h124 => ?_) (fun h124 => ?_)
        · have g2 := bI_eq0 h124
          refine r_iconst (v := 0) 132 dX8_willBe_131 rfl rfl ?_
          exact r_reti dX8_willBe_132 rfl (by first | rfl | exact bI_nar _) ⟨Nat.le_refl _, Nat.le_refl _⟩ (fun _ => rfl) (⟨by have g0 : nb A x i = tb x (sF A i) ||| tb x (sS A i) := (by simp only [nb, q]); rw [g0]; rw [e1] at g; rcases t1 with z | z <;> rcases t2 with z2 | z2 <;> rw [z] at g ⊢ <;> (try rw [e2, z2] at g2) <;> rw [z2] <;> first | rfl | exact absurd g (by decide) | exact absurd g2 (by decide), rfl⟩)
        · have g2 := bI_ne0 h124
          refine r_iconst (v := 1) 128 dX8_willBe_127 rfl rfl ?_
          refine r_goto 132 dX8_willBe_128 rfl ?_
          exact r_reti dX8_willBe_132 rfl (by first | rfl | exact bI_nar _) ⟨Nat.le_refl _, Nat.le_refl _⟩ (fun _ => rfl) (⟨by have g0 : nb A x i = tb x (sF A i) ||| tb x (sS A i) := (by simp only [nb, q]); rw [g0]; rw [e1] at g; rcases t1 with z | z <;> rcases t2 with z2 | z2 <;> rw [z] at g ⊢ <;> (try rw [e2, z2] at g2) <;> rw [z2] <;> first | rfl | exact absurd g (by decide) | exact absurd g2 (by decide), rfl⟩)
  refine e_of [some (.ref 0), some (.int (nI x)), some (.int (nI i)), none, none] rfl (by decide) rfl rfl rfl ?_
  refine r_iload_n (i := 1) 1 dX8_willBe_0 rfl rfl rfl ?_
  refine r_aload_n (i := 0) 2 dX8_willBe_1 rfl rfl rfl ?_
  refine r_iload_n (i := 2) 3 dX8_willBe_2 rfl rfl rfl ?_
  refine r_callMi 6 dX8_willBe_3 rfl ykX8_firstOf lk_X8_137 (e2_firstOf h hi) rfl rfl rfl rfl rfl rfl ⟨Nat.le_refl _, Nat.le_refl _⟩ ?_
  refine r_ishr 7 dX8_willBe_6 rfl ?_
  refine r_iconst (v := 1) 8 dX8_willBe_7 rfl rfl ?_
  refine r_iand 9 dX8_willBe_8 rfl ?_
  rw [n_bit hx (by omega)]
  refine r_iconst (v := 1) 10 dX8_willBe_9 rfl rfl ?_
  refine r_icmp_ne 17 13 dX8_willBe_10 rfl rfl (fun h10 => ?_) (fun h10 => ?_)
  · have g1 := mt (tbI _ _).mpr h10
    refine r_iconst (v := 0) 18 dX8_willBe_17 rfl rfl ?_
    refine r_istore_n (i := 3) 19 dX8_willBe_18 rfl rfl rfl ?_
    refine r_iload_n (i := 1) 20 dX8_willBe_19 rfl rfl rfl ?_
    refine r_aload_n (i := 0) 21 dX8_willBe_20 rfl rfl rfl ?_
    refine r_iload_n (i := 2) 22 dX8_willBe_21 rfl rfl rfl ?_
    refine r_callMi 25 dX8_willBe_22 rfl ykX8_secondOf lk_X8_140 (e2_secondOf h hi) rfl rfl rfl rfl rfl rfl ⟨Nat.le_refl _, Nat.le_refl _⟩ ?_
    refine r_ishr 26 dX8_willBe_25 rfl ?_
    refine r_iconst (v := 1) 27 dX8_willBe_26 rfl rfl ?_
    refine r_iand 28 dX8_willBe_27 rfl ?_
    rw [n_bit hx (by omega)]
    refine r_iconst (v := 1) 29 dX8_willBe_28 rfl rfl ?_
    refine r_icmp_ne 36 32 dX8_willBe_29 rfl rfl (fun h29 => ?_) (fun h29 => ?_)
    · have g2 := mt (tbI _ _).mpr h29
      refine r_iconst (v := 0) 37 dX8_willBe_36 rfl rfl ?_
      refine r_istore (i := 4) 39 dX8_willBe_37 rfl rfl ?_
      first | exact fin true true (decide_eq_true g1).symm (decide_eq_true g2).symm | exact fin true false (decide_eq_true g1).symm (decide_eq_false g2).symm | exact fin false true (decide_eq_false g1).symm (decide_eq_true g2).symm | exact fin false false (decide_eq_false g1).symm (decide_eq_false g2).symm
    · have g2 := (tbI _ _).mp h29
      refine r_iconst (v := 1) 33 dX8_willBe_32 rfl rfl ?_
      refine r_goto 37 dX8_willBe_33 rfl ?_
      refine r_istore (i := 4) 39 dX8_willBe_37 rfl rfl ?_
      first | exact fin true true (decide_eq_true g1).symm (decide_eq_true g2).symm | exact fin true false (decide_eq_true g1).symm (decide_eq_false g2).symm | exact fin false true (decide_eq_false g1).symm (decide_eq_true g2).symm | exact fin false false (decide_eq_false g1).symm (decide_eq_false g2).symm
  · have g1 := (tbI _ _).mp h10
    refine r_iconst (v := 1) 14 dX8_willBe_13 rfl rfl ?_
    refine r_goto 18 dX8_willBe_14 rfl ?_
    refine r_istore_n (i := 3) 19 dX8_willBe_18 rfl rfl rfl ?_
    refine r_iload_n (i := 1) 20 dX8_willBe_19 rfl rfl rfl ?_
    refine r_aload_n (i := 0) 21 dX8_willBe_20 rfl rfl rfl ?_
    refine r_iload_n (i := 2) 22 dX8_willBe_21 rfl rfl rfl ?_
    refine r_callMi 25 dX8_willBe_22 rfl ykX8_secondOf lk_X8_140 (e2_secondOf h hi) rfl rfl rfl rfl rfl rfl ⟨Nat.le_refl _, Nat.le_refl _⟩ ?_
    refine r_ishr 26 dX8_willBe_25 rfl ?_
    refine r_iconst (v := 1) 27 dX8_willBe_26 rfl rfl ?_
    refine r_iand 28 dX8_willBe_27 rfl ?_
    rw [n_bit hx (by omega)]
    refine r_iconst (v := 1) 29 dX8_willBe_28 rfl rfl ?_
    refine r_icmp_ne 36 32 dX8_willBe_29 rfl rfl (fun h29 => ?_) (fun h29 => ?_)
    · have g2 := mt (tbI _ _).mpr h29
      refine r_iconst (v := 0) 37 dX8_willBe_36 rfl rfl ?_
      refine r_istore (i := 4) 39 dX8_willBe_37 rfl rfl ?_
      first | exact fin true true (decide_eq_true g1).symm (decide_eq_true g2).symm | exact fin true false (decide_eq_true g1).symm (decide_eq_false g2).symm | exact fin false true (decide_eq_false g1).symm (decide_eq_true g2).symm | exact fin false false (decide_eq_false g1).symm (decide_eq_false g2).symm
    · have g2 := (tbI _ _).mp h29
      refine r_iconst (v := 1) 33 dX8_willBe_32 rfl rfl ?_
      refine r_goto 37 dX8_willBe_33 rfl ?_
      refine r_istore (i := 4) 39 dX8_willBe_37 rfl rfl ?_
      first | exact fin true true (decide_eq_true g1).symm (decide_eq_true g2).symm | exact fin true false (decide_eq_true g1).symm (decide_eq_false g2).symm | exact fin false true (decide_eq_false g1).symm (decide_eq_true g2).symm | exact fin false false (decide_eq_false g1).symm (decide_eq_false g2).symm
theorem l2_nextOf (h : mok W.1 A) {x : Nat} (hx : x < 2 ^ 31) : ∀ (k i : Nat), sN A - i = k → i ≤ sN A → mm_r (d + 3) mX8_nextOf (mm_q (some (.int (nI (nx A x)))) (wM W)) 4 [some (.ref 0), some (.int (nI x)), some (.int (nI (nx' A x i))), some (.int (nI i))] [] (wM W) := by
  intro k
  have h6 := h.n6
  induction k with
  | zero =>
    intro i hk hi
    have e : i = sN A := by omega
    refine r_iload_n (i := 3) 5 dX8_nextOf_4 rfl rfl rfl ?_
    refine r_aload_n (i := 0) 6 dX8_nextOf_5 rfl rfl rfl ?_
    refine r_getf 9 dX8_nextOf_6 rfl fl_X8_125 rfl rfl ?_
    refine r_icmp_ge 37 12 dX8_nextOf_9 rfl rfl (fun h9 => ?_) (fun h9 => absurd (by rw [h.tm, e]; exact Int32.le_refl _) h9)
    refine r_iload_n (i := 2) 38 dX8_nextOf_37 rfl rfl rfl ?_
    exact r_reti dX8_nextOf_38 rfl (by first | rfl | exact bI_nar _) ⟨Nat.le_refl _, Nat.le_refl _⟩ (fun _ => rfl) (⟨by rw [e]; rfl, rfl⟩)
  | succ k ih =>
    intro i hk hi
    have hi2 : i < sN A := by omega
    have hb := nb_le A x i
    have n1 := nbI A x i
    have e0 : nb A x i = 0 → nI (nx' A x i) ||| 0 = nI (nx' A x (i + 1)) := fun z => by rw [show (0 : Int32) = nI 0 from rfl, fa_or, nx', z, Nat.zero_mul]
    have e1 : nb A x i = 1 → nI (nx' A x i) ||| (1 : Int32) <<< (nI i &&& 31) = nI (nx' A x (i + 1)) := fun z => by rw [n_shl1 (by omega), fa_or, nx', z, Nat.one_mul]
    refine r_iload_n (i := 3) 5 dX8_nextOf_4 rfl rfl rfl ?_
    refine r_aload_n (i := 0) 6 dX8_nextOf_5 rfl rfl rfl ?_
    refine r_getf 9 dX8_nextOf_6 rfl fl_X8_125 rfl rfl ?_
    refine r_icmp_ge 37 12 dX8_nextOf_9 rfl rfl (fun h9 => absurd (ble_of (a := sN A) (b := i) (by omega) (by omega) (by rw [← h.tm]; exact h9)) (by omega)) (fun h9 => ?_)
    refine r_iload_n (i := 2) 13 dX8_nextOf_12 rfl rfl rfl ?_
    refine r_aload_n (i := 0) 14 dX8_nextOf_13 rfl rfl rfl ?_
    refine r_iload_n (i := 1) 15 dX8_nextOf_14 rfl rfl rfl ?_
    refine r_iload_n (i := 3) 16 dX8_nextOf_15 rfl rfl rfl ?_
    refine r_callMi 19 dX8_nextOf_16 rfl ykX8_willBe lk_X8_143 (e2_willBe h hi2 hx) rfl rfl rfl rfl rfl rfl ⟨Nat.le_refl _, Nat.le_refl _⟩ ?_
    refine r_if_eq 28 22 dX8_nextOf_19 rfl rfl (fun h19 => ?_) (fun h19 => ?_)
    · have g := n1.mp h19
      refine r_iconst (v := 0) 29 dX8_nextOf_28 rfl rfl ?_
      refine r_ior 30 dX8_nextOf_29 rfl ?_
      first | rw [e0 g] | rw [e1 (by omega)]
      refine r_istore_n (i := 2) 31 dX8_nextOf_30 rfl rfl rfl ?_
      refine r_iinc (i := 3) 34 dX8_nextOf_31 rfl rfl (by first | exact nI_1 _ | rfl) rfl ?_
      refine r_goto 4 dX8_nextOf_34 rfl ?_
      exact ih (i + 1) (by omega) (by omega)
    · have g := mt n1.mpr h19
      refine r_iconst (v := 1) 23 dX8_nextOf_22 rfl rfl ?_
      refine r_iload_n (i := 3) 24 dX8_nextOf_23 rfl rfl rfl ?_
      refine r_ishl 25 dX8_nextOf_24 rfl ?_
      refine r_goto 29 dX8_nextOf_25 rfl ?_
      refine r_ior 30 dX8_nextOf_29 rfl ?_
      first | rw [e0 g] | rw [e1 (by omega)]
      refine r_istore_n (i := 2) 31 dX8_nextOf_30 rfl rfl rfl ?_
      refine r_iinc (i := 3) 34 dX8_nextOf_31 rfl rfl (by first | exact nI_1 _ | rfl) rfl ?_
      refine r_goto 4 dX8_nextOf_34 rfl ?_
      exact ih (i + 1) (by omega) (by omega)
theorem e2_nextOf (h : mok W.1 A) {x : Nat} (hx : x < 2 ^ 31) : mm_e (d + 3) yX8_nextOf mX8_nextOf [.ref 0, .int (nI x)] (wM W) (mm_q (some (.int (nI (nx A x)))) (wM W)) := by
  refine e_of [some (.ref 0), some (.int (nI x)), none, none] rfl (by decide) rfl rfl rfl ?_
  refine r_iconst (v := 0) 1 dX8_nextOf_0 rfl rfl ?_
  refine r_istore_n (i := 2) 2 dX8_nextOf_1 rfl rfl rfl ?_
  refine r_iconst (v := 0) 3 dX8_nextOf_2 rfl rfl ?_
  refine r_istore_n (i := 3) 4 dX8_nextOf_3 rfl rfl rfl ?_
  exact l2_nextOf h hx _ 0 rfl (Nat.zero_le _)
theorem l2_afterYears (h : mok W.1 A) {x m : Nat} (hx : x < 2 ^ sN A) (hm : m < 2 ^ 31) : ∀ (k i : Nat), m - i = k → i ≤ m → mm_r (d + 4) mX8_afterYears (mm_q (some (.int (nI (ny A m x)))) (wM W)) 5 [some (.ref 0), some (.int (nI x)), some (.int (nI m)), some (.int (nI (ny A i x))), some (.int (nI i))] [] (wM W) := by
  intro k
  induction k with
  | zero =>
    intro i hk hi
    have e : i = m := by omega
    refine r_iload (i := 4) 7 dX8_afterYears_5 rfl rfl ?_
    refine r_iload_n (i := 2) 8 dX8_afterYears_7 rfl rfl rfl ?_
    refine r_icmp_ge 23 11 dX8_afterYears_8 rfl rfl (fun h8 => ?_) (fun h8 => absurd (by rw [e]; exact Int32.le_refl _) h8)
    refine r_iload_n (i := 3) 24 dX8_afterYears_23 rfl rfl rfl ?_
    exact r_reti dX8_afterYears_24 rfl (by first | rfl | exact bI_nar _) ⟨Nat.le_refl _, Nat.le_refl _⟩ (fun _ => rfl) (⟨by rw [e], rfl⟩)
  | succ k ih =>
    intro i hk hi
    refine r_iload (i := 4) 7 dX8_afterYears_5 rfl rfl ?_
    refine r_iload_n (i := 2) 8 dX8_afterYears_7 rfl rfl rfl ?_
    refine r_icmp_ge 23 11 dX8_afterYears_8 rfl rfl (fun h8 => absurd (ble_of (by omega) (by omega) h8) (by omega)) (fun h8 => ?_)
    refine r_aload_n (i := 0) 12 dX8_afterYears_11 rfl rfl rfl ?_
    refine r_iload_n (i := 3) 13 dX8_afterYears_12 rfl rfl rfl ?_
    refine r_callMi 16 dX8_afterYears_13 rfl ykX8_nextOf lk_X8_147 (e2_nextOf h (h.lt31 (ny_lt hx i))) rfl rfl rfl rfl rfl rfl ⟨Nat.le_refl _, Nat.le_refl _⟩ ?_
    refine r_istore_n (i := 3) 17 dX8_afterYears_16 rfl rfl rfl ?_
    refine r_iinc (i := 4) 20 dX8_afterYears_17 rfl rfl (by first | exact nI_1 _ | rfl) rfl ?_
    refine r_goto 5 dX8_afterYears_20 rfl ?_
    exact ih (i + 1) (by omega) (by omega)
theorem e2_afterYears (h : mok W.1 A) {x m : Nat} (hx : x < 2 ^ sN A) (hm : m < 2 ^ 31) : mm_e (d + 4) yX8_afterYears mX8_afterYears [.ref 0, .int (nI x), .int (nI m)] (wM W) (mm_q (some (.int (nI (ny A m x)))) (wM W)) := by
  refine e_of [some (.ref 0), some (.int (nI x)), some (.int (nI m)), none, none] rfl (by decide) rfl rfl rfl ?_
  refine r_iload_n (i := 1) 1 dX8_afterYears_0 rfl rfl rfl ?_
  refine r_istore_n (i := 3) 2 dX8_afterYears_1 rfl rfl rfl ?_
  refine r_iconst (v := 0) 3 dX8_afterYears_2 rfl rfl ?_
  refine r_istore (i := 4) 5 dX8_afterYears_3 rfl rfl ?_
  exact l2_afterYears h hx hm _ 0 rfl (Nat.zero_le _)
theorem e2_isBroken (h : mok W.1 A) {x b : Nat} (hb : b < sB A) (hx : x < 2 ^ 31) : mm_e (d + 1) yX8_isBroken mX8_isBroken [.ref 0, .int (nI x), .int (nI b)] (wM W) (mm_q (some (.int (bI (brk A x b)))) (wM W)) := by
  have h6 := h.n6
  have h4 := h.b4
  obtain ⟨k1, k2, k3, k4⟩ := h.bat hb
  have hin : vp_in (nI (27 + 2 * b)) 148 := vp_in_nI (by omega) (by decide)
  have hin2 : vp_in (nI (27 + 2 * b + 1)) 148 := vp_in_nI (by omega) (by decide)
  refine e_of [some (.ref 0), some (.int (nI x)), some (.int (nI b))] rfl (by decide) rfl rfl rfl ?_
  refine r_iload_n (i := 1) 1 dX8_isBroken_0 rfl rfl rfl ?_
  refine r_aload_n (i := 0) 2 dX8_isBroken_1 rfl rfl rfl ?_
  refine r_getf 5 dX8_isBroken_2 rfl fl_X8_7 rfl rfl ?_
  refine r_bipush (v := 27) 7 dX8_isBroken_5 rfl rfl ?_
  refine r_iconst (v := 2) 8 dX8_isBroken_7 rfl rfl ?_
  refine r_iload_n (i := 2) 9 dX8_isBroken_8 rfl rfl rfl ?_
  refine r_imul 10 dX8_isBroken_9 rfl ?_
  refine r_iadd 11 dX8_isBroken_10 rfl ?_
  rw [c27]
  refine r_iald 12 dX8_isBroken_11 rfl rfl (by assumption) ?_
  rw [nI_clamp (n := 27 + 2 * b) (by omega), k1]
  refine r_ishr 13 dX8_isBroken_12 rfl ?_
  refine r_iconst (v := 1) 14 dX8_isBroken_13 rfl rfl ?_
  refine r_iand 15 dX8_isBroken_14 rfl ?_
  rw [n_bit hx (by omega)]
  refine r_iconst (v := 1) 16 dX8_isBroken_15 rfl rfl ?_
  refine r_icmp_ne 44 19 dX8_isBroken_16 rfl rfl (fun h16 => ?_) (fun h16 => ?_)
  · have g := mt (tbI _ _).mpr h16
    refine r_iconst (v := 0) 45 dX8_isBroken_44 rfl rfl ?_
    exact r_reti dX8_isBroken_45 rfl (by first | rfl | exact bI_nar _) ⟨Nat.le_refl _, Nat.le_refl _⟩ (fun _ => rfl) (⟨by first | simp [brk, g, g2, bI] | simp [brk, g, bI], rfl⟩)
  · have g := (tbI _ _).mp h16
    refine r_iload_n (i := 1) 20 dX8_isBroken_19 rfl rfl rfl ?_
    refine r_aload_n (i := 0) 21 dX8_isBroken_20 rfl rfl rfl ?_
    refine r_getf 24 dX8_isBroken_21 rfl fl_X8_7 rfl rfl ?_
    refine r_bipush (v := 27) 26 dX8_isBroken_24 rfl rfl ?_
    refine r_iconst (v := 2) 27 dX8_isBroken_26 rfl rfl ?_
    refine r_iload_n (i := 2) 28 dX8_isBroken_27 rfl rfl rfl ?_
    refine r_imul 29 dX8_isBroken_28 rfl ?_
    refine r_iadd 30 dX8_isBroken_29 rfl ?_
    refine r_iconst (v := 1) 31 dX8_isBroken_30 rfl rfl ?_
    refine r_iadd 32 dX8_isBroken_31 rfl ?_
    rw [c27, nI_1]
    refine r_iald 33 dX8_isBroken_32 rfl rfl (by assumption) ?_
    rw [nI_clamp (n := 27 + 2 * b + 1) (by omega), k2]
    refine r_ishr 34 dX8_isBroken_33 rfl ?_
    refine r_iconst (v := 1) 35 dX8_isBroken_34 rfl rfl ?_
    refine r_iand 36 dX8_isBroken_35 rfl ?_
    rw [n_bit hx (by omega)]
    refine r_iconst (v := 1) 37 dX8_isBroken_36 rfl rfl ?_
    refine r_icmp_ne 44 40 dX8_isBroken_37 rfl rfl (fun h37 => ?_) (fun h37 => ?_)
    · have g2 := mt (tbI _ _).mpr h37
      refine r_iconst (v := 0) 45 dX8_isBroken_44 rfl rfl ?_
      exact r_reti dX8_isBroken_45 rfl (by first | rfl | exact bI_nar _) ⟨Nat.le_refl _, Nat.le_refl _⟩ (fun _ => rfl) (⟨by first | simp [brk, g, g2, bI] | simp [brk, g, bI], rfl⟩)
    · have g2 := (tbI _ _).mp h37
      refine r_iconst (v := 1) 41 dX8_isBroken_40 rfl rfl ?_
      refine r_goto 45 dX8_isBroken_41 rfl ?_
      exact r_reti dX8_isBroken_45 rfl (by first | rfl | exact bI_nar _) ⟨Nat.le_refl _, Nat.le_refl _⟩ (fun _ => rfl) (⟨by first | simp [brk, g, g2, bI] | simp [brk, g, bI], rfl⟩)
theorem l2_isAllowed (h : mok W.1 A) {x : Nat} (hx : x < 2 ^ 31) : ∀ (k i : Nat), sB A - i = k → i ≤ sB A → mm_r (d + 2) mX8_isAllowed (mm_q (some (.int (bI (al A x)))) (wM W)) 4 [some (.ref 0), some (.int (nI x)), some (.int (bI (al' A x i))), some (.int (nI i))] [] (wM W) := by
  intro k
  have h4 := h.b4
  have hin : vp_in (35 : Int32) 148 := vp_in_nI (n := 35) (by decide) (by decide)
  have eb : W.1.1 (35 : Int32).toNatClampNeg = nI (sB A) := h.bn
  induction k with
  | zero =>
    intro i hk hi
    have e : i = sB A := by omega
    refine r_iload_n (i := 3) 5 dX8_isAllowed_4 rfl rfl rfl ?_
    refine r_aload_n (i := 0) 6 dX8_isAllowed_5 rfl rfl rfl ?_
    refine r_getf 9 dX8_isAllowed_6 rfl fl_X8_7 rfl rfl ?_
    refine r_bipush (v := 35) 11 dX8_isAllowed_9 rfl rfl ?_
    refine r_iald 12 dX8_isAllowed_11 rfl rfl (by assumption) ?_
    rw [eb]
    refine r_icmp_ge 40 15 dX8_isAllowed_12 rfl rfl (fun h12 => ?_) (fun h12 => absurd (by rw [e]; exact Int32.le_refl _) h12)
    refine r_iload_n (i := 2) 41 dX8_isAllowed_40 rfl rfl rfl ?_
    exact r_reti dX8_isAllowed_41 rfl (by first | rfl | exact bI_nar _) ⟨Nat.le_refl _, Nat.le_refl _⟩ (fun _ => rfl) (⟨by rw [e]; rfl, rfl⟩)
  | succ k ih =>
    intro i hk hi
    have hi2 : i < sB A := by omega
    refine r_iload_n (i := 3) 5 dX8_isAllowed_4 rfl rfl rfl ?_
    refine r_aload_n (i := 0) 6 dX8_isAllowed_5 rfl rfl rfl ?_
    refine r_getf 9 dX8_isAllowed_6 rfl fl_X8_7 rfl rfl ?_
    refine r_bipush (v := 35) 11 dX8_isAllowed_9 rfl rfl ?_
    refine r_iald 12 dX8_isAllowed_11 rfl rfl (by assumption) ?_
    rw [eb]
    refine r_icmp_ge 40 15 dX8_isAllowed_12 rfl rfl (fun h12 => absurd (ble_of (a := sB A) (b := i) (by omega) (by omega) h12) (by omega)) (fun h12 => ?_)
    refine r_iload_n (i := 2) 16 dX8_isAllowed_15 rfl rfl rfl ?_
    refine r_if_eq 32 19 dX8_isAllowed_16 rfl rfl (fun h16 => ?_) (fun h16 => ?_)
    · have g := bI_eq0 h16
      refine r_iconst (v := 0) 33 dX8_isAllowed_32 rfl rfl ?_
      refine r_istore_n (i := 2) 34 dX8_isAllowed_33 rfl rfl rfl ?_
      refine r_iinc (i := 3) 37 dX8_isAllowed_34 rfl rfl (by first | exact nI_1 _ | rfl) rfl ?_
      refine r_goto 4 dX8_isAllowed_37 rfl ?_
      refine r_eq (ih (i + 1) (by omega) (by omega)) ?_ rfl rfl
      first | (rw [al', g, g2]; rfl) | (rw [al', g]; rfl)
    · have g := bI_ne0 h16
      refine r_aload_n (i := 0) 20 dX8_isAllowed_19 rfl rfl rfl ?_
      refine r_iload_n (i := 1) 21 dX8_isAllowed_20 rfl rfl rfl ?_
      refine r_iload_n (i := 3) 22 dX8_isAllowed_21 rfl rfl rfl ?_
      refine r_callMi 25 dX8_isAllowed_22 rfl ykX8_isBroken lk_X8_150 (e2_isBroken h hi2 hx) rfl rfl rfl rfl rfl rfl ⟨Nat.le_refl _, Nat.le_refl _⟩ ?_
      refine r_if_ne 32 28 dX8_isAllowed_25 rfl rfl (fun h25 => ?_) (fun h25 => ?_)
      · have g2 := bI_ne0 h25
        refine r_iconst (v := 0) 33 dX8_isAllowed_32 rfl rfl ?_
        refine r_istore_n (i := 2) 34 dX8_isAllowed_33 rfl rfl rfl ?_
        refine r_iinc (i := 3) 37 dX8_isAllowed_34 rfl rfl (by first | exact nI_1 _ | rfl) rfl ?_
        refine r_goto 4 dX8_isAllowed_37 rfl ?_
        refine r_eq (ih (i + 1) (by omega) (by omega)) ?_ rfl rfl
        first | (rw [al', g, g2]; rfl) | (rw [al', g]; rfl)
      · have g2 := bI_eq0 h25
        refine r_iconst (v := 1) 29 dX8_isAllowed_28 rfl rfl ?_
        refine r_goto 33 dX8_isAllowed_29 rfl ?_
        refine r_istore_n (i := 2) 34 dX8_isAllowed_33 rfl rfl rfl ?_
        refine r_iinc (i := 3) 37 dX8_isAllowed_34 rfl rfl (by first | exact nI_1 _ | rfl) rfl ?_
        refine r_goto 4 dX8_isAllowed_37 rfl ?_
        refine r_eq (ih (i + 1) (by omega) (by omega)) ?_ rfl rfl
        first | (rw [al', g, g2]; rfl) | (rw [al', g]; rfl)
theorem e2_isAllowed (h : mok W.1 A) {x : Nat} (hx : x < 2 ^ 31) : mm_e (d + 2) yX8_isAllowed mX8_isAllowed [.ref 0, .int (nI x)] (wM W) (mm_q (some (.int (bI (al A x)))) (wM W)) := by
  refine e_of [some (.ref 0), some (.int (nI x)), none, none] rfl (by decide) rfl rfl rfl ?_
  refine r_iconst (v := 1) 1 dX8_isAllowed_0 rfl rfl ?_
  refine r_istore_n (i := 2) 2 dX8_isAllowed_1 rfl rfl rfl ?_
  refine r_iconst (v := 0) 3 dX8_isAllowed_2 rfl rfl ?_
  refine r_istore_n (i := 3) 4 dX8_isAllowed_3 rfl rfl rfl ?_
  exact l2_isAllowed h hx _ 0 rfl (Nat.zero_le _)
theorem e2_agrees (h : mok W.1 A) {x : Nat} (hx : x < 2 ^ 31) : mm_e (d + 4) yX8_agrees mX8_agrees [.ref 0, .int (nI x)] (wM W) (mm_q (some (.int (bI (ag A x)))) (wM W)) := by
  have h1 := h.lt31 (nx_lt A x)
  refine e_of [some (.ref 0), some (.int (nI x))] rfl (by decide) rfl rfl rfl ?_
  refine r_aload_n (i := 0) 1 dX8_agrees_0 rfl rfl rfl ?_
  refine r_iload_n (i := 1) 2 dX8_agrees_1 rfl rfl rfl ?_
  refine r_callMi 5 dX8_agrees_2 rfl ykX8_nextOf lk_X8_147 (e2_nextOf h hx) rfl rfl rfl rfl rfl rfl ⟨Nat.le_refl _, Nat.le_refl _⟩ ?_
  refine r_iload_n (i := 1) 6 dX8_agrees_5 rfl rfl rfl ?_
  refine r_icmp_ne 13 9 dX8_agrees_6 rfl rfl (fun h6 => ?_) (fun h6 => ?_)
  · have g := bne_of h1 hx h6
    refine r_iconst (v := 0) 14 dX8_agrees_13 rfl rfl ?_
    exact r_reti dX8_agrees_14 rfl (by first | rfl | exact bI_nar _) ⟨Nat.le_refl _, Nat.le_refl _⟩ (fun _ => rfl) (⟨by simp [ag, g, bI], rfl⟩)
  · have g := beq_of h1 hx h6
    refine r_iconst (v := 1) 10 dX8_agrees_9 rfl rfl ?_
    refine r_goto 14 dX8_agrees_10 rfl ?_
    exact r_reti dX8_agrees_14 rfl (by first | rfl | exact bI_nar _) ⟨Nat.le_refl _, Nat.le_refl _⟩ (fun _ => rfl) (⟨by simp [ag, g, bI], rfl⟩)
end MA
