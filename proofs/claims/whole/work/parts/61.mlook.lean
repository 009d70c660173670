-- WHERE TO LOOK, IN THE REFERENCE
def lkC (A : sA) (V : sV) (j i : Nat) : Nat := fb_ct (fun x => fit V A x && decide (tb (ny A (j / 6) x) (j % 6) = 1)) i
theorem lkC_all (A : sA) (V : sV) (j : Nat) : lkC A V j (2 ^ sN A) = lkc A V (j / 6) (j % 6) := rfl
theorem lkC_succ (A : sA) (V : sV) (j i : Nat) (h : fit V A i = true) : lkC A V j (i + 1) = lkC A V j i + tb (ny A (j / 6) i) (j % 6) := by
  unfold lkC
  rw [fb_ct_succ, h]
  rcases tb_01 (ny A (j / 6) i) (j % 6) with q | q <;> rw [q] <;> rfl
theorem lkC_no (A : sA) (V : sV) (j i : Nat) (h : fit V A i = false) : lkC A V j (i + 1) = lkC A V j i := by
  unfold lkC
  rw [fb_ct_succ, h]
  rfl
def lkU (A : sA) (V : sV) (k : Nat) : Nat × Int32 := lkF A V (k / 6) (min (k % 6) (sN A)) (lkN A V (k / 6))
theorem lkU_le (A : sA) (V : sV) (hA : sN A ≤ 6) (k : Nat) : (lkU A V k).1 ≤ 64 := lkF_le A V _ _ (lkN_le A V hA _) _
theorem lkF_0 (A : sA) (V : sV) (n : Nat) (q : Nat × Int32) : lkF A V n 0 q = q := by rw [lkF]
theorem lkU_60 (A : sA) (V : sV) : lkU A V 60 = lkN A V 10 := by
  have h1 : 60 / 6 = 10 := by decide
  have h2 : 60 % 6 = 0 := by decide
  unfold lkU
  rw [h1, h2, Nat.zero_min, lkF_0]
theorem lkU_in (A : sA) (V : sV) (hA : sN A ≤ 6) {k : Nat} (h : k % 6 < sN A) : lkU A V (k + 1) = if lkw A V (k / 6) (k % 6) < (lkU A V k).1 then (lkw A V (k / 6) (k % 6), nI (10 * (k / 6) + k % 6)) else lkU A V k := by
  have e : lkU A V (k + 1) = lkF A V (k / 6) (k % 6 + 1) (lkN A V (k / 6)) := by
    unfold lkU
    by_cases q : k % 6 = 5
    · rw [show (k + 1) / 6 = k / 6 + 1 by omega, show (k + 1) % 6 = 0 by omega, Nat.zero_min, q, lkF_0, lkN, show sN A = 5 + 1 by omega]
    · rw [show (k + 1) / 6 = k / 6 by omega, show (k + 1) % 6 = k % 6 + 1 by omega, Nat.min_eq_left (by omega)]
  rw [e, lkF]
  have e2 : lkU A V k = lkF A V (k / 6) (k % 6) (lkN A V (k / 6)) := by
    unfold lkU
    rw [Nat.min_eq_left (by omega)]
  rw [e2]
theorem lkU_out (A : sA) (V : sV) (hA : sN A ≤ 6) {k : Nat} (h : ¬ k % 6 < sN A) : lkU A V (k + 1) = lkU A V k := by
  unfold lkU
  by_cases q : k % 6 = 5
  · rw [show (k + 1) / 6 = k / 6 + 1 by omega, show (k + 1) % 6 = 0 by omega, Nat.zero_min, Nat.min_eq_right (by omega), lkF_0, lkN]
  · rw [show (k + 1) / 6 = k / 6 by omega, show (k + 1) % 6 = k % 6 + 1 by omega, Nat.min_eq_right (by omega), Nat.min_eq_right (by omega)]
section MK
variable {d : Nat} {S : sT} {w : mm_W} {W : MT} {A : sA} {V : sV}
theorem relM_So (h : relM W S) (f : Nat → Int32) : relM (zSo W f) S := h
theorem l2_lookA {what : Int32} {Qf : Option Value → mm_W → Prop} (out : ∀ f, (∀ j, j < 60 → f j = 0) → mm_r (d + 6) mX8_look Qf 35 [some (.ref 0), some (.int what), some (.int 0), some (.int (nI 60)), none, none, none, none] [] (wM (zSo W f))) : ∀ (k i : Nat) (f : Nat → Int32), 60 - i = k → i ≤ 60 → (∀ j, j < i → f j = 0) → mm_r (d + 6) mX8_look Qf 16 [some (.ref 0), some (.int what), some (.int 0), some (.int (nI i)), none, none, none, none] [] (wM (zSo W f)) := by
  intro k
  induction k with
  | zero =>
    intro i f hk hi hf
    have : i = 60 := by omega
    subst this
    refine r_iload_n (i := 3) 17 dX8_look_16 rfl rfl rfl ?_
    refine r_bipush (v := 60) 19 dX8_look_17 rfl rfl ?_
    refine r_icmp_ge 35 22 dX8_look_19 rfl rfl (fun h19 => ?_) (fun h19 => absurd (show (60 : Int32) ≤ nI 60 from by decide) h19)
    exact out f hf
  | succ k ih =>
    intro i f hk hi hf
    have hin : vp_in (nI i) 60 := vp_in_nI (by omega) (by decide)
    refine r_iload_n (i := 3) 17 dX8_look_16 rfl rfl rfl ?_
    refine r_bipush (v := 60) 19 dX8_look_17 rfl rfl ?_
    refine r_icmp_ge 35 22 dX8_look_19 rfl rfl (fun h19 => absurd (ble_of (a := 60) (b := i) (by decide) (by omega) h19) (by omega)) (fun h19 => ?_)
    refine r_aload_n (i := 0) 23 dX8_look_22 rfl rfl rfl ?_
    refine r_getf 26 dX8_look_23 rfl fl_X8_28 rfl rfl ?_
    refine r_iload_n (i := 3) 27 dX8_look_26 rfl rfl rfl ?_
    refine r_iconst (v := 0) 28 dX8_look_27 rfl rfl ?_
    refine r_iast 29 dX8_look_28 rfl rfl (by assumption) ?_
    refine r_iinc (i := 3) 32 dX8_look_29 rfl rfl (by first | exact nI_1 _ | rfl) rfl ?_
    refine r_goto 16 dX8_look_32 rfl ?_
    refine r_eq (ih (i + 1) (upd f i 0) (by omega) (by omega) (fun j hj => ?_)) rfl rfl (by rw [nI_clamp (n := i) (by omega)]; rfl)
    by_cases q : j = i <;> simp only [upd, q, if_true, if_false]
    exact hf j (by omega)
theorem l2_lookB (h : mok W.1 A) {s : Nat} (hs : s < 2 ^ sN A) (hfit : fit V A s = true) {what a : Int32} {Qf : Option Value → mm_W → Prop} (out : ∀ f, (∀ j, j < 60 → f j = nI (lkC A V j (s + 1))) → mm_r (d + 6) mX8_look Qf 100 [some (.ref 0), some (.int what), some (.int a), some (.int (nI s)), some (.int (nI 60)), none, none, none] [] (wM (zSo W f))) : ∀ (k i : Nat) (f : Nat → Int32), 60 - i = k → i ≤ 60 → (∀ j, j < i → f j = nI (lkC A V j (s + 1))) → (∀ j, i ≤ j → j < 60 → f j = nI (lkC A V j s)) → mm_r (d + 6) mX8_look Qf 59 [some (.ref 0), some (.int what), some (.int a), some (.int (nI s)), some (.int (nI i)), none, none, none] [] (wM (zSo W f)) := by
  intro k
  induction k with
  | zero =>
    intro i f hk hi h1 h2
    have : i = 60 := by omega
    subst this
    refine r_iload (i := 4) 61 dX8_look_59 rfl rfl ?_
    refine r_bipush (v := 60) 63 dX8_look_61 rfl rfl ?_
    refine r_icmp_ge 100 66 dX8_look_63 rfl rfl (fun h63 => ?_) (fun h63 => absurd (show (60 : Int32) ≤ nI 60 from by decide) h63)
    exact out f h1
  | succ k ih =>
    intro i f hk hi h1 h2
    have hin : vp_in (nI i) 60 := vp_in_nI (by omega) (by decide)
    have ly := h.lt31 (ny_lt hs (i / 6))
    have n6 : ¬ (6 : Int32) = 0 := by decide
    have e1 : nI i / 6 = nI (i / 6) := pk_div (a := i) (d := 6) (by omega) (by decide) (by decide)
    have e2 : nI i - nI i / 6 * 6 = nI (i % 6) := pk_rem (a := i) (d := 6) (by omega) (by decide) (by decide)
    have e3 : (zSo W f).2.2.2.2.2.2.1 i = nI (lkC A V i s) := h2 i (Nat.le_refl _) (by omega)
    refine r_iload (i := 4) 61 dX8_look_59 rfl rfl ?_
    refine r_bipush (v := 60) 63 dX8_look_61 rfl rfl ?_
    refine r_icmp_ge 100 66 dX8_look_63 rfl rfl (fun h63 => absurd (ble_of (a := 60) (b := i) (by decide) (by omega) h63) (by omega)) (fun h63 => ?_)
    refine r_aload_n (i := 0) 67 dX8_look_66 rfl rfl rfl ?_
    refine r_getf 70 dX8_look_67 rfl fl_X8_28 rfl rfl ?_
    refine r_iload (i := 4) 72 dX8_look_70 rfl rfl ?_
    refine r_dup2 73 dX8_look_72 rfl rfl rfl ?_
    refine r_iald 74 dX8_look_73 rfl rfl (by assumption) ?_
    rw [nI_clamp (n := i) (by omega), e3]
    refine r_aload_n (i := 0) 75 dX8_look_74 rfl rfl rfl ?_
    refine r_iload_n (i := 3) 76 dX8_look_75 rfl rfl rfl ?_
    refine r_iload (i := 4) 78 dX8_look_76 rfl rfl ?_
    refine r_bipush (v := 6) 80 dX8_look_78 rfl rfl ?_
    refine r_idiv 81 dX8_look_80 rfl (by assumption) ?_
    rw [e1]
    refine r_callMi 84 dX8_look_81 rfl ykX8_afterYears lk_X8_188 (e2_afterYears (W := zSo W f) h hs (m := i / 6) (by omega)) rfl rfl rfl rfl rfl rfl ⟨Nat.le_refl _, Nat.le_refl _⟩ ?_
    refine r_iload (i := 4) 86 dX8_look_84 rfl rfl ?_
    refine r_bipush (v := 6) 88 dX8_look_86 rfl rfl ?_
    refine r_irem 89 dX8_look_88 rfl (by assumption) ?_
    rw [e2]
    refine r_ishr 90 dX8_look_89 rfl ?_
    refine r_iconst (v := 1) 91 dX8_look_90 rfl rfl ?_
    refine r_iand 92 dX8_look_91 rfl ?_
    rw [n_bit ly (by omega)]
    refine r_iadd 93 dX8_look_92 rfl ?_
    rw [nI_add, ← lkC_succ A V i s hfit]
    refine r_iast 94 dX8_look_93 rfl rfl (by assumption) ?_
    refine r_iinc (i := 4) 97 dX8_look_94 rfl rfl (by first | exact nI_1 _ | rfl) rfl ?_
    refine r_goto 59 dX8_look_97 rfl ?_
    refine r_eq (ih (i + 1) (upd f i (nI (lkC A V i (s + 1)))) (by omega) (by omega) (fun j hj => ?_) (fun j hj hj2 => ?_)) rfl rfl (by rw [nI_clamp (n := i) (by omega)]; rfl)
    (· by_cases q : j = i <;> simp only [upd, q, if_true, if_false] ; exact h1 j (by omega))
    (· rw [u_ne (by omega)]; exact h2 j (by omega) hj2)
theorem l2_lookC (h : mok W.1 A) (hs : mSe W.2.2.2.2.2.1 V) (hV : vok V (sN A)) {what : Int32} {Qf : Option Value → mm_W → Prop} (out : ∀ f o4, (∀ j, j < 60 → f j = nI (lkC A V j (2 ^ sN A))) → mm_r (d + 6) mX8_look Qf 106 [some (.ref 0), some (.int what), some (.int (nI (fb_ct (fit V A) (2 ^ sN A)))), some (.int (nI (2 ^ sN A))), o4, none, none, none] [] (wM (zSo W f))) : ∀ (k s : Nat) (f : Nat → Int32) (o4 : Option Value), 2 ^ sN A - s = k → s ≤ 2 ^ sN A → (∀ j, j < 60 → f j = nI (lkC A V j s)) → mm_r (d + 6) mX8_look Qf 37 [some (.ref 0), some (.int what), some (.int (nI (fb_ct (fit V A) s))), some (.int (nI s)), o4, none, none, none] [] (wM (zSo W f)) := by
  have p6 := p2_le h.n6
  intro k
  induction k with
  | zero =>
    intro s f o4 hk hss hf
    have : s = 2 ^ sN A := by omega
    subst this
    refine r_iload_n (i := 3) 38 dX8_look_37 rfl rfl rfl ?_
    refine r_aload_n (i := 0) 39 dX8_look_38 rfl rfl rfl ?_
    refine r_callMi 42 dX8_look_39 rfl ykX8_states lk_X8_134 (e2_states (W := zSo W f) h) rfl rfl rfl rfl rfl rfl ⟨Nat.le_refl _, Nat.le_refl _⟩ ?_
    refine r_icmp_ge 106 45 dX8_look_42 rfl rfl (fun h42 => ?_) (fun h42 => absurd (Int32.le_refl _) h42)
    exact out f o4 hf
  | succ k ih =>
    intro s f o4 hk hss hf
    have hs2 : s < 2 ^ sN A := by omega
    have nx1 := nI_1 (fb_ct (fit V A) s)
    cases hfit : fit V A s with
    | false =>
      have ih2 := ih (s + 1) f o4 (by omega) (by omega) (fun j hj => by rw [lkC_no A V j s hfit]; exact hf j hj)
      rw [fb_ct_succ, hfit] at ih2
      refine r_iload_n (i := 3) 38 dX8_look_37 rfl rfl rfl ?_
      refine r_aload_n (i := 0) 39 dX8_look_38 rfl rfl rfl ?_
      refine r_callMi 42 dX8_look_39 rfl ykX8_states lk_X8_134 (e2_states (W := zSo W f) h) rfl rfl rfl rfl rfl rfl ⟨Nat.le_refl _, Nat.le_refl _⟩ ?_
      refine r_icmp_ge 106 45 dX8_look_42 rfl rfl (fun h42 => absurd (ble_of (by omega) (by omega) h42) (by omega)) (fun h42 => ?_)
      refine r_aload_n (i := 0) 46 dX8_look_45 rfl rfl rfl ?_
      refine r_iload_n (i := 3) 47 dX8_look_46 rfl rfl rfl ?_
      refine r_callMi 50 dX8_look_47 rfl ykX8_doesFit lk_X8_272 (e2_doesFit (W := zSo W f) h hs hV hs2) rfl rfl rfl rfl rfl rfl ⟨Nat.le_refl _, Nat.le_refl _⟩ ?_
      rw [hfit]
      refine r_if_eq 100 53 dX8_look_50 rfl rfl (fun h50 => ?_) (fun h50 => absurd rfl h50)
      refine r_iinc (i := 3) 103 dX8_look_100 rfl rfl (by first | exact nI_1 _ | rfl) rfl ?_
      refine r_goto 37 dX8_look_103 rfl ?_
      exact ih2
    | true =>
      have ih2 := fun f h => ih (s + 1) f (some (.int (nI 60))) (by omega) (by omega) h
      rw [fb_ct_succ, hfit] at ih2
      refine r_iload_n (i := 3) 38 dX8_look_37 rfl rfl rfl ?_
      refine r_aload_n (i := 0) 39 dX8_look_38 rfl rfl rfl ?_
      refine r_callMi 42 dX8_look_39 rfl ykX8_states lk_X8_134 (e2_states (W := zSo W f) h) rfl rfl rfl rfl rfl rfl ⟨Nat.le_refl _, Nat.le_refl _⟩ ?_
      refine r_icmp_ge 106 45 dX8_look_42 rfl rfl (fun h42 => absurd (ble_of (by omega) (by omega) h42) (by omega)) (fun h42 => ?_)
      refine r_aload_n (i := 0) 46 dX8_look_45 rfl rfl rfl ?_
      refine r_iload_n (i := 3) 47 dX8_look_46 rfl rfl rfl ?_
      refine r_callMi 50 dX8_look_47 rfl ykX8_doesFit lk_X8_272 (e2_doesFit (W := zSo W f) h hs hV hs2) rfl rfl rfl rfl rfl rfl ⟨Nat.le_refl _, Nat.le_refl _⟩ ?_
      rw [hfit]
      refine r_if_eq 100 53 dX8_look_50 rfl rfl (fun h50 => absurd h50 (by decide)) (fun h50 => ?_)
      refine r_iinc (i := 2) 56 dX8_look_53 rfl rfl (nI_1 _) rfl ?_
      refine r_iconst (v := 0) 57 dX8_look_56 rfl rfl ?_
      refine r_istore (i := 4) 59 dX8_look_57 rfl rfl ?_
      refine l2_lookB h hs2 hfit (fun f2 hf2 => ?_) _ 0 f rfl (Nat.zero_le _) (fun j hj => absurd hj (Nat.not_lt_zero j)) (fun j _ hj => hf j hj)
      refine r_iinc (i := 3) 103 dX8_look_100 rfl rfl (by first | exact nI_1 _ | rfl) rfl ?_
      refine r_goto 37 dX8_look_103 rfl ?_
      exact ih2 f2 hf2
theorem lkw_of {c a : Nat} (h : c ≤ a) : max c (a - c) = if a - c < c then c else a - c := by
  split
  · exact Nat.max_eq_left (by omega)
  · exact Nat.max_eq_right (by omega)
theorem l2_lookD (h : mok W.1 A) {what : Int32} {f : Nat → Int32} (hf : ∀ j, j < 60 → f j = nI (lkC A V j (2 ^ sN A))) {Q : mm_W → Prop} (hQ : Q (wM (zSo W f))) : ∀ (k i : Nat) (o6 o7 : Option Value), 60 - i = k → i ≤ 60 → mm_r (d + 6) mX8_look (fun v u => v = some (.int (pick what (lkN A V 10))) ∧ Q u) 115 [some (.ref 0), some (.int what), some (.int (nI (lka A V))), some (.int (nI (lkU A V i).1)), some (.int (lkU A V i).2), some (.int (nI i)), o6, o7] [] (wM (zSo W f)) := by
  have h6 := h.n6
  have al := lka_le A V h6
  intro k
  induction k with
  | zero =>
    intro i o6 o7 hk hi
    have : i = 60 := by omega
    subst this
    rw [lkU_60]
    refine r_iload (i := 5) 117 dX8_look_115 rfl rfl ?_
    refine r_bipush (v := 60) 119 dX8_look_117 rfl rfl ?_
    refine r_icmp_ge 231 122 dX8_look_119 rfl rfl (fun h119 => ?_) (fun h119 => absurd (show (60 : Int32) ≤ nI 60 from by decide) h119)
    refine r_iload (i := 4) 233 dX8_look_231 rfl rfl ?_
    refine r_bipush (v := (-4)) 235 dX8_look_233 rfl rfl ?_
    refine r_icmp_eq 242 238 dX8_look_235 rfl rfl (fun h235 => ?_) (fun h235 => ?_)
    · refine r_iload (i := 4) 244 dX8_look_242 rfl rfl ?_
      refine r_goto 248 dX8_look_244 rfl ?_
      exact r_reti dX8_look_248 rfl (by first | rfl | exact bI_nar _) ⟨Nat.le_refl _, Nat.le_refl _⟩ (fun _ => rfl) (⟨by simp_all [pick], hQ⟩)
    · refine r_iload_n (i := 1) 239 dX8_look_238 rfl rfl rfl ?_
      refine r_if_ne 247 242 dX8_look_239 rfl rfl (fun h239 => ?_) (fun h239 => ?_)
      · refine r_iload_n (i := 3) 248 dX8_look_247 rfl rfl rfl ?_
        exact r_reti dX8_look_248 rfl (by first | rfl | exact bI_nar _) ⟨Nat.le_refl _, Nat.le_refl _⟩ (fun _ => rfl) (⟨by simp_all [pick], hQ⟩)
      · refine r_iload (i := 4) 244 dX8_look_242 rfl rfl ?_
        refine r_goto 248 dX8_look_244 rfl ?_
        exact r_reti dX8_look_248 rfl (by first | rfl | exact bI_nar _) ⟨Nat.le_refl _, Nat.le_refl _⟩ (fun _ => rfl) (⟨by simp_all [pick], hQ⟩)
  | succ k ih =>
    intro i o6 o7 hk hi
    have hin : vp_in (nI i) 60 := vp_in_nI (by omega) (by decide)
    have n6 : ¬ (6 : Int32) = 0 := by decide
    have e1 : nI i / 6 = nI (i / 6) := pk_div (a := i) (d := 6) (by omega) (by decide) (by decide)
    have e2 : nI i - nI i / 6 * 6 = nI (i % 6) := pk_rem (a := i) (d := 6) (by omega) (by decide) (by decide)
    have e3 : (zSo W f).2.2.2.2.2.2.1 i = nI (lkc A V (i / 6) (i % 6)) := hf i (by omega)
    have cl : lkc A V (i / 6) (i % 6) ≤ lka A V := fb_ct_sub (fun x _ hx => by simp only [Bool.and_eq_true] at hx; exact hx.1)
    have ew := lkw_of cl
    have ec := nI_clamp (n := i) (by omega)
    have wl : lkw A V (i / 6) (i % 6) ≤ 64 := by rw [lkw]; omega
    have ul := lkU_le A V h6 i
    have k160 : mm_r (d + 6) mX8_look (fun v u => v = some (.int (pick what (lkN A V 10))) ∧ Q u) 160 [some (.ref 0), some (.int what), some (.int (nI (lka A V))), some (.int (nI (lkU A V i).1)), some (.int (lkU A V i).2), some (.int (nI i)), o6, o7] [.int (nI (lkw A V (i / 6) (i % 6)))] (wM (zSo W f)) := by
      by_cases c1 : i % 6 < sN A
      · have eU := lkU_in A V h6 c1
        by_cases c2 : lkw A V (i / 6) (i % 6) < (lkU A V i).1
        · rw [if_pos c2] at eU
          have ih2 := ih (i + 1) (some (.int (nI (lkw A V (i / 6) (i % 6))))) (some (.int 1)) (by omega) (by omega)
          rw [eU] at ih2
          refine r_istore (i := 6) 162 dX8_look_160 rfl rfl ?_
          refine r_iload (i := 5) 164 dX8_look_162 rfl rfl ?_
          refine r_bipush (v := 6) 166 dX8_look_164 rfl rfl ?_
          refine r_irem 167 dX8_look_166 rfl (by assumption) ?_
          rw [e2]
          refine r_aload_n (i := 0) 168 dX8_look_167 rfl rfl rfl ?_
          refine r_getf 171 dX8_look_168 rfl fl_X8_125 rfl rfl ?_
          rw [show (zSo W f).1.2.1 = nI (sN A) from h.tm]
          refine r_icmp_ge 184 174 dX8_look_171 rfl rfl (fun h171 => absurd (ble_of (by omega) (by omega) h171) (by omega)) (fun h171 => ?_)
          refine r_iload (i := 6) 176 dX8_look_174 rfl rfl ?_
          refine r_iload_n (i := 3) 177 dX8_look_176 rfl rfl rfl ?_
          refine r_icmp_ge 184 180 dX8_look_177 rfl rfl (fun h177 => absurd (ble_of (by omega) (by omega) h177) (by omega)) (fun h177 => ?_)
          refine r_iconst (v := 1) 181 dX8_look_180 rfl rfl ?_
          refine r_goto 185 dX8_look_181 rfl ?_
          refine r_istore (i := 7) 187 dX8_look_185 rfl rfl ?_
          refine r_iload (i := 7) 189 dX8_look_187 rfl rfl ?_
          refine r_if_eq 209 192 dX8_look_189 rfl rfl (fun h189 => absurd h189 (by decide)) (fun h189 => ?_)
          refine r_bipush (v := 10) 194 dX8_look_192 rfl rfl ?_
          refine r_iload (i := 5) 196 dX8_look_194 rfl rfl ?_
          refine r_bipush (v := 6) 198 dX8_look_196 rfl rfl ?_
          refine r_idiv 199 dX8_look_198 rfl (by assumption) ?_
          rw [e1]
          refine r_imul 200 dX8_look_199 rfl ?_
          refine r_iload (i := 5) 202 dX8_look_200 rfl rfl ?_
          refine r_bipush (v := 6) 204 dX8_look_202 rfl rfl ?_
          refine r_irem 205 dX8_look_204 rfl (by assumption) ?_
          rw [e2]
          refine r_iadd 206 dX8_look_205 rfl ?_
          rw [mul10 (by omega) (by omega)]
          refine r_goto 211 dX8_look_206 rfl ?_
          refine r_istore (i := 4) 213 dX8_look_211 rfl rfl ?_
          refine r_iload (i := 7) 215 dX8_look_213 rfl rfl ?_
          refine r_if_eq 223 218 dX8_look_215 rfl rfl (fun h215 => absurd h215 (by decide)) (fun h215 => ?_)
          refine r_iload (i := 6) 220 dX8_look_218 rfl rfl ?_
          refine r_goto 224 dX8_look_220 rfl ?_
          refine r_istore_n (i := 3) 225 dX8_look_224 rfl rfl rfl ?_
          refine r_iinc (i := 5) 228 dX8_look_225 rfl rfl (by first | exact nI_1 _ | rfl) rfl ?_
          refine r_goto 115 dX8_look_228 rfl ?_
          exact ih2
        · rw [if_neg c2] at eU
          have ih2 := ih (i + 1) (some (.int (nI (lkw A V (i / 6) (i % 6))))) (some (.int 0)) (by omega) (by omega)
          rw [eU] at ih2
          refine r_istore (i := 6) 162 dX8_look_160 rfl rfl ?_
          refine r_iload (i := 5) 164 dX8_look_162 rfl rfl ?_
          refine r_bipush (v := 6) 166 dX8_look_164 rfl rfl ?_
          refine r_irem 167 dX8_look_166 rfl (by assumption) ?_
          rw [e2]
          refine r_aload_n (i := 0) 168 dX8_look_167 rfl rfl rfl ?_
          refine r_getf 171 dX8_look_168 rfl fl_X8_125 rfl rfl ?_
          rw [show (zSo W f).1.2.1 = nI (sN A) from h.tm]
          refine r_icmp_ge 184 174 dX8_look_171 rfl rfl (fun h171 => absurd (ble_of (by omega) (by omega) h171) (by omega)) (fun h171 => ?_)
          refine r_iload (i := 6) 176 dX8_look_174 rfl rfl ?_
          refine r_iload_n (i := 3) 177 dX8_look_176 rfl rfl rfl ?_
          refine r_icmp_ge 184 180 dX8_look_177 rfl rfl (fun h177 => ?_) (fun h177 => absurd (nI_le (by omega) (by omega)) h177)
          refine r_iconst (v := 0) 185 dX8_look_184 rfl rfl ?_
          refine r_istore (i := 7) 187 dX8_look_185 rfl rfl ?_
          refine r_iload (i := 7) 189 dX8_look_187 rfl rfl ?_
          refine r_if_eq 209 192 dX8_look_189 rfl rfl (fun h189 => ?_) (fun h189 => absurd rfl h189)
          refine r_iload (i := 4) 211 dX8_look_209 rfl rfl ?_
          refine r_istore (i := 4) 213 dX8_look_211 rfl rfl ?_
          refine r_iload (i := 7) 215 dX8_look_213 rfl rfl ?_
          refine r_if_eq 223 218 dX8_look_215 rfl rfl (fun h215 => ?_) (fun h215 => absurd rfl h215)
          refine r_iload_n (i := 3) 224 dX8_look_223 rfl rfl rfl ?_
          refine r_istore_n (i := 3) 225 dX8_look_224 rfl rfl rfl ?_
          refine r_iinc (i := 5) 228 dX8_look_225 rfl rfl (by first | exact nI_1 _ | rfl) rfl ?_
          refine r_goto 115 dX8_look_228 rfl ?_
          exact ih2
      · have eU := lkU_out A V h6 c1
        have ih2 := ih (i + 1) (some (.int (nI (lkw A V (i / 6) (i % 6))))) (some (.int 0)) (by omega) (by omega)
        rw [eU] at ih2
        refine r_istore (i := 6) 162 dX8_look_160 rfl rfl ?_
        refine r_iload (i := 5) 164 dX8_look_162 rfl rfl ?_
        refine r_bipush (v := 6) 166 dX8_look_164 rfl rfl ?_
        refine r_irem 167 dX8_look_166 rfl (by assumption) ?_
        rw [e2]
        refine r_aload_n (i := 0) 168 dX8_look_167 rfl rfl rfl ?_
        refine r_getf 171 dX8_look_168 rfl fl_X8_125 rfl rfl ?_
        rw [show (zSo W f).1.2.1 = nI (sN A) from h.tm]
        refine r_icmp_ge 184 174 dX8_look_171 rfl rfl (fun h171 => ?_) (fun h171 => absurd (nI_le (by omega) (by omega)) h171)
        refine r_iconst (v := 0) 185 dX8_look_184 rfl rfl ?_
        refine r_istore (i := 7) 187 dX8_look_185 rfl rfl ?_
        refine r_iload (i := 7) 189 dX8_look_187 rfl rfl ?_
        refine r_if_eq 209 192 dX8_look_189 rfl rfl (fun h189 => ?_) (fun h189 => absurd rfl h189)
        refine r_iload (i := 4) 211 dX8_look_209 rfl rfl ?_
        refine r_istore (i := 4) 213 dX8_look_211 rfl rfl ?_
        refine r_iload (i := 7) 215 dX8_look_213 rfl rfl ?_
        refine r_if_eq 223 218 dX8_look_215 rfl rfl (fun h215 => ?_) (fun h215 => absurd rfl h215)
        refine r_iload_n (i := 3) 224 dX8_look_223 rfl rfl rfl ?_
        refine r_istore_n (i := 3) 225 dX8_look_224 rfl rfl rfl ?_
        refine r_iinc (i := 5) 228 dX8_look_225 rfl rfl (by first | exact nI_1 _ | rfl) rfl ?_
        refine r_goto 115 dX8_look_228 rfl ?_
        exact ih2
    rw [lkw, ew] at k160
    refine r_iload (i := 5) 117 dX8_look_115 rfl rfl ?_
    refine r_bipush (v := 60) 119 dX8_look_117 rfl rfl ?_
    refine r_icmp_ge 231 122 dX8_look_119 rfl rfl (fun h119 => absurd (ble_of (a := 60) (b := i) (by decide) (by omega) h119) (by omega)) (fun h119 => ?_)
    refine r_aload_n (i := 0) 123 dX8_look_122 rfl rfl rfl ?_
    refine r_getf 126 dX8_look_123 rfl fl_X8_28 rfl rfl ?_
    refine r_iload (i := 5) 128 dX8_look_126 rfl rfl ?_
    refine r_iald 129 dX8_look_128 rfl rfl (by assumption) ?_
    rw [ec, e3]
    refine r_iload_n (i := 2) 130 dX8_look_129 rfl rfl rfl ?_
    refine r_aload_n (i := 0) 131 dX8_look_130 rfl rfl rfl ?_
    refine r_getf 134 dX8_look_131 rfl fl_X8_28 rfl rfl ?_
    refine r_iload (i := 5) 136 dX8_look_134 rfl rfl ?_
    refine r_iald 137 dX8_look_136 rfl rfl (by assumption) ?_
    rw [ec, e3]
    refine r_isub 138 dX8_look_137 rfl ?_
    rw [pk_sub cl]
    refine r_icmp_le 151 141 dX8_look_138 rfl rfl (fun h138 => ?_) (fun h138 => ?_)
    · have z := ble_of (by omega) (by omega) h138
      rw [if_neg (by omega)] at k160
      refine r_iload_n (i := 2) 152 dX8_look_151 rfl rfl rfl ?_
      refine r_aload_n (i := 0) 153 dX8_look_152 rfl rfl rfl ?_
      refine r_getf 156 dX8_look_153 rfl fl_X8_28 rfl rfl ?_
      refine r_iload (i := 5) 158 dX8_look_156 rfl rfl ?_
      refine r_iald 159 dX8_look_158 rfl rfl (by assumption) ?_
      rw [ec, e3]
      refine r_isub 160 dX8_look_159 rfl ?_
      first | exact k160 | (rw [pk_sub cl]; exact k160)
    · have z := bnle_of (by omega) (by omega) h138
      rw [if_pos z] at k160
      refine r_aload_n (i := 0) 142 dX8_look_141 rfl rfl rfl ?_
      refine r_getf 145 dX8_look_142 rfl fl_X8_28 rfl rfl ?_
      refine r_iload (i := 5) 147 dX8_look_145 rfl rfl ?_
      refine r_iald 148 dX8_look_147 rfl rfl (by assumption) ?_
      rw [ec, e3]
      refine r_goto 160 dX8_look_148 rfl ?_
      first | exact k160 | (rw [pk_sub cl]; exact k160)
theorem q_look (hT : tOk S) (hC : CM S w) (what : Int32) : mm_e (d + 6) yX8_look mX8_look [.ref 0, .int what] w (QM (s_look S what) S) := by
  have hC0 := hC
  obtain ⟨W, rfl, hR⟩ := hC
  obtain ⟨hM, ⟨hx, hy⟩, ⟨ht, hb⟩, hf, ⟨v1, v2⟩, ⟨hk0, hk1⟩, hI, hH, hn⟩ := id hR
  have h6 := hM.n6
  have h4 := hM.g4
  have h5 := hM.b4
  have p6 := p2_le hM.n6
  have l0 := hM.lt31 hT.2.1
  have i18 : vp_in (18 : Int32) 148 := vp_in_nI (n := 18) (by decide) (by decide)
  have i35 : vp_in (35 : Int32) 148 := vp_in_nI (n := 35) (by decide) (by decide)
  have i36 : vp_in (36 : Int32) 148 := vp_in_nI (n := 36) (by decide) (by decide)
  have ex : W.1.1 (18 : Int32).toNatClampNeg = nI (tX S) := hx
  have ey : W.1.1 (36 : Int32).toNatClampNeg = nI (tY S) := hy
  have eb : W.1.1 (35 : Int32).toNatClampNeg = nI (sB (tA S)) := hM.bn
  refine e_of [some (.ref 0), some (.int what), none, none, none, none, none, none] rfl (by decide) rfl rfl rfl ?_
  rw [s_look, isb_inb]
  cases g : inb (nI 2) what with
  | false =>
    refine r_iload_n (i := 1) 1 dX8_look_0 rfl rfl rfl ?_
    refine r_i2l 2 dX8_look_1 rfl ?_
    refine r_lconst (v := 0) 3 dX8_look_2 rfl rfl ?_
    refine r_lconst (v := 1) 4 dX8_look_3 rfl rfl ?_
    refine r_callSi [] 7 dX8_look_4 rfl ykX8_in lk_X8_46 (e_in0 what (n := 2) (by decide) (by decide)) rfl rfl rfl ⟨Nat.le_refl _, Nat.le_refl _⟩ ?_
    rw [g]
    refine r_if_ne 12 10 dX8_look_7 rfl rfl (fun h7 => absurd rfl h7) (fun h7 => ?_)
    refine r_iconst (v := (-1)) 11 dX8_look_10 rfl rfl ?_
    exact r_reti dX8_look_11 rfl (by first | rfl | exact bI_nar _) ⟨Nat.le_refl _, Nat.le_refl _⟩ (fun _ => rfl) (⟨rfl, hC0⟩)
  | true =>
    refine r_iload_n (i := 1) 1 dX8_look_0 rfl rfl rfl ?_
    refine r_i2l 2 dX8_look_1 rfl ?_
    refine r_lconst (v := 0) 3 dX8_look_2 rfl rfl ?_
    refine r_lconst (v := 1) 4 dX8_look_3 rfl rfl ?_
    refine r_callSi [] 7 dX8_look_4 rfl ykX8_in lk_X8_46 (e_in0 what (n := 2) (by decide) (by decide)) rfl rfl rfl ⟨Nat.le_refl _, Nat.le_refl _⟩ ?_
    rw [g]
    refine r_if_ne 12 10 dX8_look_7 rfl rfl (fun h7 => ?_) (fun h7 => absurd h7 (by decide))
    refine r_iconst (v := 0) 13 dX8_look_12 rfl rfl ?_
    refine r_istore_n (i := 2) 14 dX8_look_13 rfl rfl rfl ?_
    refine r_iconst (v := 0) 15 dX8_look_14 rfl rfl ?_
    refine r_istore_n (i := 3) 16 dX8_look_15 rfl rfl rfl ?_
    refine r_eq (l2_lookA (W := W) (what := what) (fun f hf0 => ?_) _ 0 W.2.2.2.2.2.2.1 rfl (Nat.zero_le _) (fun j hj => absurd hj (Nat.not_lt_zero j))) rfl rfl rfl
    refine r_iconst (v := 0) 36 dX8_look_35 rfl rfl ?_
    refine r_istore_n (i := 3) 37 dX8_look_36 rfl rfl rfl ?_
    refine l2_lookC (V := tV S) hM ⟨v1, v2⟩ hT.2.2.2.2.2.2.1 (fun f2 o4 hf2 => ?_) _ 0 f none rfl (Nat.zero_le _) (fun j hj => hf0 j hj)
    refine r_iload_n (i := 2) 107 dX8_look_106 rfl rfl rfl ?_
    refine r_istore_n (i := 3) 108 dX8_look_107 rfl rfl rfl ?_
    refine r_bipush (v := (-4)) 110 dX8_look_108 rfl rfl ?_
    refine r_istore (i := 4) 112 dX8_look_110 rfl rfl ?_
    refine r_iconst (v := 0) 113 dX8_look_112 rfl rfl ?_
    refine r_istore (i := 5) 115 dX8_look_113 rfl rfl ?_
    exact l2_lookD hM hf2 (Q := CM S) ⟨_, rfl, relM_So hR f2⟩ _ 0 none none rfl (Nat.zero_le _)
end MK
