-- NAMES, NUMBERS IN THE REFERENCE
def cN (j : Nat) : Nat := [0, 5, 9, 17, 24, 28, 30, 35, 38].getD j 0
theorem cut_ok : ∀ j, j < 9 → cutF j = nI (cN j) := by decide +kernel
theorem cut_len : ∀ j, j < 8 → cN (j + 1) = cN j + sLen j ∧ cN (j + 1) ≤ 38 := by decide +kernel
theorem let_ok : ∀ j, j < 8 → ∀ i, i < sLen j → letF (cN j + i) = nI (sCh j i) ∧ sCh j i < 256 := by decide +kernel
theorem allb_pre {p : Nat → Bool} {k n : Nat} (h : allb p k = false) (hk : k ≤ n) : allb p n = false := by
  cases hn : allb p n with
  | false => rfl
  | true =>
    have := allb_iff.mp hn
    have h2 : allb p k = true := allb_iff.mpr (fun i hi => this i (by omega))
    rw [h] at h2
    cases h2
def wm (j : Nat) : Int32 := if j = 8 then -4 else nI j
section MO
variable {d : Nat} {W : MT} {b : Nat → Nat} {n : Nat} {s : pS}
theorem l2_name2 (ht : tpM W b n) {a e j : Nat} (hj : j < 8) (hae : a ≤ e) (hen : e ≤ n) (hp : rP W.2.1 = nI e) (hh : rH W.2.1 = nI a) (hl : e - a = sLen j) {Qf : Option Value → mm_W → Prop} (kk : ∀ o3, mm_r (d + 2) mX8_nameHere Qf 106 [some (.ref 0), some (.int (nI j)), some (.int (bI (wrd b a e j))), o3] [] (wM W)) : ∀ (k i : Nat), sLen j - i = k → i ≤ sLen j → mm_r (d + 2) mX8_nameHere Qf 51 [some (.ref 0), some (.int (nI j)), some (.int (bI (allb (fun i => decide (b (a + i) = sCh j i)) i))), some (.int (nI i))] [] (wM W) := by
  obtain ⟨c1, c2⟩ := cut_len j hj
  have t2 := ht.2.1
  have ew : wrd b a e j = allb (fun i => decide (b (a + i) = sCh j i)) (sLen j) := by unfold wrd; rw [decide_eq_true hl, Bool.true_and]
  have es : W.2.1.2.2.2.2.2.2.1 - W.2.1.2.2.2.2.2.2.2.1 = nI (sLen j) := by
    rw [show W.2.1.2.2.2.2.2.2.1 = nI e from hp, show W.2.1.2.2.2.2.2.2.2.1 = nI a from hh, pk_sub hae, hl]
  rw [ew] at kk
  intro k
  induction k with
  | zero =>
    intro i hk hi
    have e1 : i = sLen j := by omega
    subst e1
    refine r_iload_n (i := 2) 52 dX8_nameHere_51 rfl rfl rfl ?_
    refine r_if_eq 106 55 dX8_nameHere_52 rfl rfl (fun h52 => ?_) (fun h52 => ?_)
    · exact kk _
    · refine r_iload_n (i := 3) 56 dX8_nameHere_55 rfl rfl rfl ?_
      refine r_aload_n (i := 0) 57 dX8_nameHere_56 rfl rfl rfl ?_
      refine r_getf 60 dX8_nameHere_57 rfl fl_X8_66 rfl rfl ?_
      refine r_aload_n (i := 0) 61 dX8_nameHere_60 rfl rfl rfl ?_
      refine r_getf 64 dX8_nameHere_61 rfl fl_X8_57 rfl rfl ?_
      refine r_isub 65 dX8_nameHere_64 rfl ?_
      rw [es]
      refine r_icmp_ge 106 68 dX8_nameHere_65 rfl rfl (fun h65 => ?_) (fun h65 => absurd (Int32.le_refl _) h65)
      exact kk _
  | succ k ih =>
    intro i hk hi
    have hi2 : i < sLen j := by omega
    have in9 : vp_in (nI j) 9 := vp_in_nI (by omega) (by decide)
    have in38 : vp_in (nI (cN j + i)) 38 := vp_in_nI (by omega) (by decide)
    obtain ⟨l1, l2⟩ := let_ok j hj i hi2
    have b1 := (ht.2.2 (a + i) (by omega)).2
    cases hal : allb (fun i => decide (b (a + i) = sCh j i)) i with
    | false =>
      have ef := allb_pre (n := sLen j) hal (by omega)
      rw [ef] at kk
      refine r_iload_n (i := 2) 52 dX8_nameHere_51 rfl rfl rfl ?_
      refine r_if_eq 106 55 dX8_nameHere_52 rfl rfl (fun h52 => ?_) (fun h52 => absurd rfl h52)
      exact kk _
    | true =>
      have ih2 := ih (i + 1) (by omega) (by omega)
      rw [allb, hal, Bool.true_and] at ih2
      refine r_iload_n (i := 2) 52 dX8_nameHere_51 rfl rfl rfl ?_
      refine r_if_eq 106 55 dX8_nameHere_52 rfl rfl (fun h52 => absurd h52 (by decide)) (fun h52 => ?_)
      refine r_iload_n (i := 3) 56 dX8_nameHere_55 rfl rfl rfl ?_
      refine r_aload_n (i := 0) 57 dX8_nameHere_56 rfl rfl rfl ?_
      refine r_getf 60 dX8_nameHere_57 rfl fl_X8_66 rfl rfl ?_
      refine r_aload_n (i := 0) 61 dX8_nameHere_60 rfl rfl rfl ?_
      refine r_getf 64 dX8_nameHere_61 rfl fl_X8_57 rfl rfl ?_
      refine r_isub 65 dX8_nameHere_64 rfl ?_
      rw [es]
      refine r_icmp_ge 106 68 dX8_nameHere_65 rfl rfl (fun h65 => absurd (ble_of (by omega) (by omega) h65) (by omega)) (fun h65 => ?_)
      refine r_aload_n (i := 0) 69 dX8_nameHere_68 rfl rfl rfl ?_
      refine r_aload_n (i := 0) 70 dX8_nameHere_69 rfl rfl rfl ?_
      refine r_getf 73 dX8_nameHere_70 rfl fl_X8_57 rfl rfl ?_
      refine r_iload_n (i := 3) 74 dX8_nameHere_73 rfl rfl rfl ?_
      refine r_iadd 75 dX8_nameHere_74 rfl ?_
      rw [show W.2.1.2.2.2.2.2.2.2.1 = nI a from hh, nI_add]
      refine r_callMi 78 dX8_nameHere_75 rfl ykX8_byteAt lk_X8_69 (e2_byteAt ht (p := a + i) (by omega)) rfl rfl rfl rfl rfl rfl ⟨Nat.le_refl _, Nat.le_refl _⟩ ?_
      refine r_aload_n (i := 0) 79 dX8_nameHere_78 rfl rfl rfl ?_
      refine r_getf 82 dX8_nameHere_79 rfl fl_X8_22 rfl rfl ?_
      refine r_aload_n (i := 0) 83 dX8_nameHere_82 rfl rfl rfl ?_
      refine r_getf 86 dX8_nameHere_83 rfl fl_X8_19 rfl rfl ?_
      refine r_iload_n (i := 1) 87 dX8_nameHere_86 rfl rfl rfl ?_
      refine r_iald 88 dX8_nameHere_87 rfl rfl (by assumption) ?_
      rw [nI_clamp (n := j) (by omega), cut_ok j (by omega)]
      refine r_iload_n (i := 3) 89 dX8_nameHere_88 rfl rfl rfl ?_
      refine r_iadd 90 dX8_nameHere_89 rfl ?_
      rw [nI_add]
      refine r_iald 91 dX8_nameHere_90 rfl rfl (by assumption) ?_
      rw [nI_clamp (n := cN j + i) (by omega), l1, bA_lt (show a + i < n by omega)]
      refine r_icmp_ne 98 94 dX8_nameHere_91 rfl rfl (fun h91 => ?_) (fun h91 => ?_)
      · have g := bne_of (by omega) (by omega) h91
        rw [decide_eq_false g] at ih2
        refine r_iconst (v := 0) 99 dX8_nameHere_98 rfl rfl ?_
        refine r_istore_n (i := 2) 100 dX8_nameHere_99 rfl rfl rfl ?_
        refine r_iinc (i := 3) 103 dX8_nameHere_100 rfl rfl (by first | exact nI_1 _ | rfl) rfl ?_
        refine r_goto 51 dX8_nameHere_103 rfl ?_
        exact ih2
      · have g := beq_of (by omega) (by omega) h91
        rw [decide_eq_true g] at ih2
        refine r_iconst (v := 1) 95 dX8_nameHere_94 rfl rfl ?_
        refine r_goto 99 dX8_nameHere_95 rfl ?_
        refine r_istore_n (i := 2) 100 dX8_nameHere_99 rfl rfl rfl ?_
        refine r_iinc (i := 3) 103 dX8_nameHere_100 rfl rfl (by first | exact nI_1 _ | rfl) rfl ?_
        refine r_goto 51 dX8_nameHere_103 rfl ?_
        exact ih2
theorem l2_name1 (ht : tpM W b n) {a e : Nat} (hae : a ≤ e) (hen : e ≤ n) (hp : rP W.2.1 = nI e) (hh : rH W.2.1 = nI a) (hk1 : rK W.2.1 = 1) {T : Nat} : ∀ (k j : Nat) (o2 o3 : Option Value), k + j = 8 → wf b a e k j = T → mm_r (d + 2) mX8_nameHere (mm_q (some (.int (wm T))) (wM W)) 2 [some (.ref 0), some (.int (nI j)), o2, o3] [] (wM W) := by
  have t2 := ht.2.1
  intro k
  induction k with
  | zero =>
    intro j o2 o3 hk ej
    have : j = 8 := by omega
    subst this
    have ej : 8 = T := ej
    subst ej
    refine r_iload_n (i := 1) 3 dX8_nameHere_2 rfl rfl rfl ?_
    refine r_bipush (v := 8) 5 dX8_nameHere_3 rfl rfl ?_
    refine r_icmp_ge 118 8 dX8_nameHere_5 rfl rfl (fun h5 => ?_) (fun h5 => absurd (show (8 : Int32) ≤ nI 8 from by decide) h5)
    refine r_bipush (v := (-4)) 120 dX8_nameHere_118 rfl rfl ?_
    exact r_reti dX8_nameHere_120 rfl (by first | rfl | exact bI_nar _) ⟨Nat.le_refl _, Nat.le_refl _⟩ (fun _ => rfl) (⟨rfl, rfl⟩)
  | succ k ih =>
    intro j o2 o3 hk ej
    have hj : j < 8 := by omega
    obtain ⟨c1, c2⟩ := cut_len j hj
    have in9 : vp_in (nI j) 9 := vp_in_nI (by omega) (by decide)
    have in9b : vp_in (nI (j + 1)) 9 := vp_in_nI (by omega) (by decide)
    have kk : ∀ o3, mm_r (d + 2) mX8_nameHere (mm_q (some (.int (wm T))) (wM W)) 106 [some (.ref 0), some (.int (nI j)), some (.int (bI (wrd b a e j))), o3] [] (wM W) := by
      intro o3
      rw [wf] at ej
      cases hw : wrd b a e j with
      | true =>
        rw [hw, if_pos rfl] at ej
        subst ej
        refine r_iload_n (i := 2) 107 dX8_nameHere_106 rfl rfl rfl ?_
        refine r_if_eq 112 110 dX8_nameHere_107 rfl rfl (fun h107 => absurd h107 (by decide)) (fun h107 => ?_)
        refine r_iload_n (i := 1) 111 dX8_nameHere_110 rfl rfl rfl ?_
        exact r_reti dX8_nameHere_111 rfl (by first | rfl | exact bI_nar _) ⟨Nat.le_refl _, Nat.le_refl _⟩ (fun _ => rfl) (⟨by rw [wm, if_neg (by omega)], rfl⟩)
      | false =>
        rw [hw, if_neg (by decide)] at ej
        refine r_iload_n (i := 2) 107 dX8_nameHere_106 rfl rfl rfl ?_
        refine r_if_eq 112 110 dX8_nameHere_107 rfl rfl (fun h107 => ?_) (fun h107 => absurd rfl h107)
        refine r_iinc (i := 1) 115 dX8_nameHere_112 rfl rfl (by first | exact nI_1 _ | rfl) rfl ?_
        refine r_goto 2 dX8_nameHere_115 rfl ?_
        exact ih (j + 1) _ _ (by omega) ej
    have n51 : (∀ o3, mm_r (d + 2) mX8_nameHere (mm_q (some (.int (wm T))) (wM W)) 106 [some (.ref 0), some (.int (nI j)), some (.int (bI false)), o3] [] (wM W)) → mm_r (d + 2) mX8_nameHere (mm_q (some (.int (wm T))) (wM W)) 51 [some (.ref 0), some (.int (nI j)), some (.int 0), some (.int 0)] [] (wM W) := by
      intro k0
      refine r_iload_n (i := 2) 52 dX8_nameHere_51 rfl rfl rfl ?_
      refine r_if_eq 106 55 dX8_nameHere_52 rfl rfl (fun h52 => ?_) (fun h52 => absurd rfl h52)
      exact k0 _
    have e1 : nI e - nI a = nI (e - a) := pk_sub hae
    have e2 : nI (cN (j + 1)) - nI (cN j) = nI (sLen j) := by rw [pk_sub (by omega), c1]; congr 1; omega
    refine r_iload_n (i := 1) 3 dX8_nameHere_2 rfl rfl rfl ?_
    refine r_bipush (v := 8) 5 dX8_nameHere_3 rfl rfl ?_
    refine r_icmp_ge 118 8 dX8_nameHere_5 rfl rfl (fun h5 => absurd (ble_of (a := 8) (b := j) (by decide) (by omega) h5) (by omega)) (fun h5 => ?_)
    refine r_aload_n (i := 0) 9 dX8_nameHere_8 rfl rfl rfl ?_
    refine r_getf 12 dX8_nameHere_9 rfl fl_X8_63 rfl rfl ?_
    refine r_iconst (v := 1) 13 dX8_nameHere_12 rfl rfl ?_
    refine r_icmp_ne 118 16 dX8_nameHere_13 rfl rfl (fun h13 => absurd hk1 h13) (fun h13 => ?_)
    refine r_aload_n (i := 0) 17 dX8_nameHere_16 rfl rfl rfl ?_
    refine r_getf 20 dX8_nameHere_17 rfl fl_X8_66 rfl rfl ?_
    refine r_aload_n (i := 0) 21 dX8_nameHere_20 rfl rfl rfl ?_
    refine r_getf 24 dX8_nameHere_21 rfl fl_X8_57 rfl rfl ?_
    refine r_isub 25 dX8_nameHere_24 rfl ?_
    rw [show W.2.1.2.2.2.2.2.2.1 = nI e from hp, show W.2.1.2.2.2.2.2.2.2.1 = nI a from hh, e1]
    refine r_aload_n (i := 0) 26 dX8_nameHere_25 rfl rfl rfl ?_
    refine r_getf 29 dX8_nameHere_26 rfl fl_X8_19 rfl rfl ?_
    refine r_iload_n (i := 1) 30 dX8_nameHere_29 rfl rfl rfl ?_
    refine r_iconst (v := 1) 31 dX8_nameHere_30 rfl rfl ?_
    refine r_iadd 32 dX8_nameHere_31 rfl ?_
    rw [nI_1]
    refine r_iald 33 dX8_nameHere_32 rfl rfl (by assumption) ?_
    rw [nI_clamp (n := j + 1) (by omega), cut_ok (j + 1) (by omega)]
    refine r_aload_n (i := 0) 34 dX8_nameHere_33 rfl rfl rfl ?_
    refine r_getf 37 dX8_nameHere_34 rfl fl_X8_19 rfl rfl ?_
    refine r_iload_n (i := 1) 38 dX8_nameHere_37 rfl rfl rfl ?_
    refine r_iald 39 dX8_nameHere_38 rfl rfl (by assumption) ?_
    rw [nI_clamp (n := j) (by omega), cut_ok j (by omega)]
    refine r_isub 40 dX8_nameHere_39 rfl ?_
    rw [e2]
    refine r_icmp_ne 47 43 dX8_nameHere_40 rfl rfl (fun h40 => ?_) (fun h40 => ?_)
    · have g := bne_of (by omega) (by omega) h40
      have gw : wrd b a e j = false := (by unfold wrd; rw [decide_eq_false g]; rfl)
      rw [gw] at kk
      refine r_iconst (v := 0) 48 dX8_nameHere_47 rfl rfl ?_
      refine r_istore_n (i := 2) 49 dX8_nameHere_48 rfl rfl rfl ?_
      refine r_iconst (v := 0) 50 dX8_nameHere_49 rfl rfl ?_
      refine r_istore_n (i := 3) 51 dX8_nameHere_50 rfl rfl rfl ?_
      first | exact l2_name2 ht hj hae hen hp hh g kk _ 0 rfl (Nat.zero_le _) | exact n51 (fun o3 => kk o3)
    · have g := beq_of (by omega) (by omega) h40
      refine r_iconst (v := 1) 44 dX8_nameHere_43 rfl rfl ?_
      refine r_goto 48 dX8_nameHere_44 rfl ?_
      refine r_istore_n (i := 2) 49 dX8_nameHere_48 rfl rfl rfl ?_
      refine r_iconst (v := 0) 50 dX8_nameHere_49 rfl rfl ?_
      refine r_istore_n (i := 3) 51 dX8_nameHere_50 rfl rfl rfl ?_
      first | exact l2_name2 ht hj hae hen hp hh g kk _ 0 rfl (Nat.zero_le _) | exact n51 (fun o3 => kk o3)
def oP (W : MT) (b : Nat → Nat) (s : pS) (v0 : Nat) : Option Value → mm_W → Prop := fun v u => v = some (.int (nI v0)) ∧ ∃ r, u = wM (zRe W r) ∧ RS b s r ∧ SP W.2.1 r
theorem e2_nameHere (ht : tpM W b n) (hs : sI n s) (ha : pT s ≤ pP s) (hr : RS b s W.2.1) (h0 : pF s = 0) : mm_e (d + 2) yX8_nameHere mX8_nameHere [.ref 0] (wM W) (mm_q (some (.int (wm (tw b s)))) (wM W)) := by
  obtain ⟨a1, a2, a3, a4⟩ := hr.2.2 h0
  have k4 := hs.2.2.1
  refine e_of [some (.ref 0), none, none, none] rfl (by decide) rfl rfl rfl ?_
  by_cases q : pK s = 1
  · have k1 : rK W.2.1 = 1 := by rw [a3, q]; rfl
    refine r_iconst (v := 0) 1 dX8_nameHere_0 rfl rfl ?_
    refine r_istore_n (i := 1) 2 dX8_nameHere_1 rfl rfl rfl ?_
    exact l2_name1 ht ha hs.1 a2 a1 k1 8 0 none none rfl (by rw [tw, if_pos q])
  · have e8 : tw b s = 8 := by rw [tw, if_neg q]
    have k1 : ¬ rK W.2.1 = 1 := by
      rw [a3, mtk]
      intro z
      have := beq_of (b := 1) (by split <;> omega) (by decide) z
      split at this <;> omega
    refine r_iconst (v := 0) 1 dX8_nameHere_0 rfl rfl ?_
    refine r_istore_n (i := 1) 2 dX8_nameHere_1 rfl rfl rfl ?_
    refine r_iload_n (i := 1) 3 dX8_nameHere_2 rfl rfl rfl ?_
    refine r_bipush (v := 8) 5 dX8_nameHere_3 rfl rfl ?_
    refine r_icmp_ge 118 8 dX8_nameHere_5 rfl rfl (fun h5 => absurd h5 (by decide)) (fun h5 => ?_)
    refine r_aload_n (i := 0) 9 dX8_nameHere_8 rfl rfl rfl ?_
    refine r_getf 12 dX8_nameHere_9 rfl fl_X8_63 rfl rfl ?_
    refine r_iconst (v := 1) 13 dX8_nameHere_12 rfl rfl ?_
    refine r_icmp_ne 118 16 dX8_nameHere_13 rfl rfl (fun h13 => ?_) (fun h13 => absurd h13 k1)
    refine r_bipush (v := (-4)) 120 dX8_nameHere_118 rfl rfl ?_
    exact r_reti dX8_nameHere_120 rfl (by first | rfl | exact bI_nar _) ⟨Nat.le_refl _, Nat.le_refl _⟩ (fun _ => rfl) (⟨by rw [e8]; rfl, rfl⟩)
/-- numbers: what is left where a fault was met -/
def nW (b : Nat → Nat) (n most som : Nat) (s : pS) : pS := fIf (decide (tb som (tkW b n most s) = 1)) 4 (tkN b n most s)
def nV (b : Nat → Nat) (n most som : Nat) (s : pS) : Nat := if pF (nW b n most som s) = 0 then tkW b n most s else 0
theorem nV_le (b : Nat → Nat) (n most som : Nat) (s : pS) : nV b n most som s ≤ most := by
  unfold nV
  split
  · exact tkW_le s
  · exact Nat.zero_le _
theorem sI_nW {most som : Nat} (hs : sI n s) : sI n (nW b n most som s) := sI_fIf (by decide) (sI_tkN hs)
theorem e2_other (ht : tpM W b n) (hs : sI n s) (hr : RS b (tkT b n s) W.2.1) {most som : Nat} (hm : most ≤ 9) (hsom : som < 2 ^ 31) : mm_e (d + 3) yX8_other mX8_other [.ref 0, .int 0, .int (nI most), .int (nI som)] (wM W) (oP W b (tkT b n (nW b n most som s)) (nV b n most som s)) := by
  have s1 := sI_tkT (b := b) hs
  have s2 := sI_tkN1 (b := b) hs
  have s3 := sI_tkN (b := b) (most := most) hs
  have s4 := sI_nW (b := b) (most := most) (som := som) hs
  refine e_of [some (.ref 0), some (.int 0), some (.int (nI most)), some (.int (nI som)), none] rfl (by decide) rfl rfl rfl ?_
  have k71 : ∀ r, RS b (nW b n most som s) r → SP W.2.1 r → mm_r (d + 3) mX8_other (oP W b (tkT b n (nW b n most som s)) (nV b n most som s)) 71 [some (.ref 0), some (.int 0), some (.int (nI most)), some (.int (nI som)), none] [] (wM (zRe W r)) := by
    intro r h1 h2
    have v0 : pF (nW b n most som s) = 0 → rV r = nI (nV b n most som s) := by
      intro z
      obtain ⟨c1, c2, c3⟩ := fIf_n0 (k := 4) z (by decide)
      obtain ⟨d1, d2, d3, d4, d5⟩ := tkN_ok c1
      have := (h1.2.2 z).2.2.2
      rw [this, nV, if_pos z]
      have e4 : nW b n most som s = (tE b n (pP s), 2, tB b n (pP s), 0, pL s) := by unfold nW; rw [c3, d4]
      rw [e4, d5, if_pos rfl]
      rfl
    have f6 := s4.2.2.2.1
    refine r_aload_n (i := 0) 72 dX8_other_71 rfl rfl rfl ?_
    refine r_getf 75 dX8_other_72 rfl fl_X8_54 rfl rfl ?_
    rw [show (zRe W r).2.1.2.2.2.2.1 = nI (pF (nW b n most som s)) from h1.1]
    refine r_if_ne 85 78 dX8_other_75 rfl rfl (fun h75 => ?_) (fun h75 => ?_)
    · have z := bne_of (b := 0) (by omega) (by decide) h75
      have ev : nV b n most som s = 0 := (by rw [nV, if_neg z])
      refine r_iload_n (i := 1) 86 dX8_other_85 rfl rfl rfl ?_
      refine r_istore (i := 4) 88 dX8_other_86 rfl rfl ?_
      refine r_aload_n (i := 0) 89 dX8_other_88 rfl rfl rfl ?_
      refine r_callMq 92 dX8_other_89 rfl ykX8_step lk_X8_88 (e2_step (W := zRe W r) ht s4 h1) rfl rfl rfl rfl rfl rfl ⟨Nat.le_refl _, Nat.le_refl _⟩ (fun v u hq => by obtain ⟨-, r, rfl, -⟩ := hq; rfl) (fun v u hq => ?_)
      obtain ⟨rfl, r2, rfl, g1, g2⟩ := hq
      refine r_iload (i := 4) 94 dX8_other_92 rfl rfl ?_
      exact r_reti dX8_other_94 rfl (by first | rfl | exact bI_nar _) ⟨Nat.le_refl _, Nat.le_refl _⟩ (fun _ => rfl) (⟨by first | rfl | (rw [ev]; rfl), r2, rfl, g1, h2.tr g2⟩)
    · have z := beq_of (b := 0) (by omega) (by decide) h75
      refine r_aload_n (i := 0) 79 dX8_other_78 rfl rfl rfl ?_
      refine r_getf 82 dX8_other_79 rfl fl_X8_73 rfl rfl ?_
      rw [show (zRe W r).2.1.2.2.2.2.2.2.2.2.2 = nI (nV b n most som s) from v0 z]
      refine r_goto 86 dX8_other_82 rfl ?_
      refine r_istore (i := 4) 88 dX8_other_86 rfl rfl ?_
      refine r_aload_n (i := 0) 89 dX8_other_88 rfl rfl rfl ?_
      refine r_callMq 92 dX8_other_89 rfl ykX8_step lk_X8_88 (e2_step (W := zRe W r) ht s4 h1) rfl rfl rfl rfl rfl rfl ⟨Nat.le_refl _, Nat.le_refl _⟩ (fun v u hq => by obtain ⟨-, r, rfl, -⟩ := hq; rfl) (fun v u hq => ?_)
      obtain ⟨rfl, r2, rfl, g1, g2⟩ := hq
      refine r_iload (i := 4) 94 dX8_other_92 rfl rfl ?_
      exact r_reti dX8_other_94 rfl (by first | rfl | exact bI_nar _) ⟨Nat.le_refl _, Nat.le_refl _⟩ (fun _ => rfl) (⟨by first | rfl | (rw [ev]; rfl), r2, rfl, g1, h2.tr g2⟩)
  have k47 : ∀ r, RS b (tkN b n most s) r → SP W.2.1 r → mm_r (d + 3) mX8_other (oP W b (tkT b n (nW b n most som s)) (nV b n most som s)) 47 [some (.ref 0), some (.int 0), some (.int (nI most)), some (.int (nI som)), none] [] (wM (zRe W r)) := by
    intro r h1 h2
    have f6 := s3.2.2.2.1
    by_cases z : pF (tkN b n most s) = 0
    · obtain ⟨d1, d2, d3, d4, d5⟩ := tkN_ok z
      have b0 : rB r = 0 := by rw [h1.1, z]; rfl
      have bv : rV r = nI (tkW b n most s) := by
        rw [(h1.2.2 z).2.2.2, d4, d5, if_pos rfl]
        rfl
      have wl := tkW_le (b := b) (n := n) (most := most) s
      by_cases q : tb som (tkW b n most s) = 1
      · have e4 : nW b n most som s = fIf true 4 (tkN b n most s) := by unfold nW; rw [decide_eq_true q]
        refine r_aload_n (i := 0) 48 dX8_other_47 rfl rfl rfl ?_
        refine r_getf 51 dX8_other_48 rfl fl_X8_54 rfl rfl ?_
        refine r_if_ne 71 54 dX8_other_51 rfl rfl (fun h51 => absurd b0 h51) (fun h51 => ?_)
        refine r_iload_n (i := 3) 55 dX8_other_54 rfl rfl rfl ?_
        refine r_aload_n (i := 0) 56 dX8_other_55 rfl rfl rfl ?_
        refine r_getf 59 dX8_other_56 rfl fl_X8_73 rfl rfl ?_
        rw [show (zRe W r).2.1.2.2.2.2.2.2.2.2.2 = nI (tkW b n most s) from bv]
        refine r_ishr 60 dX8_other_59 rfl ?_
        refine r_iconst (v := 1) 61 dX8_other_60 rfl rfl ?_
        refine r_iand 62 dX8_other_61 rfl ?_
        rw [n_bit hsom (by omega), q]
        refine r_iconst (v := 1) 63 dX8_other_62 rfl rfl ?_
        refine r_icmp_ne 71 66 dX8_other_63 rfl rfl (fun h63 => absurd rfl h63) (fun h63 => ?_)
        refine r_aload_n (i := 0) 67 dX8_other_66 rfl rfl rfl ?_
        refine r_iconst (v := 4) 68 dX8_other_67 rfl rfl ?_
        refine r_callMu 71 dX8_other_68 rfl ykX8_fails lk_X8_84 (e2_fails0 (W := zRe W r) b0 4) rfl rfl rfl rfl rfl rfl ⟨Nat.le_refl _, Nat.le_refl _⟩ ?_
        exact k71 _ (by rw [e4]; exact RS_fail h1 z (by decide)) (h2.F _ _)
      · have e4 : nW b n most som s = tkN b n most s := by unfold nW; rw [decide_eq_false q]; rfl
        have t0 : tb som (tkW b n most s) = 0 := by have := tb_le som (tkW b n most s); omega
        refine r_aload_n (i := 0) 48 dX8_other_47 rfl rfl rfl ?_
        refine r_getf 51 dX8_other_48 rfl fl_X8_54 rfl rfl ?_
        refine r_if_ne 71 54 dX8_other_51 rfl rfl (fun h51 => absurd b0 h51) (fun h51 => ?_)
        refine r_iload_n (i := 3) 55 dX8_other_54 rfl rfl rfl ?_
        refine r_aload_n (i := 0) 56 dX8_other_55 rfl rfl rfl ?_
        refine r_getf 59 dX8_other_56 rfl fl_X8_73 rfl rfl ?_
        rw [show (zRe W r).2.1.2.2.2.2.2.2.2.2.2 = nI (tkW b n most s) from bv]
        refine r_ishr 60 dX8_other_59 rfl ?_
        refine r_iconst (v := 1) 61 dX8_other_60 rfl rfl ?_
        refine r_iand 62 dX8_other_61 rfl ?_
        rw [n_bit hsom (by omega), t0]
        refine r_iconst (v := 1) 63 dX8_other_62 rfl rfl ?_
        refine r_icmp_ne 71 66 dX8_other_63 rfl rfl (fun h63 => ?_) (fun h63 => absurd h63 (by decide))
        exact k71 r (by rw [e4]; exact h1) h2
    · have e4 : nW b n most som s = tkN b n most s := fIf_nz z
      have b0 : ¬ rB r = 0 := by rw [h1.1]; exact nI_ne0 (by omega) (by omega)
      refine r_aload_n (i := 0) 48 dX8_other_47 rfl rfl rfl ?_
      refine r_getf 51 dX8_other_48 rfl fl_X8_54 rfl rfl ?_
      refine r_if_ne 71 54 dX8_other_51 rfl rfl (fun h51 => ?_) (fun h51 => absurd h51 b0)
      exact k71 r (by rw [e4]; exact h1) h2
  have k20 : ∀ r, RS b (tkN1 b n s) r → SP W.2.1 r → mm_r (d + 3) mX8_other (oP W b (tkT b n (nW b n most som s)) (nV b n most som s)) 20 [some (.ref 0), some (.int 0), some (.int (nI most)), some (.int (nI som)), none] [] (wM (zRe W r)) := by
    intro r h1 h2
    have f6 := s2.2.2.2.1
    by_cases z : pF (tkN1 b n s) = 0
    · obtain ⟨d1, d2, d3⟩ := tkN1_ok z
      have b0 : rB r = 0 := by rw [h1.1, z]; rfl
      have bv : rV r = nI (tkV b (tkN1 b n s)) := by
        rw [(h1.2.2 z).2.2.2, d3, if_pos rfl]
      have bl : tkV b (tkN1 b n s) < 100 := by
        rw [d3]
        show vl b (tB b n (pP s)) (tE b n (pP s) - tB b n (pP s)) < 100
        obtain ⟨g1, g2⟩ := tK_2 hs.1 d2
        have g3 := vl_le (b := b) (a := tB b n (pP s)) (tE b n (pP s) - tB b n (pP s)) (fun i h1 h2 => g2 i h1 (by omega))
        have g4 : 10 ^ (tE b n (pP s) - tB b n (pP s)) ≤ 10 ^ 2 := Nat.pow_le_pow_right (by decide) g1
        omega
      have e5 : tkN b n most s = fIf (decide (most < tkV b (tkN1 b n s))) 3 (tkN1 b n s) := by rw [tkN, if_pos z]
      have hin : decide (tkV b (tkN1 b n s) ≤ most) = true ↔ (0 : Int32).toInt64.toInt ≤ (nI (tkV b (tkN1 b n s))).toInt64.toInt ∧ (nI (tkV b (tkN1 b n s))).toInt64.toInt ≤ (nI most).toInt64.toInt := by
        rw [decide_eq_true_eq, Int32.toInt_toInt64, Int32.toInt_toInt64, Int32.toInt_toInt64, nI_toInt (by omega), nI_toInt (by omega), show (0 : Int32).toInt = 0 from rfl]
        omega
      by_cases q : tkV b (tkN1 b n s) ≤ most
      · have e6 : tkN b n most s = tkN1 b n s := by rw [e5, decide_eq_false (by omega)]; rfl
        refine r_aload_n (i := 0) 21 dX8_other_20 rfl rfl rfl ?_
        refine r_getf 24 dX8_other_21 rfl fl_X8_54 rfl rfl ?_
        refine r_if_ne 47 27 dX8_other_24 rfl rfl (fun h24 => absurd b0 h24) (fun h24 => ?_)
        refine r_aload_n (i := 0) 28 dX8_other_27 rfl rfl rfl ?_
        refine r_getf 31 dX8_other_28 rfl fl_X8_73 rfl rfl ?_
        rw [show (zRe W r).2.1.2.2.2.2.2.2.2.2.2 = nI (tkV b (tkN1 b n s)) from bv]
        refine r_i2l 32 dX8_other_31 rfl ?_
        refine r_iload_n (i := 1) 33 dX8_other_32 rfl rfl rfl ?_
        refine r_i2l 34 dX8_other_33 rfl ?_
        refine r_iload_n (i := 2) 35 dX8_other_34 rfl rfl rfl ?_
        refine r_i2l 36 dX8_other_35 rfl ?_
        refine r_callSi [] 39 dX8_other_36 rfl ykX8_in lk_X8_46 (e_inx hin) rfl rfl rfl ⟨Nat.le_refl _, Nat.le_refl _⟩ ?_
        rw [decide_eq_true q]
        refine r_if_ne 47 42 dX8_other_39 rfl rfl (fun h39 => ?_) (fun h39 => absurd h39 (by decide))
        exact k47 r (by rw [e6]; exact h1) h2
      · have e6 : tkN b n most s = fIf true 3 (tkN1 b n s) := by rw [e5, decide_eq_true (by omega)]
        refine r_aload_n (i := 0) 21 dX8_other_20 rfl rfl rfl ?_
        refine r_getf 24 dX8_other_21 rfl fl_X8_54 rfl rfl ?_
        refine r_if_ne 47 27 dX8_other_24 rfl rfl (fun h24 => absurd b0 h24) (fun h24 => ?_)
        refine r_aload_n (i := 0) 28 dX8_other_27 rfl rfl rfl ?_
        refine r_getf 31 dX8_other_28 rfl fl_X8_73 rfl rfl ?_
        rw [show (zRe W r).2.1.2.2.2.2.2.2.2.2.2 = nI (tkV b (tkN1 b n s)) from bv]
        refine r_i2l 32 dX8_other_31 rfl ?_
        refine r_iload_n (i := 1) 33 dX8_other_32 rfl rfl rfl ?_
        refine r_i2l 34 dX8_other_33 rfl ?_
        refine r_iload_n (i := 2) 35 dX8_other_34 rfl rfl rfl ?_
        refine r_i2l 36 dX8_other_35 rfl ?_
        refine r_callSi [] 39 dX8_other_36 rfl ykX8_in lk_X8_46 (e_inx hin) rfl rfl rfl ⟨Nat.le_refl _, Nat.le_refl _⟩ ?_
        rw [decide_eq_false q]
        refine r_if_ne 47 42 dX8_other_39 rfl rfl (fun h39 => absurd rfl h39) (fun h39 => ?_)
        refine r_aload_n (i := 0) 43 dX8_other_42 rfl rfl rfl ?_
        refine r_iconst (v := 3) 44 dX8_other_43 rfl rfl ?_
        refine r_callMu 47 dX8_other_44 rfl ykX8_fails lk_X8_84 (e2_fails0 (W := zRe W r) b0 3) rfl rfl rfl rfl rfl rfl ⟨Nat.le_refl _, Nat.le_refl _⟩ ?_
        exact k47 _ (by rw [e6]; exact RS_fail h1 z (by decide)) (h2.F _ _)
    · have e4 : tkN b n most s = tkN1 b n s := by rw [tkN, if_neg z]
      have b0 : ¬ rB r = 0 := by rw [h1.1]; exact nI_ne0 (by omega) (by omega)
      refine r_aload_n (i := 0) 21 dX8_other_20 rfl rfl rfl ?_
      refine r_getf 24 dX8_other_21 rfl fl_X8_54 rfl rfl ?_
      refine r_if_ne 47 27 dX8_other_24 rfl rfl (fun h24 => ?_) (fun h24 => absurd h24 b0)
      exact k47 r (by rw [e4]; exact h1) h2
  have f6 := s1.2.2.2.1
  by_cases z : pF (tkT b n s) = 0
  · obtain ⟨g1, g2⟩ := tkT_K z
    have b0 : rB W.2.1 = 0 := by rw [hr.1, z]; rfl
    have bk := (hr.2.2 z).2.2.1
    by_cases q : pK (tkT b n s) = 2
    · have e1 : tkN1 b n s = tkT b n s := by rw [tkN1, q]; rfl
      have b2 : rK W.2.1 = 2 := by rw [bk, q]; rfl
      refine r_aload_n (i := 0) 1 dX8_other_0 rfl rfl rfl ?_
      refine r_getf 4 dX8_other_1 rfl fl_X8_54 rfl rfl ?_
      refine r_if_ne 20 7 dX8_other_4 rfl rfl (fun h4 => absurd b0 h4) (fun h4 => ?_)
      refine r_aload_n (i := 0) 8 dX8_other_7 rfl rfl rfl ?_
      refine r_getf 11 dX8_other_8 rfl fl_X8_63 rfl rfl ?_
      refine r_iconst (v := 2) 12 dX8_other_11 rfl rfl ?_
      refine r_icmp_eq 20 15 dX8_other_12 rfl rfl (fun h12 => ?_) (fun h12 => absurd b2 h12)
      exact k20 W.2.1 (by rw [e1]; exact hr) (SP.rf _)
    · have e1 : tkN1 b n s = fIf true 2 (tkT b n s) := by rw [tkN1, decide_eq_true q]
      have b2 : ¬ rK W.2.1 = 2 := by
        rw [bk, mtk]
        intro y
        have := beq_of (b := 2) (by split <;> omega) (by decide) y
        split at this <;> omega
      refine r_aload_n (i := 0) 1 dX8_other_0 rfl rfl rfl ?_
      refine r_getf 4 dX8_other_1 rfl fl_X8_54 rfl rfl ?_
      refine r_if_ne 20 7 dX8_other_4 rfl rfl (fun h4 => absurd b0 h4) (fun h4 => ?_)
      refine r_aload_n (i := 0) 8 dX8_other_7 rfl rfl rfl ?_
      refine r_getf 11 dX8_other_8 rfl fl_X8_63 rfl rfl ?_
      refine r_iconst (v := 2) 12 dX8_other_11 rfl rfl ?_
      refine r_icmp_eq 20 15 dX8_other_12 rfl rfl (fun h12 => absurd h12 b2) (fun h12 => ?_)
      refine r_aload_n (i := 0) 16 dX8_other_15 rfl rfl rfl ?_
      refine r_iconst (v := 2) 17 dX8_other_16 rfl rfl ?_
      refine r_callMu 20 dX8_other_17 rfl ykX8_fails lk_X8_84 (e2_fails0 b0 2) rfl rfl rfl rfl rfl rfl ⟨Nat.le_refl _, Nat.le_refl _⟩ ?_
      exact k20 _ (by rw [e1]; exact RS_fail hr z (by decide)) (SP.rf _)
  · have e1 : tkN1 b n s = tkT b n s := fIf_nz z
    have b0 : ¬ rB W.2.1 = 0 := by rw [hr.1]; exact nI_ne0 (by omega) (by omega)
    refine r_aload_n (i := 0) 1 dX8_other_0 rfl rfl rfl ?_
    refine r_getf 4 dX8_other_1 rfl fl_X8_54 rfl rfl ?_
    refine r_if_ne 20 7 dX8_other_4 rfl rfl (fun h4 => ?_) (fun h4 => absurd h4 b0)
    exact k20 W.2.1 (by rw [e1]; exact hr) (SP.rf _)
theorem rv_le {v H : Nat} (hv : v < 100) (hH : H < 100) : nI v ≤ rv H ↔ v + 1 ≤ H := by
  rw [rv, fa_le, show (1 : Int32) = nI 1 from rfl, pk_sub_toInt (by omega) (by decide), nI_toInt (by omega)]
  omega
def hP (W : MT) (b : Nat → Nat) (s : pS) (v0 H : Nat) : Option Value → mm_W → Prop := fun v u => v = some (.int (nI v0)) ∧ ∃ r, u = wM (zRe W r) ∧ RS b s r ∧ r.1 = W.2.1.1 ∧ r.2.1 = W.2.1.2.1 ∧ r.2.2.1 = W.2.1.2.2.1 ∧ r.2.2.2.1 = rv (max H (v0 + 1))
theorem e2_thingHere (ht : tpM W b n) (hs : sI n s) (hr : RS b (tkT b n s) W.2.1) {som H : Nat} (hsom : som < 2 ^ 31) (hh : W.2.1.2.2.2.1 = rv H) (hH : H ≤ 6) : mm_e (d + 4) yX8_thingHere mX8_thingHere [.ref 0, .int (nI som)] (wM W) (hP W b (tkT b n (nW b n 5 som s)) (nV b n 5 som s) H) := by
  have nl := nV_le b n 5 som s
  refine e_of [some (.ref 0), some (.int (nI som)), none] rfl (by decide) rfl rfl rfl ?_
  refine r_aload_n (i := 0) 1 dX8_thingHere_0 rfl rfl rfl ?_
  refine r_iconst (v := 0) 2 dX8_thingHere_1 rfl rfl ?_
  refine r_iconst (v := 5) 3 dX8_thingHere_2 rfl rfl ?_
  refine r_iload_n (i := 1) 4 dX8_thingHere_3 rfl rfl rfl ?_
  refine r_callMq 7 dX8_thingHere_4 rfl ykX8_other lk_X8_91 (e2_other (most := 5) ht hs hr (by decide) hsom) rfl rfl rfl rfl rfl rfl ⟨Nat.le_refl _, Nat.le_refl _⟩ (fun v u hq => by obtain ⟨-, r, rfl, -⟩ := hq; rfl) (fun v u hq => ?_)
  obtain ⟨rfl, r, rfl, g1, g2⟩ := hq
  skip
  have hh2 : (zRe W r).2.1.2.2.2.1 = rv H := g2.2.2.2.trans hh
  by_cases q : nV b n 5 som s + 1 ≤ H
  · have e := Nat.max_eq_left q
    refine r_istore_n (i := 2) 8 dX8_thingHere_7 rfl rfl rfl ?_
    refine r_aload_n (i := 0) 9 dX8_thingHere_8 rfl rfl rfl ?_
    refine r_iload_n (i := 2) 10 dX8_thingHere_9 rfl rfl rfl ?_
    refine r_aload_n (i := 0) 11 dX8_thingHere_10 rfl rfl rfl ?_
    refine r_getf 14 dX8_thingHere_11 rfl fl_X8_95 rfl rfl ?_
    rw [hh2]
    refine r_icmp_le 21 17 dX8_thingHere_14 rfl rfl (fun h14 => ?_) (fun h14 => absurd ((rv_le (by omega) (by omega)).mpr q) h14)
    refine r_aload_n (i := 0) 22 dX8_thingHere_21 rfl rfl rfl ?_
    refine r_getf 25 dX8_thingHere_22 rfl fl_X8_95 rfl rfl ?_
    refine r_putf 28 dX8_thingHere_25 rfl fl_X8_95 rfl rfl (fun _ _ => ⟨rfl, rfl⟩) (fun z => absurd z Bool.false_ne_true) ?_
    refine r_iload_n (i := 2) 29 dX8_thingHere_28 rfl rfl rfl ?_
    exact r_reti dX8_thingHere_29 rfl (by first | rfl | exact bI_nar _) ⟨Nat.le_refl _, Nat.le_refl _⟩ (fun _ => rfl) (⟨rfl, _, rfl, g1, g2.1, g2.2.1, g2.2.2.1, by rw [e]; exact hh2⟩)
  · have e := Nat.max_eq_right (show H ≤ nV b n 5 som s + 1 by omega)
    refine r_istore_n (i := 2) 8 dX8_thingHere_7 rfl rfl rfl ?_
    refine r_aload_n (i := 0) 9 dX8_thingHere_8 rfl rfl rfl ?_
    refine r_iload_n (i := 2) 10 dX8_thingHere_9 rfl rfl rfl ?_
    refine r_aload_n (i := 0) 11 dX8_thingHere_10 rfl rfl rfl ?_
    refine r_getf 14 dX8_thingHere_11 rfl fl_X8_95 rfl rfl ?_
    rw [hh2]
    refine r_icmp_le 21 17 dX8_thingHere_14 rfl rfl (fun h14 => absurd ((rv_le (by omega) (by omega)).mp h14) q) (fun h14 => ?_)
    refine r_iload_n (i := 2) 18 dX8_thingHere_17 rfl rfl rfl ?_
    refine r_goto 25 dX8_thingHere_18 rfl ?_
    refine r_putf 28 dX8_thingHere_25 rfl fl_X8_95 rfl rfl (fun _ _ => ⟨rfl, rfl⟩) (fun z => absurd z Bool.false_ne_true) ?_
    refine r_iload_n (i := 2) 29 dX8_thingHere_28 rfl rfl rfl ?_
    exact r_reti dX8_thingHere_29 rfl (by first | rfl | exact bI_nar _) ⟨Nat.le_refl _, Nat.le_refl _⟩ (fun _ => rfl) (⟨rfl, (r.1, r.2.1, r.2.2.1, nI (nV b n 5 som s), r.2.2.2.2), rfl, g1, g2.1, g2.2.1, g2.2.2.1, by rw [e, rv_pos (by omega)]; rfl⟩)
end MO
