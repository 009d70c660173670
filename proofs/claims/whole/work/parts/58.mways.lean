-- WAYS OF THE REFERENCE
def bB (b : Option Nat) : Int32 := match b with
  | none => -4
  | some c => nI c
def bP (A : sA) (n : Nat) (b : Option Nat) : Int32 := match b with
  | none => 1000000
  | some c => nI (prc A n c)
def aimM (f v : Int32) (G : Option (Nat × Nat)) (N : Nat) : Prop := match G with
  | none => f = -4
  | some q => f = nI q.1 ∧ q.1 < N ∧ v = nI q.2 ∧ q.2 ≤ 1
theorem pw_le {g n : Nat} (hg : g ≤ 4) (hn : n ≤ 4) : (g + 1) ^ n ≤ 625 := by
  have h1 : (g + 1) ^ n ≤ 5 ^ n := Nat.pow_le_pow_left (by omega) n
  have h2 : 5 ^ n ≤ 5 ^ 4 := Nat.pow_le_pow_right (by decide) hn
  omega
section MH
variable {d : Nat} {S : sT} {w : mm_W} {W : MT} {A : sA}
theorem relM_Wy (h : relM W S) (t : mQu) : relM (zWy W t) S := h
theorem l2_powerOf (h : mok W.1 A) {n : Nat} (hn : n ≤ 4) : ∀ (k i : Nat), n - i = k → i ≤ n → mm_r (d + 1) mX8_powerOf (mm_q (some (.int (nI ((sG A + 1) ^ n)))) (wM W)) 4 [some (.ref 0), some (.int (nI n)), some (.int (nI ((sG A + 1) ^ i))), some (.int (nI i))] [] (wM W) := by
  intro k
  have hg := h.gm
  induction k with
  | zero =>
    intro i hk hi
    have e : i = n := by omega
    subst e
    refine r_iload_n (i := 3) 5 dX8_powerOf_4 rfl rfl rfl ?_
    refine r_iload_n (i := 1) 6 dX8_powerOf_5 rfl rfl rfl ?_
    refine r_icmp_ge 24 9 dX8_powerOf_6 rfl rfl (fun h6 => ?_) (fun h6 => absurd (Int32.le_refl _) h6)
    refine r_iload_n (i := 2) 25 dX8_powerOf_24 rfl rfl rfl ?_
    exact r_reti dX8_powerOf_25 rfl (by first | rfl | exact bI_nar _) ⟨Nat.le_refl _, Nat.le_refl _⟩ (fun _ => rfl) (⟨rfl, rfl⟩)
  | succ k ih =>
    intro i hk hi
    refine r_iload_n (i := 3) 5 dX8_powerOf_4 rfl rfl rfl ?_
    refine r_iload_n (i := 1) 6 dX8_powerOf_5 rfl rfl rfl ?_
    refine r_icmp_ge 24 9 dX8_powerOf_6 rfl rfl (fun h6 => absurd (ble_of (by omega) (by omega) h6) (by omega)) (fun h6 => ?_)
    refine r_iload_n (i := 2) 10 dX8_powerOf_9 rfl rfl rfl ?_
    refine r_aload_n (i := 0) 11 dX8_powerOf_10 rfl rfl rfl ?_
    refine r_getf 14 dX8_powerOf_11 rfl fl_X8_128 rfl rfl ?_
    rw [hg]
    refine r_iconst (v := 1) 15 dX8_powerOf_14 rfl rfl ?_
    refine r_iadd 16 dX8_powerOf_15 rfl ?_
    refine r_imul 17 dX8_powerOf_16 rfl ?_
    rw [nI_1, pk_mul, ← Nat.pow_succ]
    refine r_istore_n (i := 2) 18 dX8_powerOf_17 rfl rfl rfl ?_
    refine r_iinc (i := 3) 21 dX8_powerOf_18 rfl rfl (by first | exact nI_1 _ | rfl) rfl ?_
    refine r_goto 4 dX8_powerOf_21 rfl ?_
    exact ih (i + 1) (by omega) (by omega)
theorem e2_powerOf (h : mok W.1 A) {n : Nat} (hn : n ≤ 4) : mm_e (d + 1) yX8_powerOf mX8_powerOf [.ref 0, .int (nI n)] (wM W) (mm_q (some (.int (nI ((sG A + 1) ^ n)))) (wM W)) := by
  refine e_of [some (.ref 0), some (.int (nI n)), none, none] rfl (by decide) rfl rfl rfl ?_
  refine r_iconst (v := 1) 1 dX8_powerOf_0 rfl rfl ?_
  refine r_istore_n (i := 2) 2 dX8_powerOf_1 rfl rfl rfl ?_
  refine r_iconst (v := 0) 3 dX8_powerOf_2 rfl rfl ?_
  refine r_istore_n (i := 3) 4 dX8_powerOf_3 rfl rfl rfl ?_
  exact l2_powerOf h hn _ 0 rfl (Nat.zero_le _)
theorem e2_whoIn (h : mok W.1 A) {n c t : Nat} (hn : n ≤ 4) (hc : c < 2 ^ 31) (ht : t < n) : mm_e (d + 2) yX8_whoIn mX8_whoIn [.ref 0, .int (nI c), .int (nI n), .int (nI t)] (wM W) (mm_q (some (.int (rv (dg (sG A) n c t)))) (wM W)) := by
  have h4 := h.g4
  have pl := pw_le (n := n - 1 - t) h4 (by omega)
  have pp : 0 < (sG A + 1) ^ (n - 1 - t) := Nat.pow_pos (by omega)
  have ne1 : ¬ nI ((sG A + 1) ^ (n - 1 - t)) = 0 := nI_ne0 pp (by omega)
  have ne2 : ¬ nI (sG A + 1) = 0 := nI_ne0 (by omega) (by omega)
  have e1 : nI n - 1 - nI t = nI (n - 1 - t) := by rw [show (1 : Int32) = nI 1 from rfl, pk_sub (by omega), pk_sub (by omega)]
  have dl : c / (sG A + 1) ^ (n - 1 - t) ≤ c := Nat.div_le_self _ _
  refine e_of [some (.ref 0), some (.int (nI c)), some (.int (nI n)), some (.int (nI t))] rfl (by decide) rfl rfl rfl ?_
  refine r_iload_n (i := 1) 1 dX8_whoIn_0 rfl rfl rfl ?_
  refine r_aload_n (i := 0) 2 dX8_whoIn_1 rfl rfl rfl ?_
  refine r_iload_n (i := 2) 3 dX8_whoIn_2 rfl rfl rfl ?_
  refine r_iconst (v := 1) 4 dX8_whoIn_3 rfl rfl ?_
  refine r_isub 5 dX8_whoIn_4 rfl ?_
  refine r_iload_n (i := 3) 6 dX8_whoIn_5 rfl rfl rfl ?_
  refine r_isub 7 dX8_whoIn_6 rfl ?_
  rw [e1]
  refine r_callMi 10 dX8_whoIn_7 rfl ykX8_powerOf lk_X8_236 (e2_powerOf h (by omega)) rfl rfl rfl rfl rfl rfl ⟨Nat.le_refl _, Nat.le_refl _⟩ ?_
  refine r_idiv 11 dX8_whoIn_10 rfl (by assumption) ?_
  rw [pk_div hc pp (by omega)]
  refine r_aload_n (i := 0) 12 dX8_whoIn_11 rfl rfl rfl ?_
  refine r_getf 15 dX8_whoIn_12 rfl fl_X8_128 rfl rfl ?_
  rw [h.gm]
  refine r_iconst (v := 1) 16 dX8_whoIn_15 rfl rfl ?_
  refine r_iadd 17 dX8_whoIn_16 rfl ?_
  rw [nI_1]
  refine r_irem 18 dX8_whoIn_17 rfl (by assumption) ?_
  rw [pk_rem (by omega) (by omega) (by omega)]
  refine r_iconst (v := 1) 19 dX8_whoIn_18 rfl rfl ?_
  refine r_isub 20 dX8_whoIn_19 rfl ?_
  exact r_reti dX8_whoIn_20 rfl (by first | rfl | exact bI_nar _) ⟨Nat.le_refl _, Nat.le_refl _⟩ (fun _ => rfl) (⟨rfl, rfl⟩)
theorem l2_goesWay (h : mok W.1 A) {x n c : Nat} (hxl : x < 2 ^ sN A) (hn : n ≤ 4) (hc : c < 2 ^ 31) : ∀ (k t : Nat) (o5 : Option Value), n - t = k → t ≤ n → mm_r (d + 4) mX8_goesWay (mm_q (some (.int (bI (wC A (dg (sG A) n c) x n)))) (wM (zWy W (nI (wS A (dg (sG A) n c) x n), nI (wP A (dg (sG A) n c) n), W.2.2.2.2.1.2.2)))) 21 [some (.ref 0), some (.int (nI c)), some (.int (nI n)), some (.int (bI (wC A (dg (sG A) n c) x t))), some (.int (nI t)), o5] [] (wM (zWy W (nI (wS A (dg (sG A) n c) x t), nI (wP A (dg (sG A) n c) t), W.2.2.2.2.1.2.2))) := by
  intro k
  have h6 := h.n6
  have h4 := h.g4
  induction k with
  | zero =>
    intro t o5 hk ht
    have e : t = n := by omega
    subst e
    refine r_iload (i := 4) 23 dX8_goesWay_21 rfl rfl ?_
    refine r_iload_n (i := 2) 24 dX8_goesWay_23 rfl rfl rfl ?_
    refine r_icmp_ge 142 27 dX8_goesWay_24 rfl rfl (fun h24 => ?_) (fun h24 => absurd (Int32.le_refl _) h24)
    refine r_iload_n (i := 3) 143 dX8_goesWay_142 rfl rfl rfl ?_
    exact r_reti dX8_goesWay_143 rfl (by first | rfl | exact bI_nar _) ⟨Nat.le_refl _, Nat.le_refl _⟩ (fun _ => rfl) (⟨rfl, rfl⟩)
  | succ k ih =>
    intro t o5 hk ht
    have dl := dg_le (sG A) n c t
    have w1 := wS_lt (D := dg (sG A) n c) hxl t
    have w2 := h.lt31 (wS_lt (D := dg (sG A) n c) hxl (t + 1))
    have rest : ∀ (s1 p1 : Nat) (b1 : Bool) (o : Option Value), s1 < 2 ^ sN A → nx A s1 = wS A (dg (sG A) n c) x (t + 1) → p1 = wP A (dg (sG A) n c) (t + 1) → wC A (dg (sG A) n c) x (t + 1) = (b1 && al A (wS A (dg (sG A) n c) x (t + 1))) → mm_r (d + 4) mX8_goesWay (mm_q (some (.int (bI (wC A (dg (sG A) n c) x n)))) (wM (zWy W (nI (wS A (dg (sG A) n c) x n), nI (wP A (dg (sG A) n c) n), W.2.2.2.2.1.2.2)))) 103 [some (.ref 0), some (.int (nI c)), some (.int (nI n)), some (.int (bI b1)), some (.int (nI t)), o] [] (wM (zWy W (nI s1, nI p1, W.2.2.2.2.1.2.2))) := by
      intro s1 p1 b1 o hs1 e1 e2 e3
      refine r_aload_n (i := 0) 104 dX8_goesWay_103 rfl rfl rfl ?_
      refine r_aload_n (i := 0) 105 dX8_goesWay_104 rfl rfl rfl ?_
      refine r_aload_n (i := 0) 106 dX8_goesWay_105 rfl rfl rfl ?_
      refine r_getf 109 dX8_goesWay_106 rfl fl_X8_227 rfl rfl ?_
      refine r_callMi 112 dX8_goesWay_109 rfl ykX8_nextOf lk_X8_147 (e2_nextOf (W := zWy W (nI s1, nI p1, W.2.2.2.2.1.2.2)) h (h.lt31 hs1)) rfl rfl rfl rfl rfl rfl ⟨Nat.le_refl _, Nat.le_refl _⟩ ?_
      rw [e1, e2]
      refine r_putf 115 dX8_goesWay_112 rfl fl_X8_227 rfl rfl (fun _ _ => ⟨rfl, rfl⟩) (fun z => absurd z Bool.false_ne_true) ?_
      skip
      show mm_r (d + 4) mX8_goesWay _ 115 [some (.ref 0), some (.int (nI c)), some (.int (nI n)), some (.int (bI b1)), some (.int (nI t)), o] [] (wM (zWy W (nI (wS A (dg (sG A) n c) x (t + 1)), nI (wP A (dg (sG A) n c) (t + 1)), W.2.2.2.2.1.2.2)))
      refine r_iload_n (i := 3) 116 dX8_goesWay_115 rfl rfl rfl ?_
      refine r_if_eq 134 119 dX8_goesWay_116 rfl rfl (fun h116 => ?_) (fun h116 => ?_)
      · have g := bI_eq0 h116
        refine r_iconst (v := 0) 135 dX8_goesWay_134 rfl rfl ?_
        refine r_istore_n (i := 3) 136 dX8_goesWay_135 rfl rfl rfl ?_
        refine r_iinc (i := 4) 139 dX8_goesWay_136 rfl rfl (by first | exact nI_1 _ | rfl) rfl ?_
        refine r_goto 21 dX8_goesWay_139 rfl ?_
        refine r_eq (ih (t + 1) o (by omega) (by omega)) ?_ rfl rfl
        first | (rw [e3, g, g2]; rfl) | (rw [e3, g]; rfl)
      · have g := bI_ne0 h116
        refine r_aload_n (i := 0) 120 dX8_goesWay_119 rfl rfl rfl ?_
        refine r_aload_n (i := 0) 121 dX8_goesWay_120 rfl rfl rfl ?_
        refine r_getf 124 dX8_goesWay_121 rfl fl_X8_227 rfl rfl ?_
        refine r_callMi 127 dX8_goesWay_124 rfl ykX8_isAllowed lk_X8_153 (e2_isAllowed (W := zWy W (nI (wS A (dg (sG A) n c) x (t + 1)), nI (wP A (dg (sG A) n c) (t + 1)), W.2.2.2.2.1.2.2)) h w2) rfl rfl rfl rfl rfl rfl ⟨Nat.le_refl _, Nat.le_refl _⟩ ?_
        refine r_if_eq 134 130 dX8_goesWay_127 rfl rfl (fun h127 => ?_) (fun h127 => ?_)
        · have g2 := bI_eq0 h127
          refine r_iconst (v := 0) 135 dX8_goesWay_134 rfl rfl ?_
          refine r_istore_n (i := 3) 136 dX8_goesWay_135 rfl rfl rfl ?_
          refine r_iinc (i := 4) 139 dX8_goesWay_136 rfl rfl (by first | exact nI_1 _ | rfl) rfl ?_
          refine r_goto 21 dX8_goesWay_139 rfl ?_
          refine r_eq (ih (t + 1) o (by omega) (by omega)) ?_ rfl rfl
          first | (rw [e3, g, g2]; rfl) | (rw [e3, g]; rfl)
        · have g2 := bI_ne0 h127
          refine r_iconst (v := 1) 131 dX8_goesWay_130 rfl rfl ?_
          refine r_goto 135 dX8_goesWay_131 rfl ?_
          refine r_istore_n (i := 3) 136 dX8_goesWay_135 rfl rfl rfl ?_
          refine r_iinc (i := 4) 139 dX8_goesWay_136 rfl rfl (by first | exact nI_1 _ | rfl) rfl ?_
          refine r_goto 21 dX8_goesWay_139 rfl ?_
          refine r_eq (ih (t + 1) o (by omega) (by omega)) ?_ rfl rfl
          first | (rw [e3, g, g2]; rfl) | (rw [e3, g]; rfl)
    by_cases h0 : dg (sG A) n c t = 0
    · have e1 : wS A (dg (sG A) n c) x (t + 1) = nx A (wS A (dg (sG A) n c) x t) := by rw [wS, if_pos h0]
      have e2 : wP A (dg (sG A) n c) (t + 1) = wP A (dg (sG A) n c) t := by rw [wP, if_pos h0, Nat.add_zero]
      refine r_iload (i := 4) 23 dX8_goesWay_21 rfl rfl ?_
      refine r_iload_n (i := 2) 24 dX8_goesWay_23 rfl rfl rfl ?_
      refine r_icmp_ge 142 27 dX8_goesWay_24 rfl rfl (fun h24 => absurd (ble_of (by omega) (by omega) h24) (by omega)) (fun h24 => ?_)
      refine r_aload_n (i := 0) 28 dX8_goesWay_27 rfl rfl rfl ?_
      refine r_iload_n (i := 1) 29 dX8_goesWay_28 rfl rfl rfl ?_
      refine r_iload_n (i := 2) 30 dX8_goesWay_29 rfl rfl rfl ?_
      refine r_iload (i := 4) 32 dX8_goesWay_30 rfl rfl ?_
      refine r_callMi 35 dX8_goesWay_32 rfl ykX8_whoIn lk_X8_233 (e2_whoIn (W := zWy W (nI (wS A (dg (sG A) n c) x t), nI (wP A (dg (sG A) n c) t), W.2.2.2.2.1.2.2)) h hn hc (by omega)) rfl rfl rfl rfl rfl rfl ⟨Nat.le_refl _, Nat.le_refl _⟩ ?_
      rw [h0]
      refine r_istore (i := 5) 37 dX8_goesWay_35 rfl rfl ?_
      refine r_iload (i := 5) 39 dX8_goesWay_37 rfl rfl ?_
      refine r_if_lt 103 42 dX8_goesWay_39 rfl rfl (fun h39 => ?_) (fun h39 => absurd (show rv 0 < 0 from by decide) h39)
      exact rest _ _ _ _ w1 e1.symm e2.symm (by rw [wC, h0]; simp)
    · obtain ⟨u1, u2, u3, u4⟩ := h.gat (i := dg (sG A) n c t - 1) (by omega)
      have e1 : wS A (dg (sG A) n c) x (t + 1) = nx A (wS A (dg (sG A) n c) x t ^^^ 2 ^ sU A (dg (sG A) n c t - 1)) := by rw [wS, if_neg h0]
      have e2 : wP A (dg (sG A) n c) (t + 1) = wP A (dg (sG A) n c) t + sP A (dg (sG A) n c t - 1) := by rw [wP, if_neg h0]
      have hs1 := xor_lt (A := A) w1 u3
      have l1 := h.lt31 hs1
      have e3 : wC A (dg (sG A) n c) x (t + 1) = ((wC A (dg (sG A) n c) x t && al A (wS A (dg (sG A) n c) x t ^^^ 2 ^ sU A (dg (sG A) n c t - 1))) && al A (wS A (dg (sG A) n c) x (t + 1))) := by rw [wC]; simp [h0]
      have in1 : vp_in (nI (19 + (dg (sG A) n c t - 1))) 148 := vp_in_nI (by omega) (by decide)
      have in2 : vp_in (nI (23 + (dg (sG A) n c t - 1))) 148 := vp_in_nI (by omega) (by decide)
      refine r_iload (i := 4) 23 dX8_goesWay_21 rfl rfl ?_
      refine r_iload_n (i := 2) 24 dX8_goesWay_23 rfl rfl rfl ?_
      refine r_icmp_ge 142 27 dX8_goesWay_24 rfl rfl (fun h24 => absurd (ble_of (by omega) (by omega) h24) (by omega)) (fun h24 => ?_)
      refine r_aload_n (i := 0) 28 dX8_goesWay_27 rfl rfl rfl ?_
      refine r_iload_n (i := 1) 29 dX8_goesWay_28 rfl rfl rfl ?_
      refine r_iload_n (i := 2) 30 dX8_goesWay_29 rfl rfl rfl ?_
      refine r_iload (i := 4) 32 dX8_goesWay_30 rfl rfl ?_
      refine r_callMi 35 dX8_goesWay_32 rfl ykX8_whoIn lk_X8_233 (e2_whoIn (W := zWy W (nI (wS A (dg (sG A) n c) x t), nI (wP A (dg (sG A) n c) t), W.2.2.2.2.1.2.2)) h hn hc (by omega)) rfl rfl rfl rfl rfl rfl ⟨Nat.le_refl _, Nat.le_refl _⟩ ?_
      rw [rv_pos h0]
      refine r_istore (i := 5) 37 dX8_goesWay_35 rfl rfl ?_
      refine r_iload (i := 5) 39 dX8_goesWay_37 rfl rfl ?_
      refine r_if_lt 103 42 dX8_goesWay_39 rfl rfl (fun h39 => absurd h39 (nI_pos (by omega))) (fun h39 => ?_)
      refine r_aload_n (i := 0) 43 dX8_goesWay_42 rfl rfl rfl ?_
      refine r_dup 44 dX8_goesWay_43 rfl rfl ?_
      refine r_getf 47 dX8_goesWay_44 rfl fl_X8_227 rfl rfl ?_
      refine r_iconst (v := 1) 48 dX8_goesWay_47 rfl rfl ?_
      refine r_aload_n (i := 0) 49 dX8_goesWay_48 rfl rfl rfl ?_
      refine r_getf 52 dX8_goesWay_49 rfl fl_X8_7 rfl rfl ?_
      refine r_bipush (v := 19) 54 dX8_goesWay_52 rfl rfl ?_
      refine r_iload (i := 5) 56 dX8_goesWay_54 rfl rfl ?_
      refine r_iadd 57 dX8_goesWay_56 rfl ?_
      rw [show (19 : Int32) + nI (dg (sG A) n c t - 1) = nI (19 + (dg (sG A) n c t - 1)) from nI_add 19 _]
      refine r_iald 58 dX8_goesWay_57 rfl rfl (by assumption) ?_
      rw [nI_clamp (n := 19 + (dg (sG A) n c t - 1)) (by omega), show (zWy W (nI (wS A (dg (sG A) n c) x t), nI (wP A (dg (sG A) n c) t), W.2.2.2.2.1.2.2)).1.1 (19 + (dg (sG A) n c t - 1)) = nI (sU A (dg (sG A) n c t - 1)) from u1]
      refine r_ishl 59 dX8_goesWay_58 rfl ?_
      refine r_ixor 60 dX8_goesWay_59 rfl ?_
      rw [n_shl1 (by omega), show (zWy W (nI (wS A (dg (sG A) n c) x t), nI (wP A (dg (sG A) n c) t), W.2.2.2.2.1.2.2)).2.2.2.2.1.1 ^^^ nI (2 ^ sU A (dg (sG A) n c t - 1)) = nI (wS A (dg (sG A) n c) x t ^^^ 2 ^ sU A (dg (sG A) n c t - 1)) from fb_xorI _ _]
      refine r_putf 63 dX8_goesWay_60 rfl fl_X8_227 rfl rfl (fun _ _ => ⟨rfl, rfl⟩) (fun z => absurd z Bool.false_ne_true) ?_
      skip
      show mm_r (d + 4) mX8_goesWay _ 63 [some (.ref 0), some (.int (nI c)), some (.int (nI n)), some (.int (bI (wC A (dg (sG A) n c) x t))), some (.int (nI t)), some (.int (nI (dg (sG A) n c t - 1)))] [] (wM (zWy W (nI (wS A (dg (sG A) n c) x t ^^^ 2 ^ sU A (dg (sG A) n c t - 1)), nI (wP A (dg (sG A) n c) t), W.2.2.2.2.1.2.2)))
      refine r_aload_n (i := 0) 64 dX8_goesWay_63 rfl rfl rfl ?_
      refine r_dup 65 dX8_goesWay_64 rfl rfl ?_
      refine r_getf 68 dX8_goesWay_65 rfl fl_X8_230 rfl rfl ?_
      refine r_aload_n (i := 0) 69 dX8_goesWay_68 rfl rfl rfl ?_
      refine r_getf 72 dX8_goesWay_69 rfl fl_X8_7 rfl rfl ?_
      refine r_bipush (v := 23) 74 dX8_goesWay_72 rfl rfl ?_
      refine r_iload (i := 5) 76 dX8_goesWay_74 rfl rfl ?_
      refine r_iadd 77 dX8_goesWay_76 rfl ?_
      rw [show (23 : Int32) + nI (dg (sG A) n c t - 1) = nI (23 + (dg (sG A) n c t - 1)) from nI_add 23 _]
      refine r_iald 78 dX8_goesWay_77 rfl rfl (by assumption) ?_
      rw [nI_clamp (n := 23 + (dg (sG A) n c t - 1)) (by omega), show (zWy W (nI (wS A (dg (sG A) n c) x t ^^^ 2 ^ sU A (dg (sG A) n c t - 1)), nI (wP A (dg (sG A) n c) t), W.2.2.2.2.1.2.2)).1.1 (23 + (dg (sG A) n c t - 1)) = nI (sP A (dg (sG A) n c t - 1)) from u2]
      refine r_iadd 79 dX8_goesWay_78 rfl ?_
      rw [show (zWy W (nI (wS A (dg (sG A) n c) x t ^^^ 2 ^ sU A (dg (sG A) n c t - 1)), nI (wP A (dg (sG A) n c) t), W.2.2.2.2.1.2.2)).2.2.2.2.1.2.1 + nI (sP A (dg (sG A) n c t - 1)) = nI (wP A (dg (sG A) n c) (t + 1)) from (by rw [e2]; exact nI_add _ _)]
      refine r_putf 82 dX8_goesWay_79 rfl fl_X8_230 rfl rfl (fun _ _ => ⟨rfl, rfl⟩) (fun z => absurd z Bool.false_ne_true) ?_
      skip
      show mm_r (d + 4) mX8_goesWay _ 82 [some (.ref 0), some (.int (nI c)), some (.int (nI n)), some (.int (bI (wC A (dg (sG A) n c) x t))), some (.int (nI t)), some (.int (nI (dg (sG A) n c t - 1)))] [] (wM (zWy W (nI (wS A (dg (sG A) n c) x t ^^^ 2 ^ sU A (dg (sG A) n c t - 1)), nI (wP A (dg (sG A) n c) (t + 1)), W.2.2.2.2.1.2.2)))
      refine r_iload_n (i := 3) 83 dX8_goesWay_82 rfl rfl rfl ?_
      refine r_if_eq 101 86 dX8_goesWay_83 rfl rfl (fun h83 => ?_) (fun h83 => ?_)
      · have g := bI_eq0 h83
        refine r_iconst (v := 0) 102 dX8_goesWay_101 rfl rfl ?_
        refine r_istore_n (i := 3) 103 dX8_goesWay_102 rfl rfl rfl ?_
        first | exact rest _ _ false _ hs1 e1.symm rfl (by rw [e3, g]; rfl) | exact rest _ _ true _ hs1 e1.symm rfl (by rw [e3, g, g2]; rfl) | exact rest _ _ false _ hs1 e1.symm rfl (by rw [e3, g, g2]; rfl)
      · have g := bI_ne0 h83
        refine r_aload_n (i := 0) 87 dX8_goesWay_86 rfl rfl rfl ?_
        refine r_aload_n (i := 0) 88 dX8_goesWay_87 rfl rfl rfl ?_
        refine r_getf 91 dX8_goesWay_88 rfl fl_X8_227 rfl rfl ?_
        refine r_callMi 94 dX8_goesWay_91 rfl ykX8_isAllowed lk_X8_153 (e2_isAllowed (W := zWy W (nI (wS A (dg (sG A) n c) x t ^^^ 2 ^ sU A (dg (sG A) n c t - 1)), nI (wP A (dg (sG A) n c) (t + 1)), W.2.2.2.2.1.2.2)) h l1) rfl rfl rfl rfl rfl rfl ⟨Nat.le_refl _, Nat.le_refl _⟩ ?_
        refine r_if_eq 101 97 dX8_goesWay_94 rfl rfl (fun h94 => ?_) (fun h94 => ?_)
        · have g2 := bI_eq0 h94
          refine r_iconst (v := 0) 102 dX8_goesWay_101 rfl rfl ?_
          refine r_istore_n (i := 3) 103 dX8_goesWay_102 rfl rfl rfl ?_
          first | exact rest _ _ false _ hs1 e1.symm rfl (by rw [e3, g]; rfl) | exact rest _ _ true _ hs1 e1.symm rfl (by rw [e3, g, g2]; rfl) | exact rest _ _ false _ hs1 e1.symm rfl (by rw [e3, g, g2]; rfl)
        · have g2 := bI_ne0 h94
          refine r_iconst (v := 1) 98 dX8_goesWay_97 rfl rfl ?_
          refine r_goto 102 dX8_goesWay_98 rfl ?_
          refine r_istore_n (i := 3) 103 dX8_goesWay_102 rfl rfl rfl ?_
          first | exact rest _ _ false _ hs1 e1.symm rfl (by rw [e3, g]; rfl) | exact rest _ _ true _ hs1 e1.symm rfl (by rw [e3, g, g2]; rfl) | exact rest _ _ false _ hs1 e1.symm rfl (by rw [e3, g, g2]; rfl)
theorem e2_goesWay (h : mok W.1 A) {x n c : Nat} (hx : W.1.1 18 = nI x) (hxl : x < 2 ^ sN A) (hn : n ≤ 4) (hc : c < 2 ^ 31) : mm_e (d + 4) yX8_goesWay mX8_goesWay [.ref 0, .int (nI c), .int (nI n)] (wM W) (mm_q (some (.int (bI (wC A (dg (sG A) n c) x n)))) (wM (zWy W (nI (wS A (dg (sG A) n c) x n), nI (wP A (dg (sG A) n c) n), W.2.2.2.2.1.2.2)))) := by
  have i18 : vp_in (18 : Int32) 148 := vp_in_nI (n := 18) (by decide) (by decide)
  have ex : W.1.1 (18 : Int32).toNatClampNeg = nI x := hx
  refine e_of [some (.ref 0), some (.int (nI c)), some (.int (nI n)), none, none, none] rfl (by decide) rfl rfl rfl ?_
  refine r_aload_n (i := 0) 1 dX8_goesWay_0 rfl rfl rfl ?_
  refine r_aload_n (i := 0) 2 dX8_goesWay_1 rfl rfl rfl ?_
  refine r_getf 5 dX8_goesWay_2 rfl fl_X8_7 rfl rfl ?_
  refine r_bipush (v := 18) 7 dX8_goesWay_5 rfl rfl ?_
  refine r_iald 8 dX8_goesWay_7 rfl rfl (by assumption) ?_
  rw [ex]
  refine r_putf 11 dX8_goesWay_8 rfl fl_X8_227 rfl rfl (fun _ _ => ⟨rfl, rfl⟩) (fun z => absurd z Bool.false_ne_true) ?_
  refine r_aload_n (i := 0) 12 dX8_goesWay_11 rfl rfl rfl ?_
  refine r_iconst (v := 0) 13 dX8_goesWay_12 rfl rfl ?_
  refine r_putf 16 dX8_goesWay_13 rfl fl_X8_230 rfl rfl (fun _ _ => ⟨rfl, rfl⟩) (fun z => absurd z Bool.false_ne_true) ?_
  refine r_iconst (v := 1) 17 dX8_goesWay_16 rfl rfl ?_
  refine r_istore_n (i := 3) 18 dX8_goesWay_17 rfl rfl rfl ?_
  refine r_iconst (v := 0) 19 dX8_goesWay_18 rfl rfl ?_
  refine r_istore (i := 4) 21 dX8_goesWay_19 rfl rfl ?_
  exact l2_goesWay h hxl hn hc _ 0 none rfl (Nat.zero_le _)
theorem bP_lt {A : sA} (hA : sOk A) {n : Nat} (hn : n ≤ 4) (b : Option Nat) {p : Nat} (hp : p ≤ 36) : (nI p < bP A n b ↔ match b with | none => True | some c => p < prc A n c) := by
  cases b with
  | none => exact ⟨fun _ => trivial, fun _ => show nI p < nI 1000000 from nI_lt (by omega) (by decide)⟩
  | some c =>
    have := prc_le hA n c
    exact nI_ltI (by omega) (by omega)
def chP (A : sA) (x n : Nat) (G : Option (Nat × Nat)) (W : MT) : Option Value → mm_W → Prop := fun v u => v = none ∧ ∃ s p : Int32, u = wM (zWy W (s, p, bB (bst A x n G ((sG A + 1) ^ n)), bP A n (bst A x n G ((sG A + 1) ^ n))))
theorem l2_cheap (h : mok W.1 A) {x n : Nat} {G : Option (Nat × Nat)} {f v : Int32} (hx : W.1.1 18 = nI x) (hxl : x < 2 ^ sN A) (hn : n ≤ 4) (ha : aimM f v G (sN A)) : ∀ (k i : Nat) (s p : Int32) (o5 : Option Value), (sG A + 1) ^ n - i = k → i ≤ (sG A + 1) ^ n → mm_r (d + 5) mX8_cheapest (chP A x n G W) 15 [some (.ref 0), some (.int (nI n)), some (.int f), some (.int v), some (.int (nI i)), o5] [] (wM (zWy W (s, p, bB (bst A x n G i), bP A n (bst A x n G i)))) := by
  intro k
  have h6 := h.n6
  have h4 := h.g4
  have pl := pw_le (n := n) h4 hn
  induction k with
  | zero =>
    intro i s p o5 hk hi
    have e : i = (sG A + 1) ^ n := by omega
    subst e
    refine r_iload (i := 4) 17 dX8_cheapest_15 rfl rfl ?_
    refine r_aload_n (i := 0) 18 dX8_cheapest_17 rfl rfl rfl ?_
    refine r_iload_n (i := 1) 19 dX8_cheapest_18 rfl rfl rfl ?_
    refine r_callMi 22 dX8_cheapest_19 rfl ykX8_powerOf lk_X8_236 (e2_powerOf (W := zWy W (s, p, _, _)) h hn) rfl rfl rfl rfl rfl rfl ⟨Nat.le_refl _, Nat.le_refl _⟩ ?_
    refine r_icmp_ge 140 25 dX8_cheapest_22 rfl rfl (fun h22 => ?_) (fun h22 => absurd (Int32.le_refl _) h22)
    exact r_retv dX8_cheapest_140 rfl ⟨Nat.le_refl _, Nat.le_refl _⟩ (fun _ => rfl) (⟨rfl, _, _, rfl⟩)
  | succ k ih =>
    intro i s p o5 hk hi
    have w1 := wS_lt (D := dg (sG A) n i) hxl n
    have w2 := h.lt31 w1
    have pr := prc_le h.ok n i
    have fin : mm_r (d + 5) mX8_cheapest (chP A x n G W) 74 [some (.ref 0), some (.int (nI n)), some (.int f), some (.int v), some (.int (nI i)), some (.int (bI (okc A x n G i)))] [] (wM (zWy W (nI (wS A (dg (sG A) n i) x n), nI (prc A n i), bB (bst A x n G i), bP A n (bst A x n G i)))) := by
      have ih2 := ih (i + 1) (nI (wS A (dg (sG A) n i) x n)) (nI (prc A n i)) (some (.int (bI (okc A x n G i)))) (by omega) (by omega)
      have lt := bP_lt h.ok hn (bst A x n G i) (p := prc A n i) (by omega)
      have no : ∀ b, b = bst A x n G (i + 1) → bst A x n G i = b → mm_r (d + 5) mX8_cheapest (chP A x n G W) 15 [some (.ref 0), some (.int (nI n)), some (.int f), some (.int v), some (.int (nI (i + 1))), some (.int (bI (okc A x n G i)))] [] (wM (zWy W (nI (wS A (dg (sG A) n i) x n), nI (prc A n i), bB (bst A x n G i), bP A n (bst A x n G i)))) := by
        intro b e1 e2
        rw [e2, e1]
        exact ih2
      cases ho : okc A x n G i with
      | false =>
        have e : bst A x n G (i + 1) = bst A x n G i := by
          rw [bst]
          split
          · rename_i q; rw [q, ho]; rfl
          · rename_i c q; rw [q, ho]; rfl
        have no2 := no _ rfl e.symm
        rw [ho] at no2
        refine r_aload_n (i := 0) 75 dX8_cheapest_74 rfl rfl rfl ?_
        refine r_iload (i := 5) 77 dX8_cheapest_75 rfl rfl ?_
        refine r_if_eq 96 80 dX8_cheapest_77 rfl rfl (fun h77 => ?_) (fun h77 => absurd rfl h77)
        refine r_aload_n (i := 0) 97 dX8_cheapest_96 rfl rfl rfl ?_
        refine r_getf 100 dX8_cheapest_97 rfl fl_X8_239 rfl rfl ?_
        refine r_putf 103 dX8_cheapest_100 rfl fl_X8_239 rfl rfl (fun _ _ => ⟨rfl, rfl⟩) (fun z => absurd z Bool.false_ne_true) ?_
        refine r_aload_n (i := 0) 104 dX8_cheapest_103 rfl rfl rfl ?_
        refine r_iload (i := 5) 106 dX8_cheapest_104 rfl rfl ?_
        refine r_if_eq 127 109 dX8_cheapest_106 rfl rfl (fun h106 => ?_) (fun h106 => absurd rfl h106)
        refine r_aload_n (i := 0) 128 dX8_cheapest_127 rfl rfl rfl ?_
        refine r_getf 131 dX8_cheapest_128 rfl fl_X8_242 rfl rfl ?_
        refine r_putf 134 dX8_cheapest_131 rfl fl_X8_242 rfl rfl (fun _ _ => ⟨rfl, rfl⟩) (fun z => absurd z Bool.false_ne_true) ?_
        skip
        refine r_iinc (i := 4) 137 dX8_cheapest_134 rfl rfl (nI_1 _) rfl ?_
        refine r_goto 15 dX8_cheapest_137 rfl ?_
        exact no2
      | true =>
        by_cases q : nI (prc A n i) < bP A n (bst A x n G i)
        · have e : bst A x n G (i + 1) = some i := by
            have q2 := lt.mp q
            rw [bst]
            cases hb : bst A x n G i with
            | none => rw [ho]; rfl
            | some c => rw [hb] at q2; simp only [ho, Bool.true_and]; rw [if_pos (decide_eq_true q2)]
          rw [e, ho] at ih2
          refine r_aload_n (i := 0) 75 dX8_cheapest_74 rfl rfl rfl ?_
          refine r_iload (i := 5) 77 dX8_cheapest_75 rfl rfl ?_
          refine r_if_eq 96 80 dX8_cheapest_77 rfl rfl (fun h77 => absurd h77 (by decide)) (fun h77 => ?_)
          refine r_aload_n (i := 0) 81 dX8_cheapest_80 rfl rfl rfl ?_
          refine r_getf 84 dX8_cheapest_81 rfl fl_X8_230 rfl rfl ?_
          refine r_aload_n (i := 0) 85 dX8_cheapest_84 rfl rfl rfl ?_
          refine r_getf 88 dX8_cheapest_85 rfl fl_X8_242 rfl rfl ?_
          refine r_icmp_ge 96 91 dX8_cheapest_88 rfl rfl (fun h88 => absurd q (Int32.not_lt.mpr h88)) (fun h88 => ?_)
          refine r_iload (i := 4) 93 dX8_cheapest_91 rfl rfl ?_
          refine r_goto 100 dX8_cheapest_93 rfl ?_
          refine r_putf 103 dX8_cheapest_100 rfl fl_X8_239 rfl rfl (fun _ _ => ⟨rfl, rfl⟩) (fun z => absurd z Bool.false_ne_true) ?_
          skip
          show mm_r (d + 5) mX8_cheapest _ 103 [some (.ref 0), some (.int (nI n)), some (.int f), some (.int v), some (.int (nI i)), some (.int (bI true))] [] (wM (zWy W (nI (wS A (dg (sG A) n i) x n), nI (prc A n i), nI i, bP A n (bst A x n G i))))
          refine r_aload_n (i := 0) 104 dX8_cheapest_103 rfl rfl rfl ?_
          refine r_iload (i := 5) 106 dX8_cheapest_104 rfl rfl ?_
          refine r_if_eq 127 109 dX8_cheapest_106 rfl rfl (fun h106 => absurd h106 (by decide)) (fun h106 => ?_)
          refine r_aload_n (i := 0) 110 dX8_cheapest_109 rfl rfl rfl ?_
          refine r_getf 113 dX8_cheapest_110 rfl fl_X8_230 rfl rfl ?_
          refine r_aload_n (i := 0) 114 dX8_cheapest_113 rfl rfl rfl ?_
          refine r_getf 117 dX8_cheapest_114 rfl fl_X8_242 rfl rfl ?_
          refine r_icmp_ge 127 120 dX8_cheapest_117 rfl rfl (fun h117 => absurd q (Int32.not_lt.mpr h117)) (fun h117 => ?_)
          refine r_aload_n (i := 0) 121 dX8_cheapest_120 rfl rfl rfl ?_
          refine r_getf 124 dX8_cheapest_121 rfl fl_X8_230 rfl rfl ?_
          refine r_goto 131 dX8_cheapest_124 rfl ?_
          refine r_putf 134 dX8_cheapest_131 rfl fl_X8_242 rfl rfl (fun _ _ => ⟨rfl, rfl⟩) (fun z => absurd z Bool.false_ne_true) ?_
          refine r_iinc (i := 4) 137 dX8_cheapest_134 rfl rfl (by first | exact nI_1 _ | rfl) rfl ?_
          refine r_goto 15 dX8_cheapest_137 rfl ?_
          exact ih2
        · have e : bst A x n G (i + 1) = bst A x n G i := by
            have q2 := mt lt.mpr q
            rw [bst]
            cases hb : bst A x n G i with
            | none => rw [hb] at q2; exact absurd trivial q2
            | some c => rw [hb] at q2; simp only [ho, Bool.true_and]; rw [if_neg (fun z => q2 (of_decide_eq_true z))]
          have no2 := no _ rfl e.symm
          rw [ho] at no2
          have q3 := Int32.not_lt.mp q
          refine r_aload_n (i := 0) 75 dX8_cheapest_74 rfl rfl rfl ?_
          refine r_iload (i := 5) 77 dX8_cheapest_75 rfl rfl ?_
          refine r_if_eq 96 80 dX8_cheapest_77 rfl rfl (fun h77 => absurd h77 (by decide)) (fun h77 => ?_)
          refine r_aload_n (i := 0) 81 dX8_cheapest_80 rfl rfl rfl ?_
          refine r_getf 84 dX8_cheapest_81 rfl fl_X8_230 rfl rfl ?_
          refine r_aload_n (i := 0) 85 dX8_cheapest_84 rfl rfl rfl ?_
          refine r_getf 88 dX8_cheapest_85 rfl fl_X8_242 rfl rfl ?_
          refine r_icmp_ge 96 91 dX8_cheapest_88 rfl rfl (fun h88 => ?_) (fun h88 => absurd q3 h88)
          refine r_aload_n (i := 0) 97 dX8_cheapest_96 rfl rfl rfl ?_
          refine r_getf 100 dX8_cheapest_97 rfl fl_X8_239 rfl rfl ?_
          refine r_putf 103 dX8_cheapest_100 rfl fl_X8_239 rfl rfl (fun _ _ => ⟨rfl, rfl⟩) (fun z => absurd z Bool.false_ne_true) ?_
          refine r_aload_n (i := 0) 104 dX8_cheapest_103 rfl rfl rfl ?_
          refine r_iload (i := 5) 106 dX8_cheapest_104 rfl rfl ?_
          refine r_if_eq 127 109 dX8_cheapest_106 rfl rfl (fun h106 => absurd h106 (by decide)) (fun h106 => ?_)
          refine r_aload_n (i := 0) 110 dX8_cheapest_109 rfl rfl rfl ?_
          refine r_getf 113 dX8_cheapest_110 rfl fl_X8_230 rfl rfl ?_
          refine r_aload_n (i := 0) 114 dX8_cheapest_113 rfl rfl rfl ?_
          refine r_getf 117 dX8_cheapest_114 rfl fl_X8_242 rfl rfl ?_
          refine r_icmp_ge 127 120 dX8_cheapest_117 rfl rfl (fun h117 => ?_) (fun h117 => absurd q3 h117)
          refine r_aload_n (i := 0) 128 dX8_cheapest_127 rfl rfl rfl ?_
          refine r_getf 131 dX8_cheapest_128 rfl fl_X8_242 rfl rfl ?_
          refine r_putf 134 dX8_cheapest_131 rfl fl_X8_242 rfl rfl (fun _ _ => ⟨rfl, rfl⟩) (fun z => absurd z Bool.false_ne_true) ?_
          refine r_iinc (i := 4) 137 dX8_cheapest_134 rfl rfl (by first | exact nI_1 _ | rfl) rfl ?_
          refine r_goto 15 dX8_cheapest_137 rfl ?_
          exact no2
    refine r_iload (i := 4) 17 dX8_cheapest_15 rfl rfl ?_
    refine r_aload_n (i := 0) 18 dX8_cheapest_17 rfl rfl rfl ?_
    refine r_iload_n (i := 1) 19 dX8_cheapest_18 rfl rfl rfl ?_
    refine r_callMi 22 dX8_cheapest_19 rfl ykX8_powerOf lk_X8_236 (e2_powerOf (W := zWy W (s, p, bB (bst A x n G i), bP A n (bst A x n G i))) h hn) rfl rfl rfl rfl rfl rfl ⟨Nat.le_refl _, Nat.le_refl _⟩ ?_
    refine r_icmp_ge 140 25 dX8_cheapest_22 rfl rfl (fun h22 => absurd (ble_of (by omega) (by omega) h22) (by omega)) (fun h22 => ?_)
    refine r_aload_n (i := 0) 26 dX8_cheapest_25 rfl rfl rfl ?_
    refine r_iload (i := 4) 28 dX8_cheapest_26 rfl rfl ?_
    refine r_iload_n (i := 1) 29 dX8_cheapest_28 rfl rfl rfl ?_
    refine r_callMu 32 dX8_cheapest_29 rfl ykX8_goesWay lk_X8_245 (e2_goesWay (W := zWy W (s, p, bB (bst A x n G i), bP A n (bst A x n G i))) h hx hxl hn (by omega)) rfl rfl rfl rfl rfl rfl ⟨Nat.le_refl _, Nat.le_refl _⟩ ?_
    skip
    show mm_r (d + 5) mX8_cheapest _ 32 [some (.ref 0), some (.int (nI n)), some (.int f), some (.int v), some (.int (nI i)), o5] [.int (bI (wC A (dg (sG A) n i) x n))] (wM (zWy W (nI (wS A (dg (sG A) n i) x n), nI (prc A n i), bB (bst A x n G i), bP A n (bst A x n G i))))
    have fb : ∀ b : Bool, okc A x n G i = b → mm_r (d + 5) mX8_cheapest (chP A x n G W) 72 [some (.ref 0), some (.int (nI n)), some (.int f), some (.int v), some (.int (nI i)), o5] [.int (bI b)] (wM (zWy W (nI (wS A (dg (sG A) n i) x n), nI (prc A n i), bB (bst A x n G i), bP A n (bst A x n G i)))) := by
      intro b hb
      subst hb
      refine r_istore (i := 5) 74 dX8_cheapest_72 rfl rfl ?_
      exact fin
    cases G with
    | none =>
      have ha : f = -4 := ha
      subst ha
      refine r_if_eq 71 35 dX8_cheapest_32 rfl rfl (fun h32 => ?_) (fun h32 => ?_)
      · have g := bI_eq0 h32
        refine r_iconst (v := 0) 72 dX8_cheapest_71 rfl rfl ?_
        first | exact fb false (by rw [okc, g]; rfl) | exact fb false (by rw [okc, g]; exact g2) | exact fb true (by rw [okc, g]; exact g2)
      · have g := bI_ne0 h32
        refine r_iload_n (i := 2) 36 dX8_cheapest_35 rfl rfl rfl ?_
        refine r_bipush (v := (-4)) 38 dX8_cheapest_36 rfl rfl ?_
        refine r_icmp_ne 55 41 dX8_cheapest_38 rfl rfl (fun h38 => absurd rfl h38) (fun h38 => ?_)
        refine r_aload_n (i := 0) 42 dX8_cheapest_41 rfl rfl rfl ?_
        refine r_aload_n (i := 0) 43 dX8_cheapest_42 rfl rfl rfl ?_
        refine r_getf 46 dX8_cheapest_43 rfl fl_X8_227 rfl rfl ?_
        refine r_callMi 49 dX8_cheapest_46 rfl ykX8_agrees lk_X8_157 (e2_agrees (W := zWy W (nI (wS A (dg (sG A) n i) x n), nI (prc A n i), bB (bst A x n none i), bP A n (bst A x n none i))) h w2) rfl rfl rfl rfl rfl rfl ⟨Nat.le_refl _, Nat.le_refl _⟩ ?_
        refine r_if_eq 71 52 dX8_cheapest_49 rfl rfl (fun h49 => ?_) (fun h49 => ?_)
        · have g2 := bI_eq0 h49
          refine r_iconst (v := 0) 72 dX8_cheapest_71 rfl rfl ?_
          first | exact fb false (by rw [okc, g]; rfl) | exact fb false (by rw [okc, g]; exact g2) | exact fb true (by rw [okc, g]; exact g2)
        · have g2 := bI_ne0 h49
          refine r_goto 67 dX8_cheapest_52 rfl ?_
          refine r_iconst (v := 1) 68 dX8_cheapest_67 rfl rfl ?_
          refine r_goto 72 dX8_cheapest_68 rfl ?_
          first | exact fb false (by rw [okc, g]; rfl) | exact fb false (by rw [okc, g]; exact g2) | exact fb true (by rw [okc, g]; exact g2)
    | some q =>
      obtain ⟨rfl, a2, rfl, a4⟩ := ha
      have nn : ¬ nI q.1 = -4 := fun z => nI_pos (n := q.1) (by omega) (by rw [z]; decide)
      have tl := tb_le (wS A (dg (sG A) n i) x n) q.1
      refine r_if_eq 71 35 dX8_cheapest_32 rfl rfl (fun h32 => ?_) (fun h32 => ?_)
      · have g := bI_eq0 h32
        refine r_iconst (v := 0) 72 dX8_cheapest_71 rfl rfl ?_
        first | exact fb false (by rw [okc, g]; rfl) | exact fb false (by rw [okc, g]; exact decide_eq_false g2) | exact fb true (by rw [okc, g]; exact decide_eq_true g2)
      · have g := bI_ne0 h32
        refine r_iload_n (i := 2) 36 dX8_cheapest_35 rfl rfl rfl ?_
        refine r_bipush (v := (-4)) 38 dX8_cheapest_36 rfl rfl ?_
        refine r_icmp_ne 55 41 dX8_cheapest_38 rfl rfl (fun h38 => ?_) (fun h38 => absurd h38 nn)
        refine r_aload_n (i := 0) 56 dX8_cheapest_55 rfl rfl rfl ?_
        refine r_getf 59 dX8_cheapest_56 rfl fl_X8_227 rfl rfl ?_
        refine r_iload_n (i := 2) 60 dX8_cheapest_59 rfl rfl rfl ?_
        refine r_ishr 61 dX8_cheapest_60 rfl ?_
        refine r_iconst (v := 1) 62 dX8_cheapest_61 rfl rfl ?_
        refine r_iand 63 dX8_cheapest_62 rfl ?_
        rw [show (zWy W (nI (wS A (dg (sG A) n i) x n), nI (prc A n i), bB (bst A x n (some q) i), bP A n (bst A x n (some q) i))).2.2.2.2.1.1 >>> (nI q.1 &&& 31) &&& 1 = nI (tb (wS A (dg (sG A) n i) x n) q.1) from n_bit w2 (by omega)]
        refine r_iload_n (i := 3) 64 dX8_cheapest_63 rfl rfl rfl ?_
        refine r_icmp_ne 71 67 dX8_cheapest_64 rfl rfl (fun h64 => ?_) (fun h64 => ?_)
        · have g2 := bne_of (by omega) (by omega) h64
          refine r_iconst (v := 0) 72 dX8_cheapest_71 rfl rfl ?_
          first | exact fb false (by rw [okc, g]; rfl) | exact fb false (by rw [okc, g]; exact decide_eq_false g2) | exact fb true (by rw [okc, g]; exact decide_eq_true g2)
        · have g2 := beq_of (by omega) (by omega) h64
          refine r_iconst (v := 1) 68 dX8_cheapest_67 rfl rfl ?_
          refine r_goto 72 dX8_cheapest_68 rfl ?_
          first | exact fb false (by rw [okc, g]; rfl) | exact fb false (by rw [okc, g]; exact decide_eq_false g2) | exact fb true (by rw [okc, g]; exact decide_eq_true g2)
theorem e2_cheapest (h : mok W.1 A) {x n : Nat} {G : Option (Nat × Nat)} {f v : Int32} (hx : W.1.1 18 = nI x) (hxl : x < 2 ^ sN A) (hn : n ≤ 4) (ha : aimM f v G (sN A)) : mm_e (d + 5) yX8_cheapest mX8_cheapest [.ref 0, .int (nI n), .int f, .int v] (wM W) (chP A x n G W) := by
  refine e_of [some (.ref 0), some (.int (nI n)), some (.int f), some (.int v), none, none] rfl (by decide) rfl rfl rfl ?_
  refine r_aload_n (i := 0) 1 dX8_cheapest_0 rfl rfl rfl ?_
  refine r_bipush (v := (-4)) 3 dX8_cheapest_1 rfl rfl ?_
  refine r_putf 6 dX8_cheapest_3 rfl fl_X8_239 rfl rfl (fun _ _ => ⟨rfl, rfl⟩) (fun z => absurd z Bool.false_ne_true) ?_
  refine r_aload_n (i := 0) 7 dX8_cheapest_6 rfl rfl rfl ?_
  refine r_ldc 9 dX8_cheapest_7 rfl k_X8_199 ?_
  refine r_putf 12 dX8_cheapest_9 rfl fl_X8_242 rfl rfl (fun _ _ => ⟨rfl, rfl⟩) (fun z => absurd z Bool.false_ne_true) ?_
  refine r_iconst (v := 0) 13 dX8_cheapest_12 rfl rfl ?_
  refine r_istore (i := 4) 15 dX8_cheapest_13 rfl rfl ?_
  exact l2_cheap h hx hxl hn ha _ 0 W.2.2.2.2.1.1 W.2.2.2.2.1.2.1 none rfl (Nat.zero_le _)
theorem bB_4 {b : Option Nat} (hb : ∀ c, b = some c → c < 2 ^ 31) : bB b = -4 ↔ b = none := by
  cases b with
  | none => exact ⟨fun _ => rfl, fun _ => rfl⟩
  | some c =>
    refine ⟨fun z => ?_, fun z => by cases z⟩
    exact absurd (show nI c < 0 from by rw [show nI c = -4 from z]; decide) (nI_pos (hb c rfl))
theorem bst_lt {A : sA} {x n : Nat} {G : Option (Nat × Nat)} : ∀ (i c : Nat), bst A x n G i = some c → c < i
  | 0, c, h => by cases h
  | i + 1, c, h => by
    rw [bst] at h
    split at h
    · split at h
      · cases h; omega
      · cases h
    · rename_i c' hc
      have := bst_lt i c' hc
      split at h
      · cases h; omega
      · cases h; omega
theorem e2_toldWay (h : mok W.1 A) {n c : Nat} (hn : n ≤ 4) (hc : c < 2 ^ 31) (hb : W.2.2.2.2.1.2.2.1 = nI c) {t : Int32} (ht : ¬ t < 0) : mm_e (d + 3) yX8_toldWay mX8_toldWay [.ref 0, .int (nI n), .int t] (wM W) (mm_q (some (.int (who (sG A) n (some c) t))) (wM W)) := by
  have nn : ¬ nI c = -4 := fun z => nI_pos (n := c) hc (by rw [z]; decide)
  have h4 := h.g4
  refine e_of [some (.ref 0), some (.int (nI n)), some (.int t), none] rfl (by decide) rfl rfl rfl ?_
  refine r_aload_n (i := 0) 1 dX8_toldWay_0 rfl rfl rfl ?_
  refine r_getf 4 dX8_toldWay_1 rfl fl_X8_239 rfl rfl ?_
  rw [hb]
  refine r_bipush (v := (-4)) 6 dX8_toldWay_4 rfl rfl ?_
  refine r_icmp_eq 14 9 dX8_toldWay_6 rfl rfl (fun h6 => absurd h6 nn) (fun h6 => ?_)
  refine r_iload_n (i := 2) 10 dX8_toldWay_9 rfl rfl rfl ?_
  refine r_iload_n (i := 1) 11 dX8_toldWay_10 rfl rfl rfl ?_
  refine r_icmp_lt 17 14 dX8_toldWay_11 rfl rfl (fun h11 => ?_) (fun h11 => ?_)
  · have hi : inb (nI n) t = true := inb_t ht (Int32.not_le.mpr h11)
    obtain ⟨j, hj, rfl⟩ := inb_nI (by omega) hi
    have dl := dg_le (sG A) n c j
    refine r_aload_n (i := 0) 18 dX8_toldWay_17 rfl rfl rfl ?_
    refine r_aload_n (i := 0) 19 dX8_toldWay_18 rfl rfl rfl ?_
    refine r_getf 22 dX8_toldWay_19 rfl fl_X8_239 rfl rfl ?_
    rw [hb]
    refine r_iload_n (i := 1) 23 dX8_toldWay_22 rfl rfl rfl ?_
    refine r_iload_n (i := 2) 24 dX8_toldWay_23 rfl rfl rfl ?_
    refine r_callMi 27 dX8_toldWay_24 rfl ykX8_whoIn lk_X8_233 (e2_whoIn h hn hc hj) rfl rfl rfl rfl rfl rfl ⟨Nat.le_refl _, Nat.le_refl _⟩ ?_
    refine r_istore_n (i := 3) 28 dX8_toldWay_27 rfl rfl rfl ?_
    refine r_iload_n (i := 3) 29 dX8_toldWay_28 rfl rfl rfl ?_
    refine r_if_ge 37 32 dX8_toldWay_29 rfl rfl (fun h29 => ?_) (fun h29 => ?_)
    · have g : ¬ dg (sG A) n c j = 0 := (fun z => by rw [z] at h29; exact absurd h29 (by decide))
      refine r_iload_n (i := 3) 38 dX8_toldWay_37 rfl rfl rfl ?_
      exact r_reti dX8_toldWay_38 rfl (by first | rfl | exact bI_nar _) ⟨Nat.le_refl _, Nat.le_refl _⟩ (fun _ => rfl) (⟨by first | (rw [who, nI_clamp (n := j) (by omega), if_pos ⟨ht, Int32.not_le.mpr h11, g⟩, rv_pos g]; done) | (rw [who, nI_clamp (n := j) (by omega), if_neg (fun z => z.2.2 g)]; done), rfl⟩)
    · have g : dg (sG A) n c j = 0 := (Classical.byContradiction fun z => h29 (by rw [rv_pos z]; exact nI_pos' (by omega)))
      refine r_bipush (v := (-4)) 34 dX8_toldWay_32 rfl rfl ?_
      refine r_goto 38 dX8_toldWay_34 rfl ?_
      exact r_reti dX8_toldWay_38 rfl (by first | rfl | exact bI_nar _) ⟨Nat.le_refl _, Nat.le_refl _⟩ (fun _ => rfl) (⟨by first | (rw [who, nI_clamp (n := j) (by omega), if_pos ⟨ht, Int32.not_le.mpr h11, g⟩, rv_pos g]; done) | (rw [who, nI_clamp (n := j) (by omega), if_neg (fun z => z.2.2 g)]; done), rfl⟩)
  · have q := Int32.not_lt.mp h11
    refine r_bipush (v := (-4)) 16 dX8_toldWay_14 rfl rfl ?_
    exact r_reti dX8_toldWay_16 rfl (by first | rfl | exact bI_nar _) ⟨Nat.le_refl _, Nat.le_refl _⟩ (fun _ => rfl) (⟨by rw [who, if_neg (fun z => z.2.1 q)], rfl⟩)
theorem iwy_in (v : Int32) : iwy v = true ↔ (10 : Int64).toInt ≤ v.toInt64.toInt ∧ v.toInt64.toInt ≤ (13 : Int64).toInt := by
  unfold iwy
  rw [Bool.and_eq_true, decide_eq_true_eq, decide_eq_true_eq, fa_lt, fa_le, Int32.toInt_toInt64]
  have h1 : (10 : Int32).toInt = 10 := rfl
  have h2 : (14 : Int32).toInt = 14 := rfl
  have h3 : (10 : Int64).toInt = 10 := rfl
  have h4 : (13 : Int64).toInt = 13 := rfl
  omega
theorem iwy_sub {v : Int32} (h : iwy v = true) : ¬ v - 10 < 0 := by
  have h2 := (iwy_in v).mp h
  rw [Int32.toInt_toInt64] at h2
  have h3 : (10 : Int64).toInt = 10 := rfl
  have h4 : (13 : Int64).toInt = 13 := rfl
  have h5 : (10 : Int32).toInt = 10 := rfl
  rw [fa_lt, fb_subI (by omega) (by omega)]
  have h6 : (0 : Int32).toInt = 0 := rfl
  omega
theorem isb_iwy {v : Int32} (h : isb v = true) : v = 0 ∨ v = 1 := of_decide_eq_true h
theorem l2_way (h : mok W.1 A) {x : Nat} {f v what : Int32} {G : Option (Nat × Nat)} (hx : W.1.1 18 = nI x) (hxl : x < 2 ^ sN A) (ha : aimM f v G (sN A)) {Qf : Option Value → mm_W → Prop} {W0 : Option (Nat × Nat)} (out : ∀ (n : Nat) (s p : Int32) (b : Option Nat), n ≤ 4 → b = bst A x n G ((sG A + 1) ^ n) → (match b with | some c => W0 = some (n, c) | none => W0 = none) → mm_r (d + 6) mX8_way Qf 83 [some (.ref 0), some (.int f), some (.int v), some (.int what), some (.int (nI n))] [] (wM (zWy W (s, p, bB b, bP A n b)))) : ∀ (k n : Nat) (s p : Int32), k + n = 4 → W0 = wy A x G (k + 1) n → mm_r (d + 6) mX8_way Qf 54 [some (.ref 0), some (.int f), some (.int v), some (.int what), some (.int (nI n))] [] (wM (zWy W (s, p, bB (bst A x n G ((sG A + 1) ^ n)), bP A n (bst A x n G ((sG A + 1) ^ n))))) := by
  have h4 := h.g4
  have b31 : ∀ n, n ≤ 4 → ∀ c, bst A x n G ((sG A + 1) ^ n) = some c → c < 2 ^ 31 := fun n hn c hc => by
    have := bst_lt _ _ hc
    have := pw_le (n := n) h4 hn
    omega
  intro k
  induction k with
  | zero =>
    intro n s p hk e
    have : n = 4 := by omega
    subst this
    have o4 := out 4 s p _ (Nat.le_refl _) rfl (by
      rw [wy] at e
      split
      · rename_i c hc; rw [hc] at e; exact e
      · rename_i hc; rw [hc] at e; exact e)
    refine r_aload_n (i := 0) 55 dX8_way_54 rfl rfl rfl ?_
    refine r_getf 58 dX8_way_55 rfl fl_X8_239 rfl rfl ?_
    refine r_bipush (v := (-4)) 60 dX8_way_58 rfl rfl ?_
    refine r_icmp_ne 83 63 dX8_way_60 rfl rfl (fun h60 => ?_) (fun h60 => ?_)
    · exact o4
    · refine r_iload (i := 4) 65 dX8_way_63 rfl rfl ?_
      refine r_iconst (v := 4) 66 dX8_way_65 rfl rfl ?_
      refine r_icmp_ge 83 69 dX8_way_66 rfl rfl (fun h66 => ?_) (fun h66 => absurd (show (4 : Int32) ≤ nI 4 from by decide) h66)
      exact o4
  | succ k ih =>
    intro n s p hk e
    cases hb : bst A x n G ((sG A + 1) ^ n) with
    | none =>
      rw [wy, hb] at e
      refine r_aload_n (i := 0) 55 dX8_way_54 rfl rfl rfl ?_
      refine r_getf 58 dX8_way_55 rfl fl_X8_239 rfl rfl ?_
      refine r_bipush (v := (-4)) 60 dX8_way_58 rfl rfl ?_
      refine r_icmp_ne 83 63 dX8_way_60 rfl rfl (fun h60 => absurd rfl h60) (fun h60 => ?_)
      refine r_iload (i := 4) 65 dX8_way_63 rfl rfl ?_
      refine r_iconst (v := 4) 66 dX8_way_65 rfl rfl ?_
      refine r_icmp_ge 83 69 dX8_way_66 rfl rfl (fun h66 => absurd (ble_of (a := 4) (b := n) (by decide) (by omega) h66) (by omega)) (fun h66 => ?_)
      refine r_iinc (i := 4) 72 dX8_way_69 rfl rfl (nI_1 _) rfl ?_
      refine r_aload_n (i := 0) 73 dX8_way_72 rfl rfl rfl ?_
      refine r_iload (i := 4) 75 dX8_way_73 rfl rfl ?_
      refine r_iload_n (i := 1) 76 dX8_way_75 rfl rfl rfl ?_
      refine r_iload_n (i := 2) 77 dX8_way_76 rfl rfl rfl ?_
      refine r_callMq 80 dX8_way_77 rfl ykX8_cheapest lk_X8_252 (e2_cheapest (W := zWy W (s, p, bB none, bP A n none)) (n := n + 1) (G := G) h hx hxl (by omega) ha) rfl rfl rfl rfl rfl rfl ⟨Nat.le_refl _, Nat.le_refl _⟩ (fun v u hq => by obtain ⟨-, s, p, rfl⟩ := hq; rfl) (fun v u hq => ?_)
      obtain ⟨rfl, s2, p2, rfl⟩ := hq
      refine r_goto 54 dX8_way_80 rfl ?_
      exact ih (n + 1) s2 p2 (by omega) e
    | some c =>
      rw [wy, hb] at e
      have o4 := out n s p (some c) (by omega) hb.symm e
      have nn : ¬ nI c = -4 := fun z => nI_pos (n := c) (b31 n (by omega) c hb) (by rw [z]; decide)
      refine r_aload_n (i := 0) 55 dX8_way_54 rfl rfl rfl ?_
      refine r_getf 58 dX8_way_55 rfl fl_X8_239 rfl rfl ?_
      refine r_bipush (v := (-4)) 60 dX8_way_58 rfl rfl ?_
      refine r_icmp_ne 83 63 dX8_way_60 rfl rfl (fun h60 => ?_) (fun h60 => absurd h60 nn)
      exact o4
theorem e2_toldWayN (hb : W.2.2.2.2.1.2.2.1 = -4) (n t : Int32) : mm_e (d + 3) yX8_toldWay mX8_toldWay [.ref 0, .int n, .int t] (wM W) (mm_q (some (.int (-4))) (wM W)) := by
  refine e_of [some (.ref 0), some (.int n), some (.int t), none] rfl (by decide) rfl rfl rfl ?_
  refine r_aload_n (i := 0) 1 dX8_toldWay_0 rfl rfl rfl ?_
  refine r_getf 4 dX8_toldWay_1 rfl fl_X8_239 rfl rfl ?_
  refine r_bipush (v := (-4)) 6 dX8_toldWay_4 rfl rfl ?_
  refine r_icmp_eq 14 9 dX8_toldWay_6 rfl rfl (fun h6 => ?_) (fun h6 => absurd hb h6)
  refine r_bipush (v := (-4)) 16 dX8_toldWay_14 rfl rfl ?_
  exact r_reti dX8_toldWay_16 rfl (by first | rfl | exact bI_nar _) ⟨Nat.le_refl _, Nat.le_refl _⟩ (fun _ => rfl) (⟨rfl, rfl⟩)
theorem q_way (hT : tOk S) (hC : CM S w) (f : Int32) (v : Int32) (what : Int32) : mm_e (d + 6) yX8_way mX8_way [.ref 0, .int f, .int v, .int what] w (QM (s_way S f v what) S) := by
  have hC0 := hC
  obtain ⟨W, rfl, hR⟩ := hC
  obtain ⟨hM, ⟨hx, hy⟩, ⟨ht, hb⟩, hf, ⟨v1, v2⟩, ⟨hk0, hk1⟩, hI, hH, hn⟩ := id hR
  have h6 := hM.n6
  have h4 := hM.g4
  have h5 := hM.b4
  have p6 := p2_le hM.n6
  have l0 := hM.lt31 hT.2.1
  have i18 : vp_in (18 : Int32) 148 := vp_in_nI (n := 18) (by decide) (by decide)
  have i35 : vp_in (35 : Int32) 148 := vp_in_nI (n := 35) (by decide) (by decide)
  have i36 : vp_in (36 : Int32) 148 := vp_in_nI (n := 36) (by decide) (by decide)
  have ex : W.1.1 (18 : Int32).toNatClampNeg = nI (tX S) := hx
  have ey : W.1.1 (36 : Int32).toNatClampNeg = nI (tY S) := hy
  have eb : W.1.1 (35 : Int32).toNatClampNeg = nI (sB (tA S)) := hM.bn
  refine e_of [some (.ref 0), some (.int f), some (.int v), some (.int what), none] rfl (by decide) rfl rfl rfl ?_
  rw [s_way, isb_inb, isb_inb]
  cases g : inb (nI (sN (tA S))) f with
  | false =>
    refine r_aload_n (i := 0) 1 dX8_way_0 rfl rfl rfl ?_
    refine r_iload_n (i := 1) 2 dX8_way_1 rfl rfl rfl ?_
    refine r_callMi 5 dX8_way_2 rfl ykX8_isThing lk_X8_160 (e2_isThing hM f) rfl rfl rfl rfl rfl rfl ⟨Nat.le_refl _, Nat.le_refl _⟩ ?_
    rw [g]
    refine r_if_eq 42 8 dX8_way_5 rfl rfl (fun h5 => ?_) (fun h5 => absurd rfl h5)
    refine r_iconst (v := (-1)) 43 dX8_way_42 rfl rfl ?_
    exact r_reti dX8_way_43 rfl (by first | rfl | exact bI_nar _) ⟨Nat.le_refl _, Nat.le_refl _⟩ (fun _ => rfl) (⟨rfl, hC0⟩)
  | true =>
    cases g2 : inb (nI 2) v with
    | false =>
      refine r_aload_n (i := 0) 1 dX8_way_0 rfl rfl rfl ?_
      refine r_iload_n (i := 1) 2 dX8_way_1 rfl rfl rfl ?_
      refine r_callMi 5 dX8_way_2 rfl ykX8_isThing lk_X8_160 (e2_isThing hM f) rfl rfl rfl rfl rfl rfl ⟨Nat.le_refl _, Nat.le_refl _⟩ ?_
      rw [g]
      refine r_if_eq 42 8 dX8_way_5 rfl rfl (fun h5 => absurd h5 (by decide)) (fun h5 => ?_)
      refine r_iload_n (i := 2) 9 dX8_way_8 rfl rfl rfl ?_
      refine r_i2l 10 dX8_way_9 rfl ?_
      refine r_lconst (v := 0) 11 dX8_way_10 rfl rfl ?_
      refine r_lconst (v := 1) 12 dX8_way_11 rfl rfl ?_
      refine r_callSi [] 15 dX8_way_12 rfl ykX8_in lk_X8_46 (e_in0 v (n := 2) (by decide) (by decide)) rfl rfl rfl ⟨Nat.le_refl _, Nat.le_refl _⟩ ?_
      rw [g2]
      refine r_if_eq 42 18 dX8_way_15 rfl rfl (fun h15 => ?_) (fun h15 => absurd rfl h15)
      refine r_iconst (v := (-1)) 43 dX8_way_42 rfl rfl ?_
      exact r_reti dX8_way_43 rfl (by first | rfl | exact bI_nar _) ⟨Nat.le_refl _, Nat.le_refl _⟩ (fun _ => rfl) (⟨rfl, hC0⟩)
    | true =>
      obtain ⟨i, hi, rfl⟩ := inb_nI (by omega) g
      obtain ⟨j, hj, rfl⟩ := inb_nI (n := 2) (by decide) g2
      rw [nI_clamp (n := i) (by omega), nI_clamp (n := j) (by omega), Bool.and_self, Bool.true_and]
      have b31 : ∀ n, n ≤ 4 → ∀ c, bst (tA S) (tX S) n (some (i, j)) ((sG (tA S) + 1) ^ n) = some c → c < 2 ^ 31 := fun n hn c hc => by
        have := bst_lt _ _ hc
        have := pw_le (n := n) h4 hn
        omega
      have main : (isb what = true ∨ iwy what = true) → mm_r (d + 6) mX8_way (QM (match wy (tA S) (tX S) (some (i, j)) 5 0 with | none => -4 | some q => if what = 0 then nI q.1 else if what = 1 then nI (prc (tA S) q.1 q.2) else who (sG (tA S)) q.1 (some q.2) (what - 10)) S) 44 [some (.ref 0), some (.int (nI i)), some (.int (nI j)), some (.int what), none] [] (wM W) := by
        intro hw
        refine r_iconst (v := 0) 45 dX8_way_44 rfl rfl ?_
        refine r_istore (i := 4) 47 dX8_way_45 rfl rfl ?_
        refine r_aload_n (i := 0) 48 dX8_way_47 rfl rfl rfl ?_
        refine r_iconst (v := 0) 49 dX8_way_48 rfl rfl ?_
        refine r_iload_n (i := 1) 50 dX8_way_49 rfl rfl rfl ?_
        refine r_iload_n (i := 2) 51 dX8_way_50 rfl rfl rfl ?_
        refine r_callMq 54 dX8_way_51 rfl ykX8_cheapest lk_X8_252 (e2_cheapest (n := 0) (G := some (i, j)) hM hx hT.2.1 (Nat.zero_le _) ⟨rfl, hi, rfl, by omega⟩) rfl rfl rfl rfl rfl rfl ⟨Nat.le_refl _, Nat.le_refl _⟩ (fun v u hq => by obtain ⟨-, s, p, rfl⟩ := hq; rfl) (fun v u hq => ?_)
        obtain ⟨rfl, s2, p2, rfl⟩ := hq
        refine l2_way hM hx hT.2.1 (G := some (i, j)) ⟨rfl, hi, rfl, by omega⟩ ?_ 4 0 s2 p2 rfl rfl
        intro n s p b hn hb e
        cases b with
        | none =>
          have e : wy (tA S) (tX S) (some (i, j)) 5 0 = none := e
          rw [e]
          refine r_aload_n (i := 0) 84 dX8_way_83 rfl rfl rfl ?_
          refine r_getf 87 dX8_way_84 rfl fl_X8_239 rfl rfl ?_
          refine r_bipush (v := (-4)) 89 dX8_way_87 rfl rfl ?_
          refine r_icmp_ne 95 92 dX8_way_89 rfl rfl (fun h89 => absurd rfl h89) (fun h89 => ?_)
          refine r_bipush (v := (-4)) 94 dX8_way_92 rfl rfl ?_
          exact r_reti dX8_way_94 rfl (by first | rfl | exact bI_nar _) ⟨Nat.le_refl _, Nat.le_refl _⟩ (fun _ => rfl) (⟨rfl, _, rfl, relM_Wy hR _⟩)
        | some c =>
          have e : wy (tA S) (tX S) (some (i, j)) 5 0 = some (n, c) := e
          have c31 := b31 n hn c hb.symm
          have nn : ¬ nI c = -4 := fun z => nI_pos (n := c) c31 (by rw [z]; decide)
          rw [e]
          refine r_aload_n (i := 0) 84 dX8_way_83 rfl rfl rfl ?_
          refine r_getf 87 dX8_way_84 rfl fl_X8_239 rfl rfl ?_
          refine r_bipush (v := (-4)) 89 dX8_way_87 rfl rfl ?_
          refine r_icmp_ne 95 92 dX8_way_89 rfl rfl (fun h89 => ?_) (fun h89 => absurd h89 nn)
          refine r_iload_n (i := 3) 96 dX8_way_95 rfl rfl rfl ?_
          refine r_if_ne 104 99 dX8_way_96 rfl rfl (fun h96 => ?_) (fun h96 => ?_)
          · refine r_iload_n (i := 3) 105 dX8_way_104 rfl rfl rfl ?_
            refine r_iconst (v := 1) 106 dX8_way_105 rfl rfl ?_
            refine r_icmp_ne 116 109 dX8_way_106 rfl rfl (fun h106 => ?_) (fun h106 => ?_)
            · have hw2 : iwy what = true := (by rcases hw with z | z; (· exact absurd (isb_iwy z) (fun y => y.elim h96 h106)); (· exact z))
              refine r_aload_n (i := 0) 117 dX8_way_116 rfl rfl rfl ?_
              refine r_iload (i := 4) 119 dX8_way_117 rfl rfl ?_
              refine r_iload_n (i := 3) 120 dX8_way_119 rfl rfl rfl ?_
              refine r_bipush (v := 10) 122 dX8_way_120 rfl rfl ?_
              refine r_isub 123 dX8_way_122 rfl ?_
              refine r_callMi 126 dX8_way_123 rfl ykX8_toldWay lk_X8_256 (e2_toldWay (W := zWy W (s, p, bB (some c), bP (tA S) n (some c))) (c := c) hM hn c31 rfl (iwy_sub hw2)) rfl rfl rfl rfl rfl rfl ⟨Nat.le_refl _, Nat.le_refl _⟩ ?_
              exact r_reti dX8_way_126 rfl (by first | rfl | exact bI_nar _) ⟨Nat.le_refl _, Nat.le_refl _⟩ (fun _ => rfl) (⟨by first | rfl | (simp only [if_neg h96, if_neg h106]; done), _, rfl, relM_Wy hR _⟩)
            · rw [show what = 1 from h106]
              refine r_aload_n (i := 0) 110 dX8_way_109 rfl rfl rfl ?_
              refine r_getf 113 dX8_way_110 rfl fl_X8_242 rfl rfl ?_
              refine r_goto 126 dX8_way_113 rfl ?_
              exact r_reti dX8_way_126 rfl (by first | rfl | exact bI_nar _) ⟨Nat.le_refl _, Nat.le_refl _⟩ (fun _ => rfl) (⟨by first | rfl | (simp only [if_neg h96, if_neg h106]; done), _, rfl, relM_Wy hR _⟩)
          · rw [show what = 0 from h96]
            refine r_iload (i := 4) 101 dX8_way_99 rfl rfl ?_
            refine r_goto 126 dX8_way_101 rfl ?_
            exact r_reti dX8_way_126 rfl (by first | rfl | exact bI_nar _) ⟨Nat.le_refl _, Nat.le_refl _⟩ (fun _ => rfl) (⟨by first | rfl | (simp only [if_neg h96, if_neg h106]; done), _, rfl, relM_Wy hR _⟩)
      cases g3 : inb (nI 2) what with
      | true =>
        have m := main (Or.inl (by rw [isb_inb]; exact g3))
        refine r_aload_n (i := 0) 1 dX8_way_0 rfl rfl rfl ?_
        refine r_iload_n (i := 1) 2 dX8_way_1 rfl rfl rfl ?_
        refine r_callMi 5 dX8_way_2 rfl ykX8_isThing lk_X8_160 (e2_isThing hM (nI i)) rfl rfl rfl rfl rfl rfl ⟨Nat.le_refl _, Nat.le_refl _⟩ ?_
        rw [g]
        refine r_if_eq 42 8 dX8_way_5 rfl rfl (fun h5 => absurd h5 (by decide)) (fun h5 => ?_)
        refine r_iload_n (i := 2) 9 dX8_way_8 rfl rfl rfl ?_
        refine r_i2l 10 dX8_way_9 rfl ?_
        refine r_lconst (v := 0) 11 dX8_way_10 rfl rfl ?_
        refine r_lconst (v := 1) 12 dX8_way_11 rfl rfl ?_
        refine r_callSi [] 15 dX8_way_12 rfl ykX8_in lk_X8_46 (e_in0 (nI j) (n := 2) (by decide) (by decide)) rfl rfl rfl ⟨Nat.le_refl _, Nat.le_refl _⟩ ?_
        rw [g2]
        refine r_if_eq 42 18 dX8_way_15 rfl rfl (fun h15 => absurd h15 (by decide)) (fun h15 => ?_)
        refine r_iload_n (i := 3) 19 dX8_way_18 rfl rfl rfl ?_
        refine r_i2l 20 dX8_way_19 rfl ?_
        refine r_lconst (v := 0) 21 dX8_way_20 rfl rfl ?_
        refine r_lconst (v := 1) 22 dX8_way_21 rfl rfl ?_
        refine r_callSi [] 25 dX8_way_22 rfl ykX8_in lk_X8_46 (e_in0 what (n := 2) (by decide) (by decide)) rfl rfl rfl ⟨Nat.le_refl _, Nat.le_refl _⟩ ?_
        rw [g3]
        refine r_if_ne 44 28 dX8_way_25 rfl rfl (fun h25 => ?_) (fun h25 => absurd h25 (by decide))
        exact m
      | false =>
        cases g4 : iwy what with
        | true =>
          have m := main (Or.inr g4)
          refine r_aload_n (i := 0) 1 dX8_way_0 rfl rfl rfl ?_
          refine r_iload_n (i := 1) 2 dX8_way_1 rfl rfl rfl ?_
          refine r_callMi 5 dX8_way_2 rfl ykX8_isThing lk_X8_160 (e2_isThing hM (nI i)) rfl rfl rfl rfl rfl rfl ⟨Nat.le_refl _, Nat.le_refl _⟩ ?_
          rw [g]
          refine r_if_eq 42 8 dX8_way_5 rfl rfl (fun h5 => absurd h5 (by decide)) (fun h5 => ?_)
          refine r_iload_n (i := 2) 9 dX8_way_8 rfl rfl rfl ?_
          refine r_i2l 10 dX8_way_9 rfl ?_
          refine r_lconst (v := 0) 11 dX8_way_10 rfl rfl ?_
          refine r_lconst (v := 1) 12 dX8_way_11 rfl rfl ?_
          refine r_callSi [] 15 dX8_way_12 rfl ykX8_in lk_X8_46 (e_in0 (nI j) (n := 2) (by decide) (by decide)) rfl rfl rfl ⟨Nat.le_refl _, Nat.le_refl _⟩ ?_
          rw [g2]
          refine r_if_eq 42 18 dX8_way_15 rfl rfl (fun h15 => absurd h15 (by decide)) (fun h15 => ?_)
          refine r_iload_n (i := 3) 19 dX8_way_18 rfl rfl rfl ?_
          refine r_i2l 20 dX8_way_19 rfl ?_
          refine r_lconst (v := 0) 21 dX8_way_20 rfl rfl ?_
          refine r_lconst (v := 1) 22 dX8_way_21 rfl rfl ?_
          refine r_callSi [] 25 dX8_way_22 rfl ykX8_in lk_X8_46 (e_in0 what (n := 2) (by decide) (by decide)) rfl rfl rfl ⟨Nat.le_refl _, Nat.le_refl _⟩ ?_
          rw [g3]
          refine r_if_ne 44 28 dX8_way_25 rfl rfl (fun h25 => absurd rfl h25) (fun h25 => ?_)
          refine r_iload_n (i := 3) 29 dX8_way_28 rfl rfl rfl ?_
          refine r_i2l 30 dX8_way_29 rfl ?_
          refine r_ldc2 33 dX8_way_30 rfl k_X8_248 ?_
          refine r_ldc2 36 dX8_way_33 rfl k_X8_250 ?_
          refine r_callSi [] 39 dX8_way_36 rfl ykX8_in lk_X8_46 (e_inx (iwy_in what)) rfl rfl rfl ⟨Nat.le_refl _, Nat.le_refl _⟩ ?_
          rw [g4]
          refine r_if_ne 44 42 dX8_way_39 rfl rfl (fun h39 => ?_) (fun h39 => absurd h39 (by decide))
          exact m
        | false =>
          refine r_aload_n (i := 0) 1 dX8_way_0 rfl rfl rfl ?_
          refine r_iload_n (i := 1) 2 dX8_way_1 rfl rfl rfl ?_
          refine r_callMi 5 dX8_way_2 rfl ykX8_isThing lk_X8_160 (e2_isThing hM (nI i)) rfl rfl rfl rfl rfl rfl ⟨Nat.le_refl _, Nat.le_refl _⟩ ?_
          rw [g]
          refine r_if_eq 42 8 dX8_way_5 rfl rfl (fun h5 => absurd h5 (by decide)) (fun h5 => ?_)
          refine r_iload_n (i := 2) 9 dX8_way_8 rfl rfl rfl ?_
          refine r_i2l 10 dX8_way_9 rfl ?_
          refine r_lconst (v := 0) 11 dX8_way_10 rfl rfl ?_
          refine r_lconst (v := 1) 12 dX8_way_11 rfl rfl ?_
          refine r_callSi [] 15 dX8_way_12 rfl ykX8_in lk_X8_46 (e_in0 (nI j) (n := 2) (by decide) (by decide)) rfl rfl rfl ⟨Nat.le_refl _, Nat.le_refl _⟩ ?_
          rw [g2]
          refine r_if_eq 42 18 dX8_way_15 rfl rfl (fun h15 => absurd h15 (by decide)) (fun h15 => ?_)
          refine r_iload_n (i := 3) 19 dX8_way_18 rfl rfl rfl ?_
          refine r_i2l 20 dX8_way_19 rfl ?_
          refine r_lconst (v := 0) 21 dX8_way_20 rfl rfl ?_
          refine r_lconst (v := 1) 22 dX8_way_21 rfl rfl ?_
          refine r_callSi [] 25 dX8_way_22 rfl ykX8_in lk_X8_46 (e_in0 what (n := 2) (by decide) (by decide)) rfl rfl rfl ⟨Nat.le_refl _, Nat.le_refl _⟩ ?_
          rw [g3]
          refine r_if_ne 44 28 dX8_way_25 rfl rfl (fun h25 => absurd rfl h25) (fun h25 => ?_)
          refine r_iload_n (i := 3) 29 dX8_way_28 rfl rfl rfl ?_
          refine r_i2l 30 dX8_way_29 rfl ?_
          refine r_ldc2 33 dX8_way_30 rfl k_X8_248 ?_
          refine r_ldc2 36 dX8_way_33 rfl k_X8_250 ?_
          refine r_callSi [] 39 dX8_way_36 rfl ykX8_in lk_X8_46 (e_inx (iwy_in what)) rfl rfl rfl ⟨Nat.le_refl _, Nat.le_refl _⟩ ?_
          rw [g4]
          refine r_if_ne 44 42 dX8_way_39 rfl rfl (fun h39 => absurd rfl h39) (fun h39 => ?_)
          refine r_iconst (v := (-1)) 43 dX8_way_42 rfl rfl ?_
          exact r_reti dX8_way_43 rfl (by first | rfl | exact bI_nar _) ⟨Nat.le_refl _, Nat.le_refl _⟩ (fun _ => rfl) (⟨rfl, hC0⟩)
theorem q_peace (hT : tOk S) (hC : CM S w) (n : Int32) (what : Int32) : mm_e (d + 6) yX8_peace mX8_peace [.ref 0, .int n, .int what] w (QM (s_peace S n what) S) := by
  have hC0 := hC
  obtain ⟨W, rfl, hR⟩ := hC
  obtain ⟨hM, ⟨hx, hy⟩, ⟨ht, hb⟩, hf, ⟨v1, v2⟩, ⟨hk0, hk1⟩, hI, hH, hn⟩ := id hR
  have h6 := hM.n6
  have h4 := hM.g4
  have h5 := hM.b4
  have p6 := p2_le hM.n6
  have l0 := hM.lt31 hT.2.1
  have i18 : vp_in (18 : Int32) 148 := vp_in_nI (n := 18) (by decide) (by decide)
  have i35 : vp_in (35 : Int32) 148 := vp_in_nI (n := 35) (by decide) (by decide)
  have i36 : vp_in (36 : Int32) 148 := vp_in_nI (n := 36) (by decide) (by decide)
  have ex : W.1.1 (18 : Int32).toNatClampNeg = nI (tX S) := hx
  have ey : W.1.1 (36 : Int32).toNatClampNeg = nI (tY S) := hy
  have eb : W.1.1 (35 : Int32).toNatClampNeg = nI (sB (tA S)) := hM.bn
  refine e_of [some (.ref 0), some (.int n), some (.int what)] rfl (by decide) rfl rfl rfl ?_
  rw [s_peace]
  cases g : inb 5 n with
  | false =>
    refine r_iload_n (i := 1) 1 dX8_peace_0 rfl rfl rfl ?_
    refine r_i2l 2 dX8_peace_1 rfl ?_
    refine r_lconst (v := 0) 3 dX8_peace_2 rfl rfl ?_
    refine r_ldc2 6 dX8_peace_3 rfl k_X8_171 ?_
    refine r_callSi [] 9 dX8_peace_6 rfl ykX8_in lk_X8_46 (e_in0 n (n := 5) (by decide) (by decide)) rfl rfl rfl ⟨Nat.le_refl _, Nat.le_refl _⟩ ?_
    rw [show inb (nI 5) n = false from g]
    refine r_if_eq 30 12 dX8_peace_9 rfl rfl (fun h9 => ?_) (fun h9 => absurd rfl h9)
    refine r_iconst (v := (-1)) 31 dX8_peace_30 rfl rfl ?_
    exact r_reti dX8_peace_31 rfl (by first | rfl | exact bI_nar _) ⟨Nat.le_refl _, Nat.le_refl _⟩ (fun _ => rfl) (⟨rfl, hC0⟩)
  | true =>
    obtain ⟨j, hj, rfl⟩ := inb_nI (n := 5) (by decide) g
    rw [nI_clamp (n := j) (by omega), Bool.true_and]
    have main : (what = 0 ∨ iwy what = true) → mm_r (d + 6) mX8_peace (QM (match bst (tA S) (tX S) j none ((sG (tA S) + 1) ^ j) with | none => -4 | some c => if what = 0 then nI (prc (tA S) j c) else who (sG (tA S)) j (some c) (what - 10)) S) 32 [some (.ref 0), some (.int (nI j)), some (.int what)] [] (wM W) := by
      intro hw
      refine r_aload_n (i := 0) 33 dX8_peace_32 rfl rfl rfl ?_
      refine r_iload_n (i := 1) 34 dX8_peace_33 rfl rfl rfl ?_
      refine r_bipush (v := (-4)) 36 dX8_peace_34 rfl rfl ?_
      refine r_iconst (v := 0) 37 dX8_peace_36 rfl rfl ?_
      refine r_callMq 40 dX8_peace_37 rfl ykX8_cheapest lk_X8_252 (e2_cheapest (n := j) (G := none) hM hx hT.2.1 (by omega) rfl) rfl rfl rfl rfl rfl rfl ⟨Nat.le_refl _, Nat.le_refl _⟩ (fun v u hq => by obtain ⟨-, s, p, rfl⟩ := hq; rfl) (fun v u hq => ?_)
      obtain ⟨rfl, s2, p2, rfl⟩ := hq
      cases hb : bst (tA S) (tX S) j none ((sG (tA S) + 1) ^ j) with
      | none =>
        refine r_iload_n (i := 2) 41 dX8_peace_40 rfl rfl rfl ?_
        refine r_if_eq 56 44 dX8_peace_41 rfl rfl (fun h41 => ?_) (fun h41 => ?_)
        · refine r_aload_n (i := 0) 57 dX8_peace_56 rfl rfl rfl ?_
          refine r_getf 60 dX8_peace_57 rfl fl_X8_239 rfl rfl ?_
          refine r_bipush (v := (-4)) 62 dX8_peace_60 rfl rfl ?_
          refine r_icmp_ne 70 65 dX8_peace_62 rfl rfl (fun h62 => absurd rfl h62) (fun h62 => ?_)
          refine r_bipush (v := (-4)) 67 dX8_peace_65 rfl rfl ?_
          refine r_goto 74 dX8_peace_67 rfl ?_
          exact r_reti dX8_peace_74 rfl (by first | rfl | exact bI_nar _) ⟨Nat.le_refl _, Nat.le_refl _⟩ (fun _ => rfl) (⟨rfl, _, rfl, relM_Wy hR _⟩)
        · have hw2 : iwy what = true := (hw.resolve_left h41)
          refine r_aload_n (i := 0) 45 dX8_peace_44 rfl rfl rfl ?_
          refine r_iload_n (i := 1) 46 dX8_peace_45 rfl rfl rfl ?_
          refine r_iload_n (i := 2) 47 dX8_peace_46 rfl rfl rfl ?_
          refine r_bipush (v := 10) 49 dX8_peace_47 rfl rfl ?_
          refine r_isub 50 dX8_peace_49 rfl ?_
          refine r_callMi 53 dX8_peace_50 rfl ykX8_toldWay lk_X8_256 (e2_toldWayN (W := zWy W (s2, p2, bB none, bP (tA S) j none)) rfl _ _) rfl rfl rfl rfl rfl rfl ⟨Nat.le_refl _, Nat.le_refl _⟩ ?_
          refine r_goto 74 dX8_peace_53 rfl ?_
          exact r_reti dX8_peace_74 rfl (by first | rfl | exact bI_nar _) ⟨Nat.le_refl _, Nat.le_refl _⟩ (fun _ => rfl) (⟨rfl, _, rfl, relM_Wy hR _⟩)
      | some c =>
        have c31 : c < 2 ^ 31 := by
          have := bst_lt _ _ hb
          have := pw_le (n := j) h4 (by omega)
          omega
        have nn : ¬ nI c = -4 := fun z => nI_pos (n := c) c31 (by rw [z]; decide)
        refine r_iload_n (i := 2) 41 dX8_peace_40 rfl rfl rfl ?_
        refine r_if_eq 56 44 dX8_peace_41 rfl rfl (fun h41 => ?_) (fun h41 => ?_)
        · rw [show what = 0 from h41]
          refine r_aload_n (i := 0) 57 dX8_peace_56 rfl rfl rfl ?_
          refine r_getf 60 dX8_peace_57 rfl fl_X8_239 rfl rfl ?_
          refine r_bipush (v := (-4)) 62 dX8_peace_60 rfl rfl ?_
          refine r_icmp_ne 70 65 dX8_peace_62 rfl rfl (fun h62 => ?_) (fun h62 => absurd h62 nn)
          refine r_aload_n (i := 0) 71 dX8_peace_70 rfl rfl rfl ?_
          refine r_getf 74 dX8_peace_71 rfl fl_X8_242 rfl rfl ?_
          exact r_reti dX8_peace_74 rfl (by first | rfl | exact bI_nar _) ⟨Nat.le_refl _, Nat.le_refl _⟩ (fun _ => rfl) (⟨by first | rfl | (simp only [if_neg h41]; done), _, rfl, relM_Wy hR _⟩)
        · have hw2 : iwy what = true := (hw.resolve_left h41)
          refine r_aload_n (i := 0) 45 dX8_peace_44 rfl rfl rfl ?_
          refine r_iload_n (i := 1) 46 dX8_peace_45 rfl rfl rfl ?_
          refine r_iload_n (i := 2) 47 dX8_peace_46 rfl rfl rfl ?_
          refine r_bipush (v := 10) 49 dX8_peace_47 rfl rfl ?_
          refine r_isub 50 dX8_peace_49 rfl ?_
          refine r_callMi 53 dX8_peace_50 rfl ykX8_toldWay lk_X8_256 (e2_toldWay (W := zWy W (s2, p2, bB (some c), bP (tA S) j (some c))) (c := c) hM (by omega) c31 rfl (iwy_sub hw2)) rfl rfl rfl rfl rfl rfl ⟨Nat.le_refl _, Nat.le_refl _⟩ ?_
          refine r_goto 74 dX8_peace_53 rfl ?_
          exact r_reti dX8_peace_74 rfl (by first | rfl | exact bI_nar _) ⟨Nat.le_refl _, Nat.le_refl _⟩ (fun _ => rfl) (⟨by first | rfl | (simp only [if_neg h41]; done), _, rfl, relM_Wy hR _⟩)
    by_cases g3 : what = 0
    · have m := main (Or.inl g3)
      rw [decide_eq_true g3]
      refine r_iload_n (i := 1) 1 dX8_peace_0 rfl rfl rfl ?_
      refine r_i2l 2 dX8_peace_1 rfl ?_
      refine r_lconst (v := 0) 3 dX8_peace_2 rfl rfl ?_
      refine r_ldc2 6 dX8_peace_3 rfl k_X8_171 ?_
      refine r_callSi [] 9 dX8_peace_6 rfl ykX8_in lk_X8_46 (e_in0 (nI j) (n := 5) (by decide) (by decide)) rfl rfl rfl ⟨Nat.le_refl _, Nat.le_refl _⟩ ?_
      rw [show inb (nI 5) (nI j) = true from g]
      refine r_if_eq 30 12 dX8_peace_9 rfl rfl (fun h9 => absurd h9 (by decide)) (fun h9 => ?_)
      refine r_iload_n (i := 2) 13 dX8_peace_12 rfl rfl rfl ?_
      refine r_if_eq 32 16 dX8_peace_13 rfl rfl (fun h13 => ?_) (fun h13 => absurd g3 h13)
      exact m
    · rw [decide_eq_false g3, Bool.false_or]
      cases g4 : iwy what with
      | true =>
        have m := main (Or.inr g4)
        refine r_iload_n (i := 1) 1 dX8_peace_0 rfl rfl rfl ?_
        refine r_i2l 2 dX8_peace_1 rfl ?_
        refine r_lconst (v := 0) 3 dX8_peace_2 rfl rfl ?_
        refine r_ldc2 6 dX8_peace_3 rfl k_X8_171 ?_
        refine r_callSi [] 9 dX8_peace_6 rfl ykX8_in lk_X8_46 (e_in0 (nI j) (n := 5) (by decide) (by decide)) rfl rfl rfl ⟨Nat.le_refl _, Nat.le_refl _⟩ ?_
        rw [show inb (nI 5) (nI j) = true from g]
        refine r_if_eq 30 12 dX8_peace_9 rfl rfl (fun h9 => absurd h9 (by decide)) (fun h9 => ?_)
        refine r_iload_n (i := 2) 13 dX8_peace_12 rfl rfl rfl ?_
        refine r_if_eq 32 16 dX8_peace_13 rfl rfl (fun h13 => absurd h13 g3) (fun h13 => ?_)
        refine r_iload_n (i := 2) 17 dX8_peace_16 rfl rfl rfl ?_
        refine r_i2l 18 dX8_peace_17 rfl ?_
        refine r_ldc2 21 dX8_peace_18 rfl k_X8_248 ?_
        refine r_ldc2 24 dX8_peace_21 rfl k_X8_250 ?_
        refine r_callSi [] 27 dX8_peace_24 rfl ykX8_in lk_X8_46 (e_inx (iwy_in what)) rfl rfl rfl ⟨Nat.le_refl _, Nat.le_refl _⟩ ?_
        rw [g4]
        refine r_if_ne 32 30 dX8_peace_27 rfl rfl (fun h27 => ?_) (fun h27 => absurd h27 (by decide))
        exact m
      | false =>
        refine r_iload_n (i := 1) 1 dX8_peace_0 rfl rfl rfl ?_
        refine r_i2l 2 dX8_peace_1 rfl ?_
        refine r_lconst (v := 0) 3 dX8_peace_2 rfl rfl ?_
        refine r_ldc2 6 dX8_peace_3 rfl k_X8_171 ?_
        refine r_callSi [] 9 dX8_peace_6 rfl ykX8_in lk_X8_46 (e_in0 (nI j) (n := 5) (by decide) (by decide)) rfl rfl rfl ⟨Nat.le_refl _, Nat.le_refl _⟩ ?_
        rw [show inb (nI 5) (nI j) = true from g]
        refine r_if_eq 30 12 dX8_peace_9 rfl rfl (fun h9 => absurd h9 (by decide)) (fun h9 => ?_)
        refine r_iload_n (i := 2) 13 dX8_peace_12 rfl rfl rfl ?_
        refine r_if_eq 32 16 dX8_peace_13 rfl rfl (fun h13 => absurd h13 g3) (fun h13 => ?_)
        refine r_iload_n (i := 2) 17 dX8_peace_16 rfl rfl rfl ?_
        refine r_i2l 18 dX8_peace_17 rfl ?_
        refine r_ldc2 21 dX8_peace_18 rfl k_X8_248 ?_
        refine r_ldc2 24 dX8_peace_21 rfl k_X8_250 ?_
        refine r_callSi [] 27 dX8_peace_24 rfl ykX8_in lk_X8_46 (e_inx (iwy_in what)) rfl rfl rfl ⟨Nat.le_refl _, Nat.le_refl _⟩ ?_
        rw [g4]
        refine r_if_ne 32 30 dX8_peace_27 rfl rfl (fun h27 => absurd rfl h27) (fun h27 => ?_)
        refine r_iconst (v := (-1)) 31 dX8_peace_30 rfl rfl ?_
        exact r_reti dX8_peace_31 rfl (by first | rfl | exact bI_nar _) ⟨Nat.le_refl _, Nat.le_refl _⟩ (fun _ => rfl) (⟨rfl, hC0⟩)
end MH
