section XS
variable {d : Nat}
theorem r_mmin {M : mm_M} {scr : Option (Nat × (Nat → Int32))} {mc ms : Nat} {ah al : Bool} {Qf : Option Value → mm_W → Prop} {kc ks pc idx a b : Nat} {L : List (Option Value)} {st : List Value} {w : mm_W} (pc' : Nat) (h : decode M.2.1 pc = .ok (.invokestatic idx, 3)) (hp : pc + 3 = pc') (hl : Cond.methodLink M.1 idx yJ9_min_7cf53 ∈ mm_tb) (ha : a < 2 ^ 31) (hb : b < 2 ^ 31) (hcat : Nat.ble (st.map fun v => v.category).sum 8 = true) (hm : kc ≤ mc ∧ ks ≤ ms) (kk : mm_R (d + 1) M scr mc ms ah al Qf kc ks pc' L (.int (nI (min a b)) :: st) w) : mm_R (d + 1) M scr mc ms ah al Qf kc ks pc L (.int (nI b) :: .int (nI a) :: st) w := by
  subst hp
  intro l p e R s m args below meth c Q D ρ X aC aV A n0 hC H locs ls hR hL
  obtain ⟨hx, hb', hml, hown, hts, hini, hK, hA, hEv, hsc, ⟨hr1, hr2, hr3, hr4⟩, hret⟩ := id hC
  have k2 := kk l p e R s m args below meth c Q D ρ X aC aV A n0 hC H locs ls hR hL
  refine va_mmin hx hb' (by rw [hml]; exact hL.1.symm) hown (hts _ hl) (hts _ (mm_in 640 (by decide +kernel) rfl)) (hts _ (mm_in 71 (by decide +kernel) rfl)) (hts _ (mm_in 641 (by decide +kernel) rfl)) (by omega) (by rw [mm_catsum]; have := Nat.le_of_ble_eq_true hcat; omega) (by omega) (by omega) (x := nI a) (y := nI b) h ?_
  have e : (if nI b < nI a then nI b else nI a) = nI (min a b) := by
    split
    · rename_i q
      rw [Nat.min_eq_right (by have := blt_of hb ha q; omega)]
    · rename_i q
      rw [Nat.min_eq_left (by have := bnlt_of hb ha q; omega)]
  rw [e]
  exact k2
theorem r_mmax {M : mm_M} {scr : Option (Nat × (Nat → Int32))} {mc ms : Nat} {ah al : Bool} {Qf : Option Value → mm_W → Prop} {kc ks pc idx a b : Nat} {L : List (Option Value)} {st : List Value} {w : mm_W} (pc' : Nat) (h : decode M.2.1 pc = .ok (.invokestatic idx, 3)) (hp : pc + 3 = pc') (hl : Cond.methodLink M.1 idx yJ9_max_7cf53 ∈ mm_tb) (ha : a < 2 ^ 31) (hb : b < 2 ^ 31) (hcat : Nat.ble (st.map fun v => v.category).sum 8 = true) (hm : kc ≤ mc ∧ ks ≤ ms) (kk : mm_R (d + 1) M scr mc ms ah al Qf kc ks pc' L (.int (nI (max a b)) :: st) w) : mm_R (d + 1) M scr mc ms ah al Qf kc ks pc L (.int (nI b) :: .int (nI a) :: st) w := by
  subst hp
  intro l p e R s m args below meth c Q D ρ X aC aV A n0 hC H locs ls hR hL
  obtain ⟨hx, hb', hml, hown, hts, hini, hK, hA, hEv, hsc, ⟨hr1, hr2, hr3, hr4⟩, hret⟩ := id hC
  have k2 := kk l p e R s m args below meth c Q D ρ X aC aV A n0 hC H locs ls hR hL
  refine va_mmax hx hb' (by rw [hml]; exact hL.1.symm) hown (hts _ hl) (hts _ (mm_in 656 (by decide +kernel) rfl)) (hts _ (mm_in 71 (by decide +kernel) rfl)) (hts _ (mm_in 657 (by decide +kernel) rfl)) (by omega) (by rw [mm_catsum]; have := Nat.le_of_ble_eq_true hcat; omega) (by omega) (by omega) (x := nI a) (y := nI b) h ?_
  have e : (if nI a < nI b then nI b else nI a) = nI (max a b) := by
    split
    · rename_i q
      rw [Nat.max_eq_right (by have := blt_of ha hb q; omega)]
    · rename_i q
      rw [Nat.max_eq_left (by have := bnlt_of ha hb q; omega)]
  rw [e]
  exact k2
def bcI (x : Int32) : Int32 :=
  let a := x - ((x.toUInt32 >>> ((1 : Int32).toUInt32 &&& Int32.toUInt32 31)).toInt32 &&& 1431655765)
  let b := (a &&& 858993459) + ((a.toUInt32 >>> ((2 : Int32).toUInt32 &&& Int32.toUInt32 31)).toInt32 &&& 858993459)
  let c := (b + (b.toUInt32 >>> ((4 : Int32).toUInt32 &&& Int32.toUInt32 31)).toInt32) &&& 252645135
  let e := c + (c.toUInt32 >>> ((8 : Int32).toUInt32 &&& Int32.toUInt32 31)).toInt32
  let g := e + (e.toUInt32 >>> ((16 : Int32).toUInt32 &&& Int32.toUInt32 31)).toInt32
  g &&& 63
theorem bcI_ok : ∀ x, x < 64 → bcI (nI x) = nI (pcn x 6) := by decide +kernel
theorem e_bitCount {x : Nat} (hx : x < 64) : mm_e (d + 1) yJ6_bitCount_0f7a4 mJ6_bitCount_0f7a4 [.int (nI x)] [] (mm_q (some (.int (nI (pcn x 6)))) []) := by
  rw [← bcI_ok x hx]
  refine e_of [some (.int (nI x))] rfl (by decide) rfl rfl rfl ?_
  refine r_iload_n (i := 0) 1 dJ6_bitCount_0f7a4_0 rfl rfl rfl ?_
  refine r_iload_n (i := 0) 2 dJ6_bitCount_0f7a4_1 rfl rfl rfl ?_
  refine r_iconst (v := 1) 3 dJ6_bitCount_0f7a4_2 rfl rfl ?_
  refine r_iushr 4 dJ6_bitCount_0f7a4_3 rfl ?_
  refine r_ldcw 7 dJ6_bitCount_0f7a4_4 rfl k_J6_265 ?_
  refine r_iand 8 dJ6_bitCount_0f7a4_7 rfl ?_
  refine r_isub 9 dJ6_bitCount_0f7a4_8 rfl ?_
  refine r_istore_n (i := 0) 10 dJ6_bitCount_0f7a4_9 rfl rfl rfl ?_
  refine r_iload_n (i := 0) 11 dJ6_bitCount_0f7a4_10 rfl rfl rfl ?_
  refine r_ldcw 14 dJ6_bitCount_0f7a4_11 rfl k_J6_266 ?_
  refine r_iand 15 dJ6_bitCount_0f7a4_14 rfl ?_
  refine r_iload_n (i := 0) 16 dJ6_bitCount_0f7a4_15 rfl rfl rfl ?_
  refine r_iconst (v := 2) 17 dJ6_bitCount_0f7a4_16 rfl rfl ?_
  refine r_iushr 18 dJ6_bitCount_0f7a4_17 rfl ?_
  refine r_ldcw 21 dJ6_bitCount_0f7a4_18 rfl k_J6_266 ?_
  refine r_iand 22 dJ6_bitCount_0f7a4_21 rfl ?_
  refine r_iadd 23 dJ6_bitCount_0f7a4_22 rfl ?_
  refine r_istore_n (i := 0) 24 dJ6_bitCount_0f7a4_23 rfl rfl rfl ?_
  refine r_iload_n (i := 0) 25 dJ6_bitCount_0f7a4_24 rfl rfl rfl ?_
  refine r_iload_n (i := 0) 26 dJ6_bitCount_0f7a4_25 rfl rfl rfl ?_
  refine r_iconst (v := 4) 27 dJ6_bitCount_0f7a4_26 rfl rfl ?_
  refine r_iushr 28 dJ6_bitCount_0f7a4_27 rfl ?_
  refine r_iadd 29 dJ6_bitCount_0f7a4_28 rfl ?_
  refine r_ldcw 32 dJ6_bitCount_0f7a4_29 rfl k_J6_267 ?_
  refine r_iand 33 dJ6_bitCount_0f7a4_32 rfl ?_
  refine r_istore_n (i := 0) 34 dJ6_bitCount_0f7a4_33 rfl rfl rfl ?_
  refine r_iload_n (i := 0) 35 dJ6_bitCount_0f7a4_34 rfl rfl rfl ?_
  refine r_iload_n (i := 0) 36 dJ6_bitCount_0f7a4_35 rfl rfl rfl ?_
  refine r_bipush (v := 8) 38 dJ6_bitCount_0f7a4_36 rfl rfl ?_
  refine r_iushr 39 dJ6_bitCount_0f7a4_38 rfl ?_
  refine r_iadd 40 dJ6_bitCount_0f7a4_39 rfl ?_
  refine r_istore_n (i := 0) 41 dJ6_bitCount_0f7a4_40 rfl rfl rfl ?_
  refine r_iload_n (i := 0) 42 dJ6_bitCount_0f7a4_41 rfl rfl rfl ?_
  refine r_iload_n (i := 0) 43 dJ6_bitCount_0f7a4_42 rfl rfl rfl ?_
  refine r_bipush (v := 16) 45 dJ6_bitCount_0f7a4_43 rfl rfl ?_
  refine r_iushr 46 dJ6_bitCount_0f7a4_45 rfl ?_
  refine r_iadd 47 dJ6_bitCount_0f7a4_46 rfl ?_
  refine r_istore_n (i := 0) 48 dJ6_bitCount_0f7a4_47 rfl rfl rfl ?_
  refine r_iload_n (i := 0) 49 dJ6_bitCount_0f7a4_48 rfl rfl rfl ?_
  refine r_bipush (v := 63) 51 dJ6_bitCount_0f7a4_49 rfl rfl ?_
  refine r_iand 52 dJ6_bitCount_0f7a4_51 rfl ?_
  exact r_reti dJ6_bitCount_0f7a4_52 rfl (by first | rfl | exact bI_nar _) ⟨Nat.le_refl _, Nat.le_refl _⟩ (fun _ => rfl) (⟨rfl, rfl⟩)
theorem l_power {b t : Nat} (hb : b < 2 ^ 31) (ht : t < 2 ^ 31) : ∀ (k i : Nat), t - i = k → i ≤ t → mm_r (d + 1) mX7_power (mm_q (some (.long (lN (b ^ t)))) []) 5 [some (.int (nI b)), some (.int (nI t)), some (.long (lN (b ^ i))), none, some (.int (nI i))] [] [] := by
  intro k
  induction k with
  | zero =>
    intro i hk hi
    have e : i = t := by omega
    refine r_iload (i := 4) 7 dX7_power_5 rfl rfl ?_
    refine r_iload_n (i := 1) 8 dX7_power_7 rfl rfl rfl ?_
    refine r_icmp_ge 22 11 dX7_power_8 rfl rfl (fun h8 => ?_) (fun h8 => absurd (by rw [e]; exact Int32.le_refl _) h8)
    refine r_lload_n (i := 2) 23 dX7_power_22 rfl rfl rfl ?_
    exact r_retl dX7_power_23 rfl ⟨Nat.le_refl _, Nat.le_refl _⟩ (fun _ => rfl) (⟨by rw [e], rfl⟩)
  | succ k ih =>
    intro i hk hi
    refine r_iload (i := 4) 7 dX7_power_5 rfl rfl ?_
    refine r_iload_n (i := 1) 8 dX7_power_7 rfl rfl rfl ?_
    refine r_icmp_ge 22 11 dX7_power_8 rfl rfl (fun h8 => absurd (ble_of ht (by omega) h8) (by omega)) (fun h8 => ?_)
    refine r_lload_n (i := 2) 12 dX7_power_11 rfl rfl rfl ?_
    refine r_iload_n (i := 0) 13 dX7_power_12 rfl rfl rfl ?_
    refine r_i2l 14 dX7_power_13 rfl ?_
    rw [nI_l hb]
    refine r_lmul 15 dX7_power_14 rfl ?_
    rw [lN_mul, ← Nat.pow_succ]
    refine r_lstore_n (i := 2) 16 dX7_power_15 rfl rfl rfl ?_
    refine r_iinc (i := 4) 19 dX7_power_16 rfl rfl (by first | exact nI_1 _ | rfl) rfl ?_
    refine r_goto 5 dX7_power_19 rfl ?_
    exact ih (i + 1) (by omega) (by omega)
theorem e_power {b t : Nat} (hb : b < 2 ^ 31) (ht : t < 2 ^ 31) : mm_e (d + 1) yX7_power mX7_power [.int (nI b), .int (nI t)] [] (mm_q (some (.long (lN (b ^ t)))) []) := by
  refine e_of [some (.int (nI b)), some (.int (nI t)), none, none, none] rfl (by decide) rfl rfl rfl ?_
  refine r_lconst (v := 1) 1 dX7_power_0 rfl rfl ?_
  refine r_lstore_n (i := 2) 2 dX7_power_1 rfl rfl rfl ?_
  refine r_iconst (v := 0) 3 dX7_power_2 rfl rfl ?_
  refine r_istore (i := 4) 5 dX7_power_3 rfl rfl ?_
  exact l_power hb ht _ 0 rfl (Nat.zero_le _)
theorem lcmp0 {b : Nat} (hb : b < 2 ^ 63) : lg_cmp (lN b) 0 = 0 ↔ b = 0 := by
  unfold lg_cmp
  have h0 : (0 : Int64) = lN 0 := rfl
  rw [h0]
  constructor
  · intro h
    split at h
    · exact absurd h (by decide)
    · split at h
      · rename_i q
        exact (pk_lEQ hb (by decide)).mp q
      · exact absurd h (by decide)
  · intro h
    subst h
    rfl
theorem eu_half {a b : Nat} (h : b ≤ a) (hb : 0 < b) : 2 * (b * (a % b)) ≤ a * b := by
  have h1 : a % b < b := Nat.mod_lt a hb
  have h2 : b * (a / b) + a % b = a := Nat.div_add_mod a b
  have h3 : 1 ≤ a / b := (Nat.one_le_div_iff hb).mpr h
  have h4 : b * 1 ≤ b * (a / b) := Nat.mul_le_mul_left b h3
  have h5 : 2 * (a % b) ≤ a := by omega
  calc 2 * (b * (a % b)) = (2 * (a % b)) * b := by rw [Nat.mul_comm b (a % b), Nat.mul_assoc]
    _ ≤ a * b := Nat.mul_le_mul_right b h5
theorem l_cd {x y : Nat} (hx : x < 2 ^ 62) (hy : y < 2 ^ 62) : ∀ (k i a b : Nat) (o : Option Value), k + i = 100 → b ≤ a → a < 2 ^ 62 → a * b < 2 ^ k → Nat.gcd a b = Nat.gcd x y → mm_r (d + 1) mX7_commonDivisor (mm_q (some (.long (lN (Nat.gcd x y)))) []) 9 [some (.long (lN x)), none, some (.long (lN y)), none, some (.long (lN a)), none, some (.long (lN b)), none, some (.int (nI i)), o, none] [] [] := by
  intro k
  induction k with
  | zero =>
    intro i a b o hk hab ha hm hg
    have hb : b = 0 := by
      rcases Nat.eq_zero_or_pos b with q | q
      · exact q
      · have := Nat.mul_le_mul hab (Nat.le_refl b); have h2 : 1 * 1 ≤ b * b := Nat.mul_le_mul q q; omega
    subst hb
    refine r_iload (i := 8) 11 dX7_commonDivisor_9 rfl rfl ?_
    refine r_bipush (v := 100) 13 dX7_commonDivisor_11 rfl rfl ?_
    refine r_icmp_ge 44 16 dX7_commonDivisor_13 rfl rfl (fun h13 => ?_) (fun h13 => absurd (show (100 : Int32) ≤ nI i from nI_le (a := 100) (b := i) (by omega) (by omega)) h13)
    refine r_lload (i := 4) 46 dX7_commonDivisor_44 rfl rfl ?_
    exact r_retl dX7_commonDivisor_46 rfl ⟨Nat.le_refl _, Nat.le_refl _⟩ (fun _ => rfl) (⟨by rw [← hg, Nat.gcd_zero_right], rfl⟩)
  | succ k ih =>
    intro i a b o hk hab ha hm hg
    refine r_iload (i := 8) 11 dX7_commonDivisor_9 rfl rfl ?_
    refine r_bipush (v := 100) 13 dX7_commonDivisor_11 rfl rfl ?_
    refine r_icmp_ge 44 16 dX7_commonDivisor_13 rfl rfl (fun h13 => absurd (ble_of (a := 100) (b := i) (by decide) (by omega) h13) (by omega)) (fun h13 => ?_)
    refine r_lload (i := 6) 18 dX7_commonDivisor_16 rfl rfl ?_
    refine r_lconst (v := 0) 19 dX7_commonDivisor_18 rfl rfl ?_
    refine r_lcmp 20 dX7_commonDivisor_19 rfl ?_
    refine r_if_eq 44 23 dX7_commonDivisor_20 rfl rfl (fun h20 => ?_) (fun h20 => ?_)
    · have g := (lcmp0 (by omega)).mp h20
      refine r_lload (i := 4) 46 dX7_commonDivisor_44 rfl rfl ?_
      exact r_retl dX7_commonDivisor_46 rfl ⟨Nat.le_refl _, Nat.le_refl _⟩ (fun _ => rfl) (⟨by rw [← hg, g, Nat.gcd_zero_right], rfl⟩)
    · have g := mt (lcmp0 (b := b) (by omega)).mpr h20
      have gp : 0 < b := by omega
      have hml := Nat.mod_lt a gp
      refine r_lload (i := 4) 25 dX7_commonDivisor_23 rfl rfl ?_
      refine r_lload (i := 6) 27 dX7_commonDivisor_25 rfl rfl ?_
      refine r_lrem 28 dX7_commonDivisor_27 rfl (fun z => g ((pk_lEQ (by omega) (by decide)).mp (show lN b = lN 0 from z))) ?_
      rw [pk_lRem (by omega) gp (by omega)]
      refine r_lstore (i := 9) 30 dX7_commonDivisor_28 rfl rfl ?_
      refine r_lload (i := 6) 32 dX7_commonDivisor_30 rfl rfl ?_
      refine r_lstore (i := 4) 34 dX7_commonDivisor_32 rfl rfl ?_
      refine r_lload (i := 9) 36 dX7_commonDivisor_34 rfl rfl ?_
      refine r_lstore (i := 6) 38 dX7_commonDivisor_36 rfl rfl ?_
      refine r_iinc (i := 8) 41 dX7_commonDivisor_38 rfl rfl (by first | exact nI_1 _ | rfl) rfl ?_
      refine r_goto 9 dX7_commonDivisor_41 rfl ?_
      refine r_eq (ih (i + 1) b (a % b) (some (.long (lN (a % b)))) (by omega) (by omega) (by omega) ?_ (by rw [← hg, Nat.gcd_comm a b, Nat.gcd_rec b a]; exact Nat.gcd_comm _ _)) rfl rfl rfl
      have := eu_half hab gp
      have : 2 ^ (k + 1) = 2 * 2 ^ k := by rw [Nat.pow_succ, Nat.mul_comm]
      omega
theorem e_commonDivisor {x y : Nat} (hx : x < 2 ^ 40) (hy : y < 2 ^ 40) : mm_e (d + 1) yX7_commonDivisor mX7_commonDivisor [.long (lN x), .long (lN y)] [] (mm_q (some (.long (lN (Nat.gcd x y)))) []) := by
  have hm : ∀ a b : Nat, a < 2 ^ 40 → b < 2 ^ 40 → a * b < 2 ^ 99 := fun a b ha hb => by
    have : a * b ≤ 2 ^ 40 * 2 ^ 40 := Nat.mul_le_mul (by omega) (by omega)
    have h2 : (2 : Nat) ^ 40 * 2 ^ 40 < 2 ^ 99 := by decide
    omega
  refine e_of [some (.long (lN x)), none, some (.long (lN y)), none, none, none, none, none, none, none, none] rfl (by decide) rfl rfl rfl ?_
  rcases Nat.lt_or_ge x y with q | q
  · refine r_lload_n (i := 0) 1 dX7_commonDivisor_0 rfl rfl rfl ?_
    refine r_lstore (i := 4) 3 dX7_commonDivisor_1 rfl rfl ?_
    refine r_lload_n (i := 2) 4 dX7_commonDivisor_3 rfl rfl rfl ?_
    refine r_lstore (i := 6) 6 dX7_commonDivisor_4 rfl rfl ?_
    refine r_iconst (v := 0) 7 dX7_commonDivisor_6 rfl rfl ?_
    refine r_istore (i := 8) 9 dX7_commonDivisor_7 rfl rfl ?_
    skip
    have hy0 : 0 < y := by omega
    refine r_iload (i := 8) 11 dX7_commonDivisor_9 rfl rfl ?_
    refine r_bipush (v := 100) 13 dX7_commonDivisor_11 rfl rfl ?_
    refine r_icmp_ge 44 16 dX7_commonDivisor_13 rfl rfl (fun h13 => absurd h13 (by decide)) (fun h13 => ?_)
    refine r_lload (i := 6) 18 dX7_commonDivisor_16 rfl rfl ?_
    refine r_lconst (v := 0) 19 dX7_commonDivisor_18 rfl rfl ?_
    refine r_lcmp 20 dX7_commonDivisor_19 rfl ?_
    refine r_if_eq 44 23 dX7_commonDivisor_20 rfl rfl (fun h20 => absurd ((lcmp0 (by omega)).mp h20) (by omega)) (fun h20 => ?_)
    refine r_lload (i := 4) 25 dX7_commonDivisor_23 rfl rfl ?_
    refine r_lload (i := 6) 27 dX7_commonDivisor_25 rfl rfl ?_
    refine r_lrem 28 dX7_commonDivisor_27 rfl (fun z => absurd ((pk_lEQ (by omega) (by decide)).mp (show lN y = lN 0 from z)) (by omega)) ?_
    rw [pk_lRem (by omega) hy0 (by omega), Nat.mod_eq_of_lt q]
    refine r_lstore (i := 9) 30 dX7_commonDivisor_28 rfl rfl ?_
    refine r_lload (i := 6) 32 dX7_commonDivisor_30 rfl rfl ?_
    refine r_lstore (i := 4) 34 dX7_commonDivisor_32 rfl rfl ?_
    refine r_lload (i := 9) 36 dX7_commonDivisor_34 rfl rfl ?_
    refine r_lstore (i := 6) 38 dX7_commonDivisor_36 rfl rfl ?_
    refine r_iinc (i := 8) 41 dX7_commonDivisor_38 rfl rfl (by first | exact nI_1 _ | rfl) rfl ?_
    refine r_goto 9 dX7_commonDivisor_41 rfl ?_
    refine r_eq (l_cd (by omega) (by omega) 99 1 y x (some (.long (lN x))) rfl (by omega) (by omega) (hm y x hy hx) (Nat.gcd_comm _ _)) rfl rfl rfl
  · refine r_lload_n (i := 0) 1 dX7_commonDivisor_0 rfl rfl rfl ?_
    refine r_lstore (i := 4) 3 dX7_commonDivisor_1 rfl rfl ?_
    refine r_lload_n (i := 2) 4 dX7_commonDivisor_3 rfl rfl rfl ?_
    refine r_lstore (i := 6) 6 dX7_commonDivisor_4 rfl rfl ?_
    refine r_iconst (v := 0) 7 dX7_commonDivisor_6 rfl rfl ?_
    refine r_istore (i := 8) 9 dX7_commonDivisor_7 rfl rfl ?_
    refine r_eq (l_cd (by omega) (by omega) 100 0 x y none rfl q (by omega) (Nat.lt_trans (hm x y hx hy) (by decide)) rfl) rfl rfl rfl
end XS
section X5
variable {d : Nat}
def wTa (m l a s : Int32) : mm_W := [.inr (5, [.int m, .int l, .int a, .int s])]
theorem e_taClear (m l a s : Int32) : mm_e (d + 1) yX5_clear mX5_clear [.ref 0] (wTa m l a s) (mm_q none (wTa 0 0 63 0)) := by
  refine e_of [some (.ref 0)] rfl (by decide) rfl rfl rfl ?_
  refine r_aload_n (i := 0) 1 dX5_clear_0 rfl rfl rfl ?_
  refine r_iconst (v := 0) 2 dX5_clear_1 rfl rfl ?_
  refine r_putf 5 dX5_clear_2 rfl fl_X5_9 rfl rfl (fun _ _ => ⟨rfl, rfl⟩) (fun z => absurd z Bool.false_ne_true) ?_
  refine r_aload_n (i := 0) 6 dX5_clear_5 rfl rfl rfl ?_
  refine r_iconst (v := 0) 7 dX5_clear_6 rfl rfl ?_
  refine r_putf 10 dX5_clear_7 rfl fl_X5_15 rfl rfl (fun _ _ => ⟨rfl, rfl⟩) (fun z => absurd z Bool.false_ne_true) ?_
  refine r_aload_n (i := 0) 11 dX5_clear_10 rfl rfl rfl ?_
  refine r_bipush (v := 63) 13 dX5_clear_11 rfl rfl ?_
  refine r_putf 16 dX5_clear_13 rfl fl_X5_18 rfl rfl (fun _ _ => ⟨rfl, rfl⟩) (fun z => absurd z Bool.false_ne_true) ?_
  refine r_aload_n (i := 0) 17 dX5_clear_16 rfl rfl rfl ?_
  refine r_iconst (v := 0) 18 dX5_clear_17 rfl rfl ?_
  refine r_putf 21 dX5_clear_18 rfl fl_X5_21 rfl rfl (fun _ _ => ⟨rfl, rfl⟩) (fun z => absurd z Bool.false_ne_true) ?_
  exact r_retv dX5_clear_21 rfl ⟨Nat.le_refl _, Nat.le_refl _⟩ (fun _ => rfl) (⟨rfl, rfl⟩)
theorem e_take {m l a s x : Nat} (hm : m < 2 ^ 30) (hl : l < 2 ^ 31) (hx : x < 2 ^ 31) : mm_e (d + 2) yX5_take mX5_take [.ref 0, .int (nI x)] (wTa (nI m) (nI l) (nI a) (nI s)) (mm_q none (wTa (nI (m + 1)) (nI (if m = 0 then x else min l x)) (nI (a &&& x)) (nI (s ||| x)))) := by
  refine e_of [some (.ref 0), some (.int (nI x))] rfl (by decide) rfl rfl rfl ?_
  refine r_aload_n (i := 0) 1 dX5_take_0 rfl rfl rfl ?_
  refine r_aload_n (i := 0) 2 dX5_take_1 rfl rfl rfl ?_
  refine r_getf 5 dX5_take_2 rfl fl_X5_9 rfl rfl ?_
  refine r_if_ne 12 8 dX5_take_5 rfl rfl (fun h5 => ?_) (fun h5 => ?_)
  · have g := bne_of (b := 0) (by omega) (by decide) h5
    refine r_aload_n (i := 0) 13 dX5_take_12 rfl rfl rfl ?_
    refine r_getf 16 dX5_take_13 rfl fl_X5_15 rfl rfl ?_
    refine r_iload_n (i := 1) 17 dX5_take_16 rfl rfl rfl ?_
    refine r_mmin 20 dX5_take_17 rfl (mm_in 639 (by decide +kernel) rfl) hl hx rfl ⟨Nat.le_refl _, Nat.le_refl _⟩ ?_
    refine r_putf 23 dX5_take_20 rfl fl_X5_15 rfl rfl (fun _ _ => ⟨rfl, rfl⟩) (fun z => absurd z Bool.false_ne_true) ?_
    refine r_aload_n (i := 0) 24 dX5_take_23 rfl rfl rfl ?_
    refine r_dup 25 dX5_take_24 rfl rfl ?_
    refine r_getf 28 dX5_take_25 rfl fl_X5_18 rfl rfl ?_
    refine r_iload_n (i := 1) 29 dX5_take_28 rfl rfl rfl ?_
    refine r_iand 30 dX5_take_29 rfl ?_
    rw [fa_and]
    refine r_putf 33 dX5_take_30 rfl fl_X5_18 rfl rfl (fun _ _ => ⟨rfl, rfl⟩) (fun z => absurd z Bool.false_ne_true) ?_
    refine r_aload_n (i := 0) 34 dX5_take_33 rfl rfl rfl ?_
    refine r_dup 35 dX5_take_34 rfl rfl ?_
    refine r_getf 38 dX5_take_35 rfl fl_X5_21 rfl rfl ?_
    refine r_iload_n (i := 1) 39 dX5_take_38 rfl rfl rfl ?_
    refine r_ior 40 dX5_take_39 rfl ?_
    rw [fa_or]
    refine r_putf 43 dX5_take_40 rfl fl_X5_21 rfl rfl (fun _ _ => ⟨rfl, rfl⟩) (fun z => absurd z Bool.false_ne_true) ?_
    refine r_aload_n (i := 0) 44 dX5_take_43 rfl rfl rfl ?_
    refine r_dup 45 dX5_take_44 rfl rfl ?_
    refine r_getf 48 dX5_take_45 rfl fl_X5_9 rfl rfl ?_
    refine r_iconst (v := 1) 49 dX5_take_48 rfl rfl ?_
    refine r_iadd 50 dX5_take_49 rfl ?_
    rw [nI_1]
    refine r_putf 53 dX5_take_50 rfl fl_X5_9 rfl rfl (fun _ _ => ⟨rfl, rfl⟩) (fun z => absurd z Bool.false_ne_true) ?_
    exact r_retv dX5_take_53 rfl ⟨Nat.le_refl _, Nat.le_refl _⟩ (fun _ => rfl) (⟨rfl, by first | rw [if_pos g]; rfl | rw [if_neg g]; rfl⟩)
  · have g := beq_of (b := 0) (by omega) (by decide) h5
    refine r_iload_n (i := 1) 9 dX5_take_8 rfl rfl rfl ?_
    refine r_goto 20 dX5_take_9 rfl ?_
    refine r_putf 23 dX5_take_20 rfl fl_X5_15 rfl rfl (fun _ _ => ⟨rfl, rfl⟩) (fun z => absurd z Bool.false_ne_true) ?_
    refine r_aload_n (i := 0) 24 dX5_take_23 rfl rfl rfl ?_
    refine r_dup 25 dX5_take_24 rfl rfl ?_
    refine r_getf 28 dX5_take_25 rfl fl_X5_18 rfl rfl ?_
    refine r_iload_n (i := 1) 29 dX5_take_28 rfl rfl rfl ?_
    refine r_iand 30 dX5_take_29 rfl ?_
    rw [fa_and]
    refine r_putf 33 dX5_take_30 rfl fl_X5_18 rfl rfl (fun _ _ => ⟨rfl, rfl⟩) (fun z => absurd z Bool.false_ne_true) ?_
    refine r_aload_n (i := 0) 34 dX5_take_33 rfl rfl rfl ?_
    refine r_dup 35 dX5_take_34 rfl rfl ?_
    refine r_getf 38 dX5_take_35 rfl fl_X5_21 rfl rfl ?_
    refine r_iload_n (i := 1) 39 dX5_take_38 rfl rfl rfl ?_
    refine r_ior 40 dX5_take_39 rfl ?_
    rw [fa_or]
    refine r_putf 43 dX5_take_40 rfl fl_X5_21 rfl rfl (fun _ _ => ⟨rfl, rfl⟩) (fun z => absurd z Bool.false_ne_true) ?_
    refine r_aload_n (i := 0) 44 dX5_take_43 rfl rfl rfl ?_
    refine r_dup 45 dX5_take_44 rfl rfl ?_
    refine r_getf 48 dX5_take_45 rfl fl_X5_9 rfl rfl ?_
    refine r_iconst (v := 1) 49 dX5_take_48 rfl rfl ?_
    refine r_iadd 50 dX5_take_49 rfl ?_
    rw [nI_1]
    refine r_putf 53 dX5_take_50 rfl fl_X5_9 rfl rfl (fun _ _ => ⟨rfl, rfl⟩) (fun z => absurd z Bool.false_ne_true) ?_
    exact r_retv dX5_take_53 rfl ⟨Nat.le_refl _, Nat.le_refl _⟩ (fun _ => rfl) (⟨rfl, by first | rw [if_pos g]; rfl | rw [if_neg g]; rfl⟩)
def tans (m l a s : Int32) (what : Int32) : Int32 := if what = 0 then m else if m = 0 then -4 else if what = 1 then l else if what = 2 then a else s
theorem e_answer (m l a s what : Int32) : mm_e (d + 1) yX5_answer mX5_answer [.ref 0, .int what] (wTa m l a s) (mm_q (some (.int (tans m l a s what))) (wTa m l a s)) := by
  refine e_of [some (.ref 0), some (.int what)] rfl (by decide) rfl rfl rfl ?_
  refine r_iload_n (i := 1) 1 dX5_answer_0 rfl rfl rfl ?_
  refine r_if_ne 9 4 dX5_answer_1 rfl rfl (fun h1 => ?_) (fun h1 => ?_)
  · refine r_aload_n (i := 0) 10 dX5_answer_9 rfl rfl rfl ?_
    refine r_getf 13 dX5_answer_10 rfl fl_X5_9 rfl rfl ?_
    refine r_if_ne 19 16 dX5_answer_13 rfl rfl (fun h13 => ?_) (fun h13 => ?_)
    · refine r_iload_n (i := 1) 20 dX5_answer_19 rfl rfl rfl ?_
      refine r_iconst (v := 1) 21 dX5_answer_20 rfl rfl ?_
      refine r_icmp_ne 29 24 dX5_answer_21 rfl rfl (fun h21 => ?_) (fun h21 => ?_)
      · refine r_iload_n (i := 1) 30 dX5_answer_29 rfl rfl rfl ?_
        refine r_iconst (v := 2) 31 dX5_answer_30 rfl rfl ?_
        refine r_icmp_ne 41 34 dX5_answer_31 rfl rfl (fun h31 => ?_) (fun h31 => ?_)
        · refine r_aload_n (i := 0) 42 dX5_answer_41 rfl rfl rfl ?_
          refine r_getf 45 dX5_answer_42 rfl fl_X5_21 rfl rfl ?_
          exact r_reti dX5_answer_45 rfl (by first | rfl | exact bI_nar _) ⟨Nat.le_refl _, Nat.le_refl _⟩ (fun _ => rfl) (⟨by simp_all [tans], rfl⟩)
        · refine r_aload_n (i := 0) 35 dX5_answer_34 rfl rfl rfl ?_
          refine r_getf 38 dX5_answer_35 rfl fl_X5_18 rfl rfl ?_
          refine r_goto 45 dX5_answer_38 rfl ?_
          exact r_reti dX5_answer_45 rfl (by first | rfl | exact bI_nar _) ⟨Nat.le_refl _, Nat.le_refl _⟩ (fun _ => rfl) (⟨by simp_all [tans], rfl⟩)
      · refine r_aload_n (i := 0) 25 dX5_answer_24 rfl rfl rfl ?_
        refine r_getf 28 dX5_answer_25 rfl fl_X5_15 rfl rfl ?_
        exact r_reti dX5_answer_28 rfl (by first | rfl | exact bI_nar _) ⟨Nat.le_refl _, Nat.le_refl _⟩ (fun _ => rfl) (⟨by simp_all [tans], rfl⟩)
    · refine r_bipush (v := (-4)) 18 dX5_answer_16 rfl rfl ?_
      exact r_reti dX5_answer_18 rfl (by first | rfl | exact bI_nar _) ⟨Nat.le_refl _, Nat.le_refl _⟩ (fun _ => rfl) (⟨by simp_all [tans], rfl⟩)
  · refine r_aload_n (i := 0) 5 dX5_answer_4 rfl rfl rfl ?_
    refine r_getf 8 dX5_answer_5 rfl fl_X5_9 rfl rfl ?_
    exact r_reti dX5_answer_8 rfl (by first | rfl | exact bI_nar _) ⟨Nat.le_refl _, Nat.le_refl _⟩ (fun _ => rfl) (⟨by simp_all [tans], rfl⟩)
end X5
section X3
variable {d : Nat}
def wSh (l n : Int32) (c : Nat → Int32) : mm_W := [.inr (3, [.int l, .int n, .ref 1]), .inl (0, (40, .inl c))]
theorem l_renew (l n : Int32) (c : Nat → Int32) (l0 n0 : Int32) : ∀ (k i : Nat), 40 - i = k → i ≤ 40 → mm_r (d + 1) mX3_renew (mm_q none (wSh l n (fa_fill (fun _ => 0) c 40))) 12 [some (.ref 0), some (.int l0), some (.int n0), some (.int (nI i))] [] (wSh l n (fa_fill (fun _ => 0) c i)) := by
  intro k
  induction k with
  | zero =>
    intro i hk hi
    have e : i = 40 := by omega
    subst e
    refine r_iload_n (i := 3) 13 dX3_renew_12 rfl rfl rfl ?_
    refine r_bipush (v := 40) 15 dX3_renew_13 rfl rfl ?_
    refine r_icmp_ge 31 18 dX3_renew_15 rfl rfl (fun h15 => ?_) (fun h15 => absurd (show (40 : Int32) ≤ nI 40 from by decide) h15)
    exact r_retv dX3_renew_31 rfl ⟨Nat.le_refl _, Nat.le_refl _⟩ (fun _ => rfl) (⟨rfl, rfl⟩)
  | succ k ih =>
    intro i hk hi
    have hin : vp_in (nI i) 40 := vp_in_nI (by omega) (by decide)
    refine r_iload_n (i := 3) 13 dX3_renew_12 rfl rfl rfl ?_
    refine r_bipush (v := 40) 15 dX3_renew_13 rfl rfl ?_
    refine r_icmp_ge 31 18 dX3_renew_15 rfl rfl (fun h15 => absurd (ble_of (a := 40) (b := i) (by decide) (by omega) h15) (by omega)) (fun h15 => ?_)
    refine r_aload_n (i := 0) 19 dX3_renew_18 rfl rfl rfl ?_
    refine r_getf 22 dX3_renew_19 rfl fl_X3_15 rfl rfl ?_
    refine r_iload_n (i := 3) 23 dX3_renew_22 rfl rfl rfl ?_
    refine r_iconst (v := 0) 24 dX3_renew_23 rfl rfl ?_
    refine r_iast 25 dX3_renew_24 rfl rfl (by assumption) ?_
    refine r_iinc (i := 3) 28 dX3_renew_25 rfl rfl (by first | exact nI_1 _ | rfl) rfl ?_
    refine r_goto 12 dX3_renew_28 rfl ?_
    refine r_eq (ih (i + 1) (by omega) (by omega)) rfl rfl ?_
    rw [nI_clamp (by omega), ← fa_fill_succ]
    rfl
theorem e_renew (l n l0 n0 : Int32) (c : Nat → Int32) : mm_e (d + 1) yX3_renew mX3_renew [.ref 0, .int l, .int n] (wSh l0 n0 c) (mm_q none (wSh l n (fa_fill (fun _ => 0) c 40))) := by
  refine e_of [some (.ref 0), some (.int l), some (.int n), none] rfl (by decide) rfl rfl rfl ?_
  refine r_aload_n (i := 0) 1 dX3_renew_0 rfl rfl rfl ?_
  refine r_iload_n (i := 1) 2 dX3_renew_1 rfl rfl rfl ?_
  refine r_putf 5 dX3_renew_2 rfl fl_X3_9 rfl rfl (fun _ _ => ⟨rfl, rfl⟩) (fun z => absurd z Bool.false_ne_true) ?_
  refine r_aload_n (i := 0) 6 dX3_renew_5 rfl rfl rfl ?_
  refine r_iload_n (i := 2) 7 dX3_renew_6 rfl rfl rfl ?_
  refine r_putf 10 dX3_renew_7 rfl fl_X3_19 rfl rfl (fun _ _ => ⟨rfl, rfl⟩) (fun z => absurd z Bool.false_ne_true) ?_
  refine r_iconst (v := 0) 11 dX3_renew_10 rfl rfl ?_
  refine r_istore_n (i := 3) 12 dX3_renew_11 rfl rfl rfl ?_
  refine r_eq (l_renew l n c l n _ 0 rfl (Nat.zero_le _)) rfl rfl ?_
  rw [fa_fill_0]
  rfl
def rfs (l n as i : Int32) : Int32 := if l = -1 then 1 else if ¬ l = as then 3 else if i < 0 ∨ ¬ i < n then 2 else 0
theorem e_refusal (l n as i : Int32) (c : Nat → Int32) : mm_e (d + 1) yX3_refusal mX3_refusal [.ref 0, .int as, .int i] (wSh l n c) (mm_q (some (.int (rfs l n as i))) (wSh l n c)) := by
  refine e_of [some (.ref 0), some (.int as), some (.int i)] rfl (by decide) rfl rfl rfl ?_
  refine r_aload_n (i := 0) 1 dX3_refusal_0 rfl rfl rfl ?_
  refine r_getf 4 dX3_refusal_1 rfl fl_X3_9 rfl rfl ?_
  refine r_iconst (v := (-1)) 5 dX3_refusal_4 rfl rfl ?_
  refine r_icmp_ne 10 8 dX3_refusal_5 rfl rfl (fun h5 => ?_) (fun h5 => ?_)
  · refine r_aload_n (i := 0) 11 dX3_refusal_10 rfl rfl rfl ?_
    refine r_getf 14 dX3_refusal_11 rfl fl_X3_9 rfl rfl ?_
    refine r_iload_n (i := 1) 15 dX3_refusal_14 rfl rfl rfl ?_
    refine r_icmp_eq 20 18 dX3_refusal_15 rfl rfl (fun h15 => ?_) (fun h15 => ?_)
    · refine r_iload_n (i := 2) 21 dX3_refusal_20 rfl rfl rfl ?_
      refine r_if_lt 32 24 dX3_refusal_21 rfl rfl (fun h21 => ?_) (fun h21 => ?_)
      · refine r_iconst (v := 2) 33 dX3_refusal_32 rfl rfl ?_
        refine r_goto 37 dX3_refusal_33 rfl ?_
        exact r_reti dX3_refusal_37 rfl (by first | rfl | exact bI_nar _) ⟨Nat.le_refl _, Nat.le_refl _⟩ (fun _ => rfl) (⟨by simp_all [rfs], rfl⟩)
      · refine r_iload_n (i := 2) 25 dX3_refusal_24 rfl rfl rfl ?_
        refine r_aload_n (i := 0) 26 dX3_refusal_25 rfl rfl rfl ?_
        refine r_getf 29 dX3_refusal_26 rfl fl_X3_19 rfl rfl ?_
        refine r_icmp_lt 36 32 dX3_refusal_29 rfl rfl (fun h29 => ?_) (fun h29 => ?_)
        · refine r_iconst (v := 0) 37 dX3_refusal_36 rfl rfl ?_
          exact r_reti dX3_refusal_37 rfl (by first | rfl | exact bI_nar _) ⟨Nat.le_refl _, Nat.le_refl _⟩ (fun _ => rfl) (⟨by simp_all [rfs], rfl⟩)
        · refine r_iconst (v := 2) 33 dX3_refusal_32 rfl rfl ?_
          refine r_goto 37 dX3_refusal_33 rfl ?_
          exact r_reti dX3_refusal_37 rfl (by first | rfl | exact bI_nar _) ⟨Nat.le_refl _, Nat.le_refl _⟩ (fun _ => rfl) (⟨by simp_all [rfs], rfl⟩)
    · refine r_iconst (v := 3) 19 dX3_refusal_18 rfl rfl ?_
      exact r_reti dX3_refusal_19 rfl (by first | rfl | exact bI_nar _) ⟨Nat.le_refl _, Nat.le_refl _⟩ (fun _ => rfl) (⟨by simp_all [rfs], rfl⟩)
  · refine r_iconst (v := 1) 9 dX3_refusal_8 rfl rfl ?_
    exact r_reti dX3_refusal_9 rfl (by first | rfl | exact bI_nar _) ⟨Nat.le_refl _, Nat.le_refl _⟩ (fun _ => rfl) (⟨by simp_all [rfs], rfl⟩)
def cut3 (l v : Int32) : Int32 := if l = 0 then v.toInt8.toInt32 else if l = 1 then v.toInt16.toInt32 else v
theorem e_shPut {l n v : Int32} {j : Nat} (c : Nat → Int32) (h0 : nI j < n) (hj : j < 40) : mm_e (d + 1) yX3_put mX3_put [.ref 0, .int (nI j), .int v] (wSh l n c) (mm_q none (wSh l n (upd c j (cut3 l v)))) := by
  have hin : vp_in (nI j) 40 := vp_in_nI hj (by decide)
  refine e_of [some (.ref 0), some (.int (nI j)), some (.int v)] rfl (by decide) rfl rfl rfl ?_
  refine r_iload_n (i := 1) 1 dX3_put_0 rfl rfl rfl ?_
  refine r_if_lt 44 4 dX3_put_1 rfl rfl (fun h1 => absurd h1 (nI_pos (by omega))) (fun h1 => ?_)
  refine r_iload_n (i := 1) 5 dX3_put_4 rfl rfl rfl ?_
  refine r_aload_n (i := 0) 6 dX3_put_5 rfl rfl rfl ?_
  refine r_getf 9 dX3_put_6 rfl fl_X3_19 rfl rfl ?_
  refine r_icmp_ge 44 12 dX3_put_9 rfl rfl (fun h9 => absurd h0 (Int32.not_lt.mpr h9)) (fun h9 => ?_)
  refine r_aload_n (i := 0) 13 dX3_put_12 rfl rfl rfl ?_
  refine r_getf 16 dX3_put_13 rfl fl_X3_15 rfl rfl ?_
  refine r_iload_n (i := 1) 17 dX3_put_16 rfl rfl rfl ?_
  refine r_aload_n (i := 0) 18 dX3_put_17 rfl rfl rfl ?_
  refine r_getf 21 dX3_put_18 rfl fl_X3_9 rfl rfl ?_
  refine r_if_ne 29 24 dX3_put_21 rfl rfl (fun h21 => ?_) (fun h21 => ?_)
  · refine r_aload_n (i := 0) 30 dX3_put_29 rfl rfl rfl ?_
    refine r_getf 33 dX3_put_30 rfl fl_X3_9 rfl rfl ?_
    refine r_iconst (v := 1) 34 dX3_put_33 rfl rfl ?_
    refine r_icmp_ne 42 37 dX3_put_34 rfl rfl (fun h34 => ?_) (fun h34 => ?_)
    · refine r_iload_n (i := 2) 43 dX3_put_42 rfl rfl rfl ?_
      refine r_iast 44 dX3_put_43 rfl rfl (by assumption) ?_
      exact r_retv dX3_put_44 rfl ⟨Nat.le_refl _, Nat.le_refl _⟩ (fun _ => rfl) (⟨rfl, by rw [nI_clamp (by omega)]; simp_all [cut3, wSh]⟩)
    · refine r_iload_n (i := 2) 38 dX3_put_37 rfl rfl rfl ?_
      refine r_i2s 39 dX3_put_38 rfl ?_
      refine r_goto 43 dX3_put_39 rfl ?_
      refine r_iast 44 dX3_put_43 rfl rfl (by assumption) ?_
      exact r_retv dX3_put_44 rfl ⟨Nat.le_refl _, Nat.le_refl _⟩ (fun _ => rfl) (⟨rfl, by rw [nI_clamp (by omega)]; simp_all [cut3, wSh]⟩)
  · refine r_iload_n (i := 2) 25 dX3_put_24 rfl rfl rfl ?_
    refine r_i2b 26 dX3_put_25 rfl ?_
    refine r_goto 43 dX3_put_26 rfl ?_
    refine r_iast 44 dX3_put_43 rfl rfl (by assumption) ?_
    exact r_retv dX3_put_44 rfl ⟨Nat.le_refl _, Nat.le_refl _⟩ (fun _ => rfl) (⟨rfl, by rw [nI_clamp (by omega)]; simp_all [cut3, wSh]⟩)
end X3
