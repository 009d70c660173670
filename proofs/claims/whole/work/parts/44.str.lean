-- TEXTS: the literals' own members
section STR
variable {d : Nat} {M : mm_M} {scr : Option (Nat × (Nat → Int32))} {mc ms : Nat} {ah al : Bool} {Qf : Option Value → mm_W → Prop} {kc ks pc idx : Nat} {L : List (Option Value)} {st : List Value} {w : mm_W}
def sLen (j : Nat) : Nat := (mm_sx.map fun q => q.2.2.1).getD j 0
def sByt (j i : Nat) : Int32 := ((mm_sx.map fun q => q.2.2.2).getD j []).getD i 0
theorem r_sval {j : Nat} (hj : j < 8) (pc' : Nat) (h : decode M.2.1 pc = .ok (.getfield idx, 3)) (hp : pc + 3 = pc') (ho : M.1 = "java/lang/String") (hm : Cond.fieldLink "java/lang/String" idx "java/lang/String" "value" "[B" ∈ mm_tb) (k : mm_R d M scr mc ms ah al Qf kc ks pc' L (.retAddr (100 + j) :: st) w) : mm_R d M scr mc ms ah al Qf kc ks pc L (.retAddr (j + 1) :: st) w := by
  subst hp
  intro l p e R s m args below meth c Q D ρ X aC aV A n0 hC H locs ls hR hL
  obtain ⟨hx, hb, hml, hown, hts, hini, hK, hA, hEv, hrest⟩ := id hC
  rw [ho] at hown
  exact vk_getf (o := "java/lang/String") (n := "value") (d := "[B") (ref := "java/lang/String") hx hb (hEv.2.2.2.1.1 j hj).2.2.1 hR.2.2.2.1 hown (hts _ hm) (fun _ z => z) h (k l p e R s m args below meth c Q D ρ X aC aV A n0 hC H locs ls hR hL)
theorem r_scod {j : Nat} (hj : j < 8) (pc' : Nat) (h : decode M.2.1 pc = .ok (.getfield idx, 3)) (hp : pc + 3 = pc') (ho : M.1 = "java/lang/String") (hm : Cond.fieldLink "java/lang/String" idx "java/lang/String" "coder" "B" ∈ mm_tb) (k : mm_R d M scr mc ms ah al Qf kc ks pc' L (.int 0 :: st) w) : mm_R d M scr mc ms ah al Qf kc ks pc L (.retAddr (j + 1) :: st) w := by
  subst hp
  intro l p e R s m args below meth c Q D ρ X aC aV A n0 hC H locs ls hR hL
  obtain ⟨hx, hb, hml, hown, hts, hini, hK, hA, hEv, hrest⟩ := id hC
  rw [ho] at hown
  exact vk_getf (o := "java/lang/String") (n := "coder") (d := "B") (ref := "java/lang/String") hx hb (hEv.2.2.2.1.1 j hj).2.1 hR.2.2.2.1 hown (hts _ hm) (fun _ z => z) h (k l p e R s m args below meth c Q D ρ X aC aV A n0 hC H locs ls hR hL)
theorem r_slenB {j : Nat} (hj : j < 8) (pc' : Nat) (h : decode M.2.1 pc = .ok (.arraylength, 1)) (hp : pc + 1 = pc') (k : mm_R d M scr mc ms ah al Qf kc ks pc' L (.int (nI (sLen j)) :: st) w) : mm_R d M scr mc ms ah al Qf kc ks pc L (.retAddr (100 + j) :: st) w := by
  subst hp
  intro l p e R s m args below meth c Q D ρ X aC aV A n0 hC H locs ls hR hL
  obtain ⟨hx, hb, hml, hown, hts, hini, hK, hA, hEv, hrest⟩ := id hC
  exact va_tlen hx hb (hEv.2.2.2.1.1 j hj).2.2.2 hR.2.2.2.1 rfl h (k l p e R s m args below meth c Q D ρ X aC aV A n0 hC H locs ls hR hL)
theorem r_sbyt {j : Nat} (hj : j < 8) {x : Int32} (pc' : Nat) (h : decode M.2.1 pc = .ok (.baload, 1)) (hp : pc + 1 = pc') (hin : vp_in x (sLen j)) (k : mm_R d M scr mc ms ah al Qf kc ks pc' L (.int (sByt j x.toNatClampNeg) :: st) w) : mm_R d M scr mc ms ah al Qf kc ks pc L (.int x :: .retAddr (100 + j) :: st) w := by
  subst hp
  intro l p e R s m args below meth c Q D ρ X aC aV A n0 hC H locs ls hR hL
  obtain ⟨hx, hb, hml, hown, hts, hini, hK, hA, hEv, hrest⟩ := id hC
  exact va_tb hx hb (hEv.2.2.2.1.1 j hj).2.2.2 hR.2.2.2.1 hin rfl h (k l p e R s m args below meth c Q D ρ X aC aV A n0 hC H locs ls hR hL)
theorem r_getsC (pc' : Nat) (h : decode M.2.1 pc = .ok (.getstatic idx, 3)) (hp : pc + 3 = pc') (ho : M.1 = "java/lang/String") (hm : Cond.fieldLink "java/lang/String" idx "java/lang/String" "COMPACT_STRINGS" "Z" ∈ mm_tb) (k : mm_R d M scr mc ms ah al Qf kc ks pc' L (.int 1 :: st) w) : mm_R d M scr mc ms ah al Qf kc ks pc L st w := by
  subst hp
  intro l p e R s m args below meth c Q D ρ X aC aV A n0 hC H locs ls hR hL
  obtain ⟨hx, hb, hml, hown, hts, hini, hK, hA, hEv, hrest⟩ := id hC
  rw [ho] at hown
  exact va_gets (ref := "java/lang/String") hx hb hEv.2.2.2.2.1 hR.2.2.2.1 hown (hts _ hm) (fun _ z => z) h (k l p e R s m args below meth c Q D ρ X aC aV A n0 hC H locs ls hR hL)
theorem r_getsF (pc' : Nat) (h : decode M.2.1 pc = .ok (.getstatic idx, 3)) (hp : pc + 3 = pc') (ho : M.1 = "java/lang/String") (hm : Cond.fieldLink "java/lang/String" idx "jdk/internal/util/Preconditions" "SIOOBE_FORMATTER" "Ljava/util/function/BiFunction;" ∈ mm_tb) (k : ∀ v : Value, v = .null ∨ v = .retAddr 99 → mm_R d M scr mc ms ah al Qf kc ks pc' L (v :: st) w) : mm_R d M scr mc ms ah al Qf kc ks pc L st w := by
  subst hp
  intro l p e R s m args below meth c Q D ρ X aC aV A n0 hC H locs ls hR hL
  obtain ⟨hx, hb, hml, hown, hts, hini, hK, hA, hEv, hrest⟩ := id hC
  rw [ho] at hown
  rcases hEv.2.2.2.2.2 with hz | hz
  · exact va_gets (ref := "jdk/internal/util/Preconditions") hx hb hz hR.2.2.2.1 hown (hts _ hm) (fun _ z => z) h (k .null (Or.inl rfl) l p e R s m args below meth c Q D ρ X aC aV A n0 hC H locs ls hR hL)
  · exact va_gets (ref := "jdk/internal/util/Preconditions") hx hb hz hR.2.2.2.1 hown (hts _ hm) (fun _ z => z) h (k (.retAddr 99) (Or.inr rfl) l p e R s m args below meth c Q D ρ X aC aV A n0 hC H locs ls hR hL)
variable {n : Nat} {y : MethodName} {M' : mm_M} {As0 : List Value} {Q0 : Option Value → mm_W → Prop} {rest : List Value} {j : Nat}
set_option maxHeartbeats 1000000 in
/-- a call on a literal -/
theorem r_callX (pc' : Nat) (h : decode M.2.1 pc = .ok (.invokevirtual idx, 3)) (hp : pc + 3 = pc') (hy : mm_Yk y M' n) (hlk : mm_LkV M.1 idx y) (hcls : y.cls = "java/lang/String") (hj : j < 8) (hE : mm_E al d y M' (.retAddr (j + 1) :: As0) [] 0 0 Q0) (hn : As0.length = n)
    (hst : st = (As0.map (mm_rn (mm_sg [] w.length))).reverse ++ .retAddr (j + 1) :: rest) (hcat : (rest.map fun v => v.category).sum ≤ 8) (hc : kc + 0 ≤ mc) (hk : ks + 0 ≤ ms) (kk : ∀ v u, Q0 v u → mm_R (d + 1) M scr mc ms ah al Qf (kc + 0) (ks + 0) pc' L ((v.map (mm_rn (mm_sg [] w.length))).toList ++ rest) (mm_back [] w u)) : mm_R (d + 1) M scr mc ms ah al Qf kc ks pc L st w := by
  subst hp
  subst hst
  intro l p e R s m args below meth c Q D ρ X aC aV A n0 hC H locs ls hR hL
  obtain ⟨hx, hb, hml, hown, hts, hini, hK, hA, hEv, hsc, ⟨hr1, hr2, hr3, hr4⟩, hret⟩ := id hC
  obtain ⟨y1, y2, y3, y4⟩ := hy
  have hsub : ([] : List Nat).map (fun i => w[i]?) = ([] : mm_W).map (fun c => some (mm_rc (mm_sg [] w.length) c)) := rfl
  obtain ⟨i1, i2⟩ := mm_inj hR (is := []) rfl hsub
  have hM := hE l D (fun k => ρ (mm_sg [] w.length k)) X aC aV H.size i1 i2
  have hpre : PreV s H y.cls (X (j + 1)) (mm_Pc (fun k => ρ (mm_sg [] w.length k)) X aC aV D (.retAddr (j + 1) :: As0) [] H.size) (As0.map (mm_rv (fun k => ρ (mm_sg [] w.length k)) X)) := by
    refine ⟨mm_blind _ _ _ _ _ _ _ _, ?_, mm_pre hC hR hsub (.retAddr (j + 1) :: As0)⟩
    rw [hcls]
    exact vk_recv (adK := fun j => X (j + 1)) (i := j) hEv.2.2.2.1 hj hR.2.2.2.1
  have hrun : va_Run p l e R s m args below meth c H locs kc ks 0 0 (F0 m pc ls (((As0.map (mm_rn (mm_sg [] w.length))).reverse ++ .retAddr (j + 1) :: rest).map (mm_rv ρ X))) (rest.map (mm_rv ρ X)) (mm_Qc al Q0 (fun k => ρ (mm_sg [] w.length k)) X aC D ([] : mm_W).length H.size (Value.ref (X (j + 1)) :: As0.map (mm_rv (fun k => ρ (mm_sg [] w.length k)) X)).toArray) (mm_A (fun k => ρ (mm_sg [] w.length k)) ([] : mm_W).length H.size) := by
    have hstk : ((As0.map (mm_rn (mm_sg [] w.length))).reverse ++ .retAddr (j + 1) :: rest).map (mm_rv ρ X) = (As0.map (mm_rv (fun k => ρ (mm_sg [] w.length k)) X)).reverse ++ .ref (X (j + 1)) :: rest.map (mm_rv ρ X) := by
      rw [mm_mapsg (ρ := ρ) (X := X) (σ := mm_sg [] w.length) As0, List.map_append, List.map_reverse]
      rfl
    rcases hlk with ⟨hl | ⟨host, hl⟩, k1, k2⟩
    · exact va_runV (Ts := mm_tb) ⟨hx, hb, hml, hown, hts⟩ hM ⟨callB_of n hts (mm_goodIn y1) rfl rfl rfl (hts _ y2) (hts _ hl) y3 ⟨hr1, by show 8 + (M'.2.2.1 + 11) + 34 * d ≤ R.locals; omega⟩, hts _ k1, hts _ k2⟩ hpre rfl (by rw [List.length_map]; exact hn) hL.1 hstk (lv_room (by rw [mm_catsum]; exact hcat)) h ⟨by omega, by omega⟩
    · exact va_runVN (Ts := mm_tb) (host := host) ⟨hx, hb, hml, hown, hts⟩ hM ⟨va_cnB n hts (mm_goodIn y1) rfl rfl rfl (hEv.1 _ hl) (hts _ y2) y3 ⟨hr1, by show 8 + (M'.2.2.1 + 11) + 34 * d ≤ R.locals; omega⟩, hts _ k1, hts _ k2⟩ hpre rfl (by rw [List.length_map]; exact hn) hL.1 hstk (lv_room (by rw [mm_catsum]; exact hcat)) h ⟨by omega, by omega⟩
  refine mm_callW hsub hrun hR hA (fun v u H1 locs1 hq hR1 => ?_)
  rw [mm_retv]
  exact kk v u hq l p e R s m args below meth c Q D ρ X aC aV A n0 hC H1 locs1 ls hR1 hL
theorem r_callXi {r : Int32} (pc' : Nat) (h : decode M.2.1 pc = .ok (.invokevirtual idx, 3)) (hp : pc + 3 = pc') (hy : mm_Yk y M' n) (hlk : mm_LkV M.1 idx y) (hcls : y.cls = "java/lang/String") (hj : j < 8) (hE : mm_e d y M' (.retAddr (j + 1) :: As0) [] (mm_q (some (.int r)) [])) (hn : As0.length = n)
    (hst : st = (As0.map (mm_rn (mm_sg [] w.length))).reverse ++ .retAddr (j + 1) :: rest) (hcat : Nat.ble (rest.map fun v => v.category).sum 8 = true) (hm : kc ≤ mc ∧ ks ≤ ms) (kk : mm_R (d + 1) M scr mc ms ah false Qf kc ks pc' L (.int r :: rest) w) : mm_R (d + 1) M scr mc ms ah false Qf kc ks pc L st w :=
  r_callX pc' h hp hy hlk hcls hj hE hn hst (Nat.le_of_ble_eq_true hcat) hm.1 hm.2 (fun v u hq => by obtain ⟨rfl, rfl⟩ := hq; rw [mm_back_same rfl]; exact kk)
theorem r_callSn (pc' : Nat) (h : decode M.2.1 pc = .ok (.invokestatic idx, 3)) (hp : pc + 3 = pc') (hy : mm_Yk y M' n) (hlk : mm_LkS M.1 idx y) (hE : mm_e d y M' As0 [] (mm_q none [])) (hn : As0.length = n)
    (hst : st = (As0.map (mm_rn (mm_sg [] w.length))).reverse ++ rest) (hcat : Nat.ble (rest.map fun v => v.category).sum 8 = true) (hm : kc ≤ mc ∧ ks ≤ ms) (kk : mm_R (d + 1) M scr mc ms ah false Qf kc ks pc' L rest w) : mm_R (d + 1) M scr mc ms ah false Qf kc ks pc L st w :=
  r_callS [] pc' h hp hy hlk hE hn rfl rfl hst (Nat.le_of_ble_eq_true hcat) hm.1 hm.2 (fun v u hq => by obtain ⟨rfl, rfl⟩ := hq; rw [mm_back_same rfl]; exact kk)
end STR
section STR2
variable {d : Nat}
theorem w_sval : Cond.fieldLink "java/lang/String" 9 "java/lang/String" "value" "[B" ∈ mm_tb := mm_in 1346 (by decide +kernel) rfl
theorem w_scod : Cond.fieldLink "java/lang/String" 15 "java/lang/String" "coder" "B" ∈ mm_tb := mm_in 1347 (by decide +kernel) rfl
theorem w_scmp : Cond.fieldLink "java/lang/String" 38 "java/lang/String" "COMPACT_STRINGS" "Z" ∈ mm_tb := mm_in 399 (by decide +kernel) rfl
theorem w_sfmt : Cond.fieldLink "java/lang/String" 1053 "jdk/internal/util/Preconditions" "SIOOBE_FORMATTER" "Ljava/util/function/BiFunction;" ∈ mm_tb := mm_in 415 (by decide +kernel) rfl
theorem e_coder {j : Nat} (hj : j < 8) : mm_e (d + 1) yJ0_coder_7d493 mJ0_coder_7d493 [.retAddr (j + 1)] [] (mm_q (some (.int 0)) []) := by
  refine e_of [some (.retAddr (j + 1))] rfl (by decide) rfl rfl rfl ?_
  refine r_getsC 3 dJ0_coder_7d493_0 rfl rfl w_scmp ?_
  refine r_if_eq 13 6 dJ0_coder_7d493_3 rfl rfl (fun h3 => absurd h3 (by decide)) (fun h3 => ?_)
  refine r_xload_n (i := 0) 7 dJ0_coder_7d493_6 rfl rfl rfl ?_
  refine r_scod hj 10 dJ0_coder_7d493_7 rfl rfl w_scod ?_
  refine r_goto 14 dJ0_coder_7d493_10 rfl ?_
  exact r_reti dJ0_coder_7d493_14 rfl (by first | rfl | exact bI_nar _) ⟨Nat.le_refl _, Nat.le_refl _⟩ (fun _ => rfl) (⟨rfl, rfl⟩)
theorem e_isLatin1 {j : Nat} (hj : j < 8) : mm_e (d + 1) yJ0_isLatin1_aae02 mJ0_isLatin1_aae02 [.retAddr (j + 1)] [] (mm_q (some (.int 1)) []) := by
  refine e_of [some (.retAddr (j + 1))] rfl (by decide) rfl rfl rfl ?_
  refine r_getsC 3 dJ0_isLatin1_aae02_0 rfl rfl w_scmp ?_
  refine r_if_eq 17 6 dJ0_isLatin1_aae02_3 rfl rfl (fun h3 => absurd h3 (by decide)) (fun h3 => ?_)
  refine r_xload_n (i := 0) 7 dJ0_isLatin1_aae02_6 rfl rfl rfl ?_
  refine r_scod hj 10 dJ0_isLatin1_aae02_7 rfl rfl w_scod ?_
  refine r_if_ne 17 13 dJ0_isLatin1_aae02_10 rfl rfl (fun h10 => absurd rfl h10) (fun h10 => ?_)
  refine r_iconst (v := 1) 14 dJ0_isLatin1_aae02_13 rfl rfl ?_
  refine r_goto 18 dJ0_isLatin1_aae02_14 rfl ?_
  exact r_reti dJ0_isLatin1_aae02_18 rfl (by first | rfl | exact bI_nar _) ⟨Nat.le_refl _, Nat.le_refl _⟩ (fun _ => rfl) (⟨rfl, rfl⟩)
theorem sLen_lt : ∀ j, j < 8 → sLen j < 16 := by decide
theorem e_sLength {j : Nat} (hj : j < 8) : mm_e (d + 2) yJ0_length_8abf5 mJ0_length_8abf5 [.retAddr (j + 1)] [] (mm_q (some (.int (nI (sLen j)))) []) := by
  refine e_of [some (.retAddr (j + 1))] rfl (by decide) rfl rfl rfl ?_
  have := sLen_lt j hj
  refine r_xload_n (i := 0) 1 dJ0_length_8abf5_0 rfl rfl rfl ?_
  refine r_sval hj 4 dJ0_length_8abf5_1 rfl rfl w_sval ?_
  refine r_slenB hj 5 dJ0_length_8abf5_4 rfl ?_
  refine r_xload_n (i := 0) 6 dJ0_length_8abf5_5 rfl rfl rfl ?_
  refine r_callXi 9 dJ0_length_8abf5_6 rfl ykJ0_coder_7d493 lk_J0_335 rfl hj (e_coder hj) rfl rfl rfl ⟨Nat.le_refl _, Nat.le_refl _⟩ ?_
  refine r_ishr 10 dJ0_length_8abf5_9 rfl ?_
  exact r_reti dJ0_length_8abf5_10 rfl (by first | rfl | exact bI_nar _) ⟨Nat.le_refl _, Nat.le_refl _⟩ (fun _ => rfl) (⟨by rw [show (0 : Int32) = nI 0 from rfl, n_shr (by omega) (by decide)]; simp, rfl⟩)
theorem e_preCheck {i n : Nat} (hi : i < n) (hn : n < 2 ^ 31) (v : Value) (hv : v = .null ∨ v = .retAddr 99) : mm_e (d + 1) yJ3_checkIndex_8e157 mJ3_checkIndex_8e157 [.int (nI i), .int (nI n), v] [] (mm_q (some (.int (nI i))) []) := by
  rcases hv with rfl | rfl
  · refine e_of [some (.int (nI i)), some (.int (nI n)), some .null] rfl (by decide) rfl rfl rfl ?_
    refine r_iload_n (i := 0) 1 dJ3_checkIndex_8e157_0 rfl rfl rfl ?_
    refine r_if_lt 9 4 dJ3_checkIndex_8e157_1 rfl rfl (fun h1 => absurd h1 (nI_pos (by omega))) (fun h1 => ?_)
    refine r_iload_n (i := 0) 5 dJ3_checkIndex_8e157_4 rfl rfl rfl ?_
    refine r_iload_n (i := 1) 6 dJ3_checkIndex_8e157_5 rfl rfl rfl ?_
    refine r_icmp_lt 16 9 dJ3_checkIndex_8e157_6 rfl rfl (fun h6 => ?_) (fun h6 => absurd ((nI_ltI (by omega) (by omega)).mpr hi) h6)
    refine r_iload_n (i := 0) 17 dJ3_checkIndex_8e157_16 rfl rfl rfl ?_
    exact r_reti dJ3_checkIndex_8e157_17 rfl (by first | rfl | exact bI_nar _) ⟨Nat.le_refl _, Nat.le_refl _⟩ (fun _ => rfl) (⟨rfl, rfl⟩)
  · refine e_of [some (.int (nI i)), some (.int (nI n)), some (.retAddr 99)] rfl (by decide) rfl rfl rfl ?_
    refine r_iload_n (i := 0) 1 dJ3_checkIndex_8e157_0 rfl rfl rfl ?_
    refine r_if_lt 9 4 dJ3_checkIndex_8e157_1 rfl rfl (fun h1 => absurd h1 (nI_pos (by omega))) (fun h1 => ?_)
    refine r_iload_n (i := 0) 5 dJ3_checkIndex_8e157_4 rfl rfl rfl ?_
    refine r_iload_n (i := 1) 6 dJ3_checkIndex_8e157_5 rfl rfl rfl ?_
    refine r_icmp_lt 16 9 dJ3_checkIndex_8e157_6 rfl rfl (fun h6 => ?_) (fun h6 => absurd ((nI_ltI (by omega) (by omega)).mpr hi) h6)
    refine r_iload_n (i := 0) 17 dJ3_checkIndex_8e157_16 rfl rfl rfl ?_
    exact r_reti dJ3_checkIndex_8e157_17 rfl (by first | rfl | exact bI_nar _) ⟨Nat.le_refl _, Nat.le_refl _⟩ (fun _ => rfl) (⟨rfl, rfl⟩)
theorem e_strCheck {i n : Nat} (hi : i < n) (hn : n < 2 ^ 31) : mm_e (d + 2) yJ0_checkIndex_df160 mJ0_checkIndex_df160 [.int (nI i), .int (nI n)] [] (mm_q none []) := by
  refine e_of [some (.int (nI i)), some (.int (nI n))] rfl (by decide) rfl rfl rfl ?_
  refine r_iload_n (i := 0) 1 dJ0_checkIndex_df160_0 rfl rfl rfl ?_
  refine r_iload_n (i := 1) 2 dJ0_checkIndex_df160_1 rfl rfl rfl ?_
  refine r_getsF 5 dJ0_checkIndex_df160_2 rfl rfl w_sfmt (fun v hv => ?_)
  rcases hv with rfl | rfl
  · refine r_callSi [] 8 dJ0_checkIndex_df160_5 rfl ykJ3_checkIndex_8e157 lk_J0_1059 (e_preCheck hi hn _ (Or.inl rfl)) rfl rfl rfl ⟨Nat.le_refl _, Nat.le_refl _⟩ ?_
    refine r_pop 9 dJ0_checkIndex_df160_8 rfl rfl ?_
    exact r_retv dJ0_checkIndex_df160_9 rfl ⟨Nat.le_refl _, Nat.le_refl _⟩ (fun _ => rfl) (⟨rfl, rfl⟩)
  · refine r_callSi [] 8 dJ0_checkIndex_df160_5 rfl ykJ3_checkIndex_8e157 lk_J0_1059 (e_preCheck hi hn _ (Or.inr rfl)) rfl rfl rfl ⟨Nat.le_refl _, Nat.le_refl _⟩ ?_
    refine r_pop 9 dJ0_checkIndex_df160_8 rfl rfl ?_
    exact r_retv dJ0_checkIndex_df160_9 rfl ⟨Nat.le_refl _, Nat.le_refl _⟩ (fun _ => rfl) (⟨rfl, rfl⟩)
/-- the char of a literal -/
def sCh (j i : Nat) : Nat := ((sByt j i).toBitVec.toNat) % 256
theorem sCh_ok : ∀ j, j < 8 → ∀ i, i < sLen j → ((sByt j i &&& 255).toUInt32 % 65536).toInt32 = nI (sCh j i) ∧ narrow .char (.int (nI (sCh j i))) = .int (nI (sCh j i)) := by decide +kernel
theorem e_l1Char {i j : Nat} (hj : j < 8) (hi : i < sLen j) : mm_e (d + 3) yJ1_charAt_3b067 mJ1_charAt_3b067 [.retAddr (100 + j), .int (nI i)] [] (mm_q (some (.int (nI (sCh j i)))) []) := by
  refine e_of [some (.retAddr (100 + j)), some (.int (nI i))] rfl (by decide) rfl rfl rfl ?_
  have := sLen_lt j hj
  obtain ⟨q1, q2⟩ := sCh_ok j hj i hi
  refine r_iload_n (i := 1) 1 dJ1_charAt_3b067_0 rfl rfl rfl ?_
  refine r_xload_n (i := 0) 2 dJ1_charAt_3b067_1 rfl rfl rfl ?_
  refine r_slenB hj 3 dJ1_charAt_3b067_2 rfl ?_
  refine r_callSn 6 dJ1_charAt_3b067_3 rfl ykJ0_checkIndex_df160 lk_J1_9 (e_strCheck hi (by omega)) rfl rfl rfl ⟨Nat.le_refl _, Nat.le_refl _⟩ ?_
  refine r_xload_n (i := 0) 7 dJ1_charAt_3b067_6 rfl rfl rfl ?_
  refine r_iload_n (i := 1) 8 dJ1_charAt_3b067_7 rfl rfl rfl ?_
  refine r_sbyt hj 9 dJ1_charAt_3b067_8 rfl (vp_in_nI hi (by omega)) ?_
  rw [nI_clamp (n := i) (by omega)]
  refine r_sipush (v := 255) 12 dJ1_charAt_3b067_9 rfl rfl ?_
  refine r_iand 13 dJ1_charAt_3b067_12 rfl ?_
  refine r_i2c 14 dJ1_charAt_3b067_13 rfl ?_
  rw [q1]
  exact r_reti dJ1_charAt_3b067_14 rfl (q2) ⟨Nat.le_refl _, Nat.le_refl _⟩ (fun _ => rfl) (⟨rfl, rfl⟩)
theorem e_charAt {i j : Nat} (hj : j < 8) (hi : i < sLen j) : mm_e (d + 4) yJ0_charAt_5068e mJ0_charAt_5068e [.retAddr (j + 1), .int (nI i)] [] (mm_q (some (.int (nI (sCh j i)))) []) := by
  refine e_of [some (.retAddr (j + 1)), some (.int (nI i))] rfl (by decide) rfl rfl rfl ?_
  obtain ⟨q1, q2⟩ := sCh_ok j hj i hi
  refine r_xload_n (i := 0) 1 dJ0_charAt_5068e_0 rfl rfl rfl ?_
  refine r_callXi 4 dJ0_charAt_5068e_1 rfl ykJ0_isLatin1_aae02 lk_J0_492 rfl hj (e_isLatin1 hj) rfl rfl rfl ⟨Nat.le_refl _, Nat.le_refl _⟩ ?_
  refine r_if_eq 16 7 dJ0_charAt_5068e_4 rfl rfl (fun h4 => absurd h4 (by decide)) (fun h4 => ?_)
  refine r_xload_n (i := 0) 8 dJ0_charAt_5068e_7 rfl rfl rfl ?_
  refine r_sval hj 11 dJ0_charAt_5068e_8 rfl rfl w_sval ?_
  refine r_iload_n (i := 1) 12 dJ0_charAt_5068e_11 rfl rfl rfl ?_
  refine r_callSi [] 15 dJ0_charAt_5068e_12 rfl ykJ1_charAt_3b067 lk_J0_495 (e_l1Char hj hi) rfl rfl rfl ⟨Nat.le_refl _, Nat.le_refl _⟩ ?_
  exact r_reti dJ0_charAt_5068e_15 rfl (q2) ⟨Nat.le_refl _, Nat.le_refl _⟩ (fun _ => rfl) (⟨rfl, rfl⟩)
end STR2
