section XC
variable {d : Nat} {A : sA} {S : sT} {w : mm_W} {N Z : FlT} {kp : Nat → Int32} {R : RdT} {Si : SiT} {Sr : SrT} {Ta : TaT} {I J : FlT} {H0 H1 H2 H3 : ShT} {tn : Int32}
theorem nd64 : va_nd (List.range 64) = true := by decide
abbrev fSK (F : FlT) (k : Nat → Int32) : FlT := (F.1, k, F.2.2)
abbrev fSF (F : FlT) (k : Nat → Int32) : FlT := (F.1, F.2.1, k, F.2.2.2)
abbrev fSS (F : FlT) (k : Nat → Int32) : FlT := (F.1, F.2.1, F.2.2.1, k, F.2.2.2.2)
abbrev fSU (F : FlT) (k : Nat → Int32) : FlT := (F.1, F.2.1, F.2.2.1, F.2.2.2.1, F.2.2.2.2.1, F.2.2.2.2.2.1, k, F.2.2.2.2.2.2.2)
abbrev fSP (F : FlT) (k : Nat → Int32) : FlT := (F.1, F.2.1, F.2.2.1, F.2.2.2.1, F.2.2.2.2.1, F.2.2.2.2.2.1, F.2.2.2.2.2.2.1, k, F.2.2.2.2.2.2.2.2)
theorem upd_updN {f : Nat → Int32} {g : Nat → Nat} {k v i : Nat} (h : f i = nI (g i)) : upd f k (nI v) i = nI (updN g k v i) := by
  by_cases q : i = k
  · simp [upd, updN, q]
  · simp [upd, updN, q, h]
theorem fok_K (h : fok N A) {f v : Nat} (hv : v ≤ 4) : fok (fSK N (upd (fKd N) f (nI v))) (aK A f v) := ⟨h.1, fun i hi => ⟨upd_updN (h.2.1 i hi).1, (h.2.1 i hi).2⟩, h.2.2.1, h.2.2.2.1, h.2.2.2.2.1, h.2.2.2.2.2.1, sOk_K h.2.2.2.2.2.2 hv⟩
theorem fok_F (h : fok N A) {f v : Nat} (hv : v < sN A) : fok (fSF N (upd (fFi N) f (nI v))) (aF A f v) := ⟨h.1, fun i hi => ⟨(h.2.1 i hi).1, upd_updN (h.2.1 i hi).2.1, (h.2.1 i hi).2.2⟩, h.2.2.1, h.2.2.2.1, h.2.2.2.2.1, h.2.2.2.2.2.1, sOk_F h.2.2.2.2.2.2 hv⟩
theorem fok_S (h : fok N A) {f v : Nat} (hv : v < sN A) : fok (fSS N (upd (fSe N) f (nI v))) (aS A f v) := ⟨h.1, fun i hi => ⟨(h.2.1 i hi).1, (h.2.1 i hi).2.1, upd_updN (h.2.1 i hi).2.2⟩, h.2.2.1, h.2.2.2.1, h.2.2.2.2.1, h.2.2.2.2.2.1, sOk_S h.2.2.2.2.2.2 hv⟩
theorem fok_U (h : fok N A) {g v : Nat} (hv : v < sN A) : fok (fSU N (upd (fUn N) g (nI v))) (aU A g v) := ⟨h.1, h.2.1, h.2.2.1, fun i hi => ⟨upd_updN (h.2.2.2.1 i hi).1, (h.2.2.2.1 i hi).2⟩, h.2.2.2.2.1, h.2.2.2.2.2.1, sOk_U h.2.2.2.2.2.2 hv⟩
theorem fok_P (h : fok N A) {g v : Nat} (hv : v ≤ 9) : fok (fSP N (upd (fPr N) g (nI v))) (aP A g v) := ⟨h.1, h.2.1, h.2.2.1, fun i hi => ⟨(h.2.2.2.1 i hi).1, upd_updN (h.2.2.2.1 i hi).2⟩, h.2.2.2.2.1, h.2.2.2.2.2.1, sOk_P h.2.2.2.2.2.2 hv⟩
theorem fok_B (h : fok N A) {f g : Nat} (hf : f < sN A) (hg : g < sN A) (hb : sB A < 4) : fok (fBan N (sB A) (nI f) (nI g)) (aB A f g) := ⟨h.1, h.2.1, h.2.2.1, h.2.2.2.1, rfl, fun i hi => by
  have hi : i < sB A + 1 := hi
  by_cases q : i = sB A
  · subst q; exact ⟨by show upd _ _ _ _ = nI (updN _ _ _ _); rw [updN_at]; simp [upd], by show upd _ _ _ _ = nI (updN _ _ _ _); rw [updN_at]; simp [upd]⟩
  · exact ⟨upd_updN (h.2.2.2.2.2.1 i (by omega)).1, upd_updN (h.2.2.2.2.2.1 i (by omega)).2⟩, sOk_B h.2.2.2.2.2.2 hf hg hb⟩
theorem fok_D (h : fok N A) {b : Nat} (hb : b < sB A) : fok (fDrp N b (sB A - 1) (sB A - 1)) (aD A b) := ⟨h.1, h.2.1, h.2.2.1, h.2.2.2.1, rfl, fun i hi => by
  have hi : i < sB A - 1 := hi
  have h1 := h.2.2.2.2.2.1 i (by omega)
  have h2 := h.2.2.2.2.2.1 (i + 1) (by omega)
  show drp (fB1 N) b (sB A - 1) i = nI (if b ≤ i then sC A (i + 1) else sC A i) ∧ drp (fB2 N) b (sB A - 1) i = nI (if b ≤ i then sE A (i + 1) else sE A i)
  unfold drp
  by_cases q : b ≤ i
  · simp only [if_pos q, if_pos (And.intro q hi)]; exact h2
  · simp only [if_neg q, if_neg (fun z : b ≤ i ∧ i < sB A - 1 => q z.1)]; exact h1, sOk_D h.2.2.2.2.2.2 b⟩
theorem p_forbid (hC : CX S w) (f g : Int32) : mm_e (d + 2) yX7_forbid mX7_forbid [.ref 0, .int f, .int g] w (QX (s_forbid S f g).1 (s_forbid S f g).2) := by
  have hC0 := hC
  obtain ⟨hT, N, Z, kp, R, Si, Sr, Ta, I, J, H0, H1, H2, H3, tn, rfl, hN, hx, hy, ⟨ht, hb⟩, hf, hs, ⟨hk0, hk1⟩, hI, hJ, ⟨s0, s1, s2, s3⟩, hn⟩ := hC
  have l0 := lt31 hN hT.2.1
  have h6 := hN.n6
  have h4 := hN.g4
  have h5 := hN.b4
  refine e_of [some (.ref 0), some (.int f), some (.int g)] rfl (by decide) rfl rfl rfl ?_
  rw [s_forbid]
  refine r_aload_n (i := 0) 1 dX7_forbid_0 rfl rfl rfl ?_
  refine r_getf 4 dX7_forbid_1 rfl fl_X7_10 rfl rfl ?_
  refine r_iload_n (i := 1) 5 dX7_forbid_4 rfl rfl rfl ?_
  refine r_callVi [1, 2, 3, 4, 5, 6, 7, 8] 8 dX7_forbid_5 rfl ykX0_hasThing lk_X7_124 (e_hasThing f) rfl rfl (sb_now _ _ _ _ _ _ _ _ _ _ _ _ _ _) rfl rfl rfl rfl ⟨Nat.le_refl _, Nat.le_refl _⟩ ?_
  rw [hN.th]
  refine r_if_eq 27 11 dX7_forbid_8 rfl rfl (fun h8 => ?_) (fun h8 => ?_)
  · have z1 := bI_eq0 h8
    refine r_iconst (v := (-1)) 28 dX7_forbid_27 rfl rfl ?_
    exact r_reti dX7_forbid_28 rfl (by first | rfl | exact bI_nar _) ⟨Nat.le_refl _, Nat.le_refl _⟩ (fun _ => rfl) (⟨by first | rw [z1]; rfl | rw [z1, z2]; rfl | rw [h24]; simp, by first | rw [z1]; exact hC0 | rw [z1, z2]; exact hC0 | (rw [h24]; simp; exact hC0)⟩)
  · have z1 := bI_ne0 h8
    refine r_aload_n (i := 0) 12 dX7_forbid_11 rfl rfl rfl ?_
    refine r_getf 15 dX7_forbid_12 rfl fl_X7_10 rfl rfl ?_
    refine r_iload_n (i := 2) 16 dX7_forbid_15 rfl rfl rfl ?_
    refine r_callVi [1, 2, 3, 4, 5, 6, 7, 8] 19 dX7_forbid_16 rfl ykX0_hasThing lk_X7_124 (e_hasThing g) rfl rfl (sb_now _ _ _ _ _ _ _ _ _ _ _ _ _ _) rfl rfl rfl rfl ⟨Nat.le_refl _, Nat.le_refl _⟩ ?_
    rw [hN.th]
    refine r_if_eq 27 22 dX7_forbid_19 rfl rfl (fun h19 => ?_) (fun h19 => ?_)
    · have z2 := bI_eq0 h19
      refine r_iconst (v := (-1)) 28 dX7_forbid_27 rfl rfl ?_
      exact r_reti dX7_forbid_28 rfl (by first | rfl | exact bI_nar _) ⟨Nat.le_refl _, Nat.le_refl _⟩ (fun _ => rfl) (⟨by first | rw [z1]; rfl | rw [z1, z2]; rfl | rw [h24]; simp, by first | rw [z1]; exact hC0 | rw [z1, z2]; exact hC0 | (rw [h24]; simp; exact hC0)⟩)
    · have z2 := bI_ne0 h19
      refine r_iload_n (i := 1) 23 dX7_forbid_22 rfl rfl rfl ?_
      refine r_iload_n (i := 2) 24 dX7_forbid_23 rfl rfl rfl ?_
      refine r_icmp_ne 29 27 dX7_forbid_24 rfl rfl (fun h24 => ?_) (fun h24 => ?_)
      · obtain ⟨i, hi, rfl⟩ := inb_nI (by omega) z1
        obtain ⟨j, hj, rfl⟩ := inb_nI (by omega) z2
        rw [z1, z2, decide_eq_true h24, nI_clamp (n := i) (by omega), nI_clamp (n := j) (by omega)]
        refine r_aload_n (i := 0) 30 dX7_forbid_29 rfl rfl rfl ?_
        refine r_getf 33 dX7_forbid_30 rfl fl_X7_10 rfl rfl ?_
        refine r_getf 36 dX7_forbid_33 rfl fl_X7_104 rfl rfl ?_
        refine r_iconst (v := 4) 37 dX7_forbid_36 rfl rfl ?_
        rw [hN.bn]
        refine r_icmp_lt 43 40 dX7_forbid_37 rfl rfl (fun h37 => ?_) (fun h37 => ?_)
        · have g := blt_of (b := 4) (by omega) (by decide) h37
          rw [if_pos (show ((true && true) && true) = true from rfl), if_pos g]
          refine r_aload_n (i := 0) 44 dX7_forbid_43 rfl rfl rfl ?_
          refine r_getf 47 dX7_forbid_44 rfl fl_X7_10 rfl rfl ?_
          refine r_iload_n (i := 1) 48 dX7_forbid_47 rfl rfl rfl ?_
          refine r_iload_n (i := 2) 49 dX7_forbid_48 rfl rfl rfl ?_
          refine r_callVu [1, 2, 3, 4, 5, 6, 7, 8] 52 dX7_forbid_49 rfl ykX0_addBan lk_X7_181 (e_addBan hN.bn g (nI i) (nI j)) rfl rfl (sb_now _ _ _ _ _ _ _ _ _ _ _ _ _ _) rfl rfl rfl rfl ⟨Nat.le_refl _, Nat.le_refl _⟩ ?_
          rw [bk_now]
          refine r_aload_n (i := 0) 53 dX7_forbid_52 rfl rfl rfl ?_
          refine r_getf 56 dX7_forbid_53 rfl fl_X7_10 rfl rfl ?_
          refine r_getf 59 dX7_forbid_56 rfl fl_X7_104 rfl rfl ?_
          exact r_reti dX7_forbid_59 rfl (by first | rfl | exact bI_nar _) ⟨Nat.le_refl _, Nat.le_refl _⟩ (fun _ => rfl) (⟨rfl, tOk_A hT (sOk_B hT.1 hi hj g) rfl rfl, fBan N (sB (tA S)) (nI i) (nI j), Z, kp, R, Si, Sr, Ta, I, J, H0, H1, H2, H3, tn, rfl, fok_B hN hi hj g, hx, hy, ⟨ht, hb⟩, hf, hs, ⟨hk0, hk1⟩, hI, hJ, ⟨s0, s1, s2, s3⟩, hn⟩)
        · have g := bnlt_of (b := 4) (by omega) (by decide) h37
          rw [if_pos (show ((true && true) && true) = true from rfl), if_neg (by omega)]
          refine r_bipush (v := (-3)) 42 dX7_forbid_40 rfl rfl ?_
          exact r_reti dX7_forbid_42 rfl (by first | rfl | exact bI_nar _) ⟨Nat.le_refl _, Nat.le_refl _⟩ (fun _ => rfl) (⟨rfl, hC0⟩)
      · refine r_iconst (v := (-1)) 28 dX7_forbid_27 rfl rfl ?_
        exact r_reti dX7_forbid_28 rfl (by first | rfl | exact bI_nar _) ⟨Nat.le_refl _, Nat.le_refl _⟩ (fun _ => rfl) (⟨by first | rw [z1]; rfl | rw [z1, z2]; rfl | rw [h24]; simp, by first | rw [z1]; exact hC0 | rw [z1, z2]; exact hC0 | (rw [h24]; simp; exact hC0)⟩)
theorem p_lift (hC : CX S w) (b : Int32) : mm_e (d + 2) yX7_lift mX7_lift [.ref 0, .int b] w (QX (s_lift S b).1 (s_lift S b).2) := by
  have hC0 := hC
  obtain ⟨hT, N, Z, kp, R, Si, Sr, Ta, I, J, H0, H1, H2, H3, tn, rfl, hN, hx, hy, ⟨ht, hb⟩, hf, hs, ⟨hk0, hk1⟩, hI, hJ, ⟨s0, s1, s2, s3⟩, hn⟩ := hC
  have l0 := lt31 hN hT.2.1
  have h6 := hN.n6
  have h4 := hN.g4
  have h5 := hN.b4
  refine e_of [some (.ref 0), some (.int b)] rfl (by decide) rfl rfl rfl ?_
  rw [s_lift]
  cases g : inb (nI (sB (tA S))) b with
  | false =>
    refine r_aload_n (i := 0) 1 dX7_lift_0 rfl rfl rfl ?_
    refine r_getf 4 dX7_lift_1 rfl fl_X7_10 rfl rfl ?_
    refine r_iload_n (i := 1) 5 dX7_lift_4 rfl rfl rfl ?_
    refine r_callVi [1, 2, 3, 4, 5, 6, 7, 8] 8 dX7_lift_5 rfl ykX0_hasBan lk_X7_157 (e_hasBan b) rfl rfl (sb_now _ _ _ _ _ _ _ _ _ _ _ _ _ _) rfl rfl rfl rfl ⟨Nat.le_refl _, Nat.le_refl _⟩ ?_
    rw [hN.bn, g]
    refine r_if_ne 13 11 dX7_lift_8 rfl rfl (fun h8 => absurd rfl h8) (fun h8 => ?_)
    refine r_iconst (v := (-1)) 12 dX7_lift_11 rfl rfl ?_
    exact r_reti dX7_lift_12 rfl (by first | rfl | exact bI_nar _) ⟨Nat.le_refl _, Nat.le_refl _⟩ (fun _ => rfl) (⟨rfl, hC0⟩)
  | true =>
    obtain ⟨i, hi, rfl⟩ := inb_nI (by omega) g
    rw [nI_clamp (n := i) (by omega)]
    refine r_aload_n (i := 0) 1 dX7_lift_0 rfl rfl rfl ?_
    refine r_getf 4 dX7_lift_1 rfl fl_X7_10 rfl rfl ?_
    refine r_iload_n (i := 1) 5 dX7_lift_4 rfl rfl rfl ?_
    refine r_callVi [1, 2, 3, 4, 5, 6, 7, 8] 8 dX7_lift_5 rfl ykX0_hasBan lk_X7_157 (e_hasBan (nI i)) rfl rfl (sb_now _ _ _ _ _ _ _ _ _ _ _ _ _ _) rfl rfl rfl rfl ⟨Nat.le_refl _, Nat.le_refl _⟩ ?_
    rw [hN.bn, g]
    refine r_if_ne 13 11 dX7_lift_8 rfl rfl (fun h8 => ?_) (fun h8 => absurd h8 (by decide))
    refine r_aload_n (i := 0) 14 dX7_lift_13 rfl rfl rfl ?_
    refine r_getf 17 dX7_lift_14 rfl fl_X7_10 rfl rfl ?_
    refine r_iload_n (i := 1) 18 dX7_lift_17 rfl rfl rfl ?_
    refine r_callVu [1, 2, 3, 4, 5, 6, 7, 8] 21 dX7_lift_18 rfl ykX0_dropBan lk_X7_185 (e_dropBan hN.bn hi h5) rfl rfl (sb_now _ _ _ _ _ _ _ _ _ _ _ _ _ _) rfl rfl rfl rfl ⟨Nat.le_refl _, Nat.le_refl _⟩ ?_
    rw [bk_now]
    refine r_aload_n (i := 0) 22 dX7_lift_21 rfl rfl rfl ?_
    refine r_getf 25 dX7_lift_22 rfl fl_X7_10 rfl rfl ?_
    refine r_getf 28 dX7_lift_25 rfl fl_X7_104 rfl rfl ?_
    exact r_reti dX7_lift_28 rfl (by first | rfl | exact bI_nar _) ⟨Nat.le_refl _, Nat.le_refl _⟩ (fun _ => rfl) (⟨rfl, tOk_A hT (sOk_D hT.1 i) rfl rfl, fDrp N i (sB (tA S) - 1) (sB (tA S) - 1), Z, kp, R, Si, Sr, Ta, I, J, H0, H1, H2, H3, tn, rfl, fok_D hN hi, hx, hy, ⟨ht, hb⟩, hf, hs, ⟨hk0, hk1⟩, hI, hJ, ⟨s0, s1, s2, s3⟩, hn⟩)
theorem QX_len (r : Int32) (S : sT) (v : Option Value) (u : mm_W) (h : QX r S v u) : u.length = 64 := by
  obtain ⟨-, -, N, Z, kp, R, Si, Sr, Ta, I, J, H0, H1, H2, H3, tn, rfl, -⟩ := h
  rfl
theorem p_hire (hC : CX S w) (g what v : Int32) : mm_e (d + 3) yX7_hire mX7_hire [.ref 0, .int g, .int what, .int v] w (QX (s_hire S g what v).1 (s_hire S g what v).2) := by
  have hC0 := hC
  obtain ⟨hT, N, Z, kp, R, Si, Sr, Ta, I, J, H0, H1, H2, H3, tn, rfl, hN, hx, hy, ⟨ht, hb⟩, hf, hs, ⟨hk0, hk1⟩, hI, hJ, ⟨s0, s1, s2, s3⟩, hn⟩ := hC
  have l0 := lt31 hN hT.2.1
  have h6 := hN.n6
  have h4 := hN.g4
  have h5 := hN.b4
  refine e_of [some (.ref 0), some (.int g), some (.int what), some (.int v), none] rfl (by decide) rfl rfl rfl ?_
  rw [s_hire]
  refine r_aload_n (i := 0) 1 dX7_hire_0 rfl rfl rfl ?_
  refine r_iload_n (i := 1) 2 dX7_hire_1 rfl rfl rfl ?_
  refine r_iload_n (i := 2) 3 dX7_hire_2 rfl rfl rfl ?_
  refine r_callVw 6 dX7_hire_3 rfl ykX7_guest lk_X7_178 (p_guest hC0 g what) rfl nd64 rfl rfl rfl rfl ⟨Nat.le_refl _, Nat.le_refl _⟩ (QX_len _ _) (fun v u hq => ?_)
  obtain ⟨rfl, hC2⟩ := hq
  clear hT hN hx hy ht hb hf hs hk0 hk1 hI hJ s0 s1 s2 s3 hn hC0
  obtain ⟨hT, N, Z, kp, R, Si, Sr, Ta, I, J, H0, H1, H2, H3, tn, rfl, hN, hx, hy, ⟨ht, hb⟩, hf, hs, ⟨hk0, hk1⟩, hI, hJ, ⟨s0, s1, s2, s3⟩, hn⟩ := id hC2
  rw [s_guest]
  cases hg : inb (nI (sG (tA S))) g with
  | false =>
    refine r_istore (i := 4) 8 dX7_hire_6 rfl rfl ?_
    refine r_iload (i := 4) 10 dX7_hire_8 rfl rfl ?_
    refine r_iconst (v := (-1)) 11 dX7_hire_10 rfl rfl ?_
    refine r_icmp_ne 16 14 dX7_hire_11 rfl rfl (fun h11 => absurd rfl h11) (fun h11 => ?_)
    refine r_iconst (v := (-1)) 15 dX7_hire_14 rfl rfl ?_
    exact r_reti dX7_hire_15 rfl (by first | rfl | exact bI_nar _) ⟨Nat.le_refl _, Nat.le_refl _⟩ (fun _ => rfl) (⟨rfl, hC2⟩)
  | true =>
    obtain ⟨i, hi, rfl⟩ := inb_nI (by omega) hg
    obtain ⟨k1, k2, k3, k4⟩ := hN.gat hi
    have hin : vp_in (nI i) 4 := vp_in_nI (by omega) (by decide)
    have ec := nI_clamp (n := i) (by omega)
    have ne : ∀ {k : Nat}, k < 2 ^ 31 → ¬ nI k = -1 := fun {k} hk z => nI_pos hk (by rw [z]; decide)
    rw [ec]
    rcases pk_ix what (n := 2) (by decide) with q | q | ⟨k, hk, rfl⟩
    · rw [ix_neg q]
      refine r_istore (i := 4) 8 dX7_hire_6 rfl rfl ?_
      refine r_iload (i := 4) 10 dX7_hire_8 rfl rfl ?_
      refine r_iconst (v := (-1)) 11 dX7_hire_10 rfl rfl ?_
      refine r_icmp_ne 16 14 dX7_hire_11 rfl rfl (fun h11 => absurd rfl h11) (fun h11 => ?_)
      refine r_iconst (v := (-1)) 15 dX7_hire_14 rfl rfl ?_
      exact r_reti dX7_hire_15 rfl (by first | rfl | exact bI_nar _) ⟨Nat.le_refl _, Nat.le_refl _⟩ (fun _ => rfl) (⟨rfl, hC2⟩)
    · rw [ix_big q]
      refine r_istore (i := 4) 8 dX7_hire_6 rfl rfl ?_
      refine r_iload (i := 4) 10 dX7_hire_8 rfl rfl ?_
      refine r_iconst (v := (-1)) 11 dX7_hire_10 rfl rfl ?_
      refine r_icmp_ne 16 14 dX7_hire_11 rfl rfl (fun h11 => absurd rfl h11) (fun h11 => ?_)
      refine r_iconst (v := (-1)) 15 dX7_hire_14 rfl rfl ?_
      exact r_reti dX7_hire_15 rfl (by first | rfl | exact bI_nar _) ⟨Nat.le_refl _, Nat.le_refl _⟩ (fun _ => rfl) (⟨rfl, hC2⟩)
    · rw [ix_k hk (by decide)]
      rcases (by omega : k = 0 ∨ k = 1) with rfl | rfl
      · cases hv : inb (nI (sN (tA S))) v with
        | false =>
          refine r_istore (i := 4) 8 dX7_hire_6 rfl rfl ?_
          refine r_iload (i := 4) 10 dX7_hire_8 rfl rfl ?_
          refine r_iconst (v := (-1)) 11 dX7_hire_10 rfl rfl ?_
          refine r_icmp_ne 16 14 dX7_hire_11 rfl rfl (fun h11 => ?_) (fun h11 => absurd h11 (ne (by omega)))
          refine r_iload_n (i := 2) 17 dX7_hire_16 rfl rfl rfl ?_
          refine r_if_ne 46 20 dX7_hire_17 rfl rfl (fun h17 => absurd rfl h17) (fun h17 => ?_)
          refine r_aload_n (i := 0) 21 dX7_hire_20 rfl rfl rfl ?_
          refine r_getf 24 dX7_hire_21 rfl fl_X7_10 rfl rfl ?_
          refine r_iload_n (i := 3) 25 dX7_hire_24 rfl rfl rfl ?_
          refine r_callVi [1, 2, 3, 4, 5, 6, 7, 8] 28 dX7_hire_25 rfl ykX0_hasThing lk_X7_124 (e_hasThing v) rfl rfl (sb_now _ _ _ _ _ _ _ _ _ _ _ _ _ _) rfl rfl rfl rfl ⟨Nat.le_refl _, Nat.le_refl _⟩ ?_
          rw [hN.th, hv]
          refine r_if_ne 33 31 dX7_hire_28 rfl rfl (fun h28 => absurd rfl h28) (fun h28 => ?_)
          refine r_iconst (v := (-1)) 32 dX7_hire_31 rfl rfl ?_
          exact r_reti dX7_hire_32 rfl (by first | rfl | exact bI_nar _) ⟨Nat.le_refl _, Nat.le_refl _⟩ (fun _ => rfl) (⟨rfl, hC2⟩)
        | true =>
          obtain ⟨j, hj, rfl⟩ := inb_nI (by omega) hv
          rw [nI_clamp (n := j) (by omega)]
          refine r_istore (i := 4) 8 dX7_hire_6 rfl rfl ?_
          refine r_iload (i := 4) 10 dX7_hire_8 rfl rfl ?_
          refine r_iconst (v := (-1)) 11 dX7_hire_10 rfl rfl ?_
          refine r_icmp_ne 16 14 dX7_hire_11 rfl rfl (fun h11 => ?_) (fun h11 => absurd h11 (ne (by omega)))
          refine r_iload_n (i := 2) 17 dX7_hire_16 rfl rfl rfl ?_
          refine r_if_ne 46 20 dX7_hire_17 rfl rfl (fun h17 => absurd rfl h17) (fun h17 => ?_)
          refine r_aload_n (i := 0) 21 dX7_hire_20 rfl rfl rfl ?_
          refine r_getf 24 dX7_hire_21 rfl fl_X7_10 rfl rfl ?_
          refine r_iload_n (i := 3) 25 dX7_hire_24 rfl rfl rfl ?_
          refine r_callVi [1, 2, 3, 4, 5, 6, 7, 8] 28 dX7_hire_25 rfl ykX0_hasThing lk_X7_124 (e_hasThing (nI j)) rfl rfl (sb_now _ _ _ _ _ _ _ _ _ _ _ _ _ _) rfl rfl rfl rfl ⟨Nat.le_refl _, Nat.le_refl _⟩ ?_
          rw [hN.th, hv]
          refine r_if_ne 33 31 dX7_hire_28 rfl rfl (fun h28 => ?_) (fun h28 => absurd h28 (by decide))
          refine r_aload_n (i := 0) 34 dX7_hire_33 rfl rfl rfl ?_
          refine r_getf 37 dX7_hire_34 rfl fl_X7_10 rfl rfl ?_
          refine r_getf 40 dX7_hire_37 rfl fl_X7_151 rfl rfl ?_
          refine r_iload_n (i := 1) 41 dX7_hire_40 rfl rfl rfl ?_
          refine r_iload_n (i := 3) 42 dX7_hire_41 rfl rfl rfl ?_
          refine r_iast 43 dX7_hire_42 rfl rfl (by assumption) ?_
          refine r_iload (i := 4) 45 dX7_hire_43 rfl rfl ?_
          exact r_reti dX7_hire_45 rfl (by first | rfl | exact bI_nar _) ⟨Nat.le_refl _, Nat.le_refl _⟩ (fun _ => rfl) (⟨rfl, tOk_A hT (sOk_U hT.1 hj) rfl rfl, fSU N (upd (fUn N) i (nI j)), Z, kp, R, Si, Sr, Ta, I, J, H0, H1, H2, H3, tn, by rw [ec]; rfl, fok_U hN hj, hx, hy, ⟨ht, hb⟩, hf, hs, ⟨hk0, hk1⟩, hI, hJ, ⟨s0, s1, s2, s3⟩, hn⟩)
      · refine r_istore (i := 4) 8 dX7_hire_6 rfl rfl ?_
        refine r_iload (i := 4) 10 dX7_hire_8 rfl rfl ?_
        refine r_iconst (v := (-1)) 11 dX7_hire_10 rfl rfl ?_
        refine r_icmp_ne 16 14 dX7_hire_11 rfl rfl (fun h11 => ?_) (fun h11 => absurd h11 (ne (by omega)))
        refine r_iload_n (i := 2) 17 dX7_hire_16 rfl rfl rfl ?_
        refine r_if_ne 46 20 dX7_hire_17 rfl rfl (fun h17 => ?_) (fun h17 => absurd h17 (by decide))
        refine r_iload_n (i := 3) 47 dX7_hire_46 rfl rfl rfl ?_
        refine r_if_lt 56 50 dX7_hire_47 rfl rfl (fun h47 => ?_) (fun h47 => ?_)
        · have gv : inb 10 v = false := inb_f1 h47
          refine r_iconst (v := (-1)) 57 dX7_hire_56 rfl rfl ?_
          exact r_reti dX7_hire_57 rfl (by first | rfl | exact bI_nar _) ⟨Nat.le_refl _, Nat.le_refl _⟩ (fun _ => rfl) (⟨by rw [gv]; rfl, by rw [gv]; exact hC2⟩)
        · refine r_iload_n (i := 3) 51 dX7_hire_50 rfl rfl rfl ?_
          refine r_bipush (v := 9) 53 dX7_hire_51 rfl rfl ?_
          refine r_icmp_le 58 56 dX7_hire_53 rfl rfl (fun h53 => ?_) (fun h53 => ?_)
          · obtain ⟨j, hj, rfl⟩ := inb_nI (n := 10) (by decide) (inb_t h47 (ngt9 h53))
            rw [show inb 10 (nI j) = true from inb_t h47 (ngt9 h53), nI_clamp (n := j) (by omega)]
            refine r_aload_n (i := 0) 59 dX7_hire_58 rfl rfl rfl ?_
            refine r_getf 62 dX7_hire_59 rfl fl_X7_10 rfl rfl ?_
            refine r_getf 65 dX7_hire_62 rfl fl_X7_154 rfl rfl ?_
            refine r_iload_n (i := 1) 66 dX7_hire_65 rfl rfl rfl ?_
            refine r_iload_n (i := 3) 67 dX7_hire_66 rfl rfl rfl ?_
            refine r_iast 68 dX7_hire_67 rfl rfl (by assumption) ?_
            refine r_iload (i := 4) 70 dX7_hire_68 rfl rfl ?_
            exact r_reti dX7_hire_70 rfl (by first | rfl | exact bI_nar _) ⟨Nat.le_refl _, Nat.le_refl _⟩ (fun _ => rfl) (⟨rfl, tOk_A hT (sOk_P hT.1 (show j ≤ 9 by omega)) rfl rfl, fSP N (upd (fPr N) i (nI j)), Z, kp, R, Si, Sr, Ta, I, J, H0, H1, H2, H3, tn, by rw [ec]; rfl, fok_P hN (by omega), hx, hy, ⟨ht, hb⟩, hf, hs, ⟨hk0, hk1⟩, hI, hJ, ⟨s0, s1, s2, s3⟩, hn⟩)
          · have gv : inb 10 v = false := inb_f2 (n := 10) (gt9 h53)
            refine r_iconst (v := (-1)) 57 dX7_hire_56 rfl rfl ?_
            exact r_reti dX7_hire_57 rfl (by first | rfl | exact bI_nar _) ⟨Nat.le_refl _, Nat.le_refl _⟩ (fun _ => rfl) (⟨by rw [gv]; rfl, by rw [gv]; exact hC2⟩)
theorem mbc_num {n : Nat} {v : Int32} (h : mbc (nI n) (nI 0) v = true) : ∃ j, j < 5 ∧ v = nI j := by
  simp only [mbc, show (nI 0 = 0) from rfl, if_true, Bool.and_eq_true, decide_eq_true_eq] at h
  rcases pk_ix v (n := 5) (by decide) with q | q | q
  · exact absurd q h.1
  · exfalso
    have h2 := h.2
    rw [Int32.lt_iff_toInt_lt] at h2
    rw [Int32.le_iff_toInt_le] at q
    have e1 : (4 : Int32).toInt = 4 := by decide
    have e2 : (nI 5).toInt = 5 := by decide
    omega
  · exact q
theorem p_alter (hC : CX S w) (f what v : Int32) : mm_e (d + 4) yX7_alter mX7_alter [.ref 0, .int f, .int what, .int v] w (QX (s_alter S f what v).1 (s_alter S f what v).2) := by
  have hC0 := hC
  obtain ⟨hT, N, Z, kp, R, Si, Sr, Ta, I, J, H0, H1, H2, H3, tn, rfl, hN, hx, hy, ⟨ht, hb⟩, hf, hs, ⟨hk0, hk1⟩, hI, hJ, ⟨s0, s1, s2, s3⟩, hn⟩ := hC
  have l0 := lt31 hN hT.2.1
  have h6 := hN.n6
  have h4 := hN.g4
  have h5 := hN.b4
  refine e_of [some (.ref 0), some (.int f), some (.int what), some (.int v), none] rfl (by decide) rfl rfl rfl ?_
  rw [s_alter]
  refine r_aload_n (i := 0) 1 dX7_alter_0 rfl rfl rfl ?_
  refine r_iload_n (i := 1) 2 dX7_alter_1 rfl rfl rfl ?_
  refine r_iload_n (i := 2) 3 dX7_alter_2 rfl rfl rfl ?_
  refine r_callVw 6 dX7_alter_3 rfl ykX7_thing lk_X7_169 (p_thing hC0 f what) rfl nd64 rfl rfl rfl rfl ⟨Nat.le_refl _, Nat.le_refl _⟩ (QX_len _ _) (fun v u hq => ?_)
  obtain ⟨rfl, hC2⟩ := hq
  clear hT hN hx hy ht hb hf hs hk0 hk1 hI hJ s0 s1 s2 s3 hn hC0
  obtain ⟨hT, N, Z, kp, R, Si, Sr, Ta, I, J, H0, H1, H2, H3, tn, rfl, hN, hx, hy, ⟨ht, hb⟩, hf, hs, ⟨hk0, hk1⟩, hI, hJ, ⟨s0, s1, s2, s3⟩, hn⟩ := id hC2
  rw [s_thing]
  cases hg : inb (nI (sN (tA S))) f with
  | false =>
    refine r_istore (i := 4) 8 dX7_alter_6 rfl rfl ?_
    refine r_iload (i := 4) 10 dX7_alter_8 rfl rfl ?_
    refine r_iconst (v := (-1)) 11 dX7_alter_10 rfl rfl ?_
    refine r_icmp_eq 31 14 dX7_alter_11 rfl rfl (fun h11 => ?_) (fun h11 => absurd rfl h11)
    refine r_iconst (v := (-1)) 32 dX7_alter_31 rfl rfl ?_
    exact r_reti dX7_alter_32 rfl (by first | rfl | exact bI_nar _) ⟨Nat.le_refl _, Nat.le_refl _⟩ (fun _ => rfl) (⟨rfl, hC2⟩)
  | true =>
    obtain ⟨i, hi, rfl⟩ := inb_nI (by omega) hg
    obtain ⟨k1, k2, k3, k4, k5, k6⟩ := hN.at hi
    have hin : vp_in (nI i) 6 := vp_in_nI (by omega) (by decide)
    have ec := nI_clamp (n := i) (by omega)
    have ne : ∀ {k : Nat}, k < 2 ^ 31 → ¬ nI k = -1 := fun {k} hk z => nI_pos hk (by rw [z]; decide)
    have tl := tb_le (tX S) i
    rw [ec, Bool.true_and]
    rcases pk_ix what (n := 5) (by decide) with q | q | ⟨k, hk, rfl⟩
    · rw [ix_neg (n := 5) q, ix_neg (n := 4) q]
      refine r_istore (i := 4) 8 dX7_alter_6 rfl rfl ?_
      refine r_iload (i := 4) 10 dX7_alter_8 rfl rfl ?_
      refine r_iconst (v := (-1)) 11 dX7_alter_10 rfl rfl ?_
      refine r_icmp_eq 31 14 dX7_alter_11 rfl rfl (fun h11 => ?_) (fun h11 => absurd rfl h11)
      refine r_iconst (v := (-1)) 32 dX7_alter_31 rfl rfl ?_
      exact r_reti dX7_alter_32 rfl (by first | rfl | exact bI_nar _) ⟨Nat.le_refl _, Nat.le_refl _⟩ (fun _ => rfl) (⟨by split <;> rfl, by split <;> exact hC2⟩)
    · have q4 : nI 4 ≤ what := Int32.le_trans (show nI 4 ≤ nI 5 by decide) q
      rw [ix_big (n := 5) q, ix_big (n := 4) q4]
      refine r_istore (i := 4) 8 dX7_alter_6 rfl rfl ?_
      refine r_iload (i := 4) 10 dX7_alter_8 rfl rfl ?_
      refine r_iconst (v := (-1)) 11 dX7_alter_10 rfl rfl ?_
      refine r_icmp_eq 31 14 dX7_alter_11 rfl rfl (fun h11 => ?_) (fun h11 => absurd rfl h11)
      refine r_iconst (v := (-1)) 32 dX7_alter_31 rfl rfl ?_
      exact r_reti dX7_alter_32 rfl (by first | rfl | exact bI_nar _) ⟨Nat.le_refl _, Nat.le_refl _⟩ (fun _ => rfl) (⟨by split <;> rfl, by split <;> exact hC2⟩)
    · rw [ix_k hk (by decide)]
      rcases (by omega : k = 4 ∨ k < 4) with rfl | hk4
      · rw [ix_big (n := 4) (Int32.le_refl _)]
        have nl := nb_le (tA S) (tX S) i
        refine r_istore (i := 4) 8 dX7_alter_6 rfl rfl ?_
        refine r_iload (i := 4) 10 dX7_alter_8 rfl rfl ?_
        refine r_iconst (v := (-1)) 11 dX7_alter_10 rfl rfl ?_
        refine r_icmp_eq 31 14 dX7_alter_11 rfl rfl (fun h11 => absurd h11 (ne (by omega))) (fun h11 => ?_)
        refine r_iload_n (i := 2) 15 dX7_alter_14 rfl rfl rfl ?_
        refine r_iconst (v := 3) 16 dX7_alter_15 rfl rfl ?_
        refine r_icmp_gt 31 19 dX7_alter_16 rfl rfl (fun h16 => ?_) (fun h16 => absurd (show (3 : Int32) < nI 4 by decide) h16)
        refine r_iconst (v := (-1)) 32 dX7_alter_31 rfl rfl ?_
        exact r_reti dX7_alter_32 rfl (by first | rfl | exact bI_nar _) ⟨Nat.le_refl _, Nat.le_refl _⟩ (fun _ => rfl) (⟨by split <;> rfl, by split <;> exact hC2⟩)
      · rw [ix_k hk4 (by decide)]
        have n3 : ¬ (3 : Int32) < nI k := fun z => absurd (blt_of (a := 3) (b := k) (by decide) (by omega) z) (by omega)
        cases hm : mbc (nI (sN (tA S))) (nI k) v with
        | false =>
          have nn : ¬ (match (generalizing := false) k with | 0 => nI (sK (tA S) i) | 1 => nI (sF (tA S) i) | 2 => nI (sS (tA S) i) | 3 => nI (tb (tX S) i) | 4 => nI (nb (tA S) (tX S) i) | _ => -1) = (-1 : Int32) := by
            rcases (by omega : k = 0 ∨ k = 1 ∨ k = 2 ∨ k = 3) with rfl | rfl | rfl | rfl
            · exact ne (by omega)
            · exact ne (by omega)
            · exact ne (by omega)
            · exact ne (by omega)
          rw [if_pos rfl]
          refine r_istore (i := 4) 8 dX7_alter_6 rfl rfl ?_
          refine r_iload (i := 4) 10 dX7_alter_8 rfl rfl ?_
          refine r_iconst (v := (-1)) 11 dX7_alter_10 rfl rfl ?_
          refine r_icmp_eq 31 14 dX7_alter_11 rfl rfl (fun h11 => absurd h11 nn) (fun h11 => ?_)
          refine r_iload_n (i := 2) 15 dX7_alter_14 rfl rfl rfl ?_
          refine r_iconst (v := 3) 16 dX7_alter_15 rfl rfl ?_
          refine r_icmp_gt 31 19 dX7_alter_16 rfl rfl (fun h16 => absurd h16 n3) (fun h16 => ?_)
          refine r_aload_n (i := 0) 20 dX7_alter_19 rfl rfl rfl ?_
          refine r_getf 23 dX7_alter_20 rfl fl_X7_10 rfl rfl ?_
          refine r_iload_n (i := 2) 24 dX7_alter_23 rfl rfl rfl ?_
          refine r_iload_n (i := 3) 25 dX7_alter_24 rfl rfl rfl ?_
          refine r_callVi [1, 2, 3, 4, 5, 6, 7, 8] 28 dX7_alter_25 rfl ykX0_mayBecome lk_X7_172 (e_mayBecome (nI k) v) rfl rfl (sb_now _ _ _ _ _ _ _ _ _ _ _ _ _ _) rfl rfl rfl rfl ⟨Nat.le_refl _, Nat.le_refl _⟩ ?_
          rw [hN.th, hm]
          refine r_if_ne 33 31 dX7_alter_28 rfl rfl (fun h28 => absurd rfl h28) (fun h28 => ?_)
          refine r_iconst (v := (-1)) 32 dX7_alter_31 rfl rfl ?_
          exact r_reti dX7_alter_32 rfl (by first | rfl | exact bI_nar _) ⟨Nat.le_refl _, Nat.le_refl _⟩ (fun _ => rfl) (⟨rfl, hC2⟩)
        | true =>
          rw [if_pos rfl, if_pos rfl]
          rcases (by omega : k = 0 ∨ k = 1 ∨ k = 2 ∨ k = 3) with rfl | rfl | rfl | rfl
          · obtain ⟨j, hj, rfl⟩ := mbc_num hm
            rw [nI_clamp (n := j) (by omega)]
            refine r_istore (i := 4) 8 dX7_alter_6 rfl rfl ?_
            refine r_iload (i := 4) 10 dX7_alter_8 rfl rfl ?_
            refine r_iconst (v := (-1)) 11 dX7_alter_10 rfl rfl ?_
            refine r_icmp_eq 31 14 dX7_alter_11 rfl rfl (fun h11 => absurd h11 (ne (by omega))) (fun h11 => ?_)
            refine r_iload_n (i := 2) 15 dX7_alter_14 rfl rfl rfl ?_
            refine r_iconst (v := 3) 16 dX7_alter_15 rfl rfl ?_
            refine r_icmp_gt 31 19 dX7_alter_16 rfl rfl (fun h16 => absurd h16 n3) (fun h16 => ?_)
            refine r_aload_n (i := 0) 20 dX7_alter_19 rfl rfl rfl ?_
            refine r_getf 23 dX7_alter_20 rfl fl_X7_10 rfl rfl ?_
            refine r_iload_n (i := 2) 24 dX7_alter_23 rfl rfl rfl ?_
            refine r_iload_n (i := 3) 25 dX7_alter_24 rfl rfl rfl ?_
            refine r_callVi [1, 2, 3, 4, 5, 6, 7, 8] 28 dX7_alter_25 rfl ykX0_mayBecome lk_X7_172 (e_mayBecome (nI 0) (nI j)) rfl rfl (sb_now _ _ _ _ _ _ _ _ _ _ _ _ _ _) rfl rfl rfl rfl ⟨Nat.le_refl _, Nat.le_refl _⟩ ?_
            rw [hN.th, hm]
            refine r_if_ne 33 31 dX7_alter_28 rfl rfl (fun h28 => ?_) (fun h28 => absurd h28 (by decide))
            refine r_iload_n (i := 2) 34 dX7_alter_33 rfl rfl rfl ?_
            refine r_tabIn 60 dX7_alter_34 (by decide) (by decide) rfl rfl ?_
            refine r_aload_n (i := 0) 61 dX7_alter_60 rfl rfl rfl ?_
            refine r_getf 64 dX7_alter_61 rfl fl_X7_10 rfl rfl ?_
            refine r_getf 67 dX7_alter_64 rfl fl_X7_127 rfl rfl ?_
            refine r_iload_n (i := 1) 68 dX7_alter_67 rfl rfl rfl ?_
            refine r_iload_n (i := 3) 69 dX7_alter_68 rfl rfl rfl ?_
            refine r_iast 70 dX7_alter_69 rfl rfl (by assumption) ?_
            refine r_goto 133 dX7_alter_70 rfl ?_
            refine r_iload (i := 4) 135 dX7_alter_133 rfl rfl ?_
            exact r_reti dX7_alter_135 rfl (by first | rfl | exact bI_nar _) ⟨Nat.le_refl _, Nat.le_refl _⟩ (fun _ => rfl) (⟨rfl, tOk_A hT (sOk_K hT.1 (show j ≤ 4 by omega)) rfl rfl, fSK N (upd (fKd N) i (nI j)), Z, kp, R, Si, Sr, Ta, I, J, H0, H1, H2, H3, tn, by rw [ec]; rfl, fok_K hN (by omega), hx, hy, ⟨ht, hb⟩, hf, hs, ⟨hk0, hk1⟩, hI, hJ, ⟨s0, s1, s2, s3⟩, hn⟩)
          · have hm' : inb (nI (sN (tA S))) v = true := hm
            obtain ⟨j, hj, rfl⟩ := inb_nI (by omega) hm'
            rw [nI_clamp (n := j) (by omega)]
            refine r_istore (i := 4) 8 dX7_alter_6 rfl rfl ?_
            refine r_iload (i := 4) 10 dX7_alter_8 rfl rfl ?_
            refine r_iconst (v := (-1)) 11 dX7_alter_10 rfl rfl ?_
            refine r_icmp_eq 31 14 dX7_alter_11 rfl rfl (fun h11 => absurd h11 (ne (by omega))) (fun h11 => ?_)
            refine r_iload_n (i := 2) 15 dX7_alter_14 rfl rfl rfl ?_
            refine r_iconst (v := 3) 16 dX7_alter_15 rfl rfl ?_
            refine r_icmp_gt 31 19 dX7_alter_16 rfl rfl (fun h16 => absurd h16 n3) (fun h16 => ?_)
            refine r_aload_n (i := 0) 20 dX7_alter_19 rfl rfl rfl ?_
            refine r_getf 23 dX7_alter_20 rfl fl_X7_10 rfl rfl ?_
            refine r_iload_n (i := 2) 24 dX7_alter_23 rfl rfl rfl ?_
            refine r_iload_n (i := 3) 25 dX7_alter_24 rfl rfl rfl ?_
            refine r_callVi [1, 2, 3, 4, 5, 6, 7, 8] 28 dX7_alter_25 rfl ykX0_mayBecome lk_X7_172 (e_mayBecome (nI 1) (nI j)) rfl rfl (sb_now _ _ _ _ _ _ _ _ _ _ _ _ _ _) rfl rfl rfl rfl ⟨Nat.le_refl _, Nat.le_refl _⟩ ?_
            rw [hN.th, hm]
            refine r_if_ne 33 31 dX7_alter_28 rfl rfl (fun h28 => ?_) (fun h28 => absurd h28 (by decide))
            refine r_iload_n (i := 2) 34 dX7_alter_33 rfl rfl rfl ?_
            refine r_tabIn 73 dX7_alter_34 (by decide) (by decide) rfl rfl ?_
            refine r_aload_n (i := 0) 74 dX7_alter_73 rfl rfl rfl ?_
            refine r_getf 77 dX7_alter_74 rfl fl_X7_10 rfl rfl ?_
            refine r_getf 80 dX7_alter_77 rfl fl_X7_131 rfl rfl ?_
            refine r_iload_n (i := 1) 81 dX7_alter_80 rfl rfl rfl ?_
            refine r_iload_n (i := 3) 82 dX7_alter_81 rfl rfl rfl ?_
            refine r_iast 83 dX7_alter_82 rfl rfl (by assumption) ?_
            refine r_goto 133 dX7_alter_83 rfl ?_
            refine r_iload (i := 4) 135 dX7_alter_133 rfl rfl ?_
            exact r_reti dX7_alter_135 rfl (by first | rfl | exact bI_nar _) ⟨Nat.le_refl _, Nat.le_refl _⟩ (fun _ => rfl) (⟨rfl, tOk_A hT (sOk_F hT.1 hj) rfl rfl, fSF N (upd (fFi N) i (nI j)), Z, kp, R, Si, Sr, Ta, I, J, H0, H1, H2, H3, tn, by rw [ec]; rfl, fok_F hN hj, hx, hy, ⟨ht, hb⟩, hf, hs, ⟨hk0, hk1⟩, hI, hJ, ⟨s0, s1, s2, s3⟩, hn⟩)
          · have hm' : inb (nI (sN (tA S))) v = true := hm
            obtain ⟨j, hj, rfl⟩ := inb_nI (by omega) hm'
            rw [nI_clamp (n := j) (by omega)]
            refine r_istore (i := 4) 8 dX7_alter_6 rfl rfl ?_
            refine r_iload (i := 4) 10 dX7_alter_8 rfl rfl ?_
            refine r_iconst (v := (-1)) 11 dX7_alter_10 rfl rfl ?_
            refine r_icmp_eq 31 14 dX7_alter_11 rfl rfl (fun h11 => absurd h11 (ne (by omega))) (fun h11 => ?_)
            refine r_iload_n (i := 2) 15 dX7_alter_14 rfl rfl rfl ?_
            refine r_iconst (v := 3) 16 dX7_alter_15 rfl rfl ?_
            refine r_icmp_gt 31 19 dX7_alter_16 rfl rfl (fun h16 => absurd h16 n3) (fun h16 => ?_)
            refine r_aload_n (i := 0) 20 dX7_alter_19 rfl rfl rfl ?_
            refine r_getf 23 dX7_alter_20 rfl fl_X7_10 rfl rfl ?_
            refine r_iload_n (i := 2) 24 dX7_alter_23 rfl rfl rfl ?_
            refine r_iload_n (i := 3) 25 dX7_alter_24 rfl rfl rfl ?_
            refine r_callVi [1, 2, 3, 4, 5, 6, 7, 8] 28 dX7_alter_25 rfl ykX0_mayBecome lk_X7_172 (e_mayBecome (nI 2) (nI j)) rfl rfl (sb_now _ _ _ _ _ _ _ _ _ _ _ _ _ _) rfl rfl rfl rfl ⟨Nat.le_refl _, Nat.le_refl _⟩ ?_
            rw [hN.th, hm]
            refine r_if_ne 33 31 dX7_alter_28 rfl rfl (fun h28 => ?_) (fun h28 => absurd h28 (by decide))
            refine r_iload_n (i := 2) 34 dX7_alter_33 rfl rfl rfl ?_
            refine r_tabIn 86 dX7_alter_34 (by decide) (by decide) rfl rfl ?_
            refine r_aload_n (i := 0) 87 dX7_alter_86 rfl rfl rfl ?_
            refine r_getf 90 dX7_alter_87 rfl fl_X7_10 rfl rfl ?_
            refine r_getf 93 dX7_alter_90 rfl fl_X7_134 rfl rfl ?_
            refine r_iload_n (i := 1) 94 dX7_alter_93 rfl rfl rfl ?_
            refine r_iload_n (i := 3) 95 dX7_alter_94 rfl rfl rfl ?_
            refine r_iast 96 dX7_alter_95 rfl rfl (by assumption) ?_
            refine r_goto 133 dX7_alter_96 rfl ?_
            refine r_iload (i := 4) 135 dX7_alter_133 rfl rfl ?_
            exact r_reti dX7_alter_135 rfl (by first | rfl | exact bI_nar _) ⟨Nat.le_refl _, Nat.le_refl _⟩ (fun _ => rfl) (⟨rfl, tOk_A hT (sOk_S hT.1 hj) rfl rfl, fSS N (upd (fSe N) i (nI j)), Z, kp, R, Si, Sr, Ta, I, J, H0, H1, H2, H3, tn, by rw [ec]; rfl, fok_S hN hj, hx, hy, ⟨ht, hb⟩, hf, hs, ⟨hk0, hk1⟩, hI, hJ, ⟨s0, s1, s2, s3⟩, hn⟩)
          · have hv : ∃ j, j ≤ 1 ∧ v = nI j := by
              have h2 : decide (v = 0 ∨ v = 1) = true := hm
              rcases of_decide_eq_true h2 with rfl | rfl
              · exact ⟨0, by decide, rfl⟩
              · exact ⟨1, by decide, rfl⟩
            obtain ⟨j, hj, rfl⟩ := hv
            rw [nI_clamp (n := j) (by omega)]
            refine r_istore (i := 4) 8 dX7_alter_6 rfl rfl ?_
            refine r_iload (i := 4) 10 dX7_alter_8 rfl rfl ?_
            refine r_iconst (v := (-1)) 11 dX7_alter_10 rfl rfl ?_
            refine r_icmp_eq 31 14 dX7_alter_11 rfl rfl (fun h11 => absurd h11 (ne (by omega))) (fun h11 => ?_)
            refine r_iload_n (i := 2) 15 dX7_alter_14 rfl rfl rfl ?_
            refine r_iconst (v := 3) 16 dX7_alter_15 rfl rfl ?_
            refine r_icmp_gt 31 19 dX7_alter_16 rfl rfl (fun h16 => absurd h16 n3) (fun h16 => ?_)
            refine r_aload_n (i := 0) 20 dX7_alter_19 rfl rfl rfl ?_
            refine r_getf 23 dX7_alter_20 rfl fl_X7_10 rfl rfl ?_
            refine r_iload_n (i := 2) 24 dX7_alter_23 rfl rfl rfl ?_
            refine r_iload_n (i := 3) 25 dX7_alter_24 rfl rfl rfl ?_
            refine r_callVi [1, 2, 3, 4, 5, 6, 7, 8] 28 dX7_alter_25 rfl ykX0_mayBecome lk_X7_172 (e_mayBecome (nI 3) (nI j)) rfl rfl (sb_now _ _ _ _ _ _ _ _ _ _ _ _ _ _) rfl rfl rfl rfl ⟨Nat.le_refl _, Nat.le_refl _⟩ ?_
            rw [hN.th, hm]
            refine r_if_ne 33 31 dX7_alter_28 rfl rfl (fun h28 => ?_) (fun h28 => absurd h28 (by decide))
            refine r_iload_n (i := 2) 34 dX7_alter_33 rfl rfl rfl ?_
            refine r_tabOut 99 dX7_alter_34 (by decide) rfl ?_
            refine r_aload_n (i := 0) 100 dX7_alter_99 rfl rfl rfl ?_
            refine r_getf 103 dX7_alter_100 rfl fl_X7_10 rfl rfl ?_
            refine r_iload_n (i := 3) 104 dX7_alter_103 rfl rfl rfl ?_
            refine r_iload (i := 4) 106 dX7_alter_104 rfl rfl ?_
            refine r_icmp_ne 119 109 dX7_alter_106 rfl rfl (fun h106 => ?_) (fun h106 => ?_)
            · have z := bne_of (by omega) (by omega) h106
              refine r_aload_n (i := 0) 120 dX7_alter_119 rfl rfl rfl ?_
              refine r_getf 123 dX7_alter_120 rfl fl_X7_10 rfl rfl ?_
              refine r_getf 126 dX7_alter_123 rfl fl_X7_110 rfl rfl ?_
              rw [hx]
              refine r_iload_n (i := 1) 127 dX7_alter_126 rfl rfl rfl ?_
              refine r_callSi [] 130 dX7_alter_127 rfl ykX7_undone lk_X7_175 (e_undone (by omega)) rfl rfl rfl ⟨Nat.le_refl _, Nat.le_refl _⟩ ?_
              refine r_putf 133 dX7_alter_130 rfl fl_X7_110 rfl rfl (fun _ _ => ⟨rfl, rfl⟩) (fun z => absurd z Bool.false_ne_true) ?_
              refine r_iload (i := 4) 135 dX7_alter_133 rfl rfl ?_
              exact r_reti dX7_alter_135 rfl (by first | rfl | exact bI_nar _) ⟨Nat.le_refl _, Nat.le_refl _⟩ (fun _ => rfl) (⟨rfl, ⟨hT.1, bitTo_lt hT.2.1 hi, hT.2.2⟩, fSXY N (nI (bitTo (tX S) i j)) (fYr N), Z, kp, R, Si, Sr, Ta, I, J, H0, H1, H2, H3, tn, by rw [bitTo]; first | (rw [if_neg z]; rfl) | (rw [if_pos z, ← hx]; rfl), hN, rfl, hy, ⟨ht, hb⟩, hf, hs, ⟨hk0, hk1⟩, hI, hJ, ⟨s0, s1, s2, s3⟩, hn⟩)
            · have z := beq_of (by omega) (by omega) h106
              refine r_aload_n (i := 0) 110 dX7_alter_109 rfl rfl rfl ?_
              refine r_getf 113 dX7_alter_110 rfl fl_X7_10 rfl rfl ?_
              refine r_getf 116 dX7_alter_113 rfl fl_X7_110 rfl rfl ?_
              refine r_goto 130 dX7_alter_116 rfl ?_
              refine r_putf 133 dX7_alter_130 rfl fl_X7_110 rfl rfl (fun _ _ => ⟨rfl, rfl⟩) (fun z => absurd z Bool.false_ne_true) ?_
              refine r_iload (i := 4) 135 dX7_alter_133 rfl rfl ?_
              exact r_reti dX7_alter_135 rfl (by first | rfl | exact bI_nar _) ⟨Nat.le_refl _, Nat.le_refl _⟩ (fun _ => rfl) (⟨rfl, ⟨hT.1, bitTo_lt hT.2.1 hi, hT.2.2⟩, fSXY N (nI (bitTo (tX S) i j)) (fYr N), Z, kp, R, Si, Sr, Ta, I, J, H0, H1, H2, H3, tn, by rw [bitTo]; first | (rw [if_neg z]; rfl) | (rw [if_pos z, ← hx]; rfl), hN, rfl, hy, ⟨ht, hb⟩, hf, hs, ⟨hk0, hk1⟩, hI, hJ, ⟨s0, s1, s2, s3⟩, hn⟩)
end XC
