section XG
variable {d : Nat} {A : sA} {S : sT} {w : mm_W} {N Z : FlT} {kp : Nat → Int32} {R : RdT} {Si : SiT} {Sr : SrT} {Ta : TaT} {I J : FlT} {H0 H1 H2 H3 : ShT} {tn : Int32}
theorem tOk_keep (hT : tOk S) (k : Nat) : tOk (tSI S (fun i => if i = k then some (tA S, tX S, tY S) else tI S i)) := ⟨hT.1, hT.2.1, hT.2.2.1, hT.2.2.2.1, hT.2.2.2.2.1, hT.2.2.2.2.2.1, hT.2.2.2.2.2.2.1, fun i hi q hq => by
  by_cases z : i = k
  · have hq2 : (if i = k then some (tA S, tX S, tY S) else tI S i) = some q := hq
    rw [if_pos z] at hq2
    cases hq2
    exact ⟨hT.1, hT.2.1, hT.2.2.1, rfl, rfl⟩
  · have hq2 : (if i = k then some (tA S, tX S, tY S) else tI S i) = some q := hq
    rw [if_neg z] at hq2
    exact hT.2.2.2.2.2.2.2.1 i hi q hq2, hT.2.2.2.2.2.2.2.2⟩
theorem tOk_back (hT : tOk S) {q : sA × Nat × Nat} (hq : sIm S q) : tOk (q.1, q.2.1, q.2.2, S.2.2.2) := ⟨hq.1, hq.2.1, hq.2.2.1, hT.2.2.2.1, hT.2.2.2.2.1, hT.2.2.2.2.2.1, by show vok (tV S) (sN q.1); rw [hq.2.2.2.1]; exact hT.2.2.2.2.2.2.1, fun i hi r hr => by
  obtain ⟨a, b, c, e, f⟩ := hT.2.2.2.2.2.2.2.1 i hi r hr
  exact ⟨a, b, c, by rw [e]; exact hq.2.2.2.1.symm, by rw [f]; exact hq.2.2.2.2.symm⟩, hT.2.2.2.2.2.2.2.2⟩
theorem lt_not {a b : Int32} (h : a < b) : ¬ b ≤ a := Int32.not_le.mpr h
theorem p_keep (hC : CX S w) (k : Int32) : mm_e (d + 2) yX7_keep mX7_keep [.ref 0, .int k] w (QX (s_keep S k).1 (s_keep S k).2) := by
  have hC0 := hC
  obtain ⟨hT, N, Z, kp, R, Si, Sr, Ta, I, J, H0, H1, H2, H3, tn, rfl, hN, hx, hy, ⟨ht, hb⟩, hf, hs, ⟨hk0, hk1⟩, hI, hJ, ⟨s0, s1, s2, s3⟩, hn⟩ := hC
  have l0 := lt31 hN hT.2.1
  have h6 := hN.n6
  have h4 := hN.g4
  have h5 := hN.b4
  refine e_of [some (.ref 0), some (.int k), none] rfl (by decide) rfl rfl rfl ?_
  rw [s_keep]
  rcases pk_ix k (n := 2) (by decide) with q | q | ⟨j, hj, rfl⟩
  · rw [show inb 2 k = false from inb_f1 q]
    refine r_iload_n (i := 1) 1 dX7_keep_0 rfl rfl rfl ?_
    refine r_if_lt 9 4 dX7_keep_1 rfl rfl (fun h1 => ?_) (fun h1 => absurd q h1)
    refine r_iconst (v := (-1)) 10 dX7_keep_9 rfl rfl ?_
    exact r_reti dX7_keep_10 rfl (by first | rfl | exact bI_nar _) ⟨Nat.le_refl _, Nat.le_refl _⟩ (fun _ => rfl) (⟨rfl, hC0⟩)
  · rw [show inb 2 k = false from inb_f2 q]
    refine r_iload_n (i := 1) 1 dX7_keep_0 rfl rfl rfl ?_
    refine r_if_lt 9 4 dX7_keep_1 rfl rfl (fun h1 => ?_) (fun h1 => ?_)
    · refine r_iconst (v := (-1)) 10 dX7_keep_9 rfl rfl ?_
      exact r_reti dX7_keep_10 rfl (by first | rfl | exact bI_nar _) ⟨Nat.le_refl _, Nat.le_refl _⟩ (fun _ => rfl) (⟨rfl, hC0⟩)
    · refine r_iload_n (i := 1) 5 dX7_keep_4 rfl rfl rfl ?_
      refine r_iconst (v := 2) 6 dX7_keep_5 rfl rfl ?_
      refine r_icmp_lt 11 9 dX7_keep_6 rfl rfl (fun h6 => absurd q (lt_not h6)) (fun h6 => ?_)
      refine r_iconst (v := (-1)) 10 dX7_keep_9 rfl rfl ?_
      exact r_reti dX7_keep_10 rfl (by first | rfl | exact bI_nar _) ⟨Nat.le_refl _, Nat.le_refl _⟩ (fun _ => rfl) (⟨rfl, hC0⟩)
  · rcases (by omega : j = 0 ∨ j = 1) with rfl | rfl
    · rw [show inb 2 (nI 0) = true from rfl, show (nI 0).toNatClampNeg = 0 from rfl, if_pos rfl]
      refine r_iload_n (i := 1) 1 dX7_keep_0 rfl rfl rfl ?_
      refine r_if_lt 9 4 dX7_keep_1 rfl rfl (fun h1 => absurd h1 (by decide)) (fun h1 => ?_)
      refine r_iload_n (i := 1) 5 dX7_keep_4 rfl rfl rfl ?_
      refine r_iconst (v := 2) 6 dX7_keep_5 rfl rfl ?_
      refine r_icmp_lt 11 9 dX7_keep_6 rfl rfl (fun h6 => ?_) (fun h6 => absurd (by decide) h6)
      refine r_aload_n (i := 0) 12 dX7_keep_11 rfl rfl rfl ?_
      refine r_getf 15 dX7_keep_12 rfl fl_X7_23 rfl rfl ?_
      refine r_iload_n (i := 1) 16 dX7_keep_15 rfl rfl rfl ?_
      refine r_zald 17 dX7_keep_16 rfl rfl (vp_in_nI (by decide) (by decide)) ?_
      rw [show kp (nI 0).toNatClampNeg = bI _ from hk0]
      refine r_callSi [] 20 dX7_keep_17 rfl ykX7_bit lk_X7_117 (e_bit _) rfl rfl rfl ⟨Nat.le_refl _, Nat.le_refl _⟩ ?_
      refine r_istore_n (i := 2) 21 dX7_keep_20 rfl rfl rfl ?_
      refine r_aload_n (i := 0) 22 dX7_keep_21 rfl rfl rfl ?_
      refine r_getf 25 dX7_keep_22 rfl fl_X7_19 rfl rfl ?_
      refine r_iload_n (i := 1) 26 dX7_keep_25 rfl rfl rfl ?_
      refine r_aald3 27 dX7_keep_26 rfl rfl (vp_in_nI (by decide) (by decide)) (rfl) ?_
      refine r_aload_n (i := 0) 28 dX7_keep_27 rfl rfl rfl ?_
      refine r_getf 31 dX7_keep_28 rfl fl_X7_10 rfl rfl ?_
      refine r_callVu [40, 41, 42, 43, 44, 45, 46, 47, 1, 2, 3, 4, 5, 6, 7, 8] 34 dX7_keep_31 rfl ykX0_copyFrom lk_X7_88 (e_copyFrom) rfl rfl (sb_keep0 _ _ _ _ _ _ _ _ _ _ _ _ _ _) rfl rfl rfl rfl ⟨Nat.le_refl _, Nat.le_refl _⟩ ?_
      rw [bk_keep0]
      refine r_aload_n (i := 0) 35 dX7_keep_34 rfl rfl rfl ?_
      refine r_getf 38 dX7_keep_35 rfl fl_X7_23 rfl rfl ?_
      refine r_iload_n (i := 1) 39 dX7_keep_38 rfl rfl rfl ?_
      refine r_iconst (v := 1) 40 dX7_keep_39 rfl rfl ?_
      refine r_zast 41 dX7_keep_40 rfl rfl (vp_in_nI (by decide) (by decide)) (rfl) ?_
      refine r_iload_n (i := 2) 42 dX7_keep_41 rfl rfl rfl ?_
      exact r_reti dX7_keep_42 rfl (by first | rfl | exact bI_nar _) ⟨Nat.le_refl _, Nat.le_refl _⟩ (fun _ => rfl) (⟨rfl, tOk_keep hT 0, N, Z, upd kp 0 1, R, Si, Sr, Ta, fCpy I N, J, H0, H1, H2, H3, tn, rfl, hN, hx, hy, ⟨ht, hb⟩, hf, hs, ⟨rfl, hk1⟩, (fun q hq => by cases hq; exact ⟨fok_cpy hN, hx, hy⟩), hJ, ⟨s0, s1, s2, s3⟩, hn⟩)
    · rw [show inb 2 (nI 1) = true from rfl, show (nI 1).toNatClampNeg = 1 from rfl, if_pos rfl]
      refine r_iload_n (i := 1) 1 dX7_keep_0 rfl rfl rfl ?_
      refine r_if_lt 9 4 dX7_keep_1 rfl rfl (fun h1 => absurd h1 (by decide)) (fun h1 => ?_)
      refine r_iload_n (i := 1) 5 dX7_keep_4 rfl rfl rfl ?_
      refine r_iconst (v := 2) 6 dX7_keep_5 rfl rfl ?_
      refine r_icmp_lt 11 9 dX7_keep_6 rfl rfl (fun h6 => ?_) (fun h6 => absurd (by decide) h6)
      refine r_aload_n (i := 0) 12 dX7_keep_11 rfl rfl rfl ?_
      refine r_getf 15 dX7_keep_12 rfl fl_X7_23 rfl rfl ?_
      refine r_iload_n (i := 1) 16 dX7_keep_15 rfl rfl rfl ?_
      refine r_zald 17 dX7_keep_16 rfl rfl (vp_in_nI (by decide) (by decide)) ?_
      rw [show kp (nI 1).toNatClampNeg = bI _ from hk1]
      refine r_callSi [] 20 dX7_keep_17 rfl ykX7_bit lk_X7_117 (e_bit _) rfl rfl rfl ⟨Nat.le_refl _, Nat.le_refl _⟩ ?_
      refine r_istore_n (i := 2) 21 dX7_keep_20 rfl rfl rfl ?_
      refine r_aload_n (i := 0) 22 dX7_keep_21 rfl rfl rfl ?_
      refine r_getf 25 dX7_keep_22 rfl fl_X7_19 rfl rfl ?_
      refine r_iload_n (i := 1) 26 dX7_keep_25 rfl rfl rfl ?_
      refine r_aald3 27 dX7_keep_26 rfl rfl (vp_in_nI (by decide) (by decide)) (rfl) ?_
      refine r_aload_n (i := 0) 28 dX7_keep_27 rfl rfl rfl ?_
      refine r_getf 31 dX7_keep_28 rfl fl_X7_10 rfl rfl ?_
      refine r_callVu [48, 49, 50, 51, 52, 53, 54, 55, 1, 2, 3, 4, 5, 6, 7, 8] 34 dX7_keep_31 rfl ykX0_copyFrom lk_X7_88 (e_copyFrom) rfl rfl (sb_keep1 _ _ _ _ _ _ _ _ _ _ _ _ _ _) rfl rfl rfl rfl ⟨Nat.le_refl _, Nat.le_refl _⟩ ?_
      rw [bk_keep1]
      refine r_aload_n (i := 0) 35 dX7_keep_34 rfl rfl rfl ?_
      refine r_getf 38 dX7_keep_35 rfl fl_X7_23 rfl rfl ?_
      refine r_iload_n (i := 1) 39 dX7_keep_38 rfl rfl rfl ?_
      refine r_iconst (v := 1) 40 dX7_keep_39 rfl rfl ?_
      refine r_zast 41 dX7_keep_40 rfl rfl (vp_in_nI (by decide) (by decide)) (rfl) ?_
      refine r_iload_n (i := 2) 42 dX7_keep_41 rfl rfl rfl ?_
      exact r_reti dX7_keep_42 rfl (by first | rfl | exact bI_nar _) ⟨Nat.le_refl _, Nat.le_refl _⟩ (fun _ => rfl) (⟨rfl, tOk_keep hT 1, N, Z, upd kp 1 1, R, Si, Sr, Ta, I, fCpy J N, H0, H1, H2, H3, tn, rfl, hN, hx, hy, ⟨ht, hb⟩, hf, hs, ⟨hk0, rfl⟩, hI, (fun q hq => by cases hq; exact ⟨fok_cpy hN, hx, hy⟩), ⟨s0, s1, s2, s3⟩, hn⟩)
theorem p_back (hC : CX S w) (k : Int32) : mm_e (d + 2) yX7_back mX7_back [.ref 0, .int k] w (QX (s_back S k).1 (s_back S k).2) := by
  have hC0 := hC
  obtain ⟨hT, N, Z, kp, R, Si, Sr, Ta, I, J, H0, H1, H2, H3, tn, rfl, hN, hx, hy, ⟨ht, hb⟩, hf, hs, ⟨hk0, hk1⟩, hI, hJ, ⟨s0, s1, s2, s3⟩, hn⟩ := hC
  have l0 := lt31 hN hT.2.1
  have h6 := hN.n6
  have h4 := hN.g4
  have h5 := hN.b4
  refine e_of [some (.ref 0), some (.int k)] rfl (by decide) rfl rfl rfl ?_
  rw [s_back]
  rcases pk_ix k (n := 2) (by decide) with q | q | ⟨j, hj, rfl⟩
  · rw [show inb 2 k = false from inb_f1 q]
    refine r_iload_n (i := 1) 1 dX7_back_0 rfl rfl rfl ?_
    refine r_if_lt 9 4 dX7_back_1 rfl rfl (fun h1 => ?_) (fun h1 => absurd q h1)
    refine r_iconst (v := (-1)) 10 dX7_back_9 rfl rfl ?_
    exact r_reti dX7_back_10 rfl (by first | rfl | exact bI_nar _) ⟨Nat.le_refl _, Nat.le_refl _⟩ (fun _ => rfl) (⟨rfl, hC0⟩)
  · rw [show inb 2 k = false from inb_f2 q]
    refine r_iload_n (i := 1) 1 dX7_back_0 rfl rfl rfl ?_
    refine r_if_lt 9 4 dX7_back_1 rfl rfl (fun h1 => ?_) (fun h1 => ?_)
    · refine r_iconst (v := (-1)) 10 dX7_back_9 rfl rfl ?_
      exact r_reti dX7_back_10 rfl (by first | rfl | exact bI_nar _) ⟨Nat.le_refl _, Nat.le_refl _⟩ (fun _ => rfl) (⟨rfl, hC0⟩)
    · refine r_iload_n (i := 1) 5 dX7_back_4 rfl rfl rfl ?_
      refine r_iconst (v := 2) 6 dX7_back_5 rfl rfl ?_
      refine r_icmp_lt 11 9 dX7_back_6 rfl rfl (fun h6 => absurd q (lt_not h6)) (fun h6 => ?_)
      refine r_iconst (v := (-1)) 10 dX7_back_9 rfl rfl ?_
      exact r_reti dX7_back_10 rfl (by first | rfl | exact bI_nar _) ⟨Nat.le_refl _, Nat.le_refl _⟩ (fun _ => rfl) (⟨rfl, hC0⟩)
  · rcases (by omega : j = 0 ∨ j = 1) with rfl | rfl
    · rw [show inb 2 (nI 0) = true from rfl, show (nI 0).toNatClampNeg = 0 from rfl, if_pos rfl]
      cases hi : tI S 0 with
      | none =>
        have hk' : kp 0 = 0 := by rw [hk0, hi]; rfl
        refine r_iload_n (i := 1) 1 dX7_back_0 rfl rfl rfl ?_
        refine r_if_lt 9 4 dX7_back_1 rfl rfl (fun h1 => absurd h1 (by decide)) (fun h1 => ?_)
        refine r_iload_n (i := 1) 5 dX7_back_4 rfl rfl rfl ?_
        refine r_iconst (v := 2) 6 dX7_back_5 rfl rfl ?_
        refine r_icmp_lt 11 9 dX7_back_6 rfl rfl (fun h6 => ?_) (fun h6 => absurd (by decide) h6)
        refine r_aload_n (i := 0) 12 dX7_back_11 rfl rfl rfl ?_
        refine r_getf 15 dX7_back_12 rfl fl_X7_23 rfl rfl ?_
        refine r_iload_n (i := 1) 16 dX7_back_15 rfl rfl rfl ?_
        refine r_zald 17 dX7_back_16 rfl rfl (vp_in_nI (by decide) (by decide)) ?_
        refine r_if_ne 23 20 dX7_back_17 rfl rfl (fun h17 => absurd hk' h17) (fun h17 => ?_)
        refine r_bipush (v := (-2)) 22 dX7_back_20 rfl rfl ?_
        exact r_reti dX7_back_22 rfl (by first | rfl | exact bI_nar _) ⟨Nat.le_refl _, Nat.le_refl _⟩ (fun _ => rfl) (⟨rfl, hC0⟩)
      | some q =>
        have hk' : kp 0 = 1 := by rw [hk0, hi]; rfl
        obtain ⟨m1, m2, m3⟩ := hI q hi
        have hm := hT.2.2.2.2.2.2.2.1 0 (by decide) q hi
        refine r_iload_n (i := 1) 1 dX7_back_0 rfl rfl rfl ?_
        refine r_if_lt 9 4 dX7_back_1 rfl rfl (fun h1 => absurd h1 (by decide)) (fun h1 => ?_)
        refine r_iload_n (i := 1) 5 dX7_back_4 rfl rfl rfl ?_
        refine r_iconst (v := 2) 6 dX7_back_5 rfl rfl ?_
        refine r_icmp_lt 11 9 dX7_back_6 rfl rfl (fun h6 => ?_) (fun h6 => absurd (by decide) h6)
        refine r_aload_n (i := 0) 12 dX7_back_11 rfl rfl rfl ?_
        refine r_getf 15 dX7_back_12 rfl fl_X7_23 rfl rfl ?_
        refine r_iload_n (i := 1) 16 dX7_back_15 rfl rfl rfl ?_
        refine r_zald 17 dX7_back_16 rfl rfl (vp_in_nI (by decide) (by decide)) ?_
        refine r_if_ne 23 20 dX7_back_17 rfl rfl (fun h17 => ?_) (fun h17 => absurd (hk'.symm.trans h17) (by decide))
        refine r_aload_n (i := 0) 24 dX7_back_23 rfl rfl rfl ?_
        refine r_getf 27 dX7_back_24 rfl fl_X7_10 rfl rfl ?_
        refine r_aload_n (i := 0) 28 dX7_back_27 rfl rfl rfl ?_
        refine r_getf 31 dX7_back_28 rfl fl_X7_19 rfl rfl ?_
        refine r_iload_n (i := 1) 32 dX7_back_31 rfl rfl rfl ?_
        refine r_aald3 33 dX7_back_32 rfl rfl (vp_in_nI (by decide) (by decide)) (rfl) ?_
        refine r_callVu [1, 2, 3, 4, 5, 6, 7, 8, 40, 41, 42, 43, 44, 45, 46, 47] 36 dX7_back_33 rfl ykX0_copyFrom lk_X7_88 (e_copyFrom) rfl rfl (sb_back0 _ _ _ _ _ _ _ _ _ _ _ _ _ _) rfl rfl rfl rfl ⟨Nat.le_refl _, Nat.le_refl _⟩ ?_
        rw [bk_back0]
        refine r_aload_n (i := 0) 37 dX7_back_36 rfl rfl rfl ?_
        refine r_getf 40 dX7_back_37 rfl fl_X7_10 rfl rfl ?_
        refine r_getf 43 dX7_back_40 rfl fl_X7_107 rfl rfl ?_
        exact r_reti dX7_back_43 rfl (by first | rfl | exact bI_nar _) ⟨Nat.le_refl _, Nat.le_refl _⟩ (fun _ => rfl) (⟨congrArg (fun z => some (Value.int z)) m3, tOk_back hT hm, fCpy N I, Z, kp, R, Si, Sr, Ta, I, J, H0, H1, H2, H3, tn, rfl, fok_cpy m1, m2, m3, ⟨ht, hb⟩, hf, hs, ⟨hk0, hk1⟩, hI, hJ, ⟨s0, s1, s2, s3⟩, hn⟩)
    · rw [show inb 2 (nI 1) = true from rfl, show (nI 1).toNatClampNeg = 1 from rfl, if_pos rfl]
      cases hi : tI S 1 with
      | none =>
        have hk' : kp 1 = 0 := by rw [hk1, hi]; rfl
        refine r_iload_n (i := 1) 1 dX7_back_0 rfl rfl rfl ?_
        refine r_if_lt 9 4 dX7_back_1 rfl rfl (fun h1 => absurd h1 (by decide)) (fun h1 => ?_)
        refine r_iload_n (i := 1) 5 dX7_back_4 rfl rfl rfl ?_
        refine r_iconst (v := 2) 6 dX7_back_5 rfl rfl ?_
        refine r_icmp_lt 11 9 dX7_back_6 rfl rfl (fun h6 => ?_) (fun h6 => absurd (by decide) h6)
        refine r_aload_n (i := 0) 12 dX7_back_11 rfl rfl rfl ?_
        refine r_getf 15 dX7_back_12 rfl fl_X7_23 rfl rfl ?_
        refine r_iload_n (i := 1) 16 dX7_back_15 rfl rfl rfl ?_
        refine r_zald 17 dX7_back_16 rfl rfl (vp_in_nI (by decide) (by decide)) ?_
        refine r_if_ne 23 20 dX7_back_17 rfl rfl (fun h17 => absurd hk' h17) (fun h17 => ?_)
        refine r_bipush (v := (-2)) 22 dX7_back_20 rfl rfl ?_
        exact r_reti dX7_back_22 rfl (by first | rfl | exact bI_nar _) ⟨Nat.le_refl _, Nat.le_refl _⟩ (fun _ => rfl) (⟨rfl, hC0⟩)
      | some q =>
        have hk' : kp 1 = 1 := by rw [hk1, hi]; rfl
        obtain ⟨m1, m2, m3⟩ := hJ q hi
        have hm := hT.2.2.2.2.2.2.2.1 1 (by decide) q hi
        refine r_iload_n (i := 1) 1 dX7_back_0 rfl rfl rfl ?_
        refine r_if_lt 9 4 dX7_back_1 rfl rfl (fun h1 => absurd h1 (by decide)) (fun h1 => ?_)
        refine r_iload_n (i := 1) 5 dX7_back_4 rfl rfl rfl ?_
        refine r_iconst (v := 2) 6 dX7_back_5 rfl rfl ?_
        refine r_icmp_lt 11 9 dX7_back_6 rfl rfl (fun h6 => ?_) (fun h6 => absurd (by decide) h6)
        refine r_aload_n (i := 0) 12 dX7_back_11 rfl rfl rfl ?_
        refine r_getf 15 dX7_back_12 rfl fl_X7_23 rfl rfl ?_
        refine r_iload_n (i := 1) 16 dX7_back_15 rfl rfl rfl ?_
        refine r_zald 17 dX7_back_16 rfl rfl (vp_in_nI (by decide) (by decide)) ?_
        refine r_if_ne 23 20 dX7_back_17 rfl rfl (fun h17 => ?_) (fun h17 => absurd (hk'.symm.trans h17) (by decide))
        refine r_aload_n (i := 0) 24 dX7_back_23 rfl rfl rfl ?_
        refine r_getf 27 dX7_back_24 rfl fl_X7_10 rfl rfl ?_
        refine r_aload_n (i := 0) 28 dX7_back_27 rfl rfl rfl ?_
        refine r_getf 31 dX7_back_28 rfl fl_X7_19 rfl rfl ?_
        refine r_iload_n (i := 1) 32 dX7_back_31 rfl rfl rfl ?_
        refine r_aald3 33 dX7_back_32 rfl rfl (vp_in_nI (by decide) (by decide)) (rfl) ?_
        refine r_callVu [1, 2, 3, 4, 5, 6, 7, 8, 48, 49, 50, 51, 52, 53, 54, 55] 36 dX7_back_33 rfl ykX0_copyFrom lk_X7_88 (e_copyFrom) rfl rfl (sb_back1 _ _ _ _ _ _ _ _ _ _ _ _ _ _) rfl rfl rfl rfl ⟨Nat.le_refl _, Nat.le_refl _⟩ ?_
        rw [bk_back1]
        refine r_aload_n (i := 0) 37 dX7_back_36 rfl rfl rfl ?_
        refine r_getf 40 dX7_back_37 rfl fl_X7_10 rfl rfl ?_
        refine r_getf 43 dX7_back_40 rfl fl_X7_107 rfl rfl ?_
        exact r_reti dX7_back_43 rfl (by first | rfl | exact bI_nar _) ⟨Nat.le_refl _, Nat.le_refl _⟩ (fun _ => rfl) (⟨congrArg (fun z => some (Value.int z)) m3, tOk_back hT hm, fCpy N J, Z, kp, R, Si, Sr, Ta, I, J, H0, H1, H2, H3, tn, rfl, fok_cpy m1, m2, m3, ⟨ht, hb⟩, hf, hs, ⟨hk0, hk1⟩, hI, hJ, ⟨s0, s1, s2, s3⟩, hn⟩)
theorem laX_ne {l : Nat} (h : l ≤ 3) (h3 : ¬ l = 3) : ¬ laX l = -1 := by
  rw [laX, if_neg h3]; exact fun z => nI_pos (n := l) (by omega) (by rw [z]; decide)
theorem tOk_H (hT : tOk S) {H : (Nat → Nat) × (Nat → Nat) × (Nat → Nat → Int32)} (h : ∀ k, k < 4 → H.1 k ≤ 3 ∧ H.2.1 k ≤ 40) : tOk (tSH S H) := ⟨hT.1, hT.2.1, hT.2.2.1, hT.2.2.2.1, hT.2.2.2.2.1, hT.2.2.2.2.2.1, hT.2.2.2.2.2.2.1, hT.2.2.2.2.2.2.2.1, h, hT.2.2.2.2.2.2.2.2.2⟩
theorem p_sheet (hC : CX S w) (k lane n : Int32) : mm_e (d + 2) yX7_sheet mX7_sheet [.ref 0, .int k, .int lane, .int n] w (QX (s_sheet S k lane n).1 (s_sheet S k lane n).2) := by
  have hC0 := hC
  obtain ⟨hT, N, Z, kp, R, Si, Sr, Ta, I, J, H0, H1, H2, H3, tn, rfl, hN, hx, hy, ⟨ht, hb⟩, hf, hs, ⟨hk0, hk1⟩, hI, hJ, ⟨s0, s1, s2, s3⟩, hn⟩ := hC
  have l0 := lt31 hN hT.2.1
  have h6 := hN.n6
  have h4 := hN.g4
  have h5 := hN.b4
  refine e_of [some (.ref 0), some (.int k), some (.int lane), some (.int n)] rfl (by decide) rfl rfl rfl ?_
  rw [s_sheet]
  suffices go : inb 4 k = true → inb 3 lane = true → n ≤ 40 → ¬ n < 0 → mm_r (d + 2) mX7_sheet (QX 1 (tSH S (updN (tH S).1 k.toNatClampNeg lane.toNatClampNeg, updN (tH S).2.1 k.toNatClampNeg n.toNatClampNeg, fun i => if i = k.toNatClampNeg then (fun _ => 0) else (tH S).2.2 i))) 29 [some (.ref 0), some (.int k), some (.int lane), some (.int n)] [] (wX N Z kp R Si Sr Ta I J H0 H1 H2 H3 tn) by
    refine r_iload_n (i := 1) 1 dX7_sheet_0 rfl rfl rfl ?_
    refine r_callSi [] 4 dX7_sheet_1 rfl ykX7_isSheet lk_X7_285 (e_isSheet k) rfl rfl rfl ⟨Nat.le_refl _, Nat.le_refl _⟩ ?_
    refine r_if_eq 20 7 dX7_sheet_4 rfl rfl (fun h4 => ?_) (fun h4 => ?_)
    · have gv : ((inb 4 k && inb 3 lane) && decide (n ≤ 40)) = false := by rw [bI_eq0 h4]; rfl
      refine r_iconst (v := (-1)) 21 dX7_sheet_20 rfl rfl ?_
      exact r_reti dX7_sheet_21 rfl (by first | rfl | exact bI_nar _) ⟨Nat.le_refl _, Nat.le_refl _⟩ (fun _ => rfl) (⟨by rw [gv]; rfl, by rw [gv]; exact hC0⟩)
    · have g1 := bI_ne0 h4
      refine r_iload_n (i := 2) 8 dX7_sheet_7 rfl rfl rfl ?_
      refine r_callSi [] 11 dX7_sheet_8 rfl ykX7_isLane lk_X7_288 (e_isLane lane) rfl rfl rfl ⟨Nat.le_refl _, Nat.le_refl _⟩ ?_
      refine r_if_eq 20 14 dX7_sheet_11 rfl rfl (fun h11 => ?_) (fun h11 => ?_)
      · have gv : ((inb 4 k && inb 3 lane) && decide (n ≤ 40)) = false := by rw [bI_eq0 h11, Bool.and_false]; rfl
        refine r_iconst (v := (-1)) 21 dX7_sheet_20 rfl rfl ?_
        exact r_reti dX7_sheet_21 rfl (by first | rfl | exact bI_nar _) ⟨Nat.le_refl _, Nat.le_refl _⟩ (fun _ => rfl) (⟨by rw [gv]; rfl, by rw [gv]; exact hC0⟩)
      · have g2 := bI_ne0 h11
        refine r_iload_n (i := 3) 15 dX7_sheet_14 rfl rfl rfl ?_
        refine r_bipush (v := 40) 17 dX7_sheet_15 rfl rfl ?_
        refine r_icmp_le 22 20 dX7_sheet_17 rfl rfl (fun h17 => ?_) (fun h17 => ?_)
        · rw [g1, g2, decide_eq_true h17, if_pos (show ((true && true) && true) = true from rfl)]
          refine r_iload_n (i := 3) 23 dX7_sheet_22 rfl rfl rfl ?_
          refine r_if_ge 29 26 dX7_sheet_23 rfl rfl (fun h23 => ?_) (fun h23 => ?_)
          · rw [if_neg (Int32.not_lt.mpr h23)]
            exact go g1 g2 h17 (Int32.not_lt.mpr h23)
          · rw [if_pos (Int32.not_le.mp h23)]
            refine r_bipush (v := (-14)) 28 dX7_sheet_26 rfl rfl ?_
            exact r_reti dX7_sheet_28 rfl (by first | rfl | exact bI_nar _) ⟨Nat.le_refl _, Nat.le_refl _⟩ (fun _ => rfl) (⟨rfl, hC0⟩)
        · have gv : ((inb 4 k && inb 3 lane) && decide (n ≤ 40)) = false := by rw [decide_eq_false h17, Bool.and_false]
          refine r_iconst (v := (-1)) 21 dX7_sheet_20 rfl rfl ?_
          exact r_reti dX7_sheet_21 rfl (by first | rfl | exact bI_nar _) ⟨Nat.le_refl _, Nat.le_refl _⟩ (fun _ => rfl) (⟨by rw [gv]; rfl, by rw [gv]; exact hC0⟩)
  intro g1 g2 h17 h23
  obtain ⟨l, hl, rfl⟩ := inb_nI (n := 3) (by decide) g2
  have gn : inb (nI 41) n = true := inb_t h23 (ngtk (k := 40) (by decide) h17)
  obtain ⟨m, hm, rfl⟩ := inb_nI (by decide) gn
  obtain ⟨j, hj, rfl⟩ := inb_nI (n := 4) (by decide) g1
  have hT' : ∀ j, j < 4 → tOk (tSH S (updN (tH S).1 j l, updN (tH S).2.1 j m, fun i => if i = j then (fun _ => 0) else (tH S).2.2 i)) := fun j hj => tOk_H hT (fun i hi => ⟨by by_cases q : i = j; (· subst q; show updN _ _ _ _ ≤ 3; rw [updN_at]; omega); (· show updN _ _ _ _ ≤ 3; rw [updN_ne _ _ q]; exact (hT.2.2.2.2.2.2.2.2.1 i hi).1), by by_cases q : i = j; (· subst q; show updN _ _ _ _ ≤ 40; rw [updN_at]; omega); (· show updN _ _ _ _ ≤ 40; rw [updN_ne _ _ q]; exact (hT.2.2.2.2.2.2.2.2.1 i hi).2)⟩)
  have el : nI l = laX l := by rw [laX, if_neg (by omega)]
  rw [nI_clamp (n := l) (by omega), nI_clamp (n := m) (by omega), nI_clamp (n := j) (by omega)]
  rcases (by omega : j = 0 ∨ j = 1 ∨ j = 2 ∨ j = 3) with rfl | rfl | rfl | rfl
  · refine r_aload_n (i := 0) 30 dX7_sheet_29 rfl rfl rfl ?_
    refine r_getf 33 dX7_sheet_30 rfl fl_X7_57 rfl rfl ?_
    refine r_iload_n (i := 1) 34 dX7_sheet_33 rfl rfl rfl ?_
    refine r_aald4 35 dX7_sheet_34 rfl rfl (vp_in_nI (by decide) (by decide)) (rfl) ?_
    refine r_iload_n (i := 2) 36 dX7_sheet_35 rfl rfl rfl ?_
    refine r_iload_n (i := 3) 37 dX7_sheet_36 rfl rfl rfl ?_
    refine r_callVu [56, 57] 40 dX7_sheet_37 rfl ykX3_renew lk_X7_291 (e_renew _ _ _ _ _) rfl rfl (sb_sh0 _ _ _ _ _ _ _ _ _ _ _ _ _ _) rfl rfl rfl rfl ⟨Nat.le_refl _, Nat.le_refl _⟩ ?_
    rw [bk_sh0]
    refine r_iconst (v := 1) 41 dX7_sheet_40 rfl rfl ?_
    exact r_reti dX7_sheet_41 rfl (by first | rfl | exact bI_nar _) ⟨Nat.le_refl _, Nat.le_refl _⟩ (fun _ => rfl) (⟨rfl, hT' 0 (by decide), N, Z, kp, R, Si, Sr, Ta, I, J, (nI l, nI m, fa_fill (fun _ => 0) H0.2.2 40), H1, H2, H3, tn, rfl, hN, hx, hy, ⟨ht, hb⟩, hf, hs, ⟨hk0, hk1⟩, hI, hJ, ⟨⟨el, rfl, fun i hi => fa_fill_in (f := fun _ => (0 : Int32)) hi⟩, s1, s2, s3⟩, hn⟩)
  · refine r_aload_n (i := 0) 30 dX7_sheet_29 rfl rfl rfl ?_
    refine r_getf 33 dX7_sheet_30 rfl fl_X7_57 rfl rfl ?_
    refine r_iload_n (i := 1) 34 dX7_sheet_33 rfl rfl rfl ?_
    refine r_aald4 35 dX7_sheet_34 rfl rfl (vp_in_nI (by decide) (by decide)) (rfl) ?_
    refine r_iload_n (i := 2) 36 dX7_sheet_35 rfl rfl rfl ?_
    refine r_iload_n (i := 3) 37 dX7_sheet_36 rfl rfl rfl ?_
    refine r_callVu [58, 59] 40 dX7_sheet_37 rfl ykX3_renew lk_X7_291 (e_renew _ _ _ _ _) rfl rfl (sb_sh1 _ _ _ _ _ _ _ _ _ _ _ _ _ _) rfl rfl rfl rfl ⟨Nat.le_refl _, Nat.le_refl _⟩ ?_
    rw [bk_sh1]
    refine r_iconst (v := 1) 41 dX7_sheet_40 rfl rfl ?_
    exact r_reti dX7_sheet_41 rfl (by first | rfl | exact bI_nar _) ⟨Nat.le_refl _, Nat.le_refl _⟩ (fun _ => rfl) (⟨rfl, hT' 1 (by decide), N, Z, kp, R, Si, Sr, Ta, I, J, H0, (nI l, nI m, fa_fill (fun _ => 0) H1.2.2 40), H2, H3, tn, rfl, hN, hx, hy, ⟨ht, hb⟩, hf, hs, ⟨hk0, hk1⟩, hI, hJ, ⟨s0, ⟨el, rfl, fun i hi => fa_fill_in (f := fun _ => (0 : Int32)) hi⟩, s2, s3⟩, hn⟩)
  · refine r_aload_n (i := 0) 30 dX7_sheet_29 rfl rfl rfl ?_
    refine r_getf 33 dX7_sheet_30 rfl fl_X7_57 rfl rfl ?_
    refine r_iload_n (i := 1) 34 dX7_sheet_33 rfl rfl rfl ?_
    refine r_aald4 35 dX7_sheet_34 rfl rfl (vp_in_nI (by decide) (by decide)) (rfl) ?_
    refine r_iload_n (i := 2) 36 dX7_sheet_35 rfl rfl rfl ?_
    refine r_iload_n (i := 3) 37 dX7_sheet_36 rfl rfl rfl ?_
    refine r_callVu [60, 61] 40 dX7_sheet_37 rfl ykX3_renew lk_X7_291 (e_renew _ _ _ _ _) rfl rfl (sb_sh2 _ _ _ _ _ _ _ _ _ _ _ _ _ _) rfl rfl rfl rfl ⟨Nat.le_refl _, Nat.le_refl _⟩ ?_
    rw [bk_sh2]
    refine r_iconst (v := 1) 41 dX7_sheet_40 rfl rfl ?_
    exact r_reti dX7_sheet_41 rfl (by first | rfl | exact bI_nar _) ⟨Nat.le_refl _, Nat.le_refl _⟩ (fun _ => rfl) (⟨rfl, hT' 2 (by decide), N, Z, kp, R, Si, Sr, Ta, I, J, H0, H1, (nI l, nI m, fa_fill (fun _ => 0) H2.2.2 40), H3, tn, rfl, hN, hx, hy, ⟨ht, hb⟩, hf, hs, ⟨hk0, hk1⟩, hI, hJ, ⟨s0, s1, ⟨el, rfl, fun i hi => fa_fill_in (f := fun _ => (0 : Int32)) hi⟩, s3⟩, hn⟩)
  · refine r_aload_n (i := 0) 30 dX7_sheet_29 rfl rfl rfl ?_
    refine r_getf 33 dX7_sheet_30 rfl fl_X7_57 rfl rfl ?_
    refine r_iload_n (i := 1) 34 dX7_sheet_33 rfl rfl rfl ?_
    refine r_aald4 35 dX7_sheet_34 rfl rfl (vp_in_nI (by decide) (by decide)) (rfl) ?_
    refine r_iload_n (i := 2) 36 dX7_sheet_35 rfl rfl rfl ?_
    refine r_iload_n (i := 3) 37 dX7_sheet_36 rfl rfl rfl ?_
    refine r_callVu [62, 63] 40 dX7_sheet_37 rfl ykX3_renew lk_X7_291 (e_renew _ _ _ _ _) rfl rfl (sb_sh3 _ _ _ _ _ _ _ _ _ _ _ _ _ _) rfl rfl rfl rfl ⟨Nat.le_refl _, Nat.le_refl _⟩ ?_
    rw [bk_sh3]
    refine r_iconst (v := 1) 41 dX7_sheet_40 rfl rfl ?_
    exact r_reti dX7_sheet_41 rfl (by first | rfl | exact bI_nar _) ⟨Nat.le_refl _, Nat.le_refl _⟩ (fun _ => rfl) (⟨rfl, hT' 3 (by decide), N, Z, kp, R, Si, Sr, Ta, I, J, H0, H1, H2, (nI l, nI m, fa_fill (fun _ => 0) H3.2.2 40), tn, rfl, hN, hx, hy, ⟨ht, hb⟩, hf, hs, ⟨hk0, hk1⟩, hI, hJ, ⟨s0, s1, s2, ⟨el, rfl, fun i hi => fa_fill_in (f := fun _ => (0 : Int32)) hi⟩⟩, hn⟩)
theorem rfs_lay {l n : Int32} {a b : Nat} (h3 : a ≤ 3) (h1 : l = laX a) (h2 : n = nI b) (i : Int32) : rfs l n l i = if a = 3 then 1 else if inb (nI b) i then 0 else 2 := by
  subst h1; subst h2
  unfold rfs
  by_cases q : a = 3
  · rw [if_pos q, laX, if_pos q, if_pos rfl]
  · rw [if_neg q, if_neg (laX_ne h3 q), if_neg (not_not_intro rfl)]
    by_cases z : i < 0
    · rw [if_pos (Or.inl z), inb_f1 z]; rfl
    · by_cases z2 : i < nI b
      · rw [if_neg (by rintro (y | y); (· exact z y); (· exact y z2)), inb_t z (Int32.not_le.mpr z2)]; rfl
      · rw [if_pos (Or.inr z2), inb_f2 (Int32.not_lt.mp z2)]; rfl
theorem p_lay (hC : CX S w) (k i v : Int32) : mm_e (d + 2) yX7_lay mX7_lay [.ref 0, .int k, .int i, .int v] w (QX (s_lay S k i v).1 (s_lay S k i v).2) := by
  have hC0 := hC
  obtain ⟨hT, N, Z, kp, R, Si, Sr, Ta, I, J, H0, H1, H2, H3, tn, rfl, hN, hx, hy, ⟨ht, hb⟩, hf, hs, ⟨hk0, hk1⟩, hI, hJ, ⟨s0, s1, s2, s3⟩, hn⟩ := hC
  have l0 := lt31 hN hT.2.1
  have h6 := hN.n6
  have h4 := hN.g4
  have h5 := hN.b4
  refine e_of [some (.ref 0), some (.int k), some (.int i), some (.int v), none, none] rfl (by decide) rfl rfl rfl ?_
  rw [s_lay]
  cases g1 : inb 4 k with
  | false =>
    refine r_iload_n (i := 1) 1 dX7_lay_0 rfl rfl rfl ?_
    refine r_callSi [] 4 dX7_lay_1 rfl ykX7_isSheet lk_X7_285 (e_isSheet k) rfl rfl rfl ⟨Nat.le_refl _, Nat.le_refl _⟩ ?_
    rw [g1]
    refine r_if_ne 9 7 dX7_lay_4 rfl rfl (fun h4 => absurd rfl h4) (fun h4 => ?_)
    refine r_iconst (v := (-1)) 8 dX7_lay_7 rfl rfl ?_
    exact r_reti dX7_lay_8 rfl (by first | rfl | exact bI_nar _) ⟨Nat.le_refl _, Nat.le_refl _⟩ (fun _ => rfl) (⟨rfl, hC0⟩)
  | true =>
  refine r_iload_n (i := 1) 1 dX7_lay_0 rfl rfl rfl ?_
  refine r_callSi [] 4 dX7_lay_1 rfl ykX7_isSheet lk_X7_285 (e_isSheet k) rfl rfl rfl ⟨Nat.le_refl _, Nat.le_refl _⟩ ?_
  rw [g1]
  refine r_if_ne 9 7 dX7_lay_4 rfl rfl (fun _ => ?_) (fun h => absurd h (by decide))
  obtain ⟨j, hj, rfl⟩ := inb_nI (n := 4) (by decide) g1
  rw [nI_clamp (n := j) (by omega), if_pos rfl]
  have hh := hT.2.2.2.2.2.2.2.2.1 j hj
  have hT' : ∀ c : Nat → Nat → Int32, tOk (tSH S ((tH S).1, (tH S).2.1, c)) := fun c => tOk_H hT (fun i hi => hT.2.2.2.2.2.2.2.2.1 i hi)
  rcases (by omega : j = 0 ∨ j = 1 ∨ j = 2 ∨ j = 3) with rfl | rfl | rfl | rfl
  · obtain ⟨a1, a2, a3⟩ := s0
    have er := rfs_lay hh.1 a1 a2 i
    refine r_aload_n (i := 0) 10 dX7_lay_9 rfl rfl rfl ?_
    refine r_getf 13 dX7_lay_10 rfl fl_X7_57 rfl rfl ?_
    refine r_iload_n (i := 1) 14 dX7_lay_13 rfl rfl rfl ?_
    refine r_aald4 15 dX7_lay_14 rfl rfl (vp_in_nI (by decide) (by decide)) (rfl) ?_
    refine r_astore (i := 4) 17 dX7_lay_15 rfl rfl ?_
    refine r_aload (i := 4) 19 dX7_lay_17 rfl rfl ?_
    refine r_aload (i := 4) 21 dX7_lay_19 rfl rfl ?_
    refine r_getf 24 dX7_lay_21 rfl fl_X7_294 rfl rfl ?_
    refine r_iload_n (i := 2) 25 dX7_lay_24 rfl rfl rfl ?_
    refine r_callVi [56, 57] 28 dX7_lay_25 rfl ykX3_refusal lk_X7_297 (e_refusal _ _ _ _ _) rfl rfl (sb_sh0 _ _ _ _ _ _ _ _ _ _ _ _ _ _) rfl rfl rfl rfl ⟨Nat.le_refl _, Nat.le_refl _⟩ ?_
    refine r_istore (i := 5) 30 dX7_lay_28 rfl rfl ?_
    rw [er]
    by_cases q3 : (tH S).1 0 = 3
    · rw [if_pos q3, if_pos q3]
      refine r_iload (i := 5) 32 dX7_lay_30 rfl rfl ?_
      refine r_if_eq 41 35 dX7_lay_32 rfl rfl (fun h32 => absurd h32 (by decide)) (fun h32 => ?_)
      refine r_bipush (v := (-10)) 37 dX7_lay_35 rfl rfl ?_
      refine r_iload (i := 5) 39 dX7_lay_37 rfl rfl ?_
      refine r_isub 40 dX7_lay_39 rfl ?_
      exact r_reti dX7_lay_40 rfl (by first | rfl | exact bI_nar _) ⟨Nat.le_refl _, Nat.le_refl _⟩ (fun _ => rfl) (⟨rfl, hC0⟩)
    · rw [if_neg q3, if_neg q3]
      cases gi : inb (nI ((tH S).2.1 0)) i with
      | false =>
        refine r_iload (i := 5) 32 dX7_lay_30 rfl rfl ?_
        refine r_if_eq 41 35 dX7_lay_32 rfl rfl (fun h32 => absurd h32 (by decide)) (fun h32 => ?_)
        refine r_bipush (v := (-10)) 37 dX7_lay_35 rfl rfl ?_
        refine r_iload (i := 5) 39 dX7_lay_37 rfl rfl ?_
        refine r_isub 40 dX7_lay_39 rfl ?_
        exact r_reti dX7_lay_40 rfl (by first | rfl | exact bI_nar _) ⟨Nat.le_refl _, Nat.le_refl _⟩ (fun _ => rfl) (⟨rfl, hC0⟩)
      | true =>
        obtain ⟨p, hp, rfl⟩ := inb_nI (by omega) gi
        refine r_iload (i := 5) 32 dX7_lay_30 rfl rfl ?_
        refine r_if_eq 41 35 dX7_lay_32 rfl rfl (fun h32 => ?_) (fun h32 => absurd rfl h32)
        refine r_aload (i := 4) 43 dX7_lay_41 rfl rfl ?_
        refine r_iload_n (i := 2) 44 dX7_lay_43 rfl rfl rfl ?_
        refine r_iload_n (i := 3) 45 dX7_lay_44 rfl rfl rfl ?_
        refine r_callVu [56, 57] 48 dX7_lay_45 rfl ykX3_put lk_X7_300 (e_shPut _ (by rw [a2]; exact (nI_ltI (by omega) (by omega)).mpr hp) (by omega)) rfl rfl (sb_sh0 _ _ _ _ _ _ _ _ _ _ _ _ _ _) rfl rfl rfl rfl ⟨Nat.le_refl _, Nat.le_refl _⟩ ?_
        rw [bk_sh0]
        refine r_iconst (v := 1) 49 dX7_lay_48 rfl rfl ?_
        exact r_reti dX7_lay_49 rfl (by first | rfl | exact bI_nar _) ⟨Nat.le_refl _, Nat.le_refl _⟩ (fun _ => rfl) (⟨rfl, hT' _, N, Z, kp, R, Si, Sr, Ta, I, J, (H0.1, H0.2.1, upd H0.2.2 p (cut3 H0.1 v)), H1, H2, H3, tn, rfl, hN, hx, hy, ⟨ht, hb⟩, hf, hs, ⟨hk0, hk1⟩, hI, hJ, ⟨⟨a1, a2, fun r hr => by show upd _ _ _ r = upd _ _ _ r; rw [nI_clamp (n := p) (by omega), a1, laX, if_neg q3]; by_cases z : r = p; (· subst z; simp [upd]); (· simp [upd, z, a3 r hr])⟩, s1, s2, s3⟩, hn⟩)
  · obtain ⟨a1, a2, a3⟩ := s1
    have er := rfs_lay hh.1 a1 a2 i
    refine r_aload_n (i := 0) 10 dX7_lay_9 rfl rfl rfl ?_
    refine r_getf 13 dX7_lay_10 rfl fl_X7_57 rfl rfl ?_
    refine r_iload_n (i := 1) 14 dX7_lay_13 rfl rfl rfl ?_
    refine r_aald4 15 dX7_lay_14 rfl rfl (vp_in_nI (by decide) (by decide)) (rfl) ?_
    refine r_astore (i := 4) 17 dX7_lay_15 rfl rfl ?_
    refine r_aload (i := 4) 19 dX7_lay_17 rfl rfl ?_
    refine r_aload (i := 4) 21 dX7_lay_19 rfl rfl ?_
    refine r_getf 24 dX7_lay_21 rfl fl_X7_294 rfl rfl ?_
    refine r_iload_n (i := 2) 25 dX7_lay_24 rfl rfl rfl ?_
    refine r_callVi [58, 59] 28 dX7_lay_25 rfl ykX3_refusal lk_X7_297 (e_refusal _ _ _ _ _) rfl rfl (sb_sh1 _ _ _ _ _ _ _ _ _ _ _ _ _ _) rfl rfl rfl rfl ⟨Nat.le_refl _, Nat.le_refl _⟩ ?_
    refine r_istore (i := 5) 30 dX7_lay_28 rfl rfl ?_
    rw [er]
    by_cases q3 : (tH S).1 1 = 3
    · rw [if_pos q3, if_pos q3]
      refine r_iload (i := 5) 32 dX7_lay_30 rfl rfl ?_
      refine r_if_eq 41 35 dX7_lay_32 rfl rfl (fun h32 => absurd h32 (by decide)) (fun h32 => ?_)
      refine r_bipush (v := (-10)) 37 dX7_lay_35 rfl rfl ?_
      refine r_iload (i := 5) 39 dX7_lay_37 rfl rfl ?_
      refine r_isub 40 dX7_lay_39 rfl ?_
      exact r_reti dX7_lay_40 rfl (by first | rfl | exact bI_nar _) ⟨Nat.le_refl _, Nat.le_refl _⟩ (fun _ => rfl) (⟨rfl, hC0⟩)
    · rw [if_neg q3, if_neg q3]
      cases gi : inb (nI ((tH S).2.1 1)) i with
      | false =>
        refine r_iload (i := 5) 32 dX7_lay_30 rfl rfl ?_
        refine r_if_eq 41 35 dX7_lay_32 rfl rfl (fun h32 => absurd h32 (by decide)) (fun h32 => ?_)
        refine r_bipush (v := (-10)) 37 dX7_lay_35 rfl rfl ?_
        refine r_iload (i := 5) 39 dX7_lay_37 rfl rfl ?_
        refine r_isub 40 dX7_lay_39 rfl ?_
        exact r_reti dX7_lay_40 rfl (by first | rfl | exact bI_nar _) ⟨Nat.le_refl _, Nat.le_refl _⟩ (fun _ => rfl) (⟨rfl, hC0⟩)
      | true =>
        obtain ⟨p, hp, rfl⟩ := inb_nI (by omega) gi
        refine r_iload (i := 5) 32 dX7_lay_30 rfl rfl ?_
        refine r_if_eq 41 35 dX7_lay_32 rfl rfl (fun h32 => ?_) (fun h32 => absurd rfl h32)
        refine r_aload (i := 4) 43 dX7_lay_41 rfl rfl ?_
        refine r_iload_n (i := 2) 44 dX7_lay_43 rfl rfl rfl ?_
        refine r_iload_n (i := 3) 45 dX7_lay_44 rfl rfl rfl ?_
        refine r_callVu [58, 59] 48 dX7_lay_45 rfl ykX3_put lk_X7_300 (e_shPut _ (by rw [a2]; exact (nI_ltI (by omega) (by omega)).mpr hp) (by omega)) rfl rfl (sb_sh1 _ _ _ _ _ _ _ _ _ _ _ _ _ _) rfl rfl rfl rfl ⟨Nat.le_refl _, Nat.le_refl _⟩ ?_
        rw [bk_sh1]
        refine r_iconst (v := 1) 49 dX7_lay_48 rfl rfl ?_
        exact r_reti dX7_lay_49 rfl (by first | rfl | exact bI_nar _) ⟨Nat.le_refl _, Nat.le_refl _⟩ (fun _ => rfl) (⟨rfl, hT' _, N, Z, kp, R, Si, Sr, Ta, I, J, H0, (H1.1, H1.2.1, upd H1.2.2 p (cut3 H1.1 v)), H2, H3, tn, rfl, hN, hx, hy, ⟨ht, hb⟩, hf, hs, ⟨hk0, hk1⟩, hI, hJ, ⟨s0, ⟨a1, a2, fun r hr => by show upd _ _ _ r = upd _ _ _ r; rw [nI_clamp (n := p) (by omega), a1, laX, if_neg q3]; by_cases z : r = p; (· subst z; simp [upd]); (· simp [upd, z, a3 r hr])⟩, s2, s3⟩, hn⟩)
  · obtain ⟨a1, a2, a3⟩ := s2
    have er := rfs_lay hh.1 a1 a2 i
    refine r_aload_n (i := 0) 10 dX7_lay_9 rfl rfl rfl ?_
    refine r_getf 13 dX7_lay_10 rfl fl_X7_57 rfl rfl ?_
    refine r_iload_n (i := 1) 14 dX7_lay_13 rfl rfl rfl ?_
    refine r_aald4 15 dX7_lay_14 rfl rfl (vp_in_nI (by decide) (by decide)) (rfl) ?_
    refine r_astore (i := 4) 17 dX7_lay_15 rfl rfl ?_
    refine r_aload (i := 4) 19 dX7_lay_17 rfl rfl ?_
    refine r_aload (i := 4) 21 dX7_lay_19 rfl rfl ?_
    refine r_getf 24 dX7_lay_21 rfl fl_X7_294 rfl rfl ?_
    refine r_iload_n (i := 2) 25 dX7_lay_24 rfl rfl rfl ?_
    refine r_callVi [60, 61] 28 dX7_lay_25 rfl ykX3_refusal lk_X7_297 (e_refusal _ _ _ _ _) rfl rfl (sb_sh2 _ _ _ _ _ _ _ _ _ _ _ _ _ _) rfl rfl rfl rfl ⟨Nat.le_refl _, Nat.le_refl _⟩ ?_
    refine r_istore (i := 5) 30 dX7_lay_28 rfl rfl ?_
    rw [er]
    by_cases q3 : (tH S).1 2 = 3
    · rw [if_pos q3, if_pos q3]
      refine r_iload (i := 5) 32 dX7_lay_30 rfl rfl ?_
      refine r_if_eq 41 35 dX7_lay_32 rfl rfl (fun h32 => absurd h32 (by decide)) (fun h32 => ?_)
      refine r_bipush (v := (-10)) 37 dX7_lay_35 rfl rfl ?_
      refine r_iload (i := 5) 39 dX7_lay_37 rfl rfl ?_
      refine r_isub 40 dX7_lay_39 rfl ?_
      exact r_reti dX7_lay_40 rfl (by first | rfl | exact bI_nar _) ⟨Nat.le_refl _, Nat.le_refl _⟩ (fun _ => rfl) (⟨rfl, hC0⟩)
    · rw [if_neg q3, if_neg q3]
      cases gi : inb (nI ((tH S).2.1 2)) i with
      | false =>
        refine r_iload (i := 5) 32 dX7_lay_30 rfl rfl ?_
        refine r_if_eq 41 35 dX7_lay_32 rfl rfl (fun h32 => absurd h32 (by decide)) (fun h32 => ?_)
        refine r_bipush (v := (-10)) 37 dX7_lay_35 rfl rfl ?_
        refine r_iload (i := 5) 39 dX7_lay_37 rfl rfl ?_
        refine r_isub 40 dX7_lay_39 rfl ?_
        exact r_reti dX7_lay_40 rfl (by first | rfl | exact bI_nar _) ⟨Nat.le_refl _, Nat.le_refl _⟩ (fun _ => rfl) (⟨rfl, hC0⟩)
      | true =>
        obtain ⟨p, hp, rfl⟩ := inb_nI (by omega) gi
        refine r_iload (i := 5) 32 dX7_lay_30 rfl rfl ?_
        refine r_if_eq 41 35 dX7_lay_32 rfl rfl (fun h32 => ?_) (fun h32 => absurd rfl h32)
        refine r_aload (i := 4) 43 dX7_lay_41 rfl rfl ?_
        refine r_iload_n (i := 2) 44 dX7_lay_43 rfl rfl rfl ?_
        refine r_iload_n (i := 3) 45 dX7_lay_44 rfl rfl rfl ?_
        refine r_callVu [60, 61] 48 dX7_lay_45 rfl ykX3_put lk_X7_300 (e_shPut _ (by rw [a2]; exact (nI_ltI (by omega) (by omega)).mpr hp) (by omega)) rfl rfl (sb_sh2 _ _ _ _ _ _ _ _ _ _ _ _ _ _) rfl rfl rfl rfl ⟨Nat.le_refl _, Nat.le_refl _⟩ ?_
        rw [bk_sh2]
        refine r_iconst (v := 1) 49 dX7_lay_48 rfl rfl ?_
        exact r_reti dX7_lay_49 rfl (by first | rfl | exact bI_nar _) ⟨Nat.le_refl _, Nat.le_refl _⟩ (fun _ => rfl) (⟨rfl, hT' _, N, Z, kp, R, Si, Sr, Ta, I, J, H0, H1, (H2.1, H2.2.1, upd H2.2.2 p (cut3 H2.1 v)), H3, tn, rfl, hN, hx, hy, ⟨ht, hb⟩, hf, hs, ⟨hk0, hk1⟩, hI, hJ, ⟨s0, s1, ⟨a1, a2, fun r hr => by show upd _ _ _ r = upd _ _ _ r; rw [nI_clamp (n := p) (by omega), a1, laX, if_neg q3]; by_cases z : r = p; (· subst z; simp [upd]); (· simp [upd, z, a3 r hr])⟩, s3⟩, hn⟩)
  · obtain ⟨a1, a2, a3⟩ := s3
    have er := rfs_lay hh.1 a1 a2 i
    refine r_aload_n (i := 0) 10 dX7_lay_9 rfl rfl rfl ?_
    refine r_getf 13 dX7_lay_10 rfl fl_X7_57 rfl rfl ?_
    refine r_iload_n (i := 1) 14 dX7_lay_13 rfl rfl rfl ?_
    refine r_aald4 15 dX7_lay_14 rfl rfl (vp_in_nI (by decide) (by decide)) (rfl) ?_
    refine r_astore (i := 4) 17 dX7_lay_15 rfl rfl ?_
    refine r_aload (i := 4) 19 dX7_lay_17 rfl rfl ?_
    refine r_aload (i := 4) 21 dX7_lay_19 rfl rfl ?_
    refine r_getf 24 dX7_lay_21 rfl fl_X7_294 rfl rfl ?_
    refine r_iload_n (i := 2) 25 dX7_lay_24 rfl rfl rfl ?_
    refine r_callVi [62, 63] 28 dX7_lay_25 rfl ykX3_refusal lk_X7_297 (e_refusal _ _ _ _ _) rfl rfl (sb_sh3 _ _ _ _ _ _ _ _ _ _ _ _ _ _) rfl rfl rfl rfl ⟨Nat.le_refl _, Nat.le_refl _⟩ ?_
    refine r_istore (i := 5) 30 dX7_lay_28 rfl rfl ?_
    rw [er]
    by_cases q3 : (tH S).1 3 = 3
    · rw [if_pos q3, if_pos q3]
      refine r_iload (i := 5) 32 dX7_lay_30 rfl rfl ?_
      refine r_if_eq 41 35 dX7_lay_32 rfl rfl (fun h32 => absurd h32 (by decide)) (fun h32 => ?_)
      refine r_bipush (v := (-10)) 37 dX7_lay_35 rfl rfl ?_
      refine r_iload (i := 5) 39 dX7_lay_37 rfl rfl ?_
      refine r_isub 40 dX7_lay_39 rfl ?_
      exact r_reti dX7_lay_40 rfl (by first | rfl | exact bI_nar _) ⟨Nat.le_refl _, Nat.le_refl _⟩ (fun _ => rfl) (⟨rfl, hC0⟩)
    · rw [if_neg q3, if_neg q3]
      cases gi : inb (nI ((tH S).2.1 3)) i with
      | false =>
        refine r_iload (i := 5) 32 dX7_lay_30 rfl rfl ?_
        refine r_if_eq 41 35 dX7_lay_32 rfl rfl (fun h32 => absurd h32 (by decide)) (fun h32 => ?_)
        refine r_bipush (v := (-10)) 37 dX7_lay_35 rfl rfl ?_
        refine r_iload (i := 5) 39 dX7_lay_37 rfl rfl ?_
        refine r_isub 40 dX7_lay_39 rfl ?_
        exact r_reti dX7_lay_40 rfl (by first | rfl | exact bI_nar _) ⟨Nat.le_refl _, Nat.le_refl _⟩ (fun _ => rfl) (⟨rfl, hC0⟩)
      | true =>
        obtain ⟨p, hp, rfl⟩ := inb_nI (by omega) gi
        refine r_iload (i := 5) 32 dX7_lay_30 rfl rfl ?_
        refine r_if_eq 41 35 dX7_lay_32 rfl rfl (fun h32 => ?_) (fun h32 => absurd rfl h32)
        refine r_aload (i := 4) 43 dX7_lay_41 rfl rfl ?_
        refine r_iload_n (i := 2) 44 dX7_lay_43 rfl rfl rfl ?_
        refine r_iload_n (i := 3) 45 dX7_lay_44 rfl rfl rfl ?_
        refine r_callVu [62, 63] 48 dX7_lay_45 rfl ykX3_put lk_X7_300 (e_shPut _ (by rw [a2]; exact (nI_ltI (by omega) (by omega)).mpr hp) (by omega)) rfl rfl (sb_sh3 _ _ _ _ _ _ _ _ _ _ _ _ _ _) rfl rfl rfl rfl ⟨Nat.le_refl _, Nat.le_refl _⟩ ?_
        rw [bk_sh3]
        refine r_iconst (v := 1) 49 dX7_lay_48 rfl rfl ?_
        exact r_reti dX7_lay_49 rfl (by first | rfl | exact bI_nar _) ⟨Nat.le_refl _, Nat.le_refl _⟩ (fun _ => rfl) (⟨rfl, hT' _, N, Z, kp, R, Si, Sr, Ta, I, J, H0, H1, H2, (H3.1, H3.2.1, upd H3.2.2 p (cut3 H3.1 v)), tn, rfl, hN, hx, hy, ⟨ht, hb⟩, hf, hs, ⟨hk0, hk1⟩, hI, hJ, ⟨s0, s1, s2, ⟨a1, a2, fun r hr => by show upd _ _ _ r = upd _ _ _ r; rw [nI_clamp (n := p) (by omega), a1, laX, if_neg q3]; by_cases z : r = p; (· subst z; simp [upd]); (· simp [upd, z, a3 r hr])⟩⟩, hn⟩)
theorem p_count (hC : CX S w) (what : Int32) : mm_e (d + 2) yX7_count mX7_count [.ref 0, .int what] w (QX (s_count S what) S) := by
  have hC0 := hC
  obtain ⟨hT, N, Z, kp, R, Si, Sr, Ta, I, J, H0, H1, H2, H3, tn, rfl, hN, hx, hy, ⟨ht, hb⟩, hf, hs, ⟨hk0, hk1⟩, hI, hJ, ⟨s0, s1, s2, s3⟩, hn⟩ := hC
  have l0 := lt31 hN hT.2.1
  have h6 := hN.n6
  have h4 := hN.g4
  have h5 := hN.b4
  have p6 := p2_le h6
  refine e_of [some (.ref 0), some (.int what)] rfl (by decide) rfl rfl rfl ?_
  rw [s_count]
  refine r_iload_n (i := 1) 1 dX7_count_0 rfl rfl rfl ?_
  rcases pk_ix what (n := 6) (by decide) with q | q | ⟨k, hk, rfl⟩
  · refine r_tabOut 126 dX7_count_1 (Or.inl (sw_neg q)) rfl ?_
    refine r_iconst (v := (-1)) 127 dX7_count_126 rfl rfl ?_
    exact r_reti dX7_count_127 rfl (by first | rfl | exact bI_nar _) ⟨Nat.le_refl _, Nat.le_refl _⟩ (fun _ => rfl) (⟨by rw [ix_neg q] <;> rfl, hC0⟩)
  · refine r_tabOut 126 dX7_count_1 (Or.inr (sw_big (n := 5) (by decide) q)) rfl ?_
    refine r_iconst (v := (-1)) 127 dX7_count_126 rfl rfl ?_
    exact r_reti dX7_count_127 rfl (by first | rfl | exact bI_nar _) ⟨Nat.le_refl _, Nat.le_refl _⟩ (fun _ => rfl) (⟨by rw [ix_big q] <;> rfl, hC0⟩)
  · rw [ix_k hk (by decide)]
    rcases (by omega : k = 0 ∨ k = 1 ∨ k = 2 ∨ k = 3 ∨ k = 4 ∨ k = 5) with rfl | rfl | rfl | rfl | rfl | rfl
    · refine r_tabIn 40 dX7_count_1 (by decide) (by decide) rfl rfl ?_
      refine r_aload_n (i := 0) 41 dX7_count_40 rfl rfl rfl ?_
      refine r_getf 44 dX7_count_41 rfl fl_X7_37 rfl rfl ?_
      refine r_getf 47 dX7_count_44 rfl fl_X7_92 rfl rfl ?_
      exact r_reti dX7_count_47 rfl (by first | rfl | exact bI_nar _) ⟨Nat.le_refl _, Nat.le_refl _⟩ (fun _ => rfl) (⟨congrArg (fun z => some (Value.int z)) hs.1, hC0⟩)
    · refine r_tabIn 48 dX7_count_1 (by decide) (by decide) rfl rfl ?_
      refine r_aload_n (i := 0) 49 dX7_count_48 rfl rfl rfl ?_
      refine r_getf 52 dX7_count_49 rfl fl_X7_23 rfl rfl ?_
      refine r_iconst (v := 0) 53 dX7_count_52 rfl rfl ?_
      refine r_zald 54 dX7_count_53 rfl rfl (vp_in_nI (n := 0) (by decide) (by decide)) ?_
      rw [show kp (0 : Int32).toNatClampNeg = bI _ from hk0]
      refine r_callSi [] 57 dX7_count_54 rfl ykX7_bit lk_X7_117 (e_bit _) rfl rfl rfl ⟨Nat.le_refl _, Nat.le_refl _⟩ ?_
      refine r_aload_n (i := 0) 58 dX7_count_57 rfl rfl rfl ?_
      refine r_getf 61 dX7_count_58 rfl fl_X7_23 rfl rfl ?_
      refine r_iconst (v := 1) 62 dX7_count_61 rfl rfl ?_
      refine r_zald 63 dX7_count_62 rfl rfl (vp_in_nI (n := 1) (by decide) (by decide)) ?_
      rw [show kp (1 : Int32).toNatClampNeg = bI _ from hk1]
      refine r_callSi [] 66 dX7_count_63 rfl ykX7_bit lk_X7_117 (e_bit _) rfl rfl rfl ⟨Nat.le_refl _, Nat.le_refl _⟩ ?_
      refine r_iadd 67 dX7_count_66 rfl ?_
      exact r_reti dX7_count_67 rfl (by first | rfl | exact bI_nar _) ⟨Nat.le_refl _, Nat.le_refl _⟩ (fun _ => rfl) (⟨by rw [bI_nI, bI_nI, nI_add]; rfl, hC0⟩)
    · refine r_tabIn 68 dX7_count_1 (by decide) (by decide) rfl rfl ?_
      refine r_aload_n (i := 0) 69 dX7_count_68 rfl rfl rfl ?_
      refine r_getf 72 dX7_count_69 rfl fl_X7_30 rfl rfl ?_
      refine r_getf 75 dX7_count_72 rfl fl_X7_62 rfl rfl ?_
      refine r_getf 78 dX7_count_75 rfl fl_X7_66 rfl rfl ?_
      exact r_reti dX7_count_78 rfl (by first | rfl | exact bI_nar _) ⟨Nat.le_refl _, Nat.le_refl _⟩ (fun _ => rfl) (⟨congrArg (fun z => some (Value.int z)) ht, hC0⟩)
    · refine r_tabIn 79 dX7_count_1 (by decide) (by decide) rfl rfl ?_
      obtain ⟨a1, a2, a3⟩ := s0
      have hh := hT.2.2.2.2.2.2.2.2.1 0 (by decide)
      refine r_aload_n (i := 0) 80 dX7_count_79 rfl rfl rfl ?_
      refine r_getf 83 dX7_count_80 rfl fl_X7_57 rfl rfl ?_
      refine r_iconst (v := 0) 84 dX7_count_83 rfl rfl ?_
      refine r_aald4 85 dX7_count_84 rfl rfl (vp_in_nI (n := 0) (by decide) (by decide)) (rfl) ?_
      refine r_getf 88 dX7_count_85 rfl fl_X7_294 rfl rfl ?_
      refine r_iconst (v := (-1)) 89 dX7_count_88 rfl rfl ?_
      rw [a1]
      refine r_icmp_ne 97 92 dX7_count_89 rfl rfl (fun h89 => ?_) (fun h89 => ?_)
      · have z : ¬ (tH S).1 0 = 3 := fun z => h89 (by rw [laX, if_pos z])
        refine r_aload_n (i := 0) 98 dX7_count_97 rfl rfl rfl ?_
        refine r_getf 101 dX7_count_98 rfl fl_X7_57 rfl rfl ?_
        refine r_iconst (v := 0) 102 dX7_count_101 rfl rfl ?_
        refine r_aald4 103 dX7_count_102 rfl rfl (vp_in_nI (n := 0) (by decide) (by decide)) (rfl) ?_
        refine r_getf 106 dX7_count_103 rfl fl_X7_311 rfl rfl ?_
        exact r_reti dX7_count_106 rfl (by first | rfl | exact bI_nar _) ⟨Nat.le_refl _, Nat.le_refl _⟩ (fun _ => rfl) (⟨by first | (simp only [if_pos z]; done) | (simp only [if_neg z]; rw [a2]), hC0⟩)
      · have z : (tH S).1 0 = 3 := Classical.byContradiction fun z => laX_ne hh.1 z h89
        refine r_bipush (v := (-4)) 94 dX7_count_92 rfl rfl ?_
        refine r_goto 106 dX7_count_94 rfl ?_
        exact r_reti dX7_count_106 rfl (by first | rfl | exact bI_nar _) ⟨Nat.le_refl _, Nat.le_refl _⟩ (fun _ => rfl) (⟨by first | (simp only [if_pos z]; done) | (simp only [if_neg z]; rw [a2]), hC0⟩)
    · refine r_tabIn 107 dX7_count_1 (by decide) (by decide) rfl rfl ?_
      refine r_aload_n (i := 0) 108 dX7_count_107 rfl rfl rfl ?_
      refine r_getf 111 dX7_count_108 rfl fl_X7_10 rfl rfl ?_
      refine r_getf 114 dX7_count_111 rfl fl_X7_110 rfl rfl ?_
      rw [hx]
      refine r_callSi [] 117 dX7_count_114 rfl ykJ6_bitCount_0f7a4 lk_X7_314 (e_bitCount (by have := hT.2.1; omega)) rfl rfl rfl ⟨Nat.le_refl _, Nat.le_refl _⟩ ?_
      exact r_reti dX7_count_117 rfl (by first | rfl | exact bI_nar _) ⟨Nat.le_refl _, Nat.le_refl _⟩ (fun _ => rfl) (⟨rfl, hC0⟩)
    · refine r_tabIn 118 dX7_count_1 (by decide) (by decide) rfl rfl ?_
      refine r_aload_n (i := 0) 119 dX7_count_118 rfl rfl rfl ?_
      refine r_getf 122 dX7_count_119 rfl fl_X7_10 rfl rfl ?_
      refine r_callVi [1, 2, 3, 4, 5, 6, 7, 8] 125 dX7_count_122 rfl ykX0_allPrices lk_X7_318 (e_allPrices hN) rfl rfl (sb_now _ _ _ _ _ _ _ _ _ _ _ _ _ _) rfl rfl rfl rfl ⟨Nat.le_refl _, Nat.le_refl _⟩ ?_
      exact r_reti dX7_count_125 rfl (by first | rfl | exact bI_nar _) ⟨Nat.le_refl _, Nat.le_refl _⟩ (fun _ => rfl) (⟨rfl, hC0⟩)
end XG
