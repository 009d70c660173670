-- READING OF SHEETS IN THE REFERENCE
def rdG (W : MT) (g : Nat → Int32) (x y : Nat) : Prop := (∀ i, i < 111 → i ≠ 18 → i ≠ 36 → g i = W.1.1 i) ∧ g 18 = nI x ∧ g 36 = nI y ∧ ∀ i, i < 37 → g (111 + i) = W.1.1 i
theorem rdG_mok {W : MT} {A : sA} (h : mok W.1 A) {g : Nat → Int32} {x y : Nat} (hg : rdG W g x y) : mok (zSt W g).1 A := ⟨h.1, h.2.1, mpg_cong h.2.2 (fun i hi h18 => hg.1 i (by omega) h18 (by omega))⟩
theorem rdG_next {W : MT} {g : Nat → Int32} {x y x1 x2 : Nat} (hg : rdG W g x y) : rdG W (upd (upd (upd g 18 (nI x1)) 18 (nI x2)) 36 (nI (y + 1))) x2 (y + 1) := by
  obtain ⟨h1, h2, h3, h4⟩ := hg
  refine ⟨fun i hi a b => ?_, ?_, u_at, fun i hi => ?_⟩
  · rw [u_ne b, u_ne a, u_ne a]; exact h1 i hi a b
  · rw [u_ne (by decide), u_at]
  · rw [u_ne (by omega), u_ne (by omega), u_ne (by omega)]; exact h4 i hi
theorem rd_in (f : Int32) {c n : Nat} (hc : c < 2 ^ 30) (hn : n < 2 ^ 30) : decide (0 ≤ f.toInt + (c : Int) ∧ f.toInt + (c : Int) < (n : Int)) = true ↔ (0 : Int64).toInt ≤ (f.toInt64 + (nI c).toInt64).toInt ∧ (f.toInt64 + (nI c).toInt64).toInt ≤ ((nI n - 1).toInt64).toInt := by
  have r := fb_rng f
  have e1 : f.toInt64.toInt = f.toInt := Int32.toInt_toInt64 f
  have e2 : (nI c).toInt64.toInt = (c : Int) := by rw [Int32.toInt_toInt64, nI_toInt (by omega)]
  rw [decide_eq_true_eq, hiN hn, fb_addL (by rw [e1, e2]; omega) (by rw [e1, e2]; omega), e1, e2, show (0 : Int64).toInt = 0 from rfl]
  omega
theorem rd_ix {f : Int32} {c k n : Nat} (hc : c < 2 ^ 20) (hk : k < 4) (hn : n ≤ 40) (h : 0 ≤ f.toInt + (c : Int) ∧ f.toInt + (c : Int) < (n : Int)) : (40 : Int32) * nI k + f + nI c = nI (40 * k + (f.toInt + (c : Int)).toNat) := by
  have r := fb_rng f
  have e2 : (nI c).toInt = (c : Int) := nI_toInt (by omega)
  have e3 : f + nI c = nI (f.toInt + (c : Int)).toNat := by
    rw [fa_eq, fb_addI (by rw [e2]; omega) (by rw [e2]; omega), e2, nI_toInt (by omega)]
    omega
  rw [c40, Int32.add_assoc, e3, nI_add]
section ML
variable {d : Nat} {S : sT} {w : mm_W} {W : MT} {A : sA}
theorem relM_end {x y t : Nat} {g : Nat → Int32} (hR : relM W S) (hg : rdG W g x y) : relM (zZz (zSt W g) (W.2.2.2.2.2.2.2.1, W.2.2.2.2.2.2.2.2.1, W.2.2.2.2.2.2.2.2.2.1, W.2.2.2.2.2.2.2.2.2.2.1, nI t)) (tSN (tSXY S x y) t) := by
  obtain ⟨h1, h2, h3, h4, h5, h6, h7, h8, h9⟩ := relM_XY hR (f := g) (x := x) (y := y) hg.1 hg.2.1 hg.2.2.1
  exact ⟨h1, h2, h3, h4, h5, h6, h7, h8, rfl⟩
theorem relM_bad {x y : Nat} {g : Nat → Int32} (hR : relM W S) (hg : rdG W g x y) : relM (zSt (zSt W g) (cpP g 111 0 37)) S := by
  have e : ∀ i, i < 37 → cpP g 111 0 37 i = W.1.1 i := fun i hi => by
    have := cp_in g 111 0 37 i hi
    rw [Nat.zero_add] at this
    rw [this]
    exact hg.2.2.2 i hi
  obtain ⟨hx, hy⟩ := hR.2.1
  exact relM_XY (W := W) hR (f := cpP g 111 0 37) (x := tX S) (y := tY S) (fun i hi a b => by
    by_cases q : i < 37
    · exact e i q
    · rw [cp_out g 111 0 37 i (by omega)]; exact hg.1 i hi a b) ((e 18 (by decide)).trans hx) ((e 36 (by decide)).trans hy)
theorem l2_read (hT : tOk S) (hR : relM W S) {k l n : Nat} (hk : k < 4) (hl : l < 3) (hn : n ≤ 20) (f : Int32) : ∀ (m c x y : Nat) (g : Nat → Int32), m + c = n → x < 2 ^ sN (tA S) → y ≤ 999 → rdG W g x y → mm_r (d + 6) mX8_read (QM (rdL S k (nI l) f m c x y).1 (rdL S k (nI l) f m c x y).2) 55 [some (.ref 0), some (.int (nI k)), some (.int (nI l)), some (.int f), some (.int (nI n)), some (.int 0), some (.int (nI c)), some (.int (nI c))] [] (wM (zSt W g)) := by
  obtain ⟨hM, ⟨hx, hy⟩, ⟨ht, hb⟩, hf, ⟨v1, v2⟩, ⟨hk0, hk1⟩, hI, hH, hnn⟩ := id hR
  have h6 := hM.n6
  have h4 := hM.g4
  obtain ⟨s1, s2, s3⟩ := hH k hk
  obtain ⟨t1, t2⟩ := hT.2.2.2.2.2.2.2.2.1 k hk
  have in4 : vp_in (nI k) 4 := vp_in_nI hk (by decide)
  have ec := nI_clamp (n := k) (by omega)
  intro m
  induction m with
  | zero =>
    intro c x y g hm hx2 hy2 hg
    have : c = n := by omega
    subst this
    refine r_iload (i := 7) 57 dX8_read_55 rfl rfl ?_
    refine r_iload (i := 4) 59 dX8_read_57 rfl rfl ?_
    refine r_icmp_ge 192 62 dX8_read_59 rfl rfl (fun h59 => ?_) (fun h59 => absurd (Int32.le_refl _) h59)
    refine r_aload_n (i := 0) 193 dX8_read_192 rfl rfl rfl ?_
    refine r_iload (i := 5) 195 dX8_read_193 rfl rfl ?_
    refine r_putf 198 dX8_read_195 rfl fl_X8_287 rfl rfl (fun _ _ => ⟨rfl, rfl⟩) (fun z => absurd z Bool.false_ne_true) ?_
    refine r_iload (i := 6) 200 dX8_read_198 rfl rfl ?_
    exact r_reti dX8_read_200 rfl (by first | rfl | exact bI_nar _) ⟨Nat.le_refl _, Nat.le_refl _⟩ (fun _ => rfl) (⟨rfl, _, rfl, relM_end (t := 0) hR hg⟩)
  | succ m ih =>
    intro c x y g hm hx2 hy2 hg
    have gs1 : ∀ (g : Nat → Int32), (zSt W g).2.2.2.2.2.2.2.2.1 k = laM ((tH S).1 k) := fun _ => s1
    have gs2 : ∀ (g : Nat → Int32), (zSt W g).2.2.2.2.2.2.2.2.2.1 k = nI ((tH S).2.1 k) := fun _ => s2
    have hMg := rdG_mok hM hg
    have bad : ∀ t : Nat, t ≠ 0 → t ≤ 3 → rfo S k (nI l) f c = t → mm_r (d + 6) mX8_read (QM (rdL S k (nI l) f (m + 1) c x y).1 (rdL S k (nI l) f (m + 1) c x y).2) 123 [some (.ref 0), some (.int (nI k)), some (.int (nI l)), some (.int f), some (.int (nI n)), some (.int 0), some (.int (nI c)), some (.int (nI c))] [.int (nI t)] (wM (zSt W g)) := by
      intro t h0 h3 e
      have er : rdL S k (nI l) f (m + 1) c x y = (nI c, tSN (tSXY S x y) t) := by rw [rdL, e, if_neg h0]
      have ne : ¬ nI t = 0 := nI_ne0 (by omega) (by omega)
      rw [er]
      refine r_istore (i := 5) 125 dX8_read_123 rfl rfl ?_
      refine r_iload (i := 5) 127 dX8_read_125 rfl rfl ?_
      refine r_if_ne 186 130 dX8_read_127 rfl rfl (fun h127 => ?_) (fun h127 => absurd h127 ne)
      refine r_iinc (i := 7) 189 dX8_read_186 rfl rfl (by first | exact nI_1 _ | rfl) rfl ?_
      refine r_goto 55 dX8_read_189 rfl ?_
      refine r_iload (i := 7) 57 dX8_read_55 rfl rfl ?_
      refine r_iload (i := 4) 59 dX8_read_57 rfl rfl ?_
      refine r_icmp_ge 192 62 dX8_read_59 rfl rfl (fun h59 => ?_) (fun h59 => ?_)
      · refine r_aload_n (i := 0) 193 dX8_read_192 rfl rfl rfl ?_
        refine r_iload (i := 5) 195 dX8_read_193 rfl rfl ?_
        refine r_putf 198 dX8_read_195 rfl fl_X8_287 rfl rfl (fun _ _ => ⟨rfl, rfl⟩) (fun z => absurd z Bool.false_ne_true) ?_
        refine r_iload (i := 6) 200 dX8_read_198 rfl rfl ?_
        exact r_reti dX8_read_200 rfl (by first | rfl | exact bI_nar _) ⟨Nat.le_refl _, Nat.le_refl _⟩ (fun _ => rfl) (⟨rfl, _, rfl, relM_end (t := t) hR hg⟩)
      · refine r_iload (i := 5) 64 dX8_read_62 rfl rfl ?_
        refine r_if_ne 192 67 dX8_read_64 rfl rfl (fun h64 => ?_) (fun h64 => absurd h64 ne)
        refine r_aload_n (i := 0) 193 dX8_read_192 rfl rfl rfl ?_
        refine r_iload (i := 5) 195 dX8_read_193 rfl rfl ?_
        refine r_putf 198 dX8_read_195 rfl fl_X8_287 rfl rfl (fun _ _ => ⟨rfl, rfl⟩) (fun z => absurd z Bool.false_ne_true) ?_
        refine r_iload (i := 6) 200 dX8_read_198 rfl rfl ?_
        exact r_reti dX8_read_200 rfl (by first | rfl | exact bI_nar _) ⟨Nat.le_refl _, Nat.le_refl _⟩ (fun _ => rfl) (⟨rfl, _, rfl, relM_end (t := t) hR hg⟩)
    by_cases q3 : (tH S).1 k = 3
    · have e1 : rfo S k (nI l) f c = 1 := by rw [rfo, if_pos q3]
      have b1 := bad 1 (by decide) (by decide) e1
      refine r_iload (i := 7) 57 dX8_read_55 rfl rfl ?_
      refine r_iload (i := 4) 59 dX8_read_57 rfl rfl ?_
      refine r_icmp_ge 192 62 dX8_read_59 rfl rfl (fun h59 => absurd (ble_of (by omega) (by omega) h59) (by omega)) (fun h59 => ?_)
      refine r_iload (i := 5) 64 dX8_read_62 rfl rfl ?_
      refine r_if_ne 192 67 dX8_read_64 rfl rfl (fun h64 => absurd rfl h64) (fun h64 => ?_)
      refine r_aload_n (i := 0) 68 dX8_read_67 rfl rfl rfl ?_
      refine r_getf 71 dX8_read_68 rfl fl_X8_35 rfl rfl ?_
      refine r_iload_n (i := 1) 72 dX8_read_71 rfl rfl rfl ?_
      refine r_iald 73 dX8_read_72 rfl rfl (by assumption) ?_
      rw [ec, gs1]
      refine r_bipush (v := (-4)) 75 dX8_read_73 rfl rfl ?_
      refine r_icmp_ne 82 78 dX8_read_75 rfl rfl (fun h75 => absurd ((laM_3 t1).mpr q3) h75) (fun h75 => ?_)
      refine r_iconst (v := 1) 79 dX8_read_78 rfl rfl ?_
      refine r_goto 123 dX8_read_79 rfl ?_
      exact b1
    · have el := laM_n t1 q3
      by_cases ql : (tH S).1 k = l
      · have nl : nI ((tH S).1 k) = nI l := by rw [ql]
        by_cases qi : 0 ≤ f.toInt + (c : Int) ∧ f.toInt + (c : Int) < ((tH S).2.1 k : Int)
        · have e0 : rfo S k (nI l) f c = 0 := by rw [rfo, if_neg q3, if_neg (fun z => z nl), if_pos qi]
          have ej : (f.toInt + (c : Int)).toNat < 40 := by omega
          have ix := rd_ix (c := c) (by omega) hk t2 qi
          have in160 : vp_in (nI (40 * k + (f.toInt + (c : Int)).toNat)) 160 := vp_in_nI (by omega) (by decide)
          have i36 : vp_in (36 : Int32) 148 := vp_in_nI (n := 36) (by decide) (by decide)
          have ey : (zSt W g).1.1 (36 : Int32).toNatClampNeg = nI y := hg.2.2.1
          have ece : (zSt W g).2.2.2.2.2.2.2.2.2.2.1 (40 * k + (f.toInt + (c : Int)).toNat) = (tH S).2.2 k (f.toInt + (c : Int)).toNat := s3 _ ej
          have fail : ¬ (y < 999 ∧ inb (nI (sG (tA S))) ((tH S).2.2 k (f.toInt + (c : Int)).toNat) = true ∧ al (tA S) (x ^^^ 2 ^ sU (tA S) ((tH S).2.2 k (f.toInt + (c : Int)).toNat).toNatClampNeg) = true) → mm_r (d + 6) mX8_read (QM (rdL S k (nI l) f (m + 1) c x y).1 (rdL S k (nI l) f (m + 1) c x y).2) 164 [some (.ref 0), some (.int (nI k)), some (.int (nI l)), some (.int f), some (.int (nI n)), some (.int 0), some (.int (nI c)), some (.int (nI c))] [] (wM (zSt W g)) := by
            intro hn2
            have er : rdL S k (nI l) f (m + 1) c x y = (-20 - nI c, S) := by rw [rdL, e0, if_pos rfl, if_neg hn2]
            rw [er]
            refine r_aload_n (i := 0) 165 dX8_read_164 rfl rfl rfl ?_
            refine r_bipush (v := 111) 167 dX8_read_165 rfl rfl ?_
            refine r_iconst (v := 0) 168 dX8_read_167 rfl rfl ?_
            refine r_callMu 171 dX8_read_168 rfl ykX8_copies lk_X8_278 (e2_copies (W := zSt W g) (a := 111) (b := 0) (by decide) (by decide) (by decide)) rfl rfl rfl rfl rfl rfl ⟨Nat.le_refl _, Nat.le_refl _⟩ ?_
            refine r_bipush (v := (-20)) 173 dX8_read_171 rfl rfl ?_
            refine r_iload (i := 6) 175 dX8_read_173 rfl rfl ?_
            refine r_isub 176 dX8_read_175 rfl ?_
            exact r_reti dX8_read_176 rfl (by first | rfl | exact bI_nar _) ⟨Nat.le_refl _, Nat.le_refl _⟩ (fun _ => rfl) (⟨rfl, _, rfl, relM_bad hR hg⟩)
          generalize hcv : (tH S).2.2 k (f.toInt + (c : Int)).toNat = cv at *
          refine r_iload (i := 7) 57 dX8_read_55 rfl rfl ?_
          refine r_iload (i := 4) 59 dX8_read_57 rfl rfl ?_
          refine r_icmp_ge 192 62 dX8_read_59 rfl rfl (fun h59 => absurd (ble_of (by omega) (by omega) h59) (by omega)) (fun h59 => ?_)
          refine r_iload (i := 5) 64 dX8_read_62 rfl rfl ?_
          refine r_if_ne 192 67 dX8_read_64 rfl rfl (fun h64 => absurd rfl h64) (fun h64 => ?_)
          refine r_aload_n (i := 0) 68 dX8_read_67 rfl rfl rfl ?_
          refine r_getf 71 dX8_read_68 rfl fl_X8_35 rfl rfl ?_
          refine r_iload_n (i := 1) 72 dX8_read_71 rfl rfl rfl ?_
          refine r_iald 73 dX8_read_72 rfl rfl (by assumption) ?_
          rw [ec, gs1]
          refine r_bipush (v := (-4)) 75 dX8_read_73 rfl rfl ?_
          refine r_icmp_ne 82 78 dX8_read_75 rfl rfl (fun h75 => ?_) (fun h75 => absurd ((laM_3 t1).mp h75) q3)
          refine r_aload_n (i := 0) 83 dX8_read_82 rfl rfl rfl ?_
          refine r_getf 86 dX8_read_83 rfl fl_X8_35 rfl rfl ?_
          refine r_iload_n (i := 1) 87 dX8_read_86 rfl rfl rfl ?_
          refine r_iald 88 dX8_read_87 rfl rfl (by assumption) ?_
          rw [ec, gs1, el]
          refine r_iload_n (i := 2) 89 dX8_read_88 rfl rfl rfl ?_
          refine r_icmp_eq 96 92 dX8_read_89 rfl rfl (fun h89 => ?_) (fun h89 => absurd nl h89)
          refine r_iload_n (i := 3) 97 dX8_read_96 rfl rfl rfl ?_
          refine r_i2l 98 dX8_read_97 rfl ?_
          refine r_iload (i := 7) 100 dX8_read_98 rfl rfl ?_
          refine r_i2l 101 dX8_read_100 rfl ?_
          refine r_ladd 102 dX8_read_101 rfl ?_
          refine r_lconst (v := 0) 103 dX8_read_102 rfl rfl ?_
          refine r_aload_n (i := 0) 104 dX8_read_103 rfl rfl rfl ?_
          refine r_getf 107 dX8_read_104 rfl fl_X8_38 rfl rfl ?_
          refine r_iload_n (i := 1) 108 dX8_read_107 rfl rfl rfl ?_
          refine r_iald 109 dX8_read_108 rfl rfl (by assumption) ?_
          rw [ec, gs2]
          refine r_iconst (v := 1) 110 dX8_read_109 rfl rfl ?_
          refine r_isub 111 dX8_read_110 rfl ?_
          refine r_i2l 112 dX8_read_111 rfl ?_
          refine r_callSi [] 115 dX8_read_112 rfl ykX8_in lk_X8_46 (e_inx (rd_in f (c := c) (n := (tH S).2.1 k) (by omega) (by omega))) rfl rfl rfl ⟨Nat.le_refl _, Nat.le_refl _⟩ ?_
          rw [decide_eq_true qi]
          refine r_if_ne 122 118 dX8_read_115 rfl rfl (fun h115 => ?_) (fun h115 => absurd h115 (by decide))
          refine r_iconst (v := 0) 123 dX8_read_122 rfl rfl ?_
          refine r_istore (i := 5) 125 dX8_read_123 rfl rfl ?_
          refine r_iload (i := 5) 127 dX8_read_125 rfl rfl ?_
          refine r_if_ne 186 130 dX8_read_127 rfl rfl (fun h127 => absurd rfl h127) (fun h127 => ?_)
          refine r_aload_n (i := 0) 131 dX8_read_130 rfl rfl rfl ?_
          refine r_getf 134 dX8_read_131 rfl fl_X8_7 rfl rfl ?_
          refine r_bipush (v := 36) 136 dX8_read_134 rfl rfl ?_
          refine r_iald 137 dX8_read_136 rfl rfl (by assumption) ?_
          rw [ey]
          refine r_sipush (v := 999) 140 dX8_read_137 rfl rfl ?_
          refine r_icmp_eq 164 143 dX8_read_140 rfl rfl (fun h140 => fail (by have z := beq_of (a := y) (b := 999) (by omega) (by decide) h140; omega)) (fun h140 => ?_)
          have z := bne_of (b := 999) (by omega) (by decide) h140
          refine r_aload_n (i := 0) 144 dX8_read_143 rfl rfl rfl ?_
          refine r_aload_n (i := 0) 145 dX8_read_144 rfl rfl rfl ?_
          refine r_getf 148 dX8_read_145 rfl fl_X8_41 rfl rfl ?_
          refine r_bipush (v := 40) 150 dX8_read_148 rfl rfl ?_
          refine r_iload_n (i := 1) 151 dX8_read_150 rfl rfl rfl ?_
          refine r_imul 152 dX8_read_151 rfl ?_
          refine r_iload_n (i := 3) 153 dX8_read_152 rfl rfl rfl ?_
          refine r_iadd 154 dX8_read_153 rfl ?_
          refine r_iload (i := 7) 156 dX8_read_154 rfl rfl ?_
          refine r_iadd 157 dX8_read_156 rfl ?_
          rw [ix]
          refine r_iald 158 dX8_read_157 rfl rfl (by assumption) ?_
          rw [nI_clamp (n := 40 * k + (f.toInt + (c : Int)).toNat) (by omega), ece]
          cases hgv : inb (nI (sG (tA S))) cv with
          | false =>
            refine r_callMi 161 dX8_read_158 rfl ykX8_undoes lk_X8_183 (e2_undoes_b hMg hgv) rfl rfl rfl rfl rfl rfl ⟨Nat.le_refl _, Nat.le_refl _⟩ ?_
            refine r_if_ge 177 164 dX8_read_161 rfl rfl (fun h161 => absurd h161 (by decide)) (fun h161 => ?_)
            exact fail (fun z => by rw [hgv] at z; exact absurd z.2.1 (by decide))
          | true =>
            obtain ⟨i, hi, rfl⟩ := inb_nI (by omega) hgv
            rw [nI_clamp (n := i) (by omega)] at fail
            have xl := xor_lt (A := tA S) (x := x) hx2 (hM.gat hi).2.2.1
            have eu := e2_undoes_i (d := d + 2) hMg hg.2.1 hx2 hi
            cases ha : al (tA S) (x ^^^ 2 ^ sU (tA S) i) with
            | false =>
              rw [ha] at eu
              refine r_callMu 161 dX8_read_158 rfl ykX8_undoes lk_X8_183 (eu) rfl rfl rfl rfl rfl rfl ⟨Nat.le_refl _, Nat.le_refl _⟩ ?_
              refine r_if_ge 177 164 dX8_read_161 rfl rfl (fun h161 => absurd (show (0 : Int32) ≤ -2 from h161) (by decide)) (fun h161 => ?_)
              exact fail (fun z => by rw [ha] at z; exact absurd z.2.2 (by decide))
            | true =>
              rw [ha] at eu
              have y9 : y < 999 := by omega
              have er : rdL S k (nI l) f (m + 1) c x y = rdL S k (nI l) f m (c + 1) (nx (tA S) (x ^^^ 2 ^ sU (tA S) i)) (y + 1) := by
                rw [rdL, e0, if_pos rfl, hcv, nI_clamp (n := i) (by omega), if_pos ⟨y9, hgv, ha⟩]
              rw [er]
              have pos : (0 : Int32) ≤ nI (x ^^^ 2 ^ sU (tA S) i) := nI_pos' (by have := p2_le h6; omega)
              have eg := e2_go (d := d) (W := zSt (zSt W g) (upd g 18 (nI (x ^^^ 2 ^ sU (tA S) i)))) (A := tA S) (x := x ^^^ 2 ^ sU (tA S) i) (y := y) (j := 1) ⟨hMg.1, hMg.2.1, mpg_cong hMg.2.2 (fun z _ hz => u_ne hz)⟩ (pk_us (f := g) (k := 18)) ((pk_un (f := g) (k := 18) (j := 36) (x := nI (x ^^^ 2 ^ sU (tA S) i)) (by decide)).trans hg.2.2.1) xl (by decide) (by omega)
              refine r_callMu 161 dX8_read_158 rfl ykX8_undoes lk_X8_183 (eu) rfl rfl rfl rfl rfl rfl ⟨Nat.le_refl _, Nat.le_refl _⟩ ?_
              refine r_if_ge 177 164 dX8_read_161 rfl rfl (fun h161 => ?_) (fun h161 => absurd pos h161)
              refine r_aload_n (i := 0) 178 dX8_read_177 rfl rfl rfl ?_
              refine r_iconst (v := 1) 179 dX8_read_178 rfl rfl ?_
              refine r_callMu 182 dX8_read_179 rfl ykX8_go lk_X8_284 (eg) rfl rfl rfl rfl rfl rfl ⟨Nat.le_refl _, Nat.le_refl _⟩ ?_
              skip
              refine r_pop 183 dX8_read_182 rfl rfl ?_
              refine r_iinc (i := 6) 186 dX8_read_183 rfl rfl (by first | exact nI_1 _ | rfl) rfl ?_
              refine r_iinc (i := 7) 189 dX8_read_186 rfl rfl (by first | exact nI_1 _ | rfl) rfl ?_
              refine r_goto 55 dX8_read_189 rfl ?_
              exact ih (c + 1) _ (y + 1) _ (by omega) (nx_lt _ _) (by omega) (rdG_next hg)
        · have e2 : rfo S k (nI l) f c = 2 := by rw [rfo, if_neg q3, if_neg (fun z => z nl), if_neg qi]
          have b2 := bad 2 (by decide) (by decide) e2
          refine r_iload (i := 7) 57 dX8_read_55 rfl rfl ?_
          refine r_iload (i := 4) 59 dX8_read_57 rfl rfl ?_
          refine r_icmp_ge 192 62 dX8_read_59 rfl rfl (fun h59 => absurd (ble_of (by omega) (by omega) h59) (by omega)) (fun h59 => ?_)
          refine r_iload (i := 5) 64 dX8_read_62 rfl rfl ?_
          refine r_if_ne 192 67 dX8_read_64 rfl rfl (fun h64 => absurd rfl h64) (fun h64 => ?_)
          refine r_aload_n (i := 0) 68 dX8_read_67 rfl rfl rfl ?_
          refine r_getf 71 dX8_read_68 rfl fl_X8_35 rfl rfl ?_
          refine r_iload_n (i := 1) 72 dX8_read_71 rfl rfl rfl ?_
          refine r_iald 73 dX8_read_72 rfl rfl (by assumption) ?_
          rw [ec, gs1]
          refine r_bipush (v := (-4)) 75 dX8_read_73 rfl rfl ?_
          refine r_icmp_ne 82 78 dX8_read_75 rfl rfl (fun h75 => ?_) (fun h75 => absurd ((laM_3 t1).mp h75) q3)
          refine r_aload_n (i := 0) 83 dX8_read_82 rfl rfl rfl ?_
          refine r_getf 86 dX8_read_83 rfl fl_X8_35 rfl rfl ?_
          refine r_iload_n (i := 1) 87 dX8_read_86 rfl rfl rfl ?_
          refine r_iald 88 dX8_read_87 rfl rfl (by assumption) ?_
          rw [ec, gs1, el]
          refine r_iload_n (i := 2) 89 dX8_read_88 rfl rfl rfl ?_
          refine r_icmp_eq 96 92 dX8_read_89 rfl rfl (fun h89 => ?_) (fun h89 => absurd nl h89)
          refine r_iload_n (i := 3) 97 dX8_read_96 rfl rfl rfl ?_
          refine r_i2l 98 dX8_read_97 rfl ?_
          refine r_iload (i := 7) 100 dX8_read_98 rfl rfl ?_
          refine r_i2l 101 dX8_read_100 rfl ?_
          refine r_ladd 102 dX8_read_101 rfl ?_
          refine r_lconst (v := 0) 103 dX8_read_102 rfl rfl ?_
          refine r_aload_n (i := 0) 104 dX8_read_103 rfl rfl rfl ?_
          refine r_getf 107 dX8_read_104 rfl fl_X8_38 rfl rfl ?_
          refine r_iload_n (i := 1) 108 dX8_read_107 rfl rfl rfl ?_
          refine r_iald 109 dX8_read_108 rfl rfl (by assumption) ?_
          rw [ec, gs2]
          refine r_iconst (v := 1) 110 dX8_read_109 rfl rfl ?_
          refine r_isub 111 dX8_read_110 rfl ?_
          refine r_i2l 112 dX8_read_111 rfl ?_
          refine r_callSi [] 115 dX8_read_112 rfl ykX8_in lk_X8_46 (e_inx (rd_in f (c := c) (n := (tH S).2.1 k) (by omega) (by omega))) rfl rfl rfl ⟨Nat.le_refl _, Nat.le_refl _⟩ ?_
          rw [decide_eq_false qi]
          refine r_if_ne 122 118 dX8_read_115 rfl rfl (fun h115 => absurd rfl h115) (fun h115 => ?_)
          refine r_iconst (v := 2) 119 dX8_read_118 rfl rfl ?_
          refine r_goto 123 dX8_read_119 rfl ?_
          exact b2
      · have nl : ¬ nI ((tH S).1 k) = nI l := fun z => ql (beq_of (by omega) (by omega) z)
        have e3 : rfo S k (nI l) f c = 3 := by rw [rfo, if_neg q3, if_pos nl]
        have b3 := bad 3 (by decide) (by decide) e3
        refine r_iload (i := 7) 57 dX8_read_55 rfl rfl ?_
        refine r_iload (i := 4) 59 dX8_read_57 rfl rfl ?_
        refine r_icmp_ge 192 62 dX8_read_59 rfl rfl (fun h59 => absurd (ble_of (by omega) (by omega) h59) (by omega)) (fun h59 => ?_)
        refine r_iload (i := 5) 64 dX8_read_62 rfl rfl ?_
        refine r_if_ne 192 67 dX8_read_64 rfl rfl (fun h64 => absurd rfl h64) (fun h64 => ?_)
        refine r_aload_n (i := 0) 68 dX8_read_67 rfl rfl rfl ?_
        refine r_getf 71 dX8_read_68 rfl fl_X8_35 rfl rfl ?_
        refine r_iload_n (i := 1) 72 dX8_read_71 rfl rfl rfl ?_
        refine r_iald 73 dX8_read_72 rfl rfl (by assumption) ?_
        rw [ec, gs1]
        refine r_bipush (v := (-4)) 75 dX8_read_73 rfl rfl ?_
        refine r_icmp_ne 82 78 dX8_read_75 rfl rfl (fun h75 => ?_) (fun h75 => absurd ((laM_3 t1).mp h75) q3)
        refine r_aload_n (i := 0) 83 dX8_read_82 rfl rfl rfl ?_
        refine r_getf 86 dX8_read_83 rfl fl_X8_35 rfl rfl ?_
        refine r_iload_n (i := 1) 87 dX8_read_86 rfl rfl rfl ?_
        refine r_iald 88 dX8_read_87 rfl rfl (by assumption) ?_
        rw [ec, gs1, el]
        refine r_iload_n (i := 2) 89 dX8_read_88 rfl rfl rfl ?_
        refine r_icmp_eq 96 92 dX8_read_89 rfl rfl (fun h89 => absurd h89 nl) (fun h89 => ?_)
        refine r_iconst (v := 3) 93 dX8_read_92 rfl rfl ?_
        refine r_goto 123 dX8_read_93 rfl ?_
        exact b3
theorem q_read (hT : tOk S) (hC : CM S w) (k : Int32) (lane : Int32) (f : Int32) (n : Int32) : mm_e (d + 6) yX8_read mX8_read [.ref 0, .int k, .int lane, .int f, .int n] w (QM (s_read S k lane f n).1 (s_read S k lane f n).2) := by
  have hC0 := hC
  obtain ⟨W, rfl, hR⟩ := hC
  obtain ⟨hM, ⟨hx, hy⟩, ⟨ht, hb⟩, hf, ⟨v1, v2⟩, ⟨hk0, hk1⟩, hI, hH, hn⟩ := id hR
  have h6 := hM.n6
  have h4 := hM.g4
  have h5 := hM.b4
  have p6 := p2_le hM.n6
  have l0 := hM.lt31 hT.2.1
  have i18 : vp_in (18 : Int32) 148 := vp_in_nI (n := 18) (by decide) (by decide)
  have i35 : vp_in (35 : Int32) 148 := vp_in_nI (n := 35) (by decide) (by decide)
  have i36 : vp_in (36 : Int32) 148 := vp_in_nI (n := 36) (by decide) (by decide)
  have ex : W.1.1 (18 : Int32).toNatClampNeg = nI (tX S) := hx
  have ey : W.1.1 (36 : Int32).toNatClampNeg = nI (tY S) := hy
  have eb : W.1.1 (35 : Int32).toNatClampNeg = nI (sB (tA S)) := hM.bn
  refine e_of [some (.ref 0), some (.int k), some (.int lane), some (.int f), some (.int n), none, none, none] rfl (by decide) rfl rfl rfl ?_
  rw [s_read]
  cases g : inb 4 k with
  | false =>
    refine r_iload_n (i := 1) 1 dX8_read_0 rfl rfl rfl ?_
    refine r_i2l 2 dX8_read_1 rfl ?_
    refine r_lconst (v := 0) 3 dX8_read_2 rfl rfl ?_
    refine r_ldc2 6 dX8_read_3 rfl k_X8_194 ?_
    refine r_callSi [] 9 dX8_read_6 rfl ykX8_in lk_X8_46 (e_in0 k (n := 4) (by decide) (by decide)) rfl rfl rfl ⟨Nat.le_refl _, Nat.le_refl _⟩ ?_
    rw [show inb (nI 4) k = false from g]
    refine r_if_eq 37 12 dX8_read_9 rfl rfl (fun h9 => ?_) (fun h9 => absurd rfl h9)
    refine r_iconst (v := (-1)) 38 dX8_read_37 rfl rfl ?_
    exact r_reti dX8_read_38 rfl (by first | rfl | exact bI_nar _) ⟨Nat.le_refl _, Nat.le_refl _⟩ (fun _ => rfl) (⟨rfl, hC0⟩)
  | true =>
    cases g2 : inb 3 lane with
    | false =>
      refine r_iload_n (i := 1) 1 dX8_read_0 rfl rfl rfl ?_
      refine r_i2l 2 dX8_read_1 rfl ?_
      refine r_lconst (v := 0) 3 dX8_read_2 rfl rfl ?_
      refine r_ldc2 6 dX8_read_3 rfl k_X8_194 ?_
      refine r_callSi [] 9 dX8_read_6 rfl ykX8_in lk_X8_46 (e_in0 k (n := 4) (by decide) (by decide)) rfl rfl rfl ⟨Nat.le_refl _, Nat.le_refl _⟩ ?_
      rw [show inb (nI 4) k = true from g]
      refine r_if_eq 37 12 dX8_read_9 rfl rfl (fun h9 => absurd h9 (by decide)) (fun h9 => ?_)
      refine r_iload_n (i := 2) 13 dX8_read_12 rfl rfl rfl ?_
      refine r_i2l 14 dX8_read_13 rfl ?_
      refine r_lconst (v := 0) 15 dX8_read_14 rfl rfl ?_
      refine r_ldc2 18 dX8_read_15 rfl k_X8_169 ?_
      refine r_callSi [] 21 dX8_read_18 rfl ykX8_in lk_X8_46 (e_in0 lane (n := 3) (by decide) (by decide)) rfl rfl rfl ⟨Nat.le_refl _, Nat.le_refl _⟩ ?_
      rw [show inb (nI 3) lane = false from g2]
      refine r_if_eq 37 24 dX8_read_21 rfl rfl (fun h21 => ?_) (fun h21 => absurd rfl h21)
      refine r_iconst (v := (-1)) 38 dX8_read_37 rfl rfl ?_
      exact r_reti dX8_read_38 rfl (by first | rfl | exact bI_nar _) ⟨Nat.le_refl _, Nat.le_refl _⟩ (fun _ => rfl) (⟨rfl, hC0⟩)
    | true =>
      cases g3 : inb 21 n with
      | false =>
        refine r_iload_n (i := 1) 1 dX8_read_0 rfl rfl rfl ?_
        refine r_i2l 2 dX8_read_1 rfl ?_
        refine r_lconst (v := 0) 3 dX8_read_2 rfl rfl ?_
        refine r_ldc2 6 dX8_read_3 rfl k_X8_194 ?_
        refine r_callSi [] 9 dX8_read_6 rfl ykX8_in lk_X8_46 (e_in0 k (n := 4) (by decide) (by decide)) rfl rfl rfl ⟨Nat.le_refl _, Nat.le_refl _⟩ ?_
        rw [show inb (nI 4) k = true from g]
        refine r_if_eq 37 12 dX8_read_9 rfl rfl (fun h9 => absurd h9 (by decide)) (fun h9 => ?_)
        refine r_iload_n (i := 2) 13 dX8_read_12 rfl rfl rfl ?_
        refine r_i2l 14 dX8_read_13 rfl ?_
        refine r_lconst (v := 0) 15 dX8_read_14 rfl rfl ?_
        refine r_ldc2 18 dX8_read_15 rfl k_X8_169 ?_
        refine r_callSi [] 21 dX8_read_18 rfl ykX8_in lk_X8_46 (e_in0 lane (n := 3) (by decide) (by decide)) rfl rfl rfl ⟨Nat.le_refl _, Nat.le_refl _⟩ ?_
        rw [show inb (nI 3) lane = true from g2]
        refine r_if_eq 37 24 dX8_read_21 rfl rfl (fun h21 => absurd h21 (by decide)) (fun h21 => ?_)
        refine r_iload (i := 4) 26 dX8_read_24 rfl rfl ?_
        refine r_i2l 27 dX8_read_26 rfl ?_
        refine r_lconst (v := 0) 28 dX8_read_27 rfl rfl ?_
        refine r_ldc2 31 dX8_read_28 rfl k_X8_282 ?_
        refine r_callSi [] 34 dX8_read_31 rfl ykX8_in lk_X8_46 (e_in0 n (n := 21) (by decide) (by decide)) rfl rfl rfl ⟨Nat.le_refl _, Nat.le_refl _⟩ ?_
        rw [show inb (nI 21) n = false from g3]
        refine r_if_ne 39 37 dX8_read_34 rfl rfl (fun h34 => absurd rfl h34) (fun h34 => ?_)
        refine r_iconst (v := (-1)) 38 dX8_read_37 rfl rfl ?_
        exact r_reti dX8_read_38 rfl (by first | rfl | exact bI_nar _) ⟨Nat.le_refl _, Nat.le_refl _⟩ (fun _ => rfl) (⟨rfl, hC0⟩)
      | true =>
        obtain ⟨i, hi, rfl⟩ := inb_nI (n := 4) (by decide) g
        obtain ⟨l, hl, rfl⟩ := inb_nI (n := 3) (by decide) g2
        obtain ⟨j, hj, rfl⟩ := inb_nI (n := 21) (by decide) g3
        rw [nI_clamp (n := i) (by omega), nI_clamp (n := j) (by omega)]
        refine r_iload_n (i := 1) 1 dX8_read_0 rfl rfl rfl ?_
        refine r_i2l 2 dX8_read_1 rfl ?_
        refine r_lconst (v := 0) 3 dX8_read_2 rfl rfl ?_
        refine r_ldc2 6 dX8_read_3 rfl k_X8_194 ?_
        refine r_callSi [] 9 dX8_read_6 rfl ykX8_in lk_X8_46 (e_in0 (nI i) (n := 4) (by decide) (by decide)) rfl rfl rfl ⟨Nat.le_refl _, Nat.le_refl _⟩ ?_
        rw [show inb (nI 4) (nI i) = true from g]
        refine r_if_eq 37 12 dX8_read_9 rfl rfl (fun h9 => absurd h9 (by decide)) (fun h9 => ?_)
        refine r_iload_n (i := 2) 13 dX8_read_12 rfl rfl rfl ?_
        refine r_i2l 14 dX8_read_13 rfl ?_
        refine r_lconst (v := 0) 15 dX8_read_14 rfl rfl ?_
        refine r_ldc2 18 dX8_read_15 rfl k_X8_169 ?_
        refine r_callSi [] 21 dX8_read_18 rfl ykX8_in lk_X8_46 (e_in0 (nI l) (n := 3) (by decide) (by decide)) rfl rfl rfl ⟨Nat.le_refl _, Nat.le_refl _⟩ ?_
        rw [show inb (nI 3) (nI l) = true from g2]
        refine r_if_eq 37 24 dX8_read_21 rfl rfl (fun h21 => absurd h21 (by decide)) (fun h21 => ?_)
        refine r_iload (i := 4) 26 dX8_read_24 rfl rfl ?_
        refine r_i2l 27 dX8_read_26 rfl ?_
        refine r_lconst (v := 0) 28 dX8_read_27 rfl rfl ?_
        refine r_ldc2 31 dX8_read_28 rfl k_X8_282 ?_
        refine r_callSi [] 34 dX8_read_31 rfl ykX8_in lk_X8_46 (e_in0 (nI j) (n := 21) (by decide) (by decide)) rfl rfl rfl ⟨Nat.le_refl _, Nat.le_refl _⟩ ?_
        rw [show inb (nI 21) (nI j) = true from g3]
        refine r_if_ne 39 37 dX8_read_34 rfl rfl (fun h34 => ?_) (fun h34 => absurd h34 (by decide))
        refine r_aload_n (i := 0) 40 dX8_read_39 rfl rfl rfl ?_
        refine r_iconst (v := 0) 41 dX8_read_40 rfl rfl ?_
        refine r_bipush (v := 111) 43 dX8_read_41 rfl rfl ?_
        refine r_callMu 46 dX8_read_43 rfl ykX8_copies lk_X8_278 (e2_copies (a := 0) (b := 111) (by decide) (by decide) (by decide)) rfl rfl rfl rfl rfl rfl ⟨Nat.le_refl _, Nat.le_refl _⟩ ?_
        refine r_iconst (v := 0) 47 dX8_read_46 rfl rfl ?_
        refine r_istore (i := 5) 49 dX8_read_47 rfl rfl ?_
        refine r_iconst (v := 0) 50 dX8_read_49 rfl rfl ?_
        refine r_istore (i := 6) 52 dX8_read_50 rfl rfl ?_
        refine r_iconst (v := 0) 53 dX8_read_52 rfl rfl ?_
        refine r_istore (i := 7) 55 dX8_read_53 rfl rfl ?_
        exact l2_read hT hR hi hl (by omega) f j 0 (tX S) (tY S) (cpP W.1.1 0 111 37) rfl hT.2.1 hT.2.2.1 ⟨fun z hz _ _ => cp_out W.1.1 0 111 37 z (by omega), (cp_out W.1.1 0 111 37 18 (by decide)).trans hx, (cp_out W.1.1 0 111 37 36 (by decide)).trans hy, fun z hz => (cp_in W.1.1 0 111 37 z hz).trans (by rw [Nat.zero_add])⟩
end ML
