section XH
variable {d : Nat} {A : sA} {S : sT} {w : mm_W} {N Z : FlT} {kp : Nat → Int32} {R : RdT} {Si : SiT} {Sr : SrT} {Ta : TaT} {I J : FlT} {H0 H1 H2 H3 : ShT} {tn : Int32}
def vis (S : sT) (g : Int32) : Option Nat := if tY S < 999 ∧ inb (nI (sG (tA S))) g = true ∧ al (tA S) (tX S ^^^ 2 ^ sU (tA S) g.toNatClampNeg) = true then some (nx (tA S) (tX S ^^^ 2 ^ sU (tA S) g.toNatClampNeg)) else none
def QV (S : sT) (g : Int32) : Option Value → mm_W → Prop := fun v u => match vis S g with
  | some x' => v = some (.int 1) ∧ CX (tSXY S x' (tY S + 1)) u
  | none => v = some (.int 0) ∧ ∃ x' y', CX (tSXY S x' y') u
theorem QV_len (S : sT) (g : Int32) (v : Option Value) (u : mm_W) (h : QV S g v u) : u.length = 64 := by
  unfold QV at h
  split at h
  · obtain ⟨-, -, N, Z, kp, R, Si, Sr, Ta, I, J, H0, H1, H2, H3, tn, rfl, -⟩ := h; rfl
  · obtain ⟨-, x', y', -, N, Z, kp, R, Si, Sr, Ta, I, J, H0, H1, H2, H3, tn, rfl, -⟩ := h; rfl
theorem QV_no {S : sT} {g : Int32} {v : Option Value} {u : mm_W} (h : vis S g = none) (hv : v = some (.int 0)) (x y : Nat) (hC : CX (tSXY S x y) u) : QV S g v u := by
  rw [QV, h]; exact ⟨hv, x, y, hC⟩
theorem QV_yes {S : sT} {g : Int32} {v : Option Value} {u : mm_W} {x : Nat} (h : vis S g = some x) (hv : v = some (.int 1)) (hC : CX (tSXY S x (tY S + 1)) u) : QV S g v u := by
  rw [QV, h]; exact ⟨hv, hC⟩
theorem s_go1 (S : sT) (h : tY S + 1 ≤ 999) : s_go S 1 = (nI (nx (tA S) (tX S)), tSXY S (nx (tA S) (tX S)) (tY S + 1)) := by
  rw [s_go, show inb 100 1 = true from rfl, if_pos rfl, show (1 : Int32).toNatClampNeg = 1 from rfl, if_pos h]; rfl
theorem s_go2 (S : sT) (h : ¬ tY S + 1 ≤ 999) : s_go S 1 = (-3, S) := by
  rw [s_go, show inb 100 1 = true from rfl, if_pos rfl, show (1 : Int32).toNatClampNeg = 1 from rfl, if_neg h]
theorem p_visit (hC : CX S w) (g : Int32) : mm_e (d + 5) yX7_visit mX7_visit [.ref 0, .int g] w (QV S g) := by
  have hC0 := hC
  have hT0 := hC.1
  obtain ⟨-, N, Z, kp, R, Si, Sr, Ta, I, J, H0, H1, H2, H3, tn, rfl, -⟩ := hC
  have pu := p_undo (d := d) hC0 g
  rw [s_undo] at pu
  refine e_of [some (.ref 0), some (.int g)] rfl (by decide) rfl rfl rfl ?_
  cases h1 : inb (nI (sG (tA S))) g with
  | false =>
    have hv : vis S g = none := by rw [vis, h1]; simp
    rw [h1] at pu
    refine r_aload_n (i := 0) 1 dX7_visit_0 rfl rfl rfl ?_
    refine r_iload_n (i := 1) 2 dX7_visit_1 rfl rfl rfl ?_
    refine r_callVw 5 dX7_visit_2 rfl ykX7_undo lk_X7_321 (pu) rfl nd64 rfl rfl rfl rfl ⟨Nat.le_refl _, Nat.le_refl _⟩ (QX_len _ _) (fun v u hq => ?_)
    obtain ⟨rfl, hC2⟩ := hq
    refine r_if_lt 20 8 dX7_visit_5 rfl rfl (fun h5 => ?_) (fun h5 => absurd (show (-1 : Int32) < 0 by decide) h5)
    refine r_iconst (v := 0) 21 dX7_visit_20 rfl rfl ?_
    exact r_reti dX7_visit_21 rfl (by first | rfl | exact bI_nar _) ⟨Nat.le_refl _, Nat.le_refl _⟩ (fun _ => rfl) (QV_no hv rfl _ _ hC2)
  | true =>
    rw [h1, if_pos rfl] at pu
    cases h2 : al (tA S) (tX S ^^^ 2 ^ sU (tA S) g.toNatClampNeg) with
    | false =>
      have hv : vis S g = none := by rw [vis, h1, h2]; simp
      rw [h2] at pu
      refine r_aload_n (i := 0) 1 dX7_visit_0 rfl rfl rfl ?_
      refine r_iload_n (i := 1) 2 dX7_visit_1 rfl rfl rfl ?_
      refine r_callVw 5 dX7_visit_2 rfl ykX7_undo lk_X7_321 (pu) rfl nd64 rfl rfl rfl rfl ⟨Nat.le_refl _, Nat.le_refl _⟩ (QX_len _ _) (fun v u hq => ?_)
      obtain ⟨rfl, hC2⟩ := hq
      refine r_if_lt 20 8 dX7_visit_5 rfl rfl (fun h5 => ?_) (fun h5 => absurd (show (-2 : Int32) < 0 by decide) h5)
      refine r_iconst (v := 0) 21 dX7_visit_20 rfl rfl ?_
      exact r_reti dX7_visit_21 rfl (by first | rfl | exact bI_nar _) ⟨Nat.le_refl _, Nat.le_refl _⟩ (fun _ => rfl) (QV_no hv rfl _ _ hC2)
    | true =>
      obtain ⟨j, hj, rfl⟩ := inb_nI (by have := hT0.1.2.2.1; omega) h1
      rw [h2, if_pos rfl] at pu
      have lx : tX S ^^^ 2 ^ sU (tA S) (nI j).toNatClampNeg < 2 ^ sN (tA S) := by rw [nI_clamp (n := j) (by have := hT0.1.2.2.1; omega)]; exact xor_lt hT0.2.1 (hT0.1.2.2.2.1 j hj).1
      have p6 := p2_le hT0.1.1
      by_cases h3 : tY S < 999
      · have hv : vis S (nI j) = some (nx (tA S) (tX S ^^^ 2 ^ sU (tA S) (nI j).toNatClampNeg)) := by rw [vis, if_pos ⟨h3, h1, h2⟩]
        have ln := nx_lt (tA S) (tX S ^^^ 2 ^ sU (tA S) (nI j).toNatClampNeg)
        refine r_aload_n (i := 0) 1 dX7_visit_0 rfl rfl rfl ?_
        refine r_iload_n (i := 1) 2 dX7_visit_1 rfl rfl rfl ?_
        refine r_callVw 5 dX7_visit_2 rfl ykX7_undo lk_X7_321 (pu) rfl nd64 rfl rfl rfl rfl ⟨Nat.le_refl _, Nat.le_refl _⟩ (QX_len _ _) (fun v u hq => ?_)
        obtain ⟨rfl, hC2⟩ := hq
        have hC2 : CX (tSX S (tX S ^^^ 2 ^ sU (tA S) (nI j).toNatClampNeg)) u := hC2
        have pg := p_go (d := d) hC2 1
        rw [s_go1 (tSX S (tX S ^^^ 2 ^ sU (tA S) (nI j).toNatClampNeg)) (show tY S + 1 ≤ 999 by omega)] at pg
        obtain ⟨-, N, Z, kp, R, Si, Sr, Ta, I, J, H0, H1, H2, H3, tn, rfl, -⟩ := id hC2
        refine r_if_lt 20 8 dX7_visit_5 rfl rfl (fun h5 => absurd h5 (nI_pos (by omega))) (fun h5 => ?_)
        refine r_aload_n (i := 0) 9 dX7_visit_8 rfl rfl rfl ?_
        refine r_iconst (v := 1) 10 dX7_visit_9 rfl rfl ?_
        refine r_callVw 13 dX7_visit_10 rfl ykX7_go lk_X7_324 (pg) rfl nd64 rfl rfl rfl rfl ⟨Nat.le_refl _, Nat.le_refl _⟩ (QX_len _ _) (fun v u hq => ?_)
        obtain ⟨rfl, hC3⟩ := hq
        refine r_if_lt 20 16 dX7_visit_13 rfl rfl (fun h13 => absurd h13 (nI_pos (show nx (tA S) (tX S ^^^ 2 ^ sU (tA S) (nI j).toNatClampNeg) < 2 ^ 31 by omega))) (fun h13 => ?_)
        refine r_iconst (v := 1) 17 dX7_visit_16 rfl rfl ?_
        refine r_goto 21 dX7_visit_17 rfl ?_
        exact r_reti dX7_visit_21 rfl (by first | rfl | exact bI_nar _) ⟨Nat.le_refl _, Nat.le_refl _⟩ (fun _ => rfl) (QV_yes hv rfl hC3)
      · have hv : vis S (nI j) = none := by rw [vis, if_neg (fun z => h3 z.1)]
        refine r_aload_n (i := 0) 1 dX7_visit_0 rfl rfl rfl ?_
        refine r_iload_n (i := 1) 2 dX7_visit_1 rfl rfl rfl ?_
        refine r_callVw 5 dX7_visit_2 rfl ykX7_undo lk_X7_321 (pu) rfl nd64 rfl rfl rfl rfl ⟨Nat.le_refl _, Nat.le_refl _⟩ (QX_len _ _) (fun v u hq => ?_)
        obtain ⟨rfl, hC2⟩ := hq
        have hC2 : CX (tSX S (tX S ^^^ 2 ^ sU (tA S) (nI j).toNatClampNeg)) u := hC2
        have pg := p_go (d := d) hC2 1
        rw [s_go2 (tSX S (tX S ^^^ 2 ^ sU (tA S) (nI j).toNatClampNeg)) (show ¬ tY S + 1 ≤ 999 by omega)] at pg
        obtain ⟨-, N, Z, kp, R, Si, Sr, Ta, I, J, H0, H1, H2, H3, tn, rfl, -⟩ := id hC2
        refine r_if_lt 20 8 dX7_visit_5 rfl rfl (fun h5 => absurd h5 (nI_pos (by omega))) (fun h5 => ?_)
        refine r_aload_n (i := 0) 9 dX7_visit_8 rfl rfl rfl ?_
        refine r_iconst (v := 1) 10 dX7_visit_9 rfl rfl ?_
        refine r_callVw 13 dX7_visit_10 rfl ykX7_go lk_X7_324 (pg) rfl nd64 rfl rfl rfl rfl ⟨Nat.le_refl _, Nat.le_refl _⟩ (QX_len _ _) (fun v u hq => ?_)
        obtain ⟨rfl, hC3⟩ := hq
        refine r_if_lt 20 16 dX7_visit_13 rfl rfl (fun h13 => ?_) (fun h13 => absurd (show (-3 : Int32) < 0 by decide) h13)
        refine r_iconst (v := 0) 21 dX7_visit_20 rfl rfl ?_
        exact r_reti dX7_visit_21 rfl (by first | rfl | exact bI_nar _) ⟨Nat.le_refl _, Nat.le_refl _⟩ (fun _ => rfl) (QV_no hv rfl _ _ hC3)
theorem add_in {x : Int32} {c : Nat} (hc : c < 2 ^ 20) (h0 : 0 ≤ x.toInt + (c : Int)) (h1 : x.toInt + (c : Int) < 2 ^ 31) : x + nI c = nI (x.toInt + (c : Int)).toNat := by
  apply Int32.toInt_inj.mp
  have e : (nI c).toInt = (c : Int) := nI_toInt (by omega)
  have e2 : (nI (x.toInt + (c : Int)).toNat).toInt = ((x.toInt + (c : Int)).toNat : Int) := nI_toInt (by omega)
  rw [Int32.toInt_add, e, e2, Int.toNat_of_nonneg h0]
  have : x.toInt + (c : Int) < 2 ^ 31 := h1
  have h3 : (x.toInt + (c : Int)).bmod (2 ^ 32) = x.toInt + (c : Int) := Int.bmod_eq_of_le (by omega) (by omega)
  exact h3
theorem rfs_rd {S : sT} {k : Nat} {l n lane f : Int32} {came : Nat} (hH : (tH S).1 k ≤ 3 ∧ (tH S).2.1 k ≤ 40) (h1 : l = laX ((tH S).1 k)) (h2 : n = nI ((tH S).2.1 k)) (hc : came ≤ 20) (hi : came = 0 ∨ (0 ≤ f.toInt + (came : Int) ∧ f.toInt + (came : Int) ≤ 40)) : rfs l n lane (f + nI came) = nI (rfo S k lane f came) := by
  subst h1; subst h2
  unfold rfs rfo
  by_cases q : (tH S).1 k = 3
  · rw [if_pos q, laX, if_pos q, if_pos rfl]; rfl
  · rw [if_neg q, if_neg (laX_ne hH.1 q), laX, if_neg q]
    by_cases z : nI ((tH S).1 k) = lane
    · rw [if_neg (not_not_intro z), if_neg (not_not_intro z)]
      have ea : (f + nI came).toInt = f.toInt + (came : Int) := by
        rcases hi with rfl | ⟨a, b⟩
        · rw [show nI 0 = (0 : Int32) from rfl, Int32.add_zero]; simp
        · rw [add_in (by omega) a (by omega), nI_toInt (by omega), Int.toNat_of_nonneg a]
      have es : (nI ((tH S).2.1 k)).toInt = ((tH S).2.1 k : Int) := nI_toInt (by omega)
      have e0 : (0 : Int32).toInt = 0 := rfl
      by_cases y : 0 ≤ f.toInt + (came : Int) ∧ f.toInt + (came : Int) < ((tH S).2.1 k : Int)
      · rw [if_pos y, if_neg (by rw [Int32.lt_iff_toInt_lt, Int32.lt_iff_toInt_lt, ea, es, e0]; omega)]; rfl
      · rw [if_neg y, if_pos (by rw [Int32.lt_iff_toInt_lt, Int32.lt_iff_toInt_lt, ea, es, e0]; omega)]; rfl
    · rw [if_pos z, if_pos z]; rfl
theorem rfo_0 {S : sT} {k : Nat} {lane f : Int32} {came : Nat} (h : rfo S k lane f came = 0) : 0 ≤ f.toInt + (came : Int) ∧ f.toInt + (came : Int) < ((tH S).2.1 k : Int) := by
  unfold rfo at h
  split at h
  · omega
  · split at h
    · omega
    · split at h
      · assumption
      · omega
theorem rfo_le (S : sT) (k : Nat) (lane f : Int32) (came : Nat) : rfo S k lane f came ≤ 3 := by
  unfold rfo
  split
  · omega
  · split
    · omega
    · split <;> omega
theorem rdL_0 {S : sT} {k : Nat} {lane f : Int32} (m came x y : Nat) (h : ¬ rfo S k lane f came = 0) : rdL S k lane f (m + 1) came x y = (nI came, tSN (tSXY S x y) (rfo S k lane f came)) := by rw [rdL, if_neg h]
theorem rdL_1 {S : sT} {k : Nat} {lane f : Int32} (m came x y : Nat) (h : rfo S k lane f came = 0) (hv : vis (tSXY S x y) ((tH S).2.2 k (f.toInt + (came : Int)).toNat) = none) : rdL S k lane f (m + 1) came x y = (-20 - nI came, S) := by
  rw [rdL, if_pos h, if_neg]
  intro z
  rw [vis, if_pos z] at hv
  exact absurd hv (by simp)
theorem rdL_2 {S : sT} {k : Nat} {lane f : Int32} (m came x y x' : Nat) (h : rfo S k lane f came = 0) (hv : vis (tSXY S x y) ((tH S).2.2 k (f.toInt + (came : Int)).toNat) = some x') : rdL S k lane f (m + 1) came x y = rdL S k lane f m (came + 1) x' (y + 1) := by
  rw [rdL, if_pos h]
  rw [vis] at hv
  split at hv
  · rename_i z
    rw [if_pos z]
    cases hv
    rfl
  · exact absurd hv (by simp)
theorem tOk_N (hT : tOk S) {n : Nat} (hn : n ≤ 4) : tOk (tSN S n) := ⟨hT.1, hT.2.1, hT.2.2.1, hT.2.2.2.1, hT.2.2.2.2.1, hT.2.2.2.2.2.1, hT.2.2.2.2.2.2.1, hT.2.2.2.2.2.2.2.1, hT.2.2.2.2.2.2.2.2.1, hn⟩
theorem l_read0 (hT0 : tOk S) (lane f : Int32) {n : Nat} (hn : n ≤ 20) : ∀ (m came x y : Nat) (w : mm_W), m + came = n → (came = 0 ∨ (0 ≤ f.toInt + (came : Int) ∧ f.toInt + (came : Int) ≤ 40)) → CX (tSXY S x y) w → mm_r (d + 6) mX7_read (QX (rdL S 0 lane f m came x y).1 (rdL S 0 lane f m came x y).2) 52 [some (.ref 0), some (.int (nI 0)), some (.int lane), some (.int f), some (.int (nI n)), some (.int (nI (tX S))), some (.int (nI (tY S))), some (.int 0), some (.int (nI came))] [] w := by
  intro m
  induction m with
  | zero =>
    intro came x y w hk hi hC
    have : came = n := by omega
    subst this
    obtain ⟨hT, N, Z, kp, R, Si, Sr, Ta, I, J, H0, H1, H2, H3, tn, rfl, hN, hx, hy, ⟨ht, hb⟩, hf, hs, ⟨hk0, hk1⟩, hI, hJ, ⟨s0, s1, s2, s3⟩, hn⟩ := hC
    refine r_iload (i := 8) 54 dX7_read_52 rfl rfl ?_
    refine r_iload (i := 4) 56 dX7_read_54 rfl rfl ?_
    refine r_icmp_ge 136 59 dX7_read_56 rfl rfl (fun h56 => ?_) (fun h56 => absurd (Int32.le_refl _) h56)
    refine r_aload_n (i := 0) 137 dX7_read_136 rfl rfl rfl ?_
    refine r_iload (i := 7) 139 dX7_read_137 rfl rfl ?_
    refine r_putf 142 dX7_read_139 rfl fl_X7_308 rfl rfl (fun _ _ => ⟨rfl, rfl⟩) (fun z => absurd z Bool.false_ne_true) ?_
    refine r_iload (i := 8) 144 dX7_read_142 rfl rfl ?_
    exact r_reti dX7_read_144 rfl (by first | rfl | exact bI_nar _) ⟨Nat.le_refl _, Nat.le_refl _⟩ (fun _ => rfl) (⟨rfl, tOk_N hT (by decide), N, Z, kp, R, Si, Sr, Ta, I, J, H0, H1, H2, H3, 0, rfl, hN, hx, hy, ⟨ht, hb⟩, hf, hs, ⟨hk0, hk1⟩, hI, hJ, ⟨s0, s1, s2, s3⟩, rfl⟩)
  | succ m ih =>
    intro came x y w hk hi hC
    have hC0 := hC
    obtain ⟨hT, N, Z, kp, R, Si, Sr, Ta, I, J, H0, H1, H2, H3, tn, rfl, hN, hx, hy, ⟨ht, hb⟩, hf, hs, ⟨hk0, hk1⟩, hI, hJ, ⟨s0, s1, s2, s3⟩, hn⟩ := hC
    obtain ⟨a1, a2, a3⟩ := id s0
    have hh := hT0.2.2.2.2.2.2.2.2.1 0 (by decide)
    have er := rfs_rd (S := S) (k := 0) (lane := lane) hh a1 a2 (by omega) hi
    have rl3 := rfo_le S 0 lane f came
    by_cases q : rfo S 0 lane f came = 0
    · have h40 := rfo_0 q
      have ea := add_in (x := f) (c := came) (by omega) h40.1 (by omega)
      have hin : vp_in (nI (f.toInt + (came : Int)).toNat) 40 := vp_in_nI (by omega) (by decide)
      have ec := nI_clamp (n := (f.toInt + (came : Int)).toNat) (by omega)
      have ex := a3 (f.toInt + (came : Int)).toNat (by omega)
      cases hv : vis (tSXY S x y) ((tH S).2.2 0 (f.toInt + (came : Int)).toNat) with
      | none =>
        rw [rdL_1 m came x y q hv]
        refine r_iload (i := 8) 54 dX7_read_52 rfl rfl ?_
        refine r_iload (i := 4) 56 dX7_read_54 rfl rfl ?_
        refine r_icmp_ge 136 59 dX7_read_56 rfl rfl (fun h56 => absurd (ble_of (by omega) (by omega) h56) (by omega)) (fun h56 => ?_)
        refine r_iload (i := 7) 61 dX7_read_59 rfl rfl ?_
        refine r_if_ne 136 64 dX7_read_61 rfl rfl (fun h61 => absurd rfl h61) (fun h61 => ?_)
        refine r_aload_n (i := 0) 65 dX7_read_64 rfl rfl rfl ?_
        refine r_getf 68 dX7_read_65 rfl fl_X7_57 rfl rfl ?_
        refine r_iload_n (i := 1) 69 dX7_read_68 rfl rfl rfl ?_
        refine r_aald4 70 dX7_read_69 rfl rfl (vp_in_nI (by decide) (by decide)) (rfl) ?_
        refine r_iload_n (i := 2) 71 dX7_read_70 rfl rfl rfl ?_
        refine r_iload_n (i := 3) 72 dX7_read_71 rfl rfl rfl ?_
        refine r_iload (i := 8) 74 dX7_read_72 rfl rfl ?_
        refine r_iadd 75 dX7_read_74 rfl ?_
        refine r_callVi [56, 57] 78 dX7_read_75 rfl ykX3_refusal lk_X7_297 (e_refusal _ _ _ _ _) rfl rfl (sb_sh0 _ _ _ _ _ _ _ _ _ _ _ _ _ _) rfl rfl rfl rfl ⟨Nat.le_refl _, Nat.le_refl _⟩ ?_
        rw [er, q]
        refine r_istore (i := 7) 80 dX7_read_78 rfl rfl ?_
        refine r_iload (i := 7) 82 dX7_read_80 rfl rfl ?_
        refine r_if_ne 52 85 dX7_read_82 rfl rfl (fun h82 => absurd rfl h82) (fun h82 => ?_)
        refine r_aload_n (i := 0) 86 dX7_read_85 rfl rfl rfl ?_
        refine r_aload_n (i := 0) 87 dX7_read_86 rfl rfl rfl ?_
        refine r_getf 90 dX7_read_87 rfl fl_X7_57 rfl rfl ?_
        refine r_iload_n (i := 1) 91 dX7_read_90 rfl rfl rfl ?_
        refine r_aald4 92 dX7_read_91 rfl rfl (vp_in_nI (by decide) (by decide)) (rfl) ?_
        refine r_getf 95 dX7_read_92 rfl fl_X7_302 rfl rfl ?_
        refine r_iload_n (i := 3) 96 dX7_read_95 rfl rfl rfl ?_
        refine r_iload (i := 8) 98 dX7_read_96 rfl rfl ?_
        refine r_iadd 99 dX7_read_98 rfl ?_
        rw [ea]
        refine r_iald 100 dX7_read_99 rfl rfl (by assumption) ?_
        rw [ec, ex]
        refine r_callVw 103 dX7_read_100 rfl ykX7_visit lk_X7_305 (p_visit hC0 _) rfl nd64 rfl rfl rfl rfl ⟨Nat.le_refl _, Nat.le_refl _⟩ (QV_len _ _) (fun v u hq => ?_)
        rw [QV, hv] at hq
        obtain ⟨rfl, x', y', hC2⟩ := hq
        clear hT hN hx hy ht hb hf hs hk0 hk1 hI hJ s0 s1 s2 s3 hn hC0 a1 a2 a3 er ex
        obtain ⟨hT, N, Z, kp, R, Si, Sr, Ta, I, J, H0, H1, H2, H3, tn, rfl, hN, hx, hy, ⟨ht, hb⟩, hf, hs, ⟨hk0, hk1⟩, hI, hJ, ⟨s0, s1, s2, s3⟩, hn⟩ := hC2
        refine r_if_ne 130 106 dX7_read_103 rfl rfl (fun h103 => absurd rfl h103) (fun h103 => ?_)
        refine r_aload_n (i := 0) 107 dX7_read_106 rfl rfl rfl ?_
        refine r_getf 110 dX7_read_107 rfl fl_X7_10 rfl rfl ?_
        refine r_iload (i := 5) 112 dX7_read_110 rfl rfl ?_
        refine r_putf 115 dX7_read_112 rfl fl_X7_110 rfl rfl (fun _ _ => ⟨rfl, rfl⟩) (fun z => absurd z Bool.false_ne_true) ?_
        refine r_aload_n (i := 0) 116 dX7_read_115 rfl rfl rfl ?_
        refine r_getf 119 dX7_read_116 rfl fl_X7_10 rfl rfl ?_
        refine r_iload (i := 6) 121 dX7_read_119 rfl rfl ?_
        refine r_putf 124 dX7_read_121 rfl fl_X7_107 rfl rfl (fun _ _ => ⟨rfl, rfl⟩) (fun z => absurd z Bool.false_ne_true) ?_
        refine r_bipush (v := (-20)) 126 dX7_read_124 rfl rfl ?_
        refine r_iload (i := 8) 128 dX7_read_126 rfl rfl ?_
        refine r_isub 129 dX7_read_128 rfl ?_
        exact r_reti dX7_read_129 rfl (by first | rfl | exact bI_nar _) ⟨Nat.le_refl _, Nat.le_refl _⟩ (fun _ => rfl) (⟨rfl, hT0, fSXY N (nI (tX S)) (nI (tY S)), Z, kp, R, Si, Sr, Ta, I, J, H0, H1, H2, H3, tn, rfl, hN, rfl, rfl, ⟨ht, hb⟩, hf, hs, ⟨hk0, hk1⟩, hI, hJ, ⟨s0, s1, s2, s3⟩, hn⟩)
      | some x' =>
        rw [rdL_2 m came x y x' q hv]
        refine r_iload (i := 8) 54 dX7_read_52 rfl rfl ?_
        refine r_iload (i := 4) 56 dX7_read_54 rfl rfl ?_
        refine r_icmp_ge 136 59 dX7_read_56 rfl rfl (fun h56 => absurd (ble_of (by omega) (by omega) h56) (by omega)) (fun h56 => ?_)
        refine r_iload (i := 7) 61 dX7_read_59 rfl rfl ?_
        refine r_if_ne 136 64 dX7_read_61 rfl rfl (fun h61 => absurd rfl h61) (fun h61 => ?_)
        refine r_aload_n (i := 0) 65 dX7_read_64 rfl rfl rfl ?_
        refine r_getf 68 dX7_read_65 rfl fl_X7_57 rfl rfl ?_
        refine r_iload_n (i := 1) 69 dX7_read_68 rfl rfl rfl ?_
        refine r_aald4 70 dX7_read_69 rfl rfl (vp_in_nI (by decide) (by decide)) (rfl) ?_
        refine r_iload_n (i := 2) 71 dX7_read_70 rfl rfl rfl ?_
        refine r_iload_n (i := 3) 72 dX7_read_71 rfl rfl rfl ?_
        refine r_iload (i := 8) 74 dX7_read_72 rfl rfl ?_
        refine r_iadd 75 dX7_read_74 rfl ?_
        refine r_callVi [56, 57] 78 dX7_read_75 rfl ykX3_refusal lk_X7_297 (e_refusal _ _ _ _ _) rfl rfl (sb_sh0 _ _ _ _ _ _ _ _ _ _ _ _ _ _) rfl rfl rfl rfl ⟨Nat.le_refl _, Nat.le_refl _⟩ ?_
        rw [er, q]
        refine r_istore (i := 7) 80 dX7_read_78 rfl rfl ?_
        refine r_iload (i := 7) 82 dX7_read_80 rfl rfl ?_
        refine r_if_ne 52 85 dX7_read_82 rfl rfl (fun h82 => absurd rfl h82) (fun h82 => ?_)
        refine r_aload_n (i := 0) 86 dX7_read_85 rfl rfl rfl ?_
        refine r_aload_n (i := 0) 87 dX7_read_86 rfl rfl rfl ?_
        refine r_getf 90 dX7_read_87 rfl fl_X7_57 rfl rfl ?_
        refine r_iload_n (i := 1) 91 dX7_read_90 rfl rfl rfl ?_
        refine r_aald4 92 dX7_read_91 rfl rfl (vp_in_nI (by decide) (by decide)) (rfl) ?_
        refine r_getf 95 dX7_read_92 rfl fl_X7_302 rfl rfl ?_
        refine r_iload_n (i := 3) 96 dX7_read_95 rfl rfl rfl ?_
        refine r_iload (i := 8) 98 dX7_read_96 rfl rfl ?_
        refine r_iadd 99 dX7_read_98 rfl ?_
        rw [ea]
        refine r_iald 100 dX7_read_99 rfl rfl (by assumption) ?_
        rw [ec, ex]
        refine r_callVw 103 dX7_read_100 rfl ykX7_visit lk_X7_305 (p_visit hC0 _) rfl nd64 rfl rfl rfl rfl ⟨Nat.le_refl _, Nat.le_refl _⟩ (QV_len _ _) (fun v u hq => ?_)
        rw [QV, hv] at hq
        obtain ⟨rfl, hC2⟩ := hq
        refine r_if_ne 130 106 dX7_read_103 rfl rfl (fun h103 => ?_) (fun h103 => absurd h103 (by decide))
        refine r_iinc (i := 8) 133 dX7_read_130 rfl rfl (by first | exact nI_1 _ | rfl) rfl ?_
        refine r_goto 52 dX7_read_133 rfl ?_
        exact ih (came + 1) x' (y + 1) _ (by omega) (Or.inr ⟨by omega, by omega⟩) hC2
    · rw [rdL_0 m came x y q]
      have qn : ¬ nI (rfo S 0 lane f came) = 0 := fun z => q (beq_of (b := 0) (by omega) (by decide) z)
      refine r_iload (i := 8) 54 dX7_read_52 rfl rfl ?_
      refine r_iload (i := 4) 56 dX7_read_54 rfl rfl ?_
      refine r_icmp_ge 136 59 dX7_read_56 rfl rfl (fun h56 => absurd (ble_of (by omega) (by omega) h56) (by omega)) (fun h56 => ?_)
      refine r_iload (i := 7) 61 dX7_read_59 rfl rfl ?_
      refine r_if_ne 136 64 dX7_read_61 rfl rfl (fun h61 => absurd rfl h61) (fun h61 => ?_)
      refine r_aload_n (i := 0) 65 dX7_read_64 rfl rfl rfl ?_
      refine r_getf 68 dX7_read_65 rfl fl_X7_57 rfl rfl ?_
      refine r_iload_n (i := 1) 69 dX7_read_68 rfl rfl rfl ?_
      refine r_aald4 70 dX7_read_69 rfl rfl (vp_in_nI (by decide) (by decide)) (rfl) ?_
      refine r_iload_n (i := 2) 71 dX7_read_70 rfl rfl rfl ?_
      refine r_iload_n (i := 3) 72 dX7_read_71 rfl rfl rfl ?_
      refine r_iload (i := 8) 74 dX7_read_72 rfl rfl ?_
      refine r_iadd 75 dX7_read_74 rfl ?_
      refine r_callVi [56, 57] 78 dX7_read_75 rfl ykX3_refusal lk_X7_297 (e_refusal _ _ _ _ _) rfl rfl (sb_sh0 _ _ _ _ _ _ _ _ _ _ _ _ _ _) rfl rfl rfl rfl ⟨Nat.le_refl _, Nat.le_refl _⟩ ?_
      rw [er]
      refine r_istore (i := 7) 80 dX7_read_78 rfl rfl ?_
      refine r_iload (i := 7) 82 dX7_read_80 rfl rfl ?_
      refine r_if_ne 52 85 dX7_read_82 rfl rfl (fun h82 => ?_) (fun h82 => absurd h82 qn)
      skip
      refine r_iload (i := 8) 54 dX7_read_52 rfl rfl ?_
      refine r_iload (i := 4) 56 dX7_read_54 rfl rfl ?_
      refine r_icmp_ge 136 59 dX7_read_56 rfl rfl (fun h56 => absurd (ble_of (by omega) (by omega) h56) (by omega)) (fun h56 => ?_)
      refine r_iload (i := 7) 61 dX7_read_59 rfl rfl ?_
      refine r_if_ne 136 64 dX7_read_61 rfl rfl (fun h61 => ?_) (fun h61 => absurd h61 qn)
      refine r_aload_n (i := 0) 137 dX7_read_136 rfl rfl rfl ?_
      refine r_iload (i := 7) 139 dX7_read_137 rfl rfl ?_
      refine r_putf 142 dX7_read_139 rfl fl_X7_308 rfl rfl (fun _ _ => ⟨rfl, rfl⟩) (fun z => absurd z Bool.false_ne_true) ?_
      refine r_iload (i := 8) 144 dX7_read_142 rfl rfl ?_
      exact r_reti dX7_read_144 rfl (by first | rfl | exact bI_nar _) ⟨Nat.le_refl _, Nat.le_refl _⟩ (fun _ => rfl) (⟨rfl, tOk_N hT (by omega), N, Z, kp, R, Si, Sr, Ta, I, J, H0, H1, H2, H3, nI (rfo S 0 lane f came), rfl, hN, hx, hy, ⟨ht, hb⟩, hf, hs, ⟨hk0, hk1⟩, hI, hJ, ⟨s0, s1, s2, s3⟩, rfl⟩)
theorem l_read1 (hT0 : tOk S) (lane f : Int32) {n : Nat} (hn : n ≤ 20) : ∀ (m came x y : Nat) (w : mm_W), m + came = n → (came = 0 ∨ (0 ≤ f.toInt + (came : Int) ∧ f.toInt + (came : Int) ≤ 40)) → CX (tSXY S x y) w → mm_r (d + 6) mX7_read (QX (rdL S 1 lane f m came x y).1 (rdL S 1 lane f m came x y).2) 52 [some (.ref 0), some (.int (nI 1)), some (.int lane), some (.int f), some (.int (nI n)), some (.int (nI (tX S))), some (.int (nI (tY S))), some (.int 0), some (.int (nI came))] [] w := by
  intro m
  induction m with
  | zero =>
    intro came x y w hk hi hC
    have : came = n := by omega
    subst this
    obtain ⟨hT, N, Z, kp, R, Si, Sr, Ta, I, J, H0, H1, H2, H3, tn, rfl, hN, hx, hy, ⟨ht, hb⟩, hf, hs, ⟨hk0, hk1⟩, hI, hJ, ⟨s0, s1, s2, s3⟩, hn⟩ := hC
    refine r_iload (i := 8) 54 dX7_read_52 rfl rfl ?_
    refine r_iload (i := 4) 56 dX7_read_54 rfl rfl ?_
    refine r_icmp_ge 136 59 dX7_read_56 rfl rfl (fun h56 => ?_) (fun h56 => absurd (Int32.le_refl _) h56)
    refine r_aload_n (i := 0) 137 dX7_read_136 rfl rfl rfl ?_
    refine r_iload (i := 7) 139 dX7_read_137 rfl rfl ?_
    refine r_putf 142 dX7_read_139 rfl fl_X7_308 rfl rfl (fun _ _ => ⟨rfl, rfl⟩) (fun z => absurd z Bool.false_ne_true) ?_
    refine r_iload (i := 8) 144 dX7_read_142 rfl rfl ?_
    exact r_reti dX7_read_144 rfl (by first | rfl | exact bI_nar _) ⟨Nat.le_refl _, Nat.le_refl _⟩ (fun _ => rfl) (⟨rfl, tOk_N hT (by decide), N, Z, kp, R, Si, Sr, Ta, I, J, H0, H1, H2, H3, 0, rfl, hN, hx, hy, ⟨ht, hb⟩, hf, hs, ⟨hk0, hk1⟩, hI, hJ, ⟨s0, s1, s2, s3⟩, rfl⟩)
  | succ m ih =>
    intro came x y w hk hi hC
    have hC0 := hC
    obtain ⟨hT, N, Z, kp, R, Si, Sr, Ta, I, J, H0, H1, H2, H3, tn, rfl, hN, hx, hy, ⟨ht, hb⟩, hf, hs, ⟨hk0, hk1⟩, hI, hJ, ⟨s0, s1, s2, s3⟩, hn⟩ := hC
    obtain ⟨a1, a2, a3⟩ := id s1
    have hh := hT0.2.2.2.2.2.2.2.2.1 1 (by decide)
    have er := rfs_rd (S := S) (k := 1) (lane := lane) hh a1 a2 (by omega) hi
    have rl3 := rfo_le S 1 lane f came
    by_cases q : rfo S 1 lane f came = 0
    · have h40 := rfo_0 q
      have ea := add_in (x := f) (c := came) (by omega) h40.1 (by omega)
      have hin : vp_in (nI (f.toInt + (came : Int)).toNat) 40 := vp_in_nI (by omega) (by decide)
      have ec := nI_clamp (n := (f.toInt + (came : Int)).toNat) (by omega)
      have ex := a3 (f.toInt + (came : Int)).toNat (by omega)
      cases hv : vis (tSXY S x y) ((tH S).2.2 1 (f.toInt + (came : Int)).toNat) with
      | none =>
        rw [rdL_1 m came x y q hv]
        refine r_iload (i := 8) 54 dX7_read_52 rfl rfl ?_
        refine r_iload (i := 4) 56 dX7_read_54 rfl rfl ?_
        refine r_icmp_ge 136 59 dX7_read_56 rfl rfl (fun h56 => absurd (ble_of (by omega) (by omega) h56) (by omega)) (fun h56 => ?_)
        refine r_iload (i := 7) 61 dX7_read_59 rfl rfl ?_
        refine r_if_ne 136 64 dX7_read_61 rfl rfl (fun h61 => absurd rfl h61) (fun h61 => ?_)
        refine r_aload_n (i := 0) 65 dX7_read_64 rfl rfl rfl ?_
        refine r_getf 68 dX7_read_65 rfl fl_X7_57 rfl rfl ?_
        refine r_iload_n (i := 1) 69 dX7_read_68 rfl rfl rfl ?_
        refine r_aald4 70 dX7_read_69 rfl rfl (vp_in_nI (by decide) (by decide)) (rfl) ?_
        refine r_iload_n (i := 2) 71 dX7_read_70 rfl rfl rfl ?_
        refine r_iload_n (i := 3) 72 dX7_read_71 rfl rfl rfl ?_
        refine r_iload (i := 8) 74 dX7_read_72 rfl rfl ?_
        refine r_iadd 75 dX7_read_74 rfl ?_
        refine r_callVi [58, 59] 78 dX7_read_75 rfl ykX3_refusal lk_X7_297 (e_refusal _ _ _ _ _) rfl rfl (sb_sh1 _ _ _ _ _ _ _ _ _ _ _ _ _ _) rfl rfl rfl rfl ⟨Nat.le_refl _, Nat.le_refl _⟩ ?_
        rw [er, q]
        refine r_istore (i := 7) 80 dX7_read_78 rfl rfl ?_
        refine r_iload (i := 7) 82 dX7_read_80 rfl rfl ?_
        refine r_if_ne 52 85 dX7_read_82 rfl rfl (fun h82 => absurd rfl h82) (fun h82 => ?_)
        refine r_aload_n (i := 0) 86 dX7_read_85 rfl rfl rfl ?_
        refine r_aload_n (i := 0) 87 dX7_read_86 rfl rfl rfl ?_
        refine r_getf 90 dX7_read_87 rfl fl_X7_57 rfl rfl ?_
        refine r_iload_n (i := 1) 91 dX7_read_90 rfl rfl rfl ?_
        refine r_aald4 92 dX7_read_91 rfl rfl (vp_in_nI (by decide) (by decide)) (rfl) ?_
        refine r_getf 95 dX7_read_92 rfl fl_X7_302 rfl rfl ?_
        refine r_iload_n (i := 3) 96 dX7_read_95 rfl rfl rfl ?_
        refine r_iload (i := 8) 98 dX7_read_96 rfl rfl ?_
        refine r_iadd 99 dX7_read_98 rfl ?_
        rw [ea]
        refine r_iald 100 dX7_read_99 rfl rfl (by assumption) ?_
        rw [ec, ex]
        refine r_callVw 103 dX7_read_100 rfl ykX7_visit lk_X7_305 (p_visit hC0 _) rfl nd64 rfl rfl rfl rfl ⟨Nat.le_refl _, Nat.le_refl _⟩ (QV_len _ _) (fun v u hq => ?_)
        rw [QV, hv] at hq
        obtain ⟨rfl, x', y', hC2⟩ := hq
        clear hT hN hx hy ht hb hf hs hk0 hk1 hI hJ s0 s1 s2 s3 hn hC0 a1 a2 a3 er ex
        obtain ⟨hT, N, Z, kp, R, Si, Sr, Ta, I, J, H0, H1, H2, H3, tn, rfl, hN, hx, hy, ⟨ht, hb⟩, hf, hs, ⟨hk0, hk1⟩, hI, hJ, ⟨s0, s1, s2, s3⟩, hn⟩ := hC2
        refine r_if_ne 130 106 dX7_read_103 rfl rfl (fun h103 => absurd rfl h103) (fun h103 => ?_)
        refine r_aload_n (i := 0) 107 dX7_read_106 rfl rfl rfl ?_
        refine r_getf 110 dX7_read_107 rfl fl_X7_10 rfl rfl ?_
        refine r_iload (i := 5) 112 dX7_read_110 rfl rfl ?_
        refine r_putf 115 dX7_read_112 rfl fl_X7_110 rfl rfl (fun _ _ => ⟨rfl, rfl⟩) (fun z => absurd z Bool.false_ne_true) ?_
        refine r_aload_n (i := 0) 116 dX7_read_115 rfl rfl rfl ?_
        refine r_getf 119 dX7_read_116 rfl fl_X7_10 rfl rfl ?_
        refine r_iload (i := 6) 121 dX7_read_119 rfl rfl ?_
        refine r_putf 124 dX7_read_121 rfl fl_X7_107 rfl rfl (fun _ _ => ⟨rfl, rfl⟩) (fun z => absurd z Bool.false_ne_true) ?_
        refine r_bipush (v := (-20)) 126 dX7_read_124 rfl rfl ?_
        refine r_iload (i := 8) 128 dX7_read_126 rfl rfl ?_
        refine r_isub 129 dX7_read_128 rfl ?_
        exact r_reti dX7_read_129 rfl (by first | rfl | exact bI_nar _) ⟨Nat.le_refl _, Nat.le_refl _⟩ (fun _ => rfl) (⟨rfl, hT0, fSXY N (nI (tX S)) (nI (tY S)), Z, kp, R, Si, Sr, Ta, I, J, H0, H1, H2, H3, tn, rfl, hN, rfl, rfl, ⟨ht, hb⟩, hf, hs, ⟨hk0, hk1⟩, hI, hJ, ⟨s0, s1, s2, s3⟩, hn⟩)
      | some x' =>
        rw [rdL_2 m came x y x' q hv]
        refine r_iload (i := 8) 54 dX7_read_52 rfl rfl ?_
        refine r_iload (i := 4) 56 dX7_read_54 rfl rfl ?_
        refine r_icmp_ge 136 59 dX7_read_56 rfl rfl (fun h56 => absurd (ble_of (by omega) (by omega) h56) (by omega)) (fun h56 => ?_)
        refine r_iload (i := 7) 61 dX7_read_59 rfl rfl ?_
        refine r_if_ne 136 64 dX7_read_61 rfl rfl (fun h61 => absurd rfl h61) (fun h61 => ?_)
        refine r_aload_n (i := 0) 65 dX7_read_64 rfl rfl rfl ?_
        refine r_getf 68 dX7_read_65 rfl fl_X7_57 rfl rfl ?_
        refine r_iload_n (i := 1) 69 dX7_read_68 rfl rfl rfl ?_
        refine r_aald4 70 dX7_read_69 rfl rfl (vp_in_nI (by decide) (by decide)) (rfl) ?_
        refine r_iload_n (i := 2) 71 dX7_read_70 rfl rfl rfl ?_
        refine r_iload_n (i := 3) 72 dX7_read_71 rfl rfl rfl ?_
        refine r_iload (i := 8) 74 dX7_read_72 rfl rfl ?_
        refine r_iadd 75 dX7_read_74 rfl ?_
        refine r_callVi [58, 59] 78 dX7_read_75 rfl ykX3_refusal lk_X7_297 (e_refusal _ _ _ _ _) rfl rfl (sb_sh1 _ _ _ _ _ _ _ _ _ _ _ _ _ _) rfl rfl rfl rfl ⟨Nat.le_refl _, Nat.le_refl _⟩ ?_
        rw [er, q]
        refine r_istore (i := 7) 80 dX7_read_78 rfl rfl ?_
        refine r_iload (i := 7) 82 dX7_read_80 rfl rfl ?_
        refine r_if_ne 52 85 dX7_read_82 rfl rfl (fun h82 => absurd rfl h82) (fun h82 => ?_)
        refine r_aload_n (i := 0) 86 dX7_read_85 rfl rfl rfl ?_
        refine r_aload_n (i := 0) 87 dX7_read_86 rfl rfl rfl ?_
        refine r_getf 90 dX7_read_87 rfl fl_X7_57 rfl rfl ?_
        refine r_iload_n (i := 1) 91 dX7_read_90 rfl rfl rfl ?_
        refine r_aald4 92 dX7_read_91 rfl rfl (vp_in_nI (by decide) (by decide)) (rfl) ?_
        refine r_getf 95 dX7_read_92 rfl fl_X7_302 rfl rfl ?_
        refine r_iload_n (i := 3) 96 dX7_read_95 rfl rfl rfl ?_
        refine r_iload (i := 8) 98 dX7_read_96 rfl rfl ?_
        refine r_iadd 99 dX7_read_98 rfl ?_
        rw [ea]
        refine r_iald 100 dX7_read_99 rfl rfl (by assumption) ?_
        rw [ec, ex]
        refine r_callVw 103 dX7_read_100 rfl ykX7_visit lk_X7_305 (p_visit hC0 _) rfl nd64 rfl rfl rfl rfl ⟨Nat.le_refl _, Nat.le_refl _⟩ (QV_len _ _) (fun v u hq => ?_)
        rw [QV, hv] at hq
        obtain ⟨rfl, hC2⟩ := hq
        refine r_if_ne 130 106 dX7_read_103 rfl rfl (fun h103 => ?_) (fun h103 => absurd h103 (by decide))
        refine r_iinc (i := 8) 133 dX7_read_130 rfl rfl (by first | exact nI_1 _ | rfl) rfl ?_
        refine r_goto 52 dX7_read_133 rfl ?_
        exact ih (came + 1) x' (y + 1) _ (by omega) (Or.inr ⟨by omega, by omega⟩) hC2
    · rw [rdL_0 m came x y q]
      have qn : ¬ nI (rfo S 1 lane f came) = 0 := fun z => q (beq_of (b := 0) (by omega) (by decide) z)
      refine r_iload (i := 8) 54 dX7_read_52 rfl rfl ?_
      refine r_iload (i := 4) 56 dX7_read_54 rfl rfl ?_
      refine r_icmp_ge 136 59 dX7_read_56 rfl rfl (fun h56 => absurd (ble_of (by omega) (by omega) h56) (by omega)) (fun h56 => ?_)
      refine r_iload (i := 7) 61 dX7_read_59 rfl rfl ?_
      refine r_if_ne 136 64 dX7_read_61 rfl rfl (fun h61 => absurd rfl h61) (fun h61 => ?_)
      refine r_aload_n (i := 0) 65 dX7_read_64 rfl rfl rfl ?_
      refine r_getf 68 dX7_read_65 rfl fl_X7_57 rfl rfl ?_
      refine r_iload_n (i := 1) 69 dX7_read_68 rfl rfl rfl ?_
      refine r_aald4 70 dX7_read_69 rfl rfl (vp_in_nI (by decide) (by decide)) (rfl) ?_
      refine r_iload_n (i := 2) 71 dX7_read_70 rfl rfl rfl ?_
      refine r_iload_n (i := 3) 72 dX7_read_71 rfl rfl rfl ?_
      refine r_iload (i := 8) 74 dX7_read_72 rfl rfl ?_
      refine r_iadd 75 dX7_read_74 rfl ?_
      refine r_callVi [58, 59] 78 dX7_read_75 rfl ykX3_refusal lk_X7_297 (e_refusal _ _ _ _ _) rfl rfl (sb_sh1 _ _ _ _ _ _ _ _ _ _ _ _ _ _) rfl rfl rfl rfl ⟨Nat.le_refl _, Nat.le_refl _⟩ ?_
      rw [er]
      refine r_istore (i := 7) 80 dX7_read_78 rfl rfl ?_
      refine r_iload (i := 7) 82 dX7_read_80 rfl rfl ?_
      refine r_if_ne 52 85 dX7_read_82 rfl rfl (fun h82 => ?_) (fun h82 => absurd h82 qn)
      skip
      refine r_iload (i := 8) 54 dX7_read_52 rfl rfl ?_
      refine r_iload (i := 4) 56 dX7_read_54 rfl rfl ?_
      refine r_icmp_ge 136 59 dX7_read_56 rfl rfl (fun h56 => absurd (ble_of (by omega) (by omega) h56) (by omega)) (fun h56 => ?_)
      refine r_iload (i := 7) 61 dX7_read_59 rfl rfl ?_
      refine r_if_ne 136 64 dX7_read_61 rfl rfl (fun h61 => ?_) (fun h61 => absurd h61 qn)
      refine r_aload_n (i := 0) 137 dX7_read_136 rfl rfl rfl ?_
      refine r_iload (i := 7) 139 dX7_read_137 rfl rfl ?_
      refine r_putf 142 dX7_read_139 rfl fl_X7_308 rfl rfl (fun _ _ => ⟨rfl, rfl⟩) (fun z => absurd z Bool.false_ne_true) ?_
      refine r_iload (i := 8) 144 dX7_read_142 rfl rfl ?_
      exact r_reti dX7_read_144 rfl (by first | rfl | exact bI_nar _) ⟨Nat.le_refl _, Nat.le_refl _⟩ (fun _ => rfl) (⟨rfl, tOk_N hT (by omega), N, Z, kp, R, Si, Sr, Ta, I, J, H0, H1, H2, H3, nI (rfo S 1 lane f came), rfl, hN, hx, hy, ⟨ht, hb⟩, hf, hs, ⟨hk0, hk1⟩, hI, hJ, ⟨s0, s1, s2, s3⟩, rfl⟩)
theorem l_read2 (hT0 : tOk S) (lane f : Int32) {n : Nat} (hn : n ≤ 20) : ∀ (m came x y : Nat) (w : mm_W), m + came = n → (came = 0 ∨ (0 ≤ f.toInt + (came : Int) ∧ f.toInt + (came : Int) ≤ 40)) → CX (tSXY S x y) w → mm_r (d + 6) mX7_read (QX (rdL S 2 lane f m came x y).1 (rdL S 2 lane f m came x y).2) 52 [some (.ref 0), some (.int (nI 2)), some (.int lane), some (.int f), some (.int (nI n)), some (.int (nI (tX S))), some (.int (nI (tY S))), some (.int 0), some (.int (nI came))] [] w := by
  intro m
  induction m with
  | zero =>
    intro came x y w hk hi hC
    have : came = n := by omega
    subst this
    obtain ⟨hT, N, Z, kp, R, Si, Sr, Ta, I, J, H0, H1, H2, H3, tn, rfl, hN, hx, hy, ⟨ht, hb⟩, hf, hs, ⟨hk0, hk1⟩, hI, hJ, ⟨s0, s1, s2, s3⟩, hn⟩ := hC
    refine r_iload (i := 8) 54 dX7_read_52 rfl rfl ?_
    refine r_iload (i := 4) 56 dX7_read_54 rfl rfl ?_
    refine r_icmp_ge 136 59 dX7_read_56 rfl rfl (fun h56 => ?_) (fun h56 => absurd (Int32.le_refl _) h56)
    refine r_aload_n (i := 0) 137 dX7_read_136 rfl rfl rfl ?_
    refine r_iload (i := 7) 139 dX7_read_137 rfl rfl ?_
    refine r_putf 142 dX7_read_139 rfl fl_X7_308 rfl rfl (fun _ _ => ⟨rfl, rfl⟩) (fun z => absurd z Bool.false_ne_true) ?_
    refine r_iload (i := 8) 144 dX7_read_142 rfl rfl ?_
    exact r_reti dX7_read_144 rfl (by first | rfl | exact bI_nar _) ⟨Nat.le_refl _, Nat.le_refl _⟩ (fun _ => rfl) (⟨rfl, tOk_N hT (by decide), N, Z, kp, R, Si, Sr, Ta, I, J, H0, H1, H2, H3, 0, rfl, hN, hx, hy, ⟨ht, hb⟩, hf, hs, ⟨hk0, hk1⟩, hI, hJ, ⟨s0, s1, s2, s3⟩, rfl⟩)
  | succ m ih =>
    intro came x y w hk hi hC
    have hC0 := hC
    obtain ⟨hT, N, Z, kp, R, Si, Sr, Ta, I, J, H0, H1, H2, H3, tn, rfl, hN, hx, hy, ⟨ht, hb⟩, hf, hs, ⟨hk0, hk1⟩, hI, hJ, ⟨s0, s1, s2, s3⟩, hn⟩ := hC
    obtain ⟨a1, a2, a3⟩ := id s2
    have hh := hT0.2.2.2.2.2.2.2.2.1 2 (by decide)
    have er := rfs_rd (S := S) (k := 2) (lane := lane) hh a1 a2 (by omega) hi
    have rl3 := rfo_le S 2 lane f came
    by_cases q : rfo S 2 lane f came = 0
    · have h40 := rfo_0 q
      have ea := add_in (x := f) (c := came) (by omega) h40.1 (by omega)
      have hin : vp_in (nI (f.toInt + (came : Int)).toNat) 40 := vp_in_nI (by omega) (by decide)
      have ec := nI_clamp (n := (f.toInt + (came : Int)).toNat) (by omega)
      have ex := a3 (f.toInt + (came : Int)).toNat (by omega)
      cases hv : vis (tSXY S x y) ((tH S).2.2 2 (f.toInt + (came : Int)).toNat) with
      | none =>
        rw [rdL_1 m came x y q hv]
        refine r_iload (i := 8) 54 dX7_read_52 rfl rfl ?_
        refine r_iload (i := 4) 56 dX7_read_54 rfl rfl ?_
        refine r_icmp_ge 136 59 dX7_read_56 rfl rfl (fun h56 => absurd (ble_of (by omega) (by omega) h56) (by omega)) (fun h56 => ?_)
        refine r_iload (i := 7) 61 dX7_read_59 rfl rfl ?_
        refine r_if_ne 136 64 dX7_read_61 rfl rfl (fun h61 => absurd rfl h61) (fun h61 => ?_)
        refine r_aload_n (i := 0) 65 dX7_read_64 rfl rfl rfl ?_
        refine r_getf 68 dX7_read_65 rfl fl_X7_57 rfl rfl ?_
        refine r_iload_n (i := 1) 69 dX7_read_68 rfl rfl rfl ?_
        refine r_aald4 70 dX7_read_69 rfl rfl (vp_in_nI (by decide) (by decide)) (rfl) ?_
        refine r_iload_n (i := 2) 71 dX7_read_70 rfl rfl rfl ?_
        refine r_iload_n (i := 3) 72 dX7_read_71 rfl rfl rfl ?_
        refine r_iload (i := 8) 74 dX7_read_72 rfl rfl ?_
        refine r_iadd 75 dX7_read_74 rfl ?_
        refine r_callVi [60, 61] 78 dX7_read_75 rfl ykX3_refusal lk_X7_297 (e_refusal _ _ _ _ _) rfl rfl (sb_sh2 _ _ _ _ _ _ _ _ _ _ _ _ _ _) rfl rfl rfl rfl ⟨Nat.le_refl _, Nat.le_refl _⟩ ?_
        rw [er, q]
        refine r_istore (i := 7) 80 dX7_read_78 rfl rfl ?_
        refine r_iload (i := 7) 82 dX7_read_80 rfl rfl ?_
        refine r_if_ne 52 85 dX7_read_82 rfl rfl (fun h82 => absurd rfl h82) (fun h82 => ?_)
        refine r_aload_n (i := 0) 86 dX7_read_85 rfl rfl rfl ?_
        refine r_aload_n (i := 0) 87 dX7_read_86 rfl rfl rfl ?_
        refine r_getf 90 dX7_read_87 rfl fl_X7_57 rfl rfl ?_
        refine r_iload_n (i := 1) 91 dX7_read_90 rfl rfl rfl ?_
        refine r_aald4 92 dX7_read_91 rfl rfl (vp_in_nI (by decide) (by decide)) (rfl) ?_
        refine r_getf 95 dX7_read_92 rfl fl_X7_302 rfl rfl ?_
        refine r_iload_n (i := 3) 96 dX7_read_95 rfl rfl rfl ?_
        refine r_iload (i := 8) 98 dX7_read_96 rfl rfl ?_
        refine r_iadd 99 dX7_read_98 rfl ?_
        rw [ea]
        refine r_iald 100 dX7_read_99 rfl rfl (by assumption) ?_
        rw [ec, ex]
        refine r_callVw 103 dX7_read_100 rfl ykX7_visit lk_X7_305 (p_visit hC0 _) rfl nd64 rfl rfl rfl rfl ⟨Nat.le_refl _, Nat.le_refl _⟩ (QV_len _ _) (fun v u hq => ?_)
        rw [QV, hv] at hq
        obtain ⟨rfl, x', y', hC2⟩ := hq
        clear hT hN hx hy ht hb hf hs hk0 hk1 hI hJ s0 s1 s2 s3 hn hC0 a1 a2 a3 er ex
        obtain ⟨hT, N, Z, kp, R, Si, Sr, Ta, I, J, H0, H1, H2, H3, tn, rfl, hN, hx, hy, ⟨ht, hb⟩, hf, hs, ⟨hk0, hk1⟩, hI, hJ, ⟨s0, s1, s2, s3⟩, hn⟩ := hC2
        refine r_if_ne 130 106 dX7_read_103 rfl rfl (fun h103 => absurd rfl h103) (fun h103 => ?_)
        refine r_aload_n (i := 0) 107 dX7_read_106 rfl rfl rfl ?_
        refine r_getf 110 dX7_read_107 rfl fl_X7_10 rfl rfl ?_
        refine r_iload (i := 5) 112 dX7_read_110 rfl rfl ?_
        refine r_putf 115 dX7_read_112 rfl fl_X7_110 rfl rfl (fun _ _ => ⟨rfl, rfl⟩) (fun z => absurd z Bool.false_ne_true) ?_
        refine r_aload_n (i := 0) 116 dX7_read_115 rfl rfl rfl ?_
        refine r_getf 119 dX7_read_116 rfl fl_X7_10 rfl rfl ?_
        refine r_iload (i := 6) 121 dX7_read_119 rfl rfl ?_
        refine r_putf 124 dX7_read_121 rfl fl_X7_107 rfl rfl (fun _ _ => ⟨rfl, rfl⟩) (fun z => absurd z Bool.false_ne_true) ?_
        refine r_bipush (v := (-20)) 126 dX7_read_124 rfl rfl ?_
        refine r_iload (i := 8) 128 dX7_read_126 rfl rfl ?_
        refine r_isub 129 dX7_read_128 rfl ?_
        exact r_reti dX7_read_129 rfl (by first | rfl | exact bI_nar _) ⟨Nat.le_refl _, Nat.le_refl _⟩ (fun _ => rfl) (⟨rfl, hT0, fSXY N (nI (tX S)) (nI (tY S)), Z, kp, R, Si, Sr, Ta, I, J, H0, H1, H2, H3, tn, rfl, hN, rfl, rfl, ⟨ht, hb⟩, hf, hs, ⟨hk0, hk1⟩, hI, hJ, ⟨s0, s1, s2, s3⟩, hn⟩)
      | some x' =>
        rw [rdL_2 m came x y x' q hv]
        refine r_iload (i := 8) 54 dX7_read_52 rfl rfl ?_
        refine r_iload (i := 4) 56 dX7_read_54 rfl rfl ?_
        refine r_icmp_ge 136 59 dX7_read_56 rfl rfl (fun h56 => absurd (ble_of (by omega) (by omega) h56) (by omega)) (fun h56 => ?_)
        refine r_iload (i := 7) 61 dX7_read_59 rfl rfl ?_
        refine r_if_ne 136 64 dX7_read_61 rfl rfl (fun h61 => absurd rfl h61) (fun h61 => ?_)
        refine r_aload_n (i := 0) 65 dX7_read_64 rfl rfl rfl ?_
        refine r_getf 68 dX7_read_65 rfl fl_X7_57 rfl rfl ?_
        refine r_iload_n (i := 1) 69 dX7_read_68 rfl rfl rfl ?_
        refine r_aald4 70 dX7_read_69 rfl rfl (vp_in_nI (by decide) (by decide)) (rfl) ?_
        refine r_iload_n (i := 2) 71 dX7_read_70 rfl rfl rfl ?_
        refine r_iload_n (i := 3) 72 dX7_read_71 rfl rfl rfl ?_
        refine r_iload (i := 8) 74 dX7_read_72 rfl rfl ?_
        refine r_iadd 75 dX7_read_74 rfl ?_
        refine r_callVi [60, 61] 78 dX7_read_75 rfl ykX3_refusal lk_X7_297 (e_refusal _ _ _ _ _) rfl rfl (sb_sh2 _ _ _ _ _ _ _ _ _ _ _ _ _ _) rfl rfl rfl rfl ⟨Nat.le_refl _, Nat.le_refl _⟩ ?_
        rw [er, q]
        refine r_istore (i := 7) 80 dX7_read_78 rfl rfl ?_
        refine r_iload (i := 7) 82 dX7_read_80 rfl rfl ?_
        refine r_if_ne 52 85 dX7_read_82 rfl rfl (fun h82 => absurd rfl h82) (fun h82 => ?_)
        refine r_aload_n (i := 0) 86 dX7_read_85 rfl rfl rfl ?_
        refine r_aload_n (i := 0) 87 dX7_read_86 rfl rfl rfl ?_
        refine r_getf 90 dX7_read_87 rfl fl_X7_57 rfl rfl ?_
        refine r_iload_n (i := 1) 91 dX7_read_90 rfl rfl rfl ?_
        refine r_aald4 92 dX7_read_91 rfl rfl (vp_in_nI (by decide) (by decide)) (rfl) ?_
        refine r_getf 95 dX7_read_92 rfl fl_X7_302 rfl rfl ?_
        refine r_iload_n (i := 3) 96 dX7_read_95 rfl rfl rfl ?_
        refine r_iload (i := 8) 98 dX7_read_96 rfl rfl ?_
        refine r_iadd 99 dX7_read_98 rfl ?_
        rw [ea]
        refine r_iald 100 dX7_read_99 rfl rfl (by assumption) ?_
        rw [ec, ex]
        refine r_callVw 103 dX7_read_100 rfl ykX7_visit lk_X7_305 (p_visit hC0 _) rfl nd64 rfl rfl rfl rfl ⟨Nat.le_refl _, Nat.le_refl _⟩ (QV_len _ _) (fun v u hq => ?_)
        rw [QV, hv] at hq
        obtain ⟨rfl, hC2⟩ := hq
        refine r_if_ne 130 106 dX7_read_103 rfl rfl (fun h103 => ?_) (fun h103 => absurd h103 (by decide))
        refine r_iinc (i := 8) 133 dX7_read_130 rfl rfl (by first | exact nI_1 _ | rfl) rfl ?_
        refine r_goto 52 dX7_read_133 rfl ?_
        exact ih (came + 1) x' (y + 1) _ (by omega) (Or.inr ⟨by omega, by omega⟩) hC2
    · rw [rdL_0 m came x y q]
      have qn : ¬ nI (rfo S 2 lane f came) = 0 := fun z => q (beq_of (b := 0) (by omega) (by decide) z)
      refine r_iload (i := 8) 54 dX7_read_52 rfl rfl ?_
      refine r_iload (i := 4) 56 dX7_read_54 rfl rfl ?_
      refine r_icmp_ge 136 59 dX7_read_56 rfl rfl (fun h56 => absurd (ble_of (by omega) (by omega) h56) (by omega)) (fun h56 => ?_)
      refine r_iload (i := 7) 61 dX7_read_59 rfl rfl ?_
      refine r_if_ne 136 64 dX7_read_61 rfl rfl (fun h61 => absurd rfl h61) (fun h61 => ?_)
      refine r_aload_n (i := 0) 65 dX7_read_64 rfl rfl rfl ?_
      refine r_getf 68 dX7_read_65 rfl fl_X7_57 rfl rfl ?_
      refine r_iload_n (i := 1) 69 dX7_read_68 rfl rfl rfl ?_
      refine r_aald4 70 dX7_read_69 rfl rfl (vp_in_nI (by decide) (by decide)) (rfl) ?_
      refine r_iload_n (i := 2) 71 dX7_read_70 rfl rfl rfl ?_
      refine r_iload_n (i := 3) 72 dX7_read_71 rfl rfl rfl ?_
      refine r_iload (i := 8) 74 dX7_read_72 rfl rfl ?_
      refine r_iadd 75 dX7_read_74 rfl ?_
      refine r_callVi [60, 61] 78 dX7_read_75 rfl ykX3_refusal lk_X7_297 (e_refusal _ _ _ _ _) rfl rfl (sb_sh2 _ _ _ _ _ _ _ _ _ _ _ _ _ _) rfl rfl rfl rfl ⟨Nat.le_refl _, Nat.le_refl _⟩ ?_
      rw [er]
      refine r_istore (i := 7) 80 dX7_read_78 rfl rfl ?_
      refine r_iload (i := 7) 82 dX7_read_80 rfl rfl ?_
      refine r_if_ne 52 85 dX7_read_82 rfl rfl (fun h82 => ?_) (fun h82 => absurd h82 qn)
      skip
      refine r_iload (i := 8) 54 dX7_read_52 rfl rfl ?_
      refine r_iload (i := 4) 56 dX7_read_54 rfl rfl ?_
      refine r_icmp_ge 136 59 dX7_read_56 rfl rfl (fun h56 => absurd (ble_of (by omega) (by omega) h56) (by omega)) (fun h56 => ?_)
      refine r_iload (i := 7) 61 dX7_read_59 rfl rfl ?_
      refine r_if_ne 136 64 dX7_read_61 rfl rfl (fun h61 => ?_) (fun h61 => absurd h61 qn)
      refine r_aload_n (i := 0) 137 dX7_read_136 rfl rfl rfl ?_
      refine r_iload (i := 7) 139 dX7_read_137 rfl rfl ?_
      refine r_putf 142 dX7_read_139 rfl fl_X7_308 rfl rfl (fun _ _ => ⟨rfl, rfl⟩) (fun z => absurd z Bool.false_ne_true) ?_
      refine r_iload (i := 8) 144 dX7_read_142 rfl rfl ?_
      exact r_reti dX7_read_144 rfl (by first | rfl | exact bI_nar _) ⟨Nat.le_refl _, Nat.le_refl _⟩ (fun _ => rfl) (⟨rfl, tOk_N hT (by omega), N, Z, kp, R, Si, Sr, Ta, I, J, H0, H1, H2, H3, nI (rfo S 2 lane f came), rfl, hN, hx, hy, ⟨ht, hb⟩, hf, hs, ⟨hk0, hk1⟩, hI, hJ, ⟨s0, s1, s2, s3⟩, rfl⟩)
theorem l_read3 (hT0 : tOk S) (lane f : Int32) {n : Nat} (hn : n ≤ 20) : ∀ (m came x y : Nat) (w : mm_W), m + came = n → (came = 0 ∨ (0 ≤ f.toInt + (came : Int) ∧ f.toInt + (came : Int) ≤ 40)) → CX (tSXY S x y) w → mm_r (d + 6) mX7_read (QX (rdL S 3 lane f m came x y).1 (rdL S 3 lane f m came x y).2) 52 [some (.ref 0), some (.int (nI 3)), some (.int lane), some (.int f), some (.int (nI n)), some (.int (nI (tX S))), some (.int (nI (tY S))), some (.int 0), some (.int (nI came))] [] w := by
  intro m
  induction m with
  | zero =>
    intro came x y w hk hi hC
    have : came = n := by omega
    subst this
    obtain ⟨hT, N, Z, kp, R, Si, Sr, Ta, I, J, H0, H1, H2, H3, tn, rfl, hN, hx, hy, ⟨ht, hb⟩, hf, hs, ⟨hk0, hk1⟩, hI, hJ, ⟨s0, s1, s2, s3⟩, hn⟩ := hC
    refine r_iload (i := 8) 54 dX7_read_52 rfl rfl ?_
    refine r_iload (i := 4) 56 dX7_read_54 rfl rfl ?_
    refine r_icmp_ge 136 59 dX7_read_56 rfl rfl (fun h56 => ?_) (fun h56 => absurd (Int32.le_refl _) h56)
    refine r_aload_n (i := 0) 137 dX7_read_136 rfl rfl rfl ?_
    refine r_iload (i := 7) 139 dX7_read_137 rfl rfl ?_
    refine r_putf 142 dX7_read_139 rfl fl_X7_308 rfl rfl (fun _ _ => ⟨rfl, rfl⟩) (fun z => absurd z Bool.false_ne_true) ?_
    refine r_iload (i := 8) 144 dX7_read_142 rfl rfl ?_
    exact r_reti dX7_read_144 rfl (by first | rfl | exact bI_nar _) ⟨Nat.le_refl _, Nat.le_refl _⟩ (fun _ => rfl) (⟨rfl, tOk_N hT (by decide), N, Z, kp, R, Si, Sr, Ta, I, J, H0, H1, H2, H3, 0, rfl, hN, hx, hy, ⟨ht, hb⟩, hf, hs, ⟨hk0, hk1⟩, hI, hJ, ⟨s0, s1, s2, s3⟩, rfl⟩)
  | succ m ih =>
    intro came x y w hk hi hC
    have hC0 := hC
    obtain ⟨hT, N, Z, kp, R, Si, Sr, Ta, I, J, H0, H1, H2, H3, tn, rfl, hN, hx, hy, ⟨ht, hb⟩, hf, hs, ⟨hk0, hk1⟩, hI, hJ, ⟨s0, s1, s2, s3⟩, hn⟩ := hC
    obtain ⟨a1, a2, a3⟩ := id s3
    have hh := hT0.2.2.2.2.2.2.2.2.1 3 (by decide)
    have er := rfs_rd (S := S) (k := 3) (lane := lane) hh a1 a2 (by omega) hi
    have rl3 := rfo_le S 3 lane f came
    by_cases q : rfo S 3 lane f came = 0
    · have h40 := rfo_0 q
      have ea := add_in (x := f) (c := came) (by omega) h40.1 (by omega)
      have hin : vp_in (nI (f.toInt + (came : Int)).toNat) 40 := vp_in_nI (by omega) (by decide)
      have ec := nI_clamp (n := (f.toInt + (came : Int)).toNat) (by omega)
      have ex := a3 (f.toInt + (came : Int)).toNat (by omega)
      cases hv : vis (tSXY S x y) ((tH S).2.2 3 (f.toInt + (came : Int)).toNat) with
      | none =>
        rw [rdL_1 m came x y q hv]
        refine r_iload (i := 8) 54 dX7_read_52 rfl rfl ?_
        refine r_iload (i := 4) 56 dX7_read_54 rfl rfl ?_
        refine r_icmp_ge 136 59 dX7_read_56 rfl rfl (fun h56 => absurd (ble_of (by omega) (by omega) h56) (by omega)) (fun h56 => ?_)
        refine r_iload (i := 7) 61 dX7_read_59 rfl rfl ?_
        refine r_if_ne 136 64 dX7_read_61 rfl rfl (fun h61 => absurd rfl h61) (fun h61 => ?_)
        refine r_aload_n (i := 0) 65 dX7_read_64 rfl rfl rfl ?_
        refine r_getf 68 dX7_read_65 rfl fl_X7_57 rfl rfl ?_
        refine r_iload_n (i := 1) 69 dX7_read_68 rfl rfl rfl ?_
        refine r_aald4 70 dX7_read_69 rfl rfl (vp_in_nI (by decide) (by decide)) (rfl) ?_
        refine r_iload_n (i := 2) 71 dX7_read_70 rfl rfl rfl ?_
        refine r_iload_n (i := 3) 72 dX7_read_71 rfl rfl rfl ?_
        refine r_iload (i := 8) 74 dX7_read_72 rfl rfl ?_
        refine r_iadd 75 dX7_read_74 rfl ?_
        refine r_callVi [62, 63] 78 dX7_read_75 rfl ykX3_refusal lk_X7_297 (e_refusal _ _ _ _ _) rfl rfl (sb_sh3 _ _ _ _ _ _ _ _ _ _ _ _ _ _) rfl rfl rfl rfl ⟨Nat.le_refl _, Nat.le_refl _⟩ ?_
        rw [er, q]
        refine r_istore (i := 7) 80 dX7_read_78 rfl rfl ?_
        refine r_iload (i := 7) 82 dX7_read_80 rfl rfl ?_
        refine r_if_ne 52 85 dX7_read_82 rfl rfl (fun h82 => absurd rfl h82) (fun h82 => ?_)
        refine r_aload_n (i := 0) 86 dX7_read_85 rfl rfl rfl ?_
        refine r_aload_n (i := 0) 87 dX7_read_86 rfl rfl rfl ?_
        refine r_getf 90 dX7_read_87 rfl fl_X7_57 rfl rfl ?_
        refine r_iload_n (i := 1) 91 dX7_read_90 rfl rfl rfl ?_
        refine r_aald4 92 dX7_read_91 rfl rfl (vp_in_nI (by decide) (by decide)) (rfl) ?_
        refine r_getf 95 dX7_read_92 rfl fl_X7_302 rfl rfl ?_
        refine r_iload_n (i := 3) 96 dX7_read_95 rfl rfl rfl ?_
        refine r_iload (i := 8) 98 dX7_read_96 rfl rfl ?_
        refine r_iadd 99 dX7_read_98 rfl ?_
        rw [ea]
        refine r_iald 100 dX7_read_99 rfl rfl (by assumption) ?_
        rw [ec, ex]
        refine r_callVw 103 dX7_read_100 rfl ykX7_visit lk_X7_305 (p_visit hC0 _) rfl nd64 rfl rfl rfl rfl ⟨Nat.le_refl _, Nat.le_refl _⟩ (QV_len _ _) (fun v u hq => ?_)
        rw [QV, hv] at hq
        obtain ⟨rfl, x', y', hC2⟩ := hq
        clear hT hN hx hy ht hb hf hs hk0 hk1 hI hJ s0 s1 s2 s3 hn hC0 a1 a2 a3 er ex
        obtain ⟨hT, N, Z, kp, R, Si, Sr, Ta, I, J, H0, H1, H2, H3, tn, rfl, hN, hx, hy, ⟨ht, hb⟩, hf, hs, ⟨hk0, hk1⟩, hI, hJ, ⟨s0, s1, s2, s3⟩, hn⟩ := hC2
        refine r_if_ne 130 106 dX7_read_103 rfl rfl (fun h103 => absurd rfl h103) (fun h103 => ?_)
        refine r_aload_n (i := 0) 107 dX7_read_106 rfl rfl rfl ?_
        refine r_getf 110 dX7_read_107 rfl fl_X7_10 rfl rfl ?_
        refine r_iload (i := 5) 112 dX7_read_110 rfl rfl ?_
        refine r_putf 115 dX7_read_112 rfl fl_X7_110 rfl rfl (fun _ _ => ⟨rfl, rfl⟩) (fun z => absurd z Bool.false_ne_true) ?_
        refine r_aload_n (i := 0) 116 dX7_read_115 rfl rfl rfl ?_
        refine r_getf 119 dX7_read_116 rfl fl_X7_10 rfl rfl ?_
        refine r_iload (i := 6) 121 dX7_read_119 rfl rfl ?_
        refine r_putf 124 dX7_read_121 rfl fl_X7_107 rfl rfl (fun _ _ => ⟨rfl, rfl⟩) (fun z => absurd z Bool.false_ne_true) ?_
        refine r_bipush (v := (-20)) 126 dX7_read_124 rfl rfl ?_
        refine r_iload (i := 8) 128 dX7_read_126 rfl rfl ?_
        refine r_isub 129 dX7_read_128 rfl ?_
        exact r_reti dX7_read_129 rfl (by first | rfl | exact bI_nar _) ⟨Nat.le_refl _, Nat.le_refl _⟩ (fun _ => rfl) (⟨rfl, hT0, fSXY N (nI (tX S)) (nI (tY S)), Z, kp, R, Si, Sr, Ta, I, J, H0, H1, H2, H3, tn, rfl, hN, rfl, rfl, ⟨ht, hb⟩, hf, hs, ⟨hk0, hk1⟩, hI, hJ, ⟨s0, s1, s2, s3⟩, hn⟩)
      | some x' =>
        rw [rdL_2 m came x y x' q hv]
        refine r_iload (i := 8) 54 dX7_read_52 rfl rfl ?_
        refine r_iload (i := 4) 56 dX7_read_54 rfl rfl ?_
        refine r_icmp_ge 136 59 dX7_read_56 rfl rfl (fun h56 => absurd (ble_of (by omega) (by omega) h56) (by omega)) (fun h56 => ?_)
        refine r_iload (i := 7) 61 dX7_read_59 rfl rfl ?_
        refine r_if_ne 136 64 dX7_read_61 rfl rfl (fun h61 => absurd rfl h61) (fun h61 => ?_)
        refine r_aload_n (i := 0) 65 dX7_read_64 rfl rfl rfl ?_
        refine r_getf 68 dX7_read_65 rfl fl_X7_57 rfl rfl ?_
        refine r_iload_n (i := 1) 69 dX7_read_68 rfl rfl rfl ?_
        refine r_aald4 70 dX7_read_69 rfl rfl (vp_in_nI (by decide) (by decide)) (rfl) ?_
        refine r_iload_n (i := 2) 71 dX7_read_70 rfl rfl rfl ?_
        refine r_iload_n (i := 3) 72 dX7_read_71 rfl rfl rfl ?_
        refine r_iload (i := 8) 74 dX7_read_72 rfl rfl ?_
        refine r_iadd 75 dX7_read_74 rfl ?_
        refine r_callVi [62, 63] 78 dX7_read_75 rfl ykX3_refusal lk_X7_297 (e_refusal _ _ _ _ _) rfl rfl (sb_sh3 _ _ _ _ _ _ _ _ _ _ _ _ _ _) rfl rfl rfl rfl ⟨Nat.le_refl _, Nat.le_refl _⟩ ?_
        rw [er, q]
        refine r_istore (i := 7) 80 dX7_read_78 rfl rfl ?_
        refine r_iload (i := 7) 82 dX7_read_80 rfl rfl ?_
        refine r_if_ne 52 85 dX7_read_82 rfl rfl (fun h82 => absurd rfl h82) (fun h82 => ?_)
        refine r_aload_n (i := 0) 86 dX7_read_85 rfl rfl rfl ?_
        refine r_aload_n (i := 0) 87 dX7_read_86 rfl rfl rfl ?_
        refine r_getf 90 dX7_read_87 rfl fl_X7_57 rfl rfl ?_
        refine r_iload_n (i := 1) 91 dX7_read_90 rfl rfl rfl ?_
        refine r_aald4 92 dX7_read_91 rfl rfl (vp_in_nI (by decide) (by decide)) (rfl) ?_
        refine r_getf 95 dX7_read_92 rfl fl_X7_302 rfl rfl ?_
        refine r_iload_n (i := 3) 96 dX7_read_95 rfl rfl rfl ?_
        refine r_iload (i := 8) 98 dX7_read_96 rfl rfl ?_
        refine r_iadd 99 dX7_read_98 rfl ?_
        rw [ea]
        refine r_iald 100 dX7_read_99 rfl rfl (by assumption) ?_
        rw [ec, ex]
        refine r_callVw 103 dX7_read_100 rfl ykX7_visit lk_X7_305 (p_visit hC0 _) rfl nd64 rfl rfl rfl rfl ⟨Nat.le_refl _, Nat.le_refl _⟩ (QV_len _ _) (fun v u hq => ?_)
        rw [QV, hv] at hq
        obtain ⟨rfl, hC2⟩ := hq
        refine r_if_ne 130 106 dX7_read_103 rfl rfl (fun h103 => ?_) (fun h103 => absurd h103 (by decide))
        refine r_iinc (i := 8) 133 dX7_read_130 rfl rfl (by first | exact nI_1 _ | rfl) rfl ?_
        refine r_goto 52 dX7_read_133 rfl ?_
        exact ih (came + 1) x' (y + 1) _ (by omega) (Or.inr ⟨by omega, by omega⟩) hC2
    · rw [rdL_0 m came x y q]
      have qn : ¬ nI (rfo S 3 lane f came) = 0 := fun z => q (beq_of (b := 0) (by omega) (by decide) z)
      refine r_iload (i := 8) 54 dX7_read_52 rfl rfl ?_
      refine r_iload (i := 4) 56 dX7_read_54 rfl rfl ?_
      refine r_icmp_ge 136 59 dX7_read_56 rfl rfl (fun h56 => absurd (ble_of (by omega) (by omega) h56) (by omega)) (fun h56 => ?_)
      refine r_iload (i := 7) 61 dX7_read_59 rfl rfl ?_
      refine r_if_ne 136 64 dX7_read_61 rfl rfl (fun h61 => absurd rfl h61) (fun h61 => ?_)
      refine r_aload_n (i := 0) 65 dX7_read_64 rfl rfl rfl ?_
      refine r_getf 68 dX7_read_65 rfl fl_X7_57 rfl rfl ?_
      refine r_iload_n (i := 1) 69 dX7_read_68 rfl rfl rfl ?_
      refine r_aald4 70 dX7_read_69 rfl rfl (vp_in_nI (by decide) (by decide)) (rfl) ?_
      refine r_iload_n (i := 2) 71 dX7_read_70 rfl rfl rfl ?_
      refine r_iload_n (i := 3) 72 dX7_read_71 rfl rfl rfl ?_
      refine r_iload (i := 8) 74 dX7_read_72 rfl rfl ?_
      refine r_iadd 75 dX7_read_74 rfl ?_
      refine r_callVi [62, 63] 78 dX7_read_75 rfl ykX3_refusal lk_X7_297 (e_refusal _ _ _ _ _) rfl rfl (sb_sh3 _ _ _ _ _ _ _ _ _ _ _ _ _ _) rfl rfl rfl rfl ⟨Nat.le_refl _, Nat.le_refl _⟩ ?_
      rw [er]
      refine r_istore (i := 7) 80 dX7_read_78 rfl rfl ?_
      refine r_iload (i := 7) 82 dX7_read_80 rfl rfl ?_
      refine r_if_ne 52 85 dX7_read_82 rfl rfl (fun h82 => ?_) (fun h82 => absurd h82 qn)
      skip
      refine r_iload (i := 8) 54 dX7_read_52 rfl rfl ?_
      refine r_iload (i := 4) 56 dX7_read_54 rfl rfl ?_
      refine r_icmp_ge 136 59 dX7_read_56 rfl rfl (fun h56 => absurd (ble_of (by omega) (by omega) h56) (by omega)) (fun h56 => ?_)
      refine r_iload (i := 7) 61 dX7_read_59 rfl rfl ?_
      refine r_if_ne 136 64 dX7_read_61 rfl rfl (fun h61 => ?_) (fun h61 => absurd h61 qn)
      refine r_aload_n (i := 0) 137 dX7_read_136 rfl rfl rfl ?_
      refine r_iload (i := 7) 139 dX7_read_137 rfl rfl ?_
      refine r_putf 142 dX7_read_139 rfl fl_X7_308 rfl rfl (fun _ _ => ⟨rfl, rfl⟩) (fun z => absurd z Bool.false_ne_true) ?_
      refine r_iload (i := 8) 144 dX7_read_142 rfl rfl ?_
      exact r_reti dX7_read_144 rfl (by first | rfl | exact bI_nar _) ⟨Nat.le_refl _, Nat.le_refl _⟩ (fun _ => rfl) (⟨rfl, tOk_N hT (by omega), N, Z, kp, R, Si, Sr, Ta, I, J, H0, H1, H2, H3, nI (rfo S 3 lane f came), rfl, hN, hx, hy, ⟨ht, hb⟩, hf, hs, ⟨hk0, hk1⟩, hI, hJ, ⟨s0, s1, s2, s3⟩, rfl⟩)
theorem p_read (hC : CX S w) (k lane f n : Int32) : mm_e (d + 6) yX7_read mX7_read [.ref 0, .int k, .int lane, .int f, .int n] w (QX (s_read S k lane f n).1 (s_read S k lane f n).2) := by
  have hC0 := hC
  obtain ⟨hT, N, Z, kp, R, Si, Sr, Ta, I, J, H0, H1, H2, H3, tn, rfl, hN, hx, hy, ⟨ht, hb⟩, hf, hs, ⟨hk0, hk1⟩, hI, hJ, ⟨s0, s1, s2, s3⟩, hn⟩ := hC
  have l0 := lt31 hN hT.2.1
  have h6 := hN.n6
  have h4 := hN.g4
  have h5 := hN.b4
  refine e_of [some (.ref 0), some (.int k), some (.int lane), some (.int f), some (.int n), none, none, none, none] rfl (by decide) rfl rfl rfl ?_
  rw [s_read]
  suffices go : inb (nI 4) k = true → inb (nI 21) n = true → mm_r (d + 6) mX7_read (QX (rdL S k.toNatClampNeg lane f n.toNatClampNeg 0 (tX S) (tY S)).1 (rdL S k.toNatClampNeg lane f n.toNatClampNeg 0 (tX S) (tY S)).2) 52 [some (.ref 0), some (.int k), some (.int lane), some (.int f), some (.int n), some (.int (nI (tX S))), some (.int (nI (tY S))), some (.int 0), some (.int 0)] [] (wX N Z kp R Si Sr Ta I J H0 H1 H2 H3 tn) by
    refine r_iload_n (i := 1) 1 dX7_read_0 rfl rfl rfl ?_
    refine r_callSi [] 4 dX7_read_1 rfl ykX7_isSheet lk_X7_285 (e_isSheet k) rfl rfl rfl ⟨Nat.le_refl _, Nat.le_refl _⟩ ?_
    refine r_if_eq 26 7 dX7_read_4 rfl rfl (fun h4 => ?_) (fun h4 => ?_)
    · have gv : ((inb 4 k && inb 3 lane) && inb 21 n) = false := by rw [bI_eq0 h4]; rfl
      refine r_iconst (v := (-1)) 27 dX7_read_26 rfl rfl ?_
      exact r_reti dX7_read_27 rfl (by first | rfl | exact bI_nar _) ⟨Nat.le_refl _, Nat.le_refl _⟩ (fun _ => rfl) (⟨by rw [gv]; rfl, by rw [gv]; exact hC0⟩)
    · have g1 := bI_ne0 h4
      refine r_iload_n (i := 2) 8 dX7_read_7 rfl rfl rfl ?_
      refine r_callSi [] 11 dX7_read_8 rfl ykX7_isLane lk_X7_288 (e_isLane lane) rfl rfl rfl ⟨Nat.le_refl _, Nat.le_refl _⟩ ?_
      refine r_if_eq 26 14 dX7_read_11 rfl rfl (fun h11 => ?_) (fun h11 => ?_)
      · have gv : ((inb 4 k && inb 3 lane) && inb 21 n) = false := by rw [bI_eq0 h11, Bool.and_false]; rfl
        refine r_iconst (v := (-1)) 27 dX7_read_26 rfl rfl ?_
        exact r_reti dX7_read_27 rfl (by first | rfl | exact bI_nar _) ⟨Nat.le_refl _, Nat.le_refl _⟩ (fun _ => rfl) (⟨by rw [gv]; rfl, by rw [gv]; exact hC0⟩)
      · have g2 := bI_ne0 h11
        refine r_iload (i := 4) 16 dX7_read_14 rfl rfl ?_
        refine r_if_lt 26 19 dX7_read_16 rfl rfl (fun h16 => ?_) (fun h16 => ?_)
        · have gv : ((inb 4 k && inb 3 lane) && inb 21 n) = false := by rw [inb_f1 h16, Bool.and_false]
          refine r_iconst (v := (-1)) 27 dX7_read_26 rfl rfl ?_
          exact r_reti dX7_read_27 rfl (by first | rfl | exact bI_nar _) ⟨Nat.le_refl _, Nat.le_refl _⟩ (fun _ => rfl) (⟨by rw [gv]; rfl, by rw [gv]; exact hC0⟩)
        · refine r_iload (i := 4) 21 dX7_read_19 rfl rfl ?_
          refine r_bipush (v := 20) 23 dX7_read_21 rfl rfl ?_
          refine r_icmp_le 28 26 dX7_read_23 rfl rfl (fun h23 => ?_) (fun h23 => ?_)
          · have g3 : inb (nI 21) n = true := inb_t h16 (ngtk (k := 20) (by decide) h23)
            rw [g1, g2, show inb 21 n = true from g3, if_pos (show ((true && true) && true) = true from rfl)]
            refine r_aload_n (i := 0) 29 dX7_read_28 rfl rfl rfl ?_
            refine r_getf 32 dX7_read_29 rfl fl_X7_10 rfl rfl ?_
            refine r_getf 35 dX7_read_32 rfl fl_X7_110 rfl rfl ?_
            rw [hx]
            refine r_istore (i := 5) 37 dX7_read_35 rfl rfl ?_
            refine r_aload_n (i := 0) 38 dX7_read_37 rfl rfl rfl ?_
            refine r_getf 41 dX7_read_38 rfl fl_X7_10 rfl rfl ?_
            refine r_getf 44 dX7_read_41 rfl fl_X7_107 rfl rfl ?_
            rw [hy]
            refine r_istore (i := 6) 46 dX7_read_44 rfl rfl ?_
            refine r_iconst (v := 0) 47 dX7_read_46 rfl rfl ?_
            refine r_istore (i := 7) 49 dX7_read_47 rfl rfl ?_
            refine r_iconst (v := 0) 50 dX7_read_49 rfl rfl ?_
            refine r_istore (i := 8) 52 dX7_read_50 rfl rfl ?_
            exact go g1 g3
          · have gv : ((inb 4 k && inb 3 lane) && inb 21 n) = false := by rw [inb_f2 (n := 21) (gtk (k := 20) (by decide) h23), Bool.and_false]
            refine r_iconst (v := (-1)) 27 dX7_read_26 rfl rfl ?_
            exact r_reti dX7_read_27 rfl (by first | rfl | exact bI_nar _) ⟨Nat.le_refl _, Nat.le_refl _⟩ (fun _ => rfl) (⟨by rw [gv]; rfl, by rw [gv]; exact hC0⟩)
  intro g1 g3
  obtain ⟨j, hj, rfl⟩ := inb_nI (by decide) g1
  obtain ⟨m, hm, rfl⟩ := inb_nI (by decide) g3
  rw [nI_clamp (n := j) (by omega), nI_clamp (n := m) (by omega)]
  rcases (by omega : j = 0 ∨ j = 1 ∨ j = 2 ∨ j = 3) with rfl | rfl | rfl | rfl
  · exact l_read0 hT lane f (by omega) m 0 (tX S) (tY S) _ rfl (Or.inl rfl) hC0
  · exact l_read1 hT lane f (by omega) m 0 (tX S) (tY S) _ rfl (Or.inl rfl) hC0
  · exact l_read2 hT lane f (by omega) m 0 (tX S) (tY S) _ rfl (Or.inl rfl) hC0
  · exact l_read3 hT lane f (by omega) m 0 (tX S) (tY S) _ rfl (Or.inl rfl) hC0
end XH
