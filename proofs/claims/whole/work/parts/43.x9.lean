section XI
variable {d : Nat} {A : sA} {S : sT} {w : mm_W} {N Z : FlT} {kp : Nat → Int32} {R : RdT} {Si : SiT} {Sr : SrT} {Ta : TaT} {I J : FlT} {H0 H1 H2 H3 : ShT} {tn : Int32}
/-- two numbers, part by part -/
theorem and_split {s a b c e : Nat} (hb : b < 2 ^ s) (he : e < 2 ^ s) : (2 ^ s * a + b) &&& (2 ^ s * c + e) = 2 ^ s * (a &&& c) + (b &&& e) := by
  have hbe : b &&& e < 2 ^ s := Nat.and_lt_two_pow _ he
  apply Nat.eq_of_testBit_eq
  intro i
  rw [Nat.testBit_and, Nat.testBit_two_pow_mul_add _ hb, Nat.testBit_two_pow_mul_add _ he, Nat.testBit_two_pow_mul_add _ hbe]
  by_cases q : i < s
  · simp only [if_pos q, Nat.testBit_and]
  · simp only [if_neg q, Nat.testBit_and]
theorem and8 {a b c e : Nat} (hb : b < 256) (he : e < 256) : (256 * a + b) &&& (256 * c + e) = 256 * (a &&& c) + (b &&& e) := and_split (s := 8) hb he
/-- a mask of so many equal bytes -/
def mk8 (e : Nat) : Nat → Nat
  | 0 => 0
  | k + 1 => 256 * mk8 e k + e
def g1 (e x : Nat) : Nat := x - (x / 2 &&& e)
def g2 (e x : Nat) : Nat := (x &&& e) + (x / 4 &&& e)
def g3 (e x : Nat) : Nat := (x + x / 16) &&& e
theorem byte1 : ∀ b, b < 256 → (b / 2 &&& 85) ≤ b ∧ ((b / 2 + 128) &&& 85) = (b / 2 &&& 85) ∧ g1 85 b < 256 ∧ (g1 85 b) % 4 ≤ 2 ∧ (g1 85 b) / 4 % 4 ≤ 2 ∧ (g1 85 b) / 16 % 4 ≤ 2 ∧ (g1 85 b) / 64 % 4 ≤ 2 := by decide +kernel
theorem byte2 : ∀ b, b < 256 → (∀ r, r < 4 → ((b / 4 + 64 * r) &&& 51) = (b / 4 &&& 51)) ∧ ((b &&& 51) + (b / 4 &&& 51)) < 256 := by decide +kernel
theorem byte2b : ∀ b, b < 256 → (g2 51 (g1 85 b)) % 16 ≤ 4 ∧ (g2 51 (g1 85 b)) / 16 ≤ 4 := by decide +kernel
theorem byte3 : ∀ b, b < 256 → b % 16 ≤ 4 → b / 16 ≤ 4 → b + b / 16 < 128 ∧ (∀ r, r ≤ 4 → ((b + b / 16 + 16 * r) &&& 15) = ((b + b / 16) &&& 15)) := by decide +kernel
theorem byte4 : ∀ b, b < 256 → g3 15 (g2 51 (g1 85 b)) = pcn b 8 := by decide +kernel
theorem s1 (k : Nat) (a b : Nat) (hb : b < 256) : g1 (mk8 85 (k + 1)) (256 * a + b) = 256 * g1 (mk8 85 k) a + g1 85 b := by
  obtain ⟨h1, h2, -⟩ := byte1 b hb
  have e : (256 * a + b) / 2 = 256 * (a / 2) + (b / 2 + 128 * (a % 2)) := by omega
  have l : (a / 2 &&& mk8 85 k) ≤ a := Nat.le_trans Nat.and_le_left (Nat.div_le_self _ _)
  have h3 : (b / 2 + 128 * (a % 2)) &&& 85 = (b / 2 &&& 85) := by
    rcases (by omega : a % 2 = 0 ∨ a % 2 = 1) with q | q
    · rw [q]; rfl
    · rw [q]; exact h2
  show 256 * a + b - ((256 * a + b) / 2 &&& (256 * mk8 85 k + 85)) = 256 * (a - (a / 2 &&& mk8 85 k)) + (b - (b / 2 &&& 85))
  rw [e, and8 (by omega) (by decide), h3]
  omega
theorem s2 (k : Nat) (a b : Nat) (hb : b < 256) : g2 (mk8 51 (k + 1)) (256 * a + b) = 256 * g2 (mk8 51 k) a + g2 51 b := by
  obtain ⟨h2, -⟩ := byte2 b hb
  have e : (256 * a + b) / 4 = 256 * (a / 4) + (b / 4 + 64 * (a % 4)) := by omega
  show ((256 * a + b) &&& (256 * mk8 51 k + 51)) + ((256 * a + b) / 4 &&& (256 * mk8 51 k + 51)) = 256 * ((a &&& mk8 51 k) + (a / 4 &&& mk8 51 k)) + ((b &&& 51) + (b / 4 &&& 51))
  rw [e, and8 hb (by decide), and8 (by omega) (by decide), h2 _ (by omega)]
  omega
theorem s3 (k : Nat) (a b : Nat) (hb : b < 256) (hb1 : b % 16 ≤ 4) (hb2 : b / 16 ≤ 4) (ha : a % 16 ≤ 4) : g3 (mk8 15 (k + 1)) (256 * a + b) = 256 * g3 (mk8 15 k) a + g3 15 b := by
  obtain ⟨h1, h2⟩ := byte3 b hb hb1 hb2
  have e : 256 * a + b + (256 * a + b) / 16 = 256 * (a + a / 16) + (b + b / 16 + 16 * (a % 16)) := by omega
  show (256 * a + b + (256 * a + b) / 16) &&& (256 * mk8 15 k + 15) = 256 * ((a + a / 16) &&& mk8 15 k) + ((b + b / 16) &&& 15)
  rw [e, and8 (by omega) (by decide), h2 _ ha]
/-- the bytes' counts -/
def bc8 : Nat → Nat → Nat
  | 0, _ => 0
  | k + 1, x => 256 * bc8 k (x / 256) + pcn (x % 256) 8
theorem g1_0 (x : Nat) (h : x = 0) : g1 (mk8 85 0) x = 0 := by subst h; rfl
theorem st12 : ∀ (k x : Nat), x < 256 ^ k → g3 (mk8 15 k) (g2 (mk8 51 k) (g1 (mk8 85 k) x)) = bc8 k x ∧ (g2 (mk8 51 k) (g1 (mk8 85 k) x)) % 16 ≤ 4
  | 0, x, h => by
    have : x = 0 := by simpa using h
    subst this
    exact ⟨rfl, by decide⟩
  | k + 1, x, h => by
    have hx : x = 256 * (x / 256) + x % 256 := by omega
    have hb : x % 256 < 256 := Nat.mod_lt _ (by decide)
    have ha : x / 256 < 256 ^ k := by
      rw [Nat.pow_succ] at h
      exact Nat.div_lt_of_lt_mul (by rw [Nat.mul_comm]; exact h)
    obtain ⟨i1, i2⟩ := st12 k (x / 256) ha
    obtain ⟨-, -, h1, -⟩ := byte1 (x % 256) hb
    obtain ⟨-, h2⟩ := byte2 (g1 85 (x % 256)) h1
    obtain ⟨h3, h4⟩ := byte2b (x % 256) hb
    have h5 := byte4 (x % 256) hb
    have e : g2 (mk8 51 (k + 1)) (g1 (mk8 85 (k + 1)) x) = 256 * g2 (mk8 51 k) (g1 (mk8 85 k) (x / 256)) + g2 51 (g1 85 (x % 256)) := by
      conv => lhs; rw [hx]
      rw [s1 k _ _ hb, s2 k _ _ h1]
    refine ⟨?_, by rw [e]; omega⟩
    rw [e, s3 k _ (g2 51 (g1 85 (x % 256))) h2 h3 h4 i2, i1, h5]
    rfl
/-- the bits of a number, as many as there are -/
theorem pcn_add (x : Nat) (m : Nat) : ∀ n, pcn x (m + n) = pcn x m + pcn (x / 2 ^ m) n
  | 0 => rfl
  | n + 1 => by
    rw [← Nat.add_assoc, pcn, pcn_add x m n, pcn, tb, tb, Nat.div_div_eq_div_mul, ← Nat.pow_add]
    omega
theorem pcn_mod (x : Nat) : ∀ n m, n ≤ m → pcn (x % 2 ^ m) n = pcn x n
  | 0, _, _ => rfl
  | n + 1, m, h => by
    have e : tb (x % 2 ^ m) n = tb x n := by
      have h1 := tb_test (x % 2 ^ m) n
      rw [Nat.testBit_mod_two_pow, decide_eq_true (show n < m by omega), Bool.true_and, tb_test] at h1
      have h2 := tb_01 (x % 2 ^ m) n
      have h3 := tb_01 x n
      rcases h2 with q | q <;> rcases h3 with r | r <;> rw [q, r] at h1 <;> first | exact absurd h1 (by decide) | rw [q, r]
    rw [pcn, pcn, pcn_mod x n m (by omega), e]
theorem dvm {m a b : Nat} (h : b < m) : (m * a + b) / m = a := by
  rw [Nat.mul_add_div (by omega), Nat.div_eq_of_lt h, Nat.add_zero]
theorem z1L (a4 a5 a6 a7 l0 l1 l2 l3 : Nat) : 4294967296 * a4 + l0 + (4294967296 * a5 + l1) + (4294967296 * a6 + l2 + (4294967296 * a7 + l3)) = 4294967296 * (a4 + a5 + a6 + a7) + (l0 + l1 + l2 + l3) := by omega
theorem b1L {c0 c1 c2 c3 c4 c5 c6 : Nat} (h0 : c0 ≤ 8) (h1 : c1 ≤ 8) (h2 : c2 ≤ 8) (h3 : c3 ≤ 8) (h4 : c4 ≤ 8) (h5 : c5 ≤ 8) (h6 : c6 ≤ 8) : (16777216 * c3 + 65536 * c2 + 256 * c1 + c0) + (16777216 * c4 + 65536 * c3 + 256 * c2 + c1) + (16777216 * c5 + 65536 * c4 + 256 * c3 + c2) + (16777216 * c6 + 65536 * c5 + 256 * c4 + c3) < 4294967296 := by omega
theorem b2L {c0 c1 c2 c3 c4 c5 c6 c7 : Nat} (h0 : c0 ≤ 8) (h1 : c1 ≤ 8) (h2 : c2 ≤ 8) (h3 : c3 ≤ 8) (h4 : c4 ≤ 8) (h5 : c5 ≤ 8) (h6 : c6 ≤ 8) (h7 : c7 ≤ 8) : c0 + c1 + c2 + c3 + c4 + c5 + c6 + c7 < 128 := by omega
theorem sum8 {y a1 a2 a3 a4 a5 a6 a7 c0 c1 c2 c3 c4 c5 c6 : Nat} (h0 : c0 ≤ 8) (h1 : c1 ≤ 8) (h2 : c2 ≤ 8) (h3 : c3 ≤ 8) (h4 : c4 ≤ 8) (h5 : c5 ≤ 8) (h6 : c6 ≤ 8) (h7 : a7 ≤ 8) (e0 : y = 256 * a1 + c0) (e1 : a1 = 256 * a2 + c1) (e2 : a2 = 256 * a3 + c2) (e3 : a3 = 256 * a4 + c3) (e4 : a4 = 256 * a5 + c4) (e5 : a5 = 256 * a6 + c5) (e6 : a6 = 256 * a7 + c6) : (y + y / 256 + (y + y / 256) / 65536 + (y + y / 256 + (y + y / 256) / 65536) / 4294967296) % 128 = c0 + c1 + c2 + c3 + c4 + c5 + c6 + a7 := by
  have d0 : y / 256 = a1 := by rw [e0]; exact dvm (by omega)
  have z0 : y + a1 = 65536 * (a2 + a3) + (256 * (c1 + c2) + (c0 + c1)) := by omega
  have d1 : (y + a1) / 65536 = a2 + a3 := by rw [z0]; exact dvm (by omega)
  have f0 : y = 4294967296 * a4 + (16777216 * c3 + 65536 * c2 + 256 * c1 + c0) := by omega
  have f1 : a1 = 4294967296 * a5 + (16777216 * c4 + 65536 * c3 + 256 * c2 + c1) := by omega
  have f2 : a2 = 4294967296 * a6 + (16777216 * c5 + 65536 * c4 + 256 * c3 + c2) := by omega
  have f3 : a3 = 4294967296 * a7 + (16777216 * c6 + 65536 * c5 + 256 * c4 + c3) := by omega
  have z1 : y + a1 + (a2 + a3) = 4294967296 * (a4 + a5 + a6 + a7) + ((16777216 * c3 + 65536 * c2 + 256 * c1 + c0) + (16777216 * c4 + 65536 * c3 + 256 * c2 + c1) + (16777216 * c5 + 65536 * c4 + 256 * c3 + c2) + (16777216 * c6 + 65536 * c5 + 256 * c4 + c3)) := by
    rw [f0, f1, f2, f3]; exact z1L _ _ _ _ _ _ _ _
  have d2 : (y + a1 + (a2 + a3)) / 4294967296 = a4 + a5 + a6 + a7 := by rw [z1]; exact dvm (b1L h0 h1 h2 h3 h4 h5 h6)
  rw [d0, d1, d2]
  have t : y + a1 + (a2 + a3) + (a4 + a5 + a6 + a7) = 128 * (2 * (a1 + a2 + a3 + a4 + a5 + a6 + a7)) + (c0 + c1 + c2 + c3 + c4 + c5 + c6 + a7) := by clear d0 z0 d1 f0 f1 f2 f3 z1 d2; omega
  rw [t, Nat.mul_add_mod, Nat.mod_eq_of_lt (b2L h0 h1 h2 h3 h4 h5 h6 h7)]
def bcF (y : Nat) : Nat := (y + y / 256 + (y + y / 256) / 65536 + (y + y / 256 + (y + y / 256) / 65536) / 4294967296) % 128
theorem bcL {x : Nat} (hx : x < 2 ^ 64) : bcF (g3 (mk8 15 8) (g2 (mk8 51 8) (g1 (mk8 85 8) x))) = pcn x 64 := by
  have e := (st12 8 x (by rw [show 256 ^ 8 = 2 ^ 64 from rfl]; exact hx)).1
  rw [e]
  have p8 : ∀ z, pcn (z % 256) 8 = pcn z 8 := fun z => pcn_mod z 8 8 (Nat.le_refl _)
  have l8 : ∀ z, bc8 1 z = pcn z 8 := fun z => by rw [bc8, p8, bc8]; omega
  have st : ∀ k z, bc8 (k + 1) z = 256 * bc8 k (z / 256) + pcn z 8 := fun k z => by rw [bc8, p8]
  have t := sum8 (y := bc8 8 x) (pcn_le x 8) (pcn_le (x / 256) 8) (pcn_le (x / 256 / 256) 8) (pcn_le (x / 256 / 256 / 256) 8) (pcn_le (x / 256 / 256 / 256 / 256) 8) (pcn_le (x / 256 / 256 / 256 / 256 / 256) 8) (pcn_le (x / 256 / 256 / 256 / 256 / 256 / 256) 8) (by rw [l8]; exact pcn_le _ 8) (st 7 x) (st 6 _) (st 5 _) (st 4 _) (st 3 _) (st 2 _) (st 1 _)
  rw [bcF, t, l8]
  rw [show (64 : Nat) = 8 + (8 + (8 + (8 + (8 + (8 + (8 + 8)))))) from rfl]
  simp only [pcn_add, show (2 : Nat) ^ 8 = 256 from rfl, Nat.add_assoc]
theorem lsubN {a b : Nat} (h : b ≤ a) : lN a - lN b = lN (a - b) := by
  have e : lN (a - b) + lN b = lN a := by rw [laddN, Nat.sub_add_cancel h]
  rw [← e, Int64.add_sub_cancel]
theorem mm1 : (6148914691236517205 : Int64) = lN (mk8 85 8) := rfl
theorem mm2 : (3689348814741910323 : Int64) = lN (mk8 51 8) := rfl
theorem mm3 : (1085102592571150095 : Int64) = lN (mk8 15 8) := rfl
theorem ck1 {x : Nat} (hx : x < 2 ^ 64) : lN x - (((lN x).toUInt64 >>> ((1 : Int32).toInt64.toUInt64 &&& Int64.toUInt64 63)).toInt64 &&& 6148914691236517205) = lN (g1 (mk8 85 8) x) := by
  rw [show (1 : Int32) = nI 1 from rfl, wb_shr hx (by decide), mm1, fb_andL, lsubN (Nat.le_trans Nat.and_le_left (Nat.div_le_self _ _))]; rfl
theorem ck2 {x : Nat} (hx : x < 2 ^ 64) : (lN x &&& 3689348814741910323) + (((lN x).toUInt64 >>> ((2 : Int32).toInt64.toUInt64 &&& Int64.toUInt64 63)).toInt64 &&& 3689348814741910323) = lN (g2 (mk8 51 8) x) := by
  rw [show (2 : Int32) = nI 2 from rfl, wb_shr hx (by decide), mm2, fb_andL, fb_andL, laddN]; rfl
theorem ck3 {x : Nat} (hx : x < 2 ^ 64) : (lN x + ((lN x).toUInt64 >>> ((4 : Int32).toInt64.toUInt64 &&& Int64.toUInt64 63)).toInt64) &&& 1085102592571150095 = lN (g3 (mk8 15 8) x) := by
  rw [show (4 : Int32) = nI 4 from rfl, wb_shr hx (by decide), mm3, laddN, fb_andL]; rfl
theorem ck4 {x k : Nat} (hx : x < 2 ^ 64) (hk : k < 64) : lN x + ((lN x).toUInt64 >>> ((nI k).toInt64.toUInt64 &&& Int64.toUInt64 63)).toInt64 = lN (x + x / 2 ^ k) := by
  rw [wb_shr hx hk, laddN]
theorem e_bitCountL {x : Nat} (hx : x < 2 ^ 64) : mm_e (d + 1) yJ13_bitCount_95d88 mJ13_bitCount_95d88 [.long (lN x)] [] (mm_q (some (.int (nI (pcn x 64)))) []) := by
  refine e_of [some (.long (lN x)), none] rfl (by decide) rfl rfl rfl ?_
  have b1 : g1 (mk8 85 8) x < 2 ^ 64 := Nat.lt_of_le_of_lt (Nat.sub_le _ _) hx
  have b2 : g2 (mk8 51 8) (g1 (mk8 85 8) x) < 2 ^ 64 := Nat.lt_of_le_of_lt (Nat.add_le_add Nat.and_le_right Nat.and_le_right) (by decide)
  have b3 : g3 (mk8 15 8) (g2 (mk8 51 8) (g1 (mk8 85 8) x)) ≤ mk8 15 8 := Nat.and_le_right
  have bL := bcL hx
  have b4 : mk8 15 8 < 2 ^ 60 := by decide
  have b5 : g3 (mk8 15 8) (g2 (mk8 51 8) (g1 (mk8 85 8) x)) < 2 ^ 64 := by omega
  have e16 : ∀ y, y < 2 ^ 60 → y + y / 2 ^ 8 < 2 ^ 61 := fun y h => by have := Nat.div_le_self y (2 ^ 8); omega
  have e32 : ∀ y, y < 2 ^ 61 → y + y / 2 ^ 16 < 2 ^ 62 := fun y h => by have := Nat.div_le_self y (2 ^ 16); omega
  have b6 := e16 _ (Nat.lt_of_le_of_lt b3 b4)
  have b7 := e32 _ b6
  refine r_lload_n (i := 0) 1 dJ13_bitCount_95d88_0 rfl rfl rfl ?_
  refine r_lload_n (i := 0) 2 dJ13_bitCount_95d88_1 rfl rfl rfl ?_
  refine r_iconst (v := 1) 3 dJ13_bitCount_95d88_2 rfl rfl ?_
  refine r_lushr 4 dJ13_bitCount_95d88_3 rfl ?_
  refine r_ldc2 7 dJ13_bitCount_95d88_4 rfl k_J13_314 ?_
  refine r_land 8 dJ13_bitCount_95d88_7 rfl ?_
  refine r_lsub 9 dJ13_bitCount_95d88_8 rfl ?_
  rw [ck1 hx]
  refine r_lstore_n (i := 0) 10 dJ13_bitCount_95d88_9 rfl rfl rfl ?_
  refine r_lload_n (i := 0) 11 dJ13_bitCount_95d88_10 rfl rfl rfl ?_
  refine r_ldc2 14 dJ13_bitCount_95d88_11 rfl k_J13_316 ?_
  refine r_land 15 dJ13_bitCount_95d88_14 rfl ?_
  refine r_lload_n (i := 0) 16 dJ13_bitCount_95d88_15 rfl rfl rfl ?_
  refine r_iconst (v := 2) 17 dJ13_bitCount_95d88_16 rfl rfl ?_
  refine r_lushr 18 dJ13_bitCount_95d88_17 rfl ?_
  refine r_ldc2 21 dJ13_bitCount_95d88_18 rfl k_J13_316 ?_
  refine r_land 22 dJ13_bitCount_95d88_21 rfl ?_
  refine r_ladd 23 dJ13_bitCount_95d88_22 rfl ?_
  rw [ck2 b1]
  refine r_lstore_n (i := 0) 24 dJ13_bitCount_95d88_23 rfl rfl rfl ?_
  refine r_lload_n (i := 0) 25 dJ13_bitCount_95d88_24 rfl rfl rfl ?_
  refine r_lload_n (i := 0) 26 dJ13_bitCount_95d88_25 rfl rfl rfl ?_
  refine r_iconst (v := 4) 27 dJ13_bitCount_95d88_26 rfl rfl ?_
  refine r_lushr 28 dJ13_bitCount_95d88_27 rfl ?_
  refine r_ladd 29 dJ13_bitCount_95d88_28 rfl ?_
  refine r_ldc2 32 dJ13_bitCount_95d88_29 rfl k_J13_318 ?_
  refine r_land 33 dJ13_bitCount_95d88_32 rfl ?_
  rw [ck3 b2]
  refine r_lstore_n (i := 0) 34 dJ13_bitCount_95d88_33 rfl rfl rfl ?_
  refine r_lload_n (i := 0) 35 dJ13_bitCount_95d88_34 rfl rfl rfl ?_
  refine r_lload_n (i := 0) 36 dJ13_bitCount_95d88_35 rfl rfl rfl ?_
  refine r_bipush (v := 8) 38 dJ13_bitCount_95d88_36 rfl rfl ?_
  refine r_lushr 39 dJ13_bitCount_95d88_38 rfl ?_
  refine r_ladd 40 dJ13_bitCount_95d88_39 rfl ?_
  rw [show (8 : Int32) = nI 8 from rfl, ck4 b5 (by decide)]
  refine r_lstore_n (i := 0) 41 dJ13_bitCount_95d88_40 rfl rfl rfl ?_
  refine r_lload_n (i := 0) 42 dJ13_bitCount_95d88_41 rfl rfl rfl ?_
  refine r_lload_n (i := 0) 43 dJ13_bitCount_95d88_42 rfl rfl rfl ?_
  refine r_bipush (v := 16) 45 dJ13_bitCount_95d88_43 rfl rfl ?_
  refine r_lushr 46 dJ13_bitCount_95d88_45 rfl ?_
  refine r_ladd 47 dJ13_bitCount_95d88_46 rfl ?_
  rw [show (16 : Int32) = nI 16 from rfl, ck4 (Nat.lt_trans b6 (by decide)) (by decide)]
  refine r_lstore_n (i := 0) 48 dJ13_bitCount_95d88_47 rfl rfl rfl ?_
  refine r_lload_n (i := 0) 49 dJ13_bitCount_95d88_48 rfl rfl rfl ?_
  refine r_lload_n (i := 0) 50 dJ13_bitCount_95d88_49 rfl rfl rfl ?_
  refine r_bipush (v := 32) 52 dJ13_bitCount_95d88_50 rfl rfl ?_
  refine r_lushr 53 dJ13_bitCount_95d88_52 rfl ?_
  refine r_ladd 54 dJ13_bitCount_95d88_53 rfl ?_
  rw [show (32 : Int32) = nI 32 from rfl, ck4 (Nat.lt_trans b7 (by decide)) (by decide)]
  refine r_lstore_n (i := 0) 55 dJ13_bitCount_95d88_54 rfl rfl rfl ?_
  refine r_lload_n (i := 0) 56 dJ13_bitCount_95d88_55 rfl rfl rfl ?_
  refine r_l2i 57 dJ13_bitCount_95d88_56 rfl ?_
  refine r_bipush (v := 127) 59 dJ13_bitCount_95d88_57 rfl rfl ?_
  refine r_iand 60 dJ13_bitCount_95d88_59 rfl ?_
  exact r_reti dJ13_bitCount_95d88_60 rfl (by first | rfl | exact bI_nar _) ⟨Nat.le_refl _, Nat.le_refl _⟩ (fun _ => rfl) (⟨by rw [lN_i, show (127 : Int32) = nI (2 ^ 7 - 1) from rfl, fa_and, Nat.and_two_pow_sub_one_eq_mod, ← bL]; rfl, rfl⟩)
def msk (A : sA) : Nat → Nat
  | 0 => 0
  | i + 1 => msk A i ||| 2 ^ nx A i
theorem msk_lt (A : sA) (h : sN A ≤ 6) : ∀ i, msk A i < 2 ^ 64
  | 0 => Nat.two_pow_pos 64
  | i + 1 => or_lt (msk_lt A h i) (Nat.pow_lt_pow_right (by decide) (Nat.lt_of_lt_of_le (nx_lt A i) (p2_le h)))
theorem msk_bit (A : sA) (j : Nat) : ∀ i, (msk A i).testBit j = decide (¬ fb_ct (bfr A j) i = 0)
  | 0 => by simp [msk, fb_ct]
  | i + 1 => by
    rw [msk, Nat.testBit_or, msk_bit A j i, Nat.testBit_two_pow, fb_ct_succ, bfr]
    by_cases q : nx A i = j
    · simp [q]
    · simp [q]
theorem pcn_ct (x : Nat) : ∀ n, pcn x n = fb_ct (fun j => x.testBit j) n
  | 0 => rfl
  | n + 1 => by
    rw [pcn, pcn_ct x n, fb_ct_succ, tb_test]
    rcases tb_01 x n with q | q <;> rw [q] <;> rfl
theorem grd_ct (A : sA) (h : sN A ≤ 6) : pcn (msk A (2 ^ sN A)) 64 + fb_ct (grd A) (2 ^ sN A) = 2 ^ sN A := by
  have p6 := p2_le h
  have e1 : pcn (msk A (2 ^ sN A)) 64 = fb_ct (fun j => !grd A j) 64 := by
    rw [pcn_ct]
    apply fb_ct_cong
    intro j _
    rw [msk_bit, grd]
    simp
  have e2 : fb_ct (fun j => !grd A j) 64 = fb_ct (fun j => !grd A j) (2 ^ sN A) := by
    rw [show (64 : Nat) = 2 ^ sN A + (64 - 2 ^ sN A) by omega, fb_ct_split]
    have : fb_ct (fun k => !grd A (2 ^ sN A + k)) (64 - 2 ^ sN A) = 0 := fb_ct_zero.mpr (fun k _ => by
      have z : fb_ct (bfr A (2 ^ sN A + k)) (2 ^ sN A) = 0 := fb_ct_zero.mpr (fun i _ => by
        have := nx_lt A i
        exact decide_eq_false (by omega))
      show (!grd A (2 ^ sN A + k)) = false
      rw [grd, decide_eq_true z]; rfl)
    rw [this, Nat.add_zero]
  have e3 := fb_ct_not (grd A) (2 ^ sN A)
  rw [e1, e2]
  omega
theorem l_gardens (hC0 : CX S (wX N Z kp R Si Sr Ta I J H0 H1 H2 H3 tn)) (hN : fok N (tA S)) : ∀ (k i : Nat), 2 ^ sN (tA S) - i = k → i ≤ 2 ^ sN (tA S) → mm_r (d + 3) mX7_gardens (QX (s_gardens S) S) 4 [some (.ref 0), some (.long (lN (msk (tA S) i))), none, some (.int (nI i))] [] (wX N Z kp R Si Sr Ta I J H0 H1 H2 H3 tn) := by
  have h6 := hN.n6
  have p6 := p2_le h6
  intro k
  induction k with
  | zero =>
    intro i hk hi
    have : i = 2 ^ sN (tA S) := by omega
    subst this
    have gc := grd_ct (tA S) h6
    refine r_iload_n (i := 3) 5 dX7_gardens_4 rfl rfl rfl ?_
    refine r_aload_n (i := 0) 6 dX7_gardens_5 rfl rfl rfl ?_
    refine r_getf 9 dX7_gardens_6 rfl fl_X7_10 rfl rfl ?_
    refine r_callVi [1, 2, 3, 4, 5, 6, 7, 8] 12 dX7_gardens_9 rfl ykX0_states lk_X7_210 (e_states hN.th h6) rfl rfl (sb_now _ _ _ _ _ _ _ _ _ _ _ _ _ _) rfl rfl rfl rfl ⟨Nat.le_refl _, Nat.le_refl _⟩ ?_
    refine r_icmp_ge 34 15 dX7_gardens_12 rfl rfl (fun h12 => ?_) (fun h12 => absurd (Int32.le_refl _) h12)
    refine r_aload_n (i := 0) 35 dX7_gardens_34 rfl rfl rfl ?_
    refine r_getf 38 dX7_gardens_35 rfl fl_X7_10 rfl rfl ?_
    refine r_callVi [1, 2, 3, 4, 5, 6, 7, 8] 41 dX7_gardens_38 rfl ykX0_states lk_X7_210 (e_states hN.th h6) rfl rfl (sb_now _ _ _ _ _ _ _ _ _ _ _ _ _ _) rfl rfl rfl rfl ⟨Nat.le_refl _, Nat.le_refl _⟩ ?_
    refine r_lload_n (i := 1) 42 dX7_gardens_41 rfl rfl rfl ?_
    refine r_callSi [] 45 dX7_gardens_42 rfl ykJ13_bitCount_95d88 lk_X7_225 (e_bitCountL (msk_lt _ h6 _)) rfl rfl rfl ⟨Nat.le_refl _, Nat.le_refl _⟩ ?_
    refine r_isub 46 dX7_gardens_45 rfl ?_
    exact r_reti dX7_gardens_46 rfl (by first | rfl | exact bI_nar _) ⟨Nat.le_refl _, Nat.le_refl _⟩ (fun _ => rfl) (⟨by rw [pk_sub (by omega), s_gardens]; congr 3; omega, hC0⟩)
  | succ k ih =>
    intro i hk hi
    have nl := nx_lt (tA S) i
    refine r_iload_n (i := 3) 5 dX7_gardens_4 rfl rfl rfl ?_
    refine r_aload_n (i := 0) 6 dX7_gardens_5 rfl rfl rfl ?_
    refine r_getf 9 dX7_gardens_6 rfl fl_X7_10 rfl rfl ?_
    refine r_callVi [1, 2, 3, 4, 5, 6, 7, 8] 12 dX7_gardens_9 rfl ykX0_states lk_X7_210 (e_states hN.th h6) rfl rfl (sb_now _ _ _ _ _ _ _ _ _ _ _ _ _ _) rfl rfl rfl rfl ⟨Nat.le_refl _, Nat.le_refl _⟩ ?_
    refine r_icmp_ge 34 15 dX7_gardens_12 rfl rfl (fun h12 => absurd (ble_of (by omega) (by omega) h12) (by omega)) (fun h12 => ?_)
    refine r_lload_n (i := 1) 16 dX7_gardens_15 rfl rfl rfl ?_
    refine r_lconst (v := 1) 17 dX7_gardens_16 rfl rfl ?_
    refine r_aload_n (i := 0) 18 dX7_gardens_17 rfl rfl rfl ?_
    refine r_getf 21 dX7_gardens_18 rfl fl_X7_10 rfl rfl ?_
    refine r_iload_n (i := 3) 22 dX7_gardens_21 rfl rfl rfl ?_
    refine r_callVi [1, 2, 3, 4, 5, 6, 7, 8] 25 dX7_gardens_22 rfl ykX0_afterYear lk_X7_194 (e_afterYear hN (by omega)) rfl rfl (sb_now _ _ _ _ _ _ _ _ _ _ _ _ _ _) rfl rfl rfl rfl ⟨Nat.le_refl _, Nat.le_refl _⟩ ?_
    refine r_lshl 26 dX7_gardens_25 rfl ?_
    rw [show (1 : Int64) = lN 1 from rfl, wb_shl 1 (by omega), Nat.one_mul]
    refine r_lor 27 dX7_gardens_26 rfl ?_
    rw [fb_orL]
    refine r_lstore_n (i := 1) 28 dX7_gardens_27 rfl rfl rfl ?_
    refine r_iinc (i := 3) 31 dX7_gardens_28 rfl rfl (by first | exact nI_1 _ | rfl) rfl ?_
    refine r_goto 4 dX7_gardens_31 rfl ?_
    exact ih (i + 1) (by omega) (by omega)
theorem p_gardens (hC : CX S w) : mm_e (d + 3) yX7_gardens mX7_gardens [.ref 0] w (QX (s_gardens S) S) := by
  have hC0 := hC
  obtain ⟨hT, N, Z, kp, R, Si, Sr, Ta, I, J, H0, H1, H2, H3, tn, rfl, hN, hx, hy, ⟨ht, hb⟩, hf, hs, ⟨hk0, hk1⟩, hI, hJ, ⟨s0, s1, s2, s3⟩, hn⟩ := hC
  have l0 := lt31 hN hT.2.1
  have h6 := hN.n6
  have h4 := hN.g4
  have h5 := hN.b4
  refine e_of [some (.ref 0), none, none, none] rfl (by decide) rfl rfl rfl ?_
  refine r_lconst (v := 0) 1 dX7_gardens_0 rfl rfl ?_
  refine r_lstore_n (i := 1) 2 dX7_gardens_1 rfl rfl rfl ?_
  refine r_iconst (v := 0) 3 dX7_gardens_2 rfl rfl ?_
  refine r_istore_n (i := 3) 4 dX7_gardens_3 rfl rfl rfl ?_
  exact l_gardens hC0 hN _ 0 rfl (Nat.zero_le _)
end XI

