-- THE REFERENCE STANDS FOR A STATE
def laM (l : Nat) : Int32 := if l = 3 then -4 else nI l
abbrev mPg (f : Nat → Int32) (k : Nat) (q : sA × Nat × Nat) : Prop := mpg (fun i => f (37 * (k + 1) + i)) q.1 ∧ f (37 * (k + 1) + 18) = nI q.2.1 ∧ f (37 * (k + 1) + 36) = nI q.2.2
abbrev mSe (s : mSn) (V : sV) : Prop := s.2 = nI V.1 ∧ ∀ i, i < V.1 → s.1 (3 * i) = nI (V.2.1 i) ∧ s.1 (3 * i + 1) = nI (V.2.2.1 i) ∧ s.1 (3 * i + 2) = nI (V.2.2.2 i)
abbrev mSh (z : mZz) (H : (Nat → Nat) × (Nat → Nat) × (Nat → Nat → Int32)) : Prop := ∀ k, k < 4 → z.2.1 k = laM (H.1 k) ∧ z.2.2.1 k = nI (H.2.1 k) ∧ ∀ i, i < 40 → z.2.2.2.1 (40 * k + i) = H.2.2 k i
def relM (W : MT) (S : sT) : Prop := mok W.1 (tA S) ∧ (W.1.1 18 = nI (tX S) ∧ W.1.1 36 = nI (tY S)) ∧ (W.2.2.1.2.1 = nI (tT S).1 ∧ ∀ i, i < (tT S).1 → W.2.2.1.1 i = nI ((tT S).2 i)) ∧ W.2.2.1.2.2 = nI (tF S) ∧ mSe W.2.2.2.2.2.1 (tV S) ∧ (W.2.2.2.2.2.2.2.1 0 = bI (tI S 0).isSome ∧ W.2.2.2.2.2.2.2.1 1 = bI (tI S 1).isSome) ∧ (∀ k, k < 2 → ∀ q, tI S k = some q → mPg W.1.1 k q) ∧ mSh W.2.2.2.2.2.2.2 (tH S) ∧ W.2.2.2.2.2.2.2.2.2.2.2 = nI (tN S)
def CM (S : sT) (w : mm_W) : Prop := ∃ W : MT, w = wM W ∧ relM W S
def QM (r : Int32) (S : sT) : Option Value → mm_W → Prop := fun v u => v = some (.int r) ∧ CM S u
def QML (r : Int64) (S : sT) : Option Value → mm_W → Prop := fun v u => v = some (.long r) ∧ CM S u
theorem CM_len {S : sT} {w : mm_W} (h : CM S w) : w.length = 12 := by obtain ⟨W, rfl, -⟩ := h; rfl
theorem QM_len {r : Int32} {S : sT} (v : Option Value) (u : mm_W) (h : QM r S v u) : u.length = 12 := CM_len h.2
theorem mpg_cong {p q : Nat → Int32} {A : sA} (h : mpg p A) (he : ∀ i, i < 36 → i ≠ 18 → q i = p i) : mpg q A := by
  obtain ⟨h1, h2, h3, h4, h5⟩ := h
  have n6 := h5.1
  have g4 := h5.2.2.1
  have b4 := h5.2.2.2.2.1
  refine ⟨fun i hi => ?_, fun i hi => ?_, ?_, fun i hi => ?_, h5⟩
  · rw [he i (by omega) (by omega), he (6 + i) (by omega) (by omega), he (12 + i) (by omega) (by omega)]
    exact h1 i hi
  · rw [he (19 + i) (by omega) (by omega), he (23 + i) (by omega) (by omega)]
    exact h2 i hi
  · rw [he 35 (by omega) (by omega)]
    exact h3
  · rw [he (27 + 2 * i) (by omega) (by omega), he (27 + 2 * i + 1) (by omega) (by omega)]
    exact h4 i hi
/-- what is so and the year change -/
theorem relM_XY {W : MT} {S : sT} (h : relM W S) {f : Nat → Int32} {x y : Nat} (he : ∀ i, i < 111 → i ≠ 18 → i ≠ 36 → f i = W.1.1 i) (hx : f 18 = nI x) (hy : f 36 = nI y) : relM (zSt W f) (tSXY S x y) := by
  obtain ⟨hM, ⟨h18, h36⟩, ht, hf, hv, hk, hI, hH, hn⟩ := h
  refine ⟨⟨hM.1, hM.2.1, mpg_cong hM.2.2 (fun i hi h18 => he i (by omega) h18 (by omega))⟩, ⟨hx, hy⟩, ht, hf, hv, hk, fun k hk q hq => ?_, hH, hn⟩
  obtain ⟨a1, a2, a3⟩ := hI k hk q hq
  refine ⟨mpg_cong a1 (fun i hi _ => he _ (by omega) (by omega) (by omega)), ?_, ?_⟩
  · show f (37 * (k + 1) + 18) = _
    rw [he _ (by omega) (by omega) (by omega)]; exact a2
  · show f (37 * (k + 1) + 36) = _
    rw [he _ (by omega) (by omega) (by omega)]; exact a3
/-- a law changes -/
theorem relM_A {W : MT} {S : sT} (h : relM W S) {f : Nat → Int32} {A : sA} (hA : mpg f A) (h1 : sN A = sN (tA S)) (h2 : sG A = sG (tA S)) (he : ∀ i, i = 18 ∨ 36 ≤ i ∧ i < 111 → f i = W.1.1 i) : relM (zSt W f) (tSA S A) := by
  obtain ⟨hM, ⟨h18, h36⟩, ht, hf, hv, hk, hI, hH, hn⟩ := h
  refine ⟨⟨by rw [h1]; exact hM.1, by rw [h2]; exact hM.2.1, hA⟩, ⟨by show f 18 = _; rw [he 18 (Or.inl rfl)]; exact h18, by show f 36 = _; rw [he 36 (by omega)]; exact h36⟩, ht, hf, hv, hk, fun k hk q hq => ?_, hH, hn⟩
  obtain ⟨a1, a2, a3⟩ := hI k hk q hq
  refine ⟨mpg_cong a1 (fun i hi _ => he _ (by omega)), ?_, ?_⟩
  · show f (37 * (k + 1) + 18) = _
    rw [he _ (by omega)]; exact a2
  · show f (37 * (k + 1) + 36) = _
    rw [he _ (by omega)]; exact a3
theorem c19 (k i : Nat) : (19 : Int32) + 4 * nI k + nI i = nI (19 + 4 * k + i) := by
  rw [show (4 : Int32) = nI 4 from rfl, pk_mul, show (19 : Int32) = nI 19 from rfl, nI_add, nI_add]
theorem c27k (b k : Nat) : (27 : Int32) + 2 * nI b + nI k = nI (27 + 2 * b + k) := by rw [c27, nI_add]
theorem u_at {f : Nat → Int32} {k : Nat} {x : Int32} : upd f k x k = x := pk_us
theorem u_ne {f : Nat → Int32} {k j : Nat} {x : Int32} (h : j ≠ k) : upd f k x j = f j := pk_un h
theorem bitsB : ∀ x, x < 64 → ∀ f, f < 6 → ∀ v, v < 2 → (nI x &&& ((1 : Int32) <<< (nI f &&& 31) ^^^ -1)) ||| (nI v <<< (nI f &&& 31)) = nI (bitTo x f v) := by decide +kernel
theorem cutB (v : Int32) : (v <<< ((24 : Int32) &&& 31)) >>> ((24 : Int32) &&& 31) = v.toInt8.toInt32 := by
  apply b_ext
  intro i hi
  rw [show ((24 : Int32) &&& 31) = (nI 24 &&& 31) from rfl, b_sshr 24 (by decide) _ hi]
  have e : bt v.toInt8.toInt32 i = if i < 8 then bt v i else bt v 7 := by
    unfold bt
    show (v.toInt8.toInt32).toBitVec.getLsbD i = _
    rw [Int8.toBitVec_toInt32, Int32.toBitVec_toInt8]
    simp only [BitVec.getLsbD_signExtend, BitVec.msb_eq_getLsbD_last, hi, decide_true, Bool.true_and]
    by_cases q : i < 8
    · simp [q, hi]
    · simp [q]
  rw [e]
  by_cases q : i < 8
  · rw [if_pos (by omega), if_pos q, b_shl 24 (by decide) _ (by omega), show 24 + i - 24 = i by omega]
    simp
  · rw [if_neg (by omega), if_neg q, b_shl 24 (by decide) _ (by omega)]
    simp
theorem cutS (v : Int32) : (v <<< ((16 : Int32) &&& 31)) >>> ((16 : Int32) &&& 31) = v.toInt16.toInt32 := by
  apply b_ext
  intro i hi
  rw [show ((16 : Int32) &&& 31) = (nI 16 &&& 31) from rfl, b_sshr 16 (by decide) _ hi]
  have e : bt v.toInt16.toInt32 i = if i < 16 then bt v i else bt v 15 := by
    unfold bt
    show (v.toInt16.toInt32).toBitVec.getLsbD i = _
    rw [Int16.toBitVec_toInt32, Int32.toBitVec_toInt16]
    simp only [BitVec.getLsbD_signExtend, BitVec.msb_eq_getLsbD_last, hi, decide_true, Bool.true_and]
    by_cases q : i < 16
    · simp [q, hi]
    · simp [q]
  rw [e]
  by_cases q : i < 16
  · rw [if_pos (by omega), if_pos q, b_shl 16 (by decide) _ (by omega), show 16 + i - 16 = i by omega]
    simp
  · rw [if_neg (by omega), if_neg q, b_shl 16 (by decide) _ (by omega)]
    simp
