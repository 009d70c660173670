-- WHAT THE STATEMENT GIVES OF THE START
theorem tb_at {x : Cond} (i : Nat) (h : lw_tbl[i]? = some x) : x ∈ lw_tbl := List.mem_of_getElem? h
theorem tb_ins (xs : List Cond) (ps : List Nat) (h : xs = ps.filterMap (fun i => lw_tbl[i]?)) : ∀ x ∈ xs, x ∈ lw_tbl := by
  intro x hx
  rw [h] at hx
  obtain ⟨i, -, hi⟩ := List.mem_filterMap.mp hx
  exact List.mem_of_getElem? hi
theorem tb_nl : ∀ x ∈ mm_nl.map (fun q => Cond.methodLinkNest q.1 q.2.1 q.2.2.1 q.2.2.2), x ∈ lw_tbl := tb_ins _ [84, 149, 155, 181, 205, 232, 266, 286, 458, 524, 576, 701, 709, 713, 714, 741, 806, 822] (by decide +kernel)
def tmS (i : Nat) : Term := .string RX1 ([75, 81, 83, 85, 87, 89, 91, 93].getD i 0)
def nwC : List Cond := flatC (Jvm.Cond.and given_1 narrow_1)
def sxL : List Nat := mm_sx.map fun q => q.2.2.1
def sxB : List (List Int32) := mm_sx.map fun q => q.2.2.2
theorem nw_len : ∀ i : Nat, i < 8 → sxL.getD i 0 < 2 ^ 31 := by decide +kernel
theorem nw_ex : ∀ i : Nat, i < 8 → Cond.exactly (tmS i) "java/lang/String" ∈ nwC := by decide +kernel
theorem nw_co : ∀ i : Nat, i < 8 → Cond.eq (.field (tmS i) "java/lang/String" "coder" "B") (.int 0) ∈ nwC := by decide +kernel
theorem nw_ar : ∀ i : Nat, i < 8 → Cond.arrayOf (.field (tmS i) "java/lang/String" "value" "[B") .byte ∈ nwC := by decide +kernel
theorem nw_le : ∀ i : Nat, i < 8 → Cond.eq (.length (.field (tmS i) "java/lang/String" "value" "[B")) (.int (Int32.ofNat (sxL.getD i 0))) ∈ nwC := by decide +kernel
theorem nw_el : ∀ i : Nat, i < 8 → ∀ j : Nat, j < sxL.getD i 0 → Cond.eq (.elem (.field (tmS i) "java/lang/String" "value" "[B") (.int (Int32.ofNat j))) (.int ((sxB.getD i []).getD j 0)) ∈ nwC := by decide +kernel
theorem nw_ne : ∀ i : Nat, i < 8 → ∀ j : Nat, j < 8 → i ≠ j → Cond.not (Cond.eq (tmS i) (tmS j)) ∈ nwC ∨ Cond.not (Cond.eq (tmS j) (tmS i)) ∈ nwC := by decide +kernel
theorem nw_cs : Cond.eq (.static "java/lang/String" "COMPACT_STRINGS" "Z") (.int 1) ∈ nwC := by decide +kernel
theorem nw_sf : Cond.isRef (.static "jdk/internal/util/Preconditions" "SIOOBE_FORMATTER" "Ljava/util/function/BiFunction;") ∈ nwC := by decide +kernel
theorem vk_S.as {N : Nat} {len : List Nat} {byt : List (List Int32)} {adK adV adK' adV' : Nat → Nat} {A : Nat → Prop} {U : State} {H : Heap} (h : vk_S N len byt adK adV A U H) (e1 : ∀ i, i < N → adK' i = adK i) (e2 : ∀ i, i < N → adV' i = adV i) : vk_S N len byt adK' adV' A U H :=
  ⟨fun i hi => by rw [e1 i hi, e2 i hi]; exact h.1 i hi, fun i j hi hj => by rw [e1 i hi, e1 j hj]; exact h.2 i j hi hj⟩
def lwX (b t : Nat) (adK adV : Nat → Nat) (j : Nat) : Nat := if j = 0 then b else if j = 99 then t else if j < 99 then adK (j - 1) else adV (j - 100)
theorem lwX_K (b t : Nat) (adK adV : Nat → Nat) (j : Nat) (h : j < 8) : lwX b t adK adV (j + 1) = adK j := by
  unfold lwX
  rw [if_neg (by omega), if_neg (by omega), if_pos (by omega), Nat.add_sub_cancel]
theorem lwX_V (b t : Nat) (adK adV : Nat → Nat) (j : Nat) : lwX b t adK adV (100 + j) = adV j := by
  unfold lwX
  rw [if_neg (by omega), if_neg (by omega), if_neg (by omega), Nat.add_sub_cancel_left]
theorem lw_known {s : State} {args : Array Value} (hts : ∀ w ∈ lw_tbl, w.before args s = true) : ∃ D : va_G, ∀ (k : Nat) (q : vw_C), vwCl[k]? = some q → u_Kn s q.1 q.2.1 q.2.2 (D.1 k) (D.2 k) := by
  have ht : ∀ w ∈ mm_tb, w.before args s = true := fun w hw => hts w (mm_tbl hw)
  obtain ⟨c0, i0, h0⟩ := u_known (C := RX0) (T := TX0) (N := 12) (n := 12) ht uX0 (hts _ (tb_at 83 (by decide +kernel)))
  obtain ⟨c1, i1, h1⟩ := u_known (C := RX1) (T := TX1) (N := 5) (n := 5) ht uX1 (hts _ (tb_at 148 (by decide +kernel)))
  obtain ⟨c2, i2, h2⟩ := u_known (C := RX2) (T := TX2) (N := 8) (n := 8) ht uX2 (hts _ (tb_at 231 (by decide +kernel)))
  obtain ⟨c3, i3, h3⟩ := u_known (C := RX3) (T := TX3) (N := 3) (n := 3) ht uX3 (hts _ (tb_at 285 (by decide +kernel)))
  obtain ⟨c4, i4, h4⟩ := u_known (C := RX4) (T := TX4) (N := 6) (n := 6) ht uX4 (hts _ (tb_at 204 (by decide +kernel)))
  obtain ⟨c5, i5, h5⟩ := u_known (C := RX5) (T := TX5) (N := 4) (n := 4) ht uX5 (hts _ (tb_at 265 (by decide +kernel)))
  obtain ⟨c6, i6, h6⟩ := u_known (C := RX6) (T := TX6) (N := 5) (n := 5) ht uX6 (hts _ (tb_at 154 (by decide +kernel)))
  obtain ⟨c7, i7, h7⟩ := u_known (C := RX7) (T := TX7) (N := 10) (n := 10) ht uX7 (hts _ (tb_at 75 (by decide +kernel)))
  obtain ⟨c8, i8, h8⟩ := u_known (C := RX8) (T := TX8) (N := 34) (n := 34) ht uX8 (hts _ (tb_at 890 (by decide +kernel)))
  refine ⟨(fun k => if k = 0 then c0 else if k = 1 then c1 else if k = 2 then c2 else if k = 3 then c3 else if k = 4 then c4 else if k = 5 then c5 else if k = 6 then c6 else if k = 7 then c7 else c8, fun k => if k = 0 then i0 else if k = 1 then i1 else if k = 2 then i2 else if k = 3 then i3 else if k = 4 then i4 else if k = 5 then i5 else if k = 6 then i6 else if k = 7 then i7 else i8), ?_⟩
  intro k q hq
  match k, hq with
  | 0, hq => cases hq; exact h0
  | 1, hq => cases hq; exact h1
  | 2, hq => cases hq; exact h2
  | 3, hq => cases hq; exact h3
  | 4, hq => cases hq; exact h4
  | 5, hq => cases hq; exact h5
  | 6, hq => cases hq; exact h6
  | 7, hq => cases hq; exact h7
  | 8, hq => cases hq; exact h8
  | k + 9, hq => simp [vwCl] at hq
theorem lw_arrays {s : State} {args : Array Value} (hts : ∀ w ∈ lw_tbl, w.before args s = true) : ∃ aC : Nat → Nat, ∀ (k : Nat) (q : ClassId × FieldType), (mm_ty aC)[k]? = some q → ArrOfT s q.1 q.2 ∧ va_RA s q.1 q.2 := by
  obtain ⟨a0, k0, m0, f0, g0, e0⟩ := Cond.arrayClass_spec (hts (.arrayClass .int) (tb_at 145 (by decide +kernel)))
  obtain ⟨a1, k1, m1, f1, g1, e1⟩ := Cond.arrayClass_spec (hts (.arrayClass .byte) (tb_at 179 (by decide +kernel)))
  obtain ⟨a2, k2, m2, f2, g2, e2⟩ := Cond.arrayClass_spec (hts (.arrayClass .boolean) (tb_at 178 (by decide +kernel)))
  obtain ⟨m3, a3, k3, f3, -, g3, e3, j3⟩ := Cond.arrayOver_spec (n := RX0) (hts (.arrayOver (.object RX0)) (tb_at 146 (by decide +kernel)))
  obtain ⟨m4, a4, k4, f4, -, g4, e4, j4⟩ := Cond.arrayOver_spec (n := RX3) (hts (.arrayOver (.object RX3)) (tb_at 284 (by decide +kernel)))
  refine ⟨fun k => if k = 0 then a0 else if k = 1 then a1 else if k = 2 then a2 else if k = 3 then a3 else a4, ?_⟩
  intro k q hq
  match k, hq with
  | 0, hq => cases hq; exact ⟨fun N z => ⟨(fun k h => by cases h), k0, g0, m0, e0⟩, f0⟩
  | 1, hq => cases hq; exact ⟨fun N z => ⟨(fun k h => by cases h), k1, g1, m1, e1⟩, f1⟩
  | 2, hq => cases hq; exact ⟨fun N z => ⟨(fun k h => by cases h), k2, g2, m2, e2⟩, f2⟩
  | 3, hq => cases hq; exact ⟨fun N z => ⟨(fun k h => by cases h), k3, g3, m3, e3⟩, ⟨k3, m3, g3, e3, f3, j3⟩⟩
  | 4, hq => cases hq; exact ⟨fun N z => ⟨(fun k h => by cases h), k4, g4, m4, e4⟩, ⟨k4, m4, g4, e4, f4, j4⟩⟩
  | k + 5, hq => simp [mm_ty] at hq
theorem lw_env {s : State} {b : Nat} (hts : ∀ w ∈ lw_tbl, w.before #[Value.ref b] s = true) (hgv : (Jvm.Cond.and given_1 narrow_1).before #[Value.ref b] s = true) : ∃ X : Nat → Nat, X 0 = b ∧ mm_Ev X (fun _ => 0) (fun q => s.heap.size ≤ q) s s.heap := by
  have hs : ∀ c ∈ nwC, c.before #[Value.ref b] s = true := flat_of_before _ hgv
  have hA : ∀ a : Nat, a < s.heap.size → ¬ (fun q : Nat => s.heap.size ≤ q) a := fun a h => Nat.not_le.mpr h
  obtain ⟨adK, adV, hS, hE⟩ := vk_Sof (args := #[Value.ref b]) (s := s) (N := 8) (tm := tmS) (len := sxL) (byt := sxB) (A := fun q => s.heap.size ≤ q) nw_len (fun i hi => hs _ (nw_ex i hi)) (fun i hi => hs _ (nw_co i hi)) (fun i hi => hs _ (nw_ar i hi)) (fun i hi => hs _ (nw_le i hi)) (fun i hi j hj => hs _ (nw_el i hi j hj)) (fun i j hi hj hij => (nw_ne i hi j hj hij).imp (hs _) (hs _)) hA
  have hZ := va_Zof (A := fun q => s.heap.size ≤ q) (hts (.laysStatic "java/lang/String" "COMPACT_STRINGS" "Z") (tb_at 400 (by decide +kernel))) (hts (.initialized "java/lang/String") (tb_at 66 (by decide +kernel))) (va_eqt (hs _ nw_cs)) hA
  have hQ := va_Zqof (A := fun q => s.heap.size ≤ q) (hts (.laysStatic "jdk/internal/util/Preconditions" "SIOOBE_FORMATTER" "Ljava/util/function/BiFunction;") (tb_at 416 (by decide +kernel))) (hts (.initialized "jdk/internal/util/Preconditions") (tb_at 68 (by decide +kernel))) (hs _ nw_sf) hA
  obtain ⟨t, hQ⟩ : ∃ t : Nat, va_Z "jdk/internal/util/Preconditions" "SIOOBE_FORMATTER" "Ljava/util/function/BiFunction;" .null (fun q => s.heap.size ≤ q) s s.heap ∨ va_Z "jdk/internal/util/Preconditions" "SIOOBE_FORMATTER" "Ljava/util/function/BiFunction;" (.ref t) (fun q => s.heap.size ≤ q) s s.heap := by
    rcases hQ with h | ⟨t, h⟩
    · exact ⟨0, Or.inl h⟩
    · exact ⟨t, Or.inr h⟩
  refine ⟨lwX b t adK adV, rfl, ?_, ?_, ⟨va_AO.of (hts _ (tb_at 146 (by decide +kernel))), va_AO.of (hts _ (tb_at 284 (by decide +kernel)))⟩, vk_S.as hS (fun i hi => lwX_K b t adK adV i hi) (fun i _ => lwX_V b t adK adV i), hZ, hQ⟩
  · intro q hq
    exact va_Nw.of rfl (hts _ (tb_nl _ (List.mem_map.mpr ⟨q, hq, rfl⟩)))
  · intro j q hq
    match j, hq with
    | 0, hq => cases hq; exact vk_R.of (hts _ (tb_at 386 (by decide +kernel))) (hE 0 (by decide))
    | 1, hq => cases hq; exact vk_R.of (hts _ (tb_at 439 (by decide +kernel))) (hE 1 (by decide))
    | 2, hq => cases hq; exact vk_R.of (hts _ (tb_at 440 (by decide +kernel))) (hE 2 (by decide))
    | 3, hq => cases hq; exact vk_R.of (hts _ (tb_at 441 (by decide +kernel))) (hE 3 (by decide))
    | 4, hq => cases hq; exact vk_R.of (hts _ (tb_at 442 (by decide +kernel))) (hE 4 (by decide))
    | 5, hq => cases hq; exact vk_R.of (hts _ (tb_at 443 (by decide +kernel))) (hE 5 (by decide))
    | 6, hq => cases hq; exact vk_R.of (hts _ (tb_at 444 (by decide +kernel))) (hE 6 (by decide))
    | 7, hq => cases hq; exact vk_R.of (hts _ (tb_at 445 (by decide +kernel))) (hE 7 (by decide))
    | k + 8, hq => simp [mm_sx] at hq
-- ===== YOUR PART BEGINS =====
set_option maxHeartbeats 4000000 in
/-- YOUR PART: from the entry, for every script of at most 320 ints, the law comes to its end with true -/
theorem whole_start {p : Program} {e : Env} {s : State} {m : MethodId} {below : List Frame} {meth : Method} {c : Code} (l : Launch) {b L : Nat} {xs : Nat → Int32} (hL : L ≤ 320) (C0 : lw_At p s m meth c b L xs) : W p l e room_1 s m #[Value.ref b] below meth c s.heap [] 0 0 (lw_Z below #[Value.ref b] s) (entryFrame m ([Value.ref b] : List Value).toArray 4) := by
  obtain ⟨hx, hb, hr, hml, hown, hts, hX, hbl, hlocks, hgv⟩ := C0
  obtain ⟨D, hD⟩ := lw_known hts
  obtain ⟨aC, haC⟩ := lw_arrays hts
  obtain ⟨X, hX0, hEv⟩ := lw_env hts hgv
  have hl := lv_entry ([.ref b]) (n := 4) (Nat.le_of_ble_eq_true rfl)
  rw [lg_entry_eq]
  generalize (lg_sl ([.ref b]) ++ List.replicate (4 - (lg_sl ([.ref b])).length) Slot.unset).toArray = ls at hl ⊢
  have hLV : mm_LV (fun k => s.heap.size + k) X ls 4 [some (.retAddr 0), none, none, none] := by
    show lv_has ls 4 [(0, .ref (X 0))]
    rw [hX0]
    exact hl
  refine lw_go (Lc := L) (xs := xs) (ah := true) (Qf := fun v _ => v = some (.int 1)) hL (fun _ => rfl) l p e room_1 s m _ below meth c _ D (fun k => s.heap.size + k) X aC (fun _ => 0) (fun q => s.heap.size ≤ q) 0 ⟨hx, hb, hml, hown, fun x hx => hts x (mm_tbl hx), (fun z => by cases z), ⟨hD, haC⟩, fun _ h => h, hEv, ⟨by rw [hX0]; exact hX, by rw [hX0]; exact hbl, by rw [hX0]; exact Nat.not_le.mpr hbl⟩, ⟨by decide, by decide, by decide, by decide⟩, ?_⟩ s.heap [] ls ⟨(fun k c h => by simp at h), (fun i j h => absurd h (Nat.not_lt_zero i)), (fun k h => absurd h (Nat.not_lt_zero k)), va_S.rf, (fun _ => ⟨Nat.le_refl _, rfl, fun k _ => rfl⟩), (fun z => by cases z)⟩ hLV
  intro kc ks pc v w' H locs ls' h1 h2 hQ hrt hS0 _
  subst hQ
  exact W.widen h1 h2 (va_forget hS0.2.2 (lw_ret hx hb hr hlocks hrt.1))
-- ===== YOUR PART ENDS =====
