def mm_q (v0 : Option Value) (w1 : mm_W) : Option Value → mm_W → Prop := fun v u => v = v0 ∧ u = w1
abbrev mm_r (d : Nat) (M : mm_M) (Qf : Option Value → mm_W → Prop) (pc : Nat) (L : List (Option Value)) (st : List Value) (w : mm_W) : Prop := mm_R d M none 0 0 false false Qf 0 0 pc L st w
abbrev mm_e (d : Nat) (y : MethodName) (M : mm_M) (args : List Value) (w : mm_W) (Qf : Option Value → mm_W → Prop) : Prop := mm_E false d y M args w 0 0 Qf
theorem e_of {d : Nat} {y : MethodName} {M : mm_M} {args : List Value} {w : mm_W} {Qf : Option Value → mm_W → Prop} (L : List (Option Value)) (hcls : y.cls = M.1) (hpl : plainName y.cls = true) (hini : M.2.2.2.1 = false) (hlen : Nat.ble (mm_l1 args).length M.2.2.1 = true) (hL : mm_l0 args M.2.2.1 = L) (h : mm_r d M Qf 0 L [] w) : mm_e d y M args w Qf := by
  subst hL
  exact mm_E.of hcls hpl (fun z => by rw [hini] at z; cases z) (Nat.le_of_ble_eq_true hlen) h
section MMG
variable {d : Nat} {M : mm_M} {scr : Option (Nat × (Nat → Int32))} {mc ms : Nat} {ah : Bool} {Qf : Option Value → mm_W → Prop} {kc ks pc : Nat} {L : List (Option Value)} {st : List Value} {w : mm_W}
variable {idx n : Nat} {y : MethodName} {M' : mm_M} {As0 : List Value} {r0 : Nat} {w0 w1 : mm_W} {rest : List Value} {ci : Nat} {fs : List Value} {T : u_T} {N : Nat}
theorem r_callVi {r : Int32} (is : List Nat) (pc' : Nat) (h : decode M.2.1 pc = .ok (.invokevirtual idx, 3)) (hp : pc + 3 = pc') (hy : mm_Yk y M' n) (hlk : mm_LkV M.1 idx y) (hE : mm_e d y M' (.ref r0 :: As0) w0 (mm_q (some (.int r)) w0)) (hn : As0.length = n) (hnd : va_nd is = true) (hsub : is.map (fun i => w[i]?) = w0.map (fun c => some (mm_rc (mm_sg is w.length) c))) (hrc : w0[r0]? = some (.inr (ci, fs))) (hcl : vwCl[ci]? = some (y.cls, T, N))
    (hst : st = (As0.map (mm_rn (mm_sg is w.length))).reverse ++ .ref (mm_sg is w.length r0) :: rest) (hcat : Nat.ble (rest.map fun v => v.category).sum 8 = true) (hm : kc ≤ mc ∧ ks ≤ ms) (kk : mm_R (d + 1) M scr mc ms ah false Qf kc ks pc' L (.int r :: rest) w) : mm_R (d + 1) M scr mc ms ah false Qf kc ks pc L st w :=
  r_callV is pc' h hp hy hlk hE hn hnd hsub hrc hcl hst (Nat.le_of_ble_eq_true hcat) hm.1 hm.2 (fun v u hq => by obtain ⟨rfl, rfl⟩ := hq; rw [mm_back_same hsub]; exact kk)
theorem r_callVl {r : Int64} (is : List Nat) (pc' : Nat) (h : decode M.2.1 pc = .ok (.invokevirtual idx, 3)) (hp : pc + 3 = pc') (hy : mm_Yk y M' n) (hlk : mm_LkV M.1 idx y) (hE : mm_e d y M' (.ref r0 :: As0) w0 (mm_q (some (.long r)) w0)) (hn : As0.length = n) (hnd : va_nd is = true) (hsub : is.map (fun i => w[i]?) = w0.map (fun c => some (mm_rc (mm_sg is w.length) c))) (hrc : w0[r0]? = some (.inr (ci, fs))) (hcl : vwCl[ci]? = some (y.cls, T, N))
    (hst : st = (As0.map (mm_rn (mm_sg is w.length))).reverse ++ .ref (mm_sg is w.length r0) :: rest) (hcat : Nat.ble (rest.map fun v => v.category).sum 8 = true) (hm : kc ≤ mc ∧ ks ≤ ms) (kk : mm_R (d + 1) M scr mc ms ah false Qf kc ks pc' L (.long r :: rest) w) : mm_R (d + 1) M scr mc ms ah false Qf kc ks pc L st w :=
  r_callV is pc' h hp hy hlk hE hn hnd hsub hrc hcl hst (Nat.le_of_ble_eq_true hcat) hm.1 hm.2 (fun v u hq => by obtain ⟨rfl, rfl⟩ := hq; rw [mm_back_same hsub]; exact kk)
theorem r_callVu {v0 : Option Value} (is : List Nat) (pc' : Nat) (h : decode M.2.1 pc = .ok (.invokevirtual idx, 3)) (hp : pc + 3 = pc') (hy : mm_Yk y M' n) (hlk : mm_LkV M.1 idx y) (hE : mm_e d y M' (.ref r0 :: As0) w0 (mm_q v0 w1)) (hn : As0.length = n) (hnd : va_nd is = true) (hsub : is.map (fun i => w[i]?) = w0.map (fun c => some (mm_rc (mm_sg is w.length) c))) (hrc : w0[r0]? = some (.inr (ci, fs))) (hcl : vwCl[ci]? = some (y.cls, T, N))
    (hst : st = (As0.map (mm_rn (mm_sg is w.length))).reverse ++ .ref (mm_sg is w.length r0) :: rest) (hcat : Nat.ble (rest.map fun v => v.category).sum 8 = true) (hm : kc ≤ mc ∧ ks ≤ ms) (kk : mm_R (d + 1) M scr mc ms ah false Qf kc ks pc' L ((v0.map (mm_rn (mm_sg is w.length))).toList ++ rest) (mm_back is w w1)) : mm_R (d + 1) M scr mc ms ah false Qf kc ks pc L st w :=
  r_callV is pc' h hp hy hlk hE hn hnd hsub hrc hcl hst (Nat.le_of_ble_eq_true hcat) hm.1 hm.2 (fun v u hq => by obtain ⟨rfl, rfl⟩ := hq; exact kk)
theorem r_callVq {Q0 : Option Value → mm_W → Prop} (is : List Nat) (pc' : Nat) (h : decode M.2.1 pc = .ok (.invokevirtual idx, 3)) (hp : pc + 3 = pc') (hy : mm_Yk y M' n) (hlk : mm_LkV M.1 idx y) (hE : mm_e d y M' (.ref r0 :: As0) w0 Q0) (hn : As0.length = n) (hnd : va_nd is = true) (hsub : is.map (fun i => w[i]?) = w0.map (fun c => some (mm_rc (mm_sg is w.length) c))) (hrc : w0[r0]? = some (.inr (ci, fs))) (hcl : vwCl[ci]? = some (y.cls, T, N))
    (hst : st = (As0.map (mm_rn (mm_sg is w.length))).reverse ++ .ref (mm_sg is w.length r0) :: rest) (hcat : Nat.ble (rest.map fun v => v.category).sum 8 = true) (hm : kc ≤ mc ∧ ks ≤ ms) (kk : ∀ v u, Q0 v u → mm_R (d + 1) M scr mc ms ah false Qf kc ks pc' L ((v.map (mm_rn (mm_sg is w.length))).toList ++ rest) (mm_back is w u)) : mm_R (d + 1) M scr mc ms ah false Qf kc ks pc L st w :=
  r_callV is pc' h hp hy hlk hE hn hnd hsub hrc hcl hst (Nat.le_of_ble_eq_true hcat) hm.1 hm.2 kk
theorem r_callSi {r : Int32} (is : List Nat) (pc' : Nat) (h : decode M.2.1 pc = .ok (.invokestatic idx, 3)) (hp : pc + 3 = pc') (hy : mm_Yk y M' n) (hlk : mm_LkS M.1 idx y) (hE : mm_e d y M' As0 [] (mm_q (some (.int r)) [])) (hn : As0.length = n)
    (hst : st = (As0.map (mm_rn (mm_sg [] w.length))).reverse ++ rest) (hcat : Nat.ble (rest.map fun v => v.category).sum 8 = true) (hm : kc ≤ mc ∧ ks ≤ ms) (kk : mm_R (d + 1) M scr mc ms ah false Qf kc ks pc' L (.int r :: rest) w) : mm_R (d + 1) M scr mc ms ah false Qf kc ks pc L st w :=
  r_callS [] pc' h hp hy hlk hE hn rfl rfl hst (Nat.le_of_ble_eq_true hcat) hm.1 hm.2 (fun v u hq => by obtain ⟨rfl, rfl⟩ := hq; rw [mm_back_same rfl]; exact kk)
theorem r_callSl {r : Int64} (is : List Nat) (pc' : Nat) (h : decode M.2.1 pc = .ok (.invokestatic idx, 3)) (hp : pc + 3 = pc') (hy : mm_Yk y M' n) (hlk : mm_LkS M.1 idx y) (hE : mm_e d y M' As0 [] (mm_q (some (.long r)) [])) (hn : As0.length = n)
    (hst : st = (As0.map (mm_rn (mm_sg [] w.length))).reverse ++ rest) (hcat : Nat.ble (rest.map fun v => v.category).sum 8 = true) (hm : kc ≤ mc ∧ ks ≤ ms) (kk : mm_R (d + 1) M scr mc ms ah false Qf kc ks pc' L (.long r :: rest) w) : mm_R (d + 1) M scr mc ms ah false Qf kc ks pc L st w :=
  r_callS [] pc' h hp hy hlk hE hn rfl rfl hst (Nat.le_of_ble_eq_true hcat) hm.1 hm.2 (fun v u hq => by obtain ⟨rfl, rfl⟩ := hq; rw [mm_back_same rfl]; exact kk)
theorem r_reti {x : Int32} (h : decode M.2.1 pc = .ok (.ireturn, 1)) {ty : FieldType} (hr : M.2.2.2.2 = some ty) (hn : narrow ty (.int x) = .int x) (hm : kc ≤ mc ∧ ks ≤ ms) (ha : scr = none → ah = false) (hq : Qf (some (.int x)) w) : mm_R d M scr mc ms ah false Qf kc ks pc L [.int x] w :=
  r_ret (some (.int x)) ⟨h, ty, hr, hn⟩ hm.1 hm.2 hq ha rfl
theorem r_retl {x : Int64} (h : decode M.2.1 pc = .ok (.lreturn, 1)) (hr : M.2.2.2.2 = some .long) (hm : kc ≤ mc ∧ ks ≤ ms) (ha : scr = none → ah = false) (hq : Qf (some (.long x)) w) : mm_R d M scr mc ms ah false Qf kc ks pc L [.long x] w :=
  r_ret (some (.long x)) ⟨h, hr⟩ hm.1 hm.2 hq ha rfl
theorem r_retv (h : decode M.2.1 pc = .ok (.return_, 1)) (hr : M.2.2.2.2 = none) (hm : kc ≤ mc ∧ ks ≤ ms) (ha : scr = none → ah = false) (hq : Qf none w) : mm_R d M scr mc ms ah false Qf kc ks pc L [] w :=
  r_ret none ⟨h, hr⟩ hm.1 hm.2 hq ha rfl
/-- forget locals by their places -/
def mm_dr : List (Option Value) → List Nat → Nat → List (Option Value)
  | [], _, _ => []
  | a :: t, ks, i => (if i ∈ ks then none else a) :: mm_dr t ks (i + 1)
theorem mm_dr_spec : ∀ (L : List (Option Value)) (ks : List Nat) (n i : Nat) (v : Value), (mm_dr L ks n)[i]? = some (some v) → L[i]? = some (some v) := by
  intro L
  induction L with
  | nil => intro ks n i v h; simp [mm_dr] at h
  | cons a t ih =>
    intro ks n i v h
    cases i with
    | zero =>
      simp only [mm_dr, List.getElem?_cons_zero, Option.some.injEq] at h ⊢
      split at h
      · cases h
      · exact h
    | succ i =>
      simp only [mm_dr, List.getElem?_cons_succ] at h ⊢
      exact ih ks (n + 1) i v h
theorem r_forget (ks' : List Nat) (k : mm_R d M scr mc ms ah false Qf kc ks pc (mm_dr L ks' 0) st w) : mm_R d M scr mc ms ah false Qf kc ks pc L st w := r_drop _ (fun i v h => mm_dr_spec L ks' 0 i v h) k
theorem r_eq {L' : List (Option Value)} {st' : List Value} {w' : mm_W} (k : mm_R d M scr mc ms ah false Qf kc ks pc L' st' w') (h1 : L = L') (h2 : st = st') (h3 : w = w') : mm_R d M scr mc ms ah false Qf kc ks pc L st w := by subst h1; subst h2; subst h3; exact k
/-- copying ints from array to array -/
theorem r_acopy {i j n0 n1 : Nat} {f g : Nat → Int32} {sp dp x : Int32} (pc' : Nat) (h : decode M.2.1 pc = .ok (.invokestatic idx, 3)) (hp : pc + 3 = pc') (hl : Cond.methodLink M.1 idx arraycopyName ∈ mm_tb) (h1 : Cond.native arraycopyName ∈ mm_tb) (h2 : Cond.static arraycopyName ∈ mm_tb) (h3 : Cond.initialized "java/lang/System" ∈ mm_tb) (hd : 1 ≤ d) (hi : w[i]? = some (.inl (0, (n0, .inl f)))) (hj : w[j]? = some (.inl (0, (n1, .inl g)))) (hs : ¬ sp < 0) (ht : ¬ dp < 0) (hx : ¬ x < 0) (hb1 : sp.toNatClampNeg + x.toNatClampNeg ≤ n0) (hb2 : dp.toNatClampNeg + x.toNatClampNeg ≤ n1) (hst : st = []) (kk : mm_R d M scr mc ms ah false Qf kc ks pc' L st (w.set j (.inl (0, (n1, .inl (va_cpy f g sp.toNatClampNeg dp.toNatClampNeg x.toNatClampNeg)))))) : mm_R d M scr mc ms ah false Qf kc ks pc L (.int x :: .int dp :: .ref j :: .int sp :: .ref i :: st) w := by
  subst hp
  subst hst
  intro l p e R s m args below meth c Q D ρ X aC aV A n2 hC H locs ls hR hL
  obtain ⟨hx', hb, hml, hown, hts, hini, hK, hA, hEv, hsc, ⟨hr1, hr2, hr3, hr4⟩, hret⟩ := id hC
  obtain ⟨r1, r2, r3, r4, r5, r6⟩ := id hR
  let ws : va_W := w.mapIdx (fun k c => (ρ k, mm_re ρ X aC c))
  have hws : ∀ (k : Nat) (q : Nat × va_E), ws[k]? = some q ↔ ∃ c, w[k]? = some c ∧ q = (ρ k, mm_re ρ X aC c) := by
    intro k q
    show (w.mapIdx _)[k]? = some q ↔ _
    rw [List.getElem?_mapIdx]
    cases hk : w[k]? with
    | none => simp
    | some c => simp [eq_comm]
  have hP : va_P D vwCl ws H := fun k q hq => by obtain ⟨c, h1, rfl⟩ := (hws k q).mp hq; exact r1 k c h1
  have hlen : ∀ (k : Nat) (q : Nat × va_E), ws[k]? = some q → k < w.length := fun k q hq => by obtain ⟨c, h1, -⟩ := (hws k q).mp hq; exact (List.getElem?_eq_some_iff.mp h1).1
  have hD : va_D A ws := ⟨fun a b x y ha hb hxy => by
      obtain ⟨c1, e1, rfl⟩ := (hws a x).mp ha
      obtain ⟨c2, e2, rfl⟩ := (hws b y).mp hb
      exact r2 a b (hlen _ _ ha) (hlen _ _ hb) hxy, fun k q hq => by
      have := hlen _ _ hq
      obtain ⟨c1, e1, rfl⟩ := (hws k q).mp hq
      exact r3 k this⟩
  refine va_copyi hx' hb (by rw [hml]; exact hL.1.symm) hown (hts _ hl) (hts _ h1) (hts _ h2) (hts _ h3) hK hP hD r4 i j 0 0 (rest := []) (a0 := ρ i) (a := ρ j) (n0 := n0) (n1 := n1) (f := f) (g := g) (ty := .int) ((hws i _).mpr ⟨_, hi, rfl⟩) ((hws j _).mpr ⟨_, hj, rfl⟩) rfl rfl rfl hs ht hx hb1 hb2 (fun _ _ => rfl) (by omega) (by show 0 + (nativeFrameWords "java/lang/System" "arraycopy" 5 + 11) ≤ R.locals; exact Nat.le_trans (by decide) (Nat.le_trans (by omega : 34 ≤ 34 * d) hr2)) h (fun H1 locs1 g1 g2 g3 => ?_)
  refine kk l p e R s m args below meth c Q D ρ X aC aV A n2 hC H1 locs1 ls ⟨fun k c hk => ?_, by rw [List.length_set]; exact r2, by rw [List.length_set]; exact r3, g3, fun z => absurd z Bool.false_ne_true, fun z => by rw [List.length_set]; exact r6 z⟩ hL
  have hjl : j < w.length := (List.getElem?_eq_some_iff.mp hj).1
  have hjw : j < ws.length := (List.getElem?_eq_some_iff.mp ((hws j _).mpr ⟨_, hj, rfl⟩)).1
  by_cases hkj : k = j
  · subst hkj
    rw [List.getElem?_set_self hjl] at hk
    cases hk
    exact g1 k _ (List.getElem?_set_self hjw)
  · rw [List.getElem?_set_ne (Ne.symm hkj)] at hk
    refine g1 k _ ?_
    rw [List.getElem?_set_ne (Ne.symm hkj)]
    exact (hws k _).mpr ⟨c, hk, rfl⟩
end MMG
