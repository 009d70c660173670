/-- a callee's places in the caller's world -/
def mm_sg (is : List Nat) (n k : Nat) : Nat := match is[k]? with
  | some i => i
  | none => n + (k - is.length)
def mm_bk : List Nat → mm_W → mm_W → mm_W
  | [], _, w => w
  | _ :: _, [], w => w
  | i :: is, c :: u, w => mm_bk is u (w.set i c)
def mm_back (is : List Nat) (w u : mm_W) : mm_W := mm_bk is (u.map (mm_rc (mm_sg is w.length))) w ++ (u.drop is.length).map (mm_rc (mm_sg is w.length))
theorem mm_bk_len : ∀ (is : List Nat) (u w : mm_W), (mm_bk is u w).length = w.length := by
  intro is
  induction is with
  | nil => intro u w; cases u <;> rfl
  | cons i is ih =>
    intro u w
    cases u with
    | nil => rfl
    | cons c u => rw [mm_bk, ih, List.length_set]
theorem mm_bk_get : ∀ (is : List Nat) (u w : mm_W) (k : Nat) (c : va_E), (mm_bk is u w)[k]? = some c → (∃ j : Nat, is[j]? = some k ∧ u[j]? = some c) ∨ ((∀ j : Nat, j < u.length → is[j]? ≠ some k) ∧ w[k]? = some c) := by
  intro is
  induction is with
  | nil =>
    intro u w k c h
    have h2 : w[k]? = some c := by cases u <;> exact h
    exact Or.inr ⟨fun j _ => by simp, h2⟩
  | cons i is ih =>
    intro u w k c h
    cases u with
    | nil => exact Or.inr ⟨fun j hj => absurd hj (by simp), h⟩
    | cons c0 u =>
      rw [mm_bk] at h
      rcases ih u (w.set i c0) k c h with ⟨j, h1, h2⟩ | ⟨h1, h2⟩
      · exact Or.inl ⟨j + 1, by simpa using h1, by simpa using h2⟩
      · by_cases hk : k = i
        · subst hk
          have hl : k < (w.set k c0).length := (List.getElem?_eq_some_iff.mp h2).1
          rw [List.length_set] at hl
          rw [List.getElem?_set_self hl] at h2
          cases h2
          exact Or.inl ⟨0, rfl, rfl⟩
        · rw [List.getElem?_set_ne (Ne.symm hk)] at h2
          refine Or.inr ⟨fun j hj => ?_, h2⟩
          cases j with
          | zero => simp; exact fun e => hk e.symm
          | succ j => simpa using h1 j (by simpa using hj)
theorem mm_set_same {w : mm_W} {i : Nat} {c : va_E} (h : w[i]? = some c) : w.set i c = w := by
  have hl := (List.getElem?_eq_some_iff.mp h).1
  apply List.ext_getElem?
  intro k
  by_cases hk : k = i
  · subst hk
    rw [List.getElem?_set_self hl, h]
  · rw [List.getElem?_set_ne (Ne.symm hk)]
theorem mm_bk_same : ∀ (is : List Nat) (u w : mm_W), is.map (fun i => w[i]?) = u.map some → mm_bk is u w = w := by
  intro is
  induction is with
  | nil => intro u w _; cases u <;> rfl
  | cons i is ih =>
    intro u w h
    cases u with
    | nil => rfl
    | cons c u =>
      simp only [List.map_cons, List.cons.injEq] at h
      rw [mm_bk, mm_set_same h.1]
      exact ih u w h.2
theorem mm_back_same {is : List Nat} {w u : mm_W} (h : is.map (fun i => w[i]?) = u.map (fun c => some (mm_rc (mm_sg is w.length) c))) : mm_back is w u = w := by
  have h1 : is.map (fun i => w[i]?) = (u.map (mm_rc (mm_sg is w.length))).map some := by rw [h, List.map_map]; rfl
  have h2 : is.length = u.length := by have := congrArg List.length h; simpa using this
  rw [mm_back, mm_bk_same is _ w h1, h2]
  simp
section MMC
variable {p : Program} {l : Launch} {e : Env} {R : Room} {s : State} {m : MethodId} {args : Array Value} {below : List Frame} {meth : Method} {c : Code} {H : Heap} {locs : List Loc} {Q : State → Prop}
variable {D : va_G} {ρ X aC aV : Nat → Nat} {A : Nat → Prop} {n0 kc ks mc' ms' pc : Nat} {al : Bool} {w w0 : mm_W} {ls : Array Slot} {st0 rest : List Value} {Q0 : Option Value → mm_W → Prop} {a : Array Value}
theorem mm_subAt {is : List Nat} (hsub : is.map (fun i => w[i]?) = w0.map (fun c => some (mm_rc (mm_sg is w.length) c))) : is.length = w0.length ∧ ∀ (j : Nat) (cj : va_E), w0[j]? = some cj → ∃ i, is[j]? = some i ∧ mm_sg is w.length j = i ∧ w[i]? = some (mm_rc (mm_sg is w.length) cj) := by
  refine ⟨by have := congrArg List.length hsub; simpa using this, fun j cj hj => ?_⟩
  have h1 : (is.map (fun i => w[i]?))[j]? = some (some (mm_rc (mm_sg is w.length) cj)) := by rw [hsub, List.getElem?_map, hj]; rfl
  rw [List.getElem?_map] at h1
  cases hi : is[j]? with
  | none => rw [hi] at h1; cases h1
  | some i =>
    rw [hi] at h1
    exact ⟨i, rfl, by simp [mm_sg, hi], Option.some.inj h1⟩
set_option maxHeartbeats 1000000 in
theorem mm_callW {is : List Nat} (hsub : is.map (fun i => w[i]?) = w0.map (fun c => some (mm_rc (mm_sg is w.length) c)))
    (hr : va_Run p l e R s m args below meth c H locs kc ks mc' ms' (F0 m pc ls st0) rest (mm_Qc al Q0 (fun k => ρ (mm_sg is w.length k)) X aC D w0.length H.size a) (mm_A (fun k => ρ (mm_sg is w.length k)) w0.length H.size))
    (hR : mm_Rl al n0 A s.heap H locs ρ X aC D w) (hA : ∀ q, s.heap.size ≤ q → A q)
    (kk : ∀ (v : Option Value) (u : mm_W) (H1 : Heap) (locs1 : List Loc), Q0 v u → mm_Rl al n0 A s.heap H1 locs1 ρ X aC D (mm_back is w u) → W p l e R s m args below meth c H1 locs1 (kc + mc') (ks + ms') Q (F0 m (pc + 3) ls ((v.map (mm_rv (fun k => ρ (mm_sg is w.length k)) X)).toList ++ rest))) :
    W p l e R s m args below meth c H locs kc ks Q (F0 m pc ls st0) := by
  intro T hT X1
  obtain ⟨v', st₀, t, T', Lc, h0, X', hL, e1, e2, ⟨⟨v, u, hv, hq, hPu, hal, hna⟩, hz, hk⟩, stp⟩ := hr T hT X1
  have hv : v' = v.map (mm_rv (fun k => ρ (mm_sg is w.length k)) X) := Outcome.returned.inj hv
  subst hv
  rw [h0] at hz hk
  rw [← e1] at hPu hal hz hk
  obtain ⟨r1, r2, r3, r4, r5, r6⟩ := hR
  obtain ⟨hlen, hat⟩ := mm_subAt hsub
  have hisl : ∀ (j i : Nat), is[j]? = some i → i < w.length := by
    intro j i hj
    have hjl : j < w0.length := by rw [← hlen]; exact (List.getElem?_eq_some_iff.mp hj).1
    obtain ⟨i', h1, h2, h3⟩ := hat j _ (List.getElem?_eq_getElem hjl)
    rw [hj] at h1
    cases h1
    exact (List.getElem?_eq_some_iff.mp h3).1
  have hsg : ∀ (j i : Nat), is[j]? = some i → mm_sg is w.length j = i := fun j i h => by simp [mm_sg, h]
  have hul : w0.length ≤ u.length := by
    cases hb : al with
    | true => exact (hal hb).1
    | false => exact Nat.le_of_eq (hna hb).symm
  have hAA : ∀ q, mm_A (fun k => ρ (mm_sg is w.length k)) w0.length H.size q → A q := by
    intro q hq
    rcases hq with ⟨j, hj, rfl⟩ | hq
    · have hj2 : j < is.length := by rw [hlen]; exact hj
      show A (ρ (mm_sg is w.length j))
      rw [hsg j _ (List.getElem?_eq_getElem hj2)]
      exact r3 _ (hisl j _ (List.getElem?_eq_getElem hj2))
    · exact hA q (Nat.le_trans r4.1 hq)
  have hbl : (mm_back is w u).length = w.length + (u.length - is.length) := by simp [mm_back, mm_bk_len]
  have hlt : ∀ k : Nat, k < w.length → ρ k < H.size := fun k hk => (r1 k _ (List.getElem?_eq_getElem hk)).lt
  have hnew : ∀ k : Nat, w.length ≤ k → k < (mm_back is w u).length → al = true := by
    intro k h1 h2
    cases hb : al with
    | true => rfl
    | false =>
      have := hna hb
      omega
  have main : mm_Rl al n0 A s.heap T'.heap (locs ++ Lc) ρ X aC D (mm_back is w u) := by
    refine ⟨fun k x hx => ?_, fun i j hi hj hij => ?_, fun k hk1 => ?_, ⟨Nat.le_trans r4.1 hz, fun q h1 h2 => ?_, fun q hq1 => ?_⟩, fun hb => ?_, fun hb => ?_⟩
    · by_cases hkl : k < w.length
      · have hx2 : (mm_bk is (u.map (mm_rc (mm_sg is w.length))) w)[k]? = some x := by
          rw [mm_back, List.getElem?_append_left (by rw [mm_bk_len]; exact hkl)] at hx
          exact hx
        rcases mm_bk_get _ _ _ _ _ hx2 with ⟨j, g1, g2⟩ | ⟨g1, g2⟩
        · rw [List.getElem?_map] at g2
          cases hu : u[j]? with
          | none => rw [hu] at g2; cases g2
          | some cu =>
            rw [hu] at g2
            cases g2
            have g3 := hPu j cu hu
            simp only [hsg j k g1] at g3
            rw [mm_re_rc]
            exact g3
        · refine (r1 k x g2).kept (hk _ (hlt k hkl) ?_)
          rintro (⟨j, hj, hjk⟩ | hge)
          · have hj2 : j < is.length := by rw [hlen]; exact hj
            have hjk : ρ k = ρ (mm_sg is w.length j) := hjk
            rw [hsg j _ (List.getElem?_eq_getElem hj2)] at hjk
            have := r2 _ _ hkl (hisl j _ (List.getElem?_eq_getElem hj2)) hjk
            refine g1 j (by rw [List.length_map]; omega) ?_
            rw [List.getElem?_eq_getElem hj2, ← this]
          · have := hlt k hkl
            exact absurd hge (by show ¬ H.size ≤ ρ k; omega)
      · have hk2 : k < (mm_back is w u).length := (List.getElem?_eq_some_iff.mp hx).1
        have hb := hnew k (by omega) hk2
        rw [mm_back, List.getElem?_append_right (by rw [mm_bk_len]; omega), mm_bk_len, List.getElem?_map, List.getElem?_drop] at hx
        cases hu : u[is.length + (k - w.length)]? with
        | none => rw [hu] at hx; cases hx
        | some cu =>
          rw [hu] at hx
          cases hx
          have g3 := hPu _ cu hu
          have g4 : mm_sg is w.length (is.length + (k - w.length)) = k := by
            have : is[is.length + (k - w.length)]? = none := List.getElem?_eq_none (by omega)
            simp only [mm_sg, this]
            omega
          simp only [g4] at g3
          rw [mm_re_rc]
          exact g3
    · by_cases h1 : i < w.length <;> by_cases h2 : j < w.length
      · exact r2 i j h1 h2 hij
      · have hb := hnew j (by omega) hj
        have g1 := (r5 hb).2.2 j (by omega)
        have g2 := hlt i h1
        omega
      · have hb := hnew i (by omega) hi
        have g1 := (r5 hb).2.2 i (by omega)
        have g2 := hlt j h2
        omega
      · have hb := hnew j (by omega) hj
        have g1 := (r5 hb).2.2 j (by omega)
        have g2 := (r5 hb).2.2 i (by omega)
        omega
    · by_cases h1 : k < w.length
      · exact r3 k h1
      · have hb := hnew k (by omega) hk1
        have g1 := (r5 hb).2.2 k (by omega)
        exact hA _ (by have := r4.1; omega)
    · have hq1 : q < H.size := Nat.lt_of_lt_of_le h1 r4.1
      rw [hk q hq1 (fun z => h2 (hAA q z))]
      exact r4.2.1 q h1 h2
    · rcases List.mem_append.mp hq1 with h | h
      · exact r4.2.2 q h
      · exact hAA _ (hL q h)
    · obtain ⟨g1, g2, g3⟩ := r5 hb
      obtain ⟨g4, g5⟩ := hal hb
      refine ⟨by omega, by omega, fun k hk1 => ?_⟩
      rw [g3 k (by omega)]
      omega
    · have g1 := r6 hb
      have g2 := hna hb
      omega
  obtain ⟨t2, a1, b1⟩ := kk v u T'.heap (locs ++ Lc) hq main T' rfl X'
  exact ⟨t2, stp t2 a1, b1⟩
end MMC
def mm_Yk (y : MethodName) (M' : mm_M) (n : Nat) : Prop := Cond.code y M'.2.1 M'.2.2.1 M'.2.2.2.2 ∈ mm_tb ∧ Cond.initialized y.cls ∈ mm_tb ∧ (y.cls ≠ "java/lang/invoke/MethodHandle" ∧ y.cls ≠ "java/lang/invoke/VarHandle" ∧ (parseMethodDescriptor y.desc).map (fun d => d.parameters.length) = some n) ∧ M'.2.2.1 ≤ 15
section MMD
variable {d : Nat} {M : mm_M} {scr : Option (Nat × (Nat → Int32))} {mc ms : Nat} {ah al : Bool} {Qf : Option Value → mm_W → Prop} {kc ks pc : Nat} {L : List (Option Value)} {st : List Value} {w : mm_W}
variable {idx n : Nat} {y : MethodName} {M' : mm_M} {As0 : List Value} {r0 : Nat} {w0 : mm_W} {mc' ms' : Nat} {Q0 : Option Value → mm_W → Prop} {rest : List Value}
theorem mm_pre {p : Program} {l : Launch} {e : Env} {R : Room} {s : State} {m : MethodId} {args : Array Value} {below : List Frame} {meth : Method} {c : Code} {Q : State → Prop} {D : va_G} {ρ X aC aV : Nat → Nat} {A : Nat → Prop} {n0 : Nat} {H : Heap} {locs : List Loc} {is : List Nat}
    (hC : mm_Cx d M scr mc ms ah Qf l p e R s m args below meth c Q D ρ X aC aV A n0) (hR : mm_Rl al n0 A s.heap H locs ρ X aC D w) (hsub : is.map (fun i => w[i]?) = w0.map (fun c => some (mm_rc (mm_sg is w.length) c))) (Bs : List Value) :
    ∀ U : State, U.heap = H → s.WarmedH U.vm → mm_Pc (fun k => ρ (mm_sg is w.length k)) X aC aV D Bs w0 H.size ((Bs.map (mm_rv (fun k => ρ (mm_sg is w.length k)) X)).toArray) U := by
  intro U hU hW
  obtain ⟨hx, hb, hml, hown, hts, hini, hK, hA, hEv, hsc, hrm, hret⟩ := hC
  obtain ⟨r1, r2, r3, r4, r5, r6⟩ := hR
  obtain ⟨hlen, hat⟩ := mm_subAt hsub
  refine ⟨rfl, by rw [hU], fun k ck hk => ?_, va_K.moved hW.alike hK, ?_⟩
  · obtain ⟨i, h1, h2, h3⟩ := hat k ck hk
    have := r1 i _ h3
    rw [mm_re_rc] at this
    show va_at D vwCl (ρ (mm_sg is w.length k), _) U.heap
    rw [h2, hU]
    exact this
  · rw [hU]
    refine ((hEv.kept r4.2.1).narrow ?_).warm hW
    intro q hq
    rcases hq with ⟨j, hj, rfl⟩ | hq
    · obtain ⟨i, h1, h2, h3⟩ := hat j _ (List.getElem?_eq_getElem hj)
      show A (ρ (mm_sg is w.length j))
      rw [h2]
      exact r3 i (List.getElem?_eq_some_iff.mp h3).1
    · exact hA q (Nat.le_trans r4.1 hq)
theorem mm_inj {A : Nat → Prop} {H0 H : Heap} {locs : List Loc} {ρ X aC : Nat → Nat} {D : va_G} {n0 : Nat} {is : List Nat} (hR : mm_Rl al n0 A H0 H locs ρ X aC D w) (hnd : va_nd is = true) (hsub : is.map (fun i => w[i]?) = w0.map (fun c => some (mm_rc (mm_sg is w.length) c))) :
    (al = true → ∀ k : Nat, w0.length ≤ k → ρ (mm_sg is w.length k) = H.size + (k - w0.length)) ∧ (∀ i j : Nat, i < w0.length → j < w0.length → ρ (mm_sg is w.length i) = ρ (mm_sg is w.length j) → i = j) := by
  obtain ⟨hlen, hat⟩ := mm_subAt hsub
  refine ⟨fun hb k hk => ?_, fun i j hi hj hij => ?_⟩
  · have : is[k]? = none := List.getElem?_eq_none (by omega)
    simp only [mm_sg, this]
    rw [(hR.2.2.2.2.1 hb).2.2 _ (by omega)]
    omega
  · obtain ⟨i', a1, a2, a3⟩ := hat i _ (List.getElem?_eq_getElem hi)
    obtain ⟨j', b1, b2, b3⟩ := hat j _ (List.getElem?_eq_getElem hj)
    rw [a2, b2] at hij
    have := hR.2.1 _ _ (List.getElem?_eq_some_iff.mp a3).1 (List.getElem?_eq_some_iff.mp b3).1 hij
    subst this
    exact va_nd_inj is hnd i j i' a1 b1
theorem mm_mapsg {ρ X σ : Nat → Nat} (Bs : List Value) : Bs.map (mm_rv (fun k => ρ (σ k)) X) = (Bs.map (mm_rn σ)).map (mm_rv ρ X) := by
  rw [List.map_map]
  congr 1
  funext v
  exact (mm_rv_rn ρ X σ v).symm
theorem mm_catsum {ρ X : Nat → Nat} (vs : List Value) : ((vs.map (mm_rv ρ X)).map fun v => v.category) = vs.map fun v => v.category := by
  rw [List.map_map]
  congr 1
  funext v
  exact mm_rv_cat ρ X v
theorem mm_retv {ρ X σ : Nat → Nat} (v : Option Value) (rest : List Value) : (v.map (mm_rv (fun k => ρ (σ k)) X)).toList ++ rest.map (mm_rv ρ X) = ((v.map (mm_rn σ)).toList ++ rest).map (mm_rv ρ X) := by
  cases v with
  | none => rfl
  | some v => simp [mm_rv_rn]
def mm_LkV (own : String) (idx : Nat) (y : MethodName) : Prop := (Cond.methodLink own idx y ∈ mm_tb ∨ ∃ host, (own, idx, y, host) ∈ mm_nl) ∧ Cond.instanceMethod y ∈ mm_tb ∧ Cond.selects y.cls y y ∈ mm_tb
def mm_LkS (own : String) (idx : Nat) (y : MethodName) : Prop := (Cond.methodLink own idx y ∈ mm_tb ∨ ∃ host, (own, idx, y, host) ∈ mm_nl) ∧ Cond.static y ∈ mm_tb
def mm_LkI (own : String) (idx : Nat) (y : MethodName) : Prop := (Cond.methodLink own idx y ∈ mm_tb ∨ ∃ host, (own, idx, y, host) ∈ mm_nl) ∧ Cond.instanceMethod y ∈ mm_tb ∧ y.name = "<init>"
set_option maxHeartbeats 1000000 in
theorem r_callV (is : List Nat) (pc' : Nat) (h : decode M.2.1 pc = .ok (.invokevirtual idx, 3)) (hp : pc + 3 = pc') (hy : mm_Yk y M' n) (hlk : mm_LkV M.1 idx y) (hE : mm_E al d y M' (.ref r0 :: As0) w0 mc' ms' Q0) (hn : As0.length = n) (hnd : va_nd is = true) (hsub : is.map (fun i => w[i]?) = w0.map (fun c => some (mm_rc (mm_sg is w.length) c))) {ci : Nat} {fs : List Value} {T : u_T} {N : Nat} (hrc : w0[r0]? = some (.inr (ci, fs))) (hcl : vwCl[ci]? = some (y.cls, T, N))
    (hst : st = (As0.map (mm_rn (mm_sg is w.length))).reverse ++ .ref (mm_sg is w.length r0) :: rest) (hcat : (rest.map fun v => v.category).sum ≤ 8) (hc : kc + mc' ≤ mc) (hk : ks + ms' ≤ ms) (kk : ∀ v u, Q0 v u → mm_R (d + 1) M scr mc ms ah al Qf (kc + mc') (ks + ms') pc' L ((v.map (mm_rn (mm_sg is w.length))).toList ++ rest) (mm_back is w u)) : mm_R (d + 1) M scr mc ms ah al Qf kc ks pc L st w := by
  subst hp
  subst hst
  intro l p e R s m args below meth c Q D ρ X aC aV A n0 hC H locs ls hR hL
  obtain ⟨hx, hb, hml, hown, hts, hini, hK, hA, hEv, hsc, ⟨hr1, hr2, hr3, hr4⟩, hret⟩ := id hC
  obtain ⟨y1, y2, y3, y4⟩ := hy
  obtain ⟨i1, i2⟩ := mm_inj hR hnd hsub
  have hM := hE l D (fun k => ρ (mm_sg is w.length k)) X aC aV H.size i1 i2
  obtain ⟨hlen, hat⟩ := mm_subAt hsub
  have hpre : PreV s H y.cls (ρ (mm_sg is w.length r0)) (mm_Pc (fun k => ρ (mm_sg is w.length k)) X aC aV D (.ref r0 :: As0) w0 H.size) (As0.map (mm_rv (fun k => ρ (mm_sg is w.length k)) X)) := by
    refine ⟨mm_blind _ _ _ _ _ _ _ _, ?_, mm_pre hC hR hsub (.ref r0 :: As0)⟩
    obtain ⟨i, h1, h2, h3⟩ := hat r0 _ hrc
    have := hR.1 i _ h3
    rw [mm_re_rc] at this
    rw [h2]
    exact va_recv hK (mm_P1 this) hcl (q0 := 0) rfl
  have hrun : va_Run p l e R s m args below meth c H locs kc ks mc' ms' (F0 m pc ls (((As0.map (mm_rn (mm_sg is w.length))).reverse ++ .ref (mm_sg is w.length r0) :: rest).map (mm_rv ρ X))) (rest.map (mm_rv ρ X)) (mm_Qc al Q0 (fun k => ρ (mm_sg is w.length k)) X aC D w0.length H.size (Value.ref (ρ (mm_sg is w.length r0)) :: As0.map (mm_rv (fun k => ρ (mm_sg is w.length k)) X)).toArray) (mm_A (fun k => ρ (mm_sg is w.length k)) w0.length H.size) := by
    have hstk : ((As0.map (mm_rn (mm_sg is w.length))).reverse ++ .ref (mm_sg is w.length r0) :: rest).map (mm_rv ρ X) = (As0.map (mm_rv (fun k => ρ (mm_sg is w.length k)) X)).reverse ++ .ref (ρ (mm_sg is w.length r0)) :: rest.map (mm_rv ρ X) := by
      rw [mm_mapsg (ρ := ρ) (X := X) (σ := mm_sg is w.length) As0, List.map_append, List.map_reverse]
      rfl
    rcases hlk with ⟨hl | ⟨host, hl⟩, k1, k2⟩
    · exact va_runV (Ts := mm_tb) ⟨hx, hb, hml, hown, hts⟩ hM ⟨callB_of n hts (mm_goodIn y1) rfl rfl rfl (hts _ y2) (hts _ hl) y3 ⟨hr1, by show 8 + (M'.2.2.1 + 11) + 34 * d ≤ R.locals; omega⟩, hts _ k1, hts _ k2⟩ hpre rfl (by rw [List.length_map]; exact hn) hL.1 hstk (lv_room (by rw [mm_catsum]; exact hcat)) h ⟨by omega, by omega⟩
    · exact va_runVN (Ts := mm_tb) (host := host) ⟨hx, hb, hml, hown, hts⟩ hM ⟨va_cnB n hts (mm_goodIn y1) rfl rfl rfl (hEv.1 _ hl) (hts _ y2) y3 ⟨hr1, by show 8 + (M'.2.2.1 + 11) + 34 * d ≤ R.locals; omega⟩, hts _ k1, hts _ k2⟩ hpre rfl (by rw [List.length_map]; exact hn) hL.1 hstk (lv_room (by rw [mm_catsum]; exact hcat)) h ⟨by omega, by omega⟩
  refine mm_callW hsub hrun hR hA (fun v u H1 locs1 hq hR1 => ?_)
  rw [mm_retv]
  exact kk v u hq l p e R s m args below meth c Q D ρ X aC aV A n0 hC H1 locs1 ls hR1 hL
set_option maxHeartbeats 1000000 in
theorem r_callS (is : List Nat) (pc' : Nat) (h : decode M.2.1 pc = .ok (.invokestatic idx, 3)) (hp : pc + 3 = pc') (hy : mm_Yk y M' n) (hlk : mm_LkS M.1 idx y) (hE : mm_E al d y M' As0 w0 mc' ms' Q0) (hn : As0.length = n) (hnd : va_nd is = true) (hsub : is.map (fun i => w[i]?) = w0.map (fun c => some (mm_rc (mm_sg is w.length) c)))
    (hst : st = (As0.map (mm_rn (mm_sg is w.length))).reverse ++ rest) (hcat : (rest.map fun v => v.category).sum ≤ 8) (hc : kc + mc' ≤ mc) (hk : ks + ms' ≤ ms) (kk : ∀ v u, Q0 v u → mm_R (d + 1) M scr mc ms ah al Qf (kc + mc') (ks + ms') pc' L ((v.map (mm_rn (mm_sg is w.length))).toList ++ rest) (mm_back is w u)) : mm_R (d + 1) M scr mc ms ah al Qf kc ks pc L st w := by
  subst hp
  subst hst
  intro l p e R s m args below meth c Q D ρ X aC aV A n0 hC H locs ls hR hL
  obtain ⟨hx, hb, hml, hown, hts, hini, hK, hA, hEv, hsc, ⟨hr1, hr2, hr3, hr4⟩, hret⟩ := id hC
  obtain ⟨y1, y2, y3, y4⟩ := hy
  obtain ⟨i1, i2⟩ := mm_inj hR hnd hsub
  have hM := hE l D (fun k => ρ (mm_sg is w.length k)) X aC aV H.size i1 i2
  have hpre : PreS s H (mm_Pc (fun k => ρ (mm_sg is w.length k)) X aC aV D As0 w0 H.size) (As0.map (mm_rv (fun k => ρ (mm_sg is w.length k)) X)) := ⟨mm_blind _ _ _ _ _ _ _ _, mm_pre hC hR hsub As0⟩
  have hrun : va_Run p l e R s m args below meth c H locs kc ks mc' ms' (F0 m pc ls (((As0.map (mm_rn (mm_sg is w.length))).reverse ++ rest).map (mm_rv ρ X))) (rest.map (mm_rv ρ X)) (mm_Qc al Q0 (fun k => ρ (mm_sg is w.length k)) X aC D w0.length H.size (As0.map (mm_rv (fun k => ρ (mm_sg is w.length k)) X)).toArray) (mm_A (fun k => ρ (mm_sg is w.length k)) w0.length H.size) := by
    have hstk : ((As0.map (mm_rn (mm_sg is w.length))).reverse ++ rest).map (mm_rv ρ X) = (As0.map (mm_rv (fun k => ρ (mm_sg is w.length k)) X)).reverse ++ rest.map (mm_rv ρ X) := by
      rw [mm_mapsg (ρ := ρ) (X := X) (σ := mm_sg is w.length) As0, List.map_append, List.map_reverse]
    rcases hlk with ⟨hl | ⟨host, hl⟩, k1⟩
    · exact va_runS (Ts := mm_tb) ⟨hx, hb, hml, hown, hts⟩ hM ⟨callB_of n hts (mm_goodIn y1) rfl rfl rfl (hts _ y2) (hts _ hl) y3 ⟨hr1, by show 8 + (M'.2.2.1 + 11) + 34 * d ≤ R.locals; omega⟩, hts _ k1⟩ hpre rfl (by rw [List.length_map]; exact hn) hL.1 hstk (lv_room (by rw [mm_catsum]; exact hcat)) h ⟨by omega, by omega⟩
    · exact va_runSN (Ts := mm_tb) (host := host) ⟨hx, hb, hml, hown, hts⟩ hM ⟨va_cnB n hts (mm_goodIn y1) rfl rfl rfl (hEv.1 _ hl) (hts _ y2) y3 ⟨hr1, by show 8 + (M'.2.2.1 + 11) + 34 * d ≤ R.locals; omega⟩, hts _ k1, trivial⟩ hpre rfl (by rw [List.length_map]; exact hn) hL.1 hstk (lv_room (by rw [mm_catsum]; exact hcat)) h ⟨by omega, by omega⟩
  refine mm_callW hsub hrun hR hA (fun v u H1 locs1 hq hR1 => ?_)
  rw [mm_retv]
  exact kk v u hq l p e R s m args below meth c Q D ρ X aC aV A n0 hC H1 locs1 ls hR1 hL
set_option maxHeartbeats 1000000 in
theorem r_callI (is : List Nat) (pc' : Nat) (h : decode M.2.1 pc = .ok (.invokespecial idx, 3)) (hp : pc + 3 = pc') (hy : mm_Yk y M' n) (hlk : mm_LkI M.1 idx y) (hrt : M'.2.2.2.2 = none) (hE : mm_E al d y M' (.ref r0 :: As0) w0 mc' ms' Q0) (hn : As0.length = n) (hnd : va_nd is = true) (hsub : is.map (fun i => w[i]?) = w0.map (fun c => some (mm_rc (mm_sg is w.length) c)))
    (hst : st = (As0.map (mm_rn (mm_sg is w.length))).reverse ++ .ref (mm_sg is w.length r0) :: rest) (hcat : (rest.map fun v => v.category).sum ≤ 8) (hc : kc + mc' ≤ mc) (hk : ks + ms' ≤ ms) (kk : ∀ v u, Q0 v u → mm_R (d + 1) M scr mc ms ah al Qf (kc + mc') (ks + ms') pc' L ((v.map (mm_rn (mm_sg is w.length))).toList ++ rest) (mm_back is w u)) : mm_R (d + 1) M scr mc ms ah al Qf kc ks pc L st w := by
  subst hp
  subst hst
  intro l p e R s m args below meth c Q D ρ X aC aV A n0 hC H locs ls hR hL
  obtain ⟨hx, hb, hml, hown, hts, hini, hK, hA, hEv, hsc, ⟨hr1, hr2, hr3, hr4⟩, hret⟩ := id hC
  obtain ⟨y1, y2, y3, y4⟩ := hy
  obtain ⟨i1, i2⟩ := mm_inj hR hnd hsub
  have hM := hE l D (fun k => ρ (mm_sg is w.length k)) X aC aV H.size i1 i2
  rw [hrt] at hM y1
  have hpre : PreS s H (mm_Pc (fun k => ρ (mm_sg is w.length k)) X aC aV D (.ref r0 :: As0) w0 H.size) (.ref (ρ (mm_sg is w.length r0)) :: As0.map (mm_rv (fun k => ρ (mm_sg is w.length k)) X)) := ⟨mm_blind _ _ _ _ _ _ _ _, mm_pre hC hR hsub (.ref r0 :: As0)⟩
  have hrun : va_Run p l e R s m args below meth c H locs kc ks mc' ms' (F0 m pc ls (((As0.map (mm_rn (mm_sg is w.length))).reverse ++ .ref (mm_sg is w.length r0) :: rest).map (mm_rv ρ X))) (rest.map (mm_rv ρ X)) (mm_Qc al Q0 (fun k => ρ (mm_sg is w.length k)) X aC D w0.length H.size (Value.ref (ρ (mm_sg is w.length r0)) :: As0.map (mm_rv (fun k => ρ (mm_sg is w.length k)) X)).toArray) (mm_A (fun k => ρ (mm_sg is w.length k)) w0.length H.size) := by
    have hstk : ((As0.map (mm_rn (mm_sg is w.length))).reverse ++ .ref (mm_sg is w.length r0) :: rest).map (mm_rv ρ X) = (As0.map (mm_rv (fun k => ρ (mm_sg is w.length k)) X)).reverse ++ .ref (ρ (mm_sg is w.length r0)) :: rest.map (mm_rv ρ X) := by
      rw [mm_mapsg (ρ := ρ) (X := X) (σ := mm_sg is w.length) As0, List.map_append, List.map_reverse]
      rfl
    rcases hlk with ⟨hl | ⟨host, hl⟩, k1, k2⟩
    · exact va_runI (Ts := mm_tb) ⟨hx, hb, hml, hown, hts⟩ hM ⟨callB_of n hts (mm_goodIn y1) rfl rfl rfl (hts _ y2) (hts _ hl) y3 ⟨hr1, by show 8 + (M'.2.2.1 + 11) + 34 * d ≤ R.locals; omega⟩, k2, hts _ k1⟩ hpre rfl (by rw [List.length_map]; exact hn) hL.1 hstk (lv_room (by rw [mm_catsum]; exact hcat)) h ⟨by omega, by omega⟩
    · exact va_runIN (Ts := mm_tb) (host := host) ⟨hx, hb, hml, hown, hts⟩ hM ⟨va_cnB n hts (mm_goodIn y1) rfl rfl rfl (hEv.1 _ hl) (hts _ y2) y3 ⟨hr1, by show 8 + (M'.2.2.1 + 11) + 34 * d ≤ R.locals; omega⟩, k2, hts _ k1⟩ hpre rfl (by rw [List.length_map]; exact hn) hL.1 hstk (lv_room (by rw [mm_catsum]; exact hcat)) h ⟨by omega, by omega⟩
  refine mm_callW hsub hrun hR hA (fun v u H1 locs1 hq hR1 => ?_)
  rw [mm_retv]
  exact kk v u hq l p e R s m args below meth c Q D ρ X aC aV A n0 hC H1 locs1 ls hR1 hL
end MMD
