-- calls on the whole world
theorem mm_sgr (n : Nat) : mm_sg (List.range n) n = fun k => k := by
  funext k
  by_cases h : k < n
  · have : (List.range n)[k]? = some k := by rw [List.getElem?_range h]
    simp only [mm_sg, this]
  · have : (List.range n)[k]? = none := List.getElem?_eq_none (by rw [List.length_range]; omega)
    simp only [mm_sg, this, List.length_range]
    omega
theorem mm_rn_id (v : Value) : mm_rn (fun k => k) v = v := by cases v <;> rfl
theorem mm_ra_id (a : vp_A) : mm_ra (fun k => k) a = a := by
  obtain ⟨n, f | f | f | f | f⟩ := a
  · rfl
  · rfl
  · rfl
  · rfl
  · simp only [mm_ra]
    congr 5
    funext j
    cases f j <;> rfl
theorem mm_rc_id (e : va_E) : mm_rc (fun k => k) e = e := by
  obtain ⟨t, a⟩ | ⟨ci, fs⟩ := e
  · simp only [mm_rc, mm_ra_id]
  · simp only [mm_rc]
    congr 2
    rw [show (mm_rn fun k => k) = id from funext mm_rn_id, List.map_id]
theorem mm_bk_shift : ∀ (n : Nat) (pre u w : mm_W), u.length = n → w.length = n → mm_bk ((List.range n).map (fun k => pre.length + k)) u (pre ++ w) = pre ++ u := by
  intro n
  induction n with
  | zero => intro pre u w hu hw; rw [List.length_eq_zero_iff.mp hu, List.length_eq_zero_iff.mp hw]; rfl
  | succ n ih =>
    intro pre u w hu hw
    cases u with
    | nil => simp at hu
    | cons c u =>
      cases w with
      | nil => simp at hw
      | cons b w =>
        rw [List.range_succ_eq_map, List.map_cons, mm_bk]
        have e1 : (pre ++ b :: w).set (pre.length + 0) c = (pre ++ [c]) ++ w := by simp
        rw [e1, List.map_map]
        have := ih (pre ++ [c]) u w (by simpa using hu) (by simpa using hw)
        rw [show ((fun k => pre.length + k) ∘ Nat.succ) = (fun k => (pre ++ [c]).length + k) from by funext k; simp; omega, this]
        simp
theorem mm_back_range {w u : mm_W} (h : u.length = w.length) : mm_back (List.range w.length) w u = u := by
  have e := mm_bk_shift w.length [] u w h rfl
  simp only [List.nil_append, List.length_nil, Nat.zero_add, List.map_id'] at e
  rw [mm_back, mm_sgr, show (mm_rc fun k => k) = id from funext mm_rc_id, List.map_id, List.length_range, e, ← h, List.drop_length]
  simp
section MMS
variable {d : Nat} {M : mm_M} {scr : Option (Nat × (Nat → Int32))} {mc ms : Nat} {ah : Bool} {Qf : Option Value → mm_W → Prop} {kc ks pc : Nat} {L : List (Option Value)} {st : List Value} {w : mm_W}
variable {idx n : Nat} {y : MethodName} {M' : mm_M} {As0 : List Value} {r0 : Nat} {rest : List Value} {ci : Nat} {fs : List Value} {T : u_T} {N : Nat} {Q0 : Option Value → mm_W → Prop}
theorem r_callVw (pc' : Nat) (h : decode M.2.1 pc = .ok (.invokevirtual idx, 3)) (hp : pc + 3 = pc') (hy : mm_Yk y M' n) (hlk : mm_LkV M.1 idx y) (hE : mm_e d y M' (.ref r0 :: As0) w Q0) (hn : As0.length = n) (hnd : va_nd (List.range w.length) = true) (hrc : w[r0]? = some (.inr (ci, fs))) (hcl : vwCl[ci]? = some (y.cls, T, N)) (hst : st = As0.reverse ++ .ref r0 :: rest) (hcat : Nat.ble (rest.map fun v => v.category).sum 8 = true) (hm : kc ≤ mc ∧ ks ≤ ms) (hl : ∀ v u, Q0 v u → u.length = w.length) (kk : ∀ v u, Q0 v u → mm_R (d + 1) M scr mc ms ah false Qf kc ks pc' L (v.toList ++ rest) u) : mm_R (d + 1) M scr mc ms ah false Qf kc ks pc L st w := by
  refine r_callV (List.range w.length) pc' h hp hy hlk hE hn hnd ?_ hrc hcl ?_ (Nat.le_of_ble_eq_true hcat) hm.1 hm.2 (fun v u hq => ?_)
  · rw [mm_sgr]
    apply List.ext_getElem?
    intro k
    rw [List.getElem?_map, List.getElem?_map]
    by_cases hk : k < w.length
    · rw [List.getElem?_range hk, List.getElem?_eq_getElem hk]
      simp [mm_rc_id]
    · rw [List.getElem?_eq_none (by rw [List.length_range]; omega), List.getElem?_eq_none (by omega)]
      rfl
  · rw [mm_sgr, show (mm_rn fun k => k) = id from funext mm_rn_id, List.map_id]
    exact hst
  · rw [mm_sgr, show (mm_rn fun k => k) = id from funext mm_rn_id, Option.map_id, mm_back_range (hl v u hq)]
    exact kk v u hq
end MMS
