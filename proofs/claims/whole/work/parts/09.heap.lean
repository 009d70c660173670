theorem mm_Rl.upd {al : Bool} {n0 : Nat} {A : Nat → Prop} {H0 H H1 : Heap} {locs : List Loc} {ρ X aC : Nat → Nat} {D : va_G} {w : mm_W} {i : Nat} {c c' : va_E} (hR : mm_Rl al n0 A H0 H locs ρ X aC D w) (hw : w[i]? = some c) (he : va_at D vwCl (ρ i, mm_re ρ X aC c') H1) (z : H1.size = H.size) (oq : ∀ q : Nat, q ≠ ρ i → H1[q]? = H[q]?) (k : Nat) :
    mm_Rl al n0 A H0 H1 (locs ++ [⟨ρ i, k⟩]) ρ X aC D (w.set i c') := by
  obtain ⟨r1, r2, r3, r4, r5, r6⟩ := hR
  have hi : i < w.length := (List.getElem?_eq_some_iff.mp hw).1
  refine ⟨fun j x hj => ?_, by rw [List.length_set]; exact r2, by rw [List.length_set]; exact r3, r4.put z oq (r3 i hi), ?_, ?_⟩
  · by_cases hji : j = i
    · subst hji
      rw [List.getElem?_set_self hi] at hj
      cases hj
      exact he
    · rw [List.getElem?_set_ne (Ne.symm hji)] at hj
      have hjl : j < w.length := (List.getElem?_eq_some_iff.mp hj).1
      exact (r1 j x hj).kept (oq _ (fun e => hji (r2 j i hjl hi e)))
  · intro ha
    rw [List.length_set, z]
    exact r5 ha
  · intro ha
    rw [List.length_set]
    exact r6 ha
theorem mm_P1 {D : va_G} {a : Nat} {e : va_E} {H : Heap} (h : va_at D vwCl (a, e) H) : va_P D vwCl [(a, e)] H := by
  intro k q hk
  cases k with
  | zero => cases hk; exact h
  | succ k => simp at hk
def mm_FL (own : String) (idx ci k : Nat) (fin : Bool) (ty : FieldType) : Prop := ∃ (C : String) (T : u_T) (N : Nat) (ty0 : Nat → FieldType), vwCl[ci]? = some (C, T, N) ∧ (∀ x ∈ u_ws C T N, x ∈ mm_tb) ∧ k < N ∧ Cond.fieldLink own idx (T k).1 (T k).2.1 (T k).2.2.1 ∈ mm_tb ∧ (T k).2.2.2 = fin ∧ (∀ j, j < N → parseFieldDescriptor (T j).2.2.1 = some (ty0 j)) ∧ ty0 k = ty ∧ (∀ a, a < N → ∀ b, b < N → a ≠ b → (T a).2.1 ≠ (T b).2.1) ∧ (T k).1 = C
section MMH
variable {d : Nat} {M : mm_M} {scr : Option (Nat × (Nat → Int32))} {mc ms : Nat} {ah al : Bool} {Qf : Option Value → mm_W → Prop} {kc ks pc : Nat} {L : List (Option Value)} {st : List Value} {w : mm_W}
theorem r_getf {idx ci k i : Nat} {fin : Bool} {ty : FieldType} {fs : List Value} {v : Value} (pc' : Nat) (h : decode M.2.1 pc = .ok (.getfield idx, 3)) (hp : pc + 3 = pc') (hF : mm_FL M.1 idx ci k fin ty) (hw : w[i]? = some (.inr (ci, fs))) (hv : fs[k]? = some v) (kk : mm_R d M scr mc ms ah al Qf kc ks pc' L (v :: st) w) : mm_R d M scr mc ms ah al Qf kc ks pc L (.ref i :: st) w := by
  subst hp
  intro l p e R s m args below meth c Q D ρ X aC aV A n0 hC H locs ls hR hL
  obtain ⟨C, T, N, ty0, f1, f2, f3, f4, f5, f6, f7, f8, f9⟩ := hF
  exact va_get (own := M.1) (C := C) (T := T) (N := N) (ci := ci) (Ts := mm_tb) hC.1 hC.2.1 hC.2.2.2.2.1 f2 hC.2.2.2.1 hC.2.2.2.2.2.2.1 (mm_P1 (hR.1 i _ hw)) 0 (fs := fs.map (mm_rv ρ X)) rfl f1 k f3 (hC.2.2.2.2.1 _ f4) (fun _ z => z) (v := mm_rv ρ X v) (by rw [List.getElem?_map, hv]; rfl) h (kk l p e R s m args below meth c Q D ρ X aC aV A n0 hC H locs ls hR hL)
set_option maxHeartbeats 1000000 in
theorem r_putf {idx ci k i : Nat} {fin : Bool} {ty : FieldType} {fs : List Value} {v : Value} (pc' : Nat) (h : decode M.2.1 pc = .ok (.putfield idx, 3)) (hp : pc + 3 = pc') (hF : mm_FL M.1 idx ci k fin ty) (hw : w[i]? = some (.inr (ci, fs))) (hl : Nat.ble (k + 1) fs.length = true) (hv : ∀ ρ X : Nat → Nat, narrow ty (mm_rv ρ X v) = mm_rv ρ X v ∧ fits ty (mm_rv ρ X v) = true) (hfin : fin = true → M.2.2.2.1 = true ∧ (vwCl[ci]?).map (fun q => q.1) = some M.1) (kk : mm_R d M scr mc ms ah al Qf kc ks pc' L st (w.set i (.inr (ci, fs.set k v)))) : mm_R d M scr mc ms ah al Qf kc ks pc L (v :: .ref i :: st) w := by
  subst hp
  intro l p e R s m args below meth c Q D ρ X aC aV A n0 hC H locs ls hR hL
  obtain ⟨C, T, N, ty0, f1, f2, f3, f4, f5, f6, f7, f8, f9⟩ := hF
  obtain ⟨hx, hb, hml, hown, hts, hini, hK, -⟩ := id hC
  have hd : parseFieldDescriptor (T k).2.2.1 = some ty := by rw [← f7]; exact f6 k f3
  have hap := va_apart (own := M.1) hts f2 ty0 f6 f8 hK f1
  obtain ⟨r, h1, cell, q1, q2, q3, q4⟩ := hR.1 i _ hw
  have hr : r = (C, T, N) := Option.some.inj (h1.symm.trans f1)
  subst hr
  obtain ⟨hS, hfc, kC, hkC, hkind⟩ := hK.1 ci _ f1
  obtain ⟨cf, kf, fi, f, hi, hsl⟩ := hS k f3
  have hlay := hts _ (f2 _ (u_in_lay f3))
  unfold u_lay at hlay
  have hst := (u_facts hfc hkC (u_lays hts f2 f3) hi).1
  have fin' : ∀ (H' : Heap), H'[ρ i]? = some (cell.setSlot f.slot (mm_rv ρ X v)) → H'.size = H.size → (∀ q, q ≠ ρ i → H'[q]? = H[q]?) → W p l e R s m args below meth c H' (locs ++ [⟨ρ i, f.slot⟩]) kc ks Q (F0 m (pc + 3) ls (st.map (mm_rv ρ X))) := by
    intro H' e1 e2 e3
    refine kk l p e R s m args below meth c Q D ρ X aC aV A n0 hC H' _ ls (hR.upd hw ?_ e2 e3 f.slot) hL
    show ∃ r : vw_C, vwCl[ci]? = some r ∧ t_OB (ρ i) (D.1 ci) r.2.2 (D.2 ci) H' (vp_V ((fs.set k v).map (mm_rv ρ X)))
    rw [hsl] at e1
    refine ⟨_, f1, ?_⟩
    rw [List.map_set]
    exact t_OB.to (V := updV (vp_V (fs.map (mm_rv ρ X))) k (mm_rv ρ X v)) ⟨_, e1, q2, q3, t_set q4 hap f3 _⟩ (fun j _ => vp_updV_set (by rw [List.length_map]; exact Nat.le_of_ble_eq_true hl) _ j)
  cases hfn : fin with
  | false =>
    rw [if_neg (by rw [f5, hfn]; decide)] at hlay
    have h6 := u_store hfc hkC hkind hlay hi hd (hv ρ X).1 (hv ρ X).2
    exact W.putK hx hb (f := f) ⟨hown, hts _ f4, ⟨_, _, _, hi⟩, hst⟩ (by rw [q2]; exact h6) q1 q3 (by rw [hsl]; exact k2_hasslot (q4 k f3)) rfl rfl h fin'
  | true =>
    rw [if_pos (by rw [f5, hfn])] at hlay
    have hcf : m.cls = cf := by
      obtain ⟨_, _, c', _, _, _, -, -, hf', -, -, -, hown2, -⟩ := Cond.laysFinal_spec hlay
      have e1 : c' = cf := by have := hi.symm.trans hf'; simp at this; exact this.1.symm
      have hCM : C = M.1 := by have := (hfin hfn).2; rw [f1] at this; exact Option.some.inj this
      rw [f9, hCM] at hown2
      rw [← e1]; exact Option.some.inj (hown.symm.trans hown2)
    have h6 := u_fits hfc hkC hkind (Or.inr hlay) hi hd (hv ρ X).1 (hv ρ X).2
    exact W.putFinK hx hb hown (hts _ f4) hi hst hcf (hini (hfin hfn).1) (by rw [q2]; exact h6) q1 q3 (by rw [hsl]; exact k2_hasslot (q4 k f3)) rfl rfl h fin'
theorem r_iald {i n : Nat} {f : Nat → Int32} {x : Int32} (pc' : Nat) (h : decode M.2.1 pc = .ok (.iaload, 1)) (hp : pc + 1 = pc') (hw : w[i]? = some (.inl (0, (n, .inl f)))) (hin : vp_in x n) (kk : mm_R d M scr mc ms ah al Qf kc ks pc' L (.int (f x.toNatClampNeg) :: st) w) : mm_R d M scr mc ms ah al Qf kc ks pc L (.int x :: .ref i :: st) w := by
  subst hp
  intro l p e R s m args below meth c Q D ρ X aC aV A n0 hC H locs ls hR hL
  exact va_iald hC.1 hC.2.1 hC.2.2.2.2.2.2.1 (mm_P1 (hR.1 i _ hw)) 0 0 (n := n) (f := f) rfl rfl hin h (kk l p e R s m args below meth c Q D ρ X aC aV A n0 hC H locs ls hR hL)
theorem r_bald {i n : Nat} {f : Nat → Int32} {x : Int32} (pc' : Nat) (h : decode M.2.1 pc = .ok (.baload, 1)) (hp : pc + 1 = pc') (hw : w[i]? = some (.inl (1, (n, .inl f)))) (hin : vp_in x n) (kk : mm_R d M scr mc ms ah al Qf kc ks pc' L (.int (f x.toNatClampNeg) :: st) w) : mm_R d M scr mc ms ah al Qf kc ks pc L (.int x :: .ref i :: st) w := by
  subst hp
  intro l p e R s m args below meth c Q D ρ X aC aV A n0 hC H locs ls hR hL
  exact va_bald hC.1 hC.2.1 hC.2.2.2.2.2.2.1 (mm_P1 (hR.1 i _ hw)) 0 1 (n := n) (f := f) rfl rfl hin h (kk l p e R s m args below meth c Q D ρ X aC aV A n0 hC H locs ls hR hL)
theorem r_zald {i n : Nat} {f : Nat → Int32} {x : Int32} (pc' : Nat) (h : decode M.2.1 pc = .ok (.baload, 1)) (hp : pc + 1 = pc') (hw : w[i]? = some (.inl (2, (n, .inl f)))) (hin : vp_in x n) (kk : mm_R d M scr mc ms ah al Qf kc ks pc' L (.int (f x.toNatClampNeg) :: st) w) : mm_R d M scr mc ms ah al Qf kc ks pc L (.int x :: .ref i :: st) w := by
  subst hp
  intro l p e R s m args below meth c Q D ρ X aC aV A n0 hC H locs ls hR hL
  exact va_zald hC.1 hC.2.1 hC.2.2.2.2.2.2.1 (mm_P1 (hR.1 i _ hw)) 0 2 (n := n) (f := f) rfl rfl hin h (kk l p e R s m args below meth c Q D ρ X aC aV A n0 hC H locs ls hR hL)
theorem r_aald3 {i n j : Nat} {f : Nat → Option Nat} {x : Int32} (pc' : Nat) (h : decode M.2.1 pc = .ok (.aaload, 1)) (hp : pc + 1 = pc') (hw : w[i]? = some (.inl (3, (n, .inr (.inr (.inr (.inr f))))))) (hin : vp_in x n) (hj : f x.toNatClampNeg = some j) (kk : mm_R d M scr mc ms ah al Qf kc ks pc' L (.ref j :: st) w) : mm_R d M scr mc ms ah al Qf kc ks pc L (.int x :: .ref i :: st) w := by
  subst hp
  intro l p e R s m args below meth c Q D ρ X aC aV A n0 hC H locs ls hR hL
  have k2 := kk l p e R s m args below meth c Q D ρ X aC aV A n0 hC H locs ls hR hL
  refine va_aldq hC.1 hC.2.1 hC.2.2.2.2.2.2.1 (mm_P1 (hR.1 i _ hw)) 0 3 (C := RX0) (n := n) (f := fun j => (f j).map ρ) rfl rfl hin h ?_
  rw [hj]
  exact k2
theorem r_aald4 {i n j : Nat} {f : Nat → Option Nat} {x : Int32} (pc' : Nat) (h : decode M.2.1 pc = .ok (.aaload, 1)) (hp : pc + 1 = pc') (hw : w[i]? = some (.inl (4, (n, .inr (.inr (.inr (.inr f))))))) (hin : vp_in x n) (hj : f x.toNatClampNeg = some j) (kk : mm_R d M scr mc ms ah al Qf kc ks pc' L (.ref j :: st) w) : mm_R d M scr mc ms ah al Qf kc ks pc L (.int x :: .ref i :: st) w := by
  subst hp
  intro l p e R s m args below meth c Q D ρ X aC aV A n0 hC H locs ls hR hL
  have k2 := kk l p e R s m args below meth c Q D ρ X aC aV A n0 hC H locs ls hR hL
  refine va_aldq hC.1 hC.2.1 hC.2.2.2.2.2.2.1 (mm_P1 (hR.1 i _ hw)) 0 4 (C := RX3) (n := n) (f := fun j => (f j).map ρ) rfl rfl hin h ?_
  rw [hj]
  exact k2
theorem mm_arr {cA n k : Nat} {f : Nat → Int32} {x : Int32} {v : Value} (hv : v = .int x) : (vp_cell cA (n, .inl f)).setSlot k v = vp_cell cA (n, .inl (upd f k x)) := by
  rw [vp_cell_i, vp_cell_i, arrV_store]
  congr 1
  funext q
  by_cases hq : q = k
  · subst hq
    simp [updV, upd, hv]
  · simp [updV, upd, hq]
theorem r_iast {i n : Nat} {f : Nat → Int32} {x y : Int32} (pc' : Nat) (h : decode M.2.1 pc = .ok (.iastore, 1)) (hp : pc + 1 = pc') (hw : w[i]? = some (.inl (0, (n, .inl f)))) (hin : vp_in x n) (kk : mm_R d M scr mc ms ah al Qf kc ks pc' L st (w.set i (.inl (0, (n, .inl (upd f x.toNatClampNeg y)))))) : mm_R d M scr mc ms ah al Qf kc ks pc L (.int y :: .int x :: .ref i :: st) w := by
  subst hp
  intro l p e R s m args below meth c Q D ρ X aC aV A n0 hC H locs ls hR hL
  have hK := hC.2.2.2.2.2.2.1
  have hcell : H[ρ i]? = some (vp_cell (aC 0) (n, .inl f)) := hR.1 i _ hw
  refine W.iast hC.1 hC.2.1 hcell ((hK.2 0 _ rfl).1 n (fun j => .int (f j))) (fun q => by cases q) (by show ¬ (x < 0 ∨ (arrV _ _ _).slots.size ≤ _); rw [arrV_size]; exact hin) rfl rfl h fun H1 e z oq => ?_
  refine kk l p _ R s m args below meth c Q D ρ X aC aV A n0 hC H1 _ ls (hR.upd hw ?_ z oq _) hL
  show H1[ρ i]? = some (vp_cell (aC 0) (n, .inl (upd f x.toNatClampNeg y)))
  rw [e, mm_arr rfl]
theorem r_bast {i n : Nat} {f : Nat → Int32} {x y : Int32} (pc' : Nat) (h : decode M.2.1 pc = .ok (.bastore, 1)) (hp : pc + 1 = pc') (hw : w[i]? = some (.inl (1, (n, .inl f)))) (hin : vp_in x n) (kk : mm_R d M scr mc ms ah al Qf kc ks pc' L st (w.set i (.inl (1, (n, .inl (upd f x.toNatClampNeg y.toInt8.toInt32)))))) : mm_R d M scr mc ms ah al Qf kc ks pc L (.int y :: .int x :: .ref i :: st) w := by
  subst hp
  intro l p e R s m args below meth c Q D ρ X aC aV A n0 hC H locs ls hR hL
  have hK := hC.2.2.2.2.2.2.1
  have hcell : H[ρ i]? = some (vp_cell (aC 1) (n, .inl f)) := hR.1 i _ hw
  refine W.bast hC.1 hC.2.1 hcell ((hK.2 1 _ rfl).1 n (fun j => .int (f j))) (fun q => by cases q) (by show ¬ (x < 0 ∨ (arrV _ _ _).slots.size ≤ _); rw [arrV_size]; exact hin) rfl rfl h fun H1 e z oq => ?_
  refine kk l p _ R s m args below meth c Q D ρ X aC aV A n0 hC H1 _ ls (hR.upd hw ?_ z oq _) hL
  show H1[ρ i]? = some (vp_cell (aC 1) (n, .inl (upd f x.toNatClampNeg y.toInt8.toInt32)))
  rw [e, mm_arr (narrow_byte y)]
theorem r_zast {i n : Nat} {f : Nat → Int32} {x y : Int32} (pc' : Nat) (h : decode M.2.1 pc = .ok (.bastore, 1)) (hp : pc + 1 = pc') (hw : w[i]? = some (.inl (2, (n, .inl f)))) (hin : vp_in x n) (hy : narrow .boolean (.int y) = .int y) (kk : mm_R d M scr mc ms ah al Qf kc ks pc' L st (w.set i (.inl (2, (n, .inl (upd f x.toNatClampNeg y)))))) : mm_R d M scr mc ms ah al Qf kc ks pc L (.int y :: .int x :: .ref i :: st) w := by
  subst hp
  intro l p e R s m args below meth c Q D ρ X aC aV A n0 hC H locs ls hR hL
  have hK := hC.2.2.2.2.2.2.1
  have hcell : H[ρ i]? = some (vp_cell (aC 2) (n, .inl f)) := hR.1 i _ hw
  refine W.zast hC.1 hC.2.1 hcell ((hK.2 2 _ rfl).1 n (fun j => .int (f j))) (fun q => by cases q) (by show ¬ (x < 0 ∨ (arrV _ _ _).slots.size ≤ _); rw [arrV_size]; exact hin) rfl rfl h fun H1 e z oq => ?_
  refine kk l p _ R s m args below meth c Q D ρ X aC aV A n0 hC H1 _ ls (hR.upd hw ?_ z oq _) hL
  show H1[ρ i]? = some (vp_cell (aC 2) (n, .inl (upd f x.toNatClampNeg y)))
  rw [e, mm_arr hy]
theorem mm_aast {i n t ci j : Nat} {C : String} {T : u_T} {N : Nat} {f : Nat → Option Nat} {fs : List Value} {x : Int32} (ht : ∀ aC : Nat → Nat, (mm_ty aC)[t]? = some (aC t, .object C)) (hcl : vwCl[ci]? = some (C, T, N)) (pc' : Nat) (h : decode M.2.1 pc = .ok (.aastore, 1)) (hp : pc + 1 = pc') (hw : w[i]? = some (.inl (t, (n, .inr (.inr (.inr (.inr f))))))) (hj : w[j]? = some (.inr (ci, fs))) (hin : vp_in x n) (kk : mm_R d M scr mc ms ah al Qf kc ks pc' L st (w.set i (.inl (t, (n, .inr (.inr (.inr (.inr (va_up f x.toNatClampNeg (some j)))))))))) : mm_R d M scr mc ms ah al Qf kc ks pc L (.ref j :: .int x :: .ref i :: st) w := by
  subst hp
  intro l p e R s m args below meth c Q D ρ X aC aV A n0 hC H locs ls hR hL
  have hK := hC.2.2.2.2.2.2.1
  have hcell : H[ρ i]? = some (vp_cell (aC t) (n, .inr (.inr (.inr (.inr (fun j => (f j).map ρ)))))) := hR.1 i _ hw
  have hlt : x.toNatClampNeg < n := Nat.not_le.mp fun q => hin (Or.inr q)
  have h0 : ¬ x < 0 := fun q => hin (Or.inl q)
  obtain ⟨r', hr', cellV, g1, g2, g3, -⟩ := hR.1 j _ hj
  have hcls := (hK.1 ci _ hcl).2
  obtain ⟨kA, comp, k1, k2, k3, -⟩ := (hK.2 t _ (ht aC)).2
  have hcomp : comp = D.1 ci := Option.some.inj (k3.symm.trans hcls.1)
  subst hcomp
  obtain ⟨kC, hkC, -⟩ := hcls.2
  refine W.aast hC.1 hC.2.1 hcell (fun q h => by cases h) (fun h => by cases h) k1 k2 rfl hkC ⟨h0, by show _ < (arrV _ _ _).slots.size; rw [arrV_size]; exact hlt⟩ g1 (fun q h => by rw [g3] at h; cases h) (by rw [g2]; exact hkC) (by rw [g2]; exact va_assign hcls) rfl rfl h fun H1 e z oq => ?_
  refine kk l p _ R s m args below meth c Q D ρ X aC aV A n0 hC H1 _ ls (hR.upd hw ?_ z oq _) hL
  show H1[ρ i]? = some (vp_cell (aC t) (n, .inr (.inr (.inr (.inr (fun q => (va_up f x.toNatClampNeg (some j) q).map ρ))))))
  rw [e]
  rw [vp_cell_q, vp_cell_q, arrV_store]
  congr 2
  funext q
  by_cases hq : q = x.toNatClampNeg
  · subst hq
    simp [updV, va_up, va_rf]
  · simp [updV, va_up, hq]
theorem r_sld {q : Nat × (Nat → Int32)} {x : Int32} (pc' : Nat) (h : decode M.2.1 pc = .ok (.iaload, 1)) (hp : pc + 1 = pc') (hs : scr = some q) (hin : vp_in x q.1) (kk : mm_R d M scr mc ms ah al Qf kc ks pc' L (.int (q.2 x.toNatClampNeg) :: st) w) : mm_R d M scr mc ms ah al Qf kc ks pc L (.int x :: .retAddr 0 :: st) w := by
  subst hp
  intro l p e R s m args below meth c Q D ρ X aC aV A n0 hC H locs ls hR hL
  have hX := hC.2.2.2.2.2.2.2.2.2.1
  have k2 := kk l p e R s m args below meth c Q D ρ X aC aV A n0 hC H locs ls hR hL
  rw [hs] at hX
  exact va_sld hC.1 hC.2.1 hX.1 hX.2.1 hX.2.2 hR.2.2.2.1 hin h k2
theorem r_slen {q : Nat × (Nat → Int32)} (pc' : Nat) (h : decode M.2.1 pc = .ok (.arraylength, 1)) (hp : pc + 1 = pc') (hs : scr = some q) (kk : mm_R d M scr mc ms ah al Qf kc ks pc' L (.int (Int32.ofNat q.1) :: st) w) : mm_R d M scr mc ms ah al Qf kc ks pc L (.retAddr 0 :: st) w := by
  subst hp
  intro l p e R s m args below meth c Q D ρ X aC aV A n0 hC H locs ls hR hL
  have hX := hC.2.2.2.2.2.2.2.2.2.1
  have k2 := kk l p e R s m args below meth c Q D ρ X aC aV A n0 hC H locs ls hR hL
  rw [hs] at hX
  exact va_slen hC.1 hC.2.1 hX.1 hX.2.1 hX.2.2 hR.2.2.2.1 h k2
theorem mm_Rl.push {n0 : Nat} {A : Nat → Prop} {H0 H H1 : Heap} {locs : List Loc} {ρ X aC : Nat → Nat} {D : va_G} {w : mm_W} {c : va_E} (hR : mm_Rl true n0 A H0 H locs ρ X aC D w) (hA : ∀ q, H0.size ≤ q → A q) (he : va_at D vwCl (H.size, mm_re ρ X aC c) H1) (z : H1.size = H.size + 1) (oq : ∀ q : Nat, q < H.size → H1[q]? = H[q]?) : mm_Rl true n0 A H0 H1 locs ρ X aC D (w ++ [c]) ∧ ρ w.length = H.size := by
  obtain ⟨r1, r2, r3, r4, r5, r6⟩ := hR
  obtain ⟨r7, r8, r9⟩ := r5 rfl
  have e0 : ρ w.length = H.size := by rw [r9 _ (Nat.le_refl _)]; omega
  have hlt : ∀ k : Nat, k < w.length → ρ k < H.size := fun k hk => (r1 k _ (List.getElem?_eq_getElem hk)).lt
  have hl : (w ++ [c]).length = w.length + 1 := by simp
  refine ⟨⟨fun j x hj => ?_, fun i j hi hj hij => ?_, fun k hk => ?_, ⟨by have := r4.1; omega, fun q h1 h2 => ?_, r4.2.2⟩, fun _ => ⟨by omega, by rw [hl, z]; omega, fun k hk => ?_⟩, fun z => absurd z (by decide)⟩, e0⟩
  · by_cases hjl : j < w.length
    · rw [List.getElem?_append_left hjl] at hj
      exact (r1 j x hj).kept (oq _ (hlt j hjl))
    · have hj2 : j < (w ++ [c]).length := (List.getElem?_eq_some_iff.mp hj).1
      have hjw : j = w.length := by omega
      subst hjw
      rw [List.getElem?_append_right (Nat.le_refl _), Nat.sub_self] at hj
      cases hj
      rw [e0]
      exact he
  · rw [hl] at hi hj
    by_cases h1 : i < w.length <;> by_cases h2 : j < w.length
    · exact r2 i j h1 h2 hij
    · have : j = w.length := by omega
      subst this
      have := hlt i h1
      omega
    · have : i = w.length := by omega
      subst this
      have := hlt j h2
      omega
    · omega
  · rw [hl] at hk
    by_cases h1 : k < w.length
    · exact r3 k h1
    · have : k = w.length := by omega
      subst this
      rw [e0]
      exact hA _ r4.1
  · have := r4.1
    rw [oq q (by omega)]
    exact r4.2.1 q h1 h2
  · rw [hl] at hk
    rw [r9 k (by omega), hl, z]
    omega
def mm_NC (own : String) (idx ci N : Nat) (fs : List Value) : Prop := ∃ (C : String) (T : u_T) (ty0 : Nat → FieldType), vwCl[ci]? = some (C, T, N) ∧ (∀ x ∈ u_ws C T N, x ∈ mm_tb) ∧ (∀ j, j < N → parseFieldDescriptor (T j).2.2.1 = some (ty0 j)) ∧ Cond.classLink own idx C ∈ mm_tb ∧ Cond.instantiable C N ∈ mm_tb ∧ Cond.initialized C ∈ mm_tb ∧ (∀ j, j < N → defaultValue (ty0 j) = vp_V fs j) ∧ ∀ ρ X, fs.map (mm_rv ρ X) = fs
theorem r_new {idx ci N : Nat} {fs : List Value} (pc' : Nat) (h : decode M.2.1 pc = .ok (.new idx, 3)) (hp : pc + 3 = pc') (hN : mm_NC M.1 idx ci N fs) (hc : kc + 1 ≤ mc) (hk : ks + N ≤ ms) (kk : mm_R d M scr mc ms ah true Qf (kc + 1) (ks + N) pc' L (.ref w.length :: st) (w ++ [.inr (ci, fs)])) : mm_R d M scr mc ms ah true Qf kc ks pc L st w := by
  subst hp
  intro l p e R s m args below meth c Q D ρ X aC aV A n0 hC H locs ls hR hL
  obtain ⟨C, T, ty0, f1, f2, f3, f4, f5, f6, f7, f8⟩ := hN
  obtain ⟨hx, hb, hml, hown, hts, hini, hK, hA, hEv, hsc, ⟨hr1, hr2, hr3, hr4⟩, hret⟩ := id hC
  have hKn := hK.1 ci _ f1
  refine W.newcK hx hb hown (hts _ f4) (hts _ f5) (hts _ f6) rfl h (by omega) (by omega) hKn.2.1 rfl fun H1 kC hkC e1 z1 o1 => ?_
  obtain ⟨g1, g2⟩ := hR.push (c := .inr (ci, fs)) (H1 := H1) hA ⟨_, f1, by rw [f8 ρ X]; exact (u_born ty0 hts f2 hKn hkC e1 f3).to f7⟩ z1 o1
  have := kk l p e R s m args below meth c Q D ρ X aC aV A n0 hC H1 locs ls g1 hL
  rw [← g2]
  exact this
theorem r_newa {t : Nat} {at0 : ArrayType} {ty : FieldType} {n : Int32} {N : Nat} (hty : newarray.typeOf at0 = ty) (ht : ∀ aC : Nat → Nat, (mm_ty aC)[t]? = some (aC t, ty)) (hn : ∀ (U : State) (cA : Nat), va_RA U cA ty → U.vm.findClass ("[" ++ ty.toString) = some cA) (hdf : defaultValue ty = .int 0) (hm : Cond.arrayClass ty ∈ mm_tb) (hb0 : N * componentBytes ty ≤ 536870912) (pc' : Nat) (h : decode M.2.1 pc = .ok (.newarray at0, 2)) (hp : pc + 2 = pc') (hx0 : ¬ n < 0) (hN : n.toNatClampNeg = N) (hc : kc + 1 ≤ mc) (hk : ks + N ≤ ms) (kk : mm_R d M scr mc ms ah true Qf (kc + 1) (ks + N) pc' L (.ref w.length :: st) (w ++ [.inl (t, (N, .inl (fun _ => 0)))])) : mm_R d M scr mc ms ah true Qf kc ks pc L (.int n :: st) w := by
  subst hp
  subst hty
  intro l p e R s m args below meth c Q D ρ X aC aV A n0 hC H locs ls hR hL
  obtain ⟨hx, hb, hml, hown, hts, hini, hK, hA, hEv, hsc, ⟨hr1, hr2, hr3, hr4⟩, hret⟩ := id hC
  refine va_newaK hx hb (hts _ hm) rfl h rfl hx0 hN hb0 (by omega) (by omega) rfl fun H1 cA e1 z1 o1 hAr hNm => ?_
  have hcA : cA = aC t := Option.some.inj (hNm.symm.trans (hn _ _ (hK.2 t _ (ht aC)).2))
  subst hcA
  obtain ⟨g1, g2⟩ := hR.push (c := .inl (t, (N, .inl (fun _ => 0)))) (H1 := H1) hA (by
    show H1[H.size]? = some (vp_cell (aC t) (N, .inl (fun _ => 0)))
    rw [e1, hdf]
    rfl) z1 o1
  have := kk l p e R s m args below meth c Q D ρ X aC aV A n0 hC H1 locs ls g1 hL
  rw [← g2]
  exact this
theorem r_anew {t idx : Nat} {C : String} {n : Int32} {N : Nat} (ht : ∀ aC : Nat → Nat, (mm_ty aC)[t]? = some (aC t, .object C)) (ho : ∀ (X aV : Nat → Nat) (A : Nat → Prop) (U : State) (H : Heap), mm_Ev X aV A U H → va_AO C U) (hm : Cond.classLink M.1 idx C ∈ mm_tb) (hb0 : N * 4 ≤ 536870912) (pc' : Nat) (h : decode M.2.1 pc = .ok (.anewarray idx, 3)) (hp : pc + 3 = pc') (hx0 : ¬ n < 0) (hN : n.toNatClampNeg = N) (hc : kc + 1 ≤ mc) (hk : ks + N ≤ ms) (kk : mm_R d M scr mc ms ah true Qf (kc + 1) (ks + N) pc' L (.ref w.length :: st) (w ++ [.inl (t, (N, .inr (.inr (.inr (.inr (fun _ => none))))))])) : mm_R d M scr mc ms ah true Qf kc ks pc L (.int n :: st) w := by
  subst hp
  subst hN
  intro l p e R s m args below meth c Q D ρ X aC aV A n0 hC H locs ls hR hL
  obtain ⟨hx, hb, hml, hown, hts, hini, hK, hA, hEv, hsc, ⟨hr1, hr2, hr3, hr4⟩, hret⟩ := id hC
  refine W.anew hx hb hown (hts _ hm) (va_AO.use (ho X aV A s _ hEv)) rfl h rfl hx0 hb0 (by omega) (by omega) fun cA kA comp f1 f2 f3 f4 => ?_
  generalize hH1 : H.push ({ cls := cA, slots := Array.replicate n.toNatClampNeg .null, vm := .none } : Cell) = H1
  have z1 : H1.size = H.size + 1 := by rw [← hH1, Array.size_push]
  have e1 : H1[H.size]? = some (arrV cA n.toNatClampNeg (fun _ => .null)) := by rw [← hH1, Array.getElem?_push_size, ← arrV_new]
  have o1 : ∀ q : Nat, q < H.size → H1[q]? = H[q]? := fun q hq => by rw [← hH1, Array.getElem?_push, if_neg (Nat.ne_of_lt hq)]
  obtain ⟨kA', comp', -, -, -, g4⟩ := (hK.2 t _ (ht aC)).2
  have hcA : cA = aC t := Option.some.inj (f1.symm.trans g4)
  subst hcA
  obtain ⟨g1, g2⟩ := hR.push (c := .inl (t, (n.toNatClampNeg, .inr (.inr (.inr (.inr (fun _ => none))))))) (H1 := H1) hA (by
    show H1[H.size]? = some (vp_cell (aC t) (n.toNatClampNeg, .inr (.inr (.inr (.inr (fun _ => none))))))
    rw [e1]
    rfl) z1 o1
  have := kk l p e R s m args below meth c Q D ρ X aC aV A n0 hC H1 locs ls g1 hL
  rw [← g2]
  exact this
theorem r_objInit {idx : Nat} {v : Value} (pc' : Nat) (h : decode M.2.1 pc = .ok (.invokespecial idx, 3)) (hp : pc + 3 = pc') (h1 : Cond.methodLink M.1 idx objectInit ∈ mm_tb) (h2 : Cond.instanceMethod objectInit ∈ mm_tb) (h3 : Cond.code objectInit ⟨#[0xb1]⟩ 1 none ∈ mm_tb) {i : Nat} (hd : 1 ≤ d) (hst : st = []) (kk : mm_R d M scr mc ms ah al Qf kc ks pc' L st w) : mm_R d M scr mc ms ah al Qf kc ks pc L (.ref i :: st) w := by
  subst hp
  subst hst
  intro l p e R s m args below meth c Q D ρ X aC aV A n0 hC H locs ls hR hL
  obtain ⟨hx, hb, hml, hown, hts, hini, hK, hA, hEv, hsc, ⟨hr1, hr2, hr3, hr4⟩, hret⟩ := id hC
  exact W.objInit hx hb hown (hts _ h1) (hts _ h2) (hts _ h3) (g := F0 m pc ls [.ref (ρ i)]) rfl (by rw [hml]; exact hL.1) (a := ρ i) (rest := []) rfl h (by omega) (by show 2 * 0 + 0 + 12 ≤ _; omega) (kk l p e R s m args below meth c Q D ρ X aC aV A n0 hC H locs ls hR hL)
end MMH
