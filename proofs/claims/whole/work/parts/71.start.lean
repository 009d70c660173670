theorem rc_id (e : va_E) : mm_rc (fun k => k) e = e := by
  obtain ⟨t, n, f | f | f | f | f⟩ | ⟨ci, fs⟩ := e
  · rfl
  · rfl
  · rfl
  · rfl
  · simp only [mm_rc, mm_ra]
    rw [show (fun j => (f j).map (fun k => k)) = f from funext fun j => by cases f j <;> rfl]
  · simp only [mm_rc]
    rw [show fs.map (mm_rn (fun k => k)) = fs from by
      conv => rhs; rw [← List.map_id fs]
      congr 1
      funext v
      cases v <;> rfl]
theorem bk0 (c a : va_E) (u : mm_W) : mm_back [0] ([] ++ [c]) (a :: u) = a :: u := by
  have e : mm_sg [0] ([] ++ [c] : mm_W).length = fun k => k := by
    funext k
    cases k with
    | zero => rfl
    | succ k => show 1 + (k + 1 - 1) = k + 1; omega
  unfold mm_back
  rw [e, show mm_rc (fun k => k) = id from funext rc_id, List.map_id, List.map_id]
  rfl
theorem bk1 {w1 : mm_W} (h : w1.length = 64) (c a : va_E) (u : mm_W) : mm_back [64] (w1 ++ [c]) (a :: u) = w1 ++ shW (a :: u) := by
  have e : mm_sg [64] (w1 ++ [c]).length = fun k => 64 + k := by
    rw [List.length_append, h]
    funext k
    cases k with
    | zero => rfl
    | succ k => show 65 + (k + 1 - 1) = 64 + (k + 1); omega
  unfold mm_back shW
  rw [e, List.map_cons, mm_bk]
  have e2 : (w1 ++ [c]).set 64 (mm_rc (fun k => 64 + k) a) = w1 ++ [mm_rc (fun k => 64 + k) a] := by
    rw [List.set_append_right (h := by omega), h]
    rfl
  rw [e2]
  cases u <;> simp [mm_bk]
section LS
variable {Lc : Nat} {xs : Nat → Int32} {ah : Bool} {Qf : Option Value → mm_W → Prop}
set_option maxRecDepth 8000 in
theorem lw_go (hL : Lc ≤ 320) (hq : ∀ w, Qf (some (.int 1)) w) : mm_R 12 mL_law (some (Lc, xs)) 600000 7302250 ah true Qf 0 0 0 [some (.retAddr 0), none, none, none] [] [] := by
  refine r_new 3 dL_law_0 rfl nc_L_7 (by decide) (by decide) ?_
  refine r_dup 4 dL_law_3 rfl rfl ?_
  refine r_callIu (d := 11) [0] 7 dL_law_4 rfl ykX7_init lk_L_9 rfl (i_X7 (d := 8)) rfl rfl rfl rfl (by decide) (by decide) (by decide) ?_
  refine r_eqT (w' := wX0) ?_ rfl rfl (bk0 _ _ _) rfl rfl
  refine r_astore_n (i := 1) 8 dL_law_7 rfl rfl rfl ?_
  refine r_new 11 dL_law_8 rfl nc_L_10 (by decide) (by decide) ?_
  refine r_dup 12 dL_law_11 rfl rfl ?_
  refine r_callIu (d := 11) [64] 15 dL_law_12 rfl ykX8_init lk_L_12 rfl (i_X8 (d := 10)) rfl rfl rfl rfl (by decide) (by decide) (by decide) ?_
  refine r_eqT (w' := wX0 ++ shW (wM W0)) ?_ rfl rfl (bk1 rfl _ _ _) rfl rfl
  refine r_astore_n (i := 2) 16 dL_law_15 rfl rfl rfl ?_
  refine r_noal (fun z => by cases z) ?_
  refine r_iconst (v := 0) 17 dL_law_16 rfl rfl ?_
  refine r_istore_n (i := 3) 18 dL_law_17 rfl rfl rfl ?_
  exact r_eqT (lw_loop hL (by decide) hq Lc 0 S0 wX0 (wM W0) (Nat.le_refl _) (Nat.zero_le _) CX_0 CM_0) rfl rfl rfl rfl rfl
end LS
