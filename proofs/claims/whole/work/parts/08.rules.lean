section MMR
variable {d : Nat} {M : mm_M} {scr : Option (Nat × (Nat → Int32))} {mc ms : Nat} {ah al : Bool} {Qf : Option Value → mm_W → Prop} {kc ks pc : Nat} {L : List (Option Value)} {st : List Value} {w : mm_W}

theorem r_iconst {n : Int} {v : Int32} (pc' : Nat) (h : decode M.2.1 pc = .ok (.iconst n, 1)) (hp : pc + 1 = pc') (hv : Int32.ofInt n = v) (k : mm_R d M scr mc ms ah al Qf kc ks pc' L (.int v :: st) w) : mm_R d M scr mc ms ah al Qf kc ks pc L st w := by
  subst hp
  intro l p e R s m args below meth c Q D ρ X aC aV A n0 hC H locs ls hR hL
  exact lv_iconst hC.1 hC.2.1 h hv (k l p e R s m args below meth c Q D ρ X aC aV A n0 hC H locs ls hR hL)

theorem r_bipush {n : Int} {v : Int32} (pc' : Nat) (h : decode M.2.1 pc = .ok (.bipush n, 2)) (hp : pc + 2 = pc') (hv : (Int8.ofInt n).toInt32 = v) (k : mm_R d M scr mc ms ah al Qf kc ks pc' L (.int v :: st) w) : mm_R d M scr mc ms ah al Qf kc ks pc L st w := by
  subst hp
  intro l p e R s m args below meth c Q D ρ X aC aV A n0 hC H locs ls hR hL
  exact lv_bipush hC.1 hC.2.1 h hv (k l p e R s m args below meth c Q D ρ X aC aV A n0 hC H locs ls hR hL)

theorem r_sipush {n : Int} {v : Int32} (pc' : Nat) (h : decode M.2.1 pc = .ok (.sipush n, 3)) (hp : pc + 3 = pc') (hv : (Int16.ofInt n).toInt32 = v) (k : mm_R d M scr mc ms ah al Qf kc ks pc' L (.int v :: st) w) : mm_R d M scr mc ms ah al Qf kc ks pc L st w := by
  subst hp
  intro l p e R s m args below meth c Q D ρ X aC aV A n0 hC H locs ls hR hL
  exact lv_sipush hC.1 hC.2.1 h hv (k l p e R s m args below meth c Q D ρ X aC aV A n0 hC H locs ls hR hL)

theorem r_lconst {n : Fin 2} {v : Int64} (pc' : Nat) (h : decode M.2.1 pc = .ok (.lconst n, 1)) (hp : pc + 1 = pc') (hv : Int64.ofNat (n : Nat) = v) (k : mm_R d M scr mc ms ah al Qf kc ks pc' L (.long v :: st) w) : mm_R d M scr mc ms ah al Qf kc ks pc L st w := by
  subst hp
  intro l p e R s m args below meth c Q D ρ X aC aV A n0 hC H locs ls hR hL
  exact lv_lconst hC.1 hC.2.1 h hv (k l p e R s m args below meth c Q D ρ X aC aV A n0 hC H locs ls hR hL)

theorem r_ldc {i : Nat} {v : Int32} (pc' : Nat) (h : decode M.2.1 pc = .ok (.ldc i, 2)) (hp : pc + 2 = pc') (hv : Cond.constant M.1 i v ∈ mm_tb) (k : mm_R d M scr mc ms ah al Qf kc ks pc' L (.int v :: st) w) : mm_R d M scr mc ms ah al Qf kc ks pc L st w := by
  subst hp
  intro l p e R s m args below meth c Q D ρ X aC aV A n0 hC H locs ls hR hL
  exact lv_ldc hC.1 hC.2.1 hC.2.2.2.1 (hC.2.2.2.2.1 _ hv) h (k l p e R s m args below meth c Q D ρ X aC aV A n0 hC H locs ls hR hL)

theorem r_ldcw {i : Nat} {v : Int32} (pc' : Nat) (h : decode M.2.1 pc = .ok (.ldc_w i, 3)) (hp : pc + 3 = pc') (hv : Cond.constant M.1 i v ∈ mm_tb) (k : mm_R d M scr mc ms ah al Qf kc ks pc' L (.int v :: st) w) : mm_R d M scr mc ms ah al Qf kc ks pc L st w := by
  subst hp
  intro l p e R s m args below meth c Q D ρ X aC aV A n0 hC H locs ls hR hL
  exact lv_ldcw hC.1 hC.2.1 hC.2.2.2.1 (hC.2.2.2.2.1 _ hv) h (k l p e R s m args below meth c Q D ρ X aC aV A n0 hC H locs ls hR hL)

theorem r_ldc2 {i : Nat} {v : Int64} (pc' : Nat) (h : decode M.2.1 pc = .ok (.ldc2_w i, 3)) (hp : pc + 3 = pc') (hv : Cond.constantLong M.1 i v ∈ mm_tb) (k : mm_R d M scr mc ms ah al Qf kc ks pc' L (.long v :: st) w) : mm_R d M scr mc ms ah al Qf kc ks pc L st w := by
  subst hp
  intro l p e R s m args below meth c Q D ρ X aC aV A n0 hC H locs ls hR hL
  exact lv_ldc2 hC.1 hC.2.1 hC.2.2.2.1 (hC.2.2.2.2.1 _ hv) h (k l p e R s m args below meth c Q D ρ X aC aV A n0 hC H locs ls hR hL)

theorem r_ldcS {i j : Nat} {q : Nat × String × Nat × List Int32} (pc' : Nat) (h : decode M.2.1 pc = .ok (.ldc i, 2)) (hp : pc + 2 = pc') (ho : M.1 = RX1) (hq : mm_sx[j]? = some q) (hi : q.1 = i) (k : mm_R d M scr mc ms ah al Qf kc ks pc' L (.retAddr (j + 1) :: st) w) : mm_R d M scr mc ms ah al Qf kc ks pc L st w := by
  subst hp
  intro l p e R s m args below meth c Q D ρ X aC aV A n0 hC H locs ls hR hL
  exact va_ldcS hC.1 hC.2.1 (own := M.1) (tx := q.2.1) (q := X (j + 1)) hC.2.2.2.1 (by rw [ho, ← hi]; exact hC.2.2.2.2.2.2.2.2.1.2.1 j q hq) h (k l p e R s m args below meth c Q D ρ X aC aV A n0 hC H locs ls hR hL)

theorem r_iload_n {k : Fin 4} {i : Nat} {x : Int32} (pc' : Nat) (h : decode M.2.1 pc = .ok (.iload_n k, 1)) (hp : pc + 1 = pc') (hi : (k : Nat) = i) (hv : L[i]? = some (some (.int x))) (k : mm_R d M scr mc ms ah al Qf kc ks pc' L (.int x :: st) w) : mm_R d M scr mc ms ah al Qf kc ks pc L st w := by
  subst hp
  intro l p e R s m args below meth c Q D ρ X aC aV A n0 hC H locs ls hR hL
  exact lv_iload_n hC.1 hC.2.1 h hi (hL.at hv) (k l p e R s m args below meth c Q D ρ X aC aV A n0 hC H locs ls hR hL)

theorem r_iload {i : Nat} {x : Int32} (pc' : Nat) (h : decode M.2.1 pc = .ok (.iload i, 2)) (hp : pc + 2 = pc') (hv : L[i]? = some (some (.int x))) (k : mm_R d M scr mc ms ah al Qf kc ks pc' L (.int x :: st) w) : mm_R d M scr mc ms ah al Qf kc ks pc L st w := by
  subst hp
  intro l p e R s m args below meth c Q D ρ X aC aV A n0 hC H locs ls hR hL
  exact lv_iload hC.1 hC.2.1 h (hL.at hv) (k l p e R s m args below meth c Q D ρ X aC aV A n0 hC H locs ls hR hL)

theorem r_lload_n {k : Fin 4} {i : Nat} {x : Int64} (pc' : Nat) (h : decode M.2.1 pc = .ok (.lload_n k, 1)) (hp : pc + 1 = pc') (hi : (k : Nat) = i) (hv : L[i]? = some (some (.long x))) (k : mm_R d M scr mc ms ah al Qf kc ks pc' L (.long x :: st) w) : mm_R d M scr mc ms ah al Qf kc ks pc L st w := by
  subst hp
  intro l p e R s m args below meth c Q D ρ X aC aV A n0 hC H locs ls hR hL
  exact lv_lload_n hC.1 hC.2.1 h hi (hL.at hv) (k l p e R s m args below meth c Q D ρ X aC aV A n0 hC H locs ls hR hL)

theorem r_lload {i : Nat} {x : Int64} (pc' : Nat) (h : decode M.2.1 pc = .ok (.lload i, 2)) (hp : pc + 2 = pc') (hv : L[i]? = some (some (.long x))) (k : mm_R d M scr mc ms ah al Qf kc ks pc' L (.long x :: st) w) : mm_R d M scr mc ms ah al Qf kc ks pc L st w := by
  subst hp
  intro l p e R s m args below meth c Q D ρ X aC aV A n0 hC H locs ls hR hL
  exact lv_lload hC.1 hC.2.1 h (hL.at hv) (k l p e R s m args below meth c Q D ρ X aC aV A n0 hC H locs ls hR hL)

theorem r_aload_n {k : Fin 4} {i : Nat} {x : Nat} (pc' : Nat) (h : decode M.2.1 pc = .ok (.aload_n k, 1)) (hp : pc + 1 = pc') (hi : (k : Nat) = i) (hv : L[i]? = some (some (.ref x))) (k : mm_R d M scr mc ms ah al Qf kc ks pc' L (.ref x :: st) w) : mm_R d M scr mc ms ah al Qf kc ks pc L st w := by
  subst hp
  intro l p e R s m args below meth c Q D ρ X aC aV A n0 hC H locs ls hR hL
  exact lv_aload_n hC.1 hC.2.1 h hi (hL.at hv) (k l p e R s m args below meth c Q D ρ X aC aV A n0 hC H locs ls hR hL)

theorem r_aload {i : Nat} {x : Nat} (pc' : Nat) (h : decode M.2.1 pc = .ok (.aload i, 2)) (hp : pc + 2 = pc') (hv : L[i]? = some (some (.ref x))) (k : mm_R d M scr mc ms ah al Qf kc ks pc' L (.ref x :: st) w) : mm_R d M scr mc ms ah al Qf kc ks pc L st w := by
  subst hp
  intro l p e R s m args below meth c Q D ρ X aC aV A n0 hC H locs ls hR hL
  exact lv_aload hC.1 hC.2.1 h (hL.at hv) (k l p e R s m args below meth c Q D ρ X aC aV A n0 hC H locs ls hR hL)

theorem r_xload_n {k : Fin 4} {i : Nat} {x : Nat} (pc' : Nat) (h : decode M.2.1 pc = .ok (.aload_n k, 1)) (hp : pc + 1 = pc') (hi : (k : Nat) = i) (hv : L[i]? = some (some (.retAddr x))) (k : mm_R d M scr mc ms ah al Qf kc ks pc' L (.retAddr x :: st) w) : mm_R d M scr mc ms ah al Qf kc ks pc L st w := by
  subst hp
  intro l p e R s m args below meth c Q D ρ X aC aV A n0 hC H locs ls hR hL
  exact lv_aload_n hC.1 hC.2.1 h hi (hL.at hv) (k l p e R s m args below meth c Q D ρ X aC aV A n0 hC H locs ls hR hL)

theorem r_xload {i : Nat} {x : Nat} (pc' : Nat) (h : decode M.2.1 pc = .ok (.aload i, 2)) (hp : pc + 2 = pc') (hv : L[i]? = some (some (.retAddr x))) (k : mm_R d M scr mc ms ah al Qf kc ks pc' L (.retAddr x :: st) w) : mm_R d M scr mc ms ah al Qf kc ks pc L st w := by
  subst hp
  intro l p e R s m args below meth c Q D ρ X aC aV A n0 hC H locs ls hR hL
  exact lv_aload hC.1 hC.2.1 h (hL.at hv) (k l p e R s m args below meth c Q D ρ X aC aV A n0 hC H locs ls hR hL)

theorem r_istore_n {k : Fin 4} {i : Nat} {x : Int32} (pc' : Nat) (h : decode M.2.1 pc = .ok (.istore_n k, 1)) (hp : pc + 1 = pc') (hi : (k : Nat) = i) (hn : Nat.ble (i + 1) M.2.2.1 = true) (k : mm_R d M scr mc ms ah al Qf kc ks pc' (mm_s1 L i (.int x)) st w) : mm_R d M scr mc ms ah al Qf kc ks pc L (.int x :: st) w := by
  subst hp
  intro l p e R s m args below meth c Q D ρ X aC aV A n0 hC H locs ls hR hL
  exact lv_istore_n hC.1 hC.2.1 h hi hL (Nat.le_of_ble_eq_true hn) rfl (fun ls2 hl2 => k l p e R s m args below meth c Q D ρ X aC aV A n0 hC H locs ls2 hR (mm_LV.s1 (v := .int x) hl2))

theorem r_istore {i : Nat} {x : Int32} (pc' : Nat) (h : decode M.2.1 pc = .ok (.istore i, 2)) (hp : pc + 2 = pc') (hn : Nat.ble (i + 1) M.2.2.1 = true) (k : mm_R d M scr mc ms ah al Qf kc ks pc' (mm_s1 L i (.int x)) st w) : mm_R d M scr mc ms ah al Qf kc ks pc L (.int x :: st) w := by
  subst hp
  intro l p e R s m args below meth c Q D ρ X aC aV A n0 hC H locs ls hR hL
  exact lv_istore hC.1 hC.2.1 h hL (Nat.le_of_ble_eq_true hn) rfl (fun ls2 hl2 => k l p e R s m args below meth c Q D ρ X aC aV A n0 hC H locs ls2 hR (mm_LV.s1 (v := .int x) hl2))

theorem r_lstore_n {k : Fin 4} {i : Nat} {x : Int64} (pc' : Nat) (h : decode M.2.1 pc = .ok (.lstore_n k, 1)) (hp : pc + 1 = pc') (hi : (k : Nat) = i) (hn : Nat.ble (i + 2) M.2.2.1 = true) (k : mm_R d M scr mc ms ah al Qf kc ks pc' (mm_s2 L i (.long x)) st w) : mm_R d M scr mc ms ah al Qf kc ks pc L (.long x :: st) w := by
  subst hp
  intro l p e R s m args below meth c Q D ρ X aC aV A n0 hC H locs ls hR hL
  exact lv_lstore_n hC.1 hC.2.1 h hi hL (Nat.le_of_ble_eq_true hn) rfl (fun ls2 hl2 => k l p e R s m args below meth c Q D ρ X aC aV A n0 hC H locs ls2 hR (mm_LV.s2 (v := .long x) hl2))

theorem r_lstore {i : Nat} {x : Int64} (pc' : Nat) (h : decode M.2.1 pc = .ok (.lstore i, 2)) (hp : pc + 2 = pc') (hn : Nat.ble (i + 2) M.2.2.1 = true) (k : mm_R d M scr mc ms ah al Qf kc ks pc' (mm_s2 L i (.long x)) st w) : mm_R d M scr mc ms ah al Qf kc ks pc L (.long x :: st) w := by
  subst hp
  intro l p e R s m args below meth c Q D ρ X aC aV A n0 hC H locs ls hR hL
  exact lv_lstore hC.1 hC.2.1 h hL (Nat.le_of_ble_eq_true hn) rfl (fun ls2 hl2 => k l p e R s m args below meth c Q D ρ X aC aV A n0 hC H locs ls2 hR (mm_LV.s2 (v := .long x) hl2))

theorem r_astore_n {k : Fin 4} {i : Nat} {x : Nat} (pc' : Nat) (h : decode M.2.1 pc = .ok (.astore_n k, 1)) (hp : pc + 1 = pc') (hi : (k : Nat) = i) (hn : Nat.ble (i + 1) M.2.2.1 = true) (k : mm_R d M scr mc ms ah al Qf kc ks pc' (mm_s1 L i (.ref x)) st w) : mm_R d M scr mc ms ah al Qf kc ks pc L (.ref x :: st) w := by
  subst hp
  intro l p e R s m args below meth c Q D ρ X aC aV A n0 hC H locs ls hR hL
  exact lv_astore_n hC.1 hC.2.1 h hi hL (Nat.le_of_ble_eq_true hn) rfl (fun ls2 hl2 => k l p e R s m args below meth c Q D ρ X aC aV A n0 hC H locs ls2 hR (mm_LV.s1 (v := .ref x) hl2))

theorem r_astore {i : Nat} {x : Nat} (pc' : Nat) (h : decode M.2.1 pc = .ok (.astore i, 2)) (hp : pc + 2 = pc') (hn : Nat.ble (i + 1) M.2.2.1 = true) (k : mm_R d M scr mc ms ah al Qf kc ks pc' (mm_s1 L i (.ref x)) st w) : mm_R d M scr mc ms ah al Qf kc ks pc L (.ref x :: st) w := by
  subst hp
  intro l p e R s m args below meth c Q D ρ X aC aV A n0 hC H locs ls hR hL
  exact lv_astore hC.1 hC.2.1 h hL (Nat.le_of_ble_eq_true hn) rfl (fun ls2 hl2 => k l p e R s m args below meth c Q D ρ X aC aV A n0 hC H locs ls2 hR (mm_LV.s1 (v := .ref x) hl2))

theorem r_iinc {i : Nat} {n : Int} {x v : Int32} (pc' : Nat) (h : decode M.2.1 pc = .ok (.iinc i n, 3)) (hp : pc + 3 = pc') (hx : L[i]? = some (some (.int x))) (hv : x + Int32.ofInt n = v) (hn : Nat.ble (i + 1) M.2.2.1 = true) (k : mm_R d M scr mc ms ah al Qf kc ks pc' (mm_s1 L i (.int v)) st w) : mm_R d M scr mc ms ah al Qf kc ks pc L st w := by
  subst hp
  intro l p e R s m args below meth c Q D ρ X aC aV A n0 hC H locs ls hR hL
  have hm : (i, Value.int x) ∈ mm_as ρ X 0 L := (mm_as_mem ρ X L 0 _).mpr ⟨i, _, hx, by rw [Nat.zero_add]; rfl⟩
  obtain ⟨j, hj⟩ := List.getElem?_of_mem hm
  exact lv_iinc hC.1 hC.2.1 h hL hj hv (Nat.le_of_ble_eq_true hn) rfl (fun ls2 hl2 => k l p e R s m args below meth c Q D ρ X aC aV A n0 hC H locs ls2 hR (mm_LV.s1 (v := .int v) hl2))

theorem r_iadd {x y : Int32} (pc' : Nat) (h : decode M.2.1 pc = .ok (.iadd, 1)) (hp : pc + 1 = pc') (k : mm_R d M scr mc ms ah al Qf kc ks pc' L (.int (x + y) :: st) w) : mm_R d M scr mc ms ah al Qf kc ks pc L (.int y :: .int x :: st) w := by
  subst hp
  intro l p e R s m args below meth c Q D ρ X aC aV A n0 hC H locs ls hR hL
  exact lv_iadd hC.1 hC.2.1 h (k l p e R s m args below meth c Q D ρ X aC aV A n0 hC H locs ls hR hL)

theorem r_isub {x y : Int32} (pc' : Nat) (h : decode M.2.1 pc = .ok (.isub, 1)) (hp : pc + 1 = pc') (k : mm_R d M scr mc ms ah al Qf kc ks pc' L (.int (x - y) :: st) w) : mm_R d M scr mc ms ah al Qf kc ks pc L (.int y :: .int x :: st) w := by
  subst hp
  intro l p e R s m args below meth c Q D ρ X aC aV A n0 hC H locs ls hR hL
  exact lv_isub hC.1 hC.2.1 h (k l p e R s m args below meth c Q D ρ X aC aV A n0 hC H locs ls hR hL)

theorem r_imul {x y : Int32} (pc' : Nat) (h : decode M.2.1 pc = .ok (.imul, 1)) (hp : pc + 1 = pc') (k : mm_R d M scr mc ms ah al Qf kc ks pc' L (.int (x * y) :: st) w) : mm_R d M scr mc ms ah al Qf kc ks pc L (.int y :: .int x :: st) w := by
  subst hp
  intro l p e R s m args below meth c Q D ρ X aC aV A n0 hC H locs ls hR hL
  exact lv_imul hC.1 hC.2.1 h (k l p e R s m args below meth c Q D ρ X aC aV A n0 hC H locs ls hR hL)

theorem r_iand {x y : Int32} (pc' : Nat) (h : decode M.2.1 pc = .ok (.iand, 1)) (hp : pc + 1 = pc') (k : mm_R d M scr mc ms ah al Qf kc ks pc' L (.int (x &&& y) :: st) w) : mm_R d M scr mc ms ah al Qf kc ks pc L (.int y :: .int x :: st) w := by
  subst hp
  intro l p e R s m args below meth c Q D ρ X aC aV A n0 hC H locs ls hR hL
  exact lv_iand hC.1 hC.2.1 h (k l p e R s m args below meth c Q D ρ X aC aV A n0 hC H locs ls hR hL)

theorem r_ior {x y : Int32} (pc' : Nat) (h : decode M.2.1 pc = .ok (.ior, 1)) (hp : pc + 1 = pc') (k : mm_R d M scr mc ms ah al Qf kc ks pc' L (.int (x ||| y) :: st) w) : mm_R d M scr mc ms ah al Qf kc ks pc L (.int y :: .int x :: st) w := by
  subst hp
  intro l p e R s m args below meth c Q D ρ X aC aV A n0 hC H locs ls hR hL
  exact lv_ior hC.1 hC.2.1 h (k l p e R s m args below meth c Q D ρ X aC aV A n0 hC H locs ls hR hL)

theorem r_ixor {x y : Int32} (pc' : Nat) (h : decode M.2.1 pc = .ok (.ixor, 1)) (hp : pc + 1 = pc') (k : mm_R d M scr mc ms ah al Qf kc ks pc' L (.int (x ^^^ y) :: st) w) : mm_R d M scr mc ms ah al Qf kc ks pc L (.int y :: .int x :: st) w := by
  subst hp
  intro l p e R s m args below meth c Q D ρ X aC aV A n0 hC H locs ls hR hL
  exact lv_ixor hC.1 hC.2.1 h (k l p e R s m args below meth c Q D ρ X aC aV A n0 hC H locs ls hR hL)

theorem r_ishl {x y : Int32} (pc' : Nat) (h : decode M.2.1 pc = .ok (.ishl, 1)) (hp : pc + 1 = pc') (k : mm_R d M scr mc ms ah al Qf kc ks pc' L (.int (x <<< (y &&& 31)) :: st) w) : mm_R d M scr mc ms ah al Qf kc ks pc L (.int y :: .int x :: st) w := by
  subst hp
  intro l p e R s m args below meth c Q D ρ X aC aV A n0 hC H locs ls hR hL
  exact lv_ishl hC.1 hC.2.1 h (k l p e R s m args below meth c Q D ρ X aC aV A n0 hC H locs ls hR hL)

theorem r_ishr {x y : Int32} (pc' : Nat) (h : decode M.2.1 pc = .ok (.ishr, 1)) (hp : pc + 1 = pc') (k : mm_R d M scr mc ms ah al Qf kc ks pc' L (.int (x >>> (y &&& 31)) :: st) w) : mm_R d M scr mc ms ah al Qf kc ks pc L (.int y :: .int x :: st) w := by
  subst hp
  intro l p e R s m args below meth c Q D ρ X aC aV A n0 hC H locs ls hR hL
  exact lv_ishr hC.1 hC.2.1 h (k l p e R s m args below meth c Q D ρ X aC aV A n0 hC H locs ls hR hL)

theorem r_idiv {x y : Int32} (pc' : Nat) (h : decode M.2.1 pc = .ok (.idiv, 1)) (hp : pc + 1 = pc') (hne : ¬ y = 0) (k : mm_R d M scr mc ms ah al Qf kc ks pc' L (.int (x / y) :: st) w) : mm_R d M scr mc ms ah al Qf kc ks pc L (.int y :: .int x :: st) w := by
  subst hp
  intro l p e R s m args below meth c Q D ρ X aC aV A n0 hC H locs ls hR hL
  exact lv_idiv hC.1 hC.2.1 h hne (k l p e R s m args below meth c Q D ρ X aC aV A n0 hC H locs ls hR hL)

theorem r_irem {x y : Int32} (pc' : Nat) (h : decode M.2.1 pc = .ok (.irem, 1)) (hp : pc + 1 = pc') (hne : ¬ y = 0) (k : mm_R d M scr mc ms ah al Qf kc ks pc' L (.int (x - x / y * y) :: st) w) : mm_R d M scr mc ms ah al Qf kc ks pc L (.int y :: .int x :: st) w := by
  subst hp
  intro l p e R s m args below meth c Q D ρ X aC aV A n0 hC H locs ls hR hL
  exact lv_irem hC.1 hC.2.1 h hne (k l p e R s m args below meth c Q D ρ X aC aV A n0 hC H locs ls hR hL)

theorem r_iushr {x y : Int32} (pc' : Nat) (h : decode M.2.1 pc = .ok (.iushr, 1)) (hp : pc + 1 = pc') (k : mm_R d M scr mc ms ah al Qf kc ks pc' L (.int (x.toUInt32 >>> (y.toUInt32 &&& Int32.toUInt32 31)).toInt32 :: st) w) : mm_R d M scr mc ms ah al Qf kc ks pc L (.int y :: .int x :: st) w := by
  subst hp
  intro l p e R s m args below meth c Q D ρ X aC aV A n0 hC H locs ls hR hL
  exact lv_iushr hC.1 hC.2.1 h rfl (k l p e R s m args below meth c Q D ρ X aC aV A n0 hC H locs ls hR hL)

theorem r_ladd {x y : Int64} (pc' : Nat) (h : decode M.2.1 pc = .ok (.ladd, 1)) (hp : pc + 1 = pc') (k : mm_R d M scr mc ms ah al Qf kc ks pc' L (.long (x + y) :: st) w) : mm_R d M scr mc ms ah al Qf kc ks pc L (.long y :: .long x :: st) w := by
  subst hp
  intro l p e R s m args below meth c Q D ρ X aC aV A n0 hC H locs ls hR hL
  exact lv_ladd hC.1 hC.2.1 h (k l p e R s m args below meth c Q D ρ X aC aV A n0 hC H locs ls hR hL)

theorem r_lsub {x y : Int64} (pc' : Nat) (h : decode M.2.1 pc = .ok (.lsub, 1)) (hp : pc + 1 = pc') (k : mm_R d M scr mc ms ah al Qf kc ks pc' L (.long (x - y) :: st) w) : mm_R d M scr mc ms ah al Qf kc ks pc L (.long y :: .long x :: st) w := by
  subst hp
  intro l p e R s m args below meth c Q D ρ X aC aV A n0 hC H locs ls hR hL
  exact lv_lsub hC.1 hC.2.1 h (k l p e R s m args below meth c Q D ρ X aC aV A n0 hC H locs ls hR hL)

theorem r_lmul {x y : Int64} (pc' : Nat) (h : decode M.2.1 pc = .ok (.lmul, 1)) (hp : pc + 1 = pc') (k : mm_R d M scr mc ms ah al Qf kc ks pc' L (.long (x * y) :: st) w) : mm_R d M scr mc ms ah al Qf kc ks pc L (.long y :: .long x :: st) w := by
  subst hp
  intro l p e R s m args below meth c Q D ρ X aC aV A n0 hC H locs ls hR hL
  exact lv_lmul hC.1 hC.2.1 h (k l p e R s m args below meth c Q D ρ X aC aV A n0 hC H locs ls hR hL)

theorem r_land {x y : Int64} (pc' : Nat) (h : decode M.2.1 pc = .ok (.land, 1)) (hp : pc + 1 = pc') (k : mm_R d M scr mc ms ah al Qf kc ks pc' L (.long (x &&& y) :: st) w) : mm_R d M scr mc ms ah al Qf kc ks pc L (.long y :: .long x :: st) w := by
  subst hp
  intro l p e R s m args below meth c Q D ρ X aC aV A n0 hC H locs ls hR hL
  exact lv_land hC.1 hC.2.1 h (k l p e R s m args below meth c Q D ρ X aC aV A n0 hC H locs ls hR hL)

theorem r_lor {x y : Int64} (pc' : Nat) (h : decode M.2.1 pc = .ok (.lor, 1)) (hp : pc + 1 = pc') (k : mm_R d M scr mc ms ah al Qf kc ks pc' L (.long (x ||| y) :: st) w) : mm_R d M scr mc ms ah al Qf kc ks pc L (.long y :: .long x :: st) w := by
  subst hp
  intro l p e R s m args below meth c Q D ρ X aC aV A n0 hC H locs ls hR hL
  exact lv_lor hC.1 hC.2.1 h (k l p e R s m args below meth c Q D ρ X aC aV A n0 hC H locs ls hR hL)

theorem r_ldiv {x y : Int64} (pc' : Nat) (h : decode M.2.1 pc = .ok (.ldiv, 1)) (hp : pc + 1 = pc') (hne : ¬ y = 0) (k : mm_R d M scr mc ms ah al Qf kc ks pc' L (.long (x / y) :: st) w) : mm_R d M scr mc ms ah al Qf kc ks pc L (.long y :: .long x :: st) w := by
  subst hp
  intro l p e R s m args below meth c Q D ρ X aC aV A n0 hC H locs ls hR hL
  exact lv_ldiv hC.1 hC.2.1 h hne (k l p e R s m args below meth c Q D ρ X aC aV A n0 hC H locs ls hR hL)

theorem r_lrem {x y : Int64} (pc' : Nat) (h : decode M.2.1 pc = .ok (.lrem, 1)) (hp : pc + 1 = pc') (hne : ¬ y = 0) (k : mm_R d M scr mc ms ah al Qf kc ks pc' L (.long (x - x / y * y) :: st) w) : mm_R d M scr mc ms ah al Qf kc ks pc L (.long y :: .long x :: st) w := by
  subst hp
  intro l p e R s m args below meth c Q D ρ X aC aV A n0 hC H locs ls hR hL
  exact lv_lrem hC.1 hC.2.1 h hne (k l p e R s m args below meth c Q D ρ X aC aV A n0 hC H locs ls hR hL)

theorem r_lushr {x : Int64} {y : Int32} (pc' : Nat) (h : decode M.2.1 pc = .ok (.lushr, 1)) (hp : pc + 1 = pc') (k : mm_R d M scr mc ms ah al Qf kc ks pc' L (.long (x.toUInt64 >>> (y.toInt64.toUInt64 &&& Int64.toUInt64 63)).toInt64 :: st) w) : mm_R d M scr mc ms ah al Qf kc ks pc L (.int y :: .long x :: st) w := by
  subst hp
  intro l p e R s m args below meth c Q D ρ X aC aV A n0 hC H locs ls hR hL
  exact lv_lushr hC.1 hC.2.1 h rfl (k l p e R s m args below meth c Q D ρ X aC aV A n0 hC H locs ls hR hL)

theorem r_lshl {x : Int64} {y : Int32} (pc' : Nat) (h : decode M.2.1 pc = .ok (.lshl, 1)) (hp : pc + 1 = pc') (k : mm_R d M scr mc ms ah al Qf kc ks pc' L (.long (x <<< (y.toInt64 &&& 63)) :: st) w) : mm_R d M scr mc ms ah al Qf kc ks pc L (.int y :: .long x :: st) w := by
  subst hp
  intro l p e R s m args below meth c Q D ρ X aC aV A n0 hC H locs ls hR hL
  exact lv_lshl hC.1 hC.2.1 h rfl (k l p e R s m args below meth c Q D ρ X aC aV A n0 hC H locs ls hR hL)

theorem r_lcmp {x y : Int64} (pc' : Nat) (h : decode M.2.1 pc = .ok (.lcmp, 1)) (hp : pc + 1 = pc') (k : mm_R d M scr mc ms ah al Qf kc ks pc' L (.int (lg_cmp x y) :: st) w) : mm_R d M scr mc ms ah al Qf kc ks pc L (.long y :: .long x :: st) w := by
  subst hp
  intro l p e R s m args below meth c Q D ρ X aC aV A n0 hC H locs ls hR hL
  exact W.lcmp hC.1 hC.2.1 h (k l p e R s m args below meth c Q D ρ X aC aV A n0 hC H locs ls hR hL)

theorem r_i2l {x : Int32} (pc' : Nat) (h : decode M.2.1 pc = .ok (.i2l, 1)) (hp : pc + 1 = pc') (k : mm_R d M scr mc ms ah al Qf kc ks pc' L (.long x.toInt64 :: st) w) : mm_R d M scr mc ms ah al Qf kc ks pc L (.int x :: st) w := by
  subst hp
  intro l p e R s m args below meth c Q D ρ X aC aV A n0 hC H locs ls hR hL
  exact lv_i2l hC.1 hC.2.1 h rfl (k l p e R s m args below meth c Q D ρ X aC aV A n0 hC H locs ls hR hL)

theorem r_l2i {x : Int64} (pc' : Nat) (h : decode M.2.1 pc = .ok (.l2i, 1)) (hp : pc + 1 = pc') (k : mm_R d M scr mc ms ah al Qf kc ks pc' L (.int x.toInt32 :: st) w) : mm_R d M scr mc ms ah al Qf kc ks pc L (.long x :: st) w := by
  subst hp
  intro l p e R s m args below meth c Q D ρ X aC aV A n0 hC H locs ls hR hL
  exact lv_l2i hC.1 hC.2.1 h rfl (k l p e R s m args below meth c Q D ρ X aC aV A n0 hC H locs ls hR hL)

theorem r_i2b {x : Int32} (pc' : Nat) (h : decode M.2.1 pc = .ok (.i2b, 1)) (hp : pc + 1 = pc') (k : mm_R d M scr mc ms ah al Qf kc ks pc' L (.int x.toInt8.toInt32 :: st) w) : mm_R d M scr mc ms ah al Qf kc ks pc L (.int x :: st) w := by
  subst hp
  intro l p e R s m args below meth c Q D ρ X aC aV A n0 hC H locs ls hR hL
  exact lv_i2b hC.1 hC.2.1 h rfl (k l p e R s m args below meth c Q D ρ X aC aV A n0 hC H locs ls hR hL)

theorem r_i2s {x : Int32} (pc' : Nat) (h : decode M.2.1 pc = .ok (.i2s, 1)) (hp : pc + 1 = pc') (k : mm_R d M scr mc ms ah al Qf kc ks pc' L (.int x.toInt16.toInt32 :: st) w) : mm_R d M scr mc ms ah al Qf kc ks pc L (.int x :: st) w := by
  subst hp
  intro l p e R s m args below meth c Q D ρ X aC aV A n0 hC H locs ls hR hL
  exact lv_i2s hC.1 hC.2.1 h rfl (k l p e R s m args below meth c Q D ρ X aC aV A n0 hC H locs ls hR hL)

theorem r_i2c {x : Int32} (pc' : Nat) (h : decode M.2.1 pc = .ok (.i2c, 1)) (hp : pc + 1 = pc') (k : mm_R d M scr mc ms ah al Qf kc ks pc' L (.int (x.toUInt32 % 65536).toInt32 :: st) w) : mm_R d M scr mc ms ah al Qf kc ks pc L (.int x :: st) w := by
  subst hp
  intro l p e R s m args below meth c Q D ρ X aC aV A n0 hC H locs ls hR hL
  exact lv_i2c hC.1 hC.2.1 h rfl (k l p e R s m args below meth c Q D ρ X aC aV A n0 hC H locs ls hR hL)

theorem r_dup {v : Value} (pc' : Nat) (h : decode M.2.1 pc = .ok (.dup, 1)) (hp : pc + 1 = pc') (hc : v.category = 1) (k : mm_R d M scr mc ms ah al Qf kc ks pc' L (v :: v :: st) w) : mm_R d M scr mc ms ah al Qf kc ks pc L (v :: st) w := by
  subst hp
  intro l p e R s m args below meth c Q D ρ X aC aV A n0 hC H locs ls hR hL
  exact lv_dup hC.1 hC.2.1 h (by rw [mm_rv_cat]; exact hc) (k l p e R s m args below meth c Q D ρ X aC aV A n0 hC H locs ls hR hL)

theorem r_pop {v : Value} (pc' : Nat) (h : decode M.2.1 pc = .ok (.pop, 1)) (hp : pc + 1 = pc') (hc : v.category = 1) (k : mm_R d M scr mc ms ah al Qf kc ks pc' L st w) : mm_R d M scr mc ms ah al Qf kc ks pc L (v :: st) w := by
  subst hp
  intro l p e R s m args below meth c Q D ρ X aC aV A n0 hC H locs ls hR hL
  exact lv_pop hC.1 hC.2.1 h (va := mm_rv ρ X v) (by rw [mm_rv_cat]; exact hc) (k l p e R s m args below meth c Q D ρ X aC aV A n0 hC H locs ls hR hL)

theorem r_dup_x1 {v u : Value} (pc' : Nat) (h : decode M.2.1 pc = .ok (.dup_x1, 1)) (hp : pc + 1 = pc') (hc : v.category = 1) (hu : u.category = 1) (k : mm_R d M scr mc ms ah al Qf kc ks pc' L (v :: u :: v :: st) w) : mm_R d M scr mc ms ah al Qf kc ks pc L (v :: u :: st) w := by
  subst hp
  intro l p e R s m args below meth c Q D ρ X aC aV A n0 hC H locs ls hR hL
  exact lv_dup_x1 hC.1 hC.2.1 h (by rw [mm_rv_cat]; exact hc) (by rw [mm_rv_cat]; exact hu) (k l p e R s m args below meth c Q D ρ X aC aV A n0 hC H locs ls hR hL)

theorem r_dup2 {v u : Value} (pc' : Nat) (h : decode M.2.1 pc = .ok (.dup2, 1)) (hp : pc + 1 = pc') (hc : v.category = 1) (hu : u.category = 1) (k : mm_R d M scr mc ms ah al Qf kc ks pc' L (v :: u :: v :: u :: st) w) : mm_R d M scr mc ms ah al Qf kc ks pc L (v :: u :: st) w := by
  subst hp
  intro l p e R s m args below meth c Q D ρ X aC aV A n0 hC H locs ls hR hL
  exact lv_dup2_11 hC.1 hC.2.1 h (by rw [mm_rv_cat]; exact hc) (by rw [mm_rv_cat]; exact hu) (k l p e R s m args below meth c Q D ρ X aC aV A n0 hC H locs ls hR hL)

theorem r_dup2L {x : Int64} (pc' : Nat) (h : decode M.2.1 pc = .ok (.dup2, 1)) (hp : pc + 1 = pc') (k : mm_R d M scr mc ms ah al Qf kc ks pc' L (.long x :: .long x :: st) w) : mm_R d M scr mc ms ah al Qf kc ks pc L (.long x :: st) w := by
  subst hp
  intro l p e R s m args below meth c Q D ρ X aC aV A n0 hC H locs ls hR hL
  exact lv_dup2_2 hC.1 hC.2.1 h (va := .long x) rfl (k l p e R s m args below meth c Q D ρ X aC aV A n0 hC H locs ls hR hL)

theorem r_goto {off : Int} (pc' : Nat) (h : decode M.2.1 pc = .ok (.goto off, 3)) (ht : (pc : Int) + off = (pc' : Int)) (k : mm_R d M scr mc ms ah al Qf kc ks pc' L st w) : mm_R d M scr mc ms ah al Qf kc ks pc L st w := by
  intro l p e R s m args below meth c Q D ρ X aC aV A n0 hC H locs ls hR hL
  exact lv_goto hC.1 hC.2.1 h ht (k l p e R s m args below meth c Q D ρ X aC aV A n0 hC H locs ls hR hL)

theorem r_tabOut {dflt lo hi : Int} {offs : Array Int} {len : Nat} {x : Int32} (pc' : Nat) (h : decode M.2.1 pc = .ok (.tableswitch dflt lo hi offs, len)) (hx : x.toInt < lo ∨ hi < x.toInt) (ht : (pc : Int) + dflt = (pc' : Int)) (k : mm_R d M scr mc ms ah al Qf kc ks pc' L st w) : mm_R d M scr mc ms ah al Qf kc ks pc L (.int x :: st) w := by
  intro l p e R s m args below meth c Q D ρ X aC aV A n0 hC H locs ls hR hL
  exact lv_tableOut hC.1 hC.2.1 h hx ht (k l p e R s m args below meth c Q D ρ X aC aV A n0 hC H locs ls hR hL)

theorem r_tabIn {dflt lo hi off : Int} {offs : Array Int} {len : Nat} {x : Int32} (pc' : Nat) (h : decode M.2.1 pc = .ok (.tableswitch dflt lo hi offs, len)) (h1 : ¬ x.toInt < lo) (h2 : ¬ hi < x.toInt) (ho : offs[(x.toInt - lo).toNat]? = some off) (ht : (pc : Int) + off = (pc' : Int)) (k : mm_R d M scr mc ms ah al Qf kc ks pc' L st w) : mm_R d M scr mc ms ah al Qf kc ks pc L (.int x :: st) w := by
  intro l p e R s m args below meth c Q D ρ X aC aV A n0 hC H locs ls hR hL
  exact lv_tableIn hC.1 hC.2.1 h h1 h2 ho ht (k l p e R s m args below meth c Q D ρ X aC aV A n0 hC H locs ls hR hL)

theorem r_lookup {dflt off : Int} {ps : Array (Int × Int)} {len : Nat} {x : Int32} (pc' : Nat) (h : decode M.2.1 pc = .ok (.lookupswitch dflt ps, len)) (hs : (ps.toList.zip (ps.toList.drop 1)).all (fun (a, next) => a.1 < next.1) = true) (ho : Op.lookupswitch.offset ps.toList dflt x.toInt = off) (ht : (pc : Int) + off = (pc' : Int)) (k : mm_R d M scr mc ms ah al Qf kc ks pc' L st w) : mm_R d M scr mc ms ah al Qf kc ks pc L (.int x :: st) w := by
  intro l p e R s m args below meth c Q D ρ X aC aV A n0 hC H locs ls hR hL
  exact lv_lookup hC.1 hC.2.1 h hs ho ht (k l p e R s m args below meth c Q D ρ X aC aV A n0 hC H locs ls hR hL)

theorem r_if_eq {x : Int32} {off : Int} (tgt pc' : Nat) (h : decode M.2.1 pc = .ok (.ifCond .eq off, 3)) (ht : (pc : Int) + off = (tgt : Int)) (hp : pc + 3 = pc') (kt : x = 0 → mm_R d M scr mc ms ah al Qf kc ks tgt L st w) (kf : ¬ x = 0 → mm_R d M scr mc ms ah al Qf kc ks pc' L st w) : mm_R d M scr mc ms ah al Qf kc ks pc L (.int x :: st) w := by
  subst hp
  intro l p e R s m args below meth c Q D ρ X aC aV A n0 hC H locs ls hR hL
  exact lv_if_eq hC.1 hC.2.1 h ht (fun z => kt z l p e R s m args below meth c Q D ρ X aC aV A n0 hC H locs ls hR hL) (fun z => kf z l p e R s m args below meth c Q D ρ X aC aV A n0 hC H locs ls hR hL)

theorem r_icmp_eq {x y : Int32} {off : Int} (tgt pc' : Nat) (h : decode M.2.1 pc = .ok (.if_icmp .eq off, 3)) (ht : (pc : Int) + off = (tgt : Int)) (hp : pc + 3 = pc') (kt : x = y → mm_R d M scr mc ms ah al Qf kc ks tgt L st w) (kf : ¬ x = y → mm_R d M scr mc ms ah al Qf kc ks pc' L st w) : mm_R d M scr mc ms ah al Qf kc ks pc L (.int y :: .int x :: st) w := by
  subst hp
  intro l p e R s m args below meth c Q D ρ X aC aV A n0 hC H locs ls hR hL
  exact lv_icmp_eq hC.1 hC.2.1 h ht (fun z => kt z l p e R s m args below meth c Q D ρ X aC aV A n0 hC H locs ls hR hL) (fun z => kf z l p e R s m args below meth c Q D ρ X aC aV A n0 hC H locs ls hR hL)

theorem r_if_ne {x : Int32} {off : Int} (tgt pc' : Nat) (h : decode M.2.1 pc = .ok (.ifCond .ne off, 3)) (ht : (pc : Int) + off = (tgt : Int)) (hp : pc + 3 = pc') (kt : ¬ x = 0 → mm_R d M scr mc ms ah al Qf kc ks tgt L st w) (kf : x = 0 → mm_R d M scr mc ms ah al Qf kc ks pc' L st w) : mm_R d M scr mc ms ah al Qf kc ks pc L (.int x :: st) w := by
  subst hp
  intro l p e R s m args below meth c Q D ρ X aC aV A n0 hC H locs ls hR hL
  exact lv_if_ne hC.1 hC.2.1 h ht (fun z => kt z l p e R s m args below meth c Q D ρ X aC aV A n0 hC H locs ls hR hL) (fun z => kf z l p e R s m args below meth c Q D ρ X aC aV A n0 hC H locs ls hR hL)

theorem r_icmp_ne {x y : Int32} {off : Int} (tgt pc' : Nat) (h : decode M.2.1 pc = .ok (.if_icmp .ne off, 3)) (ht : (pc : Int) + off = (tgt : Int)) (hp : pc + 3 = pc') (kt : ¬ x = y → mm_R d M scr mc ms ah al Qf kc ks tgt L st w) (kf : x = y → mm_R d M scr mc ms ah al Qf kc ks pc' L st w) : mm_R d M scr mc ms ah al Qf kc ks pc L (.int y :: .int x :: st) w := by
  subst hp
  intro l p e R s m args below meth c Q D ρ X aC aV A n0 hC H locs ls hR hL
  exact lv_icmp_ne hC.1 hC.2.1 h ht (fun z => kt z l p e R s m args below meth c Q D ρ X aC aV A n0 hC H locs ls hR hL) (fun z => kf z l p e R s m args below meth c Q D ρ X aC aV A n0 hC H locs ls hR hL)

theorem r_if_lt {x : Int32} {off : Int} (tgt pc' : Nat) (h : decode M.2.1 pc = .ok (.ifCond .lt off, 3)) (ht : (pc : Int) + off = (tgt : Int)) (hp : pc + 3 = pc') (kt : x < 0 → mm_R d M scr mc ms ah al Qf kc ks tgt L st w) (kf : ¬ x < 0 → mm_R d M scr mc ms ah al Qf kc ks pc' L st w) : mm_R d M scr mc ms ah al Qf kc ks pc L (.int x :: st) w := by
  subst hp
  intro l p e R s m args below meth c Q D ρ X aC aV A n0 hC H locs ls hR hL
  exact lv_if_lt hC.1 hC.2.1 h ht (fun z => kt z l p e R s m args below meth c Q D ρ X aC aV A n0 hC H locs ls hR hL) (fun z => kf z l p e R s m args below meth c Q D ρ X aC aV A n0 hC H locs ls hR hL)

theorem r_icmp_lt {x y : Int32} {off : Int} (tgt pc' : Nat) (h : decode M.2.1 pc = .ok (.if_icmp .lt off, 3)) (ht : (pc : Int) + off = (tgt : Int)) (hp : pc + 3 = pc') (kt : x < y → mm_R d M scr mc ms ah al Qf kc ks tgt L st w) (kf : ¬ x < y → mm_R d M scr mc ms ah al Qf kc ks pc' L st w) : mm_R d M scr mc ms ah al Qf kc ks pc L (.int y :: .int x :: st) w := by
  subst hp
  intro l p e R s m args below meth c Q D ρ X aC aV A n0 hC H locs ls hR hL
  exact lv_icmp_lt hC.1 hC.2.1 h ht (fun z => kt z l p e R s m args below meth c Q D ρ X aC aV A n0 hC H locs ls hR hL) (fun z => kf z l p e R s m args below meth c Q D ρ X aC aV A n0 hC H locs ls hR hL)

theorem r_if_ge {x : Int32} {off : Int} (tgt pc' : Nat) (h : decode M.2.1 pc = .ok (.ifCond .ge off, 3)) (ht : (pc : Int) + off = (tgt : Int)) (hp : pc + 3 = pc') (kt : 0 ≤ x → mm_R d M scr mc ms ah al Qf kc ks tgt L st w) (kf : ¬ 0 ≤ x → mm_R d M scr mc ms ah al Qf kc ks pc' L st w) : mm_R d M scr mc ms ah al Qf kc ks pc L (.int x :: st) w := by
  subst hp
  intro l p e R s m args below meth c Q D ρ X aC aV A n0 hC H locs ls hR hL
  exact lv_if_ge hC.1 hC.2.1 h ht (fun z => kt z l p e R s m args below meth c Q D ρ X aC aV A n0 hC H locs ls hR hL) (fun z => kf z l p e R s m args below meth c Q D ρ X aC aV A n0 hC H locs ls hR hL)

theorem r_icmp_ge {x y : Int32} {off : Int} (tgt pc' : Nat) (h : decode M.2.1 pc = .ok (.if_icmp .ge off, 3)) (ht : (pc : Int) + off = (tgt : Int)) (hp : pc + 3 = pc') (kt : y ≤ x → mm_R d M scr mc ms ah al Qf kc ks tgt L st w) (kf : ¬ y ≤ x → mm_R d M scr mc ms ah al Qf kc ks pc' L st w) : mm_R d M scr mc ms ah al Qf kc ks pc L (.int y :: .int x :: st) w := by
  subst hp
  intro l p e R s m args below meth c Q D ρ X aC aV A n0 hC H locs ls hR hL
  exact lv_icmp_ge hC.1 hC.2.1 h ht (fun z => kt z l p e R s m args below meth c Q D ρ X aC aV A n0 hC H locs ls hR hL) (fun z => kf z l p e R s m args below meth c Q D ρ X aC aV A n0 hC H locs ls hR hL)

theorem r_if_gt {x : Int32} {off : Int} (tgt pc' : Nat) (h : decode M.2.1 pc = .ok (.ifCond .gt off, 3)) (ht : (pc : Int) + off = (tgt : Int)) (hp : pc + 3 = pc') (kt : 0 < x → mm_R d M scr mc ms ah al Qf kc ks tgt L st w) (kf : ¬ 0 < x → mm_R d M scr mc ms ah al Qf kc ks pc' L st w) : mm_R d M scr mc ms ah al Qf kc ks pc L (.int x :: st) w := by
  subst hp
  intro l p e R s m args below meth c Q D ρ X aC aV A n0 hC H locs ls hR hL
  exact lv_if_gt hC.1 hC.2.1 h ht (fun z => kt z l p e R s m args below meth c Q D ρ X aC aV A n0 hC H locs ls hR hL) (fun z => kf z l p e R s m args below meth c Q D ρ X aC aV A n0 hC H locs ls hR hL)

theorem r_icmp_gt {x y : Int32} {off : Int} (tgt pc' : Nat) (h : decode M.2.1 pc = .ok (.if_icmp .gt off, 3)) (ht : (pc : Int) + off = (tgt : Int)) (hp : pc + 3 = pc') (kt : y < x → mm_R d M scr mc ms ah al Qf kc ks tgt L st w) (kf : ¬ y < x → mm_R d M scr mc ms ah al Qf kc ks pc' L st w) : mm_R d M scr mc ms ah al Qf kc ks pc L (.int y :: .int x :: st) w := by
  subst hp
  intro l p e R s m args below meth c Q D ρ X aC aV A n0 hC H locs ls hR hL
  exact lv_icmp_gt hC.1 hC.2.1 h ht (fun z => kt z l p e R s m args below meth c Q D ρ X aC aV A n0 hC H locs ls hR hL) (fun z => kf z l p e R s m args below meth c Q D ρ X aC aV A n0 hC H locs ls hR hL)

theorem r_if_le {x : Int32} {off : Int} (tgt pc' : Nat) (h : decode M.2.1 pc = .ok (.ifCond .le off, 3)) (ht : (pc : Int) + off = (tgt : Int)) (hp : pc + 3 = pc') (kt : x ≤ 0 → mm_R d M scr mc ms ah al Qf kc ks tgt L st w) (kf : ¬ x ≤ 0 → mm_R d M scr mc ms ah al Qf kc ks pc' L st w) : mm_R d M scr mc ms ah al Qf kc ks pc L (.int x :: st) w := by
  subst hp
  intro l p e R s m args below meth c Q D ρ X aC aV A n0 hC H locs ls hR hL
  exact lv_if_le hC.1 hC.2.1 h ht (fun z => kt z l p e R s m args below meth c Q D ρ X aC aV A n0 hC H locs ls hR hL) (fun z => kf z l p e R s m args below meth c Q D ρ X aC aV A n0 hC H locs ls hR hL)

theorem r_icmp_le {x y : Int32} {off : Int} (tgt pc' : Nat) (h : decode M.2.1 pc = .ok (.if_icmp .le off, 3)) (ht : (pc : Int) + off = (tgt : Int)) (hp : pc + 3 = pc') (kt : x ≤ y → mm_R d M scr mc ms ah al Qf kc ks tgt L st w) (kf : ¬ x ≤ y → mm_R d M scr mc ms ah al Qf kc ks pc' L st w) : mm_R d M scr mc ms ah al Qf kc ks pc L (.int y :: .int x :: st) w := by
  subst hp
  intro l p e R s m args below meth c Q D ρ X aC aV A n0 hC H locs ls hR hL
  exact lv_icmp_le hC.1 hC.2.1 h ht (fun z => kt z l p e R s m args below meth c Q D ρ X aC aV A n0 hC H locs ls hR hL) (fun z => kf z l p e R s m args below meth c Q D ρ X aC aV A n0 hC H locs ls hR hL)

theorem r_drop (L' : List (Option Value)) (hs : ∀ (i : Nat) (v : Value), L'[i]? = some (some v) → L[i]? = some (some v)) (k : mm_R d M scr mc ms ah al Qf kc ks pc L' st w) : mm_R d M scr mc ms ah al Qf kc ks pc L st w := by
  intro l p e R s m args below meth c Q D ρ X aC aV A n0 hC H locs ls hR hL
  exact k l p e R s m args below meth c Q D ρ X aC aV A n0 hC H locs ls hR (hL.mono hs)
theorem r_ret (v : Option Value) (h : mm_rt M.2.1 M.2.2.2.2 pc v) (hc : kc ≤ mc) (hk : ks ≤ ms) (hq : Qf v w) (ha : scr = none → ah = al) (hst : st = v.toList) : mm_R d M scr mc ms ah al Qf kc ks pc L st w := by
  intro l p e R s m args below meth c Q D ρ X aC aV A n0 hC H locs ls hR hL
  subst hst
  have := hC.2.2.2.2.2.2.2.2.2.2.2 kc ks pc v w H locs ls hc hk hq h hR.2.2.2.1 (fun z => by rw [ha z]; exact hR)
  cases v with
  | none => exact this
  | some v => exact this
theorem r_noal (ha : ¬ scr = none) (k : mm_R d M scr mc ms ah false Qf kc ks pc L st w) : mm_R d M scr mc ms ah al Qf kc ks pc L st w := by
  intro l p e R s m args below meth c Q D ρ X aC aV A n0 hC H locs ls hR hL
  obtain ⟨r1, r2, r3, r4, r5, r6⟩ := hR
  have hC2 : mm_Cx d M scr mc ms ah Qf l p e R s m args below meth c Q D ρ X aC aV A w.length := by
    obtain ⟨c1, c2, c3, c4, c5, c6, c7, c8, c9, c10, c11, c12⟩ := hC
    exact ⟨c1, c2, c3, c4, c5, c6, c7, c8, c9, c10, c11, fun kc ks pc v w H locs ls a1 a2 a3 a4 a5 a6 => c12 kc ks pc v w H locs ls a1 a2 a3 a4 a5 (fun z => absurd z ha)⟩
  exact k l p e R s m args below meth c Q D ρ X aC aV A w.length hC2 H locs ls ⟨r1, r2, r3, r4, fun z => absurd z Bool.false_ne_true, fun _ => rfl⟩ hL

end MMR
