def updN (f : Nat → Nat) (k v : Nat) : Nat → Nat := fun i => if i = k then v else f i
abbrev tSA (S : sT) (A : sA) : sT := (A, S.2)
def aK (A : sA) (f v : Nat) : sA := (A.1, updN A.2.1 f v, A.2.2)
def aF (A : sA) (f v : Nat) : sA := (A.1, A.2.1, updN A.2.2.1 f v, A.2.2.2)
def aS (A : sA) (f v : Nat) : sA := (A.1, A.2.1, A.2.2.1, updN A.2.2.2.1 f v, A.2.2.2.2)
def aU (A : sA) (g v : Nat) : sA := (A.1, A.2.1, A.2.2.1, A.2.2.2.1, A.2.2.2.2.1, updN A.2.2.2.2.2.1 g v, A.2.2.2.2.2.2)
def aP (A : sA) (g v : Nat) : sA := (A.1, A.2.1, A.2.2.1, A.2.2.2.1, A.2.2.2.2.1, A.2.2.2.2.2.1, updN A.2.2.2.2.2.2.1 g v, A.2.2.2.2.2.2.2)
def aB (A : sA) (f g : Nat) : sA := (A.1, A.2.1, A.2.2.1, A.2.2.2.1, A.2.2.2.2.1, A.2.2.2.2.2.1, A.2.2.2.2.2.2.1, sB A + 1, updN (sC A) (sB A) f, updN (sE A) (sB A) g)
def aD (A : sA) (b : Nat) : sA := (A.1, A.2.1, A.2.2.1, A.2.2.2.1, A.2.2.2.2.1, A.2.2.2.2.2.1, A.2.2.2.2.2.2.1, sB A - 1, (fun i => if b ≤ i then sC A (i + 1) else sC A i), (fun i => if b ≤ i then sE A (i + 1) else sE A i))
def bitTo (x f v : Nat) : Nat := if v = tb x f then x else x ^^^ 2 ^ f
def s_alter (S : sT) (f what v : Int32) : Int32 × sT := if inb (nI (sN (tA S))) f && mbc (nI (sN (tA S))) what v then (match ix 4 what with
  | 0 => (nI (sK (tA S) f.toNatClampNeg), tSA S (aK (tA S) f.toNatClampNeg v.toNatClampNeg))
  | 1 => (nI (sF (tA S) f.toNatClampNeg), tSA S (aF (tA S) f.toNatClampNeg v.toNatClampNeg))
  | 2 => (nI (sS (tA S) f.toNatClampNeg), tSA S (aS (tA S) f.toNatClampNeg v.toNatClampNeg))
  | 3 => (nI (tb (tX S) f.toNatClampNeg), tSX S (bitTo (tX S) f.toNatClampNeg v.toNatClampNeg))
  | _ => (-1, S)) else (-1, S)
def s_hire (S : sT) (g what v : Int32) : Int32 × sT := if inb (nI (sG (tA S))) g then (match ix 2 what with
  | 0 => if inb (nI (sN (tA S))) v then (nI (sU (tA S) g.toNatClampNeg), tSA S (aU (tA S) g.toNatClampNeg v.toNatClampNeg)) else (-1, S)
  | 1 => if inb 10 v then (nI (sP (tA S) g.toNatClampNeg), tSA S (aP (tA S) g.toNatClampNeg v.toNatClampNeg)) else (-1, S)
  | _ => (-1, S)) else (-1, S)
def s_forbid (S : sT) (f g : Int32) : Int32 × sT := if (inb (nI (sN (tA S))) f && inb (nI (sN (tA S))) g) && decide (¬ f = g) then (if sB (tA S) < 4 then (nI (sB (tA S) + 1), tSA S (aB (tA S) f.toNatClampNeg g.toNatClampNeg)) else (-3, S)) else (-1, S)
def s_lift (S : sT) (b : Int32) : Int32 × sT := if inb (nI (sB (tA S))) b then (nI (sB (tA S) - 1), tSA S (aD (tA S) b.toNatClampNeg)) else (-1, S)
abbrev tSI (S : sT) (I : Nat → Option (sA × Nat × Nat)) : sT := (S.1, S.2.1, S.2.2.1, S.2.2.2.1, S.2.2.2.2.1, S.2.2.2.2.2.1, I, S.2.2.2.2.2.2.2)
def s_keep (S : sT) (k : Int32) : Int32 × sT := if inb 2 k then (bI (tI S k.toNatClampNeg).isSome, tSI S (fun i => if i = k.toNatClampNeg then some (tA S, tX S, tY S) else tI S i)) else (-1, S)
def s_back (S : sT) (k : Int32) : Int32 × sT := if inb 2 k then (match tI S k.toNatClampNeg with
  | none => (-2, S)
  | some q => (nI q.2.2, (q.1, q.2.1, q.2.2, S.2.2.2))) else (-1, S)
abbrev tSH (S : sT) (H : (Nat → Nat) × (Nat → Nat) × (Nat → Nat → Int32)) : sT := (S.1, S.2.1, S.2.2.1, S.2.2.2.1, S.2.2.2.2.1, S.2.2.2.2.2.1, S.2.2.2.2.2.2.1, H, S.2.2.2.2.2.2.2.2)
def s_sheet (S : sT) (k lane n : Int32) : Int32 × sT := if (inb 4 k && inb 3 lane) && decide (n ≤ 40) then (if n < 0 then (-14, S) else (1, tSH S (updN (tH S).1 k.toNatClampNeg lane.toNatClampNeg, updN (tH S).2.1 k.toNatClampNeg n.toNatClampNeg, fun i => if i = k.toNatClampNeg then (fun _ => 0) else (tH S).2.2 i))) else (-1, S)
def s_lay (S : sT) (k i v : Int32) : Int32 × sT := if inb 4 k then (if (tH S).1 k.toNatClampNeg = 3 then (-11, S) else if inb (nI ((tH S).2.1 k.toNatClampNeg)) i then (1, tSH S ((tH S).1, (tH S).2.1, fun j => if j = k.toNatClampNeg then upd ((tH S).2.2 j) i.toNatClampNeg (cut3 (nI ((tH S).1 k.toNatClampNeg)) v) else (tH S).2.2 j)) else (-12, S)) else (-1, S)
theorem updN_at (f : Nat → Nat) (k v : Nat) : updN f k v k = v := by simp [updN]
theorem updN_ne (f : Nat → Nat) {k i : Nat} (v : Nat) (h : i ≠ k) : updN f k v i = f i := by simp [updN, h]
theorem sOk_K {A : sA} (h : sOk A) {f v : Nat} (hv : v ≤ 4) : sOk (aK A f v) := ⟨h.1, fun i hi => ⟨by by_cases q : i = f; (· subst q; show updN _ _ _ _ ≤ 4; rw [updN_at]; exact hv); (· show updN _ _ _ _ ≤ 4; rw [updN_ne _ _ q]; exact (h.2.1 i hi).1), (h.2.1 i hi).2⟩, h.2.2⟩
theorem sOk_F {A : sA} (h : sOk A) {f v : Nat} (hv : v < sN A) : sOk (aF A f v) := ⟨h.1, fun i hi => ⟨(h.2.1 i hi).1, by by_cases q : i = f; (· subst q; show updN _ _ _ _ < sN A; rw [updN_at]; exact hv); (· show updN _ _ _ _ < sN A; rw [updN_ne _ _ q]; exact (h.2.1 i hi).2.1), (h.2.1 i hi).2.2⟩, h.2.2⟩
theorem sOk_S {A : sA} (h : sOk A) {f v : Nat} (hv : v < sN A) : sOk (aS A f v) := ⟨h.1, fun i hi => ⟨(h.2.1 i hi).1, (h.2.1 i hi).2.1, by by_cases q : i = f; (· subst q; show updN _ _ _ _ < sN A; rw [updN_at]; exact hv); (· show updN _ _ _ _ < sN A; rw [updN_ne _ _ q]; exact (h.2.1 i hi).2.2)⟩, h.2.2⟩
theorem sOk_U {A : sA} (h : sOk A) {g v : Nat} (hv : v < sN A) : sOk (aU A g v) := ⟨h.1, h.2.1, h.2.2.1, fun i hi => ⟨by by_cases q : i = g; (· subst q; show updN _ _ _ _ < sN A; rw [updN_at]; exact hv); (· show updN _ _ _ _ < sN A; rw [updN_ne _ _ q]; exact (h.2.2.2.1 i hi).1), (h.2.2.2.1 i hi).2⟩, h.2.2.2.2⟩
theorem sOk_P {A : sA} (h : sOk A) {g v : Nat} (hv : v ≤ 9) : sOk (aP A g v) := ⟨h.1, h.2.1, h.2.2.1, fun i hi => ⟨(h.2.2.2.1 i hi).1, by by_cases q : i = g; (· subst q; show updN _ _ _ _ ≤ 9; rw [updN_at]; exact hv); (· show updN _ _ _ _ ≤ 9; rw [updN_ne _ _ q]; exact (h.2.2.2.1 i hi).2)⟩, h.2.2.2.2⟩
theorem sOk_B {A : sA} (h : sOk A) {f g : Nat} (hf : f < sN A) (hg : g < sN A) (hb : sB A < 4) : sOk (aB A f g) := ⟨h.1, h.2.1, h.2.2.1, h.2.2.2.1, show sB A + 1 ≤ 4 by omega, fun i hi => by
  have hi : i < sB A + 1 := hi
  by_cases q : i = sB A
  · subst q; exact ⟨by show updN _ _ _ _ < sN A; rw [updN_at]; exact hf, by show updN _ _ _ _ < sN A; rw [updN_at]; exact hg⟩
  · exact ⟨by show updN _ _ _ _ < sN A; rw [updN_ne _ _ q]; exact (h.2.2.2.2.2 i (by omega)).1, by show updN _ _ _ _ < sN A; rw [updN_ne _ _ q]; exact (h.2.2.2.2.2 i (by omega)).2⟩⟩
theorem sOk_D {A : sA} (h : sOk A) (b : Nat) : sOk (aD A b) := ⟨h.1, h.2.1, h.2.2.1, h.2.2.2.1, show sB A - 1 ≤ 4 by have := h.2.2.2.2.1; omega, fun i hi => by
  have hi : i < sB A - 1 := hi
  have h1 := h.2.2.2.2.2 i (by omega)
  have h2 := h.2.2.2.2.2 (i + 1) (by omega)
  show (if b ≤ i then sC A (i + 1) else sC A i) < sN A ∧ (if b ≤ i then sE A (i + 1) else sE A i) < sN A
  split
  · exact h2
  · exact h1⟩
theorem bitTo_lt {A : sA} {x f v : Nat} (hx : x < 2 ^ sN A) (hf : f < sN A) : bitTo x f v < 2 ^ sN A := by
  unfold bitTo
  split
  · exact hx
  · exact xor_lt hx hf
/-- a state with laws of the same measure -/
theorem tOk_A {S : sT} (h : tOk S) {A : sA} (hA : sOk A) (h1 : sN A = sN (tA S)) (h2 : sG A = sG (tA S)) : tOk (tSA S A) :=
  ⟨hA, by show tX S < 2 ^ sN A; rw [h1]; exact h.2.1, h.2.2.1, h.2.2.2.1, h.2.2.2.2.1, h.2.2.2.2.2.1, by show vok (tV S) (sN A); rw [h1]; exact h.2.2.2.2.2.2.1, fun k hk q hq => by
    obtain ⟨a, b, c, e, f⟩ := h.2.2.2.2.2.2.2.1 k hk q hq
    exact ⟨a, b, c, by rw [e]; exact h1.symm, by rw [f]; exact h2.symm⟩, h.2.2.2.2.2.2.2.2⟩
