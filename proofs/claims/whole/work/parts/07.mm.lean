-- THE SMALL JUDGEMENT: mm_R (a frame runs to a return with Qf) over a world of cells that name each other by their places; mm_E (a method's contract)
def mm_tb : List Cond := lw_tbl.filter goodWord
theorem mm_in {x : Cond} (i : Nat) (h : lw_tbl[i]? = some x) (g : goodWord x = true) : x ∈ mm_tb := List.mem_filter.mpr ⟨List.mem_of_getElem? h, g⟩
theorem mm_ins (xs : List Cond) (ps : List Nat) (h : xs = ps.filterMap (fun i => lw_tbl[i]?)) (g : xs.all goodWord = true) : ∀ x ∈ xs, x ∈ mm_tb := by
  intro x hx
  have h1 := List.all_eq_true.mp g x hx
  rw [h] at hx
  obtain ⟨i, -, hi⟩ := List.mem_filterMap.mp hx
  exact mm_in i hi h1
theorem mm_tbl {x : Cond} (h : x ∈ mm_tb) : x ∈ lw_tbl := (List.mem_filter.mp h).1
theorem mm_good {x : Cond} (h : x ∈ mm_tb) : (x.onTables && x.keeps) = true ∨ ∃ ty, x = .arrayClass ty := good_of_word (List.mem_filter.mp h).2
theorem mm_goodIn {x : Cond} (h : x ∈ mm_tb) : GoodIn mm_tb (x :: mm_tb) := by
  intro z hz
  rcases List.mem_cons.mp hz with rfl | hz
  · exact ⟨h, mm_good h⟩
  · exact ⟨hz, mm_good hz⟩
abbrev mm_W : Type := List va_E
abbrev mm_M : Type := String × ByteArray × Nat × Bool × Option FieldType
/-- a value as the machine has it: places become addresses, .retAddr j the j-th thing outside (0 the script, j + 1 the j-th literal) -/
def mm_rv (ρ X : Nat → Nat) (v : Value) : Value := match v with
  | .int x => .int x
  | .long x => .long x
  | .float x => .float x
  | .double x => .double x
  | .null => .null
  | .ref i => .ref (ρ i)
  | .retAddr j => .ref (X j)
/-- places renamed -/
def mm_rn (σ : Nat → Nat) (v : Value) : Value := match v with
  | .int x => .int x
  | .long x => .long x
  | .float x => .float x
  | .double x => .double x
  | .null => .null
  | .ref i => .ref (σ i)
  | .retAddr j => .retAddr j
def mm_ra (ρ : Nat → Nat) (a : vp_A) : vp_A := match a with
  | (n, .inl f) => (n, .inl f)
  | (n, .inr (.inl f)) => (n, .inr (.inl f))
  | (n, .inr (.inr (.inl f))) => (n, .inr (.inr (.inl f)))
  | (n, .inr (.inr (.inr (.inl f)))) => (n, .inr (.inr (.inr (.inl f))))
  | (n, .inr (.inr (.inr (.inr f)))) => (n, .inr (.inr (.inr (.inr (fun j => (f j).map ρ)))))
def mm_re (ρ X aC : Nat → Nat) (e : va_E) : va_E := match e with
  | .inl (t, a) => .inl (aC t, mm_ra ρ a)
  | .inr (ci, fs) => .inr (ci, fs.map (mm_rv ρ X))
def mm_rc (σ : Nat → Nat) (e : va_E) : va_E := match e with
  | .inl (t, a) => .inl (t, mm_ra σ a)
  | .inr (ci, fs) => .inr (ci, fs.map (mm_rn σ))
theorem mm_rv_rn (ρ X σ : Nat → Nat) (v : Value) : mm_rv ρ X (mm_rn σ v) = mm_rv (fun k => ρ (σ k)) X v := by cases v <;> rfl
theorem mm_ra_ra (ρ σ : Nat → Nat) (a : vp_A) : mm_ra ρ (mm_ra σ a) = mm_ra (fun k => ρ (σ k)) a := by
  obtain ⟨n, f | f | f | f | f⟩ := a
  · rfl
  · rfl
  · rfl
  · rfl
  · simp only [mm_ra, Option.map_map]
    rfl
theorem mm_re_rc (ρ X aC σ : Nat → Nat) (e : va_E) : mm_re ρ X aC (mm_rc σ e) = mm_re (fun k => ρ (σ k)) X aC e := by
  obtain ⟨t, a⟩ | ⟨ci, fs⟩ := e
  · simp only [mm_re, mm_rc, mm_ra_ra]
  · simp only [mm_re, mm_rc, List.map_map]
    congr 3
    funext v
    exact mm_rv_rn ρ X σ v
theorem mm_rv_cat (ρ X : Nat → Nat) (v : Value) : (mm_rv ρ X v).category = v.category := by cases v <;> rfl
/-- the array classes: by their places 0 int, 1 byte, 2 boolean, 3 Floor, 4 Sheet -/
def mm_ty (aC : Nat → Nat) : List (ClassId × FieldType) := [(aC 0, .int), (aC 1, .byte), (aC 2, .boolean), (aC 3, .object RX0), (aC 4, .object RX3)]
/-- the private members that nest mates call -/
def mm_nl : List (String × Nat × MethodName × String) := [("FloorYears", 9, ⟨"FloorYears$Floor", "<init>", "()V"⟩, "FloorYears"), ("FloorYears", 29, ⟨"FloorYears$Reader", "<init>", "()V"⟩, "FloorYears"), ("FloorYears$Reader", 11, ⟨"FloorYears$Tape", "<init>", "()V"⟩, "FloorYears"), ("FloorYears$Reader", 20, ⟨"FloorYears$Floor", "<init>", "()V"⟩, "FloorYears"), ("FloorYears", 36, ⟨"FloorYears$Sights", "<init>", "()V"⟩, "FloorYears"), ("FloorYears", 43, ⟨"FloorYears$Search", "<init>", "()V"⟩, "FloorYears"), ("FloorYears", 50, ⟨"FloorYears$Tally", "<init>", "()V"⟩, "FloorYears"), ("FloorYears", 61, ⟨"FloorYears$Sheet", "<init>", "()V"⟩, "FloorYears"), ("FloorYears$Reader", 112, ⟨"FloorYears", "isSo", "(II)Z"⟩, "FloorYears"), ("FloorYears$Floor", 74, ⟨"FloorYears", "isSo", "(II)Z"⟩, "FloorYears"), ("FloorYears$Floor", 63, ⟨"FloorYears", "isBit", "(I)Z"⟩, "FloorYears"), ("FloorYears$Search", 34, ⟨"FloorYears", "power", "(II)J"⟩, "FloorYears"), ("FloorYears$Search", 66, ⟨"FloorYears", "undone", "(II)I"⟩, "FloorYears"), ("FloorYears$Search", 83, ⟨"FloorYears", "isSo", "(II)Z"⟩, "FloorYears"), ("FloorYears$Search", 87, ⟨"FloorYears", "bit", "(Z)I"⟩, "FloorYears"), ("FloorYears$Floor", 90, ⟨"FloorYears", "bit", "(Z)I"⟩, "FloorYears"), ("FloorYears$Sights", 39, ⟨"FloorYears", "isSo", "(II)Z"⟩, "FloorYears"), ("FloorYears$Sights", 53, ⟨"FloorYears", "bit", "(Z)I"⟩, "FloorYears")]
/-- the literals: entry, text, length, bytes -/
def mm_sx : List (Nat × String × Nat × List Int32) := [(75, "plain", 5, [112, 108, 97, 105, 110]), (81, "echo", 4, [101, 99, 104, 111]), (83, "contrary", 8, [99, 111, 110, 116, 114, 97, 114, 121]), (85, "jealous", 7, [106, 101, 97, 108, 111, 117, 115]), (87, "easy", 4, [101, 97, 115, 121]), (89, "so", 2, [115, 111]), (91, "guest", 5, [103, 117, 101, 115, 116]), (93, "ban", 3, [98, 97, 110])]
def mm_Sv (X aV : Nat → Nat) (A : Nat → Prop) (U : State) (H : Heap) : Prop :=
  vk_S 8 (mm_sx.map fun q => q.2.2.1) (mm_sx.map fun q => q.2.2.2) (fun j => X (j + 1)) (fun j => X (100 + j)) A U H ∧ va_Z "java/lang/String" "COMPACT_STRINGS" "Z" (.int 1) A U H ∧ (va_Z "jdk/internal/util/Preconditions" "SIOOBE_FORMATTER" "Ljava/util/function/BiFunction;" .null A U H ∨ va_Z "jdk/internal/util/Preconditions" "SIOOBE_FORMATTER" "Ljava/util/function/BiFunction;" (.ref (X 99)) A U H)
/-- what is there beside the world: nest words, literals -/
def mm_Ev (X aV : Nat → Nat) (A : Nat → Prop) (U : State) (H : Heap) : Prop :=
  (∀ q ∈ mm_nl, va_Nw (.methodLinkNest q.1 q.2.1 q.2.2.1 q.2.2.2) U) ∧ (∀ (j : Nat) (q : Nat × String × Nat × List Int32), mm_sx[j]? = some q → vk_R RX1 q.1 q.2.1 (X (j + 1)) U) ∧ (va_AO RX0 U ∧ va_AO RX3 U) ∧ mm_Sv X aV A U H
theorem mm_Sv.moved {X aV : Nat → Nat} {A : Nat → Prop} {u U : State} {H : Heap} (hvm : u.vm.Alike U.vm) (h : mm_Sv X aV A u H) : mm_Sv X aV A U H := ⟨vk_S.moved hvm h.1, va_Z.moved hvm h.2.1, h.2.2.imp (va_Z.moved hvm) (va_Z.moved hvm)⟩
theorem mm_Sv.kept {X aV : Nat → Nat} {A : Nat → Prop} {U : State} {H H1 : Heap} (h : mm_Sv X aV A U H) (hq : ∀ a : Nat, a < H.size → ¬ A a → H1[a]? = H[a]?) : mm_Sv X aV A U H1 := ⟨h.1.kept hq, h.2.1.kept hq, h.2.2.imp (fun z => z.kept hq) (fun z => z.kept hq)⟩
theorem mm_Sv.narrow {X aV : Nat → Nat} {A B : Nat → Prop} {U : State} {H : Heap} (h : mm_Sv X aV A U H) (hAB : ∀ q, B q → A q) : mm_Sv X aV B U H := ⟨h.1.narrow hAB, h.2.1.narrow hAB, h.2.2.imp (fun z => z.narrow hAB) (fun z => z.narrow hAB)⟩
theorem mm_Ev.warm {X aV : Nat → Nat} {A : Nat → Prop} {s U : State} {H : Heap} (hW : s.WarmedH U.vm) (h : mm_Ev X aV A s H) : mm_Ev X aV A U H :=
  ⟨fun q hq => va_Nw.warmM hW (h.1 q hq), fun j q hq => vk_R.warm hW (h.2.1 j q hq), ⟨h.2.2.1.1.moved hW.alike, h.2.2.1.2.moved hW.alike⟩, h.2.2.2.moved hW.alike⟩
theorem mm_Ev.same {X aV : Nat → Nat} {A : Nat → Prop} {u U : State} {H : Heap} (hv : U.vm = u.vm) (h : mm_Ev X aV A u H) : mm_Ev X aV A U H :=
  by
  have ha : u.vm.Alike U.vm := by rw [hv]; exact Vm.Alike.refl _
  exact ⟨fun q hq => va_Nw.same rfl hv.symm (h.1 q hq), fun j q hq => vk_R.same hv (h.2.1 j q hq), ⟨h.2.2.1.1.moved ha, h.2.2.1.2.moved ha⟩, h.2.2.2.moved ha⟩
theorem mm_Ev.kept {X aV : Nat → Nat} {A : Nat → Prop} {U : State} {H H1 : Heap} (h : mm_Ev X aV A U H) (hq : ∀ a : Nat, a < H.size → ¬ A a → H1[a]? = H[a]?) : mm_Ev X aV A U H1 := ⟨h.1, h.2.1, h.2.2.1, h.2.2.2.kept hq⟩
theorem mm_Ev.narrow {X aV : Nat → Nat} {A B : Nat → Prop} {U : State} {H : Heap} (h : mm_Ev X aV A U H) (hAB : ∀ q, B q → A q) : mm_Ev X aV B U H := ⟨h.1, h.2.1, h.2.2.1, h.2.2.2.narrow hAB⟩
/-- the heap holds the world (al: cells are being made) -/
def mm_Rl (al : Bool) (n0 : Nat) (A : Nat → Prop) (H0 H : Heap) (locs : List Loc) (ρ X aC : Nat → Nat) (D : va_G) (w : mm_W) : Prop :=
  (∀ (k : Nat) (c : va_E), w[k]? = some c → va_at D vwCl (ρ k, mm_re ρ X aC c) H) ∧ (∀ i j : Nat, i < w.length → j < w.length → ρ i = ρ j → i = j) ∧ (∀ k : Nat, k < w.length → A (ρ k)) ∧ va_S A H0 H locs ∧
  (al = true → n0 ≤ w.length ∧ H.size + n0 = H0.size + w.length ∧ ∀ k : Nat, w.length ≤ k → ρ k = H.size + (k - w.length)) ∧ (al = false → w.length = n0)
/-- locals: which slots hold what -/
def mm_as (ρ X : Nat → Nat) : Nat → List (Option Value) → List (Nat × Value)
  | _, [] => []
  | i, none :: t => mm_as ρ X (i + 1) t
  | i, some v :: t => (i, mm_rv ρ X v) :: mm_as ρ X (i + 1) t
theorem mm_as_mem (ρ X : Nat → Nat) : ∀ (L : List (Option Value)) (i : Nat) (q : Nat × Value), q ∈ mm_as ρ X i L ↔ ∃ (k : Nat) (v : Value), L[k]? = some (some v) ∧ q = (i + k, mm_rv ρ X v) := by
  intro L
  induction L with
  | nil => intro i q; simp [mm_as]
  | cons a t ih =>
    intro i q
    cases a with
    | none =>
      rw [mm_as, ih]
      constructor
      · rintro ⟨k, v, h1, h2⟩
        exact ⟨k + 1, v, by simpa using h1, by rw [h2, show i + 1 + k = i + (k + 1) by omega]⟩
      · rintro ⟨k, v, h1, h2⟩
        cases k with
        | zero => simp at h1
        | succ k => exact ⟨k, v, by simpa using h1, by rw [h2, show i + 1 + k = i + (k + 1) by omega]⟩
    | some u =>
      rw [mm_as, List.mem_cons, ih]
      constructor
      · rintro (h | ⟨k, v, h1, h2⟩)
        · exact ⟨0, u, by simp, by rw [h]; rfl⟩
        · exact ⟨k + 1, v, by simpa using h1, by rw [h2, show i + 1 + k = i + (k + 1) by omega]⟩
      · rintro ⟨k, v, h1, h2⟩
        cases k with
        | zero =>
          simp at h1
          rw [h1]
          exact Or.inl h2
        | succ k => exact Or.inr ⟨k, v, by simpa using h1, by rw [h2, show i + 1 + k = i + (k + 1) by omega]⟩
abbrev mm_LV (ρ X : Nat → Nat) (ls : Array Slot) (nL : Nat) (L : List (Option Value)) : Prop := lv_has ls nL (mm_as ρ X 0 L)
theorem mm_LV.at {ρ X : Nat → Nat} {ls : Array Slot} {nL : Nat} {L : List (Option Value)} (h : mm_LV ρ X ls nL L) {i : Nat} {v : Value} (hi : L[i]? = some (some v)) : ls[i]? = some (.val (mm_rv ρ X v)) :=
  h.2.2 (i, mm_rv ρ X v) ((mm_as_mem ρ X L 0 _).mpr ⟨i, v, hi, by rw [Nat.zero_add]⟩)
theorem mm_LV.mono {ρ X : Nat → Nat} {ls : Array Slot} {nL : Nat} {L L' : List (Option Value)} (h : mm_LV ρ X ls nL L) (hs : ∀ (i : Nat) (v : Value), L'[i]? = some (some v) → L[i]? = some (some v)) : mm_LV ρ X ls nL L' := by
  refine ⟨h.1, h.2.1, fun q hq => ?_⟩
  obtain ⟨k, v, h1, h2⟩ := (mm_as_mem ρ X L' 0 q).mp hq
  exact h.2.2 q ((mm_as_mem ρ X L 0 q).mpr ⟨k, v, hs k v h1, h2⟩)
/-- a slot that held a long is spoilt when its second half is written -/
def mm_kl (a : Option Value) : Option Value := match a with
  | some (.long _) => none
  | some (.double _) => none
  | a => a
theorem mm_kl_spec {a : Option Value} {v : Value} (h : mm_kl a = some v) : a = some v ∧ ¬ v.category = 2 := by
  cases a with
  | none => simp [mm_kl] at h
  | some u => cases u <;> simp [mm_kl] at h <;> subst h <;> exact ⟨rfl, by simp [Value.category]⟩
def mm_s1 : List (Option Value) → Nat → Value → List (Option Value)
  | [], _, _ => []
  | _ :: t, 0, v => some v :: t
  | a :: t, 1, v => mm_kl a :: mm_s1 t 0 v
  | a :: t, i + 2, v => a :: mm_s1 t (i + 1) v
def mm_s2 : List (Option Value) → Nat → Value → List (Option Value)
  | [], _, _ => []
  | _ :: [], 0, _ => [none]
  | _ :: _ :: t, 0, v => some v :: none :: t
  | a :: t, 1, v => mm_kl a :: mm_s2 t 0 v
  | a :: t, i + 2, v => a :: mm_s2 t (i + 1) v
theorem mm_s1_spec : ∀ (L : List (Option Value)) (i : Nat) (v : Value) (j : Nat) (u : Value), (mm_s1 L i v)[j]? = some (some u) → (j = i ∧ u = v) ∨ (j ≠ i ∧ L[j]? = some (some u) ∧ ¬ (j + 1 = i ∧ u.category = 2)) := by
  intro L
  induction L with
  | nil => intro i v j u h; simp [mm_s1] at h
  | cons a t ih =>
    intro i v j u h
    match i, h with
    | 0, h =>
      cases j with
      | zero => simp [mm_s1] at h; exact Or.inl ⟨rfl, h.symm⟩
      | succ j => simp [mm_s1] at h; exact Or.inr ⟨by omega, by simpa using h, by omega⟩
    | 1, h =>
      cases j with
      | zero =>
        simp [mm_s1] at h
        obtain ⟨h1, h2⟩ := mm_kl_spec h
        exact Or.inr ⟨by omega, by simp [h1], fun z => h2 z.2⟩
      | succ j =>
        simp [mm_s1] at h
        rcases ih 0 v j u h with ⟨h1, h2⟩ | ⟨h1, h2, h3⟩
        · exact Or.inl ⟨by omega, h2⟩
        · exact Or.inr ⟨by omega, by simpa using h2, by omega⟩
    | i + 2, h =>
      cases j with
      | zero => simp [mm_s1] at h; exact Or.inr ⟨by omega, by simp [h], by omega⟩
      | succ j =>
        simp [mm_s1] at h
        rcases ih (i + 1) v j u h with ⟨h1, h2⟩ | ⟨h1, h2, h3⟩
        · exact Or.inl ⟨by omega, h2⟩
        · exact Or.inr ⟨by omega, by simpa using h2, fun z => h3 ⟨by omega, z.2⟩⟩
theorem mm_s2_spec : ∀ (L : List (Option Value)) (i : Nat) (v : Value) (j : Nat) (u : Value), (mm_s2 L i v)[j]? = some (some u) → (j = i ∧ u = v) ∨ (j ≠ i ∧ j ≠ i + 1 ∧ L[j]? = some (some u) ∧ ¬ (j + 1 = i ∧ u.category = 2)) := by
  intro L
  induction L with
  | nil => intro i v j u h; simp [mm_s2] at h
  | cons a t ih =>
    intro i v j u h
    match i, h with
    | 0, h =>
      cases t with
      | nil => cases j <;> simp [mm_s2] at h
      | cons b t =>
        cases j with
        | zero => simp [mm_s2] at h; exact Or.inl ⟨rfl, h.symm⟩
        | succ j =>
          cases j with
          | zero => simp [mm_s2] at h
          | succ j => simp [mm_s2] at h; exact Or.inr ⟨by omega, by omega, by simpa using h, by omega⟩
    | 1, h =>
      cases j with
      | zero =>
        simp [mm_s2] at h
        obtain ⟨h1, h2⟩ := mm_kl_spec h
        exact Or.inr ⟨by omega, by omega, by simp [h1], fun z => h2 z.2⟩
      | succ j =>
        simp [mm_s2] at h
        rcases ih 0 v j u h with ⟨h1, h2⟩ | ⟨h1, h2, h3, h4⟩
        · exact Or.inl ⟨by omega, h2⟩
        · exact Or.inr ⟨by omega, by omega, by simpa using h3, by omega⟩
    | i + 2, h =>
      cases j with
      | zero => simp [mm_s2] at h; exact Or.inr ⟨by omega, by omega, by simp [h], by omega⟩
      | succ j =>
        simp [mm_s2] at h
        rcases ih (i + 1) v j u h with ⟨h1, h2⟩ | ⟨h1, h2, h3, h4⟩
        · exact Or.inl ⟨by omega, h2⟩
        · exact Or.inr ⟨by omega, by omega, by simpa using h3, fun z => h4 ⟨by omega, z.2⟩⟩
theorem mm_LV.s1 {ρ X : Nat → Nat} {ls : Array Slot} {nL : Nat} {L : List (Option Value)} {i : Nat} {v : Value} (h : lv_has ls nL ((i, mm_rv ρ X v) :: (mm_as ρ X 0 L).filter (fun q => !(q.1 == i) && !(q.1 + 1 == i && q.2.category == 2)))) : mm_LV ρ X ls nL (mm_s1 L i v) := by
  refine ⟨h.1, h.2.1, fun q hq => ?_⟩
  obtain ⟨k, u, h1, h2⟩ := (mm_as_mem ρ X _ 0 q).mp hq
  refine h.2.2 q ?_
  rw [Nat.zero_add] at h2
  rcases mm_s1_spec L i v k u h1 with ⟨e1, e2⟩ | ⟨e1, e2, e3⟩
  · rw [h2, e1, e2]; exact List.mem_cons_self
  · refine List.mem_cons_of_mem _ (List.mem_filter.mpr ⟨(mm_as_mem ρ X L 0 q).mpr ⟨k, u, e2, by rw [h2, Nat.zero_add]⟩, ?_⟩)
    rw [h2]
    simp only [Bool.and_eq_true, Bool.not_eq_true', beq_eq_false_iff_ne, ne_eq, mm_rv_cat, Bool.and_eq_false_imp, beq_iff_eq]
    exact ⟨e1, fun z y => e3 ⟨z, y⟩⟩
theorem mm_LV.s2 {ρ X : Nat → Nat} {ls : Array Slot} {nL : Nat} {L : List (Option Value)} {i : Nat} {v : Value} (h : lv_has ls nL ((i, mm_rv ρ X v) :: (mm_as ρ X 0 L).filter (fun q => !(q.1 == i) && (!(q.1 == i + 1) && !(q.1 + 1 == i && q.2.category == 2))))) : mm_LV ρ X ls nL (mm_s2 L i v) := by
  refine ⟨h.1, h.2.1, fun q hq => ?_⟩
  obtain ⟨k, u, h1, h2⟩ := (mm_as_mem ρ X _ 0 q).mp hq
  refine h.2.2 q ?_
  rw [Nat.zero_add] at h2
  rcases mm_s2_spec L i v k u h1 with ⟨e1, e2⟩ | ⟨e1, e0, e2, e3⟩
  · rw [h2, e1, e2]; exact List.mem_cons_self
  · refine List.mem_cons_of_mem _ (List.mem_filter.mpr ⟨(mm_as_mem ρ X L 0 q).mpr ⟨k, u, e2, by rw [h2, Nat.zero_add]⟩, ?_⟩)
    rw [h2]
    simp only [Bool.and_eq_true, Bool.not_eq_true', beq_eq_false_iff_ne, ne_eq, mm_rv_cat, Bool.and_eq_false_imp, beq_iff_eq]
    exact ⟨e1, e0, fun z y => e3 ⟨z, y⟩⟩
/-- locals at the start -/
def mm_l1 : List Value → List (Option Value)
  | [] => []
  | .long x :: t => some (.long x) :: none :: mm_l1 t
  | .double x :: t => some (.double x) :: none :: mm_l1 t
  | v :: t => some v :: mm_l1 t
def mm_l0 (vs : List Value) (n : Nat) : List (Option Value) := mm_l1 vs ++ List.replicate (n - (mm_l1 vs).length) none
theorem mm_as_none (ρ X : Nat → Nat) : ∀ (n i : Nat), mm_as ρ X i (List.replicate n none) = [] := by
  intro n
  induction n with
  | zero => intro i; rfl
  | succ n ih => intro i; rw [List.replicate_succ, mm_as, ih]
theorem mm_as_l1 (ρ X : Nat → Nat) (n : Nat) : ∀ (vs : List Value) (i : Nat), mm_as ρ X i (mm_l1 vs ++ List.replicate n none) = lv_args i (vs.map (mm_rv ρ X)) := by
  intro vs
  induction vs with
  | nil => intro i; simp [mm_l1, mm_as_none, lv_args]
  | cons v t ih =>
    intro i
    cases v <;> simp [mm_l1, mm_as, lv_args, mm_rv, Value.category, ih]
theorem mm_l1_len (ρ X : Nat → Nat) : ∀ (vs : List Value), (lg_sl (vs.map (mm_rv ρ X))).length = (mm_l1 vs).length := by
  intro vs
  induction vs with
  | nil => rfl
  | cons v t ih =>
    have e : ∀ (a : Value) (l : List Value), lg_sl (a :: l) = (if a.category = 2 then [Slot.val a, Slot.second] else [Slot.val a]) ++ lg_sl l := fun a l => rfl
    cases v <;> simp [mm_l1, e, mm_rv, Value.category, ih] <;> omega
/-- which return it is -/
def mm_rt (cc : ByteArray) (ret : Option FieldType) (pc : Nat) (v : Option Value) : Prop := match v with
  | none => decode cc pc = .ok (.return_, 1) ∧ ret = none
  | some (.int x) => decode cc pc = .ok (.ireturn, 1) ∧ ∃ ty, ret = some ty ∧ narrow ty (.int x) = .int x
  | some (.long _) => decode cc pc = .ok (.lreturn, 1) ∧ ret = some .long
  | _ => False
def mm_sc (scr : Option (Nat × (Nat → Int32))) (b : Nat) (A : Nat → Prop) (s : State) : Prop := match scr with
  | none => True
  | some q => va_X b q.1 q.2 s s.heap ∧ b < s.heap.size ∧ ¬ A b
def mm_Cx (d : Nat) (M : mm_M) (scr : Option (Nat × (Nat → Int32))) (mc ms : Nat) (ah : Bool) (Qf : Option Value → mm_W → Prop) (l : Launch) (p : Program) (e : Env) (R : Room) (s : State) (m : MethodId) (args : Array Value) (below : List Frame) (meth : Method) (c : Code) (Q : State → Prop) (D : va_G) (ρ X aC aV : Nat → Nat) (A : Nat → Prop) (n0 : Nat) : Prop :=
  p.tables.exec = Jvm.exec ∧ c.code = M.2.1 ∧ c.maxLocals = M.2.2.1 ∧ s.vm.findClass M.1 = some m.cls ∧ (∀ x ∈ mm_tb, x.before args s = true) ∧ (M.2.2.2.1 = true → meth.name = "<init>") ∧ va_K D vwCl (mm_ty aC) s ∧ (∀ q : Nat, s.heap.size ≤ q → A q) ∧ mm_Ev X aV A s s.heap ∧ mm_sc scr (X 0) A s ∧ (d ≤ R.frames ∧ 34 * d ≤ R.locals ∧ mc ≤ R.cells ∧ ms ≤ R.slots) ∧
  ∀ (kc ks pc : Nat) (v : Option Value) (w : mm_W) (H : Heap) (locs : List Loc) (ls : Array Slot), kc ≤ mc → ks ≤ ms → Qf v w → mm_rt M.2.1 M.2.2.2.2 pc v → va_S A s.heap H locs → (scr = none → mm_Rl ah n0 A s.heap H locs ρ X aC D w) → W p l e R s m args below meth c H locs kc ks Q (F0 m pc ls (v.map (mm_rv ρ X)).toList)
/-- THE JUDGEMENT -/
def mm_R (d : Nat) (M : mm_M) (scr : Option (Nat × (Nat → Int32))) (mc ms : Nat) (ah al : Bool) (Qf : Option Value → mm_W → Prop) (kc ks pc : Nat) (L : List (Option Value)) (st : List Value) (w : mm_W) : Prop :=
  ∀ (l : Launch) (p : Program) (e : Env) (R : Room) (s : State) (m : MethodId) (args : Array Value) (below : List Frame) (meth : Method) (c : Code) (Q : State → Prop) (D : va_G) (ρ X aC aV : Nat → Nat) (A : Nat → Prop) (n0 : Nat), mm_Cx d M scr mc ms ah Qf l p e R s m args below meth c Q D ρ X aC aV A n0 →
    ∀ (H : Heap) (locs : List Loc) (ls : Array Slot), mm_Rl al n0 A s.heap H locs ρ X aC D w → mm_LV ρ X ls M.2.2.1 L → W p l e R s m args below meth c H locs kc ks Q (F0 m pc ls (st.map (mm_rv ρ X)))
/-- a method's cells: its world's, and those that it makes -/
def mm_A (ρ : Nat → Nat) (n sz : Nat) : Nat → Prop := fun q => (∃ k, k < n ∧ q = ρ k) ∨ sz ≤ q
def mm_Qc (al : Bool) (Qf : Option Value → mm_W → Prop) (ρ X aC : Nat → Nat) (D : va_G) (n sz : Nat) : Array Value → State → Outcome → State → Prop := fun _ st oc t =>
  (∃ (v : Option Value) (u : mm_W), oc = .returned (v.map (mm_rv ρ X)) ∧ Qf v u ∧ (∀ (k : Nat) (c : va_E), u[k]? = some c → va_at D vwCl (ρ k, mm_re ρ X aC c) t.heap) ∧ (al = true → n ≤ u.length ∧ t.heap.size + n = sz + u.length) ∧ (al = false → u.length = n)) ∧ va_F (mm_A ρ n sz) st t
def mm_Pc (ρ X aC aV : Nat → Nat) (D : va_G) (args : List Value) (w : mm_W) (sz : Nat) : Array Value → State → Prop :=
  va_Pc (args.map (mm_rv ρ X)) (fun U => U.heap.size = sz ∧ (∀ (k : Nat) (c : va_E), w[k]? = some c → va_at D vwCl (ρ k, mm_re ρ X aC c) U.heap) ∧ va_K D vwCl (mm_ty aC) U ∧ mm_Ev X aV (mm_A ρ w.length sz) U U.heap)
/-- A METHOD'S CONTRACT -/
def mm_E (al : Bool) (d : Nat) (y : MethodName) (M : mm_M) (args : List Value) (w : mm_W) (mc ms : Nat) (Qf : Option Value → mm_W → Prop) : Prop :=
  ∀ (l : Launch) (D : va_G) (ρ X aC aV : Nat → Nat) (sz : Nat), (al = true → ∀ k : Nat, w.length ≤ k → ρ k = sz + (k - w.length)) → (∀ i j : Nat, i < w.length → j < w.length → ρ i = ρ j → i = j) →
    Met l y (.code y M.2.1 M.2.2.1 M.2.2.2.2 :: mm_tb) { frames := d, cells := mc, slots := ms, locals := 34 * d } (mm_Pc ρ X aC aV D args w sz) (mm_Qc al Qf ρ X aC D w.length sz) mc ms (mm_A ρ w.length sz)
theorem mm_blind (ρ X aC aV : Nat → Nat) (D : va_G) (args : List Value) (w : mm_W) (sz : Nat) : FrameBlind (mm_Pc ρ X aC aV D args w sz) := by
  intro a U g mk h
  obtain ⟨h1, h2, h3, h4, h5⟩ := h
  exact ⟨h1, h2, h3, va_K.moved (u := U) (U := U.calling g mk a) (Vm.Alike.refl U.vm) h4, mm_Ev.same (u := U) (U := U.calling g mk a) rfl h5⟩
set_option maxHeartbeats 4000000 in
theorem mm_E.of {al : Bool} {d : Nat} {y : MethodName} {M : mm_M} {args : List Value} {w : mm_W} {mc ms : Nat} {Qf : Option Value → mm_W → Prop} (hcls : y.cls = M.1) (hpl : plainName y.cls = true) (hini : M.2.2.2.1 = true → y.name = "<init>") (hlen : (mm_l1 args).length ≤ M.2.2.1)
    (h : mm_R d M none mc ms al al Qf 0 0 0 (mm_l0 args M.2.2.1) [] w) : mm_E al d y M args w mc ms Qf := by
  intro l D ρ X aC aV sz hρ hinj
  refine Met.ofW (cc := M.2.1) (maxL := M.2.2.1) (ret := M.2.2.2.2) hpl rfl ?_
  intro p e s m args' below meth c s₁ B hml hv
  obtain ⟨rfl, hsz, hP, hK, hEv⟩ := hv
  subst hsz
  have hts := atoms_spec (ws := .code y M.2.1 M.2.2.1 M.2.2.2.2 :: mm_tb) B.pre
  have hown : s.vm.findClass M.1 = some m.cls := by rw [← hcls]; exact findClass_of_methodNamed B.named
  have hlocks := B.notSynchronized
  have hin : M.2.2.2.1 = true → meth.name = "<init>" := fun z => ((name_of_methodNamed B.named B.method).1).trans (hini z)
  have hl := lv_entry (args.map (mm_rv ρ X)) (n := M.2.2.1) (by rw [mm_l1_len]; exact hlen)
  rw [lg_entry_eq]
  generalize hls : (lg_sl (args.map (mm_rv ρ X)) ++ List.replicate (M.2.2.1 - (lg_sl (args.map (mm_rv ρ X))).length) Slot.unset).toArray = ls at hl ⊢
  have hL : mm_LV ρ X ls M.2.2.1 (mm_l0 args M.2.2.1) := by
    show lv_has ls M.2.2.1 (mm_as ρ X 0 (mm_l1 args ++ List.replicate _ none))
    rw [mm_as_l1]
    exact hl
  have hA : ∀ q : Nat, s.heap.size ≤ q → mm_A ρ w.length s.heap.size q := fun q hq => Or.inr hq
  refine h l p e _ s m _ below meth c _ D ρ X aC aV (mm_A ρ w.length s.heap.size) w.length ⟨B.exec, B.bytes, hml, hown, fun x hx => hts x (List.mem_cons_of_mem _ hx), hin, hK, hA, hEv, trivial, ⟨Nat.le_refl _, Nat.le_refl _, Nat.le_refl _, Nat.le_refl _⟩, ?_⟩ s.heap [] ls ⟨hP, hinj, fun k hk => Or.inl ⟨k, hk, rfl⟩, va_S.rf, fun z => ⟨Nat.le_refl _, rfl, hρ z⟩, fun _ => rfl⟩ hL
  intro kc ks pc v w' H locs ls' h1 h2 hQ hrt hS0 hR
  have hR := hR rfl
  refine W.widen h1 h2 ?_
  obtain ⟨r1, r2, r3, r4, r5, r6⟩ := hR
  have hr := B.returns
  have post : ∀ t : State, t.heap = H → mm_Qc al Qf ρ X aC D w.length s.heap.size (args.map (mm_rv ρ X)).toArray s (.returned (v.map (mm_rv ρ X))) t := by
    intro t ht
    refine ⟨⟨v, w', rfl, hQ, ?_, ?_, r6⟩, r4.F ht⟩
    · rw [ht]; exact r1
    · intro z
      obtain ⟨z1, z2, -⟩ := r5 z
      exact ⟨z1, by rw [ht]; exact z2⟩
  match v, hrt, post with
  | none, hrt, post => exact W.vret B.exec B.bytes (by rw [hr]; exact hrt.2) (fun t ht _ => post t ht) r4.2.2 hrt.1
  | some (.int x), hrt, post =>
    obtain ⟨g1, ty, g2, g3⟩ := hrt
    exact W.zret (ty := ty) B.exec B.bytes (by rw [hr]; exact g2) g3 (fun t ht _ => post t ht) r4.2.2 g1
  | some (.long x), hrt, post => exact W.lret B.exec B.bytes (by rw [hr]; exact hrt.2) (fun t ht _ => post t ht) r4.2.2 hrt.1
  | some .null, hrt, _ => exact absurd hrt id
  | some (.ref _), hrt, _ => exact absurd hrt id
  | some (.float _), hrt, _ => exact absurd hrt id
  | some (.double _), hrt, _ => exact absurd hrt id
  | some (.retAddr _), hrt, _ => exact absurd hrt id
