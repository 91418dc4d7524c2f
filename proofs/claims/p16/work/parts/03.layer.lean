/-! THE LAYER. A world G is a list of cells; a cell's place in the list is its address; the run's own addresses are 'loc' of it (old cells, then all that is made, one behind another).
ab_W X M d G pc L st Q: the method M, at pc with locals L and stack st over the world G, with d frames of room, comes to an end (o, G') with Q o G'. All of the machine's bookkeeping is inside. -/
abbrev ab_E : Type := (Nat × vp_A) ⊕ (Nat × List Value)
abbrev ab_G : Type := List ab_E
/-- launch, classes' numbers and slots, array classes by tag, places, the first new address -/
abbrev ab_X : Type := Launch × va_G × List (ClassId × FieldType) × (Nat → Nat) × Nat
/-- class, name, bytes, locals, return type, what is known of the handlers -/
abbrev ab_Y : Type := String × String × ByteArray × Nat × Option FieldType × (Code → Prop)
/-- how many old cells stand ahead: the script, the static arrays -/
def ab_n0 : Nat := 18
def ab_v (f : Nat → Nat) (v : Value) : Value := match v with
  | .ref a => .ref (f a)
  | w => w
def ab_c (f : Nat → Nat) (x : (Nat → Int32) ⊕ (Nat → Int64) ⊕ (Nat → UInt32) ⊕ (Nat → UInt64) ⊕ (Nat → Option Nat)) : (Nat → Int32) ⊕ (Nat → Int64) ⊕ (Nat → UInt32) ⊕ (Nat → UInt64) ⊕ (Nat → Option Nat) := match x with
  | .inl g => .inl g
  | .inr (.inl g) => .inr (.inl g)
  | .inr (.inr (.inl g)) => .inr (.inr (.inl g))
  | .inr (.inr (.inr (.inl g))) => .inr (.inr (.inr (.inl g)))
  | .inr (.inr (.inr (.inr g))) => .inr (.inr (.inr (.inr fun k => (g k).map f)))
def ab_ft : List FieldType := [.int, .boolean, .long, .object "PatternWorks$Program"]
/-- what is known of an array's slots, an old one's too -/
def ab_arr (cell : Cell) (n : Nat) (S : Array Value) : Prop := n ≤ cell.slots.size ∧ cell.slots.size.toInt32 = Int32.ofNat n ∧ ∀ j, j < n → cell.slots[j]? = S[j]?
/-- the cell at a place is held by the heap: an array by its contents (it may be an old one), an object by its class's table -/
def ab_at (X : ab_X) (U : State) (a : Nat) (e : ab_E) (H : Heap) : Prop := match e with
  | .inl q => ∃ (cell : Cell) (ft : FieldType), H[X.2.2.2.1 a]? = some cell ∧ ab_ft[q.1]? = some ft ∧ U.isArrayOf cell ft ∧ cell.vm ≠ .unknown ∧ ab_arr cell q.2.1 (vp_cell 0 (q.2.1, ab_c X.2.2.2.1 q.2.2)).slots ∧ (ab_n0 ≤ a → cell.slots = (vp_cell 0 (q.2.1, ab_c X.2.2.2.1 q.2.2)).slots) ∧ (q.1 = 3 → cell.cls = (X.2.2.1.getD 3 (0, .int)).1) ∧ (q.1 = 0 → ab_n0 ≤ a → cell.vm = .none ∧ U.vm.findClass "[I" = some cell.cls)
  | .inr o => va_at X.2.1 classes (X.2.2.2.1 a, .inr (o.1, o.2.map (ab_v X.2.2.2.1))) H
def ab_sz (e : ab_E) : Nat := match e with
  | .inl a => a.2.1
  | .inr o => ab_csz.getD o.1 0
def ab_slots (G : ab_G) : Nat := ((G.map ab_sz).drop ab_n0).sum
def ab_o (f : Nat → Nat) (o : Outcome) : Outcome := match o with
  | .returned v => .returned (v.map (ab_v f))
  | .threw a => .threw (f a)
/-- words of the tables that stay true wherever a run of this launch goes on -/
def ab_ok (w : Cond) : Bool := goodWord w || (match w with
  | .fieldLinkNest .. => true
  | .methodLinkNest .. => true
  | .castable .. => true
  | .declares .. => true
  | .arrayOver (.object _) => true
  | _ => false)
def ab_T (s : State) : Prop := ∀ w ∈ lw_tbl, ab_ok w = true → ∀ args : Array Value, w.before args s = true
def ab_L (X : ab_X) : Prop := (∀ i j, ab_n0 ≤ i → i < 1000000000 → j < 1000000000 → X.2.2.2.1 i = X.2.2.2.1 j → i = j) ∧ (∀ k, ab_n0 + k < 1000000000 → X.2.2.2.1 (ab_n0 + k) = X.2.2.2.2 + k) ∧ X.1.stackTraces = false
def ab_H (X : ab_X) (U : State) (G : ab_G) (H : Heap) : Prop := (∀ (a : Nat) (e : ab_E), G[a]? = some e → ab_at X U a e H) ∧ H.size = X.2.2.2.1 G.length ∧ ab_n0 ≤ G.length ∧ G.length ≤ ab_n0 + room_1.cells ∧ ab_slots G ≤ room_1.slots
def ab_ty (t : List (ClassId × FieldType)) : Prop := t.map Prod.snd = ab_ft
/-- static fields that hold old arrays: class, name, descriptor, place -/
def ab_stat : List (String × String × String × Nat) := [("PatternWorks", "DIGITS", "[I", 1), ("PatternWorks", "SPACES", "[I", 2), ("PatternWorks", "WORDS", "[I", 3), ("PatternWorks", "LETTERS", "[I", 4), ("PatternWorks", "NUMBERS", "[I", 5), ("PatternWorks", "GREEK", "[I", 6), ("PatternWorks", "CYRILLIC", "[I", 7), ("PatternWorks", "PLAIN_LETTERS", "[I", 8), ("PatternWorks", "PLAIN_UPPER", "[I", 9), ("PatternWorks", "PLAIN_LOWER", "[I", 10), ("PatternWorks", "PUNCTUATION", "[I", 11), ("PatternWorks", "WIDE_SPACES", "[I", 12), ("PatternWorks", "ANYTHING", "[I", 13), ("PatternWorks", "ANYTHING_ON_A_LINE", "[I", 14), ("PatternWorks", "ALIKE_RANGES", "[I", 15), ("PatternWorks", "ALIKE_FOURS", "[I", 16), ("PatternWorks", "FIXED_CUTS", "[I", 17)]
/-- texts of exceptions: class, pool index, text -/
def ab_msg : List (String × Nat × String) := [("PatternWorks", 111, "no such slot or flags"), ("PatternWorks", 123, "a fault in the pattern"), ("PatternWorks", 167, "no pattern there, or no such how or machine"), ("PatternWorks", 169, "no such place"), ("PatternWorks", 187, "no pattern there"), ("PatternWorks", 208, "no such template"), ("PatternWorks", 222, "too much output"), ("PatternWorks", 235, "no such number of states")]
/-- a static field that a class lays for itself, and that holds a reference or null -/
def ab_St (C n d : String) (A : Nat → Prop) (s : State) (H : Heap) : Prop := va_Zq C n d A s H ∧ ∃ (c i a : Nat) (k : Class) (f : Field) (cell : Cell), s.vm.findClass C = some c ∧ s.fieldFound? C n d = some (c, k, i, f) ∧ f.isStatic = true ∧ k.statics = some a ∧ H[a]? = some cell ∧ cell.vm.isStatics = true ∧ cell.cls = c ∧ f.slot < cell.slots.size ∧ k.staticTypes[f.slot]? = some f.type ∧ ¬ A a
theorem ab_St.moved {C n d : String} {A : Nat → Prop} {u U : State} {H : Heap} (hvm : u.vm.Alike U.vm) (h : ab_St C n d A u H) : ab_St C n d A U H := by
  obtain ⟨h0, c, i, a, k, f, cell, h1, h2, h3, h4, h5, h6, h7, h8, h9, h10⟩ := h
  obtain ⟨k', hi', he⟩ := State.fieldFound?_setVm hvm h2
  exact ⟨va_Zq.moved hvm h0, c, i, a, k', f, cell, by rw [hvm.findClass]; exact h1, hi', h3, by rw [he]; exact h4, h5, h6, h7, h8, by rw [he]; exact h9, h10⟩
theorem ab_St.kept {C n d : String} {A : Nat → Prop} {U : State} {H H1 : Heap} (h : ab_St C n d A U H) (hq : ∀ a : Nat, a < H.size → ¬ A a → H1[a]? = H[a]?) : ab_St C n d A U H1 := by
  obtain ⟨h0, c, i, a, k, f, cell, h1, h2, h3, h4, h5, h6, h7, h8, h9, h10⟩ := h
  exact ⟨va_Zq.kept h0 hq, c, i, a, k, f, cell, h1, h2, h3, h4, by rw [hq a (Array.getElem?_eq_some_iff.mp h5).1 h10]; exact h5, h6, h7, h8, h9, h10⟩
/-- addresses from here on are none of the world's: String constants, and what they hold -/
def ab_big : Nat := 1000000000
/-- String constants that are read: class, pool index, text -/
def ab_str : List (String × Nat × String) := [("PatternWorks$Text", 146, "digit:]"), ("PatternWorks$Text", 152, "alpha:]"), ("PatternWorks$Text", 157, "upper:]"), ("PatternWorks$Text", 162, "lower:]"), ("PatternWorks$Text", 167, "punct:]"), ("PatternWorks$Text", 172, "space:]")]
def ab_sby : List (List Int32) := [[100, 105, 103, 105, 116, 58, 93], [97, 108, 112, 104, 97, 58, 93], [117, 112, 112, 101, 114, 58, 93], [108, 111, 119, 101, 114, 58, 93], [112, 117, 110, 99, 116, 58, 93], [115, 112, 97, 99, 101, 58, 93]]
def ab_Sg1 (X : ab_X) (s : State) (j : Nat) : Prop := (∃ q, ab_str[j]? = some q ∧ vk_R q.1 q.2.1 q.2.2 (X.2.2.2.1 (ab_big + j)) s) ∧ va_O "java/lang/String" (X.2.2.2.1 (ab_big + j)) (fun z => X.2.2.2.2 ≤ z) s s.heap ∧ va_OF "java/lang/String" "coder" "B" (.int 0) (X.2.2.2.1 (ab_big + j)) (fun z => X.2.2.2.2 ≤ z) s s.heap ∧ va_OF "java/lang/String" "value" "[B" (.ref (X.2.2.2.1 (ab_big + 6 + j))) (X.2.2.2.1 (ab_big + j)) (fun z => X.2.2.2.2 ≤ z) s s.heap ∧ va_T .byte (X.2.2.2.1 (ab_big + 6 + j)) 7 (fun i => .int ((ab_sby.getD j []).getD i 0)) (fun z => X.2.2.2.2 ≤ z) s s.heap
def ab_Sg (X : ab_X) (s : State) : Prop := (∀ j, j < 6 → ab_Sg1 X s j) ∧ va_Z "java/lang/String" "COMPACT_STRINGS" "Z" (.int 1) (fun z => X.2.2.2.2 ≤ z) s s.heap ∧ (va_Z "jdk/internal/util/Preconditions" "SIOOBE_FORMATTER" "Ljava/util/function/BiFunction;" .null (fun z => X.2.2.2.2 ≤ z) s s.heap ∨ va_Z "jdk/internal/util/Preconditions" "SIOOBE_FORMATTER" "Ljava/util/function/BiFunction;" (.ref (X.2.2.2.1 (ab_big + 12))) (fun z => X.2.2.2.2 ≤ z) s s.heap)
def ab_V (X : ab_X) (s : State) : Prop := (∀ q ∈ ab_stat, va_Z q.1 q.2.1 q.2.2.1 (.ref (X.2.2.2.1 q.2.2.2)) (fun z => X.2.2.2.2 ≤ z) s s.heap) ∧
  (∀ q ∈ ab_msg, ∃ a, vk_R q.1 q.2.1 q.2.2 a s) ∧ ab_St "java/lang/Throwable" "UNASSIGNED_STACK" "[Ljava/lang/StackTraceElement;" (fun z => X.2.2.2.2 ≤ z) s s.heap ∧ ab_St "java/lang/Throwable" "SUPPRESSED_SENTINEL" "Ljava/util/List;" (fun z => X.2.2.2.2 ≤ z) s s.heap ∧ ab_Sg X s
def ab_Ls (f : Nat → Nat) (nL : Nat) (ls : Array Slot) (L : List (Option Value)) : Prop := ls.size = nL ∧ lv_wf ls ∧ ∀ (i : Nat) (v : Value), L[i]? = some (some v) → ls[i]? = some (.val (ab_v f v))
def ab_C (X : ab_X) (M : ab_Y) (d : Nat) (p : Program) (R : Room) (s : State) (m : MethodId) (meth : Method) (c : Code) (c0 s0 : Nat) : Prop :=
  (p.tables.exec = Jvm.exec ∧ c.code = M.2.2.1 ∧ c.maxLocals = M.2.2.2.1 ∧ s.vm.findClass M.1 = some m.cls ∧ meth.sig.returnType = M.2.2.2.2.1 ∧ meth.locks = false ∧ meth.name = M.2.1 ∧ M.2.2.2.2.2 c) ∧
  (ab_T s ∧ va_K X.2.1 classes X.2.2.1 s ∧ ab_ty X.2.2.1 ∧ ab_V X s) ∧ ab_L X ∧ (d ≤ R.frames ∧ 41 * d ≤ R.locals) ∧ (c0 + R.cells = ab_n0 + room_1.cells ∧ s0 + R.slots = room_1.slots) ∧ X.2.2.2.2 ≤ s.heap.size
def ab_Z (X : ab_X) (Q : Outcome → ab_G → Prop) (below : List Frame) (s : State) (c0 s0 : Nat) (Z : State → Prop) : Prop :=
  ∀ (t : State) (o : Outcome) (G : ab_G) (locs : List Loc) (k n : Nat), Q o G → t.status = .running → Ended t below (ab_o X.2.2.2.1 o) → s.WarmedH t.vm → s.sameButNew ({ t with vm := s.vm } : State) locs k n → ab_H X s G t.heap → va_S (fun q => X.2.2.2.2 ≤ q) s.heap t.heap locs → k + c0 = G.length → n + s0 = ab_slots G → Z t
def ab_W (X : ab_X) (M : ab_Y) (d : Nat) (G : ab_G) (pc : Nat) (L : List (Option Value)) (st : List Value) (Q : Outcome → ab_G → Prop) : Prop :=
  ∀ (p : Program) (e : Env) (R : Room) (s : State) (m : MethodId) (args : Array Value) (below : List Frame) (meth : Method) (c : Code) (H : Heap) (ls : Array Slot) (locs : List Loc) (cells slots c0 s0 : Nat) (Z : State → Prop),
    ab_C X M d p R s m meth c c0 s0 → ab_H X s G H → ab_Ls X.2.2.2.1 M.2.2.2.1 ls L → va_S (fun q => X.2.2.2.2 ≤ q) s.heap H locs → cells + c0 = G.length → slots + s0 = ab_slots G → ab_Z X Q below s c0 s0 Z →
    W p X.1 e R s m args below meth c H locs cells slots Z (F0 m pc ls (st.map (ab_v X.2.2.2.1)))
/-- a class's tables -/
def ab_cls (ci : Nat) (C : String) (T : u_T) (N : Nat) (ty : Nat → FieldType) : Prop :=
  classes[ci]? = some (C, T, N) ∧ (∀ w ∈ u_ws C T N, w ∈ lw_tbl) ∧ (∀ k, k < N → parseFieldDescriptor (T k).2.2.1 = some (ty k)) ∧ ∀ a, a < N → ∀ b, b < N → a ≠ b → (T a).2.1 ≠ (T b).2.1
/-- entry idx of own's pool is field k of class ci -/
def ab_fl (own : String) (idx ci k : Nat) (ft : FieldType) (fin : Bool) : Prop :=
  ∃ (C : String) (T : u_T) (N : Nat) (ty : Nat → FieldType), ab_cls ci C T N ty ∧ k < N ∧ (T k).1 = C ∧ (T k).2.2.2 = fin ∧ ty k = ft ∧
    (Cond.fieldLink own idx C (T k).2.1 (T k).2.2.1 ∈ lw_tbl ∨ ∃ host, Cond.fieldLinkNest own idx C (T k).2.1 (T k).2.2.1 host ∈ lw_tbl)
/-- a value that a field of a type takes as it is -/
def ab_fit (ft : FieldType) (v : Value) : Prop := ∀ f : Nat → Nat, narrow ft (ab_v f v) = ab_v f v ∧ fits ft (ab_v f v) = true
/-- no long stands just ahead of place i -/
def ab_nl (L : List (Option Value)) (i : Nat) : Bool := match i with
  | 0 => true
  | j + 1 => match L[j]? with
    | some (some v) => v.category == 1
    | _ => true
theorem ab_cat (f : Nat → Nat) (v : Value) : (ab_v f v).category = v.category := by cases v <;> rfl
theorem ab_cats (f : Nat → Nat) (st : List Value) : ((st.map (ab_v f)).map fun v => v.category) = st.map fun v => v.category := by
  induction st with
  | nil => rfl
  | cons v r ih => simp only [List.map_cons, ih, ab_cat]
def ab_lv (f : Nat → Nat) (L : List (Option Value)) : List (Nat × Value) := L.zipIdx.filterMap fun q => q.1.map fun v => (q.2, ab_v f v)
theorem ab_lv_mem {f : Nat → Nat} {L : List (Option Value)} {q : Nat × Value} : q ∈ ab_lv f L ↔ ∃ v, L[q.1]? = some (some v) ∧ q.2 = ab_v f v := by
  constructor
  · intro h
    obtain ⟨⟨o, i⟩, hm, hq⟩ := List.mem_filterMap.mp h
    cases o with
    | none => cases hq
    | some v =>
      cases hq
      exact ⟨v, List.mk_mem_zipIdx_iff_getElem?.mp hm, rfl⟩
  · rintro ⟨v, hv, he⟩
    refine List.mem_filterMap.mpr ⟨(some v, q.1), List.mk_mem_zipIdx_iff_getElem?.mpr hv, ?_⟩
    obtain ⟨i, w⟩ := q
    simp only at he ⊢
    rw [he]; rfl
theorem ab_Ls.has {f : Nat → Nat} {nL : Nat} {ls : Array Slot} {L : List (Option Value)} (h : ab_Ls f nL ls L) : lv_has ls nL (ab_lv f L) := by
  refine ⟨h.1, h.2.1, fun q hq => ?_⟩
  obtain ⟨v, hv, he⟩ := ab_lv_mem.mp hq
  rw [he]; exact h.2.2 _ _ hv
theorem ab_Ls.st1 {f : Nat → Nat} {nL : Nat} {ls' : Array Slot} {L : List (Option Value)} {i : Nat} {v : Value} (hl : i < L.length) (hn : ab_nl L i = true)
    (h' : lv_has ls' nL ((i, ab_v f v) :: (ab_lv f L).filter (fun q => !(q.1 == i) && !(q.1 + 1 == i && q.2.category == 2)))) : ab_Ls f nL ls' (L.set i (some v)) := by
  refine ⟨h'.1, h'.2.1, fun j w hj => ?_⟩
  by_cases e : i = j
  · subst e
    rw [List.getElem?_set_self hl] at hj
    cases hj
    exact h'.2.2 _ List.mem_cons_self
  · rw [List.getElem?_set_ne e] at hj
    refine h'.2.2 (j, ab_v f w) (List.mem_cons_of_mem _ (List.mem_filter.mpr ⟨ab_lv_mem.mpr ⟨w, hj, rfl⟩, ?_⟩))
    have e1 : (j == i) = false := by simpa using fun h => e h.symm
    have e2 : (j + 1 == i && (ab_v f w).category == 2) = false := by
      by_cases e3 : j + 1 = i
      · subst e3
        simp only [ab_nl, hj, beq_iff_eq] at hn
        rw [ab_cat, hn]; simp
      · have : (j + 1 == i) = false := by simpa using e3
        rw [this]; rfl
    simp only [e1, e2]; rfl
theorem ab_Ls.st2 {f : Nat → Nat} {nL : Nat} {ls' : Array Slot} {L : List (Option Value)} {i : Nat} {v : Value} (hl : i < L.length) (hn : ab_nl L i = true)
    (h' : lv_has ls' nL ((i, ab_v f v) :: (ab_lv f L).filter (fun q => !(q.1 == i) && (!(q.1 == i + 1) && !(q.1 + 1 == i && q.2.category == 2))))) : ab_Ls f nL ls' ((L.set (i + 1) none).set i (some v)) := by
  refine ⟨h'.1, h'.2.1, fun j w hj => ?_⟩
  by_cases e : i = j
  · subst e
    rw [List.getElem?_set_self (by simpa using hl)] at hj
    cases hj
    exact h'.2.2 _ List.mem_cons_self
  · rw [List.getElem?_set_ne e] at hj
    by_cases e4 : i + 1 = j
    · subst e4
      by_cases hb : i + 1 < L.length
      · rw [List.getElem?_set_self hb] at hj; cases hj
      · rw [List.getElem?_eq_none (by simp; omega)] at hj; cases hj
    · rw [List.getElem?_set_ne e4] at hj
      refine h'.2.2 (j, ab_v f w) (List.mem_cons_of_mem _ (List.mem_filter.mpr ⟨ab_lv_mem.mpr ⟨w, hj, rfl⟩, ?_⟩))
      have e1 : (j == i) = false := by simpa using fun h => e h.symm
      have e5 : (j == i + 1) = false := by simpa using fun h => e4 h.symm
      have e2 : (j + 1 == i && (ab_v f w).category == 2) = false := by
        by_cases e3 : j + 1 = i
        · subst e3
          simp only [ab_nl, hj, beq_iff_eq] at hn
          rw [ab_cat, hn]; simp
        · have : (j + 1 == i) = false := by simpa using e3
          rw [this]; rfl
      simp only [e1, e2, e5]; rfl
/-- fewer known locals -/
theorem ab_Ls.less {f : Nat → Nat} {nL : Nat} {ls : Array Slot} {L L' : List (Option Value)} (h : ab_Ls f nL ls L) (hl : ∀ (i : Nat) (v : Value), L'[i]? = some (some v) → L[i]? = some (some v)) : ab_Ls f nL ls L' := ⟨h.1, h.2.1, fun i v hv => h.2.2 i v (hl i v hv)⟩
theorem ab_vsz (n : Nat) (c : (Nat → Int32) ⊕ (Nat → Int64) ⊕ (Nat → UInt32) ⊕ (Nat → UInt64) ⊕ (Nat → Option Nat)) : (vp_cell 0 (n, c)).slots.size = n := by
  obtain f | f | f | f | f := c
  · exact arrV_size 0 n _
  · exact arrV_size 0 n _
  · exact arrV_size 0 n _
  · exact arrV_size 0 n _
  · exact arrV_size 0 n _
theorem ab_arr.of {cell : Cell} {n : Nat} {S : Array Value} (h : cell.slots = S) (hz : S.size = n) : ab_arr cell n S := by
  subst h; subst hz
  exact ⟨Nat.le_refl _, rfl, fun _ _ => rfl⟩
theorem ab_one {D : va_G} {q : Nat × va_E} {H : Heap} (h : va_at D classes q H) : va_P D classes [q] H := by
  intro k x hk
  have hz : k < 1 := (List.getElem?_eq_some_iff.mp hk).1
  rw [show k = 0 by omega] at hk
  cases hk
  exact h
theorem ab_at.kept {X : ab_X} {U : State} {a : Nat} {e : ab_E} {H H1 : Heap} (h : ab_at X U a e H) (hq : H1[X.2.2.2.1 a]? = H[X.2.2.2.1 a]?) : ab_at X U a e H1 := by
  cases e with
  | inl q =>
    obtain ⟨cell, ft, h1, h2⟩ := h
    exact ⟨cell, ft, hq.trans h1, h2⟩
  | inr o => exact va_at.kept (q := (X.2.2.2.1 a, .inr (o.1, o.2.map (ab_v X.2.2.2.1)))) h hq
theorem ab_at.lt {X : ab_X} {U : State} {a : Nat} {e : ab_E} {H : Heap} (h : ab_at X U a e H) : X.2.2.2.1 a < H.size := by
  cases e with
  | inl q =>
    obtain ⟨cell, ft, h1, -⟩ := h
    exact (Array.getElem?_eq_some_iff.mp h1).1
  | inr o => exact va_at.lt (q := (X.2.2.2.1 a, .inr (o.1, o.2.map (ab_v X.2.2.2.1)))) h
theorem ab_at.moved {X : ab_X} {u U : State} {a : Nat} {e : ab_E} {H : Heap} (hvm : u.vm.Alike U.vm) (h : ab_at X u a e H) : ab_at X U a e H := by
  cases e with
  | inl q =>
    obtain ⟨cell, ft, h1, h2, h3, h4, h5, h6, h7, h8⟩ := h
    exact ⟨cell, ft, h1, h2, State.isArrayOf_alike hvm h3, h4, h5, h6, h7, fun g1 g2 => ⟨(h8 g1 g2).1, by rw [hvm.findClass]; exact (h8 g1 g2).2⟩⟩
  | inr o => exact h
theorem ab_H.moved {X : ab_X} {u U : State} {G : ab_G} {H : Heap} (hvm : u.vm.Alike U.vm) (h : ab_H X u G H) : ab_H X U G H := ⟨fun a e he => (h.1 a e he).moved hvm, h.2⟩
theorem ab_slots_set {G : ab_G} {a : Nat} {e e0 : ab_E} (h : G[a]? = some e0) (hz : ab_sz e = ab_sz e0) : ab_slots (G.set a e) = ab_slots G := by
  unfold ab_slots
  congr 2
  apply List.ext_getElem?
  intro j
  rw [List.getElem?_map, List.getElem?_map]
  by_cases e1 : a = j
  · subst e1
    rw [List.getElem?_set_self (List.getElem?_eq_some_iff.mp h).1, h, Option.map_some, Option.map_some, hz]
  · rw [List.getElem?_set_ne e1]
theorem ab_slots_app {G : ab_G} (e : ab_E) (h : ab_n0 ≤ G.length) : ab_slots (G ++ [e]) = ab_slots G + ab_sz e := by
  unfold ab_slots
  rw [List.map_append, List.drop_append_of_le_length (by simpa using h)]
  simp
theorem ab_L.next {X : ab_X} (hL : ab_L X) {i : Nat} (h : ab_n0 ≤ i) (hb : i + 1 < 1000000000) : X.2.2.2.1 (i + 1) = X.2.2.2.1 i + 1 := by
  obtain ⟨k, rfl⟩ := Nat.exists_eq_add_of_le h
  rw [Nat.add_assoc, hL.2.1 _ (by omega), hL.2.1 _ (by omega)]; omega
theorem ab_L.base {X : ab_X} (hL : ab_L X) {i : Nat} (h : ab_n0 ≤ i) (hb : i < 1000000000) : X.2.2.2.2 ≤ X.2.2.2.1 i := by
  obtain ⟨k, rfl⟩ := Nat.exists_eq_add_of_le h
  rw [hL.2.1 _ hb]; omega
theorem ab_room : ab_n0 + room_1.cells < 1000000000 := by decide
theorem ab_lt {X : ab_X} {U : State} {G : ab_G} {H : Heap} (h : ab_H X U G H) {a : Nat} {e : ab_E} (ha : G[a]? = some e) : a < 1000000000 := by
  have h1 := (List.getElem?_eq_some_iff.mp ha).1
  have h2 := h.2.2.2.1
  have h3 := ab_room
  omega
/-- a cell was written -/
theorem ab_H.set {X : ab_X} (hL : ab_L X) {U : State} {G : ab_G} {H H1 : Heap} (h : ab_H X U G H) {a : Nat} (hn0 : ab_n0 ≤ a) {e0 e : ab_E} (ha : G[a]? = some e0) (hn : ab_at X U a e H1) (hz : H1.size = H.size) (oq : ∀ q, q ≠ X.2.2.2.1 a → H1[q]? = H[q]?) (hsz : ab_sz e = ab_sz e0) : ab_H X U (G.set a e) H1 := by
  refine ⟨fun b x hb => ?_, by rw [hz, h.2.1, List.length_set], by rw [List.length_set]; exact h.2.2.1, by rw [List.length_set]; exact h.2.2.2.1, by rw [ab_slots_set ha hsz]; exact h.2.2.2.2⟩
  by_cases e1 : a = b
  · subst e1
    rw [List.getElem?_set_self (List.getElem?_eq_some_iff.mp ha).1] at hb
    cases hb
    exact hn
  · rw [List.getElem?_set_ne e1] at hb
    exact (h.1 b x hb).kept (oq _ fun e2 => e1 (hL.1 _ _ hn0 (ab_lt h ha) (ab_lt h hb) e2.symm))
/-- a cell was made -/
theorem ab_H.app {X : ab_X} (hL : ab_L X) {U : State} {G : ab_G} {H H1 : Heap} (h : ab_H X U G H) {e : ab_E} (hn : ab_at X U G.length e H1) (hz : H1.size = H.size + 1) (oq : ∀ q, q < H.size → H1[q]? = H[q]?) (hc : G.length + 1 ≤ ab_n0 + room_1.cells) (hs : ab_slots G + ab_sz e ≤ room_1.slots) : ab_H X U (G ++ [e]) H1 := by
  refine ⟨fun b x hb => ?_, ?_, by rw [List.length_append]; have := h.2.2.1; omega, by rw [List.length_append]; exact hc, by rw [ab_slots_app e h.2.2.1]; exact hs⟩
  · by_cases hl : b < G.length
    · rw [List.getElem?_append_left hl] at hb
      exact (h.1 b x hb).kept (oq _ (h.1 b x hb).lt)
    · rw [List.getElem?_append_right (by omega)] at hb
      have hb2 : b - G.length < 1 := (List.getElem?_eq_some_iff.mp hb).1
      rw [show b - G.length = 0 by omega] at hb
      cases hb
      rw [show b = G.length by omega]
      exact hn
  · rw [hz, h.2.1, List.length_append, List.length_singleton, (hL.next h.2.2.1 (by have := ab_room; omega))]
theorem ab_u_ok (C : String) (T : u_T) (k : Nat) : ab_ok (u_lay C T k) = true := by
  unfold u_lay
  split <;> rfl
theorem ab_lays {s : State} {args : Array Value} (hT : ab_T s) {C : String} {T : u_T} {N : Nat} (hi : ∀ w ∈ u_ws C T N, w ∈ lw_tbl) : ∀ w ∈ u_ws C T N, w.before args s = true := by
  intro w hw
  refine hT w (hi w hw) ?_ args
  obtain ⟨k, -, rfl⟩ := List.mem_map.mp hw
  exact ab_u_ok C T k
theorem ab_T.warm {s U : State} (hW : s.WarmedH U.vm) (h : ab_T s) : ab_T U := by
  intro w hw hk args
  have h0 := h w hw hk
  unfold ab_ok at hk
  rw [Bool.or_eq_true] at hk
  rcases hk with hk | hk
  · exact word_at hW (good_of_word hk) (h0 #[])
  · cases w <;> first | (exact Bool.noConfusion hk) | (rename_i ty; cases ty <;> first | (exact Bool.noConfusion hk) | (exact va_AO.use (va_AO.moved hW.alike (va_AO.of (h0 #[]))))) | (exact va_Nw.use rfl (va_Nw.warmF hW (h0 #[]))) | (exact va_Nw.use rfl (va_Nw.warmM hW (h0 #[]))) | (exact va_Nw.use rfl (va_Nw.warmC hW (h0 #[]))) | (exact va_Nw.use rfl (va_Nw.warmD hW (h0 #[])))
theorem ab_tag {X : ab_X} (h : ab_ty X.2.2.1) {t : Nat} {ft : FieldType} (ht : ab_ft[t]? = some ft) : X.2.2.1[t]? = some ((X.2.2.1.getD t (0, .int)).1, ft) := by
  unfold ab_ty at h
  rw [← h, List.getElem?_map] at ht
  cases hg : X.2.2.1[t]? with
  | none => rw [hg] at ht; cases ht
  | some q =>
    rw [hg] at ht
    cases ht
    rw [List.getD_eq_getElem?_getD, hg]; rfl
theorem ab_Sg.warm {X : ab_X} {s U : State} (hWm : s.WarmedH U.vm) (hq : ∀ q, q < s.heap.size → ¬ X.2.2.2.2 ≤ q → U.heap[q]? = s.heap[q]?) (h : ab_Sg X s) : ab_Sg X U := by
  refine ⟨fun j hj => ?_, va_Z.kept (va_Z.moved hWm.alike h.2.1) hq, h.2.2.imp (fun z => va_Z.kept (va_Z.moved hWm.alike z) hq) (fun z => va_Z.kept (va_Z.moved hWm.alike z) hq)⟩
  obtain ⟨⟨q, h1, h2⟩, h3, h4, h5, h6⟩ := h.1 j hj
  exact ⟨⟨q, h1, vk_R.warm hWm h2⟩, (va_O.moved hWm.alike h3).kept hq, (va_OF.moved hWm.alike h4).kept hq, (va_OF.moved hWm.alike h5).kept hq, (va_T.moved hWm.alike h6).kept hq⟩
theorem ab_V.warm {X : ab_X} {s U : State} (hWm : s.WarmedH U.vm) (hb : X.2.2.2.2 ≤ s.heap.size) (hq : ∀ q, q < s.heap.size → ¬ X.2.2.2.2 ≤ q → U.heap[q]? = s.heap[q]?) (h : ab_V X s) : ab_V X U := ⟨fun q hq1 => va_Z.kept (va_Z.moved hWm.alike (h.1 q hq1)) hq, fun q hq1 => (h.2.1 q hq1).elim fun a ha => ⟨a, vk_R.warm hWm ha⟩, ab_St.kept (ab_St.moved hWm.alike h.2.2.1) hq, ab_St.kept (ab_St.moved hWm.alike h.2.2.2.1) hq, ab_Sg.warm hWm hq h.2.2.2.2⟩
