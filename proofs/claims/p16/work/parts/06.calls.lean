section AbCalls
def ab_in1 : List Value → List (Option Value)
  | [] => []
  | v :: r => if v.category = 2 then some v :: none :: ab_in1 r else some v :: ab_in1 r
/-- the locals at a method's entry -/
def ab_in (as : List Value) (nL : Nat) : List (Option Value) := ab_in1 as ++ List.replicate (nL - (ab_in1 as).length) none
theorem ab_in1_len (f : Nat → Nat) (as : List Value) : (lg_sl (as.map (ab_v f))).length = (ab_in1 as).length := by
  induction as with
  | nil => rfl
  | cons v r ih =>
    have e : lg_sl ((v :: r).map (ab_v f)) = (if (ab_v f v).category = 2 then [.val (ab_v f v), .second] else [.val (ab_v f v)]) ++ lg_sl (r.map (ab_v f)) := rfl
    have e2 : ab_in1 (v :: r) = if v.category = 2 then some v :: none :: ab_in1 r else some v :: ab_in1 r := rfl
    rw [e, List.length_append, ih, ab_cat, e2]
    by_cases h : v.category = 2
    · rw [if_pos h, if_pos h]; simp; omega
    · rw [if_neg h, if_neg h]; simp; omega
theorem ab_in1_mem (f : Nat → Nat) : ∀ (as : List Value) (k i : Nat) (v : Value), (ab_in1 as)[i]? = some (some v) → (k + i, ab_v f v) ∈ lv_args k (as.map (ab_v f)) := by
  intro as
  induction as with
  | nil => intro k i v h; simp [ab_in1] at h
  | cons w r ih =>
    intro k i v h
    show _ ∈ (k, ab_v f w) :: lv_args (if (ab_v f w).category = 2 then k + 2 else k + 1) (r.map (ab_v f))
    rw [ab_cat]
    unfold ab_in1 at h
    by_cases hc : w.category = 2
    · rw [if_pos hc] at h ⊢
      match i, h with
      | 0, h => simp at h; subst h; exact List.mem_cons_self
      | 1, h => simp at h
      | i + 2, h =>
        have h' : (ab_in1 r)[i]? = some (some v) := by simpa using h
        have := ih (k + 2) i v h'
        rw [show k + 2 + i = k + (i + 2) by omega] at this
        exact List.mem_cons_of_mem _ this
    · rw [if_neg hc] at h ⊢
      match i, h with
      | 0, h => simp at h; subst h; exact List.mem_cons_self
      | i + 1, h =>
        have h' : (ab_in1 r)[i]? = some (some v) := by simpa using h
        have := ih (k + 1) i v h'
        rw [show k + 1 + i = k + (i + 1) by omega] at this
        exact List.mem_cons_of_mem _ this
theorem ab_in_ok (f : Nat → Nat) (as : List Value) (nL : Nat) (h : (ab_in1 as).length ≤ nL) : ab_Ls f nL ((lg_sl (as.map (ab_v f)) ++ List.replicate (nL - (lg_sl (as.map (ab_v f))).length) Slot.unset).toArray) (ab_in as nL) := by
  have he := lv_entry (as.map (ab_v f)) (n := nL) (by rw [ab_in1_len]; exact h)
  refine ⟨he.1, he.2.1, fun i v hi => ?_⟩
  unfold ab_in at hi
  by_cases hl : i < (ab_in1 as).length
  · rw [List.getElem?_append_left hl] at hi
    have := ab_in1_mem f as 0 i v hi
    rw [Nat.zero_add] at this
    exact he.2.2 _ this
  · rw [List.getElem?_append_right (by omega)] at hi
    have := List.mem_of_getElem? hi
    rw [List.mem_replicate] at this
    cases this.2
def ab_P (X : ab_X) (as : List Value) (G : ab_G) : Array Value → State → Prop := fun a s => a = (as.map (ab_v X.2.2.2.1)).toArray ∧ ab_T s ∧ va_K X.2.1 classes X.2.2.1 s ∧ ab_V X s ∧ ab_H X s G s.heap ∧ X.2.2.2.2 ≤ s.heap.size
def ab_R (X : ab_X) (G : ab_G) (Q : Outcome → ab_G → Prop) : Array Value → State → Outcome → State → Prop := fun _ s o t => ∃ (o' : Outcome) (G' : ab_G) (locs : List Loc) (k n : Nat),
  Q o' G' ∧ o = ab_o X.2.2.2.1 o' ∧ ab_H X s G' t.heap ∧ va_S (fun q => X.2.2.2.2 ≤ q) s.heap t.heap locs ∧ s.WarmedH t.vm ∧ s.sameButNew ({ t with vm := s.vm } : State) locs k n ∧ k + G.length = G'.length ∧ n + ab_slots G = ab_slots G'
/-- THE CONTRACT OF A METHOD in the layer's words: from the world G with the arguments 'as', within d frames, y ends with Q -/
def ab_F (X : ab_X) (d : Nat) (y : MethodName) (w : Cond) (as : List Value) (G : ab_G) (Q : Outcome → ab_G → Prop) : Prop :=
  ab_L X → ab_ty X.2.2.1 → ∀ rm : Room, d ≤ rm.frames → 41 * d ≤ rm.locals → G.length + rm.cells = ab_n0 + room_1.cells → ab_slots G + rm.slots = room_1.slots →
    MetFree X.1 y (headSpec [w] rm) (ab_P X as G) (fun _ _ _ _ _ => True) (ab_R X G Q)
abbrev ab_pl (y : MethodName) (cc : ByteArray) (nL : Nat) (rt : Option FieldType) : ab_Y := (y.cls, y.name, cc, nL, rt, fun c => c.exceptionTable.isEmpty = true)
theorem ab_F_of {X : ab_X} {d : Nat} {y : MethodName} {cc : ByteArray} {nL : Nat} {rt : Option FieldType} {as : List Value} {G : ab_G} {Q : Outcome → ab_G → Prop} (hy : plainName y.cls = true) (hl : (ab_in1 as).length ≤ nL)
    (k : ab_W X (ab_pl y cc nL rt) d G 0 (ab_in as nL) [] Q) : ab_F X d y (.code y cc nL rt) as G Q := by
  intro hL hty rm h1 h2 h3 h4
  refine MetFree.of_bodyS (code := cc) (maxLocals := nL) (ret := rt) hy ?_ ?_
  · intro args s m h hn
    obtain ⟨meth, c, a1, a2, a3, a4, a5, a6, -, -⟩ := Cond.code_spec hn (atoms_spec (ws := [Cond.code y cc nL rt]) h _ List.mem_cons_self)
    exact ⟨meth, c, a1, a2, a3, a4, a5, a6⟩
  · intro p e s m args below meth c s₁ B hml hP _
    obtain ⟨rfl, hT, hK, hV, hH, hb⟩ := hP
    have hcode := atoms_spec (ws := [Cond.code y cc nL rt]) B.pre _ List.mem_cons_self
    have hne : c.exceptionTable.isEmpty = true := B.noHandlers hcode
    have hh0 : s₁.heap = s.heap := by rw [B.state]; rfl
    have hW := k p e rm s m (as.map (ab_v X.2.2.2.1)).toArray below meth c s.heap _ [] 0 0 G.length (ab_slots G) (fun t => ∃ o, t.status = .running ∧ Ended t below o ∧ ab_R X G Q (as.map (ab_v X.2.2.2.1)).toArray s o t)
      ⟨⟨B.exec, B.bytes, hml, findClass_of_methodNamed B.named, B.returns, B.notSynchronized, (name_of_methodNamed B.named B.method).1, hne⟩, ⟨hT, hK, hty, hV⟩, hL, ⟨h1, h2⟩, ⟨h3, h4⟩, hb⟩ hH (ab_in_ok X.2.2.2.1 as nL hl) va_S.rf (Nat.zero_add _) (Nat.zero_add _)
      (fun t o G' locs kk n hq hr he hw hs hG' hS' e1 e2 => ⟨_, hr, he, o, G', locs, kk, n, hq, rfl, hG', hS', hw, hs, e1, e2⟩)
    have hfr := lg_entry_eq m (as.map (ab_v X.2.2.2.1)) nL
    obtain ⟨t, a1, o, b1, b2, b3⟩ := hW s₁ hh0 (Stand.of_body B)
    refine ⟨t, o, ?_, b1, b2, b3⟩
    rw [hfr]
    exact a1
theorem ab_S_trans {A : Nat → Prop} {H0 H H1 : Heap} {l1 l2 : List Loc} (h1 : va_S A H0 H l1) (h2 : va_S A H H1 l2) : va_S A H0 H1 (l1 ++ l2) := by
  refine ⟨Nat.le_trans h1.1 h2.1, fun q hq hA => (h2.2.1 q (Nat.lt_of_lt_of_le hq h1.1) hA).trans (h1.2.1 q hq hA), fun x hx => ?_⟩
  rcases List.mem_append.mp hx with h | h
  · exact h1.2.2 x h
  · exact h2.2.2 x h
/-- a method's own facts: its code, its class, how many arguments -/
def ab_mt (y : MethodName) (bytes : ByteArray) (maxL : Nat) (ret : Option FieldType) (n : Nat) : Prop :=
  maxL ≤ 22 ∧ Cond.code y bytes maxL ret ∈ lw_tbl ∧ Cond.initialized y.cls ∈ lw_tbl ∧ (y.cls ≠ "java/lang/invoke/MethodHandle" ∧ y.cls ≠ "java/lang/invoke/VarHandle") ∧ (parseMethodDescriptor y.desc).map (fun d => d.parameters.length) = some n
def ab_ml (own : String) (idx : Nat) (y : MethodName) : Prop := Cond.methodLink own idx y ∈ lw_tbl ∨ ∃ host, Cond.methodLinkNest own idx y host ∈ lw_tbl
theorem ab_mt.len {y : MethodName} {bytes : ByteArray} {maxL : Nat} {ret : Option FieldType} {n : Nat} (h : ab_mt y bytes maxL ret n) : ∀ sig, parseMethodDescriptor y.desc = some sig → n = sig.parameters.length := by
  intro sig hs
  have h2 := h.2.2.2.2
  rw [hs] at h2
  exact (Option.some.inj h2).symm
def ab_Pre (X : ab_X) (s : State) (as : List Value) (G : ab_G) (c0 s0 : Nat) : Pt → Array Value → Prop := fun A a => a = (as.map (ab_v X.2.2.2.1)).toArray ∧ ab_H X s G A.U.heap ∧ A.cells + c0 = G.length ∧ A.slots + s0 = ab_slots G ∧ s.heap.size ≤ A.U.heap.size ∧ ∀ q, q < s.heap.size → ¬ X.2.2.2.2 ≤ q → A.U.heap[q]? = s.heap[q]?
def ab_Post (X : ab_X) (s : State) (Q : Outcome → ab_G → Prop) (c0 s0 : Nat) : Pt → Array Value → Option Value → Pt → Prop := fun A _ v B => ∃ (v' : Option Value) (G' : ab_G) (L' : List Loc), Q (.returned v') G' ∧ v = v'.map (ab_v X.2.2.2.1) ∧ ab_H X s G' B.U.heap ∧ va_S (fun q => X.2.2.2.2 ≤ q) A.U.heap B.U.heap L' ∧ B.locs = A.locs ++ L' ∧ B.cells + c0 = G'.length ∧ B.slots + s0 = ab_slots G'
theorem ab_back {X : ab_X} {M : ab_Y} {d d' : Nat} {p : Program} {e : Env} {R : Room} {s : State} {m : MethodId} {args : Array Value} {below : List Frame} {meth : Method} {c : Code} {c0 s0 : Nat} {y : MethodName} {bytes : ByteArray} {maxL n : Nat} {ret : Option FieldType} {as : List Value} {G : ab_G} {Q : Outcome → ab_G → Prop}
    (hF : ab_F X d' y (.code y bytes maxL ret) as G Q) (hnt : ∀ o G', Q o G' → ∃ v, o = .returned v) (hC : ab_C X M d p R s m meth c c0 s0) (hd : d' + 1 ≤ d) (hm : ab_mt y bytes maxL ret n) (hG1 : G.length ≤ ab_n0 + room_1.cells) (hG2 : ab_slots G ≤ room_1.slots) : Back X.1 R p e below s args y 3 8 (ab_Pre X s as G c0 s0) (ab_Post X s Q c0 s0) := by
  obtain ⟨-, ⟨hT, hK, hty, hV⟩, hL, ⟨hf1, hf2⟩, ⟨hr1, hr2⟩, hb⟩ := hC
  have hM := hF hL hty { frames := d', cells := ab_n0 + room_1.cells - G.length, slots := room_1.slots - ab_slots G, locals := 41 * d' } (Nat.le_refl _) (Nat.le_refl _) (by show G.length + (ab_n0 + room_1.cells - G.length) = _; omega) (by show ab_slots G + (room_1.slots - ab_slots G) = _; omega)
  refine Back.of_free (bytes := bytes) (maxL := maxL) (ret := ret) (E := fun _ st o t L k n => ∃ (o' : Outcome) (G' : ab_G), Q o' G' ∧ o = ab_o X.2.2.2.1 o' ∧ ab_H X st G' t.heap ∧ va_S (fun q => X.2.2.2.2 ≤ q) st.heap t.heap L ∧ k + G.length = G'.length ∧ n + ab_slots G = ab_slots G') hM ?_ ?_ ?_ ?_ (fun _ _ _ _ _ _ _ _ _ => trivial) ?_ ?_
  · show d' + 1 ≤ R.frames
    omega
  · show 8 + (maxL + 11) + 41 * d' ≤ R.locals
    have := hm.1
    omega
  · intro m' meth' c' A a Xs hp
    have hT' : ab_T A.U := hT.warm Xs.warmed
    obtain ⟨-, -, e1, e2, -⟩ := hp
    refine ⟨atoms_intro fun w hw => ?_, hT' _ hm.2.1 rfl _, hT' _ hm.2.2.1 rfl _, ?_, ?_⟩
    · rw [List.mem_singleton] at hw
      subst hw
      exact hT' _ hm.2.1 rfl _
    · show A.cells + (ab_n0 + room_1.cells - G.length) ≤ R.cells
      omega
    · show A.slots + (room_1.slots - ab_slots G) ≤ R.slots
      omega
  · intro m' meth' c' A a g mk Xs hp
    exact ⟨hp.1, ab_T.warm (U := A.U.calling g mk a) Xs.warmed hT, va_K.moved (u := s) (U := A.U.calling g mk a) Xs.warmed.alike hK, ab_V.warm (U := A.U.calling g mk a) Xs.warmed hb hp.2.2.2.2.2 hV, ab_H.moved (U := A.U.calling g mk a) Xs.warmed.alike hp.2.1, Nat.le_trans hb hp.2.2.2.2.1⟩
  · intro a first o t hq
    obtain ⟨o', G', locs, k, n', q1, q2, q3, q4, q5, q6, q7, q8⟩ := hq
    obtain ⟨v, rfl⟩ := hnt o' G' q1
    exact ⟨locs, k, n', ⟨⟨_, q2⟩, q5, q6⟩, _, G', q1, q2, q3, q4, q7, q8⟩
  · intro m' meth' c' A a g mk v t L' k n' Xs hp hq hfe hE
    obtain ⟨o', G', q1, q2, q3, q4, q7, q8⟩ := hE
    obtain ⟨v', rfl⟩ := hnt o' G' q1
    have hv : v = v'.map (ab_v X.2.2.2.1) := Outcome.returned.inj q2
    obtain ⟨-, -, e1, e2, -⟩ := hp
    exact ⟨v', G', L', q1, hv, ab_H.moved (u := A.U.calling g mk a) (U := s) Xs.warmed.alike.symm q3, q4, rfl, by show A.cells + k + c0 = _; omega, by show A.slots + n' + s0 = _; omega⟩
variable {X : ab_X} {M : ab_Y} {d d' : Nat} {G : ab_G} {pc : Nat} {L : List (Option Value)} {st : List Value} {Q Q' : Outcome → ab_G → Prop} {idx : Nat} {y : MethodName} {bytes : ByteArray} {maxL : Nat} {ret : Option FieldType} {as : List Value} {stk : List Value}
theorem ab_stk (f : Nat → Nat) (v : Option Value) (st : List Value) : (v.map (ab_v f)).toList ++ st.map (ab_v f) = (v.toList ++ st).map (ab_v f) := by cases v <;> simp
theorem ab_callS (hF : ab_F X d' y (.code y bytes maxL ret) as G Q') (hnt : ∀ o G', Q' o G' → ∃ v, o = .returned v) (hdd : d' + 1 ≤ d) (hm : ab_mt y bytes maxL ret as.length) (hl : ab_ml M.1 idx y) (hst : Cond.static y ∈ lw_tbl) (hwt : (st.map fun v => v.category).sum ≤ 8) (hd : decode M.2.2.1 pc = .ok (.invokestatic idx, 3)) (hstk : stk = as.reverse ++ st)
    (kk : ∀ v G', Q' (.returned v) G' → ab_W X M d G' (pc + 3) L (v.toList ++ st) Q) : ab_W X M d G pc L stk Q := by
  intro p e R s m args below meth c H ls locs cells slots c0 s0 Z hC hH hL hS h1 h2 hZ
  have hK := ab_back (e := e) (args := args) (below := below) hF hnt hC hdd hm hH.2.2.2.1 hH.2.2.2.2
  intro T hT Xs
  have hT0 := hC.2.1.1
  have hpre : ∀ vm₁, s.WarmedH vm₁ → ab_Pre X s as G c0 s0 ⟨T.setVm vm₁, locs, cells, slots⟩ (as.map (ab_v X.2.2.2.1)).toArray := fun vm₁ hW₁ => ⟨rfl, by show ab_H X s G T.heap; rw [hT]; exact hH, h1, h2, by show s.heap.size ≤ T.heap.size; rw [hT]; exact hS.1, fun q hq hA => by show T.heap[q]? = _; rw [hT]; exact hS.2.1 q hq hA⟩
  have hstack : (F0 m pc ls (stk.map (ab_v X.2.2.2.1))).stack = (as.map (ab_v X.2.2.2.1)).reverse ++ st.map (ab_v X.2.2.2.1) := by show stk.map _ = _; rw [hstk, List.map_append, List.map_reverse]
  have hw8 : 2 * (F0 m pc ls (stk.map (ab_v X.2.2.2.1))).monitorRoom + ((st.map (ab_v X.2.2.2.1)).map fun v => v.category).sum ≤ 8 := lv_room (by rw [ab_cats]; exact hwt)
  have hsz : (F0 m pc ls (stk.map (ab_v X.2.2.2.1))).locals.size = c.maxLocals := hL.1.trans hC.1.2.2.1.symm
  have hdg : decode c.code (F0 m pc ls (stk.map (ab_v X.2.2.2.1))).pc = .ok (.invokestatic idx, 3) := by rw [hC.1.2.1]; exact hd
  have hlen : ∀ sig, parseMethodDescriptor y.desc = some sig → (as.map (ab_v X.2.2.2.1)).length = sig.parameters.length := fun sig h => by rw [List.length_map]; exact hm.len sig h
  have hres : ∃ (v : Option Value) (vm₁ : Vm) (B : Pt), s.WarmedH vm₁ ∧ Stand p X.1 e R s m args below meth c B.U B.locs B.cells B.slots ∧ ab_Post X s Q' c0 s0 ⟨T.setVm vm₁, locs, cells, slots⟩ (as.map (ab_v X.2.2.2.1)).toArray v B ∧
      ∀ target, Steps p.tables e below (B.U.setTop { F0 m pc ls (stk.map (ab_v X.2.2.2.1)) with pc := pc + 3, stack := v.toList ++ st.map (ab_v X.2.2.2.1) }) target → Steps p.tables e below (T.setTop (F0 m pc ls (stk.map (ab_v X.2.2.2.1)))) target := by
    rcases hl with hl | ⟨host, hl⟩
    · exact callS Xs hC.1.1 (bytes := bytes) (maxL := maxL) (ret := ret) hC.1.2.2.2.1 (hT0 _ hl rfl _) (hT0 _ hst rfl _) (hT0 _ hm.2.2.1 rfl _) (hT0 _ hm.2.1 rfl _) hm.2.2.2.1 hK rfl hsz hlen hstack hw8 hdg hpre
    · exact va_callSN Xs hC.1.1 (bytes := bytes) (maxL := maxL) (ret := ret) hC.1.2.2.2.1 (hT0 _ hl rfl _) (hT0 _ hst rfl _) (hT0 _ hm.2.2.1 rfl _) (hT0 _ hm.2.1 rfl _) hm.2.2.2.1 hK rfl hsz hlen hstack hw8 hdg hpre
  obtain ⟨v, vm₁, ⟨U', l2, c2, s2⟩, hW₁, X', ⟨v', G', L', hq, hv, hH', hS', hl2, hc2, hs2⟩, stp⟩ := hres
  dsimp only [Pt.U, Pt.locs, Pt.cells, Pt.slots] at X' hH' hS' hl2 hc2 hs2 stp
  subst hl2
  have hS1 : va_S (fun q => X.2.2.2.2 ≤ q) s.heap U'.heap (locs ++ L') := ab_S_trans hS (by have h := hS'; rw [show (T.setVm vm₁).heap = H from hT] at h; exact h)
  obtain ⟨t, a1, b1⟩ := kk v' G' hq p e R s m args below meth c U'.heap ls (locs ++ L') c2 s2 c0 s0 Z hC hH' hL hS1 hc2 hs2 hZ U' rfl X'
  refine ⟨t, stp t ?_, b1⟩
  rw [hv, ab_stk]
  exact a1
theorem ab_callV {a ci : Nat} {fs : List Value} {r : vw_C} (hF : ab_F X d' y (.code y bytes maxL ret) (.ref a :: as) G Q') (hnt : ∀ o G', Q' o G' → ∃ v, o = .returned v) (hdd : d' + 1 ≤ d) (hm : ab_mt y bytes maxL ret as.length) (hl : ab_ml M.1 idx y) (hin : Cond.instanceMethod y ∈ lw_tbl) (hse : Cond.selects r.1 y y ∈ lw_tbl) (hr : classes[ci]? = some r) (hG : G[a]? = some (.inr (ci, fs))) (hwt : (st.map fun v => v.category).sum ≤ 8) (hd : decode M.2.2.1 pc = .ok (.invokevirtual idx, 3)) (hstk : stk = as.reverse ++ .ref a :: st)
    (kk : ∀ v G', Q' (.returned v) G' → ab_W X M d G' (pc + 3) L (v.toList ++ st) Q) : ab_W X M d G pc L stk Q := by
  intro p e R s m args below meth c H ls locs cells slots c0 s0 Z hC hH hL hS h1 h2 hZ
  have hK := ab_back (e := e) (args := args) (below := below) (n := as.length) hF hnt hC hdd hm hH.2.2.2.1 hH.2.2.2.2
  intro T hT Xs
  have hT0 := hC.2.1.1
  have hP := ab_one (q := (X.2.2.2.1 a, .inr (ci, fs.map (ab_v X.2.2.2.1)))) (hH.1 a _ hG)
  obtain ⟨cellB, hcB, hoB, hclB⟩ := va_recv (q0 := 0) hC.2.1.2.1 hP hr rfl
  have hpre : ∀ vm₁, s.WarmedH vm₁ → ab_Pre X s (.ref a :: as) G c0 s0 ⟨T.setVm vm₁, locs, cells, slots⟩ (Value.ref (X.2.2.2.1 a) :: as.map (ab_v X.2.2.2.1)).toArray := fun vm₁ hW₁ => ⟨rfl, by show ab_H X s G T.heap; rw [hT]; exact hH, h1, h2, by show s.heap.size ≤ T.heap.size; rw [hT]; exact hS.1, fun q hq hA => by show T.heap[q]? = _; rw [hT]; exact hS.2.1 q hq hA⟩
  have hstack : (F0 m pc ls (stk.map (ab_v X.2.2.2.1))).stack = (as.map (ab_v X.2.2.2.1)).reverse ++ .ref (X.2.2.2.1 a) :: st.map (ab_v X.2.2.2.1) := by show stk.map _ = _; rw [hstk, List.map_append, List.map_reverse]; rfl
  have hw8 : 2 * (F0 m pc ls (stk.map (ab_v X.2.2.2.1))).monitorRoom + ((st.map (ab_v X.2.2.2.1)).map fun v => v.category).sum ≤ 8 := lv_room (by rw [ab_cats]; exact hwt)
  have hsz : (F0 m pc ls (stk.map (ab_v X.2.2.2.1))).locals.size = c.maxLocals := hL.1.trans hC.1.2.2.1.symm
  have hdg : decode c.code (F0 m pc ls (stk.map (ab_v X.2.2.2.1))).pc = .ok (.invokevirtual idx, 3) := by rw [hC.1.2.1]; exact hd
  have hlen : ∀ sig, parseMethodDescriptor y.desc = some sig → (as.map (ab_v X.2.2.2.1)).length = sig.parameters.length := fun sig h => by rw [List.length_map]; exact hm.len sig h
  have hres : ∃ (v : Option Value) (vm₁ : Vm) (B : Pt), s.WarmedH vm₁ ∧ Stand p X.1 e R s m args below meth c B.U B.locs B.cells B.slots ∧ ab_Post X s Q' c0 s0 ⟨T.setVm vm₁, locs, cells, slots⟩ (Value.ref (X.2.2.2.1 a) :: as.map (ab_v X.2.2.2.1)).toArray v B ∧
      ∀ target, Steps p.tables e below (B.U.setTop { F0 m pc ls (stk.map (ab_v X.2.2.2.1)) with pc := pc + 3, stack := v.toList ++ st.map (ab_v X.2.2.2.1) }) target → Steps p.tables e below (T.setTop (F0 m pc ls (stk.map (ab_v X.2.2.2.1)))) target := by
    rcases hl with hl | ⟨host, hl⟩
    · exact callV Xs hC.1.1 (C := r.1) (bytes := bytes) (maxL := maxL) (ret := ret) hC.1.2.2.2.1 (hT0 _ hl rfl _) (hT0 _ hin rfl _) (hT0 _ hse rfl _) (hT0 _ hm.2.1 rfl _) hm.2.2.2.1 hK (by rw [hT]; exact hcB) hoB hclB rfl hsz hlen hstack hw8 hdg hpre
    · exact va_callVN Xs hC.1.1 (C := r.1) (bytes := bytes) (maxL := maxL) (ret := ret) hC.1.2.2.2.1 (hT0 _ hl rfl _) (hT0 _ hin rfl _) (hT0 _ hse rfl _) (hT0 _ hm.2.1 rfl _) hm.2.2.2.1 hK (by rw [hT]; exact hcB) hoB hclB rfl hsz hlen hstack hw8 hdg hpre
  obtain ⟨v, vm₁, ⟨U', l2, c2, s2⟩, hW₁, X', ⟨v', G', L', hq, hv, hH', hS', hl2, hc2, hs2⟩, stp⟩ := hres
  dsimp only [Pt.U, Pt.locs, Pt.cells, Pt.slots] at X' hH' hS' hl2 hc2 hs2 stp
  subst hl2
  have hS1 : va_S (fun q => X.2.2.2.2 ≤ q) s.heap U'.heap (locs ++ L') := ab_S_trans hS (by have h := hS'; rw [show (T.setVm vm₁).heap = H from hT] at h; exact h)
  obtain ⟨t, a1, b1⟩ := kk v' G' hq p e R s m args below meth c U'.heap ls (locs ++ L') c2 s2 c0 s0 Z hC hH' hL hS1 hc2 hs2 hZ U' rfl X'
  refine ⟨t, stp t ?_, b1⟩
  rw [hv, ab_stk]
  exact a1
theorem ab_callI {a : Nat} (hF : ab_F X d' y (.code y bytes maxL none) (.ref a :: as) G Q') (hnt : ∀ o G', Q' o G' → ∃ v, o = .returned v) (hdd : d' + 1 ≤ d) (hm : ab_mt y bytes maxL none as.length) (hl : ab_ml M.1 idx y) (hin : Cond.instanceMethod y ∈ lw_tbl) (hy1 : y.name = "<init>") (hwt : (st.map fun v => v.category).sum ≤ 8) (hd : decode M.2.2.1 pc = .ok (.invokespecial idx, 3)) (hstk : stk = as.reverse ++ .ref a :: st)
    (kk : ∀ v G', Q' (.returned v) G' → ab_W X M d G' (pc + 3) L (v.toList ++ st) Q) : ab_W X M d G pc L stk Q := by
  intro p e R s m args below meth c H ls locs cells slots c0 s0 Z hC hH hL hS h1 h2 hZ
  have hK := ab_back (e := e) (args := args) (below := below) (n := as.length) hF hnt hC hdd hm hH.2.2.2.1 hH.2.2.2.2
  intro T hT Xs
  have hT0 := hC.2.1.1
  have hpre : ∀ vm₁, s.WarmedH vm₁ → ab_Pre X s (.ref a :: as) G c0 s0 ⟨T.setVm vm₁, locs, cells, slots⟩ (Value.ref (X.2.2.2.1 a) :: as.map (ab_v X.2.2.2.1)).toArray := fun vm₁ hW₁ => ⟨rfl, by show ab_H X s G T.heap; rw [hT]; exact hH, h1, h2, by show s.heap.size ≤ T.heap.size; rw [hT]; exact hS.1, fun q hq hA => by show T.heap[q]? = _; rw [hT]; exact hS.2.1 q hq hA⟩
  have hstack : (F0 m pc ls (stk.map (ab_v X.2.2.2.1))).stack = (as.map (ab_v X.2.2.2.1)).reverse ++ .ref (X.2.2.2.1 a) :: st.map (ab_v X.2.2.2.1) := by show stk.map _ = _; rw [hstk, List.map_append, List.map_reverse]; rfl
  have hw8 : 2 * (F0 m pc ls (stk.map (ab_v X.2.2.2.1))).monitorRoom + ((st.map (ab_v X.2.2.2.1)).map fun v => v.category).sum ≤ 8 := lv_room (by rw [ab_cats]; exact hwt)
  have hsz : (F0 m pc ls (stk.map (ab_v X.2.2.2.1))).locals.size = c.maxLocals := hL.1.trans hC.1.2.2.1.symm
  have hdg : decode c.code (F0 m pc ls (stk.map (ab_v X.2.2.2.1))).pc = .ok (.invokespecial idx, 3) := by rw [hC.1.2.1]; exact hd
  have hlen : ∀ sig, parseMethodDescriptor y.desc = some sig → (as.map (ab_v X.2.2.2.1)).length = sig.parameters.length := fun sig h => by rw [List.length_map]; exact hm.len sig h
  have hres : ∃ (v : Option Value) (vm₁ : Vm) (B : Pt), s.WarmedH vm₁ ∧ Stand p X.1 e R s m args below meth c B.U B.locs B.cells B.slots ∧ ab_Post X s Q' c0 s0 ⟨T.setVm vm₁, locs, cells, slots⟩ (Value.ref (X.2.2.2.1 a) :: as.map (ab_v X.2.2.2.1)).toArray v B ∧
      ∀ target, Steps p.tables e below (B.U.setTop { F0 m pc ls (stk.map (ab_v X.2.2.2.1)) with pc := pc + 3, stack := v.toList ++ st.map (ab_v X.2.2.2.1) }) target → Steps p.tables e below (T.setTop (F0 m pc ls (stk.map (ab_v X.2.2.2.1)))) target := by
    rcases hl with hl | ⟨host, hl⟩
    · exact callI Xs hC.1.1 (bytes := bytes) (maxL := maxL) hC.1.2.2.2.1 hy1 (hT0 _ hl rfl _) (hT0 _ hin rfl _) (hT0 _ hm.2.1 rfl _) hm.2.2.2.1 hK rfl hsz hlen hstack hw8 hdg hpre
    · exact va_callIN Xs hC.1.1 (bytes := bytes) (maxL := maxL) hC.1.2.2.2.1 hy1 (hT0 _ hl rfl _) (hT0 _ hin rfl _) (hT0 _ hm.2.1 rfl _) hm.2.2.2.1 hK rfl hsz hlen hstack hw8 hdg hpre
  obtain ⟨v, vm₁, ⟨U', l2, c2, s2⟩, hW₁, X', ⟨v', G', L', hq, hv, hH', hS', hl2, hc2, hs2⟩, stp⟩ := hres
  dsimp only [Pt.U, Pt.locs, Pt.cells, Pt.slots] at X' hH' hS' hl2 hc2 hs2 stp
  subst hl2
  have hS1 : va_S (fun q => X.2.2.2.2 ≤ q) s.heap U'.heap (locs ++ L') := ab_S_trans hS (by have h := hS'; rw [show (T.setVm vm₁).heap = H from hT] at h; exact h)
  obtain ⟨t, a1, b1⟩ := kk v' G' hq p e R s m args below meth c U'.heap ls (locs ++ L') c2 s2 c0 s0 Z hC hH' hL hS1 hc2 hs2 hZ U' rfl X'
  refine ⟨t, stp t ?_, b1⟩
  rw [hv, ab_stk]
  exact a1
end AbCalls
