section AbWrap
/-- a method with handlers -/
abbrev ab_plW (y : MethodName) (cc : ByteArray) (nL : Nat) (rt : Option FieldType) (hs : List (Nat × Nat × Nat × Nat)) : ab_Y := (y.cls, y.name, cc, nL, rt, fun c => c.exceptionTable.toList.map (fun h => (h.startPc, h.endPc, h.handlerPc, h.catchType)) = hs)
theorem ab_F_ofW {X : ab_X} {d : Nat} {y : MethodName} {cc : ByteArray} {nL : Nat} {rt : Option FieldType} {hs : List (Nat × Nat × Nat × Nat)} {as : List Value} {G : ab_G} {Q : Outcome → ab_G → Prop} (hy : plainName y.cls = true) (hl : (ab_in1 as).length ≤ nL)
    (k : ab_W X (ab_plW y cc nL rt hs) d G 0 (ab_in as nL) [] Q) : ab_F X d y (.codeWith y cc nL rt hs) as G Q := by
  intro hL hty rm h1 h2 h3 h4
  refine MetFree.of_bodyS (code := cc) (maxLocals := nL) (ret := rt) hy ?_ ?_
  · intro args s m h hn
    obtain ⟨m', meth, c, a0, a1, a2, a3, a4, -, a5, a6, -⟩ := Cond.codeWith_spec (atoms_spec (ws := [Cond.codeWith y cc nL rt hs]) h _ List.mem_cons_self)
    cases hn.symm.trans a0
    exact ⟨meth, c, a1, a2, a3, a4, a5, a6⟩
  · intro p e s m args below meth c s₁ B hml hP _
    obtain ⟨rfl, hT, hK, hV, hH, hb⟩ := hP
    obtain ⟨m', meth', c', a0, a1, a2, -, -, hne, -, -, -⟩ := Cond.codeWith_spec (atoms_spec (ws := [Cond.codeWith y cc nL rt hs]) B.pre _ List.mem_cons_self)
    cases B.named.symm.trans a0
    cases B.method.symm.trans a1
    cases (Stand.of_body B).code.symm.trans a2
    have hh0 : s₁.heap = s.heap := by rw [B.state]; rfl
    have hW := k p e rm s m (as.map (ab_v X.2.2.2.1)).toArray below meth c s.heap _ [] 0 0 G.length (ab_slots G) (fun t => ∃ o, t.status = .running ∧ Ended t below o ∧ ab_R X G Q (as.map (ab_v X.2.2.2.1)).toArray s o t)
      ⟨⟨B.exec, B.bytes, hml, findClass_of_methodNamed B.named, B.returns, B.notSynchronized, (name_of_methodNamed B.named B.method).1, hne⟩, ⟨hT, hK, hty, hV⟩, hL, ⟨h1, h2⟩, ⟨h3, h4⟩, hb⟩ hH (ab_in_ok X.2.2.2.1 as nL hl) va_S.rf (Nat.zero_add _) (Nat.zero_add _)
      (fun t o G' locs kk n hq hr he hw hs hG' hS' e1 e2 => ⟨_, hr, he, o, G', locs, kk, n, hq, rfl, hG', hS', hw, hs, e1, e2⟩)
    have hfr := lg_entry_eq m (as.map (ab_v X.2.2.2.1)) nL
    obtain ⟨t, a1, o, b1, b2, b3⟩ := hW s₁ hh0 (Stand.of_body B)
    refine ⟨t, o, ?_, b1, b2, b3⟩
    rw [hfr]
    exact a1
def ab_mtW (y : MethodName) (bytes : ByteArray) (maxL : Nat) (ret : Option FieldType) (hs : List (Nat × Nat × Nat × Nat)) (n : Nat) : Prop :=
  maxL ≤ 22 ∧ Cond.codeWith y bytes maxL ret hs ∈ lw_tbl ∧ Cond.initialized y.cls ∈ lw_tbl ∧ (y.cls ≠ "java/lang/invoke/MethodHandle" ∧ y.cls ≠ "java/lang/invoke/VarHandle") ∧ (parseMethodDescriptor y.desc).map (fun d => d.parameters.length) = some n
theorem ab_mtW.len {y : MethodName} {bytes : ByteArray} {maxL : Nat} {ret : Option FieldType} {hs : List (Nat × Nat × Nat × Nat)} {n : Nat} (h : ab_mtW y bytes maxL ret hs n) : ∀ sig, parseMethodDescriptor y.desc = some sig → n = sig.parameters.length := by
  intro sig hs
  have h2 := h.2.2.2.2
  rw [hs] at h2
  exact (Option.some.inj h2).symm
theorem ab_backW {X : ab_X} {M : ab_Y} {d d' : Nat} {p : Program} {e : Env} {R : Room} {s : State} {m : MethodId} {args : Array Value} {below : List Frame} {meth : Method} {c : Code} {c0 s0 : Nat} {y : MethodName} {bytes : ByteArray} {maxL n : Nat} {ret : Option FieldType} {hs : List (Nat × Nat × Nat × Nat)} {as : List Value} {G : ab_G} {Q : Outcome → ab_G → Prop}
    (hF : ab_F X d' y (.codeWith y bytes maxL ret hs) as G Q) (hnt : ∀ o G', Q o G' → ∃ v, o = .returned v) (hC : ab_C X M d p R s m meth c c0 s0) (hd : d' + 1 ≤ d) (hm : ab_mtW y bytes maxL ret hs n) (hG1 : G.length ≤ ab_n0 + room_1.cells) (hG2 : ab_slots G ≤ room_1.slots) : Back X.1 R p e below s args y 3 8 (ab_Pre X s as G c0 s0) (ab_Post X s Q c0 s0) := by
  obtain ⟨-, ⟨hT, hK, hty, hV⟩, hL, ⟨hf1, hf2⟩, ⟨hr1, hr2⟩, hb⟩ := hC
  have hM := hF hL hty { frames := d', cells := ab_n0 + room_1.cells - G.length, slots := room_1.slots - ab_slots G, locals := 41 * d' } (Nat.le_refl _) (Nat.le_refl _) (by show G.length + (ab_n0 + room_1.cells - G.length) = _; omega) (by show ab_slots G + (room_1.slots - ab_slots G) = _; omega)
  refine Back.of_freeWith (handlers := hs) (bytes := bytes) (maxL := maxL) (ret := ret) (E := fun _ st o t L k n => ∃ (o' : Outcome) (G' : ab_G), Q o' G' ∧ o = ab_o X.2.2.2.1 o' ∧ ab_H X st G' t.heap ∧ va_S (fun q => X.2.2.2.2 ≤ q) st.heap t.heap L ∧ k + G.length = G'.length ∧ n + ab_slots G = ab_slots G') hM ?_ ?_ ?_ ?_ (fun _ _ _ _ _ _ _ _ _ => trivial) ?_ ?_
  · show d' + 1 ≤ R.frames
    omega
  · show 8 + (maxL + 11) + 41 * d' ≤ R.locals
    have := hm.1
    omega
  · intro m' meth' c' A a Xs hp
    have hT' : ab_T A.U := hT.warm Xs.warmed
    obtain ⟨-, -, e1, e2, -⟩ := hp
    refine ⟨atoms_intro fun w hw => ?_, hT' _ hm.2.1 rfl _, hT' _ hm.2.2.1 rfl _, ?_, ?_⟩
    · rw [List.mem_singleton] at hw
      subst hw
      exact hT' _ hm.2.1 rfl _
    · show A.cells + (ab_n0 + room_1.cells - G.length) ≤ R.cells
      omega
    · show A.slots + (room_1.slots - ab_slots G) ≤ R.slots
      omega
  · intro m' meth' c' A a g mk Xs hp
    exact ⟨hp.1, ab_T.warm (U := A.U.calling g mk a) Xs.warmed hT, va_K.moved (u := s) (U := A.U.calling g mk a) Xs.warmed.alike hK, ab_V.warm (U := A.U.calling g mk a) Xs.warmed hb hp.2.2.2.2.2 hV, ab_H.moved (U := A.U.calling g mk a) Xs.warmed.alike hp.2.1, Nat.le_trans hb hp.2.2.2.2.1⟩
  · intro a first o t hq
    obtain ⟨o', G', locs, k, n', q1, q2, q3, q4, q5, q6, q7, q8⟩ := hq
    obtain ⟨v, rfl⟩ := hnt o' G' q1
    exact ⟨locs, k, n', ⟨⟨_, q2⟩, q5, q6⟩, _, G', q1, q2, q3, q4, q7, q8⟩
  · intro m' meth' c' A a g mk v t L' k n' Xs hp hq hfe hE
    obtain ⟨o', G', q1, q2, q3, q4, q7, q8⟩ := hE
    obtain ⟨v', rfl⟩ := hnt o' G' q1
    have hv : v = v'.map (ab_v X.2.2.2.1) := Outcome.returned.inj q2
    obtain ⟨-, -, e1, e2, -⟩ := hp
    exact ⟨v', G', L', q1, hv, ab_H.moved (u := A.U.calling g mk a) (U := s) Xs.warmed.alike.symm q3, q4, rfl, by show A.cells + k + c0 = _; omega, by show A.slots + n' + s0 = _; omega⟩
variable {X : ab_X} {M : ab_Y} {d d' : Nat} {G : ab_G} {pc : Nat} {L : List (Option Value)} {st : List Value} {Q Q' : Outcome → ab_G → Prop} {idx : Nat} {y : MethodName} {bytes : ByteArray} {maxL : Nat} {ret : Option FieldType} {hs : List (Nat × Nat × Nat × Nat)} {as : List Value} {stk : List Value}
theorem ab_callSW (hF : ab_F X d' y (.codeWith y bytes maxL ret hs) as G Q') (hnt : ∀ o G', Q' o G' → ∃ v, o = .returned v) (hdd : d' + 1 ≤ d) (hm : ab_mtW y bytes maxL ret hs as.length) (hl : Cond.methodLink M.1 idx y ∈ lw_tbl) (hst : Cond.static y ∈ lw_tbl) (hwt : (st.map fun v => v.category).sum ≤ 8) (hd : decode M.2.2.1 pc = .ok (.invokestatic idx, 3)) (hstk : stk = as.reverse ++ st)
    (kk : ∀ v G', Q' (.returned v) G' → ab_W X M d G' (pc + 3) L (v.toList ++ st) Q) : ab_W X M d G pc L stk Q := by
  intro p e R s m args below meth c H ls locs cells slots c0 s0 Z hC hH hL hS h1 h2 hZ
  have hK := ab_backW (e := e) (args := args) (below := below) hF hnt hC hdd hm hH.2.2.2.1 hH.2.2.2.2
  intro T hT Xs
  have hT0 := hC.2.1.1
  have hpre : ∀ vm₁, s.WarmedH vm₁ → ab_Pre X s as G c0 s0 ⟨T.setVm vm₁, locs, cells, slots⟩ (as.map (ab_v X.2.2.2.1)).toArray := fun vm₁ hW₁ => ⟨rfl, by show ab_H X s G T.heap; rw [hT]; exact hH, h1, h2, by show s.heap.size ≤ T.heap.size; rw [hT]; exact hS.1, fun q hq hA => by show T.heap[q]? = _; rw [hT]; exact hS.2.1 q hq hA⟩
  have hstack : (F0 m pc ls (stk.map (ab_v X.2.2.2.1))).stack = (as.map (ab_v X.2.2.2.1)).reverse ++ st.map (ab_v X.2.2.2.1) := by show stk.map _ = _; rw [hstk, List.map_append, List.map_reverse]
  have hw8 : 2 * (F0 m pc ls (stk.map (ab_v X.2.2.2.1))).monitorRoom + ((st.map (ab_v X.2.2.2.1)).map fun v => v.category).sum ≤ 8 := lv_room (by rw [ab_cats]; exact hwt)
  have hsz : (F0 m pc ls (stk.map (ab_v X.2.2.2.1))).locals.size = c.maxLocals := hL.1.trans hC.1.2.2.1.symm
  have hdg : decode c.code (F0 m pc ls (stk.map (ab_v X.2.2.2.1))).pc = .ok (.invokestatic idx, 3) := by rw [hC.1.2.1]; exact hd
  have hlen : ∀ sig, parseMethodDescriptor y.desc = some sig → (as.map (ab_v X.2.2.2.1)).length = sig.parameters.length := fun sig h => by rw [List.length_map]; exact hm.len sig h
  have hres : ∃ (v : Option Value) (vm₁ : Vm) (B : Pt), s.WarmedH vm₁ ∧ Stand p X.1 e R s m args below meth c B.U B.locs B.cells B.slots ∧ ab_Post X s Q' c0 s0 ⟨T.setVm vm₁, locs, cells, slots⟩ (as.map (ab_v X.2.2.2.1)).toArray v B ∧
      ∀ target, Steps p.tables e below (B.U.setTop { F0 m pc ls (stk.map (ab_v X.2.2.2.1)) with pc := pc + 3, stack := v.toList ++ st.map (ab_v X.2.2.2.1) }) target → Steps p.tables e below (T.setTop (F0 m pc ls (stk.map (ab_v X.2.2.2.1)))) target := by
    obtain ⟨mk, methM, cM, hnamed, hmethM, -, -, -, -, -, -, hsigM⟩ := Cond.codeWith_spec (hT0 _ hm.2.1 rfl args)
    have hstatic : methM.isStatic = true := Cond.static_spec hnamed hmethM (hT0 _ hst rfl args)
    obtain ⟨kP, hkP, -⟩ := className_of_methodNamed hnamed
    have hinitP : kP.init = .initialized := Cond.initialized_spec (findClass_of_methodNamed hnamed) hkP (hT0 _ hm.2.2.1 rfl args)
    obtain ⟨vm₁, X₁, hstep₁⟩ := Xs.invokestatic hC.1.1 hC.1.2.2.2.1 (hT0 _ hl rfl args) hnamed hmethM hstatic hkP hinitP hm.2.2.2.1 (g := F0 m pc ls (stk.map (ab_v X.2.2.2.1))) rfl (argsL := as.map (ab_v X.2.2.2.1)) (rest := st.map (ab_v X.2.2.2.1)) (hlen _ hsigM) hstack hdg
    obtain ⟨v, B, X', hpost, hsteps⟩ := hK m meth c ⟨T.setVm vm₁, locs, cells, slots⟩ { F0 m pc ls (stk.map (ab_v X.2.2.2.1)) with stack := st.map (ab_v X.2.2.2.1) } (.invokestatic idx) mk (as.map (ab_v X.2.2.2.1)).toArray X₁ rfl hsz hdg hw8 (X₁.named hnamed) (hpre vm₁ X₁.warmed)
    exact ⟨v, vm₁, B, X₁.warmed, X', hpost, fun target h => hstep₁ _ fun acts => by rw [doInvoke_state]; exact hsteps.trans h⟩
  obtain ⟨v, vm₁, ⟨U', l2, c2, s2⟩, hW₁, X', ⟨v', G', L', hq, hv, hH', hS', hl2, hc2, hs2⟩, stp⟩ := hres
  dsimp only [Pt.U, Pt.locs, Pt.cells, Pt.slots] at X' hH' hS' hl2 hc2 hs2 stp
  subst hl2
  have hS1 : va_S (fun q => X.2.2.2.2 ≤ q) s.heap U'.heap (locs ++ L') := ab_S_trans hS (by have h := hS'; rw [show (T.setVm vm₁).heap = H from hT] at h; exact h)
  obtain ⟨t, a1, b1⟩ := kk v' G' hq p e R s m args below meth c U'.heap ls (locs ++ L') c2 s2 c0 s0 Z hC hH' hL hS1 hc2 hs2 hZ U' rfl X'
  refine ⟨t, stp t ?_, b1⟩
  rw [hv, ab_stk]
  exact a1
end AbWrap
