section AbCatch
/-- the search through a table whose first row covers the place and names a class that takes the object (resolved by then or not) -/
theorem ab_go {Q : Handler → Pre} {E : CtlPost} {e : Env} {d : Bool} {acts : List Action} {S : State} {f : JFrame} {a : Addr} {x : ExceptionTableEntry} {t : List ExceptionTableEntry} {c : ClassId} {cell : Cell} (hx : covers x f.pc = true) (h0 : x.catchType ≠ 0)
    (hl : S.vm.ClassLinks e.platform f.method.cls x.catchType c) (hcell : S.heap[a]? = some cell) (hobj : ∀ k, cell.vm ≠ .statics k) (hk : ∃ k, S.vm.classes[cell.cls]? = some k) (hc : ∃ k, S.vm.classes[c]? = some k) (hfit : S.vm.assignable cell.cls c = true) :
    wp (findHandler.go f a (x :: t)) Q E e d acts S ↔ Q (.found x.handlerPc) d acts (S.setVm (S.vm.noted f.method.cls x.catchType (.cls c))) := by
  simp only [covers] at hx
  obtain ⟨ha, ht⟩ := (resolveClass_links e.toSetting hl).op (op := VmOp.resolveClass f.method.cls x.catchType) rfl
  have hal : S.vm.Alike (S.vm.noted f.method.cls x.catchType (.cls c)) := (Vm.Alike.refl S.vm).noted _ _ _
  obtain ⟨k1, hk1⟩ := hk
  obtain ⟨k2, hk2⟩ := hc
  obtain ⟨k1', hk1', -⟩ := hal.2.2 _ _ hk1
  obtain ⟨k2', hk2', -⟩ := hal.2.2 _ _ hk2
  have hfit' : (S.vm.noted f.method.cls x.catchType (.cls c)).assignable cell.cls c = true := by rw [hal.assignable]; exact hfit
  simp [findHandler.go, hx, h0, ha, ht, hcell, hobj, hk1', hk2', hfit', VmOp.dirties, VmOp.acts]
theorem ab_stepCatch {e : Env} {S : State} {a : Addr} {f : JFrame} {r : List Frame} {pc : Nat} {vm' : Vm} (hfind : ∀ (Q : Handler → Pre) (E : CtlPost) (d : Bool) (acts : List Action), wp (findHandler f a) Q E e d acts S ↔ Q (.found pc) d acts (S.setVm vm')) :
    (stepThrowing e S a (.java f :: r)).Is ((S.setVm vm').setFrames (.java { f with pc := pc, stack := [.ref a] } :: r)) [] := by
  simp only [stepThrowing, searchFrame, vmDo]
  generalize hr : Sem.go _ e false [] S = res
  obtain ⟨as, rfl, ha⟩ := Sem.eq_ok_of hr (a := Handler.found pc) (s' := S.setVm vm') (acts' := []) (by simp [hfind _ _ _ _])
  exact ⟨rfl, ha⟩
/-- the thrown object is caught in the walked method -/
theorem ab_caught {p : Program} {l : Launch} {e : Env} {R : Room} {s : State} {m : MethodId} {args : Array Value} {below : List Frame} {meth : Method} {c : Code} {T : State} {locs : List Loc} {cells slots : Nat} (Xs : Stand p l e R s m args below meth c T locs cells slots) {own C : String} (hown : s.vm.findClass own = some m.cls)
    {g : JFrame} (hg : g.method = m) {a : Addr} {cell : Cell} (hcell : T.heap[a]? = some cell) (hobj : cell.vm.isStatics = false) {x : ExceptionTableEntry} (hx : c.exceptionTable.toList = [x]) (hcov : covers x g.pc = true) (h0 : x.catchType ≠ 0)
    (hlink : (Cond.classLink own x.catchType C).before args s = true) (hcast : (Cond.castable C C).before args s = true) (hcls : s.vm.findClass C = some cell.cls) :
    ∃ vm', s.WarmedH vm' ∧ Stand p l e R s m args below meth c (T.setVm vm') locs cells slots ∧
      ∀ target, Steps p.tables e below ((T.setVm vm').setTop { g with pc := x.handlerPc, stack := [.ref a] }) target → Steps p.tables e below ((T.setTop g).pushFrame (.throwing a)) target := by
  subst hg
  have hpl : e.platform.magicAccessors = ({} : Platform).magicAccessors := by rw [Xs.admits.platform]
  obtain ⟨cC, hfC, hcl⟩ := Cond.classLink_spec hown hlink e.platform hpl
  have hcc : cC = cell.cls := Option.some.inj (hfC.symm.trans hcls)
  subst hcc
  obtain ⟨c1, c2, q1, q2, hasg⟩ := Cond.castable_spec hcast
  cases Option.some.inj (q1.symm.trans hcls)
  cases Option.some.inj (q2.symm.trans hcls)
  obtain ⟨dk, _, _, ck, hd, _, _, _, _, hck, _, hopen⟩ := hcl.here
  have hW' : s.WarmedH (T.vm.noted g.method.cls x.catchType (.cls cell.cls)) := Xs.warmed.noted hd hopen (State.rightAt_cls hcl)
  have hclT := Xs.warmed.classLinks hcl
  obtain ⟨k', hk', -⟩ := Xs.warmed.alike.2.2 _ _ hck
  have hasgT : T.vm.assignable cell.cls cell.cls = true := by rw [Xs.warmed.alike.assignable]; exact hasg
  have hvmS : ((T.setTop g).pushFrame (.throwing a)).vm = T.vm := Stand.throwing_vm T g a
  have hhS : ((T.setTop g).pushFrame (.throwing a)).heap = T.heap := Stand.throwing_heap T g a
  have hfind : ∀ (Q : Handler → Pre) (E : CtlPost) (d : Bool) (acts : List Action), wp (findHandler g a) Q E e d acts ((T.setTop g).pushFrame (.throwing a)) ↔ Q (.found x.handlerPc) d acts (((T.setTop g).pushFrame (.throwing a)).setVm (T.vm.noted g.method.cls x.catchType (.cls cell.cls))) := by
    intro Q E d acts
    rw [W.findHandler_eq (meth := meth) (code := c) (by rw [hvmS]; exact Xs.method') Xs.code, hx]
    have h := ab_go (Q := Q) (E := E) (e := e) (d := d) (acts := acts) (S := (T.setTop g).pushFrame (.throwing a)) (f := g) (a := a) (x := x) (t := []) (c := cell.cls) (cell := cell) hcov h0 (by rw [hvmS]; exact hclT) (by rw [hhS]; exact hcell) (fun k h => by rw [h] at hobj; cases hobj) (by rw [hvmS]; exact ⟨k', hk'⟩) (by rw [hvmS]; exact ⟨k', hk'⟩) (by rw [hvmS]; exact hasgT)
    rw [hvmS] at h
    exact h
  refine ⟨_, hW', Xs.noted hW', fun target hrest => ?_⟩
  have h : At T g.method c below := Xs.here
  obtain ⟨hgo, hw⟩ := h.throwing a
  refine Steps.head hgo hw ?_
  rw [stepThread_throwing (frames_entered h.top _), (ab_stepCatch hfind).1]
  obtain ⟨g₀, hg⟩ := Option.isSome_iff_exists.mp h.top
  obtain ⟨r, hr⟩ := State.topJava?_eq_some.mp hg
  have hr2 : (T.setVm (T.vm.noted g.method.cls x.catchType (.cls cell.cls))).frames = .java g₀ :: r := hr
  rw [State.setTop_of_frames _ hr2] at hrest
  rw [State.pushFrame, State.setTop_of_frames _ hr, State.setFrames_setFrames]
  rw [hr]
  have e9 : ((T.setFrames (.throwing a :: (T.setFrames (.java g :: r)).frames)).setVm (T.vm.noted g.method.cls x.catchType (.cls cell.cls))).setFrames (.java { g with pc := x.handlerPc, stack := [.ref a] } :: r) = (T.setVm (T.vm.noted g.method.cls x.catchType (.cls cell.cls))).setFrames (.java { g with pc := x.handlerPc, stack := [.ref a] } :: r) := by
    show ((T.setFrames _).setFrames _).setVm _ = _
    rw [State.setFrames_setFrames]
    rfl
  exact e9 ▸ hrest
variable {X : ab_X} {M : ab_Y} {d d' : Nat} {G : ab_G} {pc : Nat} {L : List (Option Value)} {st : List Value} {Q Q' : Outcome → ab_G → Prop} {idx : Nat} {y : MethodName} {bytes : ByteArray} {maxL : Nat} {ret : Option FieldType} {as : List Value} {stk : List Value}
/-- a call that throws, caught by the only handler of the calling method -/
theorem ab_callVT {a ci hp ct : Nat} {fs : List Value} {r : vw_C} (hF : ab_F X d' y (.code y bytes maxL ret) (.ref a :: as) G Q') (hth : ∀ o G', Q' o G' → ∃ b, o = .threw b ∧ G'[b]? = some (.inr (13, []))) (hdd : d' + 1 ≤ d) (hm : ab_mt y bytes maxL ret as.length) (hl : Cond.methodLink M.1 idx y ∈ lw_tbl) (hin : Cond.instanceMethod y ∈ lw_tbl) (hse : Cond.selects r.1 y y ∈ lw_tbl) (hr : classes[ci]? = some r) (hG : G[a]? = some (.inr (ci, fs))) (hwt : (st.map fun v => v.category).sum ≤ 8) (hd : decode M.2.2.1 pc = .ok (.invokevirtual idx, 3)) (hstk : stk = as.reverse ++ .ref a :: st)
    (hE : ∀ c, M.2.2.2.2.2 c → ∃ x, c.exceptionTable.toList = [x] ∧ covers x pc = true ∧ x.handlerPc = hp ∧ x.catchType = ct) (hct : ct ≠ 0) (hcl : Cond.classLink M.1 ct R_IA ∈ lw_tbl) (hca : Cond.castable R_IA R_IA ∈ lw_tbl)
    (kk : ∀ b G', Q' (.threw b) G' → ab_W X M d G' hp L [.ref b] Q) : ab_W X M d G pc L stk Q := by
  intro p e R s m args below meth c H ls locs cells slots c0 s0 Z hC hH hL hS h1 h2 hZ
  intro T hT Xs
  have hT0 := hC.2.1.1
  have hP1 := ab_one (q := (X.2.2.2.1 a, .inr (ci, fs.map (ab_v X.2.2.2.1)))) (hH.1 a _ hG)
  obtain ⟨cellB, hcB, hoB, hclB⟩ := va_recv (q0 := 0) hC.2.1.2.1 hP1 hr rfl
  have hstack : (F0 m pc ls (stk.map (ab_v X.2.2.2.1))).stack = (as.map (ab_v X.2.2.2.1)).reverse ++ .ref (X.2.2.2.1 a) :: st.map (ab_v X.2.2.2.1) := by show stk.map _ = _; rw [hstk, List.map_append, List.map_reverse]; rfl
  have hw8 : 2 * (F0 m pc ls (stk.map (ab_v X.2.2.2.1))).monitorRoom + ((st.map (ab_v X.2.2.2.1)).map fun v => v.category).sum ≤ 8 := lv_room (by rw [ab_cats]; exact hwt)
  have hsz : (F0 m pc ls (st.map (ab_v X.2.2.2.1))).locals.size = c.maxLocals := hL.1.trans hC.1.2.2.1.symm
  have hdg : decode c.code (F0 m pc ls (stk.map (ab_v X.2.2.2.1))).pc = .ok (.invokevirtual idx, 3) := by rw [hC.1.2.1]; exact hd
  have hdg2 : decode c.code (F0 m pc ls (st.map (ab_v X.2.2.2.1))).pc = .ok (.invokevirtual idx, 3) := by rw [hC.1.2.1]; exact hd
  have hlen : ∀ sig, parseMethodDescriptor y.desc = some sig → (as.map (ab_v X.2.2.2.1)).length = sig.parameters.length := fun sig h => by rw [List.length_map]; exact hm.len sig h
  obtain ⟨mk, methM, hnamed, hmethM, hstM, habM⟩ := Cond.instanceMethod_spec (hT0 _ hin rfl args)
  obtain ⟨methM', cM, hmethM', hcM, -, hlM, -, -, -, hsigM⟩ := Cond.code_spec hnamed (hT0 _ hm.2.1 rfl args)
  cases hmethM.symm.trans hmethM'
  obtain ⟨c2, r2, m2, q1, q2, q3, q4, kP, hkP, hkPi⟩ := Cond.selects_spec (hT0 _ hse rfl args)
  cases hclB.symm.trans q1
  cases (State.methodFound?_of_named hnamed hm.2.2.2.1).symm.trans q2
  cases hnamed.symm.trans q3
  have hselP : selectMethod e.platform s.vm cellB.cls mk = .method mk := by rw [Launch.admits_selectMethod Xs.admits]; exact q4
  obtain ⟨vm₁, X₁, hstep₁⟩ := Xs.invokevirtual hC.1.1 hC.1.2.2.2.1 (hT0 _ hl rfl args) hnamed hmethM hstM hkP hkPi hm.2.2.2.1 (a := X.2.2.2.1 a) (cell := cellB) (by rw [hT]; exact hcB)
    (fun z h => by rw [h] at hoB; cases hoB) hselP hmethM habM hkP hkPi (g := F0 m pc ls (stk.map (ab_v X.2.2.2.1))) rfl (argsL := as.map (ab_v X.2.2.2.1)) (rest := st.map (ab_v X.2.2.2.1)) (hlen _ hsigM) hstack hdg
  have hrc := hC.2.2.2.2.1.1
  have hrs := hC.2.2.2.2.1.2
  have hb1 := hH.2.2.2.1
  have hb2 := hH.2.2.2.2
  have hfr2 := hC.2.2.2.1
  have hml := hm.1
  have hM := hF hC.2.2.1 hC.2.1.2.2.1 { frames := d', cells := ab_n0 + room_1.cells - G.length, slots := room_1.slots - ab_slots G, locals := 41 * d' } (Nat.le_refl _) (Nat.le_refl _) (by show G.length + (ab_n0 + room_1.cells - G.length) = _; omega) (by show ab_slots G + (room_1.slots - ab_slots G) = _; omega)
  have hTU : ab_T (T.setVm vm₁) := ab_T.warm (U := T.setVm vm₁) X₁.warmed hT0
  have hnU : (T.setVm vm₁).methodNamed? y = some mk := X₁.named hnamed
  have hAt : At (T.setVm vm₁) m c below := X₁.here
  obtain ⟨methY, cY, hmY, hcY, -, hlY, -, -, -, -⟩ := Cond.code_spec hnU (hTU _ hm.2.1 rfl #[])
  obtain ⟨kY, hkY, -⟩ := className_of_methodNamed hnU
  have hinitY : kY.init = .initialized := Cond.initialized_spec (findClass_of_methodNamed hnU) hkY (hTU _ hm.2.2.1 rfl #[])
  have happ : (headSpec [Cond.code y bytes maxL ret] { frames := d', cells := ab_n0 + room_1.cells - G.length, slots := room_1.slots - ab_slots G, locals := 41 * d' }).appliesLoose y e.platform ((T.setVm vm₁).calling (F0 m pc ls (st.map (ab_v X.2.2.2.1))) mk (Value.ref (X.2.2.2.1 a) :: as.map (ab_v X.2.2.2.1)).toArray) = true :=
    Spec.appliesLoose_calling (g := F0 m pc ls (st.map (ab_v X.2.2.2.1))) hAt hdg2 hnU hkY hinitY
      (X₁.room_calling (g := F0 m pc ls (st.map (ab_v X.2.2.2.1))) (R' := { frames := d', cells := ab_n0 + room_1.cells - G.length, slots := room_1.slots - ab_slots G, locals := 41 * d' }) hsz hmY hcY (by show d' + 1 ≤ R.frames; omega) (by
        rw [hlY]
        have e1 : (F0 m pc ls (st.map (ab_v X.2.2.2.1))).monitorRoom = (F0 m pc ls (stk.map (ab_v X.2.2.2.1))).monitorRoom := rfl
        have e2 : 2 * (F0 m pc ls (st.map (ab_v X.2.2.2.1))).monitorRoom + ((F0 m pc ls (st.map (ab_v X.2.2.2.1))).stack.map fun v => v.category).sum ≤ 8 := by rw [e1]; exact hw8
        show 2 * (F0 m pc ls (st.map (ab_v X.2.2.2.1))).monitorRoom + ((F0 m pc ls (st.map (ab_v X.2.2.2.1))).stack.map fun v => v.category).sum + (maxL + 11) + 41 * d' ≤ R.locals
        omega) (by show cells + (ab_n0 + room_1.cells - G.length) ≤ R.cells; omega) (by show slots + (room_1.slots - ab_slots G) ≤ R.slots; omega))
      (atoms_intro fun w hw => by
        rw [List.mem_singleton] at hw
        subst hw
        exact hTU _ hm.2.1 rfl _)
  obtain ⟨mid, hmid⟩ := hAt.above
  have hfr : ((T.setVm vm₁).setTop (F0 m pc ls (st.map (ab_v X.2.2.2.1)))).frames = (.java (F0 m pc ls (st.map (ab_v X.2.2.2.1))) :: mid) ++ below := by rw [State.frames_setTop' _ hAt.top, hmid]; rfl
  have hPc : ab_P X (.ref a :: as) G (Value.ref (X.2.2.2.1 a) :: as.map (ab_v X.2.2.2.1)).toArray ((T.setVm vm₁).calling (F0 m pc ls (st.map (ab_v X.2.2.2.1))) mk (Value.ref (X.2.2.2.1 a) :: as.map (ab_v X.2.2.2.1)).toArray) := by
    refine ⟨rfl, ab_T.warm (U := (T.setVm vm₁).calling _ mk _) X₁.warmed hT0, va_K.moved (u := s) (U := (T.setVm vm₁).calling _ mk _) X₁.warmed.alike hC.2.1.2.1, ab_V.warm (U := (T.setVm vm₁).calling _ mk _) X₁.warmed hC.2.2.2.2.2 (fun q hq hA => ?_) hC.2.1.2.2.2, ab_H.moved (U := (T.setVm vm₁).calling _ mk _) X₁.warmed.alike ?_, ?_⟩
    · show T.heap[q]? = _; rw [hT]; exact hS.2.1 q hq hA
    · show ab_H X s G T.heap; rw [hT]; exact hH
    · show X.2.2.2.2 ≤ T.heap.size; rw [hT]; exact Nat.le_trans hC.2.2.2.2.2 hS.1
  obtain ⟨o, s₂, hsteps, -, hend, hq⟩ := Steps.callFree hM p X₁.admits X₁.cas X₁.clock (acts := []) hfr happ hPc trivial
  obtain ⟨o', G', L', k, n', w1, w2, w3, w4, w5, w6, w7, w8⟩ := hq
  obtain ⟨b, rfl, hb⟩ := hth o' G' w1
  subst w2
  have hend2 : s₂.frames = .throwing (X.2.2.2.1 b) :: ((T.setVm vm₁).setTop (F0 m pc ls (st.map (ab_v X.2.2.2.1)))).frames := hend
  have hWs : (T.setVm vm₁).WarmedH s₂.vm := w5
  have hWs' : s.WarmedH s₂.vm := State.WarmedH.trans X₁.warmed hWs
  obtain ⟨g₀, hg0⟩ := Option.isSome_iff_exists.mp hAt.top
  obtain ⟨rr, hrr⟩ := State.topJava?_eq_some.mp hg0
  have hs₂ : s₂ = ((({ T.setVm vm₁ with heap := s₂.heap, slotsUsed := s₂.slotsUsed } : State).setVm s₂.vm).setTop (F0 m pc ls (st.map (ab_v X.2.2.2.1)))).pushFrame (.throwing (X.2.2.2.1 b)) := by
    have hr' : (({ T.setVm vm₁ with heap := s₂.heap, slotsUsed := s₂.slotsUsed } : State).setVm s₂.vm).frames = .java g₀ :: rr := hrr
    have e3 : s₂ = ({ ((T.setVm vm₁).calling (F0 m pc ls (st.map (ab_v X.2.2.2.1))) mk (Value.ref (X.2.2.2.1 a) :: as.map (ab_v X.2.2.2.1)).toArray).setFrames s₂.frames with heap := s₂.heap, slotsUsed := s₂.slotsUsed } : State).setVm s₂.vm := by
      have h0 : s₂ = ({ s₂ with vm := ((T.setVm vm₁).calling (F0 m pc ls (st.map (ab_v X.2.2.2.1))) mk (Value.ref (X.2.2.2.1 a) :: as.map (ab_v X.2.2.2.1)).toArray).vm } : State).setVm s₂.vm := rfl
      have h1' := w6.1
      exact h0.trans (congrArg (fun z : State => z.setVm s₂.vm) h1')
    refine e3.trans ?_
    rw [hend2, State.frames_setTop' _ hAt.top, State.calling_eq hAt.top, State.setFrames_setFrames, State.pushFrame, State.frames_setTop' _ (show ((({ T.setVm vm₁ with heap := s₂.heap, slotsUsed := s₂.slotsUsed } : State).setVm s₂.vm).topJava?).isSome from hAt.top), State.setTop_of_frames _ hr', State.setFrames_setFrames]
    rfl
  have hsame : (T.setVm vm₁).sameButNew ({ T.setVm vm₁ with heap := s₂.heap, slotsUsed := s₂.slotsUsed } : State) L' k n' := by
    refine ⟨?_, w6.2⟩
    obtain ⟨t, ht, -⟩ := State.frames_cons hrr
    show ({ T.setVm vm₁ with heap := s₂.heap, slotsUsed := s₂.slotsUsed } : State) = { (T.setVm vm₁).setFrames (T.setVm vm₁).frames with heap := s₂.heap, slotsUsed := s₂.slotsUsed }
    rw [State.setFrames_self ht]
  have X₂ : Stand p X.1 e R s m args below meth c (({ T.setVm vm₁ with heap := s₂.heap, slotsUsed := s₂.slotsUsed } : State).setVm s₂.vm) (locs ++ L') (cells + k) (slots + n') :=
    ⟨X₁.admits, X₁.cas, X₁.clock, X₁.frames, X₁.room, X₁.hears, X₁.method, X₁.code, (X₁.here.setHeapUsed s₂.heap s₂.slotsUsed).setVm hWs.alike, X₁.tail, hWs', X₁.limits, X₁.bytes, X₁.same.trans (hsame.setVm s.vm)⟩
  have hH' : ab_H X s G' s₂.heap := ab_H.moved (u := (T.setVm vm₁).calling _ mk _) (U := s) X₁.warmed.alike.symm w3
  obtain ⟨r3, hr3, cellX, v1, v2, v3, -⟩ := hH'.1 b _ hb
  obtain ⟨x, hx1, hx2, hx3, hx4⟩ := hE c hC.1.2.2.2.2.2.2.2
  have hKn := hC.2.1.2.1.1 13 (R_IA, F_IA, 0) rfl
  obtain ⟨vm', hW3, X₃, hst3⟩ := ab_caught X₂ hC.1.2.2.2.1 (g := F0 m pc ls (st.map (ab_v X.2.2.2.1))) rfl (a := X.2.2.2.1 b) (cell := cellX) v1 (by rw [v3]; rfl) hx1 hx2 (by rw [hx4]; exact hct) (C := R_IA) (by rw [hx4]; exact hT0 _ hcl rfl _) (hT0 _ hca rfl _) (by rw [v2]; exact hKn.2.1)
  have hS0 : va_S (fun q => X.2.2.2.2 ≤ q) T.heap s₂.heap L' := w4
  rw [hT] at hS0
  have hS1 : va_S (fun q => X.2.2.2.2 ≤ q) s.heap s₂.heap (locs ++ L') := ab_S_trans hS hS0
  obtain ⟨t, a1, b9⟩ := kk b G' w1 p e R s m args below meth c s₂.heap ls (locs ++ L') (cells + k) (slots + n') c0 s0 Z hC hH' hL hS1 (by omega) (by omega) hZ ((({ T.setVm vm₁ with heap := s₂.heap, slotsUsed := s₂.slotsUsed } : State).setVm s₂.vm).setVm vm') rfl X₃
  refine ⟨t, hstep₁ _ (fun acts => ?_), b9⟩
  rw [doInvoke_state]
  refine hsteps.trans ?_
  rw [hs₂]
  refine hst3 t ?_
  rw [hx3]
  exact a1
end AbCatch
