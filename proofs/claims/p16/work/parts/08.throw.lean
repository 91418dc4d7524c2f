section AbThrow
/-- a walk that stands at T may be looked at as one that was begun there -/
theorem ab_rebase {p : Program} {l : Launch} {e : Env} {R : Room} {s : State} {m : MethodId} {args : Array Value} {below : List Frame} {meth : Method} {c : Code} {T : State} {locs : List Loc} {cells slots : Nat} (Xs : Stand p l e R s m args below meth c T locs cells slots) (hc : cells ≤ R.cells) (hs : slots ≤ R.slots) :
    Stand p l e { R with cells := R.cells - cells, slots := R.slots - slots } (T.setFrames (.invoking m args :: below)) m args below meth c T [] 0 0 := by
  obtain ⟨g₀, hfr⟩ := Xs.frames_eq
  have hcur : T.cur < T.threads.size := State.cur_lt_of_frames hfr
  have hf1 : (T.setFrames (.invoking m args :: below)).frames = .invoking m args :: below := State.frames_setFrames _ hcur
  have hbook := Xs.book
  have hheap := Xs.heapSize
  have hused := Xs.used
  have hr := Xs.room
  have hm' := Xs.method'
  refine ⟨Xs.admits, Xs.cas, Xs.clock, hf1, ?_, ?_, hm', Xs.code, Xs.here, Xs.tail, State.WarmedH.refl _, by rw [State.stackLimits_setFrames], by rw [State.stackBytes_setFrames], ?_⟩
  · have e1 : (T.setFrames (.invoking m args :: below)).localsInUse = s.localsInUse := by
      rw [State.localsInUse_invoking hf1 hm' Xs.code, State.localsInUse_invoking Xs.frames Xs.method Xs.code]
    have e2 : (T.setFrames (.invoking m args :: below)).frames.length = s.frames.length := by rw [hf1, Xs.frames]
    have e3 : e.platform.stackLimits (T.setFrames (.invoking m args :: below)).me = e.platform.stackLimits s.me := by rw [State.stackLimits_setFrames]; exact Xs.limits
    have e4 : (T.setFrames (.invoking m args :: below)).me.stackBytes = s.me.stackBytes := by rw [State.stackBytes_setFrames]; exact Xs.bytes
    have e5 : (T.setFrames (.invoking m args :: below)).heap = T.heap := rfl
    have e6 : (T.setFrames (.invoking m args :: below)).slotsUsed = T.slotsUsed := rfl
    have e7 : (T.setFrames (.invoking m args :: below)).slotsTrue = true := hbook
    simp only [State.hasRoom, Bool.and_eq_true, decide_eq_true_eq] at hr ⊢
    rw [e1, e2, e3, e4, e5, e6]
    refine ⟨⟨⟨⟨hr.1.1.1.1, hr.1.1.1.2⟩, ?_⟩, ?_⟩, e7⟩
    · have := hr.1.1.2; show T.heap.size + (R.cells - cells) ≤ _; omega
    · have := hr.1.2; show T.slotsUsed + (R.slots - slots) ≤ _; omega
  · have hh := Xs.hears
    cases below with
    | nil => simp only [State.hears] at hh ⊢; rw [show (T.setFrames (.invoking m args :: [])).vm = T.vm from rfl, hm']; rw [Xs.method] at hh; exact hh
    | cons b r =>
      cases b with
      | java g =>
        simp only [State.hears] at hh ⊢
        have : (T.setFrames (.invoking m args :: .java g :: r)).code? g.method = s.code? g.method := by
          rw [State.code?_eq, State.code?_eq, show (T.setFrames (.invoking m args :: .java g :: r)).vm = T.vm from rfl, Xs.warmed.alike.method?]
        rw [this]; exact hh
      | native n => rfl
      | proc n => rfl
      | _ => simp only [State.hears] at hh ⊢; first | (rw [show (T.setFrames _).vm = T.vm from rfl, hm']; rw [Xs.method] at hh; exact hh) | exact hh
  · obtain ⟨t, ht, -⟩ := State.frames_cons hf1
    have h := (State.sameButNew.refl _ ht).setFrames T.frames (show (T.setFrames (.invoking m args :: below)).cur < (T.setFrames (.invoking m args :: below)).threads.size from State.cur_lt_of_frames hf1)
    obtain ⟨t2, ht2, -⟩ := State.frames_cons hfr
    rw [State.setFrames_setFrames, State.setFrames_self ht2] at h
    exact h
theorem ab_isRef {s : State} {C n ds : String} {A : Nat → Prop} (args : Array Value) (h : va_Zq C n ds A s s.heap) : (Cond.isRef (.static C n ds)).before args s = true := by
  rcases h with ⟨cf, kf, fi, f, a, cell, h1, h2, h3, h4, h5, h6, h7, h8⟩ | ⟨t, cf, kf, fi, f, a, cell, h1, h2, h3, h4, h5, h6, h7, h8⟩
  · simp [Cond.before, Cond.holds, Cond.value, Term.eval, State.fieldNamed?, h1, h2, h4, h5, h6, h7]
  · simp [Cond.before, Cond.holds, Cond.value, Term.eval, State.fieldNamed?, h1, h2, h4, h5, h6, h7]
theorem ab_laysS {s : State} {C n ds : String} {A : Nat → Prop} (args : Array Value) (h : ab_St C n ds A s s.heap) : (Cond.laysStatic C n ds).before args s = true := by
  obtain ⟨-, c, i, a, k, f, cell, h1, h2, h3, h4, h5, h6, h7, h8, h9, -⟩ := h
  exact Cond.laysStatic_of h1 h2 h3 h4 h5 h6 h7 h8 h9
/-- above IllegalArgumentException -/
def ab_up : List String := ["java/lang/RuntimeException", "java/lang/Exception"]
/-- the words that a throw of our own needs -/
def ab_tw (own : String) (ic : Nat) : Prop := ∀ w ∈ Bundle.ownAtoms own ic R_IA ab_up, (w ∈ lw_tbl ∧ ab_ok w = true) ∨ w = .isRef (.static "java/lang/Throwable" "UNASSIGNED_STACK" "[Ljava/lang/StackTraceElement;") ∨ w = .isRef (.static "java/lang/Throwable" "SUPPRESSED_SENTINEL" "Ljava/util/List;") ∨ w = .laysStatic "java/lang/Throwable" "UNASSIGNED_STACK" "[Ljava/lang/StackTraceElement;" ∨ w = .laysStatic "java/lang/Throwable" "SUPPRESSED_SENTINEL" "Ljava/util/List;"
variable {X : ab_X} {M : ab_Y} {d : Nat} {G : ab_G} {pc : Nat} {L : List (Option Value)} {Q : Outcome → ab_G → Prop}
theorem ab_throw {idxC k ic : Nat} {tx : String} (hmsg : (M.1, k, tx) ∈ ab_msg) (hE : ∀ c, M.2.2.2.2.2 c → c.exceptionTable.isEmpty = true) (hcl : Cond.classLink M.1 idxC R_IA ∈ lw_tbl) (hins : Cond.instantiable R_IA 6 ∈ lw_tbl) (hini : Cond.initialized R_IA ∈ lw_tbl) (hat : ab_tw M.1 ic)
    (d0 : decode M.2.2.1 pc = .ok (.new idxC, 3)) (d3 : decode M.2.2.1 (pc + 3) = .ok (.dup, 1)) (d4 : decode M.2.2.1 (pc + 4) = .ok (.ldc k, 2)) (d6 : decode M.2.2.1 (pc + 6) = .ok (.invokespecial ic, 3)) (d9 : decode M.2.2.1 (pc + 9) = .ok (.athrow, 1))
    (hdd : 6 ≤ d) (hcells : G.length + 1 ≤ ab_n0 + room_1.cells) (hslots : ab_slots G + 6 ≤ room_1.slots) (hq : Q (.threw G.length) (G ++ [.inr (13, [])])) : ab_W X M d G pc L [] Q := by
  intro p e R s m args below meth c H ls locs cells slots c0 s0 Z hC hH hL hS h1 h2 hZ
  intro T hT Xs
  have hrc := hC.2.2.2.2.1.1
  have hrs := hC.2.2.2.2.1.2
  have hb1 := hH.2.2.2.1
  have hb2 := hH.2.2.2.2
  have hfr := hC.2.2.2.1
  have Xr := ab_rebase Xs (by omega) (by omega)
  have hW0 : s.WarmedH (T.setFrames (.invoking m args :: below)).vm := Xs.warmed
  have hT' : ab_T (T.setFrames (.invoking m args :: below)) := hC.2.1.1.warm hW0
  have hV' : ab_V X (T.setFrames (.invoking m args :: below)) := ab_V.warm hW0 hC.2.2.2.2.2 (fun q hq hA => by show T.heap[q]? = _; rw [hT]; exact hS.2.1 q hq hA) hC.2.1.2.2.2
  have hK' : va_K X.2.1 classes X.2.2.1 (T.setFrames (.invoking m args :: below)) := va_K.moved hW0.alike hC.2.1.2.1
  have hown' : (T.setFrames (.invoking m args :: below)).vm.findClass M.1 = some m.cls := by rw [hW0.alike.findClass]; exact hC.1.2.2.2.1
  have htr : e.platform.stackTraces = false := by rw [Xs.admits.platform]; exact hC.2.2.1.2.2
  obtain ⟨am, hvk⟩ := hV'.2.1 _ hmsg
  have hKn := hK'.1 13 (R_IA, F_IA, 0) rfl
  have hsh : (T.setFrames (.invoking m args :: below)).heap = H := hT
  have key : W p X.1 e { R with cells := R.cells - cells, slots := R.slots - slots } (T.setFrames (.invoking m args :: below)) m args below meth c H [] 0 0
      (fun U => U.status = .running ∧ Ended U below (.threw H.size) ∧ (T.setFrames (.invoking m args :: below)).WarmedH U.vm ∧ (T.setFrames (.invoking m args :: below)).sameButNew ({ U with vm := (T.setFrames (.invoking m args :: below)).vm } : State) [] 1 6 ∧ ∃ ce, U.heap[H.size]? = some ce ∧ ce.cls = X.2.1.1 13 ∧ ce.vm = .none) (F0 m pc ls []) := by
    refine W.newcK hC.1.1 hC.1.2.1 hown' (hT' _ hcl rfl _) (hT' _ hins rfl _) (hT' _ hini rfl _) rfl d0 (by show 0 + 1 ≤ R.cells - cells; omega) (by show 0 + 6 ≤ R.slots - slots; omega) hKn.2.1 rfl fun H1 kC hkC e1 z1 o1 => ?_
    refine lv_dup hC.1.1 hC.1.2.1 d3 rfl ?_
    refine va_ldcS hC.1.1 hC.1.2.1 hown' hvk d4 ?_
    intro T2 hT2 X2
    obtain ⟨U, st1, hrun, hend, hW, hsame, ce, hce, hoc⟩ := X2.ctorThrowS hC.1.1 htr (own := M.1) (cls := R_IA) (names := ab_up) (ic := ic) hown' (by decide +kernel) (by decide +kernel)
      (fun w hw => by
        rcases hat w hw with ⟨q1, q2⟩ | rfl | rfl | rfl | rfl
        · exact hT' w q1 q2 args
        · exact ab_isRef args hV'.2.2.1.1
        · exact ab_isRef args hV'.2.2.2.1.1
        · exact ab_laysS args hV'.2.2.1
        · exact ab_laysS args hV'.2.2.2.1)
      (fun x hx => by cases hx) (a := H.size) hKn.2.1 hkC (by rw [hT2]; exact e1) (by rw [hsh]; exact Nat.le_refl _) (msg := .ref am) rfl
      (g := F0 m (pc + 4 + 2) ls [.ref am, .ref H.size, .ref H.size]) rfl (hL.1.trans hC.1.2.2.1.symm) rfl rfl (rest := []) rfl (by rw [hC.1.2.1]; exact d6) (by rw [hC.1.2.1]; exact d9)
      (fun x hx => by
        have he := hE c hC.1.2.2.2.2.2.2.2
        have : c.exceptionTable.toList = [] := by simpa using he
        rw [this] at hx; cases hx)
      (by show 2 + 3 < R.frames; omega) (by show 2 * 0 + 1 + (13 * (2 + 1) + 42) ≤ R.locals; omega) hC.1.2.2.2.2.2.1
    exact ⟨U, st1, hrun, hend, hW, hsame, ce, hce, Option.some.inj (hoc.cls.symm.trans hKn.2.1), hoc.vm⟩
  obtain ⟨U, st1, hrun, hend, hW, hsame, ce, hce, hcc, hcv⟩ := key T hT Xr
  have hkeep : ∀ q, q < H.size → U.heap[q]? = H[q]? := by
    intro q hq
    obtain ⟨cell, hcell⟩ : ∃ cell, H[q]? = some cell := ⟨_, Array.getElem?_eq_getElem hq⟩
    obtain ⟨c', hc', he, -, hk⟩ := hsame.2.2.2.2.2 q cell (by rw [hsh]; exact hcell)
    have : c'.slots = cell.slots := Array.ext_getElem? fun i => hk i (by simp)
    have hcc' : c' = cell := by rw [he, this]
    rw [hcell, ← hcc']; exact hc'
  have hz : U.heap.size = H.size + 1 := by
    have h3 : U.heap.size ≤ (T.setFrames (.invoking m args :: below)).heap.size + 1 := hsame.2.2.1
    rw [hsh] at h3
    have h4 : H.size < U.heap.size := (Array.getElem?_eq_some_iff.mp hce).1
    omega
  have hsT : T.sameButNew (U.setVm T.vm) [] 1 6 := by
    refine ⟨?_, hsame.2⟩
    have h := hsame.1
    rw [show ((T.setFrames (.invoking m args :: below)).setFrames ({ U with vm := (T.setFrames (.invoking m args :: below)).vm } : State).frames) = T.setFrames ({ U with vm := (T.setFrames (.invoking m args :: below)).vm } : State).frames from State.setFrames_setFrames _ _ _] at h
    exact h
  have hsame2 : s.sameButNew (U.setVm s.vm) (locs ++ []) (cells + 1) (slots + 6) := Xs.same.trans (hsT.setVm s.vm)
  rw [List.append_nil] at hsame2
  refine ⟨U, st1, hZ U (.threw G.length) (G ++ [.inr (13, [])]) locs (cells + 1) (slots + 6) hq hrun (by show Ended U below (.threw (X.2.2.2.1 G.length)); rw [← hH.2.1]; exact hend) (State.WarmedH.trans Xs.warmed hW) hsame2 (hH.app (e := .inr (13, [])) hC.2.2.1 ?_ hz hkeep hcells hslots) (ab_made hS hz hkeep) (by rw [List.length_append, List.length_singleton]; omega) (by rw [ab_slots_app _ hH.2.2.1]; show _ = _ + 6; omega)⟩
  exact ⟨(R_IA, F_IA, 0), rfl, ce, by rw [← hH.2.1]; exact hce, hcc, hcv, fun k hk => absurd hk (Nat.not_lt_zero k)⟩
end AbThrow
