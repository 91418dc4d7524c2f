section AbMore
variable {X : ab_X} {M : ab_Y} {d : Nat} {G : ab_G} {pc : Nat} {L : List (Option Value)} {st : List Value} {Q : Outcome → ab_G → Prop}
theorem ab_gets {idx i : Nat} {C n ds : String} (hq : (C, n, ds, i) ∈ ab_stat) (hl : Cond.fieldLink M.1 idx C n ds ∈ lw_tbl ∨ ∃ host, Cond.fieldLinkNest M.1 idx C n ds host ∈ lw_tbl) (hd : decode M.2.2.1 pc = .ok (.getstatic idx, 3)) (kk : ab_W X M d G (pc + 3) L (.ref i :: st) Q) : ab_W X M d G pc L st Q := by
  intro p e R s m args below meth c H ls locs cells slots c0 s0 Z hC hH hL hS h1 h2 hZ
  have hz := hC.2.1.2.2.2.1 _ hq
  have hk := kk p e R s m args below meth c H ls locs cells slots c0 s0 Z hC hH hL hS h1 h2 hZ
  rcases hl with hl | ⟨host, hl⟩
  · exact va_gets hC.1.1 hC.1.2.1 hz hS hC.1.2.2.2.1 (hC.2.1.1 _ hl rfl _) (fun _ h => h) hd hk
  · exact va_getsN hC.1.1 hC.1.2.1 hz hS hC.1.2.2.2.1 (hC.2.1.1 _ hl rfl _) (fun _ h => h) hd hk
theorem ab_rf (f : Nat → Nat) (r : Option Nat) : va_rf (r.map f) = ab_v f (va_rf r) := by cases r <;> rfl
theorem ab_aald {a n : Nat} {f : Nat → Option Nat} {i : Int32} (hd : decode M.2.2.1 pc = .ok (.aaload, 1)) (hG : G[a]? = some (.inl (3, n, .inr (.inr (.inr (.inr f)))))) (hin : vp_in i n) (kk : ab_W X M d G (pc + 1) L (va_rf (f i.toNatClampNeg) :: st) Q) : ab_W X M d G pc L (.int i :: .ref a :: st) Q := by
  intro p e R s m args below meth c H ls locs cells slots c0 s0 Z hC hH hL hS h1 h2 hZ
  obtain ⟨cell, ft, q1, q2, q3, q4, q5, -, -⟩ := hH.1 a _ hG
  have e0 : ft = .object "PatternWorks$Program" := (Option.some.inj q2).symm
  subst e0
  have hlt : i.toNatClampNeg < n := Nat.not_le.mp fun q => hin (Or.inr q)
  have hk := kk p e R s m args below meth c H ls locs cells slots c0 s0 Z hC hH hL hS h1 h2 hZ
  exact W.aald (v := ab_v X.2.2.2.1 (va_rf (f i.toNatClampNeg))) hC.1.1 hC.1.2.1 q1 q3 rfl q4 (fun h => h.elim (fun h => hin (Or.inl h)) (fun h => absurd h (Nat.not_le.mpr (Nat.lt_of_lt_of_le hlt q5.1)))) (by rw [q5.2.2 _ hlt, ← ab_rf]; exact arrV_read 0 (fun j => va_rf ((f j).map X.2.2.2.1)) hlt) rfl rfl hd hk
theorem ab_aast {a n v : Nat} {vs : List Value} {f : Nat → Option Nat} {i : Int32} (hd : decode M.2.2.1 pc = .ok (.aastore, 1)) (hG : G[a]? = some (.inl (3, n, .inr (.inr (.inr (.inr f)))))) (hv : G[v]? = some (.inr (5, vs))) (hin : vp_in i n) (ha : ab_n0 ≤ a) (kk : ab_W X M d (G.set a (.inl (3, n, .inr (.inr (.inr (.inr (va_up f i.toNatClampNeg (some v)))))))) (pc + 1) L st Q) : ab_W X M d G pc L (.ref v :: .int i :: .ref a :: st) Q := by
  intro p e R s m args below meth c H ls locs cells slots c0 s0 Z hC hH hL hS h1 h2 hZ
  obtain ⟨cell, ft, q1, q2, q3, q4, -, q5, q6, -⟩ := hH.1 a _ hG
  have e0 : ft = .object "PatternWorks$Program" := (Option.some.inj q2).symm
  subst e0
  have e1 : cell.slots = (arrV 0 n (fun j => va_rf ((f j).map X.2.2.2.1))).slots := q5 ha
  have hlt : i.toNatClampNeg < n := Nat.not_le.mp fun q => hin (Or.inr q)
  have h0 : ¬ i < 0 := fun q => hin (Or.inl q)
  obtain ⟨r', hr', cellV, g1, g2, g3, -⟩ := hH.1 v _ hv
  have hcls := (hC.2.1.2.1.1 5 _ c_PR).2
  obtain ⟨kA, comp, k1, k2, k3, -⟩ := (hC.2.1.2.1.2 3 _ (ab_tag hC.2.1.2.2.1 (t := 3) rfl)).2
  have hcomp : comp = X.2.1.1 5 := Option.some.inj (k3.symm.trans hcls.1)
  subst hcomp
  obtain ⟨kC, hkC, -⟩ := hcls.2
  refine W.aast hC.1.1 hC.1.2.1 q1 q3.1 q4 (by rw [q6 rfl]; exact k1) k2 rfl hkC ⟨h0, by rw [e1, arrV_size]; exact hlt⟩ g1 (fun q h => by rw [g3] at h; cases h) (by rw [g2]; exact hkC) (by rw [g2]; exact va_assign hcls) rfl rfl hd fun H1 w1 z oq => ?_
  refine kk p e R s m args below meth c H1 ls _ cells slots c0 s0 Z hC (hH.set hC.2.2.1 ha hG ⟨_, _, w1, rfl, ⟨q3.1, q3.2⟩, q4, ab_arr.of ?_ (ab_vsz _ _), fun _ => ?_, (fun _ => q6 rfl), (fun h => by cases h)⟩ z oq rfl) hL (hS.put z oq (hC.2.2.1.base ha (ab_lt hH hG))) (by rw [List.length_set]; exact h1) (h2.trans (ab_slots_set hG (by rfl)).symm) hZ
  all_goals
      have e2 := congrArg Cell.slots (arrV_store 0 n i.toNatClampNeg (fun j => va_rf ((f j).map X.2.2.2.1)) (.ref (X.2.2.2.1 v)))
      show cell.slots.setIfInBounds _ _ = (arrV 0 n _).slots
      rw [e1]
      refine e2.trans ?_
      congr 2
      funext q
      by_cases hq : q = i.toNatClampNeg
      · subst hq
        simp [updV, va_up, va_rf]
      · simp [updV, va_up, hq]
theorem ab_anew {idx : Nat} {n : Int32} {N : Nat} (hl : Cond.classLink M.1 idx "PatternWorks$Program" ∈ lw_tbl) (hov : Cond.arrayOver (.object "PatternWorks$Program") ∈ lw_tbl) (hd : decode M.2.2.1 pc = .ok (.anewarray idx, 3)) (hn : ¬ n < 0) (hN : n.toNatClampNeg = N) (hcl : G.length + 1 ≤ ab_n0 + room_1.cells) (hsl : ab_slots G + N ≤ room_1.slots)
    (kk : ab_W X M d (G ++ [.inl (3, N, .inr (.inr (.inr (.inr fun _ => none))))]) (pc + 3) L (.ref G.length :: st) Q) : ab_W X M d G pc L (.int n :: st) Q := by
  intro p e R s m args below meth c H ls locs cells slots c0 s0 Z hC hH hL hS h1 h2 hZ
  have hroom : room_1.slots ≤ 60000000 := by decide
  subst hN
  refine W.anew hC.1.1 hC.1.2.1 hC.1.2.2.2.1 (hC.2.1.1 _ hl rfl _) (hC.2.1.1 _ hov rfl _) rfl hd rfl hn (by omega) (by have := hC.2.2.2.2.1.1; omega) (by have := hC.2.2.2.2.1.2; omega) fun cA kA comp f1 f2 f3 f4 => ?_
  generalize hH1 : H.push ({ cls := cA, slots := Array.replicate n.toNatClampNeg .null, vm := .none } : Cell) = H1
  have z1 : H1.size = H.size + 1 := by rw [← hH1, Array.size_push]
  have e1 : H1[H.size]? = some (arrV cA n.toNatClampNeg (fun _ => .null)) := by rw [← hH1, Array.getElem?_push_size, ← arrV_new]
  have o1 : ∀ q : Nat, q < H.size → H1[q]? = H[q]? := fun q hq => by rw [← hH1, Array.getElem?_push, if_neg (Nat.ne_of_lt hq)]
  have hcA : cA = (X.2.2.1.getD 3 (0, .int)).1 := by
    obtain ⟨kA', comp', -, -, -, k4⟩ := (hC.2.1.2.1.2 3 _ (ab_tag hC.2.1.2.2.1 (t := 3) rfl)).2
    exact Option.some.inj (f1.symm.trans k4)
  rw [hH.2.1] at e1
  have hk := kk p e R s m args below meth c H1 ls locs (cells + 1) (slots + n.toNatClampNeg) c0 s0 Z hC (hH.app hC.2.2.1 ⟨_, .object "PatternWorks$Program", e1, rfl, ⟨(fun k h => by cases h), kA, f2, comp, f3⟩, (fun h => by cases h), ab_arr.of rfl (ab_vsz _ _), fun _ => rfl, (fun _ => hcA), (fun h => by cases h)⟩ z1 o1 hcl hsl) hL (ab_made hS z1 o1) (by rw [List.length_append, List.length_singleton]; omega) (by rw [ab_slots_app _ hH.2.2.1]; show _ = _ + n.toNatClampNeg; omega) hZ
  rw [hH.2.1]
  exact hk
theorem ab_mmax {idx : Nat} {x y : Int32} (hl : Cond.methodLink M.1 idx Lib.Math.max.name ∈ lw_tbl) (hs : Cond.static Lib.Math.max.name ∈ lw_tbl) (hi : Cond.initialized "java/lang/Math" ∈ lw_tbl) (hc : Cond.code Lib.Math.max.name Lib.Math.max.code 2 (some .int) ∈ lw_tbl) (hd : decode M.2.2.1 pc = .ok (.invokestatic idx, 3)) (hwt : (st.map fun v => v.category).sum ≤ 8) (hdd : 1 ≤ d)
    (kk : ab_W X M d G (pc + 3) L (.int (if x < y then y else x) :: st) Q) : ab_W X M d G pc L (.int y :: .int x :: st) Q := by
  intro p e R s m args below meth c H ls locs cells slots c0 s0 Z hC hH hL hS h1 h2 hZ
  have hr := hC.2.2.2.1
  exact va_mmax hC.1.1 hC.1.2.1 (hC.1.2.2.1.trans hL.1.symm) hC.1.2.2.2.1 (hC.2.1.1 _ hl rfl _) (hC.2.1.1 _ hs rfl _) (hC.2.1.1 _ hi rfl _) (hC.2.1.1 _ hc rfl _) (by omega) (by rw [ab_cats]; omega) (by have := hC.2.2.2.2.1.1; have := hH.2.2.2.1; omega) (by have := hC.2.2.2.2.1.2; have := hH.2.2.2.2; omega) hd (kk p e R s m args below meth c H ls locs cells slots c0 s0 Z hC hH hL hS h1 h2 hZ)
theorem ab_mmin {idx : Nat} {x y : Int32} (hl : Cond.methodLink M.1 idx Lib.Math.min.name ∈ lw_tbl) (hs : Cond.static Lib.Math.min.name ∈ lw_tbl) (hi : Cond.initialized "java/lang/Math" ∈ lw_tbl) (hc : Cond.code Lib.Math.min.name Lib.Math.min.code 2 (some .int) ∈ lw_tbl) (hd : decode M.2.2.1 pc = .ok (.invokestatic idx, 3)) (hwt : (st.map fun v => v.category).sum ≤ 8) (hdd : 1 ≤ d)
    (kk : ab_W X M d G (pc + 3) L (.int (if y < x then y else x) :: st) Q) : ab_W X M d G pc L (.int y :: .int x :: st) Q := by
  intro p e R s m args below meth c H ls locs cells slots c0 s0 Z hC hH hL hS h1 h2 hZ
  have hr := hC.2.2.2.1
  exact va_mmin hC.1.1 hC.1.2.1 (hC.1.2.2.1.trans hL.1.symm) hC.1.2.2.2.1 (hC.2.1.1 _ hl rfl _) (hC.2.1.1 _ hs rfl _) (hC.2.1.1 _ hi rfl _) (hC.2.1.1 _ hc rfl _) (by omega) (by rw [ab_cats]; omega) (by have := hC.2.2.2.2.1.1; have := hH.2.2.2.1; omega) (by have := hC.2.2.2.2.1.2; have := hH.2.2.2.2; omega) hd (kk p e R s m args below meth c H ls locs cells slots c0 s0 Z hC hH hL hS h1 h2 hZ)
theorem ab_pairs (at_ : Nat) : ∀ (vs : List (Value × Nat)) (c c' : Cell), c.slots = c'.slots → (c.storePairs at_ vs).slots = (c'.storePairs at_ vs).slots := by
  intro vs
  induction vs with
  | nil => intro c c' h; exact h
  | cons q r ih =>
    intro c c' h
    show ((c.setSlot (at_ + q.2) q.1).storePairs at_ r).slots = ((c'.setSlot (at_ + q.2) q.1).storePairs at_ r).slots
    refine ih _ _ ?_
    show c.slots.setIfInBounds _ _ = c'.slots.setIfInBounds _ _
    rw [h]
theorem ab_copied (cs cd : Cell) {n0 n1 sp dp n : Nat} (f g : Nat → Int32) (hcs : ∀ j, j < n0 → cs.slots[j]? = (arrV 0 n0 (fun j => .int (f j))).slots[j]?) (hcd : cd.slots = (arrV 0 n1 (fun j => .int (g j))).slots) (hs : sp + n ≤ n0) :
    (cd.storeRun dp (cs.stretch sp n)).slots = (arrV 0 n1 (fun j => .int (va_cpy f g sp dp n j))).slots := by
  have e1 : cs.stretch sp n = (arrV 0 n0 (fun j => .int (f j))).stretch sp n := by
    unfold Cell.stretch
    refine List.map_congr_left fun i hi => ?_
    have hi' := List.mem_range.mp hi
    rw [Array.getD_eq_getD_getElem?, Array.getD_eq_getD_getElem?, hcs _ (by omega)]
  rw [← va_copied (fun z => .int z) 0 0 f g hs, e1]
  exact ab_pairs dp _ _ _ hcd
theorem ab_copy {idx a0 a n0 n1 : Nat} {f g : Nat → Int32} {sp dp n : Int32} (hl : Cond.methodLink M.1 idx arraycopyName ∈ lw_tbl) (hna : Cond.native arraycopyName ∈ lw_tbl) (hsta : Cond.static arraycopyName ∈ lw_tbl) (hini : Cond.initialized "java/lang/System" ∈ lw_tbl) (hd : decode M.2.2.1 pc = .ok (.invokestatic idx, 3)) (hG0 : G[a0]? = some (.inl (0, n0, .inl f))) (hG : G[a]? = some (.inl (0, n1, .inl g))) (ha : ab_n0 ≤ a)
    (hh1 : ¬ sp < 0) (hh2 : ¬ dp < 0) (hh3 : ¬ n < 0) (hh4 : sp.toNatClampNeg + n.toNatClampNeg ≤ n0) (hh5 : dp.toNatClampNeg + n.toNatClampNeg ≤ n1) (hwt : (st.map fun v => v.category).sum ≤ 8) (hdd : 1 ≤ d)
    (kk : ab_W X M d (G.set a (.inl (0, n1, .inl (va_cpy f g sp.toNatClampNeg dp.toNatClampNeg n.toNatClampNeg)))) (pc + 3) L st Q) : ab_W X M d G pc L (.int n :: .int dp :: .ref a :: .int sp :: .ref a0 :: st) Q := by
  intro p e R s m args below meth c H ls locs cells slots c0 s0 Z hC hH hL hS h1 h2 hZ
  have hr := hC.2.2.2.1
  have nn : ∀ z : Int32, ¬ z < 0 → z.toInt = (z.toNatClampNeg : Int) := by
    intro z hz
    have hz0 : (0 : Int) ≤ z.toInt := by
      have := Int32.not_lt.mp hz
      simpa using Int32.le_iff_toInt_le.mp this
    show z.toInt = ((z.toInt.toNat : Nat) : Int)
    omega
  obtain ⟨cs, ft0, p1, p2, p3, p4, p5, -, -⟩ := hH.1 a0 _ hG0
  obtain ⟨cd, ft1, q1, q2, q3, q4, -, q5, -, q8⟩ := hH.1 a _ hG
  have e0 : ft0 = .int := (Option.some.inj p2).symm
  have e1 : ft1 = .int := (Option.some.inj q2).symm
  subst e0; subst e1
  have es : ∀ j, j < n0 → cs.slots[j]? = (arrV 0 n0 (fun j => .int (f j))).slots[j]? := p5.2.2
  have esz : n0 ≤ cs.slots.size := p5.1
  have ed : cd.slots = (arrV 0 n1 (fun j => .int (g j))).slots := q5 ha
  obtain ⟨hs1, k0, hk0, cm0, hkk0⟩ := p3
  obtain ⟨hd1, k1, hk1, cm1, hkk1⟩ := q3
  intro T hT Xs
  obtain ⟨vm', X', step⟩ := Xs.arraycopy hC.1.1 hC.1.2.2.2.1 (hC.2.1.1 _ hl rfl _) (hC.2.1.1 _ hna rfl _) (hC.2.1.1 _ hsta rfl _) (hC.2.1.1 _ hini rfl _) (src := X.2.2.2.1 a0) (dst := X.2.2.2.1 a) (cs := cs) (cd := cd) (srcPos := sp) (destPos := dp) (n := n) (by rw [hT]; exact p1) (by rw [hT]; exact q1)
    hs1 hd1 p4 q4 hk0 hk1 hkk0 hkk1 (by decide) hh1 hh2 hh3
    (by rw [nn sp hh1, nn n hh3]; omega)
    (by rw [nn dp hh2, nn n hh3, ed, arrV_size]; omega)
    (fun vm₁ _ i hi => by
      have e : cs.slots.getD (sp.toNatClampNeg + i) .null = .int (f (sp.toNatClampNeg + i)) := by
        rw [Array.getD_eq_getD_getElem?, es _ (by omega), arrV_read _ _ (by omega)]
        rfl
      refine ⟨?_, ?_⟩
      · rw [e]; rfl
      · rw [e]; exact trivial)
    (g := F0 m pc ls (.int n :: .int dp :: .ref (X.2.2.2.1 a) :: .int sp :: .ref (X.2.2.2.1 a0) :: st.map (ab_v X.2.2.2.1))) rfl (hL.1.trans hC.1.2.2.1.symm) (rest := st.map (ab_v X.2.2.2.1)) rfl (by rw [hC.1.2.1]; exact hd) (by omega) (by
      have hw8 := lv_room (m := m) (pc := pc) (ls := ls) (rest := (.int n :: .int dp :: .ref (X.2.2.2.1 a) :: .int sp :: .ref (X.2.2.2.1 a0) :: st.map (ab_v X.2.2.2.1))) (st := st.map (ab_v X.2.2.2.1)) (by rw [ab_cats]; exact hwt)
      have hn7 : nativeFrameWords "java/lang/System" "arraycopy" 5 + 11 = 18 := by decide +kernel
      rw [hn7]; omega)
  have hlt : X.2.2.2.1 a < H.size := (Array.getElem?_eq_some_iff.mp q1).1
  have hheap : ((T.setVm vm').setCell (X.2.2.2.1 a) (copied cs cd sp dp n)).heap = H.setIfInBounds (X.2.2.2.1 a) (copied cs cd sp dp n) := by rw [← hT]; rfl
  have oq : ∀ q : Nat, q ≠ X.2.2.2.1 a → (H.setIfInBounds (X.2.2.2.1 a) (copied cs cd sp dp n))[q]? = H[q]? := fun q hq => by simp [Array.getElem?_setIfInBounds, Ne.symm hq]
  have hfacts := Cell.storePairs_facts cd dp.toNatClampNeg (cs.stretch sp.toNatClampNeg n.toNatClampNeg).zipIdx
  have hat : ab_at X s a (.inl (0, n1, .inl (va_cpy f g sp.toNatClampNeg dp.toNatClampNeg n.toNatClampNeg))) (H.setIfInBounds (X.2.2.2.1 a) (copied cs cd sp dp n)) := by
    refine ⟨copied cs cd sp dp n, .int, by simp [Array.getElem?_setIfInBounds, hlt], rfl, ⟨fun k h => hd1 k (hfacts.2.1.symm.trans h), k1, by rw [show (copied cs cd sp dp n).cls = cd.cls from hfacts.1]; exact hk1, cm1, hkk1⟩, fun h => q4 (hfacts.2.1.symm.trans h), ab_arr.of (ab_copied cs cd f g es ed hh4) (ab_vsz n1 _), fun _ => ab_copied cs cd f g es ed hh4, (fun h => by cases h), fun _ _ => ⟨hfacts.2.1.trans (q8 rfl ha).1, by rw [show (copied cs cd sp dp n).cls = cd.cls from hfacts.1]; exact (q8 rfl ha).2⟩⟩
  have hS1 : va_S (fun q => X.2.2.2.2 ≤ q) s.heap (H.setIfInBounds (X.2.2.2.1 a) (copied cs cd sp dp n)) (locs ++ (cs.stretch sp.toNatClampNeg n.toNatClampNeg).zipIdx.map fun q => (⟨X.2.2.2.1 a, dp.toNatClampNeg + q.2⟩ : Loc)) := by
    refine ⟨by simp; exact hS.1, fun q g1 g2 => ?_, fun q hq => ?_⟩
    · rw [oq q (fun e => g2 (by rw [e]; exact hC.2.2.1.base ha (ab_lt hH hG)))]
      exact hS.2.1 q g1 g2
    · rcases List.mem_append.mp hq with h | h
      · exact hS.2.2 q h
      · obtain ⟨z, -, hz⟩ := List.mem_map.mp h
        rw [← hz]
        exact hC.2.2.1.base ha (ab_lt hH hG)
  obtain ⟨t, a1, b1⟩ := kk p e R s m args below meth c _ ls _ cells slots c0 s0 Z hC (hH.set hC.2.2.1 ha hG hat (by simp) oq rfl) hL hS1 (by rw [List.length_set]; exact h1) (h2.trans (ab_slots_set hG (by rfl)).symm) hZ _ hheap X'
  exact ⟨t, step t a1, b1⟩
/-- an array of ints that is cloned -/
theorem ab_clone {idx a n : Nat} {f : Nat → Int32} (hl : Cond.methodLink M.1 idx ⟨"[I", "clone", "()Ljava/lang/Object;"⟩ ∈ lw_tbl) (hsm : Cond.sameMethod "[I" "java/lang/Object" "clone" "()Ljava/lang/Object;" ∈ lw_tbl) (hna : Cond.native ⟨"java/lang/Object", "clone", "()Ljava/lang/Object;"⟩ ∈ lw_tbl) (hin : Cond.instanceMethod ⟨"java/lang/Object", "clone", "()Ljava/lang/Object;"⟩ ∈ lw_tbl) (hse : Cond.selects "[I" ⟨"[I", "clone", "()Ljava/lang/Object;"⟩ ⟨"java/lang/Object", "clone", "()Ljava/lang/Object;"⟩ ∈ lw_tbl) (hca : Cond.castable "[I" "java/lang/Cloneable" ∈ lw_tbl)
    (hd : decode M.2.2.1 pc = .ok (.invokevirtual idx, 3)) (hG : G[a]? = some (.inl (0, n, .inl f))) (ha : ab_n0 ≤ a) (hcl : G.length + 1 ≤ ab_n0 + room_1.cells) (hsl : ab_slots G + n ≤ room_1.slots) (hwt : (st.map fun v => v.category).sum ≤ 8) (hdd : 1 ≤ d)
    (kk : ab_W X M d (G ++ [.inl (0, n, .inl f)]) (pc + 3) L (.ref G.length :: st) Q) : ab_W X M d G pc L (.ref a :: st) Q := by
  intro p e R s m args below meth c H ls locs cells slots c0 s0 Z hC hH hL hS h1 h2 hZ
  have hr := hC.2.2.2.1
  obtain ⟨cell, ft, q1, q2, q3, q4, -, q5, -, q8⟩ := hH.1 a _ hG
  have e0 : ft = .int := (Option.some.inj q2).symm
  subst e0
  have e1 : cell.slots = (arrV 0 n (fun j => .int (f j))).slots := q5 ha
  have esz : cell.slots.size = n := by rw [e1, arrV_size]
  obtain ⟨v1, v2⟩ := q8 rfl ha
  obtain ⟨cC, tC, f1, f2, f3⟩ := Cond.castable_spec (hC.2.1.1 _ hca rfl args)
  cases v2.symm.trans f1
  intro T hT Xs
  obtain ⟨-, kA, hkA, comp, hkind⟩ := State.isArrayOf_alike Xs.warmed.alike q3
  obtain ⟨-, kS, hkS, compS, hkindS⟩ := q3
  obtain ⟨vm', X', step⟩ := Xs.cloneArray hC.1.1 hC.1.2.2.2.1 (hC.2.1.1 _ hl rfl _) (hC.2.1.1 _ hsm rfl _) (hC.2.1.1 _ hna rfl _) (hC.2.1.1 _ hin rfl _) (hC.2.1.1 _ hse rfl _) (a := X.2.2.2.1 a) (cell := cell) (by rw [hT]; exact q1) (fun k h => by rw [v1] at h; cases h) (by rw [v1]; exact fun h => by cases h) v2 f2 f3
    (fun i v hv => by
      have hk' : T.vm.classes[cell.cls]? = some kA := hkA
      have hfit : fits .int v = true := by
        rw [e1] at hv
        by_cases hi : i < n
        · rw [arrV_read _ _ hi] at hv
          cases hv
          rfl
        · rw [Array.getElem?_eq_none (by rw [arrV_size]; omega)] at hv
          cases hv
      simpa [State.fitsSlot, State.slotType?, hk', hkind] using hfit)
    (g := F0 m pc ls (.ref (X.2.2.2.1 a) :: st.map (ab_v X.2.2.2.1))) rfl (hL.1.trans hC.1.2.2.1.symm) (rest := st.map (ab_v X.2.2.2.1)) rfl (by rw [hC.1.2.1]; exact hd) (by omega) (by
      have hw8 : ((st.map (ab_v X.2.2.2.1)).map fun v => v.category).sum ≤ 8 := by rw [ab_cats]; exact hwt
      show 2 * 0 + _ + 14 ≤ _
      omega) (by have := hC.2.2.2.2.1.1; omega) (by rw [esz]; have := hC.2.2.2.2.1.2; omega) (hloader := Vm.clonesLoader_of_array hkS hkindS)
  generalize hH1 : H.push ({ cls := cell.cls, slots := cell.slots } : Cell) = H1
  have z1 : H1.size = H.size + 1 := by rw [← hH1, Array.size_push]
  have e2 : H1[H.size]? = some ({ cls := cell.cls, slots := cell.slots } : Cell) := by rw [← hH1, Array.getElem?_push_size]
  have o1 : ∀ q : Nat, q < H.size → H1[q]? = H[q]? := fun q hq => by rw [← hH1, Array.getElem?_push, if_neg (Nat.ne_of_lt hq)]
  have hheap : ((T.setVm vm').pushCell ({ cls := cell.cls, slots := cell.slots } : Cell)).heap = H1 := by rw [← hH1, ← hT]; rfl
  rw [hH.2.1] at e2
  rw [esz] at X'
  obtain ⟨t, a1, b1⟩ := kk p e R s m args below meth c H1 ls locs (cells + 1) (slots + n) c0 s0 Z hC (hH.app hC.2.2.1 ⟨_, .int, e2, rfl, ⟨(fun k h => by cases h), kS, hkS, compS, hkindS⟩, (fun h => by cases h), ab_arr.of e1 (ab_vsz _ _), (fun _ => e1), (fun h => by cases h), fun _ _ => ⟨rfl, v2⟩⟩ z1 o1 hcl hsl) hL (ab_made hS z1 o1) (by rw [List.length_append, List.length_singleton]; omega) (by rw [ab_slots_app _ hH.2.2.1]; show _ = _ + n; omega) hZ _ hheap X'
  refine ⟨t, step t ?_, b1⟩
  rw [hT, hH.2.1]
  exact a1
/-- checkcast of an array of ints -/
theorem ab_castI {idx a n : Nat} {f : Nat → Int32} (hl : Cond.classLink M.1 idx "[I" ∈ lw_tbl) (hd : decode M.2.2.1 pc = .ok (.checkcast idx, 3)) (hG : G[a]? = some (.inl (0, n, .inl f))) (ha : ab_n0 ≤ a) (kk : ab_W X M d G (pc + 3) L (.ref a :: st) Q) : ab_W X M d G pc L (.ref a :: st) Q := by
  intro p e R s m args below meth c H ls locs cells slots c0 s0 Z hC hH hL hS h1 h2 hZ
  obtain ⟨cell, ft, q1, q2, q3, q4, -, q5, -, q8⟩ := hH.1 a _ hG
  obtain ⟨v1, v2⟩ := q8 rfl ha
  intro T hT Xs
  obtain ⟨vm', X', step⟩ := Xs.checkcastYes hC.1.1 hC.1.2.2.2.1 (hC.2.1.1 _ hl rfl _) (by rw [hT]; exact q1) (by rw [v1]; rfl) v2 (va_asg _ _) (g := F0 m pc ls (.ref (X.2.2.2.1 a) :: st.map (ab_v X.2.2.2.1))) rfl rfl (by rw [hC.1.2.1]; exact hd)
  obtain ⟨t, a1, b1⟩ := kk p e R s m args below meth c H ls locs cells slots c0 s0 Z hC hH hL hS h1 h2 hZ (T.setVm vm') hT X'
  exact ⟨t, step t a1, b1⟩
end AbMore
