section AbHeap
variable {X : ab_X} {M : ab_Y} {d : Nat} {G : ab_G} {pc : Nat} {L : List (Option Value)} {st : List Value} {Q : Outcome → ab_G → Prop}
theorem ab_getf {idx ci k : Nat} {ft : FieldType} {fin : Bool} {a : Nat} {fs : List Value} {v : Value} (hf : ab_fl M.1 idx ci k ft fin) (hd : decode M.2.2.1 pc = .ok (.getfield idx, 3)) (hG : G[a]? = some (.inr (ci, fs))) (hv : fs[k]? = some v) (kk : ab_W X M d G (pc + 3) L (v :: st) Q) : ab_W X M d G pc L (.ref a :: st) Q := by
  intro p e R s m args below meth c H ls locs cells slots c0 s0 Z hC hH hL hS h1 h2 hZ
  obtain ⟨C, T, N, ty, ⟨hc, hi, hty, hnm⟩, hk, hC1, -, -, hl⟩ := hf
  have hP := ab_one (q := (X.2.2.2.1 a, .inr (ci, fs.map (ab_v X.2.2.2.1)))) (hH.1 a _ hG)
  have hv' : (fs.map (ab_v X.2.2.2.1))[k]? = some (ab_v X.2.2.2.1 v) := by rw [List.getElem?_map, hv]; rfl
  have hk1 := kk p e R s m args below meth c H ls locs cells slots c0 s0 Z hC hH hL hS h1 h2 hZ
  rcases hl with hl | ⟨host, hl⟩
  · exact va_get hC.1.1 hC.1.2.1 (ab_lays hC.2.1.1 hi) (fun _ h => h) hC.1.2.2.2.1 hC.2.1.2.1 hP 0 rfl hc k hk (hC.2.1.1 _ hl rfl _) (by rw [hC1]; exact fun _ h => h) hv' hd hk1
  · exact va_getN hC.1.1 hC.1.2.1 (ab_lays hC.2.1.1 hi) (fun _ h => h) hC.1.2.2.2.1 hC.2.1.2.1 hP 0 rfl hc k hk (hC.2.1.1 _ hl rfl _) (by rw [hC1]; exact fun _ h => h) hv' hd hk1
theorem ab_putf {idx ci k : Nat} {ft : FieldType} {fin : Bool} {a : Nat} {fs : List Value} {v : Value} (hf : ab_fl M.1 idx ci k ft fin) (hfi : fin = false ∨ (M.2.1 = "<init>" ∧ ∃ r, classes[ci]? = some r ∧ r.1 = M.1)) (hd : decode M.2.2.1 pc = .ok (.putfield idx, 3)) (hG : G[a]? = some (.inr (ci, fs))) (hkl : k < fs.length) (hft : ab_fit ft v) (ha : ab_n0 ≤ a)
    (kk : ab_W X M d (G.set a (.inr (ci, fs.set k v))) (pc + 3) L st Q) : ab_W X M d G pc L (v :: .ref a :: st) Q := by
  intro p e R s m args below meth c H ls locs cells slots c0 s0 Z hC hH hL hS h1 h2 hZ
  obtain ⟨C, T, N, ty, ⟨hc, hi, hty, hnm⟩, hk, hC1, hfin, hft2, hl⟩ := hf
  have hts := ab_lays (args := args) hC.2.1.1 hi
  have hK := hC.2.1.2.1
  have hap := va_apart (own := M.1) hts (fun _ h => h) ty hty hnm hK hc
  obtain ⟨r, hr1, cell, q1, q2, q3, q4⟩ := hH.1 a _ hG
  have hr : r = (C, T, N) := Option.some.inj (hr1.symm.trans hc)
  subst hr
  obtain ⟨hSl, hfc, kC, hkC, hkind⟩ := hK.1 ci _ hc
  obtain ⟨cf, kf, fi, f, hif, hsl⟩ := hSl k hk
  have hlay := hts _ (u_in_lay hk)
  have hst := (u_facts hfc hkC (u_lays hts (fun _ h => h) hk) hif).1
  have hd2 : parseFieldDescriptor (T k).2.2.1 = some ft := by rw [hty k hk, hft2]
  have hsame : s.fieldFound? C (T k).2.1 (T k).2.2.1 = some (cf, kf, fi, f) := by rw [← hC1]; exact hif
  have hbase : X.2.2.2.2 ≤ X.2.2.2.1 a := hC.2.2.1.base ha (ab_lt hH hG)
  have go : ∀ H' : Heap, H'[X.2.2.2.1 a]? = some (cell.setSlot f.slot (ab_v X.2.2.2.1 v)) → H'.size = H.size → (∀ q, q ≠ X.2.2.2.1 a → H'[q]? = H[q]?) → W p X.1 e R s m args below meth c H' (locs ++ [⟨X.2.2.2.1 a, f.slot⟩]) cells slots Z (F0 m (pc + 3) ls (st.map (ab_v X.2.2.2.1))) := by
    intro H' e1 e2 e3
    rw [hsl] at e1
    refine kk p e R s m args below meth c H' ls _ cells slots c0 s0 Z hC (hH.set hC.2.2.1 ha hG ?_ e2 e3 rfl) hL (hS.put e2 e3 hbase) (by rw [List.length_set]; exact h1) (h2.trans (ab_slots_set hG (by rfl)).symm) hZ
    refine ⟨_, hc, t_OB.to (V := updV (vp_V (fs.map (ab_v X.2.2.2.1))) k (ab_v X.2.2.2.1 v)) ⟨_, e1, q2, q3, t_set q4 hap hk _⟩ (fun j _ => ?_)⟩
    rw [vp_updV_set (by rw [List.length_map]; exact hkl), ← List.map_set]
  have hlt : f.slot < cell.slots.size := by rw [hsl]; exact k2_hasslot (q4 k hk)
  cases fin with
  | false =>
    unfold u_lay at hlay
    rw [if_neg (by rw [hfin]; decide)] at hlay
    have h6 := u_store hfc hkC hkind hlay hif hd2 (hft X.2.2.2.1).1 (hft X.2.2.2.1).2
    rcases hl with hl | ⟨host, hl⟩
    · exact W.putK hC.1.1 hC.1.2.1 (f := f) ⟨hC.1.2.2.2.1, hC.2.1.1 _ hl rfl _, ⟨_, _, _, hsame⟩, hst⟩ (by rw [q2]; exact h6) q1 q3 hlt rfl rfl hd go
    · exact va_WputK hC.1.1 hC.1.2.1 (f := f) hC.1.2.2.2.1 (hC.2.1.1 _ hl rfl _) hsame hst (by rw [q2]; exact h6) q1 q3 hlt rfl rfl hd go
  | true =>
    rcases hfi with hfi | ⟨hini, r2, hr2, hr3⟩
    · cases hfi
    have hown : C = M.1 := by
      have := Option.some.inj (hr2.symm.trans hc)
      rw [← hr3, this]
    unfold u_lay at hlay
    rw [if_pos hfin] at hlay
    have hcf : m.cls = cf := by
      obtain ⟨_, _, c', _, _, _, -, -, hf', -, -, -, hown2, -⟩ := Cond.laysFinal_spec hlay
      have e1 : c' = cf := by have := hif.symm.trans hf'; simp at this; exact this.1.symm
      rw [hC1, hown] at hown2
      rw [← e1]; exact Option.some.inj (hC.1.2.2.2.1.symm.trans hown2)
    have h6 := u_fits hfc hkC hkind (Or.inr hlay) hif hd2 (hft X.2.2.2.1).1 (hft X.2.2.2.1).2
    rcases hl with hl | ⟨host, hl⟩
    · exact W.putFinK hC.1.1 hC.1.2.1 hC.1.2.2.2.1 (hC.2.1.1 _ hl rfl _) hsame hst hcf (hC.1.2.2.2.2.2.2.1.trans hini) (by rw [q2]; exact h6) q1 q3 hlt rfl rfl hd go
    · refine va_Wputf hC.1.1 hC.1.2.1 hC.1.2.2.2.1 (hC.2.1.1 _ hl rfl _) hsame hst (Or.inr ⟨hcf, hC.1.2.2.2.2.2.2.1.trans hini⟩) q1 (by rw [q3]; exact fun h => by cases h) hlt h6.1 (by rw [q2, q3]; exact h6.2) rfl rfl hd ?_
      have hlt2 : X.2.2.2.1 a < H.size := (Array.getElem?_eq_some_iff.mp q1).1
      exact go _ (by simp [Array.getElem?_setIfInBounds, hlt2]) (by simp) (fun q hq => by simp [Array.getElem?_setIfInBounds, Ne.symm hq])
theorem ab_iald {a n : Nat} {f : Nat → Int32} {i : Int32} (hd : decode M.2.2.1 pc = .ok (.iaload, 1)) (hG : G[a]? = some (.inl (0, n, .inl f))) (hin : vp_in i n) (kk : ab_W X M d G (pc + 1) L (.int (f i.toNatClampNeg) :: st) Q) : ab_W X M d G pc L (.int i :: .ref a :: st) Q := by
  intro p e R s m args below meth c H ls locs cells slots c0 s0 Z hC hH hL hS h1 h2 hZ
  obtain ⟨cell, ft, q1, q2, q3, q4, q5, -, -⟩ := hH.1 a _ hG
  have e0 : ft = .int := (Option.some.inj q2).symm
  subst e0
  have hlt : i.toNatClampNeg < n := Nat.not_le.mp fun q => hin (Or.inr q)
  exact W.iald (v := .int (f i.toNatClampNeg)) hC.1.1 hC.1.2.1 q1 q3 q4 (fun h => h.elim (fun h => hin (Or.inl h)) (fun h => absurd h (Nat.not_le.mpr (Nat.lt_of_lt_of_le hlt q5.1)))) (by rw [q5.2.2 _ hlt]; exact arrV_read 0 (fun j => .int (f j)) hlt) rfl rfl hd (kk p e R s m args below meth c H ls locs cells slots c0 s0 Z hC hH hL hS h1 h2 hZ)
theorem ab_zald {a n : Nat} {f : Nat → Int32} {i : Int32} (hd : decode M.2.2.1 pc = .ok (.baload, 1)) (hG : G[a]? = some (.inl (1, n, .inl f))) (hin : vp_in i n) (kk : ab_W X M d G (pc + 1) L (.int (f i.toNatClampNeg) :: st) Q) : ab_W X M d G pc L (.int i :: .ref a :: st) Q := by
  intro p e R s m args below meth c H ls locs cells slots c0 s0 Z hC hH hL hS h1 h2 hZ
  obtain ⟨cell, ft, q1, q2, q3, q4, q5, -, -⟩ := hH.1 a _ hG
  have e0 : ft = .boolean := (Option.some.inj q2).symm
  subst e0
  have hlt : i.toNatClampNeg < n := Nat.not_le.mp fun q => hin (Or.inr q)
  exact W.zald (v := .int (f i.toNatClampNeg)) hC.1.1 hC.1.2.1 q1 q3 q4 (fun h => h.elim (fun h => hin (Or.inl h)) (fun h => absurd h (Nat.not_le.mpr (Nat.lt_of_lt_of_le hlt q5.1)))) (by rw [q5.2.2 _ hlt]; exact arrV_read 0 (fun j => .int (f j)) hlt) rfl rfl hd (kk p e R s m args below meth c H ls locs cells slots c0 s0 Z hC hH hL hS h1 h2 hZ)
theorem ab_lald {a n : Nat} {f : Nat → Int64} {i : Int32} (hd : decode M.2.2.1 pc = .ok (.laload, 1)) (hG : G[a]? = some (.inl (2, n, .inr (.inl f)))) (hin : vp_in i n) (kk : ab_W X M d G (pc + 1) L (.long (f i.toNatClampNeg) :: st) Q) : ab_W X M d G pc L (.int i :: .ref a :: st) Q := by
  intro p e R s m args below meth c H ls locs cells slots c0 s0 Z hC hH hL hS h1 h2 hZ
  obtain ⟨cell, ft, q1, q2, q3, q4, q5, -, -⟩ := hH.1 a _ hG
  have e0 : ft = .long := (Option.some.inj q2).symm
  subst e0
  have hlt : i.toNatClampNeg < n := Nat.not_le.mp fun q => hin (Or.inr q)
  exact W.lald (v := .long (f i.toNatClampNeg)) hC.1.1 hC.1.2.1 q1 q3 q4 (fun h => h.elim (fun h => hin (Or.inl h)) (fun h => absurd h (Nat.not_le.mpr (Nat.lt_of_lt_of_le hlt q5.1)))) (by rw [q5.2.2 _ hlt]; exact arrV_read 0 (fun j => .long (f j)) hlt) rfl rfl hd (kk p e R s m args below meth c H ls locs cells slots c0 s0 Z hC hH hL hS h1 h2 hZ)
theorem ab_alen {a t : Nat} {x : vp_A} {v : Int32} (hd : decode M.2.2.1 pc = .ok (.arraylength, 1)) (hG : G[a]? = some (.inl (t, x))) (hv : Int32.ofNat x.1 = v) (kk : ab_W X M d G (pc + 1) L (.int v :: st) Q) : ab_W X M d G pc L (.ref a :: st) Q := by
  intro p e R s m args below meth c H ls locs cells slots c0 s0 Z hC hH hL hS h1 h2 hZ
  obtain ⟨cell, ft, q1, q2, q3, q4, q5, -, -⟩ := hH.1 a _ hG
  exact W.alen (n := v) hC.1.1 hC.1.2.1 q1 q3 (by rw [q5.2.1]; exact hv) rfl rfl hd (kk p e R s m args below meth c H ls locs cells slots c0 s0 Z hC hH hL hS h1 h2 hZ)
theorem ab_iast {a n : Nat} {f : Nat → Int32} {i : Int32} {x : Int32} (hd : decode M.2.2.1 pc = .ok (.iastore, 1)) (hG : G[a]? = some (.inl (0, n, .inl f))) (hin : vp_in i n) (ha : ab_n0 ≤ a) (kk : ab_W X M d (G.set a (.inl (0, n, .inl (upd f i.toNatClampNeg x)))) (pc + 1) L st Q) : ab_W X M d G pc L (.int x :: .int i :: .ref a :: st) Q := by
  intro p e R s m args below meth c H ls locs cells slots c0 s0 Z hC hH hL hS h1 h2 hZ
  obtain ⟨cell, ft, q1, q2, q3, q4, -, q5, -, q8⟩ := hH.1 a _ hG
  have e0 : ft = .int := (Option.some.inj q2).symm
  subst e0
  have e1 : cell.slots = (arrV 0 n (fun j => .int (f j))).slots := q5 ha
  refine W.iast hC.1.1 hC.1.2.1 q1 q3 q4 (by rw [e1, arrV_size]; exact hin) rfl rfl hd fun H1 w1 z oq => ?_
  refine kk p e R s m args below meth c H1 ls _ cells slots c0 s0 Z hC (hH.set hC.2.2.1 ha hG ⟨_, .int, w1, rfl, ⟨q3.1, q3.2⟩, q4, ab_arr.of ?_ (ab_vsz _ _), fun _ => ?_, (fun h => by cases h), q8⟩ z oq rfl) hL (hS.put z oq (hC.2.2.1.base ha (ab_lt hH hG))) (by rw [List.length_set]; exact h1) (h2.trans (ab_slots_set hG (by rfl)).symm) hZ
  all_goals
      have e2 := congrArg Cell.slots (arrV_store 0 n i.toNatClampNeg (fun j => .int (f j)) (.int x))
      show cell.slots.setIfInBounds _ _ = (arrV 0 n _).slots
      rw [e1]
      refine e2.trans ?_
      congr 2
      funext q
      by_cases hq : q = i.toNatClampNeg
      · subst hq
        simp [updV, upd]
        try rfl
      · simp [updV, upd, hq]
theorem ab_zast {a n : Nat} {f : Nat → Int32} {i : Int32} {x : Int32} (hd : decode M.2.2.1 pc = .ok (.bastore, 1)) (hG : G[a]? = some (.inl (1, n, .inl f))) (hin : vp_in i n) (ha : ab_n0 ≤ a) (kk : ab_W X M d (G.set a (.inl (1, n, .inl (upd f i.toNatClampNeg (vp_nar .boolean x))))) (pc + 1) L st Q) : ab_W X M d G pc L (.int x :: .int i :: .ref a :: st) Q := by
  intro p e R s m args below meth c H ls locs cells slots c0 s0 Z hC hH hL hS h1 h2 hZ
  obtain ⟨cell, ft, q1, q2, q3, q4, -, q5, -⟩ := hH.1 a _ hG
  have e0 : ft = .boolean := (Option.some.inj q2).symm
  subst e0
  have e1 : cell.slots = (arrV 0 n (fun j => .int (f j))).slots := q5 ha
  refine W.zast hC.1.1 hC.1.2.1 q1 q3 q4 (by rw [e1, arrV_size]; exact hin) rfl rfl hd fun H1 w1 z oq => ?_
  refine kk p e R s m args below meth c H1 ls _ cells slots c0 s0 Z hC (hH.set hC.2.2.1 ha hG ⟨_, .boolean, w1, rfl, ⟨q3.1, q3.2⟩, q4, ab_arr.of ?_ (ab_vsz _ _), fun _ => ?_, (fun h => by cases h), (fun h => by cases h)⟩ z oq rfl) hL (hS.put z oq (hC.2.2.1.base ha (ab_lt hH hG))) (by rw [List.length_set]; exact h1) (h2.trans (ab_slots_set hG (by rfl)).symm) hZ
  all_goals
      have e2 := congrArg Cell.slots (arrV_store 0 n i.toNatClampNeg (fun j => .int (f j)) (narrow .boolean (.int x)))
      show cell.slots.setIfInBounds _ _ = (arrV 0 n _).slots
      rw [e1]
      refine e2.trans ?_
      congr 2
      funext q
      by_cases hq : q = i.toNatClampNeg
      · subst hq
        simp [updV, upd, vp_nar]
        try rfl
      · simp [updV, upd, hq]
theorem ab_last {a n : Nat} {f : Nat → Int64} {i : Int32} {x : Int64} (hd : decode M.2.2.1 pc = .ok (.lastore, 1)) (hG : G[a]? = some (.inl (2, n, .inr (.inl f)))) (hin : vp_in i n) (ha : ab_n0 ≤ a) (kk : ab_W X M d (G.set a (.inl (2, n, .inr (.inl (vp_updL f i.toNatClampNeg x))))) (pc + 1) L st Q) : ab_W X M d G pc L (.long x :: .int i :: .ref a :: st) Q := by
  intro p e R s m args below meth c H ls locs cells slots c0 s0 Z hC hH hL hS h1 h2 hZ
  obtain ⟨cell, ft, q1, q2, q3, q4, -, q5, -⟩ := hH.1 a _ hG
  have e0 : ft = .long := (Option.some.inj q2).symm
  subst e0
  have e1 : cell.slots = (arrV 0 n (fun j => .long (f j))).slots := q5 ha
  refine W.last hC.1.1 hC.1.2.1 q1 q3 q4 (by rw [e1, arrV_size]; exact hin) rfl rfl hd fun H1 w1 z oq => ?_
  refine kk p e R s m args below meth c H1 ls _ cells slots c0 s0 Z hC (hH.set hC.2.2.1 ha hG ⟨_, .long, w1, rfl, ⟨q3.1, q3.2⟩, q4, ab_arr.of ?_ (ab_vsz _ _), fun _ => ?_, (fun h => by cases h), (fun h => by cases h)⟩ z oq rfl) hL (hS.put z oq (hC.2.2.1.base ha (ab_lt hH hG))) (by rw [List.length_set]; exact h1) (h2.trans (ab_slots_set hG (by rfl)).symm) hZ
  all_goals
      have e2 := congrArg Cell.slots (arrV_store 0 n i.toNatClampNeg (fun j => .long (f j)) (.long x))
      show cell.slots.setIfInBounds _ _ = (arrV 0 n _).slots
      rw [e1]
      refine e2.trans ?_
      congr 2
      funext q
      by_cases hq : q = i.toNatClampNeg
      · subst hq
        simp [updV, vp_updL]
        try rfl
      · simp [updV, vp_updL, hq]
/-- making: the cells' count and the heap -/
theorem ab_made {H H1 : Heap} {s : State} {locs : List Loc} {b : Nat} (hS : va_S (fun q => b ≤ q) s.heap H locs) (z : H1.size = H.size + 1) (o1 : ∀ q, q < H.size → H1[q]? = H[q]?) : va_S (fun q => b ≤ q) s.heap H1 locs :=
  ⟨by rw [z]; exact Nat.le_succ_of_le hS.1, fun x hx1 hx2 => (o1 x (Nat.lt_of_lt_of_le hx1 hS.1)).trans (hS.2.1 x hx1 hx2), hS.2.2⟩
theorem ab_newarr {atype : ArrayType} {t : Nat} {ft : FieldType} {a0 : vp_A} {n : Int32} {N : Nat} (hty : newarray.typeOf atype = ft) (ht : ab_ft[t]? = some ft) (ht3 : t ≠ 3) (hno : ∀ C, ft ≠ .object C) (hw : Cond.arrayClass ft ∈ lw_tbl)
    (ha0 : a0.1 = N) (ha : ∀ cA : ClassId, vp_cell cA a0 = arrV cA N (fun _ => defaultValue ft)) (hac : ∀ f, ab_c f a0.2 = a0.2) (hd : decode M.2.2.1 pc = .ok (.newarray atype, 2)) (hn : ¬ n < 0) (hN : n.toNatClampNeg = N) (hcb : componentBytes ft ≤ 8) (hcl : G.length + 1 ≤ ab_n0 + room_1.cells) (hsl : ab_slots G + N ≤ room_1.slots)
    (kk : ab_W X M d (G ++ [.inl (t, a0)]) (pc + 2) L (.ref G.length :: st) Q) : ab_W X M d G pc L (.int n :: st) Q := by
  subst hty
  intro p e R s m args below meth c H ls locs cells slots c0 s0 Z hC hH hL hS h1 h2 hZ
  have hroom : room_1.slots ≤ 60000000 := by decide
  have hbytes : N * componentBytes (newarray.typeOf atype) ≤ 536870912 := Nat.le_trans (Nat.mul_le_mul (Nat.le_refl N) hcb) (by omega)
  refine va_newaK hC.1.1 hC.1.2.1 (hC.2.1.1 _ hw rfl _) rfl hd rfl hn hN hbytes (by have := hC.2.2.2.2.1.1; omega) (by have := hC.2.2.2.2.1.2; omega) hH.2.1 fun H1 cA e1 z1 o1 hAr hNm => ?_
  have hz : H1.size = H.size + 1 := by rw [z1, hH.2.1]
  have ho : ∀ q, q < H.size → H1[q]? = H[q]? := fun q hq => o1 q (by rw [← hH.2.1]; exact hq)
  refine kk p e R s m args below meth c H1 ls locs (cells + 1) (slots + N) c0 s0 Z hC (hH.app hC.2.2.1 ?_ hz ho hcl (by show _ + a0.1 ≤ _; rw [ha0]; exact hsl)) hL (ab_made hS hz ho) (by rw [List.length_append, List.length_singleton]; omega) (by rw [ab_slots_app _ hH.2.2.1]; show _ = _ + a0.1; omega) hZ
  have e9 : (arrV cA N fun _ => defaultValue (newarray.typeOf atype)).slots = (vp_cell 0 (a0.1, ab_c X.2.2.2.1 a0.2)).slots := by
    rw [hac]
    have e8 := congrArg Cell.slots (ha 0).symm
    exact e8
  refine ⟨_, _, e1, ht, hAr _ _, (fun h => by cases h), ab_arr.of e9 (ab_vsz _ _), fun _ => e9, (fun h => absurd h ht3), fun h0 _ => ⟨rfl, ?_⟩⟩
  have hint : newarray.typeOf atype = .int := by
    have h00 : t = 0 := h0
    subst h00
    exact (Option.some.inj ht).symm
  rw [hint] at hNm
  exact hNm
theorem ab_newI {n : Int32} {N : Nat} (hw : Cond.arrayClass .int ∈ lw_tbl) (hd : decode M.2.2.1 pc = .ok (.newarray .int, 2)) (hn : ¬ n < 0) (hN : n.toNatClampNeg = N) (hcl : G.length + 1 ≤ ab_n0 + room_1.cells) (hsl : ab_slots G + N ≤ room_1.slots) (kk : ab_W X M d (G ++ [.inl (0, N, .inl fun _ => 0)]) (pc + 2) L (.ref G.length :: st) Q) : ab_W X M d G pc L (.int n :: st) Q :=
  ab_newarr (atype := .int) (ft := .int) (a0 := (N, .inl fun _ => 0)) rfl rfl (by decide) (fun _ h => by cases h) hw rfl (fun _ => rfl) (fun _ => rfl) hd hn hN (by decide) hcl hsl kk
theorem ab_newZ {n : Int32} {N : Nat} (hw : Cond.arrayClass .boolean ∈ lw_tbl) (hd : decode M.2.2.1 pc = .ok (.newarray .boolean, 2)) (hn : ¬ n < 0) (hN : n.toNatClampNeg = N) (hcl : G.length + 1 ≤ ab_n0 + room_1.cells) (hsl : ab_slots G + N ≤ room_1.slots) (kk : ab_W X M d (G ++ [.inl (1, N, .inl fun _ => 0)]) (pc + 2) L (.ref G.length :: st) Q) : ab_W X M d G pc L (.int n :: st) Q :=
  ab_newarr (atype := .boolean) (ft := .boolean) (a0 := (N, .inl fun _ => 0)) rfl rfl (by decide) (fun _ h => by cases h) hw rfl (fun _ => rfl) (fun _ => rfl) hd hn hN (by decide) hcl hsl kk
theorem ab_newJ {n : Int32} {N : Nat} (hw : Cond.arrayClass .long ∈ lw_tbl) (hd : decode M.2.2.1 pc = .ok (.newarray .long, 2)) (hn : ¬ n < 0) (hN : n.toNatClampNeg = N) (hcl : G.length + 1 ≤ ab_n0 + room_1.cells) (hsl : ab_slots G + N ≤ room_1.slots) (kk : ab_W X M d (G ++ [.inl (2, N, .inr (.inl fun _ => 0))]) (pc + 2) L (.ref G.length :: st) Q) : ab_W X M d G pc L (.int n :: st) Q :=
  ab_newarr (atype := .long) (ft := .long) (a0 := (N, .inr (.inl fun _ => 0))) rfl rfl (by decide) (fun _ h => by cases h) hw rfl (fun _ => rfl) (fun _ => rfl) hd hn hN (by decide) hcl hsl kk
theorem ab_new {idx ci : Nat} {C : String} {T : u_T} {N : Nat} {ty : Nat → FieldType} {fs : List Value} (hcs : ab_cls ci C T N ty) (hsz : ab_csz.getD ci 0 = N) (hl : Cond.classLink M.1 idx C ∈ lw_tbl) (hins : Cond.instantiable C N ∈ lw_tbl) (hini : Cond.initialized C ∈ lw_tbl) (hd : decode M.2.2.1 pc = .ok (.new idx, 3)) (hfs : ∀ j, j < N → defaultValue (ty j) = vp_V fs j) (hfr : ∀ f, fs.map (ab_v f) = fs)
    (hcl : G.length + 1 ≤ ab_n0 + room_1.cells) (hsl : ab_slots G + N ≤ room_1.slots) (kk : ab_W X M d (G ++ [.inr (ci, fs)]) (pc + 3) L (.ref G.length :: st) Q) : ab_W X M d G pc L st Q := by
  intro p e R s m args below meth c H ls locs cells slots c0 s0 Z hC hH hL hS h1 h2 hZ
  obtain ⟨hc, hi, hty, hnm⟩ := hcs
  have hKn := hC.2.1.2.1.1 ci _ hc
  have hts := ab_lays (args := args) hC.2.1.1 hi
  refine W.newcK hC.1.1 hC.1.2.1 hC.1.2.2.2.1 (hC.2.1.1 _ hl rfl _) (hC.2.1.1 _ hins rfl _) (hC.2.1.1 _ hini rfl _) rfl hd (by have := hC.2.2.2.2.1.1; omega) (by have := hC.2.2.2.2.1.2; omega) hKn.2.1 hH.2.1 fun H1 kC hkC e1 z1 o1 => ?_
  have hz : H1.size = H.size + 1 := by rw [z1, hH.2.1]
  have ho : ∀ q, q < H.size → H1[q]? = H[q]? := fun q hq => o1 q (by rw [← hH.2.1]; exact hq)
  refine kk p e R s m args below meth c H1 ls locs (cells + 1) (slots + N) c0 s0 Z hC (hH.app hC.2.2.1 ?_ hz ho hcl (by show _ + ab_csz.getD ci 0 ≤ _; rw [hsz]; exact hsl)) hL (ab_made hS hz ho) (by rw [List.length_append, List.length_singleton]; omega) (by rw [ab_slots_app _ hH.2.2.1]; show _ = _ + ab_csz.getD ci 0; omega) hZ
  show va_at X.2.1 classes (X.2.2.2.1 G.length, .inr (ci, fs.map (ab_v X.2.2.2.1))) H1
  rw [hfr]
  exact ⟨_, hc, (u_born ty hts (fun _ h => h) hKn hkC e1 hty).to hfs⟩
theorem ab_objInit {idx a : Nat} (hl : Cond.methodLink M.1 idx Lib.objectInit ∈ lw_tbl) (hin : Cond.instanceMethod Lib.objectInit ∈ lw_tbl) (hco : Cond.code Lib.objectInit ⟨#[0xb1]⟩ 1 none ∈ lw_tbl) (hd : decode M.2.2.1 pc = .ok (.invokespecial idx, 3)) (hwt : (st.map fun v => v.category).sum ≤ 8) (hdd : 1 ≤ d) (kk : ab_W X M d G (pc + 3) L st Q) : ab_W X M d G pc L (.ref a :: st) Q := by
  intro p e R s m args below meth c H ls locs cells slots c0 s0 Z hC hH hL hS h1 h2 hZ
  have hr := hC.2.2.2.1
  have hwt2 : ((st.map (ab_v X.2.2.2.1)).map fun v => v.category).sum ≤ 8 := by rw [ab_cats]; exact hwt
  have hroom := lv_room (m := m) (pc := pc) (ls := ls) (rest := []) hwt2
  exact W.objInit hC.1.1 hC.1.2.1 hC.1.2.2.2.1 (hC.2.1.1 _ hl rfl _) (hC.2.1.1 _ hin rfl _) (hC.2.1.1 _ hco rfl _) rfl (hL.1.trans hC.1.2.2.1.symm) rfl hd (by omega) (by
    have e1 : (F0 m pc ls (Value.ref (X.2.2.2.1 a) :: st.map (ab_v X.2.2.2.1))).monitorRoom = (F0 m pc ls []).monitorRoom := rfl
    have e2 : 2 * (F0 m pc ls (Value.ref (X.2.2.2.1 a) :: st.map (ab_v X.2.2.2.1))).monitorRoom + ((st.map (ab_v X.2.2.2.1)).map fun v => v.category).sum ≤ 8 := by rw [e1]; exact hroom
    refine Nat.le_trans (Nat.add_le_add_right e2 12) (by omega)) (kk p e R s m args below meth c H ls locs cells slots c0 s0 Z hC hH hL hS h1 h2 hZ)
theorem ab_iret {v : Int32} {rt : FieldType} (hr : M.2.2.2.2.1 = some rt) (hn : narrow rt (.int v) = .int v) (hd : decode M.2.2.1 pc = .ok (.ireturn, 1)) (hq : Q (.returned (some (.int v))) G) : ab_W X M d G pc L [.int v] Q := by
  intro p e R s m args below meth c H ls locs cells slots c0 s0 Z hC hH hL hS h1 h2 hZ
  intro T hT Xs
  have hr2 : meth.sig.returnType = some rt := hC.1.2.2.2.2.1.trans hr
  have hexec := hC.1.1
  have hb := hC.1.2.1
  obtain ⟨fs, hret, hrun, hended, hW, hframe⟩ := Xs.leave (v := some (.int v)) (hlocks := hC.1.2.2.2.2.2.1) (fun h => by rw [hr2] at h; cases h)
  have hmeth' : T.vm.method? m = some meth := Xs.method'
  refine ⟨T.setFrames fs, ?_, hZ (T.setFrames fs) (.returned (some (.int v))) G locs cells slots hq hrun hended hW hframe (by show ab_H X s G T.heap; rw [hT]; exact hH) (by show va_S _ _ T.heap _; rw [hT]; exact hS) h1 h2⟩
  show Steps p.tables e below (T.setTop (F0 m pc ls [.int v])) _
  jvm_step Xs.here [Xs.here.top, hexec, hb, hd, hmeth', hr2, hn]
  (try refine ⟨rfl, ?_⟩); (try refine ⟨rfl, ?_⟩)
  first | (intro acts; rw [hret _ acts rfl rfl rfl]) | rw [hret _ _ rfl rfl rfl]
  exact Steps.refl _
theorem ab_lret {v : Int64} (hr : M.2.2.2.2.1 = some .long) (hd : decode M.2.2.1 pc = .ok (.lreturn, 1)) (hq : Q (.returned (some (.long v))) G) : ab_W X M d G pc L [.long v] Q := by
  intro p e R s m args below meth c H ls locs cells slots c0 s0 Z hC hH hL hS h1 h2 hZ
  intro T hT Xs
  have hr2 : meth.sig.returnType = some .long := hC.1.2.2.2.2.1.trans hr
  have hexec := hC.1.1
  have hb := hC.1.2.1
  obtain ⟨fs, hret, hrun, hended, hW, hframe⟩ := Xs.leave (v := some (.long v)) (hlocks := hC.1.2.2.2.2.2.1) (fun h => by rw [hr2] at h; cases h)
  have hmeth' : T.vm.method? m = some meth := Xs.method'
  refine ⟨T.setFrames fs, ?_, hZ (T.setFrames fs) (.returned (some (.long v))) G locs cells slots hq hrun hended hW hframe (by show ab_H X s G T.heap; rw [hT]; exact hH) (by show va_S _ _ T.heap _; rw [hT]; exact hS) h1 h2⟩
  show Steps p.tables e below (T.setTop (F0 m pc ls [.long v])) _
  jvm_step Xs.here [Xs.here.top, hexec, hb, hd, hmeth', hr2, narrow]
  (try refine ⟨rfl, ?_⟩); (try refine ⟨rfl, ?_⟩)
  first | (intro acts; rw [hret _ acts rfl rfl rfl]) | rw [hret _ _ rfl rfl rfl]
  exact Steps.refl _
theorem ab_vret (hr : M.2.2.2.2.1 = none) (hd : decode M.2.2.1 pc = .ok (.return_, 1)) (hq : Q (.returned none) G) : ab_W X M d G pc L [] Q := by
  intro p e R s m args below meth c H ls locs cells slots c0 s0 Z hC hH hL hS h1 h2 hZ
  intro T hT Xs
  have hr2 : meth.sig.returnType = none := hC.1.2.2.2.2.1.trans hr
  have hexec := hC.1.1
  have hb := hC.1.2.1
  obtain ⟨fs, hret, hrun, hended, hW, hframe⟩ := Xs.leave (v := none) (hlocks := hC.1.2.2.2.2.2.1) (fun _ => rfl)
  have hmeth' : T.vm.method? m = some meth := Xs.method'
  refine ⟨T.setFrames fs, ?_, hZ (T.setFrames fs) (.returned none) G locs cells slots hq hrun hended hW hframe (by show ab_H X s G T.heap; rw [hT]; exact hH) (by show va_S _ _ T.heap _; rw [hT]; exact hS) h1 h2⟩
  show Steps p.tables e below (T.setTop (F0 m pc ls [])) _
  jvm_step Xs.here [Xs.here.top, hexec, hb, hd, hmeth', hr2]
  (try refine ⟨rfl, ?_⟩); (try refine ⟨rfl, ?_⟩)
  first | (intro acts; rw [hret _ acts rfl rfl rfl]) | rw [hret _ _ rfl rfl rfl]
  exact Steps.refl _
theorem ab_aret {v : Value} {rt : FieldType} (hr : M.2.2.2.2.1 = some rt) (hrt : (∃ n, rt = .object n) ∨ ∃ t, rt = .array t) (hv : v = .null ∨ ∃ a, v = .ref a) (hd : decode M.2.2.1 pc = .ok (.areturn, 1)) (hq : Q (.returned (some v)) G) : ab_W X M d G pc L [v] Q := by
  intro p e R s m args below meth c H ls locs cells slots c0 s0 Z hC hH hL hS h1 h2 hZ
  intro T hT Xs
  have hr2 : meth.sig.returnType = some rt := hC.1.2.2.2.2.1.trans hr
  have hexec := hC.1.1
  have hb := hC.1.2.1
  obtain ⟨fs, hret, hrun, hended, hW, hframe⟩ := Xs.leave (v := some (ab_v X.2.2.2.1 v)) (hlocks := hC.1.2.2.2.2.2.1) (fun h => by rw [hr2] at h; cases h)
  have hmeth' : T.vm.method? m = some meth := Xs.method'
  refine ⟨T.setFrames fs, ?_, hZ (T.setFrames fs) (.returned (some v)) G locs cells slots hq hrun hended hW hframe (by show ab_H X s G T.heap; rw [hT]; exact hH) (by show va_S _ _ T.heap _; rw [hT]; exact hS) h1 h2⟩
  show Steps p.tables e below (T.setTop (F0 m pc ls [ab_v X.2.2.2.1 v])) _
  have hv2 : ab_v X.2.2.2.1 v = .null ∨ ∃ a, ab_v X.2.2.2.1 v = .ref a := by
    rcases hv with rfl | ⟨a, rfl⟩
    · exact Or.inl rfl
    · exact Or.inr ⟨_, rfl⟩
  generalize ab_v X.2.2.2.1 v = w at *
  rcases hrt with ⟨n, rfl⟩ | ⟨t, rfl⟩ <;> rcases hv2 with rfl | ⟨a, rfl⟩ <;>
    (jvm_step Xs.here [Xs.here.top, hexec, hb, hd, hmeth', hr2]
     (try refine ⟨rfl, ?_⟩); (try refine ⟨rfl, ?_⟩)
     first | (intro acts; rw [hret _ acts rfl rfl rfl]) | rw [hret _ _ rfl rfl rfl]
     exact Steps.refl _)
end AbHeap
