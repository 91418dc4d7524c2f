/-! the reference's find: what it finds -/
section Rf4
variable {T N W CA CM CL CH f NO CO : Int → Int} {len n c e sl fr al to p fm last far fy hw fo st wi : Int} {v : Sn} {S : Option (Int × Gr)} {L : List (Int × Gr)} {g : Gr} {SP : Int → Int}
theorem ag7_rf {lo hi : Int} : ag7 T N W CA CM CL CH T N W CA CM CL CH sl lo hi c := ⟨fun _ _ _ => ⟨rfl, rfl, rfl, rfl, rfl⟩, fun _ _ _ => ⟨rfl, rfl⟩⟩
/-- what the program in a slot does -/
theorem prR.ww (h : prR T N W CA CM CL CH sl n c e v) (hb : bytes f len) (p0 : 0 ≤ p) (p1 : p ≤ len) : WR T N W CA CM CL CH (12500 * sl) f len e p g (v.1.1 f len p g) := by
  obtain ⟨⟨h0, h1, _⟩, hx⟩ := h
  have r := hx T N W CA CM CL CH ag7_rf h1
  exact Rl_top v.2 (tgR_0 (by rw [Int.add_zero]; exact h0)) r hb p0 p1
def prZ (T N W CA CM CL CH : Int → Int) (sl n e : Int) (v : Sn) : Prop := ∃ c : Int, (c ≤ 600 ∧ n ≤ 12500) ∧ prR T N W CA CM CL CH sl n c e v
theorem prZ.ww (h : prZ T N W CA CM CL CH sl n e v) (hb : bytes f len) (p0 : 0 ≤ p) (p1 : p ≤ len) : WR T N W CA CM CL CH (12500 * sl) f len e p g (v.1.1 f len p g) := by
  obtain ⟨c, _, h⟩ := h
  exact h.ww hb p0 p1
theorem prZ.wy (h : prZ T N W CA CM CL CH sl n e v) (hb : bytes f len) (p0 : 0 ≤ p) (p1 : p ≤ len) : WR T N W CA CM CL CH (12500 * sl) f len e p (fun _ => -1) (wyR v f len p) := by
  rw [wyR_p p0 p1]
  exact h.ww hb p0 p1
theorem accB_1 {hw n e : Int} (h : ¬ hw = 2) : accB hw n e = true := accB_t.mpr (fun q => h q.1)
theorem fA_hw {hw2 n2 : Int} (h : ¬ hw = 2) (h2 : ¬ hw2 = 2) : fA hw n L = fA hw2 n2 L := by
  unfold fA
  congr 1
  funext x
  rw [accB_1 h, accB_1 h2]
/-- the first of the longest, where the farthest end is known -/
theorem upw_le {hw n last : Int} {s : Option (Int × Gr)} {x : Int × Gr} (hs : ∀ y, s = some y → y.1 ≤ last) (hx : x.1 ≤ last) : ∀ y, upw hw n s x = some y → y.1 ≤ last := fun y hy => by
  unfold upw at hy
  split at hy
  · cases s with
    | none =>
      have e : some x = some y := hy
      cases e
      exact hx
    | some z =>
      have e : (if z.1 < x.1 then some x else some z) = some y := hy
      split at e
      · cases e; exact hx
      · cases e; exact hs _ rfl
  · exact hs y hy
theorem bst_last {n last : Int} (h : ¬ hw = 2) : ∀ (L : List (Int × Gr)) (s : Option (Int × Gr)), (∀ x ∈ L, x.1 ≤ last) → (∀ y, s = some y → y.1 < last) → (∃ x ∈ L, x.1 = last) → bst hw n s L = fA 2 last L := by
  intro L
  induction L with
  | nil => intro s _ _ hx; obtain ⟨x, hx, _⟩ := hx; exact absurd hx List.not_mem_nil
  | cons x t ih =>
    intro s hL hs hx
    show bst hw n (upw hw n s x) t = fA 2 last (x :: t)
    have hxl := hL x (List.mem_cons.mpr (Or.inl rfl))
    have hA : acc hw n x.1 := fun q => h q.1
    by_cases c : x.1 = last
    · have e1 : upw hw n s x = some x := upw_hit hA (fun y hy => by rw [c]; exact hs y hy)
      have e2 : fA 2 last (x :: t) = some x := List.find?_cons_of_pos (show accB 2 last x.1 = true from accB_t.mpr (fun q => by have := q.2; omega))
      rw [e1, e2]
      exact bst_skip (fun y hy _ => ⟨x, rfl, by rw [c]; exact hL y (List.mem_cons_of_mem _ hy)⟩)
    · have e2 : fA 2 last (x :: t) = fA 2 last t := List.find?_cons_of_neg (show ¬ accB 2 last x.1 = true from fun q => accB_t.mp q ⟨rfl, by omega⟩)
      rw [e2]
      refine ih _ (fun y hy => hL y (List.mem_cons_of_mem _ hy)) (fun y hy => ?_) ?_
      · have a := upw_le (last := last - 1) (fun z hz => by have := hs z hz; omega) (by omega) y hy
        omega
      · obtain ⟨z, z1, z2⟩ := hx
        rcases List.mem_cons.mp z1 with q | q
        · rw [q] at z2; exact absurd z2 c
        · exact ⟨z, q, z2⟩
theorem mtR_last {n last : Int} (h : ¬ hw = 2) (hf : ¬ fy = 1) (hL : ∀ x ∈ L, x.1 ≤ last) (hx : ∃ x ∈ L, x.1 = last) : mtR fy hw n L = fA 2 last L := by
  unfold mtR
  rw [if_neg hf]
  exact bst_last h L none hL (fun y q => by cases q) hx
theorem mtR_f {n n2 : Int} (h : ¬ hw = 2) (hf : fy = 1) : mtR fy hw n L = fA 0 n2 L := by
  unfold mtR
  rw [if_pos hf]
  exact fA_hw h (by decide)
/-- whoever stays below the rows' last end: forwards -/
theorem ends_le {b lst : Int} (hb : bytes f len) (hs : sgood T N W CA CM b n) (hf : ∀ q : Int, fm ≤ q → q ≤ far → fcl T N W CA CM CL CH f CO len b n far lst q) (h0 : 0 ≤ fm) (hl : far ≤ len) : ∀ (m : Nat) (k p : Int) (g : Gr) (L : List (Int × Gr)), fm ≤ p → p ≤ far → 0 ≤ k → k < n → nbit CO p k → WL (tgR T b) (adR N b) (bdR T W b) (mmR CA CM CL CH b) f len m k p g L → ∀ x ∈ L, x.1 ≤ lst := by
  intro m
  induction m with
  | zero => intro k p g L _ _ _ _ _ h; exact h.elim
  | succ m ih =>
    intro k p g L p0 p1 k0 k1 hc h x hx
    obtain ⟨s1, s2, s3, s4, s5, s6⟩ := hs k k0 k1
    obtain ⟨t0, t1, t2, t3, t4, t5, t6⟩ := tgI (T := T) (b := b) (s := k) s1
    obtain ⟨f3, f4, f5, f6, f7⟩ := hf p p0 p1 k k0 k1 hc
    obtain ⟨c, cw, hch⟩ := mchr_ex (f := f) (n := len) (p := p)
    obtain ⟨w, hw⟩ := tkv_ex (T := T) (CA := CA) (CM := CM) (CL := CL) (CH := CH) (c := c) (w := cw) (n := len) (k := b + k) (p := p)
    have tw := tkv_w hb (show 0 ≤ p by omega) hch hw
    rcases h with ⟨t, h | h⟩ | ⟨t, h | h⟩ | ⟨t, h | h⟩ | ⟨t, L1, L2, q1, q2, q3⟩ | ⟨t, h⟩ | ⟨t, h⟩ | ⟨t, h⟩
    · have tt := t0 t
      have i := s2 (by omega) (by omega)
      rcases tw with ⟨w0, ⟨z1, z2, z3⟩ | ⟨z1, z2, z3⟩⟩ | ⟨z, z1, z2⟩
      · have y := f6 c cw w hch hw w0
        have hL := h.2
        rw [← z3] at hL
        exact ih _ _ _ _ (by omega) y.1 i.1 i.2 y.2 hL x hx
      · omega
      · exact absurd ⟨tt, h.1.1, h.1.2⟩ z1
    · rw [h.2] at hx; exact absurd hx List.not_mem_nil
    · have tt := t1 t
      have i := s2 (by omega) (by omega)
      rcases tw with ⟨w0, ⟨z1, z2, z3⟩ | ⟨z1, z2, z3⟩⟩ | ⟨z, z1, z2⟩
      · omega
      · have y := f6 c cw w hch hw w0
        have hL := h.2
        rw [← z3] at hL
        exact ih _ _ _ _ (by omega) y.1 i.1 i.2 y.2 hL x hx
      · exact absurd ⟨tt, h.1⟩ z2
    · rw [h.2] at hx; exact absurd hx List.not_mem_nil
    · have tt := t2 t
      have i := s2 (by omega) (by omega)
      have hh := h.1
      rw [bdR_5 tt] at hh
      exact ih _ _ _ _ p0 p1 i.1 i.2 (f5 tt ((mhld_h (s5 tt) ⟨by omega, by omega⟩).mpr hh)) h.2 x hx
    · rw [h.2] at hx; exact absurd hx List.not_mem_nil
    · have tt := t3 t
      have i := s2 (by omega) (by omega)
      have j := s3 tt
      have e : bdR T W b k = W (b + k) := bdR_n (by omega)
      rw [e] at q2
      rw [q3] at hx
      rcases List.mem_append.mp hx with y | y
      · exact ih _ _ _ _ p0 p1 i.1 i.2 (f3 tt).1 q1 x y
      · exact ih _ _ _ _ p0 p1 j.1 j.2 (f3 tt).2 q2 x y
    · have tt := t4 t
      have i := s2 (by omega) (by omega)
      exact ih _ _ _ _ p0 p1 i.1 i.2 (f4 tt) h x hx
    · have tt := t5 t
      rw [h] at hx
      rw [List.mem_singleton.mp hx]
      exact f7 tt
    · rw [h] at hx; exact absurd hx List.not_mem_nil
/-- the last end is one -/
theorem ends_is {b en : Int} (hb : bytes f len) (hs : sgood T N W CA CM b n) (h : lend T N W CA CM CL CH f len b n fm en last) (h0 : 0 ≤ fm) (hl : last ≤ len) (hL : WR T N W CA CM CL CH b f len en fm g L) : ∃ x ∈ L, x.1 = last := by
  obtain ⟨k, hk, ht, hd⟩ := h
  have r := hd (fun q i => q ≤ len ∧ ∀ (g : Gr) (L : List (Int × Gr)), WR T N W CA CM CL CH b f len i q g L → ∃ x ∈ L, x.1 = last) (fun q i hq i0 i1 => ?_) ⟨hl, fun g L hL => ?_⟩
  · exact r.2 g L hL
  · obtain ⟨s1, s2, s3, s4, s5, s6⟩ := hs i i0 i1
    refine ⟨fun z => ?_, fun c cw w hc hw w0 z => ?_⟩
    · rcases z with ⟨t, z⟩ | ⟨t, z⟩ | ⟨t, u, z⟩
      · have hq2 : q ≤ len := by rcases z with z | z <;> exact z.1
        refine ⟨hq2, fun g L hL => ?_⟩
        obtain ⟨L1, L2, w1, w2, w3⟩ := ww_i3 (tgR_3 t) hL
        have e : bdR T W b i = W (b + i) := bdR_n (by omega)
        rw [e] at w2
        rw [w3]
        rcases z with z | z
        · obtain ⟨x, x1, x2⟩ := z.2 _ _ w1
          exact ⟨x, List.mem_append_left _ x1, x2⟩
        · obtain ⟨x, x1, x2⟩ := z.2 _ _ w2
          exact ⟨x, List.mem_append_right _ x1, x2⟩
      · exact ⟨z.1, fun g L hL => z.2 _ _ (ww_i4 (tgR_4 t) hL)⟩
      · refine ⟨z.1, fun g L hL => ?_⟩
        have hh : hld f len q (bdR T W b i) := by
          rw [bdR_5 t]
          exact (mhld_h (s5 t) ⟨by omega, z.1⟩).mp u
        exact z.2 _ _ (ww_i2 (tgR_5 t) hh hL)
    · refine ⟨by have := z.1; omega, fun g L hL => ?_⟩
      rcases tkv_w hb (show 0 ≤ q by omega) hc hw with ⟨_, ⟨z1, z2, z3⟩ | ⟨z1, z2, z3⟩⟩ | ⟨z1, _⟩
      · have c1 := ww_i0 (tgR_1 z1) z2 hL
        rw [← z3] at c1
        exact z.2 _ _ c1
      · have c1 := ww_i1 (tgR_2 z1) z2 hL
        rw [← z3] at c1
        exact z.2 _ _ c1
      · omega
  · rw [ww_i5 (tgR_0 ht) hL]
    exact ⟨_, List.mem_singleton.mpr rfl, rfl⟩
/-- a bit that is not there: nothing is found at the place -/
theorem nt_no (h : ntK T N W CA CM CL CH f NO len (12500 * sl) n len 0 to) (hp : prZ T N W CA CM CL CH sl n e v) (hb : bytes f len) (he : 0 ≤ e ∧ e < n) (hpp : to ≤ p ∧ 0 ≤ p ∧ p ≤ len) (hn : ¬ nbit NO p e) : mtR fy hw len (wyR v f len p) = none := by
  rw [mtR_none]
  intro x hx _
  have w := hp.wy hb hpp.2.1 hpp.2.2
  exact hn ((h p e _ _ hpp.1 hpp.2.2 he.1 he.2 w).mpr ⟨x, hx, (wyR_in hb hpp.2.1 hpp.2.2 x hx).2, Or.inl rfl⟩)
theorem nt_yes (h : ntK T N W CA CM CL CH f NO len (12500 * sl) n len 0 to) (hp : prZ T N W CA CM CL CH sl n e v) (hb : bytes f len) (he : 0 ≤ e ∧ e < n) (hpp : to ≤ p ∧ 0 ≤ p ∧ p ≤ len) (hh : ¬ hw = 2) (hn : nbit NO p e) : ¬ mtR fy hw len (wyR v f len p) = none := by
  rw [mtR_none]
  intro q
  have w := hp.wy hb hpp.2.1 hpp.2.2
  obtain ⟨x, x1, x2⟩ := (h p e _ _ hpp.1 hpp.2.2 he.1 he.2 w).mp hn
  exact q x x1 (fun z => hh z.1)
/-- the whole: only an end at the subject's end counts -/
theorem nt_no2 (h : ntK T N W CA CM CL CH f NO len (12500 * sl) n len 1 to) (hp : prZ T N W CA CM CL CH sl n e v) (hb : bytes f len) (he : 0 ≤ e ∧ e < n) (hpp : to ≤ p ∧ 0 ≤ p ∧ p ≤ len) (hn : ¬ nbit NO p e) : mtR fy 2 len (wyR v f len p) = none := by
  rw [mtR_none]
  intro x hx ha
  have w := hp.wy hb hpp.2.1 hpp.2.2
  have k := wyR_in hb hpp.2.1 hpp.2.2 x hx
  refine hn ((h p e _ _ hpp.1 hpp.2.2 he.1 he.2 w).mpr ⟨x, hx, k.2, Or.inr ?_⟩)
  by_cases d : x.1 < len
  · exact absurd ⟨rfl, d⟩ ha
  · omega
theorem nt_yes2 (h : ntK T N W CA CM CL CH f NO len (12500 * sl) n len 1 to) (hp : prZ T N W CA CM CL CH sl n e v) (hb : bytes f len) (he : 0 ≤ e ∧ e < n) (hpp : to ≤ p ∧ 0 ≤ p ∧ p ≤ len) (hn : nbit NO p e) : ¬ mtR fy 2 len (wyR v f len p) = none := by
  rw [mtR_none]
  intro q
  have w := hp.wy hb hpp.2.1 hpp.2.2
  obtain ⟨x, x1, x2, x3⟩ := (h p e _ _ hpp.1 hpp.2.2 he.1 he.2 w).mp hn
  refine q x x1 (fun z => ?_)
  rcases x3 with x3 | x3
  · exact absurd x3 (by decide)
  · have := z.2; omega
/-- what the walk is asked for -/
theorem gn0_f (hp : prZ T N W CA CM CL CH sl n e v) (hb : bytes f len) (hpp : 0 ≤ p ∧ p ≤ len) : gn0 T N W CA CM CL CH f len (12500 * sl) 0 len e p (fA 0 len (wyR v f len p)) := ⟨_, hp.wy hb hpp.1 hpp.2, rfl, fun y hy => (wyR_in hb hpp.1 hpp.2 y hy).2⟩
theorem gn0_w (hp : prZ T N W CA CM CL CH sl n e v) (hb : bytes f len) (hpp : 0 ≤ p ∧ p ≤ len) : gn0 T N W CA CM CL CH f len (12500 * sl) 2 len e p (fA 2 len (wyR v f len p)) := ⟨_, hp.wy hb hpp.1 hpp.2, rfl, fun y hy => (wyR_in hb hpp.1 hpp.2 y hy).2⟩
theorem gn0_l (hp : prZ T N W CA CM CL CH sl n e v) (hb : bytes f len) (hpp : 0 ≤ p ∧ p ≤ len) (hl : ∀ x ∈ wyR v f len p, x.1 ≤ last) : gn0 T N W CA CM CL CH f len (12500 * sl) 2 last e p (fA 2 last (wyR v f len p)) := ⟨_, hp.wy hb hpp.1 hpp.2, rfl, hl⟩
/-- the ends of a try, by the rows that were gone through -/
theorem last_le (hp : prZ T N W CA CM CL CH sl n e v) (hb : bytes f len) (hs : sgood T N W CA CM (12500 * sl) n) (hf : fcls T N W CA CM CL CH f CO len (12500 * sl) n far last p (far + 1)) (hpp : 0 ≤ p ∧ p ≤ far ∧ far ≤ len) (he : 0 ≤ e ∧ e < n) (hc : nbit CO p e) : ∀ x ∈ wyR v f len p, x.1 ≤ last := by
  obtain ⟨m, w⟩ := hp.wy hb hpp.1 (show p ≤ len by omega)
  exact ends_le hb hs (fun q a d => hf q a (by omega)) hpp.1 hpp.2.2 m e p _ _ (Int.le_refl _) hpp.2.1 he.1 he.2 hc w
theorem last_is (hp : prZ T N W CA CM CL CH sl n e v) (hb : bytes f len) (hs : sgood T N W CA CM (12500 * sl) n) (h : lend T N W CA CM CL CH f len (12500 * sl) n p e last) (hpp : 0 ≤ p ∧ p ≤ len) (hl : last ≤ len) : ∃ x ∈ wyR v f len p, x.1 = last := ends_is hb hs h hpp.1 hl (hp.wy hb hpp.1 hpp.2)
/-- the search for a begin: at the subject's end, or there is one -/
def lpE (sr p len : Int) (P : Prop) : Prop := sr = 1 → p = len ∨ P
/-- find, at its end -/
theorem fd_no (hn : noR (wyR v f len) fy hw len fm p) (h : mtR fy hw len (wyR v f len p) = none) (h0 : hw = 0 → p = len) (h1 : ¬ hw = 0 → p = fm) : fdC v f len fy hw fm wi 0 SP := ⟨none, 0, Or.inl ⟨rfl, fun q a d => by
  by_cases k : q = p
  · rw [k]; exact h
  · refine hn q a ?_
    unfold laR at d
    split at d
    · have := h0 (by assumption); omega
    · have := h1 (by assumption); omega⟩, Or.inl ⟨rfl, rfl⟩⟩
theorem fd_yes (hn : noR (wyR v f len) fy hw len fm p) (h : mtR fy hw len (wyR v f len p) = S) (hp : fm ≤ p ∧ p ≤ len) (h1 : ¬ hw = 0 → p = fm) (hm : mch S 1 SP wi p) : fdC v f len fy hw fm wi 1 SP := by
  have hla : p ≤ laR hw len fm := by
    unfold laR
    split
    · exact hp.2
    · have := h1 (by assumption)
      omega
  have hS : ¬ S = none := fun z => by
    obtain ⟨y, hy, _⟩ := mch_s hm rfl
    cases z.symm.trans hy
  exact ⟨S, p, Or.inr ⟨hS, ⟨hp.1, hla⟩, h, hn⟩, hm⟩
end Rf4
