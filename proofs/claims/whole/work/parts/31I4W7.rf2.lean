/-! the reference's walk: the first way that counts -/
def gQ (SP : Int → Int) : Gr := fun i => if 0 ≤ i ∧ i < 20 then SP i else -1
theorem gQ_zu {SP : Int → Int} {v p : Int} (h : 0 ≤ v ∧ v < 20) : gQ (zu SP v p) = zu (gQ SP) v p := by
  funext i
  by_cases e : i = v
  · subst e
    rw [zu_self]
    show (if 0 ≤ i ∧ i < 20 then zu SP i p i else -1) = p
    rw [if_pos h, zu_self]
  · rw [zu_ne e]
    show (if 0 ≤ i ∧ i < 20 then zu SP v p i else -1) = (if 0 ≤ i ∧ i < 20 then SP i else -1)
    rw [zu_ne e]
/-- the spans after so many places are given back -/
def und (TS TO : Int → Int) : Nat → Int → (Int → Int) → Int → Int
  | 0, _, SP => SP
  | d + 1, tr, SP => und TS TO d (tr - 1) (zu SP (TS (tr - 1)) (TO (tr - 1)))
section Und
variable {TS TO TS2 TO2 : Int → Int}
theorem und_add : ∀ (d1 d2 : Nat) (tr : Int) (SP : Int → Int), und TS TO (d1 + d2) tr SP = und TS TO d2 (tr - (d1 : Int)) (und TS TO d1 tr SP) := by
  intro d1
  induction d1 with
  | zero =>
    intro d2 tr SP
    rw [Nat.zero_add, show tr - ((0 : Nat) : Int) = tr by omega]
    rfl
  | succ d1 ih =>
    intro d2 tr SP
    rw [show d1 + 1 + d2 = (d1 + d2) + 1 by omega]
    show und TS TO (d1 + d2) (tr - 1) (zu SP (TS (tr - 1)) (TO (tr - 1))) = und TS TO d2 (tr - ((d1 + 1 : Nat) : Int)) (und TS TO d1 (tr - 1) (zu SP (TS (tr - 1)) (TO (tr - 1))))
    rw [ih, show tr - 1 - (d1 : Int) = tr - ((d1 + 1 : Nat) : Int) by omega]
theorem und_eq : ∀ (d : Nat) (tr : Int) (SP : Int → Int), (∀ j : Int, j < tr → TS2 j = TS j ∧ TO2 j = TO j) → und TS2 TO2 d tr SP = und TS TO d tr SP := by
  intro d
  induction d with
  | zero => intro tr SP _; rfl
  | succ d ih =>
    intro tr SP h
    show und TS2 TO2 d (tr - 1) (zu SP (TS2 (tr - 1)) (TO2 (tr - 1))) = und TS TO d (tr - 1) (zu SP (TS (tr - 1)) (TO (tr - 1)))
    rw [(h (tr - 1) (by omega)).1, (h (tr - 1) (by omega)).2]
    exact ih _ _ (fun j a => h j (by omega))
def spA (TS TO SP : Int → Int) (tr t : Int) : Int → Int := und TS TO (tr - t).toNat tr SP
theorem spA_0 {SP : Int → Int} {tr : Int} : spA TS TO SP tr tr = SP := by
  unfold spA
  rw [show (tr - tr).toNat = 0 by omega]
  rfl
theorem spA_s {SP : Int → Int} {tr t : Int} (h : t < tr) : spA TS TO SP tr t = spA TS TO (zu SP (TS (tr - 1)) (TO (tr - 1))) (tr - 1) t := by
  unfold spA
  rw [show (tr - t).toNat = (tr - 1 - t).toNat + 1 by omega]
  rfl
theorem spA_tr {SP : Int → Int} {tr t t2 : Int} (h : t ≤ t2 ∧ t2 ≤ tr) : spA TS TO (spA TS TO SP tr t2) t2 t = spA TS TO SP tr t := by
  unfold spA
  rw [show (tr - t).toNat = (tr - t2).toNat + (t2 - t).toNat by omega, und_add, show tr - (((tr - t2).toNat : Nat) : Int) = t2 by omega]
theorem spA_push {SP : Int → Int} {tr t v p : Int} (h : t ≤ tr) : spA (zu TS tr v) (zu TO tr (SP v)) (zu SP v p) (tr + 1) t = spA TS TO SP tr t := by
  rw [spA_s (by omega), show tr + 1 - 1 = tr by omega, zu_self, zu_self, zu_back rfl]
  exact und_eq _ _ _ (fun j a => ⟨zu_ne (by omega), zu_ne (by omega)⟩)
end Und
def plS (tg a b : Int → Int) (mm : Int → Int → Prop) (f : Int → Int) (n p : Int) (PL PT TS TO SP : Int → Int) (tr : Int) : Nat → List (Int × Gr) → Prop
  | 0, R => R = []
  | j + 1, R => ∃ L R' : List (Int × Gr), WW tg a b mm f n (PL j) p (gQ (spA TS TO SP tr (PT j))) L ∧ plS tg a b mm f n p PL PT TS TO SP tr j R' ∧ R = L ++ R'
def ptM (PT : Int → Int) (m tr : Int) : Prop := (∀ i j : Int, 0 ≤ i → i ≤ j → j < m → PT i ≤ PT j) ∧ ∀ j : Int, 0 ≤ j → j < m → 0 ≤ PT j ∧ PT j ≤ tr
/-- who was seen and leads on lies before what is topmost of those that lead on -/
def tpA (tg a b : Int → Int) (mm : Int → Int → Prop) (f : Int → Int) (n p : Int) (al : Int → Prop) (PL : Int → Int) (m z : Int) : Prop := ∃ j : Int, (0 ≤ j ∧ j < m) ∧ al (PL j) ∧ (∀ i : Int, j < i → i < m → ¬ al (PL i)) ∧ gtF tg a b mm f n z p (PL j) p
def wlK (tg a b : Int → Int) (mm : Int → Int → Prop) (f : Int → Int) (n hw fr p : Int) (al : Int → Prop) (cnt : Int) (Z PL PT TS TO SP : Int → Int) (tr m : Int) (S : Option (Int × Gr)) : Prop := ∃ R : List (Int × Gr), plS tg a b mm f n p PL PT TS TO SP tr m.toNat R ∧ (fA hw fr R = S ∧ ∀ x ∈ R, x.1 ≤ fr) ∧ ptM PT m tr ∧ (∀ j : Int, 0 ≤ j → j < m → 0 ≤ PL j ∧ PL j < cnt) ∧ ∀ z : Int, 0 ≤ z → z < cnt → Z z = 1 → al z → tpA tg a b mm f n p al PL m z
def cuK (tg a b : Int → Int) (mm : Int → Int → Prop) (f : Int → Int) (n hw fr p : Int) (al : Int → Prop) (cnt : Int) (Z PL PT TS TO SP : Int → Int) (tr m x : Int) (S : Option (Int × Gr)) : Prop := ∃ L R : List (Int × Gr), WW tg a b mm f n x p (gQ SP) L ∧ plS tg a b mm f n p PL PT TS TO SP tr m.toNat R ∧ (fA hw fr (L ++ R) = S ∧ ∀ y ∈ L ++ R, y.1 ≤ fr) ∧ (ptM PT m tr ∧ (0 ≤ x ∧ x < cnt) ∧ 0 ≤ m) ∧ (∀ j : Int, 0 ≤ j → j < m → 0 ≤ PL j ∧ PL j < cnt) ∧ ∀ z : Int, 0 ≤ z → z < cnt → Z z = 1 → al z → (al x ∧ gtF tg a b mm f n z p x p) ∨ (¬ al x ∧ tpA tg a b mm f n p al PL m z)
/-- who leads on has a way that counts -/
def alA (tg a b : Int → Int) (mm : Int → Int → Prop) (f : Int → Int) (n hw fr p : Int) (al : Int → Prop) (cnt : Int) : Prop := ∀ (z : Int) (g : Gr) (L : List (Int × Gr)), 0 ≤ z → z < cnt → WW tg a b mm f n z p g L → (∀ y ∈ L, y.1 ≤ fr) → (al z ↔ ∃ y ∈ L, acc hw fr y.1)
section Dfs
variable {tg a b : Int → Int} {mm : Int → Int → Prop} {f : Int → Int} {n hw fr p : Int} {al : Int → Prop} {cnt : Int} {Z PL PT TS TO SP PL2 PT2 TS2 TO2 SP2 : Int → Int} {tr tr2 m x y v : Int} {S : Option (Int × Gr)}
theorem plS.eq : ∀ (k : Nat) (R : List (Int × Gr)), plS tg a b mm f n p PL PT TS TO SP tr k R → (∀ j : Int, 0 ≤ j → j < (k : Int) → PL2 j = PL j ∧ gQ (spA TS2 TO2 SP2 tr2 (PT2 j)) = gQ (spA TS TO SP tr (PT j))) → plS tg a b mm f n p PL2 PT2 TS2 TO2 SP2 tr2 k R := by
  intro k
  induction k with
  | zero => intro R h _; exact h
  | succ k ih =>
    intro R h q
    obtain ⟨L, R', h1, h2, h3⟩ := h
    obtain ⟨q1, q2⟩ := q (k : Int) (by omega) (by omega)
    exact ⟨L, R', by rw [q1, q2]; exact h1, ih R' h2 (fun j j0 j1 => q j j0 (by omega)), h3⟩
theorem wlK.pop (h : wlK tg a b mm f n hw fr p al cnt Z PL PT TS TO SP tr m S) (h1 : 1 ≤ m) : cuK tg a b mm f n hw fr p al cnt Z PL PT TS TO (spA TS TO SP tr (PT (m - 1))) (PT (m - 1)) (m - 1) (PL (m - 1)) S := by
  obtain ⟨R, hR, ⟨hS, hF⟩, hP, hb, hJ⟩ := h
  rw [show m.toNat = (m - 1).toNat + 1 by omega] at hR
  obtain ⟨L, R', r1, r2, r3⟩ := hR
  have e : (((m - 1).toNat : Nat) : Int) = m - 1 := by omega
  rw [e] at r1
  rw [r3] at hS hF
  have pt := hP.2 (m - 1) (by omega) (by omega)
  refine ⟨L, R', r1, plS.eq _ _ r2 (fun j j0 j1 => ⟨rfl, ?_⟩), ⟨hS, hF⟩, ⟨⟨fun i j i0 ij jm => hP.1 i j i0 ij (by omega), fun j j0 jm => ⟨(hP.2 j j0 (by omega)).1, hP.1 j (m - 1) j0 (by omega) (by omega)⟩⟩, hb (m - 1) (by omega) (by omega), by omega⟩, fun j j0 j1 => hb j j0 (by omega), fun z z0 z1 z2 z3 => ?_⟩
  · rw [spA_tr ⟨hP.1 j (m - 1) j0 (by omega) (by omega), pt.2⟩]
  · obtain ⟨j, j0, j1, j2, j3⟩ := hJ z z0 z1 z2 z3
    by_cases c : j = m - 1
    · rw [c] at j1 j3
      exact Or.inl ⟨j1, j3⟩
    · exact Or.inr ⟨j2 (m - 1) (by omega) (by omega), j, ⟨j0.1, by omega⟩, j1, fun i i0 i1 => j2 i i0 (by omega), j3⟩
theorem cuK.drop (h : cuK tg a b mm f n hw fr p al cnt Z PL PT TS TO SP tr m x S) (hA : alA tg a b mm f n hw fr p al cnt) (hx : ¬ al x) : ∀ Z2 : Int → Int, (∀ z : Int, Z2 z = 1 → Z z = 1 ∨ z = x) → wlK tg a b mm f n hw fr p al cnt Z2 PL PT TS TO SP tr m S := fun Z2 hZ => by
  obtain ⟨L, R, hL, hR, ⟨hS, hF⟩, ⟨hP, hb0, hm⟩, hb, hJ⟩ := h
  have nl : ∀ y ∈ L, ¬ acc hw fr y.1 := fun y hy ha => hx ((hA x _ L hb0.1 hb0.2 hL (fun w hw => hF w (List.mem_append_left _ hw))).mpr ⟨y, hy, ha⟩)
  rw [fA_skip nl] at hS
  refine ⟨R, hR, ⟨hS, fun w hw => hF w (List.mem_append_right _ hw)⟩, hP, hb, fun z z0 z1 z2 z3 => ?_⟩
  rcases hZ z z2 with q | q
  · rcases hJ z z0 z1 q z3 with r | r
    · exact absurd r.1 hx
    · exact r.2
  · rw [q] at z3
    exact absurd z3 hx
/-- it was seen already -/
theorem cuK.seen (h : cuK tg a b mm f n hw fr p al cnt Z PL PT TS TO SP tr m x S) (hA : alA tg a b mm f n hw fr p al cnt) (hz : Z x = 1) : wlK tg a b mm f n hw fr p al cnt Z PL PT TS TO SP tr m S := by
  have hx : ¬ al x := by
    obtain ⟨L, R, _, _, _, ⟨_, hb0, _⟩, _, hJ⟩ := h
    intro q
    rcases hJ x hb0.1 hb0.2 hz q with r | r
    · exact gtF_no r.2
    · exact r.1 q
  exact h.drop hA hx Z (fun _ q => Or.inl q)
/-- it leads nowhere that counts -/
theorem cuK.dead (h : cuK tg a b mm f n hw fr p al cnt Z PL PT TS TO SP tr m x S) (hA : alA tg a b mm f n hw fr p al cnt) (hn : ∀ (g : Gr) (L : List (Int × Gr)), WW tg a b mm f n x p g L → (∀ y ∈ L, y.1 ≤ fr) → ∀ y ∈ L, ¬ acc hw fr y.1) : wlK tg a b mm f n hw fr p al cnt (zu Z x 1) PL PT TS TO SP tr m S := by
  have hx : ¬ al x := by
    obtain ⟨L, R, hL, _, ⟨_, hF⟩, ⟨_, hb0, _⟩, _⟩ := h
    have hF2 : ∀ y ∈ L, y.1 ≤ fr := fun w hw => hF w (List.mem_append_left _ hw)
    intro q
    obtain ⟨y, y1, y2⟩ := (hA x _ L hb0.1 hb0.2 hL hF2).mp q
    exact hn _ L hL hF2 y y1 y2
  refine h.drop hA hx (zu Z x 1) (fun z q => ?_)
  by_cases e : z = x
  · exact Or.inr e
  · rw [zu_ne e] at q
    exact Or.inl q
/-- the match's end -/
theorem cuK.fin (h : cuK tg a b mm f n hw fr p al cnt Z PL PT TS TO SP tr m x S) (t : tg x = 5) (ha : acc hw fr p) : S = some (p, gQ SP) := by
  obtain ⟨L, R, hL, _, ⟨hS, _⟩, _⟩ := h
  rw [ww_i5 t hL, List.singleton_append, fA_hit ha] at hS
  exact hS.symm
/-- it goes on behind this place -/
theorem cuK.take {p2 : Int} (h : cuK tg a b mm f n hw fr p al cnt Z PL PT TS TO SP tr m x S) (hw2 : ∀ (g : Gr) (L : List (Int × Gr)), WW tg a b mm f n x p g L → WW tg a b mm f n y p2 g L) (ha : ∀ (g : Gr) (L : List (Int × Gr)), WW tg a b mm f n y p2 g L → (∀ y ∈ L, y.1 ≤ fr) → ∃ y ∈ L, acc hw fr y.1) : ∃ L : List (Int × Gr), WW tg a b mm f n y p2 (gQ SP) L ∧ fA hw fr L = S ∧ ∀ y ∈ L, y.1 ≤ fr := by
  obtain ⟨L, R, hL, _, ⟨hS, hF⟩, _⟩ := h
  have hL2 := hw2 _ _ hL
  have hF2 : ∀ y ∈ L, y.1 ≤ fr := fun w hw => hF w (List.mem_append_left _ hw)
  refine ⟨L, hL2, ?_, hF2⟩
  obtain ⟨y, y1, y2⟩ := ha _ _ hL2 hF2
  rw [fA_app] at hS
  cases c : fA hw fr L with
  | none => exact absurd y2 (fA_none.mp c y y1)
  | some w =>
    rw [c] at hS
    exact hS
/-- one step waits for it -/
theorem cuK.one (h : cuK tg a b mm f n hw fr p al cnt Z PL PT TS TO SP tr m x S) (hA : alA tg a b mm f n hw fr p al cnt) (hc : chl tg a b mm f n x p y p) (hy : 0 ≤ y ∧ y < cnt) (hw2 : ∀ L : List (Int × Gr), WW tg a b mm f n x p (gQ SP) L → WW tg a b mm f n y p (gQ SP2) L) (hk : ∀ j : Int, 0 ≤ j → j < m → PL2 j = PL j ∧ PT2 j = PT j) (hl : PL2 m = y ∧ PT2 m = tr2) (ht : tr ≤ tr2 ∧ 0 ≤ tr) (hs : ∀ t : Int, 0 ≤ t → t ≤ tr → spA TS2 TO2 SP2 tr2 t = spA TS TO SP tr t) : wlK tg a b mm f n hw fr p al cnt (zu Z x 1) PL2 PT2 TS2 TO2 SP2 tr2 (m + 1) S := by
  obtain ⟨L, R, hL, hR, ⟨hS, hF⟩, ⟨hP, hb0, hm⟩, hb, hJ⟩ := h
  have hF2 : ∀ y ∈ L, y.1 ≤ fr := fun w hw => hF w (List.mem_append_left _ hw)
  have hLy := hw2 L hL
  have e : ((m.toNat : Nat) : Int) = m := by omega
  have hal : al x ↔ al y := by rw [hA x _ L hb0.1 hb0.2 hL hF2, hA y _ L hy.1 hy.2 hLy hF2]
  obtain ⟨q, hf⟩ := hL.fl
  refine ⟨L ++ R, ?_, ⟨hS, hF⟩, ⟨fun i j i0 ij jm => ?_, fun j j0 jm => ?_⟩, fun j j0 j1 => ?_, fun z z0 z1 z2 z3 => ?_⟩
  · rw [show (m + 1).toNat = m.toNat + 1 by omega]
    refine ⟨L, R, by rw [e, hl.1, hl.2, spA_0]; exact hLy, plS.eq _ _ hR (fun j j0 j1 => ?_), rfl⟩
    obtain ⟨k1, k2⟩ := hk j j0 (by omega)
    have pj := hP.2 j j0 (by omega)
    exact ⟨k1, by rw [k2, hs _ pj.1 pj.2]⟩
  · by_cases c : j = m
    · rw [c, hl.2]
      by_cases d : i = m
      · rw [d, hl.2]; exact Int.le_refl _
      · rw [(hk i i0 (by omega)).2]
        have := (hP.2 i i0 (by omega)).2
        omega
    · rw [(hk j (by omega) (by omega)).2, (hk i i0 (by omega)).2]
      exact hP.1 i j i0 ij (by omega)
  · by_cases c : j = m
    · rw [c, hl.2]; omega
    · rw [(hk j j0 (by omega)).2]
      have := hP.2 j j0 (by omega)
      omega
  · by_cases c : j = m
    · rw [c, hl.1]; exact hy
    · rw [(hk j j0 (by omega)).1]; exact hb j j0 (by omega)
  · have old : Z z = 1 → tpA tg a b mm f n p al PL2 (m + 1) z := fun z2 => by
      rcases hJ z z0 z1 z2 z3 with ⟨r1, r2⟩ | ⟨r1, j, j0, j1, j2, j3⟩
      · exact ⟨m, by omega, by rw [hl.1]; exact hal.mp r1, fun i i0 i1 => by omega, by rw [hl.1]; exact r2.tr hc⟩
      · have k1 := (hk j j0.1 j0.2).1
        refine ⟨j, by omega, by rw [k1]; exact j1, fun i i0 i1 => ?_, by rw [k1]; exact j3⟩
        by_cases c : i = m
        · rw [c, hl.1]; exact fun w => r1 (hal.mpr w)
        · rw [(hk i (by omega) (by omega)).1]; exact j2 i i0 (by omega)
    by_cases c : z = x
    · rw [c] at z3 ⊢
      exact ⟨m, by omega, by rw [hl.1]; exact hal.mp z3, fun i i0 i1 => by omega, by rw [hl.1]; exact gtF_child hf hc⟩
    · rw [zu_ne c] at z2
      exact old z2
/-- two steps wait for it -/
theorem cuK.two (h : cuK tg a b mm f n hw fr p al cnt Z PL PT TS TO SP tr m x S) (hA : alA tg a b mm f n hw fr p al cnt) (t : tg x = 3) (ha : 0 ≤ a x ∧ a x < cnt) (hbx : 0 ≤ b x ∧ b x < cnt) (hk : ∀ j : Int, 0 ≤ j → j < m → PL2 j = PL j ∧ PT2 j = PT j) (hl : PL2 m = b x ∧ PT2 m = tr) (hl2 : PL2 (m + 1) = a x ∧ PT2 (m + 1) = tr) (ht : 0 ≤ tr) : wlK tg a b mm f n hw fr p al cnt (zu Z x 1) PL2 PT2 TS TO SP tr (m + 2) S := by
  obtain ⟨L, R, hL, hR, ⟨hS, hF⟩, ⟨hP, hb0, hm⟩, hb, hJ⟩ := h
  obtain ⟨L1, L2, w1, w2, w3⟩ := ww_i3 t hL
  have hF2 : ∀ y ∈ L, y.1 ≤ fr := fun w hw => hF w (List.mem_append_left _ hw)
  have f1 : ∀ y ∈ L1, y.1 ≤ fr := fun w hw => hF2 w (by rw [w3]; exact List.mem_append_left _ hw)
  have f2 : ∀ y ∈ L2, y.1 ≤ fr := fun w hw => hF2 w (by rw [w3]; exact List.mem_append_right _ hw)
  have e : ((m.toNat : Nat) : Int) = m := by omega
  have e1 : (((m.toNat + 1 : Nat)) : Int) = m + 1 := by omega
  have cA : chl tg a b mm f n x p (a x) p := Or.inr (Or.inr (Or.inr (Or.inl ⟨t, Or.inl rfl, rfl⟩)))
  have cB : chl tg a b mm f n x p (b x) p := Or.inr (Or.inr (Or.inr (Or.inl ⟨t, Or.inr rfl, rfl⟩)))
  have hal : al x ↔ al (a x) ∨ al (b x) := by
    rw [hA x _ L hb0.1 hb0.2 hL hF2, hA (a x) _ L1 ha.1 ha.2 w1 f1, hA (b x) _ L2 hbx.1 hbx.2 w2 f2, w3]
    constructor
    · intro ⟨y, y1, y2⟩
      rcases List.mem_append.mp y1 with z | z
      · exact Or.inl ⟨y, z, y2⟩
      · exact Or.inr ⟨y, z, y2⟩
    · intro z
      rcases z with ⟨y, y1, y2⟩ | ⟨y, y1, y2⟩
      · exact ⟨y, List.mem_append_left _ y1, y2⟩
      · exact ⟨y, List.mem_append_right _ y1, y2⟩
  obtain ⟨q, hf⟩ := hL.fl
  rw [w3, List.append_assoc] at hS hF
  refine ⟨L1 ++ (L2 ++ R), ?_, ⟨hS, hF⟩, ⟨fun i j i0 ij jm => ?_, fun j j0 jm => ?_⟩, fun j j0 j1 => ?_, fun z z0 z1 z2 z3 => ?_⟩
  · rw [show (m + 2).toNat = m.toNat + 1 + 1 by omega]
    refine ⟨L1, L2 ++ R, by rw [e1, hl2.1, hl2.2, spA_0]; exact w1, ⟨L2, R, by rw [e, hl.1, hl.2, spA_0]; exact w2, plS.eq _ _ hR (fun j j0 j1 => ?_), rfl⟩, rfl⟩
    obtain ⟨k1, k2⟩ := hk j j0 (by omega)
    exact ⟨k1, by rw [k2]⟩
  · have pv : ∀ i : Int, 0 ≤ i → i < m + 2 → PT2 i ≤ tr ∧ (m ≤ i → PT2 i = tr) := fun i i0 i1 => by
      by_cases c : i = m
      · rw [c, hl.2]; omega
      · by_cases d : i = m + 1
        · rw [d, hl2.2]; omega
        · rw [(hk i i0 (by omega)).2]
          have := (hP.2 i i0 (by omega)).2
          omega
    by_cases c : j < m
    · rw [(hk j (by omega) c).2, (hk i i0 (by omega)).2]
      exact hP.1 i j i0 ij c
    · have p1 := pv i i0 (by omega)
      have p2 := (pv j (by omega) jm).2 (by omega)
      omega
  · by_cases c : j = m
    · rw [c, hl.2]; omega
    · by_cases d : j = m + 1
      · rw [d, hl2.2]; omega
      · rw [(hk j j0 (by omega)).2]; exact hP.2 j j0 (by omega)
  · by_cases c : j = m
    · rw [c, hl.1]; exact hbx
    · by_cases d : j = m + 1
      · rw [d, hl2.1]; exact ha
      · rw [(hk j j0 (by omega)).1]; exact hb j j0 (by omega)
  · have top : ∀ z' : Int, al x → (∀ s2 : Int, chl tg a b mm f n x p s2 p → gtF tg a b mm f n z' p s2 p) → tpA tg a b mm f n p al PL2 (m + 2) z' := fun z' hx hg => by
      by_cases ca : al (a x)
      · exact ⟨m + 1, by omega, by rw [hl2.1]; exact ca, fun i i0 i1 => by omega, by rw [hl2.1]; exact hg _ cA⟩
      · have cb := (hal.mp hx).resolve_left ca
        refine ⟨m, by omega, by rw [hl.1]; exact cb, fun i i0 i1 => ?_, by rw [hl.1]; exact hg _ cB⟩
        rw [show i = m + 1 by omega, hl2.1]
        exact ca
    have old : Z z = 1 → tpA tg a b mm f n p al PL2 (m + 2) z := fun z2 => by
      rcases hJ z z0 z1 z2 z3 with ⟨r1, r2⟩ | ⟨r1, j, j0, j1, j2, j3⟩
      · exact top z r1 (fun s2 c => r2.tr c)
      · have k1 := (hk j j0.1 j0.2).1
        refine ⟨j, by omega, by rw [k1]; exact j1, fun i i0 i1 => ?_, by rw [k1]; exact j3⟩
        by_cases c : i = m
        · rw [c, hl.1]; exact fun w => r1 (hal.mpr (Or.inr w))
        · by_cases d : i = m + 1
          · rw [d, hl2.1]; exact fun w => r1 (hal.mpr (Or.inl w))
          · rw [(hk i (by omega) (by omega)).1]; exact j2 i i0 (by omega)
    by_cases c : z = x
    · rw [c] at z3 ⊢
      exact top x z3 (fun s2 c => gtF_child hf c)
    · rw [zu_ne c] at z2
      exact old z2
/-- the search at a place begins -/
theorem wlK_0 {L : List (Int × Gr)} (hL : WW tg a b mm f n x p (gQ SP) L) (hS : fA hw fr L = S) (hF : ∀ y ∈ L, y.1 ≤ fr) (hx : 0 ≤ x ∧ x < cnt) (hp : PL 0 = x ∧ PT 0 = 0) (hz : ∀ z : Int, 0 ≤ z → z < cnt → ¬ Z z = 1) : wlK tg a b mm f n hw fr p al cnt Z PL PT TS TO SP 0 1 S := by
  have hR : plS tg a b mm f n p PL PT TS TO SP 0 (1 : Int).toNat (L ++ []) := by
    show plS tg a b mm f n p PL PT TS TO SP 0 (0 + 1) (L ++ [])
    refine ⟨L, [], ?_, rfl, rfl⟩
    show WW tg a b mm f n (PL 0) p (gQ (spA TS TO SP 0 (PT 0))) L
    rw [hp.1, hp.2, spA_0]
    exact hL
  rw [List.append_nil] at hR
  refine ⟨L, hR, ⟨hS, hF⟩, ⟨fun i j i0 ij jm => by rw [show i = 0 by omega, show j = 0 by omega]; exact Int.le_refl _, fun j j0 jm => by rw [show j = 0 by omega, hp.2]; omega⟩, fun j j0 jm => by rw [show j = 0 by omega, hp.1]; exact hx, fun z z0 z1 z2 => absurd z2 (hz z z0 z1)⟩
end Dfs
