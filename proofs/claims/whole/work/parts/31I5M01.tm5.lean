/-! the class reads a template -/
def gqS (NL NA T : Int → Int) (bg ln k j : Int) : Prop := NL k = ln ∧ ∀ i : Int, 0 ≤ i → i < j → NA (k * 12 + i) = T (bg + i)
/-- one group's name, as far as j -/
def gqI (NL NA T : Int → Int) (bg ln k eq j : Int) : Prop := (eq = 1 → gqS NL NA T bg ln k j) ∧ (eq = 0 → ¬ gqS NL NA T bg ln k ln)
/-- the groups below k -/
def gqF (NL NA T : Int → Int) (bg ln k fd : Int) : Prop := (fd = -1 ∧ ∀ g : Int, 1 ≤ g → g < k → ¬ gqS NL NA T bg ln g ln) ∨ (1 ≤ fd ∧ fd < k ∧ 0 < ln ∧ gqS NL NA T bg ln fd ln)
def gqO (NL NA T : Int → Int) (bg ln gr v : Int) : Prop := (v = -1 ∧ (ln ≤ 0 ∨ ∀ g : Int, 1 ≤ g → g ≤ gr → ¬ gqS NL NA T bg ln g ln)) ∨ (1 ≤ v ∧ v ≤ gr ∧ 0 < ln ∧ gqS NL NA T bg ln v ln)
section Gq
variable {NL NA T : Int → Int} {bg ln k eq j fd gr : Int}
theorem gqI_1 (h : NL k = ln) : gqI NL NA T bg ln k 1 0 := ⟨fun _ => ⟨h, fun i i0 i1 => by omega⟩, fun h => by omega⟩
theorem gqI_0 (h : ¬ NL k = ln) : gqI NL NA T bg ln k 0 j := ⟨fun h => by omega, fun _ q => h q.1⟩
theorem gqI_s1 (h : gqI NL NA T bg ln k eq j) (he : eq = 1) (hx : NA (k * 12 + j) = T (bg + j)) : gqI NL NA T bg ln k 1 (j + 1) := ⟨fun _ => by
  obtain ⟨q1, q2⟩ := h.1 he
  refine ⟨q1, fun i i0 i1 => ?_⟩
  by_cases c : i = j
  · rw [c]; exact hx
  · exact q2 i i0 (by omega), fun h => by omega⟩
theorem gqI_s0 (hj : 0 ≤ j ∧ j < ln) (hx : ¬ NA (k * 12 + j) = T (bg + j)) : gqI NL NA T bg ln k 0 (j + 1) := ⟨fun h => by omega, fun _ q => hx (q.2 j hj.1 hj.2)⟩
theorem gqI_e (h : gqI NL NA T bg ln k eq j) (hj : eq = 0 ∨ ln ≤ j) : gqI NL NA T bg ln k eq ln := ⟨fun he => by
  obtain ⟨q1, q2⟩ := h.1 he
  exact ⟨q1, fun i i0 i1 => q2 i i0 (by omega)⟩, h.2⟩
theorem gqF_0 : gqF NL NA T bg ln 1 (-1) := Or.inl ⟨rfl, fun g g0 g1 => by omega⟩
theorem gqF_y (h : gqI NL NA T bg ln k eq ln) (he : eq = 1) (hk : 1 ≤ k) (hl : 0 < ln) : gqF NL NA T bg ln (k + 1) k := Or.inr ⟨hk, by omega, hl, h.1 he⟩
theorem gqF_n (h : gqF NL NA T bg ln k fd) (hi : gqI NL NA T bg ln k eq ln) (he : eq = 0) : gqF NL NA T bg ln (k + 1) fd := by
  rcases h with ⟨h1, h2⟩ | ⟨h1, h2, hl, h3⟩
  · refine Or.inl ⟨h1, fun g g0 g1 => ?_⟩
    by_cases c : g = k
    · rw [c]; exact hi.2 he
    · exact h2 g g0 (by omega)
  · exact Or.inr ⟨h1, by omega, hl, h3⟩
theorem gqO_of (h : gqF NL NA T bg ln k fd) (hk : k ≤ gr + 1) (he : gr < k ∨ ln ≤ 0) : gqO NL NA T bg ln gr fd := by
  rcases h with ⟨h1, h2⟩ | ⟨h1, h2, hl, h3⟩
  · by_cases c : ln ≤ 0
    · exact Or.inl ⟨h1, Or.inl c⟩
    · exact Or.inl ⟨h1, Or.inr (fun g g0 g1 => h2 g g0 (by omega))⟩
  · exact Or.inr ⟨h1, by omega, hl, h3⟩
end Gq
/-! a dollar and what stands behind it -/
def dlJ (T : Int → Int) (n p ln : Int) : Prop := ∀ j : Int, 0 ≤ j → j < ln - 2 → p + 2 + j < n ∧ ¬ T (p + 2 + j) = 125
def diR (T : Int → Int) (n GR : Int) (NZ : Int → Int) (NM : Int → Int → Int) (p ln it : Int) : Prop := (¬ it = -100 ∧ tmI T n GR NZ NM p it ln) ∨ (it = -100 ∧ ∀ x w : Int, ¬ tmI T n GR NZ NM p x w)
/-- the class's names -/
def cNM (NA : Int → Int) : Int → Int → Int := fun g j => NA (g * 12 + j)
section Dl
variable {T NL NA : Int → Int} {n GR p ln z v it : Int}
theorem dlJ_0 : dlJ T n p 2 := fun j j0 j1 => by omega
theorem dlJ_s (h : dlJ T n p ln) (hi : p + ln < n) (hx : ¬ T (p + ln) = 125) (h2 : 2 ≤ ln) : dlJ T n p (ln + 1) := fun j j0 j1 => by
  by_cases c : j = ln - 2
  · rw [show p + 2 + j = p + ln by omega]; exact ⟨hi, hx⟩
  · exact h j j0 (by omega)
theorem dl_n (h : n ≤ p + 1 ∨ ¬ T (p + 1) = 123) : gwd T n p 2 := Or.inr ⟨fun c => by rcases h with h | h; omega; exact h c.2, rfl⟩
theorem dl_y (h : dlJ T n p ln) (h2 : 2 ≤ ln) (hp : p + 1 < n) (hx : T (p + 1) = 123) (he : n ≤ p + ln ∨ T (p + ln) = 125) : gwd T n p (ln + 1) := Or.inl ⟨⟨hp, hx⟩, ln - 2, ⟨by omega, h, by rw [show p + 2 + (ln - 2) = p + ln by omega]; exact he⟩, by omega⟩
theorem di_d (ht : T p = 36) (hp : p + 1 < n) (hx : T (p + 1) = 36) (hw : gwd T n p ln) : diR T n GR NL (cNM NA) p ln 36 := by
  refine Or.inl ⟨by decide, Or.inr (Or.inl ⟨ht, hp, hx, rfl, ?_⟩)⟩
  rcases hw with ⟨⟨_, c⟩, _⟩ | ⟨_, c⟩
  · omega
  · exact c
theorem di_g (ht : T p = 36) (hp : p + 1 < n) (hx : 48 ≤ T (p + 1) ∧ T (p + 1) ≤ 57 ∧ T (p + 1) - 48 ≤ GR) (hw : gwd T n p ln) (hi : it = -1 - (T (p + 1) - 48)) : diR T n GR NL (cNM NA) p ln it := by
  refine Or.inl ⟨by omega, Or.inr (Or.inr (Or.inl ⟨ht, hp, hx, hi, ?_⟩))⟩
  rcases hw with ⟨⟨_, c⟩, _⟩ | ⟨_, c⟩
  · omega
  · exact c
/-- a name, found -/
theorem di_m (ht : T p = 36) (hp : p + 1 < n) (hx : T (p + 1) = 123) (hw : gwd T n p ln) (hl : p + ln ≤ n) (hq : gqO NL NA T (p + 2) (ln - 3) GR v) (hv : ¬ v = -1) (hg : GR ≤ 9) (hi : it = -1 - v) : diR T n GR NL (cNM NA) p ln it := by
  rcases hq with ⟨q, _⟩ | ⟨q1, q2, q3, q4, q5⟩
  · exact absurd q hv
  · rcases hw with ⟨_, z, z1, z2⟩ | ⟨c, _⟩
    · refine Or.inl ⟨by omega, Or.inr (Or.inr (Or.inr ⟨ht, hp, hx, z, v, z1, by omega, ⟨q1, q2⟩, ⟨by omega, by omega, fun j j0 j1 => ?_⟩, hi, z2⟩))⟩
      exact q5 j j0 (by omega)
    · exact absurd ⟨hp, hx⟩ c
/-- no such name -/
theorem di_x (ht : T p = 36) (hx : T (p + 1) = 123) (hw : gwd T n p ln) (hq : gqO NL NA T (p + 2) (ln - 3) GR v) (hv : v = -1) : diR T n GR NL (cNM NA) p ln (-100) := by
  refine Or.inr ⟨rfl, fun x w h => ?_⟩
  rcases h with ⟨c, _⟩ | ⟨_, _, c, _⟩ | ⟨_, _, c, _⟩ | ⟨_, c1, c2, z, g, c3, c4, c5, ⟨m1, m2, m3⟩, _⟩
  · exact c ht
  · omega
  · omega
  · rcases hw with ⟨_, y, y1, y2⟩ | ⟨c, _⟩
    · have e := gsz_fun c3 y1
      rcases hq with ⟨_, q⟩ | ⟨q1, _⟩
      · rcases q with q | q
        · omega
        · exact q g c5.1 c5.2 ⟨by omega, fun i i0 i1 => m3 i i0 (by omega)⟩
      · omega
    · exact c ⟨c1, c2⟩
/-- nothing that is a template's -/
theorem di_o (ht : T p = 36) (hx : n ≤ p + 1 ∨ ¬ T (p + 1) = 36) (hg : n ≤ p + 1 ∨ (T (p + 1) < 48 ∨ 57 < T (p + 1) ∨ GR < T (p + 1) - 48)) (hm : n ≤ p + 1 ∨ ¬ T (p + 1) = 123 ∨ n < p + ln) (hw : gwd T n p ln) : diR T n GR NL (cNM NA) p ln (-100) := by
  refine Or.inr ⟨rfl, fun x w h => ?_⟩
  rcases h with ⟨c, _⟩ | ⟨_, c1, c, _⟩ | ⟨_, c1, c, _⟩ | ⟨_, c1, c2, z, g, c3, c4, _⟩
  · exact c ht
  · rcases hx with hx | hx
    · omega
    · exact hx c
  · omega
  · rcases hw with ⟨_, y, y1, y2⟩ | ⟨c, _⟩
    · have e := gsz_fun c3 y1
      rcases hm with hm | hm | hm
      · omega
      · exact hm c2
      · omega
    · exact c ⟨c1, c2⟩
end Dl
/-! the template's row -/
def rtI (T : Int → Int) (n GR : Int) (NZ : Int → Int) (NM : Int → Int → Int) (p : Int) (F : Int → Int) (sz : Int) : Prop := ∃ L : List Int, tpX T n GR NZ NM p L ∧ sz = (L.length : Int) ∧ rwL F 0 L
/-- read, or no template -/
def rtE (T : Int → Int) (n GR : Int) (NZ : Int → Int) (NM : Int → Int → Int) (v : Int) (F : Int → Int) (sz : Int) : Prop := (v = 1 ∧ ∃ L : List Int, tpL T n GR NZ NM L ∧ sz = (L.length : Int) ∧ rwL F 0 L) ∨ (v = 0 ∧ tpN T n GR NZ NM)
section Rt
variable {T : Int → Int} {n GR p p2 it w sz sz2 : Int} {NZ : Int → Int} {NM : Int → Int → Int} {F F2 : Int → Int}
theorem rtI_0 (h : sz = 0) : rtI T n GR NZ NM 0 F sz := ⟨[], tpX_0, by rw [h]; rfl, trivial⟩
theorem rtI_s (h : rtI T n GR NZ NM p F sz) (hp : 0 ≤ p ∧ p < n) (hi : tmI T n GR NZ NM p it w) (e : p2 = p + w) (hs : sz2 = sz + 1) (hk : ∀ k : Int, 0 ≤ k → k < sz → F2 k = F k) (hx : F2 sz = it) : rtI T n GR NZ NM p2 F2 sz2 := by
  obtain ⟨L, h1, h2, h3⟩ := h
  refine ⟨L ++ [it], tpX_s h1 hp hi e, ?_, (rwL_app L [it] 0).mpr ⟨rwL_cg L 0 h3 (fun i i0 i1 => hk i (by omega) (by omega)), ?_⟩⟩
  · rw [List.length_append, List.length_singleton]; omega
  · refine ⟨?_, trivial⟩
    rw [← hx, h2]
    congr 1
    omega
theorem rtE_y (h : rtI T n GR NZ NM p F sz) (hp : n ≤ p) : rtE T n GR NZ NM 1 F sz := by
  obtain ⟨L, h1, h2, h3⟩ := h
  exact Or.inl ⟨rfl, L, tpX_L h1 hp, h2, h3⟩
theorem rtE_n (h : rtI T n GR NZ NM p F sz) (hp : p < n) (hi : ∀ x w : Int, ¬ tmI T n GR NZ NM p x w) : rtE T n GR NZ NM 0 F2 sz2 := by
  obtain ⟨L, h1, _⟩ := h
  exact Or.inr ⟨rfl, tpX_N h1 hp hi⟩
theorem di_y (h : diR T n GR NZ NM p w it) (hn : ¬ it = -100) : tmI T n GR NZ NM p it w := by
  rcases h with ⟨_, h⟩ | ⟨h, _⟩
  · exact h
  · exact absurd h hn
theorem di_n (h : diR T n GR NZ NM p w it) (hn : it = -100) : ∀ x w : Int, ¬ tmI T n GR NZ NM p x w := by
  rcases h with ⟨h, _⟩ | ⟨_, h⟩
  · exact absurd hn h
  · exact h
end Rt
/-! the class fills the template -/
def atI (f SP : Int → Int) (L O : List Int) (i : Int) (F : Int → Int) (sz ft : Int) : Prop := ∃ L1 L2 : List Int, L = L1 ++ L2 ∧ i = (L1.length : Int) ∧ wcR F sz ft (O ++ exS f SP L1)
section At
variable {f SP F F2 FP : Int → Int} {L O : List Int} {i sz sz2 ft ft2 szp it : Int}
theorem atI_0 (h : wcR F sz ft O) : atI f SP L O 0 F sz ft := ⟨[], L, rfl, rfl, by rw [show exS f SP [] = [] from rfl, List.append_nil]; exact h⟩
theorem atI_s (h : atI f SP L O i F sz ft) (hr : rwL FP 0 L) (hz : szp = (L.length : Int)) (hi : i < szp) (q : ∀ Q : List Int, wcR F sz ft Q → wcR F2 sz2 ft2 (Q ++ itS f SP (FP i))) : atI f SP L O (i + 1) F2 sz2 ft2 := by
  obtain ⟨L1, L2, h1, h2, h3⟩ := h
  cases L2 with
  | nil => rw [h1, List.append_nil] at hz; omega
  | cons x t =>
    have e : FP i = x := by
      rw [h1] at hr
      have r := ((rwL_app L1 (x :: t) 0).mp hr).2.1
      rw [← r, h2]
      congr 1
      omega
    refine ⟨L1 ++ [x], t, by rw [h1, List.append_assoc, List.singleton_append], by rw [List.length_append, List.length_singleton]; omega, ?_⟩
    rw [exS_s, ← List.append_assoc, ← e]
    exact q _ h3
theorem atI_e (h : atI f SP L O i F sz ft) (hz : szp = (L.length : Int)) (hi : szp ≤ i ∨ ft = 0) : wcR F sz ft (O ++ exS f SP L) := by
  obtain ⟨L1, L2, h1, h2, h3⟩ := h
  by_cases c : szp ≤ i
  · have e : L2 = [] := by
      rw [h1, List.length_append] at hz
      exact List.eq_nil_of_length_eq_zero (by omega)
    rw [h1, e, List.append_nil]
    exact h3
  · have z : ft = 0 := hi.resolve_left c
    rw [z] at h3 ⊢
    rw [h1, exS_app, ← List.append_assoc]
    exact h3.more
theorem at_b {Q : List Int} (h : wcR F sz 1 Q) (h0 : 0 ≤ it) (hs : sz2 = sz + 1) (hl : sz2 ≤ 6000) (hk : ∀ k : Int, 0 ≤ k → k < sz → F2 k = F k) (hx : F2 sz = it) : wcR F2 sz2 1 (Q ++ itS f SP it) := by
  rw [itS_b h0]; exact h.add hs hl hk hx
theorem at_f {Q : List Int} (h : wcR F sz 1 Q) (h0 : 0 ≤ it) (hs : sz = 6000) : wcR F2 sz2 0 (Q ++ itS f SP it) := by
  rw [itS_b h0]; exact h.full hs
theorem at_n {Q : List Int} {x : Int} (h : wcR F sz ft Q) (h0 : 0 ≤ x) (hi : it = -1 - x) (hs : SP (2 * x) = -1) : wcR F sz ft (Q ++ itS f SP it) := by
  rw [hi, itS_n h0 hs, List.append_nil]; exact h
theorem at_a {Q : List Int} {x a b : Int} (h : wcR F sz 1 Q) (h0 : 0 ≤ x) (hi : it = -1 - x) (hs : ¬ SP (2 * x) = -1) (ha : SP (2 * x) = a) (hb : SP (2 * x + 1) = b) (hab : a ≤ b) (hz : sz2 = sz + (b - a)) (hl : sz2 ≤ 6000) (hk : ∀ k : Int, 0 ≤ k → k < sz → F2 k = F k) (hx : ∀ k : Int, sz ≤ k → k < sz + (b - a) → F2 k = f (a + (k - sz))) : wcR F2 sz2 1 (Q ++ itS f SP it) := by
  rw [hi, itS_g h0 hs, ha, hb]; exact h.all hab hz hl hk hx
theorem at_o {Q : List Int} {x a b : Int} (h : wcR F sz 1 Q) (h0 : 0 ≤ x) (hi : it = -1 - x) (hs : ¬ SP (2 * x) = -1) (ha : SP (2 * x) = a) (hb : SP (2 * x + 1) = b) (hab : a ≤ b) (hl : 6000 < sz + (b - a)) : wcR F2 sz2 0 (Q ++ itS f SP it) := by
  rw [hi, itS_g h0 hs, ha, hb]; exact h.over hab hl
end At
/-! the class's replace, match by match -/
theorem wcR_e {F : Int → Int} {sz a b : Int} {O : List Int} (h : wcR F sz a O) (e : a = b) : wcR F sz b O := by rw [← e]; exact h
def rcI (v : Sn) (f : Int → Int) (n fy : Int) (L : List Int) (ab : Int) (F : Int → Int) (sz ft : Int) : Prop := ∃ (k : Nat) (O : List Int), rpV (wyR v f n) fy n f L k ab O ∧ wcR F sz ft O
def rcE (v : Sn) (f : Int → Int) (n fy : Int) (L : List Int) (ab : Int) (F : Int → Int) (sz ft : Int) : Prop := ∃ (k : Nat) (O : List Int), rpV (wyR v f n) fy n f L k ab O ∧ wcR F sz ft O ∧ (ft = 0 ∨ ∀ (S : Option (Int × Gr)) (st : Int), nxP (wyR v f n) fy n ab S st → S = none)
def lsB (L : List Int) (wi : Int) : Prop := ∀ it ∈ L, 0 ≤ it ∨ 2 * (-1 - it) + 1 < wi
/-- each group that there is ends where it begins or behind it -/
def spO (SP : Int → Int) (gr : Int) : Prop := ∀ k : Int, 0 ≤ k → k ≤ gr → SP (2 * k) ≤ SP (2 * k + 1)
theorem nxP_mem {W : Int → List (Int × Gr)} {fy n ab st : Int} {x : Int × Gr} (h : nxP W fy n ab (some x) st) : x ∈ W st := by
  have key : ∀ (fr t : Int) (k : Int × Gr), fnR W fy 0 n fr n t (some k) → k ∈ W t := fun fr t k z => by
    rcases z with ⟨z, _⟩ | ⟨_, _, z2, _⟩
    · cases z
    · exact mtR_mem z2
  obtain ⟨S1, t1, h1, h2⟩ := h
  rcases h2 with ⟨_, a2⟩ | ⟨e, g, a1, a2, a3, a4⟩ | ⟨g, a1, a2, a3⟩
  · cases a2
  · rw [← a3] at h1
    rw [a4]
    exact key _ _ _ h1
  · rcases a3 with ⟨_, c2⟩ | ⟨c1, c2⟩
    · cases c2
    · exact key _ _ _ c2
theorem nxC.ge0 {v : Sn} {f SP : Int → Int} {n fy ab wi : Int} (h : nxC v f n fy ab wi 1 SP) (hb : bytes f n) (ha : -1 ≤ ab) : ab ≤ SP 0 ∧ 0 ≤ SP 0 := by
  obtain ⟨S, st, q1, q2⟩ := h
  obtain ⟨g, m1, m2⟩ := mch_1 q2
  rw [m1] at q1
  have i := nxP_in q1 (wyR_W hb) ha
  omega
section Rc
variable {v : Sn} {f F F2 SP : Int → Int} {n fy ab la e sz sz2 ft ft2 wi gr : Int} {L O : List Int} {k : Nat}
theorem rcI_0 (h : sz = 0) : rcI v f n fy L (-1) F sz 1 := ⟨0, [], ⟨rfl, rfl⟩, wcR_0 h⟩
theorem rcI_s (h : rpV (wyR v f n) fy n f L k ab O) (q : nxC v f n fy ab wi 1 SP) (hb : bytes f n) (ha : -1 ≤ ab) (hl : mxA la ab) (hL : lsB L wi) (he : e = SP 1) (hw : wcR F2 sz2 ft2 (O ++ sbR f la (SP 0) ++ exS f SP L)) : rcI v f n fy L e F2 sz2 ft2 := ⟨k + 1, _, rpV_s h q hb ha hl hL he, hw⟩
theorem rcI_o (h : rpV (wyR v f n) fy n f L k ab O) (q : nxC v f n fy ab wi 1 SP) (hb : bytes f n) (ha : -1 ≤ ab) (hl : mxA la ab) (hL : lsB L wi) (he : e = SP 1) (hw : wcR F sz 1 O) (h1 : la ≤ SP 0) (h2 : 6000 < sz + (SP 0 - la)) : rcI v f n fy L e F2 sz2 0 := rcI_s h q hb ha hl hL he (wcR.more (F := F2) (sz := sz2) (hw.over h1 h2))
theorem rcE_n (h : rcI v f n fy L ab F sz ft) (q : nxC v f n fy ab wi 0 SP) : rcE v f n fy L ab F sz ft := by
  obtain ⟨k, O, h1, h2⟩ := h
  obtain ⟨S, st, q1, q2⟩ := q
  rw [mch_0 q2] at q1
  exact ⟨k, O, h1, h2, Or.inr (nxP_none q1)⟩
theorem rcE_o (h : rcI v f n fy L ab F sz ft) (q : ft = 0) : rcE v f n fy L ab F sz ft := by
  obtain ⟨k, O, h1, h2⟩ := h
  exact ⟨k, O, h1, h2, Or.inl q⟩
theorem rcE_e (h : rcI v f n fy L ab F sz ft) (hb : bytes f n) (ha : n ≤ ab) (h0 : 0 ≤ n) : rcE v f n fy L ab F sz ft := by
  obtain ⟨k, O, h1, h2⟩ := h
  exact ⟨k, O, h1, h2, Or.inr (fun S st q => nxP_n q (wyR_W hb) ha h0)⟩
/-- where it was too much -/
theorem rc_o (h : rcE v f n fy L ab F sz ft) (q : ft = 0) : rzR v f n fy L F2 sz2 1 := by
  obtain ⟨k, O, h1, h2, _⟩ := h
  rcases h2 with ⟨z, _⟩ | ⟨_, z⟩
  · omega
  · exact Or.inr ⟨rfl, k, ab, O, h1, Or.inl z⟩
theorem rc_p (h : rpV (wyR v f n) fy n f L k ab O) (hn : ∀ (S : Option (Int × Gr)) (st : Int), nxP (wyR v f n) fy n ab S st → S = none) (hl : mxA la ab) (hw : wcR F2 sz2 ft2 (O ++ sbR f la n)) (h2 : ft2 = 0 ∨ ft2 = 1) : rzR v f n fy L F2 sz2 (1 - ft2) := by
  unfold mxA at hl
  rw [hl] at hw
  rcases hw with ⟨z, w1, w2, w3⟩ | ⟨z, w1⟩
  · rw [z]; exact Or.inl ⟨rfl, _, ⟨k, ab, O, h, hn, rfl⟩, w1, w2, w3⟩
  · rw [z]; exact Or.inr ⟨rfl, k, ab, O, h, Or.inr ⟨hn, w1⟩⟩
/-- the last piece fits -/
theorem rc_y (h : rcE v f n fy L ab F sz ft) (hf : ft = 1) (hl : mxA la ab) (h1 : la ≤ n) (hs : sz2 = sz + (n - la)) (h2 : sz2 ≤ 6000) (hk : ∀ k : Int, 0 ≤ k → k < sz → F2 k = F k) (hx : ∀ k : Int, sz ≤ k → k < sz + (n - la) → F2 k = f (la + (k - sz))) : rzR v f n fy L F2 sz2 0 := by
  obtain ⟨k, O, q1, q2, q3⟩ := h
  have q4 := q3.resolve_left (by omega)
  exact rc_p q1 q4 hl ((wcR_e q2 hf).all h1 hs h2 hk hx) (Or.inr rfl)
/-- it does not -/
theorem rc_x (h : rcE v f n fy L ab F sz ft) (hf : ft = 1) (hl : mxA la ab) (h1 : la ≤ n) (h2 : 6000 < sz + (n - la)) : rzR v f n fy L F2 sz2 1 := by
  obtain ⟨k, O, q1, q2, q3⟩ := h
  have q4 := q3.resolve_left (by omega)
  exact rc_p (ft2 := 0) q1 q4 hl ((wcR_e q2 hf).over h1 h2) (Or.inl rfl)
/-- the spans of a match -/
theorem spO_of (q : nxC v f n fy ab wi 1 SP) (hk : okN v) (hb : bytes f n) (ha : -1 ≤ ab) (hw : wi = 2 * (gr + 1)) : spO SP gr := by
  obtain ⟨S, st, q1, q2⟩ := q
  rcases q2 with ⟨_, z⟩ | ⟨e, g, m1, _, m2, m3, m4⟩
  · omega
  · rw [m1] at q1
    have i := nxP_in q1 (wyR_W hb) ha
    have o := wyR_ok hk hb i.1 (by omega) (e, g) (nxP_mem q1)
    intro k k0 k1
    by_cases c : k = 0
    · rw [c, show (2 : Int) * 0 = 0 by omega, show (0 : Int) + 1 = 1 by omega, m2, m3]
      exact i.2.1
    · rw [m4 (2 * k) (by omega) (by omega), m4 (2 * k + 1) (by omega) (by omega)]
      exact o.2 k
end Rc
theorem mnV_ok {cv : Int → Int} {lq : Nat} {v : Sn} (h : mnV cv lq v) : okN v := rdM_ok h.2
theorem lsB_of {T : Int → Int} {n GR wi : Int} {NZ : Int → Int} {NM : Int → Int → Int} {L : List Int} (h : tpL T n GR NZ NM L) (hT : bytes T n) (hg : GR ≤ 9) (hw : wi = 2 * (GR + 1)) : lsB L wi := fun it hi => by
  obtain ⟨k, h⟩ := h
  rw [hw]
  exact tmL_b (fun i a b => (hT i a b).1) hg k 0 L (Int.le_refl 0) h it hi
theorem rtE_1 {T : Int → Int} {n GR v : Int} {NZ : Int → Int} {NM : Int → Int → Int} {F : Int → Int} {sz : Int} (h : rtE T n GR NZ NM v F sz) (hv : ¬ v = 0) : ∃ L : List Int, tpL T n GR NZ NM L ∧ sz = (L.length : Int) ∧ rwL F 0 L := by
  rcases h with ⟨_, h⟩ | ⟨h, _⟩
  · exact h
  · exact absurd h hv
theorem rtE_0 {T : Int → Int} {n GR v : Int} {NZ : Int → Int} {NM : Int → Int → Int} {F : Int → Int} {sz : Int} (h : rtE T n GR NZ NM v F sz) (hv : v = 0) : tpN T n GR NZ NM := by
  rcases h with ⟨h, _⟩ | ⟨_, h⟩
  · omega
  · exact h
/-! the same template, read of another tape with other names that say the same -/
section Tcg
variable {T T2 NZ NZ2 : Int → Int} {NM NM2 : Int → Int → Int} {n GR : Int}
def tcE (T T2 NZ NZ2 : Int → Int) (NM NM2 : Int → Int → Int) (n GR : Int) : Prop := (∀ i : Int, 0 ≤ i → i < n → T i = T2 i) ∧ ∀ g : Int, 1 ≤ g → g ≤ GR → NZ g = NZ2 g ∧ ∀ j : Int, 0 ≤ j → j < NZ g → NM g j = NM2 g j
theorem tcE.symm (h : tcE T T2 NZ NZ2 NM NM2 n GR) : tcE T2 T NZ2 NZ NM2 NM n GR := ⟨fun i a b => (h.1 i a b).symm, fun g a b => by
  obtain ⟨h1, h2⟩ := h.2 g a b
  exact ⟨h1.symm, fun j j0 j1 => (h2 j j0 (by omega)).symm⟩⟩
theorem tmL_cg (h : tcE T T2 NZ NZ2 NM NM2 n GR) : ∀ (k : Nat) (p : Int) (L : List Int), 0 ≤ p → tmL T n GR NZ NM k p L → tmL T2 n GR NZ2 NM2 k p L := by
  intro k
  induction k with
  | zero => intro p L _ q; exact q
  | succ k ih =>
    intro p L p0 q
    obtain ⟨q0, it, w, L2, q1, q2, q3⟩ := q
    exact ⟨q0, it, w, L2, tmI_cg q1 ⟨p0, q0⟩ h.1 h.2, ih (p + w) L2 (by have := tmI_w q1; omega) q2, q3⟩
theorem tpL_cg {L : List Int} (h : tcE T T2 NZ NZ2 NM NM2 n GR) (q : tpL T n GR NZ NM L) : tpL T2 n GR NZ2 NM2 L := by
  obtain ⟨k, q⟩ := q
  exact ⟨k, tmL_cg h k 0 L (Int.le_refl 0) q⟩
theorem tmN_cg (h : tcE T T2 NZ NZ2 NM NM2 n GR) : ∀ (k : Nat) (p : Int), 0 ≤ p → tmN T n GR NZ NM k p → tmN T2 n GR NZ2 NM2 k p := by
  intro k
  induction k with
  | zero => intro p p0 q; exact ⟨q.1, fun it w z => q.2 it w (tmI_cg z ⟨p0, q.1⟩ h.symm.1 h.symm.2)⟩
  | succ k ih =>
    intro p p0 q
    obtain ⟨q0, it, w, q1, q2⟩ := q
    exact ⟨q0, it, w, tmI_cg q1 ⟨p0, q0⟩ h.1 h.2, ih (p + w) (by have := tmI_w q1; omega) q2⟩
theorem tpN_cg (h : tcE T T2 NZ NZ2 NM NM2 n GR) (q : tpN T n GR NZ NM) : tpN T2 n GR NZ2 NM2 := by
  obtain ⟨k, q⟩ := q
  exact ⟨k, tmN_cg h k 0 (Int.le_refl 0) q⟩
end Tcg
/-! the same subject -/
section Scg
variable {v : Sn} {f g : Int → Int} {n fy : Int} {L : List Int}
theorem sbR_cg {a b : Int} (h : ∀ k : Int, 0 ≤ k → k < n → f k = g k) (a0 : 0 ≤ a) (b1 : b ≤ n) : sbR f a b = sbR g a b := by
  by_cases c : a ≤ b
  · exact sbL_cg h (b - a).toNat a a0 (by omega)
  · rw [sbR_e (by omega), sbR_e (by omega)]
theorem exL_cg {st e : Int} {r : Gr} (h : ∀ k : Int, 0 ≤ k → k < n → f k = g k) (hs : 0 ≤ st) (he : e ≤ n) (hr : ∀ i : Int, -1 ≤ r i ∧ r i ≤ e) : exL f st e r L = exL g st e r L := by
  unfold exL
  congr 1
  funext it
  unfold itX
  split
  · rfl
  · split
    · exact sbR_cg h hs he
    · split
      · rfl
      · have t := hr (2 * (-1 - it))
        have u := hr (2 * (-1 - it) + 1)
        exact sbR_cg h (by omega) (by omega)
theorem rpV_cg (w : wpR v) (ok : okN v) (hb : bytes f n) (h : ∀ k : Int, 0 ≤ k → k < n → f k = g k) (h0 : 0 ≤ n) : ∀ (k : Nat) (ab : Int) (O : List Int), rpV (wyR v f n) fy n f L k ab O → rpV (wyR v g n) fy n g L k ab O ∧ -1 ≤ ab ∧ ab ≤ n := by
  intro k
  induction k with
  | zero => intro ab O q; exact ⟨q, by have := q.1; omega⟩
  | succ k ih =>
    intro ab O q
    obtain ⟨a0, st, r, O0, q1, q2, q3⟩ := q
    obtain ⟨i1, i2, i3⟩ := ih _ _ q1
    have n1 := nxP_in q2 (wyR_W hb) i2
    have o := wyR_ok ok hb n1.1 (by omega) (ab, r) (nxP_mem q2)
    refine ⟨⟨a0, st, r, O0, i1, by rw [← w.cg h hb]; exact q2, ?_⟩, by omega, n1.2.2.2.1⟩
    rw [q3, sbR_cg (a := max a0 0) h (by omega) (show st ≤ n by omega), exL_cg h n1.1 n1.2.2.2.1 o.1]
theorem rzR_cg {F : Int → Int} {m tm : Int} (w : wpR v) (ok : okN v) (hb : bytes f n) (h : ∀ k : Int, 0 ≤ k → k < n → f k = g k) (h0 : 0 ≤ n) (q : rzR v f n fy L F m tm) : rzR v g n fy L F m tm := by
  rcases q with ⟨z, O, ⟨k, ab, O0, q1, q2, q3⟩, q4⟩ | ⟨z, k, ab, O, q1, q2⟩
  · obtain ⟨i1, i2, i3⟩ := rpV_cg w ok hb h h0 k ab O0 q1
    refine Or.inl ⟨z, O, ⟨k, ab, O0, i1, by rw [← w.cg h hb]; exact q2, ?_⟩, q4⟩
    rw [q3, sbR_cg (a := max ab 0) h (by omega) (Int.le_refl n)]
  · obtain ⟨i1, i2, i3⟩ := rpV_cg w ok hb h h0 k ab O q1
    refine Or.inr ⟨z, k, ab, O, i1, ?_⟩
    rcases q2 with q2 | ⟨q2, q3⟩
    · exact Or.inl q2
    · refine Or.inr ⟨by rw [← w.cg h hb]; exact q2, ?_⟩
      rw [← sbR_cg (a := max ab 0) h (by omega) (Int.le_refl n)]
      exact q3
end Scg
def rzU (v : Sn) (f : Int → Int) (n fy : Int) (L : List Int) (F : Int → Int) (m tm : Int) : Prop := ∀ g : Int → Int, (∀ k : Int, 0 ≤ k → k < n → f k = g k) → rzR v g n fy L F m tm
/-- the class's names in cv -/
def cvZ (cv : Int → Int) (lq : Nat) : Int → Int := fun g => cvI cv lq (10 + g)
def cvN (cv : Int → Int) (lq : Nat) : Int → Int → Int := fun g j => cvI cv lq (20 + (g * 12 + j))
/-- what the class's replace leaves -/
def rpC (PG : Nat → Option Nat) (cv : Int → Int) (sl : Int) (f : Int → Int) (n : Int) (T : Int → Int) (tn th r ou : Int) (OU : Int → Int) : Prop := (th = 0 ∧ ((0 ≤ sl ∧ sl < 6) ∧ ∃ b : Nat, PG sl.toNat = some b) ∧ r = ou ∧ ∃ (v : Sn) (L : List Int), mnV cv (100 + 10 * sl.toNat) v ∧ tpL T tn (cvI cv (100 + 10 * sl.toNat) 0) (cvZ cv (100 + 10 * sl.toNat)) (cvN cv (100 + 10 * sl.toNat)) L ∧ rzU v f n (1 - cvI cv (100 + 10 * sl.toNat) 2 / 16) L OU ou 0)
  ∨ (th = 1 ∧ (npg PG sl ∨ (((0 ≤ sl ∧ sl < 6) ∧ ∃ b : Nat, PG sl.toNat = some b) ∧ (tpN T tn (cvI cv (100 + 10 * sl.toNat) 0) (cvZ cv (100 + 10 * sl.toNat)) (cvN cv (100 + 10 * sl.toNat)) ∨ ∃ (v : Sn) (L : List Int) (F : Int → Int) (m : Int), mnV cv (100 + 10 * sl.toNat) v ∧ tpL T tn (cvI cv (100 + 10 * sl.toNat) 0) (cvZ cv (100 + 10 * sl.toNat)) (cvN cv (100 + 10 * sl.toNat)) L ∧ rzU v f n (1 - cvI cv (100 + 10 * sl.toNat) 2 / 16) L F m 1))))
section RpC
variable {PG : Nat → Option Nat} {cv K N O RR f T OU NL NA : Int → Int} {sl n tn r ou fy fl fi hw gr z9 : Int} {b k : Nat} {v : Sn} {L : List Int}
theorem cv_tc {lq : Nat} (hiv : ivR gr z9 fl NL NA cv lq) (hn : rgs NL 10 0 12) (hg : gr ≤ 9) : tcE T T NL (cvZ cv lq) (cNM NA) (cvN cv lq) tn gr := ⟨fun _ _ _ => rfl, fun g g0 g1 => by
  obtain ⟨_, _, _, a4, a5⟩ := hiv
  have t := hn g (by omega) (by omega)
  exact ⟨(a4 g (by omega) (by omega)).symm, fun j j0 j1 => (a5 (g * 12 + j) (by omega) (by omega)).symm⟩⟩
theorem rzU_of {F : Int → Int} {m tm : Int} (hm : mnV cv (100 + 10 * k) v) (hp : prM K N O RR fi v) (hb : bytes f n) (h0 : 0 ≤ n) (h : rzR v f n fy L F m tm) : rzU v f n fy L F m tm := fun _ q => rzR_cg hp.wp (mnV_ok hm) hb q h0 h
theorem rpC_y (hk : k = sl.toNat) (hq : PG k = some b) (hs : 0 ≤ sl ∧ sl < 6) (hm : mnV cv (100 + 10 * k) v) (hp : prM K N O RR fi v) (hb : bytes f n) (h0 : 0 ≤ n) (hf : fst hw fl fy) (hw0 : hw = 0) (hfl : 0 ≤ fl ∧ fl ≤ 31) (hiv : ivR gr z9 fl NL NA cv (100 + 10 * k)) (hn : rgs NL 10 0 12) (hg : gr ≤ 9) (ht : tpL T tn gr NL (cNM NA) L) (h : rzR v f n fy L OU ou 0) (hr : r = ou) : rpC PG cv sl f n T tn 0 r ou OU := by
  subst hk
  refine Or.inl ⟨rfl, ⟨hs, b, hq⟩, hr, v, L, hm, ?_, ?_⟩
  · rw [hiv.1]; exact tpL_cg (cv_tc hiv hn hg) ht
  · rw [hiv.2.2.1, ← fy_of hf hw0 hfl]; exact rzU_of hm hp hb h0 h
theorem rpC_x {F : Int → Int} {m : Int} (hk : k = sl.toNat) (hq : PG k = some b) (hs : 0 ≤ sl ∧ sl < 6) (hm : mnV cv (100 + 10 * k) v) (hp : prM K N O RR fi v) (hb : bytes f n) (h0 : 0 ≤ n) (hf : fst hw fl fy) (hw0 : hw = 0) (hfl : 0 ≤ fl ∧ fl ≤ 31) (hiv : ivR gr z9 fl NL NA cv (100 + 10 * k)) (hn : rgs NL 10 0 12) (hg : gr ≤ 9) (ht : tpL T tn gr NL (cNM NA) L) (h : rzR v f n fy L F m 1) : rpC PG cv sl f n T tn 1 r ou OU := by
  subst hk
  refine Or.inr ⟨rfl, Or.inr ⟨⟨hs, b, hq⟩, Or.inr ⟨v, L, F, m, hm, ?_, ?_⟩⟩⟩
  · rw [hiv.1]; exact tpL_cg (cv_tc hiv hn hg) ht
  · rw [hiv.2.2.1, ← fy_of hf hw0 hfl]; exact rzU_of hm hp hb h0 h
theorem rpC_n (hk : k = sl.toNat) (hq : PG k = some b) (hs : 0 ≤ sl ∧ sl < 6) (hiv : ivR gr z9 fl NL NA cv (100 + 10 * k)) (hn : rgs NL 10 0 12) (hg : gr ≤ 9) (ht : tpN T tn gr NL (cNM NA)) : rpC PG cv sl f n T tn 1 r ou OU := by
  subst hk
  refine Or.inr ⟨rfl, Or.inr ⟨⟨hs, b, hq⟩, Or.inl ?_⟩⟩
  rw [hiv.1]; exact tpN_cg (cv_tc hiv hn hg) ht
theorem rpC_0 (h : npg PG sl) : rpC PG cv sl f n T tn 1 r ou OU := Or.inr ⟨rfl, Or.inl h⟩
end RpC
/-- names are bytes -/
def nmB (NL NA : Int → Int) (gr : Int) : Prop := ∀ g : Int, 1 ≤ g → g ≤ gr → ∀ j : Int, 0 ≤ j → j < NL g → 0 ≤ NA (g * 12 + j) ∧ NA (g * 12 + j) ≤ 255
theorem nmB_of {f RNA RNL NA NL : Int → Int} {gr n : Int} (h : bnm f RNA RNL NA NL (gr + 1)) (hb : bytes f n) (hn : nmok RNA RNL gr n) : nmB NL NA gr := fun g g0 g1 j j0 j1 => by
  obtain ⟨h1, h2⟩ := h g g0 (by omega)
  obtain ⟨n1, n2, n3, n4⟩ := hn g g0 g1
  rw [h2 j j0 (by omega)]
  exact hb _ (by omega) (by omega)
