/-! the programs that are there -/
def mpg (TH T N W CA CM SM EN GR FL : Int → Int) : Prop := ∀ s : Int, 0 ≤ s → s ≤ 5 → TH s = 1 → (0 ≤ SM s ∧ SM s ≤ 12500) ∧ (0 ≤ EN s ∧ EN s < SM s) ∧ (0 ≤ GR s ∧ GR s ≤ 9) ∧ (0 ≤ FL s ∧ FL s ≤ 31) ∧ sgood T N W CA CM (12500 * s) (SM s)
/-! a template: the group at a place, and how wide it is -/
def gsz (T : Int → Int) (n p z : Int) : Prop := 0 ≤ z ∧ (∀ j : Int, 0 ≤ j → j < z → p + 2 + j < n ∧ ¬ T (p + 2 + j) = 125) ∧ (n ≤ p + 2 + z ∨ T (p + 2 + z) = 125)
def gsame (T NS NM : Int → Int) (s p z g : Int) : Prop := 0 < z ∧ NS (10 * s + g) = z ∧ ∀ k : Int, 0 ≤ k → k < z → NM (120 * s + 12 * g + k) = T (p + 2 + k)
def gok (T NS NM GR : Int → Int) (s n p : Int) : Prop := p + 1 < n ∧ (T (p + 1) = 36 ∨ (48 ≤ T (p + 1) ∧ T (p + 1) ≤ 57 ∧ T (p + 1) - 48 ≤ GR s) ∨ (T (p + 1) = 123 ∧ ∃ z : Int, gsz T n p z ∧ p + 2 + z < n ∧ ∃ g : Int, 1 ≤ g ∧ g ≤ GR s ∧ gsame T NS NM s p z g))
def gwd (T : Int → Int) (n p w : Int) : Prop := ((p + 1 < n ∧ T (p + 1) = 123) ∧ ∃ z : Int, gsz T n p z ∧ w = 3 + z) ∨ (¬ (p + 1 < n ∧ T (p + 1) = 123) ∧ w = 2)
theorem gsz_fun {T : Int → Int} {n p z y : Int} (h : gsz T n p z) (h2 : gsz T n p y) : z = y := by
  obtain ⟨a, b, c⟩ := h
  obtain ⟨a2, b2, c2⟩ := h2
  rcases Int.lt_or_le z y with q | q
  · have t := b2 z a q; omega
  · rcases Int.lt_or_le y z with r | r
    · have t := b y a2 r; omega
    · omega
theorem gwd_fun {T : Int → Int} {n p w v : Int} (h : gwd T n p w) (h2 : gwd T n p v) : w = v := by
  rcases h with ⟨a, z, hz, e⟩ | ⟨a, e⟩ <;> rcases h2 with ⟨a2, y, hy, e2⟩ | ⟨a2, e2⟩
  · have := gsz_fun hz hy; omega
  · exact absurd a a2
  · exact absurd a2 a
  · omega
/-- so far nothing but what is not } -/
def gsc (T : Int → Int) (n p z : Int) : Prop := 0 ≤ z ∧ ∀ j : Int, 0 ≤ j → j < z → p + 2 + j < n ∧ ¬ T (p + 2 + j) = 125
theorem gsc_0 {T : Int → Int} {n p : Int} : gsc T n p 0 := ⟨Int.le_refl _, fun j a c => by omega⟩
theorem gsc_s {T : Int → Int} {n p z : Int} (h : gsc T n p z) (h1 : p + 2 + z < n) (h2 : ¬ T (p + 2 + z) = 125) : gsc T n p (z + 1) := ⟨by have := h.1; omega, fun j a c => by
  by_cases e : j = z
  · subst e; exact ⟨h1, h2⟩
  · exact h.2 j a (by omega)⟩
/-- the first k bytes are the name's -/
def gpre (T NM : Int → Int) (s p g k : Int) : Prop := ∀ j : Int, 0 ≤ j → j < k → NM (120 * s + 12 * g + j) = T (p + 2 + j)
theorem gpre_0 {T NM : Int → Int} {s p g : Int} : gpre T NM s p g 0 := fun j a c => by omega
theorem gpre_s {T NM : Int → Int} {s p g k : Int} (h : gpre T NM s p g k) (h1 : NM (120 * s + 12 * g + k) = T (p + 2 + k)) : gpre T NM s p g (k + 1) := fun j a c => by
  by_cases e : j = k
  · subst e; exact h1
  · exact h j a (by omega)
def gnone (T NS NM : Int → Int) (s p z g : Int) : Prop := ∀ j : Int, 1 ≤ j → j < g → ¬ gsame T NS NM s p z j
theorem gnone_0 {T NS NM : Int → Int} {s p z : Int} : gnone T NS NM s p z 1 := fun j a c => by omega
theorem gnone_s {T NS NM : Int → Int} {s p z g : Int} (h : gnone T NS NM s p z g) (h1 : ¬ gsame T NS NM s p z g) : gnone T NS NM s p z (g + 1) := fun j a c => by
  by_cases e : j = g
  · subst e; exact h1
  · exact h j a (by omega)
theorem gok_no {T NS NM GR : Int → Int} {s n p z g : Int} (hz : gsz T n p z) (h : gnone T NS NM s p z g) (hg : GR s < g) (hc : T (p + 1) = 123) : ¬ gok T NS NM GR s n p := by
  rintro ⟨_, q | q | ⟨q, y, hy, hl, i, i1, i2, i3⟩⟩
  · omega
  · omega
  · have e := gsz_fun hz hy
    subst e
    exact h i i1 (by omega) i3
theorem gok_no2 {T NS NM GR : Int → Int} {s n p z : Int} (hz : gsz T n p z) (h : n ≤ p + 2 + z) (hc : T (p + 1) = 123) : ¬ gok T NS NM GR s n p := by
  rintro ⟨_, q | q | ⟨q, y, hy, hl, i, i1, i2, i3⟩⟩
  · omega
  · omega
  · have e := gsz_fun hz hy
    omega
theorem gok_no3 {T NS NM GR : Int → Int} {s n p : Int} (h : ¬ (p + 1 < n) ∨ (¬ T (p + 1) = 36 ∧ ¬ T (p + 1) = 123 ∧ ¬ (48 ≤ T (p + 1) ∧ T (p + 1) ≤ 57 ∧ T (p + 1) - 48 ≤ GR s))) : ¬ gok T NS NM GR s n p := by
  rintro ⟨a, q | q | ⟨q, _⟩⟩
  · rcases h with h | h
    · exact h a
    · exact h.1 q
  · rcases h with h | h
    · exact h a
    · exact h.2.2 q
  · rcases h with h | h
    · exact h a
    · exact h.2.1 q
/-- all places of a template that are come to, from its begin to p -/
def tvs (T NS NM GR : Int → Int) (s n p : Int) : Prop := 0 ≤ p ∧ ∃ V : Int → Prop, V 0 ∧ V p ∧ ∀ q : Int, V q → 0 ≤ q ∧ (q = p ∨ (q < p ∧ (¬ T q = 36 → V (q + 1)) ∧ (T q = 36 → gok T NS NM GR s n q ∧ ∀ w : Int, gwd T n q w → V (q + w))))
def tgd (T NS NM GR : Int → Int) (s n : Int) (V : Int → Prop) : Prop := V 0 ∧ ∀ q : Int, V q → 0 ≤ q ∧ (q < n → (¬ T q = 36 → V (q + 1)) ∧ (T q = 36 → gok T NS NM GR s n q ∧ ∀ w : Int, gwd T n q w → V (q + w)))
section Templates
variable {T NS NM GR : Int → Int} {s n p : Int}
theorem tvs_0 : tvs T NS NM GR s n 0 := ⟨Int.le_refl _, fun q => q = 0, rfl, rfl, fun q h => by subst h; exact ⟨Int.le_refl _, Or.inl rfl⟩⟩
theorem tvs_1 (h : tvs T NS NM GR s n p) (ht : ¬ T p = 36) : tvs T NS NM GR s n (p + 1) := by
  obtain ⟨hp, V, v0, vp, hv⟩ := h
  refine ⟨by omega, fun q => V q ∨ q = p + 1, Or.inl v0, Or.inr rfl, fun q hq => ?_⟩
  rcases hq with hq | hq
  · obtain ⟨a, c⟩ := hv q hq
    refine ⟨a, Or.inr ?_⟩
    rcases c with c | ⟨c, d, e⟩
    · subst c; exact ⟨by omega, fun _ => Or.inr rfl, fun z => absurd z ht⟩
    · exact ⟨by omega, fun z => Or.inl (d z), fun z => ⟨(e z).1, fun w hw => Or.inl ((e z).2 w hw)⟩⟩
  · subst hq; exact ⟨by omega, Or.inl rfl⟩
theorem tvs_w {w : Int} (h : tvs T NS NM GR s n p) (ht : T p = 36) (hg : gok T NS NM GR s n p) (hw : gwd T n p w) (h0 : 0 < w) : tvs T NS NM GR s n (p + w) := by
  obtain ⟨hp, V, v0, vp, hv⟩ := h
  refine ⟨by omega, fun q => V q ∨ q = p + w, Or.inl v0, Or.inr rfl, fun q hq => ?_⟩
  rcases hq with hq | hq
  · obtain ⟨a, c⟩ := hv q hq
    refine ⟨a, Or.inr ?_⟩
    rcases c with c | ⟨c, d, e⟩
    · subst c; exact ⟨by omega, fun z => absurd ht z, fun _ => ⟨hg, fun v hv => Or.inr (by rw [gwd_fun hv hw])⟩⟩
    · exact ⟨by omega, fun z => Or.inl (d z), fun z => ⟨(e z).1, fun w hw => Or.inl ((e z).2 w hw)⟩⟩
  · subst hq; exact ⟨by omega, Or.inl rfl⟩
theorem tvs_e (h : tvs T NS NM GR s n p) (hn : n ≤ p) : ∃ V : Int → Prop, tgd T NS NM GR s n V := by
  obtain ⟨hp, V, v0, vp, hv⟩ := h
  refine ⟨V, v0, fun q hq => ⟨(hv q hq).1, fun hl => ?_⟩⟩
  rcases (hv q hq).2 with c | ⟨c, d, e⟩
  · omega
  · exact ⟨d, e⟩
end Templates
