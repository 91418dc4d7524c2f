/-! the ends of a pair, by what its state does -/
section EnT
variable {tg a b : Int → Int} {mm : Int → Int → Prop} {f : Int → Int} {n s p e : Int} {g : Gr} {L : List (Int × Gr)}
theorem EN_0 (t : tg s = 0) (c : 0 ≤ u8 f n p ∧ mm s (u8 f n p)) (h : WW tg a b mm f n s p g L) : EN tg a b mm f n s p e ↔ EN tg a b mm f n (a s) (p + wd (u8 f n p)) e := by
  rw [EN_of h, EN_of (ww_i0 t c h)]
theorem EN_0n (t : tg s = 0) (c : ¬ (0 ≤ u8 f n p ∧ mm s (u8 f n p))) (h : WW tg a b mm f n s p g L) : ¬ EN tg a b mm f n s p e := by
  rw [EN_of h, ww_i0n t c h]
  exact List.not_mem_nil
theorem EN_1 (t : tg s = 1) (c : p < n) (h : WW tg a b mm f n s p g L) : EN tg a b mm f n s p e ↔ EN tg a b mm f n (a s) (p + 1) e := by
  rw [EN_of h, EN_of (ww_i1 t c h)]
theorem EN_1n (t : tg s = 1) (c : ¬ p < n) (h : WW tg a b mm f n s p g L) : ¬ EN tg a b mm f n s p e := by
  rw [EN_of h, ww_i1n t c h]
  exact List.not_mem_nil
theorem EN_2 (t : tg s = 2) (c : hld f n p (b s)) (h : WW tg a b mm f n s p g L) : EN tg a b mm f n s p e ↔ EN tg a b mm f n (a s) p e := by
  rw [EN_of h, EN_of (ww_i2 t c h)]
theorem EN_2n (t : tg s = 2) (c : ¬ hld f n p (b s)) (h : WW tg a b mm f n s p g L) : ¬ EN tg a b mm f n s p e := by
  rw [EN_of h, ww_i2n t c h]
  exact List.not_mem_nil
theorem EN_3 (t : tg s = 3) (h : WW tg a b mm f n s p g L) : EN tg a b mm f n s p e ↔ EN tg a b mm f n (a s) p e ∨ EN tg a b mm f n (b s) p e := by
  obtain ⟨L1, L2, h1, h2, h3⟩ := ww_i3 t h
  rw [EN_of h, EN_of h1, EN_of h2, h3, List.map_append, List.mem_append]
theorem EN_4 (t : tg s = 4) (h : WW tg a b mm f n s p g L) : EN tg a b mm f n s p e ↔ EN tg a b mm f n (a s) p e := by
  rw [EN_of h, EN_of (ww_i4 t h)]
theorem EN_5 (t : tg s = 5) : EN tg a b mm f n s p e ↔ e = p := by
  rw [EN_of (ww_end (g := fun _ => 0) t)]
  exact List.mem_singleton
theorem EN_6 (t : tg s = 6) : ¬ EN tg a b mm f n s p e := by
  rw [EN_of (ww_dead (g := fun _ => 0) t)]
  exact List.not_mem_nil
/-- ends lie ahead -/
theorem EN_ge (hb : bytes f n) : ∀ (m : Nat) (s p : Int) (g : Gr) (L : List (Int × Gr)), 0 ≤ p → p ≤ n → WL tg a b mm f n m s p g L → ∀ x ∈ L, p ≤ x.1 ∧ x.1 ≤ n := by
  intro m
  induction m with
  | zero => intro s p g L _ _ h; exact h.elim
  | succ m ih =>
    intro s p g L p0 p1 h x hx
    rcases h with ⟨t, h | h⟩ | ⟨t, h | h⟩ | ⟨t, h | h⟩ | ⟨t, L1, L2, h1, h2, h3⟩ | ⟨t, h⟩ | ⟨t, h⟩ | ⟨t, h⟩
    · have w := u8_w (p := p) hb (by omega)
      have w2 := wd_in (u8 f n p)
      have q := ih _ _ _ _ (by omega) (by omega) h.2 x hx
      omega
    · rw [h.2] at hx; exact absurd hx List.not_mem_nil
    · have q := ih _ _ _ _ (by omega) (by omega) h.2 x hx
      omega
    · rw [h.2] at hx; exact absurd hx List.not_mem_nil
    · exact ih _ _ _ _ p0 p1 h.2 x hx
    · rw [h.2] at hx; exact absurd hx List.not_mem_nil
    · rw [h3] at hx
      rcases List.mem_append.mp hx with hx | hx
      · exact ih _ _ _ _ p0 p1 h1 x hx
      · exact ih _ _ _ _ p0 p1 h2 x hx
    · exact ih _ _ _ _ p0 p1 h x hx
    · rw [h] at hx
      have e := List.mem_singleton.mp hx
      rw [e]; exact ⟨Int.le_refl _, p1⟩
    · rw [h] at hx; exact absurd hx List.not_mem_nil
theorem EN.ge (h : EN tg a b mm f n s p e) (hb : bytes f n) (p0 : 0 ≤ p) (p1 : p ≤ n) : p ≤ e ∧ e ≤ n := by
  obtain ⟨g, L, ⟨m, h1⟩, h2⟩ := h
  obtain ⟨x, hx, he⟩ := List.mem_map.mp h2
  rw [← he]
  exact EN_ge hb m s p g L p0 p1 h1 x hx
/-- some way from here comes to an end as A asks -/
def CN (tg a b : Int → Int) (mm : Int → Int → Prop) (f : Int → Int) (n : Int) (A : Int → Prop) (s p : Int) : Prop := ∃ e, EN tg a b mm f n s p e ∧ A e
/-- rows that are closed under the steps have all that lead to an end: B places ahead, X here -/
theorem CN_all {A : Int → Prop} {B : Int → Int → Prop} {cnt : Int} (h5 : ∀ s p, 0 ≤ s → s < cnt → tg s = 5 → A p → B s p) (h0 : ∀ s p, 0 ≤ s → s < cnt → tg s = 0 → 0 ≤ u8 f n p ∧ mm s (u8 f n p) → B (a s) (p + wd (u8 f n p)) → B s p) (h1 : ∀ s p, 0 ≤ s → s < cnt → tg s = 1 → p < n → B (a s) (p + 1) → B s p) (h2 : ∀ s p, 0 ≤ s → s < cnt → tg s = 2 → hld f n p (b s) → B (a s) p → B s p) (h3 : ∀ s p, 0 ≤ s → s < cnt → tg s = 3 → B (a s) p ∨ B (b s) p → B s p) (h4 : ∀ s p, 0 ≤ s → s < cnt → tg s = 4 → B (a s) p → B s p) (hc : ∀ s, 0 ≤ s → s < cnt → (0 ≤ a s ∧ a s < cnt ∨ tg s = 5 ∨ tg s = 6) ∧ (tg s = 3 → 0 ≤ b s ∧ b s < cnt)) : ∀ (m : Nat) (s p : Int) (g : Gr) (L : List (Int × Gr)), 0 ≤ s → s < cnt → WL tg a b mm f n m s p g L → (∃ x ∈ L, A x.1) → B s p := by
  intro m
  induction m with
  | zero => intro s p g L _ _ h; exact h.elim
  | succ m ih =>
    intro s p g L s0 s1 h ⟨x, hx, hA⟩
    obtain ⟨c1, c2⟩ := hc s s0 s1
    rcases h with ⟨t, h | h⟩ | ⟨t, h | h⟩ | ⟨t, h | h⟩ | ⟨t, L1, L2, q1, q2, q3⟩ | ⟨t, h⟩ | ⟨t, h⟩ | ⟨t, h⟩
    · exact h0 s p s0 s1 t h.1 (ih _ _ _ _ (by omega) (by omega) h.2 ⟨x, hx, hA⟩)
    · rw [h.2] at hx; exact absurd hx List.not_mem_nil
    · exact h1 s p s0 s1 t h.1 (ih _ _ _ _ (by omega) (by omega) h.2 ⟨x, hx, hA⟩)
    · rw [h.2] at hx; exact absurd hx List.not_mem_nil
    · exact h2 s p s0 s1 t h.1 (ih _ _ _ _ (by omega) (by omega) h.2 ⟨x, hx, hA⟩)
    · rw [h.2] at hx; exact absurd hx List.not_mem_nil
    · rw [q3] at hx
      have d := c2 t
      rcases List.mem_append.mp hx with hx | hx
      · exact h3 s p s0 s1 t (Or.inl (ih _ _ _ _ (by omega) (by omega) q1 ⟨x, hx, hA⟩))
      · exact h3 s p s0 s1 t (Or.inr (ih _ _ _ _ (by omega) (by omega) q2 ⟨x, hx, hA⟩))
    · exact h4 s p s0 s1 t (ih _ _ _ _ (by omega) (by omega) h ⟨x, hx, hA⟩)
    · rw [h] at hx
      have e := List.mem_singleton.mp hx
      rw [e] at hA
      exact h5 s p s0 s1 t hA
    · rw [h] at hx; exact absurd hx List.not_mem_nil
end EnT
