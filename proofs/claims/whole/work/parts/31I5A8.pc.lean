/-! how many pairs of a state and a place are not marked -/
noncomputable def pcI (E : Int → Int → Prop) (s p : Int) : Int := @ite Int (E s p) (Classical.propDecidable _) 0 1
theorem pcI_t {E : Int → Int → Prop} {s p : Int} (h : E s p) : pcI E s p = 0 := if_pos h
theorem pcI_f {E : Int → Int → Prop} {s p : Int} (h : ¬ E s p) : pcI E s p = 1 := if_neg h
theorem pcI_b (E : Int → Int → Prop) (s p : Int) : 0 ≤ pcI E s p ∧ pcI E s p ≤ 1 := by
  by_cases h : E s p
  · rw [pcI_t h]; omega
  · rw [pcI_f h]; omega
theorem pcI_c {E E2 : Int → Int → Prop} {s p : Int} (h : E2 s p ↔ E s p) : pcI E2 s p = pcI E s p := by
  by_cases q : E s p
  · rw [pcI_t q, pcI_t (h.mpr q)]
  · rw [pcI_f q, pcI_f (fun z => q (h.mp z))]
noncomputable def pcS (E : Int → Int → Prop) (p : Int) : Nat → Int
  | 0 => 0
  | m + 1 => pcS E p m + pcI E (m : Int) p
noncomputable def pcT (E : Int → Int → Prop) (W : Nat) : Nat → Int
  | 0 => 0
  | m + 1 => pcT E W m + pcS E (m : Int) W
theorem pcS_b (E : Int → Int → Prop) (p : Int) (m : Nat) : 0 ≤ pcS E p m ∧ pcS E p m ≤ (m : Int) := by
  induction m with
  | zero => exact ⟨by show (0 : Int) ≤ 0; omega, by show (0 : Int) ≤ 0; omega⟩
  | succ m ih =>
    have := pcI_b E (m : Int) p
    show 0 ≤ pcS E p m + pcI E (m : Int) p ∧ pcS E p m + pcI E (m : Int) p ≤ ((m + 1 : Nat) : Int)
    omega
theorem pcS_c {E E2 : Int → Int → Prop} {p : Int} (m : Nat) (h : ∀ s : Int, 0 ≤ s → s < (m : Int) → (E2 s p ↔ E s p)) : pcS E2 p m = pcS E p m := by
  induction m with
  | zero => rfl
  | succ m ih =>
    show pcS E2 p m + pcI E2 (m : Int) p = pcS E p m + pcI E (m : Int) p
    rw [ih (fun s a b => h s a (by omega)), pcI_c (h (m : Int) (by omega) (by omega))]
theorem pcS_1 {E E2 : Int → Int → Prop} {x p : Int} (m : Nat) (hx : 0 ≤ x ∧ x < (m : Int)) (hn : ¬ E x p) (h : ∀ s : Int, 0 ≤ s → s < (m : Int) → (E2 s p ↔ E s p ∨ s = x)) : pcS E2 p m + 1 = pcS E p m := by
  induction m with
  | zero => omega
  | succ m ih =>
    show pcS E2 p m + pcI E2 (m : Int) p + 1 = pcS E p m + pcI E (m : Int) p
    by_cases e : x = (m : Int)
    · have h1 : pcS E2 p m = pcS E p m := pcS_c m (fun s a b => (h s a (by omega)).trans ⟨fun z => z.elim id (fun q => absurd q (by omega)), Or.inl⟩)
      rw [h1, pcI_t ((h (m : Int) (by omega) (by omega)).mpr (Or.inr e.symm)), pcI_f (by rw [← e]; exact hn)]
      omega
    · have h1 := ih ⟨hx.1, by omega⟩ (fun s a b => h s a (by omega))
      have h2 : pcI E2 (m : Int) p = pcI E (m : Int) p := pcI_c ((h (m : Int) (by omega) (by omega)).trans ⟨fun z => z.elim id (fun q => absurd q (fun q => e q.symm)), Or.inl⟩)
      rw [h2]
      omega
theorem pcT_c {E E2 : Int → Int → Prop} (W m : Nat) (h : ∀ s p : Int, 0 ≤ s → s < (W : Int) → 0 ≤ p → p < (m : Int) → (E2 s p ↔ E s p)) : pcT E2 W m = pcT E W m := by
  induction m with
  | zero => rfl
  | succ m ih =>
    show pcT E2 W m + pcS E2 (m : Int) W = pcT E W m + pcS E (m : Int) W
    rw [ih (fun s p a b c d => h s p a b c (by omega)), pcS_c W (fun s a b => h s (m : Int) a b (by omega) (by omega))]
theorem pcT_1 {E E2 : Int → Int → Prop} {x q : Int} (W m : Nat) (hx : 0 ≤ x ∧ x < (W : Int)) (hq : 0 ≤ q ∧ q < (m : Int)) (hn : ¬ E x q) (h : ∀ s p : Int, 0 ≤ s → s < (W : Int) → (E2 s p ↔ E s p ∨ (s = x ∧ p = q))) : pcT E2 W m + 1 = pcT E W m := by
  induction m with
  | zero => omega
  | succ m ih =>
    show pcT E2 W m + pcS E2 (m : Int) W + 1 = pcT E W m + pcS E (m : Int) W
    by_cases e : q = (m : Int)
    · have h1 : pcT E2 W m = pcT E W m := pcT_c W m (fun s p a b c d => (h s p a b).trans ⟨fun z => z.elim id (fun w => absurd w.2 (by omega)), Or.inl⟩)
      have h2 : pcS E2 (m : Int) W + 1 = pcS E (m : Int) W := pcS_1 W hx (by rw [← e]; exact hn) (fun s a b => (h s (m : Int) a b).trans ⟨fun z => z.imp id (fun w => w.1), fun z => z.imp id (fun w => ⟨w, e.symm⟩)⟩)
      rw [h1]
      omega
    · have h1 := ih ⟨hq.1, by omega⟩
      have h2 : pcS E2 (m : Int) W = pcS E (m : Int) W := pcS_c W (fun s a b => (h s (m : Int) a b).trans ⟨fun z => z.elim id (fun w => absurd w.2 (fun w => e w.symm)), Or.inl⟩)
      rw [h2]
      omega
theorem pcT_b (E : Int → Int → Prop) (W m : Nat) : 0 ≤ pcT E W m ∧ pcT E W m ≤ (W : Int) * (m : Int) := by
  induction m with
  | zero => exact ⟨by show (0 : Int) ≤ 0; omega, by show (0 : Int) ≤ (W : Int) * ((0 : Nat) : Int); rw [Int.natCast_zero, Int.mul_zero]; omega⟩
  | succ m ih =>
    have h1 := pcS_b E (m : Int) W
    show 0 ≤ pcT E W m + pcS E (m : Int) W ∧ pcT E W m + pcS E (m : Int) W ≤ (W : Int) * ((m + 1 : Nat) : Int)
    have h2 : (W : Int) * ((m + 1 : Nat) : Int) = (W : Int) * (m : Int) + (W : Int) := by rw [Int.natCast_add, Int.mul_add, Int.natCast_one, Int.mul_one]
    omega
theorem pcS_0 {E : Int → Int → Prop} {p : Int} (m : Nat) (h : pcS E p m = 0) : ∀ s : Int, 0 ≤ s → s < (m : Int) → E s p := by
  induction m with
  | zero => intro s a b; omega
  | succ m ih =>
    intro s a b
    have h1 := pcS_b E p m
    have h2 := pcI_b E (m : Int) p
    have h3 : pcS E p m + pcI E (m : Int) p = 0 := h
    by_cases e : s = (m : Int)
    · by_cases c : E s p
      · exact c
      · rw [e] at c
        have := pcI_f c
        omega
    · exact ih (by omega) s a (by omega)
theorem pcT_0 {E : Int → Int → Prop} (W m : Nat) (h : pcT E W m = 0) : ∀ s p : Int, 0 ≤ s → s < (W : Int) → 0 ≤ p → p < (m : Int) → E s p := by
  induction m with
  | zero => intro s p _ _ a b; omega
  | succ m ih =>
    intro s p s0 s1 p0 p1
    have h1 := pcT_b E W m
    have h2 := pcS_b E (m : Int) W
    have h3 : pcT E W m + pcS E (m : Int) W = 0 := h
    by_cases e : p = (m : Int)
    · rw [e]
      exact pcS_0 W (by omega) s s0 s1
    · exact ih (by omega) s p s0 s1 p0 (by omega)
/-- of the program's own states -/
noncomputable def ucc (M : Int → Int) (w df cnt n : Int) : Int := pcT (eff M w df) cnt.toNat (n + 1).toNat
section Ucc
variable {M M2 : Int → Int} {w df df2 cnt n x p : Int}
theorem ucc_1 (hc : cnt ≤ 32 * w) (hx : 0 ≤ x ∧ x < cnt) (hp : 0 ≤ p ∧ p ≤ n) (hn : ¬ eff M w df x p) (h : ∀ s' p' : Int, 0 ≤ s' → s' < 32 * w → (eff M2 w df2 s' p' ↔ eff M w df s' p' ∨ (s' = x ∧ p' = p))) : ucc M2 w df2 cnt n + 1 = ucc M w df cnt n := pcT_1 cnt.toNat (n + 1).toNat (by omega) (by omega) hn (fun s q a b => h s q a (by omega))
theorem ucc_0 (hc : cnt ≤ 32 * w) (he : eff M w df x p) (h : ∀ s' p' : Int, 0 ≤ s' → s' < 32 * w → (eff M2 w df2 s' p' ↔ eff M w df s' p' ∨ (s' = x ∧ p' = p))) : ucc M2 w df2 cnt n = ucc M w df cnt n := pcT_c cnt.toNat (n + 1).toNat (fun s q a b _ _ => (h s q a (by omega)).trans ⟨fun z => z.elim id (fun e => by rw [e.1, e.2]; exact he), Or.inl⟩)
theorem ucc_b (hc : 0 ≤ cnt) (hn : 0 ≤ n) : 0 ≤ ucc M w df cnt n ∧ ucc M w df cnt n ≤ cnt * (n + 1) := by
  have h := pcT_b (eff M w df) cnt.toNat (n + 1).toNat
  refine ⟨h.1, Int.le_trans h.2 ?_⟩
  rw [Int.toNat_of_nonneg hc, Int.toNat_of_nonneg (by omega)]
  exact Int.le_refl _
theorem ucc_z (h : ucc M w df cnt n ≤ 0) (hx : 0 ≤ x ∧ x < cnt) (hp : 0 ≤ p ∧ p ≤ n) : eff M w df x p := by
  have b := pcT_b (eff M w df) cnt.toNat (n + 1).toNat
  have e : pcT (eff M w df) cnt.toNat (n + 1).toNat = 0 := by
    have : ucc M w df cnt n = pcT (eff M w df) cnt.toNat (n + 1).toNat := rfl
    omega
  exact pcT_0 _ _ e x p hx.1 (by omega) hp.1 (by omega)
end Ucc
