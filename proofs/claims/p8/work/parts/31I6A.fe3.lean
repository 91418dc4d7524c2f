/-! class and reference, as they are seen, keep the same -/
def endC (n : Int) (R F : Int → Int) (s : Int) (R2 F2 : Int → Int) (s2 v : Int) : Prop := ((n < 0 ∨ 20 < n ∨ 2000 < s + n) ∧ v = -1 ∧ R2 = R ∧ F2 = F ∧ s2 = s) ∨ ((0 ≤ n ∧ n ≤ 20 ∧ s + n ≤ 2000) ∧ v = s2 ∧ s2 = s + n ∧ apT F F2 R s n ∧ zrI R2 20)
def cmpC (F : Int → Int) (s sl fl : Int) (PG : Nat → Option Nat) (s2 : Int) (PG2 : Nat → Option Nat) : Prop := (ctF F s sl fl s2 ∧ PG2 = PG) ∨ (∃ v : Int, ctK F s sl fl v ∧ s2 = 0 ∧ pgS PG PG2 (Int.toNat sl))
def cmpM (F : Int → Int) (s sc wi : Int) (th : Int → Int) (s2 : Int) (th2 : Int → Int) : Prop := ((sc < 0 ∨ 5 < sc ∨ wi < 0 ∨ 31 < wi) ∧ s2 = s ∧ th2 = th) ∨ ((0 ≤ sc ∧ sc ≤ 5 ∧ 0 ≤ wi ∧ wi ≤ 31) ∧ s2 = 0 ∧ th2 = th ∧ ∃ w r : Int, rdF F s (wi % 16) w r) ∨ (∃ v : Int, (0 ≤ sc ∧ sc ≤ 5 ∧ 0 ≤ wi ∧ wi ≤ 31) ∧ s2 = 0 ∧ th2 = zu th sc 1 ∧ ∃ (z : Int) (NS NM : Int → Int), rdN F s (wi % 16) v z NS NM)
def syn (RD FT : Int → Int) (sz : Int) (PG : Nat → Option Nat) (ry tq : Int → Int) (td : Int) (th : Int → Int) : Prop := (∀ i : Int, 0 ≤ i → i < 20 → RD i = ry i) ∧ (∀ i : Int, 0 ≤ i → i < sz → FT i = tq i) ∧ sz = td ∧ (0 ≤ sz ∧ sz ≤ 2000) ∧ thE PG th
theorem syn_0 : syn (fun _ => 0) (fun _ => 0) 0 (fun _ => none) (fun _ => 0) (fun _ => 0) 0 (fun _ => 0) := ⟨fun _ _ _ => rfl, fun _ _ _ => rfl, rfl, by decide, fun _ _ => Or.inl ⟨rfl, rfl⟩⟩
section Syn
variable {RD FT RD2 FT2 ry tq ry2 tq2 th th2 : Int → Int} {sz td sz2 td2 : Int} {PG PG2 : Nat → Option Nat}
theorem syn_feed {x1 x2 x3 x4 x5 : Int} (h : syn RD FT sz PG ry tq td th) (a : fdI RD2 x1 x2 x3 x4 x5 4) (b : fdI ry2 x1 x2 x3 x4 x5 4) : syn RD2 FT sz PG ry2 tq td th := ⟨fun _ p q => fdI_det a b p q, h.2⟩
theorem syn_zero (h : syn RD FT sz PG ry tq td th) : syn RD FT 0 PG ry tq 0 th := ⟨h.1, fun i p q => absurd p (by omega), rfl, by decide, h.2.2.2.2⟩
theorem syn_end {n v w : Int} (h : syn RD FT sz PG ry tq td th) (a : endC n RD FT sz RD2 FT2 sz2 v) (b : endC n ry tq td ry2 tq2 td2 w) : v = w ∧ (-1 ≤ v ∧ v ≤ 2000) ∧ syn RD2 FT2 sz2 PG ry2 tq2 td2 th := by
  obtain ⟨h1, h2, h3, h4, h5⟩ := h
  rcases a with ⟨a1, a2, a3, a4, a5⟩ | ⟨a1, a2, a3, a4, a5⟩ <;> rcases b with ⟨b1, b2, b3, b4, b5⟩ | ⟨b1, b2, b3, b4, b5⟩
  · rw [a3, a4, a5, b3, b4, b5]
    exact ⟨by omega, ⟨by omega, by omega⟩, h1, h2, h3, h4, h5⟩
  · exfalso; omega
  · exfalso; omega
  · refine ⟨by omega, ⟨by omega, by omega⟩, fun i p q => ?_, fun i p q => ?_, by omega, by omega, h5⟩
    · rw [a5 i p q, b5 i p q]
    · rw [← h3] at b4
      exact apT_det a4 b4 h2 h1 (by omega) i p (by omega)
theorem syn_cmp {sl fl : Int} (h : syn RD FT sz PG ry tq td th) (a : cmpC FT sz sl fl PG sz2 PG2) (b : cmpM tq td sl fl th td2 th2) : syn RD FT sz2 PG2 ry tq td2 th2 := by
  obtain ⟨h1, h2, h3, h4, h5⟩ := h
  subst h3
  rcases a with ⟨⟨a1, a2⟩ | ⟨a1, a2, w, r, a3⟩, e⟩ | ⟨v, ⟨a1, z, NA, NL, a2⟩, a3, a4⟩
  · rcases b with ⟨b1, b2, b3⟩ | ⟨b1, _⟩ | ⟨v, b1, _⟩
    · rw [a2, b2, b3, e]; exact ⟨h1, h2, rfl, h4, h5⟩
    · exfalso; omega
    · exfalso; omega
  · rcases b with ⟨b1, _⟩ | ⟨b1, b2, b3, _⟩ | ⟨v, b1, b2, b3, z, NS, NM, b4⟩
    · exfalso; omega
    · rw [a2, b2, b3, e]; exact ⟨h1, fun i p q => absurd p (by omega), rfl, by decide, h5⟩
    · exact (rd_fc (rdF_cg h2 h4.1 a3) b4).elim
  · rcases b with ⟨b1, _⟩ | ⟨b1, b2, b3, w, r, b4⟩ | ⟨v', b1, b2, b3, z', NS, NM, b4⟩
    · exfalso; omega
    · exact (rd_cf (rdC_cg h2 h4.1 a2) b4).elim
    · rw [a3, b2, b3]; exact ⟨h1, fun i p q => absurd p (by omega), rfl, by decide, thE_s h5 ⟨a1.1, a1.2.1⟩ a4.1 a4.2⟩
theorem syn_rep {x : Int} (h : syn RD FT sz PG ry tq td th) (a : pgQ PG x sz sz2) (b : thQ th x td td2) : syn RD FT sz2 PG ry tq td2 th := by
  obtain ⟨h1, h2, h3, h4, h5⟩ := h
  subst h3
  have e := thE_q h5 a b
  subst e
  have c : sz2 = 0 ∨ sz2 = sz := by rcases a with ⟨_, _, _, _, q⟩ | ⟨_, q⟩; exact Or.inl q; exact Or.inr q
  exact ⟨h1, fun i p q => h2 i p (by omega), rfl, by omega, h5⟩
end Syn
