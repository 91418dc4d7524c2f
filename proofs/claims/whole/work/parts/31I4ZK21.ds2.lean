/-! a slot's names are made anew -/
theorem nmD_cg {NZ NZ2 : Int → Int} {NM NM2 : Int → Int → Int} {GR : Int} (h : nmD NZ NM GR) (e : ∀ g : Int, 1 ≤ g → g ≤ GR → NZ2 g = NZ g ∧ ∀ j : Int, 0 ≤ j → j < NZ g → NM2 g j = NM g j) : nmD NZ2 NM2 GR := fun g g2 a1 a2 b1 b2 c1 c2 c3 => by
  obtain ⟨x1, x2⟩ := e g a1 a2
  obtain ⟨y1, y2⟩ := e g2 b1 b2
  refine h g g2 a1 a2 b1 b2 (by omega) (by omega) (fun j j0 j1 => ?_)
  rw [← x2 j j0 j1, ← y2 j j0 (by omega)]
  exact c3 j j0 (by omega)
theorem mdn_set {TH NS NM GR NS2 NM2 A Z : Int → Int} {sc nu : Int} (h : mdn TH NS NM GR) (hl : 0 ≤ sc ∧ sc ≤ 5) (hu : 0 ≤ nu ∧ nu ≤ 9) (hd : nmD Z (fun g j => A (12 * g + j)) nu) (hz : ∀ g : Int, 1 ≤ g → g ≤ nu → Z g ≤ 12) (hb : ∀ k : Int, 0 ≤ k → k < 60 → NS k ≤ 12) (hg : ∀ s : Int, 0 ≤ s → s < 6 → TH s = 1 → GR s ≤ 9) (c5 : cpS NM NM2 A (120 * sc) (120 * sc + 120) (120 * sc)) (c6 : nzI NS NS2 Z nu sc 10) : mdn (zu TH sc 1) NS2 NM2 (zu GR sc nu) := fun s s0 s1 q => by
  by_cases k : s = sc
  · subst k
    rw [zu_self]
    refine nmD_cg hd (fun g g1 g2 => ⟨?_, fun j j0 j1 => ?_⟩)
    · show NS2 (10 * s + g) = Z g
      rw [c6 (10 * s + g), if_pos (by omega), if_pos (by omega), show 10 * s + g - 10 * s = g by omega]
    · have t := hz g g1 g2
      show NM2 (120 * s + 12 * g + j) = A (12 * g + j)
      rw [c5 (120 * s + 12 * g + j), if_pos (by omega)]
      congr 1; omega
  · rw [zu_ne k] at q ⊢
    have t := hg s s0 s1 q
    refine nmD_cg (h s s0 s1 q) (fun g g1 g2 => ⟨?_, fun j j0 j1 => ?_⟩)
    · show NS2 (10 * s + g) = NS (10 * s + g)
      rw [c6 (10 * s + g), if_neg (by omega)]
    · have t2 := hb (10 * s + g) (by omega) (by omega)
      have j2 : j < NS (10 * s + g) := j1
      show NM2 (120 * s + 12 * g + j) = NM (120 * s + 12 * g + j)
      rw [c5 (120 * s + 12 * g + j), if_neg (by omega)]
