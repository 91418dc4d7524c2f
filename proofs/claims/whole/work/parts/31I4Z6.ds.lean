/-! no two groups of a pattern have one name -/
def dsN (f na nl : Int → Int) (grp : Int) : Prop := ∀ g g2 : Int, 1 ≤ g → g < g2 → g2 ≤ grp → 0 < nl g → nl g = nl g2 → (∀ j : Int, 0 ≤ j → j < nl g → f (na g + j) = f (na g2 + j)) → False
theorem dsN_s {f na nl : Int → Int} {grp b le : Int} (h : dsN f na nl grp) (hn : 0 < le → ∀ j : Int, 1 ≤ j → j < grp + 1 → ¬ gnm f na nl j b le) : dsN f (zu na (grp + 1) b) (zu nl (grp + 1) le) (grp + 1) := by
  intro g g2 h1 h2 h3 h4 h5 h6
  have g1 : ¬ g = grp + 1 := by omega
  rw [zu_ne g1] at h4 h5
  by_cases c : g2 = grp + 1
  · rw [c, zu_self] at h5
    refine hn (by omega) g h1 (by omega) ⟨h5, fun j j0 j1 => ?_⟩
    have t := h6 j j0 (by rw [zu_ne g1]; omega)
    rw [zu_ne g1, c, zu_self] at t
    exact t
  · rw [zu_ne c] at h5
    refine h g g2 h1 h2 (by omega) h4 h5 (fun j j0 j1 => ?_)
    have t := h6 j j0 (by rw [zu_ne g1]; exact j1)
    rw [zu_ne g1, zu_ne c] at t
    exact t
theorem rsc_ds {f : Int → Int} {n fl : Int} : ∀ (k : Nat) (p flg grp rp ls : Int) (na nl : Int → Int) (fr : List Fr), rsc f n fl k (p, flg, grp, na, nl, fr, rp, ls) → 0 ≤ grp ∧ dsN f na nl grp := by
  intro k
  induction k with
  | zero =>
    intro p flg grp rp ls na nl fr q
    have q : (p, flg, grp, na, nl, fr, rp, ls) = st0 fl := q
    unfold st0 at q
    cases q
    exact ⟨Int.le_refl _, fun g g2 h1 h2 h3 => by omega⟩
  | succ k ih =>
    intro p flg grp rp ls na nl fr q
    obtain ⟨⟨p1, flg1, grp1, na1, nl1, fr1, rp1, ls1⟩, q1, q2⟩ := q
    obtain ⟨y1, y2⟩ := ih _ _ _ _ _ _ _ _ q1
    rcases q2 with ⟨_, _, a4, a5, a6⟩ | ⟨a1, _, _⟩ | ⟨_, _, _, _, _, a5, a6, a7⟩
    · rw [a4, a5, a6]; exact ⟨y1, y2⟩
    · rcases a1 with ⟨_, ⟨_, _, b3, b4, b5⟩, _⟩ | ⟨_, _, _, ⟨_, _, b3, b4, b5⟩, _⟩ | ⟨_, _, _, nm, ⟨_, _, b6⟩, _, ⟨_, _, b3, b4, b5⟩, _⟩ | ⟨_, _, _, e, _, ⟨_, b3, b4, b5⟩, _⟩
      · rw [b3, b4, b5]; exact ⟨y1, y2⟩
      · rw [b3, b4, b5]
        exact ⟨by omega, dsN_s y2 (fun z => by omega)⟩
      · rw [b3, b4, b5]
        refine ⟨by omega, dsN_s y2 (fun _ j j0 j1 => ?_)⟩
        rcases b6 with ⟨_, b6⟩ | ⟨b6, _⟩
        · exact b6 j j0 j1
        · exact absurd b6 (by decide)
      · rw [b3, b4, b5]; exact ⟨y1, y2⟩
    · rw [a5, a6, a7]; exact ⟨y1, y2⟩
theorem rdK_ds {f : Int → Int} {n fl grp sz : Int} {na nl : Int → Int} (h : rdK f n fl grp sz na nl) : dsN f na nl grp := by
  obtain ⟨k, ⟨p, flg, g, na1, nl1, fr, rp, ls⟩, h1, _, _, h3, h4, h5⟩ := h
  rw [h3, h4, h5]
  exact (rsc_ds k _ _ _ _ _ _ _ _ h1).2
/-- the reference's names of a pattern: at 12 * k -/
theorem rdN_ds {f : Int → Int} {n fl grp sz : Int} {NS NM : Int → Int} (h : rdN f n fl grp sz NS NM) : nmD NM (fun g j => NS (12 * g + j)) grp := by
  obtain ⟨na, nl, h1, h2⟩ := h
  have d := rdK_ds h1
  intro g g2 a1 a2 b1 b2 c1 c2 c3
  obtain ⟨m1, m2⟩ := h2 g a1 a2
  obtain ⟨k1, k2⟩ := h2 g2 b1 b2
  rcases Int.lt_trichotomy g g2 with z | z | z
  · exfalso
    refine d g g2 a1 z b2 (by omega) (by omega) (fun j j0 j1 => ?_)
    rw [← m2 j j0 j1, ← k2 j j0 (by omega)]
    exact c3 j j0 (by omega)
  · exact z
  · exfalso
    refine d g2 g b1 z a2 (by omega) (by omega) (fun j j0 j1 => ?_)
    rw [← m2 j j0 (by omega), ← k2 j j0 j1]
    exact (c3 j j0 (by omega)).symm
