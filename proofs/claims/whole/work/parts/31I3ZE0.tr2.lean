/-! the reference's leaves -/
theorem clno_0 {P : Int → Prop} {x : Int} : clno 0 P x ↔ P x ∧ ¬ cs_gap x := by
  unfold clno
  constructor
  · rintro ⟨z | z, g⟩
    · exact ⟨z.2, g⟩
    · exact absurd z.1 (by decide)
  · rintro ⟨z, g⟩
    exact ⟨Or.inl ⟨rfl, z⟩, g⟩
theorem chz_of {RL RH : Int → Int} {r0 r al c s : Int} (h : sto RL RH r0 r (clno 0 (fun x => (fun _ => False) x ∨ lkS al c c x))) (hs : (r - r0 = 1 ∧ RL r0 = RH r0 ∧ s = 1) ∨ (¬ (r - r0 = 1 ∧ RL r0 = RH r0) ∧ s = 2 + 4 * (r - r0))) : chz al c s := by
  obtain ⟨q, h1, h2, h3, h4⟩ := sto_q h
  refine ⟨q, r - r0, h1, fun x => ?_, by rw [h3, h4]; exact hs⟩
  rw [h2 x, clno_0, one_lk]
  exact and_congr ⟨fun z => z.elim (fun y => y.elim) id, Or.inr⟩ Iff.rfl
theorem kdz_of {RL RH : Int → Int} {r0 r w b s : Int} {k : Nat} {P : Int → Prop} (h : sto RL RH r0 r (clno 0 P)) (hw : 0 ≤ w ∧ w < 12) (hk : (k : Int) = w + 1) (hp : ∀ x : Int, P x ↔ (fun _ => False) x ∨ kmN w b x) (hs : s = 2 + 4 * (r - r0)) : kdz k b s := by
  obtain ⟨q, h1, h2, _⟩ := sto_q h
  refine ⟨q, r - r0, h1, fun x => ?_, hs⟩
  rw [h2 x, clno_0, hp x, kmem_t hw hk]
  exact and_congr ⟨fun z => z.elim (fun y => y.elim) id, Or.inr⟩ Iff.rfl
theorem clz_of {RL RH : Int → Int} {r0 r no s : Int} {P : Int → Prop} (h : sto RL RH r0 r (clno no P)) (hs : s = 2 + 4 * (r - r0)) : clz no P s := by
  obtain ⟨q, h1, h2, _⟩ := sto_q h
  exact ⟨q, r - r0, h1, h2, hs⟩
theorem chv_of {al c : Int} : mnS (clno 0 (fun x => (fun _ => False) x ∨ lkS al c c x)) = mnS (chS al c) := mnS_cg (fun x => by
  show _ ↔ one al c c x ∧ ¬ cs_gap x
  rw [clno_0, one_lk]
  exact and_congr ⟨fun z => z.elim (fun y => y.elim) id, Or.inr⟩ Iff.rfl)
theorem kdv_of {w b : Int} {k : Nat} {P : Int → Prop} (hw : 0 ≤ w ∧ w < 12) (hk : (k : Int) = w + 1) (hp : ∀ x : Int, P x ↔ (fun _ => False) x ∨ kmN w b x) : mnS (clno 0 P) = mnS (kdS k b) := mnS_cg (fun x => by
  show _ ↔ kmem k b x ∧ ¬ cs_gap x
  rw [clno_0, hp x, kmem_t hw hk]
  exact and_congr ⟨fun z => z.elim (fun y => y.elim) id, Or.inr⟩ Iff.rfl)
theorem mnS_ns {SV : Int → Int → Prop} {S : Int → Prop} {ns : Int} : mnS S = mnS ((fun s => if s = ns then S else SV s) ns) := congrArg mnS (show S = (if ns = ns then S else SV ns) from (if_pos rfl).symm)
theorem dtv_0 {d : Int} (h : d = 1) : mnS (clno 1 (fun _ => False)) = mnS (dtS d) := mnS_cg (fun x => by
  unfold clno dtS
  constructor
  · rintro ⟨z | z, g⟩
    · exact z.2.elim
    · exact ⟨⟨⟨z.2.1, z.2.2.1⟩, g⟩, Or.inl h⟩
  · rintro ⟨⟨z, g⟩, _⟩
    exact ⟨Or.inr ⟨rfl, z.1, z.2, fun y => y⟩, g⟩)
theorem dtv_1 {d : Int} (h : ¬ d = 1) : mnS (clno 1 (fun x => (fun _ => False) x ∨ (10 ≤ x ∧ x ≤ 10))) = mnS (dtS d) := mnS_cg (fun x => by
  unfold clno dtS
  constructor
  · rintro ⟨z | z, g⟩
    · exact absurd z.1 (by decide)
    · exact ⟨⟨⟨z.2.1, z.2.2.1⟩, g⟩, Or.inr (fun y => z.2.2.2 (Or.inr ⟨by omega, by omega⟩))⟩
  · rintro ⟨⟨z, g⟩, y⟩
    refine ⟨Or.inr ⟨rfl, z.1, z.2, fun q => ?_⟩, g⟩
    rcases q with q | q
    · exact q
    · rcases y with y | y
      · exact h y
      · omega)
def dtl0 : List Int := [0, 55295, 57344, 1114111]
def dtl1 : List Int := [0, 9, 11, 55295, 57344, 1114111]
theorem dot0 : clz 1 (fun _ => False) 10 := by
  refine ⟨fun i => dtl0.getD i.toNat 0, 2, ⟨canB_ok (l := dtl0) (by decide), by decide⟩, fun x => ?_, rfl⟩
  unfold clno cs_gap
  constructor
  · rintro ⟨i, i0, i1, i2, i3⟩
    rcases (show i = 0 ∨ i = 1 by omega) with e | e
    · subst e
      have i2 : (0 : Int) ≤ x := i2
      have i3 : x ≤ (55295 : Int) := i3
      exact ⟨Or.inr ⟨rfl, by omega, by omega, fun z => z⟩, by omega⟩
    · subst e
      have i2 : (57344 : Int) ≤ x := i2
      have i3 : x ≤ (1114111 : Int) := i3
      exact ⟨Or.inr ⟨rfl, by omega, by omega, fun z => z⟩, by omega⟩
  · rintro ⟨z | z, g⟩
    · exact z.2.elim
    · rcases (show x ≤ 55295 ∨ 57344 ≤ x by omega) with y | y
      · exact ⟨0, by decide, by decide, (show (0 : Int) ≤ x from z.2.1), (show x ≤ (55295 : Int) from y)⟩
      · exact ⟨1, by decide, by decide, (show (57344 : Int) ≤ x from y), (show x ≤ (1114111 : Int) from z.2.2.1)⟩
theorem dot1 : clz 1 (fun x => (fun _ => False) x ∨ (10 ≤ x ∧ x ≤ 10)) 14 := by
  refine ⟨fun i => dtl1.getD i.toNat 0, 3, ⟨canB_ok (l := dtl1) (by decide), by decide⟩, fun x => ?_, rfl⟩
  unfold clno cs_gap
  constructor
  · rintro ⟨i, i0, i1, i2, i3⟩
    rcases (show i = 0 ∨ i = 1 ∨ i = 2 by omega) with e | e | e
    · subst e
      have i2 : (0 : Int) ≤ x := i2
      have i3 : x ≤ (9 : Int) := i3
      exact ⟨Or.inr ⟨rfl, by omega, by omega, fun z => z.elim (fun y => y) (fun y => by omega)⟩, by omega⟩
    · subst e
      have i2 : (11 : Int) ≤ x := i2
      have i3 : x ≤ (55295 : Int) := i3
      exact ⟨Or.inr ⟨rfl, by omega, by omega, fun z => z.elim (fun y => y) (fun y => by omega)⟩, by omega⟩
    · subst e
      have i2 : (57344 : Int) ≤ x := i2
      have i3 : x ≤ (1114111 : Int) := i3
      exact ⟨Or.inr ⟨rfl, by omega, by omega, fun z => z.elim (fun y => y) (fun y => by omega)⟩, by omega⟩
  · rintro ⟨z | z, g⟩
    · exact absurd z.1 (by decide)
    · have n10 : ¬ (10 ≤ x ∧ x ≤ 10) := fun y => z.2.2.2 (Or.inr y)
      rcases (show x ≤ 9 ∨ (11 ≤ x ∧ x ≤ 55295) ∨ 57344 ≤ x by omega) with y | y | y
      · exact ⟨0, by decide, by decide, (show (0 : Int) ≤ x from z.2.1), (show x ≤ (9 : Int) from y)⟩
      · exact ⟨1, by decide, by decide, (show (11 : Int) ≤ x from y.1), (show x ≤ (55295 : Int) from y.2)⟩
      · exact ⟨2, by decide, by decide, (show (57344 : Int) ≤ x from y), (show x ≤ (1114111 : Int) from z.2.2.1)⟩
theorem dot_0 {RL RH : Int → Int} {r0 r s : Int} (h : sto RL RH r0 r (clno 1 (fun _ => False))) (hs : s = 2 + 4 * (r - r0)) : s = 10 := clz_det (clz_of h hs) dot0 (fun _ => Iff.rfl)
theorem dot_1 {RL RH : Int → Int} {r0 r s : Int} (h : sto RL RH r0 r (clno 1 (fun x => (fun _ => False) x ∨ (10 ≤ x ∧ x ≤ 10)))) (hs : s = 2 + 4 * (r - r0)) : s = 14 := clz_det (clz_of h hs) dot1 (fun _ => Iff.rfl)
/-- a step that is a leaf -/
theorem stp_leaf {f : Int → Int} {n p flg grp s q a b c d e rp ls : Int} {na nl : Int → Int} {t : List Fr} (h : lfR f n flg p s q) : stp f n (p, flg, grp, na, nl, (a, b, c, d, e) :: t, rp, ls) (q, flg, grp, na, nl, (a, b, c, d, e + s) :: t, 1, s) := Or.inl ⟨⟨a, b, c, d, e, t, Or.inl ⟨h, rfl, rfl⟩, rfl⟩, rfl, rfl, rfl, rfl⟩
theorem stF_lf {f : Int → Int} {n p flg grp w r rp ls : Int} {na nl : Int → Int} {fr : List Fr} (h : lfF f n flg p w r) : stF f n (p, flg, grp, na, nl, fr, rp, ls) w r := Or.inl (Or.inl h)
/-- the groups' names, as the reference keeps them -/
def nmJ (NS NM f na nl : Int → Int) (g : Int) : Prop := ∀ k : Int, 1 ≤ k → k ≤ g → NM k = nl k ∧ ∀ j : Int, 0 ≤ j → j < nl k → NS (12 * k + j) = f (na k + j)
theorem nmJ_0 {NS NM f na nl : Int → Int} : nmJ NS NM f na nl 0 := fun k a b => by omega
