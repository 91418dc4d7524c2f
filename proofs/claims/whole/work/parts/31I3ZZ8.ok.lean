/-! groups that were left end where they began or behind it -/
def okP (B : Int → Prop) (p : Int) (g : Gr) : Prop := (∀ i : Int, -1 ≤ g i ∧ g i ≤ p) ∧ ∀ k : Int, ¬ B k → g (2 * k) ≤ g (2 * k + 1)
def okS (v : Sm) : Prop := ∀ (f : Int → Int) (n p : Int) (g : Gr) (B : Int → Prop), bytes f n → 0 ≤ p → p ≤ n → okP B p g → ∀ x ∈ v f n p g, (p ≤ x.1 ∧ x.1 ≤ n) ∧ okP B x.1 x.2
theorem okP.up {B : Int → Prop} {p q : Int} {g : Gr} (h : okP B p g) (hq : p ≤ q) : okP B q g := ⟨fun i => ⟨(h.1 i).1, Int.le_trans (h.1 i).2 hq⟩, h.2⟩
theorem ok_I : okS smI := fun f n p g B hb h0 h1 ho x hx => by
  have e : x = (p, g) := List.mem_singleton.mp hx
  rw [e]; exact ⟨⟨Int.le_refl p, h1⟩, ho⟩
theorem ok_S {S : Int → Prop} : okS (smS S) := fun f n p g B hb h0 h1 ho x hx => by
  have k := gd_S f n p g hb h0 h1 x hx
  refine ⟨k, ?_⟩
  unfold smS at hx
  split at hx
  · have e := List.mem_singleton.mp hx
    have e2 : x.2 = g := by rw [e]
    rw [e2]
    exact ho.up k.1
  · exact absurd hx List.not_mem_nil
theorem ok_A : okS smA := fun f n p g B hb h0 h1 ho x hx => by
  have k := gd_A f n p g hb h0 h1 x hx
  refine ⟨k, ?_⟩
  unfold smA at hx
  split at hx
  · have e := List.mem_singleton.mp hx
    have e2 : x.2 = g := by rw [e]
    rw [e2]
    exact ho.up k.1
  · exact absurd hx List.not_mem_nil
theorem ok_Q {a : Int} : okS (smQ a) := fun f n p g B hb h0 h1 ho x hx => by
  have k := gd_Q (a := a) f n p g hb h0 h1 x hx
  refine ⟨k, ?_⟩
  unfold smQ at hx
  split at hx
  · have e := List.mem_singleton.mp hx
    have e2 : x.2 = g := by rw [e]
    rw [e2]
    exact ho.up k.1
  · exact absurd hx List.not_mem_nil
theorem ok_C {u v : Sm} (hu : okS u) (hv : okS v) : okS (smC u v) := fun f n p g B hb h0 h1 ho x hx => by
  obtain ⟨y, hy, hx⟩ := List.mem_flatMap.mp hx
  obtain ⟨a, a2⟩ := hu f n p g B hb h0 h1 ho y hy
  obtain ⟨b, b2⟩ := hv f n y.1 y.2 B hb (by omega) a.2 a2 x hx
  exact ⟨by omega, b2⟩
theorem ok_O {u v : Sm} (hu : okS u) (hv : okS v) : okS (smO u v) := fun f n p g B hb h0 h1 ho x hx => by
  rcases List.mem_append.mp hx with hx | hx
  · exact hu f n p g B hb h0 h1 ho x hx
  · exact hv f n p g B hb h0 h1 ho x hx
theorem ok_G {k : Int} {v : Sm} (hv : okS v) : okS (smG k v) := fun f n p g B hb h0 h1 ho x hx => by
  obtain ⟨y, hy, e⟩ := List.mem_map.mp hx
  have ho2 : okP (fun j => B j ∨ j = k) p (zu g (2 * k) p) := by
    refine ⟨fun i => ?_, fun j hj => ?_⟩
    · by_cases c : i = 2 * k
      · rw [c, zu_self]; exact ⟨by omega, Int.le_refl p⟩
      · rw [zu_ne c]; exact ho.1 i
    · have j1 : ¬ B j := fun z => hj (Or.inl z)
      have j2 : ¬ j = k := fun z => hj (Or.inr z)
      rw [zu_ne (by omega), zu_ne (by omega)]
      exact ho.2 j j1
  obtain ⟨t, t2⟩ := hv f n p _ _ hb h0 h1 ho2 y hy
  rw [← e]
  refine ⟨t, fun i => ?_, fun j hj => ?_⟩
  · show -1 ≤ zu y.2 (2 * k + 1) y.1 i ∧ zu y.2 (2 * k + 1) y.1 i ≤ y.1
    by_cases c : i = 2 * k + 1
    · rw [c, zu_self]; exact ⟨by omega, Int.le_refl _⟩
    · rw [zu_ne c]; exact t2.1 i
  · show zu y.2 (2 * k + 1) y.1 (2 * j) ≤ zu y.2 (2 * k + 1) y.1 (2 * j + 1)
    rw [zu_ne (show ¬ 2 * j = 2 * k + 1 by omega)]
    by_cases c : j = k
    · rw [c, zu_self]; exact (t2.1 _).2
    · rw [zu_ne (by omega)]
      exact t2.2 j (fun z => z.elim hj c)
theorem ok_L {lz : Prop} [Decidable lz] {v : Sm} (hv : okS v) {f : Int → Int} {n : Int} (hb : bytes f n) {B : Int → Prop} : ∀ (m : Nat) (p : Int) (g : Gr), 0 ≤ p → p ≤ n → okP B p g → ∀ x ∈ smL lz v f n m p g, (p ≤ x.1 ∧ x.1 ≤ n) ∧ okP B x.1 x.2 := by
  intro m
  induction m with
  | zero =>
    intro p g h0 h1 ho x hx
    have e : x = (p, g) := List.mem_singleton.mp hx
    rw [e]; exact ⟨⟨Int.le_refl p, h1⟩, ho⟩
  | succ m ih =>
    intro p g h0 h1 ho x hx
    have key : ∀ y ∈ (v f n p g).flatMap (fun x => if p < x.1 then smL lz v f n m x.1 x.2 else []), (p ≤ y.1 ∧ y.1 ≤ n) ∧ okP B y.1 y.2 := by
      intro y hy
      obtain ⟨z, hz, hy⟩ := List.mem_flatMap.mp hy
      obtain ⟨a, a2⟩ := hv f n p g B hb h0 h1 ho z hz
      split at hy
      · obtain ⟨b, b2⟩ := ih z.1 z.2 (by omega) a.2 a2 y hy
        exact ⟨by omega, b2⟩
      · exact absurd hy List.not_mem_nil
    rw [smL_1] at hx
    split at hx
    · rcases List.mem_cons.mp hx with e | hx
      · rw [e]; exact ⟨⟨Int.le_refl p, h1⟩, ho⟩
      · exact key x hx
    · rcases List.mem_append.mp hx with hx | hx
      · exact key x hx
      · have e := List.mem_singleton.mp hx
        rw [e]; exact ⟨⟨Int.le_refl p, h1⟩, ho⟩
theorem ok_T {lz : Prop} [Decidable lz] {v : Sm} (hv : okS v) : okS (smT lz v) := fun _ _ p g _ hb h0 h1 ho x hx => ok_L hv hb _ p g h0 h1 ho x hx
theorem ok_U {lz : Prop} [Decidable lz] {v : Sm} (hv : okS v) : ∀ m : Nat, okS (smU lz v m) := by
  intro m
  induction m with
  | zero => exact ok_I
  | succ m ih =>
    rw [smU_1]
    split
    · exact ok_O ok_I (ok_C hv ih)
    · exact ok_O (ok_C hv ih) ok_I
theorem ok_N {v w : Sm} (hv : okS v) (hw : okS w) : ∀ m : Nat, okS (smN v w m) := by
  intro m
  induction m with
  | zero => exact hw
  | succ m ih => exact ok_C hv ih
theorem ok_R {l m lz : Int} {v : Sm} (h : okS v) : okS (smR l m lz v) := by
  unfold smR
  split
  · exact ok_N h (ok_T h) _
  · exact ok_N h (ok_U h _) _
/-! what is read is so -/
def okN (v : Sn) : Prop := okS v.1.1
theorem okN_G {k : Int} {v : Sn} (h : okN v) : okN (mnG k v) := by
  show okS (if k = 0 then v.1.1 else smG k v.1.1)
  split
  · exact h
  · exact ok_G h
theorem okN_R {l m lz : Int} {v : Sn} (h : okN v) : okN (mnR l m lz v) := ok_R h
theorem okN_C {u v : Sn} (hu : okN u) (hv : okN v) : okN (mnC u v) := ok_C hu hv
theorem okN_I : okN mnI := ok_I
def okF (y : Fs) : Prop := (∀ u : Sn, y.1 = some u → okN u) ∧ okN y.2
theorem okF_O {ao : Option Sn} {w : Sn} (h : okF (ao, w)) : okN (opO ao w) := by
  cases ao with
  | none => exact h.2
  | some u => exact ok_O (h.1 u rfl) h.2
theorem lfM_ok {f : Int → Int} {n flg p q : Int} {v : Sn} (h : lfM f n flg p v q) : okN v := by
  rcases h with ⟨_, c, _, h⟩ | ⟨_, k, b, _, h⟩ | ⟨_, no, fi, P, _, _, _, h⟩ | ⟨_, _, h⟩ | ⟨_, _, h⟩ | ⟨_, _, h⟩ | ⟨_, _, _, h⟩
  · rcases h with ⟨_, h⟩ | ⟨_, h⟩ | ⟨_, h⟩
    · rw [h]; exact ok_S
    · rw [h]; exact ok_A
    · rw [h]; exact ok_Q
  · rw [h]; exact ok_S
  · rw [h]; exact ok_S
  · rw [h]; exact ok_S
  · rw [h]; exact ok_Q
  · rw [h]; exact ok_Q
  · rw [h]; exact ok_S
theorem rsS_ok {f : Int → Int} {n fl : Int} : ∀ (k : Nat) (s : Sta) (FS : List Fs) (ro x : Sn), rsS f n fl k s (FS, ro, x) → (∀ y ∈ FS, okF y) ∧ okN ro ∧ okN x := by
  intro k
  induction k with
  | zero =>
    intro s FS ro x h
    have e : (FS, ro, x) = ss0 := h.2
    cases e
    exact ⟨fun y hy => by rw [List.mem_singleton.mp hy]; exact ⟨fun u q => (by cases q), ok_I⟩, ok_I, ok_I⟩
  | succ k ih =>
    intro s FS2 rw2 v2 h
    obtain ⟨s1, S1, h1, _, h3⟩ := h
    obtain ⟨FS, ro, v⟩ := S1
    obtain ⟨i1, i2, i3⟩ := ih _ _ _ _ h1
    obtain ⟨p1, flg1, grp1, na1, nl1, fr1, rp1, ls1⟩ := s1
    obtain ⟨p2, flg2, grp2, na2, nl2, fr2, rp2, ls2⟩ := s
    rcases h3 with ⟨_, ao, t, a2, a3⟩ | ⟨_, a2, a3, a4⟩ | ⟨_, ⟨l, m, e, k2, ao, w, t, _, a3, a4⟩, a5, a6⟩
    · have hh : (∀ y ∈ (ao, rw2) :: t, okF y) ∧ okN v2 := by
        rcases a2 with ⟨b1, b2⟩ | ⟨_, a, b, c, d, e, t2, bo, w, _, b3, b4⟩
        · rw [b2]
          exact ⟨i1, lfM_ok b1⟩
        · rw [b3] at i1
          refine ⟨fun y hy => i1 y (List.mem_cons_of_mem _ hy), ?_⟩
          rw [b4]
          exact okN_G (okF_O (i1 _ (List.mem_cons.mpr (Or.inl rfl))))
      have h1 := hh.1 (ao, rw2) (List.mem_cons.mpr (Or.inl rfl))
      refine ⟨fun y hy => ?_, h1.2, hh.2⟩
      rw [a3] at hy
      rcases List.mem_cons.mp hy with e | hy
      · rw [e]; exact ⟨h1.1, okN_C h1.2 hh.2⟩
      · exact hh.1 y (List.mem_cons_of_mem _ hy)
    · rw [a3, a4]
      refine ⟨fun y hy => ?_, ok_I, ok_I⟩
      rcases a2 with ⟨_, ao, w, t, b1, b2⟩ | ⟨_, ⟨_, b1⟩ | ⟨_, b1⟩⟩
      · rw [b1] at i1
        rw [b2] at hy
        rcases List.mem_cons.mp hy with e | hy
        · rw [e]
          exact ⟨fun u q => by cases q; exact okF_O (i1 _ (List.mem_cons.mpr (Or.inl rfl))), ok_I⟩
        · exact i1 y (List.mem_cons_of_mem _ hy)
      · rw [b1] at hy
        rcases List.mem_cons.mp hy with e | hy
        · rw [e]; exact ⟨fun u q => (by cases q), ok_I⟩
        · exact i1 y hy
      · rw [b1] at hy
        exact i1 y hy
    · rw [a5, a6]
      refine ⟨fun y hy => ?_, ok_I, ok_I⟩
      rw [a3] at i1
      rw [a4] at hy
      rcases List.mem_cons.mp hy with e | hy
      · rw [e]
        exact ⟨(i1 _ (List.mem_cons.mpr (Or.inl rfl))).1, okN_C i2 (okN_R i3)⟩
      · exact i1 y (List.mem_cons_of_mem _ hy)
theorem rdM_ok {f : Int → Int} {n fl : Int} {v : Sn} (h : rdM f n fl v) : okN v := by
  obtain ⟨k, s, FS, ro, x, ao, w, a1, _, a3, a4⟩ := h
  obtain ⟨i1, _, _⟩ := rsS_ok k s FS ro x a1
  rw [a3] at i1
  rw [a4]
  exact okF_O (i1 _ (List.mem_cons.mpr (Or.inl rfl)))
/-- a match's groups: none, or from a place to one not before it -/
theorem wyR_ok {v : Sn} {f : Int → Int} {n p : Int} (h : okN v) (hb : bytes f n) (p0 : 0 ≤ p) (p1 : p ≤ n) : ∀ x ∈ wyR v f n p, (∀ i : Int, -1 ≤ x.2 i ∧ x.2 i ≤ x.1) ∧ ∀ k : Int, x.2 (2 * k) ≤ x.2 (2 * k + 1) := fun x hx => by
  rw [wyR_p p0 p1] at hx
  obtain ⟨_, h1, h2⟩ := h f n p (fun _ => -1) (fun _ => False) hb p0 p1 ⟨fun _ => by show (-1 : Int) ≤ -1 ∧ (-1 : Int) ≤ p; omega, fun _ _ => Int.le_refl _⟩ x hx
  exact ⟨h1, fun k => h2 k (fun z => z)⟩
