/-! what parts mean: cs r is what a row and those before it mean, cs p what a row means up to its part p -/
def lvS (cs : Nat → Sn) (v : Value) : Sn := match v with
  | .ref b => cs b
  | _ => mnI
def lvA (cs : Nat → Sn) (v : Value) : Option Sn := match v with
  | .ref b => some (cs b)
  | _ => none
theorem lvS_n {cs : Nat → Sn} : lvS cs vN = mnI := rfl
theorem lvS_r {cs : Nat → Sn} {b : Nat} : lvS cs (vR b) = cs b := rfl
theorem lvA_n {cs : Nat → Sn} : lvA cs vN = none := rfl
theorem lvA_r {cs : Nat → Sn} {b : Nat} : lvA cs (vR b) = some (cs b) := rfl
def csu (cs : Nat → Sn) (a : Nat) (x : Sn) : Nat → Sn := fun b => if b = a then x else cs b
theorem csu_s {cs : Nat → Sn} {a : Nat} {x : Sn} : csu cs a x a = x := if_pos rfl
theorem csu_ne {cs : Nat → Sn} {a b : Nat} {x : Sn} (h : ¬ b = a) : csu cs a x b = cs b := if_neg h
theorem lvS_eq {cs cs2 : Nat → Sn} {p : Nat} {v : Value} (h : ∀ x, ¬ x = p → cs2 x = cs x) (hv : ¬ v = vR p) : lvS cs2 v = lvS cs v := by
  cases v with
  | ref b => exact h b (fun t => hv (by rw [t]))
  | _ => rfl
theorem lvA_eq {cs cs2 : Nat → Sn} {p : Nat} {v : Value} (h : ∀ x, ¬ x = p → cs2 x = cs x) (hv : ¬ v = vR p) : lvA cs2 v = lvA cs v := by
  cases v with
  | ref b =>
    show some (cs2 b) = some (cs b)
    rw [h b (fun t => hv (by rw [t]))]
  | _ => rfl
theorem lvS_eq2 {cs cs2 : Nat → Sn} {p r : Nat} {v : Value} (h : ∀ x, ¬ x = p → ¬ x = r → cs2 x = cs x) (hv : ¬ v = vR p) (hr : ¬ v = vR r) : lvS cs2 v = lvS cs v := by
  cases v with
  | ref b => exact h b (fun t => hv (by rw [t])) (fun t => hr (by rw [t]))
  | _ => rfl
theorem lvA_eq2 {cs cs2 : Nat → Sn} {p r : Nat} {v : Value} (h : ∀ x, ¬ x = p → ¬ x = r → cs2 x = cs x) (hv : ¬ v = vR p) (hr : ¬ v = vR r) : lvA cs2 v = lvA cs v := by
  cases v with
  | ref b =>
    show some (cs2 b) = some (cs b)
    rw [h b (fun t => hv (by rw [t])) (fun t => hr (by rw [t]))]
  | _ => rfl
noncomputable def onP (G : ab_G) (cs : Nat → Sn) (sv : Nat → Int → Prop) (p : Nat) : Sn := onS (fi G p 0) (fi G p 1) (sv p) (lvS cs (fv G p 6))
/-- with its repeat -/
noncomputable def reP (G : ab_G) (cs : Nat → Sn) (sv : Nat → Int → Prop) (p : Nat) : Sn := mnR (fi G p 11) (fi G p 12) (fi G p 13) (onP G cs sv p)
def dnX (G : ab_G) (ps : Nat → Nat) (cs : Nat → Sn) (sv : Nat → Int → Prop) : Prop :=
  (∀ r, ps r = 94 → cs r = opO (lvA cs (fv G r 7)) (lvS cs (fv G r 6)) ∧ (fi G r 9 = 0 → (lvS cs (fv G r 6)).1.2.1) ∧ (fi G r 8 = 0 → nzS (lvS cs (fv G r 6)))) ∧
  (∀ p, ps p = 90 → cs p = mnC (lvS cs (fv G p 7)) (reP G cs sv p) ∧ (¬ fi G p 12 = 0 → fi G p 10 = 0 → (onP G cs sv p).1.2.1) ∧ (fi G p 8 = 0 → nzS (reP G cs sv p)))
/-- a part that nobody repeats yet -/
theorem reP_0 {G : ab_G} {cs : Nat → Sn} {sv : Nat → Int → Prop} {p : Nat} (h11 : fi G p 11 = 0) (h12 : fi G p 12 = 0) : reP G cs sv p = mnI := by
  unfold reP
  rw [h11, h12]
  exact mnR_0
theorem dn_new {G : ab_G} {cs : Nat → Sn} {sv : Nat → Int → Prop} {p : Nat} (h11 : fi G p 11 = 0) (h12 : fi G p 12 = 0) : (¬ fi G p 12 = 0 → fi G p 10 = 0 → (onP G cs sv p).1.2.1) ∧ (fi G p 8 = 0 → nzS (reP G cs sv p)) := ⟨fun h => absurd h12 h, fun _ => by rw [reP_0 h11 h12]; exact nzS_I⟩
def frs (G : ab_G) (ps : Nat → Nat) (cs : Nat → Sn) : List Fs → Nat → Value → Prop
  | [], _, v => v = vN
  | (ao, ro) :: t, hi, v => ∃ g r : Nat, v = vR g ∧ (ps g = 90 ∧ g < hi) ∧ (ps r = 94 ∧ fv G g 6 = vR r) ∧ (lvA cs (fv G r 7) = ao ∧ lvS cs (fv G r 6) = ro) ∧ frs G ps cs t g (fv G g 5)
theorem frs.tr {G G2 : ab_G} {ps ps2 : Nat → Nat} {cs cs2 : Nat → Sn} : ∀ (l : List Fs) (hi : Nat) (v : Value), frs G ps cs l hi v → (∀ g r, ps g = 90 → g < hi → ps r = 94 → fv G g 6 = vR r → (ps2 g = 90 ∧ ps2 r = 94) ∧ (fv G2 g 6 = fv G g 6 ∧ fv G2 g 5 = fv G g 5) ∧ (lvA cs2 (fv G2 r 7) = lvA cs (fv G r 7) ∧ lvS cs2 (fv G2 r 6) = lvS cs (fv G r 6))) → frs G2 ps2 cs2 l hi v := by
  intro l
  induction l with
  | nil => intro hi v h _; exact h
  | cons x t ih =>
    intro hi v h q
    obtain ⟨ao, ro⟩ := x
    obtain ⟨g, r, h1, ⟨h2, h3⟩, ⟨h4, h5⟩, ⟨c1, c2⟩, h6⟩ := h
    obtain ⟨⟨q1, q2⟩, ⟨e6, e5⟩, e7, e8⟩ := q g r h2 h3 h4 h5
    refine ⟨g, r, h1, ⟨q1, h3⟩, ⟨q2, by rw [e6]; exact h5⟩, ⟨e7.trans c1, e8.trans c2⟩, ?_⟩
    rw [e5]
    exact ih g _ h6 (fun x y hx hl hy hv => q x y hx (by omega) hy hv)
theorem frs.up {G : ab_G} {ps : Nat → Nat} {cs : Nat → Sn} {l : List Fs} {hi hi2 : Nat} {v : Value} (h : frs G ps cs l hi v) (hh : hi ≤ hi2) : frs G ps cs l hi2 v := by
  cases l with
  | nil => exact h
  | cons x t =>
    obtain ⟨ao, ro⟩ := x
    obtain ⟨g, r, h1, ⟨h2, h3⟩, h4⟩ := h
    exact ⟨g, r, h1, ⟨h2, by omega⟩, h4⟩
/-- the same cells, the same meaning -/
theorem dnX.same {G G2 : ab_G} {ps : Nat → Nat} {cs : Nat → Sn} {sv : Nat → Int → Prop} (h : dnX G ps cs sv) (e : ∀ x, (ps x = 90 ∨ ps x = 94) → ∀ i, i < 14 → pf G2 x i = pf G x i) : dnX G2 ps cs sv := by
  have ei : ∀ x, (ps x = 90 ∨ ps x = 94) → ∀ i, i < 14 → fi G2 x i = fi G x i := fun x hx i hi => fi_pf (e x hx i hi)
  have ev : ∀ x, (ps x = 90 ∨ ps x = 94) → ∀ i, i < 14 → fv G2 x i = fv G x i := fun x hx i hi => fv_pf (e x hx i hi)
  refine ⟨fun r hr => ?_, fun p hp => ?_⟩
  · rw [ev r (.inr hr) 6 (by decide), ev r (.inr hr) 7 (by decide), ei r (.inr hr) 8 (by decide), ei r (.inr hr) 9 (by decide)]
    exact h.1 r hr
  · have t := h.2 p hp
    unfold reP onP at t ⊢
    rw [ei p (.inl hp) 0 (by decide), ei p (.inl hp) 1 (by decide), ev p (.inl hp) 6 (by decide), ev p (.inl hp) 7 (by decide), ei p (.inl hp) 8 (by decide), ei p (.inl hp) 10 (by decide), ei p (.inl hp) 11 (by decide), ei p (.inl hp) 12 (by decide), ei p (.inl hp) 13 (by decide)]
    exact t
/-- a leaf is made -/
theorem dnX.leaf {G : ab_G} {ps ps2 : Nat → Nat} {cs : Nat → Sn} {sv sv2 : Nat → Int → Prop} {p : Nat} (h : dnX G ps cs sv) (hl : leafp ps ps2 G p) (hv : ∀ x, ¬ x = p → sv2 x = sv x) : dnX G ps2 (csu cs p mnI) sv2 ∧ ∀ x, ¬ x = p → csu cs p mnI x = cs x := by
  obtain ⟨hn, hp, l1, l2, ⟨l0, l8, l11, l12⟩, l6, l7⟩ := hl
  have q90 : ∀ x, ps2 x = 90 → ¬ x = p → ps x = 90 := fun x h1 h2 => by rw [← l1 x h2]; exact h1
  have q94 : ∀ x, ps2 x = 94 → ps x = 94 ∧ ¬ x = p := fun x h1 => by
    have h2 : ¬ x = p := fun t => by rw [t, l2] at h1; omega
    exact ⟨by rw [← l1 x h2]; exact h1, h2⟩
  have un : ∀ x, ¬ x = p → csu cs p mnI x = cs x := fun x e => csu_ne e
  refine ⟨⟨fun r hr => ?_, fun x hx => ?_⟩, un⟩
  · obtain ⟨hr1, hr2⟩ := q94 r hr
    rw [un r hr2, lvA_eq un (hn.2 r hr1).2, lvS_eq un (hn.2 r hr1).1]
    exact h.1 r hr1
  · by_cases e : x = p
    · subst e
      refine ⟨?_, dn_new l11 l12⟩
      rw [csu_s, l7, reP_0 l11 l12, lvS_n]
      exact mnC_I.symm
    · have hx1 := q90 x hx e
      have t := h.2 x hx1
      unfold reP onP at t ⊢
      rw [un x e, lvS_eq un (hn.1 x hx1).2, lvS_eq un (hn.1 x hx1).1, hv x e]
      exact t
/-- a new row in the inner group -/
theorem dnX.bar {G G2 : ab_G} {ps ps2 : Nat → Nat} {cs : Nat → Sn} {sv : Nat → Int → Prop} {g rn : Nat} (h : dnX G ps cs sv) (hg2 : ps g = 90) (f11 : fi G g 11 = 0) (f12 : fi G g 12 = 0) (hf : ∀ x, (ps x = 90 ∨ ps x = 94) → ¬ x = g → G2[x]? = G[x]?) (hn : nref G ps rn) (hp : ¬ ps rn = 90 ∧ ¬ ps rn = 94) (l1 : ∀ x, ¬ x = rn → ps2 x = ps x) (l2 : ps2 rn = 94) (hg : ∀ i, i < 14 → ¬ i = 6 → pf G2 g i = pf G g i) (r6 : fv G2 rn 6 = vN) (r7 : fv G2 rn 7 = fv G g 6) (r9 : fi G2 rn 9 = 1) : dnX G2 ps2 (csu cs rn (opO (lvA cs (fv G g 6)) mnI)) sv ∧ ∀ x, ¬ x = rn → csu cs rn (opO (lvA cs (fv G g 6)) mnI) x = cs x := by
  have ev : ∀ x, (ps x = 90 ∨ ps x = 94) → ∀ i, i < 14 → ¬ i = 6 → fv G2 x i = fv G x i := fun x hx i h1 h2 => by
    by_cases e : x = g
    · rw [e]; exact fv_pf (hg i h1 h2)
    · exact fv_pf (pf_eq (hf x hx e))
  have ei : ∀ x, (ps x = 90 ∨ ps x = 94) → ∀ i, i < 14 → ¬ i = 6 → fi G2 x i = fi G x i := fun x hx i h1 h2 => by
    by_cases e : x = g
    · rw [e]; exact fi_pf (hg i h1 h2)
    · exact fi_pf (pf_eq (hf x hx e))
  have e6 : ∀ x, (ps x = 90 ∨ ps x = 94) → ¬ x = g → fv G2 x 6 = fv G x 6 := fun x hx e => fv_pf (pf_eq (hf x hx e))
  have q90 : ∀ x, ps2 x = 90 → ps x = 90 ∧ ¬ x = rn := fun x h1 => by
    have h2 : ¬ x = rn := fun t => by rw [t, l2] at h1; omega
    exact ⟨by rw [← l1 x h2]; exact h1, h2⟩
  have q94 : ∀ x, ps2 x = 94 → ¬ x = rn → ps x = 94 := fun x h1 h2 => by rw [← l1 x h2]; exact h1
  have n94 : ∀ x, ps x = 94 → ¬ x = g := fun x hx t => by rw [t, hg2] at hx; omega
  have un : ∀ x, ¬ x = rn → csu cs rn (opO (lvA cs (fv G g 6)) mnI) x = cs x := fun x e => csu_ne e
  refine ⟨⟨fun r hr => ?_, fun x hx => ?_⟩, un⟩
  · by_cases e : r = rn
    · subst e
      refine ⟨?_, fun t => ?_, fun _ => ?_⟩
      · rw [csu_s, r6, r7, lvS_n, lvA_eq un (hn.1 g hg2).1]
      · omega
      · rw [r6, lvS_n]; exact nzS_I
    · have hr1 := q94 r hr e
      rw [un r e, e6 r (.inr hr1) (n94 r hr1), ev r (.inr hr1) 7 (by decide) (by decide), ei r (.inr hr1) 8 (by decide) (by decide), ei r (.inr hr1) 9 (by decide) (by decide), lvA_eq un (hn.2 r hr1).2, lvS_eq un (hn.2 r hr1).1]
      exact h.1 r hr1
  · obtain ⟨hx1, hx2⟩ := q90 x hx
    have t := h.2 x hx1
    by_cases e : x = g
    · subst e
      have g11 : fi G2 x 11 = 0 := (ei x (.inl hx1) 11 (by decide) (by decide)).trans f11
      have g12 : fi G2 x 12 = 0 := (ei x (.inl hx1) 12 (by decide) (by decide)).trans f12
      refine ⟨?_, dn_new g11 g12⟩
      have t1 := t.1
      rw [reP_0 f11 f12] at t1
      rw [un x hx2, reP_0 g11 g12, ev x (.inl hx1) 7 (by decide) (by decide), lvS_eq un (hn.1 x hx1).2]
      exact t1
    · unfold reP onP at t ⊢
      rw [un x hx2, ei x (.inl hx1) 0 (by decide) (by decide), ei x (.inl hx1) 1 (by decide) (by decide), ei x (.inl hx1) 8 (by decide) (by decide), ei x (.inl hx1) 10 (by decide) (by decide), ei x (.inl hx1) 11 (by decide) (by decide), ei x (.inl hx1) 12 (by decide) (by decide), ei x (.inl hx1) 13 (by decide) (by decide), ev x (.inl hx1) 7 (by decide) (by decide), lvS_eq un (hn.1 x hx1).2, e6 x (.inl hx1) e, lvS_eq un (hn.1 x hx1).1]
      exact t
/-- a new group, with its first row -/
theorem dnX.ent {G G2 : ab_G} {ps ps2 : Nat → Nat} {cs : Nat → Sn} {sv sv2 : Nat → Int → Prop} {gn rn : Nat} (h : dnX G ps cs sv) (hsv : ∀ x, ¬ x = gn → sv2 x = sv x) (hf : ∀ x, (ps x = 90 ∨ ps x = 94) → G2[x]? = G[x]?) (ng : nref G ps gn) (nr : nref G ps rn) (l1 : ∀ x, ¬ x = gn → ¬ x = rn → ps2 x = ps x) (lg : ps2 gn = 90) (lr : ps2 rn = 94) (g11 : fi G2 gn 11 = 0) (g12 : fi G2 gn 12 = 0) (g7 : fv G2 gn 7 = vN) (r6 : fv G2 rn 6 = vN) (r7 : fv G2 rn 7 = vN) (r9 : fi G2 rn 9 = 1) : dnX G2 ps2 (csu (csu cs gn mnI) rn mnI) sv2 ∧ ∀ x, ¬ x = gn → ¬ x = rn → csu (csu cs gn mnI) rn mnI x = cs x := by
  have ev : ∀ x, (ps x = 90 ∨ ps x = 94) → ∀ i, fv G2 x i = fv G x i := fun x hx i => fv_pf (pf_eq (hf x hx))
  have ei : ∀ x, (ps x = 90 ∨ ps x = 94) → ∀ i, fi G2 x i = fi G x i := fun x hx i => fi_pf (pf_eq (hf x hx))
  have gr : ¬ gn = rn := fun t => by rw [t, lr] at lg; omega
  have q90 : ∀ x, ps2 x = 90 → ¬ x = gn → ps x = 90 ∧ ¬ x = rn := fun x e1 e2 => by
    have e3 : ¬ x = rn := fun t => by rw [t, lr] at e1; omega
    exact ⟨by rw [← l1 x e2 e3]; exact e1, e3⟩
  have q94 : ∀ x, ps2 x = 94 → ¬ x = rn → ps x = 94 ∧ ¬ x = gn := fun x e1 e2 => by
    have e3 : ¬ x = gn := fun t => by rw [t, lg] at e1; omega
    exact ⟨by rw [← l1 x e3 e2]; exact e1, e3⟩
  have un : ∀ x, ¬ x = gn → ¬ x = rn → csu (csu cs gn mnI) rn mnI x = cs x := fun x e1 e2 => (csu_ne e2).trans (csu_ne e1)
  refine ⟨⟨fun r hr => ?_, fun x hx => ?_⟩, un⟩
  · by_cases e : r = rn
    · subst e
      refine ⟨?_, fun t => ?_, fun _ => ?_⟩
      · rw [csu_s, r6, r7]; rfl
      · omega
      · rw [r6, lvS_n]; exact nzS_I
    · obtain ⟨hr1, hr2⟩ := q94 r hr e
      rw [un r hr2 e, ev r (.inr hr1) 6, ev r (.inr hr1) 7, ei r (.inr hr1) 8, ei r (.inr hr1) 9, lvA_eq2 un (ng.2 r hr1).2 (nr.2 r hr1).2, lvS_eq2 un (ng.2 r hr1).1 (nr.2 r hr1).1]
      exact h.1 r hr1
  · by_cases e : x = gn
    · subst e
      refine ⟨?_, dn_new g11 g12⟩
      rw [csu_ne gr, csu_s, g7, reP_0 g11 g12, lvS_n]
      exact mnC_I.symm
    · obtain ⟨hx1, hx2⟩ := q90 x hx e
      have t := h.2 x hx1
      unfold reP onP at t ⊢
      rw [un x e hx2, ei x (.inl hx1) 0, ei x (.inl hx1) 1, ei x (.inl hx1) 8, ei x (.inl hx1) 10, ei x (.inl hx1) 11, ei x (.inl hx1) 12, ei x (.inl hx1) 13, ev x (.inl hx1) 6, ev x (.inl hx1) 7, lvS_eq2 un (ng.1 x hx1).2 (nr.1 x hx1).2, lvS_eq2 un (ng.1 x hx1).1 (nr.1 x hx1).1, hsv x e]
      exact t
/-- the inner group is closed: only its size and whether it may be empty are written -/
theorem dnX.clo {G G2 : ab_G} {ps : Nat → Nat} {cs : Nat → Sn} {sv : Nat → Int → Prop} {g : Nat} (h : dnX G ps cs sv) (hg2 : ps g = 90) (f11 : fi G g 11 = 0) (f12 : fi G g 12 = 0) (hf : ∀ x, (ps x = 90 ∨ ps x = 94) → ¬ x = g → G2[x]? = G[x]?) (hg : ∀ i, i < 14 → ¬ i = 8 → ¬ i = 9 → pf G2 g i = pf G g i) : dnX G2 ps cs sv ∧ onP G2 cs sv g = onP G cs sv g := by
  have eo : onP G2 cs sv g = onP G cs sv g := by
    unfold onP
    rw [fi_pf (hg 0 (by decide) (by decide) (by decide)), fi_pf (hg 1 (by decide) (by decide) (by decide)), fv_pf (hg 6 (by decide) (by decide) (by decide))]
  refine ⟨⟨fun r hr => ?_, fun x hx => ?_⟩, eo⟩
  · have e := hf r (.inr hr) (fun t => by rw [t, hg2] at hr; omega)
    rw [fv_pf (pf_eq e) (i := 6), fv_pf (pf_eq e) (i := 7), fi_pf (pf_eq e) (i := 8), fi_pf (pf_eq e) (i := 9)]
    exact h.1 r hr
  · by_cases e : x = g
    · subst e
      have g11 : fi G2 x 11 = 0 := (fi_pf (hg 11 (by decide) (by decide) (by decide))).trans f11
      have g12 : fi G2 x 12 = 0 := (fi_pf (hg 12 (by decide) (by decide) (by decide))).trans f12
      refine ⟨?_, dn_new g11 g12⟩
      have t1 := (h.2 x hx).1
      rw [reP_0 f11 f12] at t1
      rw [reP_0 g11 g12, fv_pf (hg 7 (by decide) (by decide) (by decide))]
      exact t1
    · have e2 := hf x (.inl hx) e
      have t := h.2 x hx
      unfold reP onP at t ⊢
      rw [fi_pf (pf_eq e2) (i := 0), fi_pf (pf_eq e2) (i := 1), fi_pf (pf_eq e2) (i := 8), fi_pf (pf_eq e2) (i := 10), fi_pf (pf_eq e2) (i := 11), fi_pf (pf_eq e2) (i := 12), fi_pf (pf_eq e2) (i := 13), fv_pf (pf_eq e2) (i := 6), fv_pf (pf_eq e2) (i := 7)]
      exact t
/-- a part is put into the inner group's last row, with its repeat -/
theorem dnX.app {G G2 : ab_G} {ps : Nat → Nat} {cs : Nat → Sn} {sv : Nat → Int → Prop} {p g r : Nat} (h : dnX G ps cs sv) (c3 : ∀ x y b, ps x = 90 → ps y = 94 → fv G x 6 = vR b → ¬ fv G y 7 = vR b) (c4 : ∀ x y b, ps x = 90 → ps y = 90 → fv G x 6 = vR b → fv G y 6 = vR b → x = y) (hg2 : ps g = 90) (f11 : fi G g 11 = 0) (f12 : fi G g 12 = 0) (hp2 : ps p = 90) (hu : unrf G ps p) (ht : typ G ps) (gp : ¬ p = g) (hf : ∀ x, (ps x = 90 ∨ ps x = 94) → ¬ x = r → ¬ x = p → G2[x]? = G[x]?) (hr : ps r = 94) (g6 : fv G g 6 = vR r) (p0 : fi G2 p 0 = fi G p 0) (p1 : fi G2 p 1 = fi G p 1) (p6 : fv G2 p 6 = fv G p 6) (p7 : fv G2 p 7 = fv G r 6) (r6 : fv G2 r 6 = vR p) (r7 : fv G2 r 7 = fv G r 7) (P1 : fi G p 9 = 0 → (onP G cs sv p).1.2.1) (P2 : fi G p 8 = 0 → nzS (onP G cs sv p)) (m10 : fi G2 p 10 = fi G p 9) (m9 : fi G2 p 9 = 0 → fi G p 9 = 0 ∧ 1 ≤ fi G2 p 11) (s8 : fi G2 p 8 = 0 → fi G2 p 11 = fi G2 p 12 ∧ ¬ fi G2 p 12 = 1000 ∧ (fi G2 p 12 = 0 ∨ fi G p 8 = 0)) (r9 : fi G2 r 9 = 0 → fi G r 9 = 0 ∨ fi G2 p 9 = 0) (r8 : fi G2 r 8 = 0 → fi G r 8 = 0 ∧ fi G2 p 8 = 0) : ∃ cs2 : Nat → Sn, dnX G2 ps cs2 sv ∧ (∀ x, ¬ x = p → ¬ x = r → cs2 x = cs x) ∧ cs2 p = mnC (lvS cs (fv G r 6)) (mnR (fi G2 p 11) (fi G2 p 12) (fi G2 p 13) (onP G cs sv p)) := by
  have rp : ¬ p = r := fun t => by rw [← t, hp2] at hr; omega
  have np90 : ∀ x, ps x = 90 → ¬ fv G x 6 = vR p := fun x hx t => by have := (ht.1 x p hx).1 t; omega
  have np94 : ∀ x, ps x = 94 → ¬ fv G x 7 = vR p := fun x hx t => by have := (ht.2 x p hx).2 t; omega
  have nr90 : ∀ x, ps x = 90 → ¬ fv G x 7 = vR r := fun x hx t => by have := (ht.1 x r hx).2 t; omega
  have nr94 : ∀ x, ps x = 94 → ¬ fv G x 6 = vR r := fun x hx t => by have := (ht.2 x r hx).1 t; omega
  have nr7 : ∀ x, ps x = 94 → ¬ fv G x 7 = vR r := fun x hx => c3 g x r hg2 hx g6
  have nr6 : ∀ x, ps x = 90 → ¬ x = g → ¬ fv G x 6 = vR r := fun x hx e t => e (c4 x g r hx hg2 t g6)
  have n94 : ∀ x, ps x = 94 → ¬ x = p := fun x hx t => by rw [t, hp2] at hx; omega
  have n90 : ∀ x, ps x = 90 → ¬ x = r := fun x hx t => by rw [t, hr] at hx; omega
  have ev : ∀ x, (ps x = 90 ∨ ps x = 94) → ¬ x = r → ¬ x = p → ∀ i, fv G2 x i = fv G x i := fun x hx e1 e2 i => fv_pf (pf_eq (hf x hx e1 e2))
  have ei : ∀ x, (ps x = 90 ∨ ps x = 94) → ¬ x = r → ¬ x = p → ∀ i, fi G2 x i = fi G x i := fun x hx e1 e2 i => fi_pf (pf_eq (hf x hx e1 e2))
  obtain ⟨vp, hvp⟩ : ∃ z : Sn, z = mnC (lvS cs (fv G r 6)) (mnR (fi G2 p 11) (fi G2 p 12) (fi G2 p 13) (onP G cs sv p)) := ⟨_, rfl⟩
  obtain ⟨c2, hc2⟩ : ∃ z : Nat → Sn, z = csu (csu cs p vp) r (opO (lvA cs (fv G r 7)) vp) := ⟨_, rfl⟩
  have un : ∀ x, ¬ x = p → ¬ x = r → c2 x = cs x := fun x e1 e2 => by rw [hc2]; exact (csu_ne e2).trans (csu_ne e1)
  have cp : c2 p = vp := by rw [hc2, csu_ne rp, csu_s]
  have cr : c2 r = opO (lvA cs (fv G r 7)) vp := by rw [hc2, csu_s]
  have eo : onP G2 c2 sv p = onP G cs sv p := by
    unfold onP
    rw [p0, p1, p6, lvS_eq2 un (np90 p hp2) (nr6 p hp2 gp)]
  have zp : fi G2 p 8 = 0 → nzS (mnR (fi G2 p 11) (fi G2 p 12) (fi G2 p 13) (onP G cs sv p)) := fun z => by
    obtain ⟨a1, a2, a3⟩ := s8 z
    rw [a1]
    rcases a3 with a3 | a3
    · rw [a3]; exact nzS_R0
    · exact nzS_R (P2 a3) a2
  obtain ⟨_, or9, or8⟩ := h.1 r hr
  refine ⟨c2, ⟨fun x hx => ?_, fun x hx => ?_⟩, un, cp.trans hvp⟩
  · by_cases e : x = r
    · subst e
      refine ⟨?_, fun z => ?_, fun z => ?_⟩
      · rw [cr, r6, r7, lvS_r, cp, lvA_eq2 un (np94 x hr) (nr7 x hr)]
      · rw [r6, lvS_r, cp, hvp]
        rcases r9 z with z1 | z1
        · exact Or.inl (or9 z1)
        · obtain ⟨z2, z3⟩ := m9 z1
          exact Or.inr ⟨z3, P1 z2⟩
      · rw [r6, lvS_r, cp, hvp]
        obtain ⟨z1, z2⟩ := r8 z
        exact nzS_C (or8 z1) (zp z2)
    · rw [un x (n94 x hx) e, ev x (.inr hx) e (n94 x hx) 6, ev x (.inr hx) e (n94 x hx) 7, ei x (.inr hx) e (n94 x hx) 8, ei x (.inr hx) e (n94 x hx) 9, lvA_eq2 un (np94 x hx) (nr7 x hx), lvS_eq2 un (hu.2 x hx) (nr94 x hx)]
      exact h.1 x hx
  · by_cases ep : x = p
    · subst ep
      refine ⟨?_, fun _ z => ?_, fun z => ?_⟩
      · unfold reP
        rw [eo, cp, p7, lvS_eq2 un (hu.2 r hr) (nr94 r hr), hvp]
      · rw [eo]; exact P1 (m10.symm.trans z)
      · unfold reP
        rw [eo]; exact zp z
    · have e := n90 x hx
      have t := h.2 x hx
      by_cases eg : x = g
      · subst eg
        have g11 : fi G2 x 11 = 0 := (ei x (.inl hx) e ep 11).trans f11
        have g12 : fi G2 x 12 = 0 := (ei x (.inl hx) e ep 12).trans f12
        refine ⟨?_, dn_new g11 g12⟩
        have t1 := t.1
        rw [reP_0 f11 f12] at t1
        rw [un x ep e, reP_0 g11 g12, ev x (.inl hx) e ep 7, lvS_eq2 un (hu.1 x hx) (nr90 x hx)]
        exact t1
      · unfold reP onP at t ⊢
        rw [un x ep e, ei x (.inl hx) e ep 0, ei x (.inl hx) e ep 1, ei x (.inl hx) e ep 8, ei x (.inl hx) e ep 10, ei x (.inl hx) e ep 11, ei x (.inl hx) e ep 12, ei x (.inl hx) e ep 13, ev x (.inl hx) e ep 6, ev x (.inl hx) e ep 7, lvS_eq2 un (hu.1 x hx) (nr90 x hx), lvS_eq2 un (np90 x hx) (nr6 x hx eg)]
        exact t
