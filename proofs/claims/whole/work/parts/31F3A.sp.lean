/-! what a pattern says: one step is an item or a repeat -/
/-- a byte that begins a plain character or a repeat -/
def plc (c : Int) : Prop := ¬ c = -1 ∧ ¬ c = 92 ∧ ¬ c = 91 ∧ ¬ c = 40 ∧ ¬ c = 41 ∧ ¬ c = 46 ∧ ¬ c = 94 ∧ ¬ c = 36 ∧ ¬ c = 124
/-- a leaf at p: its size s, q is next -/
def lfR (f : Int → Int) (n flg p s q : Int) : Prop :=
  (tpk f n p = 92 ∧ ∃ v : Int, esc1 f n p v q ∧ ((0 ≤ v ∧ chz (flg % 2) v s) ∨ (v < -2 ∧ s = 1)))
  ∨ (tpk f n p = 92 ∧ ∃ (k : Nat) (b : Int), esc2 f n p q k b ∧ kdz k b s)
  ∨ (tpk f n p = 91 ∧ ∃ (no fi : Int) (P : Int → Prop), clb f n p no fi ∧ clT f n (flg % 2) fi (q - 1) P ∧ (tpk f n (q - 1) = 93 ∧ fi < q - 1) ∧ clz no P s)
  ∨ (tpk f n p = 46 ∧ q = p + 1 ∧ ((flg / 4 % 2 = 1 ∧ s = 10) ∨ (flg / 4 % 2 = 0 ∧ s = 14)))
  ∨ ((tpk f n p = 94 ∨ tpk f n p = 36) ∧ q = p + 1 ∧ s = 1)
  ∨ (plc (tpk f n p) ∧ norp f n p ∧ 0 ≤ u8 f n p ∧ q = p + wd (u8 f n p) ∧ chz (flg % 2) (u8 f n p) s)
/-- no leaf: the fault -/
def lfF (f : Int → Int) (n flg p w r : Int) : Prop :=
  (tpk f n p = 92 ∧ esc3 f n p w ∧ r = p)
  ∨ (tpk f n p = 91 ∧ ∃ no fi : Int, clb f n p no fi ∧ clN f n (flg % 2) p fi w r)
  ∨ (plc (tpk f n p) ∧ norp f n p ∧ u8 f n p = -1 ∧ w = 1 ∧ r = p)
/-- an item that makes a part: a leaf, or a group that is closed -/
def ptP (f : Int → Int) (n p flg : Int) (fr : List Fr) (p2 flg2 : Int) (fr2 : List Fr) (s : Int) : Prop :=
  (lfR f n flg p s p2 ∧ flg2 = flg ∧ fr2 = fr)
  ∨ (tpk f n p = 41 ∧ p2 = p + 1 ∧ ∃ a b c d e : Int, fr = (a, b, c, d, e) :: fr2 ∧ 1 ≤ fr2.length ∧ flg2 = b ∧ s = pin 4 c + e + d)
/-- an item that makes none -/
def ptN (f : Int → Int) (n p flg grp : Int) (NA NL : Int → Int) (fr : List Fr) (p2 flg2 grp2 : Int) (NA2 NL2 : Int → Int) (fr2 : List Fr) : Prop :=
  (tpk f n p = 124 ∧ (p2 = p + 1 ∧ flg2 = flg ∧ grp2 = grp ∧ NA2 = NA ∧ NL2 = NL) ∧ ∃ (a b c d e : Int) (t : List Fr), fr = (a, b, c, d, e) :: t ∧ fr2 = (a, b, c, d + e + 1, 0) :: t)
  ∨ (tpk f n p = 40 ∧ ¬ tpk f n (p + 1) = 63 ∧ (fr.length ≤ 30 ∧ grp < 9) ∧ (p2 = p + 1 ∧ flg2 = flg ∧ grp2 = grp + 1 ∧ NA2 = zu NA (grp + 1) 0 ∧ NL2 = zu NL (grp + 1) 0) ∧ fr2 = (p, flg, grp + 1, 0, 0) :: fr)
  ∨ (tpk f n p = 40 ∧ tpk f n (p + 1) = 63 ∧ (tpk f n (p + 1 + 1) = 80 ∧ tpk f n (p + 1 + 2) = 60) ∧ ∃ nm : Int, (nmR f n (p + 4) nm ∧ ¬ nm = 0 ∧ tkI f NA NL (grp + 1) (p + 4) nm 0) ∧ (fr.length ≤ 30 ∧ grp < 9) ∧ (p2 = p + 5 + nm ∧ flg2 = flg ∧ grp2 = grp + 1 ∧ NA2 = zu NA (grp + 1) (p + 4) ∧ NL2 = zu NL (grp + 1) nm) ∧ fr2 = (p, flg, grp + 1, 0, 0) :: fr)
  ∨ (tpk f n p = 40 ∧ tpk f n (p + 1) = 63 ∧ ¬ (tpk f n (p + 1 + 1) = 80 ∧ tpk f n (p + 1 + 2) = 60) ∧ ∃ e : Int, flgR f n (p + 2) flg flg2 e ∧ (p2 = e + 1 ∧ grp2 = grp ∧ NA2 = NA ∧ NL2 = NL) ∧ ((tpk f n e = 58 ∧ fr.length ≤ 30 ∧ fr2 = (p, flg, 0, 0, 0) :: fr) ∨ (¬ tpk f n e = 58 ∧ fr2 = fr)))
/-- a repeat that stands behind nothing -/
def strF (f : Int → Int) (n p w r : Int) : Prop := plc (tpk f n p) ∧ (∃ l m e k : Int, repR f n p l m e k) ∧ w = 8 ∧ r = p
/-- an item that is none: the fault -/
def ptF (f : Int → Int) (n p flg grp : Int) (NA NL : Int → Int) (fr : List Fr) (w r : Int) : Prop :=
  lfF f n flg p w r
  ∨ (tpk f n p = 40 ∧ opF f n p flg grp (fr.length - 1) NA NL w ∧ r = p)
  ∨ (tpk f n p = 41 ∧ fr.length = 1 ∧ w = 3 ∧ r = p)
abbrev Sta := Int × Int × Int × (Int → Int) × (Int → Int) × List Fr × Int × Int
/-- a repeat behind a part of size ls -/
def rpS (f : Int → Int) (n p : Int) (fr : List Fr) (ls p2 : Int) (fr2 : List Fr) : Prop := ∃ l m e k a b c d x : Int, ∃ t : List Fr, repR f n p l m e k ∧ ¬ (k = 1 ∧ tooR l m) ∧ askR f n e p2 ∧ fr = (a, b, c, d, x) :: t ∧ fr2 = (a, b, c, d, x - ls + (tms l m * ls + mre l m)) :: t
def stp (f : Int → Int) (n : Int) : Sta → Sta → Prop
  | (p, flg, grp, na, nl, fr, rp, ls), (p2, flg2, grp2, na2, nl2, fr2, rp2, ls2) =>
  ((∃ a b c d e : Int, ∃ t : List Fr, ptP f n p flg fr p2 flg2 ((a, b, c, d, e) :: t) ls2 ∧ fr2 = (a, b, c, d, e + ls2) :: t) ∧ rp2 = 1 ∧ grp2 = grp ∧ na2 = na ∧ nl2 = nl)
  ∨ (ptN f n p flg grp na nl fr p2 flg2 grp2 na2 nl2 fr2 ∧ rp2 = 0 ∧ ls2 = 0)
  ∨ (rp = 1 ∧ rpS f n p fr ls p2 fr2 ∧ rp2 = 0 ∧ ls2 = 0 ∧ flg2 = flg ∧ grp2 = grp ∧ na2 = na ∧ nl2 = nl)
def stF (f : Int → Int) (n : Int) : Sta → Int → Int → Prop
  | (p, flg, grp, na, nl, fr, rp, _), w, r =>
  ptF f n p flg grp na nl fr w r
  ∨ (¬ rp = 1 ∧ strF f n p w r)
  ∨ (rp = 1 ∧ (∃ l m e k : Int, repR f n p l m e k ∧ k = 1 ∧ tooR l m) ∧ w = 9 ∧ r = p)
def st0 (fl : Int) : Sta := (0, fl, 0, fun _ => 0, fun _ => 0, [((-1 : Int), (0 : Int), (0 : Int), (0 : Int), (0 : Int))], 0, 0)
def rsc (f : Int → Int) (n fl : Int) : Nat → Sta → Prop
  | 0, s => s = st0 fl
  | k + 1, s2 => ∃ s : Sta, rsc f n fl k s ∧ stp f n s s2
/-- how the reading ends: a fault -/
def enF (f : Int → Int) (n : Int) : Sta → Int → Int → Prop
  | (p, flg, grp, na, nl, fr, rp, ls), w, r =>
  (p < n ∧ stF f n (p, flg, grp, na, nl, fr, rp, ls) w r)
  ∨ (n ≤ p ∧ 1 < fr.length ∧ (∃ (a b c d e : Int) (t : List Fr), fr = (a, b, c, d, e) :: t ∧ r = a) ∧ w = 2)
  ∨ (n ≤ p ∧ (∃ a b c d e : Int, fr = [(a, b, c, d, e)] ∧ 400 < d + e) ∧ w = 14 ∧ r = -1)
/-- or a pattern of size s -/
def enK (n : Int) : Sta → Int → Int → (Int → Int) → (Int → Int) → Prop
  | (p, _, grp, na, nl, fr, _, _), g, s, ma, ml => n ≤ p ∧ (∃ a b c d e : Int, fr = [(a, b, c, d, e)] ∧ s = d + e ∧ s ≤ 400) ∧ g = grp ∧ ma = na ∧ ml = nl
def rdF (f : Int → Int) (n fl w r : Int) : Prop := ∃ (k : Nat) (s : Sta), rsc f n fl k s ∧ enF f n s w r
def rdK (f : Int → Int) (n fl g sz : Int) (na nl : Int → Int) : Prop := ∃ (k : Nat) (s : Sta), rsc f n fl k s ∧ enK n s g sz na nl
/-! one thing only is said at a place -/
theorem u8_neg {f : Int → Int} {n p : Int} (h : n ≤ p) : u8 f n p = -1 := by
  unfold u8
  rw [if_pos (Or.inr h)]
theorem repR_c {f : Int → Int} {n p l m e k : Int} (h : repR f n p l m e k) : tpk f n p = 42 ∨ tpk f n p = 43 ∨ tpk f n p = 63 ∨ tpk f n p = 123 := by
  rcases h with h | h | h | ⟨h, _⟩ <;> omega
theorem clb_det {f : Int → Int} {n p a b c d : Int} (h : clb f n p a b) (h2 : clb f n p c d) : a = c ∧ b = d := by
  unfold clb at *
  omega
theorem clS_up {f : Int → Int} {n al q : Int} {P : Int → Prop} {q2 : Int} {P2 : Int → Prop} (hb : bytes f n) (h : clS f n al q P q2 P2) (hq : 0 ≤ q) : q < q2 := by
  rcases h with ⟨a0, k, b, a1, a2⟩ | ⟨a0, k, b, a1, a2⟩ | ⟨a0, v, a1, a2, a3⟩ | ⟨a0, v, x, v2, a1, a2, a3, a4, a5, a6⟩
  · rcases a1 with ⟨_, _, _, e⟩ | ⟨_, _, _, e⟩ <;> omega
  · have := esc2_w a1.2; omega
  · rcases a1.1 with ⟨_, _, _, e⟩ | ⟨_, e, _⟩
    · have := wd_in v; omega
    · have := esc1_w e; omega
  · have e1 : q < x := by
      rcases a1.1 with ⟨_, _, _, e⟩ | ⟨_, e, _⟩
      · have := wd_in v; omega
      · have := esc1_w e; omega
    have e2 : x + 1 < q2 := by
      rcases a4 with ⟨_, _, _, e⟩ | ⟨_, e, _⟩
      · have := wd_in v2; omega
      · have := esc1_w e; omega
    omega
/-- the readings of a class are prefixes of one -/
theorem clK_det {f : Int → Int} {n al fi : Int} : ∀ (k : Nat) (q q' : Int) (P P' : Int → Prop), clK f n al fi k q P → clK f n al fi k q' P' → q = q' ∧ ∀ c, P c ↔ P' c := by
  intro k
  induction k with
  | zero =>
    intro q q' P P' h h'
    exact ⟨h.1.trans h'.1.symm, fun c => ⟨fun z => absurd z (h.2 c), fun z => absurd z (h'.2 c)⟩⟩
  | succ k ih =>
    intro q q' P P' h h'
    obtain ⟨a, A, a1, a2, a3⟩ := h
    obtain ⟨b, B, b1, b2, b3⟩ := h'
    obtain ⟨e, hp⟩ := ih a b A B a1 b1
    subst e
    exact clS_det a3 b3 hp
theorem clK_pre {f : Int → Int} {n al fi : Int} : ∀ (d k : Nat) (q : Int) (P : Int → Prop), clK f n al fi (k + d + 1) q P → ∃ (q1 : Int) (P1 : Int → Prop) (q2 : Int) (P2 : Int → Prop), clK f n al fi k q1 P1 ∧ ¬ (tpk f n q1 = 93 ∧ fi < q1) ∧ clS f n al q1 P1 q2 P2 := by
  intro d
  induction d with
  | zero =>
    intro k q P h
    obtain ⟨a, A, a1, a2, a3⟩ := h
    exact ⟨a, A, q, P, a1, a2, a3⟩
  | succ d ih =>
    intro k q P h
    obtain ⟨a, A, a1, _⟩ := h
    exact ih k a A a1
theorem mem3_no {f : Int → Int} {n p op w r v q : Int} (hv : 0 ≤ v) (h : mem3 f n p op w r) (h1 : mem1 f n p v q) : False := by
  rcases h with h | h | h | h
  · rcases h1 with a | a
    · omega
    · have := tpk_w (f := f) (n := n) (i := p) (by omega); omega
  · rcases h1 with a | a
    · have := a.2.2.1; omega
    · exact h.2.1 a.1
  · rcases h1 with a | a
    · exact a.2.1 h.1
    · exact h.2.1.1 _ _ a.2.1
  · rcases h1 with a | a
    · exact a.2.1 h.1
    · obtain ⟨z, y, z1, z2⟩ := h.2.1
      have := esc1_det z1 a.2.1
      omega
theorem tbI.atL {o : Nat → Nat} {G : ab_G} {z : Nat} (h : tbI o G z) (k : Nat) (h1 : 1 ≤ k) (h2 : k ≤ 14) : ∃ (w : Nat) (q : Int → Int) (m : Int), cc o G k k (za w q) ∧ (↑w = 2 * m ∧ 0 ≤ m ∧ m ≤ 9) ∧ cs_can q m ∧ w = (zTL k).length := by
  have t := zTL_ok k (by omega)
  exact ⟨_, _, (((zTL k).length / 2 : Nat) : Int), h k h1 h2, by omega, canB_ok t.1, rfl⟩
theorem flgS_w {f : Int → Int} {n : Int} : ∀ (k : Nat) (p on off mi e a b c : Int), flgS f n k p on off mi = some (e, a, b, c) → p ≤ e ∧ (tpk f n e = 58 ∨ tpk f n e = 41) := by
  intro k
  induction k with
  | zero =>
    intro p on off mi e a b c h
    unfold flgS at h
    cases h
  | succ k ih =>
    intro p on off mi e a b c h
    unfold flgS at h
    by_cases c1 : tpk f n p = 58 ∨ tpk f n p = 41
    · rw [if_pos c1] at h
      cases h
      exact ⟨Int.le_refl _, c1⟩
    · rw [if_neg c1] at h
      by_cases c2 : fof (tpk f n p) = 0
      · rw [if_pos c2] at h
        by_cases c3 : mi = 1 ∨ ¬ tpk f n p = 45
        · rw [if_pos c3] at h
          cases h
        · rw [if_neg c3] at h
          have := ih _ _ _ _ _ _ _ _ h
          exact ⟨by omega, this.2⟩
      · rw [if_neg c2] at h
        by_cases c3 : mi = 1
        · rw [if_pos c3] at h
          have := ih _ _ _ _ _ _ _ _ h
          exact ⟨by omega, this.2⟩
        · rw [if_neg c3] at h
          have := ih _ _ _ _ _ _ _ _ h
          exact ⟨by omega, this.2⟩
theorem flgR_w {f : Int → Int} {n p fl v e : Int} (h : flgR f n p fl v e) : (p ≤ e ∧ e < n) ∧ (tpk f n e = 58 ∨ tpk f n e = 41) := by
  obtain ⟨on, off, mi, h1, _⟩ := h
  have t := flgS_w _ _ _ _ _ _ _ _ _ h1
  have w := tpk_w (f := f) (n := n) (i := e) (by omega)
  exact ⟨⟨t.1, w.2⟩, t.2⟩
theorem nmR_w {f : Int → Int} {n b v : Int} (h : nmR f n b v) : v = 0 ∨ (1 ≤ v ∧ v ≤ 12 ∧ b + v < n) := by
  obtain ⟨le, h1, h2⟩ := h
  rcases h2 with h2 | h2
  · have w := tpk_w (f := f) (n := n) (i := b + le) (by omega)
    omega
  · omega
theorem fl16 : ∀ m : Nat, m < 32 → ∀ k : Nat, k < 16 → ∀ j : Nat, j < 16 → ((m ||| k) ^^^ ((m ||| k) &&& j)) % 16 = ((m % 16 ||| k) ^^^ ((m % 16 ||| k) &&& j)) := by decide +kernel
theorem or16 : ∀ m : Nat, m < 16 → ∀ k : Nat, k < 16 → (m ||| k) < 16 := by decide +kernel
theorem flor16 {x y : Int} (hx : 0 ≤ x ∧ x ≤ 15) (hy : 0 ≤ y ∧ y ≤ 15) : 0 ≤ flor x y ∧ flor x y ≤ 15 := by
  have h := or16 x.toNat (by omega) y.toNat (by omega)
  unfold flor
  omega
theorem flgS_in {f : Int → Int} {n : Int} : ∀ (k : Nat) (p on off mi e a b c : Int), (0 ≤ on ∧ on ≤ 15) → (0 ≤ off ∧ off ≤ 15) → flgS f n k p on off mi = some (e, a, b, c) → (0 ≤ a ∧ a ≤ 15) ∧ (0 ≤ b ∧ b ≤ 15) := by
  intro k
  induction k with
  | zero =>
    intro p on off mi e a b c h1 h2 h
    unfold flgS at h
    cases h
  | succ k ih =>
    intro p on off mi e a b c h1 h2 h
    have ff := fof_in (tpk f n p)
    unfold flgS at h
    by_cases c1 : tpk f n p = 58 ∨ tpk f n p = 41
    · rw [if_pos c1] at h
      cases h
      exact ⟨h1, h2⟩
    · rw [if_neg c1] at h
      by_cases c2 : fof (tpk f n p) = 0
      · rw [if_pos c2] at h
        by_cases c3 : mi = 1 ∨ ¬ tpk f n p = 45
        · rw [if_pos c3] at h
          cases h
        · rw [if_neg c3] at h
          exact ih _ _ _ _ _ _ _ _ h1 h2 h
      · rw [if_neg c2] at h
        by_cases c3 : mi = 1
        · rw [if_pos c3] at h
          exact ih _ _ _ _ _ _ _ _ h1 (flor16 h2 (by omega)) h
        · rw [if_neg c3] at h
          exact ih _ _ _ _ _ _ _ _ (flor16 h1 (by omega)) h2 h
theorem flgR_v {f : Int → Int} {n p fl v e : Int} (h : flgR f n p fl v e) (hf : 0 ≤ fl ∧ fl ≤ 31) : 0 ≤ v ∧ v ≤ 31 := by
  obtain ⟨on, off, mi, h1, _, h3⟩ := h
  obtain ⟨a, b⟩ := flgS_in _ _ _ _ _ _ _ _ _ (by omega) (by omega) h1
  rw [h3]
  exact fland_in (flor_in hf (by omega)) (by omega)
theorem flgR_det {f : Int → Int} {n p fl v e v2 e2 : Int} (h : flgR f n p fl v e) (h2 : flgR f n p fl v2 e2) : v = v2 ∧ e = e2 := by
  obtain ⟨on, off, mi, h1, _, h3⟩ := h
  obtain ⟨on', off', mi', q1, _, q3⟩ := h2
  rw [h1] at q1
  cases q1
  exact ⟨h3.trans q3.symm, rfl⟩
theorem flgR_no {f : Int → Int} {n p fl v e : Int} (h : flgR f n p fl v e) (h2 : noflg f n p) : False := by
  obtain ⟨on, off, mi, h1, hm, h3⟩ := h
  rcases h2 with q | ⟨e', on', mi', q, q2⟩
  · rw [h1] at q
    cases q
  · rw [h1] at q
    cases q
    exact hm ⟨q2, rfl⟩
/-! a step is one -/
theorem lfR_c {f : Int → Int} {n flg p s q : Int} (h : lfR f n flg p s q) : ¬ tpk f n p = -1 ∧ ¬ tpk f n p = 40 ∧ ¬ tpk f n p = 41 ∧ ¬ tpk f n p = 124 := by
  unfold lfR plc at h
  rcases h with ⟨h, _⟩ | ⟨h, _⟩ | ⟨h, _⟩ | ⟨h, _⟩ | ⟨h, _⟩ | ⟨h, _⟩ <;> omega
theorem lfR_rep {f : Int → Int} {n flg p s q l m e k : Int} (h : lfR f n flg p s q) (h2 : repR f n p l m e k) : False := by
  have c := repR_c h2
  unfold lfR at h
  rcases h with ⟨h, _⟩ | ⟨h, _⟩ | ⟨h, _⟩ | ⟨h, _⟩ | ⟨h, _⟩ | ⟨_, h, _⟩
  · omega
  · omega
  · omega
  · omega
  · omega
  · exact h _ _ _ _ h2
/-- two readings of a class that both end are one -/
theorem clT_end {f : Int → Int} {n al fi q q' : Int} {P P' : Int → Prop} (h : clT f n al fi q P) (e : tpk f n q = 93 ∧ fi < q) (h' : clT f n al fi q' P') (e' : tpk f n q' = 93 ∧ fi < q') : q = q' ∧ ∀ c, P c ↔ P' c := by
  obtain ⟨k, h⟩ := h
  obtain ⟨k', h'⟩ := h'
  rcases (show k < k' ∨ k = k' ∨ k' < k by omega) with c | c | c
  · obtain ⟨d, hd⟩ : ∃ d, k' = k + d + 1 := ⟨k' - k - 1, by omega⟩
    rw [hd] at h'
    obtain ⟨q1, P1, _, _, a1, a2, _⟩ := clK_pre d k q' P' h'
    have := (clK_det k q q1 P P1 h a1).1
    subst this
    exact absurd e a2
  · subst c
    exact clK_det k q q' P P' h h'
  · obtain ⟨d, hd⟩ : ∃ d, k = k' + d + 1 := ⟨k - k' - 1, by omega⟩
    rw [hd] at h
    obtain ⟨q1, P1, _, _, a1, a2, _⟩ := clK_pre d k' q P h
    have := (clK_det k' q' q1 P' P1 h' a1).1
    subst this
    exact absurd e' a2
theorem esc13 {f : Int → Int} {n p v q w : Int} (h : esc1 f n p v q) (h2 : esc3 f n p w) : False := h2.1 _ _ h
theorem esc23 {f : Int → Int} {n p q b w : Int} {k : Nat} (h : esc2 f n p q k b) (h2 : esc3 f n p w) : False := h2.2.1 _ _ _ h
theorem esc3_det {f : Int → Int} {n p w w2 : Int} (h : esc3 f n p w) (h2 : esc3 f n p w2) : w = w2 := by
  have a := h.2.2
  have b := h2.2.2
  omega
theorem mem3_det {f : Int → Int} {n p op w r w2 r2 : Int} (h : mem3 f n p op w r) (h2 : mem3 f n p op w2 r2) : w = w2 ∧ r = r2 := by
  have hn : ∀ {x : Int}, tpk f n p = 92 → n ≤ p → False := fun {x} a b => by
    have := tpk_w (f := f) (n := n) (i := p) (by omega); omega
  rcases h with a | a | a | a <;> rcases h2 with b | b | b | b
  · omega
  · omega
  · exact (hn (x := 0) b.1 a.1).elim
  · exact (hn (x := 0) b.1 a.1).elim
  · omega
  · omega
  · exact absurd b.1 a.2.1
  · exact absurd b.1 a.2.1
  · exact (hn (x := 0) a.1 b.1).elim
  · exact absurd a.1 b.2.1
  · exact ⟨esc3_det a.2.1 b.2.1, by omega⟩
  · obtain ⟨_, _, z, _⟩ := b.2.1
    exact (esc13 z a.2.1).elim
  · exact (hn (x := 0) a.1 b.1).elim
  · exact absurd a.1 b.2.1
  · obtain ⟨_, _, z, _⟩ := a.2.1
    exact (esc13 z b.2.1).elim
  · omega
/-- a member that is a kind is no character -/
theorem e2_no {f : Int → Int} {n p v q q2 b : Int} {k : Nat} (h : mem1 f n p v q) (h1 : tpk f n p = 92) (h2 : esc2 f n p q2 k b) : False := by
  rcases h with a | a
  · exact a.2.1 h1
  · exact esc12 a.2.1 h2
theorem e2_no3 {f : Int → Int} {n p op w r q2 b : Int} {k : Nat} (h : mem3 f n p op w r) (h1 : tpk f n p = 92) (h2 : esc2 f n p q2 k b) : False := by
  rcases h with a | a | a | a
  · have := tpk_w (f := f) (n := n) (i := p) (by omega); omega
  · exact a.2.1 h1
  · exact esc23 h2 a.2.1
  · obtain ⟨_, _, z, _⟩ := a.2.1
    exact esc12 z h2
theorem clSF {f : Int → Int} {n al op q : Int} {P : Int → Prop} {q2 : Int} {P2 : Int → Prop} {w r : Int} (h : clS f n al q P q2 P2) (h2 : clF f n op q w r) : False := by
  rcases h with ⟨a0, k, b, a1, a2⟩ | ⟨a0, k, b, a1, a2⟩ | ⟨a0, v, a1, a2, a3⟩ | ⟨a0, v, x, v2, a1, a2, a3, a4, a5, a6⟩ <;> rcases h2 with ⟨c0, c1, _⟩ | ⟨c0, c1⟩ | ⟨c0, v', x', c1, c2, c3⟩
  · exact c1 _ _ _ a1
  · exact c0 a0
  · exact c0 a0
  · exact a0 c0
  · exact e2_no3 c1 a1.1 a1.2
  · exact e2_no c1.1 a1.1 a1.2
  · exact a0 c0
  · exact mem3_no a1.2 c1 a1.1
  · obtain ⟨e1, e2⟩ := mem1_det a1.1 c1.1
    subst e1 e2
    exact a2 c2
  · exact a0 c0
  · exact mem3_no a1.2 c1 a1.1
  · obtain ⟨e1, e2⟩ := mem1_det a1.1 c1.1
    subst e1 e2
    rcases c3 with ⟨d0, _⟩ | ⟨_, d1 | d1 | d1⟩
    · exact a3 d0
    · obtain ⟨_, _, _, _, _, z1, z2⟩ := d1
      exact e2_no a4 z1 z2
    · exact mem3_no (by omega) d1 a4
    · obtain ⟨_, _, v3, q3, z1, z2⟩ := d1
      have := mem1_det a4 z1.1
      omega
theorem clF_det {f : Int → Int} {n op q w r w2 r2 : Int} (h : clF f n op q w r) (h2 : clF f n op q w2 r2) : w = w2 ∧ r = r2 := by
  rcases h with ⟨a0, a1, a2, a3⟩ | ⟨a0, a1⟩ | ⟨a0, v, x, a1, a2, a3⟩ <;> rcases h2 with ⟨c0, c1, c2, c3⟩ | ⟨c0, c1⟩ | ⟨c0, v', x', c1, c2, c3⟩
  · omega
  · exact absurd a0 c0
  · exact absurd a0 c0
  · exact absurd c0 a0
  · exact mem3_det a1 c1
  · exact (mem3_no c1.2 a1 c1.1).elim
  · exact absurd c0 a0
  · exact (mem3_no a1.2 c1 a1.1).elim
  · obtain ⟨e1, e2⟩ := mem1_det a1.1 c1.1
    subst e1 e2
    rcases a3 with a | ⟨a, b | b | b⟩ <;> rcases c3 with c | ⟨c, d | d | d⟩
    · omega
    · omega
    · exact absurd a.1 c
    · omega
    · omega
    · omega
    · obtain ⟨_, _, _, _, _, z1, z2⟩ := b
      exact (e2_no3 d z1 z2).elim
    · omega
    · exact absurd c.1 a
    · obtain ⟨_, _, _, _, _, z1, z2⟩ := d
      exact (e2_no3 b z1 z2).elim
    · exact mem3_det b d
    · obtain ⟨_, _, v3, q3, z1, z2⟩ := d
      exact (mem3_no z1.2 b z1.1).elim
    · omega
    · omega
    · obtain ⟨_, _, v3, q3, z1, z2⟩ := b
      exact (mem3_no z1.2 d z1.1).elim
    · omega
/-- a class that ends has no fault -/
theorem clTN {f : Int → Int} {n al op fi q w r : Int} {P : Int → Prop} (h : clT f n al fi q P) (e : tpk f n q = 93 ∧ fi < q) (h' : clN f n al op fi w r) : False := by
  obtain ⟨q', P', ⟨k', h'⟩, e', hf⟩ := h'
  obtain ⟨k, h⟩ := h
  rcases (show k < k' ∨ k = k' ∨ k' < k by omega) with c | c | c
  · obtain ⟨d, hd⟩ : ∃ d, k' = k + d + 1 := ⟨k' - k - 1, by omega⟩
    rw [hd] at h'
    obtain ⟨q1, P1, _, _, a1, a2, _⟩ := clK_pre d k q' P' h'
    have := (clK_det k q q1 P P1 h a1).1
    subst this
    exact a2 e
  · subst c
    have := (clK_det k q q' P P' h h').1
    subst this
    exact e' e
  · obtain ⟨d, hd⟩ : ∃ d, k = k' + d + 1 := ⟨k - k' - 1, by omega⟩
    rw [hd] at h
    obtain ⟨q1, P1, q2, P2, a1, a2, a3⟩ := clK_pre d k' q P h
    have := (clK_det k' q' q1 P' P1 h' a1).1
    subst this
    exact clSF a3 hf
theorem clN_det {f : Int → Int} {n al op fi w r w2 r2 : Int} (h : clN f n al op fi w r) (h' : clN f n al op fi w2 r2) : w = w2 ∧ r = r2 := by
  obtain ⟨q, P, ⟨k, h⟩, e, hf⟩ := h
  obtain ⟨q', P', ⟨k', h'⟩, e', hf'⟩ := h'
  rcases (show k < k' ∨ k = k' ∨ k' < k by omega) with c | c | c
  · obtain ⟨d, hd⟩ : ∃ d, k' = k + d + 1 := ⟨k' - k - 1, by omega⟩
    rw [hd] at h'
    obtain ⟨q1, P1, _, _, a1, a2, a3⟩ := clK_pre d k q' P' h'
    have := (clK_det k q q1 P P1 h a1).1
    subst this
    exact (clSF a3 hf).elim
  · subst c
    have := (clK_det k q q' P P' h h').1
    subst this
    exact clF_det hf hf'
  · obtain ⟨d, hd⟩ : ∃ d, k = k' + d + 1 := ⟨k - k' - 1, by omega⟩
    rw [hd] at h
    obtain ⟨q1, P1, _, _, a1, a2, a3⟩ := clK_pre d k' q P h
    have := (clK_det k' q' q1 P' P1 h' a1).1
    subst this
    exact (clSF a3 hf').elim
