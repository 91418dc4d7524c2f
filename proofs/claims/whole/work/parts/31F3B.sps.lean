/-! what the steps mean -/
def chS (al c x : Int) : Prop := one al c c x ∧ ¬ cs_gap x
def kdS (k : Nat) (b x : Int) : Prop := kmem k b x ∧ ¬ cs_gap x
def dtS (d x : Int) : Prop := ((0 ≤ x ∧ x ≤ 1114111) ∧ ¬ cs_gap x) ∧ (d = 1 ∨ ¬ x = 10)
/-- a leaf at p means v, q is next -/
def lfM (f : Int → Int) (n flg p : Int) (v : Sn) (q : Int) : Prop :=
  (tpk f n p = 92 ∧ ∃ c : Int, esc1 f n p c q ∧ ((0 ≤ c ∧ v = mnS (chS (flg % 2) c)) ∨ (c = -3 ∧ v = mnA) ∨ (c < -3 ∧ v = mnQ (-4 - c))))
  ∨ (tpk f n p = 92 ∧ ∃ (k : Nat) (b : Int), esc2 f n p q k b ∧ v = mnS (kdS k b))
  ∨ (tpk f n p = 91 ∧ ∃ (no fi : Int) (P : Int → Prop), clb f n p no fi ∧ clT f n (flg % 2) fi (q - 1) P ∧ (tpk f n (q - 1) = 93 ∧ fi < q - 1) ∧ v = mnS (clno no P))
  ∨ (tpk f n p = 46 ∧ q = p + 1 ∧ v = mnS (dtS (flg / 4 % 2)))
  ∨ (tpk f n p = 94 ∧ q = p + 1 ∧ v = mnQ (2 * (flg / 2 % 2)))
  ∨ (tpk f n p = 36 ∧ q = p + 1 ∧ v = mnQ (1 + 2 * (flg / 2 % 2)))
  ∨ (plc (tpk f n p) ∧ 0 ≤ u8 f n p ∧ q = p + wd (u8 f n p) ∧ v = mnS (chS (flg % 2) (u8 f n p)))
def lzR (f : Int → Int) (n e flg : Int) : Int := if (tpk f n e = 63 ∧ flg / 8 % 2 = 1) ∨ (¬ tpk f n e = 63 ∧ ¬ flg / 8 % 2 = 1) then 0 else 1
/-- an item that makes a part, and what that means, once -/
def ptV (f : Int → Int) (n p flg : Int) (fr : List Fr) (FS : List Fs) (p2 : Int) (FS2 : List Fs) (v : Sn) : Prop :=
  (lfM f n flg p v p2 ∧ FS2 = FS)
  ∨ (tpk f n p = 41 ∧ ∃ (a b c d e : Int) (t : List Fr) (bo : Option Sn) (w : Sn), fr = (a, b, c, d, e) :: t ∧ FS = (bo, w) :: FS2 ∧ v = mnG c (opO bo w))
/-- an item that makes none -/
def ptW (f : Int → Int) (n p : Int) (fr fr2 : List Fr) (FS FS2 : List Fs) : Prop :=
  (tpk f n p = 124 ∧ ∃ (ao : Option Sn) (w : Sn) (t : List Fs), FS = (ao, w) :: t ∧ FS2 = (some (opO ao w), mnI) :: t)
  ∨ (tpk f n p = 40 ∧ ((fr2.length = fr.length + 1 ∧ FS2 = (none, mnI) :: FS) ∨ (fr2.length = fr.length ∧ FS2 = FS)))
/-- what is open; what the row meant before the last part; what that means, once -/
abbrev SS := List Fs × Sn × Sn
def stS (f : Int → Int) (n : Int) : Sta → SS → Sta → SS → Prop
  | (p, flg, _, _, _, fr, _, _), (FS, ro, v), (p2, _, _, _, _, fr2, rp2, _), (FS2, rw2, v2) =>
  (rp2 = 1 ∧ ∃ (ao : Option Sn) (t : List Fs), ptV f n p flg fr FS p2 ((ao, rw2) :: t) v2 ∧ FS2 = (ao, mnC rw2 v2) :: t)
  ∨ (rp2 = 0 ∧ ptW f n p fr fr2 FS FS2 ∧ rw2 = mnI ∧ v2 = mnI)
  ∨ (rp2 = 0 ∧ (∃ (l m e k : Int) (ao : Option Sn) (w : Sn) (t : List Fs), repR f n p l m e k ∧ FS = (ao, w) :: t ∧ FS2 = (ao, mnC ro (mnR l m (lzR f n e flg) v)) :: t) ∧ rw2 = mnI ∧ v2 = mnI)
def ss0 : SS := ([((none : Option Sn), mnI)], mnI, mnI)
def rsS (f : Int → Int) (n fl : Int) : Nat → Sta → SS → Prop
  | 0, s, S => s = st0 fl ∧ S = ss0
  | k + 1, s2, S2 => ∃ (s : Sta) (S : SS), rsS f n fl k s S ∧ stp f n s s2 ∧ stS f n s S s2 S2
section SsDet
variable {f : Int → Int} {n fl : Int}
theorem rsS_c : ∀ (k : Nat) (s : Sta) (S : SS), rsS f n fl k s S → rsc f n fl k s := by
  intro k
  induction k with
  | zero => intro s S h; exact h.1
  | succ k ih =>
    intro s S h
    obtain ⟨s1, S1, h1, h2, _⟩ := h
    exact ⟨s1, ih s1 S1 h1, h2⟩
end SsDet
/-- what a whole pattern means -/
def rdM (f : Int → Int) (n fl : Int) (v : Sn) : Prop := ∃ (k : Nat) (s : Sta) (FS : List Fs) (ro x : Sn) (ao : Option Sn) (w : Sn), rsS f n fl k s (FS, ro, x) ∧ (∀ y, ¬ stp f n s y) ∧ FS = [(ao, w)] ∧ v = opO ao w
theorem lfM_16 {f : Int → Int} {n flg p q : Int} {v : Sn} (h : lfM f n flg p v q) : lfM f n (flg % 16) p v q := by
  have e1 : flg % 16 % 2 = flg % 2 := by omega
  have e2 : flg % 16 / 4 % 2 = flg / 4 % 2 := by omega
  have e3 : flg % 16 / 2 % 2 = flg / 2 % 2 := by omega
  unfold lfM at *
  rw [e1, e2, e3]
  exact h
theorem lzR_16 {f : Int → Int} {n e flg : Int} : lzR f n e (flg % 16) = lzR f n e flg := by
  have e1 : flg % 16 / 8 % 2 = flg / 8 % 2 := by omega
  unfold lzR
  rw [e1]
/-! leaves -/
theorem ch_0 {al c : Int} (h : al = 0) (hg : ¬ cs_gap c) : ∀ x, c = x ↔ chS al c x := fun x => by
  constructor
  · intro e
    subst e
    exact ⟨Or.inr ⟨h, Int.le_refl _, Int.le_refl _⟩, hg⟩
  · intro ⟨h1, _⟩
    rcases h1 with ⟨h1, _⟩ | ⟨_, h1, h2⟩
    · omega
    · omega
theorem ch_1 {al c m : Int} {q : Int → Int} (hm : ∀ x, cs_mem q m x ↔ one al c c x ∧ ¬ cs_gap x) (h1 : m = 1) (h2 : q 0 = q 1) (ha : al = 1) (hg : ¬ cs_gap c) : ∀ x, c = x ↔ chS al c x := by
  have key : ∀ x, cs_mem q m x → x = q 0 := fun x ⟨i, i0, i1, i2, i3⟩ => by
    have e : i = 0 := by omega
    rw [e] at i2 i3
    have i2' : q 0 ≤ x := i2
    have i3' : x ≤ q 1 := i3
    omega
  have hc : c = q 0 := key c ((hm c).mpr ⟨Or.inl ⟨ha, alike_self c⟩, hg⟩)
  intro x
  constructor
  · intro e
    subst e
    exact ⟨Or.inl ⟨ha, alike_self c⟩, hg⟩
  · intro h
    have := key x ((hm x).mpr h)
    omega
theorem cs_l4 {f : Int → Int} {x : Int} : cs_mem f 2 x ↔ (f 0 ≤ x ∧ x ≤ f 1) ∨ (f 2 ≤ x ∧ x ≤ f 3) := by
  constructor
  · intro ⟨i, i0, i1, i2, i3⟩
    rcases (show i = 0 ∨ i = 1 by omega) with e | e
    · subst e; exact Or.inl ⟨i2, i3⟩
    · subst e; exact Or.inr ⟨i2, i3⟩
  · intro h
    rcases h with h | h
    · exact ⟨0, by omega, by omega, h.1, h.2⟩
    · exact ⟨1, by omega, by omega, h.1, h.2⟩
theorem cs_l6 {f : Int → Int} {x : Int} : cs_mem f 3 x ↔ (f 0 ≤ x ∧ x ≤ f 1) ∨ (f 2 ≤ x ∧ x ≤ f 3) ∨ (f 4 ≤ x ∧ x ≤ f 5) := by
  constructor
  · intro ⟨i, i0, i1, i2, i3⟩
    rcases (show i = 0 ∨ i = 1 ∨ i = 2 by omega) with e | e | e
    · subst e; exact Or.inl ⟨i2, i3⟩
    · subst e; exact Or.inr (Or.inl ⟨i2, i3⟩)
    · subst e; exact Or.inr (Or.inr ⟨i2, i3⟩)
  · intro h
    rcases h with h | h | h
    · exact ⟨0, by omega, by omega, h.1, h.2⟩
    · exact ⟨1, by omega, by omega, h.1, h.2⟩
    · exact ⟨2, by omega, by omega, h.1, h.2⟩
theorem tbI.dot13 {o : Nat → Nat} {G : ab_G} {z : Nat} (h : tbI o G z) : ∃ (w : Nat) (q : Int → Int) (m : Int), cc o G 13 13 (za w q) ∧ (↑w = 2 * m ∧ 0 ≤ m ∧ m ≤ 9) ∧ cs_can q m ∧ w = 4 ∧ ∀ x, cs_mem q m x ↔ dtS 1 x := by
  have t := zTL_ok 13 (by decide)
  refine ⟨_, _, 2, h 13 (by decide) (by decide), by decide, canB_ok (l := zTL 13) t.1, by decide, fun x => ?_⟩
  rw [cs_l4]
  unfold dtS cs_gap
  show ((0 : Int) ≤ x ∧ x ≤ 55295) ∨ ((57344 : Int) ≤ x ∧ x ≤ 1114111) ↔ _
  omega
theorem tbI.dot14 {o : Nat → Nat} {G : ab_G} {z : Nat} (h : tbI o G z) : ∃ (w : Nat) (q : Int → Int) (m : Int), cc o G 14 14 (za w q) ∧ (↑w = 2 * m ∧ 0 ≤ m ∧ m ≤ 9) ∧ cs_can q m ∧ w = 6 ∧ ∀ x, cs_mem q m x ↔ dtS 0 x := by
  have t := zTL_ok 14 (by decide)
  refine ⟨_, _, 3, h 14 (by decide) (by decide), by decide, canB_ok (l := zTL 14) t.1, by decide, fun x => ?_⟩
  rw [cs_l6]
  unfold dtS cs_gap
  show ((0 : Int) ≤ x ∧ x ≤ 9) ∨ ((11 : Int) ≤ x ∧ x ≤ 55295) ∨ ((57344 : Int) ≤ x ∧ x ≤ 1114111) ↔ _
  omega
