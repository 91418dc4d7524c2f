/-! the next of all matches, and all of them -/
/-- the next match behind the one that ended at ab (none yet: -1) -/
def nxP (W : Int → List (Int × Gr)) (fy n ab : Int) (S : Option (Int × Gr)) (st : Int) : Prop := ∃ (S1 : Option (Int × Gr)) (t1 : Int), fnR W fy 0 n (max ab 0) n t1 S1 ∧ ((S1 = none ∧ S = none) ∨ (∃ (e : Int) (g : Gr), S1 = some (e, g) ∧ ¬ (t1 = ab ∧ e = ab) ∧ S = S1 ∧ st = t1) ∨ ∃ g : Gr, S1 = some (ab, g) ∧ t1 = ab ∧ ((n ≤ ab ∧ S = none) ∨ (ab < n ∧ fnR W fy 0 n (ab + 1) n st S)))
theorem nxP_det {W : Int → List (Int × Gr)} {fy n ab st st2 : Int} {S S2 : Option (Int × Gr)} (h : nxP W fy n ab S st) (q : nxP W fy n ab S2 st2) : S = S2 ∧ (¬ S = none → st = st2) := by
  obtain ⟨S1, t1, h1, h2⟩ := h
  obtain ⟨R1, u1, q1, q2⟩ := q
  obtain ⟨d1, d2⟩ := fnR_det h1 q1
  subst d1
  rcases h2 with ⟨a1, a2⟩ | ⟨e, g, a1, a2, a3, a4⟩ | ⟨g, a1, a2, a3⟩
  · rcases q2 with ⟨b1, b2⟩ | ⟨e', g', b1, _⟩ | ⟨g', b1, _⟩
    · exact ⟨a2.trans b2.symm, fun z => absurd a2 z⟩
    · cases a1.symm.trans b1
    · cases a1.symm.trans b1
  · have dt : t1 = u1 := d2 (fun z => by cases z.symm.trans a1)
    rcases q2 with ⟨b1, b2⟩ | ⟨e', g', b1, b2, b3, b4⟩ | ⟨g', b1, b2, _⟩
    · cases b1.symm.trans a1
    · exact ⟨a3.trans b3.symm, fun _ => by omega⟩
    · exfalso
      have k := a1.symm.trans b1
      injection k with k
      injection k with k1 k2
      exact a2 ⟨by omega, k1⟩
  · have dt : t1 = u1 := d2 (fun z => by cases z.symm.trans a1)
    rcases q2 with ⟨b1, b2⟩ | ⟨e', g', b1, b2, b3, b4⟩ | ⟨g', b1, b2, b3⟩
    · cases b1.symm.trans a1
    · exfalso
      have k := a1.symm.trans b1
      injection k with k
      injection k with k1 k2
      exact b2 ⟨by omega, k1.symm⟩
    · rcases a3 with ⟨c1, c2⟩ | ⟨c1, c2⟩
      · rcases b3 with ⟨x1, x2⟩ | ⟨x1, _⟩
        · exact ⟨c2.trans x2.symm, fun z => absurd c2 z⟩
        · omega
      · rcases b3 with ⟨x1, _⟩ | ⟨_, x2⟩
        · omega
        · exact fnR_det c2 x2
/-- a match that is next: where it lies -/
theorem nxP_in {W : Int → List (Int × Gr)} {fy n ab st e : Int} {g : Gr} (h : nxP W fy n ab (some (e, g)) st) (hW : ∀ p : Int, 0 ≤ p → p ≤ n → ∀ x ∈ W p, p ≤ x.1 ∧ x.1 ≤ n) (ha : -1 ≤ ab) : 0 ≤ st ∧ st ≤ e ∧ ab < e ∧ e ≤ n ∧ ab ≤ st := by
  have key : ∀ (fr t x : Int) (k : Gr), 0 ≤ fr → fnR W fy 0 n fr n t (some (x, k)) → fr ≤ t ∧ t ≤ x ∧ x ≤ n := fun fr t x k f0 z => by
    rcases z with ⟨z, _⟩ | ⟨_, z1, z2, _⟩
    · cases z
    · have y := hW t (by omega) z1.2 (x, k) (mtR_mem z2)
      have y1 : t ≤ x := y.1
      have y2 : x ≤ n := y.2
      omega
  have m0 : 0 ≤ max ab 0 ∧ ab ≤ max ab 0 := by omega
  obtain ⟨S1, t1, h1, h2⟩ := h
  rcases h2 with ⟨_, a2⟩ | ⟨e', g', a1, a2, a3, a4⟩ | ⟨g', a1, a2, a3⟩
  · cases a2
  · rw [← a3] at h1 a1
    injection a1 with a1
    injection a1 with k1 k2
    have k := key _ _ _ _ m0.1 h1
    by_cases c : e = ab
    · exact absurd ⟨by omega, by omega⟩ a2
    · omega
  · rw [a1] at h1
    have k0 := key _ _ _ _ m0.1 h1
    rcases a3 with ⟨_, c2⟩ | ⟨c1, c2⟩
    · cases c2
    · have k := key _ _ _ _ (by omega) c2
      omega
/-- behind the subject's end there is none -/
theorem nxP_n {W : Int → List (Int × Gr)} {fy n ab st : Int} {S : Option (Int × Gr)} (h : nxP W fy n ab S st) (hW : ∀ p : Int, 0 ≤ p → p ≤ n → ∀ x ∈ W p, p ≤ x.1 ∧ x.1 ≤ n) (ha : n ≤ ab) (h0 : 0 ≤ n) : S = none := by
  cases S with
  | none => rfl
  | some x =>
    have k := nxP_in (e := x.1) (g := x.2) h hW (by omega)
    omega
/-- what is asked first -/
def mxA (af ab : Int) : Prop := af = max ab 0
theorem mxA_0 : mxA 0 (-1) := by unfold mxA; omega
theorem mxA_s {af ab : Int} (h : af = ab) (h0 : 0 ≤ ab) : mxA af ab := by unfold mxA; omega
/-- where all matches were asked for: from the begin, or behind an empty match where the last one ended -/
def nxI (W : Int → List (Int × Gr)) (fy n ab af : Int) : Prop := af = max ab 0 ∨ (af = ab + 1 ∧ 0 ≤ ab ∧ ∃ g : Gr, fnR W fy 0 n (max ab 0) n ab (some (ab, g)))
/-- what the next match leaves -/
def nxC (v : Sn) (f : Int → Int) (n fy ab wi fo : Int) (SP : Int → Int) : Prop := ∃ (S : Option (Int × Gr)) (st : Int), nxP (wyR v f n) fy n ab S st ∧ mch S fo SP wi st
section Nx
variable {v : Sn} {f SP : Int → Int} {n fy ab af wi : Int}
theorem fdC.fn {hw fr fo : Int} (h : fdC v f n fy hw fr wi fo SP) (hh : hw = 0) : ∃ (S : Option (Int × Gr)) (st : Int), fnR (wyR v f n) fy 0 n fr n st S ∧ mch S fo SP wi st := by
  obtain ⟨S, st, h1, h2⟩ := h
  rw [hh, ← laR_0 (n := n) (fr := fr) (rfl : (0 : Int) = 0)] at h1
  exact ⟨S, st, h1, h2⟩
theorem mch_1 {c : Option (Int × Gr)} {st : Int} (h : mch c 1 SP wi st) : ∃ g : Gr, c = some (SP 1, g) ∧ st = SP 0 := by
  rcases h with ⟨_, h⟩ | ⟨e, g, h1, _, h2, h3, _⟩
  · exact absurd h (by decide)
  · exact ⟨g, by rw [h3]; exact h1, h2.symm⟩
theorem nxI_0 (h : af = max ab 0) : nxI (wyR v f n) fy n ab af := Or.inl h
/-- a match lies where it was searched -/
theorem fdC.ge {hw fr : Int} (h : fdC v f n fy hw fr wi 1 SP) : fr ≤ SP 0 := by
  obtain ⟨S, st, h1, h2⟩ := h
  obtain ⟨g, m1, m2⟩ := mch_1 h2
  rcases h1 with ⟨z, _⟩ | ⟨_, z, _⟩
  · cases z.symm.trans m1
  · omega
theorem fdC.f1 {hw fr fo : Int} (h : fdC v f n fy hw fr wi fo SP) (e : fo = 1) : fdC v f n fy hw fr wi 1 SP := by
  rw [← e]
  exact h
theorem fdC.f0 {hw fr fo : Int} (h : fdC v f n fy hw fr wi fo SP) (e : fo = 0) : fdC v f n fy hw fr wi 0 SP := by
  rw [← e]
  exact h
theorem nxI.e {a2 : Int} (h : nxI (wyR v f n) fy n ab af) (e : af = a2) : nxI (wyR v f n) fy n ab a2 := by
  rw [← e]
  exact h
/-- an empty match where the last one ended -/
theorem nxI_s {hw : Int} (h : nxI (wyR v f n) fy n ab af) (q : fdC v f n fy hw af wi 1 SP) (hh : hw = 0) (h1 : SP 0 = SP 1) (h2 : SP 0 = ab) (h0 : 0 ≤ SP 0) : nxI (wyR v f n) fy n ab (SP 0 + 1) := by
  have h3 := q.ge
  rcases h with e | ⟨e, _⟩
  · obtain ⟨S, st, q1, q2⟩ := q.fn hh
    obtain ⟨g, m1, m2⟩ := mch_1 q2
    rw [m1, m2, ← h1, h2, e] at q1
    exact Or.inr ⟨by omega, by omega, g, q1⟩
  · omega
/-- the search went behind the end -/
theorem nxC_e (h : nxI (wyR v f n) fy n ab af) (h1 : n < af) (h2 : ab ≤ n) (h0 : 0 ≤ n) : nxC v f n fy ab wi 0 SP := by
  rcases h with e | ⟨e, a, g, q⟩
  · omega
  · exact ⟨none, 0, ⟨_, _, q, Or.inr (Or.inr ⟨g, rfl, rfl, Or.inl ⟨by omega, rfl⟩⟩)⟩, Or.inl ⟨rfl, rfl⟩⟩
theorem mch_0 {c : Option (Int × Gr)} {st : Int} (h : mch c 0 SP wi st) : c = none := by
  rcases h with ⟨h, _⟩ | ⟨e, g, _, h, _⟩
  · exact h
  · exact absurd h (by decide)
/-- nothing more was found -/
theorem nxC_n {hw : Int} (h : nxI (wyR v f n) fy n ab af) (q : fdC v f n fy hw af wi 0 SP) (hh : hw = 0) (h1 : af ≤ n) : nxC v f n fy ab wi 0 SP := by
  obtain ⟨S, st, q1, q2⟩ := q.fn hh
  have e0 := mch_0 q2
  rw [e0] at q1
  rcases h with e | ⟨e, a, g, z⟩
  · rw [e] at q1
    exact ⟨none, st, ⟨none, st, q1, Or.inl ⟨rfl, rfl⟩⟩, Or.inl ⟨rfl, rfl⟩⟩
  · rw [e] at q1
    exact ⟨none, st, ⟨_, _, z, Or.inr (Or.inr ⟨g, rfl, rfl, Or.inr ⟨by omega, q1⟩⟩)⟩, Or.inl ⟨rfl, rfl⟩⟩
theorem nxC_y {hw : Int} (h : nxI (wyR v f n) fy n ab af) (q : fdC v f n fy hw af wi 1 SP) (hh : hw = 0) (h1 : af ≤ n) (h2 : ¬ (SP 0 = ab ∧ SP 1 = ab)) : nxC v f n fy ab wi 1 SP := by
  obtain ⟨S, st, q1, q2⟩ := q.fn hh
  obtain ⟨g, m1, m2⟩ := mch_1 q2
  rcases h with e | ⟨e, a, g', z⟩
  · rw [e] at q1
    exact ⟨S, st, ⟨S, st, q1, Or.inr (Or.inl ⟨_, _, m1, fun k => h2 ⟨by omega, k.2⟩, rfl, rfl⟩)⟩, q2⟩
  · rw [e] at q1
    exact ⟨S, st, ⟨_, _, z, Or.inr (Or.inr ⟨g', rfl, rfl, Or.inr ⟨by omega, q1⟩⟩)⟩, q2⟩
end Nx
/-! all matches, as a row of pairs has them -/
def sqK (W : Int → List (Int × Gr)) (fy n : Int) (A : Int → Int) : Nat → Int → Prop
  | 0, ab => ab = -1
  | k + 1, ab => ∃ (a0 st : Int) (g : Gr), sqK W fy n A k a0 ∧ nxP W fy n a0 (some (ab, g)) st ∧ A (2 * (k : Int)) = st ∧ A (2 * (k : Int) + 1) = ab
theorem sqK_eq {W : Int → List (Int × Gr)} {fy n : Int} {A B : Int → Int} : ∀ (k : Nat) (ab : Int), sqK W fy n A k ab → (∀ i : Int, 0 ≤ i → i < 2 * (k : Int) → B i = A i) → sqK W fy n B k ab := by
  intro k
  induction k with
  | zero => intro ab h _; exact h
  | succ k ih =>
    intro ab h q
    obtain ⟨a0, st, g, h1, h2, h3, h4⟩ := h
    exact ⟨a0, st, g, ih a0 h1 (fun i i0 i1 => q i i0 (by omega)), h2, (q _ (by omega) (by omega)).trans h3, (q _ (by omega) (by omega)).trans h4⟩
/-- one more -/
theorem sqK_s {W : Int → List (Int × Gr)} {fy n ab st e : Int} {g : Gr} {A B : Int → Int} {k : Nat} (h : sqK W fy n A k ab) (q : nxP W fy n ab (some (e, g)) st) (hB : ∀ i : Int, 0 ≤ i → i < 2 * (k : Int) → B i = A i) (h0 : B (2 * (k : Int)) = st) (h1 : B (2 * (k : Int) + 1) = e) : sqK W fy n B (k + 1) e := ⟨ab, st, g, sqK_eq k ab h hB, q, h0, h1⟩
theorem sqK_in {W : Int → List (Int × Gr)} {fy n : Int} {A : Int → Int} (hW : ∀ p : Int, 0 ≤ p → p ≤ n → ∀ x ∈ W p, p ≤ x.1 ∧ x.1 ≤ n) (h0 : 0 ≤ n) : ∀ (k : Nat) (ab : Int), sqK W fy n A k ab → (k : Int) ≤ ab + 1 ∧ -1 ≤ ab ∧ ab ≤ n := by
  intro k
  induction k with
  | zero => intro ab h; have h2 : ab = -1 := h; omega
  | succ k ih =>
    intro ab h
    obtain ⟨a0, st, g, h1, h2, _⟩ := h
    have i := ih a0 h1
    have j := nxP_in h2 hW i.2.1
    omega
/-- the same matches -/
theorem sqK_det {W : Int → List (Int × Gr)} {fy n : Int} {A B : Int → Int} : ∀ (k : Nat) (ab a2 : Int), sqK W fy n A k ab → sqK W fy n B k a2 → ab = a2 ∧ ∀ i : Int, 0 ≤ i → i < 2 * (k : Int) → A i = B i := by
  intro k
  induction k with
  | zero =>
    intro ab a2 h q
    have h2 : ab = -1 := h
    have q2 : a2 = -1 := q
    exact ⟨by omega, fun i i0 i1 => by omega⟩
  | succ k ih =>
    intro ab a2 h q
    obtain ⟨a0, st, g, h1, h2, h3, h4⟩ := h
    obtain ⟨b0, su, g2, q1, q2, q3, q4⟩ := q
    obtain ⟨e0, eA⟩ := ih a0 b0 h1 q1
    rw [← e0] at q2
    obtain ⟨d1, d2⟩ := nxP_det h2 q2
    have d3 := d2 (fun z => by cases z)
    injection d1 with d1
    injection d1 with k1 k2
    refine ⟨k1, fun i i0 i1 => ?_⟩
    by_cases c : i < 2 * (k : Int)
    · exact eA i i0 c
    · by_cases d : i = 2 * (k : Int)
      · rw [d, h3, q3]; exact d3
      · have d4 : i = 2 * (k : Int) + 1 := by omega
        rw [d4, h4, q4]; exact k1
/-- two rows of matches, the first with no match behind it: the second is no longer -/
theorem sqK_le {W : Int → List (Int × Gr)} {fy n : Int} {A B : Int → Int} {k : Nat} {ab : Int} (h : sqK W fy n A k ab) (hn : ∀ (S : Option (Int × Gr)) (st : Int), nxP W fy n ab S st → S = none) : ∀ (m : Nat) (a2 : Int), sqK W fy n B m a2 → m ≤ k := by
  intro m
  induction m with
  | zero => intro a2 _; omega
  | succ m ih =>
    intro a2 q
    obtain ⟨b0, su, g2, q1, q2, _⟩ := q
    have i := ih b0 q1
    by_cases c : m = k
    · rw [c] at q1
      have e := (sqK_det k ab b0 h q1).1
      rw [← e] at q2
      cases hn _ _ q2
    · omega
/-- all matches: so many, in this row -/
def alC (v : Sn) (f : Int → Int) (n fy m : Int) (A : Int → Int) : Prop := ∃ (k : Nat) (ab : Int), m = (k : Int) ∧ sqK (wyR v f n) fy n A k ab ∧ ∀ (S : Option (Int × Gr)) (st : Int), nxP (wyR v f n) fy n ab S st → S = none
theorem alC_det {v : Sn} {f : Int → Int} {n fy m m2 : Int} {A B : Int → Int} (h : alC v f n fy m A) (q : alC v f n fy m2 B) : m = m2 ∧ ∀ i : Int, 0 ≤ i → i < 2 * m → A i = B i := by
  obtain ⟨k, ab, h1, h2, h3⟩ := h
  obtain ⟨j, a2, q1, q2, q3⟩ := q
  have l1 := sqK_le h2 h3 j a2 q2
  have l2 := sqK_le q2 q3 k ab h2
  have e : j = k := by omega
  rw [e] at q2 q1
  exact ⟨by omega, fun i i0 i1 => (sqK_det k ab a2 h2 q2).2 i i0 (by omega)⟩
theorem nxP_none {W : Int → List (Int × Gr)} {fy n ab st : Int} (h : nxP W fy n ab none st) : ∀ (S : Option (Int × Gr)) (st : Int), nxP W fy n ab S st → S = none := fun S st q => (nxP_det h q).1.symm
theorem wyR_W {v : Sn} {f : Int → Int} {n : Int} (hb : bytes f n) : ∀ p : Int, 0 ≤ p → p ≤ n → ∀ x ∈ wyR v f n p, p ≤ x.1 ∧ x.1 ≤ n := fun p p0 p1 x hx => wyR_in hb p0 p1 x hx
/-- matches found so far: m of them, the last one's end ab -/
def alK (v : Sn) (f : Int → Int) (n fy m ab : Int) (A : Int → Int) : Prop := ∃ k : Nat, m = (k : Int) ∧ sqK (wyR v f n) fy n A k ab
section Al
variable {v : Sn} {f SP A : Int → Int} {n fy m ab wi : Int}
theorem alK_0 : alK v f n fy 0 (-1) A := ⟨0, rfl, rfl⟩
theorem alK_s {e : Int} (h : alK v f n fy m ab A) (q : nxC v f n fy ab wi 1 SP) (he : e = SP 1) : alK v f n fy (m + 1) e (zu (zu A (2 * m) (SP 0)) (2 * m + 1) (SP 1)) := by
  obtain ⟨k, hk, h1⟩ := h
  obtain ⟨S, st, q1, q2⟩ := q
  obtain ⟨g, m1, m2⟩ := mch_1 q2
  rw [m1] at q1
  subst hk
  rw [he]
  refine ⟨k + 1, by omega, sqK_s h1 q1 (fun i i0 i1 => ?_) ?_ (zu_self _ _ _)⟩
  · rw [zu_ne (by omega), zu_ne (by omega)]
  · rw [zu_ne (by omega), zu_self]
    exact m2.symm
theorem alK.cg {B : Int → Int} (h : alK v f n fy m ab A) (hB : ∀ i : Int, 0 ≤ i → i < 2 * m → B i = A i) : alK v f n fy m ab B := by
  obtain ⟨k, hk, h1⟩ := h
  exact ⟨k, hk, sqK_eq k ab h1 (fun i i0 i1 => hB i i0 (by omega))⟩
theorem alK.bd (h : alK v f n fy m ab A) (hb : bytes f n) (h0 : 0 ≤ n) : 0 ≤ m ∧ m ≤ ab + 1 ∧ -1 ≤ ab ∧ ab ≤ n := by
  obtain ⟨k, hk, h1⟩ := h
  have i := sqK_in (wyR_W hb) h0 k ab h1
  omega
theorem alC_of (h : alK v f n fy m ab A) (q : nxC v f n fy ab wi 0 SP) : alC v f n fy m A := by
  obtain ⟨k, hk, h1⟩ := h
  obtain ⟨S, st, q1, q2⟩ := q
  rw [mch_0 q2] at q1
  exact ⟨k, ab, hk, h1, nxP_none q1⟩
/-- so many that there is no room for more -/
theorem alC_n (h : alK v f n fy m ab A) (hb : bytes f n) (h0 : 0 ≤ n) (hm : n + 1 ≤ m) : alC v f n fy m A := by
  have i := h.bd hb h0
  obtain ⟨k, hk, h1⟩ := h
  exact ⟨k, ab, hk, h1, fun S st q => nxP_n q (wyR_W hb) (by omega) h0⟩
end Al
/-! the pieces between the matches: k matches, m pieces before the last, which begins at la -/
def spQ (W : Int → List (Int × Gr)) (fy n : Int) (A : Int → Int) : Nat → Int → Int → Int → Prop
  | 0, m, ab, la => m = 0 ∧ ab = -1 ∧ la = 0
  | k + 1, m, ab, la => ∃ (a0 st : Int) (g : Gr) (m0 l0 : Int), spQ W fy n A k m0 a0 l0 ∧ nxP W fy n a0 (some (ab, g)) st ∧ (((st = ab ∧ (st = 0 ∨ st = n)) ∧ m = m0 ∧ la = l0) ∨ (¬ (st = ab ∧ (st = 0 ∨ st = n)) ∧ m = m0 + 1 ∧ la = ab ∧ A (2 * m0) = l0 ∧ A (2 * m0 + 1) = st))
theorem spQ_in {W : Int → List (Int × Gr)} {fy n : Int} {A : Int → Int} (hW : ∀ p : Int, 0 ≤ p → p ≤ n → ∀ x ∈ W p, p ≤ x.1 ∧ x.1 ≤ n) (h0 : 0 ≤ n) : ∀ (k : Nat) (m ab la : Int), spQ W fy n A k m ab la → ((k : Int) ≤ ab + 1 ∧ -1 ≤ ab ∧ ab ≤ n) ∧ 0 ≤ m ∧ m ≤ (k : Int) ∧ 0 ≤ la ∧ la ≤ n := by
  intro k
  induction k with
  | zero => intro m ab la h; obtain ⟨h1, h2, h3⟩ := h; omega
  | succ k ih =>
    intro m ab la h
    obtain ⟨a0, st, g, m0, l0, h1, h2, h3⟩ := h
    have i := ih m0 a0 l0 h1
    have j := nxP_in h2 hW i.1.2.1
    rcases h3 with ⟨_, e1, e2⟩ | ⟨_, e1, e2, _⟩
    · omega
    · omega
theorem spQ_eq {W : Int → List (Int × Gr)} {fy n : Int} {A B : Int → Int} : ∀ (k : Nat) (m ab la : Int), spQ W fy n A k m ab la → (∀ i : Int, 0 ≤ i → i < 2 * m → B i = A i) → (∀ (j : Nat) (m1 a1 l1 : Int), spQ W fy n A j m1 a1 l1 → 0 ≤ m1) → spQ W fy n B k m ab la := by
  intro k
  induction k with
  | zero => intro m ab la h _ _; exact h
  | succ k ih =>
    intro m ab la h q z
    obtain ⟨a0, st, g, m0, l0, h1, h2, h3⟩ := h
    have p0 := z k m0 a0 l0 h1
    refine ⟨a0, st, g, m0, l0, ih m0 a0 l0 h1 (fun i i0 i1 => q i i0 ?_) z, h2, ?_⟩
    · rcases h3 with ⟨_, e1, _⟩ | ⟨_, e1, _⟩ <;> omega
    · rcases h3 with h3 | ⟨e0, e1, e2, e3, e4⟩
      · exact Or.inl h3
      · exact Or.inr ⟨e0, e1, e2, (q _ (by omega) (by omega)).trans e3, (q _ (by omega) (by omega)).trans e4⟩
theorem spQ_0 {W : Int → List (Int × Gr)} {fy n : Int} {A : Int → Int} : ∀ (k : Nat) (m ab la : Int), spQ W fy n A k m ab la → 0 ≤ m := by
  intro k
  induction k with
  | zero => intro m ab la h; have := h.1; omega
  | succ k ih =>
    intro m ab la h
    obtain ⟨a0, st, g, m0, l0, h1, h2, h3⟩ := h
    have i := ih m0 a0 l0 h1
    rcases h3 with ⟨_, e1, _⟩ | ⟨_, e1, _⟩ <;> omega
theorem spQ_det {W : Int → List (Int × Gr)} {fy n : Int} {A B : Int → Int} : ∀ (k : Nat) (m ab la m2 a2 l2 : Int), spQ W fy n A k m ab la → spQ W fy n B k m2 a2 l2 → m = m2 ∧ ab = a2 ∧ la = l2 ∧ ∀ i : Int, 0 ≤ i → i < 2 * m → A i = B i := by
  intro k
  induction k with
  | zero =>
    intro m ab la m2 a2 l2 h q
    obtain ⟨h1, h2, h3⟩ := h
    obtain ⟨q1, q2, q3⟩ := q
    exact ⟨by omega, by omega, by omega, fun i i0 i1 => by omega⟩
  | succ k ih =>
    intro m ab la m2 a2 l2 h q
    obtain ⟨a0, st, g, m0, l0, h1, h2, h3⟩ := h
    obtain ⟨b0, su, g2, m4, l4, q1, q2, q3⟩ := q
    obtain ⟨e1, e2, e3, e4⟩ := ih m0 a0 l0 m4 b0 l4 h1 q1
    rw [← e2] at q2
    obtain ⟨d1, d2⟩ := nxP_det h2 q2
    have d3 := d2 (fun z => by cases z)
    injection d1 with d1
    injection d1 with k1 k2
    rcases h3 with ⟨x0, x1, x2⟩ | ⟨x0, x1, x2, x3, x4⟩ <;> rcases q3 with ⟨y0, y1, y2⟩ | ⟨y0, y1, y2, y3, y4⟩
    · exact ⟨by omega, k1, by omega, fun i i0 i1 => e4 i i0 (by omega)⟩
    · exact absurd (by rw [← d3, ← k1]; exact x0) y0
    · exact absurd (by rw [d3, k1]; exact y0) x0
    · refine ⟨by omega, k1, by omega, fun i i0 i1 => ?_⟩
      by_cases c : i < 2 * m0
      · exact e4 i i0 c
      · by_cases d : i = 2 * m0
        · rw [d, x3, e1, y3]; exact e3
        · have d4 : i = 2 * m0 + 1 := by omega
          rw [d4, x4, e1, y4]; exact d3
theorem spQ_le {W : Int → List (Int × Gr)} {fy n : Int} {A B : Int → Int} {k : Nat} {m ab la : Int} (h : spQ W fy n A k m ab la) (hn : ∀ (S : Option (Int × Gr)) (st : Int), nxP W fy n ab S st → S = none) : ∀ (j : Nat) (m2 a2 l2 : Int), spQ W fy n B j m2 a2 l2 → j ≤ k := by
  intro j
  induction j with
  | zero => intro m2 a2 l2 _; omega
  | succ j ih =>
    intro m2 a2 l2 q
    obtain ⟨b0, su, g2, m4, l4, q1, q2, q3⟩ := q
    have i := ih m4 b0 l4 q1
    by_cases c : j = k
    · rw [c] at q1
      have e := (spQ_det k m ab la m4 b0 l4 h q1).2.1
      rw [← e] at q2
      cases hn _ _ q2
    · omega
def spK (v : Sn) (f : Int → Int) (n fy m ab la : Int) (A : Int → Int) : Prop := ∃ k : Nat, spQ (wyR v f n) fy n A k m ab la
/-- all pieces: so many, in this row -/
def spC (v : Sn) (f : Int → Int) (n fy m : Int) (A : Int → Int) : Prop := ∃ (k : Nat) (ab la m0 : Int), m = m0 + 1 ∧ spQ (wyR v f n) fy n A k m0 ab la ∧ (∀ (S : Option (Int × Gr)) (st : Int), nxP (wyR v f n) fy n ab S st → S = none) ∧ A (2 * m0) = la ∧ A (2 * m0 + 1) = n
theorem spC_det {v : Sn} {f : Int → Int} {n fy m m2 : Int} {A B : Int → Int} (h : spC v f n fy m A) (q : spC v f n fy m2 B) : m = m2 ∧ ∀ i : Int, 0 ≤ i → i < 2 * m → A i = B i := by
  obtain ⟨k, ab, la, m0, h1, h2, h3, h4, h5⟩ := h
  obtain ⟨j, a2, l2, m4, q1, q2, q3, q4, q5⟩ := q
  have l1 := spQ_le h2 h3 j m4 a2 l2 q2
  have l3 := spQ_le q2 q3 k m0 ab la h2
  have e : j = k := by omega
  rw [e] at q2
  obtain ⟨e1, e2, e3, e4⟩ := spQ_det k m0 ab la m4 a2 l2 h2 q2
  refine ⟨by omega, fun i i0 i1 => ?_⟩
  by_cases c : i < 2 * m0
  · exact e4 i i0 c
  · by_cases d : i = 2 * m0
    · rw [d, h4, e1, q4]; exact e3
    · have d4 : i = 2 * m0 + 1 := by omega
      rw [d4, h5, e1, q5]
section Sp
variable {v : Sn} {f SP A : Int → Int} {n fy m ab la wi : Int}
theorem spK_0 : spK v f n fy 0 (-1) 0 A := ⟨0, rfl, rfl, rfl⟩
theorem spK.bd (h : spK v f n fy m ab la A) (hb : bytes f n) (h0 : 0 ≤ n) : (-1 ≤ ab ∧ ab ≤ n) ∧ 0 ≤ m ∧ m ≤ ab + 1 ∧ 0 ≤ la ∧ la ≤ n := by
  obtain ⟨k, h1⟩ := h
  have i := spQ_in (wyR_W hb) h0 k m ab la h1
  omega
/-- an empty match at the begin or the end parts nothing -/
theorem spK_e {e : Int} (h : spK v f n fy m ab la A) (q : nxC v f n fy ab wi 1 SP) (he : e = SP 1) (h1 : SP 0 = SP 1) (h2 : SP 0 = 0 ∨ SP 0 = n) : spK v f n fy m e la A := by
  obtain ⟨k, h3⟩ := h
  obtain ⟨S, st, q1, q2⟩ := q
  obtain ⟨g, m1, m2⟩ := mch_1 q2
  rw [m1, m2, ← he] at q1
  exact ⟨k + 1, ab, SP 0, g, m, la, h3, q1, Or.inl ⟨⟨by omega, h2⟩, rfl, rfl⟩⟩
theorem spK_s {e l2 : Int} {B : Int → Int} (h : spK v f n fy m ab la A) (q : nxC v f n fy ab wi 1 SP) (he : e = SP 1) (hl : l2 = e) (h1 : ¬ (SP 0 = SP 1 ∧ (SP 0 = 0 ∨ SP 0 = n))) (hB : ∀ i : Int, 0 ≤ i → i < 2 * m → B i = A i) (h2 : B (2 * m) = la) (h3 : B (2 * m + 1) = SP 0) : spK v f n fy (m + 1) e l2 B := by
  obtain ⟨k, h4⟩ := h
  obtain ⟨S, st, q1, q2⟩ := q
  obtain ⟨g, m1, m2⟩ := mch_1 q2
  rw [m1, m2, ← he] at q1
  rw [← he] at h1
  exact ⟨k + 1, ab, SP 0, g, m, la, spQ_eq k m ab la h4 hB spQ_0, q1, Or.inr ⟨h1, rfl, hl, h2, h3⟩⟩
theorem spC_of {B : Int → Int} (h : spK v f n fy m ab la A) (q : nxC v f n fy ab wi 0 SP) (hB : ∀ i : Int, 0 ≤ i → i < 2 * m → B i = A i) (h2 : B (2 * m) = la) (h3 : B (2 * m + 1) = n) : spC v f n fy (m + 1) B := by
  obtain ⟨k, h4⟩ := h
  obtain ⟨S, st, q1, q2⟩ := q
  rw [mch_0 q2] at q1
  exact ⟨k, ab, la, m, rfl, spQ_eq k m ab la h4 hB spQ_0, nxP_none q1, h2, h3⟩
theorem spC_n {B : Int → Int} (h : spK v f n fy m ab la A) (hb : bytes f n) (h0 : 0 ≤ n) (hm : n ≤ ab) (hB : ∀ i : Int, 0 ≤ i → i < 2 * m → B i = A i) (h2 : B (2 * m) = la) (h3 : B (2 * m + 1) = n) : spC v f n fy (m + 1) B := by
  obtain ⟨k, h4⟩ := h
  exact ⟨k, ab, la, m, rfl, spQ_eq k m ab la h4 hB spQ_0, fun S st q => nxP_n q (wyR_W hb) hm h0, h2, h3⟩
end Sp
theorem nxC.lt {v : Sn} {f SP : Int → Int} {n fy ab wi : Int} (h : nxC v f n fy ab wi 1 SP) (hb : bytes f n) (ha : -1 ≤ ab) : ab < SP 1 := by
  obtain ⟨S, st, h1, h2⟩ := h
  obtain ⟨g, m1, m2⟩ := mch_1 h2
  rw [m1] at h1
  have k := nxP_in h1 (wyR_W hb) ha
  omega
