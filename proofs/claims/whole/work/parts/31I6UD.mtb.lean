/-! match and group: class and reference answer alike -/
/-- what the reference tells of its last match -/
def laE (LA : Int → Int) (im mg : Int) (KE : Int → Int) : Prop := (im = 0 ∧ ∀ i : Int, 0 ≤ i → i < 20 → LA i = -1) ∨ (im = 1 ∧ (0 ≤ mg ∧ mg ≤ 9) ∧ (∀ i : Int, 0 ≤ i → i < 2 * (mg + 1) → LA i = KE i) ∧ ∀ i : Int, 2 * (mg + 1) ≤ i → i < 20 → LA i = -1)
theorem laE_0 {LA KE : Int → Int} {im mg : Int} (h : im = 0) (q : ∀ i : Int, 0 ≤ i → i < 20 → LA i = -1) : laE LA im mg KE := Or.inl ⟨h, q⟩
theorem laE_gr {LA KE : Int → Int} {im mg k wh u v : Int} (h : laE LA im mg KE) (a : grC LA k wh u) (b : grX im mg KE k wh v) : u = v := by
  rcases a with ⟨a1, a2⟩ | ⟨a1, a2⟩ <;> rcases b with ⟨b1, b2⟩ | ⟨b1, b2⟩
  · omega
  · exfalso
    rcases h with ⟨h1, _⟩ | ⟨_, h1, _⟩ <;> omega
  · rw [a2, b2]
    rcases h with ⟨h1, h2⟩ | ⟨h1, h2, h3, h4⟩
    · exact h2 _ (by omega) (by omega)
    · exact h4 _ (by omega) (by omega)
  · rw [a2, b2]
    rcases h with ⟨h1, h2⟩ | ⟨h1, h2, h3, h4⟩
    · omega
    · exact h3 _ (by omega) (by omega)
theorem fdC_cgf {v : Sn} {f g SP : Int → Int} {n fy hw fr wi fo : Int} (w : wpR v) (hb : bytes f n) (q : ∀ k : Int, 0 ≤ k → k < n → f k = g k) (h : fdC v f n fy hw fr wi fo SP) : fdC v g n fy hw fr wi fo SP := by
  unfold fdC at h ⊢
  rw [← w.cg q hb]
  exact h
/-- two that found the same -/
theorem fdC_same {v : Sn} {f A B : Int → Int} {n fy hw fr wi w2 fo fo2 : Int} (h : fdC v f n fy hw fr wi fo A) (q : fdC v f n fy hw fr w2 fo2 B) (hw2 : wi ≤ w2) : fo = fo2 ∧ (fo = 1 → ∀ i : Int, 0 ≤ i → i < wi → A i = B i) := by
  obtain ⟨S, st, h1, h2⟩ := h
  obtain ⟨S2, st2, q1, q2⟩ := q
  obtain ⟨e1, e2⟩ := fnR_det h1 q1
  subst e1
  rcases h2 with ⟨a1, a2⟩ | ⟨e, g, a1, a2, a3, a4, a5⟩
  · rcases q2 with ⟨b1, b2⟩ | ⟨e', g', b1, _⟩
    · exact ⟨by omega, fun z => by omega⟩
    · rw [a1] at b1; cases b1
  · rcases q2 with ⟨b1, b2⟩ | ⟨e', g', b1, b2, b3, b4, b5⟩
    · rw [a1] at b1; cases b1
    · have es : st = st2 := e2 (by rw [a1]; exact fun z => by cases z)
      rw [a1] at b1
      have ee : (e, g) = (e', g') := Option.some.inj b1
      injection ee with k1 k2
      refine ⟨by omega, fun _ i i0 i1 => ?_⟩
      by_cases z0 : i = 0
      · rw [z0, a3, b3, es]
      · by_cases z1 : i = 1
        · rw [z1, a4, b4, k1]
        · rw [a5 i (by omega) i1, b5 i (by omega) (by omega), k2]
def mtZ (PG : Nat → Option Nat) (cw : Int → Int) (sl : Int) (f : Int → Int) (n hw mc fr k v : Int) (LA LA2 : Int → Int) : Prop := (k = 0 ∧ mtP PG cw sl f n hw mc fr v LA2) ∨ (k = 1 ∧ mtT PG sl n hw mc fr ∧ LA2 = LA)
section Sy3
variable {RD FT cw ry tq th gj zj fj nj sj f Fa Fb us ua ub LA LA2 KE KE2 : Int → Int} {sz td fa fp fb fq n za zb ul uf up im mg im2 mg2 : Int} {PG : Nat → Option Nat} {uv : Int → Sn}
theorem sy2_mt {sl hw mc fr k t v w : Int} (h : sy2 PG cw n f za Fa zb Fb us ul uf ua up ub uv) (hs : syn RD FT sz PG cw fa fp ry tq td th gj zj fj nj sj fb fq) (hl : laE LA im mg KE) (a : mtZ PG cw sl f n hw mc fr k v LA LA2) (b : mtX th gj fj uv us ul sl hw mc fr w t im mg KE im2 mg2 KE2) : t = k ∧ (k = 0 → v = w ∧ -1 ≤ v ∧ v ≤ 3000) ∧ (0 ≤ k ∧ k ≤ 1) ∧ laE LA2 im2 mg2 KE2 := by
  obtain ⟨h1, ⟨h2, h2b⟩, h3, h4⟩ := h
  obtain ⟨_, _, _, _, s5, s6, _⟩ := hs
  rcases a with ⟨k0, ⟨a1, a2⟩, a3, ab, u, fo, a4, a5, a6, a7, a8⟩ | ⟨k1, a1, a2⟩
  · rcases b with ⟨t0, ⟨b1, b2⟩, b3, b4, b5, b6⟩ | ⟨t1, b1, _⟩
    · obtain ⟨e1, e2⟩ := sl_same h1 s6 a1 a2 a4
      have e3 : cvI cw (100 + 10 * sl.toNat) 0 = gj sl ∧ 0 ≤ gj sl ∧ gj sl ≤ 9 := by
        obtain ⟨c, hc⟩ := a2
        have e : ((sl.toNat : Nat) : Int) = sl := by omega
        obtain ⟨⟨k1, _, _⟩, k2, _⟩ := s6 sl.toNat (by omega) c hc
        rw [e] at k1 k2
        exact ⟨k1, k2⟩
      rw [e3.1] at a7 a8
      rw [e2] at a7
      have c := fdC_cgf a5 a6 h2b a7
      rw [e1, h2] at c
      obtain ⟨d1, d2⟩ := fdC_same c b3 (by omega)
      have fb : fo = 0 ∨ fo = 1 := by rcases a8 with z | z <;> omega
      rcases a8 with ⟨z1, z2, z3⟩ | ⟨z1, z2, z3⟩
      · exact ⟨by omega, fun _ => ⟨by have := b6 (by omega); omega, ab⟩, by omega, Or.inl ⟨by omega, z3⟩⟩
      · have q := d2 z1 1 (by omega) (by omega)
        have q2 := b5 (by omega)
        refine ⟨by omega, fun _ => ⟨by omega, ab⟩, by omega, Or.inr ⟨by omega, by omega, fun i i0 i1 => d2 z1 i i0 (by omega), fun i i0 i1 => z3 i (by omega) i1⟩⟩
    · exfalso
      rcases b1 with b1 | b1
      · exact th_no s5 a1 a2 b1
      · exact b1 ⟨a3.1, a3.2.1, a3.2.2.1, by omega⟩
  · rcases b with ⟨t0, ⟨b1, b2⟩, _⟩ | ⟨t1, b1, b2, b3, b4, b5⟩
    · exfalso
      rcases a1 with a1 | a1
      · have q := thE_n s5 a1 ⟨b1.1, b1.2.1⟩
        have q2 := b1.2.2
        omega
      · exact a1 ⟨b2.1, b2.2.1, b2.2.2.1, by omega⟩
    · rw [a2, b3, b4, b5]
      exact ⟨by omega, fun z => by omega, by omega, hl⟩
end Sy3
