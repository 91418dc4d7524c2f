/-! replace and output: class and reference do the same -/
def rpZ (PG : Nat → Option Nat) (cv : Int → Int) (sl : Int) (f : Int → Int) (n : Int) (T : Int → Int) (tn k r zr : Int) (Fr : Int → Int) (zr2 : Int) (Fr2 : Int → Int) : Prop := (k = 0 ∧ rpC PG cv sl f n T tn 0 r zr2 Fr2) ∨ (k = 1 ∧ rpC PG cv sl f n T tn 1 0 0 (fun _ => 0) ∧ zr2 = zr ∧ Fr2 = Fr)
theorem rpC.b {PG : Nat → Option Nat} {cv f T OU : Int → Int} {sl n tn r ou : Int} (h : rpC PG cv sl f n T tn 0 r ou OU) : 0 ≤ r ∧ r ≤ 6000 := by
  rcases h with ⟨_, _, h1, v, L, _, _, h2⟩ | ⟨h, _⟩
  · rcases h2 f (fun _ _ _ => rfl) with ⟨_, O, _, q1, q2, _⟩ | ⟨q, _⟩
    · omega
    · omega
  · omega
theorem ouE_0 {F F2 : Int → Int} : ouE F 0 F2 0 := ⟨rfl, fun i a b => by omega⟩
section Sy3
variable {RD FT cw ry tq th gj zj fj nj sj f Fa Fb us ua ub Fr Fr2 uO uO2 : Int → Int} {sz td fa fp fb fq n za zb ul uf up zr zr2 uo uo2 : Int} {PG : Nat → Option Nat} {uv : Int → Sn}
/-- one template, one slot: the same names on one tape -/
theorem sl_tc {sl : Int} (hs : syn RD FT sz PG cw fa fp ry tq td th gj zj fj nj sj fb fq) (h0 : 0 ≤ sl ∧ sl < 6) (hq : ∃ b : Nat, PG sl.toNat = some b) : cvI cw (100 + 10 * sl.toNat) 0 = gj sl ∧ tcE FT tq (cvZ cw (100 + 10 * sl.toNat)) (gNZ sj sl) (cvN cw (100 + 10 * sl.toNat)) (gNM nj sl) sz (gj sl) := by
  obtain ⟨_, s2, s3, _, _, s6, _⟩ := hs
  obtain ⟨b, hq⟩ := hq
  have e : ((sl.toNat : Nat) : Int) = sl := by omega
  obtain ⟨⟨k1, _, _⟩, _, k5⟩ := s6 sl.toNat (by omega) b hq
  rw [e] at k1 k5
  refine ⟨k1, s2, fun g g0 g1 => ?_⟩
  obtain ⟨x1, x2, x3⟩ := k5.1 g g0 g1
  refine ⟨x1, fun j j0 j1 => x3 j j0 ?_⟩
  have y : j < cvI cw (100 + 10 * sl.toNat) (10 + g) := j1
  omega
theorem sy3_rp {sl k t v w : Int} (h : sy2 PG cw n f za Fa zb Fb us ul uf ua up ub uv) (hs : syn RD FT sz PG cw fa fp ry tq td th gj zj fj nj sj fb fq) (ho : ouE Fr zr uO uo) (hd : mdn th sj nj gj) (a : rpZ PG cw sl f n FT sz k v zr Fr zr2 Fr2) (b : rpX th gj fj sj nj uv us ul tq td sl w t uo uO uo2 uO2) : t = k ∧ (k = 0 → v = w ∧ 0 ≤ v ∧ v ≤ 6000) ∧ (0 ≤ k ∧ k ≤ 1) ∧ ouE Fr2 zr2 uO2 uo2 := by
  obtain ⟨h1, ⟨h2, h2b⟩, _, _⟩ := h
  have hs0 := hs
  obtain ⟨_, _, s3, _, s5, s6, _⟩ := hs
  have key : ∀ (u : Sn) (L : List Int) (F : Int → Int) (m tm : Int), 0 ≤ sl ∧ sl < 6 → (∃ b : Nat, PG sl.toNat = some b) → mnV cw (100 + 10 * sl.toNat) u → rzU u f n (1 - cvI cw (100 + 10 * sl.toNat) 2 / 16) L F m tm → rzR (uv sl) us ul (1 - fj sl / 16) L F m tm := fun u L F m tm a1 a2 a4 a5 => by
    obtain ⟨e1, e2⟩ := sl_same h1 s6 a1 a2 a4
    have c := a5 us (fun i i0 i1 => h2b i i0 i1)
    rw [e2, e1, h2] at c
    exact c
  have nd : 0 ≤ sl ∧ sl < 6 → (∃ b : Nat, PG sl.toNat = some b) → nmD (gNZ sj sl) (gNM nj sl) (gj sl) := fun a1 a2 => hd sl a1.1 a1.2 (by have := thE_y s5 a2 a1; omega)
  have tl : ∀ L : List Int, 0 ≤ sl ∧ sl < 6 → (∃ b : Nat, PG sl.toNat = some b) → tpL FT sz (cvI cw (100 + 10 * sl.toNat) 0) (cvZ cw (100 + 10 * sl.toNat)) (cvN cw (100 + 10 * sl.toNat)) L → tpL tq td (gj sl) (gNZ sj sl) (gNM nj sl) L := fun L a1 a2 q => by
    obtain ⟨k1, k2⟩ := sl_tc hs0 a1 a2
    rw [k1] at q
    rw [← s3]
    exact tpL_cg k2 q
  have tn : 0 ≤ sl ∧ sl < 6 → (∃ b : Nat, PG sl.toNat = some b) → tpN FT sz (cvI cw (100 + 10 * sl.toNat) 0) (cvZ cw (100 + 10 * sl.toNat)) (cvN cw (100 + 10 * sl.toNat)) → tpN tq td (gj sl) (gNZ sj sl) (gNM nj sl) := fun a1 a2 q => by
    obtain ⟨k1, k2⟩ := sl_tc hs0 a1 a2
    rw [k1] at q
    rw [← s3]
    exact tpN_cg k2 q
  rcases a with ⟨k0, a⟩ | ⟨k1, a, az, aF⟩
  · have ab := a.b
    rcases a with ⟨_, ⟨a1, a2⟩, a3, u, L, a4, a5, a6⟩ | ⟨z, _⟩
    · have c := key u L _ _ _ a1 a2 a4 a6
      rcases b with ⟨t0, b1, b2, L2, b3, b4⟩ | ⟨t1, b1, b2⟩
      · have e := tpL_det (nd a1 a2) (tl L a1 a2 a5) b3
        rw [← e] at b4
        obtain ⟨_, d⟩ := rz_det c b4
        obtain ⟨d1, d2⟩ := d rfl
        exact ⟨by omega, fun _ => ⟨by omega, ab⟩, by omega, d1, d2⟩
      · exfalso
        rcases b1 with b1 | ⟨_, b1⟩
        · exact th_no s5 a1 a2 b1
        · rcases b1 with b1 | ⟨L2, F, m, b1, b3⟩
          · exact tpL_N (nd a1 a2) (tl L a1 a2 a5) b1
          · have e := tpL_det (nd a1 a2) (tl L a1 a2 a5) b1
            rw [← e] at b3
            have d := (rz_det c b3).1
            omega
    · omega
  · rcases b with ⟨t0, b1, b2, L2, b3, b4⟩ | ⟨t1, _, _, b2, b3⟩
    · exfalso
      rcases a with ⟨z, _⟩ | ⟨_, a⟩
      · omega
      · rcases a with a | ⟨⟨a1, a2⟩, a⟩
        · have q := thE_n s5 a ⟨b1.1, b1.2.1⟩
          have q2 := b1.2.2
          omega
        · rcases a with a | ⟨u, L, F, m, a4, a5, a6⟩
          · exact tpL_N (nd a1 a2) b3 (tn a1 a2 a)
          · have c := key u L _ _ _ a1 a2 a4 a6
            have e := tpL_det (nd a1 a2) (tl L a1 a2 a5) b3
            rw [← e] at b4
            have d := (rz_det c b4).1
            omega
    · rw [az, aF, b2, b3]
      exact ⟨by omega, fun z => by omega, by omega, ho⟩
theorem sy3_qt (hs : syn RD FT sz PG cw fa fp ry tq td th gj zj fj nj sj fb fq) (a : qtI FT sz Fr zr) (b : qtI tq td uO uo) : ouE Fr zr uO uo := by
  obtain ⟨_, s2, s3, _⟩ := hs
  rw [← s3] at b
  exact qtI_det a b s2
end Sy3
