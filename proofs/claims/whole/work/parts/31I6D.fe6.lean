/-! which: both answer alike -/
theorem sy2_wh {RD FT cw ry tq th gj zj fj nj sj f Fa Fb us ua ub : Int → Int} {sz td fa fp fb fq n za zb ul uf up x wh u v : Int} {PG : Nat → Option Nat} {uv : Int → Sn} (h : sy2 PG cw n f za Fa zb Fb us ul uf ua up ub uv) (hs : syn RD FT sz PG cw fa fp ry tq td th gj zj fj nj sj fb fq) (a : whC PG cw f n x wh u) (b : whX th uv us ul x wh v) : u = v := by
  obtain ⟨h1, ⟨h2, h2b⟩, _, _⟩ := h
  obtain ⟨_, _, _, _, s5, _⟩ := hs
  unfold whC at a
  unfold whX at b
  rw [a, b]
  refine whI_cg (fun k k0 k6 => ?_)
  have e : ((k.toNat : Nat) : Int) = k := by omega
  constructor
  · rintro ⟨⟨c, hc⟩, x0, w, w1, w2, w3, w4⟩
    have m := h1 k.toNat (by omega) c hc
    rw [e] at m
    have ev := mnV_det w1 m
    rw [ev] at w2 w4
    have q := exM_cg w2 w3 h2b w4
    rw [h2] at q
    refine ⟨thE_y s5 ⟨c, hc⟩ ⟨k0, k6⟩, x0, w2, fun i i0 i1 => ?_, q⟩
    rw [← h2b i i0 (by omega)]
    exact w3 i i0 (by omega)
  · rintro ⟨t, x0, w2, w3, w4⟩
    have hq : ∃ c : Nat, PG k.toNat = some c := by
      cases hc : PG k.toNat with
      | some c => exact ⟨c, rfl⟩
      | none =>
        exfalso
        have z := thE_n s5 (Or.inr (Or.inr hc)) ⟨k0, k6⟩
        omega
    obtain ⟨c, hc⟩ := hq
    have m := h1 k.toNat (by omega) c hc
    rw [e] at m
    have hb : bytes f n := fun i i0 i1 => by
      rw [h2b i i0 i1]
      exact w3 i i0 (by omega)
    refine ⟨⟨c, hc⟩, x0, uv k, m, w2, hb, ?_⟩
    have q := exM_cg (g := f) w2 w3 (fun i i0 i1 => (h2b i i0 (by omega)).symm) w4
    rw [← h2] at q
    exact q
