/-! class and reference keep the same: what programs mean, the subject, the matches and pieces -/
def vrl (F : Int → Int) (s sc wi t : Int) (V V2 : Int → Sn) : Prop := (t = 1 ∧ V2 = V) ∨ (t = 0 ∧ ∃ v : Sn, rdM F s (wi % 16) v ∧ V2 = vUp V sc v)
def mnE (PG : Nat → Option Nat) (cv : Int → Int) (V : Int → Sn) : Prop := ∀ s : Nat, s < 6 → ∀ b : Nat, PG s = some b → mnV cv (100 + 10 * s) (V (s : Int))
def sbE (n : Int) (f g : Int → Int) (m : Int) : Prop := n = m ∧ ∀ i : Int, 0 ≤ i → i < n → f i = g i
def rwE (z : Int) (F : Int → Int) (m : Int) (A : Int → Int) : Prop := z / 2 = m ∧ ∀ i : Int, 0 ≤ i → i < 2 * m → F i = A i
def sy2 (PG : Nat → Option Nat) (cw : Int → Int) (n : Int) (f : Int → Int) (za : Int) (Fa : Int → Int) (zb : Int) (Fb : Int → Int) (us : Int → Int) (ul uf : Int) (ua : Int → Int) (up : Int) (ub : Int → Int) (uv : Int → Sn) : Prop := mnE PG cw uv ∧ sbE n f us ul ∧ rwE za Fa uf ua ∧ rwE zb Fb up ub
theorem sy2_0 {cw f Fa Fb us ua ub : Int → Int} {uv : Int → Sn} : sy2 (fun _ => none) cw 0 f 0 Fa 0 Fb us 0 0 ua 0 ub uv := ⟨fun _ _ _ h => (by cases h), ⟨rfl, fun i a b => by omega⟩, ⟨rfl, fun i a b => by omega⟩, ⟨rfl, fun i a b => by omega⟩⟩
/-- the class's all and split, their throw caught -/
def alZ (PG : Nat → Option Nat) (cw : Int → Int) (sl : Int) (f : Int → Int) (n k v za : Int) (Fa : Int → Int) (za2 : Int) (Fa2 : Int → Int) : Prop := (k = 0 ∧ alP PG cw sl f n v za2 Fa2) ∨ (k = 1 ∧ npg PG sl ∧ za2 = za ∧ Fa2 = Fa)
def spL2 (PG : Nat → Option Nat) (cw : Int → Int) (sl : Int) (f : Int → Int) (n k v za : Int) (Fa : Int → Int) (za2 : Int) (Fa2 : Int → Int) : Prop := (k = 0 ∧ spP PG cw sl f n v za2 Fa2) ∨ (k = 1 ∧ npg PG sl ∧ za2 = za ∧ Fa2 = Fa)
theorem alP.b {PG : Nat → Option Nat} {cv f A : Int → Int} {sl n r sz : Int} (h : alP PG cv sl f n r sz A) : 0 ≤ r ∧ r ≤ 3000 := h.2.2.1.2
theorem spP.b {PG : Nat → Option Nat} {cv f A : Int → Int} {sl n r sz : Int} (h : spP PG cv sl f n r sz A) : 0 ≤ r ∧ r ≤ 3000 := h.2.2.1.2
section Sy2
variable {RD FT RD2 FT2 cw cw2 ry tq ry2 tq2 th th2 gj gj2 zj zj2 fj fj2 nj nj2 sj sj2 f Fa Fb us ua ub f2 us2 Fa2 Fb2 ua2 ub2 : Int → Int} {sz td sz2 td2 fa fp fb fq fa2 fp2 fb2 fq2 n za zb ul uf up n2 ul2 za2 zb2 uf2 up2 : Int} {PG PG2 : Nat → Option Nat} {uv uv2 : Int → Sn}
theorem sy2_subj (h : sy2 PG cw n f za Fa zb Fb us ul uf ua up ub uv) (hs : syn RD FT sz PG cw fa fp ry tq td th gj zj fj nj sj fb fq) (b : cpE f2 FT sz) (d : cpE us2 tq td) : sy2 PG cw sz f2 za Fa zb Fb us2 td uf ua up ub uv := by
  obtain ⟨h1, _, h3⟩ := h
  obtain ⟨_, s2, s3, _⟩ := hs
  refine ⟨h1, ⟨s3, fun i i0 i1 => ?_⟩, h3⟩
  rw [b i i0 i1, s2 i i0 i1, d i i0 (by omega)]
theorem sy2_cmp {sl fl k t v : Int} (h : sy2 PG cw n f za Fa zb Fb us ul uf ua up ub uv) (hs : syn RD FT sz PG cw fa fp ry tq td th gj zj fj nj sj fb fq) (a : cmpL FT sz sl fl PG cw fa fp k v sz2 PG2 cw2 fa2 fp2) (b : vrl tq td sl fl t uv uv2) (e : t = k) : sy2 PG2 cw2 n f za Fa zb Fb us ul uf ua up ub uv2 := by
  obtain ⟨h1, h2⟩ := h
  obtain ⟨_, s2, s3, s4, _⟩ := hs
  refine ⟨?_, h2⟩
  rcases a with ⟨k0, ⟨a1, z, RA, RL, NA, NL, a2, a3, a4, a5, at5⟩, a6, a7, a8, a9⟩ | ⟨k1, _, p1, p2⟩
  · rcases b with ⟨b1, _⟩ | ⟨_, w, b2, b3⟩
    · omega
    · intro s hs6 c hc
      by_cases es : s = sl.toNat
      · have ec : (s : Int) = sl := by omega
        have ev : uv2 (s : Int) = w := by
          rw [b3, ec]
          exact if_pos rfl
        rw [ev, es]
        have r : rdM FT sz (fl % 16) w := by
          rw [s3]
          exact rdM_cg (fun i i0 i1 => (s2 i i0 (by omega)).symm) (by omega) b2
        exact mnV_s r at5 a5.2.2.1 s4
      · rw [a7.2 s es] at hc
        have ev : uv2 (s : Int) = uv (s : Int) := by
          rw [b3]
          exact if_neg (by omega)
        rw [ev]
        exact mnV_cg (h1 s hs6 c hc) (fun j j0 j1 => a8 s es j j0 j1)
  · rcases b with ⟨_, b2⟩ | ⟨b1, _⟩
    · rw [p1, p2, b2]
      exact h1
    · omega
/-- a slot that both have: its meaning and flags -/
theorem sl_same {sl : Int} {v : Sn} (h1 : mnE PG cw uv) (hs : slE PG cw gj zj fj nj sj) (h0 : 0 ≤ sl ∧ sl < 6) (hq : ∃ b : Nat, PG sl.toNat = some b) (hm : mnV cw (100 + 10 * sl.toNat) v) : v = uv sl ∧ cvI cw (100 + 10 * sl.toNat) 2 = fj sl := by
  obtain ⟨b, hq⟩ := hq
  have e : ((sl.toNat : Nat) : Int) = sl := by omega
  have m := h1 sl.toNat (by omega) b hq
  rw [e] at m
  obtain ⟨⟨_, _, k3⟩, _⟩ := hs sl.toNat (by omega) b hq
  rw [e] at k3
  exact ⟨mnV_det hm m, k3⟩
theorem th_no {sl : Int} (h : thE PG th) (h0 : 0 ≤ sl ∧ sl < 6) (hq : ∃ b : Nat, PG sl.toNat = some b) (b : nth th sl) : False := by
  have t := thE_y h hq h0
  rcases b with b | b | b <;> omega
theorem sy2_al {sl k t v w : Int} (h : sy2 PG cw n f za Fa zb Fb us ul uf ua up ub uv) (hs : syn RD FT sz PG cw fa fp ry tq td th gj zj fj nj sj fb fq) (a : alZ PG cw sl f n k v za Fa za2 Fa2) (b : alX th fj uv us ul sl w t uf ua uf2 ua2) : t = k ∧ (k = 0 → v = w ∧ 0 ≤ v ∧ v ≤ 3000) ∧ (0 ≤ k ∧ k ≤ 1) ∧ sy2 PG cw n f za2 Fa2 zb Fb us ul uf2 ua2 up ub uv := by
  obtain ⟨h1, ⟨h2, h2b⟩, h3, h4⟩ := h
  obtain ⟨_, _, _, _, s5, s6, _⟩ := hs
  rcases a with ⟨k0, a1, a2, a3, u, a4, a5⟩ | ⟨k1, a1, a2, a3⟩
  · rcases b with ⟨t0, b1, b2, b3⟩ | ⟨t1, b1, _⟩
    · obtain ⟨e1, e2⟩ := sl_same h1 s6 a1 a2 a4
      have c := a5 us (fun i i0 i1 => h2b i i0 i1)
      rw [e2, e1, h2] at c
      obtain ⟨d1, d2⟩ := alC_det c b3
      refine ⟨by omega, fun _ => ⟨by omega, a3.2⟩, by omega, h1, ⟨h2, h2b⟩, ⟨by omega, fun i i0 i1 => d2 i i0 (by omega)⟩, h4⟩
    · exact (th_no s5 a1 a2 b1).elim
  · rcases b with ⟨t0, b1, _⟩ | ⟨t1, b1, b2, b3, b4⟩
    · have q := thE_n s5 a1 ⟨b1.1, b1.2.1⟩
      have q2 := b1.2.2
      omega
    · rw [a2, a3, b3, b4]
      exact ⟨by omega, fun z => by omega, by omega, h1, ⟨h2, h2b⟩, h3, h4⟩
theorem sy2_sp {sl k t v w : Int} (h : sy2 PG cw n f za Fa zb Fb us ul uf ua up ub uv) (hs : syn RD FT sz PG cw fa fp ry tq td th gj zj fj nj sj fb fq) (a : spL2 PG cw sl f n k v zb Fb zb2 Fb2) (b : spX th fj uv us ul sl w t up ub up2 ub2) : t = k ∧ (k = 0 → v = w ∧ 0 ≤ v ∧ v ≤ 3000) ∧ (0 ≤ k ∧ k ≤ 1) ∧ sy2 PG cw n f za Fa zb2 Fb2 us ul uf ua up2 ub2 uv := by
  obtain ⟨h1, ⟨h2, h2b⟩, h3, h4⟩ := h
  obtain ⟨_, _, _, _, s5, s6, _⟩ := hs
  rcases a with ⟨k0, a1, a2, a3, u, a4, a5⟩ | ⟨k1, a1, a2, a3⟩
  · rcases b with ⟨t0, b1, b2, b3⟩ | ⟨t1, b1, _⟩
    · obtain ⟨e1, e2⟩ := sl_same h1 s6 a1 a2 a4
      have c := a5 us (fun i i0 i1 => h2b i i0 i1)
      rw [e2, e1, h2] at c
      obtain ⟨d1, d2⟩ := spC_det c b3
      refine ⟨by omega, fun _ => ⟨by omega, a3.2⟩, by omega, h1, ⟨h2, h2b⟩, h3, ⟨by omega, fun i i0 i1 => d2 i i0 (by omega)⟩⟩
    · exact (th_no s5 a1 a2 b1).elim
  · rcases b with ⟨t0, b1, _⟩ | ⟨t1, b1, b2, b3, b4⟩
    · have q := thE_n s5 a1 ⟨b1.1, b1.2.1⟩
      have q2 := b1.2.2
      omega
    · rw [a2, a3, b3, b4]
      exact ⟨by omega, fun z => by omega, by omega, h1, ⟨h2, h2b⟩, h3, h4⟩
theorem sy2_fd {k wh u v : Int} (h : sy2 PG cw n f za Fa zb Fb us ul uf ua up ub uv) (a : paR Fa (za / 2) k wh u) (b : paR ua uf k wh v) : u = v := by
  obtain ⟨_, _, ⟨h3, h4⟩, _⟩ := h
  rw [h3] at a
  exact paR_det a b h4
theorem sy2_pc {k wh u v : Int} (h : sy2 PG cw n f za Fa zb Fb us ul uf ua up ub uv) (a : paR Fb (zb / 2) k wh u) (b : paR ub up k wh v) : u = v := by
  obtain ⟨_, _, _, ⟨h3, h4⟩⟩ := h
  rw [h3] at a
  exact paR_det a b h4
end Sy2
