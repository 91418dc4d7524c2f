/-! class and reference, as they are seen, keep the same -/
def endC (n : Int) (R F : Int → Int) (s : Int) (R2 F2 : Int → Int) (s2 v : Int) : Prop := ((n < 0 ∨ 20 < n ∨ 2000 < s + n) ∧ v = -1 ∧ R2 = R ∧ F2 = F ∧ s2 = s) ∨ ((0 ≤ n ∧ n ≤ 20 ∧ s + n ≤ 2000) ∧ v = s2 ∧ s2 = s + n ∧ apT F F2 R s n ∧ zrI R2 20)
def cmpK (F : Int → Int) (s sl fl : Int) (PG : Nat → Option Nat) (cv : Int → Int) (v s2 : Int) (PG2 : Nat → Option Nat) (cv2 : Int → Int) (fa2 fp2 : Int) : Prop := ctK F s sl fl v cv2 ∧ s2 = 0 ∧ pgS PG PG2 (Int.toNat sl) ∧ cvS cv cv2 (Int.toNat sl) ∧ (fa2 = 0 ∧ fp2 = -1) ∧ (0 ≤ v ∧ v ≤ 9)
/-- the class's compile, its throw caught -/
def cmpL (F : Int → Int) (s sl fl : Int) (PG : Nat → Option Nat) (cv : Int → Int) (fa fp k v s2 : Int) (PG2 : Nat → Option Nat) (cv2 : Int → Int) (fa2 fp2 : Int) : Prop := (k = 0 ∧ cmpK F s sl fl PG cv v s2 PG2 cv2 fa2 fp2) ∨ (k = 1 ∧ ctF F s sl fl fa fp s2 fa2 fp2 ∧ PG2 = PG ∧ cv2 = cv)
/-- the reference's compile -/
def cmpM (F : Int → Int) (s sc wi v t : Int) (th gj zj fj nj sj : Int → Int) (fb fq s2 : Int) (th2 gj2 zj2 fj2 nj2 sj2 : Int → Int) (fb2 fq2 : Int) : Prop := ((sc < 0 ∨ 5 < sc ∨ wi < 0 ∨ 31 < wi) ∧ t = 1 ∧ s2 = s ∧ (th2 = th ∧ gj2 = gj ∧ zj2 = zj ∧ fj2 = fj ∧ nj2 = nj ∧ sj2 = sj) ∧ fb2 = fb ∧ fq2 = fq) ∨ ((0 ≤ sc ∧ sc ≤ 5 ∧ 0 ≤ wi ∧ wi ≤ 31) ∧ t = 1 ∧ s2 = 0 ∧ (th2 = th ∧ gj2 = gj ∧ zj2 = zj ∧ fj2 = fj ∧ nj2 = nj ∧ sj2 = sj) ∧ rdF F s (wi % 16) fb2 fq2) ∨ ((0 ≤ sc ∧ sc ≤ 5 ∧ 0 ≤ wi ∧ wi ≤ 31) ∧ t = 0 ∧ s2 = 0 ∧ ∃ (z : Int) (NS NM : Int → Int), rdN F s (wi % 16) v z NS NM ∧ (fb2 = 0 ∧ fq2 = -1) ∧ (th2 = zu th sc 1 ∧ gj2 = zu gj sc v ∧ zj2 = zu zj sc z ∧ fj2 = zu fj sc wi ∧ cpS nj nj2 NS (120 * sc) (120 * sc + 120) (120 * sc) ∧ nzI sj sj2 NM v sc 10))
/-- the programs' numbers are the same -/
def slE (PG : Nat → Option Nat) (cv gj zj fj nj sj : Int → Int) : Prop := ∀ s : Nat, s < 6 → ∀ b : Nat, PG s = some b → (cvI cv (100 + 10 * s) 0 = gj (s : Int) ∧ cvI cv (100 + 10 * s) 1 = zj (s : Int) ∧ cvI cv (100 + 10 * s) 2 = fj (s : Int)) ∧ (0 ≤ gj (s : Int) ∧ gj (s : Int) ≤ 9) ∧ (∀ k : Int, 1 ≤ k → k ≤ gj (s : Int) → cvI cv (100 + 10 * s) (10 + k) = sj (10 * (s : Int) + k) ∧ sj (10 * (s : Int) + k) ≤ 12 ∧ ∀ j : Int, 0 ≤ j → j < sj (10 * (s : Int) + k) → cvI cv (100 + 10 * s) (20 + (k * 12 + j)) = nj (120 * (s : Int) + 12 * k + j)) ∧ ∀ k : Int, gj (s : Int) < k → k ≤ 9 → sj (10 * (s : Int) + k) = 0
theorem slE_s {PG PG2 : Nat → Option Nat} {cv cv2 gj zj fj nj sj gj2 zj2 fj2 nj2 sj2 FT tq RA RL NA NL NS NM : Int → Int} {sl fl v z n : Int} (h : slE PG cv gj zj fj nj sj) (hs : 0 ≤ sl ∧ sl ≤ 5) (p : ∀ s : Nat, s ≠ sl.toNat → PG2 s = PG s) (q : cvS cv cv2 sl.toNat) (r : ivR v z fl NL NA cv2 (100 + 10 * sl.toNat)) (hv : 0 ≤ v ∧ v ≤ 9) (hn : nmok RA RL v n) (hb : bnm FT RA RL NA NL (v + 1)) (hcg : ∀ i : Int, 0 ≤ i → i < n → FT i = tq i) (e : ∀ k : Int, 1 ≤ k → k ≤ v → RL k = NM k ∧ ∀ j : Int, 0 ≤ j → j < RL k → tq (RA k + j) = NS (12 * k + j)) (c2 : gj2 = zu gj sl v) (c3 : zj2 = zu zj sl z) (c4 : fj2 = zu fj sl fl) (c5 : cpS nj nj2 NS (120 * sl) (120 * sl + 120) (120 * sl)) (c6 : nzI sj sj2 NM v sl 10) : slE PG2 cv2 gj2 zj2 fj2 nj2 sj2 := by
  intro s hs6 b hb2
  by_cases es : s = sl.toNat
  · subst es
    have ec : ((sl.toNat : Nat) : Int) = sl := by omega
    obtain ⟨r1, r2, r3, r4, r5⟩ := r
    have g2 : gj2 sl = v := by rw [c2, zu_self]
    have z2 : zj2 sl = z := by rw [c3, zu_self]
    have f2 : fj2 sl = fl := by rw [c4, zu_self]
    rw [ec, g2, z2, f2]
    refine ⟨⟨r1, r2, r3⟩, hv, fun k a b => ?_, fun k a b => ?_⟩
    · obtain ⟨x1, x2⟩ := e k a b
      obtain ⟨y1, y2⟩ := hb k a (by omega)
      have hk := hn k a b
      have es : sj2 (10 * sl + k) = NM k := by rw [c6 (10 * sl + k), if_pos (by omega), if_pos (by omega), show 10 * sl + k - 10 * sl = k by omega]
      rw [es]
      refine ⟨?_, by omega, fun j p q => ?_⟩
      · rw [r4 k (by omega) (by omega), y1, x1]
      · rw [r5 (k * 12 + j) (by omega) (by omega), y2 j p (by omega), hcg _ (by omega) (by omega), x2 j p (by omega), c5 (120 * sl + 12 * k + j), if_pos (by omega)]
        congr 1; omega
    · rw [c6 (10 * sl + k), if_pos (by omega), if_neg (by omega)]
  · rw [p s es] at hb2
    obtain ⟨⟨k1, k2, k3⟩, k4, k5, k6⟩ := h s hs6 b hb2
    have ne : ¬ (s : Int) = sl := by omega
    have g2 : gj2 (s : Int) = gj (s : Int) := by rw [c2, zu_ne ne]
    have z2 : zj2 (s : Int) = zj (s : Int) := by rw [c3, zu_ne ne]
    have f2 : fj2 (s : Int) = fj (s : Int) := by rw [c4, zu_ne ne]
    rw [g2, z2, f2]
    refine ⟨⟨(q s es 0 (by omega) (by omega)).trans k1, (q s es 1 (by omega) (by omega)).trans k2, (q s es 2 (by omega) (by omega)).trans k3⟩, k4, fun k a b => ?_, fun k a b => ?_⟩
    · obtain ⟨m1, m2, m3⟩ := k5 k a b
      have es2 : sj2 (10 * (s : Int) + k) = sj (10 * (s : Int) + k) := by rw [c6 (10 * (s : Int) + k), if_neg (by omega)]
      rw [es2]
      refine ⟨(q s es (10 + k) (by omega) (by omega)).trans m1, m2, fun j p q' => ?_⟩
      rw [q s es (20 + (k * 12 + j)) (by omega) (by omega), m3 j p q', c5 (120 * (s : Int) + 12 * k + j), if_neg (by omega)]
    · rw [c6 (10 * (s : Int) + k), if_neg (by omega)]
      exact k6 k a b
def syn (RD FT : Int → Int) (sz : Int) (PG : Nat → Option Nat) (cw : Int → Int) (fa fp : Int) (ry tq : Int → Int) (td : Int) (th gj zj fj nj sj : Int → Int) (fb fq : Int) : Prop := (∀ i : Int, 0 ≤ i → i < 20 → RD i = ry i) ∧ (∀ i : Int, 0 ≤ i → i < sz → FT i = tq i) ∧ sz = td ∧ (0 ≤ sz ∧ sz ≤ 2000) ∧ thE PG th ∧ slE PG cw gj zj fj nj sj ∧ fa = fb ∧ fp = fq
theorem syn_0 : syn (fun _ => 0) (fun _ => 0) 0 (fun _ => none) (fun _ => 0) 0 (-1) (fun _ => 0) (fun _ => 0) 0 (fun _ => 0) (fun _ => 0) (fun _ => 0) (fun _ => 0) (fun _ => 0) (fun _ => 0) 0 (-1) := ⟨fun _ _ _ => rfl, fun _ _ _ => rfl, rfl, by decide, fun _ _ => Or.inl ⟨rfl, rfl⟩, fun _ _ _ h => (by cases h), rfl, rfl⟩
section Syn
variable {RD FT RD2 FT2 cw cw2 ry tq ry2 tq2 th th2 gj gj2 zj zj2 fj fj2 nj nj2 sj sj2 : Int → Int} {sz td sz2 td2 fa fp fb fq fa2 fp2 fb2 fq2 : Int} {PG PG2 : Nat → Option Nat}
theorem syn_feed {x1 x2 x3 x4 x5 : Int} (h : syn RD FT sz PG cw fa fp ry tq td th gj zj fj nj sj fb fq) (a : fdI RD2 x1 x2 x3 x4 x5 4) (b : fdI ry2 x1 x2 x3 x4 x5 4) : syn RD2 FT sz PG cw fa fp ry2 tq td th gj zj fj nj sj fb fq := ⟨fun _ p q => fdI_det a b p q, h.2⟩
theorem syn_zero (h : syn RD FT sz PG cw fa fp ry tq td th gj zj fj nj sj fb fq) : syn RD FT 0 PG cw fa fp ry tq 0 th gj zj fj nj sj fb fq := ⟨h.1, fun i p q => absurd p (by omega), rfl, by decide, h.2.2.2.2⟩
theorem syn_end {n v w : Int} (h : syn RD FT sz PG cw fa fp ry tq td th gj zj fj nj sj fb fq) (a : endC n RD FT sz RD2 FT2 sz2 v) (b : endC n ry tq td ry2 tq2 td2 w) : v = w ∧ (-1 ≤ v ∧ v ≤ 2000) ∧ syn RD2 FT2 sz2 PG cw fa fp ry2 tq2 td2 th gj zj fj nj sj fb fq := by
  obtain ⟨h1, h2, h3, h4, h5⟩ := h
  rcases a with ⟨a1, a2, a3, a4, a5⟩ | ⟨a1, a2, a3, a4, a5⟩ <;> rcases b with ⟨b1, b2, b3, b4, b5⟩ | ⟨b1, b2, b3, b4, b5⟩
  · rw [a3, a4, a5, b3, b4, b5]
    exact ⟨by omega, ⟨by omega, by omega⟩, h1, h2, h3, h4, h5⟩
  · exfalso; omega
  · exfalso; omega
  · refine ⟨by omega, ⟨by omega, by omega⟩, fun i p q => ?_, fun i p q => ?_, by omega, by omega, h5⟩
    · rw [a5 i p q, b5 i p q]
    · rw [← h3] at b4
      exact apT_det a4 b4 h2 h1 (by omega) i p (by omega)
theorem syn_cmp {sl fl k t v w : Int} (h : syn RD FT sz PG cw fa fp ry tq td th gj zj fj nj sj fb fq) (a : cmpL FT sz sl fl PG cw fa fp k v sz2 PG2 cw2 fa2 fp2) (b : cmpM tq td sl fl w t th gj zj fj nj sj fb fq td2 th2 gj2 zj2 fj2 nj2 sj2 fb2 fq2) : t = k ∧ (k = 0 → v = w ∧ 0 ≤ v ∧ v ≤ 9) ∧ (0 ≤ k ∧ k ≤ 1) ∧ syn RD FT sz2 PG2 cw2 fa2 fp2 ry tq td2 th2 gj2 zj2 fj2 nj2 sj2 fb2 fq2 := by
  obtain ⟨h1, h2, h3, h4, h5, h6, h7, h8⟩ := h
  subst h3
  rcases a with ⟨k0, ⟨a1, z, RA, RL, NA, NL, a2, a3, a4, a5, _⟩, a6, a7, a8, a9, a10⟩ | ⟨k1, a, p1, p2⟩
  · rcases b with ⟨b1, _⟩ | ⟨b1, _, _, _, b4⟩ | ⟨b1, b2, b3, z', NS, NM, b4, b5, c1, c2, c3, c4, c5, c6⟩
    · exfalso; omega
    · exact (rd_cf (rdC_cg h2 h4.1 a2) b4).elim
    · obtain ⟨e1, e2, e3⟩ := rd_cc (rdC_cg h2 h4.1 a2) b4
      subst e1 e2
      refine ⟨by omega, fun _ => ⟨rfl, a10⟩, by omega, h1, fun i p q => absurd p (by omega), a6.trans b3.symm, by omega, ?_, ?_, a9.1.trans b5.1.symm, a9.2.trans b5.2.symm⟩
      · rw [c1]; exact thE_s h5 ⟨a1.1, a1.2.1⟩ a7.1 a7.2
      · exact slE_s h6 ⟨a1.1, a1.2.1⟩ a7.2 a8 a5 a10 a3 a4 h2 e3 c2 c3 c4 c5 c6
  · rcases a with ⟨a1, a2, a3, a4⟩ | ⟨a1, a2, a3⟩
    · rcases b with ⟨b1, b2, b3, ⟨c1, c2, c3, c4, c5, c6⟩, b5, b6⟩ | ⟨b1, _⟩ | ⟨b1, _⟩
      · rw [p1, p2, a2, a3, a4, b3, c1, c2, c3, c4, c5, c6, b5, b6]
        exact ⟨by omega, fun z => absurd z (by omega), by omega, h1, h2, rfl, h4, h5, h6, h7, h8⟩
      · exfalso; omega
      · exfalso; omega
    · rcases b with ⟨b1, _⟩ | ⟨b1, b2, b3, ⟨c1, c2, c3, c4, c5, c6⟩, b4⟩ | ⟨b1, b2, b3, z, NS, NM, b4, _⟩
      · exfalso; omega
      · obtain ⟨e1, e2⟩ := rd_ff (rdF_cg h2 h4.1 a3) b4
        rw [p1, p2, a2, b3, c1, c2, c3, c4, c5, c6]
        exact ⟨by omega, fun z => absurd z (by omega), by omega, h1, fun i p q => absurd p (by omega), rfl, by decide, h5, h6, e1, e2⟩
      · exact (rd_fc (rdF_cg h2 h4.1 a3) b4).elim
theorem syn_rep {x : Int} (h : syn RD FT sz PG cw fa fp ry tq td th gj zj fj nj sj fb fq) (a : pgQ PG x sz sz2) (b : thQ th x td td2) : syn RD FT sz2 PG cw fa fp ry tq td2 th gj zj fj nj sj fb fq := by
  obtain ⟨h1, h2, h3, h4, h5, h6⟩ := h
  subst h3
  have e := thE_q h5 a b
  subst e
  have c : sz2 = 0 ∨ sz2 = sz := by rcases a with ⟨_, _, _, _, q⟩ | ⟨_, q⟩; exact Or.inl q; exact Or.inr q
  exact ⟨h1, fun i p q => h2 i p (by omega), rfl, by omega, h5, h6⟩
theorem syn_ql {u v : Int} (h : syn RD FT sz PG cw fa fp ry tq td th gj zj fj nj sj fb fq) (a : u = qlI FT sz) (b : v = qlI tq td) : u = v := by
  obtain ⟨_, h2, h3, h4, _⟩ := h
  rw [a, b, ← h3]
  exact qlI_cg h2 h4.1
theorem syn_ft {x u v : Int} (h : syn RD FT sz PG cw fa fp ry tq td th gj zj fj nj sj fb fq) (a : ftR x fa fp u) (b : ftR x fb fq v) : u = v := by
  obtain ⟨_, _, _, _, _, _, h7, h8⟩ := h
  rw [← h7, ← h8] at b
  exact ftR_det a b
/-- a slot that is there is there on both sides -/
theorem thE_n {x : Int} (h : thE PG th) (a : npg PG x) (b : 0 ≤ x ∧ x < 6) : th x = 0 := by
  rcases h x.toNat (by omega) with ⟨_, r⟩ | ⟨⟨c, r⟩, _⟩
  · rw [show ((x.toNat : Nat) : Int) = x by omega] at r; exact r
  · rcases a with a | a | a
    · omega
    · omega
    · rw [r] at a; cases a
theorem thE_y {x : Int} (h : thE PG th) (a : ∃ b : Nat, PG x.toNat = some b) (b : 0 ≤ x ∧ x < 6) : th x = 1 := by
  obtain ⟨c, a⟩ := a
  rcases h x.toNat (by omega) with ⟨r, _⟩ | ⟨_, r⟩
  · rw [r] at a; cases a
  · rw [show ((x.toNat : Nat) : Int) = x by omega] at r; exact r
theorem syn_ab {x y u v : Int} (h : syn RD FT sz PG cw fa fp ry tq td th gj zj fj nj sj fb fq) (a : abC PG cw x y u) (b : abM th gj zj fj x y v) : u = v := by
  obtain ⟨_, _, _, _, h5, h6, _⟩ := h
  rcases a with ⟨a1, a2⟩ | ⟨a1, a2, a3, a4⟩
  · rcases b with ⟨_, b2⟩ | ⟨b1, b2, b3, b4⟩
    · rw [a2, b2]
    · rcases a1 with a1 | a1
      · have t := thE_n h5 a1 ⟨b1, b2⟩; omega
      · omega
  · have ty := thE_y h5 a2 a1
    rcases b with ⟨b1, b2⟩ | ⟨b1, b2, b3, b4⟩
    · exfalso; rcases b1 with b1 | b1 | b1 <;> omega
    · obtain ⟨c, a2⟩ := a2
      obtain ⟨⟨k1, k2, k3⟩, _⟩ := h6 x.toNat (by omega) c a2
      rw [show ((x.toNat : Nat) : Int) = x by omega] at k1 k2 k3
      rcases b4 with ⟨e, b4⟩ | ⟨e, b4⟩ | ⟨e, b4⟩ | ⟨e, b4⟩
      · rw [a4, e, k1, b4]
      · rw [a4, e, k2, b4]
      · rw [a4, e, k3, b4]
      · omega
theorem syn_nm {x k i u v : Int} (h : syn RD FT sz PG cw fa fp ry tq td th gj zj fj nj sj fb fq) (a : nmC PG cw x k i u) (b : nmM th sj nj x k i v) : u = v := by
  obtain ⟨_, _, _, _, h5, h6, _⟩ := h
  rcases a with ⟨a1, a2⟩ | ⟨a1, a2, a3⟩
  · rcases b with ⟨_, b2⟩ | ⟨b1, b2, b3, b4⟩
    · rw [a2, b2]
    · have t := thE_n h5 a1 ⟨b1, b2⟩; omega
  · have ty := thE_y h5 a2 a1
    rcases b with ⟨b1, b2⟩ | ⟨b1, b2, b3, b4⟩
    · exfalso; rcases b1 with b1 | b1 | b1 <;> omega
    · obtain ⟨c, a2⟩ := a2
      obtain ⟨⟨k1, _, _⟩, k4, k5, k6⟩ := h6 x.toNat (by omega) c a2
      rw [show ((x.toNat : Nat) : Int) = x by omega] at k1 k4 k5 k6
      rw [k1] at a3
      have key : (1 ≤ k ∧ k ≤ gj x ∧ 0 ≤ i ∧ i < cvI cw (100 + 10 * x.toNat) (10 + k)) ↔ (1 ≤ k ∧ k ≤ 9 ∧ 0 ≤ i ∧ i < sj (10 * x + k)) := by
        constructor
        · intro ⟨q1, q2, q3, q4⟩
          rw [(k5 k q1 q2).1] at q4
          exact ⟨q1, by omega, q3, q4⟩
        · intro ⟨q1, q2, q3, q4⟩
          have q5 : k ≤ gj x := by
            by_cases c : k ≤ gj x
            · exact c
            · have t := k6 k (by omega) q2; omega
          exact ⟨q1, q5, q3, by rw [(k5 k q1 q5).1]; exact q4⟩
      rcases a3 with ⟨a3, a4⟩ | ⟨a3, a4⟩
      · rcases b4 with ⟨_, b5⟩ | ⟨b4, _⟩
        · obtain ⟨q1, q2, q3, q4⟩ := a3
          rw [(k5 k q1 q2).1] at q4
          rw [a4, b5, (k5 k q1 q2).2.2 i q3 q4]
        · exact absurd (key.mp a3) b4
      · rcases b4 with ⟨b4, _⟩ | ⟨_, b5⟩
        · exact absurd (key.mpr b4) a3
        · rw [a4, b5]
end Syn
