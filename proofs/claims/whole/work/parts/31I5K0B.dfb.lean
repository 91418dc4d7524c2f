/-! cuts: where characters begin to differ -/
def cuS (CU : Int → Int) (cn : Int) : Prop := ∀ i j : Int, 0 ≤ i → i < j → j < cn → CU i < CU j
def cuIn (CU : Int → Int) (cn c : Int) : Prop := ∃ i : Int, 0 ≤ i ∧ i < cn ∧ CU i = c
/-- the cut of a character -/
def cuAt (CU : Int → Int) (cn c i : Int) : Prop := (0 ≤ i ∧ i < cn) ∧ CU i ≤ c ∧ (i + 1 < cn → c < CU (i + 1))
def cuF (CU : Int → Int) (cn : Int) : Prop := cuIn CU cn 0 ∧ cuIn CU cn 10 ∧ cuIn CU cn 11 ∧ cuIn CU cn 48 ∧ cuIn CU cn 58 ∧ cuIn CU cn 65 ∧ cuIn CU cn 91 ∧ cuIn CU cn 95 ∧ cuIn CU cn 96 ∧ cuIn CU cn 97 ∧ cuIn CU cn 123 ∧ cuIn CU cn 128
def cuC (K O : Int → Int) (cnt : Int) (CU : Int → Int) (cn : Int) : Prop := ∀ x : Int, 0 ≤ x → x < cnt → K x = 0 → cuIn CU cn (O x) ∧ cuIn CU cn (O x + 1)
def cuRr (RR : Int → Int) (r : Int) (CU : Int → Int) (cn : Int) : Prop := ∀ j : Int, 0 ≤ j → j < RR r → cuIn CU cn (RR (r + 1 + 2 * j)) ∧ cuIn CU cn (RR (r + 1 + (2 * j + 1)) + 1)
def cuP (K O RR : Int → Int) (cnt : Int) (CU : Int → Int) (cn : Int) : Prop := cuC K O cnt CU cn ∧ ∀ x : Int, 0 ≤ x → x < cnt → K x = 1 → cuRr RR (O x) CU cn
section Cu
variable {K O RR CU : Int → Int} {cn cnt c i t x : Int}
theorem cu_le (hs : cuS CU cn) (ha : cuAt CU cn c i) (ht : cuIn CU cn t) : t ≤ c ↔ t ≤ CU i := by
  obtain ⟨j, j0, j1, e⟩ := ht
  obtain ⟨⟨i0, i1⟩, a1, a2⟩ := ha
  rw [← e]
  constructor
  · intro h
    by_cases q : j ≤ i
    · by_cases q2 : j = i
      · rw [q2]; exact Int.le_refl _
      · have := hs j i j0 (by omega) i1
        omega
    · by_cases q3 : j = i + 1
      · have := a2 (by omega)
        rw [q3] at h
        omega
      · have h1 := hs (i + 1) j (by omega) (by omega) j1
        have h2 := a2 (by omega)
        omega
  · intro h
    omega
theorem cu_eq (hs : cuS CU cn) (ha : cuAt CU cn c i) (h1 : cuIn CU cn t) (h2 : cuIn CU cn (t + 1)) : t = c ↔ t = CU i := by
  have a := cu_le hs ha h1
  have b := cu_le hs ha h2
  omega
theorem cu_W (hs : cuS CU cn) (hf : cuF CU cn) (ha : cuAt CU cn c i) : isW c ↔ isW (CU i) := by
  obtain ⟨_, _, _, f48, f58, f65, f91, f95, f96, f97, f123, _⟩ := hf
  have a1 := cu_le hs ha f48
  have a2 := cu_le hs ha f58
  have a3 := cu_le hs ha f65
  have a4 := cu_le hs ha f91
  have a5 := cu_le hs ha f95
  have a6 := cu_le hs ha f96
  have a7 := cu_le hs ha f97
  have a8 := cu_le hs ha f123
  have b1 : (48 ≤ c ∧ c ≤ 57) ↔ (48 ≤ CU i ∧ CU i ≤ 57) := by omega
  have b2 : (65 ≤ c ∧ c ≤ 90) ↔ (65 ≤ CU i ∧ CU i ≤ 90) := by omega
  have b3 : (97 ≤ c ∧ c ≤ 122) ↔ (97 ≤ CU i ∧ CU i ≤ 122) := by omega
  have b4 : c = 95 ↔ CU i = 95 := by omega
  unfold isW
  rw [b1, b2, b3, b4]
theorem cu_10 (hs : cuS CU cn) (hf : cuF CU cn) (ha : cuAt CU cn c i) : c = 10 ↔ CU i = 10 := by
  have a := cu_eq (t := 10) hs ha hf.2.1 hf.2.2.1
  omega
theorem cu_128 (hs : cuS CU cn) (hf : cuF CU cn) (ha : cuAt CU cn c i) : CU i < 128 ↔ c < 128 := by
  have a := cu_le hs ha hf.2.2.2.2.2.2.2.2.2.2.2
  omega
theorem cu_has (hs : cuS CU cn) (hp : cuP K O RR cnt CU cn) (ha : cuAt CU cn c i) (h0 : 0 ≤ x) (h1 : x < cnt) : phas K O RR x c ↔ phas K O RR x (CU i) := by
  have A : (K x = 0 ∧ O x = c) ↔ (K x = 0 ∧ O x = CU i) := by
    constructor
    · rintro ⟨k, e⟩
      obtain ⟨q1, q2⟩ := hp.1 x h0 h1 k
      exact ⟨k, (cu_eq hs ha q1 q2).mp e⟩
    · rintro ⟨k, e⟩
      obtain ⟨q1, q2⟩ := hp.1 x h0 h1 k
      exact ⟨k, (cu_eq hs ha q1 q2).mpr e⟩
  have B : (K x = 1 ∧ cs_mem (fun i => RR (O x + 1 + i)) (RR (O x)) c) ↔ (K x = 1 ∧ cs_mem (fun i => RR (O x + 1 + i)) (RR (O x)) (CU i)) := by
    constructor
    · rintro ⟨k, j, j0, j1, j2, j3⟩
      obtain ⟨q1, q2⟩ := hp.2 x h0 h1 k j j0 j1
      have t1 := (cu_le hs ha q1).mp j2
      have t2 := cu_le hs ha q2
      have j4 : c ≤ RR (O x + 1 + (2 * j + 1)) := j3
      exact ⟨k, j, j0, j1, t1, (by show CU i ≤ RR (O x + 1 + (2 * j + 1)); omega)⟩
    · rintro ⟨k, j, j0, j1, j2, j3⟩
      obtain ⟨q1, q2⟩ := hp.2 x h0 h1 k j j0 j1
      have t1 := (cu_le hs ha q1).mpr j2
      have t2 := cu_le hs ha q2
      have j4 : CU i ≤ RR (O x + 1 + (2 * j + 1)) := j3
      exact ⟨k, j, j0, j1, t1, (by show c ≤ RR (O x + 1 + (2 * j + 1)); omega)⟩
  unfold phas
  rw [A, B]
end Cu
/-! characters and what is left of them -/
section U8
variable {f C Rs H : Int → Int} {n p q : Int}
theorem u8_lo (h : bytes f n) (h0 : 0 ≤ u8 f n p) (h1 : u8 f n p < 128) : u8 f n p = f p := by
  unfold u8 at h0 h1 ⊢
  split at h0
  · omega
  · rename_i c
    have b := h p (by omega) (by omega)
    rw [if_neg c] at h1 ⊢
    split at h0
    · rename_i d
      rw [if_pos d]
    · rename_i d
      rw [if_neg d] at h1
      exfalso
      split at h0
      · omega
      · rename_i e
        rw [if_neg e] at h1
        split at h0
        · rename_i g
          rw [if_pos g] at h1
          split at h0
          · rename_i k; rw [if_pos k] at h1; omega
          · omega
        · rename_i g
          rw [if_neg g] at h1
          split at h0
          · rename_i k
            rw [if_pos k] at h1
            split at h0
            · rename_i l; rw [if_pos l] at h1; omega
            · omega
          · rename_i k
            rw [if_neg k] at h1
            split at h0
            · rename_i l; rw [if_pos l] at h1; omega
            · omega
theorem u8_as (h0 : 0 ≤ p) (h1 : p < n) (h2 : f p < 128) : u8 f n p = f p := by
  unfold u8
  rw [if_neg (by omega), if_pos h2]
/-- bytes behind the first of a character -/
theorem u8_ct (hb : bytes f n) (h0 : 0 ≤ u8 f n p) (h1 : p < q) (h2 : q < p + wd (u8 f n p)) : 128 ≤ f q ∧ f q < 192 := by
  unfold u8 at h0 h2
  split at h0
  · omega
  · rename_i c
    have b := hb p (by omega) (by omega)
    rw [if_neg c] at h2
    split at h0
    · rename_i d
      rw [if_pos d] at h2
      unfold wd at h2
      rw [if_pos d] at h2
      omega
    · rename_i d
      rw [if_neg d] at h2
      split at h0
      · omega
      · rename_i e
        rw [if_neg e] at h2
        split at h0
        · rename_i g
          rw [if_pos g] at h2
          split at h0
          · rename_i k
            rw [if_pos k] at h2
            have w : wd (f p % 32 * 64 + f (p + 1) % 64) = 2 := by unfold wd; rw [if_neg (by omega), if_pos (by omega)]
            rw [w] at h2
            rw [show q = p + 1 by omega]
            omega
          · omega
        · rename_i g
          rw [if_neg g] at h2
          split at h0
          · rename_i k
            rw [if_pos k] at h2
            split at h0
            · rename_i l
              rw [if_pos l] at h2
              have w : wd ((f p % 16 * 64 + f (p + 1) % 64) * 64 + f (p + 2) % 64) = 3 := by unfold wd; rw [if_neg (by omega), if_neg (by omega), if_pos (by omega)]
              rw [w] at h2
              rcases (show q = p + 1 ∨ q = p + 2 by omega) with z | z
              · rw [z]; omega
              · rw [z]; omega
            · omega
          · rename_i k
            rw [if_neg k] at h2
            split at h0
            · rename_i l
              rw [if_pos l] at h2
              have w : wd (((f p % 8 * 64 + f (p + 1) % 64) * 64 + f (p + 2) % 64) * 64 + f (p + 3) % 64) = 4 := by unfold wd; rw [if_neg (by omega), if_neg (by omega), if_neg (by omega)]
              rw [w] at h2
              rcases (show q = p + 1 ∨ q = p + 2 ∨ q = p + 3 by omega) with z | z | z
              · rw [z]; omega
              · rw [z]; omega
              · rw [z]; omega
            · omega
theorem u8_c1 (h : 128 ≤ f q ∧ f q < 192) : u8 f n q = -1 := by
  unfold u8
  split
  · rfl
  · rw [if_neg (by omega), if_pos (by omega)]
theorem wd_1i {c : Int} (h : wd c = 1) : c < 128 := by
  unfold wd at h
  split at h
  · assumption
  · split at h
    · omega
    · split at h <;> omega
/-- where bytes are left, a character began before that ends with them -/
theorem rs_at (hs : suok f C Rs H n) : ∀ (k : Nat), (k : Int) ≤ n → 1 ≤ Rs (k : Int) → ∃ p0 : Int, p0 ≤ (k : Int) ∧ 0 ≤ u8 f n p0 ∧ (k : Int) + Rs (k : Int) = p0 + wd (u8 f n p0) := by
  intro k
  induction k with
  | zero =>
    intro h1 h2
    obtain ⟨_, a2, a3, _⟩ := hs.2 0 (by omega) (by omega)
    by_cases c : u8 f n 0 = -1
    · have := (a3 c).1 rfl
      exact absurd h2 (by show ¬ (1 : Int) ≤ Rs 0; omega)
    · have b := (u8_in hs.1 0).1
      exact ⟨0, Int.le_refl 0, by omega, by show (0 : Int) + Rs 0 = 0 + wd (u8 f n 0); rw [a2 c]⟩
  | succ k ih =>
    intro h1 h2
    obtain ⟨_, a2, a3, _⟩ := hs.2 ((k + 1 : Nat) : Int) (by omega) (by omega)
    by_cases c : u8 f n ((k + 1 : Nat) : Int) = -1
    · have r := (a3 c).2 (by omega)
      rw [show ((k + 1 : Nat) : Int) - 1 = (k : Int) by omega] at r
      obtain ⟨p0, q1, q2, q3⟩ := ih (by omega) (by omega)
      exact ⟨p0, by omega, q2, by omega⟩
    · have b := (u8_in hs.1 ((k + 1 : Nat) : Int)).1
      exact ⟨((k + 1 : Nat) : Int), Int.le_refl _, by omega, by rw [a2 c]⟩
/-- two or more are left: one less behind -/
theorem rs_s (hs : suok f C Rs H n) (p0 : 0 ≤ p) (p1 : p ≤ n) (h : 2 ≤ Rs p) : u8 f n (p + 1) = -1 ∧ Rs (p + 1) = Rs p - 1 ∧ p + 1 < n := by
  obtain ⟨p2, q1, q2, q3⟩ := rs_at hs p.toNat (by omega) (by rw [show ((p.toNat : Nat) : Int) = p by omega]; omega)
  rw [show ((p.toNat : Nat) : Int) = p by omega] at q1 q3
  have w := u8_w hs.1 q2
  have c := u8_c1 (n := n) (u8_ct hs.1 q2 (show p2 < p + 1 by omega) (by omega))
  obtain ⟨_, _, a3, _⟩ := hs.2 (p + 1) (by omega) (by omega)
  have r := (a3 c).2 (by omega)
  rw [show p + 1 - 1 = p by omega] at r
  exact ⟨c, by omega, by omega⟩
end U8
/-! signs -/
/-- assertions, told by a sign, its character, and what stands ahead -/
def HSc (cd sg ah as : Int) : Prop := (as = 0 ∧ ah % 2 = 1) ∨ (as = 1 ∧ sg = 0) ∨ (as = 2 ∧ (ah % 2 = 1 ∨ ah / 2 % 2 = 1)) ∨ (as = 3 ∧ (sg = 0 ∨ cd = 10)) ∨ (as = 4 ∧ ¬ (ah / 4 % 2 = 1 ↔ isW cd)) ∨ (as = 5 ∧ (ah / 4 % 2 = 1 ↔ isW cd))
def ahR (f : Int → Int) (n p ah : Int) : Prop := (ah % 2 = 1 ↔ p = 0) ∧ (ah / 2 % 2 = 1 ↔ tpk f n (p - 1) = 10) ∧ (ah / 4 % 2 = 1 ↔ isW (tpk f n (p - 1)))
def sgR (CU : Int → Int) (cn : Int) (C Rs : Int → Int) (n p sg cd : Int) : Prop := (n ≤ p ∧ sg = 0 ∧ cd = -1) ∨ (p < n ∧ C p = -1 ∧ 0 < Rs p ∧ sg = Rs p ∧ cd = -1) ∨ (p < n ∧ C p = -1 ∧ Rs p ≤ 0 ∧ sg = 4 ∧ cd = -1) ∨ (p < n ∧ ¬ C p = -1 ∧ ∃ i : Int, cuAt CU cn (C p) i ∧ sg = 5 + i ∧ cd = CU i)
section Sg
variable {K O RR CU f C Rs H : Int → Int} {cn cnt n p sg cd ah : Int}
theorem sg_tpk (hs : suok f C Rs H n) (hc : cuS CU cn) (hf : cuF CU cn) (h : sgR CU cn C Rs n p sg cd) (p0 : 0 ≤ p) : (tpk f n p = 10 ↔ cd = 10) ∧ (isW (tpk f n p) ↔ isW cd) := by
  have w1 : ¬ isW (-1) := by unfold isW; omega
  have key : p < n → u8 f n p = -1 → ¬ tpk f n p = 10 ∧ ¬ isW (tpk f n p) := fun h1 h2 => by
    have e : tpk f n p = f p := if_pos ⟨p0, h1⟩
    have b := hs.1 p p0 h1
    have g : ¬ f p < 128 := fun z => by have := u8_as p0 h1 z; omega
    rw [e]
    refine ⟨by omega, ?_⟩
    unfold isW
    omega
  rcases h with ⟨h1, h2, h3⟩ | ⟨h1, h2, _, _, h3⟩ | ⟨h1, h2, _, _, h3⟩ | ⟨h1, h2, i, h3, h4, h5⟩
  · have e : tpk f n p = -1 := if_neg (by omega)
    rw [e, h3]
    exact ⟨by omega, Iff.rfl⟩
  · obtain ⟨a1, _⟩ := hs.2 p p0 (by omega)
    obtain ⟨k1, k2⟩ := key h1 (by omega)
    rw [h3]
    exact ⟨⟨fun z => absurd z k1, fun z => absurd z (by decide)⟩, ⟨fun z => absurd z k2, fun z => absurd z w1⟩⟩
  · obtain ⟨a1, _⟩ := hs.2 p p0 (by omega)
    obtain ⟨k1, k2⟩ := key h1 (by omega)
    rw [h3]
    exact ⟨⟨fun z => absurd z k1, fun z => absurd z (by decide)⟩, ⟨fun z => absurd z k2, fun z => absurd z w1⟩⟩
  · obtain ⟨a1, _⟩ := hs.2 p p0 (by omega)
    have b := (u8_in hs.1 p).1
    have e : tpk f n p = f p := if_pos ⟨p0, h1⟩
    rw [a1] at h2 h3
    have t1 := cu_10 hc hf h3
    have t2 := cu_W hc hf h3
    have t3 := cu_128 hc hf h3
    rw [h5, e, ← t1, ← t2]
    by_cases g : f p < 128
    · rw [u8_as p0 h1 g]
      exact ⟨Iff.rfl, Iff.rfl⟩
    · have g2 : ¬ u8 f n p < 128 := fun z => by have := u8_lo hs.1 (by omega) z; omega
      refine ⟨by omega, ?_⟩
      unfold isW
      omega
/-- what a sign and the bits ahead tell of assertions is so -/
theorem sg_hld {as : Int} (hs : suok f C Rs H n) (hc : cuS CU cn) (hf : cuF CU cn) (h : sgR CU cn C Rs n p sg cd) (p0 : 0 ≤ p) (p1 : p ≤ n) (ha : ahR f n p ah) (h5 : 0 ≤ as ∧ as ≤ 5) : HSc cd sg ah as ↔ hld f n p as := by
  obtain ⟨t1, t2⟩ := sg_tpk hs hc hf h p0
  obtain ⟨a1, a2, a3⟩ := ha
  have s0 : sg = 0 ↔ p = n := by
    rcases h with ⟨h1, h2, h3⟩ | ⟨h1, h2, h4, h5, h3⟩ | ⟨h1, h2, _, h5, h3⟩ | ⟨h1, h2, i, h3, h4, h5⟩
    · omega
    · omega
    · omega
    · have := h3.1; omega
  unfold HSc hld
  rw [a1, a2, a3, s0, t1, t2]
/-- a place is as its sign tells -/
theorem sg_dpl {la : Int} (hs : suok f C Rs H n) (hc : cuS CU cn) (hf : cuF CU cn) (hp : cuP K O RR cnt CU cn) (hk : ∀ z : Int, (¬ (0 ≤ z ∧ z < cnt)) → K z = 9) (h3 : ∀ z : Int, K z = 3 → 0 ≤ O z ∧ O z ≤ 5) (hla : la = 0 → ∀ z : Int, ¬ K z = 3) (h : sgR CU cn C Rs n p sg cd) (p0 : 0 ≤ p) (p1 : p ≤ n) (ha : la = 1 → ahR f n p ah) (hl : la = 0 ∨ la = 1) : dpl (tgC K) O (phas K O RR) (HSc cd sg ah) f n p (Rs p) (Rs (p + 1)) sg cd := by
  have tz : ∀ z : Int, tgC K z = 2 → K z = 3 := fun z q => by unfold tgC at q; (repeat' split at q) <;> omega
  have t0 : ∀ z : Int, tgC K z = 0 → 0 ≤ z ∧ z < cnt := fun z q => by
    by_cases c : 0 ≤ z ∧ z < cnt
    · exact c
    · have e := hk z c
      unfold tgC at q
      (repeat' split at q) <;> omega
  refine ⟨fun z q => ?_, ?_⟩
  · have k3 := tz z q
    rcases hl with l | l
    · exact absurd k3 (hla l z)
    · exact sg_hld hs hc hf h p0 p1 (ha l) (h3 z k3)
  · obtain ⟨a1, a2, a3, _⟩ := hs.2 p p0 (by omega)
    have rr : 2 ≤ Rs p → Rs (p + 1) = Rs p - 1 := fun q => (rs_s hs p0 p1 q).2.1
    rcases h with ⟨h1, h2, h3⟩ | ⟨h1, h2, h4, h5, h3⟩ | ⟨h1, h2, _, h5, h3⟩ | ⟨h1, h2, i, h3, h4, h5⟩
    · exact Or.inl ⟨h2, by omega, h3⟩
    · have b : Rs p ≤ 3 := by
        by_cases c : p = 0
        · have := (a3 (by omega)).1 c; omega
        · have r := (a3 (by omega)).2 (by omega)
          have r4 := (sup_r hs.1 hs.2 (by omega) (p - 1).toNat (by omega)).2.1
          rw [show (((p - 1).toNat : Nat) : Int) = p - 1 by omega] at r4
          omega
      exact Or.inr (Or.inl ⟨h1, by omega, by omega, h3, by omega, h5.symm, fun q => rr (by omega)⟩)
    · exact Or.inr (Or.inr (Or.inl ⟨h1, h5, h3, by omega⟩))
    · have b := (u8_in hs.1 p).1
      rw [a1] at h2 h3
      have c0 : 0 ≤ CU i := (cu_le hc h3 hf.1).mp (by omega)
      refine Or.inr (Or.inr (Or.inr ⟨h1, by have := h3.1; omega, by omega, by omega, fun x q => ?_, by rw [h5]; exact cu_128 hc hf h3, a2 h2, fun q => rr q⟩))
      have xb := t0 x q
      rw [h5]
      exact cu_has hc hp h3 xb.1 xb.2
end Sg
