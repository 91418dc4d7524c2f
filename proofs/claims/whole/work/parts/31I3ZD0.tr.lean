/-! values of flags, of digits, of letters behind a stroke -/
def flv (v : Int) : Prop := v = 0 ∨ v = 1 ∨ v = 2 ∨ v = 4 ∨ v = 8
theorem hxd_c (c : Int) : (48 ≤ c ∧ c ≤ 57 ∧ hxd c = c - 48) ∨ (97 ≤ c ∧ c ≤ 102 ∧ hxd c = c - 87) ∨ (65 ≤ c ∧ c ≤ 70 ∧ hxd c = c - 55) ∨ (¬ (48 ≤ c ∧ c ≤ 57) ∧ ¬ (97 ≤ c ∧ c ≤ 102) ∧ ¬ (65 ≤ c ∧ c ≤ 70) ∧ hxd c = -1) := by unfold hxd; (repeat' split) <;> omega
def ctf (c : Int) : Int := if c = 97 then 7 else if c = 102 then 12 else if c = 110 then 10 else if c = 114 then 13 else if c = 116 then 9 else if c = 118 then 11 else -1
theorem ctf_c (c : Int) : (c = 97 ∧ ctf c = 7) ∨ (c = 102 ∧ ctf c = 12) ∨ (c = 110 ∧ ctf c = 10) ∨ (c = 114 ∧ ctf c = 13) ∨ (c = 116 ∧ ctf c = 9) ∨ (c = 118 ∧ ctf c = 11) ∨ (¬ c = 97 ∧ ¬ c = 102 ∧ ¬ c = 110 ∧ ¬ c = 114 ∧ ¬ c = 116 ∧ ¬ c = 118 ∧ ctf c = -1) := by unfold ctf; (repeat' split) <;> omega
theorem ctf_in (c : Int) : -1 ≤ ctf c ∧ ctf c ≤ 13 := by have := ctf_c c; omega
theorem ctf_0 {c : Int} (h : 0 ≤ ctf c) : 0 ≤ c := by have := ctf_c c; omega
def wlf (c : Int) : Int := if c = 76 then 3 else if c = 78 then 4 else if c = 71 then 5 else if c = 89 then 6 else -1
theorem wlf_c (c : Int) : (c = 76 ∧ wlf c = 3) ∨ (c = 78 ∧ wlf c = 4) ∨ (c = 71 ∧ wlf c = 5) ∨ (c = 89 ∧ wlf c = 6) ∨ (¬ c = 76 ∧ ¬ c = 78 ∧ ¬ c = 71 ∧ ¬ c = 89 ∧ wlf c = -1) := by unfold wlf; (repeat' split) <;> omega
theorem wlf_in (c : Int) : -1 ≤ wlf c ∧ wlf c ≤ 6 := by have := wlf_c c; omega
theorem wlf_0 {c : Int} (h : 0 ≤ wlf c) : 3 ≤ wlf c ∧ 0 ≤ c := by have := wlf_c c; omega
def q16 : Int → Int := fun i => ([1, 16, 256, 4096, 65536, 1048576, 16777216, 268435456] : List Int).getD i.toNat 0
theorem q16_in : ∀ n : Int, 0 ≤ n → n < 8 → 1 ≤ q16 n ∧ q16 n ≤ 268435456 := z_all 8 (by decide)
theorem q16_s : ∀ n : Int, 0 ≤ n → n < 7 → q16 (n + 1) = 16 * q16 n := z_all (Q := fun n => q16 (n + 1) = 16 * q16 n) 7 (by decide)
/-! the reference's text: escapes, digits, kinds, exactly -/
theorem tbytes {A : Int → Int} {n : Int} (h : rgs A 2000 0 255) (hn : n ≤ 2000) : bytes A n := fun k k0 k1 => h k k0 (by omega)
theorem mchr_u8 {f : Int → Int} {n p v w : Int} (hb : bytes f n) (hp : 0 ≤ p) (h : mchr f n p v w) : v = u8 f n p ∧ (0 ≤ v → w = wd v) := by
  rcases h with ⟨a, b, c⟩ | ⟨a, h⟩
  · refine ⟨?_, fun z => by omega⟩
    rw [b]
    unfold u8
    rw [if_pos (Or.inr a)]
  · have b0 := hb p hp a
    have cb0 : cb f n p = f p := by unfold cb; rw [if_pos a]
    have cbi : ∀ i : Int, 1 ≤ i → (p + i < n ∧ cb f n (p + i) = f (p + i)) ∨ (n ≤ p + i ∧ cb f n (p + i) = 0) := fun i hi => by
      unfold cb
      by_cases c : p + i < n
      · rw [if_pos c]; exact Or.inl ⟨c, rfl⟩
      · rw [if_neg c]; exact Or.inr ⟨by omega, rfl⟩
    have c1 := cbi 1 (by decide)
    have c2 := cbi 2 (by decide)
    have c3 := cbi 3 (by decide)
    rw [cb0] at h
    unfold chQ cv3 cv4 at h
    unfold u8
    rw [if_neg (show ¬ (p < 0 ∨ n ≤ p) by omega)]
    by_cases d1 : f p < 128
    · rw [if_pos d1]
      have e : v = f p ∧ w = 1 := by omega
      refine ⟨e.1, fun _ => ?_⟩
      unfold wd
      rw [if_pos (by omega)]
      exact e.2
    rw [if_neg d1]
    by_cases d2 : f p < 194 ∨ 244 < f p
    · rw [if_pos d2]
      exact ⟨by omega, fun z => by omega⟩
    rw [if_neg d2]
    by_cases d3 : f p < 224
    · rw [if_pos d3]
      by_cases d4 : p + 2 ≤ n ∧ 128 ≤ f (p + 1) ∧ f (p + 1) < 192
      · rw [if_pos d4]
        have e : v = f p % 32 * 64 + f (p + 1) % 64 ∧ w = 2 := by omega
        refine ⟨e.1, fun _ => ?_⟩
        unfold wd
        rw [if_neg (by omega), if_pos (by omega)]
        exact e.2
      · rw [if_neg d4]
        exact ⟨by omega, fun z => by omega⟩
    rw [if_neg d3]
    by_cases d5 : f p < 240
    · rw [if_pos d5]
      by_cases d4 : p + 3 ≤ n ∧ 128 ≤ f (p + 1) ∧ f (p + 1) < 192 ∧ 128 ≤ f (p + 2) ∧ f (p + 2) < 192 ∧ 2048 ≤ (f p % 16 * 64 + f (p + 1) % 64) * 64 + f (p + 2) % 64 ∧ ¬ (55296 ≤ (f p % 16 * 64 + f (p + 1) % 64) * 64 + f (p + 2) % 64 ∧ (f p % 16 * 64 + f (p + 1) % 64) * 64 + f (p + 2) % 64 ≤ 57343)
      · rw [if_pos d4]
        have e : v = (f p % 16 * 64 + f (p + 1) % 64) * 64 + f (p + 2) % 64 ∧ w = 3 := by omega
        refine ⟨e.1, fun _ => ?_⟩
        unfold wd
        rw [if_neg (by omega), if_neg (by omega), if_pos (by omega)]
        exact e.2
      · rw [if_neg d4]
        exact ⟨by omega, fun z => by omega⟩
    rw [if_neg d5]
    by_cases d4 : p + 4 ≤ n ∧ 128 ≤ f (p + 1) ∧ f (p + 1) < 192 ∧ 128 ≤ f (p + 2) ∧ f (p + 2) < 192 ∧ 128 ≤ f (p + 3) ∧ f (p + 3) < 192 ∧ 65536 ≤ ((f p % 8 * 64 + f (p + 1) % 64) * 64 + f (p + 2) % 64) * 64 + f (p + 3) % 64 ∧ ((f p % 8 * 64 + f (p + 1) % 64) * 64 + f (p + 2) % 64) * 64 + f (p + 3) % 64 ≤ 1114111
    · rw [if_pos d4]
      have e : v = ((f p % 8 * 64 + f (p + 1) % 64) * 64 + f (p + 2) % 64) * 64 + f (p + 3) % 64 ∧ w = 4 := by omega
      refine ⟨e.1, fun _ => ?_⟩
      unfold wd
      rw [if_neg (by omega), if_neg (by omega), if_neg (by omega)]
      exact e.2
    · rw [if_neg d4]
      exact ⟨by omega, fun z => by omega⟩
/-! digits behind \x -/
/-- nn digits from a0 on are read: hv -/
def hxI (f : Int → Int) (n a0 nn hv : Int) : Prop := ∃ k : Nat, (k : Int) = nn ∧ (∀ j : Nat, hxs f n (k + j) a0 0 = hxs f n j (a0 + nn) hv) ∧ ∀ i : Int, 0 ≤ i → i < nn → 0 ≤ hxd (tpk f n (a0 + i))
theorem hxI_0 {f : Int → Int} {n a0 : Int} : hxI f n a0 0 0 := ⟨0, rfl, fun j => by rw [Nat.zero_add, Int.add_zero], fun i a b => by omega⟩
theorem hxI_s {f : Int → Int} {n a0 nn hv : Int} (h : hxI f n a0 nn hv) (hd : 0 ≤ hxd (tpk f n (a0 + nn))) : hxI f n a0 (nn + 1) (16 * hv + hxd (tpk f n (a0 + nn))) := by
  obtain ⟨k, h1, h2, h3⟩ := h
  refine ⟨k + 1, by omega, fun j => ?_, fun i i0 i1 => ?_⟩
  · have t := h2 (j + 1)
    rw [show k + 1 + j = k + (j + 1) by omega, t]
    conv => lhs; unfold hxs
    rw [if_pos hd, Int.add_assoc]
  · by_cases e : i = nn
    · rw [e]; exact hd
    · exact h3 i i0 (by omega)
theorem hxs_n {f : Int → Int} {n p v : Int} (h : hxd (tpk f n p) < 0) (j : Nat) : hxs f n j p v = (p, v) := by
  cases j with
  | zero => rfl
  | succ j =>
    unfold hxs
    rw [if_neg (by omega)]
theorem hxI_e {f : Int → Int} {n a0 nn hv : Int} (h : hxI f n a0 nn hv) (hn : nn ≤ 6) (hd : hxd (tpk f n (a0 + nn)) < 0) : hxs f n 6 a0 0 = (a0 + nn, hv) := by
  obtain ⟨k, h1, h2, h3⟩ := h
  have t := h2 (6 - k)
  rw [show k + (6 - k) = 6 by omega] at t
  rw [t]
  exact hxs_n hd _
theorem hxs_al {f : Int → Int} {n : Int} : ∀ (k : Nat) (p v : Int), (∀ i : Int, 0 ≤ i → i < k → 0 ≤ hxd (tpk f n (p + i))) → ∃ w : Int, hxs f n k p v = (p + k, w) := by
  intro k
  induction k with
  | zero => intro p v _; exact ⟨v, by unfold hxs; rw [show p + ((0 : Nat) : Int) = p by omega]⟩
  | succ k ih =>
    intro p v h
    have h0 := h 0 (by omega) (by omega)
    rw [Int.add_zero] at h0
    obtain ⟨w, hw⟩ := ih (p + 1) (16 * v + hxd (tpk f n p)) (fun i i0 i1 => by
      have := h (i + 1) (by omega) (by omega)
      rw [show p + 1 + i = p + (i + 1) by omega]
      exact this)
    refine ⟨w, ?_⟩
    unfold hxs
    rw [if_pos h0, hw, show p + 1 + ((k : Nat) : Int) = p + ((k + 1 : Nat) : Int) by omega]
theorem hxd_cl : hxd 125 = -1 := by decide
theorem hxd_m : hxd (-1) = -1 := by decide
/-- in braces: n digits, then not one more, or seven -/
theorem hex_b {f : Int → Int} {n p nn hv : Int} (hp : tpk f n p = 123) (h : hxI f n (p + 1) nn hv) (hn : 1 ≤ nn ∧ nn ≤ 6) (hc : tpk f n (p + 1 + nn) = 125) (hv' : chr hv) : hexok f n p hv (p + 1 + nn + 1) := by
  refine Or.inl ⟨hp, ?_, by omega, by rw [show p + 1 + nn + 1 - 1 = p + 1 + nn by omega]; exact hc, hv'⟩
  rw [show p + 1 + nn + 1 - 1 = p + 1 + nn by omega]
  exact hxI_e h hn.2 (by rw [hc, hxd_cl]; decide)
theorem hex_bn {f : Int → Int} {n p nn hv : Int} (hp : tpk f n p = 123) (h : hxI f n (p + 1) nn hv) (h7 : 0 ≤ nn ∧ nn ≤ 7) (hd : nn = 7 ∨ hxd (tpk f n (p + 1 + nn)) < 0) (hx : nn < 1 ∨ 6 < nn ∨ ¬ tpk f n (p + 1 + nn) = 125 ∨ ¬ chr hv) (v q : Int) : ¬ hexok f n p v q := by
  rintro (⟨_, a2, a3, a4, a5⟩ | ⟨b1, _⟩)
  · by_cases c : nn = 7
    · obtain ⟨w, hw⟩ := hxs_al (f := f) (n := n) 6 (p + 1) 0 (fun i i0 i1 => h.choose_spec.2.2 i i0 (by omega))
      rw [hw] at a2
      have e1 := congrArg Prod.fst a2
      simp only at e1
      have d := h.choose_spec.2.2 6 (by decide) (by omega)
      rw [show p + 1 + 6 = q - 1 by omega, a4, hxd_cl] at d
      omega
    · have t := hxI_e h (by omega) (hd.resolve_left c)
      rw [t] at a2
      have e1 := congrArg Prod.fst a2
      have e2 := congrArg Prod.snd a2
      simp only at e1 e2
      rw [← e1] at a4
      rw [← e2] at a5
      rcases hx with y | y | y | y
      · omega
      · omega
      · exact y a4
      · exact y a5
  · exact b1 hp
/-- two digits -/
theorem hex_2 {f : Int → Int} {n p : Int} (hp : ¬ tpk f n p = 123) (h0 : 0 ≤ hxd (tpk f n p)) (h1 : 0 ≤ hxd (tpk f n (p + 1))) (hc : chr (16 * hxd (tpk f n p) + hxd (tpk f n (p + 1)))) : hexok f n p (16 * hxd (tpk f n p) + hxd (tpk f n (p + 1))) (p + 2) := by
  refine Or.inr ⟨hp, ?_, rfl, hc⟩
  unfold hxs
  rw [if_pos h0]
  unfold hxs
  rw [if_pos h1]
  unfold hxs
  rw [show p + 1 + 1 = p + 2 by omega, show 16 * (16 * 0 + hxd (tpk f n p)) + hxd (tpk f n (p + 1)) = 16 * hxd (tpk f n p) + hxd (tpk f n (p + 1)) by omega]
theorem hex_2n {f : Int → Int} {n p : Int} (hp : ¬ tpk f n p = 123) (hx : hxd (tpk f n p) < 0 ∨ hxd (tpk f n (p + 1)) < 0 ∨ ¬ chr (16 * hxd (tpk f n p) + hxd (tpk f n (p + 1)))) (v q : Int) : ¬ hexok f n p v q := by
  rintro (⟨b1, _⟩ | ⟨_, a2, a3, a4⟩)
  · exact hp b1
  · by_cases c0 : 0 ≤ hxd (tpk f n p)
    · by_cases c1 : 0 ≤ hxd (tpk f n (p + 1))
      · unfold hxs at a2
        rw [if_pos c0] at a2
        unfold hxs at a2
        rw [if_pos c1] at a2
        unfold hxs at a2
        have e2 := congrArg Prod.snd a2
        simp only at e2
        rcases hx with y | y | y
        · omega
        · omega
        · apply y
          rw [show 16 * hxd (tpk f n p) + hxd (tpk f n (p + 1)) = v by omega]
          exact a4
      · unfold hxs at a2
        rw [if_pos c0, hxs_n (by omega)] at a2
        have e1 := congrArg Prod.fst a2
        simp only at e1
        omega
    · rw [hxs_n (by omega)] at a2
      have e1 := congrArg Prod.fst a2
      simp only at e1
      omega
/-! escapes -/
/-- no escape here: in a class (ic) assertions and the like are none -/
def escB (f : Int → Int) (n p ic w : Int) : Prop := esc3 f n p w ∨ (ic = 1 ∧ w = 5 ∧ ∃ v q : Int, esc1 f n p v q ∧ v < -2)
def es2c (c : Int) : Prop := c = 100 ∨ c = 68 ∨ c = 115 ∨ c = 83 ∨ c = 119 ∨ c = 87
theorem esc1_c {f : Int → Int} {n p v q : Int} (h : esc1 f n p v q) : (tpk f n (p + 1) = 120 ∧ hexok f n (p + 2) v q) ∨ (0 ≤ ctf (tpk f n (p + 1))) ∨ (tpk f n (p + 1) = 65 ∨ tpk f n (p + 1) = 122 ∨ tpk f n (p + 1) = 98 ∨ tpk f n (p + 1) = 66 ∨ tpk f n (p + 1) = 67) ∨ (0 ≤ tpk f n (p + 1) ∧ tpk f n (p + 1) < 128 ∧ ¬ isW (tpk f n (p + 1))) := by
  have c := ctf_c (tpk f n (p + 1))
  rcases h with ⟨_, h⟩ | h
  · right
    rcases h with h | h | h | h | h | h | h | h | h | h | h | h
    · left; omega
    · left; omega
    · left; omega
    · left; omega
    · left; omega
    · left; omega
    · right; left; omega
    · right; left; omega
    · right; left; omega
    · right; left; omega
    · right; left; omega
    · right; right; exact ⟨h.1, h.2.1, h.2.2.1⟩
  · exact Or.inl h
theorem esc2_c {f : Int → Int} {n p q b : Int} {k : Nat} (h : esc2 f n p q k b) : es2c (tpk f n (p + 1)) ∨ ((tpk f n (p + 1) = 112 ∨ tpk f n (p + 1) = 80) ∧ 0 ≤ wlf (tpk f n (p + 2))) := by
  have c := wlf_c (tpk f n (p + 2))
  rcases h with ⟨_, h⟩ | ⟨_, h, h2⟩
  · left; unfold es2c; omega
  · right; omega
theorem es_ct {f : Int → Int} {n p : Int} (h : 0 ≤ ctf (tpk f n (p + 1))) : esc1 f n p (ctf (tpk f n (p + 1))) (p + 2) := by
  rcases ctf_c (tpk f n (p + 1)) with c | c | c | c | c | c | c
  · exact Or.inl ⟨rfl, (Or.inl ⟨c.1, c.2⟩)⟩
  · exact Or.inl ⟨rfl, (Or.inr (Or.inl ⟨c.1, c.2⟩))⟩
  · exact Or.inl ⟨rfl, (Or.inr (Or.inr (Or.inl ⟨c.1, c.2⟩)))⟩
  · exact Or.inl ⟨rfl, (Or.inr (Or.inr (Or.inr (Or.inl ⟨c.1, c.2⟩))))⟩
  · exact Or.inl ⟨rfl, (Or.inr (Or.inr (Or.inr (Or.inr (Or.inl ⟨c.1, c.2⟩)))))⟩
  · exact Or.inl ⟨rfl, (Or.inr (Or.inr (Or.inr (Or.inr (Or.inr (Or.inl ⟨c.1, c.2⟩))))))⟩
  · omega
theorem es_hx {f : Int → Int} {n p v q : Int} (h : tpk f n (p + 1) = 120) (h2 : hexok f n (p + 2) v q) : esc1 f n p v q := Or.inr ⟨h, h2⟩
theorem es_as {f : Int → Int} {n p : Int} (h : tpk f n (p + 1) = 65 ∨ tpk f n (p + 1) = 122 ∨ tpk f n (p + 1) = 98 ∨ tpk f n (p + 1) = 66 ∨ tpk f n (p + 1) = 67) : ∃ v : Int, esc1 f n p v (p + 2) ∧ v < -2 := by
  rcases h with h | h | h | h | h
  · exact ⟨-4, Or.inl ⟨rfl, (Or.inr (Or.inr (Or.inr (Or.inr (Or.inr (Or.inr (Or.inl ⟨h, rfl⟩)))))))⟩, by decide⟩
  · exact ⟨-5, Or.inl ⟨rfl, (Or.inr (Or.inr (Or.inr (Or.inr (Or.inr (Or.inr (Or.inr (Or.inl ⟨h, rfl⟩))))))))⟩, by decide⟩
  · exact ⟨-8, Or.inl ⟨rfl, (Or.inr (Or.inr (Or.inr (Or.inr (Or.inr (Or.inr (Or.inr (Or.inr (Or.inl ⟨h, rfl⟩)))))))))⟩, by decide⟩
  · exact ⟨-9, Or.inl ⟨rfl, (Or.inr (Or.inr (Or.inr (Or.inr (Or.inr (Or.inr (Or.inr (Or.inr (Or.inr (Or.inl ⟨h, rfl⟩))))))))))⟩, by decide⟩
  · exact ⟨-3, Or.inl ⟨rfl, (Or.inr (Or.inr (Or.inr (Or.inr (Or.inr (Or.inr (Or.inr (Or.inr (Or.inr (Or.inr (Or.inl ⟨h, rfl⟩)))))))))))⟩, by decide⟩
theorem es_as2 {f : Int → Int} {n p o : Int} (h : (tpk f n (p + 1) = 65 ∧ o = 0) ∨ (tpk f n (p + 1) = 122 ∧ o = 1) ∨ (tpk f n (p + 1) = 98 ∧ o = 2) ∨ (tpk f n (p + 1) = 66 ∧ o = 3)) : ∃ v : Int, esc1 f n p v (p + 2) ∧ v < -3 ∧ -4 - v = asq o := by
  rcases h with ⟨h, e⟩ | ⟨h, e⟩ | ⟨h, e⟩ | ⟨h, e⟩
  · subst e; exact ⟨-4, Or.inl ⟨rfl, (Or.inr (Or.inr (Or.inr (Or.inr (Or.inr (Or.inr (Or.inl ⟨h, rfl⟩)))))))⟩, by decide, by decide⟩
  · subst e; exact ⟨-5, Or.inl ⟨rfl, (Or.inr (Or.inr (Or.inr (Or.inr (Or.inr (Or.inr (Or.inr (Or.inl ⟨h, rfl⟩))))))))⟩, by decide, by decide⟩
  · subst e; exact ⟨-8, Or.inl ⟨rfl, (Or.inr (Or.inr (Or.inr (Or.inr (Or.inr (Or.inr (Or.inr (Or.inr (Or.inl ⟨h, rfl⟩)))))))))⟩, by decide, by decide⟩
  · subst e; exact ⟨-9, Or.inl ⟨rfl, (Or.inr (Or.inr (Or.inr (Or.inr (Or.inr (Or.inr (Or.inr (Or.inr (Or.inr (Or.inl ⟨h, rfl⟩))))))))))⟩, by decide, by decide⟩
theorem es_b {f : Int → Int} {n p : Int} (h : tpk f n (p + 1) = 67) : esc1 f n p (-3) (p + 2) := Or.inl ⟨rfl, (Or.inr (Or.inr (Or.inr (Or.inr (Or.inr (Or.inr (Or.inr (Or.inr (Or.inr (Or.inr (Or.inl ⟨h, rfl⟩)))))))))))⟩
theorem es_ch {f : Int → Int} {n p : Int} (h : 0 ≤ tpk f n (p + 1) ∧ tpk f n (p + 1) < 128) (hw : ¬ isW (tpk f n (p + 1))) : esc1 f n p (tpk f n (p + 1)) (p + 2) := Or.inl ⟨rfl, Or.inr (Or.inr (Or.inr (Or.inr (Or.inr (Or.inr (Or.inr (Or.inr (Or.inr (Or.inr (Or.inr ⟨h.1, h.2, hw, rfl⟩))))))))))⟩
theorem isW_ct {c : Int} (h : 0 ≤ ctf c) : isW c := by
  have := ctf_c c
  unfold isW
  omega
theorem isW_l {c : Int} (h : es2c c ∨ c = 112 ∨ c = 80 ∨ c = 120 ∨ c = 65 ∨ c = 122 ∨ c = 98 ∨ c = 66 ∨ c = 67) : isW c := by
  unfold isW es2c at *
  omega
theorem eb_hx {f : Int → Int} {n p ic : Int} (h : tpk f n (p + 1) = 120) (h2 : ∀ v q : Int, ¬ hexok f n (p + 2) v q) : escB f n p ic 5 := by
  refine Or.inl ⟨fun v q z => ?_, fun q k b z => ?_, Or.inr ⟨rfl, by omega⟩⟩
  · have c := ctf_c (tpk f n (p + 1))
    rcases esc1_c z with y | y | y | y
    · exact h2 _ _ y.2
    · omega
    · omega
    · exact y.2.2 (isW_l (by omega))
  · rcases esc2_c z with y | y
    · unfold es2c at y; omega
    · omega
theorem eb_p5 {f : Int → Int} {n p ic : Int} (h : tpk f n (p + 1) = 112 ∨ tpk f n (p + 1) = 80) (h2 : tpk f n (p + 2) = -1) : escB f n p ic 5 := by
  refine Or.inl ⟨fun v q z => ?_, fun q k b z => ?_, Or.inr ⟨rfl, fun y => y.2 h2⟩⟩
  · have c := ctf_c (tpk f n (p + 1))
    rcases esc1_c z with y | y | y | y
    · omega
    · omega
    · omega
    · exact y.2.2 (isW_l (by omega))
  · have c := wlf_c (tpk f n (p + 2))
    rcases esc2_c z with y | y
    · unfold es2c at y; omega
    · omega
theorem eb_p7 {f : Int → Int} {n p ic : Int} (h : tpk f n (p + 1) = 112 ∨ tpk f n (p + 1) = 80) (h2 : 0 ≤ tpk f n (p + 2)) (h3 : wlf (tpk f n (p + 2)) < 0) : escB f n p ic 7 := by
  refine Or.inl ⟨fun v q z => ?_, fun q k b z => ?_, Or.inl ⟨rfl, h, by omega⟩⟩
  · have c := ctf_c (tpk f n (p + 1))
    rcases esc1_c z with y | y | y | y
    · omega
    · omega
    · omega
    · exact y.2.2 (isW_l (by omega))
  · rcases esc2_c z with y | y
    · unfold es2c at y; omega
    · omega
theorem eb_5 {f : Int → Int} {n p ic : Int} (h0 : ¬ tpk f n (p + 1) = 120) (h1 : ctf (tpk f n (p + 1)) < 0) (h2 : ¬ es2c (tpk f n (p + 1))) (h3 : ¬ tpk f n (p + 1) = 112) (h4 : ¬ tpk f n (p + 1) = 80) (h5 : (¬ tpk f n (p + 1) = 65 ∧ ¬ tpk f n (p + 1) = 122 ∧ ¬ tpk f n (p + 1) = 98 ∧ ¬ tpk f n (p + 1) = 66 ∧ ¬ tpk f n (p + 1) = 67) ∨ ic = 1) (h6 : tpk f n (p + 1) < 0 ∨ 127 < tpk f n (p + 1) ∨ isW (tpk f n (p + 1))) : escB f n p ic 5 := by
  by_cases a : tpk f n (p + 1) = 65 ∨ tpk f n (p + 1) = 122 ∨ tpk f n (p + 1) = 98 ∨ tpk f n (p + 1) = 66 ∨ tpk f n (p + 1) = 67
  · obtain ⟨v, e1, e2⟩ := es_as a
    exact Or.inr ⟨h5.resolve_left (by omega), rfl, v, _, e1, e2⟩
  · refine Or.inl ⟨fun v q z => ?_, fun q k b z => ?_, Or.inr ⟨rfl, by omega⟩⟩
    · rcases esc1_c z with y | y | y | y
      · exact h0 y.1
      · omega
      · exact a y
      · rcases h6 with x | x | x
        · omega
        · omega
        · exact y.2.2 x
    · rcases esc2_c z with y | y
      · exact h2 y
      · rcases y.1 with x | x
        · exact h3 x
        · exact h4 x
theorem eb_n {f : Int → Int} {n p ic : Int} (h : tpk f n (p + 1) = -1) : escB f n p ic 5 := by
  have c := ctf_c (tpk f n (p + 1))
  exact eb_5 (by omega) (by omega) (by unfold es2c; omega) (by omega) (by omega) (Or.inl (by omega)) (Or.inl (by omega))
theorem es_k {f : Int → Int} {n p w : Int} {b : Int} {k : Nat} (hk : (k : Int) = w + 1) (h : (w = 0 ∧ ((tpk f n (p + 1) = 100 ∧ b = 0) ∨ (tpk f n (p + 1) = 68 ∧ b = 1))) ∨ (w = 1 ∧ ((tpk f n (p + 1) = 115 ∧ b = 0) ∨ (tpk f n (p + 1) = 83 ∧ b = 1))) ∨ (w = 2 ∧ ((tpk f n (p + 1) = 119 ∧ b = 0) ∨ (tpk f n (p + 1) = 87 ∧ b = 1)))) : esc2 f n p (p + 2) k b := by
  rcases h with ⟨h, h2 | h2⟩ | ⟨h, h2 | h2⟩ | ⟨h, h2 | h2⟩
  · exact Or.inl ⟨rfl, (Or.inl ⟨h2.1, by omega, h2.2⟩)⟩
  · exact Or.inl ⟨rfl, (Or.inr (Or.inl ⟨h2.1, by omega, h2.2⟩))⟩
  · exact Or.inl ⟨rfl, (Or.inr (Or.inr (Or.inl ⟨h2.1, by omega, h2.2⟩)))⟩
  · exact Or.inl ⟨rfl, (Or.inr (Or.inr (Or.inr (Or.inl ⟨h2.1, by omega, h2.2⟩))))⟩
  · exact Or.inl ⟨rfl, (Or.inr (Or.inr (Or.inr (Or.inr (Or.inl ⟨h2.1, by omega, h2.2⟩)))))⟩
  · exact Or.inl ⟨rfl, (Or.inr (Or.inr (Or.inr (Or.inr (Or.inr ⟨h2.1, by omega, h2.2⟩)))))⟩
theorem es_p {f : Int → Int} {n p : Int} {b : Int} {k : Nat} (hk : (k : Int) = wlf (tpk f n (p + 2)) + 1) (h : (tpk f n (p + 1) = 112 ∧ b = 0) ∨ (tpk f n (p + 1) = 80 ∧ b = 1)) (hw : 0 ≤ wlf (tpk f n (p + 2))) : esc2 f n p (p + 3) k b := by
  rcases wlf_c (tpk f n (p + 2)) with c | c | c | c | c
  · exact Or.inr ⟨rfl, h, (Or.inl ⟨c.1, by omega⟩)⟩
  · exact Or.inr ⟨rfl, h, (Or.inr (Or.inl ⟨c.1, by omega⟩))⟩
  · exact Or.inr ⟨rfl, h, (Or.inr (Or.inr (Or.inl ⟨c.1, by omega⟩)))⟩
  · exact Or.inr ⟨rfl, h, (Or.inr (Or.inr (Or.inr ⟨c.1, by omega⟩)))⟩
  · omega
theorem escB_m {f : Int → Int} {n p op w : Int} (h : tpk f n p = 92) (hb : escB f n p 1 w) : mem3 f n p op w p := by
  rcases hb with y | y
  · exact Or.inr (Or.inr (Or.inl ⟨h, y, rfl⟩))
  · exact Or.inr (Or.inr (Or.inr ⟨h, y.2.2, y.2.1, rfl⟩))
/-! named kinds -/
def sp5 (f : Int → Int) (n p c1 c2 c3 c4 c5 : Int) : Prop := p + 5 < n ∧ f p = c1 ∧ f (p + 1) = c2 ∧ f (p + 2) = c3 ∧ f (p + 3) = c4 ∧ f (p + 4) = c5
theorem nm_of {f : Int → Int} {n b c1 c2 c3 c4 c5 : Int} (hb : 0 ≤ b) (h : sp5 f n b c1 c2 c3 c4 c5) (h5 : tpk f n (b + 5) = 58) (h6 : tpk f n (b + 6) = 93) : nm7 f n b c1 c2 c3 c4 c5 := by
  have w := tpk_w (f := f) (n := n) (i := b + 6) (by omega)
  rw [tpk_at ⟨by omega, by omega⟩] at h5 h6
  exact ⟨hb, by omega, h.2.1, h.2.2.1, h.2.2.2.1, h.2.2.2.2.1, h.2.2.2.2.2, h5, h6⟩
theorem nm_sp {f : Int → Int} {n b c1 c2 c3 c4 c5 : Int} (h : nm7 f n b c1 c2 c3 c4 c5) : sp5 f n b c1 c2 c3 c4 c5 ∧ tpk f n (b + 5) = 58 ∧ tpk f n (b + 6) = 93 := by
  obtain ⟨h0, h1, a0, a1, a2, a3, a4, a5, a6⟩ := h
  refine ⟨⟨by omega, a0, a1, a2, a3, a4⟩, ?_, ?_⟩
  · rw [tpk_at ⟨by omega, by omega⟩]; exact a5
  · rw [tpk_at ⟨by omega, by omega⟩]; exact a6
theorem nk_no6 {f : Int → Int} {n b : Int} (h0 : ¬ sp5 f n b 100 105 103 105 116) (h1 : ¬ sp5 f n b 97 108 112 104 97) (h2 : ¬ sp5 f n b 117 112 112 101 114) (h3 : ¬ sp5 f n b 108 111 119 101 114) (h4 : ¬ sp5 f n b 112 117 110 99 116) (h5 : ¬ sp5 f n b 115 112 97 99 101) (k : Nat) : ¬ nmk f n b k := by
  rintro (⟨_, z⟩ | ⟨_, z⟩ | ⟨_, z⟩ | ⟨_, z⟩ | ⟨_, z⟩ | ⟨_, z⟩)
  · exact h0 (nm_sp z).1
  · exact h1 (nm_sp z).1
  · exact h2 (nm_sp z).1
  · exact h3 (nm_sp z).1
  · exact h4 (nm_sp z).1
  · exact h5 (nm_sp z).1
theorem nk_no7 {f : Int → Int} {n b : Int} (h : ¬ tpk f n (b + 5) = 58 ∨ ¬ tpk f n (b + 6) = 93) (k : Nat) : ¬ nmk f n b k := by
  rintro (⟨_, z⟩ | ⟨_, z⟩ | ⟨_, z⟩ | ⟨_, z⟩ | ⟨_, z⟩ | ⟨_, z⟩) <;> (have := nm_sp z; omega)
theorem nk_i {f : Int → Int} {n p b0 : Int} (hb : (tpk f n (p + 2) = 94 ∧ b0 = p + 3) ∨ (¬ tpk f n (p + 2) = 94 ∧ b0 = p + 2)) (h : ∀ k : Nat, ¬ nmk f n b0 k) : nk3 f n p := by
  intro k b q z
  rcases z with ⟨_, z1, z2, _⟩ | ⟨_, z1, z2, _⟩
  · rw [show p + 3 = b0 by omega] at z2; exact h k z2
  · rw [show p + 2 = b0 by omega] at z2; exact h k z2
/-! classes -/
theorem kor {P P2 : Int → Prop} {w b : Int} {k : Nat} (hw : 0 ≤ w ∧ w < 12) (hk : (k : Int) = w + 1) (h : ∀ x : Int, P2 x ↔ P x ∨ kmN w b x) : ∀ c, P2 c ↔ P c ∨ kmem k b c := fun c => by rw [h c, kmem_t hw hk]
theorem lor_ {P : Int → Prop} {al a b : Int} : ∀ c, (P c ∨ lkS al a b c) ↔ P c ∨ one al a b c := fun c => by rw [one_lk]
