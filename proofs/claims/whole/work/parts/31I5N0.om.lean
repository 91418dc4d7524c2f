/-! a program of one mind: weights of states, so that what waits on the stack never comes to more than the first state's -/
def ow (w : Int → Int) (e : Int) : Int := if e < 0 then 1 else w e
def osum (w SK : Int → Int) : Nat → Int
  | 0 => 0
  | n + 1 => osum w SK n + ow w (SK (n : Int))
def oclr (K N O w : Int → Int) (V : Int → Prop) (cnt : Int) : Prop := ∀ s : Int, V s → (0 ≤ s ∧ s < cnt ∧ 1 ≤ w s) ∧ (K s = 6 → V (N s) ∧ V (O s) ∧ w (N s) + w (O s) ≤ w s) ∧ (K s = 7 → V (N s) ∧ w (N s) + 1 ≤ w s) ∧ (K s = 3 → V (N s) ∧ w (N s) ≤ w s)
def oent (V : Int → Prop) (cnt n wi e : Int) : Prop := (e < 0 ∧ tko cnt n wi e) ∨ V e
/-- what waits: good entries, and weights of at most 809, with r left over for what is taken off just now -/
def ostk (w : Int → Int) (V : Int → Prop) (SK : Int → Int) (dp cnt n wi r : Int) : Prop := (∀ k : Int, 0 ≤ k → k < dp → oent V cnt n wi (SK k)) ∧ osum w SK dp.toNat + r ≤ 809
theorem osum_ext {w S S2 : Int → Int} : ∀ n : Nat, (∀ k : Int, 0 ≤ k → k < (n : Int) → S2 k = S k) → osum w S2 n = osum w S n := by
  intro n
  induction n with
  | zero => intro _; rfl
  | succ n ih =>
    intro h
    unfold osum
    rw [ih (fun k h0 h1 => h k h0 (by omega)), h n (by omega) (by omega)]
theorem osum_s {w S : Int → Int} {d : Int} (h : 0 ≤ d) : osum w S (d + 1).toNat = osum w S d.toNat + ow w (S d) := by
  rw [show (d + 1).toNat = d.toNat + 1 by omega]
  show osum w S d.toNat + ow w (S ((d.toNat : Nat) : Int)) = _
  rw [show ((d.toNat : Nat) : Int) = d by omega]
theorem oent_w {K N O w : Int → Int} {V : Int → Prop} {cnt n wi e : Int} (hc : oclr K N O w V cnt) (h : oent V cnt n wi e) : 1 ≤ ow w e := by
  unfold ow
  rcases h with h | h
  · rw [if_pos h.1]; omega
  · have := (hc e h).1
    rw [if_neg (by omega)]; omega
theorem ostk_len {K N O w : Int → Int} {V : Int → Prop} {SK : Int → Int} {dp cnt n wi r : Int} (hc : oclr K N O w V cnt) (h : ostk w V SK dp cnt n wi r) (hr : 0 ≤ r) (hd : 0 ≤ dp) : dp + r ≤ 809 := by
  have q : ∀ m : Nat, (m : Int) ≤ dp → (m : Int) ≤ osum w SK m := by
    intro m
    induction m with
    | zero => intro _; exact Int.le_refl _
    | succ m ih =>
      intro hm
      have a := ih (by omega)
      have b := oent_w hc (h.1 m (by omega) (by omega))
      unfold osum
      omega
  have := q dp.toNat (by omega)
  have := h.2
  omega
theorem ostk_pop {w : Int → Int} {V : Int → Prop} {SK : Int → Int} {dp cnt n wi : Int} (h : ostk w V SK dp cnt n wi 0) (hd : 0 < dp) : ostk w V SK (dp - 1) cnt n wi (ow w (SK (dp - 1))) ∧ oent V cnt n wi (SK (dp - 1)) := by
  refine ⟨⟨fun k h0 h1 => h.1 k h0 (by omega), ?_⟩, h.1 _ (by omega) (by omega)⟩
  have e := osum_s (w := w) (S := SK) (d := dp - 1) (by omega)
  rw [show dp - 1 + 1 = dp by omega] at e
  have := h.2
  omega
theorem ostk_drop {w : Int → Int} {V : Int → Prop} {SK : Int → Int} {dp cnt n wi r r2 : Int} (h : ostk w V SK dp cnt n wi r) (hr : r2 ≤ r) : ostk w V SK dp cnt n wi r2 := ⟨h.1, by have := h.2; omega⟩
theorem ostk_push {w : Int → Int} {V : Int → Prop} {SK : Int → Int} {dp cnt n wi r r2 e : Int} (h : ostk w V SK dp cnt n wi r) (hd : 0 ≤ dp) (he : oent V cnt n wi e) (hr : r2 + ow w e ≤ r) : ostk w V (zu SK dp e) (dp + 1) cnt n wi r2 := by
  refine ⟨fun k h0 h1 => ?_, ?_⟩
  · by_cases q : k = dp
    · rw [q, zu_self]; exact he
    · rw [zu_ne q]; exact h.1 k h0 (by omega)
  · rw [osum_s hd, zu_self, osum_ext (S := SK) _ (fun k h0 h1 => zu_ne (by omega))]
    have := h.2
    omega
theorem ow_s {w : Int → Int} {e : Int} (h : 0 ≤ e) : ow w e = w e := if_neg (by omega)
theorem ow_u {w : Int → Int} {e : Int} (h : e < 0) : ow w e = 1 := if_pos h
theorem ostk_1 {K N O w : Int → Int} {V : Int → Prop} {SK : Int → Int} {b cnt n wi : Int} (hc : oclr K N O w V cnt) (hb : V b) (hw : w b ≤ 809) : ostk w V (zu SK 0 b) 1 cnt n wi 0 := by
  have h0 : ostk w V SK 0 cnt n wi (w b) := ⟨fun k h0 h1 => absurd h1 (by omega), by show (0 : Int) + w b ≤ 809; omega⟩
  exact ostk_push h0 (by omega) (Or.inr hb) (by rw [ow_s (hc b hb).1.1]; omega)
theorem oent_t {K N O w : Int → Int} {V : Int → Prop} {cnt n wi e : Int} (hc : oclr K N O w V cnt) (h : oent V cnt n wi e) : tko cnt n wi e := by
  rcases h with h | h
  · exact h.2
  · exact tko_s ⟨(hc e h).1.1, (hc e h).1.2.1⟩
theorem oent_V {V : Int → Prop} {cnt n wi e : Int} (h : oent V cnt n wi e) (he : 0 ≤ e) : V e := by
  rcases h with h | h
  · omega
  · exact h
def oon (K : Int → Int) (chn : Int) (ON : Int → Int) (wi n cnt : Int) : Prop := (-1 ≤ chn ∧ chn < cnt) ∧ (¬ chn = -1 → K chn ≤ 2 ∧ rgs ON wi (-1) n ∧ 0 ≤ ON 0)
theorem oon_0 {K : Int → Int} {ON : Int → Int} {wi n cnt : Int} (h : 0 ≤ cnt) : oon K (-1) ON wi n cnt := ⟨by omega, fun q => absurd rfl q⟩
theorem oon_s {K : Int → Int} {WK ON : Int → Int} {wi n cnt c : Int} (hc : 0 ≤ c ∧ c < cnt ∧ K c ≤ 2) (h : rgs WK wi (-1) n) (h0 : 0 ≤ WK 0) (hw : 2 ≤ wi) : oon K c (zcpy WK ON 0 0 wi) wi n cnt := by
  refine ⟨by omega, fun _ => ⟨hc.2.2, fun k k0 k1 => ?_, ?_⟩⟩
  · rw [zcpy_in (by omega), show (0 : Int) + (k - 0) = k by omega]; exact h k k0 k1
  · rw [zcpy_in (by omega)]; exact h0
theorem ostk_split {K N O w : Int → Int} {V : Int → Prop} {SK : Int → Int} {d cnt n wi x : Int} (hc : oclr K N O w V cnt) (hx : V x) (hk : K x = 6) (hd : 0 ≤ d) (h : ostk w V SK d cnt n wi (ow w x)) : ostk w V (zu (zu SK d (O x)) (d + 1) (N x)) (d + 1 + 1) cnt n wi 0 := by
  obtain ⟨a, b, -⟩ := hc x hx
  obtain ⟨v1, v2, v3⟩ := b hk
  have n1 := (hc _ v1).1
  have n2 := (hc _ v2).1
  refine ostk_push (ostk_push (r2 := w (N x)) h hd (Or.inr v2) (by rw [ow_s n2.1, ow_s a.1]; omega)) (by omega) (Or.inr v1) (by rw [ow_s n1.1]; omega)
theorem ostk_save {K N O w : Int → Int} {V : Int → Prop} {SK : Int → Int} {d cnt n wi x u : Int} (hc : oclr K N O w V cnt) (hx : V x) (hk : K x = 7) (hd : 0 ≤ d) (hu : u < 0) (ht : tko cnt n wi u) (h : ostk w V SK d cnt n wi (ow w x)) : ostk w V (zu (zu SK d u) (d + 1) (N x)) (d + 1 + 1) cnt n wi 0 := by
  obtain ⟨a, -, b, -⟩ := hc x hx
  obtain ⟨v1, v3⟩ := b hk
  have n1 := (hc _ v1).1
  refine ostk_push (ostk_push (r2 := w (N x)) h hd (Or.inl ⟨hu, ht⟩) (by rw [ow_u hu, ow_s a.1]; omega)) (by omega) (Or.inr v1) (by rw [ow_s n1.1]; omega)
theorem ostk_ass {K N O w : Int → Int} {V : Int → Prop} {SK : Int → Int} {d cnt n wi x : Int} (hc : oclr K N O w V cnt) (hx : V x) (hk : K x = 3) (hd : 0 ≤ d) (h : ostk w V SK d cnt n wi (ow w x)) : ostk w V (zu SK d (N x)) (d + 1) cnt n wi 0 := by
  obtain ⟨a, -, -, b⟩ := hc x hx
  obtain ⟨v1, v3⟩ := b hk
  have n1 := (hc _ v1).1
  exact ostk_push h hd (Or.inr v1) (by rw [ow_s n1.1, ow_s a.1]; omega)
theorem ow_6 {K N O w : Int → Int} {V : Int → Prop} {cnt x : Int} (hc : oclr K N O w V cnt) (hx : V x) (hk : K x = 6) : 2 ≤ ow w x := by
  obtain ⟨a, b, -⟩ := hc x hx
  obtain ⟨v1, v2, v3⟩ := b hk
  have n1 := (hc _ v1).1
  have n2 := (hc _ v2).1
  rw [ow_s a.1]; omega
theorem ow_7 {K N O w : Int → Int} {V : Int → Prop} {cnt x : Int} (hc : oclr K N O w V cnt) (hx : V x) (hk : K x = 7) : 2 ≤ ow w x := by
  obtain ⟨a, -, b, -⟩ := hc x hx
  obtain ⟨v1, v3⟩ := b hk
  have n1 := (hc _ v1).1
  rw [ow_s a.1]; omega
