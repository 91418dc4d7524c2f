/-! the reference's notes: a bit stands where a way leads to an end that counts -/
theorem mchr_ex {f : Int → Int} {n p : Int} : ∃ v w : Int, mchr f n p v w := by
  unfold mchr chQ
  by_cases h : n ≤ p
  · exact ⟨-1, 1, Or.inl ⟨h, rfl, rfl⟩⟩
  · have hp : p < n := by omega
    by_cases c1 : cb f n p < 128
    · exact ⟨_, _, Or.inr ⟨hp, Or.inl ⟨c1, rfl, rfl⟩⟩⟩
    · by_cases c2 : 194 ≤ cb f n p ∧ cb f n p < 224 ∧ 128 ≤ cb f n (p + 1) ∧ cb f n (p + 1) < 192
      · exact ⟨_, _, Or.inr ⟨hp, Or.inr (Or.inl ⟨c1, c2, rfl, rfl⟩)⟩⟩
      · by_cases c3 : 224 ≤ cb f n p ∧ cb f n p < 240 ∧ 128 ≤ cb f n (p + 1) ∧ cb f n (p + 1) < 192 ∧ 128 ≤ cb f n (p + 2) ∧ cb f n (p + 2) < 192 ∧ 2048 ≤ cv3 (cb f n p) (cb f n (p + 1)) (cb f n (p + 2)) ∧ (cv3 (cb f n p) (cb f n (p + 1)) (cb f n (p + 2)) < 55296 ∨ 57344 ≤ cv3 (cb f n p) (cb f n (p + 1)) (cb f n (p + 2)))
        · exact ⟨_, _, Or.inr ⟨hp, Or.inr (Or.inr (Or.inl ⟨c1, c3, rfl, rfl⟩))⟩⟩
        · by_cases c4 : 240 ≤ cb f n p ∧ cb f n p < 245 ∧ 128 ≤ cb f n (p + 1) ∧ cb f n (p + 1) < 192 ∧ 128 ≤ cb f n (p + 2) ∧ cb f n (p + 2) < 192 ∧ 128 ≤ cb f n (p + 3) ∧ cb f n (p + 3) < 192 ∧ 65536 ≤ cv4 (cb f n p) (cb f n (p + 1)) (cb f n (p + 2)) (cb f n (p + 3)) ∧ cv4 (cb f n p) (cb f n (p + 1)) (cb f n (p + 2)) (cb f n (p + 3)) ≤ 1114111
          · exact ⟨_, _, Or.inr ⟨hp, Or.inr (Or.inr (Or.inr (Or.inl ⟨c1, c4, rfl, rfl⟩)))⟩⟩
          · exact ⟨-1, 1, Or.inr ⟨hp, Or.inr (Or.inr (Or.inr (Or.inr ⟨c1, c2, c3, c4, rfl, rfl⟩)))⟩⟩
theorem wat_i {f : Int → Int} {n p : Int} : wat f n p ↔ isW (tpk f n p) := by
  unfold wat tpk
  by_cases c : 0 ≤ p ∧ p < n
  · rw [if_pos c]
    exact ⟨fun h => h.2, fun h => ⟨c, h⟩⟩
  · rw [if_neg c]
    exact ⟨fun h => absurd h.1 c, fun h => absurd h isW_n⟩
section HldE
variable {f : Int → Int} {n p : Int}
theorem hldE0 : hld f n p 0 ↔ p = 0 := ⟨fun h => by rcases h with h | h | h | h | h | h <;> first | exact h.2 | (exact absurd h.1 (by decide)), fun h => Or.inl ⟨rfl, h⟩⟩
theorem hldE1 : hld f n p 1 ↔ p = n := ⟨fun h => by rcases h with h | h | h | h | h | h <;> first | (exact absurd h.1 (by decide)) | exact h.2, fun h => Or.inr (Or.inl ⟨rfl, h⟩)⟩
theorem hldE2 : hld f n p 2 ↔ (p = 0 ∨ tpk f n (p - 1) = 10) := ⟨fun h => by rcases h with h | h | h | h | h | h <;> first | (exact absurd h.1 (by decide)) | exact h.2, fun h => Or.inr (Or.inr (Or.inl ⟨rfl, h⟩))⟩
theorem hldE3 : hld f n p 3 ↔ (p = n ∨ tpk f n p = 10) := ⟨fun h => by rcases h with h | h | h | h | h | h <;> first | (exact absurd h.1 (by decide)) | exact h.2, fun h => Or.inr (Or.inr (Or.inr (Or.inl ⟨rfl, h⟩)))⟩
theorem hldE4 : hld f n p 4 ↔ ¬ (isW (tpk f n (p - 1)) ↔ isW (tpk f n p)) := ⟨fun h => by rcases h with h | h | h | h | h | h <;> first | (exact absurd h.1 (by decide)) | exact h.2, fun h => Or.inr (Or.inr (Or.inr (Or.inr (Or.inl ⟨rfl, h⟩))))⟩
theorem hldE5 : hld f n p 5 ↔ (isW (tpk f n (p - 1)) ↔ isW (tpk f n p)) := ⟨fun h => by rcases h with h | h | h | h | h | h <;> first | (exact absurd h.1 (by decide)) | exact h.2, fun h => Or.inr (Or.inr (Or.inr (Or.inr (Or.inr ⟨rfl, h⟩))))⟩
theorem mhld_h {a : Int} (ha : 0 ≤ a ∧ a ≤ 5) (hp : 0 ≤ p ∧ p ≤ n) : mhld f n p a ↔ hld f n p (asq a) := by
  rcases (show a = 0 ∨ a = 1 ∨ a = 2 ∨ a = 3 ∨ a = 4 ∨ a = 5 by omega) with e | e | e | e | e | e
  · rw [e, mhld_0, show asq 0 = 0 by decide, hldE0]
  · rw [e, mhld_1, show asq 1 = 1 by decide, hldE1]
  · rw [e, mhld_2, show asq 2 = 4 by decide, hldE4, wat_i, wat_i]
  · rw [e, mhld_3, show asq 3 = 5 by decide, hldE5, wat_i, wat_i]
  · rw [e, mhld_4, show asq 4 = 2 by decide, hldE2]
    by_cases c : p = 0
    · exact ⟨fun _ => Or.inl c, fun _ => Or.inl c⟩
    · have t : tpk f n (p - 1) = f (p - 1) := if_pos (by omega)
      rw [t]
  · rw [e, mhld_5, show asq 5 = 3 by decide, hldE3]
    by_cases c : p = n
    · exact ⟨fun _ => Or.inl c, fun _ => Or.inl c⟩
    · have t : tpk f n p = f p := if_pos (by omega)
      rw [t]
end HldE
theorem tkIn_m {CA CM CL CH : Int → Int} {b k c : Int} : tkIn CL CH c (CA (b + k)) (CM (b + k)) ↔ mmR CA CM CL CH b k c := ⟨fun ⟨j, j0, j1, j2⟩ => ⟨j, ⟨j0, j1⟩, j2⟩, fun ⟨j, ⟨j0, j1⟩, j2⟩ => ⟨j, j0, j1, j2⟩⟩
/-- what a step takes -/
theorem tkv_w {T CA CM CL CH f : Int → Int} {len b k p c cw w : Int} (hb : bytes f len) (hp : 0 ≤ p) (hc : mchr f len p c cw) (hw : tkv T CA CM CL CH c cw len (b + k) p w) : (0 < w ∧ ((T (b + k) = 1 ∧ (0 ≤ u8 f len p ∧ mmR CA CM CL CH b k (u8 f len p)) ∧ w = wd (u8 f len p)) ∨ (T (b + k) = 2 ∧ p < len ∧ w = 1))) ∨ (w = 0 ∧ ¬ (T (b + k) = 1 ∧ 0 ≤ u8 f len p ∧ mmR CA CM CL CH b k (u8 f len p)) ∧ ¬ (T (b + k) = 2 ∧ p < len)) := by
  obtain ⟨e1, e2⟩ := mchr_u8 hb hp hc
  have wp := wd_in (u8 f len p)
  rcases hw with ⟨a, b2, e⟩ | ⟨a, b2, e⟩ | ⟨a, b2, t, e⟩ | ⟨a, b2, e⟩
  · exact Or.inl ⟨by omega, Or.inr ⟨a, b2, e⟩⟩
  · exact Or.inr ⟨e, fun z => by have := z.1; omega, fun z => by have := z.2; omega⟩
  · have w2 := e2 b2
    rw [tkIn_m, e1] at t
    rw [e1] at b2 w2
    exact Or.inl ⟨by omega, Or.inl ⟨a, ⟨b2, t⟩, by omega⟩⟩
  · refine Or.inr ⟨e, fun z => b2 ⟨z.1, ?_, ?_⟩, fun z => a z.1⟩
    · rw [e1]; exact z.2.1
    · rw [tkIn_m, e1]; exact z.2.2
theorem tkv_ex {T CA CM CL CH : Int → Int} {c w n k p : Int} : ∃ v : Int, tkv T CA CM CL CH c w n k p v := by
  unfold tkv
  by_cases a : T k = 2
  · by_cases b : p < n
    · exact ⟨1, Or.inl ⟨a, b, rfl⟩⟩
    · exact ⟨0, Or.inr (Or.inl ⟨a, by omega, rfl⟩)⟩
  · by_cases b : T k = 1 ∧ 0 ≤ c ∧ tkIn CL CH c (CA k) (CM k)
    · exact ⟨w, Or.inr (Or.inr (Or.inl ⟨b.1, b.2.1, b.2.2, rfl⟩))⟩
    · exact ⟨0, Or.inr (Or.inr (Or.inr ⟨a, b, rfl⟩))⟩
theorem tgI {T : Int → Int} {b s : Int} (h : 0 ≤ T (b + s) ∧ T (b + s) ≤ 6) : (tgR T b s = 0 → T (b + s) = 1) ∧ (tgR T b s = 1 → T (b + s) = 2) ∧ (tgR T b s = 2 → T (b + s) = 5) ∧ (tgR T b s = 3 → T (b + s) = 3) ∧ (tgR T b s = 4 → T (b + s) = 4) ∧ (tgR T b s = 5 → T (b + s) = 0) ∧ (tgR T b s = 6 → T (b + s) = 6) := by
  rcases (show T (b + s) = 0 ∨ T (b + s) = 1 ∨ T (b + s) = 2 ∨ T (b + s) = 3 ∨ T (b + s) = 4 ∨ T (b + s) = 5 ∨ T (b + s) = 6 by omega) with e | e | e | e | e | e | e
  · rw [tgR_0 e]; omega
  · rw [tgR_1 e]; omega
  · rw [tgR_2 e]; omega
  · rw [tgR_3 e]; omega
  · rw [tgR_4 e]; omega
  · rw [tgR_5 e]; omega
  · rw [tgR_6 e]; omega
/-- an end that counts -/
def AE (fr al e : Int) : Prop := e ≤ fr ∧ (al = 0 ∨ e = fr)
abbrev WR (T N W CA CM CL CH : Int → Int) (b : Int) (f : Int → Int) (len k p : Int) (g : Gr) (L : List (Int × Gr)) : Prop := WW (tgR T b) (adR N b) (bdR T W b) (mmR CA CM CL CH b) f len k p g L
section Nb
variable {T N W CA CM CL CH f NO : Int → Int} {len b n fr al to : Int}
/-- a bit's reason brings a way -/
theorem nb_1 {rk : Int → Int} {p k : Int} {g : Gr} {L : List (Int × Gr)} (hb : bytes f len) (hs : sgood T N W CA CM b n) (hp : 0 ≤ p ∧ p ≤ fr ∧ fr ≤ len) (hk : 0 ≤ k ∧ k < n) (hL : WR T N W CA CM CL CH b f len k p g L) (hj : nj T N W CA CM CL CH f NO len b fr al (fun i => nbit NO p i) rk p k) (ip : ∀ (p' k' : Int) (g' : Gr) (L' : List (Int × Gr)), p < p' → p' ≤ fr → 0 ≤ k' → k' < n → WR T N W CA CM CL CH b f len k' p' g' L' → nbit NO p' k' → ∃ x ∈ L', AE fr al x.1) (ir : ∀ (k' : Int) (g' : Gr) (L' : List (Int × Gr)), rk k' < rk k → 0 ≤ k' → k' < n → WR T N W CA CM CL CH b f len k' p g' L' → nbit NO p k' → ∃ x ∈ L', AE fr al x.1) : ∃ x ∈ L, AE fr al x.1 := by
  obtain ⟨s1, s2, s3, s4, s5, s6⟩ := hs k hk.1 hk.2
  rcases hj with q | ⟨t, q⟩ | ⟨t, q, q2⟩ | ⟨t, u, q, q2⟩
  · rcases q with ⟨t, q⟩ | ⟨t, c, cw, w, m1, m2, m3, m4, m5⟩
    · rw [ww_i5 (tgR_0 t) hL]
      exact ⟨(p, g), List.mem_singleton.mpr rfl, by show p ≤ fr; omega, by show al = 0 ∨ p = fr; omega⟩
    · rcases tkv_w hb hp.1 m1 m2 with ⟨_, ⟨z1, z2, z3⟩ | ⟨z1, z2, z3⟩⟩ | ⟨z, _⟩
      · have i := s2 (by omega) (by omega)
        have c1 := ww_i0 (tgR_1 z1) z2 hL
        rw [← z3] at c1
        exact ip _ _ _ _ (by omega) m4 i.1 i.2 c1 m5
      · have i := s2 (by omega) (by omega)
        have c1 := ww_i1 (tgR_2 z1) z2 hL
        rw [← z3] at c1
        exact ip _ _ _ _ (by omega) m4 i.1 i.2 c1 m5
      · omega
  · obtain ⟨L1, L2, w1, w2, w3⟩ := ww_i3 (tgR_3 t) hL
    have i := s2 (by omega) (by omega)
    have j := s3 t
    have e : bdR T W b k = W (b + k) := bdR_n (by omega)
    rw [w3]
    rcases q with ⟨q, q2⟩ | ⟨q, q2⟩
    · obtain ⟨x, x1, x2⟩ := ir _ _ _ q2 i.1 i.2 w1 q
      exact ⟨x, List.mem_append_left _ x1, x2⟩
    · rw [e] at w2
      obtain ⟨x, x1, x2⟩ := ir _ _ _ q2 j.1 j.2 w2 q
      exact ⟨x, List.mem_append_right _ x1, x2⟩
  · have i := s2 (by omega) (by omega)
    exact ir _ _ _ q2 i.1 i.2 (ww_i4 (tgR_4 t) hL) q
  · have i := s2 (by omega) (by omega)
    have hh : hld f len p (bdR T W b k) := by
      rw [bdR_5 t]
      exact (mhld_h (s5 t) ⟨hp.1, by omega⟩).mp u
    exact ir _ _ _ q2 i.1 i.2 (ww_i2 (tgR_5 t) hh hL) q
theorem nb_s (hb : bytes f len) (hs : sgood T N W CA CM b n) (hr : nrows T N W CA CM CL CH f NO len b n fr al (to - 1)) (hf : fr ≤ len) (h0 : 0 ≤ to) : ∀ (d : Nat) (p k : Int) (g : Gr) (L : List (Int × Gr)), (fr - p).toNat ≤ d → to ≤ p → p ≤ fr → 0 ≤ k → k < n → WR T N W CA CM CL CH b f len k p g L → nbit NO p k → ∃ x ∈ L, AE fr al x.1 := by
  intro d
  induction d with
  | zero =>
    intro p k g L hd p0 p1 k0 k1 hL hn
    obtain ⟨rk, r0, gj⟩ := hr p (by omega) p1
    have key : ∀ (r : Nat) (k : Int) (g : Gr) (L : List (Int × Gr)), rk k ≤ (r : Int) → 0 ≤ k → k < n → WR T N W CA CM CL CH b f len k p g L → nbit NO p k → ∃ x ∈ L, AE fr al x.1 := by
      intro r
      induction r with
      | zero =>
        intro k g L hk k0 k1 hL hn
        exact nb_1 hb hs ⟨by omega, p1, hf⟩ ⟨k0, k1⟩ hL (gj k k0 k1 hn) (fun p' k' g' L' q1 q2 => by omega) (fun k' g' L' q => by have := r0 k'; omega)
      | succ r ih =>
        intro k g L hk k0 k1 hL hn
        exact nb_1 hb hs ⟨by omega, p1, hf⟩ ⟨k0, k1⟩ hL (gj k k0 k1 hn) (fun p' k' g' L' q1 q2 => by omega) (fun k' g' L' q => ih k' g' L' (by omega))
    exact key (rk k).toNat k g L (by omega) k0 k1 hL hn
  | succ d ihd =>
    intro p k g L hd p0 p1 k0 k1 hL hn
    obtain ⟨rk, r0, gj⟩ := hr p (by omega) p1
    have key : ∀ (r : Nat) (k : Int) (g : Gr) (L : List (Int × Gr)), rk k ≤ (r : Int) → 0 ≤ k → k < n → WR T N W CA CM CL CH b f len k p g L → nbit NO p k → ∃ x ∈ L, AE fr al x.1 := by
      intro r
      induction r with
      | zero =>
        intro k g L hk k0 k1 hL hn
        exact nb_1 hb hs ⟨by omega, p1, hf⟩ ⟨k0, k1⟩ hL (gj k k0 k1 hn) (fun p' k' g' L' q1 q2 => ihd p' k' g' L' (by omega) (by omega) q2) (fun k' g' L' q => by have := r0 k'; omega)
      | succ r ih =>
        intro k g L hk k0 k1 hL hn
        exact nb_1 hb hs ⟨by omega, p1, hf⟩ ⟨k0, k1⟩ hL (gj k k0 k1 hn) (fun p' k' g' L' q1 q2 => ihd p' k' g' L' (by omega) (by omega) q2) (fun k' g' L' q => ih k' g' L' (by omega))
    exact key (rk k).toNat k g L (by omega) k0 k1 hL hn
/-- a way that counts has its bit -/
theorem nb_c (hb : bytes f len) (hs : sgood T N W CA CM b n) (hr : ncrows T N W CA CM CL CH f NO len b n fr al (to - 1)) (hf : fr ≤ len) (h0 : 0 ≤ to) : ∀ (m : Nat) (k p : Int) (g : Gr) (L : List (Int × Gr)), to ≤ p → p ≤ fr → 0 ≤ k → k < n → WL (tgR T b) (adR N b) (bdR T W b) (mmR CA CM CL CH b) f len m k p g L → (∃ x ∈ L, AE fr al x.1) → nbit NO p k := by
  intro m
  induction m with
  | zero => intro k p g L _ _ _ _ h; exact h.elim
  | succ m ih =>
    intro k p g L p0 p1 k0 k1 h hx
    obtain ⟨s1, s2, s3, s4, s5, s6⟩ := hs k k0 k1
    obtain ⟨t0, t1, t2, t3, t4, t5, t6⟩ := tgI (T := T) (b := b) (s := k) s1
    refine hr p (by omega) p1 k k0 k1 ?_
    have take : ∀ (p' : Int), p < p' → WL (tgR T b) (adR N b) (bdR T W b) (mmR CA CM CL CH b) f len m (N (b + k)) p' g L → 1 ≤ T (b + k) → T (b + k) ≤ 2 → p' ≤ len → p' ≤ fr ∧ nbit NO p' (N (b + k)) := fun p' q1 q2 q3 q4 q5 => by
      have i := s2 (by omega) (by omega)
      have le : p' ≤ fr := by
        obtain ⟨x, x1, x2⟩ := hx
        have := EN_ge hb m _ p' g L (by omega) q5 q2 x x1
        have := x2.1
        omega
      exact ⟨le, ih _ _ _ _ (by omega) le i.1 i.2 q2 hx⟩
    obtain ⟨c, cw, hc⟩ := mchr_ex (f := f) (n := len) (p := p)
    obtain ⟨w, hw⟩ := tkv_ex (T := T) (CA := CA) (CM := CM) (CL := CL) (CH := CH) (c := c) (w := cw) (n := len) (k := b + k) (p := p)
    have tw := tkv_w hb (show 0 ≤ p by omega) hc hw
    have wi := wd_in (u8 f len p)
    rcases h with ⟨t, h | h⟩ | ⟨t, h | h⟩ | ⟨t, h | h⟩ | ⟨t, L1, L2, q1, q2, q3⟩ | ⟨t, h⟩ | ⟨t, h⟩ | ⟨t, h⟩
    · have tt := t0 t
      rcases tw with ⟨w0, ⟨z1, z2, z3⟩ | ⟨z1, z2, z3⟩⟩ | ⟨z, z1, z2⟩
      · have wu := u8_w (p := p) hb z2.1
        have r := take (p + w) (by omega) (by rw [z3]; exact h.2) (by omega) (by omega) (by omega)
        exact Or.inl (Or.inr ⟨by omega, c, cw, w, hc, hw, w0, r.1, r.2⟩)
      · omega
      · exact absurd ⟨tt, h.1.1, h.1.2⟩ z1
    · rw [h.2] at hx
      obtain ⟨x, x1, _⟩ := hx
      exact absurd x1 List.not_mem_nil
    · have tt := t1 t
      rcases tw with ⟨w0, ⟨z1, z2, z3⟩ | ⟨z1, z2, z3⟩⟩ | ⟨z, z1, z2⟩
      · omega
      · have r := take (p + w) (by omega) (by rw [z3]; exact h.2) (by omega) (by omega) (by omega)
        exact Or.inl (Or.inr ⟨by omega, c, cw, w, hc, hw, w0, r.1, r.2⟩)
      · exact absurd ⟨tt, h.1⟩ z2
    · rw [h.2] at hx
      obtain ⟨x, x1, _⟩ := hx
      exact absurd x1 List.not_mem_nil
    · have tt := t2 t
      have i := s2 (by omega) (by omega)
      have hh := h.1
      rw [bdR_5 tt] at hh
      exact Or.inr (Or.inr (Or.inr ⟨tt, (mhld_h (s5 tt) ⟨by omega, by omega⟩).mpr hh, ih _ _ _ _ p0 p1 i.1 i.2 h.2 hx⟩))
    · rw [h.2] at hx
      obtain ⟨x, x1, _⟩ := hx
      exact absurd x1 List.not_mem_nil
    · have tt := t3 t
      have i := s2 (by omega) (by omega)
      have j := s3 tt
      have e : bdR T W b k = W (b + k) := bdR_n (by omega)
      rw [e] at q2
      obtain ⟨x, x1, x2⟩ := hx
      rw [q3] at x1
      rcases List.mem_append.mp x1 with y | y
      · exact Or.inr (Or.inl ⟨tt, Or.inl (ih _ _ _ _ p0 p1 i.1 i.2 q1 ⟨x, y, x2⟩)⟩)
      · exact Or.inr (Or.inl ⟨tt, Or.inr (ih _ _ _ _ p0 p1 j.1 j.2 q2 ⟨x, y, x2⟩)⟩)
    · have tt := t4 t
      have i := s2 (by omega) (by omega)
      exact Or.inr (Or.inr (Or.inl ⟨tt, ih _ _ _ _ p0 p1 i.1 i.2 h hx⟩))
    · have tt := t5 t
      rw [h] at hx
      obtain ⟨x, x1, x2⟩ := hx
      rw [List.mem_singleton.mp x1] at x2
      have x3 := x2.2
      exact Or.inl (Or.inl ⟨tt, by
        rcases x3 with x3 | x3
        · exact Or.inr x3
        · exact Or.inl x3⟩)
    · rw [h] at hx
      obtain ⟨x, x1, _⟩ := hx
      exact absurd x1 List.not_mem_nil
/-- notes that are right: rows from to on -/
def ntK (T N W CA CM CL CH f NO : Int → Int) (len b n fr al to : Int) : Prop := ∀ (p k : Int) (g : Gr) (L : List (Int × Gr)), to ≤ p → p ≤ fr → 0 ≤ k → k < n → WR T N W CA CM CL CH b f len k p g L → (nbit NO p k ↔ ∃ x ∈ L, AE fr al x.1)
theorem ntK_of (hb : bytes f len) (hs : sgood T N W CA CM b n) (hr : nrows T N W CA CM CL CH f NO len b n fr al (to - 1)) (hc : ncrows T N W CA CM CL CH f NO len b n fr al (to - 1)) (hf : fr ≤ len) (h0 : 0 ≤ to) : ntK T N W CA CM CL CH f NO len b n fr al to := fun p k g L p0 p1 k0 k1 hL => ⟨fun z => nb_s hb hs hr hf h0 (fr - p).toNat p k g L (Nat.le_refl _) p0 p1 k0 k1 hL z, fun z => by
  obtain ⟨m, hL⟩ := hL
  exact nb_c hb hs hc hf h0 m k p g L p0 p1 k0 k1 hL z⟩
theorem ntK.up {to2 : Int} (h : ntK T N W CA CM CL CH f NO len b n fr al to) (ht : to ≤ to2) : ntK T N W CA CM CL CH f NO len b n fr al to2 := fun p k g L p0 => h p k g L (by omega)
end Nb
