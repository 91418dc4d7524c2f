/-! what has no size means nothing -/
section TreeZ
variable {K O Fi Be Le Mo La Z SM RF RL AF AL SD : Int → Int} {SV : Int → Int → Prop} {N ns lv : Int} {pa po MN dl st ht hh : Int → Int} {PS : Int → Int → Int} {T : Int} {dm pm : Int → Sn}
theorem rtM.nset {S : Int → Prop} (hG : rtG K O Fi Be Le Mo Z SM RF RL AF AL SD N ns lv pa po MN dl st ht hh PS T) (h : rtM K O Fi Be Le Mo La SV N pa po dl dm pm) : rtM K O Fi Be Le Mo La (fun s => if s = ns then S else SV s) N pa po dl dm pm := by
  refine ⟨h.1, h.2.1, fun i a b => ?_⟩
  obtain ⟨d0, d1, d2, d3, d4, d6, d7⟩ := h.2.2 i a b
  refine ⟨d0, fun z => ?_, d2, d3, d4, d6, d7⟩
  have C := ((hG.2.1 i a b).2.2.2.2.1 z).1
  rw [d1 z]
  show mnS (SV (O i)) = mnS (if O i = ns then S else SV (O i))
  rw [if_neg (by omega)]
/-- forward through a list, to its end -/
theorem rtG.walk (hG : rtG K O Fi Be Le Mo Z SM RF RL AF AL SD N ns lv pa po MN dl st ht hh PS T) (h : rtM K O Fi Be Le Mo La SV N pa po dl dm pm) {c : Int} (hc : 0 ≤ c) (hdl : dl c = 0 ∨ dl c = 1) (hz : ∀ b : Int, 0 ≤ b → b < N → pa b = c → Z b = 0 → nzS (dm b)) : ∀ (m : Nat) (i : Int), 0 ≤ i → i < N → pa i = c → MN c - po i ≤ m → ∃ j : Int, (0 ≤ j ∧ j < N) ∧ pa j = c ∧ Be j = -1 ∧ PS c (po i + 1) ≤ PS c (MN c) ∧ (dl c = 0 → PS c (MN c) = 0 → nzS (pm i) → nzS (pm j)) ∧ (dl c = 1 → PS c (po i + 1) + 1 ≤ PS c (MN c) ∨ j = i) := by
  intro m
  induction m with
  | zero =>
    intro i a b p q
    rcases (hG.2.1 i a b).1.2.2.2 with t | t
    · omega
    · have := t.2.1; rw [p] at this; omega
  | succ m ih =>
    intro i a b p q
    have A := (hG.2.1 i a b).1
    rcases A.2.2.2 with t | ⟨t1, t2, t3, t4, t5, t6⟩
    · omega
    rw [p] at t2 t3 t4 t5 t6
    by_cases e : Be i = -1
    · have w := t5 e
      exact ⟨i, ⟨a, b⟩, p, e, by rw [w]; exact Int.le_refl _, fun _ _ z => z, fun _ => Or.inr rfl⟩
    · have b0 : 0 ≤ Be i := by have := A.2.1; omega
      have q2 := hG.be a b b0
      rw [p] at q2
      obtain ⟨j, j0, jp, jb, j1, j2, j3⟩ := ih (Be i) b0 q2.1 q2.2.2.1 (by omega)
      have B := (hG.2.1 (Be i) b0 q2.1).1
      rcases B.2.2.2 with u | ⟨u1, u2, u3, u4, u5, u6⟩
      · omega
      rw [q2.2.2.1, q2.2.2.2] at u3 u4
      rw [q2.2.2.2] at j1 j3
      have Zb := B.1
      refine ⟨j, j0, jp, jb, by omega, fun d z w => ?_, fun d => Or.inl (by omega)⟩
      refine j2 d z ?_
      have hb := h.1 i a b b0
      rw [p, d, cm2_0] at hb
      rw [hb]
      exact nzS_C w (hz (Be i) b0 q2.1 q2.2.2.1 (by omega))
theorem rtz (hG : rtG K O Fi Be Le Mo Z SM RF RL AF AL SD N ns lv pa po MN dl st ht hh PS T) (h : rtM K O Fi Be Le Mo La SV N pa po dl dm pm) : ∀ (m : Nat) (i : Int), 0 ≤ i → i < N → st i < m → Z i = 0 → nzS (dm i) := by
  intro m
  induction m with
  | zero =>
    intro i a b c
    have := (hG.2.1 i a b).2.1.1
    omega
  | succ m ih =>
    intro i a b c z
    obtain ⟨A, H, C⟩ := hG.2.1 i a b
    obtain ⟨d0, d1, d2, d3, d4, d6, d7⟩ := h.2.2 i a b
    obtain ⟨k0, c0, c1, c2, c3, c4, c5, c6, c7⟩ := C
    have ch : ∀ x : Int, 0 ≤ x → x < N → pa x = i → Z x = 0 → nzS (dm x) := fun x x0 x1 px zx => by
      have s := ((hG.2.1 x x0 x1).2.1.2.2 (by omega)).1
      rw [px] at s
      exact ih x x0 x1 (by omega) zx
    rcases (show K i = 0 ∨ K i = 1 ∨ K i = 2 ∨ K i = 3 ∨ K i = 4 ∨ K i = 5 ∨ K i = 6 ∨ K i = 7 by omega) with k | k | k | k | k | k | k | k
    · rw [d0 k]; exact nzS_I
    · have := (c1 k).2.1; omega
    · have := c2 k; omega
    · have := (c3 k).1; omega
    · obtain ⟨f, p0, dz, s⟩ := c4 k
      obtain ⟨e1, e2⟩ := d4 (Or.inl k)
      rcases f with ⟨f0, _⟩ | ⟨f0, f1, f2, f3⟩
      · rw [e1 f0]; exact nzS_I
      · obtain ⟨j, j0, jp, jb, j1, j2, j3⟩ := rtG.walk hG h a (Or.inl dz) ch (MN i - po (Fi i)).toNat (Fi i) f0.1 f0.2 f1 (by omega)
        rcases (hG.2.1 (Fi i) f0.1 f0.2).1.2.2.2 with t | ⟨t1, t2, t3, t4, t5, t6⟩
        · omega
        rw [f1, f2] at t3 t4
        rw [f2] at j1
        have zf := (hG.2.1 (Fi i) f0.1 f0.2).1.1
        have hs : PS i (MN i) = 0 := by
          rcases s with s | s
          · rw [show (0 : Int) + 1 = 1 by decide] at j1 t4
            omega
          · omega
        rw [e2 j j0.1 j0.2 jp jb]
        refine j2 dz hs ?_
        rw [h.2.1 (Fi i) f0.1 f0.2 (by omega) f2]
        refine ch (Fi i) f0.1 f0.2 f1 ?_
        rw [show (0 : Int) + 1 = 1 by decide] at j1 t4
        omega
    · obtain ⟨f, p0, dz, s⟩ := c5 k
      obtain ⟨e1, e2⟩ := d4 (Or.inr k)
      rcases f with ⟨f0, _⟩ | ⟨f0, f1, f2, f3⟩
      · rw [e1 f0]; exact nzS_I
      · obtain ⟨j, j0, jp, jb, j1, j2, j3⟩ := rtG.walk hG h a (Or.inr dz) ch (MN i - po (Fi i)).toNat (Fi i) f0.1 f0.2 f1 (by omega)
        rcases (hG.2.1 (Fi i) f0.1 f0.2).1.2.2.2 with t | ⟨t1, t2, t3, t4, t5, t6⟩
        · omega
        rw [f1, f2] at t3 t4
        rw [f2] at j1 j3
        rw [show (0 : Int) + 1 = 1 by decide] at j1 t4 j3
        have zf := (hG.2.1 (Fi i) f0.1 f0.2).1.1
        have hs : PS i (MN i) ≤ 1 := by
          rcases s with s | s
          · omega
          · omega
        rcases j3 dz with q | q
        · omega
        · rw [e2 j j0.1 j0.2 jp jb, q, h.2.1 (Fi i) f0.1 f0.2 (by omega) f2]
          exact ch (Fi i) f0.1 f0.2 f1 (by omega)
    · obtain ⟨f, o, s⟩ := c6 k
      rw [d6 k]
      have zf := (hG.2.1 (Fi i) f.1 f.2.1).1.1
      have o0 : O i = 0 := by
        rcases s with s | s
        · by_cases q : 0 < O i
          · rw [if_pos q] at s; omega
          · omega
        · omega
      rw [o0] at s ⊢
      rw [if_neg (by decide)] at s
      exact nzS_G (ch (Fi i) f.1 f.2.1 f.2.2 (by omega))
    · obtain ⟨f, l, mo, lm, s1, s2⟩ := c7 k
      rw [d7 k]
      have zf := (hG.2.1 (Fi i) f.1 f.2.1).1.1
      by_cases q : Mo i < 0
      · have w := Int.mul_nonneg (show 0 ≤ Le i + 1 by omega) zf.1
        rcases s1 q with s | s
        · omega
        · omega
      · have w := Int.mul_nonneg (show 0 ≤ Mo i by omega) zf.1
        have u := lm (by omega)
        have e : moE (Mo i) = Mo i := if_neg q
        rw [e]
        rcases s2 (by omega) with s | s
        · have el : Le i = Mo i := by omega
          have ez : Mo i * Z (Fi i) = 0 := by omega
          rw [el]
          rcases Int.mul_eq_zero.mp ez with g | g
          · rw [g]; exact nzS_R0
          · exact nzS_R (ch (Fi i) f.1 f.2.1 f.2.2 g) (by omega)
        · omega
end TreeZ
