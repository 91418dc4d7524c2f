/-! the marks: what is marked is done, or an ancestor of all that is left -/
def acc (hw n e : Int) : Prop := ¬ (hw = 2 ∧ e < n)
/-- an end that brings nothing any more -/
def prd (hw n fo : Int) (SP : Int → Int) (e : Int) : Prop := acc hw n e → fo = 1 ∧ e ≤ SP 1
section Mk8
variable {tg a b : Int → Int} {mm : Int → Int → Prop} {f : Int → Int} {n : Int}
def mI1 (tg a b : Int → Int) (mm : Int → Int → Prop) (f : Int → Int) (n : Int) (P : Int → Prop) (mk : Int → Int → Prop) (x p : Int) : Prop := ∀ y q : Int, mk y q → (∀ e, EN tg a b mm f n y q e → P e) ∨ (gtF tg a b mm f n y q x p ∧ q ≤ p)
/-- C: the ends of what is walked now -/
def mI2 (tg a b : Int → Int) (mm : Int → Int → Prop) (f : Int → Int) (n : Int) (P C : Int → Prop) (mk : Int → Int → Prop) (SK : Int → Int) (dp : Int) : Prop := ∀ i : Int, 0 ≤ i → i < dp → 0 ≤ SK i → ∀ y q : Int, mk y q → (∀ e, EN tg a b mm f n y q e → P e ∨ C e ∨ ∃ j : Int, i < j ∧ j < dp ∧ 0 ≤ SK j ∧ EN tg a b mm f n (SK j % 1024) (SK j / 1024) e) ∨ (gtF tg a b mm f n y q (SK i % 1024) (SK i / 1024) ∧ q ≤ SK i / 1024)
variable {P P2 C : Int → Prop} {mk mk2 : Int → Int → Prop} {SK SK2 : Int → Int} {dp dp2 x p x2 p2 : Int}
/-- a step on from a pair that is marked now -/
theorem mI.step (h1 : mI1 tg a b mm f n P mk x p) (h2 : mI2 tg a b mm f n P (EN tg a b mm f n x p) mk SK dp) (hm : ∀ y q, mk2 y q → mk y q ∨ (y = x ∧ q = p)) (hf : ∃ m, FL tg a b mm f n m x p) (hc : chl tg a b mm f n x p x2 p2) (hp : p ≤ p2) (hd : dp ≤ dp2) (hs : ∀ i : Int, 0 ≤ i → i < dp → SK2 i = SK i) (hn : ∀ j : Int, dp ≤ j → j < dp2 → 0 ≤ SK2 j → chl tg a b mm f n x p (SK2 j % 1024) (SK2 j / 1024) ∧ p ≤ SK2 j / 1024) (he : ∀ e, EN tg a b mm f n x p e → EN tg a b mm f n x2 p2 e ∨ ∃ j : Int, dp ≤ j ∧ j < dp2 ∧ 0 ≤ SK2 j ∧ EN tg a b mm f n (SK2 j % 1024) (SK2 j / 1024) e) (h0 : 0 ≤ dp) : mI1 tg a b mm f n P mk2 x2 p2 ∧ mI2 tg a b mm f n P (EN tg a b mm f n x2 p2) mk2 SK2 dp2 := by
  obtain ⟨m, hf⟩ := hf
  refine ⟨fun y q hy => ?_, fun i i0 i1 i2 y q hy => ?_⟩
  · rcases hm y q hy with w | ⟨w1, w2⟩
    · rcases h1 y q w with r | ⟨r1, r2⟩
      · exact Or.inl r
      · exact Or.inr ⟨r1.tr hc, by omega⟩
    · rw [w1, w2]
      exact Or.inr ⟨gtF_child hf hc, hp⟩
  · by_cases c : i < dp
    · have e := hs i i0 c
      rw [e] at i2 ⊢
      have up : ∀ e, P e ∨ EN tg a b mm f n x p e ∨ (∃ j : Int, i < j ∧ j < dp ∧ 0 ≤ SK j ∧ EN tg a b mm f n (SK j % 1024) (SK j / 1024) e) → P e ∨ EN tg a b mm f n x2 p2 e ∨ ∃ j : Int, i < j ∧ j < dp2 ∧ 0 ≤ SK2 j ∧ EN tg a b mm f n (SK2 j % 1024) (SK2 j / 1024) e := fun e z => by
        rcases z with z | z | ⟨j, j0, j1, j2, j3⟩
        · exact Or.inl z
        · rcases he e z with z | ⟨j, j0, j1, j2, j3⟩
          · exact Or.inr (Or.inl z)
          · exact Or.inr (Or.inr ⟨j, by omega, j1, j2, j3⟩)
        · have ej := hs j (by omega) j1
          exact Or.inr (Or.inr ⟨j, j0, by omega, by rw [ej]; exact j2, by rw [ej]; exact j3⟩)
      rcases hm y q hy with w | ⟨w1, w2⟩
      · rcases h2 i i0 c i2 y q w with r | r
        · exact Or.inl (fun e z => up e (r e z))
        · exact Or.inr r
      · rw [w1, w2]
        exact Or.inl (fun e z => up e (Or.inr (Or.inl z)))
    · obtain ⟨k1, k2⟩ := hn i (by omega) i1 i2
      rcases hm y q hy with w | ⟨w1, w2⟩
      · rcases h1 y q w with r | ⟨r1, r2⟩
        · exact Or.inl (fun e z => Or.inl (r e z))
        · exact Or.inr ⟨r1.tr k1, by omega⟩
      · rw [w1, w2]
        exact Or.inr ⟨gtF_child hf k1, k2⟩
/-- what is walked now has come to its end -/
theorem mI2.done (h : mI2 tg a b mm f n P C mk SK dp) (hp : ∀ e, P e → P2 e) (hC : ∀ e, C e → P2 e) : mI2 tg a b mm f n P2 (fun _ => False) mk SK dp := fun i i0 i1 i2 y q hy => by
  rcases h i i0 i1 i2 y q hy with r | r
  · refine Or.inl (fun e z => ?_)
    rcases r e z with w | w | w
    · exact Or.inl (hp e w)
    · exact Or.inl (hC e w)
    · exact Or.inr (Or.inr w)
  · exact Or.inr r
/-- a pair that is marked already brings nothing -/
theorem mI1.dead (h : mI1 tg a b mm f n P mk x p) (hm : mk x p) : ∀ e, EN tg a b mm f n x p e → P e := by
  rcases h x p hm with r | r
  · exact r
  · exact absurd r.1 gtF_no
theorem mI2.mkl (h : mI2 tg a b mm f n P C mk SK dp) (hm : ∀ y q, mk2 y q → mk y q) : mI2 tg a b mm f n P C mk2 SK dp := fun i i0 i1 i2 y q hy => h i i0 i1 i2 y q (hm y q hy)
/-- the pair itself is marked and leads nowhere -/
theorem mI2.last (h1 : mI1 tg a b mm f n P mk x p) (h : mI2 tg a b mm f n P (EN tg a b mm f n x p) mk SK dp) (hm : ∀ y q, mk2 y q → mk y q ∨ (y = x ∧ q = p)) (hp : ∀ e, P e → P2 e) (hC : ∀ e, EN tg a b mm f n x p e → P2 e) : mI2 tg a b mm f n P2 (fun _ => False) mk2 SK dp := fun i i0 i1 i2 y q hy => by
  rcases hm y q hy with w | ⟨w1, w2⟩
  · rcases h i i0 i1 i2 y q w with r | r
    · refine Or.inl (fun e z => ?_)
      rcases r e z with w | w | w
      · exact Or.inl (hp e w)
      · exact Or.inl (hC e w)
      · exact Or.inr (Or.inr w)
    · exact Or.inr r
  · rw [w1, w2]
    exact Or.inl (fun e z => Or.inl (hC e z))
/-- an alternative is taken from the stack -/
theorem mI2.pop (h : mI2 tg a b mm f n P (fun _ => False) mk SK dp) (h0 : 1 ≤ dp) (hs : 0 ≤ SK (dp - 1)) : mI1 tg a b mm f n P mk (SK (dp - 1) % 1024) (SK (dp - 1) / 1024) ∧ mI2 tg a b mm f n P (EN tg a b mm f n (SK (dp - 1) % 1024) (SK (dp - 1) / 1024)) mk SK (dp - 1) := by
  refine ⟨fun y q hy => ?_, fun i i0 i1 i2 y q hy => ?_⟩
  · rcases h (dp - 1) (by omega) (by omega) hs y q hy with r | r
    · refine Or.inl (fun e z => ?_)
      rcases r e z with w | w | ⟨j, j0, j1, _⟩
      · exact w
      · exact w.elim
      · omega
    · exact Or.inr r
  · rcases h i i0 (by omega) i2 y q hy with r | r
    · refine Or.inl (fun e z => ?_)
      rcases r e z with w | w | ⟨j, j0, j1, j2, j3⟩
      · exact Or.inl w
      · exact w.elim
      · by_cases c : j = dp - 1
        · rw [c] at j3; exact Or.inr (Or.inl j3)
        · exact Or.inr (Or.inr ⟨j, j0, by omega, j2, j3⟩)
    · exact Or.inr r
theorem mI2.undo (h : mI2 tg a b mm f n P C mk SK dp) (hs : SK (dp - 1) < 0) : mI2 tg a b mm f n P C mk SK (dp - 1) := fun i i0 i1 i2 y q hy => by
  rcases h i i0 (by omega) i2 y q hy with r | r
  · refine Or.inl (fun e z => ?_)
    rcases r e z with w | w | ⟨j, j0, j1, j2, j3⟩
    · exact Or.inl w
    · exact Or.inr (Or.inl w)
    · refine Or.inr (Or.inr ⟨j, j0, ?_, j2, j3⟩)
      by_cases c : j = dp - 1
      · rw [c] at j2; omega
      · omega
  · exact Or.inr r
theorem mI2_0 : mI2 tg a b mm f n P C mk SK 0 := fun i i0 i1 => by omega
/-- all that is marked is dead, and a new walk begins -/
theorem mI_new (hd : ∀ y q, mk y q → ∀ e, EN tg a b mm f n y q e → P e) (h0 : 0 ≤ SK 0) : mI2 tg a b mm f n P (fun _ => False) mk SK 1 := fun i i0 i1 i2 y q hy => Or.inl (fun e z => Or.inl (hd y q hy e z))
end Mk8
/-- what an arrival brings is processed -/
theorem prd_arr {hw n fo fo2 q : Int} {SP SP2 : Int → Int} (h : ((hw = 2 ∧ q < n) ∨ (fo = 1 ∧ q ≤ SP 1)) ∧ fo2 = fo ∧ SP2 1 = SP 1 ∨ (fo2 = 1 ∧ SP2 1 = q ∧ (fo = 0 ∨ SP 1 < q))) (hfo : fo = 0 ∨ fo = 1) : (∀ e, prd hw n fo SP e → prd hw n fo2 SP2 e) ∧ prd hw n fo2 SP2 q := by
  unfold prd acc
  refine ⟨fun e z w => ?_, fun w => ?_⟩
  · have := z w; omega
  · omega
