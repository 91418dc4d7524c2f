/-! the walk by the marks: what is left to try has the answer -/
def mI3 (tg a b : Int → Int) (mm : Int → Int → Prop) (f : Int → Int) (n : Int) (P C : Int → Prop) (mk : Int → Int → Prop) (SK : Int → Int) (dp : Int) : Prop := ∀ y q : Int, mk y q → ∀ e, EN tg a b mm f n y q e → P e ∨ C e ∨ ∃ j : Int, 0 ≤ j ∧ j < dp ∧ 0 ≤ SK j ∧ EN tg a b mm f n (SK j % 1024) (SK j / 1024) e
def lft (fy hw n : Int) (c : Option (Int × Gr)) (R : List (Int × Gr)) (S : Option (Int × Gr)) : Prop := (fy = 1 ∧ c.or (fA hw n R) = S) ∨ (¬ fy = 1 ∧ bst hw n c R = S)
section Mk10
variable {tg a b : Int → Int} {mm : Int → Int → Prop} {f : Int → Int} {n : Int} {P P2 C : Int → Prop} {mk mk2 : Int → Int → Prop} {SK SK2 : Int → Int} {dp dp2 x p x2 p2 : Int}
theorem mI3.step (h : mI3 tg a b mm f n P (EN tg a b mm f n x p) mk SK dp) (hm : ∀ y q, mk2 y q → mk y q ∨ (y = x ∧ q = p)) (hd : dp ≤ dp2) (hs : ∀ i : Int, 0 ≤ i → i < dp → SK2 i = SK i) (he : ∀ e, EN tg a b mm f n x p e → EN tg a b mm f n x2 p2 e ∨ ∃ j : Int, dp ≤ j ∧ j < dp2 ∧ 0 ≤ SK2 j ∧ EN tg a b mm f n (SK2 j % 1024) (SK2 j / 1024) e) (h0 : 0 ≤ dp) : mI3 tg a b mm f n P (EN tg a b mm f n x2 p2) mk2 SK2 dp2 := fun y q hy e z => by
  have key : EN tg a b mm f n x p e → P e ∨ EN tg a b mm f n x2 p2 e ∨ ∃ j : Int, 0 ≤ j ∧ j < dp2 ∧ 0 ≤ SK2 j ∧ EN tg a b mm f n (SK2 j % 1024) (SK2 j / 1024) e := fun w => by
    rcases he e w with w | ⟨j, j0, j1, j2, j3⟩
    · exact Or.inr (Or.inl w)
    · exact Or.inr (Or.inr ⟨j, by omega, j1, j2, j3⟩)
  rcases hm y q hy with w | ⟨w1, w2⟩
  · rcases h y q w e z with r | r | ⟨j, j0, j1, j2, j3⟩
    · exact Or.inl r
    · exact key r
    · have ej := hs j j0 j1
      exact Or.inr (Or.inr ⟨j, j0, by omega, by rw [ej]; exact j2, by rw [ej]; exact j3⟩)
  · rw [w1, w2] at z
    exact key z
theorem mI3.last (h : mI3 tg a b mm f n P (EN tg a b mm f n x p) mk SK dp) (hm : ∀ y q, mk2 y q → mk y q ∨ (y = x ∧ q = p)) (hp : ∀ e, P e → P2 e) (hC : ∀ e, EN tg a b mm f n x p e → P2 e) : mI3 tg a b mm f n P2 (fun _ => False) mk2 SK dp := fun y q hy e z => by
  rcases hm y q hy with w | ⟨w1, w2⟩
  · rcases h y q w e z with r | r | r
    · exact Or.inl (hp e r)
    · exact Or.inl (hC e r)
    · exact Or.inr (Or.inr r)
  · rw [w1, w2] at z
    exact Or.inl (hC e z)
theorem mI3.pop (h : mI3 tg a b mm f n P (fun _ => False) mk SK dp) (h0 : 1 ≤ dp) : mI3 tg a b mm f n P (EN tg a b mm f n (SK (dp - 1) % 1024) (SK (dp - 1) / 1024)) mk SK (dp - 1) := fun y q hy e z => by
  rcases h y q hy e z with r | r | ⟨j, j0, j1, j2, j3⟩
  · exact Or.inl r
  · exact r.elim
  · by_cases c : j = dp - 1
    · rw [c] at j3; exact Or.inr (Or.inl j3)
    · exact Or.inr (Or.inr ⟨j, j0, by omega, j2, j3⟩)
theorem mI3.undo (h : mI3 tg a b mm f n P C mk SK dp) (hs : SK (dp - 1) < 0) : mI3 tg a b mm f n P C mk SK (dp - 1) := fun y q hy e z => by
  rcases h y q hy e z with r | r | ⟨j, j0, j1, j2, j3⟩
  · exact Or.inl r
  · exact Or.inr (Or.inl r)
  · refine Or.inr (Or.inr ⟨j, j0, ?_, j2, j3⟩)
    by_cases c : j = dp - 1
    · rw [c] at j2; omega
    · omega
theorem mI3_new (hd : ∀ y q, mk y q → ∀ e, EN tg a b mm f n y q e → P e) : mI3 tg a b mm f n P C mk SK dp := fun y q hy e z => Or.inl (hd y q hy e z)
theorem mI3.all (h : mI3 tg a b mm f n P (fun _ => False) mk SK dp) (h0 : dp ≤ 0) : ∀ y q, mk y q → ∀ e, EN tg a b mm f n y q e → P e := fun y q hy e z => by
  rcases h y q hy e z with r | r | ⟨j, j0, j1, _⟩
  · exact r
  · exact r.elim
  · omega
end Mk10
section Lft
variable {hw n fo fy wi st : Int} {c : Option (Int × Gr)} {L R : List (Int × Gr)} {S : Option (Int × Gr)} {SP : Int → Int}
/-- ways that bring nothing are passed over -/
theorem lft.skip (h : lft fy hw n c (L ++ R) S) (hc : mch c fo SP wi st) (h1 : fy = 1 → fo = 0) (hL : ∀ x ∈ L, prd hw n fo SP x.1) : lft fy hw n c R S := by
  rcases h with ⟨hf, h⟩ | ⟨hf, h⟩
  · refine Or.inl ⟨hf, ?_⟩
    have c0 := mch_n hc (h1 hf)
    rw [fA_skip (fun x hx z => by have := (hL x hx z).1; have := h1 hf; omega)] at h
    exact h
  · refine Or.inr ⟨hf, ?_⟩
    rw [bst_app, bst_skip (s := c) (L := L) (fun x hx z => ?_)] at h
    · exact h
    · obtain ⟨q1, q2⟩ := hL x hx z
      obtain ⟨y, hy, hl⟩ := mch_s hc q1
      exact ⟨y, hy, by omega⟩
/-- a way that counts -/
theorem lft.hit {q : Int} {g : Gr} (h : lft fy hw n c ((q, g) :: R) S) (hc : mch c fo SP wi st) (h1 : fy = 1 → fo = 0) (ha : acc hw n q) (hq : fo = 0 ∨ SP 1 < q) : lft fy hw n (some (q, g)) R S := by
  rcases h with ⟨hf, h⟩ | ⟨hf, h⟩
  · refine Or.inl ⟨hf, ?_⟩
    rw [mch_n hc (h1 hf), fA_hit ha] at h
    exact h
  · refine Or.inr ⟨hf, ?_⟩
    have e : bst hw n c ((q, g) :: R) = bst hw n (upw hw n c (q, g)) R := rfl
    rw [e, upw_hit ha (fun y hy => ?_)] at h
    · exact h
    · rcases hc with ⟨h2, _⟩ | ⟨e, g', h2, h3, _, h4, _⟩
      · rw [h2] at hy; cases hy
      · rw [h2] at hy
        cases hy
        show e < q
        omega
theorem lft.done (h : lft fy hw n c [] S) : S = c := by
  rcases h with ⟨_, h⟩ | ⟨_, h⟩
  · rw [← h]
    cases c <;> rfl
  · exact h.symm
theorem lft.got {y : Int × Gr} (h : lft fy hw n c R S) (hf : fy = 1) (hc : c = some y) : S = c := by
  rcases h with ⟨_, h⟩ | ⟨h, _⟩
  · rw [hc] at h
    rw [hc, ← h]
    rfl
  · exact absurd hf h
theorem lft_0 : lft fy hw n none R (mtR fy hw n R) := by
  unfold lft mtR
  by_cases c : fy = 1
  · rw [if_pos c]
    exact Or.inl ⟨c, rfl⟩
  · rw [if_neg c]
    exact Or.inr ⟨c, rfl⟩
end Lft
/-- what waits lies from fr on -/
def skF (SK : Int → Int) (dp fr : Int) : Prop := ∀ j : Int, 0 ≤ j → j < dp → 0 ≤ SK j → fr ≤ SK j / 1024
theorem skF_p {SK : Int → Int} {dp fr : Int} (h : skF SK dp fr) : skF SK (dp - 1) fr := fun j a b => h j a (by omega)
theorem skF_s {SK SK2 : Int → Int} {dp fr : Int} (h : skF SK dp fr) (hs : ∀ i : Int, 0 ≤ i → i < dp → SK2 i = SK i) (hv : 0 ≤ SK2 dp → fr ≤ SK2 dp / 1024) : skF SK2 (dp + 1) fr := fun j a b c => by
  by_cases e : j = dp
  · rw [e] at c ⊢; exact hv c
  · rw [hs j a (by omega)] at c ⊢; exact h j a (by omega) c
/-- a walk: x, p is walked now -/
def wkS (tg a b : Int → Int) (mm : Int → Int → Prop) (f : Int → Int) (n hw fy wi st fr : Int) (mk : Int → Int → Prop) (SK : Int → Int) (dp : Int) (WK : Int → Int) (fo : Int) (SP : Int → Int) (x p : Int) (S : Option (Int × Gr)) : Prop := ∃ (L R : List (Int × Gr)) (c : Option (Int × Gr)) (g : Gr), (gA WK g wi ∧ WK 0 = st) ∧ WW tg a b mm f n x p g L ∧ RS tg a b mm f n SK dp.toNat g R ∧ (mch c fo SP wi st ∧ (fy = 1 → fo = 0) ∧ 0 ≤ dp ∧ skF SK dp fr ∧ fr ≤ p) ∧ lft fy hw n c (L ++ R) S ∧ mI1 tg a b mm f n (prd hw n fo SP) mk x p ∧ mI2 tg a b mm f n (prd hw n fo SP) (EN tg a b mm f n x p) mk SK dp ∧ mI3 tg a b mm f n (prd hw n fo SP) (EN tg a b mm f n x p) mk SK dp
/-- between walks -/
def tyS (tg a b : Int → Int) (mm : Int → Int → Prop) (f : Int → Int) (n hw fy wi st fr : Int) (mk : Int → Int → Prop) (SK : Int → Int) (dp : Int) (WK : Int → Int) (fo : Int) (SP : Int → Int) (S : Option (Int × Gr)) : Prop := ∃ (R : List (Int × Gr)) (c : Option (Int × Gr)) (g : Gr), (gA WK g wi ∧ WK 0 = st) ∧ RS tg a b mm f n SK dp.toNat g R ∧ (mch c fo SP wi st ∧ (fy = 1 → fo = 1 → ∀ y q, mk y q → SP 1 < q → 0 ≤ q → q ≤ n → ∀ e, EN tg a b mm f n y q e → ¬ acc hw n e) ∧ 0 ≤ dp ∧ skF SK dp fr) ∧ lft fy hw n c R S ∧ mI2 tg a b mm f n (prd hw n fo SP) (fun _ => False) mk SK dp ∧ mI3 tg a b mm f n (prd hw n fo SP) (fun _ => False) mk SK dp
section Wks
variable {tg a b : Int → Int} {mm : Int → Int → Prop} {f : Int → Int} {n hw fy wi st fr : Int} {mk mk2 : Int → Int → Prop} {SK SK2 WK WK2 SP SP2 : Int → Int} {dp fo fo2 x p x2 p2 : Int} {S : Option (Int × Gr)}
theorem wkS.end0 (h : wkS tg a b mm f n hw fy wi st fr mk SK dp WK fo SP x p S) (hm : ∀ y q, mk2 y q → mk y q ∨ (y = x ∧ q = p)) (hp : ∀ e, EN tg a b mm f n x p e → prd hw n fo SP e) : tyS tg a b mm f n hw fy wi st fr mk2 SK dp WK fo SP S := by
  obtain ⟨L, R, c, g, hg, hL, hR, ⟨hc, h1, h0, hk, hr⟩, hl, i1, i2, i3⟩ := h
  refine ⟨R, c, g, hg, hR, ⟨hc, fun q1 q2 => ?_, h0, hk⟩, hl.skip hc h1 (fun x hx => hp x.1 ((EN_of hL).mpr (List.mem_map.mpr ⟨x, hx, rfl⟩))), mI2.last i1 i2 hm (fun _ z => z) hp, i3.last hm (fun _ z => z) hp⟩
  have := h1 q1
  omega
theorem wkS.fle {tg a b : Int → Int} {mm : Int → Int → Prop} {f : Int → Int} {n hw fy wi st fr : Int} {mk : Int → Int → Prop} {SK WK SP : Int → Int} {dp fo x p : Int} {S : Option (Int × Gr)} (h : wkS tg a b mm f n hw fy wi st fr mk SK dp WK fo SP x p S) : fr ≤ p := by
  obtain ⟨_, _, _, _, _, _, _, ⟨_, _, _, _, hr⟩, _⟩ := h
  exact hr
/-- it is marked already -/
theorem wkS.dead (h : wkS tg a b mm f n hw fy wi st fr mk SK dp WK fo SP x p S) (hm : mk x p) (hm2 : ∀ y q, mk2 y q → mk y q ∨ (y = x ∧ q = p)) : tyS tg a b mm f n hw fy wi st fr mk2 SK dp WK fo SP S := by
  have i1 : mI1 tg a b mm f n (prd hw n fo SP) mk x p := by
    obtain ⟨L, R, c, g, _, _, _, _, _, i1, _⟩ := h
    exact i1
  exact h.end0 hm2 (i1.dead hm)
/-- it leads nowhere -/
theorem wkS.no (h : wkS tg a b mm f n hw fy wi st fr mk SK dp WK fo SP x p S) (hm : ∀ y q, mk2 y q → mk y q ∨ (y = x ∧ q = p)) (hn : ∀ (g : Gr) (L : List (Int × Gr)), WW tg a b mm f n x p g L → L = []) : tyS tg a b mm f n hw fy wi st fr mk2 SK dp WK fo SP S := h.end0 hm (fun e z => by
  obtain ⟨g, L, h1, h2⟩ := z
  rw [hn g L h1] at h2
  exact absurd h2 List.not_mem_nil)
/-- it leads to one other pair, with the same groups -/
theorem wkS.go (h : wkS tg a b mm f n hw fy wi st fr mk SK dp WK fo SP x p S) (hm : ∀ y q, mk2 y q → mk y q ∨ (y = x ∧ q = p)) (hc : chl tg a b mm f n x p x2 p2) (hp : p ≤ p2) (hw2 : ∀ (g : Gr) (L : List (Int × Gr)), WW tg a b mm f n x p g L → WW tg a b mm f n x2 p2 g L) : wkS tg a b mm f n hw fy wi st fr mk2 SK dp WK fo SP x2 p2 S := by
  obtain ⟨L, R, c, g, hg, hL, hR, ⟨hc', h1, h0, hk, hr⟩, hl, i1, i2, i3⟩ := h
  have he : ∀ e, EN tg a b mm f n x p e → EN tg a b mm f n x2 p2 e ∨ ∃ j : Int, dp ≤ j ∧ j < dp ∧ 0 ≤ SK j ∧ EN tg a b mm f n (SK j % 1024) (SK j / 1024) e := fun e z => by
    obtain ⟨g', L', q1, q2⟩ := z
    exact Or.inl ⟨g', L', hw2 g' L' q1, q2⟩
  obtain ⟨k1, k2⟩ := mI.step i1 i2 hm hL.fl hc hp (Int.le_refl dp) (fun _ _ _ => rfl) (fun j j0 j1 => by omega) he h0
  exact ⟨L, R, c, g, hg, hw2 g L hL, hR, ⟨hc', h1, h0, hk, by omega⟩, hl, k1, k2, i3.step hm (Int.le_refl dp) (fun _ _ _ => rfl) he h0⟩
theorem RS.push {g : Gr} {L R : List (Int × Gr)} (h : RS tg a b mm f n SK dp.toNat g R) (h0 : 0 ≤ dp) (hs : ∀ i : Int, 0 ≤ i → i < dp → SK2 i = SK i) (hv : 0 ≤ SK2 dp) (hL : WW tg a b mm f n (SK2 dp % 1024) (SK2 dp / 1024) g L) : RS tg a b mm f n SK2 (dp + 1).toNat g (L ++ R) := by
  rw [show (dp + 1).toNat = dp.toNat + 1 by omega]
  have e : ((dp.toNat : Nat) : Int) = dp := by omega
  exact Or.inl ⟨by rw [e]; exact hv, L, R, by rw [e]; exact hL, RS.eq _ _ _ h (fun i i0 i1 => hs i i0 (by omega)), rfl⟩
/-- it splits: one way is walked, the other waits -/
theorem wkS.split (h : wkS tg a b mm f n hw fy wi st fr mk SK dp WK fo SP x p S) (hm : ∀ y q, mk2 y q → mk y q ∨ (y = x ∧ q = p)) (t : tg x = 3) (hs : ∀ i : Int, 0 ≤ i → i < dp → SK2 i = SK i) (hv : SK2 dp = p * 1024 + b x) (hb : 0 ≤ b x ∧ b x < 1024 ∧ 0 ≤ p) : wkS tg a b mm f n hw fy wi st fr mk2 SK2 (dp + 1) WK fo SP (a x) p S := by
  obtain ⟨L, R, c, g, hg, hL, hR, ⟨hc', h1, h0, hk, hr⟩, hl, i1, i2, i3⟩ := h
  obtain ⟨L1, L2, w1, w2, w3⟩ := ww_i3 t hL
  have e1 : SK2 dp % 1024 = b x := by omega
  have e2 : SK2 dp / 1024 = p := by omega
  have he : ∀ e, EN tg a b mm f n x p e → EN tg a b mm f n (a x) p e ∨ ∃ j : Int, dp ≤ j ∧ j < dp + 1 ∧ 0 ≤ SK2 j ∧ EN tg a b mm f n (SK2 j % 1024) (SK2 j / 1024) e := fun e z => by
    rcases (EN_3 t hL).mp z with z | z
    · exact Or.inl z
    · exact Or.inr ⟨dp, Int.le_refl _, by omega, by omega, by rw [e1, e2]; exact z⟩
  obtain ⟨k1, k2⟩ := mI.step i1 i2 hm hL.fl (x2 := a x) (p2 := p) (Or.inr (Or.inr (Or.inr (Or.inl ⟨t, Or.inl rfl, rfl⟩)))) (Int.le_refl p) (show dp ≤ dp + 1 by omega) hs (fun j j0 j1 _ => by
    have ej : j = dp := by omega
    rw [ej, e1, e2]
    exact ⟨Or.inr (Or.inr (Or.inr (Or.inl ⟨t, Or.inr rfl, rfl⟩))), Int.le_refl p⟩) he h0
  refine ⟨L1, L2 ++ R, c, g, hg, w1, RS.push hR h0 hs (by omega) (by rw [e1, e2]; exact w2), ⟨hc', h1, by omega, skF_s hk hs (fun _ => by omega), hr⟩, ?_, k1, k2, i3.step hm (by omega) hs he h0⟩
  rw [w3, List.append_assoc] at hl
  exact hl
/-- it saves a place -/
theorem wkS.save (h : wkS tg a b mm f n hw fy wi st fr mk SK dp WK fo SP x p S) (hm : ∀ y q, mk2 y q → mk y q ∨ (y = x ∧ q = p)) (t : tg x = 4) (hs : ∀ i : Int, 0 ≤ i → i < dp → SK2 i = SK i) (hv : SK2 dp = -1 - (b x * 4096 + (WK (b x) + 1))) (hb : 2 ≤ b x ∧ b x < wi ∧ wi ≤ 20) (hk : -1 ≤ WK (b x) ∧ WK (b x) ≤ 2000) : wkS tg a b mm f n hw fy wi st fr mk2 SK2 (dp + 1) (zu WK (b x) p) fo SP (a x) p S := by
  obtain ⟨L, R, c, g, ⟨hg, hg0⟩, hL, hR, ⟨hc', h1, h0, hkf, hr⟩, hl, i1, i2, i3⟩ := h
  have he : ∀ e, EN tg a b mm f n x p e → EN tg a b mm f n (a x) p e ∨ ∃ j : Int, dp ≤ j ∧ j < dp + 1 ∧ 0 ≤ SK2 j ∧ EN tg a b mm f n (SK2 j % 1024) (SK2 j / 1024) e := fun e z => Or.inl ((EN_4 t hL).mp z)
  obtain ⟨k1, k2⟩ := mI.step i1 i2 hm hL.fl (x2 := a x) (p2 := p) (Or.inr (Or.inr (Or.inr (Or.inr ⟨t, rfl, rfl⟩)))) (Int.le_refl p) (show dp ≤ dp + 1 by omega) hs (fun j j0 j1 j2 => by
    have ej : j = dp := by omega
    rw [ej] at j2
    omega) he h0
  refine ⟨L, R, c, zu g (b x) p, ⟨fun i i0 i1 => ?_, by rw [zu_ne (by omega)]; exact hg0⟩, ww_i4 t hL, ?_, ⟨hc', h1, by omega, skF_s hkf hs (fun z => by omega), hr⟩, hl, k1, k2, i3.step hm (by omega) hs he h0⟩
  · by_cases e : i = b x
    · rw [e, zu_self, zu_self]
    · rw [zu_ne e, zu_ne e]; exact hg i i0 i1
  · rw [show (dp + 1).toNat = dp.toNat + 1 by omega]
    have e : ((dp.toNat : Nat) : Int) = dp := by omega
    refine Or.inr ⟨by rw [e]; omega, ?_⟩
    rw [e, hv, show (-1 - (-1 - (b x * 4096 + (WK (b x) + 1)))) / 4096 = b x by omega, show (-1 - (-1 - (b x * 4096 + (WK (b x) + 1)))) % 4096 - 1 = WK (b x) by omega, zu_back (hg (b x) hb.1 hb.2.1).symm]
    exact RS.eq _ _ _ hR (fun i i0 i1 => hs i i0 (by omega))
/-- it arrives -/
theorem wkS.arr (h : wkS tg a b mm f n hw fy wi st fr mk SK dp WK fo SP x p S) (hm : ∀ y q, mk2 y q → mk y q ∨ (y = x ∧ q = p)) (t : tg x = 5) (hb : bytes f n) (h2 : (((hw = 2 ∧ p < n) ∨ (fo = 1 ∧ p ≤ SP 1)) ∧ fo2 = fo ∧ SP2 = SP) ∨ ((¬ hw = 2 ∨ n ≤ p) ∧ (fo = 0 ∨ SP 1 < p) ∧ fo2 = 1 ∧ SP2 0 = WK 0 ∧ SP2 1 = p ∧ ∀ i : Int, 2 ≤ i → i < wi → SP2 i = WK i)) : tyS tg a b mm f n hw fy wi st fr mk2 SK dp WK fo2 SP2 S := by
  rcases h2 with ⟨q1, q2, q3⟩ | ⟨q1, q2, q3, q4, q5, q6⟩
  · rw [q2, q3]
    refine h.end0 hm (fun e z => ?_)
    have e2 := (EN_5 t).mp z
    rw [e2]
    intro ha
    unfold acc at ha
    omega
  · obtain ⟨L, R, c, g, ⟨hg, hg0⟩, hL, hR, ⟨hc', h1, h0, hkf, hr⟩, hl, i1, i2, i3⟩ := h
    have hac : acc hw n p := by unfold acc; omega
    have up : ∀ e, prd hw n fo SP e → prd hw n fo2 SP2 e := fun e z w => by
      have := z w
      omega
    have hC : ∀ e, EN tg a b mm f n x p e → prd hw n fo2 SP2 e := fun e z w => by
      have := (EN_5 t).mp z
      omega
    rw [ww_i5 t hL] at hl
    refine ⟨R, some (p, g), g, ⟨hg, hg0⟩, hR, ⟨Or.inr ⟨p, g, rfl, q3, by rw [q4]; exact hg0, q5, fun i i0 i1 => by rw [q6 i i0 i1]; exact hg i i0 i1⟩, fun q7 q8 y q hy q9 r0 r1 e z ha => ?_, h0, hkf⟩, lft.hit hl hc' h1 hac q2, mI2.last i1 i2 hm up hC, i3.last hm up hC⟩
    rw [q5] at q9
    have ge := z.ge hb r0 r1
    rcases hm y q hy with w | w
    · rcases i1 y q w with r | r
      · have := r e z ha
        omega
      · have := r.2
        omega
    · omega
/-- an alternative is walked -/
theorem tyS.pop (h : tyS tg a b mm f n hw fy wi st fr mk SK dp WK fo SP S) (h1 : 1 ≤ dp) (hs : 0 ≤ SK (dp - 1)) (hf : ¬ (fo = 1 ∧ fy = 1)) : wkS tg a b mm f n hw fy wi st fr mk SK (dp - 1) WK fo SP (SK (dp - 1) % 1024) (SK (dp - 1) / 1024) S := by
  obtain ⟨R, c, g, hg, hR, ⟨hc, _, h0, hkf⟩, hl, i2, i3⟩ := h
  rw [show dp.toNat = (dp - 1).toNat + 1 by omega] at hR
  have e : (((dp - 1).toNat : Nat) : Int) = dp - 1 := by omega
  rcases hR with ⟨r0, L, R', r1, r2, r3⟩ | ⟨r0, _⟩
  · rw [e] at r1
    obtain ⟨k1, k2⟩ := i2.pop h1 hs
    exact ⟨L, R', c, g, hg, r1, r2, ⟨hc, fun q => by have := mch_fo hc; omega, by omega, skF_p hkf, hkf (dp - 1) (by omega) (by omega) hs⟩, by rw [← r3]; exact hl, k1, k2, i3.pop h1⟩
  · rw [e] at r0
    omega
/-- a place is given back -/
theorem tyS.undo (h : tyS tg a b mm f n hw fy wi st fr mk SK dp WK fo SP S) (h1 : 1 ≤ dp) (hs : SK (dp - 1) < 0) (hv : 2 ≤ (-1 - SK (dp - 1)) / 4096) : tyS tg a b mm f n hw fy wi st fr mk SK (dp - 1) (zu WK ((-1 - SK (dp - 1)) / 4096) ((-1 - SK (dp - 1)) % 4096 - 1)) fo SP S := by
  obtain ⟨R, c, g, ⟨hg, hg0⟩, hR, ⟨hc, hd, h0, hkf⟩, hl, i2, i3⟩ := h
  rw [show dp.toNat = (dp - 1).toNat + 1 by omega] at hR
  have e : (((dp - 1).toNat : Nat) : Int) = dp - 1 := by omega
  rcases hR with ⟨r0, _⟩ | ⟨r0, r1⟩
  · rw [e] at r0
    omega
  · rw [e] at r1
    refine ⟨R, c, _, ⟨fun i i0 i1 => ?_, by rw [zu_ne (by omega)]; exact hg0⟩, r1, ⟨hc, hd, by omega, skF_p hkf⟩, hl, i2.undo hs, i3.undo hs⟩
    by_cases z : i = (-1 - SK (dp - 1)) / 4096
    · rw [z, zu_self, zu_self]
    · rw [zu_ne z, zu_ne z]; exact hg i i0 i1
/-- all is tried, or enough -/
theorem tyS.fin (h : tyS tg a b mm f n hw fy wi st fr mk SK dp WK fo SP S) (hd : dp ≤ 0 ∨ (fo = 1 ∧ fy = 1)) (hb : bytes f n) : mch S fo SP wi st ∧ ∀ y q, mk y q → (fo = 0 ∨ SP 1 < q) → 0 ≤ q → q ≤ n → ∀ e, EN tg a b mm f n y q e → ¬ acc hw n e := by
  obtain ⟨R, c, g, hg, hR, ⟨hc, hA, h0, _⟩, hl, i2, i3⟩ := h
  by_cases d : fo = 1 ∧ fy = 1
  · obtain ⟨y, hy, _⟩ := mch_s hc d.1
    rw [hl.got d.2 hy]
    exact ⟨hc, fun y q hm hq r0 r1 => hA d.2 d.1 y q hm (by omega) r0 r1⟩
  · have d0 : dp = 0 := by omega
    rw [d0] at hR i3
    have hR : R = [] := hR
    rw [hR] at hl
    rw [hl.done]
    refine ⟨hc, fun y q hm hq r0 r1 e z ha => ?_⟩
    have k := i3.all (Int.le_refl 0) y q hm e z ha
    have ge := z.ge hb r0 r1
    omega
/-- a try begins -/
theorem tyS_new {g : Gr} {L : List (Int × Gr)} (hg : gA WK g wi) (hg0 : WK 0 = st) (hs : 0 ≤ SK 0) (hL : WW tg a b mm f n (SK 0 % 1024) (SK 0 / 1024) g L) (hf : fo = 0) (hd : ∀ y q, mk y q → ∀ e, EN tg a b mm f n y q e → ¬ acc hw n e) (hfr : fr ≤ SK 0 / 1024) : tyS tg a b mm f n hw fy wi st fr mk SK 1 WK fo SP (mtR fy hw n L) := by
  have hd2 : ∀ y q, mk y q → ∀ e, EN tg a b mm f n y q e → prd hw n fo SP e := fun y q hm e z ha => absurd ha (hd y q hm e z)
  have hR : RS tg a b mm f n SK (1 : Int).toNat g (L ++ []) := by
    show RS tg a b mm f n SK (0 + 1) g (L ++ [])
    exact Or.inl ⟨hs, L, [], hL, rfl, rfl⟩
  refine ⟨L ++ [], none, g, ⟨hg, hg0⟩, hR, ⟨Or.inl ⟨rfl, hf⟩, fun _ q => by omega, by omega, fun j a b _ => by rw [show j = 0 by omega]; exact hfr⟩, by rw [List.append_nil]; exact lft_0, mI_new hd2 hs, mI3_new hd2⟩
end Wks
