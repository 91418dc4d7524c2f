/-! seeds -/
def sdS (SD : Int → Int) (sc z : Int) : Prop := ∃ i : Int, 0 ≤ i ∧ i < sc ∧ SD i = z
def sdN (SE : Int → Int) (sta : Int) : Nat → Int
  | 0 => 0
  | k + 1 => sdN SE sta k + (if SE (1024 + (k : Int)) = sta then 1 else 0)
def sdQ (SE : Int → Int) (sta : Int) (SD : Int → Int) (sc : Int) : Prop := (∀ e : Int, 0 ≤ e → e < 2048 → (SE (1024 + e) = sta ↔ sdS SD sc e)) ∧ sc = sdN SE sta 2048
/-- one seed more; the marks of states stay -/
def sdA (SE SD : Int → Int) (sc : Int) (SE2 SD2 : Int → Int) (sc2 e : Int) : Prop := (∀ z : Int, sdS SD2 sc2 z ↔ (sdS SD sc z ∨ z = e)) ∧ ∀ i : Int, i < 1024 → SE2 i = SE i
section Sd
variable {SE SD SE2 SD2 : Int → Int} {sta sc sc2 e : Int}
theorem sdN_1 (k : Nat) : sdN SE sta (k + 1) = sdN SE sta k + (if SE (1024 + (k : Int)) = sta then 1 else 0) := rfl
theorem sdN_lt (h0 : 0 ≤ e) (hn : ¬ SE (1024 + e) = sta) : ∀ k : Nat, sdN SE sta k ≤ k ∧ (e < (k : Int) → sdN SE sta k + 1 ≤ k) := by
  intro k
  induction k with
  | zero => exact ⟨Int.le_refl _, fun q => by omega⟩
  | succ k ih =>
    rw [sdN_1]
    by_cases c : SE (1024 + (k : Int)) = sta
    · rw [if_pos c]
      refine ⟨by omega, fun q => ?_⟩
      by_cases d : e = (k : Int)
      · rw [← d] at c; exact absurd c hn
      · have := ih.2 (by omega); omega
    · rw [if_neg c]
      exact ⟨by omega, fun q => by omega⟩
theorem sdN_cg {SE2 : Int → Int} (h : ∀ i : Int, 1024 ≤ i → SE2 i = SE i) : ∀ k : Nat, sdN SE2 sta k = sdN SE sta k := by
  intro k
  induction k with
  | zero => rfl
  | succ k ih => rw [sdN_1, sdN_1, ih, h (1024 + (k : Int)) (by omega)]
theorem sdN_hi (h0 : 0 ≤ e) (hn : ¬ SE (1024 + e) = sta) : ∀ k : Nat, sdN (zu SE (1024 + e) sta) sta k = sdN SE sta k + (if e < (k : Int) then 1 else 0) := by
  intro k
  induction k with
  | zero => rw [if_neg (by omega)]; rfl
  | succ k ih =>
    rw [sdN_1, sdN_1, ih]
    by_cases d : e = (k : Int)
    · rw [← d, zu_self, if_pos rfl, if_neg hn, if_neg (by omega), if_pos (by omega)]
    · rw [zu_ne (by omega)]
      by_cases g : e < (k : Int)
      · rw [if_pos g, if_pos (show e < ((k + 1 : Nat) : Int) by omega)]; omega
      · rw [if_neg g, if_neg (show ¬ e < ((k + 1 : Nat) : Int) by omega)]; omega
theorem sdQ_lt (h : sdQ SE sta SD sc) (h0 : 0 ≤ e ∧ e < 2048) (hn : ¬ SE (1024 + e) = sta) : sc < 2048 := by
  have := (sdN_lt h0.1 hn 2048).2 (by omega)
  rw [h.2]
  omega
theorem sdQ_n (h : sdQ SE sta SD sc) (h0 : 0 ≤ e ∧ e < 2048) (hs : 0 ≤ sc) (hn : ¬ SE (1024 + e) = sta) : sdQ (zu SE (1024 + e) sta) sta (zu SD sc e) (sc + 1) ∧ sdA SE SD sc (zu SE (1024 + e) sta) (zu SD sc e) (sc + 1) e := by
  have key : ∀ z : Int, sdS (zu SD sc e) (sc + 1) z ↔ (sdS SD sc z ∨ z = e) := fun z => by
    constructor
    · rintro ⟨i, i0, i1, i2⟩
      by_cases c : i = sc
      · rw [c, zu_self] at i2; exact Or.inr i2.symm
      · rw [zu_ne c] at i2; exact Or.inl ⟨i, i0, by omega, i2⟩
    · rintro (⟨i, i0, i1, i2⟩ | i2)
      · exact ⟨i, i0, by omega, by rw [zu_ne (by omega)]; exact i2⟩
      · exact ⟨sc, hs, by omega, by rw [zu_self, i2]⟩
  refine ⟨⟨fun z z0 z1 => ?_, ?_⟩, key, fun i q => zu_ne (by omega)⟩
  · rw [key z]
    by_cases c : z = e
    · rw [c, zu_self]; exact ⟨fun _ => Or.inr rfl, fun _ => rfl⟩
    · rw [zu_ne (by omega), h.1 z z0 z1]
      exact ⟨Or.inl, fun q => q.elim id (fun q => absurd q c)⟩
  · rw [sdN_hi h0.1 hn 2048, if_pos (by omega), ← h.2]
theorem sdQ_s (h : sdQ SE sta SD sc) (h0 : 0 ≤ e ∧ e < 2048) (hn : SE (1024 + e) = sta) : sdQ SE sta SD sc ∧ sdA SE SD sc SE SD sc e := ⟨h, fun z => ⟨Or.inl, fun q => q.elim id (fun q => by rw [q]; exact (h.1 e h0.1 h0.2).mp hn)⟩, fun _ _ => rfl⟩
/-- no mark bears a new stamp -/
def seL (SE : Int → Int) (sta : Int) : Prop := ∀ i : Int, 0 ≤ i → i < 3072 → 0 ≤ SE i ∧ SE i ≤ sta
theorem sdN_0 (h : rgs SE 3072 0 sta) : ∀ k : Nat, k ≤ 2048 → sdN SE (sta + 1) k = 0 := by
  intro k
  induction k with
  | zero => intro _; rfl
  | succ k ih =>
    intro q
    have b := (h (1024 + (k : Int)) (by omega) (by omega)).2
    rw [sdN_1, ih (by omega), if_neg (by omega)]
    rfl
theorem sdQ_0 (h : rgs SE 3072 0 sta) : sdQ SE (sta + 1) SD 0 := by
  refine ⟨fun e e0 e1 => ⟨fun q => ?_, fun ⟨i, i0, i1, _⟩ => by omega⟩, (sdN_0 h 2048 (Nat.le_refl _)).symm⟩
  have b := (h (1024 + e) (by omega) (by omega)).2
  omega
theorem sdQ_v {x : Int} (h : sdQ SE sta SD sc) (hx : x < 1024) : sdQ (zu SE x sta) sta SD sc := by
  refine ⟨fun e e0 e1 => ?_, ?_⟩
  · rw [zu_ne (by omega)]; exact h.1 e e0 e1
  · rw [sdN_cg (fun i q => zu_ne (by omega)) 2048]; exact h.2
theorem rgs_up {F : Int → Int} {m lo hi h2 : Int} (h : rgs F m lo hi) (hh : hi ≤ h2) : rgs F m lo h2 := fun k a b => by have := h k a b; omega
end Sd
/-! states that were visited -/
def viS (SE : Int → Int) (sta x : Int) : Prop := (0 ≤ x ∧ x < 1024) ∧ SE x = sta
def viN (SE : Int → Int) (sta : Int) : Nat → Int
  | 0 => 0
  | k + 1 => viN SE sta k + (if SE ((k : Int) + 1) = sta then 1 else 0)
section Vi
variable {SE SE2 : Int → Int} {sta x : Int}
theorem viN_1 (k : Nat) : viN SE sta (k + 1) = viN SE sta k + (if SE ((k : Int) + 1) = sta then 1 else 0) := rfl
theorem viN_b : ∀ k : Nat, 0 ≤ viN SE sta k ∧ viN SE sta k ≤ k := by
  intro k
  induction k with
  | zero => exact ⟨Int.le_refl _, Int.le_refl _⟩
  | succ k ih =>
    rw [viN_1]
    by_cases c : SE ((k : Int) + 1) = sta
    · rw [if_pos c]; omega
    · rw [if_neg c]; omega
theorem viN_cg (h : ∀ i : Int, i < 1024 → SE2 i = SE i) : ∀ k : Nat, k ≤ 1000 → viN SE2 sta k = viN SE sta k := by
  intro k
  induction k with
  | zero => intro _; rfl
  | succ k ih => intro q; rw [viN_1, viN_1, ih (by omega), h ((k : Int) + 1) (by omega)]
theorem viN_s (hn : ¬ SE x = sta) : ∀ k : Nat, viN (zu SE x sta) sta k = viN SE sta k + (if 1 ≤ x ∧ x ≤ (k : Int) then 1 else 0) := by
  intro k
  induction k with
  | zero => rw [if_neg (by omega)]; rfl
  | succ k ih =>
    rw [viN_1, viN_1, ih]
    by_cases d : x = (k : Int) + 1
    · rw [← d, zu_self, if_pos rfl, if_neg hn, if_neg (by omega), if_pos (by omega)]
    · rw [zu_ne (fun q => d q.symm)]
      by_cases g : 1 ≤ x ∧ x ≤ (k : Int)
      · rw [if_pos g, if_pos (show 1 ≤ x ∧ x ≤ ((k + 1 : Nat) : Int) by omega)]; omega
      · rw [if_neg g, if_neg (show ¬ (1 ≤ x ∧ x ≤ ((k + 1 : Nat) : Int)) by omega)]; omega
theorem viN_y (hn : ¬ SE x = sta) (h : 1 ≤ x ∧ x ≤ 807) : viN (zu SE x sta) sta 807 = viN SE sta 807 + 1 := by
  rw [viN_s hn 807, if_pos (by omega)]
theorem viN_m (hn : ¬ SE x = sta) : viN SE sta 807 ≤ viN (zu SE x sta) sta 807 := by
  rw [viN_s hn 807]
  split <;> omega
theorem viN_x (h : ∀ i : Int, i < 1024 → SE2 i = SE i) : viN SE2 sta 807 = viN SE sta 807 := viN_cg h 807 (by decide)
theorem viS_z (h : rgs SE 3072 0 sta) : ¬ viS SE (sta + 1) x := fun ⟨q, e⟩ => by have := (h x q.1 (by omega)).2; omega
theorem viS_cg (h : ∀ i : Int, i < 1024 → SE2 i = SE i) : viS SE2 sta x ↔ viS SE sta x := by
  unfold viS
  constructor
  · rintro ⟨q, e⟩; rw [h x q.2] at e; exact ⟨q, e⟩
  · rintro ⟨q, e⟩; rw [← h x q.2] at e; exact ⟨q, e⟩
theorem viS_zu {z : Int} (h : 0 ≤ x ∧ x < 1024) : viS (zu SE x sta) sta z ↔ (viS SE sta z ∨ z = x) := by
  unfold viS
  by_cases c : z = x
  · rw [c, zu_self]; exact ⟨fun _ => Or.inr rfl, fun _ => ⟨h, rfl⟩⟩
  · rw [zu_ne c]; exact ⟨Or.inl, fun q => q.elim id (fun q => absurd q c)⟩
theorem kx0 {K : Int → Int} (h : K 0 = 9) (h0 : 0 ≤ x) (hn : ¬ K x = 9) : 1 ≤ x := by
  by_cases c : x = 0
  · rw [c] at hn; exact absurd h hn
  · omega
end Vi
/-- what a state gives of a sign -/
def tkS (tg a : Int → Int) (mm : Int → Int → Prop) (sg cd x z : Int) : Prop := (tg x = 1 ∧ ¬ sg = 0 ∧ z = a x) ∨ (tg x = 0 ∧ ¬ cd = -1 ∧ mm x cd ∧ ((cd < 128 ∧ z = a x) ∨ (128 ≤ cd ∧ z = x + 1024)))
/-- seeds that a state brings -/
def tsR (tg a : Int → Int) (mm : Int → Int → Prop) (sg cd x : Int) (SE SD : Int → Int) (sc : Int) (SE2 SD2 : Int → Int) (sc2 : Int) : Prop := (∀ z : Int, sdS SD2 sc2 z ↔ (sdS SD sc z ∨ tkS tg a mm sg cd x z)) ∧ ∀ i : Int, i < 1024 → SE2 i = SE i
section Tk
variable {tg a : Int → Int} {mm : Int → Int → Prop} {sg cd x e : Int} {SE SD SE2 SD2 : Int → Int} {sc sc2 : Int}
theorem tsR_n (h : ∀ z : Int, ¬ tkS tg a mm sg cd x z) : tsR tg a mm sg cd x SE SD sc SE SD sc := ⟨fun z => ⟨Or.inl, fun q => q.elim id (fun q => absurd q (h z))⟩, fun _ _ => rfl⟩
theorem tsR_y (q : sdA SE SD sc SE2 SD2 sc2 e) (h : ∀ z : Int, tkS tg a mm sg cd x z ↔ z = e) : tsR tg a mm sg cd x SE SD sc SE2 SD2 sc2 := ⟨fun z => by rw [q.1 z, h z], q.2⟩
theorem tk_1 (t : tg x = 1) (h : ¬ sg = 0) (z : Int) : tkS tg a mm sg cd x z ↔ z = a x := by
  constructor
  · rintro (q | q)
    · exact q.2.2
    · exact absurd q.1 (by omega)
  · intro q; exact Or.inl ⟨t, h, q⟩
theorem tk_1n (t : tg x = 1) (h : sg = 0) (z : Int) : ¬ tkS tg a mm sg cd x z := by
  rintro (q | q)
  · exact q.2.1 h
  · exact absurd q.1 (by omega)
theorem tk_0n (t : tg x = 0) (h : cd = -1 ∨ ¬ mm x cd) (z : Int) : ¬ tkS tg a mm sg cd x z := by
  rintro (q | q)
  · exact absurd q.1 (by omega)
  · rcases h with h | h
    · exact q.2.1 h
    · exact h q.2.2.1
theorem tk_0a (t : tg x = 0) (h : ¬ cd = -1) (hm : mm x cd) (hc : cd < 128) (z : Int) : tkS tg a mm sg cd x z ↔ z = a x := by
  constructor
  · rintro (q | ⟨_, _, _, q | q⟩)
    · exact absurd q.1 (by omega)
    · exact q.2
    · omega
  · intro q; exact Or.inr ⟨t, h, hm, Or.inl ⟨hc, q⟩⟩
theorem tk_0b (t : tg x = 0) (h : ¬ cd = -1) (hm : mm x cd) (hc : 128 ≤ cd) (z : Int) : tkS tg a mm sg cd x z ↔ z = x + 1024 := by
  constructor
  · rintro (q | ⟨_, _, _, q | q⟩)
    · exact absurd q.1 (by omega)
    · omega
    · exact q.2
  · intro q; exact Or.inr ⟨t, h, hm, Or.inr ⟨hc, q⟩⟩
theorem tk_no (t : ¬ tg x = 0) (t1 : ¬ tg x = 1) (z : Int) : ¬ tkS tg a mm sg cd x z := by
  rintro (q | q)
  · exact t1 q.1
  · exact t q.1
end Tk
/-- arrays cut to what counts -/
def trQ (K N O RR : Int → Int) (cnt ru : Int) (KT NT OT RT : Int → Int) : Prop := KT = trc cnt 9 K ∧ NT = trc cnt 0 N ∧ OT = trc cnt 0 O ∧ RT = trc ru 0 RR
section Tq
variable {K N O RR KT NT OT RT : Int → Int} {cnt ru wi x c : Int}
theorem trQ.t (h : trQ K N O RR cnt ru KT NT OT RT) (h0 : 0 ≤ x ∧ x < cnt) : tgC KT x = tgC K x := by rw [h.1]; exact trc_tg h0.1 h0.2
theorem trQ.k (h : trQ K N O RR cnt ru KT NT OT RT) (h0 : 0 ≤ x ∧ x < cnt) : KT x = K x := by rw [h.1]; exact trc_in h0.1 h0.2
theorem trQ.n (h : trQ K N O RR cnt ru KT NT OT RT) (h0 : 0 ≤ x ∧ x < cnt) : NT x = N x := by rw [h.2.1]; exact trc_in h0.1 h0.2
theorem trQ.o (h : trQ K N O RR cnt ru KT NT OT RT) (h0 : 0 ≤ x ∧ x < cnt) : OT x = O x := by rw [h.2.2.1]; exact trc_in h0.1 h0.2
theorem trQ.m (h : trQ K N O RR cnt ru KT NT OT RT) (hp : prok K N O RR cnt ru wi) (h0 : 0 ≤ x ∧ x < cnt) : phas KT OT RT x c ↔ phas K O RR x c := by
  obtain ⟨e1, _, e3, e4⟩ := h
  rw [e1, e3, e4]
  exact trc_has hp h0.1 h0.2
theorem trQ.z (h : trQ K N O RR cnt ru KT NT OT RT) (h0 : ¬ (0 ≤ x ∧ x < cnt)) : KT x = 9 := by rw [h.1]; exact trc_out h0
theorem tgq_0 (h : K x = 0 ∨ K x = 1) : tgC K x = 0 := by unfold tgC; rw [if_pos h]
theorem tgq_1 (h : K x = 2) : tgC K x = 1 := by unfold tgC; rw [if_neg (by omega), if_pos h]
theorem tgq_2 (h : K x = 3) : tgC K x = 2 := by unfold tgC; rw [if_neg (by omega), if_neg (by omega), if_pos h]
theorem tgq_3 (h : K x = 6) : tgC K x = 3 := by unfold tgC; rw [if_neg (by omega), if_neg (by omega), if_neg (by omega), if_pos h]
theorem tgq_4 (h : K x = 7) : tgC K x = 4 := by unfold tgC; rw [if_neg (by omega), if_neg (by omega), if_neg (by omega), if_neg (by omega), if_pos h]
theorem tgq_5 (h : K x = 8) : tgC K x = 5 := by unfold tgC; rw [if_neg (by omega), if_neg (by omega), if_neg (by omega), if_neg (by omega), if_neg (by omega), if_pos h]
theorem tgq_6 (h : K x = 9) : tgC K x = 6 := by unfold tgC; rw [if_neg (by omega), if_neg (by omega), if_neg (by omega), if_neg (by omega), if_neg (by omega), if_neg (by omega)]
end Tq
/-! takeSign's ends -/
section Ts
variable {K N O RR KT NT OT RT CU : Int → Int} {cnt ru wi x sg e : Int} {SE SD SE2 SD2 : Int → Int} {sc sc2 : Int}
abbrev TSR (KT NT OT RT CU : Int → Int) (sg x : Int) (SE SD : Int → Int) (sc : Int) (SE2 SD2 : Int → Int) (sc2 : Int) : Prop := tsR (tgC KT) NT (phas KT OT RT) sg (cdG CU sg) x SE SD sc SE2 SD2 sc2
theorem tS_1 (h : trQ K N O RR cnt ru KT NT OT RT) (h0 : 0 ≤ x ∧ x < cnt) (k : K x = 2) (hs : ¬ sg = 0) (q : sdA SE SD sc SE2 SD2 sc2 (N x)) : TSR KT NT OT RT CU sg x SE SD sc SE2 SD2 sc2 := tsR_y q (fun z => by rw [tk_1 (by rw [h.t h0]; exact tgq_1 k) hs z, h.n h0])
theorem tS_1n (h : trQ K N O RR cnt ru KT NT OT RT) (h0 : 0 ≤ x ∧ x < cnt) (k : K x = 2) (hs : sg = 0) : TSR KT NT OT RT CU sg x SE SD sc SE SD sc := tsR_n (tk_1n (by rw [h.t h0]; exact tgq_1 k) hs)
theorem tS_c (h : trQ K N O RR cnt ru KT NT OT RT) (h0 : 0 ≤ x ∧ x < cnt) (k : K x = 0 ∨ K x = 1) (hs : sg < 5) : TSR KT NT OT RT CU sg x SE SD sc SE SD sc := tsR_n (tk_0n (by rw [h.t h0]; exact tgq_0 k) (Or.inl (cdG_lo hs)))
theorem tS_h (h : trQ K N O RR cnt ru KT NT OT RT) (hp : prok K N O RR cnt ru wi) (h0 : 0 ≤ x ∧ x < cnt) (k : K x = 0 ∨ K x = 1) (hs : 5 ≤ sg) (hn : ¬ phas K O RR x (CU (sg - 5))) : TSR KT NT OT RT CU sg x SE SD sc SE SD sc := tsR_n (tk_0n (by rw [h.t h0]; exact tgq_0 k) (Or.inr (by rw [cdG_hi hs, h.m hp h0]; exact hn)))
theorem tS_a (h : trQ K N O RR cnt ru KT NT OT RT) (hp : prok K N O RR cnt ru wi) (h0 : 0 ≤ x ∧ x < cnt) (k : K x = 0 ∨ K x = 1) (hs : 5 ≤ sg) (hc : 0 ≤ CU (sg - 5)) (hn : phas K O RR x (CU (sg - 5))) (h8 : CU (sg - 5) < 128) (q : sdA SE SD sc SE2 SD2 sc2 (N x)) : TSR KT NT OT RT CU sg x SE SD sc SE2 SD2 sc2 := tsR_y q (fun z => by
  rw [cdG_hi hs, tk_0a (by rw [h.t h0]; exact tgq_0 k) (by omega) ((h.m hp h0).mpr hn) h8 z, h.n h0])
theorem tS_b (h : trQ K N O RR cnt ru KT NT OT RT) (hp : prok K N O RR cnt ru wi) (h0 : 0 ≤ x ∧ x < cnt) (k : K x = 0 ∨ K x = 1) (hs : 5 ≤ sg) (hc : 0 ≤ CU (sg - 5)) (hn : phas K O RR x (CU (sg - 5))) (h8 : 128 ≤ CU (sg - 5)) (q : sdA SE SD sc SE2 SD2 sc2 (x + 1024)) : TSR KT NT OT RT CU sg x SE SD sc SE2 SD2 sc2 := tsR_y q (fun z => by
  rw [cdG_hi hs, tk_0b (by rw [h.t h0]; exact tgq_0 k) (by omega) ((h.m hp h0).mpr hn) h8 z])
end Ts
/-! all that states lead to without a byte -/
def flJ (tg a b : Int → Int) (mm : Int → Int → Prop) (HS : Int → Prop) (sg cd : Int) (Pr Z0 : Int → Prop) (SE SK SD : Int → Int) (sta dp sc arv : Int) : Prop := (∀ x : Int, viS SE sta x → ∃ y : Int, Pr y ∧ sR tg a b HS y x) ∧ (∀ i : Int, 0 ≤ i → i < dp → ∃ y : Int, Pr y ∧ sR tg a b HS y (SK i)) ∧ (∀ x z : Int, viS SE sta x → sSt tg a b HS x z → viS SE sta z ∨ ∃ i : Int, 0 ≤ i ∧ i < dp ∧ SK i = z) ∧ (∀ y : Int, Pr y → viS SE sta y ∨ ∃ i : Int, 0 ≤ i ∧ i < dp ∧ SK i = y) ∧ (∀ z : Int, sdS SD sc z ↔ (Z0 z ∨ ∃ x : Int, viS SE sta x ∧ tkS tg a mm sg cd x z)) ∧ (arv = 1 ↔ ∃ x : Int, viS SE sta x ∧ tg x = 5)
section Fl
variable {tg a b : Int → Int} {mm : Int → Int → Prop} {HS : Int → Prop} {sg cd : Int} {Pr Z0 : Int → Prop} {SE SK SD SE2 SK2 SD2 : Int → Int} {sta dp dp2 sc sc2 arv ar2 x : Int}
/-- the top was visited before -/
theorem flJ_s (h : flJ tg a b mm HS sg cd Pr Z0 SE SK SD sta dp sc arv) (hx : SK (dp - 1) = x) (hv : viS SE sta x) (hd : 1 ≤ dp) : flJ tg a b mm HS sg cd Pr Z0 SE SK SD sta (dp - 1) sc arv := by
  obtain ⟨h1, h2, h3, h4, h5⟩ := h
  refine ⟨h1, fun i i0 i1 => h2 i i0 (by omega), fun u z hu hz => ?_, fun y hy => ?_, h5⟩
  · rcases h3 u z hu hz with q | ⟨i, i0, i1, i2⟩
    · exact Or.inl q
    · by_cases c : i = dp - 1
      · rw [c, hx] at i2; rw [← i2]; exact Or.inl hv
      · exact Or.inr ⟨i, i0, by omega, i2⟩
  · rcases h4 y hy with q | ⟨i, i0, i1, i2⟩
    · exact Or.inl q
    · by_cases c : i = dp - 1
      · rw [c, hx] at i2; rw [← i2]; exact Or.inl hv
      · exact Or.inr ⟨i, i0, by omega, i2⟩
/-- the top is visited now -/
theorem flJ_v (h : flJ tg a b mm HS sg cd Pr Z0 SE SK SD sta dp sc arv) (hx : SK (dp - 1) = x) (hb : 0 ≤ x ∧ x < 1024) (hd : 1 ≤ dp ∧ dp - 1 ≤ dp2) (hk : ∀ i : Int, 0 ≤ i → i < dp - 1 → SK2 i = SK i) (hc : ∀ z : Int, sSt tg a b HS x z → ∃ i : Int, dp - 1 ≤ i ∧ i < dp2 ∧ SK2 i = z) (hs : ∀ i : Int, dp - 1 ≤ i → i < dp2 → sSt tg a b HS x (SK2 i)) (he : ∀ i : Int, i < 1024 → SE2 i = zu SE x sta i) (hq : ∀ z : Int, sdS SD2 sc2 z ↔ (sdS SD sc z ∨ tkS tg a mm sg cd x z)) (ha : ar2 = 1 ↔ (arv = 1 ∨ tg x = 5)) : flJ tg a b mm HS sg cd Pr Z0 SE2 SK2 SD2 sta dp2 sc2 ar2 := by
  obtain ⟨h1, h2, h3, h4, h5, h6⟩ := h
  have hV : ∀ z : Int, viS SE2 sta z ↔ (viS SE sta z ∨ z = x) := fun z => by rw [viS_cg he, viS_zu hb]
  have rx : ∃ y : Int, Pr y ∧ sR tg a b HS y x := by rw [← hx]; exact h2 (dp - 1) (by omega) (by omega)
  have mv : ∀ w : Int, (viS SE sta w ∨ ∃ i : Int, 0 ≤ i ∧ i < dp ∧ SK i = w) → viS SE2 sta w ∨ ∃ i : Int, 0 ≤ i ∧ i < dp2 ∧ SK2 i = w := fun w q => by
    rcases q with q | ⟨i, i0, i1, i2⟩
    · exact Or.inl ((hV w).mpr (Or.inl q))
    · by_cases c : i = dp - 1
      · rw [c, hx] at i2; exact Or.inl ((hV w).mpr (Or.inr i2.symm))
      · exact Or.inr ⟨i, i0, by omega, by rw [hk i i0 (by omega)]; exact i2⟩
  refine ⟨fun u hu => ?_, fun i i0 i1 => ?_, fun u z hu hz => ?_, fun y hy => mv y (h4 y hy), fun z => ?_, ?_⟩
  · rcases (hV u).mp hu with q | q
    · exact h1 u q
    · rw [q]; exact rx
  · by_cases c : i < dp - 1
    · rw [hk i i0 c]; exact h2 i i0 (by omega)
    · obtain ⟨y, y1, y2⟩ := rx
      exact ⟨y, y1, sR_t y2 (hs i (by omega) i1)⟩
  · rcases (hV u).mp hu with q | q
    · exact mv z (h3 u z q hz)
    · rw [q] at hz
      obtain ⟨i, i0, i1, i2⟩ := hc z hz
      exact Or.inr ⟨i, by omega, i1, i2⟩
  · rw [hq z, h5 z]
    constructor
    · rintro ((q | ⟨u, u1, u2⟩) | q)
      · exact Or.inl q
      · exact Or.inr ⟨u, (hV u).mpr (Or.inl u1), u2⟩
      · exact Or.inr ⟨x, (hV x).mpr (Or.inr rfl), q⟩
    · rintro (q | ⟨u, u1, u2⟩)
      · exact Or.inl (Or.inl q)
      · rcases (hV u).mp u1 with w | w
        · exact Or.inl (Or.inr ⟨u, w, u2⟩)
        · rw [w] at u2; exact Or.inr u2
  · rw [ha, h6]
    constructor
    · rintro (⟨u, u1, u2⟩ | q)
      · exact ⟨u, (hV u).mpr (Or.inl u1), u2⟩
      · exact ⟨x, (hV x).mpr (Or.inr rfl), q⟩
    · rintro ⟨u, u1, u2⟩
      rcases (hV u).mp u1 with w | w
      · exact Or.inl ⟨u, w, u2⟩
      · rw [w] at u2; exact Or.inr u2
theorem sSt_n (h2 : tg x = 2 → ¬ HS (b x)) (h3 : ¬ tg x = 3) (h4 : ¬ tg x = 4) (z : Int) : ¬ sSt tg a b HS x z := by
  rintro (⟨t, q, _⟩ | ⟨t, _⟩ | ⟨t, _⟩)
  · exact h2 t q
  · exact h3 t
  · exact h4 t
/-- roots that come to it -/
theorem flJ_r {y0 : Int} (h : flJ tg a b mm HS sg cd Pr Z0 SE SK SD sta 0 sc arv) (hs : SK2 0 = y0) : flJ tg a b mm HS sg cd (fun y => Pr y ∨ y = y0) Z0 SE SK2 SD sta 1 sc arv := by
  obtain ⟨h1, h2, h3, h4, h5⟩ := h
  refine ⟨fun u hu => ?_, fun i i0 i1 => ?_, fun u z hu hz => ?_, fun y hy => ?_, h5⟩
  · obtain ⟨y, y1, y2⟩ := h1 u hu
    exact ⟨y, Or.inl y1, y2⟩
  · rw [show i = 0 by omega, hs]
    exact ⟨y0, Or.inr rfl, sR_0⟩
  · rcases h3 u z hu hz with q | ⟨i, i0, i1, _⟩
    · exact Or.inl q
    · omega
  · rcases hy with hy | hy
    · rcases h4 y hy with q | ⟨i, i0, i1, _⟩
      · exact Or.inl q
      · omega
    · exact Or.inr ⟨0, by decide, by decide, by rw [hs, hy]⟩
/-- with an empty stack, what counts of it is nothing -/
theorem flJ_k (h : flJ tg a b mm HS sg cd Pr Z0 SE SK SD sta 0 sc arv) : flJ tg a b mm HS sg cd Pr Z0 SE SK2 SD sta 0 sc arv := by
  obtain ⟨h1, h2, h3, h4, h5⟩ := h
  refine ⟨h1, fun i i0 i1 => by omega, fun u z hu hz => ?_, fun y hy => ?_, h5⟩
  · rcases h3 u z hu hz with q | ⟨i, i0, i1, _⟩
    · exact Or.inl q
    · omega
  · rcases h4 y hy with q | ⟨i, i0, i1, _⟩
    · exact Or.inl q
    · omega
/-- a seed of one that waits -/
theorem flJ_w {e : Int} (h : flJ tg a b mm HS sg cd Pr Z0 SE SK SD sta 0 sc arv) (q : sdA SE SD sc SE2 SD2 sc2 e) : flJ tg a b mm HS sg cd Pr (fun z => Z0 z ∨ z = e) SE2 SK SD2 sta 0 sc2 arv := by
  obtain ⟨h1, h2, h3, h4, h5, h6⟩ := h
  have hV : ∀ z : Int, viS SE2 sta z ↔ viS SE sta z := fun z => viS_cg q.2
  refine ⟨fun u hu => h1 u ((hV u).mp hu), fun i i0 i1 => by omega, fun u z hu hz => ?_, fun y hy => ?_, fun z => ?_, ?_⟩
  · rcases h3 u z ((hV u).mp hu) hz with q | ⟨i, i0, i1, _⟩
    · exact Or.inl ((hV z).mpr q)
    · omega
  · rcases h4 y hy with q | ⟨i, i0, i1, _⟩
    · exact Or.inl ((hV y).mpr q)
    · omega
  · rw [q.1 z, h5 z]
    constructor
    · rintro ((w | ⟨u, u1, u2⟩) | w)
      · exact Or.inl (Or.inl w)
      · exact Or.inr ⟨u, (hV u).mpr u1, u2⟩
      · exact Or.inl (Or.inr w)
    · rintro ((w | w) | ⟨u, u1, u2⟩)
      · exact Or.inl (Or.inl w)
      · exact Or.inr w
      · exact Or.inl (Or.inr ⟨u, (hV u).mp u1, u2⟩)
  · rw [h6]
    exact ⟨fun ⟨u, u1, u2⟩ => ⟨u, (hV u).mpr u1, u2⟩, fun ⟨u, u1, u2⟩ => ⟨u, (hV u).mp u1, u2⟩⟩
theorem flJ_cg {P2 Z2 : Int → Prop} (h : flJ tg a b mm HS sg cd Pr Z0 SE SK SD sta dp sc arv) (e1 : ∀ y : Int, Pr y ↔ P2 y) (e2 : ∀ y : Int, Z0 y ↔ Z2 y) : flJ tg a b mm HS sg cd P2 Z2 SE SK SD sta dp sc arv := by
  rw [show P2 = Pr from funext (fun y => propext (e1 y).symm), show Z2 = Z0 from funext (fun y => propext (e2 y).symm)]
  exact h
theorem flJ_0 (h : rgs SE 3072 0 sta) (ha : arv = 0) : flJ tg a b mm HS sg cd (fun _ => False) (fun _ => False) SE SK SD (sta + 1) 0 0 arv := ⟨fun u hu => absurd hu (viS_z h), fun i i0 i1 => by omega, fun u z hu => absurd hu (viS_z h), fun y hy => hy.elim, fun z => ⟨fun ⟨i, i0, i1, _⟩ => by omega, fun q => q.elim False.elim (fun ⟨u, u1, _⟩ => absurd u1 (viS_z h))⟩, ⟨fun q => by omega, fun ⟨u, u1, _⟩ => absurd u1 (viS_z h)⟩⟩
/-- all is visited that the roots lead to -/
theorem flJ_V (h : flJ tg a b mm HS sg cd Pr Z0 SE SK SD sta 0 sc arv) (x : Int) : viS SE sta x ↔ ∃ y : Int, Pr y ∧ sR tg a b HS y x := by
  obtain ⟨h1, h2, h3, h4, _⟩ := h
  refine ⟨h1 x, fun ⟨y, y1, k, y2⟩ => ?_⟩
  have v : viS SE sta y := by
    rcases h4 y y1 with q | ⟨i, i0, i1, _⟩
    · exact q
    · omega
  refine sR_c (V := fun z => viS SE sta z) (fun u w hu hw => ?_) k y x v y2
  rcases h3 u w hu hw with q | ⟨i, i0, i1, _⟩
  · exact q
  · omega
/-- what a set becomes by a sign -/
theorem flJ_end {A : Int → Prop} {rm fi : Int} (h : flJ tg a b mm HS sg cd Pr Z0 SE SK SD sta 0 sc arv) (hP : ∀ y : Int, Pr y ↔ ((A y ∧ y < 1024) ∨ (rm = 1 ∧ y = fi))) (hZ : ∀ z : Int, Z0 z ↔ ∃ y : Int, A y ∧ 1024 ≤ y ∧ ((sg = 1 ∧ z = a (y - 1024)) ∨ (¬ sg = 1 ∧ z = y))) : (arv = 1 ↔ darS tg a b HS A rm fi) ∧ ∀ z : Int, sdS SD sc z ↔ dnxS tg a b mm HS A rm fi sg cd z := by
  have hV : ∀ x : Int, viS SE sta x ↔ dvS tg a b HS A rm fi x := fun x => by
    rw [flJ_V h x]
    unfold dvS
    exact ⟨fun ⟨y, y1, y2⟩ => ⟨y, (hP y).mp y1, y2⟩, fun ⟨y, y1, y2⟩ => ⟨y, (hP y).mpr y1, y2⟩⟩
  obtain ⟨_, _, _, _, h5, h6⟩ := h
  refine ⟨?_, fun z => ?_⟩
  · rw [h6]
    exact ⟨fun ⟨u, u1, u2⟩ => ⟨u, (hV u).mp u1, u2⟩, fun ⟨u, u1, u2⟩ => ⟨u, (hV u).mpr u1, u2⟩⟩
  · rw [h5 z, hZ z]
    constructor
    · rintro (q | ⟨u, u1, u2⟩)
      · exact Or.inr q
      · exact Or.inl ⟨u, (hV u).mp u1, u2⟩
    · rintro (⟨u, u1, u2⟩ | q)
      · exact Or.inr ⟨u, (hV u).mpr u1, u2⟩
      · exact Or.inl q
end Fl
