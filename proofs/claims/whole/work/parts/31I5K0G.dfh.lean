/-! following, as it is done -/
abbrev FLJ (KT NT OT RT CU : Int → Int) (sg ah : Int) (Pr Z0 : Int → Prop) (SE SK SD : Int → Int) (sta dp sc arv : Int) : Prop := flJ (tgC KT) NT OT (phas KT OT RT) (HSc (cdG CU sg) sg ah) sg (cdG CU sg) Pr Z0 SE SK SD sta dp sc arv
section Fk
variable {K N O RR KT NT OT RT CU : Int → Int} {cnt ru wi sg ah : Int} {Pr Z0 : Int → Prop} {SE SK SD SE2 SD2 : Int → Int} {sta dp d1 sc sc2 arv x : Int}
theorem flK_s (h : FLJ KT NT OT RT CU sg ah Pr Z0 SE SK SD sta dp sc arv) (e : d1 = dp - 1) (hx : SK d1 = x) (hv : SE x = sta) (hb : 0 ≤ x ∧ x < 1024) (hd : 1 ≤ dp) : FLJ KT NT OT RT CU sg ah Pr Z0 SE SK SD sta d1 sc arv := by
  rw [e] at hx ⊢
  exact flJ_s h hx ⟨hb, hv⟩ hd
theorem flK_t (h : FLJ KT NT OT RT CU sg ah Pr Z0 SE SK SD sta dp sc arv) (e : d1 = dp - 1) (hx : SK d1 = x) (hd : 1 ≤ dp) (hT : trQ K N O RR cnt ru KT NT OT RT) (hb : 0 ≤ x ∧ x < cnt ∧ cnt ≤ 808) (hk : 0 ≤ K x ∧ K x ≤ 2) (q : TSR KT NT OT RT CU sg x (zu SE x sta) SD sc SE2 SD2 sc2) : FLJ KT NT OT RT CU sg ah Pr Z0 SE2 SK SD2 sta d1 sc2 arv := by
  rw [e] at hx ⊢
  have t : tgC KT x = 0 ∨ tgC KT x = 1 := by
    rw [hT.t ⟨hb.1, hb.2.1⟩]
    rcases (show K x = 0 ∨ K x = 1 ∨ K x = 2 by omega) with z | z | z
    · exact Or.inl (tgq_0 (Or.inl z))
    · exact Or.inl (tgq_0 (Or.inr z))
    · exact Or.inr (tgq_1 z)
  exact flJ_v h hx ⟨hb.1, by omega⟩ ⟨hd, Int.le_refl _⟩ (fun _ _ _ => rfl) (fun z hz => absurd hz (sSt_n (fun z => by omega) (by omega) (by omega) z)) (fun i i0 i1 => by omega) q.2 q.1 ⟨Or.inl, fun z => z.elim id (fun z => by omega)⟩
theorem flK_a (h : FLJ KT NT OT RT CU sg ah Pr Z0 SE SK SD sta dp sc arv) (e : d1 = dp - 1) (hx : SK d1 = x) (hd : 1 ≤ dp) (hT : trQ K N O RR cnt ru KT NT OT RT) (hb : 0 ≤ x ∧ x < cnt ∧ cnt ≤ 808) (hk : K x = 8) : FLJ KT NT OT RT CU sg ah Pr Z0 (zu SE x sta) SK SD sta d1 sc 1 := by
  rw [e] at hx ⊢
  have t : tgC KT x = 5 := by rw [hT.t ⟨hb.1, hb.2.1⟩]; exact tgq_5 hk
  exact flJ_v h hx ⟨hb.1, by omega⟩ ⟨hd, Int.le_refl _⟩ (fun _ _ _ => rfl) (fun z hz => absurd hz (sSt_n (fun z => by omega) (by omega) (by omega) z)) (fun i i0 i1 => by omega) (fun _ _ => rfl) (fun z => ⟨Or.inl, fun q => q.elim id (fun q => absurd q (tk_no (by omega) (by omega) z))⟩) ⟨fun _ => Or.inr t, fun _ => rfl⟩
theorem flK_n (h : FLJ KT NT OT RT CU sg ah Pr Z0 SE SK SD sta dp sc arv) (e : d1 = dp - 1) (hx : SK d1 = x) (hd : 1 ≤ dp) (hT : trQ K N O RR cnt ru KT NT OT RT) (hb : 0 ≤ x ∧ x < cnt ∧ cnt ≤ 808) (hk : K x = 9 ∨ (K x = 3 ∧ ¬ HSc (cdG CU sg) sg ah (O x))) : FLJ KT NT OT RT CU sg ah Pr Z0 (zu SE x sta) SK SD sta d1 sc arv := by
  rw [e] at hx ⊢
  have t : tgC KT x = 6 ∨ (tgC KT x = 2 ∧ ¬ HSc (cdG CU sg) sg ah (OT x)) := by
    rw [hT.t ⟨hb.1, hb.2.1⟩, hT.o ⟨hb.1, hb.2.1⟩]
    rcases hk with z | z
    · exact Or.inl (tgq_6 z)
    · exact Or.inr ⟨tgq_2 z.1, z.2⟩
  have n0 : ¬ tgC KT x = 0 := by rcases t with t | t <;> omega
  have n1 : ¬ tgC KT x = 1 := by rcases t with t | t <;> omega
  have n5 : ¬ tgC KT x = 5 := by rcases t with t | t <;> omega
  have n3 : ¬ tgC KT x = 3 := by rcases t with t | t <;> omega
  have n4 : ¬ tgC KT x = 4 := by rcases t with t | t <;> omega
  have n2 : tgC KT x = 2 → ¬ HSc (cdG CU sg) sg ah (OT x) := fun q => by
    rcases t with t | t
    · omega
    · exact t.2
  exact flJ_v h hx ⟨hb.1, by omega⟩ ⟨hd, Int.le_refl _⟩ (fun _ _ _ => rfl) (fun z hz => absurd hz (sSt_n n2 n3 n4 z)) (fun i i0 i1 => by omega) (fun _ _ => rfl) (fun z => ⟨Or.inl, fun q => q.elim id (fun q => absurd q (tk_no n0 n1 z))⟩) ⟨Or.inl, fun z => z.elim id (fun z => absurd z n5)⟩
theorem flK_1 (h : FLJ KT NT OT RT CU sg ah Pr Z0 SE SK SD sta dp sc arv) (e : d1 = dp - 1) (hx : SK d1 = x) (hd : 1 ≤ dp) (hT : trQ K N O RR cnt ru KT NT OT RT) (hb : 0 ≤ x ∧ x < cnt ∧ cnt ≤ 808) (hk : K x = 7 ∨ (K x = 3 ∧ HSc (cdG CU sg) sg ah (O x))) : FLJ KT NT OT RT CU sg ah Pr Z0 (zu SE x sta) (zu SK d1 (N x)) SD sta (d1 + 1) sc arv := by
  rw [e] at hx ⊢
  have t : tgC KT x = 4 ∨ (tgC KT x = 2 ∧ HSc (cdG CU sg) sg ah (OT x)) := by
    rw [hT.t ⟨hb.1, hb.2.1⟩, hT.o ⟨hb.1, hb.2.1⟩]
    rcases hk with z | z
    · exact Or.inl (tgq_4 z)
    · exact Or.inr ⟨tgq_2 z.1, z.2⟩
  have nx := hT.n (x := x) ⟨hb.1, hb.2.1⟩
  have n0 : ¬ tgC KT x = 0 := by rcases t with t | t <;> omega
  have n1 : ¬ tgC KT x = 1 := by rcases t with t | t <;> omega
  have n5 : ¬ tgC KT x = 5 := by rcases t with t | t <;> omega
  have st : sSt (tgC KT) NT OT (HSc (cdG CU sg) sg ah) x (NT x) := by
    rcases t with t | t
    · exact Or.inr (Or.inr ⟨t, rfl⟩)
    · exact Or.inl ⟨t.1, t.2, rfl⟩
  have un : ∀ z : Int, sSt (tgC KT) NT OT (HSc (cdG CU sg) sg ah) x z → z = NT x := fun z q => by
    rcases q with ⟨_, _, q⟩ | ⟨q, _⟩ | ⟨_, q⟩
    · exact q
    · rcases t with t | t <;> omega
    · exact q
  refine flJ_v h hx ⟨hb.1, by omega⟩ ⟨hd, by omega⟩ (fun i i0 i1 => zu_ne (by omega)) (fun z hz => ⟨dp - 1, Int.le_refl _, by omega, by rw [zu_self, un z hz, nx]⟩) (fun i i0 i1 => ?_) (fun _ _ => rfl) (fun z => ⟨Or.inl, fun q => q.elim id (fun q => absurd q (tk_no n0 n1 z))⟩) ⟨Or.inl, fun z => z.elim id (fun z => absurd z n5)⟩
  rw [show i = dp - 1 by omega, zu_self, ← nx]
  exact st
theorem flK_2 (h : FLJ KT NT OT RT CU sg ah Pr Z0 SE SK SD sta dp sc arv) (e : d1 = dp - 1) (hx : SK d1 = x) (hd : 1 ≤ dp) (hT : trQ K N O RR cnt ru KT NT OT RT) (hb : 0 ≤ x ∧ x < cnt ∧ cnt ≤ 808) (hk : K x = 6) : FLJ KT NT OT RT CU sg ah Pr Z0 (zu SE x sta) (zu (zu SK d1 (N x)) (d1 + 1) (O x)) SD sta (d1 + 1 + 1) sc arv := by
  rw [e] at hx ⊢
  have t : tgC KT x = 3 := by rw [hT.t ⟨hb.1, hb.2.1⟩]; exact tgq_3 hk
  have nx := hT.n (x := x) ⟨hb.1, hb.2.1⟩
  have ox := hT.o (x := x) ⟨hb.1, hb.2.1⟩
  refine flJ_v h hx ⟨hb.1, by omega⟩ ⟨hd, by omega⟩ (fun i i0 i1 => by rw [zu_ne (by omega), zu_ne (by omega)]) (fun z hz => ?_) (fun i i0 i1 => ?_) (fun _ _ => rfl) (fun z => ⟨Or.inl, fun q => q.elim id (fun q => absurd q (tk_no (by omega) (by omega) z))⟩) ⟨Or.inl, fun z => z.elim id (fun z => by omega)⟩
  · rcases hz with ⟨q, _⟩ | ⟨_, q | q⟩ | ⟨q, _⟩
    · omega
    · exact ⟨dp - 1, Int.le_refl _, by omega, by rw [zu_ne (by omega), zu_self, q, nx]⟩
    · exact ⟨dp - 1 + 1, by omega, by omega, by rw [zu_self, q, ox]⟩
    · omega
  · rcases (show i = dp - 1 ∨ i = dp - 1 + 1 by omega) with q | q
    · rw [q, zu_ne (by omega), zu_self, ← nx]; exact Or.inr (Or.inl ⟨t, Or.inl rfl⟩)
    · rw [q, zu_self, ← ox]; exact Or.inr (Or.inl ⟨t, Or.inr rfl⟩)
end Fk
/-! the way on from a kept state -/
def mPr (PO : Int → Int) (lo i y : Int) : Prop := ∃ j : Int, lo ≤ j ∧ j < i ∧ PO j = y ∧ y < 1024
def mZ0 (NT : Int → Int) (sg : Int) (PO : Int → Int) (lo i z : Int) : Prop := ∃ j : Int, lo ≤ j ∧ j < i ∧ 1024 ≤ PO j ∧ ((sg = 1 ∧ z = NT (PO j - 1024)) ∨ (¬ sg = 1 ∧ z = PO j))
def meJ (KT NT OT RT CU : Int → Int) (sg ah : Int) (PO : Int → Int) (lo i : Int) (SE SK SD : Int → Int) (sta sc arv : Int) : Prop := FLJ KT NT OT RT CU sg ah (mPr PO lo i) (mZ0 NT sg PO lo i) SE SK SD sta 0 sc arv
def mkX (KT NT OT RT CU : Int → Int) (fi ro sg ah : Int) (A : Int → Prop) (SD : Int → Int) (sc arv : Int) : Prop := (arv = 1 ↔ darS (tgC KT) NT OT (HSc (cdG CU sg) sg ah) A ro fi) ∧ ∀ z : Int, sdS SD sc z ↔ dnxS (tgC KT) NT OT (phas KT OT RT) (HSc (cdG CU sg) sg ah) A ro fi sg (cdG CU sg) z
section Me
variable {K N O RR KT NT OT RT CU PO BG : Int → Int} {cnt ru wi sg ah lo i fi ro s : Int} {SE SK SD SE2 SK2 SD2 : Int → Int} {sta sc sc2 arv ar2 e : Int}
theorem meJ_0 (h : rgs SE 3072 0 sta) (ha : arv = 0) : meJ KT NT OT RT CU sg ah PO lo lo SE SK SD (sta + 1) 0 arv := flJ_cg (flJ_0 h ha) (fun y => ⟨False.elim, fun ⟨j, a, b, _⟩ => by omega⟩) (fun y => ⟨False.elim, fun ⟨j, a, b, _⟩ => by omega⟩)
theorem meJ_f (h : FLJ KT NT OT RT CU sg ah (fun y => mPr PO lo i y ∨ y = PO i) (mZ0 NT sg PO lo i) SE SK SD sta 0 sc arv) (hl : lo ≤ i) (hp : PO i < 1024) : meJ KT NT OT RT CU sg ah PO lo (i + 1) SE SK SD sta sc arv := flJ_cg h (fun y => by
  constructor
  · rintro (⟨j, a, b, c, d⟩ | q)
    · exact ⟨j, a, by omega, c, d⟩
    · exact ⟨i, hl, by omega, q.symm, by omega⟩
  · rintro ⟨j, a, b, c, d⟩
    by_cases q : j = i
    · rw [q] at c; exact Or.inr c.symm
    · exact Or.inl ⟨j, a, by omega, c, d⟩) (fun y => by
  constructor
  · rintro ⟨j, a, b, c⟩; exact ⟨j, a, by omega, c⟩
  · rintro ⟨j, a, b, c⟩
    by_cases q : j = i
    · rw [q] at c; omega
    · exact ⟨j, a, by omega, c⟩)
theorem meJ_w (h : meJ KT NT OT RT CU sg ah PO lo i SE SK SD sta sc arv) (q : sdA SE SD sc SE2 SD2 sc2 e) (hl : lo ≤ i) (hp : 1024 ≤ PO i) (he : (sg = 1 ∧ e = NT (PO i - 1024)) ∨ (¬ sg = 1 ∧ e = PO i)) : meJ KT NT OT RT CU sg ah PO lo (i + 1) SE2 SK SD2 sta sc2 arv := flJ_cg (flJ_w h q) (fun y => by
  constructor
  · rintro ⟨j, a, b, c, d⟩; exact ⟨j, a, by omega, c, d⟩
  · rintro ⟨j, a, b, c, d⟩
    by_cases r : j = i
    · rw [r] at c; omega
    · exact ⟨j, a, by omega, c, d⟩) (fun y => by
  constructor
  · rintro (⟨j, a, b, c⟩ | r)
    · exact ⟨j, a, by omega, c⟩
    · refine ⟨i, hl, by omega, hp, ?_⟩
      rw [r]; exact he
  · rintro ⟨j, a, b, c, d⟩
    by_cases r : j = i
    · rw [r] at d
      refine Or.inr ?_
      rcases d with ⟨d1, d2⟩ | ⟨d1, d2⟩ <;> rcases he with ⟨h1, h2⟩ | ⟨h1, h2⟩
      · rw [d2, h2]
      · exact absurd d1 h1
      · exact absurd h1 d1
      · rw [d2, h2]
    · exact Or.inl ⟨j, a, by omega, c, d⟩)
theorem mPr_k (hi : i = BG (s + 1)) (y : Int) : mPr PO (BG s) i y ↔ (kpS PO BG s y ∧ y < 1024) := by
  rw [hi]
  exact ⟨fun ⟨j, a, b, c, d⟩ => ⟨⟨j, a, b, c⟩, d⟩, fun ⟨⟨j, a, b, c⟩, d⟩ => ⟨j, a, b, c, d⟩⟩
theorem mZ0_k (hi : i = BG (s + 1)) (z : Int) : mZ0 NT sg PO (BG s) i z ↔ ∃ y : Int, kpS PO BG s y ∧ 1024 ≤ y ∧ ((sg = 1 ∧ z = NT (y - 1024)) ∨ (¬ sg = 1 ∧ z = y)) := by
  rw [hi]
  exact ⟨fun ⟨j, a, b, c, d⟩ => ⟨PO j, ⟨j, a, b, rfl⟩, c, d⟩, fun ⟨y, ⟨j, a, b, c⟩, d, e⟩ => ⟨j, a, b, by rw [c]; exact d, by rw [c]; exact e⟩⟩
theorem mkX_0 (h : meJ KT NT OT RT CU sg ah PO (BG s) i SE SK SD sta sc arv) (hi : i = BG (s + 1)) (hr : ¬ ro = 1) : mkX KT NT OT RT CU fi ro sg ah (kpS PO BG s) SD sc arv := flJ_end h (fun y => by
  rw [mPr_k hi]
  exact ⟨Or.inl, fun q => q.elim id (fun q => absurd q.1 hr)⟩) (mZ0_k hi)
theorem mkX_1 (h : FLJ KT NT OT RT CU sg ah (fun y => mPr PO (BG s) i y ∨ y = fi) (mZ0 NT sg PO (BG s) i) SE SK SD sta 0 sc arv) (hi : i = BG (s + 1)) (hr : ro = 1) : mkX KT NT OT RT CU fi ro sg ah (kpS PO BG s) SD sc arv := flJ_end h (fun y => by
  rw [mPr_k hi]
  exact ⟨fun q => q.elim Or.inl (fun q => Or.inr ⟨hr, q⟩), fun q => q.elim Or.inl (fun q => Or.inr q.2)⟩) (mZ0_k hi)
end Me
/-! kept states -/
def hsS (PO BG : Int → Int) (s : Int) (SD : Int → Int) (sc : Int) : Prop := BG (s + 1) - BG s = sc ∧ ∀ j : Int, 0 ≤ j → j < sc → PO (BG s + j) = SD j
def hsI (sm : Int) (PO BG : Int → Int) (s : Int) (SD : Int → Int) (i : Int) : Prop := sm = 1 → ∀ j : Int, 0 ≤ j → j < i → PO (BG s + j) = SD j
def hsV (v : Int) (PO BG : Int → Int) (s : Int) (SD : Int → Int) (sc : Int) : Prop := v = 1 → hsS PO BG s SD sc
def ksE (EG : Int → Int) (ct sgs : Int) (EG2 : Int → Int) (ct2 : Int) : Prop := ∀ s g : Int, 0 ≤ s → s < ct2 → 0 ≤ g → g < sgs → EG2 (s * sgs + g) = 0 ∨ (s < ct ∧ ct ≤ ct2 ∧ EG2 (s * sgs + g) = EG (s * sgs + g))
def ksP (PO BG BD : Int → Int) (ct : Int) (PO2 BG2 BD2 : Int → Int) (ct2 : Int) : Prop := ct ≤ ct2 → ∀ s : Int, 0 ≤ s → s < ct → BD2 s = BD s ∧ ∀ z : Int, kpS PO2 BG2 s z ↔ kpS PO BG s z
def ksV (PO2 BG2 BD2 : Int → Int) (v ah : Int) (SD : Int → Int) (sc : Int) : Prop := BD2 v = ah ∧ ∀ z : Int, kpS PO2 BG2 v z ↔ sdS SD sc z
def ksR (EG PO BG BD : Int → Int) (ct sgs : Int) (EG2 PO2 BG2 BD2 : Int → Int) (ct2 v ah : Int) (SD : Int → Int) (sc : Int) : Prop := ksE EG ct sgs EG2 ct2 ∧ ksP PO BG BD ct PO2 BG2 BD2 ct2 ∧ ksV PO2 BG2 BD2 v ah SD sc
section Ks
variable {EG PO BG BD SD EG2 PO2 BG2 BD2 : Int → Int} {ct sgs ct2 v ah sc s i sm : Int}
theorem hsI_0 : hsI sm PO BG s SD 0 := fun _ j a b => by omega
theorem hsI_s (h : hsI sm PO BG s SD i) (hs : sm = 1) (e : PO (BG s + i) = SD i) : hsI 1 PO BG s SD (i + 1) := fun _ j a b => by
  by_cases c : j = i
  · rw [c]; exact e
  · exact h hs j a (by omega)
theorem kpS_hs (h : hsS PO BG s SD sc) (z : Int) : kpS PO BG s z ↔ sdS SD sc z := by
  constructor
  · rintro ⟨i, a, b, c⟩
    have t := h.2 (i - BG s) (by omega) (by have := h.1; omega)
    rw [show BG s + (i - BG s) = i by omega] at t
    exact ⟨i - BG s, by omega, by have := h.1; omega, by rw [← t]; exact c⟩
  · rintro ⟨i, a, b, c⟩
    exact ⟨BG s + i, by omega, by have := h.1; omega, by rw [h.2 i a b]; exact c⟩
theorem ksR_f (hb : BD s = ah) (hs : hsS PO BG s SD sc) (hv : v = s) : ksR EG PO BG BD ct sgs EG PO BG BD ct v ah SD sc := by
  rw [hv]
  exact ⟨fun s g a b c d => Or.inr ⟨b, Int.le_refl _, rfl⟩, fun _ s a b => ⟨rfl, fun _ => Iff.rfl⟩, hb, kpS_hs hs⟩
theorem kpS_new (hn : 0 ≤ ct) (h0 : 0 ≤ sc) (hbg : bgo BG ct) (z : Int) : kpS (zcpy SD PO 0 (BG ct) sc) (zu BG (ct + 1) (BG ct + sc)) ct z ↔ sdS SD sc z := by
  have e1 : zu BG (ct + 1) (BG ct + sc) ct = BG ct := zu_ne (by omega)
  have e2 : zu BG (ct + 1) (BG ct + sc) (ct + 1) = BG ct + sc := zu_self _ _ _
  unfold kpS
  rw [e1, e2]
  constructor
  · rintro ⟨i, a, b, c⟩
    rw [zcpy_in (by omega)] at c
    exact ⟨0 + (i - BG ct), by omega, by omega, c⟩
  · rintro ⟨i, a, b, c⟩
    refine ⟨BG ct + i, by omega, by omega, ?_⟩
    rw [zcpy_in (by omega), show 0 + (BG ct + i - BG ct) = i by omega]
    exact c
theorem kpS_old (hbg : bgo BG ct) (h0 : 0 ≤ s ∧ s < ct) (z : Int) : kpS (zcpy SD PO 0 (BG ct) sc) (zu BG (ct + 1) (BG ct + sc)) s z ↔ kpS PO BG s z := by
  have e1 : zu BG (ct + 1) (BG ct + sc) s = BG s := zu_ne (by omega)
  have e2 : zu BG (ct + 1) (BG ct + sc) (s + 1) = BG (s + 1) := zu_ne (by omega)
  have b := hbg.st s h0.1 h0.2
  unfold kpS
  rw [e1, e2]
  constructor
  · rintro ⟨i, p, q, c⟩
    rw [zcpy_out (by omega)] at c
    exact ⟨i, p, q, c⟩
  · rintro ⟨i, p, q, c⟩
    exact ⟨i, p, q, by rw [zcpy_out (by omega)]; exact c⟩
theorem ksE_new (hc : 0 ≤ ct) (hg : 0 < sgs) : ksE EG ct sgs (zfill EG (ct * sgs) ((ct + 1) * sgs) 0) (ct + 1) := fun s g a b c d => by
  have e1 : (ct + 1) * sgs = ct * sgs + sgs := by rw [Int.add_mul, Int.one_mul]
  by_cases e : s = ct
  · left; rw [e, zfill_in (by omega)]
  · have hs : s * sgs + sgs ≤ ct * sgs := by
      have : (s + 1) * sgs ≤ ct * sgs := Int.mul_le_mul_of_nonneg_right (by omega) (by omega)
      rw [Int.add_mul, Int.one_mul] at this; exact this
    right
    exact ⟨by omega, by omega, zfill_out (by omega)⟩
theorem ksR_n (hc : 0 ≤ ct) (hg : 0 < sgs) (h0 : 0 ≤ sc) (hbg : bgo BG ct) (hv : v = ct) (e1 : EG2 = zfill EG (ct * sgs) ((ct + 1) * sgs) 0) : ksR EG PO BG BD ct sgs EG2 (zcpy SD PO 0 (BG ct) sc) (zu BG (ct + 1) (BG ct + sc)) (zu BD ct ah) (ct + 1) v ah SD sc := by
  rw [hv, e1]
  exact ⟨ksE_new hc hg, fun _ s a b => ⟨zu_ne (by omega), kpS_old hbg ⟨a, b⟩⟩, zu_self _ _ _, kpS_new hc h0 hbg⟩
/-- all were forgotten -/
theorem ksR_r (hc : 2 ≤ ct) (hg : 0 < sgs) (h0 : 0 ≤ sc) (hbg : bgo BG ct) (hv : v = 0) (e1 : EG2 = zfill EG (0 * sgs) ((0 + 1) * sgs) 0) : ksR EG PO BG BD ct sgs EG2 (zcpy SD PO 0 (BG 0) sc) (zu BG (0 + 1) (BG 0 + sc)) (zu BD 0 ah) (0 + 1) v ah SD sc := by
  rw [hv, e1]
  refine ⟨fun s g a b c d => ?_, fun q => by omega, zu_self _ _ _, kpS_new (Int.le_refl 0) h0 (bgo_0 hbg)⟩
  rcases ksE_new (EG := EG) (ct := 0) (Int.le_refl 0) hg s g a (by omega) c d with q | q
  · exact Or.inl q
  · omega
end Ks
/-! edges -/
def edV (K N O RR : Int → Int) (fi la ro : Int) (CU : Int → Int) (A : Int → Prop) (ah g ed : Int) (PO2 BG2 BD2 : Int → Int) (ct2 : Int) : Prop := (0 ≤ ed / 2 - 1 ∧ ed / 2 - 1 < ct2) ∧ (ed % 2 = 1 ↔ darS (tgC K) N O (HSc (cdG CU g) g ah) A ro fi) ∧ (¬ g = 0 → (∀ z : Int, kpS PO2 BG2 (ed / 2 - 1) z ↔ dnxS (tgC K) N O (phas K O RR) (HSc (cdG CU g) g ah) A ro fi g (cdG CU g) z) ∧ ahN la (cdG CU g) (BD2 (ed / 2 - 1)))
section Ed
variable {K N O RR CU EG PO BG BD SD EG2 PO2 BG2 BD2 : Int → Int} {fi la ro cn ct ct2 v ah sc s g ed t ar : Int} {A : Int → Prop}
theorem edO_0 : edO K N O RR fi la ro CU PO BG BD EG cn 0 := fun s g a b => by omega
theorem edR.vv (h : edR K N O RR fi la ro CU PO BG BD ct s g ed) : edV K N O RR fi la ro CU (kpS PO BG s) (BD s) g ed PO BG BD ct := ⟨h.1, h.2.1, h.2.2.2⟩
theorem edO_ks (h : edO K N O RR fi la ro CU PO BG BD EG cn ct) (k : ksR EG PO BG BD ct (cn + 5) EG2 PO2 BG2 BD2 ct2 v ah SD sc) : edO K N O RR fi la ro CU PO2 BG2 BD2 EG2 cn ct2 := fun s g a b c d e => by
  rcases k.1 s g a b c (by omega) with q | ⟨q1, q2, q3⟩
  · exact absurd q e
  · rw [q3] at e ⊢
    have r := h s g a q1 c d e
    have kp := k.2.1 q2
    obtain ⟨r1, r2, r3, r4⟩ := r
    obtain ⟨t1, t2⟩ := kp _ r1.1 r1.2
    obtain ⟨s1, s2⟩ := kp s a q1
    have eA : kpS PO2 BG2 s = kpS PO BG s := funext (fun z => propext (s2 z))
    refine ⟨⟨r1.1, by omega⟩, ?_, r3, fun n => ?_⟩
    · rw [eA, s1]; exact r2
    · obtain ⟨w1, w2⟩ := r4 n
      rw [eA, s1, t1]
      exact ⟨fun z => (t2 z).trans (w1 z), w2⟩
theorem edV_mk (h : mkX K N O RR CU fi ro g ah A SD sc ar) (hv : v = 2 * (t + 1) + ar) (ha : 0 ≤ ar ∧ ar ≤ 1) (ht : 0 ≤ t ∧ t < ct2) (hg : ¬ g = 0 → (∀ z : Int, kpS PO2 BG2 t z ↔ sdS SD sc z) ∧ ahN la (cdG CU g) (BD2 t)) : edV K N O RR fi la ro CU A ah g v PO2 BG2 BD2 ct2 := by
  have e1 : v / 2 - 1 = t := by omega
  have e2 : v % 2 = 1 ↔ ar = 1 := by omega
  refine ⟨by omega, by rw [e2]; exact h.1, fun n => ?_⟩
  obtain ⟨a, b⟩ := hg n
  rw [e1]
  exact ⟨fun z => (a z).trans (h.2 z), b⟩
theorem edR_v (h : edV K N O RR fi la ro CU (kpS PO BG s) (BD s) g ed PO2 BG2 BD2 ct2) (h0 : g = 0 → ed / 2 - 1 = s) (hs : BD2 s = BD s ∧ ∀ z : Int, kpS PO2 BG2 s z ↔ kpS PO BG s z) : edR K N O RR fi la ro CU PO2 BG2 BD2 ct2 s g ed := by
  have eA : kpS PO2 BG2 s = kpS PO BG s := funext (fun z => propext (hs.2 z))
  refine ⟨h.1, ?_, h0, ?_⟩
  · rw [eA, hs.1]; exact h.2.1
  · rw [eA, hs.1]; exact h.2.2
theorem edO_set {x : Int} (h : edO K N O RR fi la ro CU PO BG BD EG cn ct) (hx : x = s * (cn + 5) + g) (hg : 0 ≤ g ∧ g ≤ cn + 4) (hr : edR K N O RR fi la ro CU PO BG BD ct s g ed) : edO K N O RR fi la ro CU PO BG BD (zu EG x ed) cn ct := fun s2 g2 a b c d e => by
  by_cases q : s2 * (cn + 5) + g2 = x
  · rw [q, zu_self]
    have e1 : s2 = s := z_split (sg := cn + 5) (t := g2) (s := g) (by omega) (by omega) (q.trans hx)
    have e2 : g2 = g := by rw [e1] at q; omega
    rw [e1, e2]
    exact hr
  · rw [zu_ne q] at e ⊢
    exact h s2 g2 a b c d e
end Ed
