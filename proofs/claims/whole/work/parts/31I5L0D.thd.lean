/-! threads: the walk's steps, as they are done -/
def mkT (SE : Int → Int) (sta q : Int) : Int → Int → Prop := fun y p => p = q ∧ (0 ≤ y ∧ y < 1024) ∧ SE y = sta
theorem mkT_zu {SE : Int → Int} {sta q x : Int} : ∀ y p, mkT (zu SE x sta) sta q y p → mkT SE sta q y p ∨ (y = x ∧ p = q) := fun y p ⟨h1, h2, h3⟩ => by
  by_cases e : y = x
  · exact Or.inr ⟨e, h1⟩
  · rw [zu_ne e] at h3; exact Or.inl ⟨h1, h2, h3⟩
theorem mkT_hi {SE : Int → Int} {sta q x : Int} (hx : 1024 ≤ x) : ∀ y p, mkT (zu SE x sta) sta q y p → mkT SE sta q y p := fun y p ⟨h1, h2, h3⟩ => by
  rw [zu_ne (by omega)] at h3
  exact ⟨h1, h2, h3⟩
theorem mkT_new {SE : Int → Int} {sta q : Int} (h : ∀ i : Int, 0 ≤ i → i < 2048 → ¬ SE i = sta) : ∀ y p, ¬ mkT SE sta q y p := fun y p ⟨_, h2, h3⟩ => h y h2.1 (by omega) h3
/-! how many entries a row can have -/
def rkE (K : Int → Int) (cnt e : Int) : Prop := e % 1024 < cnt ∧ ((e < 1024 ∧ (K (e % 1024) ≤ 2 ∨ K (e % 1024) = 8)) ∨ (1024 ≤ e ∧ K (e % 1024) ≤ 2))
noncomputable def rkN (K : Int → Int) (cnt : Int) (P : Int → Prop) : Nat → Int
  | 0 => 0
  | k + 1 => rkN K cnt P k + @ite _ (rkE K cnt (k : Int) ∧ P (k : Int)) (Classical.propDecidable _) 1 0
section Rk
variable {K : Int → Int} {cnt e sta : Int} {P : Int → Prop} {SE : Int → Int}
theorem rkN_1 (m : Nat) : rkN K cnt P (m + 1) = rkN K cnt P m + @ite _ (rkE K cnt (m : Int) ∧ P (m : Int)) (Classical.propDecidable _) 1 0 := rfl
theorem rkN_lt (he : rkE K cnt e) (hn : ¬ P e) (h0 : 0 ≤ e) : ∀ m : Nat, rkN K cnt P m ≤ rkN K cnt (fun _ => True) m ∧ (e < (m : Int) → rkN K cnt P m + 1 ≤ rkN K cnt (fun _ => True) m) := by
  intro m
  induction m with
  | zero => exact ⟨Int.le_refl _, fun q => by omega⟩
  | succ m ih =>
    rw [rkN_1, rkN_1]
    by_cases r : rkE K cnt (m : Int)
    · rw [if_pos (show rkE K cnt (m : Int) ∧ True from ⟨r, trivial⟩)]
      by_cases p : P (m : Int)
      · rw [if_pos ⟨r, p⟩]
        refine ⟨by omega, fun q => ?_⟩
        by_cases d : e = (m : Int)
        · rw [← d] at p; exact absurd p hn
        · have := ih.2 (by omega); omega
      · rw [if_neg (fun z => p z.2)]
        exact ⟨by omega, fun q => by omega⟩
    · rw [if_neg (fun z => r z.1), if_neg (fun z => r z.1)]
      refine ⟨by omega, fun q => ?_⟩
      by_cases d : e = (m : Int)
      · rw [d] at he; exact absurd he r
      · have := ih.2 (by omega); omega
theorem rkN_zu (he : rkE K cnt e) (hn : ¬ SE e = sta) (h0 : 0 ≤ e) : ∀ m : Nat, rkN K cnt (fun i => zu SE e sta i = sta) m = rkN K cnt (fun i => SE i = sta) m + (if e < (m : Int) then 1 else 0) := by
  intro m
  induction m with
  | zero => rw [if_neg (by omega)]; rfl
  | succ m ih =>
    rw [rkN_1, rkN_1, ih]
    by_cases d : e = (m : Int)
    · have a1 : @ite Int (rkE K cnt (m : Int) ∧ zu SE e sta (m : Int) = sta) (Classical.propDecidable _) 1 0 = 1 := by
        rw [← d, zu_self]; exact if_pos ⟨he, rfl⟩
      have a2 : @ite Int (rkE K cnt (m : Int) ∧ SE (m : Int) = sta) (Classical.propDecidable _) 1 0 = 0 := by
        rw [← d]; exact if_neg (fun z => hn z.2)
      rw [a1, a2, if_neg (show ¬ e < (m : Int) by omega), if_pos (show e < ((m + 1 : Nat) : Int) by omega)]
    · rw [show zu SE e sta (m : Int) = SE (m : Int) from zu_ne (fun z => d z.symm)]
      by_cases g : e < (m : Int)
      · rw [if_pos g, if_pos (show e < ((m + 1 : Nat) : Int) by omega)]; omega
      · rw [if_neg g, if_neg (show ¬ e < ((m + 1 : Nat) : Int) by omega)]; omega
theorem rkN_no {x : Int} (hx : ¬ rkE K cnt x) : ∀ m : Nat, rkN K cnt (fun i => zu SE x sta i = sta) m = rkN K cnt (fun i => SE i = sta) m := by
  intro m
  induction m with
  | zero => rfl
  | succ m ih =>
    rw [rkN_1, rkN_1, ih]
    by_cases d : x = (m : Int)
    · rw [← d, if_neg (fun z => hx z.1), if_neg (fun z => hx z.1)]
    · rw [show zu SE x sta (m : Int) = SE (m : Int) from zu_ne (fun z => d z.symm)]
theorem rkN_0 (h : ∀ i : Int, 0 ≤ i → i < 2048 → ¬ SE i = sta) : ∀ m : Nat, m ≤ 2048 → rkN K cnt (fun i => SE i = sta) m = 0 := by
  intro m
  induction m with
  | zero => intro _; rfl
  | succ m ih =>
    intro q
    rw [rkN_1, ih (by omega), if_neg (fun z => h (m : Int) (by omega) (by omega) z.2)]
    rfl
/-- the most there can be -/
theorem rkN_T1 (hk : ∀ x : Int, 2 ≤ x → x < cnt → ¬ K x = 8) (h0 : K 0 = 9) (hc : 0 ≤ cnt ∧ cnt ≤ 1024) : ∀ m : Nat, m ≤ 1024 → rkN K cnt (fun _ => True) m ≤ tkN K (min m cnt.toNat) + (if m ≤ 1 then 0 else 1) := by
  intro m
  induction m with
  | zero => intro _; rw [show min 0 cnt.toNat = 0 by omega, if_pos (by omega)]; exact Int.le_refl _
  | succ m ih =>
    intro q
    have i := ih (by omega)
    have em : (m : Int) % 1024 = (m : Int) := by omega
    rw [rkN_1]
    by_cases r : rkE K cnt (m : Int)
    · rw [if_pos ⟨r, trivial⟩]
      obtain ⟨r1, r2⟩ := r
      rw [em] at r1 r2
      have e1 : min (m + 1) cnt.toNat = m + 1 := by omega
      have e2 : min m cnt.toNat = m := by omega
      rw [e1, tkN_1]
      rw [e2] at i
      have kk : K (m : Int) ≤ 2 ∨ K (m : Int) = 8 := by
        rcases r2 with ⟨_, z⟩ | ⟨z, _⟩
        · exact z
        · omega
      rcases kk with k | k
      · rw [if_pos k]
        by_cases c1 : m ≤ 1
        · rw [if_pos c1] at i
          split <;> omega
        · rw [if_neg c1] at i
          rw [if_neg (by omega)]
          omega
      · rw [if_neg (by omega)]
        have m1 : m = 1 := by
          by_cases z : 2 ≤ m
          · exact absurd k (hk (m : Int) (by omega) r1)
          · by_cases z0 : m = 0
            · rw [z0] at k; exact absurd (show K 0 = 8 from k) (by omega)
            · omega
        rw [m1] at i ⊢
        rw [if_pos (by omega)] at i
        rw [if_neg (by omega)]
        omega
    · rw [if_neg (fun z => r z.1)]
      have mono : tkN K (min m cnt.toNat) ≤ tkN K (min (m + 1) cnt.toNat) := by
        by_cases c : m < cnt.toNat
        · rw [show min m cnt.toNat = m by omega, show min (m + 1) cnt.toNat = m + 1 by omega, tkN_1]
          split <;> omega
        · rw [show min m cnt.toNat = cnt.toNat by omega, show min (m + 1) cnt.toNat = cnt.toNat by omega]
          exact Int.le_refl _
      by_cases c1 : m ≤ 1
      · rw [if_pos c1] at i
        split <;> omega
      · rw [if_neg c1] at i
        rw [if_neg (by omega)]
        omega
theorem rkN_T2 (hc : 0 ≤ cnt ∧ cnt ≤ 1024) : ∀ m : Nat, m ≤ 1024 → rkN K cnt (fun _ => True) (1024 + m) ≤ rkN K cnt (fun _ => True) 1024 + tkN K (min m cnt.toNat) := by
  intro m
  induction m with
  | zero => intro _; rw [show min 0 cnt.toNat = 0 by omega]; show rkN K cnt (fun _ => True) 1024 ≤ rkN K cnt (fun _ => True) 1024 + 0; omega
  | succ m ih =>
    intro q
    have i := ih (by omega)
    have em : ((1024 + m : Nat) : Int) % 1024 = (m : Int) := by omega
    rw [show 1024 + (m + 1) = 1024 + m + 1 by omega, rkN_1]
    by_cases r : rkE K cnt ((1024 + m : Nat) : Int)
    · rw [if_pos ⟨r, trivial⟩]
      obtain ⟨r1, r2⟩ := r
      rw [em] at r1 r2
      have k : K (m : Int) ≤ 2 := by
        rcases r2 with ⟨z, _⟩ | ⟨_, z⟩
        · omega
        · exact z
      rw [show min m cnt.toNat = m by omega] at i
      rw [show min (m + 1) cnt.toNat = m + 1 by omega, tkN_1, if_pos k]
      omega
    · rw [if_neg (fun z => r z.1)]
      by_cases c : m < cnt.toNat
      · rw [show min m cnt.toNat = m by omega] at i
        rw [show min (m + 1) cnt.toNat = m + 1 by omega, tkN_1]
        split <;> omega
      · rw [show min m cnt.toNat = cnt.toNat by omega] at i
        rw [show min (m + 1) cnt.toNat = cnt.toNat by omega]
        omega
theorem rk_lt (hk : ∀ x : Int, 2 ≤ x → x < cnt → ¬ K x = 8) (h0 : K 0 = 9) (hc : 0 ≤ cnt ∧ cnt ≤ 1024) (ht : tkn K cnt ≤ 400) (he : rkE K cnt e) (hb : 0 ≤ e ∧ e < 2048) (hn : ¬ SE e = sta) : rkN K cnt (fun i => SE i = sta) 2048 ≤ 800 := by
  have a := (rkN_lt (P := fun i => SE i = sta) he hn hb.1 2048).2 (by omega)
  have b := rkN_T1 hk h0 hc 1024 (Nat.le_refl _)
  have c := rkN_T2 (K := K) hc 1024 (Nat.le_refl _)
  rw [show min 1024 cnt.toNat = cnt.toNat by omega] at b c
  rw [if_neg (by omega)] at b
  unfold tkn at ht
  have e2 : (1024 + 1024 : Nat) = 2048 := rfl
  rw [e2] at c
  omega
end Rk
/-! the row by its entries: none twice, begins in order, what waits is there, and how many there are -/
def roQ (K : Int → Int) (cnt : Int) (Rs : Int → Int) (n q wi st : Int) (SE : Int → Int) (sta : Int) (TN TS : Int → Int) (tc : Int) : Prop := (0 ≤ tc ∧ tc = rkN K cnt (fun i => SE i = sta) 2048) ∧ (∀ j : Int, 0 ≤ j → j < tc → SE (TN j) = sta ∧ TS (j * wi) ≤ st ∧ (1024 ≤ TN j → 1 ≤ Rs q ∧ q < n)) ∧ (∀ j k : Int, 0 ≤ j → j < k → k < tc → ¬ TN j = TN k ∧ TS (j * wi) ≤ TS (k * wi)) ∧ ∀ e : Int, 1024 ≤ e → e < 2048 → SE e = sta → ∃ j : Int, (0 ≤ j ∧ j < tc) ∧ TN j = e
/-- what is left of it when it runs -/
def roW (Rs : Int → Int) (n q wi st : Int) (TN TS : Int → Int) (tc : Int) : Prop := (∀ j : Int, 0 ≤ j → j < tc → TS (j * wi) ≤ st ∧ (1024 ≤ TN j → 1 ≤ Rs q ∧ q < n)) ∧ ∀ j k : Int, 0 ≤ j → j < k → k < tc → ¬ TN j = TN k ∧ TS (j * wi) ≤ TS (k * wi)
/-- what put does where it puts -/
def ptR (SE TN TS : Int → Int) (tc e : Int) (WK : Int → Int) (wi sta : Int) (SE2 TN2 TS2 : Int → Int) : Prop := ¬ SE e = sta ∧ SE2 = zu SE e sta ∧ TN2 = zu TN tc e ∧ TS2 = zcpy WK TS 0 (tc * wi) wi
/-- what counts of a program's kinds -/
def kkF (K : Int → Int) (cnt : Int) : Prop := (∀ x : Int, 2 ≤ x → x < cnt → ¬ K x = 8) ∧ K 0 = 9 ∧ (0 ≤ cnt ∧ cnt ≤ 1024) ∧ tkn K cnt ≤ 400
theorem mul_row {j t wi : Int} (h : j < t) (h0 : 0 ≤ j) (hw : 1 ≤ wi) : 0 ≤ j * wi ∧ j * wi < t * wi := by
  have a := Int.mul_le_mul_of_nonneg_right (show j + 1 ≤ t by omega) (show 0 ≤ wi by omega)
  rw [Int.add_mul, Int.one_mul] at a
  exact ⟨Int.mul_nonneg h0 (by omega), by omega⟩
section RoQ
variable {K Rs : Int → Int} {cnt n q wi st s2 : Int} {SE SE2 : Int → Int} {sta : Int} {TN TS TN2 TS2 WK : Int → Int} {tc x e : Int}
theorem ptR.a (h : ptR SE TN TS tc x WK wi sta SE2 TN2 TS2) (h0 : 0 ≤ tc) (hw2 : 2 ≤ wi) : (∀ i : Int, 0 ≤ i → i < tc → TN2 i = TN i) ∧ TN2 tc = x ∧ (∀ i : Int, 0 ≤ i → i < tc * wi → TS2 i = TS i) ∧ ∀ i : Int, 0 ≤ i → i < wi → TS2 (tc * wi + i) = WK i := by
  obtain ⟨_, _, e2, e3⟩ := h
  rw [e2, e3]
  refine ⟨fun i a b => zu_ne (by omega), zu_self _ _ _, fun i a b => zcpy_out (by omega), fun i a b => ?_⟩
  rw [zcpy_in (by omega), show 0 + (tc * wi + i - tc * wi) = i by omega]
theorem roQ.w (h : roQ K cnt Rs n q wi st SE sta TN TS tc) : roW Rs n q wi st TN TS tc := ⟨fun j a b => (h.2.1 j a b).2, h.2.2.1⟩
theorem roQ.up (h : roQ K cnt Rs n q wi st SE sta TN TS tc) (hs : st ≤ s2) : roQ K cnt Rs n q wi s2 SE sta TN TS tc := ⟨h.1, fun j a b => by
  have t := h.2.1 j a b
  exact ⟨t.1, by omega, t.2.2⟩, h.2.2⟩
theorem roQ_0 (h : ∀ i : Int, 0 ≤ i → i < 2048 → ¬ SE i = sta) : roQ K cnt Rs n q wi st SE sta TN TS 0 := ⟨⟨Int.le_refl _, (rkN_0 h 2048 (Nat.le_refl _)).symm⟩, fun j a b => by omega, fun j k a b c => by omega, fun e a b c => absurd c (h e (by omega) b)⟩
theorem zu_st {i : Int} (h : SE i = sta) : zu SE x sta i = sta := by
  by_cases e : i = x
  · rw [e, zu_self]
  · rw [zu_ne e]; exact h
theorem roQ.put (h : roQ K cnt Rs n q wi st SE sta TN TS tc) (p : ptR SE TN TS tc x WK wi sta SE2 TN2 TS2) (hk : WK 0 = s2) (hs : st ≤ s2) (he : rkE K cnt x) (hx : 0 ≤ x ∧ x < 2048) (hf : 1024 ≤ x → 1 ≤ Rs q ∧ q < n) (hw : 2 ≤ wi) : roQ K cnt Rs n q wi s2 SE2 sta TN2 TS2 (tc + 1) := by
  obtain ⟨⟨h0, h1⟩, h2, h3, h4⟩ := h
  obtain ⟨a1, a2, a3, a4⟩ := p.a h0 hw
  obtain ⟨pn, e1, _, _⟩ := p
  have tj : ∀ j : Int, 0 ≤ j → j < tc → TS2 (j * wi) = TS (j * wi) := fun j j0 j1 => by
    obtain ⟨m1, m2⟩ := mul_row j1 j0 (show 1 ≤ wi by omega)
    exact a3 _ m1 m2
  have tt : TS2 (tc * wi) = s2 := by
    have := a4 0 (by omega) (by omega)
    rw [Int.add_zero] at this
    rw [this, hk]
  refine ⟨⟨by omega, ?_⟩, fun j j0 j1 => ?_, fun j k j0 jk k1 => ?_, fun e e0 e3 e4 => ?_⟩
  · have r := rkN_zu (K := K) (cnt := cnt) he pn hx.1 2048
    rw [if_pos (by omega)] at r
    rw [e1, r]
    omega
  · by_cases c : j = tc
    · rw [c, a2, e1, zu_self, tt]
      exact ⟨rfl, Int.le_refl _, hf⟩
    · have t := h2 j j0 (by omega)
      rw [a1 j j0 (by omega), tj j j0 (by omega), e1]
      exact ⟨zu_st t.1, by omega, t.2.2⟩
  · have t := h2 j j0 (by omega)
    rw [a1 j j0 (by omega), tj j j0 (by omega)]
    by_cases c : k = tc
    · rw [c, a2, tt]
      exact ⟨fun z => pn (by rw [← z]; exact t.1), by omega⟩
    · rw [a1 k (by omega) (by omega), tj k (by omega) (by omega)]
      exact h3 j k j0 jk (by omega)
  · rw [e1] at e4
    by_cases c : e = x
    · exact ⟨tc, by omega, by rw [a2, c]⟩
    · rw [zu_ne c] at e4
      obtain ⟨j, j1, j2⟩ := h4 e e0 e3 e4
      exact ⟨j, by omega, by rw [a1 j j1.1 j1.2]; exact j2⟩
theorem rkE_no (h : K x = 3 ∨ K x = 6 ∨ K x = 7 ∨ K x = 9) (hx : 0 ≤ x ∧ x < 1024) : ¬ rkE K cnt x := fun ⟨_, z⟩ => by
  rw [show x % 1024 = x by omega] at z
  omega
theorem rkE_a (h : K x ≤ 2 ∨ K x = 8) (hx : 0 ≤ x ∧ x < 1024) (hc : x < cnt) : rkE K cnt x := by
  refine ⟨by omega, Or.inl ⟨hx.2, ?_⟩⟩
  rw [show x % 1024 = x by omega]
  exact h
theorem rkE_w (h : K x ≤ 2) (hx : 0 ≤ x ∧ x < 1024) (hc : x < cnt) : rkE K cnt (x + 1024) := by
  refine ⟨by omega, Or.inr ⟨by omega, ?_⟩⟩
  rw [show (x + 1024) % 1024 = x by omega]
  exact h
theorem roQ.mark (h : roQ K cnt Rs n q wi st SE sta TN TS tc) (hr : ¬ rkE K cnt x) (hx : x < 1024) : roQ K cnt Rs n q wi st (zu SE x sta) sta TN TS tc := by
  obtain ⟨⟨h0, h1⟩, h2, h3, h4⟩ := h
  refine ⟨⟨h0, by rw [rkN_no hr 2048]; exact h1⟩, fun j a b => ?_, h3, fun e a b c => ?_⟩
  · have t := h2 j a b
    exact ⟨zu_st t.1, t.2⟩
  · rw [zu_ne (by omega)] at c
    exact h4 e a b c
theorem roQ.room (h : roQ K cnt Rs n q wi st SE sta TN TS tc) (hk : kkF K cnt) (he : rkE K cnt e) (hb : 0 ≤ e ∧ e < 2048) (hn : ¬ SE e = sta) : tc ≤ 800 := by
  rw [h.1.2]
  exact rk_lt hk.1 hk.2.1 hk.2.2.1 hk.2.2.2 he hb hn
end RoQ
def THW (K N O RR : Int → Int) (cnt : Int) (f : Int → Int) (n fy hw wi st q : Int) (Rs SE : Int → Int) (sta : Int) (SK : Int → Int) (dp : Int) (WK TN TS : Int → Int) (tc x : Int) (M : List Tw) : Prop := thW (tgC K) N O (phas K O RR) f n fy hw wi st q Rs (mkT SE sta q) SK dp WK TN TS tc x M ∧ roQ K cnt Rs n q wi st SE sta TN TS tc
def THY (K N O RR : Int → Int) (cnt : Int) (f : Int → Int) (n fy hw wi st q : Int) (Rs SE : Int → Int) (sta : Int) (SK : Int → Int) (dp : Int) (WK TN TS : Int → Int) (tc : Int) (M : List Tw) : Prop := thY (tgC K) N O (phas K O RR) f n fy hw wi st q Rs (mkT SE sta q) SK dp WK TN TS tc M ∧ roQ K cnt Rs n q wi st SE sta TN TS tc
def THF (K N O RR : Int → Int) (cnt : Int) (f : Int → Int) (n fy hw wi st q : Int) (Rs SE : Int → Int) (sta : Int) (TN TS : Int → Int) (tc : Int) (M : List Tw) : Prop := thF (tgC K) N O (phas K O RR) f n fy hw wi st q Rs (mkT SE sta q) TN TS tc M ∧ roQ K cnt Rs n q wi st SE sta TN TS tc
section Tw
variable {K N O RR f : Int → Int} {cnt n fy hw wi st q : Int} {Rs SE SE2 : Int → Int} {sta : Int} {SK : Int → Int} {dp d1 : Int} {WK TN TS TN2 TS2 : Int → Int} {tc x : Int} {M : List Tw}
theorem tw_dead (h : THW K N O RR cnt f n fy hw wi st q Rs SE sta SK dp WK TN TS tc x M) (hx : SE x = sta) (hb : 0 ≤ x ∧ x < 1024) : THY K N O RR cnt f n fy hw wi st q Rs SE sta SK dp WK TN TS tc M := ⟨h.1.dead ⟨rfl, hb, hx⟩, h.2⟩
theorem tw_room (h : THW K N O RR cnt f n fy hw wi st q Rs SE sta SK dp WK TN TS tc x M) (hk : kkF K cnt) (hx : 0 ≤ x ∧ x < 1024 ∧ x < cnt) (hs : ¬ SE x = sta) (k : K x ≤ 2 ∨ K x = 8) : tc ≤ 800 := h.2.room hk (rkE_a k (by omega) hx.2.2) (by omega) hs
theorem tw_put (h : THW K N O RR cnt f n fy hw wi st q Rs SE sta SK dp WK TN TS tc x M) (p : ptR SE TN TS tc x WK wi sta SE2 TN2 TS2) (hx : 0 ≤ x ∧ x < 1024 ∧ x < cnt) (k : K x ≤ 2 ∨ K x = 8) (hw2 : 2 ≤ wi) : THY K N O RR cnt f n fy hw wi st q Rs SE2 sta SK dp WK TN2 TS2 (tc + 1) M := by
  obtain ⟨a1, a2, a3, a4⟩ := p.a h.2.1.1 hw2
  have k0 : WK 0 = st := by
    obtain ⟨_, _, _, _, k, _⟩ := h.1
    exact k.2
  exact ⟨h.1.put (fun y z hm => mkT_zu y z (by rw [← p.2.1]; exact hm)) hx.2.1 a1 a2 a3 a4 hw2, h.2.put p k0 (Int.le_refl _) (rkE_a k (by omega) hx.2.2) (by omega) (fun z => by omega) hw2⟩
theorem tw_no (h : THW K N O RR cnt f n fy hw wi st q Rs SE sta SK dp WK TN TS tc x M) (hk : K x = 9 ∨ (K x = 3 ∧ ¬ hld f n q (O x))) (hx : 0 ≤ x ∧ x < 1024) : THY K N O RR cnt f n fy hw wi st q Rs (zu SE x sta) sta SK dp WK TN TS tc M := ⟨h.1.no mkT_zu (fun g L hL => by
  rcases hk with k | ⟨k, a⟩
  · exact ww_i6 (tgq_6 k) hL
  · exact ww_i2n (tgq_2 k) a hL), h.2.mark (rkE_no (by rcases hk with k | ⟨k, _⟩ <;> omega) hx) hx.2⟩
theorem tw_ask (h : THW K N O RR cnt f n fy hw wi st q Rs SE sta SK dp WK TN TS tc x M) (k : K x = 3) (a : hld f n q (O x)) (hx : 0 ≤ x ∧ x < 1024) : THW K N O RR cnt f n fy hw wi st q Rs (zu SE x sta) sta SK dp WK TN TS tc (N x) M := ⟨h.1.go mkT_zu (Or.inr (Or.inr (Or.inl ⟨tgq_2 k, a, rfl, rfl⟩))) (fun g L hL => ww_i2 (tgq_2 k) a hL), h.2.mark (rkE_no (by omega) hx) hx.2⟩
theorem tw_split (h : THW K N O RR cnt f n fy hw wi st q Rs SE sta SK dp WK TN TS tc x M) (k : K x = 6) (hb : 0 ≤ O x ∧ O x < 1024 ∧ 0 ≤ q) (hx : 0 ≤ x ∧ x < 1024) : THW K N O RR cnt f n fy hw wi st q Rs (zu SE x sta) sta (zu SK dp (O x)) (dp + 1) WK TN TS tc (N x) M := ⟨h.1.split mkT_zu (tgq_3 k) (fun i a b => zu_ne (by omega)) (zu_self _ _ _) hb, h.2.mark (rkE_no (by omega) hx) hx.2⟩
theorem tw_save (h : THW K N O RR cnt f n fy hw wi st q Rs SE sta SK dp WK TN TS tc x M) (k : K x = 7) (hb : 2 ≤ O x ∧ O x < wi ∧ wi ≤ 20) (hk : -1 ≤ WK (O x) ∧ WK (O x) ≤ 2000) (hx : 0 ≤ x ∧ x < 1024) : THW K N O RR cnt f n fy hw wi st q Rs (zu SE x sta) sta (zu SK dp (-1 - (O x * 4096 + (WK (O x) + 1)))) (dp + 1) (zu WK (O x) q) TN TS tc (N x) M := ⟨h.1.save mkT_zu (tgq_4 k) (fun i a b => zu_ne (by omega)) (zu_self _ _ _) hb hk, h.2.mark (rkE_no (by omega) hx) hx.2⟩
theorem ty_pop (h : THY K N O RR cnt f n fy hw wi st q Rs SE sta SK dp WK TN TS tc M) (e : d1 = dp - 1) (h1 : 1 ≤ dp) (hs : 0 ≤ SK d1 ∧ SK d1 < 1024) (hq : 0 ≤ q) : THW K N O RR cnt f n fy hw wi st q Rs SE sta SK d1 WK TN TS tc (SK d1) M := by
  rw [e] at hs ⊢
  exact ⟨h.1.pop h1 hs hq, h.2⟩
theorem ty_undo (h : THY K N O RR cnt f n fy hw wi st q Rs SE sta SK dp WK TN TS tc M) (e : d1 = dp - 1) (h1 : 1 ≤ dp) (hs : SK d1 < 0) (hv : 2 ≤ (-1 - SK d1) / 4096) : THY K N O RR cnt f n fy hw wi st q Rs SE sta SK d1 (zu WK ((-1 - SK d1) / 4096) ((-1 - SK d1) % 4096 - 1)) TN TS tc M := by
  rw [e] at hs hv ⊢
  exact ⟨h.1.undo h1 hs hv, h.2⟩
/-- follow begins -/
theorem ty_new {g : Gr} {L : List (Int × Gr)} {s0 : Int} (h : THF K N O RR cnt f n fy hw wi s0 q Rs SE sta TN TS tc M) (hs : s0 ≤ st) (hg : gA WK g wi) (hg0 : WK 0 = st) (hx : 0 ≤ x ∧ x < 1024 ∧ 0 ≤ q) (hL : WW (tgC K) N O (phas K O RR) f n x q g L) : THY K N O RR cnt f n fy hw wi st q Rs SE sta (zu SK 0 x) 1 WK TN TS tc (M ++ tgT st L) := ⟨thY_new h.1 hs hg hg0 (zu_self _ _ _) hx hL, h.2.up hs⟩
/-- follow ends -/
theorem ty_fin (h : THY K N O RR cnt f n fy hw wi st q Rs SE sta SK dp WK TN TS tc M) (hd : dp = 0) : THF K N O RR cnt f n fy hw wi st q Rs SE sta TN TS tc M := ⟨h.1.fin hd, h.2⟩
end Tw
