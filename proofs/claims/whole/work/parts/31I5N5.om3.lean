/-! which left ends the set of what was taken can have: lows of records, or characters -/
def olow (O RR : Int → Int) (cnt ru x : Int) : Prop := (∃ s : Int, 0 ≤ s ∧ s < cnt ∧ O s = x) ∨ (∃ r w : Int, recok RR ru r ∧ 0 ≤ w ∧ w < RR r ∧ RR (r + 1 + 2 * w) = x)
def olfe (O RR : Int → Int) (cnt ru : Int) (P : Int → Prop) : Prop := ∀ x : Int, P x → ¬ P (x - 1) → olow O RR cnt ru x
theorem olfe_0 {O RR : Int → Int} {cnt ru : Int} : olfe O RR cnt ru (fun _ => False) := fun _ h _ => h.elim
theorem olfe_add {O RR : Int → Int} {cnt ru lo hi : Int} {P P2 : Int → Prop} (h : olfe O RR cnt ru P) (hl : olow O RR cnt ru lo) (h2 : ∀ c : Int, P2 c ↔ P c ∨ (lo ≤ c ∧ c ≤ hi)) : olfe O RR cnt ru P2 := by
  intro x hx hn
  by_cases e : x = lo
  · rw [e]; exact hl
  · rcases (h2 x).mp hx with q | q
    · exact h x q (fun z => hn ((h2 _).mpr (Or.inl z)))
    · exact absurd ((h2 (x - 1)).mpr (Or.inr (by omega))) hn
theorem rchf_two {RR : Int → Int} {a b : Int} : ∀ (k1 k2 : Nat) (x : Int), rchf RR a k1 x → rchf RR b k2 x → a < b → a + 1 + 2 * RR a ≤ b := by
  intro k1
  induction k1 with
  | zero =>
    intro k2 x h1 h2 h3
    have e : x = a := h1
    subst e
    cases k2 with
    | zero => have e2 : x = b := h2; omega
    | succ k2 => exact h2.2.1
  | succ k1 ih =>
    intro k2 x h1 h2 h3
    obtain ⟨q0, q1, q2⟩ := h1
    cases k2 with
    | zero => have e2 : x = b := h2; omega
    | succ k2 => exact ih k2 _ q2 h2.2.2 h3
theorem rch_two {RR : Int → Int} {a b : Int} (h1 : rch RR a) (h2 : rch RR b) (h : a < b) : a + 1 + 2 * RR a ≤ b := by
  obtain ⟨k1, q1⟩ := h1
  obtain ⟨k2, q2⟩ := h2
  exact rchf_two k1 k2 0 q1 q2 h
theorem opig : ∀ (m k : Nat) (x : Nat → Int) (T : Nat → Int → Prop), (∀ j a b, T j a → T j b → a = b) → (∀ i j, i < j → j < k → x i < x j) → (∀ i, i < k → ∃ j, j < m ∧ T j (x i)) → k ≤ m := by
  intro m
  induction m with
  | zero =>
    intro k x T _ _ h
    rcases Nat.eq_zero_or_pos k with e | e
    · omega
    · obtain ⟨j, hj, _⟩ := h 0 e; omega
  | succ m ih =>
    intro k x T hT hm h
    by_cases q : ∃ i, i < k ∧ T m (x i)
    · obtain ⟨i0, hi0, ht⟩ := q
      have := ih (k - 1) (fun i => if i < i0 then x i else x (i + 1)) T hT (fun i j a b => by
        show (if i < i0 then x i else x (i + 1)) < (if j < i0 then x j else x (j + 1))
        by_cases c1 : i < i0
        · rw [if_pos c1]
          by_cases c2 : j < i0
          · rw [if_pos c2]; exact hm _ _ a (by omega)
          · rw [if_neg c2]; exact hm _ _ (by omega) (by omega)
        · rw [if_neg c1, if_neg (by omega)]; exact hm _ _ (by omega) (by omega)) (fun i hi => by
        show ∃ j, j < m ∧ T j (if i < i0 then x i else x (i + 1))
        by_cases c1 : i < i0
        · rw [if_pos c1]
          obtain ⟨j, hj, tj⟩ := h i (by omega)
          refine ⟨j, ?_, tj⟩
          by_cases e : j = m
          · subst e
            have := hT _ _ _ tj ht
            have := hm i i0 c1 hi0
            omega
          · omega
        · rw [if_neg c1]
          obtain ⟨j, hj, tj⟩ := h (i + 1) (by omega)
          refine ⟨j, ?_, tj⟩
          by_cases e : j = m
          · subst e
            have := hT _ _ _ tj ht
            have := hm i0 (i + 1) (by omega) (by omega)
            omega
          · omega)
      omega
    · have := ih k x T hT hm (fun i hi => by
        obtain ⟨j, hj, tj⟩ := h i hi
        refine ⟨j, ?_, tj⟩
        by_cases e : j = m
        · subst e; exact absurd ⟨i, hi, tj⟩ q
        · omega)
      omega
theorem olow_code {O RR : Int → Int} {cnt ru x : Int} (hc : 0 ≤ cnt ∧ cnt ≤ 808) (hr : ru ≤ 50000) (h : olow O RR cnt ru x) : ∃ j : Nat, j < 25808 ∧ (((j : Int) < cnt ∧ x = O j) ∨ (cnt ≤ (j : Int) ∧ ∃ r w : Int, rch RR r ∧ 0 ≤ w ∧ w < RR r ∧ (r + 1 + 2 * w) / 2 = (j : Int) - cnt ∧ x = RR (r + 1 + 2 * w))) := by
  rcases h with ⟨s, s0, s1, s2⟩ | ⟨r, w, hk, w0, w1, w2⟩
  · refine ⟨s.toNat, by omega, Or.inl ⟨by omega, ?_⟩⟩
    rw [show ((s.toNat : Nat) : Int) = s by omega]; exact s2.symm
  · obtain ⟨r0, r1, r2, r3, r4⟩ := hk
    exact ⟨(cnt + (r + 1 + 2 * w) / 2).toNat, by omega, Or.inr ⟨by omega, r, w, r4, w0, w1, by omega, w2.symm⟩⟩
theorem csI.few {o : Nat → Nat} {G : ab_G} {r lr lb n : Nat} {c : Int} {P : Int → Prop} {O RR : Int → Int} {cnt ru : Int} (h : csI o G r lr lb n c P) (hf : olfe O RR cnt ru P) (hc : 0 ≤ cnt ∧ cnt ≤ 808) (hr : ru ≤ 50000) : c ≤ 25808 := by
  obtain ⟨b, f, q1, q2, q3, q4, q5, q6⟩ := h
  have := opig 25808 c.toNat (fun i => f (2 * (i : Int))) (fun j x => ((j : Int) < cnt ∧ x = O j) ∨ (cnt ≤ (j : Int) ∧ ∃ r w : Int, rch RR r ∧ 0 ≤ w ∧ w < RR r ∧ (r + 1 + 2 * w) / 2 = (j : Int) - cnt ∧ x = RR (r + 1 + 2 * w))) (by
    rintro j a b (⟨h1, h2⟩ | ⟨h1, r1, w1, a1, a2, a3, a4, a5⟩) (⟨g1, g2⟩ | ⟨g1, r2, w2, b1, b2, b3, b4, b5⟩)
    · rw [h2, g2]
    · omega
    · omega
    · have e : r1 + 1 + 2 * w1 = r2 + 1 + 2 * w2 := by
        rcases Int.lt_trichotomy r1 r2 with z | z | z
        · have := rch_two a1 b1 z; omega
        · subst z; omega
        · have := rch_two b1 a1 z; omega
      rw [a5, b5, e]) (fun i j a b => by
    have t := cs_lt q3 (i := (i : Int)) (j := (j : Int)) (by omega) (by omega) (by omega)
    have t2 := (q3 i (by omega) (by omega)).2.1
    show f (2 * (i : Int)) < f (2 * (j : Int))
    omega) (fun i hi => by
    refine olow_code hc hr (hf _ ((q4 _).mpr ⟨i, by omega, by omega, Int.le_refl _, (q3 i (by omega) (by omega)).2.1⟩) (fun z => ?_))
    obtain ⟨j, j0, j1, j2, j3⟩ := (q4 _).mp z
    rcases Int.lt_trichotomy (i : Int) j with y | y | y
    · have := cs_lt q3 (by omega) y j1
      have := (q3 i (by omega) (by omega)).2.1
      omega
    · subst y; omega
    · have := cs_lt q3 j0 y (by omega)
      omega)
  omega
/-! how many states of a kind were seen from here -/
def oc (SE K : Int → Int) (b : Int) (t : Int → Bool) : Nat → Int
  | 0 => 0
  | n + 1 => oc SE K b t n + if SE (n : Int) = b ∧ t (K (n : Int)) = true then 1 else 0
def t6 (k : Int) : Bool := decide (k = 6)
def t37 (k : Int) : Bool := decide (k = 3 ∨ k = 7)
theorem oc_0 {SE K : Int → Int} {b : Int} {t : Int → Bool} : ∀ n : Nat, (∀ s : Int, 0 ≤ s → s < (n : Int) → ¬ SE s = b) → oc SE K b t n = 0 := by
  intro n
  induction n with
  | zero => intro _; rfl
  | succ n ih =>
    intro h
    unfold oc
    rw [ih (fun s a b => h s a (by omega)), if_neg (fun q => h n (by omega) (by omega) q.1)]
    rfl
theorem oc_nn {SE K : Int → Int} {b : Int} {t : Int → Bool} : ∀ n : Nat, 0 ≤ oc SE K b t n := by
  intro n
  induction n with
  | zero => exact Int.le_refl _
  | succ n ih => unfold oc; split <;> omega
theorem oc_ext {SE S2 K : Int → Int} {b : Int} {t : Int → Bool} : ∀ n : Nat, (∀ s : Int, 0 ≤ s → s < (n : Int) → (S2 s = b ∧ t (K s) = true ↔ SE s = b ∧ t (K s) = true)) → oc S2 K b t n = oc SE K b t n := by
  intro n
  induction n with
  | zero => intro _; rfl
  | succ n ih =>
    intro h
    unfold oc
    rw [ih (fun s a b => h s a (by omega))]
    have := h n (by omega) (by omega)
    congr 1
    by_cases q : SE (n : Int) = b ∧ t (K (n : Int)) = true
    · rw [if_pos q, if_pos (this.mpr q)]
    · rw [if_neg q, if_neg (fun z => q (this.mp z))]
theorem oc_no {SE K : Int → Int} {b x : Int} {t : Int → Bool} (n : Nat) (h : t (K x) = false) : oc (zu SE x b) K b t n = oc SE K b t n := oc_ext n (fun s _ _ => by
  by_cases e : s = x
  · subst e; rw [h]; simp
  · rw [zu_ne e])
theorem oc_s {SE K : Int → Int} {b x : Int} {t : Int → Bool} (hx : ¬ SE x = b) (h : t (K x) = true) (h0 : 0 ≤ x) : ∀ n : Nat, x < (n : Int) → oc (zu SE x b) K b t n = oc SE K b t n + 1 := by
  intro n
  induction n with
  | zero => intro q; omega
  | succ n ih =>
    intro q
    unfold oc
    by_cases e : x = (n : Int)
    · rw [oc_ext (SE := SE) n (fun s a b => by rw [zu_ne (by omega)]), ← e, zu_self, if_pos ⟨rfl, h⟩, if_neg (fun z => hx z.1)]; omega
    · rw [ih (by omega), zu_ne (fun z => e z.symm)]; omega
theorem oc_two {SE K : Int → Int} {b : Int} (h : K 0 = 9) : ∀ n : Nat, 1 ≤ n → oc SE K b t6 n + oc SE K b t37 n ≤ (n : Int) - 1 := by
  intro n
  induction n with
  | zero => intro q; omega
  | succ n ih =>
    intro _
    by_cases e : n = 0
    · subst e
      show (0 : Int) + (if SE ((0 : Nat) : Int) = b ∧ t6 (K ((0 : Nat) : Int)) = true then (1 : Int) else 0) + (0 + if SE ((0 : Nat) : Int) = b ∧ t37 (K ((0 : Nat) : Int)) = true then (1 : Int) else 0) ≤ _
      have e0 : K ((0 : Nat) : Int) = 9 := h
      rw [e0, if_neg (fun z => absurd z.2 (by decide)), if_neg (fun z => absurd z.2 (by decide))]
      decide
    · have := ih (by omega)
      unfold oc
      by_cases a : t6 (K (n : Int)) = true
      · have a2 : ¬ t37 (K (n : Int)) = true := by
          unfold t6 at a; unfold t37
          rw [decide_eq_true_iff] at a ⊢; omega
        have e2 : (if SE (n : Int) = b ∧ t37 (K (n : Int)) = true then (1 : Int) else 0) = 0 := if_neg (fun z => a2 z.2)
        rw [e2]
        split <;> omega
      · have e2 : (if SE (n : Int) = b ∧ t6 (K (n : Int)) = true then (1 : Int) else 0) = 0 := if_neg (fun z => a z.2)
        rw [e2]
        split <;> omega
/-! what a search from a state says of the weights: whoever waits weighs what one likes -/
def oz (SE : Int → Int) (b cnt s : Int) : Prop := 0 ≤ s ∧ s < cnt ∧ SE s = b
def oon2 (SK : Int → Int) (dp s : Int) : Prop := ∃ k : Int, 0 ≤ k ∧ k < dp ∧ SK k = s
def ogood (K SE SK : Int → Int) (b cnt dp : Int) : Prop := ∀ k : Int, 0 ≤ k → k < dp → (K (SK k) = 9 ∨ ¬ oz SE b cnt (SK k)) ∧ ∀ j : Int, 0 ≤ j → j < k → K (SK k) = 9 ∨ ¬ SK j = SK k
def oeq (K N O w : Int → Int) (s v : Int) : Prop := (K s = 6 → w (N s) + w (O s) ≤ v) ∧ (K s = 7 → w (N s) + 1 ≤ v) ∧ (K s = 3 → w (N s) ≤ v)
def ocl (K N O SE SK : Int → Int) (b cnt dp s : Int) : Prop := (K s = 6 → oz SE b cnt (O s) ∨ oon2 SK dp (O s)) ∧ (K s = 6 ∨ K s = 7 ∨ K s = 3 → oz SE b cnt (N s) ∨ oon2 SK dp (N s))
def oinv (K N O SE SK : Int → Int) (b cnt dp c : Int) : Prop := (∀ k : Int, 0 ≤ k → k < dp → 0 ≤ SK k ∧ SK k < cnt) ∧ (oz SE b cnt b ∨ oon2 SK dp b) ∧ (∀ s : Int, oz SE b cnt s → ocl K N O SE SK b cnt dp s) ∧ (ogood K SE SK b cnt dp → ∀ w0 : Int → Int, (∀ s, 1 ≤ w0 s) → (∀ s, K s = 9 → w0 s = 1) → ∃ w : Int → Int, (∀ s, 1 ≤ w s) ∧ (∀ s, K s = 9 → w s = 1) ∧ (∀ s, ¬ oz SE b cnt s → w s = w0 s) ∧ (∀ s, oz SE b cnt s → oeq K N O w s (w s)) ∧ w b ≤ osum w0 SK dp.toNat + c)
theorem oinv_0 {K N O SE SK : Int → Int} {b cnt : Int} (hb : 0 ≤ b ∧ b < cnt) (hn : ∀ s : Int, 0 ≤ s → s < cnt → ¬ SE s = b) : oinv K N O SE (zu SK 0 b) b cnt 1 0 := by
  have nz : ∀ s, ¬ oz SE b cnt s := fun s q => hn s q.1 q.2.1 q.2.2
  refine ⟨fun k k0 k1 => by rw [show k = 0 by omega, zu_self]; exact hb, Or.inr ⟨0, by omega, by omega, zu_self _ _ _⟩, fun s q => absurd q (nz s), fun _ w0 h1 h9 => ⟨w0, h1, h9, fun s _ => rfl, fun s q => absurd q (nz s), ?_⟩⟩
  have e := osum_s (w := w0) (S := zu SK 0 b) (d := 0) (by omega)
  rw [zu_self, ow_s hb.1] at e
  have e0 : osum w0 (zu SK 0 b) (0 : Int).toNat = 0 := rfl
  rw [e0] at e
  show w0 b ≤ osum w0 (zu SK 0 b) (0 + 1 : Int).toNat + 0
  omega
theorem oinv_end {K N O SE SK : Int → Int} {b cnt c : Int} (h : oinv K N O SE SK b cnt 0 c) (hc : c ≤ 809) : ∃ (w : Int → Int) (V : Int → Prop), oclr K N O w V cnt ∧ V b ∧ w b ≤ 809 := by
  obtain ⟨-, hb, hcl, hw⟩ := h
  have no : ∀ s, ¬ oon2 SK 0 s := fun s ⟨k, k0, k1, _⟩ => by omega
  obtain ⟨w, w1, w9, -, we, wb⟩ := hw (fun k k0 k1 => absurd k1 (by omega)) (fun _ => 1) (fun _ => Int.le_refl _) (fun _ _ => rfl)
  refine ⟨w, oz SE b cnt, fun s q => ⟨⟨q.1, q.2.1, w1 s⟩, fun k => ⟨((hcl s q).2 (Or.inl k)).resolve_right (no _), ((hcl s q).1 k).resolve_right (no _), (we s q).1 k⟩, fun k => ⟨((hcl s q).2 (Or.inr (Or.inl k))).resolve_right (no _), (we s q).2.1 k⟩, fun k => ⟨((hcl s q).2 (Or.inr (Or.inr k))).resolve_right (no _), (we s q).2.2 k⟩⟩, hb.resolve_right (no _), ?_⟩
  have e0 : osum (fun _ => 1) SK (0 : Int).toNat = 0 := rfl
  rw [e0] at wb
  omega
theorem oz_s {SE : Int → Int} {b cnt x s : Int} (hx : 0 ≤ x ∧ x < cnt) : oz (zu SE x b) b cnt s ↔ oz SE b cnt s ∨ s = x := by
  unfold oz
  by_cases e : s = x
  · subst e; rw [zu_self]; exact ⟨fun _ => Or.inr rfl, fun _ => ⟨hx.1, hx.2, rfl⟩⟩
  · rw [zu_ne e]; exact ⟨Or.inl, fun q => q.resolve_right e⟩
theorem oinv_step {K N O SE SK S2 : Int → Int} {b cnt dp c d2 c2 x : Int} (val : (Int → Int) → Int) (h : oinv K N O SE SK b cnt dp c) (hd : 0 < dp) (hx : SK (dp - 1) = x) (hu : K x = 9 ∨ ¬ SE x = b) (hd2 : dp - 1 ≤ d2)
    (hs : ∀ k : Int, 0 ≤ k → k < dp - 1 → S2 k = SK k) (hr : ∀ k : Int, dp - 1 ≤ k → k < d2 → 0 ≤ S2 k ∧ S2 k < cnt)
    (h6 : K x = 6 → oon2 S2 d2 (O x)) (hn : K x = 6 ∨ K x = 7 ∨ K x = 3 → oon2 S2 d2 (N x))
    (hv1 : ∀ w : Int → Int, (∀ s, 1 ≤ w s) → 1 ≤ val w) (hv9 : K x = 9 → ∀ w, val w = 1)
    (hve : ∀ w w0 : Int → Int, (∀ s, 1 ≤ w s) → w (N x) = w0 (N x) ∨ ¬ oon2 S2 d2 (N x) → w (O x) = w0 (O x) ∨ ¬ oon2 S2 d2 (O x) → oeq K N O w x (val w0))
    (hsum : ∀ w : Int → Int, osum w SK (dp - 1).toNat + val w + c ≤ osum w S2 d2.toNat + c2) : oinv K N O (zu SE x b) S2 b cnt d2 c2 := by
  obtain ⟨a1, a2, a3, a4⟩ := h
  have xr : 0 ≤ x ∧ x < cnt := hx ▸ a1 (dp - 1) (by omega) (by omega)
  have up : ∀ s, oz SE b cnt s ∨ oon2 SK dp s → oz (zu SE x b) b cnt s ∨ oon2 S2 d2 s := by
    intro s q
    rcases q with q | ⟨k, k0, k1, k2⟩
    · exact Or.inl ((oz_s xr).mpr (Or.inl q))
    · by_cases e : k = dp - 1
      · subst e; exact Or.inl ((oz_s xr).mpr (Or.inr (k2 ▸ hx)))
      · exact Or.inr ⟨k, k0, by omega, by rw [hs k k0 (by omega)]; exact k2⟩
  refine ⟨fun k k0 k1 => ?_, up b a2, fun s q => ?_, fun hg w0 g1 g9 => ?_⟩
  · by_cases e : k < dp - 1
    · rw [hs k k0 e]; exact a1 k k0 (by omega)
    · exact hr k (by omega) k1
  · by_cases e : s = x
    · subst e
      exact ⟨fun k => Or.inr (h6 k), fun k => Or.inr (hn k)⟩
    · have q2 := ((oz_s xr).mp q).resolve_right e
      obtain ⟨c1, c2⟩ := a3 s q2
      exact ⟨fun k => up _ (c1 k), fun k => up _ (c2 k)⟩
  · have nx : ∀ k : Int, 0 ≤ k → k < dp - 1 → K (SK k) = 9 ∨ (¬ SK k = x ∧ ¬ oz SE b cnt (SK k)) := by
      intro k k0 k1
      have := (hg k k0 (by omega)).1
      rw [hs k k0 k1] at this
      rcases this with t | t
      · exact Or.inl t
      · exact Or.inr ⟨fun z => t ((oz_s xr).mpr (Or.inr z)), fun z => t ((oz_s xr).mpr (Or.inl z))⟩
    have hu2 : K x = 9 ∨ ¬ oz SE b cnt x := hu.imp id (fun z q => z q.2.2)
    have og : ogood K SE SK b cnt dp := by
      intro k k0 k1
      by_cases e : k = dp - 1
      · subst e
        rw [hx]
        refine ⟨hu2, fun j j0 j1 => ?_⟩
        rcases nx j j0 j1 with t | t
        · by_cases z : SK j = x
          · rw [z] at t; exact Or.inl t
          · exact Or.inr z
        · exact Or.inr t.1
      · refine ⟨(nx k k0 (by omega)).imp id (fun z => z.2), fun j j0 j1 => ?_⟩
        have := (hg k k0 (by omega)).2 j j0 j1
        rw [hs k k0 (by omega), hs j j0 (by omega)] at this
        exact this
    obtain ⟨w, w1, w9, wo, we, wb⟩ := a4 og (zu w0 x (val w0)) (fun s => by
      by_cases e : s = x
      · subst e; rw [zu_self]; exact hv1 w0 g1
      · rw [zu_ne e]; exact g1 s) (fun s k => by
      by_cases e : s = x
      · subst e; rw [zu_self]; exact hv9 k w0
      · rw [zu_ne e]; exact g9 s k)
    have wn : ∀ s, oon2 S2 d2 s → w s = w0 s := by
      rintro s ⟨k, k0, k1, k2⟩
      subst k2
      rcases (hg k k0 k1).1 with t | t
      · rw [w9 _ t, g9 _ t]
      · rw [wo _ (fun z => t ((oz_s xr).mpr (Or.inl z))), zu_ne (fun z => t ((oz_s xr).mpr (Or.inr z)))]
    have wx : w x = val w0 := by
      rcases hu2 with t | t
      · rw [w9 x t, hv9 t w0]
      · rw [wo x t, zu_self]
    refine ⟨w, w1, w9, fun s q => ?_, fun s q => ?_, ?_⟩
    · rw [wo s (fun z => q ((oz_s xr).mpr (Or.inl z))), zu_ne (fun z => q ((oz_s xr).mpr (Or.inr z)))]
    · by_cases e : s = x
      · subst e
        rw [wx]
        refine hve w w0 w1 ?_ ?_
        · by_cases z : oon2 S2 d2 (N s)
          · exact Or.inl (wn _ z)
          · exact Or.inr z
        · by_cases z : oon2 S2 d2 (O s)
          · exact Or.inl (wn _ z)
          · exact Or.inr z
      · exact we s (((oz_s xr).mp q).resolve_right e)
    · have e := osum_s (w := zu w0 x (val w0)) (S := SK) (d := dp - 1) (by omega)
      rw [show dp - 1 + 1 = dp by omega, hx, ow_s xr.1, zu_self] at e
      have e2 : ∀ m : Nat, (m : Int) ≤ dp - 1 → osum (zu w0 x (val w0)) SK m = osum w0 SK m := by
        intro m
        induction m with
        | zero => intro _; rfl
        | succ m ih =>
          intro hm
          unfold osum
          rw [ih (by omega)]
          congr 1
          unfold ow
          have := a1 m (by omega) (by omega)
          rw [if_neg (by omega), if_neg (by omega)]
          rcases nx m (by omega) (by omega) with t | t
          · by_cases z : SK (m : Int) = x
            · rw [z, zu_self, hv9 (z ▸ t), g9 x (z ▸ t)]
            · rw [zu_ne z]
          · rw [zu_ne t.1]
      rw [e2 (dp - 1).toNat (by omega)] at e
      have := hsum w0
      omega
theorem oinv_leaf {K N O SE SK : Int → Int} {b cnt dp c x : Int} (h : oinv K N O SE SK b cnt dp c) (hd : 0 < dp) (hx : SK (dp - 1) = x) (hu : K x = 9 ∨ ¬ SE x = b) (hk : ¬ K x = 6 ∧ ¬ K x = 7 ∧ ¬ K x = 3) : oinv K N O (zu SE x b) SK b cnt (dp - 1) (c + 1) :=
  oinv_step (fun _ => 1) h hd hx hu (by omega) (fun _ _ _ => rfl) (fun k a b => by omega) (fun z => absurd z hk.1) (fun z => by omega) (fun _ _ => Int.le_refl _) (fun _ _ => rfl) (fun w w0 _ _ _ => ⟨fun z => absurd z hk.1, fun z => absurd z hk.2.1, fun z => absurd z hk.2.2⟩) (fun w => by omega)
theorem osum_2 {w SK : Int → Int} {d u v : Int} (h : 0 ≤ d) : osum w (zu (zu SK d u) (d + 1) v) (d + 1 + 1).toNat = osum w SK d.toNat + ow w u + ow w v := by
  rw [osum_s (by omega), osum_s h, zu_self, zu_ne (by omega), zu_self, osum_ext (S := SK) _ (fun k k0 k1 => by rw [zu_ne (by omega), zu_ne (by omega)])]
theorem osum_1 {w SK : Int → Int} {d v : Int} (h : 0 ≤ d) : osum w (zu SK d v) (d + 1).toNat = osum w SK d.toNat + ow w v := by
  rw [osum_s h, zu_self, osum_ext (S := SK) _ (fun k k0 k1 => by rw [zu_ne (by omega)])]
theorem oinv_split {K N O SE SK : Int → Int} {b cnt dp c x : Int} (h : oinv K N O SE SK b cnt dp c) (hd : 0 < dp) (hx : SK (dp - 1) = x) (hu : ¬ SE x = b) (hk : K x = 6) (hn : 0 ≤ N x ∧ N x < cnt) (ho : 0 ≤ O x ∧ O x < cnt) : oinv K N O (zu SE x b) (zu (zu SK (dp - 1) (O x)) (dp - 1 + 1) (N x)) b cnt (dp - 1 + 1 + 1) c := by
  have z1 : oon2 (zu (zu SK (dp - 1) (O x)) (dp - 1 + 1) (N x)) (dp - 1 + 1 + 1) (O x) := ⟨dp - 1, by omega, by omega, by rw [zu_ne (by omega), zu_self]⟩
  have z2 : oon2 (zu (zu SK (dp - 1) (O x)) (dp - 1 + 1) (N x)) (dp - 1 + 1 + 1) (N x) := ⟨dp - 1 + 1, by omega, by omega, zu_self _ _ _⟩
  refine oinv_step (fun w => w (N x) + w (O x)) h hd hx (Or.inr hu) (by omega) (fun k k0 k1 => by rw [zu_ne (by omega), zu_ne (by omega)]) (fun k k0 k1 => ?_) (fun _ => z1) (fun _ => z2) (fun w g => by have := g (N x); have := g (O x); omega) (fun z => by omega) (fun w w0 _ q1 q2 => ⟨fun _ => ?_, fun z => by omega, fun z => by omega⟩) (fun w => ?_)
  · by_cases e : k = dp - 1 + 1
    · rw [e, zu_self]; exact hn
    · rw [zu_ne e, show k = dp - 1 by omega, zu_self]; exact ho
  · have e1 := q1.resolve_right (fun z => z z2)
    have e2 := q2.resolve_right (fun z => z z1)
    omega
  · rw [osum_2 (by omega), ow_s hn.1, ow_s ho.1]; omega
theorem oinv_one {K N O SE SK : Int → Int} {b cnt dp c x : Int} (h : oinv K N O SE SK b cnt dp c) (hd : 0 < dp) (hx : SK (dp - 1) = x) (hu : ¬ SE x = b) (hk : K x = 7 ∨ K x = 3) (hn : 0 ≤ N x ∧ N x < cnt) : oinv K N O (zu SE x b) (zu SK (dp - 1) (N x)) b cnt (dp - 1 + 1) (c + 1) := by
  have z2 : oon2 (zu SK (dp - 1) (N x)) (dp - 1 + 1) (N x) := ⟨dp - 1, by omega, by omega, zu_self _ _ _⟩
  refine oinv_step (fun w => w (N x) + 1) h hd hx (Or.inr hu) (by omega) (fun k k0 k1 => zu_ne (by omega)) (fun k k0 k1 => ?_) (fun z => by omega) (fun _ => z2) (fun w g => by have := g (N x); omega) (fun z => by omega) (fun w w0 _ q1 _ => ?_) (fun w => ?_)
  · rw [show k = dp - 1 by omega, zu_self]; exact hn
  · have e1 := q1.resolve_right (fun z => z z2)
    exact ⟨fun z => by omega, fun _ => by omega, fun _ => by omega⟩
  · rw [osum_1 (by omega), ow_s hn.1]; omega
def oc6 (SE K : Int → Int) (b cnt : Int) : Int := oc SE K b t6 cnt.toNat
def oc37 (SE K : Int → Int) (b cnt : Int) : Int := oc SE K b t37 cnt.toNat
def oclear (K N O : Int → Int) (cnt b : Int) : Prop := ∃ (w : Int → Int) (V : Int → Prop), oclr K N O w V cnt ∧ V b ∧ w b ≤ 809
/-- all that a search from b keeps -/
def oI (K N O SE SK : Int → Int) (b cnt dp tu : Int) : Prop := oinv K N O SE SK b cnt dp (1 + oc6 SE K b cnt + oc37 SE K b cnt - dp) ∧ dp ≤ 1 + oc6 SE K b cnt ∧ tu + dp ≤ 1 + 2 * oc6 SE K b cnt + oc37 SE K b cnt
theorem o67 {SE K : Int → Int} {b cnt : Int} (h : K 0 = 9) (hc : 1 ≤ cnt) : oc6 SE K b cnt + oc37 SE K b cnt ≤ cnt - 1 ∧ 0 ≤ oc6 SE K b cnt ∧ 0 ≤ oc37 SE K b cnt := by
  have := oc_two (SE := SE) (b := b) h cnt.toNat (by omega)
  have a := oc_nn (SE := SE) (K := K) (b := b) (t := t6) cnt.toNat
  have b := oc_nn (SE := SE) (K := K) (b := b) (t := t37) cnt.toNat
  unfold oc6 oc37
  omega
theorem oI.b {K N O SE SK : Int → Int} {b cnt dp tu : Int} (h : oI K N O SE SK b cnt dp tu) (h9 : K 0 = 9) (hc : 1 ≤ cnt ∧ cnt ≤ 808) : tu + dp ≤ 1615 ∧ dp ≤ 808 := by
  have a := o67 (SE := SE) (b := b) h9 hc.1
  have b := h.2
  omega
theorem oI.x {K N O SE SK : Int → Int} {b cnt dp tu : Int} (h : oI K N O SE SK b cnt dp tu) (hd : 0 < dp) : 0 ≤ SK (dp - 1) ∧ SK (dp - 1) < cnt := h.1.1 _ (by omega) (by omega)
theorem oI_0 {K N O SE SK : Int → Int} {b cnt : Int} (hb : 0 ≤ b ∧ b < cnt) (hn : ∀ s : Int, 0 ≤ s → s < cnt → ¬ SE s = b) : oI K N O SE (zu SK 0 b) b cnt 1 0 := by
  have e6 : oc6 SE K b cnt = 0 := oc_0 _ (fun s a c => hn s a (by omega))
  have e7 : oc37 SE K b cnt = 0 := oc_0 _ (fun s a c => hn s a (by omega))
  refine ⟨?_, by omega, by omega⟩
  rw [e6, e7]
  exact oinv_0 hb hn
theorem t6_no {k : Int} (h : ¬ k = 6) : t6 k = false := by unfold t6; rw [decide_eq_false_iff_not]; exact h
theorem t37_no {k : Int} (h : ¬ k = 3 ∧ ¬ k = 7) : t37 k = false := by unfold t37; rw [decide_eq_false_iff_not]; omega
theorem oI_leaf {K N O SE SK : Int → Int} {b cnt dp tu x : Int} (h : oI K N O SE SK b cnt dp tu) (hd : 0 < dp) (hx : x = SK (dp - 1)) (hu : K x = 9 ∨ ¬ SE x = b) (hk : ¬ K x = 6 ∧ ¬ K x = 7 ∧ ¬ K x = 3) : oI K N O (zu SE x b) SK b cnt (dp - 1) (tu + 1) := by
  have e6 : oc6 (zu SE x b) K b cnt = oc6 SE K b cnt := oc_no _ (t6_no hk.1)
  have e7 : oc37 (zu SE x b) K b cnt = oc37 SE K b cnt := oc_no _ (t37_no ⟨hk.2.2, hk.2.1⟩)
  obtain ⟨h1, h2⟩ := h
  refine ⟨?_, by omega, by omega⟩
  have := oinv_leaf h1 hd hx.symm hu hk
  rw [e6, e7, show 1 + oc6 SE K b cnt + oc37 SE K b cnt - (dp - 1) = 1 + oc6 SE K b cnt + oc37 SE K b cnt - dp + 1 by omega]
  exact this
theorem oI_split {K N O SE SK : Int → Int} {b cnt dp tu x : Int} (h : oI K N O SE SK b cnt dp tu) (hd : 0 < dp) (hx : x = SK (dp - 1)) (hu : ¬ SE x = b) (hk : K x = 6) (hn : 0 ≤ N x ∧ N x < cnt) (ho : 0 ≤ O x ∧ O x < cnt) : oI K N O (zu SE x b) (zu (zu SK (dp - 1) (O x)) (dp - 1 + 1) (N x)) b cnt (dp - 1 + 1 + 1) (tu + 1) := by
  have xr : 0 ≤ x ∧ x < cnt := hx ▸ h.x hd
  have e6 : oc6 (zu SE x b) K b cnt = oc6 SE K b cnt + 1 := oc_s hu (by rw [hk]; rfl) xr.1 _ (by omega)
  have e7 : oc37 (zu SE x b) K b cnt = oc37 SE K b cnt := oc_no _ (t37_no (by omega))
  obtain ⟨h1, h2⟩ := h
  refine ⟨?_, by omega, by omega⟩
  have := oinv_split h1 hd hx.symm hu hk hn ho
  rw [e6, e7, show 1 + (oc6 SE K b cnt + 1) + oc37 SE K b cnt - (dp - 1 + 1 + 1) = 1 + oc6 SE K b cnt + oc37 SE K b cnt - dp by omega]
  exact this
theorem oI_one {K N O SE SK : Int → Int} {b cnt dp tu x : Int} (h : oI K N O SE SK b cnt dp tu) (hd : 0 < dp) (hx : x = SK (dp - 1)) (hu : ¬ SE x = b) (hk : K x = 7 ∨ K x = 3) (hn : 0 ≤ N x ∧ N x < cnt) : oI K N O (zu SE x b) (zu SK (dp - 1) (N x)) b cnt (dp - 1 + 1) (tu + 1) := by
  have xr : 0 ≤ x ∧ x < cnt := hx ▸ h.x hd
  have e6 : oc6 (zu SE x b) K b cnt = oc6 SE K b cnt := oc_no _ (t6_no (by omega))
  have e7 : oc37 (zu SE x b) K b cnt = oc37 SE K b cnt + 1 := oc_s hu (by unfold t37; rw [decide_eq_true_iff]; omega) xr.1 _ (by omega)
  obtain ⟨h1, h2⟩ := h
  refine ⟨?_, by omega, by omega⟩
  have := oinv_one h1 hd hx.symm hu hk hn
  rw [e6, e7, show 1 + oc6 SE K b cnt + (oc37 SE K b cnt + 1) - (dp - 1 + 1) = 1 + oc6 SE K b cnt + oc37 SE K b cnt - dp + 1 by omega]
  exact this
theorem oI.d6 {K N O SE SK : Int → Int} {b cnt dp tu x : Int} (h : oI K N O SE SK b cnt dp tu) (h9 : K 0 = 9) (hc : 1 ≤ cnt ∧ cnt ≤ 808) (hx : 0 ≤ x ∧ x < cnt) (hu : ¬ SE x = b) (hk : K x = 6) : dp ≤ 807 := by
  have e6 : oc6 (zu SE x b) K b cnt = oc6 SE K b cnt + 1 := oc_s hu (by rw [hk]; rfl) hx.1 _ (by omega)
  have a := o67 (SE := zu SE x b) (b := b) h9 hc.1
  have b := h.2
  omega
theorem oI.fin {K N O SE SK : Int → Int} {b cnt dp tu : Int} (h : oI K N O SE SK b cnt dp tu) (h9 : K 0 = 9) (hc : 1 ≤ cnt ∧ cnt ≤ 808) (hd : dp = 0) : oclear K N O cnt b := by
  subst hd
  have a := o67 (SE := SE) (b := b) h9 hc.1
  exact oinv_end h.1 (by omega)
def onew (SE : Int → Int) (b cnt : Int) : Prop := ∀ s : Int, 0 ≤ s → s < cnt → ¬ SE s = b
def osame (SE S2 : Int → Int) (b : Int) : Prop := ∀ s : Int, S2 s = SE s ∨ S2 s = b
theorem osame_0 {SE : Int → Int} {b : Int} : osame SE SE b := fun _ => Or.inl rfl
theorem osame_s {SE S2 : Int → Int} {b x : Int} (h : osame SE S2 b) : osame SE (zu S2 x b) b := fun s => by
  by_cases e : s = x
  · subst e; rw [zu_self]; exact Or.inr rfl
  · rw [zu_ne e]; exact h s
def oseen (SE CL : Int → Int) (cnt : Int) : Prop := ∀ s : Int, 0 ≤ s → s < cnt → SE s = -1 ∨ (0 ≤ SE s ∧ SE s < cnt ∧ ¬ CL (SE s) = 0)
theorem oseen_0 {CL SE : Int → Int} {cnt : Int} (h : cnt ≤ 808) : oseen (zfill SE 0 808 (-1)) CL cnt := fun s a b => Or.inl (zfill_in (by omega))
theorem oseen_n {SE CL : Int → Int} {b cnt : Int} (h : oseen SE CL cnt) (hb : 0 ≤ b) (hc : CL b = 0) : onew SE b cnt := fun s a c e => by
  rcases h s a c with z | z
  · omega
  · rw [e] at z; exact z.2.2 hc
theorem oseen_s {SE S2 CL : Int → Int} {b cnt : Int} (h : oseen SE CL cnt) (hb : 0 ≤ b ∧ b < cnt) (hs : osame SE S2 b) : oseen S2 (zu CL b 1) cnt := fun s a c => by
  rcases hs s with e | e
  · rw [e]
    rcases h s a c with z | z
    · exact Or.inl z
    · refine Or.inr ⟨z.1, z.2.1, ?_⟩
      by_cases q : SE s = b
      · rw [q, zu_self]; omega
      · rw [zu_ne q]; exact z.2.2
  · rw [e]; exact Or.inr ⟨hb.1, hb.2, by rw [zu_self]; omega⟩
def ocld (K N O CL : Int → Int) (cnt fi one st : Int) : Prop := one = 1 → ¬ CL fi = 0 ∧ (∀ b : Int, 0 ≤ b → b < cnt → ¬ CL b = 0 → oclear K N O cnt b) ∧ (∀ s : Int, 0 ≤ s → s < st → K s ≤ 2 → ¬ CL (N s) = 0)
theorem ocld_no {K N O CL : Int → Int} {cnt fi st : Int} : ocld K N O CL cnt fi 0 st := fun h => absurd h (by decide)
theorem ocld_0 {K N O CL : Int → Int} {cnt fi : Int} (h : oclear K N O cnt fi) (hz : ∀ b : Int, 0 ≤ b → b < cnt → CL b = 0) : ocld K N O (zu CL fi 1) cnt fi 1 0 := fun _ => by
  refine ⟨by rw [zu_self]; omega, fun b b0 b1 q => ?_, fun s a b => by omega⟩
  by_cases e : b = fi
  · rw [e]; exact h
  · rw [zu_ne e, hz b b0 b1] at q; exact absurd rfl q
theorem ocld_s {K N O CL : Int → Int} {cnt fi st : Int} (h : ocld K N O CL cnt fi 1 st) (h0 : 0 ≤ st) (hs : K st ≤ 2 → ¬ CL (N st) = 0) : ocld K N O CL cnt fi 1 (st + 1) := fun _ => by
  obtain ⟨a, b, c⟩ := h rfl
  refine ⟨a, b, fun s s0 s1 k => ?_⟩
  by_cases e : s = st
  · subst e; exact hs k
  · exact c s s0 (by omega) k
theorem ocld_c {K N O CL : Int → Int} {cnt fi st : Int} (h : ocld K N O CL cnt fi 1 st) (h0 : 0 ≤ st) (hn : oclear K N O cnt (N st)) : ocld K N O (zu CL (N st) 1) cnt fi 1 (st + 1) := fun _ => by
  obtain ⟨a, b, c⟩ := h rfl
  have up : ∀ x, ¬ CL x = 0 → ¬ zu CL (N st) 1 x = 0 := fun x q => by
    by_cases e : x = N st
    · rw [e, zu_self]; omega
    · rw [zu_ne e]; exact q
  refine ⟨up _ a, fun x x0 x1 q => ?_, fun s s0 s1 k => ?_⟩
  · by_cases e : x = N st
    · rw [e]; exact hn
    · rw [zu_ne e] at q; exact b x x0 x1 q
  · by_cases e : s = st
    · subst e; rw [zu_self]; omega
    · exact up _ (c s s0 (by omega) k)
theorem ocld_end {K N O CL : Int → Int} {cnt fi one st : Int} (h : ocld K N O CL cnt fi one st) (h1 : one = 1) (hs : st = cnt) (hf : 0 ≤ fi ∧ fi < cnt) (hn : ∀ s : Int, 0 ≤ s → s < cnt → 0 ≤ N s ∧ N s < cnt) : pone K N O cnt fi := by
  subst hs
  obtain ⟨a, b, c⟩ := h h1
  rintro x (e | ⟨s, ⟨s0, s1, s2⟩, e⟩)
  · rw [e]; exact b fi hf.1 hf.2 a
  · rw [e]; exact b _ (hn s s0 s1).1 (hn s s0 s1).2 (c s s0 s1 s2)
set_option maxRecDepth 100000 in
theorem c_CS_meets {X : ab_X} {d : Nat} {o : Nat → Nat} {G : ab_G} {r lr lb n : Nat} {cnt : Int} {P : Int → Prop} {lo hi : Int} (h : csI o G r lr lb n cnt P) (cx : 0 ≤ lo ∧ lo ≤ hi ∧ hi ≤ 1114111) (hd : 1 ≤ d) : ab_F X d y_CS_meets (.code y_CS_meets b_CS_meets 4 (some (.boolean))) [vR r, vz lo, vz hi] G (fun oc G2 => (oc = .returned (some (vz 1)) ∧ fx o o [] G G2 ∧ G2.length = G.length ∧ ab_slots G2 = ab_slots G ∧ csI o G2 r lr lb n cnt P) ∨ (oc = .returned (some (vz 0)) ∧ fx o o [] G G2 ∧ G2.length = G.length ∧ ab_slots G2 = ab_slots G ∧ csI o G2 r lr lb n cnt P ∧ ∀ c : Int, lo ≤ c → c ≤ hi → ¬ P c)) := by
  obtain ⟨b, f, q1, q2, q3, q4, q5, q6, q7, q8⟩ := h
  refine (z_CS_meets q1 q2 ⟨by omega, by omega, by omega⟩ q3 cx hd).post (fun oc G2 hq => ?_)
  rcases hq with ⟨h1, h2, h3, h4, h5, h6, -⟩ | ⟨h1, h2, h3, h4, h5, h6, h7⟩
  · exact Or.inl ⟨h1, h2, h3, h4, b, f, h5, h6, q3, q4, q5, q6, q7, q8⟩
  · exact Or.inr ⟨h1, h2, h3, h4, ⟨b, f, h5, h6, q3, q4, q5, q6, q7, q8⟩, fun c a b2 z => h7 c a b2 ((q4 c).mp z)⟩
/-! one mind: a search from b, with its turns -/
def ICI (K N O RR : Int → Int) (b cnt : Int) (SE SK : Int → Int) (dp ab : Int) (P : Int → Prop) : Prop := icI K N O RR b cnt SE SK dp ab (2 * (oc6 SE K b cnt + oc37 SE K b cnt)) P
section ICI
variable {K N O RR SE SK : Int → Int} {b cnt dp d1 ab ab2 x v : Int} {P P2 : Int → Prop}
theorem ici_0 (hb : 0 ≤ b) (hs : onew SE b cnt) (ha : ¬ ab = 1) : ICI K N O RR b cnt SE (zu SK 0 b) 1 ab (fun _ => False) := icI_0 (fun x x0 x1 => hs x x0 x1) hb ha (fun _ z => z) (by
  have a := oc_nn (SE := SE) (K := K) (b := b) (t := t6) cnt.toNat
  have b := oc_nn (SE := SE) (K := K) (b := b) (t := t37) cnt.toNat
  unfold oc6 oc37
  omega)
theorem oc_w0 (hk : ¬ K x = 6 ∧ ¬ K x = 7 ∧ ¬ K x = 3) : oc6 (zu SE x b) K b cnt + oc37 (zu SE x b) K b cnt = oc6 SE K b cnt + oc37 SE K b cnt := by
  have e6 : oc6 (zu SE x b) K b cnt = oc6 SE K b cnt := oc_no _ (t6_no hk.1)
  have e7 : oc37 (zu SE x b) K b cnt = oc37 SE K b cnt := oc_no _ (t37_no ⟨hk.2.2, hk.2.1⟩)
  omega
theorem oc_w6 (hu : ¬ SE x = b) (hk : K x = 6) (xr : 0 ≤ x ∧ x < cnt) : oc6 (zu SE x b) K b cnt + oc37 (zu SE x b) K b cnt = oc6 SE K b cnt + oc37 SE K b cnt + 1 := by
  have e6 : oc6 (zu SE x b) K b cnt = oc6 SE K b cnt + 1 := oc_s hu (by rw [hk]; rfl) xr.1 _ (by omega)
  have e7 : oc37 (zu SE x b) K b cnt = oc37 SE K b cnt := oc_no _ (t37_no (by omega))
  omega
theorem oc_w7 (hu : ¬ SE x = b) (hk : K x = 7 ∨ K x = 3) (xr : 0 ≤ x ∧ x < cnt) : oc6 (zu SE x b) K b cnt + oc37 (zu SE x b) K b cnt = oc6 SE K b cnt + oc37 SE K b cnt + 1 := by
  have e6 : oc6 (zu SE x b) K b cnt = oc6 SE K b cnt := oc_no _ (t6_no (by omega))
  have e7 : oc37 (zu SE x b) K b cnt = oc37 SE K b cnt + 1 := oc_s hu (by unfold t37; rw [decide_eq_true_iff]; omega) xr.1 _ (by omega)
  omega
/-- one that takes -/
theorem ici_take (h : ICI K N O RR b cnt SE SK dp ab P) (hd : 0 < dp) (hx : x = SK (dp - 1)) (xr : 0 ≤ x ∧ x < cnt) (hu : ¬ SE x = b) (hk : K x ≤ 2) (hn : ntX K O RR x P P2 v) (hv : v = 1) (ha : ¬ ab = 1) (hb : ab2 = 1 ↔ K x = 2) : ICI K N O RR b cnt (zu SE x b) SK (dp - 1) ab2 P2 := by
  obtain ⟨n1, n2, n3⟩ := hn hv
  unfold ICI at h ⊢
  rw [oc_w0 (by omega)]
  exact icI.s h (by omega) rfl ⟨hx.symm, xr⟩ (fun z => hu z.1) (fun _ => ⟨ha, n1, n2⟩) (skl_k0 (Or.inl hk)) (by rw [hb]; exact ⟨Or.inr, fun z => z.elim (fun w => absurd w ha) id⟩) n3 (by split <;> omega)
/-- an arrival, or a dead end -/
theorem ici_leaf (h : ICI K N O RR b cnt SE SK dp ab P) (hd : 0 < dp) (hx : x = SK (dp - 1)) (xr : 0 ≤ x ∧ x < cnt) (hu : K x = 9 ∨ ¬ SE x = b) (hk : K x = 8 ∨ K x = 9) : ICI K N O RR b cnt (zu SE x b) SK (dp - 1) ab P := by
  unfold ICI at h ⊢
  rw [oc_w0 (by omega)]
  exact icI.s h (by omega) rfl ⟨hx.symm, xr⟩ (fun z => hu.elim (fun k => z.2 k) (fun k => k z.1)) (fun z => by omega) (skl_k0 (Or.inr hk)) ⟨Or.inl, fun z => z.elim id (fun w => by omega)⟩ (fun c => ⟨Or.inl, fun z => z.elim id (fun w => absurd (phas_k w) (by omega))⟩) (by split <;> omega)
theorem ici_split (h : ICI K N O RR b cnt SE SK dp ab P) (hd : 0 < dp) (hx : x = SK (dp - 1)) (xr : 0 ≤ x ∧ x < cnt) (hu : ¬ SE x = b) (hk : K x = 6) (hn : 0 ≤ N x ∧ 0 ≤ O x) : ICI K N O RR b cnt (zu SE x b) (zu (zu SK (dp - 1) (O x)) (dp - 1 + 1) (N x)) (dp - 1 + 1 + 1) ab P := by
  unfold ICI at h ⊢
  rw [oc_w6 hu hk xr]
  exact icI.s h (by omega) rfl ⟨hx.symm, xr⟩ (fun z => hu z.1) (fun z => by omega) (skl_k6 (by omega) hk hn) ⟨Or.inl, fun z => z.elim id (fun w => by omega)⟩ (fun c => ⟨Or.inl, fun z => z.elim id (fun w => absurd (phas_k w) (by omega))⟩) (by split <;> omega)
theorem ici_one (h : ICI K N O RR b cnt SE SK dp ab P) (hd : 0 < dp) (hx : x = SK (dp - 1)) (xr : 0 ≤ x ∧ x < cnt) (hu : ¬ SE x = b) (hk : K x = 7 ∨ K x = 3) (hn : 0 ≤ N x) : ICI K N O RR b cnt (zu SE x b) (zu SK (dp - 1) (N x)) (dp - 1 + 1) ab P := by
  unfold ICI at h ⊢
  rw [oc_w7 hu hk xr]
  exact icI.s h (by omega) rfl ⟨hx.symm, xr⟩ (fun z => hu z.1) (fun z => by omega) (skl_k1 (by omega) hk hn) ⟨Or.inl, fun z => z.elim id (fun w => by omega)⟩ (fun c => ⟨Or.inl, fun z => z.elim id (fun w => absurd (phas_k w) (by omega))⟩) (by split <;> omega)
theorem ici_fin (h : ICI K N O RR b cnt SE SK dp ab P) (h9 : K 0 = 9) (hc : 1 ≤ cnt ∧ cnt ≤ 808) (hd : dp = 0) : cleF K N O RR b := by
  have a := o67 (SE := SE) (b := b) h9 hc.1
  exact icI.fin h hd (by omega)
end ICI
