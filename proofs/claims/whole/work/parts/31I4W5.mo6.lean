/-! where a search can come: whoever is closed backwards and has the place and step has the begin -/
def bcl (T N W CA CM CL CH f : Int → Int) (len b n fm : Int) (R : Int → Int → Prop) : Prop := ∀ p k : Int, fm ≤ p → 0 ≤ k → k < n → (nep T N W f len b p (R p) k → R p k) ∧ (∀ c cw w : Int, mchr f len p c cw → tkv T CA CM CL CH c cw len (b + k) p w → 0 < w → R (p + w) (N (b + k)) → R p k)
def lead (T N W CA CM CL CH f : Int → Int) (len b n fm en p k : Int) : Prop := ∀ R : Int → Int → Prop, bcl T N W CA CM CL CH f len b n fm R → R p k → R fm en
section Leads
variable {T N W CA CM CL CH f NO : Int → Int} {len b n fm en p k x : Int}
theorem lead_0 : lead T N W CA CM CL CH f len b n fm en fm en := fun _ _ h => h
theorem lead_eps (h : lead T N W CA CM CL CH f len b n fm en p k) (hp : fm ≤ p) (hk : 0 ≤ k ∧ k < n) (he : (T (b + k) = 3 ∧ (x = N (b + k) ∨ x = W (b + k))) ∨ (T (b + k) = 4 ∧ x = N (b + k)) ∨ (T (b + k) = 5 ∧ mhld f len p (W (b + k)) ∧ x = N (b + k))) : lead T N W CA CM CL CH f len b n fm en p x := fun R hc hx => by
  refine h R hc ((hc p k hp hk.1 hk.2).1 ?_)
  rcases he with ⟨t, q | q⟩ | ⟨t, q⟩ | ⟨t, u, q⟩
  · exact Or.inl ⟨t, Or.inl (q ▸ hx)⟩
  · exact Or.inl ⟨t, Or.inr (q ▸ hx)⟩
  · exact Or.inr (Or.inl ⟨t, q ▸ hx⟩)
  · exact Or.inr (Or.inr ⟨t, u, q ▸ hx⟩)
theorem lead_take {c cw w : Int} (h : lead T N W CA CM CL CH f len b n fm en p k) (hp : fm ≤ p) (hk : 0 ≤ k ∧ k < n) (hc : mchr f len p c cw) (hw : tkv T CA CM CL CH c cw len (b + k) p w) (h0 : 0 < w) : lead T N W CA CM CL CH f len b n fm en (p + w) (N (b + k)) := fun R hb hx => h R hb ((hb p k hp hk.1 hk.2).2 c cw w hc hw h0 hx)
/-- notes that end at p, where an end can be come to, have the begin -/
theorem lead_just {J : Int → Int} {to : Int} (h : lead T N W CA CM CL CH f len b n fm en p k) (hj : ncrows T N W CA CM CL CH f J len b n p 1 (to - 1)) (hs : sgood T N W CA CM b n) (hto : to ≤ fm) (hp : fm ≤ p) (hk : 0 ≤ k ∧ k < n) (ht : T (b + k) = 0) : nbit J fm en := by
  have := h (fun q i => fm ≤ q ∧ q ≤ p ∧ nbit J q i) (fun q i hq i0 i1 => ⟨fun r => ?_, fun c cw w hc hw h0 r => ?_⟩) ⟨hp, Int.le_refl _, hj p (by omega) (Int.le_refl _) k hk.1 hk.2 (Or.inl (Or.inl ⟨ht, Or.inl rfl⟩))⟩
  · exact this.2.2
  · have hqp : q ≤ p := by
      rcases r with ⟨_, r | r⟩ | ⟨_, r⟩ | ⟨_, _, r⟩ <;> exact r.2.1
    refine ⟨hq, hqp, hj q (by omega) hqp i i0 i1 (Or.inr ?_)⟩
    rcases r with ⟨t, r⟩ | ⟨t, r⟩ | ⟨t, u, r⟩
    · exact Or.inl ⟨t, r.imp (fun z => z.2.2) (fun z => z.2.2)⟩
    · exact Or.inr (Or.inl ⟨t, r.2.2⟩)
    · exact Or.inr (Or.inr ⟨t, u, r.2.2⟩)
  · have ht1 : 1 ≤ T (b + i) ∧ T (b + i) ≤ 2 := by
      rcases hw with ⟨a, _⟩ | ⟨a, _, z⟩ | ⟨a, _⟩ | ⟨_, _, z⟩ <;> omega
    exact ⟨hq, by omega, hj q (by omega) (by omega) i i0 i1 (Or.inl (Or.inr ⟨by omega, c, cw, w, hc, hw, h0, r.2.1, r.2.2⟩))⟩
end Leads
/-! how many of the first n do not have P -/
noncomputable def bzc (P : Int → Prop) : Nat → Int
  | 0 => 0
  | m + 1 => bzc P m + @ite Int (P (m : Int)) (Classical.propDecidable _) 0 1
theorem bzc_in {P : Int → Prop} : ∀ m : Nat, 0 ≤ bzc P m ∧ bzc P m ≤ (m : Int) := by
  intro m
  induction m with
  | zero => exact ⟨Int.le_refl _, Int.le_refl _⟩
  | succ m ih => unfold bzc; split <;> omega
theorem bzc_mono {P P2 : Int → Prop} : ∀ m : Nat, (∀ i : Int, 0 ≤ i → i < (m : Int) → P i → P2 i) → bzc P2 m ≤ bzc P m := by
  intro m
  induction m with
  | zero => intro _; exact Int.le_refl _
  | succ m ih =>
    intro h
    have a := ih (fun i x y z => h i x (by omega) z)
    have c := h (m : Int) (by omega) (by omega)
    unfold bzc
    by_cases q : P (m : Int)
    · rw [if_pos q, if_pos (c q)]; omega
    · rw [if_neg q]; split <;> omega
theorem bzc_lt {P P2 : Int → Prop} {k : Int} (hk : ¬ P k) (hk2 : P2 k) (h0 : 0 ≤ k) : ∀ m : Nat, k < (m : Int) → (∀ i : Int, 0 ≤ i → i < (m : Int) → P i → P2 i) → bzc P2 m ≤ bzc P m - 1 := by
  intro m
  induction m with
  | zero => intro q; omega
  | succ m ih =>
    intro q h
    have c := h (m : Int) (by omega) (by omega)
    unfold bzc
    by_cases e : k = (m : Int)
    · have a := bzc_mono (P := P) (P2 := P2) m (fun i x y z => h i x (by omega) z)
      subst e
      rw [if_neg hk, if_pos hk2]; omega
    · have a := ih (by omega) (fun i x y z => h i x (by omega) z)
      by_cases r : P (m : Int)
      · rw [if_pos r, if_pos (c r)]; omega
      · rw [if_neg r]; split <;> omega
noncomputable def bz (P : Int → Prop) (n : Int) : Int := bzc P n.toNat
theorem bz_in {P : Int → Prop} {n : Int} (h : 0 ≤ n) : 0 ≤ bz P n ∧ bz P n ≤ n := by
  have := bzc_in (P := P) n.toNat
  unfold bz
  omega
theorem bz_mono {P P2 : Int → Prop} {n : Int} (h : ∀ i : Int, 0 ≤ i → i < n → P i → P2 i) : bz P2 n ≤ bz P n := bzc_mono _ (fun i a c => h i a (by omega))
theorem bz_lt {P P2 : Int → Prop} {n k : Int} (hk : ¬ P k) (hk2 : P2 k) (h0 : 0 ≤ k ∧ k < n) (h : ∀ i : Int, 0 ≤ i → i < n → P i → P2 i) : bz P2 n ≤ bz P n - 1 := bzc_lt hk hk2 h0.1 _ (by omega) (fun i a c => h i a (by omega))
/-! a row that was gone through forwards: where its steps lead is marked, and an end was told -/
def fcl (T N W CA CM CL CH f CO : Int → Int) (len b n far lst p : Int) : Prop := ∀ k : Int, 0 ≤ k → k < n → nbit CO p k → (T (b + k) = 3 → nbit CO p (N (b + k)) ∧ nbit CO p (W (b + k))) ∧ (T (b + k) = 4 → nbit CO p (N (b + k))) ∧ (T (b + k) = 5 → mhld f len p (W (b + k)) → nbit CO p (N (b + k))) ∧ (∀ c cw w : Int, mchr f len p c cw → tkv T CA CM CL CH c cw len (b + k) p w → 0 < w → p + w ≤ far ∧ nbit CO (p + w) (N (b + k))) ∧ (T (b + k) = 0 → p ≤ lst)
theorem fcl_end {T N W CA CM CL CH f CO NO : Int → Int} {len b n far lst fm en to al : Int} (hf : ∀ p : Int, fm ≤ p → p ≤ far → fcl T N W CA CM CL CH f CO len b n far lst p) (hr : nrows T N W CA CM CL CH f NO len b n len al (to - 1)) (hs : sgood T N W CA CM b n) (hto : to ≤ fm) (hfar : fm ≤ far ∧ far ≤ len) (hen : 0 ≤ en ∧ en < n) (hn : nbit NO fm en) (hc : nbit CO fm en) : fm ≤ lst := by
  have key : ∀ (d : Nat) (p : Int), len - p ≤ (d : Int) → fm ≤ p → p ≤ far → ∀ k : Int, 0 ≤ k → k < n → nbit NO p k → nbit CO p k → fm ≤ lst := by
    intro d
    induction d with
    | zero =>
      intro p hd h1 h2
      obtain ⟨rk, r0, g⟩ := hr p (by omega) (by omega)
      have inner : ∀ (r : Nat) (k : Int), rk k ≤ (r : Int) → 0 ≤ k → k < n → nbit NO p k → nbit CO p k → fm ≤ lst := by
        intro r
        induction r with
        | zero =>
          intro k hk k0 k1 b1 b2
          obtain ⟨f3, f4, f5, f6, f7⟩ := hf p h1 h2 k k0 k1 b2
          rcases g k k0 k1 b1 with (q | ⟨_, c, cw, w, q1, q2, q3, q4, q5⟩) | ⟨t, q | q⟩ | ⟨t, q⟩ | ⟨t, u, q⟩
          · exact Int.le_trans h1 (f7 q.1)
          · omega
          · have := r0 (N (b + k)); omega
          · have := r0 (W (b + k)); omega
          · have := r0 (N (b + k)); omega
          · have := r0 (N (b + k)); omega
        | succ r ih =>
          intro k hk k0 k1 b1 b2
          obtain ⟨f3, f4, f5, f6, f7⟩ := hf p h1 h2 k k0 k1 b2
          obtain ⟨s1, s2, s3, s4, s5, s6⟩ := hs k k0 k1
          rcases g k k0 k1 b1 with (q | ⟨_, c, cw, w, q1, q2, q3, q4, q5⟩) | ⟨t, q | q⟩ | ⟨t, q⟩ | ⟨t, u, q⟩
          · exact Int.le_trans h1 (f7 q.1)
          · omega
          · have i := s2 (by omega) (by omega)
            exact ih _ (by omega) i.1 i.2 q.1 (f3 t).1
          · have i := s3 t
            exact ih _ (by omega) i.1 i.2 q.1 (f3 t).2
          · have i := s2 (by omega) (by omega)
            exact ih _ (by omega) i.1 i.2 q.1 (f4 t)
          · have i := s2 (by omega) (by omega)
            exact ih _ (by omega) i.1 i.2 q.1 (f5 t u)
      intro k k0 k1 b1 b2
      exact inner (rk k).toNat k (by have := r0 k; omega) k0 k1 b1 b2
    | succ d ihd =>
      intro p hd h1 h2
      obtain ⟨rk, r0, g⟩ := hr p (by omega) (by omega)
      have inner : ∀ (r : Nat) (k : Int), rk k ≤ (r : Int) → 0 ≤ k → k < n → nbit NO p k → nbit CO p k → fm ≤ lst := by
        intro r
        induction r with
        | zero =>
          intro k hk k0 k1 b1 b2
          obtain ⟨f3, f4, f5, f6, f7⟩ := hf p h1 h2 k k0 k1 b2
          obtain ⟨s1, s2, s3, s4, s5, s6⟩ := hs k k0 k1
          rcases g k k0 k1 b1 with (q | ⟨_, c, cw, w, q1, q2, q3, q4, q5⟩) | ⟨t, q | q⟩ | ⟨t, q⟩ | ⟨t, u, q⟩
          · exact Int.le_trans h1 (f7 q.1)
          · have ht1 : 1 ≤ T (b + k) ∧ T (b + k) ≤ 2 := by
              rcases q2 with ⟨a, _⟩ | ⟨a, _, z⟩ | ⟨a, _⟩ | ⟨_, _, z⟩ <;> omega
            have i := s2 (by omega) (by omega)
            have y := f6 c cw w q1 q2 q3
            exact ihd (p + w) (by omega) (by omega) y.1 _ i.1 i.2 q5 y.2
          · have := r0 (N (b + k)); omega
          · have := r0 (W (b + k)); omega
          · have := r0 (N (b + k)); omega
          · have := r0 (N (b + k)); omega
        | succ r ih =>
          intro k hk k0 k1 b1 b2
          obtain ⟨f3, f4, f5, f6, f7⟩ := hf p h1 h2 k k0 k1 b2
          obtain ⟨s1, s2, s3, s4, s5, s6⟩ := hs k k0 k1
          rcases g k k0 k1 b1 with (q | ⟨_, c, cw, w, q1, q2, q3, q4, q5⟩) | ⟨t, q | q⟩ | ⟨t, q⟩ | ⟨t, u, q⟩
          · exact Int.le_trans h1 (f7 q.1)
          · have ht1 : 1 ≤ T (b + k) ∧ T (b + k) ≤ 2 := by
              rcases q2 with ⟨a, _⟩ | ⟨a, _, z⟩ | ⟨a, _⟩ | ⟨_, _, z⟩ <;> omega
            have i := s2 (by omega) (by omega)
            have y := f6 c cw w q1 q2 q3
            exact ihd (p + w) (by omega) (by omega) y.1 _ i.1 i.2 q5 y.2
          · have i := s2 (by omega) (by omega)
            exact ih _ (by omega) i.1 i.2 q.1 (f3 t).1
          · have i := s3 t
            exact ih _ (by omega) i.1 i.2 q.1 (f3 t).2
          · have i := s2 (by omega) (by omega)
            exact ih _ (by omega) i.1 i.2 q.1 (f4 t)
          · have i := s2 (by omega) (by omega)
            exact ih _ (by omega) i.1 i.2 q.1 (f5 t u)
      intro k k0 k1 b1 b2
      exact inner (rk k).toNat k (by have := r0 k; omega) k0 k1 b1 b2
  exact key (len - fm).toNat fm (by omega) (Int.le_refl _) hfar.1 en hen.1 hen.2 hn hc
