/-! the search for the first way: what was seen is no end, and where it leads was seen or waits -/
def onp (PL : Int → Int) (m x : Int) : Prop := ∃ j : Int, 0 ≤ j ∧ j < m ∧ PL j = x
def dfs (T N W CA CM CL CH f NO : Int → Int) (len b n fr al p : Int) (Z PL : Int → Int) (m k0 : Int) : Prop := (Z k0 = 1 ∨ onp PL m k0) ∧ ∀ z : Int, 0 ≤ z → z < n → Z z = 1 → ¬ nsd T N CA CM CL CH f NO len b fr al p z ∧ (T (b + z) = 3 → (Z (N (b + z)) = 1 ∨ onp PL m (N (b + z))) ∧ (Z (W (b + z)) = 1 ∨ onp PL m (W (b + z)))) ∧ (T (b + z) = 4 → Z (N (b + z)) = 1 ∨ onp PL m (N (b + z))) ∧ (T (b + z) = 5 → mhld f len p (W (b + z)) → Z (N (b + z)) = 1 ∨ onp PL m (N (b + z)))
section Walks
variable {T N W CA CM CL CH f NO Z PL PL2 : Int → Int} {len b n fr al p m m2 k0 x : Int}
theorem dfs_0 (h : ∀ z : Int, 0 ≤ z → z < n → ¬ Z z = 1) : dfs T N W CA CM CL CH f NO len b n fr al p Z (zu PL 0 k0) 1 k0 := ⟨Or.inr ⟨0, by omega, by omega, zu_self _ _ _⟩, fun z a c d => absurd d (h z a c)⟩
theorem dfs_pop (h : dfs T N W CA CM CL CH f NO len b n fr al p Z PL m k0) (hx : PL (m - 1) = x) (hz : Z x = 1) : dfs T N W CA CM CL CH f NO len b n fr al p Z PL (m - 1) k0 := by
  have up : ∀ y, Z y = 1 ∨ onp PL m y → Z y = 1 ∨ onp PL (m - 1) y := by
    rintro y (q | ⟨j, j0, j1, j2⟩)
    · exact Or.inl q
    · by_cases e : j = m - 1
      · subst e; exact Or.inl (by rw [← j2, hx]; exact hz)
      · exact Or.inr ⟨j, j0, by omega, j2⟩
  refine ⟨up _ h.1, fun z a c d => ?_⟩
  obtain ⟨h1, h3, h4, h5⟩ := h.2 z a c d
  exact ⟨h1, fun t => ⟨up _ (h3 t).1, up _ (h3 t).2⟩, fun t => up _ (h4 t), fun t u => up _ (h5 t u)⟩
theorem dfs_new (h : dfs T N W CA CM CL CH f NO len b n fr al p Z PL m k0) (hx : PL (m - 1) = x) (hm2 : m - 1 ≤ m2) (hs : ∀ j : Int, 0 ≤ j → j < m - 1 → PL2 j = PL j) (hn : ¬ nsd T N CA CM CL CH f NO len b fr al p x) (h3 : T (b + x) = 3 → onp PL2 m2 (N (b + x)) ∧ onp PL2 m2 (W (b + x))) (h4 : T (b + x) = 4 → onp PL2 m2 (N (b + x))) (h5 : T (b + x) = 5 → mhld f len p (W (b + x)) → onp PL2 m2 (N (b + x))) : dfs T N W CA CM CL CH f NO len b n fr al p (zu Z x 1) PL2 m2 k0 := by
  have up : ∀ y, Z y = 1 ∨ onp PL m y → zu Z x 1 y = 1 ∨ onp PL2 m2 y := by
    intro y q
    by_cases e : y = x
    · rw [e, zu_self]; exact Or.inl rfl
    · rcases q with q | ⟨j, j0, j1, j2⟩
      · exact Or.inl (by rw [zu_ne e]; exact q)
      · by_cases e2 : j = m - 1
        · subst e2; exact absurd (j2.symm.trans hx) e
        · exact Or.inr ⟨j, j0, by omega, by rw [hs j j0 (by omega)]; exact j2⟩
  refine ⟨up _ h.1, fun z a c d => ?_⟩
  by_cases e : z = x
  · subst e
    exact ⟨hn, fun t => ⟨Or.inr (h3 t).1, Or.inr (h3 t).2⟩, fun t => Or.inr (h4 t), fun t u => Or.inr (h5 t u)⟩
  · rw [zu_ne e] at d
    obtain ⟨g1, g3, g4, g5⟩ := h.2 z a c d
    exact ⟨g1, fun t => ⟨up _ (g3 t).1, up _ (g3 t).2⟩, fun t => up _ (g4 t), fun t u => up _ (g5 t u)⟩
theorem dfs_end (h : dfs T N W CA CM CL CH f NO len b n fr al p Z PL 0 k0) (hr : nrow T N W CA CM CL CH f NO len b n fr al p) (hb : nbit NO p k0) (hk : 0 ≤ k0 ∧ k0 < n) (hs : sgood T N W CA CM b n) : False := by
  have no : ∀ y, ¬ onp PL 0 y := fun y ⟨j, j0, j1, _⟩ => by omega
  obtain ⟨rk, r0, g⟩ := hr
  have key : ∀ (r : Nat) (z : Int), rk z ≤ (r : Int) → 0 ≤ z → z < n → nbit NO p z → Z z = 1 → False := by
    intro r
    induction r with
    | zero =>
      intro z hz a c hb hq
      obtain ⟨g1, g3, g4, g5⟩ := h.2 z a c hq
      have z0 := r0 z
      rcases g z a c hb with q | ⟨t, q⟩ | ⟨t, q, q2⟩ | ⟨t, u, q, q2⟩
      · exact g1 q
      · rcases q with ⟨_, q⟩ | ⟨_, q⟩
        · have := r0 (N (b + z)); omega
        · have := r0 (W (b + z)); omega
      · have := r0 (N (b + z)); omega
      · have := r0 (N (b + z)); omega
    | succ r ih =>
      intro z hz a c hb hq
      obtain ⟨g1, g3, g4, g5⟩ := h.2 z a c hq
      obtain ⟨s1, s2, s3, s4, s5, s6⟩ := hs z a c
      rcases g z a c hb with q | ⟨t, q⟩ | ⟨t, q, q2⟩ | ⟨t, u, q, q2⟩
      · exact g1 q
      · rcases q with ⟨q, q2⟩ | ⟨q, q2⟩
        · have i := s2 (by omega) (by omega)
          exact ih _ (by omega) i.1 i.2 q ((g3 t).1.resolve_right (no _))
        · have i := s3 t
          exact ih _ (by omega) i.1 i.2 q ((g3 t).2.resolve_right (no _))
      · have i := s2 (by omega) (by omega)
        exact ih _ (by omega) i.1 i.2 q ((g4 t).resolve_right (no _))
      · have i := s2 (by omega) (by omega)
        exact ih _ (by omega) i.1 i.2 q ((g5 t u).resolve_right (no _))
  exact key (rk k0).toNat k0 (by have := r0 k0; omega) hk.1 hk.2 hb (h.1.resolve_right (no _))
theorem nsd_no0 (ht : T (b + x) = 0) (hn : ¬ (p = fr ∨ al = 0)) : ¬ nsd T N CA CM CL CH f NO len b fr al p x := by
  rintro (q | q)
  · exact hn q.2
  · exact q.1 ht
theorem nsd_no1 {c cw w : Int} (ht : ¬ T (b + x) = 0) (hc : mchr f len p c cw) (hw : tkv T CA CM CL CH c cw len (b + x) p w) (hn : ¬ (0 < w ∧ p + w ≤ fr ∧ nbit NO (p + w) (N (b + x)))) : ¬ nsd T N CA CM CL CH f NO len b fr al p x := by
  rintro (q | ⟨_, c2, cw2, w2, q1, q2, q3, q4, q5⟩)
  · exact ht q.1
  · obtain ⟨e1, e2⟩ := mchr_fun hc q1
    subst e1; subst e2
    have e := tkv_fun hw q2
    subst e
    exact hn ⟨q3, q4, q5⟩
end Walks
theorem onp_top {PL : Int → Int} {m x : Int} (h : 0 ≤ m) : onp (zu PL m x) (m + 1) x := ⟨m, h, by omega, zu_self _ _ _⟩
theorem onp_up {PL : Int → Int} {m x y v : Int} (h : onp PL m x) (hm : m ≤ y) : onp (zu PL y v) (y + 1) x := by
  obtain ⟨j, a, c, d⟩ := h
  exact ⟨j, a, by omega, by rw [zu_ne (by omega)]; exact d⟩
theorem rgs_push {PL : Int → Int} {m x lo hi : Int} (h : rgs PL m lo hi) (hx : lo ≤ x ∧ x ≤ hi) : rgs (zu PL m x) (m + 1) lo hi := fun k a c => by
  by_cases e : k = m
  · rw [e, zu_self]; exact hx
  · rw [zu_ne e]; exact h k a (by omega)
def nze (Z : Int → Int) (i : Int) : Prop := ∀ j : Int, 0 ≤ j → j < i → ¬ Z j = 1
theorem nze_0 {Z : Int → Int} : nze Z 0 := fun j a c => by omega
theorem nze_s {Z : Int → Int} {i : Int} (h : nze Z i) : nze (zu Z i 0) (i + 1) := fun j a c => by
  by_cases e : j = i
  · rw [e, zu_self]; omega
  · rw [zu_ne e]; exact h j a (by omega)
