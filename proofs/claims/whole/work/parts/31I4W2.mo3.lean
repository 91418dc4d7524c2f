/-! notes: every bit has a reason, and reasons go down in rank -/
def sgood (T N W CA CM : Int → Int) (b n : Int) : Prop := ∀ k : Int, 0 ≤ k → k < n → (0 ≤ T (b + k) ∧ T (b + k) ≤ 6) ∧ (1 ≤ T (b + k) → T (b + k) ≤ 5 → 0 ≤ N (b + k) ∧ N (b + k) < n) ∧ (T (b + k) = 3 → 0 ≤ W (b + k) ∧ W (b + k) < n) ∧ (T (b + k) = 4 → 0 ≤ W (b + k) ∧ W (b + k) < 20) ∧ (T (b + k) = 5 → 0 ≤ W (b + k) ∧ W (b + k) ≤ 5) ∧ (T (b + k) = 1 → 0 ≤ CA (b + k) ∧ 0 ≤ CM (b + k) ∧ CA (b + k) + CM (b + k) ≤ 3600)
/-- a reason without another step of the same place -/
def nsd (T N CA CM CL CH f NO : Int → Int) (len b fr al p k : Int) : Prop := (T (b + k) = 0 ∧ (p = fr ∨ al = 0)) ∨ (¬ T (b + k) = 0 ∧ ∃ c cw w : Int, mchr f len p c cw ∧ tkv T CA CM CL CH c cw len (b + k) p w ∧ 0 < w ∧ p + w ≤ fr ∧ nbit NO (p + w) (N (b + k)))
def nj (T N W CA CM CL CH f NO : Int → Int) (len b fr al : Int) (Z : Int → Prop) (rk : Int → Int) (p k : Int) : Prop := nsd T N CA CM CL CH f NO len b fr al p k ∨ (T (b + k) = 3 ∧ ((Z (N (b + k)) ∧ rk (N (b + k)) < rk k) ∨ (Z (W (b + k)) ∧ rk (W (b + k)) < rk k))) ∨ (T (b + k) = 4 ∧ Z (N (b + k)) ∧ rk (N (b + k)) < rk k) ∨ (T (b + k) = 5 ∧ mhld f len p (W (b + k)) ∧ Z (N (b + k)) ∧ rk (N (b + k)) < rk k)
def ngr (T N W CA CM CL CH f NO : Int → Int) (len b n fr al p : Int) (Z : Int → Int) : Prop := ∃ (rk : Int → Int) (c : Int), ((∀ j : Int, 0 ≤ rk j) ∧ 0 ≤ c) ∧ ∀ j : Int, 0 ≤ j → j < n → Z j = 1 → nj T N W CA CM CL CH f NO len b fr al (fun i => Z i = 1) rk p j ∧ rk j ≤ c
def nrow (T N W CA CM CL CH f NO : Int → Int) (len b n fr al p : Int) : Prop := ∃ rk : Int → Int, (∀ j : Int, 0 ≤ rk j) ∧ ∀ k : Int, 0 ≤ k → k < n → nbit NO p k → nj T N W CA CM CL CH f NO len b fr al (fun i => nbit NO p i) rk p k
section Notes
variable {T N W CA CM CL CH f NO NO2 : Int → Int} {len b n fr al p : Int} {Z Z2 : Int → Int}
theorem ngr_0 (h : ∀ j : Int, 0 ≤ j → j < n → Z j = 1 → nsd T N CA CM CL CH f NO len b fr al p j) : ngr T N W CA CM CL CH f NO len b n fr al p Z := ⟨fun _ => 0, 0, ⟨fun _ => Int.le_refl _, Int.le_refl _⟩, fun j a c d => ⟨Or.inl (h j a c d), Int.le_refl _⟩⟩
theorem ngr_set {k : Int} (h : ngr T N W CA CM CL CH f NO len b n fr al p Z) (hs : sgood T N W CA CM b n) (hk : 0 ≤ k ∧ k < n) (hz : ¬ Z k = 1) (hr : (T (b + k) = 3 ∧ (Z (N (b + k)) = 1 ∨ Z (W (b + k)) = 1)) ∨ (T (b + k) = 4 ∧ Z (N (b + k)) = 1) ∨ (T (b + k) = 5 ∧ mhld f len p (W (b + k)) ∧ Z (N (b + k)) = 1)) : ngr T N W CA CM CL CH f NO len b n fr al p (zu Z k 1) := by
  obtain ⟨rk, c, g0, g⟩ := h
  have up : ∀ i : Int, 0 ≤ i → i < n → Z i = 1 → zu Z k 1 i = 1 ∧ zu rk k (c + 1) i = rk i ∧ rk i ≤ c := fun i i0 i1 hi => by
    have e : ¬ i = k := fun q => hz (q ▸ hi)
    exact ⟨by rw [zu_ne e]; exact hi, zu_ne e, (g i i0 i1 hi).2⟩
  refine ⟨zu rk k (c + 1), c + 1, ⟨fun j => by
    by_cases e : j = k
    · rw [e, zu_self]; omega
    · rw [zu_ne e]; exact g0.1 j, by omega⟩, fun j j0 j1 hj => ?_⟩
  obtain ⟨s1, s2, s3, s4, s5, s6⟩ := hs j j0 j1
  by_cases e : j = k
  · subst e
    refine ⟨?_, by rw [zu_self]; omega⟩
    rcases hr with ⟨t, q⟩ | ⟨t, q⟩ | ⟨t, u, q⟩
    · refine Or.inr (Or.inl ⟨t, ?_⟩)
      rcases q with q | q
      · have i := s2 (by omega) (by omega)
        have := up _ i.1 i.2 q
        exact Or.inl ⟨this.1, by rw [zu_self]; omega⟩
      · have i := s3 t
        have := up _ i.1 i.2 q
        exact Or.inr ⟨this.1, by rw [zu_self]; omega⟩
    · have i := s2 (by omega) (by omega)
      have := up _ i.1 i.2 q
      exact Or.inr (Or.inr (Or.inl ⟨t, this.1, by rw [zu_self]; omega⟩))
    · have i := s2 (by omega) (by omega)
      have := up _ i.1 i.2 q
      exact Or.inr (Or.inr (Or.inr ⟨t, u, this.1, by rw [zu_self]; omega⟩))
  · rw [zu_ne e] at hj
    obtain ⟨g1, g2⟩ := g j j0 j1 hj
    refine ⟨?_, by rw [zu_ne e]; omega⟩
    rcases g1 with g1 | ⟨t, q⟩ | ⟨t, q, q2⟩ | ⟨t, u, q, q2⟩
    · exact Or.inl g1
    · refine Or.inr (Or.inl ⟨t, ?_⟩)
      rcases q with ⟨q, q2⟩ | ⟨q, q2⟩
      · have i := s2 (by omega) (by omega)
        have := up _ i.1 i.2 q
        exact Or.inl ⟨this.1, by rw [zu_ne e]; omega⟩
      · have i := s3 t
        have := up _ i.1 i.2 q
        exact Or.inr ⟨this.1, by rw [zu_ne e]; omega⟩
    · have i := s2 (by omega) (by omega)
      have := up _ i.1 i.2 q
      exact Or.inr (Or.inr (Or.inl ⟨t, this.1, by rw [zu_ne e]; omega⟩))
    · have i := s2 (by omega) (by omega)
      have := up _ i.1 i.2 q
      exact Or.inr (Or.inr (Or.inr ⟨t, u, this.1, by rw [zu_ne e]; omega⟩))
/-- rows behind a place -/
def nsame (NO NO2 : Int → Int) (p : Int) : Prop := ∀ q k : Int, p < q → 0 ≤ k → k < 12544 → (nbit NO2 q k ↔ nbit NO q k)
theorem nsame_rf : nsame NO NO p := fun _ _ _ _ _ => Iff.rfl
theorem nsd_same {k : Int} (h : nsd T N CA CM CL CH f NO len b fr al p k) (hs : sgood T N W CA CM b n) (hk : 0 ≤ k ∧ k < n) (hn : n ≤ 12500) (e : nsame NO NO2 p) : nsd T N CA CM CL CH f NO2 len b fr al p k := by
  rcases h with h | ⟨h0, c, cw, w, h1, h2, h3, h4, h5⟩
  · exact Or.inl h
  · obtain ⟨s1, s2, s3⟩ := hs k hk.1 hk.2
    have ht : 1 ≤ T (b + k) ∧ T (b + k) ≤ 2 := by
      rcases h2 with ⟨a, _⟩ | ⟨a, _, z⟩ | ⟨a, _⟩ | ⟨_, _, z⟩ <;> omega
    have i := s2 ht.1 (by omega)
    exact Or.inr ⟨h0, c, cw, w, h1, h2, h3, h4, (e _ _ (by omega) i.1 (by omega)).mpr h5⟩
theorem nrow_mk (h : ngr T N W CA CM CL CH f NO len b n fr al p Z) (hs : sgood T N W CA CM b n) (hn : n ≤ 12500) (e : nsame NO NO2 p) (hb : ∀ k : Int, 0 ≤ k → k < n → (nbit NO2 p k ↔ Z k = 1)) : nrow T N W CA CM CL CH f NO2 len b n fr al p := by
  obtain ⟨rk, c, g0, g⟩ := h
  refine ⟨rk, g0.1, fun k k0 k1 hk => ?_⟩
  obtain ⟨s1, s2, s3, s4, s5, s6⟩ := hs k k0 k1
  rcases (g k k0 k1 ((hb k k0 k1).mp hk)).1 with g1 | ⟨t, q⟩ | ⟨t, q, q2⟩ | ⟨t, u, q, q2⟩
  · exact Or.inl (nsd_same g1 hs ⟨k0, k1⟩ hn e)
  · refine Or.inr (Or.inl ⟨t, ?_⟩)
    rcases q with ⟨q, q2⟩ | ⟨q, q2⟩
    · have i := s2 (by omega) (by omega)
      exact Or.inl ⟨(hb _ i.1 i.2).mpr q, q2⟩
    · have i := s3 t
      exact Or.inr ⟨(hb _ i.1 i.2).mpr q, q2⟩
  · have i := s2 (by omega) (by omega)
    exact Or.inr (Or.inr (Or.inl ⟨t, (hb _ i.1 i.2).mpr q, q2⟩))
  · have i := s2 (by omega) (by omega)
    exact Or.inr (Or.inr (Or.inr ⟨t, u, (hb _ i.1 i.2).mpr q, q2⟩))
/-- a row that stands behind what is written stays as it was -/
theorem nrow_keep {q : Int} (h : nrow T N W CA CM CL CH f NO len b n fr al q) (hs : sgood T N W CA CM b n) (hn : n ≤ 12500) (hq : p < q) (e : nsame NO NO2 p) : nrow T N W CA CM CL CH f NO2 len b n fr al q := by
  obtain ⟨rk, g0, g⟩ := h
  have eq : ∀ k : Int, 0 ≤ k → k < n → (nbit NO2 q k ↔ nbit NO q k) := fun k k0 k1 => e q k hq k0 (by omega)
  refine ⟨rk, g0, fun k k0 k1 hk => ?_⟩
  obtain ⟨s1, s2, s3, s4, s5, s6⟩ := hs k k0 k1
  rcases g k k0 k1 ((eq k k0 k1).mp hk) with g1 | ⟨t, z⟩ | ⟨t, z, z2⟩ | ⟨t, u, z, z2⟩
  · exact Or.inl (nsd_same g1 hs ⟨k0, k1⟩ hn (fun x k a b c => e x k (by omega) b c))
  · refine Or.inr (Or.inl ⟨t, ?_⟩)
    rcases z with ⟨z, z2⟩ | ⟨z, z2⟩
    · have i := s2 (by omega) (by omega)
      exact Or.inl ⟨(eq _ i.1 i.2).mpr z, z2⟩
    · have i := s3 t
      exact Or.inr ⟨(eq _ i.1 i.2).mpr z, z2⟩
  · have i := s2 (by omega) (by omega)
    exact Or.inr (Or.inr (Or.inl ⟨t, (eq _ i.1 i.2).mpr z, z2⟩))
  · have i := s2 (by omega) (by omega)
    exact Or.inr (Or.inr (Or.inr ⟨t, u, (eq _ i.1 i.2).mpr z, z2⟩))
end Notes
/-- how many are not yet set -/
def nzc (Z : Int → Int) : Nat → Int
  | 0 => 0
  | m + 1 => nzc Z m + if Z (m : Int) = 1 then 0 else 1
theorem nzc_nn {Z : Int → Int} : ∀ m : Nat, 0 ≤ nzc Z m ∧ nzc Z m ≤ (m : Int) := by
  intro m
  induction m with
  | zero => exact ⟨Int.le_refl _, Int.le_refl _⟩
  | succ m ih => unfold nzc; split <;> omega
theorem nzc_ext {Z Z2 : Int → Int} : ∀ m : Nat, (∀ j : Int, 0 ≤ j → j < (m : Int) → Z2 j = Z j) → nzc Z2 m = nzc Z m := by
  intro m
  induction m with
  | zero => intro _; rfl
  | succ m ih => intro h; unfold nzc; rw [ih (fun j a c => h j a (by omega)), h m (by omega) (by omega)]
theorem nzc_set {Z : Int → Int} {k : Int} (hz : ¬ Z k = 1) (h0 : 0 ≤ k) : ∀ m : Nat, k < (m : Int) → nzc (zu Z k 1) m = nzc Z m - 1 := by
  intro m
  induction m with
  | zero => intro q; omega
  | succ m ih =>
    intro q
    unfold nzc
    by_cases e : k = (m : Int)
    · rw [nzc_ext (Z := Z) m (fun j a c => zu_ne (by omega)), ← e, zu_self, if_pos rfl, if_neg hz]; omega
    · rw [ih (by omega), zu_ne (fun z => e z.symm)]; omega
def nz (Z : Int → Int) (n : Int) : Int := nzc Z n.toNat
theorem nz_in {Z : Int → Int} {n : Int} (h : 0 ≤ n) : 0 ≤ nz Z n ∧ nz Z n ≤ n := by
  have := nzc_nn (Z := Z) n.toNat
  unfold nz
  omega
theorem nz_set {Z : Int → Int} {k n : Int} (hz : ¬ Z k = 1) (hk : 0 ≤ k ∧ k < n) : nz (zu Z k 1) n = nz Z n - 1 := nzc_set hz hk.1 _ (by omega)
/-! the rows as they are written -/
theorem nsame_wr {NO NO2 : Int → Int} {p i v : Int} (h : nsame NO NO2 p) (hi : 0 ≤ i ∧ i < 196) : nsame NO (zu NO2 (196 * p + i) v) p := fun q k hq k0 k1 => by
  have e : ¬ 196 * q + k / 64 = 196 * p + i := by omega
  unfold nbit
  rw [zu_ne e]
  exact h q k hq k0 k1
def nclr (NO : Int → Int) (p i : Int) : Prop := ∀ j : Int, 0 ≤ j → j < i → NO (196 * p + j) = 0
theorem nclr_0 {NO : Int → Int} {p : Int} : nclr NO p 0 := fun j a c => by omega
theorem nclr_s {NO : Int → Int} {p i : Int} (h : nclr NO p i) : nclr (zu NO (196 * p + i) 0) p (i + 1) := fun j a c => by
  by_cases e : j = i
  · rw [e, zu_self]
  · rw [zu_ne (by omega)]; exact h j a (by omega)
/-- bits of row p: those below k that are set in Z -/
def nmkb (NO Z : Int → Int) (p k : Int) : Prop := ∀ i : Int, 0 ≤ i → i < 12544 → (nbit NO p i ↔ (i < k ∧ Z i = 1))
theorem nmkb_0 {NO Z : Int → Int} {p : Int} (h : nclr NO p 196) : nmkb NO Z p 0 := fun i a c => by
  unfold nbit
  rw [h (i / 64) (by omega) (by omega)]
  exact ⟨fun q => absurd q (bt6_0 _), fun q => by omega⟩
theorem nmkb_s {NO NO2 Z : Int → Int} {p k : Int} (h : nmkb NO Z p k) (hz : Z k = 1) (e : ∀ p2 k2 : Int, 0 ≤ k2 → k2 < 12544 → (nbit NO2 p2 k2 ↔ nbit NO p2 k2 ∨ (p2 = p ∧ k2 = k))) : nmkb NO2 Z p (k + 1) := fun i a c => by
  rw [e p i a c, h i a c]
  constructor
  · rintro (q | q)
    · exact ⟨by omega, q.2⟩
    · rw [q.2]; exact ⟨by omega, hz⟩
  · intro q
    by_cases z : i = k
    · exact Or.inr ⟨rfl, z⟩
    · exact Or.inl ⟨by omega, q.2⟩
theorem nmkb_n {NO Z : Int → Int} {p k : Int} (h : nmkb NO Z p k) (hz : ¬ Z k = 1) : nmkb NO Z p (k + 1) := fun i a c => by
  rw [h i a c]
  constructor
  · intro q; exact ⟨by omega, q.2⟩
  · intro q
    refine ⟨?_, q.2⟩
    by_cases z : i = k
    · exact absurd (z ▸ q.2) hz
    · omega
theorem nsame_mk {NO NO1 NO2 : Int → Int} {p k : Int} (h : nsame NO NO1 p) (e : ∀ p2 k2 : Int, 0 ≤ k2 → k2 < 12544 → (nbit NO2 p2 k2 ↔ nbit NO1 p2 k2 ∨ (p2 = p ∧ k2 = k))) : nsame NO NO2 p := fun q i hq a c => by
  rw [e q i a c, ← h q i hq a c]
  exact ⟨fun z => z.resolve_right (fun y => by omega), Or.inl⟩
def nsz (T N CA CM CL CH f NO : Int → Int) (len b fr al p : Int) (Z : Int → Int) (k : Int) : Prop := ∀ j : Int, 0 ≤ j → j < k → Z j = 1 → nsd T N CA CM CL CH f NO len b fr al p j
theorem nsz_0 {T N CA CM CL CH f NO Z : Int → Int} {len b fr al p : Int} : nsz T N CA CM CL CH f NO len b fr al p Z 0 := fun j a c => by omega
theorem nsz_s {T N CA CM CL CH f NO Z : Int → Int} {len b fr al p k v : Int} (h : nsz T N CA CM CL CH f NO len b fr al p Z k) (hv : v = 1 → nsd T N CA CM CL CH f NO len b fr al p k) : nsz T N CA CM CL CH f NO len b fr al p (zu Z k v) (k + 1) := fun j a c d => by
  by_cases e : j = k
  · subst e; rw [zu_self] at d; exact hv d
  · rw [zu_ne e] at d; exact h j a (by omega) d
def nrows (T N W CA CM CL CH f NO : Int → Int) (len b n fr al p : Int) : Prop := ∀ q : Int, p < q → q ≤ fr → nrow T N W CA CM CL CH f NO len b n fr al q
theorem nrows_0 {T N W CA CM CL CH f NO : Int → Int} {len b n fr al : Int} : nrows T N W CA CM CL CH f NO len b n fr al fr := fun q a c => by omega
theorem nrows_s {T N W CA CM CL CH f NO NO1 NO2 Z : Int → Int} {len b n fr al p : Int} (h : nrows T N W CA CM CL CH f NO len b n fr al p) (hg : ngr T N W CA CM CL CH f NO1 len b n fr al p Z) (hs : sgood T N W CA CM b n) (hn : n ≤ 12500) (e1 : nsame NO NO2 p) (e2 : nsame NO1 NO2 p) (hm : nmkb NO2 Z p n) : nrows T N W CA CM CL CH f NO2 len b n fr al (p - 1) := fun q a c => by
  by_cases z : q = p
  · rw [z]
    exact nrow_mk hg hs hn e2 (fun k k0 k1 => by rw [hm k k0 (by omega)]; exact ⟨fun y => y.2, fun y => ⟨k1, y⟩⟩)
  · exact nrow_keep (h q (by omega) c) hs hn (by omega) e1
theorem nsame_tr {A B C : Int → Int} {p : Int} (h : nsame A B p) (h2 : nsame B C p) : nsame A C p := fun q k a b c => (h2 q k a b c).trans (h q k a b c)
