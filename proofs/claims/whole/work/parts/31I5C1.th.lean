/-! threads -/
def tho (K : Int → Int) (cnt e : Int) : Prop := 0 ≤ e ∧ e % 1024 < cnt ∧ e < 2048 ∧ (K (e % 1024) ≤ 2 ∨ (e < 1024 ∧ K (e % 1024) = 8))
def thos (K : Int → Int) (cnt : Int) (T : Int → Int) (m : Int) : Prop := ∀ i : Int, 0 ≤ i → i < m → tho K cnt (T i)
theorem thos_0 {K T : Int → Int} {cnt : Int} : thos K cnt T 0 := fun i h0 h1 => absurd h1 (by omega)
theorem thos_s {K T : Int → Int} {cnt m e : Int} (h : thos K cnt T m) (he : tho K cnt e) : thos K cnt (zu T m e) (m + 1) := fun i h0 h1 => by
  by_cases q : i = m
  · rw [q, zu_self]; exact he
  · rw [zu_ne q]; exact h i h0 (by omega)
theorem tho_a {K : Int → Int} {cnt x : Int} (h : 0 ≤ x ∧ x < cnt ∧ cnt ≤ 808) (k : K x ≤ 2 ∨ K x = 8) : tho K cnt x := by
  have e : x % 1024 = x := by omega
  unfold tho; rw [e]; exact ⟨h.1, h.2.1, by omega, by rcases k with k | k; (exact Or.inl k); (exact Or.inr ⟨by omega, k⟩)⟩
theorem tho_w {K : Int → Int} {cnt x : Int} (h : 0 ≤ x ∧ x < cnt ∧ cnt ≤ 808) (k : K x ≤ 2) : tho K cnt (x + 1024) := by
  have e : (x + 1024) % 1024 = x := by omega
  unfold tho; rw [e]; exact ⟨by omega, h.2.1, by omega, Or.inl k⟩
theorem tho_in {K : Int → Int} {cnt e : Int} (h : tho K cnt e) : 0 ≤ e ∧ e < 2048 ∧ e % 1024 < cnt := ⟨h.1, h.2.2.1, h.2.1⟩
theorem tho_t {K : Int → Int} {cnt e : Int} (h : tho K cnt e) (q : 1024 ≤ e ∨ ¬ K (e % 1024) = 8) : K (e % 1024) ≤ 2 := by
  rcases h.2.2.2 with k | ⟨k1, k2⟩
  · exact k
  · rcases q with q | q; (omega); (exact absurd k2 q)
/-- rows of spans -/
def thr (T : Int → Int) (m wi n : Int) : Prop := ∀ i : Int, 0 ≤ i → i < m → 0 ≤ T (i * wi) ∧ ∀ j : Int, 0 ≤ j → j < wi → -1 ≤ T (i * wi + j) ∧ T (i * wi + j) ≤ n
theorem thr_0 {T : Int → Int} {wi n : Int} : thr T 0 wi n := fun i h0 h1 => absurd h1 (by omega)
theorem thr_s {T WK : Int → Int} {m wi n : Int} (hm : 0 ≤ m) (hw : 2 ≤ wi ∧ wi ≤ 20) (h : thr T m wi n) (hk : rgs WK wi (-1) n) (h0 : 0 ≤ WK 0) : thr (zcpy WK T 0 (m * wi) wi) (m + 1) wi n := by
  intro i i0 i1
  by_cases q : i = m
  · subst q
    constructor
    · rw [zcpy_in (by omega), show (0 : Int) + (i * wi - i * wi) = 0 by omega]; exact h0
    · intro j j0 j1
      rw [zcpy_in (by omega), show (0 : Int) + (i * wi + j - i * wi) = j by omega]; exact hk j j0 j1
  · have g := Int.mul_le_mul_of_nonneg_right (show i + 1 ≤ m by omega) (show 0 ≤ wi by omega)
    rw [Int.add_mul, Int.one_mul] at g
    obtain ⟨a, b⟩ := h i i0 (by omega)
    constructor
    · rw [zcpy_out (by omega)]; exact a
    · intro j j0 j1
      rw [zcpy_out (by omega)]; exact b j j0 j1
theorem thr_g {T WK : Int → Int} {m wi n i : Int} (h : thr T m wi n) (hi : 0 ≤ i ∧ i < m) (hw : 2 ≤ wi ∧ wi ≤ 20) : rgs (zcpy T WK (i * wi) 0 wi) wi (-1) n ∧ 0 ≤ zcpy T WK (i * wi) 0 wi 0 := by
  obtain ⟨a, b⟩ := h i hi.1 hi.2
  constructor
  · intro k k0 k1
    rw [zcpy_in (by omega), show i * wi + (k - 0) = i * wi + k by omega]; exact b k k0 k1
  · rw [zcpy_in (by omega), show i * wi + (0 - 0) = i * wi by omega]; exact a
def tko (cnt n wi e : Int) : Prop := (0 ≤ e ∧ e < cnt) ∨ (e < 0 ∧ 8192 ≤ -1 - e ∧ -1 - e < 4096 * wi ∧ (-1 - e) % 4096 ≤ n + 1)
def tkos (SK : Int → Int) (dp cnt n wi : Int) : Prop := ∀ k : Int, 0 ≤ k → k < dp → tko cnt n wi (SK k)
theorem tko_s {cnt n wi s : Int} (h : 0 ≤ s ∧ s < cnt) : tko cnt n wi s := Or.inl h
theorem tko_u {cnt n wi s v : Int} (h : 2 ≤ s ∧ s < wi ∧ -1 ≤ v ∧ v ≤ n ∧ n ≤ 2000) : tko cnt n wi (-1 - (s * 4096 + (v + 1))) := Or.inr (by omega)
theorem tkos_0 {SK : Int → Int} {cnt n wi : Int} : tkos SK 0 cnt n wi := fun k h0 h1 => absurd h1 (by omega)
theorem tkos_zu {SK : Int → Int} {dp cnt n wi e : Int} (h : tkos SK dp cnt n wi) (he : tko cnt n wi e) : tkos (zu SK dp e) (dp + 1) cnt n wi := fun k h0 h1 => by
  by_cases z : k = dp
  · rw [z, zu_self]; exact he
  · rw [zu_ne z]; exact h k h0 (by omega)
theorem tkos_p {SK : Int → Int} {dp dp2 cnt n wi : Int} (h : tkos SK dp cnt n wi) (q : dp2 ≤ dp) : tkos SK dp2 cnt n wi := fun k h0 h1 => h k h0 (by omega)
theorem tko_in {cnt n wi e : Int} (h : tko cnt n wi e) (q : 0 ≤ cnt ∧ cnt ≤ 808 ∧ 0 ≤ wi ∧ wi ≤ 20) : -100000 ≤ e ∧ e ≤ 808 := by unfold tko at h; omega
theorem tko_pos {cnt n wi e : Int} (h : tko cnt n wi e) (q : 0 ≤ e) : e < cnt := by unfold tko at h; omega
theorem tko_neg {cnt n wi e : Int} (h : tko cnt n wi e) (q : e < 0) : 8192 ≤ -1 - e ∧ -1 - e < 4096 * wi ∧ (-1 - e) % 4096 ≤ n + 1 := by unfold tko at h; omega
/-- the rooms of the threads' rows: none as yet, or all -/
def thl (a b c d e f : Nat) : Prop := (a = 801 ∧ b = 801 ∧ c = 16020 ∧ d = 16020 ∧ e = 2048 ∧ f = 809) ∨ (a = 0 ∧ b = 0 ∧ c = 0 ∧ d = 0 ∧ e = 0 ∧ f = 0)
def fst1 (hw fl fy : Int) : Prop := (fy = 1 ∧ ¬ hw = 2 ∧ fl < 16) ∨ (fy = 0 ∧ (hw = 2 ∨ 16 ≤ fl))
