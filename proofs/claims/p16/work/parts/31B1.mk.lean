/-! rows within bounds; marks -/
def rgs (f : Int → Int) (m lo hi : Int) : Prop := ∀ k : Int, 0 ≤ k → k < m → lo ≤ f k ∧ f k ≤ hi
theorem rgs_w {f : Int → Int} {m lo hi m2 lo2 hi2 : Int} (h : rgs f m lo hi) (q : m2 ≤ m ∧ lo2 ≤ lo ∧ hi ≤ hi2) : rgs f m2 lo2 hi2 := fun k h0 h1 => by have := h k h0 (by omega); omega
theorem rgs_zu {f : Int → Int} {m lo hi i v : Int} (h : rgs f m lo hi) (q : lo ≤ v ∧ v ≤ hi) : rgs (zu f i v) m lo hi := fun k h0 h1 => by unfold zu; split; (exact q); (exact h k h0 h1)
theorem rgs_fill {f : Int → Int} {m lo hi a b v : Int} (h : rgs f m lo hi) (q : lo ≤ v ∧ v ≤ hi) : rgs (zfill f a b v) m lo hi := fun k h0 h1 => by unfold zfill; split; (exact q); (exact h k h0 h1)
theorem rgs_fl {f : Int → Int} {m lo hi v : Int} (q : lo ≤ v ∧ v ≤ hi) : rgs (zfill f 0 m v) m lo hi := fun k h0 h1 => by rw [zfill_in (by omega)]; exact q
theorem rgs_c {c m lo hi : Int} (q : lo ≤ c ∧ c ≤ hi) : rgs (fun _ => c) m lo hi := fun k h0 h1 => q
theorem rgs_cpy {f g : Int → Int} {m m1 lo hi lo1 hi1 s d n : Int} (h : rgs f m1 lo1 hi1) (k : rgs g m lo hi) (q : 0 ≤ s ∧ s + n ≤ m1 ∧ lo ≤ lo1 ∧ hi1 ≤ hi) : rgs (zcpy f g s d n) m lo hi := fun j h0 h1 => by
  unfold zcpy; split
  · have := h (s + (j - d)) (by omega) (by omega); omega
  · exact k j h0 h1
theorem ix_inj {w p p' a a' : Int} (h : 0 ≤ a ∧ a < w) (h' : 0 ≤ a' ∧ a' < w) (e : p' * w + a' = p * w + a) : p' = p ∧ a' = a := by
  rcases Int.lt_trichotomy p' p with q | q | q
  · have := Int.mul_le_mul_of_nonneg_right (show p' + 1 ≤ p by omega) (show 0 ≤ w by omega)
    rw [Int.add_mul, Int.one_mul] at this; omega
  · subst q; exact ⟨rfl, by omega⟩
  · have := Int.mul_le_mul_of_nonneg_right (show p + 1 ≤ p' by omega) (show 0 ≤ w by omega)
    rw [Int.add_mul, Int.one_mul] at this; omega
def eff (M : Int → Int) (w df s p : Int) : Prop := p < df ∧ bt (M (p * w + s / 32)) (s % 32)
theorem mark_a {M : Int → Int} {w df s p s' p' : Int} (hs : 0 ≤ s ∧ s < 32 * w) (hs' : 0 ≤ s' ∧ s' < 32 * w) (hp : p < df) : eff (zu M (p * w + s / 32) (stb (M (p * w + s / 32)) (s % 32))) w df s' p' ↔ eff M w df s' p' ∨ (s' = s ∧ p' = p) := by
  by_cases e : p' * w + s' / 32 = p * w + s / 32
  · obtain ⟨e1, e2⟩ := ix_inj (show 0 ≤ s / 32 ∧ s / 32 < w by omega) (show 0 ≤ s' / 32 ∧ s' / 32 < w by omega) e
    subst e1
    unfold eff
    rw [e, zu_self, bt_stb (by omega) (by omega)]
    constructor
    · rintro ⟨a, b | b⟩
      · exact Or.inl ⟨a, b⟩
      · exact Or.inr ⟨by omega, rfl⟩
    · rintro (⟨a, b⟩ | ⟨a, _⟩)
      · exact ⟨a, Or.inl b⟩
      · exact ⟨hp, Or.inr (by rw [a])⟩
  · unfold eff
    rw [zu_ne e]
    constructor
    · exact fun h => Or.inl h
    · rintro (h | ⟨a, b⟩)
      · exact h
      · rw [a, b] at e; exact absurd rfl e
theorem mark_b {M : Int → Int} {w df p s' p' : Int} (hs' : 0 ≤ s' ∧ s' < 32 * w) (h : df ≤ p) : eff (zfill M (df * w) ((p + 1) * w) 0) w (p + 1) s' p' ↔ eff M w df s' p' := by
  unfold eff
  by_cases e : p' < df
  · have := Int.mul_le_mul_of_nonneg_right (show p' + 1 ≤ df by omega) (show 0 ≤ w by omega)
    rw [Int.add_mul, Int.one_mul] at this
    rw [zfill_out (by omega)]
    exact ⟨fun q => ⟨e, q.2⟩, fun q => ⟨by omega, q.2⟩⟩
  · constructor
    · rintro ⟨a, b⟩
      have h1 := Int.mul_le_mul_of_nonneg_right (show p' + 1 ≤ p + 1 by omega) (show 0 ≤ w by omega)
      have h2 := Int.mul_le_mul_of_nonneg_right (show df ≤ p' by omega) (show 0 ≤ w by omega)
      rw [Int.add_mul p', Int.one_mul] at h1
      rw [zfill_in (by omega)] at b
      exact absurd b (bt_0 _)
    · exact fun q => absurd q.1 e
def stn (n : Nat) : Prop := n = 64 ∨ n = 512 ∨ n = 4096 ∨ n = 32768 ∨ n = 262144 ∨ n = 1616809
def stT (n : Nat) : Nat := if n = 64 then 64 else if n = 512 then 576 else if n = 4096 then 4672 else if n = 32768 then 37440 else if n = 262144 then 299584 else 1916393
def stC (n : Nat) : Nat := if n = 64 then 0 else if n = 512 then 1 else if n = 4096 then 2 else if n = 32768 then 3 else if n = 262144 then 4 else 5
theorem stn_in {n : Nat} (h : stn n) : 64 ≤ n ∧ n ≤ 1616809 := by unfold stn at h; omega
theorem st_8 {n w : Nat} (h : stn n) (hw : (w : Int) = 8 * (n : Int)) (hl : (w : Int) ≤ 1616809) : stn w ∧ stT w = stT n + w ∧ stC w = stC n + 1 ∧ stT w ≤ 1916393 ∧ stC w ≤ 5 := by
  have e : w = 8 * n := by omega
  subst e
  rcases h with h | h | h | h | h | h <;> subst h <;> first | (exfalso; omega) | (unfold stn stT stC; decide)
theorem st_l {n : Nat} (h : stn n) (h1 : (n : Int) < 1616809) (h2 : 1616809 < 8 * (n : Int)) : stn 1616809 ∧ stT 1616809 = stT n + 1616809 ∧ stC 1616809 = stC n + 1 ∧ stT 1616809 ≤ 1916393 ∧ stC 1616809 ≤ 5 := by
  rcases h with h | h | h | h | h | h <;> subst h <;> first | (exfalso; omega) | (unfold stn stT stC; decide)
def sko (cnt n wi e : Int) : Prop := (0 ≤ e ∧ e % 1024 < cnt ∧ e / 1024 ≤ n) ∨ (e < 0 ∧ 8192 ≤ -1 - e ∧ -1 - e < 4096 * wi ∧ (-1 - e) % 4096 ≤ n + 1)
def skos (SK : Int → Int) (dp cnt n wi : Int) : Prop := ∀ k : Int, 0 ≤ k → k < dp → sko cnt n wi (SK k)
theorem sko_s {cnt n wi s p : Int} (h : 0 ≤ s ∧ s < cnt ∧ cnt ≤ 1000 ∧ 0 ≤ p ∧ p ≤ n) : sko cnt n wi (p * 1024 + s) := Or.inl (by omega)
theorem sko_u {cnt n wi s v : Int} (h : 2 ≤ s ∧ s < wi ∧ -1 ≤ v ∧ v ≤ n ∧ n ≤ 2000) : sko cnt n wi (-1 - (s * 4096 + (v + 1))) := Or.inr (by omega)
theorem skos_0 {SK : Int → Int} {cnt n wi : Int} : skos SK 0 cnt n wi := fun k h0 h1 => absurd h1 (by omega)
theorem skos_s {SK SK2 : Int → Int} {dp cnt n wi e : Int} (h : skos SK dp cnt n wi) (q : ∀ k : Int, 0 ≤ k → k < dp → SK2 k = SK k) (hv : SK2 dp = e) (he : sko cnt n wi e) : skos SK2 (dp + 1) cnt n wi := fun k h0 h1 => by
  by_cases z : k = dp
  · rw [z, hv]; exact he
  · rw [q k h0 (by omega)]; exact h k h0 (by omega)
theorem skos_p {SK : Int → Int} {dp dp2 cnt n wi : Int} (h : skos SK dp cnt n wi) (q : dp2 ≤ dp) : skos SK dp2 cnt n wi := fun k h0 h1 => h k h0 (by omega)
theorem sko_in {cnt n wi e : Int} (h : sko cnt n wi e) (q : 0 ≤ n ∧ n ≤ 2000 ∧ 0 ≤ wi ∧ wi ≤ 20) : -100000 ≤ e ∧ e ≤ 3000000 := by unfold sko at h; omega
theorem sko_pos {cnt n wi e : Int} (h : sko cnt n wi e) (q : 0 ≤ e) : e % 1024 < cnt ∧ e / 1024 ≤ n := by unfold sko at h; omega
theorem sko_neg {cnt n wi e : Int} (h : sko cnt n wi e) (q : e < 0) : 8192 ≤ -1 - e ∧ -1 - e < 4096 * wi ∧ (-1 - e) % 4096 ≤ n + 1 := by unfold sko at h; omega
def spo (fo : Int) (SP : Int → Int) (wi n : Int) : Prop := fo = 1 → rgs SP wi (-1) n ∧ 0 ≤ SP 0 ∧ 0 ≤ SP 1
theorem spo_0 {SP : Int → Int} {wi n : Int} : spo 0 SP wi n := fun h => absurd h (by decide)
theorem spo_arr {fo : Int} {WK SP : Int → Int} {wi n p : Int} (h : rgs WK wi (-1) n) (h0 : 0 ≤ WK 0) (hw : 2 ≤ wi ∧ wi ≤ 20) (hp : 0 ≤ p ∧ p ≤ n) : spo fo (zu (zcpy WK SP 0 0 wi) 1 p) wi n := fun _ => by
  have e : ∀ k : Int, 0 ≤ k → k < wi → zcpy WK SP 0 0 wi k = WK k := fun k a b => by rw [zcpy_in (by omega), show (0 : Int) + (k - 0) = k by omega]
  refine ⟨fun k a b => ?_, ?_, ?_⟩
  · by_cases q : k = 1
    · subst q; rw [zu_self]; omega
    · rw [zu_ne q, e k a b]; exact h k a b
  · rw [zu_ne (by decide), e 0 (by omega) (by omega)]; exact h0
  · rw [zu_self]; exact hp.1
def fst (hw fl fy : Int) : Prop := (fy = 1 ∧ (hw = 2 ∨ fl < 16)) ∨ (fy = 0 ∧ ¬ hw = 2 ∧ 16 ≤ fl)
