/-! states that are made when they are needed -/
def ents (F : Int → Int) (n cnt : Int) : Prop := ∀ i : Int, 0 ≤ i → i < n → 0 ≤ F i ∧ F i < 2048 ∧ F i % 1024 < cnt
theorem ents_0 {F : Int → Int} {cnt : Int} : ents F 0 cnt := fun i h0 h1 => absurd h1 (by omega)
theorem ents_zu {F : Int → Int} {n cnt v : Int} (h : ents F n cnt) (hv : 0 ≤ v ∧ v < 2048 ∧ v % 1024 < cnt) : ents (zu F n v) (n + 1) cnt := fun i h0 h1 => by
  by_cases e : i = n
  · rw [e, zu_self]; exact hv
  · rw [zu_ne e]; exact h i h0 (by omega)
theorem ents_cpy {F P : Int → Int} {n b cnt : Int} (h : ents F n cnt) (hp : ents P b cnt) (hb : 0 ≤ b) : ents (zcpy F P 0 b n) (b + n) cnt := fun i h0 h1 => by
  by_cases e : b ≤ i ∧ i < b + n
  · rw [zcpy_in e]; exact h _ (by omega) (by omega)
  · rw [zcpy_out e]; exact hp i h0 (by omega)
def sks (F : Int → Int) (n cnt : Int) : Prop := ∀ i : Int, 0 ≤ i → i < n → 0 ≤ F i ∧ F i < cnt
theorem sks_zu {F : Int → Int} {n cnt v : Int} (h : sks F n cnt) (hv : 0 ≤ v ∧ v < cnt) : sks (zu F n v) (n + 1) cnt := fun i h0 h1 => by
  by_cases e : i = n
  · rw [e, zu_self]; exact hv
  · rw [zu_ne e]; exact h i h0 (by omega)
theorem sks_p {F : Int → Int} {n m cnt : Int} (h : sks F n cnt) (hm : m ≤ n) : sks F m cnt := fun i h0 h1 => h i h0 (by omega)
theorem sks_0 {F : Int → Int} {cnt : Int} : sks F 0 cnt := fun i h0 h1 => absurd h1 (by omega)
def bgo (B : Int → Int) (ct : Int) : Prop := B 0 = 0 ∧ ∀ i : Int, 0 ≤ i → i < ct → B i ≤ B (i + 1) ∧ B (i + 1) ≤ B i + 2048 ∧ B (i + 1) ≤ 8192
theorem bgo_n {B : Int → Int} {ct : Int} (h : bgo B ct) : ∀ (k : Nat) (i : Int), 0 ≤ i → i + k ≤ ct → B i ≤ B (i + k) ∧ B (i + k) ≤ B i + 2048 * k := by
  intro k
  induction k with
  | zero => intro i h0 h1; simp
  | succ k ih =>
    intro i h0 h1
    have a := ih i h0 (by omega)
    have b := h.2 (i + k) (by omega) (by omega)
    rw [show i + k + 1 = i + ((k + 1 : Nat) : Int) by omega] at b
    omega
theorem bgo.at {B : Int → Int} {ct : Int} (h : bgo B ct) (i : Int) (h0 : 0 ≤ i) (h1 : i ≤ ct) : 0 ≤ B i ∧ B i ≤ 8192 ∧ B i ≤ 2048 * i ∧ B i ≤ B ct := by
  have a := bgo_n h i.toNat 0 (by omega) (by omega)
  have b := bgo_n h (ct - i).toNat i h0 (by omega)
  rw [show (0 : Int) + (i.toNat : Int) = i by omega, h.1] at a
  rw [show i + ((ct - i).toNat : Int) = ct by omega] at b
  have c : B i ≤ 8192 := by
    by_cases e : i = 0
    · rw [e, h.1]; omega
    · have := (h.2 (i - 1) (by omega) (by omega)).2.2
      rw [show i - 1 + 1 = i by omega] at this; exact this
  omega
theorem bgo.st {B : Int → Int} {ct : Int} (h : bgo B ct) (i : Int) (h0 : 0 ≤ i) (h1 : i < ct) : 0 ≤ B i ∧ B i ≤ B (i + 1) ∧ B (i + 1) ≤ B i + 2048 ∧ B (i + 1) ≤ 8192 ∧ B (i + 1) ≤ B ct := by
  have a := h.at i h0 (by omega)
  have b := h.2 i h0 h1
  have c := h.at (i + 1) (by omega) (by omega)
  omega
theorem bgo_0 {B : Int → Int} {ct : Int} (h : bgo B ct) : bgo B 0 := ⟨h.1, fun i h0 h1 => absurd h1 (by omega)⟩
theorem bgo_s {B : Int → Int} {ct v : Int} (h : bgo B ct) (h0 : 0 ≤ ct) (hv : B ct ≤ v ∧ v ≤ B ct + 2048 ∧ v ≤ 8192) : bgo (zu B (ct + 1) v) (ct + 1) := by
  refine ⟨by rw [zu_ne (by omega)]; exact h.1, fun i i0 i1 => ?_⟩
  by_cases e : i = ct
  · rw [e, zu_ne (show ct ≠ ct + 1 by omega), zu_self]; exact hv
  · rw [zu_ne (by omega), zu_ne (by omega)]; exact h.2 i i0 (by omega)
def ego (E : Int → Int) (ct sg : Int) : Prop := ∀ s t : Int, 0 ≤ s → s < ct → 0 ≤ t → t < sg → E (s * sg + t) = 0 ∨ (2 ≤ E (s * sg + t) ∧ E (s * sg + t) / 2 ≤ ct)
theorem ego_0 {E : Int → Int} {sg : Int} : ego E 0 sg := fun s t h0 h1 => absurd h1 (by omega)
theorem z_split {a b sg s t : Int} (ht : 0 ≤ t ∧ t < sg) (hs : 0 ≤ s ∧ s < sg) (e : a * sg + t = b * sg + s) : a = b := by
  have h1 : (a - b) * sg = s - t := by rw [Int.sub_mul]; omega
  rcases Int.lt_trichotomy a b with q | q | q
  · have : (b - a) * sg ≥ 1 * sg := Int.mul_le_mul_of_nonneg_right (by omega) (by omega)
    have e2 : (b - a) * sg = -((a - b) * sg) := by rw [← Int.neg_mul]; congr 1; omega
    omega
  · exact q
  · have : (a - b) * sg ≥ 1 * sg := Int.mul_le_mul_of_nonneg_right (by omega) (by omega)
    omega
theorem ego_new {E : Int → Int} {ct sg : Int} (h : ego E ct sg) (hc : 0 ≤ ct) : ego (zfill E (ct * sg) ((ct + 1) * sg) 0) (ct + 1) sg := fun s t h0 h1 h2 h3 => by
  have e1 : (ct + 1) * sg = ct * sg + sg := by rw [Int.add_mul, Int.one_mul]
  by_cases e : s = ct
  · left; rw [e, zfill_in (by omega)]
  · have hs : s * sg + sg ≤ ct * sg := by
      have : (s + 1) * sg ≤ ct * sg := Int.mul_le_mul_of_nonneg_right (by omega) (by omega)
      rw [Int.add_mul, Int.one_mul] at this; exact this
    rw [zfill_out (by omega)]
    rcases h s t h0 (by omega) h2 h3 with q | q
    · exact Or.inl q
    · exact Or.inr ⟨q.1, by omega⟩
theorem ego_set {E : Int → Int} {ct sg s0 t0 v x : Int} (h : ego E ct sg) (hx : x = s0 * sg + t0) (hv : 2 ≤ v ∧ v / 2 ≤ ct) : ego (zu E x v) ct sg := fun s t h0 h1 h2 h3 => by
  by_cases e : s * sg + t = x
  · rw [e, zu_self]; exact Or.inr hv
  · rw [zu_ne e]; exact h s t h0 h1 h2 h3
theorem ego_up {E : Int → Int} {ct c2 sg : Int} (h : ego E ct sg) (e : ct = c2) : ego E c2 sg := e ▸ h
theorem ent_lo {e cnt : Int} (h : 0 ≤ e ∧ e < cnt) (hc : cnt ≤ 808) : 0 ≤ e ∧ e < 2048 ∧ e % 1024 < cnt := by omega
theorem ent_hi {e cnt : Int} (h : 0 ≤ e ∧ e < cnt) (hc : cnt ≤ 808) : 0 ≤ e + 1024 ∧ e + 1024 < 2048 ∧ (e + 1024) % 1024 < cnt := by omega
def zFC : Int → Int := fun i => ([0, 10, 11, 48, 58, 65, 91, 95, 96, 97, 123, 128] : List Int).getD i.toNat 0
theorem zFC_in : ∀ k : Int, 0 ≤ k → k < 12 → 0 ≤ zFC k ∧ zFC k ≤ 200 := z_all 12 (by decide)
