/-! what holds at a place, what a step takes there -/
def wat (f : Int → Int) (n p : Int) : Prop := (0 ≤ p ∧ p < n) ∧ isW (f p)
def mhld (f : Int → Int) (n p a : Int) : Prop := (a = 0 ∧ p = 0) ∨ (a = 1 ∧ p = n) ∨ (a = 2 ∧ ¬ (wat f n (p - 1) ↔ wat f n p)) ∨ (a = 3 ∧ (wat f n (p - 1) ↔ wat f n p)) ∨ (a = 4 ∧ (p = 0 ∨ f (p - 1) = 10)) ∨ (a = 5 ∧ (p = n ∨ f p = 10))
theorem mhld_0 {f : Int → Int} {n p : Int} : mhld f n p 0 ↔ p = 0 := ⟨fun h => by rcases h with h | h | h | h | h | h <;> first | exact h.2 | (exact absurd h.1 (by decide)), fun h => Or.inl ⟨rfl, h⟩⟩
theorem mhld_1 {f : Int → Int} {n p : Int} : mhld f n p 1 ↔ p = n := ⟨fun h => by rcases h with h | h | h | h | h | h <;> first | (exact absurd h.1 (by decide)) | exact h.2, fun h => Or.inr (Or.inl ⟨rfl, h⟩)⟩
theorem mhld_2 {f : Int → Int} {n p : Int} : mhld f n p 2 ↔ ¬ (wat f n (p - 1) ↔ wat f n p) := ⟨fun h => by rcases h with h | h | h | h | h | h <;> first | (exact absurd h.1 (by decide)) | exact h.2, fun h => Or.inr (Or.inr (Or.inl ⟨rfl, h⟩))⟩
theorem mhld_3 {f : Int → Int} {n p : Int} : mhld f n p 3 ↔ (wat f n (p - 1) ↔ wat f n p) := ⟨fun h => by rcases h with h | h | h | h | h | h <;> first | (exact absurd h.1 (by decide)) | exact h.2, fun h => Or.inr (Or.inr (Or.inr (Or.inl ⟨rfl, h⟩)))⟩
theorem mhld_4 {f : Int → Int} {n p : Int} : mhld f n p 4 ↔ (p = 0 ∨ f (p - 1) = 10) := ⟨fun h => by rcases h with h | h | h | h | h | h <;> first | (exact absurd h.1 (by decide)) | exact h.2, fun h => Or.inr (Or.inr (Or.inr (Or.inr (Or.inl ⟨rfl, h⟩))))⟩
theorem mhld_5 {f : Int → Int} {n p : Int} : mhld f n p 5 ↔ (p = n ∨ f p = 10) := ⟨fun h => by rcases h with h | h | h | h | h | h <;> first | (exact absurd h.1 (by decide)) | exact h.2, fun h => Or.inr (Or.inr (Or.inr (Or.inr (Or.inr ⟨rfl, h⟩))))⟩
def tkIn (CL CH : Int → Int) (c a m : Int) : Prop := ∃ j : Int, a ≤ j ∧ j < a + m ∧ CL j ≤ c ∧ c ≤ CH j
/-- v bytes are taken by step k at p, where the character is c and has w bytes -/
def tkv (T CA CM CL CH : Int → Int) (c w n k p v : Int) : Prop := (T k = 2 ∧ p < n ∧ v = 1) ∨ (T k = 2 ∧ n ≤ p ∧ v = 0) ∨ (T k = 1 ∧ 0 ≤ c ∧ tkIn CL CH c (CA k) (CM k) ∧ v = w) ∨ (¬ T k = 2 ∧ ¬ (T k = 1 ∧ 0 ≤ c ∧ tkIn CL CH c (CA k) (CM k)) ∧ v = 0)
theorem tkv_fun {T CA CM CL CH : Int → Int} {c w n k p v v2 : Int} (h : tkv T CA CM CL CH c w n k p v) (h2 : tkv T CA CM CL CH c w n k p v2) : v = v2 := by
  rcases h with ⟨a, b, e⟩ | ⟨a, b, e⟩ | ⟨a, b, t, e⟩ | ⟨a, b, e⟩ <;> rcases h2 with ⟨a2, b2, e2⟩ | ⟨a2, b2, e2⟩ | ⟨a2, b2, t2, e2⟩ | ⟨a2, b2, e2⟩ <;> first | omega | exact absurd ⟨a, b, t⟩ b2 | exact absurd ⟨a2, b2, t2⟩ b
def tkno (CL CH : Int → Int) (c a j : Int) : Prop := ∀ i : Int, a ≤ i → i < j → ¬ (CL i ≤ c ∧ c ≤ CH i)
theorem tkno_0 {CL CH : Int → Int} {c a : Int} : tkno CL CH c a a := fun i h0 h1 => by omega
theorem tkno_s {CL CH : Int → Int} {c a j : Int} (h : tkno CL CH c a j) (hn : ¬ (CL j ≤ c ∧ c ≤ CH j)) : tkno CL CH c a (j + 1) := fun i h0 h1 => by
  by_cases e : i = j
  · rw [e]; exact hn
  · exact h i h0 (by omega)
