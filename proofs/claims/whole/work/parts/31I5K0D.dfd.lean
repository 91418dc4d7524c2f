/-! a program's arrays as far as they count -/
def trc (n d : Int) (F : Int → Int) : Int → Int := fun i => if 0 ≤ i ∧ i < n then F i else d
theorem trc_in {n d i : Int} {F : Int → Int} (h0 : 0 ≤ i) (h1 : i < n) : trc n d F i = F i := if_pos ⟨h0, h1⟩
theorem trc_out {n d i : Int} {F : Int → Int} (h : ¬ (0 ≤ i ∧ i < n)) : trc n d F i = d := if_neg h
section Trc
variable {K N O RR : Int → Int} {cnt ru wi : Int}
theorem trc_tg {x : Int} (h0 : 0 ≤ x) (h1 : x < cnt) : tgC (trc cnt 9 K) x = tgC K x := by
  unfold tgC
  rw [trc_in h0 h1]
theorem trc_has {x c : Int} (hp : prok K N O RR cnt ru wi) (h0 : 0 ≤ x) (h1 : x < cnt) : phas (trc cnt 9 K) (trc cnt 0 O) (trc ru 0 RR) x c ↔ phas K O RR x c := by
  unfold phas
  rw [trc_in h0 h1, trc_in h0 h1]
  constructor
  · rintro (h | ⟨k, j, j0, j1, j2, j3⟩)
    · exact Or.inl h
    · obtain ⟨r0, r1, r2, _⟩ := (hp x h0 h1).2.2.2.2.2.2 k
      rw [trc_in r0 (by omega)] at j1
      have e1 : trc ru 0 RR (O x + 1 + 2 * j) = RR (O x + 1 + 2 * j) := trc_in (by omega) (by omega)
      have e2 : trc ru 0 RR (O x + 1 + (2 * j + 1)) = RR (O x + 1 + (2 * j + 1)) := trc_in (by omega) (by omega)
      have j4 : trc ru 0 RR (O x + 1 + 2 * j) ≤ c := j2
      have j5 : c ≤ trc ru 0 RR (O x + 1 + (2 * j + 1)) := j3
      rw [e1] at j4
      rw [e2] at j5
      exact Or.inr ⟨k, j, j0, j1, j4, j5⟩
  · rintro (h | ⟨k, j, j0, j1, j2, j3⟩)
    · exact Or.inl h
    · obtain ⟨r0, r1, r2, _⟩ := (hp x h0 h1).2.2.2.2.2.2 k
      have e1 : trc ru 0 RR (O x + 1 + 2 * j) = RR (O x + 1 + 2 * j) := trc_in (by omega) (by omega)
      have e2 : trc ru 0 RR (O x + 1 + (2 * j + 1)) = RR (O x + 1 + (2 * j + 1)) := trc_in (by omega) (by omega)
      refine Or.inr ⟨k, j, j0, by rw [trc_in r0 (by omega)]; exact j1, ?_, ?_⟩
      · show trc ru 0 RR (O x + 1 + 2 * j) ≤ c
        rw [e1]; exact j2
      · show c ≤ trc ru 0 RR (O x + 1 + (2 * j + 1))
        rw [e2]; exact j3
theorem tgC_k {x t : Int} (h : tgC K x = t) : (t = 0 → K x = 0 ∨ K x = 1) ∧ (t = 1 → K x = 2) ∧ (t = 2 → K x = 3) ∧ (t = 3 → K x = 6) ∧ (t = 4 → K x = 7) ∧ (t = 5 → K x = 8) := by
  unfold tgC at h
  (repeat' split at h) <;> omega
theorem trc_chl {f : Int → Int} {n x p y q : Int} (hp : prok K N O RR cnt ru wi) (h0 : 0 ≤ x) (h1 : x < cnt) : chl (tgC (trc cnt 9 K)) (trc cnt 0 N) (trc cnt 0 O) (phas (trc cnt 9 K) (trc cnt 0 O) (trc ru 0 RR)) f n x p y q ↔ chl (tgC K) N O (phas K O RR) f n x p y q := by
  unfold chl
  rw [trc_tg h0 h1, trc_in h0 h1, trc_in h0 h1, trc_has hp h0 h1]
/-- steps stay within the program -/
theorem chl_in {f : Int → Int} {n x p y q : Int} (hp : prok K N O RR cnt ru wi) (h0 : 0 ≤ x) (h1 : x < cnt) (h : chl (tgC K) N O (phas K O RR) f n x p y q) : 0 ≤ y ∧ y < cnt := by
  have a := (hp x h0 h1).2.1
  rcases h with ⟨_, _, e, _⟩ | ⟨_, _, e, _⟩ | ⟨_, _, e, _⟩ | ⟨t, e | e, _⟩ | ⟨_, e, _⟩
  · rw [e]; exact a
  · rw [e]; exact a
  · rw [e]; exact a
  · rw [e]; exact a
  · rw [e]; exact (hp x h0 h1).2.2.1 ((tgC_k t).2.2.2.1 rfl)
  · rw [e]; exact a
theorem RN_trc {f : Int → Int} {n e : Int} (hp : prok K N O RR cnt ru wi) : ∀ (k : Nat) (x p : Int), 0 ≤ x → x < cnt → (rnK (tgC (trc cnt 9 K)) (trc cnt 0 N) (trc cnt 0 O) (phas (trc cnt 9 K) (trc cnt 0 O) (trc ru 0 RR)) f n k x p e ↔ rnK (tgC K) N O (phas K O RR) f n k x p e) := by
  intro k
  induction k with
  | zero =>
    intro x p h0 h1
    show (tgC (trc cnt 9 K) x = 5 ∧ e = p) ↔ (tgC K x = 5 ∧ e = p)
    rw [trc_tg h0 h1]
  | succ k ih =>
    intro x p h0 h1
    constructor
    · rintro ⟨y, q, q1, q2⟩
      have c := (trc_chl hp h0 h1).mp q1
      have b := chl_in hp h0 h1 c
      exact ⟨y, q, c, (ih y q b.1 b.2).mp q2⟩
    · rintro ⟨y, q, q1, q2⟩
      have b := chl_in hp h0 h1 q1
      exact ⟨y, q, (trc_chl hp h0 h1).mpr q1, (ih y q b.1 b.2).mpr q2⟩
theorem RN_tr {f : Int → Int} {n x p e : Int} (hp : prok K N O RR cnt ru wi) (h0 : 0 ≤ x) (h1 : x < cnt) : RN (tgC (trc cnt 9 K)) (trc cnt 0 N) (trc cnt 0 O) (phas (trc cnt 9 K) (trc cnt 0 O) (trc ru 0 RR)) f n x p e ↔ RN (tgC K) N O (phas K O RR) f n x p e := by
  constructor
  · rintro ⟨k, q⟩; exact ⟨k, (RN_trc hp k x p h0 h1).mp q⟩
  · rintro ⟨k, q⟩; exact ⟨k, (RN_trc hp k x p h0 h1).mpr q⟩
end Trc
/-! a version's program, kept beside -/
def cvV (cv : Int → Int) (v j : Int) : Int := cv (1000000 + 1000000 * v + j)
def veK (cv : Int → Int) (v : Int) : Int → Int := trc (cv v) 9 (fun i => cvV cv v i)
def veN (cv : Int → Int) (v : Int) : Int → Int := trc (cv v) 0 (fun i => cvV cv v (1000 + i))
def veO (cv : Int → Int) (v : Int) : Int → Int := trc (cv v) 0 (fun i => cvV cv v (2000 + i))
def veR (cv : Int → Int) (v : Int) : Int → Int := trc (cvV cv v 3002) 0 (fun i => cvV cv v (4000 + i))
/-- the program of a version: its states, ranges, first state, whether it looks around -/
def prV (cv : Int → Int) (v : Int) (K N O RR : Int → Int) (cnt ru fi la : Int) : Prop := cv v = cnt ∧ (∀ i : Int, 0 ≤ i → i < cnt → cvV cv v i = K i ∧ cvV cv v (1000 + i) = N i ∧ cvV cv v (2000 + i) = O i) ∧ cvV cv v 3000 = fi ∧ cvV cv v 3001 = la ∧ cvV cv v 3002 = ru ∧ ∀ j : Int, 0 ≤ j → j < ru → cvV cv v (4000 + j) = RR j
theorem trc_cg {n d : Int} {F F2 : Int → Int} (h : ∀ i : Int, 0 ≤ i → i < n → F i = F2 i) : trc n d F = trc n d F2 := by
  funext i
  by_cases c : 0 ≤ i ∧ i < n
  · rw [trc_in c.1 c.2, trc_in c.1 c.2]; exact h i c.1 c.2
  · rw [trc_out c, trc_out c]
section PrV
variable {cv K N O RR : Int → Int} {v cnt ru fi la : Int}
theorem prV.k (h : prV cv v K N O RR cnt ru fi la) : veK cv v = trc cnt 9 K := by
  unfold veK
  rw [h.1]
  exact trc_cg (fun i a b => (h.2.1 i a b).1)
theorem prV.n (h : prV cv v K N O RR cnt ru fi la) : veN cv v = trc cnt 0 N := by
  unfold veN
  rw [h.1]
  exact trc_cg (fun i a b => (h.2.1 i a b).2.1)
theorem prV.o (h : prV cv v K N O RR cnt ru fi la) : veO cv v = trc cnt 0 O := by
  unfold veO
  rw [h.1]
  exact trc_cg (fun i a b => (h.2.1 i a b).2.2)
theorem prV.r (h : prV cv v K N O RR cnt ru fi la) : veR cv v = trc ru 0 RR := by
  unfold veR
  rw [h.2.2.2.2.1]
  exact trc_cg (fun i a b => h.2.2.2.2.2 i a b)
end PrV
/-! kept sets and edges -/
def kpS (PO BG : Int → Int) (s y : Int) : Prop := ∃ i : Int, BG s ≤ i ∧ i < BG (s + 1) ∧ PO i = y
def cdG (CU : Int → Int) (g : Int) : Int := if g < 5 then -1 else CU (g - 5)
def ahN (la cd ah : Int) : Prop := (la = 0 ∧ ah = 0) ∨ (¬ la = 0 ∧ ((cd = 10 ∧ ah = 2) ∨ (¬ cd = 10 ∧ isW cd ∧ ah = 4) ∨ (¬ cd = 10 ∧ ¬ isW cd ∧ ah = 0)))
/-- an edge is right -/
def edR (K N O RR : Int → Int) (fi la ro : Int) (CU PO BG BD : Int → Int) (ct s g ed : Int) : Prop := (0 ≤ ed / 2 - 1 ∧ ed / 2 - 1 < ct) ∧ (ed % 2 = 1 ↔ darS (tgC K) N O (HSc (cdG CU g) g (BD s)) (kpS PO BG s) ro fi) ∧ (g = 0 → ed / 2 - 1 = s) ∧ (¬ g = 0 → (∀ z : Int, kpS PO BG (ed / 2 - 1) z ↔ dnxS (tgC K) N O (phas K O RR) (HSc (cdG CU g) g (BD s)) (kpS PO BG s) ro fi g (cdG CU g) z) ∧ ahN la (cdG CU g) (BD (ed / 2 - 1)))
def edO (K N O RR : Int → Int) (fi la ro : Int) (CU PO BG BD EG : Int → Int) (cn ct : Int) : Prop := ∀ s g : Int, 0 ≤ s → s < ct → 0 ≤ g → g ≤ cn + 4 → ¬ EG (s * (cn + 5) + g) = 0 → edR K N O RR fi la ro CU PO BG BD ct s g (EG (s * (cn + 5) + g))
