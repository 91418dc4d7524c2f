/-! rows below a place stay; rows are empty -/
def nlo (A B : Int → Int) (c : Int) : Prop := ∀ q k : Int, q < c → 0 ≤ k → k < 12544 → (nbit B q k ↔ nbit A q k)
theorem nlo_rf {A : Int → Int} {c : Int} : nlo A A c := fun _ _ _ _ _ => Iff.rfl
theorem nlo_wr {A B : Int → Int} {c i v : Int} (h : nlo A B c) (hi : 0 ≤ i ∧ i < 196) : nlo A (zu B (196 * c + i) v) c := fun q k hq k0 k1 => by
  have e : ¬ 196 * q + k / 64 = 196 * c + i := by omega
  unfold nbit
  rw [zu_ne e]
  exact h q k hq k0 k1
theorem nlo_tr {A B C : Int → Int} {c d : Int} (h : nlo A B c) (h2 : nlo B C d) (hc : c ≤ d) : nlo A C c := fun q k a b e => (h2 q k (by omega) b e).trans (h q k a b e)
def nemp (A : Int → Int) (q : Int) : Prop := ∀ k : Int, 0 ≤ k → k < 12544 → ¬ nbit A q k
theorem nemp_clr {A : Int → Int} {q : Int} (h : nclr A q 196) : nemp A q := fun k a c => by
  unfold nbit
  rw [h (k / 64) (by omega) (by omega)]
  exact bt6_0 _
def nemps (A : Int → Int) (lo hi : Int) : Prop := ∀ q : Int, lo < q → q ≤ hi → nemp A q
theorem nemps_0 {A : Int → Int} {c : Int} : nemps A c c := fun q a b => by omega
theorem nemps_s {A B : Int → Int} {lo hi : Int} (h : nemps A lo hi) (e : nlo A B (hi + 1)) (hc : nemp B (hi + 1)) : nemps B lo (hi + 1) := fun q a b => by
  by_cases z : q = hi + 1
  · rw [z]; exact hc
  · intro k k0 k1 r
    exact h q a (by omega) k k0 k1 ((e q k (by omega) k0 k1).mp r)
