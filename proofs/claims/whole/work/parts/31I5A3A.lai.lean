/-- a program that looks nowhere around has no assertion; there is one arrival -/
def laI (la : Int) (K : Int → Int) (cnt : Int) : Prop := (la = 0 → ∀ x : Int, 0 ≤ x → x < cnt → ¬ K x = 3) ∧ ∀ x : Int, 2 ≤ x → x < cnt → ¬ K x = 8
theorem laI_0 {la : Int} {K : Int → Int} : laI la K 0 := ⟨fun _ x a b => by omega, fun x a b => by omega⟩
theorem laI_s {la la2 k cnt : Int} {K : Int → Int} (h : laI la K cnt) (q : lks la k la2) (h8 : k = 8 → cnt ≤ 1) : laI la2 (zu K cnt k) (cnt + 1) := ⟨fun e x a b => by
  unfold lks at q
  by_cases c : x = cnt
  · rw [c, zu_self]; omega
  · rw [zu_ne c]; exact h.1 (by omega) x a (by omega), fun x a b => by
  by_cases c : x = cnt
  · rw [c, zu_self]; intro z; have := h8 z; omega
  · rw [zu_ne c]; exact h.2 x a (by omega)⟩
/-- how many states take something -/
def tkN (K : Int → Int) : Nat → Int
  | 0 => 0
  | k + 1 => tkN K k + (if K (k : Int) ≤ 2 then 1 else 0)
def tkn (K : Int → Int) (cnt : Int) : Int := tkN K cnt.toNat
section Tkn
variable {K : Int → Int} {cnt k v : Int}
theorem tkN_1 (m : Nat) : tkN K (m + 1) = tkN K m + (if K (m : Int) ≤ 2 then 1 else 0) := rfl
theorem tkN_0 : ∀ m : Nat, 0 ≤ tkN K m := by
  intro m
  induction m with
  | zero => exact Int.le_refl 0
  | succ m ih => rw [tkN_1]; split <;> omega
theorem tkn_0 : 0 ≤ tkn K cnt := tkN_0 _
theorem tkN_cg {K2 : Int → Int} : ∀ m : Nat, (∀ i : Int, 0 ≤ i → i < (m : Int) → K2 i = K i) → tkN K2 m = tkN K m := by
  intro m
  induction m with
  | zero => intro _; rfl
  | succ m ih => intro h; rw [tkN_1, tkN_1, ih (fun i a b => h i a (by omega)), h (m : Int) (by omega) (by omega)]
theorem tkn_s (h0 : 0 ≤ cnt) : tkn (zu K cnt k) (cnt + 1) = tkn K cnt + (if k ≤ 2 then 1 else 0) := by
  unfold tkn
  rw [show (cnt + 1).toNat = cnt.toNat + 1 by omega, tkN_1, show ((cnt.toNat : Nat) : Int) = cnt by omega, zu_self, tkN_cg (K := K) cnt.toNat (fun i a b => zu_ne (by omega))]
theorem tkn_y (h : k ≤ 2) (h0 : 0 ≤ cnt) : tkn (zu K cnt k) (cnt + 1) = tkn K cnt + 1 := by rw [tkn_s h0, if_pos h]
theorem tkn_n (h : ¬ k ≤ 2) (h0 : 0 ≤ cnt) : tkn (zu K cnt k) (cnt + 1) = tkn K cnt := by rw [tkn_s h0, if_neg h]; omega
theorem tkn_le (h0 : K 0 = 9) (h1 : K 1 = 8) (h2 : 2 ≤ cnt) : tkn K cnt + 2 ≤ cnt := by
  have key : ∀ m : Nat, tkN K (m + 2) ≤ (m : Int) := by
    intro m
    induction m with
    | zero =>
      rw [tkN_1, tkN_1]
      show (0 : Int) + (if K ((0 : Nat) : Int) ≤ 2 then 1 else 0) + (if K ((1 : Nat) : Int) ≤ 2 then 1 else 0) ≤ 0
      rw [if_neg (by show ¬ K 0 ≤ 2; omega), if_neg (by show ¬ K 1 ≤ 2; omega)]
      decide
    | succ m ih =>
      rw [show m + 1 + 2 = m + 2 + 1 by omega, tkN_1]
      split <;> omega
  have t := key (cnt.toNat - 2)
  unfold tkn
  rw [show cnt.toNat - 2 + 2 = cnt.toNat by omega] at t
  omega
end Tkn
