/-! which: what the slots tell -/
def whT (PG : Nat → Option Nat) (cv f : Int → Int) (n x wh j : Int) : Prop := (∃ b : Nat, PG j.toNat = some b) ∧ ¬ xb x j = 0 ∧ ∃ v : Sn, mnV cv (100 + 10 * j.toNat) v ∧ wpR v ∧ bytes f n ∧ exM v f n (hwW wh) 0
def whC (PG : Nat → Option Nat) (cv f : Int → Int) (n x wh an : Int) : Prop := an = whI (whT PG cv f n x wh) 6
/-- what a run by the marks finds, of the slot's text -/
def rnX (cv : Int → Int) (lq : Nat) (f : Int → Int) (n hw fr r : Int) (SP : Int → Int) : Prop := ∃ (v : Sn) (fy fo wi fl : Int), mnV cv lq v ∧ wpR v ∧ fst hw fl fy ∧ fdC v f n fy hw fr wi fo SP ∧ ((fo = 0 ∧ r = -1) ∨ (fo = 1 ∧ 0 ≤ r))
section Wh
variable {PG : Nat → Option Nat} {cv f K N O RR SP : Int → Int} {n x wh j hw r fi : Int} {b lq : Nat} {v : Sn}
theorem whT_0 (h : PG j.toNat = none) : ¬ whT PG cv f n x wh j := fun ⟨⟨b, q⟩, _⟩ => by rw [h] at q; cases q
theorem whT_x (h : xb x j = 0) : ¬ whT PG cv f n x wh j := fun ⟨_, q, _⟩ => q h
theorem whT_y (h : PG j.toNat = some b) (hx : ¬ xb x j = 0) (e : hwW wh = hw) (hb : bytes f n) (q : ∃ v : Sn, mnV cv (100 + 10 * j.toNat) v ∧ wpR v ∧ exM v f n hw 0) : whT PG cv f n x wh j := by
  obtain ⟨v, a, c, d⟩ := q
  exact ⟨⟨b, h⟩, hx, v, a, c, hb, by rw [e]; exact d⟩
theorem whT_f (e : hwW wh = hw) (q : ∀ v : Sn, mnV cv (100 + 10 * j.toNat) v → ¬ exM v f n hw 0) : ¬ whT PG cv f n x wh j := fun ⟨_, _, v, a, _, _, d⟩ => q v a (by rw [← e]; exact d)
theorem rnX_t (h : rnX cv lq f n hw 0 r SP) (hr : ¬ r = -1) : ∃ v : Sn, mnV cv lq v ∧ wpR v ∧ exM v f n hw 0 := by
  obtain ⟨v, fy, fo, wi, fl, a, c, _, d, e⟩ := h
  exact ⟨v, a, c, (fdC_ex d).mp (by omega)⟩
theorem rnX_f (h : rnX cv lq f n hw 0 r SP) (hr : r = -1) : ∀ v : Sn, mnV cv lq v → ¬ exM v f n hw 0 := fun v q z => by
  obtain ⟨w, fy, fo, wi, fl, a, c, _, d, e⟩ := h
  rw [mnV_det q a] at z
  have := (fdC_ex d).mpr z
  omega
theorem tlC_t (h : tlC v f n hw 0 r) (hm : mnV cv lq v) (hp : prM K N O RR fi v) (hr : r = 1) : ∃ v : Sn, mnV cv lq v ∧ wpR v ∧ exM v f n hw 0 := by
  rcases h with ⟨_, q⟩ | ⟨q, _⟩ | q
  · exact ⟨v, hm, hp.wp, q⟩
  · omega
  · omega
theorem tlC_f (h : tlC v f n hw 0 r) (hm : mnV cv lq v) (hr : ¬ r = 1 ∧ ¬ r = -2) : ∀ w : Sn, mnV cv lq w → ¬ exM w f n hw 0 := fun w q z => by
  rw [mnV_det q hm] at z
  rcases h with ⟨q, _⟩ | ⟨_, q⟩ | q
  · omega
  · exact q z
  · omega
end Wh
