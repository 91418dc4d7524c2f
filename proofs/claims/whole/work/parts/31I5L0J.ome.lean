/-! one mind: how choosing goes on -/
def arO (hw n p : Int) : Prop := ¬ hw = 2 ∨ n ≤ p
def spN (K O f : Int → Int) (n p x : Int) : Prop := K x = 9 ∨ (K x = 3 ∧ ¬ hld f n p (O x))
/-- while it is chosen (ov = 0), and when nothing behind counts (ov = 1) -/
def choV (K N O RR f : Int → Int) (n fy hw wi st p tu ov : Int) (D : List Int) (SK : Int → Int) (dp : Int) (WK : Int → Int) (chn : Int) (ON : Int → Int) (fo : Int) (SP : Int → Int) (S : Option (Int × Gr)) : Prop := (ov = 0 → choQ K N O RR f n fy hw wi st p tu D SK dp WK chn ON fo SP S) ∧ (ov = 1 → choE K N O RR f n fy hw wi st p chn ON fo SP S)
def tpO (x tu p : Int) : Prop := x = -1 ∨ tu ≤ p
section ChV
variable {K N O RR f C Rs H : Int → Int} {n fy hw wi st p tu ov x v d1 : Int} {D : List Int} {SK WK ON SP : Int → Int} {dp chn fo : Int} {S : Option (Int × Gr)}
theorem choV_q (h : choQ K N O RR f n fy hw wi st p tu D SK dp WK chn ON fo SP S) : choV K N O RR f n fy hw wi st p tu 0 D SK dp WK chn ON fo SP S := ⟨fun _ => h, fun z => absurd z (by decide)⟩
theorem choV_z (h : choQ K N O RR f n fy hw wi st p tu D SK dp WK chn ON fo SP S) (ho : ov = 0) : choV K N O RR f n fy hw wi st p tu ov D SK dp WK chn ON fo SP S := ⟨fun _ => h, fun z => absurd (ho.symm.trans z) (by decide)⟩
theorem choV_e (h : choE K N O RR f n fy hw wi st p chn ON fo SP S) : choV K N O RR f n fy hw wi st p tu 1 D SK dp WK chn ON fo SP S := ⟨fun z => absurd z (by decide), fun _ => h⟩
theorem choV.fin (h : choV K N O RR f n fy hw wi st p tu ov D SK dp WK chn ON fo SP S) (ho : 0 ≤ ov ∧ ov ≤ 1) (hd : 1616 ≤ tu ∨ dp = 0 ∨ ov = 1) : choE K N O RR f n fy hw wi st p chn ON fo SP S := by
  by_cases q : ov = 1
  · exact h.2 q
  · have c := h.1 (by omega)
    have := c.tt
    exact c.fin (by omega)
theorem choV.pop (h : choV K N O RR f n fy hw wi st p tu ov D SK dp WK chn ON fo SP S) (ho : ov = 0) (h1 : 1 ≤ dp) (e : d1 = dp - 1) (ex : x = SK d1) (hx : 0 ≤ x ∧ x < 1024) (hp : 0 ≤ p) : choP K N O RR f n fy hw wi st p tu D SK d1 WK chn ON fo SP S x := by
  rw [ex] at hx ⊢
  exact (h.1 ho).pop h1 e hx hp
theorem choV.undo (h : choV K N O RR f n fy hw wi st p tu ov D SK dp WK chn ON fo SP S) (ho : ov = 0) (h1 : 1 ≤ dp) (e : d1 = dp - 1) (ex : x = SK d1) (hs : x < 0) (hv : 2 ≤ (-1 - x) / 4096) : choV K N O RR f n fy hw wi st p (tu + 1) 0 D SK d1 (zu WK ((-1 - x) / 4096) ((-1 - x) % 4096 - 1)) chn ON fo SP S := by
  rw [ex] at hs hv ⊢
  exact choV_q ((h.1 ho).undo h1 e hs hv)
/-- an arrival that counts -/
theorem choP.arr (h : choP K N O RR f n fy hw wi st p tu D SK dp WK chn ON fo SP S x) (hg : gdO K O RR D) (k : K x = 8) (hx : x = 1) (ha : arO hw n p) (hy : 0 ≤ fy ∧ fy ≤ 1) (hw2 : 2 ≤ wi) (hb : bytes f n) (h0 : 0 ≤ p ∧ p ≤ n) : choV K N O RR f n fy hw wi st p (tu + 1) fy D SK dp WK chn ON 1 (zu (zcpy WK SP 0 0 wi) 1 p) S := by
  by_cases q : fy = 1
  · rw [q] at h ⊢
    exact choV_e (h.first k ha rfl hw2)
  · have e : fy = 0 := by omega
    have t := h.long hg k hx ha q hw2 hb h0
    rw [e] at t ⊢
    exact choV_q t
end ChV
theorem kx1 {K : Int → Int} {cnt x : Int} (h : ∀ z : Int, 2 ≤ z → z < cnt → ¬ K z = 8) (h0 : K 0 = 9) (k : K x = 8) (x0 : 0 ≤ x) (x1 : x < cnt) : x = 1 := by
  by_cases q : 2 ≤ x
  · exact absurd k (h x q x1)
  · by_cases z : x = 0
    · rw [z, h0] at k; exact absurd k (by decide)
    · omega
