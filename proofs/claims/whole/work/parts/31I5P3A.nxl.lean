/-! a match ends where it begins or behind it -/
theorem nxC_le {v : Sn} {f SP : Int → Int} {n fy ab wi : Int} (h : nxC v f n fy ab wi 1 SP) (hb : bytes f n) (ha : -1 ≤ ab) : SP 0 ≤ SP 1 := by
  obtain ⟨S, st, q1, q2⟩ := h
  obtain ⟨g, m1, m2⟩ := mch_1 q2
  rw [m1] at q1
  have i := nxP_in q1 (wyR_W hb) ha
  omega
