set_option maxRecDepth 100000 in
theorem c_AR_copyOf {X : ab_X} {d : Nat} {o : Nat → Nat} {G : ab_G} {a l k n w : Nat} {m : Int} {f : Int → Int} (ha : cc o G a l (za n f)) (c1 : ↑w = m ∧ m ≤ 2147483647 ∧ ↑n ≤ (2147483647 : Int)) (rc : G.length + 1 ≤ ab_n0 + room_1.cells) (rs : ab_slots G + w ≤ room_1.slots) (c4 : ab_n0 ≤ l ∧ ab_n0 ≤ k) (hd : 2 ≤ d) : ab_F X d y_AR_copyOf (.code y_AR_copyOf b_AR_copyOf 3 (some (.array .int))) [vR a, vz m] G (fun oc G2 => ∃ o2 : Nat → Nat, ∃ b : Nat, ∃ g : Int → Int, oc = .returned (some (vR b)) ∧ fx o o2 [] G G2 ∧ cc o2 G2 b k (za w g) ∧ (b = G.length) ∧ (G2.length = G.length + 1) ∧ (ab_slots G2 = ab_slots G + w) ∧ (∀ j : Int, 0 ≤ j → j < ↑n → j < m → g j = f j)) := by
  by_cases h : m = ↑n
  · have hw : w = n := by omega
    subst hw
    refine (z_AR_copyOf_eq (k := k) ha ⟨h, c1.2.2⟩ rc rs c4 hd).post (fun oc G2 hq => ?_)
    obtain ⟨o2, b, h1, h2, h3, h4, h5, h6⟩ := hq
    exact ⟨o2, b, f, h1, h2, h3, h4, h5, h6, fun j _ _ _ => rfl⟩
  · refine (z_AR_copyOf (k := k) ha c1 rc rs c4 h hd).post (fun oc G2 hq => ?_)
    rcases hq with ⟨o2, b, h1, h2, h3, h4, h5, h6, h7⟩ | ⟨o2, b, h1, h2, h3, h4, h5, h6, h7⟩
    · exact ⟨o2, b, _, h1, h2, h3, h4, h5, h6, fun j j1 j2 j3 => by rw [zcpy_in (by omega)]; congr 1; omega⟩
    · exact ⟨o2, b, _, h1, h2, h3, h4, h5, h6, fun j j1 j2 j3 => by rw [zcpy_in (by omega)]; congr 1; omega⟩
