set_option maxRecDepth 100000 in
set_option maxHeartbeats 4000000 in
theorem c1_CS_addAlike {X : ab_X} {d : Nat} {o : Nat → Nat} {G : ab_G} {r : Nat} {lr : Nat} {lb : Nat} {n : Nat} {cnt : Int} {P : Int → Prop} {lo : Int} (h15 : cc o G 15 15 (za 18 zAR)) (h16 : cc o G 16 16 (za 20 zAF)) (pcsI_r : csI o G r lr lb n cnt P) (cx : 0 ≤ lo ∧ lo ≤ 1114111) (k0 : 0 ≤ cnt ∧ cnt ≤ 24900) (cl : 18 ≤ lr ∧ 18 ≤ lb) (rc : G.length + 5000 ≤ ab_n0 + room_1.cells) (rs : ab_slots G + 208000 ≤ room_1.slots + 2 * n) (hd : 7 ≤ d) : ab_F X d y_CS_addAlike (.code y_CS_addAlike b_CS_addAlike 6 none) [vR r, vz lo, vz lo] G (fun oc G2 => ∃ o2 : Nat → Nat, ∃ n2 : Nat, ∃ c2 : Int, ∃ P2 : Int → Prop, oc = .returned none ∧ fx o o2 [lr, lb] G G2 ∧ csI o2 G2 r lr lb n2 c2 P2 ∧ (0 ≤ c2 ∧ c2 ≤ cnt + 11 ∧ n2 ≤ 104000) ∧ (64 * G2.length + n ≤ 64 * G.length + n2) ∧ (ab_slots G2 + 2 * n ≤ ab_slots G + 2 * n2) ∧ (∀ c : Int, P2 c ↔ P c ∨ alike lo lo c)) := by
  refine (z_CS_addAlike h15 h16 pcsI_r ⟨cx.1, Int.le_refl _, cx.2⟩ k0 cl rc rs hd).post (fun oc G2 hq => ?_)
  obtain ⟨o2, n2, c2, P2, a1, a2, a3, a4, a5, a6, a7⟩ := hq
  refine ⟨o2, n2, c2, P2, a1, a2, a3, ⟨a4.1, ?_, a4.2.2⟩, a5, a6, a7⟩
  obtain ⟨b, f, q1, q2, q3, q4, q5, q6, q7, q8⟩ := pcsI_r
  obtain ⟨b', f', r1, r2, r3, r4, r5, r6, r7, r8⟩ := a3
  have := cs_few (l := alF lo) q3 r3 k0.1 a4.1 (fun c hc => by
    rcases (a7 c).mp ((r4 c).mpr hc) with y | y
    · exact Or.inl ((q4 c).mp y)
    · exact Or.inr (alF_mem y)) (fun c hc => (r4 c).mp ((a7 c).mpr (Or.inl ((q4 c).mpr hc))))
  have := alF_len cx.1
  omega
