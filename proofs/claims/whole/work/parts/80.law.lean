theorem law_body (X : ab_X) {L : Nat} {xs : Nat → Int32} (hL : L ≤ 3072) : ab_W X ab_LW 2048 (g_old L xs) 0 (ab_in [.ref 0] 7) [] (fun o _ => o = .returned (some (.int 1))) := by
  refine law_begin ?_
  sorry
