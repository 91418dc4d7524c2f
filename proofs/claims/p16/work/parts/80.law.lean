theorem law_body (X : ab_X) {L : Nat} {xs : Nat → Int32} (hL : L ≤ 3072) : ab_W X ab_LW 2048 (g_old L xs) 0 (ab_in [.ref 0] 7) [] (fun o _ => o = .returned (some (.int 1))) := by
  refine law_begin ?_
  refine law_loop (L := L) (f := fun i => (xs i.toNat).toInt) (fun k => ⟨Int32.le_toInt _, by have := Int32.toInt_lt (xs k.toNat); omega⟩) (by omega) rfl 512 og (g_new L xs) (fun _ => 0) 0 0 ⟨_, _, _, _, _, _, _, _, _, _, _, _, _, _, _, _, _, _, _, _, _, _, _, _, _, _, _, _, _, _, _, _, _, _, _, pw_fresh, mo_fresh, fc_0, fc_148, syn_0, sy2_0, ouE_0⟩ (by decide) (by decide) (by decide)
