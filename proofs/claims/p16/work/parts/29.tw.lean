/-! the handler of a method with one; the words that a throw needs -/
theorem ab_hx {c : Code} {s e h t pc : Nat} (hc : c.exceptionTable.toList.map (fun h => (h.startPc, h.endPc, h.handlerPc, h.catchType)) = [(s, e, h, t)]) (hp : s ≤ pc ∧ pc < e) : ∃ x, c.exceptionTable.toList = [x] ∧ covers x pc = true ∧ x.handlerPc = h ∧ x.catchType = t := by
  generalize c.exceptionTable.toList = l at hc ⊢
  cases l with
  | nil => simp at hc
  | cons x r =>
    cases r with
    | nil =>
      simp at hc
      obtain ⟨h1, h2, h3, h4⟩ := hc
      refine ⟨x, rfl, ?_, h3, h4⟩
      simp [covers, h1, h2, hp.1, hp.2]
    | cons y r => simp at hc
def tw_sp : Cond → Bool
  | .isRef _ => true
  | .laysStatic .. => true
  | _ => false
theorem tw_aux : ∀ w ∈ Bundle.ownAtoms R_PW 113 R_IA ab_up, if tw_sp w = true then (w = .isRef (.static "java/lang/Throwable" "UNASSIGNED_STACK" "[Ljava/lang/StackTraceElement;") ∨ w = .isRef (.static "java/lang/Throwable" "SUPPRESSED_SENTINEL" "Ljava/util/List;") ∨ w = .laysStatic "java/lang/Throwable" "UNASSIGNED_STACK" "[Ljava/lang/StackTraceElement;" ∨ w = .laysStatic "java/lang/Throwable" "SUPPRESSED_SENTINEL" "Ljava/util/List;") else (w ∈ lw_tbl ∧ ab_ok w = true) := by
  decide +kernel
theorem tw_PW_113 : ab_tw R_PW 113 := by
  intro w hw
  have h := tw_aux w hw
  split at h
  · exact Or.inr h
  · exact Or.inl h
