/-! every begin that a search by one mind takes is clear -/
def obeg (K N : Int → Int) (cnt fi b : Int) : Prop := b = fi ∨ ∃ s : Int, (0 ≤ s ∧ s < cnt ∧ K s ≤ 2) ∧ b = N s
def pone (K N O : Int → Int) (cnt fi : Int) : Prop := ∀ b : Int, obeg K N cnt fi b → ∃ (w : Int → Int) (V : Int → Prop), oclr K N O w V cnt ∧ V b ∧ w b ≤ 809
def obegs (K N : Int → Int) (cnt fi b : Int) : Prop := ¬ b = -1 → obeg K N cnt fi b
