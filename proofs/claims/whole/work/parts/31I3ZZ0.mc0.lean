/-! what the reference's steps mean -/
def tgR (T : Int → Int) (b : Int) : Int → Int := fun s => if T (b + s) = 1 then 0 else if T (b + s) = 2 then 1 else if T (b + s) = 5 then 2 else if T (b + s) = 3 then 3 else if T (b + s) = 4 then 4 else if T (b + s) = 0 then 5 else 6
def adR (N : Int → Int) (b : Int) : Int → Int := fun s => N (b + s)
def bdR (T W : Int → Int) (b : Int) : Int → Int := fun s => if T (b + s) = 5 then asq (W (b + s)) else W (b + s)
def mmR (CA CM CL CH : Int → Int) (b : Int) : Int → Int → Prop := fun s c => ∃ j : Int, (CA (b + s) ≤ j ∧ j < CA (b + s) + CM (b + s)) ∧ CL j ≤ c ∧ c ≤ CH j
section TgR
variable {T W : Int → Int} {b s : Int}
theorem tgR_1 (h : T (b + s) = 1) : tgR T b s = 0 := if_pos h
theorem tgR_2 (h : T (b + s) = 2) : tgR T b s = 1 := by unfold tgR; rw [if_neg (by omega), if_pos h]
theorem tgR_5 (h : T (b + s) = 5) : tgR T b s = 2 := by unfold tgR; rw [if_neg (by omega), if_neg (by omega), if_pos h]
theorem tgR_3 (h : T (b + s) = 3) : tgR T b s = 3 := by unfold tgR; rw [if_neg (by omega), if_neg (by omega), if_neg (by omega), if_pos h]
theorem tgR_4 (h : T (b + s) = 4) : tgR T b s = 4 := by unfold tgR; rw [if_neg (by omega), if_neg (by omega), if_neg (by omega), if_neg (by omega), if_pos h]
theorem tgR_0 (h : T (b + s) = 0) : tgR T b s = 5 := by unfold tgR; rw [if_neg (by omega), if_neg (by omega), if_neg (by omega), if_neg (by omega), if_neg (by omega), if_pos h]
theorem tgR_6 (h : T (b + s) = 6) : tgR T b s = 6 := by unfold tgR; rw [if_neg (by omega), if_neg (by omega), if_neg (by omega), if_neg (by omega), if_neg (by omega), if_neg (by omega)]
theorem bdR_5 (h : T (b + s) = 5) : bdR T W b s = asq (W (b + s)) := if_pos h
theorem bdR_n (h : ¬ T (b + s) = 5) : bdR T W b s = W (b + s) := if_neg h
end TgR
def ag7 (T N W CA CM CL CH T2 N2 W2 CA2 CM2 CL2 CH2 : Int → Int) (sl lo hi c : Int) : Prop := (∀ s : Int, lo ≤ s → s < hi → T2 (12500 * sl + s) = T (12500 * sl + s) ∧ N2 (12500 * sl + s) = N (12500 * sl + s) ∧ W2 (12500 * sl + s) = W (12500 * sl + s) ∧ CA2 (12500 * sl + s) = CA (12500 * sl + s) ∧ CM2 (12500 * sl + s) = CM (12500 * sl + s)) ∧ ∀ j : Int, 600 * sl ≤ j → j < 600 * sl + c → CL2 j = CL j ∧ CH2 j = CH j
/-- from x the ways of v lead to u or f, whatever is made besides -/
def RX (T N W CA CM CL CH : Int → Int) (sl lo hi c u f x : Int) (v : Sn) : Prop := ∀ T2 N2 W2 CA2 CM2 CL2 CH2 : Int → Int, ag7 T N W CA CM CL CH T2 N2 W2 CA2 CM2 CL2 CH2 sl lo hi c → T2 (12500 * sl + 1) = 6 → Rl (tgR T2 (12500 * sl)) (adR N2 (12500 * sl)) (bdR T2 W2 (12500 * sl)) (mmR CA2 CM2 CL2 CH2 (12500 * sl)) u f x v.1.1 v.1.2.1
/-- what the program in a slot means -/
def prR (T N W CA CM CL CH : Int → Int) (sl n c e : Int) (v : Sn) : Prop := (T (12500 * sl) = 0 ∧ T (12500 * sl + 1) = 6 ∧ 2 ≤ n) ∧ RX T N W CA CM CL CH sl 2 n c 0 0 e v
