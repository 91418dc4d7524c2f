/-! the reference's calls that match -/
def fyX (hw fl : Int) : Int := if hw = 2 then 1 else 1 - fl / 16
/-- what the programs that are there mean -/
def mpm (TH T N W CA CM CL CH SN EN : Int → Int) (V : Int → Sn) : Prop := ∀ s : Int, 0 ≤ s → s < 6 → TH s = 1 → prZ T N W CA CM CL CH s (SN s) (EN s) (V s)
/-- spans that are copied -/
def spE (KE SP : Int → Int) (i : Int) : Prop := ∀ j : Int, 0 ≤ j → j < i → KE j = SP j
theorem spE_0 {KE SP : Int → Int} : spE KE SP 0 := fun j a b => by omega
theorem spE_s {KE SP : Int → Int} {i : Int} (h : spE KE SP i) : spE (zu KE i (SP i)) SP (i + 1) := fun j a b => by
  by_cases e : j = i
  · rw [e, zu_self]
  · rw [zu_ne e]; exact h j a (by omega)
theorem mch.cg {c : Option (Int × Gr)} {fo wi st : Int} {SP KE : Int → Int} (h : mch c fo SP wi st) (hk : spE KE SP wi) (hw : 2 ≤ wi) : mch c fo KE wi st := by
  rcases h with h | ⟨e, g, h1, h2, h3, h4, h5⟩
  · exact Or.inl h
  · exact Or.inr ⟨e, g, h1, h2, (hk 0 (by omega) (by omega)).trans h3, (hk 1 (by omega) (by omega)).trans h4, fun i i0 i1 => (hk i (by omega) i1).trans (h5 i i0 i1)⟩
theorem fdC.cg {v : Sn} {f SP KE : Int → Int} {n fy hw fr wi fo : Int} (h : fdC v f n fy hw fr wi fo SP) (hk : spE KE SP wi) (hw2 : 2 ≤ wi) : fdC v f n fy hw fr wi fo KE := by
  obtain ⟨S, st, h1, h2⟩ := h
  exact ⟨S, st, h1, h2.cg hk hw2⟩
section Rf5
variable {T N W CA CM CL CH f NO : Int → Int} {len n e sl to fm fl how wi fo : Int} {v : Sn} {SP : Int → Int}
theorem fdw_y (hh : how = 2) (hm : mch (fA 2 len (wyR v f len fm)) 1 SP wi fm) (h : 0 ≤ fm ∧ fm ≤ len) : fdC v f len (fyX how fl) how fm wi 1 SP := by
  subst hh
  have e1 : fyX 2 fl = 1 := if_pos rfl
  rw [e1]
  exact fd_yes noR_0 (if_pos rfl) ⟨Int.le_refl _, h.2⟩ (fun _ => rfl) hm
theorem fdw_n (hh : how = 2) (h : ntK T N W CA CM CL CH f NO len (12500 * sl) n len 1 to) (hp : prZ T N W CA CM CL CH sl n e v) (hb : bytes f len) (he : 0 ≤ e ∧ e < n) (hpp : to ≤ fm ∧ 0 ≤ fm ∧ fm ≤ len) (hn : ¬ nbit NO fm e) : fdC v f len (fyX how fl) how fm wi 0 SP := by
  subst hh
  exact fd_no noR_0 (nt_no2 h hp hb he hpp hn) (fun q => absurd q (by decide)) (fun _ => rfl)
theorem fdw_f (hh : ¬ how = 2) (h : fdC v f len (1 - fl / 16) how fm wi fo SP) : fdC v f len (fyX how fl) how fm wi fo SP := by
  have e1 : fyX how fl = 1 - fl / 16 := if_neg hh
  rw [e1]
  exact h
end Rf5
/-- what match leaves -/
def mtX (TH GR FS : Int → Int) (V : Int → Sn) (f : Int → Int) (n s how mc fm v th im mg : Int) (KE : Int → Int) (im2 mg2 : Int) (KE2 : Int → Int) : Prop := (th = 0 ∧ ((0 ≤ s ∧ s < 6 ∧ TH s = 1) ∧ (0 ≤ how ∧ how ≤ 2) ∧ (0 ≤ mc ∧ mc ≤ 4) ∧ 0 ≤ fm ∧ fm ≤ n) ∧ (fdC (V s) f n (fyX how (FS s)) how fm 20 im2 KE2 ∧ mg2 = GR s ∧ (im2 = 1 → v = KE2 1) ∧ (im2 = 0 → v = -1))) ∨ (th = 1 ∧ (nth TH s ∨ ¬ ((0 ≤ how ∧ how ≤ 2) ∧ (0 ≤ mc ∧ mc ≤ 4) ∧ 0 ≤ fm ∧ fm ≤ n)) ∧ v = 0 ∧ im2 = im ∧ mg2 = mg ∧ KE2 = KE)
/-- what all leaves -/
def alX (TH FS : Int → Int) (V : Int → Sn) (f : Int → Int) (n s v th m : Int) (A : Int → Int) (m2 : Int) (A2 : Int → Int) : Prop := (th = 0 ∧ (0 ≤ s ∧ s < 6 ∧ TH s = 1) ∧ v = m2 ∧ alC (V s) f n (1 - FS s / 16) m2 A2) ∨ (th = 1 ∧ nth TH s ∧ v = 0 ∧ m2 = m ∧ A2 = A)
/-- what split leaves -/
def spX (TH FS : Int → Int) (V : Int → Sn) (f : Int → Int) (n s v th m : Int) (A : Int → Int) (m2 : Int) (A2 : Int → Int) : Prop := (th = 0 ∧ (0 ≤ s ∧ s < 6 ∧ TH s = 1) ∧ v = m2 ∧ spC (V s) f n (1 - FS s / 16) m2 A2) ∨ (th = 1 ∧ nth TH s ∧ v = 0 ∧ m2 = m ∧ A2 = A)
