/-! what a part means, whether it always takes a byte, how deep its groups lie -/
abbrev Sn := {v : Sm × Prop × Nat // gdS v.1}
theorem Sn_ext {u v : Sn} (h : u.1.1 = v.1.1) (h2 : u.1.2.1 ↔ v.1.2.1) (h3 : u.1.2.2 = v.1.2.2) : u = v := Subtype.ext (Prod.ext h (Prod.ext (propext h2) h3))
def mnI : Sn := ⟨(smI, False, 0), gd_I⟩
noncomputable def mnS (S : Int → Prop) : Sn := ⟨(smS S, True, 0), gd_S⟩
def mnA : Sn := ⟨(smA, True, 0), gd_A⟩
noncomputable def mnQ (a : Int) : Sn := ⟨(smQ a, False, 0), gd_Q⟩
def mnC (u v : Sn) : Sn := ⟨(smC u.1.1 v.1.1, u.1.2.1 ∨ v.1.2.1, max u.1.2.2 v.1.2.2), gd_C u.2 v.2⟩
def mnO (u v : Sn) : Sn := ⟨(smO u.1.1 v.1.1, u.1.2.1 ∧ v.1.2.1, max u.1.2.2 v.1.2.2), gd_O u.2 v.2⟩
/-- a group: numbered, or 0 -/
def mnG (k : Int) (v : Sn) : Sn := ⟨(if k = 0 then v.1.1 else smG k v.1.1, v.1.2.1, v.1.2.2 + 1), by
  show gdS (if k = 0 then v.1.1 else smG k v.1.1)
  split
  · exact v.2
  · exact gd_G v.2⟩
/-- a repeat: at least l, at most m (1000: endless) -/
def smR (l m lz : Int) (v : Sm) : Sm := if m = 1000 then smN v (smT (lz = 1) v) l.toNat else smN v (smU (lz = 1) v (m - l).toNat) l.toNat
theorem gd_R {l m lz : Int} {v : Sm} (h : gdS v) : gdS (smR l m lz v) := by
  unfold smR
  split
  · exact gd_N h (gd_T h) _
  · exact gd_N h (gd_U h _) _
def mnR (l m lz : Int) (v : Sn) : Sn := ⟨(smR l m lz v.1.1, 1 ≤ l ∧ v.1.2.1, if m = 0 then 0 else v.1.2.2), gd_R v.2⟩
def opO (a : Option Sn) (w : Sn) : Sn := match a with
  | some u => mnO u w
  | none => w
theorem mnC_I {v : Sn} : mnC v mnI = v := Sn_ext smC_I ⟨fun h => h.elim id False.elim, Or.inl⟩ (Nat.max_zero _)
theorem mnI_C {v : Sn} : mnC mnI v = v := Sn_ext smI_C ⟨fun h => h.elim False.elim id, Or.inr⟩ (Nat.zero_max _)
theorem mnC_C {u v w : Sn} : mnC (mnC u v) w = mnC u (mnC v w) := Sn_ext smC_C or_assoc (Nat.max_assoc _ _ _)
theorem mnO_O {u v w : Sn} : mnO (mnO u v) w = mnO u (mnO v w) := Sn_ext smO_O and_assoc (Nat.max_assoc _ _ _)
theorem smR_0 {lz : Int} {v : Sm} : smR 0 0 lz v = smI := by
  unfold smR
  rw [if_neg (by decide)]
  rfl
theorem smR_1 {lz : Int} {v : Sm} : smR 1 1 lz v = v := by
  unfold smR
  rw [if_neg (by decide)]
  exact smC_I
theorem mnR_1 {lz : Int} {v : Sn} : mnR 1 1 lz v = v := Sn_ext smR_1 ⟨fun h => h.2, fun h => ⟨Int.le_refl 1, h⟩⟩ (show (if (1 : Int) = 0 then 0 else v.1.2.2) = v.1.2.2 from if_neg (by decide))
theorem mnR_0 {lz : Int} {v : Sn} : mnR 0 0 lz v = mnI := Sn_ext (smR_0 (lz := lz) (v := v.1.1)) ⟨fun h => absurd h.1 (by decide), False.elim⟩ (show (if (0 : Int) = 0 then 0 else v.1.2.2) = 0 from if_pos rfl)
theorem mnR_h {l m lz : Int} {v : Sn} : (mnR l m lz v).1.2.2 ≤ v.1.2.2 := by
  show (if m = 0 then 0 else v.1.2.2) ≤ v.1.2.2
  split <;> omega
theorem smN_I : ∀ m : Nat, smN smI smI m = smI := by
  intro m
  induction m with
  | zero => rfl
  | succ m ih =>
    show smC smI (smN smI smI m) = smI
    rw [ih]
    exact smI_C
/-- nothing, so often -/
theorem smR_I {l lz : Int} (h : ¬ l = 1000) : smR l l lz smI = smI := by
  unfold smR
  rw [if_neg h, show (l - l).toNat = 0 by omega]
  exact smN_I _
/-- what takes no states means nothing -/
def nzS (v : Sn) : Prop := v.1.1 = smI ∧ ¬ v.1.2.1
theorem nzS_I : nzS mnI := ⟨rfl, fun h => h⟩
theorem nzS_C {u v : Sn} (hu : nzS u) (hv : nzS v) : nzS (mnC u v) := ⟨by show smC u.1.1 v.1.1 = smI; rw [hu.1, hv.1]; exact smC_I, fun h => h.elim hu.2 hv.2⟩
theorem nzS_G {v : Sn} (h : nzS v) : nzS (mnG 0 v) := ⟨by show (if (0 : Int) = 0 then v.1.1 else smG 0 v.1.1) = smI; rw [if_pos rfl]; exact h.1, h.2⟩
theorem nzS_R0 {lz : Int} {v : Sn} : nzS (mnR 0 0 lz v) := ⟨smR_0 (lz := lz) (v := v.1.1), fun h => absurd h.1 (by decide)⟩
theorem nzS_R {l lz : Int} {v : Sn} (h : nzS v) (hl : ¬ l = 1000) : nzS (mnR l l lz v) := ⟨by show smR l l lz v.1.1 = smI; rw [h.1]; exact smR_I hl, fun q => h.2 q.2⟩
/-- a part, once: w is what its rows mean -/
noncomputable def onS (k v : Int) (S : Int → Prop) (w : Sn) : Sn := if k = 4 then mnG v w else if k = 3 then mnQ v else if k = 2 then mnA else if k = 0 then mnS (fun x => v = x) else mnS S
theorem onS_4 {v : Int} {S : Int → Prop} {w : Sn} : onS 4 v S w = mnG v w := if_pos rfl
theorem onS_3 {v : Int} {S : Int → Prop} {w : Sn} : onS 3 v S w = mnQ v := by unfold onS; rw [if_neg (by decide), if_pos rfl]
theorem onS_2 {v : Int} {S : Int → Prop} {w : Sn} : onS 2 v S w = mnA := by unfold onS; rw [if_neg (by decide), if_neg (by decide), if_pos rfl]
theorem onS_0 {v : Int} {S : Int → Prop} {w : Sn} : onS 0 v S w = mnS (fun x => v = x) := by unfold onS; rw [if_neg (by decide), if_neg (by decide), if_neg (by decide), if_pos rfl]
theorem onS_1 {v : Int} {S : Int → Prop} {w : Sn} : onS 1 v S w = mnS S := by unfold onS; rw [if_neg (by decide), if_neg (by decide), if_neg (by decide), if_neg (by decide)]
theorem mnS_cg {S T : Int → Prop} (h : ∀ x, S x ↔ T x) : mnS S = mnS T := by
  have e : S = T := funext (fun x => propext (h x))
  rw [e]
abbrev Fs := Option Sn × Sn
/-- so often at most: m more -/
def mnU (lz : Int) (v : Sn) (m : Nat) : Sn := ⟨(smU (lz = 1) v.1.1 m, False, v.1.2.2), gd_U v.2 m⟩
/-- just so often, then u -/
def mnN (v u : Sn) (m : Nat) : Sn := ⟨(smN v.1.1 u.1.1 m, if m = 0 then u.1.2.1 else v.1.2.1, u.1.2.2), gd_N v.2 u.2 m⟩
/-- a whole program: what it does from its first state -/
theorem Rl_top {tg a b : Int → Int} {mm : Int → Int → Prop} {x e : Int} {v : Sm} {nn : Prop} (gv : gdS v) (he : tg e = 5) (h : Rl tg a b mm e e x v nn) {t : Int → Int} {n p : Int} {g : Gr} (hb : bytes t n) (p0 : 0 ≤ p) (p1 : p ≤ n) : WW tg a b mm t n x p g (v t n p g) := by
  have w := h t n p g (fun q r => [(q, r)]) (fun r => [(p, r)]) hb p0 p1 (fun q r _ _ => ww_end he) (fun _ r => ww_end he)
  have e2 : (v t n p g).flatMap (fun y => if p < y.1 then [(y.1, y.2)] else [(p, y.2)]) = v t n p g := by
    have e3 : (v t n p g).flatMap (fun y => if p < y.1 then [(y.1, y.2)] else [(p, y.2)]) = (v t n p g).flatMap (fun y => [y]) := fm_cg (fun y hy => by
      have k := gv t n p g hb p0 p1 y hy
      by_cases c : p < y.1
      · rw [if_pos c]
      · rw [if_neg c, show p = y.1 by omega])
    rw [e3]
    induction v t n p g with
    | nil => rfl
    | cons y l ih => rw [List.flatMap_cons, ih]; rfl
  rw [e2] at w
  exact w
