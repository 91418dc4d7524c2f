/-! reading and filling a template, step by step -/
section Tm3
variable {T : Int → Int} {n GR gd p p2 it w : Int} {NZ : Int → Int} {NM : Int → Int → Int}
def tpG (T : Int → Int) (n GR : Int) (NZ : Int → Int) (NM : Int → Int → Int) (gd p : Int) : Prop := (gd = 1 → ∃ L : List Int, tpX T n GR NZ NM p L) ∧ (gd = 0 → tpN T n GR NZ NM)
def tpH (T : Int → Int) (n GR : Int) (NZ : Int → Int) (NM : Int → Int → Int) (gd : Int) : Prop := (gd = 1 → ∃ L : List Int, tpL T n GR NZ NM L) ∧ (gd = 0 → tpN T n GR NZ NM)
theorem tpG_0 : tpG T n GR NZ NM 1 0 := ⟨fun _ => ⟨[], tpX_0⟩, fun h => absurd h (by decide)⟩
theorem tpG_s (h : tpG T n GR NZ NM gd p) (hg : gd = 1) (hp : 0 ≤ p ∧ p < n) (hi : tmI T n GR NZ NM p it w) (e : p2 = p + w) : tpG T n GR NZ NM 1 p2 := ⟨fun _ => by
  obtain ⟨L, h⟩ := h.1 hg
  exact ⟨_, tpX_s h hp hi e⟩, fun h => absurd h (by decide)⟩
theorem tpG_n (h : tpG T n GR NZ NM gd p) (hg : gd = 1) (hp : p < n) (hi : ∀ it w : Int, ¬ tmI T n GR NZ NM p it w) : tpG T n GR NZ NM 0 p2 := ⟨fun h => absurd h (by decide), fun _ => by
  obtain ⟨L, h⟩ := h.1 hg
  exact tpX_N h hp hi⟩
theorem tpH_of (h : tpG T n GR NZ NM gd p) (hp : gd = 1 → n ≤ p) : tpH T n GR NZ NM gd := ⟨fun hg => by
  obtain ⟨L, q⟩ := h.1 hg
  exact ⟨L, tpX_L q (hp hg)⟩, h.2⟩
theorem tmI_1 (h : ¬ T p = 36) : tmI T n GR NZ NM p (T p) 1 := Or.inl ⟨h, rfl, rfl⟩
end Tm3
section Sb
variable {f : Int → Int} {a b i : Int}
theorem sbR_e (h : b ≤ a) : sbR f a b = [] := by
  unfold sbR
  rw [show (b - a).toNat = 0 by omega]
  rfl
theorem sbR_app (h1 : a ≤ i) (h2 : i ≤ b) : sbR f a b = sbR f a i ++ sbR f i b := by
  unfold sbR
  rw [show (b - a).toNat = (i - a).toNat + (b - i).toNat by omega, sbL_app, show a + ((i - a).toNat : Int) = i by omega]
theorem sbR_s (h : a ≤ i) : sbR f a (i + 1) = sbR f a i ++ [f i] := by
  rw [sbR_app h (show i ≤ i + 1 by omega)]
  congr 1
  unfold sbR
  rw [show (i + 1 - i).toNat = 1 by omega]
  rfl
end Sb
/-- the reference writes a stretch of the subject -/
def swI (f : Int → Int) (O : List Int) (a b i : Int) (WR : Int → Int) (m tm : Int) : Prop := wmR WR m tm (O ++ sbR f a i) ∧ a ≤ i ∧ (i ≤ b ∨ i = a)
section Sw
variable {f WR WR2 : Int → Int} {O : List Int} {a b i m tm m2 tm2 : Int}
theorem swI_0 (h : wmR WR m tm O) : swI f O a b a WR m tm := ⟨by rw [sbR_e (Int.le_refl a), List.append_nil]; exact h, Int.le_refl a, Or.inr rfl⟩
theorem swI_s (h : swI f O a b i WR m tm) (hi : i < b) (q : wmR WR2 m2 tm2 (O ++ sbR f a i ++ [f i])) : swI f O a b (i + 1) WR2 m2 tm2 := ⟨by rw [sbR_s h.2.1, ← List.append_assoc]; exact q, by have := h.2.1; omega, Or.inl (by omega)⟩
theorem swI_e (h : swI f O a b i WR m tm) (hb : b ≤ i ∨ tm = 1) : wmR WR m tm (O ++ sbR f a b) := by
  obtain ⟨h1, h2, h3⟩ := h
  by_cases c : i ≤ b
  · by_cases d : b ≤ i
    · rw [show b = i by omega]; exact h1
    · have t : tm = 1 := hb.resolve_left d
      rw [t] at h1 ⊢
      rw [sbR_app h2 c, ← List.append_assoc]
      exact h1.more
  · have e : i = a := h3.resolve_left c
    rw [sbR_e (show b ≤ a by omega)]
    rw [e, sbR_e (Int.le_refl a)] at h1
    exact h1
end Sw
/-- an item, filled with a row of spans -/
def itS (f SP : Int → Int) (it : Int) : List Int := if 0 ≤ it then [it] else if SP (2 * (-1 - it)) = -1 then [] else sbR f (SP (2 * (-1 - it))) (SP (2 * (-1 - it) + 1))
def exS (f SP : Int → Int) (L : List Int) : List Int := L.flatMap (itS f SP)
section It
variable {f SP : Int → Int} {it x : Int} {L M : List Int}
theorem itS_b (h : 0 ≤ x) : itS f SP x = [x] := if_pos h
theorem itS_n (h : 0 ≤ x) (hs : SP (2 * x) = -1) : itS f SP (-1 - x) = [] := by
  unfold itS
  rw [if_neg (by omega), show -1 - (-1 - x) = x by omega, if_pos hs]
theorem itS_g (h : 0 ≤ x) (hs : ¬ SP (2 * x) = -1) : itS f SP (-1 - x) = sbR f (SP (2 * x)) (SP (2 * x + 1)) := by
  unfold itS
  rw [if_neg (by omega), show -1 - (-1 - x) = x by omega, if_neg hs]
theorem exS_s : exS f SP (L ++ [it]) = exS f SP L ++ itS f SP it := by
  unfold exS
  rw [List.flatMap_append]
  congr 1
  show itS f SP it ++ [] = itS f SP it
  exact List.append_nil _
theorem exS_app : exS f SP (L ++ M) = exS f SP L ++ exS f SP M := by
  unfold exS
  rw [List.flatMap_append]
/-- spans that have a match -/
theorem itS_X {wi st e : Int} {g : Gr} (h : mch (some (e, g)) 1 SP wi st) (h0 : 0 ≤ st) (hi : 0 ≤ it ∨ 2 * (-1 - it) + 1 < wi) : itS f SP it = itX f st e g it := by
  rcases h with ⟨h, _⟩ | ⟨e2, g2, h1, _, h2, h3, h4⟩
  · cases h
  · injection h1 with h1
    injection h1 with k1 k2
    unfold itS itX
    by_cases c : 0 ≤ it
    · rw [if_pos c, if_pos c]
    · rw [if_neg c, if_neg c]
      by_cases d : it = -1
      · rw [if_pos d, d, show 2 * (-1 - -1 : Int) = 0 by omega, show (0 : Int) + 1 = 1 by omega, h2, h3, if_neg (by omega), k1]
      · rw [if_neg d]
        have e1 : SP (2 * (-1 - it)) = g (2 * (-1 - it)) := by rw [k2]; exact h4 _ (by omega) (by omega)
        have e3 : SP (2 * (-1 - it) + 1) = g (2 * (-1 - it) + 1) := by rw [k2]; exact h4 _ (by omega) (by omega)
        rw [e1, e3]
theorem exS_X {wi st e : Int} {g : Gr} (h : mch (some (e, g)) 1 SP wi st) (h0 : 0 ≤ st) : ∀ L : List Int, (∀ it ∈ L, 0 ≤ it ∨ 2 * (-1 - it) + 1 < wi) → exS f SP L = exL f st e g L := by
  intro L
  induction L with
  | nil => intro _; rfl
  | cons x t ih =>
    intro hL
    show itS f SP x ++ exS f SP t = itX f st e g x ++ exL f st e g t
    rw [itS_X h h0 (hL x (List.mem_cons.mpr (Or.inl rfl))), ih (fun y hy => hL y (List.mem_cons_of_mem _ hy))]
end It
/-- the reference fills the template -/
def twI (T : Int → Int) (n GR : Int) (NZ : Int → Int) (NM : Int → Int → Int) (f SP : Int → Int) (O : List Int) (p : Int) (WR : Int → Int) (m tm : Int) : Prop := ∃ L : List Int, tpX T n GR NZ NM p L ∧ wmR WR m tm (O ++ exS f SP L)
section Tw
variable {T : Int → Int} {n GR p p2 it w m tm m2 tm2 : Int} {NZ : Int → Int} {NM : Int → Int → Int} {f SP WR WR2 : Int → Int} {O M : List Int}
theorem twI_0 (h : wmR WR m tm O) : twI T n GR NZ NM f SP O 0 WR m tm := ⟨[], tpX_0, by rw [show exS f SP [] = [] from rfl, List.append_nil]; exact h⟩
theorem twI_s (h : twI T n GR NZ NM f SP O p WR m tm) (hp : 0 ≤ p ∧ p < n) (hi : tmI T n GR NZ NM p it w) (e : p2 = p + w) (q : ∀ Q : List Int, wmR WR m tm Q → wmR WR2 m2 tm2 (Q ++ itS f SP it)) : twI T n GR NZ NM f SP O p2 WR2 m2 tm2 := by
  obtain ⟨L, h1, h2⟩ := h
  refine ⟨L ++ [it], tpX_s h1 hp hi e, ?_⟩
  rw [exS_s, ← List.append_assoc]
  exact q _ h2
theorem twI_e (hd : nmD NZ NM GR) (hM : tpL T n GR NZ NM M) (h : twI T n GR NZ NM f SP O p WR m tm) (hb : n ≤ p ∨ tm = 1) : wmR WR m tm (O ++ exS f SP M) := by
  obtain ⟨L, h1, h2⟩ := h
  by_cases c : n ≤ p
  · rw [tpL_det hd hM (tpX_L h1 c)]; exact h2
  · obtain ⟨R, e⟩ := tpX_pre hd h1 hM
    have t : tm = 1 := hb.resolve_left c
    rw [t] at h2 ⊢
    rw [e, exS_app, ← List.append_assoc]
    exact h2.more
end Tw
theorem twI_m {T : Int → Int} {n GR p p2 it w m2 tm2 : Int} {NZ : Int → Int} {NM : Int → Int → Int} {f SP WR2 : Int → Int} {O L : List Int} (h1 : tpX T n GR NZ NM p L) (hp : 0 ≤ p ∧ p < n) (hi : tmI T n GR NZ NM p it w) (e : p2 = p + w) (q : wmR WR2 m2 tm2 (O ++ exS f SP L ++ itS f SP it)) : twI T n GR NZ NM f SP O p2 WR2 m2 tm2 := ⟨L ++ [it], tpX_s h1 hp hi e, by rw [exS_s, ← List.append_assoc]; exact q⟩
