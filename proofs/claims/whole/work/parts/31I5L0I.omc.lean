/-! one mind: what is taken already -/
def rgU (RR : Int → Int) (o u c : Int) : Prop := ∃ j : Int, (0 ≤ j ∧ j < u) ∧ RR (o + 1 + 2 * j) ≤ c ∧ c ≤ RR (o + 1 + 2 * j + 1)
def ntI (RR : Int → Int) (o u nw : Int) (P0 P : Int → Prop) : Prop := (∀ c : Int, P c ↔ P0 c ∨ rgU RR o u c) ∧ (nw = 1 → ∀ c : Int, rgU RR o u c → ¬ P0 c)
/-- a new taker: nobody took what it takes -/
def ntX (K O RR : Int → Int) (x : Int) (P P2 : Int → Prop) (v : Int) : Prop := v = 1 → (K x = 2 → ∀ c : Int, ¬ P c) ∧ (∀ c : Int, phas K O RR x c → ¬ P c) ∧ ∀ c : Int, P2 c ↔ P c ∨ phas K O RR x c
section NtI
variable {K O RR : Int → Int} {o u nw x v cnt : Int} {P0 P P2 : Int → Prop} {f : Int → Int}
theorem rgU_s {c : Int} (h : 0 ≤ u) : rgU RR o (u + 1) c ↔ rgU RR o u c ∨ (RR (o + 1 + 2 * u) ≤ c ∧ c ≤ RR (o + 1 + 2 * u + 1)) := by
  constructor
  · rintro ⟨j, j1, j2⟩
    by_cases e : j = u
    · rw [e] at j2; exact Or.inr j2
    · exact Or.inl ⟨j, by omega, j2⟩
  · rintro (⟨j, j1, j2⟩ | z)
    · exact ⟨j, by omega, j2⟩
    · exact ⟨u, by omega, z⟩
theorem ntI_0 : ntI RR o 0 nw P P := ⟨fun c => ⟨Or.inl, fun z => z.elim id (fun ⟨j, j1, _⟩ => by omega)⟩, fun _ c ⟨j, j1, _⟩ => by omega⟩
theorem ntI.no (h : ntI RR o u 1 P0 P) (hu : 0 ≤ u) (ha : ∀ c : Int, P2 c ↔ P c ∨ (RR (o + 1 + 2 * u) ≤ c ∧ c ≤ RR (o + 1 + 2 * u + 1))) (hm : ∀ c : Int, RR (o + 1 + 2 * u) ≤ c → c ≤ RR (o + 1 + 2 * u + 1) → ¬ P c) : ntI RR o (u + 1) 1 P0 P2 := by
  refine ⟨fun c => by rw [ha, h.1, rgU_s hu, or_assoc], fun _ c hc => ?_⟩
  rcases (rgU_s hu).mp hc with z | z
  · exact h.2 rfl c z
  · exact fun w => hm c z.1 z.2 ((h.1 c).mpr (Or.inl w))
theorem ntI.yes (h : ntI RR o u nw P0 P) (hu : 0 ≤ u) (ha : ∀ c : Int, P2 c ↔ P c ∨ (RR (o + 1 + 2 * u) ≤ c ∧ c ≤ RR (o + 1 + 2 * u + 1))) : ntI RR o (u + 1) 0 P0 P2 := ⟨fun c => by rw [ha, h.1, rgU_s hu, or_assoc], fun z => absurd z (by decide)⟩
theorem rgU_phas {c : Int} (k : K x = 1) : rgU RR (O x) (RR (O x)) c ↔ phas K O RR x c := by
  constructor
  · rintro ⟨j, j1, j2, j3⟩
    exact Or.inr ⟨k, j, j1.1, j1.2, by show RR (O x + 1 + 2 * j) ≤ c; exact j2, by show c ≤ RR (O x + 1 + (2 * j + 1)); rw [show O x + 1 + (2 * j + 1) = O x + 1 + 2 * j + 1 by omega]; exact j3⟩
  · rintro (⟨k0, _⟩ | ⟨_, j, j0, j1, j2, j3⟩)
    · omega
    · exact ⟨j, ⟨j0, j1⟩, j2, by rw [show O x + 1 + 2 * j + 1 = O x + 1 + (2 * j + 1) by omega]; exact j3⟩
theorem ntI.xx (h : ntI RR (O x) u v P P2) (k : K x = 1) (hu : v = 1 → u = RR (O x)) : ntX K O RR x P P2 v := fun z => by
  rw [hu z] at h
  exact ⟨fun q => by omega, fun c hc => h.2 z c ((rgU_phas k).mpr hc), fun c => by rw [h.1, rgU_phas k]⟩
theorem ntX_2 (k : K x = 2) (h : v = 1 → ∀ c : Int, ¬ P c) : ntX K O RR x P P v := fun z => ⟨fun _ => h z, fun c hc => absurd (phas_k hc) (by omega), fun c => ⟨Or.inl, fun w => w.elim id (fun hc => absurd (phas_k hc) (by omega))⟩⟩
theorem ntX_0 (k : K x = 0) (ha : ∀ c : Int, P2 c ↔ P c ∨ (O x ≤ c ∧ c ≤ O x)) (hm : v = 1 → ∀ c : Int, O x ≤ c → c ≤ O x → ¬ P c) : ntX K O RR x P P2 v := fun z => by
  have e : ∀ c : Int, phas K O RR x c ↔ (O x ≤ c ∧ c ≤ O x) := fun c => ⟨fun q => by
    rcases q with ⟨_, q⟩ | ⟨q, _⟩
    · omega
    · omega, fun q => Or.inl ⟨k, by omega⟩⟩
  exact ⟨fun q => by omega, fun c hc => hm z c ((e c).mp hc).1 ((e c).mp hc).2, fun c => by rw [ha, e]⟩
end NtI
