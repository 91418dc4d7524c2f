/-! one mind: whether a program is clear -/
def icI (K N O RR : Int → Int) (b cnt : Int) (SE SK : Int → Int) (dp ab wq : Int) (CB : Int → Prop) : Prop := ∃ D : List Int, ((∀ Q : List Int, DSq K N O Q (skl SK dp.toNat) → DSq K N O (D ++ Q) [b]) ∧ gdO K O RR D ∧ wO K D + dp ≤ 1 + wq) ∧ ((∀ x ∈ D, 0 ≤ x ∧ x < cnt) ∧ ∀ x : Int, 0 ≤ x → x < cnt → (SE x = b ↔ x ∈ D)) ∧ (ab = 1 ↔ ∃ x ∈ D, K x = 2) ∧ ∀ c : Int, CB c ↔ ∃ x ∈ D, phas K O RR x c
/-- clear from b on -/
def cleF (K N O RR : Int → Int) (b : Int) : Prop := ∃ D : List Int, DSq K N O D [b] ∧ gdO K O RR D ∧ wO K D ≤ 1615
section IcI
variable {K N O RR : Int → Int} {b cnt x d1 dp dp2 ab ab2 wq wq2 : Int} {SE SK SK2 : Int → Int} {CB CB2 : Int → Prop}
theorem icI_0 (hs : ∀ x : Int, 0 ≤ x → x < cnt → ¬ SE x = b) (hb : 0 ≤ b) (ha : ¬ ab = 1) (hc : ∀ c : Int, ¬ CB c) (hq : 0 ≤ wq) : icI K N O RR b cnt SE (zu SK 0 b) 1 ab wq CB := by
  refine ⟨[], ⟨fun Q hQ => ?_, List.Pairwise.nil, by show (0 : Int) + 1 ≤ 1 + wq; omega⟩, ⟨fun x hx => absurd hx List.not_mem_nil, fun x x0 x1 => ⟨fun z => absurd z (hs x x0 x1), fun z => absurd z List.not_mem_nil⟩⟩, ⟨fun z => absurd z ha, fun ⟨x, hx, _⟩ => absurd hx List.not_mem_nil⟩, fun c => ⟨fun z => absurd z (hc c), fun ⟨x, hx, _⟩ => absurd hx List.not_mem_nil⟩⟩
  have e : skl (zu SK 0 b) (1 : Int).toNat = [b] := by
    show (if zu SK 0 b 0 < 0 then [] else [zu SK 0 b 0]) = [b]
    rw [zu_self, if_neg (by omega)]
  rw [e] at hQ
  exact hQ
theorem phas_k {c : Int} (h : phas K O RR x c) : K x = 0 ∨ K x = 1 := h.imp (fun z => z.1) (fun z => z.1)
theorem icI.s (h : icI K N O RR b cnt SE SK dp ab wq CB) (h1 : 1 ≤ dp) (e : d1 = dp - 1) (hx : SK d1 = x ∧ 0 ≤ x ∧ x < cnt) (ha : ¬ (SE x = b ∧ ¬ K x = 9)) (hc : K x ≤ 2 → ¬ ab = 1 ∧ (K x = 2 → ∀ c : Int, ¬ CB c) ∧ ∀ c : Int, phas K O RR x c → ¬ CB c) (hs : skl SK2 dp2.toNat = chO K N O x ++ skl SK d1.toNat) (hab : ab2 = 1 ↔ ab = 1 ∨ K x = 2) (hcb : ∀ c : Int, CB2 c ↔ CB c ∨ phas K O RR x c) (hq : (if K x = 7 then 2 else 1) + dp2 + wq ≤ dp + wq2) : icI K N O RR b cnt (zu SE x b) SK2 dp2 ab2 wq2 CB2 := by
  obtain ⟨D, ⟨q1, q2, q9⟩, ⟨q3, q4⟩, q5, q6⟩ := h
  rw [e] at hx hs
  refine ⟨D ++ [x], ⟨fun Q hQ => ?_, List.pairwise_append.mpr ⟨q2, List.pairwise_singleton _ _, fun y hy z hz => ?_⟩, ?_⟩, ⟨fun y hy => ?_, fun y y0 y1 => ?_⟩, ?_, fun c => ?_⟩
  · rw [hs] at hQ
    rw [List.append_assoc]
    refine q1 _ ?_
    rw [skl_1 h1, hx.1, if_neg (by omega)]
    exact ⟨_, rfl, hQ⟩
  · have ez : z = x := List.mem_singleton.mp hz
    rw [ez]
    refine ⟨fun k9 yx => ?_, fun ky kx cl => ?_⟩
    · rw [yx] at hy k9
      exact ha ⟨(q4 x hx.2.1 hx.2.2).mpr hy, k9⟩
    · obtain ⟨c1, c2, c3⟩ := hc kx
      have no2 : ¬ K y = 2 := fun k => c1 (q5.mpr ⟨y, hy, k⟩)
      rcases cl with ⟨k, _⟩ | ⟨k, _⟩ | ⟨k, c, hp⟩ | ⟨c, hp, hp2⟩
      · exact no2 k
      · exact no2 k
      · exact c2 k c ((q6 c).mpr ⟨y, hy, hp⟩)
      · exact c3 c hp2 ((q6 c).mpr ⟨y, hy, hp⟩)
  · rw [wO_app]
    have e1 : wO K [x] = (if K x = 7 then 2 else 1) + 0 := rfl
    rw [e1]
    omega
  · rcases List.mem_append.mp hy with w | w
    · exact q3 y w
    · rw [List.mem_singleton.mp w]; exact hx.2
  · by_cases c : y = x
    · rw [c, zu_self]
      exact ⟨fun _ => List.mem_append_right _ (List.mem_singleton.mpr rfl), fun _ => rfl⟩
    · rw [zu_ne c, q4 y y0 y1]
      exact ⟨fun w => List.mem_append_left _ w, fun w => (List.mem_append.mp w).elim id (fun u => absurd (List.mem_singleton.mp u) c)⟩
  · rw [hab, q5]
    constructor
    · rintro (⟨y, w, k⟩ | k)
      · exact ⟨y, List.mem_append_left _ w, k⟩
      · exact ⟨x, List.mem_append_right _ (List.mem_singleton.mpr rfl), k⟩
    · rintro ⟨y, w, k⟩
      rcases List.mem_append.mp w with u | u
      · exact Or.inl ⟨y, u, k⟩
      · rw [List.mem_singleton.mp u] at k; exact Or.inr k
  · rw [hcb, q6]
    constructor
    · rintro (⟨y, w, k⟩ | k)
      · exact ⟨y, List.mem_append_left _ w, k⟩
      · exact ⟨x, List.mem_append_right _ (List.mem_singleton.mpr rfl), k⟩
    · rintro ⟨y, w, k⟩
      rcases List.mem_append.mp w with u | u
      · exact Or.inl ⟨y, u, k⟩
      · rw [List.mem_singleton.mp u] at k; exact Or.inr k
theorem icI.fin (h : icI K N O RR b cnt SE SK dp ab wq CB) (hd : dp = 0) (hq : wq ≤ 1614) : cleF K N O RR b := by
  obtain ⟨D, ⟨q1, q2, q9⟩, _⟩ := h
  rw [hd] at q1
  have := q1 [] rfl
  rw [List.append_nil] at this
  exact ⟨D, this, q2, by omega⟩
theorem skl_k6 (h0 : 0 ≤ d1) (k : K x = 6) (hx : 0 ≤ N x ∧ 0 ≤ O x) : skl (zu (zu SK d1 (O x)) (d1 + 1) (N x)) (d1 + 1 + 1).toNat = chO K N O x ++ skl SK d1.toNat := by
  rw [skl_p (SK := zu SK d1 (O x)) (by omega) (fun i i0 i1 => zu_ne (by omega)), zu_self, if_neg (by omega), skl_p (SK := SK) h0 (fun i i0 i1 => zu_ne (by omega)), zu_self, if_neg (by omega), chO_6 k]
  rfl
theorem skl_k1 (h0 : 0 ≤ d1) (k : K x = 7 ∨ K x = 3) (hx : 0 ≤ N x) : skl (zu SK d1 (N x)) (d1 + 1).toNat = chO K N O x ++ skl SK d1.toNat := by
  rw [skl_p (SK := SK) h0 (fun i i0 i1 => zu_ne (by omega)), zu_self, if_neg (by omega), chO_1 k]
  rfl
theorem skl_k0 (k : K x ≤ 2 ∨ K x = 8 ∨ K x = 9) : skl SK d1.toNat = chO K N O x ++ skl SK d1.toNat := by
  unfold chO
  rw [if_neg (by omega), if_neg (by omega)]
  rfl
end IcI
/-! all of it -/
def ocl2 (K N O RR CL : Int → Int) (cnt fi one st : Int) : Prop := one = 1 → ¬ CL fi = 0 ∧ (∀ b : Int, 0 ≤ b → b < cnt → ¬ CL b = 0 → cleF K N O RR b) ∧ (∀ s : Int, 0 ≤ s → s < st → K s ≤ 2 → ¬ CL (N s) = 0)
section Ocl2
variable {K N O RR CL : Int → Int} {cnt fi one st : Int}
theorem ocl2_no : ocl2 K N O RR CL cnt fi 0 st := fun h => absurd h (by decide)
theorem ocl2_0 (h : cleF K N O RR fi) (hz : ∀ b : Int, 0 ≤ b → b < cnt → CL b = 0) : ocl2 K N O RR (zu CL fi 1) cnt fi 1 0 := fun _ => by
  refine ⟨by rw [zu_self]; omega, fun b b0 b1 q => ?_, fun s a b => by omega⟩
  by_cases e : b = fi
  · rw [e]; exact h
  · rw [zu_ne e, hz b b0 b1] at q; exact absurd rfl q
theorem ocl2_s (h : ocl2 K N O RR CL cnt fi 1 st) (h0 : 0 ≤ st) (hs : K st ≤ 2 → ¬ CL (N st) = 0) : ocl2 K N O RR CL cnt fi 1 (st + 1) := fun _ => by
  obtain ⟨a, b, c⟩ := h rfl
  refine ⟨a, b, fun s s0 s1 k => ?_⟩
  by_cases e : s = st
  · subst e; exact hs k
  · exact c s s0 (by omega) k
theorem ocl2_c (h : ocl2 K N O RR CL cnt fi 1 st) (h0 : 0 ≤ st) (hn : cleF K N O RR (N st)) : ocl2 K N O RR (zu CL (N st) 1) cnt fi 1 (st + 1) := fun _ => by
  obtain ⟨a, b, c⟩ := h rfl
  have up : ∀ x, ¬ CL x = 0 → ¬ zu CL (N st) 1 x = 0 := fun x q => by
    by_cases e : x = N st
    · rw [e, zu_self]; omega
    · rw [zu_ne e]; exact q
  refine ⟨up _ a, fun x x0 x1 q => ?_, fun s s0 s1 k => ?_⟩
  · by_cases e : x = N st
    · rw [e]; exact hn
    · rw [zu_ne e] at q; exact b x x0 x1 q
  · by_cases e : s = st
    · subst e; rw [zu_self]; omega
    · exact up _ (c s s0 (by omega) k)
theorem ocl2_end (h : ocl2 K N O RR CL cnt fi one st) (h1 : one = 1) (hs : st = cnt) (hf : 0 ≤ fi ∧ fi < cnt) (hn : ∀ s : Int, 0 ≤ s → s < cnt → 0 ≤ N s ∧ N s < cnt) : omC K N O RR cnt fi := by
  subst hs
  obtain ⟨a, b, c⟩ := h h1
  rintro x (e | ⟨s, ⟨s0, s1⟩, s2, e⟩)
  · rw [e]; exact b fi hf.1 hf.2 a
  · rw [e]; exact b _ (hn s s0 s1).1 (hn s s0 s1).2 (c s s0 s1 s2)
end Ocl2
