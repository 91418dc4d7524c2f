theorem tka_n0 {T W CA CM SM SA RL RH CL CH : Int → Int} {b n sl cl ns : Int} (h : n ≤ 0) : tka T W CA CM SM SA RL RH CL CH b n sl cl ns := fun j a c => by omega
theorem sgood_of {T N W CA CM SM SA RL RH CL CH : Int → Int} {b n0 n sl cl ns : Int} (h : sgn T N W b n0 n) (h0 : n0 ≤ 0) (ht : tka T W CA CM SM SA RL RH CL CH b n sl cl ns) (hs : rgs SM 2100 0 24000) (hn : ns ≤ 2100) (hl : 0 ≤ sl ∧ sl ≤ 5 ∧ cl ≤ 600) : sgood T N W CA CM b n := fun k a c => by
  obtain ⟨t1, t2, t3, t4, t5⟩ := h k (by omega) c
  refine ⟨t1, t2, t3, t4, t5, fun q => ?_⟩
  obtain ⟨u1, u2, u3, u4, _⟩ := ht k a c q
  have := hs (W (b + k)) u1.1 (by omega)
  rw [u2] at u4 ⊢
  omega
theorem mpg_set {TH T N W CA CM SN EN GR FL T2 N2 W2 CA2 CM2 SN2 : Int → Int} {s e g f : Int} (h : mpg TH T N W CA CM SN EN GR FL) (hx : stx T N W CA CM T2 N2 W2 CA2 CM2 (12500 * s) 0) (hs : sno SN SN2 s) (hl : 0 ≤ s ∧ s ≤ 5) (h1 : 0 ≤ SN2 s ∧ SN2 s ≤ 12500) (h2 : 0 ≤ e ∧ e < SN2 s) (h3 : 0 ≤ g ∧ g ≤ 9) (h4 : 0 ≤ f ∧ f ≤ 31) (h5 : sgood T2 N2 W2 CA2 CM2 (12500 * s) (SN2 s)) : mpg (zu TH s 1) T2 N2 W2 CA2 CM2 SN2 (zu EN s e) (zu GR s g) (zu FL s f) := fun j a c q => by
  by_cases z : j = s
  · subst z; rw [zu_self, zu_self, zu_self]; exact ⟨h1, h2, h3, h4, h5⟩
  · rw [zu_ne z] at q
    obtain ⟨g1, g2, g3, g4, g5⟩ := h j a c q
    rw [zu_ne z, zu_ne z, zu_ne z, hs j z]
    refine ⟨g1, g2, g3, g4, fun k k0 k1 => ?_⟩
    obtain ⟨x1, x2, x3, x4, x5⟩ := hx (12500 * j + k) (by omega)
    rw [x1, x2, x3, x4, x5]; exact g5 k k0 k1
/-! a slot's program is made anew: the others mean what they meant -/
def vUp (V : Int → Sn) (s : Int) (v : Sn) : Int → Sn := fun j => if j = s then v else V j
theorem ccx_lo {CL CH CL2 CH2 : Int → Int} {sl c c2 : Int} (h : ccx CL CH CL2 CH2 sl c) (e : c = c2) : ccx CL CH CL2 CH2 sl c2 := by
  rw [← e]
  exact h
theorem prR_o {T N W CA CM CL CH T2 N2 W2 CA2 CM2 CL2 CH2 : Int → Int} {s j n c e : Int} {v : Sn} (h : prR T N W CA CM CL CH j n c e v) (hx : stx T N W CA CM T2 N2 W2 CA2 CM2 (12500 * s) 0) (hc : ccx CL CH CL2 CH2 s 0) (hj : ¬ j = s) (hn : n ≤ 12500) (h6 : c ≤ 600) : prR T2 N2 W2 CA2 CM2 CL2 CH2 j n c e v := by
  obtain ⟨⟨h0, h1, h2⟩, hr⟩ := h
  refine ⟨⟨?_, ?_, h2⟩, hr.up ⟨fun i i0 i1 => hx (12500 * j + i) ?_, fun i i0 i1 => hc i ?_⟩ (Int.le_refl _) (Int.le_refl _) (Int.le_refl _)⟩
  · rw [(hx (12500 * j) (by omega)).1]; exact h0
  · rw [(hx (12500 * j + 1) (by omega)).1]; exact h1
  · omega
  · omega
theorem mpm_set {TH T N W CA CM CL CH SN EN T2 N2 W2 CA2 CM2 CL2 CH2 SN2 : Int → Int} {V : Int → Sn} {s e c : Int} {v : Sn} (h : mpm TH T N W CA CM CL CH SN EN V) (hx : stx T N W CA CM T2 N2 W2 CA2 CM2 (12500 * s) 0) (hcx : ccx CL CH CL2 CH2 s 0) (hs : sno SN SN2 s) (hp : prR T2 N2 W2 CA2 CM2 CL2 CH2 s (SN2 s) c e v) (hc : c ≤ 600) (hn : SN2 s ≤ 12500) : mpm (zu TH s 1) T2 N2 W2 CA2 CM2 CL2 CH2 SN2 (zu EN s e) (vUp V s v) := fun j j0 j1 q => by
  by_cases k : j = s
  · subst k
    have e1 : vUp V j v j = v := if_pos rfl
    rw [zu_self, e1]
    exact ⟨c, ⟨hc, hn⟩, hp⟩
  · rw [zu_ne k] at q
    have e1 : vUp V s v j = V j := if_neg k
    rw [zu_ne k, e1, hs j k]
    obtain ⟨c2, ⟨b1, b2⟩, b3⟩ := h j j0 j1 q
    exact ⟨c2, ⟨b1, b2⟩, prR_o b3 hx hcx k b2 b1⟩
