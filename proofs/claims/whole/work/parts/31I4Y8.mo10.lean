/-! place by place -/
def fcls (T N W CA CM CL CH f CO : Int → Int) (len b n far lst fm p : Int) : Prop := ∀ q : Int, fm ≤ q → q < p → fcl T N W CA CM CL CH f CO len b n far lst q
section Places
variable {T N W CA CM CL CH f CO C2 C3 C4 : Int → Int} {len b n fm en cl c2 p q far f2 ls l2 : Int}
theorem cld_ext (h : cld T N W CA CM CL CH f CO len b n fm en cl) (e : nlo CO C2 (cl + 1)) (hm : nemps C2 cl c2) : cld T N W CA CM CL CH f C2 len b n fm en c2 := fun q k a c k0 k1 hb => by
  by_cases z : q ≤ cl
  · exact h q k a z k0 k1 ((e q k (by omega) k0 k1).mp hb)
  · exact absurd hb (hm q (by omega) c k k0 k1)
theorem fcl_keep2 (h : fcl T N W CA CM CL CH f CO len b n far ls q) (hs : sgood T N W CA CM b n) (hn : n ≤ 12500) (hq : q ≤ far) (hr : ∀ i : Int, 0 ≤ i → i < 12544 → (nbit C2 q i ↔ nbit CO q i)) (hg : ∀ r i : Int, r ≤ far → 0 ≤ i → i < 12544 → nbit CO r i → nbit C2 r i) (hf : far ≤ f2) (hl : ls ≤ l2) : fcl T N W CA CM CL CH f C2 len b n f2 l2 q := fun k k0 k1 hb => by
  obtain ⟨c3, c4, c5, c6, c7⟩ := h k k0 k1 ((hr k k0 (by omega)).mp hb)
  obtain ⟨s1, s2, s3, s4, s5, s6⟩ := hs k k0 k1
  refine ⟨fun t => ?_, fun t => ?_, fun t u => ?_, fun c cw w m t z => ?_, fun t => Int.le_trans (c7 t) hl⟩
  · have i := s2 (by omega) (by omega)
    have j := s3 t
    exact ⟨hg _ _ hq i.1 (by omega) (c3 t).1, hg _ _ hq j.1 (by omega) (c3 t).2⟩
  · have i := s2 (by omega) (by omega)
    exact hg _ _ hq i.1 (by omega) (c4 t)
  · have i := s2 (by omega) (by omega)
    exact hg _ _ hq i.1 (by omega) (c5 t u)
  · have y := c6 c cw w m t z
    have ht1 : 1 ≤ T (b + k) ∧ T (b + k) ≤ 2 := by
      rcases t with ⟨a, _⟩ | ⟨a, _, z⟩ | ⟨a, _⟩ | ⟨_, _, z⟩ <;> omega
    have i := s2 ht1.1 (by omega)
    exact ⟨by omega, hg _ _ y.1 i.1 (by omega) y.2⟩
theorem fcls_0 : fcls T N W CA CM CL CH f CO len b n far ls fm fm := fun q a c => by omega
theorem fcls_s (h : fcls T N W CA CM CL CH f CO len b n far ls fm p) (hs : sgood T N W CA CM b n) (hn : n ≤ 12500) (hp : p ≤ far ∧ far ≤ cl) (e1 : nlo CO C2 (cl + 1)) (e2 : csm C2 C3 p) (e3 : nlo C3 C4 (p + 1)) (e4 : cgr C3 C4) (hc : ccl T N W f C3 len b p n) (ht : tdn T N CA CM CL CH f C3 C4 len b f2 l2 p n) (hf : far ≤ f2) (hl : ls ≤ l2) : fcls T N W CA CM CL CH f C4 len b n f2 l2 fm (p + 1) := fun q a c => by
  by_cases z : q = p
  · rw [z]; exact fcl_mk hc ht hs hn e3
  · refine fcl_keep2 (h q a (by omega)) hs hn (by omega) (fun i i0 i1 => ?_) (fun r i hr i0 i1 hb => ?_) hf hl
    · rw [e3 q i (by omega) i0 i1, (e2 q i i0 i1).1 z, e1 q i (by omega) i0 i1]
    · exact e4 r i i0 i1 ((e2 r i i0 i1).2 ((e1 r i (by omega) i0 i1).mpr hb))
theorem cb_keep (hb : nbit CO fm en) (hf : fm ≤ cl) (he : 0 ≤ en ∧ en < 12544) (e1 : nlo CO C2 (cl + 1)) (e2 : csm C2 C3 p) (e4 : cgr C3 C4) : nbit C4 fm en := e4 _ _ he.1 he.2 ((e2 _ _ he.1 he.2).2 ((e1 _ _ (by omega) he.1 he.2).mpr hb))
end Places
theorem cld_0 {T N W CA CM CL CH f CO : Int → Int} {len b n fm en : Int} (h : nclr CO fm 196) : cld T N W CA CM CL CH f CO len b n fm en fm := fun q k a c k0 k1 hb => by
  have e : q = fm := by omega
  subst e
  exact absurd hb (nemp_clr h k k0 k1)
