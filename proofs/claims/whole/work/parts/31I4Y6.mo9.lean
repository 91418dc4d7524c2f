/-! what is taken at a place is marked behind it -/
def cgr (A B : Int → Int) : Prop := ∀ q k : Int, 0 ≤ k → k < 12544 → nbit A q k → nbit B q k
theorem cgr_rf {A : Int → Int} : cgr A A := fun _ _ _ _ h => h
def lend (T N W CA CM CL CH f : Int → Int) (len b n fm en q : Int) : Prop := ∃ k : Int, (0 ≤ k ∧ k < n) ∧ T (b + k) = 0 ∧ lead T N W CA CM CL CH f len b n fm en q k
def tdn (T N CA CM CL CH f A CO : Int → Int) (len b far ls p k : Int) : Prop := ∀ j : Int, 0 ≤ j → j < k → nbit A p j → (∀ c cw w : Int, mchr f len p c cw → tkv T CA CM CL CH c cw len (b + j) p w → 0 < w → p + w ≤ far ∧ nbit CO (p + w) (N (b + j))) ∧ (T (b + j) = 0 → p ≤ ls)
section Takes
variable {T N W CA CM CL CH f A CO C2 : Int → Int} {len b n fm en cl p q k x far far2 ls ls2 w c cw : Int}
theorem cgr_mark (h : cgr A CO) (e : ∀ p2 k2 : Int, 0 ≤ k2 → k2 < 12544 → (nbit C2 p2 k2 ↔ nbit CO p2 k2 ∨ (p2 = q ∧ k2 = x))) : cgr A C2 := fun r i a c z => (e r i a c).mpr (Or.inl (h r i a c z))
theorem nlo_mark (h : nlo A CO p) (hq : p ≤ q) (e : ∀ p2 k2 : Int, 0 ≤ k2 → k2 < 12544 → (nbit C2 p2 k2 ↔ nbit CO p2 k2 ∨ (p2 = q ∧ k2 = x))) : nlo A C2 p := fun r i a b c => by
  rw [e r i b c, ← h r i a b c]
  exact ⟨fun z => z.resolve_right (fun y => by omega), Or.inl⟩
theorem tdn_0 : tdn T N CA CM CL CH f A CO len b far ls p 0 := fun j a c => by omega
theorem tdn_s (h : tdn T N CA CM CL CH f A CO len b far ls p k) (hs : sgood T N W CA CM b n) (hk : 0 ≤ k ∧ k < n) (hn : n ≤ 12500) (hg : cgr CO C2) (hf : far ≤ far2) (hl : ls ≤ ls2) (hx : nbit A p k → (∀ c cw w : Int, mchr f len p c cw → tkv T CA CM CL CH c cw len (b + k) p w → 0 < w → p + w ≤ far2 ∧ nbit C2 (p + w) (N (b + k))) ∧ (T (b + k) = 0 → p ≤ ls2)) : tdn T N CA CM CL CH f A C2 len b far2 ls2 p (k + 1) := fun j a c d => by
  by_cases e : j = k
  · subst e; exact hx d
  · obtain ⟨h1, h2⟩ := h j a (by omega) d
    refine ⟨fun c cw w m t z => ?_, fun t => Int.le_trans (h2 t) hl⟩
    have y := h1 c cw w m t z
    have ht1 : 1 ≤ T (b + j) ∧ T (b + j) ≤ 2 := by
      rcases t with ⟨a, _⟩ | ⟨a, _, z⟩ | ⟨a, _⟩ | ⟨_, _, z⟩ <;> omega
    have i := (hs j a (by omega)).2.1 ht1.1 (by omega)
    exact ⟨by omega, hg _ _ i.1 (by omega) y.2⟩
/-- what is computed once is what is taken -/
theorem tk_once (hc : mchr f len p c cw) (hw : tkv T CA CM CL CH c cw len (b + k) p w) {Y : Int → Prop} (h : 0 < w → Y w) : ∀ c2 cw2 w2 : Int, mchr f len p c2 cw2 → tkv T CA CM CL CH c2 cw2 len (b + k) p w2 → 0 < w2 → Y w2 := fun c2 cw2 w2 q1 q2 q3 => by
  obtain ⟨e1, e2⟩ := mchr_fun hc q1
  subst e1; subst e2
  have e := tkv_fun hw q2
  subst e
  exact h q3
theorem fcl_mk (hc : ccl T N W f CO len b p n) (ht : tdn T N CA CM CL CH f CO C2 len b far ls p n) (hs : sgood T N W CA CM b n) (hn : n ≤ 12500) (hl : nlo CO C2 (p + 1)) : fcl T N W CA CM CL CH f C2 len b n far ls p := fun k k0 k1 hb => by
  have eq : ∀ i : Int, 0 ≤ i → i < n → (nbit C2 p i ↔ nbit CO p i) := fun i a c => hl p i (by omega) a (by omega)
  have h0 := (eq k k0 k1).mp hb
  obtain ⟨s1, s2, s3, s4, s5, s6⟩ := hs k k0 k1
  obtain ⟨c3, c4, c5⟩ := hc k k0 k1 h0
  obtain ⟨t1, t2⟩ := ht k k0 k1 h0
  refine ⟨fun t => ?_, fun t => ?_, fun t u => ?_, t1, t2⟩
  · have i := s2 (by omega) (by omega)
    have j := s3 t
    exact ⟨(eq _ i.1 i.2).mpr (c3 t).1, (eq _ j.1 j.2).mpr (c3 t).2⟩
  · have i := s2 (by omega) (by omega)
    exact (eq _ i.1 i.2).mpr (c4 t)
  · have i := s2 (by omega) (by omega)
    exact (eq _ i.1 i.2).mpr (c5 t u)
theorem fcl_keep (h : fcl T N W CA CM CL CH f CO len b n far ls q) (hs : sgood T N W CA CM b n) (hn : n ≤ 12500) (hr : ∀ i : Int, 0 ≤ i → i < 12544 → (nbit C2 q i ↔ nbit CO q i)) (hg : cgr CO C2) (hf : far ≤ far2) (hl : ls ≤ ls2) : fcl T N W CA CM CL CH f C2 len b n far2 ls2 q := fun k k0 k1 hb => by
  obtain ⟨c3, c4, c5, c6, c7⟩ := h k k0 k1 ((hr k k0 (by omega)).mp hb)
  obtain ⟨s1, s2, s3, s4, s5, s6⟩ := hs k k0 k1
  refine ⟨fun t => ?_, fun t => ?_, fun t u => ?_, fun c cw w m t z => ?_, fun t => Int.le_trans (c7 t) hl⟩
  · have i := s2 (by omega) (by omega)
    have j := s3 t
    exact ⟨hg _ _ i.1 (by omega) (c3 t).1, hg _ _ j.1 (by omega) (c3 t).2⟩
  · have i := s2 (by omega) (by omega)
    exact hg _ _ i.1 (by omega) (c4 t)
  · have i := s2 (by omega) (by omega)
    exact hg _ _ i.1 (by omega) (c5 t u)
  · have y := c6 c cw w m t z
    have ht1 : 1 ≤ T (b + k) ∧ T (b + k) ≤ 2 := by
      rcases t with ⟨a, _⟩ | ⟨a, _, z⟩ | ⟨a, _⟩ | ⟨_, _, z⟩ <;> omega
    have i := s2 ht1.1 (by omega)
    exact ⟨by omega, hg _ _ i.1 (by omega) y.2⟩
end Takes
