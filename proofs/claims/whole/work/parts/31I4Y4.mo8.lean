/-! the marks of where a search comes: all lead back to its begin -/
def cld (T N W CA CM CL CH f CO : Int → Int) (len b n fm en cl : Int) : Prop := ∀ q k : Int, fm ≤ q → q ≤ cl → 0 ≤ k → k < 12544 → nbit CO q k → k < n ∧ lead T N W CA CM CL CH f len b n fm en q k
/-- only row p has grown -/
def csm (A B : Int → Int) (p : Int) : Prop := ∀ q k : Int, 0 ≤ k → k < 12544 → (¬ q = p → (nbit B q k ↔ nbit A q k)) ∧ (nbit A q k → nbit B q k)
theorem csm_rf {A : Int → Int} {p : Int} : csm A A p := fun _ _ _ _ => ⟨fun _ => Iff.rfl, id⟩
def ccl (T N W f CO : Int → Int) (len b p k : Int) : Prop := ∀ j : Int, 0 ≤ j → j < k → nbit CO p j → (T (b + j) = 3 → nbit CO p (N (b + j)) ∧ nbit CO p (W (b + j))) ∧ (T (b + j) = 4 → nbit CO p (N (b + j))) ∧ (T (b + j) = 5 → mhld f len p (W (b + j)) → nbit CO p (N (b + j)))
section Comes
variable {T N W CA CM CL CH f A CO C2 : Int → Int} {len b n fm en cl p q k x : Int}
theorem cld_mark (h : cld T N W CA CM CL CH f CO len b n fm en cl) (hx : x < n) (hl : lead T N W CA CM CL CH f len b n fm en q x) (e : ∀ p2 k2 : Int, 0 ≤ k2 → k2 < 12544 → (nbit C2 p2 k2 ↔ nbit CO p2 k2 ∨ (p2 = q ∧ k2 = x))) : cld T N W CA CM CL CH f C2 len b n fm en cl := fun r i a c i0 i1 hb => by
  rcases (e r i i0 i1).mp hb with z | ⟨z1, z2⟩
  · exact h r i a c i0 i1 z
  · rw [z1, z2]; exact ⟨hx, hl⟩
theorem csm_mark (h : csm A CO p) (e : ∀ p2 k2 : Int, 0 ≤ k2 → k2 < 12544 → (nbit C2 p2 k2 ↔ nbit CO p2 k2 ∨ (p2 = p ∧ k2 = x))) : csm A C2 p := fun q k k0 k1 => ⟨fun hq => by
  rw [e q k k0 k1]
  exact ⟨fun z => (((h q k k0 k1).1 hq).mp (z.resolve_right (fun y => hq y.1))), fun z => Or.inl (((h q k k0 k1).1 hq).mpr z)⟩, fun z => (e q k k0 k1).mpr (Or.inl ((h q k k0 k1).2 z))⟩
theorem ccl_0 : ccl T N W f CO len b p 0 := fun j a c => by omega
theorem ccl_s (h : ccl T N W f CO len b p k) (hk : nbit CO p k → (T (b + k) = 3 → nbit CO p (N (b + k)) ∧ nbit CO p (W (b + k))) ∧ (T (b + k) = 4 → nbit CO p (N (b + k))) ∧ (T (b + k) = 5 → mhld f len p (W (b + k)) → nbit CO p (N (b + k)))) : ccl T N W f CO len b p (k + 1) := fun j a c d => by
  by_cases e : j = k
  · subst e; exact hk d
  · exact h j a (by omega) d
theorem cbz1 (hn : ¬ nbit CO p x) (h0 : 0 ≤ x ∧ x < n) (hn2 : n ≤ 12500) (e : ∀ p2 k2 : Int, 0 ≤ k2 → k2 < 12544 → (nbit C2 p2 k2 ↔ nbit CO p2 k2 ∨ (p2 = p ∧ k2 = x))) : bz (fun i => nbit C2 p i) n ≤ bz (fun i => nbit CO p i) n - 1 := bz_lt (k := x) hn ((e p x h0.1 (by omega)).mpr (Or.inr ⟨rfl, rfl⟩)) h0 (fun i a c z => (e p i a (by omega)).mpr (Or.inl z))
theorem cbz0 (hn2 : n ≤ 12500) (e : ∀ p2 k2 : Int, 0 ≤ k2 → k2 < 12544 → (nbit C2 p2 k2 ↔ nbit CO p2 k2 ∨ (p2 = p ∧ k2 = x))) : bz (fun i => nbit C2 p i) n ≤ bz (fun i => nbit CO p i) n := bz_mono (fun i a c z => (e p i a (by omega)).mpr (Or.inl z))
end Comes
