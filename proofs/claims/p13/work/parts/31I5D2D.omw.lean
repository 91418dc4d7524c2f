/-! one mind: a search from b, with its turns -/
def ICI (K N O RR : Int → Int) (b cnt : Int) (SE SK : Int → Int) (dp ab : Int) (P : Int → Prop) : Prop := icI K N O RR b cnt SE SK dp ab (2 * (oc6 SE K b cnt + oc37 SE K b cnt)) P
section ICI
variable {K N O RR SE SK : Int → Int} {b cnt dp d1 ab ab2 x v : Int} {P P2 : Int → Prop}
theorem ici_0 (hb : 0 ≤ b) (hs : onew SE b cnt) (ha : ¬ ab = 1) : ICI K N O RR b cnt SE (zu SK 0 b) 1 ab (fun _ => False) := icI_0 (fun x x0 x1 => hs x x0 x1) hb ha (fun _ z => z) (by
  have a := oc_nn (SE := SE) (K := K) (b := b) (t := t6) cnt.toNat
  have b := oc_nn (SE := SE) (K := K) (b := b) (t := t37) cnt.toNat
  unfold oc6 oc37
  omega)
theorem oc_w0 (hk : ¬ K x = 6 ∧ ¬ K x = 7 ∧ ¬ K x = 3) : oc6 (zu SE x b) K b cnt + oc37 (zu SE x b) K b cnt = oc6 SE K b cnt + oc37 SE K b cnt := by
  have e6 : oc6 (zu SE x b) K b cnt = oc6 SE K b cnt := oc_no _ (t6_no hk.1)
  have e7 : oc37 (zu SE x b) K b cnt = oc37 SE K b cnt := oc_no _ (t37_no ⟨hk.2.2, hk.2.1⟩)
  omega
theorem oc_w6 (hu : ¬ SE x = b) (hk : K x = 6) (xr : 0 ≤ x ∧ x < cnt) : oc6 (zu SE x b) K b cnt + oc37 (zu SE x b) K b cnt = oc6 SE K b cnt + oc37 SE K b cnt + 1 := by
  have e6 : oc6 (zu SE x b) K b cnt = oc6 SE K b cnt + 1 := oc_s hu (by rw [hk]; rfl) xr.1 _ (by omega)
  have e7 : oc37 (zu SE x b) K b cnt = oc37 SE K b cnt := oc_no _ (t37_no (by omega))
  omega
theorem oc_w7 (hu : ¬ SE x = b) (hk : K x = 7 ∨ K x = 3) (xr : 0 ≤ x ∧ x < cnt) : oc6 (zu SE x b) K b cnt + oc37 (zu SE x b) K b cnt = oc6 SE K b cnt + oc37 SE K b cnt + 1 := by
  have e6 : oc6 (zu SE x b) K b cnt = oc6 SE K b cnt := oc_no _ (t6_no (by omega))
  have e7 : oc37 (zu SE x b) K b cnt = oc37 SE K b cnt + 1 := oc_s hu (by unfold t37; rw [decide_eq_true_iff]; omega) xr.1 _ (by omega)
  omega
/-- one that takes -/
theorem ici_take (h : ICI K N O RR b cnt SE SK dp ab P) (hd : 0 < dp) (hx : x = SK (dp - 1)) (xr : 0 ≤ x ∧ x < cnt) (hu : ¬ SE x = b) (hk : K x ≤ 2) (hn : ntX K O RR x P P2 v) (hv : v = 1) (ha : ¬ ab = 1) (hb : ab2 = 1 ↔ K x = 2) : ICI K N O RR b cnt (zu SE x b) SK (dp - 1) ab2 P2 := by
  obtain ⟨n1, n2, n3⟩ := hn hv
  unfold ICI at h ⊢
  rw [oc_w0 (by omega)]
  exact icI.s h (by omega) rfl ⟨hx.symm, xr⟩ (fun z => hu z.1) (fun _ => ⟨ha, n1, n2⟩) (skl_k0 (Or.inl hk)) (by rw [hb]; exact ⟨Or.inr, fun z => z.elim (fun w => absurd w ha) id⟩) n3 (by split <;> omega)
/-- an arrival, or a dead end -/
theorem ici_leaf (h : ICI K N O RR b cnt SE SK dp ab P) (hd : 0 < dp) (hx : x = SK (dp - 1)) (xr : 0 ≤ x ∧ x < cnt) (hu : K x = 9 ∨ ¬ SE x = b) (hk : K x = 8 ∨ K x = 9) : ICI K N O RR b cnt (zu SE x b) SK (dp - 1) ab P := by
  unfold ICI at h ⊢
  rw [oc_w0 (by omega)]
  exact icI.s h (by omega) rfl ⟨hx.symm, xr⟩ (fun z => hu.elim (fun k => z.2 k) (fun k => k z.1)) (fun z => by omega) (skl_k0 (Or.inr hk)) ⟨Or.inl, fun z => z.elim id (fun w => by omega)⟩ (fun c => ⟨Or.inl, fun z => z.elim id (fun w => absurd (phas_k w) (by omega))⟩) (by split <;> omega)
theorem ici_split (h : ICI K N O RR b cnt SE SK dp ab P) (hd : 0 < dp) (hx : x = SK (dp - 1)) (xr : 0 ≤ x ∧ x < cnt) (hu : ¬ SE x = b) (hk : K x = 6) (hn : 0 ≤ N x ∧ 0 ≤ O x) : ICI K N O RR b cnt (zu SE x b) (zu (zu SK (dp - 1) (O x)) (dp - 1 + 1) (N x)) (dp - 1 + 1 + 1) ab P := by
  unfold ICI at h ⊢
  rw [oc_w6 hu hk xr]
  exact icI.s h (by omega) rfl ⟨hx.symm, xr⟩ (fun z => hu z.1) (fun z => by omega) (skl_k6 (by omega) hk hn) ⟨Or.inl, fun z => z.elim id (fun w => by omega)⟩ (fun c => ⟨Or.inl, fun z => z.elim id (fun w => absurd (phas_k w) (by omega))⟩) (by split <;> omega)
theorem ici_one (h : ICI K N O RR b cnt SE SK dp ab P) (hd : 0 < dp) (hx : x = SK (dp - 1)) (xr : 0 ≤ x ∧ x < cnt) (hu : ¬ SE x = b) (hk : K x = 7 ∨ K x = 3) (hn : 0 ≤ N x) : ICI K N O RR b cnt (zu SE x b) (zu SK (dp - 1) (N x)) (dp - 1 + 1) ab P := by
  unfold ICI at h ⊢
  rw [oc_w7 hu hk xr]
  exact icI.s h (by omega) rfl ⟨hx.symm, xr⟩ (fun z => hu z.1) (fun z => by omega) (skl_k1 (by omega) hk hn) ⟨Or.inl, fun z => z.elim id (fun w => by omega)⟩ (fun c => ⟨Or.inl, fun z => z.elim id (fun w => absurd (phas_k w) (by omega))⟩) (by split <;> omega)
theorem ici_fin (h : ICI K N O RR b cnt SE SK dp ab P) (h9 : K 0 = 9) (hc : 1 ≤ cnt ∧ cnt ≤ 808) (hd : dp = 0) : clF K N O RR b := by
  have a := o67 (SE := SE) (b := b) h9 hc.1
  exact icI.fin h hd (by omega)
end ICI
