/-! the class: all matches by hunting, one behind the other -/
/-- nothing lies behind the end -/
theorem ddC_n {K N O RR f M : Int → Int} {n hw fr w df : Int} (h : n < fr) : ddC K N O RR f n hw fr M w df := fun y q ⟨_, y2, _⟩ _ q1 => by omega
theorem prM.wp {K N O RR : Int → Int} {fi : Int} {v : Sn} (h : prM K N O RR fi v) : wpR v := ⟨tgC K, N, O, phas K O RR, fi, fun _ _ _ _ hb p0 p1 => h.ww hb p0 p1⟩
section Fd3
variable {v : Sn} {f SP A F1 F2 : Int → Int} {n fy m ab wi sz e : Int}
theorem alK_c (h : alK v f n fy m ab A) (q : nxC v f n fy ab wi 1 SP) (he : e = SP 1) (hz : sz = 2 * m) (k1 : ∀ k : Int, 0 ≤ k → k < sz → F1 k = A k) (v1 : F1 sz = SP 0) (k2 : ∀ k : Int, 0 ≤ k → k < sz + 1 → F2 k = F1 k) (v2 : F2 (sz + 1) = SP 1) (h0 : 0 ≤ m) : alK v f n fy (m + 1) e F2 := by
  refine (alK_s h q he).cg (fun i i0 i1 => ?_)
  subst hz
  by_cases c : i = 2 * m + 1
  · rw [c, zu_self]; exact v2
  · rw [zu_ne c, k2 i i0 (by omega)]
    by_cases d : i = 2 * m
    · rw [d, zu_self]; exact v1
    · rw [zu_ne d]; exact k1 i i0 (by omega)
/-- so many numbers in the row, two for each match -/
def alH (v : Sn) (f : Int → Int) (n fy sz : Int) (A : Int → Int) : Prop := alC v f n fy (sz / 2) A
theorem alH_of (h : alK v f n fy m ab A) (q : nxC v f n fy ab wi 0 SP) (hz : sz = 2 * m) : alH v f n fy sz A := by
  have e1 : sz / 2 = m := by omega
  unfold alH
  rw [e1]
  exact alC_of h q
theorem alH_n (h : alK v f n fy m ab A) (hb : bytes f n) (h0 : 0 ≤ n) (hm : n + 1 ≤ m) (hz : sz = 2 * m) : alH v f n fy sz A := by
  have e1 : sz / 2 = m := by omega
  unfold alH
  rw [e1]
  exact alC_n h hb h0 hm
/-- the pieces' row: the last one's begin stands at its end -/
def spK2 (v : Sn) (f : Int → Int) (n fy sz ab : Int) (A : Int → Int) : Prop := ∃ m la : Int, sz = 2 * m + 1 ∧ A (2 * m) = la ∧ spK v f n fy m ab la A
theorem spK2_0 (h : A 0 = 0) (hz : sz = 1) : spK2 v f n fy sz (-1) A := ⟨0, 0, by omega, by rw [show (2 : Int) * 0 = 0 by omega]; exact h, spK_0⟩
theorem spK2_e (h : spK2 v f n fy sz ab A) (q : nxC v f n fy ab wi 1 SP) (he : e = SP 1) (h1 : SP 0 = SP 1) (h2 : SP 0 = 0 ∨ SP 0 = n) : spK2 v f n fy sz e A := by
  obtain ⟨m, la, h3, h4, h5⟩ := h
  exact ⟨m, la, h3, h4, spK_e h5 q he h1 h2⟩
theorem spK2_s (h : spK2 v f n fy sz ab A) (q : nxC v f n fy ab wi 1 SP) (he : e = SP 1) (h1 : ¬ (SP 0 = SP 1 ∧ (SP 0 = 0 ∨ SP 0 = n))) (k1 : ∀ k : Int, 0 ≤ k → k < sz → F1 k = A k) (v1 : F1 sz = SP 0) (k2 : ∀ k : Int, 0 ≤ k → k < sz + 1 → F2 k = F1 k) (v2 : F2 (sz + 1) = SP 1) (hb : bytes f n) (h0 : 0 ≤ n) : spK2 v f n fy (sz + 1 + 1) e F2 := by
  obtain ⟨m, la, h3, h4, h5⟩ := h
  have b := h5.bd hb h0
  subst h3
  refine ⟨m + 1, e, by omega, ?_, spK_s h5 q he rfl h1 (fun i i0 i1 => ?_) ?_ ?_⟩
  · rw [show 2 * (m + 1) = 2 * m + 1 + 1 by omega, v2]; exact he.symm
  · rw [k2 i i0 (by omega), k1 i i0 (by omega)]
  · rw [k2 _ (by omega) (by omega), k1 _ (by omega) (by omega)]; exact h4
  · rw [k2 _ (by omega) (by omega)]; exact v1
def spH (v : Sn) (f : Int → Int) (n fy sz : Int) (A : Int → Int) : Prop := spC v f n fy (sz / 2) A
/-- no match more, or no room for one: what is left is the last piece -/
def spL (v : Sn) (f : Int → Int) (n fy sz : Int) (A : Int → Int) : Prop := ∃ (k : Nat) (m ab la : Int), sz = 2 * m + 1 ∧ 0 ≤ m ∧ A (2 * m) = la ∧ spQ (wyR v f n) fy n A k m ab la ∧ ∀ (S : Option (Int × Gr)) (st : Int), nxP (wyR v f n) fy n ab S st → S = none
theorem spL_of (h : spK2 v f n fy sz ab A) (q : nxC v f n fy ab wi 0 SP) (hb : bytes f n) (h0 : 0 ≤ n) : spL v f n fy sz A := by
  obtain ⟨m, la, h3, h4, h5⟩ := h
  have b := h5.bd hb h0
  obtain ⟨k, h6⟩ := h5
  obtain ⟨S, st, q1, q2⟩ := q
  rw [mch_0 q2] at q1
  exact ⟨k, m, ab, la, h3, b.2.1, h4, h6, nxP_none q1⟩
theorem spL_n (h : spK2 v f n fy sz ab A) (hb : bytes f n) (h0 : 0 ≤ n) (hm : n ≤ ab) : spL v f n fy sz A := by
  obtain ⟨m, la, h3, h4, h5⟩ := h
  have b := h5.bd hb h0
  obtain ⟨k, h6⟩ := h5
  exact ⟨k, m, ab, la, h3, b.2.1, h4, h6, fun S st q => nxP_n q (wyR_W hb) hm h0⟩
theorem spH_of (h : spL v f n fy sz A) (k1 : ∀ k : Int, 0 ≤ k → k < sz → F1 k = A k) (v1 : F1 sz = n) : spH v f n fy (sz + 1) F1 := by
  obtain ⟨k, m, ab, la, h3, h0, h4, h5, h6⟩ := h
  subst h3
  have e1 : (2 * m + 1 + 1) / 2 = m + 1 := by omega
  unfold spH
  rw [e1]
  exact ⟨k, ab, la, m, rfl, spQ_eq k m ab la h5 (fun i i0 i1 => k1 i i0 (by omega)) spQ_0, h6, by rw [k1 _ (by omega) (by omega)]; exact h4, v1⟩
end Fd3
/-- the class's all and split, as they are seen -/
def alP (PG : Nat → Option Nat) (cv : Int → Int) (sl : Int) (f : Int → Int) (n r sz : Int) (A : Int → Int) : Prop := (0 ≤ sl ∧ sl < 6) ∧ (∃ b : Nat, PG sl.toNat = some b) ∧ (r = sz / 2 ∧ 0 ≤ r ∧ r ≤ 3000) ∧ ∃ v : Sn, mnV cv (100 + 10 * sl.toNat) v ∧ alU v f n (1 - cvI cv (100 + 10 * sl.toNat) 2 / 16) r A
def spP (PG : Nat → Option Nat) (cv : Int → Int) (sl : Int) (f : Int → Int) (n r sz : Int) (A : Int → Int) : Prop := (0 ≤ sl ∧ sl < 6) ∧ (∃ b : Nat, PG sl.toNat = some b) ∧ (r = sz / 2 ∧ 0 ≤ r ∧ r ≤ 3000) ∧ ∃ v : Sn, mnV cv (100 + 10 * sl.toNat) v ∧ spU v f n (1 - cvI cv (100 + 10 * sl.toNat) 2 / 16) r A
section AlP
variable {PG : Nat → Option Nat} {cv K N O RR f F : Int → Int} {sl n r sz fy fl fi hw : Int} {b k : Nat} {v : Sn}
theorem fy_of (h : fst hw fl fy) (h0 : hw = 0) (hf : 0 ≤ fl ∧ fl ≤ 31) : fy = 1 - fl / 16 := by
  unfold fst at h
  omega
theorem alP_of (hk : k = sl.toNat) (hq : PG k = some b) (hs : 0 ≤ sl ∧ sl < 6) (hm : mnV cv (100 + 10 * k) v) (hp : prM K N O RR fi v) (hb : bytes f n) (hf : fst hw fl fy) (h0 : hw = 0) (hfl : 0 ≤ fl ∧ fl ≤ 31) (hc : cvI cv (100 + 10 * k) 2 = fl) (h : alH v f n fy sz F) (hr : r = sz / 2 ∧ 0 ≤ r ∧ r ≤ 3000) : alP PG cv sl f n r sz F := by
  subst hk
  refine ⟨hs, ⟨b, hq⟩, hr, v, hm, ?_⟩
  rw [hc, ← fy_of hf h0 hfl, hr.1]
  exact alU_of hp.wp hb h
theorem spP_of (hk : k = sl.toNat) (hq : PG k = some b) (hs : 0 ≤ sl ∧ sl < 6) (hm : mnV cv (100 + 10 * k) v) (hp : prM K N O RR fi v) (hb : bytes f n) (hf : fst hw fl fy) (h0 : hw = 0) (hfl : 0 ≤ fl ∧ fl ≤ 31) (hc : cvI cv (100 + 10 * k) 2 = fl) (h : spH v f n fy sz F) (hr : r = sz / 2 ∧ 0 ≤ r ∧ r ≤ 3000) : spP PG cv sl f n r sz F := by
  subst hk
  refine ⟨hs, ⟨b, hq⟩, hr, v, hm, ?_⟩
  rw [hc, ← fy_of hf h0 hfl, hr.1]
  exact spU_of hp.wp hb h
end AlP
