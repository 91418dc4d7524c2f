/-! the cuts as they are found -/
def cuG (CU : Int → Int) (cn : Int) : Prop := cn ≤ 120 → cuS CU cn
def cuM (CU : Int → Int) (cn t : Int) : Prop := cn ≤ 120 → cuIn CU cn t
def cuX (CU : Int → Int) (cn : Int) (CU2 : Int → Int) (cn2 : Int) : Prop := cn ≤ cn2 ∧ (cn2 ≤ 120 → ∀ t : Int, cuIn CU cn t → cuIn CU2 cn2 t)
def cuA (CU : Int → Int) (cn : Int) (CU2 : Int → Int) (cn2 c : Int) : Prop := cuG CU2 cn2 ∧ cuX CU cn CU2 cn2 ∧ cuM CU2 cn2 c
/-- the last cut that is not above c -/
def cuL (CU : Int → Int) (cn c i : Int) : Prop := (-1 ≤ i ∧ i < cn) ∧ (∀ j : Int, 0 ≤ j → j ≤ i → CU j ≤ c) ∧ ∀ j : Int, i < j → j < cn → c < CU j
def lcw (tu low high : Int) : Prop := high - low ≤ 127 ∧ (1 ≤ tu → high - low ≤ 63) ∧ (2 ≤ tu → high - low ≤ 31) ∧ (3 ≤ tu → high - low ≤ 15) ∧ (4 ≤ tu → high - low ≤ 7) ∧ (5 ≤ tu → high - low ≤ 3) ∧ (6 ≤ tu → high - low ≤ 1) ∧ (7 ≤ tu → high ≤ low)
def lcI (CU : Int → Int) (cn c low high tu : Int) : Prop := lcw tu low high ∧ (∀ j : Int, 0 ≤ j → j < low → CU j ≤ c) ∧ ∀ j : Int, high ≤ j → j < cn → c < CU j
theorem lcw_s {tu low high l2 h2 : Int} (h : lcw tu low high) (e : h2 - l2 ≤ (high - low) / 2) : lcw (tu + 1) l2 h2 := by
  obtain ⟨a0, a1, a2, a3, a4, a5, a6, a7⟩ := h
  refine ⟨by omega, fun q => by omega, fun q => ?_, fun q => ?_, fun q => ?_, fun q => ?_, fun q => ?_, fun q => ?_⟩
  · have := a1 (by omega); omega
  · have := a2 (by omega); omega
  · have := a3 (by omega); omega
  · have := a4 (by omega); omega
  · have := a5 (by omega); omega
  · have := a6 (by omega); omega
section Lc
variable {CU : Int → Int} {cn c low high tu v : Int}
theorem lcI_0 (h : 0 ≤ cn ∧ cn ≤ 120) : lcI CU cn c 0 cn 0 := ⟨⟨by omega, fun q => by omega, fun q => by omega, fun q => by omega, fun q => by omega, fun q => by omega, fun q => by omega, fun q => by omega⟩, fun j a b => by omega, fun j a b => by omega⟩
theorem lcI_lo (h : lcI CU cn c low high tu) (hs : cuS CU cn) (hl : 0 ≤ low ∧ low < high ∧ high ≤ cn) (hm : CU ((low + high) / 2) ≤ c) : lcI CU cn c ((low + high) / 2 + 1) high (tu + 1) := by
  obtain ⟨h0, h1, h2⟩ := h
  refine ⟨lcw_s h0 (by omega), fun j a b => ?_, h2⟩
  by_cases e : j = (low + high) / 2
  · rw [e]; exact hm
  · have := hs j ((low + high) / 2) a (by omega) (by omega)
    omega
theorem lcI_hi (h : lcI CU cn c low high tu) (hs : cuS CU cn) (hl : 0 ≤ low ∧ low < high ∧ high ≤ cn) (hm : c < CU ((low + high) / 2)) : lcI CU cn c low ((low + high) / 2) (tu + 1) := by
  obtain ⟨h0, h1, h2⟩ := h
  refine ⟨lcw_s h0 (by omega), h1, fun j a b => ?_⟩
  by_cases e : j = (low + high) / 2
  · rw [e]; exact hm
  · have := hs ((low + high) / 2) j (by omega) (by omega) b
    omega
theorem lcI_e (h : lcI CU cn c low high tu) (hl : 0 ≤ low ∧ low ≤ high ∧ high ≤ cn) (hx : 32 ≤ tu ∨ high ≤ low) : cuL CU cn c (low - 1) := by
  obtain ⟨h0, h1, h2⟩ := h
  have e : low = high := by
    rcases hx with q | q
    · have := h0.2.2.2.2.2.2.2 (by omega); omega
    · omega
  exact ⟨by omega, fun j a b => h1 j a (by omega), fun j a b => h2 j (by omega) b⟩
theorem cu_ins (hs : cuS CU cn) (hl : cuL CU cn c v) (hn : 0 ≤ v → ¬ CU (v + 1 - 1) = c) : cuS (zu (zcpy CU CU (v + 1) (v + 1 + 1) (cn - (v + 1))) (v + 1) c) (cn + 1) ∧ cuIn (zu (zcpy CU CU (v + 1) (v + 1 + 1) (cn - (v + 1))) (v + 1) c) (cn + 1) c ∧ ∀ t : Int, cuIn CU cn t → cuIn (zu (zcpy CU CU (v + 1) (v + 1 + 1) (cn - (v + 1))) (v + 1) c) (cn + 1) t := by
  obtain ⟨l0, l1, l2⟩ := hl
  rw [show v + 1 - 1 = v by omega] at hn
  have hA : ∀ i : Int, i < v + 1 → zu (zcpy CU CU (v + 1) (v + 1 + 1) (cn - (v + 1))) (v + 1) c i = CU i := fun i q => by
    rw [zu_ne (by omega), zcpy_out (by omega)]
  have hB : zu (zcpy CU CU (v + 1) (v + 1 + 1) (cn - (v + 1))) (v + 1) c (v + 1) = c := zu_self _ _ _
  have hC : ∀ i : Int, v + 2 ≤ i → i < cn + 1 → zu (zcpy CU CU (v + 1) (v + 1 + 1) (cn - (v + 1))) (v + 1) c i = CU (i - 1) := fun i q r => by
    rw [zu_ne (by omega), zcpy_in (by omega), show v + 1 + (i - (v + 1 + 1)) = i - 1 by omega]
  refine ⟨fun i j i0 ij j1 => ?_, ⟨v + 1, by omega, by omega, hB⟩, fun t ⟨i, i0, i1, e⟩ => ?_⟩
  · by_cases c1 : j < v + 1
    · rw [hA i (by omega), hA j c1]; exact hs i j i0 ij (by omega)
    · by_cases c2 : j = v + 1
      · rw [c2, hB, hA i (by omega)]
        have b := l1 i i0 (by omega)
        by_cases c3 : i = v
        · have := hn (by omega)
          rw [← c3] at this
          omega
        · have b2 := hs i v i0 (by omega) (by omega)
          have b3 := l1 v (by omega) (Int.le_refl _)
          omega
      · rw [hC j (by omega) j1]
        by_cases c3 : i < v + 1
        · rw [hA i c3]; exact hs i (j - 1) i0 (by omega) (by omega)
        · by_cases c4 : i = v + 1
          · rw [c4, hB]; exact l2 (j - 1) (by omega) (by omega)
          · rw [hC i (by omega) (by omega)]; exact hs (i - 1) (j - 1) (by omega) (by omega) (by omega)
  · by_cases c1 : i < v + 1
    · exact ⟨i, i0, by omega, by rw [hA i c1]; exact e⟩
    · refine ⟨i + 1, by omega, by omega, ?_⟩
      rw [hC (i + 1) (by omega) (by omega), show i + 1 - 1 = i by omega]
      exact e
theorem cuX_rf : cuX CU cn CU cn := ⟨Int.le_refl _, fun _ _ q => q⟩
theorem cuA_g (h : cuG CU cn) (hc : 120 < cn) : cuA CU cn CU cn c := ⟨h, cuX_rf, fun q => by omega⟩
theorem cuA_s {i : Int} (h : cuG CU cn) (hi : 0 ≤ i ∧ i < cn) (e : CU i = c) : cuA CU cn CU cn c := ⟨h, cuX_rf, fun _ => ⟨i, hi.1, hi.2, e⟩⟩
theorem cuA_f (hc : 120 ≤ cn) : cuA CU cn CU (cn + 1) c := ⟨fun q => by omega, ⟨by omega, fun q => by omega⟩, fun q => by omega⟩
theorem cuA_i (h : cuG CU cn) (hc : cn < 120) (hl : cuL CU cn c v) (hn : 0 ≤ v → ¬ CU (v + 1 - 1) = c) : cuA CU cn (zu (zcpy CU CU (v + 1) (v + 1 + 1) (cn - (v + 1))) (v + 1) c) (cn + 1) c := by
  obtain ⟨a1, a2, a3⟩ := cu_ins (h (by omega)) hl hn
  exact ⟨fun _ => a1, ⟨by omega, fun _ => a3⟩, fun _ => a2⟩
end Lc
theorem cuM_x {CU CU2 : Int → Int} {cn cn2 t : Int} (h : cuM CU cn t) (x : cuX CU cn CU2 cn2) : cuM CU2 cn2 t := fun q => x.2 q t (h (by have := x.1; omega))
/-! findCuts: loop by loop -/
def fcA (CU : Int → Int) (cn i : Int) : Prop := cuG CU cn ∧ ∀ j : Int, 0 ≤ j → j < i → cuM CU cn (zFC j)
def fcB (K O CU : Int → Int) (cn i : Int) : Prop := fcA CU cn 12 ∧ ∀ x : Int, 0 ≤ x → x < i → K x = 0 → cuM CU cn (O x) ∧ cuM CU cn (O x + 1)
def cuRm (RR : Int → Int) (r : Int) (CU : Int → Int) (cn : Int) : Prop := ∀ j : Int, 0 ≤ j → j < RR r → cuM CU cn (RR (r + 1 + 2 * j)) ∧ cuM CU cn (RR (r + 1 + (2 * j + 1)) + 1)
def fcC (K O RR : Int → Int) (cnt : Int) (CU : Int → Int) (cn r : Int) : Prop := fcB K O CU cn cnt ∧ rch RR r ∧ ∀ r0 : Int, rch RR r0 → r0 < r → cuRm RR r0 CU cn
def fcD (K O RR : Int → Int) (cnt : Int) (CU : Int → Int) (cn r i : Int) : Prop := fcC K O RR cnt CU cn r ∧ ((i - r - 1) % 2 = 0 ∧ r + 1 ≤ i) ∧ ∀ j : Int, 0 ≤ j → r + 1 + 2 * j < i → cuM CU cn (RR (r + 1 + 2 * j)) ∧ cuM CU cn (RR (r + 1 + (2 * j + 1)) + 1)
section Fc
variable {K N O RR CU CU1 CU2 : Int → Int} {cn cn1 cn2 cnt i r ru wi : Int}
theorem fcA_0 (h : cuG CU cn) : fcA CU cn 0 := ⟨h, fun j a b => by omega⟩
theorem fcA_s (h : fcA CU cn i) (q : cuA CU cn CU2 cn2 (zFC i)) : fcA CU2 cn2 (i + 1) := ⟨q.1, fun j a b => by
  by_cases e : j = i
  · rw [e]; exact q.2.2
  · exact cuM_x (h.2 j a (by omega)) q.2.1⟩
theorem fcA_x (h : fcA CU cn i) (g : cuG CU2 cn2) (x : cuX CU cn CU2 cn2) : fcA CU2 cn2 i := ⟨g, fun j a b => cuM_x (h.2 j a b) x⟩
theorem fcB_0 (h : fcA CU cn i) (e : i = 12) : fcB K O CU cn 0 := ⟨e ▸ h, fun x a b => by omega⟩
theorem fcB_k (h : fcB K O CU cn i) (hk : ¬ K i = 0) : fcB K O CU cn (i + 1) := ⟨h.1, fun x a b k => by
  by_cases e : x = i
  · rw [e] at k; exact absurd k hk
  · exact h.2 x a (by omega) k⟩
theorem fcB_x (h : fcB K O CU cn i) (g : cuG CU2 cn2) (x : cuX CU cn CU2 cn2) : fcB K O CU2 cn2 i := ⟨fcA_x h.1 g x, fun y a b k => ⟨cuM_x (h.2 y a b k).1 x, cuM_x (h.2 y a b k).2 x⟩⟩
theorem cuX_tr (x : cuX CU cn CU1 cn1) (y : cuX CU1 cn1 CU2 cn2) : cuX CU cn CU2 cn2 := ⟨Int.le_trans x.1 y.1, fun q t h => y.2 q t (x.2 (by have := y.1; omega) t h)⟩
theorem fcB_s (h : fcB K O CU cn i) (q1 : cuA CU cn CU1 cn1 (O i)) (q2 : cuA CU1 cn1 CU2 cn2 (O i + 1)) : fcB K O CU2 cn2 (i + 1) := by
  have x := cuX_tr q1.2.1 q2.2.1
  refine ⟨fcA_x h.1 q2.1 x, fun y a b k => ?_⟩
  by_cases e : y = i
  · rw [e]; exact ⟨cuM_x q1.2.2 q2.2.1, q2.2.2⟩
  · exact ⟨cuM_x (h.2 y a (by omega) k).1 x, cuM_x (h.2 y a (by omega) k).2 x⟩
theorem rchf_le : ∀ (k : Nat) (s : Int), rchf RR r k s → s ≤ r := by
  intro k
  induction k with
  | zero => intro s h; have e : s = r := h; omega
  | succ k ih =>
    intro s h
    have h' : 0 ≤ RR s ∧ s + 1 + 2 * RR s ≤ r ∧ rchf RR r k (s + 1 + 2 * RR s) := h
    omega
theorem rchf_nx {q : Int} (hq : q < r) : ∀ (j k : Nat) (s : Int), rchf RR q j s → rchf RR r k s → q + 1 + 2 * RR q ≤ r := by
  intro j
  induction j with
  | zero =>
    intro k s h1 h2
    have e : s = q := h1
    cases k with
    | zero => have e2 : s = r := h2; omega
    | succ k =>
      have h' : 0 ≤ RR s ∧ s + 1 + 2 * RR s ≤ r ∧ rchf RR r k (s + 1 + 2 * RR s) := h2
      rw [e] at h'
      exact h'.2.1
  | succ j ih =>
    intro k s h1 h2
    have l := rchf_le _ _ h1
    have h' : 0 ≤ RR s ∧ s + 1 + 2 * RR s ≤ q ∧ rchf RR q j (s + 1 + 2 * RR s) := h1
    cases k with
    | zero => have e2 : s = r := h2; omega
    | succ k =>
      have g' : 0 ≤ RR s ∧ s + 1 + 2 * RR s ≤ r ∧ rchf RR r k (s + 1 + 2 * RR s) := h2
      exact ih k _ h'.2.2 g'.2.2
theorem fcC_0 (h : fcB K O CU cn cnt) : fcC K O RR cnt CU cn 0 := ⟨h, ⟨0, rfl⟩, fun r0 ⟨k, q⟩ l => by have := rchf_le _ _ q; omega⟩
theorem fcC_B (h : fcB K O CU cn i) (e : i = cnt) : fcC K O RR cnt CU cn 0 := fcC_0 (e ▸ h)
theorem fcD_0 (h : fcC K O RR cnt CU cn r) : fcD K O RR cnt CU cn r (r + 1) := ⟨h, by omega, fun j a b => by omega⟩
theorem fcC_x (h : fcC K O RR cnt CU cn r) (g : cuG CU2 cn2) (x : cuX CU cn CU2 cn2) : fcC K O RR cnt CU2 cn2 r := ⟨fcB_x h.1 g x, h.2.1, fun r0 a b j c d => ⟨cuM_x (h.2.2 r0 a b j c d).1 x, cuM_x (h.2.2 r0 a b j c d).2 x⟩⟩
theorem fcD_s (h : fcD K O RR cnt CU cn r i) (q1 : cuA CU cn CU1 cn1 (RR i)) (q2 : cuA CU1 cn1 CU2 cn2 (RR (i + 1) + 1)) : fcD K O RR cnt CU2 cn2 r (i + 2) := by
  have x := cuX_tr q1.2.1 q2.2.1
  obtain ⟨h0, h1, h2⟩ := h
  refine ⟨fcC_x h0 q2.1 x, by omega, fun j a b => ?_⟩
  by_cases e : r + 1 + 2 * j = i
  · rw [e, show r + 1 + (2 * j + 1) = i + 1 by omega]
    exact ⟨cuM_x q1.2.2 q2.2.1, q2.2.2⟩
  · have t := h2 j a (by omega)
    exact ⟨cuM_x t.1 x, cuM_x t.2 x⟩
theorem fcD_e {bh : Int} (h : fcD K O RR cnt CU cn r i) (h0 : 0 ≤ r ∧ 0 ≤ RR r) (hb : bh = r + 1 + 2 * RR r) (hi : bh ≤ i + 1) : fcC K O RR cnt CU cn bh := by
  obtain ⟨⟨a1, ⟨k, a2⟩, a3⟩, b1, b2⟩ := h
  have hc : rch RR bh := by
    rw [hb]
    exact ⟨k + 1, rchf_new (m := RR r) h0.2 (fun _ _ _ => rfl) rfl k 0 (by omega) a2⟩
  refine ⟨a1, hc, fun r0 ⟨k0, q⟩ l => ?_⟩
  by_cases c1 : r0 < r
  · exact a3 r0 ⟨k0, q⟩ c1
  · by_cases c2 : r0 = r
    · rw [c2]
      exact fun j c d => b2 j c (by omega)
    · have := rchf_nx (show r < r0 by omega) k k0 0 a2 q
      omega
theorem fcC_e (h : fcC K O RR cnt CU cn r) (e : ru ≤ r) (hp : prok K N O RR cnt ru wi) (hc : cn ≤ 120) : cuS CU cn ∧ cuF CU cn ∧ cuP K O RR cnt CU cn := by
  obtain ⟨⟨⟨g, a⟩, b⟩, _, c⟩ := h
  refine ⟨g hc, ?_, ?_, ?_⟩
  · exact ⟨a 0 (by decide) (by decide) hc, a 1 (by decide) (by decide) hc, a 2 (by decide) (by decide) hc, a 3 (by decide) (by decide) hc, a 4 (by decide) (by decide) hc, a 5 (by decide) (by decide) hc, a 6 (by decide) (by decide) hc, a 7 (by decide) (by decide) hc, a 8 (by decide) (by decide) hc, a 9 (by decide) (by decide) hc, a 10 (by decide) (by decide) hc, a 11 (by decide) (by decide) hc⟩
  · exact fun x x0 x1 k => ⟨(b x x0 x1 k).1 hc, (b x x0 x1 k).2 hc⟩
  · intro x x0 x1 k j j0 j1
    obtain ⟨r0, r1, r2, _, r4⟩ := hp.o1 x x0 x1 k
    have t := c (O x) r4 (by omega) j j0 j1
    exact ⟨t.1 hc, t.2 hc⟩
end Fc
/-! signs and what stands ahead -/
section Sn2
variable {CU C Rs : Int → Int} {cn n p i sg la ah c : Int}
theorem cdG_lo (h : sg < 5) : cdG CU sg = -1 := if_pos h
theorem cdG_hi (h : 5 ≤ sg) : cdG CU sg = CU (sg - 5) := if_neg (by omega)
theorem cuL_at (hf : cuF CU cn) (hl : cuL CU cn c i) (h0 : 0 ≤ c) : 0 ≤ i ∧ cuAt CU cn c i := by
  obtain ⟨⟨j, j0, j1, e⟩, _⟩ := hf
  obtain ⟨l0, l1, l2⟩ := hl
  have i0 : 0 ≤ i := by
    by_cases q : j ≤ i
    · omega
    · have := l2 j (by omega) j1
      omega
  exact ⟨i0, ⟨i0, by omega⟩, l1 i i0 (Int.le_refl _), fun q => l2 (i + 1) (by omega) q⟩
theorem sgR_e (h : n ≤ p) : sgR CU cn C Rs n p 0 (cdG CU 0) := Or.inl ⟨h, rfl, cdG_lo (by decide)⟩
theorem sgR_c (hf : cuF CU cn) (hl : cuL CU cn (C p) i) (h0 : 0 ≤ C p) (hp : p < n) : sgR CU cn C Rs n p (5 + i) (cdG CU (5 + i)) := by
  obtain ⟨i0, ha⟩ := cuL_at hf hl h0
  refine Or.inr (Or.inr (Or.inr ⟨hp, by omega, i, ha, rfl, ?_⟩))
  rw [cdG_hi (by omega), show 5 + i - 5 = i by omega]
theorem sgR_r (hp : p < n) (hc : C p = -1) (h0 : 0 < Rs p) (h4 : Rs p ≤ 4) : sgR CU cn C Rs n p (Rs p) (cdG CU (Rs p)) := Or.inr (Or.inl ⟨hp, hc, h0, rfl, cdG_lo (by omega)⟩)
theorem sgR_o (hp : p < n) (hc : C p = -1) (h0 : Rs p ≤ 0) : sgR CU cn C Rs n p 4 (cdG CU 4) := Or.inr (Or.inr (Or.inl ⟨hp, hc, h0, rfl, cdG_lo (by decide)⟩))
theorem ahN_0 (h : la = 0) : ahN la (cdG CU sg) 0 := Or.inl ⟨h, rfl⟩
theorem isW_m1 : ¬ isW (-1) := by unfold isW; omega
theorem ahN_lo (h : ¬ la = 0) (hs : sg < 5) : ahN la (cdG CU sg) 0 := by
  rw [cdG_lo hs]
  exact Or.inr ⟨h, Or.inr (Or.inr ⟨by decide, isW_m1, rfl⟩)⟩
theorem ahN_t (h : ¬ la = 0) (hs : 5 ≤ sg) (hc : CU (sg - 5) = 10) : ahN la (cdG CU sg) 2 := by
  rw [cdG_hi hs]
  exact Or.inr ⟨h, Or.inl ⟨hc, rfl⟩⟩
theorem ahN_w (h : ¬ la = 0) (hs : 5 ≤ sg) (hc : ¬ CU (sg - 5) = 10) (hw : isW (CU (sg - 5))) : ahN la (cdG CU sg) 4 := by
  rw [cdG_hi hs]
  exact Or.inr ⟨h, Or.inr (Or.inl ⟨hc, hw, rfl⟩)⟩
theorem ahN_n (h : ¬ la = 0) (hs : 5 ≤ sg) (hc : ¬ CU (sg - 5) = 10) (hw : ¬ isW (CU (sg - 5))) : ahN la (cdG CU sg) 0 := by
  rw [cdG_hi hs]
  exact Or.inr ⟨h, Or.inr (Or.inr ⟨hc, hw, rfl⟩)⟩
end Sn2
/-- what holds computes: lf, wo, bw are the three flags -/
def hsF (CU : Int → Int) (sg ah lf wo bw : Int) : Prop := (lf = 1 ↔ cdG CU sg = 10) ∧ (wo = 1 ↔ isW (cdG CU sg)) ∧ (bw = 1 ↔ ah / 4 % 2 = 1)
section HScE
variable {cd sg ah as : Int}
theorem HSc_0 (e : as = 0) : HSc cd sg ah as ↔ ah % 2 = 1 := by
  constructor
  · rintro (h | h | h | h | h | h)
    · exact h.2
    all_goals (exact absurd h.1 (by omega))
  · intro h; exact Or.inl ⟨e, h⟩
theorem HSc_1 (e : as = 1) : HSc cd sg ah as ↔ sg = 0 := by
  constructor
  · rintro (h | h | h | h | h | h)
    · exact absurd h.1 (by omega)
    · exact h.2
    all_goals (exact absurd h.1 (by omega))
  · intro h; exact Or.inr (Or.inl ⟨e, h⟩)
theorem HSc_2 (e : as = 2) : HSc cd sg ah as ↔ (ah % 2 = 1 ∨ ah / 2 % 2 = 1) := by
  constructor
  · rintro (h | h | h | h | h | h)
    · exact absurd h.1 (by omega)
    · exact absurd h.1 (by omega)
    · exact h.2
    all_goals (exact absurd h.1 (by omega))
  · intro h; exact Or.inr (Or.inr (Or.inl ⟨e, h⟩))
theorem HSc_3 (e : as = 3) : HSc cd sg ah as ↔ (sg = 0 ∨ cd = 10) := by
  constructor
  · rintro (h | h | h | h | h | h)
    · exact absurd h.1 (by omega)
    · exact absurd h.1 (by omega)
    · exact absurd h.1 (by omega)
    · exact h.2
    all_goals (exact absurd h.1 (by omega))
  · intro h; exact Or.inr (Or.inr (Or.inr (Or.inl ⟨e, h⟩)))
theorem HSc_4 (e : as = 4) : HSc cd sg ah as ↔ ¬ (ah / 4 % 2 = 1 ↔ isW cd) := by
  constructor
  · rintro (h | h | h | h | h | h)
    · exact absurd h.1 (by omega)
    · exact absurd h.1 (by omega)
    · exact absurd h.1 (by omega)
    · exact absurd h.1 (by omega)
    · exact h.2
    · exact absurd h.1 (by omega)
  · intro h; exact Or.inr (Or.inr (Or.inr (Or.inr (Or.inl ⟨e, h⟩))))
theorem HSc_5 (e : as = 5) : HSc cd sg ah as ↔ (ah / 4 % 2 = 1 ↔ isW cd) := by
  constructor
  · rintro (h | h | h | h | h | h)
    · exact absurd h.1 (by omega)
    · exact absurd h.1 (by omega)
    · exact absurd h.1 (by omega)
    · exact absurd h.1 (by omega)
    · exact absurd h.1 (by omega)
    · exact h.2
  · intro h; exact Or.inr (Or.inr (Or.inr (Or.inr (Or.inr ⟨e, h⟩))))
end HScE
