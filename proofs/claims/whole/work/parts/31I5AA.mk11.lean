/-- what a program does from a place on -/
theorem prM.ww {K N O RR : Int → Int} {fi : Int} {v : Sn} (h : prM K N O RR fi v) {t : Int → Int} {n p : Int} {g : Gr} (hb : bytes t n) (p0 : 0 ≤ p) (p1 : p ≤ n) : WW (tgC K) N O (phas K O RR) t n fi p g (v.1.1 t n p g) := by
  obtain ⟨h1, nn, h2⟩ := h
  exact Rl_top v.2 (tgC_8 h1) h2 hb p0 p1
/-! the class's marks -/
def mkC (M : Int → Int) (w df fr : Int) : Int → Int → Prop := fun y q => (0 ≤ y ∧ y < 32 * w) ∧ fr ≤ q ∧ eff M w df y q
def wkC (K N O RR f : Int → Int) (n hw fy wi st fr : Int) (M : Int → Int) (w df : Int) (SK : Int → Int) (dp : Int) (WK : Int → Int) (fo : Int) (SP : Int → Int) (x p : Int) (S : Option (Int × Gr)) : Prop := wkS (tgC K) N O (phas K O RR) f n hw fy wi st fr (mkC M w df fr) SK dp WK fo SP x p S
def tyC (K N O RR f : Int → Int) (n hw fy wi st fr : Int) (M : Int → Int) (w df : Int) (SK : Int → Int) (dp : Int) (WK : Int → Int) (fo : Int) (SP : Int → Int) (S : Option (Int × Gr)) : Prop := tyS (tgC K) N O (phas K O RR) f n hw fy wi st fr (mkC M w df fr) SK dp WK fo SP S
/-- what is marked from fr on (behind the match's end, where there is one) leads nowhere -/
def ddC (K N O RR f : Int → Int) (n hw fr : Int) (M : Int → Int) (w df : Int) : Prop := ∀ y q : Int, mkC M w df fr y q → 0 ≤ q → q ≤ n → ∀ e, EN (tgC K) N O (phas K O RR) f n y q e → ¬ acc hw n e
def mkE (M : Int → Int) (w df : Int) (M2 : Int → Int) (df2 x p : Int) : Prop := ∀ s' p' : Int, 0 ≤ s' → s' < 32 * w → (eff M2 w df2 s' p' ↔ eff M w df s' p' ∨ (s' = x ∧ p' = p))
theorem zcpy_0 {f g : Int → Int} {n k : Int} (h : 0 ≤ k ∧ k < n) : zcpy f g 0 0 n k = f k := by
  rw [zcpy_in (by omega), show (0 : Int) + (k - 0) = k by omega]
section MkC
variable {K N O RR f C Rs H : Int → Int} {n hw fy wi st fr : Int} {M M2 SK SK2 WK SP SP2 : Int → Int} {w df df2 dp fo fo2 x p v cnt nr : Int} {S : Option (Int × Gr)}
theorem mkE.hm (h : mkE M w df M2 df2 x p) : ∀ y q, mkC M2 w df2 fr y q → mkC M w df fr y q ∨ (y = x ∧ q = p) := fun y q ⟨h1, h2, h3⟩ => by
  rcases (h y q h1.1 h1.2).mp h3 with z | z
  · exact Or.inl ⟨h1, h2, z⟩
  · exact Or.inr z
theorem wkC.dead (h : wkC K N O RR f n hw fy wi st fr M w df SK dp WK fo SP x p S) (he : eff M w df x p) (hx : 0 ≤ x ∧ x < 32 * w) (hm : mkE M w df M2 df2 x p) : tyC K N O RR f n hw fy wi st fr M2 w df2 SK dp WK fo SP S := wkS.dead h ⟨hx, wkS.fle h, he⟩ hm.hm
/-- no turn is left: all is marked -/
theorem wkC.out (h : wkC K N O RR f n hw fy wi st fr M w df SK dp WK fo SP x p S) (hu : ucc M w df cnt n ≤ 0) (hx : 0 ≤ x ∧ x < cnt) (hc : cnt ≤ 32 * w) (hp : 0 ≤ p ∧ p ≤ n) : tyC K N O RR f n hw fy wi st fr M w df SK dp WK fo SP S := wkS.dead h ⟨by omega, wkS.fle h, ucc_z hu hx hp⟩ (fun _ _ z => Or.inl z)
/-- it takes a character or a byte -/
theorem wkC.take (h : wkC K N O RR f n hw fy wi st fr M w df SK dp WK fo SP x p S) (hm : mkE M w df M2 df2 x p) (hs : suok f C Rs H n) (hp : 0 ≤ p ∧ p ≤ n) (hk : 0 ≤ K x ∧ K x ≤ 2) (hb : btk K O RR C Rs n x p v) (hv : ¬ v = 0) : wkC K N O RR f n hw fy wi st fr M2 w df2 SK dp WK fo SP (N x) (p + v) S := by
  have c := (hs.2 p hp.1 (by omega)).1
  have r := (hs.2 p hp.1 (by omega)).2.1
  have u := u8_in hs.1 p
  rcases hb with ⟨b1, b2, b3⟩ | ⟨b1, b2, b3⟩ | ⟨b1, b2, b3, b4⟩ | ⟨b1, b2, b3⟩
  · have t : tgC K x = 1 := tgC_2 b1
    rw [b3]
    exact wkS.go h hm.hm (Or.inr (Or.inl ⟨t, b2, rfl, rfl⟩)) (by omega) (fun g L z => ww_i1 t b2 z)
  · exact absurd b3 hv
  · rw [c] at b2 b3
    have t : tgC K x = 0 := tgC_0 (by omega)
    have cc : 0 ≤ u8 f n p ∧ phas K O RR x (u8 f n p) := ⟨by omega, b3⟩
    have wp := wd_in (u8 f n p)
    rw [b4, r b2]
    exact wkS.go h hm.hm (Or.inl ⟨t, cc, rfl, rfl⟩) (by omega) (fun g L z => ww_i0 t cc z)
  · exact absurd b3 hv
theorem wkC.take0 (h : wkC K N O RR f n hw fy wi st fr M w df SK dp WK fo SP x p S) (hm : mkE M w df M2 df2 x p) (hs : suok f C Rs H n) (hp : 0 ≤ p ∧ p ≤ n) (hk : 0 ≤ K x ∧ K x ≤ 2) (hb : btk K O RR C Rs n x p v) (hv : v = 0) : tyC K N O RR f n hw fy wi st fr M2 w df2 SK dp WK fo SP S := by
  have c := (hs.2 p hp.1 (by omega)).1
  have r := (hs.2 p hp.1 (by omega)).2.1
  have u := u8_in hs.1 p
  rcases hb with ⟨b1, b2, b3⟩ | ⟨b1, b2, b3⟩ | ⟨b1, b2, b3, b4⟩ | ⟨b1, b2, b3⟩
  · omega
  · exact wkS.no h hm.hm (fun g L z => ww_i1n (tgC_2 b1) b2 z)
  · rw [c] at b2
    have wp := wd_in (u8 f n p)
    have := r b2
    omega
  · rw [c] at b2
    exact wkS.no h hm.hm (fun g L z => ww_i0n (tgC_0 (by omega)) (fun q => by
      rcases b2 with b2 | b2
      · omega
      · exact b2 q.2) z)
theorem wkC.ask (h : wkC K N O RR f n hw fy wi st fr M w df SK dp WK fo SP x p S) (hm : mkE M w df M2 df2 x p) (hk : K x = 3) (ha : hld f n p (O x)) : wkC K N O RR f n hw fy wi st fr M2 w df2 SK dp WK fo SP (N x) p S := wkS.go h hm.hm (Or.inr (Or.inr (Or.inl ⟨tgC_3 hk, ha, rfl, rfl⟩))) (Int.le_refl p) (fun _ _ z => ww_i2 (tgC_3 hk) ha z)
theorem wkC.ask0 (h : wkC K N O RR f n hw fy wi st fr M w df SK dp WK fo SP x p S) (hm : mkE M w df M2 df2 x p) (hk : K x = 3) (ha : ¬ hld f n p (O x)) : tyC K N O RR f n hw fy wi st fr M2 w df2 SK dp WK fo SP S := wkS.no h hm.hm (fun _ _ z => ww_i2n (tgC_3 hk) ha z)
theorem wkC.stop (h : wkC K N O RR f n hw fy wi st fr M w df SK dp WK fo SP x p S) (hm : mkE M w df M2 df2 x p) (hk : K x = 9) : tyC K N O RR f n hw fy wi st fr M2 w df2 SK dp WK fo SP S := wkS.no h hm.hm (fun _ _ z => ww_i6 (tgC_9 hk) z)
theorem wkC.split (h : wkC K N O RR f n hw fy wi st fr M w df SK dp WK fo SP x p S) (hm : mkE M w df M2 df2 x p) (hk : K x = 6) (hs : ∀ k : Int, 0 ≤ k → k < dp → SK2 k = SK k) (hv : SK2 dp = p * 1024 + O x) (hb : 0 ≤ O x ∧ O x < 1024 ∧ 0 ≤ p) : wkC K N O RR f n hw fy wi st fr M2 w df2 SK2 (dp + 1) WK fo SP (N x) p S := wkS.split h hm.hm (tgC_6 hk) hs hv hb
theorem wkC.save (h : wkC K N O RR f n hw fy wi st fr M w df SK dp WK fo SP x p S) (hm : mkE M w df M2 df2 x p) (hk : K x = 7) (hs : ∀ k : Int, 0 ≤ k → k < dp → SK2 k = SK k) (hv : SK2 dp = -1 - (O x * 4096 + (WK (O x) + 1))) (hb : 2 ≤ O x ∧ O x < wi ∧ wi ≤ 20) (hg : -1 ≤ WK (O x) ∧ WK (O x) ≤ 2000) : wkC K N O RR f n hw fy wi st fr M2 w df2 SK2 (dp + 1) (zu WK (O x) p) fo SP (N x) p S := wkS.save h hm.hm (tgC_7 hk) hs hv hb hg
theorem wkC.arr0 (h : wkC K N O RR f n hw fy wi st fr M w df SK dp WK fo SP x p S) (hm : mkE M w df M2 df2 x p) (hk : K x = 8) (hs : suok f C Rs H n) (h2 : (hw = 2 ∧ p < n) ∨ (fo = 1 ∧ p ≤ SP 1)) : tyC K N O RR f n hw fy wi st fr M2 w df2 SK dp WK fo SP S := wkS.arr h hm.hm (tgC_8 hk) hs.1 (Or.inl ⟨h2, rfl, rfl⟩)
theorem wkC.arr1 (h : wkC K N O RR f n hw fy wi st fr M w df SK dp WK fo SP x p S) (hm : mkE M w df M2 df2 x p) (hk : K x = 8) (hs : suok f C Rs H n) (h2 : (¬ hw = 2 ∨ n ≤ p) ∧ (fo = 0 ∨ SP 1 < p)) (hw2 : 2 ≤ wi) : tyC K N O RR f n hw fy wi st fr M2 w df2 SK dp WK 1 (zu (zcpy WK SP 0 0 wi) 1 p) S := wkS.arr h hm.hm (tgC_8 hk) hs.1 (Or.inr ⟨h2.1, h2.2, rfl, by rw [zu_ne (by decide)]; exact zcpy_0 (by omega), zu_self _ _ _, fun i i0 i1 => by rw [zu_ne (by omega)]; exact zcpy_0 (by omega)⟩)
theorem tyC.pop (h : tyC K N O RR f n hw fy wi st fr M w df SK dp WK fo SP S) (h1 : 1 ≤ dp) (hs : 0 ≤ SK (dp - 1)) (hf : ¬ (fo = 1 ∧ fy = 1)) : wkC K N O RR f n hw fy wi st fr M w df SK (dp - 1) WK fo SP (SK (dp - 1) % 1024) (SK (dp - 1) / 1024) S := tyS.pop h h1 hs hf
theorem tyC.undo (h : tyC K N O RR f n hw fy wi st fr M w df SK dp WK fo SP S) (h1 : 1 ≤ dp) (hs : SK (dp - 1) < 0) (hv : 2 ≤ (-1 - SK (dp - 1)) / 4096) : tyC K N O RR f n hw fy wi st fr M w df SK (dp - 1) (zu WK ((-1 - SK (dp - 1)) / 4096) ((-1 - SK (dp - 1)) % 4096 - 1)) fo SP S := tyS.undo h h1 hs hv
/-- what a try leaves -/
def trE (K N O RR f : Int → Int) (n hw wi st fr : Int) (M : Int → Int) (w df fo : Int) (SP : Int → Int) (S : Option (Int × Gr)) : Prop := mch S fo SP wi st ∧ (fo = 0 → ddC K N O RR f n hw fr M w df) ∧ (fo = 1 → fr ≤ SP 1 → ddC K N O RR f n hw (SP 1 + 1) M w df)
theorem tyC.fin (h : tyC K N O RR f n hw fy wi st fr M w df SK dp WK fo SP S) (hd : dp ≤ 0 ∨ (fo = 1 ∧ fy = 1)) (hs : suok f C Rs H n) : trE K N O RR f n hw wi st fr M w df fo SP S := by
  obtain ⟨k1, k2⟩ := tyS.fin h hd hs.1
  exact ⟨k1, fun q0 y q hy => k2 y q hy (Or.inl q0), fun _ q1 y q ⟨y1, y2, y3⟩ => k2 y q ⟨y1, by omega, y3⟩ (Or.inr (by omega))⟩
theorem gA_0 : gA (zu (zfill WK 0 wi (-1)) 0 p) (fun _ => -1) wi := fun i i0 i1 => by
  rw [zu_ne (by omega), zfill_in (by omega)]
theorem tyC_new {u : Sn} (hpr : prM K N O RR x u) (hs : suok f C Rs H n) (hp : 0 ≤ p ∧ p ≤ n) (hv : SK 0 = p * 1024 + x) (hx : 0 ≤ x ∧ x < 1024) (hg : gA WK (fun _ => -1) wi) (hg0 : WK 0 = p) (hf : fo = 0) (hd : ddC K N O RR f n hw p M w df) (hdf : df ≤ n + 1) : tyC K N O RR f n hw fy wi p p M w df SK 1 WK fo SP (mtR fy hw n (wyR u f n p)) := tyS_new hg hg0 (by omega) (by rw [show SK 0 % 1024 = x by omega, show SK 0 / 1024 = p by omega]; rw [wyR_p hp.1 hp.2]; exact hpr.ww hs.1 hp.1 hp.2) hf (fun y q hy => hd y q hy (by have := hy.2.1; omega) (by have := hy.2.2.1; omega)) (by omega)
theorem ddC.up {fr2 : Int} (h : ddC K N O RR f n hw fr M w df) (hr : fr ≤ fr2) : ddC K N O RR f n hw fr2 M w df := fun y q ⟨y1, y2, y3⟩ => h y q ⟨y1, by omega, y3⟩
/-- nothing is marked from there on -/
theorem ddC_0 (h : df ≤ fr) : ddC K N O RR f n hw fr M w df := fun y q ⟨_, y2, y3⟩ => by
  have := y3.1
  omega
/-- one place is made clean -/
theorem ddC.fill {r a b : Int} (h : ddC K N O RR f n hw (r + 1) M w df) (hw2 : 1 ≤ w) (hr : 0 ≤ r) (ha : a = r * w) (hb : b = (r + 1) * w) : ddC K N O RR f n hw r (zfill M a b 0) w df := fun y q ⟨y1, y2, y3⟩ q0 q1 e z => by
  have hs : 0 ≤ y / 32 ∧ y / 32 < w := by omega
  have hb2 : b = a + w := by rw [hb, ha, Int.add_mul, Int.one_mul]
  by_cases c : q = r
  · have y4 := y3.2
    rw [c, zfill_in (by rw [← ha]; omega)] at y4
    exact absurd y4 (bt_0 _)
  · refine h y q ⟨y1, by omega, y3.1, ?_⟩ q0 q1 e z
    have y4 := y3.2
    rw [zfill_out (fun z => ?_)] at y4
    · exact y4
    · have h2 := Int.mul_le_mul_of_nonneg_right (show r + 1 ≤ q by omega) (show 0 ≤ w by omega)
      rw [Int.add_mul, Int.one_mul, ← ha] at h2
      omega
end MkC
/-- while find goes from start to start -/
def flE (K N O RR : Int → Int) (v : Sn) (f : Int → Int) (n hw fy wi fr i : Int) (M : Int → Int) (w df fo : Int) (SP : Int → Int) : Prop := (fo = 0 ∧ ddC K N O RR f n hw i M w df ∧ noR (wyR v f n) fy hw n fr i) ∨ (fo = 1 ∧ ddC K N O RR f n hw (SP 1 + 1) M w df ∧ fdC v f n fy hw fr wi fo SP)
section FlE
variable {K N O RR f C Rs H : Int → Int} {v : Sn} {n hw fy wi fr i la : Int} {M M2 SP SP2 : Int → Int} {w df df2 fo fo2 : Int}
theorem flE_0 (h : ddC K N O RR f n hw fr M w df) (hf : fo = 0) : flE K N O RR v f n hw fy wi fr fr M w df fo SP := Or.inl ⟨hf, h, noR_0⟩
theorem flE.dd (h : flE K N O RR v f n hw fy wi fr i M w df fo SP) (hf : fo = 0) : ddC K N O RR f n hw i M w df := by
  rcases h with ⟨_, h, _⟩ | ⟨h, _⟩
  · exact h
  · omega
theorem flE_s (h : flE K N O RR v f n hw fy wi fr i M w df fo SP) (hf : fo = 0) (ht : trE K N O RR f n hw wi i i M2 w df2 fo2 SP2 (mtR fy hw n (wyR v f n i))) (hs : suok f C Rs H n) (hi : fr ≤ i ∧ i ≤ la ∧ 0 ≤ i ∧ i ≤ n) (hl : la = laR hw n fr) : flE K N O RR v f n hw fy wi fr (i + 1) M2 w df2 fo2 SP2 := by
  rcases h with ⟨_, _, h3⟩ | ⟨h, _⟩
  · obtain ⟨t1, t2, t3⟩ := ht
    rcases mch_fo t1 with q | q
    · exact Or.inl ⟨q, (t2 q).up (by omega), noR_s h3 (mch_n t1 q)⟩
    · obtain ⟨y, y1, y2⟩ := mch_s t1 q
      have ge := (wyR_in hs.1 hi.2.2.1 hi.2.2.2 y (mtR_mem y1)).1
      exact Or.inr ⟨q, t3 q (by omega), fdC_y h3 t1 q ⟨hi.1, by omega⟩⟩
  · omega
theorem flE.no (h : flE K N O RR v f n hw fy wi fr i M w df fo SP) (hf : fo = 0) (hi : la < i) (hl : la = laR hw n fr) : fdC v f n fy hw fr wi fo SP := by
  rcases h with ⟨_, _, h3⟩ | ⟨h, _⟩
  · exact fdC_n h3 hf (by omega)
  · omega
theorem flE.yes (h : flE K N O RR v f n hw fy wi fr i M w df fo SP) (hf : fo = 1) : ddC K N O RR f n hw (SP 1 + 1) M w df ∧ fdC v f n fy hw fr wi fo SP := by
  rcases h with ⟨h, _⟩ | ⟨_, h⟩
  · omega
  · exact h
end FlE
