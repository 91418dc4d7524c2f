/-! how many entries bear a stamp -/
def scR (F : Int → Int) (v : Int) : Nat → Int
  | 0 => 0
  | m + 1 => scR F v m + (if F (m : Int) = v then 1 else 0)
theorem scR_b (F : Int → Int) (v : Int) (m : Nat) : 0 ≤ scR F v m ∧ scR F v m ≤ (m : Int) := by
  induction m with
  | zero => exact ⟨by show (0 : Int) ≤ 0; omega, by show (0 : Int) ≤ 0; omega⟩
  | succ m ih =>
    show 0 ≤ scR F v m + (if F (m : Int) = v then 1 else 0) ∧ scR F v m + (if F (m : Int) = v then 1 else 0) ≤ ((m + 1 : Nat) : Int)
    split <;> omega
theorem scR_lo {F : Int → Int} {i x v : Int} (m : Nat) (h : (m : Int) ≤ i) : scR (zu F i x) v m = scR F v m := by
  induction m with
  | zero => rfl
  | succ m ih =>
    show scR (zu F i x) v m + (if zu F i x (m : Int) = v then 1 else 0) = scR F v m + (if F (m : Int) = v then 1 else 0)
    rw [ih (by omega), zu_ne (by omega)]
theorem scR_zu {F : Int → Int} {i v : Int} (m : Nat) (h0 : 0 ≤ i) (h1 : i < (m : Int)) (hn : ¬ F i = v) : scR (zu F i v) v m = scR F v m + 1 := by
  induction m with
  | zero => omega
  | succ m ih =>
    show scR (zu F i v) v m + (if zu F i v (m : Int) = v then 1 else 0) = scR F v m + (if F (m : Int) = v then 1 else 0) + 1
    by_cases e : i = (m : Int)
    · subst e
      rw [scR_lo m (Int.le_refl _), zu_self, if_pos rfl, if_neg hn]
      omega
    · rw [ih (by omega), zu_ne (fun q => e q.symm)]
      omega
def scn (F : Int → Int) (v : Int) : Int := scR F v 2048
theorem scn_b (F : Int → Int) (v : Int) : 0 ≤ scn F v ∧ scn F v ≤ 2048 := scR_b F v 2048
theorem scn_zu {F : Int → Int} {i v : Int} (h : 0 ≤ i ∧ i < 2048) (hn : ¬ F i = v) : scn (zu F i v) v = scn F v + 1 := scR_zu 2048 h.1 h.2 hn
/-! the same, of stamps that are compared as they stand in the machine -/
def swR (F : Int → Int) (v : Int) : Nat → Int
  | 0 => 0
  | m + 1 => swR F v m + (if Int32.ofInt (F (m : Int)) = Int32.ofInt v then 1 else 0)
theorem swR_b (F : Int → Int) (v : Int) (m : Nat) : 0 ≤ swR F v m ∧ swR F v m ≤ (m : Int) := by
  induction m with
  | zero => exact ⟨by show (0 : Int) ≤ 0; omega, by show (0 : Int) ≤ 0; omega⟩
  | succ m ih =>
    show 0 ≤ swR F v m + (if Int32.ofInt (F (m : Int)) = Int32.ofInt v then 1 else 0) ∧ swR F v m + (if Int32.ofInt (F (m : Int)) = Int32.ofInt v then 1 else 0) ≤ ((m + 1 : Nat) : Int)
    split <;> omega
theorem swR_lo {F : Int → Int} {i x v : Int} (m : Nat) (h : (m : Int) ≤ i) : swR (zu F i x) v m = swR F v m := by
  induction m with
  | zero => rfl
  | succ m ih =>
    show swR (zu F i x) v m + (if Int32.ofInt (zu F i x (m : Int)) = Int32.ofInt v then 1 else 0) = swR F v m + (if Int32.ofInt (F (m : Int)) = Int32.ofInt v then 1 else 0)
    rw [ih (by omega), zu_ne (by omega)]
theorem swR_zu {F : Int → Int} {i v : Int} (m : Nat) (h0 : 0 ≤ i) (h1 : i < (m : Int)) : swR (zu F i v) v m = swR F v m + (if Int32.ofInt (F i) = Int32.ofInt v then 0 else 1) := by
  induction m with
  | zero => omega
  | succ m ih =>
    show swR (zu F i v) v m + (if Int32.ofInt (zu F i v (m : Int)) = Int32.ofInt v then 1 else 0) = swR F v m + (if Int32.ofInt (F (m : Int)) = Int32.ofInt v then 1 else 0) + (if Int32.ofInt (F i) = Int32.ofInt v then 0 else 1)
    by_cases e : i = (m : Int)
    · subst e
      rw [swR_lo m (Int.le_refl _), zu_self, if_pos rfl]
      split <;> omega
    · rw [ih (by omega), zu_ne (fun q => e q.symm)]
      omega
def scw (F : Int → Int) (v : Int) : Int := swR F v 3072
theorem scw_b (F : Int → Int) (v : Int) : 0 ≤ scw F v ∧ scw F v ≤ 3072 := swR_b F v 3072
theorem scw_zu {F : Int → Int} {i v : Int} (h : 0 ≤ i ∧ i < 3072) (hn : ¬ Int32.ofInt (F i) = Int32.ofInt v) : scw (zu F i v) v = scw F v + 1 := by
  show swR (zu F i v) v 3072 = swR F v 3072 + 1
  rw [swR_zu 3072 h.1 h.2, if_neg hn]
theorem scw_le {F : Int → Int} {i v : Int} (h : 0 ≤ i ∧ i < 3072) : scw F v ≤ scw (zu F i v) v := by
  show swR F v 3072 ≤ swR (zu F i v) v 3072
  rw [swR_zu 3072 h.1 h.2]
  split <;> omega
/-! how many pairs of a state and a place are not marked -/
/-- what is not marked yet, of a subject of n bytes -/
noncomputable def ucn (M : Int → Int) (w df n : Int) : Int := pcT (eff M w df) (32 * w).toNat (n + 1).toNat
theorem ucn_1 {M M2 : Int → Int} {w df df2 n x p : Int} (hw : 1 ≤ w ∧ w ≤ 26) (hx : 0 ≤ x ∧ x < 32 * w) (hp : 0 ≤ p ∧ p ≤ n) (hn : ¬ eff M w df x p) (h : ∀ s' p' : Int, 0 ≤ s' → s' < 32 * w → (eff M2 w df2 s' p' ↔ eff M w df s' p' ∨ (s' = x ∧ p' = p))) : ucn M2 w df2 n + 1 = ucn M w df n :=
  pcT_1 (32 * w).toNat (n + 1).toNat (by omega) (by omega) hn (fun s q a b => h s q a (by omega))
theorem ucn_0 {M M2 : Int → Int} {w df df2 n x p : Int} (hw : 1 ≤ w ∧ w ≤ 26) (he : eff M w df x p) (h : ∀ s' p' : Int, 0 ≤ s' → s' < 32 * w → (eff M2 w df2 s' p' ↔ eff M w df s' p' ∨ (s' = x ∧ p' = p))) : ucn M2 w df2 n = ucn M w df n :=
  pcT_c (32 * w).toNat (n + 1).toNat (fun s q a b _ _ => (h s q a (by omega)).trans ⟨fun z => z.elim id (fun e => by rw [e.1, e.2]; exact he), Or.inl⟩)
theorem ucn_b {M : Int → Int} {w df n : Int} (hw : 1 ≤ w ∧ w ≤ 26) (hn : 0 ≤ n) : 0 ≤ ucn M w df n ∧ ucn M w df n ≤ 832 * (n + 1) := by
  have h := pcT_b (eff M w df) (32 * w).toNat (n + 1).toNat
  refine ⟨h.1, Int.le_trans h.2 ?_⟩
  rw [Int.toNat_of_nonneg (by omega), Int.toNat_of_nonneg (by omega)]
  exact Int.mul_le_mul_of_nonneg_right (by omega) (by omega)
theorem pcT_row {E E2 : Int → Int → Prop} {r : Int} (W m : Nat) (h : ∀ s p : Int, 0 ≤ s → s < (W : Int) → ¬ p = r → (E2 s p ↔ E s p)) : pcT E2 W m ≤ pcT E W m + (W : Int) := by
  induction m with
  | zero => show (0 : Int) ≤ 0 + (W : Int); omega
  | succ m ih =>
    show pcT E2 W m + pcS E2 (m : Int) W ≤ pcT E W m + pcS E (m : Int) W + (W : Int)
    by_cases e : r = (m : Int)
    · have h1 : pcT E2 W m = pcT E W m := pcT_c W m (fun s p a b c d => h s p a b (by omega))
      have h2 := pcS_b E2 (m : Int) W
      have h3 := pcS_b E (m : Int) W
      omega
    · have h2 : pcS E2 (m : Int) W = pcS E (m : Int) W := pcS_c W (fun s a b => h s (m : Int) a b (fun q => e q.symm))
      omega
theorem ucn_fill {M : Int → Int} {w df n r a b : Int} (hw : 1 ≤ w ∧ w ≤ 26) (hr : 0 ≤ r) (ha : a = r * w) (hb : b = (r + 1) * w) : ucn (zfill M a b 0) w df n ≤ ucn M w df n + 832 := by
  have h := pcT_row (E := eff M w df) (E2 := eff (zfill M a b 0) w df) (r := r) (32 * w).toNat (n + 1).toNat (fun s p h0 h1 hp => by
    unfold eff
    have hs : 0 ≤ s / 32 ∧ s / 32 < w := by omega
    have hb2 : b = a + w := by rw [hb, ha, Int.add_mul, Int.one_mul]
    rw [zfill_out (fun z => ?_)]
    rcases (show p + 1 ≤ r ∨ r + 1 ≤ p by omega) with q | q
    · have h2 := Int.mul_le_mul_of_nonneg_right q (show 0 ≤ w by omega)
      rw [Int.add_mul, Int.one_mul, ← ha] at h2
      omega
    · have h2 := Int.mul_le_mul_of_nonneg_right q (show 0 ≤ w by omega)
      rw [Int.add_mul, Int.one_mul, ← ha] at h2
      omega)
  have h3 : (((32 * w).toNat : Nat) : Int) ≤ 832 := by omega
  exact Int.le_trans h (by unfold ucn; omega)
theorem cmo_p (z n : Int) : (z + 20) * (n + 20) = z * n + 20 * z + 20 * n + 400 := by
  rw [Int.add_mul, Int.mul_add, Int.mul_add]
  omega
/-- one match: what a run takes is allowed -/
theorem cmo_1 {z n s : Int} (hz : 0 ≤ z) (hn : 0 ≤ n) (h : s ≤ 9800 * (n + 1) + 3232 * z + 14544) : s ≤ 400 * (z + 20) * (n + 20) * (1 + 1) := by
  have h1 : 0 ≤ z * n := Int.mul_nonneg hz hn
  rw [Int.mul_assoc 400, cmo_p]
  omega
/-- k matches by the marks alone -/
theorem cmo_k {z n k s : Int} (hz : 0 ≤ z) (hn : 0 ≤ n) (hk : 0 ≤ k) (h : s ≤ 1664 * (n + 1) + 7340 * (k + 1)) : s ≤ 400 * (z + 20) * (n + 20) * (k + 1) := by
  have h1 : 20 * (n + 20) ≤ (z + 20) * (n + 20) := Int.mul_le_mul_of_nonneg_right (by omega) (by omega)
  have h2 : (20 * (n + 20)) * (k + 1) ≤ ((z + 20) * (n + 20)) * (k + 1) := Int.mul_le_mul_of_nonneg_right h1 (by omega)
  have h3 : (20 * (n + 20)) * (k + 1) = 20 * (n * k) + 20 * n + 400 * k + 400 := by
    rw [Int.mul_assoc, Int.add_mul, Int.mul_add, Int.mul_add]
    omega
  have h4 : 0 ≤ n * k := Int.mul_nonneg hn hk
  rw [Int.mul_assoc 400, Int.mul_assoc 400]
  omega
/-- which: k programs were asked -/
def wlm (s k n : Int) : Prop := s ≤ k * (4738 * (n + 1) + 1665)
theorem wlm_0 {s n : Int} (h : s ≤ 0) : wlm s 0 n := by
  unfold wlm
  rw [Int.zero_mul]
  exact h
theorem wlm_s {s s2 k k2 n : Int} (h : wlm s k n) (hs : s2 ≤ s + 4738 * (n + 1) + 1665) (hk : k2 = k + 1) : wlm s2 k2 n := by
  unfold wlm at *
  rw [hk, Int.add_mul, Int.one_mul]
  generalize k * (4738 * (n + 1) + 1665) = P at *
  omega
theorem wlm_c {s z n k t : Int} (h : wlm s k n) (hz : 0 ≤ z) (hn : 0 ≤ n) (hk : 0 ≤ k) (ht : t ≤ s) : t ≤ 400 * (z + 20) * (n + 20) * (k + 1) := by
  have h1 : 20 * (n + 20) ≤ (z + 20) * (n + 20) := Int.mul_le_mul_of_nonneg_right (by omega) (by omega)
  have h2 : (20 * (n + 20)) * (k + 1) ≤ ((z + 20) * (n + 20)) * (k + 1) := Int.mul_le_mul_of_nonneg_right h1 (by omega)
  have h3 : (20 * (n + 20)) * (k + 1) = 20 * (n * k) + 20 * n + 400 * k + 400 := by
    rw [Int.mul_assoc, Int.add_mul, Int.mul_add, Int.mul_add]
    omega
  have h4 : 0 ≤ n * k := Int.mul_nonneg hn hk
  unfold wlm at h
  rw [show 4738 * (n + 1) + 1665 = 4738 * n + 6403 by omega, Int.mul_add, Int.mul_left_comm k 4738 n, Int.mul_comm k n] at h
  rw [Int.mul_assoc 400, Int.mul_assoc 400]
  omega
