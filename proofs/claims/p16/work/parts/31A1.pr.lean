/-! bits, records of ranges, programs -/
def tw (j : Int) : Int := (BitVec.twoPow 32 j.toNat).toInt
def bt (z j : Int) : Prop := (BitVec.ofInt 32 z).getLsbD j.toNat = true
def stb (z j : Int) : Int := (BitVec.ofInt 32 z ||| BitVec.twoPow 32 j.toNat).toInt
theorem tw_in (j : Int) : -2147483648 ≤ tw j ∧ tw j ≤ 2147483647 := by
  unfold tw
  have h1 := BitVec.le_toInt (BitVec.twoPow 32 j.toNat)
  have h2 := BitVec.toInt_lt (x := BitVec.twoPow 32 j.toNat)
  have e : (2 : Int) ^ (32 - 1) = 2147483648 := by decide
  rw [e] at h1 h2
  omega
theorem tw_nz {j : Int} (h : 0 ≤ j ∧ j < 32) : ¬ tw j = 0 := by
  have := z_all (Q := fun j => ¬ tw j = 0) 32 (by unfold tw; decide) j h.1 (by omega)
  exact this
theorem bt_0 (j : Int) : ¬ bt 0 j := by unfold bt; simp
theorem bt_stb {z i j : Int} (hi : 0 ≤ i ∧ i < 32) (hj : 0 ≤ j ∧ j < 32) : bt (stb z j) i ↔ bt z i ∨ i = j := by
  unfold bt stb
  rw [BitVec.ofInt_toInt, BitVec.getLsbD_or, BitVec.getLsbD_twoPow, Bool.or_eq_true]
  have : (decide (j.toNat < 32) && decide (j.toNat = i.toNat)) = true ↔ i = j := by
    rw [Bool.and_eq_true, decide_eq_true_iff, decide_eq_true_iff]; omega
  rw [this]
theorem z_and_tw {z j : Int} (hj : 0 ≤ j ∧ j < 32) : (¬ bt z j → Int32.ofInt z &&& Int32.ofInt (tw j) = Int32.ofInt 0) ∧ (bt z j → Int32.ofInt z &&& Int32.ofInt (tw j) = Int32.ofInt (tw j)) := by
  have e : (Int32.ofInt z &&& Int32.ofInt (tw j)).toBitVec = BitVec.ofInt 32 z &&& BitVec.twoPow 32 j.toNat := by
    rw [Int32.toBitVec_and, Int32.toBitVec_ofInt, Int32.toBitVec_ofInt]; unfold tw; rw [BitVec.ofInt_toInt]
  constructor
  · intro h
    apply Int32.toBitVec_inj.mp
    rw [e, BitVec.and_twoPow, if_neg (show ¬ (BitVec.ofInt 32 z).getLsbD j.toNat = true from h)]; rfl
  · intro h
    apply Int32.toBitVec_inj.mp
    rw [e, BitVec.and_twoPow, if_pos (show (BitVec.ofInt 32 z).getLsbD j.toNat = true from h), Int32.toBitVec_ofInt]; unfold tw; rw [BitVec.ofInt_toInt]
theorem z_or_tw {z j : Int} : Int32.ofInt z ||| Int32.ofInt (tw j) = Int32.ofInt (stb z j) := by
  apply Int32.toBitVec_inj.mp
  rw [Int32.toBitVec_or, Int32.toBitVec_ofInt, Int32.toBitVec_ofInt, Int32.toBitVec_ofInt]; unfold tw stb; rw [BitVec.ofInt_toInt, BitVec.ofInt_toInt]
theorem z_shl1 {j : Int} (h : 0 ≤ j ∧ j < 32) : Int32.ofInt 1 <<< (Int32.ofInt j &&& 31) = Int32.ofInt (tw j) :=
  z_all (Q := fun j => Int32.ofInt 1 <<< (Int32.ofInt j &&& 31) = Int32.ofInt (tw j)) 32 (by unfold tw; decide +kernel) j h.1 (by omega)
theorem z_and5 : ∀ m : Nat, m < 32 → ∀ j : Nat, j < 5 → Int32.ofInt (m : Int) &&& Int32.ofInt (2 ^ j) = Int32.ofInt ((m : Int) / 2 ^ j % 2 * 2 ^ j) := by decide +kernel
section PRows
variable {X : ab_X} {M : ab_Y} {d : Nat} {G : ab_G} {pc : Nat} {L : List (Option Value)} {st : List Value} {Q : Outcome → ab_G → Prop}
theorem zz_iand5 {x y c : Int} (j : Nat) (hd : decode M.2.2.1 pc = .ok (.iand, 1)) (hj : j < 5) (hy : y = 2 ^ j) (hc : c = 2 ^ j) (h : 0 ≤ x ∧ x ≤ 31) (k : ab_W X M d G (pc + 1) L (vz (x / c % 2 * c) :: st) Q) : ab_W X M d G pc L (vz y :: vz x :: st) Q := ab_iand hd (ab_topi (by
  have := z_and5 x.toNat (by omega) j hj
  rw [show ((x.toNat : Nat) : Int) = x by omega] at this
  rw [hy, hc]; exact this) k)
theorem zz_shl1 {j : Int} (hd : decode M.2.2.1 pc = .ok (.ishl, 1)) (h : 0 ≤ j ∧ j < 32) (k : ab_W X M d G (pc + 1) L (vz (tw j) :: st) Q) : ab_W X M d G pc L (vz j :: vz 1 :: st) Q := ab_ishl hd (ab_topi (z_shl1 h) k)
theorem zz_iandtw {z j : Int} (hd : decode M.2.2.1 pc = .ok (.iand, 1)) (h : 0 ≤ j ∧ j < 32) (k1 : bt z j → ab_W X M d G (pc + 1) L (vz (tw j) :: st) Q) (k0 : ¬ bt z j → ab_W X M d G (pc + 1) L (vz 0 :: st) Q) : ab_W X M d G pc L (vz (tw j) :: vz z :: st) Q := by
  by_cases q : bt z j
  · exact ab_iand hd (ab_topi ((z_and_tw h).2 q) (k1 q))
  · exact ab_iand hd (ab_topi ((z_and_tw h).1 q) (k0 q))
theorem zz_iortw {z j : Int} (hd : decode M.2.2.1 pc = .ok (.ior, 1)) (k : ab_W X M d G (pc + 1) L (vz (stb z j) :: st) Q) : ab_W X M d G pc L (vz (tw j) :: vz z :: st) Q := ab_ior hd (ab_topi z_or_tw k)
end PRows
/-- the records stand one behind another -/
def rchf (RR : Int → Int) (ru : Int) : Nat → Int → Prop
  | 0, r => r = ru
  | k + 1, r => 0 ≤ RR r ∧ r + 1 + 2 * RR r ≤ ru ∧ rchf RR ru k (r + 1 + 2 * RR r)
def rch (RR : Int → Int) (ru : Int) : Prop := ∃ k, rchf RR ru k 0
def recok (RR : Int → Int) (nr r : Int) : Prop := 0 ≤ r ∧ 0 ≤ RR r ∧ r + 2 * RR r + 1 ≤ nr ∧ cs_can (fun i => RR (r + 1 + i)) (RR r) ∧ rch RR r
def phas (K O RR : Int → Int) (x c : Int) : Prop := (K x = 0 ∧ O x = c) ∨ (K x = 1 ∧ cs_mem (fun i => RR (O x + 1 + i)) (RR (O x)) c)
def prok (K N O RR : Int → Int) (n nr wi : Int) : Prop := ∀ s : Int, 0 ≤ s → s < n → (0 ≤ K s ∧ K s ≤ 9 ∧ ¬ K s = 4 ∧ ¬ K s = 5) ∧ (0 ≤ N s ∧ N s < n) ∧ (K s = 6 → 0 ≤ O s ∧ O s < n) ∧ (K s = 7 → 2 ≤ O s ∧ O s < wi) ∧ (K s = 3 → 0 ≤ O s ∧ O s ≤ 5) ∧ (K s = 0 → 0 ≤ O s ∧ O s ≤ 1114111) ∧ (K s = 1 → recok RR nr (O s))
theorem prok.k {K N O RR : Int → Int} {cn nr wi : Int} (h : prok K N O RR cn nr wi) (s : Int) (h0 : 0 ≤ s) (h1 : s < cn) : 0 ≤ K s ∧ K s ≤ 9 := by have := (h s h0 h1).1; omega
theorem prok.n {K N O RR : Int → Int} {cn nr wi : Int} (h : prok K N O RR cn nr wi) (s : Int) (h0 : 0 ≤ s) (h1 : s < cn) : 0 ≤ N s ∧ N s < cn := (h s h0 h1).2.1
theorem prok.o6 {K N O RR : Int → Int} {cn nr wi : Int} (h : prok K N O RR cn nr wi) (s : Int) (h0 : 0 ≤ s) (h1 : s < cn) (q : K s = 6) : 0 ≤ O s ∧ O s < cn := (h s h0 h1).2.2.1 q
theorem prok.o7 {K N O RR : Int → Int} {cn nr wi : Int} (h : prok K N O RR cn nr wi) (s : Int) (h0 : 0 ≤ s) (h1 : s < cn) (q : K s = 7) : 2 ≤ O s ∧ O s < wi := (h s h0 h1).2.2.2.1 q
theorem prok.o3 {K N O RR : Int → Int} {cn nr wi : Int} (h : prok K N O RR cn nr wi) (s : Int) (h0 : 0 ≤ s) (h1 : s < cn) (q : K s = 3) : 0 ≤ O s ∧ O s ≤ 5 := (h s h0 h1).2.2.2.2.1 q
theorem prok.o0 {K N O RR : Int → Int} {cn nr wi : Int} (h : prok K N O RR cn nr wi) (s : Int) (h0 : 0 ≤ s) (h1 : s < cn) (q : K s = 0) : 0 ≤ O s ∧ O s ≤ 1114111 := (h s h0 h1).2.2.2.2.2.1 q
theorem prok.o1 {K N O RR : Int → Int} {cn nr wi : Int} (h : prok K N O RR cn nr wi) (s : Int) (h0 : 0 ≤ s) (h1 : s < cn) (q : K s = 1) : recok RR nr (O s) := (h s h0 h1).2.2.2.2.2.2 q
theorem prok.ne {K N O RR : Int → Int} {cn nr wi : Int} (h : prok K N O RR cn nr wi) (s : Int) (h0 : 0 ≤ s) (h1 : s < cn) : ¬ K s = 4 ∧ ¬ K s = 5 := ⟨(h s h0 h1).1.2.2.1, (h s h0 h1).1.2.2.2⟩
theorem rec_hs {RR : Int → Int} {nr r : Int} (h : recok RR nr r) : ∀ i j : Int, 0 ≤ i → i ≤ j → j < RR r → RR (r + 2 * i + 2) ≤ RR (r + 2 * j + 2) := by
  intro i j h0 h1 h2
  have := cs_hs h.2.2.2.1 i j h0 h1 h2
  rw [show r + 2 * i + 2 = r + 1 + (2 * i + 1) by omega, show r + 2 * j + 2 = r + 1 + (2 * j + 1) by omega]
  exact this
theorem phas_1 {K O RR : Int → Int} {x c w : Int} (k : K x = 1) (h0 : 0 ≤ w ∧ w ≤ RR (O x)) (h1 : w < RR (O x)) (h2 : RR (O x + 2 * w + 1) ≤ c) (h3 : ∀ i : Int, w ≤ i → i < RR (O x) → c ≤ RR (O x + 2 * i + 2)) : phas K O RR x c := by
  refine Or.inr ⟨k, w, h0.1, h1, ?_, ?_⟩
  · show RR (O x + 1 + 2 * w) ≤ c
    rw [show O x + 1 + 2 * w = O x + 2 * w + 1 by omega]; exact h2
  · show c ≤ RR (O x + 1 + (2 * w + 1))
    rw [show O x + 1 + (2 * w + 1) = O x + 2 * w + 2 by omega]; exact h3 w (by omega) h1
theorem phas_0 {K O RR : Int → Int} {nr x c w : Int} (hr : recok RR nr (O x)) (k : K x = 1) (h0 : 0 ≤ w) (h1 : w < RR (O x) → c < RR (O x + 2 * w + 1)) (h3 : ∀ i : Int, 0 ≤ i → i < w → RR (O x + 2 * i + 2) < c) : ¬ phas K O RR x c := by
  rintro (⟨e, _⟩ | ⟨_, i, i0, i1, a, b⟩)
  · omega
  · have a' : RR (O x + 1 + 2 * i) ≤ c := a
    have b' : c ≤ RR (O x + 1 + (2 * i + 1)) := b
    by_cases q : i < w
    · have := h3 i i0 q
      rw [show O x + 1 + (2 * i + 1) = O x + 2 * i + 2 by omega] at b'; omega
    · have g := h1 (by omega)
      by_cases e : i = w
      · rw [e, show O x + 1 + 2 * w = O x + 2 * w + 1 by omega] at a'; omega
      · have := cs_lt hr.2.2.2.1 h0 (show w < i by omega) i1
        have t := (hr.2.2.2.1 w h0 (by omega)).2.1
        have this' : RR (O x + 1 + (2 * w + 1)) + 1 < RR (O x + 1 + 2 * i) := this
        have t' : RR (O x + 1 + 2 * w) ≤ RR (O x + 1 + (2 * w + 1)) := t
        rw [show O x + 1 + 2 * w = O x + 2 * w + 1 by omega] at t'
        omega
theorem phas_c {K O RR : Int → Int} {x c : Int} (k : K x = 0) : phas K O RR x c ↔ O x = c := ⟨fun h => by rcases h with h | h; (exact h.2); (have := h.1; omega), fun h => Or.inl ⟨k, h⟩⟩
theorem prok_add {K N O RR : Int → Int} {n nr wi k x v : Int} (h : prok K N O RR n nr wi) (h0 : 0 ≤ n) (hk : 0 ≤ k ∧ k ≤ 9) (hk4 : ¬ k = 4) (hk5 : ¬ k = 5) (hx : 0 ≤ x ∧ x < n + 1) (h6 : k = 6 → 0 ≤ v ∧ v < n + 1) (h7 : k = 7 → 2 ≤ v ∧ v < wi) (h3 : k = 3 → 0 ≤ v ∧ v ≤ 5) (hc : k = 0 → 0 ≤ v ∧ v ≤ 1114111) (h1 : k = 1 → recok RR nr v) : prok (zu K n k) (zu N n x) (zu O n v) RR (n + 1) nr wi := by
  intro s s0 s1
  by_cases e : s = n
  · subst e; rw [zu_self, zu_self, zu_self]; exact ⟨⟨hk.1, hk.2, hk4, hk5⟩, hx, h6, h7, h3, hc, h1⟩
  · rw [zu_ne e, zu_ne e, zu_ne e]
    obtain ⟨a, b, c, q⟩ := h s s0 (by omega)
    exact ⟨a, ⟨b.1, by omega⟩, fun t => ⟨(c t).1, by have := (c t).2; omega⟩, q⟩
def btk (K O RR C Rs : Int → Int) (n x p v : Int) : Prop := (K x = 2 ∧ p < n ∧ v = 1) ∨ (K x = 2 ∧ ¬ p < n ∧ v = 0) ∨ (¬ K x = 2 ∧ ¬ C p = -1 ∧ phas K O RR x (C p) ∧ v = Rs p) ∨ (¬ K x = 2 ∧ (C p = -1 ∨ ¬ phas K O RR x (C p)) ∧ v = 0)
def lks (la k la2 : Int) : Prop := (la2 = 1 ∧ (la = 1 ∨ k = 3)) ∨ (la2 = 0 ∧ la = 0 ∧ ¬ k = 3)
/-! the subject -/
def hld (f : Int → Int) (n p a : Int) : Prop := (a = 0 ∧ p = 0) ∨ (a = 1 ∧ p = n) ∨ (a = 2 ∧ (p = 0 ∨ tpk f n (p - 1) = 10)) ∨ (a = 3 ∧ (p = n ∨ tpk f n p = 10)) ∨ (a = 4 ∧ ¬ (isW (tpk f n (p - 1)) ↔ isW (tpk f n p))) ∨ (a = 5 ∧ (isW (tpk f n (p - 1)) ↔ isW (tpk f n p)))
def hok (f : Int → Int) (n p h : Int) : Prop := (0 ≤ h ∧ h ≤ 63) ∧ (h % 2 = 1 ↔ hld f n p 0) ∧ (h / 2 % 2 = 1 ↔ hld f n p 1) ∧ (h / 4 % 2 = 1 ↔ hld f n p 2) ∧ (h / 8 % 2 = 1 ↔ hld f n p 3) ∧ (h / 16 % 2 = 1 ↔ hld f n p 4) ∧ (h / 32 % 2 = 1 ↔ hld f n p 5)
theorem hld_0 {f : Int → Int} {n p : Int} : hld f n p 0 ↔ p = 0 := ⟨fun h => by rcases h with h | h | h | h | h | h <;> first | exact h.2 | (exact absurd h.1 (by decide)), fun h => Or.inl ⟨rfl, h⟩⟩
theorem hld_1 {f : Int → Int} {n p : Int} : hld f n p 1 ↔ p = n := ⟨fun h => by rcases h with h | h | h | h | h | h <;> first | (exact absurd h.1 (by decide)) | exact h.2, fun h => Or.inr (Or.inl ⟨rfl, h⟩)⟩
theorem hld_2 {f : Int → Int} {n p : Int} : hld f n p 2 ↔ (p = 0 ∨ tpk f n (p - 1) = 10) := ⟨fun h => by rcases h with h | h | h | h | h | h <;> first | (exact absurd h.1 (by decide)) | exact h.2, fun h => Or.inr (Or.inr (Or.inl ⟨rfl, h⟩))⟩
theorem hld_3 {f : Int → Int} {n p : Int} : hld f n p 3 ↔ (p = n ∨ tpk f n p = 10) := ⟨fun h => by rcases h with h | h | h | h | h | h <;> first | (exact absurd h.1 (by decide)) | exact h.2, fun h => Or.inr (Or.inr (Or.inr (Or.inl ⟨rfl, h⟩)))⟩
theorem hld_4 {f : Int → Int} {n p : Int} : hld f n p 4 ↔ ¬ (isW (tpk f n (p - 1)) ↔ isW (tpk f n p)) := ⟨fun h => by rcases h with h | h | h | h | h | h <;> first | (exact absurd h.1 (by decide)) | exact h.2, fun h => Or.inr (Or.inr (Or.inr (Or.inr (Or.inl ⟨rfl, h⟩))))⟩
theorem hld_5 {f : Int → Int} {n p : Int} : hld f n p 5 ↔ (isW (tpk f n (p - 1)) ↔ isW (tpk f n p)) := ⟨fun h => by rcases h with h | h | h | h | h | h <;> first | (exact absurd h.1 (by decide)) | exact h.2, fun h => Or.inr (Or.inr (Or.inr (Or.inr (Or.inr ⟨rfl, h⟩))))⟩
theorem hok_mk {f : Int → Int} {n p h : Int} {a b : Prop} (ha : a ↔ isW (tpk f n (p - 1))) (hb : b ↔ isW (tpk f n p)) (h6 : 0 ≤ h ∧ h ≤ 63) (k0 : h % 2 = 1 ↔ p = 0) (k1 : h / 2 % 2 = 1 ↔ p = n) (k2 : h / 4 % 2 = 1 ↔ (p = 0 ∨ tpk f n (p - 1) = 10)) (k3 : h / 8 % 2 = 1 ↔ (p = n ∨ tpk f n p = 10)) (k4 : h / 16 % 2 = 1 ↔ ¬ (a ↔ b)) (k5 : h / 32 % 2 = 1 ↔ (a ↔ b)) : hok f n p h :=
  ⟨h6, by rw [hld_0]; exact k0, by rw [hld_1]; exact k1, by rw [hld_2]; exact k2, by rw [hld_3]; exact k3, by rw [hld_4, ← ha, ← hb]; exact k4, by rw [hld_5, ← ha, ← hb]; exact k5⟩
def sup (f C Rs H : Int → Int) (n a : Int) : Prop := ∀ p : Int, 0 ≤ p → p < a → C p = u8 f n p ∧ (¬ u8 f n p = -1 → Rs p = wd (u8 f n p)) ∧ (u8 f n p = -1 → (p = 0 → Rs p = 0) ∧ (0 < p → Rs p = max (Rs (p - 1) - 1) 0)) ∧ hok f n p (H p)
def suok (f C Rs H : Int → Int) (n : Int) : Prop := bytes f n ∧ sup f C Rs H n (n + 1)
theorem sup_r {f C Rs H : Int → Int} {n a : Int} (hb : bytes f n) (h : sup f C Rs H n a) (ha : a ≤ n + 1) : ∀ (k : Nat), (k : Int) < a → 0 ≤ Rs k ∧ Rs k ≤ 4 ∧ (k : Int) + Rs k ≤ n := by
  intro k
  induction k with
  | zero =>
    intro hk
    obtain ⟨h1, h2, h3, _⟩ := h 0 (by omega) hk
    by_cases e : u8 f n 0 = -1
    · have := (h3 e).1 rfl; simp only [Int.natCast_zero] at *; omega
    · have q := h2 e
      have w := u8_w hb (show 0 ≤ u8 f n 0 by have := (u8_in hb 0).1; omega)
      have t := wd_in (u8 f n 0)
      simp only [Int.natCast_zero] at *; omega
  | succ k ih =>
    intro hk
    have i := ih (by omega)
    obtain ⟨h1, h2, h3, _⟩ := h ((k + 1 : Nat) : Int) (by omega) hk
    by_cases e : u8 f n ((k + 1 : Nat) : Int) = -1
    · have := (h3 e).2 (by omega)
      rw [show (((k + 1 : Nat) : Int) - 1) = (k : Int) by omega] at this
      omega
    · have q := h2 e
      have w := u8_w hb (show 0 ≤ u8 f n ((k + 1 : Nat) : Int) by have := (u8_in hb ((k + 1 : Nat) : Int)).1; omega)
      have t := wd_in (u8 f n ((k + 1 : Nat) : Int))
      omega
theorem suok.c {f C Rs H : Int → Int} {n : Int} (hh : suok f C Rs H n) (k : Int) (h0 : 0 ≤ k) (h1 : k ≤ n) : -1 ≤ C k ∧ C k ≤ 1114111 := by rw [(hh.2 k h0 (by omega)).1]; exact u8_in hh.1 k
theorem suok.r {f C Rs H : Int → Int} {n : Int} (hh : suok f C Rs H n) (k : Int) (h0 : 0 ≤ k) (h1 : k ≤ n) : 0 ≤ Rs k ∧ Rs k ≤ 4 ∧ k + Rs k ≤ n := by
  have := sup_r hh.1 hh.2 (by omega) k.toNat (by omega)
  rw [show ((k.toNat : Nat) : Int) = k by omega] at this
  exact this
theorem suok.h {f C Rs H : Int → Int} {n : Int} (hh : suok f C Rs H n) (k : Int) (h0 : 0 ≤ k) (h1 : k ≤ n) : 0 ≤ H k ∧ H k ≤ 63 := (hh.2 k h0 (by omega)).2.2.2.1
theorem suok.w {f C Rs H : Int → Int} {n : Int} (hh : suok f C Rs H n) (k : Int) (h0 : 0 ≤ k) (h1 : k ≤ n) (h2 : ¬ C k = -1) : 1 ≤ Rs k := by
  obtain ⟨a, b, _⟩ := hh.2 k h0 (by omega)
  rw [b (by rw [← a]; exact h2)]; exact (wd_in _).1
theorem suok.hk {f C Rs H : Int → Int} {n : Int} (hh : suok f C Rs H n) (k : Int) (h0 : 0 ≤ k) (h1 : k ≤ n) : hok f n k (H k) := (hh.2 k h0 (by omega)).2.2.2
theorem sup_0 {f C Rs H : Int → Int} {n : Int} : sup f C Rs H n 0 := fun p h0 h1 => absurd h1 (by omega)
theorem sup_s {f C Rs H : Int → Int} {n a r h : Int} (ha : 0 ≤ a) (q : sup f C Rs H n a) (h1 : ¬ u8 f n a = -1 → r = wd (u8 f n a)) (h2 : u8 f n a = -1 → (a = 0 → r = 0) ∧ (0 < a → r = max (Rs (a - 1) - 1) 0)) (h3 : hok f n a h) : sup f (zu C a (u8 f n a)) (zu Rs a r) (zu H a h) n (a + 1) := by
  intro p p0 p1
  by_cases e : p = a
  · subst e
    rw [zu_self, zu_self, zu_self, zu_ne (show p - 1 ≠ p by omega)]
    exact ⟨rfl, h1, h2, h3⟩
  · rw [zu_ne e, zu_ne e, zu_ne e, zu_ne (show p - 1 ≠ a by omega)]
    exact q p p0 (by omega)
def srs (Rs : Int → Int) (a r : Int) : Prop := (a = 0 → r = 0) ∧ (0 < a → r = Rs (a - 1))
theorem srs_s {Rs : Int → Int} {a r : Int} (ha : 0 ≤ a) : srs (zu Rs a r) (a + 1) r := ⟨fun h => by omega, fun _ => by rw [show a + 1 - 1 = a by omega]; exact (zu_self _ _ _).symm⟩
theorem by_cpy {g f : Int → Int} {n : Int} (h : bytes f n) : bytes (zcpy f g 0 0 n) n := fun k h0 h1 => by
  rw [zcpy_in (by omega), show (0 : Int) + (k - 0) = k by omega]; exact h k h0 h1
theorem eq_cpy {g f : Int → Int} {n : Int} : ∀ k : Int, 0 ≤ k → k < n → zcpy f g 0 0 n k = f k := fun k h0 h1 => by
  rw [zcpy_in (by omega), show (0 : Int) + (k - 0) = k by omega]
