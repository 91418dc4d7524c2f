/-! the machine that makes steps: what a part may cost -/
def cex (z d : Int) : Int := if d ≤ 30 then max 0 (z - (30 - d) * (31 - d)) else 2
def cs (z d : Int) : Int := if z = 0 then 0 else 62 * z + cex z d
theorem cex_c (z d : Int) : (d ≤ 30 ∧ ((0 ≤ z - (30 - d) * (31 - d) ∧ cex z d = z - (30 - d) * (31 - d)) ∨ (z - (30 - d) * (31 - d) ≤ 0 ∧ cex z d = 0))) ∨ (30 < d ∧ cex z d = 2) := by
  unfold cex
  by_cases h : d ≤ 30
  · rw [if_pos h]; left; refine ⟨h, ?_⟩; omega
  · rw [if_neg h]; right; exact ⟨by omega, rfl⟩
theorem tt_nn {d : Int} (h : d ≤ 30) : 0 ≤ (30 - d) * (31 - d) := Int.mul_nonneg (by omega) (by omega)
theorem tt_s (d : Int) : (30 - d) * (31 - d) = (30 - (d + 1)) * (31 - (d + 1)) + 2 * (30 - d) := by
  obtain ⟨e, he⟩ : ∃ e : Int, e = 30 - d := ⟨_, rfl⟩
  rw [← he, show 31 - d = e + 1 by omega, show 30 - (d + 1) = e - 1 by omega, show 31 - (d + 1) = e by omega, Int.mul_add, Int.sub_mul, Int.mul_one, Int.one_mul]
  omega
theorem cs_0 (d : Int) : cs 0 d = 0 := if_pos rfl
theorem cs_p {z d : Int} (h : 1 ≤ z) : cs z d = 62 * z + cex z d := if_neg (by omega)
theorem cex_nn {z d : Int} : 0 ≤ cex z d := by have := cex_c z d; omega
theorem cs_nn {z d : Int} (h : 0 ≤ z) : 0 ≤ cs z d := by
  by_cases e : z = 0
  · rw [e, cs_0]; omega
  · rw [cs_p (by omega)]; have := cex_nn (z := z) (d := d); omega
theorem cs_leaf {z d : Int} (h : 1 ≤ z) (hd : 0 ≤ d ∧ d ≤ 31) : 2 * (d + 1) ≤ cs z d := by
  rw [cs_p h]
  have := cex_c z d
  omega
theorem cs_add {a b d : Int} (ha : 0 ≤ a) (hb : 0 ≤ b) (hd : d ≤ 30) : cs a d + cs b d ≤ cs (a + b) d := by
  by_cases e : a = 0
  · rw [e, cs_0, Int.zero_add, Int.zero_add]; omega
  · by_cases f : b = 0
    · rw [f, cs_0, Int.add_zero, Int.add_zero]; omega
    · rw [cs_p (show 1 ≤ a by omega), cs_p (show 1 ≤ b by omega), cs_p (show 1 ≤ a + b by omega)]
      have h1 := cex_c a d
      have h2 := cex_c b d
      have h3 := cex_c (a + b) d
      have h4 := tt_nn hd
      omega
theorem cs_mono {a b d : Int} (ha : 0 ≤ a) (hb : a ≤ b) (hd : d ≤ 30) : cs a d ≤ cs b d := by
  have := cs_add (a := a) (b := b - a) ha (by omega) hd
  rw [show a + (b - a) = b by omega] at this
  have := cs_nn (z := b - a) (d := d) (by omega)
  omega
theorem cs_one {d : Int} (hd : 0 ≤ d ∧ d ≤ 30) : 2 * (d + 1) ≤ cs 1 d := cs_leaf (by decide) (by omega)
theorem cs_mul {x d : Int} (hx : 0 ≤ x) (hd : d ≤ 30) : ∀ m : Nat, (m : Int) * cs x d ≤ cs ((m : Int) * x) d := by
  intro m
  induction m with
  | zero => rw [show ((0 : Nat) : Int) = 0 from rfl, Int.zero_mul, Int.zero_mul, cs_0]; omega
  | succ m ih =>
    have e : ((m + 1 : Nat) : Int) = (m : Int) + 1 := by omega
    rw [e, Int.add_mul, Int.add_mul, Int.one_mul, Int.one_mul]
    have h0 : 0 ≤ (m : Int) * x := Int.mul_nonneg (by omega) hx
    have := cs_add h0 hx hd
    omega
theorem cs_ones {d : Int} (hd : 0 ≤ d ∧ d ≤ 30) : ∀ m : Nat, (m : Int) * (2 * (d + 1)) ≤ cs (m : Int) d := by
  intro m
  induction m with
  | zero => rw [show ((0 : Nat) : Int) = 0 from rfl, Int.zero_mul, cs_0]; omega
  | succ m ih =>
    have e : ((m + 1 : Nat) : Int) = (m : Int) + 1 := by omega
    rw [e, Int.add_mul, Int.one_mul]
    have := cs_add (a := (m : Int)) (b := 1) (d := d) (by omega) (by omega) hd.2
    have := cs_one hd
    omega
theorem cs_star1 {x d : Int} (hx : 0 ≤ x) (hd : 0 ≤ d ∧ d ≤ 30) : 2 * (d + 1) + cs x (d + 1) ≤ cs (x + 1) d := by
  by_cases e : x = 0
  · rw [e, cs_0, Int.zero_add]; have := cs_one hd; omega
  · rw [cs_p (show 1 ≤ x by omega), cs_p (show 1 ≤ x + 1 by omega)]
    have h1 := cex_c x (d + 1)
    have h3 := cex_c (x + 1) d
    have h4 := tt_nn hd.2
    have h5 := tt_s d
    rcases h1 with ⟨h1, q | q⟩ | h1
    · have h6 := tt_nn h1; omega
    · omega
    · have e30 : d = 30 := by omega
      subst e30
      have : ((30 : Int) - 30) * (31 - 30) = 0 := by decide
      omega
theorem cs_star {x d le : Int} (hx : 0 ≤ x) (hd : 0 ≤ d ∧ d ≤ 30) (hl : 0 ≤ le) : 2 * (d + 1) + cs x (d + 1) + le * cs x d ≤ cs ((le + 1) * x + 1) d := by
  have h1 := cs_star1 hx hd
  have h2 := cs_mul hx hd.2 le.toNat
  rw [show ((le.toNat : Nat) : Int) = le by omega] at h2
  have h0 : 0 ≤ le * x := Int.mul_nonneg hl hx
  have h3 := cs_add (a := x + 1) (b := le * x) (d := d) (by omega) h0 hd.2
  rw [Int.add_mul, Int.one_mul, show le * x + x + 1 = x + 1 + le * x by omega]
  omega
theorem cs_rep {x d le mo : Int} (hx : 0 ≤ x) (hd : 0 ≤ d ∧ d ≤ 30) (hl : 0 ≤ le ∧ le ≤ mo) : mo * cs x d + (mo - le) * (2 * (d + 1)) ≤ cs (mo * x + mo - le) d := by
  have h2 := cs_mul hx hd.2 mo.toNat
  rw [show ((mo.toNat : Nat) : Int) = mo by omega] at h2
  have h4 := cs_ones hd (mo - le).toNat
  rw [show (((mo - le).toNat : Nat) : Int) = mo - le by omega] at h4
  have h0 : 0 ≤ mo * x := Int.mul_nonneg (by omega) hx
  have h3 := cs_add (a := mo * x) (b := mo - le) (d := d) h0 (by omega) hd.2
  rw [show mo * x + mo - le = mo * x + (mo - le) by omega]
  omega
theorem cs_top {z : Int} (h : 0 ≤ z ∧ z ≤ 400) : cs z 0 ≤ 24800 := by
  by_cases e : z = 0
  · rw [e, cs_0]; omega
  · rw [cs_p (by omega)]
    have := cex_c z 0
    have : ((30 : Int) - 0) * (31 - 0) = 930 := by decide
    omega
/-! rows of steps, new steps, old steps -/
def rokk (RO : Int → Int) (r m n : Int) : Prop := ∀ k : Int, 0 ≤ k → k < m → 0 ≤ RO (r + k) ∧ RO (r + k) < n
def rsm (RO RO2 : Int → Int) (r : Int) : Prop := ∀ j : Int, j < r → RO2 j = RO j
def sgn (T N W : Int → Int) (b n0 n : Int) : Prop := ∀ j : Int, n0 ≤ j → j < n → (0 ≤ T (b + j) ∧ T (b + j) ≤ 6) ∧ (1 ≤ T (b + j) → T (b + j) ≤ 5 → 0 ≤ N (b + j) ∧ N (b + j) < n) ∧ (T (b + j) = 3 → 0 ≤ W (b + j) ∧ W (b + j) < n) ∧ (T (b + j) = 4 → 0 ≤ W (b + j) ∧ W (b + j) < 20) ∧ (T (b + j) = 5 → 0 ≤ W (b + j) ∧ W (b + j) ≤ 5)
/-- steps below n, and those of other slots, are as they were -/
def stx (T N W CA CM T2 N2 W2 CA2 CM2 : Int → Int) (b n : Int) : Prop := ∀ j : Int, (j < b + n ∨ b + 12500 ≤ j) → T2 j = T j ∧ N2 j = N j ∧ W2 j = W j ∧ CA2 j = CA j ∧ CM2 j = CM j
def tka (T W CA CM SM SA RL RH CL CH : Int → Int) (b n sl cl ns : Int) : Prop := ∀ j : Int, 0 ≤ j → j < n → T (b + j) = 1 → (0 ≤ W (b + j) ∧ W (b + j) < ns) ∧ CM (b + j) = SM (W (b + j)) ∧ 600 * sl ≤ CA (b + j) ∧ CA (b + j) + CM (b + j) ≤ 600 * sl + cl ∧ ∀ i : Int, 0 ≤ i → i < CM (b + j) → CL (CA (b + j) + i) = RL (SA (W (b + j)) + i) ∧ CH (CA (b + j) + i) = RH (SA (W (b + j)) + i)
def sno (SN SN2 : Int → Int) (s : Int) : Prop := ∀ j : Int, ¬ j = s → SN2 j = SN j
section Steps
variable {T N W CA CM T2 N2 W2 CA2 CM2 T3 N3 W3 CA3 CM3 RO RO2 RO3 SN SN2 SN3 SM SA RL RH CL CH : Int → Int} {b n n0 n2 r m k v sl cl ns : Int}
theorem rokk_0 : rokk RO r 0 n := fun k a c => by omega
theorem rokk_w {m2 n3 : Int} (h : rokk RO r m n) (hm : m2 ≤ m) (hn : n ≤ n3) : rokk RO r m2 n3 := fun k a c => by have := h k a (by omega); omega
theorem rokk_s (h : rokk RO r m n) (hm : 0 ≤ m) (hv : 0 ≤ v ∧ v < n) : rokk (zu RO (r + m) v) r (m + 1) n := fun k a c => by
  by_cases e : k = m
  · subst e; rw [zu_self]; exact hv
  · rw [zu_ne (by omega)]; exact h k a (by omega)
theorem rokk_o {r2 : Int} (h : rokk RO r m n) (hs : rsm RO RO2 r2) (hr : r + m ≤ r2) : rokk RO2 r m n := fun k a c => by
  rw [hs _ (by omega)]; exact h k a c
theorem rsm_rf : rsm RO RO r := fun _ _ => rfl
theorem rsm_wr {i : Int} (h : rsm RO RO2 r) (hi : r ≤ i) : rsm RO (zu RO2 i v) r := fun j a => by rw [zu_ne (by omega)]; exact h j a
theorem rsm_tr {r2 : Int} (h : rsm RO RO2 r) (h2 : rsm RO2 RO3 r2) (hr : r ≤ r2) : rsm RO RO3 r := fun j a => by rw [h2 j (by omega), h j a]
theorem sgn_0 : sgn T N W b n n := fun j a c => by omega
theorem sgn_w {n3 : Int} (h : sgn T N W b n0 n) (hn : n ≤ n3) : ∀ j : Int, n0 ≤ j → j < n → (0 ≤ T (b + j) ∧ T (b + j) ≤ 6) ∧ (1 ≤ T (b + j) → T (b + j) ≤ 5 → 0 ≤ N (b + j) ∧ N (b + j) < n3) ∧ (T (b + j) = 3 → 0 ≤ W (b + j) ∧ W (b + j) < n3) ∧ (T (b + j) = 4 → 0 ≤ W (b + j) ∧ W (b + j) < 20) ∧ (T (b + j) = 5 → 0 ≤ W (b + j) ∧ W (b + j) ≤ 5) := fun j a c => by
  obtain ⟨t1, t2, t3, t4, t5⟩ := h j a c
  exact ⟨t1, fun x y => by have := t2 x y; omega, fun x => by have := t3 x; omega, t4, t5⟩
theorem sgn_add {k1 k2 k3 : Int} (h : sgn T N W b n0 n) (hk : 0 ≤ k1 ∧ k1 ≤ 6) (h2 : 1 ≤ k1 → k1 ≤ 5 → 0 ≤ k2 ∧ k2 < n + 1) (h3 : k1 = 3 → 0 ≤ k3 ∧ k3 < n + 1) (h4 : k1 = 4 → 0 ≤ k3 ∧ k3 < 20) (h5 : k1 = 5 → 0 ≤ k3 ∧ k3 ≤ 5) : sgn (zu T (b + n) k1) (zu N (b + n) k2) (zu W (b + n) k3) b n0 (n + 1) := fun j a c => by
  by_cases e : j = n
  · subst e; rw [zu_self, zu_self, zu_self]; exact ⟨hk, h2, h3, h4, h5⟩
  · rw [zu_ne (show b + j ≠ b + n by omega), zu_ne (show b + j ≠ b + n by omega), zu_ne (show b + j ≠ b + n by omega)]
    exact sgn_w h (by omega) j a (by omega)
/-- new steps stay good when more are made -/
theorem sgn_tr (h : sgn T N W b n0 n) (hx : stx T N W CA CM T2 N2 W2 CA2 CM2 b n) (h2 : sgn T2 N2 W2 b n n2) (hn : n ≤ n2) : sgn T2 N2 W2 b n0 n2 := fun j a c => by
  by_cases e : j < n
  · obtain ⟨e1, e2, e3, _, _⟩ := hx (b + j) (Or.inl (by omega))
    rw [e1, e2, e3]; exact sgn_w h hn j a e
  · exact h2 j (by omega) c
theorem stx_rf : stx T N W CA CM T N W CA CM b n := fun _ _ => ⟨rfl, rfl, rfl, rfl, rfl⟩
theorem stx_tr (h : stx T N W CA CM T2 N2 W2 CA2 CM2 b n) (h2 : stx T2 N2 W2 CA2 CM2 T3 N3 W3 CA3 CM3 b n2) (hn : n ≤ n2) : stx T N W CA CM T3 N3 W3 CA3 CM3 b n := fun j a => by
  obtain ⟨a1, a2, a3, a4, a5⟩ := h j a
  obtain ⟨b1, b2, b3, b4, b5⟩ := h2 j (by omega)
  exact ⟨b1.trans a1, b2.trans a2, b3.trans a3, b4.trans a4, b5.trans a5⟩
theorem stx_add {k1 k2 k3 : Int} (h : stx T N W CA CM T2 N2 W2 CA2 CM2 b n) (hn : n ≤ n2 ∧ n2 < 12500) : stx T N W CA CM (zu T2 (b + n2) k1) (zu N2 (b + n2) k2) (zu W2 (b + n2) k3) CA2 CM2 b n := fun j a => by
  have e : j ≠ b + n2 := by omega
  rw [zu_ne e, zu_ne e, zu_ne e]; exact h j a
theorem stx_tk {k3 k4 k5 : Int} (h : stx T N W CA CM T2 N2 W2 CA2 CM2 b n) (hn : n ≤ n2 ∧ n2 < 12500) : stx T N W CA CM T2 N2 (zu W2 (b + n2) k3) (zu CA2 (b + n2) k4) (zu CM2 (b + n2) k5) b n := fun j a => by
  have e : j ≠ b + n2 := by omega
  rw [zu_ne e, zu_ne e, zu_ne e]; exact h j a
theorem sno_rf {s : Int} : sno SN SN s := fun _ _ => rfl
theorem sno_wr {s : Int} (h : sno SN SN2 s) : sno SN (zu SN2 s v) s := fun j a => by rw [zu_ne a]; exact h j a
theorem sno_tr {s : Int} (h : sno SN SN2 s) (h2 : sno SN2 SN3 s) : sno SN SN3 s := fun j a => by rw [h2 j a, h j a]
theorem tka_add {k1 k2 k3 : Int} (h : tka T W CA CM SM SA RL RH CL CH b n sl cl ns) (hk : ¬ k1 = 1) : tka (zu T (b + n) k1) (zu W (b + n) k3) CA CM SM SA RL RH CL CH b (n + 1) sl cl ns := fun j a c => by
  by_cases e : j = n
  · subst e; rw [zu_self]; intro q; exact absurd q hk
  · rw [zu_ne (show b + j ≠ b + n by omega), zu_ne (show b + j ≠ b + n by omega)]; exact h j a (by omega)
end Steps
section Steps2
variable {T N W CA CM SM SA RL RH CL CH CL2 CH2 : Int → Int} {b n sl cl ns : Int}
theorem tka_old {v w : Int} (h : tka T W CA CM SM SA RL RH CL CH b n sl cl ns) : tka (zu T (b + n) v) (zu W (b + n) w) CA CM SM SA RL RH CL CH b n sl cl ns := fun j a c => by
  rw [zu_ne (show b + j ≠ b + n by omega), zu_ne (show b + j ≠ b + n by omega)]; exact h j a c
def ccx (CL CH CL2 CH2 : Int → Int) (sl c : Int) : Prop := ∀ j : Int, (j < 600 * sl + c ∨ 600 * sl + 600 ≤ j) → CL2 j = CL j ∧ CH2 j = CH j
theorem ccx.rf {c : Int} : ccx CL CH CL CH sl c := fun _ _ => ⟨rfl, rfl⟩
theorem ccx.tr {CL3 CH3 : Int → Int} {c c2 : Int} (h : ccx CL CH CL2 CH2 sl c) (h2 : ccx CL2 CH2 CL3 CH3 sl c2) (hc : c ≤ c2) : ccx CL CH CL3 CH3 sl c := fun j a => by
  obtain ⟨a1, a2⟩ := h j a
  obtain ⟨b1, b2⟩ := h2 j (by omega)
  exact ⟨b1.trans a1, b2.trans a2⟩
theorem tka_new {s fm cl2 : Int} (h : tka T W CA CM SM SA RL RH CL CH b n sl cl ns) (hq : ccx CL CH CL2 CH2 sl cl) (hc : cl ≤ cl2) (hs : 0 ≤ s ∧ s < ns) (h1 : 600 * sl ≤ fm) (h2 : fm + SM s ≤ 600 * sl + cl2) (h3 : ∀ i : Int, 0 ≤ i → i < SM s → CL2 (fm + i) = RL (SA s + i) ∧ CH2 (fm + i) = RH (SA s + i)) : tka (zu T (b + n) 1) (zu W (b + n) s) (zu CA (b + n) fm) (zu CM (b + n) (SM s)) SM SA RL RH CL2 CH2 b (n + 1) sl cl2 ns := fun j a c => by
  by_cases e : j = n
  · subst e; rw [zu_self, zu_self, zu_self, zu_self]; intro _; exact ⟨hs, rfl, h1, h2, h3⟩
  · have e2 : b + j ≠ b + n := by omega
    rw [zu_ne e2, zu_ne e2, zu_ne e2, zu_ne e2]
    intro q
    obtain ⟨t1, t2, t3, t4, t5⟩ := h j a (by omega) q
    refine ⟨t1, t2, t3, by omega, fun i i0 i1 => ?_⟩
    obtain ⟨c1, c2⟩ := hq (CA (b + j) + i) (Or.inl (by omega))
    rw [c1, c2]
    exact t5 i i0 i1
/-- classes that are copied -/
def cpq (CL0 CH0 CL CH RL RH : Int → Int) (fm a j : Int) : Prop := (∀ i : Int, (i < fm ∨ fm + j ≤ i) → CL i = CL0 i ∧ CH i = CH0 i) ∧ ∀ i : Int, 0 ≤ i → i < j → CL (fm + i) = RL (a + i) ∧ CH (fm + i) = RH (a + i)
theorem cpq_0 {fm a : Int} : cpq CL CH CL CH RL RH fm a 0 := ⟨fun _ _ => ⟨rfl, rfl⟩, fun i a b => by omega⟩
theorem cpq_s {CL0 CH0 : Int → Int} {fm a j : Int} (h : cpq CL0 CH0 CL CH RL RH fm a j) (hj : 0 ≤ j) : cpq CL0 CH0 (zu CL (fm + j) (RL (a + j))) (zu CH (fm + j) (RH (a + j))) RL RH fm a (j + 1) := ⟨fun i q => by
  rw [zu_ne (show i ≠ fm + j by omega), zu_ne (show i ≠ fm + j by omega)]
  exact h.1 i (by omega), fun i i0 i1 => by
  by_cases e : i = j
  · subst e; rw [zu_self, zu_self]; exact ⟨rfl, rfl⟩
  · rw [zu_ne (show fm + i ≠ fm + j by omega), zu_ne (show fm + i ≠ fm + j by omega)]
    exact h.2 i i0 (by omega)⟩
theorem cpq.cc {CL0 CH0 : Int → Int} {fm a j : Int} (h : cpq CL0 CH0 CL CH RL RH fm a j) (hf : fm = 600 * sl + cl) (hj : cl + j ≤ 600) : ccx CL0 CH0 CL CH sl cl := fun i q => h.1 i (by omega)
def clq (CL CH RL RH SA SM : Int → Int) (s fm e : Int) : Prop := fm = e ∨ ∀ i : Int, 0 ≤ i → i < SM s → CL (fm + i) = RL (SA s + i) ∧ CH (fm + i) = RH (SA s + i)
theorem tka_w {cl2 : Int} (h : tka T W CA CM SM SA RL RH CL CH b n sl cl ns) (hc : cl ≤ cl2) : tka T W CA CM SM SA RL RH CL CH b n sl cl2 ns := fun j a c q => by
  obtain ⟨t1, t2, t3, t4, t5⟩ := h j a c q
  exact ⟨t1, t2, t3, by omega, t5⟩
theorem sgn_1 {k2 k3 : Int} (h2 : 0 ≤ k2 ∧ k2 < n + 1) : sgn (zu T (b + n) 1) (zu N (b + n) k2) (zu W (b + n) k3) b n (n + 1) := sgn_add sgn_0 (by decide) (fun _ _ => h2) (fun h => absurd h (by decide)) (fun h => absurd h (by decide)) (fun h => absurd h (by decide))
end Steps2
section Lists2
variable {K O Fi Be Le Mo Z SM RF RL AF AL SD : Int → Int} {N ns lv : Int} {pa po MN dl st ht hh : Int → Int} {PS : Int → Int → Int} {T : Int}
theorem rtq_p {c k q : Int} (h : rtq N pa po MN c k q) (hq : q < MN c) : (0 ≤ k ∧ k < N) ∧ pa k = c ∧ q = po k := by
  rcases h with t | t
  · omega
  · exact t
/-- where a list is gone through: not further than there are nodes -/
theorem rtq_n {c k q : Int} (hG : rtG K O Fi Be Le Mo Z SM RF RL AF AL SD N ns lv pa po MN dl st ht hh PS T) (h : rtq N pa po MN c k q) (hk : 0 ≤ k) (hc : ¬ c = -1) : q < N := by
  rcases h with t | ⟨t1, t2, t3⟩
  · omega
  · have a := (hG.2.1 k t1.1 t1.2).2.1.1
    have b := a.2.2 (by omega)
    have g := hG.1.2.1
    omega
end Lists2
/-! frames of work: those below w are as they were -/
def fsm (WP WD WT WG WS WP2 WD2 WT2 WG2 WS2 : Int → Int) (w : Int) : Prop := ∀ j : Int, j < w → WP2 j = WP j ∧ WD2 j = WD j ∧ WT2 j = WT j ∧ WG2 j = WG j ∧ WS2 j = WS j
theorem fsm_rf {WP WD WT WG WS : Int → Int} {w : Int} : fsm WP WD WT WG WS WP WD WT WG WS w := fun _ _ => ⟨rfl, rfl, rfl, rfl, rfl⟩
theorem fsm_tr {WP WD WT WG WS WP2 WD2 WT2 WG2 WS2 WP3 WD3 WT3 WG3 WS3 : Int → Int} {w w2 : Int} (h : fsm WP WD WT WG WS WP2 WD2 WT2 WG2 WS2 w) (h2 : fsm WP2 WD2 WT2 WG2 WS2 WP3 WD3 WT3 WG3 WS3 w2) (hw : w ≤ w2) : fsm WP WD WT WG WS WP3 WD3 WT3 WG3 WS3 w := fun j a => by
  obtain ⟨a1, a2, a3, a4, a5⟩ := h j a
  obtain ⟨b1, b2, b3, b4, b5⟩ := h2 j (by omega)
  exact ⟨b1.trans a1, b2.trans a2, b3.trans a3, b4.trans a4, b5.trans a5⟩
/-- a step of ours -/
def stR (T N W : Int → Int) (sl lo hi x k y z : Int) : Prop := (lo ≤ x ∧ x < hi) ∧ T (12500 * sl + x) = k ∧ N (12500 * sl + x) = y ∧ W (12500 * sl + x) = z
def lpR (T N W : Int → Int) (sl lo hi lz x y z : Int) : Prop := (lo ≤ x ∧ x < hi) ∧ T (12500 * sl + x) = 3 ∧ (lz = 1 → N (12500 * sl + x) = z ∧ W (12500 * sl + x) = y) ∧ (¬ lz = 1 → N (12500 * sl + x) = y ∧ W (12500 * sl + x) = z)
section Rx
variable {T N W CA CM CL CH T2 N2 W2 CA2 CM2 CL2 CH2 : Int → Int} {sl lo hi c lo2 hi2 c2 u f x u1 f1 : Int} {v w : Sn}
theorem ag7.tr {T3 N3 W3 CA3 CM3 CL3 CH3 : Int → Int} (a : ag7 T N W CA CM CL CH T2 N2 W2 CA2 CM2 CL2 CH2 sl lo hi c) (b : ag7 T2 N2 W2 CA2 CM2 CL2 CH2 T3 N3 W3 CA3 CM3 CL3 CH3 sl lo2 hi2 c2) (h1 : lo2 ≤ lo) (h2 : hi ≤ hi2) (h3 : c ≤ c2) : ag7 T N W CA CM CL CH T3 N3 W3 CA3 CM3 CL3 CH3 sl lo hi c := ⟨fun s p q => by
  obtain ⟨a1, a2, a3, a4, a5⟩ := a.1 s p q
  obtain ⟨b1, b2, b3, b4, b5⟩ := b.1 s (by omega) (by omega)
  exact ⟨b1.trans a1, b2.trans a2, b3.trans a3, b4.trans a4, b5.trans a5⟩, fun j p q => by
  obtain ⟨a1, a2⟩ := a.2 j p q
  obtain ⟨b1, b2⟩ := b.2 j p (by omega)
  exact ⟨b1.trans a1, b2.trans a2⟩⟩
theorem RX.up (h : RX T N W CA CM CL CH sl lo hi c u f x v) (a : ag7 T N W CA CM CL CH T2 N2 W2 CA2 CM2 CL2 CH2 sl lo hi c) (h1 : lo2 ≤ lo) (h2 : hi ≤ hi2) (h3 : c ≤ c2) : RX T2 N2 W2 CA2 CM2 CL2 CH2 sl lo2 hi2 c2 u f x v := fun _ _ _ _ _ _ _ b z => h _ _ _ _ _ _ _ (a.tr b h1 h2 h3) z
theorem RX_z (h : nzS v) : RX T N W CA CM CL CH sl lo hi c u f f v := fun _ _ _ _ _ _ _ _ _ => by
  rw [h.1]
  exact Rl_w Rl_I h.2
theorem stR.ag {k y z : Int} (h : stR T N W sl lo hi x k y z) (a : ag7 T N W CA CM CL CH T2 N2 W2 CA2 CM2 CL2 CH2 sl lo hi c) : T2 (12500 * sl + x) = k ∧ N2 (12500 * sl + x) = y ∧ W2 (12500 * sl + x) = z := by
  obtain ⟨h0, h1, h2, h3⟩ := h
  obtain ⟨a1, a2, a3, _, _⟩ := a.1 x h0.1 h0.2
  exact ⟨a1.trans h1, a2.trans h2, a3.trans h3⟩
theorem lpR.ag {lz y z : Int} (h : lpR T N W sl lo hi lz x y z) (a : ag7 T N W CA CM CL CH T2 N2 W2 CA2 CM2 CL2 CH2 sl lo hi c) : lpH (tgR T2 (12500 * sl)) (adR N2 (12500 * sl)) (bdR T2 W2 (12500 * sl)) (lz = 1) x y z := by
  obtain ⟨h0, h1, h2, h3⟩ := h
  obtain ⟨a1, a2, a3, _, _⟩ := a.1 x h0.1 h0.2
  have t : T2 (12500 * sl + x) = 3 := a1.trans h1
  have e : bdR T2 W2 (12500 * sl) x = W2 (12500 * sl + x) := bdR_n (by omega)
  refine ⟨tgR_3 t, fun q => ⟨a2.trans (h2 q).1, ?_⟩, fun q => ⟨a2.trans (h3 q).1, ?_⟩⟩
  · rw [e]; exact a3.trans (h2 q).2
  · rw [e]; exact a3.trans (h3 q).2
theorem RX_S {S : Int → Prop} (h0 : lo ≤ x ∧ x < hi) (ht : T (12500 * sl + x) = 1) (hn : N (12500 * sl + x) = u) (hc : 600 * sl ≤ CA (12500 * sl + x) ∧ CA (12500 * sl + x) + CM (12500 * sl + x) ≤ 600 * sl + c) (hm : ∀ y : Int, (∃ j : Int, (CA (12500 * sl + x) ≤ j ∧ j < CA (12500 * sl + x) + CM (12500 * sl + x)) ∧ CL j ≤ y ∧ y ≤ CH j) ↔ S y) : RX T N W CA CM CL CH sl lo hi c u f x (mnS S) := fun T2 N2 W2 CA2 CM2 CL2 CH2 a _ => by
  obtain ⟨a1, a2, a3, a4, a5⟩ := a.1 x h0.1 h0.2
  refine Rl_S (S := S) (tgR_1 (a1.trans ht)) (a2.trans hn) (fun y => ?_)
  rw [← hm y]
  show (∃ j : Int, (CA2 (12500 * sl + x) ≤ j ∧ j < CA2 (12500 * sl + x) + CM2 (12500 * sl + x)) ∧ CL2 j ≤ y ∧ y ≤ CH2 j) ↔ _
  rw [a4, a5]
  constructor
  · rintro ⟨j, j0, j1⟩
    obtain ⟨b1, b2⟩ := a.2 j (by omega) (by omega)
    rw [b1, b2] at j1
    exact ⟨j, j0, j1⟩
  · rintro ⟨j, j0, j1⟩
    obtain ⟨b1, b2⟩ := a.2 j (by omega) (by omega)
    exact ⟨j, j0, by rw [b1, b2]; exact j1⟩
theorem RX_A {z : Int} (h : stR T N W sl lo hi x 2 u z) : RX T N W CA CM CL CH sl lo hi c u f x mnA := fun _ _ _ _ _ _ _ a _ => by
  obtain ⟨t1, t2, _⟩ := h.ag a
  exact Rl_A (tgR_2 t1) t2
theorem RX_Q {q : Int} (h : stR T N W sl lo hi x 5 f q) : RX T N W CA CM CL CH sl lo hi c u f x (mnQ (asq q)) := fun _ _ _ _ _ _ _ a _ => by
  obtain ⟨t1, t2, t3⟩ := h.ag a
  exact Rl_Q (tgR_5 t1) t2 ((bdR_5 t1).trans (by rw [t3]))
theorem RX_O {x1 x2 : Int} (h : stR T N W sl lo hi x 3 x1 x2) (h1 : RX T N W CA CM CL CH sl lo hi c u f x1 v) (h2 : RX T N W CA CM CL CH sl lo hi c u f x2 w) : RX T N W CA CM CL CH sl lo hi c u f x (mnO v w) := fun _ _ _ _ _ _ _ a z => by
  obtain ⟨t1, t2, t3⟩ := h.ag a
  exact Rl_O (tgR_3 t1) t2 ((bdR_n (by omega)).trans t3) (h1 _ _ _ _ _ _ _ a z) (h2 _ _ _ _ _ _ _ a z)
theorem RX_C (h1 : RX T N W CA CM CL CH sl lo hi c u1 f1 x v) (h2 : RX T N W CA CM CL CH sl lo hi c u f f1 w) (h3 : RX T N W CA CM CL CH sl lo hi c u u u1 w) : RX T N W CA CM CL CH sl lo hi c u f x (mnC v w) := fun _ _ _ _ _ _ _ a z => Rl_C v.2 w.2 (h1 _ _ _ _ _ _ _ a z) (h2 _ _ _ _ _ _ _ a z) (h3 _ _ _ _ _ _ _ a z)
theorem RX_G {k y : Int} (hk : ¬ k = 0) (hx : stR T N W sl lo hi x 4 y (2 * k)) (hu : stR T N W sl lo hi u1 4 u (2 * k + 1)) (hf : stR T N W sl lo hi f1 4 f (2 * k + 1)) (h : RX T N W CA CM CL CH sl lo hi c u1 f1 y v) : RX T N W CA CM CL CH sl lo hi c u f x (mnG k v) := fun _ _ _ _ _ _ _ a z => by
  have e : (mnG k v).1.1 = smG k v.1.1 := if_neg hk
  obtain ⟨x1, x2, x3⟩ := hx.ag a
  obtain ⟨y1, y2, y3⟩ := hu.ag a
  obtain ⟨z1, z2, z3⟩ := hf.ag a
  rw [e]
  exact Rl_G v.2 ⟨tgR_4 x1, x2, (bdR_n (by omega)).trans x3⟩ ⟨tgR_4 y1, y2, (bdR_n (by omega)).trans y3⟩ ⟨tgR_4 z1, z2, (bdR_n (by omega)).trans z3⟩ (h _ _ _ _ _ _ _ a z)
theorem RX_G0 (h : RX T N W CA CM CL CH sl lo hi c u f x v) : RX T N W CA CM CL CH sl lo hi c u f x (mnG 0 v) := fun _ _ _ _ _ _ _ a z => by
  have e : (mnG 0 v).1.1 = v.1.1 := by
    show (if (0 : Int) = 0 then v.1.1 else smG 0 v.1.1) = v.1.1
    exact if_pos rfl
  rw [e]
  exact h _ _ _ _ _ _ _ a z
theorem RX_T {lz r y y2 : Int} (hr : lpR T N W sl lo hi lz r y u) (hy : RX T N W CA CM CL CH sl lo hi c r 1 y v) (hx : lpR T N W sl lo hi lz x y2 f) (hy2 : RX T N W CA CM CL CH sl lo hi c r 1 y2 v) : RX T N W CA CM CL CH sl lo hi c u f x (mnR 0 1000 lz v) := fun _ _ _ _ _ _ _ a z => by
  have e : (mnR 0 1000 lz v).1.1 = smT (lz = 1) v.1.1 := by
    show smR 0 1000 lz v.1.1 = _
    unfold smR
    rw [if_pos rfl]
    rfl
  rw [e]
  exact Rl_w (Rl_T v.2 (hr.ag a) (hy _ _ _ _ _ _ _ a z) (fun _ => tgR_6 z) (hx.ag a) (hy2 _ _ _ _ _ _ _ a z) (fun _ => tgR_6 z)) (fun q => absurd q.1 (by decide))
theorem RX_U0 {lz : Int} : RX T N W CA CM CL CH sl lo hi c u f f (mnU lz v 0) := fun _ _ _ _ _ _ _ _ _ => Rl_I
theorem RX_U {lz eu ef y : Int} {m m2 : Nat} (hm : m2 = m + 1) (h1 : RX T N W CA CM CL CH sl lo hi c eu ef y v) (h2 : RX T N W CA CM CL CH sl lo hi c u f ef (mnU lz v m)) (h3 : RX T N W CA CM CL CH sl lo hi c u u eu (mnU lz v m)) (hx : lpR T N W sl lo hi lz x y f) : RX T N W CA CM CL CH sl lo hi c u f x (mnU lz v m2) := fun _ _ _ _ _ _ _ a z => by
  subst hm
  exact Rl_U v.2 (h1 _ _ _ _ _ _ _ a z) (h2 _ _ _ _ _ _ _ a z) (h3 _ _ _ _ _ _ _ a z) (hx.ag a)
theorem RX_N0 (h : RX T N W CA CM CL CH sl lo hi c u f x w) : RX T N W CA CM CL CH sl lo hi c u f x (mnN v w 0) := fun _ _ _ _ _ _ _ a z => by
  have e : (mnN v w 0).1.2.1 = w.1.2.1 := by
    show (if (0 : Nat) = 0 then w.1.2.1 else v.1.2.1) = w.1.2.1
    exact if_pos rfl
  rw [e]
  exact h _ _ _ _ _ _ _ a z
theorem RX_N {m m2 : Nat} (hm : m2 = m + 1) (h1 : RX T N W CA CM CL CH sl lo hi c u1 f1 x v) (h2 : RX T N W CA CM CL CH sl lo hi c u f f1 (mnN v w m)) (h3 : RX T N W CA CM CL CH sl lo hi c u u u1 (mnN v w m)) : RX T N W CA CM CL CH sl lo hi c u f x (mnN v w m2) := fun _ _ _ _ _ _ _ a z => by
  subst hm
  have e : (mnN v w (m + 1)).1.2.1 = v.1.2.1 := by
    show (if m + 1 = 0 then w.1.2.1 else v.1.2.1) = v.1.2.1
    exact if_neg (by omega)
  rw [e]
  exact Rl_w (Rl_C v.2 (gd_N v.2 w.2 m) (h1 _ _ _ _ _ _ _ a z) (h2 _ _ _ _ _ _ _ a z) (h3 _ _ _ _ _ _ _ a z)) Or.inl
theorem RX_re {l lz : Int} (hl : 0 ≤ l) (h : RX T N W CA CM CL CH sl lo hi c u f x (mnN v (mnR 0 1000 lz v) l.toNat)) : RX T N W CA CM CL CH sl lo hi c u f x (mnR l 1000 lz v) := fun _ _ _ _ _ _ _ a z => by
  have e : (mnR l 1000 lz v).1.1 = smN v.1.1 (smR 0 1000 lz v.1.1) l.toNat := by
    show smR l 1000 lz v.1.1 = _
    unfold smR
    rw [if_pos rfl, if_pos rfl]
    rfl
  rw [e]
  refine Rl_w (h _ _ _ _ _ _ _ a z) (fun q => ?_)
  show (if l.toNat = 0 then _ else v.1.2.1)
  rw [if_neg (by have := q.1; omega)]
  exact q.2
theorem RX_rm {l m lz : Int} (hl : 0 ≤ l) (hm : ¬ m = 1000) (h : RX T N W CA CM CL CH sl lo hi c u f x (mnN v (mnU lz v (m - l).toNat) l.toNat)) : RX T N W CA CM CL CH sl lo hi c u f x (mnR l m lz v) := fun _ _ _ _ _ _ _ a z => by
  have e : (mnR l m lz v).1.1 = smN v.1.1 (smU (lz = 1) v.1.1 (m - l).toNat) l.toNat := by
    show smR l m lz v.1.1 = _
    unfold smR
    rw [if_neg hm]
  rw [e]
  refine Rl_w (h _ _ _ _ _ _ _ a z) (fun q => ?_)
  show (if l.toNat = 0 then _ else v.1.2.1)
  rw [if_neg (by have := q.1; omega)]
  exact q.2
end Rx
/-! rows of steps -/
def rE (T N W RO : Int → Int) (sl n0 n r m k : Int) (A C : Int → Int) : Prop := ∀ i : Int, 0 ≤ i → i < m → stR T N W sl n0 n (RO (r + i)) k (A i) (C i)
def rEl (T N W RO : Int → Int) (sl n0 n r m lz : Int) (A C : Int → Int) : Prop := ∀ i : Int, 0 ≤ i → i < m → lpR T N W sl n0 n lz (RO (r + i)) (A i) (C i)
def rAl (RO : Int → Int) (r m x : Int) : Prop := ∀ i : Int, 0 ≤ i → i < m → RO (r + i) = x
def clx (N W RO : Int → Int) (sl n1 m lz g to : Int) : Prop := ∀ i : Int, 0 ≤ i → i < m → (lz = 1 → N (12500 * sl + (n1 + i)) = RO (to + i) ∧ W (12500 * sl + (n1 + i)) = RO (g + i)) ∧ (¬ lz = 1 → N (12500 * sl + (n1 + i)) = RO (g + i) ∧ W (12500 * sl + (n1 + i)) = RO (to + i))
def RRo (T N W CA CM CL CH RO : Int → Int) (sl lo hi c dp to g : Int) (v : Sn) : Prop := ∀ i : Int, 0 ≤ i → i ≤ dp → RX T N W CA CM CL CH sl lo hi c (RO (to + dp)) (RO (to + i)) (RO (g + i)) v
section Rows
variable {T N W CA CM CL CH RO T2 N2 W2 CA2 CM2 CL2 CH2 RO2 A C : Int → Int} {sl lo hi c lo2 hi2 c2 dp to g r m k n n0 x y lz t1 r0 : Int} {v w : Sn}
theorem rE_0 : rE T N W RO sl n0 n r 0 k A C := fun i a b => by omega
theorem rE_add (h : rE T N W RO sl n0 n r m k A C) (hn : n0 ≤ n) (hA : x = A m) (hC : y = C m) (hm : 0 ≤ m) : rE (zu T (12500 * sl + n) k) (zu N (12500 * sl + n) x) (zu W (12500 * sl + n) y) (zu RO (r + m) n) sl n0 (n + 1) r (m + 1) k A C := fun i i0 i1 => by
  by_cases e : i = m
  · subst e
    rw [zu_self]
    exact ⟨⟨hn, by omega⟩, zu_self _ _ _, by rw [zu_self]; exact hA, by rw [zu_self]; exact hC⟩
  · rw [zu_ne (show r + i ≠ r + m by omega)]
    obtain ⟨s0, s1, s2, s3⟩ := h i i0 (by omega)
    have z : 12500 * sl + RO (r + i) ≠ 12500 * sl + n := by omega
    exact ⟨⟨s0.1, by omega⟩, by rw [zu_ne z]; exact s1, by rw [zu_ne z]; exact s2, by rw [zu_ne z]; exact s3⟩
theorem rE_same (h : rE T N W RO sl n0 n r m k A C) (hm : 1 ≤ m) (hx : x = RO (r + m - 1)) (hA : A m = A (m - 1)) (hC : C m = C (m - 1)) : rE T N W (zu RO (r + m) x) sl n0 n r (m + 1) k A C := fun i i0 i1 => by
  by_cases e : i = m
  · subst e
    rw [zu_self, hA, hC, hx, show r + i - 1 = r + (i - 1) by omega]
    exact h (i - 1) (by omega) (by omega)
  · rw [zu_ne (show r + i ≠ r + m by omega)]
    exact h i i0 (by omega)
theorem rE.ro (h : rE T N W RO sl n0 n r m k A C) (hs : rsm RO RO2 r0) (hr : r + m ≤ r0) : rE T N W RO2 sl n0 n r m k A C := fun i i0 i1 => by
  rw [hs (r + i) (by omega)]
  exact h i i0 i1
theorem rE.cg {A2 C2 : Int → Int} (h : rE T N W RO sl n0 n r m k A C) (hA : ∀ i : Int, 0 ≤ i → i < m → A2 i = A i) (hC : ∀ i : Int, 0 ≤ i → i < m → C2 i = C i) : rE T N W RO sl n0 n r m k A2 C2 := fun i i0 i1 => by
  rw [hA i i0 i1, hC i i0 i1]
  exact h i i0 i1
theorem rEl_0 (h : rE T N W RO sl n0 n r m 3 A C) (hz : ¬ lz = 1) : rEl T N W RO sl n0 n r m lz A C := fun i i0 i1 => by
  obtain ⟨s0, s1, s2, s3⟩ := h i i0 i1
  exact ⟨s0, s1, fun q => absurd q hz, fun _ => ⟨s2, s3⟩⟩
theorem rEl_1 (h : rE T N W RO sl n0 n r m 3 C A) (hz : lz = 1) : rEl T N W RO sl n0 n r m lz A C := fun i i0 i1 => by
  obtain ⟨s0, s1, s2, s3⟩ := h i i0 i1
  exact ⟨s0, s1, fun _ => ⟨s2, s3⟩, fun q => absurd hz q⟩
theorem rAl_0 : rAl RO r 0 x := fun i a b => by omega
theorem rAl_s (h : rAl RO r m x) (hm : 0 ≤ m) (hy : y = x) : rAl (zu RO (r + m) y) r (m + 1) x := fun i i0 i1 => by
  by_cases e : i = m
  · subst e; rw [zu_self]; exact hy
  · rw [zu_ne (show r + i ≠ r + m by omega)]; exact h i i0 (by omega)
theorem rAl_wr {i : Int} (h : rAl RO r m x) (hi : r + m ≤ i) : rAl (zu RO i y) r m x := fun j j0 j1 => by
  rw [zu_ne (show r + j ≠ i by omega)]; exact h j j0 j1
theorem rAl.ro (h : rAl RO r m x) (hs : rsm RO RO2 r0) (hr : r + m ≤ r0) : rAl RO2 r m x := fun i i0 i1 => by
  rw [hs (r + i) (by omega)]; exact h i i0 i1
theorem clx_0 : clx N W RO sl n 0 lz g to := fun i a b => by omega
theorem clx_s (h : clx N W RO sl n m lz g to) (hm : 0 ≤ m) (hx : (lz = 1 → x = RO (to + m) ∧ y = RO (g + m)) ∧ (¬ lz = 1 → x = RO (g + m) ∧ y = RO (to + m))) : clx (zu N (12500 * sl + (n + m)) x) (zu W (12500 * sl + (n + m)) y) RO sl n (m + 1) lz g to := fun i i0 i1 => by
  by_cases e : i = m
  · subst e; rw [zu_self, zu_self]; exact hx
  · have z : 12500 * sl + (n + i) ≠ 12500 * sl + (n + m) := by omega
    rw [zu_ne z, zu_ne z]; exact h i i0 (by omega)
/-- steps and classes that stay -/
theorem ag7_of {b0 : Int} (h : stx T N W CA CM T2 N2 W2 CA2 CM2 (12500 * sl) n) (q : ccx CL CH CL2 CH2 sl b0) (hn : hi ≤ n) (hc : c ≤ b0) : ag7 T N W CA CM CL CH T2 N2 W2 CA2 CM2 CL2 CH2 sl lo hi c := ⟨fun s _ s1 => h (12500 * sl + s) (Or.inl (by omega)), fun j _ j1 => q j (Or.inl (by omega))⟩
theorem RRo.up (h : RRo T N W CA CM CL CH RO sl lo hi c dp to g v) (a : ag7 T N W CA CM CL CH T2 N2 W2 CA2 CM2 CL2 CH2 sl lo hi c) (hr : rsm RO RO2 r0) (ht : to + dp < r0 ∧ g + dp < r0) (h1 : lo2 ≤ lo) (h2 : hi ≤ hi2) (h3 : c ≤ c2) : RRo T2 N2 W2 CA2 CM2 CL2 CH2 RO2 sl lo2 hi2 c2 dp to g v := fun i i0 i1 => by
  rw [hr (to + dp) (by omega), hr (to + i) (by omega), hr (g + i) (by omega)]
  exact (h i i0 i1).up a h1 h2 h3
theorem RRo_z (h : nzS v) : RRo T N W CA CM CL CH RO sl lo hi c dp to to v := fun _ _ _ => RX_z h
theorem RRo_C (h1 : RRo T N W CA CM CL CH RO sl lo hi c dp t1 g v) (h2 : RRo T N W CA CM CL CH RO sl lo hi c dp to t1 w) (hd : 0 ≤ dp) : RRo T N W CA CM CL CH RO sl lo hi c dp to g (mnC v w) := fun i i0 i1 => RX_C (h1 i i0 i1) (h2 i i0 i1) (h2 dp hd (Int.le_refl _))
theorem RRo_Q {q : Int} (h : rE T N W RO sl lo hi g (dp + 1) 5 (fun i => RO (to + i)) (fun _ => q)) : RRo T N W CA CM CL CH RO sl lo hi c dp to g (mnQ (asq q)) := fun i i0 i1 => RX_Q (h i i0 (by omega))
theorem RRo_A {s z : Int} (h : stR T N W sl lo hi s 2 (RO (to + dp)) z) (ha : rAl RO g (dp + 1) s) : RRo T N W CA CM CL CH RO sl lo hi c dp to g mnA := fun i i0 i1 => by
  rw [ha i i0 (by omega)]
  exact RX_A h
theorem RRo_O {a b : Int} (h : rE T N W RO sl lo hi g (dp + 1) 3 (fun i => RO (a + i)) (fun i => RO (b + i))) (h1 : RRo T N W CA CM CL CH RO sl lo hi c dp to a v) (h2 : RRo T N W CA CM CL CH RO sl lo hi c dp to b w) : RRo T N W CA CM CL CH RO sl lo hi c dp to g (mnO v w) := fun i i0 i1 => RX_O (h i i0 (by omega)) (h1 i i0 i1) (h2 i i0 i1)
theorem RRo_G {t2 a q : Int} (hq : ¬ q = 0) (h1 : rE T N W RO sl lo hi t2 (dp + 1) 4 (fun i => RO (to + i)) (fun _ => 2 * q + 1)) (h : RRo T N W CA CM CL CH RO sl lo hi c dp t2 a v) (h2 : rE T N W RO sl lo hi g (dp + 1) 4 (fun i => RO (a + i)) (fun _ => 2 * q)) (hd : 0 ≤ dp) : RRo T N W CA CM CL CH RO sl lo hi c dp to g (mnG q v) := fun i i0 i1 => RX_G hq (h2 i i0 (by omega)) (h1 dp hd (by omega)) (h1 i i0 (by omega)) (h i i0 i1)
theorem RRo_G0 (h : RRo T N W CA CM CL CH RO sl lo hi c dp to g v) : RRo T N W CA CM CL CH RO sl lo hi c dp to g (mnG 0 v) := fun i i0 i1 => RX_G0 (h i i0 i1)
/-- a loop: g its heads, a the body's row behind the dead -/
theorem RRo_T {a b : Int} (hg : rEl T N W RO sl lo hi g (dp + 1) lz (fun i => RO (a + i)) (fun i => RO (to + i))) (h : RRo T N W CA CM CL CH RO sl lo hi c (dp + 1) b a v) (hb : rAl RO b (dp + 1) 1) (he : RO (b + (dp + 1)) = RO (g + dp)) (hd : 0 ≤ dp) : RRo T N W CA CM CL CH RO sl lo hi c dp to g (mnR 0 1000 lz v) := fun i i0 i1 => by
  have p := h dp hd (by omega)
  have q := h i i0 (by omega)
  rw [he, hb dp hd (by omega)] at p
  rw [he, hb i i0 (by omega)] at q
  exact RX_T (hg dp hd (by omega)) p (hg i i0 (by omega)) q
theorem RRo_U0 : RRo T N W CA CM CL CH RO sl lo hi c dp to to (mnU lz v 0) := fun _ _ _ => RX_U0
theorem RRo_U {a b : Int} {j j2 : Nat} (hj : j2 = j + 1) (hg : rEl T N W RO sl lo hi g (dp + 1) lz (fun i => RO (a + i)) (fun i => RO (to + i))) (h : RRo T N W CA CM CL CH RO sl lo hi c dp b a v) (h2 : RRo T N W CA CM CL CH RO sl lo hi c dp to b (mnU lz v j)) (hd : 0 ≤ dp) : RRo T N W CA CM CL CH RO sl lo hi c dp to g (mnU lz v j2) := fun i i0 i1 => RX_U hj (h i i0 i1) (h2 i i0 i1) (h2 dp hd (Int.le_refl _)) (hg i i0 (by omega))
theorem RRo_N0 (h : RRo T N W CA CM CL CH RO sl lo hi c dp to g w) : RRo T N W CA CM CL CH RO sl lo hi c dp to g (mnN v w 0) := fun i i0 i1 => RX_N0 (h i i0 i1)
theorem RRo_N {b : Int} {j j2 : Nat} (hj : j2 = j + 1) (h : RRo T N W CA CM CL CH RO sl lo hi c dp b g v) (h2 : RRo T N W CA CM CL CH RO sl lo hi c dp to b (mnN v w j)) (hd : 0 ≤ dp) : RRo T N W CA CM CL CH RO sl lo hi c dp to g (mnN v w j2) := fun i i0 i1 => RX_N hj (h i i0 i1) (h2 i i0 i1) (h2 dp hd (Int.le_refl _))
theorem RRo_re {l : Int} (hl : 0 ≤ l) (h : RRo T N W CA CM CL CH RO sl lo hi c dp to g (mnN v (mnR 0 1000 lz v) l.toNat)) : RRo T N W CA CM CL CH RO sl lo hi c dp to g (mnR l 1000 lz v) := fun i i0 i1 => RX_re hl (h i i0 i1)
theorem RRo_rm {l q : Int} (hl : 0 ≤ l) (hq : ¬ q = 1000) (h : RRo T N W CA CM CL CH RO sl lo hi c dp to g (mnN v (mnU lz v (q - l).toNat) l.toNat)) : RRo T N W CA CM CL CH RO sl lo hi c dp to g (mnR l q lz v) := fun i i0 i1 => RX_rm hl hq (h i i0 i1)
theorem RRo.e (h : RRo T N W CA CM CL CH RO sl lo hi c dp to g v) (e : v = w) : RRo T N W CA CM CL CH RO sl lo hi c dp to g w := by rw [← e]; exact h
end Rows
/-! nodes by their place -/
def nxB (Fi Be : Int → Int) (x : Int) : Nat → Int
  | 0 => Fi x
  | q + 1 => Be (nxB Fi Be x q)
def nthI (Fi Be : Int → Int) (x q y : Int) : Prop := y = nxB Fi Be x q.toNat
theorem nthI_0 {Fi Be : Int → Int} {x : Int} : nthI Fi Be x 0 (Fi x) := rfl
theorem nthI_s {Fi Be : Int → Int} {x q y : Int} (h : nthI Fi Be x q y) (h0 : 0 ≤ q) : nthI Fi Be x (q + 1) (Be y) := by
  unfold nthI at *
  rw [show (q + 1).toNat = q.toNat + 1 by omega, h]
  rfl
theorem nthI.be {Fi Be : Int → Int} {x q y z : Int} (h : nthI Fi Be x q y) (h2 : nthI Fi Be x (q - 1) z) (h0 : 1 ≤ q) : y = Be z := by
  unfold nthI at *
  rw [show q.toNat = (q - 1).toNat + 1 by omega] at h
  rw [h, h2]
  rfl
