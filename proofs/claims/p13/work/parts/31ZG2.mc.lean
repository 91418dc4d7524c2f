/-! the machine that makes steps: what a part may cost -/
def cex (z d : Int) : Int := if d ≤ 30 then max 0 (z - (30 - d) * (31 - d)) else 2
def cs (z d : Int) : Int := if z = 0 then 0 else 62 * z + cex z d
theorem cex_c (z d : Int) : (d ≤ 30 ∧ ((0 ≤ z - (30 - d) * (31 - d) ∧ cex z d = z - (30 - d) * (31 - d)) ∨ (z - (30 - d) * (31 - d) ≤ 0 ∧ cex z d = 0))) ∨ (30 < d ∧ cex z d = 2) := by
  unfold cex
  by_cases h : d ≤ 30
  · rw [if_pos h]; left; refine ⟨h, ?_⟩; omega
  · rw [if_neg h]; right; exact ⟨by omega, rfl⟩
theorem tt_nn {d : Int} (h : d ≤ 30) : 0 ≤ (30 - d) * (31 - d) := Int.mul_nonneg (by omega) (by omega)
theorem tt_s (d : Int) : (30 - d) * (31 - d) = (30 - (d + 1)) * (31 - (d + 1)) + 2 * (30 - d) := by
  obtain ⟨e, he⟩ : ∃ e : Int, e = 30 - d := ⟨_, rfl⟩
  rw [← he, show 31 - d = e + 1 by omega, show 30 - (d + 1) = e - 1 by omega, show 31 - (d + 1) = e by omega, Int.mul_add, Int.sub_mul, Int.mul_one, Int.one_mul]
  omega
theorem cs_0 (d : Int) : cs 0 d = 0 := if_pos rfl
theorem cs_p {z d : Int} (h : 1 ≤ z) : cs z d = 62 * z + cex z d := if_neg (by omega)
theorem cex_nn {z d : Int} : 0 ≤ cex z d := by have := cex_c z d; omega
theorem cs_nn {z d : Int} (h : 0 ≤ z) : 0 ≤ cs z d := by
  by_cases e : z = 0
  · rw [e, cs_0]; omega
  · rw [cs_p (by omega)]; have := cex_nn (z := z) (d := d); omega
theorem cs_leaf {z d : Int} (h : 1 ≤ z) (hd : 0 ≤ d ∧ d ≤ 31) : 2 * (d + 1) ≤ cs z d := by
  rw [cs_p h]
  have := cex_c z d
  omega
theorem cs_add {a b d : Int} (ha : 0 ≤ a) (hb : 0 ≤ b) (hd : d ≤ 30) : cs a d + cs b d ≤ cs (a + b) d := by
  by_cases e : a = 0
  · rw [e, cs_0, Int.zero_add, Int.zero_add]; omega
  · by_cases f : b = 0
    · rw [f, cs_0, Int.add_zero, Int.add_zero]; omega
    · rw [cs_p (show 1 ≤ a by omega), cs_p (show 1 ≤ b by omega), cs_p (show 1 ≤ a + b by omega)]
      have h1 := cex_c a d
      have h2 := cex_c b d
      have h3 := cex_c (a + b) d
      have h4 := tt_nn hd
      omega
theorem cs_mono {a b d : Int} (ha : 0 ≤ a) (hb : a ≤ b) (hd : d ≤ 30) : cs a d ≤ cs b d := by
  have := cs_add (a := a) (b := b - a) ha (by omega) hd
  rw [show a + (b - a) = b by omega] at this
  have := cs_nn (z := b - a) (d := d) (by omega)
  omega
theorem cs_one {d : Int} (hd : 0 ≤ d ∧ d ≤ 30) : 2 * (d + 1) ≤ cs 1 d := cs_leaf (by decide) (by omega)
theorem cs_mul {x d : Int} (hx : 0 ≤ x) (hd : d ≤ 30) : ∀ m : Nat, (m : Int) * cs x d ≤ cs ((m : Int) * x) d := by
  intro m
  induction m with
  | zero => rw [show ((0 : Nat) : Int) = 0 from rfl, Int.zero_mul, Int.zero_mul, cs_0]; omega
  | succ m ih =>
    have e : ((m + 1 : Nat) : Int) = (m : Int) + 1 := by omega
    rw [e, Int.add_mul, Int.add_mul, Int.one_mul, Int.one_mul]
    have h0 : 0 ≤ (m : Int) * x := Int.mul_nonneg (by omega) hx
    have := cs_add h0 hx hd
    omega
theorem cs_ones {d : Int} (hd : 0 ≤ d ∧ d ≤ 30) : ∀ m : Nat, (m : Int) * (2 * (d + 1)) ≤ cs (m : Int) d := by
  intro m
  induction m with
  | zero => rw [show ((0 : Nat) : Int) = 0 from rfl, Int.zero_mul, cs_0]; omega
  | succ m ih =>
    have e : ((m + 1 : Nat) : Int) = (m : Int) + 1 := by omega
    rw [e, Int.add_mul, Int.one_mul]
    have := cs_add (a := (m : Int)) (b := 1) (d := d) (by omega) (by omega) hd.2
    have := cs_one hd
    omega
theorem cs_star1 {x d : Int} (hx : 0 ≤ x) (hd : 0 ≤ d ∧ d ≤ 30) : 2 * (d + 1) + cs x (d + 1) ≤ cs (x + 1) d := by
  by_cases e : x = 0
  · rw [e, cs_0, Int.zero_add]; have := cs_one hd; omega
  · rw [cs_p (show 1 ≤ x by omega), cs_p (show 1 ≤ x + 1 by omega)]
    have h1 := cex_c x (d + 1)
    have h3 := cex_c (x + 1) d
    have h4 := tt_nn hd.2
    have h5 := tt_s d
    rcases h1 with ⟨h1, q | q⟩ | h1
    · have h6 := tt_nn h1; omega
    · omega
    · have e30 : d = 30 := by omega
      subst e30
      have : ((30 : Int) - 30) * (31 - 30) = 0 := by decide
      omega
theorem cs_star {x d le : Int} (hx : 0 ≤ x) (hd : 0 ≤ d ∧ d ≤ 30) (hl : 0 ≤ le) : 2 * (d + 1) + cs x (d + 1) + le * cs x d ≤ cs ((le + 1) * x + 1) d := by
  have h1 := cs_star1 hx hd
  have h2 := cs_mul hx hd.2 le.toNat
  rw [show ((le.toNat : Nat) : Int) = le by omega] at h2
  have h0 : 0 ≤ le * x := Int.mul_nonneg hl hx
  have h3 := cs_add (a := x + 1) (b := le * x) (d := d) (by omega) h0 hd.2
  rw [Int.add_mul, Int.one_mul, show le * x + x + 1 = x + 1 + le * x by omega]
  omega
theorem cs_rep {x d le mo : Int} (hx : 0 ≤ x) (hd : 0 ≤ d ∧ d ≤ 30) (hl : 0 ≤ le ∧ le ≤ mo) : mo * cs x d + (mo - le) * (2 * (d + 1)) ≤ cs (mo * x + mo - le) d := by
  have h2 := cs_mul hx hd.2 mo.toNat
  rw [show ((mo.toNat : Nat) : Int) = mo by omega] at h2
  have h4 := cs_ones hd (mo - le).toNat
  rw [show (((mo - le).toNat : Nat) : Int) = mo - le by omega] at h4
  have h0 : 0 ≤ mo * x := Int.mul_nonneg (by omega) hx
  have h3 := cs_add (a := mo * x) (b := mo - le) (d := d) h0 (by omega) hd.2
  rw [show mo * x + mo - le = mo * x + (mo - le) by omega]
  omega
theorem cs_top {z : Int} (h : 0 ≤ z ∧ z ≤ 400) : cs z 0 ≤ 24800 := by
  by_cases e : z = 0
  · rw [e, cs_0]; omega
  · rw [cs_p (by omega)]
    have := cex_c z 0
    have : ((30 : Int) - 0) * (31 - 0) = 930 := by decide
    omega
/-! rows of steps, new steps, old steps -/
def rokk (RO : Int → Int) (r m n : Int) : Prop := ∀ k : Int, 0 ≤ k → k < m → 0 ≤ RO (r + k) ∧ RO (r + k) < n
def rsm (RO RO2 : Int → Int) (r : Int) : Prop := ∀ j : Int, j < r → RO2 j = RO j
def sgn (T N W : Int → Int) (b n0 n : Int) : Prop := ∀ j : Int, n0 ≤ j → j < n → (0 ≤ T (b + j) ∧ T (b + j) ≤ 6) ∧ (1 ≤ T (b + j) → T (b + j) ≤ 5 → 0 ≤ N (b + j) ∧ N (b + j) < n) ∧ (T (b + j) = 3 → 0 ≤ W (b + j) ∧ W (b + j) < n) ∧ (T (b + j) = 4 → 0 ≤ W (b + j) ∧ W (b + j) < 20) ∧ (T (b + j) = 5 → 0 ≤ W (b + j) ∧ W (b + j) ≤ 5)
/-- steps below n, and those of other slots, are as they were -/
def stx (T N W CA CM T2 N2 W2 CA2 CM2 : Int → Int) (b n : Int) : Prop := ∀ j : Int, (j < b + n ∨ b + 12500 ≤ j) → T2 j = T j ∧ N2 j = N j ∧ W2 j = W j ∧ CA2 j = CA j ∧ CM2 j = CM j
def tka (T W CA CM SM : Int → Int) (b n sl cl ns : Int) : Prop := ∀ j : Int, 0 ≤ j → j < n → T (b + j) = 1 → (0 ≤ W (b + j) ∧ W (b + j) < ns) ∧ CM (b + j) = SM (W (b + j)) ∧ 600 * sl ≤ CA (b + j) ∧ CA (b + j) + CM (b + j) ≤ 600 * sl + cl
def sno (SN SN2 : Int → Int) (s : Int) : Prop := ∀ j : Int, ¬ j = s → SN2 j = SN j
section Steps
variable {T N W CA CM T2 N2 W2 CA2 CM2 T3 N3 W3 CA3 CM3 RO RO2 RO3 SN SN2 SN3 SM : Int → Int} {b n n0 n2 r m k v sl cl ns : Int}
theorem rokk_0 : rokk RO r 0 n := fun k a c => by omega
theorem rokk_w {m2 n3 : Int} (h : rokk RO r m n) (hm : m2 ≤ m) (hn : n ≤ n3) : rokk RO r m2 n3 := fun k a c => by have := h k a (by omega); omega
theorem rokk_s (h : rokk RO r m n) (hm : 0 ≤ m) (hv : 0 ≤ v ∧ v < n) : rokk (zu RO (r + m) v) r (m + 1) n := fun k a c => by
  by_cases e : k = m
  · subst e; rw [zu_self]; exact hv
  · rw [zu_ne (by omega)]; exact h k a (by omega)
theorem rokk_o {r2 : Int} (h : rokk RO r m n) (hs : rsm RO RO2 r2) (hr : r + m ≤ r2) : rokk RO2 r m n := fun k a c => by
  rw [hs _ (by omega)]; exact h k a c
theorem rsm_rf : rsm RO RO r := fun _ _ => rfl
theorem rsm_wr {i : Int} (h : rsm RO RO2 r) (hi : r ≤ i) : rsm RO (zu RO2 i v) r := fun j a => by rw [zu_ne (by omega)]; exact h j a
theorem rsm_tr {r2 : Int} (h : rsm RO RO2 r) (h2 : rsm RO2 RO3 r2) (hr : r ≤ r2) : rsm RO RO3 r := fun j a => by rw [h2 j (by omega), h j a]
theorem sgn_0 : sgn T N W b n n := fun j a c => by omega
theorem sgn_w {n3 : Int} (h : sgn T N W b n0 n) (hn : n ≤ n3) : ∀ j : Int, n0 ≤ j → j < n → (0 ≤ T (b + j) ∧ T (b + j) ≤ 6) ∧ (1 ≤ T (b + j) → T (b + j) ≤ 5 → 0 ≤ N (b + j) ∧ N (b + j) < n3) ∧ (T (b + j) = 3 → 0 ≤ W (b + j) ∧ W (b + j) < n3) ∧ (T (b + j) = 4 → 0 ≤ W (b + j) ∧ W (b + j) < 20) ∧ (T (b + j) = 5 → 0 ≤ W (b + j) ∧ W (b + j) ≤ 5) := fun j a c => by
  obtain ⟨t1, t2, t3, t4, t5⟩ := h j a c
  exact ⟨t1, fun x y => by have := t2 x y; omega, fun x => by have := t3 x; omega, t4, t5⟩
theorem sgn_add {k1 k2 k3 : Int} (h : sgn T N W b n0 n) (hk : 0 ≤ k1 ∧ k1 ≤ 6) (h2 : 1 ≤ k1 → k1 ≤ 5 → 0 ≤ k2 ∧ k2 < n + 1) (h3 : k1 = 3 → 0 ≤ k3 ∧ k3 < n + 1) (h4 : k1 = 4 → 0 ≤ k3 ∧ k3 < 20) (h5 : k1 = 5 → 0 ≤ k3 ∧ k3 ≤ 5) : sgn (zu T (b + n) k1) (zu N (b + n) k2) (zu W (b + n) k3) b n0 (n + 1) := fun j a c => by
  by_cases e : j = n
  · subst e; rw [zu_self, zu_self, zu_self]; exact ⟨hk, h2, h3, h4, h5⟩
  · rw [zu_ne (show b + j ≠ b + n by omega), zu_ne (show b + j ≠ b + n by omega), zu_ne (show b + j ≠ b + n by omega)]
    exact sgn_w h (by omega) j a (by omega)
/-- new steps stay good when more are made -/
theorem sgn_tr (h : sgn T N W b n0 n) (hx : stx T N W CA CM T2 N2 W2 CA2 CM2 b n) (h2 : sgn T2 N2 W2 b n n2) (hn : n ≤ n2) : sgn T2 N2 W2 b n0 n2 := fun j a c => by
  by_cases e : j < n
  · obtain ⟨e1, e2, e3, _, _⟩ := hx (b + j) (Or.inl (by omega))
    rw [e1, e2, e3]; exact sgn_w h hn j a e
  · exact h2 j (by omega) c
theorem stx_rf : stx T N W CA CM T N W CA CM b n := fun _ _ => ⟨rfl, rfl, rfl, rfl, rfl⟩
theorem stx_tr (h : stx T N W CA CM T2 N2 W2 CA2 CM2 b n) (h2 : stx T2 N2 W2 CA2 CM2 T3 N3 W3 CA3 CM3 b n2) (hn : n ≤ n2) : stx T N W CA CM T3 N3 W3 CA3 CM3 b n := fun j a => by
  obtain ⟨a1, a2, a3, a4, a5⟩ := h j a
  obtain ⟨b1, b2, b3, b4, b5⟩ := h2 j (by omega)
  exact ⟨b1.trans a1, b2.trans a2, b3.trans a3, b4.trans a4, b5.trans a5⟩
theorem stx_add {k1 k2 k3 : Int} (h : stx T N W CA CM T2 N2 W2 CA2 CM2 b n) (hn : n ≤ n2 ∧ n2 < 12500) : stx T N W CA CM (zu T2 (b + n2) k1) (zu N2 (b + n2) k2) (zu W2 (b + n2) k3) CA2 CM2 b n := fun j a => by
  have e : j ≠ b + n2 := by omega
  rw [zu_ne e, zu_ne e, zu_ne e]; exact h j a
theorem stx_tk {k3 k4 k5 : Int} (h : stx T N W CA CM T2 N2 W2 CA2 CM2 b n) (hn : n ≤ n2 ∧ n2 < 12500) : stx T N W CA CM T2 N2 (zu W2 (b + n2) k3) (zu CA2 (b + n2) k4) (zu CM2 (b + n2) k5) b n := fun j a => by
  have e : j ≠ b + n2 := by omega
  rw [zu_ne e, zu_ne e, zu_ne e]; exact h j a
theorem sno_rf {s : Int} : sno SN SN s := fun _ _ => rfl
theorem sno_wr {s : Int} (h : sno SN SN2 s) : sno SN (zu SN2 s v) s := fun j a => by rw [zu_ne a]; exact h j a
theorem sno_tr {s : Int} (h : sno SN SN2 s) (h2 : sno SN2 SN3 s) : sno SN SN3 s := fun j a => by rw [h2 j a, h j a]
theorem tka_add {k1 k2 k3 : Int} (h : tka T W CA CM SM b n sl cl ns) (hk : ¬ k1 = 1) : tka (zu T (b + n) k1) (zu W (b + n) k3) CA CM SM b (n + 1) sl cl ns := fun j a c => by
  by_cases e : j = n
  · subst e; rw [zu_self]; intro q; exact absurd q hk
  · rw [zu_ne (show b + j ≠ b + n by omega), zu_ne (show b + j ≠ b + n by omega)]; exact h j a (by omega)
end Steps
section Steps2
variable {T N W CA CM SM : Int → Int} {b n sl cl ns : Int}
theorem tka_old {v w : Int} (h : tka T W CA CM SM b n sl cl ns) : tka (zu T (b + n) v) (zu W (b + n) w) CA CM SM b n sl cl ns := fun j a c => by
  rw [zu_ne (show b + j ≠ b + n by omega), zu_ne (show b + j ≠ b + n by omega)]; exact h j a c
theorem tka_new {s fm cl2 : Int} (h : tka T W CA CM SM b n sl cl ns) (hc : cl ≤ cl2) (hs : 0 ≤ s ∧ s < ns) (h1 : 600 * sl ≤ fm) (h2 : fm + SM s ≤ 600 * sl + cl2) : tka (zu T (b + n) 1) (zu W (b + n) s) (zu CA (b + n) fm) (zu CM (b + n) (SM s)) SM b (n + 1) sl cl2 ns := fun j a c => by
  by_cases e : j = n
  · subst e; rw [zu_self, zu_self, zu_self, zu_self]; intro _; exact ⟨hs, rfl, h1, h2⟩
  · have e2 : b + j ≠ b + n := by omega
    rw [zu_ne e2, zu_ne e2, zu_ne e2, zu_ne e2]
    intro q
    obtain ⟨t1, t2, t3, t4⟩ := h j a (by omega) q
    exact ⟨t1, t2, t3, by omega⟩
theorem tka_w {cl2 : Int} (h : tka T W CA CM SM b n sl cl ns) (hc : cl ≤ cl2) : tka T W CA CM SM b n sl cl2 ns := fun j a c q => by
  obtain ⟨t1, t2, t3, t4⟩ := h j a c q
  exact ⟨t1, t2, t3, by omega⟩
theorem sgn_1 {k2 k3 : Int} (h2 : 0 ≤ k2 ∧ k2 < n + 1) : sgn (zu T (b + n) 1) (zu N (b + n) k2) (zu W (b + n) k3) b n (n + 1) := sgn_add sgn_0 (by decide) (fun _ _ => h2) (fun h => absurd h (by decide)) (fun h => absurd h (by decide)) (fun h => absurd h (by decide))
end Steps2
section Lists2
variable {K O Fi Be Le Mo Z SM RF RL AF AL SD : Int → Int} {N ns lv : Int} {pa po MN dl st ht hh : Int → Int} {PS : Int → Int → Int} {T : Int}
theorem rtq_p {c k q : Int} (h : rtq N pa po MN c k q) (hq : q < MN c) : (0 ≤ k ∧ k < N) ∧ pa k = c ∧ q = po k := by
  rcases h with t | t
  · omega
  · exact t
/-- where a list is gone through: not further than there are nodes -/
theorem rtq_n {c k q : Int} (hG : rtG K O Fi Be Le Mo Z SM RF RL AF AL SD N ns lv pa po MN dl st ht hh PS T) (h : rtq N pa po MN c k q) (hk : 0 ≤ k) (hc : ¬ c = -1) : q < N := by
  rcases h with t | ⟨t1, t2, t3⟩
  · omega
  · have a := (hG.2.1 k t1.1 t1.2).2.1.1
    have b := a.2.2 (by omega)
    have g := hG.1.2.1
    omega
end Lists2
/-! frames of work: those below w are as they were -/
def fsm (WP WD WT WG WS WP2 WD2 WT2 WG2 WS2 : Int → Int) (w : Int) : Prop := ∀ j : Int, j < w → WP2 j = WP j ∧ WD2 j = WD j ∧ WT2 j = WT j ∧ WG2 j = WG j ∧ WS2 j = WS j
theorem fsm_rf {WP WD WT WG WS : Int → Int} {w : Int} : fsm WP WD WT WG WS WP WD WT WG WS w := fun _ _ => ⟨rfl, rfl, rfl, rfl, rfl⟩
theorem fsm_tr {WP WD WT WG WS WP2 WD2 WT2 WG2 WS2 WP3 WD3 WT3 WG3 WS3 : Int → Int} {w w2 : Int} (h : fsm WP WD WT WG WS WP2 WD2 WT2 WG2 WS2 w) (h2 : fsm WP2 WD2 WT2 WG2 WS2 WP3 WD3 WT3 WG3 WS3 w2) (hw : w ≤ w2) : fsm WP WD WT WG WS WP3 WD3 WT3 WG3 WS3 w := fun j a => by
  obtain ⟨a1, a2, a3, a4, a5⟩ := h j a
  obtain ⟨b1, b2, b3, b4, b5⟩ := h2 j (by omega)
  exact ⟨b1.trans a1, b2.trans a2, b3.trans a3, b4.trans a4, b5.trans a5⟩
