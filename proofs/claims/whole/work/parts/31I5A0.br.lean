/-! records that stay, programs that grow -/
def prc (RR : Int → Int) (ru r : Int) : Prop := r = -1 ∨ recok RR ru r
def kext (K K2 : Int → Int) (n : Int) : Prop := ∀ i : Int, 0 ≤ i → i < n → K2 i = K i
theorem kext.rf {K : Int → Int} {n : Int} : kext K K n := fun _ _ _ => rfl
theorem kext.tr {K K2 K3 : Int → Int} {n m : Int} (h : kext K K2 n) (h2 : kext K2 K3 m) (hn : n ≤ m) : kext K K3 n := fun i a b => (h2 i a (by omega)).trans (h i a b)
theorem kext.zu {K : Int → Int} {n a v : Int} (h : n ≤ a) : kext K (zu K a v) n := fun i _ b => zu_ne (by omega)
theorem rchf_ext {RR F : Int → Int} {ru : Int} (e : kext RR F ru) : ∀ (k : Nat) (r : Int), 0 ≤ r → rchf RR ru k r → rchf F ru k r := by
  intro k
  induction k with
  | zero => intro r h0 h; exact h
  | succ k ih =>
    intro r h0 h
    obtain ⟨h1, h2, h3⟩ := h
    have er : F r = RR r := e r h0 (by omega)
    refine ⟨by omega, by omega, ?_⟩
    rw [er]
    exact ih _ (by omega) h3
theorem rch_ext {RR F : Int → Int} {ru : Int} (h : rch RR ru) (_h0 : 0 ≤ ru) (e : kext RR F ru) : rch F ru := by
  obtain ⟨k, q⟩ := h
  exact ⟨k, rchf_ext e k 0 (by omega) q⟩
theorem recok_ext {RR R2 : Int → Int} {ru ru2 r : Int} (h : recok RR ru r) (e : kext RR R2 ru) (hu : ru ≤ ru2) : recok R2 ru2 r := by
  obtain ⟨h0, h1, h2, h3, h4⟩ := h
  have er := e r h0 (by omega)
  refine ⟨h0, by omega, by omega, ?_, rch_ext h4 h0 (fun i i0 i1 => e i i0 (by omega))⟩
  rw [er]
  exact cs_can_eq h3 (fun j j1 j2 => e (r + 1 + j) (by omega) (by omega))
theorem prc_ext {RR R2 : Int → Int} {ru ru2 r : Int} (e : kext RR R2 ru) (hu : ru ≤ ru2) (h : prc RR ru r) : prc R2 ru2 r := h.imp id (fun q => recok_ext q e hu)
theorem prok_ext {K N O RR R2 : Int → Int} {n ru ru2 wi : Int} (h : prok K N O RR n ru wi) (e : kext RR R2 ru) (hu : ru ≤ ru2) : prok K N O R2 n ru2 wi := fun s s0 s1 => by
  obtain ⟨a1, a2, a3, a4, a5, a6, a7⟩ := h s s0 s1
  exact ⟨a1, a2, a3, a4, a5, a6, fun q => recok_ext (a7 q) e hu⟩
theorem prok_n {K N O RR : Int → Int} {n ru nr wi : Int} (h : prok K N O RR n ru wi) (hu : ru ≤ nr) : prok K N O RR n nr wi := prok_ext h kext.rf hu
/-- a split's two ways are set -/
theorem prok_next {K N O RR : Int → Int} {n ru wi a x : Int} (h : prok K N O RR n ru wi) (hx : 0 ≤ x ∧ x < n) : prok K (zu N a x) O RR n ru wi := fun s s0 s1 => by
  obtain ⟨a1, a2, a3⟩ := h s s0 s1
  refine ⟨a1, ?_, a3⟩
  by_cases e : s = a
  · rw [e, zu_self]; exact hx
  · rw [zu_ne e]; exact a2
theorem prok_other {K N O RR : Int → Int} {n ru wi a x : Int} (h : prok K N O RR n ru wi) (hx : 0 ≤ x ∧ x < n) (hk : K a = 6 ∨ K a = 9) : prok K N (zu O a x) RR n ru wi := fun s s0 s1 => by
  obtain ⟨a1, a2, a3, a4, a5, a6, a7⟩ := h s s0 s1
  by_cases e : s = a
  · subst e
    rw [zu_self]
    exact ⟨a1, a2, fun _ => hx, fun q => by omega, fun q => by omega, fun q => by omega, fun q => by omega⟩
  · rw [zu_ne e]; exact ⟨a1, a2, a3, a4, a5, a6, a7⟩
def hrr (RR : Int → Int) (n : Int) : Prop := ∀ k : Int, 0 ≤ k → k < n → 0 ≤ RR k ∧ RR k ≤ 1114111
set_option maxRecDepth 100000 in
theorem c0_AR_copyOf {X : ab_X} {d : Nat} {o : Nat → Nat} {G : ab_G} {a l k n w : Nat} {m : Int} {f : Int → Int} (ha : cc o G a l (za n f)) (c1 : ↑w = m ∧ m ≤ 2147483647 ∧ ↑n ≤ (2147483647 : Int)) (rc : G.length + 1 ≤ ab_n0 + room_1.cells) (rs : ab_slots G + w ≤ room_1.slots) (c4 : ab_n0 ≤ l ∧ ab_n0 ≤ k) (hd : 2 ≤ d) : ab_F X d y_AR_copyOf (.code y_AR_copyOf b_AR_copyOf 3 (some (.array .int))) [vR a, vz m] G (fun oc G2 => ∃ o2 : Nat → Nat, ∃ b : Nat, ∃ g : Int → Int, oc = .returned (some (vR b)) ∧ fx o o2 [] G G2 ∧ cc o2 G2 b k (za w g) ∧ (b = G.length) ∧ (G2.length = G.length + 1) ∧ (ab_slots G2 = ab_slots G + w) ∧ (∀ j : Int, 0 ≤ j → j < ↑n → j < m → g j = f j) ∧ (∀ j : Int, ↑n ≤ j → j < m → g j = 0)) := by
  by_cases h : m = ↑n
  · have hw : w = n := by omega
    subst hw
    refine (z_AR_copyOf_eq (k := k) ha ⟨h, c1.2.2⟩ rc rs c4 hd).post (fun oc G2 hq => ?_)
    obtain ⟨o2, b, h1, h2, h3, h4, h5, h6⟩ := hq
    exact ⟨o2, b, f, h1, h2, h3, h4, h5, h6, fun j _ _ _ => rfl, fun j j1 j2 => absurd j2 (by omega)⟩
  · refine (z_AR_copyOf (k := k) ha c1 rc rs c4 h hd).post (fun oc G2 hq => ?_)
    rcases hq with ⟨o2, b, h1, h2, h3, h4, h5, h6, h7⟩ | ⟨o2, b, h1, h2, h3, h4, h5, h6, h7⟩
    · exact ⟨o2, b, _, h1, h2, h3, h4, h5, h6, fun j j1 j2 j3 => by rw [zcpy_in (by omega)]; congr 1; omega, fun j j1 j2 => by rw [zcpy_out (by omega)]⟩
    · exact ⟨o2, b, _, h1, h2, h3, h4, h5, h6, fun j j1 j2 j3 => by rw [zcpy_in (by omega)]; congr 1; omega, fun j j1 j2 => by rw [zcpy_out (by omega)]⟩
theorem paI.rng {o : Nat → Nat} {G : ab_G} {z : Nat} {ps : Nat → Nat} {wt : Nat → Wt} {bs : Nat} {gr : Int} {Pr : Int → Prop} {ph : Int} {a : Nat} {k v : Int} {rg : Value} {pl fl : Int} {ou ls bf : Value} {sz mb oe le mo la rc : Int} (h : paI o G z ps wt bs gr Pr ph) (hp : ps a = 90) (hc : cc o G a 90 (paE k v rg pl fl ou ls bf sz mb oe le mo la rc)) (hk : k = 1) : ∃ (b n : Nat) (q : Int → Int) (m : Int) (lb : Nat), rg = vR b ∧ cc o G b lb (za n q) ∧ (lb ≤ 93 ∧ ↑n = 2 * m ∧ 0 ≤ m ∧ m ≤ 25000) ∧ (wt a).1 = n + 1 ∧ cs_can q m ∧ ¬ lb = 90 ∧ ∀ x, cs_mem q m x ↔ (wt a).2 x := by
  obtain ⟨k', v', rg', pl', fl', ou', ls', bf', sz', mb', oe', le', mo', la', rc', c1, c2, c3, c4, c5, c6, c7⟩ := h.1 a hp
  have eq := Option.some.inj (c1.2.2.symm.trans hc.2.2)
  obtain ⟨q1, q2, -⟩ := pa_kv eq
  have ek : k' = k := vz_inj (by have := c2.1; omega) (by omega) q1
  rcases c4 with c4 | ⟨_, b, n, q, m, b1, b2, b3, b4, b5, b7⟩
  · omega
  · rcases b2 with b2 | ⟨b2, b6⟩
    · exact ⟨b, n, q, m, 93, by rw [← q2]; exact b1, b2, ⟨by omega, b3⟩, b4, b5, by omega, b7⟩
    · exact ⟨b, n, q, m, b, by rw [← q2]; exact b1, b2, ⟨by omega, b3⟩, b4, b5, by omega, b7⟩
/-- a record is laid behind those that are there -/
theorem rec_new {RR F q : Int → Int} {ru m nr : Int} {n : Nat} (hn : (n : Int) = 2 * m) (hm : 0 ≤ m) (hr : 0 ≤ ru) (e0 : F = zcpy q (zu RR ru m) 0 (ru + 1) n) (hc : cs_can q m) (_hnr : ru + n + 1 ≤ nr) : (rch F ru → recok F (ru + (n + 1)) ru) ∧ kext RR F ru := by
  have e1 : F ru = m := by rw [e0, zcpy_out (by omega), zu_self]
  refine ⟨fun hz => ⟨hr, by omega, by omega, ?_, hz⟩, fun i a b => by rw [e0, zcpy_out (by omega), zu_ne (by omega)]⟩
  rw [e1]
  refine cs_can_eq hc (fun j j1 j2 => ?_)
  show F (ru + 1 + j) = q j
  rw [e0, zcpy_in (by omega)]
  congr 1; omega
theorem hrr_new {RR F q : Int → Int} {ru m nr : Int} {n : Nat} (hn : (n : Int) = 2 * m) (hm : 0 ≤ m ∧ m ≤ 25000) (h : hrr RR nr) (e0 : F = zcpy q (zu RR ru m) 0 (ru + 1) n) (hc : cs_can q m) : hrr F nr := by
  intro k k0 k1
  rw [e0]
  by_cases c : ru + 1 ≤ k ∧ k < ru + 1 + n
  · rw [zcpy_in c]
    exact cs_hf hc _ (by omega) (by omega)
  · rw [zcpy_out c]
    by_cases d : k = ru
    · rw [d, zu_self]; omega
    · rw [zu_ne d]; exact h k k0 k1
theorem hrr_copy {RR g : Int → Int} {n m : Int} (h : hrr RR n) (h1 : ∀ j : Int, 0 ≤ j → j < n → j < m → g j = RR j) (h2 : ∀ j : Int, n ≤ j → j < m → g j = 0) : hrr g m := fun k k0 k1 => by
  by_cases c : k < n
  · rw [h1 k k0 c k1]; exact h k k0 c
  · rw [h2 k (by omega) k1]; omega
theorem phi_ge {wt : Nat → Wt} {G : ab_G} {lo a : Nat} (h1 : unr G[a]? = true) : ∀ n, lo ≤ a → a < lo + n → (wt a).1 ≤ phi wt G lo n := by
  intro n
  induction n with
  | zero => intro h3 h4; omega
  | succ n ih =>
    intro h3 h4
    unfold phi
    by_cases e : lo + n = a
    · rw [e, h1]; simp
    · have := ih h3 (by omega)
      omega
theorem phi_at {o : Nat → Nat} {G : ab_G} {z : Nat} {ps : Nat → Nat} {wt : Nat → Wt} {bs : Nat} {gr : Int} {Pr : Int → Prop} {ph : Int} {a : Nat} {k v : Int} {rg : Value} {pl fl : Int} {ou ls bf : Value} {sz mb oe le mo la rc : Int} (h : paI o G z ps wt bs gr Pr ph) (hp : ps a = 90) (hc : cc o G a 90 (paE k v rg pl fl ou ls bf sz mb oe le mo la rc)) (hr : rc = -1) : ((wt a).1 : Int) ≤ ph := by
  subst hr
  have h1 : unr G[a]? = true := by rw [hc.2.2]; rfl
  have := phi_ge (wt := wt) (lo := bs) h1 (G.length - bs) (h.2.2.2.2.2 a hp) (by have := hc.lt; have := h.2.2.2.1; omega)
  have := h.2.2.1
  omega
theorem prok_0 {K N O RR : Int → Int} {nr wi : Int} : prok K N O RR 0 nr wi := fun s h0 h1 => absurd h1 (by omega)
theorem rchf_new {RR F : Int → Int} {ru m : Int} (hm : 0 ≤ m) (e : kext RR F ru) (e1 : F ru = m) : ∀ (k : Nat) (r : Int), 0 ≤ r → rchf RR ru k r → rchf F (ru + 1 + 2 * m) (k + 1) r := by
  intro k
  induction k with
  | zero =>
    intro r h0 h
    have h' : r = ru := h
    subst h'
    exact ⟨by omega, by omega, by rw [e1]; rfl⟩
  | succ k ih =>
    intro r h0 h
    obtain ⟨h1, h2, h3⟩ := h
    have er : F r = RR r := e r h0 (by omega)
    refine ⟨by omega, by omega, ?_⟩
    rw [er]
    exact ih _ (by omega) h3
theorem rch_new {RR F : Int → Int} {ru m : Int} {n : Nat} (h : rch RR ru) (e : kext RR F ru) (hr : recok F (ru + (↑n + 1)) ru) (hn : (n : Int) = 2 * m) (e1 : F ru = m) : rch F (ru + (↑n + 1)) := by
  obtain ⟨k, q⟩ := h
  refine ⟨k + 1, ?_⟩
  have := rchf_new (m := m) (by have := hr.2.1; omega) e e1 k 0 (by omega) q
  rw [show ru + (↑n + 1) = ru + 1 + 2 * m by omega]
  exact this
