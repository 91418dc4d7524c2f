/-! the class's programs, as they are built -/
def tgC (K : Int → Int) : Int → Int := fun s => if K s = 0 ∨ K s = 1 then 0 else if K s = 2 then 1 else if K s = 3 then 2 else if K s = 6 then 3 else if K s = 7 then 4 else if K s = 8 then 5 else 6
section TgC
variable {K : Int → Int} {s : Int}
theorem tgC_0 (h : K s = 0 ∨ K s = 1) : tgC K s = 0 := if_pos h
theorem tgC_2 (h : K s = 2) : tgC K s = 1 := by unfold tgC; rw [if_neg (by omega), if_pos h]
theorem tgC_3 (h : K s = 3) : tgC K s = 2 := by unfold tgC; rw [if_neg (by omega), if_neg (by omega), if_pos h]
theorem tgC_6 (h : K s = 6) : tgC K s = 3 := by unfold tgC; rw [if_neg (by omega), if_neg (by omega), if_neg (by omega), if_pos h]
theorem tgC_7 (h : K s = 7) : tgC K s = 4 := by unfold tgC; rw [if_neg (by omega), if_neg (by omega), if_neg (by omega), if_neg (by omega), if_pos h]
theorem tgC_8 (h : K s = 8) : tgC K s = 5 := by unfold tgC; rw [if_neg (by omega), if_neg (by omega), if_neg (by omega), if_neg (by omega), if_neg (by omega), if_pos h]
theorem tgC_9 (h : K s = 9) : tgC K s = 6 := by unfold tgC; rw [if_neg (by omega), if_neg (by omega), if_neg (by omega), if_neg (by omega), if_neg (by omega), if_neg (by omega)]
end TgC
/-- the second arrays have the first's states from lo to hi, and the ranges below ru -/
def agC (K N O RR K2 N2 O2 R2 : Int → Int) (lo hi ru : Int) : Prop := (∀ i : Int, lo ≤ i → i < hi → K2 i = K i ∧ N2 i = N i ∧ O2 i = O i) ∧ ∀ j : Int, 0 ≤ j → j < ru → R2 j = RR j
def RlI (K N O RR : Int → Int) (ru lo hi u f x : Int) (v : Sm) (nn : Prop) : Prop := ∀ K2 N2 O2 R2 : Int → Int, agC K N O RR K2 N2 O2 R2 lo hi ru → K2 0 = 9 → Rl (tgC K2) N2 O2 (phas K2 O2 R2) u f x v nn
section RlIs
variable {K N O RR K2 N2 O2 R2 : Int → Int} {ru ru2 lo hi lo2 hi2 u f x : Int} {v : Sm} {nn : Prop}
theorem agC.tr {K3 N3 O3 R3 : Int → Int} (a : agC K N O RR K2 N2 O2 R2 lo hi ru) (b : agC K2 N2 O2 R2 K3 N3 O3 R3 lo2 hi2 ru2) (h1 : lo2 ≤ lo) (h2 : hi ≤ hi2) (h3 : ru ≤ ru2) : agC K N O RR K3 N3 O3 R3 lo hi ru := ⟨fun i p q => by
  obtain ⟨x1, x2, x3⟩ := a.1 i p q
  obtain ⟨y1, y2, y3⟩ := b.1 i (by omega) (by omega)
  exact ⟨y1.trans x1, y2.trans x2, y3.trans x3⟩, fun j p q => (b.2 j p (by omega)).trans (a.2 j p q)⟩
theorem RlI.up (h : RlI K N O RR ru lo hi u f x v nn) (a : agC K N O RR K2 N2 O2 R2 lo hi ru) (h1 : lo2 ≤ lo) (h2 : hi ≤ hi2) (h3 : ru ≤ ru2) : RlI K2 N2 O2 R2 ru2 lo2 hi2 u f x v nn := fun K3 N3 O3 R3 b z => h K3 N3 O3 R3 (a.tr b h1 h2 h3) z
end RlIs
/-- the same of a pair: fresh * 4294967296 + used -/
def RlP (K N O RR : Int → Int) (ru lo hi w w2 : Int) (v : Sm) (nn : Prop) : Prop := RlI K N O RR ru lo hi (w % 4294967296) (w / 4294967296) (w2 / 4294967296) v nn ∧ RlI K N O RR ru lo hi (w % 4294967296) (w % 4294967296) (w2 % 4294967296) v nn
section RlPs
variable {K N O RR K2 N2 O2 R2 : Int → Int} {ru ru2 lo hi lo2 hi2 w w1 w2 w3 : Int} {v v1 v2 : Sm} {nn n1 n2 : Prop}
theorem RlP.up (h : RlP K N O RR ru lo hi w w2 v nn) (a : agC K N O RR K2 N2 O2 R2 lo hi ru) (h1 : lo2 ≤ lo) (h2 : hi ≤ hi2) (h3 : ru ≤ ru2) : RlP K2 N2 O2 R2 ru2 lo2 hi2 w w2 v nn := ⟨h.1.up a h1 h2 h3, h.2.up a h1 h2 h3⟩
theorem RlP.wk (h : RlP K N O RR ru lo hi w w2 v n1) (hn : n2 → n1) : RlP K N O RR ru lo hi w w2 v n2 := ⟨fun _ _ _ _ a z => Rl_w (h.1 _ _ _ _ a z) hn, fun _ _ _ _ a z => Rl_w (h.2 _ _ _ _ a z) hn⟩
theorem RlP.e (h : RlP K N O RR ru lo hi w w2 v nn) (e : v = v1) : RlP K N O RR ru lo hi w w2 v1 nn := by rw [← e]; exact h
theorem RlP_I : RlP K N O RR ru lo hi w w smI False := ⟨fun _ _ _ _ _ _ => Rl_I, fun _ _ _ _ _ _ => Rl_I⟩
theorem RlP_C (g1 : gdS v1) (g2 : gdS v2) (h1 : RlP K N O RR ru lo hi w1 w2 v1 n1) (h2 : RlP K N O RR ru lo hi w w1 v2 n2) : RlP K N O RR ru lo hi w w2 (smC v1 v2) (n1 ∨ n2) := ⟨fun _ _ _ _ a z => Rl_C g1 g2 (h1.1 _ _ _ _ a z) (h2.1 _ _ _ _ a z) (h2.2 _ _ _ _ a z), fun _ _ _ _ a z => Rl_C g1 g2 (h1.2 _ _ _ _ a z) (h2.2 _ _ _ _ a z) (h2.2 _ _ _ _ a z)⟩
/-- a state among those that were added -/
def sdC (K N O : Int → Int) (lo hi x k y z : Int) : Prop := (lo ≤ x ∧ x < hi) ∧ K x = k ∧ N x = y ∧ O x = z
theorem sdC.ag {x k y z : Int} (h : sdC K N O lo hi x k y z) (a : agC K N O RR K2 N2 O2 R2 lo hi ru) : K2 x = k ∧ N2 x = y ∧ O2 x = z := by
  obtain ⟨h1, h2, h3, h4⟩ := h
  obtain ⟨a1, a2, a3⟩ := a.1 x h1.1 h1.2
  exact ⟨a1.trans h2, a2.trans h3, a3.trans h4⟩
theorem RlP_O (hf : sdC K N O lo hi (w2 / 4294967296) 6 (w1 / 4294967296) (w3 / 4294967296)) (hu : sdC K N O lo hi (w2 % 4294967296) 6 (w1 % 4294967296) (w3 % 4294967296)) (h1 : RlP K N O RR ru lo hi w w1 v1 n1) (h2 : RlP K N O RR ru lo hi w w3 v2 n2) : RlP K N O RR ru lo hi w w2 (smO v1 v2) (n1 ∧ n2) := ⟨fun _ _ _ _ a z => by
  obtain ⟨e1, e2, e3⟩ := hf.ag a
  exact Rl_O (tgC_6 e1) e2 e3 (h1.1 _ _ _ _ a z) (h2.1 _ _ _ _ a z), fun _ _ _ _ a z => by
  obtain ⟨e1, e2, e3⟩ := hu.ag a
  exact Rl_O (tgC_6 e1) e2 e3 (h1.2 _ _ _ _ a z) (h2.2 _ _ _ _ a z)⟩
theorem RlP_Q {q : Int} (hf : sdC K N O lo hi (w2 / 4294967296) 3 (w / 4294967296) q) (hu : sdC K N O lo hi (w2 % 4294967296) 3 (w % 4294967296) q) : RlP K N O RR ru lo hi w w2 (smQ q) False := ⟨fun _ _ _ _ a z => by
  obtain ⟨e1, e2, e3⟩ := hf.ag a
  exact Rl_Q (tgC_3 e1) e2 e3, fun _ _ _ _ a z => by
  obtain ⟨e1, e2, e3⟩ := hu.ag a
  exact Rl_Q (tgC_3 e1) e2 e3⟩
theorem RlP_A {s q : Int} (h : sdC K N O lo hi s 2 (w % 4294967296) q) (e1 : w2 / 4294967296 = s) (e2 : w2 % 4294967296 = s) : RlP K N O RR ru lo hi w w2 smA True := ⟨fun _ _ _ _ a z => by
  obtain ⟨k1, k2, k3⟩ := h.ag a
  rw [e1]; exact Rl_A (tgC_2 k1) k2, fun _ _ _ _ a z => by
  obtain ⟨k1, k2, k3⟩ := h.ag a
  rw [e2]; exact Rl_A (tgC_2 k1) k2⟩
theorem RlP_c {s c : Int} (h : sdC K N O lo hi s 0 (w % 4294967296) c) (e1 : w2 / 4294967296 = s) (e2 : w2 % 4294967296 = s) : RlP K N O RR ru lo hi w w2 (smS (fun x => c = x)) True := ⟨fun _ _ _ _ a z => by
  obtain ⟨k1, k2, k3⟩ := h.ag a
  rw [e1]; exact Rl_S (tgC_0 (Or.inl k1)) k2 (fun x => by rw [phas_c k1, k3]), fun _ _ _ _ a z => by
  obtain ⟨k1, k2, k3⟩ := h.ag a
  rw [e2]; exact Rl_S (tgC_0 (Or.inl k1)) k2 (fun x => by rw [phas_c k1, k3])⟩
/-- what a class has, in arrays that have its record -/
theorem phas_ag {s r : Int} {S : Int → Prop} (hr : recok RR ru r) (hS : ∀ x : Int, cs_mem (fun i => RR (r + 1 + i)) (RR r) x ↔ S x) (a : agC K N O RR K2 N2 O2 R2 lo hi ru) (k1 : K2 s = 1) (k3 : O2 s = r) : ∀ x : Int, phas K2 O2 R2 s x ↔ S x := by
  intro x
  obtain ⟨h0, h1, h2, _, _⟩ := hr
  have er : R2 r = RR r := a.2 r h0 (by omega)
  have ei : ∀ i : Int, 0 ≤ i → i < 2 * RR r → R2 (r + 1 + i) = RR (r + 1 + i) := fun i p q => a.2 _ (by omega) (by omega)
  rw [← hS x]
  constructor
  · intro h
    rcases h with ⟨e, _⟩ | ⟨_, i, i0, i1, q1, q2⟩
    · omega
    · rw [k3, er] at i1
      rw [k3] at q1 q2
      have t1 := ei (2 * i) (by omega) (by omega)
      have t2 := ei (2 * i + 1) (by omega) (by omega)
      have q1' : R2 (r + 1 + 2 * i) ≤ x := q1
      have q2' : x ≤ R2 (r + 1 + (2 * i + 1)) := q2
      rw [t1] at q1'
      rw [t2] at q2'
      exact ⟨i, i0, i1, q1', q2'⟩
  · intro ⟨i, i0, i1, q1, q2⟩
    have t1 := ei (2 * i) (by omega) (by omega)
    have t2 := ei (2 * i + 1) (by omega) (by omega)
    have q1' : RR (r + 1 + 2 * i) ≤ x := q1
    have q2' : x ≤ RR (r + 1 + (2 * i + 1)) := q2
    rw [← t1] at q1'
    rw [← t2] at q2'
    refine Or.inr ⟨k1, i, i0, by rw [k3, er]; exact i1, ?_, ?_⟩
    · rw [k3]; exact q1'
    · rw [k3]; exact q2'
theorem RlP_S {s r : Int} {S : Int → Prop} (h : sdC K N O lo hi s 1 (w % 4294967296) r) (hr : recok RR ru r) (hS : ∀ x : Int, cs_mem (fun i => RR (r + 1 + i)) (RR r) x ↔ S x) (e1 : w2 / 4294967296 = s) (e2 : w2 % 4294967296 = s) : RlP K N O RR ru lo hi w w2 (smS S) True := ⟨fun _ _ _ _ a z => by
  obtain ⟨k1, k2, k3⟩ := h.ag a
  rw [e1]; exact Rl_S (tgC_0 (Or.inr k1)) k2 (phas_ag hr hS a k1 k3), fun _ _ _ _ a z => by
  obtain ⟨k1, k2, k3⟩ := h.ag a
  rw [e2]; exact Rl_S (tgC_0 (Or.inr k1)) k2 (phas_ag hr hS a k1 k3)⟩
/-- a numbered group: w1 saves its end, wi is inside, w2 saves its begin -/
theorem RlP_G {wi k : Int} (gv : gdS v) (f1 : sdC K N O lo hi (w1 / 4294967296) 7 (w / 4294967296) (2 * k + 1)) (u1 : sdC K N O lo hi (w1 % 4294967296) 7 (w % 4294967296) (2 * k + 1)) (h : RlP K N O RR ru lo hi w1 wi v nn) (f2 : sdC K N O lo hi (w2 / 4294967296) 7 (wi / 4294967296) (2 * k)) (u2 : sdC K N O lo hi (w2 % 4294967296) 7 (wi % 4294967296) (2 * k)) : RlP K N O RR ru lo hi w w2 (smG k v) nn := ⟨fun _ _ _ _ a z => by
  obtain ⟨a1, a2, a3⟩ := f1.ag a
  obtain ⟨b1, b2, b3⟩ := u1.ag a
  obtain ⟨c1, c2, c3⟩ := f2.ag a
  exact Rl_G gv ⟨tgC_7 c1, c2, c3⟩ ⟨tgC_7 b1, b2, b3⟩ ⟨tgC_7 a1, a2, a3⟩ (h.1 _ _ _ _ a z), fun _ _ _ _ a z => by
  obtain ⟨b1, b2, b3⟩ := u1.ag a
  obtain ⟨c1, c2, c3⟩ := u2.ag a
  exact Rl_G gv ⟨tgC_7 c1, c2, c3⟩ ⟨tgC_7 b1, b2, b3⟩ ⟨tgC_7 b1, b2, b3⟩ (h.2 _ _ _ _ a z)⟩
/-- a loop's head among the states -/
def lpC (K N O : Int → Int) (lo hi : Int) (lz : Prop) (x y z : Int) : Prop := (lo ≤ x ∧ x < hi) ∧ K x = 6 ∧ (lz → N x = z ∧ O x = y) ∧ (¬ lz → N x = y ∧ O x = z)
theorem lpC.ag {lz : Prop} {x y z : Int} (h : lpC K N O lo hi lz x y z) (a : agC K N O RR K2 N2 O2 R2 lo hi ru) : lpH (tgC K2) N2 O2 lz x y z := by
  obtain ⟨h1, h2, h3, h4⟩ := h
  obtain ⟨a1, a2, a3⟩ := a.1 x h1.1 h1.2
  exact ⟨tgC_6 (a1.trans h2), fun c => ⟨a2.trans (h3 c).1, a3.trans (h3 c).2⟩, fun c => ⟨a2.trans (h4 c).1, a3.trans (h4 c).2⟩⟩
/-- r is the loop's head, w0 what a turn leads to (0 where it took no byte and may take none), wb a turn -/
theorem RlP_T {lz : Prop} [Decidable lz] {r w0 wb : Int} (gv : gdS v) (hr : lpC K N O lo hi lz r (wb / 4294967296) (w % 4294967296)) (h : RlP K N O RR ru lo hi w0 wb v nn) (e0 : w0 % 4294967296 = r) (hd : ¬ nn → w0 / 4294967296 = 0) (hx : lpC K N O lo hi lz (w2 / 4294967296) (wb / 4294967296) (w / 4294967296)) (hu : w2 % 4294967296 = r) : RlP K N O RR ru lo hi w w2 (smT lz v) False := ⟨fun K2 N2 O2 R2 a z => by
  have hb := h.1 K2 N2 O2 R2 a z
  rw [e0] at hb
  exact Rl_T gv (hr.ag a) hb (fun c => by rw [hd c]; exact tgC_9 z) (hx.ag a) hb (fun c => by rw [hd c]; exact tgC_9 z), fun K2 N2 O2 R2 a z => by
  have hb := h.1 K2 N2 O2 R2 a z
  rw [e0] at hb
  rw [hu]
  exact Rl_T gv (hr.ag a) hb (fun c => by rw [hd c]; exact tgC_9 z) (hr.ag a) hb (fun c => by rw [hd c]; exact tgC_9 z)⟩
/-- once more (we is what follows then, wt the part ahead of it), or not -/
theorem RlP_U {lz : Prop} [Decidable lz] {we wt : Int} {m : Nat} (gv : gdS v) (h1 : RlP K N O RR ru lo hi we wt v nn) (h2 : RlP K N O RR ru lo hi w we (smU lz v m) n1) (hf : lpC K N O lo hi lz (w2 / 4294967296) (wt / 4294967296) (w / 4294967296)) (hu : lpC K N O lo hi lz (w2 % 4294967296) (wt % 4294967296) (w % 4294967296)) : RlP K N O RR ru lo hi w w2 (smU lz v (m + 1)) False := ⟨fun K2 N2 O2 R2 a z => Rl_U gv (h1.1 K2 N2 O2 R2 a z) (h2.1 K2 N2 O2 R2 a z) (h2.2 K2 N2 O2 R2 a z) (hf.ag a), fun K2 N2 O2 R2 a z => Rl_U gv (h1.2 K2 N2 O2 R2 a z) (h2.2 K2 N2 O2 R2 a z) (h2.2 K2 N2 O2 R2 a z) (hu.ag a)⟩
/-- and once more without asking -/
theorem RlP_N {we : Int} {m : Nat} (gv : gdS v) (g2 : gdS v2) (h1 : RlP K N O RR ru lo hi we w2 v nn) (h2 : RlP K N O RR ru lo hi w we (smN v v2 m) n1) : RlP K N O RR ru lo hi w w2 (smN v v2 (m + 1)) (nn ∨ n1) := RlP_C gv (gd_N gv g2 m) h1 h2
end RlPs
