/-! the parts of a pattern: ps says which places are parts (90) and rows (94), wt what the ranges of a part come to, and which characters they have -/
abbrev Wt := Nat × (Int → Prop)
def olw (wt : Nat → Wt) (a : Nat) (w : Wt) : Nat → Wt := fun x => if x = a then w else wt x
/-- but for p, the same -/
def wtx (wt wt2 : Nat → Wt) (p : Nat) : Prop := ∀ x, ¬ x = p → wt2 x = wt x
theorem olw_self {wt : Nat → Wt} {a : Nat} {w : Wt} : olw wt a w a = w := if_pos rfl
abbrev paE (k v : Int) (rg : Value) (pl fl : Int) (ou ls bf : Value) (sz mb oe le mo la rc : Int) : ab_E := ab_ob 4 [vz k, vz v, rg, vz pl, vz fl, ou, ls, bf, vz sz, vz mb, vz oe, vz le, vz mo, vz la, vz rc]
def plk (ps : Nat → Nat) (l hi : Nat) (v : Value) : Prop := v = vN ∨ ∃ b : Nat, v = vR b ∧ ps b = l ∧ b < hi
theorem plk.up {ps : Nat → Nat} {l hi hi2 : Nat} {v : Value} (h : plk ps l hi v) (hh : hi ≤ hi2) : plk ps l hi2 v := by
  rcases h with h | ⟨b, h1, h2, h3⟩
  · exact Or.inl h
  · exact Or.inr ⟨b, h1, h2, by omega⟩
theorem plk.ps {ps ps2 : Nat → Nat} {l hi n : Nat} {v : Value} (h : plk ps l hi v) (hn : hi ≤ n) (e : ∀ x, x < n → ps2 x = ps x) : plk ps2 l hi v := by
  rcases h with h | ⟨b, h1, h2, h3⟩
  · exact Or.inl h
  · exact Or.inr ⟨b, h1, by rw [e b (by omega)]; exact h2, h3⟩
def psx (ps ps2 : Nat → Nat) (n : Nat) : Prop := ∀ x, x < n → ps2 x = ps x
theorem psx.rf {ps : Nat → Nat} {n : Nat} : psx ps ps n := fun _ _ => rfl
theorem psx.tr {ps ps2 ps3 : Nat → Nat} {n m : Nat} (h : psx ps ps2 n) (h2 : psx ps2 ps3 m) (hn : n ≤ m) : psx ps ps3 n := fun x hx => (h2 x (by omega)).trans (h x hx)
theorem psx.lt {ps ps2 : Nat → Nat} {n m : Nat} (h : psx ps ps2 n) (hn : m ≤ n) : psx ps ps2 m := fun x hx => h x (by omega)
theorem psx.at {ps ps2 : Nat → Nat} {n x l : Nat} (h : psx ps ps2 n) (hx : x < n) (e : ps x = l) : ps2 x = l := (h x hx).trans e
theorem psx.ol {ps : Nat → Nat} {n a l : Nat} (h : n ≤ a) : psx ps (ol ps a l) n := fun x hx => if_neg (by omega)
theorem ol_self {ps : Nat → Nat} {a l : Nat} : ol ps a l a = l := if_pos rfl
/-- the numbers of a part -/
def pnB (pl fl sz mb oe le mo la : Int) : Prop := (-1 ≤ pl ∧ pl ≤ 2100) ∧ (0 ≤ fl ∧ fl ≤ 31) ∧ (0 ≤ sz ∧ sz ≤ 1000000) ∧ (0 ≤ mb ∧ mb ≤ 1) ∧ (0 ≤ oe ∧ oe ≤ 1) ∧ (0 ≤ le ∧ le ≤ 1000) ∧ (0 ≤ mo ∧ mo ≤ 1000) ∧ (0 ≤ la ∧ la ≤ 1)
def paN (gr : Int) (Pr : Int → Prop) (k v rc : Int) : Prop := (0 ≤ k ∧ k ≤ 4 ∧ -1 ≤ v ∧ v ≤ 1114111 ∧ -1 ≤ rc ∧ rc ≤ 100000) ∧ (k = 0 → 0 ≤ v) ∧ (k = 3 → 0 ≤ v ∧ v ≤ 5) ∧ (k = 4 → 0 ≤ v ∧ v ≤ gr) ∧ Pr rc
def prg (o : Nat → Nat) (G : ab_G) (k : Int) (w : Wt) (rg : Value) : Prop := (¬ k = 1 ∧ w.1 = 0) ∨ (k = 1 ∧ ∃ (b n : Nat) (q : Int → Int) (m : Int), rg = vR b ∧ (cc o G b 93 (za n q) ∨ (cc o G b b (za n q) ∧ b ≤ 14)) ∧ (↑n = 2 * m ∧ 0 ≤ m ∧ m ≤ 25000) ∧ w.1 = n + 1 ∧ cs_can q m ∧ ∀ x, cs_mem q m x ↔ w.2 x)
def paC (o : Nat → Nat) (G : ab_G) (ps : Nat → Nat) (gr : Int) (Pr : Int → Prop) (w : Wt) (a : Nat) : Prop := ∃ (k v : Int) (rg : Value) (pl fl : Int) (ou ls bf : Value) (sz mb oe le mo la rc : Int), cc o G a 90 (paE k v rg pl fl ou ls bf sz mb oe le mo la rc) ∧ paN gr Pr k v rc ∧ pnB pl fl sz mb oe le mo la ∧ prg o G k w rg ∧ plk ps 90 a ou ∧ plk ps 94 G.length ls ∧ plk ps 90 a bf
def rwC (o : Nat → Nat) (G : ab_G) (ps : Nat → Nat) (a : Nat) : Prop := ∃ (ls bf : Value) (sz mb : Int), cc o G a 94 (paE 5 0 vN (-1) 0 vN ls bf sz mb 0 0 0 0 (-1)) ∧ ((0 ≤ sz ∧ sz ≤ 1000000) ∧ (0 ≤ mb ∧ mb ≤ 1)) ∧ plk ps 90 G.length ls ∧ plk ps 94 a bf
/-- what the ranges that no record holds come to -/
def unrV (v : Option Value) : Bool := match v with
  | some (.int x) => x == -1
  | _ => false
def unr (E : Option ab_E) : Bool := match E with
  | some (.inr (4, fs)) => unrV ((fs : List Value)[14]?)
  | _ => false
def phi (wt : Nat → Wt) (G : ab_G) (lo : Nat) : Nat → Nat
  | 0 => 0
  | n + 1 => phi wt G lo n + (if unr G[lo + n]? then (wt (lo + n)).1 else 0)
theorem phi_eq {wt wt2 : Nat → Wt} {G G2 : ab_G} {lo : Nat} : ∀ n, (∀ i, i < n → unr G2[lo + i]? = unr G[lo + i]? ∧ wt2 (lo + i) = wt (lo + i)) → phi wt2 G2 lo n = phi wt G lo n := by
  intro n
  induction n with
  | zero => intro _; rfl
  | succ n ih =>
    intro h
    unfold phi
    rw [ih (fun i hi => h i (by omega)), (h n (by omega)).1, (h n (by omega)).2]
theorem phi_rec {wt : Nat → Wt} {G : ab_G} {E : ab_E} {lo a : Nat} (ha : a < G.length) (h1 : unr G[a]? = true) (h2 : unr (some E) = false) : ∀ n, lo ≤ a → a < lo + n → phi wt (List.set G a E) lo n + (wt a).1 = phi wt G lo n := by
  intro n
  induction n with
  | zero => intro h3 h4; omega
  | succ n ih =>
    intro h3 h4
    unfold phi
    by_cases e : lo + n = a
    · rw [e, List.getElem?_set_self ha, h2, h1, phi_eq (wt := wt) (G := G) n (fun i hi => ⟨by rw [List.getElem?_set_ne (by omega)], rfl⟩)]
      simp
    · rw [List.getElem?_set_ne (by omega)]
      have := ih h3 (by omega)
      omega
theorem phi_off {wt : Nat → Wt} {G : ab_G} {lo : Nat} : ∀ n m, (∀ i, n ≤ i → i < m → unr G[lo + i]? = true → (wt (lo + i)).1 = 0) → n ≤ m → phi wt G lo m = phi wt G lo n := by
  intro n m
  induction m with
  | zero => intro _ h; rw [show n = 0 by omega]
  | succ m ih =>
    intro h hn
    by_cases e : n = m + 1
    · rw [e]
    · rw [← ih (fun i h1 h2 => h i h1 (by omega)) (by omega)]
      show phi wt G lo m + _ = _
      by_cases q : unr G[lo + m]? = true
      · rw [if_pos q, h m (by omega) (by omega) q]; rfl
      · rw [if_neg q]; rfl
/-- all parts: which they are, how many bytes' worth of ranges wait; ws is 0 off the parts -/
def paI (o : Nat → Nat) (G : ab_G) (_z : Nat) (ps : Nat → Nat) (wt : Nat → Wt) (bs : Nat) (gr : Int) (Pr : Int → Prop) (ph : Int) : Prop := (∀ a, ps a = 90 → paC o G ps gr Pr (wt a) a) ∧ (∀ a, ps a = 94 → rwC o G ps a) ∧ (phi wt G bs (G.length - bs) : Int) ≤ ph ∧ bs ≤ G.length ∧ (∀ a, ¬ ps a = 90 → (wt a).1 = 0) ∧ (∀ a, ps a = 90 → bs ≤ a)
theorem prg.fr {o o2 : Nat → Nat} {S : List Nat} {G G2 : ab_G} {k : Int} {w : Wt} {rg : Value} (hf : fx o o2 S G G2) (h : prg o G k w rg) (h1 : ¬ 93 ∈ S) (h2 : ∀ l ∈ S, 18 ≤ l) : prg o2 G2 k w rg := by
  rcases h with h | ⟨hk, b, n, q, m, a1, a2, a3⟩
  · exact Or.inl h
  · refine Or.inr ⟨hk, b, n, q, m, a1, ?_, a3⟩
    rcases a2 with a2 | ⟨a2, a4⟩
    · exact Or.inl (hf.get a2 h1)
    · exact Or.inr ⟨hf.get a2 (fun e => by have := h2 _ e; omega), a4⟩
theorem paI.fr {o o2 : Nat → Nat} {S : List Nat} {G G2 : ab_G} {z : Nat} {ps : Nat → Nat} {wt : Nat → Wt} {bs : Nat} {gr : Int} {Pr : Int → Prop} {ph : Int} (hf : fx o o2 S G G2) (h : paI o G z ps wt bs gr Pr ph) (h90 : ¬ 90 ∈ S) (h94 : ¬ 94 ∈ S) (h93 : ¬ 93 ∈ S) (h18 : ∀ l ∈ S, 18 ≤ l) : paI o2 G2 z ps wt bs gr Pr ph := by
  obtain ⟨a1, a2, a3, a4, a5, a6⟩ := h
  have b1 : ∀ a, ps a = 90 → paC o2 G2 ps gr Pr (wt a) a := by
    intro a ha
    obtain ⟨k, v, rg, pl, fl, ou, ls, bf, sz, mb, oe, le, mo, la, rc, c1, c2, c3, c4, c5, c6, c7⟩ := a1 a ha
    exact ⟨k, v, rg, pl, fl, ou, ls, bf, sz, mb, oe, le, mo, la, rc, hf.get c1 h90, c2, c3, c4.fr hf h93 h18, c5, c6.up hf.1, c7⟩
  refine ⟨b1, ?_, ?_, Nat.le_trans a4 hf.1, a5, a6⟩
  · intro a ha
    obtain ⟨ls, bf, sz, mb, c1, c2, c3, c4⟩ := a2 a ha
    exact ⟨ls, bf, sz, mb, hf.get c1 h94, c2, c3.up hf.1, c4⟩
  · have e1 : phi wt G2 bs (G2.length - bs) = phi wt G2 bs (G.length - bs) := by
      have := hf.1
      refine phi_off _ _ (fun i h1 h2 h3 => ?_) (by omega)
      by_cases q : ps (bs + i) = 90
      · obtain ⟨k, v, rg, pl, fl, ou, ls, bf, sz, mb, oe, le, mo, la, rc, c1, _⟩ := a1 _ q
        have := c1.lt
        omega
      · exact a5 _ q
    have e2 : phi wt G2 bs (G.length - bs) = phi wt G bs (G.length - bs) := by
      have key : ∀ i, i < G.length - bs → (if unr G2[bs + i]? then (wt (bs + i)).1 else 0) = (if unr G[bs + i]? then (wt (bs + i)).1 else 0) := by
        intro i hi
        by_cases q : ps (bs + i) = 90
        · obtain ⟨k, v, rg, pl, fl, ou, ls, bf, sz, mb, oe, le, mo, la, rc, c1, _⟩ := a1 _ q
          rw [(hf.get c1 h90).2.2, c1.2.2]
        · rw [a5 _ q]; simp
      have : ∀ n, n ≤ G.length - bs → phi wt G2 bs n = phi wt G bs n := by
        intro n
        induction n with
        | zero => intro _; rfl
        | succ n ih => intro hn; unfold phi; rw [ih (by omega), key n (by omega)]
      exact this _ (Nat.le_refl _)
    rw [e1, e2]; exact a3
theorem paI.recv {o : Nat → Nat} {G : ab_G} {z : Nat} {ps : Nat → Nat} {wt : Nat → Wt} {bs : Nat} {gr : Int} {Pr : Int → Prop} {ph : Int} (_h : paI o G z ps wt bs gr Pr ph) : True := trivial
theorem pa_kv {k v rg pl fl ou ls bf sz mb oe le mo la rc : _} {k2 v2 rg2 pl2 fl2 ou2 ls2 bf2 sz2 mb2 oe2 le2 mo2 la2 rc2 : _} (h : paE k v rg pl fl ou ls bf sz mb oe le mo la rc = paE k2 v2 rg2 pl2 fl2 ou2 ls2 bf2 sz2 mb2 oe2 le2 mo2 la2 rc2) : vz k = vz k2 ∧ rg = rg2 ∧ ou = ou2 ∧ ls = ls2 ∧ bf = bf2 ∧ vz rc = vz rc2 := by
  simp only [paE, ab_ob, Sum.inr.injEq, Prod.mk.injEq, List.cons.injEq, true_and] at h
  exact ⟨h.1, h.2.2.1, h.2.2.2.2.2.1, h.2.2.2.2.2.2.1, h.2.2.2.2.2.2.2.1, h.2.2.2.2.2.2.2.2.2.2.2.2.2.2.1⟩
theorem vz_inj {x y : Int} (hx : -2147483648 ≤ x ∧ x ≤ 2147483647) (hy : -2147483648 ≤ y ∧ y ≤ 2147483647) (h : vz x = vz y) : x = y := (z_eq hx hy).mp (Value.int.inj h)
theorem unr_pa {k v rg pl fl ou ls bf sz mb oe le mo la rc : _} : unr (some (paE k v rg pl fl ou ls bf sz mb oe le mo la rc)) = (Int32.ofInt rc == -1) := rfl
/-- a part is written: all but kind, value, ranges, record -/
theorem paI.w90 {o : Nat → Nat} {G G2 : ab_G} {z : Nat} {ps : Nat → Nat} {wt : Nat → Wt} {bs : Nat} {gr : Int} {Pr : Int → Prop} {ph : Int} {a : Nat} {k v : Int} {rg : Value} {pl fl : Int} {ou ls bf : Value} {sz mb oe le mo la rc : Int} {pl2 fl2 : Int} {ou2 ls2 bf2 : Value} {sz2 mb2 oe2 le2 mo2 la2 : Int} (h : paI o G z ps wt bs gr Pr ph) (hp : ps a = 90) (hc : cc o G a 90 (paE k v rg pl fl ou ls bf sz mb oe le mo la rc)) (hn : paN gr Pr k v rc) (e : G2 = List.set G a (paE k v rg pl2 fl2 ou2 ls2 bf2 sz2 mb2 oe2 le2 mo2 la2 rc)) (hb : pnB pl2 fl2 sz2 mb2 oe2 le2 mo2 la2) (h1 : plk ps 90 a ou2) (h2 : plk ps 94 G.length ls2) (h3 : plk ps 90 a bf2) : paI o G2 z ps wt bs gr Pr ph := by
  obtain ⟨a1, a2, a3, a4, a5, a6⟩ := h
  have hl : G2.length = G.length := z_len e
  have hf : ∀ b l E, ¬ b = a → cc o G b l E → cc o G2 b l E := fun b l E q c => c.keep' e (fun t => q t.symm)
  have hpr : ∀ k w rg, prg o G k w rg → prg o G2 k w rg := by
    intro k w rg q
    rcases q with q | ⟨hk, b, n, q, m, b1, b2, b3⟩
    · exact Or.inl q
    · refine Or.inr ⟨hk, b, n, q, m, b1, ?_, b3⟩
      rcases b2 with b2 | ⟨b2, b4⟩
      · exact Or.inl (hf _ _ _ (fun t => by rw [t] at b2; have := b2.1.symm.trans hc.1; omega) b2)
      · exact Or.inr ⟨hf _ _ _ (fun t => by have := hc.1; rw [← t] at this; have := b2.1; omega) b2, b4⟩
  refine ⟨fun b hb' => ?_, fun b hb' => ?_, ?_, by omega, a5, a6⟩
  · by_cases q : b = a
    · subst q
      obtain ⟨k', v', rg', pl', fl', ou', ls', bf', sz', mb', oe', le', mo', la', rc', c1, c2, c3, c4, c5, c6, c7⟩ := a1 b hb'
      have eq := Option.some.inj (c1.2.2.symm.trans hc.2.2)
      obtain ⟨q1, q2, -⟩ := pa_kv eq
      have ek : k' = k := vz_inj (by have := c2.1; omega) (by have := hn.1; omega) q1
      exact ⟨k, v, rg, pl2, fl2, ou2, ls2, bf2, sz2, mb2, oe2, le2, mo2, la2, rc, hc.kept e, hn, hb, hpr _ _ _ (by rw [← ek, ← q2]; exact c4), h1, by rw [hl]; exact h2, h3⟩
    · obtain ⟨k', v', rg', pl', fl', ou', ls', bf', sz', mb', oe', le', mo', la', rc', c1, c2, c3, c4, c5, c6, c7⟩ := a1 b hb'
      exact ⟨k', v', rg', pl', fl', ou', ls', bf', sz', mb', oe', le', mo', la', rc', hf _ _ _ q c1, c2, c3, hpr _ _ _ c4, c5, by rw [hl]; exact c6, c7⟩
  · obtain ⟨ls, bf, sz, mb, c1, c2, c3, c4⟩ := a2 b hb'
    exact ⟨ls, bf, sz, mb, hf _ _ _ (fun t => by rw [t] at c1; have := c1.1.symm.trans hc.1; omega) c1, c2, by rw [hl]; exact c3, c4⟩
  · rw [hl, e, phi_eq (wt := wt) (G := G) _ (fun i hi => ⟨?_, rfl⟩)]
    · exact a3
    · by_cases q : bs + i = a
      · rw [q, List.getElem?_set_self hc.lt, hc.2.2]; rfl
      · rw [List.getElem?_set_ne (by omega)]
/-- a row is written -/
theorem paI.w94 {o : Nat → Nat} {G G2 : ab_G} {z : Nat} {ps : Nat → Nat} {wt : Nat → Wt} {bs : Nat} {gr : Int} {Pr : Int → Prop} {ph : Int} {a : Nat} {ls bf : Value} {sz mb : Int} {ls2 bf2 : Value} {sz2 mb2 : Int} (h : paI o G z ps wt bs gr Pr ph) (hp : ps a = 94) (hc : cc o G a 94 (paE 5 0 vN (-1) 0 vN ls bf sz mb 0 0 0 0 (-1))) (e : G2 = List.set G a (paE 5 0 vN (-1) 0 vN ls2 bf2 sz2 mb2 0 0 0 0 (-1))) (hb : (0 ≤ sz2 ∧ sz2 ≤ 1000000) ∧ (0 ≤ mb2 ∧ mb2 ≤ 1)) (h2 : plk ps 90 G.length ls2) (h3 : plk ps 94 a bf2) : paI o G2 z ps wt bs gr Pr ph := by
  obtain ⟨a1, a2, a3, a4, a5, a6⟩ := h
  have hl : G2.length = G.length := z_len e
  have hf : ∀ b l E, ¬ b = a → cc o G b l E → cc o G2 b l E := fun b l E q c => c.keep' e (fun t => q t.symm)
  have hpr : ∀ k w rg, prg o G k w rg → prg o G2 k w rg := by
    intro k w rg q
    rcases q with q | ⟨hk, b, n, q, m, b1, b2, b3⟩
    · exact Or.inl q
    · refine Or.inr ⟨hk, b, n, q, m, b1, ?_, b3⟩
      rcases b2 with b2 | ⟨b2, b4⟩
      · exact Or.inl (hf _ _ _ (fun t => by rw [t] at b2; have := b2.1.symm.trans hc.1; omega) b2)
      · exact Or.inr ⟨hf _ _ _ (fun t => by have := hc.1; rw [← t] at this; have := b2.1; omega) b2, b4⟩
  refine ⟨fun b hb' => ?_, fun b hb' => ?_, ?_, by omega, a5, a6⟩
  · obtain ⟨k', v', rg', pl', fl', ou', ls', bf', sz', mb', oe', le', mo', la', rc', c1, c2, c3, c4, c5, c6, c7⟩ := a1 b hb'
    exact ⟨k', v', rg', pl', fl', ou', ls', bf', sz', mb', oe', le', mo', la', rc', hf _ _ _ (fun t => by rw [t] at c1; have := c1.1.symm.trans hc.1; omega) c1, c2, c3, hpr _ _ _ c4, c5, by rw [hl]; exact c6, c7⟩
  · by_cases q : b = a
    · subst q
      exact ⟨ls2, bf2, sz2, mb2, hc.kept e, hb, by rw [hl]; exact h2, h3⟩
    · obtain ⟨ls, bf, sz, mb, c1, c2, c3, c4⟩ := a2 b hb'
      exact ⟨ls, bf, sz, mb, hf _ _ _ q c1, c2, by rw [hl]; exact c3, c4⟩
  · rw [hl, e, phi_eq (wt := wt) (G := G) _ (fun i hi => ⟨?_, rfl⟩)]
    · exact a3
    · by_cases q : bs + i = a
      · rw [q, List.getElem?_set_self hc.lt, hc.2.2]; rfl
      · rw [List.getElem?_set_ne (by omega)]
theorem paC.ps {o : Nat → Nat} {G : ab_G} {ps ps2 : Nat → Nat} {gr gr2 : Int} {Pr : Int → Prop} {w : Wt} {a : Nat} (h : paC o G ps gr Pr w a) (hx : psx ps ps2 G.length) (hg : gr ≤ gr2) : paC o G ps2 gr2 Pr w a := by
  obtain ⟨k, v, rg, pl, fl, ou, ls, bf, sz, mb, oe, le, mo, la, rc, c1, c2, c3, c4, c5, c6, c7⟩ := h
  have := c1.lt
  exact ⟨k, v, rg, pl, fl, ou, ls, bf, sz, mb, oe, le, mo, la, rc, c1, ⟨c2.1, c2.2.1, c2.2.2.1, fun e => by have := c2.2.2.2.1 e; omega, c2.2.2.2.2⟩, c3, c4, c5.ps (by omega) hx, c6.ps (Nat.le_refl _) hx, c7.ps (by omega) hx⟩
theorem rwC.ps {o : Nat → Nat} {G : ab_G} {ps ps2 : Nat → Nat} {a : Nat} (h : rwC o G ps a) (hx : psx ps ps2 G.length) : rwC o G ps2 a := by
  obtain ⟨ls, bf, sz, mb, c1, c2, c3, c4⟩ := h
  have := c1.lt
  exact ⟨ls, bf, sz, mb, c1, c2, c3.ps (Nat.le_refl _) hx, c4.ps (by omega) hx⟩
/-- more groups -/
theorem paI.gr {o : Nat → Nat} {G : ab_G} {z : Nat} {ps : Nat → Nat} {wt : Nat → Wt} {bs : Nat} {gr gr2 : Int} {Pr : Int → Prop} {ph ph2 : Int} (h : paI o G z ps wt bs gr Pr ph) (hg : gr ≤ gr2) (hp : ph ≤ ph2) : paI o G z ps wt bs gr2 Pr ph2 :=
  ⟨fun a ha => (h.1 a ha).ps psx.rf hg, h.2.1, by have := h.2.2.1; omega, h.2.2.2.1, h.2.2.2.2⟩
/-- one part more: the cell that was made last, or any that is no part yet -/
theorem paI.ad90 {o : Nat → Nat} {G : ab_G} {z : Nat} {ps : Nat → Nat} {wt : Nat → Wt} {bs : Nat} {gr : Int} {Pr : Int → Prop} {ph : Int} {a : Nat} {k v : Int} {rg : Value} {pl fl : Int} {ou ls bf : Value} {sz mb oe le mo la rc : Int} (w : Wt) (h : paI o G z ps wt bs gr Pr ph) (hp : ¬ ps a = 90 ∧ ¬ ps a = 94) (hbs : bs ≤ a) (hc : cc o G a 90 (paE k v rg pl fl ou ls bf sz mb oe le mo la rc)) (hn : paN gr Pr k v rc) (hb : pnB pl fl sz mb oe le mo la) (hg : prg o G k w rg) (h1 : plk ps 90 a ou) (h2 : plk ps 94 G.length ls) (h3 : plk ps 90 a bf) : paI o G z (ol ps a 90) (olw wt a w) bs gr Pr (ph + w.1) := by
  obtain ⟨a1, a2, a3, a4, a5, a6⟩ := h
  have hal := hc.lt
  have tr : ∀ l hi v, l = 90 ∨ l = 94 → plk ps l hi v → plk (ol ps a 90) l hi v := by
    intro l hi v hl q
    rcases q with q | ⟨b, b1, b2, b3⟩
    · exact Or.inl q
    · refine Or.inr ⟨b, b1, ?_, b3⟩
      unfold ol
      rw [if_neg (fun t => by rw [t] at b2; rcases hl with t | t <;> rw [t] at b2 <;> omega)]
      exact b2
  refine ⟨fun b hb' => ?_, fun b hb' => ?_, ?_, a4, fun b hb' => ?_, fun b hb' => ?_⟩
  · by_cases q : b = a
    · subst q
      rw [olw_self]
      exact ⟨k, v, rg, pl, fl, ou, ls, bf, sz, mb, oe, le, mo, la, rc, hc, hn, hb, hg, tr _ _ _ (Or.inl rfl) h1, tr _ _ _ (Or.inr rfl) h2, tr _ _ _ (Or.inl rfl) h3⟩
    · unfold ol at hb'
      rw [if_neg q] at hb'
      obtain ⟨k', v', rg', pl', fl', ou', ls', bf', sz', mb', oe', le', mo', la', rc', c1, c2, c3, c4, c5, c6, c7⟩ := a1 b hb'
      have ew : olw wt a w b = wt b := if_neg q
      rw [ew]
      exact ⟨k', v', rg', pl', fl', ou', ls', bf', sz', mb', oe', le', mo', la', rc', c1, c2, c3, c4, tr _ _ _ (Or.inl rfl) c5, tr _ _ _ (Or.inr rfl) c6, tr _ _ _ (Or.inl rfl) c7⟩
  · have q : ¬ b = a := fun t => by rw [t, ol_self] at hb'; omega
    unfold ol at hb'
    rw [if_neg q] at hb'
    obtain ⟨ls, bf, sz, mb, c1, c2, c3, c4⟩ := a2 b hb'
    exact ⟨ls, bf, sz, mb, c1, c2, tr _ _ _ (Or.inl rfl) c3, tr _ _ _ (Or.inr rfl) c4⟩
  · have : ∀ n, (phi (olw wt a w) G bs n : Int) ≤ phi wt G bs n + w.1 := by
      have e : ∀ n, phi (olw wt a w) G bs n = phi wt G bs n + (if bs ≤ a ∧ a < bs + n ∧ unr G[a]? = true then w.1 else 0) := by
        intro n
        induction n with
        | zero => show 0 = 0 + _; rw [if_neg (by omega)]
        | succ n ih =>
          unfold phi
          rw [ih]
          by_cases q : bs + n = a
          · have ew : olw wt a w (bs + n) = w := if_pos q
            have ez : (wt (bs + n)).1 = 0 := by rw [q]; exact a5 a hp.1
            rw [ew, ez, if_neg (show ¬ (bs ≤ a ∧ a < bs + n ∧ unr G[a]? = true) by omega), q]
            by_cases u : unr G[a]? = true
            · rw [if_pos (c := bs ≤ a ∧ a < bs + (n + 1) ∧ unr G[a]? = true) ⟨by omega, by omega, u⟩]; simp [u]
            · rw [if_neg (c := bs ≤ a ∧ a < bs + (n + 1) ∧ unr G[a]? = true) (fun t => u t.2.2)]; simp [u]
          · have ew : olw wt a w (bs + n) = wt (bs + n) := if_neg q
            rw [ew]
            by_cases u : bs ≤ a ∧ a < bs + n ∧ unr G[a]? = true
            · rw [if_pos u, if_pos (c := bs ≤ a ∧ a < bs + (n + 1) ∧ unr G[a]? = true) ⟨u.1, by omega, u.2.2⟩]; omega
            · rw [if_neg u, if_neg (c := bs ≤ a ∧ a < bs + (n + 1) ∧ unr G[a]? = true) (fun t => u ⟨t.1, by omega, t.2.2⟩)]; omega
      intro n
      rw [e n]
      split <;> omega
    have := this (G.length - bs)
    omega
  · unfold ol at hb'
    unfold olw
    by_cases q : b = a
    · rw [if_pos q] at hb'; exact absurd rfl hb'
    · rw [if_neg q] at hb' ⊢; exact a5 b hb'
  · by_cases q : b = a
    · omega
    · unfold ol at hb'; rw [if_neg q] at hb'; exact a6 b hb'
theorem paI.ad94 {o : Nat → Nat} {G : ab_G} {z : Nat} {ps : Nat → Nat} {wt : Nat → Wt} {bs : Nat} {gr : Int} {Pr : Int → Prop} {ph : Int} {a : Nat} {ls bf : Value} {sz mb : Int} (h : paI o G z ps wt bs gr Pr ph) (hp : ¬ ps a = 90 ∧ ¬ ps a = 94) (hc : cc o G a 94 (paE 5 0 vN (-1) 0 vN ls bf sz mb 0 0 0 0 (-1))) (hb : (0 ≤ sz ∧ sz ≤ 1000000) ∧ (0 ≤ mb ∧ mb ≤ 1)) (h2 : plk ps 90 G.length ls) (h3 : plk ps 94 a bf) : paI o G z (ol ps a 94) wt bs gr Pr ph := by
  obtain ⟨a1, a2, a3, a4, a5, a6⟩ := h
  have tr : ∀ l hi v, l = 90 ∨ l = 94 → plk ps l hi v → plk (ol ps a 94) l hi v := by
    intro l hi v hl q
    rcases q with q | ⟨b, b1, b2, b3⟩
    · exact Or.inl q
    · refine Or.inr ⟨b, b1, ?_, b3⟩
      unfold ol
      rw [if_neg (fun t => by rw [t] at b2; rcases hl with t | t <;> rw [t] at b2 <;> omega)]
      exact b2
  refine ⟨fun b hb' => ?_, fun b hb' => ?_, a3, a4, fun b hb' => ?_, fun b hb' => ?_⟩
  · have q : ¬ b = a := fun t => by rw [t, ol_self] at hb'; omega
    unfold ol at hb'
    rw [if_neg q] at hb'
    obtain ⟨k', v', rg', pl', fl', ou', ls', bf', sz', mb', oe', le', mo', la', rc', c1, c2, c3, c4, c5, c6, c7⟩ := a1 b hb'
    exact ⟨k', v', rg', pl', fl', ou', ls', bf', sz', mb', oe', le', mo', la', rc', c1, c2, c3, c4, tr _ _ _ (Or.inl rfl) c5, tr _ _ _ (Or.inr rfl) c6, tr _ _ _ (Or.inl rfl) c7⟩
  · by_cases q : b = a
    · subst q
      exact ⟨ls, bf, sz, mb, hc, hb, tr _ _ _ (Or.inl rfl) h2, tr _ _ _ (Or.inr rfl) h3⟩
    · unfold ol at hb'
      rw [if_neg q] at hb'
      obtain ⟨ls, bf, sz, mb, c1, c2, c3, c4⟩ := a2 b hb'
      exact ⟨ls, bf, sz, mb, c1, c2, tr _ _ _ (Or.inl rfl) c3, tr _ _ _ (Or.inr rfl) c4⟩
  · by_cases q : b = a
    · rw [q]; exact a5 a hp.1
    · unfold ol at hb'; rw [if_neg q] at hb'; exact a5 b hb'
  · have q : ¬ b = a := fun t => by rw [t, ol_self] at hb'; omega
    unfold ol at hb'; rw [if_neg q] at hb'; exact a6 b hb'
theorem paI.new {o : Nat → Nat} {G : ab_G} {z : Nat} {ps : Nat → Nat} {wt : Nat → Wt} {bs : Nat} {gr : Int} {Pr : Int → Prop} {ph : Int} {a : Nat} (h : paI o G z ps wt bs gr Pr ph) (ha : G.length ≤ a) : ¬ ps a = 90 ∧ ¬ ps a = 94 :=
  ⟨fun q => by obtain ⟨k, v, rg, pl, fl, ou, ls, bf, sz, mb, oe, le, mo, la, rc, c1, _⟩ := h.1 a q; have := c1.lt; omega, fun q => by obtain ⟨ls, bf, sz, mb, c1, _⟩ := h.2.1 a q; have := c1.lt; omega⟩
/-- only some of the parts are written -/
def fz (ps : Nat → Nat) (A : List Nat) (G G2 : ab_G) : Prop := ∀ x, (ps x = 90 ∨ ps x = 94) → ¬ x ∈ A → G2[x]? = G[x]?
theorem fz.rf {ps : Nat → Nat} {A : List Nat} {G : ab_G} : fz ps A G G := fun _ _ _ => rfl
theorem fz.wr {ps : Nat → Nat} {A : List Nat} {G G1 G2 : ab_G} {a : Nat} {E : ab_E} (h : fz ps A G G1) (e : G2 = List.set G1 a E) (hm : a ∈ A) : fz ps A G G2 := fun x h1 h2 => by
  have hne : a ≠ x := fun t => h2 (by rw [← t]; exact hm)
  rw [e, List.getElem?_set_ne hne]; exact h x h1 h2
theorem fz.tr {ps : Nat → Nat} {A B : List Nat} {G G1 G2 : ab_G} (h : fz ps A G G1) (h2 : fz ps B G1 G2) (hs : ∀ x ∈ B, x ∈ A) : fz ps A G G2 := fun x h3 h4 => (h2 x h3 (fun t => h4 (hs x t))).trans (h x h3 h4)
theorem fz.get {o o2 : Nat → Nat} {S A : List Nat} {ps : Nat → Nat} {G G2 : ab_G} {b l : Nat} {E : ab_E} (h : fz ps A G G2) (hf : fx o o2 S G G2) (hc : cc o G b l E) (hp : ps b = 90 ∨ ps b = 94) (hn : ¬ b ∈ A) : cc o2 G2 b l E := ⟨(hf.2.1 b hc.lt).trans hc.1, hc.2.1, (h b hp hn).trans hc.2.2⟩
theorem fz.wnp {ps : Nat → Nat} {A : List Nat} {G G1 G2 : ab_G} {a : Nat} {E : ab_E} (h : fz ps A G G1) (e : G2 = List.set G1 a E) (hm : ¬ ps a = 90 ∧ ¬ ps a = 94) : fz ps A G G2 := fun x h1 h2 => by rw [e, List.getElem?_set_ne (fun t => by rw [← t] at h1; rcases h1 with y | y; (exact hm.1 y); (exact hm.2 y))]; exact h x h1 h2
theorem fz.fx {o o2 : Nat → Nat} {S : List Nat} {G G2 : ab_G} {z : Nat} {ps : Nat → Nat} {wt : Nat → Wt} {bs : Nat} {gr : Int} {Pr : Int → Prop} {ph : Int} (hp : paI o G z ps wt bs gr Pr ph) (hf : fx o o2 S G G2) (h90 : ¬ 90 ∈ S) (h94 : ¬ 94 ∈ S) : fz ps [] G G2 := by
  intro x hq _
  rcases hq with q | q
  · obtain ⟨k, v, rg, pl, fl, ou, ls, bf, sz, mb, oe, le, mo, la, rc, c1, _⟩ := hp.1 x q
    rw [(hf.get c1 h90).2.2, c1.2.2]
  · obtain ⟨ls, bf, sz, mb, c1, _⟩ := hp.2.1 x q
    rw [(hf.get c1 h94).2.2, c1.2.2]
theorem fz.wl {o : Nat → Nat} {A : List Nat} {G G1 G2 : ab_G} {z : Nat} {ps : Nat → Nat} {wt : Nat → Wt} {bs : Nat} {gr : Int} {Pr : Int → Prop} {ph : Int} {a l : Nat} {E F : ab_E} (h : fz ps A G G1) (hp : paI o G1 z ps wt bs gr Pr ph) (hc : cc o G1 a l F) (e : G2 = List.set G1 a E) (hl : ¬ (l = 90 ∨ l = 94)) : fz ps A G G2 := by
  refine h.wnp e ⟨fun q => ?_, fun q => ?_⟩
  · obtain ⟨k, v, rg, pl, fl, ou, ls, bf, sz, mb, oe, le, mo, la, rc, c1, _⟩ := hp.1 a q
    exact hl (Or.inl (hc.1.symm.trans c1.1))
  · obtain ⟨ls, bf, sz, mb, c1, _⟩ := hp.2.1 a q
    exact hl (Or.inr (hc.1.symm.trans c1.1))
theorem fz.ap {o : Nat → Nat} {A : List Nat} {G G1 G2 : ab_G} {z : Nat} {ps : Nat → Nat} {wt : Nat → Wt} {bs : Nat} {gr : Int} {Pr : Int → Prop} {ph : Int} {E : ab_E} (h : fz ps A G G1) (hp : paI o G1 z ps wt bs gr Pr ph) (e : G2 = G1 ++ [E]) : fz ps A G G2 := by
  intro x hq hn
  have hx : x < G1.length := by
    rcases hq with q | q
    · obtain ⟨k, v, rg, pl, fl, ou, ls, bf, sz, mb, oe, le, mo, la, rc, c1, _⟩ := hp.1 x q
      exact c1.lt
    · obtain ⟨ls, bf, sz, mb, c1, _⟩ := hp.2.1 x q
      exact c1.lt
  rw [e, List.getElem?_append_left hx]
  exact h x hq hn
/-- a cell that bears a part's label and is none yet is written -/
theorem paI.wnp {o : Nat → Nat} {G G2 : ab_G} {z : Nat} {ps : Nat → Nat} {wt : Nat → Wt} {bs : Nat} {gr : Int} {Pr : Int → Prop} {ph : Int} {a l : Nat} {E F : ab_E} (h : paI o G z ps wt bs gr Pr ph) (hp : ¬ ps a = 90 ∧ ¬ ps a = 94) (hc : cc o G a l F) (e : G2 = List.set G a E) (hl : l = 90 ∨ l = 94) : paI o G2 z ps wt bs gr Pr ph := by
  obtain ⟨a1, a2, a3, a4, a5, a6⟩ := h
  have hln : G2.length = G.length := z_len e
  have hf : ∀ b l E, ¬ b = a → cc o G b l E → cc o G2 b l E := fun b l E q c => c.keep' e (fun t => q t.symm)
  have hpr : ∀ k w rg, prg o G k w rg → prg o G2 k w rg := by
    intro k w rg q
    rcases q with q | ⟨hk, b, n, q, m, b1, b2, b3⟩
    · exact Or.inl q
    · refine Or.inr ⟨hk, b, n, q, m, b1, ?_, b3⟩
      rcases b2 with b2 | ⟨b2, b4⟩
      · exact Or.inl (hf _ _ _ (fun t => by rw [t] at b2; have := b2.1.symm.trans hc.1; omega) b2)
      · exact Or.inr ⟨hf _ _ _ (fun t => by have := hc.1; rw [← t] at this; have := b2.1; omega) b2, b4⟩
  refine ⟨fun b hb' => ?_, fun b hb' => ?_, ?_, by omega, a5, a6⟩
  · have q : ¬ b = a := fun t => hp.1 (t ▸ hb')
    obtain ⟨k', v', rg', pl', fl', ou', ls', bf', sz', mb', oe', le', mo', la', rc', c1, c2, c3, c4, c5, c6, c7⟩ := a1 b hb'
    exact ⟨k', v', rg', pl', fl', ou', ls', bf', sz', mb', oe', le', mo', la', rc', hf _ _ _ q c1, c2, c3, hpr _ _ _ c4, c5, by rw [hln]; exact c6, c7⟩
  · have q : ¬ b = a := fun t => hp.2 (t ▸ hb')
    obtain ⟨ls, bf, sz, mb, c1, c2, c3, c4⟩ := a2 b hb'
    exact ⟨ls, bf, sz, mb, hf _ _ _ q c1, c2, by rw [hln]; exact c3, c4⟩
  · have e2 : ∀ n, phi wt G2 bs n = phi wt G bs n := by
      intro n
      induction n with
      | zero => rfl
      | succ n ih =>
        unfold phi
        rw [ih]
        by_cases q : bs + n = a
        · rw [q, a5 a hp.1]; simp
        · rw [e, List.getElem?_set_ne (by omega)]
    rw [hln, e2]; exact a3
/-- a field of a cell -/
def pf (G : ab_G) (a i : Nat) : Option Value := match G[a]? with
  | some (.inr (_, fs)) => fs[i]?
  | _ => none
/-- the groups that are open: k of them, the inner one is v; what stands in their last rows lies below hi -/
def opn (o : Nat → Nat) (G : ab_G) (ps : Nat → Nat) : Nat → Nat → Value → Prop
  | 0, _, v => v = vN
  | k + 1, hi, v => ∃ (g r : Nat) (w lv : Value), v = vR g ∧ (ps g = 90 ∧ ps r = 94) ∧ (g < r ∧ r < hi) ∧ pf G g 6 = some (vR r) ∧ pf G g 5 = some w ∧ pf G r 6 = some lv ∧ plk ps 90 hi lv ∧ opn o G ps k g w
def opI (o : Nat → Nat) (G : ab_G) (_z : Nat) (ps : Nat → Nat) (k hi : Nat) (v : Value) : Prop := opn o G ps k hi v
theorem pf_eq {G G2 : ab_G} {a i : Nat} (h : G2[a]? = G[a]?) : pf G2 a i = pf G a i := by unfold pf; rw [h]
theorem opn_eq {o o2 : Nat → Nat} {G G2 : ab_G} {ps : Nat → Nat} : ∀ k hi v, opn o G ps k hi v → (∀ x, x < hi → (ps x = 90 ∨ ps x = 94) → G2[x]? = G[x]?) → opn o2 G2 ps k hi v := by
  intro k
  induction k with
  | zero => intro hi v h _; exact h
  | succ k ih =>
    intro hi v h q
    obtain ⟨g, r, w, lv, h1, h2, h3, h4, h5, h6, h7, h8⟩ := h
    have eg := q g (by omega) (Or.inl h2.1)
    have er := q r h3.2 (Or.inr h2.2)
    exact ⟨g, r, w, lv, h1, h2, h3, by rw [pf_eq eg]; exact h4, by rw [pf_eq eg]; exact h5, by rw [pf_eq er]; exact h6, h7, ih g w h8 (fun x hx hp => q x (by omega) hp)⟩
theorem opn_up {o : Nat → Nat} {G : ab_G} {ps : Nat → Nat} {k hi hi2 : Nat} {v : Value} (h : opn o G ps k hi v) (hh : hi ≤ hi2) : opn o G ps k hi2 v := by
  cases k with
  | zero => exact h
  | succ k =>
    obtain ⟨g, r, w, lv, h1, h2, h3, h4, h5, h6, h7, h8⟩ := h
    exact ⟨g, r, w, lv, h1, h2, ⟨h3.1, by omega⟩, h4, h5, h6, h7.up hh, h8⟩
theorem opn_ps {o : Nat → Nat} {G : ab_G} {ps ps2 : Nat → Nat} : ∀ k hi v, opn o G ps k hi v → psx ps ps2 hi → opn o G ps2 k hi v := by
  intro k
  induction k with
  | zero => intro hi v h _; exact h
  | succ k ih =>
    intro hi v h q
    obtain ⟨g, r, w, lv, h1, h2, h3, h4, h5, h6, h7, h8⟩ := h
    exact ⟨g, r, w, lv, h1, ⟨by rw [q g (by omega)]; exact h2.1, by rw [q r h3.2]; exact h2.2⟩, h3, h4, h5, h6, h7.ps (Nat.le_refl _) q, ih g w h8 (q.lt (by omega))⟩
theorem opI.fr {o o2 : Nat → Nat} {S : List Nat} {G G2 : ab_G} {z : Nat} {ps : Nat → Nat} {wt : Nat → Wt} {bs : Nat} {gr : Int} {Pr : Int → Prop} {ph : Int} {k hi : Nat} {v : Value} (hf : fx o o2 S G G2) (hp : paI o G z ps wt bs gr Pr ph) (h : opI o G z ps k hi v) (h90 : ¬ 90 ∈ S) (h94 : ¬ 94 ∈ S) : opI o2 G2 z ps k hi v := by
  refine opn_eq k hi v h (fun x hx hq => ?_)
  rcases hq with q | q
  · obtain ⟨k, v, rg, pl, fl, ou, ls, bf, sz, mb, oe, le, mo, la, rc, c1, _⟩ := hp.1 x q
    rw [(hf.get c1 h90).2.2, c1.2.2]
  · obtain ⟨ls, bf, sz, mb, c1, _⟩ := hp.2.1 x q
    rw [(hf.get c1 h94).2.2, c1.2.2]
theorem opI.fz {o o2 : Nat → Nat} {A : List Nat} {G G2 : ab_G} {z : Nat} {ps : Nat → Nat} {k hi : Nat} {v : Value} (h : opI o G z ps k hi v) (hf : fz ps A G G2) (hA : ∀ a ∈ A, hi ≤ a) : opI o2 G2 z ps k hi v :=
  opn_eq k hi v h (fun x hx hq => hf x hq (fun t => by have := hA x t; omega))
theorem opI.wnp {o : Nat → Nat} {G G2 : ab_G} {z : Nat} {ps : Nat → Nat} {k hi a : Nat} {v : Value} {E : ab_E} (h : opI o G z ps k hi v) (e : G2 = List.set G a E) (hp : ¬ ps a = 90 ∧ ¬ ps a = 94) : opI o G2 z ps k hi v :=
  opn_eq k hi v h (fun x hx hq => by rw [e, List.getElem?_set_ne (fun t => by rw [← t] at hq; rcases hq with y | y; (exact hp.1 y); (exact hp.2 y))])
theorem opI.wge {o : Nat → Nat} {G G2 : ab_G} {z : Nat} {ps : Nat → Nat} {k hi a : Nat} {v : Value} {E : ab_E} (h : opI o G z ps k hi v) (e : G2 = List.set G a E) (hp : hi ≤ a) : opI o G2 z ps k hi v :=
  opn_eq k hi v h (fun x hx hq => by rw [e, List.getElem?_set_ne (by omega)])
theorem opn_pos {o : Nat → Nat} {G : ab_G} {z : Nat} {ps : Nat → Nat} {k hi b : Nat} (h : opI o G z ps k hi (vR b)) : 1 ≤ k := by
  cases k with
  | zero => exact absurd (show vR b = vN from h) (by intro t; cases t)
  | succ k => omega
theorem paI_none {o : Nat → Nat} {G : ab_G} {Pr : Int → Prop} : paI o G 0 (fun _ => 0) (fun _ => (0, fun _ => False)) G.length 0 Pr 0 := by
  refine ⟨fun a h => absurd (show (0 : Nat) = 90 from h) (by decide), fun a h => absurd (show (0 : Nat) = 94 from h) (by decide), ?_, Nat.le_refl _, fun _ _ => rfl, fun a h => absurd (show (0 : Nat) = 90 from h) (by decide)⟩
  rw [Nat.sub_self]; exact Int.le_refl _
theorem paI.lt {o : Nat → Nat} {G : ab_G} {z : Nat} {ps : Nat → Nat} {wt : Nat → Wt} {bs : Nat} {gr : Int} {Pr : Int → Prop} {ph : Int} {a : Nat} (h : paI o G z ps wt bs gr Pr ph) (ha : ps a = 90) : a < G.length := by
  obtain ⟨k, v, rg, pl, fl, ou, ls, bf, sz, mb, oe, le, mo, la, rc, c1, _⟩ := h.1 a ha
  exact c1.lt
def pr0 (r : Int) : Prop := r = -1
theorem pr0_ : pr0 (-1) := rfl
/-- the tables of kinds -/
def zTL : Nat → List Int
  | 1 => [48, 57] | 2 => [9, 10, 12, 13, 32, 32] | 3 => [48, 57, 65, 90, 95, 95, 97, 122] | 4 => [65, 90, 97, 122, 170, 170, 181, 181, 186, 186, 192, 214, 216, 246, 248, 687, 880, 1279]
  | 5 => [48, 57, 178, 179, 185, 185, 188, 190] | 6 => [880, 1023] | 7 => [1024, 1279] | 8 => [65, 90, 97, 122] | 9 => [65, 90] | 10 => [97, 122] | 11 => [33, 47, 58, 64, 91, 96, 123, 126] | 12 => [9, 13, 32, 32] | 13 => [0, 55295, 57344, 1114111] | 14 => [0, 9, 11, 55295, 57344, 1114111] | _ => []
def tbI (o : Nat → Nat) (G : ab_G) (_z : Nat) : Prop := ∀ k : Nat, 1 ≤ k → k ≤ 14 → cc o G k k (za (zTL k).length (fun i => (zTL k).getD i.toNat 0))
theorem tbI.fr {o o2 : Nat → Nat} {S : List Nat} {G G2 : ab_G} {z : Nat} (hf : fx o o2 S G G2) (h : tbI o G z) (h18 : ∀ l ∈ S, 18 ≤ l) : tbI o2 G2 z := fun k h1 h2 => hf.get (h k h1 h2) (fun e => by have := h18 _ e; omega)
def canB (l : List Int) : Bool := (List.range (l.length / 2)).all (fun i => decide (0 ≤ l.getD (2 * i) 0 ∧ l.getD (2 * i) 0 ≤ l.getD (2 * i + 1) 0 ∧ l.getD (2 * i + 1) 0 ≤ 1114111) && (decide (l.length / 2 ≤ i + 1) || decide (l.getD (2 * i + 1) 0 + 1 < l.getD (2 * (i + 1)) 0)))
theorem canB_ok {l : List Int} (h : canB l = true) : cs_can (fun i => l.getD i.toNat 0) ((l.length / 2 : Nat) : Int) := by
  intro i h0 h1
  have q := List.all_eq_true.mp h i.toNat (List.mem_range.mpr (by omega))
  rw [Bool.and_eq_true, decide_eq_true_iff, Bool.or_eq_true, decide_eq_true_iff, decide_eq_true_iff] at q
  have e0 : (2 * i).toNat = 2 * i.toNat := by omega
  have e1 : (2 * i + 1).toNat = 2 * i.toNat + 1 := by omega
  have e2 : (2 * (i + 1)).toNat = 2 * (i.toNat + 1) := by omega
  show 0 ≤ l.getD (2 * i).toNat 0 ∧ l.getD (2 * i).toNat 0 ≤ l.getD (2 * i + 1).toNat 0 ∧ l.getD (2 * i + 1).toNat 0 ≤ 1114111 ∧ (i + 1 < _ → l.getD (2 * i + 1).toNat 0 + 1 < l.getD (2 * (i + 1)).toNat 0)
  rw [e0, e1, e2]
  exact ⟨q.1.1, q.1.2.1, q.1.2.2, fun t => by rcases q.2 with y | y <;> omega⟩
theorem zTL_ok : ∀ k : Nat, k < 15 → canB (zTL k) = true ∧ (zTL k).length ≤ 18 ∧ (zTL k).length % 2 = 0 := by decide +kernel
theorem tbI.at {o : Nat → Nat} {G : ab_G} {z : Nat} (h : tbI o G z) (k : Nat) (h1 : 1 ≤ k) (h2 : k ≤ 14) : ∃ (w : Nat) (q : Int → Int) (m : Int), cc o G k k (za w q) ∧ (↑w = 2 * m ∧ 0 ≤ m ∧ m ≤ 9) ∧ cs_can q m := by
  have t := zTL_ok k (by omega)
  exact ⟨_, _, (((zTL k).length / 2 : Nat) : Int), h k h1 h2, by omega, canB_ok t.1⟩
/-! building: a part's record is written -/
theorem paI.pr {o : Nat → Nat} {G : ab_G} {z : Nat} {ps : Nat → Nat} {wt : Nat → Wt} {bs : Nat} {gr : Int} {Pr Pr2 : Int → Prop} {ph : Int} (h : paI o G z ps wt bs gr Pr ph) (hp : ∀ r, Pr r → Pr2 r) : paI o G z ps wt bs gr Pr2 ph := by
  refine ⟨fun a ha => ?_, h.2⟩
  obtain ⟨k, v, rg, pl, fl, ou, ls, bf, sz, mb, oe, le, mo, la, rc, c1, c2, c3⟩ := h.1 a ha
  exact ⟨k, v, rg, pl, fl, ou, ls, bf, sz, mb, oe, le, mo, la, rc, c1, ⟨c2.1, c2.2.1, c2.2.2.1, c2.2.2.2.1, hp _ c2.2.2.2.2⟩, c3⟩
theorem paI.wrec {o : Nat → Nat} {G G2 : ab_G} {z : Nat} {ps : Nat → Nat} {wt : Nat → Wt} {bs : Nat} {gr : Int} {Pr : Int → Prop} {ph : Int} {a : Nat} {k v : Int} {rg : Value} {pl fl : Int} {ou ls bf : Value} {sz mb oe le mo la r : Int} (h : paI o G z ps wt bs gr Pr ph) (hp : ps a = 90) (hc : cc o G a 90 (paE k v rg pl fl ou ls bf sz mb oe le mo la (-1))) (hk : 0 ≤ k ∧ k ≤ 4 ∧ -1 ≤ v ∧ v ≤ 1114111) (e : G2 = List.set G a (paE k v rg pl fl ou ls bf sz mb oe le mo la r)) (hr : Pr r) (hr2 : 0 ≤ r ∧ r ≤ 100000) : paI o G2 z ps wt bs gr Pr (ph - (wt a).1) := by
  obtain ⟨a1, a2, a3, a4, a5, a6⟩ := h
  have hl : G2.length = G.length := z_len e
  have hf : ∀ b l E, ¬ b = a → cc o G b l E → cc o G2 b l E := fun b l E q c => c.keep' e (fun t => q t.symm)
  have hpr : ∀ k w rg, prg o G k w rg → prg o G2 k w rg := by
    intro k w rg q
    rcases q with q | ⟨hk, b, n, q, m, b1, b2, b3⟩
    · exact Or.inl q
    · refine Or.inr ⟨hk, b, n, q, m, b1, ?_, b3⟩
      rcases b2 with b2 | ⟨b2, b4⟩
      · exact Or.inl (hf _ _ _ (fun t => by rw [t] at b2; have := b2.1.symm.trans hc.1; omega) b2)
      · exact Or.inr ⟨hf _ _ _ (fun t => by have := hc.1; rw [← t] at this; have := b2.1; omega) b2, b4⟩
  refine ⟨fun b hb' => ?_, fun b hb' => ?_, ?_, by omega, a5, a6⟩
  · by_cases q : b = a
    · subst q
      obtain ⟨k', v', rg', pl', fl', ou', ls', bf', sz', mb', oe', le', mo', la', rc', c1, c2, c3, c4, c5, c6, c7⟩ := a1 b hb'
      have eq := Option.some.inj (c1.2.2.symm.trans hc.2.2)
      simp only [paE, ab_ob, Sum.inr.injEq, Prod.mk.injEq, List.cons.injEq, true_and] at eq
      obtain ⟨e1, e2, e3, e4, e5, e6, e7, e8, e9, e10, e11, e12, e13, e14, e15, -⟩ := eq
      have ek : k' = k := vz_inj (by have := c2.1; omega) (by omega) e1
      have ev : v' = v := vz_inj (by have := c2.1; omega) (by omega) e2
      have hcell : cc o G2 b 90 (paE k' v' rg' pl' fl' ou' ls' bf' sz' mb' oe' le' mo' la' r) := by
        have := hc.kept e
        simp only [paE, ab_ob] at this ⊢
        rw [e1, e2, e3, e4, e5, e6, e7, e8, e9, e10, e11, e12, e13, e14]
        exact this
      exact ⟨k', v', rg', pl', fl', ou', ls', bf', sz', mb', oe', le', mo', la', r, hcell, ⟨⟨c2.1.1, c2.1.2.1, c2.1.2.2.1, c2.1.2.2.2.1, by omega, hr2.2⟩, c2.2.1, c2.2.2.1, c2.2.2.2.1, hr⟩, c3, hpr _ _ _ c4, c5, by rw [hl]; exact c6, c7⟩
    · obtain ⟨k', v', rg', pl', fl', ou', ls', bf', sz', mb', oe', le', mo', la', rc', c1, c2, c3, c4, c5, c6, c7⟩ := a1 b hb'
      exact ⟨k', v', rg', pl', fl', ou', ls', bf', sz', mb', oe', le', mo', la', rc', hf _ _ _ q c1, c2, c3, hpr _ _ _ c4, c5, by rw [hl]; exact c6, c7⟩
  · obtain ⟨ls, bf, sz, mb, c1, c2, c3, c4⟩ := a2 b hb'
    exact ⟨ls, bf, sz, mb, hf _ _ _ (fun t => by rw [t] at c1; have := c1.1.symm.trans hc.1; omega) c1, c2, by rw [hl]; exact c3, c4⟩
  · have h1 : unr G[a]? = true := by rw [hc.2.2]; rfl
    have h2 : unr (some (paE k v rg pl fl ou ls bf sz mb oe le mo la r)) = false := by
      rw [unr_pa]
      have : ¬ Int32.ofInt r = -1 := fun t => by
        have := (z_eq (x := r) (y := -1) (by omega) (by decide)).mp (t.trans (by decide))
        omega
      simpa using this
    have := phi_rec (wt := wt) (lo := bs) hc.lt h1 h2 (G.length - bs) (a6 a hp) (by have := hc.lt; omega)
    rw [hl, e]
    omega
/-- the parts are as they were, but for their records -/
def fzr (ps : Nat → Nat) (o o2 : Nat → Nat) (G G2 : ab_G) : Prop := ∀ (x : Nat) (k v : Int) (rg : Value) (pl fl : Int) (ou ls bf : Value) (sz mb oe le mo la rc : Int), ps x = 90 → cc o G x 90 (paE k v rg pl fl ou ls bf sz mb oe le mo la rc) → ∃ rc2, cc o2 G2 x 90 (paE k v rg pl fl ou ls bf sz mb oe le mo la rc2)
theorem fzr.rf {ps o : Nat → Nat} {G : ab_G} : fzr ps o o G G := fun _ _ _ _ _ _ _ _ _ _ _ _ _ _ _ rc _ h => ⟨rc, h⟩
theorem fzr.tr {ps o o2 o3 : Nat → Nat} {G G2 G3 : ab_G} (h : fzr ps o o2 G G2) (h2 : fzr ps o2 o3 G2 G3) : fzr ps o o3 G G3 := fun x k v rg pl fl ou ls bf sz mb oe le mo la rc hp hc => by
  obtain ⟨r2, q⟩ := h x k v rg pl fl ou ls bf sz mb oe le mo la rc hp hc
  exact h2 x k v rg pl fl ou ls bf sz mb oe le mo la r2 hp q
theorem fzr.fx {ps o o2 : Nat → Nat} {S : List Nat} {G G2 : ab_G} (h : fx o o2 S G G2) (hn : ¬ 90 ∈ S) : fzr ps o o2 G G2 := fun _ _ _ _ _ _ _ _ _ _ _ _ _ _ _ rc _ hc => ⟨rc, h.get hc hn⟩
theorem fzr.wr {ps o o2 : Nat → Nat} {G G1 G2 : ab_G} {a l : Nat} {E F : ab_E} (h : fzr ps o o2 G G1) (hc : cc o2 G1 a l F) (e : G2 = List.set G1 a E) (hl : ¬ l = 90) : fzr ps o o2 G G2 := fun x k v rg pl fl ou ls bf sz mb oe le mo la rc hp hx => by
  obtain ⟨r2, q⟩ := h x k v rg pl fl ou ls bf sz mb oe le mo la rc hp hx
  exact ⟨r2, q.keep hc e hl⟩
theorem fzr.ap {ps o o2 : Nat → Nat} {G G1 G2 : ab_G} {k : Nat} {E : ab_E} (h : fzr ps o o2 G G1) (e : G2 = G1 ++ [E]) : fzr ps o (ol o2 G1.length k) G G2 := fun x k v rg pl fl ou ls bf sz mb oe le mo la rc hp hx => by
  obtain ⟨r2, q⟩ := h x k v rg pl fl ou ls bf sz mb oe le mo la rc hp hx
  exact ⟨r2, q.akeep e⟩
theorem fzr.wrec {ps o o2 : Nat → Nat} {G G1 G2 : ab_G} {a : Nat} {k v : Int} {rg : Value} {pl fl : Int} {ou ls bf : Value} {sz mb oe le mo la rc r : Int} (h : fzr ps o o2 G G1) (hc : cc o2 G1 a 90 (paE k v rg pl fl ou ls bf sz mb oe le mo la rc)) (e : G2 = List.set G1 a (paE k v rg pl fl ou ls bf sz mb oe le mo la r)) : fzr ps o o2 G G2 := fun x k' v' rg' pl' fl' ou' ls' bf' sz' mb' oe' le' mo' la' rc' hp hx => by
  obtain ⟨r2, q⟩ := h x k' v' rg' pl' fl' ou' ls' bf' sz' mb' oe' le' mo' la' rc' hp hx
  by_cases t : x = a
  · subst t
    have eq := Option.some.inj (q.2.2.symm.trans hc.2.2)
    simp only [paE, ab_ob, Sum.inr.injEq, Prod.mk.injEq, List.cons.injEq, true_and] at eq
    obtain ⟨e1, e2, e3, e4, e5, e6, e7, e8, e9, e10, e11, e12, e13, e14, -⟩ := eq
    refine ⟨r, ?_⟩
    have := hc.kept e
    simp only [paE, ab_ob] at this ⊢
    rw [e1, e2, e3, e4, e5, e6, e7, e8, e9, e10, e11, e12, e13, e14]
    exact this
  · exact ⟨r2, q.keep' e (fun y => t y.symm)⟩
