/-! a set of characters as a whole: its room, how many ranges, what is in it -/
def csI (o : Nat → Nat) (G : ab_G) (r lr lb n : Nat) (cnt : Int) (P : Int → Prop) : Prop := ∃ (b : Nat) (f : Int → Int), cc o G r lr (ab_ob 1 [vR b, vz cnt]) ∧ cc o G b lb (za n f) ∧ cs_can f cnt ∧ (∀ c, P c ↔ cs_mem f cnt c) ∧ (0 ≤ cnt ∧ cnt ≤ 26000 ∧ 2 * cnt ≤ ↑n ∧ n ≤ 104000 ∧ 64 ≤ n) ∧ ab_n0 ≤ lr ∧ ab_n0 ≤ lb ∧ lr ≠ lb
theorem csI.fr {o o2 : Nat → Nat} {S : List Nat} {G G2 : ab_G} {r lr lb n : Nat} {cnt : Int} {P : Int → Prop} (hf : fx o o2 S G G2) (h : csI o G r lr lb n cnt P) (h1 : ¬ lr ∈ S) (h2 : ¬ lb ∈ S) : csI o2 G2 r lr lb n cnt P := by
  obtain ⟨b, f, q1, q2, q3⟩ := h
  exact ⟨b, f, hf.get q1 h1, hf.get q2 h2, q3⟩
theorem csI.recv {o : Nat → Nat} {G : ab_G} {r lr lb n : Nat} {cnt : Int} {P : Int → Prop} (h : csI o G r lr lb n cnt P) : ∃ fs, G[r]? = some (.inr (1, fs)) := by
  obtain ⟨b, f, q1, q2, q3⟩ := h
  exact ⟨_, q1.2.2⟩
theorem csI.ok {o : Nat → Nat} {G : ab_G} {r lr lb n : Nat} {cnt : Int} {P : Int → Prop} (h : csI o G r lr lb n cnt P) : 0 ≤ cnt ∧ cnt ≤ 26000 ∧ 2 * cnt ≤ ↑n ∧ n ≤ 104000 ∧ 64 ≤ n := by
  obtain ⟨b, f, q1, q2, q3, q4, q5, q6⟩ := h
  exact q5
theorem cs_empty (f : Int → Int) : cs_can f 0 := fun i h1 h2 => absurd h2 (by omega)
theorem cs_none {f : Int → Int} {c : Int} : ¬ cs_mem f 0 c := fun ⟨i, h1, h2, _⟩ => absurd h2 (by omega)
set_option maxRecDepth 100000 in
theorem c_CS_clear {X : ab_X} {d : Nat} {o : Nat → Nat} {G : ab_G} {r lr lb n : Nat} {cnt : Int} {P : Int → Prop} (h : csI o G r lr lb n cnt P) : ab_F X d y_CS_clear (.code y_CS_clear b_CS_clear 1 none) [vR r] G (fun oc G2 => oc = .returned none ∧ fx o o [lr] G G2 ∧ G2.length = G.length ∧ ab_slots G2 = ab_slots G ∧ csI o G2 r lr lb n 0 (fun _ => False)) := by
  obtain ⟨b, f, q1, q2, q3, q4, q5, q6, q7, q8⟩ := h
  refine (z_CS_clear q1 q6).post (fun oc G2 hq => ?_)
  obtain ⟨h1, h2, h3, h4, h5⟩ := hq
  exact ⟨h1, h2, h3, h4, b, f, h5, h2.get q2 (by simp; omega), cs_empty f, fun c => ⟨fun z => z.elim, fun z => cs_none z⟩, by omega, q6, q7, q8⟩
set_option maxRecDepth 100000 in
theorem c_CS_add {X : ab_X} {d : Nat} {o : Nat → Nat} {G : ab_G} {r lr lb n : Nat} {cnt : Int} {P : Int → Prop} {lo hi : Int} (h : csI o G r lr lb n cnt P) (cx : 0 ≤ lo ∧ lo ≤ hi ∧ hi ≤ 1114111) (cn : cnt ≤ 25999) (rc : G.length + 1 ≤ ab_n0 + room_1.cells) (rs : ab_slots G + 208000 ≤ room_1.slots + 2 * n) (hd : 4 ≤ d) : ab_F X d y_CS_add (.code y_CS_add b_CS_add 7 none) [vR r, vz lo, vz hi] G (fun oc G2 => ∃ o2 : Nat → Nat, ∃ n2 : Nat, ∃ c2 : Int, ∃ P2 : Int → Prop, oc = .returned none ∧ fx o o2 [lr, lb] G G2 ∧ csI o2 G2 r lr lb n2 c2 P2 ∧ (∀ c : Int, P2 c ↔ P c ∨ (lo ≤ c ∧ c ≤ hi)) ∧ (0 ≤ c2 ∧ c2 ≤ cnt + 1 ∧ n2 ≤ 104000) ∧ (64 * G2.length + n ≤ 64 * G.length + n2) ∧ (ab_slots G2 + 2 * n ≤ ab_slots G + 2 * n2)) := by
  obtain ⟨b, f, q1, q2, q3, q4, q5, q6, q7, q8⟩ := h
  refine (z_CS_add q1 q2 ⟨by omega, by omega, by omega⟩ cx q3 ⟨q6, q7, q8⟩ (by omega) rc (fun _ => by omega) hd).post (fun oc G2 hq => ?_)
  obtain ⟨o2, b2, n2, c2, f2, h1, h2, h3, h4, h5, h6, h7, h8, h9, h10⟩ := hq
  refine ⟨o2, n2, c2, fun c => P c ∨ (lo ≤ c ∧ c ≤ hi), h1, h2, ⟨b2, f2, h3, h4, h5, fun c => ?_, by omega, q6, q7, q8⟩, fun c => Iff.rfl, by omega, h9, h10⟩
  show P c ∨ (lo ≤ c ∧ c ≤ hi) ↔ _
  rw [h6 c, q4 c]
/-! the tables -/
def zAR : Int → Int := fun i => ([65, 90, 32, 192, 214, 32, 216, 222, 32, 913, 937, 32, 1040, 1071, 32, 1024, 1039, 80] : List Int).getD i.toNat 0
def zAF : Int → Int := fun i => ([75, 107, 8490, 8490, 83, 115, 383, 383, 197, 229, 8491, 8491, 181, 924, 956, 956, 930, 931, 962, 963] : List Int).getD i.toNat 0
theorem z_all {Q : Int → Prop} (n : Nat) (h : ∀ m : Nat, m < n → Q (m : Int)) : ∀ k : Int, 0 ≤ k → k < (n : Int) → Q k := by
  intro k h0 h1
  have := h k.toNat (by omega)
  rwa [show ((k.toNat : Nat) : Int) = k by omega] at this
theorem zAR_in : ∀ k : Int, 0 ≤ k → k < 18 → 0 ≤ zAR k ∧ zAR k ≤ 2000 := z_all 18 (by decide)
theorem zAF_in : ∀ k : Int, 0 ≤ k → k < 20 → 0 ≤ zAF k ∧ zAF k ≤ 10000 := z_all 20 (by decide)
theorem zAR_ok : ∀ r : Int, 0 ≤ r → r < 6 → 32 ≤ zAR (3 * r + 2) ∧ zAR (3 * r + 2) ≤ 80 ∧ 65 ≤ zAR (3 * r) ∧ zAR (3 * r + 1) ≤ 1100 := z_all (Q := fun r => 32 ≤ zAR (3 * r + 2) ∧ zAR (3 * r + 2) ≤ 80 ∧ 65 ≤ zAR (3 * r) ∧ zAR (3 * r + 1) ≤ 1100) 6 (by decide)
/-- what is alike by a distance, by a four -/
def al_r (lo hi r c : Int) : Prop := (max lo (zAR (3 * r)) ≤ c - zAR (3 * r + 2) ∧ c - zAR (3 * r + 2) ≤ min hi (zAR (3 * r + 1))) ∨ (max lo (zAR (3 * r) + zAR (3 * r + 2)) ≤ c + zAR (3 * r + 2) ∧ c + zAR (3 * r + 2) ≤ min hi (zAR (3 * r + 1) + zAR (3 * r + 2)))
def al_p (lo hi i k : Int) : Prop := ∃ j : Int, i ≤ j ∧ j < k ∧ lo ≤ zAF j ∧ zAF j ≤ hi
def al_e (i k c : Int) : Prop := ∃ j : Int, i ≤ j ∧ j < k ∧ c = zAF j
def al_q (lo hi q c : Int) : Prop := al_p lo hi (4 * q) (4 * q + 4) ∧ al_e (4 * q) (4 * q + 4) c
theorem al_p_0 {lo hi i : Int} : ¬ al_p lo hi i i := fun ⟨j, h1, h2, _⟩ => absurd h2 (by omega)
theorem al_e_0 {i c : Int} : ¬ al_e i i c := fun ⟨j, h1, h2, _⟩ => absurd h2 (by omega)
theorem al_p_s {lo hi i k : Int} (h : i ≤ k) : al_p lo hi i (k + 1) ↔ al_p lo hi i k ∨ (lo ≤ zAF k ∧ zAF k ≤ hi) := by
  constructor
  · rintro ⟨j, h1, h2, h3⟩
    rcases Int.lt_or_eq_of_le (show j ≤ k by omega) with q | q
    · exact Or.inl ⟨j, h1, q, h3⟩
    · subst q; exact Or.inr h3
  · rintro (⟨j, h1, h2, h3⟩ | h3)
    · exact ⟨j, h1, by omega, h3⟩
    · exact ⟨k, h, by omega, h3⟩
theorem al_e_s {i k c : Int} (h : i ≤ k) : al_e i (k + 1) c ↔ al_e i k c ∨ c = zAF k := by
  constructor
  · rintro ⟨j, h1, h2, h3⟩
    rcases Int.lt_or_eq_of_le (show j ≤ k by omega) with q | q
    · exact Or.inl ⟨j, h1, q, h3⟩
    · subst q; exact Or.inr h3
  · rintro (⟨j, h1, h2, h3⟩ | h3)
    · exact ⟨j, h1, by omega, h3⟩
    · exact ⟨k, h, by omega, h3⟩
def alike (lo hi c : Int) : Prop := (lo ≤ c ∧ c ≤ hi) ∨ (∃ r : Int, 0 ≤ r ∧ r < 6 ∧ al_r lo hi r c) ∨ ∃ q : Int, 0 ≤ q ∧ q < 5 ∧ al_q lo hi q c
theorem al_step {B : Int → Prop} {A : Int → Int → Prop} {i : Int} (hi : 0 ≤ i) (c : Int) : ((B c ∨ ∃ r : Int, 0 ≤ r ∧ r < i ∧ A r c) ∨ A i c) ↔ (B c ∨ ∃ r : Int, 0 ≤ r ∧ r < i + 1 ∧ A r c) := by
  constructor
  · rintro ((h | ⟨r, h1, h2, h3⟩) | h)
    · exact Or.inl h
    · exact Or.inr ⟨r, h1, by omega, h3⟩
    · exact Or.inr ⟨i, hi, by omega, h⟩
  · rintro (h | ⟨r, h1, h2, h3⟩)
    · exact Or.inl (Or.inl h)
    · rcases Int.lt_or_eq_of_le (show r ≤ i by omega) with q | q
      · exact Or.inl (Or.inr ⟨r, h1, q, h3⟩)
      · subst q
        exact Or.inr h3
theorem cs_mem_s {q : Int → Int} {u c : Int} (h : 0 ≤ u) : cs_mem q (u + 1) c ↔ cs_mem q u c ∨ (q (2 * u) ≤ c ∧ c ≤ q (2 * u + 1)) := by
  constructor
  · rintro ⟨j, h1, h2, h3⟩
    rcases Int.lt_or_eq_of_le (show j ≤ u by omega) with z | z
    · exact Or.inl ⟨j, h1, z, h3⟩
    · subst z; exact Or.inr h3
  · rintro (⟨j, h1, h2, h3⟩ | h3)
    · exact ⟨j, h1, by omega, h3⟩
    · exact ⟨u, h, by omega, h3⟩
theorem cs_not {A M : Prop} {nx x y c : Int} (h : M → c < nx) (h0 : 0 ≤ nx) (h1 : nx ≤ x) (h2 : x ≤ y) : ((A ∨ (0 ≤ c ∧ c < nx ∧ ¬ M)) ∨ (nx ≤ c ∧ c ≤ x - 1)) ↔ (A ∨ (0 ≤ c ∧ c < y + 1 ∧ ¬ (M ∨ (x ≤ c ∧ c ≤ y)))) := by
  constructor
  · rintro ((z | ⟨z1, z2, z3⟩) | z)
    · exact Or.inl z
    · exact Or.inr ⟨z1, by omega, fun w => w.elim z3 (fun t => absurd t (by omega))⟩
    · exact Or.inr ⟨by omega, by omega, fun w => w.elim (fun t => absurd (h t) (by omega)) (fun t => absurd t (by omega))⟩
  · rintro (z | ⟨z1, z2, z3⟩)
    · exact Or.inl (Or.inl z)
    · rcases (show c < nx ∨ nx ≤ c by omega) with t | t
      · exact Or.inl (Or.inr ⟨z1, t, fun w => z3 (Or.inl w)⟩)
      · refine Or.inr ⟨t, ?_⟩
        have : ¬ (x ≤ c ∧ c ≤ y) := fun w => z3 (Or.inr w)
        omega
theorem cs_next {q : Int → Int} {m u : Int} (h : cs_can q m) (h0 : 0 ≤ u) (h1 : u < m) : ∀ c : Int, cs_mem q (u + 1) c → c < q (2 * u + 1) + 1 := by
  rintro c ⟨j, h2, h3, h4, h5⟩
  have := cs_hs h j u h2 (by omega) h1
  omega
/-- one more range behind all that are there -/
theorem cs_app {g : Int → Int} {v x y : Int} (h : cs_can g v) (hv : 0 ≤ v) (hx : 0 ≤ x) (hxy : x ≤ y) (hy : y ≤ 1114111) (hl : ∀ i : Int, 0 ≤ i → i < v → g (2 * i + 1) + 1 < x) : cs_can (zu (zu g (2 * v) x) (2 * v + 1) y) (v + 1) ∧ ∀ c : Int, cs_mem (zu (zu g (2 * v) x) (2 * v + 1) y) (v + 1) c ↔ cs_mem g v c ∨ (x ≤ c ∧ c ≤ y) := by
  have q := cs_put (f := g) (g := zu (zu g (2 * v) x) (2 * v + 1) y) (n := v) (s := v) (t := v) (lo := x) (hi := y) (le := x) (mo := y) h hv (Int.le_refl _) (Int.le_refl _) hx hxy hy (fun i a b => by have := hl i a b; omega) (fun i a b => absurd b (by omega)) (fun i a b => absurd b (by omega)) (fun a => absurd a (by omega)) (fun _ => ⟨rfl, rfl⟩) (fun a => absurd a (by omega)) (fun k a b => by rw [zu_ne (by omega), zu_ne (by omega)]) (by rw [zu_ne (by omega), zu_self]) (zu_self _ _ _) (fun k a b => absurd b (by omega))
  rw [show v + 1 - (v - v) = v + 1 by omega] at q
  exact q
def cs_gap (c : Int) : Prop := 55296 ≤ c ∧ c ≤ 57343
/-- the state of the cutting: u ranges of q are through, v stand in g -/
def cs_cut (q g : Int → Int) (u v : Int) : Prop := cs_can g v ∧ (∀ c : Int, cs_mem g v c ↔ cs_mem q u c ∧ ¬ cs_gap c) ∧ (∀ i : Int, 0 ≤ i → i < v → 0 < u ∧ g (2 * i + 1) ≤ q (2 * (u - 1) + 1)) ∧ (v ≤ u ∨ (v ≤ u + 1 ∧ 0 < u ∧ 57343 < q (2 * (u - 1) + 1)))
theorem cs_cut_0 (q g : Int → Int) : cs_cut q g 0 0 := ⟨cs_empty g, fun c => ⟨fun h => absurd h cs_none, fun h => absurd h.1 cs_none⟩, fun i a b => absurd b (by omega), Or.inl (by omega)⟩
/-- one range of q that stands ahead of the gap, behind it, in it, over it -/
theorem cs_cut_n {q g : Int → Int} {m u v : Int} (hq : cs_can q m) (h0 : 0 ≤ u) (h1 : u < m) (hv : 0 ≤ v) (h : cs_cut q g u v) (a : 55296 ≤ q (2 * u)) (b : q (2 * u + 1) ≤ 57343) : cs_cut q g (u + 1) v := by
  obtain ⟨k1, k2, k3, k4⟩ := h
  refine ⟨k1, fun c => ?_, fun i a1 b1 => ⟨by omega, ?_⟩, by omega⟩
  · rw [k2 c, cs_mem_s h0]
    unfold cs_gap
    constructor
    · exact fun z => ⟨Or.inl z.1, z.2⟩
    · rintro ⟨z | z, w⟩
      · exact ⟨z, w⟩
      · exact absurd (show 55296 ≤ c ∧ c ≤ 57343 by omega) w
  · have z := k3 i a1 b1
    have w := cs_hs hq (u - 1) u (by omega) (by omega) h1
    rw [show u + 1 - 1 = u by omega]
    omega
theorem cs_cut_1 {q g : Int → Int} {m u v x y : Int} (hq : cs_can q m) (h0 : 0 ≤ u) (h1 : u < m) (hv : 0 ≤ v) (h : cs_cut q g u v) (hx : x = q (2 * u) ∧ q (2 * u) < 55296 ∧ y = min (q (2 * u + 1)) 55295 ∧ q (2 * u + 1) ≤ 57343 ∨ x = max (q (2 * u)) 57344 ∧ y = q (2 * u + 1) ∧ 55296 ≤ q (2 * u) ∧ 57343 < q (2 * u + 1)) : cs_cut q (zu (zu g (2 * v) x) (2 * v + 1) y) (u + 1) (v + 1) := by
  obtain ⟨k1, k2, k3, k4⟩ := h
  have hr := hq u h0 h1
  have hb : ∀ i : Int, 0 ≤ i → i < v → g (2 * i + 1) + 1 < x := fun i a b => by
    have z := k3 i a b
    have w := cs_lt hq (i := u - 1) (j := u) (by omega) (by omega) h1
    omega
  have hp := cs_app (x := x) (y := y) k1 hv (by omega) (by omega) (by omega) hb
  refine ⟨hp.1, fun c => ?_, fun i a b => ⟨by omega, ?_⟩, ?_⟩
  · rw [hp.2 c, k2 c, cs_mem_s h0]
    unfold cs_gap
    constructor
    · rintro (z | z)
      · exact ⟨Or.inl z.1, z.2⟩
      · exact ⟨Or.inr (by omega), by omega⟩
    · rintro ⟨z | z, w⟩
      · exact Or.inl ⟨z, w⟩
      · exact Or.inr (by omega)
  · rw [show u + 1 - 1 = u by omega]
    rcases Int.lt_or_eq_of_le (show i ≤ v by omega) with z | z
    · rw [zu_ne (by omega), zu_ne (by omega)]
      have := k3 i a z
      have w := cs_hs hq (u - 1) u (by omega) (by omega) h1
      omega
    · subst z
      rw [zu_self]
      omega
  · rw [show u + 1 - 1 = u by omega]
    rcases k4 with z | z
    · exact Or.inl (by omega)
    · have w := cs_hs hq (u - 1) u (by omega) (by omega) h1
      exact Or.inr ⟨by omega, by omega, by omega⟩
theorem cs_cut_2 {q g : Int → Int} {m u v x y : Int} (hq : cs_can q m) (h0 : 0 ≤ u) (h1 : u < m) (hv : 0 ≤ v) (h : cs_cut q g u v) (a : q (2 * u) < 55296) (b : 57343 < q (2 * u + 1)) (hx : x = min (q (2 * u + 1)) 55295) (hy : y = max (q (2 * u)) 57344) : cs_cut q (zu (zu (zu (zu g (2 * v) (q (2 * u))) (2 * v + 1) x) (2 * v + 2) y) (2 * v + 2 + 1) (q (2 * u + 1))) (u + 1) (v + 1 + 1) := by
  obtain ⟨k1, k2, k3, k4⟩ := h
  have hr := hq u h0 h1
  have hb : ∀ i : Int, 0 ≤ i → i < v → g (2 * i + 1) + 1 < q (2 * u) := fun i a b => by
    have z := k3 i a b
    have w := cs_lt hq (i := u - 1) (j := u) (by omega) (by omega) h1
    omega
  have hp := cs_app (x := q (2 * u)) (y := x) k1 hv (by omega) (by omega) (by omega) hb
  have hp2 := cs_app (g := zu (zu g (2 * v) (q (2 * u))) (2 * v + 1) x) (v := v + 1) (x := y) (y := q (2 * u + 1)) hp.1 (by omega) (by omega) (by omega) (by omega) (fun i a b => by
    rcases Int.lt_or_eq_of_le (show i ≤ v by omega) with z | z
    · rw [zu_ne (by omega), zu_ne (by omega)]
      have := hb i a z
      omega
    · subst z
      rw [zu_self]
      omega)
  rw [show 2 * (v + 1) = 2 * v + 2 by omega] at hp2
  refine ⟨hp2.1, fun c => ?_, fun i a b => ⟨by omega, ?_⟩, ?_⟩
  · rw [hp2.2 c, hp.2 c, k2 c, cs_mem_s h0]
    unfold cs_gap
    constructor
    · rintro ((z | z) | z)
      · exact ⟨Or.inl z.1, z.2⟩
      · exact ⟨Or.inr (by omega), by omega⟩
      · exact ⟨Or.inr (by omega), by omega⟩
    · rintro ⟨z | z, w⟩
      · exact Or.inl (Or.inl ⟨z, w⟩)
      · rcases (show c ≤ 55295 ∨ 57344 ≤ c by omega) with s | s
        · exact Or.inl (Or.inr (by omega))
        · exact Or.inr (by omega)
  · rw [show u + 1 - 1 = u by omega]
    rcases Int.lt_or_eq_of_le (show i ≤ v + 1 by omega) with z | z
    · rw [zu_ne (by omega), zu_ne (by omega)]
      rcases Int.lt_or_eq_of_le (show i ≤ v by omega) with s | s
      · rw [zu_ne (by omega), zu_ne (by omega)]
        have := k3 i a s
        have w := cs_hs hq (u - 1) u (by omega) (by omega) h1
        omega
      · subst s
        rw [zu_self]
        omega
    · subst z
      rw [show 2 * (v + 1) + 1 = 2 * v + 2 + 1 by omega, zu_self]
      omega
  · rw [show u + 1 - 1 = u by omega]
    rcases k4 with z | z
    · exact Or.inr ⟨by omega, by omega, b⟩
    · have w := cs_lt hq (i := u - 1) (j := u) (by omega) (by omega) h1
      exact absurd a (by omega)
theorem cs_nend {A M : Prop} {nx y c : Int} (h : M → c < nx) (h0 : 0 ≤ nx) (h1 : nx ≤ y + 1) : ((A ∨ (0 ≤ c ∧ c < nx ∧ ¬ M)) ∨ (nx ≤ c ∧ c ≤ y)) ↔ (A ∨ (0 ≤ c ∧ c ≤ y ∧ ¬ M)) := by
  constructor
  · rintro ((z | ⟨z1, z2, z3⟩) | z)
    · exact Or.inl z
    · exact Or.inr ⟨z1, by omega, z3⟩
    · exact Or.inr ⟨by omega, by omega, fun w => absurd (h w) (by omega)⟩
  · rintro (z | ⟨z1, z2, z3⟩)
    · exact Or.inl (Or.inl z)
    · rcases (show c < nx ∨ nx ≤ c by omega) with t | t
      · exact Or.inl (Or.inr ⟨z1, t, z3⟩)
      · exact Or.inr ⟨t, z2⟩
theorem cs_can_eq {f g : Int → Int} {n : Int} (h : cs_can f n) (e : ∀ j : Int, 0 ≤ j → j < 2 * n → g j = f j) : cs_can g n := by
  intro i a b
  have q := h i a b
  rw [e (2 * i) (by omega) (by omega), e (2 * i + 1) (by omega) (by omega)]
  refine ⟨q.1, q.2.1, q.2.2.1, fun z => ?_⟩
  rw [e (2 * (i + 1)) (by omega) (by omega)]
  exact q.2.2.2 z
theorem cs_mem_eq {f g : Int → Int} {n c : Int} (e : ∀ j : Int, 0 ≤ j → j < 2 * n → g j = f j) : cs_mem g n c ↔ cs_mem f n c := by
  constructor
  · rintro ⟨i, a, b, q1, q2⟩
    rw [e _ (by omega) (by omega)] at q1 q2
    exact ⟨i, a, b, q1, q2⟩
  · rintro ⟨i, a, b, q1, q2⟩
    exact ⟨i, a, b, by rw [e _ (by omega) (by omega)]; exact q1, by rw [e _ (by omega) (by omega)]; exact q2⟩
