/-! a program of one mind: in what order states are met without a byte, and that none is met twice -/
def chO (K N O : Int → Int) (x : Int) : List Int := if K x = 6 then [N x, O x] else if K x = 7 ∨ K x = 3 then [N x] else []
/-- from a stack of states, states are taken off in this order -/
def DSq (K N O : Int → Int) : List Int → List Int → Prop
  | [], s => s = []
  | x :: Q, s => ∃ s' : List Int, s = x :: s' ∧ DSq K N O Q (chO K N O x ++ s')
/-- two that can take the same -/
def clO (K O RR : Int → Int) (x y : Int) : Prop := (K x = 2 ∧ K y = 2) ∨ (K x = 2 ∧ ∃ c : Int, phas K O RR y c) ∨ (K y = 2 ∧ ∃ c : Int, phas K O RR x c) ∨ ∃ c : Int, phas K O RR x c ∧ phas K O RR y c
def gdO (K O RR : Int → Int) (D : List Int) : Prop := D.Pairwise (fun x y => (¬ K x = 9 → ¬ x = y) ∧ (K x ≤ 2 → K y ≤ 2 → ¬ clO K O RR x y))
def tkP (K O RR f : Int → Int) (n p x : Int) : Prop := (K x = 2 ∧ p < n) ∨ (¬ K x = 2 ∧ 0 ≤ u8 f n p ∧ phas K O RR x (u8 f n p))
/-- the states on a stack, from the top -/
def skl (SK : Int → Int) : Nat → List Int
  | 0 => []
  | k + 1 => if SK (k : Int) < 0 then skl SK k else SK (k : Int) :: skl SK k
/-- how many turns a list of states costs: one that saves has its undo behind it -/
def wO (K : Int → Int) : List Int → Int
  | [] => 0
  | x :: Q => (if K x = 7 then 2 else 1) + wO K Q
def nU (SK : Int → Int) : Nat → Int
  | 0 => 0
  | k + 1 => nU SK k + (if SK (k : Int) < 0 then 1 else 0)
section OmA
variable {K N O RR f : Int → Int} {n p x y : Int} {SK SK2 : Int → Int} {Q s r D D1 : List Int}
theorem ds_pop : ∀ (Q s : List Int), DSq K N O Q s → (x :: r).Sublist s → ∃ Q1 Q2 s2 : List Int, Q = Q1 ++ x :: Q2 ∧ DSq K N O Q2 (chO K N O x ++ s2) ∧ r.Sublist s2 := by
  intro Q
  induction Q with
  | nil =>
    intro s h hs
    have e : s = [] := h
    rw [e] at hs
    cases hs
  | cons y Q ih =>
    intro s h hs
    obtain ⟨s', e, h2⟩ := h
    rw [e] at hs
    cases hs with
    | cons _ h3 =>
      obtain ⟨Q1, Q2, s2, a1, a2, a3⟩ := ih _ h2 (h3.trans (List.sublist_append_right _ _))
      exact ⟨y :: Q1, Q2, s2, by rw [a1]; rfl, a2, a3⟩
    | cons_cons _ h3 => exact ⟨[], Q, s', rfl, h2, h3⟩
theorem skl_cg : ∀ k : Nat, (∀ i : Int, 0 ≤ i → i < k → SK2 i = SK i) → skl SK2 k = skl SK k := by
  intro k
  induction k with
  | zero => intro _; rfl
  | succ k ih =>
    intro h
    show (if SK2 (k : Int) < 0 then skl SK2 k else SK2 (k : Int) :: skl SK2 k) = (if SK (k : Int) < 0 then skl SK k else SK (k : Int) :: skl SK k)
    rw [h (k : Int) (by omega) (by omega), ih (fun i i0 i1 => h i i0 (by omega))]
theorem skl_1 {d : Int} (h : 1 ≤ d) : skl SK d.toNat = if SK (d - 1) < 0 then skl SK (d - 1).toNat else SK (d - 1) :: skl SK (d - 1).toNat := by
  rw [show d.toNat = (d - 1).toNat + 1 by omega]
  show (if SK (((d - 1).toNat : Nat) : Int) < 0 then skl SK (d - 1).toNat else SK (((d - 1).toNat : Nat) : Int) :: skl SK (d - 1).toNat) = _
  rw [show (((d - 1).toNat : Nat) : Int) = d - 1 by omega]
theorem skl_p {d : Int} (h : 0 ≤ d) (hs : ∀ i : Int, 0 ≤ i → i < d → SK2 i = SK i) : skl SK2 (d + 1).toNat = if SK2 d < 0 then skl SK d.toNat else SK2 d :: skl SK d.toNat := by
  rw [skl_1 (by omega), show d + 1 - 1 = d by omega, skl_cg (SK := SK) d.toNat (fun i i0 i1 => hs i i0 (by omega))]
theorem chO_6 (k : K x = 6) : chO K N O x = [N x, O x] := if_pos k
theorem chO_1 (k : K x = 7 ∨ K x = 3) : chO K N O x = [N x] := by
  unfold chO
  rw [if_neg (by omega), if_pos k]
theorem tkP_cl (h : tkP K O RR f n p x) (h2 : tkP K O RR f n p y) : clO K O RR x y := by
  rcases h with ⟨a1, a2⟩ | ⟨a1, a2, a3⟩ <;> rcases h2 with ⟨b1, b2⟩ | ⟨b1, b2, b3⟩
  · exact Or.inl ⟨a1, b1⟩
  · exact Or.inr (Or.inl ⟨a1, _, b3⟩)
  · exact Or.inr (Or.inr (Or.inl ⟨b1, _, a3⟩))
  · exact Or.inr (Or.inr (Or.inr ⟨_, a3, b3⟩))
theorem gdO_two (h : gdO K O RR (D1 ++ x :: Q)) (hy : y ∈ D1) : (¬ K y = 9 → ¬ y = x) ∧ (K y ≤ 2 → K x ≤ 2 → ¬ clO K O RR y x) := (List.pairwise_append.mp h).2.2 y hy x (List.mem_cons.mpr (Or.inl rfl))
theorem btk_tk {C Rs H : Int → Int} {v : Int} (hb : btk K O RR C Rs n x p v) (hs : suok f C Rs H n) (h0 : 0 ≤ p ∧ p ≤ n) (hv : 0 < v) : tkP K O RR f n p x := by
  have c := (hs.2 p h0.1 (by omega)).1
  have u := u8_in hs.1 p
  rcases hb with ⟨b1, b2, b3⟩ | ⟨b1, b2, b3⟩ | ⟨b1, b2, b3, b4⟩ | ⟨b1, b2, b3⟩
  · exact Or.inl ⟨b1, b2⟩
  · omega
  · rw [c] at b2 b3
    exact Or.inr ⟨b1, by omega, b3⟩
  · omega
theorem wO_nn : ∀ Q : List Int, 0 ≤ wO K Q := by
  intro Q
  induction Q with
  | nil => exact Int.le_refl _
  | cons x Q ih =>
    show 0 ≤ (if K x = 7 then 2 else 1) + wO K Q
    split <;> omega
theorem wO_app : ∀ (A B : List Int), wO K (A ++ B) = wO K A + wO K B := by
  intro A
  induction A with
  | nil => intro B; exact (Int.zero_add _).symm
  | cons x A ih =>
    intro B
    show (if K x = 7 then 2 else 1) + wO K (A ++ B) = (if K x = 7 then 2 else 1) + wO K A + wO K B
    rw [ih B]
    omega
theorem wO_c : wO K (x :: Q) = (if K x = 7 then 2 else 1) + wO K Q := rfl
theorem nU_nn : ∀ k : Nat, 0 ≤ nU SK k := by
  intro k
  induction k with
  | zero => exact Int.le_refl _
  | succ k ih =>
    show 0 ≤ nU SK k + (if SK (k : Int) < 0 then 1 else 0)
    split <;> omega
theorem nU_cg : ∀ k : Nat, (∀ i : Int, 0 ≤ i → i < k → SK2 i = SK i) → nU SK2 k = nU SK k := by
  intro k
  induction k with
  | zero => intro _; rfl
  | succ k ih =>
    intro h
    show nU SK2 k + (if SK2 (k : Int) < 0 then 1 else 0) = nU SK k + (if SK (k : Int) < 0 then 1 else 0)
    rw [h (k : Int) (by omega) (by omega), ih (fun i i0 i1 => h i i0 (by omega))]
theorem nU_1 {d : Int} (h : 1 ≤ d) : nU SK d.toNat = nU SK (d - 1).toNat + (if SK (d - 1) < 0 then 1 else 0) := by
  rw [show d.toNat = (d - 1).toNat + 1 by omega]
  show nU SK (d - 1).toNat + (if SK (((d - 1).toNat : Nat) : Int) < 0 then 1 else 0) = _
  rw [show (((d - 1).toNat : Nat) : Int) = d - 1 by omega]
theorem nU_p {d : Int} (h : 0 ≤ d) (hs : ∀ i : Int, 0 ≤ i → i < d → SK2 i = SK i) : nU SK2 (d + 1).toNat = nU SK d.toNat + (if SK2 d < 0 then 1 else 0) := by
  rw [nU_1 (by omega), show d + 1 - 1 = d by omega, nU_cg (SK := SK) d.toNat (fun i i0 i1 => hs i i0 (by omega))]
end OmA
/-! the match: what is left to try, and what was found -/
def lf1 (fy hw n : Int) (c : Option (Int × Gr)) (L : List (Int × Gr)) (S : Option (Int × Gr)) : Prop := (fy = 1 ∧ (fA hw n L).or c = S) ∨ (¬ fy = 1 ∧ bst hw n c L = S)
section Lf1
variable {fy hw n : Int} {c S s : Option (Int × Gr)} {T R L : List (Int × Gr)} {q : Int} {g : Gr}
theorem bst_or : ∀ (T : List (Int × Gr)), (∀ y ∈ T, ∀ d, s = some d → d.1 < y.1) → bst hw n s T = (bst hw n none T).or s := by
  intro T
  induction T with
  | nil => intro _; cases s <;> rfl
  | cons y t ih =>
    intro h
    have e : ∀ u : Option (Int × Gr), bst hw n u (y :: t) = bst hw n (upw hw n u y) t := fun _ => rfl
    rw [e, e]
    by_cases a : acc hw n y.1
    · rw [upw_hit a (fun d hd => h y (List.mem_cons.mpr (Or.inl rfl)) d hd), upw_hit (s := none) a (fun d hd => by cases hd)]
      obtain ⟨z, hz⟩ := bst_some (hw := hw) (n := n) (L := t) (y := y)
      rw [hz]
      rfl
    · rw [upw_skip (fun z => absurd z a), upw_skip (s := none) (fun z => absurd z a)]
      exact ih (fun w hw => h w (List.mem_cons_of_mem _ hw))
theorem lf1.miss (h : lf1 fy hw n c (T ++ ((q, g) :: R)) S) (ha : ¬ acc hw n q) : lf1 fy hw n c (T ++ R) S := by
  rcases h with ⟨h1, h2⟩ | ⟨h1, h2⟩
  · refine Or.inl ⟨h1, ?_⟩
    rw [fA_app, fA_miss ha] at h2
    rw [fA_app]
    exact h2
  · refine Or.inr ⟨h1, ?_⟩
    rw [bst_app] at h2 ⊢
    have e : bst hw n (bst hw n c T) ((q, g) :: R) = bst hw n (upw hw n (bst hw n c T) (q, g)) R := rfl
    rw [e, upw_skip (fun z => absurd z ha)] at h2
    exact h2
theorem lf1.first (h : lf1 fy hw n c (T ++ ((q, g) :: R)) S) (ha : acc hw n q) (hf : fy = 1) : lf1 fy hw n (some (q, g)) T S := by
  rcases h with ⟨h1, h2⟩ | ⟨h1, h2⟩
  · refine Or.inl ⟨h1, ?_⟩
    rw [fA_app, fA_hit ha] at h2
    rw [← h2]
    cases fA hw n T <;> rfl
  · exact absurd hf h1
theorem lf1.long (h : lf1 fy hw n c (T ++ ((q, g) :: R)) S) (ha : acc hw n q) (hf : ¬ fy = 1) (hT : ∀ y ∈ T, q < y.1) (hc : ∀ d, c = some d → d.1 < q) : lf1 fy hw n (some (q, g)) (T ++ R) S := by
  rcases h with ⟨h1, _⟩ | ⟨h1, h2⟩
  · exact absurd h1 hf
  · refine Or.inr ⟨h1, ?_⟩
    rw [bst_app] at h2 ⊢
    have e : bst hw n (bst hw n c T) ((q, g) :: R) = bst hw n (upw hw n (bst hw n c T) (q, g)) R := rfl
    rw [e] at h2
    rw [← h2]
    congr 1
    rw [bst_or (s := some (q, g)) T (fun y hy d hd => by rw [← Option.some.inj hd]; exact hT y hy), bst_or (s := c) T (fun y hy d hd => by have := hT y hy; have := hc d hd; omega)]
    cases hb : bst hw n none T with
    | none => exact (upw_hit ha hc).symm
    | some d =>
      have dm : d ∈ T := (bst_mem T none d hb).elim (fun z => by cases z) id
      have := hT d dm
      exact (upw_skip (fun _ => ⟨d, rfl, by show q ≤ d.1; omega⟩)).symm
theorem lf1.done (h : lf1 fy hw n c [] S) : S = c := by
  rcases h with ⟨_, h2⟩ | ⟨_, h2⟩
  · rw [← h2]; cases c <;> rfl
  · exact h2.symm
theorem lf1_0 : lf1 fy hw n none L (mtR fy hw n L) := by
  unfold mtR
  by_cases h : fy = 1
  · refine Or.inl ⟨h, ?_⟩
    rw [if_pos h]
    cases fA hw n L <;> rfl
  · refine Or.inr ⟨h, ?_⟩
    rw [if_neg h]
end Lf1
/-! choosing -/
def choT (K N O RR f : Int → Int) (n wi st p : Int) (D1 : List Int) (chn : Int) (ON : Int → Int) (T : List (Int × Gr)) : Prop := (chn = -1 ∧ T = []) ∨ (0 ≤ chn ∧ chn ∈ D1 ∧ (0 ≤ K chn ∧ K chn ≤ 2) ∧ tkP K O RR f n p chn ∧ ∃ gT : Gr, gA ON gT wi ∧ ON 0 = st ∧ WW (tgC K) N O (phas K O RR) f n chn p gT T)
def choQ (K N O RR f : Int → Int) (n fy hw wi st p tu : Int) (D : List Int) (SK : Int → Int) (dp : Int) (WK : Int → Int) (chn : Int) (ON : Int → Int) (fo : Int) (SP : Int → Int) (S : Option (Int × Gr)) : Prop := ∃ (D1 Q s : List Int) (R T : List (Int × Gr)) (g : Gr) (c : Option (Int × Gr)), (D = D1 ++ Q ∧ DSq K N O Q s ∧ (skl SK dp.toNat).Sublist s ∧ tu + wO K Q + nU SK dp.toNat ≤ 1615) ∧ (gA WK g wi ∧ WK 0 = st) ∧ (RS (tgC K) N O (phas K O RR) f n (skT p SK) dp.toNat g R ∧ 0 ≤ dp) ∧ choT K N O RR f n wi st p D1 chn ON T ∧ (mch c fo SP wi st ∧ lf1 fy hw n c (T ++ R) S) ∧ ∀ d, c = some d → d.1 ≤ p ∧ (d.1 < p ∨ 1 ∈ D1)
/-- x is taken off -/
def choP (K N O RR f : Int → Int) (n fy hw wi st p tu : Int) (D : List Int) (SK : Int → Int) (dp : Int) (WK : Int → Int) (chn : Int) (ON : Int → Int) (fo : Int) (SP : Int → Int) (S : Option (Int × Gr)) (x : Int) : Prop := ∃ (D1 Q s : List Int) (R T L : List (Int × Gr)) (g : Gr) (c : Option (Int × Gr)), (D = D1 ++ x :: Q ∧ DSq K N O Q (chO K N O x ++ s) ∧ (skl SK dp.toNat).Sublist s ∧ tu + wO K (x :: Q) + nU SK dp.toNat ≤ 1615) ∧ (gA WK g wi ∧ WK 0 = st) ∧ (RS (tgC K) N O (phas K O RR) f n (skT p SK) dp.toNat g R ∧ 0 ≤ dp ∧ WW (tgC K) N O (phas K O RR) f n x p g L) ∧ choT K N O RR f n wi st p D1 chn ON T ∧ (mch c fo SP wi st ∧ lf1 fy hw n c (T ++ (L ++ R)) S) ∧ ∀ d, c = some d → d.1 ≤ p ∧ (d.1 < p ∨ 1 ∈ D1)
section ChQ
variable {K N O RR f C Rs H : Int → Int} {n fy hw wi st p tu x v d1 : Int} {D D1 D2 : List Int} {SK WK ON SP : Int → Int} {dp chn fo : Int} {S : Option (Int × Gr)} {T : List (Int × Gr)}
theorem choT.up (h : choT K N O RR f n wi st p D1 chn ON T) (hd : ∀ y ∈ D1, y ∈ D2) : choT K N O RR f n wi st p D2 chn ON T := by
  rcases h with h | ⟨h1, h2, h3⟩
  · exact Or.inl h
  · exact Or.inr ⟨h1, hd _ h2, h3⟩
theorem choT.gt (h : choT K N O RR f n wi st p D1 chn ON T) (hb : bytes f n) (h0 : 0 ≤ p ∧ p ≤ n) : ∀ y ∈ T, p < y.1 := fun y hy => by
  rcases h with ⟨_, h⟩ | ⟨_, _, h3, _, gT, _, _, h4⟩
  · rw [h] at hy; exact absurd hy List.not_mem_nil
  · exact ww_tk h4 h3 hb h0 y hy
/-- a state is taken off the stack -/
theorem choQ.pop (h : choQ K N O RR f n fy hw wi st p tu D SK dp WK chn ON fo SP S) (h1 : 1 ≤ dp) (e : d1 = dp - 1) (hx : 0 ≤ SK d1 ∧ SK d1 < 1024) (hp : 0 ≤ p) : choP K N O RR f n fy hw wi st p tu D SK d1 WK chn ON fo SP S (SK d1) := by
  rw [e] at hx ⊢
  obtain ⟨D1, Q, s, R, T, g, c, ⟨a1, a2, a3, a4⟩, hg, ⟨hR, h0⟩, hT, hm, hc⟩ := h
  rw [skl_1 h1, if_neg (by omega)] at a3
  obtain ⟨Q1, Q2, s2, b1, b2, b3⟩ := ds_pop Q s a2 a3
  rw [show dp.toNat = (dp - 1).toNat + 1 by omega] at hR
  have ed : (((dp - 1).toNat : Nat) : Int) = dp - 1 := by omega
  have ev : skT p SK (dp - 1) = p * 1024 + SK (dp - 1) := skT_p hx.1
  rcases hR with ⟨r0, L, R', r1, r2, r3⟩ | ⟨r0, _⟩
  · rw [ed, show skT p SK (dp - 1) % 1024 = SK (dp - 1) by omega, show skT p SK (dp - 1) / 1024 = p by omega] at r1
    refine ⟨D1 ++ Q1, Q2, s2, R', T, L, g, c, ⟨by rw [a1, b1, List.append_assoc], b2, b3, by rw [b1, wO_app] at a4; rw [nU_1 h1, if_neg (by omega)] at a4; have := wO_nn (K := K) Q1; omega⟩, hg, ⟨r2, by omega, r1⟩, hT.up (fun y hy => List.mem_append_left _ hy), ⟨hm.1, by rw [← r3]; exact hm.2⟩, fun d hd => ⟨(hc d hd).1, (hc d hd).2.imp id (fun z => List.mem_append_left _ z)⟩⟩
  · rw [ed] at r0
    omega
/-- a place is given back -/
theorem choQ.undo (h : choQ K N O RR f n fy hw wi st p tu D SK dp WK chn ON fo SP S) (h1 : 1 ≤ dp) (e : d1 = dp - 1) (hs : SK d1 < 0) (hv : 2 ≤ (-1 - SK d1) / 4096) : choQ K N O RR f n fy hw wi st p (tu + 1) D SK d1 (zu WK ((-1 - SK d1) / 4096) ((-1 - SK d1) % 4096 - 1)) chn ON fo SP S := by
  rw [e] at hs hv ⊢
  obtain ⟨D1, Q, s, R, T, g, c, ⟨a1, a2, a3, a4⟩, ⟨hg, hg0⟩, ⟨hR, h0⟩, hT, hm, hc⟩ := h
  rw [skl_1 h1, if_pos hs] at a3
  rw [show dp.toNat = (dp - 1).toNat + 1 by omega] at hR
  have ed : (((dp - 1).toNat : Nat) : Int) = dp - 1 := by omega
  have ev : skT p SK (dp - 1) = SK (dp - 1) := skT_n hs
  rcases hR with ⟨r0, _⟩ | ⟨r0, r1⟩
  · rw [ed] at r0
    omega
  · rw [ed, ev] at r1
    rw [nU_1 h1, if_pos hs] at a4
    refine ⟨D1, Q, s, R, T, _, c, ⟨a1, a2, a3, by omega⟩, ⟨fun i i0 i1 => ?_, by rw [zu_ne (by omega)]; exact hg0⟩, ⟨r1, by omega⟩, hT, hm, hc⟩
    by_cases z : i = (-1 - SK (dp - 1)) / 4096
    · rw [z, zu_self, zu_self]
    · rw [zu_ne z, zu_ne z]; exact hg i i0 i1
theorem mem_c {x : Int} : ∀ y ∈ D1, y ∈ D1 ++ [x] := fun y hy => List.mem_append_left _ hy
/-- nothing comes of it -/
theorem choP.no (h : choP K N O RR f n fy hw wi st p tu D SK dp WK chn ON fo SP S x) (hn : ∀ (g : Gr) (L : List (Int × Gr)), WW (tgC K) N O (phas K O RR) f n x p g L → L = []) : choQ K N O RR f n fy hw wi st p (tu + 1) D SK dp WK chn ON fo SP S := by
  obtain ⟨D1, Q, s, R, T, L, g, c, ⟨a1, a2, a3, a4⟩, hg, ⟨hR, h0, hL⟩, hT, hm, hc⟩ := h
  rw [hn g L hL, List.nil_append] at hm
  exact ⟨D1 ++ [x], Q, _, R, T, g, c, ⟨by rw [a1, List.append_assoc]; rfl, a2, a3.trans (List.sublist_append_right _ _), by rw [wO_c] at a4; split at a4 <;> omega⟩, hg, ⟨hR, h0⟩, hT.up mem_c, hm, fun d hd => ⟨(hc d hd).1, (hc d hd).2.imp id (mem_c 1)⟩⟩
theorem choP.dead (h : choP K N O RR f n fy hw wi st p tu D SK dp WK chn ON fo SP S x) (hk : K x = 9 ∨ (K x = 3 ∧ ¬ hld f n p (O x))) : choQ K N O RR f n fy hw wi st p (tu + 1) D SK dp WK chn ON fo SP S := h.no (fun g L hL => by
  rcases hk with k | ⟨k, a⟩
  · exact ww_i6 (tgC_9 k) hL
  · exact ww_i2n (tgC_3 k) a hL)
theorem choP.keep (h : choP K N O RR f n fy hw wi st p tu D SK dp WK chn ON fo SP S x) (hb : btk K O RR C Rs n x p v) (hk : 0 ≤ K x ∧ K x ≤ 2) (hs : suok f C Rs H n) (h0 : 0 ≤ p ∧ p ≤ n) (hv : v ≤ 0) : choQ K N O RR f n fy hw wi st p (tu + 1) D SK dp WK chn ON fo SP S := h.no (fun g L hL => by
  have c := (hs.2 p h0.1 (by omega)).1
  have r := (hs.2 p h0.1 (by omega)).2.1
  rcases hb with ⟨b1, b2, b3⟩ | ⟨b1, b2, b3⟩ | ⟨b1, b2, b3, b4⟩ | ⟨b1, b2, b3⟩
  · omega
  · exact ww_i1n (tgC_2 b1) b2 hL
  · rw [c] at b2
    have wp := wd_in (u8 f n p)
    have := r b2
    omega
  · rw [c] at b2
    refine ww_i0n (tgC_0 (by omega)) (fun q => ?_) hL
    rcases b2 with b2 | b2
    · omega
    · exact b2 q.2)
/-- an assertion that holds -/
theorem choP.ask (h : choP K N O RR f n fy hw wi st p tu D SK dp WK chn ON fo SP S x) (k : K x = 3) (a : hld f n p (O x)) (hx : 0 ≤ N x ∧ N x < 1024 ∧ 0 ≤ p) : choQ K N O RR f n fy hw wi st p (tu + 1) D (zu SK dp (N x)) (dp + 1) WK chn ON fo SP S := by
  obtain ⟨D1, Q, s, R, T, L, g, c, ⟨a1, a2, a3, a4⟩, hg, ⟨hR, h0, hL⟩, hT, hm, hc⟩ := h
  have hs : ∀ i : Int, 0 ≤ i → i < dp → zu SK dp (N x) i = SK i := fun i i0 i1 => zu_ne (by omega)
  have hv : zu SK dp (N x) dp = N x := zu_self _ _ _
  have ev : skT p (zu SK dp (N x)) dp = p * 1024 + N x := by rw [skT_p (by omega), hv]
  refine ⟨D1 ++ [x], Q, _, L ++ R, T, g, c, ⟨by rw [a1, List.append_assoc]; rfl, a2, ?_, by rw [nU_p h0 hs, hv, if_neg (by omega)]; rw [wO_c] at a4; split at a4 <;> omega⟩, hg, ⟨RS.push hR h0 (fun i i0 i1 => skT_cg (hs i i0 i1)) (by omega) ?_, by omega⟩, hT.up mem_c, hm, fun d hd => ⟨(hc d hd).1, (hc d hd).2.imp id (mem_c 1)⟩⟩
  · rw [skl_p h0 hs, hv, if_neg (by omega), chO_1 (Or.inr k)]
    exact List.Sublist.cons_cons _ a3
  · rw [show skT p (zu SK dp (N x)) dp % 1024 = N x by omega, show skT p (zu SK dp (N x)) dp / 1024 = p by omega]
    exact ww_i2 (tgC_3 k) a hL
/-- a split -/
theorem choP.split (h : choP K N O RR f n fy hw wi st p tu D SK dp WK chn ON fo SP S x) (k : K x = 6) (hx : 0 ≤ N x ∧ N x < 1024 ∧ 0 ≤ O x ∧ O x < 1024 ∧ 0 ≤ p) : choQ K N O RR f n fy hw wi st p (tu + 1) D (zu (zu SK dp (O x)) (dp + 1) (N x)) (dp + 1 + 1) WK chn ON fo SP S := by
  obtain ⟨D1, Q, s, R, T, L, g, c, ⟨a1, a2, a3, a4⟩, hg, ⟨hR, h0, hL⟩, hT, hm, hc⟩ := h
  obtain ⟨L1, L2, w1, w2, w3⟩ := ww_i3 (tgC_6 k) hL
  have hs : ∀ i : Int, 0 ≤ i → i < dp → zu SK dp (O x) i = SK i := fun i i0 i1 => zu_ne (by omega)
  have hv : zu SK dp (O x) dp = O x := zu_self _ _ _
  have ev : skT p (zu SK dp (O x)) dp = p * 1024 + O x := by rw [skT_p (by omega), hv]
  have hs2 : ∀ i : Int, 0 ≤ i → i < dp + 1 → zu (zu SK dp (O x)) (dp + 1) (N x) i = zu SK dp (O x) i := fun i i0 i1 => zu_ne (by omega)
  have hv2 : zu (zu SK dp (O x)) (dp + 1) (N x) (dp + 1) = N x := zu_self _ _ _
  have ev2 : skT p (zu (zu SK dp (O x)) (dp + 1) (N x)) (dp + 1) = p * 1024 + N x := by rw [skT_p (by omega), hv2]
  refine ⟨D1 ++ [x], Q, _, L1 ++ (L2 ++ R), T, g, c, ⟨by rw [a1, List.append_assoc]; rfl, a2, ?_, by rw [nU_p (by omega) hs2, hv2, if_neg (by omega), nU_p h0 hs, hv, if_neg (by omega)]; rw [wO_c] at a4; split at a4 <;> omega⟩, hg, ⟨RS.push (RS.push hR h0 (fun i i0 i1 => skT_cg (hs i i0 i1)) (by omega) ?_) (by omega) (fun i i0 i1 => skT_cg (hs2 i i0 i1)) (by omega) ?_, by omega⟩, hT.up mem_c, ⟨hm.1, by rw [← List.append_assoc L1, ← w3]; exact hm.2⟩, fun d hd => ⟨(hc d hd).1, (hc d hd).2.imp id (mem_c 1)⟩⟩
  · rw [skl_p (by omega) hs2, hv2, if_neg (by omega), skl_p h0 hs, hv, if_neg (by omega), chO_6 k]
    exact List.Sublist.cons_cons _ (List.Sublist.cons_cons _ a3)
  · rw [show skT p (zu SK dp (O x)) dp % 1024 = O x by omega, show skT p (zu SK dp (O x)) dp / 1024 = p by omega]
    exact w2
  · rw [show skT p (zu (zu SK dp (O x)) (dp + 1) (N x)) (dp + 1) % 1024 = N x by omega, show skT p (zu (zu SK dp (O x)) (dp + 1) (N x)) (dp + 1) / 1024 = p by omega]
    exact w1
/-- a place is saved -/
theorem choP.save (h : choP K N O RR f n fy hw wi st p tu D SK dp WK chn ON fo SP S x) (k : K x = 7) (hb : 2 ≤ O x ∧ O x < wi ∧ wi ≤ 20) (hk : -1 ≤ WK (O x) ∧ WK (O x) ≤ 2000) (hx : 0 ≤ N x ∧ N x < 1024 ∧ 0 ≤ p) : choQ K N O RR f n fy hw wi st p (tu + 1) D (zu (zu SK dp (-1 - (O x * 4096 + (WK (O x) + 1)))) (dp + 1) (N x)) (dp + 1 + 1) (zu WK (O x) p) chn ON fo SP S := by
  obtain ⟨D1, Q, s, R, T, L, g, c, ⟨a1, a2, a3, a4⟩, ⟨hg, hg0⟩, ⟨hR, h0, hL⟩, hT, hm, hc⟩ := h
  obtain ⟨e, he⟩ : ∃ e : Int, e = -1 - (O x * 4096 + (WK (O x) + 1)) := ⟨_, rfl⟩
  rw [← he]
  have hs : ∀ i : Int, 0 ≤ i → i < dp → zu SK dp e i = SK i := fun i i0 i1 => zu_ne (by omega)
  have hv : zu SK dp e dp = e := zu_self _ _ _
  have ev : skT p (zu SK dp e) dp = e := by rw [skT_n (by omega), hv]
  have hs2 : ∀ i : Int, 0 ≤ i → i < dp + 1 → zu (zu SK dp e) (dp + 1) (N x) i = zu SK dp e i := fun i i0 i1 => zu_ne (by omega)
  have hv2 : zu (zu SK dp e) (dp + 1) (N x) (dp + 1) = N x := zu_self _ _ _
  have ev2 : skT p (zu (zu SK dp e) (dp + 1) (N x)) (dp + 1) = p * 1024 + N x := by rw [skT_p (by omega), hv2]
  have hR2 : RS (tgC K) N O (phas K O RR) f n (skT p (zu SK dp e)) (dp + 1).toNat (zu g (O x) p) R := by
    rw [show (dp + 1).toNat = dp.toNat + 1 by omega]
    have ed : ((dp.toNat : Nat) : Int) = dp := by omega
    refine Or.inr ⟨by rw [ed]; omega, ?_⟩
    rw [ed, ev, show (-1 - e) / 4096 = O x by omega, show (-1 - e) % 4096 - 1 = WK (O x) by omega, zu_back (hg (O x) hb.1 hb.2.1).symm]
    exact RS.eq _ _ _ hR (fun i i0 i1 => skT_cg (hs i i0 (by omega)))
  refine ⟨D1 ++ [x], Q, _, L ++ R, T, zu g (O x) p, c, ⟨by rw [a1, List.append_assoc]; rfl, a2, ?_, by rw [nU_p (by omega) hs2, hv2, if_neg (by omega), nU_p h0 hs, hv, if_pos (by omega)]; rw [wO_c, if_pos k] at a4; omega⟩, ⟨fun i i0 i1 => ?_, by rw [zu_ne (by omega)]; exact hg0⟩, ⟨RS.push hR2 (by omega) (fun i i0 i1 => skT_cg (hs2 i i0 i1)) (by omega) ?_, by omega⟩, hT.up mem_c, hm, fun d hd => ⟨(hc d hd).1, (hc d hd).2.imp id (mem_c 1)⟩⟩
  · rw [skl_p (by omega) hs2, hv2, if_neg (by omega), skl_p h0 hs, hv, if_pos (by omega), chO_1 (Or.inl k)]
    exact List.Sublist.cons_cons _ a3
  · by_cases z : i = O x
    · rw [z, zu_self, zu_self]
    · rw [zu_ne z, zu_ne z]; exact hg i i0 i1
  · rw [show skT p (zu (zu SK dp e) (dp + 1) (N x)) (dp + 1) % 1024 = N x by omega, show skT p (zu (zu SK dp e) (dp + 1) (N x)) (dp + 1) / 1024 = p by omega]
    exact ww_i4 (tgC_7 k) hL
/-- the one that takes -/
theorem choP.take (h : choP K N O RR f n fy hw wi st p tu D SK dp WK chn ON fo SP S x) (hg : gdO K O RR D) (hb : btk K O RR C Rs n x p v) (hk : 0 ≤ K x ∧ K x ≤ 2 ∧ 0 ≤ x) (hs : suok f C Rs H n) (h0 : 0 ≤ p ∧ p ≤ n) (hv : 0 < v) (hw2 : 2 ≤ wi) : choQ K N O RR f n fy hw wi st p (tu + 1) D SK dp WK x (zcpy WK ON 0 0 wi) fo SP S := by
  obtain ⟨D1, Q, s, R, T, L, g, c, ⟨a1, a2, a3, a4⟩, ⟨hg1, hg0⟩, ⟨hR, h1, hL⟩, hT, hm, hc⟩ := h
  have tk := btk_tk hb hs h0 hv
  have t0 : T = [] := by
    rcases hT with ⟨_, t⟩ | ⟨_, t2, t3, t4, _⟩
    · exact t
    · rw [a1] at hg
      exact absurd (tkP_cl t4 tk) ((gdO_two hg t2).2 t3.2 hk.2.1)
  rw [t0, List.nil_append] at hm
  refine ⟨D1 ++ [x], Q, _, R, L, g, c, ⟨by rw [a1, List.append_assoc]; rfl, a2, a3.trans (List.sublist_append_right _ _), by rw [wO_c] at a4; split at a4 <;> omega⟩, ⟨hg1, hg0⟩, ⟨hR, h1⟩, Or.inr ⟨hk.2.2, List.mem_append_right _ (List.mem_cons.mpr (Or.inl rfl)), ⟨hk.1, hk.2.1⟩, tk, g, fun i i0 i1 => by rw [zcpy_0 (by omega)]; exact hg1 i i0 i1, by rw [zcpy_0 (by omega)]; exact hg0, hL⟩, hm, fun d hd => ⟨(hc d hd).1, (hc d hd).2.imp id (mem_c 1)⟩⟩
theorem choP.ar (h : choP K N O RR f n fy hw wi st p tu D SK dp WK chn ON fo SP S x) (k : K x = 8) : ∃ (D1 Q s : List Int) (R T : List (Int × Gr)) (g : Gr) (c : Option (Int × Gr)), (D = D1 ++ x :: Q ∧ DSq K N O Q (chO K N O x ++ s) ∧ (skl SK dp.toNat).Sublist s ∧ tu + wO K (x :: Q) + nU SK dp.toNat ≤ 1615) ∧ (gA WK g wi ∧ WK 0 = st) ∧ (RS (tgC K) N O (phas K O RR) f n (skT p SK) dp.toNat g R ∧ 0 ≤ dp) ∧ choT K N O RR f n wi st p D1 chn ON T ∧ (mch c fo SP wi st ∧ lf1 fy hw n c (T ++ ((p, g) :: R)) S) ∧ ∀ d, c = some d → d.1 ≤ p ∧ (d.1 < p ∨ 1 ∈ D1) := by
  obtain ⟨D1, Q, s, R, T, L, g, c, a, hg, ⟨hR, h1, hL⟩, hT, hm, hc⟩ := h
  rw [ww_i5 (tgC_8 k) hL] at hm
  exact ⟨D1, Q, s, R, T, g, c, a, hg, ⟨hR, h1⟩, hT, hm, hc⟩
theorem choP.miss (h : choP K N O RR f n fy hw wi st p tu D SK dp WK chn ON fo SP S x) (k : K x = 8) (ha : hw = 2 ∧ p < n) : choQ K N O RR f n fy hw wi st p (tu + 1) D SK dp WK chn ON fo SP S := by
  obtain ⟨D1, Q, s, R, T, g, c, ⟨a1, a2, a3, a4⟩, hg, hR, hT, hm, hc⟩ := h.ar k
  exact ⟨D1 ++ [x], Q, _, R, T, g, c, ⟨by rw [a1, List.append_assoc]; rfl, a2, a3.trans (List.sublist_append_right _ _), by rw [wO_c] at a4; split at a4 <;> omega⟩, hg, hR, hT.up mem_c, ⟨hm.1, hm.2.miss (fun z => z ha)⟩, fun d hd => ⟨(hc d hd).1, (hc d hd).2.imp id (mem_c 1)⟩⟩
theorem mch_w2 {g : Gr} (hg : gA WK g wi ∧ WK 0 = st) (hw2 : 2 ≤ wi) : mch (some (p, g)) 1 (zu (zcpy WK SP 0 0 wi) 1 p) wi st := Or.inr ⟨p, g, rfl, rfl, by rw [zu_ne (by decide), zcpy_0 (by omega)]; exact hg.2, zu_self _ _ _, fun i i0 i1 => by rw [zu_ne (by omega), zcpy_0 (by omega)]; exact hg.1 i i0 i1⟩
theorem choP.long (h : choP K N O RR f n fy hw wi st p tu D SK dp WK chn ON fo SP S x) (hg : gdO K O RR D) (k : K x = 8) (hx : x = 1) (ha : ¬ hw = 2 ∨ n ≤ p) (hf : ¬ fy = 1) (hw2 : 2 ≤ wi) (hb : bytes f n) (h0 : 0 ≤ p ∧ p ≤ n) : choQ K N O RR f n fy hw wi st p (tu + 1) D SK dp WK chn ON 1 (zu (zcpy WK SP 0 0 wi) 1 p) S := by
  obtain ⟨D1, Q, s, R, T, g, c, ⟨a1, a2, a3, a4⟩, hg1, hR, hT, hm, hc⟩ := h.ar k
  have n1 : ¬ (1 : Int) ∈ D1 := fun z => by
    rw [a1] at hg
    exact (gdO_two hg z).1 (by rw [← hx, k]; decide) hx.symm
  refine ⟨D1 ++ [x], Q, _, R, T, g, some (p, g), ⟨by rw [a1, List.append_assoc]; rfl, a2, a3.trans (List.sublist_append_right _ _), by rw [wO_c] at a4; split at a4 <;> omega⟩, hg1, hR, hT.up mem_c, ⟨mch_w2 hg1 hw2, hm.2.long (fun z => ?_) hf (hT.gt hb h0) (fun d hd => ?_)⟩, fun d hd => ⟨by rw [← Option.some.inj hd]; exact Int.le_refl _, Or.inr (List.mem_append_right _ (List.mem_cons.mpr (Or.inl hx.symm)))⟩⟩
  · rcases ha with q | q
    · exact q z.1
    · have := z.2; omega
  · rcases (hc d hd).2 with q | q
    · exact q
    · exact absurd q n1
/-- what choosing leaves: T, what the chosen one has, and what was found -/
def choE (K N O RR f : Int → Int) (n fy hw wi st p : Int) (chn : Int) (ON : Int → Int) (fo : Int) (SP : Int → Int) (S : Option (Int × Gr)) : Prop := ∃ (T : List (Int × Gr)) (c : Option (Int × Gr)), ((chn = -1 ∧ T = []) ∨ (0 ≤ chn ∧ (0 ≤ K chn ∧ K chn ≤ 2) ∧ tkP K O RR f n p chn ∧ ∃ gT : Gr, gA ON gT wi ∧ ON 0 = st ∧ WW (tgC K) N O (phas K O RR) f n chn p gT T)) ∧ (mch c fo SP wi st ∧ lf1 fy hw n c T S) ∧ ∀ d, c = some d → d.1 ≤ p
theorem choT.ee (h : choT K N O RR f n wi st p D1 chn ON T) : (chn = -1 ∧ T = []) ∨ (0 ≤ chn ∧ (0 ≤ K chn ∧ K chn ≤ 2) ∧ tkP K O RR f n p chn ∧ ∃ gT : Gr, gA ON gT wi ∧ ON 0 = st ∧ WW (tgC K) N O (phas K O RR) f n chn p gT T) := h.imp id (fun ⟨a, _, b⟩ => ⟨a, b⟩)
theorem choP.first (h : choP K N O RR f n fy hw wi st p tu D SK dp WK chn ON fo SP S x) (k : K x = 8) (ha : ¬ hw = 2 ∨ n ≤ p) (hf : fy = 1) (hw2 : 2 ≤ wi) : choE K N O RR f n fy hw wi st p chn ON 1 (zu (zcpy WK SP 0 0 wi) 1 p) S := by
  obtain ⟨D1, Q, s, R, T, g, c, _, hg1, _, hT, hm, hc⟩ := h.ar k
  refine ⟨T, some (p, g), hT.ee, ⟨mch_w2 hg1 hw2, hm.2.first (fun z => ?_) hf⟩, fun d hd => by rw [← Option.some.inj hd]; exact Int.le_refl _⟩
  rcases ha with q | q
  · exact q z.1
  · have := z.2; omega
theorem choQ.tt (h : choQ K N O RR f n fy hw wi st p tu D SK dp WK chn ON fo SP S) : tu ≤ 1615 := by
  obtain ⟨D1, Q, s, R, T, g, c, ⟨_, _, _, a4⟩, _⟩ := h
  have := wO_nn (K := K) Q
  have := nU_nn (SK := SK) dp.toNat
  omega
theorem choQ.fin (h : choQ K N O RR f n fy hw wi st p tu D SK dp WK chn ON fo SP S) (hd : dp = 0) : choE K N O RR f n fy hw wi st p chn ON fo SP S := by
  obtain ⟨D1, Q, s, R, T, g, c, _, _, ⟨hR, _⟩, hT, hm, hc⟩ := h
  rw [hd] at hR
  have e : R = [] := hR
  rw [e, List.append_nil] at hm
  exact ⟨T, c, hT.ee, hm, fun d hd => (hc d hd).1⟩
end ChQ
/-! find: from one state to the next -/
def omF (K N O RR f : Int → Int) (n fy hw wi st x p : Int) (WK : Int → Int) (fo : Int) (SP : Int → Int) (S : Option (Int × Gr)) : Prop := ∃ (L : List (Int × Gr)) (c : Option (Int × Gr)), ((x = -1 ∧ L = []) ∨ (0 ≤ x ∧ (∀ d, c = some d → d.1 < p) ∧ ∃ g : Gr, gA WK g wi ∧ WK 0 = st ∧ WW (tgC K) N O (phas K O RR) f n x p g L)) ∧ (mch c fo SP wi st ∧ lf1 fy hw n c L S)
/-- every state where it may begin is clear -/
def omC (K N O RR : Int → Int) (cnt fi : Int) : Prop := ∀ b : Int, (b = fi ∨ ∃ x : Int, (0 ≤ x ∧ x < cnt) ∧ K x ≤ 2 ∧ b = N x) → ∃ D : List Int, DSq K N O D [b] ∧ gdO K O RR D ∧ wO K D ≤ 1615
section OmF
variable {K N O RR f C Rs H : Int → Int} {n fy hw wi st p x v : Int} {D : List Int} {SK WK W2 ON SP : Int → Int} {chn fo : Int} {S : Option (Int × Gr)}
theorem omF_0 {u : Sn} (hpr : prM K N O RR x u) (hb : bytes f n) (hp : 0 ≤ p ∧ p ≤ n) (hx : 0 ≤ x) (hg : gA WK (fun _ => -1) wi) (hg0 : WK 0 = p) (hf : fo = 0) : omF K N O RR f n fy hw wi p x p WK fo SP (mtR fy hw n (wyR u f n p)) := ⟨_, none, Or.inr ⟨hx, fun d hd => (by cases hd), _, hg, hg0, by rw [wyR_p hp.1 hp.2]; exact hpr.ww hb hp.1 hp.2⟩, ⟨Or.inl ⟨rfl, hf⟩, lf1_0⟩⟩
theorem omF.fin (h : omF K N O RR f n fy hw wi st x p WK fo SP S) (hx : x = -1) : mch S fo SP wi st := by
  obtain ⟨L, c, h1, h2⟩ := h
  rcases h1 with ⟨_, e⟩ | ⟨e, _⟩
  · rw [e] at h2
    rw [h2.2.done]
    exact h2.1
  · omega
/-- choosing begins -/
theorem omF.q (h : omF K N O RR f n fy hw wi st x p WK fo SP S) (hx : 0 ≤ x ∧ x < 1024 ∧ 0 ≤ p) (hD : DSq K N O D [x]) (hc : chn = -1) (hw9 : wO K D ≤ 1615) : choQ K N O RR f n fy hw wi st p 0 D (zu SK 0 x) 1 WK chn ON fo SP S := by
  obtain ⟨L, c, h1, h2⟩ := h
  rcases h1 with ⟨e, _⟩ | ⟨_, h3, g, g1, g2, g3⟩
  · omega
  · have hv : zu SK 0 x 0 = x := zu_self _ _ _
    have ev : skT p (zu SK 0 x) 0 = p * 1024 + x := by rw [skT_p (by omega), hv]
    refine ⟨[], D, [x], L ++ [], [], g, c, ⟨rfl, hD, ?_, ?_⟩, ⟨g1, g2⟩, ⟨?_, by decide⟩, Or.inl ⟨hc, rfl⟩, ⟨h2.1, by rw [List.nil_append, List.append_nil]; exact h2.2⟩, fun d hd => ⟨by have := h3 d hd; omega, Or.inl (h3 d hd)⟩⟩
    · show (if zu SK 0 x 0 < 0 then [] else [zu SK 0 x 0]).Sublist [x]
      rw [hv, if_neg (by omega)]
      exact List.Sublist.refl _
    · show 0 + wO K D + (0 + (if zu SK 0 x 0 < 0 then 1 else 0)) ≤ 1615
      rw [hv, if_neg (by omega)]
      omega
    · show RS (tgC K) N O (phas K O RR) f n (skT p (zu SK 0 x)) (0 + 1) g (L ++ [])
      refine Or.inl ⟨by show 0 ≤ skT p (zu SK 0 x) 0; omega, L, [], ?_, rfl, rfl⟩
      show WW (tgC K) N O (phas K O RR) f n (skT p (zu SK 0 x) 0 % 1024) (skT p (zu SK 0 x) 0 / 1024) g L
      rw [show skT p (zu SK 0 x) 0 % 1024 = x by omega, show skT p (zu SK 0 x) 0 / 1024 = p by omega]
      exact g3
/-- nothing was chosen -/
theorem choE.none (h : choE K N O RR f n fy hw wi st p chn ON fo SP S) (hc : chn = -1) : omF K N O RR f n fy hw wi st (-1) p WK fo SP S := by
  obtain ⟨T, c, h1, h2, h3⟩ := h
  rcases h1 with ⟨_, e⟩ | ⟨e, _⟩
  · exact ⟨T, c, Or.inl ⟨rfl, e⟩, h2⟩
  · omega
/-- the chosen one is taken -/
theorem choE.take (h : choE K N O RR f n fy hw wi st p chn ON fo SP S) (hc : 0 ≤ chn) (hb : btk K O RR C Rs n chn p v) (hs : suok f C Rs H n) (h0 : 0 ≤ p ∧ p ≤ n) (hx : 0 ≤ N chn) (hw2 : 2 ≤ wi) : omF K N O RR f n fy hw wi st (N chn) (p + v) (zcpy ON WK 0 0 wi) fo SP S ∧ 1 ≤ v ∧ p + v ≤ n := by
  obtain ⟨T, c, h1, h2, h3⟩ := h
  rcases h1 with ⟨e, _⟩ | ⟨_, hk, tk, gT, t1, t2, t3⟩
  · omega
  · have cc := (hs.2 p h0.1 (by omega)).1
    have r := (hs.2 p h0.1 (by omega)).2.1
    have key : WW (tgC K) N O (phas K O RR) f n (N chn) (p + v) gT T ∧ 1 ≤ v ∧ p + v ≤ n := by
      rcases tk with ⟨k1, k2⟩ | ⟨k1, k2, k3⟩
      · have ev : v = 1 := by
          rcases hb with ⟨b1, b2, b3⟩ | ⟨b1, b2, b3⟩ | ⟨b1, b2, b3, b4⟩ | ⟨b1, b2, b3⟩
          · exact b3
          · exact absurd k2 b2
          · exact absurd k1 b1
          · exact absurd k1 b1
        rw [ev]
        exact ⟨ww_i1 (tgC_2 k1) k2 t3, by omega, by omega⟩
      · have ev : v = wd (u8 f n p) := by
          rcases hb with ⟨b1, b2, b3⟩ | ⟨b1, b2, b3⟩ | ⟨b1, b2, b3, b4⟩ | ⟨b1, b2, b3⟩
          · exact absurd b1 k1
          · exact absurd b1 k1
          · rw [b4]; exact r (by omega)
          · rw [cc] at b2
            rcases b2 with b2 | b2
            · omega
            · exact absurd k3 b2
        have wp := wd_in (u8 f n p)
        have w8 := u8_w hs.1 k2
        rw [ev]
        exact ⟨ww_i0 (tgC_0 (by omega)) ⟨k2, k3⟩ t3, by omega, by omega⟩
    refine ⟨⟨T, c, Or.inr ⟨hx, fun d hd => by have := h3 d hd; omega, gT, fun i i0 i1 => by rw [zcpy_0 (by omega)]; exact t1 i i0 i1, by rw [zcpy_0 (by omega)]; exact t2, key.1⟩, h2⟩, key.2⟩
/-- what find has at its end -/
theorem om_res {u : Sn} (hm : mch (mtR fy hw n (wyR u f n p)) fo SP wi p) (hw0 : ¬ hw = 0) : fdC u f n fy hw p wi fo SP := by
  have la : p = laR hw n p := laR_1 hw0
  refine ⟨_, p, ?_, hm⟩
  rw [← la]
  by_cases e : mtR fy hw n (wyR u f n p) = none
  · exact Or.inl ⟨e, fun q a b => by rw [show q = p by omega]; exact e⟩
  · exact Or.inr ⟨e, ⟨Int.le_refl _, Int.le_refl _⟩, rfl, fun q a b => by omega⟩
end OmF
