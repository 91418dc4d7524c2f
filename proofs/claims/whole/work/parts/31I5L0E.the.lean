/-! threads: what begins later; what the whole run finds -/
def fuN (Z : Int → List (Int × Gr)) (i : Int) : Nat → List Tw
  | 0 => []
  | k + 1 => tgT i (Z i) ++ fuN Z (i + 1) k
def tw3 (st : Int) (s : Option (Int × Gr)) : Option Tw := s.map (fun x => (st, x.1, x.2))
section FuN
variable {Z : Int → List (Int × Gr)} {fy hw n fr la i st : Int} {L : List (Int × Gr)} {R : List Tw}
theorem fuN_ge : ∀ (k : Nat) (i : Int), ∀ y ∈ fuN Z i k, i ≤ y.1 := by
  intro k
  induction k with
  | zero => intro i y hy; exact absurd hy List.not_mem_nil
  | succ k ih =>
    intro i y hy
    rcases List.mem_append.mp hy with z | z
    · obtain ⟨w, _, w2⟩ := mem_tgT.mp z
      rw [w2]; exact Int.le_refl _
    · have := ih (i + 1) y z; omega
theorem sdT_tg : sdT (tgT st L) := by
  have := sdT_app (st := st) (W := []) (V := tgT st L) List.Pairwise.nil (fun y hy => absurd hy List.not_mem_nil) (fun y hy => by obtain ⟨w, _, w2⟩ := mem_tgT.mp hy; rw [w2])
  exact this
theorem fuN_sd : ∀ (k : Nat) (i : Int), sdT (fuN Z i k) := by
  intro k
  induction k with
  | zero => intro i; exact List.Pairwise.nil
  | succ k ih =>
    intro i
    refine List.pairwise_append.mpr ⟨sdT_tg, ih (i + 1), fun x hx y hy => ?_⟩
    obtain ⟨w, _, w2⟩ := mem_tgT.mp hx
    have := fuN_ge k (i + 1) y hy
    rw [w2]
    show i ≤ y.1
    omega
theorem fold_tg : ∀ (L : List (Int × Gr)) (s : Option (Int × Gr)), (tgT st L).foldl (upT hw n) (tw3 st s) = tw3 st (bst hw n s L) := by
  intro L
  induction L with
  | nil => intro s; rfl
  | cons z t ih =>
    intro s
    have e : (tgT st (z :: t)).foldl (upT hw n) (tw3 st s) = (tgT st t).foldl (upT hw n) (upT hw n (tw3 st s) (st, z.1, z.2)) := rfl
    have e2 : upT hw n (tw3 st s) (st, z.1, z.2) = tw3 st (upw hw n s z) := by
      by_cases a : accB hw n z.1 = true
      · have a2 : acT hw n (st, z.1, z.2) = true := a
        cases s with
        | none =>
          rw [show tw3 st (none : Option (Int × Gr)) = none from rfl, upT_n a2, show upw hw n none z = some z from if_pos a]
          rfl
        | some y =>
          rw [show tw3 st (some y) = some (st, y.1, y.2) from rfl, upT_y a2, show upw hw n (some y) z = (if y.1 < z.1 then some z else some y) from if_pos a]
          by_cases c : y.1 < z.1
          · rw [if_pos c, if_pos ⟨rfl, c⟩]; rfl
          · rw [if_neg c, if_neg (fun q => c q.2)]; rfl
      · have a2 : ¬ acT hw n (st, z.1, z.2) = true := a
        rw [upT_no a2, show upw hw n s z = s from if_neg a]
    rw [e, e2, ih]
    rfl
theorem slT_tg (h : ∀ y ∈ R, st < y.1) : slT fy hw n (tgT st L ++ R) = (tw3 st (mtR fy hw n L)).or (slT fy hw n R) := by
  unfold slT mtR
  split
  · rw [List.find?_append]
    congr 1
    unfold tgT fA tw3
    rw [List.find?_map]
    rfl
  · rw [List.foldl_append, show (none : Option Tw) = tw3 st none from rfl, fold_tg]
    cases hq : bst hw n none L with
    | none => rfl
    | some d => exact fT_skip R (fun y hy _ e => by have := h y hy; have e3 : y.1 = st := e; omega)
theorem fuN_fn : ∀ (k : Nat) (i : Int), ∃ (S : Option (Int × Gr)) (st : Int), fnR Z fy hw n i (i + k - 1) st S ∧ slT fy hw n (fuN Z i k) = tw3 st S := by
  intro k
  induction k with
  | zero => intro i; exact ⟨none, 0, Or.inl ⟨rfl, fun p a b => by omega⟩, slT_none.mpr (fun y hy => absurd hy List.not_mem_nil)⟩
  | succ k ih =>
    intro i
    have e : slT fy hw n (fuN Z i (k + 1)) = (tw3 i (mtR fy hw n (Z i))).or (slT fy hw n (fuN Z (i + 1) k)) := slT_tg (fun y hy => by have := fuN_ge k (i + 1) y hy; omega)
    rw [e]
    cases hm : mtR fy hw n (Z i) with
    | some y => exact ⟨some y, i, Or.inr ⟨fun z => (by cases z), ⟨Int.le_refl _, by omega⟩, hm, fun p a b => by omega⟩, rfl⟩
    | none =>
      obtain ⟨S, st, s1, s2⟩ := ih (i + 1)
      have no : ∀ p : Int, i ≤ p → ¬ i + 1 ≤ p → mtR fy hw n (Z p) = none := fun p a b => by
        rw [show p = i by omega]; exact hm
      refine ⟨S, st, ?_, by rw [s2]; rfl⟩
      rcases s1 with ⟨a1, a2⟩ | ⟨a1, a2, a3, a4⟩
      · refine Or.inl ⟨a1, fun p q1 q2 => ?_⟩
        by_cases c : i + 1 ≤ p
        · exact a2 p c (by omega)
        · exact no p q1 c
      · refine Or.inr ⟨a1, ⟨by omega, by omega⟩, a3, fun p q1 q2 => ?_⟩
        by_cases c : i + 1 ≤ p
        · exact a4 p c q2
        · exact no p q1 c
/-- what the run has at its end is what find finds -/
theorem th_res {v : Sn} {f SP : Int → Int} {wi fo : Int} {S : Option Tw} (hS : S = slT fy hw n (fuN (wyR v f n) fr (laR hw n fr + 1 - fr).toNat)) (hc : mcT S fo SP wi) (hf : fr ≤ laR hw n fr) : fdC v f n fy hw fr wi fo SP := by
  obtain ⟨T, st, t1, t2⟩ := fuN_fn (Z := wyR v f n) (fy := fy) (hw := hw) (n := n) (laR hw n fr + 1 - fr).toNat fr
  rw [show fr + (((laR hw n fr + 1 - fr).toNat : Nat) : Int) - 1 = laR hw n fr by omega] at t1
  refine ⟨T, st, t1, ?_⟩
  rw [t2] at hS
  cases T with
  | none =>
    rcases hc with ⟨_, c2⟩ | ⟨s, e, g, c1, _⟩
    · exact Or.inl ⟨rfl, c2⟩
    · rw [hS] at c1; cases c1
  | some y =>
    rcases hc with ⟨c1, _⟩ | ⟨s, e, g, c1, c2, c3, c4, c5⟩
    · rw [hS] at c1; cases c1
    · rw [hS] at c1
      have e1 : (st, y.1, y.2) = (s, e, g) := Option.some.inj c1
      injection e1 with k1 k2
      injection k2 with k2 k3
      exact Or.inr ⟨e, g, by rw [← k2, ← k3], c2, by rw [c3, k1], c4, c5⟩
end FuN
/-- where the whole must be taken it is all one which is taken -/
theorem mtR_2 {n : Int} : ∀ (L : List (Int × Gr)), (∀ x ∈ L, x.1 ≤ n) → mtR 0 2 n L = mtR 1 2 n L := by
  have key : ∀ (L : List (Int × Gr)) (y : Int × Gr), n ≤ y.1 → (∀ x ∈ L, x.1 ≤ n) → bst 2 n (some y) L = some y := by
    intro L
    induction L with
    | nil => intro y _ _; rfl
    | cons z t ih =>
      intro y hy h
      have e : bst 2 n (some y) (z :: t) = bst 2 n (upw 2 n (some y) z) t := rfl
      have z1 := h z (List.mem_cons.mpr (Or.inl rfl))
      have k : upw 2 n (some y) z = some y := by
        unfold upw
        split
        · show (if y.1 < z.1 then some z else some y) = some y
          rw [if_neg (by omega)]
        · rfl
      rw [e, k]
      exact ih y hy (fun x hx => h x (List.mem_cons_of_mem _ hx))
  intro L
  induction L with
  | nil => intro _; rfl
  | cons z t ih =>
    intro h
    have h2 := ih (fun x hx => h x (List.mem_cons_of_mem _ hx))
    unfold mtR at h2 ⊢
    rw [if_neg (by decide), if_pos rfl] at h2 ⊢
    have e : bst 2 n none (z :: t) = bst 2 n (upw 2 n none z) t := rfl
    rw [e]
    by_cases a : accB 2 n z.1 = true
    · rw [show upw 2 n none z = some z from if_pos a]
      have zn : n ≤ z.1 := by
        by_cases q : n ≤ z.1
        · exact q
        · unfold accB at a
          rw [decide_eq_true (show z.1 < n by omega)] at a
          exact absurd a (by decide)
      rw [key t z zn (fun x hx => h x (List.mem_cons_of_mem _ hx))]
      unfold fA
      exact (List.find?_cons_of_pos (p := fun x : Int × Gr => accB 2 n x.1) a).symm
    · rw [show upw 2 n none z = none from if_neg a, h2]
      unfold fA
      exact (List.find?_cons_of_neg (p := fun x : Int × Gr => accB 2 n x.1) a).symm
/-! a row with its ways -/
def thG (tg a b : Int → Int) (mm : Int → Int → Prop) (f : Int → Int) (n wi st q : Int) (Rs : Int → Int) (mk : Int → Int → Prop) (TN TS : Int → Int) (tc : Int) (W : List Tw) : Prop := thO tg a b mm f n wi st q Rs TN TS tc W ∧ ∀ y p, mk y p → ∀ e, EN tg a b mm f n y p e → cvd W e
def GRo (K N O RR : Int → Int) (cnt : Int) (f : Int → Int) (n wi st q : Int) (Rs SE : Int → Int) (sta : Int) (TN TS : Int → Int) (tc : Int) (W : List Tw) : Prop := thG (tgC K) N O (phas K O RR) f n wi st q Rs (mkT SE sta q) TN TS tc W ∧ roQ K cnt Rs n q wi st SE sta TN TS tc
section GRo
variable {K N O RR f C Rs H : Int → Int} {cnt n fy hw wi st s2 q p e v y z i : Int} {SE SE2 : Int → Int} {sta : Int} {WK NW NS TN TS TN2 TS2 : Int → Int} {tc nc : Int} {W M V U : List Tw} {L : List (Int × Gr)} {g : Gr}
theorem GRo.ff (h : GRo K N O RR cnt f n wi st q Rs SE sta TN TS tc W) : THF K N O RR cnt f n fy hw wi st q Rs SE sta TN TS tc W := ⟨⟨W, h.1.1, fun _ => rfl, h.1.2⟩, h.2⟩
theorem GRo_of (h : THF K N O RR cnt f n fy hw wi st q Rs SE sta TN TS tc M) : ∃ W : List Tw, GRo K N O RR cnt f n wi st q Rs SE sta TN TS tc W ∧ ∀ B : List Tw, slT fy hw n (M ++ B) = slT fy hw n (W ++ B) := by
  obtain ⟨⟨W, h1, h2, h3⟩, h4⟩ := h
  exact ⟨W, ⟨⟨h1, h3⟩, h4⟩, h2⟩
/-- a new row -/
theorem GRo_0 (h : ∀ i : Int, 0 ≤ i → i < 2048 → ¬ SE i = sta) : GRo K N O RR cnt f n wi st q Rs SE sta TN TS 0 [] := ⟨⟨⟨rfl, List.Pairwise.nil, fun y hy => absurd hy List.not_mem_nil, Int.le_refl 0⟩, fun y p hy => absurd hy (mkT_new h y p)⟩, roQ_0 h⟩
theorem GRo.up (h : GRo K N O RR cnt f n wi st q Rs SE sta TN TS tc W) (hs : st ≤ s2) : GRo K N O RR cnt f n wi s2 q Rs SE sta TN TS tc W := ⟨⟨⟨h.1.1.1, h.1.1.2.1, fun y hy => by have := h.1.1.2.2.1 y hy; omega, h.1.1.2.2.2⟩, h.1.2⟩, h.2.up hs⟩
/-- ends lie at or behind the place -/
theorem thL_ge (hs : suok f C Rs H n) (q0 : 0 ≤ q) (q1 : q ≤ n) : ∀ (k : Nat) (W : List Tw), thL (tgC K) N O (phas K O RR) f n Rs q TN TS wi k W → ∀ w ∈ W, q ≤ w.2.1 := by
  have r := sup_r hs.1 hs.2 (Int.le_refl _) q.toNat (by omega)
  rw [show ((q.toNat : Nat) : Int) = q by omega] at r
  intro k
  induction k with
  | zero => intro W h w hw; rw [show W = [] from h] at hw; exact absurd hw List.not_mem_nil
  | succ k ih =>
    intro W h w hw
    obtain ⟨V, L, g, y, p, a1, a2, a3, a4, a5⟩ := h
    rw [a5] at hw
    rcases List.mem_append.mp hw with z | z
    · exact ih V a1 w z
    · obtain ⟨u, u1, u2⟩ := mem_tgT.mp z
      obtain ⟨m, a4⟩ := a4
      have pp : q ≤ p ∧ p ≤ n := by
        rcases a2 with ⟨_, _, b⟩ | ⟨_, _, b⟩ <;> omega
      have := (EN_ge hs.1 m y p g L (by omega) pp.2 a4 u u1).1
      rw [u2]
      show q ≤ u.1
      omega
/-- what a thread does with the bytes at a place -/
theorem thP.vv (hp : thP N Rs p e y z) (hL : WW (tgC K) N O (phas K O RR) f n y z g L) (hs : suok f C Rs H n) (h0 : 0 ≤ p ∧ p ≤ n ∧ 0 ≤ e ∧ e < 2048) (hv : (e < 1024 ∧ (0 ≤ K (e % 1024) ∧ K (e % 1024) ≤ 2) ∧ btk K O RR C Rs n (e % 1024) p v) ∨ (1024 ≤ e ∧ v = Rs p ∧ 1 ≤ Rs p ∧ p < n)) : (v ≤ 0 → L = []) ∧ (1 ≤ v → WW (tgC K) N O (phas K O RR) f n (N (e % 1024)) (p + v) g L ∧ p + v ≤ n ∧ (2 ≤ v → Rs p = v)) := by
  have c := (hs.2 p h0.1 (by omega)).1
  have r := (hs.2 p h0.1 (by omega)).2.1
  have u := u8_in hs.1 p
  have sr := sup_r hs.1 hs.2 (Int.le_refl _) p.toNat (by omega)
  rw [show ((p.toNat : Nat) : Int) = p by omega] at sr
  rcases hv with ⟨v1, v2, v3⟩ | ⟨v1, v2, v3, v4⟩
  · have ex : e % 1024 = e := by omega
    rw [ex] at v2 v3 ⊢
    have yz : y = e ∧ z = p := by
      rcases hp with ⟨_, b1, b2⟩ | ⟨b, _⟩
      · exact ⟨b1, b2⟩
      · omega
    rw [yz.1, yz.2] at hL
    rcases v3 with ⟨b1, b2, b3⟩ | ⟨b1, b2, b3⟩ | ⟨b1, b2, b3, b4⟩ | ⟨b1, b2, b3⟩
    · rw [b3]
      exact ⟨fun q => by omega, fun _ => ⟨ww_i1 (tgC_2 b1) b2 hL, by omega, fun q => by omega⟩⟩
    · exact ⟨fun _ => ww_i1n (tgC_2 b1) b2 hL, fun q => by omega⟩
    · rw [c] at b2 b3
      have cc : 0 ≤ u8 f n p ∧ phas K O RR e (u8 f n p) := ⟨by omega, b3⟩
      have wp := wd_in (u8 f n p)
      have w8 := u8_w hs.1 cc.1
      have rw1 := r b2
      rw [b4]
      refine ⟨fun q => by omega, fun _ => ⟨?_, by omega, fun _ => rfl⟩⟩
      rw [rw1]
      exact ww_i0 (tgC_0 (by omega)) cc hL
    · rw [c] at b2
      refine ⟨fun _ => ww_i0n (tgC_0 (by omega)) (fun q => ?_) hL, fun q => by omega⟩
      rcases b2 with b2 | b2
      · omega
      · exact b2 q.2
  · have yz : y = N (e % 1024) ∧ z = p + Rs p := by
      rcases hp with ⟨b, _⟩ | ⟨_, b1, b2⟩
      · omega
      · exact ⟨by rw [b1, show e - 1024 = e % 1024 by omega], b2⟩
    rw [yz.1, yz.2] at hL
    rw [v2]
    exact ⟨fun q => by omega, fun _ => ⟨hL, by omega, fun _ => rfl⟩⟩
/-- a state that takes ends behind its place -/
theorem ww_tk (hL : WW (tgC K) N O (phas K O RR) f n y p g L) (hk : 0 ≤ K y ∧ K y ≤ 2) (hb : bytes f n) (h0 : 0 ≤ p ∧ p ≤ n) : ∀ u ∈ L, p < u.1 := fun u hu => by
  by_cases k : K y = 2
  · by_cases c : p < n
    · obtain ⟨m, w⟩ := ww_i1 (tgC_2 k) c hL
      have := (EN_ge hb m _ _ g L (by omega) (by omega) w u hu).1
      omega
    · rw [ww_i1n (tgC_2 k) c hL] at hu
      exact absurd hu List.not_mem_nil
  · have t : tgC K y = 0 := tgC_0 (by omega)
    by_cases c : 0 ≤ u8 f n p ∧ phas K O RR y (u8 f n p)
    · obtain ⟨m, w⟩ := ww_i0 t c hL
      have wp := wd_in (u8 f n p)
      have w8 := u8_w hb c.1
      have := (EN_ge hb m _ _ g L (by omega) (by omega) w u hu).1
      omega
    · rw [ww_i0n t c hL] at hu
      exact absurd hu List.not_mem_nil
/-- what stands behind a thread in its row -/
theorem thR_st : ∀ (m : Nat) (U : List Tw), thR (tgC K) N O (phas K O RR) f n Rs p NW NS wi nc m U → (∀ j : Int, nc - (m : Int) ≤ j → j < nc → z ≤ NS (j * wi)) → ∀ y ∈ U, z ≤ y.1 := by
  intro m
  induction m with
  | zero => intro U h _ y hy; rw [show U = [] from h] at hy; exact absurd hy List.not_mem_nil
  | succ m ih =>
    intro U h hz y hy
    obtain ⟨L, V, g, y2, p2, a1, a2, a3, a4, a5⟩ := h
    rw [a5] at hy
    rcases List.mem_append.mp hy with w | w
    · obtain ⟨u, _, u2⟩ := mem_tgT.mp w
      rw [u2]
      exact hz _ (by omega) (by omega)
    · exact ih V a4 (fun j j0 j1 => hz j (by omega) j1) y w
theorem thR_tk (hs : suok f C Rs H n) (h0 : 0 ≤ p ∧ p ≤ n) : ∀ (m : Nat) (U : List Tw), thR (tgC K) N O (phas K O RR) f n Rs p NW NS wi nc m U → (∀ j : Int, nc - (m : Int) ≤ j → j < nc → (NW j < 1024 ∧ 0 ≤ K (NW j) ∧ K (NW j) ≤ 2) ∨ (1024 ≤ NW j ∧ 1 ≤ Rs p ∧ p < n)) → ∀ y ∈ U, p < y.2.1 := by
  have sr := sup_r hs.1 hs.2 (Int.le_refl _) p.toNat (by omega)
  rw [show ((p.toNat : Nat) : Int) = p by omega] at sr
  intro m
  induction m with
  | zero => intro U h _ y hy; rw [show U = [] from h] at hy; exact absurd hy List.not_mem_nil
  | succ m ih =>
    intro U h hz y hy
    obtain ⟨L, V, g, y2, p2, a1, a2, a3, a4, a5⟩ := h
    rw [a5] at hy
    rcases List.mem_append.mp hy with w | w
    · obtain ⟨u, u1, u2⟩ := mem_tgT.mp w
      rw [u2]
      show p < u.1
      rcases hz (nc - ((m : Int) + 1)) (by omega) (by omega) with ⟨b1, b2, b3⟩ | ⟨b1, b2, b3⟩ <;> rcases a1 with ⟨c1, c2, c3⟩ | ⟨c1, c2, c3⟩
      · rw [c2, c3] at a3
        exact ww_tk a3 ⟨b2, b3⟩ hs.1 h0 u u1
      · omega
      · omega
      · rw [c3] at a3
        obtain ⟨m2, a3⟩ := a3
        have := (EN_ge hs.1 m2 _ _ g L (by omega) (by omega) a3 u u1).1
        omega
    · exact ih V a4 (fun j j0 j1 => hz j (by omega) j1) y w
end GRo
