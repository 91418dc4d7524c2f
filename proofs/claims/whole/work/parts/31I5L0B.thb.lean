/-! threads: following a state into the row of a place -/
def skT (p : Int) (SK : Int → Int) : Int → Int := fun j => if SK j < 0 then SK j else p * 1024 + SK j
theorem skT_n {p j : Int} {SK : Int → Int} (h : SK j < 0) : skT p SK j = SK j := if_pos h
theorem skT_p {p j : Int} {SK : Int → Int} (h : 0 ≤ SK j) : skT p SK j = p * 1024 + SK j := if_neg (by omega)
theorem skT_cg {p i : Int} {SK SK2 : Int → Int} (h : SK2 i = SK i) : skT p SK2 i = skT p SK i := by unfold skT; rw [h]
/-- an end that the row has -/
def cvd (W : List Tw) (e : Int) : Prop := ∃ y ∈ W, y.2.1 = e
theorem mem_tgT {st : Int} {L : List (Int × Gr)} {x : Tw} : x ∈ tgT st L ↔ ∃ z ∈ L, x = (st, z.1, z.2) := by
  unfold tgT
  rw [List.mem_map]
  exact ⟨fun ⟨z, a, b⟩ => ⟨z, a, b.symm⟩, fun ⟨z, a, b⟩ => ⟨z, a, b.symm⟩⟩
theorem tgT_app {st : Int} {L R : List (Int × Gr)} : tgT st (L ++ R) = tgT st L ++ tgT st R := List.map_append
/-- the row as it stands -/
def thO (tg a b : Int → Int) (mm : Int → Int → Prop) (f : Int → Int) (n wi st q : Int) (Rs TN TS : Int → Int) (tc : Int) (W : List Tw) : Prop := thL tg a b mm f n Rs q TN TS wi tc.toNat W ∧ sdT W ∧ (∀ y ∈ W, y.1 ≤ st) ∧ 0 ≤ tc
def thW (tg a b : Int → Int) (mm : Int → Int → Prop) (f : Int → Int) (n fy hw wi st q : Int) (Rs : Int → Int) (mk : Int → Int → Prop) (SK : Int → Int) (dp : Int) (WK TN TS : Int → Int) (tc x : Int) (M : List Tw) : Prop := ∃ (W : List Tw) (L R : List (Int × Gr)) (g : Gr), (gA WK g wi ∧ WK 0 = st) ∧ WW tg a b mm f n x q g L ∧ RS tg a b mm f n (skT q SK) dp.toNat g R ∧ (thO tg a b mm f n wi st q Rs TN TS tc W ∧ 0 ≤ dp) ∧ (∀ B : List Tw, slT fy hw n (M ++ B) = slT fy hw n (W ++ (tgT st L ++ (tgT st R ++ B)))) ∧ mI1 tg a b mm f n (cvd W) mk x q ∧ mI2 tg a b mm f n (cvd W) (EN tg a b mm f n x q) mk (skT q SK) dp ∧ mI3 tg a b mm f n (cvd W) (EN tg a b mm f n x q) mk (skT q SK) dp
def thY (tg a b : Int → Int) (mm : Int → Int → Prop) (f : Int → Int) (n fy hw wi st q : Int) (Rs : Int → Int) (mk : Int → Int → Prop) (SK : Int → Int) (dp : Int) (WK TN TS : Int → Int) (tc : Int) (M : List Tw) : Prop := ∃ (W : List Tw) (R : List (Int × Gr)) (g : Gr), (gA WK g wi ∧ WK 0 = st) ∧ RS tg a b mm f n (skT q SK) dp.toNat g R ∧ (thO tg a b mm f n wi st q Rs TN TS tc W ∧ 0 ≤ dp) ∧ (∀ B : List Tw, slT fy hw n (M ++ B) = slT fy hw n (W ++ (tgT st R ++ B))) ∧ mI2 tg a b mm f n (cvd W) (fun _ => False) mk (skT q SK) dp ∧ mI3 tg a b mm f n (cvd W) (fun _ => False) mk (skT q SK) dp
section ThW
variable {tg a b : Int → Int} {mm : Int → Int → Prop} {f : Int → Int} {n fy hw wi st q : Int} {Rs : Int → Int} {mk mk2 : Int → Int → Prop} {SK SK2 WK TN TS TN2 TS2 : Int → Int} {dp tc x x2 : Int} {M : List Tw}
theorem thW.end0 (h : thW tg a b mm f n fy hw wi st q Rs mk SK dp WK TN TS tc x M) (hm : ∀ y p, mk2 y p → mk y p ∨ (y = x ∧ p = q)) (hp : ∀ (W : List Tw), mI1 tg a b mm f n (cvd W) mk x q → ∀ e, EN tg a b mm f n x q e → cvd W e) : thY tg a b mm f n fy hw wi st q Rs mk2 SK dp WK TN TS tc M := by
  obtain ⟨W, L, R, g, hg, hL, hR, ⟨hO, h0⟩, hl, i1, i2, i3⟩ := h
  have hp := hp W i1
  refine ⟨W, R, g, hg, hR, ⟨hO, h0⟩, fun B => ?_, mI2.last i1 i2 hm (fun _ z => z) hp, i3.last hm (fun _ z => z) hp⟩
  rw [hl B, slT_prune hO.2.1 (fun z hz => ?_)]
  obtain ⟨w, w1, w2⟩ := mem_tgT.mp hz
  obtain ⟨y, y1, y2⟩ := hp w.1 ((EN_of hL).mpr (List.mem_map.mpr ⟨w, w1, rfl⟩))
  exact ⟨y, y1, by rw [w2]; exact y2, by rw [w2]; exact hO.2.2.1 y y1⟩
/-- it was there before -/
theorem thW.dead (h : thW tg a b mm f n fy hw wi st q Rs mk SK dp WK TN TS tc x M) (hx : mk x q) : thY tg a b mm f n fy hw wi st q Rs mk SK dp WK TN TS tc M := h.end0 (fun _ _ z => Or.inl z) (fun _ i1 => i1.dead hx)
/-- it leads nowhere -/
theorem thW.no (h : thW tg a b mm f n fy hw wi st q Rs mk SK dp WK TN TS tc x M) (hm : ∀ y p, mk2 y p → mk y p ∨ (y = x ∧ p = q)) (hn : ∀ (g : Gr) (L : List (Int × Gr)), WW tg a b mm f n x q g L → L = []) : thY tg a b mm f n fy hw wi st q Rs mk2 SK dp WK TN TS tc M := h.end0 hm (fun _ _ e z => by
  obtain ⟨g, L, h1, h2⟩ := z
  rw [hn g L h1] at h2
  exact absurd h2 List.not_mem_nil)
/-- it leads to one other, at the same place -/
theorem thW.go (h : thW tg a b mm f n fy hw wi st q Rs mk SK dp WK TN TS tc x M) (hm : ∀ y p, mk2 y p → mk y p ∨ (y = x ∧ p = q)) (hc : chl tg a b mm f n x q x2 q) (hw2 : ∀ (g : Gr) (L : List (Int × Gr)), WW tg a b mm f n x q g L → WW tg a b mm f n x2 q g L) : thW tg a b mm f n fy hw wi st q Rs mk2 SK dp WK TN TS tc x2 M := by
  obtain ⟨W, L, R, g, hg, hL, hR, ⟨hO, h0⟩, hl, i1, i2, i3⟩ := h
  have he : ∀ e, EN tg a b mm f n x q e → EN tg a b mm f n x2 q e ∨ ∃ j : Int, dp ≤ j ∧ j < dp ∧ 0 ≤ skT q SK j ∧ EN tg a b mm f n (skT q SK j % 1024) (skT q SK j / 1024) e := fun e z => by
    obtain ⟨g', L', q1, q2⟩ := z
    exact Or.inl ⟨g', L', hw2 g' L' q1, q2⟩
  obtain ⟨k1, k2⟩ := mI.step i1 i2 hm hL.fl hc (Int.le_refl q) (Int.le_refl dp) (fun _ _ _ => rfl) (fun j j0 j1 => by omega) he h0
  exact ⟨W, L, R, g, hg, hw2 g L hL, hR, ⟨hO, h0⟩, hl, k1, k2, i3.step hm (Int.le_refl dp) (fun _ _ _ => rfl) he h0⟩
/-- it splits -/
theorem thW.split (h : thW tg a b mm f n fy hw wi st q Rs mk SK dp WK TN TS tc x M) (hm : ∀ y p, mk2 y p → mk y p ∨ (y = x ∧ p = q)) (t : tg x = 3) (hs : ∀ i : Int, 0 ≤ i → i < dp → SK2 i = SK i) (hv : SK2 dp = b x) (hb : 0 ≤ b x ∧ b x < 1024 ∧ 0 ≤ q) : thW tg a b mm f n fy hw wi st q Rs mk2 SK2 (dp + 1) WK TN TS tc (a x) M := by
  obtain ⟨W, L, R, g, hg, hL, hR, ⟨hO, h0⟩, hl, i1, i2, i3⟩ := h
  obtain ⟨L1, L2, w1, w2, w3⟩ := ww_i3 t hL
  have ev : skT q SK2 dp = q * 1024 + b x := by rw [skT_p (by omega), hv]
  have e1 : skT q SK2 dp % 1024 = b x := by omega
  have e2 : skT q SK2 dp / 1024 = q := by omega
  have hs2 : ∀ i : Int, 0 ≤ i → i < dp → skT q SK2 i = skT q SK i := fun i i0 i1 => skT_cg (hs i i0 i1)
  have he : ∀ e, EN tg a b mm f n x q e → EN tg a b mm f n (a x) q e ∨ ∃ j : Int, dp ≤ j ∧ j < dp + 1 ∧ 0 ≤ skT q SK2 j ∧ EN tg a b mm f n (skT q SK2 j % 1024) (skT q SK2 j / 1024) e := fun e z => by
    rcases (EN_3 t hL).mp z with z | z
    · exact Or.inl z
    · exact Or.inr ⟨dp, Int.le_refl _, by omega, by omega, by rw [e1, e2]; exact z⟩
  obtain ⟨k1, k2⟩ := mI.step i1 i2 hm hL.fl (x2 := a x) (p2 := q) (Or.inr (Or.inr (Or.inr (Or.inl ⟨t, Or.inl rfl, rfl⟩)))) (Int.le_refl q) (show dp ≤ dp + 1 by omega) hs2 (fun j j0 j1 _ => by
    have ej : j = dp := by omega
    rw [ej, e1, e2]
    exact ⟨Or.inr (Or.inr (Or.inr (Or.inl ⟨t, Or.inr rfl, rfl⟩))), Int.le_refl q⟩) he h0
  refine ⟨W, L1, L2 ++ R, g, hg, w1, RS.push hR h0 hs2 (by omega) (by rw [e1, e2]; exact w2), ⟨hO, by omega⟩, fun B => ?_, k1, k2, i3.step hm (by omega) hs2 he h0⟩
  rw [hl B, w3, tgT_app, tgT_app, List.append_assoc, List.append_assoc]
/-- it saves a place -/
theorem thW.save (h : thW tg a b mm f n fy hw wi st q Rs mk SK dp WK TN TS tc x M) (hm : ∀ y p, mk2 y p → mk y p ∨ (y = x ∧ p = q)) (t : tg x = 4) (hs : ∀ i : Int, 0 ≤ i → i < dp → SK2 i = SK i) (hv : SK2 dp = -1 - (b x * 4096 + (WK (b x) + 1))) (hb : 2 ≤ b x ∧ b x < wi ∧ wi ≤ 20) (hk : -1 ≤ WK (b x) ∧ WK (b x) ≤ 2000) : thW tg a b mm f n fy hw wi st q Rs mk2 SK2 (dp + 1) (zu WK (b x) q) TN TS tc (a x) M := by
  obtain ⟨W, L, R, g, ⟨hg, hg0⟩, hL, hR, ⟨hO, h0⟩, hl, i1, i2, i3⟩ := h
  have ev : skT q SK2 dp = -1 - (b x * 4096 + (WK (b x) + 1)) := by rw [skT_n (by omega), hv]
  have hs2 : ∀ i : Int, 0 ≤ i → i < dp → skT q SK2 i = skT q SK i := fun i i0 i1 => skT_cg (hs i i0 i1)
  have he : ∀ e, EN tg a b mm f n x q e → EN tg a b mm f n (a x) q e ∨ ∃ j : Int, dp ≤ j ∧ j < dp + 1 ∧ 0 ≤ skT q SK2 j ∧ EN tg a b mm f n (skT q SK2 j % 1024) (skT q SK2 j / 1024) e := fun e z => Or.inl ((EN_4 t hL).mp z)
  obtain ⟨k1, k2⟩ := mI.step i1 i2 hm hL.fl (x2 := a x) (p2 := q) (Or.inr (Or.inr (Or.inr (Or.inr ⟨t, rfl, rfl⟩)))) (Int.le_refl q) (show dp ≤ dp + 1 by omega) hs2 (fun j j0 j1 j2 => by
    have ej : j = dp := by omega
    rw [ej] at j2
    omega) he h0
  refine ⟨W, L, R, zu g (b x) q, ⟨fun i i0 i1 => ?_, by rw [zu_ne (by omega)]; exact hg0⟩, ww_i4 t hL, ?_, ⟨hO, by omega⟩, hl, k1, k2, i3.step hm (by omega) hs2 he h0⟩
  · by_cases e : i = b x
    · rw [e, zu_self, zu_self]
    · rw [zu_ne e, zu_ne e]; exact hg i i0 i1
  · rw [show (dp + 1).toNat = dp.toNat + 1 by omega]
    have e : ((dp.toNat : Nat) : Int) = dp := by omega
    refine Or.inr ⟨by rw [e]; omega, ?_⟩
    rw [e, ev, show (-1 - (-1 - (b x * 4096 + (WK (b x) + 1)))) / 4096 = b x by omega, show (-1 - (-1 - (b x * 4096 + (WK (b x) + 1)))) % 4096 - 1 = WK (b x) by omega, zu_back (hg (b x) hb.1 hb.2.1).symm]
    exact RS.eq _ _ _ hR (fun i i0 i1 => hs2 i i0 (by omega))
theorem sdT_app {W V : List Tw} (h : sdT W) (h1 : ∀ y ∈ W, y.1 ≤ st) (h2 : ∀ y ∈ V, y.1 = st) : sdT (W ++ V) := by
  refine List.pairwise_append.mpr ⟨h, ?_, fun x hx y hy => by rw [h2 y hy]; exact h1 x hx⟩
  have key : ∀ V : List Tw, (∀ y ∈ V, y.1 = st) → sdT V := by
    intro V
    induction V with
    | nil => intro _; exact List.Pairwise.nil
    | cons z t ih => intro q; exact List.pairwise_cons.mpr ⟨fun y hy => by rw [q z (List.mem_cons.mpr (Or.inl rfl)), q y (List.mem_cons_of_mem _ hy)]; exact Int.le_refl _, ih (fun y hy => q y (List.mem_cons_of_mem _ hy))⟩
  exact key V h2
/-- it is put into the row -/
theorem thW.put (h : thW tg a b mm f n fy hw wi st q Rs mk SK dp WK TN TS tc x M) (hm : ∀ y p, mk2 y p → mk y p ∨ (y = x ∧ p = q)) (hx : x < 1024) (h1 : ∀ i : Int, 0 ≤ i → i < tc → TN2 i = TN i) (hv : TN2 tc = x) (h2 : ∀ i : Int, 0 ≤ i → i < tc * wi → TS2 i = TS i) (hk : ∀ i : Int, 0 ≤ i → i < wi → TS2 (tc * wi + i) = WK i) (hw2 : 2 ≤ wi) : thY tg a b mm f n fy hw wi st q Rs mk2 SK dp WK TN2 TS2 (tc + 1) M := by
  obtain ⟨W, L, R, g, ⟨hg, hg0⟩, hL, hR, ⟨⟨o1, o2, o3, o4⟩, h0⟩, hl, i1, i2, i3⟩ := h
  have et : ((tc.toNat : Nat) : Int) = tc := by omega
  have up : ∀ e, cvd W e → cvd (W ++ tgT st L) e := fun e ⟨y, y1, y2⟩ => ⟨y, List.mem_append_left _ y1, y2⟩
  have nw : ∀ e, EN tg a b mm f n x q e → cvd (W ++ tgT st L) e := fun e z => by
    obtain ⟨w, w1, w2⟩ := List.mem_map.mp ((EN_of hL).mp z)
    exact ⟨(st, w.1, w.2), List.mem_append_right _ (mem_tgT.mpr ⟨w, w1, rfl⟩), w2⟩
  refine ⟨W ++ tgT st L, R, g, ⟨hg, hg0⟩, hR, ⟨⟨?_, sdT_app o2 o3 (fun y hy => ?_), fun y hy => ?_, by omega⟩, h0⟩, fun B => by rw [hl B, List.append_assoc], mI2.last i1 i2 hm up nw, i3.last hm up nw⟩
  · rw [show (tc + 1).toNat = tc.toNat + 1 by omega]
    refine thL_add (y := x) (p := q) (g := g) o1 (Or.inl ⟨by rw [et, hv]; exact hx, by rw [et, hv], rfl⟩) hL (fun i i0 i1 => h1 i i0 (by omega)) (fun i i0 i1 => h2 i i0 (by rw [et] at i1; exact i1)) (fun i i0 i1 => by rw [et, hk i (by omega) i1]; exact hg i i0 i1) ?_ (by omega)
    rw [et]
    have := hk 0 (by omega) (by omega)
    rw [Int.add_zero] at this
    rw [this, hg0]
  · obtain ⟨w, _, w2⟩ := mem_tgT.mp hy
    rw [w2]
  · rcases List.mem_append.mp hy with z | z
    · exact o3 y z
    · obtain ⟨w, _, w2⟩ := mem_tgT.mp z
      rw [w2]; exact Int.le_refl _
/-- an alternative is walked -/
theorem thY.pop (h : thY tg a b mm f n fy hw wi st q Rs mk SK dp WK TN TS tc M) (h1 : 1 ≤ dp) (hs : 0 ≤ SK (dp - 1) ∧ SK (dp - 1) < 1024) (hq : 0 ≤ q) : thW tg a b mm f n fy hw wi st q Rs mk SK (dp - 1) WK TN TS tc (SK (dp - 1)) M := by
  obtain ⟨W, R, g, hg, hR, ⟨hO, h0⟩, hl, i2, i3⟩ := h
  rw [show dp.toNat = (dp - 1).toNat + 1 by omega] at hR
  have e : (((dp - 1).toNat : Nat) : Int) = dp - 1 := by omega
  have ev : skT q SK (dp - 1) = q * 1024 + SK (dp - 1) := skT_p hs.1
  have e1 : skT q SK (dp - 1) % 1024 = SK (dp - 1) := by omega
  have e2 : skT q SK (dp - 1) / 1024 = q := by omega
  rcases hR with ⟨r0, L, R', r1, r2, r3⟩ | ⟨r0, _⟩
  · rw [e, e1, e2] at r1
    obtain ⟨k1, k2⟩ := i2.pop h1 (by omega)
    have k3 := i3.pop h1
    rw [e1, e2] at k1 k2 k3
    exact ⟨W, L, R', g, hg, r1, r2, ⟨hO, by omega⟩, fun B => by rw [hl B, r3, tgT_app, List.append_assoc], k1, k2, k3⟩
  · rw [e] at r0
    omega
/-- a place is given back -/
theorem thY.undo (h : thY tg a b mm f n fy hw wi st q Rs mk SK dp WK TN TS tc M) (h1 : 1 ≤ dp) (hs : SK (dp - 1) < 0) (hv : 2 ≤ (-1 - SK (dp - 1)) / 4096) : thY tg a b mm f n fy hw wi st q Rs mk SK (dp - 1) (zu WK ((-1 - SK (dp - 1)) / 4096) ((-1 - SK (dp - 1)) % 4096 - 1)) TN TS tc M := by
  obtain ⟨W, R, g, ⟨hg, hg0⟩, hR, ⟨hO, h0⟩, hl, i2, i3⟩ := h
  rw [show dp.toNat = (dp - 1).toNat + 1 by omega] at hR
  have e : (((dp - 1).toNat : Nat) : Int) = dp - 1 := by omega
  have ev : skT q SK (dp - 1) = SK (dp - 1) := skT_n hs
  rcases hR with ⟨r0, _⟩ | ⟨r0, r1⟩
  · rw [e] at r0
    omega
  · rw [e, ev] at r1
    refine ⟨W, R, _, ⟨fun i i0 i1 => ?_, by rw [zu_ne (by omega)]; exact hg0⟩, r1, ⟨hO, by omega⟩, hl, i2.undo (by omega), i3.undo (by omega)⟩
    by_cases z : i = (-1 - SK (dp - 1)) / 4096
    · rw [z, zu_self, zu_self]
    · rw [zu_ne z, zu_ne z]; exact hg i i0 i1
end ThW
/-- between states that are followed: M is what the row stands for -/
def thF (tg a b : Int → Int) (mm : Int → Int → Prop) (f : Int → Int) (n fy hw wi st q : Int) (Rs : Int → Int) (mk : Int → Int → Prop) (TN TS : Int → Int) (tc : Int) (M : List Tw) : Prop := ∃ W : List Tw, thO tg a b mm f n wi st q Rs TN TS tc W ∧ (∀ B : List Tw, slT fy hw n (M ++ B) = slT fy hw n (W ++ B)) ∧ ∀ y p, mk y p → ∀ e, EN tg a b mm f n y p e → cvd W e
section ThF
variable {tg a b : Int → Int} {mm : Int → Int → Prop} {f : Int → Int} {n fy hw wi st s2 q : Int} {Rs : Int → Int} {mk mk2 : Int → Int → Prop} {SK SK2 WK TN TS TN2 TS2 : Int → Int} {dp tc x : Int} {M : List Tw}
theorem thY.fin (h : thY tg a b mm f n fy hw wi st q Rs mk SK dp WK TN TS tc M) (hd : dp = 0) : thF tg a b mm f n fy hw wi st q Rs mk TN TS tc M := by
  obtain ⟨W, R, g, hg, hR, ⟨hO, h0⟩, hl, i2, i3⟩ := h
  rw [hd] at hR i3
  have hR : R = [] := hR
  rw [hR] at hl
  exact ⟨W, hO, hl, i3.all (Int.le_refl 0)⟩
theorem thY_new {g : Gr} {L : List (Int × Gr)} (h : thF tg a b mm f n fy hw wi st q Rs mk TN TS tc M) (hs : st ≤ s2) (hg : gA WK g wi) (hg0 : WK 0 = s2) (hv : SK 0 = x) (hx : 0 ≤ x ∧ x < 1024 ∧ 0 ≤ q) (hL : WW tg a b mm f n x q g L) : thY tg a b mm f n fy hw wi s2 q Rs mk SK 1 WK TN TS tc (M ++ tgT s2 L) := by
  obtain ⟨W, ⟨o1, o2, o3, o4⟩, hl, hc⟩ := h
  have ev : skT q SK 0 = q * 1024 + x := by rw [skT_p (by omega), hv]
  have e1 : skT q SK 0 % 1024 = x := by omega
  have e2 : skT q SK 0 / 1024 = q := by omega
  have hR : RS tg a b mm f n (skT q SK) (1 : Int).toNat g (L ++ []) := by
    show RS tg a b mm f n (skT q SK) (0 + 1) g (L ++ [])
    refine Or.inl ⟨by show 0 ≤ skT q SK 0; omega, L, [], ?_, rfl, rfl⟩
    show WW tg a b mm f n (skT q SK 0 % 1024) (skT q SK 0 / 1024) g L
    rw [e1, e2]
    exact hL
  refine ⟨W, L ++ [], g, ⟨hg, hg0⟩, hR, ⟨⟨o1, o2, fun y hy => by have := o3 y hy; omega, o4⟩, by omega⟩, fun B => ?_, mI_new hc (by omega), mI3_new hc⟩
  rw [List.append_assoc, hl, List.append_nil]
/-- a new row: nothing is marked -/
theorem thF_0 (h : ∀ y p, ¬ mk y p) : thF tg a b mm f n fy hw wi st q Rs mk TN TS 0 [] := ⟨[], ⟨rfl, List.Pairwise.nil, fun y hy => absurd hy List.not_mem_nil, Int.le_refl 0⟩, fun _ => rfl, fun y p hy => absurd hy (h y p)⟩
theorem thF.mks (h : thF tg a b mm f n fy hw wi st q Rs mk TN TS tc M) (hm : ∀ y p, mk2 y p → mk y p) (hs : st ≤ s2) : thF tg a b mm f n fy hw wi s2 q Rs mk2 TN TS tc M := by
  obtain ⟨W, ⟨o1, o2, o3, o4⟩, hl, hc⟩ := h
  exact ⟨W, ⟨o1, o2, fun y hy => by have := o3 y hy; omega, o4⟩, hl, fun y p hy => hc y p (hm y p hy)⟩
/-- one that waits is put into the row -/
theorem thF.wait {g : Gr} {L : List (Int × Gr)} {y p e : Int} (h : thF tg a b mm f n fy hw wi st q Rs mk TN TS tc M) (hs : st ≤ s2) (hg : gA WK g wi) (hg0 : WK 0 = s2) (hL : WW tg a b mm f n y p g L) (hp : thP a Rs q e y p) (h1 : ∀ i : Int, 0 ≤ i → i < tc → TN2 i = TN i) (hv : TN2 tc = e) (h2 : ∀ i : Int, 0 ≤ i → i < tc * wi → TS2 i = TS i) (hk : ∀ i : Int, 0 ≤ i → i < wi → TS2 (tc * wi + i) = WK i) (hw2 : 2 ≤ wi) : thF tg a b mm f n fy hw wi s2 q Rs mk TN2 TS2 (tc + 1) (M ++ tgT s2 L) := by
  obtain ⟨W, ⟨o1, o2, o3, o4⟩, hl, hc⟩ := h
  have et : ((tc.toNat : Nat) : Int) = tc := by omega
  refine ⟨W ++ tgT s2 L, ⟨?_, sdT_app (st := s2) o2 (fun y hy => by have := o3 y hy; omega) (fun y hy => ?_), fun y hy => ?_, by omega⟩, fun B => by rw [List.append_assoc, hl, List.append_assoc], fun y p hy e he => ?_⟩
  · rw [show (tc + 1).toNat = tc.toNat + 1 by omega]
    refine thL_add (y := y) (p := p) (g := g) o1 (by rw [et, hv]; exact hp) hL (fun i i0 i1 => h1 i i0 (by omega)) (fun i i0 i1 => h2 i i0 (by rw [et] at i1; exact i1)) (fun i i0 i1 => by rw [et, hk i (by omega) i1]; exact hg i i0 i1) ?_ (by omega)
    rw [et]
    have := hk 0 (by omega) (by omega)
    rw [Int.add_zero] at this
    rw [this, hg0]
  · obtain ⟨w, _, w2⟩ := mem_tgT.mp hy
    rw [w2]
  · rcases List.mem_append.mp hy with z | z
    · have := o3 y z; omega
    · obtain ⟨w, _, w2⟩ := mem_tgT.mp z
      rw [w2]; exact Int.le_refl _
  · obtain ⟨z, z1, z2⟩ := hc y p hy e he
    exact ⟨z, List.mem_append_left _ z1, z2⟩
/-- one that waits is in the row already -/
theorem thF.again {g : Gr} {L : List (Int × Gr)} {y p i : Int} (h : thF tg a b mm f n fy hw wi st q Rs mk TN TS tc M) (hs : st ≤ s2) (hL : WW tg a b mm f n y p g L) (hi : 0 ≤ i ∧ i < tc) (hp : thP a Rs q (TN i) y p) : thF tg a b mm f n fy hw wi s2 q Rs mk TN TS tc (M ++ tgT s2 L) := by
  obtain ⟨W, ⟨o1, o2, o3, o4⟩, hl, hc⟩ := h
  refine ⟨W, ⟨o1, o2, fun y hy => by have := o3 y hy; omega, o4⟩, fun B => ?_, hc⟩
  rw [List.append_assoc, hl, slT_prune o2 (fun z hz => ?_)]
  obtain ⟨w, w1, w2⟩ := mem_tgT.mp hz
  obtain ⟨u, u1, u2⟩ := thL_mem _ W o1 i hi.1 (by omega) y p w.1 hp ((EN_of hL).mpr (List.mem_map.mpr ⟨w, w1, rfl⟩))
  exact ⟨u, u1, by rw [w2]; exact u2, by rw [w2]; have := o3 u u1; omega⟩
/-- nothing comes of it -/
theorem thF.nil (h : thF tg a b mm f n fy hw wi st q Rs mk TN TS tc M) (hs : st ≤ s2) : thF tg a b mm f n fy hw wi s2 q Rs mk TN TS tc (M ++ tgT s2 []) := by
  have e : M ++ tgT s2 [] = M := by show M ++ [] = M; exact List.append_nil M
  rw [e]
  exact h.mks (fun _ _ z => z) hs
end ThF
