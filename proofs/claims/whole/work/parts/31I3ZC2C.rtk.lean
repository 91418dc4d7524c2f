/-! the tree with what it means -/
def rtJg (K O Fi Be Le Mo Z SM RF RL AF AL SD OA OF ON : Int → Int) (N ns lv dn dh : Int) (fr : List Fr) (rp ls dz : Int) (pa po MN dl st ht hh : Int → Int) (PS : Int → Int → Int) (T : Int) : Prop := rtG K O Fi Be Le Mo Z SM RF RL AF AL SD N ns lv pa po MN dl st ht hh PS T ∧ (0 ≤ dn → dn < N ∧ pa dn = -1 ∧ ht dn ≤ dh ∧ hh dn + (if K dn = 4 then 2 else if K dn = 5 then 1 else 0) ≤ 4 * dh ∧ ∀ i : Int, 0 ≤ i → i < N → ¬ i = dn → st i < st dn) ∧ frQ OA OF ON MN PS fr lv ∧ rpQ MN PS Z RL SD lv fr rp ls ∧ dzQ Z dn dz
section TreeG
variable {K O Fi Be Le Mo Z SM RF RL AF AL SD OA OF ON : Int → Int} {N ns lv dn dh : Int} {pa po MN dl st ht hh : Int → Int} {PS : Int → Int → Int} {T : Int} {fr : List Fr} {rp ls dz : Int}
theorem rtg_open {x1 x2 b2 x3 : Int} (h : rtJg K O Fi Be Le Mo Z SM RF RL AF AL SD OA OF ON N ns lv dn dh fr rp ls dz pa po MN dl st ht hh PS T) (hl : lv ≤ 30) (hb : fr = [] ∨ x2 = b2) : rtJg K O Fi Be Le Mo Z SM (zu RF lv (-1)) RL (zu AF lv (-1)) AL (zu SD lv 0) (zu OA lv x1) (zu OF lv x2) (zu ON lv x3) N ns (lv + 1) dn dh ((x1, b2, x3, 0, 0) :: fr) 0 0 dz pa po (zu (zu MN (-2 - 2 * lv) 0) (-3 - 2 * lv) 0) (zu (zu dl (-2 - 2 * lv) 0) (-3 - 2 * lv) 1) st ht hh (fun c p => if c = -2 - 2 * lv ∨ c = -3 - 2 * lv then 0 else PS c p) T := by
  obtain ⟨⟨g0, g1, g2⟩, hd, hfq, hrp, hdz⟩ := h
  have hp : ∀ i : Int, 0 ≤ i → i < N → ¬ pa i = -2 - 2 * lv ∧ ¬ pa i = -3 - 2 * lv := fun i a c => by
    have := (g1 i a c).1.2.2.1; omega
  refine ⟨⟨by omega, fun i a c => ?_, fun d a c => ?_⟩, hd, ?_, ?_, hdz⟩
  · obtain ⟨hA, hH, hC⟩ := g1 i a c
    have q := hp i a c
    refine ⟨?_, hH, ?_⟩
    · obtain ⟨a1, a2, a3, a4⟩ := hA
      refine ⟨a1, a2, by omega, ?_⟩
      rcases a4 with a4 | a4
      · exact Or.inl a4
      · refine Or.inr ?_
        simp only [if_neg (show ¬ (pa i = -2 - 2 * lv ∨ pa i = -3 - 2 * lv) by omega), zu_ne (show pa i ≠ -3 - 2 * lv by omega), zu_ne (show pa i ≠ -2 - 2 * lv by omega)]
        exact a4
    · unfold rtC rtF at *
      simp only [if_neg (show ¬ (i = -2 - 2 * lv ∨ i = -3 - 2 * lv) by omega), zu_ne (show i ≠ -3 - 2 * lv by omega), zu_ne (show i ≠ -2 - 2 * lv by omega)]
      exact hC
  · by_cases e : d = lv
    · subst e
      unfold rtL rtR rtF
      simp only [zu_self, zu_ne (show (-2 - 2 * d) ≠ (-3 - 2 * d) by omega), if_pos (show (-2 - 2 * d = -2 - 2 * d ∨ -2 - 2 * d = -3 - 2 * d) from Or.inl rfl), if_pos (show (-3 - 2 * d = -2 - 2 * d ∨ -3 - 2 * d = -3 - 2 * d) from Or.inr rfl)]
      refine ⟨⟨Or.inl ⟨by decide, trivial⟩, by simp, by simp, (fun q => by omega), fun i i0 i1 q => absurd q (hp i i0 i1).1⟩, ⟨Or.inl ⟨by decide, trivial⟩, by simp, by simp, (fun q => by omega), fun i i0 i1 q => absurd q (hp i i0 i1).2⟩, trivial, trivial, fun i i0 i1 => ⟨fun q => absurd q (hp i i0 i1).1, fun q => absurd q (hp i i0 i1).2⟩, fun q => by omega⟩
    · have hL := g2 d a (by omega)
      unfold rtL rtR rtF at *
      simp only [zu_ne e, zu_ne (show (-2 - 2 * d) ≠ (-3 - 2 * lv) by omega), zu_ne (show (-2 - 2 * d) ≠ (-2 - 2 * lv) by omega), zu_ne (show (-3 - 2 * d) ≠ (-3 - 2 * lv) by omega), zu_ne (show (-3 - 2 * d) ≠ (-2 - 2 * lv) by omega), if_neg (show ¬ (-2 - 2 * d = -2 - 2 * lv ∨ -2 - 2 * d = -3 - 2 * lv) by omega), if_neg (show ¬ (-3 - 2 * d = -2 - 2 * lv ∨ -3 - 2 * d = -3 - 2 * lv) by omega)]
      exact hL
  · have e : lv + 1 - 1 = lv := by omega
    refine ⟨⟨by rw [e, zu_self], by rw [e, zu_self]; exact hb, by rw [e, zu_self]⟩, ⟨?_, ?_⟩, ⟨Int.le_refl _, Int.le_refl _⟩, ?_⟩
    · rw [e]
      show ceq (if _ then (0 : Int) else _) 0
      rw [if_pos (Or.inl rfl)]
      exact ceq.rf
    · rw [e]
      refine Or.inl ⟨?_, rfl⟩
      show (if _ then (0 : Int) else _) = 0
      rw [if_pos (Or.inr rfl)]
    · rw [e]
      refine frQ.tr _ _ hfq (fun d d0 x4 => ⟨⟨zu_ne (by omega), zu_ne (by omega), zu_ne (by omega)⟩, ?_, ?_⟩)
      · show (if _ then (0 : Int) else _) = _
        rw [if_neg (show ¬ (-2 - 2 * d = -2 - 2 * lv ∨ -2 - 2 * d = -3 - 2 * lv) by omega), zu_ne (show (-2 - 2 * d) ≠ (-3 - 2 * lv) by omega), zu_ne (show (-2 - 2 * d) ≠ (-2 - 2 * lv) by omega)]
      · show (if _ then (0 : Int) else _) = _
        rw [if_neg (show ¬ (-3 - 2 * d = -2 - 2 * lv ∨ -3 - 2 * d = -3 - 2 * lv) by omega), zu_ne (show (-3 - 2 * d) ≠ (-3 - 2 * lv) by omega), zu_ne (show (-3 - 2 * d) ≠ (-2 - 2 * lv) by omega)]
  · exact Or.inr (Or.inl ⟨rfl, by rw [show lv + 1 - 1 = lv by omega, zu_self]; decide⟩)
theorem rtg_leaf {k o z : Int} (h : rtJg K O Fi Be Le Mo Z SM RF RL AF AL SD OA OF ON N ns lv (-1) dh fr rp ls dz pa po MN dl st ht hh PS T) (hz : 0 ≤ z ∧ z ≤ 1000000) (hk : (k = 0 ∧ z = 0) ∨ (k = 1 ∧ 0 ≤ o ∧ o < ns ∧ 1 ≤ z ∧ SM o ≤ z) ∨ (k = 2 ∧ z = 1) ∨ (k = 3 ∧ z = 1 ∧ 0 ≤ o ∧ o ≤ 5)) : rtJg (zu K N k) (zu O N o) (zu Fi N (-1)) (zu Be N (-1)) Le Mo (zu Z N z) SM RF RL AF AL SD OA OF ON (N + 1) ns lv N 0 fr rp ls z (zu pa N (-1)) po MN dl (zu st N T) (zu ht N 0) (zu hh N 0) PS (T + 1) := by
  obtain ⟨⟨g0, g1, g2⟩, hd, hfq, hrp, hdz⟩ := h
  refine ⟨⟨by omega, fun i a c => ?_, fun d a c => ?_⟩, fun _ => ⟨by omega, zu_self _ _ _, by rw [zu_self]; omega, by rw [zu_self, zu_self, if_neg (by omega), if_neg (by omega)]; omega, fun i i0 i1 i2 => by rw [zu_ne i2, zu_self]; have := (g1 i i0 (by omega)).2.1.1; omega⟩, hfq, ?_, Or.inr ⟨by rw [zu_self]; exact ceq.rf, hz.1⟩⟩
  · by_cases e : i = N
    · subst e
      unfold rtA rtH rtC
      simp only [zu_self]
      refine ⟨⟨by omega, by omega, by omega, Or.inl ⟨trivial, trivial⟩⟩, ⟨⟨by omega, by omega, fun q => absurd trivial q⟩, ⟨by omega, by omega, fun q => by omega⟩, fun q => by omega⟩, by omega, fun q => by omega, fun q => by omega, fun q => by omega, fun q => by omega, fun q => by omega, fun q => by omega, fun q => by omega, fun q => by omega⟩
    · obtain ⟨hA, hH, hC⟩ := g1 i a (by omega)
      have b := hA.2.1
      have p := hA.2.2.1
      unfold rtA rtH rtC rtF at *
      simp only [zu_ne e]
      refine ⟨⟨hA.1, by omega, by omega, ?_⟩, ⟨⟨hH.1.1, by omega, hH.1.2.2⟩, hH.2.1, fun q => ?_⟩, ?_⟩
      · rcases hA.2.2.2 with t | t
        · exact Or.inl t
        · refine Or.inr ⟨t.1, t.2.1, t.2.2.1, t.2.2.2.1, t.2.2.2.2.1, fun q => ?_⟩
          rw [zu_ne (show Be i ≠ N by omega)]; exact t.2.2.2.2.2 q
      · have := hH.2.2 q
        rw [zu_ne (show pa i ≠ N by omega), zu_ne (show pa i ≠ N by omega), zu_ne (show pa i ≠ N by omega), zu_ne (show pa i ≠ N by omega)]; exact this
      · obtain ⟨c0, c1, c2, c3, c4, c5, c6, c7, c8⟩ := hC
        refine ⟨c0, c1, c2, c3, c4, fun q => ?_, fun q => ?_, fun q => ?_, fun q => ?_⟩
        · obtain ⟨t, u⟩ := c5 q
          refine ⟨?_, u⟩
          rcases t with t | t
          · exact Or.inl t
          · exact Or.inr ⟨by omega, by rw [zu_ne (show Fi i ≠ N by omega)]; exact t.2⟩
        · obtain ⟨t, u⟩ := c6 q
          refine ⟨?_, u⟩
          rcases t with t | t
          · exact Or.inl t
          · exact Or.inr ⟨by omega, by rw [zu_ne (show Fi i ≠ N by omega)]; exact t.2⟩
        · obtain ⟨t, u, w⟩ := c7 q
          have e2 : Fi i ≠ N := by omega
          rw [zu_ne e2, zu_ne e2]
          exact ⟨⟨t.1, by omega, t.2.2⟩, u, w⟩
        · obtain ⟨t, u⟩ := c8 q
          have e2 : Fi i ≠ N := by omega
          rw [zu_ne e2, zu_ne e2]
          exact ⟨⟨t.1, by omega, t.2.2⟩, u⟩
  · obtain ⟨l1, l2, l3, l4, l5, l6⟩ := g2 d a c
    have up : ∀ c f l : Int, rtR Be N pa po MN dl PS c f l → ¬ c = -1 → rtR (zu Be N (-1)) (N + 1) (zu pa N (-1)) po MN dl PS c f l := by
      rintro c f l ⟨r1, r2, r3, r4, r5⟩ hc
      refine ⟨?_, r2, r3, fun q => ?_, fun i i0 i1 q1 q2 => ?_⟩
      · rcases r1 with t | t
        · exact Or.inl t
        · exact Or.inr ⟨by omega, by rw [zu_ne (show f ≠ N by omega)]; exact t.2⟩
      · have := r4 q
        rw [zu_ne (show l ≠ N by omega)]; exact ⟨by omega, this.2⟩
      · by_cases e : i = N
        · subst e; rw [zu_self] at q1; omega
        · rw [zu_ne e] at q1 q2; exact r5 i i0 (by omega) q1 q2
    refine ⟨up _ _ _ l1 (by omega), up _ _ _ l2 (by omega), l3, l4, fun i i0 i1 => ?_, fun q => ?_⟩
    · by_cases e : i = N
      · subst e; rw [zu_self]; exact ⟨fun q => by omega, fun q => by omega⟩
      · rw [zu_ne e, zu_ne e, zu_ne e]; exact l5 i i0 (by omega)
    · obtain ⟨q1, q2⟩ := l6 q
      have := (l1.2.2.2.1 q1).1
      rw [zu_ne (show RL d ≠ N by omega), zu_ne (show RL d ≠ N by omega)]; exact ⟨q1, q2⟩
  · rcases hrp with ⟨p1, p2, p3, p4, p5⟩ | p
    · obtain ⟨l1, l2, l3, l4, l5, l6⟩ := g2 (lv - 1) (by omega) (by omega)
      have q := (l1.2.2.2.1 (l6 p3).1).1
      exact Or.inl ⟨p1, p2, p3, by rw [zu_ne (show RL (lv - 1) ≠ N by omega)]; exact p4, p5⟩
    · exact Or.inr p
theorem rtg_part {Be2 RF2 : Int → Int} {d n s : Int} {x1 x2 x3 x4 x5 rp2 ls2 : Int} {xt : List Fr} (h : rtJg K O Fi Be Le Mo Z SM RF RL AF AL SD OA OF ON N ns (d + 1) n dh ((x1, x2, x3, x4, x5) :: xt) rp ls dz pa po MN dl st ht hh PS T) (hd : 0 ≤ d) (hn : 0 ≤ n) (hb : (RF d < 0 ∧ Be2 = Be ∧ RF2 = zu RF d n) ∨ (0 ≤ RF d ∧ Be2 = zu Be (RL d) n ∧ RF2 = RF)) (hK : ¬ K n = 4 ∧ ¬ K n = 5) (hhd : dh ≤ 30 - d) (hst : (s = 1 ∧ rp2 = 1 ∧ ls2 = dz) ∨ (¬ s = 1 ∧ rp2 = 0)) : rtJg K O Fi Be2 Le Mo Z SM RF2 (zu RL d n) AF AL (zu SD d s) OA OF ON N ns (d + 1) (-1) 0 ((x1, x2, x3, x4, x5 + dz) :: xt) rp2 ls2 0 (zu pa n (-2 - 2 * d)) (zu po n (MN (-2 - 2 * d))) (zu MN (-2 - 2 * d) (MN (-2 - 2 * d) + 1)) dl st ht hh (psu PS (-2 - 2 * d) (MN (-2 - 2 * d) + 1) (PS (-2 - 2 * d) (MN (-2 - 2 * d)) + Z n + dl (-2 - 2 * d))) T := by
  obtain ⟨⟨g0, g1, g2⟩, hdn, hfq, hrp, hdz⟩ := h
  obtain ⟨d1, d2, d3, d4, d5⟩ := hdn hn
  rw [if_neg hK.1, if_neg hK.2] at d4
  obtain ⟨l1, l2, l3, l4, l5, l6⟩ := g2 d hd (by omega)
  have hb2 : (RF d < 0 ∧ Be2 = Be) ∨ (0 ≤ RF d ∧ Be2 = zu Be (RL d) n) := by
    rcases hb with t | t
    · exact Or.inl ⟨t.1, t.2.1⟩
    · exact Or.inr ⟨t.1, t.2.1⟩
  have hA := fun i a c => (g1 i a c).1
  have zn := (g1 n hn d1).1.1
  have hmv : MN (-2 - 2 * d) ≤ st n := by
    have s0 := (g1 n hn d1).2.1.1.1
    rcases Int.lt_or_le (RF d) 0 with q | q
    · rcases l1.1 with t | t <;> omega
    · obtain ⟨u1, u2, u3⟩ := l1.2.2.2.1 q
      have u4 := (g1 _ u1.1 u1.2).2.1.1.2.2 (by omega)
      have u5 := d5 _ u1.1 u1.2 (fun z => by rw [z, d2] at u2; omega)
      omega
  refine ⟨⟨g0, fun i a c => ⟨app_A hA l1 ⟨hn, d1⟩ d2 (by omega) hb2 rfl (by omega) i a c, app_H (g1 i a c).2.1 hmv (by omega), app_C2 (g1 i a c).2.2 a d2 (by omega)⟩, fun e e0 e1 => ?_⟩, (fun q => by omega), ?_, ?_, Or.inl (by decide)⟩
  rotate_left
  · obtain ⟨f1, ⟨f4, f5⟩, f6, f7⟩ := hfq
    have z1 := hdz.resolve_left (by omega)
    have e9 : d + 1 - 1 = d := by omega
    rw [e9] at f1 f4 f5 f7
    have e8 := f4.add z1.1 ⟨l1.2.2.1, f6.2, zn.1, z1.2⟩
    refine ⟨by rw [e9]; exact f1, ⟨?_, ?_⟩, ⟨f6.1, by omega⟩, ?_⟩
    · rw [e9, zu_self, psu_self, l3, Int.add_zero]
      exact e8
    · rw [e9, zu_ne (show (-3 - 2 * d) ≠ (-2 - 2 * d) by omega), psu_ne (by omega)]
      exact f5
    · rw [e9]
      refine frQ.tr _ _ f7 (fun y y0 y1 => ⟨⟨rfl, rfl, rfl⟩, ?_, ?_⟩)
      · rw [zu_ne (show (-2 - 2 * y) ≠ (-2 - 2 * d) by omega), psu_ne (by omega)]
      · rw [zu_ne (show (-3 - 2 * y) ≠ (-2 - 2 * d) by omega), psu_ne (by omega)]
  · obtain ⟨f1, ⟨f4, f5⟩, f6, f7⟩ := hfq
    have z1 := hdz.resolve_left (by omega)
    have e9 : d + 1 - 1 = d := by omega
    rw [e9] at f4
    rcases hst with ⟨s1, s2, s3⟩ | ⟨s1, s2⟩
    · refine Or.inl ⟨s2, by omega, by rw [e9, zu_self]; exact s1, ?_, x1, x2, x3, x4, x5 + dz, xt, rfl, ?_, by omega⟩
      · rw [e9, zu_self, s3]; exact z1
      · rw [e9, zu_self, show MN (-2 - 2 * d) + 1 - 1 = MN (-2 - 2 * d) by omega, psu_ne (by omega), s3, show x5 + dz - dz = x5 by omega]
        exact f4
    · exact Or.inr (Or.inl ⟨s2, by rw [e9, zu_self]; exact s1⟩)
  have hR2 : RF2 e = RF e ∨ e = d := by
    rcases hb with t | t
    · by_cases z : e = d
      · exact Or.inr z
      · rw [t.2.2, zu_ne z]; exact Or.inl rfl
    · rw [t.2.2]; exact Or.inl rfl
  obtain ⟨m1, m2, m3, m4, m5, m6⟩ := g2 e e0 e1
  have ht5 : ∀ i : Int, 0 ≤ i → i < N → (zu pa n (-2 - 2 * d) i = -2 - 2 * e → ht i ≤ 31 - e ∧ hh i ≤ 121 - 4 * e) ∧ (zu pa n (-2 - 2 * d) i = -3 - 2 * e → ht i ≤ 31 - e ∧ hh i ≤ 122 - 4 * e) := fun i i0 i1 => by
    by_cases z : i = n
    · subst z; rw [zu_self]; exact ⟨fun q => by omega, fun q => by omega⟩
    · rw [zu_ne z]; exact m5 i i0 i1
  by_cases z : e = d
  · subst z
    refine ⟨?_, app_R m2 l1 d2 hn (by omega) hb2, m3, m4, ht5, fun q => ?_⟩
    · rw [zu_self]
      refine app_S hA l1 d2 ⟨hn, d1⟩ (by omega) hb2 (by have := l1.2.2.1; omega) ?_
      rcases hb with t | t
      · exact Or.inl ⟨t.1, by rw [t.2.2, zu_self]⟩
      · exact Or.inr ⟨t.1, by rw [t.2.2]⟩
    · rw [zu_self] at q ⊢
      refine ⟨?_, by omega, by omega⟩
      rcases hb with t | t
      · rw [t.2.2, zu_self]; exact hn
      · rw [t.2.2]; exact t.1
  · have r : RF2 e = RF e := hR2.resolve_right z
    unfold rtL
    rw [r, zu_ne z, zu_ne z]
    exact ⟨app_R m1 l1 d2 hn (by omega) hb2, app_R m2 l1 d2 hn (by omega) hb2, m3, m4, ht5, m6⟩
theorem rtg_alt {Be2 AF2 : Int → Int} {d n : Int} {x1 x2 x3 x4 x5 : Int} {xt : List Fr} (h : rtJg K O Fi Be Le Mo Z SM RF RL AF AL SD OA OF ON N ns (d + 1) n dh ((x1, x2, x3, x4, x5) :: xt) 0 ls dz pa po MN dl st ht hh PS T) (hd : 0 ≤ d) (hn : 0 ≤ n) (hb : (AF d < 0 ∧ Be2 = Be ∧ AF2 = zu AF d n) ∨ (0 ≤ AF d ∧ Be2 = zu Be (AL d) n ∧ AF2 = AF)) (hK : K n = 4) (hhd : dh ≤ 31 - d) : rtJg K O Fi Be2 Le Mo Z SM RF RL AF2 (zu AL d n) SD OA OF ON N ns (d + 1) (-1) 0 ((x1, x2, x3, x4 + dz + 1, x5) :: xt) 0 0 0 (zu pa n (-3 - 2 * d)) (zu po n (MN (-3 - 2 * d))) (zu MN (-3 - 2 * d) (MN (-3 - 2 * d) + 1)) dl st ht hh (psu PS (-3 - 2 * d) (MN (-3 - 2 * d) + 1) (PS (-3 - 2 * d) (MN (-3 - 2 * d)) + Z n + dl (-3 - 2 * d))) T := by
  obtain ⟨⟨g0, g1, g2⟩, hdn, hfq, hrp, hdz⟩ := h
  obtain ⟨d1, d2, d3, d4, d5⟩ := hdn hn
  rw [if_pos hK] at d4
  obtain ⟨l1, l2, l3, l4, l5, l6⟩ := g2 d hd (by omega)
  have hb2 : (AF d < 0 ∧ Be2 = Be) ∨ (0 ≤ AF d ∧ Be2 = zu Be (AL d) n) := by
    rcases hb with t | t
    · exact Or.inl ⟨t.1, t.2.1⟩
    · exact Or.inr ⟨t.1, t.2.1⟩
  have hA := fun i a c => (g1 i a c).1
  have zn := (g1 n hn d1).1.1
  have hmv : MN (-3 - 2 * d) ≤ st n := by
    have s0 := (g1 n hn d1).2.1.1.1
    rcases Int.lt_or_le (AF d) 0 with q | q
    · rcases l2.1 with t | t <;> omega
    · obtain ⟨u1, u2, u3⟩ := l2.2.2.2.1 q
      have u4 := (g1 _ u1.1 u1.2).2.1.1.2.2 (by omega)
      have u5 := d5 _ u1.1 u1.2 (fun z => by rw [z, d2] at u2; omega)
      omega
  refine ⟨⟨g0, fun i a c => ⟨app_A hA l2 ⟨hn, d1⟩ d2 (by omega) hb2 rfl (by omega) i a c, app_H (g1 i a c).2.1 hmv (by omega), app_C2 (g1 i a c).2.2 a d2 (by omega)⟩, fun e e0 e1 => ?_⟩, (fun q => by omega), ?_, Or.inr (Or.inl ⟨rfl, ?_⟩), Or.inl (by decide)⟩
  rotate_left
  · obtain ⟨f1, ⟨f4, f5⟩, f6, f7⟩ := hfq
    have z1 := hdz.resolve_left (by omega)
    have e9 : d + 1 - 1 = d := by omega
    rw [e9] at f1 f4 f5 f7
    have p5 : ceq (PS (-3 - 2 * d) (MN (-3 - 2 * d))) x4 := by
      rcases f5 with y | y
      · rw [y.1, y.2]; exact ceq.rf
      · have w := y.2.2.add (ceq.rf (a := 1)) (by omega)
        rw [show PS (-3 - 2 * d) (MN (-3 - 2 * d)) - 1 + 1 = PS (-3 - 2 * d) (MN (-3 - 2 * d)) by omega, show x4 - 1 + 1 = x4 by omega] at w
        exact w
    have e8 := p5.add z1.1 ⟨l2.2.2.1, f6.1, zn.1, z1.2⟩
    have nn := l2.2.2.1
    refine ⟨by rw [e9]; exact f1, ⟨?_, ?_⟩, ⟨by omega, f6.2⟩, ?_⟩
    · rw [e9, zu_ne (show (-2 - 2 * d) ≠ (-3 - 2 * d) by omega), psu_ne (by omega)]
      exact f4
    · rw [e9, zu_self, psu_self, l4]
      refine Or.inr ⟨by omega, by omega, ?_⟩
      rw [show PS (-3 - 2 * d) (MN (-3 - 2 * d)) + Z n + 1 - 1 = PS (-3 - 2 * d) (MN (-3 - 2 * d)) + Z n by omega, show x4 + dz + 1 - 1 = x4 + dz by omega]
      exact e8
    · rw [e9]
      refine frQ.tr _ _ f7 (fun y y0 y1 => ⟨⟨rfl, rfl, rfl⟩, ?_, ?_⟩)
      · rw [zu_ne (show (-2 - 2 * y) ≠ (-3 - 2 * d) by omega), psu_ne (by omega)]
      · rw [zu_ne (show (-3 - 2 * y) ≠ (-3 - 2 * d) by omega), psu_ne (by omega)]
  · rcases hrp with y | y | y
    · exact absurd y.1 (by decide)
    · exact y.2
    · exact absurd y (by decide)
  have hR2 : AF2 e = AF e ∨ e = d := by
    rcases hb with t | t
    · by_cases z : e = d
      · exact Or.inr z
      · rw [t.2.2, zu_ne z]; exact Or.inl rfl
    · rw [t.2.2]; exact Or.inl rfl
  obtain ⟨m1, m2, m3, m4, m5, m6⟩ := g2 e e0 e1
  have ht5 : ∀ i : Int, 0 ≤ i → i < N → (zu pa n (-3 - 2 * d) i = -2 - 2 * e → ht i ≤ 31 - e ∧ hh i ≤ 121 - 4 * e) ∧ (zu pa n (-3 - 2 * d) i = -3 - 2 * e → ht i ≤ 31 - e ∧ hh i ≤ 122 - 4 * e) := fun i i0 i1 => by
    by_cases z : i = n
    · subst z; rw [zu_self]; exact ⟨fun q => by omega, fun q => by omega⟩
    · rw [zu_ne z]; exact m5 i i0 i1
  by_cases z : e = d
  · subst z
    refine ⟨app_R m1 l2 d2 hn (by omega) hb2, ?_, m3, m4, ht5, m6⟩
    rw [zu_self]
    refine app_S hA l2 d2 ⟨hn, d1⟩ (by omega) hb2 (by have := l2.2.2.1; omega) ?_
    rcases hb with t | t
    · exact Or.inl ⟨t.1, by rw [t.2.2, zu_self]⟩
    · exact Or.inr ⟨t.1, by rw [t.2.2]⟩
  · have r : AF2 e = AF e := hR2.resolve_right z
    unfold rtL
    rw [r, zu_ne z]
    exact ⟨app_R m1 l2 d2 hn (by omega) hb2, app_R m2 l2 d2 hn (by omega) hb2, m3, m4, ht5, m6⟩
theorem rtg_row {d z : Int} {x1 x2 x3 x4 x5 : Int} {xt : List Fr} (hG : rtG K O Fi Be Le Mo Z SM RF RL AF AL SD N ns (d + 1) pa po MN dl st ht hh PS T) (hfq : frQ OA OF ON MN PS ((x1, x2, x3, x4, x5) :: xt) (d + 1)) (hd : 0 ≤ d) (hz : 0 ≤ z ∧ z ≤ 1000000000000) (hs : z = PS (-2 - 2 * d) (MN (-2 - 2 * d)) ∨ (z = 1000000000000 ∧ 1000000000000 ≤ PS (-2 - 2 * d) (MN (-2 - 2 * d)))) : rtJg (zu K N 4) (zu O N 0) (zu Fi N (RF d)) (zu Be N (-1)) Le Mo (zu Z N z) SM (zu RF d (-1)) RL AF AL (zu SD d 0) OA OF ON (N + 1) ns (d + 1) N (31 - d) ((x1, x2, x3, x4, 0) :: xt) 0 0 x5 (pmv pa (-2 - 2 * d) N) po (zu (zu MN N (MN (-2 - 2 * d))) (-2 - 2 * d) 0) (zu dl N (dl (-2 - 2 * d))) (zu st N T) (zu ht N (31 - d)) (zu hh N (122 - 4 * d)) (psm PS (-2 - 2 * d) N) (T + 1) := by
  obtain ⟨g0, g1, g2⟩ := hG
  obtain ⟨l1, l2, l3, l4, l5, l6⟩ := g2 d hd (by omega)
  refine ⟨⟨by omega, fun i a c => ⟨mv_A g0.1 hz (by omega) (by omega) (fun q => (g1 i a q).1) a c, mv_H ⟨g0.1, g0.2.1.1, by omega, by omega⟩ (by decide) (by omega) (fun q => ⟨(g1 i a q).2.1, (g1 i a q).1.2.2.1.2⟩) (fun q z => by have := (l5 i a q).1 z; omega) a c, mv_C g0.1 (by omega) (Or.inl ⟨rfl, l3, by omega⟩) ⟨l1.1, l1.2.1⟩ (fun q => (g1 i a q).2.2) a c⟩, fun e e0 e1 => ?_⟩, fun _ => ⟨by omega, pmv_N, by rw [zu_self]; omega, by rw [zu_self, zu_self, if_pos rfl]; omega, fun i i0 i1 i2 => by rw [zu_ne i2, zu_self]; have := (g1 i i0 (by omega)).2.1.1; omega⟩, ?_, Or.inr (Or.inl ⟨rfl, by rw [show d + 1 - 1 = d by omega, zu_self]; decide⟩), ?_⟩
  rotate_left
  · obtain ⟨f1, ⟨f4, f5⟩, f6, f7⟩ := hfq
    have e9 : d + 1 - 1 = d := by omega
    rw [e9] at f1 f4 f5 f7
    have cN : (-2 - 2 * d) ≠ N := by omega
    have same : ∀ y : Int, 0 ≤ y → y < d + 1 → ∀ k : Int, ((k = -2 ∧ ¬ y = d) ∨ k = -3) → psm PS (-2 - 2 * d) N (k - 2 * y) (zu (zu MN N (MN (-2 - 2 * d))) (-2 - 2 * d) 0 (k - 2 * y)) = PS (k - 2 * y) (MN (k - 2 * y)) := fun y y0 y1 k hk => by
      rw [psm_o (by omega), zu_ne (by omega), zu_ne (by omega)]
    refine ⟨by rw [e9]; exact f1, ⟨?_, ?_⟩, ⟨f6.1, Int.le_refl _⟩, ?_⟩
    · rw [e9, zu_self, psm_o cN, l1.2.1]
      exact ceq.rf
    · rw [e9, same d hd (by omega) (-3) (Or.inr rfl)]
      exact f5
    · rw [e9]
      exact frQ.tr _ _ f7 (fun y y0 y1 => ⟨⟨rfl, rfl, rfl⟩, same y y0 (by omega) (-2) (Or.inl ⟨rfl, by omega⟩), same y y0 (by omega) (-3) (Or.inr rfl)⟩)
  · refine Or.inr ⟨?_, hfq.2.2.1.2⟩
    have f4 := hfq.2.1.1
    rw [show d + 1 - 1 = d by omega] at f4
    rw [zu_self]
    unfold ceq at *
    omega
  obtain ⟨m1, m2, m3, m4, m5, m6⟩ := g2 e e0 e1
  have n1 : zu dl N (dl (-2 - 2 * d)) (-2 - 2 * e) = 0 := by rw [zu_ne (by omega)]; exact m3
  have n2 : zu dl N (dl (-2 - 2 * d)) (-3 - 2 * e) = 1 := by rw [zu_ne (by omega)]; exact m4
  have h5 : ∀ i : Int, 0 ≤ i → i < N + 1 → (pmv pa (-2 - 2 * d) N i = -2 - 2 * e → zu ht N (31 - d) i ≤ 31 - e ∧ zu hh N (122 - 4 * d) i ≤ 121 - 4 * e) ∧ (pmv pa (-2 - 2 * d) N i = -3 - 2 * e → zu ht N (31 - d) i ≤ 31 - e ∧ zu hh N (122 - 4 * d) i ≤ 122 - 4 * e) := fun i i0 i1 => ⟨fun q => mv_5 g0.1 (by omega) (fun i a c => (m5 i a c).1) i i0 i1 q, fun q => mv_5 g0.1 (by omega) (fun i a c => (m5 i a c).2) i i0 i1 q⟩
  by_cases y : e = d
  · subst y
    unfold rtL
    rw [zu_self, zu_self]
    exact ⟨mv_E g0.1 (by omega) m1.2.1 (by decide), mv_R g0.1 (by omega) m2, n1, n2, h5, fun q => by omega⟩
  · unfold rtL
    rw [zu_ne y, zu_ne y]
    refine ⟨mv_R g0.1 (by omega) m1, mv_R g0.1 (by omega) m2, n1, n2, h5, fun q => ?_⟩
    obtain ⟨q1, q2⟩ := m6 q
    have := (m1.2.2.2.1 q1).1
    rw [zu_ne (show RL e ≠ N by omega), zu_ne (show RL e ≠ N by omega)]; exact ⟨q1, q2⟩
theorem rtg_all {d z : Int} {x1 x2 x3 x4 x5 : Int} {xt : List Fr} (hG : rtG K O Fi Be Le Mo Z SM RF RL AF AL SD N ns (d + 1) pa po MN dl st ht hh PS T) (hfq : frQ OA OF ON MN PS ((x1, x2, x3, x4, x5) :: xt) (d + 1)) (hd : 0 ≤ d) (hr : RF d < 0) (hz : 0 ≤ z ∧ z ≤ 1000000000000) (hs : z + 1 = PS (-3 - 2 * d) (MN (-3 - 2 * d)) ∨ (z = 1000000000000 ∧ 1000000000000 ≤ PS (-3 - 2 * d) (MN (-3 - 2 * d)))) : rtJg (zu K N 5) (zu O N 0) (zu Fi N (AF d)) (zu Be N (-1)) Le Mo (zu Z N z) SM RF RL AF AL SD OA OF ON (N + 1) ns d N (31 - d) xt 2 0 (x4 - 1) (pmv pa (-3 - 2 * d) N) po (zu (zu MN N (MN (-3 - 2 * d))) (-3 - 2 * d) 0) (zu dl N (dl (-3 - 2 * d))) (zu st N T) (zu ht N (31 - d)) (zu hh N (123 - 4 * d)) (psm PS (-3 - 2 * d) N) (T + 1) := by
  obtain ⟨g0, g1, g2⟩ := hG
  obtain ⟨l1, l2, l3, l4, l5, l6⟩ := g2 d hd (by omega)
  have nr : ∀ i : Int, 0 ≤ i → i < N → ¬ pa i = -2 - 2 * d := fun i a c q => by
    have m0 : MN (-2 - 2 * d) = 0 := by rcases l1.1 with t | t <;> omega
    rcases (g1 i a c).1.2.2.2 with t | t
    · omega
    · have := t.2.1; rw [q] at this; omega
  refine ⟨⟨by omega, fun i a c => ⟨?_, mv_H ⟨g0.1, g0.2.1.1, by omega, by omega⟩ (by decide) (by omega) (fun q => ⟨(g1 i a q).2.1, (g1 i a q).1.2.2.1.2⟩) (fun q z => by have := (l5 i a q).2 z; omega) a c, mv_C g0.1 (by omega) (Or.inr ⟨rfl, l4, by omega⟩) ⟨l2.1, l2.2.1⟩ (fun q => (g1 i a q).2.2) a c⟩, fun e e0 e1 => ?_⟩, fun _ => ⟨by omega, pmv_N, by rw [zu_self]; omega, by rw [zu_self, zu_self, if_neg (by decide), if_pos rfl]; omega, fun i i0 i1 i2 => by rw [zu_ne i2, zu_self]; have := (g1 i i0 (by omega)).2.1.1; omega⟩, ?_, Or.inr (Or.inr rfl), ?_⟩
  · have t := mv_A (Z := Z) (z := z) (c := -3 - 2 * d) (lv := d + 1) g0.1 hz (by omega) (by omega) (fun q => (g1 i a q).1) a c
    refine ⟨t.1, t.2.1, ?_, t.2.2.2⟩
    have t3 := t.2.2.1
    by_cases y : i = N
    · subst y; rw [pmv_N]; omega
    · by_cases w : pa i = -3 - 2 * d
      · rw [pmv_c y w]; omega
      · rw [pmv_o y w] at t3 ⊢
        have := nr i a (by omega)
        omega
  · obtain ⟨m1, m2, m3, m4, m5, m6⟩ := g2 e e0 (by omega)
    refine ⟨mv_R g0.1 (by omega) m1, mv_R g0.1 (by omega) m2, by rw [zu_ne (by omega)]; exact m3, by rw [zu_ne (by omega)]; exact m4, fun i i0 i1 => ⟨fun q => mv_5 g0.1 (by omega) (fun i a c => (m5 i a c).1) i i0 i1 q, fun q => mv_5 g0.1 (by omega) (fun i a c => (m5 i a c).2) i i0 i1 q⟩, fun q => ?_⟩
    obtain ⟨q1, q2⟩ := m6 q
    have := (m1.2.2.2.1 q1).1
    rw [zu_ne (show RL e ≠ N by omega), zu_ne (show RL e ≠ N by omega)]; exact ⟨q1, q2⟩
  · obtain ⟨f1, ⟨f4, f5⟩, f6, f7⟩ := hfq
    have e9 : d + 1 - 1 = d := by omega
    rw [e9] at f7
    have same : ∀ y : Int, 0 ≤ y → y < d → ∀ k : Int, (k = -2 ∨ k = -3) → psm PS (-3 - 2 * d) N (k - 2 * y) (zu (zu MN N (MN (-3 - 2 * d))) (-3 - 2 * d) 0 (k - 2 * y)) = PS (k - 2 * y) (MN (k - 2 * y)) := fun y y0 y1 k hk => by
      rw [psm_o (by omega), zu_ne (by omega), zu_ne (by omega)]
    exact frQ.tr _ _ f7 (fun y y0 y1 => ⟨⟨rfl, rfl, rfl⟩, same y y0 y1 (-2) (Or.inl rfl), same y y0 y1 (-3) (Or.inr rfl)⟩)
  · have f5 := hfq.2.1.2
    rw [show d + 1 - 1 = d by omega] at f5
    refine Or.inr ⟨?_, ?_⟩
    · rw [zu_self]
      unfold aq ceq at *
      omega
    · unfold aq at f5
      omega
theorem rtg_group {m o z : Int} (h : rtJg K O Fi Be Le Mo Z SM RF RL AF AL SD OA OF ON N ns lv m dh fr 2 0 dz pa po MN dl st ht hh PS T) (hm : 0 ≤ m) (hK : K m = 5) (hd1 : 1 ≤ dh) (ho : 0 ≤ o ∧ o ≤ 9) (hz : 0 ≤ z ∧ z ≤ 1000000000000) (hs : z = Z m + pin 4 o ∨ (z = 1000000000000 ∧ 1000000000000 ≤ Z m + pin 4 o)) : rtJg (zu K N 6) (zu O N o) (zu Fi N m) (zu Be N (-1)) Le Mo (zu Z N z) SM RF RL AF AL SD OA OF ON (N + 1) ns lv N dh fr 2 0 (pin 4 o + dz) (zu (zu pa N (-1)) m N) (zu po m 0) (zu MN N 1) (zu dl N 0) (zu st N T) (zu ht N (ht m)) (zu hh N (hh m + 1)) (ps1 PS N (Z m)) (T + 1) := by
  obtain ⟨⟨g0, g1, g2⟩, hdn, hfq, hrp, hdz⟩ := h
  obtain ⟨d1, d2, d3, d4, d5⟩ := hdn hm
  rw [if_neg (by omega), if_pos hK] at d4
  have mN : m ≠ N := by omega
  have pN : zu (zu pa N (-1)) m N N = -1 := by rw [zu_ne (Ne.symm mN), zu_self]
  have pm : zu (zu pa N (-1)) m N m = N := zu_self _ _ _
  have pO : ∀ i : Int, i ≠ m → i ≠ N → zu (zu pa N (-1)) m N i = pa i := fun i a c => by rw [zu_ne a, zu_ne c]
  have fr : ∀ f c : Int, f < N → pa f = c → ¬ c = -1 → zu (zu pa N (-1)) m N f = c ∧ zu po m 0 f = po f := fun f c hf h hc => by
    have e : f ≠ m := fun z => by rw [z, d2] at h; omega
    rw [pO f e (by omega), zu_ne e]; exact ⟨h, rfl⟩
  have Hm := (g1 m hm d1).2.1
  refine ⟨⟨by omega, fun i a c => ⟨?_, ?_, ?_⟩, fun e e0 e1 => ?_⟩, fun _ => ⟨by omega, pN, by rw [zu_self]; exact d3, by rw [zu_self, zu_self, if_neg (by decide), if_neg (by decide)]; omega, fun i i0 i1 i2 => by rw [zu_ne i2, zu_self]; have := (g1 i i0 (by omega)).2.1.1; omega⟩, ?_, Or.inr (Or.inr rfl), ?_⟩
  · by_cases e : i = N
    · subst e
      unfold rtA
      rw [zu_self, zu_self, pN]
      exact ⟨hz, by omega, by omega, Or.inl ⟨rfl, rfl⟩⟩
    · obtain ⟨a1, a2, a3, a4⟩ := (g1 i a (by omega)).1
      unfold rtA
      rw [zu_ne e, zu_ne e]
      refine ⟨a1, by omega, ?_, ?_⟩
      · by_cases y : i = m
        · subst y; rw [pm]; omega
        · rw [pO i y e]; omega
      · by_cases y : i = m
        · subst y
          right
          have b : Be i = -1 := by rcases a4 with t | t; (exact t.2); (exact absurd d2 t.1)
          rw [pm, zu_self, zu_self, zu_self, ps1_0, b]
          refine ⟨by omega, by omega, by omega, ?_, fun _ => rfl, fun q => by omega⟩
          show ps1 PS N (Z i) N (0 + 1) = _
          rw [show (0 : Int) + 1 = 1 by omega, ps1_1]; omega
        · rw [pO i y e]
          rcases a4 with t | ⟨t1, t2, t3, t4, t5, t6⟩
          · exact Or.inl t
          · right
            have q : pa i ≠ N := by omega
            rw [zu_ne y, zu_ne q, zu_ne q, ps1_o q, ps1_o q]
            refine ⟨t1, t2, t3, t4, t5, fun u => ?_⟩
            have w := t6 u
            have v := fr (Be i) (pa i) a2.2 w.1 t1
            exact ⟨v.1, by rw [v.2]; exact w.2⟩
  · by_cases e : i = N
    · subst e
      unfold rtH
      rw [zu_self, zu_self, zu_self, zu_self, pN]
      have h4 := Hm.2.1.2.2 (by omega)
      exact ⟨⟨by omega, by omega, fun q => absurd rfl q⟩, ⟨Hm.2.1.1, by have := Hm.2.1.2.1; omega, fun _ => h4⟩, fun q => by omega⟩
    · obtain ⟨t1, t2, t3⟩ := (g1 i a (by omega)).2.1
      unfold rtH
      rw [zu_ne e, zu_ne e, zu_ne e, zu_ne e]
      refine ⟨⟨t1.1, by omega, fun q => ?_⟩, t2, fun q => ?_⟩
      · by_cases y : i = m
        · subst y; rw [zu_self]; exact t1.1
        · rw [zu_ne y]; rw [pO i y e] at q; exact t1.2.2 q
      by_cases y : i = m
      · subst y; rw [pm, zu_self, zu_self, zu_self, zu_self]; exact ⟨t1.2.1, by omega, by omega, fun z => by omega⟩
      · rw [pO i y e] at q ⊢
        have r : pa i ≠ N := by have := (g1 i a (by omega)).1.2.2.1; omega
        rw [zu_ne r, zu_ne r, zu_ne r, zu_ne r]; exact t3 q
  · by_cases e : i = N
    · subst e
      unfold rtC
      rw [zu_self, zu_self, zu_self, zu_self, zu_ne mN, pm]
      refine ⟨by omega, fun q => by omega, fun q => by omega, fun q => by omega, fun q => by omega, fun q => by omega, fun q => by omega, fun q => ⟨⟨hm, by omega, rfl⟩, ho, by unfold pin at hs; rw [if_pos rfl] at hs; by_cases o0 : o = 0; (rw [if_pos o0] at hs; rw [if_neg (by omega)]; omega); (rw [if_neg o0] at hs; rw [if_pos (by omega)]; omega)⟩, fun q => by omega⟩
    · obtain ⟨c0, c1, c2, c3, c4, c5, c6, c7, c8⟩ := (g1 i a (by omega)).2.2
      have ps : ∀ p : Int, ps1 PS N (Z m) i p = PS i p := fun p => ps1_o e
      have mn : zu MN N 1 i = MN i := zu_ne e
      have dle : zu dl N 0 i = dl i := zu_ne e
      have rf : rtF N pa po MN i (Fi i) → rtF (N + 1) (zu (zu pa N (-1)) m N) (zu po m 0) (zu MN N 1) i (Fi i) := by
        rintro (t | ⟨t1, t2, t3, t4⟩)
        · exact Or.inl ⟨t.1, by rw [mn]; exact t.2⟩
        · have v := fr (Fi i) i t1.2 t2 (by omega)
          exact Or.inr ⟨by omega, v.1, by rw [v.2]; exact t3, by rw [mn]; exact t4⟩
      unfold rtC
      rw [zu_ne e, zu_ne e, zu_ne e, zu_ne e, ps, ps, mn, dle]
      refine ⟨c0, c1, c2, c3, c4, fun h => ?_, fun h => ?_, fun h => ?_, fun h => ?_⟩
      · obtain ⟨t1, t2⟩ := c5 h; exact ⟨rf t1, t2⟩
      · obtain ⟨t1, t2⟩ := c6 h; exact ⟨rf t1, t2⟩
      · obtain ⟨t1, t2⟩ := c7 h
        rw [zu_ne (show Fi i ≠ N by omega)]
        exact ⟨⟨t1.1, by omega, (fr _ i t1.2.1 t1.2.2 (by omega)).1⟩, t2⟩
      · obtain ⟨t1, t2⟩ := c8 h
        rw [zu_ne (show Fi i ≠ N by omega)]
        exact ⟨⟨t1.1, by omega, (fr _ i t1.2.1 t1.2.2 (by omega)).1⟩, t2⟩
  · obtain ⟨m1, m2, m3, m4, m5, m6⟩ := g2 e e0 e1
    have up : ∀ c f l : Int, rtR Be N pa po MN dl PS c f l → c < -1 → rtR (zu Be N (-1)) (N + 1) (zu (zu pa N (-1)) m N) (zu po m 0) (zu MN N 1) (zu dl N 0) (ps1 PS N (Z m)) c f l := by
      rintro c f l ⟨r1, r2, r3, r4, r5⟩ hc
      have mn : zu MN N 1 c = MN c := zu_ne (by omega)
      refine ⟨?_, by rw [ps1_o (by omega)]; exact r2, by rw [mn, ps1_o (by omega)]; exact r3, fun q => ?_, fun i i0 i1 q1 q2 => ?_⟩
      · rcases r1 with t | ⟨t1, t2, t3, t4⟩
        · exact Or.inl ⟨t.1, by rw [mn]; exact t.2⟩
        · have v := fr f c t1.2 t2 (by omega)
          exact Or.inr ⟨by omega, v.1, by rw [v.2]; exact t3, by rw [mn]; exact t4⟩
      · obtain ⟨t1, t2, t3⟩ := r4 q
        have v := fr l c t1.2 t2 (by omega)
        exact ⟨by omega, v.1, by rw [v.2, mn]; exact t3⟩
      · by_cases y : i = N
        · subst y; rw [pN] at q1; omega
        · by_cases w : i = m
          · subst w; rw [pm] at q1; omega
          · rw [pO i w y] at q1; rw [zu_ne y] at q2; exact r5 i i0 (by omega) q1 q2
    refine ⟨up _ _ _ m1 (by omega), up _ _ _ m2 (by omega), by rw [zu_ne (by omega)]; exact m3, by rw [zu_ne (by omega)]; exact m4, fun i i0 i1 => ?_, fun q => ?_⟩
    · by_cases y : i = N
      · subst y; rw [pN]; exact ⟨fun q => by omega, fun q => by omega⟩
      · by_cases w : i = m
        · subst w; rw [pm]; exact ⟨fun q => by omega, fun q => by omega⟩
        · rw [pO i w y, zu_ne y, zu_ne y]; exact m5 i i0 (by omega)
    · obtain ⟨q1, q2⟩ := m6 q
      have := (m1.2.2.2.1 q1).1
      rw [zu_ne (show RL e ≠ N by omega), zu_ne (show RL e ≠ N by omega)]; exact ⟨q1, q2⟩
  · refine frQ.tr _ _ hfq (fun y y0 y1 => ⟨⟨rfl, rfl, rfl⟩, ?_, ?_⟩)
    · rw [ps1_o (by omega), zu_ne (by omega)]
    · rw [ps1_o (by omega), zu_ne (by omega)]
  · have z1 := hdz.resolve_left (by omega)
    have p0 := pin_0 4 o
    have zm := (g1 m hm d1).1.1
    refine Or.inr ⟨?_, by omega⟩
    have e8 := z1.1.add (ceq.rf (a := pin 4 o)) (by omega)
    rw [zu_self]
    unfold ceq at *
    omega
theorem rtg_rep {d n z le mo w : Int} {x1 x2 x3 x4 x5 : Int} {xt : List Fr} (h : rtJg K O Fi Be Le Mo Z SM RF RL AF AL SD OA OF ON N ns (d + 1) (-1) dh ((x1, x2, x3, x4, x5) :: xt) 1 ls dz pa po MN dl st ht hh PS T) (hd : 0 ≤ d) (hn : RL d = n) (hs : SD d = 1) (hle : 0 ≤ le ∧ le ≤ 100) (hmo : -1 ≤ mo ∧ mo ≤ 100) (hlm : 0 ≤ mo → le ≤ mo) (hz : 0 ≤ z ∧ z ≤ 1000000000000) (hz1 : mo < 0 → (le + 1) * Z n + 1 ≤ z ∨ z = 1000000000000) (hz2 : 0 ≤ mo → mo * Z n + mo - le ≤ z ∨ z = 1000000000000) (hw : ceq z w ∧ 0 ≤ w) : rtJg (zu (zu K N (K n)) n 7) (zu O N (O n)) (zu (zu Fi N (Fi n)) n N) (zu Be N (-1)) (zu (zu Le N (Le n)) n le) (zu (zu Mo N (Mo n)) n mo) (zu (zu Z N (Z n)) n z) SM RF RL AF AL (zu SD d 2) OA OF ON (N + 1) ns (d + 1) (-1) 0 ((x1, x2, x3, x4, x5 - ls + w) :: xt) 0 0 0 (prp pa n N) (zu po N 0) (zu (zu MN N (MN n)) n 1) (zu (zu dl N (dl n)) n 0) (zu (zu st N (st n)) n T) (zu (zu ht N (ht n)) n (ht n + 1)) (zu (zu hh N (hh n)) n (hh n + 1)) (psr PS n N (-2 - 2 * d) (MN (-2 - 2 * d)) (Z n) (PS (-2 - 2 * d) (po n) + z)) (T + 1) := by
  obtain ⟨⟨g0, g1, g2⟩, hdn, hfq, hrp, hdz⟩ := h
  obtain ⟨l1, l2, l3, l4, l5, l6⟩ := g2 d hd (by omega)
  obtain ⟨s1, s2, s3⟩ := l6 hs
  obtain ⟨r1, r2, r3⟩ := l1.2.2.2.1 s1
  rw [hn] at r1 r2 r3 s2 s3
  obtain ⟨An, Hn, Cn⟩ := g1 n r1.1 r1.2
  have nN : n ≠ N := by omega
  have bn : Be n = -1 := by
    rcases An.2.2.2 with t | t
    · omega
    · rcases Int.lt_or_le (Be n) 0 with q | q
      · have := An.2.1; omega
      · have u := t.2.2.2.2.2 q
        have v := (g1 (Be n) q An.2.1.2).1.2.2.2
        rcases v with v | v
        · omega
        · have w := v.2.1; rw [u.1, r2] at w; omega
  have pn : prp pa n N n = -2 - 2 * d := by rw [prp_o nN (by omega)]; exact r2
  have cN : (-2 - 2 * d) ≠ N := by omega
  have cn : (-2 - 2 * d) ≠ n := by omega
  have tn := An.2.2.2.resolve_left (by omega)
  rw [r2] at tn
  have fr : ∀ f c : Int, f < N → pa f = c → ¬ c = n → prp pa n N f = c := fun f c hf h hc => by rw [prp_o (by omega) (by omega)]; exact h
  refine ⟨⟨by omega, fun i a c => ⟨?_, ?_, ?_⟩, fun e e0 e1 => ?_⟩, (fun q => by omega), ?_, Or.inr (Or.inl ⟨rfl, by rw [show d + 1 - 1 = d by omega, zu_self]; decide⟩), Or.inl (by decide)⟩
  · -- places
    by_cases e : i = N
    · subst e
      unfold rtA
      rw [zu_ne (Ne.symm nN), zu_self, zu_self, zu_self, prp_N, zu_self, zu_self, psr_n0 nN]
      refine ⟨An.1, by omega, by omega, Or.inr ⟨by omega, by omega, by omega, ?_, fun _ => rfl, fun q => by omega⟩⟩
      rw [show (0 : Int) + 1 = 1 by omega, psr_n1 nN]; omega
    · by_cases y : i = n
      · subst y
        unfold rtA
        rw [zu_self, zu_ne e, pn, zu_ne e, bn, zu_ne cn, zu_ne cN, zu_ne cn, zu_ne cN, psr_o cN cn (by omega), r3, psr_c cN cn, l3]
        exact ⟨hz, by omega, by omega, Or.inr ⟨by omega, by omega, tn.2.2.1, by omega, fun _ => rfl, fun q => by omega⟩⟩
      · obtain ⟨a1, a2, a3, a4⟩ := (g1 i a (by omega)).1
        unfold rtA
        rw [zu_ne y, zu_ne e, zu_ne e, zu_ne e]
        refine ⟨a1, by omega, ?_, ?_⟩
        · by_cases w : pa i = n
          · rw [prp_c e w]; omega
          · rw [prp_o e w]; omega
        · rcases a4 with t | ⟨t1, t2, t3, t4, t5, t6⟩
          · left; rw [prp_o e (by omega)]; exact t
          · right
            have po2 : 0 ≤ Be i → zu po N 0 (Be i) = po (Be i) := fun _ => zu_ne (by omega)
            by_cases w : pa i = n
            · rw [prp_c e w, zu_ne (Ne.symm nN), zu_self, zu_ne (Ne.symm nN), zu_self, psr_N, psr_N]
              rw [w] at t2 t3 t4 t5 t6
              exact ⟨by omega, t2, t3, t4, t5, fun u => ⟨prp_c (by omega) (t6 u).1, by rw [po2 u]; exact (t6 u).2⟩⟩
            · have pN : pa i ≠ N := by omega
              rw [prp_o e w, zu_ne w, zu_ne pN, zu_ne w, zu_ne pN]
              have same : ∀ p : Int, p ≤ po i + 1 → psr PS n N (-2 - 2 * d) (MN (-2 - 2 * d)) (Z n) (PS (-2 - 2 * d) (po n) + z) (pa i) p = PS (pa i) p := fun p hp => by
                refine psr_o pN w (fun v => ?_)
                have hlast : ¬ Be i = -1 := fun b => y (by have := l1.2.2.2.2 i a (by omega) v.1 b; omega)
                have u := t6 (by omega)
                have q4 := (g1 (Be i) (by omega) (by omega)).1.2.2.2.resolve_left (fun t => by omega)
                have q5 := q4.2.1
                rw [u.1, u.2, v.1] at q5
                omega
              rw [same _ (by omega), same _ (by omega)]
              exact ⟨t1, t2, t3, t4, t5, fun u => ⟨by rw [prp_o (by omega) (by rw [(t6 u).1]; exact w)]; exact (t6 u).1, by rw [po2 u]; exact (t6 u).2⟩⟩
  · -- stamps
    by_cases e : i = N
    · subst e
      unfold rtH
      simp only [zu_ne (Ne.symm nN), zu_self, prp_N]
      exact ⟨⟨Hn.1.1, by have := Hn.1; omega, fun _ => Hn.1.1⟩, Hn.2.1, fun _ => ⟨Hn.1.2.1, by omega, by omega, fun _ _ => by omega⟩⟩
    · by_cases y : i = n
      · subst y
        unfold rtH
        simp only [zu_self, pn, zu_ne e]
        have hq := Hn.1.2.2 (by omega)
        exact ⟨⟨by omega, by omega, fun _ => by have := Hn.1; omega⟩, by have := Hn.2.1; omega, fun q => by omega⟩
      · obtain ⟨t1, t2, t3⟩ := (g1 i a (by omega)).2.1
        have a3 := (g1 i a (by omega)).1.2.2.1
        unfold rtH
        simp only [zu_ne y, zu_ne e]
        refine ⟨⟨t1.1, by omega, fun q => t1.2.2 (fun z => q (by rw [prp_o e (by omega)]; exact z))⟩, t2, fun q => ?_⟩
        by_cases w : pa i = n
        · have u := t3 (by omega)
          rw [w] at u
          simp only [prp_c e w, zu_ne (Ne.symm nN), zu_self]
          exact u
        · rw [prp_o e w] at q ⊢
          have pN : pa i ≠ N := by omega
          simp only [zu_ne w, zu_ne pN]
          exact t3 q
  · -- kinds
    by_cases e : i = N
    · subst e
      obtain ⟨c0, c1, c2, c3, c4, c5, c6, c7, c8⟩ := Cn
      have rf : rtF i pa po MN n (Fi n) → rtF (i + 1) (prp pa n i) (zu po i 0) (zu (zu MN i (MN n)) n 1) i (Fi n) := by
        rintro (t | ⟨t1, t2, t3, t4⟩)
        · exact Or.inl ⟨t.1, by rw [zu_ne (Ne.symm nN), zu_self]; exact t.2⟩
        · exact Or.inr ⟨by omega, prp_c (by omega) t2, by rw [zu_ne (show Fi n ≠ i by omega)]; exact t3, by rw [zu_ne (Ne.symm nN), zu_self]; exact t4⟩
      have fz : ∀ f : Int, 0 ≤ f → f < i → pa f = n → zu (zu Z i (Z n)) n z f = Z f := fun f f0 f1 h => by
        rw [zu_ne (fun q => by rw [q] at h; omega), zu_ne (by omega)]
      unfold rtC
      rw [zu_ne (Ne.symm nN), zu_self, zu_self, zu_ne (Ne.symm nN), zu_self, zu_ne (Ne.symm nN), zu_self, zu_ne (Ne.symm nN), zu_self, zu_ne (Ne.symm nN), zu_self, zu_ne (Ne.symm nN), zu_self, zu_ne (Ne.symm nN), zu_self, psr_N, psr_N]
      refine ⟨c0, c1, c2, c3, c4, fun q => ⟨rf (c5 q).1, (c5 q).2⟩, fun q => ⟨rf (c6 q).1, (c6 q).2⟩, fun q => ?_, fun q => ?_⟩
      · obtain ⟨t1, t2⟩ := c7 q
        rw [fz _ t1.1 t1.2.1 t1.2.2]
        exact ⟨⟨t1.1, by omega, prp_c (by omega) t1.2.2⟩, t2⟩
      · obtain ⟨t1, t2⟩ := c8 q
        rw [fz _ t1.1 t1.2.1 t1.2.2]
        exact ⟨⟨t1.1, by omega, prp_c (by omega) t1.2.2⟩, t2⟩
    · by_cases y : i = n
      · subst y
        have zN : zu (zu Z N (Z i)) i z N = Z i := by rw [zu_ne (Ne.symm e), zu_self]
        unfold rtC
        simp only [zu_self, zN, prp_N]
        refine ⟨by omega, fun q => by omega, fun q => by omega, fun q => by omega, fun q => by omega, fun q => by omega, fun q => by omega, fun q => by omega, fun _ => ⟨⟨g0.1, by omega, trivial⟩, hle, hmo, hlm, hz1, hz2⟩⟩
      · obtain ⟨c0, c1, c2, c3, c4, c5, c6, c7, c8⟩ := (g1 i a (by omega)).2.2
        have cf : ∀ p : Int, psr PS n N (-2 - 2 * d) (MN (-2 - 2 * d)) (Z n) (PS (-2 - 2 * d) (po n) + z) i p = PS i p := fun p => psr_o e y (by omega)
        have mn : zu (zu MN N (MN n)) n 1 i = MN i := by rw [zu_ne y, zu_ne e]
        have dle : zu (zu dl N (dl n)) n 0 i = dl i := by rw [zu_ne y, zu_ne e]
        have rf : rtF N pa po MN i (Fi i) → rtF (N + 1) (prp pa n N) (zu po N 0) (zu (zu MN N (MN n)) n 1) i (Fi i) := by
          rintro (t | ⟨t1, t2, t3, t4⟩)
          · exact Or.inl ⟨t.1, by rw [mn]; exact t.2⟩
          · exact Or.inr ⟨by omega, fr _ i t1.2 t2 y, by rw [zu_ne (by omega)]; exact t3, by rw [mn]; exact t4⟩
        have fz : ∀ f : Int, 0 ≤ f → f < N → pa f = i → zu (zu Z N (Z n)) n z f = Z f := fun f f0 f1 h => by
          rw [zu_ne (fun q => by rw [q] at h; omega), zu_ne (by omega)]
        unfold rtC
        simp only [zu_ne y, zu_ne e, cf]
        refine ⟨c0, c1, c2, c3, c4, fun q => ⟨rf (c5 q).1, (c5 q).2⟩, fun q => ⟨rf (c6 q).1, (c6 q).2⟩, fun q => ?_, fun q => ?_⟩
        · obtain ⟨t1, t2⟩ := c7 q
          rw [fz _ t1.1 t1.2.1 t1.2.2]
          exact ⟨⟨t1.1, by omega, fr _ i t1.2.1 t1.2.2 y⟩, t2⟩
        · obtain ⟨t1, t2⟩ := c8 q
          rw [fz _ t1.1 t1.2.1 t1.2.2]
          exact ⟨⟨t1.1, by omega, fr _ i t1.2.1 t1.2.2 y⟩, t2⟩
  · -- levels
    obtain ⟨m1, m2, m3, m4, m5, m6⟩ := g2 e e0 e1
    have up : ∀ c f l : Int, rtR Be N pa po MN dl PS c f l → c < -1 → rtR (zu Be N (-1)) (N + 1) (prp pa n N) (zu po N 0) (zu (zu MN N (MN n)) n 1) (zu (zu dl N (dl n)) n 0) (psr PS n N (-2 - 2 * d) (MN (-2 - 2 * d)) (Z n) (PS (-2 - 2 * d) (po n) + z)) c f l := by
      rintro c f l ⟨q1, q2, q3, q4, q5⟩ hc
      have mn : zu (zu MN N (MN n)) n 1 c = MN c := by rw [zu_ne (by omega), zu_ne (by omega)]
      refine ⟨?_, ?_, ?_, fun q => ?_, fun i i0 i1 w1 w2 => ?_⟩
      · rcases q1 with t | ⟨t1, t2, t3, t4⟩
        · exact Or.inl ⟨t.1, by rw [mn]; exact t.2⟩
        · exact Or.inr ⟨by omega, fr _ c t1.2 t2 (by omega), by rw [zu_ne (by omega)]; exact t3, by rw [mn]; exact t4⟩
      · rw [psr_o (by omega) (by omega) (fun t => by have := tn.2.1; omega)]; exact q2
      · rw [mn]
        by_cases w : c = -2 - 2 * d
        · subst w; rw [psr_c (by omega) (by omega)]; have := tn.2.2.1; omega
        · rw [psr_o (by omega) (by omega) (fun t => w t.1)]; exact q3
      · obtain ⟨t1, t2, t3⟩ := q4 q
        exact ⟨by omega, fr _ c t1.2 t2 (by omega), by rw [zu_ne (by omega), mn]; exact t3⟩
      · by_cases y : i = N
        · subst y; rw [prp_N] at w1; omega
        · by_cases w : pa i = n
          · rw [prp_c y w] at w1; omega
          · rw [prp_o y w] at w1; rw [zu_ne y] at w2; exact q5 i i0 (by omega) w1 w2
    have h5 : ∀ i : Int, 0 ≤ i → i < N + 1 → (prp pa n N i = -2 - 2 * e → zu (zu ht N (ht n)) n (ht n + 1) i ≤ 31 - e ∧ zu (zu hh N (hh n)) n (hh n + 1) i ≤ 121 - 4 * e) ∧ (prp pa n N i = -3 - 2 * e → zu (zu ht N (ht n)) n (ht n + 1) i ≤ 31 - e ∧ zu (zu hh N (hh n)) n (hh n + 1) i ≤ 122 - 4 * e) := fun i i0 i1 => by
      by_cases y : i = N
      · subst y; rw [prp_N]; exact ⟨fun q => by omega, fun q => by omega⟩
      · by_cases w : i = n
        · subst w; simp only [pn, zu_self]; exact ⟨fun q => by omega, fun q => by omega⟩
        · simp only [zu_ne w, zu_ne y]
          by_cases x : pa i = n
          · rw [prp_c y x]; exact ⟨fun q => by omega, fun q => by omega⟩
          · rw [prp_o y x]; exact m5 i i0 (by omega)
    have n1 : zu (zu dl N (dl n)) n 0 (-2 - 2 * e) = 0 := by rw [zu_ne (by omega), zu_ne (by omega)]; exact m3
    have n2 : zu (zu dl N (dl n)) n 0 (-3 - 2 * e) = 1 := by rw [zu_ne (by omega), zu_ne (by omega)]; exact m4
    refine ⟨up _ _ _ m1 (by omega), up _ _ _ m2 (by omega), n1, n2, h5, fun q => ?_⟩
    by_cases y : e = d
    · subst y; rw [zu_self] at q; omega
    · rw [zu_ne y] at q
      obtain ⟨q1, q2⟩ := m6 q
      have u := m1.2.2.2.1 q1
      have k1 : RL e ≠ n := fun w => by have := u.2.1; rw [w, r2] at this; omega
      have k2 : RL e ≠ N := by omega
      simp only [zu_ne k1, zu_ne k2]; exact ⟨q1, q2⟩
  · obtain ⟨f1, ⟨f4, f5⟩, f6, f7⟩ := hfq
    have e9 : d + 1 - 1 = d := by omega
    rw [e9] at f1 f5 f7
    have k := hrp.resolve_right (fun y => by omega)
    obtain ⟨_, _, _, ⟨k1, k2⟩, a', b', c', d', e', t', k3, k4, k5⟩ := k
    cases k3
    rw [e9, ← r3, show po n + 1 - 1 = po n by omega] at k4
    have same : ∀ y : Int, 0 ≤ y → y < d + 1 → ∀ k : Int, ((k = -2 ∧ ¬ y = d) ∨ k = -3) → psr PS n N (-2 - 2 * d) (MN (-2 - 2 * d)) (Z n) (PS (-2 - 2 * d) (po n) + z) (k - 2 * y) (zu (zu MN N (MN n)) n 1 (k - 2 * y)) = PS (k - 2 * y) (MN (k - 2 * y)) := fun y y0 y1 k hk => by
      rw [zu_ne (by omega), zu_ne (by omega), psr_o (by omega) (by omega) (by omega)]
    refine ⟨by rw [e9]; exact f1, ⟨?_, ?_⟩, ⟨f6.1, by omega⟩, ?_⟩
    · rw [e9, zu_ne cn, zu_ne cN, psr_c cN cn]
      exact k4.add hw.1 ⟨tn.2.2.1, k5, hz.1, hw.2⟩
    · rw [e9, same d hd (by omega) (-3) (Or.inr rfl)]
      exact f5
    · rw [e9]
      exact frQ.tr _ _ f7 (fun y y0 y1 => ⟨⟨rfl, rfl, rfl⟩, same y y0 (by omega) (-2) (Or.inl ⟨rfl, by omega⟩), same y y0 (by omega) (-3) (Or.inr rfl)⟩)
theorem rtg_ns {v : Int} (h : rtJg K O Fi Be Le Mo Z SM RF RL AF AL SD OA OF ON N ns lv dn dh fr rp ls dz pa po MN dl st ht hh PS T) : rtJg K O Fi Be Le Mo Z (zu SM ns v) RF RL AF AL SD OA OF ON N (ns + 1) lv dn dh fr rp ls dz pa po MN dl st ht hh PS T := by
  obtain ⟨⟨g0, g1, g2⟩, hd, hfq, hrp, hdz⟩ := h
  refine ⟨⟨g0, fun i a c => ?_, g2⟩, hd, hfq, hrp, hdz⟩
  obtain ⟨h1, h2, c0, c1, c2, c3⟩ := g1 i a c
  refine ⟨h1, h2, c0, c1, fun q => ?_, c3⟩
  obtain ⟨t1, t2⟩ := c2 q
  rw [zu_ne (show O i ≠ ns by omega)]
  exact ⟨by omega, t2⟩
end TreeG
/-- the tree, and what it means: FS its levels, ro and vv the row before its last part and that part once, dv the node that has no place -/
def rtK (K O Fi Be Le Mo Z SM RF RL AF AL SD OA OF ON La : Int → Int) (SV : Int → Int → Prop) (N ns lv dn dh : Int) (fr : List Fr) (rp ls dz : Int) (FS : List Fs) (ro vv dv : Sn) : Prop := ∃ (pa po MN dl st ht hh : Int → Int) (PS : Int → Int → Int) (T : Int) (dm pm : Int → Sn), rtJg K O Fi Be Le Mo Z SM RF RL AF AL SD OA OF ON N ns lv dn dh fr rp ls dz pa po MN dl st ht hh PS T ∧ rtM K O Fi Be Le Mo La SV N pa po dl dm pm ∧ frM RF RL AF AL pm FS lv ∧ rpM Be po RL N dm pm lv rp ro vv ∧ (0 ≤ dn → dm dn = dv)
section TreeK
variable {K O Fi Be Le Mo Z SM RF RL AF AL SD OA OF ON La : Int → Int} {SV : Int → Int → Prop} {N ns lv dn dh : Int} {pa po MN dl st ht hh : Int → Int} {PS : Int → Int → Int} {T : Int} {fr : List Fr} {rp ls dz : Int} {FS t : List Fs} {ao : Option Sn} {ro vv dv w : Sn} {dm pm : Int → Sn}
theorem rtK.j (h : rtK K O Fi Be Le Mo Z SM RF RL AF AL SD OA OF ON La SV N ns lv dn dh fr rp ls dz FS ro vv dv) : rtJ K O Fi Be Le Mo Z SM RF RL AF AL SD OA OF ON N ns lv dn dh fr rp ls dz := by
  obtain ⟨pa, po, MN, dl, st, ht, hh, PS, T, dm, pm, h, _⟩ := h
  exact ⟨pa, po, MN, dl, st, ht, hh, PS, T, h⟩
theorem rtK.len (h : rtK K O Fi Be Le Mo Z SM RF RL AF AL SD OA OF ON La SV N ns lv dn dh fr rp ls dz FS ro vv dv) : lv = FS.length := by
  obtain ⟨pa, po, MN, dl, st, ht, hh, PS, T, dm, pm, _, _, h, _⟩ := h
  exact frM.len _ _ h
theorem rtk_nil : rtK K O Fi Be Le Mo Z SM RF RL AF AL SD OA OF ON La SV 0 ns 0 (-1) 0 [] 2 0 0 [] mnI mnI mnI := ⟨fun _ => 0, fun _ => 0, fun _ => 0, fun _ => 0, fun _ => 0, fun _ => 0, fun _ => 0, fun _ _ => 0, 0, fun _ => mnI, fun _ => mnI, ⟨⟨by omega, fun i a c => by omega, fun d a c => by omega⟩, fun h => by omega, rfl, Or.inr (Or.inr rfl), Or.inl (by decide)⟩, rtM_nil, rfl, fun q => absurd q (by decide), fun q => absurd q (by decide)⟩
theorem rtk_open {x1 x2 b2 x3 : Int} (h : rtK K O Fi Be Le Mo Z SM RF RL AF AL SD OA OF ON La SV N ns lv dn dh fr rp ls dz FS ro vv dv) (hl : lv ≤ 30) (hb : fr = [] ∨ x2 = b2) : rtK K O Fi Be Le Mo Z SM (zu RF lv (-1)) RL (zu AF lv (-1)) AL (zu SD lv 0) (zu OA lv x1) (zu OF lv x2) (zu ON lv x3) La SV N ns (lv + 1) dn dh ((x1, b2, x3, 0, 0) :: fr) 0 0 dz ((none, mnI) :: FS) mnI mnI dv := by
  obtain ⟨pa, po, MN, dl, st, ht, hh, PS, T, dm, pm, hj, hM, hF, hR, hD⟩ := h
  obtain ⟨m1, m2⟩ := rtM.opn hj.1 hM hF
  exact ⟨_, _, _, _, _, _, _, _, _, dm, pm, rtg_open hj hl hb, m1, m2, fun q => absurd q (by decide), hD⟩
theorem rtk_leaf {k o z : Int} {v : Sn} (h : rtK K O Fi Be Le Mo Z SM RF RL AF AL SD OA OF ON La SV N ns lv (-1) dh fr rp ls dz FS ro vv dv) (hz : 0 ≤ z ∧ z ≤ 1000000) (hk : (k = 0 ∧ z = 0) ∨ (k = 1 ∧ 0 ≤ o ∧ o < ns ∧ 1 ≤ z ∧ SM o ≤ z) ∨ (k = 2 ∧ z = 1) ∨ (k = 3 ∧ z = 1 ∧ 0 ≤ o ∧ o ≤ 5)) (hv : (k = 0 ∧ v = mnI) ∨ (k = 1 ∧ v = mnS (SV o)) ∨ (k = 2 ∧ v = mnA) ∨ (k = 3 ∧ v = mnQ (asq o))) : rtK (zu K N k) (zu O N o) (zu Fi N (-1)) (zu Be N (-1)) Le Mo (zu Z N z) SM RF RL AF AL SD OA OF ON La SV (N + 1) ns lv N 0 fr rp ls z FS ro vv v := by
  obtain ⟨pa, po, MN, dl, st, ht, hh, PS, T, dm, pm, hj, hM, hF, hR, hD⟩ := h
  obtain ⟨m1, m2⟩ := rtM.leaf (k := k) (o := o) hj.1 hM hF hv
  refine ⟨_, _, _, _, _, _, _, _, _, _, pm, rtg_leaf hj hz hk, m1, m2, fun q => ?_, fun _ => snu_s⟩
  obtain ⟨r1, r2, r3⟩ := hR q
  have rl : 0 ≤ RL (lv - 1) ∧ RL (lv - 1) < N := by
    rcases hj.2.2.2.1 with p | p | p
    · obtain ⟨l1, l2, l3, l4, l5, l6⟩ := hj.1.2.2 (lv - 1) (by omega) (by omega)
      exact (l1.2.2.2.1 (l6 p.2.2.1).1).1
    · omega
    · omega
  refine ⟨by rw [snu_ne (by omega)]; exact r1, r2, fun j a b c => ?_⟩
  by_cases e : j = N
  · rw [e, zu_self] at c; omega
  · rw [zu_ne e] at c
    exact r3 j a (by omega) c
theorem rtk_part {Be2 RF2 : Int → Int} {d n s : Int} {x1 x2 x3 x4 x5 rp2 ls2 : Int} {xt : List Fr} {ro' : Sn} (h : rtK K O Fi Be Le Mo Z SM RF RL AF AL SD OA OF ON La SV N ns (d + 1) n dh ((x1, x2, x3, x4, x5) :: xt) rp ls dz ((ao, ro) :: t) ro' vv dv) (hd : 0 ≤ d) (hn : 0 ≤ n) (hb : (RF d < 0 ∧ Be2 = Be ∧ RF2 = zu RF d n) ∨ (0 ≤ RF d ∧ Be2 = zu Be (RL d) n ∧ RF2 = RF)) (hK : ¬ K n = 4 ∧ ¬ K n = 5) (hhd : dh ≤ 30 - d) (hst : (s = 1 ∧ rp2 = 1 ∧ ls2 = dz) ∨ (¬ s = 1 ∧ rp2 = 0)) : rtK K O Fi Be2 Le Mo Z SM RF2 (zu RL d n) AF AL (zu SD d s) OA OF ON La SV N ns (d + 1) (-1) 0 ((x1, x2, x3, x4, x5 + dz) :: xt) rp2 ls2 0 ((ao, mnC ro dv) :: t) ro dv mnI := by
  obtain ⟨pa, po, MN, dl, st, ht, hh, PS, T, dm, pm, hj, hM, hF, hR, hD⟩ := h
  have q := hj.2.1 hn
  obtain ⟨pm2, m1, m2, m3⟩ := rtM.part hj.1 hM hF hd ⟨hn, q.1, q.2.1⟩ hb
  rw [hD hn] at m2 m3
  exact ⟨_, _, _, _, _, _, _, _, _, dm, pm2, rtg_part hj hd hn hb hK hhd hst, m1, m2, fun _ => m3 rfl, fun z => absurd z (by decide)⟩
theorem rtk_alt {Be2 AF2 : Int → Int} {d n : Int} {x1 x2 x3 x4 x5 : Int} {xt : List Fr} {ro' : Sn} (h : rtK K O Fi Be Le Mo Z SM RF RL AF AL SD OA OF ON La SV N ns (d + 1) n dh ((x1, x2, x3, x4, x5) :: xt) 0 ls dz ((ao, ro) :: t) ro' vv dv) (hd : 0 ≤ d) (hn : 0 ≤ n) (hb : (AF d < 0 ∧ Be2 = Be ∧ AF2 = zu AF d n) ∨ (0 ≤ AF d ∧ Be2 = zu Be (AL d) n ∧ AF2 = AF)) (hK : K n = 4) (hhd : dh ≤ 31 - d) (hr0 : RF d < 0) : rtK K O Fi Be2 Le Mo Z SM RF RL AF2 (zu AL d n) SD OA OF ON La SV N ns (d + 1) (-1) 0 ((x1, x2, x3, x4 + dz + 1, x5) :: xt) 0 0 0 ((some (opO ao dv), mnI) :: t) mnI mnI mnI := by
  obtain ⟨pa, po, MN, dl, st, ht, hh, PS, T, dm, pm, hj, hM, hF, hR, hD⟩ := h
  have q := hj.2.1 hn
  obtain ⟨pm2, m1, m2⟩ := rtM.alt hj.1 hM hF hd ⟨hn, q.1, q.2.1⟩ hr0 hb
  rw [hD hn] at m2
  exact ⟨_, _, _, _, _, _, _, _, _, dm, pm2, rtg_alt hj hd hn hb hK hhd, m1, m2, fun z => absurd z (by decide), fun z => absurd z (by decide)⟩
theorem rtk_row {d z : Int} {x1 x2 x3 x4 x5 : Int} {xt : List Fr} (hG : rtG K O Fi Be Le Mo Z SM RF RL AF AL SD N ns (d + 1) pa po MN dl st ht hh PS T) (hfq : frQ OA OF ON MN PS ((x1, x2, x3, x4, x5) :: xt) (d + 1)) (hM : rtM K O Fi Be Le Mo La SV N pa po dl dm pm) (hF : frM RF RL AF AL pm ((ao, ro) :: t) (d + 1)) (hd : 0 ≤ d) (hz : 0 ≤ z ∧ z ≤ 1000000000000) (hs : z = PS (-2 - 2 * d) (MN (-2 - 2 * d)) ∨ (z = 1000000000000 ∧ 1000000000000 ≤ PS (-2 - 2 * d) (MN (-2 - 2 * d)))) : rtK (zu K N 4) (zu O N 0) (zu Fi N (RF d)) (zu Be N (-1)) Le Mo (zu Z N z) SM (zu RF d (-1)) RL AF AL (zu SD d 0) OA OF ON La SV (N + 1) ns (d + 1) N (31 - d) ((x1, x2, x3, x4, 0) :: xt) 0 0 x5 ((ao, mnI) :: t) mnI mnI ro := by
  obtain ⟨m1, m2⟩ := rtM.row hG hM hF hd
  exact ⟨_, _, _, _, _, _, _, _, _, _, pm, rtg_row hG hfq hd hz hs, m1, m2, fun q => absurd q (by decide), fun _ => snu_s⟩
theorem rtk_all {d z : Int} {x1 x2 x3 x4 x5 : Int} {xt : List Fr} {A : Sn} (hG : rtG K O Fi Be Le Mo Z SM RF RL AF AL SD N ns (d + 1) pa po MN dl st ht hh PS T) (hfq : frQ OA OF ON MN PS ((x1, x2, x3, x4, x5) :: xt) (d + 1)) (hM : rtM K O Fi Be Le Mo La SV N pa po dl dm pm) (hF : frM RF RL AF AL pm ((some A, ro) :: t) (d + 1)) (hd : 0 ≤ d) (hr : RF d < 0) (hz : 0 ≤ z ∧ z ≤ 1000000000000) (hs : z + 1 = PS (-3 - 2 * d) (MN (-3 - 2 * d)) ∨ (z = 1000000000000 ∧ 1000000000000 ≤ PS (-3 - 2 * d) (MN (-3 - 2 * d)))) : rtK (zu K N 5) (zu O N 0) (zu Fi N (AF d)) (zu Be N (-1)) Le Mo (zu Z N z) SM RF RL AF AL SD OA OF ON La SV (N + 1) ns d N (31 - d) xt 2 0 (x4 - 1) t mnI mnI A := by
  obtain ⟨m1, m2⟩ := rtM.all hG hM hF hd
  exact ⟨_, _, _, _, _, _, _, _, _, _, pm, rtg_all hG hfq hd hr hz hs, m1, m2, fun q => absurd q (by decide), fun _ => snu_s⟩
theorem rtk_group {m o z : Int} (h : rtK K O Fi Be Le Mo Z SM RF RL AF AL SD OA OF ON La SV N ns lv m dh fr 2 0 dz FS ro vv dv) (hm : 0 ≤ m) (hK : K m = 5) (hd1 : 1 ≤ dh) (ho : 0 ≤ o ∧ o ≤ 9) (hz : 0 ≤ z ∧ z ≤ 1000000000000) (hs : z = Z m + pin 4 o ∨ (z = 1000000000000 ∧ 1000000000000 ≤ Z m + pin 4 o)) : rtK (zu K N 6) (zu O N o) (zu Fi N m) (zu Be N (-1)) Le Mo (zu Z N z) SM RF RL AF AL SD OA OF ON La SV (N + 1) ns lv N dh fr 2 0 (pin 4 o + dz) FS mnI mnI (mnG o dv) := by
  obtain ⟨pa, po, MN, dl, st, ht, hh, PS, T, dm, pm, hj, hM, hF, hR, hD⟩ := h
  have q := hj.2.1 hm
  obtain ⟨pm2, m1, m2⟩ := rtM.group (o := o) hj.1 hM hF ⟨hm, q.1, q.2.1⟩
  rw [hD hm] at m1
  exact ⟨_, _, _, _, _, _, _, _, _, _, pm2, rtg_group hj hm hK hd1 ho hz hs, m1, m2, fun z => absurd z (by decide), fun _ => snu_s⟩
theorem rtk_rep {d n z le mo w lz m9 : Int} {x1 x2 x3 x4 x5 : Int} {xt : List Fr} {w' : Sn} (h : rtK K O Fi Be Le Mo Z SM RF RL AF AL SD OA OF ON La SV N ns (d + 1) (-1) dh ((x1, x2, x3, x4, x5) :: xt) 1 ls dz ((ao, w') :: t) ro vv dv) (hd : 0 ≤ d) (hn : RL d = n) (hs : SD d = 1) (hle : 0 ≤ le ∧ le ≤ 100) (hmo : -1 ≤ mo ∧ mo ≤ 100) (hlm : 0 ≤ mo → le ≤ mo) (hz : 0 ≤ z ∧ z ≤ 1000000000000) (hz1 : mo < 0 → (le + 1) * Z n + 1 ≤ z ∨ z = 1000000000000) (hz2 : 0 ≤ mo → mo * Z n + mo - le ≤ z ∨ z = 1000000000000) (hw : ceq z w ∧ 0 ≤ w) (h9 : moE mo = m9) : rtK (zu (zu K N (K n)) n 7) (zu O N (O n)) (zu (zu Fi N (Fi n)) n N) (zu Be N (-1)) (zu (zu Le N (Le n)) n le) (zu (zu Mo N (Mo n)) n mo) (zu (zu Z N (Z n)) n z) SM RF RL AF AL (zu SD d 2) OA OF ON (zu (zu La N (La n)) n lz) SV (N + 1) ns (d + 1) (-1) 0 ((x1, x2, x3, x4, x5 - ls + w) :: xt) 0 0 0 ((ao, mnC ro (mnR le m9 lz vv)) :: t) mnI mnI mnI := by
  subst h9
  obtain ⟨pa, po, MN, dl, st, ht, hh, PS, T, dm, pm, hj, hM, hF, hR, hD⟩ := h
  obtain ⟨l1, l2, l3, l4, l5, l6⟩ := hj.1.2.2 d hd (by omega)
  have rf := (l6 hs).1
  obtain ⟨r1, r2, r3⟩ := l1.2.2.2.1 rf
  have bn : Be n = -1 := by
    rw [hn] at r1 r2 r3
    have An := (hj.1.2.1 n r1.1 r1.2).1
    rcases Int.lt_or_le (Be n) 0 with q | q
    · have := An.2.1; omega
    · have u := hj.1.be r1.1 r1.2 q
      have v := (hj.1.2.1 (Be n) q u.1).1.2.2.2
      rcases v with v | v
      · omega
      · have x := v.2.1; rw [u.2.2.1, r2] at x; omega
  obtain ⟨pm2, m1, m2⟩ := rtM.rep (le := le) (mo := mo) (lz := lz) hj.1 hM hF hR hd hn rf bn
  exact ⟨_, _, _, _, _, _, _, _, _, _, pm2, rtg_rep hj hd hn hs hle hmo hlm hz hz1 hz2 hw, m1, m2, fun z => absurd z (by decide), fun z => absurd z (by decide)⟩
theorem rtk_0 {ro2 vv2 : Sn} (h : rtK K O Fi Be Le Mo Z SM RF RL AF AL SD OA OF ON La SV N ns lv dn dh fr rp ls dz FS ro vv dv) (h0 : ¬ rp = 1) : rtK K O Fi Be Le Mo Z SM RF RL AF AL SD OA OF ON La SV N ns lv dn dh fr rp ls dz FS ro2 vv2 dv := by
  obtain ⟨pa, po, MN, dl, st, ht, hh, PS, T, dm, pm, hj, hM, hF, hR, hD⟩ := h
  exact ⟨_, _, _, _, _, _, _, _, _, dm, pm, hj, hM, hF, fun q => absurd q h0, hD⟩
theorem fs_hd {FS : List Fs} {lv : Int} (h : lv = FS.length) (h0 : 1 ≤ lv) : ∃ (ao : Option Sn) (w : Sn) (t : List Fs), FS = (ao, w) :: t := by
  cases FS with
  | nil => rw [List.length_nil] at h; omega
  | cons x t => exact ⟨x.1, x.2, t, rfl⟩
theorem rtk_ns {v : Int} {S : Int → Prop} (h : rtK K O Fi Be Le Mo Z SM RF RL AF AL SD OA OF ON La SV N ns lv dn dh fr rp ls dz FS ro vv dv) : rtK K O Fi Be Le Mo Z (zu SM ns v) RF RL AF AL SD OA OF ON La (fun s => if s = ns then S else SV s) N (ns + 1) lv dn dh fr rp ls dz FS ro vv dv := by
  obtain ⟨pa, po, MN, dl, st, ht, hh, PS, T, dm, pm, hj, hM, hF, hR, hD⟩ := h
  exact ⟨_, _, _, _, _, _, _, _, _, dm, pm, rtg_ns hj, hM.nset hj.1, hF, hR, hD⟩
end TreeK
