/-! the tree that the reference reads: pa whose child (codes below -1: the open rows, the open alternatives), po which one, MN how many, PS their sizes so far, dl 1 between alternatives, st when it was made, ht how many loops within -/
def rtA (Be Z : Int → Int) (N lv : Int) (pa po MN dl : Int → Int) (PS : Int → Int → Int) (i : Int) : Prop := (0 ≤ Z i ∧ Z i ≤ 1000000000000) ∧ (-1 ≤ Be i ∧ Be i < N) ∧ (-1 - 2 * lv ≤ pa i ∧ pa i < N) ∧ ((pa i = -1 ∧ Be i = -1) ∨ (¬ pa i = -1 ∧ (0 ≤ po i ∧ po i < MN (pa i)) ∧ 0 ≤ PS (pa i) (po i) ∧ PS (pa i) (po i + 1) = PS (pa i) (po i) + Z i + dl (pa i) ∧ (Be i = -1 → po i + 1 = MN (pa i)) ∧ (0 ≤ Be i → pa (Be i) = pa i ∧ po (Be i) = po i + 1)))
def rtH (K Mo pa po st ht hh : Int → Int) (T : Int) (i : Int) : Prop := (0 ≤ st i ∧ st i < T ∧ (¬ pa i = -1 → po i ≤ st i)) ∧ (0 ≤ ht i ∧ 0 ≤ hh i ∧ (4 ≤ K i → 1 ≤ ht i)) ∧ (0 ≤ pa i → st i < st (pa i) ∧ ht i ≤ ht (pa i) ∧ hh i + 1 ≤ hh (pa i) ∧ (K (pa i) = 7 → Mo (pa i) < 0 → ht i + 1 ≤ ht (pa i)))
/-- c's list begins with f -/
def rtF (N : Int) (pa po MN : Int → Int) (c f : Int) : Prop := (f < 0 ∧ MN c = 0) ∨ ((0 ≤ f ∧ f < N) ∧ pa f = c ∧ po f = 0 ∧ 0 < MN c)
def rtC (K O Fi Le Mo Z SM : Int → Int) (N ns : Int) (pa po MN dl : Int → Int) (PS : Int → Int → Int) (n : Int) : Prop :=
  (0 ≤ K n ∧ K n ≤ 7) ∧ (K n = 0 → Z n = 0) ∧ (K n = 1 → (0 ≤ O n ∧ O n < ns) ∧ 1 ≤ Z n ∧ SM (O n) ≤ Z n) ∧ (K n = 2 → Z n = 1) ∧ (K n = 3 → Z n = 1 ∧ 0 ≤ O n ∧ O n ≤ 5) ∧
  (K n = 4 → rtF N pa po MN n (Fi n) ∧ PS n 0 = 0 ∧ dl n = 0 ∧ (PS n (MN n) ≤ Z n ∨ Z n = 1000000000000)) ∧
  (K n = 5 → rtF N pa po MN n (Fi n) ∧ PS n 0 = 0 ∧ dl n = 1 ∧ (PS n (MN n) ≤ Z n + 1 ∨ Z n = 1000000000000)) ∧
  (K n = 6 → (0 ≤ Fi n ∧ Fi n < N ∧ pa (Fi n) = n) ∧ (0 ≤ O n ∧ O n ≤ 9) ∧ (Z (Fi n) + (if 0 < O n then 2 else 0) ≤ Z n ∨ Z n = 1000000000000)) ∧
  (K n = 7 → (0 ≤ Fi n ∧ Fi n < N ∧ pa (Fi n) = n) ∧ (0 ≤ Le n ∧ Le n ≤ 100) ∧ (-1 ≤ Mo n ∧ Mo n ≤ 100) ∧ (0 ≤ Mo n → Le n ≤ Mo n) ∧ (Mo n < 0 → (Le n + 1) * Z (Fi n) + 1 ≤ Z n ∨ Z n = 1000000000000) ∧ (0 ≤ Mo n → Mo n * Z (Fi n) + Mo n - Le n ≤ Z n ∨ Z n = 1000000000000))
/-- an open level: its row, its alternatives -/
def rtR (Be : Int → Int) (N : Int) (pa po MN dl : Int → Int) (PS : Int → Int → Int) (c f l : Int) : Prop := rtF N pa po MN c f ∧ PS c 0 = 0 ∧ 0 ≤ PS c (MN c) ∧ (0 ≤ f → (0 ≤ l ∧ l < N) ∧ pa l = c ∧ po l + 1 = MN c) ∧ ∀ i : Int, 0 ≤ i → i < N → pa i = c → Be i = -1 → i = l
def rtL (Be RF RL AF AL SD : Int → Int) (N : Int) (pa po MN dl ht hh : Int → Int) (PS : Int → Int → Int) (d : Int) : Prop := rtR Be N pa po MN dl PS (-2 - 2 * d) (RF d) (RL d) ∧ rtR Be N pa po MN dl PS (-3 - 2 * d) (AF d) (AL d) ∧ dl (-2 - 2 * d) = 0 ∧ dl (-3 - 2 * d) = 1 ∧ (∀ i : Int, 0 ≤ i → i < N → (pa i = -2 - 2 * d → ht i ≤ 31 - d ∧ hh i ≤ 121 - 4 * d) ∧ (pa i = -3 - 2 * d → ht i ≤ 31 - d ∧ hh i ≤ 122 - 4 * d)) ∧ (SD d = 1 → 0 ≤ RF d ∧ ht (RL d) ≤ 30 - d ∧ hh (RL d) ≤ 120 - 4 * d)
def rtG (K O Fi Be Le Mo Z SM RF RL AF AL SD : Int → Int) (N ns lv : Int) (pa po MN dl st ht hh : Int → Int) (PS : Int → Int → Int) (T : Int) : Prop := (0 ≤ N ∧ (0 ≤ T ∧ T ≤ N) ∧ 0 ≤ lv ∧ lv ≤ 31) ∧ (∀ i : Int, 0 ≤ i → i < N → rtA Be Z N lv pa po MN dl PS i ∧ rtH K Mo pa po st ht hh T i ∧ rtC K O Fi Le Mo Z SM N ns pa po MN dl PS i) ∧ ∀ d : Int, 0 ≤ d → d < lv → rtL Be RF RL AF AL SD N pa po MN dl ht hh PS d
/-- dn: a node that has no place yet (-1: none), with at most dh loops within -/
def rtr (K O Fi Be Le Mo Z SM RF RL AF AL SD : Int → Int) (N ns lv dn dh : Int) : Prop := ∃ (pa po MN dl st ht hh : Int → Int) (PS : Int → Int → Int) (T : Int), rtG K O Fi Be Le Mo Z SM RF RL AF AL SD N ns lv pa po MN dl st ht hh PS T ∧ (0 ≤ dn → dn < N ∧ pa dn = -1 ∧ ht dn ≤ dh ∧ hh dn + (if K dn = 4 then 2 else if K dn = 5 then 1 else 0) ≤ 4 * dh ∧ ∀ i : Int, 0 ≤ i → i < N → ¬ i = dn → st i < st dn)
section Trees
variable {K O Fi Be Le Mo Z SM RF RL AF AL SD : Int → Int} {N ns lv dn dh : Int}
theorem rtr_nil (h : 0 ≤ 0) : rtr K O Fi Be Le Mo Z SM RF RL AF AL SD 0 ns 0 (-1) 0 := ⟨fun _ => 0, fun _ => 0, fun _ => 0, fun _ => 0, fun _ => 0, fun _ => 0, fun _ => 0, fun _ _ => 0, 0, ⟨by omega, fun i a c => by omega, fun d a c => by omega⟩, fun h => by omega⟩
/-- a level is opened -/
theorem rtr_open {v w : Int} (h : rtr K O Fi Be Le Mo Z SM RF RL AF AL SD N ns lv dn dh) (hl : lv ≤ 30) : rtr K O Fi Be Le Mo Z SM (zu RF lv (-1)) RL (zu AF lv (-1)) AL (zu SD lv 0) N ns (lv + 1) dn dh := by
  obtain ⟨pa, po, MN, dl, st, ht, hh, PS, T, ⟨g0, g1, g2⟩, hd⟩ := h
  have hp : ∀ i : Int, 0 ≤ i → i < N → ¬ pa i = -2 - 2 * lv ∧ ¬ pa i = -3 - 2 * lv := fun i a c => by
    have := (g1 i a c).1.2.2.1; omega
  refine ⟨pa, po, zu (zu MN (-2 - 2 * lv) 0) (-3 - 2 * lv) 0, zu (zu dl (-2 - 2 * lv) 0) (-3 - 2 * lv) 1, st, ht, hh, fun c p => if c = -2 - 2 * lv ∨ c = -3 - 2 * lv then 0 else PS c p, T, ⟨by omega, fun i a c => ?_, fun d a c => ?_⟩, hd⟩
  · obtain ⟨hA, hH, hC⟩ := g1 i a c
    have q := hp i a c
    refine ⟨?_, hH, ?_⟩
    · obtain ⟨a1, a2, a3, a4⟩ := hA
      refine ⟨a1, a2, by omega, ?_⟩
      rcases a4 with a4 | a4
      · exact Or.inl a4
      · refine Or.inr ?_
        simp only [if_neg (show ¬ (pa i = -2 - 2 * lv ∨ pa i = -3 - 2 * lv) by omega), zu_ne (show pa i ≠ -3 - 2 * lv by omega), zu_ne (show pa i ≠ -2 - 2 * lv by omega)]
        exact a4
    · unfold rtC rtF at *
      simp only [if_neg (show ¬ (i = -2 - 2 * lv ∨ i = -3 - 2 * lv) by omega), zu_ne (show i ≠ -3 - 2 * lv by omega), zu_ne (show i ≠ -2 - 2 * lv by omega)]
      exact hC
  · by_cases e : d = lv
    · subst e
      unfold rtL rtR rtF
      simp only [zu_self, zu_ne (show (-2 - 2 * d) ≠ (-3 - 2 * d) by omega), if_pos (show (-2 - 2 * d = -2 - 2 * d ∨ -2 - 2 * d = -3 - 2 * d) from Or.inl rfl), if_pos (show (-3 - 2 * d = -2 - 2 * d ∨ -3 - 2 * d = -3 - 2 * d) from Or.inr rfl)]
      refine ⟨⟨Or.inl ⟨by decide, trivial⟩, by simp, by simp, (fun q => by omega), fun i i0 i1 q => absurd q (hp i i0 i1).1⟩, ⟨Or.inl ⟨by decide, trivial⟩, by simp, by simp, (fun q => by omega), fun i i0 i1 q => absurd q (hp i i0 i1).2⟩, trivial, trivial, fun i i0 i1 => ⟨fun q => absurd q (hp i i0 i1).1, fun q => absurd q (hp i i0 i1).2⟩, fun q => by omega⟩
    · have hL := g2 d a (by omega)
      unfold rtL rtR rtF at *
      simp only [zu_ne e, zu_ne (show (-2 - 2 * d) ≠ (-3 - 2 * lv) by omega), zu_ne (show (-2 - 2 * d) ≠ (-2 - 2 * lv) by omega), zu_ne (show (-3 - 2 * d) ≠ (-3 - 2 * lv) by omega), zu_ne (show (-3 - 2 * d) ≠ (-2 - 2 * lv) by omega), if_neg (show ¬ (-2 - 2 * d = -2 - 2 * lv ∨ -2 - 2 * d = -3 - 2 * lv) by omega), if_neg (show ¬ (-3 - 2 * d = -2 - 2 * lv ∨ -3 - 2 * d = -3 - 2 * lv) by omega)]
      exact hL
/-- a leaf is made -/
theorem rtr_leaf {k o z : Int} (h : rtr K O Fi Be Le Mo Z SM RF RL AF AL SD N ns lv (-1) dh) (hz : 0 ≤ z ∧ z ≤ 1000000) (hk : (k = 0 ∧ z = 0) ∨ (k = 1 ∧ 0 ≤ o ∧ o < ns ∧ 1 ≤ z ∧ SM o ≤ z) ∨ (k = 2 ∧ z = 1) ∨ (k = 3 ∧ z = 1 ∧ 0 ≤ o ∧ o ≤ 5)) : rtr (zu K N k) (zu O N o) (zu Fi N (-1)) (zu Be N (-1)) Le Mo (zu Z N z) SM RF RL AF AL SD (N + 1) ns lv N 0 := by
  obtain ⟨pa, po, MN, dl, st, ht, hh, PS, T, ⟨g0, g1, g2⟩, hd⟩ := h
  refine ⟨zu pa N (-1), po, MN, dl, zu st N T, zu ht N 0, zu hh N 0, PS, T + 1, ⟨by omega, fun i a c => ?_, fun d a c => ?_⟩, fun _ => ⟨by omega, zu_self _ _ _, by rw [zu_self]; omega, by rw [zu_self, zu_self, if_neg (by omega), if_neg (by omega)]; omega, fun i i0 i1 i2 => by rw [zu_ne i2, zu_self]; have := (g1 i i0 (by omega)).2.1.1; omega⟩⟩
  · by_cases e : i = N
    · subst e
      unfold rtA rtH rtC
      simp only [zu_self]
      refine ⟨⟨by omega, by omega, by omega, Or.inl ⟨trivial, trivial⟩⟩, ⟨⟨by omega, by omega, fun q => absurd trivial q⟩, ⟨by omega, by omega, fun q => by omega⟩, fun q => by omega⟩, by omega, fun q => by omega, fun q => by omega, fun q => by omega, fun q => by omega, fun q => by omega, fun q => by omega, fun q => by omega, fun q => by omega⟩
    · obtain ⟨hA, hH, hC⟩ := g1 i a (by omega)
      have b := hA.2.1
      have p := hA.2.2.1
      unfold rtA rtH rtC rtF at *
      simp only [zu_ne e]
      refine ⟨⟨hA.1, by omega, by omega, ?_⟩, ⟨⟨hH.1.1, by omega, hH.1.2.2⟩, hH.2.1, fun q => ?_⟩, ?_⟩
      · rcases hA.2.2.2 with t | t
        · exact Or.inl t
        · refine Or.inr ⟨t.1, t.2.1, t.2.2.1, t.2.2.2.1, t.2.2.2.2.1, fun q => ?_⟩
          rw [zu_ne (show Be i ≠ N by omega)]; exact t.2.2.2.2.2 q
      · have := hH.2.2 q
        rw [zu_ne (show pa i ≠ N by omega), zu_ne (show pa i ≠ N by omega), zu_ne (show pa i ≠ N by omega), zu_ne (show pa i ≠ N by omega)]; exact this
      · obtain ⟨c0, c1, c2, c3, c4, c5, c6, c7, c8⟩ := hC
        refine ⟨c0, c1, c2, c3, c4, fun q => ?_, fun q => ?_, fun q => ?_, fun q => ?_⟩
        · obtain ⟨t, u⟩ := c5 q
          refine ⟨?_, u⟩
          rcases t with t | t
          · exact Or.inl t
          · exact Or.inr ⟨by omega, by rw [zu_ne (show Fi i ≠ N by omega)]; exact t.2⟩
        · obtain ⟨t, u⟩ := c6 q
          refine ⟨?_, u⟩
          rcases t with t | t
          · exact Or.inl t
          · exact Or.inr ⟨by omega, by rw [zu_ne (show Fi i ≠ N by omega)]; exact t.2⟩
        · obtain ⟨t, u, w⟩ := c7 q
          have e2 : Fi i ≠ N := by omega
          rw [zu_ne e2, zu_ne e2]
          exact ⟨⟨t.1, by omega, t.2.2⟩, u, w⟩
        · obtain ⟨t, u⟩ := c8 q
          have e2 : Fi i ≠ N := by omega
          rw [zu_ne e2, zu_ne e2]
          exact ⟨⟨t.1, by omega, t.2.2⟩, u⟩
  · obtain ⟨l1, l2, l3, l4, l5, l6⟩ := g2 d a c
    have up : ∀ c f l : Int, rtR Be N pa po MN dl PS c f l → ¬ c = -1 → rtR (zu Be N (-1)) (N + 1) (zu pa N (-1)) po MN dl PS c f l := by
      rintro c f l ⟨r1, r2, r3, r4, r5⟩ hc
      refine ⟨?_, r2, r3, fun q => ?_, fun i i0 i1 q1 q2 => ?_⟩
      · rcases r1 with t | t
        · exact Or.inl t
        · exact Or.inr ⟨by omega, by rw [zu_ne (show f ≠ N by omega)]; exact t.2⟩
      · have := r4 q
        rw [zu_ne (show l ≠ N by omega)]; exact ⟨by omega, this.2⟩
      · by_cases e : i = N
        · subst e; rw [zu_self] at q1; omega
        · rw [zu_ne e] at q1 q2; exact r5 i i0 (by omega) q1 q2
    refine ⟨up _ _ _ l1 (by omega), up _ _ _ l2 (by omega), l3, l4, fun i i0 i1 => ?_, fun q => ?_⟩
    · by_cases e : i = N
      · subst e; rw [zu_self]; exact ⟨fun q => by omega, fun q => by omega⟩
      · rw [zu_ne e, zu_ne e, zu_ne e]; exact l5 i i0 (by omega)
    · obtain ⟨q1, q2⟩ := l6 q
      have := (l1.2.2.2.1 q1).1
      rw [zu_ne (show RL d ≠ N by omega), zu_ne (show RL d ≠ N by omega)]; exact ⟨q1, q2⟩
end Trees
section Trees2
variable {K O Fi Be Le Mo Z SM RF RL AF AL SD : Int → Int} {N ns lv dn dh : Int} {pa po MN dl st ht hh : Int → Int} {PS : Int → Int → Int} {T : Int}
/-- n, which has no place, becomes the last of list c -/
def psu (PS : Int → Int → Int) (c q v : Int) : Int → Int → Int := fun a p => if a = c ∧ p = q then v else PS a p
theorem psu_ne {c q v a p : Int} (h : ¬ (a = c ∧ p = q)) : psu PS c q v a p = PS a p := if_neg h
theorem psu_self {c q v : Int} : psu PS c q v c q = v := if_pos ⟨rfl, rfl⟩
/-- what is appended: Be2 is Be, or Be with l's next set to n -/
theorem app_A {Be2 : Int → Int} {c n f l v : Int} (hA : ∀ i : Int, 0 ≤ i → i < N → rtA Be Z N lv pa po MN dl PS i) (hR : rtR Be N pa po MN dl PS c f l) (hn : 0 ≤ n ∧ n < N) (hp : pa n = -1) (hc : -1 - 2 * lv ≤ c ∧ c < -1) (hb : (f < 0 ∧ Be2 = Be) ∨ (0 ≤ f ∧ Be2 = zu Be l n)) (hv : v = PS c (MN c) + Z n + dl c) (hd : 0 ≤ dl c) : ∀ i : Int, 0 ≤ i → i < N → rtA Be2 Z N lv (zu pa n c) (zu po n (MN c)) (zu MN c (MN c + 1)) dl (psu PS c (MN c + 1) v) i := by
  intro i a e
  obtain ⟨r1, r2, r3, r4, r5⟩ := hR
  have hm : 0 ≤ MN c := by rcases r1 with t | t <;> omega
  by_cases q : i = n
  · subst q
    obtain ⟨a1, a2, a3, a4⟩ := hA i a e
    have bn : Be2 i = -1 := by
      have b0 : Be i = -1 := by rcases a4 with t | t; (exact t.2); (exact absurd hp t.1)
      rcases hb with t | t
      · rw [t.2]; exact b0
      · rw [t.2, zu_ne (fun q => by have := (r4 t.1).2.1; rw [← q] at this; omega)]; exact b0
    unfold rtA
    rw [zu_self, zu_self, zu_self, psu_self, psu_ne (by omega), bn]
    exact ⟨a1, by omega, by omega, Or.inr ⟨by omega, by omega, r3, hv, fun _ => rfl, fun t => by omega⟩⟩
  · obtain ⟨a1, a2, a3, a4⟩ := hA i a e
    have hbi : Be2 i = Be i ∨ (i = l ∧ 0 ≤ f ∧ Be2 i = n) := by
      rcases hb with t | t
      · rw [t.2]; exact Or.inl rfl
      · by_cases z : i = l
        · rw [t.2, z, zu_self]; exact Or.inr ⟨rfl, t.1, rfl⟩
        · rw [t.2, zu_ne z]; exact Or.inl rfl
    unfold rtA
    rw [zu_ne q, zu_ne q]
    refine ⟨a1, by rcases hbi with t | t <;> omega, a3, ?_⟩
    rcases a4 with ⟨t1, t2⟩ | ⟨t1, t2, t3, t4, t5, t6⟩
    · refine Or.inl ⟨t1, ?_⟩
      rcases hbi with z | z
      · omega
      · have := (r4 z.2.1).2.1; rw [← z.1] at this; omega
    · refine Or.inr ⟨t1, ?_⟩
      by_cases y : pa i = c
      · rw [y] at t2 t3 t4 t5 t6 ⊢
        rw [zu_self, psu_ne (by omega), psu_ne (by omega)]
        refine ⟨by omega, t3, t4, fun u => ?_, fun u => ?_⟩
        · rcases hbi with z | z
          · rw [z] at u
            have il := r5 i a e y u
            rcases hb with w | w
            · have : MN c = 0 := by rcases r1 with s | s <;> omega
              omega
            · rw [il, w.2, zu_self] at z
              rw [il] at u
              omega
          · omega
        · rcases hbi with z | z
          · rw [z] at u ⊢
            have := t6 u
            have bn : Be i ≠ n := fun s => by rw [s, hp] at this; omega
            rw [zu_ne bn, zu_ne bn]; exact this
          · rw [z.2.2, zu_self, zu_self]
            have := (r4 z.2.1).2.2
            rw [z.1]
            exact ⟨rfl, by omega⟩
      · rw [zu_ne y, psu_ne (by omega), psu_ne (by omega)]
        have hbe : Be2 i = Be i := by
          rcases hbi with z | z
          · exact z
          · have := (r4 z.2.1).2.1; rw [← z.1] at this; exact absurd this y
        rw [hbe]
        refine ⟨t2, t3, t4, t5, fun u => ?_⟩
        have := t6 u
        have bn : Be i ≠ n := fun s => by rw [s, hp] at this; omega
        rw [zu_ne bn, zu_ne bn]; exact this
theorem app_C2 {c n v w u q : Int} {i : Int} (hC : rtC K O Fi Le Mo Z SM N ns pa po MN dl PS i) (hi : 0 ≤ i) (hp : pa n = -1) (hc : c < -1) : rtC K O Fi Le Mo Z SM N ns (zu pa n c) (zu po n v) (zu MN c w) dl (psu PS c q u) i := by
  obtain ⟨c0, c1, c2, c3, c4, c5, c6, c7, c8⟩ := hC
  have ps : ∀ p : Int, psu PS c q u i p = PS i p := fun p => psu_ne (by omega)
  have mn : zu MN c w i = MN i := zu_ne (by omega)
  have fr : ∀ f : Int, pa f = i → zu pa n c f = i ∧ zu po n v f = po f := fun f h => by
    have e : f ≠ n := fun z => by rw [z, hp] at h; omega
    rw [zu_ne e, zu_ne e]; exact ⟨h, rfl⟩
  have rf : rtF N pa po MN i (Fi i) → rtF N (zu pa n c) (zu po n v) (zu MN c w) i (Fi i) := by
    rintro (t | ⟨t1, t2, t3, t4⟩)
    · exact Or.inl ⟨t.1, by rw [mn]; exact t.2⟩
    · exact Or.inr ⟨t1, (fr _ t2).1, by rw [(fr _ t2).2]; exact t3, by rw [mn]; exact t4⟩
  refine ⟨c0, c1, c2, c3, c4, fun h => ?_, fun h => ?_, fun h => ?_, fun h => ?_⟩
  · obtain ⟨t1, t2, t3, t4⟩ := c5 h
    rw [ps, ps, mn]; exact ⟨rf t1, t2, t3, t4⟩
  · obtain ⟨t1, t2, t3, t4⟩ := c6 h
    rw [ps, ps, mn]; exact ⟨rf t1, t2, t3, t4⟩
  · obtain ⟨t1, t2⟩ := c7 h
    exact ⟨⟨t1.1, t1.2.1, (fr _ t1.2.2).1⟩, t2⟩
  · obtain ⟨t1, t2⟩ := c8 h
    exact ⟨⟨t1.1, t1.2.1, (fr _ t1.2.2).1⟩, t2⟩
theorem app_H {c n : Int} {i v : Int} (hH : rtH K Mo pa po st ht hh T i) (hv : v ≤ st n) (hc : c < -1) : rtH K Mo (zu pa n c) (zu po n v) st ht hh T i := by
  obtain ⟨h1, h2, h3⟩ := hH
  refine ⟨⟨h1.1, h1.2.1, fun q => ?_⟩, h2, fun q => ?_⟩
  · by_cases e : i = n
    · subst e; rw [zu_self]; exact hv
    · rw [zu_ne e] at q ⊢; exact h1.2.2 q
  by_cases e : i = n
  · subst e; rw [zu_self] at q; omega
  · rw [zu_ne e] at q ⊢; exact h3 q
/-- another list stays -/
theorem app_R {Be2 : Int → Int} {c n f l f2 l2 v w u q c2 : Int} (hR2 : rtR Be N pa po MN dl PS c2 f2 l2) (hR : rtR Be N pa po MN dl PS c f l) (hp : pa n = -1) (hn : 0 ≤ n) (hc : c2 < -1 ∧ ¬ c2 = c) (hb : (f < 0 ∧ Be2 = Be) ∨ (0 ≤ f ∧ Be2 = zu Be l n)) : rtR Be2 N (zu pa n c) (zu po n v) (zu MN c w) dl (psu PS c q u) c2 f2 l2 := by
  obtain ⟨r1, r2, r3, r4, r5⟩ := hR2
  have ps : ∀ p : Int, psu PS c q u c2 p = PS c2 p := fun p => psu_ne (by omega)
  have mn : zu MN c w c2 = MN c2 := zu_ne (by omega)
  have fr : ∀ f : Int, pa f = c2 → zu pa n c f = c2 ∧ zu po n v f = po f := fun f h => by
    have e : f ≠ n := fun z => by rw [z, hp] at h; omega
    rw [zu_ne e, zu_ne e]; exact ⟨h, rfl⟩
  refine ⟨?_, by rw [ps]; exact r2, by rw [mn, ps]; exact r3, fun h => ?_, fun i i0 i1 h h2 => ?_⟩
  · rcases r1 with t | ⟨t1, t2, t3, t4⟩
    · exact Or.inl ⟨t.1, by rw [mn]; exact t.2⟩
    · exact Or.inr ⟨t1, (fr _ t2).1, by rw [(fr _ t2).2]; exact t3, by rw [mn]; exact t4⟩
  · obtain ⟨t1, t2, t3⟩ := r4 h
    exact ⟨t1, (fr _ t2).1, by rw [(fr _ t2).2, mn]; exact t3⟩
  · have e : i ≠ n := fun z => by rw [z, zu_self] at h; omega
    rw [zu_ne e] at h
    refine r5 i i0 i1 h ?_
    rcases hb with t | t
    · rw [← t.2]; exact h2
    · have e2 : i ≠ l := fun z => by have := (hR.2.2.2.1 t.1).2.1; rw [← z] at this; omega
      rw [t.2, zu_ne e2] at h2; exact h2
/-- the list that grows -/
theorem app_S {Be2 : Int → Int} {c n f l v : Int} (hA : ∀ i : Int, 0 ≤ i → i < N → rtA Be Z N lv pa po MN dl PS i) (hR : rtR Be N pa po MN dl PS c f l) (hp : pa n = -1) (hn : 0 ≤ n ∧ n < N) (hc : c < -1) (hb : (f < 0 ∧ Be2 = Be) ∨ (0 ≤ f ∧ Be2 = zu Be l n)) (hv : 0 ≤ v) {f2 : Int} (hf2 : (f < 0 ∧ f2 = n) ∨ (0 ≤ f ∧ f2 = f)) : rtR Be2 N (zu pa n c) (zu po n (MN c)) (zu MN c (MN c + 1)) dl (psu PS c (MN c + 1) v) c f2 n := by
  obtain ⟨r1, r2, r3, r4, r5⟩ := hR
  have hm : 0 ≤ MN c := by rcases r1 with t | t <;> omega
  refine ⟨?_, by rw [psu_ne (by omega)]; exact r2, by rw [zu_self, psu_self]; exact hv, fun _ => ⟨hn, zu_self _ _ _, by rw [zu_self, zu_self]⟩, fun i i0 i1 h h2 => ?_⟩
  · rcases hf2 with t | t
    · refine Or.inr ⟨by omega, ?_⟩
      rw [t.2, zu_self, zu_self, zu_self]
      have : MN c = 0 := by rcases r1 with s | s <;> omega
      exact ⟨rfl, this, by omega⟩
    · rcases r1 with s | ⟨s1, s2, s3, s4⟩
      · omega
      · have e : f ≠ n := fun z => by rw [z, hp] at s2; omega
        refine Or.inr ⟨by omega, ?_⟩
        rw [t.2, zu_ne e, zu_ne e, zu_self]
        exact ⟨s2, s3, by omega⟩
  · by_cases e : i = n
    · exact e
    · exfalso
      rw [zu_ne e] at h
      rcases hb with t | t
      · have : MN c = 0 := by rcases r1 with s | s <;> omega
        rcases (hA i i0 i1).2.2.2 with y | y
        · omega
        · have := y.2.1; rw [h] at this; omega
      · by_cases e2 : i = l
        · rw [e2, t.2, zu_self] at h2; omega
        · rw [t.2, zu_ne e2] at h2; exact e2 (r5 i i0 i1 h h2)
end Trees2
section Trees3
variable {K O Fi Be Le Mo Z SM RF RL AF AL SD : Int → Int} {N ns lv dn dh : Int} {pa po MN dl st ht hh : Int → Int} {PS : Int → Int → Int} {T : Int}
/-- a part is put at the end of the open row -/
theorem rtr_part {Be2 RF2 : Int → Int} {d n s : Int} (h : rtr K O Fi Be Le Mo Z SM RF RL AF AL SD N ns (d + 1) n dh) (hd : 0 ≤ d) (hn : 0 ≤ n) (hb : (RF d < 0 ∧ Be2 = Be ∧ RF2 = zu RF d n) ∨ (0 ≤ RF d ∧ Be2 = zu Be (RL d) n ∧ RF2 = RF)) (hK : ¬ K n = 4 ∧ ¬ K n = 5) (hhd : dh ≤ 30 - d) : rtr K O Fi Be2 Le Mo Z SM RF2 (zu RL d n) AF AL (zu SD d s) N ns (d + 1) (-1) 0 := by
  obtain ⟨pa, po, MN, dl, st, ht, hh, PS, T, ⟨g0, g1, g2⟩, hdn⟩ := h
  obtain ⟨d1, d2, d3, d4, d5⟩ := hdn hn
  rw [if_neg hK.1, if_neg hK.2] at d4
  obtain ⟨l1, l2, l3, l4, l5, l6⟩ := g2 d hd (by omega)
  have hb2 : (RF d < 0 ∧ Be2 = Be) ∨ (0 ≤ RF d ∧ Be2 = zu Be (RL d) n) := by
    rcases hb with t | t
    · exact Or.inl ⟨t.1, t.2.1⟩
    · exact Or.inr ⟨t.1, t.2.1⟩
  have hA := fun i a c => (g1 i a c).1
  have zn := (g1 n hn d1).1.1
  have hmv : MN (-2 - 2 * d) ≤ st n := by
    have s0 := (g1 n hn d1).2.1.1.1
    rcases Int.lt_or_le (RF d) 0 with q | q
    · rcases l1.1 with t | t <;> omega
    · obtain ⟨u1, u2, u3⟩ := l1.2.2.2.1 q
      have u4 := (g1 _ u1.1 u1.2).2.1.1.2.2 (by omega)
      have u5 := d5 _ u1.1 u1.2 (fun z => by rw [z, d2] at u2; omega)
      omega
  refine ⟨zu pa n (-2 - 2 * d), zu po n (MN (-2 - 2 * d)), zu MN (-2 - 2 * d) (MN (-2 - 2 * d) + 1), dl, st, ht, hh, psu PS (-2 - 2 * d) (MN (-2 - 2 * d) + 1) (PS (-2 - 2 * d) (MN (-2 - 2 * d)) + Z n + dl (-2 - 2 * d)), T, ⟨g0, fun i a c => ⟨app_A hA l1 ⟨hn, d1⟩ d2 (by omega) hb2 rfl (by omega) i a c, app_H (g1 i a c).2.1 hmv (by omega), app_C2 (g1 i a c).2.2 a d2 (by omega)⟩, fun e e0 e1 => ?_⟩, fun q => by omega⟩
  have hR2 : RF2 e = RF e ∨ e = d := by
    rcases hb with t | t
    · by_cases z : e = d
      · exact Or.inr z
      · rw [t.2.2, zu_ne z]; exact Or.inl rfl
    · rw [t.2.2]; exact Or.inl rfl
  obtain ⟨m1, m2, m3, m4, m5, m6⟩ := g2 e e0 e1
  have ht5 : ∀ i : Int, 0 ≤ i → i < N → (zu pa n (-2 - 2 * d) i = -2 - 2 * e → ht i ≤ 31 - e ∧ hh i ≤ 121 - 4 * e) ∧ (zu pa n (-2 - 2 * d) i = -3 - 2 * e → ht i ≤ 31 - e ∧ hh i ≤ 122 - 4 * e) := fun i i0 i1 => by
    by_cases z : i = n
    · subst z; rw [zu_self]; exact ⟨fun q => by omega, fun q => by omega⟩
    · rw [zu_ne z]; exact m5 i i0 i1
  by_cases z : e = d
  · subst z
    refine ⟨?_, app_R m2 l1 d2 hn (by omega) hb2, m3, m4, ht5, fun q => ?_⟩
    · rw [zu_self]
      refine app_S hA l1 d2 ⟨hn, d1⟩ (by omega) hb2 (by have := l1.2.2.1; omega) ?_
      rcases hb with t | t
      · exact Or.inl ⟨t.1, by rw [t.2.2, zu_self]⟩
      · exact Or.inr ⟨t.1, by rw [t.2.2]⟩
    · rw [zu_self] at q ⊢
      refine ⟨?_, by omega, by omega⟩
      rcases hb with t | t
      · rw [t.2.2, zu_self]; exact hn
      · rw [t.2.2]; exact t.1
  · have r : RF2 e = RF e := hR2.resolve_right z
    unfold rtL
    rw [r, zu_ne z, zu_ne z]
    exact ⟨app_R m1 l1 d2 hn (by omega) hb2, app_R m2 l1 d2 hn (by omega) hb2, m3, m4, ht5, m6⟩
/-- a row is put at the end of the alternatives -/
theorem rtr_alt {Be2 AF2 : Int → Int} {d n : Int} (h : rtr K O Fi Be Le Mo Z SM RF RL AF AL SD N ns (d + 1) n dh) (hd : 0 ≤ d) (hn : 0 ≤ n) (hb : (AF d < 0 ∧ Be2 = Be ∧ AF2 = zu AF d n) ∨ (0 ≤ AF d ∧ Be2 = zu Be (AL d) n ∧ AF2 = AF)) (hK : K n = 4) (hhd : dh ≤ 31 - d) : rtr K O Fi Be2 Le Mo Z SM RF RL AF2 (zu AL d n) SD N ns (d + 1) (-1) 0 := by
  obtain ⟨pa, po, MN, dl, st, ht, hh, PS, T, ⟨g0, g1, g2⟩, hdn⟩ := h
  obtain ⟨d1, d2, d3, d4, d5⟩ := hdn hn
  rw [if_pos hK] at d4
  obtain ⟨l1, l2, l3, l4, l5, l6⟩ := g2 d hd (by omega)
  have hb2 : (AF d < 0 ∧ Be2 = Be) ∨ (0 ≤ AF d ∧ Be2 = zu Be (AL d) n) := by
    rcases hb with t | t
    · exact Or.inl ⟨t.1, t.2.1⟩
    · exact Or.inr ⟨t.1, t.2.1⟩
  have hA := fun i a c => (g1 i a c).1
  have zn := (g1 n hn d1).1.1
  have hmv : MN (-3 - 2 * d) ≤ st n := by
    have s0 := (g1 n hn d1).2.1.1.1
    rcases Int.lt_or_le (AF d) 0 with q | q
    · rcases l2.1 with t | t <;> omega
    · obtain ⟨u1, u2, u3⟩ := l2.2.2.2.1 q
      have u4 := (g1 _ u1.1 u1.2).2.1.1.2.2 (by omega)
      have u5 := d5 _ u1.1 u1.2 (fun z => by rw [z, d2] at u2; omega)
      omega
  refine ⟨zu pa n (-3 - 2 * d), zu po n (MN (-3 - 2 * d)), zu MN (-3 - 2 * d) (MN (-3 - 2 * d) + 1), dl, st, ht, hh, psu PS (-3 - 2 * d) (MN (-3 - 2 * d) + 1) (PS (-3 - 2 * d) (MN (-3 - 2 * d)) + Z n + dl (-3 - 2 * d)), T, ⟨g0, fun i a c => ⟨app_A hA l2 ⟨hn, d1⟩ d2 (by omega) hb2 rfl (by omega) i a c, app_H (g1 i a c).2.1 hmv (by omega), app_C2 (g1 i a c).2.2 a d2 (by omega)⟩, fun e e0 e1 => ?_⟩, fun q => by omega⟩
  have hR2 : AF2 e = AF e ∨ e = d := by
    rcases hb with t | t
    · by_cases z : e = d
      · exact Or.inr z
      · rw [t.2.2, zu_ne z]; exact Or.inl rfl
    · rw [t.2.2]; exact Or.inl rfl
  obtain ⟨m1, m2, m3, m4, m5, m6⟩ := g2 e e0 e1
  have ht5 : ∀ i : Int, 0 ≤ i → i < N → (zu pa n (-3 - 2 * d) i = -2 - 2 * e → ht i ≤ 31 - e ∧ hh i ≤ 121 - 4 * e) ∧ (zu pa n (-3 - 2 * d) i = -3 - 2 * e → ht i ≤ 31 - e ∧ hh i ≤ 122 - 4 * e) := fun i i0 i1 => by
    by_cases z : i = n
    · subst z; rw [zu_self]; exact ⟨fun q => by omega, fun q => by omega⟩
    · rw [zu_ne z]; exact m5 i i0 i1
  by_cases z : e = d
  · subst z
    refine ⟨app_R m1 l2 d2 hn (by omega) hb2, ?_, m3, m4, ht5, m6⟩
    rw [zu_self]
    refine app_S hA l2 d2 ⟨hn, d1⟩ (by omega) hb2 (by have := l2.2.2.1; omega) ?_
    rcases hb with t | t
    · exact Or.inl ⟨t.1, by rw [t.2.2, zu_self]⟩
    · exact Or.inr ⟨t.1, by rw [t.2.2]⟩
  · have r : AF2 e = AF e := hR2.resolve_right z
    unfold rtL
    rw [r, zu_ne z]
    exact ⟨app_R m1 l2 d2 hn (by omega) hb2, app_R m2 l2 d2 hn (by omega) hb2, m3, m4, ht5, m6⟩
end Trees3
section Trees4
variable {K O Fi Be Le Mo Z SM RF RL AF AL SD : Int → Int} {N ns lv dn dh : Int} {pa po MN dl st ht hh : Int → Int} {PS : Int → Int → Int} {T : Int}
/-- list c becomes the children of a new node N, which has no place yet -/
def pmv (pa : Int → Int) (c N : Int) : Int → Int := fun i => if i = N then -1 else if pa i = c then N else pa i
theorem pmv_N {c : Int} : pmv pa c N N = -1 := if_pos rfl
theorem pmv_c {c i : Int} (h : i ≠ N) (e : pa i = c) : pmv pa c N i = N := by unfold pmv; rw [if_neg h, if_pos e]
theorem pmv_o {c i : Int} (h : i ≠ N) (e : ¬ pa i = c) : pmv pa c N i = pa i := by unfold pmv; rw [if_neg h, if_neg e]
def psm (PS : Int → Int → Int) (c N : Int) : Int → Int → Int := fun a p => if a = N then PS c p else PS a p
theorem psm_N {c p : Int} : psm PS c N N p = PS c p := if_pos rfl
theorem psm_o {c a p : Int} (h : a ≠ N) : psm PS c N a p = PS a p := if_neg h
theorem mv_A {c z : Int} (hN : 0 ≤ N) (hz : 0 ≤ z ∧ z ≤ 1000000000000) (hc : c < -1) (hlv : 0 ≤ lv) {i : Int} (hA : i < N → rtA Be Z N lv pa po MN dl PS i) (h0 : 0 ≤ i) (h1 : i < N + 1) : rtA (zu Be N (-1)) (zu Z N z) (N + 1) lv (pmv pa c N) po (zu (zu MN N (MN c)) c 0) (zu dl N (dl c)) (psm PS c N) i := by
  by_cases e : i = N
  · subst e
    unfold rtA
    rw [zu_self, zu_self, pmv_N]
    exact ⟨hz, by omega, by omega, Or.inl ⟨rfl, rfl⟩⟩
  · obtain ⟨a1, a2, a3, a4⟩ := hA (by omega)
    unfold rtA
    rw [zu_ne e, zu_ne e]
    refine ⟨a1, by omega, ?_, ?_⟩
    · by_cases y : pa i = c
      · rw [pmv_c e y]; omega
      · rw [pmv_o e y]; omega
    · rcases a4 with t | ⟨t1, t2, t3, t4, t5, t6⟩
      · left; rw [pmv_o e (by omega)]; exact t
      · right
        by_cases y : pa i = c
        · rw [pmv_c e y, zu_ne (show N ≠ c by omega), zu_self, zu_self, psm_N, psm_N]
          rw [y] at t2 t3 t4 t5 t6
          refine ⟨by omega, t2, t3, t4, t5, fun u => ?_⟩
          have := t6 u
          exact ⟨pmv_c (by omega) this.1, this.2⟩
        · have yN : pa i ≠ N := by omega
          rw [pmv_o e y, zu_ne (show pa i ≠ c from y), zu_ne yN, zu_ne yN, psm_o yN, psm_o yN]
          refine ⟨t1, t2, t3, t4, t5, fun u => ?_⟩
          have := t6 u
          exact ⟨by rw [pmv_o (by omega) (by omega)]; exact this.1, this.2⟩
theorem mv_C {c k o f z : Int} (hN : 0 ≤ N) (hc : c < -1) (hk : (k = 4 ∧ dl c = 0 ∧ (PS c (MN c) ≤ z ∨ z = 1000000000000)) ∨ (k = 5 ∧ dl c = 1 ∧ (PS c (MN c) ≤ z + 1 ∨ z = 1000000000000))) (hR : rtF N pa po MN c f ∧ PS c 0 = 0) {i : Int} (hC : i < N → rtC K O Fi Le Mo Z SM N ns pa po MN dl PS i) (h0 : 0 ≤ i) (h1 : i < N + 1) : rtC (zu K N k) (zu O N o) (zu Fi N f) Le Mo (zu Z N z) SM (N + 1) ns (pmv pa c N) po (zu (zu MN N (MN c)) c 0) (zu dl N (dl c)) (psm PS c N) i := by
  by_cases e : i = N
  · subst e
    have rf : rtF (i + 1) (pmv pa c i) po (zu (zu MN i (MN c)) c 0) i f := by
      rcases hR.1 with t | ⟨t1, t2, t3, t4⟩
      · exact Or.inl ⟨t.1, by rw [zu_ne (show i ≠ c by omega), zu_self]; exact t.2⟩
      · exact Or.inr ⟨by omega, pmv_c (by omega) t2, t3, by rw [zu_ne (show i ≠ c by omega), zu_self]; exact t4⟩
    unfold rtC
    rw [zu_self, zu_self, zu_self, zu_self, zu_self, zu_ne (show i ≠ c by omega), zu_self, psm_N, psm_N]
    refine ⟨by omega, fun q => by omega, fun q => by omega, fun q => by omega, fun q => by omega, fun q => ⟨rf, hR.2, by omega, by omega⟩, fun q => ⟨rf, hR.2, by omega, by omega⟩, fun q => by omega, fun q => by omega⟩
  · obtain ⟨c0, c1, c2, c3, c4, c5, c6, c7, c8⟩ := hC (by omega)
    have ps : ∀ p : Int, psm PS c N i p = PS i p := fun p => psm_o e
    have mn : zu (zu MN N (MN c)) c 0 i = MN i := by rw [zu_ne (by omega), zu_ne e]
    have dle : zu dl N (dl c) i = dl i := zu_ne e
    have fr : ∀ f : Int, f < N → pa f = i → pmv pa c N f = i := fun f hf h => by rw [pmv_o (by omega) (by omega)]; exact h
    have rf : rtF N pa po MN i (Fi i) → rtF (N + 1) (pmv pa c N) po (zu (zu MN N (MN c)) c 0) i (Fi i) := by
      rintro (t | ⟨t1, t2, t3, t4⟩)
      · exact Or.inl ⟨t.1, by rw [mn]; exact t.2⟩
      · exact Or.inr ⟨by omega, fr _ t1.2 t2, t3, by rw [mn]; exact t4⟩
    unfold rtC
    rw [zu_ne e, zu_ne e, zu_ne e, zu_ne e, ps, ps, mn, dle]
    refine ⟨c0, c1, c2, c3, c4, fun h => ?_, fun h => ?_, fun h => ?_, fun h => ?_⟩
    · obtain ⟨t1, t2⟩ := c5 h; exact ⟨rf t1, t2⟩
    · obtain ⟨t1, t2⟩ := c6 h; exact ⟨rf t1, t2⟩
    · obtain ⟨t1, t2⟩ := c7 h
      rw [zu_ne (show Fi i ≠ N by omega)]
      exact ⟨⟨t1.1, by omega, fr _ t1.2.1 t1.2.2⟩, t2⟩
    · obtain ⟨t1, t2⟩ := c8 h
      rw [zu_ne (show Fi i ≠ N by omega)]
      exact ⟨⟨t1.1, by omega, fr _ t1.2.1 t1.2.2⟩, t2⟩
theorem mv_H {c k b b2 : Int} (hN : 0 ≤ N ∧ 0 ≤ T ∧ 1 ≤ b ∧ 0 ≤ b2) (hk : ¬ k = 7) {i : Int} (hc : c < -1) (hH : i < N → rtH K Mo pa po st ht hh T i ∧ pa i < N) (hb : i < N → pa i = c → ht i ≤ b ∧ hh i + 1 ≤ b2) (h0 : 0 ≤ i) (h1 : i < N + 1) : rtH (zu K N k) Mo (pmv pa c N) po (zu st N T) (zu ht N b) (zu hh N b2) (T + 1) i := by
  by_cases e : i = N
  · subst e
    unfold rtH
    rw [zu_self, zu_self, zu_self, zu_self, pmv_N]
    exact ⟨⟨by omega, by omega, fun q => absurd rfl q⟩, ⟨by omega, by omega, fun _ => by omega⟩, fun q => by omega⟩
  · obtain ⟨⟨t1, t2, t3⟩, t4⟩ := hH (by omega)
    have b3 := hb (by omega)
    unfold rtH
    rw [zu_ne e, zu_ne e, zu_ne e, zu_ne e]
    refine ⟨⟨t1.1, by omega, fun q => t1.2.2 (fun z => q (by rw [pmv_o e (by omega)]; exact z))⟩, t2, fun q => ?_⟩
    by_cases y : pa i = c
    · rw [pmv_c e y, zu_self, zu_self, zu_self, zu_self]
      exact ⟨t1.2.1, (b3 y).1, (b3 y).2, fun z => absurd z hk⟩
    · rw [pmv_o e y] at q ⊢
      have yN : pa i ≠ N := by omega
      rw [zu_ne yN, zu_ne yN, zu_ne yN, zu_ne yN]
      exact t3 q
theorem mv_R {c c2 f2 l2 : Int} (hN : 0 ≤ N) (hc : c2 < -1 ∧ ¬ c2 = c) (hR : rtR Be N pa po MN dl PS c2 f2 l2) : rtR (zu Be N (-1)) (N + 1) (pmv pa c N) po (zu (zu MN N (MN c)) c 0) (zu dl N (dl c)) (psm PS c N) c2 f2 l2 := by
  obtain ⟨r1, r2, r3, r4, r5⟩ := hR
  have ps : ∀ p : Int, psm PS c N c2 p = PS c2 p := fun p => psm_o (by omega)
  have mn : zu (zu MN N (MN c)) c 0 c2 = MN c2 := by rw [zu_ne (by omega), zu_ne (by omega)]
  have fr : ∀ f : Int, f < N → pa f = c2 → pmv pa c N f = c2 := fun f hf h => by rw [pmv_o (by omega) (by omega)]; exact h
  refine ⟨?_, by rw [ps]; exact r2, by rw [mn, ps]; exact r3, fun h => ?_, fun i i0 i1 h h2 => ?_⟩
  · rcases r1 with t | ⟨t1, t2, t3, t4⟩
    · exact Or.inl ⟨t.1, by rw [mn]; exact t.2⟩
    · exact Or.inr ⟨by omega, fr _ t1.2 t2, t3, by rw [mn]; exact t4⟩
  · obtain ⟨t1, t2, t3⟩ := r4 h
    exact ⟨by omega, fr _ t1.2 t2, by rw [mn]; exact t3⟩
  · by_cases e : i = N
    · subst e; rw [pmv_N] at h; omega
    · by_cases y : pa i = c
      · rw [pmv_c e y] at h; omega
      · rw [pmv_o e y] at h
        rw [zu_ne e] at h2
        exact r5 i i0 (by omega) h h2
theorem mv_E {c f2 l2 : Int} (hN : 0 ≤ N) (hc : c < -1) (h0 : PS c 0 = 0) (hf : f2 < 0) : rtR (zu Be N (-1)) (N + 1) (pmv pa c N) po (zu (zu MN N (MN c)) c 0) (zu dl N (dl c)) (psm PS c N) c f2 l2 := by
  refine ⟨Or.inl ⟨hf, zu_self _ _ _⟩, by rw [psm_o (by omega)]; exact h0, by rw [zu_self, psm_o (by omega), h0]; omega, fun h => by omega, fun i i0 i1 h h2 => ?_⟩
  exfalso
  by_cases e : i = N
  · subst e; rw [pmv_N] at h; omega
  · by_cases y : pa i = c
    · rw [pmv_c e y] at h; omega
    · rw [pmv_o e y] at h; exact y h
theorem mv_5 {c b b2 c2 e e2 : Int} (hN : 0 ≤ N) (hc : c2 < -1) (h : ∀ i : Int, 0 ≤ i → i < N → pa i = c2 → ht i ≤ e ∧ hh i ≤ e2) : ∀ i : Int, 0 ≤ i → i < N + 1 → pmv pa c N i = c2 → zu ht N b i ≤ e ∧ zu hh N b2 i ≤ e2 := fun i i0 i1 q => by
  by_cases z : i = N
  · subst z; rw [pmv_N] at q; omega
  · by_cases y : pa i = c
    · rw [pmv_c z y] at q; omega
    · rw [pmv_o z y] at q; rw [zu_ne z, zu_ne z]; exact h i i0 (by omega) q
/-- the open row is closed: a node of its own -/
theorem rtr_row {d z : Int} (hG : rtG K O Fi Be Le Mo Z SM RF RL AF AL SD N ns (d + 1) pa po MN dl st ht hh PS T) (hd : 0 ≤ d) (hz : 0 ≤ z ∧ z ≤ 1000000000000) (hs : PS (-2 - 2 * d) (MN (-2 - 2 * d)) ≤ z ∨ z = 1000000000000) : rtr (zu K N 4) (zu O N 0) (zu Fi N (RF d)) (zu Be N (-1)) Le Mo (zu Z N z) SM (zu RF d (-1)) RL AF AL (zu SD d 0) (N + 1) ns (d + 1) N (31 - d) := by
  obtain ⟨g0, g1, g2⟩ := hG
  obtain ⟨l1, l2, l3, l4, l5, l6⟩ := g2 d hd (by omega)
  refine ⟨pmv pa (-2 - 2 * d) N, po, zu (zu MN N (MN (-2 - 2 * d))) (-2 - 2 * d) 0, zu dl N (dl (-2 - 2 * d)), zu st N T, zu ht N (31 - d), zu hh N (122 - 4 * d), psm PS (-2 - 2 * d) N, T + 1, ⟨by omega, fun i a c => ⟨mv_A g0.1 hz (by omega) (by omega) (fun q => (g1 i a q).1) a c, mv_H ⟨g0.1, g0.2.1.1, by omega, by omega⟩ (by decide) (by omega) (fun q => ⟨(g1 i a q).2.1, (g1 i a q).1.2.2.1.2⟩) (fun q z => by have := (l5 i a q).1 z; omega) a c, mv_C g0.1 (by omega) (Or.inl ⟨rfl, l3, hs⟩) ⟨l1.1, l1.2.1⟩ (fun q => (g1 i a q).2.2) a c⟩, fun e e0 e1 => ?_⟩, fun _ => ⟨by omega, pmv_N, by rw [zu_self]; omega, by rw [zu_self, zu_self, if_pos rfl]; omega, fun i i0 i1 i2 => by rw [zu_ne i2, zu_self]; have := (g1 i i0 (by omega)).2.1.1; omega⟩⟩
  obtain ⟨m1, m2, m3, m4, m5, m6⟩ := g2 e e0 e1
  have n1 : zu dl N (dl (-2 - 2 * d)) (-2 - 2 * e) = 0 := by rw [zu_ne (by omega)]; exact m3
  have n2 : zu dl N (dl (-2 - 2 * d)) (-3 - 2 * e) = 1 := by rw [zu_ne (by omega)]; exact m4
  have h5 : ∀ i : Int, 0 ≤ i → i < N + 1 → (pmv pa (-2 - 2 * d) N i = -2 - 2 * e → zu ht N (31 - d) i ≤ 31 - e ∧ zu hh N (122 - 4 * d) i ≤ 121 - 4 * e) ∧ (pmv pa (-2 - 2 * d) N i = -3 - 2 * e → zu ht N (31 - d) i ≤ 31 - e ∧ zu hh N (122 - 4 * d) i ≤ 122 - 4 * e) := fun i i0 i1 => ⟨fun q => mv_5 g0.1 (by omega) (fun i a c => (m5 i a c).1) i i0 i1 q, fun q => mv_5 g0.1 (by omega) (fun i a c => (m5 i a c).2) i i0 i1 q⟩
  by_cases y : e = d
  · subst y
    unfold rtL
    rw [zu_self, zu_self]
    exact ⟨mv_E g0.1 (by omega) m1.2.1 (by decide), mv_R g0.1 (by omega) m2, n1, n2, h5, fun q => by omega⟩
  · unfold rtL
    rw [zu_ne y, zu_ne y]
    refine ⟨mv_R g0.1 (by omega) m1, mv_R g0.1 (by omega) m2, n1, n2, h5, fun q => ?_⟩
    obtain ⟨q1, q2⟩ := m6 q
    have := (m1.2.2.2.1 q1).1
    rw [zu_ne (show RL e ≠ N by omega), zu_ne (show RL e ≠ N by omega)]; exact ⟨q1, q2⟩
/-- the alternatives are closed: a node of its own; the level is no more -/
theorem rtr_all {d z : Int} (hG : rtG K O Fi Be Le Mo Z SM RF RL AF AL SD N ns (d + 1) pa po MN dl st ht hh PS T) (hd : 0 ≤ d) (hr : RF d < 0) (hz : 0 ≤ z ∧ z ≤ 1000000000000) (hs : PS (-3 - 2 * d) (MN (-3 - 2 * d)) ≤ z + 1 ∨ z = 1000000000000) : rtr (zu K N 5) (zu O N 0) (zu Fi N (AF d)) (zu Be N (-1)) Le Mo (zu Z N z) SM RF RL AF AL SD (N + 1) ns d N (31 - d) := by
  obtain ⟨g0, g1, g2⟩ := hG
  obtain ⟨l1, l2, l3, l4, l5, l6⟩ := g2 d hd (by omega)
  have nr : ∀ i : Int, 0 ≤ i → i < N → ¬ pa i = -2 - 2 * d := fun i a c q => by
    have m0 : MN (-2 - 2 * d) = 0 := by rcases l1.1 with t | t <;> omega
    rcases (g1 i a c).1.2.2.2 with t | t
    · omega
    · have := t.2.1; rw [q] at this; omega
  refine ⟨pmv pa (-3 - 2 * d) N, po, zu (zu MN N (MN (-3 - 2 * d))) (-3 - 2 * d) 0, zu dl N (dl (-3 - 2 * d)), zu st N T, zu ht N (31 - d), zu hh N (123 - 4 * d), psm PS (-3 - 2 * d) N, T + 1, ⟨by omega, fun i a c => ⟨?_, mv_H ⟨g0.1, g0.2.1.1, by omega, by omega⟩ (by decide) (by omega) (fun q => ⟨(g1 i a q).2.1, (g1 i a q).1.2.2.1.2⟩) (fun q z => by have := (l5 i a q).2 z; omega) a c, mv_C g0.1 (by omega) (Or.inr ⟨rfl, l4, hs⟩) ⟨l2.1, l2.2.1⟩ (fun q => (g1 i a q).2.2) a c⟩, fun e e0 e1 => ?_⟩, fun _ => ⟨by omega, pmv_N, by rw [zu_self]; omega, by rw [zu_self, zu_self, if_neg (by decide), if_pos rfl]; omega, fun i i0 i1 i2 => by rw [zu_ne i2, zu_self]; have := (g1 i i0 (by omega)).2.1.1; omega⟩⟩
  · have t := mv_A (Z := Z) (z := z) (c := -3 - 2 * d) (lv := d + 1) g0.1 hz (by omega) (by omega) (fun q => (g1 i a q).1) a c
    refine ⟨t.1, t.2.1, ?_, t.2.2.2⟩
    have t3 := t.2.2.1
    by_cases y : i = N
    · subst y; rw [pmv_N]; omega
    · by_cases w : pa i = -3 - 2 * d
      · rw [pmv_c y w]; omega
      · rw [pmv_o y w] at t3 ⊢
        have := nr i a (by omega)
        omega
  · obtain ⟨m1, m2, m3, m4, m5, m6⟩ := g2 e e0 (by omega)
    refine ⟨mv_R g0.1 (by omega) m1, mv_R g0.1 (by omega) m2, by rw [zu_ne (by omega)]; exact m3, by rw [zu_ne (by omega)]; exact m4, fun i i0 i1 => ⟨fun q => mv_5 g0.1 (by omega) (fun i a c => (m5 i a c).1) i i0 i1 q, fun q => mv_5 g0.1 (by omega) (fun i a c => (m5 i a c).2) i i0 i1 q⟩, fun q => ?_⟩
    obtain ⟨q1, q2⟩ := m6 q
    have := (m1.2.2.2.1 q1).1
    rw [zu_ne (show RL e ≠ N by omega), zu_ne (show RL e ≠ N by omega)]; exact ⟨q1, q2⟩
end Trees4
section Trees5
variable {K O Fi Be Le Mo Z SM RF RL AF AL SD : Int → Int} {N ns lv dn dh : Int} {pa po MN dl st ht hh : Int → Int} {PS : Int → Int → Int} {T : Int}
def ps1 (PS : Int → Int → Int) (N v : Int) : Int → Int → Int := fun a p => if a = N then (if p = 1 then v else 0) else PS a p
theorem ps1_0 {v : Int} : ps1 PS N v N 0 = 0 := by unfold ps1; rw [if_pos rfl]; rfl
theorem ps1_1 {v : Int} : ps1 PS N v N 1 = v := by unfold ps1; rw [if_pos rfl]; rfl
theorem ps1_o {v a p : Int} (h : a ≠ N) : ps1 PS N v a p = PS a p := if_neg h
/-- a group around m -/
theorem rtr_group {m o z : Int} (h : rtr K O Fi Be Le Mo Z SM RF RL AF AL SD N ns lv m dh) (hm : 0 ≤ m) (hK : K m = 5) (hd1 : 1 ≤ dh) (ho : 0 ≤ o ∧ o ≤ 9) (hz : 0 ≤ z ∧ z ≤ 1000000000000) (hs : Z m + (if 0 < o then 2 else 0) ≤ z ∨ z = 1000000000000) : rtr (zu K N 6) (zu O N o) (zu Fi N m) (zu Be N (-1)) Le Mo (zu Z N z) SM RF RL AF AL SD (N + 1) ns lv N dh := by
  obtain ⟨pa, po, MN, dl, st, ht, hh, PS, T, ⟨g0, g1, g2⟩, hdn⟩ := h
  obtain ⟨d1, d2, d3, d4, d5⟩ := hdn hm
  rw [if_neg (by omega), if_pos hK] at d4
  have mN : m ≠ N := by omega
  have pN : zu (zu pa N (-1)) m N N = -1 := by rw [zu_ne (Ne.symm mN), zu_self]
  have pm : zu (zu pa N (-1)) m N m = N := zu_self _ _ _
  have pO : ∀ i : Int, i ≠ m → i ≠ N → zu (zu pa N (-1)) m N i = pa i := fun i a c => by rw [zu_ne a, zu_ne c]
  have fr : ∀ f c : Int, f < N → pa f = c → ¬ c = -1 → zu (zu pa N (-1)) m N f = c ∧ zu po m 0 f = po f := fun f c hf h hc => by
    have e : f ≠ m := fun z => by rw [z, d2] at h; omega
    rw [pO f e (by omega), zu_ne e]; exact ⟨h, rfl⟩
  have Hm := (g1 m hm d1).2.1
  refine ⟨zu (zu pa N (-1)) m N, zu po m 0, zu MN N 1, zu dl N 0, zu st N T, zu ht N (ht m), zu hh N (hh m + 1), ps1 PS N (Z m), T + 1, ⟨by omega, fun i a c => ⟨?_, ?_, ?_⟩, fun e e0 e1 => ?_⟩, fun _ => ⟨by omega, pN, by rw [zu_self]; exact d3, by rw [zu_self, zu_self, if_neg (by decide), if_neg (by decide)]; omega, fun i i0 i1 i2 => by rw [zu_ne i2, zu_self]; have := (g1 i i0 (by omega)).2.1.1; omega⟩⟩
  · by_cases e : i = N
    · subst e
      unfold rtA
      rw [zu_self, zu_self, pN]
      exact ⟨hz, by omega, by omega, Or.inl ⟨rfl, rfl⟩⟩
    · obtain ⟨a1, a2, a3, a4⟩ := (g1 i a (by omega)).1
      unfold rtA
      rw [zu_ne e, zu_ne e]
      refine ⟨a1, by omega, ?_, ?_⟩
      · by_cases y : i = m
        · subst y; rw [pm]; omega
        · rw [pO i y e]; omega
      · by_cases y : i = m
        · subst y
          right
          have b : Be i = -1 := by rcases a4 with t | t; (exact t.2); (exact absurd d2 t.1)
          rw [pm, zu_self, zu_self, zu_self, ps1_0, b]
          refine ⟨by omega, by omega, by omega, ?_, fun _ => rfl, fun q => by omega⟩
          show ps1 PS N (Z i) N (0 + 1) = _
          rw [show (0 : Int) + 1 = 1 by omega, ps1_1]; omega
        · rw [pO i y e]
          rcases a4 with t | ⟨t1, t2, t3, t4, t5, t6⟩
          · exact Or.inl t
          · right
            have q : pa i ≠ N := by omega
            rw [zu_ne y, zu_ne q, zu_ne q, ps1_o q, ps1_o q]
            refine ⟨t1, t2, t3, t4, t5, fun u => ?_⟩
            have w := t6 u
            have v := fr (Be i) (pa i) a2.2 w.1 t1
            exact ⟨v.1, by rw [v.2]; exact w.2⟩
  · by_cases e : i = N
    · subst e
      unfold rtH
      rw [zu_self, zu_self, zu_self, zu_self, pN]
      have h4 := Hm.2.1.2.2 (by omega)
      exact ⟨⟨by omega, by omega, fun q => absurd rfl q⟩, ⟨Hm.2.1.1, by have := Hm.2.1.2.1; omega, fun _ => h4⟩, fun q => by omega⟩
    · obtain ⟨t1, t2, t3⟩ := (g1 i a (by omega)).2.1
      unfold rtH
      rw [zu_ne e, zu_ne e, zu_ne e, zu_ne e]
      refine ⟨⟨t1.1, by omega, fun q => ?_⟩, t2, fun q => ?_⟩
      · by_cases y : i = m
        · subst y; rw [zu_self]; exact t1.1
        · rw [zu_ne y]; rw [pO i y e] at q; exact t1.2.2 q
      by_cases y : i = m
      · subst y; rw [pm, zu_self, zu_self, zu_self, zu_self]; exact ⟨t1.2.1, by omega, by omega, fun z => by omega⟩
      · rw [pO i y e] at q ⊢
        have r : pa i ≠ N := by have := (g1 i a (by omega)).1.2.2.1; omega
        rw [zu_ne r, zu_ne r, zu_ne r, zu_ne r]; exact t3 q
  · by_cases e : i = N
    · subst e
      unfold rtC
      rw [zu_self, zu_self, zu_self, zu_self, zu_ne mN, pm]
      refine ⟨by omega, fun q => by omega, fun q => by omega, fun q => by omega, fun q => by omega, fun q => by omega, fun q => by omega, fun q => ⟨⟨hm, by omega, rfl⟩, ho, hs⟩, fun q => by omega⟩
    · obtain ⟨c0, c1, c2, c3, c4, c5, c6, c7, c8⟩ := (g1 i a (by omega)).2.2
      have ps : ∀ p : Int, ps1 PS N (Z m) i p = PS i p := fun p => ps1_o e
      have mn : zu MN N 1 i = MN i := zu_ne e
      have dle : zu dl N 0 i = dl i := zu_ne e
      have rf : rtF N pa po MN i (Fi i) → rtF (N + 1) (zu (zu pa N (-1)) m N) (zu po m 0) (zu MN N 1) i (Fi i) := by
        rintro (t | ⟨t1, t2, t3, t4⟩)
        · exact Or.inl ⟨t.1, by rw [mn]; exact t.2⟩
        · have v := fr (Fi i) i t1.2 t2 (by omega)
          exact Or.inr ⟨by omega, v.1, by rw [v.2]; exact t3, by rw [mn]; exact t4⟩
      unfold rtC
      rw [zu_ne e, zu_ne e, zu_ne e, zu_ne e, ps, ps, mn, dle]
      refine ⟨c0, c1, c2, c3, c4, fun h => ?_, fun h => ?_, fun h => ?_, fun h => ?_⟩
      · obtain ⟨t1, t2⟩ := c5 h; exact ⟨rf t1, t2⟩
      · obtain ⟨t1, t2⟩ := c6 h; exact ⟨rf t1, t2⟩
      · obtain ⟨t1, t2⟩ := c7 h
        rw [zu_ne (show Fi i ≠ N by omega)]
        exact ⟨⟨t1.1, by omega, (fr _ i t1.2.1 t1.2.2 (by omega)).1⟩, t2⟩
      · obtain ⟨t1, t2⟩ := c8 h
        rw [zu_ne (show Fi i ≠ N by omega)]
        exact ⟨⟨t1.1, by omega, (fr _ i t1.2.1 t1.2.2 (by omega)).1⟩, t2⟩
  · obtain ⟨m1, m2, m3, m4, m5, m6⟩ := g2 e e0 e1
    have up : ∀ c f l : Int, rtR Be N pa po MN dl PS c f l → c < -1 → rtR (zu Be N (-1)) (N + 1) (zu (zu pa N (-1)) m N) (zu po m 0) (zu MN N 1) (zu dl N 0) (ps1 PS N (Z m)) c f l := by
      rintro c f l ⟨r1, r2, r3, r4, r5⟩ hc
      have mn : zu MN N 1 c = MN c := zu_ne (by omega)
      refine ⟨?_, by rw [ps1_o (by omega)]; exact r2, by rw [mn, ps1_o (by omega)]; exact r3, fun q => ?_, fun i i0 i1 q1 q2 => ?_⟩
      · rcases r1 with t | ⟨t1, t2, t3, t4⟩
        · exact Or.inl ⟨t.1, by rw [mn]; exact t.2⟩
        · have v := fr f c t1.2 t2 (by omega)
          exact Or.inr ⟨by omega, v.1, by rw [v.2]; exact t3, by rw [mn]; exact t4⟩
      · obtain ⟨t1, t2, t3⟩ := r4 q
        have v := fr l c t1.2 t2 (by omega)
        exact ⟨by omega, v.1, by rw [v.2, mn]; exact t3⟩
      · by_cases y : i = N
        · subst y; rw [pN] at q1; omega
        · by_cases w : i = m
          · subst w; rw [pm] at q1; omega
          · rw [pO i w y] at q1; rw [zu_ne y] at q2; exact r5 i i0 (by omega) q1 q2
    refine ⟨up _ _ _ m1 (by omega), up _ _ _ m2 (by omega), by rw [zu_ne (by omega)]; exact m3, by rw [zu_ne (by omega)]; exact m4, fun i i0 i1 => ?_, fun q => ?_⟩
    · by_cases y : i = N
      · subst y; rw [pN]; exact ⟨fun q => by omega, fun q => by omega⟩
      · by_cases w : i = m
        · subst w; rw [pm]; exact ⟨fun q => by omega, fun q => by omega⟩
        · rw [pO i w y, zu_ne y, zu_ne y]; exact m5 i i0 (by omega)
    · obtain ⟨q1, q2⟩ := m6 q
      have := (m1.2.2.2.1 q1).1
      rw [zu_ne (show RL e ≠ N by omega), zu_ne (show RL e ≠ N by omega)]; exact ⟨q1, q2⟩
end Trees5
section Trees6
variable {K O Fi Be Le Mo Z SM RF RL AF AL SD : Int → Int} {N ns lv dn dh : Int} {pa po MN dl st ht hh : Int → Int} {PS : Int → Int → Int} {T : Int}
/-- n's place taken by a loop over n, which is now N -/
def prp (pa : Int → Int) (n N : Int) : Int → Int := fun i => if i = N then n else if pa i = n then N else pa i
theorem prp_N {n : Int} : prp pa n N N = n := if_pos rfl
theorem prp_c {n i : Int} (h : i ≠ N) (e : pa i = n) : prp pa n N i = N := by unfold prp; rw [if_neg h, if_pos e]
theorem prp_o {n i : Int} (h : i ≠ N) (e : ¬ pa i = n) : prp pa n N i = pa i := by unfold prp; rw [if_neg h, if_neg e]
def psr (PS : Int → Int → Int) (n N c q x v : Int) : Int → Int → Int := fun a p => if a = N then PS n p else if a = n then (if p = 1 then x else 0) else if a = c ∧ p = q then v else PS a p
theorem psr_N {n c q x v p : Int} : psr PS n N c q x v N p = PS n p := if_pos rfl
theorem psr_n0 {n c q x v : Int} (h : n ≠ N) : psr PS n N c q x v n 0 = 0 := by unfold psr; rw [if_neg h, if_pos rfl]; rfl
theorem psr_n1 {n c q x v : Int} (h : n ≠ N) : psr PS n N c q x v n 1 = x := by unfold psr; rw [if_neg h, if_pos rfl]; rfl
theorem psr_c {n c q x v : Int} (h : c ≠ N) (h2 : c ≠ n) : psr PS n N c q x v c q = v := by unfold psr; rw [if_neg h, if_neg h2, if_pos ⟨rfl, rfl⟩]
theorem psr_o {n c q x v a p : Int} (h : a ≠ N) (h2 : a ≠ n) (h3 : ¬ (a = c ∧ p = q)) : psr PS n N c q x v a p = PS a p := by unfold psr; rw [if_neg h, if_neg h2, if_neg h3]
theorem rtr_rep {d n z le mo : Int} (h : rtr K O Fi Be Le Mo Z SM RF RL AF AL SD N ns (d + 1) (-1) dh) (hd : 0 ≤ d) (hn : RL d = n) (hs : SD d = 1) (hle : 0 ≤ le ∧ le ≤ 100) (hmo : -1 ≤ mo ∧ mo ≤ 100) (hlm : 0 ≤ mo → le ≤ mo) (hz : 0 ≤ z ∧ z ≤ 1000000000000) (hz1 : mo < 0 → (le + 1) * Z n + 1 ≤ z ∨ z = 1000000000000) (hz2 : 0 ≤ mo → mo * Z n + mo - le ≤ z ∨ z = 1000000000000) : rtr (zu (zu K N (K n)) n 7) (zu O N (O n)) (zu (zu Fi N (Fi n)) n N) (zu Be N (-1)) (zu (zu Le N (Le n)) n le) (zu (zu Mo N (Mo n)) n mo) (zu (zu Z N (Z n)) n z) SM RF RL AF AL (zu SD d 2) (N + 1) ns (d + 1) (-1) 0 := by
  obtain ⟨pa, po, MN, dl, st, ht, hh, PS, T, ⟨g0, g1, g2⟩, hdn⟩ := h
  obtain ⟨l1, l2, l3, l4, l5, l6⟩ := g2 d hd (by omega)
  obtain ⟨s1, s2, s3⟩ := l6 hs
  obtain ⟨r1, r2, r3⟩ := l1.2.2.2.1 s1
  rw [hn] at r1 r2 r3 s2 s3
  obtain ⟨An, Hn, Cn⟩ := g1 n r1.1 r1.2
  have nN : n ≠ N := by omega
  have bn : Be n = -1 := by
    rcases An.2.2.2 with t | t
    · omega
    · rcases Int.lt_or_le (Be n) 0 with q | q
      · have := An.2.1; omega
      · have u := t.2.2.2.2.2 q
        have v := (g1 (Be n) q An.2.1.2).1.2.2.2
        rcases v with v | v
        · omega
        · have w := v.2.1; rw [u.1, r2] at w; omega
  have pn : prp pa n N n = -2 - 2 * d := by rw [prp_o nN (by omega)]; exact r2
  have cN : (-2 - 2 * d) ≠ N := by omega
  have cn : (-2 - 2 * d) ≠ n := by omega
  have tn := An.2.2.2.resolve_left (by omega)
  rw [r2] at tn
  have fr : ∀ f c : Int, f < N → pa f = c → ¬ c = n → prp pa n N f = c := fun f c hf h hc => by rw [prp_o (by omega) (by omega)]; exact h
  refine ⟨prp pa n N, zu po N 0, zu (zu MN N (MN n)) n 1, zu (zu dl N (dl n)) n 0, zu (zu st N (st n)) n T, zu (zu ht N (ht n)) n (ht n + 1), zu (zu hh N (hh n)) n (hh n + 1), psr PS n N (-2 - 2 * d) (MN (-2 - 2 * d)) (Z n) (PS (-2 - 2 * d) (po n) + z), T + 1, ⟨by omega, fun i a c => ⟨?_, ?_, ?_⟩, fun e e0 e1 => ?_⟩, fun q => by omega⟩
  · -- places
    by_cases e : i = N
    · subst e
      unfold rtA
      rw [zu_ne (Ne.symm nN), zu_self, zu_self, zu_self, prp_N, zu_self, zu_self, psr_n0 nN]
      refine ⟨An.1, by omega, by omega, Or.inr ⟨by omega, by omega, by omega, ?_, fun _ => rfl, fun q => by omega⟩⟩
      rw [show (0 : Int) + 1 = 1 by omega, psr_n1 nN]; omega
    · by_cases y : i = n
      · subst y
        unfold rtA
        rw [zu_self, zu_ne e, pn, zu_ne e, bn, zu_ne cn, zu_ne cN, zu_ne cn, zu_ne cN, psr_o cN cn (by omega), r3, psr_c cN cn, l3]
        exact ⟨hz, by omega, by omega, Or.inr ⟨by omega, by omega, tn.2.2.1, by omega, fun _ => rfl, fun q => by omega⟩⟩
      · obtain ⟨a1, a2, a3, a4⟩ := (g1 i a (by omega)).1
        unfold rtA
        rw [zu_ne y, zu_ne e, zu_ne e, zu_ne e]
        refine ⟨a1, by omega, ?_, ?_⟩
        · by_cases w : pa i = n
          · rw [prp_c e w]; omega
          · rw [prp_o e w]; omega
        · rcases a4 with t | ⟨t1, t2, t3, t4, t5, t6⟩
          · left; rw [prp_o e (by omega)]; exact t
          · right
            have po2 : 0 ≤ Be i → zu po N 0 (Be i) = po (Be i) := fun _ => zu_ne (by omega)
            by_cases w : pa i = n
            · rw [prp_c e w, zu_ne (Ne.symm nN), zu_self, zu_ne (Ne.symm nN), zu_self, psr_N, psr_N]
              rw [w] at t2 t3 t4 t5 t6
              exact ⟨by omega, t2, t3, t4, t5, fun u => ⟨prp_c (by omega) (t6 u).1, by rw [po2 u]; exact (t6 u).2⟩⟩
            · have pN : pa i ≠ N := by omega
              rw [prp_o e w, zu_ne w, zu_ne pN, zu_ne w, zu_ne pN]
              have same : ∀ p : Int, p ≤ po i + 1 → psr PS n N (-2 - 2 * d) (MN (-2 - 2 * d)) (Z n) (PS (-2 - 2 * d) (po n) + z) (pa i) p = PS (pa i) p := fun p hp => by
                refine psr_o pN w (fun v => ?_)
                have hlast : ¬ Be i = -1 := fun b => y (by have := l1.2.2.2.2 i a (by omega) v.1 b; omega)
                have u := t6 (by omega)
                have q4 := (g1 (Be i) (by omega) (by omega)).1.2.2.2.resolve_left (fun t => by omega)
                have q5 := q4.2.1
                rw [u.1, u.2, v.1] at q5
                omega
              rw [same _ (by omega), same _ (by omega)]
              exact ⟨t1, t2, t3, t4, t5, fun u => ⟨by rw [prp_o (by omega) (by rw [(t6 u).1]; exact w)]; exact (t6 u).1, by rw [po2 u]; exact (t6 u).2⟩⟩
  · -- stamps
    by_cases e : i = N
    · subst e
      unfold rtH
      simp only [zu_ne (Ne.symm nN), zu_self, prp_N]
      exact ⟨⟨Hn.1.1, by have := Hn.1; omega, fun _ => Hn.1.1⟩, Hn.2.1, fun _ => ⟨Hn.1.2.1, by omega, by omega, fun _ _ => by omega⟩⟩
    · by_cases y : i = n
      · subst y
        unfold rtH
        simp only [zu_self, pn, zu_ne e]
        have hq := Hn.1.2.2 (by omega)
        exact ⟨⟨by omega, by omega, fun _ => by have := Hn.1; omega⟩, by have := Hn.2.1; omega, fun q => by omega⟩
      · obtain ⟨t1, t2, t3⟩ := (g1 i a (by omega)).2.1
        have a3 := (g1 i a (by omega)).1.2.2.1
        unfold rtH
        simp only [zu_ne y, zu_ne e]
        refine ⟨⟨t1.1, by omega, fun q => t1.2.2 (fun z => q (by rw [prp_o e (by omega)]; exact z))⟩, t2, fun q => ?_⟩
        by_cases w : pa i = n
        · have u := t3 (by omega)
          rw [w] at u
          simp only [prp_c e w, zu_ne (Ne.symm nN), zu_self]
          exact u
        · rw [prp_o e w] at q ⊢
          have pN : pa i ≠ N := by omega
          simp only [zu_ne w, zu_ne pN]
          exact t3 q
  · -- kinds
    by_cases e : i = N
    · subst e
      obtain ⟨c0, c1, c2, c3, c4, c5, c6, c7, c8⟩ := Cn
      have rf : rtF i pa po MN n (Fi n) → rtF (i + 1) (prp pa n i) (zu po i 0) (zu (zu MN i (MN n)) n 1) i (Fi n) := by
        rintro (t | ⟨t1, t2, t3, t4⟩)
        · exact Or.inl ⟨t.1, by rw [zu_ne (Ne.symm nN), zu_self]; exact t.2⟩
        · exact Or.inr ⟨by omega, prp_c (by omega) t2, by rw [zu_ne (show Fi n ≠ i by omega)]; exact t3, by rw [zu_ne (Ne.symm nN), zu_self]; exact t4⟩
      have fz : ∀ f : Int, 0 ≤ f → f < i → pa f = n → zu (zu Z i (Z n)) n z f = Z f := fun f f0 f1 h => by
        rw [zu_ne (fun q => by rw [q] at h; omega), zu_ne (by omega)]
      unfold rtC
      rw [zu_ne (Ne.symm nN), zu_self, zu_self, zu_ne (Ne.symm nN), zu_self, zu_ne (Ne.symm nN), zu_self, zu_ne (Ne.symm nN), zu_self, zu_ne (Ne.symm nN), zu_self, zu_ne (Ne.symm nN), zu_self, zu_ne (Ne.symm nN), zu_self, psr_N, psr_N]
      refine ⟨c0, c1, c2, c3, c4, fun q => ⟨rf (c5 q).1, (c5 q).2⟩, fun q => ⟨rf (c6 q).1, (c6 q).2⟩, fun q => ?_, fun q => ?_⟩
      · obtain ⟨t1, t2⟩ := c7 q
        rw [fz _ t1.1 t1.2.1 t1.2.2]
        exact ⟨⟨t1.1, by omega, prp_c (by omega) t1.2.2⟩, t2⟩
      · obtain ⟨t1, t2⟩ := c8 q
        rw [fz _ t1.1 t1.2.1 t1.2.2]
        exact ⟨⟨t1.1, by omega, prp_c (by omega) t1.2.2⟩, t2⟩
    · by_cases y : i = n
      · subst y
        have zN : zu (zu Z N (Z i)) i z N = Z i := by rw [zu_ne (Ne.symm e), zu_self]
        unfold rtC
        simp only [zu_self, zN, prp_N]
        refine ⟨by omega, fun q => by omega, fun q => by omega, fun q => by omega, fun q => by omega, fun q => by omega, fun q => by omega, fun q => by omega, fun _ => ⟨⟨g0.1, by omega, trivial⟩, hle, hmo, hlm, hz1, hz2⟩⟩
      · obtain ⟨c0, c1, c2, c3, c4, c5, c6, c7, c8⟩ := (g1 i a (by omega)).2.2
        have cf : ∀ p : Int, psr PS n N (-2 - 2 * d) (MN (-2 - 2 * d)) (Z n) (PS (-2 - 2 * d) (po n) + z) i p = PS i p := fun p => psr_o e y (by omega)
        have mn : zu (zu MN N (MN n)) n 1 i = MN i := by rw [zu_ne y, zu_ne e]
        have dle : zu (zu dl N (dl n)) n 0 i = dl i := by rw [zu_ne y, zu_ne e]
        have rf : rtF N pa po MN i (Fi i) → rtF (N + 1) (prp pa n N) (zu po N 0) (zu (zu MN N (MN n)) n 1) i (Fi i) := by
          rintro (t | ⟨t1, t2, t3, t4⟩)
          · exact Or.inl ⟨t.1, by rw [mn]; exact t.2⟩
          · exact Or.inr ⟨by omega, fr _ i t1.2 t2 y, by rw [zu_ne (by omega)]; exact t3, by rw [mn]; exact t4⟩
        have fz : ∀ f : Int, 0 ≤ f → f < N → pa f = i → zu (zu Z N (Z n)) n z f = Z f := fun f f0 f1 h => by
          rw [zu_ne (fun q => by rw [q] at h; omega), zu_ne (by omega)]
        unfold rtC
        simp only [zu_ne y, zu_ne e, cf]
        refine ⟨c0, c1, c2, c3, c4, fun q => ⟨rf (c5 q).1, (c5 q).2⟩, fun q => ⟨rf (c6 q).1, (c6 q).2⟩, fun q => ?_, fun q => ?_⟩
        · obtain ⟨t1, t2⟩ := c7 q
          rw [fz _ t1.1 t1.2.1 t1.2.2]
          exact ⟨⟨t1.1, by omega, fr _ i t1.2.1 t1.2.2 y⟩, t2⟩
        · obtain ⟨t1, t2⟩ := c8 q
          rw [fz _ t1.1 t1.2.1 t1.2.2]
          exact ⟨⟨t1.1, by omega, fr _ i t1.2.1 t1.2.2 y⟩, t2⟩
  · -- levels
    obtain ⟨m1, m2, m3, m4, m5, m6⟩ := g2 e e0 e1
    have up : ∀ c f l : Int, rtR Be N pa po MN dl PS c f l → c < -1 → rtR (zu Be N (-1)) (N + 1) (prp pa n N) (zu po N 0) (zu (zu MN N (MN n)) n 1) (zu (zu dl N (dl n)) n 0) (psr PS n N (-2 - 2 * d) (MN (-2 - 2 * d)) (Z n) (PS (-2 - 2 * d) (po n) + z)) c f l := by
      rintro c f l ⟨q1, q2, q3, q4, q5⟩ hc
      have mn : zu (zu MN N (MN n)) n 1 c = MN c := by rw [zu_ne (by omega), zu_ne (by omega)]
      refine ⟨?_, ?_, ?_, fun q => ?_, fun i i0 i1 w1 w2 => ?_⟩
      · rcases q1 with t | ⟨t1, t2, t3, t4⟩
        · exact Or.inl ⟨t.1, by rw [mn]; exact t.2⟩
        · exact Or.inr ⟨by omega, fr _ c t1.2 t2 (by omega), by rw [zu_ne (by omega)]; exact t3, by rw [mn]; exact t4⟩
      · rw [psr_o (by omega) (by omega) (fun t => by have := tn.2.1; omega)]; exact q2
      · rw [mn]
        by_cases w : c = -2 - 2 * d
        · subst w; rw [psr_c (by omega) (by omega)]; have := tn.2.2.1; omega
        · rw [psr_o (by omega) (by omega) (fun t => w t.1)]; exact q3
      · obtain ⟨t1, t2, t3⟩ := q4 q
        exact ⟨by omega, fr _ c t1.2 t2 (by omega), by rw [zu_ne (by omega), mn]; exact t3⟩
      · by_cases y : i = N
        · subst y; rw [prp_N] at w1; omega
        · by_cases w : pa i = n
          · rw [prp_c y w] at w1; omega
          · rw [prp_o y w] at w1; rw [zu_ne y] at w2; exact q5 i i0 (by omega) w1 w2
    have h5 : ∀ i : Int, 0 ≤ i → i < N + 1 → (prp pa n N i = -2 - 2 * e → zu (zu ht N (ht n)) n (ht n + 1) i ≤ 31 - e ∧ zu (zu hh N (hh n)) n (hh n + 1) i ≤ 121 - 4 * e) ∧ (prp pa n N i = -3 - 2 * e → zu (zu ht N (ht n)) n (ht n + 1) i ≤ 31 - e ∧ zu (zu hh N (hh n)) n (hh n + 1) i ≤ 122 - 4 * e) := fun i i0 i1 => by
      by_cases y : i = N
      · subst y; rw [prp_N]; exact ⟨fun q => by omega, fun q => by omega⟩
      · by_cases w : i = n
        · subst w; simp only [pn, zu_self]; exact ⟨fun q => by omega, fun q => by omega⟩
        · simp only [zu_ne w, zu_ne y]
          by_cases x : pa i = n
          · rw [prp_c y x]; exact ⟨fun q => by omega, fun q => by omega⟩
          · rw [prp_o y x]; exact m5 i i0 (by omega)
    have n1 : zu (zu dl N (dl n)) n 0 (-2 - 2 * e) = 0 := by rw [zu_ne (by omega), zu_ne (by omega)]; exact m3
    have n2 : zu (zu dl N (dl n)) n 0 (-3 - 2 * e) = 1 := by rw [zu_ne (by omega), zu_ne (by omega)]; exact m4
    refine ⟨up _ _ _ m1 (by omega), up _ _ _ m2 (by omega), n1, n2, h5, fun q => ?_⟩
    by_cases y : e = d
    · subst y; rw [zu_self] at q; omega
    · rw [zu_ne y] at q
      obtain ⟨q1, q2⟩ := m6 q
      have u := m1.2.2.2.1 q1
      have k1 : RL e ≠ n := fun w => by have := u.2.1; rw [w, r2] at this; omega
      have k2 : RL e ≠ N := by omega
      simp only [zu_ne k1, zu_ne k2]; exact ⟨q1, q2⟩
end Trees6
theorem zu_zu {f : Int → Int} {i a b : Int} : zu (zu f i a) i b = zu f i b := by
  funext j
  by_cases e : j = i
  · rw [e, zu_self, zu_self]
  · rw [zu_ne e, zu_ne e, zu_ne e]
section Trees7
variable {K O Fi Be Le Mo Z SM RF RL AF AL SD : Int → Int} {N ns lv dn dh : Int} {pa po MN dl st ht hh : Int → Int} {PS : Int → Int → Int} {T : Int}
/-- a set more -/
theorem rtr_ns {v : Int} (h : rtr K O Fi Be Le Mo Z SM RF RL AF AL SD N ns lv dn dh) : rtr K O Fi Be Le Mo Z (zu SM ns v) RF RL AF AL SD N (ns + 1) lv dn dh := by
  obtain ⟨pa, po, MN, dl, st, ht, hh, PS, T, ⟨g0, g1, g2⟩, hd⟩ := h
  refine ⟨pa, po, MN, dl, st, ht, hh, PS, T, ⟨g0, fun i a c => ?_, g2⟩, hd⟩
  obtain ⟨h1, h2, c0, c1, c2, c3⟩ := g1 i a c
  refine ⟨h1, h2, c0, c1, fun q => ?_, c3⟩
  obtain ⟨t1, t2⟩ := c2 q
  rw [zu_ne (show O i ≠ ns by omega)]
  exact ⟨by omega, t2⟩
theorem rtr_lv {d : Int} (h : rtr K O Fi Be Le Mo Z SM RF RL AF AL SD N ns lv dn dh) (hd : 0 ≤ d ∧ d < lv) : (0 ≤ RF d → RF d < N ∧ 0 ≤ RL d ∧ RL d < N) ∧ (0 ≤ AF d → AF d < N ∧ 0 ≤ AL d ∧ AL d < N) ∧ (SD d = 1 → 0 ≤ RF d) := by
  obtain ⟨pa, po, MN, dl, st, ht, hh, PS, T, ⟨g0, g1, g2⟩, hdn⟩ := h
  obtain ⟨l1, l2, l3, l4, l5, l6⟩ := g2 d hd.1 hd.2
  refine ⟨fun q => ?_, fun q => ?_, fun q => (l6 q).1⟩
  · have t := (l1.2.2.2.1 q).1
    rcases l1.1 with u | u <;> omega
  · have t := (l2.2.2.2.1 q).1
    rcases l2.1 with u | u <;> omega
theorem rtr_z {i : Int} (h : rtr K O Fi Be Le Mo Z SM RF RL AF AL SD N ns lv dn dh) (hi : 0 ≤ i ∧ i < N) : 0 ≤ Z i ∧ Z i ≤ 1000000000000 := by
  obtain ⟨pa, po, MN, dl, st, ht, hh, PS, T, ⟨g0, g1, g2⟩, hdn⟩ := h
  exact (g1 i hi.1 hi.2).1.1
theorem rtr_dn (h : rtr K O Fi Be Le Mo Z SM RF RL AF AL SD N ns lv dn dh) : rtr K O Fi Be Le Mo Z SM RF RL AF AL SD N ns lv (-1) 0 := by
  obtain ⟨pa, po, MN, dl, st, ht, hh, PS, T, h, hdn⟩ := h
  exact ⟨pa, po, MN, dl, st, ht, hh, PS, T, h, fun q => by omega⟩
theorem rtr_in (h : rtr K O Fi Be Le Mo Z SM RF RL AF AL SD N ns lv dn dh) : (0 ≤ dn → dn < N) ∧ 0 ≤ N ∧ lv ≤ 31 := by
  obtain ⟨pa, po, MN, dl, st, ht, hh, PS, T, h, hdn⟩ := h
  exact ⟨fun q => (hdn q).1, h.1.1, h.1.2.2.2⟩
/-- a place in list c, q before it -/
def rtq (N : Int) (pa po MN : Int → Int) (c k q : Int) : Prop := (k < 0 ∧ q = MN c) ∨ ((0 ≤ k ∧ k < N) ∧ pa k = c ∧ q = po k)
theorem rtq_0 {c f : Int} (h : rtF N pa po MN c f) : rtq N pa po MN c f 0 := by
  rcases h with t | ⟨t1, t2, t3, t4⟩
  · exact Or.inl ⟨t.1, t.2.symm⟩
  · exact Or.inr ⟨t1, t2, t3.symm⟩
theorem rtq_s {c k q : Int} (hG : rtG K O Fi Be Le Mo Z SM RF RL AF AL SD N ns lv pa po MN dl st ht hh PS T) (h : rtq N pa po MN c k q) (hk : 0 ≤ k) (hc : ¬ c = -1) : rtq N pa po MN c (Be k) (q + 1) ∧ PS c (q + 1) = PS c q + Z k + dl c ∧ (0 ≤ q ∧ q < MN c) ∧ (0 ≤ Z k ∧ Z k ≤ 1000000000000) ∧ (-1 ≤ Be k ∧ Be k < N) ∧ k < N ∧ 0 ≤ PS c q := by
  rcases h with t | ⟨t1, t2, t3⟩
  · omega
  · obtain ⟨a1, a2, a3, a4⟩ := (hG.2.1 k t1.1 t1.2).1
    rcases a4 with u | ⟨u1, u2, u3, u4, u5, u6⟩
    · omega
    · rw [t2] at u2 u3 u4 u5 u6
      rw [t3]
      refine ⟨?_, u4, u2, a1, a2, t1.2, u3⟩
      rcases Int.lt_or_le (Be k) 0 with w | w
      · exact Or.inl ⟨w, u5 (by omega)⟩
      · exact Or.inr ⟨⟨w, a2.2⟩, (u6 w).1, (u6 w).2.symm⟩
theorem rtq_e {c k q : Int} (h : rtq N pa po MN c k q) (hk : k < 0) : q = MN c := by
  rcases h with t | t
  · exact t.2
  · omega
end Trees7
/-- the sets' ranges lie in the rows of ranges -/
def sas (SA SM : Int → Int) (ns : Int) : Prop := ∀ s : Int, 0 ≤ s → s < ns → SA s + SM s ≤ 24000
theorem sas_0 {SA SM : Int → Int} : sas SA SM 0 := fun s a c => by omega
theorem sas_s {SA SM : Int → Int} {ns v w : Int} (h : sas SA SM ns) (hv : v + w ≤ 24000) : sas (zu SA ns v) (zu SM ns w) (ns + 1) := fun s a c => by
  by_cases e : s = ns
  · subst e; rw [zu_self, zu_self]; exact hv
  · rw [zu_ne e, zu_ne e]; exact h s a (by omega)
/-! the tree with the frames of the open groups -/
/-- a sum of alternatives (each one more), and what the steps say of it -/
def aq (p x : Int) : Prop := (p = 0 ∧ x = 0) ∨ (1 ≤ p ∧ 1 ≤ x ∧ ceq (p - 1) (x - 1))
def frQ (OA OF ON MN : Int → Int) (PS : Int → Int → Int) : List Fr → Int → Prop
  | [], lv => lv = 0
  | (a, b, c, d, e) :: t, lv => (OA (lv - 1) = a ∧ (t = [] ∨ OF (lv - 1) = b) ∧ ON (lv - 1) = c) ∧ (ceq (PS (-2 - 2 * (lv - 1)) (MN (-2 - 2 * (lv - 1)))) e ∧ aq (PS (-3 - 2 * (lv - 1)) (MN (-3 - 2 * (lv - 1)))) d) ∧ (0 ≤ d ∧ 0 ≤ e) ∧ frQ OA OF ON MN PS t (lv - 1)
/-- the last part of the open row, if it may be repeated -/
def rpQ (MN : Int → Int) (PS : Int → Int → Int) (Z RL SD : Int → Int) (lv : Int) (fr : List Fr) (rp ls : Int) : Prop := (rp = 1 ∧ 1 ≤ lv ∧ SD (lv - 1) = 1 ∧ (ceq (Z (RL (lv - 1))) ls ∧ 0 ≤ ls) ∧ ∃ (a b c d e : Int) (t : List Fr), fr = (a, b, c, d, e) :: t ∧ ceq (PS (-2 - 2 * (lv - 1)) (MN (-2 - 2 * (lv - 1)) - 1)) (e - ls) ∧ 0 ≤ e - ls) ∨ (rp = 0 ∧ ¬ SD (lv - 1) = 1) ∨ rp = 2
def dzQ (Z : Int → Int) (dn dz : Int) : Prop := dn < 0 ∨ (ceq (Z dn) dz ∧ 0 ≤ dz)
def rtJ (K O Fi Be Le Mo Z SM RF RL AF AL SD OA OF ON : Int → Int) (N ns lv dn dh : Int) (fr : List Fr) (rp ls dz : Int) : Prop := ∃ (pa po MN dl st ht hh : Int → Int) (PS : Int → Int → Int) (T : Int), rtG K O Fi Be Le Mo Z SM RF RL AF AL SD N ns lv pa po MN dl st ht hh PS T ∧ (0 ≤ dn → dn < N ∧ pa dn = -1 ∧ ht dn ≤ dh ∧ hh dn + (if K dn = 4 then 2 else if K dn = 5 then 1 else 0) ≤ 4 * dh ∧ ∀ i : Int, 0 ≤ i → i < N → ¬ i = dn → st i < st dn) ∧ frQ OA OF ON MN PS fr lv ∧ rpQ MN PS Z RL SD lv fr rp ls ∧ dzQ Z dn dz
theorem frQ.len {OA OF ON MN : Int → Int} {PS : Int → Int → Int} : ∀ (fr : List Fr) (lv : Int), frQ OA OF ON MN PS fr lv → lv = fr.length := by
  intro fr
  induction fr with
  | nil => intro lv h; exact h
  | cons x t ih =>
    intro lv h
    obtain ⟨a, b, c, d, e⟩ := x
    have := ih _ h.2.2.2
    rw [List.length_cons]
    omega
theorem frQ.tr {OA OF ON MN OA2 OF2 ON2 MN2 : Int → Int} {PS PS2 : Int → Int → Int} : ∀ (fr : List Fr) (lv : Int), frQ OA OF ON MN PS fr lv → (∀ d : Int, 0 ≤ d → d < lv → (OA2 d = OA d ∧ OF2 d = OF d ∧ ON2 d = ON d) ∧ PS2 (-2 - 2 * d) (MN2 (-2 - 2 * d)) = PS (-2 - 2 * d) (MN (-2 - 2 * d)) ∧ PS2 (-3 - 2 * d) (MN2 (-3 - 2 * d)) = PS (-3 - 2 * d) (MN (-3 - 2 * d))) → frQ OA2 OF2 ON2 MN2 PS2 fr lv := by
  intro fr
  induction fr with
  | nil => intro lv h _; exact h
  | cons x t ih =>
    intro lv h q
    obtain ⟨a, b, c, d, e⟩ := x
    obtain ⟨⟨h1, h2, h3⟩, ⟨h4, h5⟩, h6, h7⟩ := h
    have l := frQ.len _ _ h7
    obtain ⟨⟨q1, q2, q3⟩, q4, q5⟩ := q (lv - 1) (by omega) (by omega)
    refine ⟨⟨by rw [q1]; exact h1, by rw [q2]; exact h2, by rw [q3]; exact h3⟩, ⟨by rw [q4]; exact h4, by rw [q5]; exact h5⟩, h6, ih _ h7 (fun y y0 y1 => q y y0 (by omega))⟩
section TreeJ
variable {K O Fi Be Le Mo Z SM RF RL AF AL SD OA OF ON : Int → Int} {N ns lv dn dh : Int} {pa po MN dl st ht hh : Int → Int} {PS : Int → Int → Int} {T : Int} {fr : List Fr} {rp ls dz : Int}
theorem rtJ.r (h : rtJ K O Fi Be Le Mo Z SM RF RL AF AL SD OA OF ON N ns lv dn dh fr rp ls dz) : rtr K O Fi Be Le Mo Z SM RF RL AF AL SD N ns lv dn dh := by
  obtain ⟨pa, po, MN, dl, st, ht, hh, PS, T, h, hd, _⟩ := h
  exact ⟨pa, po, MN, dl, st, ht, hh, PS, T, h, hd⟩
theorem rtJ.len (h : rtJ K O Fi Be Le Mo Z SM RF RL AF AL SD OA OF ON N ns lv dn dh fr rp ls dz) : lv = fr.length := by
  obtain ⟨pa, po, MN, dl, st, ht, hh, PS, T, _, _, h, _⟩ := h
  exact frQ.len _ _ h
theorem rtJ.hd (h : rtJ K O Fi Be Le Mo Z SM RF RL AF AL SD OA OF ON N ns lv dn dh fr rp ls dz) (hl : 1 ≤ lv) : ∃ (a b c d e : Int) (t : List Fr), fr = (a, b, c, d, e) :: t ∧ OA (lv - 1) = a ∧ (t = [] ∨ OF (lv - 1) = b) ∧ ON (lv - 1) = c := by
  obtain ⟨pa, po, MN, dl, st, ht, hh, PS, T, _, _, h, _⟩ := h
  cases fr with
  | nil => have : lv = 0 := h; omega
  | cons x t =>
    obtain ⟨a, b, c, d, e⟩ := x
    exact ⟨a, b, c, d, e, t, rfl, h.1⟩
theorem rtJ.rq (h : rtJ K O Fi Be Le Mo Z SM RF RL AF AL SD OA OF ON N ns lv dn dh fr rp ls dz) (h0 : 0 ≤ rp ∧ rp ≤ 1) : (rp = 1 ∧ SD (lv - 1) = 1) ∨ (rp = 0 ∧ ¬ SD (lv - 1) = 1) := by
  obtain ⟨pa, po, MN, dl, st, ht, hh, PS, T, _, _, _, h, _⟩ := h
  rcases h with h | h | h
  · exact Or.inl ⟨h.1, h.2.2.1⟩
  · exact Or.inr h
  · omega
theorem rtJ.dq (h : rtJ K O Fi Be Le Mo Z SM RF RL AF AL SD OA OF ON N ns lv dn dh fr rp ls dz) (hn : 0 ≤ dn) : ceq (Z dn) dz ∧ 0 ≤ dz := by
  obtain ⟨pa, po, MN, dl, st, ht, hh, PS, T, _, _, _, _, h⟩ := h
  rcases h with h | h
  · omega
  · exact h
theorem rtj_nil : rtJ K O Fi Be Le Mo Z SM RF RL AF AL SD OA OF ON 0 ns 0 (-1) 0 [] 2 0 0 := ⟨fun _ => 0, fun _ => 0, fun _ => 0, fun _ => 0, fun _ => 0, fun _ => 0, fun _ => 0, fun _ _ => 0, 0, ⟨by omega, fun i a c => by omega, fun d a c => by omega⟩, fun h => by omega, rfl, Or.inr (Or.inr rfl), Or.inl (by decide)⟩
theorem rtj_open {x1 x2 b2 x3 : Int} (h : rtJ K O Fi Be Le Mo Z SM RF RL AF AL SD OA OF ON N ns lv dn dh fr rp ls dz) (hl : lv ≤ 30) (hb : fr = [] ∨ x2 = b2) : rtJ K O Fi Be Le Mo Z SM (zu RF lv (-1)) RL (zu AF lv (-1)) AL (zu SD lv 0) (zu OA lv x1) (zu OF lv x2) (zu ON lv x3) N ns (lv + 1) dn dh ((x1, b2, x3, 0, 0) :: fr) 0 0 dz := by
  obtain ⟨pa, po, MN, dl, st, ht, hh, PS, T, ⟨g0, g1, g2⟩, hd, hfq, hrp, hdz⟩ := h
  have hp : ∀ i : Int, 0 ≤ i → i < N → ¬ pa i = -2 - 2 * lv ∧ ¬ pa i = -3 - 2 * lv := fun i a c => by
    have := (g1 i a c).1.2.2.1; omega
  refine ⟨pa, po, zu (zu MN (-2 - 2 * lv) 0) (-3 - 2 * lv) 0, zu (zu dl (-2 - 2 * lv) 0) (-3 - 2 * lv) 1, st, ht, hh, fun c p => if c = -2 - 2 * lv ∨ c = -3 - 2 * lv then 0 else PS c p, T, ⟨by omega, fun i a c => ?_, fun d a c => ?_⟩, hd, ?_, ?_, hdz⟩
  · obtain ⟨hA, hH, hC⟩ := g1 i a c
    have q := hp i a c
    refine ⟨?_, hH, ?_⟩
    · obtain ⟨a1, a2, a3, a4⟩ := hA
      refine ⟨a1, a2, by omega, ?_⟩
      rcases a4 with a4 | a4
      · exact Or.inl a4
      · refine Or.inr ?_
        simp only [if_neg (show ¬ (pa i = -2 - 2 * lv ∨ pa i = -3 - 2 * lv) by omega), zu_ne (show pa i ≠ -3 - 2 * lv by omega), zu_ne (show pa i ≠ -2 - 2 * lv by omega)]
        exact a4
    · unfold rtC rtF at *
      simp only [if_neg (show ¬ (i = -2 - 2 * lv ∨ i = -3 - 2 * lv) by omega), zu_ne (show i ≠ -3 - 2 * lv by omega), zu_ne (show i ≠ -2 - 2 * lv by omega)]
      exact hC
  · by_cases e : d = lv
    · subst e
      unfold rtL rtR rtF
      simp only [zu_self, zu_ne (show (-2 - 2 * d) ≠ (-3 - 2 * d) by omega), if_pos (show (-2 - 2 * d = -2 - 2 * d ∨ -2 - 2 * d = -3 - 2 * d) from Or.inl rfl), if_pos (show (-3 - 2 * d = -2 - 2 * d ∨ -3 - 2 * d = -3 - 2 * d) from Or.inr rfl)]
      refine ⟨⟨Or.inl ⟨by decide, trivial⟩, by simp, by simp, (fun q => by omega), fun i i0 i1 q => absurd q (hp i i0 i1).1⟩, ⟨Or.inl ⟨by decide, trivial⟩, by simp, by simp, (fun q => by omega), fun i i0 i1 q => absurd q (hp i i0 i1).2⟩, trivial, trivial, fun i i0 i1 => ⟨fun q => absurd q (hp i i0 i1).1, fun q => absurd q (hp i i0 i1).2⟩, fun q => by omega⟩
    · have hL := g2 d a (by omega)
      unfold rtL rtR rtF at *
      simp only [zu_ne e, zu_ne (show (-2 - 2 * d) ≠ (-3 - 2 * lv) by omega), zu_ne (show (-2 - 2 * d) ≠ (-2 - 2 * lv) by omega), zu_ne (show (-3 - 2 * d) ≠ (-3 - 2 * lv) by omega), zu_ne (show (-3 - 2 * d) ≠ (-2 - 2 * lv) by omega), if_neg (show ¬ (-2 - 2 * d = -2 - 2 * lv ∨ -2 - 2 * d = -3 - 2 * lv) by omega), if_neg (show ¬ (-3 - 2 * d = -2 - 2 * lv ∨ -3 - 2 * d = -3 - 2 * lv) by omega)]
      exact hL
  · have e : lv + 1 - 1 = lv := by omega
    refine ⟨⟨by rw [e, zu_self], by rw [e, zu_self]; exact hb, by rw [e, zu_self]⟩, ⟨?_, ?_⟩, ⟨Int.le_refl _, Int.le_refl _⟩, ?_⟩
    · rw [e]
      show ceq (if _ then (0 : Int) else _) 0
      rw [if_pos (Or.inl rfl)]
      exact ceq.rf
    · rw [e]
      refine Or.inl ⟨?_, rfl⟩
      show (if _ then (0 : Int) else _) = 0
      rw [if_pos (Or.inr rfl)]
    · rw [e]
      refine frQ.tr _ _ hfq (fun d d0 x4 => ⟨⟨zu_ne (by omega), zu_ne (by omega), zu_ne (by omega)⟩, ?_, ?_⟩)
      · show (if _ then (0 : Int) else _) = _
        rw [if_neg (show ¬ (-2 - 2 * d = -2 - 2 * lv ∨ -2 - 2 * d = -3 - 2 * lv) by omega), zu_ne (show (-2 - 2 * d) ≠ (-3 - 2 * lv) by omega), zu_ne (show (-2 - 2 * d) ≠ (-2 - 2 * lv) by omega)]
      · show (if _ then (0 : Int) else _) = _
        rw [if_neg (show ¬ (-3 - 2 * d = -2 - 2 * lv ∨ -3 - 2 * d = -3 - 2 * lv) by omega), zu_ne (show (-3 - 2 * d) ≠ (-3 - 2 * lv) by omega), zu_ne (show (-3 - 2 * d) ≠ (-2 - 2 * lv) by omega)]
  · exact Or.inr (Or.inl ⟨rfl, by rw [show lv + 1 - 1 = lv by omega, zu_self]; decide⟩)
theorem rtj_leaf {k o z : Int} (h : rtJ K O Fi Be Le Mo Z SM RF RL AF AL SD OA OF ON N ns lv (-1) dh fr rp ls dz) (hz : 0 ≤ z ∧ z ≤ 1000000) (hk : (k = 0 ∧ z = 0) ∨ (k = 1 ∧ 0 ≤ o ∧ o < ns ∧ 1 ≤ z ∧ SM o ≤ z) ∨ (k = 2 ∧ z = 1) ∨ (k = 3 ∧ z = 1 ∧ 0 ≤ o ∧ o ≤ 5)) : rtJ (zu K N k) (zu O N o) (zu Fi N (-1)) (zu Be N (-1)) Le Mo (zu Z N z) SM RF RL AF AL SD OA OF ON (N + 1) ns lv N 0 fr rp ls z := by
  obtain ⟨pa, po, MN, dl, st, ht, hh, PS, T, ⟨g0, g1, g2⟩, hd, hfq, hrp, hdz⟩ := h
  refine ⟨zu pa N (-1), po, MN, dl, zu st N T, zu ht N 0, zu hh N 0, PS, T + 1, ⟨by omega, fun i a c => ?_, fun d a c => ?_⟩, fun _ => ⟨by omega, zu_self _ _ _, by rw [zu_self]; omega, by rw [zu_self, zu_self, if_neg (by omega), if_neg (by omega)]; omega, fun i i0 i1 i2 => by rw [zu_ne i2, zu_self]; have := (g1 i i0 (by omega)).2.1.1; omega⟩, hfq, ?_, Or.inr ⟨by rw [zu_self]; exact ceq.rf, hz.1⟩⟩
  · by_cases e : i = N
    · subst e
      unfold rtA rtH rtC
      simp only [zu_self]
      refine ⟨⟨by omega, by omega, by omega, Or.inl ⟨trivial, trivial⟩⟩, ⟨⟨by omega, by omega, fun q => absurd trivial q⟩, ⟨by omega, by omega, fun q => by omega⟩, fun q => by omega⟩, by omega, fun q => by omega, fun q => by omega, fun q => by omega, fun q => by omega, fun q => by omega, fun q => by omega, fun q => by omega, fun q => by omega⟩
    · obtain ⟨hA, hH, hC⟩ := g1 i a (by omega)
      have b := hA.2.1
      have p := hA.2.2.1
      unfold rtA rtH rtC rtF at *
      simp only [zu_ne e]
      refine ⟨⟨hA.1, by omega, by omega, ?_⟩, ⟨⟨hH.1.1, by omega, hH.1.2.2⟩, hH.2.1, fun q => ?_⟩, ?_⟩
      · rcases hA.2.2.2 with t | t
        · exact Or.inl t
        · refine Or.inr ⟨t.1, t.2.1, t.2.2.1, t.2.2.2.1, t.2.2.2.2.1, fun q => ?_⟩
          rw [zu_ne (show Be i ≠ N by omega)]; exact t.2.2.2.2.2 q
      · have := hH.2.2 q
        rw [zu_ne (show pa i ≠ N by omega), zu_ne (show pa i ≠ N by omega), zu_ne (show pa i ≠ N by omega), zu_ne (show pa i ≠ N by omega)]; exact this
      · obtain ⟨c0, c1, c2, c3, c4, c5, c6, c7, c8⟩ := hC
        refine ⟨c0, c1, c2, c3, c4, fun q => ?_, fun q => ?_, fun q => ?_, fun q => ?_⟩
        · obtain ⟨t, u⟩ := c5 q
          refine ⟨?_, u⟩
          rcases t with t | t
          · exact Or.inl t
          · exact Or.inr ⟨by omega, by rw [zu_ne (show Fi i ≠ N by omega)]; exact t.2⟩
        · obtain ⟨t, u⟩ := c6 q
          refine ⟨?_, u⟩
          rcases t with t | t
          · exact Or.inl t
          · exact Or.inr ⟨by omega, by rw [zu_ne (show Fi i ≠ N by omega)]; exact t.2⟩
        · obtain ⟨t, u, w⟩ := c7 q
          have e2 : Fi i ≠ N := by omega
          rw [zu_ne e2, zu_ne e2]
          exact ⟨⟨t.1, by omega, t.2.2⟩, u, w⟩
        · obtain ⟨t, u⟩ := c8 q
          have e2 : Fi i ≠ N := by omega
          rw [zu_ne e2, zu_ne e2]
          exact ⟨⟨t.1, by omega, t.2.2⟩, u⟩
  · obtain ⟨l1, l2, l3, l4, l5, l6⟩ := g2 d a c
    have up : ∀ c f l : Int, rtR Be N pa po MN dl PS c f l → ¬ c = -1 → rtR (zu Be N (-1)) (N + 1) (zu pa N (-1)) po MN dl PS c f l := by
      rintro c f l ⟨r1, r2, r3, r4, r5⟩ hc
      refine ⟨?_, r2, r3, fun q => ?_, fun i i0 i1 q1 q2 => ?_⟩
      · rcases r1 with t | t
        · exact Or.inl t
        · exact Or.inr ⟨by omega, by rw [zu_ne (show f ≠ N by omega)]; exact t.2⟩
      · have := r4 q
        rw [zu_ne (show l ≠ N by omega)]; exact ⟨by omega, this.2⟩
      · by_cases e : i = N
        · subst e; rw [zu_self] at q1; omega
        · rw [zu_ne e] at q1 q2; exact r5 i i0 (by omega) q1 q2
    refine ⟨up _ _ _ l1 (by omega), up _ _ _ l2 (by omega), l3, l4, fun i i0 i1 => ?_, fun q => ?_⟩
    · by_cases e : i = N
      · subst e; rw [zu_self]; exact ⟨fun q => by omega, fun q => by omega⟩
      · rw [zu_ne e, zu_ne e, zu_ne e]; exact l5 i i0 (by omega)
    · obtain ⟨q1, q2⟩ := l6 q
      have := (l1.2.2.2.1 q1).1
      rw [zu_ne (show RL d ≠ N by omega), zu_ne (show RL d ≠ N by omega)]; exact ⟨q1, q2⟩
  · rcases hrp with ⟨p1, p2, p3, p4, p5⟩ | p
    · obtain ⟨l1, l2, l3, l4, l5, l6⟩ := g2 (lv - 1) (by omega) (by omega)
      have q := (l1.2.2.2.1 (l6 p3).1).1
      exact Or.inl ⟨p1, p2, p3, by rw [zu_ne (show RL (lv - 1) ≠ N by omega)]; exact p4, p5⟩
    · exact Or.inr p
theorem rtj_part {Be2 RF2 : Int → Int} {d n s : Int} {x1 x2 x3 x4 x5 rp2 ls2 : Int} {xt : List Fr} (h : rtJ K O Fi Be Le Mo Z SM RF RL AF AL SD OA OF ON N ns (d + 1) n dh ((x1, x2, x3, x4, x5) :: xt) rp ls dz) (hd : 0 ≤ d) (hn : 0 ≤ n) (hb : (RF d < 0 ∧ Be2 = Be ∧ RF2 = zu RF d n) ∨ (0 ≤ RF d ∧ Be2 = zu Be (RL d) n ∧ RF2 = RF)) (hK : ¬ K n = 4 ∧ ¬ K n = 5) (hhd : dh ≤ 30 - d) (hst : (s = 1 ∧ rp2 = 1 ∧ ls2 = dz) ∨ (¬ s = 1 ∧ rp2 = 0)) : rtJ K O Fi Be2 Le Mo Z SM RF2 (zu RL d n) AF AL (zu SD d s) OA OF ON N ns (d + 1) (-1) 0 ((x1, x2, x3, x4, x5 + dz) :: xt) rp2 ls2 0 := by
  obtain ⟨pa, po, MN, dl, st, ht, hh, PS, T, ⟨g0, g1, g2⟩, hdn, hfq, hrp, hdz⟩ := h
  obtain ⟨d1, d2, d3, d4, d5⟩ := hdn hn
  rw [if_neg hK.1, if_neg hK.2] at d4
  obtain ⟨l1, l2, l3, l4, l5, l6⟩ := g2 d hd (by omega)
  have hb2 : (RF d < 0 ∧ Be2 = Be) ∨ (0 ≤ RF d ∧ Be2 = zu Be (RL d) n) := by
    rcases hb with t | t
    · exact Or.inl ⟨t.1, t.2.1⟩
    · exact Or.inr ⟨t.1, t.2.1⟩
  have hA := fun i a c => (g1 i a c).1
  have zn := (g1 n hn d1).1.1
  have hmv : MN (-2 - 2 * d) ≤ st n := by
    have s0 := (g1 n hn d1).2.1.1.1
    rcases Int.lt_or_le (RF d) 0 with q | q
    · rcases l1.1 with t | t <;> omega
    · obtain ⟨u1, u2, u3⟩ := l1.2.2.2.1 q
      have u4 := (g1 _ u1.1 u1.2).2.1.1.2.2 (by omega)
      have u5 := d5 _ u1.1 u1.2 (fun z => by rw [z, d2] at u2; omega)
      omega
  refine ⟨zu pa n (-2 - 2 * d), zu po n (MN (-2 - 2 * d)), zu MN (-2 - 2 * d) (MN (-2 - 2 * d) + 1), dl, st, ht, hh, psu PS (-2 - 2 * d) (MN (-2 - 2 * d) + 1) (PS (-2 - 2 * d) (MN (-2 - 2 * d)) + Z n + dl (-2 - 2 * d)), T, ⟨g0, fun i a c => ⟨app_A hA l1 ⟨hn, d1⟩ d2 (by omega) hb2 rfl (by omega) i a c, app_H (g1 i a c).2.1 hmv (by omega), app_C2 (g1 i a c).2.2 a d2 (by omega)⟩, fun e e0 e1 => ?_⟩, (fun q => by omega), ?_, ?_, Or.inl (by decide)⟩
  rotate_left
  · obtain ⟨f1, ⟨f4, f5⟩, f6, f7⟩ := hfq
    have z1 := hdz.resolve_left (by omega)
    have e9 : d + 1 - 1 = d := by omega
    rw [e9] at f1 f4 f5 f7
    have e8 := f4.add z1.1 ⟨l1.2.2.1, f6.2, zn.1, z1.2⟩
    refine ⟨by rw [e9]; exact f1, ⟨?_, ?_⟩, ⟨f6.1, by omega⟩, ?_⟩
    · rw [e9, zu_self, psu_self, l3, Int.add_zero]
      exact e8
    · rw [e9, zu_ne (show (-3 - 2 * d) ≠ (-2 - 2 * d) by omega), psu_ne (by omega)]
      exact f5
    · rw [e9]
      refine frQ.tr _ _ f7 (fun y y0 y1 => ⟨⟨rfl, rfl, rfl⟩, ?_, ?_⟩)
      · rw [zu_ne (show (-2 - 2 * y) ≠ (-2 - 2 * d) by omega), psu_ne (by omega)]
      · rw [zu_ne (show (-3 - 2 * y) ≠ (-2 - 2 * d) by omega), psu_ne (by omega)]
  · obtain ⟨f1, ⟨f4, f5⟩, f6, f7⟩ := hfq
    have z1 := hdz.resolve_left (by omega)
    have e9 : d + 1 - 1 = d := by omega
    rw [e9] at f4
    rcases hst with ⟨s1, s2, s3⟩ | ⟨s1, s2⟩
    · refine Or.inl ⟨s2, by omega, by rw [e9, zu_self]; exact s1, ?_, x1, x2, x3, x4, x5 + dz, xt, rfl, ?_, by omega⟩
      · rw [e9, zu_self, s3]; exact z1
      · rw [e9, zu_self, show MN (-2 - 2 * d) + 1 - 1 = MN (-2 - 2 * d) by omega, psu_ne (by omega), s3, show x5 + dz - dz = x5 by omega]
        exact f4
    · exact Or.inr (Or.inl ⟨s2, by rw [e9, zu_self]; exact s1⟩)
  have hR2 : RF2 e = RF e ∨ e = d := by
    rcases hb with t | t
    · by_cases z : e = d
      · exact Or.inr z
      · rw [t.2.2, zu_ne z]; exact Or.inl rfl
    · rw [t.2.2]; exact Or.inl rfl
  obtain ⟨m1, m2, m3, m4, m5, m6⟩ := g2 e e0 e1
  have ht5 : ∀ i : Int, 0 ≤ i → i < N → (zu pa n (-2 - 2 * d) i = -2 - 2 * e → ht i ≤ 31 - e ∧ hh i ≤ 121 - 4 * e) ∧ (zu pa n (-2 - 2 * d) i = -3 - 2 * e → ht i ≤ 31 - e ∧ hh i ≤ 122 - 4 * e) := fun i i0 i1 => by
    by_cases z : i = n
    · subst z; rw [zu_self]; exact ⟨fun q => by omega, fun q => by omega⟩
    · rw [zu_ne z]; exact m5 i i0 i1
  by_cases z : e = d
  · subst z
    refine ⟨?_, app_R m2 l1 d2 hn (by omega) hb2, m3, m4, ht5, fun q => ?_⟩
    · rw [zu_self]
      refine app_S hA l1 d2 ⟨hn, d1⟩ (by omega) hb2 (by have := l1.2.2.1; omega) ?_
      rcases hb with t | t
      · exact Or.inl ⟨t.1, by rw [t.2.2, zu_self]⟩
      · exact Or.inr ⟨t.1, by rw [t.2.2]⟩
    · rw [zu_self] at q ⊢
      refine ⟨?_, by omega, by omega⟩
      rcases hb with t | t
      · rw [t.2.2, zu_self]; exact hn
      · rw [t.2.2]; exact t.1
  · have r : RF2 e = RF e := hR2.resolve_right z
    unfold rtL
    rw [r, zu_ne z, zu_ne z]
    exact ⟨app_R m1 l1 d2 hn (by omega) hb2, app_R m2 l1 d2 hn (by omega) hb2, m3, m4, ht5, m6⟩

theorem rtj_alt {Be2 AF2 : Int → Int} {d n : Int} {x1 x2 x3 x4 x5 : Int} {xt : List Fr} (h : rtJ K O Fi Be Le Mo Z SM RF RL AF AL SD OA OF ON N ns (d + 1) n dh ((x1, x2, x3, x4, x5) :: xt) 0 ls dz) (hd : 0 ≤ d) (hn : 0 ≤ n) (hb : (AF d < 0 ∧ Be2 = Be ∧ AF2 = zu AF d n) ∨ (0 ≤ AF d ∧ Be2 = zu Be (AL d) n ∧ AF2 = AF)) (hK : K n = 4) (hhd : dh ≤ 31 - d) : rtJ K O Fi Be2 Le Mo Z SM RF RL AF2 (zu AL d n) SD OA OF ON N ns (d + 1) (-1) 0 ((x1, x2, x3, x4 + dz + 1, x5) :: xt) 0 0 0 := by
  obtain ⟨pa, po, MN, dl, st, ht, hh, PS, T, ⟨g0, g1, g2⟩, hdn, hfq, hrp, hdz⟩ := h
  obtain ⟨d1, d2, d3, d4, d5⟩ := hdn hn
  rw [if_pos hK] at d4
  obtain ⟨l1, l2, l3, l4, l5, l6⟩ := g2 d hd (by omega)
  have hb2 : (AF d < 0 ∧ Be2 = Be) ∨ (0 ≤ AF d ∧ Be2 = zu Be (AL d) n) := by
    rcases hb with t | t
    · exact Or.inl ⟨t.1, t.2.1⟩
    · exact Or.inr ⟨t.1, t.2.1⟩
  have hA := fun i a c => (g1 i a c).1
  have zn := (g1 n hn d1).1.1
  have hmv : MN (-3 - 2 * d) ≤ st n := by
    have s0 := (g1 n hn d1).2.1.1.1
    rcases Int.lt_or_le (AF d) 0 with q | q
    · rcases l2.1 with t | t <;> omega
    · obtain ⟨u1, u2, u3⟩ := l2.2.2.2.1 q
      have u4 := (g1 _ u1.1 u1.2).2.1.1.2.2 (by omega)
      have u5 := d5 _ u1.1 u1.2 (fun z => by rw [z, d2] at u2; omega)
      omega
  refine ⟨zu pa n (-3 - 2 * d), zu po n (MN (-3 - 2 * d)), zu MN (-3 - 2 * d) (MN (-3 - 2 * d) + 1), dl, st, ht, hh, psu PS (-3 - 2 * d) (MN (-3 - 2 * d) + 1) (PS (-3 - 2 * d) (MN (-3 - 2 * d)) + Z n + dl (-3 - 2 * d)), T, ⟨g0, fun i a c => ⟨app_A hA l2 ⟨hn, d1⟩ d2 (by omega) hb2 rfl (by omega) i a c, app_H (g1 i a c).2.1 hmv (by omega), app_C2 (g1 i a c).2.2 a d2 (by omega)⟩, fun e e0 e1 => ?_⟩, (fun q => by omega), ?_, Or.inr (Or.inl ⟨rfl, ?_⟩), Or.inl (by decide)⟩
  rotate_left
  · obtain ⟨f1, ⟨f4, f5⟩, f6, f7⟩ := hfq
    have z1 := hdz.resolve_left (by omega)
    have e9 : d + 1 - 1 = d := by omega
    rw [e9] at f1 f4 f5 f7
    have p5 : ceq (PS (-3 - 2 * d) (MN (-3 - 2 * d))) x4 := by
      rcases f5 with y | y
      · rw [y.1, y.2]; exact ceq.rf
      · have w := y.2.2.add (ceq.rf (a := 1)) (by omega)
        rw [show PS (-3 - 2 * d) (MN (-3 - 2 * d)) - 1 + 1 = PS (-3 - 2 * d) (MN (-3 - 2 * d)) by omega, show x4 - 1 + 1 = x4 by omega] at w
        exact w
    have e8 := p5.add z1.1 ⟨l2.2.2.1, f6.1, zn.1, z1.2⟩
    have nn := l2.2.2.1
    refine ⟨by rw [e9]; exact f1, ⟨?_, ?_⟩, ⟨by omega, f6.2⟩, ?_⟩
    · rw [e9, zu_ne (show (-2 - 2 * d) ≠ (-3 - 2 * d) by omega), psu_ne (by omega)]
      exact f4
    · rw [e9, zu_self, psu_self, l4]
      refine Or.inr ⟨by omega, by omega, ?_⟩
      rw [show PS (-3 - 2 * d) (MN (-3 - 2 * d)) + Z n + 1 - 1 = PS (-3 - 2 * d) (MN (-3 - 2 * d)) + Z n by omega, show x4 + dz + 1 - 1 = x4 + dz by omega]
      exact e8
    · rw [e9]
      refine frQ.tr _ _ f7 (fun y y0 y1 => ⟨⟨rfl, rfl, rfl⟩, ?_, ?_⟩)
      · rw [zu_ne (show (-2 - 2 * y) ≠ (-3 - 2 * d) by omega), psu_ne (by omega)]
      · rw [zu_ne (show (-3 - 2 * y) ≠ (-3 - 2 * d) by omega), psu_ne (by omega)]
  · rcases hrp with y | y | y
    · exact absurd y.1 (by decide)
    · exact y.2
    · exact absurd y (by decide)
  have hR2 : AF2 e = AF e ∨ e = d := by
    rcases hb with t | t
    · by_cases z : e = d
      · exact Or.inr z
      · rw [t.2.2, zu_ne z]; exact Or.inl rfl
    · rw [t.2.2]; exact Or.inl rfl
  obtain ⟨m1, m2, m3, m4, m5, m6⟩ := g2 e e0 e1
  have ht5 : ∀ i : Int, 0 ≤ i → i < N → (zu pa n (-3 - 2 * d) i = -2 - 2 * e → ht i ≤ 31 - e ∧ hh i ≤ 121 - 4 * e) ∧ (zu pa n (-3 - 2 * d) i = -3 - 2 * e → ht i ≤ 31 - e ∧ hh i ≤ 122 - 4 * e) := fun i i0 i1 => by
    by_cases z : i = n
    · subst z; rw [zu_self]; exact ⟨fun q => by omega, fun q => by omega⟩
    · rw [zu_ne z]; exact m5 i i0 i1
  by_cases z : e = d
  · subst z
    refine ⟨app_R m1 l2 d2 hn (by omega) hb2, ?_, m3, m4, ht5, m6⟩
    rw [zu_self]
    refine app_S hA l2 d2 ⟨hn, d1⟩ (by omega) hb2 (by have := l2.2.2.1; omega) ?_
    rcases hb with t | t
    · exact Or.inl ⟨t.1, by rw [t.2.2, zu_self]⟩
    · exact Or.inr ⟨t.1, by rw [t.2.2]⟩
  · have r : AF2 e = AF e := hR2.resolve_right z
    unfold rtL
    rw [r, zu_ne z]
    exact ⟨app_R m1 l2 d2 hn (by omega) hb2, app_R m2 l2 d2 hn (by omega) hb2, m3, m4, ht5, m6⟩

theorem rtj_row {d z : Int} {x1 x2 x3 x4 x5 : Int} {xt : List Fr} (hG : rtG K O Fi Be Le Mo Z SM RF RL AF AL SD N ns (d + 1) pa po MN dl st ht hh PS T) (hfq : frQ OA OF ON MN PS ((x1, x2, x3, x4, x5) :: xt) (d + 1)) (hd : 0 ≤ d) (hz : 0 ≤ z ∧ z ≤ 1000000000000) (hs : z = PS (-2 - 2 * d) (MN (-2 - 2 * d)) ∨ (z = 1000000000000 ∧ 1000000000000 ≤ PS (-2 - 2 * d) (MN (-2 - 2 * d)))) : rtJ (zu K N 4) (zu O N 0) (zu Fi N (RF d)) (zu Be N (-1)) Le Mo (zu Z N z) SM (zu RF d (-1)) RL AF AL (zu SD d 0) OA OF ON (N + 1) ns (d + 1) N (31 - d) ((x1, x2, x3, x4, 0) :: xt) 0 0 x5 := by
  obtain ⟨g0, g1, g2⟩ := hG
  obtain ⟨l1, l2, l3, l4, l5, l6⟩ := g2 d hd (by omega)
  refine ⟨pmv pa (-2 - 2 * d) N, po, zu (zu MN N (MN (-2 - 2 * d))) (-2 - 2 * d) 0, zu dl N (dl (-2 - 2 * d)), zu st N T, zu ht N (31 - d), zu hh N (122 - 4 * d), psm PS (-2 - 2 * d) N, T + 1, ⟨by omega, fun i a c => ⟨mv_A g0.1 hz (by omega) (by omega) (fun q => (g1 i a q).1) a c, mv_H ⟨g0.1, g0.2.1.1, by omega, by omega⟩ (by decide) (by omega) (fun q => ⟨(g1 i a q).2.1, (g1 i a q).1.2.2.1.2⟩) (fun q z => by have := (l5 i a q).1 z; omega) a c, mv_C g0.1 (by omega) (Or.inl ⟨rfl, l3, by omega⟩) ⟨l1.1, l1.2.1⟩ (fun q => (g1 i a q).2.2) a c⟩, fun e e0 e1 => ?_⟩, fun _ => ⟨by omega, pmv_N, by rw [zu_self]; omega, by rw [zu_self, zu_self, if_pos rfl]; omega, fun i i0 i1 i2 => by rw [zu_ne i2, zu_self]; have := (g1 i i0 (by omega)).2.1.1; omega⟩, ?_, Or.inr (Or.inl ⟨rfl, by rw [show d + 1 - 1 = d by omega, zu_self]; decide⟩), ?_⟩
  rotate_left
  · obtain ⟨f1, ⟨f4, f5⟩, f6, f7⟩ := hfq
    have e9 : d + 1 - 1 = d := by omega
    rw [e9] at f1 f4 f5 f7
    have cN : (-2 - 2 * d) ≠ N := by omega
    have same : ∀ y : Int, 0 ≤ y → y < d + 1 → ∀ k : Int, ((k = -2 ∧ ¬ y = d) ∨ k = -3) → psm PS (-2 - 2 * d) N (k - 2 * y) (zu (zu MN N (MN (-2 - 2 * d))) (-2 - 2 * d) 0 (k - 2 * y)) = PS (k - 2 * y) (MN (k - 2 * y)) := fun y y0 y1 k hk => by
      rw [psm_o (by omega), zu_ne (by omega), zu_ne (by omega)]
    refine ⟨by rw [e9]; exact f1, ⟨?_, ?_⟩, ⟨f6.1, Int.le_refl _⟩, ?_⟩
    · rw [e9, zu_self, psm_o cN, l1.2.1]
      exact ceq.rf
    · rw [e9, same d hd (by omega) (-3) (Or.inr rfl)]
      exact f5
    · rw [e9]
      exact frQ.tr _ _ f7 (fun y y0 y1 => ⟨⟨rfl, rfl, rfl⟩, same y y0 (by omega) (-2) (Or.inl ⟨rfl, by omega⟩), same y y0 (by omega) (-3) (Or.inr rfl)⟩)
  · refine Or.inr ⟨?_, hfq.2.2.1.2⟩
    have f4 := hfq.2.1.1
    rw [show d + 1 - 1 = d by omega] at f4
    rw [zu_self]
    unfold ceq at *
    omega
  obtain ⟨m1, m2, m3, m4, m5, m6⟩ := g2 e e0 e1
  have n1 : zu dl N (dl (-2 - 2 * d)) (-2 - 2 * e) = 0 := by rw [zu_ne (by omega)]; exact m3
  have n2 : zu dl N (dl (-2 - 2 * d)) (-3 - 2 * e) = 1 := by rw [zu_ne (by omega)]; exact m4
  have h5 : ∀ i : Int, 0 ≤ i → i < N + 1 → (pmv pa (-2 - 2 * d) N i = -2 - 2 * e → zu ht N (31 - d) i ≤ 31 - e ∧ zu hh N (122 - 4 * d) i ≤ 121 - 4 * e) ∧ (pmv pa (-2 - 2 * d) N i = -3 - 2 * e → zu ht N (31 - d) i ≤ 31 - e ∧ zu hh N (122 - 4 * d) i ≤ 122 - 4 * e) := fun i i0 i1 => ⟨fun q => mv_5 g0.1 (by omega) (fun i a c => (m5 i a c).1) i i0 i1 q, fun q => mv_5 g0.1 (by omega) (fun i a c => (m5 i a c).2) i i0 i1 q⟩
  by_cases y : e = d
  · subst y
    unfold rtL
    rw [zu_self, zu_self]
    exact ⟨mv_E g0.1 (by omega) m1.2.1 (by decide), mv_R g0.1 (by omega) m2, n1, n2, h5, fun q => by omega⟩
  · unfold rtL
    rw [zu_ne y, zu_ne y]
    refine ⟨mv_R g0.1 (by omega) m1, mv_R g0.1 (by omega) m2, n1, n2, h5, fun q => ?_⟩
    obtain ⟨q1, q2⟩ := m6 q
    have := (m1.2.2.2.1 q1).1
    rw [zu_ne (show RL e ≠ N by omega), zu_ne (show RL e ≠ N by omega)]; exact ⟨q1, q2⟩

theorem rtj_all {d z : Int} {x1 x2 x3 x4 x5 : Int} {xt : List Fr} (hG : rtG K O Fi Be Le Mo Z SM RF RL AF AL SD N ns (d + 1) pa po MN dl st ht hh PS T) (hfq : frQ OA OF ON MN PS ((x1, x2, x3, x4, x5) :: xt) (d + 1)) (hd : 0 ≤ d) (hr : RF d < 0) (hz : 0 ≤ z ∧ z ≤ 1000000000000) (hs : z + 1 = PS (-3 - 2 * d) (MN (-3 - 2 * d)) ∨ (z = 1000000000000 ∧ 1000000000000 ≤ PS (-3 - 2 * d) (MN (-3 - 2 * d)))) : rtJ (zu K N 5) (zu O N 0) (zu Fi N (AF d)) (zu Be N (-1)) Le Mo (zu Z N z) SM RF RL AF AL SD OA OF ON (N + 1) ns d N (31 - d) xt 2 0 (x4 - 1) := by
  obtain ⟨g0, g1, g2⟩ := hG
  obtain ⟨l1, l2, l3, l4, l5, l6⟩ := g2 d hd (by omega)
  have nr : ∀ i : Int, 0 ≤ i → i < N → ¬ pa i = -2 - 2 * d := fun i a c q => by
    have m0 : MN (-2 - 2 * d) = 0 := by rcases l1.1 with t | t <;> omega
    rcases (g1 i a c).1.2.2.2 with t | t
    · omega
    · have := t.2.1; rw [q] at this; omega
  refine ⟨pmv pa (-3 - 2 * d) N, po, zu (zu MN N (MN (-3 - 2 * d))) (-3 - 2 * d) 0, zu dl N (dl (-3 - 2 * d)), zu st N T, zu ht N (31 - d), zu hh N (123 - 4 * d), psm PS (-3 - 2 * d) N, T + 1, ⟨by omega, fun i a c => ⟨?_, mv_H ⟨g0.1, g0.2.1.1, by omega, by omega⟩ (by decide) (by omega) (fun q => ⟨(g1 i a q).2.1, (g1 i a q).1.2.2.1.2⟩) (fun q z => by have := (l5 i a q).2 z; omega) a c, mv_C g0.1 (by omega) (Or.inr ⟨rfl, l4, by omega⟩) ⟨l2.1, l2.2.1⟩ (fun q => (g1 i a q).2.2) a c⟩, fun e e0 e1 => ?_⟩, fun _ => ⟨by omega, pmv_N, by rw [zu_self]; omega, by rw [zu_self, zu_self, if_neg (by decide), if_pos rfl]; omega, fun i i0 i1 i2 => by rw [zu_ne i2, zu_self]; have := (g1 i i0 (by omega)).2.1.1; omega⟩, ?_, Or.inr (Or.inr rfl), ?_⟩
  · have t := mv_A (Z := Z) (z := z) (c := -3 - 2 * d) (lv := d + 1) g0.1 hz (by omega) (by omega) (fun q => (g1 i a q).1) a c
    refine ⟨t.1, t.2.1, ?_, t.2.2.2⟩
    have t3 := t.2.2.1
    by_cases y : i = N
    · subst y; rw [pmv_N]; omega
    · by_cases w : pa i = -3 - 2 * d
      · rw [pmv_c y w]; omega
      · rw [pmv_o y w] at t3 ⊢
        have := nr i a (by omega)
        omega
  · obtain ⟨m1, m2, m3, m4, m5, m6⟩ := g2 e e0 (by omega)
    refine ⟨mv_R g0.1 (by omega) m1, mv_R g0.1 (by omega) m2, by rw [zu_ne (by omega)]; exact m3, by rw [zu_ne (by omega)]; exact m4, fun i i0 i1 => ⟨fun q => mv_5 g0.1 (by omega) (fun i a c => (m5 i a c).1) i i0 i1 q, fun q => mv_5 g0.1 (by omega) (fun i a c => (m5 i a c).2) i i0 i1 q⟩, fun q => ?_⟩
    obtain ⟨q1, q2⟩ := m6 q
    have := (m1.2.2.2.1 q1).1
    rw [zu_ne (show RL e ≠ N by omega), zu_ne (show RL e ≠ N by omega)]; exact ⟨q1, q2⟩
  · obtain ⟨f1, ⟨f4, f5⟩, f6, f7⟩ := hfq
    have e9 : d + 1 - 1 = d := by omega
    rw [e9] at f7
    have same : ∀ y : Int, 0 ≤ y → y < d → ∀ k : Int, (k = -2 ∨ k = -3) → psm PS (-3 - 2 * d) N (k - 2 * y) (zu (zu MN N (MN (-3 - 2 * d))) (-3 - 2 * d) 0 (k - 2 * y)) = PS (k - 2 * y) (MN (k - 2 * y)) := fun y y0 y1 k hk => by
      rw [psm_o (by omega), zu_ne (by omega), zu_ne (by omega)]
    exact frQ.tr _ _ f7 (fun y y0 y1 => ⟨⟨rfl, rfl, rfl⟩, same y y0 y1 (-2) (Or.inl rfl), same y y0 y1 (-3) (Or.inr rfl)⟩)
  · have f5 := hfq.2.1.2
    rw [show d + 1 - 1 = d by omega] at f5
    refine Or.inr ⟨?_, ?_⟩
    · rw [zu_self]
      unfold aq ceq at *
      omega
    · unfold aq at f5
      omega
theorem rtj_group {m o z : Int} (h : rtJ K O Fi Be Le Mo Z SM RF RL AF AL SD OA OF ON N ns lv m dh fr 2 0 dz) (hm : 0 ≤ m) (hK : K m = 5) (hd1 : 1 ≤ dh) (ho : 0 ≤ o ∧ o ≤ 9) (hz : 0 ≤ z ∧ z ≤ 1000000000000) (hs : z = Z m + pin 4 o ∨ (z = 1000000000000 ∧ 1000000000000 ≤ Z m + pin 4 o)) : rtJ (zu K N 6) (zu O N o) (zu Fi N m) (zu Be N (-1)) Le Mo (zu Z N z) SM RF RL AF AL SD OA OF ON (N + 1) ns lv N dh fr 2 0 (pin 4 o + dz) := by
  obtain ⟨pa, po, MN, dl, st, ht, hh, PS, T, ⟨g0, g1, g2⟩, hdn, hfq, hrp, hdz⟩ := h
  obtain ⟨d1, d2, d3, d4, d5⟩ := hdn hm
  rw [if_neg (by omega), if_pos hK] at d4
  have mN : m ≠ N := by omega
  have pN : zu (zu pa N (-1)) m N N = -1 := by rw [zu_ne (Ne.symm mN), zu_self]
  have pm : zu (zu pa N (-1)) m N m = N := zu_self _ _ _
  have pO : ∀ i : Int, i ≠ m → i ≠ N → zu (zu pa N (-1)) m N i = pa i := fun i a c => by rw [zu_ne a, zu_ne c]
  have fr : ∀ f c : Int, f < N → pa f = c → ¬ c = -1 → zu (zu pa N (-1)) m N f = c ∧ zu po m 0 f = po f := fun f c hf h hc => by
    have e : f ≠ m := fun z => by rw [z, d2] at h; omega
    rw [pO f e (by omega), zu_ne e]; exact ⟨h, rfl⟩
  have Hm := (g1 m hm d1).2.1
  refine ⟨zu (zu pa N (-1)) m N, zu po m 0, zu MN N 1, zu dl N 0, zu st N T, zu ht N (ht m), zu hh N (hh m + 1), ps1 PS N (Z m), T + 1, ⟨by omega, fun i a c => ⟨?_, ?_, ?_⟩, fun e e0 e1 => ?_⟩, fun _ => ⟨by omega, pN, by rw [zu_self]; exact d3, by rw [zu_self, zu_self, if_neg (by decide), if_neg (by decide)]; omega, fun i i0 i1 i2 => by rw [zu_ne i2, zu_self]; have := (g1 i i0 (by omega)).2.1.1; omega⟩, ?_, Or.inr (Or.inr rfl), ?_⟩
  · by_cases e : i = N
    · subst e
      unfold rtA
      rw [zu_self, zu_self, pN]
      exact ⟨hz, by omega, by omega, Or.inl ⟨rfl, rfl⟩⟩
    · obtain ⟨a1, a2, a3, a4⟩ := (g1 i a (by omega)).1
      unfold rtA
      rw [zu_ne e, zu_ne e]
      refine ⟨a1, by omega, ?_, ?_⟩
      · by_cases y : i = m
        · subst y; rw [pm]; omega
        · rw [pO i y e]; omega
      · by_cases y : i = m
        · subst y
          right
          have b : Be i = -1 := by rcases a4 with t | t; (exact t.2); (exact absurd d2 t.1)
          rw [pm, zu_self, zu_self, zu_self, ps1_0, b]
          refine ⟨by omega, by omega, by omega, ?_, fun _ => rfl, fun q => by omega⟩
          show ps1 PS N (Z i) N (0 + 1) = _
          rw [show (0 : Int) + 1 = 1 by omega, ps1_1]; omega
        · rw [pO i y e]
          rcases a4 with t | ⟨t1, t2, t3, t4, t5, t6⟩
          · exact Or.inl t
          · right
            have q : pa i ≠ N := by omega
            rw [zu_ne y, zu_ne q, zu_ne q, ps1_o q, ps1_o q]
            refine ⟨t1, t2, t3, t4, t5, fun u => ?_⟩
            have w := t6 u
            have v := fr (Be i) (pa i) a2.2 w.1 t1
            exact ⟨v.1, by rw [v.2]; exact w.2⟩
  · by_cases e : i = N
    · subst e
      unfold rtH
      rw [zu_self, zu_self, zu_self, zu_self, pN]
      have h4 := Hm.2.1.2.2 (by omega)
      exact ⟨⟨by omega, by omega, fun q => absurd rfl q⟩, ⟨Hm.2.1.1, by have := Hm.2.1.2.1; omega, fun _ => h4⟩, fun q => by omega⟩
    · obtain ⟨t1, t2, t3⟩ := (g1 i a (by omega)).2.1
      unfold rtH
      rw [zu_ne e, zu_ne e, zu_ne e, zu_ne e]
      refine ⟨⟨t1.1, by omega, fun q => ?_⟩, t2, fun q => ?_⟩
      · by_cases y : i = m
        · subst y; rw [zu_self]; exact t1.1
        · rw [zu_ne y]; rw [pO i y e] at q; exact t1.2.2 q
      by_cases y : i = m
      · subst y; rw [pm, zu_self, zu_self, zu_self, zu_self]; exact ⟨t1.2.1, by omega, by omega, fun z => by omega⟩
      · rw [pO i y e] at q ⊢
        have r : pa i ≠ N := by have := (g1 i a (by omega)).1.2.2.1; omega
        rw [zu_ne r, zu_ne r, zu_ne r, zu_ne r]; exact t3 q
  · by_cases e : i = N
    · subst e
      unfold rtC
      rw [zu_self, zu_self, zu_self, zu_self, zu_ne mN, pm]
      refine ⟨by omega, fun q => by omega, fun q => by omega, fun q => by omega, fun q => by omega, fun q => by omega, fun q => by omega, fun q => ⟨⟨hm, by omega, rfl⟩, ho, by unfold pin at hs; rw [if_pos rfl] at hs; by_cases o0 : o = 0; (rw [if_pos o0] at hs; rw [if_neg (by omega)]; omega); (rw [if_neg o0] at hs; rw [if_pos (by omega)]; omega)⟩, fun q => by omega⟩
    · obtain ⟨c0, c1, c2, c3, c4, c5, c6, c7, c8⟩ := (g1 i a (by omega)).2.2
      have ps : ∀ p : Int, ps1 PS N (Z m) i p = PS i p := fun p => ps1_o e
      have mn : zu MN N 1 i = MN i := zu_ne e
      have dle : zu dl N 0 i = dl i := zu_ne e
      have rf : rtF N pa po MN i (Fi i) → rtF (N + 1) (zu (zu pa N (-1)) m N) (zu po m 0) (zu MN N 1) i (Fi i) := by
        rintro (t | ⟨t1, t2, t3, t4⟩)
        · exact Or.inl ⟨t.1, by rw [mn]; exact t.2⟩
        · have v := fr (Fi i) i t1.2 t2 (by omega)
          exact Or.inr ⟨by omega, v.1, by rw [v.2]; exact t3, by rw [mn]; exact t4⟩
      unfold rtC
      rw [zu_ne e, zu_ne e, zu_ne e, zu_ne e, ps, ps, mn, dle]
      refine ⟨c0, c1, c2, c3, c4, fun h => ?_, fun h => ?_, fun h => ?_, fun h => ?_⟩
      · obtain ⟨t1, t2⟩ := c5 h; exact ⟨rf t1, t2⟩
      · obtain ⟨t1, t2⟩ := c6 h; exact ⟨rf t1, t2⟩
      · obtain ⟨t1, t2⟩ := c7 h
        rw [zu_ne (show Fi i ≠ N by omega)]
        exact ⟨⟨t1.1, by omega, (fr _ i t1.2.1 t1.2.2 (by omega)).1⟩, t2⟩
      · obtain ⟨t1, t2⟩ := c8 h
        rw [zu_ne (show Fi i ≠ N by omega)]
        exact ⟨⟨t1.1, by omega, (fr _ i t1.2.1 t1.2.2 (by omega)).1⟩, t2⟩
  · obtain ⟨m1, m2, m3, m4, m5, m6⟩ := g2 e e0 e1
    have up : ∀ c f l : Int, rtR Be N pa po MN dl PS c f l → c < -1 → rtR (zu Be N (-1)) (N + 1) (zu (zu pa N (-1)) m N) (zu po m 0) (zu MN N 1) (zu dl N 0) (ps1 PS N (Z m)) c f l := by
      rintro c f l ⟨r1, r2, r3, r4, r5⟩ hc
      have mn : zu MN N 1 c = MN c := zu_ne (by omega)
      refine ⟨?_, by rw [ps1_o (by omega)]; exact r2, by rw [mn, ps1_o (by omega)]; exact r3, fun q => ?_, fun i i0 i1 q1 q2 => ?_⟩
      · rcases r1 with t | ⟨t1, t2, t3, t4⟩
        · exact Or.inl ⟨t.1, by rw [mn]; exact t.2⟩
        · have v := fr f c t1.2 t2 (by omega)
          exact Or.inr ⟨by omega, v.1, by rw [v.2]; exact t3, by rw [mn]; exact t4⟩
      · obtain ⟨t1, t2, t3⟩ := r4 q
        have v := fr l c t1.2 t2 (by omega)
        exact ⟨by omega, v.1, by rw [v.2, mn]; exact t3⟩
      · by_cases y : i = N
        · subst y; rw [pN] at q1; omega
        · by_cases w : i = m
          · subst w; rw [pm] at q1; omega
          · rw [pO i w y] at q1; rw [zu_ne y] at q2; exact r5 i i0 (by omega) q1 q2
    refine ⟨up _ _ _ m1 (by omega), up _ _ _ m2 (by omega), by rw [zu_ne (by omega)]; exact m3, by rw [zu_ne (by omega)]; exact m4, fun i i0 i1 => ?_, fun q => ?_⟩
    · by_cases y : i = N
      · subst y; rw [pN]; exact ⟨fun q => by omega, fun q => by omega⟩
      · by_cases w : i = m
        · subst w; rw [pm]; exact ⟨fun q => by omega, fun q => by omega⟩
        · rw [pO i w y, zu_ne y, zu_ne y]; exact m5 i i0 (by omega)
    · obtain ⟨q1, q2⟩ := m6 q
      have := (m1.2.2.2.1 q1).1
      rw [zu_ne (show RL e ≠ N by omega), zu_ne (show RL e ≠ N by omega)]; exact ⟨q1, q2⟩
  · refine frQ.tr _ _ hfq (fun y y0 y1 => ⟨⟨rfl, rfl, rfl⟩, ?_, ?_⟩)
    · rw [ps1_o (by omega), zu_ne (by omega)]
    · rw [ps1_o (by omega), zu_ne (by omega)]
  · have z1 := hdz.resolve_left (by omega)
    have p0 := pin_0 4 o
    have zm := (g1 m hm d1).1.1
    refine Or.inr ⟨?_, by omega⟩
    have e8 := z1.1.add (ceq.rf (a := pin 4 o)) (by omega)
    rw [zu_self]
    unfold ceq at *
    omega
theorem rtj_rep {d n z le mo w : Int} {x1 x2 x3 x4 x5 : Int} {xt : List Fr} (h : rtJ K O Fi Be Le Mo Z SM RF RL AF AL SD OA OF ON N ns (d + 1) (-1) dh ((x1, x2, x3, x4, x5) :: xt) 1 ls dz) (hd : 0 ≤ d) (hn : RL d = n) (hs : SD d = 1) (hle : 0 ≤ le ∧ le ≤ 100) (hmo : -1 ≤ mo ∧ mo ≤ 100) (hlm : 0 ≤ mo → le ≤ mo) (hz : 0 ≤ z ∧ z ≤ 1000000000000) (hz1 : mo < 0 → (le + 1) * Z n + 1 ≤ z ∨ z = 1000000000000) (hz2 : 0 ≤ mo → mo * Z n + mo - le ≤ z ∨ z = 1000000000000) (hw : ceq z w ∧ 0 ≤ w) : rtJ (zu (zu K N (K n)) n 7) (zu O N (O n)) (zu (zu Fi N (Fi n)) n N) (zu Be N (-1)) (zu (zu Le N (Le n)) n le) (zu (zu Mo N (Mo n)) n mo) (zu (zu Z N (Z n)) n z) SM RF RL AF AL (zu SD d 2) OA OF ON (N + 1) ns (d + 1) (-1) 0 ((x1, x2, x3, x4, x5 - ls + w) :: xt) 0 0 0 := by
  obtain ⟨pa, po, MN, dl, st, ht, hh, PS, T, ⟨g0, g1, g2⟩, hdn, hfq, hrp, hdz⟩ := h
  obtain ⟨l1, l2, l3, l4, l5, l6⟩ := g2 d hd (by omega)
  obtain ⟨s1, s2, s3⟩ := l6 hs
  obtain ⟨r1, r2, r3⟩ := l1.2.2.2.1 s1
  rw [hn] at r1 r2 r3 s2 s3
  obtain ⟨An, Hn, Cn⟩ := g1 n r1.1 r1.2
  have nN : n ≠ N := by omega
  have bn : Be n = -1 := by
    rcases An.2.2.2 with t | t
    · omega
    · rcases Int.lt_or_le (Be n) 0 with q | q
      · have := An.2.1; omega
      · have u := t.2.2.2.2.2 q
        have v := (g1 (Be n) q An.2.1.2).1.2.2.2
        rcases v with v | v
        · omega
        · have w := v.2.1; rw [u.1, r2] at w; omega
  have pn : prp pa n N n = -2 - 2 * d := by rw [prp_o nN (by omega)]; exact r2
  have cN : (-2 - 2 * d) ≠ N := by omega
  have cn : (-2 - 2 * d) ≠ n := by omega
  have tn := An.2.2.2.resolve_left (by omega)
  rw [r2] at tn
  have fr : ∀ f c : Int, f < N → pa f = c → ¬ c = n → prp pa n N f = c := fun f c hf h hc => by rw [prp_o (by omega) (by omega)]; exact h
  refine ⟨prp pa n N, zu po N 0, zu (zu MN N (MN n)) n 1, zu (zu dl N (dl n)) n 0, zu (zu st N (st n)) n T, zu (zu ht N (ht n)) n (ht n + 1), zu (zu hh N (hh n)) n (hh n + 1), psr PS n N (-2 - 2 * d) (MN (-2 - 2 * d)) (Z n) (PS (-2 - 2 * d) (po n) + z), T + 1, ⟨by omega, fun i a c => ⟨?_, ?_, ?_⟩, fun e e0 e1 => ?_⟩, (fun q => by omega), ?_, Or.inr (Or.inl ⟨rfl, by rw [show d + 1 - 1 = d by omega, zu_self]; decide⟩), Or.inl (by decide)⟩
  · -- places
    by_cases e : i = N
    · subst e
      unfold rtA
      rw [zu_ne (Ne.symm nN), zu_self, zu_self, zu_self, prp_N, zu_self, zu_self, psr_n0 nN]
      refine ⟨An.1, by omega, by omega, Or.inr ⟨by omega, by omega, by omega, ?_, fun _ => rfl, fun q => by omega⟩⟩
      rw [show (0 : Int) + 1 = 1 by omega, psr_n1 nN]; omega
    · by_cases y : i = n
      · subst y
        unfold rtA
        rw [zu_self, zu_ne e, pn, zu_ne e, bn, zu_ne cn, zu_ne cN, zu_ne cn, zu_ne cN, psr_o cN cn (by omega), r3, psr_c cN cn, l3]
        exact ⟨hz, by omega, by omega, Or.inr ⟨by omega, by omega, tn.2.2.1, by omega, fun _ => rfl, fun q => by omega⟩⟩
      · obtain ⟨a1, a2, a3, a4⟩ := (g1 i a (by omega)).1
        unfold rtA
        rw [zu_ne y, zu_ne e, zu_ne e, zu_ne e]
        refine ⟨a1, by omega, ?_, ?_⟩
        · by_cases w : pa i = n
          · rw [prp_c e w]; omega
          · rw [prp_o e w]; omega
        · rcases a4 with t | ⟨t1, t2, t3, t4, t5, t6⟩
          · left; rw [prp_o e (by omega)]; exact t
          · right
            have po2 : 0 ≤ Be i → zu po N 0 (Be i) = po (Be i) := fun _ => zu_ne (by omega)
            by_cases w : pa i = n
            · rw [prp_c e w, zu_ne (Ne.symm nN), zu_self, zu_ne (Ne.symm nN), zu_self, psr_N, psr_N]
              rw [w] at t2 t3 t4 t5 t6
              exact ⟨by omega, t2, t3, t4, t5, fun u => ⟨prp_c (by omega) (t6 u).1, by rw [po2 u]; exact (t6 u).2⟩⟩
            · have pN : pa i ≠ N := by omega
              rw [prp_o e w, zu_ne w, zu_ne pN, zu_ne w, zu_ne pN]
              have same : ∀ p : Int, p ≤ po i + 1 → psr PS n N (-2 - 2 * d) (MN (-2 - 2 * d)) (Z n) (PS (-2 - 2 * d) (po n) + z) (pa i) p = PS (pa i) p := fun p hp => by
                refine psr_o pN w (fun v => ?_)
                have hlast : ¬ Be i = -1 := fun b => y (by have := l1.2.2.2.2 i a (by omega) v.1 b; omega)
                have u := t6 (by omega)
                have q4 := (g1 (Be i) (by omega) (by omega)).1.2.2.2.resolve_left (fun t => by omega)
                have q5 := q4.2.1
                rw [u.1, u.2, v.1] at q5
                omega
              rw [same _ (by omega), same _ (by omega)]
              exact ⟨t1, t2, t3, t4, t5, fun u => ⟨by rw [prp_o (by omega) (by rw [(t6 u).1]; exact w)]; exact (t6 u).1, by rw [po2 u]; exact (t6 u).2⟩⟩
  · -- stamps
    by_cases e : i = N
    · subst e
      unfold rtH
      simp only [zu_ne (Ne.symm nN), zu_self, prp_N]
      exact ⟨⟨Hn.1.1, by have := Hn.1; omega, fun _ => Hn.1.1⟩, Hn.2.1, fun _ => ⟨Hn.1.2.1, by omega, by omega, fun _ _ => by omega⟩⟩
    · by_cases y : i = n
      · subst y
        unfold rtH
        simp only [zu_self, pn, zu_ne e]
        have hq := Hn.1.2.2 (by omega)
        exact ⟨⟨by omega, by omega, fun _ => by have := Hn.1; omega⟩, by have := Hn.2.1; omega, fun q => by omega⟩
      · obtain ⟨t1, t2, t3⟩ := (g1 i a (by omega)).2.1
        have a3 := (g1 i a (by omega)).1.2.2.1
        unfold rtH
        simp only [zu_ne y, zu_ne e]
        refine ⟨⟨t1.1, by omega, fun q => t1.2.2 (fun z => q (by rw [prp_o e (by omega)]; exact z))⟩, t2, fun q => ?_⟩
        by_cases w : pa i = n
        · have u := t3 (by omega)
          rw [w] at u
          simp only [prp_c e w, zu_ne (Ne.symm nN), zu_self]
          exact u
        · rw [prp_o e w] at q ⊢
          have pN : pa i ≠ N := by omega
          simp only [zu_ne w, zu_ne pN]
          exact t3 q
  · -- kinds
    by_cases e : i = N
    · subst e
      obtain ⟨c0, c1, c2, c3, c4, c5, c6, c7, c8⟩ := Cn
      have rf : rtF i pa po MN n (Fi n) → rtF (i + 1) (prp pa n i) (zu po i 0) (zu (zu MN i (MN n)) n 1) i (Fi n) := by
        rintro (t | ⟨t1, t2, t3, t4⟩)
        · exact Or.inl ⟨t.1, by rw [zu_ne (Ne.symm nN), zu_self]; exact t.2⟩
        · exact Or.inr ⟨by omega, prp_c (by omega) t2, by rw [zu_ne (show Fi n ≠ i by omega)]; exact t3, by rw [zu_ne (Ne.symm nN), zu_self]; exact t4⟩
      have fz : ∀ f : Int, 0 ≤ f → f < i → pa f = n → zu (zu Z i (Z n)) n z f = Z f := fun f f0 f1 h => by
        rw [zu_ne (fun q => by rw [q] at h; omega), zu_ne (by omega)]
      unfold rtC
      rw [zu_ne (Ne.symm nN), zu_self, zu_self, zu_ne (Ne.symm nN), zu_self, zu_ne (Ne.symm nN), zu_self, zu_ne (Ne.symm nN), zu_self, zu_ne (Ne.symm nN), zu_self, zu_ne (Ne.symm nN), zu_self, zu_ne (Ne.symm nN), zu_self, psr_N, psr_N]
      refine ⟨c0, c1, c2, c3, c4, fun q => ⟨rf (c5 q).1, (c5 q).2⟩, fun q => ⟨rf (c6 q).1, (c6 q).2⟩, fun q => ?_, fun q => ?_⟩
      · obtain ⟨t1, t2⟩ := c7 q
        rw [fz _ t1.1 t1.2.1 t1.2.2]
        exact ⟨⟨t1.1, by omega, prp_c (by omega) t1.2.2⟩, t2⟩
      · obtain ⟨t1, t2⟩ := c8 q
        rw [fz _ t1.1 t1.2.1 t1.2.2]
        exact ⟨⟨t1.1, by omega, prp_c (by omega) t1.2.2⟩, t2⟩
    · by_cases y : i = n
      · subst y
        have zN : zu (zu Z N (Z i)) i z N = Z i := by rw [zu_ne (Ne.symm e), zu_self]
        unfold rtC
        simp only [zu_self, zN, prp_N]
        refine ⟨by omega, fun q => by omega, fun q => by omega, fun q => by omega, fun q => by omega, fun q => by omega, fun q => by omega, fun q => by omega, fun _ => ⟨⟨g0.1, by omega, trivial⟩, hle, hmo, hlm, hz1, hz2⟩⟩
      · obtain ⟨c0, c1, c2, c3, c4, c5, c6, c7, c8⟩ := (g1 i a (by omega)).2.2
        have cf : ∀ p : Int, psr PS n N (-2 - 2 * d) (MN (-2 - 2 * d)) (Z n) (PS (-2 - 2 * d) (po n) + z) i p = PS i p := fun p => psr_o e y (by omega)
        have mn : zu (zu MN N (MN n)) n 1 i = MN i := by rw [zu_ne y, zu_ne e]
        have dle : zu (zu dl N (dl n)) n 0 i = dl i := by rw [zu_ne y, zu_ne e]
        have rf : rtF N pa po MN i (Fi i) → rtF (N + 1) (prp pa n N) (zu po N 0) (zu (zu MN N (MN n)) n 1) i (Fi i) := by
          rintro (t | ⟨t1, t2, t3, t4⟩)
          · exact Or.inl ⟨t.1, by rw [mn]; exact t.2⟩
          · exact Or.inr ⟨by omega, fr _ i t1.2 t2 y, by rw [zu_ne (by omega)]; exact t3, by rw [mn]; exact t4⟩
        have fz : ∀ f : Int, 0 ≤ f → f < N → pa f = i → zu (zu Z N (Z n)) n z f = Z f := fun f f0 f1 h => by
          rw [zu_ne (fun q => by rw [q] at h; omega), zu_ne (by omega)]
        unfold rtC
        simp only [zu_ne y, zu_ne e, cf]
        refine ⟨c0, c1, c2, c3, c4, fun q => ⟨rf (c5 q).1, (c5 q).2⟩, fun q => ⟨rf (c6 q).1, (c6 q).2⟩, fun q => ?_, fun q => ?_⟩
        · obtain ⟨t1, t2⟩ := c7 q
          rw [fz _ t1.1 t1.2.1 t1.2.2]
          exact ⟨⟨t1.1, by omega, fr _ i t1.2.1 t1.2.2 y⟩, t2⟩
        · obtain ⟨t1, t2⟩ := c8 q
          rw [fz _ t1.1 t1.2.1 t1.2.2]
          exact ⟨⟨t1.1, by omega, fr _ i t1.2.1 t1.2.2 y⟩, t2⟩
  · -- levels
    obtain ⟨m1, m2, m3, m4, m5, m6⟩ := g2 e e0 e1
    have up : ∀ c f l : Int, rtR Be N pa po MN dl PS c f l → c < -1 → rtR (zu Be N (-1)) (N + 1) (prp pa n N) (zu po N 0) (zu (zu MN N (MN n)) n 1) (zu (zu dl N (dl n)) n 0) (psr PS n N (-2 - 2 * d) (MN (-2 - 2 * d)) (Z n) (PS (-2 - 2 * d) (po n) + z)) c f l := by
      rintro c f l ⟨q1, q2, q3, q4, q5⟩ hc
      have mn : zu (zu MN N (MN n)) n 1 c = MN c := by rw [zu_ne (by omega), zu_ne (by omega)]
      refine ⟨?_, ?_, ?_, fun q => ?_, fun i i0 i1 w1 w2 => ?_⟩
      · rcases q1 with t | ⟨t1, t2, t3, t4⟩
        · exact Or.inl ⟨t.1, by rw [mn]; exact t.2⟩
        · exact Or.inr ⟨by omega, fr _ c t1.2 t2 (by omega), by rw [zu_ne (by omega)]; exact t3, by rw [mn]; exact t4⟩
      · rw [psr_o (by omega) (by omega) (fun t => by have := tn.2.1; omega)]; exact q2
      · rw [mn]
        by_cases w : c = -2 - 2 * d
        · subst w; rw [psr_c (by omega) (by omega)]; have := tn.2.2.1; omega
        · rw [psr_o (by omega) (by omega) (fun t => w t.1)]; exact q3
      · obtain ⟨t1, t2, t3⟩ := q4 q
        exact ⟨by omega, fr _ c t1.2 t2 (by omega), by rw [zu_ne (by omega), mn]; exact t3⟩
      · by_cases y : i = N
        · subst y; rw [prp_N] at w1; omega
        · by_cases w : pa i = n
          · rw [prp_c y w] at w1; omega
          · rw [prp_o y w] at w1; rw [zu_ne y] at w2; exact q5 i i0 (by omega) w1 w2
    have h5 : ∀ i : Int, 0 ≤ i → i < N + 1 → (prp pa n N i = -2 - 2 * e → zu (zu ht N (ht n)) n (ht n + 1) i ≤ 31 - e ∧ zu (zu hh N (hh n)) n (hh n + 1) i ≤ 121 - 4 * e) ∧ (prp pa n N i = -3 - 2 * e → zu (zu ht N (ht n)) n (ht n + 1) i ≤ 31 - e ∧ zu (zu hh N (hh n)) n (hh n + 1) i ≤ 122 - 4 * e) := fun i i0 i1 => by
      by_cases y : i = N
      · subst y; rw [prp_N]; exact ⟨fun q => by omega, fun q => by omega⟩
      · by_cases w : i = n
        · subst w; simp only [pn, zu_self]; exact ⟨fun q => by omega, fun q => by omega⟩
        · simp only [zu_ne w, zu_ne y]
          by_cases x : pa i = n
          · rw [prp_c y x]; exact ⟨fun q => by omega, fun q => by omega⟩
          · rw [prp_o y x]; exact m5 i i0 (by omega)
    have n1 : zu (zu dl N (dl n)) n 0 (-2 - 2 * e) = 0 := by rw [zu_ne (by omega), zu_ne (by omega)]; exact m3
    have n2 : zu (zu dl N (dl n)) n 0 (-3 - 2 * e) = 1 := by rw [zu_ne (by omega), zu_ne (by omega)]; exact m4
    refine ⟨up _ _ _ m1 (by omega), up _ _ _ m2 (by omega), n1, n2, h5, fun q => ?_⟩
    by_cases y : e = d
    · subst y; rw [zu_self] at q; omega
    · rw [zu_ne y] at q
      obtain ⟨q1, q2⟩ := m6 q
      have u := m1.2.2.2.1 q1
      have k1 : RL e ≠ n := fun w => by have := u.2.1; rw [w, r2] at this; omega
      have k2 : RL e ≠ N := by omega
      simp only [zu_ne k1, zu_ne k2]; exact ⟨q1, q2⟩
  · obtain ⟨f1, ⟨f4, f5⟩, f6, f7⟩ := hfq
    have e9 : d + 1 - 1 = d := by omega
    rw [e9] at f1 f5 f7
    have k := hrp.resolve_right (fun y => by omega)
    obtain ⟨_, _, _, ⟨k1, k2⟩, a', b', c', d', e', t', k3, k4, k5⟩ := k
    cases k3
    rw [e9, ← r3, show po n + 1 - 1 = po n by omega] at k4
    have same : ∀ y : Int, 0 ≤ y → y < d + 1 → ∀ k : Int, ((k = -2 ∧ ¬ y = d) ∨ k = -3) → psr PS n N (-2 - 2 * d) (MN (-2 - 2 * d)) (Z n) (PS (-2 - 2 * d) (po n) + z) (k - 2 * y) (zu (zu MN N (MN n)) n 1 (k - 2 * y)) = PS (k - 2 * y) (MN (k - 2 * y)) := fun y y0 y1 k hk => by
      rw [zu_ne (by omega), zu_ne (by omega), psr_o (by omega) (by omega) (by omega)]
    refine ⟨by rw [e9]; exact f1, ⟨?_, ?_⟩, ⟨f6.1, by omega⟩, ?_⟩
    · rw [e9, zu_ne cn, zu_ne cN, psr_c cN cn]
      exact k4.add hw.1 ⟨tn.2.2.1, k5, hz.1, hw.2⟩
    · rw [e9, same d hd (by omega) (-3) (Or.inr rfl)]
      exact f5
    · rw [e9]
      exact frQ.tr _ _ f7 (fun y y0 y1 => ⟨⟨rfl, rfl, rfl⟩, same y y0 (by omega) (-2) (Or.inl ⟨rfl, by omega⟩), same y y0 (by omega) (-3) (Or.inr rfl)⟩)
theorem rtj_ns {v : Int} (h : rtJ K O Fi Be Le Mo Z SM RF RL AF AL SD OA OF ON N ns lv dn dh fr rp ls dz) : rtJ K O Fi Be Le Mo Z (zu SM ns v) RF RL AF AL SD OA OF ON N (ns + 1) lv dn dh fr rp ls dz := by
  obtain ⟨pa, po, MN, dl, st, ht, hh, PS, T, ⟨g0, g1, g2⟩, hd, hfq, hrp, hdz⟩ := h
  refine ⟨pa, po, MN, dl, st, ht, hh, PS, T, ⟨g0, fun i a c => ?_, g2⟩, hd, hfq, hrp, hdz⟩
  obtain ⟨h1, h2, c0, c1, c2, c3⟩ := g1 i a c
  refine ⟨h1, h2, c0, c1, fun q => ?_, c3⟩
  obtain ⟨t1, t2⟩ := c2 q
  rw [zu_ne (show O i ≠ ns by omega)]
  exact ⟨by omega, t2⟩

end TreeJ
theorem rtJ.ls {K O Fi Be Le Mo Z SM RF RL AF AL SD OA OF ON : Int → Int} {N ns lv dn dh : Int} {fr : List Fr} {ls dz : Int} (h : rtJ K O Fi Be Le Mo Z SM RF RL AF AL SD OA OF ON N ns lv dn dh fr 1 ls dz) : ceq (Z (RL (lv - 1))) ls ∧ 0 ≤ ls := by
  obtain ⟨pa, po, MN, dl, st, ht, hh, PS, T, _, _, _, h, _⟩ := h
  rcases h with h | h | h
  · exact h.2.2.2.1
  · exact absurd h.1 (by decide)
  · exact absurd h (by decide)
theorem rep_wi {z x ls le mo9 v : Int} (hm : mo9 = 1000) (h : ceq x ls) (h0 : 0 ≤ ls) (hl : 0 ≤ le) (hv : v = le * x) (hz : z = v + x + 1 ∨ (z = 1000000000000 ∧ 1000000000000 ≤ v + x + 1)) : ceq z (tms le mo9 * ls + mre le mo9) ∧ 0 ≤ tms le mo9 * ls + mre le mo9 := by
  have e := h.mul (t := le + 1) (m := 1) (by omega) (by decide)
  rw [Int.add_mul, Int.one_mul, ← hv] at e
  have n : 0 ≤ (le + 1) * ls := Int.mul_nonneg (by omega) h0
  unfold tms mre
  rw [if_pos hm, if_pos hm]
  refine ⟨?_, by omega⟩
  unfold ceq at *
  omega
theorem rep_wf {z x ls le mo mo9 v : Int} (hm : mo9 = mo) (hk : ¬ mo = 1000) (h : ceq x ls) (h0 : 0 ≤ ls) (hl : 0 ≤ le ∧ le ≤ mo) (hv : v = mo * x) (hz : z = v + mo - le ∨ (z = 1000000000000 ∧ 1000000000000 ≤ v + mo - le)) : ceq z (tms le mo9 * ls + mre le mo9) ∧ 0 ≤ tms le mo9 * ls + mre le mo9 := by
  have e := h.mul (t := mo) (m := mo - le) (by omega) (by omega)
  rw [← hv] at e
  have n : 0 ≤ mo * ls := Int.mul_nonneg (by omega) h0
  unfold tms mre
  rw [hm, if_neg hk, if_neg hk]
  refine ⟨?_, by omega⟩
  unfold ceq at *
  omega
