/-! what the reference's tree means: dm a node, pm the list that a node stands in, up to it -/
def cm2 (d : Int) (u v : Sn) : Sn := if d = 0 then mnC u v else mnO u v
theorem cm2_0 {u v : Sn} : cm2 0 u v = mnC u v := if_pos rfl
theorem cm2_1 {u v : Sn} : cm2 1 u v = mnO u v := if_neg (by decide)
def asq (a : Int) : Int := if a = 2 then 4 else if a = 3 then 5 else if a = 4 then 2 else if a = 5 then 3 else a
def moE (m : Int) : Int := if m < 0 then 1000 else m
def rtD (K O Fi Be Le Mo La : Int → Int) (SV : Int → Int → Prop) (N : Int) (pa : Int → Int) (dm pm : Int → Sn) (i : Int) : Prop := (K i = 0 → dm i = mnI) ∧ (K i = 1 → dm i = mnS (SV (O i))) ∧ (K i = 2 → dm i = mnA) ∧ (K i = 3 → dm i = mnQ (asq (O i))) ∧ (K i = 4 ∨ K i = 5 → (Fi i < 0 → dm i = mnI) ∧ ∀ j : Int, 0 ≤ j → j < N → pa j = i → Be j = -1 → dm i = pm j) ∧ (K i = 6 → dm i = mnG (O i) (dm (Fi i))) ∧ (K i = 7 → dm i = mnR (Le i) (moE (Mo i)) (La i) (dm (Fi i)))
def rtM (K O Fi Be Le Mo La : Int → Int) (SV : Int → Int → Prop) (N : Int) (pa po dl : Int → Int) (dm pm : Int → Sn) : Prop := (∀ j : Int, 0 ≤ j → j < N → 0 ≤ Be j → pm (Be j) = cm2 (dl (pa j)) (pm j) (dm (Be j))) ∧ (∀ j : Int, 0 ≤ j → j < N → ¬ pa j = -1 → po j = 0 → pm j = dm j) ∧ ∀ i : Int, 0 ≤ i → i < N → rtD K O Fi Be Le Mo La SV N pa dm pm i
/-- levels: what their alternatives mean, what their row means -/
def frM (RF RL AF AL : Int → Int) (pm : Int → Sn) : List Fs → Int → Prop
  | [], lv => lv = 0
  | (ao, ro) :: t, lv => ((RF (lv - 1) < 0 → ro = mnI) ∧ (0 ≤ RF (lv - 1) → ro = pm (RL (lv - 1)))) ∧ ((AF (lv - 1) < 0 → ao = none) ∧ (0 ≤ AF (lv - 1) → ao = some (pm (AL (lv - 1))))) ∧ frM RF RL AF AL pm t (lv - 1)
/-- the last part of the row, once, and what the row meant before it -/
def rpM (Be po RL : Int → Int) (N : Int) (dm pm : Int → Sn) (lv rp : Int) (ro v : Sn) : Prop := rp = 1 → dm (RL (lv - 1)) = v ∧ (po (RL (lv - 1)) = 0 → ro = mnI) ∧ ∀ j : Int, 0 ≤ j → j < N → Be j = RL (lv - 1) → pm j = ro
def snu (f : Int → Sn) (a : Int) (v : Sn) : Int → Sn := fun i => if i = a then v else f i
theorem snu_s {f : Int → Sn} {a : Int} {v : Sn} : snu f a v a = v := if_pos rfl
theorem snu_ne {f : Int → Sn} {a i : Int} {v : Sn} (h : ¬ i = a) : snu f a v i = f i := if_neg h
theorem frM.len {RF RL AF AL : Int → Int} {pm : Int → Sn} : ∀ (FS : List Fs) (lv : Int), frM RF RL AF AL pm FS lv → lv = FS.length := by
  intro FS
  induction FS with
  | nil => intro lv h; exact h
  | cons x t ih =>
    intro lv h
    obtain ⟨ao, ro⟩ := x
    have := ih _ h.2.2
    rw [List.length_cons]
    omega
theorem frM.tr {RF RL AF AL RF2 RL2 AF2 AL2 : Int → Int} {pm pm2 : Int → Sn} : ∀ (FS : List Fs) (lv : Int), frM RF RL AF AL pm FS lv → (∀ d : Int, 0 ≤ d → d < lv → (RF2 d = RF d ∧ AF2 d = AF d) ∧ (0 ≤ RF d → pm2 (RL2 d) = pm (RL d)) ∧ (0 ≤ AF d → pm2 (AL2 d) = pm (AL d))) → frM RF2 RL2 AF2 AL2 pm2 FS lv := by
  intro FS
  induction FS with
  | nil => intro lv h _; exact h
  | cons x t ih =>
    intro lv h q
    obtain ⟨ao, ro⟩ := x
    obtain ⟨⟨h1, h2⟩, ⟨h3, h4⟩, h5⟩ := h
    have l := frM.len _ _ h5
    obtain ⟨⟨q1, q2⟩, q3, q4⟩ := q (lv - 1) (by omega) (by omega)
    refine ⟨⟨by rw [q1]; exact h1, fun z => ?_⟩, ⟨by rw [q2]; exact h3, fun z => ?_⟩, ih _ h5 (fun y y0 y1 => q y y0 (by omega))⟩
    · rw [q1] at z; rw [q3 z]; exact h2 z
    · rw [q2] at z; rw [q4 z]; exact h4 z
section TreeM
variable {K O Fi Be Le Mo La Z SM RF RL AF AL SD : Int → Int} {SV : Int → Int → Prop} {N ns lv : Int} {pa po MN dl st ht hh : Int → Int} {PS : Int → Int → Int} {T : Int} {dm pm : Int → Sn} {t : List Fs} {ao : Option Sn} {ro : Sn}
/-- what rtG says of a node's place -/
theorem rtG.be (hG : rtG K O Fi Be Le Mo Z SM RF RL AF AL SD N ns lv pa po MN dl st ht hh PS T) {i : Int} (h0 : 0 ≤ i) (h1 : i < N) (hb : 0 ≤ Be i) : Be i < N ∧ ¬ pa i = -1 ∧ pa (Be i) = pa i ∧ po (Be i) = po i + 1 := by
  obtain ⟨_, a2, _, a4⟩ := (hG.2.1 i h0 h1).1
  rcases a4 with ⟨_, q⟩ | ⟨q, _, _, _, _, q2⟩
  · omega
  · exact ⟨a2.2, q, q2 hb⟩
theorem rtG.rl (hG : rtG K O Fi Be Le Mo Z SM RF RL AF AL SD N ns lv pa po MN dl st ht hh PS T) {e : Int} (h0 : 0 ≤ e) (h1 : e < lv) : (0 ≤ RF e → (0 ≤ RL e ∧ RL e < N) ∧ pa (RL e) = -2 - 2 * e) ∧ (0 ≤ AF e → (0 ≤ AL e ∧ AL e < N) ∧ pa (AL e) = -3 - 2 * e) := by
  obtain ⟨l1, l2, _⟩ := hG.2.2 e h0 h1
  exact ⟨fun q => ⟨(l1.2.2.2.1 q).1, (l1.2.2.2.1 q).2.1⟩, fun q => ⟨(l2.2.2.2.1 q).1, (l2.2.2.2.1 q).2.1⟩⟩
theorem rtM_nil : rtM K O Fi Be Le Mo La SV 0 pa po dl dm pm := ⟨fun j a b => by omega, fun j a b => by omega, fun i a b => by omega⟩
theorem rtM.opn (hG : rtG K O Fi Be Le Mo Z SM RF RL AF AL SD N ns lv pa po MN dl st ht hh PS T) (h : rtM K O Fi Be Le Mo La SV N pa po dl dm pm) (hF : frM RF RL AF AL pm t lv) : rtM K O Fi Be Le Mo La SV N pa po (zu (zu dl (-2 - 2 * lv) 0) (-3 - 2 * lv) 1) dm pm ∧ frM (zu RF lv (-1)) RL (zu AF lv (-1)) AL pm ((none, mnI) :: t) (lv + 1) := by
  have lv0 := hG.1.2.2
  refine ⟨⟨fun j a b c => ?_, h.2.1, h.2.2⟩, ?_⟩
  · have p := (hG.2.1 j a b).1.2.2.1
    rw [zu_ne (by omega), zu_ne (by omega)]
    exact h.1 j a b c
  · have e : lv + 1 - 1 = lv := by omega
    refine ⟨⟨fun _ => rfl, fun q => ?_⟩, ⟨fun _ => rfl, fun q => ?_⟩, ?_⟩
    · rw [e, zu_self] at q; omega
    · rw [e, zu_self] at q; omega
    · rw [e]
      exact frM.tr _ _ hF (fun d d0 d1 => ⟨⟨zu_ne (by omega), zu_ne (by omega)⟩, fun _ => rfl, fun _ => rfl⟩)
/-- a leaf is made -/
theorem rtM.leaf {k o : Int} {v : Sn} (hG : rtG K O Fi Be Le Mo Z SM RF RL AF AL SD N ns lv pa po MN dl st ht hh PS T) (h : rtM K O Fi Be Le Mo La SV N pa po dl dm pm) (hF : frM RF RL AF AL pm t lv) (hk : (k = 0 ∧ v = mnI) ∨ (k = 1 ∧ v = mnS (SV o)) ∨ (k = 2 ∧ v = mnA) ∨ (k = 3 ∧ v = mnQ (asq o))) : rtM (zu K N k) (zu O N o) (zu Fi N (-1)) (zu Be N (-1)) Le Mo La SV (N + 1) (zu pa N (-1)) po dl (snu dm N v) pm ∧ frM RF RL AF AL pm t lv := by
  refine ⟨⟨fun j a b c => ?_, fun j a b c d => ?_, fun i a b => ?_⟩, hF⟩
  · by_cases e : j = N
    · rw [e, zu_self] at c; omega
    · rw [zu_ne e] at c ⊢
      have q := hG.be a (by omega) c
      rw [zu_ne e, snu_ne (by omega)]
      exact h.1 j a (by omega) c
  · by_cases e : j = N
    · rw [e, zu_self] at c; omega
    · rw [zu_ne e] at c
      rw [snu_ne e]
      exact h.2.1 j a (by omega) c d
  · by_cases e : i = N
    · subst e
      unfold rtD
      rw [zu_self, zu_self, snu_s]
      rcases hk with ⟨q, r⟩ | ⟨q, r⟩ | ⟨q, r⟩ | ⟨q, r⟩
      · exact ⟨fun _ => r, fun z => by omega, fun z => by omega, fun z => by omega, fun z => by omega, fun z => by omega, fun z => by omega⟩
      · exact ⟨fun z => by omega, fun _ => r, fun z => by omega, fun z => by omega, fun z => by omega, fun z => by omega, fun z => by omega⟩
      · exact ⟨fun z => by omega, fun z => by omega, fun _ => r, fun z => by omega, fun z => by omega, fun z => by omega, fun z => by omega⟩
      · exact ⟨fun z => by omega, fun z => by omega, fun z => by omega, fun _ => r, fun z => by omega, fun z => by omega, fun z => by omega⟩
    · obtain ⟨d0, d1, d2, d3, d4, d6, d7⟩ := h.2.2 i a (by omega)
      have C := (hG.2.1 i a (by omega)).2.2
      unfold rtD
      rw [zu_ne e, zu_ne e, zu_ne e, snu_ne e]
      refine ⟨d0, d1, d2, d3, fun z => ⟨(d4 z).1, fun j j0 j1 jp jb => ?_⟩, fun z => ?_, fun z => ?_⟩
      · by_cases ej : j = N
        · rw [ej, zu_self] at jp; omega
        · rw [zu_ne ej] at jp jb
          exact (d4 z).2 j j0 (by omega) jp jb
      · have f := (C.2.2.2.2.2.2.2.1 z).1
        rw [snu_ne (by omega)]
        exact d6 z
      · have f := (C.2.2.2.2.2.2.2.2 z).1
        rw [snu_ne (by omega)]
        exact d7 z
/-- a node gets its place at the end of a list -/
theorem rtM.app {Be2 : Int → Int} {c n l f : Int} (hG : rtG K O Fi Be Le Mo Z SM RF RL AF AL SD N ns lv pa po MN dl st ht hh PS T) (h : rtM K O Fi Be Le Mo La SV N pa po dl dm pm) (hc : c < -1) (hn : 0 ≤ n ∧ n < N ∧ pa n = -1) (hb : (f < 0 ∧ Be2 = Be ∧ MN c = 0) ∨ (0 ≤ f ∧ Be2 = zu Be l n ∧ 0 < MN c ∧ (0 ≤ l ∧ l < N) ∧ pa l = c)) : ∃ pm2 : Int → Sn, rtM K O Fi Be2 Le Mo La SV N (zu pa n c) (zu po n (MN c)) dl dm pm2 ∧ (∀ i, ¬ i = n → pm2 i = pm i) ∧ ((f < 0 ∧ pm2 n = dm n) ∨ (0 ≤ f ∧ pm2 n = cm2 (dl c) (pm l) (dm n))) := by
  have nb : ∀ j : Int, 0 ≤ j → j < N → ¬ Be j = n := fun j a b e => by
    have q := hG.be a b (by omega)
    rw [e] at q
    omega
  obtain ⟨v, hv⟩ : ∃ v : Sn, (f < 0 → v = dm n) ∧ (0 ≤ f → v = cm2 (dl c) (pm l) (dm n)) := by
    by_cases z : f < 0
    · exact ⟨dm n, fun _ => rfl, fun q => by omega⟩
    · exact ⟨_, fun q => absurd q z, fun _ => rfl⟩
  refine ⟨snu pm n v, ⟨fun j a b d => ?_, fun j a b d e => ?_, fun i a b => ?_⟩, fun i e => snu_ne e, ?_⟩
  · rcases hb with ⟨f0, e1, _⟩ | ⟨f0, e1, _, l0, l1⟩
    · rw [e1] at d ⊢
      have q := hG.be a b d
      have jn : ¬ j = n := fun t => by rw [t] at q; omega
      rw [zu_ne jn, snu_ne jn, snu_ne (nb j a b)]
      exact h.1 j a b d
    · have ln : ¬ l = n := fun t => by rw [t] at l1; omega
      by_cases e : j = l
      · subst e
        rw [e1, zu_self, snu_s, zu_ne ln, snu_ne ln, l1]
        exact hv.2 f0
      · rw [e1, zu_ne e] at d ⊢
        have q := hG.be a b d
        have jn : ¬ j = n := fun t => by rw [t] at q; omega
        rw [zu_ne jn, snu_ne jn, snu_ne (nb j a b)]
        exact h.1 j a b d
  · by_cases q : j = n
    · subst q
      rw [zu_self] at e
      rw [snu_s]
      rcases hb with ⟨f0, _, _⟩ | ⟨_, _, m0, _⟩
      · exact hv.1 f0
      · omega
    · rw [zu_ne q] at d e
      rw [snu_ne q]
      exact h.2.1 j a b d e
  · obtain ⟨d0, d1, d2, d3, d4, d6, d7⟩ := h.2.2 i a b
    refine ⟨d0, d1, d2, d3, fun z => ⟨(d4 z).1, fun j j0 j1 jp jb => ?_⟩, d6, d7⟩
    have jn : ¬ j = n := fun t => by rw [t, zu_self] at jp; omega
    rw [zu_ne jn] at jp
    rw [snu_ne jn]
    refine (d4 z).2 j j0 j1 jp ?_
    rcases hb with ⟨_, e1, _⟩ | ⟨_, e1, _, l0, l1⟩
    · rw [e1] at jb; exact jb
    · have jl : ¬ j = l := fun t => by rw [t] at jp; omega
      rw [e1, zu_ne jl] at jb
      exact jb
  · rcases (show f < 0 ∨ 0 ≤ f by omega) with q | q
    · exact Or.inl ⟨q, snu_s.trans (hv.1 q)⟩
    · exact Or.inr ⟨q, snu_s.trans (hv.2 q)⟩
theorem rtM.part {Be2 RF2 : Int → Int} {d n : Int} (hG : rtG K O Fi Be Le Mo Z SM RF RL AF AL SD N ns (d + 1) pa po MN dl st ht hh PS T) (h : rtM K O Fi Be Le Mo La SV N pa po dl dm pm) (hF : frM RF RL AF AL pm ((ao, ro) :: t) (d + 1)) (hd : 0 ≤ d) (hn : 0 ≤ n ∧ n < N ∧ pa n = -1) (hb : (RF d < 0 ∧ Be2 = Be ∧ RF2 = zu RF d n) ∨ (0 ≤ RF d ∧ Be2 = zu Be (RL d) n ∧ RF2 = RF)) : ∃ pm2 : Int → Sn, rtM K O Fi Be2 Le Mo La SV N (zu pa n (-2 - 2 * d)) (zu po n (MN (-2 - 2 * d))) dl dm pm2 ∧ frM RF2 (zu RL d n) AF AL pm2 ((ao, mnC ro (dm n)) :: t) (d + 1) ∧ rpM Be2 (zu po n (MN (-2 - 2 * d))) (zu RL d n) N dm pm2 (d + 1) 1 ro (dm n) := by
  obtain ⟨l1, l2, l3, l4, _⟩ := hG.2.2 d hd (by omega)
  have hf := l1.1
  have hr := (hG.rl hd (show d < d + 1 by omega)).1
  obtain ⟨pm2, m1, m2, m3⟩ := rtM.app (Be2 := Be2) (c := -2 - 2 * d) (n := n) (l := RL d) (f := RF d) hG h (by omega) hn (by
    rcases hb with ⟨q, e1, _⟩ | ⟨q, e1, _⟩
    · refine Or.inl ⟨q, e1, ?_⟩
      rcases hf with w | w
      · exact w.2
      · omega
    · refine Or.inr ⟨q, e1, ?_, hr q⟩
      rcases hf with w | w
      · omega
      · exact w.2.2.2)
  have e : d + 1 - 1 = d := by omega
  have an : ∀ x : Int, 0 ≤ x → x < d + 1 → (0 ≤ RF x → ¬ RL x = n) ∧ (0 ≤ AF x → ¬ AL x = n) := fun x x0 x1 => ⟨fun q w => by have := ((hG.rl x0 x1).1 q).2; rw [w] at this; omega, fun q w => by have := ((hG.rl x0 x1).2 q).2; rw [w] at this; omega⟩
  obtain ⟨⟨f1, f2⟩, ⟨f3, f4⟩, f5⟩ := hF
  rw [e] at f1 f2 f3 f4 f5
  have lt := frM.len _ _ f5
  have nb : ∀ j : Int, 0 ≤ j → j < N → ¬ Be j = n := fun j a b e => by
    have q := hG.be a b (by omega)
    rw [e] at q
    omega
  refine ⟨pm2, m1, ⟨⟨fun q => ?_, fun q => ?_⟩, ⟨fun q => ?_, fun q => ?_⟩, ?_⟩, fun _ => ⟨?_, fun q => ?_, fun j a b q => ?_⟩⟩
  · rw [e] at q
    rcases hb with ⟨_, _, e2⟩ | ⟨_, _, e2⟩
    · rw [e2, zu_self] at q; omega
    · rw [e2] at q; omega
  · rw [e, zu_self]
    rcases m3 with ⟨z, m3⟩ | ⟨z, m3⟩
    · rw [m3, f1 z]; exact mnI_C
    · rw [m3, l3, cm2_0, f2 z]
  · rw [e] at q; exact f3 q
  · rw [e] at q ⊢
    rw [m2 _ ((an d hd (by omega)).2 q)]; exact f4 q
  · rw [e]
    refine frM.tr _ _ f5 (fun x x0 x1 => ⟨⟨?_, rfl⟩, fun q => ?_, fun q => ?_⟩)
    · rcases hb with ⟨_, _, e2⟩ | ⟨_, _, e2⟩
      · rw [e2, zu_ne (by omega)]
      · rw [e2]
    · rw [zu_ne (by omega)]; exact m2 _ ((an x x0 (by omega)).1 q)
    · exact m2 _ ((an x x0 (by omega)).2 q)
  · rw [e, zu_self]
  · rw [e, zu_self, zu_self] at q
    rcases hf with w | w
    · exact f1 w.1
    · omega
  · rw [e, zu_self] at q
    rcases hb with ⟨_, e1, _⟩ | ⟨r, e1, _⟩
    · rw [e1] at q; exact absurd q (nb j a b)
    · by_cases w : j = RL d
      · subst w
        rw [m2 _ ((an d hd (by omega)).1 r)]
        exact (f2 r).symm
      · rw [e1, zu_ne w] at q; exact absurd q (nb j a b)
theorem rtM.alt {Be2 AF2 : Int → Int} {d n : Int} (hG : rtG K O Fi Be Le Mo Z SM RF RL AF AL SD N ns (d + 1) pa po MN dl st ht hh PS T) (h : rtM K O Fi Be Le Mo La SV N pa po dl dm pm) (hF : frM RF RL AF AL pm ((ao, ro) :: t) (d + 1)) (hd : 0 ≤ d) (hn : 0 ≤ n ∧ n < N ∧ pa n = -1) (hr0 : RF d < 0) (hb : (AF d < 0 ∧ Be2 = Be ∧ AF2 = zu AF d n) ∨ (0 ≤ AF d ∧ Be2 = zu Be (AL d) n ∧ AF2 = AF)) : ∃ pm2 : Int → Sn, rtM K O Fi Be2 Le Mo La SV N (zu pa n (-3 - 2 * d)) (zu po n (MN (-3 - 2 * d))) dl dm pm2 ∧ frM RF RL AF2 (zu AL d n) pm2 ((some (opO ao (dm n)), mnI) :: t) (d + 1) := by
  obtain ⟨l1, l2, l3, l4, _⟩ := hG.2.2 d hd (by omega)
  have hf := l2.1
  have hr := (hG.rl hd (show d < d + 1 by omega)).2
  obtain ⟨pm2, m1, m2, m3⟩ := rtM.app (Be2 := Be2) (c := -3 - 2 * d) (n := n) (l := AL d) (f := AF d) hG h (by omega) hn (by
    rcases hb with ⟨q, e1, _⟩ | ⟨q, e1, _⟩
    · refine Or.inl ⟨q, e1, ?_⟩
      rcases hf with w | w
      · exact w.2
      · omega
    · refine Or.inr ⟨q, e1, ?_, hr q⟩
      rcases hf with w | w
      · omega
      · exact w.2.2.2)
  have e : d + 1 - 1 = d := by omega
  have an : ∀ x : Int, 0 ≤ x → x < d + 1 → (0 ≤ RF x → ¬ RL x = n) ∧ (0 ≤ AF x → ¬ AL x = n) := fun x x0 x1 => ⟨fun q w => by have := ((hG.rl x0 x1).1 q).2; rw [w] at this; omega, fun q w => by have := ((hG.rl x0 x1).2 q).2; rw [w] at this; omega⟩
  obtain ⟨⟨f1, f2⟩, ⟨f3, f4⟩, f5⟩ := hF
  rw [e] at f1 f2 f3 f4 f5
  have lt := frM.len _ _ f5
  refine ⟨pm2, m1, ⟨fun _ => rfl, fun q => ?_⟩, ⟨fun q => ?_, fun q => ?_⟩, ?_⟩
  · rw [e] at q; omega
  · rw [e] at q
    rcases hb with ⟨_, _, e2⟩ | ⟨_, _, e2⟩
    · rw [e2, zu_self] at q; omega
    · rw [e2] at q; omega
  · rw [e, zu_self]
    rcases m3 with ⟨z, m3⟩ | ⟨z, m3⟩
    · rw [m3, f3 z]; rfl
    · rw [m3, l4, cm2_1, f4 z]; rfl
  · rw [e]
    refine frM.tr _ _ f5 (fun x x0 x1 => ⟨⟨rfl, ?_⟩, fun q => ?_, fun q => ?_⟩)
    · rcases hb with ⟨_, _, e2⟩ | ⟨_, _, e2⟩
      · rw [e2, zu_ne (by omega)]
      · rw [e2]
    · exact m2 _ ((an x x0 (by omega)).1 q)
    · rw [zu_ne (by omega)]; exact m2 _ ((an x x0 (by omega)).2 q)
/-- the list of a level becomes a node's -/
theorem rtM.mv {c f l k : Int} {v : Sn} (hG : rtG K O Fi Be Le Mo Z SM RF RL AF AL SD N ns lv pa po MN dl st ht hh PS T) (h : rtM K O Fi Be Le Mo La SV N pa po dl dm pm) (hc : c < -1) (hk : k = 4 ∨ k = 5) (h1 : f < 0 → v = mnI) (h2 : 0 ≤ f → v = pm l) (hf : f < 0 → MN c = 0) (hu : ∀ i : Int, 0 ≤ i → i < N → pa i = c → Be i = -1 → i = l) : rtM (zu K N k) (zu O N 0) (zu Fi N f) (zu Be N (-1)) Le Mo La SV (N + 1) (pmv pa c N) po (zu dl N (dl c)) (snu dm N v) pm := by
  have N0 := hG.1.1
  have pl : ∀ j : Int, 0 ≤ j → j < N → pa j < N := fun j a b => (hG.2.1 j a b).1.2.2.1.2
  refine ⟨fun j a b d => ?_, fun j a b d e => ?_, fun i a b => ?_⟩
  · by_cases e : j = N
    · rw [e, zu_self] at d; omega
    · rw [zu_ne e] at d ⊢
      have q := hG.be a (by omega) d
      rw [snu_ne (by omega)]
      by_cases r : pa j = c
      · rw [pmv_c e r, zu_self, ← r]
        exact h.1 j a (by omega) d
      · rw [pmv_o e r, zu_ne (by have := pl j a (by omega); omega)]
        exact h.1 j a (by omega) d
  · by_cases q : j = N
    · rw [q, pmv_N] at d; omega
    · rw [snu_ne q]
      refine h.2.1 j a (by omega) (fun r => ?_) e
      rw [pmv_o q (by omega)] at d
      exact d r
  · by_cases e : i = N
    · subst e
      unfold rtD
      rw [zu_self, zu_self, zu_self, snu_s]
      refine ⟨fun z => by omega, fun z => by omega, fun z => by omega, fun z => by omega, fun _ => ⟨h1, fun j j0 j1 jp jb => ?_⟩, fun z => by omega, fun z => by omega⟩
      have jn : j ≠ i := fun t => by rw [t, pmv_N] at jp; omega
      have jc : pa j = c := by
        by_cases r : pa j = c
        · exact r
        · rw [pmv_o jn r] at jp
          have := pl j j0 (by omega)
          omega
      rw [zu_ne jn] at jb
      have jl := hu j j0 (by omega) jc jb
      have f0 : 0 ≤ f := by
        rcases Int.lt_or_le f 0 with q | q
        · have m := hf q
          have A := (hG.2.1 j j0 (by omega)).1.2.2.2
          rw [jc] at A
          rcases A with A | A
          · omega
          · have := A.2.1; omega
        · exact q
      rw [jl]
      exact h2 f0
    · obtain ⟨d0, d1, d2, d3, d4, d6, d7⟩ := h.2.2 i a (by omega)
      have C := (hG.2.1 i a (by omega)).2.2
      unfold rtD
      rw [zu_ne e, zu_ne e, zu_ne e, snu_ne e]
      refine ⟨d0, d1, d2, d3, fun z => ⟨(d4 z).1, fun j j0 j1 jp jb => ?_⟩, fun z => ?_, fun z => ?_⟩
      · have jn : j ≠ N := fun t => by rw [t, pmv_N] at jp; omega
        have jc : ¬ pa j = c := fun r => by rw [pmv_c jn r] at jp; omega
        rw [pmv_o jn jc] at jp
        rw [zu_ne jn] at jb
        exact (d4 z).2 j j0 (by omega) jp jb
      · have f' := (C.2.2.2.2.2.2.2.1 z).1
        rw [snu_ne (by omega)]
        exact d6 z
      · have f' := (C.2.2.2.2.2.2.2.2 z).1
        rw [snu_ne (by omega)]
        exact d7 z
theorem rtM.row {d : Int} (hG : rtG K O Fi Be Le Mo Z SM RF RL AF AL SD N ns (d + 1) pa po MN dl st ht hh PS T) (h : rtM K O Fi Be Le Mo La SV N pa po dl dm pm) (hF : frM RF RL AF AL pm ((ao, ro) :: t) (d + 1)) (hd : 0 ≤ d) : rtM (zu K N 4) (zu O N 0) (zu Fi N (RF d)) (zu Be N (-1)) Le Mo La SV (N + 1) (pmv pa (-2 - 2 * d) N) po (zu dl N (dl (-2 - 2 * d))) (snu dm N ro) pm ∧ frM (zu RF d (-1)) RL AF AL pm ((ao, mnI) :: t) (d + 1) := by
  obtain ⟨l1, l2, l3, l4, _⟩ := hG.2.2 d hd (by omega)
  have e : d + 1 - 1 = d := by omega
  obtain ⟨⟨f1, f2⟩, ⟨f3, f4⟩, f5⟩ := hF
  rw [e] at f1 f2 f3 f4 f5
  have lt := frM.len _ _ f5
  refine ⟨rtM.mv (l := RL d) hG h (by omega) (Or.inl rfl) f1 f2 (fun q => ?_) l1.2.2.2.2, ⟨fun _ => rfl, fun q => ?_⟩, ⟨?_, ?_⟩, ?_⟩
  · rcases l1.1 with w | w
    · exact w.2
    · omega
  · rw [e, zu_self] at q; omega
  · rw [e]; exact f3
  · rw [e]; exact f4
  · rw [e]
    exact frM.tr _ _ f5 (fun x x0 x1 => ⟨⟨zu_ne (by omega), rfl⟩, fun _ => rfl, fun _ => rfl⟩)
theorem rtM.all {d : Int} {A : Sn} (hG : rtG K O Fi Be Le Mo Z SM RF RL AF AL SD N ns (d + 1) pa po MN dl st ht hh PS T) (h : rtM K O Fi Be Le Mo La SV N pa po dl dm pm) (hF : frM RF RL AF AL pm ((some A, ro) :: t) (d + 1)) (hd : 0 ≤ d) : rtM (zu K N 5) (zu O N 0) (zu Fi N (AF d)) (zu Be N (-1)) Le Mo La SV (N + 1) (pmv pa (-3 - 2 * d) N) po (zu dl N (dl (-3 - 2 * d))) (snu dm N A) pm ∧ frM RF RL AF AL pm t d := by
  obtain ⟨l1, l2, l3, l4, _⟩ := hG.2.2 d hd (by omega)
  have e : d + 1 - 1 = d := by omega
  obtain ⟨⟨f1, f2⟩, ⟨f3, f4⟩, f5⟩ := hF
  rw [e] at f1 f2 f3 f4 f5
  refine ⟨rtM.mv (l := AL d) hG h (by omega) (Or.inr rfl) (fun q => absurd (f3 q) (fun z => by cases z)) (fun q => Option.some.inj (f4 q)) (fun q => ?_) l2.2.2.2.2, f5⟩
  rcases l2.1 with w | w
  · exact w.2
  · omega
theorem rtM.group {m o : Int} (hG : rtG K O Fi Be Le Mo Z SM RF RL AF AL SD N ns lv pa po MN dl st ht hh PS T) (h : rtM K O Fi Be Le Mo La SV N pa po dl dm pm) (hF : frM RF RL AF AL pm t lv) (hm : 0 ≤ m ∧ m < N ∧ pa m = -1) : ∃ pm2 : Int → Sn, rtM (zu K N 6) (zu O N o) (zu Fi N m) (zu Be N (-1)) Le Mo La SV (N + 1) (zu (zu pa N (-1)) m N) (zu po m 0) (zu dl N 0) (snu dm N (mnG o (dm m))) pm2 ∧ frM RF RL AF AL pm2 t lv := by
  have N0 := hG.1.1
  have pl : ∀ j : Int, 0 ≤ j → j < N → pa j < N := fun j a b => (hG.2.1 j a b).1.2.2.1.2
  have nb : ∀ j : Int, 0 ≤ j → j < N → 0 ≤ Be j → ¬ Be j = m ∧ ¬ j = m := fun j a b c => by
    have q := hG.be a b c
    exact ⟨fun e => by rw [e] at q; omega, fun e => by rw [e] at q; omega⟩
  have mN : m ≠ N := by omega
  refine ⟨snu pm m (dm m), ⟨fun j a b d => ?_, fun j a b d e => ?_, fun i a b => ?_⟩, frM.tr _ _ hF (fun x x0 x1 => ⟨⟨rfl, rfl⟩, fun q => snu_ne (fun w => by have := ((hG.rl x0 x1).1 q).2; rw [w] at this; omega), fun q => snu_ne (fun w => by have := ((hG.rl x0 x1).2 q).2; rw [w] at this; omega)⟩)⟩
  · by_cases e : j = N
    · rw [e, zu_self] at d; omega
    · rw [zu_ne e] at d ⊢
      have q := hG.be a (by omega) d
      have r := nb j a (by omega) d
      rw [zu_ne r.2, zu_ne e, snu_ne r.1, snu_ne r.2, snu_ne (show ¬ Be j = N by omega), zu_ne (by have := pl j a (by omega); omega)]
      exact h.1 j a (by omega) d
  · by_cases q : j = m
    · subst q
      rw [snu_s, snu_ne mN]
    · rw [zu_ne q] at d e
      by_cases r : j = N
      · rw [r, zu_self] at d; omega
      · rw [zu_ne r] at d
        rw [snu_ne q, snu_ne r]
        exact h.2.1 j a (by omega) d e
  · by_cases e : i = N
    · subst e
      unfold rtD
      rw [zu_self, zu_self, zu_self, snu_s, snu_ne mN]
      exact ⟨fun z => by omega, fun z => by omega, fun z => by omega, fun z => by omega, fun z => by omega, fun _ => rfl, fun z => by omega⟩
    · obtain ⟨d0, d1, d2, d3, d4, d6, d7⟩ := h.2.2 i a (by omega)
      have C := (hG.2.1 i a (by omega)).2.2
      unfold rtD
      rw [zu_ne e, zu_ne e, zu_ne e, snu_ne e]
      refine ⟨d0, d1, d2, d3, fun z => ⟨(d4 z).1, fun j j0 j1 jp jb => ?_⟩, fun z => ?_, fun z => ?_⟩
      · have jm : j ≠ m := fun w => by rw [w, zu_self] at jp; omega
        rw [zu_ne jm] at jp
        have jn : j ≠ N := fun w => by rw [w, zu_self] at jp; omega
        rw [zu_ne jn] at jp jb
        rw [snu_ne jm]
        exact (d4 z).2 j j0 (by omega) jp jb
      · have f := (C.2.2.2.2.2.2.2.1 z).1
        rw [snu_ne (by omega)]
        exact d6 z
      · have f := (C.2.2.2.2.2.2.2.2 z).1
        rw [snu_ne (by omega)]
        exact d7 z
theorem rtM.rep {d n le mo lz : Int} {v : Sn} (hG : rtG K O Fi Be Le Mo Z SM RF RL AF AL SD N ns (d + 1) pa po MN dl st ht hh PS T) (h : rtM K O Fi Be Le Mo La SV N pa po dl dm pm) {w : Sn} (hF : frM RF RL AF AL pm ((ao, w) :: t) (d + 1)) (hR : rpM Be po RL N dm pm (d + 1) 1 ro v) (hd : 0 ≤ d) (hn : RL d = n) (hf : 0 ≤ RF d) (bn : Be n = -1) : ∃ pm2 : Int → Sn, rtM (zu (zu K N (K n)) n 7) (zu O N (O n)) (zu (zu Fi N (Fi n)) n N) (zu Be N (-1)) (zu (zu Le N (Le n)) n le) (zu (zu Mo N (Mo n)) n mo) (zu (zu La N (La n)) n lz) SV (N + 1) (prp pa n N) (zu po N 0) (zu (zu dl N (dl n)) n 0) (snu (snu dm N (dm n)) n (mnR le (moE mo) lz v)) pm2 ∧ frM RF RL AF AL pm2 ((ao, mnC ro (mnR le (moE mo) lz v)) :: t) (d + 1) := by
  have N0 := hG.1.1
  have e : d + 1 - 1 = d := by omega
  have pl : ∀ j : Int, 0 ≤ j → j < N → pa j < N := fun j a b => (hG.2.1 j a b).1.2.2.1.2
  obtain ⟨l1, l2, l3, l4, _⟩ := hG.2.2 d hd (by omega)
  obtain ⟨n0, pn⟩ := (hG.rl hd (show d < d + 1 by omega)).1 hf
  obtain ⟨r1, r2, r3⟩ := hR rfl
  rw [e] at r1 r2 r3
  rw [hn] at n0 pn r1 r2 r3
  have nN : n ≠ N := by omega
  obtain ⟨⟨f1, f2⟩, ⟨f3, f4⟩, f5⟩ := hF
  rw [e] at f1 f2 f3 f4 f5
  have lt := frM.len _ _ f5
  have po0 : ∀ j : Int, 0 ≤ j → j < N → ¬ pa j = -1 → 0 ≤ po j := fun j a b q => by
    rcases (hG.2.1 j a b).1.2.2.2 with z | z
    · omega
    · exact z.2.1.1
  obtain ⟨D, hD⟩ : ∃ D : Int → Sn, D = snu (snu dm N (dm n)) n (mnR le (moE mo) lz v) := ⟨_, rfl⟩
  obtain ⟨P, hP⟩ : ∃ P : Int → Sn, P = snu (snu pm N (dm n)) n (mnC ro (mnR le (moE mo) lz v)) := ⟨_, rfl⟩
  have Dn : D n = mnR le (moE mo) lz v := by rw [hD, snu_s]
  have DN : D N = dm n := by rw [hD, snu_ne (fun q => nN q.symm), snu_s]
  have Do : ∀ i, ¬ i = n → ¬ i = N → D i = dm i := fun i a b => by rw [hD, snu_ne a, snu_ne b]
  have Pn : P n = mnC ro (mnR le (moE mo) lz v) := by rw [hP, snu_s]
  have PN : P N = dm n := by rw [hP, snu_ne (fun q => nN q.symm), snu_s]
  have Po : ∀ i, ¬ i = n → ¬ i = N → P i = pm i := fun i a b => by rw [hP, snu_ne a, snu_ne b]
  rw [← hD]
  refine ⟨P, ⟨fun j a b c => ?_, fun j a b c q => ?_, fun i a b => ?_⟩, ⟨fun q => ?_, fun q => ?_⟩, ⟨?_, ?_⟩, ?_⟩
  · by_cases jN : j = N
    · rw [jN, zu_self] at c; omega
    · rw [zu_ne jN] at c ⊢
      have jn : ¬ j = n := fun q => by rw [q, bn] at c; omega
      have q := hG.be a (by omega) c
      have hj := h.1 j a (by omega) c
      have BN : ¬ Be j = N := by omega
      by_cases bj : Be j = n
      · have pj : pa j = -2 - 2 * d := by rw [← q.2.2.1, bj]; exact pn
        rw [bj, Pn, Dn, prp_o jN (by omega), pj, zu_ne (by omega), zu_ne (by omega), l3, cm2_0, Po j jn jN, r3 j a (by omega) bj]
      · rw [Po _ bj BN, Do _ bj BN, Po j jn jN]
        by_cases pj : pa j = n
        · rw [prp_c jN pj, zu_ne (fun z => nN z.symm), zu_self, ← pj]
          exact hj
        · rw [prp_o jN pj, zu_ne pj, zu_ne (by have := pl j a (by omega); omega)]
          exact hj
  · by_cases jN : j = N
    · rw [jN, PN, DN]
    · rw [zu_ne jN] at q
      by_cases jn : j = n
      · subst jn
        rw [Pn, Dn, r2 q]
        exact mnI_C
      · rw [Po j jn jN, Do j jn jN]
        refine h.2.1 j a (by omega) (fun z => ?_) q
        rw [prp_o jN (by omega)] at c
        exact c z
  · have fi : ∀ x : Int, 0 ≤ x → x < N → K x = 6 ∨ K x = 7 → ¬ Fi x = n ∧ ¬ Fi x = N ∧ (0 ≤ Fi x ∧ Fi x < N ∧ pa (Fi x) = x) := fun x x0 x1 k => by
      have C := (hG.2.1 x x0 x1).2.2
      have F : 0 ≤ Fi x ∧ Fi x < N ∧ pa (Fi x) = x := by
        rcases k with k | k
        · exact (C.2.2.2.2.2.2.2.1 k).1
        · exact (C.2.2.2.2.2.2.2.2 k).1
      refine ⟨fun z => ?_, by omega, F⟩
      rw [z] at F
      omega
    by_cases iN : i = N
    · subst iN
      obtain ⟨d0, d1, d2, d3, d4, d6, d7⟩ := h.2.2 n n0.1 n0.2
      unfold rtD
      rw [zu_ne (fun z => nN z.symm), zu_self, zu_self, zu_ne (fun z => nN z.symm), zu_self, zu_ne (fun z => nN z.symm), zu_self, zu_ne (fun z => nN z.symm), zu_self, zu_ne (fun z => nN z.symm), zu_self, DN]
      refine ⟨d0, d1, d2, d3, fun z => ⟨(d4 z).1, fun j j0 j1 jp jb => ?_⟩, fun z => ?_, fun z => ?_⟩
      · have jN : j ≠ i := fun w => by rw [w, prp_N] at jp; omega
        have pj : pa j = n := by
          by_cases r : pa j = n
          · exact r
          · rw [prp_o jN r] at jp
            have := pl j j0 (by omega)
            omega
        have jn : ¬ j = n := fun w => by rw [w] at pj; omega
        rw [zu_ne jN] at jb
        rw [Po j jn jN]
        exact (d4 z).2 j j0 (by omega) pj jb
      · have F := fi n n0.1 n0.2 (Or.inl z)
        rw [Do _ F.1 F.2.1]
        exact d6 z
      · have F := fi n n0.1 n0.2 (Or.inr z)
        rw [Do _ F.1 F.2.1]
        exact d7 z
    · by_cases i_n : i = n
      · subst i_n
        unfold rtD
        rw [zu_self, zu_self, zu_self, zu_self, zu_self, DN, Dn, r1]
        exact ⟨fun z => by omega, fun z => by omega, fun z => by omega, fun z => by omega, fun z => by omega, fun z => by omega, fun _ => rfl⟩
      · obtain ⟨d0, d1, d2, d3, d4, d6, d7⟩ := h.2.2 i a (by omega)
        unfold rtD
        rw [zu_ne i_n, zu_ne iN, zu_ne iN, zu_ne i_n, zu_ne iN, zu_ne i_n, zu_ne iN, zu_ne i_n, zu_ne iN, zu_ne i_n, zu_ne iN, Do i i_n iN]
        refine ⟨d0, d1, d2, d3, fun z => ⟨(d4 z).1, fun j j0 j1 jp jb => ?_⟩, fun z => ?_, fun z => ?_⟩
        · have jN : j ≠ N := fun w => by rw [w, prp_N] at jp; omega
          have pj : ¬ pa j = n := fun r => by rw [prp_c jN r] at jp; omega
          rw [prp_o jN pj] at jp
          have jn : ¬ j = n := fun w => by rw [w] at jp; omega
          rw [zu_ne jN] at jb
          rw [Po j jn jN]
          exact (d4 z).2 j j0 (by omega) jp jb
        · have F := fi i a (by omega) (Or.inl z)
          rw [Do _ F.1 F.2.1]
          exact d6 z
        · have F := fi i a (by omega) (Or.inr z)
          rw [Do _ F.1 F.2.1]
          exact d7 z
  · rw [e] at q; omega
  · rw [e, hn, Pn]
  · rw [e]; exact f3
  · rw [e]
    intro q
    have A := (hG.rl hd (show d < d + 1 by omega)).2 q
    rw [Po _ (fun z => by rw [z] at A; omega) (by omega)]
    exact f4 q
  · rw [e]
    refine frM.tr _ _ f5 (fun x x0 x1 => ⟨⟨rfl, rfl⟩, fun q => ?_, fun q => ?_⟩)
    · have A := (hG.rl x0 (show x < d + 1 by omega)).1 q
      exact Po _ (fun z => by rw [z] at A; omega) (by omega)
    · have A := (hG.rl x0 (show x < d + 1 by omega)).2 q
      exact Po _ (fun z => by rw [z] at A; omega) (by omega)
end TreeM
