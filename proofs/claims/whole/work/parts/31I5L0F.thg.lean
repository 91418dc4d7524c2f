/-! threads: step and find -/
def stE (K N O RR : Int → Int) (cnt : Int) (v : Sn) (f : Int → Int) (n fy hw wi la q : Int) (Rs SE : Int → Int) (sta : Int) (TN TS : Int → Int) (tc fo : Int) (SP : Int → Int) (S : Option Tw) : Prop := ∃ (W : List Tw) (c : Option Tw), rwQ fy hw n (q - 1) W (fuN (wyR v f n) q (la + 1 - q).toNat) c S ∧ mcT c fo SP wi ∧ GRo K N O RR cnt f n wi (q - 1) q Rs SE sta TN TS tc W ∧ (∀ d : Tw, c = some d → d.1 ≤ q - 1) ∧ (q = n + 1 → W = [])
/-- a begin is to be followed -/
def stP (K N O RR : Int → Int) (cnt : Int) (v : Sn) (f : Int → Int) (n fy hw wi la q : Int) (Rs SE : Int → Int) (sta : Int) (TN TS : Int → Int) (tc fo : Int) (SP : Int → Int) (S : Option Tw) (W : List Tw) (c : Option Tw) : Prop := rwQ fy hw n (q - 1) W (tgT q (wyR v f n q) ++ fuN (wyR v f n) (q + 1) (la - q).toNat) c S ∧ mcT c fo SP wi ∧ GRo K N O RR cnt f n wi (q - 1) q Rs SE sta TN TS tc W ∧ ∀ d : Tw, c = some d → d.1 ≤ q - 1
/-- the row of a place is full -/
def stM (K N O RR : Int → Int) (cnt : Int) (v : Sn) (f : Int → Int) (n fy hw wi la q : Int) (Rs SE : Int → Int) (sta : Int) (TN TS : Int → Int) (tc fo : Int) (SP : Int → Int) (S : Option Tw) : Prop := ∃ (W : List Tw) (c : Option Tw), rwQ fy hw n (q - 1) W (fuN (wyR v f n) (q + 1) (la - q).toNat) c S ∧ mcT c fo SP wi ∧ GRo K N O RR cnt f n wi q q Rs SE sta TN TS tc W ∧ ∀ d : Tw, c = some d → d.1 ≤ q - 1
/-- while it runs -/
def stJ (K N O RR : Int → Int) (cnt : Int) (v : Sn) (f : Int → Int) (n fy hw wi la p : Int) (Rs SE : Int → Int) (sta : Int) (NW NS : Int → Int) (nc i : Int) (TN TS : Int → Int) (tc fo : Int) (SP : Int → Int) (S : Option Tw) : Prop := ∃ (W U : List Tw) (c : Option Tw) (s : Int), rwQ fy hw n p W (U ++ fuN (wyR v f n) (p + 1) (la - p).toNat) c S ∧ mcT c fo SP wi ∧ GRo K N O RR cnt f n wi s (p + 1) Rs SE sta TN TS tc W ∧ thR (tgC K) N O (phas K O RR) f n Rs p NW NS wi nc (nc - i).toNat U ∧ (∀ d : Tw, c = some d → d.1 ≤ p) ∧ (p = n → W = []) ∧ (s ≤ p ∧ (i < nc → s ≤ NS (i * wi)))
/-- one thread of it -/
def stO (K N O RR : Int → Int) (cnt : Int) (v : Sn) (f : Int → Int) (n fy hw wi la p : Int) (Rs SE : Int → Int) (sta : Int) (NW NS : Int → Int) (nc i : Int) (TN TS : Int → Int) (tc fo : Int) (SP : Int → Int) (S : Option Tw) (W : List Tw) (c : Option Tw) (s : Int) (L : List (Int × Gr)) (V : List Tw) (g : Gr) (y z : Int) : Prop := rwQ fy hw n p W (tgT (NS (i * wi)) L ++ (V ++ fuN (wyR v f n) (p + 1) (la - p).toNat)) c S ∧ mcT c fo SP wi ∧ GRo K N O RR cnt f n wi s (p + 1) Rs SE sta TN TS tc W ∧ (thP N Rs p (NW i) y z ∧ (∀ j : Int, 2 ≤ j → j < wi → NS (i * wi + j) = g j) ∧ WW (tgC K) N O (phas K O RR) f n y z g L ∧ thR (tgC K) N O (phas K O RR) f n Rs p NW NS wi nc (nc - (i + 1)).toNat V) ∧ (∀ d : Tw, c = some d → d.1 ≤ p) ∧ (p = n → W = []) ∧ (s ≤ p ∧ s ≤ NS (i * wi))
/-- the work is a copy of a thread's spans -/
def wkO (WK NS : Int → Int) (a wi : Int) : Prop := WK 0 = NS a ∧ ∀ j : Int, 2 ≤ j → j < wi → WK j = NS (a + j)
theorem wkO_c {W0 NS : Int → Int} {a wi : Int} (hw : 2 ≤ wi) : wkO (zcpy NS W0 a 0 wi) NS a wi := ⟨by rw [zcpy_in (by omega), show a + (0 - 0) = a by omega], fun j j0 j1 => by rw [zcpy_in (by omega), show a + (j - 0) = a + j by omega]⟩
section StT
variable {K N O RR f C Rs H : Int → Int} {cnt n fy hw wi la p q i nc s b y z x w sta : Int} {v : Sn} {SE SE2 SE0 NW NS TN TS TN2 TS2 WK W0 SP SP2 : Int → Int} {sta2 tc tc2 fo fo2 fr : Int} {S c c2 : Option Tw} {W W2 V U : List Tw} {L : List (Int × Gr)} {g : Gr}
theorem mcT_le (h : mcT c fo SP wi) (hb : fo = 0 ∨ b ≤ SP 0) : ∀ d : Tw, c = some d → b ≤ d.1 := fun d hd => by
  rcases h with ⟨h1, _⟩ | ⟨st, e, g, h1, h2, h3, _⟩
  · rw [h1] at hd; cases hd
  · rw [h1] at hd
    rw [← Option.some.inj hd]
    show b ≤ st
    omega
theorem mcT_1 (h : mcT c fo SP wi) (hf : fo = 1) : ∃ d : Tw, c = some d ∧ d.1 = SP 0 := by
  rcases h with ⟨_, h2⟩ | ⟨st, e, g, h1, h2, h3, _⟩
  · omega
  · exact ⟨_, h1, h3.symm⟩
theorem mcT_0 (h : mcT c fo SP wi) (hf : fo = 0) : c = none := by
  rcases h with ⟨h1, _⟩ | ⟨st, e, g, h1, h2, h3, _⟩
  · exact h1
  · omega
theorem mcT_n (ha : wkO WK NS (i * wi) wi) (hg : ∀ j : Int, 2 ≤ j → j < wi → NS (i * wi + j) = g j) (hw2 : 2 ≤ wi) : mcT (some (NS (i * wi), p, g)) 1 (zu (zcpy WK SP 0 0 wi) 1 p) wi := Or.inr ⟨_, p, g, rfl, rfl, by rw [zu_ne (by decide), zcpy_0 (by omega)]; exact ha.1, zu_self _ _ _, fun j j0 j1 => by rw [zu_ne (by omega), zcpy_0 (by omega), ha.2 j j0 j1]; exact hg j j0 j1⟩
theorem acT_y (h : ¬ hw = 2 ∨ n ≤ p) : acT hw n (b, p, g) = true := by
  show accB hw n p = true
  unfold accB
  rcases h with h | h
  · rw [decide_eq_false h]; rfl
  · rw [decide_eq_false (show ¬ p < n by omega), Bool.and_false]; rfl
theorem acT_n (h : hw = 2) (h2 : p < n) : ¬ acT hw n (b, p, g) = true := by
  show ¬ accB hw n p = true
  unfold accB
  rw [decide_eq_true h, decide_eq_true h2]
  decide
theorem stE_of (r : rwQ fy hw n p W (fuN (wyR v f n) (p + 1) (la - p).toNat) c S) (m : mcT c fo SP wi) (G : GRo K N O RR cnt f n wi s (p + 1) Rs SE sta TN TS tc W) (hs : s ≤ p) (hd : ∀ d : Tw, c = some d → d.1 ≤ p) (hn : p = n → W = []) : stE K N O RR cnt v f n fy hw wi la (p + 1) Rs SE sta TN TS tc fo SP S := by
  unfold stE
  rw [show p + 1 - 1 = p by omega, show la + 1 - (p + 1) = la - p by omega]
  exact ⟨W, c, r, m, G.up hs, hd, fun q => hn (by omega)⟩
theorem stJ.o (h : stJ K N O RR cnt v f n fy hw wi la p Rs SE sta NW NS nc i TN TS tc fo SP S) (hi : 0 ≤ i ∧ i < nc) : ∃ (W : List Tw) (c : Option Tw) (s : Int) (L : List (Int × Gr)) (V : List Tw) (g : Gr) (y z : Int), stO K N O RR cnt v f n fy hw wi la p Rs SE sta NW NS nc i TN TS tc fo SP S W c s L V g y z := by
  obtain ⟨W, U, c, s, h1, h2, h3, h4, h5, h6, h7⟩ := h
  rw [show (nc - i).toNat = (nc - (i + 1)).toNat + 1 by omega] at h4
  obtain ⟨L, V, g, y, z, a1, a2, a3, a4, a5⟩ := h4
  have ei : nc - ((((nc - (i + 1)).toNat : Nat) : Int) + 1) = i := by omega
  rw [ei] at a1 a2 a5
  rw [a5, List.append_assoc] at h1
  exact ⟨W, c, s, L, V, g, y, z, h1, h2, h3, ⟨a1, a2, a3, a4⟩, h5, h6, h7.1, h7.2 hi.2⟩
theorem stJ.fin (h : stJ K N O RR cnt v f n fy hw wi la p Rs SE sta NW NS nc i TN TS tc fo SP S) (hi : nc ≤ i) : stE K N O RR cnt v f n fy hw wi la (p + 1) Rs SE sta TN TS tc fo SP S := by
  obtain ⟨W, U, c, s, h1, h2, h3, h4, h5, h6, h7⟩ := h
  rw [show (nc - i).toNat = 0 by omega] at h4
  have e : U = [] := h4
  rw [e] at h1
  exact stE_of h1 h2 h3 h7.1 h5 h6
/-- the rest of the row, and what begins later -/
theorem stO.ge (h : stO K N O RR cnt v f n fy hw wi la p Rs SE sta NW NS nc i TN TS tc fo SP S W c s L V g y z) (hr : roW Rs n p wi p NW NS nc) (hi : 0 ≤ i ∧ i < nc) : ∀ u ∈ V ++ fuN (wyR v f n) (p + 1) (la - p).toNat, NS (i * wi) ≤ u.1 := fun u hu => by
  have b := (hr.1 i hi.1 hi.2).1
  rcases List.mem_append.mp hu with k | k
  · exact thR_st _ V h.2.2.2.1.2.2.2 (fun j j0 j1 => (hr.2 i j hi.1 (by omega) j1).2) u k
  · have := fuN_ge _ _ u k; omega
theorem fu_gt (hb : b ≤ p) : ∀ u ∈ fuN (wyR v f n) (p + 1) (la - p).toNat, b < u.1 := fun u hu => by
  have := fuN_ge _ _ u hu; omega
theorem stO.nx (h : stO K N O RR cnt v f n fy hw wi la p Rs SE sta NW NS nc i TN TS tc fo SP S W c s L V g y z) (hr : roW Rs n p wi p NW NS nc) (hi : 0 ≤ i ∧ i < nc) (r : rwQ fy hw n p W2 (V ++ fuN (wyR v f n) (p + 1) (la - p).toNat) c2 S) (m : mcT c2 fo2 SP2 wi) (G : GRo K N O RR cnt f n wi w (p + 1) Rs SE2 sta TN2 TS2 tc2 W2) (hd : ∀ d : Tw, c2 = some d → d.1 ≤ p) (hn : p = n → W2 = []) (hw2 : w ≤ NS (i * wi)) : stJ K N O RR cnt v f n fy hw wi la p Rs SE2 sta NW NS nc (i + 1) TN2 TS2 tc2 fo2 SP2 S := by
  have b := (hr.1 i hi.1 hi.2).1
  refine ⟨W2, V, c2, w, r, m, G, h.2.2.2.1.2.2.2, hd, hn, by omega, fun q => ?_⟩
  have := (hr.2 i (i + 1) hi.1 (by omega) q).2
  omega
/-- a thread that began too late ends the row -/
theorem stO.late (h : stO K N O RR cnt v f n fy hw wi la p Rs SE sta NW NS nc i TN TS tc fo SP S W c s L V g y z) (hr : roW Rs n p wi p NW NS nc) (hi : 0 ≤ i ∧ i < nc) (hf : fo = 1) (hb : SP 0 < NS (i * wi)) : stE K N O RR cnt v f n fy hw wi la (p + 1) Rs SE sta TN TS tc fo SP S := by
  obtain ⟨d, d1, d2⟩ := mcT_1 h.2.1 hf
  have dp := h.2.2.2.2.1 d d1
  have r := h.1
  rw [d1] at r
  refine stE_of (c := c) (s := s) ?_ h.2.1 h.2.2.1 h.2.2.2.2.2.2.1 h.2.2.2.2.1 h.2.2.2.2.2.1
  rw [d1]
  refine r.late (fun u hu => ?_) (fu_gt dp) (fuN_sd _ _)
  rcases List.mem_append.mp hu with k | k
  · obtain ⟨e, _, e2⟩ := mem_tgT.mp k
    rw [e2]
    show d.1 < NS (i * wi)
    omega
  · have := h.ge hr hi u k
    omega
theorem stO.skip (h : stO K N O RR cnt v f n fy hw wi la p Rs SE sta NW NS nc i TN TS tc fo SP S W c s L V g y z) (hr : roW Rs n p wi p NW NS nc) (hi : 0 ≤ i ∧ i < nc) (hL : L = []) : stJ K N O RR cnt v f n fy hw wi la p Rs SE sta NW NS nc (i + 1) TN TS tc fo SP S := by
  have r := h.1
  rw [hL] at r
  exact h.nx hr hi r h.2.1 h.2.2.1 h.2.2.2.2.1 h.2.2.2.2.2.1 h.2.2.2.2.2.2.2
theorem stO.ar (h : stO K N O RR cnt v f n fy hw wi la p Rs SE sta NW NS nc i TN TS tc fo SP S W c s L V g y z) (he : 0 ≤ NW i ∧ NW i < 1024) (k : K (NW i % 1024) = 8) : L = [(p, g)] := by
  obtain ⟨a1, _, a3, _⟩ := h.2.2.2.1
  rw [show NW i % 1024 = NW i by omega] at k
  rcases a1 with ⟨_, b1, b2⟩ | ⟨b, _⟩
  · rw [b1, b2] at a3
    exact ww_i5 (tgC_8 k) a3
  · omega
/-- an arrival that counts, and the first is wanted -/
theorem stO.first (h : stO K N O RR cnt v f n fy hw wi la p Rs SE sta NW NS nc i TN TS tc fo SP S W c s L V g y z) (hr : roW Rs n p wi p NW NS nc) (hi : 0 ≤ i ∧ i < nc) (he : 0 ≤ NW i ∧ NW i < 1024) (k : K (NW i % 1024) = 8) (ha : ¬ hw = 2 ∨ n ≤ p) (hf : fy = 1) (hc : fo = 0 ∨ NS (i * wi) ≤ SP 0) (hk : wkO WK NS (i * wi) wi) (hw2 : 2 ≤ wi) : stE K N O RR cnt v f n fy hw wi la (p + 1) Rs SE sta TN TS tc 1 (zu (zcpy WK SP 0 0 wi) 1 p) S := by
  have b := (hr.1 i hi.1 hi.2).1
  have r := h.1
  rw [h.ar he k] at r
  exact stE_of (rwQ.first r (acT_y ha) hf (mcT_le h.2.1 hc) (fu_gt b) (fuN_sd _ _)) (mcT_n hk h.2.2.2.1.2.1 hw2) h.2.2.1 h.2.2.2.2.2.2.1 (fun d hd => by rw [← Option.some.inj hd]; exact b) h.2.2.2.2.2.1
/-- an arrival that counts, and the longest is wanted -/
theorem stO.long (h : stO K N O RR cnt v f n fy hw wi la p Rs SE sta NW NS nc i TN TS tc fo SP S W c s L V g y z) (hr : roW Rs n p wi p NW NS nc) (hi : 0 ≤ i ∧ i < nc) (he : 0 ≤ NW i ∧ NW i < 1024) (k : K (NW i % 1024) = 8) (ha : ¬ hw = 2 ∨ n ≤ p) (hf : ¬ fy = 1) (hc : fo = 0 ∨ NS (i * wi) ≤ SP 0) (hk : wkO WK NS (i * wi) wi) (hw2 : 2 ≤ wi) (hs : suok f C Rs H n) (h0 : 0 ≤ p ∧ p ≤ n) (hkk : kkF K cnt) (hto : thos K cnt NW nc) (hk0 : ∀ x : Int, 0 ≤ x → x < cnt → 0 ≤ K x) : stJ K N O RR cnt v f n fy hw wi la p Rs SE sta NW NS nc (i + 1) TN TS tc 1 (zu (zcpy WK SP 0 0 wi) 1 p) S := by
  have b := (hr.1 i hi.1 hi.2).1
  have r := h.1
  rw [h.ar he k] at r
  have one : ∀ j : Int, 0 ≤ j → j < nc → NW j < 1024 → K (NW j % 1024) = 8 → NW j = 1 := fun j j0 j1 j2 j3 => by
    obtain ⟨t1, t2, t3⟩ := tho_in (hto j j0 j1)
    have e : NW j % 1024 = NW j := by omega
    rw [e] at t3 j3
    by_cases q2 : 2 ≤ NW j
    · exact absurd j3 (hkk.1 _ q2 t3)
    · by_cases q0 : NW j = 0
      · rw [q0] at j3; rw [hkk.2.1] at j3; omega
      · omega
  refine h.nx hr hi (rwQ.long r (acT_y ha) hf rfl (mcT_le h.2.1 hc) (fun u hu eu => ?_)) (mcT_n hk h.2.2.2.1.2.1 hw2) h.2.2.1 (fun d hd => by rw [← Option.some.inj hd]; exact b) h.2.2.2.2.2.1 h.2.2.2.2.2.2.2
  rcases List.mem_append.mp hu with q1 | q1
  · refine thR_tk hs h0 _ V h.2.2.2.1.2.2.2 (fun j j0 j1 => ?_) u q1
    have jn : 0 ≤ j := by omega
    have ij : i < j := by omega
    obtain ⟨t1, t2, t3⟩ := tho_in (hto j jn j1)
    by_cases c1 : NW j < 1024
    · have e : NW j % 1024 = NW j := by omega
      refine Or.inl ⟨c1, hk0 _ t1 (by omega), ?_⟩
      rcases (hto j jn j1).2.2.2 with u1 | ⟨_, u1⟩
      · rw [e] at u1; exact u1
      · have a1 := one j jn j1 c1 u1
        have a2 := one i hi.1 hi.2 he.2 k
        exact absurd (a2.trans a1.symm) (hr.2 i j hi.1 ij j1).1
    · exact Or.inr ⟨by omega, (hr.1 j jn j1).2 (by omega)⟩
  · have := fuN_ge _ _ u q1
    have e3 : u.1 = NS (i * wi) := eu
    omega
/-- an arrival that does not count -/
theorem stO.miss (h : stO K N O RR cnt v f n fy hw wi la p Rs SE sta NW NS nc i TN TS tc fo SP S W c s L V g y z) (hr : roW Rs n p wi p NW NS nc) (hi : 0 ≤ i ∧ i < nc) (he : 0 ≤ NW i ∧ NW i < 1024) (k : K (NW i % 1024) = 8) (ha : hw = 2 ∧ p < n) : stJ K N O RR cnt v f n fy hw wi la p Rs SE sta NW NS nc (i + 1) TN TS tc fo SP S := by
  have r := h.1
  rw [h.ar he k] at r
  exact h.nx hr hi (rwQ.miss r (acT_n ha.1 ha.2)) h.2.1 h.2.2.1 h.2.2.2.2.1 h.2.2.2.2.2.1 h.2.2.2.2.2.2.2
/-- a thread goes on -/
theorem stO.move (h : stO K N O RR cnt v f n fy hw wi la p Rs SE sta NW NS nc i TN TS tc fo SP S W c s L V g y z) (hr : roW Rs n p wi p NW NS nc) (hi : 0 ≤ i ∧ i < nc) (hF : THF K N O RR cnt f n fy hw wi (NS (i * wi)) (p + 1) Rs SE2 sta TN2 TS2 tc2 (W ++ tgT (NS (i * wi)) L)) (hc : fo = 0 ∨ NS (i * wi) ≤ SP 0) (hs : suok f C Rs H n) (h0 : 0 ≤ p ∧ p + 1 ≤ n) : stJ K N O RR cnt v f n fy hw wi la p Rs SE2 sta NW NS nc (i + 1) TN2 TS2 tc2 fo SP S := by
  obtain ⟨W2, G, he⟩ := GRo_of hF
  refine h.nx hr hi (rwQ.move h.1 (mcT_le h.2.1 hc) he G.1.1.2.1 G.1.1.2.2.1 (fun u hu => ?_) (h.ge hr hi)) h.2.1 G h.2.2.2.2.1 (fun q => by omega) (Int.le_refl _)
  have := thL_ge hs (by omega) h0.2 _ W2 G.1.1.1 u hu
  omega
/-- what a thread does with the bytes at the place -/
theorem stO.vv {vb : Int} (h : stO K N O RR cnt v f n fy hw wi la p Rs SE sta NW NS nc i TN TS tc fo SP S W c s L V g y z) (hr : roW Rs n p wi p NW NS nc) (hi : 0 ≤ i ∧ i < nc) (hs : suok f C Rs H n) (h0 : 0 ≤ p ∧ p ≤ n ∧ 0 ≤ NW i ∧ NW i < 2048) (hv : (NW i < 1024 ∧ (0 ≤ K (NW i % 1024) ∧ K (NW i % 1024) ≤ 2) ∧ btk K O RR C Rs n (NW i % 1024) p vb) ∨ (1024 ≤ NW i ∧ vb = Rs p)) : (vb ≤ 0 → L = []) ∧ (1 ≤ vb → WW (tgC K) N O (phas K O RR) f n (N (NW i % 1024)) (p + vb) g L ∧ p + vb ≤ n ∧ (2 ≤ vb → Rs p = vb)) := thP.vv h.2.2.2.1.1 h.2.2.2.1.2.2.1 hs h0 (hv.imp id (fun ⟨a, b⟩ => ⟨a, b, (hr.1 i hi.1 hi.2).2 a⟩))
theorem stO.ff (h : stO K N O RR cnt v f n fy hw wi la p Rs SE sta NW NS nc i TN TS tc fo SP S W c s L V g y z) : THF K N O RR cnt f n fy hw wi s (p + 1) Rs SE sta TN TS tc W := h.2.2.1.ff
theorem stO.gA (h : stO K N O RR cnt v f n fy hw wi la p Rs SE sta NW NS nc i TN TS tc fo SP S W c s L V g y z) (hk : wkO WK NS (i * wi) wi) : gA WK g wi := fun j j0 j1 => by rw [hk.2 j j0 j1]; exact h.2.2.2.1.2.1 j j0 j1
/-- it waits within a character -/
theorem stO.wait {vb : Int} (h : stO K N O RR cnt v f n fy hw wi la p Rs SE sta NW NS nc i TN TS tc fo SP S W c s L V g y z) (hr : roW Rs n p wi p NW NS nc) (hi : 0 ≤ i ∧ i < nc) (hs : suok f C Rs H n) (h0 : 0 ≤ p ∧ p ≤ n) (hL : WW (tgC K) N O (phas K O RR) f n (N x) (p + vb) g L ∧ p + vb ≤ n ∧ (2 ≤ vb → Rs p = vb)) (hv : 2 ≤ vb) (hx : 0 ≤ x ∧ x < 1024 ∧ x < cnt ∧ K x ≤ 2) (hk : wkO WK NS (i * wi) wi) (hw2 : 2 ≤ wi) (hc : fo = 0 ∨ NS (i * wi) ≤ SP 0) (hp : (SE (x + 1024) = sta ∧ SE2 = SE ∧ TN2 = TN ∧ TS2 = TS ∧ tc2 = tc) ∨ (ptR SE TN TS tc (x + 1024) WK wi sta SE2 TN2 TS2 ∧ tc2 = tc + 1)) : stJ K N O RR cnt v f n fy hw wi la p Rs SE2 sta NW NS nc (i + 1) TN2 TS2 tc2 fo SP S := by
  have rp := hL.2.2 hv
  obtain ⟨_, r1, r2⟩ := rs_s hs h0.1 h0.2 (by omega)
  have ep : p + vb = p + 1 + Rs (p + 1) := by omega
  have hW := hL.1
  rw [ep] at hW
  have tp : ∀ e : Int, e = x + 1024 → thP N Rs (p + 1) e (N x) (p + 1 + Rs (p + 1)) := fun e he => Or.inr ⟨by omega, by rw [he, show x + 1024 - 1024 = x by omega], rfl⟩
  refine h.move hr hi ?_ hc hs ⟨h0.1, by omega⟩
  have F := h.ff
  have sb := h.2.2.2.2.2.2.2
  rcases hp with ⟨q1, q2, q3, q4, q5⟩ | ⟨pt, q5⟩
  · rw [q2, q3, q4, q5]
    obtain ⟨j, j1, j2⟩ := F.2.2.2.2 (x + 1024) (by omega) (by omega) q1
    exact ⟨F.1.again sb hW j1 (tp _ j2), F.2.up sb⟩
  · rw [q5]
    obtain ⟨a1, a2, a3, a4⟩ := pt.a F.2.1.1 hw2
    exact ⟨(F.1.wait sb (h.gA hk) hk.1 hW (tp _ rfl) a1 a2 a3 a4 hw2).mks (fun u k hm => mkT_hi (x := x + 1024) (by omega) u k (by rw [← pt.2.1]; exact hm)) (Int.le_refl _), F.2.put pt hk.1 sb (rkE_w hx.2.2.2 ⟨hx.1, hx.2.1⟩ hx.2.2.1) (by omega) (fun _ => ⟨by omega, r2⟩) hw2⟩
theorem stO.room (h : stO K N O RR cnt v f n fy hw wi la p Rs SE sta NW NS nc i TN TS tc fo SP S W c s L V g y z) (hkk : kkF K cnt) (hx : 0 ≤ x ∧ x < 1024 ∧ x < cnt ∧ K x ≤ 2) (hn : ¬ SE (x + 1024) = sta) : tc ≤ 800 := h.ff.2.room hkk (rkE_w hx.2.2.2 ⟨hx.1, hx.2.1⟩ hx.2.2.1) (by omega) hn
/-! find -/
theorem stE_0 (hS : S = slT fy hw n (fuN (wyR v f n) fr (la + 1 - fr).toNat)) (hf : fo = 0) (ht : tc = 0) (hn : ∀ i : Int, 0 ≤ i → i < 2048 → ¬ SE i = sta) : stE K N O RR cnt v f n fy hw wi la fr Rs SE sta TN TS tc fo SP S := by
  rw [ht]
  refine ⟨[], none, ⟨?_, ⟨List.Pairwise.nil, fuN_sd _ _, fun w hw => absurd hw List.not_mem_nil⟩, fun w hw => absurd hw List.not_mem_nil, fun d hd => by cases hd⟩, Or.inl ⟨rfl, hf⟩, GRo_0 hn, fun d hd => (by cases hd), fun _ => rfl⟩
  rw [hS]
  show _ = (slT fy hw n ([] ++ fuN (wyR v f n) fr (la + 1 - fr).toNat)).or none
  rw [List.nil_append, Option.or_none]
theorem stE.pp (h : stE K N O RR cnt v f n fy hw wi la q Rs SE sta TN TS tc fo SP S) (hq : q ≤ la) : ∃ (W : List Tw) (c : Option Tw), stP K N O RR cnt v f n fy hw wi la q Rs SE sta TN TS tc fo SP S W c := by
  obtain ⟨W, c, h1, h2, h3, h4, _⟩ := h
  rw [show (la + 1 - q).toNat = (la - q).toNat + 1 by omega] at h1
  exact ⟨W, c, h1, h2, h3, h4⟩
theorem stP.mm (h : stP K N O RR cnt v f n fy hw wi la q Rs SE sta TN TS tc fo SP S W c) (hF : THF K N O RR cnt f n fy hw wi q q Rs SE2 sta TN2 TS2 tc2 (W ++ tgT q (wyR v f n q))) (hf : fo = 0) (hs : suok f C Rs H n) (h0 : 0 ≤ q ∧ q ≤ n) : stM K N O RR cnt v f n fy hw wi la q Rs SE2 sta TN2 TS2 tc2 fo SP S := by
  obtain ⟨W2, G, he⟩ := GRo_of hF
  have c0 := mcT_0 h.2.1 hf
  refine ⟨W2, c, rwQ.move h.1 (fun d hd => by rw [c0] at hd; cases hd) he G.1.1.2.1 G.1.1.2.2.1 (fun u hu => ?_) (fun u hu => ?_), h.2.1, G, h.2.2.2⟩
  · have := thL_ge hs h0.1 h0.2 _ W2 G.1.1.1 u hu
    omega
  · have := fuN_ge _ _ u hu
    omega
/-- no begin is followed here -/
theorem stE.no (h : stE K N O RR cnt v f n fy hw wi la q Rs SE sta TN TS tc fo SP S) (hq : fo = 1 ∨ la < q) : stM K N O RR cnt v f n fy hw wi la q Rs SE sta TN TS tc fo SP S := by
  obtain ⟨W, c, h1, h2, h3, h4, _⟩ := h
  refine ⟨W, c, ?_, h2, h3.up (by omega), h4⟩
  rcases hq with q1 | q1
  · obtain ⟨d, d1, d2⟩ := mcT_1 h2 q1
    have := h4 d d1
    rw [d1] at h1 ⊢
    exact h1.late (fun u hu => by have := fuN_ge _ _ u hu; omega) (fun u hu => by have := fuN_ge _ _ u hu; omega) (fuN_sd _ _)
  · rw [show (la + 1 - q).toNat = 0 by omega] at h1
    rw [show (la - q).toNat = 0 by omega]
    exact h1
theorem rwQ.turn {Y : List Tw} {p2 : Int} (h : rwQ fy hw n p W Y c S) : rwQ fy hw n p2 [] (W ++ Y) c S := by
  obtain ⟨h1, ⟨h2, h3, h4⟩, h5, h6⟩ := h
  refine ⟨?_, ⟨List.Pairwise.nil, List.pairwise_append.mpr ⟨h2, h3, h4⟩, fun w hw => absurd hw List.not_mem_nil⟩, fun w hw => absurd hw List.not_mem_nil, fun d _ w hw => absurd hw List.not_mem_nil⟩
  rw [h1, List.nil_append, cutT_app]
  congr 2
  cases c with
  | none => rfl
  | some d => rw [cutT_all (h6 d rfl)]
/-- the rows are turned -/
theorem stM.turn (h : stM K N O RR cnt v f n fy hw wi la q Rs SE sta TN TS tc fo SP S) (hn : ∀ i : Int, 0 ≤ i → i < 2048 → ¬ SE0 i = sta2) (ht : tc2 = 0) : stJ K N O RR cnt v f n fy hw wi la q Rs SE0 sta2 TN TS tc 0 TN2 TS2 tc2 fo SP S ∧ roW Rs n q wi q TN TS tc := by
  obtain ⟨W, c, h1, h2, h3, h4⟩ := h
  have ro := h3.2.w
  refine ⟨?_, ro⟩
  rw [ht]
  obtain ⟨s, s1, s2⟩ : ∃ s : Int, s ≤ q ∧ (0 < tc → s ≤ TS (0 * wi)) := by
    by_cases k : 0 < tc
    · exact ⟨TS (0 * wi), (ro.1 0 (Int.le_refl _) k).1, fun _ => Int.le_refl _⟩
    · exact ⟨q, Int.le_refl _, fun z => absurd z k⟩
  refine ⟨[], W, c, s, h1.turn, h2, GRo_0 hn, ?_, fun d hd => by have := h4 d hd; omega, fun _ => rfl, s1, s2⟩
  rw [Int.sub_zero]
  exact thR_of h3.1.1.1 h3.1.1.2.2.2
/-- nothing runs, and nothing begins -/
theorem stJ.brk (h : stJ K N O RR cnt v f n fy hw wi la p Rs SE sta NW NS nc 0 TN TS tc fo SP S) (hn : nc = 0) (ht : tc = 0) (hf : fo = 1 ∨ la ≤ p) : mcT S fo SP wi := by
  obtain ⟨W, U, c, s, h1, h2, h3, h4, h5, h6, h7⟩ := h
  rw [hn] at h4
  have e : U = [] := h4
  have h8 := h3.1.1.1
  rw [ht] at h8
  have e2 : W = [] := h8
  rw [e, e2, List.nil_append] at h1
  have done : S = c := by
    rcases hf with q1 | q1
    · obtain ⟨d, d1, d2⟩ := mcT_1 h2 q1
      have := h5 d d1
      rw [d1] at h1 ⊢
      exact rwQ.done (h1.late (T := []) (fun u hu => by have := fuN_ge _ _ u hu; omega) (fun u hu => absurd hu List.not_mem_nil) List.Pairwise.nil)
    · rw [show (la - p).toNat = 0 by omega] at h1
      exact rwQ.done h1
  rw [done]
  exact h2
theorem stE.fin (h : stE K N O RR cnt v f n fy hw wi la q Rs SE sta TN TS tc fo SP S) (hq : q = n + 1) (hl : la ≤ n) : mcT S fo SP wi := by
  obtain ⟨W, c, h1, h2, h3, h4, h5⟩ := h
  rw [h5 hq, show (la + 1 - q).toNat = 0 by omega] at h1
  rw [rwQ.done h1]
  exact h2
end StT
/-! the last place where one may begin -/
def laZ (hw n p lz : Int) : Prop := (hw = 0 ∧ lz = n) ∨ (¬ hw = 0 ∧ lz = p)
section LaZ
variable {hw n p lz i fo : Int}
theorem laZ_of : laZ hw n p (laR hw n p) := by
  by_cases h : hw = 0
  · exact Or.inl ⟨h, (laR_0 h).symm⟩
  · exact Or.inr ⟨h, (laR_1 h).symm⟩
theorem laR_ge (h : p ≤ n) : p ≤ laR hw n p := by
  rcases laZ_of (hw := hw) (n := n) (p := p) with ⟨_, z⟩ | ⟨_, z⟩ <;> omega
theorem laZ_le (h : laZ hw n p lz) (hi : i = p ∨ hw = 0) (hn : i ≤ n) : i ≤ lz := by
  rcases h with ⟨a, b⟩ | ⟨a, b⟩
  · omega
  · rcases hi with c | c <;> omega
theorem laZ_no (h : laZ hw n p lz) (hi : fo = 1 ∨ (¬ i = p ∧ ¬ hw = 0)) (hp : p ≤ i) : fo = 1 ∨ lz < i := by
  rcases hi with c | ⟨c, d⟩
  · exact Or.inl c
  · rcases h with ⟨a, b⟩ | ⟨a, b⟩
    · exact absurd a d
    · exact Or.inr (by omega)
theorem laZ_br (h : laZ hw n p lz) (hi : fo = 1 ∨ ¬ hw = 0) (hp : p ≤ i) : fo = 1 ∨ lz ≤ i := by
  rcases hi with c | d
  · exact Or.inl c
  · rcases h with ⟨a, b⟩ | ⟨a, b⟩
    · exact absurd a d
    · exact Or.inr (by omega)
theorem laZ_n (h : laZ hw n p lz) (hp : p ≤ n) : lz ≤ n := by
  rcases h with ⟨a, b⟩ | ⟨a, b⟩ <;> omega
end LaZ
theorem rgs_wd {F : Int → Int} {m a b c d : Int} (h : rgs F m a b) (h1 : c ≤ a) (h2 : b ≤ d) : rgs F m c d := fun k k0 k1 => by
  have := h k k0 k1
  omega
theorem rgs_z0 {F : Int → Int} {m b : Int} (hb : 0 ≤ b) : rgs (zfill F 0 m 0) m 0 b := fun k k0 k1 => by
  rw [zfill_in (by omega)]
  omega
