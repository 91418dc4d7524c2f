/-! what a part's run leaves -/
def ran (sl rm rm2 : Int) (T N W CA CM CL CH SN CC RO T2 N2 W2 CA2 CM2 CL2 CH2 SN2 CC2 RO2 : Int → Int) : Prop := (SN sl ≤ SN2 sl ∧ CC sl ≤ CC2 sl ∧ rm ≤ rm2) ∧ rsm RO RO2 (32 * rm) ∧ sgn T2 N2 W2 (12500 * sl) (SN sl) (SN2 sl) ∧ stx T N W CA CM T2 N2 W2 CA2 CM2 (12500 * sl) (SN sl) ∧ sno SN SN2 sl ∧ sno CC CC2 sl ∧ ccx CL CH CL2 CH2 sl (CC sl)
section Ran
variable {sl rm rm2 rm3 : Int} {T N W CA CM CL CH SN CC RO T2 N2 W2 CA2 CM2 CL2 CH2 SN2 CC2 RO2 T3 N3 W3 CA3 CM3 CL3 CH3 SN3 CC3 RO3 : Int → Int}
theorem ran_rf : ran sl rm rm T N W CA CM CL CH SN CC RO T N W CA CM CL CH SN CC RO := ⟨⟨Int.le_refl _, Int.le_refl _, Int.le_refl _⟩, rsm_rf, sgn_0, stx_rf, sno_rf, sno_rf, ccx.rf⟩
theorem ran_tr (h : ran sl rm rm2 T N W CA CM CL CH SN CC RO T2 N2 W2 CA2 CM2 CL2 CH2 SN2 CC2 RO2) (h2 : ran sl rm2 rm3 T2 N2 W2 CA2 CM2 CL2 CH2 SN2 CC2 RO2 T3 N3 W3 CA3 CM3 CL3 CH3 SN3 CC3 RO3) : ran sl rm rm3 T N W CA CM CL CH SN CC RO T3 N3 W3 CA3 CM3 CL3 CH3 SN3 CC3 RO3 := by
  obtain ⟨a1, a2, a3, a4, a5, a6, a7⟩ := h
  obtain ⟨b1, b2, b3, b4, b5, b6, b7⟩ := h2
  exact ⟨by omega, rsm_tr a2 b2 (by omega), sgn_tr a3 b4 b3 (by omega), stx_tr a4 b4 (by omega), sno_tr a5 b5, sno_tr a6 b6, a7.tr b7 (by omega)⟩
theorem ran_new (h1 : SN sl ≤ SN2 sl) (h2 : rsm RO RO2 (32 * rm)) (h3 : sgn T2 N2 W2 (12500 * sl) (SN sl) (SN2 sl)) (h4 : stx T N W CA CM T2 N2 W2 CA CM (12500 * sl) (SN sl)) (h5 : sno SN SN2 sl) : ran sl rm (rm + 1) T N W CA CM CL CH SN CC RO T2 N2 W2 CA CM CL CH SN2 CC RO2 := ⟨by omega, h2, h3, h4, h5, sno_rf, ccx.rf⟩
end Ran
section RanM
variable {sl rm rm2 rm3 lo hi c lo2 dp to g r m k a b n n0 lz : Int} {T N W CA CM CL CH SN CC RO T2 N2 W2 CA2 CM2 CL2 CH2 SN2 CC2 RO2 A C : Int → Int} {v w : Sn}
theorem ran.ag (h : ran sl rm rm2 T N W CA CM CL CH SN CC RO T2 N2 W2 CA2 CM2 CL2 CH2 SN2 CC2 RO2) (hh : hi ≤ SN sl) (hc : c ≤ CC sl) : ag7 T N W CA CM CL CH T2 N2 W2 CA2 CM2 CL2 CH2 sl lo hi c := ag7_of h.2.2.2.1 h.2.2.2.2.2.2 hh hc
theorem RRo.rn (h : RRo T N W CA CM CL CH RO sl lo hi c dp to g v) (q : ran sl rm rm2 T N W CA CM CL CH SN CC RO T2 N2 W2 CA2 CM2 CL2 CH2 SN2 CC2 RO2) (hh : hi ≤ SN sl) (hc : c ≤ CC sl) (ht : to + dp < 32 * rm ∧ g + dp < 32 * rm) (h1 : lo2 ≤ lo) : RRo T2 N2 W2 CA2 CM2 CL2 CH2 RO2 sl lo2 (SN2 sl) (CC2 sl) dp to g v := h.up (q.ag hh hc) q.2.1 ht h1 (by have := q.1; omega) (by have := q.1; omega)
theorem RRo.wd (h : RRo T N W CA CM CL CH RO sl lo hi c dp to g v) (h1 : lo2 ≤ lo) : RRo T N W CA CM CL CH RO sl lo2 hi c dp to g v := fun i i0 i1 => (h i i0 i1).up ⟨fun _ _ _ => ⟨rfl, rfl, rfl, rfl, rfl⟩, fun _ _ _ => ⟨rfl, rfl⟩⟩ h1 (Int.le_refl _) (Int.le_refl _)
theorem rE.wd (h : rE T N W RO sl n0 n r m k A C) (h1 : lo ≤ n0) (h2 : n ≤ hi) : rE T N W RO sl lo hi r m k A C := fun i i0 i1 => by
  obtain ⟨s0, s1⟩ := h i i0 i1
  exact ⟨⟨by omega, by omega⟩, s1⟩
theorem rEl.wd (h : rEl T N W RO sl n0 n r m lz A C) (h1 : lo ≤ n0) (h2 : n ≤ hi) : rEl T N W RO sl lo hi r m lz A C := fun i i0 i1 => by
  obtain ⟨s0, s1⟩ := h i i0 i1
  exact ⟨⟨by omega, by omega⟩, s1⟩
theorem rE.rs {r0 : Int} (h : rE T N W RO2 sl n0 n r m k (fun i => RO (a + i)) C) (hs : rsm RO RO2 r0) (ha : a + m ≤ r0) : rE T N W RO2 sl n0 n r m k (fun i => RO2 (a + i)) C := h.cg (fun i _ i1 => hs (a + i) (by omega)) (fun _ _ _ => rfl)
theorem rE.rs2 {r0 : Int} (h : rE T N W RO2 sl n0 n r m k (fun i => RO (a + i)) (fun i => RO (b + i))) (hs : rsm RO RO2 r0) (ha : a + m ≤ r0) (hb : b + m ≤ r0) : rE T N W RO2 sl n0 n r m k (fun i => RO2 (a + i)) (fun i => RO2 (b + i)) := h.cg (fun i _ i1 => hs (a + i) (by omega)) (fun i _ i1 => hs (b + i) (by omega))
theorem rEl.rs2 {r0 : Int} (h : rEl T N W RO2 sl n0 n r m lz (fun i => RO (a + i)) (fun i => RO (b + i))) (hs : rsm RO RO2 r0) (ha : a + m ≤ r0) (hb : b + m ≤ r0) : rEl T N W RO2 sl n0 n r m lz (fun i => RO2 (a + i)) (fun i => RO2 (b + i)) := fun i i0 i1 => by
  have e : lpR T N W sl n0 n lz (RO2 (r + i)) (RO (a + i)) (RO (b + i)) := h i i0 i1
  show lpR T N W sl n0 n lz (RO2 (r + i)) (RO2 (a + i)) (RO2 (b + i))
  rw [hs (a + i) (by omega), hs (b + i) (by omega)]
  exact e
theorem rE.rn (h : rE T N W RO sl lo hi r m k (fun i => RO (a + i)) C) (q : ran sl rm rm2 T N W CA CM CL CH SN CC RO T2 N2 W2 CA2 CM2 CL2 CH2 SN2 CC2 RO2) (hh : hi ≤ SN sl) (hr : r + m ≤ 32 * rm) (ha : a + m ≤ 32 * rm) (h1 : lo2 ≤ lo) : rE T2 N2 W2 RO2 sl lo2 (SN2 sl) r m k (fun i => RO2 (a + i)) C := fun i i0 i1 => by
  obtain ⟨s0, s1, s2, s3⟩ := h i i0 i1
  obtain ⟨x1, x2, x3, _, _⟩ := q.2.2.2.1 (12500 * sl + RO (r + i)) (Or.inl (by omega))
  have y := q.1
  rw [q.2.1 (r + i) (by omega)]
  refine ⟨⟨by omega, by omega⟩, x1.trans s1, x2.trans (s2.trans ?_), x3.trans s3⟩
  exact (q.2.1 (a + i) (by omega)).symm
/-- a set's step -/
theorem RRo_S {SM SA RL RH : Int → Int} {SV : Int → Int → Prop} {ns rg o s : Int} (jk : tka T W CA CM SM SA RL RH CL CH (12500 * sl) n sl c ns) (hs : stR T N W sl lo hi s 1 (RO (to + dp)) o) (hn : 0 ≤ s ∧ s < n) (jv : svR SA SM RL RH SV ns rg) (ha : rAl RO g (dp + 1) s) : RRo T N W CA CM CL CH RO sl lo hi c dp to g (mnS (SV o)) := fun i i0 i1 => by
  rw [ha i i0 (by omega)]
  obtain ⟨h0, h1, h2, h3⟩ := hs
  obtain ⟨t1, t2, t3, t4, t5⟩ := jk s hn.1 hn.2 h1
  rw [h3] at t1 t2 t5
  refine RX_S h0 h1 h2 ⟨t3, t4⟩ (fun y => ?_)
  obtain ⟨_, q⟩ := jv o t1.1 t1.2
  rw [← q y]
  constructor
  · rintro ⟨j, j0, j1⟩
    obtain ⟨c1, c2⟩ := t5 (j - CA (12500 * sl + s)) (by omega) (by omega)
    rw [show CA (12500 * sl + s) + (j - CA (12500 * sl + s)) = j by omega] at c1 c2
    refine ⟨SA o + (j - CA (12500 * sl + s)), by omega, ?_⟩
    rw [← c1, ← c2]
    exact j1
  · rintro ⟨j, j0, j1⟩
    obtain ⟨c1, c2⟩ := t5 (j - SA o) (by omega) (by omega)
    rw [show SA o + (j - SA o) = j by omega] at c1 c2
    refine ⟨CA (12500 * sl + s) + (j - SA o), by omega, ?_⟩
    rw [c1, c2]
    exact j1
/-- a loop is closed: the heads' targets are written, what is behind them stays -/
theorem RRo.cl {N4 W4 : Int → Int} {n1 : Int} (h : RRo T N W CA CM CL CH RO sl lo hi c dp to g v) (hc : clr N W N4 W4 (12500 * sl) n1 m n) (hl : n1 + m ≤ lo) (hm : 0 ≤ m) : RRo T N4 W4 CA CM CL CH RO sl n1 hi c dp to g v := fun i i0 i1 => (h i i0 i1).up ⟨fun s s0 _ => by
  obtain ⟨e1, e2⟩ := hc.1 (12500 * sl + s) (Or.inr (by omega))
  exact ⟨rfl, e1, e2, rfl, rfl⟩, fun _ _ _ => ⟨rfl, rfl⟩⟩ (by omega) (Int.le_refl _) (Int.le_refl _)
theorem rEl_cl {n1 : Int} (hs : spl T (12500 * sl) n1 (n1 + m)) (hq : rsq RO r m n1) (hx : clx N W RO sl n1 m lz a to) (hh : n1 + m ≤ hi) : rEl T N W RO sl n1 hi r m lz (fun i => RO (a + i)) (fun i => RO (to + i)) := fun i i0 i1 => by
  have e := hq i i0 i1
  obtain ⟨x1, x2⟩ := hx i i0 i1
  rw [e]
  exact ⟨⟨by omega, by omega⟩, hs (n1 + i) (by omega) (by omega), x1, x2⟩
end RanM
/-! lists of nodes, from their end -/
theorem cm2_a {d : Int} {u v w : Sn} : cm2 d (cm2 d u v) w = cm2 d u (cm2 d v w) := by
  unfold cm2
  split
  · exact mnC_C
  · exact mnO_O
def rwS (Fi Be pa po dl : Int → Int) (pm : Int → Sn) (N x m j : Int) (d w : Sn) : Prop := (j = m → d = w) ∧ (j < m → ∀ c : Int, nthI Fi Be x (m - 1 - j) c → 0 ≤ c → c < N → pa c = x → po c = m - 1 - j → d = cm2 (dl x) (pm c) w)
section RwS
variable {K O Fi Be Le Mo La Z SM RF RL AF AL SD : Int → Int} {SV : Int → Int → Prop} {N ns lv : Int} {pa po MN dl st ht hh : Int → Int} {PS : Int → Int → Int} {T : Int} {dm pm : Int → Sn} {x c j : Int} {d w : Sn}
theorem rwS_1 (hG : rtG K O Fi Be Le Mo Z SM RF RL AF AL SD N ns lv pa po MN dl st ht hh PS T) (hM : rtM K O Fi Be Le Mo La SV N pa po dl dm pm) (hx : 0 ≤ x ∧ x < N) (hk : K x = 4 ∨ K x = 5) (hc : 0 ≤ c ∧ c < N) (hp : pa c = x) (ho : po c = MN x - 1) (hn : nthI Fi Be x (MN x - 1) c) : rwS Fi Be pa po dl pm N x (MN x) 1 (dm x) (dm c) := by
  have A := (hG.2.1 c hc.1 hc.2).1
  have bc : Be c = -1 := by
    rcases Int.lt_or_le (Be c) 0 with q | q
    · have := A.2.1; omega
    · have u := hG.be hc.1 hc.2 q
      have v := (hG.2.1 (Be c) q u.1).1.2.2.2.resolve_left (fun t => by have := t.1; omega)
      have y := v.2.1
      rw [u.2.2.1, hp] at y
      omega
  have dx : dm x = pm c := ((hM.2.2 x hx.1 hx.2).2.2.2.2.1 hk).2 c hc.1 hc.2 hp bc
  refine ⟨fun e => ?_, fun e c' hn' h0 h1 hp' ho' => ?_⟩
  · rw [dx]
    exact hM.2.1 c hc.1 hc.2 (by omega) (by omega)
  · have e2 : c = Be c' := hn.be hn' (by omega)
    have b := hM.1 c' h0 h1 (by omega)
    rw [← e2, hp'] at b
    rw [dx]
    exact b
theorem rwS_s (_hG : rtG K O Fi Be Le Mo Z SM RF RL AF AL SD N ns lv pa po MN dl st ht hh PS T) (hM : rtM K O Fi Be Le Mo La SV N pa po dl dm pm) (hx : 0 ≤ x ∧ x < N) (h : rwS Fi Be pa po dl pm N x (MN x) j d w) (hj : j < MN x) (hc : 0 ≤ c ∧ c < N) (hp : pa c = x) (ho : po c = MN x - 1 - j) (hn : nthI Fi Be x (MN x - 1 - j) c) : rwS Fi Be pa po dl pm N x (MN x) (j + 1) d (cm2 (dl x) (dm c) w) := by
  have e := h.2 hj c hn hc.1 hc.2 hp ho
  refine ⟨fun q => ?_, fun q c' hn' h0 h1 hp' ho' => ?_⟩
  · rw [e, hM.2.1 c hc.1 hc.2 (by omega) (by omega)]
  · have e2 : c = Be c' := hn.be (by rw [show MN x - 1 - j - 1 = MN x - 1 - (j + 1) by omega]; exact hn') (by omega)
    have b := hM.1 c' h0 h1 (by omega)
    rw [← e2, hp'] at b
    rw [e, b]
    exact cm2_a
end RwS
theorem RX.wd {T N W CA CM CL CH : Int → Int} {sl lo hi c u f x lo2 : Int} {v : Sn} (h : RX T N W CA CM CL CH sl lo hi c u f x v) (h1 : lo2 ≤ lo) : RX T N W CA CM CL CH sl lo2 hi c u f x v := h.up ⟨fun _ _ _ => ⟨rfl, rfl, rfl, rfl, rfl⟩, fun _ _ _ => ⟨rfl, rfl⟩⟩ h1 (Int.le_refl _) (Int.le_refl _)
theorem prR_of {T N W CA CM CL CH RO : Int → Int} {sl lo n c to g : Int} {v w : Sn} (b : RRo T N W CA CM CL CH RO sl lo n c 0 to g v) (e : v = w) (h2 : 2 ≤ lo) (hr : RO (to + 0) = 0) (h0 : T (12500 * sl) = 0) (h1 : T (12500 * sl + 1) = 6) (hn : 2 ≤ n) : prR T N W CA CM CL CH sl n c (RO g) w := ⟨⟨h0, h1, hn⟩, by
  have t := b 0 (Int.le_refl 0) (Int.le_refl 0)
  rw [hr, Int.add_zero, e] at t
  exact t.wd h2⟩
section Run
variable {X : ab_X} {d : Nat} {Q : Outcome → ab_G → Prop} {o : Nat → Nat} {G0 : ab_G} {m_thrown m_taped m_length m_out m_wide m_gathered m_sets m_ranges m_nodes m_at m_flags m_fault m_place m_numbered m_depth m_value m_isNot m_least0 m_most0 m_slot m_charAt m_charWide m_trail m_isMatch m_matchGroups m_allFrom m_allBefore m_founds m_pieces m_writtenMany m_templateWide m_tooMuch : Int} {K O Fi Be Le Mo Z LZ SM SA RL RH : Int → Int} {pa po MN dl st ht hh QF QL AF AL SD : Int → Int} {PS : Int → Int → Int} {T_ nd ns sc : Int} {SV : Int → Int → Prop} {dm pm : Int → Sn} {rg : Int}
set_option maxRecDepth 100000 in
set_option maxHeartbeats 4000000 in
theorem mr_leaf (jG : rtG K O Fi Be Le Mo Z SM QF QL AF AL SD nd ns 0 pa po MN dl st ht hh PS T_) (hnd : nd ≤ 4200) (hd : 12 ≤ d) (jM : rtM K O Fi Be Le Mo LZ SV nd pa po dl dm pm) (jv : svR SA SM RL RH SV ns rg) {G : ab_G} {T N W CA CM CL CH SN CC RO WP WD WT WG WS : Int → Int} {wk gt rm x dp to : Int} (hM : mcc o G m_thrown m_taped m_length m_out m_wide m_gathered m_sets m_ranges m_nodes m_at m_flags m_fault m_place m_numbered m_depth m_value m_isNot m_least0 m_most0 m_slot wk gt rm m_charAt m_charWide m_trail m_isMatch m_matchGroups m_allFrom m_allBefore m_founds m_pieces m_writtenMany m_templateWide m_tooMuch T N W CA CM CL CH SN CC RO WP WD WT WG WS K O Fi Be Le Mo Z LZ SM SA RL RH ns) (hx : WP (wk - 1) = x) (hdp : WD (wk - 1) = dp) (hto : WT (wk - 1) = to) (hwg : WG (wk - 1) = to) (hws : WS (wk - 1) = 0) (c1 : (0 ≤ x ∧ x < nd) ∧ (1 ≤ wk ∧ wk + hh x ≤ 299) ∧ (0 ≤ dp ∧ dp + ht x ≤ 31) ∧ (0 ≤ to ∧ to + 32 ≤ 32 * rm) ∧ 2 ≤ SN m_slot) (c3 : 2 * SN m_slot + cs (Z x) dp ≤ 25000 ∧ rm + 2 * Z x ≤ 1250 ∧ CC m_slot + Z x ≤ 600 ∧ Z x ≤ 400) (jr : rokk RO to (dp + 1) (SN m_slot)) (hfr : fx o o [280, 318, 319, 320, 321, 322, 323, 324, 317, 325, 333, 328, 329, 330, 331, 332] G0 G) (hlen : G.length = G0.length) (hsl : ab_slots G = ab_slots G0) (k : ∀ (G2 : ab_G) (Tq Nq Wq CAq CMq CLq CHq SNq CCq ROq WPq WDq WTq WGq WSq : Int → Int) (g2 rm2 : Int), mcc o G2 m_thrown m_taped m_length m_out m_wide m_gathered m_sets m_ranges m_nodes m_at m_flags m_fault m_place m_numbered m_depth m_value m_isNot m_least0 m_most0 m_slot (wk - 1) g2 rm2 m_charAt m_charWide m_trail m_isMatch m_matchGroups m_allFrom m_allBefore m_founds m_pieces m_writtenMany m_templateWide m_tooMuch Tq Nq Wq CAq CMq CLq CHq SNq CCq ROq WPq WDq WTq WGq WSq K O Fi Be Le Mo Z LZ SM SA RL RH ns → fsm WP WD WT WG WS WPq WDq WTq WGq WSq (wk - 1) → ran m_slot rm rm2 T N W CA CM CL CH SN CC RO Tq Nq Wq CAq CMq CLq CHq SNq CCq ROq → (2 * SNq m_slot ≤ 2 * SN m_slot + (cs (Z x) dp) ∧ rm2 ≤ rm + 2 * (Z x) ∧ CCq m_slot ≤ CC m_slot + (Z x)) → (0 ≤ g2 ∧ g2 + 32 ≤ 32 * rm2) → rokk ROq g2 (dp + 1) (SNq m_slot) → RRo Tq Nq Wq CAq CMq CLq CHq ROq m_slot (SN m_slot) (SNq m_slot) (CCq m_slot) dp to g2 (dm x) → fx o o [280, 318, 319, 320, 321, 322, 323, 324, 317, 325, 333, 328, 329, 330, 331, 332] G0 G2 → G2.length = G0.length → ab_slots G2 = ab_slots G0 → ab_W X (ab_pl y_MO_compile b_MO_compile 6 (some (.int))) d G2 280 [some (vR 80), some (vz sc), none, none, none, none] [] Q) (hk : Z x = 0 ∨ (1 ≤ Z x ∧ K x ≤ 3)) : ab_W X (ab_pl y_MO_compile b_MO_compile 6 (some (.int))) d G 280 [some (vR 80), some (vz sc), none, none, none, none] [] Q := by
  subst hx; subst hdp; subst hto
  obtain ⟨⟨x0, x1⟩, ⟨w0, w1⟩, ⟨d0, d1⟩, ⟨t0, t1⟩, s2⟩ := c1
  obtain ⟨r1, r2, r3, r4⟩ := c3
  obtain ⟨hA, hH, hC⟩ := jG.2.1 (WP (wk - 1)) x0 x1
  have hz := hA.1
  have hhh := hH.2.1
  have nd4 : nd ≤ 4200 := hnd
  rcases hk with hz0 | ⟨hz1, hk3⟩
  · refine t_z (m_work := wk) (m_got := gt) (m_rowMany := rm) (WP := WP) (nd := nd) (sc := sc) hM (cx := (by refine ⟨?_, ?_, ?_, ?_, ?_, ?_, ?_, ?_⟩ <;> omega)) (czz := hz0) (cwk := by omega) (by omega) hfr hlen hsl (fun G2 g2 WP2 WD2 WT2 WG2 WS2 m2 q1 q2 f1 f2 f3 => ?_)
    subst q2
    exact k G2 T N W CA CM CL CH SN CC RO WP2 WD2 WT2 WG2 WS2 _ rm m2 q1 ran_rf (by rw [hz0, cs_0]; omega) (by omega) jr (RRo_z (rtz jG jM ((st (WP (wk - 1))).toNat + 1) _ x0 x1 (by omega) hz0)) f1 f2 f3
  · have hl := cs_leaf hz1 (d := WD (wk - 1)) (by omega)
    obtain ⟨k0, k1, k2, k3, k4, k5, k6, k7, k8⟩ := hC
    have e : K (WP (wk - 1)) = 1 ∨ K (WP (wk - 1)) = 2 ∨ K (WP (wk - 1)) = 3 := by
      rcases (show K (WP (wk - 1)) = 0 ∨ K (WP (wk - 1)) = 1 ∨ K (WP (wk - 1)) = 2 ∨ K (WP (wk - 1)) = 3 by omega) with q | q
      · have := k1 q; omega
      · exact q
    rcases e with e | e | e
    · obtain ⟨o1, o2, o3⟩ := k2 e
      refine t_1 (m_work := wk) (m_got := gt) (m_rowMany := rm) (nd := nd) (sc := sc) hM (cx := (by refine ⟨?_, ?_, ?_, ?_, ?_, ?_, ?_, ?_⟩ <;> omega)) (jto := jr) (crs := by omega) (czz := hz1) (ck := e) (co := by omega) (cwk := by omega) (by omega) hfr hlen hsl (fun G2 g2 WP2 WD2 WT2 WG2 WS2 T2 N2 W2 CA2 CM2 CL2 CH2 SN2 CC2 RO2 m2 q1 q2 q3 q4 q5 q6 q7 q8 q9 q10 q11 q12 q13 f1 f2 f3 => ?_)
      subst q2
      have b2_ : RRo T2 N2 W2 CA2 CM2 CL2 CH2 RO2 m_slot (SN m_slot) (SN2 m_slot) (CC2 m_slot) (WD (wk - 1)) (WT (wk - 1)) (32 * rm) (dm (WP (wk - 1))) := by
        rw [(jM.2.2 _ x0 x1).2.1 e]
        exact RRo_S q10 ⟨⟨by omega, by omega⟩, q13.2.1, by rw [q5 _ (by omega)]; exact q13.2.2.1, q13.2.2.2⟩ (by omega) jv q11
      exact k G2 T2 N2 W2 CA2 CM2 CL2 CH2 SN2 CC2 RO2 WP2 WD2 WT2 WG2 WS2 _ (rm + 1) m2 q1 ⟨by omega, q5, (show SN2 m_slot = SN m_slot + 1 by omega) ▸ q6, q7, q8, q9, q12⟩ (by omega) (by omega) ((show SN2 m_slot = SN m_slot + 1 by omega) ▸ q4) b2_ f1 f2 f3
    · refine t_2 (m_work := wk) (m_got := gt) (m_rowMany := rm) (nd := nd) (sc := sc) hM (cx := (by refine ⟨?_, ?_, ?_, ?_, ?_, ?_, ?_, ?_⟩ <;> omega)) (jto := jr) (crs := by omega) (czz := hz1) (ck := e) (cwk := by omega) (by omega) hfr hlen hsl (fun G2 g2 WP2 WD2 WT2 WG2 WS2 RO2 T2 N2 W2 SN2 m2 q1 q2 q3 q4 q5 q6 q7 q8 q9 q10 q11 f1 f2 f3 => ?_)
      subst q2
      have b2_ : RRo T2 N2 W2 CA CM CL CH RO2 m_slot (SN m_slot) (SN2 m_slot) (CC m_slot) (WD (wk - 1)) (WT (wk - 1)) (32 * rm) (dm (WP (wk - 1))) := by
        rw [(jM.2.2 _ x0 x1).2.2.1 e]
        exact RRo_A (z := 0) ⟨⟨by omega, by omega⟩, q11.2.1, by rw [q5 _ (by omega)]; exact q11.2.2.1, q11.2.2.2⟩ q10
      exact k G2 T2 N2 W2 CA CM CL CH SN2 CC RO2 WP2 WD2 WT2 WG2 WS2 _ (rm + 1) m2 q1 (ran_new (by omega) q5 (q3 ▸ q6) q7 q8) (by omega) (by omega) (q3 ▸ q4) b2_ f1 f2 f3
    · obtain ⟨o1, o2⟩ := k4 e
      refine t_3 (m_work := wk) (m_got := gt) (m_rowMany := rm) (nd := nd) (sc := sc) hM (cx := (by refine ⟨?_, ?_, ?_, ?_, ?_, ?_, ?_, ?_⟩ <;> omega)) (jto := jr) (crs := by omega) (czz := hz1) (ck := e) (co := o2) (cwk := by omega) (by omega) hfr hlen hsl (fun G2 g2 WP2 WD2 WT2 WG2 WS2 RO2 T2 N2 W2 SN2 m2 q1 q2 q3 q4 q5 q6 q7 q8 q9 q10 f1 f2 f3 => ?_)
      subst q2
      have b2_ : RRo T2 N2 W2 CA CM CL CH RO2 m_slot (SN m_slot) (SN2 m_slot) (CC m_slot) (WD (wk - 1)) (WT (wk - 1)) (32 * rm) (dm (WP (wk - 1))) := by
        rw [(jM.2.2 _ x0 x1).2.2.2.1 e]
        exact RRo_Q (q10.rs q4 (by omega))
      exact k G2 T2 N2 W2 CA CM CL CH SN2 CC RO2 WP2 WD2 WT2 WG2 WS2 _ (rm + 1) m2 q1 (ran_new q3.1 q4 q5 q6 q7) (by omega) (by omega) q9 b2_ f1 f2 f3
set_option maxRecDepth 100000 in
set_option maxHeartbeats 4000000 in
theorem mr_rows (jG : rtG K O Fi Be Le Mo Z SM QF QL AF AL SD nd ns 0 pa po MN dl st ht hh PS T_) (hnd : nd ≤ 4200) (hd : 20 ≤ d) (jM : rtM K O Fi Be Le Mo LZ SV nd pa po dl dm pm) (jv : svR SA SM RL RH SV ns rg) {n : Int} (ih : ∀ {G : ab_G} {T N W CA CM CL CH SN CC RO WP WD WT WG WS : Int → Int} {wk gt rm x dp to : Int}, (mcc o G m_thrown m_taped m_length m_out m_wide m_gathered m_sets m_ranges m_nodes m_at m_flags m_fault m_place m_numbered m_depth m_value m_isNot m_least0 m_most0 m_slot wk gt rm m_charAt m_charWide m_trail m_isMatch m_matchGroups m_allFrom m_allBefore m_founds m_pieces m_writtenMany m_templateWide m_tooMuch T N W CA CM CL CH SN CC RO WP WD WT WG WS K O Fi Be Le Mo Z LZ SM SA RL RH ns) → (WP (wk - 1) = x) → (WD (wk - 1) = dp) → (WT (wk - 1) = to) → (WG (wk - 1) = to) → (WS (wk - 1) = 0) → ((0 ≤ x ∧ x < nd) ∧ (1 ≤ wk ∧ wk + hh x ≤ 299) ∧ (0 ≤ dp ∧ dp + ht x ≤ 31) ∧ (0 ≤ to ∧ to + 32 ≤ 32 * rm) ∧ 2 ≤ SN m_slot) → (st x < n) → (2 * SN m_slot + cs (Z x) dp ≤ 25000 ∧ rm + 2 * Z x ≤ 1250 ∧ CC m_slot + Z x ≤ 600 ∧ Z x ≤ 400) → (rokk RO to (dp + 1) (SN m_slot)) → (fx o o [280, 318, 319, 320, 321, 322, 323, 324, 317, 325, 333, 328, 329, 330, 331, 332] G0 G) → (G.length = G0.length) → (ab_slots G = ab_slots G0) → (∀ (G2 : ab_G) (Tq Nq Wq CAq CMq CLq CHq SNq CCq ROq WPq WDq WTq WGq WSq : Int → Int) (g2 rm2 : Int), mcc o G2 m_thrown m_taped m_length m_out m_wide m_gathered m_sets m_ranges m_nodes m_at m_flags m_fault m_place m_numbered m_depth m_value m_isNot m_least0 m_most0 m_slot (wk - 1) g2 rm2 m_charAt m_charWide m_trail m_isMatch m_matchGroups m_allFrom m_allBefore m_founds m_pieces m_writtenMany m_templateWide m_tooMuch Tq Nq Wq CAq CMq CLq CHq SNq CCq ROq WPq WDq WTq WGq WSq K O Fi Be Le Mo Z LZ SM SA RL RH ns → fsm WP WD WT WG WS WPq WDq WTq WGq WSq (wk - 1) → ran m_slot rm rm2 T N W CA CM CL CH SN CC RO Tq Nq Wq CAq CMq CLq CHq SNq CCq ROq → (2 * SNq m_slot ≤ 2 * SN m_slot + (cs (Z x) dp) ∧ rm2 ≤ rm + 2 * (Z x) ∧ CCq m_slot ≤ CC m_slot + (Z x)) → (0 ≤ g2 ∧ g2 + 32 ≤ 32 * rm2) → rokk ROq g2 (dp + 1) (SNq m_slot) → RRo Tq Nq Wq CAq CMq CLq CHq ROq m_slot (SN m_slot) (SNq m_slot) (CCq m_slot) dp to g2 (dm x) → fx o o [280, 318, 319, 320, 321, 322, 323, 324, 317, 325, 333, 328, 329, 330, 331, 332] G0 G2 → G2.length = G0.length → ab_slots G2 = ab_slots G0 → ab_W X (ab_pl y_MO_compile b_MO_compile 6 (some (.int))) d G2 280 [some (vR 80), some (vz sc), none, none, none, none] [] Q) → ab_W X (ab_pl y_MO_compile b_MO_compile 6 (some (.int))) d G 280 [some (vR 80), some (vz sc), none, none, none, none] [] Q) {x dp : Int} (hxx : 0 ≤ x ∧ x < nd) (hst : st x < n + 1) (hk : K x = 4) (hz1 : 1 ≤ Z x) (hd0 : 0 ≤ dp ∧ dp + ht x ≤ 31) : ∀ (r : Nat) {G : ab_G} {T N W CA CM CL CH SN CC RO WP WD WT WG WS : Int → Int} {wk gt rm lo : Int} {w_ : Sn}, (mcc o G m_thrown m_taped m_length m_out m_wide m_gathered m_sets m_ranges m_nodes m_at m_flags m_fault m_place m_numbered m_depth m_value m_isNot m_least0 m_most0 m_slot wk gt rm m_charAt m_charWide m_trail m_isMatch m_matchGroups m_allFrom m_allBefore m_founds m_pieces m_writtenMany m_templateWide m_tooMuch T N W CA CM CL CH SN CC RO WP WD WT WG WS K O Fi Be Le Mo Z LZ SM SA RL RH ns) → (WP (wk - 1) = x) → (WD (wk - 1) = dp) → (0 ≤ WT (wk - 1) ∧ WT (wk - 1) + 32 ≤ 32 * rm) → (1 ≤ WS (wk - 1) ∧ WS (wk - 1) ≤ MN x ∧ MN x ≤ 4200 ∧ MN x - WS (wk - 1) ≤ (r : Int)) → (1 ≤ wk ∧ wk + hh x ≤ 299) → (2 ≤ SN m_slot) → (2 * SN m_slot + cs (PS x (MN x - WS (wk - 1))) dp ≤ 25000 ∧ rm + 2 * PS x (MN x - WS (wk - 1)) ≤ 1250 ∧ CC m_slot + PS x (MN x - WS (wk - 1)) ≤ 600 ∧ PS x (MN x - WS (wk - 1)) ≤ 400) → (0 ≤ gt ∧ gt + 32 ≤ 32 * rm) → (rokk RO gt (dp + 1) (SN m_slot)) → (RRo T N W CA CM CL CH RO m_slot lo (SN m_slot) (CC m_slot) dp (WT (wk - 1)) gt w_) → (lo ≤ SN m_slot) → (rwS Fi Be pa po dl pm nd x (MN x) (WS (wk - 1)) (dm x) w_) → (fx o o [280, 318, 319, 320, 321, 322, 323, 324, 317, 325, 333, 328, 329, 330, 331, 332] G0 G) → (G.length = G0.length) → (ab_slots G = ab_slots G0) → (∀ (G2 : ab_G) (Tq Nq Wq CAq CMq CLq CHq SNq CCq ROq WPq WDq WTq WGq WSq : Int → Int) (g2 rm2 : Int), mcc o G2 m_thrown m_taped m_length m_out m_wide m_gathered m_sets m_ranges m_nodes m_at m_flags m_fault m_place m_numbered m_depth m_value m_isNot m_least0 m_most0 m_slot (wk - 1) g2 rm2 m_charAt m_charWide m_trail m_isMatch m_matchGroups m_allFrom m_allBefore m_founds m_pieces m_writtenMany m_templateWide m_tooMuch Tq Nq Wq CAq CMq CLq CHq SNq CCq ROq WPq WDq WTq WGq WSq K O Fi Be Le Mo Z LZ SM SA RL RH ns → fsm WP WD WT WG WS WPq WDq WTq WGq WSq (wk - 1) → ran m_slot rm rm2 T N W CA CM CL CH SN CC RO Tq Nq Wq CAq CMq CLq CHq SNq CCq ROq → (2 * SNq m_slot ≤ 2 * SN m_slot + (cs (PS x (MN x - WS (wk - 1))) dp) ∧ rm2 ≤ rm + 2 * (PS x (MN x - WS (wk - 1))) ∧ CCq m_slot ≤ CC m_slot + (PS x (MN x - WS (wk - 1)))) → (0 ≤ g2 ∧ g2 + 32 ≤ 32 * rm2) → rokk ROq g2 (dp + 1) (SNq m_slot) → RRo Tq Nq Wq CAq CMq CLq CHq ROq m_slot lo (SNq m_slot) (CCq m_slot) dp (WT (wk - 1)) g2 (dm x) → fx o o [280, 318, 319, 320, 321, 322, 323, 324, 317, 325, 333, 328, 329, 330, 331, 332] G0 G2 → G2.length = G0.length → ab_slots G2 = ab_slots G0 → ab_W X (ab_pl y_MO_compile b_MO_compile 6 (some (.int))) d G2 280 [some (vR 80), some (vz sc), none, none, none, none] [] Q) → ab_W X (ab_pl y_MO_compile b_MO_compile 6 (some (.int))) d G 280 [some (vR 80), some (vz sc), none, none, none, none] [] Q := by
  obtain ⟨hAx, hHx, hCx⟩ := jG.2.1 x hxx.1 hxx.2
  have hh0 := hHx.2.1
  obtain ⟨k0, k1, k2, k3, k4, k5, k6, k7, k8⟩ := hCx
  obtain ⟨kf, kp, kd, _⟩ := k5 hk
  have hh1 := hHx.2.1.2.2 (by omega)
  have hzc := hAx.1
  intro r
  induction r with
  | zero =>
    intro G T N W CA CM CL CH SN CC RO WP WD WT WG WS wk gt rm lo w_ hM hx hdp ht0 hj hw hs2 hb hg jr hm1 hlo hm2 hfr hlen hsl k
    subst hdp
    refine t_Row_s (m_work := wk) (m_got := gt) (m_rowMany := rm) (sc := sc) (nd := nd) hM (cx := by rw [hx]; refine ⟨?_, ?_, ?_, ?_, ?_, ?_, ?_, ?_⟩ <;> omega) (jG := jG) (ck := by rw [hx]; exact hk) (jf := by rw [hx]; exact kf) (cws := by omega) (cs0 := by omega) (jgo := jr) (cgo := hg) (czz := by rw [hx]; exact hz1) (cwk := by omega) (by omega) hfr hlen hsl (fun G2 g2 WP2 WD2 WT2 WG2 WS2 m2 q1 q2 q3 f1 f2 f3 => ?_) (fun G2 c2 t2 u2 WP2 WD2 WT2 WG2 WS2 m2 q1 q2 q3 q4 q5 q6 q7 q8 q9 q10 q11 q12 q13 q14 q15 q16 q17 f1 f2 f3 => ?_)
    · rw [hx] at q3
      subst q2
      have e0 : MN x - WS (wk - 1) = 0 := by omega
      exact k G2 T N W CA CM CL CH SN CC RO WP2 WD2 WT2 WG2 WS2 _ rm m2 q1 ran_rf (by rw [e0, kp, cs_0]; omega) hg jr (hm1.e (hm2.1 (by omega)).symm) f1 f2 f3
    · rw [hx] at q15 q16 q17
      exfalso; omega
  | succ r ihr =>
    intro G T N W CA CM CL CH SN CC RO WP WD WT WG WS wk gt rm lo w_ hM hx hdp ht0 hj hw hs2 hb hg jr hm1 hlo hm2 hfr hlen hsl k
    subst hdp
    refine t_Row_s (m_work := wk) (m_got := gt) (m_rowMany := rm) (sc := sc) (nd := nd) hM (cx := by rw [hx]; refine ⟨?_, ?_, ?_, ?_, ?_, ?_, ?_, ?_⟩ <;> omega) (jG := jG) (ck := by rw [hx]; exact hk) (jf := by rw [hx]; exact kf) (cws := by omega) (cs0 := by omega) (jgo := jr) (cgo := hg) (czz := by rw [hx]; exact hz1) (cwk := by omega) (by omega) hfr hlen hsl (fun G2 g2 WP2 WD2 WT2 WG2 WS2 m2 q1 q2 q3 f1 f2 f3 => ?_) (fun G2 c2 t2 u2 WP2 WD2 WT2 WG2 WS2 m2 q1 q2 q3 q4 q5 q6 q7 q8 q9 q10 q11 q12 q13 q14 q15 q16 q17 f1 f2 f3 => ?_)
    · rw [hx] at q3
      subst q2
      have e0 : MN x - WS (wk - 1) = 0 := by omega
      exact k G2 T N W CA CM CL CH SN CC RO WP2 WD2 WT2 WG2 WS2 _ rm m2 q1 ran_rf (by rw [e0, kp, cs_0]; omega) hg jr (hm1.e (hm2.1 (by omega)).symm) f1 f2 f3
    · rw [hx] at q15 q16 q17
      obtain ⟨qa, qb⟩ := q16
      obtain ⟨hA, hH, hC⟩ := jG.2.1 c2 q12.1 q12.2
      have hc0 := hH.2.1
      have hz := hA.1
      have a4 := hA.2.2.2.resolve_left (fun t => by omega)
      rw [qa, qb, kd] at a4
      obtain ⟨a5, a6, a7, a8, _, _⟩ := a4
      have e1 : MN x - 1 - WS (wk - 1) + 1 = MN x - WS (wk - 1) := by omega
      rw [e1] at a8
      have h3 := hH.2.2 (by omega)
      rw [qa] at h3
      have ca := cs_add (a := PS x (MN x - 1 - WS (wk - 1))) (b := Z c2) (d := WD (wk - 1)) a7 hz.1 (by omega)
      rw [show PS x (MN x - 1 - WS (wk - 1)) + Z c2 = PS x (MN x - WS (wk - 1)) by omega] at ca
      have cn := cs_nn (z := PS x (MN x - 1 - WS (wk - 1))) (d := WD (wk - 1)) a7
      have cn2 := cs_nn (z := Z c2) (d := WD (wk - 1)) hz.1
      have ew : wk + 1 - 1 = wk := by omega
      refine ih (x := c2) (dp := WD (wk - 1)) (to := gt) m2 (by rw [ew]; exact q2) (by rw [ew]; exact q3) (by rw [ew, q4]; exact q13) (by rw [ew, q5]; exact q13) (by rw [ew]; exact q6) ⟨q12, by omega, by omega, hg, hs2⟩ (by omega) (by omega) jr f1 f2 f3 (fun G3 T3 N3 W3 CA3 CM3 CL3 CH3 SN3 CC3 RO3 WP3 WD3 WT3 WG3 WS3 g3 rm3 m3 s3 r3 n3 v3 o3 b3_ f4 f5 f6 => ?_)
      rw [ew] at m3 s3
      obtain ⟨e2, e3, e4, e5, e6⟩ := s3 (wk - 1) (by omega)
      have r31 := r3.1
      have ej : WS3 (wk - 1) = WS (wk - 1) + 1 := by rw [e6]; exact q11
      have ep : MN x - WS3 (wk - 1) = MN x - 1 - WS (wk - 1) := by omega
      have hm3 := rwS_s jG jM hxx hm2 (by omega) q12 qa qb q17
      rw [kd, cm2_0] at hm3
      have b4_ := RRo_C (b3_.wd hlo) (hm1.rn r3 (Int.le_refl _) (Int.le_refl _) ⟨by omega, by omega⟩ (Int.le_refl _)) (by omega)
      refine ihr (lo := lo) (w_ := mnC (dm c2) w_) m3 (by rw [e2, q7]; exact hx) (by rw [e3, q8]) (by rw [e4, q9]; omega) (by omega) hw (by omega) (by rw [ep]; omega) v3 o3 (by rw [e4, q9]; exact b4_) (by omega) (by rw [ej]; exact hm3) f4 f5 f6 (fun G4 T4 N4 W4 CA4 CM4 CL4 CH4 SN4 CC4 RO4 WP4 WD4 WT4 WG4 WS4 g4 rm4 m4 s4 r4 n4 v4 o4 b5_ f7 f8 f9 => ?_)
      rw [ep] at n4
      rw [e4, q9] at b5_
      exact k G4 T4 N4 W4 CA4 CM4 CL4 CH4 SN4 CC4 RO4 WP4 WD4 WT4 WG4 WS4 g4 rm4 m4 (fsm_tr (fsm_tr q1 s3 (by omega)) s4 (by omega)) (ran_tr r3 r4) (by omega) v4 o4 b5_ f7 f8 f9
set_option maxRecDepth 100000 in
set_option maxHeartbeats 4000000 in
theorem mr_row (jG : rtG K O Fi Be Le Mo Z SM QF QL AF AL SD nd ns 0 pa po MN dl st ht hh PS T_) (hnd : nd ≤ 4200) (hd : 20 ≤ d) (jM : rtM K O Fi Be Le Mo LZ SV nd pa po dl dm pm) (jv : svR SA SM RL RH SV ns rg) {n : Int} (ih : ∀ {G : ab_G} {T N W CA CM CL CH SN CC RO WP WD WT WG WS : Int → Int} {wk gt rm x dp to : Int}, (mcc o G m_thrown m_taped m_length m_out m_wide m_gathered m_sets m_ranges m_nodes m_at m_flags m_fault m_place m_numbered m_depth m_value m_isNot m_least0 m_most0 m_slot wk gt rm m_charAt m_charWide m_trail m_isMatch m_matchGroups m_allFrom m_allBefore m_founds m_pieces m_writtenMany m_templateWide m_tooMuch T N W CA CM CL CH SN CC RO WP WD WT WG WS K O Fi Be Le Mo Z LZ SM SA RL RH ns) → (WP (wk - 1) = x) → (WD (wk - 1) = dp) → (WT (wk - 1) = to) → (WG (wk - 1) = to) → (WS (wk - 1) = 0) → ((0 ≤ x ∧ x < nd) ∧ (1 ≤ wk ∧ wk + hh x ≤ 299) ∧ (0 ≤ dp ∧ dp + ht x ≤ 31) ∧ (0 ≤ to ∧ to + 32 ≤ 32 * rm) ∧ 2 ≤ SN m_slot) → (st x < n) → (2 * SN m_slot + cs (Z x) dp ≤ 25000 ∧ rm + 2 * Z x ≤ 1250 ∧ CC m_slot + Z x ≤ 600 ∧ Z x ≤ 400) → (rokk RO to (dp + 1) (SN m_slot)) → (fx o o [280, 318, 319, 320, 321, 322, 323, 324, 317, 325, 333, 328, 329, 330, 331, 332] G0 G) → (G.length = G0.length) → (ab_slots G = ab_slots G0) → (∀ (G2 : ab_G) (Tq Nq Wq CAq CMq CLq CHq SNq CCq ROq WPq WDq WTq WGq WSq : Int → Int) (g2 rm2 : Int), mcc o G2 m_thrown m_taped m_length m_out m_wide m_gathered m_sets m_ranges m_nodes m_at m_flags m_fault m_place m_numbered m_depth m_value m_isNot m_least0 m_most0 m_slot (wk - 1) g2 rm2 m_charAt m_charWide m_trail m_isMatch m_matchGroups m_allFrom m_allBefore m_founds m_pieces m_writtenMany m_templateWide m_tooMuch Tq Nq Wq CAq CMq CLq CHq SNq CCq ROq WPq WDq WTq WGq WSq K O Fi Be Le Mo Z LZ SM SA RL RH ns → fsm WP WD WT WG WS WPq WDq WTq WGq WSq (wk - 1) → ran m_slot rm rm2 T N W CA CM CL CH SN CC RO Tq Nq Wq CAq CMq CLq CHq SNq CCq ROq → (2 * SNq m_slot ≤ 2 * SN m_slot + (cs (Z x) dp) ∧ rm2 ≤ rm + 2 * (Z x) ∧ CCq m_slot ≤ CC m_slot + (Z x)) → (0 ≤ g2 ∧ g2 + 32 ≤ 32 * rm2) → rokk ROq g2 (dp + 1) (SNq m_slot) → RRo Tq Nq Wq CAq CMq CLq CHq ROq m_slot (SN m_slot) (SNq m_slot) (CCq m_slot) dp to g2 (dm x) → fx o o [280, 318, 319, 320, 321, 322, 323, 324, 317, 325, 333, 328, 329, 330, 331, 332] G0 G2 → G2.length = G0.length → ab_slots G2 = ab_slots G0 → ab_W X (ab_pl y_MO_compile b_MO_compile 6 (some (.int))) d G2 280 [some (vR 80), some (vz sc), none, none, none, none] [] Q) → ab_W X (ab_pl y_MO_compile b_MO_compile 6 (some (.int))) d G 280 [some (vR 80), some (vz sc), none, none, none, none] [] Q) {G : ab_G} {T N W CA CM CL CH SN CC RO WP WD WT WG WS : Int → Int} {wk gt rm x dp to : Int} (hM : mcc o G m_thrown m_taped m_length m_out m_wide m_gathered m_sets m_ranges m_nodes m_at m_flags m_fault m_place m_numbered m_depth m_value m_isNot m_least0 m_most0 m_slot wk gt rm m_charAt m_charWide m_trail m_isMatch m_matchGroups m_allFrom m_allBefore m_founds m_pieces m_writtenMany m_templateWide m_tooMuch T N W CA CM CL CH SN CC RO WP WD WT WG WS K O Fi Be Le Mo Z LZ SM SA RL RH ns) (hx : WP (wk - 1) = x) (hdp : WD (wk - 1) = dp) (hto : WT (wk - 1) = to) (hwg : WG (wk - 1) = to) (hws : WS (wk - 1) = 0) (c1 : (0 ≤ x ∧ x < nd) ∧ (1 ≤ wk ∧ wk + hh x ≤ 299) ∧ (0 ≤ dp ∧ dp + ht x ≤ 31) ∧ (0 ≤ to ∧ to + 32 ≤ 32 * rm) ∧ 2 ≤ SN m_slot) (c2_ : st x < n + 1) (c3 : 2 * SN m_slot + cs (Z x) dp ≤ 25000 ∧ rm + 2 * Z x ≤ 1250 ∧ CC m_slot + Z x ≤ 600 ∧ Z x ≤ 400) (jr : rokk RO to (dp + 1) (SN m_slot)) (hfr : fx o o [280, 318, 319, 320, 321, 322, 323, 324, 317, 325, 333, 328, 329, 330, 331, 332] G0 G) (hlen : G.length = G0.length) (hsl : ab_slots G = ab_slots G0) (k : ∀ (G2 : ab_G) (Tq Nq Wq CAq CMq CLq CHq SNq CCq ROq WPq WDq WTq WGq WSq : Int → Int) (g2 rm2 : Int), mcc o G2 m_thrown m_taped m_length m_out m_wide m_gathered m_sets m_ranges m_nodes m_at m_flags m_fault m_place m_numbered m_depth m_value m_isNot m_least0 m_most0 m_slot (wk - 1) g2 rm2 m_charAt m_charWide m_trail m_isMatch m_matchGroups m_allFrom m_allBefore m_founds m_pieces m_writtenMany m_templateWide m_tooMuch Tq Nq Wq CAq CMq CLq CHq SNq CCq ROq WPq WDq WTq WGq WSq K O Fi Be Le Mo Z LZ SM SA RL RH ns → fsm WP WD WT WG WS WPq WDq WTq WGq WSq (wk - 1) → ran m_slot rm rm2 T N W CA CM CL CH SN CC RO Tq Nq Wq CAq CMq CLq CHq SNq CCq ROq → (2 * SNq m_slot ≤ 2 * SN m_slot + (cs (Z x) dp) ∧ rm2 ≤ rm + 2 * (Z x) ∧ CCq m_slot ≤ CC m_slot + (Z x)) → (0 ≤ g2 ∧ g2 + 32 ≤ 32 * rm2) → rokk ROq g2 (dp + 1) (SNq m_slot) → RRo Tq Nq Wq CAq CMq CLq CHq ROq m_slot (SN m_slot) (SNq m_slot) (CCq m_slot) dp to g2 (dm x) → fx o o [280, 318, 319, 320, 321, 322, 323, 324, 317, 325, 333, 328, 329, 330, 331, 332] G0 G2 → G2.length = G0.length → ab_slots G2 = ab_slots G0 → ab_W X (ab_pl y_MO_compile b_MO_compile 6 (some (.int))) d G2 280 [some (vR 80), some (vz sc), none, none, none, none] [] Q) (hk : K x = 4) (hz1 : 1 ≤ Z x) : ab_W X (ab_pl y_MO_compile b_MO_compile 6 (some (.int))) d G 280 [some (vR 80), some (vz sc), none, none, none, none] [] Q := by
  obtain ⟨hxx, hw, hd0, ht0, hs2⟩ := c1
  obtain ⟨b1, b2, b3, b4⟩ := c3
  obtain ⟨hAx, hHx, hCx⟩ := jG.2.1 x hxx.1 hxx.2
  have hh0 := hHx.2.1
  obtain ⟨k0, k1, k2, k3, k4, k5, k6, k7, k8⟩ := hCx
  obtain ⟨kf, kp, kd, kz⟩ := k5 hk
  have hh1 := hHx.2.1.2.2 (by omega)
  have hzc := hAx.1
  have kz2 : PS x (MN x) ≤ Z x := by omega
  subst hdp; subst hto
  refine t_Row_0 (m_work := wk) (m_got := gt) (m_rowMany := rm) (sc := sc) (nd := nd) hM (cx := by rw [hx]; refine ⟨?_, ?_, ?_, ?_, ?_, ?_, ?_, ?_⟩ <;> omega) (jG := jG) (ck := by rw [hx]; exact hk) (jf := by rw [hx]; exact kf) (cws := by omega) (cs0 := hws) (jwg := by rw [hwg]; exact jr) (cwg := by rw [hwg]; exact ht0) (czz := by rw [hx]; exact hz1) (cwk := by omega) (by omega) hfr hlen hsl (fun G2 g2 WP2 WD2 WT2 WG2 WS2 m2 q1 q2 q3 f1 f2 f3 => ?_) (fun G2 c2 t2 u2 WP2 WD2 WT2 WG2 WS2 m2 q1 q2 q3 q4 q5 q6 q7 q8 q9 q10 q11 q12 q13 q14 q15 q16 q17 f1 f2 f3 => ?_)
  · rw [hwg] at q2
    rw [hx, hws] at q3
    have mi : dm x = mnI := ((jM.2.2 x hxx.1 hxx.2).2.2.2.2.1 (Or.inl hk)).1 (by rcases kf with t | t; (exact t.1); (exfalso; have := t.2.2.2; omega))
    have := cs_nn (z := Z x) (d := WD (wk - 1)) hzc.1
    exact k G2 T N W CA CM CL CH SN CC RO WP2 WD2 WT2 WG2 WS2 g2 rm m2 q1 ran_rf (by omega) (by rw [q2]; exact ht0) (by rw [q2]; exact jr) (by rw [q2, mi]; exact RRo_z nzS_I) f1 f2 f3
  · rw [hx, hws] at q15 q16 q17
    rw [hwg] at q13
    obtain ⟨qa, qb⟩ := q16
    obtain ⟨hA, hH, hC⟩ := jG.2.1 c2 q12.1 q12.2
    have hc0 := hH.2.1
    have hz := hA.1
    have a4 := hA.2.2.2.resolve_left (fun t => by omega)
    rw [qa, qb, kd] at a4
    obtain ⟨a5, a6, a7, a8, _, _⟩ := a4
    have e1 : MN x - 1 - 0 + 1 = MN x := by omega
    have e0 : MN x - 1 - 0 = MN x - 1 := by omega
    rw [e1] at a8
    rw [e0] at a7 a8
    rw [e0] at qb q17
    have h3 := hH.2.2 (by omega)
    rw [qa] at h3
    have ca := cs_add (a := PS x (MN x - 1)) (b := Z c2) (d := WD (wk - 1)) a7 hz.1 (by omega)
    have cm := cs_mono (a := PS x (MN x - 1) + Z c2) (b := Z x) (d := WD (wk - 1)) (by omega) (by omega) (by omega)
    have cn := cs_nn (z := PS x (MN x - 1)) (d := WD (wk - 1)) a7
    have cn2 := cs_nn (z := Z c2) (d := WD (wk - 1)) hz.1
    have ew : wk + 1 - 1 = wk := by omega
    refine ih (x := c2) (dp := WD (wk - 1)) (to := WT (wk - 1)) m2 (by rw [ew]; exact q2) (by rw [ew]; exact q3) (by rw [ew, q4]; exact q13) (by rw [ew, q5]; exact q13) (by rw [ew]; exact q6) ⟨q12, by omega, by omega, ht0, hs2⟩ (by omega) (by omega) jr f1 f2 f3 (fun G3 T3 N3 W3 CA3 CM3 CL3 CH3 SN3 CC3 RO3 WP3 WD3 WT3 WG3 WS3 g3 rm3 m3 s3 r3 n3 v3 o3 b3_ f4 f5 f6 => ?_)
    rw [ew] at m3 s3
    obtain ⟨e2, e3, e4, e5, e6⟩ := s3 (wk - 1) (by omega)
    have r31 := r3.1
    have ej : WS3 (wk - 1) = 1 := by rw [e6, q11, hws]; rfl
    have ep : MN x - WS3 (wk - 1) = MN x - 1 := by omega
    refine mr_rows (lo := SN m_slot) (w_ := dm c2) jG hnd hd jM jv ih hxx c2_ hk hz1 hd0 (MN x).toNat m3 (by rw [e2, q7]; exact hx) (by rw [e3, q8]) (by rw [e4, q9]; omega) (by omega) hw (by omega) (by rw [ep]; omega) v3 o3 (by rw [e4, q9]; exact b3_) (by omega) (by rw [ej]; exact rwS_1 jG jM hxx (Or.inl hk) q12 qa qb q17) f4 f5 f6 (fun G4 T4 N4 W4 CA4 CM4 CL4 CH4 SN4 CC4 RO4 WP4 WD4 WT4 WG4 WS4 g4 rm4 m4 s4 r4 n4 v4 o4 b5_ f7 f8 f9 => ?_)
    rw [ep] at n4
    rw [e4, q9] at b5_
    exact k G4 T4 N4 W4 CA4 CM4 CL4 CH4 SN4 CC4 RO4 WP4 WD4 WT4 WG4 WS4 g4 rm4 m4 (fsm_tr (fsm_tr q1 s3 (by omega)) s4 (by omega)) (ran_tr r3 r4) (by omega) v4 o4 b5_ f7 f8 f9
set_option maxRecDepth 100000 in
set_option maxHeartbeats 4000000 in
theorem mr_group (jG : rtG K O Fi Be Le Mo Z SM QF QL AF AL SD nd ns 0 pa po MN dl st ht hh PS T_) (hnd : nd ≤ 4200) (hd : 20 ≤ d) (jM : rtM K O Fi Be Le Mo LZ SV nd pa po dl dm pm) (jv : svR SA SM RL RH SV ns rg) {n : Int} (ih : ∀ {G : ab_G} {T N W CA CM CL CH SN CC RO WP WD WT WG WS : Int → Int} {wk gt rm x dp to : Int}, (mcc o G m_thrown m_taped m_length m_out m_wide m_gathered m_sets m_ranges m_nodes m_at m_flags m_fault m_place m_numbered m_depth m_value m_isNot m_least0 m_most0 m_slot wk gt rm m_charAt m_charWide m_trail m_isMatch m_matchGroups m_allFrom m_allBefore m_founds m_pieces m_writtenMany m_templateWide m_tooMuch T N W CA CM CL CH SN CC RO WP WD WT WG WS K O Fi Be Le Mo Z LZ SM SA RL RH ns) → (WP (wk - 1) = x) → (WD (wk - 1) = dp) → (WT (wk - 1) = to) → (WG (wk - 1) = to) → (WS (wk - 1) = 0) → ((0 ≤ x ∧ x < nd) ∧ (1 ≤ wk ∧ wk + hh x ≤ 299) ∧ (0 ≤ dp ∧ dp + ht x ≤ 31) ∧ (0 ≤ to ∧ to + 32 ≤ 32 * rm) ∧ 2 ≤ SN m_slot) → (st x < n) → (2 * SN m_slot + cs (Z x) dp ≤ 25000 ∧ rm + 2 * Z x ≤ 1250 ∧ CC m_slot + Z x ≤ 600 ∧ Z x ≤ 400) → (rokk RO to (dp + 1) (SN m_slot)) → (fx o o [280, 318, 319, 320, 321, 322, 323, 324, 317, 325, 333, 328, 329, 330, 331, 332] G0 G) → (G.length = G0.length) → (ab_slots G = ab_slots G0) → (∀ (G2 : ab_G) (Tq Nq Wq CAq CMq CLq CHq SNq CCq ROq WPq WDq WTq WGq WSq : Int → Int) (g2 rm2 : Int), mcc o G2 m_thrown m_taped m_length m_out m_wide m_gathered m_sets m_ranges m_nodes m_at m_flags m_fault m_place m_numbered m_depth m_value m_isNot m_least0 m_most0 m_slot (wk - 1) g2 rm2 m_charAt m_charWide m_trail m_isMatch m_matchGroups m_allFrom m_allBefore m_founds m_pieces m_writtenMany m_templateWide m_tooMuch Tq Nq Wq CAq CMq CLq CHq SNq CCq ROq WPq WDq WTq WGq WSq K O Fi Be Le Mo Z LZ SM SA RL RH ns → fsm WP WD WT WG WS WPq WDq WTq WGq WSq (wk - 1) → ran m_slot rm rm2 T N W CA CM CL CH SN CC RO Tq Nq Wq CAq CMq CLq CHq SNq CCq ROq → (2 * SNq m_slot ≤ 2 * SN m_slot + (cs (Z x) dp) ∧ rm2 ≤ rm + 2 * (Z x) ∧ CCq m_slot ≤ CC m_slot + (Z x)) → (0 ≤ g2 ∧ g2 + 32 ≤ 32 * rm2) → rokk ROq g2 (dp + 1) (SNq m_slot) → RRo Tq Nq Wq CAq CMq CLq CHq ROq m_slot (SN m_slot) (SNq m_slot) (CCq m_slot) dp to g2 (dm x) → fx o o [280, 318, 319, 320, 321, 322, 323, 324, 317, 325, 333, 328, 329, 330, 331, 332] G0 G2 → G2.length = G0.length → ab_slots G2 = ab_slots G0 → ab_W X (ab_pl y_MO_compile b_MO_compile 6 (some (.int))) d G2 280 [some (vR 80), some (vz sc), none, none, none, none] [] Q) → ab_W X (ab_pl y_MO_compile b_MO_compile 6 (some (.int))) d G 280 [some (vR 80), some (vz sc), none, none, none, none] [] Q) {G : ab_G} {T N W CA CM CL CH SN CC RO WP WD WT WG WS : Int → Int} {wk gt rm x dp to : Int} (hM : mcc o G m_thrown m_taped m_length m_out m_wide m_gathered m_sets m_ranges m_nodes m_at m_flags m_fault m_place m_numbered m_depth m_value m_isNot m_least0 m_most0 m_slot wk gt rm m_charAt m_charWide m_trail m_isMatch m_matchGroups m_allFrom m_allBefore m_founds m_pieces m_writtenMany m_templateWide m_tooMuch T N W CA CM CL CH SN CC RO WP WD WT WG WS K O Fi Be Le Mo Z LZ SM SA RL RH ns) (hx : WP (wk - 1) = x) (hdp : WD (wk - 1) = dp) (hto : WT (wk - 1) = to) (hwg : WG (wk - 1) = to) (hws : WS (wk - 1) = 0) (c1 : (0 ≤ x ∧ x < nd) ∧ (1 ≤ wk ∧ wk + hh x ≤ 299) ∧ (0 ≤ dp ∧ dp + ht x ≤ 31) ∧ (0 ≤ to ∧ to + 32 ≤ 32 * rm) ∧ 2 ≤ SN m_slot) (c2_ : st x < n + 1) (c3 : 2 * SN m_slot + cs (Z x) dp ≤ 25000 ∧ rm + 2 * Z x ≤ 1250 ∧ CC m_slot + Z x ≤ 600 ∧ Z x ≤ 400) (jr : rokk RO to (dp + 1) (SN m_slot)) (hfr : fx o o [280, 318, 319, 320, 321, 322, 323, 324, 317, 325, 333, 328, 329, 330, 331, 332] G0 G) (hlen : G.length = G0.length) (hsl : ab_slots G = ab_slots G0) (k : ∀ (G2 : ab_G) (Tq Nq Wq CAq CMq CLq CHq SNq CCq ROq WPq WDq WTq WGq WSq : Int → Int) (g2 rm2 : Int), mcc o G2 m_thrown m_taped m_length m_out m_wide m_gathered m_sets m_ranges m_nodes m_at m_flags m_fault m_place m_numbered m_depth m_value m_isNot m_least0 m_most0 m_slot (wk - 1) g2 rm2 m_charAt m_charWide m_trail m_isMatch m_matchGroups m_allFrom m_allBefore m_founds m_pieces m_writtenMany m_templateWide m_tooMuch Tq Nq Wq CAq CMq CLq CHq SNq CCq ROq WPq WDq WTq WGq WSq K O Fi Be Le Mo Z LZ SM SA RL RH ns → fsm WP WD WT WG WS WPq WDq WTq WGq WSq (wk - 1) → ran m_slot rm rm2 T N W CA CM CL CH SN CC RO Tq Nq Wq CAq CMq CLq CHq SNq CCq ROq → (2 * SNq m_slot ≤ 2 * SN m_slot + (cs (Z x) dp) ∧ rm2 ≤ rm + 2 * (Z x) ∧ CCq m_slot ≤ CC m_slot + (Z x)) → (0 ≤ g2 ∧ g2 + 32 ≤ 32 * rm2) → rokk ROq g2 (dp + 1) (SNq m_slot) → RRo Tq Nq Wq CAq CMq CLq CHq ROq m_slot (SN m_slot) (SNq m_slot) (CCq m_slot) dp to g2 (dm x) → fx o o [280, 318, 319, 320, 321, 322, 323, 324, 317, 325, 333, 328, 329, 330, 331, 332] G0 G2 → G2.length = G0.length → ab_slots G2 = ab_slots G0 → ab_W X (ab_pl y_MO_compile b_MO_compile 6 (some (.int))) d G2 280 [some (vR 80), some (vz sc), none, none, none, none] [] Q) (hk : K x = 6) (hz1 : 1 ≤ Z x) : ab_W X (ab_pl y_MO_compile b_MO_compile 6 (some (.int))) d G 280 [some (vR 80), some (vz sc), none, none, none, none] [] Q := by
  obtain ⟨hxx, hw, hd0, ht0, hs2⟩ := c1
  obtain ⟨b1, b2, b3, b4⟩ := c3
  obtain ⟨hAx, hHx, hCx⟩ := jG.2.1 x hxx.1 hxx.2
  have hh0 := hHx.2.1
  obtain ⟨k0, k1, k2, k3, k4, k5, k6, k7, k8⟩ := hCx
  obtain ⟨⟨kf0, kf1, kf2⟩, ko, kz⟩ := k7 hk
  have hh1 := hHx.2.1.2.2 (by omega)
  have hzc := hAx.1
  obtain ⟨hA, hH, hC⟩ := jG.2.1 (Fi x) kf0 kf1
  have hc0 := hH.2.1
  have hz := hA.1
  have h3 := hH.2.2 (by omega)
  rw [kf2] at h3
  subst hdp; subst hto
  have ew : wk + 1 - 1 = wk := by omega
  have cn2 := cs_nn (z := Z (Fi x)) (d := WD (wk - 1)) hz.1
  have cxx : 0 ≤ WP (wk - 1) ∧ WP (wk - 1) < nd ∧ 0 ≤ nd ∧ nd ≤ 4200 ∧ 0 ≤ WD (wk - 1) ∧ WD (wk - 1) ≤ 31 ∧ 0 ≤ WT (wk - 1) ∧ WT (wk - 1) + 32 ≤ 32 * rm := by rw [hx]; refine ⟨?_, ?_, ?_, ?_, ?_, ?_, ?_, ?_⟩ <;> omega
  by_cases hn : 0 < O x
  · rw [if_pos hn] at kz
    have cl := cs_one (d := WD (wk - 1)) (by omega)
    have ca := cs_add (a := Z (Fi x)) (b := 1) (d := WD (wk - 1)) hz.1 (by omega) (by omega)
    have cb := cs_add (a := Z (Fi x) + 1) (b := 1) (d := WD (wk - 1)) (by omega) (by omega) (by omega)
    have cm := cs_mono (a := Z (Fi x) + 1 + 1) (b := Z x) (d := WD (wk - 1)) (by omega) (by omega) (by omega)
    refine t_Group_0p (m_work := wk) (m_got := gt) (m_rowMany := rm) (sc := sc) (nd := nd) hM (cx := cxx) (ck := by rw [hx]; exact hk) (cfi := by rw [hx]; exact ⟨kf0, kf1⟩) (cof := by rw [hx]; exact ko) (cs0 := hws) (cnum := by rw [hx]; exact hn) (jto := jr) (crs := by omega) (czz := by rw [hx]; exact hz1) (cwk := by omega) (by omega) hfr hlen hsl (fun G2 c2 t2 u2 WP2 WD2 WT2 WG2 WS2 RO2 T2 N2 W2 SN2 m2 q1 q2 q3 q4 q5 q6 q7 q8 q9 q10 q11 q12 q13 q14 q15 q16 q17 q18 q19 q20 q21 f1 f2 f3 => ?_)
    rw [hx] at q12
    subst q12
    have rn := ran_new (rm := rm) (CC := CC) (CL := CL) (CH := CH) q14.1 q15 q16 q17 q18
    have r2 := rn.1
    refine ih (x := Fi x) (dp := WD (wk - 1)) (to := 32 * rm) m2 (by rw [ew]; exact q2) (by rw [ew]; exact q3) (by rw [ew, q4]; exact q13) (by rw [ew, q5]; exact q13) (by rw [ew]; exact q6) ⟨⟨kf0, kf1⟩, by omega, by omega, by omega, by omega⟩ (by omega) (by omega) q20 f1 f2 f3 (fun G3 T3 N3 W3 CA3 CM3 CL3 CH3 SN3 CC3 RO3 WP3 WD3 WT3 WG3 WS3 g3 rm3 m3 s3 r3 n3 v3 o3 b3_ f4 f5 f6 => ?_)
    rw [ew] at m3 s3
    obtain ⟨e2, e3, e4, e5, e6⟩ := s3 (wk - 1) (by omega)
    have r31 := r3.1
    have p1 : WP3 (wk - 1) = x := by rw [e2, q7]; exact hx
    have p2 : WD3 (wk - 1) = WD (wk - 1) := by rw [e3, q8]
    have p3 : WT3 (wk - 1) = WT (wk - 1) := by rw [e4, q9]
    refine t_Group_1p (m_work := wk) (m_got := g3) (m_rowMany := rm3) (sc := sc) (nd := nd) m3 (cx := by rw [p1, p2, p3]; refine ⟨?_, ?_, ?_, ?_, ?_, ?_, ?_, ?_⟩ <;> omega) (ck := by rw [p1]; exact hk) (cfi := by rw [p1]; exact ⟨kf0, kf1⟩) (cof := by rw [p1]; exact ko) (cs0 := by rw [e6]; exact q11) (cnum := by rw [p1]; exact hn) (jgo := by rw [p2]; exact o3) (cgo := v3) (crs := by rw [p2]; omega) (czz := by rw [p1]; exact hz1) (cwk := by omega) (by omega) f4 f5 f6 (fun G4 g4 WP4 WD4 WT4 WG4 WS4 RO4 T4 N4 W4 SN4 m4 y1 y2 y3 y4 y5 y6 y7 y8 y9 y10 f7 f8 f9 => ?_)
    rw [p2] at y3 y9 y10
    rw [p1] at y10
    rw [hx] at q21
    have rn4 := ran_new (rm := rm3) (CC := CC3) (CL := CL3) (CH := CH3) y3.1 y4 y5 y6 y7
    have rn5 := ran_tr r3 rn4
    have b4_ : RRo T4 N4 W4 CA3 CM3 CL3 CH3 RO4 m_slot (SN m_slot) (SN4 m_slot) (CC3 m_slot) (WD (wk - 1)) (WT (wk - 1)) (32 * rm3) (dm x) := by
      rw [(jM.2.2 x hxx.1 hxx.2).2.2.2.2.2.1 hk]
      exact RRo_G (by omega) ((q21.rs q15 (by omega)).rn rn5 (Int.le_refl _) (by omega) (by omega) (Int.le_refl _)) (b3_.rn rn4 (Int.le_refl _) (Int.le_refl _) ⟨by omega, by omega⟩ (by omega)) ((y10.rs y4 (by omega)).wd (by omega) (Int.le_refl _)) (by omega)
    subst y2
    exact k G4 T4 N4 W4 CA3 CM3 CL3 CH3 SN4 CC3 RO4 WP4 WD4 WT4 WG4 WS4 _ (rm3 + 1) m4 (fsm_tr (fsm_tr q1 s3 (by omega)) y1 (by omega)) (ran_tr (ran_tr rn r3) rn4) (by omega) (by omega) y9 b4_ f7 f8 f9
  · rw [if_neg hn] at kz
    have on : O x = 0 := by omega
    have cm := cs_mono (a := Z (Fi x)) (b := Z x) (d := WD (wk - 1)) hz.1 (by omega) (by omega)
    refine t_Group_0z (m_work := wk) (m_got := gt) (m_rowMany := rm) (sc := sc) (nd := nd) hM (cx := cxx) (ck := by rw [hx]; exact hk) (cfi := by rw [hx]; exact ⟨kf0, kf1⟩) (cof := by rw [hx]; exact ko) (cs0 := hws) (cnum := by rw [hx]; exact on) (czz := by rw [hx]; exact hz1) (cwk := by omega) (by omega) hfr hlen hsl (fun G2 c2 t2 u2 WP2 WD2 WT2 WG2 WS2 m2 q1 q2 q3 q4 q5 q6 q7 q8 q9 q10 q11 q12 q13 f1 f2 f3 => ?_)
    rw [hx] at q12
    subst q12
    refine ih (x := Fi x) (dp := WD (wk - 1)) (to := WT (wk - 1)) m2 (by rw [ew]; exact q2) (by rw [ew]; exact q3) (by rw [ew, q4]; exact q13) (by rw [ew, q5]; exact q13) (by rw [ew]; exact q6) ⟨⟨kf0, kf1⟩, by omega, by omega, ht0, hs2⟩ (by omega) (by omega) jr f1 f2 f3 (fun G3 T3 N3 W3 CA3 CM3 CL3 CH3 SN3 CC3 RO3 WP3 WD3 WT3 WG3 WS3 g3 rm3 m3 s3 r3 n3 v3 o3 b3_ f4 f5 f6 => ?_)
    rw [ew] at m3 s3
    obtain ⟨e2, e3, e4, e5, e6⟩ := s3 (wk - 1) (by omega)
    have r31 := r3.1
    have p1 : WP3 (wk - 1) = x := by rw [e2, q7]; exact hx
    have p2 : WD3 (wk - 1) = WD (wk - 1) := by rw [e3, q8]
    have p3 : WT3 (wk - 1) = WT (wk - 1) := by rw [e4, q9]
    refine t_Group_1z (m_work := wk) (m_got := g3) (m_rowMany := rm3) (sc := sc) (nd := nd) m3 (cx := by rw [p1, p2, p3]; refine ⟨?_, ?_, ?_, ?_, ?_, ?_, ?_, ?_⟩ <;> omega) (ck := by rw [p1]; exact hk) (cfi := by rw [p1]; exact ⟨kf0, kf1⟩) (cof := by rw [p1]; exact ko) (cs0 := by rw [e6]; exact q11) (cnum := by rw [p1]; exact on) (czz := by rw [p1]; exact hz1) (cwk := by omega) (by omega) f4 f5 f6 (fun G4 g4 WP4 WD4 WT4 WG4 WS4 m4 y1 y2 f7 f8 f9 => ?_)
    subst y2
    exact k G4 T3 N3 W3 CA3 CM3 CL3 CH3 SN3 CC3 RO3 WP4 WD4 WT4 WG4 WS4 _ rm3 m4 (fsm_tr (fsm_tr q1 s3 (by omega)) y1 (by omega)) r3 (by omega) v3 o3 (by rw [(jM.2.2 x hxx.1 hxx.2).2.2.2.2.2.1 hk, on]; exact RRo_G0 b3_) f7 f8 f9
set_option maxRecDepth 100000 in
set_option maxHeartbeats 4000000 in
theorem mr_eithers (jG : rtG K O Fi Be Le Mo Z SM QF QL AF AL SD nd ns 0 pa po MN dl st ht hh PS T_) (hnd : nd ≤ 4200) (hd : 20 ≤ d) (jM : rtM K O Fi Be Le Mo LZ SV nd pa po dl dm pm) (jv : svR SA SM RL RH SV ns rg) {n : Int} (ih : ∀ {G : ab_G} {T N W CA CM CL CH SN CC RO WP WD WT WG WS : Int → Int} {wk gt rm x dp to : Int}, (mcc o G m_thrown m_taped m_length m_out m_wide m_gathered m_sets m_ranges m_nodes m_at m_flags m_fault m_place m_numbered m_depth m_value m_isNot m_least0 m_most0 m_slot wk gt rm m_charAt m_charWide m_trail m_isMatch m_matchGroups m_allFrom m_allBefore m_founds m_pieces m_writtenMany m_templateWide m_tooMuch T N W CA CM CL CH SN CC RO WP WD WT WG WS K O Fi Be Le Mo Z LZ SM SA RL RH ns) → (WP (wk - 1) = x) → (WD (wk - 1) = dp) → (WT (wk - 1) = to) → (WG (wk - 1) = to) → (WS (wk - 1) = 0) → ((0 ≤ x ∧ x < nd) ∧ (1 ≤ wk ∧ wk + hh x ≤ 299) ∧ (0 ≤ dp ∧ dp + ht x ≤ 31) ∧ (0 ≤ to ∧ to + 32 ≤ 32 * rm) ∧ 2 ≤ SN m_slot) → (st x < n) → (2 * SN m_slot + cs (Z x) dp ≤ 25000 ∧ rm + 2 * Z x ≤ 1250 ∧ CC m_slot + Z x ≤ 600 ∧ Z x ≤ 400) → (rokk RO to (dp + 1) (SN m_slot)) → (fx o o [280, 318, 319, 320, 321, 322, 323, 324, 317, 325, 333, 328, 329, 330, 331, 332] G0 G) → (G.length = G0.length) → (ab_slots G = ab_slots G0) → (∀ (G2 : ab_G) (Tq Nq Wq CAq CMq CLq CHq SNq CCq ROq WPq WDq WTq WGq WSq : Int → Int) (g2 rm2 : Int), mcc o G2 m_thrown m_taped m_length m_out m_wide m_gathered m_sets m_ranges m_nodes m_at m_flags m_fault m_place m_numbered m_depth m_value m_isNot m_least0 m_most0 m_slot (wk - 1) g2 rm2 m_charAt m_charWide m_trail m_isMatch m_matchGroups m_allFrom m_allBefore m_founds m_pieces m_writtenMany m_templateWide m_tooMuch Tq Nq Wq CAq CMq CLq CHq SNq CCq ROq WPq WDq WTq WGq WSq K O Fi Be Le Mo Z LZ SM SA RL RH ns → fsm WP WD WT WG WS WPq WDq WTq WGq WSq (wk - 1) → ran m_slot rm rm2 T N W CA CM CL CH SN CC RO Tq Nq Wq CAq CMq CLq CHq SNq CCq ROq → (2 * SNq m_slot ≤ 2 * SN m_slot + (cs (Z x) dp) ∧ rm2 ≤ rm + 2 * (Z x) ∧ CCq m_slot ≤ CC m_slot + (Z x)) → (0 ≤ g2 ∧ g2 + 32 ≤ 32 * rm2) → rokk ROq g2 (dp + 1) (SNq m_slot) → RRo Tq Nq Wq CAq CMq CLq CHq ROq m_slot (SN m_slot) (SNq m_slot) (CCq m_slot) dp to g2 (dm x) → fx o o [280, 318, 319, 320, 321, 322, 323, 324, 317, 325, 333, 328, 329, 330, 331, 332] G0 G2 → G2.length = G0.length → ab_slots G2 = ab_slots G0 → ab_W X (ab_pl y_MO_compile b_MO_compile 6 (some (.int))) d G2 280 [some (vR 80), some (vz sc), none, none, none, none] [] Q) → ab_W X (ab_pl y_MO_compile b_MO_compile 6 (some (.int))) d G 280 [some (vR 80), some (vz sc), none, none, none, none] [] Q) {x dp : Int} (hxx : 0 ≤ x ∧ x < nd) (hst : st x < n + 1) (hk : K x = 5) (hz1 : 1 ≤ Z x) (hd0 : 0 ≤ dp ∧ dp + ht x ≤ 31) : ∀ (r : Nat) {G : ab_G} {T N W CA CM CL CH SN CC RO WP WD WT WG WS : Int → Int} {wk gt rm lo : Int} {u_ w_ : Sn}, (mcc o G m_thrown m_taped m_length m_out m_wide m_gathered m_sets m_ranges m_nodes m_at m_flags m_fault m_place m_numbered m_depth m_value m_isNot m_least0 m_most0 m_slot wk gt rm m_charAt m_charWide m_trail m_isMatch m_matchGroups m_allFrom m_allBefore m_founds m_pieces m_writtenMany m_templateWide m_tooMuch T N W CA CM CL CH SN CC RO WP WD WT WG WS K O Fi Be Le Mo Z LZ SM SA RL RH ns) → (WP (wk - 1) = x) → (WD (wk - 1) = dp) → (0 ≤ WT (wk - 1) ∧ WT (wk - 1) + 32 ≤ 32 * rm) → (rokk RO (WT (wk - 1)) (dp + 1) (SN m_slot)) → (2 ≤ WS (wk - 1) ∧ WS (wk - 1) ≤ MN x ∧ MN x ≤ 4200 ∧ MN x - WS (wk - 1) ≤ (r : Int)) → (1 ≤ wk ∧ wk + hh x ≤ 299) → (2 ≤ SN m_slot) → (2 * SN m_slot + cs (PS x (MN x - WS (wk - 1)) + 1) dp ≤ 25000 ∧ rm + 2 * (PS x (MN x - WS (wk - 1)) + 1) ≤ 1250 ∧ CC m_slot + (PS x (MN x - WS (wk - 1)) + 1) ≤ 600 ∧ (PS x (MN x - WS (wk - 1)) + 1) ≤ 401 ∧ 1 ≤ (PS x (MN x - WS (wk - 1)) + 1)) → (0 ≤ gt ∧ gt + 32 ≤ 32 * rm) → (rokk RO gt (dp + 1) (SN m_slot)) → (0 ≤ WG (wk - 1) ∧ WG (wk - 1) + 32 ≤ 32 * rm) → (rokk RO (WG (wk - 1)) (dp + 1) (SN m_slot)) → (RRo T N W CA CM CL CH RO m_slot lo (SN m_slot) (CC m_slot) dp (WT (wk - 1)) (WG (wk - 1)) w_) → (RRo T N W CA CM CL CH RO m_slot lo (SN m_slot) (CC m_slot) dp (WT (wk - 1)) gt u_) → (lo ≤ SN m_slot) → (rwS Fi Be pa po dl pm nd x (MN x) (WS (wk - 1)) (dm x) (cm2 (dl x) u_ w_)) → (fx o o [280, 318, 319, 320, 321, 322, 323, 324, 317, 325, 333, 328, 329, 330, 331, 332] G0 G) → (G.length = G0.length) → (ab_slots G = ab_slots G0) → (∀ (G2 : ab_G) (Tq Nq Wq CAq CMq CLq CHq SNq CCq ROq WPq WDq WTq WGq WSq : Int → Int) (g2 rm2 : Int), mcc o G2 m_thrown m_taped m_length m_out m_wide m_gathered m_sets m_ranges m_nodes m_at m_flags m_fault m_place m_numbered m_depth m_value m_isNot m_least0 m_most0 m_slot (wk - 1) g2 rm2 m_charAt m_charWide m_trail m_isMatch m_matchGroups m_allFrom m_allBefore m_founds m_pieces m_writtenMany m_templateWide m_tooMuch Tq Nq Wq CAq CMq CLq CHq SNq CCq ROq WPq WDq WTq WGq WSq K O Fi Be Le Mo Z LZ SM SA RL RH ns → fsm WP WD WT WG WS WPq WDq WTq WGq WSq (wk - 1) → ran m_slot rm rm2 T N W CA CM CL CH SN CC RO Tq Nq Wq CAq CMq CLq CHq SNq CCq ROq → (2 * SNq m_slot ≤ 2 * SN m_slot + (cs (PS x (MN x - WS (wk - 1)) + 1) dp) ∧ rm2 ≤ rm + 2 * ((PS x (MN x - WS (wk - 1)) + 1)) ∧ CCq m_slot ≤ CC m_slot + ((PS x (MN x - WS (wk - 1)) + 1))) → (0 ≤ g2 ∧ g2 + 32 ≤ 32 * rm2) → rokk ROq g2 (dp + 1) (SNq m_slot) → RRo Tq Nq Wq CAq CMq CLq CHq ROq m_slot lo (SNq m_slot) (CCq m_slot) dp (WT (wk - 1)) g2 (dm x) → fx o o [280, 318, 319, 320, 321, 322, 323, 324, 317, 325, 333, 328, 329, 330, 331, 332] G0 G2 → G2.length = G0.length → ab_slots G2 = ab_slots G0 → ab_W X (ab_pl y_MO_compile b_MO_compile 6 (some (.int))) d G2 280 [some (vR 80), some (vz sc), none, none, none, none] [] Q) → ab_W X (ab_pl y_MO_compile b_MO_compile 6 (some (.int))) d G 280 [some (vR 80), some (vz sc), none, none, none, none] [] Q := by
  obtain ⟨hAx, hHx, hCx⟩ := jG.2.1 x hxx.1 hxx.2
  have hh0 := hHx.2.1
  obtain ⟨k0, k1, k2, k3, k4, k5, k6, k7, k8⟩ := hCx
  obtain ⟨kf, kp, kd, _⟩ := k6 hk
  have hh1 := hHx.2.1.2.2 (by omega)
  have hzc := hAx.1
  have cl := cs_one (d := dp) (by omega)
  intro r
  induction r with
  | zero =>
    intro G T N W CA CM CL CH SN CC RO WP WD WT WG WS wk gt rm lo u_ w_ hM hx hdp ht0 jt hj hw hs2 hb hg jr hwg jw hm0 hm1 hlo hm2 hfr hlen hsl k
    subst hdp
    have hps : 0 ≤ PS x (MN x - WS (wk - 1)) → rm ≤ 1249 ∧ 2 * SN m_slot + 2 * (WD (wk - 1) + 1) ≤ 25000 := fun h => by
      have := cs_mono (a := 1) (b := PS x (MN x - WS (wk - 1)) + 1) (d := WD (wk - 1)) (by omega) (by omega) (by omega)
      omega
    have hp1 := hps (by omega)
    refine t_Either_n (m_work := wk) (m_got := gt) (m_rowMany := rm) (sc := sc) (nd := nd) hM (cx := by rw [hx]; refine ⟨?_, ?_, ?_, ?_, ?_, ?_, ?_, ?_⟩ <;> omega) (jG := jG) (ck := by rw [hx]; exact hk) (jf := by rw [hx]; exact kf) (cws := by omega) (cs0 := by omega) (jgo := jr) (cgo := hg) (jwg := jw) (cwg := hwg) (crs := by omega) (czz := by rw [hx]; exact hz1) (cwk := by omega) (by omega) hfr hlen hsl (fun G2 g2 WP2 WD2 WT2 WG2 WS2 RO2 T2 N2 W2 SN2 m2 q1 q2 q3 q4 q5 q6 q7 q8 q9 q10 q11 f1 f2 f3 => ?_) (fun G2 c2 t2 u2 WP2 WD2 WT2 WG2 WS2 RO2 T2 N2 W2 SN2 m2 q1 q2 q3 q4 q5 q6 q7 q8 q9 q10 q11 q12 q13 q14 q15 q16 q17 q18 q19 q20 q21 q22 q23 q24 q25 f1 f2 f3 => ?_)
    · rw [hx] at q3
      subst q2
      have e0 : MN x - WS (wk - 1) = 0 := by omega
      have rn := ran_new (rm := rm) (CC := CC) (CL := CL) (CH := CH) q4.1 q5 q6 q7 q8
      have hO := RRo_O ((q11.rs2 q5 (by omega) (by omega)).wd hlo (Int.le_refl _)) (hm1.rn rn (Int.le_refl _) (Int.le_refl _) ⟨by omega, by omega⟩ (Int.le_refl _)) (hm0.rn rn (Int.le_refl _) (Int.le_refl _) ⟨by omega, by omega⟩ (Int.le_refl _))
      have hdx := hm2.1 (by omega)
      rw [kd, cm2_1] at hdx
      exact k G2 T2 N2 W2 CA CM CL CH SN2 CC RO2 WP2 WD2 WT2 WG2 WS2 _ (rm + 1) m2 q1 (ran_new q4.1 q5 q6 q7 q8) (by rw [e0, kp, Int.zero_add]; omega) (by omega) q10 (hO.e hdx.symm) f1 f2 f3
    · rw [hx] at q15 q16 q25
      exfalso; omega
  | succ r ihr =>
    intro G T N W CA CM CL CH SN CC RO WP WD WT WG WS wk gt rm lo u_ w_ hM hx hdp ht0 jt hj hw hs2 hb hg jr hwg jw hm0 hm1 hlo hm2 hfr hlen hsl k
    subst hdp
    have hps : 0 ≤ PS x (MN x - WS (wk - 1)) → rm ≤ 1249 ∧ 2 * SN m_slot + 2 * (WD (wk - 1) + 1) ≤ 25000 := fun h => by
      have := cs_mono (a := 1) (b := PS x (MN x - WS (wk - 1)) + 1) (d := WD (wk - 1)) (by omega) (by omega) (by omega)
      omega
    have hp1 := hps (by omega)
    refine t_Either_n (m_work := wk) (m_got := gt) (m_rowMany := rm) (sc := sc) (nd := nd) hM (cx := by rw [hx]; refine ⟨?_, ?_, ?_, ?_, ?_, ?_, ?_, ?_⟩ <;> omega) (jG := jG) (ck := by rw [hx]; exact hk) (jf := by rw [hx]; exact kf) (cws := by omega) (cs0 := by omega) (jgo := jr) (cgo := hg) (jwg := jw) (cwg := hwg) (crs := by omega) (czz := by rw [hx]; exact hz1) (cwk := by omega) (by omega) hfr hlen hsl (fun G2 g2 WP2 WD2 WT2 WG2 WS2 RO2 T2 N2 W2 SN2 m2 q1 q2 q3 q4 q5 q6 q7 q8 q9 q10 q11 f1 f2 f3 => ?_) (fun G2 c2 t2 u2 WP2 WD2 WT2 WG2 WS2 RO2 T2 N2 W2 SN2 m2 q1 q2 q3 q4 q5 q6 q7 q8 q9 q10 q11 q12 q13 q14 q15 q16 q17 q18 q19 q20 q21 q22 q23 q24 q25 f1 f2 f3 => ?_)
    · rw [hx] at q3
      subst q2
      have e0 : MN x - WS (wk - 1) = 0 := by omega
      have rn := ran_new (rm := rm) (CC := CC) (CL := CL) (CH := CH) q4.1 q5 q6 q7 q8
      have hO := RRo_O ((q11.rs2 q5 (by omega) (by omega)).wd hlo (Int.le_refl _)) (hm1.rn rn (Int.le_refl _) (Int.le_refl _) ⟨by omega, by omega⟩ (Int.le_refl _)) (hm0.rn rn (Int.le_refl _) (Int.le_refl _) ⟨by omega, by omega⟩ (Int.le_refl _))
      have hdx := hm2.1 (by omega)
      rw [kd, cm2_1] at hdx
      exact k G2 T2 N2 W2 CA CM CL CH SN2 CC RO2 WP2 WD2 WT2 WG2 WS2 _ (rm + 1) m2 q1 (ran_new q4.1 q5 q6 q7 q8) (by rw [e0, kp, Int.zero_add]; omega) (by omega) q10 (hO.e hdx.symm) f1 f2 f3
    · rw [hx] at q15 q16 q25
      obtain ⟨qa, qb⟩ := q16
      obtain ⟨hA, hH, hC⟩ := jG.2.1 c2 q12.1 q12.2
      have hc0 := hH.2.1
      have hz := hA.1
      have a4 := hA.2.2.2.resolve_left (fun t => by omega)
      rw [qa, qb, kd] at a4
      obtain ⟨a5, a6, a7, a8, _, _⟩ := a4
      have e1 : MN x - 1 - WS (wk - 1) + 1 = MN x - WS (wk - 1) := by omega
      rw [e1] at a8
      have h3 := hH.2.2 (by omega)
      rw [qa] at h3
      have ca := cs_add (a := PS x (MN x - 1 - WS (wk - 1)) + 1) (b := Z c2) (d := WD (wk - 1)) (by omega) hz.1 (by omega)
      have cb := cs_add (a := PS x (MN x - 1 - WS (wk - 1)) + 1 + Z c2) (b := 1) (d := WD (wk - 1)) (by omega) (by omega) (by omega)
      rw [show PS x (MN x - 1 - WS (wk - 1)) + 1 + Z c2 + 1 = PS x (MN x - WS (wk - 1)) + 1 by omega] at cb
      have cn := cs_nn (z := PS x (MN x - 1 - WS (wk - 1)) + 1) (d := WD (wk - 1)) (by omega)
      have cn2 := cs_nn (z := Z c2) (d := WD (wk - 1)) hz.1
      have ew : wk + 1 - 1 = wk := by omega
      have rn := ran_new (rm := rm) (CC := CC) (CL := CL) (CH := CH) q17.1 q18 q19 q20 q21
      have hO := RRo_O ((q24.rs2 q18 (by omega) (by omega)).wd hlo (Int.le_refl _)) (hm1.rn rn (Int.le_refl _) (Int.le_refl _) ⟨by omega, by omega⟩ (Int.le_refl _)) (hm0.rn rn (Int.le_refl _) (Int.le_refl _) ⟨by omega, by omega⟩ (Int.le_refl _))
      refine ih (x := c2) (dp := WD (wk - 1)) (to := WT (wk - 1)) m2 (by rw [ew]; exact q2) (by rw [ew]; exact q3) (by rw [ew, q4]; exact q13) (by rw [ew, q5]; exact q13) (by rw [ew]; exact q6) ⟨q12, by omega, by omega, by omega, by omega⟩ (by omega) (by omega) (rokk_w (rokk_o jt q18 (by omega)) (Int.le_refl _) q17.1) f1 f2 f3 (fun G3 T3 N3 W3 CA3 CM3 CL3 CH3 SN3 CC3 RO3 WP3 WD3 WT3 WG3 WS3 g3 rm3 m3 s3 r3 n3 v3 o3 b3_ f4 f5 f6 => ?_)
      rw [ew] at m3 s3
      obtain ⟨e2, e3, e4, e5, e6⟩ := s3 (wk - 1) (by omega)
      have r31 := r3.1
      have ej : WS3 (wk - 1) = WS (wk - 1) + 1 := by rw [e6]; exact q11
      have ep : MN x - WS3 (wk - 1) = MN x - 1 - WS (wk - 1) := by omega
      have eg : WG3 (wk - 1) = 32 * rm := by rw [e5, q10]; exact q14
      have et : WT3 (wk - 1) = WT (wk - 1) := by rw [e4]; exact q9
      have j3 : rokk RO3 (WT (wk - 1)) (WD (wk - 1) + 1) (SN3 m_slot) := rokk_w (rokk_o jt (ran_tr rn r3).2.1 (by omega)) (Int.le_refl _) (by omega)
      have j4 : rokk RO3 (32 * rm) (WD (wk - 1) + 1) (SN3 m_slot) := rokk_w (rokk_o q23 r3.2.1 (by omega)) (Int.le_refl _) (by omega)
      have hm3 := rwS_s jG jM hxx hm2 (by omega) q12 qa qb q25
      have hcm : cm2 (dl x) u_ w_ = mnO u_ w_ := by rw [kd, cm2_1]
      rw [hcm] at hm3
      refine ihr (lo := lo) (u_ := dm c2) (w_ := mnO u_ w_) m3 (by rw [e2, q7]; exact hx) (by rw [e3, q8]) (by rw [et]; omega) (by rw [et]; exact j3) (by omega) hw (by omega) (by rw [ep]; omega) v3 o3 (by rw [eg]; omega) (by rw [eg]; exact j4) (by rw [et, eg]; exact hO.rn r3 (Int.le_refl _) (Int.le_refl _) ⟨by omega, by omega⟩ (Int.le_refl _)) (by rw [et]; exact b3_.wd (by omega)) (by omega) (by rw [ej]; exact hm3) f4 f5 f6 (fun G4 T4 N4 W4 CA4 CM4 CL4 CH4 SN4 CC4 RO4 WP4 WD4 WT4 WG4 WS4 g4 rm4 m4 s4 r4 n4 v4 o4 b5_ f7 f8 f9 => ?_)
      rw [ep] at n4
      rw [et] at b5_
      exact k G4 T4 N4 W4 CA4 CM4 CL4 CH4 SN4 CC4 RO4 WP4 WD4 WT4 WG4 WS4 g4 rm4 m4 (fsm_tr (fsm_tr q1 s3 (by omega)) s4 (by omega)) (ran_tr (ran_tr rn r3) r4) (by omega) v4 o4 b5_ f7 f8 f9
set_option maxRecDepth 100000 in
set_option maxHeartbeats 4000000 in
theorem mr_either (jG : rtG K O Fi Be Le Mo Z SM QF QL AF AL SD nd ns 0 pa po MN dl st ht hh PS T_) (hnd : nd ≤ 4200) (hd : 20 ≤ d) (jM : rtM K O Fi Be Le Mo LZ SV nd pa po dl dm pm) (jv : svR SA SM RL RH SV ns rg) {n : Int} (ih : ∀ {G : ab_G} {T N W CA CM CL CH SN CC RO WP WD WT WG WS : Int → Int} {wk gt rm x dp to : Int}, (mcc o G m_thrown m_taped m_length m_out m_wide m_gathered m_sets m_ranges m_nodes m_at m_flags m_fault m_place m_numbered m_depth m_value m_isNot m_least0 m_most0 m_slot wk gt rm m_charAt m_charWide m_trail m_isMatch m_matchGroups m_allFrom m_allBefore m_founds m_pieces m_writtenMany m_templateWide m_tooMuch T N W CA CM CL CH SN CC RO WP WD WT WG WS K O Fi Be Le Mo Z LZ SM SA RL RH ns) → (WP (wk - 1) = x) → (WD (wk - 1) = dp) → (WT (wk - 1) = to) → (WG (wk - 1) = to) → (WS (wk - 1) = 0) → ((0 ≤ x ∧ x < nd) ∧ (1 ≤ wk ∧ wk + hh x ≤ 299) ∧ (0 ≤ dp ∧ dp + ht x ≤ 31) ∧ (0 ≤ to ∧ to + 32 ≤ 32 * rm) ∧ 2 ≤ SN m_slot) → (st x < n) → (2 * SN m_slot + cs (Z x) dp ≤ 25000 ∧ rm + 2 * Z x ≤ 1250 ∧ CC m_slot + Z x ≤ 600 ∧ Z x ≤ 400) → (rokk RO to (dp + 1) (SN m_slot)) → (fx o o [280, 318, 319, 320, 321, 322, 323, 324, 317, 325, 333, 328, 329, 330, 331, 332] G0 G) → (G.length = G0.length) → (ab_slots G = ab_slots G0) → (∀ (G2 : ab_G) (Tq Nq Wq CAq CMq CLq CHq SNq CCq ROq WPq WDq WTq WGq WSq : Int → Int) (g2 rm2 : Int), mcc o G2 m_thrown m_taped m_length m_out m_wide m_gathered m_sets m_ranges m_nodes m_at m_flags m_fault m_place m_numbered m_depth m_value m_isNot m_least0 m_most0 m_slot (wk - 1) g2 rm2 m_charAt m_charWide m_trail m_isMatch m_matchGroups m_allFrom m_allBefore m_founds m_pieces m_writtenMany m_templateWide m_tooMuch Tq Nq Wq CAq CMq CLq CHq SNq CCq ROq WPq WDq WTq WGq WSq K O Fi Be Le Mo Z LZ SM SA RL RH ns → fsm WP WD WT WG WS WPq WDq WTq WGq WSq (wk - 1) → ran m_slot rm rm2 T N W CA CM CL CH SN CC RO Tq Nq Wq CAq CMq CLq CHq SNq CCq ROq → (2 * SNq m_slot ≤ 2 * SN m_slot + (cs (Z x) dp) ∧ rm2 ≤ rm + 2 * (Z x) ∧ CCq m_slot ≤ CC m_slot + (Z x)) → (0 ≤ g2 ∧ g2 + 32 ≤ 32 * rm2) → rokk ROq g2 (dp + 1) (SNq m_slot) → RRo Tq Nq Wq CAq CMq CLq CHq ROq m_slot (SN m_slot) (SNq m_slot) (CCq m_slot) dp to g2 (dm x) → fx o o [280, 318, 319, 320, 321, 322, 323, 324, 317, 325, 333, 328, 329, 330, 331, 332] G0 G2 → G2.length = G0.length → ab_slots G2 = ab_slots G0 → ab_W X (ab_pl y_MO_compile b_MO_compile 6 (some (.int))) d G2 280 [some (vR 80), some (vz sc), none, none, none, none] [] Q) → ab_W X (ab_pl y_MO_compile b_MO_compile 6 (some (.int))) d G 280 [some (vR 80), some (vz sc), none, none, none, none] [] Q) {G : ab_G} {T N W CA CM CL CH SN CC RO WP WD WT WG WS : Int → Int} {wk gt rm x dp to : Int} (hM : mcc o G m_thrown m_taped m_length m_out m_wide m_gathered m_sets m_ranges m_nodes m_at m_flags m_fault m_place m_numbered m_depth m_value m_isNot m_least0 m_most0 m_slot wk gt rm m_charAt m_charWide m_trail m_isMatch m_matchGroups m_allFrom m_allBefore m_founds m_pieces m_writtenMany m_templateWide m_tooMuch T N W CA CM CL CH SN CC RO WP WD WT WG WS K O Fi Be Le Mo Z LZ SM SA RL RH ns) (hx : WP (wk - 1) = x) (hdp : WD (wk - 1) = dp) (hto : WT (wk - 1) = to) (hwg : WG (wk - 1) = to) (hws : WS (wk - 1) = 0) (c1 : (0 ≤ x ∧ x < nd) ∧ (1 ≤ wk ∧ wk + hh x ≤ 299) ∧ (0 ≤ dp ∧ dp + ht x ≤ 31) ∧ (0 ≤ to ∧ to + 32 ≤ 32 * rm) ∧ 2 ≤ SN m_slot) (c2_ : st x < n + 1) (c3 : 2 * SN m_slot + cs (Z x) dp ≤ 25000 ∧ rm + 2 * Z x ≤ 1250 ∧ CC m_slot + Z x ≤ 600 ∧ Z x ≤ 400) (jr : rokk RO to (dp + 1) (SN m_slot)) (hfr : fx o o [280, 318, 319, 320, 321, 322, 323, 324, 317, 325, 333, 328, 329, 330, 331, 332] G0 G) (hlen : G.length = G0.length) (hsl : ab_slots G = ab_slots G0) (k : ∀ (G2 : ab_G) (Tq Nq Wq CAq CMq CLq CHq SNq CCq ROq WPq WDq WTq WGq WSq : Int → Int) (g2 rm2 : Int), mcc o G2 m_thrown m_taped m_length m_out m_wide m_gathered m_sets m_ranges m_nodes m_at m_flags m_fault m_place m_numbered m_depth m_value m_isNot m_least0 m_most0 m_slot (wk - 1) g2 rm2 m_charAt m_charWide m_trail m_isMatch m_matchGroups m_allFrom m_allBefore m_founds m_pieces m_writtenMany m_templateWide m_tooMuch Tq Nq Wq CAq CMq CLq CHq SNq CCq ROq WPq WDq WTq WGq WSq K O Fi Be Le Mo Z LZ SM SA RL RH ns → fsm WP WD WT WG WS WPq WDq WTq WGq WSq (wk - 1) → ran m_slot rm rm2 T N W CA CM CL CH SN CC RO Tq Nq Wq CAq CMq CLq CHq SNq CCq ROq → (2 * SNq m_slot ≤ 2 * SN m_slot + (cs (Z x) dp) ∧ rm2 ≤ rm + 2 * (Z x) ∧ CCq m_slot ≤ CC m_slot + (Z x)) → (0 ≤ g2 ∧ g2 + 32 ≤ 32 * rm2) → rokk ROq g2 (dp + 1) (SNq m_slot) → RRo Tq Nq Wq CAq CMq CLq CHq ROq m_slot (SN m_slot) (SNq m_slot) (CCq m_slot) dp to g2 (dm x) → fx o o [280, 318, 319, 320, 321, 322, 323, 324, 317, 325, 333, 328, 329, 330, 331, 332] G0 G2 → G2.length = G0.length → ab_slots G2 = ab_slots G0 → ab_W X (ab_pl y_MO_compile b_MO_compile 6 (some (.int))) d G2 280 [some (vR 80), some (vz sc), none, none, none, none] [] Q) (hk : K x = 5) (hz1 : 1 ≤ Z x) : ab_W X (ab_pl y_MO_compile b_MO_compile 6 (some (.int))) d G 280 [some (vR 80), some (vz sc), none, none, none, none] [] Q := by
  obtain ⟨hxx, hw, hd0, ht0, hs2⟩ := c1
  obtain ⟨b1, b2, b3, b4⟩ := c3
  obtain ⟨hAx, hHx, hCx⟩ := jG.2.1 x hxx.1 hxx.2
  have hh0 := hHx.2.1
  obtain ⟨k0, k1, k2, k3, k4, k5, k6, k7, k8⟩ := hCx
  obtain ⟨kf, kp, kd, kz⟩ := k6 hk
  have hh1 := hHx.2.1.2.2 (by omega)
  have hzc := hAx.1
  have kz2 : PS x (MN x) ≤ Z x + 1 := by omega
  subst hdp; subst hto
  have ew : wk + 1 - 1 = wk := by omega
  have cnx := cs_nn (z := Z x) (d := WD (wk - 1)) hzc.1
  refine t_Either_0 (m_work := wk) (m_got := gt) (m_rowMany := rm) (sc := sc) (nd := nd) hM (cx := by rw [hx]; refine ⟨?_, ?_, ?_, ?_, ?_, ?_, ?_, ?_⟩ <;> omega) (jG := jG) (ck := by rw [hx]; exact hk) (jf := by rw [hx]; exact kf) (cws := by omega) (cs0 := hws) (czz := by rw [hx]; exact hz1) (cwk := by omega) (by omega) hfr hlen hsl (fun G2 g2 WP2 WD2 WT2 WG2 WS2 m2 q1 q2 q3 f1 f2 f3 => ?_) (fun G2 c2 t2 u2 WP2 WD2 WT2 WG2 WS2 m2 q1 q2 q3 q4 q5 q6 q7 q8 q9 q10 q11 q12 q13 q14 q15 q16 q17 f1 f2 f3 => ?_)
  · rw [hwg] at q2
    rw [hx, hws] at q3
    have mi : dm x = mnI := ((jM.2.2 x hxx.1 hxx.2).2.2.2.2.1 (Or.inr hk)).1 (by rcases kf with t | t; (exact t.1); (exfalso; have := t.2.2.2; omega))
    exact k G2 T N W CA CM CL CH SN CC RO WP2 WD2 WT2 WG2 WS2 g2 rm m2 q1 ran_rf (by omega) (by rw [q2]; exact ht0) (by rw [q2]; exact jr) (by rw [q2, mi]; exact RRo_z nzS_I) f1 f2 f3
  · rw [hx, hws] at q15 q16 q17
    obtain ⟨qa, qb⟩ := q16
    obtain ⟨hA, hH, hC⟩ := jG.2.1 c2 q12.1 q12.2
    have hc0 := hH.2.1
    have hz := hA.1
    have a4 := hA.2.2.2.resolve_left (fun t => by omega)
    rw [qa, qb, kd] at a4
    obtain ⟨a5, a6, a7, a8, _, _⟩ := a4
    have e1 : MN x - 1 - 0 + 1 = MN x := by omega
    have e0 : MN x - 1 - 0 = MN x - 1 := by omega
    rw [e1] at a8
    rw [e0] at a7 a8
    rw [e0] at qb q17
    have h3 := hH.2.2 (by omega)
    rw [qa] at h3
    have ca := cs_add (a := PS x (MN x - 1)) (b := Z c2) (d := WD (wk - 1)) a7 hz.1 (by omega)
    have cm := cs_mono (a := PS x (MN x - 1) + Z c2) (b := Z x) (d := WD (wk - 1)) (by omega) (by omega) (by omega)
    have cn := cs_nn (z := PS x (MN x - 1)) (d := WD (wk - 1)) a7
    have cn2 := cs_nn (z := Z c2) (d := WD (wk - 1)) hz.1
    refine ih (x := c2) (dp := WD (wk - 1)) (to := WT (wk - 1)) m2 (by rw [ew]; exact q2) (by rw [ew]; exact q3) (by rw [ew, q4]; exact q13) (by rw [ew, q5]; exact q13) (by rw [ew]; exact q6) ⟨q12, by omega, by omega, ht0, hs2⟩ (by omega) (by omega) jr f1 f2 f3 (fun G3 T3 N3 W3 CA3 CM3 CL3 CH3 SN3 CC3 RO3 WP3 WD3 WT3 WG3 WS3 g3 rm3 m3 s3 r3 n3 v3 o3 b3_ f4 f5 f6 => ?_)
    rw [ew] at m3 s3
    obtain ⟨e2, e3, e4, e5, e6⟩ := s3 (wk - 1) (by omega)
    have r31 := r3.1
    have ej : WS3 (wk - 1) = 1 := by rw [e6, q11, hws]; rfl
    have p1 : WP3 (wk - 1) = x := by rw [e2, q7]; exact hx
    have p2 : WD3 (wk - 1) = WD (wk - 1) := by rw [e3, q8]
    have p3 : WT3 (wk - 1) = WT (wk - 1) := by rw [e4, q9]
    have jt3 : rokk RO3 (WT (wk - 1)) (WD (wk - 1) + 1) (SN3 m_slot) := rokk_w (rokk_o jr r3.2.1 (by omega)) (Int.le_refl _) (by omega)
    have hw1 := rwS_1 jG jM hxx (Or.inr hk) q12 qa qb q17
    refine t_Either_1 (m_work := wk) (m_got := g3) (m_rowMany := rm3) (sc := sc) (nd := nd) m3 (cx := by rw [p1, p2, p3]; refine ⟨?_, ?_, ?_, ?_, ?_, ?_, ?_, ?_⟩ <;> omega) (jG := jG) (ck := by rw [p1]; exact hk) (jf := by rw [p1]; exact kf) (cws := by omega) (cs0 := ej) (cgo := v3) (czz := by rw [p1]; exact hz1) (cwk := by omega) (by omega) f4 f5 f6 (fun G4 g4 WP4 WD4 WT4 WG4 WS4 m4 y1 y2 y3 f7 f8 f9 => ?_) (fun G4 c4 t4 u4 WP4 WD4 WT4 WG4 WS4 m4 y1 y2 y3 y4 y5 y6 y7 y8 y9 y10 y11 y12 y13 y14 y15 y16 y17 f7 f8 f9 => ?_)
    · subst y2
      rw [p1, ej] at y3
      exact k G4 T3 N3 W3 CA3 CM3 CL3 CH3 SN3 CC3 RO3 WP4 WD4 WT4 WG4 WS4 _ rm3 m4 (fsm_tr (fsm_tr q1 s3 (by omega)) y1 (by omega)) r3 (by omega) v3 o3 (b3_.e (hw1.1 (by omega)).symm) f7 f8 f9
    · rw [p1, ej] at y15 y16 y17
      rw [p3] at y13
      rw [p2] at y3
      obtain ⟨ya, yb⟩ := y16
      obtain ⟨hA4, hH4, hC4⟩ := jG.2.1 c4 y12.1 y12.2
      have hc4 := hH4.2.1
      have hz4 := hA4.1
      have i4 := hA4.2.2.2.resolve_left (fun t => by omega)
      rw [ya, yb, kd] at i4
      obtain ⟨i5, i6, i7, i8, _, _⟩ := i4
      have w1 : MN x - 1 - 1 + 1 = MN x - 1 := by omega
      rw [w1] at i8
      have h4 := hH4.2.2 (by omega)
      rw [ya] at h4
      have cb := cs_add (a := PS x (MN x - 1 - 1) + 1) (b := Z c4) (d := WD (wk - 1)) (by omega) hz4.1 (by omega)
      rw [show PS x (MN x - 1 - 1) + 1 + Z c4 = PS x (MN x - 1) by omega] at cb
      have cn3 := cs_nn (z := PS x (MN x - 1 - 1) + 1) (d := WD (wk - 1)) (by omega)
      have cn4 := cs_nn (z := Z c4) (d := WD (wk - 1)) hz4.1
      refine ih (x := c4) (dp := WD (wk - 1)) (to := WT (wk - 1)) m4 (by rw [ew]; exact y2) (by rw [ew]; exact y3) (by rw [ew, y4]; exact y13) (by rw [ew, y5]; exact y13) (by rw [ew]; exact y6) ⟨y12, by omega, by omega, by omega, by omega⟩ (by omega) (by omega) jt3 f7 f8 f9 (fun G5 T5 N5 W5 CA5 CM5 CL5 CH5 SN5 CC5 RO5 WP5 WD5 WT5 WG5 WS5 g5 rm5 m5 s5 r5 n5 v5 o5 c5_ f10 f11 f12 => ?_)
      rw [ew] at m5 s5
      obtain ⟨x2, x3, x4, x5, x6⟩ := s5 (wk - 1) (by omega)
      have r51 := r5.1
      have ej5 : WS5 (wk - 1) = 2 := by rw [x6, y11, ej]; rfl
      have ep : MN x - WS5 (wk - 1) = MN x - 1 - 1 := by omega
      have eg : WG5 (wk - 1) = g3 := by rw [x5, y10]; exact y14
      have et : WT5 (wk - 1) = WT (wk - 1) := by rw [x4, y9]; exact p3
      have j5 : rokk RO5 (WT (wk - 1)) (WD (wk - 1) + 1) (SN5 m_slot) := rokk_w (rokk_o jt3 r5.2.1 (by omega)) (Int.le_refl _) (by omega)
      have j6 : rokk RO5 g3 (WD (wk - 1) + 1) (SN5 m_slot) := rokk_w (rokk_o o3 r5.2.1 (by omega)) (Int.le_refl _) (by omega)
      have hw2 := rwS_s jG jM hxx hw1 (by omega) y12 ya yb y17
      refine mr_eithers (lo := SN m_slot) (u_ := dm c4) (w_ := dm c2) jG hnd hd jM jv ih hxx c2_ hk hz1 hd0 (MN x).toNat m5 (by rw [x2, y7]; exact p1) (by rw [x3, y8]; exact p2) (by rw [et]; omega) (by rw [et]; exact j5) (by omega) hw (by omega) (by rw [ep]; omega) v5 o5 (by rw [eg]; omega) (by rw [eg]; exact j6) (by rw [et, eg]; exact b3_.rn r5 (Int.le_refl _) (Int.le_refl _) ⟨by omega, by omega⟩ (Int.le_refl _)) (by rw [et]; exact c5_.wd (by omega)) (by omega) (by rw [ej5]; exact hw2) f10 f11 f12 (fun G6 T6 N6 W6 CA6 CM6 CL6 CH6 SN6 CC6 RO6 WP6 WD6 WT6 WG6 WS6 g6 rm6 m6 s6 r6 n6 v6 o6 b6_ f13 f14 f15 => ?_)
      rw [ep] at n6
      rw [et] at b6_
      exact k G6 T6 N6 W6 CA6 CM6 CL6 CH6 SN6 CC6 RO6 WP6 WD6 WT6 WG6 WS6 g6 rm6 m6 (fsm_tr (fsm_tr (fsm_tr (fsm_tr q1 s3 (by omega)) y1 (by omega)) s5 (by omega)) s6 (by omega)) (ran_tr (ran_tr r3 r5) r6) (by omega) v6 o6 b6_ f13 f14 f15
theorem spl_o {T N W CA CM T2 N2 W2 CA2 CM2 : Int → Int} {b n n2 : Int} (h : spl T b n n2) (hx : stx T N W CA CM T2 N2 W2 CA2 CM2 b n2) : spl T2 b n n2 := fun j a c => by
  rw [(hx (b + j) (Or.inl (by omega))).1]; exact h j a c
theorem ran_loop {sl rm rm2 rm3 m : Int} {T N W CA CM CL CH SN CC RO T2 N2 W2 SN2 RO2 T3 N3 W3 CA3 CM3 CL3 CH3 SN3 CC3 RO3 N4 W4 : Int → Int} (h1 : SN2 sl = SN sl + m) (hm : 0 ≤ m) (hl : SN sl + m ≤ 12500) (hrm : rm ≤ rm2) (hr : rsm RO RO2 (32 * rm)) (hs : spl T2 (12500 * sl) (SN sl) (SN2 sl)) (hx : stx T N W CA CM T2 N2 W2 CA CM (12500 * sl) (SN sl)) (hn : sno SN SN2 sl) (h3 : ran sl rm2 rm3 T2 N2 W2 CA CM CL CH SN2 CC RO2 T3 N3 W3 CA3 CM3 CL3 CH3 SN3 CC3 RO3) (hc : clr N3 W3 N4 W4 (12500 * sl) (SN sl) m (SN3 sl)) : ran sl rm rm3 T N W CA CM CL CH SN CC RO T3 N4 W4 CA3 CM3 CL3 CH3 SN3 CC3 RO3 := by
  obtain ⟨a1, a2, a3, a4, a5, a6, a7⟩ := h3
  refine ⟨by omega, rsm_tr hr a2 (by omega), fun j b c => ?_, fun j b => ?_, sno_tr hn a5, a6, a7⟩
  · by_cases e : j < SN sl + m
    · have t3 : T3 (12500 * sl + j) = 3 := by rw [(a4 (12500 * sl + j) (Or.inl (by omega))).1]; exact hs j b (by omega)
      have g := hc.2 j b e
      rw [t3]
      exact ⟨by decide, fun _ _ => g.1, fun _ => g.2, fun q => absurd q (by decide), fun q => absurd q (by decide)⟩
    · have g := a3 j (by omega) c
      obtain ⟨e1, e2⟩ := hc.1 (12500 * sl + j) (Or.inr (by omega))
      rw [e1, e2]; exact g
  · obtain ⟨x1, x2, x3, x4, x5⟩ := hx j b
    obtain ⟨y1, y2, y3, y4, y5⟩ := a4 j (by omega)
    obtain ⟨e1, e2⟩ := hc.1 j (by omega)
    exact ⟨y1.trans x1, e1.trans (y2.trans x2), e2.trans (y3.trans x3), y4.trans x4, y5.trans x5⟩
set_option maxRecDepth 100000 in
set_option maxHeartbeats 4000000 in
theorem mr_copies (jG : rtG K O Fi Be Le Mo Z SM QF QL AF AL SD nd ns 0 pa po MN dl st ht hh PS T_) (hnd : nd ≤ 4200) (hd : 20 ≤ d) (jM : rtM K O Fi Be Le Mo LZ SV nd pa po dl dm pm) (jv : svR SA SM RL RH SV ns rg) {n : Int} (ih : ∀ {G : ab_G} {T N W CA CM CL CH SN CC RO WP WD WT WG WS : Int → Int} {wk gt rm x dp to : Int}, (mcc o G m_thrown m_taped m_length m_out m_wide m_gathered m_sets m_ranges m_nodes m_at m_flags m_fault m_place m_numbered m_depth m_value m_isNot m_least0 m_most0 m_slot wk gt rm m_charAt m_charWide m_trail m_isMatch m_matchGroups m_allFrom m_allBefore m_founds m_pieces m_writtenMany m_templateWide m_tooMuch T N W CA CM CL CH SN CC RO WP WD WT WG WS K O Fi Be Le Mo Z LZ SM SA RL RH ns) → (WP (wk - 1) = x) → (WD (wk - 1) = dp) → (WT (wk - 1) = to) → (WG (wk - 1) = to) → (WS (wk - 1) = 0) → ((0 ≤ x ∧ x < nd) ∧ (1 ≤ wk ∧ wk + hh x ≤ 299) ∧ (0 ≤ dp ∧ dp + ht x ≤ 31) ∧ (0 ≤ to ∧ to + 32 ≤ 32 * rm) ∧ 2 ≤ SN m_slot) → (st x < n) → (2 * SN m_slot + cs (Z x) dp ≤ 25000 ∧ rm + 2 * Z x ≤ 1250 ∧ CC m_slot + Z x ≤ 600 ∧ Z x ≤ 400) → (rokk RO to (dp + 1) (SN m_slot)) → (fx o o [280, 318, 319, 320, 321, 322, 323, 324, 317, 325, 333, 328, 329, 330, 331, 332] G0 G) → (G.length = G0.length) → (ab_slots G = ab_slots G0) → (∀ (G2 : ab_G) (Tq Nq Wq CAq CMq CLq CHq SNq CCq ROq WPq WDq WTq WGq WSq : Int → Int) (g2 rm2 : Int), mcc o G2 m_thrown m_taped m_length m_out m_wide m_gathered m_sets m_ranges m_nodes m_at m_flags m_fault m_place m_numbered m_depth m_value m_isNot m_least0 m_most0 m_slot (wk - 1) g2 rm2 m_charAt m_charWide m_trail m_isMatch m_matchGroups m_allFrom m_allBefore m_founds m_pieces m_writtenMany m_templateWide m_tooMuch Tq Nq Wq CAq CMq CLq CHq SNq CCq ROq WPq WDq WTq WGq WSq K O Fi Be Le Mo Z LZ SM SA RL RH ns → fsm WP WD WT WG WS WPq WDq WTq WGq WSq (wk - 1) → ran m_slot rm rm2 T N W CA CM CL CH SN CC RO Tq Nq Wq CAq CMq CLq CHq SNq CCq ROq → (2 * SNq m_slot ≤ 2 * SN m_slot + (cs (Z x) dp) ∧ rm2 ≤ rm + 2 * (Z x) ∧ CCq m_slot ≤ CC m_slot + (Z x)) → (0 ≤ g2 ∧ g2 + 32 ≤ 32 * rm2) → rokk ROq g2 (dp + 1) (SNq m_slot) → RRo Tq Nq Wq CAq CMq CLq CHq ROq m_slot (SN m_slot) (SNq m_slot) (CCq m_slot) dp to g2 (dm x) → fx o o [280, 318, 319, 320, 321, 322, 323, 324, 317, 325, 333, 328, 329, 330, 331, 332] G0 G2 → G2.length = G0.length → ab_slots G2 = ab_slots G0 → ab_W X (ab_pl y_MO_compile b_MO_compile 6 (some (.int))) d G2 280 [some (vR 80), some (vz sc), none, none, none, none] [] Q) → ab_W X (ab_pl y_MO_compile b_MO_compile 6 (some (.int))) d G 280 [some (vR 80), some (vz sc), none, none, none, none] [] Q) {w_ : Sn} {x dp tot : Int} (hxx : 0 ≤ x ∧ x < nd) (hst : st x < n + 1) (hk : K x = 7) (hz1 : 1 ≤ Z x) (hz4 : Z (Fi x) ≤ 400) (hd0 : 0 ≤ dp ∧ dp + ht x ≤ 31) (htot : (Mo x < 0 ∧ tot = 1 + Le x) ∨ (0 ≤ Mo x ∧ tot = Mo x)) : ∀ (r : Nat) {G : ab_G} {T N W CA CM CL CH SN CC RO WP WD WT WG WS : Int → Int} {wk gt rm lo : Int} {j_ : Nat}, (mcc o G m_thrown m_taped m_length m_out m_wide m_gathered m_sets m_ranges m_nodes m_at m_flags m_fault m_place m_numbered m_depth m_value m_isNot m_least0 m_most0 m_slot wk gt rm m_charAt m_charWide m_trail m_isMatch m_matchGroups m_allFrom m_allBefore m_founds m_pieces m_writtenMany m_templateWide m_tooMuch T N W CA CM CL CH SN CC RO WP WD WT WG WS K O Fi Be Le Mo Z LZ SM SA RL RH ns) → (WP (wk - 1) = x) → (WD (wk - 1) = dp) → (0 ≤ WT (wk - 1) ∧ WT (wk - 1) + 32 ≤ 32 * rm) → (tot - WS (wk - 1) = (r : Int) ∧ 1 ≤ WS (wk - 1) ∧ WS (wk - 1) ≤ 300) → ((Mo x < 0 ∧ 2 ≤ WS (wk - 1)) ∨ (0 ≤ Mo x ∧ Mo x - Le x < WS (wk - 1) ∧ 1 ≤ WS (wk - 1))) → (1 ≤ wk ∧ wk + hh x ≤ 299) → (2 ≤ SN m_slot) → (2 * SN m_slot + ((r : Int) * cs (Z (Fi x)) dp) ≤ 25000 ∧ rm + 2 * ((r : Int) * Z (Fi x)) ≤ 1250 ∧ CC m_slot + ((r : Int) * Z (Fi x)) ≤ 600) → (0 ≤ gt ∧ gt + 32 ≤ 32 * rm) → (rokk RO gt (dp + 1) (SN m_slot)) → (RRo T N W CA CM CL CH RO m_slot lo (SN m_slot) (CC m_slot) dp (WT (wk - 1)) gt (mnN (dm (Fi x)) w_ j_)) → (lo ≤ SN m_slot) → (fx o o [280, 318, 319, 320, 321, 322, 323, 324, 317, 325, 333, 328, 329, 330, 331, 332] G0 G) → (G.length = G0.length) → (ab_slots G = ab_slots G0) → (∀ (G2 : ab_G) (Tq Nq Wq CAq CMq CLq CHq SNq CCq ROq WPq WDq WTq WGq WSq : Int → Int) (g2 rm2 : Int), mcc o G2 m_thrown m_taped m_length m_out m_wide m_gathered m_sets m_ranges m_nodes m_at m_flags m_fault m_place m_numbered m_depth m_value m_isNot m_least0 m_most0 m_slot (wk - 1) g2 rm2 m_charAt m_charWide m_trail m_isMatch m_matchGroups m_allFrom m_allBefore m_founds m_pieces m_writtenMany m_templateWide m_tooMuch Tq Nq Wq CAq CMq CLq CHq SNq CCq ROq WPq WDq WTq WGq WSq K O Fi Be Le Mo Z LZ SM SA RL RH ns → fsm WP WD WT WG WS WPq WDq WTq WGq WSq (wk - 1) → ran m_slot rm rm2 T N W CA CM CL CH SN CC RO Tq Nq Wq CAq CMq CLq CHq SNq CCq ROq → (2 * SNq m_slot ≤ 2 * SN m_slot + (((r : Int) * cs (Z (Fi x)) dp)) ∧ rm2 ≤ rm + 2 * (((r : Int) * Z (Fi x))) ∧ CCq m_slot ≤ CC m_slot + (((r : Int) * Z (Fi x)))) → (0 ≤ g2 ∧ g2 + 32 ≤ 32 * rm2) → rokk ROq g2 (dp + 1) (SNq m_slot) → RRo Tq Nq Wq CAq CMq CLq CHq ROq m_slot lo (SNq m_slot) (CCq m_slot) dp (WT (wk - 1)) g2 (mnN (dm (Fi x)) w_ (j_ + r)) → fx o o [280, 318, 319, 320, 321, 322, 323, 324, 317, 325, 333, 328, 329, 330, 331, 332] G0 G2 → G2.length = G0.length → ab_slots G2 = ab_slots G0 → ab_W X (ab_pl y_MO_compile b_MO_compile 6 (some (.int))) d G2 280 [some (vR 80), some (vz sc), none, none, none, none] [] Q) → ab_W X (ab_pl y_MO_compile b_MO_compile 6 (some (.int))) d G 280 [some (vR 80), some (vz sc), none, none, none, none] [] Q := by
  obtain ⟨hAx, hHx, hCx⟩ := jG.2.1 x hxx.1 hxx.2
  have hh0 : 0 ≤ ht x ∧ 0 ≤ hh x := ⟨hHx.2.1.1, hHx.2.1.2.1⟩
  have hh1 := hHx.2.1.2.2 (by omega)
  obtain ⟨⟨kf0, kf1, kf2⟩, kl, km, _, _, _⟩ := hCx.2.2.2.2.2.2.2.2 hk
  have hzc := hAx.1
  obtain ⟨hA, hH, hC⟩ := jG.2.1 (Fi x) kf0 kf1
  have hc0 : 0 ≤ ht (Fi x) ∧ 0 ≤ hh (Fi x) := ⟨hH.2.1.1, hH.2.1.2.1⟩
  have hz := hA.1
  have h3 := hH.2.2 (by omega)
  rw [kf2] at h3
  obtain ⟨h31, h32, h33, _⟩ := h3
  have cn2 := cs_nn (z := Z (Fi x)) (d := dp) hz.1
  intro r
  induction r with
  | zero =>
    intro G T N W CA CM CL CH SN CC RO WP WD WT WG WS wk gt rm lo j_ hM hx hdp ht0 hj hj2 hw hs2 hb hg jr hm1 hlo hfr hlen hsl k
    subst hdp
    refine t_Repeat_n (m_work := wk) (m_got := gt) (m_rowMany := rm) (sc := sc) (nd := nd) hM (cx := by rw [hx]; refine ⟨?_, ?_, ?_, ?_, ?_, ?_, ?_, ?_⟩ <;> omega) (ck := by rw [hx]; exact hk) (cfi := by rw [hx]; exact ⟨kf0, kf1⟩) (clm := by rw [hx]; omega) (cws := by omega) (cs0 := by rw [hx]; exact hj2) (cgo := hg) (czz := by rw [hx]; exact hz1) (cwk := by omega) (by omega) hfr hlen hsl (fun G2 g2 WP2 WD2 WT2 WG2 WS2 m2 q1 q2 q3 f1 f2 f3 => ?_) (fun G2 c2 t2 u2 WP2 WD2 WT2 WG2 WS2 m2 q1 q2 q3 q4 q5 q6 q7 q8 q9 q10 q11 q12 q13 q14 q15 f1 f2 f3 => ?_)
    · subst q2
      exact k G2 T N W CA CM CL CH SN CC RO WP2 WD2 WT2 WG2 WS2 _ rm m2 q1 ran_rf (by rw [show ((0 : Nat) : Int) = 0 from rfl, Int.zero_mul, Int.zero_mul]; omega) hg jr hm1 f1 f2 f3
    · rw [hx] at q15
      exfalso
      rcases q15 with ⟨y1, y2⟩ | ⟨y1, y2⟩ <;> rcases htot with ⟨y3, y4⟩ | ⟨y3, y4⟩ <;> omega
  | succ r ihr =>
    intro G T N W CA CM CL CH SN CC RO WP WD WT WG WS wk gt rm lo j_ hM hx hdp ht0 hj hj2 hw hs2 hb hg jr hm1 hlo hfr hlen hsl k
    subst hdp
    have es : ((r + 1 : Nat) : Int) * Z (Fi x) = (r : Int) * Z (Fi x) + Z (Fi x) := by rw [show ((r + 1 : Nat) : Int) = (r : Int) + 1 by omega, Int.add_mul, Int.one_mul]
    have ec : ((r + 1 : Nat) : Int) * cs (Z (Fi x)) (WD (wk - 1)) = (r : Int) * cs (Z (Fi x)) (WD (wk - 1)) + cs (Z (Fi x)) (WD (wk - 1)) := by rw [show ((r + 1 : Nat) : Int) = (r : Int) + 1 by omega, Int.add_mul, Int.one_mul]
    have pn : 0 ≤ (r : Int) * Z (Fi x) := Int.mul_nonneg (by omega) hz.1
    have pc : 0 ≤ (r : Int) * cs (Z (Fi x)) (WD (wk - 1)) := Int.mul_nonneg (by omega) cn2
    refine t_Repeat_n (m_work := wk) (m_got := gt) (m_rowMany := rm) (sc := sc) (nd := nd) hM (cx := by rw [hx]; refine ⟨?_, ?_, ?_, ?_, ?_, ?_, ?_, ?_⟩ <;> omega) (ck := by rw [hx]; exact hk) (cfi := by rw [hx]; exact ⟨kf0, kf1⟩) (clm := by rw [hx]; omega) (cws := by omega) (cs0 := by rw [hx]; exact hj2) (cgo := hg) (czz := by rw [hx]; exact hz1) (cwk := by omega) (by omega) hfr hlen hsl (fun G2 g2 WP2 WD2 WT2 WG2 WS2 m2 q1 q2 q3 f1 f2 f3 => ?_) (fun G2 c2 t2 u2 WP2 WD2 WT2 WG2 WS2 m2 q1 q2 q3 q4 q5 q6 q7 q8 q9 q10 q11 q12 q13 q14 q15 f1 f2 f3 => ?_)
    · rw [hx] at q3
      exfalso
      rcases q3 with ⟨y1, y2⟩ | ⟨y1, y2⟩ <;> rcases htot with ⟨y3, y4⟩ | ⟨y3, y4⟩ <;> omega
    · rw [hx] at q12
      subst q12
      have ew : wk + 1 - 1 = wk := by omega
      refine ih (x := Fi x) (dp := WD (wk - 1)) (to := gt) m2 (by rw [ew]; exact q2) (by rw [ew]; exact q3) (by rw [ew, q4]; exact q13) (by rw [ew, q5]; exact q13) (by rw [ew]; exact q6) ⟨⟨kf0, kf1⟩, by omega, by omega, hg, hs2⟩ (by omega) (by omega) jr f1 f2 f3 (fun G3 T3 N3 W3 CA3 CM3 CL3 CH3 SN3 CC3 RO3 WP3 WD3 WT3 WG3 WS3 g3 rm3 m3 s3 r3 n3 v3 o3 b3_ f4 f5 f6 => ?_)
      rw [ew] at m3 s3
      obtain ⟨e2, e3, e4, e5, e6⟩ := s3 (wk - 1) (by omega)
      have r31 := r3.1
      have ej : WS3 (wk - 1) = WS (wk - 1) + 1 := by rw [e6]; exact q11
      have b4_ := RRo_N (w := w_) (j := j_) rfl (b3_.wd hlo) (hm1.rn r3 (Int.le_refl _) (Int.le_refl _) ⟨by omega, by omega⟩ (Int.le_refl _)) (by omega)
      refine ihr (lo := lo) (j_ := j_ + 1) m3 (by rw [e2, q7]; exact hx) (by rw [e3, q8]) (by rw [e4, q9]; omega) (by omega) (by rw [ej]; rcases hj2 with y | y; (exact Or.inl ⟨y.1, by omega⟩); (exact Or.inr ⟨y.1, by omega, by omega⟩)) hw (by omega) (by omega) v3 o3 (by rw [e4, q9]; exact b4_) (by omega) f4 f5 f6 (fun G4 T4 N4 W4 CA4 CM4 CL4 CH4 SN4 CC4 RO4 WP4 WD4 WT4 WG4 WS4 g4 rm4 m4 s4 r4 n4 v4 o4 b5_ f7 f8 f9 => ?_)
      rw [e4, q9, show j_ + 1 + r = j_ + (r + 1) by omega] at b5_
      exact k G4 T4 N4 W4 CA4 CM4 CL4 CH4 SN4 CC4 RO4 WP4 WD4 WT4 WG4 WS4 g4 rm4 m4 (fsm_tr (fsm_tr q1 s3 (by omega)) s4 (by omega)) (ran_tr r3 r4) (by omega) v4 o4 b5_ f7 f8 f9
set_option maxRecDepth 100000 in
set_option maxHeartbeats 4000000 in
theorem mr_star (jG : rtG K O Fi Be Le Mo Z SM QF QL AF AL SD nd ns 0 pa po MN dl st ht hh PS T_) (hnd : nd ≤ 4200) (hd : 20 ≤ d) (jM : rtM K O Fi Be Le Mo LZ SV nd pa po dl dm pm) (jv : svR SA SM RL RH SV ns rg) {n : Int} (ih : ∀ {G : ab_G} {T N W CA CM CL CH SN CC RO WP WD WT WG WS : Int → Int} {wk gt rm x dp to : Int}, (mcc o G m_thrown m_taped m_length m_out m_wide m_gathered m_sets m_ranges m_nodes m_at m_flags m_fault m_place m_numbered m_depth m_value m_isNot m_least0 m_most0 m_slot wk gt rm m_charAt m_charWide m_trail m_isMatch m_matchGroups m_allFrom m_allBefore m_founds m_pieces m_writtenMany m_templateWide m_tooMuch T N W CA CM CL CH SN CC RO WP WD WT WG WS K O Fi Be Le Mo Z LZ SM SA RL RH ns) → (WP (wk - 1) = x) → (WD (wk - 1) = dp) → (WT (wk - 1) = to) → (WG (wk - 1) = to) → (WS (wk - 1) = 0) → ((0 ≤ x ∧ x < nd) ∧ (1 ≤ wk ∧ wk + hh x ≤ 299) ∧ (0 ≤ dp ∧ dp + ht x ≤ 31) ∧ (0 ≤ to ∧ to + 32 ≤ 32 * rm) ∧ 2 ≤ SN m_slot) → (st x < n) → (2 * SN m_slot + cs (Z x) dp ≤ 25000 ∧ rm + 2 * Z x ≤ 1250 ∧ CC m_slot + Z x ≤ 600 ∧ Z x ≤ 400) → (rokk RO to (dp + 1) (SN m_slot)) → (fx o o [280, 318, 319, 320, 321, 322, 323, 324, 317, 325, 333, 328, 329, 330, 331, 332] G0 G) → (G.length = G0.length) → (ab_slots G = ab_slots G0) → (∀ (G2 : ab_G) (Tq Nq Wq CAq CMq CLq CHq SNq CCq ROq WPq WDq WTq WGq WSq : Int → Int) (g2 rm2 : Int), mcc o G2 m_thrown m_taped m_length m_out m_wide m_gathered m_sets m_ranges m_nodes m_at m_flags m_fault m_place m_numbered m_depth m_value m_isNot m_least0 m_most0 m_slot (wk - 1) g2 rm2 m_charAt m_charWide m_trail m_isMatch m_matchGroups m_allFrom m_allBefore m_founds m_pieces m_writtenMany m_templateWide m_tooMuch Tq Nq Wq CAq CMq CLq CHq SNq CCq ROq WPq WDq WTq WGq WSq K O Fi Be Le Mo Z LZ SM SA RL RH ns → fsm WP WD WT WG WS WPq WDq WTq WGq WSq (wk - 1) → ran m_slot rm rm2 T N W CA CM CL CH SN CC RO Tq Nq Wq CAq CMq CLq CHq SNq CCq ROq → (2 * SNq m_slot ≤ 2 * SN m_slot + (cs (Z x) dp) ∧ rm2 ≤ rm + 2 * (Z x) ∧ CCq m_slot ≤ CC m_slot + (Z x)) → (0 ≤ g2 ∧ g2 + 32 ≤ 32 * rm2) → rokk ROq g2 (dp + 1) (SNq m_slot) → RRo Tq Nq Wq CAq CMq CLq CHq ROq m_slot (SN m_slot) (SNq m_slot) (CCq m_slot) dp to g2 (dm x) → fx o o [280, 318, 319, 320, 321, 322, 323, 324, 317, 325, 333, 328, 329, 330, 331, 332] G0 G2 → G2.length = G0.length → ab_slots G2 = ab_slots G0 → ab_W X (ab_pl y_MO_compile b_MO_compile 6 (some (.int))) d G2 280 [some (vR 80), some (vz sc), none, none, none, none] [] Q) → ab_W X (ab_pl y_MO_compile b_MO_compile 6 (some (.int))) d G 280 [some (vR 80), some (vz sc), none, none, none, none] [] Q) {G : ab_G} {T N W CA CM CL CH SN CC RO WP WD WT WG WS : Int → Int} {wk gt rm x dp to : Int} (hM : mcc o G m_thrown m_taped m_length m_out m_wide m_gathered m_sets m_ranges m_nodes m_at m_flags m_fault m_place m_numbered m_depth m_value m_isNot m_least0 m_most0 m_slot wk gt rm m_charAt m_charWide m_trail m_isMatch m_matchGroups m_allFrom m_allBefore m_founds m_pieces m_writtenMany m_templateWide m_tooMuch T N W CA CM CL CH SN CC RO WP WD WT WG WS K O Fi Be Le Mo Z LZ SM SA RL RH ns) (hx : WP (wk - 1) = x) (hdp : WD (wk - 1) = dp) (hto : WT (wk - 1) = to) (hwg : WG (wk - 1) = to) (hws : WS (wk - 1) = 0) (c1 : (0 ≤ x ∧ x < nd) ∧ (1 ≤ wk ∧ wk + hh x ≤ 299) ∧ (0 ≤ dp ∧ dp + ht x ≤ 31) ∧ (0 ≤ to ∧ to + 32 ≤ 32 * rm) ∧ 2 ≤ SN m_slot) (c2_ : st x < n + 1) (c3 : 2 * SN m_slot + cs (Z x) dp ≤ 25000 ∧ rm + 2 * Z x ≤ 1250 ∧ CC m_slot + Z x ≤ 600 ∧ Z x ≤ 400) (jr : rokk RO to (dp + 1) (SN m_slot)) (hfr : fx o o [280, 318, 319, 320, 321, 322, 323, 324, 317, 325, 333, 328, 329, 330, 331, 332] G0 G) (hlen : G.length = G0.length) (hsl : ab_slots G = ab_slots G0) (k : ∀ (G2 : ab_G) (Tq Nq Wq CAq CMq CLq CHq SNq CCq ROq WPq WDq WTq WGq WSq : Int → Int) (g2 rm2 : Int), mcc o G2 m_thrown m_taped m_length m_out m_wide m_gathered m_sets m_ranges m_nodes m_at m_flags m_fault m_place m_numbered m_depth m_value m_isNot m_least0 m_most0 m_slot (wk - 1) g2 rm2 m_charAt m_charWide m_trail m_isMatch m_matchGroups m_allFrom m_allBefore m_founds m_pieces m_writtenMany m_templateWide m_tooMuch Tq Nq Wq CAq CMq CLq CHq SNq CCq ROq WPq WDq WTq WGq WSq K O Fi Be Le Mo Z LZ SM SA RL RH ns → fsm WP WD WT WG WS WPq WDq WTq WGq WSq (wk - 1) → ran m_slot rm rm2 T N W CA CM CL CH SN CC RO Tq Nq Wq CAq CMq CLq CHq SNq CCq ROq → (2 * SNq m_slot ≤ 2 * SN m_slot + (cs (Z x) dp) ∧ rm2 ≤ rm + 2 * (Z x) ∧ CCq m_slot ≤ CC m_slot + (Z x)) → (0 ≤ g2 ∧ g2 + 32 ≤ 32 * rm2) → rokk ROq g2 (dp + 1) (SNq m_slot) → RRo Tq Nq Wq CAq CMq CLq CHq ROq m_slot (SN m_slot) (SNq m_slot) (CCq m_slot) dp to g2 (dm x) → fx o o [280, 318, 319, 320, 321, 322, 323, 324, 317, 325, 333, 328, 329, 330, 331, 332] G0 G2 → G2.length = G0.length → ab_slots G2 = ab_slots G0 → ab_W X (ab_pl y_MO_compile b_MO_compile 6 (some (.int))) d G2 280 [some (vR 80), some (vz sc), none, none, none, none] [] Q) (hk : K x = 7) (hmo : Mo x < 0) (hz1 : 1 ≤ Z x) : ab_W X (ab_pl y_MO_compile b_MO_compile 6 (some (.int))) d G 280 [some (vR 80), some (vz sc), none, none, none, none] [] Q := by
  obtain ⟨hxx, hw, hd0, ht0, hs2⟩ := c1
  obtain ⟨b1, b2, b3, b4⟩ := c3
  obtain ⟨hAx, hHx, hCx⟩ := jG.2.1 x hxx.1 hxx.2
  have hh0 : 0 ≤ ht x ∧ 0 ≤ hh x := ⟨hHx.2.1.1, hHx.2.1.2.1⟩
  have hh1 := hHx.2.1.2.2 (by omega)
  obtain ⟨⟨kf0, kf1, kf2⟩, kl, km, klm, kz1, kz2⟩ := hCx.2.2.2.2.2.2.2.2 hk
  have hzc := hAx.1
  obtain ⟨hA, hH, hC⟩ := jG.2.1 (Fi x) kf0 kf1
  have hc0 : 0 ≤ ht (Fi x) ∧ 0 ≤ hh (Fi x) := ⟨hH.2.1.1, hH.2.1.2.1⟩
  have hz := hA.1
  have h3 := hH.2.2 (by omega)
  rw [kf2] at h3
  obtain ⟨h31, h32, h33, h34⟩ := h3
  have h35 := h34 hk hmo
  have kz := (kz1 hmo).resolve_right (by omega)
  clear h34 kz1 kz2 klm
  subst hdp; subst hto
  have ew : wk + 1 - 1 = wk := by omega
  have cst_ := cs_star (x := Z (Fi x)) (d := WD (wk - 1)) (le := Le x) hz.1 (by omega) kl.1
  have pz : 0 ≤ Le x * Z (Fi x) := Int.mul_nonneg kl.1 hz.1
  have ez : (Le x + 1) * Z (Fi x) = Le x * Z (Fi x) + Z (Fi x) := by rw [Int.add_mul, Int.one_mul]
  have cm := cs_mono (a := (Le x + 1) * Z (Fi x) + 1) (b := Z x) (d := WD (wk - 1)) (by omega) kz (by omega)
  have cn1 := cs_nn (z := Z (Fi x)) (d := WD (wk - 1) + 1) hz.1
  have cn2 := cs_nn (z := Z (Fi x)) (d := WD (wk - 1)) hz.1
  have pc : 0 ≤ Le x * cs (Z (Fi x)) (WD (wk - 1)) := Int.mul_nonneg kl.1 cn2
  have cl := cs_one (d := WD (wk - 1)) (by omega)
  refine t_Repeat_o (m_work := wk) (m_got := gt) (m_rowMany := rm) (sc := sc) (nd := nd) hM (cx := by rw [hx]; refine ⟨?_, ?_, ?_, ?_, ?_, ?_, ?_, ?_⟩ <;> omega) (ck := by rw [hx]; exact hk) (cfi := by rw [hx]; exact ⟨kf0, kf1⟩) (clm := by rw [hx]; omega) (cs0 := hws) (crs := by omega) (cmo := by rw [hx]; exact hmo) (czz := by rw [hx]; exact hz1) (cwk := by omega) (by omega) hfr hlen hsl (fun G2 c2 t2 u2 WP2 WD2 WT2 WG2 WS2 RO2 T2 N2 W2 SN2 m2 q1 q2 q3 q4 q5 q6 q7 q8 q9 q10 q11 q12 q13 q14 q15 q16 q17 q18 q19 q20 q21 q22 q23 q24 f1 f2 f3 => ?_)
  rw [hx] at q12
  subst q12
  refine ih (x := Fi x) (dp := WD (wk - 1) + 1) (to := 32 * (rm + 1)) m2 (by rw [ew]; exact q2) (by rw [ew]; exact q3) (by rw [ew, q4]; exact q13) (by rw [ew, q5]; exact q13) (by rw [ew]; exact q6) ⟨⟨kf0, kf1⟩, by omega, by omega, by omega, by omega⟩ (by omega) (by omega) (by rw [show WD (wk - 1) + 1 + 1 = WD (wk - 1) + 2 by omega]; exact q18) f1 f2 f3 (fun G3 T3 N3 W3 CA3 CM3 CL3 CH3 SN3 CC3 RO3 WP3 WD3 WT3 WG3 WS3 g3 rm3 m3 s3 r3 n3 v3 o3 b3_ f4 f5 f6 => ?_)
  rw [ew] at m3 s3
  obtain ⟨e2, e3, e4, e5, e6⟩ := s3 (wk - 1) (by omega)
  have r31 := r3.1
  have ej : WS3 (wk - 1) = 1 := by rw [e6]; exact q11
  have p1 : WP3 (wk - 1) = x := by rw [e2, q7]; exact hx
  have p2 : WD3 (wk - 1) = WD (wk - 1) := by rw [e3, q8]
  have p3 : WT3 (wk - 1) = WT (wk - 1) := by rw [e4, q9]
  have p4 : WG3 (wk - 1) = 32 * rm := by rw [e5, q10]; exact q14
  have jq3 : rsq RO3 (32 * rm) (WD (wk - 1) + 1) (SN m_slot) := rsq_o q17 r3.2.1 (by omega)
  have jt3 : rokk RO3 (WT (wk - 1)) (WD (wk - 1) + 1) (SN3 m_slot) := rokk_w (rokk_o (rokk_o jr q16 (by omega)) r3.2.1 (by omega)) (Int.le_refl _) (by omega)
  have js3 : spl T3 (12500 * m_slot) (SN m_slot) (SN2 m_slot) := spl_o q19 r3.2.2.2.1
  have jw3 : rokk RO3 (32 * rm) (WD (wk - 1) + 1) (SN3 m_slot) := rsq_ok jq3 (by omega)
  refine t_Repeat_c (m_work := wk) (m_got := g3) (m_rowMany := rm3) (sc := sc) (nd := nd) (n1 := SN m_slot) m3 (cx := by rw [p1, p2, p3]; refine ⟨?_, ?_, ?_, ?_, ?_, ?_, ?_, ?_⟩ <;> omega) (jto := by rw [p2, p3]; exact jt3) (jgo := by rw [p2]; exact rokk_w o3 (by omega) (Int.le_refl _)) (cgo := v3) (cwg := by rw [p4]; omega) (ck := by rw [p1]; exact hk) (cfi := by rw [p1]; exact ⟨kf0, kf1⟩) (clm := by rw [p1]; omega) (cmo := by rw [p1]; exact hmo) (cs0 := ej) (jwq := by rw [p4, p2]; exact jq3) (cn1 := by rw [p2]; omega) (czz := by rw [p1]; exact hz1) (cwk := by omega) (by rw [p2, show SN m_slot + (WD (wk - 1) + 1) = SN2 m_slot by omega]; exact js3) (by omega) f4 f5 f6 (fun G4 g4 WP4 WD4 WT4 WG4 WS4 N4 W4 m4 y1 y2 y3 y4 yx f7 f8 f9 => ?_) (fun G4 c4 t4 u4 WP4 WD4 WT4 WG4 WS4 N4 W4 m4 y1 y2 y3 y4 y5 y6 y7 y8 y9 y10 y11 y12 y13 y14 y15 y16 yx f7 f8 f9 => ?_)
  · rw [p2] at y4 yx
    rw [p1] at y3 yx
    rw [p3] at yx
    rw [p4] at y2
    subst y2
    have hT : RRo T3 N4 W4 CA3 CM3 CL3 CH3 RO3 m_slot (SN m_slot) (SN3 m_slot) (CC3 m_slot) (WD (wk - 1)) (WT (wk - 1)) (32 * rm) (mnR 0 1000 (LZ x) (dm (Fi x))) := RRo_T (rEl_cl (by rw [show SN m_slot + (WD (wk - 1) + 1) = SN2 m_slot by omega]; exact js3) jq3 yx (by omega)) (b3_.cl y4 (by omega) (by omega)) (q23.ro r3.2.1 (by omega)) (by rw [r3.2.1 _ (by omega), q24, jq3 _ (by omega) (by omega)]) (by omega)
    have hmE : moE (Mo x) = 1000 := if_pos hmo
    have rl := ran_loop (m := WD (wk - 1) + 1) (by omega) (by omega) (by omega) (show rm ≤ rm + 1 + 1 by omega) q16 q19 q20 q21 r3 y4
    exact k G4 T3 N4 W4 CA3 CM3 CL3 CH3 SN3 CC3 RO3 WP4 WD4 WT4 WG4 WS4 _ rm3 m4 (fsm_tr (fsm_tr q1 s3 (by omega)) y1 (by omega)) rl (by omega) (by omega) jw3 (by rw [(jM.2.2 x hxx.1 hxx.2).2.2.2.2.2.2 hk, hmE, y3]; exact hT) f7 f8 f9
  · rw [p2] at y16 y3 yx
    rw [p1] at y12 y15 yx
    rw [p3] at yx
    rw [p4] at y13 y14
    subst y12
    have hT : RRo T3 N4 W4 CA3 CM3 CL3 CH3 RO3 m_slot (SN m_slot) (SN3 m_slot) (CC3 m_slot) (WD (wk - 1)) (WT (wk - 1)) (32 * rm) (mnR 0 1000 (LZ x) (dm (Fi x))) := RRo_T (rEl_cl (by rw [show SN m_slot + (WD (wk - 1) + 1) = SN2 m_slot by omega]; exact js3) jq3 yx (by omega)) (b3_.cl y16 (by omega) (by omega)) (q23.ro r3.2.1 (by omega)) (by rw [r3.2.1 _ (by omega), q24, jq3 _ (by omega) (by omega)]) (by omega)
    have hmE : moE (Mo x) = 1000 := if_pos hmo
    have rl := ran_loop (m := WD (wk - 1) + 1) (by omega) (by omega) (by omega) (show rm ≤ rm + 1 + 1 by omega) q16 q19 q20 q21 r3 y16
    obtain ⟨r, hr⟩ : ∃ r : Nat, Le x = (r : Int) + 1 := ⟨(Le x - 1).toNat, by omega⟩
    have es : Le x * Z (Fi x) = (r : Int) * Z (Fi x) + Z (Fi x) := by rw [hr, Int.add_mul, Int.one_mul]
    have ec : Le x * cs (Z (Fi x)) (WD (wk - 1)) = (r : Int) * cs (Z (Fi x)) (WD (wk - 1)) + cs (Z (Fi x)) (WD (wk - 1)) := by rw [hr, Int.add_mul, Int.one_mul]
    have pn : 0 ≤ (r : Int) * Z (Fi x) := Int.mul_nonneg (by omega) hz.1
    have pr : 0 ≤ (r : Int) * cs (Z (Fi x)) (WD (wk - 1)) := Int.mul_nonneg (by omega) cn2
    refine ih (x := Fi x) (dp := WD (wk - 1)) (to := 32 * rm) m4 (by rw [ew]; exact y2) (by rw [ew]; exact y3) (by rw [ew, y4]; exact y13) (by rw [ew, y5]; exact y13) (by rw [ew]; exact y6) ⟨⟨kf0, kf1⟩, by omega, by omega, by omega, by omega⟩ (by omega) (by omega) jw3 f7 f8 f9 (fun G5 T5 N5 W5 CA5 CM5 CL5 CH5 SN5 CC5 RO5 WP5 WD5 WT5 WG5 WS5 g5 rm5 m5 s5 r5 n5 v5 o5 c5_ f10 f11 f12 => ?_)
    rw [ew] at m5 s5
    obtain ⟨x2, x3, x4, x5, x6⟩ := s5 (wk - 1) (by omega)
    have r51 := r5.1
    have ej5 : WS5 (wk - 1) = 2 := by rw [x6, y11, ej]; rfl
    have hT5 := RRo_N (w := mnR 0 1000 (LZ x) (dm (Fi x))) (j := 0) rfl (c5_.wd (by omega)) ((RRo_N0 hT).rn r5 (Int.le_refl _) (Int.le_refl _) ⟨by omega, by omega⟩ (Int.le_refl _)) (by omega)
    refine mr_copies (lo := SN m_slot) (w_ := mnR 0 1000 (LZ x) (dm (Fi x))) (j_ := 0 + 1) (tot := 1 + Le x) jG hnd hd jM jv ih hxx c2_ hk hz1 (by omega) hd0 (Or.inl ⟨hmo, rfl⟩) r m5 (by rw [x2, y7]; exact p1) (by rw [x3, y8]; exact p2) (by rw [x4, y9, p3]; omega) (by omega) (Or.inl ⟨hmo, by omega⟩) hw (by omega) (by omega) v5 o5 (by rw [x4, y9, p3]; exact hT5) (by omega) f10 f11 f12 (fun G6 T6 N6 W6 CA6 CM6 CL6 CH6 SN6 CC6 RO6 WP6 WD6 WT6 WG6 WS6 g6 rm6 m6 s6 r6 n6 v6 o6 b6_ f13 f14 f15 => ?_)
    rw [x4, y9, p3, show 0 + 1 + r = (Le x).toNat by omega] at b6_
    exact k G6 T6 N6 W6 CA6 CM6 CL6 CH6 SN6 CC6 RO6 WP6 WD6 WT6 WG6 WS6 g6 rm6 m6 (fsm_tr (fsm_tr (fsm_tr (fsm_tr q1 s3 (by omega)) y1 (by omega)) s5 (by omega)) s6 (by omega)) (ran_tr (ran_tr rl r5) r6) (by omega) v6 o6 (by rw [(jM.2.2 x hxx.1 hxx.2).2.2.2.2.2.2 hk, hmE]; exact RRo_re kl.1 b6_) f13 f14 f15
set_option maxRecDepth 100000 in
set_option maxHeartbeats 4000000 in
theorem mr_splits (jG : rtG K O Fi Be Le Mo Z SM QF QL AF AL SD nd ns 0 pa po MN dl st ht hh PS T_) (hnd : nd ≤ 4200) (hd : 20 ≤ d) (jM : rtM K O Fi Be Le Mo LZ SV nd pa po dl dm pm) (jv : svR SA SM RL RH SV ns rg) {n : Int} (ih : ∀ {G : ab_G} {T N W CA CM CL CH SN CC RO WP WD WT WG WS : Int → Int} {wk gt rm x dp to : Int}, (mcc o G m_thrown m_taped m_length m_out m_wide m_gathered m_sets m_ranges m_nodes m_at m_flags m_fault m_place m_numbered m_depth m_value m_isNot m_least0 m_most0 m_slot wk gt rm m_charAt m_charWide m_trail m_isMatch m_matchGroups m_allFrom m_allBefore m_founds m_pieces m_writtenMany m_templateWide m_tooMuch T N W CA CM CL CH SN CC RO WP WD WT WG WS K O Fi Be Le Mo Z LZ SM SA RL RH ns) → (WP (wk - 1) = x) → (WD (wk - 1) = dp) → (WT (wk - 1) = to) → (WG (wk - 1) = to) → (WS (wk - 1) = 0) → ((0 ≤ x ∧ x < nd) ∧ (1 ≤ wk ∧ wk + hh x ≤ 299) ∧ (0 ≤ dp ∧ dp + ht x ≤ 31) ∧ (0 ≤ to ∧ to + 32 ≤ 32 * rm) ∧ 2 ≤ SN m_slot) → (st x < n) → (2 * SN m_slot + cs (Z x) dp ≤ 25000 ∧ rm + 2 * Z x ≤ 1250 ∧ CC m_slot + Z x ≤ 600 ∧ Z x ≤ 400) → (rokk RO to (dp + 1) (SN m_slot)) → (fx o o [280, 318, 319, 320, 321, 322, 323, 324, 317, 325, 333, 328, 329, 330, 331, 332] G0 G) → (G.length = G0.length) → (ab_slots G = ab_slots G0) → (∀ (G2 : ab_G) (Tq Nq Wq CAq CMq CLq CHq SNq CCq ROq WPq WDq WTq WGq WSq : Int → Int) (g2 rm2 : Int), mcc o G2 m_thrown m_taped m_length m_out m_wide m_gathered m_sets m_ranges m_nodes m_at m_flags m_fault m_place m_numbered m_depth m_value m_isNot m_least0 m_most0 m_slot (wk - 1) g2 rm2 m_charAt m_charWide m_trail m_isMatch m_matchGroups m_allFrom m_allBefore m_founds m_pieces m_writtenMany m_templateWide m_tooMuch Tq Nq Wq CAq CMq CLq CHq SNq CCq ROq WPq WDq WTq WGq WSq K O Fi Be Le Mo Z LZ SM SA RL RH ns → fsm WP WD WT WG WS WPq WDq WTq WGq WSq (wk - 1) → ran m_slot rm rm2 T N W CA CM CL CH SN CC RO Tq Nq Wq CAq CMq CLq CHq SNq CCq ROq → (2 * SNq m_slot ≤ 2 * SN m_slot + (cs (Z x) dp) ∧ rm2 ≤ rm + 2 * (Z x) ∧ CCq m_slot ≤ CC m_slot + (Z x)) → (0 ≤ g2 ∧ g2 + 32 ≤ 32 * rm2) → rokk ROq g2 (dp + 1) (SNq m_slot) → RRo Tq Nq Wq CAq CMq CLq CHq ROq m_slot (SN m_slot) (SNq m_slot) (CCq m_slot) dp to g2 (dm x) → fx o o [280, 318, 319, 320, 321, 322, 323, 324, 317, 325, 333, 328, 329, 330, 331, 332] G0 G2 → G2.length = G0.length → ab_slots G2 = ab_slots G0 → ab_W X (ab_pl y_MO_compile b_MO_compile 6 (some (.int))) d G2 280 [some (vR 80), some (vz sc), none, none, none, none] [] Q) → ab_W X (ab_pl y_MO_compile b_MO_compile 6 (some (.int))) d G 280 [some (vR 80), some (vz sc), none, none, none, none] [] Q) {x dp : Int} (hxx : 0 ≤ x ∧ x < nd) (hst : st x < n + 1) (hk : K x = 7) (hmo : 0 ≤ Mo x) (hz1 : 1 ≤ Z x) (hz4 : Z (Fi x) ≤ 400) (hd0 : 0 ≤ dp ∧ dp + ht x ≤ 31) : ∀ (r : Nat) {G : ab_G} {T N W CA CM CL CH SN CC RO WP WD WT WG WS : Int → Int} {wk gt rm lo : Int} {j_ : Nat}, (mcc o G m_thrown m_taped m_length m_out m_wide m_gathered m_sets m_ranges m_nodes m_at m_flags m_fault m_place m_numbered m_depth m_value m_isNot m_least0 m_most0 m_slot wk gt rm m_charAt m_charWide m_trail m_isMatch m_matchGroups m_allFrom m_allBefore m_founds m_pieces m_writtenMany m_templateWide m_tooMuch T N W CA CM CL CH SN CC RO WP WD WT WG WS K O Fi Be Le Mo Z LZ SM SA RL RH ns) → (WP (wk - 1) = x) → (WD (wk - 1) = dp) → (0 ≤ WT (wk - 1) ∧ WT (wk - 1) + 32 ≤ 32 * rm) → (rokk RO (WT (wk - 1)) (dp + 1) (SN m_slot)) → (Mo x - Le x - WS (wk - 1) = (r : Int) ∧ 1 ≤ WS (wk - 1)) → (1 ≤ wk ∧ wk + hh x ≤ 299) → (2 ≤ SN m_slot) → (2 * SN m_slot + ((Mo x - WS (wk - 1)) * cs (Z (Fi x)) dp + ((r : Int) + 1) * (2 * (dp + 1))) ≤ 25000 ∧ rm + 2 * ((Mo x - WS (wk - 1)) * Z (Fi x) + ((r : Int) + 1)) ≤ 1250 ∧ CC m_slot + ((Mo x - WS (wk - 1)) * Z (Fi x) + ((r : Int) + 1)) ≤ 600) → (0 ≤ gt ∧ gt + 32 ≤ 32 * rm) → (rokk RO gt (dp + 1) (SN m_slot)) → (0 ≤ WG (wk - 1) ∧ WG (wk - 1) + 32 ≤ 32 * rm) → (RRo T N W CA CM CL CH RO m_slot lo (SN m_slot) (CC m_slot) dp (WT (wk - 1)) (WG (wk - 1)) (mnU (LZ x) (dm (Fi x)) j_)) → (RRo T N W CA CM CL CH RO m_slot lo (SN m_slot) (CC m_slot) dp (WG (wk - 1)) gt (dm (Fi x))) → (lo ≤ SN m_slot ∧ WS (wk - 1) = (j_ : Int) + 1) → (fx o o [280, 318, 319, 320, 321, 322, 323, 324, 317, 325, 333, 328, 329, 330, 331, 332] G0 G) → (G.length = G0.length) → (ab_slots G = ab_slots G0) → (∀ (G2 : ab_G) (Tq Nq Wq CAq CMq CLq CHq SNq CCq ROq WPq WDq WTq WGq WSq : Int → Int) (g2 rm2 : Int), mcc o G2 m_thrown m_taped m_length m_out m_wide m_gathered m_sets m_ranges m_nodes m_at m_flags m_fault m_place m_numbered m_depth m_value m_isNot m_least0 m_most0 m_slot (wk - 1) g2 rm2 m_charAt m_charWide m_trail m_isMatch m_matchGroups m_allFrom m_allBefore m_founds m_pieces m_writtenMany m_templateWide m_tooMuch Tq Nq Wq CAq CMq CLq CHq SNq CCq ROq WPq WDq WTq WGq WSq K O Fi Be Le Mo Z LZ SM SA RL RH ns → fsm WP WD WT WG WS WPq WDq WTq WGq WSq (wk - 1) → ran m_slot rm rm2 T N W CA CM CL CH SN CC RO Tq Nq Wq CAq CMq CLq CHq SNq CCq ROq → (2 * SNq m_slot ≤ 2 * SN m_slot + (((Mo x - WS (wk - 1)) * cs (Z (Fi x)) dp + ((r : Int) + 1) * (2 * (dp + 1)))) ∧ rm2 ≤ rm + 2 * (((Mo x - WS (wk - 1)) * Z (Fi x) + ((r : Int) + 1))) ∧ CCq m_slot ≤ CC m_slot + (((Mo x - WS (wk - 1)) * Z (Fi x) + ((r : Int) + 1)))) → (0 ≤ g2 ∧ g2 + 32 ≤ 32 * rm2) → rokk ROq g2 (dp + 1) (SNq m_slot) → RRo Tq Nq Wq CAq CMq CLq CHq ROq m_slot lo (SNq m_slot) (CCq m_slot) dp (WT (wk - 1)) g2 (mnN (dm (Fi x)) (mnU (LZ x) (dm (Fi x)) (Mo x - Le x).toNat) (Le x).toNat) → fx o o [280, 318, 319, 320, 321, 322, 323, 324, 317, 325, 333, 328, 329, 330, 331, 332] G0 G2 → G2.length = G0.length → ab_slots G2 = ab_slots G0 → ab_W X (ab_pl y_MO_compile b_MO_compile 6 (some (.int))) d G2 280 [some (vR 80), some (vz sc), none, none, none, none] [] Q) → ab_W X (ab_pl y_MO_compile b_MO_compile 6 (some (.int))) d G 280 [some (vR 80), some (vz sc), none, none, none, none] [] Q := by
  obtain ⟨hAx, hHx, hCx⟩ := jG.2.1 x hxx.1 hxx.2
  have hh0 : 0 ≤ ht x ∧ 0 ≤ hh x := ⟨hHx.2.1.1, hHx.2.1.2.1⟩
  have hh1 := hHx.2.1.2.2 (by omega)
  obtain ⟨⟨kf0, kf1, kf2⟩, kl, km, klm, _, kz2⟩ := hCx.2.2.2.2.2.2.2.2 hk
  have klm := klm hmo
  have hzc := hAx.1
  obtain ⟨hA, hH, hC⟩ := jG.2.1 (Fi x) kf0 kf1
  have hc0 : 0 ≤ ht (Fi x) ∧ 0 ≤ hh (Fi x) := ⟨hH.2.1.1, hH.2.1.2.1⟩
  have hz := hA.1
  have h3 := hH.2.2 (by omega)
  rw [kf2] at h3
  obtain ⟨h31, h32, h33, _⟩ := h3
  clear kz2
  have cn2 := cs_nn (z := Z (Fi x)) (d := dp) hz.1
  intro r
  induction r with
  | zero =>
    intro G T N W CA CM CL CH SN CC RO WP WD WT WG WS wk gt rm lo j_ hM hx hdp ht0 jt hj hw hs2 hb hg jr hwg hm0 hm1 hlo hfr hlen hsl k
    subst hdp
    have p0 : 0 ≤ (Mo x - WS (wk - 1)) * Z (Fi x) := Int.mul_nonneg (by omega) hz.1
    have p1c : 0 ≤ (Mo x - WS (wk - 1)) * cs (Z (Fi x)) (WD (wk - 1)) := Int.mul_nonneg (by omega) cn2
    have ed : (((0 : Nat) : Int) + 1) * (2 * (WD (wk - 1) + 1)) = ((0 : Nat) : Int) * (2 * (WD (wk - 1) + 1)) + 2 * (WD (wk - 1) + 1) := by rw [Int.add_mul, Int.one_mul]
    have pd : 0 ≤ ((0 : Nat) : Int) * (2 * (WD (wk - 1) + 1)) := Int.mul_nonneg (by omega) (by omega)
    refine t_Repeat_s (m_work := wk) (m_got := gt) (m_rowMany := rm) (sc := sc) (nd := nd) hM (cx := by rw [hx]; refine ⟨?_, ?_, ?_, ?_, ?_, ?_, ?_, ?_⟩ <;> omega) (jto := jt) (jgo := jr) (cgo := hg) (ck := by rw [hx]; exact hk) (cfi := by rw [hx]; exact ⟨kf0, kf1⟩) (clm := by rw [hx]; omega) (cs0 := by rw [hx]; omega) (cmo := by rw [hx]; omega) (crs := by omega) (czz := by rw [hx]; exact hz1) (cwk := by omega) (by omega) hfr hlen hsl (fun G2 g2 WP2 WD2 WT2 WG2 WS2 RO2 T2 N2 W2 SN2 m2 q1 q2 q3 q4 q5 q6 q7 q8 q9 q10 q11 f1 f2 f3 => ?_) (fun G2 c2 t2 u2 WP2 WD2 WT2 WG2 WS2 RO2 T2 N2 W2 SN2 m2 q1 q2 q3 q4 q5 q6 q7 q8 q9 q10 q11 q12 q13 q14 q15 q16 q17 q18 q19 q20 q21 q22 q23 f1 f2 f3 => ?_)
    · rw [hx] at q3 q11
      subst q2
      have rn := ran_new (rm := rm) (CC := CC) (CL := CL) (CH := CH) q4.1 q5 q6 q7 q8
      have hU := RRo_U (j := j_) rfl ((q11.rs2 q5 (by omega) (by omega)).wd hlo.1 (Int.le_refl _)) (hm1.rn rn (Int.le_refl _) (Int.le_refl _) ⟨by omega, by omega⟩ (Int.le_refl _)) (hm0.rn rn (Int.le_refl _) (Int.le_refl _) ⟨by omega, by omega⟩ (Int.le_refl _)) (by omega)
      exact k G2 T2 N2 W2 CA CM CL CH SN2 CC RO2 WP2 WD2 WT2 WG2 WS2 _ (rm + 1) m2 q1 rn (by omega) (by omega) q10 (by rw [show (Mo x - Le x).toNat = j_ + 1 by omega, show (Le x).toNat = 0 by omega]; exact RRo_N0 hU) f1 f2 f3
    · rw [hx] at q12 q15 q23
      subst q12
      have ew : wk + 1 - 1 = wk := by omega
      have rn := ran_new (rm := rm) (CC := CC) (CL := CL) (CH := CH) q16.1 q17 q18 q19 q20
      have hU := RRo_U (j := j_) rfl ((q23.rs2 q17 (by omega) (by omega)).wd hlo.1 (Int.le_refl _)) (hm1.rn rn (Int.le_refl _) (Int.le_refl _) ⟨by omega, by omega⟩ (Int.le_refl _)) (hm0.rn rn (Int.le_refl _) (Int.le_refl _) ⟨by omega, by omega⟩ (Int.le_refl _)) (by omega)
      have es : (Mo x - WS (wk - 1)) * Z (Fi x) = (Mo x - WS (wk - 1) - 1) * Z (Fi x) + Z (Fi x) := by rw [Int.sub_mul (Mo x - WS (wk - 1)), Int.one_mul]; omega
      have ec : (Mo x - WS (wk - 1)) * cs (Z (Fi x)) (WD (wk - 1)) = (Mo x - WS (wk - 1) - 1) * cs (Z (Fi x)) (WD (wk - 1)) + cs (Z (Fi x)) (WD (wk - 1)) := by rw [Int.sub_mul (Mo x - WS (wk - 1)), Int.one_mul]; omega
      have pn : 0 ≤ (Mo x - WS (wk - 1) - 1) * Z (Fi x) := Int.mul_nonneg (by omega) hz.1
      have pr : 0 ≤ (Mo x - WS (wk - 1) - 1) * cs (Z (Fi x)) (WD (wk - 1)) := Int.mul_nonneg (by omega) cn2
      refine ih (x := Fi x) (dp := WD (wk - 1)) (to := 32 * rm) m2 (by rw [ew]; exact q2) (by rw [ew]; exact q3) (by rw [ew, q4]; exact q13) (by rw [ew, q5]; exact q13) (by rw [ew]; exact q6) ⟨⟨kf0, kf1⟩, by omega, by omega, by omega, by omega⟩ (by omega) (by omega) q22 f1 f2 f3 (fun G3 T3 N3 W3 CA3 CM3 CL3 CH3 SN3 CC3 RO3 WP3 WD3 WT3 WG3 WS3 g3 rm3 m3 s3 r3 n3 v3 o3 b3_ f4 f5 f6 => ?_)
      rw [ew] at m3 s3
      obtain ⟨e2, e3, e4, e5, e6⟩ := s3 (wk - 1) (by omega)
      have r31 := r3.1
      have ej : WS3 (wk - 1) = WS (wk - 1) + 1 := by rw [e6]; exact q11
      have et : WT3 (wk - 1) = WT (wk - 1) := by rw [e4]; exact q9
      have j3 : rokk RO3 (WT (wk - 1)) (WD (wk - 1) + 1) (SN3 m_slot) := rokk_w (rokk_o jt (ran_tr rn r3).2.1 (by omega)) (Int.le_refl _) (by omega)
      obtain ⟨r2, hr2⟩ : ∃ r2 : Nat, Mo x - WS (wk - 1) - 1 = (r2 : Int) := ⟨(Mo x - WS (wk - 1) - 1).toNat, by omega⟩
      rw [hr2] at es ec pn pr
      have hN := RRo_N (w := mnU (LZ x) (dm (Fi x)) (j_ + 1)) (j := 0) rfl (b3_.wd (by omega)) ((RRo_N0 hU).rn r3 (Int.le_refl _) (Int.le_refl _) ⟨by omega, by omega⟩ (Int.le_refl _)) (by omega)
      refine mr_copies (lo := lo) (w_ := mnU (LZ x) (dm (Fi x)) (j_ + 1)) (j_ := 0 + 1) (tot := Mo x) jG hnd hd jM jv ih hxx hst hk hz1 hz4 hd0 (Or.inr ⟨hmo, rfl⟩) r2 m3 (by rw [e2, q7]; exact hx) (by rw [e3, q8]) (by rw [et]; omega) (by omega) (Or.inr ⟨hmo, by omega, by omega⟩) hw (by omega) (by omega) v3 o3 (by rw [et]; exact hN) (by omega) f4 f5 f6 (fun G4 T4 N4 W4 CA4 CM4 CL4 CH4 SN4 CC4 RO4 WP4 WD4 WT4 WG4 WS4 g4 rm4 m4 s4 r4 n4 v4 o4 b5_ f7 f8 f9 => ?_)
      rw [et, show 0 + 1 + r2 = (Le x).toNat by omega, show j_ + 1 = (Mo x - Le x).toNat by omega] at b5_
      exact k G4 T4 N4 W4 CA4 CM4 CL4 CH4 SN4 CC4 RO4 WP4 WD4 WT4 WG4 WS4 g4 rm4 m4 (fsm_tr (fsm_tr q1 s3 (by omega)) s4 (by omega)) (ran_tr (ran_tr rn r3) r4) (by omega) v4 o4 b5_ f7 f8 f9
  | succ r ihr =>
    intro G T N W CA CM CL CH SN CC RO WP WD WT WG WS wk gt rm lo j_ hM hx hdp ht0 jt hj hw hs2 hb hg jr hwg hm0 hm1 hlo hfr hlen hsl k
    subst hdp
    have p0 : 0 ≤ (Mo x - WS (wk - 1)) * Z (Fi x) := Int.mul_nonneg (by omega) hz.1
    have p1c : 0 ≤ (Mo x - WS (wk - 1)) * cs (Z (Fi x)) (WD (wk - 1)) := Int.mul_nonneg (by omega) cn2
    have ed : (((r + 1 : Nat) : Int) + 1) * (2 * (WD (wk - 1) + 1)) = ((r + 1 : Nat) : Int) * (2 * (WD (wk - 1) + 1)) + 2 * (WD (wk - 1) + 1) := by rw [Int.add_mul, Int.one_mul]
    have pd : 0 ≤ ((r + 1 : Nat) : Int) * (2 * (WD (wk - 1) + 1)) := Int.mul_nonneg (by omega) (by omega)
    refine t_Repeat_s (m_work := wk) (m_got := gt) (m_rowMany := rm) (sc := sc) (nd := nd) hM (cx := by rw [hx]; refine ⟨?_, ?_, ?_, ?_, ?_, ?_, ?_, ?_⟩ <;> omega) (jto := jt) (jgo := jr) (cgo := hg) (ck := by rw [hx]; exact hk) (cfi := by rw [hx]; exact ⟨kf0, kf1⟩) (clm := by rw [hx]; omega) (cs0 := by rw [hx]; omega) (cmo := by rw [hx]; omega) (crs := by omega) (czz := by rw [hx]; exact hz1) (cwk := by omega) (by omega) hfr hlen hsl (fun G2 g2 WP2 WD2 WT2 WG2 WS2 RO2 T2 N2 W2 SN2 m2 q1 q2 q3 q4 q5 q6 q7 q8 q9 q10 q11 f1 f2 f3 => ?_) (fun G2 c2 t2 u2 WP2 WD2 WT2 WG2 WS2 RO2 T2 N2 W2 SN2 m2 q1 q2 q3 q4 q5 q6 q7 q8 q9 q10 q11 q12 q13 q14 q15 q16 q17 q18 q19 q20 q21 q22 q23 f1 f2 f3 => ?_)
    · rw [hx] at q3 q11
      subst q2
      have rn := ran_new (rm := rm) (CC := CC) (CL := CL) (CH := CH) q4.1 q5 q6 q7 q8
      have hU := RRo_U (j := j_) rfl ((q11.rs2 q5 (by omega) (by omega)).wd hlo.1 (Int.le_refl _)) (hm1.rn rn (Int.le_refl _) (Int.le_refl _) ⟨by omega, by omega⟩ (Int.le_refl _)) (hm0.rn rn (Int.le_refl _) (Int.le_refl _) ⟨by omega, by omega⟩ (Int.le_refl _)) (by omega)
      exact k G2 T2 N2 W2 CA CM CL CH SN2 CC RO2 WP2 WD2 WT2 WG2 WS2 _ (rm + 1) m2 q1 rn (by omega) (by omega) q10 (by rw [show (Mo x - Le x).toNat = j_ + 1 by omega, show (Le x).toNat = 0 by omega]; exact RRo_N0 hU) f1 f2 f3
    · rw [hx] at q12 q15 q23
      subst q12
      have ew : wk + 1 - 1 = wk := by omega
      have rn := ran_new (rm := rm) (CC := CC) (CL := CL) (CH := CH) q16.1 q17 q18 q19 q20
      have hU := RRo_U (j := j_) rfl ((q23.rs2 q17 (by omega) (by omega)).wd hlo.1 (Int.le_refl _)) (hm1.rn rn (Int.le_refl _) (Int.le_refl _) ⟨by omega, by omega⟩ (Int.le_refl _)) (hm0.rn rn (Int.le_refl _) (Int.le_refl _) ⟨by omega, by omega⟩ (Int.le_refl _)) (by omega)
      have es : (Mo x - WS (wk - 1)) * Z (Fi x) = (Mo x - WS (wk - 1) - 1) * Z (Fi x) + Z (Fi x) := by rw [Int.sub_mul (Mo x - WS (wk - 1)), Int.one_mul]; omega
      have ec : (Mo x - WS (wk - 1)) * cs (Z (Fi x)) (WD (wk - 1)) = (Mo x - WS (wk - 1) - 1) * cs (Z (Fi x)) (WD (wk - 1)) + cs (Z (Fi x)) (WD (wk - 1)) := by rw [Int.sub_mul (Mo x - WS (wk - 1)), Int.one_mul]; omega
      have pn : 0 ≤ (Mo x - WS (wk - 1) - 1) * Z (Fi x) := Int.mul_nonneg (by omega) hz.1
      have pr : 0 ≤ (Mo x - WS (wk - 1) - 1) * cs (Z (Fi x)) (WD (wk - 1)) := Int.mul_nonneg (by omega) cn2
      refine ih (x := Fi x) (dp := WD (wk - 1)) (to := 32 * rm) m2 (by rw [ew]; exact q2) (by rw [ew]; exact q3) (by rw [ew, q4]; exact q13) (by rw [ew, q5]; exact q13) (by rw [ew]; exact q6) ⟨⟨kf0, kf1⟩, by omega, by omega, by omega, by omega⟩ (by omega) (by omega) q22 f1 f2 f3 (fun G3 T3 N3 W3 CA3 CM3 CL3 CH3 SN3 CC3 RO3 WP3 WD3 WT3 WG3 WS3 g3 rm3 m3 s3 r3 n3 v3 o3 b3_ f4 f5 f6 => ?_)
      rw [ew] at m3 s3
      obtain ⟨e2, e3, e4, e5, e6⟩ := s3 (wk - 1) (by omega)
      have r31 := r3.1
      have ej : WS3 (wk - 1) = WS (wk - 1) + 1 := by rw [e6]; exact q11
      have et : WT3 (wk - 1) = WT (wk - 1) := by rw [e4]; exact q9
      have j3 : rokk RO3 (WT (wk - 1)) (WD (wk - 1) + 1) (SN3 m_slot) := rokk_w (rokk_o jt (ran_tr rn r3).2.1 (by omega)) (Int.le_refl _) (by omega)
      have ep : Mo x - WS3 (wk - 1) = Mo x - WS (wk - 1) - 1 := by omega
      have ek : ((r : Int) + 1) * (2 * (WD (wk - 1) + 1)) = ((r + 1 : Nat) : Int) * (2 * (WD (wk - 1) + 1)) := by rw [show ((r + 1 : Nat) : Int) = (r : Int) + 1 by omega]
      have eg : WG3 (wk - 1) = 32 * rm := by rw [e5, q10]; exact q14
      refine ihr (lo := lo) (j_ := j_ + 1) m3 (by rw [e2, q7]; exact hx) (by rw [e3, q8]) (by rw [et]; omega) (by rw [et]; exact j3) (by omega) hw (by omega) (by rw [ep]; omega) v3 o3 (by rw [eg]; omega) (by rw [et, eg]; exact hU.rn r3 (Int.le_refl _) (Int.le_refl _) ⟨by omega, by omega⟩ (Int.le_refl _)) (by rw [eg]; exact b3_.wd (by omega)) (by omega) f4 f5 f6 (fun G4 T4 N4 W4 CA4 CM4 CL4 CH4 SN4 CC4 RO4 WP4 WD4 WT4 WG4 WS4 g4 rm4 m4 s4 r4 n4 v4 o4 b5_ f7 f8 f9 => ?_)
      rw [ep] at n4
      rw [et] at b5_
      exact k G4 T4 N4 W4 CA4 CM4 CL4 CH4 SN4 CC4 RO4 WP4 WD4 WT4 WG4 WS4 g4 rm4 m4 (fsm_tr (fsm_tr q1 s3 (by omega)) s4 (by omega)) (ran_tr (ran_tr rn r3) r4) (by omega) v4 o4 b5_ f7 f8 f9
set_option maxRecDepth 100000 in
set_option maxHeartbeats 4000000 in
theorem mr_rep (jG : rtG K O Fi Be Le Mo Z SM QF QL AF AL SD nd ns 0 pa po MN dl st ht hh PS T_) (hnd : nd ≤ 4200) (hd : 20 ≤ d) (jM : rtM K O Fi Be Le Mo LZ SV nd pa po dl dm pm) (jv : svR SA SM RL RH SV ns rg) {n : Int} (ih : ∀ {G : ab_G} {T N W CA CM CL CH SN CC RO WP WD WT WG WS : Int → Int} {wk gt rm x dp to : Int}, (mcc o G m_thrown m_taped m_length m_out m_wide m_gathered m_sets m_ranges m_nodes m_at m_flags m_fault m_place m_numbered m_depth m_value m_isNot m_least0 m_most0 m_slot wk gt rm m_charAt m_charWide m_trail m_isMatch m_matchGroups m_allFrom m_allBefore m_founds m_pieces m_writtenMany m_templateWide m_tooMuch T N W CA CM CL CH SN CC RO WP WD WT WG WS K O Fi Be Le Mo Z LZ SM SA RL RH ns) → (WP (wk - 1) = x) → (WD (wk - 1) = dp) → (WT (wk - 1) = to) → (WG (wk - 1) = to) → (WS (wk - 1) = 0) → ((0 ≤ x ∧ x < nd) ∧ (1 ≤ wk ∧ wk + hh x ≤ 299) ∧ (0 ≤ dp ∧ dp + ht x ≤ 31) ∧ (0 ≤ to ∧ to + 32 ≤ 32 * rm) ∧ 2 ≤ SN m_slot) → (st x < n) → (2 * SN m_slot + cs (Z x) dp ≤ 25000 ∧ rm + 2 * Z x ≤ 1250 ∧ CC m_slot + Z x ≤ 600 ∧ Z x ≤ 400) → (rokk RO to (dp + 1) (SN m_slot)) → (fx o o [280, 318, 319, 320, 321, 322, 323, 324, 317, 325, 333, 328, 329, 330, 331, 332] G0 G) → (G.length = G0.length) → (ab_slots G = ab_slots G0) → (∀ (G2 : ab_G) (Tq Nq Wq CAq CMq CLq CHq SNq CCq ROq WPq WDq WTq WGq WSq : Int → Int) (g2 rm2 : Int), mcc o G2 m_thrown m_taped m_length m_out m_wide m_gathered m_sets m_ranges m_nodes m_at m_flags m_fault m_place m_numbered m_depth m_value m_isNot m_least0 m_most0 m_slot (wk - 1) g2 rm2 m_charAt m_charWide m_trail m_isMatch m_matchGroups m_allFrom m_allBefore m_founds m_pieces m_writtenMany m_templateWide m_tooMuch Tq Nq Wq CAq CMq CLq CHq SNq CCq ROq WPq WDq WTq WGq WSq K O Fi Be Le Mo Z LZ SM SA RL RH ns → fsm WP WD WT WG WS WPq WDq WTq WGq WSq (wk - 1) → ran m_slot rm rm2 T N W CA CM CL CH SN CC RO Tq Nq Wq CAq CMq CLq CHq SNq CCq ROq → (2 * SNq m_slot ≤ 2 * SN m_slot + (cs (Z x) dp) ∧ rm2 ≤ rm + 2 * (Z x) ∧ CCq m_slot ≤ CC m_slot + (Z x)) → (0 ≤ g2 ∧ g2 + 32 ≤ 32 * rm2) → rokk ROq g2 (dp + 1) (SNq m_slot) → RRo Tq Nq Wq CAq CMq CLq CHq ROq m_slot (SN m_slot) (SNq m_slot) (CCq m_slot) dp to g2 (dm x) → fx o o [280, 318, 319, 320, 321, 322, 323, 324, 317, 325, 333, 328, 329, 330, 331, 332] G0 G2 → G2.length = G0.length → ab_slots G2 = ab_slots G0 → ab_W X (ab_pl y_MO_compile b_MO_compile 6 (some (.int))) d G2 280 [some (vR 80), some (vz sc), none, none, none, none] [] Q) → ab_W X (ab_pl y_MO_compile b_MO_compile 6 (some (.int))) d G 280 [some (vR 80), some (vz sc), none, none, none, none] [] Q) {G : ab_G} {T N W CA CM CL CH SN CC RO WP WD WT WG WS : Int → Int} {wk gt rm x dp to : Int} (hM : mcc o G m_thrown m_taped m_length m_out m_wide m_gathered m_sets m_ranges m_nodes m_at m_flags m_fault m_place m_numbered m_depth m_value m_isNot m_least0 m_most0 m_slot wk gt rm m_charAt m_charWide m_trail m_isMatch m_matchGroups m_allFrom m_allBefore m_founds m_pieces m_writtenMany m_templateWide m_tooMuch T N W CA CM CL CH SN CC RO WP WD WT WG WS K O Fi Be Le Mo Z LZ SM SA RL RH ns) (hx : WP (wk - 1) = x) (hdp : WD (wk - 1) = dp) (hto : WT (wk - 1) = to) (hwg : WG (wk - 1) = to) (hws : WS (wk - 1) = 0) (c1 : (0 ≤ x ∧ x < nd) ∧ (1 ≤ wk ∧ wk + hh x ≤ 299) ∧ (0 ≤ dp ∧ dp + ht x ≤ 31) ∧ (0 ≤ to ∧ to + 32 ≤ 32 * rm) ∧ 2 ≤ SN m_slot) (c2_ : st x < n + 1) (c3 : 2 * SN m_slot + cs (Z x) dp ≤ 25000 ∧ rm + 2 * Z x ≤ 1250 ∧ CC m_slot + Z x ≤ 600 ∧ Z x ≤ 400) (jr : rokk RO to (dp + 1) (SN m_slot)) (hfr : fx o o [280, 318, 319, 320, 321, 322, 323, 324, 317, 325, 333, 328, 329, 330, 331, 332] G0 G) (hlen : G.length = G0.length) (hsl : ab_slots G = ab_slots G0) (k : ∀ (G2 : ab_G) (Tq Nq Wq CAq CMq CLq CHq SNq CCq ROq WPq WDq WTq WGq WSq : Int → Int) (g2 rm2 : Int), mcc o G2 m_thrown m_taped m_length m_out m_wide m_gathered m_sets m_ranges m_nodes m_at m_flags m_fault m_place m_numbered m_depth m_value m_isNot m_least0 m_most0 m_slot (wk - 1) g2 rm2 m_charAt m_charWide m_trail m_isMatch m_matchGroups m_allFrom m_allBefore m_founds m_pieces m_writtenMany m_templateWide m_tooMuch Tq Nq Wq CAq CMq CLq CHq SNq CCq ROq WPq WDq WTq WGq WSq K O Fi Be Le Mo Z LZ SM SA RL RH ns → fsm WP WD WT WG WS WPq WDq WTq WGq WSq (wk - 1) → ran m_slot rm rm2 T N W CA CM CL CH SN CC RO Tq Nq Wq CAq CMq CLq CHq SNq CCq ROq → (2 * SNq m_slot ≤ 2 * SN m_slot + (cs (Z x) dp) ∧ rm2 ≤ rm + 2 * (Z x) ∧ CCq m_slot ≤ CC m_slot + (Z x)) → (0 ≤ g2 ∧ g2 + 32 ≤ 32 * rm2) → rokk ROq g2 (dp + 1) (SNq m_slot) → RRo Tq Nq Wq CAq CMq CLq CHq ROq m_slot (SN m_slot) (SNq m_slot) (CCq m_slot) dp to g2 (dm x) → fx o o [280, 318, 319, 320, 321, 322, 323, 324, 317, 325, 333, 328, 329, 330, 331, 332] G0 G2 → G2.length = G0.length → ab_slots G2 = ab_slots G0 → ab_W X (ab_pl y_MO_compile b_MO_compile 6 (some (.int))) d G2 280 [some (vR 80), some (vz sc), none, none, none, none] [] Q) (hk : K x = 7) (hmo : 0 ≤ Mo x) (hz1 : 1 ≤ Z x) : ab_W X (ab_pl y_MO_compile b_MO_compile 6 (some (.int))) d G 280 [some (vR 80), some (vz sc), none, none, none, none] [] Q := by
  obtain ⟨hxx, hw, hd0, ht0, hs2⟩ := c1
  obtain ⟨b1, b2, b3, b4⟩ := c3
  obtain ⟨hAx, hHx, hCx⟩ := jG.2.1 x hxx.1 hxx.2
  have hh0 : 0 ≤ ht x ∧ 0 ≤ hh x := ⟨hHx.2.1.1, hHx.2.1.2.1⟩
  have hh1 := hHx.2.1.2.2 (by omega)
  obtain ⟨⟨kf0, kf1, kf2⟩, kl, km, klm, _, kz2⟩ := hCx.2.2.2.2.2.2.2.2 hk
  have klm := klm hmo
  have hzc := hAx.1
  obtain ⟨hA, hH, hC⟩ := jG.2.1 (Fi x) kf0 kf1
  have hc0 : 0 ≤ ht (Fi x) ∧ 0 ≤ hh (Fi x) := ⟨hH.2.1.1, hH.2.1.2.1⟩
  have hz := hA.1
  have h3 := hH.2.2 (by omega)
  rw [kf2] at h3
  obtain ⟨h31, h32, h33, _⟩ := h3
  have kz := (kz2 hmo).resolve_right (by omega)
  clear kz2
  have dx : dm x = mnR (Le x) (Mo x) (LZ x) (dm (Fi x)) := by rw [(jM.2.2 x hxx.1 hxx.2).2.2.2.2.2.2 hk, show moE (Mo x) = Mo x from if_neg (by omega)]
  subst hdp; subst hto
  have ew : wk + 1 - 1 = wk := by omega
  have cn2 := cs_nn (z := Z (Fi x)) (d := WD (wk - 1)) hz.1
  have cr := cs_rep (x := Z (Fi x)) (d := WD (wk - 1)) (le := Le x) (mo := Mo x) hz.1 (by omega) (by omega)
  have pz : 0 ≤ Mo x * Z (Fi x) := Int.mul_nonneg hmo hz.1
  have cm := cs_mono (a := Mo x * Z (Fi x) + Mo x - Le x) (b := Z x) (d := WD (wk - 1)) (by omega) kz (by omega)
  have cnx := cs_nn (z := Z x) (d := WD (wk - 1)) hzc.1
  refine t_Repeat_f (m_work := wk) (m_got := gt) (m_rowMany := rm) (sc := sc) (nd := nd) hM (cx := by rw [hx]; refine ⟨?_, ?_, ?_, ?_, ?_, ?_, ?_, ?_⟩ <;> omega) (cwg := by rw [hwg]; exact ht0) (ck := by rw [hx]; exact hk) (cfi := by rw [hx]; exact ⟨kf0, kf1⟩) (clm := by rw [hx]; omega) (cs0 := hws) (cmo := by rw [hx]; omega) (czz := by rw [hx]; exact hz1) (cwk := by omega) (by omega) hfr hlen hsl (fun G2 g2 WP2 WD2 WT2 WG2 WS2 m2 q1 q2 q3 f1 f2 f3 => ?_) (fun G2 c2 t2 u2 WP2 WD2 WT2 WG2 WS2 m2 q1 q2 q3 q4 q5 q6 q7 q8 q9 q10 q11 q12 q13 q14 q15 f1 f2 f3 => ?_)
  · rw [hwg] at q2
    rw [hx] at q3
    exact k G2 T N W CA CM CL CH SN CC RO WP2 WD2 WT2 WG2 WS2 g2 rm m2 q1 ran_rf (by omega) (by rw [q2]; exact ht0) (by rw [q2]; exact jr) (by rw [q2, dx, q3, show Le x = 0 by omega, mnR_0]; exact RRo_z nzS_I) f1 f2 f3
  · rw [hx] at q12 q15
    subst q12
    rw [hwg] at q13
    obtain ⟨r, hr⟩ : ∃ r : Nat, Mo x = (r : Int) + 1 := ⟨(Mo x - 1).toNat, by omega⟩
    have es : Mo x * Z (Fi x) = (r : Int) * Z (Fi x) + Z (Fi x) := by rw [hr, Int.add_mul, Int.one_mul]
    have ec : Mo x * cs (Z (Fi x)) (WD (wk - 1)) = (r : Int) * cs (Z (Fi x)) (WD (wk - 1)) + cs (Z (Fi x)) (WD (wk - 1)) := by rw [hr, Int.add_mul, Int.one_mul]
    have pn : 0 ≤ (r : Int) * Z (Fi x) := Int.mul_nonneg (by omega) hz.1
    have pr : 0 ≤ (r : Int) * cs (Z (Fi x)) (WD (wk - 1)) := Int.mul_nonneg (by omega) cn2
    have pd : 0 ≤ (Mo x - Le x) * (2 * (WD (wk - 1) + 1)) := Int.mul_nonneg (by omega) (by omega)
    refine ih (x := Fi x) (dp := WD (wk - 1)) (to := WT (wk - 1)) m2 (by rw [ew]; exact q2) (by rw [ew]; exact q3) (by rw [ew, q4]; exact q13) (by rw [ew, q5]; exact q13) (by rw [ew]; exact q6) ⟨⟨kf0, kf1⟩, by omega, by omega, ht0, hs2⟩ (by omega) (by omega) jr f1 f2 f3 (fun G3 T3 N3 W3 CA3 CM3 CL3 CH3 SN3 CC3 RO3 WP3 WD3 WT3 WG3 WS3 g3 rm3 m3 s3 r3 n3 v3 o3 b3_ f4 f5 f6 => ?_)
    rw [ew] at m3 s3
    obtain ⟨e2, e3, e4, e5, e6⟩ := s3 (wk - 1) (by omega)
    have r31 := r3.1
    have ej : WS3 (wk - 1) = 1 := by rw [e6]; exact q11
    have et : WT3 (wk - 1) = WT (wk - 1) := by rw [e4]; exact q9
    have j3 : rokk RO3 (WT (wk - 1)) (WD (wk - 1) + 1) (SN3 m_slot) := rokk_w (rokk_o jr r3.2.1 (by omega)) (Int.le_refl _) (by omega)
    have eg : WG3 (wk - 1) = WT (wk - 1) := by rw [e5, q10, q14]; exact hwg
    by_cases hx0 : Mo x - Le x = 0
    · have hN := RRo_N (w := mnU (LZ x) (dm (Fi x)) 0) (j := 0) rfl b3_ (RRo_N0 RRo_U0) (by omega)
      refine mr_copies (lo := SN m_slot) (w_ := mnU (LZ x) (dm (Fi x)) 0) (j_ := 0 + 1) (tot := Mo x) jG hnd hd jM jv ih hxx c2_ hk hz1 (by omega) hd0 (Or.inr ⟨hmo, rfl⟩) r m3 (by rw [e2, q7]; exact hx) (by rw [e3, q8]) (by rw [et]; omega) (by omega) (Or.inr ⟨hmo, by omega, by omega⟩) hw (by omega) (by omega) v3 o3 (by rw [et]; exact hN) (by omega) f4 f5 f6 (fun G4 T4 N4 W4 CA4 CM4 CL4 CH4 SN4 CC4 RO4 WP4 WD4 WT4 WG4 WS4 g4 rm4 m4 s4 r4 n4 v4 o4 b5_ f7 f8 f9 => ?_)
      rw [et, show 0 + 1 + r = (Le x).toNat by omega, show (0 : Nat) = (Mo x - Le x).toNat by omega] at b5_
      exact k G4 T4 N4 W4 CA4 CM4 CL4 CH4 SN4 CC4 RO4 WP4 WD4 WT4 WG4 WS4 g4 rm4 m4 (fsm_tr (fsm_tr q1 s3 (by omega)) s4 (by omega)) (ran_tr r3 r4) (by omega) v4 o4 (by rw [dx]; exact RRo_rm kl.1 (by omega) b5_) f7 f8 f9
    · obtain ⟨r2, hr2⟩ : ∃ r2 : Nat, Mo x - Le x = (r2 : Int) + 1 := ⟨(Mo x - Le x - 1).toNat, by omega⟩
      have ep : Mo x - WS3 (wk - 1) = (r : Int) := by omega
      rw [hr2] at cr pd
      refine mr_splits (lo := SN m_slot) (j_ := 0) jG hnd hd jM jv ih hxx c2_ hk hmo hz1 (by omega) hd0 r2 m3 (by rw [e2, q7]; exact hx) (by rw [e3, q8]) (by rw [et]; omega) (by rw [et]; exact j3) (by omega) hw (by omega) (by rw [ep]; omega) v3 o3 (by rw [eg]; omega) (by rw [et, eg]; exact RRo_U0) (by rw [eg]; exact b3_) (by omega) f4 f5 f6 (fun G4 T4 N4 W4 CA4 CM4 CL4 CH4 SN4 CC4 RO4 WP4 WD4 WT4 WG4 WS4 g4 rm4 m4 s4 r4 n4 v4 o4 b5_ f7 f8 f9 => ?_)
      rw [ep] at n4
      rw [et] at b5_
      exact k G4 T4 N4 W4 CA4 CM4 CL4 CH4 SN4 CC4 RO4 WP4 WD4 WT4 WG4 WS4 g4 rm4 m4 (fsm_tr (fsm_tr q1 s3 (by omega)) s4 (by omega)) (ran_tr r3 r4) (by omega) v4 o4 (by rw [dx]; exact RRo_rm kl.1 (by omega) b5_) f7 f8 f9
set_option maxRecDepth 100000 in
set_option maxHeartbeats 4000000 in
theorem mrun (jG : rtG K O Fi Be Le Mo Z SM QF QL AF AL SD nd ns 0 pa po MN dl st ht hh PS T_) (hnd : nd ≤ 4200) (hd : 20 ≤ d) (jM : rtM K O Fi Be Le Mo LZ SV nd pa po dl dm pm) (jv : svR SA SM RL RH SV ns rg) : ∀ (s : Nat), ∀ {G : ab_G} {T N W CA CM CL CH SN CC RO WP WD WT WG WS : Int → Int} {wk gt rm x dp to : Int}, (mcc o G m_thrown m_taped m_length m_out m_wide m_gathered m_sets m_ranges m_nodes m_at m_flags m_fault m_place m_numbered m_depth m_value m_isNot m_least0 m_most0 m_slot wk gt rm m_charAt m_charWide m_trail m_isMatch m_matchGroups m_allFrom m_allBefore m_founds m_pieces m_writtenMany m_templateWide m_tooMuch T N W CA CM CL CH SN CC RO WP WD WT WG WS K O Fi Be Le Mo Z LZ SM SA RL RH ns) → (WP (wk - 1) = x) → (WD (wk - 1) = dp) → (WT (wk - 1) = to) → (WG (wk - 1) = to) → (WS (wk - 1) = 0) → ((0 ≤ x ∧ x < nd) ∧ (1 ≤ wk ∧ wk + hh x ≤ 299) ∧ (0 ≤ dp ∧ dp + ht x ≤ 31) ∧ (0 ≤ to ∧ to + 32 ≤ 32 * rm) ∧ 2 ≤ SN m_slot) → (st x < (s : Int)) → (2 * SN m_slot + cs (Z x) dp ≤ 25000 ∧ rm + 2 * Z x ≤ 1250 ∧ CC m_slot + Z x ≤ 600 ∧ Z x ≤ 400) → (rokk RO to (dp + 1) (SN m_slot)) → (fx o o [280, 318, 319, 320, 321, 322, 323, 324, 317, 325, 333, 328, 329, 330, 331, 332] G0 G) → (G.length = G0.length) → (ab_slots G = ab_slots G0) → (∀ (G2 : ab_G) (Tq Nq Wq CAq CMq CLq CHq SNq CCq ROq WPq WDq WTq WGq WSq : Int → Int) (g2 rm2 : Int), mcc o G2 m_thrown m_taped m_length m_out m_wide m_gathered m_sets m_ranges m_nodes m_at m_flags m_fault m_place m_numbered m_depth m_value m_isNot m_least0 m_most0 m_slot (wk - 1) g2 rm2 m_charAt m_charWide m_trail m_isMatch m_matchGroups m_allFrom m_allBefore m_founds m_pieces m_writtenMany m_templateWide m_tooMuch Tq Nq Wq CAq CMq CLq CHq SNq CCq ROq WPq WDq WTq WGq WSq K O Fi Be Le Mo Z LZ SM SA RL RH ns → fsm WP WD WT WG WS WPq WDq WTq WGq WSq (wk - 1) → ran m_slot rm rm2 T N W CA CM CL CH SN CC RO Tq Nq Wq CAq CMq CLq CHq SNq CCq ROq → (2 * SNq m_slot ≤ 2 * SN m_slot + (cs (Z x) dp) ∧ rm2 ≤ rm + 2 * (Z x) ∧ CCq m_slot ≤ CC m_slot + (Z x)) → (0 ≤ g2 ∧ g2 + 32 ≤ 32 * rm2) → rokk ROq g2 (dp + 1) (SNq m_slot) → RRo Tq Nq Wq CAq CMq CLq CHq ROq m_slot (SN m_slot) (SNq m_slot) (CCq m_slot) dp to g2 (dm x) → fx o o [280, 318, 319, 320, 321, 322, 323, 324, 317, 325, 333, 328, 329, 330, 331, 332] G0 G2 → G2.length = G0.length → ab_slots G2 = ab_slots G0 → ab_W X (ab_pl y_MO_compile b_MO_compile 6 (some (.int))) d G2 280 [some (vR 80), some (vz sc), none, none, none, none] [] Q) → ab_W X (ab_pl y_MO_compile b_MO_compile 6 (some (.int))) d G 280 [some (vR 80), some (vz sc), none, none, none, none] [] Q := by
  intro s
  induction s with
  | zero =>
    intro G T N W CA CM CL CH SN CC RO WP WD WT WG WS wk gt rm x dp to hM hx hdp hto hwg hws c1 c2 c3 jr hfr hlen hsl k
    exfalso
    have := (jG.2.1 x c1.1.1 c1.1.2).2.1.1.1
    omega
  | succ s ih =>
    intro G T N W CA CM CL CH SN CC RO WP WD WT WG WS wk gt rm x dp to hM hx hdp hto hwg hws c1 c2 c3 jr hfr hlen hsl k
    have hs : st x < (s : Int) + 1 := by omega
    have hzz := (jG.2.1 x c1.1.1 c1.1.2).1.1
    have hkk := (jG.2.1 x c1.1.1 c1.1.2).2.2.1
    by_cases z0 : Z x = 0
    · exact mr_leaf jG hnd (by omega) jM jv hM hx hdp hto hwg hws c1 c3 jr hfr hlen hsl k (Or.inl z0)
    by_cases k3 : K x ≤ 3
    · exact mr_leaf jG hnd (by omega) jM jv hM hx hdp hto hwg hws c1 c3 jr hfr hlen hsl k (Or.inr ⟨by omega, k3⟩)
    rcases (show K x = 4 ∨ K x = 5 ∨ K x = 6 ∨ K x = 7 by omega) with q | q | q | q
    · exact mr_row jG hnd hd jM jv ih hM hx hdp hto hwg hws c1 hs c3 jr hfr hlen hsl k q (by omega)
    · exact mr_either jG hnd hd jM jv ih hM hx hdp hto hwg hws c1 hs c3 jr hfr hlen hsl k q (by omega)
    · exact mr_group jG hnd hd jM jv ih hM hx hdp hto hwg hws c1 hs c3 jr hfr hlen hsl k q (by omega)
    · by_cases m0 : Mo x < 0
      · exact mr_star jG hnd hd jM jv ih hM hx hdp hto hwg hws c1 hs c3 jr hfr hlen hsl k q m0 (by omega)
      · exact mr_rep jG hnd hd jM jv ih hM hx hdp hto hwg hws c1 hs c3 jr hfr hlen hsl k q (by omega) (by omega)
end Run
