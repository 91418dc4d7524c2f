/-! what is read hangs on the text alone -/
section Cg
variable {f g : Int → Int} {n : Int}
theorem cg_t (h : ∀ k : Int, 0 ≤ k → k < n → f k = g k) : tpk f n = tpk g n := funext (fun i => by
  unfold tpk
  by_cases c : 0 ≤ i ∧ i < n
  · rw [if_pos c, if_pos c, h i c.1 c.2]
  · rw [if_neg c, if_neg c])
theorem cg_u8 (h : ∀ k : Int, 0 ≤ k → k < n → f k = g k) : u8 f n = u8 g n := funext (fun p => by
  unfold u8
  by_cases c : p < 0 ∨ n ≤ p
  · rw [if_pos c, if_pos c]
  rw [if_neg c, if_neg c, h p (by omega) (by omega)]
  by_cases c2 : p + 2 ≤ n
  · rw [h (p + 1) (by omega) (by omega)]
    by_cases c3 : p + 3 ≤ n
    · rw [h (p + 2) (by omega) (by omega)]
      by_cases c4 : p + 4 ≤ n
      · rw [h (p + 3) (by omega) (by omega)]
      · have e4 : (p + 4 ≤ n) = False := eq_false c4
        simp only [e4, false_and, if_false]
    · have e3 : (p + 3 ≤ n) = False := eq_false c3
      have e4 : (p + 4 ≤ n) = False := eq_false (by omega)
      simp only [e3, e4, false_and, if_false]
  · have e2 : (p + 2 ≤ n) = False := eq_false c2
    have e3 : (p + 3 ≤ n) = False := eq_false (by omega)
    have e4 : (p + 4 ≤ n) = False := eq_false (by omega)
    simp only [e2, e3, e4, false_and, if_false])
theorem cg_num (h : ∀ k : Int, 0 ≤ k → k < n → f k = g k) : numR f n = numR g n := by
  funext b v e
  unfold numR
  rw [cg_t h]
theorem cg_brc (h : ∀ k : Int, 0 ≤ k → k < n → f k = g k) : brc f n = brc g n := by
  funext b v mo e
  unfold brc
  rw [cg_t h, cg_num h]
theorem cg_rep (h : ∀ k : Int, 0 ≤ k → k < n → f k = g k) : repR f n = repR g n := by
  funext p l m e k
  unfold repR
  rw [cg_t h, cg_num h, cg_brc h]
theorem cg_nor (h : ∀ k : Int, 0 ≤ k → k < n → f k = g k) : norp f n = norp g n := by
  funext p
  unfold norp
  rw [cg_rep h]
theorem cg_wl (h : ∀ k : Int, 0 ≤ k → k < n → f k = g k) : wlR f n = wlR g n := by
  funext b le
  unfold wlR
  rw [cg_t h]
theorem cg_nm (h : ∀ k : Int, 0 ≤ k → k < n → f k = g k) : nmR f n = nmR g n := by
  funext b v
  unfold nmR
  rw [cg_t h, cg_wl h]
theorem cg_fs (h : ∀ k : Int, 0 ≤ k → k < n → f k = g k) : ∀ k : Nat, flgS f n k = flgS g n k := by
  intro k
  induction k with
  | zero => rfl
  | succ k ih =>
    funext p on off mi
    unfold flgS
    rw [cg_t h, ih]
theorem cg_fr (h : ∀ k : Int, 0 ≤ k → k < n → f k = g k) : flgR f n = flgR g n := by
  funext p fl v e
  unfold flgR
  rw [cg_fs h]
theorem cg_fn (h : ∀ k : Int, 0 ≤ k → k < n → f k = g k) : noflg f n = noflg g n := by
  funext p
  unfold noflg
  rw [cg_fs h]
theorem cg_hx (h : ∀ k : Int, 0 ≤ k → k < n → f k = g k) : ∀ k : Nat, hxs f n k = hxs g n k := by
  intro k
  induction k with
  | zero => rfl
  | succ k ih =>
    funext p v
    unfold hxs
    rw [cg_t h, ih]
theorem cg_ho (h : ∀ k : Int, 0 ≤ k → k < n → f k = g k) : hexok f n = hexok g n := by
  funext p v q
  unfold hexok
  rw [cg_t h, cg_hx h, cg_hx h]
theorem cg_e1 (h : ∀ k : Int, 0 ≤ k → k < n → f k = g k) : esc1 f n = esc1 g n := by
  funext p v q
  unfold esc1
  rw [cg_t h, cg_ho h]
theorem cg_e2 (h : ∀ k : Int, 0 ≤ k → k < n → f k = g k) : esc2 f n = esc2 g n := by
  funext p q k b
  unfold esc2
  rw [cg_t h]
theorem cg_e3 (h : ∀ k : Int, 0 ≤ k → k < n → f k = g k) : esc3 f n = esc3 g n := by
  funext p w
  unfold esc3
  rw [cg_t h, cg_e1 h, cg_e2 h]
theorem cg_m1 (h : ∀ k : Int, 0 ≤ k → k < n → f k = g k) : mem1 f n = mem1 g n := by
  funext p v q
  unfold mem1
  rw [cg_t h, cg_u8 h, cg_e1 h]
theorem cg_m3 (h : ∀ k : Int, 0 ≤ k → k < n → f k = g k) : mem3 f n = mem3 g n := by
  funext p op w r
  unfold mem3
  rw [cg_t h, cg_u8 h, cg_e3 h, cg_e1 h]
theorem nm7_to (h : ∀ k : Int, 0 ≤ k → k < n → f k = g k) {b c0 c1 c2 c3 c4 : Int} (q : nm7 f n b c0 c1 c2 c3 c4) : nm7 g n b c0 c1 c2 c3 c4 := by
  obtain ⟨h0, h1, a0, a1, a2, a3, a4, a5, a6⟩ := q
  exact ⟨h0, h1, by rw [← h b (by omega) (by omega)]; exact a0, by rw [← h (b + 1) (by omega) (by omega)]; exact a1, by rw [← h (b + 2) (by omega) (by omega)]; exact a2, by rw [← h (b + 3) (by omega) (by omega)]; exact a3, by rw [← h (b + 4) (by omega) (by omega)]; exact a4, by rw [← h (b + 5) (by omega) (by omega)]; exact a5, by rw [← h (b + 6) (by omega) (by omega)]; exact a6⟩
theorem cg_n7 (h : ∀ k : Int, 0 ≤ k → k < n → f k = g k) : nm7 f n = nm7 g n := by
  funext b c0 c1 c2 c3 c4
  exact propext ⟨nm7_to h, nm7_to (fun k a b => (h k a b).symm)⟩
theorem cg_nk (h : ∀ k : Int, 0 ≤ k → k < n → f k = g k) : nmk f n = nmk g n := by
  funext b k
  unfold nmk
  rw [cg_n7 h]
theorem cg_k2 (h : ∀ k : Int, 0 ≤ k → k < n → f k = g k) : nk2 f n = nk2 g n := by
  funext p k b q
  unfold nk2
  rw [cg_t h, cg_nk h]
theorem cg_k3 (h : ∀ k : Int, 0 ≤ k → k < n → f k = g k) : nk3 f n = nk3 g n := by
  funext p
  unfold nk3
  rw [cg_k2 h]
theorem cg_nd (h : ∀ k : Int, 0 ≤ k → k < n → f k = g k) : nkd f n = nkd g n := by
  funext q
  unfold nkd
  rw [cg_t h]
theorem cg_rs (h : ∀ k : Int, 0 ≤ k → k < n → f k = g k) : rsg f n = rsg g n := by
  funext q
  unfold rsg
  rw [cg_t h]
theorem cg_cS (h : ∀ k : Int, 0 ≤ k → k < n → f k = g k) : clS f n = clS g n := by
  funext al q P q2 P2
  unfold clS
  rw [cg_t h, cg_nd h, cg_k2 h, cg_e2 h, cg_m1 h, cg_rs h]
theorem cg_cF (h : ∀ k : Int, 0 ≤ k → k < n → f k = g k) : clF f n = clF g n := by
  funext op q w r
  unfold clF
  rw [cg_t h, cg_nd h, cg_k3 h, cg_e2 h, cg_m1 h, cg_m3 h, cg_rs h]
theorem cg_cK (h : ∀ k : Int, 0 ≤ k → k < n → f k = g k) {al fi : Int} : ∀ k : Nat, clK f n al fi k = clK g n al fi k := by
  intro k
  induction k with
  | zero => rfl
  | succ k ih =>
    funext q P
    unfold clK
    rw [cg_t h, cg_cS h, ih]
theorem cg_cT (h : ∀ k : Int, 0 ≤ k → k < n → f k = g k) : clT f n = clT g n := by
  funext al fi q P
  unfold clT
  rw [funext (cg_cK h)]
theorem cg_cN (h : ∀ k : Int, 0 ≤ k → k < n → f k = g k) : clN f n = clN g n := by
  funext al op fi w r
  unfold clN
  rw [cg_t h, cg_cT h, cg_cF h]
theorem cg_cb (h : ∀ k : Int, 0 ≤ k → k < n → f k = g k) : clb f n = clb g n := by
  funext p no fi
  unfold clb
  rw [cg_t h]
theorem cg_lf (h : ∀ k : Int, 0 ≤ k → k < n → f k = g k) : lfR f n = lfR g n := by
  funext flg p s q
  unfold lfR
  rw [cg_t h, cg_e1 h, cg_e2 h, cg_cb h, cg_cT h, cg_nor h, cg_u8 h]
theorem cg_lF (h : ∀ k : Int, 0 ≤ k → k < n → f k = g k) : lfF f n = lfF g n := by
  funext flg p w r
  unfold lfF
  rw [cg_t h, cg_e3 h, cg_cb h, cg_cN h, cg_nor h, cg_u8 h]
theorem cg_ask (h : ∀ k : Int, 0 ≤ k → k < n → f k = g k) : askR f n = askR g n := by
  funext e p
  unfold askR
  rw [cg_t h]
theorem cg_pP (h : ∀ k : Int, 0 ≤ k → k < n → f k = g k) : ptP f n = ptP g n := by
  funext p flg fr p2 flg2 fr2 s
  unfold ptP
  rw [cg_t h, cg_lf h]
theorem cg_rp (h : ∀ k : Int, 0 ≤ k → k < n → f k = g k) : rpS f n = rpS g n := by
  funext p fr ls p2 fr2
  unfold rpS
  rw [cg_rep h, cg_ask h]
theorem gnm_cg (h : ∀ k : Int, 0 ≤ k → k < n → f k = g k) {na nl : Int → Int} {k b le : Int} (hk : 0 ≤ na k ∧ na k + nl k ≤ n) (hb : 0 ≤ b ∧ b + le ≤ n) : gnm f na nl k b le ↔ gnm g na nl k b le := by
  unfold gnm
  constructor
  · rintro ⟨e, q⟩
    exact ⟨e, fun j j0 j1 => by rw [← h (na k + j) (by omega) (by omega), ← h (b + j) (by omega) (by omega)]; exact q j j0 j1⟩
  · rintro ⟨e, q⟩
    exact ⟨e, fun j j0 j1 => by rw [h (na k + j) (by omega) (by omega), h (b + j) (by omega) (by omega)]; exact q j j0 j1⟩
theorem tkI_cg (h : ∀ k : Int, 0 ≤ k → k < n → f k = g k) {na nl : Int → Int} {grp b le t : Int} (hk : nmok na nl grp n) (hb : 0 ≤ b ∧ b + le ≤ n) (q : tkI f na nl (grp + 1) b le t) : tkI g na nl (grp + 1) b le t := by
  have e : ∀ k : Int, 1 ≤ k → k < grp + 1 → (gnm f na nl k b le ↔ gnm g na nl k b le) := fun k k0 k1 => by
    have t := hk k k0 (by omega)
    exact gnm_cg h (by omega) hb
  rcases q with ⟨q0, q1⟩ | ⟨q0, j, j0, j1, j2⟩
  · exact Or.inl ⟨q0, fun j j0 j1 z => q1 j j0 j1 ((e j j0 j1).mpr z)⟩
  · exact Or.inr ⟨q0, j, j0, j1, (e j j0 j1).mp j2⟩
theorem ptN_cg (h : ∀ k : Int, 0 ≤ k → k < n → f k = g k) {p flg grp p2 flg2 grp2 : Int} {na nl na2 nl2 : Int → Int} {fr fr2 : List Fr} (hk : nmok na nl grp n) (hp : 0 ≤ p ∧ 0 ≤ grp ∧ 0 ≤ n) (q : ptN f n p flg grp na nl fr p2 flg2 grp2 na2 nl2 fr2) : ptN g n p flg grp na nl fr p2 flg2 grp2 na2 nl2 fr2 ∧ nmok na2 nl2 grp2 n ∧ (p ≤ p2 ∧ 0 ≤ grp2) := by
  have ht := cg_t h
  rcases q with ⟨a0, ⟨a1, a2, a3, a4, a5⟩, a6⟩ | ⟨a0, a1, a2, ⟨a3, a4, a5, a6, a7⟩, a8⟩ | ⟨a0, a1, a2, nm, ⟨a3, a4, a5⟩, a6, ⟨a7, a8, a9, a10, a11⟩, a12⟩ | ⟨a0, a1, a2, x, a3, ⟨a4, a5, a6, a7⟩, a8⟩
  · rw [ht] at a0
    exact ⟨Or.inl ⟨a0, ⟨a1, a2, a3, a4, a5⟩, a6⟩, by rw [a4, a5, a3]; exact hk, by omega⟩
  · rw [ht] at a0 a1
    refine ⟨Or.inr (Or.inl ⟨a0, a1, a2, ⟨a3, a4, a5, a6, a7⟩, a8⟩), ?_, by omega⟩
    rw [a6, a7, a5]
    exact nmok_s hk (by omega) (by omega)
  · have w := nmR_w a3
    rw [ht] at a0 a1 a2
    have tk := tkI_cg h hk (by omega) a5
    rw [cg_nm h] at a3
    refine ⟨Or.inr (Or.inr (Or.inl ⟨a0, a1, a2, nm, ⟨a3, a4, tk⟩, a6, ⟨a7, a8, a9, a10, a11⟩, a12⟩)), ?_, by omega⟩
    rw [a10, a11, a9]
    exact nmok_s hk (by omega) (by omega)
  · have w := (flgR_w a3).1
    rw [ht] at a0 a1 a2 a8
    rw [cg_fr h] at a3
    exact ⟨Or.inr (Or.inr (Or.inr ⟨a0, a1, a2, x, a3, ⟨a4, a5, a6, a7⟩, a8⟩)), by rw [a6, a7, a5]; exact hk, by omega⟩
theorem opF_cg (h : ∀ k : Int, 0 ≤ k → k < n → f k = g k) {p flg grp dp w : Int} {na nl : Int → Int} (hk : nmok na nl grp n) (hp : 0 ≤ p) (q : opF f n p flg grp dp na nl w) : opF g n p flg grp dp na nl w := by
  have ht := cg_t h
  rcases q with ⟨a0, a1⟩ | ⟨a0, a1, nm, a2, a3⟩ | ⟨a0, a1, a2⟩
  · rw [ht] at a0
    exact Or.inl ⟨a0, a1⟩
  · have wn := nmR_w a2
    rw [ht] at a0 a1
    rw [cg_nm h] at a2
    refine Or.inr (Or.inl ⟨a0, a1, nm, a2, ?_⟩)
    rcases a3 with y | ⟨y0, y1, y2⟩ | ⟨y0, y1, y2⟩
    · exact Or.inl y
    · exact Or.inr (Or.inl ⟨y0, tkI_cg h hk (by omega) y1, y2⟩)
    · exact Or.inr (Or.inr ⟨y0, tkI_cg h hk (by omega) y1, y2⟩)
  · rw [ht, cg_fn h, cg_fr h] at a2
    rw [ht] at a0 a1
    exact Or.inr (Or.inr ⟨a0, a1, a2⟩)
theorem lfR_up {flg p s q : Int} (q1 : lfR f n flg p s q) : p ≤ q := by
  rcases q1 with ⟨_, v, a1, _⟩ | ⟨_, k, b, a1, _⟩ | ⟨_, no, fi, P, a1, a2, a3, _⟩ | ⟨_, a1, _⟩ | ⟨_, a1, _⟩ | ⟨_, _, _, a3, _⟩
  · have := esc1_w a1; omega
  · have := esc2_w a1; omega
  · unfold clb at a1; omega
  · omega
  · omega
  · have := wd_in (u8 f n p); omega
theorem numR_up {b v e : Int} (q : numR f n b v e) : b ≤ e := (numR_in q).2.2.1
theorem repR_up {p l m e k : Int} (q : repR f n p l m e k) : p < e := by
  rcases q with q | q | q | ⟨_, _, b, q1, _, q2⟩
  · omega
  · omega
  · omega
  · have u := numR_up q1
    rcases q2 with q2 | q2 | ⟨_, _, c, q3, _, _, q4⟩
    · omega
    · omega
    · have := numR_up q3; omega
/-- a step under another text that is the same as far as it goes -/
theorem stp_cg (h : ∀ k : Int, 0 ≤ k → k < n → f k = g k) (hn : 0 ≤ n) {p flg grp rp ls p2 flg2 grp2 rp2 ls2 : Int} {na nl na2 nl2 : Int → Int} {fr fr2 : List Fr} (hk : nmok na nl grp n) (hp : 0 ≤ p ∧ 0 ≤ grp) (q : stp f n (p, flg, grp, na, nl, fr, rp, ls) (p2, flg2, grp2, na2, nl2, fr2, rp2, ls2)) : stp g n (p, flg, grp, na, nl, fr, rp, ls) (p2, flg2, grp2, na2, nl2, fr2, rp2, ls2) ∧ nmok na2 nl2 grp2 n ∧ (0 ≤ p2 ∧ 0 ≤ grp2) := by
  rcases q with ⟨⟨x1, x2, x3, x4, x5, xt, a1, a2⟩, a3, a4, a5, a6⟩ | ⟨a1, a2, a3⟩ | ⟨a0, a1, a2, a3, a4, a5, a6, a7⟩
  · have up : p ≤ p2 := by
      rcases a1 with y | y
      · exact lfR_up y.1
      · have := y.2.1; omega
    rw [cg_pP h] at a1
    exact ⟨Or.inl ⟨⟨x1, x2, x3, x4, x5, xt, a1, a2⟩, a3, a4, a5, a6⟩, by rw [a4, a5, a6]; exact hk, by omega⟩
  · obtain ⟨y1, y2, y3⟩ := ptN_cg h hk ⟨hp.1, hp.2, hn⟩ a1
    exact ⟨Or.inr (Or.inl ⟨y1, a2, a3⟩), y2, by omega⟩
  · have up : p ≤ p2 := by
      obtain ⟨l, m, e, k, a, b, c, d, x, t, b1, b2, b3, _⟩ := a1
      have := repR_up b1
      unfold askR at b3
      omega
    rw [cg_rp h] at a1
    exact ⟨Or.inr (Or.inr ⟨a0, a1, a2, a3, a4, a5, a6, a7⟩), by rw [a5, a6, a7]; exact hk, by omega⟩
theorem rsc_cg (h : ∀ k : Int, 0 ≤ k → k < n → f k = g k) (hn : 0 ≤ n) {fl : Int} : ∀ (k : Nat) (p flg grp rp ls : Int) (na nl : Int → Int) (fr : List Fr), rsc f n fl k (p, flg, grp, na, nl, fr, rp, ls) → rsc g n fl k (p, flg, grp, na, nl, fr, rp, ls) ∧ nmok na nl grp n ∧ (0 ≤ p ∧ 0 ≤ grp) := by
  intro k
  induction k with
  | zero =>
    intro p flg grp rp ls na nl fr q
    have q : (p, flg, grp, na, nl, fr, rp, ls) = st0 fl := q
    refine ⟨q, ?_⟩
    unfold st0 at q
    cases q
    exact ⟨nmok_0, by decide, by decide⟩
  | succ k ih =>
    intro p flg grp rp ls na nl fr q
    obtain ⟨⟨p1, flg1, grp1, na1, nl1, fr1, rp1, ls1⟩, q1, q2⟩ := q
    obtain ⟨y1, y2, y3⟩ := ih _ _ _ _ _ _ _ _ q1
    obtain ⟨z1, z2, z3⟩ := stp_cg h hn y2 y3 q2
    exact ⟨⟨_, y1, z1⟩, z2, z3⟩
theorem rdF_cg (h : ∀ k : Int, 0 ≤ k → k < n → f k = g k) (hn : 0 ≤ n) {fl w r : Int} (q : rdF f n fl w r) : rdF g n fl w r := by
  obtain ⟨k, ⟨p, flg, grp, na, nl, fr, rp, ls⟩, q1, q2⟩ := q
  obtain ⟨y1, y2, y3⟩ := rsc_cg h hn _ _ _ _ _ _ _ _ _ q1
  refine ⟨k, _, y1, ?_⟩
  rcases q2 with ⟨a0, a1⟩ | a | a
  · refine Or.inl ⟨a0, ?_⟩
    rcases a1 with (b | ⟨b0, b1, b2⟩ | b) | ⟨b0, b1, b2⟩ | ⟨b0, b1, b2⟩
    · rw [cg_lF h] at b
      exact Or.inl (Or.inl b)
    · have b1 := opF_cg h y2 y3.1 b1
      rw [cg_t h] at b0
      exact Or.inl (Or.inr (Or.inl ⟨b0, b1, b2⟩))
    · rw [cg_t h] at b
      exact Or.inl (Or.inr (Or.inr b))
    · rw [cg_t h] at b1
      rw [cg_rep h] at b2
      exact Or.inr (Or.inl ⟨b0, b1, b2⟩)
    · rw [cg_rep h] at b1
      exact Or.inr (Or.inr ⟨b0, b1, b2⟩)
  · exact Or.inr (Or.inl a)
  · exact Or.inr (Or.inr a)
theorem rdK_cg (h : ∀ k : Int, 0 ≤ k → k < n → f k = g k) (hn : 0 ≤ n) {fl gr sz : Int} {na nl : Int → Int} (q : rdK f n fl gr sz na nl) : rdK g n fl gr sz na nl ∧ nmok na nl gr n := by
  obtain ⟨k, ⟨p, flg, grp, na', nl', fr, rp, ls⟩, q1, q2⟩ := q
  obtain ⟨y1, y2, y3⟩ := rsc_cg h hn _ _ _ _ _ _ _ _ _ q1
  refine ⟨⟨k, _, y1, q2⟩, ?_⟩
  obtain ⟨_, _, a1, a2, a3⟩ := q2
  rw [a1, a2, a3]
  exact y2
theorem rdC_cg (h : ∀ k : Int, 0 ≤ k → k < n → f k = g k) (hn : 0 ≤ n) {fl gr sz : Int} {NA NL : Int → Int} (q : rdC f n fl gr sz NA NL) : rdC g n fl gr sz NA NL := by
  obtain ⟨na, nl, q1, q2⟩ := q
  exact ⟨na, nl, (rdK_cg h hn q1).1, q2⟩
end Cg
