/-! the class's reading is that of the steps -/
def m16 (x : Fr) : Fr := (x.1, x.2.1 % 16, x.2.2.1, x.2.2.2.1, x.2.2.2.2)
def agr (NA NL na nl : Int → Int) (g : Int) : Prop := ∀ k : Int, 1 ≤ k → k ≤ g → NA k = na k ∧ NL k = nl k
theorem agr_s {NA NL na nl : Int → Int} {g a l : Int} (h : agr NA NL na nl g) : agr (zu NA (g + 1) a) (zu NL (g + 1) l) (zu na (g + 1) a) (zu nl (g + 1) l) (g + 1) := fun k k1 k2 => by
  by_cases e : k = g + 1
  · subst e; rw [zu_self, zu_self, zu_self, zu_self]; exact ⟨rfl, rfl⟩
  · rw [zu_ne e, zu_ne e, zu_ne e, zu_ne e]; exact h k k1 (by omega)
theorem gnm_agr {f NA NL na nl : Int → Int} {g k b le : Int} (h : agr NA NL na nl g) (h1 : 1 ≤ k) (h2 : k ≤ g) : gnm f NA NL k b le ↔ gnm f na nl k b le := by
  obtain ⟨e1, e2⟩ := h k h1 h2
  unfold gnm
  rw [e1, e2]
theorem tkI_agr {f NA NL na nl : Int → Int} {g b le t : Int} (h : agr NA NL na nl g) (q : tkI f NA NL (g + 1) b le t) : tkI f na nl (g + 1) b le t := by
  rcases q with ⟨q0, q1⟩ | ⟨q0, j, j0, j1, j2⟩
  · exact Or.inl ⟨q0, fun j j0 j1 z => q1 j j0 j1 ((gnm_agr h j0 (by omega)).mpr z)⟩
  · exact Or.inr ⟨q0, j, j0, j1, (gnm_agr h j0 (by omega)).mp j2⟩
theorem lfR_16 {f : Int → Int} {n flg p s q : Int} (h : lfR f n flg p s q) : lfR f n (flg % 16) p s q := by
  have e1 : flg % 16 % 2 = flg % 2 := by omega
  have e2 : flg % 16 / 4 % 2 = flg / 4 % 2 := by omega
  unfold lfR at *
  rw [e1, e2]
  exact h
theorem lfF_16 {f : Int → Int} {n flg p w r : Int} (h : lfF f n flg p w r) : lfF f n (flg % 16) p w r := by
  have e1 : flg % 16 % 2 = flg % 2 := by omega
  unfold lfF at *
  rw [e1]
  exact h
theorem flgR_16 {f : Int → Int} {n p flg v e : Int} (hf : 0 ≤ flg ∧ flg ≤ 31) (h : flgR f n p flg v e) : flgR f n p (flg % 16) (v % 16) e := by
  obtain ⟨on, off, mi, h1, h2, h3⟩ := h
  obtain ⟨a, b⟩ := flgS_in _ _ _ _ _ _ _ _ _ (by omega) (by omega) h1
  refine ⟨on, off, mi, h1, h2, ?_⟩
  have t := fl16 flg.toNat (by omega) on.toNat (by omega) off.toNat (by omega)
  rw [h3]
  unfold fland flor
  rw [Int.toNat_natCast, Int.toNat_natCast, show (flg % 16).toNat = flg.toNat % 16 by omega]
  omega
theorem opF_16 {f : Int → Int} {n p flg grp dp w : Int} {NA NL na nl : Int → Int} (hf : 0 ≤ flg ∧ flg ≤ 31) (ha : agr NA NL na nl grp) (h : opF f n p flg grp dp NA NL w) : opF f n p (flg % 16) grp dp na nl w := by
  rcases h with h | ⟨h1, h2, nm, h3, h4⟩ | ⟨h1, h2, h3⟩
  · exact Or.inl h
  · refine Or.inr (Or.inl ⟨h1, h2, nm, h3, ?_⟩)
    rcases h4 with h4 | ⟨h4, h5, h6⟩ | ⟨h4, h5, h6⟩
    · exact Or.inl h4
    · exact Or.inr (Or.inl ⟨h4, tkI_agr ha h5, h6⟩)
    · exact Or.inr (Or.inr ⟨h4, tkI_agr ha h5, h6⟩)
  · refine Or.inr (Or.inr ⟨h1, h2, ?_⟩)
    rcases h3 with h3 | ⟨v, e, h3, h4⟩
    · exact Or.inl h3
    · exact Or.inr ⟨_, e, flgR_16 hf h3, h4⟩
theorem ptP_16 {f : Int → Int} {n p flg p2 flg2 s : Int} {fr fr2 : List Fr} (h : ptP f n p flg fr p2 flg2 fr2 s) : ptP f n p (flg % 16) (fr.map m16) p2 (flg2 % 16) (fr2.map m16) s := by
  rcases h with ⟨h1, h2, h3⟩ | ⟨h1, h2, a, b, c, d, e, h3, h4, h5, h6⟩
  · exact Or.inl ⟨lfR_16 h1, by rw [h2], by rw [h3]⟩
  · exact Or.inr ⟨h1, h2, a, b % 16, c, d, e, by rw [h3]; rfl, by rw [List.length_map]; exact h4, by rw [h5], h6⟩
theorem ptN_16 {f : Int → Int} {n p flg grp p2 flg2 grp2 : Int} {NA NL na nl NA2 NL2 : Int → Int} {fr fr2 : List Fr} (hf : 0 ≤ flg ∧ flg ≤ 31) (ha : agr NA NL na nl grp) (h : ptN f n p flg grp NA NL fr p2 flg2 grp2 NA2 NL2 fr2) : ∃ na2 nl2 : Int → Int, ptN f n p (flg % 16) grp na nl (fr.map m16) p2 (flg2 % 16) grp2 na2 nl2 (fr2.map m16) ∧ agr NA2 NL2 na2 nl2 grp2 := by
  rcases h with ⟨h1, ⟨h2, h3, h4, h5, h6⟩, a, b, c, d, e, t, h7, h8⟩ | ⟨h1, h2, h3, ⟨h4, h5, h6, h7, h8⟩, h9⟩ | ⟨h1, h2, h3, nm, ⟨h4, h5, h6⟩, h7, ⟨h8, h9, h10, h11, h12⟩, h13⟩ | ⟨h1, h2, h3, e, h4, ⟨h5, h6, h7, h8⟩, h9⟩
  · refine ⟨na, nl, Or.inl ⟨h1, ⟨h2, by rw [h3], h4, rfl, rfl⟩, a, b % 16, c, d, e, t.map m16, by rw [h7]; rfl, by rw [h8]; rfl⟩, ?_⟩
    rw [h5, h6, h4]; exact ha
  · refine ⟨_, _, Or.inr (Or.inl ⟨h1, h2, by rw [List.length_map]; exact h3, ⟨h4, by rw [h5], h6, rfl, rfl⟩, by rw [h9]; rfl⟩), ?_⟩
    rw [h7, h8, h6]; exact agr_s ha
  · refine ⟨_, _, Or.inr (Or.inr (Or.inl ⟨h1, h2, h3, nm, ⟨h4, h5, tkI_agr ha h6⟩, by rw [List.length_map]; exact h7, ⟨h8, by rw [h9], h10, rfl, rfl⟩, by rw [h13]; rfl⟩)), ?_⟩
    rw [h11, h12, h10]; exact agr_s ha
  · refine ⟨na, nl, Or.inr (Or.inr (Or.inr ⟨h1, h2, h3, e, flgR_16 hf h4, ⟨h5, h6, rfl, rfl⟩, ?_⟩)), ?_⟩
    · rcases h9 with ⟨q1, q2, q3⟩ | ⟨q1, q2⟩
      · exact Or.inl ⟨q1, by rw [List.length_map]; exact q2, by rw [q3]; rfl⟩
      · exact Or.inr ⟨q1, by rw [q2]⟩
    · rw [h7, h8, h6]; exact ha
theorem ptF_16 {f : Int → Int} {n p flg grp w r : Int} {NA NL na nl : Int → Int} {fr : List Fr} (hf : 0 ≤ flg ∧ flg ≤ 31) (ha : agr NA NL na nl grp) (h : ptF f n p flg grp NA NL fr w r) : ptF f n p (flg % 16) grp na nl (fr.map m16) w r := by
  rcases h with h | ⟨h1, h2, h3⟩ | ⟨h1, h2, h3⟩
  · exact Or.inl (lfF_16 h)
  · exact Or.inr (Or.inl ⟨h1, by rw [List.length_map]; exact opF_16 hf ha h2, h3⟩)
  · exact Or.inr (Or.inr ⟨h1, by rw [List.length_map]; exact h2, h3⟩)
theorem ptV_16 {f : Int → Int} {n p flg p2 : Int} {fr : List Fr} {FS FS2 : List Fs} {v : Sn} (h : ptV f n p flg fr FS p2 FS2 v) : ptV f n p (flg % 16) (fr.map m16) FS p2 FS2 v := by
  rcases h with ⟨h1, h2⟩ | ⟨h0, a, b, c, d, e, t, bo, w, h1, h2, h3⟩
  · exact Or.inl ⟨lfM_16 h1, h2⟩
  · exact Or.inr ⟨h0, a, b % 16, c, d, e, t.map m16, bo, w, by rw [h1]; rfl, h2, h3⟩
theorem ptW_16 {f : Int → Int} {n p : Int} {fr fr2 : List Fr} {FS FS2 : List Fs} (h : ptW f n p fr fr2 FS FS2) : ptW f n p (fr.map m16) (fr2.map m16) FS FS2 := by
  unfold ptW at *
  rw [List.length_map, List.length_map]
  exact h
/-- the bottom frame -/
def bot : List Fr → Prop
  | [] => False
  | (a, _, c, _, _) :: t => match t with
    | [] => a = -1 ∧ c = 0
    | _ :: _ => bot t
theorem bot_up {a b c d e b' d' e' : Int} {t : List Fr} (h : bot ((a, b, c, d, e) :: t)) : bot ((a, b', c, d', e') :: t) := by
  cases t with
  | nil => exact h
  | cons x t => exact h
theorem bot_tl {x : Fr} {t : List Fr} (h : bot (x :: t)) (ht : 1 ≤ t.length) : bot t := by
  obtain ⟨a, b, c, d, e⟩ := x
  cases t with
  | nil => exact absurd ht (by decide)
  | cons y t => exact h
theorem bot_cons {x : Fr} {t : List Fr} (h : bot t) : bot (x :: t) := by
  obtain ⟨a, b, c, d, e⟩ := x
  cases t with
  | nil => exact h.elim
  | cons y t => exact h
theorem stp_bot {f : Int → Int} {n p flg grp rp ls p2 flg2 grp2 rp2 ls2 : Int} {na nl na2 nl2 : Int → Int} {fr fr2 : List Fr} (h : stp f n (p, flg, grp, na, nl, fr, rp, ls) (p2, flg2, grp2, na2, nl2, fr2, rp2, ls2)) (hb : bot fr) : bot fr2 := by
  rcases h with ⟨⟨a, b, c, d, e, t, h1, h2⟩, _⟩ | ⟨h1, _⟩ | ⟨_, h1, _⟩
  · rw [h2]
    rcases h1 with ⟨_, _, h3⟩ | ⟨_, _, a', b', c', d', e', h3, h4, _⟩
    · rw [← h3] at hb; exact bot_up hb
    · rw [h3] at hb; exact bot_up (bot_tl hb h4)
  · rcases h1 with ⟨_, _, a, b, c, d, e, t, h7, h8⟩ | ⟨_, _, _, _, h9⟩ | ⟨_, _, _, nm, _, _, _, h13⟩ | ⟨_, _, _, e, _, _, h9⟩
    · rw [h7] at hb; rw [h8]; exact bot_up hb
    · rw [h9]; exact bot_cons hb
    · rw [h13]; exact bot_cons hb
    · rcases h9 with ⟨_, _, q3⟩ | ⟨_, q2⟩
      · rw [q3]; exact bot_cons hb
      · rw [q2]; exact hb
  · obtain ⟨l, m, e, k, a, b, c, d, x, t, _, _, _, h4, h5⟩ := h1
    rw [h4] at hb; rw [h5]; exact bot_up hb
theorem rsc_bot {f : Int → Int} {n fl : Int} : ∀ (k : Nat) (s : Sta), rsc f n fl k s → bot s.2.2.2.2.2.1 := by
  intro k
  induction k with
  | zero => intro s h; rw [h]; exact ⟨rfl, rfl⟩
  | succ k ih =>
    intro s h
    obtain ⟨s1, h1, h2⟩ := h
    obtain ⟨p, flg, grp, na, nl, fr, rp, ls⟩ := s1
    obtain ⟨p2, flg2, grp2, na2, nl2, fr2, rp2, ls2⟩ := s
    exact stp_bot h2 (ih _ h1)
/-- what the class has read: it is where the steps are, or the fault is theirs -/
def rdH (f : Int → Int) (n fl p flg grp : Int) (NA NL : Int → Int) (fr : List Fr) (FS : List Fs) (fa fp : Int) : Prop := ((fa = 0 ∧ fp = -1) ∧ ∃ (k : Nat) (na nl : Int → Int) (rp ls : Int) (ro v : Sn), rsS f n (fl % 16) k (p, flg % 16, grp, na, nl, fr.map m16, rp, ls) (FS, ro, v) ∧ agr NA NL na nl grp ∧ (rp = 1 → norp f n p)) ∨ (1 ≤ fa ∧ rdF f n (fl % 16) fa fp)
/-- and at its end -/
def rdC (f : Int → Int) (n fl grp sz : Int) (NA NL : Int → Int) : Prop := ∃ na nl : Int → Int, rdK f n (fl % 16) grp sz na nl ∧ agr NA NL na nl grp
section RdH
variable {f : Int → Int} {n fl p flg grp fa fp p2 flg2 grp2 fa2 fp2 w r s : Int} {NA NL NA2 NL2 : Int → Int} {fr fr2 fr3 : List Fr} {FS FS2 FS3 : List Fs} {ao : Option Sn} {ro v : Sn} {ts : List Fs}
theorem rdH_0 (h : fa = 0) (hf : fp = -1) : rdH f n fl 0 fl 0 NA NL [((-1 : Int), (0 : Int), (0 : Int), (0 : Int), (0 : Int))] [((none : Option Sn), mnI)] fa fp := Or.inl ⟨⟨h, hf⟩, 0, fun _ => 0, fun _ => 0, 0, 0, mnI, mnI, ⟨rfl, rfl⟩, fun k k1 k2 => absurd k1 (by omega), fun z => absurd z (by decide)⟩
theorem rdH_p (h : rdH f n fl p flg grp NA NL fr FS fa fp) (h0 : fa = 0) : fp = -1 := by
  rcases h with ⟨⟨_, hx⟩, _⟩ | ⟨h, _⟩
  · exact hx
  · omega
theorem rdH_N (h : rdH f n fl p flg grp NA NL fr FS fa fp) (h0 : fa = 0) (hf : 0 ≤ flg ∧ flg ≤ 31) (q : ptN f n p flg grp NA NL fr p2 flg2 grp2 NA2 NL2 fr2) (qw : ptW f n p fr fr2 FS FS2) (h2 : fa2 = 0) (hy : fp2 = fp) : rdH f n fl p2 flg2 grp2 NA2 NL2 fr2 FS2 fa2 fp2 := by
  rcases h with ⟨⟨_, hx⟩, k, na, nl, rp, ls, ro, v, h1, ha, h3⟩ | ⟨h, _⟩
  · obtain ⟨na2, nl2, q1, q2⟩ := ptN_16 hf ha q
    exact Or.inl ⟨⟨h2, hy.trans hx⟩, k + 1, na2, nl2, 0, 0, mnI, mnI, ⟨_, _, h1, Or.inr (Or.inl ⟨q1, rfl, rfl⟩), Or.inr (Or.inl ⟨rfl, ptW_16 qw, rfl, rfl⟩)⟩, q2, fun z => absurd z (by decide)⟩
  · omega
theorem rdH_F (h : rdH f n fl p flg grp NA NL fr FS fa fp) (h0 : fa = 0) (hp : p < n) (hf : 0 ≤ flg ∧ flg ≤ 31) (q : ptF f n p flg grp NA NL fr w r ∨ strF f n p w r) (hw : 1 ≤ w) : rdH f n fl p2 flg2 grp2 NA2 NL2 fr2 FS2 w r := by
  rcases h with ⟨_, k, na, nl, rp, ls, ro, v, h1, ha, h3⟩ | ⟨h, _⟩
  · refine Or.inr ⟨hw, k, _, rsS_c _ _ _ h1, Or.inl ⟨hp, ?_⟩⟩
    rcases q with q | q
    · exact Or.inl (ptF_16 hf ha q)
    · obtain ⟨_, ⟨l, m, e, k', q1⟩, _⟩ := id q
      exact Or.inr (Or.inl ⟨fun z => h3 z _ _ _ _ q1, q⟩)
  · omega
theorem tms_1 : tms 1 1 = 1 := rfl
theorem mre_1 : mre 1 1 = 0 := rfl
theorem rdH_P (h : rdH f n fl p flg grp NA NL fr FS fa fp) (h0 : fa = 0) (q : ptP f n p flg fr p2 flg2 fr2 s) {a b c d e : Int} {t : List Fr} (hr : fr2 = (a, b, c, d, e) :: t) (qv : ptV f n p flg fr FS p2 FS2 v) (hs : FS2 = (ao, ro) :: ts) : ∃ (k : Nat) (na nl : Int → Int), rsS f n (fl % 16) k (p2, flg2 % 16, grp, na, nl, (a, b % 16, c, d, e + s) :: t.map m16, 1, s) ((ao, mnC ro v) :: ts, ro, v) ∧ agr NA NL na nl grp := by
  rcases h with ⟨_, k, na, nl, rp, ls, ro', v', h1, ha, h3⟩ | ⟨h, _⟩
  · have q1 := ptP_16 q
    have q2 := ptV_16 qv
    rw [hr] at q1
    rw [hs] at q2
    exact ⟨k + 1, na, nl, ⟨_, _, h1, Or.inl ⟨⟨a, b % 16, c, d, e, t.map m16, q1, rfl⟩, rfl, rfl, rfl, rfl⟩, Or.inl ⟨rfl, ao, ts, q2, rfl⟩⟩, ha⟩
  · omega
theorem rdH_n (h : rdH f n fl p flg grp NA NL fr FS fa fp) (h0 : fa = 0) (q : ptP f n p flg fr p2 flg2 fr2 s) {a b c d e : Int} {t : List Fr} (hr : fr2 = (a, b, c, d, e) :: t) (qv : ptV f n p flg fr FS p2 FS2 v) (hs : FS2 = (ao, ro) :: ts) (hn : norp f n p2) (h2 : fa2 = 0) (hy : fp2 = fp) : rdH f n fl p2 flg2 grp NA NL ((a, b, c, d, (e + (tms 1 1 * s + mre 1 1))) :: t) ((ao, mnC ro v) :: ts) fa2 fp2 := by
  have hx := rdH_p h h0
  obtain ⟨k, na, nl, h1, ha⟩ := rdH_P h h0 q hr qv hs
  refine Or.inl ⟨⟨h2, hy.trans hx⟩, k, na, nl, 1, s, ro, v, ?_, ha, fun _ => hn⟩
  rw [tms_1, mre_1, show e + (1 * s + 0) = e + s by omega]
  exact h1
theorem rdH_r (h : rdH f n fl p flg grp NA NL fr FS fa fp) (h0 : fa = 0) (q : ptP f n p flg fr p2 flg2 fr2 s) {a b c d e : Int} {t : List Fr} (hr : fr2 = (a, b, c, d, e) :: t) (qv : ptV f n p flg fr FS p2 FS2 v) (hs : FS2 = (ao, ro) :: ts) {l m x k' p3 : Int} (q1 : repR f n p2 l m x k') (q2 : ¬ (k' = 1 ∧ tooR l m)) (q3 : askR f n x p3) (h2 : fa2 = 0) (hy : fp2 = fp) : rdH f n fl p3 flg2 grp NA NL ((a, b, c, d, (e + (tms l m * s + mre l m))) :: t) ((ao, mnC ro (mnR l m (lzR f n x flg2) v)) :: ts) fa2 fp2 := by
  have hx := rdH_p h h0
  obtain ⟨k, na, nl, h1, ha⟩ := rdH_P h h0 q hr qv hs
  refine Or.inl ⟨⟨h2, hy.trans hx⟩, k + 1, na, nl, 0, 0, mnI, mnI, ⟨_, _, h1, Or.inr (Or.inr ⟨rfl, ⟨l, m, x, k', a, b % 16, c, d, e + s, t.map m16, q1, q2, q3, rfl, ?_⟩, rfl, rfl, rfl, rfl, rfl, rfl⟩), Or.inr (Or.inr ⟨rfl, ⟨l, m, x, k', ao, mnC ro v, ts, q1, rfl, by rw [lzR_16]⟩, rfl, rfl⟩)⟩, ha, fun z => absurd z (by decide)⟩
  show _ = (a, b % 16, c, d, e + s - s + (tms l m * s + mre l m)) :: t.map m16
  rw [show e + s - s + (tms l m * s + mre l m) = e + (tms l m * s + mre l m) by omega]
  rfl
theorem rdH_9 (h : rdH f n fl p flg grp NA NL fr FS fa fp) (h0 : fa = 0) (q : ptP f n p flg fr p2 flg2 fr2 s) {a b c d e : Int} {t : List Fr} (hr : fr2 = (a, b, c, d, e) :: t) (qv : ptV f n p flg fr FS p2 FS2 v) (hs : FS2 = (ao, ro) :: ts) {l m x : Int} (q1 : repR f n p2 l m x 1) (q2 : tooR l m) {NA3 NL3 : Int → Int} {p3 flg3 grp3 : Int} : rdH f n fl p3 flg3 grp3 NA3 NL3 fr3 FS3 9 p2 := by
  obtain ⟨k, na, nl, h1, ha⟩ := rdH_P h h0 q hr qv hs
  have hw := tpk_w (f := f) (n := n) (i := p2) (by have := repR_c q1; omega)
  exact Or.inr ⟨by decide, k, _, rsS_c _ _ _ h1, Or.inl ⟨hw.2, Or.inr (Or.inr ⟨rfl, ⟨l, m, x, 1, q1, rfl, q2⟩, rfl, rfl⟩)⟩⟩
theorem rdH_2 (h : rdH f n fl p flg grp NA NL fr FS fa fp) (h0 : fa = 0) (hp : n ≤ p) {a b c d e : Int} {t : List Fr} (hr : fr = (a, b, c, d, e) :: t) (ht : 1 ≤ t.length) : rdF f n (fl % 16) 2 a := by
  rcases h with ⟨_, k, na, nl, rp, ls, ro, v, h1, ha, h3⟩ | ⟨h, _⟩
  · rw [hr] at h1
    exact ⟨k, _, rsS_c _ _ _ h1, Or.inr (Or.inl ⟨hp, by rw [List.length_map, List.length_cons]; omega, ⟨a, b % 16, c, d, e, t.map m16, rfl, rfl⟩, rfl⟩)⟩
  · omega
theorem rdH_c (h : rdH f n fl p flg grp NA NL fr FS fa fp) (h0 : fa = 0) {a b c d e : Int} (hr : fr = [(a, b, c, d, e)]) : c = 0 := by
  rcases h with ⟨_, k, na, nl, rp, ls, ro, v, h1, ha, h3⟩ | ⟨h, _⟩
  · rw [hr] at h1
    exact (rsc_bot k _ (rsS_c _ _ _ h1)).2
  · omega
theorem rdH_14 (h : rdH f n fl p flg grp NA NL fr FS fa fp) (h0 : fa = 0) (hp : n ≤ p) {a b c d e : Int} (hr : fr = [(a, b, c, d, e)]) (hs : 400 < d + e) : rdF f n (fl % 16) 14 (-1) := by
  rcases h with ⟨_, k, na, nl, rp, ls, ro, v, h1, ha, h3⟩ | ⟨h, _⟩
  · rw [hr] at h1
    exact ⟨k, _, rsS_c _ _ _ h1, Or.inr (Or.inr ⟨hp, ⟨a, b % 16, c, d, e, rfl, hs⟩, rfl, rfl⟩)⟩
  · omega
theorem rdH_k (h : rdH f n fl p flg grp NA NL fr FS fa fp) (h0 : fa = 0) (hp : n ≤ p) {a b c d e : Int} (hr : fr = [(a, b, c, d, e)]) (hz : s = d + e) (hs : s ≤ 400) : rdC f n fl grp s NA NL := by
  rcases h with ⟨_, k, na, nl, rp, ls, ro, v, h1, ha, h3⟩ | ⟨h, _⟩
  · rw [hr] at h1
    exact ⟨na, nl, ⟨k, _, rsS_c _ _ _ h1, hp, ⟨a, b % 16, c, d, e, rfl, hz, hs⟩, rfl, rfl, rfl⟩, ha⟩
  · omega
/-- what it means -/
theorem rdH_m (h : rdH f n fl p flg grp NA NL fr FS fa fp) (h0 : fa = 0) (hp : n ≤ p) (hF : FS = [(ao, ro)]) : rdM f n (fl % 16) (opO ao ro) := by
  rcases h with ⟨_, k, na, nl, rp, ls, ro', v', h1, ha, h3⟩ | ⟨h, _⟩
  · refine ⟨k, _, FS, ro', v', ao, ro, h1, fun y hy => ?_, hF, rfl⟩
    obtain ⟨p3, flg3, grp3, na3, nl3, fr3, rp3, ls3⟩ := y
    have c : ¬ tpk f n p = -1 := by
      rcases hy with ⟨⟨a, b, c, d, e, t, q, _⟩, _⟩ | ⟨q, _⟩ | ⟨_, q, _⟩
      · rcases q with ⟨q, _⟩ | ⟨q, _⟩
        · exact (lfR_c q).1
        · omega
      · rcases q with ⟨q, _⟩ | ⟨q, _⟩ | ⟨q, _⟩ | ⟨q, _⟩ <;> omega
      · obtain ⟨l, m, e, k', a, b, c, d, x, t, q, _⟩ := q
        have := repR_c q
        omega
    exact c (tpk_off hp)
  · omega
theorem rdH_f (h : rdH f n fl p flg grp NA NL fr FS fa fp) (h0 : 1 ≤ fa) : rdF f n (fl % 16) fa fp := by
  rcases h with ⟨⟨h, _⟩, _⟩ | ⟨_, h⟩
  · omega
  · exact h
end RdH
theorem frm_pl {o : Nat → Nat} {G : ab_G} {ps : Nat → Nat} {cu : Nat → Int} {a b c d e : Int} {t : List Fr} {hi g l : Nat} {k v : Int} {rg : Value} {pl fl : Int} {ou ls bf : Value} {sz mb oe le mo la rc : Int} (h : frm G ps cu ((a, b, c, d, e) :: t) hi (vR g)) (hc : cc o G g l (paE k v rg pl fl ou ls bf sz mb oe le mo la rc)) (hp : -1 ≤ pl ∧ pl ≤ 2100 ∧ 0 ≤ fl ∧ fl ≤ 31) : pl = a := by
  obtain ⟨g', r, hv, _, _, ⟨f3, _, _⟩, _⟩ := h
  have hv := vRR hv
  subst hv
  exact (fi_pl hc hp).1.symm.trans f3
/-- the whole's size, once all is read -/
theorem szJ.sz {o o2 : Nat → Nat} {G : ab_G} {z : Nat} {ps : Nat → Nat} {fr : List Fr} {hi p l : Nat} {v : Value} {wh : Nat} {s : Int} {k vv : Int} {rg : Value} {pl fl : Int} {ou ls bf : Value} {sz mb oe le mo la rc : Int} (h : szJ o G z ps fr hi v wh p s) (h0 : 0 < p) (hc : cc o2 G p l (paE k vv rg pl fl ou ls bf sz mb oe le mo la rc)) (b1 : 0 ≤ k ∧ k ≤ 5 ∧ -1 ≤ vv ∧ vv ≤ 1114111) (b2 : 0 ≤ sz ∧ sz ≤ 1000000 ∧ 0 ≤ le ∧ le ≤ 1000 ∧ 0 ≤ mo ∧ mo ≤ 1000) : ceq sz s := by
  obtain ⟨cu, _, _, _, hp⟩ := h
  rcases hp with hp | ⟨_, hp, _⟩
  · omega
  · rw [(fi_pa hc b1 b2).2.2.1] at hp
    exact hp
