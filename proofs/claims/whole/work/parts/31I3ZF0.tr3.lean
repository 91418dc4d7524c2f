/-! the reference's groups, names, flags, repeats -/
/-- i bytes of a name are copied -/
def nsI (NS0 NS f : Int → Int) (g fo i : Int) : Prop := (∀ j : Int, 0 ≤ j → j < i → NS (12 * g + j) = f (fo + j)) ∧ ∀ y : Int, y < 12 * g → NS y = NS0 y
theorem nsI_0 {NS f : Int → Int} {g fo : Int} : nsI NS NS f g fo 0 := ⟨fun j a b => by omega, fun _ _ => rfl⟩
theorem nsI_s {NS0 NS f : Int → Int} {g fo i v : Int} (h : nsI NS0 NS f g fo i) (hi : 0 ≤ i) (hv : v = f (fo + i)) : nsI NS0 (zu NS (12 * g + i) v) f g fo (i + 1) := by
  refine ⟨fun j j0 j1 => ?_, fun y hy => ?_⟩
  · by_cases e : j = i
    · rw [e, zu_self]; exact hv
    · rw [zu_ne (by omega)]; exact h.1 j j0 (by omega)
  · rw [zu_ne (by omega)]; exact h.2 y hy
theorem nmJ_s {NS NS2 NM f na nl : Int → Int} {g fo n ps9 : Int} (h : nmJ NS NM f na nl g) (hg : 0 ≤ g) (hm : ∀ k : Int, 1 ≤ k → k ≤ g → NM k ≤ 12) (h2 : nsI NS NS2 f (g + 1) fo n) (hp : n = 0 ∨ ps9 = fo) : nmJ NS2 (zu NM (g + 1) n) f (zu na (g + 1) ps9) (zu nl (g + 1) n) (g + 1) := by
  intro k k1 k2
  by_cases e : k = g + 1
  · subst e
    rw [zu_self, zu_self, zu_self]
    refine ⟨rfl, fun j j0 j1 => ?_⟩
    rw [h2.1 j j0 j1]
    rcases hp with y | y
    · omega
    · rw [y]
  · obtain ⟨a, b⟩ := h k k1 (by omega)
    have c := hm k k1 (by omega)
    rw [zu_ne e, zu_ne e, zu_ne e]
    refine ⟨a, fun j j0 j1 => ?_⟩
    rw [h2.2 _ (by omega)]
    exact b j j0 j1
theorem noflg_P {f : Int → Int} {n p : Int} (hn : 0 ≤ n) (h : tpk f n p = 80) : noflg f n p := by
  obtain ⟨k, hk⟩ : ∃ k : Nat, (n + 3).toNat = k + 1 := ⟨(n + 3).toNat - 1, by omega⟩
  exact Or.inl (flgS_bad rfl hk (by omega) (by rw [h]; rfl) (Or.inr (by omega)))
theorem flor_as {x y z : Int} (hx : 0 ≤ x) (hy : 0 ≤ y) (hz : 0 ≤ z) : flor (flor x y) z = flor x (flor y z) := by
  unfold flor
  rw [Int.toNat_natCast, Int.toNat_natCast, Nat.or_assoc]
theorem fland_or {x y z : Int} : fland (fland x y) z = fland x (flor y z) := by
  unfold fland flor
  rw [Int.toNat_natCast, Int.toNat_natCast]
  congr 1
  apply Nat.eq_of_testBit_eq
  intro i
  rw [Nat.testBit_xor, Nat.testBit_and, Nat.testBit_xor, Nat.testBit_and, Nat.testBit_xor, Nat.testBit_and, Nat.testBit_or]
  cases x.toNat.testBit i <;> cases y.toNat.testBit i <;> cases z.toNat.testBit i <;> rfl
theorem fland_0 {x : Int} (h : 0 ≤ x) : fland x 0 = x := by
  unfold fland
  rw [show (0 : Int).toNat = 0 from rfl, Nat.and_zero, Nat.xor_zero]
  omega
theorem flor_nz {x y : Int} (hy : 0 < y) : ¬ flor x y = 0 := by
  unfold flor
  intro h
  have h2 : x.toNat ||| y.toNat = 0 := by omega
  have := Nat.le_of_lt_succ (Nat.lt_succ_of_le (Nat.right_le_or (n := x.toNat) (m := y.toNat)))
  omega
theorem fof_15 (c : Int) : 0 ≤ fof c ∧ fof c ≤ 15 := by have := fof_in c; omega
theorem fland15 {x y : Int} (hx : 0 ≤ x ∧ x ≤ 15) : 0 ≤ fland x y ∧ fland x y ≤ 15 := by
  unfold fland
  have : (x.toNat ^^^ (x.toNat &&& y.toNat)) < 2 ^ 4 := Nat.xor_lt_two_pow (by omega) (Nat.lt_of_le_of_lt Nat.and_le_left (by omega))
  omega
/-! numbers of repeats -/
def dI (f : Int → Int) (n b k v : Int) : Prop := (k = 0 ∧ v = 0) ∨ (k = 1 ∧ dg (tpk f n b) ∧ v = tpk f n b - 48) ∨ (k = 2 ∧ dg (tpk f n b) ∧ dg (tpk f n (b + 1)) ∧ v = 10 * (tpk f n b - 48) + (tpk f n (b + 1) - 48)) ∨ (k = 3 ∧ dg (tpk f n b) ∧ dg (tpk f n (b + 1)) ∧ dg (tpk f n (b + 1 + 1)) ∧ v = 10 * (10 * (tpk f n b - 48) + (tpk f n (b + 1) - 48)) + (tpk f n (b + 1 + 1) - 48)) ∨ (k = 4 ∧ dg (tpk f n b) ∧ dg (tpk f n (b + 1)) ∧ dg (tpk f n (b + 1 + 1)) ∧ dg (tpk f n (b + 3)))
theorem dI_0 {f : Int → Int} {n b : Int} : dI f n b 0 0 := Or.inl ⟨rfl, rfl⟩
theorem dI_s {f : Int → Int} {n b k v c : Int} (h : dI f n b k v) (hk : k < 4) (hc : c = tpk f n (b + k)) (hd : 48 ≤ c ∧ c ≤ 57) : dI f n b (k + 1) (10 * v + c - 48) := by
  rcases h with ⟨a, h⟩ | ⟨a, h⟩ | ⟨a, h⟩ | ⟨a, h⟩ | ⟨a, h⟩
  · subst a; rw [Int.add_zero] at hc; exact Or.inr (Or.inl ⟨rfl, by unfold dg; omega, by omega⟩)
  · subst a; exact Or.inr (Or.inr (Or.inl ⟨rfl, h.1, by unfold dg; omega, by omega⟩))
  · subst a; rw [show b + 2 = b + 1 + 1 by omega] at hc; exact Or.inr (Or.inr (Or.inr (Or.inl ⟨rfl, h.1, h.2.1, by unfold dg; omega, by omega⟩)))
  · subst a; exact Or.inr (Or.inr (Or.inr (Or.inr ⟨rfl, h.1, h.2.1, h.2.2.1, by unfold dg; omega⟩)))
  · omega
theorem dI_num {f : Int → Int} {n b k v : Int} (h : dI f n b k v) (hk : 1 ≤ k ∧ k ≤ 3) (hd : ¬ dg (tpk f n (b + k))) : numR f n b v (b + k) := by
  rcases h with ⟨a, h⟩ | ⟨a, h⟩ | ⟨a, h⟩ | ⟨a, h⟩ | ⟨a, h⟩
  · omega
  · subst a; exact Or.inr (Or.inl ⟨h.1, hd, h.2, rfl⟩)
  · subst a; rw [show b + 2 = b + 1 + 1 by omega] at hd; exact Or.inr (Or.inr (Or.inl ⟨h.1, h.2.1, hd, h.2.2, rfl⟩))
  · subst a; exact Or.inr (Or.inr (Or.inr ⟨h.1, h.2.1, h.2.2.1, h.2.2.2, rfl⟩))
  · omega
theorem dI_3 {f : Int → Int} {n b v : Int} (h : dI f n b 3 v) : numR f n b v (b + 3) := by
  rcases h with ⟨a, h⟩ | ⟨a, h⟩ | ⟨a, h⟩ | ⟨a, h⟩ | ⟨a, h⟩
  · omega
  · omega
  · omega
  · exact Or.inr (Or.inr (Or.inr ⟨h.1, h.2.1, h.2.2.1, h.2.2.2, rfl⟩))
  · omega
theorem dI_none {f : Int → Int} {n b : Int} (hd : ¬ dg (tpk f n b)) : numR f n b (-1) b := Or.inl ⟨hd, rfl, rfl⟩
theorem dI_4 {f : Int → Int} {n b v : Int} (h : dI f n b 4 v) : ∃ w : Int, numR f n b w (b + 3) ∧ dg (tpk f n (b + 3)) := by
  rcases h with ⟨a, h⟩ | ⟨a, h⟩ | ⟨a, h⟩ | ⟨a, h⟩ | ⟨a, h⟩
  · omega
  · omega
  · omega
  · omega
  · exact ⟨_, Or.inr (Or.inr (Or.inr ⟨h.1, h.2.1, h.2.2.1, rfl, rfl⟩)), h.2.2.2⟩
/-- no number, or one of four digits: no repeat -/
theorem nr_0 {f : Int → Int} {n p : Int} (h : tpk f n p = 123) (hd : ¬ dg (tpk f n (p + 1))) : norp f n p := norp_num h (dI_none hd) rfl
theorem nr_4 {f : Int → Int} {n p v : Int} (h : tpk f n p = 123) (hi : dI f n (p + 1) 4 v) : norp f n p := by
  obtain ⟨w, h1, h2⟩ := dI_4 hi
  unfold dg at h2
  exact norp_end h h1 (nobrc_0 (by omega))
theorem nr_x {f : Int → Int} {n p le b : Int} (h : tpk f n p = 123) (hn : numR f n (p + 1) le b) (hx : ¬ tpk f n b = 125 ∧ ¬ tpk f n b = 44) : norp f n p := norp_end h hn (nobrc_0 hx)
theorem nr_c0 {f : Int → Int} {n p le b : Int} (h : tpk f n p = 123) (hn : numR f n (p + 1) le b) (hc : tpk f n b = 44) (hd : ¬ dg (tpk f n (b + 1))) (hx : ¬ tpk f n (b + 1) = 125) : norp f n p := norp_end h hn (nobrc_1 hc hx (dI_none hd) (Or.inl rfl))
theorem nr_c4 {f : Int → Int} {n p le b v : Int} (h : tpk f n p = 123) (hn : numR f n (p + 1) le b) (hc : tpk f n b = 44) (hi : dI f n (b + 1) 4 v) : norp f n p := by
  obtain ⟨w, h1, h2⟩ := dI_4 hi
  have h3 : dg (tpk f n (b + 1)) := by
    rcases h1 with y | y | y | y
    · have := y.2.2; omega
    · exact y.1
    · exact y.1
    · exact y.1
  unfold dg at h2 h3
  exact norp_end h hn (nobrc_1 hc (by omega) h1 (Or.inr (by omega)))
theorem nr_cx {f : Int → Int} {n p le b v c : Int} (h : tpk f n p = 123) (hn : numR f n (p + 1) le b) (hc : tpk f n b = 44) (h2 : numR f n (b + 1) v c) (hx : ¬ tpk f n c = 125) (hd : dg (tpk f n (b + 1))) : norp f n p := by
  unfold dg at hd
  exact norp_end h hn (nobrc_1 hc (by omega) h2 (Or.inr hx))
theorem repR_too {f : Int → Int} {n p l m e k : Int} (h : repR f n p l m e k) (ht : tooR l m) : k = 1 := by
  unfold tooR at ht
  rcases h with h | h | h | ⟨h, h2, _⟩
  · omega
  · omega
  · omega
  · exact h2
theorem repR_plc {f : Int → Int} {n p l m e k : Int} (h : repR f n p l m e k) : plc (tpk f n p) := by
  have := repR_c h
  unfold plc
  omega
/-! what the steps mean, by what stands there -/
section SsBy
variable {f : Int → Int} {n p flg grp rp ls p2 flg2 grp2 ls2 : Int} {na nl na2 nl2 : Int → Int} {fr fr2 : List Fr} {FS : List Fs} {ao : Option Sn} {w v ro vv : Sn} {ts : List Fs}
theorem ss_leaf (h : lfM f n flg p v p2) : stS f n (p, flg, grp, na, nl, fr, rp, ls) ((ao, w) :: ts, ro, vv) (p2, flg2, grp2, na2, nl2, fr2, 1, ls2) ((ao, mnC w v) :: ts, w, v) := Or.inl ⟨rfl, ao, ts, Or.inl ⟨h, rfl⟩, rfl⟩
theorem ss_bar (h : tpk f n p = 124) : stS f n (p, flg, grp, na, nl, fr, rp, ls) ((ao, w) :: ts, ro, vv) (p2, flg2, grp2, na2, nl2, fr2, 0, ls2) ((some (opO ao w), mnI) :: ts, mnI, mnI) := Or.inr (Or.inl ⟨rfl, Or.inl ⟨h, ao, w, ts, rfl, rfl⟩, rfl, rfl⟩)
theorem ss_grp {x : Fr} (h : tpk f n p = 40) : stS f n (p, flg, grp, na, nl, fr, rp, ls) (FS, ro, vv) (p2, flg2, grp2, na2, nl2, x :: fr, 0, ls2) ((none, mnI) :: FS, mnI, mnI) := Or.inr (Or.inl ⟨rfl, Or.inr ⟨h, Or.inl ⟨rfl, rfl⟩⟩, rfl, rfl⟩)
theorem ss_flag (h : tpk f n p = 40) (hf : fr2.length = fr.length) : stS f n (p, flg, grp, na, nl, fr, rp, ls) ((ao, w) :: ts, ro, vv) (p2, flg2, grp2, na2, nl2, fr2, 0, ls2) ((ao, mnC w mnI) :: ts, mnI, mnI) := Or.inr (Or.inl ⟨rfl, Or.inr ⟨h, Or.inr ⟨hf, by rw [mnC_I]⟩⟩, rfl, rfl⟩)
theorem ss_close {a b c d e : Int} {t : List Fr} {bo : Option Sn} {w2 : Sn} (h : tpk f n p = 41) : stS f n (p, flg, grp, na, nl, (a, b, c, d, e) :: t, rp, ls) ((ao, w) :: (bo, w2) :: ts, ro, vv) (p2, flg2, grp2, na2, nl2, fr2, 1, ls2) ((bo, mnC w2 (mnG c (opO ao w))) :: ts, w2, mnG c (opO ao w)) := Or.inl ⟨rfl, bo, ts, Or.inr ⟨h, a, b, c, d, e, t, ao, w, rfl, rfl, rfl⟩, rfl⟩
theorem ss_rep {l m x k lz : Int} (h : repR f n p l m x k) (hz : lzR f n x flg = lz) : stS f n (p, flg, grp, na, nl, fr, rp, ls) ((ao, w) :: ts, ro, vv) (p2, flg2, grp2, na2, nl2, fr2, 0, ls2) ((ao, mnC ro (mnR l m lz vv)) :: ts, mnI, mnI) := Or.inr (Or.inr ⟨rfl, ⟨l, m, x, k, ao, w, ts, h, rfl, by rw [hz]⟩, rfl, rfl⟩)
theorem lz_0 {x : Int} (h : (tpk f n x = 63 ∧ flg / 8 % 2 = 1) ∨ (¬ tpk f n x = 63 ∧ ¬ flg / 8 % 2 = 1)) : lzR f n x flg = 0 := if_pos h
theorem lz_1 {x : Int} (h : ¬ ((tpk f n x = 63 ∧ flg / 8 % 2 = 1) ∨ (¬ tpk f n x = 63 ∧ ¬ flg / 8 % 2 = 1))) : lzR f n x flg = 1 := if_neg h
end SsBy
/-! steps by what stands there -/
section StepsBy
variable {f : Int → Int} {n p flg grp a b c d e rp ls w : Int} {na nl : Int → Int} {t fr : List Fr}
theorem sb_bar (h : tpk f n p = 124) : stp f n (p, flg, grp, na, nl, (a, b, c, d, e) :: t, rp, ls) (p + 1, flg, grp, na, nl, (a, b, c, d + e + 1, 0) :: t, 0, 0) := Or.inr (Or.inl ⟨Or.inl ⟨h, ⟨rfl, rfl, rfl, rfl, rfl⟩, a, b, c, d, e, t, rfl, rfl⟩, rfl, rfl⟩)
theorem sb_open (h : tpk f n p = 40) (h1 : ¬ tpk f n (p + 1) = 63) (hl : fr.length ≤ 30 ∧ grp < 9) : stp f n (p, flg, grp, na, nl, fr, rp, ls) (p + 1, flg, grp + 1, zu na (grp + 1) 0, zu nl (grp + 1) 0, (p, flg, grp + 1, 0, 0) :: fr, 0, 0) := Or.inr (Or.inl ⟨Or.inr (Or.inl ⟨h, h1, hl, ⟨rfl, rfl, rfl, rfl, rfl⟩, rfl⟩), rfl, rfl⟩)
theorem sb_name {nm : Int} (h : tpk f n p = 40) (h1 : tpk f n (p + 1) = 63) (h2 : tpk f n (p + 2) = 80) (h3 : tpk f n (p + 3) = 60) (hn : nmR f n (p + 4) nm) (h0 : ¬ nm = 0) (ht : tkI f na nl (grp + 1) (p + 4) nm 0) (hl : fr.length ≤ 30 ∧ grp < 9) : stp f n (p, flg, grp, na, nl, fr, rp, ls) (p + 5 + nm, flg, grp + 1, zu na (grp + 1) (p + 4), zu nl (grp + 1) nm, (p, flg, grp + 1, 0, 0) :: fr, 0, 0) := Or.inr (Or.inl ⟨Or.inr (Or.inr (Or.inl ⟨h, h1, ⟨by rw [show p + 1 + 1 = p + 2 by omega]; exact h2, by rw [show p + 1 + 2 = p + 3 by omega]; exact h3⟩, nm, ⟨hn, h0, ht⟩, hl, ⟨rfl, rfl, rfl, rfl, rfl⟩, rfl⟩)), rfl, rfl⟩)
theorem sb_flag {v x : Int} (h : tpk f n p = 40) (h1 : tpk f n (p + 1) = 63) (h2 : ¬ tpk f n (p + 2) = 80) (hf : flgR f n (p + 2) flg v x) (hx : ¬ tpk f n x = 58) : stp f n (p, flg, grp, na, nl, fr, rp, ls) (x + 1, v, grp, na, nl, fr, 0, 0) := Or.inr (Or.inl ⟨Or.inr (Or.inr (Or.inr ⟨h, h1, fun z => h2 (by have := z.1; rw [show p + 1 + 1 = p + 2 by omega] at this; exact this), x, hf, ⟨rfl, rfl, rfl, rfl⟩, Or.inr ⟨hx, rfl⟩⟩)), rfl, rfl⟩)
theorem sb_flgg {v x : Int} (h : tpk f n p = 40) (h1 : tpk f n (p + 1) = 63) (h2 : ¬ tpk f n (p + 2) = 80) (hf : flgR f n (p + 2) flg v x) (hx : tpk f n x = 58) (hl : fr.length ≤ 30) : stp f n (p, flg, grp, na, nl, fr, rp, ls) (x + 1, v, grp, na, nl, (p, flg, 0, 0, 0) :: fr, 0, 0) := Or.inr (Or.inl ⟨Or.inr (Or.inr (Or.inr ⟨h, h1, fun z => h2 (by have := z.1; rw [show p + 1 + 1 = p + 2 by omega] at this; exact this), x, hf, ⟨rfl, rfl, rfl, rfl⟩, Or.inl ⟨hx, hl, rfl⟩⟩)), rfl, rfl⟩)
theorem sb_close {x1 x2 x3 x4 x5 s : Int} {xt : List Fr} (h : tpk f n p = 41) (hs : s = pin 4 c + e + d) : stp f n (p, flg, grp, na, nl, (a, b, c, d, e) :: (x1, x2, x3, x4, x5) :: xt, rp, ls) (p + 1, b, grp, na, nl, (x1, x2, x3, x4, x5 + s) :: xt, 1, s) := Or.inl ⟨⟨x1, x2, x3, x4, x5, xt, Or.inr ⟨h, rfl, a, b, c, d, e, rfl, by rw [List.length_cons]; omega, rfl, hs⟩, rfl⟩, rfl, rfl, rfl, rfl⟩
theorem sb_rep {l m x k p2 : Int} (hr : rp = 1) (h : repR f n p l m x k) (ht : ¬ tooR l m) (ha : askR f n x p2) : stp f n (p, flg, grp, na, nl, (a, b, c, d, e) :: t, rp, ls) (p2, flg, grp, na, nl, (a, b, c, d, e - ls + (tms l m * ls + mre l m)) :: t, 0, 0) := Or.inr (Or.inr ⟨hr, ⟨l, m, x, k, a, b, c, d, e, t, h, fun z => ht z.2, ha, rfl, rfl⟩, rfl, rfl, rfl, rfl, rfl, rfl⟩)
theorem sf_8 {l m x k : Int} (hr : ¬ rp = 1) (h : repR f n p l m x k) : stF f n (p, flg, grp, na, nl, fr, rp, ls) 8 p := Or.inr (Or.inl ⟨hr, repR_plc h, ⟨l, m, x, k, h⟩, rfl, rfl⟩)
theorem sf_9 {l m x k : Int} (hr : rp = 1) (h : repR f n p l m x k) (ht : tooR l m) : stF f n (p, flg, grp, na, nl, fr, rp, ls) 9 p := Or.inr (Or.inr ⟨hr, ⟨l, m, x, k, h, repR_too h ht, ht⟩, rfl, rfl⟩)
theorem sf_3 (h : tpk f n p = 41) (hl : fr.length = 1) : stF f n (p, flg, grp, na, nl, fr, rp, ls) 3 p := Or.inl (Or.inr (Or.inr ⟨h, hl, rfl, rfl⟩))
theorem sf_o (h : tpk f n p = 40) (ho : opF f n p flg grp (fr.length - 1) na nl w) : stF f n (p, flg, grp, na, nl, fr, rp, ls) w p := Or.inl (Or.inr (Or.inl ⟨h, ho, rfl⟩))
end StepsBy
section OpFs
variable {f : Int → Int} {n p flg grp dp w nm : Int} {na nl : Int → Int}
theorem of_d (h : ¬ tpk f n (p + 1) = 63) (hw : (30 ≤ dp ∧ w = 12) ∨ (dp < 30 ∧ 9 ≤ grp ∧ w = 13)) : opF f n p flg grp dp na nl w := Or.inl ⟨h, hw⟩
theorem of_h (h1 : tpk f n (p + 1) = 63) (h2 : tpk f n (p + 2) = 80) (h3 : tpk f n (p + 3) = 60) (hn : nmR f n (p + 4) 0) : opF f n p flg grp dp na nl 10 := Or.inr (Or.inl ⟨h1, ⟨by rw [show p + 1 + 1 = p + 2 by omega]; exact h2, by rw [show p + 1 + 2 = p + 3 by omega]; exact h3⟩, 0, hn, Or.inl ⟨rfl, rfl⟩⟩)
theorem of_3 (hn : 0 ≤ n) (h1 : tpk f n (p + 1) = 63) (h2 : tpk f n (p + 2) = 80) (h3 : ¬ tpk f n (p + 3) = 60) : opF f n p flg grp dp na nl 10 := Or.inr (Or.inr ⟨h1, fun z => h3 (by have := z.2; rw [show p + 1 + 2 = p + 3 by omega] at this; exact this), Or.inl ⟨noflg_P hn h2, rfl⟩⟩)
theorem of_t (h1 : tpk f n (p + 1) = 63) (h2 : tpk f n (p + 2) = 80) (h3 : tpk f n (p + 3) = 60) (hn : nmR f n (p + 4) nm) (h0 : ¬ nm = 0) (ht : tkI f na nl (grp + 1) (p + 4) nm 1) : opF f n p flg grp dp na nl 11 := Or.inr (Or.inl ⟨h1, ⟨by rw [show p + 1 + 1 = p + 2 by omega]; exact h2, by rw [show p + 1 + 2 = p + 3 by omega]; exact h3⟩, nm, hn, Or.inr (Or.inl ⟨h0, ht, rfl⟩)⟩)
theorem of_n (h1 : tpk f n (p + 1) = 63) (h2 : tpk f n (p + 2) = 80) (h3 : tpk f n (p + 3) = 60) (hn : nmR f n (p + 4) nm) (h0 : ¬ nm = 0) (ht : tkI f na nl (grp + 1) (p + 4) nm 0) (hw : (30 ≤ dp ∧ w = 12) ∨ (dp < 30 ∧ 9 ≤ grp ∧ w = 13)) : opF f n p flg grp dp na nl w := Or.inr (Or.inl ⟨h1, ⟨by rw [show p + 1 + 1 = p + 2 by omega]; exact h2, by rw [show p + 1 + 2 = p + 3 by omega]; exact h3⟩, nm, hn, Or.inr (Or.inr ⟨h0, ht, hw⟩)⟩)
theorem of_f (h1 : tpk f n (p + 1) = 63) (h2 : ¬ tpk f n (p + 2) = 80) (hf : noflg f n (p + 2)) : opF f n p flg grp dp na nl 10 := Or.inr (Or.inr ⟨h1, fun z => h2 (by have := z.1; rw [show p + 1 + 1 = p + 2 by omega] at this; exact this), Or.inl ⟨hf, rfl⟩⟩)
theorem of_g {v x : Int} (h1 : tpk f n (p + 1) = 63) (h2 : ¬ tpk f n (p + 2) = 80) (hf : flgR f n (p + 2) flg v x) (hx : tpk f n x = 58) (hd : 30 ≤ dp) : opF f n p flg grp dp na nl 12 := Or.inr (Or.inr ⟨h1, fun z => h2 (by have := z.1; rw [show p + 1 + 1 = p + 2 by omega] at this; exact this), Or.inr ⟨v, x, hf, hx, hd, rfl⟩⟩)
end OpFs
theorem wl_e {f : Int → Int} {n b le : Int} (h : wlI f n b le) (hl : 0 ≤ le ∧ le ≤ 13) (he : le = 13 ∨ ¬ isW (tpk f n (b + le))) : wlR f n b le := ⟨hl, h, he⟩
theorem nm_y {f : Int → Int} {n b le : Int} (h : wlR f n b le) (h1 : 1 ≤ le ∧ le ≤ 12) (hc : tpk f n (b + le) = 62) : nmR f n b le := ⟨le, h, Or.inl ⟨h1.1, rfl, h1.2, hc⟩⟩
theorem nm_n {f : Int → Int} {n b le : Int} (h : wlR f n b le) (h1 : le < 1 ∨ 12 < le ∨ ¬ tpk f n (b + le) = 62) : nmR f n b 0 := ⟨le, h, Or.inr ⟨rfl, by have := h.1.1; omega⟩⟩
theorem dI_d {f : Int → Int} {n b k v : Int} (h : dI f n b k v) (hk : 1 ≤ k) : dg (tpk f n b) := by
  rcases h with ⟨a, h⟩ | ⟨a, h⟩ | ⟨a, h⟩ | ⟨a, h⟩ | ⟨a, h⟩
  · omega
  · exact h.1
  · exact h.1
  · exact h.1
  · exact h.1
