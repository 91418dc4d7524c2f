def q10 : Int → Int := fun i => ([1, 10, 100, 1000, 10000] : List Int).getD i.toNat 0
theorem q10_in : ∀ n : Int, 0 ≤ n → n < 5 → 1 ≤ q10 n ∧ q10 n ≤ 10000 := z_all 5 (by decide)
theorem q10_s : ∀ n : Int, 0 ≤ n → n < 4 → q10 (n + 1) = 10 * q10 n := z_all (Q := fun n => q10 (n + 1) = 10 * q10 n) 4 (by decide)
/-! the reference's reading is that of the steps -/
def flB (fr : List Fr) : Prop := ∀ x : Fr, x ∈ fr → 0 ≤ x.2.1 ∧ x.2.1 ≤ 15
theorem flB_c {x : Fr} {t : List Fr} (h : 0 ≤ x.2.1 ∧ x.2.1 ≤ 15) (ht : flB t) : flB (x :: t) := fun y hy => by
  rcases List.mem_cons.mp hy with z | z
  · rw [z]; exact h
  · exact ht y z
theorem flB_h {x : Fr} {t : List Fr} (h : flB (x :: t)) : (0 ≤ x.2.1 ∧ x.2.1 ≤ 15) ∧ flB t := ⟨h x (List.mem_cons_self ..), fun y hy => h y (List.mem_cons_of_mem _ hy)⟩
theorem flgR_15 {f : Int → Int} {n p fl v e : Int} (h : flgR f n p fl v e) (hf : 0 ≤ fl ∧ fl ≤ 15) : 0 ≤ v ∧ v ≤ 15 := by
  obtain ⟨on, off, mi, h1, _, h3⟩ := h
  obtain ⟨a, b⟩ := flgS_in _ _ _ _ _ _ _ _ _ (by omega) (by omega) h1
  rw [h3]
  exact fland15 (flor16 hf a)
theorem stp_fl {f : Int → Int} {n p flg grp rp ls p2 flg2 grp2 rp2 ls2 : Int} {na nl na2 nl2 : Int → Int} {fr fr2 : List Fr} (h : stp f n (p, flg, grp, na, nl, fr, rp, ls) (p2, flg2, grp2, na2, nl2, fr2, rp2, ls2)) (hf : 0 ≤ flg ∧ flg ≤ 15) (hb : flB fr) : (0 ≤ flg2 ∧ flg2 ≤ 15) ∧ flB fr2 := by
  rcases h with ⟨⟨a, b, c, d, e, t, h1, h2⟩, _⟩ | ⟨h1, _⟩ | ⟨_, h1, _, _, h2, _⟩
  · rw [h2]
    rcases h1 with ⟨_, h4, h3⟩ | ⟨_, _, a', b', c', d', e', h3, h4, h5, _⟩
    · rw [← h3] at hb
      have q := flB_h hb
      exact ⟨by rw [h4]; exact hf, flB_c q.1 q.2⟩
    · rw [h3] at hb
      have q := flB_h hb
      have q2 := flB_h q.2
      exact ⟨by rw [h5]; exact q.1, flB_c q2.1 q2.2⟩
  · rcases h1 with ⟨_, ⟨_, g2, _⟩, a, b, c, d, e, t, h7, h8⟩ | ⟨_, _, _, ⟨_, g2, _⟩, h9⟩ | ⟨_, _, _, nm, _, _, ⟨_, g2, _⟩, h13⟩ | ⟨_, _, _, e, g3, _, h9⟩
    · rw [h7] at hb
      rw [h8, g2]
      have q := flB_h hb
      exact ⟨hf, flB_c q.1 q.2⟩
    · rw [h9, g2]; exact ⟨hf, flB_c hf hb⟩
    · rw [h13, g2]; exact ⟨hf, flB_c hf hb⟩
    · refine ⟨flgR_15 g3 hf, ?_⟩
      rcases h9 with ⟨_, _, q3⟩ | ⟨_, q2⟩
      · rw [q3]; exact flB_c hf hb
      · rw [q2]; exact hb
  · obtain ⟨l, m, e, k, a, b, c, d, x, t, _, _, _, h4, h5⟩ := h1
    rw [h4] at hb
    rw [h5, h2]
    have q := flB_h hb
    exact ⟨hf, flB_c q.1 q.2⟩
theorem rsc_fl {f : Int → Int} {n fl : Int} (hf : 0 ≤ fl ∧ fl ≤ 15) : ∀ (k : Nat) (s : Sta), rsc f n fl k s → (0 ≤ s.2.1 ∧ s.2.1 ≤ 15) ∧ flB s.2.2.2.2.2.1 := by
  intro k
  induction k with
  | zero =>
    intro s h
    rw [h]
    refine ⟨hf, fun x hx => ?_⟩
    rw [List.mem_singleton.mp hx]
    exact ⟨by decide, by decide⟩
  | succ k ih =>
    intro s h
    obtain ⟨s1, h1, h2⟩ := h
    obtain ⟨p, flg, grp, na, nl, fr, rp, ls⟩ := s1
    obtain ⟨p2, flg2, grp2, na2, nl2, fr2, rp2, ls2⟩ := s
    have q := ih _ h1
    exact stp_fl h2 q.1 q.2
def rdJ (f : Int → Int) (n fl p flg grp : Int) (na nl : Int → Int) (fr : List Fr) (rp ls : Int) (NS NM : Int → Int) (fa fp : Int) (FS : List Fs) (ro vv : Sn) : Prop := (fa = 0 ∧ fp = -1 ∧ (0 ≤ rp ∧ rp ≤ 1) ∧ nmJ NS NM f na nl grp ∧ ∃ k : Nat, rsS f n fl k (p, flg, grp, na, nl, fr, rp, ls) (FS, ro, vv)) ∨ (1 ≤ fa ∧ rdF f n fl fa fp)
section RdJ
variable {f : Int → Int} {n fl p flg grp rp ls fa fp p2 flg2 grp2 rp2 ls2 fa2 fp2 w r a b c d e z : Int} {na nl NS NM na2 nl2 NS2 NM2 : Int → Int} {fr fr2 t : List Fr} {FS FS2 : List Fs} {ro vv ro2 vv2 : Sn}
theorem rdJ_0 (h : fa = 0) (hp : fp = -1) (hf : flg = fl) : rdJ f n fl 0 flg 0 (fun _ => 0) (fun _ => 0) [((-1 : Int), (0 : Int), (0 : Int), (0 : Int), (0 : Int))] 0 0 NS NM fa fp [((none : Option Sn), mnI)] mnI mnI := Or.inl ⟨h, hp, by decide, nmJ_0, 0, by rw [hf]; rfl, rfl⟩
theorem rdJ_h (h : rdJ f n fl p flg grp na nl fr rp ls NS NM fa fp FS ro vv) (h0 : fa = 0) (hf : 0 ≤ fl ∧ fl ≤ 15) : fp = -1 ∧ (0 ≤ rp ∧ rp ≤ 1) ∧ (0 ≤ flg ∧ flg ≤ 15) ∧ nmJ NS NM f na nl grp := by
  rcases h with ⟨_, h1, h2, h3, k, h4⟩ | ⟨h, _⟩
  · exact ⟨h1, h2, (rsc_fl hf k _ (rsS_c _ _ _ h4)).1, h3⟩
  · omega
theorem rdJ_s (h : rdJ f n fl p flg grp na nl fr rp ls NS NM fa fp FS ro vv) (h0 : fa = 0) (hs : stp f n (p, flg, grp, na, nl, fr, rp, ls) (p2, flg2, grp2, na2, nl2, fr2, rp2, ls2)) (hr : 0 ≤ rp2 ∧ rp2 ≤ 1) (hn : nmJ NS2 NM2 f na2 nl2 grp2) (h2 : fa2 = 0) (h3 : fp2 = fp) (hv : stS f n (p, flg, grp, na, nl, fr, rp, ls) (FS, ro, vv) (p2, flg2, grp2, na2, nl2, fr2, rp2, ls2) (FS2, ro2, vv2)) : rdJ f n fl p2 flg2 grp2 na2 nl2 fr2 rp2 ls2 NS2 NM2 fa2 fp2 FS2 ro2 vv2 := by
  rcases h with ⟨_, h1, _, _, k, h4⟩ | ⟨h, _⟩
  · exact Or.inl ⟨h2, h3.trans h1, hr, hn, k + 1, _, _, h4, hs, hv⟩
  · omega
theorem rdJ_f (h : rdJ f n fl p flg grp na nl fr rp ls NS NM fa fp FS ro vv) (h0 : fa = 0) (hp : p < n) (hs : stF f n (p, flg, grp, na, nl, fr, rp, ls) w r) (hw : 1 ≤ w) : rdJ f n fl p2 flg2 grp2 na2 nl2 fr2 rp2 ls2 NS2 NM2 w r FS2 ro2 vv2 := by
  rcases h with ⟨_, _, _, _, k, h4⟩ | ⟨h, _⟩
  · exact Or.inr ⟨hw, k, _, rsS_c _ _ _ h4, Or.inl ⟨hp, hs⟩⟩
  · omega
theorem rdJ_w (h : rdJ f n fl p flg grp na nl fr rp ls NS NM fa fp FS ro vv) (h0 : 1 ≤ fa) : rdF f n fl fa fp := by
  rcases h with ⟨h, _⟩ | ⟨_, h⟩
  · omega
  · exact h
theorem rdJ_2 (h : rdJ f n fl p flg grp na nl ((a, b, c, d, e) :: t) rp ls NS NM fa fp FS ro vv) (h0 : fa = 0) (hp : n ≤ p) (ht : 1 ≤ t.length) : rdF f n fl 2 a := by
  rcases h with ⟨_, _, _, _, k, h4⟩ | ⟨h, _⟩
  · exact ⟨k, _, rsS_c _ _ _ h4, Or.inr (Or.inl ⟨hp, by rw [List.length_cons]; omega, ⟨a, b, c, d, e, t, rfl, rfl⟩, rfl⟩)⟩
  · omega
theorem rdJ_14 (h : rdJ f n fl p flg grp na nl ((a, b, c, d, e) :: t) rp ls NS NM fa fp FS ro vv) (h0 : fa = 0) (hp : n ≤ p) (ht : t = []) (hs : 400 < e + d) : rdF f n fl 14 (-1) := by
  rcases h with ⟨_, _, _, _, k, h4⟩ | ⟨h, _⟩
  · rw [ht] at h4
    exact ⟨k, _, rsS_c _ _ _ h4, Or.inr (Or.inr ⟨hp, ⟨a, b, c, d, e, rfl, by omega⟩, rfl, rfl⟩)⟩
  · omega
/-- a pattern is there, with its names -/
def rdN (f : Int → Int) (n fl grp sz : Int) (NS NM : Int → Int) : Prop := ∃ na nl : Int → Int, rdK f n fl grp sz na nl ∧ nmJ NS NM f na nl grp
theorem rdJ_k (h : rdJ f n fl p flg grp na nl ((a, b, c, d, e) :: t) rp ls NS NM fa fp FS ro vv) (h0 : fa = 0) (hp : n ≤ p) (ht : t = []) (hz : z = e + d) (hs : z ≤ 400) : rdN f n fl grp z NS NM := by
  rcases h with ⟨_, _, _, h3, k, h4⟩ | ⟨h, _⟩
  · rw [ht] at h4
    exact ⟨na, nl, ⟨k, _, rsS_c _ _ _ h4, hp, ⟨a, b, c, d, e, rfl, by omega, hs⟩, rfl, rfl, rfl⟩, h3⟩
  · omega
/-- and what it means -/
theorem rdJ_m {ao : Option Sn} {w : Sn} {ts : List Fs} (h : rdJ f n fl p flg grp na nl fr rp ls NS NM fa fp ((ao, w) :: ts) ro vv) (h0 : fa = 0) (hp : n ≤ p) (ht : ts = []) : rdM f n fl (opO ao w) := by
  rcases h with ⟨_, _, _, _, k, h4⟩ | ⟨h, _⟩
  · rw [ht] at h4
    refine ⟨k, _, _, ro, vv, ao, w, h4, fun y hy => ?_, rfl, rfl⟩
    obtain ⟨p3, flg3, grp3, na3, nl3, fr3, rp3, ls3⟩ := y
    have c : ¬ tpk f n p = -1 := by
      rcases hy with ⟨⟨a, b, c, d, e, t, q, _⟩, _⟩ | ⟨q, _⟩ | ⟨_, q, _⟩
      · rcases q with ⟨q, _⟩ | ⟨q, _⟩
        · exact (lfR_c q).1
        · omega
      · rcases q with ⟨q, _⟩ | ⟨q, _⟩ | ⟨q, _⟩ | ⟨q, _⟩ <;> omega
      · obtain ⟨l, m, e, k', a, b, c, d, x, t, q, _⟩ := q
        have := repR_c q
        omega
    exact c (tpk_off hp)
  · omega
end RdJ
