/-! what a text means hangs on the text alone; the ways hang on the subject alone -/
section Cgm
variable {f g : Int → Int} {n : Int}
theorem cg_lM (h : ∀ k : Int, 0 ≤ k → k < n → f k = g k) : lfM f n = lfM g n := by
  funext flg p v q
  unfold lfM
  rw [cg_t h, cg_e1 h, cg_e2 h, cg_cb h, cg_cT h, cg_u8 h]
theorem cg_lz (h : ∀ k : Int, 0 ≤ k → k < n → f k = g k) : lzR f n = lzR g n := by
  funext e flg
  unfold lzR
  rw [cg_t h]
theorem cg_pV (h : ∀ k : Int, 0 ≤ k → k < n → f k = g k) : ptV f n = ptV g n := by
  funext p flg fr FS p2 FS2 v
  unfold ptV
  rw [cg_t h, cg_lM h]
theorem cg_pW (h : ∀ k : Int, 0 ≤ k → k < n → f k = g k) : ptW f n = ptW g n := by
  funext p fr fr2 FS FS2
  unfold ptW
  rw [cg_t h]
theorem stS_cg (h : ∀ k : Int, 0 ≤ k → k < n → f k = g k) {s s2 : Sta} {S S2 : SS} (q : stS f n s S s2 S2) : stS g n s S s2 S2 := by
  obtain ⟨p, flg, grp, na, nl, fr, rp, ls⟩ := s
  obtain ⟨p2, flg2, grp2, na2, nl2, fr2, rp2, ls2⟩ := s2
  obtain ⟨FS, ro, v⟩ := S
  obtain ⟨FS2, rw2, v2⟩ := S2
  rcases q with ⟨a1, ao, t, a2, a3⟩ | ⟨a1, a2, a3⟩ | ⟨a1, ⟨l, m, e, k, ao, w, t, a2, a3, a4⟩, a5⟩
  · rw [cg_pV h] at a2
    exact Or.inl ⟨a1, ao, t, a2, a3⟩
  · rw [cg_pW h] at a2
    exact Or.inr (Or.inl ⟨a1, a2, a3⟩)
  · rw [cg_rep h] at a2
    rw [cg_lz h] at a4
    exact Or.inr (Or.inr ⟨a1, ⟨l, m, e, k, ao, w, t, a2, a3, a4⟩, a5⟩)
theorem rsS_cg (h : ∀ k : Int, 0 ≤ k → k < n → f k = g k) (hn : 0 ≤ n) {fl : Int} : ∀ (k : Nat) (s : Sta) (S : SS), rsS f n fl k s S → rsS g n fl k s S := by
  intro k
  induction k with
  | zero => intro s S q; exact q
  | succ k ih =>
    intro s S q
    obtain ⟨s1, S1, q1, q2, q3⟩ := q
    have c := rsS_c _ _ _ q1
    obtain ⟨p1, flg1, grp1, na1, nl1, fr1, rp1, ls1⟩ := s1
    obtain ⟨p2, flg2, grp2, na2, nl2, fr2, rp2, ls2⟩ := s
    obtain ⟨_, y2, y3⟩ := rsc_cg h hn _ _ _ _ _ _ _ _ _ c
    obtain ⟨z1, _, _⟩ := stp_cg h hn y2 y3 q2
    exact ⟨_, S1, ih _ _ q1, z1, stS_cg h q3⟩
theorem rdM_cg (h : ∀ k : Int, 0 ≤ k → k < n → f k = g k) (hn : 0 ≤ n) {fl : Int} {v : Sn} (q : rdM f n fl v) : rdM g n fl v := by
  obtain ⟨k, s, FS, ro, x, ao, w, a1, a2, a3, a4⟩ := q
  have b1 := rsS_cg h hn _ _ _ a1
  refine ⟨k, s, FS, ro, x, ao, w, b1, fun y z => ?_, a3, a4⟩
  have c := rsS_c _ _ _ b1
  obtain ⟨p1, flg1, grp1, na1, nl1, fr1, rp1, ls1⟩ := s
  obtain ⟨p2, flg2, grp2, na2, nl2, fr2, rp2, ls2⟩ := y
  have h2 : ∀ k : Int, 0 ≤ k → k < n → g k = f k := fun k a b => (h k a b).symm
  obtain ⟨_, y2, y3⟩ := rsc_cg h2 hn _ _ _ _ _ _ _ _ _ c
  obtain ⟨z1, _, _⟩ := stp_cg h2 hn y2 y3 z
  exact a2 _ z1
theorem cg_hld (h : ∀ k : Int, 0 ≤ k → k < n → f k = g k) : hld f n = hld g n := by
  funext p a
  unfold hld
  rw [cg_t h]
theorem WL_cg (h : ∀ k : Int, 0 ≤ k → k < n → f k = g k) {tg a b : Int → Int} {mm : Int → Int → Prop} : ∀ m : Nat, WL tg a b mm f n m = WL tg a b mm g n m := by
  intro m
  induction m with
  | zero => rfl
  | succ m ih =>
    funext s p r L
    unfold WL
    rw [cg_u8 h, cg_hld h, ih]
theorem WW_cg (h : ∀ k : Int, 0 ≤ k → k < n → f k = g k) {tg a b : Int → Int} {mm : Int → Int → Prop} {s p : Int} {r : Gr} {L : List (Int × Gr)} (q : WW tg a b mm f n s p r L) : WW tg a b mm g n s p r L := by
  obtain ⟨m, q⟩ := q
  rw [WL_cg h m] at q
  exact ⟨m, q⟩
/-- what has a program hangs on the subject alone -/
def wpR (v : Sn) : Prop := ∃ (tg a b : Int → Int) (mm : Int → Int → Prop) (x : Int), ∀ (t : Int → Int) (n p : Int) (r : Gr), bytes t n → 0 ≤ p → p ≤ n → WW tg a b mm t n x p r (v.1.1 t n p r)
theorem wpR.cg {v : Sn} (w : wpR v) (h : ∀ k : Int, 0 ≤ k → k < n → f k = g k) (hb : bytes f n) : wyR v f n = wyR v g n := by
  obtain ⟨tg, a, b, mm, x, w⟩ := w
  have hb2 : bytes g n := fun k a b => by rw [← h k a b]; exact hb k a b
  funext p
  unfold wyR
  by_cases c : 0 ≤ p ∧ p ≤ n
  · rw [if_pos c, if_pos c]
    exact WW_det (WW_cg h (w f n p _ hb c.1 c.2)) (w g n p _ hb2 c.1 c.2)
  · rw [if_neg c, if_neg c]
end Cgm
/-- all matches, whatever stands behind the subject -/
def alU (v : Sn) (f : Int → Int) (n fy m : Int) (A : Int → Int) : Prop := ∀ g : Int → Int, (∀ k : Int, 0 ≤ k → k < n → f k = g k) → alC v g n fy m A
def spU (v : Sn) (f : Int → Int) (n fy m : Int) (A : Int → Int) : Prop := ∀ g : Int → Int, (∀ k : Int, 0 ≤ k → k < n → f k = g k) → spC v g n fy m A
theorem alU_of {v : Sn} {f A : Int → Int} {n fy m : Int} (w : wpR v) (hb : bytes f n) (h : alC v f n fy m A) : alU v f n fy m A := fun g q => by
  unfold alC at h ⊢
  rw [← w.cg q hb]
  exact h
theorem spU_of {v : Sn} {f A : Int → Int} {n fy m : Int} (w : wpR v) (hb : bytes f n) (h : spC v f n fy m A) : spU v f n fy m A := fun g q => by
  unfold spC at h ⊢
  rw [← w.cg q hb]
  exact h
/-- what the text that a slot keeps means -/
def mnV (cv : Int → Int) (lq : Nat) (v : Sn) : Prop := (0 ≤ cvI cv lq 3 ∧ cvI cv lq 3 ≤ 2000) ∧ rdM (fun i => cvI cv lq (200 + i)) (cvI cv lq 3) (cvI cv lq 2 % 16) v
theorem mnV_det {cv : Int → Int} {lq : Nat} {v w : Sn} (h : mnV cv lq v) (q : mnV cv lq w) : v = w := rdM_det h.2 q.2
theorem mnV_cg {cv cv2 : Int → Int} {lq : Nat} {v : Sn} (h : mnV cv lq v) (e : ∀ j : Int, 0 ≤ j → j < 4000 → cvI cv2 lq j = cvI cv lq j) : mnV cv2 lq v := by
  obtain ⟨h1, h2⟩ := h
  have e3 := e 3 (by omega) (by omega)
  have e2 := e 2 (by omega) (by omega)
  refine ⟨by rw [e3]; exact h1, ?_⟩
  rw [e3, e2]
  exact rdM_cg (fun k a b => (e (200 + k) (by omega) (by omega)).symm) h1.1 h2
theorem mnV_n {cv w : Int → Int} {v0 c : Int} {lq l2 k k2 : Nat} {v : Sn} (h : mnV cv l2 v) (hv : 0 ≤ v0) (h1 : lq = 100 + 10 * k) (h2 : l2 = 100 + 10 * k2) (hn : ¬ k2 = k) : mnV (cvU cv v0 c lq w) l2 v := mnV_cg h (fun _ a b => cvI_n hv h1 h2 hn ⟨a, b⟩)
theorem mnV_s {cv tf : Int → Int} {tn fl : Int} {lq : Nat} {v : Sn} (h : rdM tf tn (fl % 16) v) (ht : ivT tn tf cv lq) (hf : cvI cv lq 2 = fl) (hn : 0 ≤ tn ∧ tn ≤ 2000) : mnV cv lq v := by
  obtain ⟨t1, t2⟩ := ht
  refine ⟨by rw [t1]; exact hn, ?_⟩
  rw [t1, hf]
  exact rdM_cg (fun k a b => (t2 k a (by omega)).symm) hn.1 h
