/-! what is seen of a program: groups, size, flags, names -/
def bnm (f RNA RNL NA NL : Int → Int) (k0 : Int) : Prop := ∀ k : Int, 1 ≤ k → k < k0 → NL k = RNL k ∧ ∀ j : Int, 0 ≤ j → j < RNL k → NA (k * 12 + j) = f (RNA k + j)
theorem bnm_0 {f RNA RNL NA NL : Int → Int} : bnm f RNA RNL NA NL 1 := fun k a b => absurd a (by omega)
theorem bnm_s {f RNA RNL NA NL : Int → Int} {k0 g n : Int} (h : bnm f RNA RNL NA NL k0) (hn : nmok RNA RNL g n) (hk : 1 ≤ k0 ∧ k0 ≤ g) : bnm f RNA RNL (zcpy f NA (RNA k0) (k0 * 12) (RNL k0)) (zu NL k0 (RNL k0)) (k0 + 1) := by
  intro k a b
  by_cases e : k = k0
  · rw [e]
    refine ⟨zu_self _ _ _, fun j p q => ?_⟩
    rw [zcpy_in (by omega), show k0 * 12 + j - k0 * 12 = j by omega]
  · obtain ⟨h1, h2⟩ := h k a (by omega)
    refine ⟨by rw [zu_ne e]; exact h1, fun j p q => ?_⟩
    have t := hn k a (by omega)
    rw [zcpy_out (by omega)]
    exact h2 j p q
/-- a program's numbers and its text, kept in cv below 0 -/
def cvI (cv : Int → Int) (lq : Nat) (j : Int) : Int := cv (-1 - 400 * ((lq : Int) - 100) - j)
def cvU (cv : Int → Int) (v c : Int) (lq : Nat) (w : Int → Int) : Int → Int := fun i => if i = v then c else if 0 ≤ -1 - 400 * ((lq : Int) - 100) - i ∧ -1 - 400 * ((lq : Int) - 100) - i < 4000 then w (-1 - 400 * ((lq : Int) - 100) - i) else if 0 ≤ i - 1000000 - 1000000 * v ∧ i - 1000000 - 1000000 * v < 1000000 then w (4000 + (i - 1000000 - 1000000 * v)) else cv i
def ivR (gr sz fl : Int) (NL NA cv : Int → Int) (lq : Nat) : Prop := cvI cv lq 0 = gr ∧ cvI cv lq 1 = sz ∧ cvI cv lq 2 = fl ∧ (∀ k : Int, 0 ≤ k → k < 10 → cvI cv lq (10 + k) = NL k) ∧ ∀ i : Int, 0 ≤ i → i < 120 → cvI cv lq (20 + i) = NA i
def ivW (gr sz fl : Int) (NL NA : Int → Int) (tn : Int) (tf : Int → Int) : Int → Int := fun j => if j = 0 then gr else if j = 1 then sz else if j = 2 then fl else if j = 3 then tn else if j < 20 then NL (j - 10) else if j < 200 then NA (j - 20) else tf (j - 200)
/-- the text -/
def ivT (tn : Int) (tf cv : Int → Int) (lq : Nat) : Prop := cvI cv lq 3 = tn ∧ ∀ i : Int, 0 ≤ i → i < 2000 → cvI cv lq (200 + i) = tf i
section CvU
variable {cv w : Int → Int} {v c i j : Int} {lq l2 k k2 : Nat}
theorem cvU_v : cvU cv v c lq w v = c := if_pos rfl
theorem cvU_p (h : 0 ≤ i ∧ i < 1000000) (h2 : ¬ i = v) (hl : 100 ≤ lq) (hv : 0 ≤ v) : cvU cv v c lq w i = cv i := by
  unfold cvU
  rw [if_neg h2, if_neg (by omega), if_neg (by omega)]
theorem cvI_s (hv : 0 ≤ v) (hl : 100 ≤ lq) (hj : 0 ≤ j ∧ j < 4000) : cvI (cvU cv v c lq w) lq j = w j := by
  unfold cvI cvU
  rw [if_neg (by omega), if_pos (by omega)]
  congr 1; omega
theorem cvI_n (hv : 0 ≤ v) (h1 : lq = 100 + 10 * k) (h2 : l2 = 100 + 10 * k2) (hn : ¬ k2 = k) (hj : 0 ≤ j ∧ j < 4000) : cvI (cvU cv v c lq w) l2 j = cvI cv l2 j := by
  unfold cvI cvU
  rw [if_neg (by omega), if_neg (by omega), if_neg (by omega)]
theorem ivR_s {gr sz fl tn : Int} {NL NA tf : Int → Int} (hv : 0 ≤ v) (hl : 100 ≤ lq) : ivR gr sz fl NL NA (cvU cv v c lq (ivW gr sz fl NL NA tn tf)) lq := by
  refine ⟨?_, ?_, ?_, fun k a b => ?_, fun i a b => ?_⟩
  · rw [cvI_s hv hl (by omega)]; exact if_pos rfl
  · rw [cvI_s hv hl (by omega)]; unfold ivW; rw [if_neg (by omega), if_pos rfl]
  · rw [cvI_s hv hl (by omega)]; unfold ivW; rw [if_neg (by omega), if_neg (by omega), if_pos rfl]
  · rw [cvI_s hv hl (by omega)]; unfold ivW; rw [if_neg (by omega), if_neg (by omega), if_neg (by omega), if_neg (by omega), if_pos (by omega), show 10 + k - 10 = k by omega]
  · rw [cvI_s hv hl (by omega)]; unfold ivW; rw [if_neg (by omega), if_neg (by omega), if_neg (by omega), if_neg (by omega), if_neg (by omega), if_pos (by omega), show 20 + i - 20 = i by omega]
theorem ivT_s {gr sz fl tn : Int} {NL NA tf : Int → Int} (hv : 0 ≤ v) (hl : 100 ≤ lq) : ivT tn tf (cvU cv v c lq (ivW gr sz fl NL NA tn tf)) lq := by
  refine ⟨?_, fun i a b => ?_⟩
  · rw [cvI_s hv hl (by omega)]; unfold ivW; rw [if_neg (by omega), if_neg (by omega), if_neg (by omega), if_pos rfl]
  · rw [cvI_s hv hl (by omega)]; unfold ivW; rw [if_neg (by omega), if_neg (by omega), if_neg (by omega), if_neg (by omega), if_neg (by omega), if_neg (by omega), show 200 + i - 200 = i by omega]
theorem ivR_n {gr sz fl : Int} {NL NA : Int → Int} (h : ivR gr sz fl NL NA cv l2) (hv : 0 ≤ v) (h1 : lq = 100 + 10 * k) (h2 : l2 = 100 + 10 * k2) (hn : ¬ k2 = k) : ivR gr sz fl NL NA (cvU cv v c lq w) l2 := by
  obtain ⟨a1, a2, a3, a4, a5⟩ := h
  refine ⟨?_, ?_, ?_, fun k a b => ?_, fun i a b => ?_⟩
  · rw [cvI_n hv h1 h2 hn (by omega)]; exact a1
  · rw [cvI_n hv h1 h2 hn (by omega)]; exact a2
  · rw [cvI_n hv h1 h2 hn (by omega)]; exact a3
  · rw [cvI_n hv h1 h2 hn (by omega)]; exact a4 k a b
  · rw [cvI_n hv h1 h2 hn (by omega)]; exact a5 i a b
end CvU
/-- how long a quoted text is -/
def qpl (x : Int) : Int := if 127 < x ∨ (48 ≤ x ∧ x ≤ 57) ∨ (65 ≤ x ∧ x ≤ 90) ∨ (97 ≤ x ∧ x ≤ 122) ∨ x = 95 then 1 else 2
theorem qpl_1 {x : Int} (h : 127 < x ∨ isW x) : qpl x = 1 := if_pos h
theorem qpl_2 {x : Int} (h : ¬ (127 < x ∨ isW x)) : qpl x = 2 := if_neg h
def qlN (f : Int → Int) : Nat → Int
  | 0 => 0
  | n + 1 => qlN f n + qpl (f (n : Int))
theorem qlN_b {f : Int → Int} (n : Nat) : (n : Int) ≤ qlN f n ∧ qlN f n ≤ 2 * (n : Int) := by
  induction n with
  | zero =>
    have e : qlN f 0 = 0 := rfl
    rw [e]; omega
  | succ n ih =>
    have e : qlN f (n + 1) = qlN f n + qpl (f (n : Int)) := rfl
    have t : 1 ≤ qpl (f (n : Int)) ∧ qpl (f (n : Int)) ≤ 2 := by unfold qpl; split <;> omega
    omega
theorem qlN_cg {f g : Int → Int} {m : Int} (h : ∀ i : Int, 0 ≤ i → i < m → f i = g i) (n : Nat) (hn : (n : Int) ≤ m) : qlN f n = qlN g n := by
  induction n with
  | zero => rfl
  | succ n ih =>
    have e : qlN f (n + 1) = qlN f n + qpl (f (n : Int)) := rfl
    have e2 : qlN g (n + 1) = qlN g n + qpl (g (n : Int)) := rfl
    rw [e, e2, ih (by omega), h (n : Int) (by omega) (by omega)]
def qlI (f : Int → Int) (i : Int) : Int := qlN f i.toNat
theorem qlI_0 {f : Int → Int} : qlI f 0 = 0 := rfl
theorem qlI_b {f : Int → Int} {i : Int} (h : 0 ≤ i) : i ≤ qlI f i ∧ qlI f i ≤ 2 * i := by
  have t := qlN_b (f := f) i.toNat
  unfold qlI
  omega
theorem qlI_s {f : Int → Int} {i : Int} (h : 0 ≤ i) : qlI f (i + 1) = qlI f i + qpl (f i) := by
  unfold qlI
  rw [show (i + 1).toNat = i.toNat + 1 by omega]
  have e : qlN f (i.toNat + 1) = qlN f i.toNat + qpl (f (i.toNat : Int)) := rfl
  rw [e, show ((i.toNat : Nat) : Int) = i by omega]
theorem qlI_1 {f : Int → Int} {i s x : Int} (h : 0 ≤ i) (hs : s = qlI f i) (hx : x = f i) (hw : 127 < x ∨ isW x) : s + 1 = qlI f (i + 1) := by
  rw [qlI_s h, ← hx, hs, qpl_1 hw]
theorem qlI_2 {f : Int → Int} {i s x : Int} (h : 0 ≤ i) (hs : s = qlI f i) (hx : x = f i) (hl : x ≤ 127) (hw : ¬ isW x) : s + 1 + 1 = qlI f (i + 1) := by
  rw [qlI_s h, ← hx, hs, qpl_2 (fun t => t.elim (fun t => by omega) hw)]; omega
theorem qlI_cg {f g : Int → Int} {n : Int} (h : ∀ i : Int, 0 ≤ i → i < n → f i = g i) (hn : 0 ≤ n) : qlI f n = qlI g n := by
  unfold qlI
  exact qlN_cg h n.toNat (by omega)
/-- what is copied -/
def cpE (A B : Int → Int) (i : Int) : Prop := ∀ j : Int, 0 ≤ j → j < i → A j = B j
theorem cpE_0 {A B : Int → Int} : cpE A B 0 := fun j a b => by omega
theorem cpE_s {A B : Int → Int} {i : Int} (h : cpE A B i) : cpE (zu A i (B i)) B (i + 1) := fun j a b => by
  by_cases e : j = i
  · rw [e, zu_self]
  · rw [zu_ne e]; exact h j a (by omega)
/-- what found and piece answer -/
def paR (F : Int → Int) (m k wh v : Int) : Prop := ((0 ≤ k ∧ k < m ∧ 0 ≤ wh ∧ wh ≤ 1) ∧ v = F (2 * k + wh)) ∨ (¬ (0 ≤ k ∧ k < m ∧ 0 ≤ wh ∧ wh ≤ 1) ∧ v = -1)
theorem paR_det {F F2 : Int → Int} {m k wh v w : Int} (h : paR F m k wh v) (q : paR F2 m k wh w) (e : ∀ i : Int, 0 ≤ i → i < 2 * m → F i = F2 i) : v = w := by
  rcases h with ⟨h1, h2⟩ | ⟨h1, h2⟩ <;> rcases q with ⟨q1, q2⟩ | ⟨q1, q2⟩
  · rw [h2, q2]; exact e _ (by omega) (by omega)
  · exact absurd h1 q1
  · exact absurd q1 h1
  · rw [h2, q2]
