/-! what stands in a pattern's text: numbers, repeats, names, flags -/
def dg (c : Int) : Prop := 48 ≤ c ∧ c ≤ 57
/-- one to three digits at b: their number v (-1: there is none), e is next -/
def numR (f : Int → Int) (n b v e : Int) : Prop := (¬ dg (tpk f n b) ∧ v = -1 ∧ e = b) ∨ (dg (tpk f n b) ∧ ¬ dg (tpk f n (b + 1)) ∧ v = tpk f n b - 48 ∧ e = b + 1) ∨ (dg (tpk f n b) ∧ dg (tpk f n (b + 1)) ∧ ¬ dg (tpk f n (b + 1 + 1)) ∧ v = 10 * (tpk f n b - 48) + (tpk f n (b + 1) - 48) ∧ e = b + 2) ∨ (dg (tpk f n b) ∧ dg (tpk f n (b + 1)) ∧ dg (tpk f n (b + 1 + 1)) ∧ v = 10 * (10 * (tpk f n b - 48) + (tpk f n (b + 1) - 48)) + (tpk f n (b + 1 + 1) - 48) ∧ e = b + 3)
theorem numR_det {f : Int → Int} {n b v e v2 e2 : Int} (h : numR f n b v e) (h2 : numR f n b v2 e2) : v = v2 ∧ e = e2 := by
  unfold numR dg at *
  omega
theorem numR_in {f : Int → Int} {n b v e : Int} (h : numR f n b v e) : -1 ≤ v ∧ v ≤ 999 ∧ b ≤ e ∧ e ≤ b + 3 := by
  unfold numR dg at h
  omega
/-- what stands behind a number in braces at b, v: most, and what is next -/
def brc (f : Int → Int) (n b v mo e : Int) : Prop := (tpk f n b = 125 ∧ mo = v ∧ e = b + 1) ∨ (tpk f n b = 44 ∧ tpk f n (b + 1) = 125 ∧ mo = 1000 ∧ e = b + 2) ∨ (tpk f n b = 44 ∧ ¬ tpk f n (b + 1) = 125 ∧ ∃ c : Int, numR f n (b + 1) mo c ∧ 0 ≤ mo ∧ tpk f n c = 125 ∧ e = c + 1)
theorem brc_det {f : Int → Int} {n b v mo e mo2 e2 : Int} (h : brc f n b v mo e) (h2 : brc f n b v mo2 e2) : mo = mo2 ∧ e = e2 := by
  rcases h with h | h | ⟨h0, h1, c, h3, h4, h5, h6⟩
  · rcases h2 with q | q | ⟨q0, _⟩ <;> omega
  · rcases h2 with q | q | ⟨q0, q1, _⟩ <;> omega
  · rcases h2 with q | q | ⟨q0, q1, c2, q3, q4, q5, q6⟩
    · omega
    · omega
    · have := numR_det h3 q3
      omega
/-- a repeat at p: least, most (1000: no bound), e is next; kd 1 for one in braces -/
def repR (f : Int → Int) (n p le mo e kd : Int) : Prop := (tpk f n p = 42 ∧ le = 0 ∧ mo = 1000 ∧ e = p + 1 ∧ kd = 0) ∨ (tpk f n p = 43 ∧ le = 1 ∧ mo = 1000 ∧ e = p + 1 ∧ kd = 0) ∨ (tpk f n p = 63 ∧ le = 0 ∧ mo = 1 ∧ e = p + 1 ∧ kd = 0) ∨ (tpk f n p = 123 ∧ kd = 1 ∧ ∃ b : Int, numR f n (p + 1) le b ∧ 0 ≤ le ∧ brc f n b le mo e)
theorem repR_det {f : Int → Int} {n p le mo e kd le2 mo2 e2 kd2 : Int} (h : repR f n p le mo e kd) (h2 : repR f n p le2 mo2 e2 kd2) : le = le2 ∧ mo = mo2 ∧ e = e2 ∧ kd = kd2 := by
  rcases h with h | h | h | ⟨h0, h1, b, h2', h3, h4⟩
  · rcases h2 with q | q | q | ⟨q0, _⟩ <;> omega
  · rcases h2 with q | q | q | ⟨q0, _⟩ <;> omega
  · rcases h2 with q | q | q | ⟨q0, _⟩ <;> omega
  · rcases h2 with q | q | q | ⟨q0, q1, b2, q2, q3, q4⟩
    · omega
    · omega
    · omega
    · obtain ⟨e1, e2⟩ := numR_det h2' q2
      subst e1 e2
      obtain ⟨e3, e4⟩ := brc_det h4 q4
      exact ⟨rfl, e3, e4, by omega⟩
/-- no repeat stands at p -/
def norp (f : Int → Int) (n p : Int) : Prop := ∀ le mo e kd : Int, ¬ repR f n p le mo e kd
theorem norp_sign {f : Int → Int} {n p : Int} (h : ¬ tpk f n p = 42 ∧ ¬ tpk f n p = 43 ∧ ¬ tpk f n p = 63 ∧ ¬ tpk f n p = 123) : norp f n p := fun le mo e kd q => by
  rcases q with q | q | q | ⟨q, _⟩ <;> omega
theorem norp_num {f : Int → Int} {n p v b : Int} (h : tpk f n p = 123) (hn : numR f n (p + 1) v b) (hv : v = -1) : norp f n p := fun le mo e kd q => by
  rcases q with q | q | q | ⟨_, _, b2, q2, q3, _⟩
  · omega
  · omega
  · omega
  · have := numR_det hn q2
    omega
theorem norp_end {f : Int → Int} {n p v b : Int} (h : tpk f n p = 123) (hn : numR f n (p + 1) v b) (hb : ∀ mo e : Int, ¬ brc f n b v mo e) : norp f n p := fun le mo e kd q => by
  rcases q with q | q | q | ⟨_, _, b2, q2, q3, q4⟩
  · omega
  · omega
  · omega
  · obtain ⟨e1, e2⟩ := numR_det hn q2
    subst e1 e2
    exact hb _ _ q4
theorem nobrc_0 {f : Int → Int} {n b v : Int} (h : ¬ tpk f n b = 125 ∧ ¬ tpk f n b = 44) : ∀ mo e : Int, ¬ brc f n b v mo e := fun mo e q => by
  rcases q with q | q | ⟨q, _⟩ <;> omega
theorem nobrc_1 {f : Int → Int} {n b v w c : Int} (h : tpk f n b = 44) (h1 : ¬ tpk f n (b + 1) = 125) (hn : numR f n (b + 1) w c) (hw : w = -1 ∨ ¬ tpk f n c = 125) : ∀ mo e : Int, ¬ brc f n b v mo e := fun mo e q => by
  rcases q with q | q | ⟨_, _, c2, q2, q3, q4, _⟩
  · omega
  · omega
  · obtain ⟨e1, e2⟩ := numR_det hn q2
    subst e1 e2
    omega
/-- le bytes of a name from b on, at most thirteen -/
def wlR (f : Int → Int) (n b le : Int) : Prop := (0 ≤ le ∧ le ≤ 13) ∧ (∀ j : Int, 0 ≤ j → j < le → isW (tpk f n (b + j))) ∧ (le = 13 ∨ ¬ isW (tpk f n (b + le)))
theorem wlR_det {f : Int → Int} {n b le le2 : Int} (h : wlR f n b le) (h2 : wlR f n b le2) : le = le2 := by
  obtain ⟨a1, a2, a3⟩ := h
  obtain ⟨b1, b2, b3⟩ := h2
  rcases (show le < le2 ∨ le = le2 ∨ le2 < le by omega) with c | c | c
  · rcases a3 with q | q
    · omega
    · exact absurd (b2 le a1.1 c) q
  · exact c
  · rcases b3 with q | q
    · omega
    · exact absurd (a2 le2 b1.1 c) q
/-- so far all are bytes of a name -/
def wlI (f : Int → Int) (n b le : Int) : Prop := ∀ j : Int, 0 ≤ j → j < le → isW (tpk f n (b + j))
theorem wlI_0 {f : Int → Int} {n b : Int} : wlI f n b 0 := fun j h0 h1 => absurd h1 (by omega)
theorem wlI_s {f : Int → Int} {n b le : Int} (h : wlI f n b le) (hw : isW (tpk f n (b + le))) : wlI f n b (le + 1) := fun j h0 h1 => by
  by_cases e : j = le
  · rw [e]; exact hw
  · exact h j h0 (by omega)
theorem tpk_at {f : Int → Int} {n i : Int} (h : 0 ≤ i ∧ i < n) : tpk f n i = f i := if_pos h
theorem tpk_off {f : Int → Int} {n i : Int} (h : n ≤ i) : tpk f n i = -1 := if_neg (by omega)
theorem isW_n : ¬ isW (-1) := by unfold isW; omega
/-- the name at b: its length, 0 if there is none -/
def nmR (f : Int → Int) (n b v : Int) : Prop := ∃ le : Int, wlR f n b le ∧ ((1 ≤ v ∧ v = le ∧ le ≤ 12 ∧ tpk f n (b + le) = 62) ∨ (v = 0 ∧ (le = 0 ∨ 12 < le ∨ ¬ tpk f n (b + le) = 62)))
theorem nmR_det {f : Int → Int} {n b v v2 : Int} (h : nmR f n b v) (h2 : nmR f n b v2) : v = v2 := by
  obtain ⟨le, a1, a2⟩ := h
  obtain ⟨le2, b1, b2⟩ := h2
  have e := wlR_det a1 b1
  subst e
  omega
/-- flags by their letters -/
def fof (c : Int) : Int := if c = 105 then 1 else if c = 109 then 2 else if c = 115 then 4 else if c = 85 then 8 else 0
theorem fof_in (c : Int) : 0 ≤ fof c ∧ fof c ≤ 8 := by
  unfold fof
  (repeat' split) <;> omega
def flor (x y : Int) : Int := ((x.toNat ||| y.toNat : Nat) : Int)
def fland (x y : Int) : Int := ((x.toNat ^^^ (x.toNat &&& y.toNat) : Nat) : Int)
/-- flags up to the : or ) behind them, from p on: what is on, what is off, whether a - was there; at e stands the : or the ) -/
def flgS (f : Int → Int) (n : Int) : Nat → Int → Int → Int → Int → Option (Int × Int × Int × Int)
  | 0, _, _, _, _ => none
  | k + 1, p, on, off, mi => if tpk f n p = 58 ∨ tpk f n p = 41 then some (p, on, off, mi)
    else if fof (tpk f n p) = 0 then (if mi = 1 ∨ ¬ tpk f n p = 45 then none else flgS f n k (p + 1) on off 1)
    else if mi = 1 then flgS f n k (p + 1) on (flor off (fof (tpk f n p))) mi else flgS f n k (p + 1) (flor on (fof (tpk f n p))) off mi
theorem flgS_end {f : Int → Int} {n p on off mi : Int} {k kr : Nat} {r : Option (Int × Int × Int × Int)} (h : r = flgS f n kr p on off mi) (hk : kr = k + 1) (hc : tpk f n p = 58 ∨ tpk f n p = 41) : r = some (p, on, off, mi) := by
  subst hk
  rw [h]
  unfold flgS
  rw [if_pos hc]
theorem flgS_bad {f : Int → Int} {n p on off mi : Int} {k kr : Nat} {r : Option (Int × Int × Int × Int)} (h : r = flgS f n kr p on off mi) (hk : kr = k + 1) (hc : ¬ (tpk f n p = 58 ∨ tpk f n p = 41)) (h0 : fof (tpk f n p) = 0) (hm : mi = 1 ∨ ¬ tpk f n p = 45) : r = none := by
  subst hk
  rw [h]
  unfold flgS
  rw [if_neg hc, if_pos h0, if_pos hm]
theorem flgS_minus {f : Int → Int} {n p on off mi : Int} {k kr : Nat} {r : Option (Int × Int × Int × Int)} (h : r = flgS f n kr p on off mi) (hk : kr = k + 1) (hc : ¬ (tpk f n p = 58 ∨ tpk f n p = 41)) (h0 : fof (tpk f n p) = 0) (hm : ¬ (mi = 1 ∨ ¬ tpk f n p = 45)) : r = flgS f n k (p + 1) on off 1 := by
  subst hk
  rw [h]
  conv => lhs; unfold flgS
  rw [if_neg hc, if_pos h0, if_neg hm]
theorem flgS_off {f : Int → Int} {n p on off mi : Int} {k kr : Nat} {r : Option (Int × Int × Int × Int)} (h : r = flgS f n kr p on off mi) (hk : kr = k + 1) (hc : ¬ (tpk f n p = 58 ∨ tpk f n p = 41)) (h0 : ¬ fof (tpk f n p) = 0) (hm : mi = 1) : r = flgS f n k (p + 1) on (flor off (fof (tpk f n p))) mi := by
  subst hk
  rw [h]
  conv => lhs; unfold flgS
  rw [if_neg hc, if_neg h0, if_pos hm]
theorem flgS_on {f : Int → Int} {n p on off mi : Int} {k kr : Nat} {r : Option (Int × Int × Int × Int)} (h : r = flgS f n kr p on off mi) (hk : kr = k + 1) (hc : ¬ (tpk f n p = 58 ∨ tpk f n p = 41)) (h0 : ¬ fof (tpk f n p) = 0) (hm : ¬ mi = 1) : r = flgS f n k (p + 1) (flor on (fof (tpk f n p))) off mi := by
  subst hk
  rw [h]
  conv => lhs; unfold flgS
  rw [if_neg hc, if_neg h0, if_neg hm]
/-- the k-th group's name is the one of le bytes at b -/
def gnm (f NA NL : Int → Int) (k b le : Int) : Prop := NL k = le ∧ ∀ j : Int, 0 ≤ j → j < le → f (NA k + j) = f (b + j)
def tnI (f NA NL : Int → Int) (k b le i tk : Int) : Prop := (tk = 1 ∧ NL k = le ∧ ∀ j : Int, 0 ≤ j → j < i → f (NA k + j) = f (b + j)) ∨ (tk = 0 ∧ ¬ gnm f NA NL k b le)
theorem tnI_b {f NA NL : Int → Int} {k b le : Int} (h : NL k = le) : tnI f NA NL k b le 0 1 := Or.inl ⟨rfl, h, fun j h0 h1 => absurd h1 (by omega)⟩
theorem tnI_n {f NA NL : Int → Int} {k b le i : Int} (h : ¬ NL k = le) : tnI f NA NL k b le i 0 := Or.inr ⟨rfl, fun q => h q.1⟩
theorem tnI_1 {f NA NL : Int → Int} {k b le i tk : Int} (h : tnI f NA NL k b le i tk) (ht : ¬ tk = 0) (he : f (NA k + i) = f (b + i)) : tnI f NA NL k b le (i + 1) 1 := by
  rcases h with ⟨_, h1, h2⟩ | ⟨h, _⟩
  · refine Or.inl ⟨rfl, h1, fun j j0 j1 => ?_⟩
    by_cases e : j = i
    · rw [e]; exact he
    · exact h2 j j0 (by omega)
  · exact absurd h ht
theorem tnI_0 {f NA NL : Int → Int} {k b le i : Int} (hi : 0 ≤ i ∧ i < le) (he : ¬ f (NA k + i) = f (b + i)) : tnI f NA NL k b le (i + 1) 0 := Or.inr ⟨rfl, fun q => he (q.2 i hi.1 hi.2)⟩
/-- whether one of the groups before k has the name -/
def tkI (f NA NL : Int → Int) (k b le tk : Int) : Prop := (tk = 0 ∧ ∀ j : Int, 1 ≤ j → j < k → ¬ gnm f NA NL j b le) ∨ (tk = 1 ∧ ∃ j : Int, 1 ≤ j ∧ j < k ∧ gnm f NA NL j b le)
theorem tkI_b {f NA NL : Int → Int} {b le : Int} : tkI f NA NL 1 b le 0 := Or.inl ⟨rfl, fun j h0 h1 => absurd h1 (by omega)⟩
theorem tkI_s {f NA NL : Int → Int} {k b le i t0 tk : Int} (h : tkI f NA NL k b le t0) (h0 : t0 = 0) (hk : 1 ≤ k) (h2 : tnI f NA NL k b le i tk) (hi : le ≤ i ∨ tk = 0) : tkI f NA NL (k + 1) b le tk := by
  rcases h with ⟨_, h⟩ | ⟨h, _⟩
  · rcases h2 with ⟨q0, q1, q2⟩ | ⟨q0, q1⟩
    · exact Or.inr ⟨q0, k, hk, by omega, q1, fun j j0 j1 => q2 j j0 (by omega)⟩
    · refine Or.inl ⟨q0, fun j j0 j1 => ?_⟩
      by_cases e : j = k
      · rw [e]; exact q1
      · exact h j j0 (by omega)
  · omega
theorem tkI_det {f NA NL : Int → Int} {k b le t t2 : Int} (h : tkI f NA NL k b le t) (h2 : tkI f NA NL k b le t2) : t = t2 := by
  rcases h with ⟨h, h1⟩ | ⟨h, j, j0, j1, j2⟩
  · rcases h2 with ⟨q, q1⟩ | ⟨q, j, j0, j1, j2⟩
    · omega
    · exact absurd j2 (h1 j j0 j1)
  · rcases h2 with ⟨q, q1⟩ | ⟨q, _⟩
    · exact absurd j2 (q1 j j0 j1)
    · omega
theorem tkI_up {f NA NL : Int → Int} {k k2 b le tk : Int} (h : tkI f NA NL k b le tk) (h1 : tk = 1) (hk : k ≤ k2) : tkI f NA NL k2 b le tk := by
  rcases h with ⟨h, _⟩ | ⟨_, j, j0, j1, j2⟩
  · omega
  · exact Or.inr ⟨h1, j, j0, by omega, j2⟩
theorem flor_0 {x : Int} (h : 0 ≤ x) : flor x 0 = x := by
  unfold flor
  rw [show (0 : Int).toNat = 0 from rfl, Nat.or_zero]
  omega
theorem flor_in {x y : Int} (hx : 0 ≤ x ∧ x ≤ 31) (hy : 0 ≤ y ∧ y ≤ 31) : 0 ≤ flor x y ∧ flor x y ≤ 31 := by
  have h := z_orS x.toNat (by omega) y.toNat (by omega)
  unfold flor
  omega
theorem fland_in {x y : Int} (hx : 0 ≤ x ∧ x ≤ 31) (hy : 0 ≤ y ∧ y ≤ 31) : 0 ≤ fland x y ∧ fland x y ≤ 31 := by
  have h := z_andn32 x.toNat (by omega) y.toNat (by omega)
  unfold fland
  omega
section ArRows
variable {X : ab_X} {M : ab_Y} {d : Nat} {G : ab_G} {pc : Nat} {L : List (Option Value)} {st : List Value} {Q : Outcome → ab_G → Prop}
theorem zz_orE {x y : Int} (hd : decode M.2.2.1 pc = .ok (.ior, 1)) (hx : 0 ≤ x ∧ x ≤ 31) (hy : 0 ≤ y ∧ y ≤ 31) (k : ab_W X M d G (pc + 1) L (vz (flor x y) :: st) Q) : ab_W X M d G pc L (vz y :: vz x :: st) Q := by
  have h := z_orS x.toNat (by omega) y.toNat (by omega)
  refine ab_ior hd (ab_topi ?_ k)
  unfold flor
  rw [← h.2, show ((x.toNat : Nat) : Int) = x by omega, show ((y.toNat : Nat) : Int) = y by omega]
theorem zz_andE {x y : Int} (hd : decode M.2.2.1 pc = .ok (.iand, 1)) (hx : 0 ≤ x ∧ x ≤ 31) (hy : 0 ≤ y ∧ y ≤ 31) (k : ab_W X M d G (pc + 1) L (vz (fland x y) :: st) Q) : ab_W X M d G pc L (vz (-1 - y) :: vz x :: st) Q := by
  have h := z_andn32 x.toNat (by omega) y.toNat (by omega)
  refine ab_iand hd (ab_topi ?_ k)
  unfold fland
  rw [← h.2, show ((x.toNat : Nat) : Int) = x by omega, show ((y.toNat : Nat) : Int) = y by omega]
end ArRows
/-- told flags: what is on then, and where the : or the ) stands; nothing: a fault -/
def flgR (f : Int → Int) (n p fl v e : Int) : Prop := ∃ on off mi : Int, flgS f n (n + 3).toNat p 0 0 0 = some (e, on, off, mi) ∧ ¬ (mi = 1 ∧ off = 0) ∧ v = fland (flor fl on) off
def noflg (f : Int → Int) (n p : Int) : Prop := flgS f n (n + 3).toNat p 0 0 0 = none ∨ ∃ e on mi : Int, flgS f n (n + 3).toNat p 0 0 0 = some (e, on, 0, mi) ∧ mi = 1
theorem fof_w {c : Int} (h : ¬ fof c = 0) : ¬ c = -1 := fun e => h (by rw [e]; rfl)
/-- a group's head at p that is none: which fault -/
def opF (f : Int → Int) (n p flg grp dp : Int) (NA NL : Int → Int) (w : Int) : Prop := (¬ tpk f n (p + 1) = 63 ∧ ((30 ≤ dp ∧ w = 12) ∨ (dp < 30 ∧ 9 ≤ grp ∧ w = 13))) ∨ (tpk f n (p + 1) = 63 ∧ (tpk f n (p + 1 + 1) = 80 ∧ tpk f n (p + 1 + 2) = 60) ∧ ∃ nm : Int, nmR f n (p + 4) nm ∧ ((nm = 0 ∧ w = 10) ∨ (¬ nm = 0 ∧ tkI f NA NL (grp + 1) (p + 4) nm 1 ∧ w = 11) ∨ (¬ nm = 0 ∧ tkI f NA NL (grp + 1) (p + 4) nm 0 ∧ ((30 ≤ dp ∧ w = 12) ∨ (dp < 30 ∧ 9 ≤ grp ∧ w = 13))))) ∨ (tpk f n (p + 1) = 63 ∧ ¬ (tpk f n (p + 1 + 1) = 80 ∧ tpk f n (p + 1 + 2) = 60) ∧ ((noflg f n (p + 2) ∧ w = 10) ∨ ∃ v e : Int, flgR f n (p + 2) flg v e ∧ tpk f n e = 58 ∧ 30 ≤ dp ∧ w = 12))
