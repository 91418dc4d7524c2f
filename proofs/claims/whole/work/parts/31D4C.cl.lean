/-! what a class says: its items, its faults -/
theorem tpk_atI {f : Int → Int} {n i : Int} (h : 0 ≤ i ∧ i < n) : tpk f n i = f i := if_pos h
def kset (k : Nat) (c : Int) : Prop := cs_mem (fun i => (zTL k).getD i.toNat 0) (((zTL k).length / 2 : Nat) : Int) c
def kmem (k : Nat) (b c : Int) : Prop := (b = 0 ∧ kset k c) ∨ (b = 1 ∧ 0 ≤ c ∧ c ≤ 1114111 ∧ ¬ kset k c)
theorem tbI.atE {o : Nat → Nat} {G : ab_G} {z : Nat} (h : tbI o G z) (k : Nat) (h1 : 1 ≤ k) (h2 : k ≤ 14) : ∃ (w : Nat) (q : Int → Int) (m : Int), cc o G k k (za w q) ∧ (↑w = 2 * m ∧ 0 ≤ m ∧ m ≤ 9) ∧ cs_can q m ∧ (∀ c, cs_mem q m c ↔ kset k c) := by
  have t := zTL_ok k (by omega)
  exact ⟨_, _, (((zTL k).length / 2 : Nat) : Int), h k h1 h2, by omega, canB_ok t.1, fun _ => Iff.rfl⟩
def nkd (f : Int → Int) (n q : Int) : Prop := tpk f n q = 91 ∧ tpk f n (q + 1) = 58
def one (al lo hi c : Int) : Prop := (al = 1 ∧ alike lo hi c) ∨ (al = 0 ∧ lo ≤ c ∧ c ≤ hi)
/-- a - that stands between two members -/
def rsg (f : Int → Int) (n q : Int) : Prop := tpk f n q = 45 ∧ ¬ tpk f n (q + 1) = 93 ∧ ¬ tpk f n (q + 1) = -1
/-- an item of a class at q: what is in it then, what is next -/
def clS (f : Int → Int) (n al q : Int) (P : Int → Prop) (q2 : Int) (P2 : Int → Prop) : Prop :=
  (nkd f n q ∧ ∃ (k : Nat) (b : Int), nk2 f n q k b q2 ∧ ∀ c, P2 c ↔ P c ∨ kmem k b c)
  ∨ (¬ nkd f n q ∧ ∃ (k : Nat) (b : Int), (tpk f n q = 92 ∧ esc2 f n q q2 k b) ∧ ∀ c, P2 c ↔ P c ∨ kmem k b c)
  ∨ (¬ nkd f n q ∧ ∃ v : Int, (mem1 f n q v q2 ∧ 0 ≤ v) ∧ ¬ rsg f n q2 ∧ ∀ c, P2 c ↔ P c ∨ one al v v c)
  ∨ (¬ nkd f n q ∧ ∃ v q1 v2 : Int, (mem1 f n q v q1 ∧ 0 ≤ v) ∧ rsg f n q1 ∧ ¬ nkd f n (q1 + 1) ∧ mem1 f n (q1 + 1) v2 q2 ∧ v ≤ v2 ∧ ∀ c, P2 c ↔ P c ∨ one al v v2 c)
/-- a fault at q in the class that begins at op -/
def clF (f : Int → Int) (n op q w r : Int) : Prop :=
  (nkd f n q ∧ nk3 f n q ∧ w = 7 ∧ r = q)
  ∨ (¬ nkd f n q ∧ mem3 f n q op w r)
  ∨ (¬ nkd f n q ∧ ∃ v q1 : Int, (mem1 f n q v q1 ∧ 0 ≤ v) ∧ rsg f n q1 ∧ ((nkd f n (q1 + 1) ∧ w = 6 ∧ r = q) ∨ (¬ nkd f n (q1 + 1) ∧ ((w = 6 ∧ r = q ∧ ∃ (q2 : Int) (k : Nat) (b : Int), tpk f n (q1 + 1) = 92 ∧ esc2 f n (q1 + 1) q2 k b) ∨ mem3 f n (q1 + 1) op w r ∨ (w = 6 ∧ r = q ∧ ∃ v2 q2 : Int, (mem1 f n (q1 + 1) v2 q2 ∧ 0 ≤ v2) ∧ v2 < v)))))
/-- what was read of a class from fi on: up to q, P is in it -/
def clK (f : Int → Int) (n al fi : Int) : Nat → Int → (Int → Prop) → Prop
  | 0, q, P => q = fi ∧ ∀ c, ¬ P c
  | k + 1, q2, P2 => ∃ (q : Int) (P : Int → Prop), clK f n al fi k q P ∧ ¬ (tpk f n q = 93 ∧ fi < q) ∧ clS f n al q P q2 P2
def clT (f : Int → Int) (n al fi q : Int) (P : Int → Prop) : Prop := ∃ k : Nat, clK f n al fi k q P
theorem clT_nil {f : Int → Int} {n al fi : Int} (P : Int → Prop) (h : ∀ c, ¬ P c) : clT f n al fi fi P := ⟨0, rfl, h⟩
theorem clT_cons {f : Int → Int} {n al fi : Int} (q : Int) (P : Int → Prop) (q2 : Int) (P2 : Int → Prop) (h : clT f n al fi q P) (hn : ¬ (tpk f n q = 93 ∧ fi < q)) (hs : clS f n al q P q2 P2) : clT f n al fi q2 P2 := by
  obtain ⟨k, h⟩ := h
  exact ⟨k + 1, q, P, h, hn, hs⟩
def clN (f : Int → Int) (n al op fi w r : Int) : Prop := ∃ (q : Int) (P : Int → Prop), clT f n al fi q P ∧ ¬ (tpk f n q = 93 ∧ fi < q) ∧ clF f n op q w r
def clH (f : Int → Int) (n al op fi q : Int) (P : Int → Prop) (fa fp : Int) : Prop := (fa = 0 ∧ clT f n al fi q P) ∨ (1 ≤ fa ∧ clN f n al op fi fa fp)
theorem clH_0 {f : Int → Int} {n al op fi q fa fp : Int} {P : Int → Prop} (h0 : fa = 0) (hq : q = fi) (h : ∀ c, ¬ P c) : clH f n al op fi q P fa fp := by
  subst hq
  exact Or.inl ⟨h0, clT_nil P h⟩
theorem clH_t {f : Int → Int} {n al op fi q fa fp : Int} {P : Int → Prop} (h : clH f n al op fi q P fa fp) (h0 : fa = 0) : clT f n al fi q P := by
  rcases h with ⟨_, h⟩ | ⟨h, _⟩
  · exact h
  · omega
theorem clH_s {f : Int → Int} {n al op fi q q2 fa fp : Int} {P P2 : Int → Prop} (h0 : fa = 0) (h : clT f n al fi q P) (hn : ¬ (tpk f n q = 93 ∧ fi < q)) (hs : clS f n al q P q2 P2) : clH f n al op fi q2 P2 fa fp := Or.inl ⟨h0, clT_cons q P q2 P2 h hn hs⟩
theorem clH_f {f : Int → Int} {n al op fi q q2 w r : Int} {P P2 : Int → Prop} (h : clT f n al fi q P) (hn : ¬ (tpk f n q = 93 ∧ fi < q)) (hw : 1 ≤ w) (hf : clF f n op q w r) : clH f n al op fi q2 P2 w r := Or.inr ⟨hw, q, P, h, hn, hf⟩
theorem clH_w {f : Int → Int} {n al op fi q fa fp : Int} {P : Int → Prop} (h : clH f n al op fi q P fa fp) (h0 : ¬ fa = 0) : clN f n al op fi fa fp := by
  rcases h with ⟨h, _⟩ | ⟨_, h⟩
  · exact absurd h h0
  · exact h
theorem mem1_45 {f : Int → Int} {n q : Int} (hb : bytes f n) (h : tpk f n q = 45) : mem1 f n q 45 (q + 1) := by
  have hw := tpk_w (f := f) (n := n) (i := q) (by omega)
  have e : f q = 45 := (tpk_atI (f := f) hw).symm.trans h
  refine Or.inl ⟨hw.2, by omega, ?_, by unfold wd; rw [if_pos (by omega)]⟩
  unfold u8
  rw [if_neg (by omega), e, if_pos (by omega)]
theorem nk2_w {f : Int → Int} {n p : Int} {k : Nat} {b q : Int} (h : nk2 f n p k b q) : q ≤ n := by
  rcases h with ⟨_, _, h, e⟩ | ⟨_, _, h, e⟩
  · have := (nmk_w h).1
    omega
  · have := (nmk_w h).1
    omega
/-- a - at the very end: the class is open -/
theorem clN_end {f : Int → Int} {n al op fi q q1 v : Int} {P : Int → Prop} (hb : bytes f n) (h : clT f n al fi q P) (hn : ¬ (tpk f n q = 93 ∧ fi < q)) (hk : ¬ nkd f n q) (h1 : mem1 f n q v q1 ∧ 0 ≤ v) (h2 : tpk f n q1 = 45) (h3 : tpk f n (q1 + 1) = -1) : clN f n al op fi 4 op := by
  have t1 : clT f n al fi q1 (fun c => P c ∨ one al v v c) := clT_cons q P q1 _ h hn (Or.inr (Or.inr (Or.inl ⟨hk, v, h1, fun z => z.2.2 h3, fun _ => Iff.rfl⟩)))
  have t2 : clT f n al fi (q1 + 1) (fun c => (P c ∨ one al v v c) ∨ one al 45 45 c) := clT_cons q1 _ (q1 + 1) _ t1 (fun z => by omega) (Or.inr (Or.inr (Or.inl ⟨fun z => by have := z.1; omega, 45, ⟨mem1_45 hb h2, by decide⟩, fun z => by have := z.1; omega, fun _ => Iff.rfl⟩)))
  have hw := tpk_w (f := f) (n := n) (i := q1) (by omega)
  have hnn : n ≤ q1 + 1 := by
    by_cases c : q1 + 1 < n
    · have e : tpk f n (q1 + 1) = f (q1 + 1) := tpk_atI ⟨by omega, c⟩
      have := hb (q1 + 1) (by omega) c
      omega
    · omega
  exact ⟨q1 + 1, _, t2, fun z => by omega, Or.inr (Or.inl ⟨fun z => by have := z.1; omega, Or.inl ⟨hnn, rfl, rfl⟩⟩)⟩
theorem km0 {P P2 : Int → Prop} {q : Int → Int} {m : Int} {k : Nat} (hp : ∀ c : Int, P2 c ↔ P c ∨ cs_mem q m c) (hm : ∀ c, cs_mem q m c ↔ kset k c) : ∀ c, P2 c ↔ P c ∨ kmem k 0 c := fun c => by
  rw [hp c, hm c]
  unfold kmem
  exact ⟨fun z => z.imp id (fun y => Or.inl ⟨rfl, y⟩), fun z => z.imp id (fun y => by rcases y with y | y; (exact y.2); (exact absurd y.1 (by decide)))⟩
theorem km1 {P P2 : Int → Prop} {q : Int → Int} {m : Int} {k : Nat} (hp : ∀ c : Int, P2 c ↔ P c ∨ (0 ≤ c ∧ c ≤ 1114111 ∧ ¬ cs_mem q m c)) (hm : ∀ c, cs_mem q m c ↔ kset k c) : ∀ c, P2 c ↔ P c ∨ kmem k 1 c := fun c => by
  rw [hp c, hm c]
  unfold kmem
  exact ⟨fun z => z.imp id (fun y => Or.inr ⟨rfl, y⟩), fun z => z.imp id (fun y => by rcases y with y | y; (exact absurd y.1 (by decide)); (exact y.2))⟩
theorem on1 {P P2 : Int → Prop} {al lo hi : Int} (ha : al = 1) (hp : ∀ c : Int, P2 c ↔ P c ∨ alike lo hi c) : ∀ c, P2 c ↔ P c ∨ one al lo hi c := fun c => by
  rw [hp c]
  unfold one
  exact ⟨fun z => z.imp id (fun y => Or.inl ⟨ha, y⟩), fun z => z.imp id (fun y => by rcases y with y | y; (exact y.2); (exact absurd (ha.symm.trans y.1) (by decide)))⟩
theorem on0 {P P2 : Int → Prop} {al lo hi : Int} (ha : al = 0) (hp : ∀ c : Int, P2 c ↔ P c ∨ (lo ≤ c ∧ c ≤ hi)) : ∀ c, P2 c ↔ P c ∨ one al lo hi c := fun c => by
  rw [hp c]
  unfold one
  exact ⟨fun z => z.imp id (fun y => Or.inr ⟨ha, y⟩), fun z => z.imp id (fun y => by rcases y with y | y; (exact absurd (ha.symm.trans y.1) (by decide)); (exact y.2))⟩
theorem mem1_t {f : Int → Int} {n q v q2 : Int} (hb : bytes f n) (h : mem1 f n q v q2) (hv : 0 ≤ v) : ¬ tpk f n q = -1 := fun e => by
  rcases h with ⟨h1, h2, h3, h4⟩ | ⟨h1, _⟩
  · by_cases c : 0 ≤ q
    · have := hb q c h1
      rw [tpk_atI ⟨c, h1⟩] at e
      omega
    · have := u8_w (p := q) hb (by rw [← h3]; exact hv)
      omega
  · omega
section ClX
variable {f : Int → Int} {n al op fi q q1 q2 v v2 w r fp : Int} {P P2 : Int → Prop} {k : Nat} {b : Int}
theorem clH_m3 (hb : bytes f n) (h : clT f n al fi q P) (hn : ¬ (tpk f n q = 93 ∧ fi < q)) (hk : ¬ nkd f n q) (h1 : mem1 f n q v q1 ∧ 0 ≤ v) (h2 : tpk f n q1 = 45) (h3 : ¬ tpk f n (q1 + 1) = 93) (hk2 : ¬ nkd f n (q1 + 1)) (hm : mem3 f n (q1 + 1) op w r) (hw : 1 ≤ w) : clH f n al op fi q2 P2 w r := by
  by_cases e : tpk f n (q1 + 1) = -1
  · have hw1 := tpk_w (f := f) (n := n) (i := q1) (by omega)
    have hh : w = 4 ∧ r = op := by
      rcases hm with hm | hm | hm | hm
      · exact hm.2
      · have := hb (q1 + 1) (by omega) hm.1
        rw [tpk_atI ⟨by omega, hm.1⟩] at e
        omega
      · have := hm.1; omega
      · have := hm.1; omega
    rw [hh.1, hh.2]
    exact Or.inr ⟨by decide, clN_end hb h hn hk h1 h2 e⟩
  · exact clH_f h hn hw (Or.inr (Or.inr ⟨hk, v, q1, h1, ⟨h2, h3, e⟩, Or.inr ⟨hk2, Or.inr (Or.inl hm)⟩⟩))
theorem clH_nk (h : clT f n al fi q P) (hn : ¬ (tpk f n q = 93 ∧ fi < q)) (hk : ¬ nkd f n q) (h1 : mem1 f n q v q1 ∧ 0 ≤ v) (h2 : tpk f n q1 = 45) (h3 : ¬ tpk f n (q1 + 1) = 93) (hk2 : nkd f n (q1 + 1)) : clH f n al op fi q2 P2 6 q :=
  clH_f h hn (by decide) (Or.inr (Or.inr ⟨hk, v, q1, h1, ⟨h2, h3, by have := hk2.1; omega⟩, Or.inl ⟨hk2, rfl, rfl⟩⟩))
theorem clH_e2 (h : clT f n al fi q P) (hn : ¬ (tpk f n q = 93 ∧ fi < q)) (hk : ¬ nkd f n q) (h1 : mem1 f n q v q1 ∧ 0 ≤ v) (h2 : tpk f n q1 = 45) (h3 : ¬ tpk f n (q1 + 1) = 93) (hk2 : ¬ nkd f n (q1 + 1)) (he : tpk f n (q1 + 1) = 92 ∧ esc2 f n (q1 + 1) v2 k b) : clH f n al op fi q2 P2 6 q :=
  clH_f h hn (by decide) (Or.inr (Or.inr ⟨hk, v, q1, h1, ⟨h2, h3, by have := he.1; omega⟩, Or.inr ⟨hk2, Or.inl ⟨rfl, rfl, v2, k, b, he.1, he.2⟩⟩⟩))
theorem clH_lt (hb : bytes f n) (h : clT f n al fi q P) (hn : ¬ (tpk f n q = 93 ∧ fi < q)) (hk : ¬ nkd f n q) (h1 : mem1 f n q v q1 ∧ 0 ≤ v) (h2 : tpk f n q1 = 45) (h3 : ¬ tpk f n (q1 + 1) = 93) (hk2 : ¬ nkd f n (q1 + 1)) (hm : mem1 f n (q1 + 1) v2 w) (hv : 0 ≤ v2) (hl : v2 < v) : clH f n al op fi q2 P2 6 q :=
  clH_f h hn (by decide) (Or.inr (Or.inr ⟨hk, v, q1, h1, ⟨h2, h3, mem1_t hb hm hv⟩, Or.inr ⟨hk2, Or.inr (Or.inr ⟨rfl, rfl, v2, w, ⟨hm, hv⟩, hl⟩)⟩⟩))
theorem clH_rg {fa : Int} (h0 : fa = 0) (hb : bytes f n) (h : clT f n al fi q P) (hn : ¬ (tpk f n q = 93 ∧ fi < q)) (hk : ¬ nkd f n q) (h1 : mem1 f n q v q1 ∧ 0 ≤ v) (h2 : tpk f n q1 = 45) (h3 : ¬ tpk f n (q1 + 1) = 93) (hk2 : ¬ nkd f n (q1 + 1)) (hm : mem1 f n (q1 + 1) v2 q2) (hv : 0 ≤ v2) (hl : v ≤ v2) (hp : ∀ c, P2 c ↔ P c ∨ one al v v2 c) : clH f n al op fi q2 P2 fa fp :=
  clH_s h0 h hn (Or.inr (Or.inr (Or.inr ⟨hk, v, q1, v2, h1, ⟨h2, h3, mem1_t hb hm hv⟩, hk2, hm, hl, hp⟩)))
end ClX
/-- how a class begins: with a ^ or without -/
def clb (f : Int → Int) (n p no fi : Int) : Prop := (tpk f n (p + 1) = 94 ∧ no = 1 ∧ fi = p + 2) ∨ (¬ tpk f n (p + 1) = 94 ∧ no = 0 ∧ fi = p + 1)
def clno (no : Int) (P : Int → Prop) (c : Int) : Prop := ((no = 0 ∧ P c) ∨ (no = 1 ∧ 0 ≤ c ∧ c ≤ 1114111 ∧ ¬ P c)) ∧ ¬ cs_gap c
/-- no fault, no place -/
def fok (fa fp : Int) : Prop := fa = 0 → fp = -1
theorem fok_0 {fa fp : Int} (h : fp = -1) : fok fa fp := fun _ => h
theorem fok_n {fa fp : Int} (h : 1 ≤ fa) : fok fa fp := fun e => absurd e (by omega)
