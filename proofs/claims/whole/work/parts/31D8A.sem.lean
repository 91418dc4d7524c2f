/-! what a pattern means: the ways through it, in order; what a program does -/
abbrev Gr := Int → Int
abbrev Sm := (Int → Int) → Int → Int → Gr → List (Int × Gr)
def smI : Sm := fun _ _ p g => [(p, g)]
noncomputable def smS (S : Int → Prop) : Sm := fun f n p g => @ite _ (0 ≤ u8 f n p ∧ S (u8 f n p)) (Classical.propDecidable _) [(p + wd (u8 f n p), g)] []
def smA : Sm := fun _ n p g => if p < n then [(p + 1, g)] else []
noncomputable def smQ (a : Int) : Sm := fun f n p g => @ite _ (hld f n p a) (Classical.propDecidable _) [(p, g)] []
def smC (u v : Sm) : Sm := fun f n p g => (u f n p g).flatMap (fun x => v f n x.1 x.2)
def smO (u v : Sm) : Sm := fun f n p g => u f n p g ++ v f n p g
def smG (k : Int) (v : Sm) : Sm := fun f n p g => (v f n p (zu g (2 * k) p)).map (fun x => (x.1, zu x.2 (2 * k + 1) x.1))
/-- as often as one likes, each time with a byte -/
def smL (lz : Prop) [Decidable lz] (v : Sm) (f : Int → Int) (n : Int) : Nat → Int → Gr → List (Int × Gr)
  | 0, p, g => [(p, g)]
  | m + 1, p, g => if lz then (p, g) :: (v f n p g).flatMap (fun x => if p < x.1 then smL lz v f n m x.1 x.2 else []) else (v f n p g).flatMap (fun x => if p < x.1 then smL lz v f n m x.1 x.2 else []) ++ [(p, g)]
theorem smL_1 {lz : Prop} [Decidable lz] {v : Sm} {f : Int → Int} {n : Int} {m : Nat} {p : Int} {g : Gr} : smL lz v f n (m + 1) p g = if lz then (p, g) :: (v f n p g).flatMap (fun x => if p < x.1 then smL lz v f n m x.1 x.2 else []) else (v f n p g).flatMap (fun x => if p < x.1 then smL lz v f n m x.1 x.2 else []) ++ [(p, g)] := rfl
def smT (lz : Prop) [Decidable lz] (v : Sm) : Sm := fun f n p g => smL lz v f n (n - p).toNat p g
/-- at most m times -/
def smU (lz : Prop) [Decidable lz] (v : Sm) : Nat → Sm
  | 0 => smI
  | m + 1 => if lz then smO smI (smC v (smU lz v m)) else smO (smC v (smU lz v m)) smI
theorem smU_1 {lz : Prop} [Decidable lz] {v : Sm} {m : Nat} : smU lz v (m + 1) = if lz then smO smI (smC v (smU lz v m)) else smO (smC v (smU lz v m)) smI := rfl
/-- just m times, then w -/
def smN (v w : Sm) : Nat → Sm
  | 0 => w
  | m + 1 => smC v (smN v w m)
/-- ways lead on, and not beyond the end -/
def gdS (v : Sm) : Prop := ∀ (f : Int → Int) (n p : Int) (g : Gr), bytes f n → 0 ≤ p → p ≤ n → ∀ x ∈ v f n p g, p ≤ x.1 ∧ x.1 ≤ n
/-- each way takes a byte -/
def nnS (v : Sm) : Prop := ∀ (f : Int → Int) (n p : Int) (g : Gr), bytes f n → 0 ≤ p → p ≤ n → ∀ x ∈ v f n p g, p < x.1
theorem gd_I : gdS smI := fun f n p g hb h0 h1 x hx => by
  have e : x = (p, g) := List.mem_singleton.mp hx
  rw [e]; exact ⟨Int.le_refl p, h1⟩
theorem gd_S {S : Int → Prop} : gdS (smS S) := fun f n p g hb h0 h1 x hx => by
  unfold smS at hx
  split at hx
  · rename_i c
    have e := List.mem_singleton.mp hx
    rw [e]
    have t := u8_w (p := p) hb (by omega)
    have w := wd_in (u8 f n p)
    exact ⟨by show p ≤ p + wd (u8 f n p); omega, by show p + wd (u8 f n p) ≤ n; omega⟩
  · exact absurd hx List.not_mem_nil
theorem nn_S {S : Int → Prop} : nnS (smS S) := fun f n p g hb h0 h1 x hx => by
  unfold smS at hx
  split at hx
  · have e := List.mem_singleton.mp hx
    rw [e]
    have w := wd_in (u8 f n p)
    show p < p + wd (u8 f n p); omega
  · exact absurd hx List.not_mem_nil
theorem gd_A : gdS smA := fun f n p g hb h0 h1 x hx => by
  unfold smA at hx
  split at hx
  · have e := List.mem_singleton.mp hx
    rw [e]
    exact ⟨by show p ≤ p + 1; omega, by show p + 1 ≤ n; omega⟩
  · exact absurd hx List.not_mem_nil
theorem nn_A : nnS smA := fun f n p g hb h0 h1 x hx => by
  unfold smA at hx
  split at hx
  · have e := List.mem_singleton.mp hx
    rw [e]
    show p < p + 1; omega
  · exact absurd hx List.not_mem_nil
theorem gd_Q {a : Int} : gdS (smQ a) := fun f n p g hb h0 h1 x hx => by
  unfold smQ at hx
  split at hx
  · have e := List.mem_singleton.mp hx
    rw [e]; exact ⟨Int.le_refl p, h1⟩
  · exact absurd hx List.not_mem_nil
theorem gd_C {u v : Sm} (hu : gdS u) (hv : gdS v) : gdS (smC u v) := fun f n p g hb h0 h1 x hx => by
  obtain ⟨y, hy, hx⟩ := List.mem_flatMap.mp hx
  have a := hu f n p g hb h0 h1 y hy
  have b := hv f n y.1 y.2 hb (by omega) a.2 x hx
  omega
theorem nn_C1 {u v : Sm} (hu : gdS u) (hv : gdS v) (h : nnS u) : nnS (smC u v) := fun f n p g hb h0 h1 x hx => by
  obtain ⟨y, hy, hx⟩ := List.mem_flatMap.mp hx
  have a := hu f n p g hb h0 h1 y hy
  have c := h f n p g hb h0 h1 y hy
  have b := hv f n y.1 y.2 hb (by omega) a.2 x hx
  omega
theorem nn_C2 {u v : Sm} (hu : gdS u) (h : nnS v) : nnS (smC u v) := fun f n p g hb h0 h1 x hx => by
  obtain ⟨y, hy, hx⟩ := List.mem_flatMap.mp hx
  have a := hu f n p g hb h0 h1 y hy
  have b := h f n y.1 y.2 hb (by omega) a.2 x hx
  omega
theorem gd_O {u v : Sm} (hu : gdS u) (hv : gdS v) : gdS (smO u v) := fun f n p g hb h0 h1 x hx => by
  rcases List.mem_append.mp hx with hx | hx
  · exact hu f n p g hb h0 h1 x hx
  · exact hv f n p g hb h0 h1 x hx
theorem nn_O {u v : Sm} (hu : nnS u) (hv : nnS v) : nnS (smO u v) := fun f n p g hb h0 h1 x hx => by
  rcases List.mem_append.mp hx with hx | hx
  · exact hu f n p g hb h0 h1 x hx
  · exact hv f n p g hb h0 h1 x hx
theorem gd_G {k : Int} {v : Sm} (hv : gdS v) : gdS (smG k v) := fun f n p g hb h0 h1 x hx => by
  obtain ⟨y, hy, e⟩ := List.mem_map.mp hx
  have t := hv f n p _ hb h0 h1 y hy
  rw [← e]; exact t
theorem nn_G {k : Int} {v : Sm} (hv : nnS v) : nnS (smG k v) := fun f n p g hb h0 h1 x hx => by
  obtain ⟨y, hy, e⟩ := List.mem_map.mp hx
  have t := hv f n p _ hb h0 h1 y hy
  rw [← e]; exact t
theorem gd_L {lz : Prop} [Decidable lz] {v : Sm} (hv : gdS v) {f : Int → Int} {n : Int} (hb : bytes f n) : ∀ (m : Nat) (p : Int) (g : Gr), 0 ≤ p → p ≤ n → ∀ x ∈ smL lz v f n m p g, p ≤ x.1 ∧ x.1 ≤ n := by
  intro m
  induction m with
  | zero =>
    intro p g h0 h1 x hx
    have e : x = (p, g) := List.mem_singleton.mp hx
    rw [e]; exact ⟨Int.le_refl p, h1⟩
  | succ m ih =>
    intro p g h0 h1 x hx
    have key : ∀ y ∈ (v f n p g).flatMap (fun x => if p < x.1 then smL lz v f n m x.1 x.2 else []), p ≤ y.1 ∧ y.1 ≤ n := by
      intro y hy
      obtain ⟨z, hz, hy⟩ := List.mem_flatMap.mp hy
      have a := hv f n p g hb h0 h1 z hz
      split at hy
      · have b := ih z.1 z.2 (by omega) a.2 y hy; omega
      · exact absurd hy List.not_mem_nil
    rw [smL_1] at hx
    split at hx
    · rcases List.mem_cons.mp hx with e | hx
      · rw [e]; exact ⟨Int.le_refl p, h1⟩
      · exact key x hx
    · rcases List.mem_append.mp hx with hx | hx
      · exact key x hx
      · have e := List.mem_singleton.mp hx
        rw [e]; exact ⟨Int.le_refl p, h1⟩
theorem gd_T {lz : Prop} [Decidable lz] {v : Sm} (hv : gdS v) : gdS (smT lz v) := fun _ _ p g hb h0 h1 x hx => gd_L hv hb _ p g h0 h1 x hx
theorem gd_U {lz : Prop} [Decidable lz] {v : Sm} (hv : gdS v) : ∀ m : Nat, gdS (smU lz v m) := by
  intro m
  induction m with
  | zero => exact gd_I
  | succ m ih =>
    rw [smU_1]
    split
    · exact gd_O gd_I (gd_C hv ih)
    · exact gd_O (gd_C hv ih) gd_I
theorem gd_N {v w : Sm} (hv : gdS v) (hw : gdS w) : ∀ m : Nat, gdS (smN v w m) := by
  intro m
  induction m with
  | zero => exact hw
  | succ m ih => exact gd_C hv ih
theorem fm_cg {α β : Type} {l : List α} {f g : α → List β} (h : ∀ x ∈ l, f x = g x) : l.flatMap f = l.flatMap g := by
  induction l with
  | nil => rfl
  | cons a t ih => rw [List.flatMap_cons, List.flatMap_cons, h a (List.mem_cons.mpr (Or.inl rfl)), ih (fun x hx => h x (List.mem_cons_of_mem _ hx))]
theorem fm_nil {α β : Type} {l : List α} {f : α → List β} (h : ∀ x ∈ l, f x = []) : l.flatMap f = [] := by
  induction l with
  | nil => rfl
  | cons a t ih => rw [List.flatMap_cons, h a (List.mem_cons.mpr (Or.inl rfl)), ih (fun x hx => h x (List.mem_cons_of_mem _ hx))]; rfl
theorem fm_fm {α β γ : Type} {l : List α} {f : α → List β} {g : β → List γ} : (l.flatMap f).flatMap g = l.flatMap (fun x => (f x).flatMap g) := by
  induction l with
  | nil => rfl
  | cons a t ih => rw [List.flatMap_cons, List.flatMap_append, ih, List.flatMap_cons]
theorem fm_map {α β γ : Type} {l : List α} {f : α → β} {g : β → List γ} : (l.map f).flatMap g = l.flatMap (fun x => g (f x)) := by
  induction l with
  | nil => rfl
  | cons a t ih => rw [List.map_cons, List.flatMap_cons, ih, List.flatMap_cons]
theorem fm_1 {α β : Type} {a : α} {f : α → List β} : [a].flatMap f = f a := by
  rw [List.flatMap_cons]; exact List.append_nil _
/-- more turns than bytes make no difference -/
theorem smL_n {lz : Prop} [Decidable lz] {v : Sm} (hv : gdS v) {f : Int → Int} {n : Int} (hb : bytes f n) : ∀ (m k : Nat) (p : Int) (g : Gr), 0 ≤ p → p ≤ n → (n - p).toNat ≤ m → (n - p).toNat ≤ k → smL lz v f n m p g = smL lz v f n k p g := by
  have end_ : ∀ (k : Nat) (p : Int) (g : Gr), 0 ≤ p → p ≤ n → (n - p).toNat = 0 → smL lz v f n k p g = [(p, g)] := by
    intro k p g h0 h1 h2
    cases k with
    | zero => rfl
    | succ k =>
      have e : (v f n p g).flatMap (fun x => if p < x.1 then smL lz v f n k x.1 x.2 else []) = [] := fm_nil (fun x hx => by
        have a := hv f n p g hb h0 h1 x hx
        exact if_neg (by omega))
      rw [smL_1, e]
      split <;> rfl
  intro m
  induction m with
  | zero =>
    intro k p g h0 h1 h2 h3
    rw [end_ k p g h0 h1 (by omega)]; rfl
  | succ m ih =>
    intro k p g h0 h1 h2 h3
    cases k with
    | zero => rw [end_ (m + 1) p g h0 h1 (by omega)]; rfl
    | succ k =>
      have e : (v f n p g).flatMap (fun x => if p < x.1 then smL lz v f n m x.1 x.2 else []) = (v f n p g).flatMap (fun x => if p < x.1 then smL lz v f n k x.1 x.2 else []) := fm_cg (fun x hx => by
        have a := hv f n p g hb h0 h1 x hx
        by_cases c : p < x.1
        · rw [if_pos c, if_pos c]; exact ih k x.1 x.2 (by omega) a.2 (by omega) (by omega)
        · rw [if_neg c, if_neg c])
      rw [smL_1, smL_1, e]
theorem smT_e {lz : Prop} [Decidable lz] {v : Sm} (hv : gdS v) {f : Int → Int} {n p : Int} {g : Gr} (hb : bytes f n) (h0 : 0 ≤ p) (h1 : p ≤ n) : smT lz v f n p g = if lz then (p, g) :: (v f n p g).flatMap (fun x => if p < x.1 then smT lz v f n x.1 x.2 else []) else (v f n p g).flatMap (fun x => if p < x.1 then smT lz v f n x.1 x.2 else []) ++ [(p, g)] := by
  have e : (v f n p g).flatMap (fun x => if p < x.1 then smL lz v f n (n - p).toNat x.1 x.2 else []) = (v f n p g).flatMap (fun x => if p < x.1 then smT lz v f n x.1 x.2 else []) := fm_cg (fun x hx => by
    have a := hv f n p g hb h0 h1 x hx
    by_cases c : p < x.1
    · rw [if_pos c, if_pos c]; exact smL_n hv hb _ _ x.1 x.2 (by omega) a.2 (by omega) (Nat.le_refl _)
    · rw [if_neg c, if_neg c])
  have t : smT lz v f n p g = smL lz v f n ((n - p).toNat + 1) p g := smL_n hv hb _ _ p g h0 h1 (Nat.le_refl _) (by omega)
  rw [t, smL_1, e]
/-! programs: tg 0 takes a character, 1 a byte, 2 asks, 3 splits, 4 saves, 5 arrives, 6 is dead -/
def WL (tg a b : Int → Int) (mm : Int → Int → Prop) (f : Int → Int) (n : Int) : Nat → Int → Int → Gr → List (Int × Gr) → Prop
  | 0, _, _, _, _ => False
  | m + 1, s, p, g, L => (tg s = 0 ∧ (((0 ≤ u8 f n p ∧ mm s (u8 f n p)) ∧ WL tg a b mm f n m (a s) (p + wd (u8 f n p)) g L) ∨ (¬ (0 ≤ u8 f n p ∧ mm s (u8 f n p)) ∧ L = []))) ∨ (tg s = 1 ∧ ((p < n ∧ WL tg a b mm f n m (a s) (p + 1) g L) ∨ (¬ p < n ∧ L = []))) ∨ (tg s = 2 ∧ ((hld f n p (b s) ∧ WL tg a b mm f n m (a s) p g L) ∨ (¬ hld f n p (b s) ∧ L = []))) ∨ (tg s = 3 ∧ ∃ L1 L2 : List (Int × Gr), WL tg a b mm f n m (a s) p g L1 ∧ WL tg a b mm f n m (b s) p g L2 ∧ L = L1 ++ L2) ∨ (tg s = 4 ∧ WL tg a b mm f n m (a s) p (zu g (b s) p) L) ∨ (tg s = 5 ∧ L = [(p, g)]) ∨ (tg s = 6 ∧ L = [])
def WW (tg a b : Int → Int) (mm : Int → Int → Prop) (f : Int → Int) (n s p : Int) (g : Gr) (L : List (Int × Gr)) : Prop := ∃ m : Nat, WL tg a b mm f n m s p g L
section Wl
variable {tg a b : Int → Int} {mm : Int → Int → Prop} {f : Int → Int} {n : Int}
theorem WL_up : ∀ (m k : Nat) (s p : Int) (g : Gr) (L : List (Int × Gr)), WL tg a b mm f n m s p g L → m ≤ k → WL tg a b mm f n k s p g L := by
  intro m
  induction m with
  | zero => intro k s p g L h; exact h.elim
  | succ m ih =>
    intro k s p g L h hk
    cases k with
    | zero => omega
    | succ k =>
      have hk : m ≤ k := by omega
      rcases h with ⟨t, h | h⟩ | ⟨t, h | h⟩ | ⟨t, h | h⟩ | ⟨t, L1, L2, h1, h2, h3⟩ | ⟨t, h⟩ | h | h
      · exact Or.inl ⟨t, Or.inl ⟨h.1, ih k _ _ _ _ h.2 hk⟩⟩
      · exact Or.inl ⟨t, Or.inr h⟩
      · exact Or.inr (Or.inl ⟨t, Or.inl ⟨h.1, ih k _ _ _ _ h.2 hk⟩⟩)
      · exact Or.inr (Or.inl ⟨t, Or.inr h⟩)
      · exact Or.inr (Or.inr (Or.inl ⟨t, Or.inl ⟨h.1, ih k _ _ _ _ h.2 hk⟩⟩))
      · exact Or.inr (Or.inr (Or.inl ⟨t, Or.inr h⟩))
      · exact Or.inr (Or.inr (Or.inr (Or.inl ⟨t, L1, L2, ih k _ _ _ _ h1 hk, ih k _ _ _ _ h2 hk, h3⟩)))
      · exact Or.inr (Or.inr (Or.inr (Or.inr (Or.inl ⟨t, ih k _ _ _ _ h hk⟩))))
      · exact Or.inr (Or.inr (Or.inr (Or.inr (Or.inr (Or.inl h)))))
      · exact Or.inr (Or.inr (Or.inr (Or.inr (Or.inr (Or.inr h)))))
theorem WL_det : ∀ (m : Nat) (s p : Int) (g : Gr) (L L2 : List (Int × Gr)), WL tg a b mm f n m s p g L → WL tg a b mm f n m s p g L2 → L = L2 := by
  intro m
  induction m with
  | zero => intro s p g L L2 h; exact h.elim
  | succ m ih =>
    intro s p g L L2 h q
    rcases h with ⟨t, h⟩ | ⟨t, h⟩ | ⟨t, h⟩ | ⟨t, A1, A2, h1, h2, h3⟩ | ⟨t, h⟩ | ⟨t, h⟩ | ⟨t, h⟩ <;> rcases q with ⟨t', q⟩ | ⟨t', q⟩ | ⟨t', q⟩ | ⟨t', B1, B2, q1, q2, q3⟩ | ⟨t', q⟩ | ⟨t', q⟩ | ⟨t', q⟩ <;> first | (exfalso; omega) | skip
    · rcases h with h | h <;> rcases q with q | q
      · exact ih _ _ _ _ _ h.2 q.2
      · exact absurd h.1 q.1
      · exact absurd q.1 h.1
      · rw [h.2, q.2]
    · rcases h with h | h <;> rcases q with q | q
      · exact ih _ _ _ _ _ h.2 q.2
      · exact absurd h.1 q.1
      · exact absurd q.1 h.1
      · rw [h.2, q.2]
    · rcases h with h | h <;> rcases q with q | q
      · exact ih _ _ _ _ _ h.2 q.2
      · exact absurd h.1 q.1
      · exact absurd q.1 h.1
      · rw [h.2, q.2]
    · rw [h3, q3, ih _ _ _ _ _ h1 q1, ih _ _ _ _ _ h2 q2]
    · exact ih _ _ _ _ _ h q
    · rw [h, q]
    · rw [h, q]
theorem WW_det {s p : Int} {g : Gr} {L L2 : List (Int × Gr)} (h : WW tg a b mm f n s p g L) (q : WW tg a b mm f n s p g L2) : L = L2 := by
  obtain ⟨m, h⟩ := h
  obtain ⟨k, q⟩ := q
  exact WL_det (m + k) s p g L L2 (WL_up m _ s p g L h (by omega)) (WL_up k _ s p g L2 q (by omega))
theorem ww_take {s p : Int} {g : Gr} {L : List (Int × Gr)} (t : tg s = 0) (h : 0 ≤ u8 f n p ∧ mm s (u8 f n p)) (q : WW tg a b mm f n (a s) (p + wd (u8 f n p)) g L) : WW tg a b mm f n s p g L := by
  obtain ⟨m, q⟩ := q
  exact ⟨m + 1, Or.inl ⟨t, Or.inl ⟨h, q⟩⟩⟩
theorem ww_take0 {s p : Int} {g : Gr} (t : tg s = 0) (h : ¬ (0 ≤ u8 f n p ∧ mm s (u8 f n p))) : WW tg a b mm f n s p g [] := ⟨1, Or.inl ⟨t, Or.inr ⟨h, rfl⟩⟩⟩
theorem ww_any {s p : Int} {g : Gr} {L : List (Int × Gr)} (t : tg s = 1) (h : p < n) (q : WW tg a b mm f n (a s) (p + 1) g L) : WW tg a b mm f n s p g L := by
  obtain ⟨m, q⟩ := q
  exact ⟨m + 1, Or.inr (Or.inl ⟨t, Or.inl ⟨h, q⟩⟩)⟩
theorem ww_any0 {s p : Int} {g : Gr} (t : tg s = 1) (h : ¬ p < n) : WW tg a b mm f n s p g [] := ⟨1, Or.inr (Or.inl ⟨t, Or.inr ⟨h, rfl⟩⟩)⟩
theorem ww_ask {s p : Int} {g : Gr} {L : List (Int × Gr)} (t : tg s = 2) (h : hld f n p (b s)) (q : WW tg a b mm f n (a s) p g L) : WW tg a b mm f n s p g L := by
  obtain ⟨m, q⟩ := q
  exact ⟨m + 1, Or.inr (Or.inr (Or.inl ⟨t, Or.inl ⟨h, q⟩⟩))⟩
theorem ww_ask0 {s p : Int} {g : Gr} (t : tg s = 2) (h : ¬ hld f n p (b s)) : WW tg a b mm f n s p g [] := ⟨1, Or.inr (Or.inr (Or.inl ⟨t, Or.inr ⟨h, rfl⟩⟩))⟩
theorem ww_split {s p : Int} {g : Gr} {L1 L2 : List (Int × Gr)} (t : tg s = 3) (q : WW tg a b mm f n (a s) p g L1) (r : WW tg a b mm f n (b s) p g L2) : WW tg a b mm f n s p g (L1 ++ L2) := by
  obtain ⟨m, q⟩ := q
  obtain ⟨k, r⟩ := r
  exact ⟨m + k + 1, Or.inr (Or.inr (Or.inr (Or.inl ⟨t, L1, L2, WL_up m _ _ _ _ _ q (by omega), WL_up k _ _ _ _ _ r (by omega), rfl⟩)))⟩
theorem ww_save {s p : Int} {g : Gr} {L : List (Int × Gr)} (t : tg s = 4) (q : WW tg a b mm f n (a s) p (zu g (b s) p) L) : WW tg a b mm f n s p g L := by
  obtain ⟨m, q⟩ := q
  exact ⟨m + 1, Or.inr (Or.inr (Or.inr (Or.inr (Or.inl ⟨t, q⟩))))⟩
theorem ww_end {s p : Int} {g : Gr} (t : tg s = 5) : WW tg a b mm f n s p g [(p, g)] := ⟨1, Or.inr (Or.inr (Or.inr (Or.inr (Or.inr (Or.inl ⟨t, rfl⟩)))))⟩
theorem ww_dead {s p : Int} {g : Gr} (t : tg s = 6) : WW tg a b mm f n s p g [] := ⟨1, Or.inr (Or.inr (Or.inr (Or.inr (Or.inr (Or.inr ⟨t, rfl⟩)))))⟩
end Wl
/-- from x the ways of v lead to u, where a byte was taken, or to f -/
def Rl (tg a b : Int → Int) (mm : Int → Int → Prop) (u f x : Int) (v : Sm) (nn : Prop) : Prop := ∀ (t : Int → Int) (n p : Int) (g : Gr) (C : Int → Gr → List (Int × Gr)) (D : Gr → List (Int × Gr)), bytes t n → 0 ≤ p → p ≤ n → (∀ (q : Int) (h : Gr), p < q → q ≤ n → WW tg a b mm t n u q h (C q h)) → (¬ nn → ∀ h : Gr, WW tg a b mm t n f p h (D h)) → WW tg a b mm t n x p g ((v t n p g).flatMap (fun y => if p < y.1 then C y.1 y.2 else D y.2))
section Rls
variable {tg a b : Int → Int} {mm : Int → Int → Prop} {u f x : Int}
theorem Rl_I : Rl tg a b mm u f f smI False := fun t n p g C D hb h0 h1 hC hD => by
  have e : (smI t n p g).flatMap (fun y => if p < y.1 then C y.1 y.2 else D y.2) = D g := by
    unfold smI; rw [fm_1]; exact if_neg (Int.lt_irrefl p)
  rw [e]; exact hD (fun h => h) g
theorem Rl_S {S : Int → Prop} (ht : tg x = 0) (ha : a x = u) (hm : ∀ c : Int, mm x c ↔ S c) : Rl tg a b mm u f x (smS S) True := fun t n p g C D hb h0 h1 hC hD => by
  by_cases c : 0 ≤ u8 t n p ∧ S (u8 t n p)
  · have w := wd_in (u8 t n p)
    have w2 := u8_w (p := p) hb (by omega)
    have e : smS S t n p g = [(p + wd (u8 t n p), g)] := if_pos c
    rw [e, fm_1]
    have e2 : (if p < (p + wd (u8 t n p), g).1 then C (p + wd (u8 t n p), g).1 (p + wd (u8 t n p), g).2 else D (p + wd (u8 t n p), g).2) = C (p + wd (u8 t n p)) g := if_pos (show p < p + wd (u8 t n p) by omega)
    rw [e2]
    exact ww_take ht ⟨c.1, (hm _).mpr c.2⟩ (by rw [ha]; exact hC _ g (by omega) (by omega))
  · have e : smS S t n p g = [] := if_neg c
    rw [e]
    exact ww_take0 ht (fun q => c ⟨q.1, (hm _).mp q.2⟩)
theorem Rl_A (ht : tg x = 1) (ha : a x = u) : Rl tg a b mm u f x smA True := fun t n p g C D hb h0 h1 hC hD => by
  by_cases c : p < n
  · have e : smA t n p g = [(p + 1, g)] := if_pos c
    rw [e, fm_1]
    have e2 : (if p < (p + 1, g).1 then C (p + 1, g).1 (p + 1, g).2 else D (p + 1, g).2) = C (p + 1) g := if_pos (show p < p + 1 by omega)
    rw [e2]
    exact ww_any ht c (by rw [ha]; exact hC _ g (by omega) (by omega))
  · have e : smA t n p g = [] := if_neg c
    rw [e]
    exact ww_any0 ht c
theorem Rl_Q {q : Int} (ht : tg x = 2) (ha : a x = f) (hq : b x = q) : Rl tg a b mm u f x (smQ q) False := fun t n p g C D hb h0 h1 hC hD => by
  by_cases c : hld t n p q
  · have e : smQ q t n p g = [(p, g)] := if_pos c
    rw [e, fm_1]
    have e2 : (if p < (p, g).1 then C (p, g).1 (p, g).2 else D (p, g).2) = D g := if_neg (Int.lt_irrefl p)
    rw [e2]
    exact ww_ask ht (by rw [hq]; exact c) (by rw [ha]; exact hD (fun h => h) g)
  · have e : smQ q t n p g = [] := if_neg c
    rw [e]
    exact ww_ask0 ht (by rw [hq]; exact c)
theorem Rl_O {x1 x2 : Int} {v1 v2 : Sm} {n1 n2 : Prop} (ht : tg x = 3) (ha : a x = x1) (hb : b x = x2) (h1 : Rl tg a b mm u f x1 v1 n1) (h2 : Rl tg a b mm u f x2 v2 n2) : Rl tg a b mm u f x (smO v1 v2) (n1 ∧ n2) := fun t n p g C D by_ p0 p1 hC hD => by
  unfold smO
  rw [List.flatMap_append]
  exact ww_split ht (by rw [ha]; exact h1 t n p g C D by_ p0 p1 hC (fun z => hD (fun w => z w.1))) (by rw [hb]; exact h2 t n p g C D by_ p0 p1 hC (fun z => hD (fun w => z w.2)))
/-- one behind the other -/
theorem Rl_C {u1 f1 : Int} {v1 v2 : Sm} {n1 n2 m2 : Prop} (g1 : gdS v1) (g2 : gdS v2) (h1 : Rl tg a b mm u1 f1 x v1 n1) (h2 : Rl tg a b mm u f f1 v2 n2) (h3 : Rl tg a b mm u u u1 v2 m2) : Rl tg a b mm u f x (smC v1 v2) (n1 ∨ n2) := fun t n p g C D hb p0 p1 hC hD => by
  have e : ((smC v1 v2) t n p g).flatMap (fun y => if p < y.1 then C y.1 y.2 else D y.2) = (v1 t n p g).flatMap (fun y => if p < y.1 then (v2 t n y.1 y.2).flatMap (fun z => if y.1 < z.1 then C z.1 z.2 else C y.1 z.2) else (v2 t n p y.2).flatMap (fun z => if p < z.1 then C z.1 z.2 else D z.2)) := by
    unfold smC
    rw [fm_fm]
    apply fm_cg
    intro y hy
    have k1 := g1 t n p g hb p0 p1 y hy
    by_cases c : p < y.1
    · rw [if_pos c]
      apply fm_cg
      intro z hz
      have k2 := g2 t n y.1 y.2 hb (by omega) k1.2 z hz
      rw [if_pos (by omega)]
      by_cases d : y.1 < z.1
      · rw [if_pos d]
      · rw [if_neg d, show z.1 = y.1 by omega]
    · rw [if_neg c, show y.1 = p by omega]
  rw [e]
  exact h1 t n p g (fun q h => (v2 t n q h).flatMap (fun z => if q < z.1 then C z.1 z.2 else C q z.2)) (fun h => (v2 t n p h).flatMap (fun z => if p < z.1 then C z.1 z.2 else D z.2)) hb p0 p1 (fun q h q0 q1 => h3 t n q h C (fun h => C q h) hb (by omega) q1 (fun q2 h2 r0 r1 => hC q2 h2 (by omega) r1) (fun _ h => hC q h q0 q1)) (fun z h => h2 t n p h C D hb p0 p1 hC (fun w => hD (fun r => r.elim z w)))
/-- a numbered group: x saves and goes to y, what is inside goes to u1 or f1, which save and go on -/
theorem Rl_G {y u1 f1 k : Int} {v : Sm} {nn : Prop} (gv : gdS v) (hx : tg x = 4 ∧ a x = y ∧ b x = 2 * k) (hu : tg u1 = 4 ∧ a u1 = u ∧ b u1 = 2 * k + 1) (hf : tg f1 = 4 ∧ a f1 = f ∧ b f1 = 2 * k + 1) (h : Rl tg a b mm u1 f1 y v nn) : Rl tg a b mm u f x (smG k v) nn := fun t n p g C D hb p0 p1 hC hD => by
  have e : ((smG k v) t n p g).flatMap (fun y => if p < y.1 then C y.1 y.2 else D y.2) = (v t n p (zu g (2 * k) p)).flatMap (fun y => if p < y.1 then C y.1 (zu y.2 (2 * k + 1) y.1) else D (zu y.2 (2 * k + 1) p)) := by
    unfold smG
    rw [fm_map]
    apply fm_cg
    intro y hy
    have k1 := gv t n p _ hb p0 p1 y hy
    by_cases c : p < y.1
    · rw [if_pos c, if_pos c]
    · rw [if_neg c, if_neg c, show y.1 = p by omega]
  rw [e]
  refine ww_save hx.1 ?_
  rw [hx.2.1, hx.2.2]
  exact h t n p _ (fun q r => C q (zu r (2 * k + 1) q)) (fun r => D (zu r (2 * k + 1) p)) hb p0 p1 (fun q r q0 q1 => ww_save hu.1 (by rw [hu.2.1, hu.2.2]; exact hC q _ q0 q1)) (fun z r => ww_save hf.1 (by rw [hf.2.1, hf.2.2]; exact hD z _))
end Rls
section Rls2
variable {tg a b : Int → Int} {mm : Int → Int → Prop} {u f x : Int}
theorem Rl_w {v : Sm} {n1 n2 : Prop} (h : Rl tg a b mm u f x v n1) (hn : n2 → n1) : Rl tg a b mm u f x v n2 := fun t n p g C D hb p0 p1 hC hD => h t n p g C D hb p0 p1 hC (fun z => hD (fun w => z (hn w)))
theorem Rl_e {v w : Sm} {nn : Prop} (h : Rl tg a b mm u f x v nn) (e : v = w) : Rl tg a b mm u f x w nn := by rw [← e]; exact h
theorem ite_fm {α β : Type} {c : Prop} [Decidable c] {l : List α} {F : α → List β} : (if c then l else []).flatMap F = if c then l.flatMap F else [] := by
  split
  · rfl
  · rfl
/-- a loop's head: it splits to the body and to what follows -/
def lpH (tg a b : Int → Int) (lz : Prop) (x y z : Int) : Prop := tg x = 3 ∧ (lz → a x = z ∧ b x = y) ∧ (¬ lz → a x = y ∧ b x = z)
theorem lpH_w {lz : Prop} [Decidable lz] {y z : Int} {t : Int → Int} {n p : Int} {g : Gr} {L1 L2 : List (Int × Gr)} (h : lpH tg a b lz x y z) (h1 : WW tg a b mm t n y p g L1) (h2 : WW tg a b mm t n z p g L2) : WW tg a b mm t n x p g (if lz then L2 ++ L1 else L1 ++ L2) := by
  obtain ⟨ht, hl, hn⟩ := h
  split
  · rename_i c
    obtain ⟨e1, e2⟩ := hl c
    exact ww_split ht (by rw [e1]; exact h2) (by rw [e2]; exact h1)
  · rename_i c
    obtain ⟨e1, e2⟩ := hn c
    exact ww_split ht (by rw [e1]; exact h1) (by rw [e2]; exact h2)
theorem smT_f {lz : Prop} [Decidable lz] {v : Sm} (hv : gdS v) {t : Int → Int} {n p : Int} {g : Gr} (hb : bytes t n) (h0 : 0 ≤ p) (h1 : p ≤ n) {F : Int × Gr → List (Int × Gr)} : (smT lz v t n p g).flatMap F = if lz then F (p, g) ++ (v t n p g).flatMap (fun x => if p < x.1 then (smT lz v t n x.1 x.2).flatMap F else []) else (v t n p g).flatMap (fun x => if p < x.1 then (smT lz v t n x.1 x.2).flatMap F else []) ++ F (p, g) := by
  have e : ((v t n p g).flatMap (fun x => if p < x.1 then smT lz v t n x.1 x.2 else [])).flatMap F = (v t n p g).flatMap (fun x => if p < x.1 then (smT lz v t n x.1 x.2).flatMap F else []) := by
    rw [fm_fm]
    exact fm_cg (fun x _ => ite_fm)
  rw [smT_e hv hb h0 h1]
  split
  · rw [List.flatMap_cons, e]
  · rw [List.flatMap_append, e, fm_1]
theorem Rl_T0 {lz : Prop} [Decidable lz] {r y d : Int} {v : Sm} {nn : Prop} (gv : gdS v) (hr : lpH tg a b lz r y u) (hy : Rl tg a b mm r d y v nn) (hd : ¬ nn → tg d = 6) {t : Int → Int} {n : Int} (hb : bytes t n) : ∀ (m : Nat) (p : Int) (g : Gr) (C : Int → Gr → List (Int × Gr)), (n - p).toNat ≤ m → 0 ≤ p → p ≤ n → (∀ (q : Int) (h : Gr), p ≤ q → q ≤ n → WW tg a b mm t n u q h (C q h)) → WW tg a b mm t n r p g ((smT lz v t n p g).flatMap (fun z => C z.1 z.2)) := by
  intro m
  induction m with
  | zero =>
    intro p g C hm p0 p1 hC
    rw [smT_f gv hb p0 p1]
    have w := lpH_w (mm := mm) (t := t) (n := n) (p := p) (g := g) hr (hy t n p g (fun q h => (smT lz v t n q h).flatMap (fun z => C z.1 z.2)) (fun _ => []) hb p0 p1 (fun q h q0 q1 => by exfalso; omega) (fun z h => ww_dead (hd z))) (hC p g (Int.le_refl p) p1)
    exact w
  | succ m ih =>
    intro p g C hm p0 p1 hC
    rw [smT_f gv hb p0 p1]
    have w := lpH_w (mm := mm) (t := t) (n := n) (p := p) (g := g) hr (hy t n p g (fun q h => (smT lz v t n q h).flatMap (fun z => C z.1 z.2)) (fun _ => []) hb p0 p1 (fun q h q0 q1 => ih q h C (by omega) (by omega) q1 (fun q2 h2 r0 r1 => hC q2 h2 (by omega) r1)) (fun z h => ww_dead (hd z))) (hC p g (Int.le_refl p) p1)
    exact w
theorem Rl_T {lz : Prop} [Decidable lz] {r y d y2 d2 : Int} {v : Sm} {nn n2 : Prop} (gv : gdS v) (hr : lpH tg a b lz r y u) (hy : Rl tg a b mm r d y v nn) (hd : ¬ nn → tg d = 6) (hx : lpH tg a b lz x y2 f) (hy2 : Rl tg a b mm r d2 y2 v n2) (hd2 : ¬ n2 → tg d2 = 6) : Rl tg a b mm u f x (smT lz v) False := fun t n p g C D hb p0 p1 hC hD => by
  have e : (smT lz v t n p g).flatMap (fun y => if p < y.1 then C y.1 y.2 else D y.2) = if lz then D g ++ (v t n p g).flatMap (fun x => if p < x.1 then (smT lz v t n x.1 x.2).flatMap (fun z => C z.1 z.2) else []) else (v t n p g).flatMap (fun x => if p < x.1 then (smT lz v t n x.1 x.2).flatMap (fun z => C z.1 z.2) else []) ++ D g := by
    rw [smT_f gv hb p0 p1]
    have e1 : (if p < (p, g).1 then C (p, g).1 (p, g).2 else D (p, g).2) = D g := if_neg (Int.lt_irrefl p)
    have e2 : (v t n p g).flatMap (fun x => if p < x.1 then (smT lz v t n x.1 x.2).flatMap (fun y => if p < y.1 then C y.1 y.2 else D y.2) else []) = (v t n p g).flatMap (fun x => if p < x.1 then (smT lz v t n x.1 x.2).flatMap (fun z => C z.1 z.2) else []) := fm_cg (fun x hx => by
      have k1 := gv t n p g hb p0 p1 x hx
      by_cases c : p < x.1
      · rw [if_pos c, if_pos c]
        exact fm_cg (fun y hy => by
          have k2 := gd_T gv t n x.1 x.2 hb (by omega) k1.2 y hy
          exact if_pos (by omega))
      · rw [if_neg c, if_neg c])
    rw [e1, e2]
  rw [e]
  exact lpH_w (mm := mm) (t := t) (n := n) (p := p) (g := g) hx (hy2 t n p g (fun q h => (smT lz v t n q h).flatMap (fun z => C z.1 z.2)) (fun _ => []) hb p0 p1 (fun q h q0 q1 => Rl_T0 gv hr hy hd hb (n - q).toNat q h C (Nat.le_refl _) (by omega) q1 (fun q2 h2 r0 r1 => hC q2 h2 (by omega) r1)) (fun z h => ww_dead (hd2 z))) (hD (fun h => h) g)
/-- once more, or not -/
theorem Rl_U {lz : Prop} [Decidable lz] {eu ef y : Int} {v : Sm} {m : Nat} {nn n1 n2 : Prop} (gv : gdS v) (h1 : Rl tg a b mm eu ef y v nn) (h2 : Rl tg a b mm u f ef (smU lz v m) n1) (h3 : Rl tg a b mm u u eu (smU lz v m) n2) (hx : lpH tg a b lz x y f) : Rl tg a b mm u f x (smU lz v (m + 1)) False := by
  have hc := Rl_C gv (gd_U gv m) h1 h2 h3
  obtain ⟨ht, hl, hn⟩ := hx
  rw [smU_1]
  split
  · rename_i c
    obtain ⟨e1, e2⟩ := hl c
    exact Rl_w (Rl_O ht e1 e2 Rl_I hc) (fun h => h.elim)
  · rename_i c
    obtain ⟨e1, e2⟩ := hn c
    exact Rl_w (Rl_O ht e1 e2 hc Rl_I) (fun h => h.elim)
end Rls2
/-! laws of what patterns mean -/
theorem smC_I {v : Sm} : smC v smI = v := by
  funext f n p g
  unfold smC smI
  induction v f n p g with
  | nil => rfl
  | cons x t ih => rw [List.flatMap_cons, ih]; rfl
theorem smI_C {v : Sm} : smC smI v = v := by
  funext f n p g
  unfold smC smI
  rw [fm_1]
theorem smC_C {u v w : Sm} : smC (smC u v) w = smC u (smC v w) := by
  funext f n p g
  unfold smC
  rw [fm_fm]
theorem smO_O {u v w : Sm} : smO (smO u v) w = smO u (smO v w) := by
  funext f n p g
  unfold smO
  rw [List.append_assoc]
