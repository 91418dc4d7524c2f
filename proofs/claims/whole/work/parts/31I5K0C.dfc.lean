/-! telling by sets: place by place -/
/-- from one of the places fr to la the state fi comes to the end e -/
def tlM (tg a b : Int → Int) (mm : Int → Int → Prop) (f : Int → Int) (n fi fr la e : Int) : Prop := ∃ p : Int, fr ≤ p ∧ p ≤ la ∧ RN tg a b mm f n fi p e
/-- what is still to come at place p decides -/
def tlI (tg a b : Int → Int) (mm : Int → Int → Prop) (f : Int → Int) (n hw fi fr la rm p rs : Int) (A : Int → Prop) : Prop := ∀ e : Int, acc hw n e → (tlM tg a b mm f n fi fr la e ↔ dLV tg a b mm f n p rs A e ∨ (rm = 1 ∧ tlM tg a b mm f n fi p n e))
section Tl
variable {tg a b : Int → Int} {mm : Int → Int → Prop} {HS : Int → Prop} {f : Int → Int} {n hw fi fr la rm p rs ru sg cd e : Int} {A : Int → Prop}
theorem tlI_1 (h1 : rm = 1) (hl : la = n) (hA : ∀ y : Int, ¬ A y) : tlI tg a b mm f n hw fi fr la rm fr rs A := fun e _ => by
  rw [hl]
  constructor
  · intro q; exact Or.inr ⟨h1, q⟩
  · rintro ((⟨y, q, _⟩ | ⟨y, q, _⟩) | ⟨_, q⟩)
    · exact absurd q (hA y)
    · exact absurd q (hA y)
    · exact q
theorem tlI_0 (h1 : ¬ rm = 1) (hl : la = fr) (hA : ∀ y : Int, A y ↔ y = fi) (hf : fi < 1024) : tlI tg a b mm f n hw fi fr la rm fr rs A := fun e _ => by
  rw [hl]
  constructor
  · rintro ⟨p, q1, q2, q3⟩
    rw [show p = fr by omega] at q3
    exact Or.inl (Or.inl ⟨fi, (hA fi).mpr rfl, hf, q3⟩)
  · rintro ((⟨y, q, q2, q3⟩ | ⟨y, q, q2, _⟩) | ⟨q, _⟩)
    · rw [(hA y).mp q] at q3
      exact ⟨fr, Int.le_refl _, Int.le_refl _, q3⟩
    · rw [(hA y).mp q] at q2; omega
    · exact absurd q h1
theorem tlM_s (hp : p ≤ n) : tlM tg a b mm f n fi p n e ↔ RN tg a b mm f n fi p e ∨ tlM tg a b mm f n fi (p + 1) n e := by
  constructor
  · rintro ⟨q, q1, q2, q3⟩
    by_cases c : q = p
    · rw [c] at q3; exact Or.inl q3
    · exact Or.inr ⟨q, by omega, q2, q3⟩
  · rintro (q | ⟨q, q1, q2, q3⟩)
    · exact ⟨p, Int.le_refl _, hp, q⟩
    · exact ⟨q, by omega, q2, q3⟩
theorem tl_or {X Y Z W : Prop} {R : Prop} (h : (X ∨ (R ∧ Y)) ↔ Z) : (X ∨ (R ∧ (Y ∨ W))) ↔ (Z ∨ (R ∧ W)) := by
  constructor
  · rintro (x | ⟨r, y | w⟩)
    · exact Or.inl (h.mp (Or.inl x))
    · exact Or.inl (h.mp (Or.inr ⟨r, y⟩))
    · exact Or.inr ⟨r, w⟩
  · rintro (z | ⟨r, w⟩)
    · rcases h.mpr z with x | ⟨r, y⟩
      · exact Or.inl x
      · exact Or.inr ⟨r, Or.inl y⟩
    · exact Or.inr ⟨r, Or.inr w⟩
/-- a place further, where no arrival counted -/
theorem tlI_s (h : tlI tg a b mm f n hw fi fr la rm p rs A) (hd : dpl tg b mm HS f n p rs ru sg cd) (hk : dok tg a A fi) (hx : ∀ x : Int, dvS tg a b HS A rm fi x → 0 ≤ x ∧ x < 1024) (hw2 : ∀ y : Int, A y → 1024 ≤ y → 1 ≤ sg ∧ sg ≤ 3) (hp : p < n) (hn : ¬ (darS tg a b HS A rm fi ∧ acc hw n p)) : tlI tg a b mm f n hw fi fr la rm (p + 1) ru (dnxS tg a b mm HS A rm fi sg cd) := fun e ha => by
  rw [h e ha, tlM_s (by omega), tl_or (dstep (e := e) hd hk hx hw2 hp)]
  constructor
  · rintro ((⟨e1, q⟩ | q) | q)
    · rw [e1] at ha; exact absurd ⟨q, ha⟩ hn
    · exact Or.inl q
    · exact Or.inr q
  · rintro (q | q)
    · exact Or.inl (Or.inr q)
    · exact Or.inr q
/-- an arrival that counts -/
theorem tl_y (h : tlI tg a b mm f n hw fi fr la rm p rs A) (hd : dpl tg b mm HS f n p rs ru sg cd) (hp : p ≤ n) (ha : acc hw n p) (q : darS tg a b HS A rm fi) : ∃ e : Int, acc hw n e ∧ tlM tg a b mm f n fi fr la e := by
  obtain ⟨x, ⟨y, hy, y2⟩, t⟩ := q
  have r : RN tg a b mm f n y p p := (RN_sym hd.1).mpr ⟨x, y2, Or.inl ⟨t, rfl⟩⟩
  refine ⟨p, ha, (h p ha).mpr ?_⟩
  rcases hy with ⟨h1, h2⟩ | ⟨h1, h2⟩
  · exact Or.inl (Or.inl ⟨y, h1, h2, r⟩)
  · rw [h2] at r
    exact Or.inr ⟨h1, p, Int.le_refl _, hp, r⟩
/-- at the end there was none -/
theorem tl_n (h : tlI tg a b mm f n hw fi fr la rm p rs A) (hd : dpl tg b mm HS f n p rs ru sg cd) (hw2 : ∀ y : Int, A y → 1024 ≤ y → 1 ≤ sg ∧ sg ≤ 3) (hs : sg = 0) (hp : p = n) (q : ¬ darS tg a b HS A rm fi) : ∀ e : Int, acc hw n e → ¬ tlM tg a b mm f n fi fr la e := fun e ha m => by
  have m2 := (h e ha).mp m
  rw [tlM_s (by omega), tl_or (dend (e := e) hd hw2 hs)] at m2
  rcases m2 with ⟨_, z⟩ | ⟨_, z, z1, z2, _⟩
  · exact q z
  · omega
/-- nothing is left -/
theorem tl_e (h : tlI tg a b mm f n hw fi fr la rm p rs A) (h1 : ¬ rm = 1) (hA : ∀ y : Int, ¬ A y) : ∀ e : Int, acc hw n e → ¬ tlM tg a b mm f n fi fr la e := fun e ha m => by
  rcases (h e ha).mp m with (⟨y, z, _⟩ | ⟨y, z, _⟩) | ⟨z, _⟩
  · exact hA y z
  · exact hA y z
  · exact h1 z
/-- the same set -/
theorem tlI_cg {A2 : Int → Prop} (h : tlI tg a b mm f n hw fi fr la rm p rs A) (e : ∀ y : Int, A y ↔ A2 y) : tlI tg a b mm f n hw fi fr la rm p rs A2 := by
  rw [show A2 = A from funext (fun y => propext (e y).symm)]
  exact h
end Tl
/-! what is left at the next place: waiting entries stand within a character -/
theorem dnx_w {tg a b : Int → Int} {mm : Int → Int → Prop} {HS : Int → Prop} {f : Int → Int} {n p rs ru sg cd rm fi : Int} {A : Int → Prop} (hd : dpl tg b mm HS f n p rs ru sg cd) (hk : dok tg a A fi) (hx : ∀ x : Int, dvS tg a b HS A rm fi x → 0 ≤ x ∧ x < 1024) (hw : ∀ y : Int, A y → 1024 ≤ y → 1 ≤ sg ∧ sg ≤ 3) : ∀ z : Int, dnxS tg a b mm HS A rm fi sg cd z → 1024 ≤ z → 2 ≤ rs := fun z h hz => by
  obtain ⟨k1, k2, k3⟩ := hk
  obtain ⟨_, hs⟩ := hd
  rcases h with ⟨x, v, ⟨t, s0, ez⟩ | ⟨t, c0, m, ⟨c8, ez⟩ | ⟨c8, ez⟩⟩⟩ | ⟨y, y1, y2, ⟨c, ez⟩ | ⟨c, ez⟩⟩
  · have := (k1 x (hx x v) (Or.inr t)).2; omega
  · have := (k1 x (hx x v) (Or.inl t)).2; omega
  · rcases hs with ⟨_, _, q⟩ | ⟨_, _, _, q, _⟩ | ⟨_, _, q, _⟩ | ⟨_, s1, s2, s3, s4, s5, s6, s7⟩
    · exact absurd q c0
    · exact absurd q c0
    · exact absurd q c0
    · have c9 : 128 ≤ u8 f n p := by
        have : ¬ u8 f n p < 128 := fun q => by have := s5.mpr q; omega
        omega
      have := wd_2 c9
      omega
  · have kk := k2 y y1
    have := (k1 (y - 1024) (by omega) (Or.inl (kk.2.2 y2))).2
    omega
  · have w := hw y y1 y2
    rcases hs with ⟨q, _⟩ | ⟨_, s1, s2, s3, s4, s5, s6⟩ | ⟨_, q, _⟩ | ⟨_, q, _⟩ <;> omega
/-- two or more are left: the next sign is what is left then -/
theorem sg_nx {CU f C Rs H : Int → Int} {cn n p sg cd : Int} (hs : suok f C Rs H n) (p0 : 0 ≤ p) (p1 : p ≤ n) (h : 2 ≤ Rs p) (q : sgR CU cn C Rs n (p + 1) sg cd) : 1 ≤ sg ∧ sg ≤ 3 := by
  obtain ⟨r1, r2, r3⟩ := rs_s hs p0 p1 h
  obtain ⟨a1, _⟩ := hs.2 (p + 1) (by omega) (by omega)
  have b := (sup_r hs.1 hs.2 (by omega) p.toNat (by omega)).2.1
  rw [show ((p.toNat : Nat) : Int) = p by omega] at b
  rcases q with ⟨h1, _⟩ | ⟨h1, h2, h4, h5, h3⟩ | ⟨h1, h2, h4, h5, h3⟩ | ⟨h1, h2, _⟩
  · omega
  · omega
  · omega
  · omega
/-- what stands ahead of the next place -/
theorem ah_nx {CU f C Rs H : Int → Int} {cn n p sg cd ah : Int} (hs : suok f C Rs H n) (hc : cuS CU cn) (hf : cuF CU cn) (h : sgR CU cn C Rs n p sg cd) (p0 : 0 ≤ p) (hp : p < n) (ha : (cd = 10 ∧ ah = 2) ∨ (¬ cd = 10 ∧ isW cd ∧ ah = 4) ∨ (¬ cd = 10 ∧ ¬ isW cd ∧ ah = 0)) : ahR f n (p + 1) ah := by
  obtain ⟨t1, t2⟩ := sg_tpk hs hc hf h p0
  unfold ahR
  rw [show p + 1 - 1 = p by omega, t1, t2]
  have w10 : ¬ isW 10 := by unfold isW; omega
  rcases ha with ⟨c, e⟩ | ⟨c, w, e⟩ | ⟨c, w, e⟩
  · rw [e]
    refine ⟨by omega, ⟨fun _ => c, fun _ => by decide⟩, ⟨fun z => absurd z (by decide), fun z => ?_⟩⟩
    rw [c] at z; exact absurd z w10
  · rw [e]
    exact ⟨by omega, ⟨fun z => absurd z (by decide), fun z => absurd z c⟩, ⟨fun _ => w, fun _ => by decide⟩⟩
  · rw [e]
    exact ⟨by omega, ⟨fun z => absurd z (by decide), fun z => absurd z c⟩, ⟨fun z => absurd z (by decide), fun z => absurd z w⟩⟩
