/-! which: the answer, bit by bit -/
theorem z_bit1 (y : Int32) : ∃ v : Int, (0 ≤ v ∧ v ≤ 1) ∧ y &&& Int32.ofInt 1 = Int32.ofInt v := by
  have h : (y &&& Int32.ofInt 1).toBitVec.toNat ≤ 1 := by
    rw [Int32.toBitVec_and, BitVec.toNat_and]
    exact Nat.le_trans Nat.and_le_right (by decide)
  refine ⟨((y &&& Int32.ofInt 1).toBitVec.toNat : Int), by omega, ?_⟩
  apply Int32.toBitVec_inj.mp
  apply BitVec.eq_of_toNat_eq
  rw [Int32.toBitVec_ofInt, z_nat ⟨by omega, by omega⟩]
  omega
noncomputable def xb (x s : Int) : Int := Classical.choose (z_bit1 (Int32.ofInt x >>> (Int32.ofInt s &&& 31)))
theorem xb_ok (x s : Int) : (0 ≤ xb x s ∧ xb x s ≤ 1) ∧ Int32.ofInt x >>> (Int32.ofInt s &&& 31) &&& Int32.ofInt 1 = Int32.ofInt (xb x s) := Classical.choose_spec (z_bit1 (Int32.ofInt x >>> (Int32.ofInt s &&& 31)))
theorem z_or0 (x : Int) : Int32.ofInt x ||| Int32.ofInt 0 = Int32.ofInt x := by
  apply Int32.toBitVec_inj.mp
  rw [Int32.toBitVec_or, show (Int32.ofInt 0).toBitVec = 0#32 from rfl, BitVec.or_zero]
/-- the bits of those below k that are T -/
noncomputable def whN (T : Int → Prop) : Nat → Int
  | 0 => 0
  | k + 1 => @ite _ (T (k : Int)) (Classical.propDecidable _) (stb (whN T k) (k : Int)) (whN T k)
noncomputable def whI (T : Int → Prop) (k : Int) : Int := whN T k.toNat
theorem whI_1 {T : Int → Prop} {k : Int} (h : 0 ≤ k) : whI T (k + 1) = @ite _ (T k) (Classical.propDecidable _) (stb (whI T k) k) (whI T k) := by
  obtain ⟨m, rfl⟩ : ∃ m : Nat, k = (m : Int) := ⟨k.toNat, by omega⟩
  rfl
theorem whI_y {T : Int → Prop} {k a : Int} (h : a = whI T k) (h0 : 0 ≤ k) (t : T k) : stb a k = whI T (k + 1) := by
  rw [whI_1 h0, h, if_pos t]
theorem whI_n {T : Int → Prop} {k a : Int} (h : a = whI T k) (h0 : 0 ≤ k) (t : ¬ T k) : a = whI T (k + 1) := by
  rw [whI_1 h0, if_neg t]
  exact h
theorem whI_cg {T T2 : Int → Prop} (h : ∀ k : Int, 0 ≤ k → k < 6 → (T k ↔ T2 k)) : whI T 6 = whI T2 6 := by
  have key : ∀ m : Nat, m ≤ 6 → whN T m = whN T2 m := by
    intro m
    induction m with
    | zero => intro _; rfl
    | succ m ih =>
      intro q
      have e := ih (by omega)
      have t := h (m : Int) (by omega) (by omega)
      show @ite _ (T (m : Int)) (Classical.propDecidable _) (stb (whN T m) (m : Int)) (whN T m) = @ite _ (T2 (m : Int)) (Classical.propDecidable _) (stb (whN T2 m) (m : Int)) (whN T2 m)
      by_cases c : T (m : Int)
      · rw [if_pos c, if_pos (t.mp c), e]
      · rw [if_neg c, if_neg (fun z => c (t.mpr z)), e]
  exact key 6 (Nat.le_refl _)
def hwW (wh : Int) : Int := if wh = 0 then 0 else 2
theorem hwW_0 {wh : Int} (h : wh = 0) : hwW wh = 0 := if_pos h
theorem hwW_1 {wh : Int} (h : ¬ wh = 0) : hwW wh = 2 := if_neg h
/-- some way from one of the places counts -/
def exM (v : Sn) (f : Int → Int) (n hw fr : Int) : Prop := ∃ p : Int, (fr ≤ p ∧ p ≤ laR hw n fr) ∧ ∃ x ∈ wyR v f n p, acc hw n x.1
theorem laR_le {hw n fr : Int} (h : fr ≤ n) : laR hw n fr ≤ n := by unfold laR; split <;> omega
/-- the reference's -/
def whS (TH : Int → Int) (V : Int → Sn) (f : Int → Int) (n x wh j : Int) : Prop := TH j = 1 ∧ ¬ xb x j = 0 ∧ wpR (V j) ∧ bytes f n ∧ exM (V j) f n (hwW wh) 0
def whX (TH : Int → Int) (V : Int → Sn) (f : Int → Int) (n x wh an : Int) : Prop := an = whI (whS TH V f n x wh) 6
theorem exM_cg {v : Sn} {f g : Int → Int} {n hw fr : Int} (w : wpR v) (hb : bytes f n) (h : ∀ k : Int, 0 ≤ k → k < n → f k = g k) (q : exM v f n hw fr) : exM v g n hw fr := by
  obtain ⟨p, a, x, x1, x2⟩ := q
  rw [w.cg h hb] at x1
  exact ⟨p, a, x, x1, x2⟩
theorem prZ.wp {T N W CA CM CL CH : Int → Int} {sl n e : Int} {v : Sn} (h : prZ T N W CA CM CL CH sl n e v) : wpR v := ⟨_, _, _, _, _, fun _ _ _ _ hb p0 p1 => h.ww hb p0 p1⟩
/-- which, the reference's: is: a bit stands at one of the places below p -/
def wiI (NO : Int → Int) (en is p : Int) : Prop := is = 1 ↔ ∃ q : Int, 0 ≤ q ∧ q < p ∧ nbit NO q en
def wiE (NO : Int → Int) (en len wh is : Int) : Prop := is = 1 ↔ ∃ q : Int, 0 ≤ q ∧ q ≤ (if wh = 0 then len else 0) ∧ nbit NO q en
section Wi
variable {NO : Int → Int} {en is p len wh : Int}
theorem wiI_1 (h : nbit NO 0 en) : wiI NO en 1 1 := ⟨fun _ => ⟨0, by decide, by decide, h⟩, fun _ => rfl⟩
theorem wiI_0 (h : ¬ nbit NO 0 en) : wiI NO en 0 1 := ⟨fun q => absurd q (by decide), fun ⟨q, a, b, c⟩ => by rw [show q = 0 by omega] at c; exact absurd c h⟩
theorem wiI_y (h : wiI NO en is p) (hp : 0 ≤ p) (hb : nbit NO p en) : wiI NO en 1 (p + 1) := ⟨fun _ => ⟨p, hp, by omega, hb⟩, fun _ => rfl⟩
theorem wiI_n (h : wiI NO en is p) (hi : is = 0) (hb : ¬ nbit NO p en) : wiI NO en 0 (p + 1) := ⟨fun q => absurd q (by decide), fun ⟨q, a, b, c⟩ => by
  by_cases e : q = p
  · rw [e] at c; exact absurd c hb
  · have := h.mpr ⟨q, a, by omega, c⟩
    omega⟩
theorem wiI_e (h : wiI NO en is p) (h1 : 1 ≤ p ∧ p ≤ len + 1) (hw : 0 ≤ wh ∧ wh ≤ 1) (hp : p ≤ 1 + 3000 * (1 - wh)) (hx : len < p ∨ is = 1 ∨ wh = 1) : wiE NO en len wh is := by
  unfold wiE
  by_cases c : wh = 0
  · rw [if_pos c]
    constructor
    · intro q
      obtain ⟨z, a, b, d⟩ := h.mp q
      exact ⟨z, a, by omega, d⟩
    · rintro ⟨z, a, b, d⟩
      rcases hx with x | x | x
      · exact h.mpr ⟨z, a, by omega, d⟩
      · exact x
      · omega
  · rw [if_neg c]
    constructor
    · intro q
      obtain ⟨z, a, b, d⟩ := h.mp q
      exact ⟨z, a, by omega, d⟩
    · rintro ⟨z, a, b, d⟩
      exact h.mpr ⟨z, a, by omega, d⟩
end Wi
theorem wiE_ex {T N W CA CM CL CH f NO : Int → Int} {len sl n e wh is : Int} {v : Sn} (h : ntK T N W CA CM CL CH f NO len (12500 * sl) n len wh 0) (hp : prZ T N W CA CM CL CH sl n e v) (hb : bytes f len) (he : 0 ≤ e ∧ e < n) (hl : 0 ≤ len) (hw : 0 ≤ wh ∧ wh ≤ 1) (q : wiE NO e len wh is) : is = 1 ↔ exM v f len (hwW wh) 0 := by
  unfold wiE at q
  rw [q]
  by_cases c : wh = 0
  · rw [if_pos c, hwW_0 c]
    rw [c] at h
    constructor
    · rintro ⟨p, p0, p1, p2⟩
      have y := nt_yes (fy := 1) (hw := 0) h hp hb he ⟨p0, p0, p1⟩ (by decide) p2
      refine ⟨p, ⟨p0, by rw [← laR_0 (hw := 0) (fr := 0) rfl]; exact p1⟩, ?_⟩
      by_cases z : ∃ x ∈ wyR v f len p, acc 0 len x.1
      · exact z
      · exact absurd (mtR_none.mpr (fun x hx w => z ⟨x, hx, w⟩)) y
    · rintro ⟨p, ⟨p0, p1⟩, x, x1, x2⟩
      have p2 : p ≤ len := by rw [← laR_0 (hw := 0) (fr := 0) rfl] at p1; exact p1
      refine ⟨p, p0, p2, ?_⟩
      by_cases z : nbit NO p e
      · exact z
      · exact absurd x2 (mtR_none.mp (nt_no (fy := 1) (hw := 0) h hp hb he ⟨p0, p0, p2⟩ z) x x1)
  · rw [if_neg c, hwW_1 c]
    rw [show wh = 1 by omega] at h
    have l2 : laR 2 len 0 = 0 := (laR_1 (hw := 2) (n := len) (fr := 0) (by decide)).symm
    constructor
    · rintro ⟨p, p0, p1, p2⟩
      have y := nt_yes2 (fy := 1) h hp hb he ⟨p0, p0, by omega⟩ p2
      refine ⟨p, ⟨p0, by rw [l2]; exact p1⟩, ?_⟩
      by_cases z : ∃ x ∈ wyR v f len p, acc 2 len x.1
      · exact z
      · exact absurd (mtR_none.mpr (fun x hx w => z ⟨x, hx, w⟩)) y
    · rintro ⟨p, ⟨p0, p1⟩, x, x1, x2⟩
      rw [l2] at p1
      refine ⟨p, p0, p1, ?_⟩
      by_cases z : nbit NO p e
      · exact z
      · exact absurd x2 (mtR_none.mp (nt_no2 (fy := 1) h hp hb he ⟨p0, p0, by omega⟩ z) x x1)
theorem whS_y {TH f : Int → Int} {V : Int → Sn} {n x wh j is : Int} (h : TH j = 1) (hx : ¬ xb x j = 0) (w : wpR (V j)) (hb : bytes f n) (q : is = 1 ↔ exM (V j) f n (hwW wh) 0) (hi : is = 1) : whS TH V f n x wh j := ⟨h, hx, w, hb, q.mp hi⟩
theorem whS_n {TH f : Int → Int} {V : Int → Sn} {n x wh j is : Int} (q : is = 1 ↔ exM (V j) f n (hwW wh) 0) (hi : ¬ is = 1) : ¬ whS TH V f n x wh j := fun z => hi (q.mpr z.2.2.2.2)
theorem whS_x {TH f : Int → Int} {V : Int → Sn} {n x wh j : Int} (h : xb x j = 0) : ¬ whS TH V f n x wh j := fun z => z.2.1 h
theorem whS_0 {TH f : Int → Int} {V : Int → Sn} {n x wh j : Int} (h : ¬ TH j = 1) : ¬ whS TH V f n x wh j := fun z => h z.1
