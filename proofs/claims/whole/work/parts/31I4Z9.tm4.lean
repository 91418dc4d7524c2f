/-! replace: match by match -/
section Rp
variable {W : Int → List (Int × Gr)} {fy n : Int} {f : Int → Int} {L : List Int}
/-- what is written first is the begin of what is written at last -/
theorem rpV_pre : ∀ (d k : Nat) (ab a2 : Int) (O O2 : List Int), rpV W fy n f L k ab O → rpV W fy n f L (k + d) a2 O2 → ∃ R : List Int, O2 = O ++ R := by
  intro d
  induction d with
  | zero =>
    intro k ab a2 O O2 h q
    exact ⟨[], by rw [List.append_nil]; exact (rpV_det k ab a2 O O2 h q).2.symm⟩
  | succ d ih =>
    intro k ab a2 O O2 h q
    obtain ⟨a0, st, g, O0, q1, _, q3⟩ := q
    obtain ⟨R, e⟩ := ih k ab a0 O O0 h q1
    exact ⟨R ++ (sbR f (max a0 0) st ++ exL f st a2 g L), by rw [q3, e, List.append_assoc]⟩
end Rp
/-- it is too much: at some match, or at the end -/
def rpO (v : Sn) (f : Int → Int) (n fy : Int) (L : List Int) : Prop := ∃ (k : Nat) (ab : Int) (O : List Int), rpV (wyR v f n) fy n f L k ab O ∧ (6000 < O.length ∨ ((∀ (S : Option (Int × Gr)) (st : Int), nxP (wyR v f n) fy n ab S st → S = none) ∧ 6000 < (O ++ sbR f (max ab 0) n).length))
/-- so many are written, or too much is -/
def rzR (v : Sn) (f : Int → Int) (n fy : Int) (L : List Int) (F : Int → Int) (m tm : Int) : Prop := (tm = 0 ∧ ∃ O : List Int, rpW v f n fy L O ∧ m = (O.length : Int) ∧ m ≤ 6000 ∧ rwL F 0 O) ∨ (tm = 1 ∧ rpO v f n fy L)
section Rz
variable {v : Sn} {f F F2 : Int → Int} {n fy m m2 tm tm2 : Int} {L O : List Int}
theorem rpO_no (h : rpO v f n fy L) (q : rpW v f n fy L O) (hl : O.length ≤ 6000) : False := by
  obtain ⟨k, ab, O1, h1, h2⟩ := h
  obtain ⟨j, a2, O2, q1, q2, q3⟩ := q
  have l := rpV_le q1 q2 k ab O1 h1
  rcases h2 with h2 | ⟨h2, h3⟩
  · obtain ⟨R, e⟩ := rpV_pre (j - k) k ab a2 O1 O2 h1 (by rw [show k + (j - k) = j by omega]; exact q1)
    rw [q3, e, List.length_append, List.length_append] at hl
    omega
  · have l2 := rpV_le h1 h2 j a2 O2 q1
    have e : j = k := by omega
    rw [e] at q1
    obtain ⟨e1, e2⟩ := rpV_det k ab a2 O1 O2 h1 q1
    rw [e1, e2, ← q3] at h3
    omega
theorem rz_det (h : rzR v f n fy L F m tm) (q : rzR v f n fy L F2 m2 tm2) : tm = tm2 ∧ (tm = 0 → m = m2 ∧ ∀ i : Int, 0 ≤ i → i < m → F i = F2 i) := by
  rcases h with ⟨h0, O, h1, h2, h3, h4⟩ | ⟨h0, h1⟩ <;> rcases q with ⟨q0, O2, q1, q2, q3, q4⟩ | ⟨q0, q1⟩
  · have e := rpW_det h1 q1
    rw [← e] at q2 q4
    exact ⟨by omega, fun _ => ⟨by omega, fun i i0 i1 => rwL_eq O 0 h4 q4 i (by omega) (by omega)⟩⟩
  · exact (rpO_no q1 h1 (by omega)).elim
  · exact (rpO_no h1 q1 (by omega)).elim
  · exact ⟨by omega, fun z => by omega⟩
end Rz
/-- the reference, match by match -/
def rrI (v : Sn) (f : Int → Int) (n fy : Int) (L : List Int) (ab : Int) (WR : Int → Int) (m tm : Int) : Prop := ∃ (k : Nat) (O : List Int), rpV (wyR v f n) fy n f L k ab O ∧ wmR WR m tm O
section Rr
variable {v : Sn} {f WR WR2 SP : Int → Int} {n fy ab la e m tm m2 tm2 wi : Int} {L O : List Int} {k : Nat}
theorem rrI_0 (h : m = 0) : rrI v f n fy L (-1) WR m 0 := ⟨0, [], ⟨rfl, rfl⟩, wmR_0 h⟩
/-- a match's piece and its template -/
theorem rpV_s (h : rpV (wyR v f n) fy n f L k ab O) (q : nxC v f n fy ab wi 1 SP) (hb : bytes f n) (ha : -1 ≤ ab) (hl : mxA la ab) (hL : ∀ it ∈ L, 0 ≤ it ∨ 2 * (-1 - it) + 1 < wi) (he : e = SP 1) : rpV (wyR v f n) fy n f L (k + 1) e (O ++ sbR f la (SP 0) ++ exS f SP L) := by
  obtain ⟨S, st, q1, q2⟩ := q
  obtain ⟨g, m1, m2⟩ := mch_1 q2
  rw [m1] at q1 q2
  have i := nxP_in q1 (wyR_W hb) ha
  rw [he]
  refine ⟨ab, st, g, O, h, q1, ?_⟩
  unfold mxA at hl
  rw [exS_X q2 i.1 L hL, List.append_assoc, m2, hl]
theorem rrI_s (h : rpV (wyR v f n) fy n f L k ab O) (q : nxC v f n fy ab wi 1 SP) (hb : bytes f n) (ha : -1 ≤ ab) (hl : mxA la ab) (hL : ∀ it ∈ L, 0 ≤ it ∨ 2 * (-1 - it) + 1 < wi) (he : e = SP 1) (hw : wmR WR2 m2 tm2 (O ++ sbR f la (SP 0) ++ exS f SP L)) : rrI v f n fy L e WR2 m2 tm2 := ⟨k + 1, _, rpV_s h q hb ha hl hL he, hw⟩
/-- too much at a match -/
theorem rz_o (h : rrI v f n fy L ab WR m tm) (ht : tm = 1) : rzR v f n fy L WR2 m2 1 := by
  obtain ⟨k, O, h1, h2⟩ := h
  rcases h2 with ⟨z, _⟩ | ⟨_, z⟩
  · omega
  · exact Or.inr ⟨rfl, k, ab, O, h1, Or.inl z⟩
/-- the last piece -/
theorem rz_e (h : rpV (wyR v f n) fy n f L k ab O) (q : nxC v f n fy ab wi 0 SP) (hl : mxA la ab) (hw : wmR WR m tm (O ++ sbR f la n)) : rzR v f n fy L WR m tm := by
  obtain ⟨S, st, q1, q2⟩ := q
  rw [mch_0 q2] at q1
  unfold mxA at hl
  rw [hl] at hw
  rcases hw with ⟨z, h1, h2, h3⟩ | ⟨z, h1⟩
  · exact Or.inl ⟨z, _, ⟨k, ab, O, h, nxP_none q1, rfl⟩, h1, h2, h3⟩
  · exact Or.inr ⟨z, k, ab, O, h, Or.inr ⟨nxP_none q1, h1⟩⟩
end Rr
/-- items of a template: bytes, or groups that there are -/
theorem tmL_b {T : Int → Int} {n GR : Int} {NZ : Int → Int} {NM : Int → Int → Int} (hT : ∀ i : Int, 0 ≤ i → i < n → 0 ≤ T i) (hg : GR ≤ 9) : ∀ (k : Nat) (p : Int) (L : List Int), 0 ≤ p → tmL T n GR NZ NM k p L → ∀ it ∈ L, 0 ≤ it ∨ 2 * (-1 - it) + 1 < 2 * (GR + 1) := by
  intro k
  induction k with
  | zero => intro p L _ h it hi; rw [h.2] at hi; exact absurd hi List.not_mem_nil
  | succ k ih =>
    intro p L p0 h it hi
    obtain ⟨h0, x, w, L2, h1, h2, h3⟩ := h
    rw [h3] at hi
    rcases List.mem_cons.mp hi with e | hi
    · rw [e]
      rcases h1 with ⟨_, a2, _⟩ | ⟨_, _, _, a4, _⟩ | ⟨_, _, a3, a4, _⟩ | ⟨_, _, _, z, g, _, _, a6, _, a8, _⟩
      · have t := hT p p0 h0
        exact Or.inl (by omega)
      · exact Or.inl (by omega)
      · exact Or.inr (by omega)
      · exact Or.inr (by omega)
    · exact ih (p + w) L2 (by have := tmI_w h1; omega) h2 it hi
theorem tpL_b {T : Int → Int} {n GR : Int} {NZ : Int → Int} {NM : Int → Int → Int} {L : List Int} (h : tpL T n GR NZ NM L) (hT : ∀ i : Int, 0 ≤ i → i < n → 0 ≤ T i) (hg : GR ≤ 9) : ∀ it ∈ L, 0 ≤ it ∨ 2 * (-1 - it) + 1 < 20 := fun it hi => by
  obtain ⟨k, h⟩ := h
  rcases tmL_b hT hg k 0 L (Int.le_refl 0) h it hi with z | z
  · exact Or.inl z
  · exact Or.inr (by omega)
/-- too much before, too much behind -/
theorem rz_o2 {v : Sn} {f WR WR2 : Int → Int} {n fy ab m tm m2 tm2 : Int} {L O X : List Int} {k : Nat} (h : rpV (wyR v f n) fy n f L k ab O) (hw : wmR WR m tm O) (ht : tm = 1) (hw2 : wmR WR2 m2 tm2 (O ++ X)) : rzR v f n fy L WR2 m2 tm2 := by
  have l : 6000 < O.length := by
    rcases hw with ⟨z, _⟩ | ⟨_, z⟩
    · omega
    · exact z
  rcases hw2 with ⟨_, z1, z2, _⟩ | ⟨z, _⟩
  · rw [List.length_append] at z1
    omega
  · exact Or.inr ⟨z, k, ab, O, h, Or.inl l⟩
/-- the loop of replace, at its end -/
def rrE (v : Sn) (f : Int → Int) (n fy : Int) (L : List Int) (ab : Int) (SP WR : Int → Int) (m tm : Int) : Prop := rrI v f n fy L ab WR m tm ∧ (tm = 1 ∨ nxC v f n fy ab 20 0 SP)
theorem rrE_z {v : Sn} {f SP WR WR2 : Int → Int} {n fy ab la m tm m2 tm2 : Int} {L O : List Int} {k : Nat} (h : rpV (wyR v f n) fy n f L k ab O) (hw : wmR WR m tm O) (hE : tm = 1 ∨ nxC v f n fy ab 20 0 SP) (hl : mxA la ab) (hw2 : wmR WR2 m2 tm2 (O ++ sbR f la n)) : rzR v f n fy L WR2 m2 tm2 := by
  rcases hE with z | z
  · exact rz_o2 h hw z hw2
  · exact rz_e h z hl hw2
/-- what replace leaves: an answer, or a throw (nothing there, no template, too much) -/
def rpX (TH GR FS NS NM : Int → Int) (V : Int → Sn) (f : Int → Int) (n : Int) (T : Int → Int) (tn s v th ou : Int) (OU : Int → Int) (ou2 : Int) (OU2 : Int → Int) : Prop := (th = 0 ∧ (0 ≤ s ∧ s < 6 ∧ TH s = 1) ∧ v = ou2 ∧ ∃ L : List Int, tpL T tn (GR s) (gNZ NS s) (gNM NM s) L ∧ rzR (V s) f n (1 - FS s / 16) L OU2 ou2 0) ∨ (th = 1 ∧ (nth TH s ∨ ((0 ≤ s ∧ s < 6 ∧ TH s = 1) ∧ (tpN T tn (GR s) (gNZ NS s) (gNM NM s) ∨ ∃ (L : List Int) (F : Int → Int) (m : Int), tpL T tn (GR s) (gNZ NS s) (gNM NM s) L ∧ rzR (V s) f n (1 - FS s / 16) L F m 1))) ∧ v = 0 ∧ ou2 = ou ∧ OU2 = OU)
theorem rzR.cg {v : Sn} {f F F2 : Int → Int} {n fy m : Int} {L : List Int} (h : rzR v f n fy L F m 0) (hc : ∀ i : Int, 0 ≤ i → i < m → F2 i = F i) : rzR v f n fy L F2 m 0 := by
  rcases h with ⟨_, O, h1, h2, h3, h4⟩ | ⟨h, _⟩
  · exact Or.inl ⟨rfl, O, h1, h2, h3, rwL_cg O 0 h4 (fun i i0 i1 => hc i (by omega) (by omega))⟩
  · exact absurd h (by decide)
/-- in each slot that is there, no two groups have one name -/
def mdn (TH NS NM GR : Int → Int) : Prop := ∀ s : Int, 0 ≤ s → s < 6 → TH s = 1 → nmD (gNZ NS s) (gNM NM s) (GR s)
