/-! the reference's sets: images, and how many beginnings a set has -/
def imgU (c : Int) : Prop := (65 ≤ c ∧ c ≤ 90) ∨ (192 ≤ c ∧ c ≤ 222 ∧ ¬ c = 215) ∨ (913 ≤ c ∧ c ≤ 937) ∨ (1040 ≤ c ∧ c ≤ 1071)
def img1 (c : Int) : Int := if (65 ≤ c ∧ c ≤ 90) ∨ (192 ≤ c ∧ c ≤ 222 ∧ ¬ c = 215) ∨ (913 ≤ c ∧ c ≤ 937) ∨ (1040 ≤ c ∧ c ≤ 1071) then c + 32 else if 1024 ≤ c ∧ c ≤ 1039 then c + 80 else c
def img2 (v : Int) : Int := if v = 8490 then 107 else if v = 383 then 115 else if v = 8491 then 229 else if v = 181 then 956 else if v = 962 then 963 else v
def img (c : Int) : Int := img2 (img1 c)
theorem img1_c (c : Int) : (imgU c ∧ img1 c = c + 32) ∨ (¬ imgU c ∧ 1024 ≤ c ∧ c ≤ 1039 ∧ img1 c = c + 80) ∨ (¬ imgU c ∧ ¬ (1024 ≤ c ∧ c ≤ 1039) ∧ img1 c = c) := by
  unfold img1
  by_cases h : (65 ≤ c ∧ c ≤ 90) ∨ (192 ≤ c ∧ c ≤ 222 ∧ ¬ c = 215) ∨ (913 ≤ c ∧ c ≤ 937) ∨ (1040 ≤ c ∧ c ≤ 1071)
  · rw [if_pos h]; exact Or.inl ⟨h, rfl⟩
  · rw [if_neg h]
    by_cases q : 1024 ≤ c ∧ c ≤ 1039
    · rw [if_pos q]; exact Or.inr (Or.inl ⟨h, q.1, q.2, rfl⟩)
    · rw [if_neg q]; exact Or.inr (Or.inr ⟨h, q, rfl⟩)
theorem img2_c (v : Int) : (v = 8490 ∧ img2 v = 107) ∨ (v = 383 ∧ img2 v = 115) ∨ (v = 8491 ∧ img2 v = 229) ∨ (v = 181 ∧ img2 v = 956) ∨ (v = 962 ∧ img2 v = 963) ∨ ((¬ v = 8490 ∧ ¬ v = 383 ∧ ¬ v = 8491 ∧ ¬ v = 181 ∧ ¬ v = 962) ∧ img2 v = v) := by
  unfold img2
  by_cases h0 : v = 8490
  · rw [if_pos h0]; exact Or.inl ⟨h0, rfl⟩
  rw [if_neg h0]
  by_cases h1 : v = 383
  · rw [if_pos h1]; exact Or.inr (Or.inl ⟨h1, rfl⟩)
  rw [if_neg h1]
  by_cases h2 : v = 8491
  · rw [if_pos h2]; exact Or.inr (Or.inr (Or.inl ⟨h2, rfl⟩))
  rw [if_neg h2]
  by_cases h3 : v = 181
  · rw [if_pos h3]; exact Or.inr (Or.inr (Or.inr (Or.inl ⟨h3, rfl⟩)))
  rw [if_neg h3]
  by_cases h4 : v = 962
  · rw [if_pos h4]; exact Or.inr (Or.inr (Or.inr (Or.inr (Or.inl ⟨h4, rfl⟩))))
  rw [if_neg h4]
  exact Or.inr (Or.inr (Or.inr (Or.inr (Or.inr ⟨⟨h0, h1, h2, h3, h4⟩, rfl⟩))))
/-- the characters that have images of their own or another's -/
def inD (x : Int) : Prop := (0 ≤ x ∧ x < 1120) ∨ x = 8490 ∨ x = 8491
theorem img_in {c : Int} (h : inD c) : 0 ≤ img c ∧ img c < 1120 := by
  unfold img inD at *
  have a := img1_c c
  have b := img2_c (img1 c)
  unfold imgU at a
  omega
theorem img_107 {y : Int} (h : img y = 107) : y = 75 ∨ y = 107 ∨ y = 8490 := by
  unfold img at h
  have a := img1_c y
  have b := img2_c (img1 y)
  unfold imgU at a
  omega
theorem img_115 {y : Int} (h : img y = 115) : y = 83 ∨ y = 115 ∨ y = 383 := by
  unfold img at h
  have a := img1_c y
  have b := img2_c (img1 y)
  unfold imgU at a
  omega
theorem img_229 {y : Int} (h : img y = 229) : y = 197 ∨ y = 229 ∨ y = 8491 := by
  unfold img at h
  have a := img1_c y
  have b := img2_c (img1 y)
  unfold imgU at a
  omega
theorem img_956 {y : Int} (h : img y = 956) : y = 181 ∨ y = 924 ∨ y = 956 := by
  unfold img at h
  have a := img1_c y
  have b := img2_c (img1 y)
  unfold imgU at a
  omega
theorem img_963 {y : Int} (h : img y = 963) : y = 930 ∨ y = 931 ∨ y = 962 ∨ y = 963 := by
  unfold img at h
  have a := img1_c y
  have b := img2_c (img1 y)
  unfold imgU at a
  omega
theorem zAR_v : zAR (3 * 0) = 65 ∧ zAR (3 * 0 + 1) = 90 ∧ zAR (3 * 0 + 2) = 32 ∧ zAR (3 * 1) = 192 ∧ zAR (3 * 1 + 1) = 214 ∧ zAR (3 * 1 + 2) = 32 ∧ zAR (3 * 2) = 216 ∧ zAR (3 * 2 + 1) = 222 ∧ zAR (3 * 2 + 2) = 32 ∧ zAR (3 * 3) = 913 ∧ zAR (3 * 3 + 1) = 937 ∧ zAR (3 * 3 + 2) = 32 ∧ zAR (3 * 4) = 1040 ∧ zAR (3 * 4 + 1) = 1071 ∧ zAR (3 * 4 + 2) = 32 ∧ zAR (3 * 5) = 1024 ∧ zAR (3 * 5 + 1) = 1039 ∧ zAR (3 * 5 + 2) = 80 := by decide
def nsp (w : Int) : Prop := ¬ w = 107 ∧ ¬ w = 115 ∧ ¬ w = 229 ∧ ¬ w = 956 ∧ ¬ w = 963
/-- an image that no special one has: one's own, or by a distance -/
theorem img_k {x : Int} (hx : inD x) (h : nsp (img x)) : img x = x ∨ ∃ r : Int, 0 ≤ r ∧ r < 6 ∧ zAR (3 * r) ≤ x ∧ x ≤ zAR (3 * r + 1) ∧ img x = x + zAR (3 * r + 2) := by
  unfold nsp at h
  unfold img at *
  have a := img1_c x
  have b := img2_c (img1 x)
  obtain ⟨v0, v1, v2, v3, v4, v5, v6, v7, v8, v9, v10, v11, v12, v13, v14, v15, v16, v17⟩ := zAR_v
  have e : img2 (img1 x) = img1 x := by omega
  rw [e]
  rcases a with ⟨u, a⟩ | ⟨u, a1, a2, a⟩ | ⟨u, a1, a⟩
  · right
    rcases u with u | u | u | u
    · exact ⟨0, by omega, by omega, by omega, by omega, by omega⟩
    · rcases (show x ≤ 214 ∨ 216 ≤ x by omega) with t | t
      · exact ⟨1, by omega, by omega, by omega, by omega, by omega⟩
      · exact ⟨2, by omega, by omega, by omega, by omega, by omega⟩
    · exact ⟨3, by omega, by omega, by omega, by omega, by omega⟩
    · exact ⟨4, by omega, by omega, by omega, by omega, by omega⟩
  · right; exact ⟨5, by omega, by omega, by omega, by omega, by omega⟩
  · left; exact a
theorem zAF_j (j : Nat) (v : Int) (h : zAF (j : Int) = v) : zAF (j : Int) = v := h
theorem al_grp {a b x y : Int} (q : Int) (hq : 0 ≤ q ∧ q < 5) (i j : Int) (hi : 4 * q ≤ i ∧ i < 4 * q + 4) (hj : 4 * q ≤ j ∧ j < 4 * q + 4) (ex : x = zAF i) (ey : y = zAF j) (hb : a ≤ y ∧ y ≤ b) : alike a b x := Or.inr (Or.inr ⟨q, hq.1, hq.2, ⟨j, hj.1, hj.2, by rw [← ey]; exact hb⟩, ⟨i, hi.1, hi.2, ex⟩⟩)
theorem img_alike {a b x y : Int} (hx : inD x) (hy : inD y) (h : img x = img y) (hb : a ≤ y ∧ y ≤ b) : alike a b x := by
  by_cases n : nsp (img x)
  · have k1 := img_k hx n
    have k2 := img_k hy (h ▸ n)
    obtain ⟨v0, v1, v2, v3, v4, v5, v6, v7, v8, v9, v10, v11, v12, v13, v14, v15, v16, v17⟩ := zAR_v
    rcases k1 with k1 | ⟨r, r0, r1, r2, r3, k1⟩ <;> rcases k2 with k2 | ⟨s, s0, s1, s2, s3, k2⟩
    · exact Or.inl (by omega)
    · exact Or.inr (Or.inl ⟨s, s0, s1, Or.inl (by omega)⟩)
    · exact Or.inr (Or.inl ⟨r, r0, r1, Or.inr (by omega)⟩)
    · refine Or.inl ?_
      have : x = y := by
        rcases (show r = 0 ∨ r = 1 ∨ r = 2 ∨ r = 3 ∨ r = 4 ∨ r = 5 by omega) with e | e | e | e | e | e <;> subst e <;> rcases (show s = 0 ∨ s = 1 ∨ s = 2 ∨ s = 3 ∨ s = 4 ∨ s = 5 by omega) with e | e | e | e | e | e <;> subst e <;> omega
      omega
  · have hs : img x = 107 ∨ img x = 115 ∨ img x = 229 ∨ img x = 956 ∨ img x = 963 := by unfold nsp at n; omega
    rcases hs with s | s | s | s | s
    · have e1 := img_107 s
      have e2 := img_107 (h ▸ s)
      rcases e1 with e1 | e1 | e1 <;> rcases e2 with e2 | e2 | e2 <;> subst e1 <;> subst e2
      all_goals first
        | exact al_grp 0 (by decide) 0 0 (by decide) (by decide) (by decide) (by decide) hb
        | exact al_grp 0 (by decide) 0 1 (by decide) (by decide) (by decide) (by decide) hb
        | exact al_grp 0 (by decide) 0 2 (by decide) (by decide) (by decide) (by decide) hb
        | exact al_grp 0 (by decide) 1 0 (by decide) (by decide) (by decide) (by decide) hb
        | exact al_grp 0 (by decide) 1 1 (by decide) (by decide) (by decide) (by decide) hb
        | exact al_grp 0 (by decide) 1 2 (by decide) (by decide) (by decide) (by decide) hb
        | exact al_grp 0 (by decide) 2 0 (by decide) (by decide) (by decide) (by decide) hb
        | exact al_grp 0 (by decide) 2 1 (by decide) (by decide) (by decide) (by decide) hb
        | exact al_grp 0 (by decide) 2 2 (by decide) (by decide) (by decide) (by decide) hb
    · have e1 := img_115 s
      have e2 := img_115 (h ▸ s)
      rcases e1 with e1 | e1 | e1 <;> rcases e2 with e2 | e2 | e2 <;> subst e1 <;> subst e2
      all_goals first
        | exact al_grp 1 (by decide) 4 4 (by decide) (by decide) (by decide) (by decide) hb
        | exact al_grp 1 (by decide) 4 5 (by decide) (by decide) (by decide) (by decide) hb
        | exact al_grp 1 (by decide) 4 6 (by decide) (by decide) (by decide) (by decide) hb
        | exact al_grp 1 (by decide) 5 4 (by decide) (by decide) (by decide) (by decide) hb
        | exact al_grp 1 (by decide) 5 5 (by decide) (by decide) (by decide) (by decide) hb
        | exact al_grp 1 (by decide) 5 6 (by decide) (by decide) (by decide) (by decide) hb
        | exact al_grp 1 (by decide) 6 4 (by decide) (by decide) (by decide) (by decide) hb
        | exact al_grp 1 (by decide) 6 5 (by decide) (by decide) (by decide) (by decide) hb
        | exact al_grp 1 (by decide) 6 6 (by decide) (by decide) (by decide) (by decide) hb
    · have e1 := img_229 s
      have e2 := img_229 (h ▸ s)
      rcases e1 with e1 | e1 | e1 <;> rcases e2 with e2 | e2 | e2 <;> subst e1 <;> subst e2
      all_goals first
        | exact al_grp 2 (by decide) 8 8 (by decide) (by decide) (by decide) (by decide) hb
        | exact al_grp 2 (by decide) 8 9 (by decide) (by decide) (by decide) (by decide) hb
        | exact al_grp 2 (by decide) 8 10 (by decide) (by decide) (by decide) (by decide) hb
        | exact al_grp 2 (by decide) 9 8 (by decide) (by decide) (by decide) (by decide) hb
        | exact al_grp 2 (by decide) 9 9 (by decide) (by decide) (by decide) (by decide) hb
        | exact al_grp 2 (by decide) 9 10 (by decide) (by decide) (by decide) (by decide) hb
        | exact al_grp 2 (by decide) 10 8 (by decide) (by decide) (by decide) (by decide) hb
        | exact al_grp 2 (by decide) 10 9 (by decide) (by decide) (by decide) (by decide) hb
        | exact al_grp 2 (by decide) 10 10 (by decide) (by decide) (by decide) (by decide) hb
    · have e1 := img_956 s
      have e2 := img_956 (h ▸ s)
      rcases e1 with e1 | e1 | e1 <;> rcases e2 with e2 | e2 | e2 <;> subst e1 <;> subst e2
      all_goals first
        | exact al_grp 3 (by decide) 12 12 (by decide) (by decide) (by decide) (by decide) hb
        | exact al_grp 3 (by decide) 12 13 (by decide) (by decide) (by decide) (by decide) hb
        | exact al_grp 3 (by decide) 12 14 (by decide) (by decide) (by decide) (by decide) hb
        | exact al_grp 3 (by decide) 13 12 (by decide) (by decide) (by decide) (by decide) hb
        | exact al_grp 3 (by decide) 13 13 (by decide) (by decide) (by decide) (by decide) hb
        | exact al_grp 3 (by decide) 13 14 (by decide) (by decide) (by decide) (by decide) hb
        | exact al_grp 3 (by decide) 14 12 (by decide) (by decide) (by decide) (by decide) hb
        | exact al_grp 3 (by decide) 14 13 (by decide) (by decide) (by decide) (by decide) hb
        | exact al_grp 3 (by decide) 14 14 (by decide) (by decide) (by decide) (by decide) hb
    · have e1 := img_963 s
      have e2 := img_963 (h ▸ s)
      have k : ∀ c : Int, c = 930 ∨ c = 931 ∨ c = 962 ∨ c = 963 → ∃ i : Int, (4 * 4 ≤ i ∧ i < 4 * 4 + 4) ∧ c = zAF i := by
        rintro c (e | e | e | e) <;> subst e
        · exact ⟨16, by decide, by decide⟩
        · exact ⟨17, by decide, by decide⟩
        · exact ⟨18, by decide, by decide⟩
        · exact ⟨19, by decide, by decide⟩
      obtain ⟨i, i1, i2⟩ := k x e1
      obtain ⟨j, j1, j2⟩ := k y e2
      exact al_grp 4 (by decide) i j i1 j1 i2 j2 hb
theorem zAF_img : ∀ m : Nat, m < 20 → ∀ k : Nat, k < 20 → m / 4 = k / 4 → img (zAF (m : Int)) = img (zAF (k : Int)) := by decide +kernel
theorem zAF_D : ∀ m : Nat, m < 20 → (0 ≤ zAF (m : Int) ∧ zAF (m : Int) < 1120) ∨ zAF (m : Int) = 8490 ∨ zAF (m : Int) = 8491 := by decide +kernel
theorem alike_img {a b x : Int} (h : alike a b x) : (a ≤ x ∧ x ≤ b) ∨ (inD x ∧ ∃ y : Int, inD y ∧ (a ≤ y ∧ y ≤ b) ∧ img y = img x) := by
  obtain ⟨v0, v1, v2, v3, v4, v5, v6, v7, v8, v9, v10, v11, v12, v13, v14, v15, v16, v17⟩ := zAR_v
  rcases h with h | ⟨r, r0, r1, h⟩ | ⟨q, q0, q1, ⟨j, j0, j1, j2, j3⟩, ⟨k, k0, k1, k2⟩⟩
  · exact Or.inl h
  · right
    have key : ∀ y s : Int, zAR (3 * r) ≤ y → y ≤ zAR (3 * r + 1) → s = zAR (3 * r + 2) → inD y ∧ inD (y + s) ∧ img (y + s) = img y := by
      intro y s h1 h2 h3
      have a1 := img1_c y
      have b1 := img2_c (img1 y)
      have a2 := img1_c (y + s)
      have b2 := img2_c (img1 (y + s))
      unfold imgU at a1 a2
      unfold inD img
      rcases (show r = 0 ∨ r = 1 ∨ r = 2 ∨ r = 3 ∨ r = 4 ∨ r = 5 by omega) with e | e | e | e | e | e <;> subst e <;> refine ⟨?_, ?_, ?_⟩ <;> first | omega | (have c1 : img1 y = y + s := by omega) | skip
      all_goals first | (have c2 : img1 (y + s) = y + s := by omega) | skip
      all_goals rw [c1, c2]
    rcases h with h | h
    · obtain ⟨d1, d2, d3⟩ := key (x - zAR (3 * r + 2)) _ (by omega) (by omega) rfl
      rw [show x - zAR (3 * r + 2) + zAR (3 * r + 2) = x by omega] at d2 d3
      exact ⟨d2, _, d1, by omega, d3.symm⟩
    · obtain ⟨d1, d2, d3⟩ := key x _ (by omega) (by omega) rfl
      exact ⟨d1, _, d2, by omega, d3⟩
  · right
    have e1 := zAF_img k.toNat (by omega) j.toNat (by omega) (by omega)
    have e2 := zAF_D k.toNat (by omega)
    have e3 := zAF_D j.toNat (by omega)
    rw [show ((k.toNat : Nat) : Int) = k by omega] at e1 e2
    rw [show ((j.toNat : Nat) : Int) = j by omega] at e1 e3
    rw [← k2] at e1 e2
    exact ⟨e2, _, e3, ⟨j2, j3⟩, e1.symm⟩
/-! how many beginnings a set has -/
def lfc (P : Int → Prop) (m : Int) : Prop := ∃ l : List Int, (l.length : Int) ≤ m ∧ ∀ x : Int, P x → ¬ P (x - 1) → x ∈ l
theorem lfc_w {P : Int → Prop} {m k : Int} (h : lfc P m) (hk : m ≤ k) : lfc P k := by
  obtain ⟨l, a, b⟩ := h
  exact ⟨l, by omega, b⟩
theorem lfc_iff {P Q : Int → Prop} {m : Int} (h : lfc P m) (e : ∀ x : Int, Q x ↔ P x) : lfc Q m := by
  obtain ⟨l, a, b⟩ := h
  exact ⟨l, a, fun x h1 h2 => b x ((e x).mp h1) (fun q => h2 ((e _).mpr q))⟩
theorem lfc_0 {P : Int → Prop} (h : ∀ x : Int, ¬ P x) : lfc P 0 := ⟨[], by simp, fun x q => absurd q (h x)⟩
theorem lfc_or {P Q : Int → Prop} {m k : Int} (h : lfc P m) (h2 : lfc Q k) : lfc (fun x => P x ∨ Q x) (m + k) := by
  obtain ⟨l, a, b⟩ := h
  obtain ⟨l2, a2, b2⟩ := h2
  refine ⟨l ++ l2, by rw [List.length_append]; omega, fun x q n => ?_⟩
  rcases q with q | q
  · exact List.mem_append.mpr (Or.inl (b x q (fun z => n (Or.inl z))))
  · exact List.mem_append.mpr (Or.inr (b2 x q (fun z => n (Or.inr z))))
theorem lfc_iv (a b : Int) : lfc (fun x => a ≤ x ∧ x ≤ b) 1 := ⟨[a], by simp, fun x q n => by
  rw [List.mem_singleton]
  have : ¬ (a ≤ x - 1 ∧ x - 1 ≤ b) := n
  omega⟩
theorem lfc_al1 {c : Int} (h : 0 ≤ c) : lfc (alike c c) 11 := ⟨alF c, by have := alF_len h; omega, fun x q _ => alF_mem q⟩
def alL (a : Int) : List Int := a :: ((List.range 6).flatMap (fun r : Nat => [max a (zAR (3 * (r : Int))) + zAR (3 * (r : Int) + 2), max a (zAR (3 * (r : Int)) + zAR (3 * (r : Int) + 2)) - zAR (3 * (r : Int) + 2)]) ++ (List.range 20).map (fun j : Nat => zAF (j : Int)))
theorem alL_len (a : Int) : (alL a).length = 33 := rfl
theorem lfc_al (a b : Int) : lfc (alike a b) 33 := ⟨alL a, by rw [alL_len]; decide, fun x q n => by
  unfold alL
  rcases q with h | ⟨r, r0, r1, h⟩ | ⟨q, q0, q1, hp, ⟨k, k0, k1, k2⟩⟩
  · refine List.mem_cons.mpr (Or.inl ?_)
    by_cases z : a ≤ x - 1
    · exact absurd (Or.inl ⟨z, by omega⟩) n
    · omega
  · refine List.mem_cons.mpr (Or.inr (List.mem_append.mpr (Or.inl (List.mem_flatMap.mpr ⟨r.toNat, List.mem_range.mpr (by omega), ?_⟩))))
    rw [show ((r.toNat : Nat) : Int) = r by omega]
    rcases h with h | h
    · refine List.mem_cons.mpr (Or.inl ?_)
      by_cases z : max a (zAR (3 * r)) ≤ x - 1 - zAR (3 * r + 2)
      · exact absurd (Or.inr (Or.inl ⟨r, r0, r1, Or.inl ⟨z, by omega⟩⟩)) n
      · omega
    · refine List.mem_cons.mpr (Or.inr (List.mem_singleton.mpr ?_))
      by_cases z : max a (zAR (3 * r) + zAR (3 * r + 2)) ≤ x - 1 + zAR (3 * r + 2)
      · exact absurd (Or.inr (Or.inl ⟨r, r0, r1, Or.inr ⟨z, by omega⟩⟩)) n
      · omega
  · refine List.mem_cons.mpr (Or.inr (List.mem_append.mpr (Or.inr (List.mem_map.mpr ⟨k.toNat, List.mem_range.mpr (by omega), ?_⟩))))
    rw [show ((k.toNat : Nat) : Int) = k by omega]
    exact k2.symm⟩
/-! what was gathered -/
def gm (LO HI : Int → Int) (n x : Int) : Prop := ∃ j : Int, (0 ≤ j ∧ j < n) ∧ LO j ≤ x ∧ x ≤ HI j
def gbd (LO HI : Int → Int) (n : Int) : Prop := ∀ j : Int, 0 ≤ j → j < n → 0 ≤ LO j ∧ LO j ≤ HI j ∧ HI j ≤ 1114111
theorem gbd_0 {LO HI : Int → Int} : gbd LO HI 0 := fun j a c => by omega
theorem gbd_s {LO HI : Int → Int} {n a b : Int} (h : gbd LO HI n) (hab : 0 ≤ a ∧ a ≤ b ∧ b ≤ 1114111) : gbd (zu LO n a) (zu HI n b) (n + 1) := fun j j0 j1 => by
  by_cases e : j = n
  · subst e; rw [zu_self, zu_self]; exact hab
  · rw [zu_ne e, zu_ne e]; exact h j j0 (by omega)
theorem gm_0 {LO HI : Int → Int} {x : Int} : ¬ gm LO HI 0 x := fun ⟨j, a, _⟩ => by omega
theorem gm_s {LO HI : Int → Int} {n a b x : Int} (hn : 0 ≤ n) : gm (zu LO n a) (zu HI n b) (n + 1) x ↔ gm LO HI n x ∨ (a ≤ x ∧ x ≤ b) := by
  constructor
  · rintro ⟨j, j0, j1, j2⟩
    by_cases e : j = n
    · subst e; rw [zu_self] at j1 j2; exact Or.inr ⟨j1, j2⟩
    · rw [zu_ne e] at j1 j2; exact Or.inl ⟨j, by omega, j1, j2⟩
  · rintro (⟨j, j0, j1, j2⟩ | ⟨j1, j2⟩)
    · exact ⟨j, by omega, by rw [zu_ne (by omega)]; exact j1, by rw [zu_ne (by omega)]; exact j2⟩
    · exact ⟨n, by omega, by rw [zu_self]; exact j1, by rw [zu_self]; exact j2⟩
/-- the first k are in order, and all together are P -/
def srtI (LO HI : Int → Int) (n k : Int) (P : Int → Prop) : Prop := gbd LO HI n ∧ (∀ i j : Int, 0 ≤ i → i < j → j < k → LO i ≤ LO j) ∧ ∀ x : Int, P x ↔ gm LO HI n x
/-- one is held, place j is free -/
def insI (LO HI : Int → Int) (n k j a b : Int) (P : Int → Prop) : Prop := (∀ i : Int, 0 ≤ i → i < n → ¬ i = j → 0 ≤ LO i ∧ LO i ≤ HI i ∧ HI i ≤ 1114111) ∧ (0 ≤ a ∧ a ≤ b ∧ b ≤ 1114111) ∧ (∀ i i2 : Int, 0 ≤ i → i < i2 → i2 ≤ k → ¬ i = j → ¬ i2 = j → LO i ≤ LO i2) ∧ (∀ i : Int, j < i → i ≤ k → a < LO i) ∧ ∀ x : Int, P x ↔ (∃ i : Int, ((0 ≤ i ∧ i < n) ∧ ¬ i = j) ∧ LO i ≤ x ∧ x ≤ HI i) ∨ (a ≤ x ∧ x ≤ b)
section Sorting
variable {LO HI : Int → Int} {n k j a b : Int} {P : Int → Prop}
theorem srtI_0 (hb : gbd LO HI n) (h : ∀ x : Int, P x ↔ gm LO HI n x) : srtI LO HI n 1 P := ⟨hb, fun i j a c d => by omega, h⟩
theorem insI_0 (h : srtI LO HI n k P) (hk : 0 ≤ k ∧ k < n) : insI LO HI n k k (LO k) (HI k) P := by
  obtain ⟨h1, h2, h3⟩ := h
  refine ⟨fun i a c _ => h1 i a c, h1 k hk.1 hk.2, fun i i2 a c d e f => h2 i i2 a c (by omega), fun i a c => by omega, fun x => ?_⟩
  rw [h3 x]
  constructor
  · rintro ⟨i, i0, i1, i2⟩
    by_cases e : i = k
    · subst e; exact Or.inr ⟨i1, i2⟩
    · exact Or.inl ⟨i, ⟨i0, e⟩, i1, i2⟩
  · rintro (⟨i, ⟨i0, e⟩, i1⟩ | i1)
    · exact ⟨i, i0, i1⟩
    · exact ⟨k, hk, i1⟩
theorem insI_s (h : insI LO HI n k j a b P) (hj : 0 < j ∧ j ≤ k ∧ k < n) (hl : a < LO (j - 1)) : insI (zu LO j (LO (j - 1))) (zu HI j (HI (j - 1))) n k (j - 1) a b P := by
  obtain ⟨h1, h2, h3, h4, h5⟩ := h
  refine ⟨fun i i0 i1 e => ?_, h2, fun i i2 i0 i1 i3 e e2 => ?_, fun i i0 i1 => ?_, fun x => ?_⟩
  · by_cases q : i = j
    · subst q; rw [zu_self, zu_self]; exact h1 (i - 1) (by omega) (by omega) (by omega)
    · rw [zu_ne q, zu_ne q]; exact h1 i i0 i1 q
  · by_cases q : i = j
    · subst q; rw [zu_self, zu_ne (by omega)]; exact h3 (i - 1) i2 (by omega) (by omega) i3 (by omega) (by omega)
    · rw [zu_ne q]
      by_cases q2 : i2 = j
      · subst q2; rw [zu_self]; exact h3 i (i2 - 1) i0 (by omega) (by omega) q (by omega)
      · rw [zu_ne q2]; exact h3 i i2 i0 i1 i3 q q2
  · by_cases q : i = j
    · subst q; rw [zu_self]; exact hl
    · rw [zu_ne q]; exact h4 i (by omega) i1
  · rw [h5 x]
    constructor
    · rintro (⟨i, ⟨i0, e⟩, i1, i2⟩ | i1)
      · by_cases q : i = j - 1
        · subst q
          exact Or.inl ⟨j, ⟨by omega, by omega⟩, by rw [zu_self]; exact i1, by rw [zu_self]; exact i2⟩
        · exact Or.inl ⟨i, ⟨i0, q⟩, by rw [zu_ne e]; exact i1, by rw [zu_ne e]; exact i2⟩
      · exact Or.inr i1
    · rintro (⟨i, ⟨i0, e⟩, i1, i2⟩ | i1)
      · by_cases q : i = j
        · subst q
          rw [zu_self] at i1 i2
          exact Or.inl ⟨i - 1, ⟨by omega, by omega⟩, i1, i2⟩
        · rw [zu_ne q] at i1 i2
          exact Or.inl ⟨i, ⟨i0, q⟩, i1, i2⟩
      · exact Or.inr i1
theorem insI_e (h : insI LO HI n k j a b P) (hj : 0 ≤ j ∧ j ≤ k ∧ k < n) (hl : j = 0 ∨ LO (j - 1) ≤ a) : srtI (zu LO j a) (zu HI j b) n (k + 1) P := by
  obtain ⟨h1, h2, h3, h4, h5⟩ := h
  refine ⟨fun i i0 i1 => ?_, fun i i2 i0 i1 i3 => ?_, fun x => ?_⟩
  · by_cases q : i = j
    · subst q; rw [zu_self, zu_self]; exact h2
    · rw [zu_ne q, zu_ne q]; exact h1 i i0 i1 q
  · by_cases q : i = j
    · subst q; rw [zu_self, zu_ne (by omega)]; have := h4 i2 (by omega) (by omega); omega
    · rw [zu_ne q]
      by_cases q2 : i2 = j
      · subst q2
        rw [zu_self]
        by_cases q3 : i = i2 - 1
        · subst q3; omega
        · have := h3 i (i2 - 1) i0 (by omega) (by omega) q (by omega); omega
      · rw [zu_ne q2]; exact h3 i i2 i0 i1 (by omega) q q2
  · rw [h5 x]
    constructor
    · rintro (⟨i, ⟨i0, e⟩, i1, i2⟩ | i1)
      · exact ⟨i, i0, by rw [zu_ne e]; exact i1, by rw [zu_ne e]; exact i2⟩
      · exact ⟨j, by omega, by rw [zu_self]; exact i1.1, by rw [zu_self]; exact i1.2⟩
    · rintro ⟨i, i0, i1, i2⟩
      by_cases q : i = j
      · subst q; rw [zu_self] at i1 i2; exact Or.inr ⟨i1, i2⟩
      · rw [zu_ne q] at i1 i2; exact Or.inl ⟨i, ⟨i0, q⟩, i1, i2⟩
end Sorting
/-- the first m are apart, from k on in order, and all together are P -/
def gcan (LO HI : Int → Int) (m : Int) : Prop := ∀ i : Int, 0 ≤ i → i < m → (0 ≤ LO i ∧ LO i ≤ HI i ∧ HI i ≤ 1114111) ∧ ∀ j : Int, i < j → j < m → HI i + 1 < LO j
def mrgI (LO HI : Int → Int) (n k m : Int) (P : Int → Prop) : Prop := gcan LO HI m ∧ (∀ j : Int, k ≤ j → j < n → 0 ≤ LO j ∧ LO j ≤ HI j ∧ HI j ≤ 1114111) ∧ (∀ i j : Int, k ≤ i → i < j → j < n → LO i ≤ LO j) ∧ (0 < m → ∀ j : Int, k ≤ j → j < n → LO (m - 1) ≤ LO j) ∧ ∀ x : Int, P x ↔ gm LO HI m x ∨ ∃ j : Int, (k ≤ j ∧ j < n) ∧ LO j ≤ x ∧ x ≤ HI j
section Merging
variable {LO HI : Int → Int} {n k m v : Int} {P : Int → Prop}
theorem mrgI_0 (h : srtI LO HI n k P) (hk : n ≤ k) : mrgI LO HI n 0 0 P := by
  obtain ⟨h1, h2, h3⟩ := h
  refine ⟨fun i a c => by omega, fun j a c => h1 j a c, fun i j a c d => h2 i j a c (by omega), fun q => by omega, fun x => ?_⟩
  rw [h3 x]
  exact ⟨fun q => Or.inr q, fun q => q.resolve_left gm_0⟩
theorem mrgI_j (h : mrgI LO HI n k m P) (hm : 0 < m ∧ m ≤ k ∧ k < n) (hl : LO k ≤ HI (m - 1) + 1) (hv : (v = HI k ∧ HI (m - 1) < HI k) ∨ (v = HI (m - 1) ∧ HI k ≤ HI (m - 1))) : mrgI LO (zu HI (m - 1) v) n (k + 1) m P := by
  obtain ⟨h1, h2, h3, h4, h5⟩ := h
  have c1 := (h1 (m - 1) (by omega) (by omega)).1
  have c2 := h2 k (by omega) (by omega)
  have c3 := h4 hm.1 k (by omega) (by omega)
  refine ⟨fun i i0 i1 => ⟨?_, fun j j0 j1 => ?_⟩, fun j j0 j1 => ?_, fun i j i0 i1 i2 => h3 i j (by omega) i1 i2, fun q j j0 j1 => h4 q j (by omega) j1, fun x => ?_⟩
  · by_cases q : i = m - 1
    · subst q; rw [zu_self]; omega
    · rw [zu_ne q]; exact (h1 i i0 i1).1
  · rw [zu_ne (by omega)]; exact (h1 i i0 i1).2 j j0 j1
  · rw [zu_ne (by omega)]; exact h2 j (by omega) j1
  · rw [h5 x]
    constructor
    · rintro (⟨i, i0, i1, i2⟩ | ⟨j, j0, j1, j2⟩)
      · refine Or.inl ⟨i, i0, i1, ?_⟩
        by_cases q : i = m - 1
        · subst q; rw [zu_self]; omega
        · rw [zu_ne q]; exact i2
      · by_cases q : j = k
        · subst q
          refine Or.inl ⟨m - 1, by omega, by omega, ?_⟩
          rw [zu_self]; omega
        · exact Or.inr ⟨j, by omega, j1, by rw [zu_ne (by omega)]; exact j2⟩
    · rintro (⟨i, i0, i1, i2⟩ | ⟨j, j0, j1, j2⟩)
      · by_cases q : i = m - 1
        · subst q
          rw [zu_self] at i2
          rcases Int.lt_or_le (HI (m - 1)) x with t | t
          · exact Or.inr ⟨k, by omega, by omega, by omega⟩
          · exact Or.inl ⟨m - 1, i0, i1, t⟩
        · rw [zu_ne q] at i2; exact Or.inl ⟨i, i0, i1, i2⟩
      · rw [zu_ne (by omega)] at j2; exact Or.inr ⟨j, by omega, j1, j2⟩
theorem mrgI_n (h : mrgI LO HI n k m P) (hm : 0 ≤ m ∧ m ≤ k ∧ k < n) (hl : m = 0 ∨ HI (m - 1) + 1 < LO k) : mrgI (zu LO m (LO k)) (zu HI m (HI k)) n (k + 1) (m + 1) P := by
  obtain ⟨h1, h2, h3, h4, h5⟩ := h
  have c2 := h2 k (by omega) (by omega)
  refine ⟨fun i i0 i1 => ⟨?_, fun j j0 j1 => ?_⟩, fun j j0 j1 => ?_, fun i j i0 i1 i2 => ?_, fun q j j0 j1 => ?_, fun x => ?_⟩
  · by_cases q : i = m
    · subst q; rw [zu_self, zu_self]; exact c2
    · rw [zu_ne q, zu_ne q]; exact (h1 i i0 (by omega)).1
  · rw [zu_ne (show i ≠ m by omega)]
    by_cases q : j = m
    · subst q
      rw [zu_self]
      by_cases r : i = j - 1
      · subst r; omega
      · have := (h1 i i0 (by omega)).2 (j - 1) (by omega) (by omega)
        have := (h1 (j - 1) (by omega) (by omega)).1
        omega
    · rw [zu_ne q]; exact (h1 i i0 (by omega)).2 j j0 (by omega)
  · rw [zu_ne (by omega), zu_ne (by omega)]; exact h2 j (by omega) j1
  · rw [zu_ne (by omega), zu_ne (by omega)]; exact h3 i j (by omega) i1 i2
  · rw [show m + 1 - 1 = m by omega, zu_self, zu_ne (by omega)]; exact h3 k j (by omega) (by omega) j1
  · rw [h5 x]
    constructor
    · rintro (⟨i, i0, i1, i2⟩ | ⟨j, j0, j1, j2⟩)
      · exact Or.inl ⟨i, by omega, by rw [zu_ne (by omega)]; exact i1, by rw [zu_ne (by omega)]; exact i2⟩
      · by_cases q : j = k
        · subst q; exact Or.inl ⟨m, by omega, by rw [zu_self]; exact j1, by rw [zu_self]; exact j2⟩
        · exact Or.inr ⟨j, by omega, by rw [zu_ne (by omega)]; exact j1, by rw [zu_ne (by omega)]; exact j2⟩
    · rintro (⟨i, i0, i1, i2⟩ | ⟨j, j0, j1, j2⟩)
      · by_cases q : i = m
        · subst q; rw [zu_self] at i1 i2; exact Or.inr ⟨k, by omega, i1, i2⟩
        · rw [zu_ne q] at i1 i2; exact Or.inl ⟨i, by omega, i1, i2⟩
      · rw [zu_ne (by omega)] at j1 j2; exact Or.inr ⟨j, by omega, j1, j2⟩
/-- what is left: apart, and no more than there are beginnings -/
theorem mrgI_e (h : mrgI LO HI n k m P) (hk : n ≤ k) (hm : 0 ≤ m) {r : Int} (hl : lfc P r) : gcan LO HI m ∧ (∀ x : Int, P x ↔ gm LO HI m x) ∧ m ≤ r := by
  obtain ⟨h1, h2, h3, h4, h5⟩ := h
  have e : ∀ x : Int, P x ↔ gm LO HI m x := fun x => by
    rw [h5 x]
    exact ⟨fun q => q.resolve_right (fun ⟨j, j0, _⟩ => by omega), Or.inl⟩
  refine ⟨h1, e, ?_⟩
  obtain ⟨l, l1, l2⟩ := hl
  have q := sq_le (b := fun _ => 0) (n := 0) (fun i j a c => by omega) l m.toNat (fun i => LO (i : Int)) (fun i j hij hj => by
    have := (h1 (i : Int) (by omega) (by omega)).2 (j : Int) (by omega) (by omega)
    have := (h1 (i : Int) (by omega) (by omega)).1
    show LO (i : Int) < LO (j : Int)
    omega) (fun i hi => by
    right
    have c := h1 (i : Int) (by omega) (by omega)
    refine l2 _ ((e _).mpr ⟨i, by omega, by omega, c.1.2.1⟩) (fun z => ?_)
    obtain ⟨j, j0, j1, j2⟩ := (e _).mp z
    rcases (show j < (i : Int) ∨ j = (i : Int) ∨ (i : Int) < j by omega) with t | t | t
    · have := (h1 j (by omega) (by omega)).2 (i : Int) t (by omega); omega
    · subst t; omega
    · have := c.2 j t (by omega); omega)
  omega
end Merging
/-! a class that is being gathered: what it has, and what was marked -/
def clsI (LO HI : Int → Int) (g : Int) (MK : Int → Int) (P : Int → Prop) : Prop := gbd LO HI g ∧ ∀ x : Int, P x ↔ gm LO HI g x ∨ (inD x ∧ MK (img x) = 1)
def mk0 (MK : Int → Int) (i : Int) : Prop := ∀ j : Int, 0 ≤ j → j < i → MK j = 0
theorem mk0_0 {MK : Int → Int} : mk0 MK 0 := fun j a c => by omega
theorem mk0_s {MK : Int → Int} {i : Int} (h : mk0 MK i) : mk0 (zu MK i 0) (i + 1) := fun j a c => by
  by_cases e : j = i
  · rw [e, zu_self]
  · rw [zu_ne e]; exact h j a (by omega)
theorem clsI_0 {LO HI MK : Int → Int} (h : mk0 MK 1200) : clsI LO HI 0 MK (fun _ => False) := ⟨gbd_0, fun x => ⟨fun q => q.elim, fun q => by
  rcases q with q | ⟨d, q⟩
  · exact gm_0 q
  · have b := img_in d
    have := h (img x) b.1 (by omega)
    omega⟩⟩
theorem clsI_g {LO HI MK : Int → Int} {g a b : Int} {P : Int → Prop} (h : clsI LO HI g MK P) (hg : 0 ≤ g) (hab : 0 ≤ a ∧ a ≤ b ∧ b ≤ 1114111) : clsI (zu LO g a) (zu HI g b) (g + 1) MK (fun x => P x ∨ (a ≤ x ∧ x ≤ b)) := ⟨gbd_s h.1 hab, fun x => by
  show P x ∨ (a ≤ x ∧ x ≤ b) ↔ _
  rw [h.2 x, gm_s hg]
  constructor
  · rintro ((q | q) | q)
    · exact Or.inl (Or.inl q)
    · exact Or.inr q
    · exact Or.inl (Or.inr q)
  · rintro ((q | q) | q)
    · exact Or.inl (Or.inl q)
    · exact Or.inr q
    · exact Or.inl (Or.inr q)⟩
/-- marked since: R -/
def mkd (MK0 MK : Int → Int) (R : Int → Prop) : Prop := ∀ v : Int, 0 ≤ v → v < 1200 → (MK v = 1 ↔ MK0 v = 1 ∨ R v)
def mkR (a i v : Int) : Prop := ∃ y : Int, (a ≤ y ∧ y < i) ∧ img y = v
theorem mkd_0 {MK : Int → Int} {a : Int} : mkd MK MK (mkR a a) := fun v _ _ => ⟨Or.inl, fun q => q.elim id (fun ⟨y, z, _⟩ => by omega)⟩
theorem mkd_s {MK0 MK : Int → Int} {a i : Int} (h : mkd MK0 MK (mkR a i)) (hi : a ≤ i) : mkd MK0 (zu MK (img i) 1) (mkR a (i + 1)) := fun v v0 v1 => by
  by_cases e : v = img i
  · rw [e, zu_self]
    exact ⟨fun _ => Or.inr ⟨i, by omega, rfl⟩, fun _ => rfl⟩
  · rw [zu_ne e, h v v0 v1]
    constructor
    · rintro (q | ⟨y, z, w⟩)
      · exact Or.inl q
      · exact Or.inr ⟨y, by omega, w⟩
    · rintro (q | ⟨y, z, w⟩)
      · exact Or.inl q
      · by_cases t : y = i
        · subst t; exact absurd w.symm e
        · exact Or.inr ⟨y, by omega, w⟩
theorem mkd_y {MK0 MK : Int → Int} {R : Int → Prop} {k : Int} {C : Prop} (h : mkd MK0 MK R) (hc : C) : mkd MK0 (zu MK k 1) (fun v => R v ∨ (C ∧ v = k)) := fun v v0 v1 => by
  by_cases e : v = k
  · rw [e, zu_self]; exact ⟨fun _ => Or.inr (Or.inr ⟨hc, rfl⟩), fun _ => rfl⟩
  · rw [zu_ne e, h v v0 v1]
    exact ⟨fun q => q.imp id Or.inl, fun q => q.imp id (fun t => t.resolve_right (fun z => e z.2))⟩
theorem mkd_n {MK0 MK : Int → Int} {R : Int → Prop} {k : Int} {C : Prop} (h : mkd MK0 MK R) (hc : ¬ C) : mkd MK0 MK (fun v => R v ∨ (C ∧ v = k)) := fun v v0 v1 => by
  rw [h v v0 v1]
  exact ⟨fun q => q.imp id Or.inl, fun q => q.imp id (fun t => t.resolve_right (fun z => hc z.1))⟩
def mkF (a b i : Int) (v : Int) : Prop := (mkR a i v ∨ ((a ≤ 8490 ∧ 8490 ≤ b) ∧ v = 107)) ∨ ((a ≤ 8491 ∧ 8491 ≤ b) ∧ v = 229)
theorem img_8490 : img 8490 = 107 := by decide
theorem img_8491 : img 8491 = 229 := by decide
theorem mkF_e {a b i v : Int} (ha : 0 ≤ a) (hi : i ≤ b + 1) (hj : i = b + 1 ∨ 1120 ≤ i) (hk : i = a ∨ i ≤ 1120) : mkF a b i v ↔ ∃ y : Int, inD y ∧ (a ≤ y ∧ y ≤ b) ∧ img y = v := by
  constructor
  · rintro ((⟨y, z, w⟩ | ⟨z, w⟩) | ⟨z, w⟩)
    · exact ⟨y, Or.inl (by omega), by omega, w⟩
    · exact ⟨8490, Or.inr (Or.inl rfl), z, by rw [w]; exact img_8490⟩
    · exact ⟨8491, Or.inr (Or.inr rfl), z, by rw [w]; exact img_8491⟩
  · rintro ⟨y, d, z, w⟩
    rcases d with d | d | d
    · exact Or.inl (Or.inl ⟨y, by omega, w⟩)
    · subst d; exact Or.inl (Or.inr ⟨z, by rw [← w]; exact img_8490⟩)
    · subst d; exact Or.inr ⟨z, by rw [← w]; exact img_8491⟩
/-- the set that a character or a range adds -/
def lkS (lk a b x : Int) : Prop := (lk = 0 ∧ a ≤ x ∧ x ≤ b) ∨ (lk = 1 ∧ alike a b x)
theorem lfc_lk {lk a b : Int} (h : lk = 0 ∨ lk = 1) : lfc (lkS lk a b) 33 := by
  rcases h with h | h
  · exact lfc_w (lfc_iff (lfc_iv a b) (fun x => ⟨fun q => by rcases q with q | q; (exact q.2); (omega), fun q => Or.inl ⟨h, q⟩⟩)) (by decide)
  · exact lfc_iff (lfc_al a b) (fun x => ⟨fun q => by rcases q with q | q; (omega); (exact q.2), fun q => Or.inr ⟨h, q⟩⟩)
theorem lfc_lk1 {lk c : Int} (h : lk = 0 ∨ lk = 1) (hc : 0 ≤ c) : lfc (lkS lk c c) 11 := by
  rcases h with h | h
  · exact lfc_w (lfc_iff (lfc_iv c c) (fun x => ⟨fun q => by rcases q with q | q; (exact q.2); (omega), fun q => Or.inl ⟨h, q⟩⟩)) (by decide)
  · exact lfc_iff (lfc_al1 hc) (fun x => ⟨fun q => by rcases q with q | q; (omega); (exact q.2), fun q => Or.inr ⟨h, q⟩⟩)
theorem clsI_l0 {LO HI MK : Int → Int} {g a b : Int} {P : Int → Prop} (h : clsI LO HI g MK P) (hg : 0 ≤ g) (hab : 0 ≤ a ∧ a ≤ b ∧ b ≤ 1114111) : clsI (zu LO g a) (zu HI g b) (g + 1) MK (fun x => P x ∨ lkS 0 a b x) := ⟨(clsI_g h hg hab).1, fun x => by
  rw [← (clsI_g h hg hab).2 x]
  exact or_congr Iff.rfl ⟨fun q => by rcases q with q | q; (exact q.2); (omega), fun q => Or.inl ⟨rfl, q⟩⟩⟩
theorem clsI_l1 {LO HI MK MK2 : Int → Int} {g a b i : Int} {P : Int → Prop} (h : clsI LO HI g MK P) (hg : 0 ≤ g) (hab : 0 ≤ a ∧ a ≤ b ∧ b ≤ 1114111) (hm : mkd MK MK2 (mkF a b i)) (hi : i ≤ b + 1) (hj : i = b + 1 ∨ 1120 ≤ i) (hk : i = a ∨ i ≤ 1120) : clsI (zu LO g a) (zu HI g b) (g + 1) MK2 (fun x => P x ∨ lkS 1 a b x) := ⟨gbd_s h.1 hab, fun x => by
  show P x ∨ lkS 1 a b x ↔ _
  rw [h.2 x, gm_s hg]
  have e : lkS 1 a b x ↔ (a ≤ x ∧ x ≤ b) ∨ (inD x ∧ ∃ y : Int, inD y ∧ (a ≤ y ∧ y ≤ b) ∧ img y = img x) := by
    constructor
    · rintro (q | q)
      · omega
      · exact alike_img q.2
    · rintro (q | ⟨d, y, dy, hy, e⟩)
      · exact Or.inr ⟨rfl, Or.inl q⟩
      · exact Or.inr ⟨rfl, img_alike d dy e.symm hy⟩
  rw [e]
  constructor
  · rintro ((q | ⟨d, q⟩) | q | ⟨d, q⟩)
    · exact Or.inl (Or.inl q)
    · have b := img_in d; exact Or.inr ⟨d, (hm _ b.1 (by omega)).mpr (Or.inl q)⟩
    · exact Or.inl (Or.inr q)
    · have b := img_in d; exact Or.inr ⟨d, (hm _ b.1 (by omega)).mpr (Or.inr ((mkF_e hab.1 hi hj hk).mpr q))⟩
  · rintro ((q | q) | ⟨d, q⟩)
    · exact Or.inl (Or.inl q)
    · exact Or.inr (Or.inl q)
    · have b := img_in d
      rcases (hm _ b.1 (by omega)).mp q with t | t
      · exact Or.inl (Or.inr ⟨d, t⟩)
      · exact Or.inr (Or.inr ⟨d, (mkF_e hab.1 hi hj hk).mp t⟩)⟩
/-- the marked characters below i were gathered, too -/
def gmk (LO0 HI0 LO HI MK : Int → Int) (g0 g i : Int) : Prop := gbd LO HI g ∧ ∀ x : Int, gm LO HI g x ↔ gm LO0 HI0 g0 x ∨ ((0 ≤ x ∧ x < i) ∧ MK (img x) = 1)
theorem gmk_0 {LO HI MK : Int → Int} {g : Int} (h : gbd LO HI g) : gmk LO HI LO HI MK g g 0 := ⟨h, fun x => ⟨Or.inl, fun q => q.elim id (fun z => by omega)⟩⟩
theorem gmk_n {LO0 HI0 LO HI MK : Int → Int} {g0 g i : Int} (h : gmk LO0 HI0 LO HI MK g0 g i) (hm : ¬ MK (img i) = 1) : gmk LO0 HI0 LO HI MK g0 g (i + 1) := ⟨h.1, fun x => by
  rw [h.2 x]
  refine or_congr Iff.rfl ⟨fun q => ⟨by omega, q.2⟩, fun q => ⟨?_, q.2⟩⟩
  by_cases e : x = i
  · subst e; exact absurd q.2 hm
  · omega⟩
theorem gmk_y {LO0 HI0 LO HI MK : Int → Int} {g0 g i : Int} (h : gmk LO0 HI0 LO HI MK g0 g i) (hg : 0 ≤ g) (hi : 0 ≤ i ∧ i ≤ 1120) (hm : MK (img i) = 1) : gmk LO0 HI0 (zu LO g i) (zu HI g i) MK g0 (g + 1) (i + 1) := ⟨gbd_s h.1 (by omega), fun x => by
  rw [gm_s hg, h.2 x]
  constructor
  · rintro ((q | q) | q)
    · exact Or.inl q
    · exact Or.inr ⟨by omega, q.2⟩
    · exact Or.inr ⟨by omega, by rw [show x = i by omega]; exact hm⟩
  · rintro (q | ⟨q, t⟩)
    · exact Or.inl (Or.inl q)
    · by_cases e : x = i
      · exact Or.inr (by omega)
      · exact Or.inl (Or.inr ⟨by omega, t⟩)⟩
/-- all of P is gathered -/
def gall (LO HI : Int → Int) (g : Int) (P : Int → Prop) : Prop := gbd LO HI g ∧ ∀ x : Int, P x ↔ gm LO HI g x
theorem gm_add {LO HI : Int → Int} {g c x : Int} (hg : 0 ≤ g) : gm (zu LO g c) (zu HI g c) (g + 1) x ↔ gm LO HI g x ∨ x = c := by
  rw [gm_s hg]
  exact or_congr Iff.rfl ⟨fun q => by omega, fun q => by omega⟩
/-- the two beyond -/
def gbe (LO HI MK LO2 HI2 : Int → Int) (g g2 : Int) : Prop := gbd LO2 HI2 g2 ∧ ∀ x : Int, gm LO2 HI2 g2 x ↔ (gm LO HI g x ∨ (x = 8490 ∧ MK 107 = 1)) ∨ (x = 8491 ∧ MK 229 = 1)
theorem gall_e {LO0 HI0 LO HI MK LO2 HI2 : Int → Int} {g0 g g2 : Int} {P : Int → Prop} (h : clsI LO0 HI0 g0 MK P) (h1 : gmk LO0 HI0 LO HI MK g0 g 1120) (h2 : gbe LO HI MK LO2 HI2 g g2) : gall LO2 HI2 g2 P := ⟨h2.1, fun x => by
  rw [h2.2 x, h1.2 x, h.2 x]
  constructor
  · rintro (q | ⟨d, q⟩)
    · exact Or.inl (Or.inl (Or.inl q))
    · rcases d with d | d | d
      · exact Or.inl (Or.inl (Or.inr ⟨d, q⟩))
      · subst d; rw [img_8490] at q; exact Or.inl (Or.inr ⟨rfl, q⟩)
      · subst d; rw [img_8491] at q; exact Or.inr ⟨rfl, q⟩
  · rintro (((q | ⟨d, q⟩) | ⟨d, q⟩) | ⟨d, q⟩)
    · exact Or.inl q
    · exact Or.inr ⟨Or.inl d, q⟩
    · subst d; exact Or.inr ⟨Or.inr (Or.inl rfl), by rw [img_8490]; exact q⟩
    · subst d; exact Or.inr ⟨Or.inr (Or.inr rfl), by rw [img_8491]; exact q⟩⟩
section Beyond
variable {LO HI MK : Int → Int} {g : Int}
theorem gbe_nn (h : gbd LO HI g) (a : ¬ MK 107 = 1) (b : ¬ MK 229 = 1) : gbe LO HI MK LO HI g g := ⟨h, fun x => ⟨fun q => Or.inl (Or.inl q), fun q => by rcases q with (q | q) | q; (exact q); (exact absurd q.2 a); (exact absurd q.2 b)⟩⟩
theorem gbe_yn (h : gbd LO HI g) (hg : 0 ≤ g) (a : MK 107 = 1) (b : ¬ MK 229 = 1) : gbe LO HI MK (zu LO g 8490) (zu HI g 8490) g (g + 1) := ⟨gbd_s h (by omega), fun x => by
  rw [gm_add hg]
  exact ⟨fun q => Or.inl (q.imp id (fun z => ⟨z, a⟩)), fun q => by rcases q with (q | q) | q; (exact Or.inl q); (exact Or.inr q.1); (exact absurd q.2 b)⟩⟩
theorem gbe_ny (h : gbd LO HI g) (hg : 0 ≤ g) (a : ¬ MK 107 = 1) (b : MK 229 = 1) : gbe LO HI MK (zu LO g 8491) (zu HI g 8491) g (g + 1) := ⟨gbd_s h (by omega), fun x => by
  rw [gm_add hg]
  exact ⟨fun q => q.elim (fun z => Or.inl (Or.inl z)) (fun z => Or.inr ⟨z, b⟩), fun q => by rcases q with (q | q) | q; (exact Or.inl q); (exact absurd q.2 a); (exact Or.inr q.1)⟩⟩
theorem gbe_yy (h : gbd LO HI g) (hg : 0 ≤ g) (a : MK 107 = 1) (b : MK 229 = 1) : gbe LO HI MK (zu (zu LO g 8490) (g + 1) 8491) (zu (zu HI g 8490) (g + 1) 8491) g (g + 1 + 1) := ⟨gbd_s (gbd_s h (by omega)) (by omega), fun x => by
  rw [gm_add (by omega), gm_add hg]
  exact ⟨fun q => by rcases q with (q | q) | q; (exact Or.inl (Or.inl q)); (exact Or.inl (Or.inr ⟨q, a⟩)); (exact Or.inr ⟨q, b⟩), fun q => by rcases q with (q | q) | q; (exact Or.inl (Or.inl q)); (exact Or.inl (Or.inr q.1)); (exact Or.inr q.1)⟩⟩
end Beyond
theorem gcan_nx {LO HI : Int → Int} {m i nx : Int} (h : gcan LO HI m) (hi : 0 ≤ i ∧ i < m) (hn : (i = 0 ∧ nx = 0) ∨ (0 < i ∧ nx = HI (i - 1) + 1)) : nx ≤ LO i ∧ (0 ≤ LO i ∧ LO i ≤ HI i ∧ HI i ≤ 1114111) := by
  have c := (h i hi.1 hi.2).1
  rcases hn with q | q
  · omega
  · have := (h (i - 1) (by omega) (by omega)).2 i (by omega) hi.2
    omega
/-- the named sets -/
def tbA : Int → Int := fun i => ([0, 2, 8, 16, 34, 42, 44, 46, 50, 52, 54, 62, 66] : List Int).getD i.toNat 0
def tbT : Int → Int := fun i => ([48, 57, 9, 10, 12, 13, 32, 32, 48, 57, 65, 90, 95, 95, 97, 122, 65, 90, 97, 122, 170, 170, 181, 181, 186, 186, 192, 214, 216, 246, 248, 687, 880, 1279, 48, 57, 178, 179, 185, 185, 188, 190, 880, 1023, 1024, 1279, 65, 90, 97, 122, 65, 90, 97, 122, 33, 47, 58, 64, 91, 96, 123, 126, 9, 13, 32, 32] : List Int).getD i.toNat 0
theorem tbA_in : ∀ k : Int, 0 ≤ k → k < 13 → 0 ≤ tbA k ∧ tbA k ≤ 66 := z_all 13 (by decide)
theorem tbT_in : ∀ k : Int, 0 ≤ k → k < 66 → 0 ≤ tbT k ∧ tbT k ≤ 1279 := z_all 66 (by decide)
theorem tbT_le : ∀ k : Int, 0 ≤ k → k < 33 → tbT (2 * k) ≤ tbT (2 * k + 1) := z_all (Q := fun k => tbT (2 * k) ≤ tbT (2 * k + 1)) 33 (by decide)
/-- half the places, and how many -/
def tbH (w : Int) : Int := tbA w / 2
theorem tbH_v : ∀ w : Int, 0 ≤ w → w < 12 → tbA w = 2 * tbH w ∧ tbA (w + 1) = 2 * tbH (w + 1) ∧ 0 ≤ tbH w ∧ tbH w ≤ tbH (w + 1) ∧ tbH (w + 1) ≤ tbH w + 9 ∧ tbH (w + 1) ≤ 33 ∧ (w ≤ 2 → tbH (w + 1) ≤ tbH w + 4) := z_all (Q := fun w => tbA w = 2 * tbH w ∧ tbA (w + 1) = 2 * tbH (w + 1) ∧ 0 ≤ tbH w ∧ tbH w ≤ tbH (w + 1) ∧ tbH (w + 1) ≤ tbH w + 9 ∧ tbH (w + 1) ≤ 33 ∧ (w ≤ 2 → tbH (w + 1) ≤ tbH w + 4)) 12 (by decide)
/-! what is stored of a set, exactly -/
def sto (RL RH : Int → Int) (r0 r : Int) (Q : Int → Prop) : Prop := r0 ≤ r ∧ (∀ i : Int, r0 ≤ i → i < r → (0 ≤ RL i ∧ RL i ≤ RH i ∧ RH i ≤ 1114111) ∧ ∀ j : Int, i < j → j < r → RH i + 1 < RL j) ∧ ∀ x : Int, Q x ↔ ∃ j : Int, (r0 ≤ j ∧ j < r) ∧ RL j ≤ x ∧ x ≤ RH j
theorem sto_0 {RL RH : Int → Int} {r0 : Int} : sto RL RH r0 r0 (fun _ => False) := ⟨Int.le_refl _, fun i a b => by omega, fun x => ⟨fun z => z.elim, fun ⟨j, a, _⟩ => by omega⟩⟩
theorem sto_iff {RL RH : Int → Int} {r0 r : Int} {Q Q2 : Int → Prop} (h : sto RL RH r0 r Q) (e : ∀ x, Q2 x ↔ Q x) : sto RL RH r0 r Q2 := ⟨h.1, h.2.1, fun x => (e x).trans (h.2.2 x)⟩
theorem sto_s {RL RH : Int → Int} {r0 r a b : Int} {Q : Int → Prop} (h : sto RL RH r0 r Q) (hab : 0 ≤ a ∧ a ≤ b ∧ b ≤ 1114111) (hq : ∀ x, Q x → x + 1 < a) : sto (zu RL r a) (zu RH r b) r0 (r + 1) (fun x => Q x ∨ (a ≤ x ∧ x ≤ b)) := by
  obtain ⟨h0, h1, h2⟩ := h
  refine ⟨by omega, fun i i0 i1 => ?_, fun x => ?_⟩
  · by_cases c : i = r
    · rw [c, zu_self, zu_self]
      exact ⟨hab, fun j j0 j1 => by omega⟩
    · rw [zu_ne c, zu_ne c]
      obtain ⟨p, q⟩ := h1 i i0 (by omega)
      refine ⟨p, fun j j0 j1 => ?_⟩
      by_cases d : j = r
      · rw [d, zu_self]
        exact hq (RH i) ((h2 _).mpr ⟨i, ⟨i0, by omega⟩, by omega, by omega⟩)
      · rw [zu_ne d]
        exact q j j0 (by omega)
  · constructor
    · rintro (z | z)
      · obtain ⟨j, j0, j1⟩ := (h2 x).mp z
        have d : j ≠ r := by omega
        exact ⟨j, ⟨j0.1, by omega⟩, by rw [zu_ne d, zu_ne d]; exact j1⟩
      · exact ⟨r, ⟨h0, by omega⟩, by rw [zu_self, zu_self]; exact z⟩
    · rintro ⟨j, j0, j1⟩
      by_cases d : j = r
      · rw [d, zu_self, zu_self] at j1
        exact Or.inr j1
      · rw [zu_ne d, zu_ne d] at j1
        exact Or.inl ((h2 x).mpr ⟨j, ⟨j0.1, by omega⟩, j1⟩)
/-- one range is stored, or none if it is empty -/
def stq (RL RH : Int → Int) (r a b : Int) (RL2 RH2 : Int → Int) (r2 : Int) : Prop := (b < a ∧ RL2 = RL ∧ RH2 = RH ∧ r2 = r) ∨ (a ≤ b ∧ RL2 = zu RL r a ∧ RH2 = zu RH r b ∧ r2 = r + 1)
theorem stq_1 {RL RH RL2 RH2 : Int → Int} {r0 r r2 a b : Int} {Q : Int → Prop} (h : sto RL RH r0 r Q) (hq : ∀ x, Q x → x + 1 < a) (ha : 0 ≤ a) (hb : b ≤ 1114111) (s : stq RL RH r a b RL2 RH2 r2) : sto RL2 RH2 r0 r2 (fun x => Q x ∨ (a ≤ x ∧ x ≤ b)) := by
  rcases s with ⟨s1, s2, s3, s4⟩ | ⟨s1, s2, s3, s4⟩
  · rw [s2, s3, s4]
    exact sto_iff h (fun x => ⟨fun z => z.elim id (fun y => by omega), Or.inl⟩)
  · rw [s2, s3, s4]
    exact sto_s h ⟨ha, s1, hb⟩ hq
theorem stq_cut {RL RH RL1 RH1 RL2 RH2 : Int → Int} {r0 r r1 r2 a b b1 a2 : Int} {Q : Int → Prop} (h : sto RL RH r0 r Q) (hq : ∀ x, Q x → x + 1 < a) (ha : 0 ≤ a) (hb : b ≤ 1114111) (h1 : (b < 55296 ∧ b1 = b) ∨ (55296 ≤ b ∧ b1 = 55295)) (h2 : (57344 < a ∧ a2 = a) ∨ (a ≤ 57344 ∧ a2 = 57344)) (s1 : stq RL RH r a b1 RL1 RH1 r1) (s2 : stq RL1 RH1 r1 a2 b RL2 RH2 r2) : sto RL2 RH2 r0 r2 (fun x => Q x ∨ ((a ≤ x ∧ x ≤ b) ∧ ¬ cs_gap x)) := by
  have t1 := stq_1 h hq ha (by omega) s1
  have t2 := stq_1 t1 (a := a2) (fun x z => by rcases z with z | z; (have := hq x z; omega); (omega)) (by omega) hb s2
  refine sto_iff t2 (fun x => ?_)
  unfold cs_gap
  constructor
  · rintro (z | z)
    · exact Or.inl (Or.inl z)
    · rcases (show x ≤ b1 ∨ a2 ≤ x by omega) with y | y
      · exact Or.inl (Or.inr ⟨z.1.1, y⟩)
      · exact Or.inr ⟨y, z.1.2⟩
  · rintro ((z | z) | z)
    · exact Or.inl z
    · exact Or.inr (by omega)
    · exact Or.inr (by omega)
theorem sto_q {RL RH : Int → Int} {r0 r : Int} {Q : Int → Prop} (h : sto RL RH r0 r Q) : ∃ q : Int → Int, (cs_can q (r - r0) ∧ 0 ≤ r - r0) ∧ (∀ x, cs_mem q (r - r0) x ↔ Q x) ∧ q 0 = RL r0 ∧ q 1 = RH r0 := by
  obtain ⟨h0, h1, h2⟩ := h
  have e0 : ∀ i : Int, (fun i : Int => if i % 2 = 0 then RL (r0 + i / 2) else RH (r0 + i / 2)) (2 * i) = RL (r0 + i) := fun i => by
    show (if (2 * i) % 2 = 0 then RL (r0 + (2 * i) / 2) else RH (r0 + (2 * i) / 2)) = RL (r0 + i)
    rw [if_pos (show 2 * i % 2 = 0 by omega), show 2 * i / 2 = i by omega]
  have e1 : ∀ i : Int, (fun i : Int => if i % 2 = 0 then RL (r0 + i / 2) else RH (r0 + i / 2)) (2 * i + 1) = RH (r0 + i) := fun i => by
    show (if (2 * i + 1) % 2 = 0 then RL (r0 + (2 * i + 1) / 2) else RH (r0 + (2 * i + 1) / 2)) = RH (r0 + i)
    rw [if_neg (show ¬ (2 * i + 1) % 2 = 0 by omega), show (2 * i + 1) / 2 = i by omega]
  refine ⟨fun i : Int => if i % 2 = 0 then RL (r0 + i / 2) else RH (r0 + i / 2), ⟨fun i i0 i1 => ?_, by omega⟩, fun x => ⟨fun ⟨i, i0, i1, i2⟩ => ?_, fun z => ?_⟩, ?_, ?_⟩
  · rw [e0 i, e1 i, e0 (i + 1)]
    obtain ⟨p, q⟩ := h1 (r0 + i) (by omega) (by omega)
    exact ⟨p.1, p.2.1, p.2.2, fun z => q (r0 + (i + 1)) (by omega) (by omega)⟩
  · rw [e0 i, e1 i] at i2
    exact (h2 x).mpr ⟨r0 + i, ⟨by omega, by omega⟩, i2⟩
  · obtain ⟨j, j0, j1⟩ := (h2 x).mp z
    refine ⟨j - r0, by omega, by omega, ?_⟩
    rw [e0 (j - r0), e1 (j - r0), show r0 + (j - r0) = j by omega]
    exact j1
  · have := e0 0
    rw [show (2 : Int) * 0 = 0 by decide, show r0 + 0 = r0 by omega] at this
    exact this
  · have := e1 0
    rw [show (2 : Int) * 0 + 1 = 1 by decide, show r0 + 0 = r0 by omega] at this
    exact this
/-- i ranges are through -/
def clQ (nt : Int) (LO HI : Int → Int) (i nx x : Int) : Prop := ((nt = 0 ∧ gm LO HI i x) ∨ (nt = 1 ∧ 0 ≤ x ∧ x < nx ∧ ¬ gm LO HI i x)) ∧ ¬ cs_gap x
theorem gm_i {LO HI : Int → Int} {i x : Int} (h : 0 ≤ i) : gm LO HI (i + 1) x ↔ gm LO HI i x ∨ (LO i ≤ x ∧ x ≤ HI i) := by
  constructor
  · rintro ⟨j, j0, j1⟩
    by_cases e : j = i
    · rw [e] at j1; exact Or.inr j1
    · exact Or.inl ⟨j, ⟨j0.1, by omega⟩, j1⟩
  · rintro (⟨j, j0, j1⟩ | z)
    · exact ⟨j, ⟨j0.1, by omega⟩, j1⟩
    · exact ⟨i, ⟨h, by omega⟩, z⟩
section ClQ
variable {LO HI : Int → Int} {m i nx nt : Int} {P : Int → Prop}
theorem clQ_0 (hn : nx = 0) (x : Int) : clQ nt LO HI 0 nx x ↔ False := ⟨fun z => by
  rcases z.1 with ⟨_, j, j0, _⟩ | y
  · omega
  · omega, False.elim⟩
theorem gm_nx (h : gcan LO HI m) (hi : 0 ≤ i ∧ i ≤ m) (hn : (i = 0 ∧ nx = 0) ∨ (0 < i ∧ nx = HI (i - 1) + 1)) {x : Int} (hx : gm LO HI i x) : x < nx := by
  obtain ⟨j, j0, j1⟩ := hx
  rcases hn with hn | hn
  · omega
  · by_cases e : j = i - 1
    · rw [e] at j1; omega
    · have a := (h j j0.1 (by omega)).2 (i - 1) (by omega) (by omega)
      have b := (h (i - 1) (by omega) (by omega)).1
      omega
/-- what is there stands before what comes -/
theorem clQ_lo (h : gcan LO HI m) (hi : 0 ≤ i ∧ i < m) (x : Int) (hx : clQ 0 LO HI i nx x) : x + 1 < LO i := by
  rcases hx.1 with ⟨_, j, j0, j1⟩ | y
  · have := (h j j0.1 (by omega)).2 i (by omega) hi.2
    omega
  · omega
theorem clQ_nx (h : gcan LO HI m) (hi : 0 ≤ i ∧ i ≤ m) (hn : (i = 0 ∧ nx = 0) ∨ (0 < i ∧ nx = HI (i - 1) + 1)) (x : Int) (hx : clQ 1 LO HI i nx x) : x + 1 < nx := by
  rcases hx.1 with y | ⟨_, y0, y1, y2⟩
  · omega
  · rcases hn with hn | hn
    · omega
    · have b := (h (i - 1) (by omega) (by omega)).1
      have : ¬ x = HI (i - 1) := fun e => y2 ⟨i - 1, ⟨by omega, by omega⟩, by omega, by omega⟩
      omega
theorem clQ_s0 (hi : 0 ≤ i) {nx2 : Int} (x : Int) : clQ 0 LO HI (i + 1) nx2 x ↔ clQ 0 LO HI i nx x ∨ ((LO i ≤ x ∧ x ≤ HI i) ∧ ¬ cs_gap x) := by
  unfold clQ
  rw [gm_i hi]
  constructor
  · rintro ⟨z | z, g⟩
    · rcases z.2 with y | y
      · exact Or.inl ⟨Or.inl ⟨rfl, y⟩, g⟩
      · exact Or.inr ⟨y, g⟩
    · exact absurd z.1 (by decide)
  · rintro (⟨z | z, g⟩ | z)
    · exact ⟨Or.inl ⟨rfl, Or.inl z.2⟩, g⟩
    · exact absurd z.1 (by decide)
    · exact ⟨Or.inl ⟨rfl, Or.inr z.1⟩, z.2⟩
theorem clQ_s1 (h : gcan LO HI m) (hi : 0 ≤ i ∧ i < m) (hn : (i = 0 ∧ nx = 0) ∨ (0 < i ∧ nx = HI (i - 1) + 1)) (x : Int) : clQ 1 LO HI (i + 1) (HI i + 1) x ↔ clQ 1 LO HI i nx x ∨ ((nx ≤ x ∧ x ≤ LO i - 1) ∧ ¬ cs_gap x) := by
  have a := gcan_nx h hi hn
  have n0 : 0 ≤ nx := by
    rcases hn with hn | hn
    · omega
    · have := (h (i - 1) (by omega) (by omega)).1
      omega
  have t := cs_not (A := False) (M := gm LO HI i x) (nx := nx) (x := LO i) (y := HI i) (c := x) (fun z => gm_nx h ⟨hi.1, by omega⟩ hn z) n0 a.1 a.2.2.1
  unfold clQ
  rw [gm_i hi.1]
  constructor
  · rintro ⟨z | z, g⟩
    · exact absurd z.1 (by decide)
    · rcases t.mpr (Or.inr z.2) with (y | y) | y
      · exact y.elim
      · exact Or.inl ⟨Or.inr ⟨rfl, y⟩, g⟩
      · exact Or.inr ⟨y, g⟩
  · rintro (⟨z | z, g⟩ | z)
    · exact absurd z.1 (by decide)
    · rcases t.mp (Or.inl (Or.inr z.2)) with y | y
      · exact y.elim
      · exact ⟨Or.inr ⟨rfl, y⟩, g⟩
    · rcases t.mp (Or.inr z.1) with y | y
      · exact y.elim
      · exact ⟨Or.inr ⟨rfl, y⟩, z.2⟩
theorem clQ_e0 (hp : ∀ x : Int, P x ↔ gm LO HI m x) (x : Int) : clno 0 P x ↔ clQ 0 LO HI m nx x := by
  unfold clno clQ
  rw [hp x]
  constructor
  · rintro ⟨z | z, g⟩
    · exact ⟨Or.inl z, g⟩
    · exact absurd z.1 (by decide)
  · rintro ⟨z | z, g⟩
    · exact ⟨Or.inl z, g⟩
    · exact absurd z.1 (by decide)
theorem clQ_e1 (h : gcan LO HI m) (hm : 0 ≤ m) (hn : (m = 0 ∧ nx = 0) ∨ (0 < m ∧ nx = HI (m - 1) + 1)) (hx : 0 ≤ nx ∧ nx ≤ 1114112) (hp : ∀ x : Int, P x ↔ gm LO HI m x) (x : Int) : clno 1 P x ↔ clQ 1 LO HI m nx x ∨ ((nx ≤ x ∧ x ≤ 1114111) ∧ ¬ cs_gap x) := by
  unfold clno clQ
  rw [hp x]
  constructor
  · rintro ⟨z | z, g⟩
    · exact absurd z.1 (by decide)
    · rcases (show x < nx ∨ nx ≤ x by omega) with y | y
      · exact Or.inl ⟨Or.inr ⟨rfl, z.2.1, y, z.2.2.2⟩, g⟩
      · exact Or.inr ⟨⟨y, z.2.2.1⟩, g⟩
  · rintro (⟨z | z, g⟩ | z)
    · exact absurd z.1 (by decide)
    · exact ⟨Or.inr ⟨rfl, z.2.1, by omega, z.2.2.2⟩, g⟩
    · exact ⟨Or.inr ⟨rfl, by omega, z.1.2, fun y => by have := gm_nx h ⟨hm, Int.le_refl _⟩ hn y; omega⟩, z.2⟩
end ClQ
/-! kinds by their tables -/
def tmU (w u x : Int) : Prop := ∃ v : Int, (tbH w ≤ v ∧ v < u) ∧ tbT (2 * v) ≤ x ∧ x ≤ tbT (2 * v + 1)
def tmem (w x : Int) : Prop := tmU w (tbH (w + 1)) x
theorem tbT_q : ∀ w : Nat, w < 12 → ∀ i : Nat, i < 9 → ∀ j : Nat, j < i → tbH (w : Int) + (i : Int) < tbH ((w : Int) + 1) → tbT (2 * (tbH (w : Int) + (j : Int)) + 1) < tbT (2 * (tbH (w : Int) + (i : Int))) := by decide +kernel
theorem tbT_lt {w u v : Int} (hw : 0 ≤ w ∧ w < 12) (hv : tbH w ≤ v ∧ v < u) (hu : u < tbH (w + 1)) : tbT (2 * v + 1) < tbT (2 * u) := by
  have b := tbH_v w hw.1 hw.2
  have t := tbT_q w.toNat (by omega) (u - tbH w).toNat (by omega) (v - tbH w).toNat (by omega)
  rw [show ((w.toNat : Nat) : Int) = w by omega, show (((u - tbH w).toNat : Nat) : Int) = u - tbH w by omega, show (((v - tbH w).toNat : Nat) : Int) = v - tbH w by omega, show tbH w + (u - tbH w) = u by omega, show tbH w + (v - tbH w) = v by omega] at t
  exact t hu
theorem tmU_s {w u x : Int} (h : tbH w ≤ u) : tmU w (u + 1) x ↔ tmU w u x ∨ (tbT (2 * u) ≤ x ∧ x ≤ tbT (2 * u + 1)) := by
  constructor
  · rintro ⟨j, j0, j1⟩
    by_cases e : j = u
    · rw [e] at j1; exact Or.inr j1
    · exact Or.inl ⟨j, ⟨j0.1, by omega⟩, j1⟩
  · rintro (⟨j, j0, j1⟩ | z)
    · exact ⟨j, ⟨j0.1, by omega⟩, j1⟩
    · exact ⟨u, ⟨h, by omega⟩, z⟩
def gnQ (w nt u nx x : Int) : Prop := (nt = 0 ∧ tmU w u x) ∨ (nt = 1 ∧ 0 ≤ x ∧ x < nx ∧ ¬ tmU w u x)
def gnI (P P0 : Int → Prop) (w nt u nx : Int) : Prop := (∀ x, P x ↔ P0 x ∨ gnQ w nt u nx x) ∧ (∀ x, tmU w u x → x < nx) ∧ (u < tbH (w + 1) → nx ≤ tbT (2 * u)) ∧ 0 ≤ nx
section GnI
variable {P P0 : Int → Prop} {w nt u nx : Int}
theorem gnI_0 (hw : 0 ≤ w ∧ w < 12) : gnI P P w nt (tbH w) 0 := by
  have n : ∀ x, ¬ tmU w (tbH w) x := fun x ⟨v, v0, _⟩ => by omega
  refine ⟨fun x => ⟨Or.inl, fun z => z.elim id (fun y => ?_)⟩, fun x z => absurd z (n x), fun h => ?_, Int.le_refl _⟩
  · rcases y with y | y
    · exact absurd y.2 (n x)
    · omega
  · have b := tbH_v w hw.1 hw.2
    exact (tbT_in (2 * tbH w) (by omega) (by omega)).1
theorem gnI_m (hw : 0 ≤ w ∧ w < 12) (hu : tbH w ≤ u ∧ u < tbH (w + 1)) (h : gnI P P0 w nt u nx) : (∀ x, tmU w (u + 1) x → x < tbT (2 * u + 1) + 1) ∧ (u + 1 < tbH (w + 1) → tbT (2 * u + 1) + 1 ≤ tbT (2 * (u + 1))) ∧ 0 ≤ tbT (2 * u + 1) + 1 ∧ tbT (2 * u) ≤ tbT (2 * u + 1) := by
  have b := tbH_v w hw.1 hw.2
  have l := tbT_le u (by omega) (by omega)
  have k := tbT_in (2 * u) (by omega) (by omega)
  refine ⟨fun x z => ?_, fun z => ?_, by omega, l⟩
  · rcases (tmU_s hu.1).mp z with y | y
    · have := h.2.1 x y
      have := h.2.2.1 hu.2
      omega
    · omega
  · have := tbT_lt hw (v := u) (u := u + 1) ⟨hu.1, by omega⟩ z
    omega
theorem gnI_a (hw : 0 ≤ w ∧ w < 12) (hu : tbH w ≤ u ∧ u < tbH (w + 1)) (h : gnI P P0 w nt u nx) (h0 : nt = 0) : gnI (fun x => P x ∨ (tbT (2 * u) ≤ x ∧ x ≤ tbT (2 * u + 1))) P0 w nt (u + 1) (tbT (2 * u + 1) + 1) := by
  obtain ⟨m1, m2, m3, _⟩ := gnI_m hw hu h
  refine ⟨fun x => ?_, m1, m2, m3⟩
  show (P x ∨ _) ↔ _
  rw [h.1 x]
  unfold gnQ
  rw [tmU_s hu.1]
  constructor
  · rintro ((z | z | z) | z)
    · exact Or.inl z
    · exact Or.inr (Or.inl ⟨h0, Or.inl z.2⟩)
    · omega
    · exact Or.inr (Or.inl ⟨h0, Or.inr z⟩)
  · rintro (z | z | z)
    · exact Or.inl (Or.inl z)
    · rcases z.2 with y | y
      · exact Or.inl (Or.inr (Or.inl ⟨h0, y⟩))
      · exact Or.inr y
    · omega
theorem gnI_b (hw : 0 ≤ w ∧ w < 12) (hu : tbH w ≤ u ∧ u < tbH (w + 1)) (h : gnI P P0 w nt u nx) (h0 : nt = 1) : gnI (fun x => P x ∨ (nx ≤ x ∧ x ≤ tbT (2 * u) - 1)) P0 w nt (u + 1) (tbT (2 * u + 1) + 1) := by
  obtain ⟨m1, m2, m3, m4⟩ := gnI_m hw hu h
  refine ⟨fun x => ?_, m1, m2, m3⟩
  show (P x ∨ _) ↔ _
  rw [h.1 x]
  have t := cs_not (A := P0 x) (M := tmU w u x) (nx := nx) (x := tbT (2 * u)) (y := tbT (2 * u + 1)) (c := x) (h.2.1 x) h.2.2.2 (h.2.2.1 hu.2) m4
  unfold gnQ
  rw [tmU_s hu.1]
  constructor
  · rintro ((z | z | z) | z)
    · exact Or.inl z
    · omega
    · rcases t.mp (Or.inl (Or.inr z.2)) with y | y
      · exact Or.inl y
      · exact Or.inr (Or.inr ⟨h0, y⟩)
    · rcases t.mp (Or.inr z) with y | y
      · exact Or.inl y
      · exact Or.inr (Or.inr ⟨h0, y⟩)
  · rintro (z | z | z)
    · exact Or.inl (Or.inl z)
    · omega
    · rcases t.mpr (Or.inr z.2) with (y | y) | y
      · exact Or.inl (Or.inl y)
      · exact Or.inl (Or.inr (Or.inr ⟨h0, y⟩))
      · exact Or.inr y
theorem gnI_c (hw : 0 ≤ w ∧ w < 12) (hu : tbH w ≤ u ∧ u < tbH (w + 1)) (h : gnI P P0 w nt u nx) (h0 : nt = 1) (hx : tbT (2 * u) ≤ nx) : gnI P P0 w nt (u + 1) (tbT (2 * u + 1) + 1) := by
  have t := gnI_b hw hu h h0
  exact ⟨fun x => ⟨fun z => (t.1 x).mp (Or.inl z), fun z => ((t.1 x).mpr z).elim id (fun y => by omega)⟩, t.2⟩
/-- all of a kind, or all but it -/
def kmN (w nt x : Int) : Prop := (nt = 0 ∧ tmem w x) ∨ (nt = 1 ∧ 0 ≤ x ∧ x ≤ 1114111 ∧ ¬ tmem w x)
theorem gnI_e0 (h : gnI P P0 w nt u nx) (hu : u = tbH (w + 1)) (h0 : nt = 0) (x : Int) : P x ↔ P0 x ∨ kmN w nt x := by
  rw [h.1 x, hu]
  unfold gnQ kmN tmem
  constructor
  · rintro (z | z | z)
    · exact Or.inl z
    · exact Or.inr (Or.inl z)
    · omega
  · rintro (z | z | z)
    · exact Or.inl z
    · exact Or.inr (Or.inl z)
    · omega
theorem gnI_e1 (h : gnI P P0 w nt u nx) (hu : u = tbH (w + 1)) (h0 : nt = 1) (hn : nx ≤ 1114112) (x : Int) : (P x ∨ (nx ≤ x ∧ x ≤ 1114111)) ↔ P0 x ∨ kmN w nt x := by
  have l := h.2.1 x
  have n0 := h.2.2.2
  rw [h.1 x]
  rw [hu] at l ⊢
  unfold gnQ kmN tmem
  constructor
  · rintro ((z | z | z) | z)
    · exact Or.inl z
    · omega
    · exact Or.inr (Or.inr ⟨h0, z.2.1, by omega, z.2.2.2⟩)
    · exact Or.inr (Or.inr ⟨h0, by omega, z.2, fun y => by have := l y; omega⟩)
  · rintro (z | z | z)
    · exact Or.inl (Or.inl z)
    · omega
    · rcases (show x < nx ∨ nx ≤ x by omega) with y | y
      · exact Or.inl (Or.inr (Or.inr ⟨h0, z.2.1, y, z.2.2.2⟩))
      · exact Or.inr ⟨y, z.2.2.1⟩
end GnI
theorem kT : ∀ w : Nat, w < 12 → (((zTL (w + 1)).length / 2 : Nat) : Int) = tbH ((w : Int) + 1) - tbH (w : Int) ∧ ∀ i : Nat, i < 9 → tbH (w : Int) + (i : Int) < tbH ((w : Int) + 1) → (zTL (w + 1)).getD (2 * i) 0 = tbT (2 * (tbH (w : Int) + (i : Int))) ∧ (zTL (w + 1)).getD (2 * i + 1) 0 = tbT (2 * (tbH (w : Int) + (i : Int)) + 1) := by decide +kernel
theorem kset_t {w : Int} (hw : 0 ≤ w ∧ w < 12) {k : Nat} (hk : (k : Int) = w + 1) (c : Int) : kset k c ↔ tmem w c := by
  obtain ⟨v, hv⟩ : ∃ v : Nat, v = w.toNat := ⟨_, rfl⟩
  have hv2 : ((v : Nat) : Int) = w := by omega
  have hk2 : k = v + 1 := by omega
  subst hk2
  have b := tbH_v w hw.1 hw.2
  obtain ⟨t1, t2⟩ := kT v (by omega)
  rw [hv2] at t1 t2
  unfold kset tmem tmU cs_mem
  rw [t1]
  constructor
  · rintro ⟨i, i0, i1, i2⟩
    have e := t2 i.toNat (by omega) (by omega)
    have i2 : (zTL (v + 1)).getD (2 * i).toNat 0 ≤ c ∧ c ≤ (zTL (v + 1)).getD (2 * i + 1).toNat 0 := i2
    rw [show (2 * i).toNat = 2 * i.toNat by omega, show (2 * i + 1).toNat = 2 * i.toNat + 1 by omega, e.1, e.2, show ((i.toNat : Nat) : Int) = i by omega] at i2
    exact ⟨tbH w + i, ⟨by omega, by omega⟩, i2⟩
  · rintro ⟨u, u0, u1⟩
    have e := t2 (u - tbH w).toNat (by omega) (by omega)
    refine ⟨u - tbH w, by omega, by omega, ?_⟩
    show (zTL (v + 1)).getD (2 * (u - tbH w)).toNat 0 ≤ c ∧ c ≤ (zTL (v + 1)).getD (2 * (u - tbH w) + 1).toNat 0
    rw [show (2 * (u - tbH w)).toNat = 2 * (u - tbH w).toNat by omega, show (2 * (u - tbH w) + 1).toNat = 2 * (u - tbH w).toNat + 1 by omega, e.1, e.2, show (((u - tbH w).toNat : Nat) : Int) = u - tbH w by omega, show tbH w + (u - tbH w) = u by omega]
    exact u1
theorem kmem_t {w : Int} (hw : 0 ≤ w ∧ w < 12) {k : Nat} (hk : (k : Int) = w + 1) (b c : Int) : kmem k b c ↔ kmN w b c := by
  unfold kmem kmN
  rw [kset_t hw hk]
theorem one_lk {al a b x : Int} : one al a b x ↔ lkS al a b x := ⟨fun z => z.elim Or.inr Or.inl, fun z => z.elim Or.inr Or.inl⟩
/-! the reference's sets: which characters each has -/
def kxt (K K2 : Int → Int) (n : Int) : Prop := ∀ i : Int, 0 ≤ i → i < n → K2 i = K i
theorem kxt.rf {K : Int → Int} {n : Int} : kxt K K n := fun _ _ _ => rfl
theorem kxt.tr {K K2 K3 : Int → Int} {n m : Int} (h : kxt K K2 n) (h2 : kxt K2 K3 m) (hn : n ≤ m) : kxt K K3 n := fun i a b => (h2 i a (by omega)).trans (h i a b)
theorem kxt.zu {K : Int → Int} {n a v : Int} (h : n ≤ a) : kxt K (zu K a v) n := fun i _ b => zu_ne (by omega)
def svR (SA SM RL RH : Int → Int) (SV : Int → Int → Prop) (ns rg : Int) : Prop := ∀ s : Int, 0 ≤ s → s < ns → (0 ≤ SA s ∧ 0 ≤ SM s ∧ SA s + SM s ≤ rg) ∧ ∀ x : Int, (∃ j : Int, (SA s ≤ j ∧ j < SA s + SM s) ∧ RL j ≤ x ∧ x ≤ RH j) ↔ SV s x
theorem svR_0 {SA SM RL RH : Int → Int} {SV : Int → Int → Prop} {rg : Int} : svR SA SM RL RH SV 0 rg := fun s a b => by omega
theorem svR_s {SA SM RL RH RL2 RH2 : Int → Int} {SV : Int → Int → Prop} {S : Int → Prop} {ns rg r2 : Int} (h : svR SA SM RL RH SV ns rg) (k1 : kxt RL RL2 rg) (k2 : kxt RH RH2 rg) (hs : sto RL2 RH2 rg r2 S) (h0 : 0 ≤ rg) : svR (zu SA ns rg) (zu SM ns (r2 - rg)) RL2 RH2 (fun s => if s = ns then S else SV s) (ns + 1) r2 := fun s s0 s1 => by
  have hr := hs.1
  by_cases e : s = ns
  · subst e
    rw [zu_self, zu_self]
    refine ⟨by omega, fun x => ?_⟩
    show _ ↔ (if s = s then S else SV s) x
    rw [if_pos rfl, hs.2.2 x, show rg + (r2 - rg) = r2 by omega]
  · rw [zu_ne e, zu_ne e]
    obtain ⟨q1, q2⟩ := h s s0 (by omega)
    refine ⟨by omega, fun x => ?_⟩
    show _ ↔ (if s = ns then S else SV s) x
    rw [if_neg e, ← q2 x]
    constructor
    · intro ⟨j, j0, j1, j2⟩
      rw [k1 j (by omega) (by omega)] at j1
      rw [k2 j (by omega) (by omega)] at j2
      exact ⟨j, j0, j1, j2⟩
    · intro ⟨j, j0, j1, j2⟩
      exact ⟨j, j0, by rw [k1 j (by omega) (by omega)]; exact j1, by rw [k2 j (by omega) (by omega)]; exact j2⟩
def kx2 (A B RL RH : Int → Int) (n : Int) : Prop := kxt A RL n ∧ kxt B RH n
theorem kx2.rf {RL RH : Int → Int} {n : Int} : kx2 RL RH RL RH n := ⟨kxt.rf, kxt.rf⟩
theorem kx2.stq {A B RL RH RL2 RH2 : Int → Int} {n r a b r2 : Int} (h : kx2 A B RL RH n) (s : stq RL RH r a b RL2 RH2 r2) (hn : n ≤ r) : kx2 A B RL2 RH2 n := by
  rcases s with ⟨_, s1, s2, _⟩ | ⟨_, s1, s2, _⟩
  · rw [s1, s2]; exact h
  · rw [s1, s2]
    exact ⟨h.1.tr (kxt.zu (Int.le_refl r)) hn, h.2.tr (kxt.zu (Int.le_refl r)) hn⟩
