/-! names of classes: what isAt finds -/
def sgI (j : Nat) (i : Int) : Int := ((ab_sby.getD j []).getD i.toNat 0).toInt
theorem s_sg {j : Nat} {i : Int} (hi : 0 ≤ i ∧ i < 7) : (ab_sby.getD j []).getD (Int32.ofInt i).toNatClampNeg 0 = Int32.ofInt (sgI j i) := by
  rw [z_tn ⟨hi.1, by omega⟩]
  exact (Int32.ofInt_toInt _).symm
theorem s_sgd : ∀ j, j < 6 → ∀ i, i < 7 → 0 ≤ ((ab_sby.getD j []).getD i 0).toInt ∧ ((ab_sby.getD j []).getD i 0).toInt ≤ 127 := by decide +kernel
theorem s_sgb {j : Nat} {i : Int} (hj : j < 6) (hi : 0 ≤ i ∧ i < 7) : 0 ≤ sgI j i ∧ sgI j i ≤ 127 := s_sgd j hj i.toNat (by omega)
def snm (f : Int → Int) (n b : Int) (j : Nat) : Prop := b + 7 ≤ n ∧ ∀ i : Int, 0 ≤ i → i < 7 → f (b + i) = sgI j i
def snk (f : Int → Int) (n b : Int) (j : Nat) (s i : Int) : Prop := (s = 1 ∧ b + 7 ≤ n ∧ ∀ k : Int, 0 ≤ k → k < i → f (b + k) = sgI j k) ∨ (s = 0 ∧ ¬ snm f n b j)
def snq (f : Int → Int) (n b : Int) (j : Nat) (s : Int) : Prop := (s = 1 ∧ snm f n b j) ∨ (s = 0 ∧ ¬ snm f n b j)
theorem snk_0 {f : Int → Int} {n b : Int} {j : Nat} (h : b + 7 ≤ n) : snk f n b j 1 0 := Or.inl ⟨rfl, h, fun k a c => absurd c (by omega)⟩
theorem snk_z {f : Int → Int} {n b i : Int} {j : Nat} (h : ¬ b + 7 ≤ n) : snk f n b j 0 i := Or.inr ⟨rfl, fun z => h z.1⟩
theorem snk_n {f : Int → Int} {n b s i : Int} {j : Nat} (h : snk f n b j s i) (hs : ¬ s = 0) : b + 7 ≤ n := by
  rcases h with h | h
  · exact h.2.1
  · exact absurd h.1 hs
theorem snk_s {f : Int → Int} {n b s i : Int} {j : Nat} (h : snk f n b j s i) (hs : ¬ s = 0) (he : f (b + i) = sgI j i) : snk f n b j 1 (i + 1) := by
  rcases h with h | h
  · refine Or.inl ⟨rfl, h.2.1, fun k a c => ?_⟩
    by_cases q : k = i
    · rw [q]; exact he
    · exact h.2.2 k a (by omega)
  · exact absurd h.1 hs
theorem snk_f {f : Int → Int} {n b i : Int} {j : Nat} (hi : 0 ≤ i ∧ i < 7) (he : ¬ f (b + i) = sgI j i) : snk f n b j 0 (i + 1) := Or.inr ⟨rfl, fun z => he (z.2 i hi.1 hi.2)⟩
theorem snk_e {f : Int → Int} {n b s i : Int} {j : Nat} (h : snk f n b j s i) (hi : ¬ i < 7 ∨ s = 0) : snq f n b j s := by
  rcases h with h | h
  · rcases hi with q | q
    · exact Or.inl ⟨h.1, h.2.1, fun k a c => h.2.2 k a (by omega)⟩
    · have := h.1; omega
  · exact Or.inr h
theorem snq_1 {f : Int → Int} {n b s : Int} {j : Nat} (h : snq f n b j s) (hs : ¬ s = 0) : snm f n b j := by
  rcases h with h | h
  · exact h.2
  · exact absurd h.1 hs
theorem snq_0 {f : Int → Int} {n b s : Int} {j : Nat} (h : snq f n b j s) (hs : s = 0) : ¬ snm f n b j := by
  rcases h with h | h
  · have := h.1; omega
  · exact h.2
theorem snm_nm {f : Int → Int} {n b c0 c1 c2 c3 c4 : Int} {j : Nat} (hb : 0 ≤ b) (h0 : sgI j 0 = c0) (h1 : sgI j 1 = c1) (h2 : sgI j 2 = c2) (h3 : sgI j 3 = c3) (h4 : sgI j 4 = c4) (h5 : sgI j 5 = 58) (h6 : sgI j 6 = 93) : snm f n b j ↔ nm7 f n b c0 c1 c2 c3 c4 := by
  constructor
  · rintro ⟨a, h⟩
    have z0 := h 0 (by omega) (by omega)
    rw [Int.add_zero] at z0
    exact ⟨hb, a, z0.trans h0, (h 1 (by omega) (by omega)).trans h1, (h 2 (by omega) (by omega)).trans h2, (h 3 (by omega) (by omega)).trans h3, (h 4 (by omega) (by omega)).trans h4, (h 5 (by omega) (by omega)).trans h5, (h 6 (by omega) (by omega)).trans h6⟩
  · rintro ⟨-, a, g0, g1, g2, g3, g4, g5, g6⟩
    refine ⟨a, fun i x y => ?_⟩
    rcases (show i = 0 ∨ i = 1 ∨ i = 2 ∨ i = 3 ∨ i = 4 ∨ i = 5 ∨ i = 6 by omega) with e | e | e | e | e | e | e <;> subst e
    · rw [Int.add_zero, g0, h0]
    · rw [g1, h1]
    · rw [g2, h2]
    · rw [g3, h3]
    · rw [g4, h4]
    · rw [g5, h5]
    · rw [g6, h6]
theorem sn_0 {f : Int → Int} {n b : Int} (hb : 0 ≤ b) : snm f n b 0 ↔ nm7 f n b 100 105 103 105 116 := snm_nm hb (by decide) (by decide) (by decide) (by decide) (by decide) (by decide) (by decide)
theorem sn_1 {f : Int → Int} {n b : Int} (hb : 0 ≤ b) : snm f n b 1 ↔ nm7 f n b 97 108 112 104 97 := snm_nm hb (by decide) (by decide) (by decide) (by decide) (by decide) (by decide) (by decide)
theorem sn_2 {f : Int → Int} {n b : Int} (hb : 0 ≤ b) : snm f n b 2 ↔ nm7 f n b 117 112 112 101 114 := snm_nm hb (by decide) (by decide) (by decide) (by decide) (by decide) (by decide) (by decide)
theorem sn_3 {f : Int → Int} {n b : Int} (hb : 0 ≤ b) : snm f n b 3 ↔ nm7 f n b 108 111 119 101 114 := snm_nm hb (by decide) (by decide) (by decide) (by decide) (by decide) (by decide) (by decide)
theorem sn_4 {f : Int → Int} {n b : Int} (hb : 0 ≤ b) : snm f n b 4 ↔ nm7 f n b 112 117 110 99 116 := snm_nm hb (by decide) (by decide) (by decide) (by decide) (by decide) (by decide) (by decide)
theorem sn_5 {f : Int → Int} {n b : Int} (hb : 0 ≤ b) : snm f n b 5 ↔ nm7 f n b 115 112 97 99 101 := snm_nm hb (by decide) (by decide) (by decide) (by decide) (by decide) (by decide) (by decide)
theorem nmk_0 {f : Int → Int} {n b s : Int} (hb : 0 ≤ b) (h : snq f n b 0 s) (hs : ¬ s = 0) : nmk f n b 1 := Or.inl ⟨rfl, (sn_0 hb).mp (snq_1 h hs)⟩
theorem nmk_1 {f : Int → Int} {n b s : Int} (hb : 0 ≤ b) (h : snq f n b 1 s) (hs : ¬ s = 0) : nmk f n b 8 := Or.inr (Or.inl ⟨rfl, (sn_1 hb).mp (snq_1 h hs)⟩)
theorem nmk_2 {f : Int → Int} {n b s : Int} (hb : 0 ≤ b) (h : snq f n b 2 s) (hs : ¬ s = 0) : nmk f n b 9 := Or.inr (Or.inr (Or.inl ⟨rfl, (sn_2 hb).mp (snq_1 h hs)⟩))
theorem nmk_3 {f : Int → Int} {n b s : Int} (hb : 0 ≤ b) (h : snq f n b 3 s) (hs : ¬ s = 0) : nmk f n b 10 := Or.inr (Or.inr (Or.inr (Or.inl ⟨rfl, (sn_3 hb).mp (snq_1 h hs)⟩)))
theorem nmk_4 {f : Int → Int} {n b s : Int} (hb : 0 ≤ b) (h : snq f n b 4 s) (hs : ¬ s = 0) : nmk f n b 11 := Or.inr (Or.inr (Or.inr (Or.inr (Or.inl ⟨rfl, (sn_4 hb).mp (snq_1 h hs)⟩))))
theorem nmk_5 {f : Int → Int} {n b s : Int} (hb : 0 ≤ b) (h : snq f n b 5 s) (hs : ¬ s = 0) : nmk f n b 12 := Or.inr (Or.inr (Or.inr (Or.inr (Or.inr ⟨rfl, (sn_5 hb).mp (snq_1 h hs)⟩))))
theorem nmk_no {f : Int → Int} {n b s0 s1 s2 s3 s4 s5 : Int} (hb : 0 ≤ b) (h0 : snq f n b 0 s0) (e0 : s0 = 0) (h1 : snq f n b 1 s1) (e1 : s1 = 0) (h2 : snq f n b 2 s2) (e2 : s2 = 0) (h3 : snq f n b 3 s3) (e3 : s3 = 0) (h4 : snq f n b 4 s4) (e4 : s4 = 0) (h5 : snq f n b 5 s5) (e5 : s5 = 0) : ∀ k, ¬ nmk f n b k := by
  intro k h
  rcases h with h | h | h | h | h | h
  · exact snq_0 h0 e0 ((sn_0 hb).mpr h.2)
  · exact snq_0 h1 e1 ((sn_1 hb).mpr h.2)
  · exact snq_0 h2 e2 ((sn_2 hb).mpr h.2)
  · exact snq_0 h3 e3 ((sn_3 hb).mpr h.2)
  · exact snq_0 h4 e4 ((sn_4 hb).mpr h.2)
  · exact snq_0 h5 e5 ((sn_5 hb).mpr h.2)
set_option maxRecDepth 100000 in
set_option maxHeartbeats 4000000 in
theorem y_TX_isAt_22 {X : ab_X} {d : Nat} {Q : Outcome → ab_G → Prop} {o : Nat → Nat} {G0 : ab_G} {x : Nat} {lx : Nat} {se : Nat} {by_ : Nat} {lby : Nat} {m : Nat} {f : Int → Int} {n : Int} {pl : Int} {fa : Int} {fp : Int} {kd : Nat} {kn : Int} {b : Int} {j : Nat} (c0 : 0 ≤ n ∧ n ≤ ↑m ∧ ↑m ≤ (70000 : Int) ∧ 0 ≤ pl ∧ pl ≤ 70000) (hb : bytes f n) (cb : 0 ≤ b ∧ b ≤ 70010) (cj : j < 6) (hd : 4 ≤ d) : ∀ (mz : Nat) {G : ab_G} {sm : Int} {i_ : Int}, (cc o G x lx (ab_ob 10 [vR se, vR by_, vz n, vz pl, vz fa, vz fp, vR kd, vz kn])) → (cc o G by_ lby (za m f)) → (0 ≤ i_ ∧ i_ ≤ 7 ∧ 0 ≤ sm ∧ sm ≤ 1) → (snk f n b j sm i_) → (fx o o [] G0 G) → (G.length = G0.length) → (ab_slots G = ab_slots G0) → (Int.toNat (7 - i_) < mz) → (∀ (G2 : ab_G) (s2 : Int), (snq f n b j s2) → (0 ≤ s2 ∧ s2 ≤ 1) → (fx o o [] G0 G2) → (G2.length = G0.length) → (ab_slots G2 = ab_slots G0) → ab_W X (ab_pl y_TX_isAt b_TX_isAt 5 (some (.boolean))) d G2 65 [none, none, none, some (vz s2), none] [] Q) → ab_W X (ab_pl y_TX_isAt b_TX_isAt 5 (some (.boolean))) d G 22 [some (vR x), some (vz b), some (vR (ab_big + j)), some (vz sm), some (vz i_)] [] Q := by
  intro mz
  induction mz with
  | zero => intro G sm i_ hx hby_ ci jk hfr hlen hsl hm hk0; exact absurd hm (Nat.not_lt_zero _)
  | succ mz ih =>
    intro G sm i_ hx hby_ ci jk hfr hlen hsl hm hk0
    refine ab_iload d_TX_isAt_22 rfl ?_
    refine ab_aload_n d_TX_isAt_24 rfl ?_
    refine ab_callVS (d' := d - 1) (as := []) (st := [vz i_]) cj (s_length cj (by omega)) (fun oc G2 h => ⟨_, h.1⟩) (by omega) m_SR_length ml_TX_177 im_SR_length se_SR_length (Nat.le_of_ble_eq_true rfl) d_TX_isAt_25 rfl ?_
    intro v G9 h9
    obtain ⟨h8, hG9⟩ := h9
    cases h8
    rw [hG9]
    refine ab_topi (show (7 : Int32) = Int32.ofInt 7 by decide) ?_
    change ab_W _ _ _ G 28 [some (vR x), some (vz b), some (vR (ab_big + j)), some (vz sm), some (vz i_)] [vz 7, vz i_] _
    refine zz_icmp_ge (tgt := 65) d_TX_isAt_28 (by decide) (by omega) (by decide) (fun c1 => ?_) (fun c1 => ?_)
    · refine ab_less (L' := [none, none, none, some (vz sm), none]) (fun i v h => by rcases i with _ | _ | _ | _ | _ | i <;> first | exact h | (simp at h)) ?_
      exact hk0 _ _ (by exact snk_e jk (by omega)) (by omega) hfr hlen hsl
    · refine ab_iload_n d_TX_isAt_31 rfl ?_
      refine zz_if_eq (tgt := 65) d_TX_isAt_32 (by decide) (by omega) (fun c2 => ?_) (fun c2 => ?_)
      · refine ab_less (L' := [none, none, none, some (vz sm), none]) (fun i v h => by rcases i with _ | _ | _ | _ | _ | i <;> first | exact h | (simp at h)) ?_
        exact hk0 _ _ (by exact snk_e jk (by omega)) (by omega) hfr hlen hsl
      · have hjn_ := snk_n jk (by omega)
        refine ab_aload_n d_TX_isAt_35 rfl ?_
        refine ab_getf (fs := [vR se, vR by_, vz n, vz pl, vz fa, vz fp, vR kd, vz kn]) f_TX_18 d_TX_isAt_36 hx.2.2 rfl ?_
        refine ab_iload_n d_TX_isAt_39 rfl ?_
        refine ab_iload d_TX_isAt_40 rfl ?_
        refine zz_iadd d_TX_isAt_42 ?_
        refine zz_iald d_TX_isAt_43 hby_ (by omega) ?_
        have hq3 := hb (b + i_) (by omega) (by omega)
        refine ab_aload_n d_TX_isAt_44 rfl ?_
        refine ab_iload d_TX_isAt_45 rfl ?_
        refine ab_callVS (d' := d - 1) (as := [vz i_]) (st := [vz (f (b + i_))]) cj (s_charAt cj (z_in ⟨by omega, by omega, by omega⟩) (by omega)) (fun oc G2 h => ⟨_, h.1⟩) (by omega) m_SR_charAt ml_TX_181 im_SR_charAt se_SR_charAt (Nat.le_of_ble_eq_true rfl) d_TX_isAt_47 rfl ?_
        intro v G9 h9
        obtain ⟨h8, hG9⟩ := h9
        cases h8
        rw [hG9]
        refine ab_topi (s_sg (j := j) (i := i_) (by omega)) ?_
        have hsg_ := s_sgb (i := i_) cj (by omega)
        change ab_W _ _ _ G 50 [some (vR x), some (vz b), some (vR (ab_big + j)), some (vz sm), some (vz i_)] [vz (sgI j i_), vz (f (b + i_))] _
        refine zz_icmp_ne (tgt := 57) d_TX_isAt_50 (by decide) (by omega) (by omega) (fun c4 => ?_) (fun c4 => ?_)
        · refine zz_iconst d_TX_isAt_57 ?_
          refine ab_istore_n d_TX_isAt_58 (Nat.le_of_ble_eq_true rfl) (Nat.le_of_ble_eq_true rfl) rfl ?_
          change ab_W _ _ _ G 59 [some (vR x), some (vz b), some (vR (ab_big + j)), some (vz 0), some (vz i_)] [] _
          refine zz_iinc d_TX_isAt_59 rfl (Nat.le_of_ble_eq_true rfl) (Nat.le_of_ble_eq_true rfl) rfl ?_
          change ab_W _ _ _ G 62 [some (vR x), some (vz b), some (vR (ab_big + j)), some (vz 0), some (vz (i_ + 1))] [] _
          refine ab_goto (tgt := 22) d_TX_isAt_62 (by decide) ?_
          exact ih (sm := 0) (i_ := (i_ + 1)) hx hby_ (by omega) (snk_f (by omega) (by omega)) hfr hlen hsl (by omega) hk0
        · refine zz_iconst d_TX_isAt_53 ?_
          refine ab_goto (tgt := 58) d_TX_isAt_54 (by decide) ?_
          refine ab_istore_n d_TX_isAt_58 (Nat.le_of_ble_eq_true rfl) (Nat.le_of_ble_eq_true rfl) rfl ?_
          change ab_W _ _ _ G 59 [some (vR x), some (vz b), some (vR (ab_big + j)), some (vz 1), some (vz i_)] [] _
          refine zz_iinc d_TX_isAt_59 rfl (Nat.le_of_ble_eq_true rfl) (Nat.le_of_ble_eq_true rfl) rfl ?_
          change ab_W _ _ _ G 62 [some (vR x), some (vz b), some (vR (ab_big + j)), some (vz 1), some (vz (i_ + 1))] [] _
          refine ab_goto (tgt := 22) d_TX_isAt_62 (by decide) ?_
          exact ih (sm := 1) (i_ := (i_ + 1)) hx hby_ (by omega) (snk_s jk (by omega) (by omega)) hfr hlen hsl (by omega) hk0
set_option maxRecDepth 100000 in
set_option maxHeartbeats 4000000 in
theorem z_TX_isAt {X : ab_X} {d : Nat} {o : Nat → Nat} {G : ab_G} {x : Nat} {lx : Nat} {se : Nat} {by_ : Nat} {lby : Nat} {m : Nat} {f : Int → Int} {n : Int} {pl : Int} {fa : Int} {fp : Int} {kd : Nat} {kn : Int} {b : Int} {j : Nat} (hx : cc o G x lx (ab_ob 10 [vR se, vR by_, vz n, vz pl, vz fa, vz fp, vR kd, vz kn])) (hby_ : cc o G by_ lby (za m f)) (c0 : 0 ≤ n ∧ n ≤ ↑m ∧ ↑m ≤ (70000 : Int) ∧ 0 ≤ pl ∧ pl ≤ 70000) (hb : bytes f n) (cb : 0 ≤ b ∧ b ≤ 70010) (cj : j < 6) (hd : 4 ≤ d) : ab_F X d y_TX_isAt (.code y_TX_isAt b_TX_isAt 5 (some (.boolean))) [vR x, vz b, vR (ab_big + j)] G (fun oc G2 => ∃ s2 : Int, oc = .returned (some (vz s2)) ∧ fx o o [] G G2 ∧ G2.length = G.length ∧ ab_slots G2 = ab_slots G ∧ (snq f n b j s2) ∧ (0 ≤ s2 ∧ s2 ≤ 1)) := by
  refine ab_F_of (by decide +kernel) (Nat.le_of_ble_eq_true rfl) ?_
  obtain ⟨Q, hQ⟩ : ∃ z : Outcome → ab_G → Prop, z = (fun oc G2 => ∃ s2 : Int, oc = .returned (some (vz s2)) ∧ fx o o [] G G2 ∧ G2.length = G.length ∧ ab_slots G2 = ab_slots G ∧ (snq f n b j s2) ∧ (0 ≤ s2 ∧ s2 ≤ 1)) := ⟨_, rfl⟩
  rw [← hQ]
  change ab_W X (ab_pl y_TX_isAt b_TX_isAt 5 (some (.boolean))) d G 0 [some (vR x), some (vz b), some (vR (ab_big + j)), none, none] [] Q
  have hfr : fx o o [] G G := fx.rf
  have hlen : G.length = G.length := rfl
  have hsl : ab_slots G = ab_slots G := rfl
  refine ab_iload_n d_TX_isAt_0 rfl ?_
  refine ab_aload_n d_TX_isAt_1 rfl ?_
  refine ab_callVS (d' := d - 1) (as := []) (st := [vz b]) cj (s_length cj (by omega)) (fun oc G2 h => ⟨_, h.1⟩) (by omega) m_SR_length ml_TX_177 im_SR_length se_SR_length (Nat.le_of_ble_eq_true rfl) d_TX_isAt_2 rfl ?_
  intro v G9 h9
  obtain ⟨h8, hG9⟩ := h9
  cases h8
  rw [hG9]
  refine ab_topi (show (7 : Int32) = Int32.ofInt 7 by decide) ?_
  change ab_W _ _ _ G 5 [some (vR x), some (vz b), some (vR (ab_big + j)), none, none] [vz 7, vz b] _
  refine zz_iadd d_TX_isAt_5 ?_
  refine ab_aload_n d_TX_isAt_6 rfl ?_
  refine ab_getf (fs := [vR se, vR by_, vz n, vz pl, vz fa, vz fp, vR kd, vz kn]) f_TX_40 d_TX_isAt_7 hx.2.2 rfl ?_
  refine zz_icmp_gt (tgt := 17) d_TX_isAt_10 (by decide) (by omega) (by omega) (fun c1 => ?_) (fun c1 => ?_)
  · refine zz_iconst d_TX_isAt_17 ?_
    refine ab_istore_n d_TX_isAt_18 (Nat.le_of_ble_eq_true rfl) (Nat.le_of_ble_eq_true rfl) rfl ?_
    change ab_W _ _ _ G 19 [some (vR x), some (vz b), some (vR (ab_big + j)), some (vz 0), none] [] _
    refine zz_iconst d_TX_isAt_19 ?_
    refine ab_istore d_TX_isAt_20 (Nat.le_of_ble_eq_true rfl) (Nat.le_of_ble_eq_true rfl) rfl ?_
    change ab_W _ _ _ G 22 [some (vR x), some (vz b), some (vR (ab_big + j)), some (vz 0), some (vz 0)] [] _
    refine y_TX_isAt_22 (x := x) (lx := lx) (se := se) (by_ := by_) (lby := lby) (m := m) (f := f) (n := n) (pl := pl) (fa := fa) (fp := fp) (kd := kd) (kn := kn) (b := b) (sm := 0) (i_ := 0) (by omega) hb (by omega) (by omega) (by omega) (Int.toNat (7 - 0) + 1) hx hby_ (by omega) (snk_z (by omega)) hfr hlen hsl (by omega) (fun G2 s23 hq4 hq5 hfr hlen hsl => ?_)
    · change ab_W _ _ _ G2 65 [none, none, none, some (vz s23), none] [] _
      refine ab_iload_n d_TX_isAt_65 rfl ?_
      refine zz_bret rfl (by omega) d_TX_isAt_66 ?_
      rw [hQ]; exact ⟨_, rfl, hfr, hlen, hsl, (by exact hq4), (by omega)⟩
  · refine zz_iconst d_TX_isAt_13 ?_
    refine ab_goto (tgt := 18) d_TX_isAt_14 (by decide) ?_
    refine ab_istore_n d_TX_isAt_18 (Nat.le_of_ble_eq_true rfl) (Nat.le_of_ble_eq_true rfl) rfl ?_
    change ab_W _ _ _ G 19 [some (vR x), some (vz b), some (vR (ab_big + j)), some (vz 1), none] [] _
    refine zz_iconst d_TX_isAt_19 ?_
    refine ab_istore d_TX_isAt_20 (Nat.le_of_ble_eq_true rfl) (Nat.le_of_ble_eq_true rfl) rfl ?_
    change ab_W _ _ _ G 22 [some (vR x), some (vz b), some (vR (ab_big + j)), some (vz 1), some (vz 0)] [] _
    refine y_TX_isAt_22 (x := x) (lx := lx) (se := se) (by_ := by_) (lby := lby) (m := m) (f := f) (n := n) (pl := pl) (fa := fa) (fp := fp) (kd := kd) (kn := kn) (b := b) (sm := 1) (i_ := 0) (by omega) hb (by omega) (by omega) (by omega) (Int.toNat (7 - 0) + 1) hx hby_ (by omega) (snk_0 (by omega)) hfr hlen hsl (by omega) (fun G6 s27 hq8 hq9 hfr hlen hsl => ?_)
    · change ab_W _ _ _ G6 65 [none, none, none, some (vz s27), none] [] _
      refine ab_iload_n d_TX_isAt_65 rfl ?_
      refine zz_bret rfl (by omega) d_TX_isAt_66 ?_
      rw [hQ]; exact ⟨_, rfl, hfr, hlen, hsl, (by exact hq8), (by omega)⟩
set_option maxRecDepth 100000 in
set_option maxHeartbeats 4000000 in
theorem c_TX_rangesNamed {X : ab_X} {d : Nat} {o : Nat → Nat} {G : ab_G} {x : Nat} {lx : Nat} {se : Nat} {by_ : Nat} {lby : Nat} {m : Nat} {f : Int → Int} {n : Int} {pl : Int} {fa : Int} {fp : Int} {kd : Nat} {kn : Int} {b : Int} (hx : cc o G x lx (ab_ob 10 [vR se, vR by_, vz n, vz pl, vz fa, vz fp, vR kd, vz kn])) (hby_ : cc o G by_ lby (za m f)) (c0 : 0 ≤ n ∧ n ≤ ↑m ∧ ↑m ≤ (70000 : Int) ∧ 0 ≤ pl ∧ pl ≤ 70000) (hb : bytes f n) (cb : 0 ≤ b ∧ b ≤ 70010) (hd : 6 ≤ d) : ab_F X d y_TX_rangesNamed (.code y_TX_rangesNamed b_TX_rangesNamed 2 (some (.array .int))) [vR x, vz b] G (fun oc G2 => (∃ k2 : Nat, oc = .returned (some (vR k2)) ∧ fx o o [] G G2 ∧ G2.length = G.length ∧ ab_slots G2 = ab_slots G ∧ (nmk f n b k2) ∧ (1 ≤ k2 ∧ k2 ≤ 12)) ∨ (oc = .returned (some (vN)) ∧ fx o o [] G G2 ∧ G2.length = G.length ∧ ab_slots G2 = ab_slots G ∧ (∀ k, ¬ nmk f n b k))) := by
  refine ab_F_of (by decide +kernel) (Nat.le_of_ble_eq_true rfl) ?_
  obtain ⟨Q, hQ⟩ : ∃ z : Outcome → ab_G → Prop, z = (fun oc G2 => (∃ k2 : Nat, oc = .returned (some (vR k2)) ∧ fx o o [] G G2 ∧ G2.length = G.length ∧ ab_slots G2 = ab_slots G ∧ (nmk f n b k2) ∧ (1 ≤ k2 ∧ k2 ≤ 12)) ∨ (oc = .returned (some (vN)) ∧ fx o o [] G G2 ∧ G2.length = G.length ∧ ab_slots G2 = ab_slots G ∧ (∀ k, ¬ nmk f n b k))) := ⟨_, rfl⟩
  rw [← hQ]
  change ab_W X (ab_pl y_TX_rangesNamed b_TX_rangesNamed 2 (some (.array .int))) d G 0 [some (vR x), some (vz b)] [] Q
  have hfr : fx o o [] G G := fx.rf
  have hlen : G.length = G.length := rfl
  have hsl : ab_slots G = ab_slots G := rfl
  refine ab_aload_n d_TX_rangesNamed_0 rfl ?_
  refine ab_iload_n d_TX_rangesNamed_1 rfl ?_
  refine ab_ldcS (j := 0) rfl d_TX_rangesNamed_2 ?_
  change ab_W _ _ _ G 4 [some (vR x), some (vz b)] [vR (ab_big + 0), vz b, vR x] _
  refine ab_callV (d' := d - 1) (as := [vz b, vR (ab_big + 0)]) (st := []) (r := _) (z_TX_isAt (o := o) (x := x) (lx := lx) (se := se) (by_ := by_) (lby := lby) (m := m) (f := f) (n := n) (pl := pl) (fa := fa) (fp := fp) (kd := kd) (kn := kn) (b := b) (j := 0) hx hby_ (by omega) hb (by omega) (by decide) (by omega)) (fun oc G2 h => by rcases h with ⟨_, h, _⟩ <;> exact ⟨_, h⟩) (by omega) m_TX_isAt ml_TX_148 im_TX_isAt se_TX_isAt c_TX hx.2.2 (Nat.le_of_ble_eq_true rfl) d_TX_rangesNamed_4 rfl ?_
  intro v G1 hq
  rcases hq with ⟨s22, hv, hfk, hlk, hsk, hq3, hq4⟩
  cases hv
  have hx := hfk.get hx (by simp)
  have hby_ := hfk.get hby_ (by simp)
  have hfr := hfr.tr hfk (by decide)
  have hlen := hlk.trans hlen
  have hsl := hsk.trans hsl
  change ab_W _ _ _ G1 7 [some (vR x), some (vz b)] [vz s22] _
  refine zz_if_eq (tgt := 14) d_TX_rangesNamed_7 (by decide) (by omega) (fun c5 => ?_) (fun c5 => ?_)
  · refine ab_aload_n d_TX_rangesNamed_14 rfl ?_
    refine ab_iload_n d_TX_rangesNamed_15 rfl ?_
    refine ab_ldcS (j := 1) rfl d_TX_rangesNamed_16 ?_
    change ab_W _ _ _ G1 18 [some (vR x), some (vz b)] [vR (ab_big + 1), vz b, vR x] _
    refine ab_callV (d' := d - 1) (as := [vz b, vR (ab_big + 1)]) (st := []) (r := _) (z_TX_isAt (o := o) (x := x) (lx := lx) (se := se) (by_ := by_) (lby := lby) (m := m) (f := f) (n := n) (pl := pl) (fa := fa) (fp := fp) (kd := kd) (kn := kn) (b := b) (j := 1) hx hby_ (by omega) hb (by omega) (by decide) (by omega)) (fun oc G2 h => by rcases h with ⟨_, h, _⟩ <;> exact ⟨_, h⟩) (by omega) m_TX_isAt ml_TX_148 im_TX_isAt se_TX_isAt c_TX hx.2.2 (Nat.le_of_ble_eq_true rfl) d_TX_rangesNamed_18 rfl ?_
    intro v G6 hq
    rcases hq with ⟨s27, hv, hfk, hlk, hsk, hq8, hq9⟩
    cases hv
    have hx := hfk.get hx (by simp)
    have hby_ := hfk.get hby_ (by simp)
    have hfr := hfr.tr hfk (by decide)
    have hlen := hlk.trans hlen
    have hsl := hsk.trans hsl
    change ab_W _ _ _ G6 21 [some (vR x), some (vz b)] [vz s27] _
    refine zz_if_eq (tgt := 28) d_TX_rangesNamed_21 (by decide) (by omega) (fun c10 => ?_) (fun c10 => ?_)
    · refine ab_aload_n d_TX_rangesNamed_28 rfl ?_
      refine ab_iload_n d_TX_rangesNamed_29 rfl ?_
      refine ab_ldcS (j := 2) rfl d_TX_rangesNamed_30 ?_
      change ab_W _ _ _ G6 32 [some (vR x), some (vz b)] [vR (ab_big + 2), vz b, vR x] _
      refine ab_callV (d' := d - 1) (as := [vz b, vR (ab_big + 2)]) (st := []) (r := _) (z_TX_isAt (o := o) (x := x) (lx := lx) (se := se) (by_ := by_) (lby := lby) (m := m) (f := f) (n := n) (pl := pl) (fa := fa) (fp := fp) (kd := kd) (kn := kn) (b := b) (j := 2) hx hby_ (by omega) hb (by omega) (by decide) (by omega)) (fun oc G2 h => by rcases h with ⟨_, h, _⟩ <;> exact ⟨_, h⟩) (by omega) m_TX_isAt ml_TX_148 im_TX_isAt se_TX_isAt c_TX hx.2.2 (Nat.le_of_ble_eq_true rfl) d_TX_rangesNamed_32 rfl ?_
      intro v G11 hq
      rcases hq with ⟨s212, hv, hfk, hlk, hsk, hq13, hq14⟩
      cases hv
      have hx := hfk.get hx (by simp)
      have hby_ := hfk.get hby_ (by simp)
      have hfr := hfr.tr hfk (by decide)
      have hlen := hlk.trans hlen
      have hsl := hsk.trans hsl
      change ab_W _ _ _ G11 35 [some (vR x), some (vz b)] [vz s212] _
      refine zz_if_eq (tgt := 42) d_TX_rangesNamed_35 (by decide) (by omega) (fun c15 => ?_) (fun c15 => ?_)
      · refine ab_aload_n d_TX_rangesNamed_42 rfl ?_
        refine ab_iload_n d_TX_rangesNamed_43 rfl ?_
        refine ab_ldcS (j := 3) rfl d_TX_rangesNamed_44 ?_
        change ab_W _ _ _ G11 46 [some (vR x), some (vz b)] [vR (ab_big + 3), vz b, vR x] _
        refine ab_callV (d' := d - 1) (as := [vz b, vR (ab_big + 3)]) (st := []) (r := _) (z_TX_isAt (o := o) (x := x) (lx := lx) (se := se) (by_ := by_) (lby := lby) (m := m) (f := f) (n := n) (pl := pl) (fa := fa) (fp := fp) (kd := kd) (kn := kn) (b := b) (j := 3) hx hby_ (by omega) hb (by omega) (by decide) (by omega)) (fun oc G2 h => by rcases h with ⟨_, h, _⟩ <;> exact ⟨_, h⟩) (by omega) m_TX_isAt ml_TX_148 im_TX_isAt se_TX_isAt c_TX hx.2.2 (Nat.le_of_ble_eq_true rfl) d_TX_rangesNamed_46 rfl ?_
        intro v G16 hq
        rcases hq with ⟨s217, hv, hfk, hlk, hsk, hq18, hq19⟩
        cases hv
        have hx := hfk.get hx (by simp)
        have hby_ := hfk.get hby_ (by simp)
        have hfr := hfr.tr hfk (by decide)
        have hlen := hlk.trans hlen
        have hsl := hsk.trans hsl
        change ab_W _ _ _ G16 49 [some (vR x), some (vz b)] [vz s217] _
        refine zz_if_eq (tgt := 56) d_TX_rangesNamed_49 (by decide) (by omega) (fun c20 => ?_) (fun c20 => ?_)
        · refine ab_aload_n d_TX_rangesNamed_56 rfl ?_
          refine ab_iload_n d_TX_rangesNamed_57 rfl ?_
          refine ab_ldcS (j := 4) rfl d_TX_rangesNamed_58 ?_
          change ab_W _ _ _ G16 60 [some (vR x), some (vz b)] [vR (ab_big + 4), vz b, vR x] _
          refine ab_callV (d' := d - 1) (as := [vz b, vR (ab_big + 4)]) (st := []) (r := _) (z_TX_isAt (o := o) (x := x) (lx := lx) (se := se) (by_ := by_) (lby := lby) (m := m) (f := f) (n := n) (pl := pl) (fa := fa) (fp := fp) (kd := kd) (kn := kn) (b := b) (j := 4) hx hby_ (by omega) hb (by omega) (by decide) (by omega)) (fun oc G2 h => by rcases h with ⟨_, h, _⟩ <;> exact ⟨_, h⟩) (by omega) m_TX_isAt ml_TX_148 im_TX_isAt se_TX_isAt c_TX hx.2.2 (Nat.le_of_ble_eq_true rfl) d_TX_rangesNamed_60 rfl ?_
          intro v G21 hq
          rcases hq with ⟨s222, hv, hfk, hlk, hsk, hq23, hq24⟩
          cases hv
          have hx := hfk.get hx (by simp)
          have hby_ := hfk.get hby_ (by simp)
          have hfr := hfr.tr hfk (by decide)
          have hlen := hlk.trans hlen
          have hsl := hsk.trans hsl
          change ab_W _ _ _ G21 63 [some (vR x), some (vz b)] [vz s222] _
          refine zz_if_eq (tgt := 70) d_TX_rangesNamed_63 (by decide) (by omega) (fun c25 => ?_) (fun c25 => ?_)
          · refine ab_aload_n d_TX_rangesNamed_70 rfl ?_
            refine ab_iload_n d_TX_rangesNamed_71 rfl ?_
            refine ab_ldcS (j := 5) rfl d_TX_rangesNamed_72 ?_
            change ab_W _ _ _ G21 74 [some (vR x), some (vz b)] [vR (ab_big + 5), vz b, vR x] _
            refine ab_callV (d' := d - 1) (as := [vz b, vR (ab_big + 5)]) (st := []) (r := _) (z_TX_isAt (o := o) (x := x) (lx := lx) (se := se) (by_ := by_) (lby := lby) (m := m) (f := f) (n := n) (pl := pl) (fa := fa) (fp := fp) (kd := kd) (kn := kn) (b := b) (j := 5) hx hby_ (by omega) hb (by omega) (by decide) (by omega)) (fun oc G2 h => by rcases h with ⟨_, h, _⟩ <;> exact ⟨_, h⟩) (by omega) m_TX_isAt ml_TX_148 im_TX_isAt se_TX_isAt c_TX hx.2.2 (Nat.le_of_ble_eq_true rfl) d_TX_rangesNamed_74 rfl ?_
            intro v G26 hq
            rcases hq with ⟨s227, hv, hfk, hlk, hsk, hq28, hq29⟩
            cases hv
            have hx := hfk.get hx (by simp)
            have hby_ := hfk.get hby_ (by simp)
            have hfr := hfr.tr hfk (by decide)
            have hlen := hlk.trans hlen
            have hsl := hsk.trans hsl
            change ab_W _ _ _ G26 77 [some (vR x), some (vz b)] [vz s227] _
            refine zz_if_eq (tgt := 86) d_TX_rangesNamed_77 (by decide) (by omega) (fun c30 => ?_) (fun c30 => ?_)
            · refine ab_null d_TX_rangesNamed_86 ?_
              refine ab_aret (rt := _) rfl (Or.inr ⟨_, rfl⟩) (Or.inl rfl) d_TX_rangesNamed_87 ?_
              rw [hQ]; exact (Or.inr ⟨rfl, hfr, hlen, hsl, (by exact nmk_no (by omega) hq3 (by omega) hq8 (by omega) hq13 (by omega) hq18 (by omega) hq23 (by omega) hq28 (by omega))⟩)
            · refine ab_gets (i := 12) (by decide) s_TX_174 d_TX_rangesNamed_80 ?_
              refine ab_goto (tgt := 87) d_TX_rangesNamed_83 (by decide) ?_
              refine ab_aret (rt := _) rfl (Or.inr ⟨_, rfl⟩) (Or.inr ⟨_, rfl⟩) d_TX_rangesNamed_87 ?_
              rw [hQ]; exact (Or.inl ⟨_, rfl, hfr, hlen, hsl, (by exact nmk_5 (by omega) hq28 (by omega)), (by omega)⟩)
          · refine ab_gets (i := 11) (by decide) s_TX_169 d_TX_rangesNamed_66 ?_
            refine ab_aret (rt := _) rfl (Or.inr ⟨_, rfl⟩) (Or.inr ⟨_, rfl⟩) d_TX_rangesNamed_69 ?_
            rw [hQ]; exact (Or.inl ⟨_, rfl, hfr, hlen, hsl, (by exact nmk_4 (by omega) hq23 (by omega)), (by omega)⟩)
        · refine ab_gets (i := 10) (by decide) s_TX_164 d_TX_rangesNamed_52 ?_
          refine ab_aret (rt := _) rfl (Or.inr ⟨_, rfl⟩) (Or.inr ⟨_, rfl⟩) d_TX_rangesNamed_55 ?_
          rw [hQ]; exact (Or.inl ⟨_, rfl, hfr, hlen, hsl, (by exact nmk_3 (by omega) hq18 (by omega)), (by omega)⟩)
      · refine ab_gets (i := 9) (by decide) s_TX_159 d_TX_rangesNamed_38 ?_
        refine ab_aret (rt := _) rfl (Or.inr ⟨_, rfl⟩) (Or.inr ⟨_, rfl⟩) d_TX_rangesNamed_41 ?_
        rw [hQ]; exact (Or.inl ⟨_, rfl, hfr, hlen, hsl, (by exact nmk_2 (by omega) hq13 (by omega)), (by omega)⟩)
    · refine ab_gets (i := 8) (by decide) s_TX_154 d_TX_rangesNamed_24 ?_
      refine ab_aret (rt := _) rfl (Or.inr ⟨_, rfl⟩) (Or.inr ⟨_, rfl⟩) d_TX_rangesNamed_27 ?_
      rw [hQ]; exact (Or.inl ⟨_, rfl, hfr, hlen, hsl, (by exact nmk_1 (by omega) hq8 (by omega)), (by omega)⟩)
  · refine ab_gets (i := 1) (by decide) s_TX_26 d_TX_rangesNamed_10 ?_
    refine ab_aret (rt := _) rfl (Or.inr ⟨_, rfl⟩) (Or.inr ⟨_, rfl⟩) d_TX_rangesNamed_13 ?_
    rw [hQ]; exact (Or.inl ⟨_, rfl, hfr, hlen, hsl, (by exact nmk_0 (by omega) hq3 (by omega)), (by omega)⟩)
