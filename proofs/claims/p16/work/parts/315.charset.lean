set_option maxRecDepth 100000 in
set_option maxHeartbeats 4000000 in
theorem z_CS_clear {X : ab_X} {d : Nat} {o : Nat → Nat} {G : ab_G} {r : Nat} {b : Nat} {lr : Nat} {cnt : Int} (hr : cc o G r lr (ab_ob 1 [vR b, vz cnt])) (cl : ab_n0 ≤ lr) : ab_F X d y_CS_clear (.code y_CS_clear b_CS_clear 1 none) [vR r] G (fun oc G2 => oc = .returned none ∧ fx o o [lr] G G2 ∧ G2.length = G.length ∧ ab_slots G2 = ab_slots G ∧ cc o G2 r lr (ab_ob 1 [vR b, vz 0])) := by
  refine ab_F_of (by decide +kernel) (Nat.le_of_ble_eq_true rfl) ?_
  obtain ⟨Q, hQ⟩ : ∃ z : Outcome → ab_G → Prop, z = (fun oc G2 => oc = .returned none ∧ fx o o [lr] G G2 ∧ G2.length = G.length ∧ ab_slots G2 = ab_slots G ∧ cc o G2 r lr (ab_ob 1 [vR b, vz 0])) := ⟨_, rfl⟩
  rw [← hQ]
  change ab_W X (ab_pl y_CS_clear b_CS_clear 1 none) d G 0 [some (vR r)] [] Q
  have hfr : fx o o [lr] G G := fx.rf
  have hlen : G.length = G.length := rfl
  have hsl : ab_slots G = ab_slots G := rfl
  refine ab_aload_n d_CS_clear_0 rfl ?_
  refine zz_iconst d_CS_clear_1 ?_
  refine ab_putf (fs := [vR b, vz cnt]) f_CS_15 (Or.inl rfl) d_CS_clear_2 hr.2.2 (Nat.le_of_ble_eq_true rfl) (fun _ => ⟨rfl, rfl⟩) (hr.2.1 (by first | omega | exact (show 18 ≤ _ by omega))) ?_
  obtain ⟨G1, eG1⟩ : ∃ z : ab_G, z = List.set G r (ab_ob 1 [vR b, vz 0]) := ⟨_, rfl⟩
  have hlen := (z_len eG1).trans hlen
  have hsl := (z_sl hr eG1 rfl).trans hsl
  have hfr := hfr.wr hr eG1 (by simp)
  have hr := hr.kept eG1
  change ab_W _ _ _ (List.set G r (ab_ob 1 [vR b, vz 0])) 5 [some (vR r)] [] _
  rw [← eG1]
  refine ab_vret rfl d_CS_clear_5 ?_
  rw [hQ]; exact ⟨rfl, hfr, hlen, hsl, hr⟩
set_option maxRecDepth 100000 in
set_option maxHeartbeats 4000000 in
theorem y_CS_rangeFrom_10 {X : ab_X} {d : Nat} {Q : Outcome → ab_G → Prop} {o : Nat → Nat} {G0 : ab_G} {r : Nat} {b : Nat} {lr : Nat} {lb : Nat} {n : Nat} {cnt : Int} {f : Int → Int} {x : Int} (c0 : 0 ≤ cnt ∧ 2 * cnt ≤ ↑n ∧ ↑n ≤ (100000000 : Int)) (cx : -2147483648 ≤ x ∧ x ≤ 2147483647) (hf : ∀ k : Int, 0 ≤ k → k < 2 * cnt → 0 ≤ f k ∧ f k ≤ 1114111) (hs : ∀ i j : Int, 0 ≤ i → i ≤ j → j < cnt → f (2 * i + 1) ≤ f (2 * j + 1)) : ∀ (mz : Nat) {G : ab_G} {low : Int} {high : Int} {turn : Int} {j : Nat} {p : Int}, (cc o G r lr (ab_ob 1 [vR b, vz cnt])) → (cc o G b lb (za n f)) → (0 ≤ low ∧ low ≤ high ∧ high ≤ cnt ∧ 0 ≤ turn ∧ turn ≤ 32) → (turn + ↑j = 32) → (p = 2 ^ j) → (high - low < p) → (∀ i : Int, 0 ≤ i → i < low → f (2 * i + 1) < x) → (∀ i : Int, high ≤ i → i < cnt → x ≤ f (2 * i + 1)) → (fx o o [] G0 G) → (G.length = G0.length) → (ab_slots G = ab_slots G0) → (Int.toNat (32 - turn) < mz) → (∀ (G2 : ab_G) (w : Int), (cc o G2 r lr (ab_ob 1 [vR b, vz cnt])) → (cc o G2 b lb (za n f)) → (0 ≤ w ∧ w ≤ cnt) → (∀ i : Int, 0 ≤ i → i < w → f (2 * i + 1) < x) → (∀ i : Int, w ≤ i → i < cnt → x ≤ f (2 * i + 1)) → (fx o o [] G0 G2) → (G2.length = G0.length) → (ab_slots G2 = ab_slots G0) → ab_W X (ab_pl y_CS_rangeFrom b_CS_rangeFrom 6 (some (.int))) d G2 61 [none, none, some (vz w), none, none, none] [] Q) → ab_W X (ab_pl y_CS_rangeFrom b_CS_rangeFrom 6 (some (.int))) d G 10 [some (vR r), some (vz x), some (vz low), some (vz high), some (vz turn), none] [] Q := by
  intro mz
  induction mz with
  | zero => intro G low high turn j p hr hb c1 cj cp cw hlo hhi hfr hlen hsl hm hk0; exact absurd hm (Nat.not_lt_zero _)
  | succ mz ih =>
    intro G low high turn j p hr hb c1 cj cp cw hlo hhi hfr hlen hsl hm hk0
    have hz : j = 0 → p = 1 := by intro h; rw [cp, h]; rfl
    obtain ⟨q, hq⟩ : ∃ q : Int, 0 < j → p = 2 * q ∧ q = 2 ^ (j - 1) := ⟨2 ^ (j - 1), fun h => ⟨by rw [cp]; obtain ⟨i, rfl⟩ : ∃ i, j = i + 1 := ⟨j - 1, by omega⟩; rw [Int.pow_succ, Nat.add_sub_cancel, Int.mul_comm], rfl⟩⟩
    refine ab_iload d_CS_rangeFrom_10 rfl ?_
    refine zz_bipush d_CS_rangeFrom_12 (by decide) ?_
    refine zz_icmp_ge (tgt := 61) d_CS_rangeFrom_14 (by decide) (by omega) (by decide) (fun c1 => ?_) (fun c1 => ?_)
    · refine ab_less (L' := [none, none, some (vz low), none, none, none]) (fun i v h => by rcases i with _ | _ | _ | _ | _ | _ | i <;> first | exact h | (simp at h)) ?_
      exact hk0 _ _ hr hb (by omega) (by exact hlo) (by exact fun i h1 h2 => hhi i (by omega) h2) hfr hlen hsl
    · refine ab_iload_n d_CS_rangeFrom_17 rfl ?_
      refine ab_iload_n d_CS_rangeFrom_18 rfl ?_
      refine zz_icmp_ge (tgt := 61) d_CS_rangeFrom_19 (by decide) (by omega) (by omega) (fun c2 => ?_) (fun c2 => ?_)
      · refine ab_less (L' := [none, none, some (vz low), none, none, none]) (fun i v h => by rcases i with _ | _ | _ | _ | _ | _ | i <;> first | exact h | (simp at h)) ?_
        exact hk0 _ _ hr hb (by omega) (by exact hlo) (by exact fun i h1 h2 => hhi i (by omega) h2) hfr hlen hsl
      · refine ab_iload_n d_CS_rangeFrom_22 rfl ?_
        refine ab_iload_n d_CS_rangeFrom_23 rfl ?_
        refine zz_iadd d_CS_rangeFrom_24 ?_
        refine zz_iconst d_CS_rangeFrom_25 ?_
        refine zz_iushr1 d_CS_rangeFrom_26 (by omega) ?_
        refine ab_istore d_CS_rangeFrom_27 (Nat.le_of_ble_eq_true rfl) (Nat.le_of_ble_eq_true rfl) rfl ?_
        change ab_W _ _ _ G 29 [some (vR r), some (vz x), some (vz low), some (vz high), some (vz turn), some (vz ((low + high) / 2))] [] _
        refine ab_aload_n d_CS_rangeFrom_29 rfl ?_
        refine ab_getf (fs := [vR b, vz cnt]) f_CS_9 d_CS_rangeFrom_30 hr.2.2 rfl ?_
        refine zz_iconst d_CS_rangeFrom_33 ?_
        refine ab_iload d_CS_rangeFrom_34 rfl ?_
        refine zz_imul d_CS_rangeFrom_36 ?_
        refine zz_iconst d_CS_rangeFrom_37 ?_
        refine zz_iadd d_CS_rangeFrom_38 ?_
        refine zz_iald d_CS_rangeFrom_39 hb (by omega) ?_
        have hq3 := hf ((2 * ((low + high) / 2)) + 1) (by omega) (by omega)
        refine ab_iload_n d_CS_rangeFrom_40 rfl ?_
        refine zz_icmp_ge (tgt := 52) d_CS_rangeFrom_41 (by decide) (by omega) (by omega) (fun c4 => ?_) (fun c4 => ?_)
        · refine ab_iload d_CS_rangeFrom_52 rfl ?_
          refine ab_istore_n d_CS_rangeFrom_54 (Nat.le_of_ble_eq_true rfl) (Nat.le_of_ble_eq_true rfl) rfl ?_
          change ab_W _ _ _ G 55 [some (vR r), some (vz x), some (vz low), some (vz ((low + high) / 2)), some (vz turn), some (vz ((low + high) / 2))] [] _
          refine zz_iinc d_CS_rangeFrom_55 rfl (Nat.le_of_ble_eq_true rfl) (Nat.le_of_ble_eq_true rfl) rfl ?_
          change ab_W _ _ _ G 58 [some (vR r), some (vz x), some (vz low), some (vz ((low + high) / 2)), some (vz (turn + 1)), some (vz ((low + high) / 2))] [] _
          refine ab_goto (tgt := 10) d_CS_rangeFrom_58 (by decide) ?_
          refine ab_less (L' := [some (vR r), some (vz x), some (vz low), some (vz ((low + high) / 2)), some (vz (turn + 1)), none]) (fun i v h => by rcases i with _ | _ | _ | _ | _ | _ | i <;> first | exact h | (simp at h)) ?_
          exact ih (low := low) (high := ((low + high) / 2)) (turn := (turn + 1)) (j := (j - 1)) (p := q) hr hb (by omega) (by omega) (hq (by omega)).2 (by have := hq (by omega); omega) (fun i h1 h2 => by first | exact hlo i h1 h2 | (have := hs i ((low + high) / 2) h1 (by omega) (by omega); omega)) (fun i h1 h2 => by first | exact hhi i h1 h2 | (have := hs ((low + high) / 2) i (by omega) h1 h2; omega)) hfr hlen hsl (by omega) hk0
        · refine ab_iload d_CS_rangeFrom_44 rfl ?_
          refine zz_iconst d_CS_rangeFrom_46 ?_
          refine zz_iadd d_CS_rangeFrom_47 ?_
          refine ab_istore_n d_CS_rangeFrom_48 (Nat.le_of_ble_eq_true rfl) (Nat.le_of_ble_eq_true rfl) rfl ?_
          change ab_W _ _ _ G 49 [some (vR r), some (vz x), some (vz (((low + high) / 2) + 1)), some (vz high), some (vz turn), some (vz ((low + high) / 2))] [] _
          refine ab_goto (tgt := 55) d_CS_rangeFrom_49 (by decide) ?_
          refine zz_iinc d_CS_rangeFrom_55 rfl (Nat.le_of_ble_eq_true rfl) (Nat.le_of_ble_eq_true rfl) rfl ?_
          change ab_W _ _ _ G 58 [some (vR r), some (vz x), some (vz (((low + high) / 2) + 1)), some (vz high), some (vz (turn + 1)), some (vz ((low + high) / 2))] [] _
          refine ab_goto (tgt := 10) d_CS_rangeFrom_58 (by decide) ?_
          refine ab_less (L' := [some (vR r), some (vz x), some (vz (((low + high) / 2) + 1)), some (vz high), some (vz (turn + 1)), none]) (fun i v h => by rcases i with _ | _ | _ | _ | _ | _ | i <;> first | exact h | (simp at h)) ?_
          exact ih (low := (((low + high) / 2) + 1)) (high := high) (turn := (turn + 1)) (j := (j - 1)) (p := q) hr hb (by omega) (by omega) (hq (by omega)).2 (by have := hq (by omega); omega) (fun i h1 h2 => by first | exact hlo i h1 h2 | (have := hs i ((low + high) / 2) h1 (by omega) (by omega); omega)) (fun i h1 h2 => by first | exact hhi i h1 h2 | (have := hs ((low + high) / 2) i (by omega) h1 h2; omega)) hfr hlen hsl (by omega) hk0
set_option maxRecDepth 100000 in
set_option maxHeartbeats 4000000 in
theorem z_CS_rangeFrom {X : ab_X} {d : Nat} {o : Nat → Nat} {G : ab_G} {r : Nat} {b : Nat} {lr : Nat} {lb : Nat} {n : Nat} {cnt : Int} {f : Int → Int} {x : Int} (hr : cc o G r lr (ab_ob 1 [vR b, vz cnt])) (hb : cc o G b lb (za n f)) (c0 : 0 ≤ cnt ∧ 2 * cnt ≤ ↑n ∧ ↑n ≤ (100000000 : Int)) (cx : -2147483648 ≤ x ∧ x ≤ 2147483647) (hf : ∀ k : Int, 0 ≤ k → k < 2 * cnt → 0 ≤ f k ∧ f k ≤ 1114111) (hs : ∀ i j : Int, 0 ≤ i → i ≤ j → j < cnt → f (2 * i + 1) ≤ f (2 * j + 1)) : ab_F X d y_CS_rangeFrom (.code y_CS_rangeFrom b_CS_rangeFrom 6 (some (.int))) [vR r, vz x] G (fun oc G2 => ∃ w : Int, oc = .returned (some (vz w)) ∧ fx o o [] G G2 ∧ G2.length = G.length ∧ ab_slots G2 = ab_slots G ∧ cc o G2 r lr (ab_ob 1 [vR b, vz cnt]) ∧ cc o G2 b lb (za n f) ∧ (0 ≤ w ∧ w ≤ cnt) ∧ (∀ i : Int, 0 ≤ i → i < w → f (2 * i + 1) < x) ∧ (∀ i : Int, w ≤ i → i < cnt → x ≤ f (2 * i + 1))) := by
  refine ab_F_of (by decide +kernel) (Nat.le_of_ble_eq_true rfl) ?_
  obtain ⟨Q, hQ⟩ : ∃ z : Outcome → ab_G → Prop, z = (fun oc G2 => ∃ w : Int, oc = .returned (some (vz w)) ∧ fx o o [] G G2 ∧ G2.length = G.length ∧ ab_slots G2 = ab_slots G ∧ cc o G2 r lr (ab_ob 1 [vR b, vz cnt]) ∧ cc o G2 b lb (za n f) ∧ (0 ≤ w ∧ w ≤ cnt) ∧ (∀ i : Int, 0 ≤ i → i < w → f (2 * i + 1) < x) ∧ (∀ i : Int, w ≤ i → i < cnt → x ≤ f (2 * i + 1))) := ⟨_, rfl⟩
  rw [← hQ]
  change ab_W X (ab_pl y_CS_rangeFrom b_CS_rangeFrom 6 (some (.int))) d G 0 [some (vR r), some (vz x), none, none, none, none] [] Q
  have hfr : fx o o [] G G := fx.rf
  have hlen : G.length = G.length := rfl
  have hsl : ab_slots G = ab_slots G := rfl
  refine zz_iconst d_CS_rangeFrom_0 ?_
  refine ab_istore_n d_CS_rangeFrom_1 (Nat.le_of_ble_eq_true rfl) (Nat.le_of_ble_eq_true rfl) rfl ?_
  change ab_W _ _ _ G 2 [some (vR r), some (vz x), some (vz 0), none, none, none] [] _
  refine ab_aload_n d_CS_rangeFrom_2 rfl ?_
  refine ab_getf (fs := [vR b, vz cnt]) f_CS_15 d_CS_rangeFrom_3 hr.2.2 rfl ?_
  refine ab_istore_n d_CS_rangeFrom_6 (Nat.le_of_ble_eq_true rfl) (Nat.le_of_ble_eq_true rfl) rfl ?_
  change ab_W _ _ _ G 7 [some (vR r), some (vz x), some (vz 0), some (vz cnt), none, none] [] _
  refine zz_iconst d_CS_rangeFrom_7 ?_
  refine ab_istore d_CS_rangeFrom_8 (Nat.le_of_ble_eq_true rfl) (Nat.le_of_ble_eq_true rfl) rfl ?_
  change ab_W _ _ _ G 10 [some (vR r), some (vz x), some (vz 0), some (vz cnt), some (vz 0), none] [] _
  refine y_CS_rangeFrom_10 (r := r) (b := b) (lr := lr) (lb := lb) (n := n) (cnt := cnt) (f := f) (x := x) (low := 0) (high := cnt) (turn := 0) (j := 32) (p := 4294967296) (by omega) (by omega) hf (by omega) (Int.toNat (32 - 0) + 1) hr hb (by omega) (by decide) (by decide) (by omega) (fun i h1 h2 => absurd h2 (by omega)) (fun i h1 h2 => absurd h2 (by omega)) hfr hlen hsl (by omega) (fun G1 w2 hr hb hq3 hq4 hq5 hfr hlen hsl => ?_)
  · change ab_W _ _ _ G1 61 [none, none, some (vz w2), none, none, none] [] _
    refine ab_iload_n d_CS_rangeFrom_61 rfl ?_
    refine zz_iret rfl d_CS_rangeFrom_62 ?_
    rw [hQ]; exact ⟨_, rfl, hfr, hlen, hsl, hr, hb, (by omega), (by assumption), (by assumption)⟩
set_option maxRecDepth 100000 in
set_option maxHeartbeats 4000000 in
theorem z_CS_meets {X : ab_X} {d : Nat} {o : Nat → Nat} {G : ab_G} {r : Nat} {b : Nat} {lr : Nat} {lb : Nat} {n : Nat} {cnt : Int} {f : Int → Int} {lo : Int} {hi : Int} (hr : cc o G r lr (ab_ob 1 [vR b, vz cnt])) (hb : cc o G b lb (za n f)) (c0 : 0 ≤ cnt ∧ 2 * cnt ≤ ↑n ∧ ↑n ≤ (100000000 : Int)) (hC : cs_can f cnt) (cx : 0 ≤ lo ∧ lo ≤ hi ∧ hi ≤ 1114111) (hd : 1 ≤ d) : ab_F X d y_CS_meets (.code y_CS_meets b_CS_meets 4 (some (.boolean))) [vR r, vz lo, vz hi] G (fun oc G2 => (oc = .returned (some (vz 1)) ∧ fx o o [] G G2 ∧ G2.length = G.length ∧ ab_slots G2 = ab_slots G ∧ cc o G2 r lr (ab_ob 1 [vR b, vz cnt]) ∧ cc o G2 b lb (za n f) ∧ (∃ c : Int, lo ≤ c ∧ c ≤ hi ∧ cs_mem f cnt c)) ∨ (oc = .returned (some (vz 0)) ∧ fx o o [] G G2 ∧ G2.length = G.length ∧ ab_slots G2 = ab_slots G ∧ cc o G2 r lr (ab_ob 1 [vR b, vz cnt]) ∧ cc o G2 b lb (za n f) ∧ (∀ c : Int, lo ≤ c → c ≤ hi → ¬ cs_mem f cnt c))) := by
  refine ab_F_of (by decide +kernel) (Nat.le_of_ble_eq_true rfl) ?_
  obtain ⟨Q, hQ⟩ : ∃ z : Outcome → ab_G → Prop, z = (fun oc G2 => (oc = .returned (some (vz 1)) ∧ fx o o [] G G2 ∧ G2.length = G.length ∧ ab_slots G2 = ab_slots G ∧ cc o G2 r lr (ab_ob 1 [vR b, vz cnt]) ∧ cc o G2 b lb (za n f) ∧ (∃ c : Int, lo ≤ c ∧ c ≤ hi ∧ cs_mem f cnt c)) ∨ (oc = .returned (some (vz 0)) ∧ fx o o [] G G2 ∧ G2.length = G.length ∧ ab_slots G2 = ab_slots G ∧ cc o G2 r lr (ab_ob 1 [vR b, vz cnt]) ∧ cc o G2 b lb (za n f) ∧ (∀ c : Int, lo ≤ c → c ≤ hi → ¬ cs_mem f cnt c))) := ⟨_, rfl⟩
  rw [← hQ]
  change ab_W X (ab_pl y_CS_meets b_CS_meets 4 (some (.boolean))) d G 0 [some (vR r), some (vz lo), some (vz hi), none] [] Q
  have hfr : fx o o [] G G := fx.rf
  have hlen : G.length = G.length := rfl
  have hsl : ab_slots G = ab_slots G := rfl
  refine ab_aload_n d_CS_meets_0 rfl ?_
  refine ab_iload_n d_CS_meets_1 rfl ?_
  refine ab_callV (d' := d - 1) (as := [vz lo]) (st := []) (r := _) (z_CS_rangeFrom (o := o) (r := r) (b := b) (lr := lr) (lb := lb) (n := n) (cnt := cnt) (f := f) (x := lo) hr hb (by omega) (by omega) (cs_hf hC) (cs_hs hC)) (fun oc G2 h => by rcases h with ⟨_, h, _⟩ <;> exact ⟨_, h⟩) (by omega) m_CS_rangeFrom ml_CS_19 im_CS_rangeFrom se_CS_rangeFrom c_CS hr.2.2 (Nat.le_of_ble_eq_true rfl) d_CS_meets_2 rfl ?_
  intro v G1 hq
  rcases hq with ⟨w2, hv, hfk, hlk, hsk, hNr, hNb, hq3, hq4, hq5⟩
  cases hv
  have hfr := hfr.tr hfk (by decide)
  have hlen := hlk.trans hlen
  have hsl := hsk.trans hsl
  have hr := hNr
  have hb := hNb
  change ab_W _ _ _ G1 5 [some (vR r), some (vz lo), some (vz hi), none] [vz w2] _
  refine ab_istore_n d_CS_meets_5 (Nat.le_of_ble_eq_true rfl) (Nat.le_of_ble_eq_true rfl) rfl ?_
  change ab_W _ _ _ G1 6 [some (vR r), some (vz lo), some (vz hi), some (vz w2)] [] _
  refine ab_iload_n d_CS_meets_6 rfl ?_
  refine ab_aload_n d_CS_meets_7 rfl ?_
  refine ab_getf (fs := [vR b, vz cnt]) f_CS_15 d_CS_meets_8 hr.2.2 rfl ?_
  refine zz_icmp_ge (tgt := 30) d_CS_meets_11 (by decide) (by omega) (by omega) (fun c6 => ?_) (fun c6 => ?_)
  · refine zz_iconst d_CS_meets_30 ?_
    refine zz_bret rfl (by decide) d_CS_meets_31 ?_
    rw [hQ]; exact (Or.inr ⟨rfl, hfr, hlen, hsl, hr, hb, (by rintro c h1 h2 ⟨i, q0, q1, q2, q3⟩; by_cases z : i < w2; (have := hq4 i q0 z; omega); (first | omega | (rcases Int.lt_or_eq_of_le (show w2 ≤ i by omega) with y | y; (have := cs_lt hC (i := w2) (by omega) y q1; have := (hC w2 (by omega) (by omega)).2.1; omega); (rw [← y] at q2; omega))))⟩)
  · refine ab_aload_n d_CS_meets_14 rfl ?_
    refine ab_getf (fs := [vR b, vz cnt]) f_CS_9 d_CS_meets_15 hr.2.2 rfl ?_
    refine zz_iconst d_CS_meets_18 ?_
    refine ab_iload_n d_CS_meets_19 rfl ?_
    refine zz_imul d_CS_meets_20 ?_
    refine zz_iald d_CS_meets_21 hb (by omega) ?_
    have hq7 := (cs_hf hC) (2 * w2) (by omega) (by omega)
    refine ab_iload_n d_CS_meets_22 rfl ?_
    refine zz_icmp_gt (tgt := 30) d_CS_meets_23 (by decide) (by omega) (by omega) (fun c8 => ?_) (fun c8 => ?_)
    · refine zz_iconst d_CS_meets_30 ?_
      refine zz_bret rfl (by decide) d_CS_meets_31 ?_
      rw [hQ]; exact (Or.inr ⟨rfl, hfr, hlen, hsl, hr, hb, (by rintro c h1 h2 ⟨i, q0, q1, q2, q3⟩; by_cases z : i < w2; (have := hq4 i q0 z; omega); (first | omega | (rcases Int.lt_or_eq_of_le (show w2 ≤ i by omega) with y | y; (have := cs_lt hC (i := w2) (by omega) y q1; have := (hC w2 (by omega) (by omega)).2.1; omega); (rw [← y] at q2; omega))))⟩)
    · refine zz_iconst d_CS_meets_26 ?_
      refine ab_goto (tgt := 31) d_CS_meets_27 (by decide) ?_
      refine zz_bret rfl (by decide) d_CS_meets_31 ?_
      rw [hQ]; exact (Or.inl ⟨rfl, hfr, hlen, hsl, hr, hb, (by have q := hq5 w2 (by omega) (by omega); have q2 := hC w2 (by omega) (by omega); exact ⟨max lo (f (2 * w2)), by omega, by omega, w2, by omega, by omega, by omega, by omega⟩)⟩)
set_option maxRecDepth 100000 in
set_option maxHeartbeats 4000000 in
theorem y_CS_add_17 {X : ab_X} {d : Nat} {Q : Outcome → ab_G → Prop} {o0 : Nat → Nat} {G0 : ab_G} {r : Nat} {b : Nat} {lr : Nat} {lb : Nat} {n : Nat} {cnt : Int} {f : Int → Int} {lo : Int} {hi : Int} {s : Int} (c0 : 0 ≤ cnt ∧ 2 * cnt ≤ ↑n ∧ ↑n ≤ (100000000 : Int)) (cx : 0 ≤ lo ∧ lo ≤ hi ∧ hi ≤ 1114111) (cs : 0 ≤ s ∧ s ≤ cnt) (hC : cs_can f cnt) (hd : 1 ≤ d) : ∀ (mz : Nat) {G : ab_G} {o : Nat → Nat} {to : Int} {le : Int} {mo : Int}, (cc o G r lr (ab_ob 1 [vR b, vz cnt])) → (cc o G b lb (za n f)) → (s ≤ to ∧ to ≤ cnt ∧ 0 ≤ le ∧ le ≤ lo ∧ hi ≤ mo ∧ mo ≤ 1114111) → (to = s → le = lo ∧ mo = hi) → (s < to → le = min lo (f (2 * s)) ∧ mo = max hi (f (2 * (to - 1) + 1))) → (∀ i : Int, s ≤ i → i < to → f (2 * i) ≤ hi + 1) → (G.length = G0.length ∧ ab_slots G = ab_slots G0) → (fx o0 o [lr, lb] G0 G) → (Int.toNat (cnt - to) < mz) → (∀ (G2 : ab_G) (o2 : Nat → Nat) (w : Int) (le : Int) (mo : Int), (cc o2 G2 r lr (ab_ob 1 [vR b, vz cnt])) → (cc o2 G2 b lb (za n f)) → (s ≤ w ∧ w ≤ cnt ∧ 0 ≤ le ∧ le ≤ lo ∧ hi ≤ mo ∧ mo ≤ 1114111) → (w = s → le = lo ∧ mo = hi) → (s < w → le = min lo (f (2 * s)) ∧ mo = max hi (f (2 * (w - 1) + 1))) → (∀ i : Int, s ≤ i → i < w → f (2 * i) ≤ hi + 1) → (w < cnt → hi + 1 < f (2 * w)) → (G2.length = G0.length ∧ ab_slots G2 = ab_slots G0) → (fx o0 o2 [lr, lb] G0 G2) → ab_W X (ab_pl y_CS_add b_CS_add 7 none) d G2 81 [some (vR r), none, none, some (vz s), some (vz w), some (vz le), some (vz mo)] [] Q) → ab_W X (ab_pl y_CS_add b_CS_add 7 none) d G 17 [some (vR r), some (vz lo), some (vz hi), some (vz s), some (vz to), some (vz le), some (vz mo)] [] Q := by
  intro mz
  induction mz with
  | zero => intro G o to le mo hr hb c1 he hf2 hcc hG hfr hm hk0; exact absurd hm (Nat.not_lt_zero _)
  | succ mz ih =>
    intro G o to le mo hr hb c1 he hf2 hcc hG hfr hm hk0
    refine ab_iload d_CS_add_17 rfl ?_
    refine ab_aload_n d_CS_add_19 rfl ?_
    refine ab_getf (fs := [vR b, vz cnt]) f_CS_15 d_CS_add_20 hr.2.2 rfl ?_
    refine zz_icmp_ge (tgt := 81) d_CS_add_23 (by decide) (by omega) (by omega) (fun c1 => ?_) (fun c1 => ?_)
    · refine ab_less (L' := [some (vR r), none, none, some (vz s), some (vz to), some (vz le), some (vz mo)]) (fun i v h => by rcases i with _ | _ | _ | _ | _ | _ | _ | i <;> first | exact h | (simp at h)) ?_
      exact hk0 _ _ _ _ _ hr hb (by omega) (by assumption) (by assumption) (by assumption) (by intro hh; omega) (by omega) hfr
    · refine ab_aload_n d_CS_add_26 rfl ?_
      refine ab_getf (fs := [vR b, vz cnt]) f_CS_9 d_CS_add_27 hr.2.2 rfl ?_
      refine zz_iconst d_CS_add_30 ?_
      refine ab_iload d_CS_add_31 rfl ?_
      refine zz_imul d_CS_add_33 ?_
      refine zz_iald d_CS_add_34 hb (by omega) ?_
      have hq2 := (cs_hf hC) (2 * to) (by omega) (by omega)
      refine ab_iload_n d_CS_add_35 rfl ?_
      refine zz_iconst d_CS_add_36 ?_
      refine zz_iadd d_CS_add_37 ?_
      refine zz_icmp_gt (tgt := 81) d_CS_add_38 (by decide) (by omega) (by omega) (fun c3 => ?_) (fun c3 => ?_)
      · refine ab_less (L' := [some (vR r), none, none, some (vz s), some (vz to), some (vz le), some (vz mo)]) (fun i v h => by rcases i with _ | _ | _ | _ | _ | _ | _ | i <;> first | exact h | (simp at h)) ?_
        exact hk0 _ _ _ _ _ hr hb (by omega) (by assumption) (by assumption) (by assumption) (by intro hh; omega) (by omega) hfr
      · refine ab_iload d_CS_add_41 rfl ?_
        refine ab_aload_n d_CS_add_43 rfl ?_
        refine ab_getf (fs := [vR b, vz cnt]) f_CS_9 d_CS_add_44 hr.2.2 rfl ?_
        refine zz_iconst d_CS_add_47 ?_
        refine ab_iload d_CS_add_48 rfl ?_
        refine zz_imul d_CS_add_50 ?_
        refine zz_iald d_CS_add_51 hb (by omega) ?_
        have hq4 := (cs_hf hC) (2 * to) (by omega) (by omega)
        refine zz_mmin mj_CS_23 d_CS_add_52 (by omega) (by omega) (Nat.le_of_ble_eq_true rfl) (by omega) ?_
        obtain ⟨v5, hv5⟩ : ∃ z : Int, z = (min le (f (2 * to))) := ⟨_, rfl⟩
        rw [← hv5]
        have hv5 : (le ≤ (f (2 * to)) ∧ v5 = le) ∨ ((f (2 * to)) < le ∧ v5 = (f (2 * to))) := by omega
        change ab_W _ _ _ G 55 [some (vR r), some (vz lo), some (vz hi), some (vz s), some (vz to), some (vz le), some (vz mo)] [vz v5] _
        refine ab_istore d_CS_add_55 (Nat.le_of_ble_eq_true rfl) (Nat.le_of_ble_eq_true rfl) rfl ?_
        change ab_W _ _ _ G 57 [some (vR r), some (vz lo), some (vz hi), some (vz s), some (vz to), some (vz v5), some (vz mo)] [] _
        refine ab_iload d_CS_add_57 rfl ?_
        refine ab_aload_n d_CS_add_59 rfl ?_
        refine ab_getf (fs := [vR b, vz cnt]) f_CS_9 d_CS_add_60 hr.2.2 rfl ?_
        refine zz_iconst d_CS_add_63 ?_
        refine ab_iload d_CS_add_64 rfl ?_
        refine zz_imul d_CS_add_66 ?_
        refine zz_iconst d_CS_add_67 ?_
        refine zz_iadd d_CS_add_68 ?_
        refine zz_iald d_CS_add_69 hb (by omega) ?_
        have hq6 := (cs_hf hC) ((2 * to) + 1) (by omega) (by omega)
        refine zz_mmax mj_CS_29 d_CS_add_70 (by omega) (by omega) (Nat.le_of_ble_eq_true rfl) (by omega) ?_
        obtain ⟨v7, hv7⟩ : ∃ z : Int, z = (max mo (f ((2 * to) + 1))) := ⟨_, rfl⟩
        rw [← hv7]
        have hv7 : (mo ≤ (f ((2 * to) + 1)) ∧ v7 = (f ((2 * to) + 1))) ∨ ((f ((2 * to) + 1)) < mo ∧ v7 = mo) := by omega
        change ab_W _ _ _ G 73 [some (vR r), some (vz lo), some (vz hi), some (vz s), some (vz to), some (vz v5), some (vz mo)] [vz v7] _
        refine ab_istore d_CS_add_73 (Nat.le_of_ble_eq_true rfl) (Nat.le_of_ble_eq_true rfl) rfl ?_
        change ab_W _ _ _ G 75 [some (vR r), some (vz lo), some (vz hi), some (vz s), some (vz to), some (vz v5), some (vz v7)] [] _
        refine zz_iinc d_CS_add_75 rfl (Nat.le_of_ble_eq_true rfl) (Nat.le_of_ble_eq_true rfl) rfl ?_
        change ab_W _ _ _ G 78 [some (vR r), some (vz lo), some (vz hi), some (vz s), some (vz (to + 1)), some (vz v5), some (vz v7)] [] _
        refine ab_goto (tgt := 17) d_CS_add_78 (by decide) ?_
        exact ih (to := (to + 1)) (le := v5) (mo := v7) hr hb (by omega) (fun h => absurd h (by omega)) (fun _ => by rw [show (to + 1) - 1 = to by omega]; rcases Int.lt_or_eq_of_le (show s ≤ to by omega) with z | z; (have q1 := hf2 z; have q2 := cs_hs hC (to - 1) to (by omega) (by omega) (by omega); have q3 := cs_lt hC (i := s) (by omega) z (by omega); have q4 := (hC s (by omega) (by omega)).2.1; omega); (have q1 := he z.symm; have q2 : f (2 * to) = f (2 * s) := congrArg (fun u => f (2 * u)) z.symm; have q3 : f (2 * to + 1) = f (2 * s + 1) := congrArg (fun u => f (2 * u + 1)) z.symm; omega)) (fun i h1 h2 => by rcases Int.lt_or_eq_of_le (show i ≤ to by omega) with z | z; (exact hcc i h1 z); (rw [z]; omega)) (by omega) hfr (by omega) hk0
set_option maxRecDepth 100000 in
set_option maxHeartbeats 4000000 in
theorem z_CS_add {X : ab_X} {d : Nat} {o : Nat → Nat} {G : ab_G} {r : Nat} {b : Nat} {lr : Nat} {lb : Nat} {n : Nat} {cnt : Int} {f : Int → Int} {lo : Int} {hi : Int} (hr : cc o G r lr (ab_ob 1 [vR b, vz cnt])) (hb : cc o G b lb (za n f)) (c0 : 0 ≤ cnt ∧ 2 * cnt ≤ ↑n ∧ ↑n ≤ (100000000 : Int)) (cx : 0 ≤ lo ∧ lo ≤ hi ∧ hi ≤ 1114111) (hC : cs_can f cnt) (cl : ab_n0 ≤ lr ∧ ab_n0 ≤ lb ∧ lr ≠ lb) (c6 : 64 ≤ n) (rc : G.length + 1 ≤ ab_n0 + room_1.cells) (rs : ↑n < 2 * cnt + 2 → ab_slots G + 2 * n ≤ room_1.slots) (hd : 4 ≤ d) : ab_F X d y_CS_add (.code y_CS_add b_CS_add 7 none) [vR r, vz lo, vz hi] G (fun oc G2 => ∃ o2 : Nat → Nat, ∃ b2 : Nat, ∃ n2 : Nat, ∃ c2 : Int, ∃ f2 : Int → Int, oc = .returned none ∧ fx o o2 [lr, lb] G G2 ∧ cc o2 G2 r lr (ab_ob 1 [vR b2, vz c2]) ∧ cc o2 G2 b2 lb (za n2 f2) ∧ (cs_can f2 c2) ∧ (∀ c : Int, cs_mem f2 c2 c ↔ cs_mem f cnt c ∨ (lo ≤ c ∧ c ≤ hi)) ∧ (0 ≤ c2 ∧ c2 ≤ cnt + 1 ∧ 2 * c2 ≤ (↑n2 : Int)) ∧ (n2 = n ∨ (n2 = 2 * n ∧ ↑n < 2 * cnt + 2)) ∧ (64 * G2.length + n ≤ 64 * G.length + n2) ∧ (ab_slots G2 + 2 * n ≤ ab_slots G + 2 * n2)) := by
  refine ab_F_of (by decide +kernel) (Nat.le_of_ble_eq_true rfl) ?_
  obtain ⟨Q, hQ⟩ : ∃ z : Outcome → ab_G → Prop, z = (fun oc G2 => ∃ o2 : Nat → Nat, ∃ b2 : Nat, ∃ n2 : Nat, ∃ c2 : Int, ∃ f2 : Int → Int, oc = .returned none ∧ fx o o2 [lr, lb] G G2 ∧ cc o2 G2 r lr (ab_ob 1 [vR b2, vz c2]) ∧ cc o2 G2 b2 lb (za n2 f2) ∧ (cs_can f2 c2) ∧ (∀ c : Int, cs_mem f2 c2 c ↔ cs_mem f cnt c ∨ (lo ≤ c ∧ c ≤ hi)) ∧ (0 ≤ c2 ∧ c2 ≤ cnt + 1 ∧ 2 * c2 ≤ (↑n2 : Int)) ∧ (n2 = n ∨ (n2 = 2 * n ∧ ↑n < 2 * cnt + 2)) ∧ (64 * G2.length + n ≤ 64 * G.length + n2) ∧ (ab_slots G2 + 2 * n ≤ ab_slots G + 2 * n2)) := ⟨_, rfl⟩
  rw [← hQ]
  change ab_W X (ab_pl y_CS_add b_CS_add 7 none) d G 0 [some (vR r), some (vz lo), some (vz hi), none, none, none, none] [] Q
  have hfr : fx o o [lr, lb] G G := fx.rf
  refine ab_aload_n d_CS_add_0 rfl ?_
  refine ab_iload_n d_CS_add_1 rfl ?_
  refine zz_iconst d_CS_add_2 ?_
  refine zz_isub d_CS_add_3 ?_
  refine ab_callV (d' := d - 1) (as := [vz (lo - 1)]) (st := []) (r := _) (z_CS_rangeFrom (o := o) (r := r) (b := b) (lr := lr) (lb := lb) (n := n) (cnt := cnt) (f := f) (x := (lo - 1)) hr hb (by omega) (by omega) (cs_hf hC) (cs_hs hC)) (fun oc G2 h => by rcases h with ⟨_, h, _⟩ <;> exact ⟨_, h⟩) (by omega) m_CS_rangeFrom ml_CS_19 im_CS_rangeFrom se_CS_rangeFrom c_CS hr.2.2 (Nat.le_of_ble_eq_true rfl) d_CS_add_4 rfl ?_
  intro v G1 hq
  rcases hq with ⟨w2, hv, hfk, hlk, hsk, hNr, hNb, hq3, hq4, hq5⟩
  cases hv
  have hfr := hfr.tr hfk (fun _ h => absurd h List.not_mem_nil)
  have hq6 := hlk
  have hq7 := hsk
  have hr := hNr
  have hb := hNb
  change ab_W _ _ _ G1 7 [some (vR r), some (vz lo), some (vz hi), none, none, none, none] [vz w2] _
  refine ab_istore_n d_CS_add_7 (Nat.le_of_ble_eq_true rfl) (Nat.le_of_ble_eq_true rfl) rfl ?_
  change ab_W _ _ _ G1 8 [some (vR r), some (vz lo), some (vz hi), some (vz w2), none, none, none] [] _
  refine ab_iload_n d_CS_add_8 rfl ?_
  refine ab_istore d_CS_add_9 (Nat.le_of_ble_eq_true rfl) (Nat.le_of_ble_eq_true rfl) rfl ?_
  change ab_W _ _ _ G1 11 [some (vR r), some (vz lo), some (vz hi), some (vz w2), some (vz w2), none, none] [] _
  refine ab_iload_n d_CS_add_11 rfl ?_
  refine ab_istore d_CS_add_12 (Nat.le_of_ble_eq_true rfl) (Nat.le_of_ble_eq_true rfl) rfl ?_
  change ab_W _ _ _ G1 14 [some (vR r), some (vz lo), some (vz hi), some (vz w2), some (vz w2), some (vz lo), none] [] _
  refine ab_iload_n d_CS_add_14 rfl ?_
  refine ab_istore d_CS_add_15 (Nat.le_of_ble_eq_true rfl) (Nat.le_of_ble_eq_true rfl) rfl ?_
  change ab_W _ _ _ G1 17 [some (vR r), some (vz lo), some (vz hi), some (vz w2), some (vz w2), some (vz lo), some (vz hi)] [] _
  refine y_CS_add_17 (r := r) (b := b) (lr := lr) (lb := lb) (n := n) (cnt := cnt) (f := f) (lo := lo) (hi := hi) (s := w2) (to := w2) (le := lo) (mo := hi) (by omega) (by omega) (by omega) hC (by omega) (Int.toNat (cnt - w2) + 1) hr hb (by omega) (fun _ => ⟨rfl, rfl⟩) (fun h => absurd h (by omega)) (fun i h1 h2 => absurd h2 (by omega)) (by omega) hfr (by omega) (fun G8 o9 w10 le11 mo12 hr hb hq13 hq14 hq15 hq16 hq17 hq18 hfr => ?_)
  · change ab_W _ _ _ G8 81 [some (vR r), none, none, some (vz w2), some (vz w10), some (vz le11), some (vz mo12)] [] _
    refine zz_iconst d_CS_add_81 ?_
    refine ab_aload_n d_CS_add_82 rfl ?_
    refine ab_getf (fs := [vR b, vz cnt]) f_CS_15 d_CS_add_83 hr.2.2 rfl ?_
    refine zz_imul d_CS_add_86 ?_
    refine zz_iconst d_CS_add_87 ?_
    refine zz_iadd d_CS_add_88 ?_
    refine ab_aload_n d_CS_add_89 rfl ?_
    refine ab_getf (fs := [vR b, vz cnt]) f_CS_9 d_CS_add_90 hr.2.2 rfl ?_
    refine zz_alen d_CS_add_93 hb ?_
    refine zz_icmp_le (tgt := 115) d_CS_add_94 (by decide) (by omega) (by omega) (fun c19 => ?_) (fun c19 => ?_)
    · refine ab_aload_n d_CS_add_115 rfl ?_
      refine ab_getf (fs := [vR b, vz cnt]) f_CS_9 d_CS_add_116 hr.2.2 rfl ?_
      refine zz_iconst d_CS_add_119 ?_
      refine ab_iload d_CS_add_120 rfl ?_
      refine zz_imul d_CS_add_122 ?_
      refine ab_aload_n d_CS_add_123 rfl ?_
      refine ab_getf (fs := [vR b, vz cnt]) f_CS_9 d_CS_add_124 hr.2.2 rfl ?_
      refine zz_iconst d_CS_add_127 ?_
      refine ab_iload_n d_CS_add_128 rfl ?_
      refine zz_imul d_CS_add_129 ?_
      refine zz_iconst d_CS_add_130 ?_
      refine zz_iadd d_CS_add_131 ?_
      refine zz_iconst d_CS_add_132 ?_
      refine ab_aload_n d_CS_add_133 rfl ?_
      refine ab_getf (fs := [vR b, vz cnt]) f_CS_15 d_CS_add_134 hr.2.2 rfl ?_
      refine ab_iload d_CS_add_137 rfl ?_
      refine zz_isub d_CS_add_139 ?_
      refine zz_imul d_CS_add_140 ?_
      refine zz_copy mj_CS_38 d_CS_add_141 hb hb (hb.2.1 (by first | omega | exact (show 18 ≤ _ by omega))) (by omega) (Nat.le_of_ble_eq_true rfl) (by omega) ?_
      obtain ⟨G20, eG20⟩ : ∃ z : ab_G, z = List.set G8 b (za n (zcpy f f (2 * w10) ((2 * w2) + 2) (2 * (cnt - w10)))) := ⟨_, rfl⟩
      have hr := hr.keep hb eG20 (by omega)
      have hq21 := z_len eG20
      have hq22 := z_sl hb eG20 rfl
      have hfr := hfr.wr hb eG20 (by simp)
      have hb := hb.kept eG20
      change ab_W _ _ _ (List.set G8 b (za n (zcpy f f (2 * w10) ((2 * w2) + 2) (2 * (cnt - w10))))) 144 [some (vR r), none, none, some (vz w2), some (vz w10), some (vz le11), some (vz mo12)] [] _
      rw [← eG20]
      refine ab_aload_n d_CS_add_144 rfl ?_
      refine ab_getf (fs := [vR b, vz cnt]) f_CS_9 d_CS_add_145 hr.2.2 rfl ?_
      refine zz_iconst d_CS_add_148 ?_
      refine ab_iload_n d_CS_add_149 rfl ?_
      refine zz_imul d_CS_add_150 ?_
      refine ab_iload d_CS_add_151 rfl ?_
      refine zz_iast d_CS_add_153 hb (by omega) (hb.2.1 (by first | omega | exact (show 18 ≤ _ by omega))) ?_
      obtain ⟨G23, eG23⟩ : ∃ z : ab_G, z = List.set G20 b (za n (zu (zcpy f f (2 * w10) ((2 * w2) + 2) (2 * (cnt - w10))) (2 * w2) le11)) := ⟨_, rfl⟩
      have hr := hr.keep hb eG23 (by omega)
      have hq24 := z_len eG23
      have hq25 := z_sl hb eG23 rfl
      have hfr := hfr.wr hb eG23 (by simp)
      have hb := hb.kept eG23
      change ab_W _ _ _ (List.set G20 b (za n (zu (zcpy f f (2 * w10) ((2 * w2) + 2) (2 * (cnt - w10))) (2 * w2) le11))) 154 [some (vR r), none, none, some (vz w2), some (vz w10), some (vz le11), some (vz mo12)] [] _
      rw [← eG23]
      refine ab_aload_n d_CS_add_154 rfl ?_
      refine ab_getf (fs := [vR b, vz cnt]) f_CS_9 d_CS_add_155 hr.2.2 rfl ?_
      refine zz_iconst d_CS_add_158 ?_
      refine ab_iload_n d_CS_add_159 rfl ?_
      refine zz_imul d_CS_add_160 ?_
      refine zz_iconst d_CS_add_161 ?_
      refine zz_iadd d_CS_add_162 ?_
      refine ab_iload d_CS_add_163 rfl ?_
      refine zz_iast d_CS_add_165 hb (by omega) (hb.2.1 (by first | omega | exact (show 18 ≤ _ by omega))) ?_
      obtain ⟨G26, eG26⟩ : ∃ z : ab_G, z = List.set G23 b (za n (zu (zu (zcpy f f (2 * w10) ((2 * w2) + 2) (2 * (cnt - w10))) (2 * w2) le11) ((2 * w2) + 1) mo12)) := ⟨_, rfl⟩
      have hr := hr.keep hb eG26 (by omega)
      have hq27 := z_len eG26
      have hq28 := z_sl hb eG26 rfl
      have hfr := hfr.wr hb eG26 (by simp)
      have hb := hb.kept eG26
      change ab_W _ _ _ (List.set G23 b (za n (zu (zu (zcpy f f (2 * w10) ((2 * w2) + 2) (2 * (cnt - w10))) (2 * w2) le11) ((2 * w2) + 1) mo12))) 166 [some (vR r), none, none, some (vz w2), some (vz w10), some (vz le11), some (vz mo12)] [] _
      rw [← eG26]
      refine ab_aload_n d_CS_add_166 rfl ?_
      refine ab_dup d_CS_add_167 rfl ?_
      refine ab_getf (fs := [vR b, vz cnt]) f_CS_15 d_CS_add_168 hr.2.2 rfl ?_
      refine zz_iconst d_CS_add_171 ?_
      refine ab_iload d_CS_add_172 rfl ?_
      refine ab_iload_n d_CS_add_174 rfl ?_
      refine zz_isub d_CS_add_175 ?_
      refine zz_isub d_CS_add_176 ?_
      refine zz_iadd d_CS_add_177 ?_
      refine ab_putf (fs := [vR b, vz cnt]) f_CS_15 (Or.inl rfl) d_CS_add_178 hr.2.2 (Nat.le_of_ble_eq_true rfl) (fun _ => ⟨rfl, rfl⟩) (hr.2.1 (by first | omega | exact (show 18 ≤ _ by omega))) ?_
      obtain ⟨G29, eG29⟩ : ∃ z : ab_G, z = List.set G26 r (ab_ob 1 [vR b, vz (cnt + (1 - (w10 - w2)))]) := ⟨_, rfl⟩
      have hb := hb.keep hr eG29 (by omega)
      have hq30 := z_len eG29
      have hq31 := z_sl hr eG29 rfl
      have hfr := hfr.wr hr eG29 (by simp)
      have hr := hr.kept eG29
      change ab_W _ _ _ (List.set G26 r (ab_ob 1 [vR b, vz (cnt + (1 - (w10 - w2)))])) 181 [some (vR r), none, none, some (vz w2), some (vz w10), some (vz le11), some (vz mo12)] [] _
      rw [← eG29]
      have hput : cs_can (zu (zu (zcpy f f (2 * w10) ((2 * w2) + 2) (2 * (cnt - w10))) (2 * w2) le11) ((2 * w2) + 1) mo12) (cnt + (1 - (w10 - w2))) ∧ ∀ c : Int, cs_mem (zu (zu (zcpy f f (2 * w10) ((2 * w2) + 2) (2 * (cnt - w10))) (2 * w2) le11) ((2 * w2) + 1) mo12) (cnt + (1 - (w10 - w2))) c ↔ cs_mem f cnt c ∨ (lo ≤ c ∧ c ≤ hi) := by rw [show (cnt + (1 - (w10 - w2))) = cnt + 1 - (w10 - w2) by omega]; exact cs_put (s := w2) (t := w10) (le := le11) (mo := mo12) hC (by omega) (by omega) (by omega) (by omega) (by omega) (by omega) hq4 hq5 hq16 hq17 hq14 hq15 (by intro k h1 h2; simp only [zu, zcpy]; (repeat' split) <;> first | omega | rfl | (congr 1; omega)) (by rw [zu_ne (by omega), zu_self]) (zu_self _ _ _) (by intro k h1 h2; simp only [zu, zcpy]; (repeat' split) <;> first | omega | rfl | (congr 1; omega))
      refine ab_vret rfl d_CS_add_181 ?_
      rw [hQ]; exact ⟨_, _, _, _, _, rfl, hfr, hr, hb, (by exact hput.1), (by exact hput.2), (by omega), (by omega), (by omega), (by omega)⟩
    · have rs_ := rs (by omega)
      refine ab_aload_n d_CS_add_97 rfl ?_
      refine ab_aload_n d_CS_add_98 rfl ?_
      refine ab_getf (fs := [vR b, vz cnt]) f_CS_9 d_CS_add_99 hr.2.2 rfl ?_
      refine zz_iconst d_CS_add_102 ?_
      refine ab_aload_n d_CS_add_103 rfl ?_
      refine ab_getf (fs := [vR b, vz cnt]) f_CS_9 d_CS_add_104 hr.2.2 rfl ?_
      refine zz_alen d_CS_add_107 hb ?_
      refine zz_imul d_CS_add_108 ?_
      obtain ⟨w32, hw32⟩ : ∃ z : Nat, (z : Int) = (2 * (↑n : Int)) := ⟨Int.toNat (2 * (↑n : Int)), by omega⟩
      refine ab_callS (d' := d - 1) (as := [vR b, vz (2 * (↑n : Int))]) (st := [vR r]) (z_AR_copyOf (o := o9) (a := b) (l := lb) (k := lb) (n := n) (w := w32) (m := (2 * (↑n : Int))) (f := f) hb (by omega) (by omega) (by omega) (by have h18 : ab_n0 = 18 := rfl; omega) (by omega) (by omega)) (fun oc G2 h => by rcases h with ⟨_, _, h, _⟩ | ⟨_, _, h, _⟩ <;> exact ⟨_, h⟩) (by omega) m_AR_copyOf ml_CS_32 st_AR_copyOf (Nat.le_of_ble_eq_true rfl) d_CS_add_109 rfl ?_
      intro v G33 hq
      rcases hq with ⟨o34, b35, hv, hfk, hNb35, hq36, hq37, hq38, hq39⟩ | ⟨o40, b41, hv, hfk, hNb41, hq42, hq43, hq44, hq45⟩
      · cases hv
        have ne_b35_r : nq b35 r := by have hlt := hr.lt; unfold nq; omega
        have ne_b35_b : nq b35 b := by have hlt := hb.lt; unfold nq; omega
        have hr := hfk.get hr (by simp)
        have hb := hfk.get hb (by simp)
        have hfr := hfr.tr hfk (fun _ h => absurd h List.not_mem_nil)
        have hq46 := hfk.1
        have hb35 := hNb35
        change ab_W _ _ _ G33 112 [some (vR r), none, none, some (vz w2), some (vz w10), some (vz le11), some (vz mo12)] [vR b35, vR r] _
        refine ab_putf (fs := [vR b, vz cnt]) f_CS_9 (Or.inl rfl) d_CS_add_112 hr.2.2 (Nat.le_of_ble_eq_true rfl) (fun _ => ⟨rfl, rfl⟩) (hr.2.1 (by first | omega | exact (show 18 ≤ _ by omega))) ?_
        obtain ⟨G48, eG48⟩ : ∃ z : ab_G, z = List.set G33 r (ab_ob 1 [vR b35, vz cnt]) := ⟨_, rfl⟩
        have hb := hb.keep hr eG48 (by omega)
        have hb35 := hb35.keep' eG48 (nq.s ne_b35_r)
        have hq49 := z_len eG48
        have hq50 := z_sl hr eG48 rfl
        have hfr := hfr.wr hr eG48 (by simp)
        have hr := hr.kept eG48
        change ab_W _ _ _ (List.set G33 r (ab_ob 1 [vR b35, vz cnt])) 115 [some (vR r), none, none, some (vz w2), some (vz w10), some (vz le11), some (vz mo12)] [] _
        rw [← eG48]
        refine ab_aload_n d_CS_add_115 rfl ?_
        refine ab_getf (fs := [vR b35, vz cnt]) f_CS_9 d_CS_add_116 hr.2.2 rfl ?_
        refine zz_iconst d_CS_add_119 ?_
        refine ab_iload d_CS_add_120 rfl ?_
        refine zz_imul d_CS_add_122 ?_
        refine ab_aload_n d_CS_add_123 rfl ?_
        refine ab_getf (fs := [vR b35, vz cnt]) f_CS_9 d_CS_add_124 hr.2.2 rfl ?_
        refine zz_iconst d_CS_add_127 ?_
        refine ab_iload_n d_CS_add_128 rfl ?_
        refine zz_imul d_CS_add_129 ?_
        refine zz_iconst d_CS_add_130 ?_
        refine zz_iadd d_CS_add_131 ?_
        refine zz_iconst d_CS_add_132 ?_
        refine ab_aload_n d_CS_add_133 rfl ?_
        refine ab_getf (fs := [vR b35, vz cnt]) f_CS_15 d_CS_add_134 hr.2.2 rfl ?_
        refine ab_iload d_CS_add_137 rfl ?_
        refine zz_isub d_CS_add_139 ?_
        refine zz_imul d_CS_add_140 ?_
        refine zz_copy mj_CS_38 d_CS_add_141 hb35 hb35 (hb35.2.1 (by first | omega | exact (show 18 ≤ _ by omega))) (by omega) (Nat.le_of_ble_eq_true rfl) (by omega) ?_
        obtain ⟨G51, eG51⟩ : ∃ z : ab_G, z = List.set G48 b35 (za w32 (zcpy (zcpy f (fun _ => 0) 0 0 ↑n) (zcpy f (fun _ => 0) 0 0 ↑n) (2 * w10) ((2 * w2) + 2) (2 * (cnt - w10)))) := ⟨_, rfl⟩
        have hr := hr.keep' eG51 ne_b35_r
        have hb := hb.keep' eG51 ne_b35_b
        have hq52 := z_len eG51
        have hq53 := z_sl hb35 eG51 rfl
        have hfr := hfr.wn (show G.length ≤ b35 by have := hfr.1; omega) eG51
        have hb35 := hb35.kept eG51
        change ab_W _ _ _ (List.set G48 b35 (za w32 (zcpy (zcpy f (fun _ => 0) 0 0 ↑n) (zcpy f (fun _ => 0) 0 0 ↑n) (2 * w10) ((2 * w2) + 2) (2 * (cnt - w10))))) 144 [some (vR r), none, none, some (vz w2), some (vz w10), some (vz le11), some (vz mo12)] [] _
        rw [← eG51]
        refine ab_aload_n d_CS_add_144 rfl ?_
        refine ab_getf (fs := [vR b35, vz cnt]) f_CS_9 d_CS_add_145 hr.2.2 rfl ?_
        refine zz_iconst d_CS_add_148 ?_
        refine ab_iload_n d_CS_add_149 rfl ?_
        refine zz_imul d_CS_add_150 ?_
        refine ab_iload d_CS_add_151 rfl ?_
        refine zz_iast d_CS_add_153 hb35 (by omega) (hb35.2.1 (by first | omega | exact (show 18 ≤ _ by omega))) ?_
        obtain ⟨G54, eG54⟩ : ∃ z : ab_G, z = List.set G51 b35 (za w32 (zu (zcpy (zcpy f (fun _ => 0) 0 0 ↑n) (zcpy f (fun _ => 0) 0 0 ↑n) (2 * w10) ((2 * w2) + 2) (2 * (cnt - w10))) (2 * w2) le11)) := ⟨_, rfl⟩
        have hr := hr.keep' eG54 ne_b35_r
        have hb := hb.keep' eG54 ne_b35_b
        have hq55 := z_len eG54
        have hq56 := z_sl hb35 eG54 rfl
        have hfr := hfr.wn (show G.length ≤ b35 by have := hfr.1; omega) eG54
        have hb35 := hb35.kept eG54
        change ab_W _ _ _ (List.set G51 b35 (za w32 (zu (zcpy (zcpy f (fun _ => 0) 0 0 ↑n) (zcpy f (fun _ => 0) 0 0 ↑n) (2 * w10) ((2 * w2) + 2) (2 * (cnt - w10))) (2 * w2) le11))) 154 [some (vR r), none, none, some (vz w2), some (vz w10), some (vz le11), some (vz mo12)] [] _
        rw [← eG54]
        refine ab_aload_n d_CS_add_154 rfl ?_
        refine ab_getf (fs := [vR b35, vz cnt]) f_CS_9 d_CS_add_155 hr.2.2 rfl ?_
        refine zz_iconst d_CS_add_158 ?_
        refine ab_iload_n d_CS_add_159 rfl ?_
        refine zz_imul d_CS_add_160 ?_
        refine zz_iconst d_CS_add_161 ?_
        refine zz_iadd d_CS_add_162 ?_
        refine ab_iload d_CS_add_163 rfl ?_
        refine zz_iast d_CS_add_165 hb35 (by omega) (hb35.2.1 (by first | omega | exact (show 18 ≤ _ by omega))) ?_
        obtain ⟨G57, eG57⟩ : ∃ z : ab_G, z = List.set G54 b35 (za w32 (zu (zu (zcpy (zcpy f (fun _ => 0) 0 0 ↑n) (zcpy f (fun _ => 0) 0 0 ↑n) (2 * w10) ((2 * w2) + 2) (2 * (cnt - w10))) (2 * w2) le11) ((2 * w2) + 1) mo12)) := ⟨_, rfl⟩
        have hr := hr.keep' eG57 ne_b35_r
        have hb := hb.keep' eG57 ne_b35_b
        have hq58 := z_len eG57
        have hq59 := z_sl hb35 eG57 rfl
        have hfr := hfr.wn (show G.length ≤ b35 by have := hfr.1; omega) eG57
        have hb35 := hb35.kept eG57
        change ab_W _ _ _ (List.set G54 b35 (za w32 (zu (zu (zcpy (zcpy f (fun _ => 0) 0 0 ↑n) (zcpy f (fun _ => 0) 0 0 ↑n) (2 * w10) ((2 * w2) + 2) (2 * (cnt - w10))) (2 * w2) le11) ((2 * w2) + 1) mo12))) 166 [some (vR r), none, none, some (vz w2), some (vz w10), some (vz le11), some (vz mo12)] [] _
        rw [← eG57]
        refine ab_aload_n d_CS_add_166 rfl ?_
        refine ab_dup d_CS_add_167 rfl ?_
        refine ab_getf (fs := [vR b35, vz cnt]) f_CS_15 d_CS_add_168 hr.2.2 rfl ?_
        refine zz_iconst d_CS_add_171 ?_
        refine ab_iload d_CS_add_172 rfl ?_
        refine ab_iload_n d_CS_add_174 rfl ?_
        refine zz_isub d_CS_add_175 ?_
        refine zz_isub d_CS_add_176 ?_
        refine zz_iadd d_CS_add_177 ?_
        refine ab_putf (fs := [vR b35, vz cnt]) f_CS_15 (Or.inl rfl) d_CS_add_178 hr.2.2 (Nat.le_of_ble_eq_true rfl) (fun _ => ⟨rfl, rfl⟩) (hr.2.1 (by first | omega | exact (show 18 ≤ _ by omega))) ?_
        obtain ⟨G60, eG60⟩ : ∃ z : ab_G, z = List.set G57 r (ab_ob 1 [vR b35, vz (cnt + (1 - (w10 - w2)))]) := ⟨_, rfl⟩
        have hb := hb.keep hr eG60 (by omega)
        have hb35 := hb35.keep' eG60 (nq.s ne_b35_r)
        have hq61 := z_len eG60
        have hq62 := z_sl hr eG60 rfl
        have hfr := hfr.wr hr eG60 (by simp)
        have hr := hr.kept eG60
        change ab_W _ _ _ (List.set G57 r (ab_ob 1 [vR b35, vz (cnt + (1 - (w10 - w2)))])) 181 [some (vR r), none, none, some (vz w2), some (vz w10), some (vz le11), some (vz mo12)] [] _
        rw [← eG60]
        have hput : cs_can (zu (zu (zcpy (zcpy f (fun _ => 0) 0 0 ↑n) (zcpy f (fun _ => 0) 0 0 ↑n) (2 * w10) ((2 * w2) + 2) (2 * (cnt - w10))) (2 * w2) le11) ((2 * w2) + 1) mo12) (cnt + (1 - (w10 - w2))) ∧ ∀ c : Int, cs_mem (zu (zu (zcpy (zcpy f (fun _ => 0) 0 0 ↑n) (zcpy f (fun _ => 0) 0 0 ↑n) (2 * w10) ((2 * w2) + 2) (2 * (cnt - w10))) (2 * w2) le11) ((2 * w2) + 1) mo12) (cnt + (1 - (w10 - w2))) c ↔ cs_mem f cnt c ∨ (lo ≤ c ∧ c ≤ hi) := by rw [show (cnt + (1 - (w10 - w2))) = cnt + 1 - (w10 - w2) by omega]; exact cs_put (s := w2) (t := w10) (le := le11) (mo := mo12) hC (by omega) (by omega) (by omega) (by omega) (by omega) (by omega) hq4 hq5 hq16 hq17 hq14 hq15 (by intro k h1 h2; simp only [zu, zcpy]; (repeat' split) <;> first | omega | rfl | (congr 1; omega)) (by rw [zu_ne (by omega), zu_self]) (zu_self _ _ _) (by intro k h1 h2; simp only [zu, zcpy]; (repeat' split) <;> first | omega | rfl | (congr 1; omega))
        refine ab_vret rfl d_CS_add_181 ?_
        rw [hQ]; exact ⟨_, _, _, _, _, rfl, hfr, hr, hb35, (by exact hput.1), (by exact hput.2), (by omega), (by omega), (by omega), (by omega)⟩
      · cases hv
        have ne_b41_r : nq b41 r := by have hlt := hr.lt; unfold nq; omega
        have ne_b41_b : nq b41 b := by have hlt := hb.lt; unfold nq; omega
        have hr := hfk.get hr (by simp)
        have hb := hfk.get hb (by simp)
        have hfr := hfr.tr hfk (fun _ h => absurd h List.not_mem_nil)
        have hq47 := hfk.1
        have hb41 := hNb41
        change ab_W _ _ _ G33 112 [some (vR r), none, none, some (vz w2), some (vz w10), some (vz le11), some (vz mo12)] [vR b41, vR r] _
        exfalso; omega
