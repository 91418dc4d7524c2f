set_option maxRecDepth 100000 in
set_option maxHeartbeats 4000000 in
theorem y_CS_ranges_55 {X : ab_X} {d : Nat} {Q : Outcome → ab_G → Prop} {o0 : Nat → Nat} {G0 : ab_G} {r : Nat} {p : Nat} {lp : Nat} {w : Nat} {q : Int → Int} {mm : Int} {t : Nat} {lt : Nat} {w2 : Nat} (kq : ↑w = 2 * mm ∧ 0 ≤ mm ∧ mm ≤ 25000 ∧ ↑w2 = 2 * mm + 2 ∧ ab_n0 ≤ lt ∧ lp < lt) (hq : cs_can q mm) (hd : 1 ≤ d) : ∀ (mz : Nat) {G : ab_G} {o : Nat → Nat} {h : Int → Int} {us : Int} {i : Int} {u : Int} {v : Int}, (cc o G p lp (za w q)) → (cc o G t lt (za w2 h)) → (i = 2 * u) → (us = 2 * v) → (0 ≤ u ∧ u ≤ mm ∧ 0 ≤ v ∧ v ≤ mm + 1) → (cs_cut q h u v) → (G.length = G0.length ∧ ab_slots G = ab_slots G0) → (fx o0 o [lt] G0 G) → (Int.toNat (mm - u) < mz) → (∀ (G2 : ab_G) (o2 : Nat → Nat) (h : Int → Int) (v : Int), (cc o2 G2 t lt (za w2 h)) → (0 ≤ v ∧ v ≤ mm + 1) → (cs_cut q h mm v) → (G2.length = G0.length ∧ ab_slots G2 = ab_slots G0) → (fx o0 o2 [lt] G0 G2) → ab_W X (ab_pl y_CS_ranges b_CS_ranges 6 (some (.array .int))) d G2 146 [none, none, none, some (vR t), some (vz (2 * v)), none] [] Q) → ab_W X (ab_pl y_CS_ranges b_CS_ranges 6 (some (.array .int))) d G 55 [some (vR r), none, some (vR p), some (vR t), some (vz us), some (vz i)] [] Q := by
  intro mz
  induction mz with
  | zero => intro G o h us i u v hp ht ci cv cu hcut hG hfr hm hk0; exact absurd hm (Nat.not_lt_zero _)
  | succ mz ih =>
    intro G o h us i u v hp ht ci cv cu hcut hG hfr hm hk0
    subst ci
    subst cv
    refine ab_iload d_CS_ranges_55 rfl ?_
    refine zz_iconst d_CS_ranges_57 ?_
    refine zz_iadd d_CS_ranges_58 ?_
    refine ab_aload_n d_CS_ranges_59 rfl ?_
    refine zz_alen d_CS_ranges_60 hp ?_
    refine zz_icmp_ge (tgt := 146) d_CS_ranges_61 (by decide) (by omega) (by omega) (fun c1 => ?_) (fun c1 => ?_)
    · refine ab_less (L' := [none, none, none, some (vR t), some (vz (2 * v)), none]) (fun i v h => by rcases i with _ | _ | _ | _ | _ | _ | i <;> first | exact h | (simp at h)) ?_
      exact hk0 _ _ _ v ht (by omega) (by exact (show u = mm by omega) ▸ hcut) (by omega) hfr
    · have hqk := hq u (by omega) (by omega)
      have hk4 := hcut.2.2.2
      have hk5 : v ≤ u ∨ 57343 < q (2 * u) := by rcases hk4 with z | z; (left; exact z); (right; have := cs_lt hq (i := u - 1) (j := u) (by omega) (by omega) (by omega); omega)
      refine ab_aload_n d_CS_ranges_64 rfl ?_
      refine ab_iload d_CS_ranges_65 rfl ?_
      refine zz_iald d_CS_ranges_67 hp (by omega) ?_
      refine zz_ldc 55296 d_CS_ranges_68 cn_CS_66 (by decide) ?_
      refine zz_icmp_ge (tgt := 101) d_CS_ranges_70 (by decide) (by omega) (by decide) (fun c2 => ?_) (fun c2 => ?_)
      · refine ab_aload_n d_CS_ranges_101 rfl ?_
        refine ab_iload d_CS_ranges_102 rfl ?_
        refine zz_iconst d_CS_ranges_104 ?_
        refine zz_iadd d_CS_ranges_105 ?_
        refine zz_iald d_CS_ranges_106 hp (by omega) ?_
        refine zz_ldc 57343 d_CS_ranges_107 cn_CS_68 (by decide) ?_
        refine zz_icmp_le (tgt := 140) d_CS_ranges_109 (by decide) (by omega) (by decide) (fun c3 => ?_) (fun c3 => ?_)
        · refine zz_iinc d_CS_ranges_140 rfl (Nat.le_of_ble_eq_true rfl) (Nat.le_of_ble_eq_true rfl) rfl ?_
          change ab_W _ _ _ G 143 [some (vR r), none, some (vR p), some (vR t), some (vz (2 * v)), some (vz ((2 * u) + 2))] [] _
          refine ab_goto (tgt := 55) d_CS_ranges_143 (by decide) ?_
          exact ih (h := h) (us := (2 * v)) (i := ((2 * u) + 2)) (u := (u + 1)) (v := v) hp ht (by omega) (by omega) (by omega) (cs_cut_n hq (by omega) (by omega) (by omega) hcut (by omega) (by omega)) (by omega) hfr (by omega) hk0
        · refine ab_aload_n d_CS_ranges_112 rfl ?_
          refine ab_iload d_CS_ranges_113 rfl ?_
          refine ab_aload_n d_CS_ranges_115 rfl ?_
          refine ab_iload d_CS_ranges_116 rfl ?_
          refine zz_iald d_CS_ranges_118 hp (by omega) ?_
          refine zz_ldc 57344 d_CS_ranges_119 cn_CS_69 (by decide) ?_
          refine zz_mmax mj_CS_29 d_CS_ranges_121 (by omega) (by decide) (Nat.le_of_ble_eq_true rfl) (by omega) ?_
          obtain ⟨v4, hv4⟩ : ∃ z : Int, z = (max (q (2 * u)) 57344) := ⟨_, rfl⟩
          rw [← hv4]
          have hv4 : ((q (2 * u)) ≤ 57344 ∧ v4 = 57344) ∨ (57344 < (q (2 * u)) ∧ v4 = (q (2 * u))) := by omega
          change ab_W _ _ _ G 124 [some (vR r), none, some (vR p), some (vR t), some (vz (2 * v)), some (vz (2 * u))] [vz v4, vz (2 * v), vR t] _
          refine zz_iast d_CS_ranges_124 ht (by omega) (ht.2.1 (by first | omega | exact (show 18 ≤ _ by omega))) ?_
          obtain ⟨G5, eG5⟩ : ∃ z : ab_G, z = List.set G t (za w2 (zu h (2 * v) v4)) := ⟨_, rfl⟩
          have hp := hp.keep ht eG5 (by omega)
          have hq6 := z_len eG5
          have hq7 := z_sl ht eG5 rfl
          have hfr := hfr.wr ht eG5 (by simp)
          have ht := ht.kept eG5
          change ab_W _ _ _ (List.set G t (za w2 (zu h (2 * v) v4))) 125 [some (vR r), none, some (vR p), some (vR t), some (vz (2 * v)), some (vz (2 * u))] [] _
          rw [← eG5]
          refine ab_aload_n d_CS_ranges_125 rfl ?_
          refine ab_iload d_CS_ranges_126 rfl ?_
          refine zz_iconst d_CS_ranges_128 ?_
          refine zz_iadd d_CS_ranges_129 ?_
          refine ab_aload_n d_CS_ranges_130 rfl ?_
          refine ab_iload d_CS_ranges_131 rfl ?_
          refine zz_iconst d_CS_ranges_133 ?_
          refine zz_iadd d_CS_ranges_134 ?_
          refine zz_iald d_CS_ranges_135 hp (by omega) ?_
          refine zz_iast d_CS_ranges_136 ht (by omega) (ht.2.1 (by first | omega | exact (show 18 ≤ _ by omega))) ?_
          obtain ⟨G8, eG8⟩ : ∃ z : ab_G, z = List.set G5 t (za w2 (zu (zu h (2 * v) v4) ((2 * v) + 1) (q ((2 * u) + 1)))) := ⟨_, rfl⟩
          have hp := hp.keep ht eG8 (by omega)
          have hq9 := z_len eG8
          have hq10 := z_sl ht eG8 rfl
          have hfr := hfr.wr ht eG8 (by simp)
          have ht := ht.kept eG8
          change ab_W _ _ _ (List.set G5 t (za w2 (zu (zu h (2 * v) v4) ((2 * v) + 1) (q ((2 * u) + 1))))) 137 [some (vR r), none, some (vR p), some (vR t), some (vz (2 * v)), some (vz (2 * u))] [] _
          rw [← eG8]
          refine zz_iinc d_CS_ranges_137 rfl (Nat.le_of_ble_eq_true rfl) (Nat.le_of_ble_eq_true rfl) rfl ?_
          change ab_W _ _ _ G8 140 [some (vR r), none, some (vR p), some (vR t), some (vz ((2 * v) + 2)), some (vz (2 * u))] [] _
          refine zz_iinc d_CS_ranges_140 rfl (Nat.le_of_ble_eq_true rfl) (Nat.le_of_ble_eq_true rfl) rfl ?_
          change ab_W _ _ _ G8 143 [some (vR r), none, some (vR p), some (vR t), some (vz ((2 * v) + 2)), some (vz ((2 * u) + 2))] [] _
          refine ab_goto (tgt := 55) d_CS_ranges_143 (by decide) ?_
          exact ih (h := (zu (zu h (2 * v) v4) ((2 * v) + 1) (q ((2 * u) + 1)))) (us := ((2 * v) + 2)) (i := ((2 * u) + 2)) (u := (u + 1)) (v := (v + 1)) hp ht (by omega) (by omega) (by omega) (cs_cut_1 hq (by omega) (by omega) (by omega) hcut (by first | (left; omega) | (right; omega))) (by omega) hfr (by omega) hk0
      · refine ab_aload_n d_CS_ranges_73 rfl ?_
        refine ab_iload d_CS_ranges_74 rfl ?_
        refine ab_aload_n d_CS_ranges_76 rfl ?_
        refine ab_iload d_CS_ranges_77 rfl ?_
        refine zz_iald d_CS_ranges_79 hp (by omega) ?_
        refine zz_iast d_CS_ranges_80 ht (by omega) (ht.2.1 (by first | omega | exact (show 18 ≤ _ by omega))) ?_
        obtain ⟨G11, eG11⟩ : ∃ z : ab_G, z = List.set G t (za w2 (zu h (2 * v) (q (2 * u)))) := ⟨_, rfl⟩
        have hp := hp.keep ht eG11 (by omega)
        have hq12 := z_len eG11
        have hq13 := z_sl ht eG11 rfl
        have hfr := hfr.wr ht eG11 (by simp)
        have ht := ht.kept eG11
        change ab_W _ _ _ (List.set G t (za w2 (zu h (2 * v) (q (2 * u))))) 81 [some (vR r), none, some (vR p), some (vR t), some (vz (2 * v)), some (vz (2 * u))] [] _
        rw [← eG11]
        refine ab_aload_n d_CS_ranges_81 rfl ?_
        refine ab_iload d_CS_ranges_82 rfl ?_
        refine zz_iconst d_CS_ranges_84 ?_
        refine zz_iadd d_CS_ranges_85 ?_
        refine ab_aload_n d_CS_ranges_86 rfl ?_
        refine ab_iload d_CS_ranges_87 rfl ?_
        refine zz_iconst d_CS_ranges_89 ?_
        refine zz_iadd d_CS_ranges_90 ?_
        refine zz_iald d_CS_ranges_91 hp (by omega) ?_
        refine zz_ldc 55295 d_CS_ranges_92 cn_CS_67 (by decide) ?_
        refine zz_mmin mj_CS_23 d_CS_ranges_94 (by omega) (by decide) (Nat.le_of_ble_eq_true rfl) (by omega) ?_
        obtain ⟨v14, hv14⟩ : ∃ z : Int, z = (min (q ((2 * u) + 1)) 55295) := ⟨_, rfl⟩
        rw [← hv14]
        have hv14 : ((q ((2 * u) + 1)) ≤ 55295 ∧ v14 = (q ((2 * u) + 1))) ∨ (55295 < (q ((2 * u) + 1)) ∧ v14 = 55295) := by omega
        change ab_W _ _ _ G11 97 [some (vR r), none, some (vR p), some (vR t), some (vz (2 * v)), some (vz (2 * u))] [vz v14, vz ((2 * v) + 1), vR t] _
        refine zz_iast d_CS_ranges_97 ht (by omega) (ht.2.1 (by first | omega | exact (show 18 ≤ _ by omega))) ?_
        obtain ⟨G15, eG15⟩ : ∃ z : ab_G, z = List.set G11 t (za w2 (zu (zu h (2 * v) (q (2 * u))) ((2 * v) + 1) v14)) := ⟨_, rfl⟩
        have hp := hp.keep ht eG15 (by omega)
        have hq16 := z_len eG15
        have hq17 := z_sl ht eG15 rfl
        have hfr := hfr.wr ht eG15 (by simp)
        have ht := ht.kept eG15
        change ab_W _ _ _ (List.set G11 t (za w2 (zu (zu h (2 * v) (q (2 * u))) ((2 * v) + 1) v14))) 98 [some (vR r), none, some (vR p), some (vR t), some (vz (2 * v)), some (vz (2 * u))] [] _
        rw [← eG15]
        refine zz_iinc d_CS_ranges_98 rfl (Nat.le_of_ble_eq_true rfl) (Nat.le_of_ble_eq_true rfl) rfl ?_
        change ab_W _ _ _ G15 101 [some (vR r), none, some (vR p), some (vR t), some (vz ((2 * v) + 2)), some (vz (2 * u))] [] _
        refine ab_aload_n d_CS_ranges_101 rfl ?_
        refine ab_iload d_CS_ranges_102 rfl ?_
        refine zz_iconst d_CS_ranges_104 ?_
        refine zz_iadd d_CS_ranges_105 ?_
        refine zz_iald d_CS_ranges_106 hp (by omega) ?_
        refine zz_ldc 57343 d_CS_ranges_107 cn_CS_68 (by decide) ?_
        refine zz_icmp_le (tgt := 140) d_CS_ranges_109 (by decide) (by omega) (by decide) (fun c18 => ?_) (fun c18 => ?_)
        · refine zz_iinc d_CS_ranges_140 rfl (Nat.le_of_ble_eq_true rfl) (Nat.le_of_ble_eq_true rfl) rfl ?_
          change ab_W _ _ _ G15 143 [some (vR r), none, some (vR p), some (vR t), some (vz ((2 * v) + 2)), some (vz ((2 * u) + 2))] [] _
          refine ab_goto (tgt := 55) d_CS_ranges_143 (by decide) ?_
          exact ih (h := (zu (zu h (2 * v) (q (2 * u))) ((2 * v) + 1) v14)) (us := ((2 * v) + 2)) (i := ((2 * u) + 2)) (u := (u + 1)) (v := (v + 1)) hp ht (by omega) (by omega) (by omega) (cs_cut_1 hq (by omega) (by omega) (by omega) hcut (by first | (left; omega) | (right; omega))) (by omega) hfr (by omega) hk0
        · refine ab_aload_n d_CS_ranges_112 rfl ?_
          refine ab_iload d_CS_ranges_113 rfl ?_
          refine ab_aload_n d_CS_ranges_115 rfl ?_
          refine ab_iload d_CS_ranges_116 rfl ?_
          refine zz_iald d_CS_ranges_118 hp (by omega) ?_
          refine zz_ldc 57344 d_CS_ranges_119 cn_CS_69 (by decide) ?_
          refine zz_mmax mj_CS_29 d_CS_ranges_121 (by omega) (by decide) (Nat.le_of_ble_eq_true rfl) (by omega) ?_
          obtain ⟨v19, hv19⟩ : ∃ z : Int, z = (max (q (2 * u)) 57344) := ⟨_, rfl⟩
          rw [← hv19]
          have hv19 : ((q (2 * u)) ≤ 57344 ∧ v19 = 57344) ∨ (57344 < (q (2 * u)) ∧ v19 = (q (2 * u))) := by omega
          change ab_W _ _ _ G15 124 [some (vR r), none, some (vR p), some (vR t), some (vz ((2 * v) + 2)), some (vz (2 * u))] [vz v19, vz ((2 * v) + 2), vR t] _
          refine zz_iast d_CS_ranges_124 ht (by omega) (ht.2.1 (by first | omega | exact (show 18 ≤ _ by omega))) ?_
          obtain ⟨G20, eG20⟩ : ∃ z : ab_G, z = List.set G15 t (za w2 (zu (zu (zu h (2 * v) (q (2 * u))) ((2 * v) + 1) v14) ((2 * v) + 2) v19)) := ⟨_, rfl⟩
          have hp := hp.keep ht eG20 (by omega)
          have hq21 := z_len eG20
          have hq22 := z_sl ht eG20 rfl
          have hfr := hfr.wr ht eG20 (by simp)
          have ht := ht.kept eG20
          change ab_W _ _ _ (List.set G15 t (za w2 (zu (zu (zu h (2 * v) (q (2 * u))) ((2 * v) + 1) v14) ((2 * v) + 2) v19))) 125 [some (vR r), none, some (vR p), some (vR t), some (vz ((2 * v) + 2)), some (vz (2 * u))] [] _
          rw [← eG20]
          refine ab_aload_n d_CS_ranges_125 rfl ?_
          refine ab_iload d_CS_ranges_126 rfl ?_
          refine zz_iconst d_CS_ranges_128 ?_
          refine zz_iadd d_CS_ranges_129 ?_
          refine ab_aload_n d_CS_ranges_130 rfl ?_
          refine ab_iload d_CS_ranges_131 rfl ?_
          refine zz_iconst d_CS_ranges_133 ?_
          refine zz_iadd d_CS_ranges_134 ?_
          refine zz_iald d_CS_ranges_135 hp (by omega) ?_
          refine zz_iast d_CS_ranges_136 ht (by omega) (ht.2.1 (by first | omega | exact (show 18 ≤ _ by omega))) ?_
          obtain ⟨G23, eG23⟩ : ∃ z : ab_G, z = List.set G20 t (za w2 (zu (zu (zu (zu h (2 * v) (q (2 * u))) ((2 * v) + 1) v14) ((2 * v) + 2) v19) (((2 * v) + 2) + 1) (q ((2 * u) + 1)))) := ⟨_, rfl⟩
          have hp := hp.keep ht eG23 (by omega)
          have hq24 := z_len eG23
          have hq25 := z_sl ht eG23 rfl
          have hfr := hfr.wr ht eG23 (by simp)
          have ht := ht.kept eG23
          change ab_W _ _ _ (List.set G20 t (za w2 (zu (zu (zu (zu h (2 * v) (q (2 * u))) ((2 * v) + 1) v14) ((2 * v) + 2) v19) (((2 * v) + 2) + 1) (q ((2 * u) + 1))))) 137 [some (vR r), none, some (vR p), some (vR t), some (vz ((2 * v) + 2)), some (vz (2 * u))] [] _
          rw [← eG23]
          refine zz_iinc d_CS_ranges_137 rfl (Nat.le_of_ble_eq_true rfl) (Nat.le_of_ble_eq_true rfl) rfl ?_
          change ab_W _ _ _ G23 140 [some (vR r), none, some (vR p), some (vR t), some (vz (((2 * v) + 2) + 2)), some (vz (2 * u))] [] _
          refine zz_iinc d_CS_ranges_140 rfl (Nat.le_of_ble_eq_true rfl) (Nat.le_of_ble_eq_true rfl) rfl ?_
          change ab_W _ _ _ G23 143 [some (vR r), none, some (vR p), some (vR t), some (vz (((2 * v) + 2) + 2)), some (vz ((2 * u) + 2))] [] _
          refine ab_goto (tgt := 55) d_CS_ranges_143 (by decide) ?_
          exact ih (h := (zu (zu (zu (zu h (2 * v) (q (2 * u))) ((2 * v) + 1) v14) ((2 * v) + 2) v19) (((2 * v) + 2) + 1) (q ((2 * u) + 1)))) (us := (((2 * v) + 2) + 2)) (i := ((2 * u) + 2)) (u := (u + 1)) (v := (v + 1 + 1)) hp ht (by omega) (by omega) (by omega) (cs_cut_2 hq (by omega) (by omega) (by omega) hcut (by omega) (by omega) (by omega) (by omega)) (by omega) hfr (by omega) hk0
set_option maxRecDepth 100000 in
set_option maxHeartbeats 4000000 in
theorem z_CS_ranges {X : ab_X} {d : Nat} {o : Nat → Nat} {G : ab_G} {r : Nat} {lr : Nat} {lb : Nat} {n : Nat} {cnt : Int} {P : Int → Prop} {no : Int} {la : Nat} {lp : Nat} {lt : Nat} (pcsI_r : csI o G r lr lb n cnt P) (cno : no = 0 ∨ no = 1) (k0 : cnt ≤ 24900 ∧ 0 ≤ cnt) (cl : 18 ≤ lr ∧ lr < lb ∧ lb < lp ∧ lp < lt ∧ lt < la) (n18 : ab_n0 = 18) (rc : G.length + 6000 ≤ ab_n0 + room_1.cells) (rs : ab_slots G + 428100 ≤ room_1.slots + 2 * n) (hd : 8 ≤ d) : ab_F X d y_CS_ranges (.code y_CS_ranges b_CS_ranges 6 (some (.array .int))) [vR r, vz no] G (fun oc G2 => ∃ o2 : Nat → Nat, ∃ x : Nat, ∃ q2 : Int → Int, ∃ m2 : Int, ∃ w2 : Nat, ∃ n2 : Nat, ∃ c2 : Int, ∃ P2 : Int → Prop, oc = .returned (some (vR x)) ∧ fx o o2 [lr, lb, lt] G G2 ∧ cc o2 G2 x la (za w2 q2) ∧ csI o2 G2 r lr lb n2 c2 P2 ∧ (0 ≤ m2 ∧ m2 ≤ cnt + 2 ∧ ↑w2 = 2 * m2) ∧ (cs_can q2 m2) ∧ (∀ c : Int, cs_mem q2 m2 c ↔ ((no = 0 ∧ P c) ∨ (no = 1 ∧ 0 ≤ c ∧ c ≤ 1114111 ∧ ¬ P c)) ∧ ¬ cs_gap c) ∧ (n2 ≤ 104000) ∧ (0 ≤ c2 ∧ c2 ≤ cnt + 1) ∧ (G.length ≤ x) ∧ (64 * G2.length + n ≤ 64 * G.length + n2 + 256) ∧ ((↑(ab_slots G2) : Int) + 2 * ↑n ≤ ↑(ab_slots G) + 2 * ↑n2 + 8 * cnt + 20)) := by
  refine ab_F_of (by decide +kernel) (Nat.le_of_ble_eq_true rfl) ?_
  obtain ⟨Q, hQ⟩ : ∃ z : Outcome → ab_G → Prop, z = (fun oc G2 => ∃ o2 : Nat → Nat, ∃ x : Nat, ∃ q2 : Int → Int, ∃ m2 : Int, ∃ w2 : Nat, ∃ n2 : Nat, ∃ c2 : Int, ∃ P2 : Int → Prop, oc = .returned (some (vR x)) ∧ fx o o2 [lr, lb, lt] G G2 ∧ cc o2 G2 x la (za w2 q2) ∧ csI o2 G2 r lr lb n2 c2 P2 ∧ (0 ≤ m2 ∧ m2 ≤ cnt + 2 ∧ ↑w2 = 2 * m2) ∧ (cs_can q2 m2) ∧ (∀ c : Int, cs_mem q2 m2 c ↔ ((no = 0 ∧ P c) ∨ (no = 1 ∧ 0 ≤ c ∧ c ≤ 1114111 ∧ ¬ P c)) ∧ ¬ cs_gap c) ∧ (n2 ≤ 104000) ∧ (0 ≤ c2 ∧ c2 ≤ cnt + 1) ∧ (G.length ≤ x) ∧ (64 * G2.length + n ≤ 64 * G.length + n2 + 256) ∧ ((↑(ab_slots G2) : Int) + 2 * ↑n ≤ ↑(ab_slots G) + 2 * ↑n2 + 8 * cnt + 20)) := ⟨_, rfl⟩
  rw [← hQ]
  change ab_W X (ab_pl y_CS_ranges b_CS_ranges 6 (some (.array .int))) d G 0 [some (vR r), some (vz no), none, none, none, none] [] Q
  have hfr : fx o o [lr, lb, lt] G G := fx.rf
  obtain ⟨b, f, hr, hb, hcan, hPm, hok, hl1, hl2, hl3⟩ := pcsI_r
  refine ab_aload_n d_CS_ranges_0 rfl ?_
  refine ab_getf (fs := [vR b, vz cnt]) f_CS_9 d_CS_ranges_1 hr.2.2 rfl ?_
  refine zz_iconst d_CS_ranges_4 ?_
  refine ab_aload_n d_CS_ranges_5 rfl ?_
  refine ab_getf (fs := [vR b, vz cnt]) f_CS_15 d_CS_ranges_6 hr.2.2 rfl ?_
  refine zz_imul d_CS_ranges_9 ?_
  obtain ⟨w1, hw1⟩ : ∃ z : Nat, (z : Int) = (2 * cnt) := ⟨Int.toNat (2 * cnt), by omega⟩
  refine ab_callS (d' := d - 1) (as := [vR b, vz (2 * cnt)]) (st := []) (c_AR_copyOf (o := o) (a := b) (l := lb) (k := lp) (n := n) (w := w1) (m := (2 * cnt)) (f := f) hb (by omega) (by omega) (by omega) (by have h18 : ab_n0 = 18 := rfl; omega) (by omega)) (fun oc G2 h => by rcases h with ⟨_, _, _, h, _⟩ <;> exact ⟨_, h⟩) (by omega) m_AR_copyOf ml_CS_32 st_AR_copyOf (Nat.le_of_ble_eq_true rfl) d_CS_ranges_10 rfl ?_
  intro v G2 hq
  rcases hq with ⟨o3, b4, g5, hv, hfk, hNb4, hq6, hq7, hq8, hq9⟩
  cases hv
  have ne_b4_r : nq b4 r := by have hlt := hr.lt; unfold nq; omega
  have ne_b4_b : nq b4 b := by have hlt := hb.lt; unfold nq; omega
  have hr := hfk.get hr (by simp)
  have hb := hfk.get hb (by simp)
  have hfr := hfr.tr hfk (fun _ h => absurd h List.not_mem_nil)
  have hq10 := hfk.1
  have hb4 := hNb4
  change ab_W _ _ _ G2 13 [some (vR r), some (vz no), none, none, none, none] [vR b4] _
  refine ab_astore_n d_CS_ranges_13 (Nat.le_of_ble_eq_true rfl) (Nat.le_of_ble_eq_true rfl) rfl ?_
  change ab_W _ _ _ G2 14 [some (vR r), some (vz no), some (vR b4), none, none, none] [] _
  have hpc : cs_can g5 cnt := cs_can_eq hcan (fun j j1 j2 => hq9 j j1 (by omega) j2)
  have hpm : ∀ c : Int, cs_mem g5 cnt c ↔ P c := fun c => by rw [hPm c]; exact cs_mem_eq (fun j j1 j2 => hq9 j j1 (by omega) j2)
  refine ab_iload_n d_CS_ranges_14 rfl ?_
  refine zz_if_eq (tgt := 42) d_CS_ranges_15 (by decide) (by omega) (fun c11 => ?_) (fun c11 => ?_)
  · refine ab_aload_n d_CS_ranges_42 rfl ?_
    refine zz_alen d_CS_ranges_43 hb4 ?_
    refine zz_iconst d_CS_ranges_44 ?_
    refine zz_iadd d_CS_ranges_45 ?_
    obtain ⟨w12, hw12⟩ : ∃ z : Nat, (z : Int) = ((↑w1 : Int) + 2) := ⟨Int.toNat ((↑w1 : Int) + 2), by omega⟩
    refine zz_newI (w := w12) a_int d_CS_ranges_46 (by omega) (by omega) (by omega) (by omega) ?_
    obtain ⟨G13, eG13⟩ : ∃ z : ab_G, z = G2 ++ [za w12 (fun _ => 0)] := ⟨_, rfl⟩
    obtain ⟨o14, eo14⟩ : ∃ z : Nat → Nat, z = ol o3 G2.length lt := ⟨_, rfl⟩
    obtain ⟨a15, ea15⟩ : ∃ z : Nat, z = G2.length := ⟨_, rfl⟩
    have hq16 := hb4.n0 (by first | decide | omega)
    have ne_a15_r : nq a15 r := by have hlt := hr.lt; unfold nq; omega
    have ne_a15_b : nq a15 b := by have hlt := hb.lt; unfold nq; omega
    have ne_a15_b4 : nq a15 b4 := by have hlt := hb4.lt; unfold nq; omega
    have hr := hr.akeep (k := lt) eG13
    rw [← eo14] at hr
    have hb := hb.akeep (k := lt) eG13
    rw [← eo14] at hb
    have hb4 := hb4.akeep (k := lt) eG13
    rw [← eo14] at hb4
    have ha15 := cc.anew (o := o3) lt eG13 hq16
    rw [← eo14, ← ea15] at ha15
    have hfr := hfr.ap (k := lt) eG13
    rw [← eo14] at hfr
    have hq17 := z_alen eG13
    have hq18 : ab_slots G13 = ab_slots G2 + w12 := z_asl eG13 hq16
    change ab_W _ _ _ (G2 ++ [za w12 (fun _ => 0)]) 48 [some (vR r), some (vz no), some (vR b4), none, none, none] [.ref G2.length] _
    rw [← eG13, ← ea15]
    change ab_W _ _ _ G13 48 [some (vR r), some (vz no), some (vR b4), none, none, none] [vR a15] _
    refine ab_astore_n d_CS_ranges_48 (Nat.le_of_ble_eq_true rfl) (Nat.le_of_ble_eq_true rfl) rfl ?_
    change ab_W _ _ _ G13 49 [some (vR r), some (vz no), some (vR b4), some (vR a15), none, none] [] _
    refine zz_iconst d_CS_ranges_49 ?_
    refine ab_istore d_CS_ranges_50 (Nat.le_of_ble_eq_true rfl) (Nat.le_of_ble_eq_true rfl) rfl ?_
    change ab_W _ _ _ G13 52 [some (vR r), some (vz no), some (vR b4), some (vR a15), some (vz 0), none] [] _
    refine zz_iconst d_CS_ranges_52 ?_
    refine ab_istore d_CS_ranges_53 (Nat.le_of_ble_eq_true rfl) (Nat.le_of_ble_eq_true rfl) rfl ?_
    change ab_W _ _ _ G13 55 [some (vR r), some (vz no), some (vR b4), some (vR a15), some (vz 0), some (vz 0)] [] _
    refine ab_less (L' := [some (vR r), none, some (vR b4), some (vR a15), some (vz 0), some (vz 0)]) (fun i v h => by rcases i with _ | _ | _ | _ | _ | _ | i <;> first | exact h | (simp at h)) ?_
    refine y_CS_ranges_55 (r := r) (p := b4) (lp := lp) (w := w1) (q := g5) (mm := cnt) (t := a15) (lt := lt) (w2 := w12) (G0 := G13) (h := (fun _ => 0)) (us := 0) (i := 0) (u := 0) (v := 0) (by have h18 : ab_n0 = 18 := rfl; omega) hpc (by omega) (Int.toNat (cnt - 0) + 1) hb4 ha15 (by omega) (by omega) (by omega) (cs_cut_0 _ _) (by omega) fx.rf (by omega) (fun G19 o20 h21 v22 hNa15 hq23 hq24 hq25 hfk => ?_)
    · have hr := hfk.get hr (by simp only [List.mem_cons, List.not_mem_nil, or_false]; omega)
      have hb := hfk.get hb (by simp only [List.mem_cons, List.not_mem_nil, or_false]; omega)
      have hb4 := hfk.get hb4 (by simp only [List.mem_cons, List.not_mem_nil, or_false]; omega)
      have hfr := hfr.tr hfk (by simp)
      have hq26 := hfk.1
      have ha15 := hNa15
      change ab_W _ _ _ G19 146 [none, none, none, some (vR a15), some (vz (2 * v22)), none] [] _
      have pcsI_r : csI o20 G19 r lr lb n cnt P := ⟨b, f, hr, hb, hcan, hPm, hok, hl1, hl2, hl3⟩
      refine ab_aload_n d_CS_ranges_146 rfl ?_
      refine ab_iload d_CS_ranges_147 rfl ?_
      obtain ⟨w27, hw27⟩ : ∃ z : Nat, (z : Int) = (2 * v22) := ⟨Int.toNat (2 * v22), by omega⟩
      refine ab_callS (d' := d - 1) (as := [vR a15, vz (2 * v22)]) (st := []) (c_AR_copyOf (o := o20) (a := a15) (l := lt) (k := la) (n := w12) (w := w27) (m := (2 * v22)) (f := h21) ha15 (by omega) (by omega) (by omega) (by have h18 : ab_n0 = 18 := rfl; omega) (by omega)) (fun oc G2 h => by rcases h with ⟨_, _, _, h, _⟩ <;> exact ⟨_, h⟩) (by omega) m_AR_copyOf ml_CS_32 st_AR_copyOf (Nat.le_of_ble_eq_true rfl) d_CS_ranges_149 rfl ?_
      intro v G28 hq
      rcases hq with ⟨o29, b30, g31, hv, hfk, hNb30, hq32, hq33, hq34, hq35⟩
      cases hv
      have ne_b30_b4 : nq b30 b4 := by have hlt := hb4.lt; unfold nq; omega
      have ne_b30_a15 : nq b30 a15 := by have hlt := ha15.lt; unfold nq; omega
      have hb4 := hfk.get hb4 (by simp)
      have ha15 := hfk.get ha15 (by simp)
      have pcsI_r := csI.fr hfk pcsI_r (by simp) (by simp)
      have hfr := hfr.tr hfk (fun _ h => absurd h List.not_mem_nil)
      have hq36 := hfk.1
      have hb30 := hNb30
      change ab_W _ _ _ G28 152 [none, none, none, some (vR a15), some (vz (2 * v22)), none] [vR b30] _
      refine ab_aret (rt := _) rfl (Or.inr ⟨_, rfl⟩) (Or.inr ⟨_, rfl⟩) d_CS_ranges_152 ?_
      rw [hQ]; exact ⟨_, _, _, v22, _, _, _, _, rfl, hfr, hb30, pcsI_r, (by omega), (by exact cs_can_eq hq24.1 (fun j j1 j2 => hq35 j j1 (by omega) (by omega))), (by intro c; rw [cs_mem_eq (fun j j1 j2 => hq35 j j1 (by omega) (by omega)), hq24.2.1 c, hpm c]; exact and_congr ⟨fun z => Or.inl ⟨by omega, z⟩, fun z => z.elim (fun w => w.2) (fun w => absurd w.1 (by omega))⟩ Iff.rfl), (by omega), (by omega), (by omega), (by omega), (by omega)⟩
  · have pcsI_r : csI o3 G2 r lr lb n cnt P := ⟨b, f, hr, hb, hcan, hPm, hok, hl1, hl2, hl3⟩
    refine ab_aload_n d_CS_ranges_18 rfl ?_
    obtain ⟨fsR, hR⟩ := pcsI_r.recv
    refine ab_callV (d' := d - 1) (as := []) (st := []) (r := _) (c_CS_clear (o := o3) (r := r) (lr := lr) (lb := lb) (n := n) (cnt := cnt) (P := P) pcsI_r) (fun oc G2 h => by rcases h with ⟨h, _⟩ <;> exact ⟨_, h⟩) (by omega) m_CS_clear ml_CS_59 im_CS_clear se_CS_clear c_CS hR (Nat.le_of_ble_eq_true rfl) d_CS_ranges_19 rfl ?_
    intro v G37 hq
    rcases hq with ⟨hv, hfk, hlk, hsk, pNcsI_r⟩
    cases hv
    have hb4 := hfk.get hb4 (by simp only [List.mem_cons, List.not_mem_nil, or_false]; omega)
    have pcsI_r := pNcsI_r
    have hfr := hfr.tr hfk (by simp)
    have hq38 := hlk
    have hq39 := hsk
    change ab_W _ _ _ G37 22 [some (vR r), some (vz no), some (vR b4), none, none, none] [] _
    refine ab_aload_n d_CS_ranges_22 rfl ?_
    refine ab_aload_n d_CS_ranges_23 rfl ?_
    refine zz_iconst d_CS_ranges_24 ?_
    obtain ⟨fsR, hR⟩ := pcsI_r.recv
    refine ab_callV (d' := d - 1) (as := [vR b4, vz 1]) (st := []) (r := _) (z1_CS_addAll (o := o3) (r := r) (lr := lr) (lb := lb) (n := n) (cnt := 0) (P := (fun _ => False)) (a := b4) (la := lp) (w := w1) (q := g5) (mm := cnt) hb4 pcsI_r (by omega) (by omega) hpc (by omega) (by omega) (by omega)) (fun oc G2 h => by rcases h with ⟨_, _, _, _, h, _⟩ <;> exact ⟨_, h⟩) (by omega) m_CS_addAll ml_CS_62 im_CS_addAll se_CS_addAll c_CS hR (Nat.le_of_ble_eq_true rfl) d_CS_ranges_25 rfl ?_
    intro v G40 hq
    rcases hq with ⟨o41, n242, c243, P244, hv, hfk, pNcsI_r, hq45, hq46, hq47, hq48⟩
    cases hv
    have hb4 := hfk.get hb4 (by simp only [List.mem_cons, List.not_mem_nil, or_false]; omega)
    have pcsI_r := pNcsI_r
    have hfr := hfr.tr hfk (by simp)
    have hq49 := hfk.1
    change ab_W _ _ _ G40 28 [some (vR r), some (vz no), some (vR b4), none, none, none] [] _
    obtain ⟨bb, ff, hr, hbb, hcan, hPm, hok, hl1, hl2, hl3⟩ := pcsI_r
    refine ab_aload_n d_CS_ranges_28 rfl ?_
    refine ab_getf (fs := [vR bb, vz c243]) f_CS_9 d_CS_ranges_29 hr.2.2 rfl ?_
    refine zz_iconst d_CS_ranges_32 ?_
    refine ab_aload_n d_CS_ranges_33 rfl ?_
    refine ab_getf (fs := [vR bb, vz c243]) f_CS_15 d_CS_ranges_34 hr.2.2 rfl ?_
    refine zz_imul d_CS_ranges_37 ?_
    obtain ⟨w50, hw50⟩ : ∃ z : Nat, (z : Int) = (2 * c243) := ⟨Int.toNat (2 * c243), by omega⟩
    refine ab_callS (d' := d - 1) (as := [vR bb, vz (2 * c243)]) (st := []) (c_AR_copyOf (o := o41) (a := bb) (l := lb) (k := lp) (n := n242) (w := w50) (m := (2 * c243)) (f := ff) hbb (by omega) (by omega) (by omega) (by have h18 : ab_n0 = 18 := rfl; omega) (by omega)) (fun oc G2 h => by rcases h with ⟨_, _, _, h, _⟩ <;> exact ⟨_, h⟩) (by omega) m_AR_copyOf ml_CS_32 st_AR_copyOf (Nat.le_of_ble_eq_true rfl) d_CS_ranges_38 rfl ?_
    intro v G51 hq
    rcases hq with ⟨o52, b53, g54, hv, hfk, hNb53, hq55, hq56, hq57, hq58⟩
    cases hv
    have ne_b53_b4 : nq b53 b4 := by have hlt := hb4.lt; unfold nq; omega
    have ne_b53_r : nq b53 r := by have hlt := hr.lt; unfold nq; omega
    have ne_b53_bb : nq b53 bb := by have hlt := hbb.lt; unfold nq; omega
    have hb4 := hfk.get hb4 (by simp)
    have hr := hfk.get hr (by simp)
    have hbb := hfk.get hbb (by simp)
    have hfr := hfr.tr hfk (fun _ h => absurd h List.not_mem_nil)
    have hq59 := hfk.1
    have hb53 := hNb53
    change ab_W _ _ _ G51 41 [some (vR r), some (vz no), some (vR b4), none, none, none] [vR b53] _
    refine ab_astore_n d_CS_ranges_41 (Nat.le_of_ble_eq_true rfl) (Nat.le_of_ble_eq_true rfl) rfl ?_
    change ab_W _ _ _ G51 42 [some (vR r), some (vz no), some (vR b53), none, none, none] [] _
    have hpc : cs_can g54 c243 := cs_can_eq hcan (fun j j1 j2 => hq58 j j1 (by omega) j2)
    have hpm2 : ∀ c : Int, cs_mem g54 c243 c ↔ (0 ≤ c ∧ c ≤ 1114111 ∧ ¬ P c) := fun c => by rw [cs_mem_eq (fun j j1 j2 => hq58 j j1 (by omega) j2), ← hPm c, hq48 c, hpm c]; exact ⟨fun z => z.elim False.elim id, Or.inr⟩
    refine ab_aload_n d_CS_ranges_42 rfl ?_
    refine zz_alen d_CS_ranges_43 hb53 ?_
    refine zz_iconst d_CS_ranges_44 ?_
    refine zz_iadd d_CS_ranges_45 ?_
    obtain ⟨w60, hw60⟩ : ∃ z : Nat, (z : Int) = ((↑w50 : Int) + 2) := ⟨Int.toNat ((↑w50 : Int) + 2), by omega⟩
    refine zz_newI (w := w60) a_int d_CS_ranges_46 (by omega) (by omega) (by omega) (by omega) ?_
    obtain ⟨G61, eG61⟩ : ∃ z : ab_G, z = G51 ++ [za w60 (fun _ => 0)] := ⟨_, rfl⟩
    obtain ⟨o62, eo62⟩ : ∃ z : Nat → Nat, z = ol o52 G51.length lt := ⟨_, rfl⟩
    obtain ⟨a63, ea63⟩ : ∃ z : Nat, z = G51.length := ⟨_, rfl⟩
    have hq64 := hb53.n0 (by first | decide | omega)
    have ne_a63_b4 : nq a63 b4 := by have hlt := hb4.lt; unfold nq; omega
    have ne_a63_r : nq a63 r := by have hlt := hr.lt; unfold nq; omega
    have ne_a63_bb : nq a63 bb := by have hlt := hbb.lt; unfold nq; omega
    have ne_a63_b53 : nq a63 b53 := by have hlt := hb53.lt; unfold nq; omega
    have hb4 := hb4.akeep (k := lt) eG61
    rw [← eo62] at hb4
    have hr := hr.akeep (k := lt) eG61
    rw [← eo62] at hr
    have hbb := hbb.akeep (k := lt) eG61
    rw [← eo62] at hbb
    have hb53 := hb53.akeep (k := lt) eG61
    rw [← eo62] at hb53
    have ha63 := cc.anew (o := o52) lt eG61 hq64
    rw [← eo62, ← ea63] at ha63
    have hfr := hfr.ap (k := lt) eG61
    rw [← eo62] at hfr
    have hq65 := z_alen eG61
    have hq66 : ab_slots G61 = ab_slots G51 + w60 := z_asl eG61 hq64
    change ab_W _ _ _ (G51 ++ [za w60 (fun _ => 0)]) 48 [some (vR r), some (vz no), some (vR b53), none, none, none] [.ref G51.length] _
    rw [← eG61, ← ea63]
    change ab_W _ _ _ G61 48 [some (vR r), some (vz no), some (vR b53), none, none, none] [vR a63] _
    refine ab_astore_n d_CS_ranges_48 (Nat.le_of_ble_eq_true rfl) (Nat.le_of_ble_eq_true rfl) rfl ?_
    change ab_W _ _ _ G61 49 [some (vR r), some (vz no), some (vR b53), some (vR a63), none, none] [] _
    refine zz_iconst d_CS_ranges_49 ?_
    refine ab_istore d_CS_ranges_50 (Nat.le_of_ble_eq_true rfl) (Nat.le_of_ble_eq_true rfl) rfl ?_
    change ab_W _ _ _ G61 52 [some (vR r), some (vz no), some (vR b53), some (vR a63), some (vz 0), none] [] _
    refine zz_iconst d_CS_ranges_52 ?_
    refine ab_istore d_CS_ranges_53 (Nat.le_of_ble_eq_true rfl) (Nat.le_of_ble_eq_true rfl) rfl ?_
    change ab_W _ _ _ G61 55 [some (vR r), some (vz no), some (vR b53), some (vR a63), some (vz 0), some (vz 0)] [] _
    refine ab_less (L' := [some (vR r), none, some (vR b53), some (vR a63), some (vz 0), some (vz 0)]) (fun i v h => by rcases i with _ | _ | _ | _ | _ | _ | i <;> first | exact h | (simp at h)) ?_
    refine y_CS_ranges_55 (r := r) (p := b53) (lp := lp) (w := w50) (q := g54) (mm := c243) (t := a63) (lt := lt) (w2 := w60) (G0 := G61) (h := (fun _ => 0)) (us := 0) (i := 0) (u := 0) (v := 0) (by have h18 : ab_n0 = 18 := rfl; omega) hpc (by omega) (Int.toNat (c243 - 0) + 1) hb53 ha63 (by omega) (by omega) (by omega) (cs_cut_0 _ _) (by omega) fx.rf (by omega) (fun G67 o68 h69 v70 hNa63 hq71 hq72 hq73 hfk => ?_)
    · have hb4 := hfk.get hb4 (by simp only [List.mem_cons, List.not_mem_nil, or_false]; omega)
      have hr := hfk.get hr (by simp only [List.mem_cons, List.not_mem_nil, or_false]; omega)
      have hbb := hfk.get hbb (by simp only [List.mem_cons, List.not_mem_nil, or_false]; omega)
      have hb53 := hfk.get hb53 (by simp only [List.mem_cons, List.not_mem_nil, or_false]; omega)
      have hfr := hfr.tr hfk (by simp)
      have hq74 := hfk.1
      have ha63 := hNa63
      change ab_W _ _ _ G67 146 [none, none, none, some (vR a63), some (vz (2 * v70)), none] [] _
      have pcsI_r : csI o68 G67 r lr lb n242 c243 P244 := ⟨bb, ff, hr, hbb, hcan, hPm, hok, hl1, hl2, hl3⟩
      refine ab_aload_n d_CS_ranges_146 rfl ?_
      refine ab_iload d_CS_ranges_147 rfl ?_
      obtain ⟨w75, hw75⟩ : ∃ z : Nat, (z : Int) = (2 * v70) := ⟨Int.toNat (2 * v70), by omega⟩
      refine ab_callS (d' := d - 1) (as := [vR a63, vz (2 * v70)]) (st := []) (c_AR_copyOf (o := o68) (a := a63) (l := lt) (k := la) (n := w60) (w := w75) (m := (2 * v70)) (f := h69) ha63 (by omega) (by omega) (by omega) (by have h18 : ab_n0 = 18 := rfl; omega) (by omega)) (fun oc G2 h => by rcases h with ⟨_, _, _, h, _⟩ <;> exact ⟨_, h⟩) (by omega) m_AR_copyOf ml_CS_32 st_AR_copyOf (Nat.le_of_ble_eq_true rfl) d_CS_ranges_149 rfl ?_
      intro v G76 hq
      rcases hq with ⟨o77, b78, g79, hv, hfk, hNb78, hq80, hq81, hq82, hq83⟩
      cases hv
      have ne_b78_b4 : nq b78 b4 := by have hlt := hb4.lt; unfold nq; omega
      have ne_b78_b53 : nq b78 b53 := by have hlt := hb53.lt; unfold nq; omega
      have ne_b78_a63 : nq b78 a63 := by have hlt := ha63.lt; unfold nq; omega
      have hb4 := hfk.get hb4 (by simp)
      have hb53 := hfk.get hb53 (by simp)
      have ha63 := hfk.get ha63 (by simp)
      have pcsI_r := csI.fr hfk pcsI_r (by simp) (by simp)
      have hfr := hfr.tr hfk (fun _ h => absurd h List.not_mem_nil)
      have hq84 := hfk.1
      have hb78 := hNb78
      change ab_W _ _ _ G76 152 [none, none, none, some (vR a63), some (vz (2 * v70)), none] [vR b78] _
      refine ab_aret (rt := _) rfl (Or.inr ⟨_, rfl⟩) (Or.inr ⟨_, rfl⟩) d_CS_ranges_152 ?_
      rw [hQ]; exact ⟨_, _, _, v70, _, _, _, _, rfl, hfr, hb78, pcsI_r, (by omega), (by exact cs_can_eq hq72.1 (fun j j1 j2 => hq83 j j1 (by omega) (by omega))), (by intro c; rw [cs_mem_eq (fun j j1 j2 => hq83 j j1 (by omega) (by omega)), hq72.2.1 c, hpm2 c]; exact and_congr ⟨fun z => Or.inr ⟨by omega, z⟩, fun z => z.elim (fun w => absurd w.1 (by omega)) (fun w => w.2)⟩ Iff.rfl), (by omega), (by omega), (by omega), (by omega), (by omega)⟩
set_option maxRecDepth 100000 in
set_option maxHeartbeats 4000000 in
theorem z0_CS_ranges {X : ab_X} {d : Nat} {o : Nat → Nat} {G : ab_G} {r : Nat} {lr : Nat} {lb : Nat} {n : Nat} {cnt : Int} {P : Int → Prop} {la : Nat} {lp : Nat} {lt : Nat} (pcsI_r : csI o G r lr lb n cnt P) (k0 : cnt ≤ 24900 ∧ 0 ≤ cnt) (cl : 18 ≤ lr ∧ lr < lb ∧ lb < lp ∧ lp < lt ∧ lt < la) (n18 : ab_n0 = 18) (rc : G.length + 6000 ≤ ab_n0 + room_1.cells) (rs : ab_slots G + 428100 ≤ room_1.slots + 2 * n) (hd : 8 ≤ d) : ab_F X d y_CS_ranges (.code y_CS_ranges b_CS_ranges 6 (some (.array .int))) [vR r, vz 0] G (fun oc G2 => ∃ o2 : Nat → Nat, ∃ x : Nat, ∃ q2 : Int → Int, ∃ m2 : Int, ∃ w2 : Nat, ∃ n2 : Nat, ∃ c2 : Int, ∃ P2 : Int → Prop, oc = .returned (some (vR x)) ∧ fx o o2 [lr, lb, lt] G G2 ∧ cc o2 G2 x la (za w2 q2) ∧ csI o2 G2 r lr lb n2 c2 P2 ∧ (0 ≤ m2 ∧ m2 ≤ cnt + 1 ∧ ↑w2 = 2 * m2) ∧ (cs_can q2 m2) ∧ (∀ c : Int, cs_mem q2 m2 c ↔ P c ∧ ¬ cs_gap c) ∧ (n2 ≤ 104000) ∧ (0 ≤ c2 ∧ c2 ≤ cnt + 1) ∧ (G.length ≤ x) ∧ (64 * G2.length + n ≤ 64 * G.length + n2 + 256) ∧ ((↑(ab_slots G2) : Int) + 2 * ↑n ≤ ↑(ab_slots G) + 2 * ↑n2 + 6 * cnt + 10)) := by
  refine ab_F_of (by decide +kernel) (Nat.le_of_ble_eq_true rfl) ?_
  obtain ⟨Q, hQ⟩ : ∃ z : Outcome → ab_G → Prop, z = (fun oc G2 => ∃ o2 : Nat → Nat, ∃ x : Nat, ∃ q2 : Int → Int, ∃ m2 : Int, ∃ w2 : Nat, ∃ n2 : Nat, ∃ c2 : Int, ∃ P2 : Int → Prop, oc = .returned (some (vR x)) ∧ fx o o2 [lr, lb, lt] G G2 ∧ cc o2 G2 x la (za w2 q2) ∧ csI o2 G2 r lr lb n2 c2 P2 ∧ (0 ≤ m2 ∧ m2 ≤ cnt + 1 ∧ ↑w2 = 2 * m2) ∧ (cs_can q2 m2) ∧ (∀ c : Int, cs_mem q2 m2 c ↔ P c ∧ ¬ cs_gap c) ∧ (n2 ≤ 104000) ∧ (0 ≤ c2 ∧ c2 ≤ cnt + 1) ∧ (G.length ≤ x) ∧ (64 * G2.length + n ≤ 64 * G.length + n2 + 256) ∧ ((↑(ab_slots G2) : Int) + 2 * ↑n ≤ ↑(ab_slots G) + 2 * ↑n2 + 6 * cnt + 10)) := ⟨_, rfl⟩
  rw [← hQ]
  change ab_W X (ab_pl y_CS_ranges b_CS_ranges 6 (some (.array .int))) d G 0 [some (vR r), some (vz 0), none, none, none, none] [] Q
  have hfr : fx o o [lr, lb, lt] G G := fx.rf
  obtain ⟨b, f, hr, hb, hcan, hPm, hok, hl1, hl2, hl3⟩ := pcsI_r
  refine ab_aload_n d_CS_ranges_0 rfl ?_
  refine ab_getf (fs := [vR b, vz cnt]) f_CS_9 d_CS_ranges_1 hr.2.2 rfl ?_
  refine zz_iconst d_CS_ranges_4 ?_
  refine ab_aload_n d_CS_ranges_5 rfl ?_
  refine ab_getf (fs := [vR b, vz cnt]) f_CS_15 d_CS_ranges_6 hr.2.2 rfl ?_
  refine zz_imul d_CS_ranges_9 ?_
  obtain ⟨w1, hw1⟩ : ∃ z : Nat, (z : Int) = (2 * cnt) := ⟨Int.toNat (2 * cnt), by omega⟩
  refine ab_callS (d' := d - 1) (as := [vR b, vz (2 * cnt)]) (st := []) (c_AR_copyOf (o := o) (a := b) (l := lb) (k := lp) (n := n) (w := w1) (m := (2 * cnt)) (f := f) hb (by omega) (by omega) (by omega) (by have h18 : ab_n0 = 18 := rfl; omega) (by omega)) (fun oc G2 h => by rcases h with ⟨_, _, _, h, _⟩ <;> exact ⟨_, h⟩) (by omega) m_AR_copyOf ml_CS_32 st_AR_copyOf (Nat.le_of_ble_eq_true rfl) d_CS_ranges_10 rfl ?_
  intro v G2 hq
  rcases hq with ⟨o3, b4, g5, hv, hfk, hNb4, hq6, hq7, hq8, hq9⟩
  cases hv
  have ne_b4_r : nq b4 r := by have hlt := hr.lt; unfold nq; omega
  have ne_b4_b : nq b4 b := by have hlt := hb.lt; unfold nq; omega
  have hr := hfk.get hr (by simp)
  have hb := hfk.get hb (by simp)
  have hfr := hfr.tr hfk (fun _ h => absurd h List.not_mem_nil)
  have hq10 := hfk.1
  have hb4 := hNb4
  change ab_W _ _ _ G2 13 [some (vR r), some (vz 0), none, none, none, none] [vR b4] _
  refine ab_astore_n d_CS_ranges_13 (Nat.le_of_ble_eq_true rfl) (Nat.le_of_ble_eq_true rfl) rfl ?_
  change ab_W _ _ _ G2 14 [some (vR r), some (vz 0), some (vR b4), none, none, none] [] _
  have hpc : cs_can g5 cnt := cs_can_eq hcan (fun j j1 j2 => hq9 j j1 (by omega) j2)
  have hpm : ∀ c : Int, cs_mem g5 cnt c ↔ P c := fun c => by rw [hPm c]; exact cs_mem_eq (fun j j1 j2 => hq9 j j1 (by omega) j2)
  refine ab_iload_n d_CS_ranges_14 rfl ?_
  refine zz_if_eq (tgt := 42) d_CS_ranges_15 (by decide) (by decide) (fun c11 => ?_) (fun c11 => absurd c11 (by decide))
  refine ab_aload_n d_CS_ranges_42 rfl ?_
  refine zz_alen d_CS_ranges_43 hb4 ?_
  refine zz_iconst d_CS_ranges_44 ?_
  refine zz_iadd d_CS_ranges_45 ?_
  obtain ⟨w12, hw12⟩ : ∃ z : Nat, (z : Int) = ((↑w1 : Int) + 2) := ⟨Int.toNat ((↑w1 : Int) + 2), by omega⟩
  refine zz_newI (w := w12) a_int d_CS_ranges_46 (by omega) (by omega) (by omega) (by omega) ?_
  obtain ⟨G13, eG13⟩ : ∃ z : ab_G, z = G2 ++ [za w12 (fun _ => 0)] := ⟨_, rfl⟩
  obtain ⟨o14, eo14⟩ : ∃ z : Nat → Nat, z = ol o3 G2.length lt := ⟨_, rfl⟩
  obtain ⟨a15, ea15⟩ : ∃ z : Nat, z = G2.length := ⟨_, rfl⟩
  have hq16 := hb4.n0 (by first | decide | omega)
  have ne_a15_r : nq a15 r := by have hlt := hr.lt; unfold nq; omega
  have ne_a15_b : nq a15 b := by have hlt := hb.lt; unfold nq; omega
  have ne_a15_b4 : nq a15 b4 := by have hlt := hb4.lt; unfold nq; omega
  have hr := hr.akeep (k := lt) eG13
  rw [← eo14] at hr
  have hb := hb.akeep (k := lt) eG13
  rw [← eo14] at hb
  have hb4 := hb4.akeep (k := lt) eG13
  rw [← eo14] at hb4
  have ha15 := cc.anew (o := o3) lt eG13 hq16
  rw [← eo14, ← ea15] at ha15
  have hfr := hfr.ap (k := lt) eG13
  rw [← eo14] at hfr
  have hq17 := z_alen eG13
  have hq18 : ab_slots G13 = ab_slots G2 + w12 := z_asl eG13 hq16
  change ab_W _ _ _ (G2 ++ [za w12 (fun _ => 0)]) 48 [some (vR r), some (vz 0), some (vR b4), none, none, none] [.ref G2.length] _
  rw [← eG13, ← ea15]
  change ab_W _ _ _ G13 48 [some (vR r), some (vz 0), some (vR b4), none, none, none] [vR a15] _
  refine ab_astore_n d_CS_ranges_48 (Nat.le_of_ble_eq_true rfl) (Nat.le_of_ble_eq_true rfl) rfl ?_
  change ab_W _ _ _ G13 49 [some (vR r), some (vz 0), some (vR b4), some (vR a15), none, none] [] _
  refine zz_iconst d_CS_ranges_49 ?_
  refine ab_istore d_CS_ranges_50 (Nat.le_of_ble_eq_true rfl) (Nat.le_of_ble_eq_true rfl) rfl ?_
  change ab_W _ _ _ G13 52 [some (vR r), some (vz 0), some (vR b4), some (vR a15), some (vz 0), none] [] _
  refine zz_iconst d_CS_ranges_52 ?_
  refine ab_istore d_CS_ranges_53 (Nat.le_of_ble_eq_true rfl) (Nat.le_of_ble_eq_true rfl) rfl ?_
  change ab_W _ _ _ G13 55 [some (vR r), some (vz 0), some (vR b4), some (vR a15), some (vz 0), some (vz 0)] [] _
  refine ab_less (L' := [some (vR r), none, some (vR b4), some (vR a15), some (vz 0), some (vz 0)]) (fun i v h => by rcases i with _ | _ | _ | _ | _ | _ | i <;> first | exact h | (simp at h)) ?_
  refine y_CS_ranges_55 (r := r) (p := b4) (lp := lp) (w := w1) (q := g5) (mm := cnt) (t := a15) (lt := lt) (w2 := w12) (G0 := G13) (h := (fun _ => 0)) (us := 0) (i := 0) (u := 0) (v := 0) (by have h18 : ab_n0 = 18 := rfl; omega) hpc (by omega) (Int.toNat (cnt - 0) + 1) hb4 ha15 (by omega) (by omega) (by omega) (cs_cut_0 _ _) (by omega) fx.rf (by omega) (fun G19 o20 h21 v22 hNa15 hq23 hq24 hq25 hfk => ?_)
  · have hr := hfk.get hr (by simp only [List.mem_cons, List.not_mem_nil, or_false]; omega)
    have hb := hfk.get hb (by simp only [List.mem_cons, List.not_mem_nil, or_false]; omega)
    have hb4 := hfk.get hb4 (by simp only [List.mem_cons, List.not_mem_nil, or_false]; omega)
    have hfr := hfr.tr hfk (by simp)
    have hq26 := hfk.1
    have ha15 := hNa15
    change ab_W _ _ _ G19 146 [none, none, none, some (vR a15), some (vz (2 * v22)), none] [] _
    have pcsI_r : csI o20 G19 r lr lb n cnt P := ⟨b, f, hr, hb, hcan, hPm, hok, hl1, hl2, hl3⟩
    refine ab_aload_n d_CS_ranges_146 rfl ?_
    refine ab_iload d_CS_ranges_147 rfl ?_
    obtain ⟨w27, hw27⟩ : ∃ z : Nat, (z : Int) = (2 * v22) := ⟨Int.toNat (2 * v22), by omega⟩
    refine ab_callS (d' := d - 1) (as := [vR a15, vz (2 * v22)]) (st := []) (c_AR_copyOf (o := o20) (a := a15) (l := lt) (k := la) (n := w12) (w := w27) (m := (2 * v22)) (f := h21) ha15 (by omega) (by omega) (by omega) (by have h18 : ab_n0 = 18 := rfl; omega) (by omega)) (fun oc G2 h => by rcases h with ⟨_, _, _, h, _⟩ <;> exact ⟨_, h⟩) (by omega) m_AR_copyOf ml_CS_32 st_AR_copyOf (Nat.le_of_ble_eq_true rfl) d_CS_ranges_149 rfl ?_
    intro v G28 hq
    rcases hq with ⟨o29, b30, g31, hv, hfk, hNb30, hq32, hq33, hq34, hq35⟩
    cases hv
    have ne_b30_b4 : nq b30 b4 := by have hlt := hb4.lt; unfold nq; omega
    have ne_b30_a15 : nq b30 a15 := by have hlt := ha15.lt; unfold nq; omega
    have hb4 := hfk.get hb4 (by simp)
    have ha15 := hfk.get ha15 (by simp)
    have pcsI_r := csI.fr hfk pcsI_r (by simp) (by simp)
    have hfr := hfr.tr hfk (fun _ h => absurd h List.not_mem_nil)
    have hq36 := hfk.1
    have hb30 := hNb30
    change ab_W _ _ _ G28 152 [none, none, none, some (vR a15), some (vz (2 * v22)), none] [vR b30] _
    refine ab_aret (rt := _) rfl (Or.inr ⟨_, rfl⟩) (Or.inr ⟨_, rfl⟩) d_CS_ranges_152 ?_
    rw [hQ]; exact ⟨_, _, _, v22, _, _, _, _, rfl, hfr, hb30, pcsI_r, (by omega), (by exact cs_can_eq hq24.1 (fun j j1 j2 => hq35 j j1 (by omega) (by omega))), (by intro c; rw [cs_mem_eq (fun j j1 j2 => hq35 j j1 (by omega) (by omega)), hq24.2.1 c, hpm c]), (by omega), (by omega), (by omega), (by omega), (by omega)⟩
