set_option maxRecDepth 100000 in
set_option maxHeartbeats 4000000 in
theorem z_TX_namedKind {X : ab_X} {d : Nat} {o : Nat → Nat} {G : ab_G} {x : Nat} {lx : Nat} {se : Nat} {by_ : Nat} {lby : Nat} {m : Nat} {f : Int → Int} {n : Int} {pl : Int} {fa : Int} {fp : Int} {kd : Nat} {kn : Int} (hx : cc o G x lx (ab_ob 10 [vR se, vR by_, vz n, vz pl, vz fa, vz fp, vR kd, vz kn])) (hby_ : cc o G by_ lby (za m f)) (c0 : 0 ≤ n ∧ n ≤ ↑m ∧ ↑m ≤ (70000 : Int) ∧ 0 ≤ pl ∧ pl ≤ 70000) (hb : bytes f n) (cf : fa = 0) (cl : 18 ≤ lby ∧ lby < lx) (n18 : ab_n0 = 18) (hd : 7 ≤ d) : ab_F X d y_TX_namedKind (.code y_TX_namedKind b_TX_namedKind 5 (some (.int))) [vR x] G (fun oc G2 => (∃ p2 : Int, ∃ k2 : Nat, ∃ b2 : Int, oc = .returned (some (vz (-2))) ∧ fx o o [lx] G G2 ∧ G2.length = G.length ∧ ab_slots G2 = ab_slots G ∧ cc o G2 x lx (ab_ob 10 [vR se, vR by_, vz n, vz p2, vz fa, vz fp, vR k2, vz b2]) ∧ cc o G2 by_ lby (za m f) ∧ (pl < p2 ∧ p2 ≤ pl + 10) ∧ (b2 = 0 ∨ b2 = 1) ∧ (1 ≤ k2 ∧ k2 ≤ 12) ∧ (nk2 f n pl k2 b2 p2)) ∨ (∃ p2 : Int, oc = .returned (some (vz (-1))) ∧ fx o o [lx] G G2 ∧ G2.length = G.length ∧ ab_slots G2 = ab_slots G ∧ cc o G2 x lx (ab_ob 10 [vR se, vR by_, vz n, vz p2, vz 7, vz pl, vR kd, vz kn]) ∧ cc o G2 by_ lby (za m f) ∧ (pl < p2 ∧ p2 ≤ pl + 10) ∧ (nk3 f n pl))) := by
  refine ab_F_of (by decide +kernel) (Nat.le_of_ble_eq_true rfl) ?_
  obtain ⟨Q, hQ⟩ : ∃ z : Outcome → ab_G → Prop, z = (fun oc G2 => (∃ p2 : Int, ∃ k2 : Nat, ∃ b2 : Int, oc = .returned (some (vz (-2))) ∧ fx o o [lx] G G2 ∧ G2.length = G.length ∧ ab_slots G2 = ab_slots G ∧ cc o G2 x lx (ab_ob 10 [vR se, vR by_, vz n, vz p2, vz fa, vz fp, vR k2, vz b2]) ∧ cc o G2 by_ lby (za m f) ∧ (pl < p2 ∧ p2 ≤ pl + 10) ∧ (b2 = 0 ∨ b2 = 1) ∧ (1 ≤ k2 ∧ k2 ≤ 12) ∧ (nk2 f n pl k2 b2 p2)) ∨ (∃ p2 : Int, oc = .returned (some (vz (-1))) ∧ fx o o [lx] G G2 ∧ G2.length = G.length ∧ ab_slots G2 = ab_slots G ∧ cc o G2 x lx (ab_ob 10 [vR se, vR by_, vz n, vz p2, vz 7, vz pl, vR kd, vz kn]) ∧ cc o G2 by_ lby (za m f) ∧ (pl < p2 ∧ p2 ≤ pl + 10) ∧ (nk3 f n pl))) := ⟨_, rfl⟩
  rw [← hQ]
  change ab_W X (ab_pl y_TX_namedKind b_TX_namedKind 5 (some (.int))) d G 0 [some (vR x), none, none, none, none] [] Q
  have hfr : fx o o [lx] G G := fx.rf
  have hlen : G.length = G.length := rfl
  have hsl : ab_slots G = ab_slots G := rfl
  refine ab_aload_n d_TX_namedKind_0 rfl ?_
  refine ab_getf (fs := [vR se, vR by_, vz n, vz pl, vz fa, vz fp, vR kd, vz kn]) f_TX_43 d_TX_namedKind_1 hx.2.2 rfl ?_
  refine ab_istore_n d_TX_namedKind_4 (Nat.le_of_ble_eq_true rfl) (Nat.le_of_ble_eq_true rfl) rfl ?_
  change ab_W _ _ _ G 5 [some (vR x), some (vz pl), none, none, none] [] _
  refine ab_aload_n d_TX_namedKind_5 rfl ?_
  refine zz_iconst d_TX_namedKind_6 ?_
  refine ab_callV (d' := d - 1) (as := [vz 2]) (st := []) (r := _) (z_TX_peek (o := o) (x := x) (lx := lx) (se := se) (by_ := by_) (lby := lby) (m := m) (f := f) (n := n) (pl := pl) (fa := fa) (fp := fp) (kd := kd) (kn := kn) (k := 2) hx hby_ (by omega) hb (by omega)) (fun oc G2 h => by rcases h with ⟨_, h, _⟩ <;> exact ⟨_, h⟩) (by omega) m_TX_peek ml_TX_61 im_TX_peek se_TX_peek c_TX hx.2.2 (Nat.le_of_ble_eq_true rfl) d_TX_namedKind_7 rfl ?_
  intro v G1 hq
  rcases hq with ⟨v2, hv, hGe, hq3, hq4⟩
  cases hv
  rw [hGe]
  change ab_W _ _ _ G 10 [some (vR x), some (vz pl), none, none, none] [vz v2] _
  refine zz_bipush d_TX_namedKind_10 (by decide) ?_
  refine zz_icmp_ne (tgt := 19) d_TX_namedKind_12 (by decide) (by omega) (by decide) (fun c5 => ?_) (fun c5 => ?_)
  · refine zz_iconst d_TX_namedKind_19 ?_
    refine ab_istore_n d_TX_namedKind_20 (Nat.le_of_ble_eq_true rfl) (Nat.le_of_ble_eq_true rfl) rfl ?_
    change ab_W _ _ _ G 21 [some (vR x), some (vz pl), some (vz 0), none, none] [] _
    refine ab_iload_n d_TX_namedKind_21 rfl ?_
    refine ab_iload_n d_TX_namedKind_22 rfl ?_
    refine zz_if_eq (tgt := 30) d_TX_namedKind_23 (by decide) (by decide) (fun c6 => ?_) (fun c6 => absurd c6 (by decide))
    refine zz_iconst d_TX_namedKind_30 ?_
    refine zz_iadd d_TX_namedKind_31 ?_
    refine ab_istore_n d_TX_namedKind_32 (Nat.le_of_ble_eq_true rfl) (Nat.le_of_ble_eq_true rfl) rfl ?_
    change ab_W _ _ _ G 33 [some (vR x), some (vz pl), some (vz 0), some (vz (pl + 2)), none] [] _
    refine ab_aload_n d_TX_namedKind_33 rfl ?_
    refine ab_iload_n d_TX_namedKind_34 rfl ?_
    refine ab_callV (d' := d - 1) (as := [vz (pl + 2)]) (st := []) (r := _) (c_TX_rangesNamed (o := o) (x := x) (lx := lx) (se := se) (by_ := by_) (lby := lby) (m := m) (f := f) (n := n) (pl := pl) (fa := fa) (fp := fp) (kd := kd) (kn := kn) (b := (pl + 2)) hx hby_ (by omega) hb (by omega) (by omega)) (fun oc G2 h => by rcases h with ⟨_, h, _⟩ | ⟨h, _⟩ <;> exact ⟨_, h⟩) (by omega) m_TX_rangesNamed ml_TX_142 im_TX_rangesNamed se_TX_rangesNamed c_TX hx.2.2 (Nat.le_of_ble_eq_true rfl) d_TX_namedKind_35 rfl ?_
    intro v G7 hq
    rcases hq with ⟨k28, hv, hfk, hlk, hsk, hq9, hq10⟩ | ⟨hv, hfk, hlk, hsk, hq11⟩
    · cases hv
      have hx := hfk.get hx (by simp)
      have hby_ := hfk.get hby_ (by simp)
      have hfr := hfr.tr hfk (fun _ h => absurd h List.not_mem_nil)
      have hlen := hlk.trans hlen
      have hsl := hsk.trans hsl
      change ab_W _ _ _ G7 38 [some (vR x), some (vz pl), some (vz 0), some (vz (pl + 2)), none] [vR k28] _
      refine ab_astore d_TX_namedKind_38 (Nat.le_of_ble_eq_true rfl) (Nat.le_of_ble_eq_true rfl) rfl ?_
      change ab_W _ _ _ G7 40 [some (vR x), some (vz pl), some (vz 0), some (vz (pl + 2)), some (vR k28)] [] _
      refine ab_aload_n d_TX_namedKind_40 rfl ?_
      refine ab_iload_n d_TX_namedKind_41 rfl ?_
      refine zz_bipush d_TX_namedKind_42 (by decide) ?_
      refine zz_iadd d_TX_namedKind_44 ?_
      refine ab_putf (fs := [vR se, vR by_, vz n, vz pl, vz fa, vz fp, vR kd, vz kn]) f_TX_43 (Or.inl rfl) d_TX_namedKind_45 hx.2.2 (Nat.le_of_ble_eq_true rfl) (fun _ => ⟨rfl, rfl⟩) (hx.2.1 (by first | omega | exact (show 18 ≤ _ by omega))) ?_
      obtain ⟨G12, eG12⟩ : ∃ z : ab_G, z = List.set G7 x (ab_ob 10 [vR se, vR by_, vz n, vz ((pl + 2) + 7), vz fa, vz fp, vR kd, vz kn]) := ⟨_, rfl⟩
      have hby_ := hby_.keep hx eG12 (by omega)
      have hlen := (z_len eG12).trans hlen
      have hsl := (z_sl hx eG12 rfl).trans hsl
      have hfr := hfr.wr hx eG12 (by simp)
      have hx := hx.kept eG12
      change ab_W _ _ _ (List.set G7 x (ab_ob 10 [vR se, vR by_, vz n, vz ((pl + 2) + 7), vz fa, vz fp, vR kd, vz kn])) 48 [some (vR x), some (vz pl), some (vz 0), some (vz (pl + 2)), some (vR k28)] [] _
      rw [← eG12]
      refine ab_aload d_TX_namedKind_48 rfl ?_
      refine ab_ifnonnull (tgt := 63) d_TX_namedKind_50 (by decide) ?_
      refine ab_aload_n d_TX_namedKind_63 rfl ?_
      refine ab_aload d_TX_namedKind_64 rfl ?_
      refine ab_iload_n d_TX_namedKind_66 rfl ?_
      refine ab_callV (d' := d - 1) (as := [vR k28, vz 0]) (st := []) (r := _) (z_TX_aKind (o := o) (x := x) (lx := lx) (se := se) (by_ := by_) (n := n) (pl := ((pl + 2) + 7)) (fa := fa) (fp := fp) (kd := kd) (kn := kn) (a := k28) (b := 0) hx (by omega) (by omega) (by omega)) (fun oc G2 h => by rcases h with ⟨h, _⟩ <;> exact ⟨_, h⟩) (by omega) m_TX_aKind ml_TX_67 im_TX_aKind se_TX_aKind c_TX hx.2.2 (Nat.le_of_ble_eq_true rfl) d_TX_namedKind_67 rfl ?_
      intro v G13 hq
      rcases hq with ⟨hv, hfk, hlk, hsk, hNx⟩
      cases hv
      have hby_ := hfk.get hby_ (by simp only [List.mem_cons, List.not_mem_nil, or_false]; omega)
      have hfr := hfr.tr hfk (by simp)
      have hlen := hlk.trans hlen
      have hsl := hsk.trans hsl
      have hx := hNx
      change ab_W _ _ _ G13 70 [some (vR x), some (vz pl), some (vz 0), some (vz (pl + 2)), some (vR k28)] [vz (-2)] _
      refine zz_iret rfl d_TX_namedKind_70 ?_
      rw [hQ]; exact (Or.inl ⟨_, _, _, rfl, hfr, hlen, hsl, hx, hby_, (by omega), (by omega), (by omega), (by unfold nk2; first | (left; exact ⟨by omega, by omega, hq9, by omega⟩) | (right; exact ⟨by omega, by omega, hq9, by omega⟩))⟩)
    · cases hv
      have hx := hfk.get hx (by simp)
      have hby_ := hfk.get hby_ (by simp)
      have hfr := hfr.tr hfk (fun _ h => absurd h List.not_mem_nil)
      have hlen := hlk.trans hlen
      have hsl := hsk.trans hsl
      change ab_W _ _ _ G7 38 [some (vR x), some (vz pl), some (vz 0), some (vz (pl + 2)), none] [vN] _
      refine ab_astoreN d_TX_namedKind_38 (Nat.le_of_ble_eq_true rfl) (Nat.le_of_ble_eq_true rfl) rfl ?_
      change ab_W _ _ _ G7 40 [some (vR x), some (vz pl), some (vz 0), some (vz (pl + 2)), some (vN)] [] _
      refine ab_aload_n d_TX_namedKind_40 rfl ?_
      refine ab_iload_n d_TX_namedKind_41 rfl ?_
      refine zz_bipush d_TX_namedKind_42 (by decide) ?_
      refine zz_iadd d_TX_namedKind_44 ?_
      refine ab_putf (fs := [vR se, vR by_, vz n, vz pl, vz fa, vz fp, vR kd, vz kn]) f_TX_43 (Or.inl rfl) d_TX_namedKind_45 hx.2.2 (Nat.le_of_ble_eq_true rfl) (fun _ => ⟨rfl, rfl⟩) (hx.2.1 (by first | omega | exact (show 18 ≤ _ by omega))) ?_
      obtain ⟨G14, eG14⟩ : ∃ z : ab_G, z = List.set G7 x (ab_ob 10 [vR se, vR by_, vz n, vz ((pl + 2) + 7), vz fa, vz fp, vR kd, vz kn]) := ⟨_, rfl⟩
      have hby_ := hby_.keep hx eG14 (by omega)
      have hlen := (z_len eG14).trans hlen
      have hsl := (z_sl hx eG14 rfl).trans hsl
      have hfr := hfr.wr hx eG14 (by simp)
      have hx := hx.kept eG14
      change ab_W _ _ _ (List.set G7 x (ab_ob 10 [vR se, vR by_, vz n, vz ((pl + 2) + 7), vz fa, vz fp, vR kd, vz kn])) 48 [some (vR x), some (vz pl), some (vz 0), some (vz (pl + 2)), some (vN)] [] _
      rw [← eG14]
      refine ab_aloadN d_TX_namedKind_48 rfl ?_
      refine ab_ifnonnullN d_TX_namedKind_50 ?_
      refine ab_aload_n d_TX_namedKind_53 rfl ?_
      refine zz_bipush d_TX_namedKind_54 (by decide) ?_
      refine ab_iload_n d_TX_namedKind_56 rfl ?_
      refine ab_callV (d' := d - 1) (as := [vz 7, vz pl]) (st := []) (r := _) (z_TX_fail (o := o) (x := x) (lx := lx) (se := se) (by_ := by_) (n := n) (pl := ((pl + 2) + 7)) (fa := fa) (fp := fp) (kd := kd) (kn := kn) (w := 7) (p := pl) hx (by omega) (by omega) (by omega)) (fun oc G2 h => by rcases h with ⟨h, _⟩ | ⟨h, _⟩ <;> exact ⟨_, h⟩) (by omega) m_TX_fail ml_TX_53 im_TX_fail se_TX_fail c_TX hx.2.2 (Nat.le_of_ble_eq_true rfl) d_TX_namedKind_57 rfl ?_
      intro v G15 hq
      rcases hq with ⟨hv, hfk, hlk, hsk, hNx, hq16⟩ | ⟨hv, hGe, hq17⟩
      · cases hv
        have hby_ := hfk.get hby_ (by simp only [List.mem_cons, List.not_mem_nil, or_false]; omega)
        have hfr := hfr.tr hfk (by simp)
        have hlen := hlk.trans hlen
        have hsl := hsk.trans hsl
        have hx := hNx
        change ab_W _ _ _ G15 60 [some (vR x), some (vz pl), some (vz 0), some (vz (pl + 2)), some (vN)] [vz (-1)] _
        refine ab_goto (tgt := 70) d_TX_namedKind_60 (by decide) ?_
        refine zz_iret rfl d_TX_namedKind_70 ?_
        rw [hQ]; exact (Or.inr ⟨_, rfl, hfr, hlen, hsl, hx, hby_, (by omega), (by intro k b q hh; rcases hh with ⟨h1, h2, h3, h4⟩ | ⟨h1, h2, h3, h4⟩; (first | omega | exact hq11 _ h3); (first | omega | exact hq11 _ h3))⟩)
      · cases hv
        rw [hGe]
        change ab_W _ _ _ G14 60 [some (vR x), some (vz pl), some (vz 0), some (vz (pl + 2)), some (vN)] [vz (-1)] _
        exfalso; omega
  · refine zz_iconst d_TX_namedKind_15 ?_
    refine ab_goto (tgt := 20) d_TX_namedKind_16 (by decide) ?_
    refine ab_istore_n d_TX_namedKind_20 (Nat.le_of_ble_eq_true rfl) (Nat.le_of_ble_eq_true rfl) rfl ?_
    change ab_W _ _ _ G 21 [some (vR x), some (vz pl), some (vz 1), none, none] [] _
    refine ab_iload_n d_TX_namedKind_21 rfl ?_
    refine ab_iload_n d_TX_namedKind_22 rfl ?_
    refine zz_if_eq (tgt := 30) d_TX_namedKind_23 (by decide) (by decide) (fun c18 => absurd c18 (by decide)) (fun c18 => ?_)
    refine zz_iconst d_TX_namedKind_26 ?_
    refine ab_goto (tgt := 31) d_TX_namedKind_27 (by decide) ?_
    refine zz_iadd d_TX_namedKind_31 ?_
    refine ab_istore_n d_TX_namedKind_32 (Nat.le_of_ble_eq_true rfl) (Nat.le_of_ble_eq_true rfl) rfl ?_
    change ab_W _ _ _ G 33 [some (vR x), some (vz pl), some (vz 1), some (vz (pl + 3)), none] [] _
    refine ab_aload_n d_TX_namedKind_33 rfl ?_
    refine ab_iload_n d_TX_namedKind_34 rfl ?_
    refine ab_callV (d' := d - 1) (as := [vz (pl + 3)]) (st := []) (r := _) (c_TX_rangesNamed (o := o) (x := x) (lx := lx) (se := se) (by_ := by_) (lby := lby) (m := m) (f := f) (n := n) (pl := pl) (fa := fa) (fp := fp) (kd := kd) (kn := kn) (b := (pl + 3)) hx hby_ (by omega) hb (by omega) (by omega)) (fun oc G2 h => by rcases h with ⟨_, h, _⟩ | ⟨h, _⟩ <;> exact ⟨_, h⟩) (by omega) m_TX_rangesNamed ml_TX_142 im_TX_rangesNamed se_TX_rangesNamed c_TX hx.2.2 (Nat.le_of_ble_eq_true rfl) d_TX_namedKind_35 rfl ?_
    intro v G19 hq
    rcases hq with ⟨k220, hv, hfk, hlk, hsk, hq21, hq22⟩ | ⟨hv, hfk, hlk, hsk, hq23⟩
    · cases hv
      have hx := hfk.get hx (by simp)
      have hby_ := hfk.get hby_ (by simp)
      have hfr := hfr.tr hfk (fun _ h => absurd h List.not_mem_nil)
      have hlen := hlk.trans hlen
      have hsl := hsk.trans hsl
      change ab_W _ _ _ G19 38 [some (vR x), some (vz pl), some (vz 1), some (vz (pl + 3)), none] [vR k220] _
      refine ab_astore d_TX_namedKind_38 (Nat.le_of_ble_eq_true rfl) (Nat.le_of_ble_eq_true rfl) rfl ?_
      change ab_W _ _ _ G19 40 [some (vR x), some (vz pl), some (vz 1), some (vz (pl + 3)), some (vR k220)] [] _
      refine ab_aload_n d_TX_namedKind_40 rfl ?_
      refine ab_iload_n d_TX_namedKind_41 rfl ?_
      refine zz_bipush d_TX_namedKind_42 (by decide) ?_
      refine zz_iadd d_TX_namedKind_44 ?_
      refine ab_putf (fs := [vR se, vR by_, vz n, vz pl, vz fa, vz fp, vR kd, vz kn]) f_TX_43 (Or.inl rfl) d_TX_namedKind_45 hx.2.2 (Nat.le_of_ble_eq_true rfl) (fun _ => ⟨rfl, rfl⟩) (hx.2.1 (by first | omega | exact (show 18 ≤ _ by omega))) ?_
      obtain ⟨G24, eG24⟩ : ∃ z : ab_G, z = List.set G19 x (ab_ob 10 [vR se, vR by_, vz n, vz ((pl + 3) + 7), vz fa, vz fp, vR kd, vz kn]) := ⟨_, rfl⟩
      have hby_ := hby_.keep hx eG24 (by omega)
      have hlen := (z_len eG24).trans hlen
      have hsl := (z_sl hx eG24 rfl).trans hsl
      have hfr := hfr.wr hx eG24 (by simp)
      have hx := hx.kept eG24
      change ab_W _ _ _ (List.set G19 x (ab_ob 10 [vR se, vR by_, vz n, vz ((pl + 3) + 7), vz fa, vz fp, vR kd, vz kn])) 48 [some (vR x), some (vz pl), some (vz 1), some (vz (pl + 3)), some (vR k220)] [] _
      rw [← eG24]
      refine ab_aload d_TX_namedKind_48 rfl ?_
      refine ab_ifnonnull (tgt := 63) d_TX_namedKind_50 (by decide) ?_
      refine ab_aload_n d_TX_namedKind_63 rfl ?_
      refine ab_aload d_TX_namedKind_64 rfl ?_
      refine ab_iload_n d_TX_namedKind_66 rfl ?_
      refine ab_callV (d' := d - 1) (as := [vR k220, vz 1]) (st := []) (r := _) (z_TX_aKind (o := o) (x := x) (lx := lx) (se := se) (by_ := by_) (n := n) (pl := ((pl + 3) + 7)) (fa := fa) (fp := fp) (kd := kd) (kn := kn) (a := k220) (b := 1) hx (by omega) (by omega) (by omega)) (fun oc G2 h => by rcases h with ⟨h, _⟩ <;> exact ⟨_, h⟩) (by omega) m_TX_aKind ml_TX_67 im_TX_aKind se_TX_aKind c_TX hx.2.2 (Nat.le_of_ble_eq_true rfl) d_TX_namedKind_67 rfl ?_
      intro v G25 hq
      rcases hq with ⟨hv, hfk, hlk, hsk, hNx⟩
      cases hv
      have hby_ := hfk.get hby_ (by simp only [List.mem_cons, List.not_mem_nil, or_false]; omega)
      have hfr := hfr.tr hfk (by simp)
      have hlen := hlk.trans hlen
      have hsl := hsk.trans hsl
      have hx := hNx
      change ab_W _ _ _ G25 70 [some (vR x), some (vz pl), some (vz 1), some (vz (pl + 3)), some (vR k220)] [vz (-2)] _
      refine zz_iret rfl d_TX_namedKind_70 ?_
      rw [hQ]; exact (Or.inl ⟨_, _, _, rfl, hfr, hlen, hsl, hx, hby_, (by omega), (by omega), (by omega), (by unfold nk2; first | (left; exact ⟨by omega, by omega, hq21, by omega⟩) | (right; exact ⟨by omega, by omega, hq21, by omega⟩))⟩)
    · cases hv
      have hx := hfk.get hx (by simp)
      have hby_ := hfk.get hby_ (by simp)
      have hfr := hfr.tr hfk (fun _ h => absurd h List.not_mem_nil)
      have hlen := hlk.trans hlen
      have hsl := hsk.trans hsl
      change ab_W _ _ _ G19 38 [some (vR x), some (vz pl), some (vz 1), some (vz (pl + 3)), none] [vN] _
      refine ab_astoreN d_TX_namedKind_38 (Nat.le_of_ble_eq_true rfl) (Nat.le_of_ble_eq_true rfl) rfl ?_
      change ab_W _ _ _ G19 40 [some (vR x), some (vz pl), some (vz 1), some (vz (pl + 3)), some (vN)] [] _
      refine ab_aload_n d_TX_namedKind_40 rfl ?_
      refine ab_iload_n d_TX_namedKind_41 rfl ?_
      refine zz_bipush d_TX_namedKind_42 (by decide) ?_
      refine zz_iadd d_TX_namedKind_44 ?_
      refine ab_putf (fs := [vR se, vR by_, vz n, vz pl, vz fa, vz fp, vR kd, vz kn]) f_TX_43 (Or.inl rfl) d_TX_namedKind_45 hx.2.2 (Nat.le_of_ble_eq_true rfl) (fun _ => ⟨rfl, rfl⟩) (hx.2.1 (by first | omega | exact (show 18 ≤ _ by omega))) ?_
      obtain ⟨G26, eG26⟩ : ∃ z : ab_G, z = List.set G19 x (ab_ob 10 [vR se, vR by_, vz n, vz ((pl + 3) + 7), vz fa, vz fp, vR kd, vz kn]) := ⟨_, rfl⟩
      have hby_ := hby_.keep hx eG26 (by omega)
      have hlen := (z_len eG26).trans hlen
      have hsl := (z_sl hx eG26 rfl).trans hsl
      have hfr := hfr.wr hx eG26 (by simp)
      have hx := hx.kept eG26
      change ab_W _ _ _ (List.set G19 x (ab_ob 10 [vR se, vR by_, vz n, vz ((pl + 3) + 7), vz fa, vz fp, vR kd, vz kn])) 48 [some (vR x), some (vz pl), some (vz 1), some (vz (pl + 3)), some (vN)] [] _
      rw [← eG26]
      refine ab_aloadN d_TX_namedKind_48 rfl ?_
      refine ab_ifnonnullN d_TX_namedKind_50 ?_
      refine ab_aload_n d_TX_namedKind_53 rfl ?_
      refine zz_bipush d_TX_namedKind_54 (by decide) ?_
      refine ab_iload_n d_TX_namedKind_56 rfl ?_
      refine ab_callV (d' := d - 1) (as := [vz 7, vz pl]) (st := []) (r := _) (z_TX_fail (o := o) (x := x) (lx := lx) (se := se) (by_ := by_) (n := n) (pl := ((pl + 3) + 7)) (fa := fa) (fp := fp) (kd := kd) (kn := kn) (w := 7) (p := pl) hx (by omega) (by omega) (by omega)) (fun oc G2 h => by rcases h with ⟨h, _⟩ | ⟨h, _⟩ <;> exact ⟨_, h⟩) (by omega) m_TX_fail ml_TX_53 im_TX_fail se_TX_fail c_TX hx.2.2 (Nat.le_of_ble_eq_true rfl) d_TX_namedKind_57 rfl ?_
      intro v G27 hq
      rcases hq with ⟨hv, hfk, hlk, hsk, hNx, hq28⟩ | ⟨hv, hGe, hq29⟩
      · cases hv
        have hby_ := hfk.get hby_ (by simp only [List.mem_cons, List.not_mem_nil, or_false]; omega)
        have hfr := hfr.tr hfk (by simp)
        have hlen := hlk.trans hlen
        have hsl := hsk.trans hsl
        have hx := hNx
        change ab_W _ _ _ G27 60 [some (vR x), some (vz pl), some (vz 1), some (vz (pl + 3)), some (vN)] [vz (-1)] _
        refine ab_goto (tgt := 70) d_TX_namedKind_60 (by decide) ?_
        refine zz_iret rfl d_TX_namedKind_70 ?_
        rw [hQ]; exact (Or.inr ⟨_, rfl, hfr, hlen, hsl, hx, hby_, (by omega), (by intro k b q hh; rcases hh with ⟨h1, h2, h3, h4⟩ | ⟨h1, h2, h3, h4⟩; (first | omega | exact hq23 _ h3); (first | omega | exact hq23 _ h3))⟩)
      · cases hv
        rw [hGe]
        change ab_W _ _ _ G26 60 [some (vR x), some (vz pl), some (vz 1), some (vz (pl + 3)), some (vN)] [vz (-1)] _
        exfalso; omega
