set_option maxRecDepth 100000 in
set_option maxHeartbeats 4000000 in
theorem z_TX_isNamedKind {X : ab_X} {d : Nat} {o : Nat → Nat} {G : ab_G} {x : Nat} {lx : Nat} {se : Nat} {by_ : Nat} {lby : Nat} {m : Nat} {f : Int → Int} {n : Int} {pl : Int} {fa : Int} {fp : Int} {kd : Nat} {kn : Int} (hx : cc o G x lx (ab_ob 10 [vR se, vR by_, vz n, vz pl, vz fa, vz fp, vR kd, vz kn])) (hby_ : cc o G by_ lby (za m f)) (c0 : 0 ≤ n ∧ n ≤ ↑m ∧ ↑m ≤ (100000 : Int) ∧ -100 ≤ pl ∧ pl ≤ 100000) (hb : bytes f n) (hd : 1 ≤ d) : ab_F X d y_TX_isNamedKind (.code y_TX_isNamedKind b_TX_isNamedKind 1 (some (.boolean))) [vR x] G (fun oc G2 => (oc = .returned (some (vz 1)) ∧ G2 = G ∧ (tpk f n pl = 91 ∧ tpk f n (pl + 1) = 58)) ∨ (oc = .returned (some (vz 0)) ∧ G2 = G ∧ (¬ (tpk f n pl = 91 ∧ tpk f n (pl + 1) = 58)))) := by
  refine ab_F_of (by decide +kernel) (Nat.le_of_ble_eq_true rfl) ?_
  obtain ⟨Q, hQ⟩ : ∃ z : Outcome → ab_G → Prop, z = (fun oc G2 => (oc = .returned (some (vz 1)) ∧ G2 = G ∧ (tpk f n pl = 91 ∧ tpk f n (pl + 1) = 58)) ∨ (oc = .returned (some (vz 0)) ∧ G2 = G ∧ (¬ (tpk f n pl = 91 ∧ tpk f n (pl + 1) = 58)))) := ⟨_, rfl⟩
  rw [← hQ]
  change ab_W X (ab_pl y_TX_isNamedKind b_TX_isNamedKind 1 (some (.boolean))) d G 0 [some (vR x)] [] Q
  have hfr : fx o o [] G G := fx.rf
  have hlen : G.length = G.length := rfl
  have hsl : ab_slots G = ab_slots G := rfl
  refine ab_aload_n d_TX_isNamedKind_0 rfl ?_
  refine zz_iconst d_TX_isNamedKind_1 ?_
  refine ab_callV (d' := d - 1) (as := [vz 0]) (st := []) (r := _) (z_TX_peek0 (o := o) (x := x) (lx := lx) (se := se) (by_ := by_) (lby := lby) (m := m) (f := f) (n := n) (pl := pl) (fa := fa) (fp := fp) (kd := kd) (kn := kn) hx hby_ (by omega) hb) (fun oc G2 h => by rcases h with ⟨_, h, _⟩ <;> exact ⟨_, h⟩) (by omega) m_TX_peek ml_TX_61 im_TX_peek se_TX_peek c_TX hx.2.2 (Nat.le_of_ble_eq_true rfl) d_TX_isNamedKind_2 rfl ?_
  intro v G1 hq
  rcases hq with ⟨v2, hv, hGe, hq3, hq4⟩
  cases hv
  rw [hGe]
  change ab_W _ _ _ G 5 [some (vR x)] [vz v2] _
  refine zz_bipush d_TX_isNamedKind_5 (by decide) ?_
  refine zz_icmp_ne (tgt := 24) d_TX_isNamedKind_7 (by decide) (by omega) (by decide) (fun c5 => ?_) (fun c5 => ?_)
  · refine zz_iconst d_TX_isNamedKind_24 ?_
    refine zz_bret rfl (by decide) d_TX_isNamedKind_25 ?_
    rw [hQ]; exact (Or.inr ⟨rfl, rfl, (by omega)⟩)
  · refine ab_aload_n d_TX_isNamedKind_10 rfl ?_
    refine zz_iconst d_TX_isNamedKind_11 ?_
    refine ab_callV (d' := d - 1) (as := [vz 1]) (st := []) (r := _) (z_TX_peek (o := o) (x := x) (lx := lx) (se := se) (by_ := by_) (lby := lby) (m := m) (f := f) (n := n) (pl := pl) (fa := fa) (fp := fp) (kd := kd) (kn := kn) (k := 1) hx hby_ (by omega) hb (by omega)) (fun oc G2 h => by rcases h with ⟨_, h, _⟩ <;> exact ⟨_, h⟩) (by omega) m_TX_peek ml_TX_61 im_TX_peek se_TX_peek c_TX hx.2.2 (Nat.le_of_ble_eq_true rfl) d_TX_isNamedKind_12 rfl ?_
    intro v G6 hq
    rcases hq with ⟨v7, hv, hGe, hq8, hq9⟩
    cases hv
    rw [hGe]
    change ab_W _ _ _ G 15 [some (vR x)] [vz v7] _
    refine zz_bipush d_TX_isNamedKind_15 (by decide) ?_
    refine zz_icmp_ne (tgt := 24) d_TX_isNamedKind_17 (by decide) (by omega) (by decide) (fun c10 => ?_) (fun c10 => ?_)
    · refine zz_iconst d_TX_isNamedKind_24 ?_
      refine zz_bret rfl (by decide) d_TX_isNamedKind_25 ?_
      rw [hQ]; exact (Or.inr ⟨rfl, rfl, (by omega)⟩)
    · refine zz_iconst d_TX_isNamedKind_20 ?_
      refine ab_goto (tgt := 25) d_TX_isNamedKind_21 (by decide) ?_
      refine zz_bret rfl (by decide) d_TX_isNamedKind_25 ?_
      rw [hQ]; exact (Or.inl ⟨rfl, rfl, (by omega)⟩)
set_option maxRecDepth 100000 in
set_option maxHeartbeats 4000000 in
theorem z_TX_member {X : ab_X} {d : Nat} {o : Nat → Nat} {G : ab_G} {x : Nat} {lx : Nat} {se : Nat} {by_ : Nat} {lby : Nat} {m : Nat} {f : Int → Int} {n : Int} {pl : Int} {fa : Int} {fp : Int} {kd : Nat} {kn : Int} {op : Int} (hx : cc o G x lx (ab_ob 10 [vR se, vR by_, vz n, vz pl, vz fa, vz fp, vR kd, vz kn])) (hby_ : cc o G by_ lby (za m f)) (c0 : 0 ≤ n ∧ n ≤ ↑m ∧ ↑m ≤ (70000 : Int) ∧ 0 ≤ pl ∧ pl ≤ 70000) (hb : bytes f n) (cf : fa = 0) (cl : 18 ≤ lby ∧ lby < lx) (n18 : ab_n0 = 18) (hd : 5 ≤ d) : ab_F X d y_TX_member (.code y_TX_member b_TX_member 4 (some (.int))) [vR x, vz op] G (fun oc G2 => (∃ v : Int, ∃ p2 : Int, oc = .returned (some (vz v)) ∧ fx o o [lx] G G2 ∧ G2.length = G.length ∧ ab_slots G2 = ab_slots G ∧ cc o G2 x lx (ab_ob 10 [vR se, vR by_, vz n, vz p2, vz fa, vz fp, vR kd, vz kn]) ∧ cc o G2 by_ lby (za m f) ∧ (0 ≤ v ∧ v ≤ 1114111) ∧ (pl < p2 ∧ p2 ≤ pl + 10 ∧ pl < n) ∧ (mem1 f n pl v p2)) ∨ (∃ p2 : Int, ∃ k2 : Nat, ∃ b2 : Int, oc = .returned (some (vz (-2))) ∧ fx o o [lx] G G2 ∧ G2.length = G.length ∧ ab_slots G2 = ab_slots G ∧ cc o G2 x lx (ab_ob 10 [vR se, vR by_, vz n, vz p2, vz fa, vz fp, vR k2, vz b2]) ∧ cc o G2 by_ lby (za m f) ∧ (pl < p2 ∧ p2 ≤ pl + 10 ∧ pl < n) ∧ (b2 = 0 ∨ b2 = 1) ∧ (1 ≤ k2 ∧ k2 ≤ 7) ∧ (tpk f n pl = 92 ∧ esc2 f n pl p2 k2 b2)) ∨ (∃ p2 : Int, ∃ w : Int, ∃ fp2 : Int, oc = .returned (some (vz (-1))) ∧ fx o o [lx] G G2 ∧ G2.length = G.length ∧ ab_slots G2 = ab_slots G ∧ cc o G2 x lx (ab_ob 10 [vR se, vR by_, vz n, vz p2, vz w, vz fp2, vR kd, vz kn]) ∧ cc o G2 by_ lby (za m f) ∧ (pl ≤ p2 ∧ p2 ≤ pl + 10) ∧ (1 ≤ w ∧ w ≤ 7) ∧ (mem3 f n pl op w fp2))) := by
  refine ab_F_of (by decide +kernel) (Nat.le_of_ble_eq_true rfl) ?_
  obtain ⟨Q, hQ⟩ : ∃ z : Outcome → ab_G → Prop, z = (fun oc G2 => (∃ v : Int, ∃ p2 : Int, oc = .returned (some (vz v)) ∧ fx o o [lx] G G2 ∧ G2.length = G.length ∧ ab_slots G2 = ab_slots G ∧ cc o G2 x lx (ab_ob 10 [vR se, vR by_, vz n, vz p2, vz fa, vz fp, vR kd, vz kn]) ∧ cc o G2 by_ lby (za m f) ∧ (0 ≤ v ∧ v ≤ 1114111) ∧ (pl < p2 ∧ p2 ≤ pl + 10 ∧ pl < n) ∧ (mem1 f n pl v p2)) ∨ (∃ p2 : Int, ∃ k2 : Nat, ∃ b2 : Int, oc = .returned (some (vz (-2))) ∧ fx o o [lx] G G2 ∧ G2.length = G.length ∧ ab_slots G2 = ab_slots G ∧ cc o G2 x lx (ab_ob 10 [vR se, vR by_, vz n, vz p2, vz fa, vz fp, vR k2, vz b2]) ∧ cc o G2 by_ lby (za m f) ∧ (pl < p2 ∧ p2 ≤ pl + 10 ∧ pl < n) ∧ (b2 = 0 ∨ b2 = 1) ∧ (1 ≤ k2 ∧ k2 ≤ 7) ∧ (tpk f n pl = 92 ∧ esc2 f n pl p2 k2 b2)) ∨ (∃ p2 : Int, ∃ w : Int, ∃ fp2 : Int, oc = .returned (some (vz (-1))) ∧ fx o o [lx] G G2 ∧ G2.length = G.length ∧ ab_slots G2 = ab_slots G ∧ cc o G2 x lx (ab_ob 10 [vR se, vR by_, vz n, vz p2, vz w, vz fp2, vR kd, vz kn]) ∧ cc o G2 by_ lby (za m f) ∧ (pl ≤ p2 ∧ p2 ≤ pl + 10) ∧ (1 ≤ w ∧ w ≤ 7) ∧ (mem3 f n pl op w fp2))) := ⟨_, rfl⟩
  rw [← hQ]
  change ab_W X (ab_pl y_TX_member b_TX_member 4 (some (.int))) d G 0 [some (vR x), some (vz op), none, none] [] Q
  have hfr : fx o o [lx] G G := fx.rf
  have hlen : G.length = G.length := rfl
  have hsl : ab_slots G = ab_slots G := rfl
  refine ab_aload_n d_TX_member_0 rfl ?_
  refine ab_getf (fs := [vR se, vR by_, vz n, vz pl, vz fa, vz fp, vR kd, vz kn]) f_TX_43 d_TX_member_1 hx.2.2 rfl ?_
  refine ab_aload_n d_TX_member_4 rfl ?_
  refine ab_getf (fs := [vR se, vR by_, vz n, vz pl, vz fa, vz fp, vR kd, vz kn]) f_TX_40 d_TX_member_5 hx.2.2 rfl ?_
  refine zz_icmp_lt (tgt := 18) d_TX_member_8 (by decide) (by omega) (by omega) (fun c1 => ?_) (fun c1 => ?_)
  · refine ab_aload_n d_TX_member_18 rfl ?_
    refine zz_iconst d_TX_member_19 ?_
    refine ab_callV (d' := d - 1) (as := [vz 0]) (st := []) (r := _) (z_TX_peek0 (o := o) (x := x) (lx := lx) (se := se) (by_ := by_) (lby := lby) (m := m) (f := f) (n := n) (pl := pl) (fa := fa) (fp := fp) (kd := kd) (kn := kn) hx hby_ (by omega) hb) (fun oc G2 h => by rcases h with ⟨_, h, _⟩ <;> exact ⟨_, h⟩) (by omega) m_TX_peek ml_TX_61 im_TX_peek se_TX_peek c_TX hx.2.2 (Nat.le_of_ble_eq_true rfl) d_TX_member_20 rfl ?_
    intro v G2 hq
    rcases hq with ⟨v3, hv, hGe, hq4, hq5⟩
    cases hv
    rw [hGe]
    change ab_W _ _ _ G 23 [some (vR x), some (vz op), none, none] [vz v3] _
    refine zz_bipush d_TX_member_23 (by decide) ?_
    refine zz_icmp_eq (tgt := 33) d_TX_member_25 (by decide) (by omega) (by decide) (fun c6 => ?_) (fun c6 => ?_)
    · refine ab_aload_n d_TX_member_33 rfl ?_
      refine ab_getf (fs := [vR se, vR by_, vz n, vz pl, vz fa, vz fp, vR kd, vz kn]) f_TX_43 d_TX_member_34 hx.2.2 rfl ?_
      refine ab_istore_n d_TX_member_37 (Nat.le_of_ble_eq_true rfl) (Nat.le_of_ble_eq_true rfl) rfl ?_
      change ab_W _ _ _ G 38 [some (vR x), some (vz op), some (vz pl), none] [] _
      refine ab_aload_n d_TX_member_38 rfl ?_
      refine ab_callV (d' := d - 1) (as := []) (st := []) (r := _) (z_TX_escape (o := o) (x := x) (lx := lx) (se := se) (by_ := by_) (lby := lby) (m := m) (f := f) (n := n) (pl := pl) (fa := fa) (fp := fp) (kd := kd) (kn := kn) hx hby_ (by omega) hb (by omega) (by omega) (by omega) (by omega)) (fun oc G2 h => by rcases h with ⟨_, _, h, _⟩ | ⟨_, _, _, h, _⟩ | ⟨_, _, h, _⟩ <;> exact ⟨_, h⟩) (by omega) m_TX_escape ml_TX_139 im_TX_escape se_TX_escape c_TX hx.2.2 (Nat.le_of_ble_eq_true rfl) d_TX_member_39 rfl ?_
      intro v G7 hq
      rcases hq with ⟨v8, p29, hv, hfk, hlk, hsk, hNx, hNby_, hq10, hq11, hq12⟩ | ⟨p213, k214, b215, hv, hfk, hlk, hsk, hNx, hNby_, hq16, hq17, hq18, hq19⟩ | ⟨p220, w21, hv, hfk, hlk, hsk, hNx, hNby_, hq22, hq23, hq24⟩
      · cases hv
        have hfr := hfr.tr hfk (by simp)
        have hlen := hlk.trans hlen
        have hsl := hsk.trans hsl
        have hx := hNx
        have hby_ := hNby_
        change ab_W _ _ _ G7 42 [some (vR x), some (vz op), some (vz pl), none] [vz v8] _
        refine ab_istore_n d_TX_member_42 (Nat.le_of_ble_eq_true rfl) (Nat.le_of_ble_eq_true rfl) rfl ?_
        change ab_W _ _ _ G7 43 [some (vR x), some (vz op), some (vz pl), some (vz v8)] [] _
        refine ab_iload_n d_TX_member_43 rfl ?_
        refine zz_bipush d_TX_member_44 (by decide) ?_
        refine zz_icmp_ge (tgt := 58) d_TX_member_46 (by decide) (by omega) (by decide) (fun c25 => ?_) (fun c25 => ?_)
        · refine ab_iload_n d_TX_member_58 rfl ?_
          refine zz_iret rfl d_TX_member_59 ?_
          rw [hQ]; exact (Or.inl ⟨_, _, rfl, hfr, hlen, hsl, hx, hby_, (by omega), (by omega), (by unfold mem1; first | (left; refine ⟨by omega, by omega, by assumption, by assumption⟩) | (right; exact ⟨by omega, by assumption, by omega⟩))⟩)
        · refine ab_aload_n d_TX_member_49 rfl ?_
          refine zz_iconst d_TX_member_50 ?_
          refine ab_iload_n d_TX_member_51 rfl ?_
          refine ab_callV (d' := d - 1) (as := [vz 5, vz pl]) (st := []) (r := _) (z_TX_fail (o := o) (x := x) (lx := lx) (se := se) (by_ := by_) (n := n) (pl := p29) (fa := fa) (fp := fp) (kd := kd) (kn := kn) (w := 5) (p := pl) hx (by omega) (by omega) (by omega)) (fun oc G2 h => by rcases h with ⟨h, _⟩ | ⟨h, _⟩ <;> exact ⟨_, h⟩) (by omega) m_TX_fail ml_TX_53 im_TX_fail se_TX_fail c_TX hx.2.2 (Nat.le_of_ble_eq_true rfl) d_TX_member_52 rfl ?_
          intro v G26 hq
          rcases hq with ⟨hv, hfk, hlk, hsk, hNx, hq27⟩ | ⟨hv, hGe, hq28⟩
          · cases hv
            have hby_ := hfk.get hby_ (by simp only [List.mem_cons, List.not_mem_nil, or_false]; omega)
            have hfr := hfr.tr hfk (by simp)
            have hlen := hlk.trans hlen
            have hsl := hsk.trans hsl
            have hx := hNx
            change ab_W _ _ _ G26 55 [some (vR x), some (vz op), some (vz pl), some (vz v8)] [vz (-1)] _
            refine ab_goto (tgt := 59) d_TX_member_55 (by decide) ?_
            refine zz_iret rfl d_TX_member_59 ?_
            rw [hQ]; exact (Or.inr (Or.inr ⟨_, _, _, rfl, hfr, hlen, hsl, hx, hby_, (by omega), (by omega), (by unfold mem3; first | (left; exact ⟨by omega, rfl, rfl⟩) | (right; left; exact ⟨by omega, by omega, by assumption, rfl, rfl⟩) | (right; right; left; exact ⟨by omega, by assumption, rfl⟩) | (right; right; right; exact ⟨by omega, ⟨_, _, by assumption, by omega⟩, rfl, rfl⟩))⟩))
          · cases hv
            rw [hGe]
            change ab_W _ _ _ G7 55 [some (vR x), some (vz op), some (vz pl), some (vz v8)] [vz (-1)] _
            exfalso; omega
      · cases hv
        have hfr := hfr.tr hfk (by simp)
        have hlen := hlk.trans hlen
        have hsl := hsk.trans hsl
        have hx := hNx
        have hby_ := hNby_
        change ab_W _ _ _ G7 42 [some (vR x), some (vz op), some (vz pl), none] [vz (-2)] _
        refine ab_istore_n d_TX_member_42 (Nat.le_of_ble_eq_true rfl) (Nat.le_of_ble_eq_true rfl) rfl ?_
        change ab_W _ _ _ G7 43 [some (vR x), some (vz op), some (vz pl), some (vz (-2))] [] _
        refine ab_iload_n d_TX_member_43 rfl ?_
        refine zz_bipush d_TX_member_44 (by decide) ?_
        refine zz_icmp_ge (tgt := 58) d_TX_member_46 (by decide) (by decide) (by decide) (fun c29 => ?_) (fun c29 => absurd c29 (by decide))
        refine ab_iload_n d_TX_member_58 rfl ?_
        refine zz_iret rfl d_TX_member_59 ?_
        rw [hQ]; exact (Or.inr (Or.inl ⟨_, _, _, rfl, hfr, hlen, hsl, hx, hby_, (by omega), (by omega), (by omega), (by exact ⟨by omega, by assumption⟩)⟩))
      · cases hv
        have hfr := hfr.tr hfk (by simp)
        have hlen := hlk.trans hlen
        have hsl := hsk.trans hsl
        have hx := hNx
        have hby_ := hNby_
        change ab_W _ _ _ G7 42 [some (vR x), some (vz op), some (vz pl), none] [vz (-1)] _
        refine ab_istore_n d_TX_member_42 (Nat.le_of_ble_eq_true rfl) (Nat.le_of_ble_eq_true rfl) rfl ?_
        change ab_W _ _ _ G7 43 [some (vR x), some (vz op), some (vz pl), some (vz (-1))] [] _
        refine ab_iload_n d_TX_member_43 rfl ?_
        refine zz_bipush d_TX_member_44 (by decide) ?_
        refine zz_icmp_ge (tgt := 58) d_TX_member_46 (by decide) (by decide) (by decide) (fun c30 => ?_) (fun c30 => absurd c30 (by decide))
        refine ab_iload_n d_TX_member_58 rfl ?_
        refine zz_iret rfl d_TX_member_59 ?_
        rw [hQ]; exact (Or.inr (Or.inr ⟨_, _, _, rfl, hfr, hlen, hsl, hx, hby_, (by omega), (by omega), (by unfold mem3; first | (left; exact ⟨by omega, rfl, rfl⟩) | (right; left; exact ⟨by omega, by omega, by assumption, rfl, rfl⟩) | (right; right; left; exact ⟨by omega, by assumption, rfl⟩) | (right; right; right; exact ⟨by omega, ⟨_, _, by assumption, by omega⟩, rfl, rfl⟩))⟩))
    · refine ab_aload_n d_TX_member_28 rfl ?_
      refine ab_callV (d' := d - 1) (as := []) (st := []) (r := _) (z_TX_character (o := o) (x := x) (lx := lx) (se := se) (by_ := by_) (lby := lby) (m := m) (f := f) (n := n) (pl := pl) (fa := fa) (fp := fp) (kd := kd) (kn := kn) hx hby_ (by omega) hb (by omega) (by omega) (by omega) (by omega)) (fun oc G2 h => by rcases h with ⟨h, _⟩ | ⟨_, _, h, _⟩ <;> exact ⟨_, h⟩) (by omega) m_TX_character ml_TX_136 im_TX_character se_TX_character c_TX hx.2.2 (Nat.le_of_ble_eq_true rfl) d_TX_member_29 rfl ?_
      intro v G31 hq
      rcases hq with ⟨hv, hfk, hlk, hsk, hNx, hq32⟩ | ⟨v33, p234, hv, hfk, hlk, hsk, hNx, hq35, hq36, hq37, hq38⟩
      · cases hv
        have hby_ := hfk.get hby_ (by simp only [List.mem_cons, List.not_mem_nil, or_false]; omega)
        have hfr := hfr.tr hfk (by simp)
        have hlen := hlk.trans hlen
        have hsl := hsk.trans hsl
        have hx := hNx
        change ab_W _ _ _ G31 32 [some (vR x), some (vz op), none, none] [vz (-1)] _
        refine zz_iret rfl d_TX_member_32 ?_
        rw [hQ]; exact (Or.inr (Or.inr ⟨_, _, _, rfl, hfr, hlen, hsl, hx, hby_, (by omega), (by omega), (by unfold mem3; first | (left; exact ⟨by omega, rfl, rfl⟩) | (right; left; exact ⟨by omega, by omega, by assumption, rfl, rfl⟩) | (right; right; left; exact ⟨by omega, by assumption, rfl⟩) | (right; right; right; exact ⟨by omega, ⟨_, _, by assumption, by omega⟩, rfl, rfl⟩))⟩))
      · cases hv
        have hby_ := hfk.get hby_ (by simp only [List.mem_cons, List.not_mem_nil, or_false]; omega)
        have hfr := hfr.tr hfk (by simp)
        have hlen := hlk.trans hlen
        have hsl := hsk.trans hsl
        have hx := hNx
        change ab_W _ _ _ G31 32 [some (vR x), some (vz op), none, none] [vz v33] _
        refine zz_iret rfl d_TX_member_32 ?_
        rw [hQ]; exact (Or.inl ⟨_, _, rfl, hfr, hlen, hsl, hx, hby_, (by omega), (by omega), (by unfold mem1; first | (left; refine ⟨by omega, by omega, by assumption, by assumption⟩) | (right; exact ⟨by omega, by assumption, by omega⟩))⟩)
  · refine ab_aload_n d_TX_member_11 rfl ?_
    refine zz_iconst d_TX_member_12 ?_
    refine ab_iload_n d_TX_member_13 rfl ?_
    refine ab_callV (d' := d - 1) (as := [vz 4, vz op]) (st := []) (r := _) (z_TX_fail (o := o) (x := x) (lx := lx) (se := se) (by_ := by_) (n := n) (pl := pl) (fa := fa) (fp := fp) (kd := kd) (kn := kn) (w := 4) (p := op) hx (by omega) (by omega) (by omega)) (fun oc G2 h => by rcases h with ⟨h, _⟩ | ⟨h, _⟩ <;> exact ⟨_, h⟩) (by omega) m_TX_fail ml_TX_53 im_TX_fail se_TX_fail c_TX hx.2.2 (Nat.le_of_ble_eq_true rfl) d_TX_member_14 rfl ?_
    intro v G39 hq
    rcases hq with ⟨hv, hfk, hlk, hsk, hNx, hq40⟩ | ⟨hv, hGe, hq41⟩
    · cases hv
      have hby_ := hfk.get hby_ (by simp only [List.mem_cons, List.not_mem_nil, or_false]; omega)
      have hfr := hfr.tr hfk (by simp)
      have hlen := hlk.trans hlen
      have hsl := hsk.trans hsl
      have hx := hNx
      change ab_W _ _ _ G39 17 [some (vR x), some (vz op), none, none] [vz (-1)] _
      refine zz_iret rfl d_TX_member_17 ?_
      rw [hQ]; exact (Or.inr (Or.inr ⟨_, _, _, rfl, hfr, hlen, hsl, hx, hby_, (by omega), (by omega), (by unfold mem3; first | (left; exact ⟨by omega, rfl, rfl⟩) | (right; left; exact ⟨by omega, by omega, by assumption, rfl, rfl⟩) | (right; right; left; exact ⟨by omega, by assumption, rfl⟩) | (right; right; right; exact ⟨by omega, ⟨_, _, by assumption, by omega⟩, rfl, rfl⟩))⟩))
    · cases hv
      rw [hGe]
      change ab_W _ _ _ G 17 [some (vR x), some (vz op), none, none] [vz (-1)] _
      exfalso; omega
