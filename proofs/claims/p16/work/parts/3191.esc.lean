set_option maxRecDepth 100000 in
set_option maxHeartbeats 4000000 in
theorem z_TX_escape {X : ab_X} {d : Nat} {o : Nat → Nat} {G : ab_G} {x : Nat} {lx : Nat} {se : Nat} {by_ : Nat} {lby : Nat} {m : Nat} {f : Int → Int} {n : Int} {pl : Int} {fa : Int} {fp : Int} {kd : Nat} {kn : Int} (hx : cc o G x lx (ab_ob 10 [vR se, vR by_, vz n, vz pl, vz fa, vz fp, vR kd, vz kn])) (hby_ : cc o G by_ lby (za m f)) (c0 : 0 ≤ n ∧ n ≤ ↑m ∧ ↑m ≤ (70000 : Int) ∧ 0 ≤ pl ∧ pl ≤ 70000) (hb : bytes f n) (cf : fa = 0) (cl : 18 ≤ lby ∧ lby < lx) (n18 : ab_n0 = 18) (hd : 4 ≤ d) : ab_F X d y_TX_escape (.code y_TX_escape b_TX_escape 3 (some (.int))) [vR x] G (fun oc G2 => (∃ v : Int, ∃ p2 : Int, oc = .returned (some (vz v)) ∧ fx o o [lx] G G2 ∧ G2.length = G.length ∧ ab_slots G2 = ab_slots G ∧ cc o G2 x lx (ab_ob 10 [vR se, vR by_, vz n, vz p2, vz fa, vz fp, vR kd, vz kn]) ∧ cc o G2 by_ lby (za m f) ∧ (-9 ≤ v ∧ v ≤ 1114111 ∧ ¬ v = -1 ∧ ¬ v = -2) ∧ (pl < p2 ∧ p2 ≤ pl + 10) ∧ (esc1 f n pl v p2)) ∨ (∃ p2 : Int, ∃ k2 : Nat, ∃ b2 : Int, oc = .returned (some (vz (-2))) ∧ fx o o [lx] G G2 ∧ G2.length = G.length ∧ ab_slots G2 = ab_slots G ∧ cc o G2 x lx (ab_ob 10 [vR se, vR by_, vz n, vz p2, vz fa, vz fp, vR k2, vz b2]) ∧ cc o G2 by_ lby (za m f) ∧ (pl < p2 ∧ p2 ≤ pl + 10) ∧ (b2 = 0 ∨ b2 = 1) ∧ (1 ≤ k2 ∧ k2 ≤ 7) ∧ (esc2 f n pl p2 k2 b2)) ∨ (∃ p2 : Int, ∃ w : Int, oc = .returned (some (vz (-1))) ∧ fx o o [lx] G G2 ∧ G2.length = G.length ∧ ab_slots G2 = ab_slots G ∧ cc o G2 x lx (ab_ob 10 [vR se, vR by_, vz n, vz p2, vz w, vz pl, vR kd, vz kn]) ∧ cc o G2 by_ lby (za m f) ∧ (pl < p2 ∧ p2 ≤ pl + 10) ∧ (w = 5 ∨ w = 7) ∧ (esc3 f n pl w))) := by
  refine ab_F_of (by decide +kernel) (Nat.le_of_ble_eq_true rfl) ?_
  obtain ⟨Q, hQ⟩ : ∃ z : Outcome → ab_G → Prop, z = (fun oc G2 => (∃ v : Int, ∃ p2 : Int, oc = .returned (some (vz v)) ∧ fx o o [lx] G G2 ∧ G2.length = G.length ∧ ab_slots G2 = ab_slots G ∧ cc o G2 x lx (ab_ob 10 [vR se, vR by_, vz n, vz p2, vz fa, vz fp, vR kd, vz kn]) ∧ cc o G2 by_ lby (za m f) ∧ (-9 ≤ v ∧ v ≤ 1114111 ∧ ¬ v = -1 ∧ ¬ v = -2) ∧ (pl < p2 ∧ p2 ≤ pl + 10) ∧ (esc1 f n pl v p2)) ∨ (∃ p2 : Int, ∃ k2 : Nat, ∃ b2 : Int, oc = .returned (some (vz (-2))) ∧ fx o o [lx] G G2 ∧ G2.length = G.length ∧ ab_slots G2 = ab_slots G ∧ cc o G2 x lx (ab_ob 10 [vR se, vR by_, vz n, vz p2, vz fa, vz fp, vR k2, vz b2]) ∧ cc o G2 by_ lby (za m f) ∧ (pl < p2 ∧ p2 ≤ pl + 10) ∧ (b2 = 0 ∨ b2 = 1) ∧ (1 ≤ k2 ∧ k2 ≤ 7) ∧ (esc2 f n pl p2 k2 b2)) ∨ (∃ p2 : Int, ∃ w : Int, oc = .returned (some (vz (-1))) ∧ fx o o [lx] G G2 ∧ G2.length = G.length ∧ ab_slots G2 = ab_slots G ∧ cc o G2 x lx (ab_ob 10 [vR se, vR by_, vz n, vz p2, vz w, vz pl, vR kd, vz kn]) ∧ cc o G2 by_ lby (za m f) ∧ (pl < p2 ∧ p2 ≤ pl + 10) ∧ (w = 5 ∨ w = 7) ∧ (esc3 f n pl w))) := ⟨_, rfl⟩
  rw [← hQ]
  change ab_W X (ab_pl y_TX_escape b_TX_escape 3 (some (.int))) d G 0 [some (vR x), none, none] [] Q
  have hfr : fx o o [lx] G G := fx.rf
  have hlen : G.length = G.length := rfl
  have hsl : ab_slots G = ab_slots G := rfl
  refine ab_aload_n d_TX_escape_0 rfl ?_
  refine ab_getf (fs := [vR se, vR by_, vz n, vz pl, vz fa, vz fp, vR kd, vz kn]) f_TX_43 d_TX_escape_1 hx.2.2 rfl ?_
  refine ab_istore_n d_TX_escape_4 (Nat.le_of_ble_eq_true rfl) (Nat.le_of_ble_eq_true rfl) rfl ?_
  change ab_W _ _ _ G 5 [some (vR x), some (vz pl), none] [] _
  refine ab_aload_n d_TX_escape_5 rfl ?_
  refine zz_iconst d_TX_escape_6 ?_
  refine ab_callV (d' := d - 1) (as := [vz 1]) (st := []) (r := _) (z_TX_peek (o := o) (x := x) (lx := lx) (se := se) (by_ := by_) (lby := lby) (m := m) (f := f) (n := n) (pl := pl) (fa := fa) (fp := fp) (kd := kd) (kn := kn) (k := 1) hx hby_ (by omega) hb (by omega)) (fun oc G2 h => by rcases h with ⟨_, h, _⟩ <;> exact ⟨_, h⟩) (by omega) m_TX_peek ml_TX_61 im_TX_peek se_TX_peek c_TX hx.2.2 (Nat.le_of_ble_eq_true rfl) d_TX_escape_7 rfl ?_
  intro v G1 hq
  rcases hq with ⟨v2, hv, hGe, hq3, hq4⟩
  cases hv
  rw [hGe]
  change ab_W _ _ _ G 10 [some (vR x), some (vz pl), none] [vz v2] _
  refine ab_istore_n d_TX_escape_10 (Nat.le_of_ble_eq_true rfl) (Nat.le_of_ble_eq_true rfl) rfl ?_
  change ab_W _ _ _ G 11 [some (vR x), some (vz pl), some (vz v2)] [] _
  refine ab_aload_n d_TX_escape_11 rfl ?_
  refine ab_iload_n d_TX_escape_12 rfl ?_
  refine zz_iconst d_TX_escape_13 ?_
  refine zz_iadd d_TX_escape_14 ?_
  refine ab_putf (fs := [vR se, vR by_, vz n, vz pl, vz fa, vz fp, vR kd, vz kn]) f_TX_43 (Or.inl rfl) d_TX_escape_15 hx.2.2 (Nat.le_of_ble_eq_true rfl) (fun _ => ⟨rfl, rfl⟩) (hx.2.1 (by first | omega | exact (show 18 ≤ _ by omega))) ?_
  obtain ⟨G5, eG5⟩ : ∃ z : ab_G, z = List.set G x (ab_ob 10 [vR se, vR by_, vz n, vz (pl + 2), vz fa, vz fp, vR kd, vz kn]) := ⟨_, rfl⟩
  have hby_ := hby_.keep hx eG5 (by omega)
  have hlen := (z_len eG5).trans hlen
  have hsl := (z_sl hx eG5 rfl).trans hsl
  have hfr := hfr.wr hx eG5 (by simp)
  have hx := hx.kept eG5
  change ab_W _ _ _ (List.set G x (ab_ob 10 [vR se, vR by_, vz n, vz (pl + 2), vz fa, vz fp, vR kd, vz kn])) 18 [some (vR x), some (vz pl), some (vz v2)] [] _
  rw [← eG5]
  refine ab_iload_n d_TX_escape_18 rfl ?_
  by_cases c6 : v2 = 65
  · refine zz_tableIn (off := 269) (tgt := 288) d_TX_escape_19 (by omega) (by omega) (by omega) (by rw [c6]; decide) (by decide) ?_
    refine zz_bipush d_TX_escape_288 (by decide) ?_
    refine zz_iret rfl d_TX_escape_290 ?_
    rw [hQ]; exact (Or.inl ⟨_, _, rfl, hfr, hlen, hsl, hx, hby_, (by omega), (by omega), (by unfold esc1; left; refine ⟨by omega, ?_⟩; first | (left; omega) | (right; left; omega) | (right; right; left; omega) | (right; right; right; left; omega) | (right; right; right; right; left; omega) | (right; right; right; right; right; left; omega) | (right; right; right; right; right; right; left; omega) | (right; right; right; right; right; right; right; left; omega) | (right; right; right; right; right; right; right; right; left; omega) | (right; right; right; right; right; right; right; right; right; left; omega) | (right; right; right; right; right; right; right; right; right; right; left; omega))⟩)
  replace c6 : nzq v2 65 := c6
  by_cases c7 : v2 = 66
  · refine zz_tableIn (off := 278) (tgt := 297) d_TX_escape_19 (by omega) (by omega) (by omega) (by rw [c7]; decide) (by decide) ?_
    refine zz_bipush d_TX_escape_297 (by decide) ?_
    refine zz_iret rfl d_TX_escape_299 ?_
    rw [hQ]; exact (Or.inl ⟨_, _, rfl, hfr, hlen, hsl, hx, hby_, (by omega), (by omega), (by unfold esc1; left; refine ⟨by omega, ?_⟩; first | (left; omega) | (right; left; omega) | (right; right; left; omega) | (right; right; right; left; omega) | (right; right; right; right; left; omega) | (right; right; right; right; right; left; omega) | (right; right; right; right; right; right; left; omega) | (right; right; right; right; right; right; right; left; omega) | (right; right; right; right; right; right; right; right; left; omega) | (right; right; right; right; right; right; right; right; right; left; omega) | (right; right; right; right; right; right; right; right; right; right; left; omega))⟩)
  replace c7 : nzq v2 66 := c7
  by_cases c8 : v2 = 67
  · refine zz_tableIn (off := 281) (tgt := 300) d_TX_escape_19 (by omega) (by omega) (by omega) (by rw [c8]; decide) (by decide) ?_
    refine zz_bipush d_TX_escape_300 (by decide) ?_
    refine zz_iret rfl d_TX_escape_302 ?_
    rw [hQ]; exact (Or.inl ⟨_, _, rfl, hfr, hlen, hsl, hx, hby_, (by omega), (by omega), (by unfold esc1; left; refine ⟨by omega, ?_⟩; first | (left; omega) | (right; left; omega) | (right; right; left; omega) | (right; right; right; left; omega) | (right; right; right; right; left; omega) | (right; right; right; right; right; left; omega) | (right; right; right; right; right; right; left; omega) | (right; right; right; right; right; right; right; left; omega) | (right; right; right; right; right; right; right; right; left; omega) | (right; right; right; right; right; right; right; right; right; left; omega) | (right; right; right; right; right; right; right; right; right; right; left; omega))⟩)
  replace c8 : nzq v2 67 := c8
  by_cases c9 : v2 = 68
  · refine zz_tableIn (off := 284) (tgt := 303) d_TX_escape_19 (by omega) (by omega) (by omega) (by rw [c9]; decide) (by decide) ?_
    refine ab_aload_n d_TX_escape_303 rfl ?_
    refine ab_gets (i := 1) (by decide) s_TX_26 d_TX_escape_304 ?_
    refine ab_iload_n d_TX_escape_307 rfl ?_
    refine zz_bipush d_TX_escape_308 (by decide) ?_
    refine zz_icmp_ne (tgt := 317) d_TX_escape_310 (by decide) (by omega) (by decide) (fun c10 => absurd c10 (by omega)) (fun c10 => ?_)
    refine zz_iconst d_TX_escape_313 ?_
    refine ab_goto (tgt := 318) d_TX_escape_314 (by decide) ?_
    refine ab_callV (d' := d - 1) (as := [vR 1, vz 1]) (st := []) (r := _) (z_TX_aKind (o := o) (x := x) (lx := lx) (se := se) (by_ := by_) (n := n) (pl := (pl + 2)) (fa := fa) (fp := fp) (kd := kd) (kn := kn) (a := 1) (b := 1) hx (by omega) (by omega) (by omega)) (fun oc G2 h => by rcases h with ⟨h, _⟩ <;> exact ⟨_, h⟩) (by omega) m_TX_aKind ml_TX_67 im_TX_aKind se_TX_aKind c_TX hx.2.2 (Nat.le_of_ble_eq_true rfl) d_TX_escape_318 rfl ?_
    intro v G11 hq
    rcases hq with ⟨hv, hfk, hlk, hsk, hNx⟩
    cases hv
    have hby_ := hfk.get hby_ (by simp only [List.mem_cons, List.not_mem_nil, or_false]; omega)
    have hfr := hfr.tr hfk (by simp)
    have hlen := hlk.trans hlen
    have hsl := hsk.trans hsl
    have hx := hNx
    change ab_W _ _ _ G11 321 [some (vR x), some (vz pl), some (vz v2)] [vz (-2)] _
    refine zz_iret rfl d_TX_escape_321 ?_
    rw [hQ]; exact (Or.inr (Or.inl ⟨_, _, _, rfl, hfr, hlen, hsl, hx, hby_, (by omega), (by omega), (by omega), (by unfold esc2; left; refine ⟨by omega, ?_⟩; first | (left; omega) | (right; left; omega) | (right; right; left; omega) | (right; right; right; left; omega) | (right; right; right; right; left; omega) | (right; right; right; right; right; omega))⟩))
  replace c9 : nzq v2 68 := c9
  by_cases c12 : v2 = 80
  · refine zz_tableIn (off := 341) (tgt := 360) d_TX_escape_19 (by omega) (by omega) (by omega) (by rw [c12]; decide) (by decide) ?_
    refine ab_aload_n d_TX_escape_360 rfl ?_
    refine ab_iload_n d_TX_escape_361 rfl ?_
    refine ab_iload_n d_TX_escape_362 rfl ?_
    refine zz_bipush d_TX_escape_363 (by decide) ?_
    refine zz_icmp_ne (tgt := 372) d_TX_escape_365 (by decide) (by omega) (by decide) (fun c13 => absurd c13 (by omega)) (fun c13 => ?_)
    refine zz_iconst d_TX_escape_368 ?_
    refine ab_goto (tgt := 373) d_TX_escape_369 (by decide) ?_
    refine ab_callV (d' := d - 1) (as := [vz pl, vz 1]) (st := []) (r := _) (z_TX_property (o := o) (x := x) (lx := lx) (se := se) (by_ := by_) (lby := lby) (m := m) (f := f) (n := n) (pl := (pl + 2)) (fa := fa) (fp := fp) (kd := kd) (kn := kn) (at_ := pl) (no := 1) hx hby_ (by omega) hb (by omega) (by omega) (by omega) (by omega) (by omega)) (fun oc G2 h => by rcases h with ⟨_, h, _⟩ | ⟨_, h, _⟩ <;> exact ⟨_, h⟩) (by omega) m_TX_property ml_TX_77 im_TX_property se_TX_property c_TX hx.2.2 (Nat.le_of_ble_eq_true rfl) d_TX_escape_373 rfl ?_
    intro v G14 hq
    rcases hq with ⟨k215, hv, hfk, hlk, hsk, hNx, hNby_, hq16⟩ | ⟨w17, hv, hfk, hlk, hsk, hNx, hNby_, hq18, hq19⟩
    · cases hv
      have hfr := hfr.tr hfk (by simp)
      have hlen := hlk.trans hlen
      have hsl := hsk.trans hsl
      have hx := hNx
      have hby_ := hNby_
      change ab_W _ _ _ G14 376 [some (vR x), some (vz pl), some (vz v2)] [vz (-2)] _
      refine zz_iret rfl d_TX_escape_376 ?_
      rw [hQ]; exact (Or.inr (Or.inl ⟨_, _, _, rfl, hfr, hlen, hsl, hx, hby_, (by omega), (by omega), (by omega), (by unfold esc2; right; exact ⟨by omega, by first | (left; omega) | (right; omega), hq16⟩)⟩))
    · cases hv
      have hfr := hfr.tr hfk (by simp)
      have hlen := hlk.trans hlen
      have hsl := hsk.trans hsl
      have hx := hNx
      have hby_ := hNby_
      change ab_W _ _ _ G14 376 [some (vR x), some (vz pl), some (vz v2)] [vz (-1)] _
      refine zz_iret rfl d_TX_escape_376 ?_
      rw [hQ]; exact (Or.inr (Or.inr ⟨_, _, rfl, hfr, hlen, hsl, hx, hby_, (by omega), (by omega), (by refine ⟨?_, ?_, ?_⟩; (intro v q h; unfold esc1 at h; rcases h with ⟨_, h⟩ | ⟨h1, h2⟩; (rcases h with h | h | h | h | h | h | h | h | h | h | h | ⟨h1, h2, h3, h4⟩; (first | omega | omega); (first | omega | omega); (first | omega | omega); (first | omega | omega); (first | omega | omega); (first | omega | omega); (first | omega | omega); (first | omega | omega); (first | omega | omega); (first | omega | omega); (first | omega | omega); (first | omega | exact h3 (by unfold isW; omega))); (first | omega | omega | omega)); (intro q k b h; unfold esc2 at h; (rcases h with ⟨_, h⟩ | ⟨_, h2, h⟩; (rcases h with h | h | h | h | h | h; (first | omega | omega); (first | omega | omega); (first | omega | omega); (first | omega | omega); (first | omega | omega); (first | omega | omega)); (rcases h with h | h | h | h; (exact hq18.1 h.1); (exact hq18.2.1 h.1); (exact hq18.2.2.1 h.1); (exact hq18.2.2.2 h.1)))); (first | omega | (right; refine ⟨by omega, fun hh => ?_⟩; rcases hh.1 with h2 | h2; (first | omega | omega); (first | omega | omega))))⟩))
  replace c12 : nzq v2 80 := c12
  by_cases c20 : v2 = 83
  · refine zz_tableIn (off := 303) (tgt := 322) d_TX_escape_19 (by omega) (by omega) (by omega) (by rw [c20]; decide) (by decide) ?_
    refine ab_aload_n d_TX_escape_322 rfl ?_
    refine ab_gets (i := 2) (by decide) s_TX_71 d_TX_escape_323 ?_
    refine ab_iload_n d_TX_escape_326 rfl ?_
    refine zz_bipush d_TX_escape_327 (by decide) ?_
    refine zz_icmp_ne (tgt := 336) d_TX_escape_329 (by decide) (by omega) (by decide) (fun c21 => absurd c21 (by omega)) (fun c21 => ?_)
    refine zz_iconst d_TX_escape_332 ?_
    refine ab_goto (tgt := 337) d_TX_escape_333 (by decide) ?_
    refine ab_callV (d' := d - 1) (as := [vR 2, vz 1]) (st := []) (r := _) (z_TX_aKind (o := o) (x := x) (lx := lx) (se := se) (by_ := by_) (n := n) (pl := (pl + 2)) (fa := fa) (fp := fp) (kd := kd) (kn := kn) (a := 2) (b := 1) hx (by omega) (by omega) (by omega)) (fun oc G2 h => by rcases h with ⟨h, _⟩ <;> exact ⟨_, h⟩) (by omega) m_TX_aKind ml_TX_67 im_TX_aKind se_TX_aKind c_TX hx.2.2 (Nat.le_of_ble_eq_true rfl) d_TX_escape_337 rfl ?_
    intro v G22 hq
    rcases hq with ⟨hv, hfk, hlk, hsk, hNx⟩
    cases hv
    have hby_ := hfk.get hby_ (by simp only [List.mem_cons, List.not_mem_nil, or_false]; omega)
    have hfr := hfr.tr hfk (by simp)
    have hlen := hlk.trans hlen
    have hsl := hsk.trans hsl
    have hx := hNx
    change ab_W _ _ _ G22 340 [some (vR x), some (vz pl), some (vz v2)] [vz (-2)] _
    refine zz_iret rfl d_TX_escape_340 ?_
    rw [hQ]; exact (Or.inr (Or.inl ⟨_, _, _, rfl, hfr, hlen, hsl, hx, hby_, (by omega), (by omega), (by omega), (by unfold esc2; left; refine ⟨by omega, ?_⟩; first | (left; omega) | (right; left; omega) | (right; right; left; omega) | (right; right; right; left; omega) | (right; right; right; right; left; omega) | (right; right; right; right; right; omega))⟩))
  replace c20 : nzq v2 83 := c20
  by_cases c23 : v2 = 87
  · refine zz_tableIn (off := 322) (tgt := 341) d_TX_escape_19 (by omega) (by omega) (by omega) (by rw [c23]; decide) (by decide) ?_
    refine ab_aload_n d_TX_escape_341 rfl ?_
    refine ab_gets (i := 3) (by decide) s_TX_74 d_TX_escape_342 ?_
    refine ab_iload_n d_TX_escape_345 rfl ?_
    refine zz_bipush d_TX_escape_346 (by decide) ?_
    refine zz_icmp_ne (tgt := 355) d_TX_escape_348 (by decide) (by omega) (by decide) (fun c24 => absurd c24 (by omega)) (fun c24 => ?_)
    refine zz_iconst d_TX_escape_351 ?_
    refine ab_goto (tgt := 356) d_TX_escape_352 (by decide) ?_
    refine ab_callV (d' := d - 1) (as := [vR 3, vz 1]) (st := []) (r := _) (z_TX_aKind (o := o) (x := x) (lx := lx) (se := se) (by_ := by_) (n := n) (pl := (pl + 2)) (fa := fa) (fp := fp) (kd := kd) (kn := kn) (a := 3) (b := 1) hx (by omega) (by omega) (by omega)) (fun oc G2 h => by rcases h with ⟨h, _⟩ <;> exact ⟨_, h⟩) (by omega) m_TX_aKind ml_TX_67 im_TX_aKind se_TX_aKind c_TX hx.2.2 (Nat.le_of_ble_eq_true rfl) d_TX_escape_356 rfl ?_
    intro v G25 hq
    rcases hq with ⟨hv, hfk, hlk, hsk, hNx⟩
    cases hv
    have hby_ := hfk.get hby_ (by simp only [List.mem_cons, List.not_mem_nil, or_false]; omega)
    have hfr := hfr.tr hfk (by simp)
    have hlen := hlk.trans hlen
    have hsl := hsk.trans hsl
    have hx := hNx
    change ab_W _ _ _ G25 359 [some (vR x), some (vz pl), some (vz v2)] [vz (-2)] _
    refine zz_iret rfl d_TX_escape_359 ?_
    rw [hQ]; exact (Or.inr (Or.inl ⟨_, _, _, rfl, hfr, hlen, hsl, hx, hby_, (by omega), (by omega), (by omega), (by unfold esc2; left; refine ⟨by omega, ?_⟩; first | (left; omega) | (right; left; omega) | (right; right; left; omega) | (right; right; right; left; omega) | (right; right; right; right; left; omega) | (right; right; right; right; right; omega))⟩))
  replace c23 : nzq v2 87 := c23
  by_cases c26 : v2 = 97
  · refine zz_tableIn (off := 245) (tgt := 264) d_TX_escape_19 (by omega) (by omega) (by omega) (by rw [c26]; decide) (by decide) ?_
    refine zz_bipush d_TX_escape_264 (by decide) ?_
    refine zz_iret rfl d_TX_escape_266 ?_
    rw [hQ]; exact (Or.inl ⟨_, _, rfl, hfr, hlen, hsl, hx, hby_, (by omega), (by omega), (by unfold esc1; left; refine ⟨by omega, ?_⟩; first | (left; omega) | (right; left; omega) | (right; right; left; omega) | (right; right; right; left; omega) | (right; right; right; right; left; omega) | (right; right; right; right; right; left; omega) | (right; right; right; right; right; right; left; omega) | (right; right; right; right; right; right; right; left; omega) | (right; right; right; right; right; right; right; right; left; omega) | (right; right; right; right; right; right; right; right; right; left; omega) | (right; right; right; right; right; right; right; right; right; right; left; omega))⟩)
  replace c26 : nzq v2 97 := c26
  by_cases c27 : v2 = 98
  · refine zz_tableIn (off := 275) (tgt := 294) d_TX_escape_19 (by omega) (by omega) (by omega) (by rw [c27]; decide) (by decide) ?_
    refine zz_bipush d_TX_escape_294 (by decide) ?_
    refine zz_iret rfl d_TX_escape_296 ?_
    rw [hQ]; exact (Or.inl ⟨_, _, rfl, hfr, hlen, hsl, hx, hby_, (by omega), (by omega), (by unfold esc1; left; refine ⟨by omega, ?_⟩; first | (left; omega) | (right; left; omega) | (right; right; left; omega) | (right; right; right; left; omega) | (right; right; right; right; left; omega) | (right; right; right; right; right; left; omega) | (right; right; right; right; right; right; left; omega) | (right; right; right; right; right; right; right; left; omega) | (right; right; right; right; right; right; right; right; left; omega) | (right; right; right; right; right; right; right; right; right; left; omega) | (right; right; right; right; right; right; right; right; right; right; left; omega))⟩)
  replace c27 : nzq v2 98 := c27
  by_cases c28 : v2 = 100
  · refine zz_tableIn (off := 284) (tgt := 303) d_TX_escape_19 (by omega) (by omega) (by omega) (by rw [c28]; decide) (by decide) ?_
    refine ab_aload_n d_TX_escape_303 rfl ?_
    refine ab_gets (i := 1) (by decide) s_TX_26 d_TX_escape_304 ?_
    refine ab_iload_n d_TX_escape_307 rfl ?_
    refine zz_bipush d_TX_escape_308 (by decide) ?_
    refine zz_icmp_ne (tgt := 317) d_TX_escape_310 (by decide) (by omega) (by decide) (fun c29 => ?_) (fun c29 => absurd c29 (by omega))
    refine zz_iconst d_TX_escape_317 ?_
    refine ab_callV (d' := d - 1) (as := [vR 1, vz 0]) (st := []) (r := _) (z_TX_aKind (o := o) (x := x) (lx := lx) (se := se) (by_ := by_) (n := n) (pl := (pl + 2)) (fa := fa) (fp := fp) (kd := kd) (kn := kn) (a := 1) (b := 0) hx (by omega) (by omega) (by omega)) (fun oc G2 h => by rcases h with ⟨h, _⟩ <;> exact ⟨_, h⟩) (by omega) m_TX_aKind ml_TX_67 im_TX_aKind se_TX_aKind c_TX hx.2.2 (Nat.le_of_ble_eq_true rfl) d_TX_escape_318 rfl ?_
    intro v G30 hq
    rcases hq with ⟨hv, hfk, hlk, hsk, hNx⟩
    cases hv
    have hby_ := hfk.get hby_ (by simp only [List.mem_cons, List.not_mem_nil, or_false]; omega)
    have hfr := hfr.tr hfk (by simp)
    have hlen := hlk.trans hlen
    have hsl := hsk.trans hsl
    have hx := hNx
    change ab_W _ _ _ G30 321 [some (vR x), some (vz pl), some (vz v2)] [vz (-2)] _
    refine zz_iret rfl d_TX_escape_321 ?_
    rw [hQ]; exact (Or.inr (Or.inl ⟨_, _, _, rfl, hfr, hlen, hsl, hx, hby_, (by omega), (by omega), (by omega), (by unfold esc2; left; refine ⟨by omega, ?_⟩; first | (left; omega) | (right; left; omega) | (right; right; left; omega) | (right; right; right; left; omega) | (right; right; right; right; left; omega) | (right; right; right; right; right; omega))⟩))
  replace c28 : nzq v2 100 := c28
  by_cases c31 : v2 = 102
  · refine zz_tableIn (off := 248) (tgt := 267) d_TX_escape_19 (by omega) (by omega) (by omega) (by rw [c31]; decide) (by decide) ?_
    refine zz_bipush d_TX_escape_267 (by decide) ?_
    refine zz_iret rfl d_TX_escape_269 ?_
    rw [hQ]; exact (Or.inl ⟨_, _, rfl, hfr, hlen, hsl, hx, hby_, (by omega), (by omega), (by unfold esc1; left; refine ⟨by omega, ?_⟩; first | (left; omega) | (right; left; omega) | (right; right; left; omega) | (right; right; right; left; omega) | (right; right; right; right; left; omega) | (right; right; right; right; right; left; omega) | (right; right; right; right; right; right; left; omega) | (right; right; right; right; right; right; right; left; omega) | (right; right; right; right; right; right; right; right; left; omega) | (right; right; right; right; right; right; right; right; right; left; omega) | (right; right; right; right; right; right; right; right; right; right; left; omega))⟩)
  replace c31 : nzq v2 102 := c31
  by_cases c32 : v2 = 110
  · refine zz_tableIn (off := 251) (tgt := 270) d_TX_escape_19 (by omega) (by omega) (by omega) (by rw [c32]; decide) (by decide) ?_
    refine zz_bipush d_TX_escape_270 (by decide) ?_
    refine zz_iret rfl d_TX_escape_272 ?_
    rw [hQ]; exact (Or.inl ⟨_, _, rfl, hfr, hlen, hsl, hx, hby_, (by omega), (by omega), (by unfold esc1; left; refine ⟨by omega, ?_⟩; first | (left; omega) | (right; left; omega) | (right; right; left; omega) | (right; right; right; left; omega) | (right; right; right; right; left; omega) | (right; right; right; right; right; left; omega) | (right; right; right; right; right; right; left; omega) | (right; right; right; right; right; right; right; left; omega) | (right; right; right; right; right; right; right; right; left; omega) | (right; right; right; right; right; right; right; right; right; left; omega) | (right; right; right; right; right; right; right; right; right; right; left; omega))⟩)
  replace c32 : nzq v2 110 := c32
  by_cases c33 : v2 = 112
  · refine zz_tableIn (off := 341) (tgt := 360) d_TX_escape_19 (by omega) (by omega) (by omega) (by rw [c33]; decide) (by decide) ?_
    refine ab_aload_n d_TX_escape_360 rfl ?_
    refine ab_iload_n d_TX_escape_361 rfl ?_
    refine ab_iload_n d_TX_escape_362 rfl ?_
    refine zz_bipush d_TX_escape_363 (by decide) ?_
    refine zz_icmp_ne (tgt := 372) d_TX_escape_365 (by decide) (by omega) (by decide) (fun c34 => ?_) (fun c34 => absurd c34 (by omega))
    refine zz_iconst d_TX_escape_372 ?_
    refine ab_callV (d' := d - 1) (as := [vz pl, vz 0]) (st := []) (r := _) (z_TX_property (o := o) (x := x) (lx := lx) (se := se) (by_ := by_) (lby := lby) (m := m) (f := f) (n := n) (pl := (pl + 2)) (fa := fa) (fp := fp) (kd := kd) (kn := kn) (at_ := pl) (no := 0) hx hby_ (by omega) hb (by omega) (by omega) (by omega) (by omega) (by omega)) (fun oc G2 h => by rcases h with ⟨_, h, _⟩ | ⟨_, h, _⟩ <;> exact ⟨_, h⟩) (by omega) m_TX_property ml_TX_77 im_TX_property se_TX_property c_TX hx.2.2 (Nat.le_of_ble_eq_true rfl) d_TX_escape_373 rfl ?_
    intro v G35 hq
    rcases hq with ⟨k236, hv, hfk, hlk, hsk, hNx, hNby_, hq37⟩ | ⟨w38, hv, hfk, hlk, hsk, hNx, hNby_, hq39, hq40⟩
    · cases hv
      have hfr := hfr.tr hfk (by simp)
      have hlen := hlk.trans hlen
      have hsl := hsk.trans hsl
      have hx := hNx
      have hby_ := hNby_
      change ab_W _ _ _ G35 376 [some (vR x), some (vz pl), some (vz v2)] [vz (-2)] _
      refine zz_iret rfl d_TX_escape_376 ?_
      rw [hQ]; exact (Or.inr (Or.inl ⟨_, _, _, rfl, hfr, hlen, hsl, hx, hby_, (by omega), (by omega), (by omega), (by unfold esc2; right; exact ⟨by omega, by first | (left; omega) | (right; omega), hq37⟩)⟩))
    · cases hv
      have hfr := hfr.tr hfk (by simp)
      have hlen := hlk.trans hlen
      have hsl := hsk.trans hsl
      have hx := hNx
      have hby_ := hNby_
      change ab_W _ _ _ G35 376 [some (vR x), some (vz pl), some (vz v2)] [vz (-1)] _
      refine zz_iret rfl d_TX_escape_376 ?_
      rw [hQ]; exact (Or.inr (Or.inr ⟨_, _, rfl, hfr, hlen, hsl, hx, hby_, (by omega), (by omega), (by refine ⟨?_, ?_, ?_⟩; (intro v q h; unfold esc1 at h; rcases h with ⟨_, h⟩ | ⟨h1, h2⟩; (rcases h with h | h | h | h | h | h | h | h | h | h | h | ⟨h1, h2, h3, h4⟩; (first | omega | omega); (first | omega | omega); (first | omega | omega); (first | omega | omega); (first | omega | omega); (first | omega | omega); (first | omega | omega); (first | omega | omega); (first | omega | omega); (first | omega | omega); (first | omega | omega); (first | omega | exact h3 (by unfold isW; omega))); (first | omega | omega | omega)); (intro q k b h; unfold esc2 at h; (rcases h with ⟨_, h⟩ | ⟨_, h2, h⟩; (rcases h with h | h | h | h | h | h; (first | omega | omega); (first | omega | omega); (first | omega | omega); (first | omega | omega); (first | omega | omega); (first | omega | omega)); (rcases h with h | h | h | h; (exact hq39.1 h.1); (exact hq39.2.1 h.1); (exact hq39.2.2.1 h.1); (exact hq39.2.2.2 h.1)))); (first | omega | (right; refine ⟨by omega, fun hh => ?_⟩; rcases hh.1 with h2 | h2; (first | omega | omega); (first | omega | omega))))⟩))
  replace c33 : nzq v2 112 := c33
  by_cases c41 : v2 = 114
  · refine zz_tableIn (off := 254) (tgt := 273) d_TX_escape_19 (by omega) (by omega) (by omega) (by rw [c41]; decide) (by decide) ?_
    refine zz_bipush d_TX_escape_273 (by decide) ?_
    refine zz_iret rfl d_TX_escape_275 ?_
    rw [hQ]; exact (Or.inl ⟨_, _, rfl, hfr, hlen, hsl, hx, hby_, (by omega), (by omega), (by unfold esc1; left; refine ⟨by omega, ?_⟩; first | (left; omega) | (right; left; omega) | (right; right; left; omega) | (right; right; right; left; omega) | (right; right; right; right; left; omega) | (right; right; right; right; right; left; omega) | (right; right; right; right; right; right; left; omega) | (right; right; right; right; right; right; right; left; omega) | (right; right; right; right; right; right; right; right; left; omega) | (right; right; right; right; right; right; right; right; right; left; omega) | (right; right; right; right; right; right; right; right; right; right; left; omega))⟩)
  replace c41 : nzq v2 114 := c41
  by_cases c42 : v2 = 115
  · refine zz_tableIn (off := 303) (tgt := 322) d_TX_escape_19 (by omega) (by omega) (by omega) (by rw [c42]; decide) (by decide) ?_
    refine ab_aload_n d_TX_escape_322 rfl ?_
    refine ab_gets (i := 2) (by decide) s_TX_71 d_TX_escape_323 ?_
    refine ab_iload_n d_TX_escape_326 rfl ?_
    refine zz_bipush d_TX_escape_327 (by decide) ?_
    refine zz_icmp_ne (tgt := 336) d_TX_escape_329 (by decide) (by omega) (by decide) (fun c43 => ?_) (fun c43 => absurd c43 (by omega))
    refine zz_iconst d_TX_escape_336 ?_
    refine ab_callV (d' := d - 1) (as := [vR 2, vz 0]) (st := []) (r := _) (z_TX_aKind (o := o) (x := x) (lx := lx) (se := se) (by_ := by_) (n := n) (pl := (pl + 2)) (fa := fa) (fp := fp) (kd := kd) (kn := kn) (a := 2) (b := 0) hx (by omega) (by omega) (by omega)) (fun oc G2 h => by rcases h with ⟨h, _⟩ <;> exact ⟨_, h⟩) (by omega) m_TX_aKind ml_TX_67 im_TX_aKind se_TX_aKind c_TX hx.2.2 (Nat.le_of_ble_eq_true rfl) d_TX_escape_337 rfl ?_
    intro v G44 hq
    rcases hq with ⟨hv, hfk, hlk, hsk, hNx⟩
    cases hv
    have hby_ := hfk.get hby_ (by simp only [List.mem_cons, List.not_mem_nil, or_false]; omega)
    have hfr := hfr.tr hfk (by simp)
    have hlen := hlk.trans hlen
    have hsl := hsk.trans hsl
    have hx := hNx
    change ab_W _ _ _ G44 340 [some (vR x), some (vz pl), some (vz v2)] [vz (-2)] _
    refine zz_iret rfl d_TX_escape_340 ?_
    rw [hQ]; exact (Or.inr (Or.inl ⟨_, _, _, rfl, hfr, hlen, hsl, hx, hby_, (by omega), (by omega), (by omega), (by unfold esc2; left; refine ⟨by omega, ?_⟩; first | (left; omega) | (right; left; omega) | (right; right; left; omega) | (right; right; right; left; omega) | (right; right; right; right; left; omega) | (right; right; right; right; right; omega))⟩))
  replace c42 : nzq v2 115 := c42
  by_cases c45 : v2 = 116
  · refine zz_tableIn (off := 257) (tgt := 276) d_TX_escape_19 (by omega) (by omega) (by omega) (by rw [c45]; decide) (by decide) ?_
    refine zz_bipush d_TX_escape_276 (by decide) ?_
    refine zz_iret rfl d_TX_escape_278 ?_
    rw [hQ]; exact (Or.inl ⟨_, _, rfl, hfr, hlen, hsl, hx, hby_, (by omega), (by omega), (by unfold esc1; left; refine ⟨by omega, ?_⟩; first | (left; omega) | (right; left; omega) | (right; right; left; omega) | (right; right; right; left; omega) | (right; right; right; right; left; omega) | (right; right; right; right; right; left; omega) | (right; right; right; right; right; right; left; omega) | (right; right; right; right; right; right; right; left; omega) | (right; right; right; right; right; right; right; right; left; omega) | (right; right; right; right; right; right; right; right; right; left; omega) | (right; right; right; right; right; right; right; right; right; right; left; omega))⟩)
  replace c45 : nzq v2 116 := c45
  by_cases c46 : v2 = 118
  · refine zz_tableIn (off := 260) (tgt := 279) d_TX_escape_19 (by omega) (by omega) (by omega) (by rw [c46]; decide) (by decide) ?_
    refine zz_bipush d_TX_escape_279 (by decide) ?_
    refine zz_iret rfl d_TX_escape_281 ?_
    rw [hQ]; exact (Or.inl ⟨_, _, rfl, hfr, hlen, hsl, hx, hby_, (by omega), (by omega), (by unfold esc1; left; refine ⟨by omega, ?_⟩; first | (left; omega) | (right; left; omega) | (right; right; left; omega) | (right; right; right; left; omega) | (right; right; right; right; left; omega) | (right; right; right; right; right; left; omega) | (right; right; right; right; right; right; left; omega) | (right; right; right; right; right; right; right; left; omega) | (right; right; right; right; right; right; right; right; left; omega) | (right; right; right; right; right; right; right; right; right; left; omega) | (right; right; right; right; right; right; right; right; right; right; left; omega))⟩)
  replace c46 : nzq v2 118 := c46
  by_cases c47 : v2 = 119
  · refine zz_tableIn (off := 322) (tgt := 341) d_TX_escape_19 (by omega) (by omega) (by omega) (by rw [c47]; decide) (by decide) ?_
    refine ab_aload_n d_TX_escape_341 rfl ?_
    refine ab_gets (i := 3) (by decide) s_TX_74 d_TX_escape_342 ?_
    refine ab_iload_n d_TX_escape_345 rfl ?_
    refine zz_bipush d_TX_escape_346 (by decide) ?_
    refine zz_icmp_ne (tgt := 355) d_TX_escape_348 (by decide) (by omega) (by decide) (fun c48 => ?_) (fun c48 => absurd c48 (by omega))
    refine zz_iconst d_TX_escape_355 ?_
    refine ab_callV (d' := d - 1) (as := [vR 3, vz 0]) (st := []) (r := _) (z_TX_aKind (o := o) (x := x) (lx := lx) (se := se) (by_ := by_) (n := n) (pl := (pl + 2)) (fa := fa) (fp := fp) (kd := kd) (kn := kn) (a := 3) (b := 0) hx (by omega) (by omega) (by omega)) (fun oc G2 h => by rcases h with ⟨h, _⟩ <;> exact ⟨_, h⟩) (by omega) m_TX_aKind ml_TX_67 im_TX_aKind se_TX_aKind c_TX hx.2.2 (Nat.le_of_ble_eq_true rfl) d_TX_escape_356 rfl ?_
    intro v G49 hq
    rcases hq with ⟨hv, hfk, hlk, hsk, hNx⟩
    cases hv
    have hby_ := hfk.get hby_ (by simp only [List.mem_cons, List.not_mem_nil, or_false]; omega)
    have hfr := hfr.tr hfk (by simp)
    have hlen := hlk.trans hlen
    have hsl := hsk.trans hsl
    have hx := hNx
    change ab_W _ _ _ G49 359 [some (vR x), some (vz pl), some (vz v2)] [vz (-2)] _
    refine zz_iret rfl d_TX_escape_359 ?_
    rw [hQ]; exact (Or.inr (Or.inl ⟨_, _, _, rfl, hfr, hlen, hsl, hx, hby_, (by omega), (by omega), (by omega), (by unfold esc2; left; refine ⟨by omega, ?_⟩; first | (left; omega) | (right; left; omega) | (right; right; left; omega) | (right; right; right; left; omega) | (right; right; right; right; left; omega) | (right; right; right; right; right; omega))⟩))
  replace c47 : nzq v2 119 := c47
  by_cases c50 : v2 = 120
  · refine zz_tableIn (off := 263) (tgt := 282) d_TX_escape_19 (by omega) (by omega) (by omega) (by rw [c50]; decide) (by decide) ?_
    refine ab_aload_n d_TX_escape_282 rfl ?_
    refine ab_iload_n d_TX_escape_283 rfl ?_
    refine ab_callV (d' := d - 1) (as := [vz pl]) (st := []) (r := _) (z_TX_hexadecimal (o := o) (x := x) (lx := lx) (se := se) (by_ := by_) (lby := lby) (m := m) (f := f) (n := n) (pl := (pl + 2)) (fa := fa) (fp := fp) (kd := kd) (kn := kn) (at_ := pl) hx hby_ (by omega) hb (by omega) (by omega) (by omega) (by omega)) (fun oc G2 h => by rcases h with ⟨_, _, h, _⟩ | ⟨_, h, _⟩ <;> exact ⟨_, h⟩) (by omega) m_TX_hexadecimal ml_TX_64 im_TX_hexadecimal se_TX_hexadecimal c_TX hx.2.2 (Nat.le_of_ble_eq_true rfl) d_TX_escape_284 rfl ?_
    intro v G51 hq
    rcases hq with ⟨v52, p253, hv, hfk, hlk, hsk, hNx, hNby_, hq54, hq55, hq56⟩ | ⟨p257, hv, hfk, hlk, hsk, hNx, hNby_, hq58, hq59⟩
    · cases hv
      have hfr := hfr.tr hfk (by simp)
      have hlen := hlk.trans hlen
      have hsl := hsk.trans hsl
      have hx := hNx
      have hby_ := hNby_
      change ab_W _ _ _ G51 287 [some (vR x), some (vz pl), some (vz v2)] [vz v52] _
      refine zz_iret rfl d_TX_escape_287 ?_
      rw [hQ]; exact (Or.inl ⟨_, _, rfl, hfr, hlen, hsl, hx, hby_, (by omega), (by omega), (by unfold esc1; right; exact ⟨by omega, hq56⟩)⟩)
    · cases hv
      have hfr := hfr.tr hfk (by simp)
      have hlen := hlk.trans hlen
      have hsl := hsk.trans hsl
      have hx := hNx
      have hby_ := hNby_
      change ab_W _ _ _ G51 287 [some (vR x), some (vz pl), some (vz v2)] [vz (-1)] _
      refine zz_iret rfl d_TX_escape_287 ?_
      rw [hQ]; exact (Or.inr (Or.inr ⟨_, _, rfl, hfr, hlen, hsl, hx, hby_, (by omega), (by omega), (by refine ⟨?_, ?_, ?_⟩; (intro v q h; unfold esc1 at h; rcases h with ⟨_, h⟩ | ⟨h1, h2⟩; (rcases h with h | h | h | h | h | h | h | h | h | h | h | ⟨h1, h2, h3, h4⟩; (first | omega | omega); (first | omega | omega); (first | omega | omega); (first | omega | omega); (first | omega | omega); (first | omega | omega); (first | omega | omega); (first | omega | omega); (first | omega | omega); (first | omega | omega); (first | omega | omega); (first | omega | exact h3 (by unfold isW; omega))); (first | omega | exact hq59 _ _ h2 | omega)); (intro q k b h; unfold esc2 at h; (rcases h with ⟨_, h⟩ | ⟨_, h2, h⟩; (rcases h with h | h | h | h | h | h; (first | omega | omega); (first | omega | omega); (first | omega | omega); (first | omega | omega); (first | omega | omega); (first | omega | omega)); (rcases h2 with h2 | h2; (first | omega | omega); (first | omega | omega)))); (first | omega | (right; refine ⟨by omega, fun hh => ?_⟩; rcases hh.1 with h2 | h2; (first | omega | omega); (first | omega | omega))))⟩))
  replace c50 : nzq v2 120 := c50
  by_cases c60 : v2 = 122
  · refine zz_tableIn (off := 272) (tgt := 291) d_TX_escape_19 (by omega) (by omega) (by omega) (by rw [c60]; decide) (by decide) ?_
    refine zz_bipush d_TX_escape_291 (by decide) ?_
    refine zz_iret rfl d_TX_escape_293 ?_
    rw [hQ]; exact (Or.inl ⟨_, _, rfl, hfr, hlen, hsl, hx, hby_, (by omega), (by omega), (by unfold esc1; left; refine ⟨by omega, ?_⟩; first | (left; omega) | (right; left; omega) | (right; right; left; omega) | (right; right; right; left; omega) | (right; right; right; right; left; omega) | (right; right; right; right; right; left; omega) | (right; right; right; right; right; right; left; omega) | (right; right; right; right; right; right; right; left; omega) | (right; right; right; right; right; right; right; right; left; omega) | (right; right; right; right; right; right; right; right; right; left; omega) | (right; right; right; right; right; right; right; right; right; right; left; omega))⟩)
  replace c60 : nzq v2 122 := c60
  by_cases c62 : 65 ≤ v2 ∧ v2 ≤ 122
  · have hsw : ∀ m : Nat, m < 58 → ¬ m ∈ ([0, 1, 2, 3, 15, 18, 22, 32, 33, 35, 37, 45, 47, 49, 50, 51, 53, 54, 55, 57] : List Nat) → (#[269, 278, 281, 284, 358, 358, 358, 358, 358, 358, 358, 358, 358, 358, 358, 341, 358, 358, 303, 358, 358, 358, 322, 358, 358, 358, 358, 358, 358, 358, 358, 358, 245, 275, 358, 284, 358, 248, 358, 358, 358, 358, 358, 358, 358, 251, 358, 341, 358, 254, 303, 257, 358, 260, 322, 263, 358, 272] : Array Int)[m]? = some 358 := by decide
    refine zz_tableIn (off := 358) (tgt := 377) d_TX_escape_19 (by omega) (by omega) (by omega) (hsw _ (by omega) (fun e => by simp only [List.mem_cons, List.not_mem_nil, or_false] at e; rcases e with e | e | e | e | e | e | e | e | e | e | e | e | e | e | e | e | e | e | e | e; (exact c6 (by omega)); (exact c7 (by omega)); (exact c8 (by omega)); (exact c9 (by omega)); (exact c12 (by omega)); (exact c20 (by omega)); (exact c23 (by omega)); (exact c26 (by omega)); (exact c27 (by omega)); (exact c28 (by omega)); (exact c31 (by omega)); (exact c32 (by omega)); (exact c33 (by omega)); (exact c41 (by omega)); (exact c42 (by omega)); (exact c45 (by omega)); (exact c46 (by omega)); (exact c47 (by omega)); (exact c50 (by omega)); (exact c60 (by omega)))) (by decide) ?_
    refine ab_iload_n d_TX_escape_377 rfl ?_
    refine zz_if_lt (tgt := 399) d_TX_escape_378 (by decide) (by omega) (fun c63 => absurd c63 (by omega)) (fun c63 => ?_)
    refine ab_iload_n d_TX_escape_381 rfl ?_
    refine zz_sipush d_TX_escape_382 (by decide) ?_
    refine zz_icmp_ge (tgt := 399) d_TX_escape_385 (by decide) (by omega) (by decide) (fun c64 => absurd c64 (by omega)) (fun c64 => ?_)
    refine ab_iload_n d_TX_escape_388 rfl ?_
    refine ab_callS (d' := d - 1) (as := [vz v2]) (st := []) (z_PW_isWord (o := o) (x := v2) (by omega)) (fun oc G2 h => by rcases h with ⟨h, _⟩ | ⟨h, _⟩ <;> exact ⟨_, h⟩) (by omega) m_PW_isWord ml_TX_81 st_PW_isWord (Nat.le_of_ble_eq_true rfl) d_TX_escape_389 rfl ?_
    intro v G65 hq
    rcases hq with ⟨hv, hGe, hq66⟩ | ⟨hv, hGe, hq67⟩
    · cases hv
      rw [hGe]
      change ab_W _ _ _ G5 392 [some (vR x), some (vz pl), some (vz v2)] [vz 1] _
      refine zz_if_ne (tgt := 399) d_TX_escape_392 (by decide) (by decide) (fun c68 => ?_) (fun c68 => absurd c68 (by decide))
      refine ab_aload_n d_TX_escape_399 rfl ?_
      refine zz_iconst d_TX_escape_400 ?_
      refine ab_iload_n d_TX_escape_401 rfl ?_
      refine ab_callV (d' := d - 1) (as := [vz 5, vz pl]) (st := []) (r := _) (z_TX_fail (o := o) (x := x) (lx := lx) (se := se) (by_ := by_) (n := n) (pl := (pl + 2)) (fa := fa) (fp := fp) (kd := kd) (kn := kn) (w := 5) (p := pl) hx (by omega) (by omega) (by omega)) (fun oc G2 h => by rcases h with ⟨h, _⟩ | ⟨h, _⟩ <;> exact ⟨_, h⟩) (by omega) m_TX_fail ml_TX_53 im_TX_fail se_TX_fail c_TX hx.2.2 (Nat.le_of_ble_eq_true rfl) d_TX_escape_402 rfl ?_
      intro v G69 hq
      rcases hq with ⟨hv, hfk, hlk, hsk, hNx, hq70⟩ | ⟨hv, hGe, hq71⟩
      · cases hv
        have hby_ := hfk.get hby_ (by simp only [List.mem_cons, List.not_mem_nil, or_false]; omega)
        have hfr := hfr.tr hfk (by simp)
        have hlen := hlk.trans hlen
        have hsl := hsk.trans hsl
        have hx := hNx
        change ab_W _ _ _ G69 405 [some (vR x), some (vz pl), some (vz v2)] [vz (-1)] _
        refine zz_iret rfl d_TX_escape_405 ?_
        rw [hQ]; exact (Or.inr (Or.inr ⟨_, _, rfl, hfr, hlen, hsl, hx, hby_, (by omega), (by omega), (by refine ⟨?_, ?_, ?_⟩; (intro v q h; unfold esc1 at h; rcases h with ⟨_, h⟩ | ⟨h1, h2⟩; (rcases h with h | h | h | h | h | h | h | h | h | h | h | ⟨h1, h2, h3, h4⟩; (first | omega | exact absurd (show v2 = 97 by omega) c26); (first | omega | exact absurd (show v2 = 102 by omega) c31); (first | omega | exact absurd (show v2 = 110 by omega) c32); (first | omega | exact absurd (show v2 = 114 by omega) c41); (first | omega | exact absurd (show v2 = 116 by omega) c45); (first | omega | exact absurd (show v2 = 118 by omega) c46); (first | omega | exact absurd (show v2 = 65 by omega) c6); (first | omega | exact absurd (show v2 = 122 by omega) c60); (first | omega | exact absurd (show v2 = 98 by omega) c27); (first | omega | exact absurd (show v2 = 66 by omega) c7); (first | omega | exact absurd (show v2 = 67 by omega) c8); (first | omega | exact h3 (hq3 ▸ hq66))); (first | omega | omega | exact absurd (show v2 = 120 by omega) c50)); (intro q k b h; unfold esc2 at h; (rcases h with ⟨_, h⟩ | ⟨_, h2, h⟩; (rcases h with h | h | h | h | h | h; (first | omega | exact absurd (show v2 = 100 by omega) c28); (first | omega | exact absurd (show v2 = 68 by omega) c9); (first | omega | exact absurd (show v2 = 115 by omega) c42); (first | omega | exact absurd (show v2 = 83 by omega) c20); (first | omega | exact absurd (show v2 = 119 by omega) c47); (first | omega | exact absurd (show v2 = 87 by omega) c23)); (rcases h2 with h2 | h2; (first | omega | exact absurd (show v2 = 112 by omega) c33); (first | omega | exact absurd (show v2 = 80 by omega) c12)))); (first | omega | (right; refine ⟨by omega, fun hh => ?_⟩; rcases hh.1 with h2 | h2; (first | omega | exact absurd (show v2 = 112 by omega) c33); (first | omega | exact absurd (show v2 = 80 by omega) c12))))⟩))
      · cases hv
        rw [hGe]
        change ab_W _ _ _ G5 405 [some (vR x), some (vz pl), some (vz v2)] [vz (-1)] _
        exfalso; omega
    · cases hv
      rw [hGe]
      change ab_W _ _ _ G5 392 [some (vR x), some (vz pl), some (vz v2)] [vz 0] _
      refine zz_if_ne (tgt := 399) d_TX_escape_392 (by decide) (by decide) (fun c72 => absurd c72 (by decide)) (fun c72 => ?_)
      refine ab_iload_n d_TX_escape_395 rfl ?_
      refine ab_goto (tgt := 405) d_TX_escape_396 (by decide) ?_
      refine zz_iret rfl d_TX_escape_405 ?_
      rw [hQ]; exact (Or.inl ⟨_, _, rfl, hfr, hlen, hsl, hx, hby_, (by omega), (by omega), (by unfold esc1; left; refine ⟨by omega, ?_⟩; right; right; right; right; right; right; right; right; right; right; right; exact ⟨by omega, by omega, hq3 ▸ hq67, by omega⟩)⟩)
  · refine zz_tableOut (tgt := 377) d_TX_escape_19 (by omega) (by omega) (by decide) ?_
    refine ab_iload_n d_TX_escape_377 rfl ?_
    refine zz_if_lt (tgt := 399) d_TX_escape_378 (by decide) (by omega) (fun c73 => ?_) (fun c73 => ?_)
    · refine ab_aload_n d_TX_escape_399 rfl ?_
      refine zz_iconst d_TX_escape_400 ?_
      refine ab_iload_n d_TX_escape_401 rfl ?_
      refine ab_callV (d' := d - 1) (as := [vz 5, vz pl]) (st := []) (r := _) (z_TX_fail (o := o) (x := x) (lx := lx) (se := se) (by_ := by_) (n := n) (pl := (pl + 2)) (fa := fa) (fp := fp) (kd := kd) (kn := kn) (w := 5) (p := pl) hx (by omega) (by omega) (by omega)) (fun oc G2 h => by rcases h with ⟨h, _⟩ | ⟨h, _⟩ <;> exact ⟨_, h⟩) (by omega) m_TX_fail ml_TX_53 im_TX_fail se_TX_fail c_TX hx.2.2 (Nat.le_of_ble_eq_true rfl) d_TX_escape_402 rfl ?_
      intro v G74 hq
      rcases hq with ⟨hv, hfk, hlk, hsk, hNx, hq75⟩ | ⟨hv, hGe, hq76⟩
      · cases hv
        have hby_ := hfk.get hby_ (by simp only [List.mem_cons, List.not_mem_nil, or_false]; omega)
        have hfr := hfr.tr hfk (by simp)
        have hlen := hlk.trans hlen
        have hsl := hsk.trans hsl
        have hx := hNx
        change ab_W _ _ _ G74 405 [some (vR x), some (vz pl), some (vz v2)] [vz (-1)] _
        refine zz_iret rfl d_TX_escape_405 ?_
        rw [hQ]; exact (Or.inr (Or.inr ⟨_, _, rfl, hfr, hlen, hsl, hx, hby_, (by omega), (by omega), (by refine ⟨?_, ?_, ?_⟩; (intro v q h; unfold esc1 at h; rcases h with ⟨_, h⟩ | ⟨h1, h2⟩; (rcases h with h | h | h | h | h | h | h | h | h | h | h | ⟨h1, h2, h3, h4⟩; (first | omega | exact absurd (show v2 = 97 by omega) c26); (first | omega | exact absurd (show v2 = 102 by omega) c31); (first | omega | exact absurd (show v2 = 110 by omega) c32); (first | omega | exact absurd (show v2 = 114 by omega) c41); (first | omega | exact absurd (show v2 = 116 by omega) c45); (first | omega | exact absurd (show v2 = 118 by omega) c46); (first | omega | exact absurd (show v2 = 65 by omega) c6); (first | omega | exact absurd (show v2 = 122 by omega) c60); (first | omega | exact absurd (show v2 = 98 by omega) c27); (first | omega | exact absurd (show v2 = 66 by omega) c7); (first | omega | exact absurd (show v2 = 67 by omega) c8); (first | omega | exact h3 (by unfold isW; omega))); (first | omega | omega | exact absurd (show v2 = 120 by omega) c50)); (intro q k b h; unfold esc2 at h; (rcases h with ⟨_, h⟩ | ⟨_, h2, h⟩; (rcases h with h | h | h | h | h | h; (first | omega | exact absurd (show v2 = 100 by omega) c28); (first | omega | exact absurd (show v2 = 68 by omega) c9); (first | omega | exact absurd (show v2 = 115 by omega) c42); (first | omega | exact absurd (show v2 = 83 by omega) c20); (first | omega | exact absurd (show v2 = 119 by omega) c47); (first | omega | exact absurd (show v2 = 87 by omega) c23)); (rcases h2 with h2 | h2; (first | omega | exact absurd (show v2 = 112 by omega) c33); (first | omega | exact absurd (show v2 = 80 by omega) c12)))); (first | omega | (right; refine ⟨by omega, fun hh => ?_⟩; rcases hh.1 with h2 | h2; (first | omega | exact absurd (show v2 = 112 by omega) c33); (first | omega | exact absurd (show v2 = 80 by omega) c12))))⟩))
      · cases hv
        rw [hGe]
        change ab_W _ _ _ G5 405 [some (vR x), some (vz pl), some (vz v2)] [vz (-1)] _
        exfalso; omega
    · refine ab_iload_n d_TX_escape_381 rfl ?_
      refine zz_sipush d_TX_escape_382 (by decide) ?_
      refine zz_icmp_ge (tgt := 399) d_TX_escape_385 (by decide) (by omega) (by decide) (fun c77 => ?_) (fun c77 => ?_)
      · refine ab_aload_n d_TX_escape_399 rfl ?_
        refine zz_iconst d_TX_escape_400 ?_
        refine ab_iload_n d_TX_escape_401 rfl ?_
        refine ab_callV (d' := d - 1) (as := [vz 5, vz pl]) (st := []) (r := _) (z_TX_fail (o := o) (x := x) (lx := lx) (se := se) (by_ := by_) (n := n) (pl := (pl + 2)) (fa := fa) (fp := fp) (kd := kd) (kn := kn) (w := 5) (p := pl) hx (by omega) (by omega) (by omega)) (fun oc G2 h => by rcases h with ⟨h, _⟩ | ⟨h, _⟩ <;> exact ⟨_, h⟩) (by omega) m_TX_fail ml_TX_53 im_TX_fail se_TX_fail c_TX hx.2.2 (Nat.le_of_ble_eq_true rfl) d_TX_escape_402 rfl ?_
        intro v G78 hq
        rcases hq with ⟨hv, hfk, hlk, hsk, hNx, hq79⟩ | ⟨hv, hGe, hq80⟩
        · cases hv
          have hby_ := hfk.get hby_ (by simp only [List.mem_cons, List.not_mem_nil, or_false]; omega)
          have hfr := hfr.tr hfk (by simp)
          have hlen := hlk.trans hlen
          have hsl := hsk.trans hsl
          have hx := hNx
          change ab_W _ _ _ G78 405 [some (vR x), some (vz pl), some (vz v2)] [vz (-1)] _
          refine zz_iret rfl d_TX_escape_405 ?_
          rw [hQ]; exact (Or.inr (Or.inr ⟨_, _, rfl, hfr, hlen, hsl, hx, hby_, (by omega), (by omega), (by refine ⟨?_, ?_, ?_⟩; (intro v q h; unfold esc1 at h; rcases h with ⟨_, h⟩ | ⟨h1, h2⟩; (rcases h with h | h | h | h | h | h | h | h | h | h | h | ⟨h1, h2, h3, h4⟩; (first | omega | exact absurd (show v2 = 97 by omega) c26); (first | omega | exact absurd (show v2 = 102 by omega) c31); (first | omega | exact absurd (show v2 = 110 by omega) c32); (first | omega | exact absurd (show v2 = 114 by omega) c41); (first | omega | exact absurd (show v2 = 116 by omega) c45); (first | omega | exact absurd (show v2 = 118 by omega) c46); (first | omega | exact absurd (show v2 = 65 by omega) c6); (first | omega | exact absurd (show v2 = 122 by omega) c60); (first | omega | exact absurd (show v2 = 98 by omega) c27); (first | omega | exact absurd (show v2 = 66 by omega) c7); (first | omega | exact absurd (show v2 = 67 by omega) c8); (first | omega | exact h3 (by unfold isW; omega))); (first | omega | omega | exact absurd (show v2 = 120 by omega) c50)); (intro q k b h; unfold esc2 at h; (rcases h with ⟨_, h⟩ | ⟨_, h2, h⟩; (rcases h with h | h | h | h | h | h; (first | omega | exact absurd (show v2 = 100 by omega) c28); (first | omega | exact absurd (show v2 = 68 by omega) c9); (first | omega | exact absurd (show v2 = 115 by omega) c42); (first | omega | exact absurd (show v2 = 83 by omega) c20); (first | omega | exact absurd (show v2 = 119 by omega) c47); (first | omega | exact absurd (show v2 = 87 by omega) c23)); (rcases h2 with h2 | h2; (first | omega | exact absurd (show v2 = 112 by omega) c33); (first | omega | exact absurd (show v2 = 80 by omega) c12)))); (first | omega | (right; refine ⟨by omega, fun hh => ?_⟩; rcases hh.1 with h2 | h2; (first | omega | exact absurd (show v2 = 112 by omega) c33); (first | omega | exact absurd (show v2 = 80 by omega) c12))))⟩))
        · cases hv
          rw [hGe]
          change ab_W _ _ _ G5 405 [some (vR x), some (vz pl), some (vz v2)] [vz (-1)] _
          exfalso; omega
      · refine ab_iload_n d_TX_escape_388 rfl ?_
        refine ab_callS (d' := d - 1) (as := [vz v2]) (st := []) (z_PW_isWord (o := o) (x := v2) (by omega)) (fun oc G2 h => by rcases h with ⟨h, _⟩ | ⟨h, _⟩ <;> exact ⟨_, h⟩) (by omega) m_PW_isWord ml_TX_81 st_PW_isWord (Nat.le_of_ble_eq_true rfl) d_TX_escape_389 rfl ?_
        intro v G81 hq
        rcases hq with ⟨hv, hGe, hq82⟩ | ⟨hv, hGe, hq83⟩
        · cases hv
          rw [hGe]
          change ab_W _ _ _ G5 392 [some (vR x), some (vz pl), some (vz v2)] [vz 1] _
          refine zz_if_ne (tgt := 399) d_TX_escape_392 (by decide) (by decide) (fun c84 => ?_) (fun c84 => absurd c84 (by decide))
          refine ab_aload_n d_TX_escape_399 rfl ?_
          refine zz_iconst d_TX_escape_400 ?_
          refine ab_iload_n d_TX_escape_401 rfl ?_
          refine ab_callV (d' := d - 1) (as := [vz 5, vz pl]) (st := []) (r := _) (z_TX_fail (o := o) (x := x) (lx := lx) (se := se) (by_ := by_) (n := n) (pl := (pl + 2)) (fa := fa) (fp := fp) (kd := kd) (kn := kn) (w := 5) (p := pl) hx (by omega) (by omega) (by omega)) (fun oc G2 h => by rcases h with ⟨h, _⟩ | ⟨h, _⟩ <;> exact ⟨_, h⟩) (by omega) m_TX_fail ml_TX_53 im_TX_fail se_TX_fail c_TX hx.2.2 (Nat.le_of_ble_eq_true rfl) d_TX_escape_402 rfl ?_
          intro v G85 hq
          rcases hq with ⟨hv, hfk, hlk, hsk, hNx, hq86⟩ | ⟨hv, hGe, hq87⟩
          · cases hv
            have hby_ := hfk.get hby_ (by simp only [List.mem_cons, List.not_mem_nil, or_false]; omega)
            have hfr := hfr.tr hfk (by simp)
            have hlen := hlk.trans hlen
            have hsl := hsk.trans hsl
            have hx := hNx
            change ab_W _ _ _ G85 405 [some (vR x), some (vz pl), some (vz v2)] [vz (-1)] _
            refine zz_iret rfl d_TX_escape_405 ?_
            rw [hQ]; exact (Or.inr (Or.inr ⟨_, _, rfl, hfr, hlen, hsl, hx, hby_, (by omega), (by omega), (by refine ⟨?_, ?_, ?_⟩; (intro v q h; unfold esc1 at h; rcases h with ⟨_, h⟩ | ⟨h1, h2⟩; (rcases h with h | h | h | h | h | h | h | h | h | h | h | ⟨h1, h2, h3, h4⟩; (first | omega | exact absurd (show v2 = 97 by omega) c26); (first | omega | exact absurd (show v2 = 102 by omega) c31); (first | omega | exact absurd (show v2 = 110 by omega) c32); (first | omega | exact absurd (show v2 = 114 by omega) c41); (first | omega | exact absurd (show v2 = 116 by omega) c45); (first | omega | exact absurd (show v2 = 118 by omega) c46); (first | omega | exact absurd (show v2 = 65 by omega) c6); (first | omega | exact absurd (show v2 = 122 by omega) c60); (first | omega | exact absurd (show v2 = 98 by omega) c27); (first | omega | exact absurd (show v2 = 66 by omega) c7); (first | omega | exact absurd (show v2 = 67 by omega) c8); (first | omega | exact h3 (hq3 ▸ hq82))); (first | omega | omega | exact absurd (show v2 = 120 by omega) c50)); (intro q k b h; unfold esc2 at h; (rcases h with ⟨_, h⟩ | ⟨_, h2, h⟩; (rcases h with h | h | h | h | h | h; (first | omega | exact absurd (show v2 = 100 by omega) c28); (first | omega | exact absurd (show v2 = 68 by omega) c9); (first | omega | exact absurd (show v2 = 115 by omega) c42); (first | omega | exact absurd (show v2 = 83 by omega) c20); (first | omega | exact absurd (show v2 = 119 by omega) c47); (first | omega | exact absurd (show v2 = 87 by omega) c23)); (rcases h2 with h2 | h2; (first | omega | exact absurd (show v2 = 112 by omega) c33); (first | omega | exact absurd (show v2 = 80 by omega) c12)))); (first | omega | (right; refine ⟨by omega, fun hh => ?_⟩; rcases hh.1 with h2 | h2; (first | omega | exact absurd (show v2 = 112 by omega) c33); (first | omega | exact absurd (show v2 = 80 by omega) c12))))⟩))
          · cases hv
            rw [hGe]
            change ab_W _ _ _ G5 405 [some (vR x), some (vz pl), some (vz v2)] [vz (-1)] _
            exfalso; omega
        · cases hv
          rw [hGe]
          change ab_W _ _ _ G5 392 [some (vR x), some (vz pl), some (vz v2)] [vz 0] _
          refine zz_if_ne (tgt := 399) d_TX_escape_392 (by decide) (by decide) (fun c88 => absurd c88 (by decide)) (fun c88 => ?_)
          refine ab_iload_n d_TX_escape_395 rfl ?_
          refine ab_goto (tgt := 405) d_TX_escape_396 (by decide) ?_
          refine zz_iret rfl d_TX_escape_405 ?_
          rw [hQ]; exact (Or.inl ⟨_, _, rfl, hfr, hlen, hsl, hx, hby_, (by omega), (by omega), (by unfold esc1; left; refine ⟨by omega, ?_⟩; right; right; right; right; right; right; right; right; right; right; right; exact ⟨by omega, by omega, hq3 ▸ hq83, by omega⟩)⟩)
