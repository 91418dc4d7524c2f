set_option maxRecDepth 100000 in
set_option maxHeartbeats 4000000 in
theorem y_TX_charClass_55 {X : ab_X} {d : Nat} {Q : Outcome → ab_G → Prop} {o0 : Nat → Nat} {G0 : ab_G} {x : Nat} {se : Nat} {by_ : Nat} {m : Nat} {f : Int → Int} {n : Int} {al : Int} {op : Int} {no : Int} {fi : Int} {n0 : Nat} (cn_ : 0 ≤ n ∧ n ≤ ↑m ∧ m ≤ 2000) (hb : bytes f n) (n18 : ab_n0 = 18) (cal : 0 ≤ al ∧ al ≤ 1 ∧ 0 ≤ no ∧ no ≤ 1 ∧ 0 ≤ op ∧ op ≤ 2000) (rc : G0.length + 8000 ≤ ab_n0 + room_1.cells) (rs : ab_slots G0 + 429000 ≤ room_1.slots + 2 * n0) (hd : 9 ≤ d) : ∀ (mz : Nat) {G : ab_G} {o : Nat → Nat} {pl : Int} {fa : Int} {fp : Int} {kd : Nat} {kn : Int} {nb : Nat} {cnt : Int} {P : Int → Prop} {tu : Int}, (cc o G x 24 (ab_ob 10 [vR se, vR by_, vz n, vz pl, vz fa, vz fp, vR kd, vz kn])) → (cc o G by_ 23 (za m f)) → (cc o G 15 15 (za 18 zAR)) → (cc o G 16 16 (za 20 zAF)) → (csI o G se 88 89 nb cnt P) → (tbI o G 0) → (0 ≤ fi ∧ fi ≤ pl ∧ pl ≤ n + 20 + 10 * fa ∧ fi ≤ n + 20) → (0 ≤ fa ∧ fa ≤ 14) → (1 ≤ kd ∧ kd ≤ 12 ∧ 0 ≤ kn ∧ kn ≤ 1) → (0 ≤ tu ∧ tu ≤ n + 1) → (0 ≤ cnt ∧ cnt ≤ 11 * (pl - fi)) → (nb ≤ 104000) → (64 * G.length + n0 ≤ 64 * G0.length + nb) → (ab_slots G + 2 * n0 ≤ ab_slots G0 + 2 * nb) → (pl ≤ n + 200 * fa ∧ fi + tu ≤ pl + 200 * fa) → (clH f n al op fi pl P fa fp) → (fok fa fp) → (fx o0 o [24, 88, 89, 92] G0 G) → (Int.toNat (n + 1 - tu) < mz) → (∀ (G2 : ab_G) (o2 : Nat → Nat) (p2 : Int) (fa2 : Int) (fp2 : Int) (kd2 : Nat) (kn2 : Int) (nb2 : Nat) (c2 : Int) (P2 : Int → Prop), (cc o2 G2 x 24 (ab_ob 10 [vR se, vR by_, vz n, vz p2, vz fa2, vz fp2, vR kd2, vz kn2])) → (cc o2 G2 by_ 23 (za m f)) → (csI o2 G2 se 88 89 nb2 c2 P2) → (1 ≤ fa2) → (clN f n al op fi fa2 fp2) → (0 ≤ fa2 ∧ fa2 ≤ 14) → (1 ≤ kd2 ∧ kd2 ≤ 12 ∧ 0 ≤ kn2 ∧ kn2 ≤ 1) → (nb2 ≤ 104000 ∧ 0 ≤ c2 ∧ c2 ≤ 24900) → (fi ≤ p2 ∧ p2 ≤ n + 160) → (64 * G2.length + n0 ≤ 64 * G0.length + nb2) → (ab_slots G2 + 2 * n0 ≤ ab_slots G0 + 2 * nb2) → (fx o0 o2 [24, 88, 89, 92] G0 G2) → Q (.returned (some (vN))) G2) → (∀ (G2 : ab_G) (o2 : Nat → Nat) (w : Nat) (p2 : Int) (fa2 : Int) (fp2 : Int) (kd2 : Nat) (kn2 : Int) (nb2 : Nat) (c2 : Int) (P2 : Int → Prop) (q2 : Int → Int) (m2 : Int) (w2 : Nat), (cc o2 G2 x 24 (ab_ob 10 [vR se, vR by_, vz n, vz p2, vz fa2, vz fp2, vR kd2, vz kn2])) → (cc o2 G2 by_ 23 (za m f)) → (cc o2 G2 w 93 (za w2 q2)) → (csI o2 G2 se 88 89 nb2 c2 P2) → (∃ P9 : Int → Prop, clT f n al fi (p2 - 1) P9 ∧ (tpk f n (p2 - 1) = 93 ∧ fi < p2 - 1) ∧ ∀ c, cs_mem q2 m2 c ↔ clno no P9 c) → (fa2 = 0) → (fp2 = -1) → (0 ≤ fa2 ∧ fa2 ≤ 14) → (1 ≤ kd2 ∧ kd2 ≤ 12 ∧ 0 ≤ kn2 ∧ kn2 ≤ 1) → (nb2 ≤ 104000 ∧ 0 ≤ c2 ∧ c2 ≤ 24900) → (fi + 2 ≤ p2 ∧ p2 ≤ n) → (cs_can q2 m2) → (0 ≤ m2 ∧ m2 ≤ 11 * (p2 - fi) + 2 ∧ ↑w2 = 2 * m2) → (64 * G2.length + n0 ≤ 64 * G0.length + nb2 + 256) → ((↑(ab_slots G2) : Int) + 2 * ↑n0 ≤ ↑(ab_slots G0) + 2 * ↑nb2 + 88 * (p2 - fi) + 20) → (fx o0 o2 [24, 88, 89, 92] G0 G2) → Q (.returned (some (vR w))) G2) → ab_W X (ab_pl y_TX_charClass b_TX_charClass 9 (some (.array .int))) d G 55 [some (vR x), some (vz al), some (vz op), some (vz no), some (vz fi), some (vz tu), none, none, none] [] Q := by
  intro mz
  induction mz with
  | zero => intro G o pl fa fp kd kn nb cnt P tu hx hby_ h15 h16 pcsI_se ptbI_0 cp cfa ckd ct cc_ hn hg hs cpn2 hch hfo hfr hm hk0 hk1; exact absurd hm (Nat.not_lt_zero _)
  | succ mz ih =>
    intro G o pl fa fp kd kn nb cnt P tu hx hby_ h15 h16 pcsI_se ptbI_0 cp cfa ckd ct cc_ hn hg hs cpn2 hch hfo hfr hm hk0 hk1
    refine ab_iload d_TX_charClass_55 rfl ?_
    refine ab_aload_n d_TX_charClass_57 rfl ?_
    refine ab_getf (fs := [vR se, vR by_, vz n, vz pl, vz fa, vz fp, vR kd, vz kn]) f_TX_40 d_TX_charClass_58 hx.2.2 rfl ?_
    refine zz_icmp_gt (tgt := 301) d_TX_charClass_61 (by decide) (by omega) (by omega) (fun c1 => ?_) (fun c1 => ?_)
    · refine ab_null d_TX_charClass_301 ?_
      refine ab_aret (rt := _) rfl (Or.inr ⟨_, rfl⟩) (Or.inl rfl) d_TX_charClass_302 ?_
      exact hk0 _ _ _ _ _ _ _ _ _ _ hx hby_ pcsI_se (by omega) (by exact clH_w hch (by omega)) (by omega) (by omega) (by omega) (by omega) (by omega) (by omega) hfr
    · refine ab_aload_n d_TX_charClass_64 rfl ?_
      refine ab_getf (fs := [vR se, vR by_, vz n, vz pl, vz fa, vz fp, vR kd, vz kn]) f_TX_46 d_TX_charClass_65 hx.2.2 rfl ?_
      refine zz_if_ne (tgt := 301) d_TX_charClass_68 (by decide) (by omega) (fun c2 => ?_) (fun c2 => ?_)
      · refine ab_null d_TX_charClass_301 ?_
        refine ab_aret (rt := _) rfl (Or.inr ⟨_, rfl⟩) (Or.inl rfl) d_TX_charClass_302 ?_
        exact hk0 _ _ _ _ _ _ _ _ _ _ hx hby_ pcsI_se (by omega) (by exact clH_w hch (by omega)) (by omega) (by omega) (by omega) (by omega) (by omega) (by omega) hfr
      · refine ab_aload_n d_TX_charClass_71 rfl ?_
        refine ab_getf (fs := [vR se, vR by_, vz n, vz pl, vz fa, vz fp, vR kd, vz kn]) f_TX_43 d_TX_charClass_72 hx.2.2 rfl ?_
        refine ab_istore d_TX_charClass_75 (Nat.le_of_ble_eq_true rfl) (Nat.le_of_ble_eq_true rfl) rfl ?_
        change ab_W _ _ _ G 77 [some (vR x), some (vz al), some (vz op), some (vz no), some (vz fi), some (vz tu), some (vz pl), none, none] [] _
        refine ab_aload_n d_TX_charClass_77 rfl ?_
        refine zz_iconst d_TX_charClass_78 ?_
        refine ab_callV (d' := d - 1) (as := [vz 0]) (st := []) (r := _) (z_TX_peek0 (o := o) (x := x) (lx := 24) (se := se) (by_ := by_) (lby := 23) (m := m) (f := f) (n := n) (pl := pl) (fa := fa) (fp := fp) (kd := kd) (kn := kn) hx hby_ (by omega) hb) (fun oc G2 h => by rcases h with ⟨_, h, _⟩ <;> exact ⟨_, h⟩) (by omega) m_TX_peek ml_TX_61 im_TX_peek se_TX_peek c_TX hx.2.2 (Nat.le_of_ble_eq_true rfl) d_TX_charClass_79 rfl ?_
        intro v G3 hq
        rcases hq with ⟨v4, hv, hGe, hq5, hq6⟩
        cases hv
        rw [hGe]
        change ab_W _ _ _ G 82 [some (vR x), some (vz al), some (vz op), some (vz no), some (vz fi), some (vz tu), some (vz pl), none, none] [vz v4] _
        refine zz_bipush d_TX_charClass_82 (by decide) ?_
        refine zz_icmp_ne (tgt := 113) d_TX_charClass_84 (by decide) (by omega) (by decide) (fun c7 => ?_) (fun c7 => ?_)
        · refine ab_aload_n d_TX_charClass_113 rfl ?_
          refine ab_callV (d' := d - 1) (as := []) (st := []) (r := _) (z_TX_isNamedKind (o := o) (x := x) (lx := 24) (se := se) (by_ := by_) (lby := 23) (m := m) (f := f) (n := n) (pl := pl) (fa := fa) (fp := fp) (kd := kd) (kn := kn) hx hby_ (by omega) hb (by omega)) (fun oc G2 h => by rcases h with ⟨h, _⟩ | ⟨h, _⟩ <;> exact ⟨_, h⟩) (by omega) m_TX_isNamedKind ml_TX_114 im_TX_isNamedKind se_TX_isNamedKind c_TX hx.2.2 (Nat.le_of_ble_eq_true rfl) d_TX_charClass_114 rfl ?_
          intro v G8 hq
          rcases hq with ⟨hv, hGe, hq9⟩ | ⟨hv, hGe, hq10⟩
          · cases hv
            rw [hGe]
            change ab_W _ _ _ G 117 [some (vR x), some (vz al), some (vz op), some (vz no), some (vz fi), some (vz tu), some (vz pl), none, none] [vz 1] _
            refine zz_if_eq (tgt := 127) d_TX_charClass_117 (by decide) (by decide) (fun c11 => absurd c11 (by decide)) (fun c11 => ?_)
            have hpn := tpk_w (f := f) (n := n) (i := pl) (by omega)
            refine ab_aload_n d_TX_charClass_120 rfl ?_
            refine ab_callV (d' := d - 1) (as := []) (st := []) (r := _) (z_TX_namedKind (o := o) (x := x) (lx := 24) (se := se) (by_ := by_) (lby := 23) (m := m) (f := f) (n := n) (pl := pl) (fa := fa) (fp := fp) (kd := kd) (kn := kn) hx hby_ (by omega) hb (by omega) (by omega) (by omega) (by omega)) (fun oc G2 h => by rcases h with ⟨_, _, _, h, _⟩ | ⟨_, h, _⟩ <;> exact ⟨_, h⟩) (by omega) m_TX_namedKind ml_TX_118 im_TX_namedKind se_TX_namedKind c_TX hx.2.2 (Nat.le_of_ble_eq_true rfl) d_TX_charClass_121 rfl ?_
            intro v G12 hq
            rcases hq with ⟨p213, k214, b215, hv, hfk, hlk, hsk, hNx, hNby_, hq16, hq17, hq18, hq19⟩ | ⟨p220, hv, hfk, hlk, hsk, hNx, hNby_, hq21, hq22⟩
            · cases hv
              have h15 := hfk.get h15 (by decide)
              have h16 := hfk.get h16 (by decide)
              have pcsI_se := csI.fr hfk pcsI_se (by decide) (by decide)
              have ptbI_0 := tbI.fr hfk ptbI_0  (by decide)
              have hfr := hfr.tr hfk (by decide)
              have hq23 := hlk
              have hq24 := hsk
              have hx := hNx
              have hby_ := hNby_
              change ab_W _ _ _ G12 124 [some (vR x), some (vz al), some (vz op), some (vz no), some (vz fi), some (vz tu), some (vz pl), none, none] [vz (-2)] _
              refine ab_goto (tgt := 132) d_TX_charClass_124 (by decide) ?_
              refine ab_istore d_TX_charClass_132 (Nat.le_of_ble_eq_true rfl) (Nat.le_of_ble_eq_true rfl) rfl ?_
              change ab_W _ _ _ G12 134 [some (vR x), some (vz al), some (vz op), some (vz no), some (vz fi), some (vz tu), some (vz pl), some (vz (-2)), none] [] _
              refine ab_iload d_TX_charClass_134 rfl ?_
              refine ab_istore d_TX_charClass_136 (Nat.le_of_ble_eq_true rfl) (Nat.le_of_ble_eq_true rfl) rfl ?_
              change ab_W _ _ _ G12 138 [some (vR x), some (vz al), some (vz op), some (vz no), some (vz fi), some (vz tu), some (vz pl), some (vz (-2)), some (vz (-2))] [] _
              refine ab_iload d_TX_charClass_138 rfl ?_
              refine zz_if_lt (tgt := 220) d_TX_charClass_140 (by decide) (by decide) (fun c27 => ?_) (fun c27 => absurd c27 (by decide))
              refine ab_aload_n d_TX_charClass_220 rfl ?_
              refine ab_getf (fs := [vR se, vR by_, vz n, vz p213, vz fa, vz fp, vR k214, vz b215]) f_TX_46 d_TX_charClass_221 hx.2.2 rfl ?_
              refine zz_if_ne (tgt := 252) d_TX_charClass_224 (by decide) (by omega) (fun c28 => absurd c28 (by omega)) (fun c28 => ?_)
              refine ab_iload d_TX_charClass_227 rfl ?_
              refine zz_bipush d_TX_charClass_229 (by decide) ?_
              refine zz_icmp_ne (tgt := 252) d_TX_charClass_231 (by decide) (by decide) (by decide) (fun c29 => absurd c29 (by decide)) (fun c29 => ?_)
              refine ab_aload_n d_TX_charClass_234 rfl ?_
              refine ab_getf (fs := [vR se, vR by_, vz n, vz p213, vz fa, vz fp, vR k214, vz b215]) f_TX_12 d_TX_charClass_235 hx.2.2 rfl ?_
              refine ab_aload_n d_TX_charClass_238 rfl ?_
              refine ab_getf (fs := [vR se, vR by_, vz n, vz p213, vz fa, vz fp, vR k214, vz b215]) f_TX_29 d_TX_charClass_239 hx.2.2 rfl ?_
              refine ab_aload_n d_TX_charClass_242 rfl ?_
              refine ab_getf (fs := [vR se, vR by_, vz n, vz p213, vz fa, vz fp, vR k214, vz b215]) f_TX_85 d_TX_charClass_243 hx.2.2 rfl ?_
              obtain ⟨w30, q30, mm30, hk30, hw30, hc30, hks30⟩ := ptbI_0.atE k214 (by omega) (by omega)
              rcases (show b215 = 0 ∨ b215 = 1 by omega) with hkn31 | hkn31
              · subst hkn31
                change ab_W _ _ _ G12 246 [some (vR x), some (vz al), some (vz op), some (vz no), some (vz fi), some (vz tu), some (vz pl), some (vz (-2)), some (vz (-2))] [vz 0, vR k214, vR se] _
                obtain ⟨fsR, hR⟩ := pcsI_se.recv
                refine ab_callV (d' := d - 1) (as := [vR k214, vz 0]) (st := []) (r := _) (z0_CS_addAll (o := o) (r := se) (lr := 88) (lb := 89) (n := nb) (cnt := cnt) (P := P) (a := k214) (la := k214) (w := w30) (q := q30) (mm := mm30) hk30 pcsI_se (by omega) (by omega) hc30 (by omega) (by omega) (by omega)) (fun oc G2 h => by rcases h with ⟨_, _, _, _, h, _⟩ <;> exact ⟨_, h⟩) (by omega) m_CS_addAll ml_TX_125 im_CS_addAll se_CS_addAll c_CS hR (Nat.le_of_ble_eq_true rfl) d_TX_charClass_246 rfl ?_
                intro v G32 hq
                rcases hq with ⟨o33, n234, c235, P236, hv, hfk, pNcsI_se, hq37, hq38, hq39, hq40⟩
                cases hv
                have hx := hfk.get hx (by decide)
                have hby_ := hfk.get hby_ (by decide)
                have h15 := hfk.get h15 (by decide)
                have h16 := hfk.get h16 (by decide)
                have hk30 := hfk.get hk30 (by simp only [List.mem_cons, List.not_mem_nil, or_false]; omega)
                have ptbI_0 := tbI.fr hfk ptbI_0  (by decide)
                have pcsI_se := pNcsI_se
                have hfr := hfr.tr hfk (by decide)
                have hq41 := hfk.1
                change ab_W _ _ _ G32 249 [some (vR x), some (vz al), some (vz op), some (vz no), some (vz fi), some (vz tu), some (vz pl), some (vz (-2)), some (vz (-2))] [] _
                refine ab_goto (tgt := 295) d_TX_charClass_249 (by decide) ?_
                refine zz_iinc d_TX_charClass_295 rfl (Nat.le_of_ble_eq_true rfl) (Nat.le_of_ble_eq_true rfl) rfl ?_
                change ab_W _ _ _ G32 298 [some (vR x), some (vz al), some (vz op), some (vz no), some (vz fi), some (vz (tu + 1)), some (vz pl), some (vz (-2)), some (vz (-2))] [] _
                refine ab_goto (tgt := 55) d_TX_charClass_298 (by decide) ?_
                refine ab_less (L' := [some (vR x), some (vz al), some (vz op), some (vz no), some (vz fi), some (vz (tu + 1)), none, none, none]) (fun i v h => by rcases i with _ | _ | _ | _ | _ | _ | _ | _ | _ | i <;> first | exact h | (simp at h)) ?_
                exact ih (pl := p213) (fa := fa) (fp := fp) (kd := k214) (kn := 0) (nb := n234) (cnt := c235) (P := P236) (tu := (tu + 1)) hx hby_ h15 h16 pcsI_se ptbI_0 (by omega) (by omega) (by omega) (by omega) (by omega) (by omega) (by omega) (by omega) (by have w0 := nk2_w hq19; omega) (clH_s (by omega) (clH_t hch (by omega)) (fun z => by omega) (Or.inl ⟨hq9, _, _, hq19, (km0 hq40 hks30)⟩)) hfo hfr (by omega) hk0 hk1
              · subst hkn31
                change ab_W _ _ _ G12 246 [some (vR x), some (vz al), some (vz op), some (vz no), some (vz fi), some (vz tu), some (vz pl), some (vz (-2)), some (vz (-2))] [vz 1, vR k214, vR se] _
                obtain ⟨fsR, hR⟩ := pcsI_se.recv
                refine ab_callV (d' := d - 1) (as := [vR k214, vz 1]) (st := []) (r := _) (z1_CS_addAll (o := o) (r := se) (lr := 88) (lb := 89) (n := nb) (cnt := cnt) (P := P) (a := k214) (la := k214) (w := w30) (q := q30) (mm := mm30) hk30 pcsI_se (by omega) (by omega) hc30 (by omega) (by omega) (by omega)) (fun oc G2 h => by rcases h with ⟨_, _, _, _, h, _⟩ <;> exact ⟨_, h⟩) (by omega) m_CS_addAll ml_TX_125 im_CS_addAll se_CS_addAll c_CS hR (Nat.le_of_ble_eq_true rfl) d_TX_charClass_246 rfl ?_
                intro v G42 hq
                rcases hq with ⟨o43, n244, c245, P246, hv, hfk, pNcsI_se, hq47, hq48, hq49, hq50⟩
                cases hv
                have hx := hfk.get hx (by decide)
                have hby_ := hfk.get hby_ (by decide)
                have h15 := hfk.get h15 (by decide)
                have h16 := hfk.get h16 (by decide)
                have hk30 := hfk.get hk30 (by simp only [List.mem_cons, List.not_mem_nil, or_false]; omega)
                have ptbI_0 := tbI.fr hfk ptbI_0  (by decide)
                have pcsI_se := pNcsI_se
                have hfr := hfr.tr hfk (by decide)
                have hq51 := hfk.1
                change ab_W _ _ _ G42 249 [some (vR x), some (vz al), some (vz op), some (vz no), some (vz fi), some (vz tu), some (vz pl), some (vz (-2)), some (vz (-2))] [] _
                refine ab_goto (tgt := 295) d_TX_charClass_249 (by decide) ?_
                refine zz_iinc d_TX_charClass_295 rfl (Nat.le_of_ble_eq_true rfl) (Nat.le_of_ble_eq_true rfl) rfl ?_
                change ab_W _ _ _ G42 298 [some (vR x), some (vz al), some (vz op), some (vz no), some (vz fi), some (vz (tu + 1)), some (vz pl), some (vz (-2)), some (vz (-2))] [] _
                refine ab_goto (tgt := 55) d_TX_charClass_298 (by decide) ?_
                refine ab_less (L' := [some (vR x), some (vz al), some (vz op), some (vz no), some (vz fi), some (vz (tu + 1)), none, none, none]) (fun i v h => by rcases i with _ | _ | _ | _ | _ | _ | _ | _ | _ | i <;> first | exact h | (simp at h)) ?_
                exact ih (pl := p213) (fa := fa) (fp := fp) (kd := k214) (kn := 1) (nb := n244) (cnt := c245) (P := P246) (tu := (tu + 1)) hx hby_ h15 h16 pcsI_se ptbI_0 (by omega) (by omega) (by omega) (by omega) (by omega) (by omega) (by omega) (by omega) (by have w0 := nk2_w hq19; omega) (clH_s (by omega) (clH_t hch (by omega)) (fun z => by omega) (Or.inl ⟨hq9, _, _, hq19, (km1 hq50 hks30)⟩)) hfo hfr (by omega) hk0 hk1
            · cases hv
              have h15 := hfk.get h15 (by decide)
              have h16 := hfk.get h16 (by decide)
              have pcsI_se := csI.fr hfk pcsI_se (by decide) (by decide)
              have ptbI_0 := tbI.fr hfk ptbI_0  (by decide)
              have hfr := hfr.tr hfk (by decide)
              have hq25 := hlk
              have hq26 := hsk
              have hx := hNx
              have hby_ := hNby_
              change ab_W _ _ _ G12 124 [some (vR x), some (vz al), some (vz op), some (vz no), some (vz fi), some (vz tu), some (vz pl), none, none] [vz (-1)] _
              refine ab_goto (tgt := 132) d_TX_charClass_124 (by decide) ?_
              refine ab_istore d_TX_charClass_132 (Nat.le_of_ble_eq_true rfl) (Nat.le_of_ble_eq_true rfl) rfl ?_
              change ab_W _ _ _ G12 134 [some (vR x), some (vz al), some (vz op), some (vz no), some (vz fi), some (vz tu), some (vz pl), some (vz (-1)), none] [] _
              refine ab_iload d_TX_charClass_134 rfl ?_
              refine ab_istore d_TX_charClass_136 (Nat.le_of_ble_eq_true rfl) (Nat.le_of_ble_eq_true rfl) rfl ?_
              change ab_W _ _ _ G12 138 [some (vR x), some (vz al), some (vz op), some (vz no), some (vz fi), some (vz tu), some (vz pl), some (vz (-1)), some (vz (-1))] [] _
              refine ab_iload d_TX_charClass_138 rfl ?_
              refine zz_if_lt (tgt := 220) d_TX_charClass_140 (by decide) (by decide) (fun c52 => ?_) (fun c52 => absurd c52 (by decide))
              refine ab_aload_n d_TX_charClass_220 rfl ?_
              refine ab_getf (fs := [vR se, vR by_, vz n, vz p220, vz 7, vz pl, vR kd, vz kn]) f_TX_46 d_TX_charClass_221 hx.2.2 rfl ?_
              refine zz_if_ne (tgt := 252) d_TX_charClass_224 (by decide) (by decide) (fun c53 => ?_) (fun c53 => absurd c53 (by decide))
              refine ab_aload_n d_TX_charClass_252 rfl ?_
              refine ab_getf (fs := [vR se, vR by_, vz n, vz p220, vz 7, vz pl, vR kd, vz kn]) f_TX_46 d_TX_charClass_253 hx.2.2 rfl ?_
              refine zz_if_ne (tgt := 277) d_TX_charClass_256 (by decide) (by decide) (fun c54 => ?_) (fun c54 => absurd c54 (by decide))
              refine ab_aload_n d_TX_charClass_277 rfl ?_
              refine ab_getf (fs := [vR se, vR by_, vz n, vz p220, vz 7, vz pl, vR kd, vz kn]) f_TX_46 d_TX_charClass_278 hx.2.2 rfl ?_
              refine zz_if_ne (tgt := 295) d_TX_charClass_281 (by decide) (by decide) (fun c55 => ?_) (fun c55 => absurd c55 (by decide))
              refine zz_iinc d_TX_charClass_295 rfl (Nat.le_of_ble_eq_true rfl) (Nat.le_of_ble_eq_true rfl) rfl ?_
              change ab_W _ _ _ G12 298 [some (vR x), some (vz al), some (vz op), some (vz no), some (vz fi), some (vz (tu + 1)), some (vz pl), some (vz (-1)), some (vz (-1))] [] _
              refine ab_goto (tgt := 55) d_TX_charClass_298 (by decide) ?_
              refine ab_less (L' := [some (vR x), some (vz al), some (vz op), some (vz no), some (vz fi), some (vz (tu + 1)), none, none, none]) (fun i v h => by rcases i with _ | _ | _ | _ | _ | _ | _ | _ | _ | i <;> first | exact h | (simp at h)) ?_
              exact ih (pl := p220) (fa := 7) (fp := pl) (kd := kd) (kn := kn) (nb := nb) (cnt := cnt) (P := P) (tu := (tu + 1)) hx hby_ h15 h16 pcsI_se ptbI_0 (by omega) (by omega) (by omega) (by omega) (by omega) (by omega) (by omega) (by omega) (by omega) (clH_f (clH_t hch (by omega)) (fun z => by omega) (by omega) (Or.inl ⟨hq9, hq22, rfl, rfl⟩)) (fok_n (by omega)) hfr (by omega) hk0 hk1
          · cases hv
            rw [hGe]
            change ab_W _ _ _ G 117 [some (vR x), some (vz al), some (vz op), some (vz no), some (vz fi), some (vz tu), some (vz pl), none, none] [vz 0] _
            refine zz_if_eq (tgt := 127) d_TX_charClass_117 (by decide) (by decide) (fun c56 => ?_) (fun c56 => absurd c56 (by decide))
            refine ab_aload_n d_TX_charClass_127 rfl ?_
            refine ab_iload_n d_TX_charClass_128 rfl ?_
            refine ab_callV (d' := d - 1) (as := [vz op]) (st := []) (r := _) (z_TX_member (o := o) (x := x) (lx := 24) (se := se) (by_ := by_) (lby := 23) (m := m) (f := f) (n := n) (pl := pl) (fa := fa) (fp := fp) (kd := kd) (kn := kn) (op := op) hx hby_ (by omega) hb (by omega) (by omega) (by omega) (by omega)) (fun oc G2 h => by rcases h with ⟨_, _, h, _⟩ | ⟨_, _, _, h, _⟩ | ⟨_, _, _, h, _⟩ <;> exact ⟨_, h⟩) (by omega) m_TX_member ml_TX_122 im_TX_member se_TX_member c_TX hx.2.2 (Nat.le_of_ble_eq_true rfl) d_TX_charClass_129 rfl ?_
            intro v G57 hq
            rcases hq with ⟨v58, p259, hv, hfk, hlk, hsk, hNx, hNby_, hq60, hq61, hq62⟩ | ⟨p263, k264, b265, hv, hfk, hlk, hsk, hNx, hNby_, hq66, hq67, hq68, hq69⟩ | ⟨p270, w71, fp272, hv, hfk, hlk, hsk, hNx, hNby_, hq73, hq74, hq75⟩
            · cases hv
              have h15 := hfk.get h15 (by decide)
              have h16 := hfk.get h16 (by decide)
              have pcsI_se := csI.fr hfk pcsI_se (by decide) (by decide)
              have ptbI_0 := tbI.fr hfk ptbI_0  (by decide)
              have hfr := hfr.tr hfk (by decide)
              have hq76 := hlk
              have hq77 := hsk
              have hx := hNx
              have hby_ := hNby_
              change ab_W _ _ _ G57 132 [some (vR x), some (vz al), some (vz op), some (vz no), some (vz fi), some (vz tu), some (vz pl), none, none] [vz v58] _
              refine ab_istore d_TX_charClass_132 (Nat.le_of_ble_eq_true rfl) (Nat.le_of_ble_eq_true rfl) rfl ?_
              change ab_W _ _ _ G57 134 [some (vR x), some (vz al), some (vz op), some (vz no), some (vz fi), some (vz tu), some (vz pl), some (vz v58), none] [] _
              refine ab_iload d_TX_charClass_134 rfl ?_
              refine ab_istore d_TX_charClass_136 (Nat.le_of_ble_eq_true rfl) (Nat.le_of_ble_eq_true rfl) rfl ?_
              change ab_W _ _ _ G57 138 [some (vR x), some (vz al), some (vz op), some (vz no), some (vz fi), some (vz tu), some (vz pl), some (vz v58), some (vz v58)] [] _
              refine ab_iload d_TX_charClass_138 rfl ?_
              refine zz_if_lt (tgt := 220) d_TX_charClass_140 (by decide) (by omega) (fun c82 => absurd c82 (by omega)) (fun c82 => ?_)
              refine ab_aload_n d_TX_charClass_143 rfl ?_
              refine zz_iconst d_TX_charClass_144 ?_
              refine ab_callV (d' := d - 1) (as := [vz 0]) (st := []) (r := _) (z_TX_peek0 (o := o) (x := x) (lx := 24) (se := se) (by_ := by_) (lby := 23) (m := m) (f := f) (n := n) (pl := p259) (fa := fa) (fp := fp) (kd := kd) (kn := kn) hx hby_ (by omega) hb) (fun oc G2 h => by rcases h with ⟨_, h, _⟩ <;> exact ⟨_, h⟩) (by omega) m_TX_peek ml_TX_61 im_TX_peek se_TX_peek c_TX hx.2.2 (Nat.le_of_ble_eq_true rfl) d_TX_charClass_145 rfl ?_
              intro v G83 hq
              rcases hq with ⟨v84, hv, hGe, hq85, hq86⟩
              cases hv
              rw [hGe]
              change ab_W _ _ _ G57 148 [some (vR x), some (vz al), some (vz op), some (vz no), some (vz fi), some (vz tu), some (vz pl), some (vz v58), some (vz v58)] [vz v84] _
              refine zz_bipush d_TX_charClass_148 (by decide) ?_
              refine zz_icmp_ne (tgt := 220) d_TX_charClass_150 (by decide) (by omega) (by decide) (fun c87 => ?_) (fun c87 => ?_)
              · refine ab_aload_n d_TX_charClass_220 rfl ?_
                refine ab_getf (fs := [vR se, vR by_, vz n, vz p259, vz fa, vz fp, vR kd, vz kn]) f_TX_46 d_TX_charClass_221 hx.2.2 rfl ?_
                refine zz_if_ne (tgt := 252) d_TX_charClass_224 (by decide) (by omega) (fun c88 => absurd c88 (by omega)) (fun c88 => ?_)
                refine ab_iload d_TX_charClass_227 rfl ?_
                refine zz_bipush d_TX_charClass_229 (by decide) ?_
                refine zz_icmp_ne (tgt := 252) d_TX_charClass_231 (by decide) (by omega) (by decide) (fun c89 => ?_) (fun c89 => absurd c89 (by omega))
                refine ab_aload_n d_TX_charClass_252 rfl ?_
                refine ab_getf (fs := [vR se, vR by_, vz n, vz p259, vz fa, vz fp, vR kd, vz kn]) f_TX_46 d_TX_charClass_253 hx.2.2 rfl ?_
                refine zz_if_ne (tgt := 277) d_TX_charClass_256 (by decide) (by omega) (fun c90 => absurd c90 (by omega)) (fun c90 => ?_)
                refine ab_iload_n d_TX_charClass_259 rfl ?_
                refine zz_if_eq (tgt := 277) d_TX_charClass_260 (by decide) (by omega) (fun c91 => ?_) (fun c91 => ?_)
                · refine ab_aload_n d_TX_charClass_277 rfl ?_
                  refine ab_getf (fs := [vR se, vR by_, vz n, vz p259, vz fa, vz fp, vR kd, vz kn]) f_TX_46 d_TX_charClass_278 hx.2.2 rfl ?_
                  refine zz_if_ne (tgt := 295) d_TX_charClass_281 (by decide) (by omega) (fun c92 => absurd c92 (by omega)) (fun c92 => ?_)
                  refine ab_aload_n d_TX_charClass_284 rfl ?_
                  refine ab_getf (fs := [vR se, vR by_, vz n, vz p259, vz fa, vz fp, vR kd, vz kn]) f_TX_12 d_TX_charClass_285 hx.2.2 rfl ?_
                  refine ab_iload d_TX_charClass_288 rfl ?_
                  refine ab_iload d_TX_charClass_290 rfl ?_
                  obtain ⟨fsR, hR⟩ := pcsI_se.recv
                  refine ab_callV (d' := d - 1) (as := [vz v58, vz v58]) (st := []) (r := _) (c_CS_add (o := o) (r := se) (lr := 88) (lb := 89) (n := nb) (cnt := cnt) (P := P) (lo := v58) (hi := v58) pcsI_se (by omega) (by omega) (by omega) (by omega) (by omega)) (fun oc G2 h => by rcases h with ⟨_, _, _, _, h, _⟩ <;> exact ⟨_, h⟩) (by omega) m_CS_add ml_TX_133 im_CS_add se_CS_add c_CS hR (Nat.le_of_ble_eq_true rfl) d_TX_charClass_292 rfl ?_
                  intro v G93 hq
                  rcases hq with ⟨o94, n295, c296, P297, hv, hfk, pNcsI_se, hq98, hq99, hq100, hq101⟩
                  cases hv
                  have hx := hfk.get hx (by decide)
                  have hby_ := hfk.get hby_ (by decide)
                  have h15 := hfk.get h15 (by decide)
                  have h16 := hfk.get h16 (by decide)
                  have ptbI_0 := tbI.fr hfk ptbI_0  (by decide)
                  have pcsI_se := pNcsI_se
                  have hfr := hfr.tr hfk (by decide)
                  have hq102 := hfk.1
                  change ab_W _ _ _ G93 295 [some (vR x), some (vz al), some (vz op), some (vz no), some (vz fi), some (vz tu), some (vz pl), some (vz v58), some (vz v58)] [] _
                  refine zz_iinc d_TX_charClass_295 rfl (Nat.le_of_ble_eq_true rfl) (Nat.le_of_ble_eq_true rfl) rfl ?_
                  change ab_W _ _ _ G93 298 [some (vR x), some (vz al), some (vz op), some (vz no), some (vz fi), some (vz (tu + 1)), some (vz pl), some (vz v58), some (vz v58)] [] _
                  refine ab_goto (tgt := 55) d_TX_charClass_298 (by decide) ?_
                  refine ab_less (L' := [some (vR x), some (vz al), some (vz op), some (vz no), some (vz fi), some (vz (tu + 1)), none, none, none]) (fun i v h => by rcases i with _ | _ | _ | _ | _ | _ | _ | _ | _ | i <;> first | exact h | (simp at h)) ?_
                  exact ih (pl := p259) (fa := fa) (fp := fp) (kd := kd) (kn := kn) (nb := n295) (cnt := c296) (P := P297) (tu := (tu + 1)) hx hby_ h15 h16 pcsI_se ptbI_0 (by omega) (by omega) (by omega) (by omega) (by omega) (by omega) (by omega) (by omega) (by have w0 := mem1_w hb (by omega) hq62; omega) (clH_s (by omega) (clH_t hch (by omega)) (fun z => by omega) (Or.inr (Or.inr (Or.inl ⟨hq10, _, ⟨hq62, by omega⟩, (fun z => by have z1 := z.1; have z2 := z.2.1; omega), (on0 (by omega) hq98)⟩)))) hfo hfr (by omega) hk0 hk1
                · refine ab_aload_n d_TX_charClass_263 rfl ?_
                  refine ab_getf (fs := [vR se, vR by_, vz n, vz p259, vz fa, vz fp, vR kd, vz kn]) f_TX_12 d_TX_charClass_264 hx.2.2 rfl ?_
                  refine ab_iload d_TX_charClass_267 rfl ?_
                  refine ab_iload d_TX_charClass_269 rfl ?_
                  obtain ⟨fsR, hR⟩ := pcsI_se.recv
                  refine ab_callV (d' := d - 1) (as := [vz v58, vz v58]) (st := []) (r := _) (c1_CS_addAlike (o := o) (r := se) (lr := 88) (lb := 89) (n := nb) (cnt := cnt) (P := P) (lo := v58) h15 h16 pcsI_se (by omega) (by omega) (by omega) (by omega) (by omega) (by omega)) (fun oc G2 h => by rcases h with ⟨_, _, _, _, h, _⟩ <;> exact ⟨_, h⟩) (by omega) m_CS_addAlike ml_TX_129 im_CS_addAlike se_CS_addAlike c_CS hR (Nat.le_of_ble_eq_true rfl) d_TX_charClass_271 rfl ?_
                  intro v G103 hq
                  rcases hq with ⟨o104, n2105, c2106, P2107, hv, hfk, pNcsI_se, hq108, hq109, hq110, hq111⟩
                  cases hv
                  have hx := hfk.get hx (by decide)
                  have hby_ := hfk.get hby_ (by decide)
                  have h15 := hfk.get h15 (by decide)
                  have h16 := hfk.get h16 (by decide)
                  have ptbI_0 := tbI.fr hfk ptbI_0  (by decide)
                  have pcsI_se := pNcsI_se
                  have hfr := hfr.tr hfk (by decide)
                  have hq112 := hfk.1
                  change ab_W _ _ _ G103 274 [some (vR x), some (vz al), some (vz op), some (vz no), some (vz fi), some (vz tu), some (vz pl), some (vz v58), some (vz v58)] [] _
                  refine ab_goto (tgt := 295) d_TX_charClass_274 (by decide) ?_
                  refine zz_iinc d_TX_charClass_295 rfl (Nat.le_of_ble_eq_true rfl) (Nat.le_of_ble_eq_true rfl) rfl ?_
                  change ab_W _ _ _ G103 298 [some (vR x), some (vz al), some (vz op), some (vz no), some (vz fi), some (vz (tu + 1)), some (vz pl), some (vz v58), some (vz v58)] [] _
                  refine ab_goto (tgt := 55) d_TX_charClass_298 (by decide) ?_
                  refine ab_less (L' := [some (vR x), some (vz al), some (vz op), some (vz no), some (vz fi), some (vz (tu + 1)), none, none, none]) (fun i v h => by rcases i with _ | _ | _ | _ | _ | _ | _ | _ | _ | i <;> first | exact h | (simp at h)) ?_
                  exact ih (pl := p259) (fa := fa) (fp := fp) (kd := kd) (kn := kn) (nb := n2105) (cnt := c2106) (P := P2107) (tu := (tu + 1)) hx hby_ h15 h16 pcsI_se ptbI_0 (by omega) (by omega) (by omega) (by omega) (by omega) (by omega) (by omega) (by omega) (by have w0 := mem1_w hb (by omega) hq62; omega) (clH_s (by omega) (clH_t hch (by omega)) (fun z => by omega) (Or.inr (Or.inr (Or.inl ⟨hq10, _, ⟨hq62, by omega⟩, (fun z => by have z1 := z.1; have z2 := z.2.1; omega), (on1 (by omega) hq111)⟩)))) hfo hfr (by omega) hk0 hk1
              · refine ab_aload_n d_TX_charClass_153 rfl ?_
                refine zz_iconst d_TX_charClass_154 ?_
                refine ab_callV (d' := d - 1) (as := [vz 1]) (st := []) (r := _) (z_TX_peek (o := o) (x := x) (lx := 24) (se := se) (by_ := by_) (lby := 23) (m := m) (f := f) (n := n) (pl := p259) (fa := fa) (fp := fp) (kd := kd) (kn := kn) (k := 1) hx hby_ (by omega) hb (by omega)) (fun oc G2 h => by rcases h with ⟨_, h, _⟩ <;> exact ⟨_, h⟩) (by omega) m_TX_peek ml_TX_61 im_TX_peek se_TX_peek c_TX hx.2.2 (Nat.le_of_ble_eq_true rfl) d_TX_charClass_155 rfl ?_
                intro v G113 hq
                rcases hq with ⟨v114, hv, hGe, hq115, hq116⟩
                cases hv
                rw [hGe]
                change ab_W _ _ _ G57 158 [some (vR x), some (vz al), some (vz op), some (vz no), some (vz fi), some (vz tu), some (vz pl), some (vz v58), some (vz v58)] [vz v114] _
                refine zz_bipush d_TX_charClass_158 (by decide) ?_
                refine zz_icmp_eq (tgt := 220) d_TX_charClass_160 (by decide) (by omega) (by decide) (fun c117 => ?_) (fun c117 => ?_)
                · refine ab_aload_n d_TX_charClass_220 rfl ?_
                  refine ab_getf (fs := [vR se, vR by_, vz n, vz p259, vz fa, vz fp, vR kd, vz kn]) f_TX_46 d_TX_charClass_221 hx.2.2 rfl ?_
                  refine zz_if_ne (tgt := 252) d_TX_charClass_224 (by decide) (by omega) (fun c118 => absurd c118 (by omega)) (fun c118 => ?_)
                  refine ab_iload d_TX_charClass_227 rfl ?_
                  refine zz_bipush d_TX_charClass_229 (by decide) ?_
                  refine zz_icmp_ne (tgt := 252) d_TX_charClass_231 (by decide) (by omega) (by decide) (fun c119 => ?_) (fun c119 => absurd c119 (by omega))
                  refine ab_aload_n d_TX_charClass_252 rfl ?_
                  refine ab_getf (fs := [vR se, vR by_, vz n, vz p259, vz fa, vz fp, vR kd, vz kn]) f_TX_46 d_TX_charClass_253 hx.2.2 rfl ?_
                  refine zz_if_ne (tgt := 277) d_TX_charClass_256 (by decide) (by omega) (fun c120 => absurd c120 (by omega)) (fun c120 => ?_)
                  refine ab_iload_n d_TX_charClass_259 rfl ?_
                  refine zz_if_eq (tgt := 277) d_TX_charClass_260 (by decide) (by omega) (fun c121 => ?_) (fun c121 => ?_)
                  · refine ab_aload_n d_TX_charClass_277 rfl ?_
                    refine ab_getf (fs := [vR se, vR by_, vz n, vz p259, vz fa, vz fp, vR kd, vz kn]) f_TX_46 d_TX_charClass_278 hx.2.2 rfl ?_
                    refine zz_if_ne (tgt := 295) d_TX_charClass_281 (by decide) (by omega) (fun c122 => absurd c122 (by omega)) (fun c122 => ?_)
                    refine ab_aload_n d_TX_charClass_284 rfl ?_
                    refine ab_getf (fs := [vR se, vR by_, vz n, vz p259, vz fa, vz fp, vR kd, vz kn]) f_TX_12 d_TX_charClass_285 hx.2.2 rfl ?_
                    refine ab_iload d_TX_charClass_288 rfl ?_
                    refine ab_iload d_TX_charClass_290 rfl ?_
                    obtain ⟨fsR, hR⟩ := pcsI_se.recv
                    refine ab_callV (d' := d - 1) (as := [vz v58, vz v58]) (st := []) (r := _) (c_CS_add (o := o) (r := se) (lr := 88) (lb := 89) (n := nb) (cnt := cnt) (P := P) (lo := v58) (hi := v58) pcsI_se (by omega) (by omega) (by omega) (by omega) (by omega)) (fun oc G2 h => by rcases h with ⟨_, _, _, _, h, _⟩ <;> exact ⟨_, h⟩) (by omega) m_CS_add ml_TX_133 im_CS_add se_CS_add c_CS hR (Nat.le_of_ble_eq_true rfl) d_TX_charClass_292 rfl ?_
                    intro v G123 hq
                    rcases hq with ⟨o124, n2125, c2126, P2127, hv, hfk, pNcsI_se, hq128, hq129, hq130, hq131⟩
                    cases hv
                    have hx := hfk.get hx (by decide)
                    have hby_ := hfk.get hby_ (by decide)
                    have h15 := hfk.get h15 (by decide)
                    have h16 := hfk.get h16 (by decide)
                    have ptbI_0 := tbI.fr hfk ptbI_0  (by decide)
                    have pcsI_se := pNcsI_se
                    have hfr := hfr.tr hfk (by decide)
                    have hq132 := hfk.1
                    change ab_W _ _ _ G123 295 [some (vR x), some (vz al), some (vz op), some (vz no), some (vz fi), some (vz tu), some (vz pl), some (vz v58), some (vz v58)] [] _
                    refine zz_iinc d_TX_charClass_295 rfl (Nat.le_of_ble_eq_true rfl) (Nat.le_of_ble_eq_true rfl) rfl ?_
                    change ab_W _ _ _ G123 298 [some (vR x), some (vz al), some (vz op), some (vz no), some (vz fi), some (vz (tu + 1)), some (vz pl), some (vz v58), some (vz v58)] [] _
                    refine ab_goto (tgt := 55) d_TX_charClass_298 (by decide) ?_
                    refine ab_less (L' := [some (vR x), some (vz al), some (vz op), some (vz no), some (vz fi), some (vz (tu + 1)), none, none, none]) (fun i v h => by rcases i with _ | _ | _ | _ | _ | _ | _ | _ | _ | i <;> first | exact h | (simp at h)) ?_
                    exact ih (pl := p259) (fa := fa) (fp := fp) (kd := kd) (kn := kn) (nb := n2125) (cnt := c2126) (P := P2127) (tu := (tu + 1)) hx hby_ h15 h16 pcsI_se ptbI_0 (by omega) (by omega) (by omega) (by omega) (by omega) (by omega) (by omega) (by omega) (by have w0 := mem1_w hb (by omega) hq62; omega) (clH_s (by omega) (clH_t hch (by omega)) (fun z => by omega) (Or.inr (Or.inr (Or.inl ⟨hq10, _, ⟨hq62, by omega⟩, (fun z => by have z1 := z.1; have z2 := z.2.1; omega), (on0 (by omega) hq128)⟩)))) hfo hfr (by omega) hk0 hk1
                  · refine ab_aload_n d_TX_charClass_263 rfl ?_
                    refine ab_getf (fs := [vR se, vR by_, vz n, vz p259, vz fa, vz fp, vR kd, vz kn]) f_TX_12 d_TX_charClass_264 hx.2.2 rfl ?_
                    refine ab_iload d_TX_charClass_267 rfl ?_
                    refine ab_iload d_TX_charClass_269 rfl ?_
                    obtain ⟨fsR, hR⟩ := pcsI_se.recv
                    refine ab_callV (d' := d - 1) (as := [vz v58, vz v58]) (st := []) (r := _) (c1_CS_addAlike (o := o) (r := se) (lr := 88) (lb := 89) (n := nb) (cnt := cnt) (P := P) (lo := v58) h15 h16 pcsI_se (by omega) (by omega) (by omega) (by omega) (by omega) (by omega)) (fun oc G2 h => by rcases h with ⟨_, _, _, _, h, _⟩ <;> exact ⟨_, h⟩) (by omega) m_CS_addAlike ml_TX_129 im_CS_addAlike se_CS_addAlike c_CS hR (Nat.le_of_ble_eq_true rfl) d_TX_charClass_271 rfl ?_
                    intro v G133 hq
                    rcases hq with ⟨o134, n2135, c2136, P2137, hv, hfk, pNcsI_se, hq138, hq139, hq140, hq141⟩
                    cases hv
                    have hx := hfk.get hx (by decide)
                    have hby_ := hfk.get hby_ (by decide)
                    have h15 := hfk.get h15 (by decide)
                    have h16 := hfk.get h16 (by decide)
                    have ptbI_0 := tbI.fr hfk ptbI_0  (by decide)
                    have pcsI_se := pNcsI_se
                    have hfr := hfr.tr hfk (by decide)
                    have hq142 := hfk.1
                    change ab_W _ _ _ G133 274 [some (vR x), some (vz al), some (vz op), some (vz no), some (vz fi), some (vz tu), some (vz pl), some (vz v58), some (vz v58)] [] _
                    refine ab_goto (tgt := 295) d_TX_charClass_274 (by decide) ?_
                    refine zz_iinc d_TX_charClass_295 rfl (Nat.le_of_ble_eq_true rfl) (Nat.le_of_ble_eq_true rfl) rfl ?_
                    change ab_W _ _ _ G133 298 [some (vR x), some (vz al), some (vz op), some (vz no), some (vz fi), some (vz (tu + 1)), some (vz pl), some (vz v58), some (vz v58)] [] _
                    refine ab_goto (tgt := 55) d_TX_charClass_298 (by decide) ?_
                    refine ab_less (L' := [some (vR x), some (vz al), some (vz op), some (vz no), some (vz fi), some (vz (tu + 1)), none, none, none]) (fun i v h => by rcases i with _ | _ | _ | _ | _ | _ | _ | _ | _ | i <;> first | exact h | (simp at h)) ?_
                    exact ih (pl := p259) (fa := fa) (fp := fp) (kd := kd) (kn := kn) (nb := n2135) (cnt := c2136) (P := P2137) (tu := (tu + 1)) hx hby_ h15 h16 pcsI_se ptbI_0 (by omega) (by omega) (by omega) (by omega) (by omega) (by omega) (by omega) (by omega) (by have w0 := mem1_w hb (by omega) hq62; omega) (clH_s (by omega) (clH_t hch (by omega)) (fun z => by omega) (Or.inr (Or.inr (Or.inl ⟨hq10, _, ⟨hq62, by omega⟩, (fun z => by have z1 := z.1; have z2 := z.2.1; omega), (on1 (by omega) hq141)⟩)))) hfo hfr (by omega) hk0 hk1
                · refine ab_aload_n d_TX_charClass_163 rfl ?_
                  refine ab_dup d_TX_charClass_164 rfl ?_
                  refine ab_getf (fs := [vR se, vR by_, vz n, vz p259, vz fa, vz fp, vR kd, vz kn]) f_TX_43 d_TX_charClass_165 hx.2.2 rfl ?_
                  refine zz_iconst d_TX_charClass_168 ?_
                  refine zz_iadd d_TX_charClass_169 ?_
                  refine ab_putf (fs := [vR se, vR by_, vz n, vz p259, vz fa, vz fp, vR kd, vz kn]) f_TX_43 (Or.inl rfl) d_TX_charClass_170 hx.2.2 (Nat.le_of_ble_eq_true rfl) (fun _ => ⟨rfl, rfl⟩) (hx.2.1 (by decide)) ?_
                  obtain ⟨G143, eG143⟩ : ∃ z : ab_G, z = List.set G57 x (ab_ob 10 [vR se, vR by_, vz n, vz (p259 + 1), vz fa, vz fp, vR kd, vz kn]) := ⟨_, rfl⟩
                  have hby_ := hby_.keep hx eG143 (by decide)
                  have h15 := h15.keep hx eG143 (by decide)
                  have h16 := h16.keep hx eG143 (by decide)
                  have hst := (fx.rf (o := o) (S := [24]) (G := G57)).wr hx eG143 (List.mem_singleton.mpr rfl)
                  have pcsI_se := csI.fr hst pcsI_se (by decide) (by decide)
                  have ptbI_0 := tbI.fr hst ptbI_0  (by decide)
                  have hq144 := z_len eG143
                  have hq145 := z_sl hx eG143 rfl
                  have hfr := hfr.wr hx eG143 (by decide)
                  have hx := hx.kept eG143
                  change ab_W _ _ _ (List.set G57 x (ab_ob 10 [vR se, vR by_, vz n, vz (p259 + 1), vz fa, vz fp, vR kd, vz kn])) 173 [some (vR x), some (vz al), some (vz op), some (vz no), some (vz fi), some (vz tu), some (vz pl), some (vz v58), some (vz v58)] [] _
                  rw [← eG143]
                  refine ab_aload_n d_TX_charClass_173 rfl ?_
                  refine ab_callV (d' := d - 1) (as := []) (st := []) (r := _) (z_TX_isNamedKind (o := o) (x := x) (lx := 24) (se := se) (by_ := by_) (lby := 23) (m := m) (f := f) (n := n) (pl := (p259 + 1)) (fa := fa) (fp := fp) (kd := kd) (kn := kn) hx hby_ (by omega) hb (by omega)) (fun oc G2 h => by rcases h with ⟨h, _⟩ | ⟨h, _⟩ <;> exact ⟨_, h⟩) (by omega) m_TX_isNamedKind ml_TX_114 im_TX_isNamedKind se_TX_isNamedKind c_TX hx.2.2 (Nat.le_of_ble_eq_true rfl) d_TX_charClass_174 rfl ?_
                  intro v G146 hq
                  rcases hq with ⟨hv, hGe, hq147⟩ | ⟨hv, hGe, hq148⟩
                  · cases hv
                    rw [hGe]
                    change ab_W _ _ _ G143 177 [some (vR x), some (vz al), some (vz op), some (vz no), some (vz fi), some (vz tu), some (vz pl), some (vz v58), some (vz v58)] [vz 1] _
                    refine zz_if_eq (tgt := 185) d_TX_charClass_177 (by decide) (by decide) (fun c149 => absurd c149 (by decide)) (fun c149 => ?_)
                    refine zz_bipush d_TX_charClass_180 (by decide) ?_
                    refine ab_goto (tgt := 190) d_TX_charClass_182 (by decide) ?_
                    refine ab_istore d_TX_charClass_190 (Nat.le_of_ble_eq_true rfl) (Nat.le_of_ble_eq_true rfl) rfl ?_
                    change ab_W _ _ _ G143 192 [some (vR x), some (vz al), some (vz op), some (vz no), some (vz fi), some (vz tu), some (vz pl), some (vz v58), some (vz (-2))] [] _
                    refine ab_iload d_TX_charClass_192 rfl ?_
                    refine zz_bipush d_TX_charClass_194 (by decide) ?_
                    refine zz_icmp_eq (tgt := 211) d_TX_charClass_196 (by decide) (by decide) (by decide) (fun c150 => ?_) (fun c150 => absurd c150 (by decide))
                    refine ab_aload_n d_TX_charClass_211 rfl ?_
                    refine zz_bipush d_TX_charClass_212 (by decide) ?_
                    refine ab_iload d_TX_charClass_214 rfl ?_
                    refine ab_callV (d' := d - 1) (as := [vz 6, vz pl]) (st := []) (r := _) (z_TX_fail (o := o) (x := x) (lx := 24) (se := se) (by_ := by_) (n := n) (pl := (p259 + 1)) (fa := fa) (fp := fp) (kd := kd) (kn := kn) (w := 6) (p := pl) hx (by omega) (by omega) (by omega)) (fun oc G2 h => by rcases h with ⟨h, _⟩ | ⟨h, _⟩ <;> exact ⟨_, h⟩) (by omega) m_TX_fail ml_TX_53 im_TX_fail se_TX_fail c_TX hx.2.2 (Nat.le_of_ble_eq_true rfl) d_TX_charClass_216 rfl ?_
                    intro v G151 hq
                    rcases hq with ⟨hv, hfk, hlk, hsk, hNx, hq152⟩ | ⟨hv, hGe, hq153⟩
                    · cases hv
                      have hby_ := hfk.get hby_ (by decide)
                      have h15 := hfk.get h15 (by decide)
                      have h16 := hfk.get h16 (by decide)
                      have pcsI_se := csI.fr hfk pcsI_se (by decide) (by decide)
                      have ptbI_0 := tbI.fr hfk ptbI_0  (by decide)
                      have hfr := hfr.tr hfk (by decide)
                      have hq154 := hlk
                      have hq155 := hsk
                      have hx := hNx
                      change ab_W _ _ _ G151 219 [some (vR x), some (vz al), some (vz op), some (vz no), some (vz fi), some (vz tu), some (vz pl), some (vz v58), some (vz (-2))] [vz (-1)] _
                      refine ab_pop d_TX_charClass_219 rfl ?_
                      refine ab_aload_n d_TX_charClass_220 rfl ?_
                      refine ab_getf (fs := [vR se, vR by_, vz n, vz (p259 + 1), vz 6, vz pl, vR kd, vz kn]) f_TX_46 d_TX_charClass_221 hx.2.2 rfl ?_
                      refine zz_if_ne (tgt := 252) d_TX_charClass_224 (by decide) (by decide) (fun c156 => ?_) (fun c156 => absurd c156 (by decide))
                      refine ab_aload_n d_TX_charClass_252 rfl ?_
                      refine ab_getf (fs := [vR se, vR by_, vz n, vz (p259 + 1), vz 6, vz pl, vR kd, vz kn]) f_TX_46 d_TX_charClass_253 hx.2.2 rfl ?_
                      refine zz_if_ne (tgt := 277) d_TX_charClass_256 (by decide) (by decide) (fun c157 => ?_) (fun c157 => absurd c157 (by decide))
                      refine ab_aload_n d_TX_charClass_277 rfl ?_
                      refine ab_getf (fs := [vR se, vR by_, vz n, vz (p259 + 1), vz 6, vz pl, vR kd, vz kn]) f_TX_46 d_TX_charClass_278 hx.2.2 rfl ?_
                      refine zz_if_ne (tgt := 295) d_TX_charClass_281 (by decide) (by decide) (fun c158 => ?_) (fun c158 => absurd c158 (by decide))
                      refine zz_iinc d_TX_charClass_295 rfl (Nat.le_of_ble_eq_true rfl) (Nat.le_of_ble_eq_true rfl) rfl ?_
                      change ab_W _ _ _ G151 298 [some (vR x), some (vz al), some (vz op), some (vz no), some (vz fi), some (vz (tu + 1)), some (vz pl), some (vz v58), some (vz (-2))] [] _
                      refine ab_goto (tgt := 55) d_TX_charClass_298 (by decide) ?_
                      refine ab_less (L' := [some (vR x), some (vz al), some (vz op), some (vz no), some (vz fi), some (vz (tu + 1)), none, none, none]) (fun i v h => by rcases i with _ | _ | _ | _ | _ | _ | _ | _ | _ | i <;> first | exact h | (simp at h)) ?_
                      exact ih (pl := (p259 + 1)) (fa := 6) (fp := pl) (kd := kd) (kn := kn) (nb := nb) (cnt := cnt) (P := P) (tu := (tu + 1)) hx hby_ h15 h16 pcsI_se ptbI_0 (by omega) (by omega) (by omega) (by omega) (by omega) (by omega) (by omega) (by omega) (by have w0 := mem1_w hb (by omega) hq62; omega) (clH_nk (clH_t hch (by omega)) (fun z => by omega) hq10 ⟨hq62, by omega⟩ (by omega) (by omega) hq147) (fok_n (by omega)) hfr (by omega) hk0 hk1
                    · cases hv
                      rw [hGe]
                      change ab_W _ _ _ G143 219 [some (vR x), some (vz al), some (vz op), some (vz no), some (vz fi), some (vz tu), some (vz pl), some (vz v58), some (vz (-2))] [vz (-1)] _
                      exfalso; omega
                  · cases hv
                    rw [hGe]
                    change ab_W _ _ _ G143 177 [some (vR x), some (vz al), some (vz op), some (vz no), some (vz fi), some (vz tu), some (vz pl), some (vz v58), some (vz v58)] [vz 0] _
                    refine zz_if_eq (tgt := 185) d_TX_charClass_177 (by decide) (by decide) (fun c159 => ?_) (fun c159 => absurd c159 (by decide))
                    refine ab_aload_n d_TX_charClass_185 rfl ?_
                    refine ab_iload_n d_TX_charClass_186 rfl ?_
                    refine ab_callV (d' := d - 1) (as := [vz op]) (st := []) (r := _) (z_TX_member (o := o) (x := x) (lx := 24) (se := se) (by_ := by_) (lby := 23) (m := m) (f := f) (n := n) (pl := (p259 + 1)) (fa := fa) (fp := fp) (kd := kd) (kn := kn) (op := op) hx hby_ (by omega) hb (by omega) (by omega) (by omega) (by omega)) (fun oc G2 h => by rcases h with ⟨_, _, h, _⟩ | ⟨_, _, _, h, _⟩ | ⟨_, _, _, h, _⟩ <;> exact ⟨_, h⟩) (by omega) m_TX_member ml_TX_122 im_TX_member se_TX_member c_TX hx.2.2 (Nat.le_of_ble_eq_true rfl) d_TX_charClass_187 rfl ?_
                    intro v G160 hq
                    rcases hq with ⟨v161, p2162, hv, hfk, hlk, hsk, hNx, hNby_, hq163, hq164, hq165⟩ | ⟨p2166, k2167, b2168, hv, hfk, hlk, hsk, hNx, hNby_, hq169, hq170, hq171, hq172⟩ | ⟨p2173, w174, fp2175, hv, hfk, hlk, hsk, hNx, hNby_, hq176, hq177, hq178⟩
                    · cases hv
                      have h15 := hfk.get h15 (by decide)
                      have h16 := hfk.get h16 (by decide)
                      have pcsI_se := csI.fr hfk pcsI_se (by decide) (by decide)
                      have ptbI_0 := tbI.fr hfk ptbI_0  (by decide)
                      have hfr := hfr.tr hfk (by decide)
                      have hq179 := hlk
                      have hq180 := hsk
                      have hx := hNx
                      have hby_ := hNby_
                      change ab_W _ _ _ G160 190 [some (vR x), some (vz al), some (vz op), some (vz no), some (vz fi), some (vz tu), some (vz pl), some (vz v58), some (vz v58)] [vz v161] _
                      refine ab_istore d_TX_charClass_190 (Nat.le_of_ble_eq_true rfl) (Nat.le_of_ble_eq_true rfl) rfl ?_
                      change ab_W _ _ _ G160 192 [some (vR x), some (vz al), some (vz op), some (vz no), some (vz fi), some (vz tu), some (vz pl), some (vz v58), some (vz v161)] [] _
                      refine ab_iload d_TX_charClass_192 rfl ?_
                      refine zz_bipush d_TX_charClass_194 (by decide) ?_
                      refine zz_icmp_eq (tgt := 211) d_TX_charClass_196 (by decide) (by omega) (by decide) (fun c185 => absurd c185 (by omega)) (fun c185 => ?_)
                      refine ab_iload d_TX_charClass_199 rfl ?_
                      refine zz_if_lt (tgt := 220) d_TX_charClass_201 (by decide) (by omega) (fun c186 => absurd c186 (by omega)) (fun c186 => ?_)
                      refine ab_iload d_TX_charClass_204 rfl ?_
                      refine ab_iload d_TX_charClass_206 rfl ?_
                      refine zz_icmp_ge (tgt := 220) d_TX_charClass_208 (by decide) (by omega) (by omega) (fun c187 => ?_) (fun c187 => ?_)
                      · refine ab_aload_n d_TX_charClass_220 rfl ?_
                        refine ab_getf (fs := [vR se, vR by_, vz n, vz p2162, vz fa, vz fp, vR kd, vz kn]) f_TX_46 d_TX_charClass_221 hx.2.2 rfl ?_
                        refine zz_if_ne (tgt := 252) d_TX_charClass_224 (by decide) (by omega) (fun c188 => absurd c188 (by omega)) (fun c188 => ?_)
                        refine ab_iload d_TX_charClass_227 rfl ?_
                        refine zz_bipush d_TX_charClass_229 (by decide) ?_
                        refine zz_icmp_ne (tgt := 252) d_TX_charClass_231 (by decide) (by omega) (by decide) (fun c189 => ?_) (fun c189 => absurd c189 (by omega))
                        refine ab_aload_n d_TX_charClass_252 rfl ?_
                        refine ab_getf (fs := [vR se, vR by_, vz n, vz p2162, vz fa, vz fp, vR kd, vz kn]) f_TX_46 d_TX_charClass_253 hx.2.2 rfl ?_
                        refine zz_if_ne (tgt := 277) d_TX_charClass_256 (by decide) (by omega) (fun c190 => absurd c190 (by omega)) (fun c190 => ?_)
                        refine ab_iload_n d_TX_charClass_259 rfl ?_
                        refine zz_if_eq (tgt := 277) d_TX_charClass_260 (by decide) (by omega) (fun c191 => ?_) (fun c191 => ?_)
                        · refine ab_aload_n d_TX_charClass_277 rfl ?_
                          refine ab_getf (fs := [vR se, vR by_, vz n, vz p2162, vz fa, vz fp, vR kd, vz kn]) f_TX_46 d_TX_charClass_278 hx.2.2 rfl ?_
                          refine zz_if_ne (tgt := 295) d_TX_charClass_281 (by decide) (by omega) (fun c192 => absurd c192 (by omega)) (fun c192 => ?_)
                          refine ab_aload_n d_TX_charClass_284 rfl ?_
                          refine ab_getf (fs := [vR se, vR by_, vz n, vz p2162, vz fa, vz fp, vR kd, vz kn]) f_TX_12 d_TX_charClass_285 hx.2.2 rfl ?_
                          refine ab_iload d_TX_charClass_288 rfl ?_
                          refine ab_iload d_TX_charClass_290 rfl ?_
                          obtain ⟨fsR, hR⟩ := pcsI_se.recv
                          refine ab_callV (d' := d - 1) (as := [vz v58, vz v161]) (st := []) (r := _) (c_CS_add (o := o) (r := se) (lr := 88) (lb := 89) (n := nb) (cnt := cnt) (P := P) (lo := v58) (hi := v161) pcsI_se (by omega) (by omega) (by omega) (by omega) (by omega)) (fun oc G2 h => by rcases h with ⟨_, _, _, _, h, _⟩ <;> exact ⟨_, h⟩) (by omega) m_CS_add ml_TX_133 im_CS_add se_CS_add c_CS hR (Nat.le_of_ble_eq_true rfl) d_TX_charClass_292 rfl ?_
                          intro v G193 hq
                          rcases hq with ⟨o194, n2195, c2196, P2197, hv, hfk, pNcsI_se, hq198, hq199, hq200, hq201⟩
                          cases hv
                          have hx := hfk.get hx (by decide)
                          have hby_ := hfk.get hby_ (by decide)
                          have h15 := hfk.get h15 (by decide)
                          have h16 := hfk.get h16 (by decide)
                          have ptbI_0 := tbI.fr hfk ptbI_0  (by decide)
                          have pcsI_se := pNcsI_se
                          have hfr := hfr.tr hfk (by decide)
                          have hq202 := hfk.1
                          change ab_W _ _ _ G193 295 [some (vR x), some (vz al), some (vz op), some (vz no), some (vz fi), some (vz tu), some (vz pl), some (vz v58), some (vz v161)] [] _
                          refine zz_iinc d_TX_charClass_295 rfl (Nat.le_of_ble_eq_true rfl) (Nat.le_of_ble_eq_true rfl) rfl ?_
                          change ab_W _ _ _ G193 298 [some (vR x), some (vz al), some (vz op), some (vz no), some (vz fi), some (vz (tu + 1)), some (vz pl), some (vz v58), some (vz v161)] [] _
                          refine ab_goto (tgt := 55) d_TX_charClass_298 (by decide) ?_
                          refine ab_less (L' := [some (vR x), some (vz al), some (vz op), some (vz no), some (vz fi), some (vz (tu + 1)), none, none, none]) (fun i v h => by rcases i with _ | _ | _ | _ | _ | _ | _ | _ | _ | i <;> first | exact h | (simp at h)) ?_
                          exact ih (pl := p2162) (fa := fa) (fp := fp) (kd := kd) (kn := kn) (nb := n2195) (cnt := c2196) (P := P2197) (tu := (tu + 1)) hx hby_ h15 h16 pcsI_se ptbI_0 (by omega) (by omega) (by omega) (by omega) (by omega) (by omega) (by omega) (by omega) (by have w0 := mem1_w hb (by omega) hq62; have w1 := mem1_w hb (by omega) hq165; omega) (clH_rg (by omega) hb (clH_t hch (by omega)) (fun z => by omega) hq10 ⟨hq62, by omega⟩ (by omega) (by omega) hq148 hq165 (by omega) (by omega) (on0 (by omega) hq198)) hfo hfr (by omega) hk0 hk1
                        · refine ab_aload_n d_TX_charClass_263 rfl ?_
                          refine ab_getf (fs := [vR se, vR by_, vz n, vz p2162, vz fa, vz fp, vR kd, vz kn]) f_TX_12 d_TX_charClass_264 hx.2.2 rfl ?_
                          refine ab_iload d_TX_charClass_267 rfl ?_
                          refine ab_iload d_TX_charClass_269 rfl ?_
                          obtain ⟨fsR, hR⟩ := pcsI_se.recv
                          refine ab_callV (d' := d - 1) (as := [vz v58, vz v161]) (st := []) (r := _) (z_CS_addAlike (o := o) (r := se) (lr := 88) (lb := 89) (n := nb) (cnt := cnt) (P := P) (lo := v58) (hi := v161) h15 h16 pcsI_se (by omega) (by omega) (by omega) (by omega) (by omega) (by omega)) (fun oc G2 h => by rcases h with ⟨_, _, _, _, h, _⟩ <;> exact ⟨_, h⟩) (by omega) m_CS_addAlike ml_TX_129 im_CS_addAlike se_CS_addAlike c_CS hR (Nat.le_of_ble_eq_true rfl) d_TX_charClass_271 rfl ?_
                          intro v G203 hq
                          rcases hq with ⟨o204, n2205, c2206, P2207, hv, hfk, pNcsI_se, hq208, hq209, hq210, hq211⟩
                          cases hv
                          have hx := hfk.get hx (by decide)
                          have hby_ := hfk.get hby_ (by decide)
                          have h15 := hfk.get h15 (by decide)
                          have h16 := hfk.get h16 (by decide)
                          have ptbI_0 := tbI.fr hfk ptbI_0  (by decide)
                          have pcsI_se := pNcsI_se
                          have hfr := hfr.tr hfk (by decide)
                          have hq212 := hfk.1
                          change ab_W _ _ _ G203 274 [some (vR x), some (vz al), some (vz op), some (vz no), some (vz fi), some (vz tu), some (vz pl), some (vz v58), some (vz v161)] [] _
                          refine ab_goto (tgt := 295) d_TX_charClass_274 (by decide) ?_
                          refine zz_iinc d_TX_charClass_295 rfl (Nat.le_of_ble_eq_true rfl) (Nat.le_of_ble_eq_true rfl) rfl ?_
                          change ab_W _ _ _ G203 298 [some (vR x), some (vz al), some (vz op), some (vz no), some (vz fi), some (vz (tu + 1)), some (vz pl), some (vz v58), some (vz v161)] [] _
                          refine ab_goto (tgt := 55) d_TX_charClass_298 (by decide) ?_
                          refine ab_less (L' := [some (vR x), some (vz al), some (vz op), some (vz no), some (vz fi), some (vz (tu + 1)), none, none, none]) (fun i v h => by rcases i with _ | _ | _ | _ | _ | _ | _ | _ | _ | i <;> first | exact h | (simp at h)) ?_
                          exact ih (pl := p2162) (fa := fa) (fp := fp) (kd := kd) (kn := kn) (nb := n2205) (cnt := c2206) (P := P2207) (tu := (tu + 1)) hx hby_ h15 h16 pcsI_se ptbI_0 (by omega) (by omega) (by omega) (by omega) (by omega) (by omega) (by omega) (by omega) (by have w0 := mem1_w hb (by omega) hq62; have w1 := mem1_w hb (by omega) hq165; omega) (clH_rg (by omega) hb (clH_t hch (by omega)) (fun z => by omega) hq10 ⟨hq62, by omega⟩ (by omega) (by omega) hq148 hq165 (by omega) (by omega) (on1 (by omega) hq211)) hfo hfr (by omega) hk0 hk1
                      · refine ab_aload_n d_TX_charClass_211 rfl ?_
                        refine zz_bipush d_TX_charClass_212 (by decide) ?_
                        refine ab_iload d_TX_charClass_214 rfl ?_
                        refine ab_callV (d' := d - 1) (as := [vz 6, vz pl]) (st := []) (r := _) (z_TX_fail (o := o) (x := x) (lx := 24) (se := se) (by_ := by_) (n := n) (pl := p2162) (fa := fa) (fp := fp) (kd := kd) (kn := kn) (w := 6) (p := pl) hx (by omega) (by omega) (by omega)) (fun oc G2 h => by rcases h with ⟨h, _⟩ | ⟨h, _⟩ <;> exact ⟨_, h⟩) (by omega) m_TX_fail ml_TX_53 im_TX_fail se_TX_fail c_TX hx.2.2 (Nat.le_of_ble_eq_true rfl) d_TX_charClass_216 rfl ?_
                        intro v G213 hq
                        rcases hq with ⟨hv, hfk, hlk, hsk, hNx, hq214⟩ | ⟨hv, hGe, hq215⟩
                        · cases hv
                          have hby_ := hfk.get hby_ (by decide)
                          have h15 := hfk.get h15 (by decide)
                          have h16 := hfk.get h16 (by decide)
                          have pcsI_se := csI.fr hfk pcsI_se (by decide) (by decide)
                          have ptbI_0 := tbI.fr hfk ptbI_0  (by decide)
                          have hfr := hfr.tr hfk (by decide)
                          have hq216 := hlk
                          have hq217 := hsk
                          have hx := hNx
                          change ab_W _ _ _ G213 219 [some (vR x), some (vz al), some (vz op), some (vz no), some (vz fi), some (vz tu), some (vz pl), some (vz v58), some (vz v161)] [vz (-1)] _
                          refine ab_pop d_TX_charClass_219 rfl ?_
                          refine ab_aload_n d_TX_charClass_220 rfl ?_
                          refine ab_getf (fs := [vR se, vR by_, vz n, vz p2162, vz 6, vz pl, vR kd, vz kn]) f_TX_46 d_TX_charClass_221 hx.2.2 rfl ?_
                          refine zz_if_ne (tgt := 252) d_TX_charClass_224 (by decide) (by decide) (fun c218 => ?_) (fun c218 => absurd c218 (by decide))
                          refine ab_aload_n d_TX_charClass_252 rfl ?_
                          refine ab_getf (fs := [vR se, vR by_, vz n, vz p2162, vz 6, vz pl, vR kd, vz kn]) f_TX_46 d_TX_charClass_253 hx.2.2 rfl ?_
                          refine zz_if_ne (tgt := 277) d_TX_charClass_256 (by decide) (by decide) (fun c219 => ?_) (fun c219 => absurd c219 (by decide))
                          refine ab_aload_n d_TX_charClass_277 rfl ?_
                          refine ab_getf (fs := [vR se, vR by_, vz n, vz p2162, vz 6, vz pl, vR kd, vz kn]) f_TX_46 d_TX_charClass_278 hx.2.2 rfl ?_
                          refine zz_if_ne (tgt := 295) d_TX_charClass_281 (by decide) (by decide) (fun c220 => ?_) (fun c220 => absurd c220 (by decide))
                          refine zz_iinc d_TX_charClass_295 rfl (Nat.le_of_ble_eq_true rfl) (Nat.le_of_ble_eq_true rfl) rfl ?_
                          change ab_W _ _ _ G213 298 [some (vR x), some (vz al), some (vz op), some (vz no), some (vz fi), some (vz (tu + 1)), some (vz pl), some (vz v58), some (vz v161)] [] _
                          refine ab_goto (tgt := 55) d_TX_charClass_298 (by decide) ?_
                          refine ab_less (L' := [some (vR x), some (vz al), some (vz op), some (vz no), some (vz fi), some (vz (tu + 1)), none, none, none]) (fun i v h => by rcases i with _ | _ | _ | _ | _ | _ | _ | _ | _ | i <;> first | exact h | (simp at h)) ?_
                          exact ih (pl := p2162) (fa := 6) (fp := pl) (kd := kd) (kn := kn) (nb := nb) (cnt := cnt) (P := P) (tu := (tu + 1)) hx hby_ h15 h16 pcsI_se ptbI_0 (by omega) (by omega) (by omega) (by omega) (by omega) (by omega) (by omega) (by omega) (by have w0 := mem1_w hb (by omega) hq62; have w1 := mem1_w hb (by omega) hq165; omega) (clH_lt hb (clH_t hch (by omega)) (fun z => by omega) hq10 ⟨hq62, by omega⟩ (by omega) (by omega) hq148 hq165 (by omega) (by omega)) (fok_n (by omega)) hfr (by omega) hk0 hk1
                        · cases hv
                          rw [hGe]
                          change ab_W _ _ _ G160 219 [some (vR x), some (vz al), some (vz op), some (vz no), some (vz fi), some (vz tu), some (vz pl), some (vz v58), some (vz v161)] [vz (-1)] _
                          exfalso; omega
                    · cases hv
                      have h15 := hfk.get h15 (by decide)
                      have h16 := hfk.get h16 (by decide)
                      have pcsI_se := csI.fr hfk pcsI_se (by decide) (by decide)
                      have ptbI_0 := tbI.fr hfk ptbI_0  (by decide)
                      have hfr := hfr.tr hfk (by decide)
                      have hq181 := hlk
                      have hq182 := hsk
                      have hx := hNx
                      have hby_ := hNby_
                      change ab_W _ _ _ G160 190 [some (vR x), some (vz al), some (vz op), some (vz no), some (vz fi), some (vz tu), some (vz pl), some (vz v58), some (vz v58)] [vz (-2)] _
                      refine ab_istore d_TX_charClass_190 (Nat.le_of_ble_eq_true rfl) (Nat.le_of_ble_eq_true rfl) rfl ?_
                      change ab_W _ _ _ G160 192 [some (vR x), some (vz al), some (vz op), some (vz no), some (vz fi), some (vz tu), some (vz pl), some (vz v58), some (vz (-2))] [] _
                      refine ab_iload d_TX_charClass_192 rfl ?_
                      refine zz_bipush d_TX_charClass_194 (by decide) ?_
                      refine zz_icmp_eq (tgt := 211) d_TX_charClass_196 (by decide) (by decide) (by decide) (fun c221 => ?_) (fun c221 => absurd c221 (by decide))
                      refine ab_aload_n d_TX_charClass_211 rfl ?_
                      refine zz_bipush d_TX_charClass_212 (by decide) ?_
                      refine ab_iload d_TX_charClass_214 rfl ?_
                      refine ab_callV (d' := d - 1) (as := [vz 6, vz pl]) (st := []) (r := _) (z_TX_fail (o := o) (x := x) (lx := 24) (se := se) (by_ := by_) (n := n) (pl := p2166) (fa := fa) (fp := fp) (kd := k2167) (kn := b2168) (w := 6) (p := pl) hx (by omega) (by omega) (by omega)) (fun oc G2 h => by rcases h with ⟨h, _⟩ | ⟨h, _⟩ <;> exact ⟨_, h⟩) (by omega) m_TX_fail ml_TX_53 im_TX_fail se_TX_fail c_TX hx.2.2 (Nat.le_of_ble_eq_true rfl) d_TX_charClass_216 rfl ?_
                      intro v G222 hq
                      rcases hq with ⟨hv, hfk, hlk, hsk, hNx, hq223⟩ | ⟨hv, hGe, hq224⟩
                      · cases hv
                        have hby_ := hfk.get hby_ (by decide)
                        have h15 := hfk.get h15 (by decide)
                        have h16 := hfk.get h16 (by decide)
                        have pcsI_se := csI.fr hfk pcsI_se (by decide) (by decide)
                        have ptbI_0 := tbI.fr hfk ptbI_0  (by decide)
                        have hfr := hfr.tr hfk (by decide)
                        have hq225 := hlk
                        have hq226 := hsk
                        have hx := hNx
                        change ab_W _ _ _ G222 219 [some (vR x), some (vz al), some (vz op), some (vz no), some (vz fi), some (vz tu), some (vz pl), some (vz v58), some (vz (-2))] [vz (-1)] _
                        refine ab_pop d_TX_charClass_219 rfl ?_
                        refine ab_aload_n d_TX_charClass_220 rfl ?_
                        refine ab_getf (fs := [vR se, vR by_, vz n, vz p2166, vz 6, vz pl, vR k2167, vz b2168]) f_TX_46 d_TX_charClass_221 hx.2.2 rfl ?_
                        refine zz_if_ne (tgt := 252) d_TX_charClass_224 (by decide) (by decide) (fun c227 => ?_) (fun c227 => absurd c227 (by decide))
                        refine ab_aload_n d_TX_charClass_252 rfl ?_
                        refine ab_getf (fs := [vR se, vR by_, vz n, vz p2166, vz 6, vz pl, vR k2167, vz b2168]) f_TX_46 d_TX_charClass_253 hx.2.2 rfl ?_
                        refine zz_if_ne (tgt := 277) d_TX_charClass_256 (by decide) (by decide) (fun c228 => ?_) (fun c228 => absurd c228 (by decide))
                        refine ab_aload_n d_TX_charClass_277 rfl ?_
                        refine ab_getf (fs := [vR se, vR by_, vz n, vz p2166, vz 6, vz pl, vR k2167, vz b2168]) f_TX_46 d_TX_charClass_278 hx.2.2 rfl ?_
                        refine zz_if_ne (tgt := 295) d_TX_charClass_281 (by decide) (by decide) (fun c229 => ?_) (fun c229 => absurd c229 (by decide))
                        refine zz_iinc d_TX_charClass_295 rfl (Nat.le_of_ble_eq_true rfl) (Nat.le_of_ble_eq_true rfl) rfl ?_
                        change ab_W _ _ _ G222 298 [some (vR x), some (vz al), some (vz op), some (vz no), some (vz fi), some (vz (tu + 1)), some (vz pl), some (vz v58), some (vz (-2))] [] _
                        refine ab_goto (tgt := 55) d_TX_charClass_298 (by decide) ?_
                        refine ab_less (L' := [some (vR x), some (vz al), some (vz op), some (vz no), some (vz fi), some (vz (tu + 1)), none, none, none]) (fun i v h => by rcases i with _ | _ | _ | _ | _ | _ | _ | _ | _ | i <;> first | exact h | (simp at h)) ?_
                        exact ih (pl := p2166) (fa := 6) (fp := pl) (kd := k2167) (kn := b2168) (nb := nb) (cnt := cnt) (P := P) (tu := (tu + 1)) hx hby_ h15 h16 pcsI_se ptbI_0 (by omega) (by omega) (by omega) (by omega) (by omega) (by omega) (by omega) (by omega) (by have w0 := esc2_w hq172.2; have w1 := mem1_w hb (by omega) hq62; omega) (clH_e2 (clH_t hch (by omega)) (fun z => by omega) hq10 ⟨hq62, by omega⟩ (by omega) (by omega) hq148 hq172) (fok_n (by omega)) hfr (by omega) hk0 hk1
                      · cases hv
                        rw [hGe]
                        change ab_W _ _ _ G160 219 [some (vR x), some (vz al), some (vz op), some (vz no), some (vz fi), some (vz tu), some (vz pl), some (vz v58), some (vz (-2))] [vz (-1)] _
                        exfalso; omega
                    · cases hv
                      have h15 := hfk.get h15 (by decide)
                      have h16 := hfk.get h16 (by decide)
                      have pcsI_se := csI.fr hfk pcsI_se (by decide) (by decide)
                      have ptbI_0 := tbI.fr hfk ptbI_0  (by decide)
                      have hfr := hfr.tr hfk (by decide)
                      have hq183 := hlk
                      have hq184 := hsk
                      have hx := hNx
                      have hby_ := hNby_
                      change ab_W _ _ _ G160 190 [some (vR x), some (vz al), some (vz op), some (vz no), some (vz fi), some (vz tu), some (vz pl), some (vz v58), some (vz v58)] [vz (-1)] _
                      refine ab_istore d_TX_charClass_190 (Nat.le_of_ble_eq_true rfl) (Nat.le_of_ble_eq_true rfl) rfl ?_
                      change ab_W _ _ _ G160 192 [some (vR x), some (vz al), some (vz op), some (vz no), some (vz fi), some (vz tu), some (vz pl), some (vz v58), some (vz (-1))] [] _
                      refine ab_iload d_TX_charClass_192 rfl ?_
                      refine zz_bipush d_TX_charClass_194 (by decide) ?_
                      refine zz_icmp_eq (tgt := 211) d_TX_charClass_196 (by decide) (by decide) (by decide) (fun c230 => absurd c230 (by decide)) (fun c230 => ?_)
                      refine ab_iload d_TX_charClass_199 rfl ?_
                      refine zz_if_lt (tgt := 220) d_TX_charClass_201 (by decide) (by decide) (fun c231 => ?_) (fun c231 => absurd c231 (by decide))
                      refine ab_aload_n d_TX_charClass_220 rfl ?_
                      refine ab_getf (fs := [vR se, vR by_, vz n, vz p2173, vz w174, vz fp2175, vR kd, vz kn]) f_TX_46 d_TX_charClass_221 hx.2.2 rfl ?_
                      refine zz_if_ne (tgt := 252) d_TX_charClass_224 (by decide) (by omega) (fun c232 => ?_) (fun c232 => absurd c232 (by omega))
                      refine ab_aload_n d_TX_charClass_252 rfl ?_
                      refine ab_getf (fs := [vR se, vR by_, vz n, vz p2173, vz w174, vz fp2175, vR kd, vz kn]) f_TX_46 d_TX_charClass_253 hx.2.2 rfl ?_
                      refine zz_if_ne (tgt := 277) d_TX_charClass_256 (by decide) (by omega) (fun c233 => ?_) (fun c233 => absurd c233 (by omega))
                      refine ab_aload_n d_TX_charClass_277 rfl ?_
                      refine ab_getf (fs := [vR se, vR by_, vz n, vz p2173, vz w174, vz fp2175, vR kd, vz kn]) f_TX_46 d_TX_charClass_278 hx.2.2 rfl ?_
                      refine zz_if_ne (tgt := 295) d_TX_charClass_281 (by decide) (by omega) (fun c234 => ?_) (fun c234 => absurd c234 (by omega))
                      refine zz_iinc d_TX_charClass_295 rfl (Nat.le_of_ble_eq_true rfl) (Nat.le_of_ble_eq_true rfl) rfl ?_
                      change ab_W _ _ _ G160 298 [some (vR x), some (vz al), some (vz op), some (vz no), some (vz fi), some (vz (tu + 1)), some (vz pl), some (vz v58), some (vz (-1))] [] _
                      refine ab_goto (tgt := 55) d_TX_charClass_298 (by decide) ?_
                      refine ab_less (L' := [some (vR x), some (vz al), some (vz op), some (vz no), some (vz fi), some (vz (tu + 1)), none, none, none]) (fun i v h => by rcases i with _ | _ | _ | _ | _ | _ | _ | _ | _ | i <;> first | exact h | (simp at h)) ?_
                      exact ih (pl := p2173) (fa := w174) (fp := fp2175) (kd := kd) (kn := kn) (nb := nb) (cnt := cnt) (P := P) (tu := (tu + 1)) hx hby_ h15 h16 pcsI_se ptbI_0 (by omega) (by omega) (by omega) (by omega) (by omega) (by omega) (by omega) (by omega) (by have w0 := mem1_w hb (by omega) hq62; omega) (clH_m3 hb (clH_t hch (by omega)) (fun z => by omega) hq10 ⟨hq62, by omega⟩ (by omega) (by omega) hq148 hq178 (by omega)) (fok_n (by omega)) hfr (by omega) hk0 hk1
            · cases hv
              have h15 := hfk.get h15 (by decide)
              have h16 := hfk.get h16 (by decide)
              have pcsI_se := csI.fr hfk pcsI_se (by decide) (by decide)
              have ptbI_0 := tbI.fr hfk ptbI_0  (by decide)
              have hfr := hfr.tr hfk (by decide)
              have hq78 := hlk
              have hq79 := hsk
              have hx := hNx
              have hby_ := hNby_
              change ab_W _ _ _ G57 132 [some (vR x), some (vz al), some (vz op), some (vz no), some (vz fi), some (vz tu), some (vz pl), none, none] [vz (-2)] _
              refine ab_istore d_TX_charClass_132 (Nat.le_of_ble_eq_true rfl) (Nat.le_of_ble_eq_true rfl) rfl ?_
              change ab_W _ _ _ G57 134 [some (vR x), some (vz al), some (vz op), some (vz no), some (vz fi), some (vz tu), some (vz pl), some (vz (-2)), none] [] _
              refine ab_iload d_TX_charClass_134 rfl ?_
              refine ab_istore d_TX_charClass_136 (Nat.le_of_ble_eq_true rfl) (Nat.le_of_ble_eq_true rfl) rfl ?_
              change ab_W _ _ _ G57 138 [some (vR x), some (vz al), some (vz op), some (vz no), some (vz fi), some (vz tu), some (vz pl), some (vz (-2)), some (vz (-2))] [] _
              refine ab_iload d_TX_charClass_138 rfl ?_
              refine zz_if_lt (tgt := 220) d_TX_charClass_140 (by decide) (by decide) (fun c235 => ?_) (fun c235 => absurd c235 (by decide))
              refine ab_aload_n d_TX_charClass_220 rfl ?_
              refine ab_getf (fs := [vR se, vR by_, vz n, vz p263, vz fa, vz fp, vR k264, vz b265]) f_TX_46 d_TX_charClass_221 hx.2.2 rfl ?_
              refine zz_if_ne (tgt := 252) d_TX_charClass_224 (by decide) (by omega) (fun c236 => absurd c236 (by omega)) (fun c236 => ?_)
              refine ab_iload d_TX_charClass_227 rfl ?_
              refine zz_bipush d_TX_charClass_229 (by decide) ?_
              refine zz_icmp_ne (tgt := 252) d_TX_charClass_231 (by decide) (by decide) (by decide) (fun c237 => absurd c237 (by decide)) (fun c237 => ?_)
              refine ab_aload_n d_TX_charClass_234 rfl ?_
              refine ab_getf (fs := [vR se, vR by_, vz n, vz p263, vz fa, vz fp, vR k264, vz b265]) f_TX_12 d_TX_charClass_235 hx.2.2 rfl ?_
              refine ab_aload_n d_TX_charClass_238 rfl ?_
              refine ab_getf (fs := [vR se, vR by_, vz n, vz p263, vz fa, vz fp, vR k264, vz b265]) f_TX_29 d_TX_charClass_239 hx.2.2 rfl ?_
              refine ab_aload_n d_TX_charClass_242 rfl ?_
              refine ab_getf (fs := [vR se, vR by_, vz n, vz p263, vz fa, vz fp, vR k264, vz b265]) f_TX_85 d_TX_charClass_243 hx.2.2 rfl ?_
              obtain ⟨w238, q238, mm238, hk238, hw238, hc238, hks238⟩ := ptbI_0.atE k264 (by omega) (by omega)
              rcases (show b265 = 0 ∨ b265 = 1 by omega) with hkn239 | hkn239
              · subst hkn239
                change ab_W _ _ _ G57 246 [some (vR x), some (vz al), some (vz op), some (vz no), some (vz fi), some (vz tu), some (vz pl), some (vz (-2)), some (vz (-2))] [vz 0, vR k264, vR se] _
                obtain ⟨fsR, hR⟩ := pcsI_se.recv
                refine ab_callV (d' := d - 1) (as := [vR k264, vz 0]) (st := []) (r := _) (z0_CS_addAll (o := o) (r := se) (lr := 88) (lb := 89) (n := nb) (cnt := cnt) (P := P) (a := k264) (la := k264) (w := w238) (q := q238) (mm := mm238) hk238 pcsI_se (by omega) (by omega) hc238 (by omega) (by omega) (by omega)) (fun oc G2 h => by rcases h with ⟨_, _, _, _, h, _⟩ <;> exact ⟨_, h⟩) (by omega) m_CS_addAll ml_TX_125 im_CS_addAll se_CS_addAll c_CS hR (Nat.le_of_ble_eq_true rfl) d_TX_charClass_246 rfl ?_
                intro v G240 hq
                rcases hq with ⟨o241, n2242, c2243, P2244, hv, hfk, pNcsI_se, hq245, hq246, hq247, hq248⟩
                cases hv
                have hx := hfk.get hx (by decide)
                have hby_ := hfk.get hby_ (by decide)
                have h15 := hfk.get h15 (by decide)
                have h16 := hfk.get h16 (by decide)
                have hk238 := hfk.get hk238 (by simp only [List.mem_cons, List.not_mem_nil, or_false]; omega)
                have ptbI_0 := tbI.fr hfk ptbI_0  (by decide)
                have pcsI_se := pNcsI_se
                have hfr := hfr.tr hfk (by decide)
                have hq249 := hfk.1
                change ab_W _ _ _ G240 249 [some (vR x), some (vz al), some (vz op), some (vz no), some (vz fi), some (vz tu), some (vz pl), some (vz (-2)), some (vz (-2))] [] _
                refine ab_goto (tgt := 295) d_TX_charClass_249 (by decide) ?_
                refine zz_iinc d_TX_charClass_295 rfl (Nat.le_of_ble_eq_true rfl) (Nat.le_of_ble_eq_true rfl) rfl ?_
                change ab_W _ _ _ G240 298 [some (vR x), some (vz al), some (vz op), some (vz no), some (vz fi), some (vz (tu + 1)), some (vz pl), some (vz (-2)), some (vz (-2))] [] _
                refine ab_goto (tgt := 55) d_TX_charClass_298 (by decide) ?_
                refine ab_less (L' := [some (vR x), some (vz al), some (vz op), some (vz no), some (vz fi), some (vz (tu + 1)), none, none, none]) (fun i v h => by rcases i with _ | _ | _ | _ | _ | _ | _ | _ | _ | i <;> first | exact h | (simp at h)) ?_
                exact ih (pl := p263) (fa := fa) (fp := fp) (kd := k264) (kn := 0) (nb := n2242) (cnt := c2243) (P := P2244) (tu := (tu + 1)) hx hby_ h15 h16 pcsI_se ptbI_0 (by omega) (by omega) (by omega) (by omega) (by omega) (by omega) (by omega) (by omega) (by have w0 := esc2_w hq69.2; omega) (clH_s (by omega) (clH_t hch (by omega)) (fun z => by omega) (Or.inr (Or.inl ⟨hq10, _, _, hq69, (km0 hq248 hks238)⟩))) hfo hfr (by omega) hk0 hk1
              · subst hkn239
                change ab_W _ _ _ G57 246 [some (vR x), some (vz al), some (vz op), some (vz no), some (vz fi), some (vz tu), some (vz pl), some (vz (-2)), some (vz (-2))] [vz 1, vR k264, vR se] _
                obtain ⟨fsR, hR⟩ := pcsI_se.recv
                refine ab_callV (d' := d - 1) (as := [vR k264, vz 1]) (st := []) (r := _) (z1_CS_addAll (o := o) (r := se) (lr := 88) (lb := 89) (n := nb) (cnt := cnt) (P := P) (a := k264) (la := k264) (w := w238) (q := q238) (mm := mm238) hk238 pcsI_se (by omega) (by omega) hc238 (by omega) (by omega) (by omega)) (fun oc G2 h => by rcases h with ⟨_, _, _, _, h, _⟩ <;> exact ⟨_, h⟩) (by omega) m_CS_addAll ml_TX_125 im_CS_addAll se_CS_addAll c_CS hR (Nat.le_of_ble_eq_true rfl) d_TX_charClass_246 rfl ?_
                intro v G250 hq
                rcases hq with ⟨o251, n2252, c2253, P2254, hv, hfk, pNcsI_se, hq255, hq256, hq257, hq258⟩
                cases hv
                have hx := hfk.get hx (by decide)
                have hby_ := hfk.get hby_ (by decide)
                have h15 := hfk.get h15 (by decide)
                have h16 := hfk.get h16 (by decide)
                have hk238 := hfk.get hk238 (by simp only [List.mem_cons, List.not_mem_nil, or_false]; omega)
                have ptbI_0 := tbI.fr hfk ptbI_0  (by decide)
                have pcsI_se := pNcsI_se
                have hfr := hfr.tr hfk (by decide)
                have hq259 := hfk.1
                change ab_W _ _ _ G250 249 [some (vR x), some (vz al), some (vz op), some (vz no), some (vz fi), some (vz tu), some (vz pl), some (vz (-2)), some (vz (-2))] [] _
                refine ab_goto (tgt := 295) d_TX_charClass_249 (by decide) ?_
                refine zz_iinc d_TX_charClass_295 rfl (Nat.le_of_ble_eq_true rfl) (Nat.le_of_ble_eq_true rfl) rfl ?_
                change ab_W _ _ _ G250 298 [some (vR x), some (vz al), some (vz op), some (vz no), some (vz fi), some (vz (tu + 1)), some (vz pl), some (vz (-2)), some (vz (-2))] [] _
                refine ab_goto (tgt := 55) d_TX_charClass_298 (by decide) ?_
                refine ab_less (L' := [some (vR x), some (vz al), some (vz op), some (vz no), some (vz fi), some (vz (tu + 1)), none, none, none]) (fun i v h => by rcases i with _ | _ | _ | _ | _ | _ | _ | _ | _ | i <;> first | exact h | (simp at h)) ?_
                exact ih (pl := p263) (fa := fa) (fp := fp) (kd := k264) (kn := 1) (nb := n2252) (cnt := c2253) (P := P2254) (tu := (tu + 1)) hx hby_ h15 h16 pcsI_se ptbI_0 (by omega) (by omega) (by omega) (by omega) (by omega) (by omega) (by omega) (by omega) (by have w0 := esc2_w hq69.2; omega) (clH_s (by omega) (clH_t hch (by omega)) (fun z => by omega) (Or.inr (Or.inl ⟨hq10, _, _, hq69, (km1 hq258 hks238)⟩))) hfo hfr (by omega) hk0 hk1
            · cases hv
              have h15 := hfk.get h15 (by decide)
              have h16 := hfk.get h16 (by decide)
              have pcsI_se := csI.fr hfk pcsI_se (by decide) (by decide)
              have ptbI_0 := tbI.fr hfk ptbI_0  (by decide)
              have hfr := hfr.tr hfk (by decide)
              have hq80 := hlk
              have hq81 := hsk
              have hx := hNx
              have hby_ := hNby_
              change ab_W _ _ _ G57 132 [some (vR x), some (vz al), some (vz op), some (vz no), some (vz fi), some (vz tu), some (vz pl), none, none] [vz (-1)] _
              refine ab_istore d_TX_charClass_132 (Nat.le_of_ble_eq_true rfl) (Nat.le_of_ble_eq_true rfl) rfl ?_
              change ab_W _ _ _ G57 134 [some (vR x), some (vz al), some (vz op), some (vz no), some (vz fi), some (vz tu), some (vz pl), some (vz (-1)), none] [] _
              refine ab_iload d_TX_charClass_134 rfl ?_
              refine ab_istore d_TX_charClass_136 (Nat.le_of_ble_eq_true rfl) (Nat.le_of_ble_eq_true rfl) rfl ?_
              change ab_W _ _ _ G57 138 [some (vR x), some (vz al), some (vz op), some (vz no), some (vz fi), some (vz tu), some (vz pl), some (vz (-1)), some (vz (-1))] [] _
              refine ab_iload d_TX_charClass_138 rfl ?_
              refine zz_if_lt (tgt := 220) d_TX_charClass_140 (by decide) (by decide) (fun c260 => ?_) (fun c260 => absurd c260 (by decide))
              refine ab_aload_n d_TX_charClass_220 rfl ?_
              refine ab_getf (fs := [vR se, vR by_, vz n, vz p270, vz w71, vz fp272, vR kd, vz kn]) f_TX_46 d_TX_charClass_221 hx.2.2 rfl ?_
              refine zz_if_ne (tgt := 252) d_TX_charClass_224 (by decide) (by omega) (fun c261 => ?_) (fun c261 => absurd c261 (by omega))
              refine ab_aload_n d_TX_charClass_252 rfl ?_
              refine ab_getf (fs := [vR se, vR by_, vz n, vz p270, vz w71, vz fp272, vR kd, vz kn]) f_TX_46 d_TX_charClass_253 hx.2.2 rfl ?_
              refine zz_if_ne (tgt := 277) d_TX_charClass_256 (by decide) (by omega) (fun c262 => ?_) (fun c262 => absurd c262 (by omega))
              refine ab_aload_n d_TX_charClass_277 rfl ?_
              refine ab_getf (fs := [vR se, vR by_, vz n, vz p270, vz w71, vz fp272, vR kd, vz kn]) f_TX_46 d_TX_charClass_278 hx.2.2 rfl ?_
              refine zz_if_ne (tgt := 295) d_TX_charClass_281 (by decide) (by omega) (fun c263 => ?_) (fun c263 => absurd c263 (by omega))
              refine zz_iinc d_TX_charClass_295 rfl (Nat.le_of_ble_eq_true rfl) (Nat.le_of_ble_eq_true rfl) rfl ?_
              change ab_W _ _ _ G57 298 [some (vR x), some (vz al), some (vz op), some (vz no), some (vz fi), some (vz (tu + 1)), some (vz pl), some (vz (-1)), some (vz (-1))] [] _
              refine ab_goto (tgt := 55) d_TX_charClass_298 (by decide) ?_
              refine ab_less (L' := [some (vR x), some (vz al), some (vz op), some (vz no), some (vz fi), some (vz (tu + 1)), none, none, none]) (fun i v h => by rcases i with _ | _ | _ | _ | _ | _ | _ | _ | _ | i <;> first | exact h | (simp at h)) ?_
              exact ih (pl := p270) (fa := w71) (fp := fp272) (kd := kd) (kn := kn) (nb := nb) (cnt := cnt) (P := P) (tu := (tu + 1)) hx hby_ h15 h16 pcsI_se ptbI_0 (by omega) (by omega) (by omega) (by omega) (by omega) (by omega) (by omega) (by omega) (by omega) (clH_f (clH_t hch (by omega)) (fun z => by omega) (by omega) (Or.inr (Or.inl ⟨hq10, hq75⟩))) (fok_n (by omega)) hfr (by omega) hk0 hk1
        · refine ab_iload d_TX_charClass_87 rfl ?_
          refine ab_iload d_TX_charClass_89 rfl ?_
          refine zz_icmp_le (tgt := 113) d_TX_charClass_91 (by decide) (by omega) (by omega) (fun c264 => ?_) (fun c264 => ?_)
          · refine ab_aload_n d_TX_charClass_113 rfl ?_
            refine ab_callV (d' := d - 1) (as := []) (st := []) (r := _) (z_TX_isNamedKind (o := o) (x := x) (lx := 24) (se := se) (by_ := by_) (lby := 23) (m := m) (f := f) (n := n) (pl := pl) (fa := fa) (fp := fp) (kd := kd) (kn := kn) hx hby_ (by omega) hb (by omega)) (fun oc G2 h => by rcases h with ⟨h, _⟩ | ⟨h, _⟩ <;> exact ⟨_, h⟩) (by omega) m_TX_isNamedKind ml_TX_114 im_TX_isNamedKind se_TX_isNamedKind c_TX hx.2.2 (Nat.le_of_ble_eq_true rfl) d_TX_charClass_114 rfl ?_
            intro v G265 hq
            rcases hq with ⟨hv, hGe, hq266⟩ | ⟨hv, hGe, hq267⟩
            · cases hv
              rw [hGe]
              change ab_W _ _ _ G 117 [some (vR x), some (vz al), some (vz op), some (vz no), some (vz fi), some (vz tu), some (vz pl), none, none] [vz 1] _
              exfalso; omega
            · cases hv
              rw [hGe]
              change ab_W _ _ _ G 117 [some (vR x), some (vz al), some (vz op), some (vz no), some (vz fi), some (vz tu), some (vz pl), none, none] [vz 0] _
              refine zz_if_eq (tgt := 127) d_TX_charClass_117 (by decide) (by decide) (fun c268 => ?_) (fun c268 => absurd c268 (by decide))
              refine ab_aload_n d_TX_charClass_127 rfl ?_
              refine ab_iload_n d_TX_charClass_128 rfl ?_
              refine ab_callV (d' := d - 1) (as := [vz op]) (st := []) (r := _) (z_TX_member (o := o) (x := x) (lx := 24) (se := se) (by_ := by_) (lby := 23) (m := m) (f := f) (n := n) (pl := pl) (fa := fa) (fp := fp) (kd := kd) (kn := kn) (op := op) hx hby_ (by omega) hb (by omega) (by omega) (by omega) (by omega)) (fun oc G2 h => by rcases h with ⟨_, _, h, _⟩ | ⟨_, _, _, h, _⟩ | ⟨_, _, _, h, _⟩ <;> exact ⟨_, h⟩) (by omega) m_TX_member ml_TX_122 im_TX_member se_TX_member c_TX hx.2.2 (Nat.le_of_ble_eq_true rfl) d_TX_charClass_129 rfl ?_
              intro v G269 hq
              rcases hq with ⟨v270, p2271, hv, hfk, hlk, hsk, hNx, hNby_, hq272, hq273, hq274⟩ | ⟨p2275, k2276, b2277, hv, hfk, hlk, hsk, hNx, hNby_, hq278, hq279, hq280, hq281⟩ | ⟨p2282, w283, fp2284, hv, hfk, hlk, hsk, hNx, hNby_, hq285, hq286, hq287⟩
              · cases hv
                have h15 := hfk.get h15 (by decide)
                have h16 := hfk.get h16 (by decide)
                have pcsI_se := csI.fr hfk pcsI_se (by decide) (by decide)
                have ptbI_0 := tbI.fr hfk ptbI_0  (by decide)
                have hfr := hfr.tr hfk (by decide)
                have hq288 := hlk
                have hq289 := hsk
                have hx := hNx
                have hby_ := hNby_
                change ab_W _ _ _ G269 132 [some (vR x), some (vz al), some (vz op), some (vz no), some (vz fi), some (vz tu), some (vz pl), none, none] [vz v270] _
                refine ab_istore d_TX_charClass_132 (Nat.le_of_ble_eq_true rfl) (Nat.le_of_ble_eq_true rfl) rfl ?_
                change ab_W _ _ _ G269 134 [some (vR x), some (vz al), some (vz op), some (vz no), some (vz fi), some (vz tu), some (vz pl), some (vz v270), none] [] _
                refine ab_iload d_TX_charClass_134 rfl ?_
                refine ab_istore d_TX_charClass_136 (Nat.le_of_ble_eq_true rfl) (Nat.le_of_ble_eq_true rfl) rfl ?_
                change ab_W _ _ _ G269 138 [some (vR x), some (vz al), some (vz op), some (vz no), some (vz fi), some (vz tu), some (vz pl), some (vz v270), some (vz v270)] [] _
                refine ab_iload d_TX_charClass_138 rfl ?_
                refine zz_if_lt (tgt := 220) d_TX_charClass_140 (by decide) (by omega) (fun c294 => absurd c294 (by omega)) (fun c294 => ?_)
                refine ab_aload_n d_TX_charClass_143 rfl ?_
                refine zz_iconst d_TX_charClass_144 ?_
                refine ab_callV (d' := d - 1) (as := [vz 0]) (st := []) (r := _) (z_TX_peek0 (o := o) (x := x) (lx := 24) (se := se) (by_ := by_) (lby := 23) (m := m) (f := f) (n := n) (pl := p2271) (fa := fa) (fp := fp) (kd := kd) (kn := kn) hx hby_ (by omega) hb) (fun oc G2 h => by rcases h with ⟨_, h, _⟩ <;> exact ⟨_, h⟩) (by omega) m_TX_peek ml_TX_61 im_TX_peek se_TX_peek c_TX hx.2.2 (Nat.le_of_ble_eq_true rfl) d_TX_charClass_145 rfl ?_
                intro v G295 hq
                rcases hq with ⟨v296, hv, hGe, hq297, hq298⟩
                cases hv
                rw [hGe]
                change ab_W _ _ _ G269 148 [some (vR x), some (vz al), some (vz op), some (vz no), some (vz fi), some (vz tu), some (vz pl), some (vz v270), some (vz v270)] [vz v296] _
                refine zz_bipush d_TX_charClass_148 (by decide) ?_
                refine zz_icmp_ne (tgt := 220) d_TX_charClass_150 (by decide) (by omega) (by decide) (fun c299 => ?_) (fun c299 => ?_)
                · refine ab_aload_n d_TX_charClass_220 rfl ?_
                  refine ab_getf (fs := [vR se, vR by_, vz n, vz p2271, vz fa, vz fp, vR kd, vz kn]) f_TX_46 d_TX_charClass_221 hx.2.2 rfl ?_
                  refine zz_if_ne (tgt := 252) d_TX_charClass_224 (by decide) (by omega) (fun c300 => absurd c300 (by omega)) (fun c300 => ?_)
                  refine ab_iload d_TX_charClass_227 rfl ?_
                  refine zz_bipush d_TX_charClass_229 (by decide) ?_
                  refine zz_icmp_ne (tgt := 252) d_TX_charClass_231 (by decide) (by omega) (by decide) (fun c301 => ?_) (fun c301 => absurd c301 (by omega))
                  refine ab_aload_n d_TX_charClass_252 rfl ?_
                  refine ab_getf (fs := [vR se, vR by_, vz n, vz p2271, vz fa, vz fp, vR kd, vz kn]) f_TX_46 d_TX_charClass_253 hx.2.2 rfl ?_
                  refine zz_if_ne (tgt := 277) d_TX_charClass_256 (by decide) (by omega) (fun c302 => absurd c302 (by omega)) (fun c302 => ?_)
                  refine ab_iload_n d_TX_charClass_259 rfl ?_
                  refine zz_if_eq (tgt := 277) d_TX_charClass_260 (by decide) (by omega) (fun c303 => ?_) (fun c303 => ?_)
                  · refine ab_aload_n d_TX_charClass_277 rfl ?_
                    refine ab_getf (fs := [vR se, vR by_, vz n, vz p2271, vz fa, vz fp, vR kd, vz kn]) f_TX_46 d_TX_charClass_278 hx.2.2 rfl ?_
                    refine zz_if_ne (tgt := 295) d_TX_charClass_281 (by decide) (by omega) (fun c304 => absurd c304 (by omega)) (fun c304 => ?_)
                    refine ab_aload_n d_TX_charClass_284 rfl ?_
                    refine ab_getf (fs := [vR se, vR by_, vz n, vz p2271, vz fa, vz fp, vR kd, vz kn]) f_TX_12 d_TX_charClass_285 hx.2.2 rfl ?_
                    refine ab_iload d_TX_charClass_288 rfl ?_
                    refine ab_iload d_TX_charClass_290 rfl ?_
                    obtain ⟨fsR, hR⟩ := pcsI_se.recv
                    refine ab_callV (d' := d - 1) (as := [vz v270, vz v270]) (st := []) (r := _) (c_CS_add (o := o) (r := se) (lr := 88) (lb := 89) (n := nb) (cnt := cnt) (P := P) (lo := v270) (hi := v270) pcsI_se (by omega) (by omega) (by omega) (by omega) (by omega)) (fun oc G2 h => by rcases h with ⟨_, _, _, _, h, _⟩ <;> exact ⟨_, h⟩) (by omega) m_CS_add ml_TX_133 im_CS_add se_CS_add c_CS hR (Nat.le_of_ble_eq_true rfl) d_TX_charClass_292 rfl ?_
                    intro v G305 hq
                    rcases hq with ⟨o306, n2307, c2308, P2309, hv, hfk, pNcsI_se, hq310, hq311, hq312, hq313⟩
                    cases hv
                    have hx := hfk.get hx (by decide)
                    have hby_ := hfk.get hby_ (by decide)
                    have h15 := hfk.get h15 (by decide)
                    have h16 := hfk.get h16 (by decide)
                    have ptbI_0 := tbI.fr hfk ptbI_0  (by decide)
                    have pcsI_se := pNcsI_se
                    have hfr := hfr.tr hfk (by decide)
                    have hq314 := hfk.1
                    change ab_W _ _ _ G305 295 [some (vR x), some (vz al), some (vz op), some (vz no), some (vz fi), some (vz tu), some (vz pl), some (vz v270), some (vz v270)] [] _
                    refine zz_iinc d_TX_charClass_295 rfl (Nat.le_of_ble_eq_true rfl) (Nat.le_of_ble_eq_true rfl) rfl ?_
                    change ab_W _ _ _ G305 298 [some (vR x), some (vz al), some (vz op), some (vz no), some (vz fi), some (vz (tu + 1)), some (vz pl), some (vz v270), some (vz v270)] [] _
                    refine ab_goto (tgt := 55) d_TX_charClass_298 (by decide) ?_
                    refine ab_less (L' := [some (vR x), some (vz al), some (vz op), some (vz no), some (vz fi), some (vz (tu + 1)), none, none, none]) (fun i v h => by rcases i with _ | _ | _ | _ | _ | _ | _ | _ | _ | i <;> first | exact h | (simp at h)) ?_
                    exact ih (pl := p2271) (fa := fa) (fp := fp) (kd := kd) (kn := kn) (nb := n2307) (cnt := c2308) (P := P2309) (tu := (tu + 1)) hx hby_ h15 h16 pcsI_se ptbI_0 (by omega) (by omega) (by omega) (by omega) (by omega) (by omega) (by omega) (by omega) (by have w0 := mem1_w hb (by omega) hq274; omega) (clH_s (by omega) (clH_t hch (by omega)) (fun z => by omega) (Or.inr (Or.inr (Or.inl ⟨hq267, _, ⟨hq274, by omega⟩, (fun z => by have z1 := z.1; have z2 := z.2.1; omega), (on0 (by omega) hq310)⟩)))) hfo hfr (by omega) hk0 hk1
                  · refine ab_aload_n d_TX_charClass_263 rfl ?_
                    refine ab_getf (fs := [vR se, vR by_, vz n, vz p2271, vz fa, vz fp, vR kd, vz kn]) f_TX_12 d_TX_charClass_264 hx.2.2 rfl ?_
                    refine ab_iload d_TX_charClass_267 rfl ?_
                    refine ab_iload d_TX_charClass_269 rfl ?_
                    obtain ⟨fsR, hR⟩ := pcsI_se.recv
                    refine ab_callV (d' := d - 1) (as := [vz v270, vz v270]) (st := []) (r := _) (c1_CS_addAlike (o := o) (r := se) (lr := 88) (lb := 89) (n := nb) (cnt := cnt) (P := P) (lo := v270) h15 h16 pcsI_se (by omega) (by omega) (by omega) (by omega) (by omega) (by omega)) (fun oc G2 h => by rcases h with ⟨_, _, _, _, h, _⟩ <;> exact ⟨_, h⟩) (by omega) m_CS_addAlike ml_TX_129 im_CS_addAlike se_CS_addAlike c_CS hR (Nat.le_of_ble_eq_true rfl) d_TX_charClass_271 rfl ?_
                    intro v G315 hq
                    rcases hq with ⟨o316, n2317, c2318, P2319, hv, hfk, pNcsI_se, hq320, hq321, hq322, hq323⟩
                    cases hv
                    have hx := hfk.get hx (by decide)
                    have hby_ := hfk.get hby_ (by decide)
                    have h15 := hfk.get h15 (by decide)
                    have h16 := hfk.get h16 (by decide)
                    have ptbI_0 := tbI.fr hfk ptbI_0  (by decide)
                    have pcsI_se := pNcsI_se
                    have hfr := hfr.tr hfk (by decide)
                    have hq324 := hfk.1
                    change ab_W _ _ _ G315 274 [some (vR x), some (vz al), some (vz op), some (vz no), some (vz fi), some (vz tu), some (vz pl), some (vz v270), some (vz v270)] [] _
                    refine ab_goto (tgt := 295) d_TX_charClass_274 (by decide) ?_
                    refine zz_iinc d_TX_charClass_295 rfl (Nat.le_of_ble_eq_true rfl) (Nat.le_of_ble_eq_true rfl) rfl ?_
                    change ab_W _ _ _ G315 298 [some (vR x), some (vz al), some (vz op), some (vz no), some (vz fi), some (vz (tu + 1)), some (vz pl), some (vz v270), some (vz v270)] [] _
                    refine ab_goto (tgt := 55) d_TX_charClass_298 (by decide) ?_
                    refine ab_less (L' := [some (vR x), some (vz al), some (vz op), some (vz no), some (vz fi), some (vz (tu + 1)), none, none, none]) (fun i v h => by rcases i with _ | _ | _ | _ | _ | _ | _ | _ | _ | i <;> first | exact h | (simp at h)) ?_
                    exact ih (pl := p2271) (fa := fa) (fp := fp) (kd := kd) (kn := kn) (nb := n2317) (cnt := c2318) (P := P2319) (tu := (tu + 1)) hx hby_ h15 h16 pcsI_se ptbI_0 (by omega) (by omega) (by omega) (by omega) (by omega) (by omega) (by omega) (by omega) (by have w0 := mem1_w hb (by omega) hq274; omega) (clH_s (by omega) (clH_t hch (by omega)) (fun z => by omega) (Or.inr (Or.inr (Or.inl ⟨hq267, _, ⟨hq274, by omega⟩, (fun z => by have z1 := z.1; have z2 := z.2.1; omega), (on1 (by omega) hq323)⟩)))) hfo hfr (by omega) hk0 hk1
                · refine ab_aload_n d_TX_charClass_153 rfl ?_
                  refine zz_iconst d_TX_charClass_154 ?_
                  refine ab_callV (d' := d - 1) (as := [vz 1]) (st := []) (r := _) (z_TX_peek (o := o) (x := x) (lx := 24) (se := se) (by_ := by_) (lby := 23) (m := m) (f := f) (n := n) (pl := p2271) (fa := fa) (fp := fp) (kd := kd) (kn := kn) (k := 1) hx hby_ (by omega) hb (by omega)) (fun oc G2 h => by rcases h with ⟨_, h, _⟩ <;> exact ⟨_, h⟩) (by omega) m_TX_peek ml_TX_61 im_TX_peek se_TX_peek c_TX hx.2.2 (Nat.le_of_ble_eq_true rfl) d_TX_charClass_155 rfl ?_
                  intro v G325 hq
                  rcases hq with ⟨v326, hv, hGe, hq327, hq328⟩
                  cases hv
                  rw [hGe]
                  change ab_W _ _ _ G269 158 [some (vR x), some (vz al), some (vz op), some (vz no), some (vz fi), some (vz tu), some (vz pl), some (vz v270), some (vz v270)] [vz v326] _
                  refine zz_bipush d_TX_charClass_158 (by decide) ?_
                  refine zz_icmp_eq (tgt := 220) d_TX_charClass_160 (by decide) (by omega) (by decide) (fun c329 => ?_) (fun c329 => ?_)
                  · refine ab_aload_n d_TX_charClass_220 rfl ?_
                    refine ab_getf (fs := [vR se, vR by_, vz n, vz p2271, vz fa, vz fp, vR kd, vz kn]) f_TX_46 d_TX_charClass_221 hx.2.2 rfl ?_
                    refine zz_if_ne (tgt := 252) d_TX_charClass_224 (by decide) (by omega) (fun c330 => absurd c330 (by omega)) (fun c330 => ?_)
                    refine ab_iload d_TX_charClass_227 rfl ?_
                    refine zz_bipush d_TX_charClass_229 (by decide) ?_
                    refine zz_icmp_ne (tgt := 252) d_TX_charClass_231 (by decide) (by omega) (by decide) (fun c331 => ?_) (fun c331 => absurd c331 (by omega))
                    refine ab_aload_n d_TX_charClass_252 rfl ?_
                    refine ab_getf (fs := [vR se, vR by_, vz n, vz p2271, vz fa, vz fp, vR kd, vz kn]) f_TX_46 d_TX_charClass_253 hx.2.2 rfl ?_
                    refine zz_if_ne (tgt := 277) d_TX_charClass_256 (by decide) (by omega) (fun c332 => absurd c332 (by omega)) (fun c332 => ?_)
                    refine ab_iload_n d_TX_charClass_259 rfl ?_
                    refine zz_if_eq (tgt := 277) d_TX_charClass_260 (by decide) (by omega) (fun c333 => ?_) (fun c333 => ?_)
                    · refine ab_aload_n d_TX_charClass_277 rfl ?_
                      refine ab_getf (fs := [vR se, vR by_, vz n, vz p2271, vz fa, vz fp, vR kd, vz kn]) f_TX_46 d_TX_charClass_278 hx.2.2 rfl ?_
                      refine zz_if_ne (tgt := 295) d_TX_charClass_281 (by decide) (by omega) (fun c334 => absurd c334 (by omega)) (fun c334 => ?_)
                      refine ab_aload_n d_TX_charClass_284 rfl ?_
                      refine ab_getf (fs := [vR se, vR by_, vz n, vz p2271, vz fa, vz fp, vR kd, vz kn]) f_TX_12 d_TX_charClass_285 hx.2.2 rfl ?_
                      refine ab_iload d_TX_charClass_288 rfl ?_
                      refine ab_iload d_TX_charClass_290 rfl ?_
                      obtain ⟨fsR, hR⟩ := pcsI_se.recv
                      refine ab_callV (d' := d - 1) (as := [vz v270, vz v270]) (st := []) (r := _) (c_CS_add (o := o) (r := se) (lr := 88) (lb := 89) (n := nb) (cnt := cnt) (P := P) (lo := v270) (hi := v270) pcsI_se (by omega) (by omega) (by omega) (by omega) (by omega)) (fun oc G2 h => by rcases h with ⟨_, _, _, _, h, _⟩ <;> exact ⟨_, h⟩) (by omega) m_CS_add ml_TX_133 im_CS_add se_CS_add c_CS hR (Nat.le_of_ble_eq_true rfl) d_TX_charClass_292 rfl ?_
                      intro v G335 hq
                      rcases hq with ⟨o336, n2337, c2338, P2339, hv, hfk, pNcsI_se, hq340, hq341, hq342, hq343⟩
                      cases hv
                      have hx := hfk.get hx (by decide)
                      have hby_ := hfk.get hby_ (by decide)
                      have h15 := hfk.get h15 (by decide)
                      have h16 := hfk.get h16 (by decide)
                      have ptbI_0 := tbI.fr hfk ptbI_0  (by decide)
                      have pcsI_se := pNcsI_se
                      have hfr := hfr.tr hfk (by decide)
                      have hq344 := hfk.1
                      change ab_W _ _ _ G335 295 [some (vR x), some (vz al), some (vz op), some (vz no), some (vz fi), some (vz tu), some (vz pl), some (vz v270), some (vz v270)] [] _
                      refine zz_iinc d_TX_charClass_295 rfl (Nat.le_of_ble_eq_true rfl) (Nat.le_of_ble_eq_true rfl) rfl ?_
                      change ab_W _ _ _ G335 298 [some (vR x), some (vz al), some (vz op), some (vz no), some (vz fi), some (vz (tu + 1)), some (vz pl), some (vz v270), some (vz v270)] [] _
                      refine ab_goto (tgt := 55) d_TX_charClass_298 (by decide) ?_
                      refine ab_less (L' := [some (vR x), some (vz al), some (vz op), some (vz no), some (vz fi), some (vz (tu + 1)), none, none, none]) (fun i v h => by rcases i with _ | _ | _ | _ | _ | _ | _ | _ | _ | i <;> first | exact h | (simp at h)) ?_
                      exact ih (pl := p2271) (fa := fa) (fp := fp) (kd := kd) (kn := kn) (nb := n2337) (cnt := c2338) (P := P2339) (tu := (tu + 1)) hx hby_ h15 h16 pcsI_se ptbI_0 (by omega) (by omega) (by omega) (by omega) (by omega) (by omega) (by omega) (by omega) (by have w0 := mem1_w hb (by omega) hq274; omega) (clH_s (by omega) (clH_t hch (by omega)) (fun z => by omega) (Or.inr (Or.inr (Or.inl ⟨hq267, _, ⟨hq274, by omega⟩, (fun z => by have z1 := z.1; have z2 := z.2.1; omega), (on0 (by omega) hq340)⟩)))) hfo hfr (by omega) hk0 hk1
                    · refine ab_aload_n d_TX_charClass_263 rfl ?_
                      refine ab_getf (fs := [vR se, vR by_, vz n, vz p2271, vz fa, vz fp, vR kd, vz kn]) f_TX_12 d_TX_charClass_264 hx.2.2 rfl ?_
                      refine ab_iload d_TX_charClass_267 rfl ?_
                      refine ab_iload d_TX_charClass_269 rfl ?_
                      obtain ⟨fsR, hR⟩ := pcsI_se.recv
                      refine ab_callV (d' := d - 1) (as := [vz v270, vz v270]) (st := []) (r := _) (c1_CS_addAlike (o := o) (r := se) (lr := 88) (lb := 89) (n := nb) (cnt := cnt) (P := P) (lo := v270) h15 h16 pcsI_se (by omega) (by omega) (by omega) (by omega) (by omega) (by omega)) (fun oc G2 h => by rcases h with ⟨_, _, _, _, h, _⟩ <;> exact ⟨_, h⟩) (by omega) m_CS_addAlike ml_TX_129 im_CS_addAlike se_CS_addAlike c_CS hR (Nat.le_of_ble_eq_true rfl) d_TX_charClass_271 rfl ?_
                      intro v G345 hq
                      rcases hq with ⟨o346, n2347, c2348, P2349, hv, hfk, pNcsI_se, hq350, hq351, hq352, hq353⟩
                      cases hv
                      have hx := hfk.get hx (by decide)
                      have hby_ := hfk.get hby_ (by decide)
                      have h15 := hfk.get h15 (by decide)
                      have h16 := hfk.get h16 (by decide)
                      have ptbI_0 := tbI.fr hfk ptbI_0  (by decide)
                      have pcsI_se := pNcsI_se
                      have hfr := hfr.tr hfk (by decide)
                      have hq354 := hfk.1
                      change ab_W _ _ _ G345 274 [some (vR x), some (vz al), some (vz op), some (vz no), some (vz fi), some (vz tu), some (vz pl), some (vz v270), some (vz v270)] [] _
                      refine ab_goto (tgt := 295) d_TX_charClass_274 (by decide) ?_
                      refine zz_iinc d_TX_charClass_295 rfl (Nat.le_of_ble_eq_true rfl) (Nat.le_of_ble_eq_true rfl) rfl ?_
                      change ab_W _ _ _ G345 298 [some (vR x), some (vz al), some (vz op), some (vz no), some (vz fi), some (vz (tu + 1)), some (vz pl), some (vz v270), some (vz v270)] [] _
                      refine ab_goto (tgt := 55) d_TX_charClass_298 (by decide) ?_
                      refine ab_less (L' := [some (vR x), some (vz al), some (vz op), some (vz no), some (vz fi), some (vz (tu + 1)), none, none, none]) (fun i v h => by rcases i with _ | _ | _ | _ | _ | _ | _ | _ | _ | i <;> first | exact h | (simp at h)) ?_
                      exact ih (pl := p2271) (fa := fa) (fp := fp) (kd := kd) (kn := kn) (nb := n2347) (cnt := c2348) (P := P2349) (tu := (tu + 1)) hx hby_ h15 h16 pcsI_se ptbI_0 (by omega) (by omega) (by omega) (by omega) (by omega) (by omega) (by omega) (by omega) (by have w0 := mem1_w hb (by omega) hq274; omega) (clH_s (by omega) (clH_t hch (by omega)) (fun z => by omega) (Or.inr (Or.inr (Or.inl ⟨hq267, _, ⟨hq274, by omega⟩, (fun z => by have z1 := z.1; have z2 := z.2.1; omega), (on1 (by omega) hq353)⟩)))) hfo hfr (by omega) hk0 hk1
                  · refine ab_aload_n d_TX_charClass_163 rfl ?_
                    refine ab_dup d_TX_charClass_164 rfl ?_
                    refine ab_getf (fs := [vR se, vR by_, vz n, vz p2271, vz fa, vz fp, vR kd, vz kn]) f_TX_43 d_TX_charClass_165 hx.2.2 rfl ?_
                    refine zz_iconst d_TX_charClass_168 ?_
                    refine zz_iadd d_TX_charClass_169 ?_
                    refine ab_putf (fs := [vR se, vR by_, vz n, vz p2271, vz fa, vz fp, vR kd, vz kn]) f_TX_43 (Or.inl rfl) d_TX_charClass_170 hx.2.2 (Nat.le_of_ble_eq_true rfl) (fun _ => ⟨rfl, rfl⟩) (hx.2.1 (by decide)) ?_
                    obtain ⟨G355, eG355⟩ : ∃ z : ab_G, z = List.set G269 x (ab_ob 10 [vR se, vR by_, vz n, vz (p2271 + 1), vz fa, vz fp, vR kd, vz kn]) := ⟨_, rfl⟩
                    have hby_ := hby_.keep hx eG355 (by decide)
                    have h15 := h15.keep hx eG355 (by decide)
                    have h16 := h16.keep hx eG355 (by decide)
                    have hst := (fx.rf (o := o) (S := [24]) (G := G269)).wr hx eG355 (List.mem_singleton.mpr rfl)
                    have pcsI_se := csI.fr hst pcsI_se (by decide) (by decide)
                    have ptbI_0 := tbI.fr hst ptbI_0  (by decide)
                    have hq356 := z_len eG355
                    have hq357 := z_sl hx eG355 rfl
                    have hfr := hfr.wr hx eG355 (by decide)
                    have hx := hx.kept eG355
                    change ab_W _ _ _ (List.set G269 x (ab_ob 10 [vR se, vR by_, vz n, vz (p2271 + 1), vz fa, vz fp, vR kd, vz kn])) 173 [some (vR x), some (vz al), some (vz op), some (vz no), some (vz fi), some (vz tu), some (vz pl), some (vz v270), some (vz v270)] [] _
                    rw [← eG355]
                    refine ab_aload_n d_TX_charClass_173 rfl ?_
                    refine ab_callV (d' := d - 1) (as := []) (st := []) (r := _) (z_TX_isNamedKind (o := o) (x := x) (lx := 24) (se := se) (by_ := by_) (lby := 23) (m := m) (f := f) (n := n) (pl := (p2271 + 1)) (fa := fa) (fp := fp) (kd := kd) (kn := kn) hx hby_ (by omega) hb (by omega)) (fun oc G2 h => by rcases h with ⟨h, _⟩ | ⟨h, _⟩ <;> exact ⟨_, h⟩) (by omega) m_TX_isNamedKind ml_TX_114 im_TX_isNamedKind se_TX_isNamedKind c_TX hx.2.2 (Nat.le_of_ble_eq_true rfl) d_TX_charClass_174 rfl ?_
                    intro v G358 hq
                    rcases hq with ⟨hv, hGe, hq359⟩ | ⟨hv, hGe, hq360⟩
                    · cases hv
                      rw [hGe]
                      change ab_W _ _ _ G355 177 [some (vR x), some (vz al), some (vz op), some (vz no), some (vz fi), some (vz tu), some (vz pl), some (vz v270), some (vz v270)] [vz 1] _
                      refine zz_if_eq (tgt := 185) d_TX_charClass_177 (by decide) (by decide) (fun c361 => absurd c361 (by decide)) (fun c361 => ?_)
                      refine zz_bipush d_TX_charClass_180 (by decide) ?_
                      refine ab_goto (tgt := 190) d_TX_charClass_182 (by decide) ?_
                      refine ab_istore d_TX_charClass_190 (Nat.le_of_ble_eq_true rfl) (Nat.le_of_ble_eq_true rfl) rfl ?_
                      change ab_W _ _ _ G355 192 [some (vR x), some (vz al), some (vz op), some (vz no), some (vz fi), some (vz tu), some (vz pl), some (vz v270), some (vz (-2))] [] _
                      refine ab_iload d_TX_charClass_192 rfl ?_
                      refine zz_bipush d_TX_charClass_194 (by decide) ?_
                      refine zz_icmp_eq (tgt := 211) d_TX_charClass_196 (by decide) (by decide) (by decide) (fun c362 => ?_) (fun c362 => absurd c362 (by decide))
                      refine ab_aload_n d_TX_charClass_211 rfl ?_
                      refine zz_bipush d_TX_charClass_212 (by decide) ?_
                      refine ab_iload d_TX_charClass_214 rfl ?_
                      refine ab_callV (d' := d - 1) (as := [vz 6, vz pl]) (st := []) (r := _) (z_TX_fail (o := o) (x := x) (lx := 24) (se := se) (by_ := by_) (n := n) (pl := (p2271 + 1)) (fa := fa) (fp := fp) (kd := kd) (kn := kn) (w := 6) (p := pl) hx (by omega) (by omega) (by omega)) (fun oc G2 h => by rcases h with ⟨h, _⟩ | ⟨h, _⟩ <;> exact ⟨_, h⟩) (by omega) m_TX_fail ml_TX_53 im_TX_fail se_TX_fail c_TX hx.2.2 (Nat.le_of_ble_eq_true rfl) d_TX_charClass_216 rfl ?_
                      intro v G363 hq
                      rcases hq with ⟨hv, hfk, hlk, hsk, hNx, hq364⟩ | ⟨hv, hGe, hq365⟩
                      · cases hv
                        have hby_ := hfk.get hby_ (by decide)
                        have h15 := hfk.get h15 (by decide)
                        have h16 := hfk.get h16 (by decide)
                        have pcsI_se := csI.fr hfk pcsI_se (by decide) (by decide)
                        have ptbI_0 := tbI.fr hfk ptbI_0  (by decide)
                        have hfr := hfr.tr hfk (by decide)
                        have hq366 := hlk
                        have hq367 := hsk
                        have hx := hNx
                        change ab_W _ _ _ G363 219 [some (vR x), some (vz al), some (vz op), some (vz no), some (vz fi), some (vz tu), some (vz pl), some (vz v270), some (vz (-2))] [vz (-1)] _
                        refine ab_pop d_TX_charClass_219 rfl ?_
                        refine ab_aload_n d_TX_charClass_220 rfl ?_
                        refine ab_getf (fs := [vR se, vR by_, vz n, vz (p2271 + 1), vz 6, vz pl, vR kd, vz kn]) f_TX_46 d_TX_charClass_221 hx.2.2 rfl ?_
                        refine zz_if_ne (tgt := 252) d_TX_charClass_224 (by decide) (by decide) (fun c368 => ?_) (fun c368 => absurd c368 (by decide))
                        refine ab_aload_n d_TX_charClass_252 rfl ?_
                        refine ab_getf (fs := [vR se, vR by_, vz n, vz (p2271 + 1), vz 6, vz pl, vR kd, vz kn]) f_TX_46 d_TX_charClass_253 hx.2.2 rfl ?_
                        refine zz_if_ne (tgt := 277) d_TX_charClass_256 (by decide) (by decide) (fun c369 => ?_) (fun c369 => absurd c369 (by decide))
                        refine ab_aload_n d_TX_charClass_277 rfl ?_
                        refine ab_getf (fs := [vR se, vR by_, vz n, vz (p2271 + 1), vz 6, vz pl, vR kd, vz kn]) f_TX_46 d_TX_charClass_278 hx.2.2 rfl ?_
                        refine zz_if_ne (tgt := 295) d_TX_charClass_281 (by decide) (by decide) (fun c370 => ?_) (fun c370 => absurd c370 (by decide))
                        refine zz_iinc d_TX_charClass_295 rfl (Nat.le_of_ble_eq_true rfl) (Nat.le_of_ble_eq_true rfl) rfl ?_
                        change ab_W _ _ _ G363 298 [some (vR x), some (vz al), some (vz op), some (vz no), some (vz fi), some (vz (tu + 1)), some (vz pl), some (vz v270), some (vz (-2))] [] _
                        refine ab_goto (tgt := 55) d_TX_charClass_298 (by decide) ?_
                        refine ab_less (L' := [some (vR x), some (vz al), some (vz op), some (vz no), some (vz fi), some (vz (tu + 1)), none, none, none]) (fun i v h => by rcases i with _ | _ | _ | _ | _ | _ | _ | _ | _ | i <;> first | exact h | (simp at h)) ?_
                        exact ih (pl := (p2271 + 1)) (fa := 6) (fp := pl) (kd := kd) (kn := kn) (nb := nb) (cnt := cnt) (P := P) (tu := (tu + 1)) hx hby_ h15 h16 pcsI_se ptbI_0 (by omega) (by omega) (by omega) (by omega) (by omega) (by omega) (by omega) (by omega) (by have w0 := mem1_w hb (by omega) hq274; omega) (clH_nk (clH_t hch (by omega)) (fun z => by omega) hq267 ⟨hq274, by omega⟩ (by omega) (by omega) hq359) (fok_n (by omega)) hfr (by omega) hk0 hk1
                      · cases hv
                        rw [hGe]
                        change ab_W _ _ _ G355 219 [some (vR x), some (vz al), some (vz op), some (vz no), some (vz fi), some (vz tu), some (vz pl), some (vz v270), some (vz (-2))] [vz (-1)] _
                        exfalso; omega
                    · cases hv
                      rw [hGe]
                      change ab_W _ _ _ G355 177 [some (vR x), some (vz al), some (vz op), some (vz no), some (vz fi), some (vz tu), some (vz pl), some (vz v270), some (vz v270)] [vz 0] _
                      refine zz_if_eq (tgt := 185) d_TX_charClass_177 (by decide) (by decide) (fun c371 => ?_) (fun c371 => absurd c371 (by decide))
                      refine ab_aload_n d_TX_charClass_185 rfl ?_
                      refine ab_iload_n d_TX_charClass_186 rfl ?_
                      refine ab_callV (d' := d - 1) (as := [vz op]) (st := []) (r := _) (z_TX_member (o := o) (x := x) (lx := 24) (se := se) (by_ := by_) (lby := 23) (m := m) (f := f) (n := n) (pl := (p2271 + 1)) (fa := fa) (fp := fp) (kd := kd) (kn := kn) (op := op) hx hby_ (by omega) hb (by omega) (by omega) (by omega) (by omega)) (fun oc G2 h => by rcases h with ⟨_, _, h, _⟩ | ⟨_, _, _, h, _⟩ | ⟨_, _, _, h, _⟩ <;> exact ⟨_, h⟩) (by omega) m_TX_member ml_TX_122 im_TX_member se_TX_member c_TX hx.2.2 (Nat.le_of_ble_eq_true rfl) d_TX_charClass_187 rfl ?_
                      intro v G372 hq
                      rcases hq with ⟨v373, p2374, hv, hfk, hlk, hsk, hNx, hNby_, hq375, hq376, hq377⟩ | ⟨p2378, k2379, b2380, hv, hfk, hlk, hsk, hNx, hNby_, hq381, hq382, hq383, hq384⟩ | ⟨p2385, w386, fp2387, hv, hfk, hlk, hsk, hNx, hNby_, hq388, hq389, hq390⟩
                      · cases hv
                        have h15 := hfk.get h15 (by decide)
                        have h16 := hfk.get h16 (by decide)
                        have pcsI_se := csI.fr hfk pcsI_se (by decide) (by decide)
                        have ptbI_0 := tbI.fr hfk ptbI_0  (by decide)
                        have hfr := hfr.tr hfk (by decide)
                        have hq391 := hlk
                        have hq392 := hsk
                        have hx := hNx
                        have hby_ := hNby_
                        change ab_W _ _ _ G372 190 [some (vR x), some (vz al), some (vz op), some (vz no), some (vz fi), some (vz tu), some (vz pl), some (vz v270), some (vz v270)] [vz v373] _
                        refine ab_istore d_TX_charClass_190 (Nat.le_of_ble_eq_true rfl) (Nat.le_of_ble_eq_true rfl) rfl ?_
                        change ab_W _ _ _ G372 192 [some (vR x), some (vz al), some (vz op), some (vz no), some (vz fi), some (vz tu), some (vz pl), some (vz v270), some (vz v373)] [] _
                        refine ab_iload d_TX_charClass_192 rfl ?_
                        refine zz_bipush d_TX_charClass_194 (by decide) ?_
                        refine zz_icmp_eq (tgt := 211) d_TX_charClass_196 (by decide) (by omega) (by decide) (fun c397 => absurd c397 (by omega)) (fun c397 => ?_)
                        refine ab_iload d_TX_charClass_199 rfl ?_
                        refine zz_if_lt (tgt := 220) d_TX_charClass_201 (by decide) (by omega) (fun c398 => absurd c398 (by omega)) (fun c398 => ?_)
                        refine ab_iload d_TX_charClass_204 rfl ?_
                        refine ab_iload d_TX_charClass_206 rfl ?_
                        refine zz_icmp_ge (tgt := 220) d_TX_charClass_208 (by decide) (by omega) (by omega) (fun c399 => ?_) (fun c399 => ?_)
                        · refine ab_aload_n d_TX_charClass_220 rfl ?_
                          refine ab_getf (fs := [vR se, vR by_, vz n, vz p2374, vz fa, vz fp, vR kd, vz kn]) f_TX_46 d_TX_charClass_221 hx.2.2 rfl ?_
                          refine zz_if_ne (tgt := 252) d_TX_charClass_224 (by decide) (by omega) (fun c400 => absurd c400 (by omega)) (fun c400 => ?_)
                          refine ab_iload d_TX_charClass_227 rfl ?_
                          refine zz_bipush d_TX_charClass_229 (by decide) ?_
                          refine zz_icmp_ne (tgt := 252) d_TX_charClass_231 (by decide) (by omega) (by decide) (fun c401 => ?_) (fun c401 => absurd c401 (by omega))
                          refine ab_aload_n d_TX_charClass_252 rfl ?_
                          refine ab_getf (fs := [vR se, vR by_, vz n, vz p2374, vz fa, vz fp, vR kd, vz kn]) f_TX_46 d_TX_charClass_253 hx.2.2 rfl ?_
                          refine zz_if_ne (tgt := 277) d_TX_charClass_256 (by decide) (by omega) (fun c402 => absurd c402 (by omega)) (fun c402 => ?_)
                          refine ab_iload_n d_TX_charClass_259 rfl ?_
                          refine zz_if_eq (tgt := 277) d_TX_charClass_260 (by decide) (by omega) (fun c403 => ?_) (fun c403 => ?_)
                          · refine ab_aload_n d_TX_charClass_277 rfl ?_
                            refine ab_getf (fs := [vR se, vR by_, vz n, vz p2374, vz fa, vz fp, vR kd, vz kn]) f_TX_46 d_TX_charClass_278 hx.2.2 rfl ?_
                            refine zz_if_ne (tgt := 295) d_TX_charClass_281 (by decide) (by omega) (fun c404 => absurd c404 (by omega)) (fun c404 => ?_)
                            refine ab_aload_n d_TX_charClass_284 rfl ?_
                            refine ab_getf (fs := [vR se, vR by_, vz n, vz p2374, vz fa, vz fp, vR kd, vz kn]) f_TX_12 d_TX_charClass_285 hx.2.2 rfl ?_
                            refine ab_iload d_TX_charClass_288 rfl ?_
                            refine ab_iload d_TX_charClass_290 rfl ?_
                            obtain ⟨fsR, hR⟩ := pcsI_se.recv
                            refine ab_callV (d' := d - 1) (as := [vz v270, vz v373]) (st := []) (r := _) (c_CS_add (o := o) (r := se) (lr := 88) (lb := 89) (n := nb) (cnt := cnt) (P := P) (lo := v270) (hi := v373) pcsI_se (by omega) (by omega) (by omega) (by omega) (by omega)) (fun oc G2 h => by rcases h with ⟨_, _, _, _, h, _⟩ <;> exact ⟨_, h⟩) (by omega) m_CS_add ml_TX_133 im_CS_add se_CS_add c_CS hR (Nat.le_of_ble_eq_true rfl) d_TX_charClass_292 rfl ?_
                            intro v G405 hq
                            rcases hq with ⟨o406, n2407, c2408, P2409, hv, hfk, pNcsI_se, hq410, hq411, hq412, hq413⟩
                            cases hv
                            have hx := hfk.get hx (by decide)
                            have hby_ := hfk.get hby_ (by decide)
                            have h15 := hfk.get h15 (by decide)
                            have h16 := hfk.get h16 (by decide)
                            have ptbI_0 := tbI.fr hfk ptbI_0  (by decide)
                            have pcsI_se := pNcsI_se
                            have hfr := hfr.tr hfk (by decide)
                            have hq414 := hfk.1
                            change ab_W _ _ _ G405 295 [some (vR x), some (vz al), some (vz op), some (vz no), some (vz fi), some (vz tu), some (vz pl), some (vz v270), some (vz v373)] [] _
                            refine zz_iinc d_TX_charClass_295 rfl (Nat.le_of_ble_eq_true rfl) (Nat.le_of_ble_eq_true rfl) rfl ?_
                            change ab_W _ _ _ G405 298 [some (vR x), some (vz al), some (vz op), some (vz no), some (vz fi), some (vz (tu + 1)), some (vz pl), some (vz v270), some (vz v373)] [] _
                            refine ab_goto (tgt := 55) d_TX_charClass_298 (by decide) ?_
                            refine ab_less (L' := [some (vR x), some (vz al), some (vz op), some (vz no), some (vz fi), some (vz (tu + 1)), none, none, none]) (fun i v h => by rcases i with _ | _ | _ | _ | _ | _ | _ | _ | _ | i <;> first | exact h | (simp at h)) ?_
                            exact ih (pl := p2374) (fa := fa) (fp := fp) (kd := kd) (kn := kn) (nb := n2407) (cnt := c2408) (P := P2409) (tu := (tu + 1)) hx hby_ h15 h16 pcsI_se ptbI_0 (by omega) (by omega) (by omega) (by omega) (by omega) (by omega) (by omega) (by omega) (by have w0 := mem1_w hb (by omega) hq274; have w1 := mem1_w hb (by omega) hq377; omega) (clH_rg (by omega) hb (clH_t hch (by omega)) (fun z => by omega) hq267 ⟨hq274, by omega⟩ (by omega) (by omega) hq360 hq377 (by omega) (by omega) (on0 (by omega) hq410)) hfo hfr (by omega) hk0 hk1
                          · refine ab_aload_n d_TX_charClass_263 rfl ?_
                            refine ab_getf (fs := [vR se, vR by_, vz n, vz p2374, vz fa, vz fp, vR kd, vz kn]) f_TX_12 d_TX_charClass_264 hx.2.2 rfl ?_
                            refine ab_iload d_TX_charClass_267 rfl ?_
                            refine ab_iload d_TX_charClass_269 rfl ?_
                            obtain ⟨fsR, hR⟩ := pcsI_se.recv
                            refine ab_callV (d' := d - 1) (as := [vz v270, vz v373]) (st := []) (r := _) (z_CS_addAlike (o := o) (r := se) (lr := 88) (lb := 89) (n := nb) (cnt := cnt) (P := P) (lo := v270) (hi := v373) h15 h16 pcsI_se (by omega) (by omega) (by omega) (by omega) (by omega) (by omega)) (fun oc G2 h => by rcases h with ⟨_, _, _, _, h, _⟩ <;> exact ⟨_, h⟩) (by omega) m_CS_addAlike ml_TX_129 im_CS_addAlike se_CS_addAlike c_CS hR (Nat.le_of_ble_eq_true rfl) d_TX_charClass_271 rfl ?_
                            intro v G415 hq
                            rcases hq with ⟨o416, n2417, c2418, P2419, hv, hfk, pNcsI_se, hq420, hq421, hq422, hq423⟩
                            cases hv
                            have hx := hfk.get hx (by decide)
                            have hby_ := hfk.get hby_ (by decide)
                            have h15 := hfk.get h15 (by decide)
                            have h16 := hfk.get h16 (by decide)
                            have ptbI_0 := tbI.fr hfk ptbI_0  (by decide)
                            have pcsI_se := pNcsI_se
                            have hfr := hfr.tr hfk (by decide)
                            have hq424 := hfk.1
                            change ab_W _ _ _ G415 274 [some (vR x), some (vz al), some (vz op), some (vz no), some (vz fi), some (vz tu), some (vz pl), some (vz v270), some (vz v373)] [] _
                            refine ab_goto (tgt := 295) d_TX_charClass_274 (by decide) ?_
                            refine zz_iinc d_TX_charClass_295 rfl (Nat.le_of_ble_eq_true rfl) (Nat.le_of_ble_eq_true rfl) rfl ?_
                            change ab_W _ _ _ G415 298 [some (vR x), some (vz al), some (vz op), some (vz no), some (vz fi), some (vz (tu + 1)), some (vz pl), some (vz v270), some (vz v373)] [] _
                            refine ab_goto (tgt := 55) d_TX_charClass_298 (by decide) ?_
                            refine ab_less (L' := [some (vR x), some (vz al), some (vz op), some (vz no), some (vz fi), some (vz (tu + 1)), none, none, none]) (fun i v h => by rcases i with _ | _ | _ | _ | _ | _ | _ | _ | _ | i <;> first | exact h | (simp at h)) ?_
                            exact ih (pl := p2374) (fa := fa) (fp := fp) (kd := kd) (kn := kn) (nb := n2417) (cnt := c2418) (P := P2419) (tu := (tu + 1)) hx hby_ h15 h16 pcsI_se ptbI_0 (by omega) (by omega) (by omega) (by omega) (by omega) (by omega) (by omega) (by omega) (by have w0 := mem1_w hb (by omega) hq274; have w1 := mem1_w hb (by omega) hq377; omega) (clH_rg (by omega) hb (clH_t hch (by omega)) (fun z => by omega) hq267 ⟨hq274, by omega⟩ (by omega) (by omega) hq360 hq377 (by omega) (by omega) (on1 (by omega) hq423)) hfo hfr (by omega) hk0 hk1
                        · refine ab_aload_n d_TX_charClass_211 rfl ?_
                          refine zz_bipush d_TX_charClass_212 (by decide) ?_
                          refine ab_iload d_TX_charClass_214 rfl ?_
                          refine ab_callV (d' := d - 1) (as := [vz 6, vz pl]) (st := []) (r := _) (z_TX_fail (o := o) (x := x) (lx := 24) (se := se) (by_ := by_) (n := n) (pl := p2374) (fa := fa) (fp := fp) (kd := kd) (kn := kn) (w := 6) (p := pl) hx (by omega) (by omega) (by omega)) (fun oc G2 h => by rcases h with ⟨h, _⟩ | ⟨h, _⟩ <;> exact ⟨_, h⟩) (by omega) m_TX_fail ml_TX_53 im_TX_fail se_TX_fail c_TX hx.2.2 (Nat.le_of_ble_eq_true rfl) d_TX_charClass_216 rfl ?_
                          intro v G425 hq
                          rcases hq with ⟨hv, hfk, hlk, hsk, hNx, hq426⟩ | ⟨hv, hGe, hq427⟩
                          · cases hv
                            have hby_ := hfk.get hby_ (by decide)
                            have h15 := hfk.get h15 (by decide)
                            have h16 := hfk.get h16 (by decide)
                            have pcsI_se := csI.fr hfk pcsI_se (by decide) (by decide)
                            have ptbI_0 := tbI.fr hfk ptbI_0  (by decide)
                            have hfr := hfr.tr hfk (by decide)
                            have hq428 := hlk
                            have hq429 := hsk
                            have hx := hNx
                            change ab_W _ _ _ G425 219 [some (vR x), some (vz al), some (vz op), some (vz no), some (vz fi), some (vz tu), some (vz pl), some (vz v270), some (vz v373)] [vz (-1)] _
                            refine ab_pop d_TX_charClass_219 rfl ?_
                            refine ab_aload_n d_TX_charClass_220 rfl ?_
                            refine ab_getf (fs := [vR se, vR by_, vz n, vz p2374, vz 6, vz pl, vR kd, vz kn]) f_TX_46 d_TX_charClass_221 hx.2.2 rfl ?_
                            refine zz_if_ne (tgt := 252) d_TX_charClass_224 (by decide) (by decide) (fun c430 => ?_) (fun c430 => absurd c430 (by decide))
                            refine ab_aload_n d_TX_charClass_252 rfl ?_
                            refine ab_getf (fs := [vR se, vR by_, vz n, vz p2374, vz 6, vz pl, vR kd, vz kn]) f_TX_46 d_TX_charClass_253 hx.2.2 rfl ?_
                            refine zz_if_ne (tgt := 277) d_TX_charClass_256 (by decide) (by decide) (fun c431 => ?_) (fun c431 => absurd c431 (by decide))
                            refine ab_aload_n d_TX_charClass_277 rfl ?_
                            refine ab_getf (fs := [vR se, vR by_, vz n, vz p2374, vz 6, vz pl, vR kd, vz kn]) f_TX_46 d_TX_charClass_278 hx.2.2 rfl ?_
                            refine zz_if_ne (tgt := 295) d_TX_charClass_281 (by decide) (by decide) (fun c432 => ?_) (fun c432 => absurd c432 (by decide))
                            refine zz_iinc d_TX_charClass_295 rfl (Nat.le_of_ble_eq_true rfl) (Nat.le_of_ble_eq_true rfl) rfl ?_
                            change ab_W _ _ _ G425 298 [some (vR x), some (vz al), some (vz op), some (vz no), some (vz fi), some (vz (tu + 1)), some (vz pl), some (vz v270), some (vz v373)] [] _
                            refine ab_goto (tgt := 55) d_TX_charClass_298 (by decide) ?_
                            refine ab_less (L' := [some (vR x), some (vz al), some (vz op), some (vz no), some (vz fi), some (vz (tu + 1)), none, none, none]) (fun i v h => by rcases i with _ | _ | _ | _ | _ | _ | _ | _ | _ | i <;> first | exact h | (simp at h)) ?_
                            exact ih (pl := p2374) (fa := 6) (fp := pl) (kd := kd) (kn := kn) (nb := nb) (cnt := cnt) (P := P) (tu := (tu + 1)) hx hby_ h15 h16 pcsI_se ptbI_0 (by omega) (by omega) (by omega) (by omega) (by omega) (by omega) (by omega) (by omega) (by have w0 := mem1_w hb (by omega) hq274; have w1 := mem1_w hb (by omega) hq377; omega) (clH_lt hb (clH_t hch (by omega)) (fun z => by omega) hq267 ⟨hq274, by omega⟩ (by omega) (by omega) hq360 hq377 (by omega) (by omega)) (fok_n (by omega)) hfr (by omega) hk0 hk1
                          · cases hv
                            rw [hGe]
                            change ab_W _ _ _ G372 219 [some (vR x), some (vz al), some (vz op), some (vz no), some (vz fi), some (vz tu), some (vz pl), some (vz v270), some (vz v373)] [vz (-1)] _
                            exfalso; omega
                      · cases hv
                        have h15 := hfk.get h15 (by decide)
                        have h16 := hfk.get h16 (by decide)
                        have pcsI_se := csI.fr hfk pcsI_se (by decide) (by decide)
                        have ptbI_0 := tbI.fr hfk ptbI_0  (by decide)
                        have hfr := hfr.tr hfk (by decide)
                        have hq393 := hlk
                        have hq394 := hsk
                        have hx := hNx
                        have hby_ := hNby_
                        change ab_W _ _ _ G372 190 [some (vR x), some (vz al), some (vz op), some (vz no), some (vz fi), some (vz tu), some (vz pl), some (vz v270), some (vz v270)] [vz (-2)] _
                        refine ab_istore d_TX_charClass_190 (Nat.le_of_ble_eq_true rfl) (Nat.le_of_ble_eq_true rfl) rfl ?_
                        change ab_W _ _ _ G372 192 [some (vR x), some (vz al), some (vz op), some (vz no), some (vz fi), some (vz tu), some (vz pl), some (vz v270), some (vz (-2))] [] _
                        refine ab_iload d_TX_charClass_192 rfl ?_
                        refine zz_bipush d_TX_charClass_194 (by decide) ?_
                        refine zz_icmp_eq (tgt := 211) d_TX_charClass_196 (by decide) (by decide) (by decide) (fun c433 => ?_) (fun c433 => absurd c433 (by decide))
                        refine ab_aload_n d_TX_charClass_211 rfl ?_
                        refine zz_bipush d_TX_charClass_212 (by decide) ?_
                        refine ab_iload d_TX_charClass_214 rfl ?_
                        refine ab_callV (d' := d - 1) (as := [vz 6, vz pl]) (st := []) (r := _) (z_TX_fail (o := o) (x := x) (lx := 24) (se := se) (by_ := by_) (n := n) (pl := p2378) (fa := fa) (fp := fp) (kd := k2379) (kn := b2380) (w := 6) (p := pl) hx (by omega) (by omega) (by omega)) (fun oc G2 h => by rcases h with ⟨h, _⟩ | ⟨h, _⟩ <;> exact ⟨_, h⟩) (by omega) m_TX_fail ml_TX_53 im_TX_fail se_TX_fail c_TX hx.2.2 (Nat.le_of_ble_eq_true rfl) d_TX_charClass_216 rfl ?_
                        intro v G434 hq
                        rcases hq with ⟨hv, hfk, hlk, hsk, hNx, hq435⟩ | ⟨hv, hGe, hq436⟩
                        · cases hv
                          have hby_ := hfk.get hby_ (by decide)
                          have h15 := hfk.get h15 (by decide)
                          have h16 := hfk.get h16 (by decide)
                          have pcsI_se := csI.fr hfk pcsI_se (by decide) (by decide)
                          have ptbI_0 := tbI.fr hfk ptbI_0  (by decide)
                          have hfr := hfr.tr hfk (by decide)
                          have hq437 := hlk
                          have hq438 := hsk
                          have hx := hNx
                          change ab_W _ _ _ G434 219 [some (vR x), some (vz al), some (vz op), some (vz no), some (vz fi), some (vz tu), some (vz pl), some (vz v270), some (vz (-2))] [vz (-1)] _
                          refine ab_pop d_TX_charClass_219 rfl ?_
                          refine ab_aload_n d_TX_charClass_220 rfl ?_
                          refine ab_getf (fs := [vR se, vR by_, vz n, vz p2378, vz 6, vz pl, vR k2379, vz b2380]) f_TX_46 d_TX_charClass_221 hx.2.2 rfl ?_
                          refine zz_if_ne (tgt := 252) d_TX_charClass_224 (by decide) (by decide) (fun c439 => ?_) (fun c439 => absurd c439 (by decide))
                          refine ab_aload_n d_TX_charClass_252 rfl ?_
                          refine ab_getf (fs := [vR se, vR by_, vz n, vz p2378, vz 6, vz pl, vR k2379, vz b2380]) f_TX_46 d_TX_charClass_253 hx.2.2 rfl ?_
                          refine zz_if_ne (tgt := 277) d_TX_charClass_256 (by decide) (by decide) (fun c440 => ?_) (fun c440 => absurd c440 (by decide))
                          refine ab_aload_n d_TX_charClass_277 rfl ?_
                          refine ab_getf (fs := [vR se, vR by_, vz n, vz p2378, vz 6, vz pl, vR k2379, vz b2380]) f_TX_46 d_TX_charClass_278 hx.2.2 rfl ?_
                          refine zz_if_ne (tgt := 295) d_TX_charClass_281 (by decide) (by decide) (fun c441 => ?_) (fun c441 => absurd c441 (by decide))
                          refine zz_iinc d_TX_charClass_295 rfl (Nat.le_of_ble_eq_true rfl) (Nat.le_of_ble_eq_true rfl) rfl ?_
                          change ab_W _ _ _ G434 298 [some (vR x), some (vz al), some (vz op), some (vz no), some (vz fi), some (vz (tu + 1)), some (vz pl), some (vz v270), some (vz (-2))] [] _
                          refine ab_goto (tgt := 55) d_TX_charClass_298 (by decide) ?_
                          refine ab_less (L' := [some (vR x), some (vz al), some (vz op), some (vz no), some (vz fi), some (vz (tu + 1)), none, none, none]) (fun i v h => by rcases i with _ | _ | _ | _ | _ | _ | _ | _ | _ | i <;> first | exact h | (simp at h)) ?_
                          exact ih (pl := p2378) (fa := 6) (fp := pl) (kd := k2379) (kn := b2380) (nb := nb) (cnt := cnt) (P := P) (tu := (tu + 1)) hx hby_ h15 h16 pcsI_se ptbI_0 (by omega) (by omega) (by omega) (by omega) (by omega) (by omega) (by omega) (by omega) (by have w0 := esc2_w hq384.2; have w1 := mem1_w hb (by omega) hq274; omega) (clH_e2 (clH_t hch (by omega)) (fun z => by omega) hq267 ⟨hq274, by omega⟩ (by omega) (by omega) hq360 hq384) (fok_n (by omega)) hfr (by omega) hk0 hk1
                        · cases hv
                          rw [hGe]
                          change ab_W _ _ _ G372 219 [some (vR x), some (vz al), some (vz op), some (vz no), some (vz fi), some (vz tu), some (vz pl), some (vz v270), some (vz (-2))] [vz (-1)] _
                          exfalso; omega
                      · cases hv
                        have h15 := hfk.get h15 (by decide)
                        have h16 := hfk.get h16 (by decide)
                        have pcsI_se := csI.fr hfk pcsI_se (by decide) (by decide)
                        have ptbI_0 := tbI.fr hfk ptbI_0  (by decide)
                        have hfr := hfr.tr hfk (by decide)
                        have hq395 := hlk
                        have hq396 := hsk
                        have hx := hNx
                        have hby_ := hNby_
                        change ab_W _ _ _ G372 190 [some (vR x), some (vz al), some (vz op), some (vz no), some (vz fi), some (vz tu), some (vz pl), some (vz v270), some (vz v270)] [vz (-1)] _
                        refine ab_istore d_TX_charClass_190 (Nat.le_of_ble_eq_true rfl) (Nat.le_of_ble_eq_true rfl) rfl ?_
                        change ab_W _ _ _ G372 192 [some (vR x), some (vz al), some (vz op), some (vz no), some (vz fi), some (vz tu), some (vz pl), some (vz v270), some (vz (-1))] [] _
                        refine ab_iload d_TX_charClass_192 rfl ?_
                        refine zz_bipush d_TX_charClass_194 (by decide) ?_
                        refine zz_icmp_eq (tgt := 211) d_TX_charClass_196 (by decide) (by decide) (by decide) (fun c442 => absurd c442 (by decide)) (fun c442 => ?_)
                        refine ab_iload d_TX_charClass_199 rfl ?_
                        refine zz_if_lt (tgt := 220) d_TX_charClass_201 (by decide) (by decide) (fun c443 => ?_) (fun c443 => absurd c443 (by decide))
                        refine ab_aload_n d_TX_charClass_220 rfl ?_
                        refine ab_getf (fs := [vR se, vR by_, vz n, vz p2385, vz w386, vz fp2387, vR kd, vz kn]) f_TX_46 d_TX_charClass_221 hx.2.2 rfl ?_
                        refine zz_if_ne (tgt := 252) d_TX_charClass_224 (by decide) (by omega) (fun c444 => ?_) (fun c444 => absurd c444 (by omega))
                        refine ab_aload_n d_TX_charClass_252 rfl ?_
                        refine ab_getf (fs := [vR se, vR by_, vz n, vz p2385, vz w386, vz fp2387, vR kd, vz kn]) f_TX_46 d_TX_charClass_253 hx.2.2 rfl ?_
                        refine zz_if_ne (tgt := 277) d_TX_charClass_256 (by decide) (by omega) (fun c445 => ?_) (fun c445 => absurd c445 (by omega))
                        refine ab_aload_n d_TX_charClass_277 rfl ?_
                        refine ab_getf (fs := [vR se, vR by_, vz n, vz p2385, vz w386, vz fp2387, vR kd, vz kn]) f_TX_46 d_TX_charClass_278 hx.2.2 rfl ?_
                        refine zz_if_ne (tgt := 295) d_TX_charClass_281 (by decide) (by omega) (fun c446 => ?_) (fun c446 => absurd c446 (by omega))
                        refine zz_iinc d_TX_charClass_295 rfl (Nat.le_of_ble_eq_true rfl) (Nat.le_of_ble_eq_true rfl) rfl ?_
                        change ab_W _ _ _ G372 298 [some (vR x), some (vz al), some (vz op), some (vz no), some (vz fi), some (vz (tu + 1)), some (vz pl), some (vz v270), some (vz (-1))] [] _
                        refine ab_goto (tgt := 55) d_TX_charClass_298 (by decide) ?_
                        refine ab_less (L' := [some (vR x), some (vz al), some (vz op), some (vz no), some (vz fi), some (vz (tu + 1)), none, none, none]) (fun i v h => by rcases i with _ | _ | _ | _ | _ | _ | _ | _ | _ | i <;> first | exact h | (simp at h)) ?_
                        exact ih (pl := p2385) (fa := w386) (fp := fp2387) (kd := kd) (kn := kn) (nb := nb) (cnt := cnt) (P := P) (tu := (tu + 1)) hx hby_ h15 h16 pcsI_se ptbI_0 (by omega) (by omega) (by omega) (by omega) (by omega) (by omega) (by omega) (by omega) (by have w0 := mem1_w hb (by omega) hq274; omega) (clH_m3 hb (clH_t hch (by omega)) (fun z => by omega) hq267 ⟨hq274, by omega⟩ (by omega) (by omega) hq360 hq390 (by omega)) (fok_n (by omega)) hfr (by omega) hk0 hk1
              · cases hv
                have h15 := hfk.get h15 (by decide)
                have h16 := hfk.get h16 (by decide)
                have pcsI_se := csI.fr hfk pcsI_se (by decide) (by decide)
                have ptbI_0 := tbI.fr hfk ptbI_0  (by decide)
                have hfr := hfr.tr hfk (by decide)
                have hq290 := hlk
                have hq291 := hsk
                have hx := hNx
                have hby_ := hNby_
                change ab_W _ _ _ G269 132 [some (vR x), some (vz al), some (vz op), some (vz no), some (vz fi), some (vz tu), some (vz pl), none, none] [vz (-2)] _
                exfalso; omega
              · cases hv
                have h15 := hfk.get h15 (by decide)
                have h16 := hfk.get h16 (by decide)
                have pcsI_se := csI.fr hfk pcsI_se (by decide) (by decide)
                have ptbI_0 := tbI.fr hfk ptbI_0  (by decide)
                have hfr := hfr.tr hfk (by decide)
                have hq292 := hlk
                have hq293 := hsk
                have hx := hNx
                have hby_ := hNby_
                change ab_W _ _ _ G269 132 [some (vR x), some (vz al), some (vz op), some (vz no), some (vz fi), some (vz tu), some (vz pl), none, none] [vz (-1)] _
                refine ab_istore d_TX_charClass_132 (Nat.le_of_ble_eq_true rfl) (Nat.le_of_ble_eq_true rfl) rfl ?_
                change ab_W _ _ _ G269 134 [some (vR x), some (vz al), some (vz op), some (vz no), some (vz fi), some (vz tu), some (vz pl), some (vz (-1)), none] [] _
                refine ab_iload d_TX_charClass_134 rfl ?_
                refine ab_istore d_TX_charClass_136 (Nat.le_of_ble_eq_true rfl) (Nat.le_of_ble_eq_true rfl) rfl ?_
                change ab_W _ _ _ G269 138 [some (vR x), some (vz al), some (vz op), some (vz no), some (vz fi), some (vz tu), some (vz pl), some (vz (-1)), some (vz (-1))] [] _
                refine ab_iload d_TX_charClass_138 rfl ?_
                refine zz_if_lt (tgt := 220) d_TX_charClass_140 (by decide) (by decide) (fun c447 => ?_) (fun c447 => absurd c447 (by decide))
                refine ab_aload_n d_TX_charClass_220 rfl ?_
                refine ab_getf (fs := [vR se, vR by_, vz n, vz p2282, vz w283, vz fp2284, vR kd, vz kn]) f_TX_46 d_TX_charClass_221 hx.2.2 rfl ?_
                refine zz_if_ne (tgt := 252) d_TX_charClass_224 (by decide) (by omega) (fun c448 => ?_) (fun c448 => absurd c448 (by omega))
                refine ab_aload_n d_TX_charClass_252 rfl ?_
                refine ab_getf (fs := [vR se, vR by_, vz n, vz p2282, vz w283, vz fp2284, vR kd, vz kn]) f_TX_46 d_TX_charClass_253 hx.2.2 rfl ?_
                refine zz_if_ne (tgt := 277) d_TX_charClass_256 (by decide) (by omega) (fun c449 => ?_) (fun c449 => absurd c449 (by omega))
                refine ab_aload_n d_TX_charClass_277 rfl ?_
                refine ab_getf (fs := [vR se, vR by_, vz n, vz p2282, vz w283, vz fp2284, vR kd, vz kn]) f_TX_46 d_TX_charClass_278 hx.2.2 rfl ?_
                refine zz_if_ne (tgt := 295) d_TX_charClass_281 (by decide) (by omega) (fun c450 => ?_) (fun c450 => absurd c450 (by omega))
                refine zz_iinc d_TX_charClass_295 rfl (Nat.le_of_ble_eq_true rfl) (Nat.le_of_ble_eq_true rfl) rfl ?_
                change ab_W _ _ _ G269 298 [some (vR x), some (vz al), some (vz op), some (vz no), some (vz fi), some (vz (tu + 1)), some (vz pl), some (vz (-1)), some (vz (-1))] [] _
                refine ab_goto (tgt := 55) d_TX_charClass_298 (by decide) ?_
                refine ab_less (L' := [some (vR x), some (vz al), some (vz op), some (vz no), some (vz fi), some (vz (tu + 1)), none, none, none]) (fun i v h => by rcases i with _ | _ | _ | _ | _ | _ | _ | _ | _ | i <;> first | exact h | (simp at h)) ?_
                exact ih (pl := p2282) (fa := w283) (fp := fp2284) (kd := kd) (kn := kn) (nb := nb) (cnt := cnt) (P := P) (tu := (tu + 1)) hx hby_ h15 h16 pcsI_se ptbI_0 (by omega) (by omega) (by omega) (by omega) (by omega) (by omega) (by omega) (by omega) (by omega) (clH_f (clH_t hch (by omega)) (fun z => by omega) (by omega) (Or.inr (Or.inl ⟨hq267, hq287⟩))) (fok_n (by omega)) hfr (by omega) hk0 hk1
          · have hpn := tpk_w (f := f) (n := n) (i := pl) (by rw [← hq5]; omega)
            refine ab_aload_n d_TX_charClass_94 rfl ?_
            refine ab_dup d_TX_charClass_95 rfl ?_
            refine ab_getf (fs := [vR se, vR by_, vz n, vz pl, vz fa, vz fp, vR kd, vz kn]) f_TX_43 d_TX_charClass_96 hx.2.2 rfl ?_
            refine zz_iconst d_TX_charClass_99 ?_
            refine zz_iadd d_TX_charClass_100 ?_
            refine ab_putf (fs := [vR se, vR by_, vz n, vz pl, vz fa, vz fp, vR kd, vz kn]) f_TX_43 (Or.inl rfl) d_TX_charClass_101 hx.2.2 (Nat.le_of_ble_eq_true rfl) (fun _ => ⟨rfl, rfl⟩) (hx.2.1 (by decide)) ?_
            obtain ⟨G451, eG451⟩ : ∃ z : ab_G, z = List.set G x (ab_ob 10 [vR se, vR by_, vz n, vz (pl + 1), vz fa, vz fp, vR kd, vz kn]) := ⟨_, rfl⟩
            have hby_ := hby_.keep hx eG451 (by decide)
            have h15 := h15.keep hx eG451 (by decide)
            have h16 := h16.keep hx eG451 (by decide)
            have hst := (fx.rf (o := o) (S := [24]) (G := G)).wr hx eG451 (List.mem_singleton.mpr rfl)
            have pcsI_se := csI.fr hst pcsI_se (by decide) (by decide)
            have ptbI_0 := tbI.fr hst ptbI_0  (by decide)
            have hq452 := z_len eG451
            have hq453 := z_sl hx eG451 rfl
            have hfr := hfr.wr hx eG451 (by decide)
            have hx := hx.kept eG451
            change ab_W _ _ _ (List.set G x (ab_ob 10 [vR se, vR by_, vz n, vz (pl + 1), vz fa, vz fp, vR kd, vz kn])) 104 [some (vR x), some (vz al), some (vz op), some (vz no), some (vz fi), some (vz tu), some (vz pl), none, none] [] _
            rw [← eG451]
            refine ab_aload_n d_TX_charClass_104 rfl ?_
            refine ab_getf (fs := [vR se, vR by_, vz n, vz (pl + 1), vz fa, vz fp, vR kd, vz kn]) f_TX_12 d_TX_charClass_105 hx.2.2 rfl ?_
            refine ab_iload_n d_TX_charClass_108 rfl ?_
            obtain ⟨fsR, hR⟩ := pcsI_se.recv
            refine ab_callV (d' := d - 1) (as := [vz no]) (st := []) (r := _) (z_CS_ranges (o := o) (r := se) (lr := 88) (lb := 89) (n := nb) (cnt := cnt) (P := P) (no := no) (la := 93) (lp := 91) (lt := 92) pcsI_se (by omega) (by omega) (by omega) (by omega) (by omega) (by omega) (by omega)) (fun oc G2 h => by rcases h with ⟨_, _, _, _, _, _, _, _, h, _⟩ <;> exact ⟨_, h⟩) (by omega) m_CS_ranges ml_TX_110 im_CS_ranges se_CS_ranges c_CS hR (Nat.le_of_ble_eq_true rfl) d_TX_charClass_109 rfl ?_
            intro v G454 hq
            rcases hq with ⟨o455, x456, q2457, m2458, w2459, n2460, c2461, P2462, hv, hfk, hNx456, pNcsI_se, hq463, hq464, hq465, hq466, hq467, hq468, hq469, hq470⟩
            cases hv
            have ne_x456_x : nq x456 x := by have hlt := hx.lt; unfold nq; omega
            have ne_x456_by_ : nq x456 by_ := by have hlt := hby_.lt; unfold nq; omega
            have ne_x456_15 : nq x456 15 := by have hlt := h15.lt; unfold nq; omega
            have ne_x456_16 : nq x456 16 := by have hlt := h16.lt; unfold nq; omega
            have hx := hfk.get hx (by decide)
            have hby_ := hfk.get hby_ (by decide)
            have h15 := hfk.get h15 (by decide)
            have h16 := hfk.get h16 (by decide)
            have ptbI_0 := tbI.fr hfk ptbI_0  (by decide)
            have pcsI_se := pNcsI_se
            have hfr := hfr.tr hfk (by decide)
            have hq471 := hfk.1
            have hx456 := hNx456
            change ab_W _ _ _ G454 112 [some (vR x), some (vz al), some (vz op), some (vz no), some (vz fi), some (vz tu), some (vz pl), none, none] [vR x456] _
            refine ab_aret (rt := _) rfl (Or.inr ⟨_, rfl⟩) (Or.inr ⟨_, rfl⟩) d_TX_charClass_112 ?_
            exact hk1 _ _ _ _ _ _ _ _ _ _ _ _ m2458 _ hx hby_ hx456 pcsI_se (by exact ⟨P, by rw [show pl + 1 - 1 = pl by omega]; exact clH_t hch (by omega), by rw [show pl + 1 - 1 = pl by omega]; omega, hq465⟩) (by omega) (by exact hfo (by omega)) (by omega) (by omega) (by omega) (by omega) (by exact hq464) (by omega) (by omega) (by omega) hfr
set_option maxRecDepth 100000 in
set_option maxHeartbeats 4000000 in
theorem z_TX_charClass {X : ab_X} {d : Nat} {o : Nat → Nat} {G : ab_G} {x : Nat} {se : Nat} {by_ : Nat} {m : Nat} {f : Int → Int} {n : Int} {pl : Int} {fa : Int} {fp : Int} {kd : Nat} {kn : Int} {nb : Nat} {cnt : Int} {P : Int → Prop} {al : Int} (hx : cc o G x 24 (ab_ob 10 [vR se, vR by_, vz n, vz pl, vz fa, vz fp, vR kd, vz kn])) (hby_ : cc o G by_ 23 (za m f)) (h15 : cc o G 15 15 (za 18 zAR)) (h16 : cc o G 16 16 (za 20 zAF)) (pcsI_se : csI o G se 88 89 nb cnt P) (ptbI_0 : tbI o G 0) (cn_ : 0 ≤ n ∧ n ≤ ↑m ∧ m ≤ 2000) (hb : bytes f n) (n18 : ab_n0 = 18) (cal : 0 ≤ al ∧ al ≤ 1 ∧ 0 ≤ pl ∧ pl < n) (cfa : fa = 0) (cfp : fp = -1) (ckd : 1 ≤ kd ∧ kd ≤ 12 ∧ 0 ≤ kn ∧ kn ≤ 1) (hn : nb ≤ 104000) (rc : G.length + 8000 ≤ ab_n0 + room_1.cells) (rs : ab_slots G + 429000 ≤ room_1.slots + 2 * nb) (hd : 10 ≤ d) : ab_F X d y_TX_charClass (.code y_TX_charClass b_TX_charClass 9 (some (.array .int))) [vR x, vz al] G (fun oc G2 => (∃ o2 : Nat → Nat, ∃ p2 : Int, ∃ fa2 : Int, ∃ fp2 : Int, ∃ kd2 : Nat, ∃ kn2 : Int, ∃ nb2 : Nat, ∃ c2 : Int, ∃ P2 : Int → Prop, oc = .returned (some (vN)) ∧ fx o o2 [24, 88, 89, 92] G G2 ∧ cc o2 G2 x 24 (ab_ob 10 [vR se, vR by_, vz n, vz p2, vz fa2, vz fp2, vR kd2, vz kn2]) ∧ cc o2 G2 by_ 23 (za m f) ∧ csI o2 G2 se 88 89 nb2 c2 P2 ∧ (1 ≤ fa2) ∧ (∃ no9 fi9 : Int, clb f n pl no9 fi9 ∧ clN f n al pl fi9 fa2 fp2) ∧ (0 ≤ fa2 ∧ fa2 ≤ 14) ∧ (1 ≤ kd2 ∧ kd2 ≤ 12 ∧ 0 ≤ kn2 ∧ kn2 ≤ 1) ∧ (nb2 ≤ 104000 ∧ 0 ≤ c2 ∧ c2 ≤ 24900) ∧ (pl ≤ p2 ∧ p2 ≤ n + 160) ∧ (64 * G2.length + nb ≤ 64 * G.length + nb2) ∧ (ab_slots G2 + 2 * nb ≤ ab_slots G + 2 * nb2)) ∨ (∃ o2 : Nat → Nat, ∃ w : Nat, ∃ p2 : Int, ∃ fa2 : Int, ∃ fp2 : Int, ∃ kd2 : Nat, ∃ kn2 : Int, ∃ nb2 : Nat, ∃ c2 : Int, ∃ P2 : Int → Prop, ∃ q2 : Int → Int, ∃ m2 : Int, ∃ w2 : Nat, oc = .returned (some (vR w)) ∧ fx o o2 [24, 88, 89, 92] G G2 ∧ cc o2 G2 x 24 (ab_ob 10 [vR se, vR by_, vz n, vz p2, vz fa2, vz fp2, vR kd2, vz kn2]) ∧ cc o2 G2 by_ 23 (za m f) ∧ cc o2 G2 w 93 (za w2 q2) ∧ csI o2 G2 se 88 89 nb2 c2 P2 ∧ (∃ (no9 fi9 : Int) (P9 : Int → Prop), clb f n pl no9 fi9 ∧ clT f n al fi9 (p2 - 1) P9 ∧ (tpk f n (p2 - 1) = 93 ∧ fi9 < p2 - 1) ∧ ∀ c, cs_mem q2 m2 c ↔ clno no9 P9 c) ∧ (fa2 = 0) ∧ (fp2 = -1) ∧ (0 ≤ fa2 ∧ fa2 ≤ 14) ∧ (1 ≤ kd2 ∧ kd2 ≤ 12 ∧ 0 ≤ kn2 ∧ kn2 ≤ 1) ∧ (nb2 ≤ 104000 ∧ 0 ≤ c2 ∧ c2 ≤ 24900) ∧ (pl + 3 ≤ p2 ∧ p2 ≤ n) ∧ (cs_can q2 m2) ∧ (0 ≤ m2 ∧ m2 ≤ 11 * (p2 - pl) + 2 ∧ ↑w2 = 2 * m2) ∧ (64 * G2.length + nb ≤ 64 * G.length + nb2 + 256) ∧ ((↑(ab_slots G2) : Int) + 2 * ↑nb ≤ ↑(ab_slots G) + 2 * ↑nb2 + 88 * (p2 - pl) + 20))) := by
  refine ab_F_of (by decide +kernel) (Nat.le_of_ble_eq_true rfl) ?_
  obtain ⟨Q, hQ⟩ : ∃ z : Outcome → ab_G → Prop, z = (fun oc G2 => (∃ o2 : Nat → Nat, ∃ p2 : Int, ∃ fa2 : Int, ∃ fp2 : Int, ∃ kd2 : Nat, ∃ kn2 : Int, ∃ nb2 : Nat, ∃ c2 : Int, ∃ P2 : Int → Prop, oc = .returned (some (vN)) ∧ fx o o2 [24, 88, 89, 92] G G2 ∧ cc o2 G2 x 24 (ab_ob 10 [vR se, vR by_, vz n, vz p2, vz fa2, vz fp2, vR kd2, vz kn2]) ∧ cc o2 G2 by_ 23 (za m f) ∧ csI o2 G2 se 88 89 nb2 c2 P2 ∧ (1 ≤ fa2) ∧ (∃ no9 fi9 : Int, clb f n pl no9 fi9 ∧ clN f n al pl fi9 fa2 fp2) ∧ (0 ≤ fa2 ∧ fa2 ≤ 14) ∧ (1 ≤ kd2 ∧ kd2 ≤ 12 ∧ 0 ≤ kn2 ∧ kn2 ≤ 1) ∧ (nb2 ≤ 104000 ∧ 0 ≤ c2 ∧ c2 ≤ 24900) ∧ (pl ≤ p2 ∧ p2 ≤ n + 160) ∧ (64 * G2.length + nb ≤ 64 * G.length + nb2) ∧ (ab_slots G2 + 2 * nb ≤ ab_slots G + 2 * nb2)) ∨ (∃ o2 : Nat → Nat, ∃ w : Nat, ∃ p2 : Int, ∃ fa2 : Int, ∃ fp2 : Int, ∃ kd2 : Nat, ∃ kn2 : Int, ∃ nb2 : Nat, ∃ c2 : Int, ∃ P2 : Int → Prop, ∃ q2 : Int → Int, ∃ m2 : Int, ∃ w2 : Nat, oc = .returned (some (vR w)) ∧ fx o o2 [24, 88, 89, 92] G G2 ∧ cc o2 G2 x 24 (ab_ob 10 [vR se, vR by_, vz n, vz p2, vz fa2, vz fp2, vR kd2, vz kn2]) ∧ cc o2 G2 by_ 23 (za m f) ∧ cc o2 G2 w 93 (za w2 q2) ∧ csI o2 G2 se 88 89 nb2 c2 P2 ∧ (∃ (no9 fi9 : Int) (P9 : Int → Prop), clb f n pl no9 fi9 ∧ clT f n al fi9 (p2 - 1) P9 ∧ (tpk f n (p2 - 1) = 93 ∧ fi9 < p2 - 1) ∧ ∀ c, cs_mem q2 m2 c ↔ clno no9 P9 c) ∧ (fa2 = 0) ∧ (fp2 = -1) ∧ (0 ≤ fa2 ∧ fa2 ≤ 14) ∧ (1 ≤ kd2 ∧ kd2 ≤ 12 ∧ 0 ≤ kn2 ∧ kn2 ≤ 1) ∧ (nb2 ≤ 104000 ∧ 0 ≤ c2 ∧ c2 ≤ 24900) ∧ (pl + 3 ≤ p2 ∧ p2 ≤ n) ∧ (cs_can q2 m2) ∧ (0 ≤ m2 ∧ m2 ≤ 11 * (p2 - pl) + 2 ∧ ↑w2 = 2 * m2) ∧ (64 * G2.length + nb ≤ 64 * G.length + nb2 + 256) ∧ ((↑(ab_slots G2) : Int) + 2 * ↑nb ≤ ↑(ab_slots G) + 2 * ↑nb2 + 88 * (p2 - pl) + 20))) := ⟨_, rfl⟩
  rw [← hQ]
  change ab_W X (ab_pl y_TX_charClass b_TX_charClass 9 (some (.array .int))) d G 0 [some (vR x), some (vz al), none, none, none, none, none, none, none] [] Q
  have hfr : fx o o [24, 88, 89, 92] G G := fx.rf
  refine ab_aload_n d_TX_charClass_0 rfl ?_
  refine ab_getf (fs := [vR se, vR by_, vz n, vz pl, vz fa, vz fp, vR kd, vz kn]) f_TX_43 d_TX_charClass_1 hx.2.2 rfl ?_
  refine ab_istore_n d_TX_charClass_4 (Nat.le_of_ble_eq_true rfl) (Nat.le_of_ble_eq_true rfl) rfl ?_
  change ab_W _ _ _ G 5 [some (vR x), some (vz al), some (vz pl), none, none, none, none, none, none] [] _
  refine ab_aload_n d_TX_charClass_5 rfl ?_
  refine zz_iconst d_TX_charClass_6 ?_
  refine ab_callV (d' := d - 1) (as := [vz 1]) (st := []) (r := _) (z_TX_peek (o := o) (x := x) (lx := 24) (se := se) (by_ := by_) (lby := 23) (m := m) (f := f) (n := n) (pl := pl) (fa := fa) (fp := fp) (kd := kd) (kn := kn) (k := 1) hx hby_ (by omega) hb (by omega)) (fun oc G2 h => by rcases h with ⟨_, h, _⟩ <;> exact ⟨_, h⟩) (by omega) m_TX_peek ml_TX_61 im_TX_peek se_TX_peek c_TX hx.2.2 (Nat.le_of_ble_eq_true rfl) d_TX_charClass_7 rfl ?_
  intro v G1 hq
  rcases hq with ⟨v2, hv, hGe, hq3, hq4⟩
  cases hv
  rw [hGe]
  change ab_W _ _ _ G 10 [some (vR x), some (vz al), some (vz pl), none, none, none, none, none, none] [vz v2] _
  refine zz_bipush d_TX_charClass_10 (by decide) ?_
  refine zz_icmp_ne (tgt := 19) d_TX_charClass_12 (by decide) (by omega) (by decide) (fun c5 => ?_) (fun c5 => ?_)
  · refine zz_iconst d_TX_charClass_19 ?_
    refine ab_istore_n d_TX_charClass_20 (Nat.le_of_ble_eq_true rfl) (Nat.le_of_ble_eq_true rfl) rfl ?_
    change ab_W _ _ _ G 21 [some (vR x), some (vz al), some (vz pl), some (vz 0), none, none, none, none, none] [] _
    refine ab_aload_n d_TX_charClass_21 rfl ?_
    refine ab_dup d_TX_charClass_22 rfl ?_
    refine ab_getf (fs := [vR se, vR by_, vz n, vz pl, vz fa, vz fp, vR kd, vz kn]) f_TX_43 d_TX_charClass_23 hx.2.2 rfl ?_
    refine ab_iload_n d_TX_charClass_26 rfl ?_
    refine zz_if_eq (tgt := 34) d_TX_charClass_27 (by decide) (by decide) (fun c6 => ?_) (fun c6 => absurd c6 (by decide))
    refine zz_iconst d_TX_charClass_34 ?_
    refine zz_iadd d_TX_charClass_35 ?_
    refine ab_putf (fs := [vR se, vR by_, vz n, vz pl, vz fa, vz fp, vR kd, vz kn]) f_TX_43 (Or.inl rfl) d_TX_charClass_36 hx.2.2 (Nat.le_of_ble_eq_true rfl) (fun _ => ⟨rfl, rfl⟩) (hx.2.1 (by decide)) ?_
    obtain ⟨G7, eG7⟩ : ∃ z : ab_G, z = List.set G x (ab_ob 10 [vR se, vR by_, vz n, vz (pl + 1), vz fa, vz fp, vR kd, vz kn]) := ⟨_, rfl⟩
    have hby_ := hby_.keep hx eG7 (by decide)
    have h15 := h15.keep hx eG7 (by decide)
    have h16 := h16.keep hx eG7 (by decide)
    have hst := (fx.rf (o := o) (S := [24]) (G := G)).wr hx eG7 (List.mem_singleton.mpr rfl)
    have pcsI_se := csI.fr hst pcsI_se (by decide) (by decide)
    have ptbI_0 := tbI.fr hst ptbI_0  (by decide)
    have hq8 := z_len eG7
    have hq9 := z_sl hx eG7 rfl
    have hfr := hfr.wr hx eG7 (by decide)
    have hx := hx.kept eG7
    change ab_W _ _ _ (List.set G x (ab_ob 10 [vR se, vR by_, vz n, vz (pl + 1), vz fa, vz fp, vR kd, vz kn])) 39 [some (vR x), some (vz al), some (vz pl), some (vz 0), none, none, none, none, none] [] _
    rw [← eG7]
    refine ab_aload_n d_TX_charClass_39 rfl ?_
    refine ab_getf (fs := [vR se, vR by_, vz n, vz (pl + 1), vz fa, vz fp, vR kd, vz kn]) f_TX_43 d_TX_charClass_40 hx.2.2 rfl ?_
    refine ab_istore d_TX_charClass_43 (Nat.le_of_ble_eq_true rfl) (Nat.le_of_ble_eq_true rfl) rfl ?_
    change ab_W _ _ _ G7 45 [some (vR x), some (vz al), some (vz pl), some (vz 0), some (vz (pl + 1)), none, none, none, none] [] _
    refine ab_aload_n d_TX_charClass_45 rfl ?_
    refine ab_getf (fs := [vR se, vR by_, vz n, vz (pl + 1), vz fa, vz fp, vR kd, vz kn]) f_TX_12 d_TX_charClass_46 hx.2.2 rfl ?_
    obtain ⟨fsR, hR⟩ := pcsI_se.recv
    refine ab_callV (d' := d - 1) (as := []) (st := []) (r := _) (c_CS_clear (o := o) (r := se) (lr := 88) (lb := 89) (n := nb) (cnt := cnt) (P := P) pcsI_se) (fun oc G2 h => by rcases h with ⟨h, _⟩ <;> exact ⟨_, h⟩) (by omega) m_CS_clear ml_TX_107 im_CS_clear se_CS_clear c_CS hR (Nat.le_of_ble_eq_true rfl) d_TX_charClass_49 rfl ?_
    intro v G10 hq
    rcases hq with ⟨hv, hfk, hlk, hsk, pNcsI_se⟩
    cases hv
    have hx := hfk.get hx (by decide)
    have hby_ := hfk.get hby_ (by decide)
    have h15 := hfk.get h15 (by decide)
    have h16 := hfk.get h16 (by decide)
    have ptbI_0 := tbI.fr hfk ptbI_0  (by decide)
    have pcsI_se := pNcsI_se
    have hfr := hfr.tr hfk (by decide)
    have hq11 := hlk
    have hq12 := hsk
    change ab_W _ _ _ G10 52 [some (vR x), some (vz al), some (vz pl), some (vz 0), some (vz (pl + 1)), none, none, none, none] [] _
    refine zz_iconst d_TX_charClass_52 ?_
    refine ab_istore d_TX_charClass_53 (Nat.le_of_ble_eq_true rfl) (Nat.le_of_ble_eq_true rfl) rfl ?_
    change ab_W _ _ _ G10 55 [some (vR x), some (vz al), some (vz pl), some (vz 0), some (vz (pl + 1)), some (vz 0), none, none, none] [] _
    refine y_TX_charClass_55 (x := x) (se := se) (by_ := by_) (m := m) (f := f) (n := n) (al := al) (op := pl) (no := 0) (fi := (pl + 1)) (n0 := nb) (G0 := G10) (pl := (pl + 1)) (fa := fa) (fp := fp) (kd := kd) (kn := kn) (nb := nb) (cnt := 0) (P := (fun _ => False)) (tu := 0) (by omega) hb (by omega) (by omega) (by omega) (by omega) (by omega) (Int.toNat (n + 1 - 0) + 1) hx hby_ h15 h16 pcsI_se ptbI_0 (by omega) (by omega) (by omega) (by omega) (by omega) (by omega) (by omega) (by omega) (by first | omega | (have t := tpk_w (f := f) (n := n) (i := pl + 1) (by omega); omega)) (clH_0 (by omega) rfl (fun _ h => h)) (fok_0 (by omega)) fx.rf (by omega) (fun G13 o14 p215 fa216 fp217 kd218 kn219 nb220 c221 P222 hNx hNby_ pNcsI_se hq23 hq24 hq25 hq26 hq27 hq28 hq29 hq30 hfk => ?_) (fun G32 o33 w34 p235 fa236 fp237 kd238 kn239 nb240 c241 P242 q243 m244 w245 hNx hNby_ hNw34 pNcsI_se hq46 hq47 hq48 hq49 hq50 hq51 hq52 hq53 hq54 hq55 hq56 hfk => ?_)
    · have h15 := hfk.get h15 (by decide)
      have h16 := hfk.get h16 (by decide)
      have ptbI_0 := tbI.fr hfk ptbI_0  (by decide)
      have hfr := hfr.tr hfk (by decide)
      have hq31 := hfk.1
      have hx := hNx
      have hby_ := hNby_
      have pcsI_se := pNcsI_se
      rw [hQ]; exact (Or.inl ⟨_, _, _, _, _, _, _, _, _, rfl, hfr, hx, hby_, pcsI_se, (by omega), (by first | exact ⟨0, _, Or.inr ⟨by omega, rfl, rfl⟩, hq24⟩ | exact ⟨1, _, Or.inl ⟨by omega, rfl, rfl⟩, hq24⟩), (by omega), (by omega), (by omega), (by omega), (by omega), (by omega)⟩)
    · have h15 := hfk.get h15 (by decide)
      have h16 := hfk.get h16 (by decide)
      have ptbI_0 := tbI.fr hfk ptbI_0  (by decide)
      have hfr := hfr.tr hfk (by decide)
      have hq57 := hfk.1
      have hx := hNx
      have hby_ := hNby_
      have hw34 := hNw34
      have pcsI_se := pNcsI_se
      rw [hQ]; exact (Or.inr ⟨_, _, _, _, _, _, _, _, _, _, _, m244, _, rfl, hfr, hx, hby_, hw34, pcsI_se, (by obtain ⟨P9, t9⟩ := hq46; first | exact ⟨0, _, P9, Or.inr ⟨by omega, rfl, rfl⟩, t9⟩ | exact ⟨1, _, P9, Or.inl ⟨by omega, rfl, rfl⟩, t9⟩), (by omega), (by omega), (by omega), (by omega), (by omega), (by omega), (by exact hq53), (by omega), (by omega), (by omega)⟩)
  · refine zz_iconst d_TX_charClass_15 ?_
    refine ab_goto (tgt := 20) d_TX_charClass_16 (by decide) ?_
    refine ab_istore_n d_TX_charClass_20 (Nat.le_of_ble_eq_true rfl) (Nat.le_of_ble_eq_true rfl) rfl ?_
    change ab_W _ _ _ G 21 [some (vR x), some (vz al), some (vz pl), some (vz 1), none, none, none, none, none] [] _
    refine ab_aload_n d_TX_charClass_21 rfl ?_
    refine ab_dup d_TX_charClass_22 rfl ?_
    refine ab_getf (fs := [vR se, vR by_, vz n, vz pl, vz fa, vz fp, vR kd, vz kn]) f_TX_43 d_TX_charClass_23 hx.2.2 rfl ?_
    refine ab_iload_n d_TX_charClass_26 rfl ?_
    refine zz_if_eq (tgt := 34) d_TX_charClass_27 (by decide) (by decide) (fun c58 => absurd c58 (by decide)) (fun c58 => ?_)
    refine zz_iconst d_TX_charClass_30 ?_
    refine ab_goto (tgt := 35) d_TX_charClass_31 (by decide) ?_
    refine zz_iadd d_TX_charClass_35 ?_
    refine ab_putf (fs := [vR se, vR by_, vz n, vz pl, vz fa, vz fp, vR kd, vz kn]) f_TX_43 (Or.inl rfl) d_TX_charClass_36 hx.2.2 (Nat.le_of_ble_eq_true rfl) (fun _ => ⟨rfl, rfl⟩) (hx.2.1 (by decide)) ?_
    obtain ⟨G59, eG59⟩ : ∃ z : ab_G, z = List.set G x (ab_ob 10 [vR se, vR by_, vz n, vz (pl + 2), vz fa, vz fp, vR kd, vz kn]) := ⟨_, rfl⟩
    have hby_ := hby_.keep hx eG59 (by decide)
    have h15 := h15.keep hx eG59 (by decide)
    have h16 := h16.keep hx eG59 (by decide)
    have hst := (fx.rf (o := o) (S := [24]) (G := G)).wr hx eG59 (List.mem_singleton.mpr rfl)
    have pcsI_se := csI.fr hst pcsI_se (by decide) (by decide)
    have ptbI_0 := tbI.fr hst ptbI_0  (by decide)
    have hq60 := z_len eG59
    have hq61 := z_sl hx eG59 rfl
    have hfr := hfr.wr hx eG59 (by decide)
    have hx := hx.kept eG59
    change ab_W _ _ _ (List.set G x (ab_ob 10 [vR se, vR by_, vz n, vz (pl + 2), vz fa, vz fp, vR kd, vz kn])) 39 [some (vR x), some (vz al), some (vz pl), some (vz 1), none, none, none, none, none] [] _
    rw [← eG59]
    refine ab_aload_n d_TX_charClass_39 rfl ?_
    refine ab_getf (fs := [vR se, vR by_, vz n, vz (pl + 2), vz fa, vz fp, vR kd, vz kn]) f_TX_43 d_TX_charClass_40 hx.2.2 rfl ?_
    refine ab_istore d_TX_charClass_43 (Nat.le_of_ble_eq_true rfl) (Nat.le_of_ble_eq_true rfl) rfl ?_
    change ab_W _ _ _ G59 45 [some (vR x), some (vz al), some (vz pl), some (vz 1), some (vz (pl + 2)), none, none, none, none] [] _
    refine ab_aload_n d_TX_charClass_45 rfl ?_
    refine ab_getf (fs := [vR se, vR by_, vz n, vz (pl + 2), vz fa, vz fp, vR kd, vz kn]) f_TX_12 d_TX_charClass_46 hx.2.2 rfl ?_
    obtain ⟨fsR, hR⟩ := pcsI_se.recv
    refine ab_callV (d' := d - 1) (as := []) (st := []) (r := _) (c_CS_clear (o := o) (r := se) (lr := 88) (lb := 89) (n := nb) (cnt := cnt) (P := P) pcsI_se) (fun oc G2 h => by rcases h with ⟨h, _⟩ <;> exact ⟨_, h⟩) (by omega) m_CS_clear ml_TX_107 im_CS_clear se_CS_clear c_CS hR (Nat.le_of_ble_eq_true rfl) d_TX_charClass_49 rfl ?_
    intro v G62 hq
    rcases hq with ⟨hv, hfk, hlk, hsk, pNcsI_se⟩
    cases hv
    have hx := hfk.get hx (by decide)
    have hby_ := hfk.get hby_ (by decide)
    have h15 := hfk.get h15 (by decide)
    have h16 := hfk.get h16 (by decide)
    have ptbI_0 := tbI.fr hfk ptbI_0  (by decide)
    have pcsI_se := pNcsI_se
    have hfr := hfr.tr hfk (by decide)
    have hq63 := hlk
    have hq64 := hsk
    change ab_W _ _ _ G62 52 [some (vR x), some (vz al), some (vz pl), some (vz 1), some (vz (pl + 2)), none, none, none, none] [] _
    refine zz_iconst d_TX_charClass_52 ?_
    refine ab_istore d_TX_charClass_53 (Nat.le_of_ble_eq_true rfl) (Nat.le_of_ble_eq_true rfl) rfl ?_
    change ab_W _ _ _ G62 55 [some (vR x), some (vz al), some (vz pl), some (vz 1), some (vz (pl + 2)), some (vz 0), none, none, none] [] _
    refine y_TX_charClass_55 (x := x) (se := se) (by_ := by_) (m := m) (f := f) (n := n) (al := al) (op := pl) (no := 1) (fi := (pl + 2)) (n0 := nb) (G0 := G62) (pl := (pl + 2)) (fa := fa) (fp := fp) (kd := kd) (kn := kn) (nb := nb) (cnt := 0) (P := (fun _ => False)) (tu := 0) (by omega) hb (by omega) (by omega) (by omega) (by omega) (by omega) (Int.toNat (n + 1 - 0) + 1) hx hby_ h15 h16 pcsI_se ptbI_0 (by omega) (by omega) (by omega) (by omega) (by omega) (by omega) (by omega) (by omega) (by first | omega | (have t := tpk_w (f := f) (n := n) (i := pl + 1) (by omega); omega)) (clH_0 (by omega) rfl (fun _ h => h)) (fok_0 (by omega)) fx.rf (by omega) (fun G65 o66 p267 fa268 fp269 kd270 kn271 nb272 c273 P274 hNx hNby_ pNcsI_se hq75 hq76 hq77 hq78 hq79 hq80 hq81 hq82 hfk => ?_) (fun G84 o85 w86 p287 fa288 fp289 kd290 kn291 nb292 c293 P294 q295 m296 w297 hNx hNby_ hNw86 pNcsI_se hq98 hq99 hq100 hq101 hq102 hq103 hq104 hq105 hq106 hq107 hq108 hfk => ?_)
    · have h15 := hfk.get h15 (by decide)
      have h16 := hfk.get h16 (by decide)
      have ptbI_0 := tbI.fr hfk ptbI_0  (by decide)
      have hfr := hfr.tr hfk (by decide)
      have hq83 := hfk.1
      have hx := hNx
      have hby_ := hNby_
      have pcsI_se := pNcsI_se
      rw [hQ]; exact (Or.inl ⟨_, _, _, _, _, _, _, _, _, rfl, hfr, hx, hby_, pcsI_se, (by omega), (by first | exact ⟨0, _, Or.inr ⟨by omega, rfl, rfl⟩, hq76⟩ | exact ⟨1, _, Or.inl ⟨by omega, rfl, rfl⟩, hq76⟩), (by omega), (by omega), (by omega), (by omega), (by omega), (by omega)⟩)
    · have h15 := hfk.get h15 (by decide)
      have h16 := hfk.get h16 (by decide)
      have ptbI_0 := tbI.fr hfk ptbI_0  (by decide)
      have hfr := hfr.tr hfk (by decide)
      have hq109 := hfk.1
      have hx := hNx
      have hby_ := hNby_
      have hw86 := hNw86
      have pcsI_se := pNcsI_se
      rw [hQ]; exact (Or.inr ⟨_, _, _, _, _, _, _, _, _, _, _, m296, _, rfl, hfr, hx, hby_, hw86, pcsI_se, (by obtain ⟨P9, t9⟩ := hq98; first | exact ⟨0, _, P9, Or.inr ⟨by omega, rfl, rfl⟩, t9⟩ | exact ⟨1, _, P9, Or.inl ⟨by omega, rfl, rfl⟩, t9⟩), (by omega), (by omega), (by omega), (by omega), (by omega), (by omega), (by exact hq105), (by omega), (by omega), (by omega)⟩)
