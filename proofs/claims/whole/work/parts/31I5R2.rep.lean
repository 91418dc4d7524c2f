theorem sub6 {A : List Nat} {k : Nat} (hk : k < 6) : ∀ x ∈ A ++ [100 + 10 * k], x ∈ A ++ [100, 110, 120, 130, 140, 150] := by
  intro x hx
  rw [List.mem_append] at hx ⊢
  rcases hx with h | h
  · exact Or.inl h
  · refine Or.inr ?_
    rw [List.mem_singleton] at h
    subst h
    rcases (show k = 0 ∨ k = 1 ∨ k = 2 ∨ k = 3 ∨ k = 4 ∨ k = 5 by omega) with e | e | e | e | e | e <;> (subst e; decide)
theorem onL_tr {a b c : Nat} (h : onL a b) (h2 : onL b c) : onL a c := by unfold onL at *; omega
set_option maxRecDepth 100000 in
set_option maxHeartbeats 4000000 in
theorem z2_RW_addAll {X : ab_X} {d : Nat} {o : Nat → Nat} {G : ab_G} {r : Nat} {b : Nat} {lr : Nat} {lb : Nat} {n : Nat} {lim : Int} {sz : Int} {f : Int → Int} {a : Nat} {la : Nat} {m : Nat} {q : Int → Int} {x : Int} {y : Int} (hr : cc o G r lr (ab_ob 7 [vz lim, vR b, vz sz])) (hb : cc o G b lb (za n f)) (ha : cc o G a la (za m q)) (c0 : 0 ≤ sz ∧ sz ≤ ↑n ∧ ↑n ≤ lim ∧ lim ≤ 1000000 ∧ 1 ≤ n) (cl : ab_n0 ≤ lr ∧ ab_n0 ≤ lb ∧ lr ≠ lb) (rc : G.length + 1 ≤ ab_n0 + room_1.cells) (rs : ab_slots G + lim.toNat ≤ room_1.slots) (cx : 0 ≤ x ∧ x ≤ 1000000 ∧ y ≤ ↑m ∧ -1 ≤ y ∧ y ≤ 1000000) (ca : la ≠ lr ∧ la ≠ lb) (hd : 5 ≤ d) : ab_F X d y_RW_addAll (.code y_RW_addAll b_RW_addAll 4 (some (.boolean))) [vR r, vR a, vz x, vz y] G (fun oc G2 => (oc = .returned (some (vz 0)) ∧ G2 = G ∧ (y < x ∨ lim < sz + (y - x))) ∨ (∃ o2 : Nat → Nat, ∃ b2 : Nat, ∃ n2 : Nat, ∃ f2 : Int → Int, oc = .returned (some (vz 1)) ∧ fx o o2 [lr, lb] G G2 ∧ cc o2 G2 r lr (ab_ob 7 [vz lim, vR b2, vz (sz + (y - x))]) ∧ cc o2 G2 b2 lb (za n2 f2) ∧ cc o2 G2 a la (za m q) ∧ (x ≤ y ∧ sz + (y - x) ≤ lim) ∧ (G2.length + n ≤ G.length + n2) ∧ (ab_slots G2 + zT n lim ≤ ab_slots G + zT n2 lim) ∧ (↑n ≤ (↑n2 : Int) ∧ ↑n2 ≤ lim ∧ sz + (y - x) ≤ ↑n2) ∧ (∀ k : Int, 0 ≤ k → k < sz → f2 k = f k) ∧ (∀ k : Int, sz ≤ k → k < sz + (y - x) → f2 k = q (x + (k - sz))))) := by
  refine ab_F_of (by decide +kernel) (Nat.le_of_ble_eq_true rfl) ?_
  obtain ⟨Q, hQ⟩ : ∃ z : Outcome → ab_G → Prop, z = (fun oc G2 => (oc = .returned (some (vz 0)) ∧ G2 = G ∧ (y < x ∨ lim < sz + (y - x))) ∨ (∃ o2 : Nat → Nat, ∃ b2 : Nat, ∃ n2 : Nat, ∃ f2 : Int → Int, oc = .returned (some (vz 1)) ∧ fx o o2 [lr, lb] G G2 ∧ cc o2 G2 r lr (ab_ob 7 [vz lim, vR b2, vz (sz + (y - x))]) ∧ cc o2 G2 b2 lb (za n2 f2) ∧ cc o2 G2 a la (za m q) ∧ (x ≤ y ∧ sz + (y - x) ≤ lim) ∧ (G2.length + n ≤ G.length + n2) ∧ (ab_slots G2 + zT n lim ≤ ab_slots G + zT n2 lim) ∧ (↑n ≤ (↑n2 : Int) ∧ ↑n2 ≤ lim ∧ sz + (y - x) ≤ ↑n2) ∧ (∀ k : Int, 0 ≤ k → k < sz → f2 k = f k) ∧ (∀ k : Int, sz ≤ k → k < sz + (y - x) → f2 k = q (x + (k - sz))))) := ⟨_, rfl⟩
  rw [← hQ]
  change ab_W X (ab_pl y_RW_addAll b_RW_addAll 4 (some (.boolean))) d G 0 [some (vR r), some (vR a), some (vz x), some (vz y)] [] Q
  have hfr : fx o o [lr, lb] G G := fx.rf
  refine ab_iload_n d_RW_addAll_0 rfl ?_
  refine ab_iload_n d_RW_addAll_1 rfl ?_
  refine zz_icmp_lt (tgt := 15) d_RW_addAll_2 (by decide) (by omega) (by omega) (fun c1 => ?_) (fun c1 => ?_)
  · refine zz_iconst d_RW_addAll_15 ?_
    refine zz_bret rfl (by decide) d_RW_addAll_16 ?_
    rw [hQ]; exact (Or.inl ⟨rfl, rfl, (by omega)⟩)
  · refine ab_aload_n d_RW_addAll_5 rfl ?_
    refine ab_iload_n d_RW_addAll_6 rfl ?_
    refine ab_iload_n d_RW_addAll_7 rfl ?_
    refine zz_isub d_RW_addAll_8 ?_
    refine ab_callV (d' := d - 1) (as := [vz (y - x)]) (st := []) (r := _) (z_RW_makeRoom (o := o) (r := r) (b := b) (lr := lr) (lb := lb) (n := n) (lim := lim) (sz := sz) (f := f) (more := (y - x)) hr hb (by omega) (by have h18 : ab_n0 = 18 := rfl; omega) (by omega) (by omega) (by omega) (by omega)) (fun oc G2 h => by rcases h with ⟨h, _⟩ | ⟨h, _⟩ | ⟨_, _, _, h, _⟩ <;> exact ⟨_, h⟩) (by omega) m_RW_makeRoom ml_RW_22 im_RW_makeRoom se_RW_makeRoom c_RW hr.2.2 (Nat.le_of_ble_eq_true rfl) d_RW_addAll_9 rfl ?_
    intro v G2 hq
    rcases hq with ⟨hv, hGe, hq3⟩ | ⟨hv, hGe, hq4⟩ | ⟨o5, b26, n27, hv, hfk, hNr, hNb26, hq8, hq9, hq10, hq11⟩
    · cases hv
      rw [hGe]
      change ab_W _ _ _ G 12 [some (vR r), some (vR a), some (vz x), some (vz y)] [vz 0] _
      refine zz_if_ne (tgt := 17) d_RW_addAll_12 (by decide) (by decide) (fun c13 => absurd c13 (by decide)) (fun c13 => ?_)
      refine zz_iconst d_RW_addAll_15 ?_
      refine zz_bret rfl (by decide) d_RW_addAll_16 ?_
      rw [hQ]; exact (Or.inl ⟨rfl, rfl, (by omega)⟩)
    · cases hv
      rw [hGe]
      change ab_W _ _ _ G 12 [some (vR r), some (vR a), some (vz x), some (vz y)] [vz 1] _
      refine zz_if_ne (tgt := 17) d_RW_addAll_12 (by decide) (by decide) (fun c14 => ?_) (fun c14 => absurd c14 (by decide))
      refine ab_aload_n d_RW_addAll_17 rfl ?_
      refine ab_iload_n d_RW_addAll_18 rfl ?_
      refine ab_aload_n d_RW_addAll_19 rfl ?_
      refine ab_getf (fs := [vz lim, vR b, vz sz]) f_RW_9 d_RW_addAll_20 hr.2.2 rfl ?_
      refine ab_aload_n d_RW_addAll_23 rfl ?_
      refine ab_getf (fs := [vz lim, vR b, vz sz]) f_RW_19 d_RW_addAll_24 hr.2.2 rfl ?_
      refine ab_iload_n d_RW_addAll_27 rfl ?_
      refine ab_iload_n d_RW_addAll_28 rfl ?_
      refine zz_isub d_RW_addAll_29 ?_
      refine zz_copy mj_RW_26 d_RW_addAll_30 ha hb (hb.2.1 (by first | omega | exact (show 18 ≤ _ by omega))) (by omega) (Nat.le_of_ble_eq_true rfl) (by omega) ?_
      obtain ⟨G15, eG15⟩ : ∃ z : ab_G, z = List.set G b (za n (zcpy q f x sz (y - x))) := ⟨_, rfl⟩
      have hr := hr.keep hb eG15 (by omega)
      have ha := ha.keep hb eG15 (by omega)
      have hq16 := z_len eG15
      have hq17 := z_sl hb eG15 rfl
      have hfr := hfr.wr hb eG15 (by simp)
      have hb := hb.kept eG15
      change ab_W _ _ _ (List.set G b (za n (zcpy q f x sz (y - x)))) 33 [some (vR r), some (vR a), some (vz x), some (vz y)] [] _
      rw [← eG15]
      refine ab_aload_n d_RW_addAll_33 rfl ?_
      refine ab_dup d_RW_addAll_34 rfl ?_
      refine ab_getf (fs := [vz lim, vR b, vz sz]) f_RW_19 d_RW_addAll_35 hr.2.2 rfl ?_
      refine ab_iload_n d_RW_addAll_38 rfl ?_
      refine ab_iload_n d_RW_addAll_39 rfl ?_
      refine zz_isub d_RW_addAll_40 ?_
      refine zz_iadd d_RW_addAll_41 ?_
      refine ab_putf (fs := [vz lim, vR b, vz sz]) f_RW_19 (Or.inl rfl) d_RW_addAll_42 hr.2.2 (Nat.le_of_ble_eq_true rfl) (fun _ => ⟨rfl, rfl⟩) (hr.2.1 (by first | omega | exact (show 18 ≤ _ by omega))) ?_
      obtain ⟨G18, eG18⟩ : ∃ z : ab_G, z = List.set G15 r (ab_ob 7 [vz lim, vR b, vz (sz + (y - x))]) := ⟨_, rfl⟩
      have hb := hb.keep hr eG18 (by omega)
      have ha := ha.keep hr eG18 (by omega)
      have hq19 := z_len eG18
      have hq20 := z_sl hr eG18 rfl
      have hfr := hfr.wr hr eG18 (by simp)
      have hr := hr.kept eG18
      change ab_W _ _ _ (List.set G15 r (ab_ob 7 [vz lim, vR b, vz (sz + (y - x))])) 45 [some (vR r), some (vR a), some (vz x), some (vz y)] [] _
      rw [← eG18]
      refine zz_iconst d_RW_addAll_45 ?_
      refine zz_bret rfl (by decide) d_RW_addAll_46 ?_
      rw [hQ]; exact (Or.inr ⟨_, _, _, _, rfl, hfr, hr, hb, ha, (by omega), (by omega), (by unfold zT; (repeat' split) <;> omega), (by omega), (by intro k h1 h2; simp only [zu, zcpy, zfill]; (repeat' split) <;> first | omega | rfl | (congr 1; omega)), (by intro k h1 h2; simp only [zu, zcpy, zfill]; (repeat' split) <;> first | omega | rfl | (congr 1; omega))⟩)
    · cases hv
      have ne_b26_r : nq b26 r := by have hlt := hr.lt; unfold nq; omega
      have ne_b26_b : nq b26 b := by have hlt := hb.lt; unfold nq; omega
      have ne_b26_a : nq b26 a := by have hlt := ha.lt; unfold nq; omega
      have hb := hfk.get hb (by simp only [List.mem_cons, List.not_mem_nil, or_false]; omega)
      have ha := hfk.get ha (by simp only [List.mem_cons, List.not_mem_nil, or_false]; omega)
      have hfr := hfr.tr hfk (by simp)
      have hq12 := hfk.1
      have hr := hNr
      have hb26 := hNb26
      change ab_W _ _ _ G2 12 [some (vR r), some (vR a), some (vz x), some (vz y)] [vz 1] _
      refine zz_if_ne (tgt := 17) d_RW_addAll_12 (by decide) (by decide) (fun c21 => ?_) (fun c21 => absurd c21 (by decide))
      refine ab_aload_n d_RW_addAll_17 rfl ?_
      refine ab_iload_n d_RW_addAll_18 rfl ?_
      refine ab_aload_n d_RW_addAll_19 rfl ?_
      refine ab_getf (fs := [vz lim, vR b26, vz sz]) f_RW_9 d_RW_addAll_20 hr.2.2 rfl ?_
      refine ab_aload_n d_RW_addAll_23 rfl ?_
      refine ab_getf (fs := [vz lim, vR b26, vz sz]) f_RW_19 d_RW_addAll_24 hr.2.2 rfl ?_
      refine ab_iload_n d_RW_addAll_27 rfl ?_
      refine ab_iload_n d_RW_addAll_28 rfl ?_
      refine zz_isub d_RW_addAll_29 ?_
      refine zz_copy mj_RW_26 d_RW_addAll_30 ha hb26 (hb26.2.1 (by first | omega | exact (show 18 ≤ _ by omega))) (by omega) (Nat.le_of_ble_eq_true rfl) (by omega) ?_
      obtain ⟨G22, eG22⟩ : ∃ z : ab_G, z = List.set G2 b26 (za n27 (zcpy q (zcpy f (fun _ => 0) 0 0 ↑n) x sz (y - x))) := ⟨_, rfl⟩
      have hr := hr.keep' eG22 ne_b26_r
      have hb := hb.keep' eG22 ne_b26_b
      have ha := ha.keep' eG22 ne_b26_a
      have hq23 := z_len eG22
      have hq24 := z_sl hb26 eG22 rfl
      have hfr := hfr.wn (show G.length ≤ b26 by have := hfr.1; omega) eG22
      have hb26 := hb26.kept eG22
      change ab_W _ _ _ (List.set G2 b26 (za n27 (zcpy q (zcpy f (fun _ => 0) 0 0 ↑n) x sz (y - x)))) 33 [some (vR r), some (vR a), some (vz x), some (vz y)] [] _
      rw [← eG22]
      refine ab_aload_n d_RW_addAll_33 rfl ?_
      refine ab_dup d_RW_addAll_34 rfl ?_
      refine ab_getf (fs := [vz lim, vR b26, vz sz]) f_RW_19 d_RW_addAll_35 hr.2.2 rfl ?_
      refine ab_iload_n d_RW_addAll_38 rfl ?_
      refine ab_iload_n d_RW_addAll_39 rfl ?_
      refine zz_isub d_RW_addAll_40 ?_
      refine zz_iadd d_RW_addAll_41 ?_
      refine ab_putf (fs := [vz lim, vR b26, vz sz]) f_RW_19 (Or.inl rfl) d_RW_addAll_42 hr.2.2 (Nat.le_of_ble_eq_true rfl) (fun _ => ⟨rfl, rfl⟩) (hr.2.1 (by first | omega | exact (show 18 ≤ _ by omega))) ?_
      obtain ⟨G25, eG25⟩ : ∃ z : ab_G, z = List.set G22 r (ab_ob 7 [vz lim, vR b26, vz (sz + (y - x))]) := ⟨_, rfl⟩
      have hb := hb.keep hr eG25 (by omega)
      have ha := ha.keep hr eG25 (by omega)
      have hb26 := hb26.keep' eG25 (nq.s ne_b26_r)
      have hq26 := z_len eG25
      have hq27 := z_sl hr eG25 rfl
      have hfr := hfr.wr hr eG25 (by simp)
      have hr := hr.kept eG25
      change ab_W _ _ _ (List.set G22 r (ab_ob 7 [vz lim, vR b26, vz (sz + (y - x))])) 45 [some (vR r), some (vR a), some (vz x), some (vz y)] [] _
      rw [← eG25]
      refine zz_iconst d_RW_addAll_45 ?_
      refine zz_bret rfl (by decide) d_RW_addAll_46 ?_
      rw [hQ]; exact (Or.inr ⟨_, _, _, _, rfl, hfr, hr, hb26, ha, (by omega), (by omega), (by unfold zT; (repeat' split) <;> omega), (by omega), (by intro k h1 h2; simp only [zu, zcpy, zfill]; (repeat' split) <;> first | omega | rfl | (congr 1; omega)), (by intro k h1 h2; simp only [zu, zcpy, zfill]; (repeat' split) <;> first | omega | rfl | (congr 1; omega))⟩)
set_option maxRecDepth 100000 in
set_option maxHeartbeats 4000000 in
theorem y_PW_addTemplate_4 {X : ab_X} {d : Nat} {Q : Outcome → ab_G → Prop} {o0 : Nat → Nat} {G0 : ab_G} {w_ : Nat} {f_ready : Nat} {f_tape : Nat} {f_reader : Nat} {f_programs : Nat} {f_subject : Nat} {f_spans : Nat} {f_threads : Nat} {f_marks : Nat} {f_oneMind : Nat} {f_states : Nat} {f_latest : Nat} {f_matches : Nat} {f_pieces : Nat} {f_template : Nat} {f_result : Nat} {f_spare : Nat} {cmp : Int} {ovs : Int} {it_p : Nat} {sz_p : Int} {mr_p : Nat} {F_p : Int → Int} {ls_ : Nat} {gr : Int} {by_ : Nat} {co : Nat} {re : Nat} {ho : Nat} {mc : Nat} {n : Int} {m : Nat} {SP : Int → Int} {f : Int → Int} {O9 : List Int} {L9 : List Int} {mr0 : Nat} (n18 : ab_n0 = 18) (csu : 0 ≤ n ∧ n ≤ ↑m ∧ 32 ≤ m ∧ m ≤ 2000 ∧ mc = m + 1) (cgr : 0 ≤ gr ∧ gr ≤ 9) (cls : 77 ≤ ls_ ∧ ls_ ≤ 79) (crw_p : 0 ≤ sz_p ∧ sz_p ≤ ↑mr_p ∧ ↑mr_p ≤ (2000 : Int) ∧ 32 ≤ mr_p) (jt : rgs F_p sz_p (-1 - gr) 255) (jsw : rgs SP (2 * (gr + 1)) (-1) n) (jrw : rwL F_p 0 L9) (cL9 : sz_p = (L9.length : Int)) (jso : spO SP gr) (rc : G0.length + 6001 ≤ ab_n0 + room_1.cells) (rs : ab_slots G0 + 24000 ≤ room_1.slots + zT mr0 6000) (hd : 6 ≤ d) : ∀ (mz : Nat) {G : ab_G} {o : Nat → Nat} {it_s : Nat} {sz_s : Int} {mr_s : Nat} {F_s : Int → Int} {fits : Int} {i_ : Int}, (cc o G w_ 18 (ab_ob 0 [vR f_ready, vR f_tape, vR f_reader, vR f_programs, vR f_subject, vR f_spans, vR f_threads, vR f_marks, vR f_oneMind, vR f_states, vR f_latest, vR f_matches, vR f_pieces, vR f_template, vR f_result, vR f_spare, vz cmp, vz ovs])) → (cc o G f_spans 31 (za 20 SP)) → (cc o G f_subject 26 (ab_ob 9 [vR by_, vR co, vR re, vR ho, vz n])) → (cc o G by_ 27 (za m f)) → (cc o G f_template 75 (ab_ob 7 [vz 2000, vR it_p, vz sz_p])) → (cc o G it_p 76 (za mr_p F_p)) → (cc o G f_spare ls_ (ab_ob 7 [vz 6000, vR it_s, vz sz_s])) → (cc o G it_s (ls_ + 1) (za mr_s F_s)) → (0 ≤ i_ ∧ i_ ≤ sz_p ∧ 0 ≤ fits ∧ fits ≤ 1) → (atI f SP L9 O9 i_ F_s sz_s fits) → (0 ≤ sz_s ∧ sz_s ≤ ↑mr_s ∧ ↑mr_s ≤ (6000 : Int) ∧ 32 ≤ mr_s) → (G.length + mr0 ≤ G0.length + mr_s) → (ab_slots G + zT mr0 6000 ≤ ab_slots G0 + zT mr_s 6000) → (fx o0 o [ls_, (ls_ + 1)] G0 G) → (Int.toNat (sz_p - i_) < mz) → (∀ (G2 : ab_G) (o2 : Nat → Nat) (f2 : Int) (it2 : Nat) (sz2 : Int) (mr2 : Nat) (F2 : Int → Int), (cc o2 G2 f_spare ls_ (ab_ob 7 [vz 6000, vR it2, vz sz2])) → (cc o2 G2 it2 (ls_ + 1) (za mr2 F2)) → (0 ≤ f2 ∧ f2 ≤ 1) → (wcR F2 sz2 f2 (O9 ++ exS f SP L9)) → (0 ≤ sz2 ∧ sz2 ≤ ↑mr2 ∧ ↑mr2 ≤ (6000 : Int) ∧ 32 ≤ mr2) → (G2.length + mr0 ≤ G0.length + mr2) → (ab_slots G2 + zT mr0 6000 ≤ ab_slots G0 + zT mr2 6000) → (fx o0 o2 [ls_, (ls_ + 1)] G0 G2) → ab_W X (ab_pl y_PW_addTemplate b_PW_addTemplate 5 (some (.boolean))) d G2 108 [none, some (vz f2), none, none, none] [] Q) → ab_W X (ab_pl y_PW_addTemplate b_PW_addTemplate 5 (some (.boolean))) d G 4 [some (vR w_), some (vz fits), some (vz i_), none, none] [] Q := by
  intro mz
  induction mz with
  | zero => intro G o it_s sz_s mr_s F_s fits i_ hw_ hf_spans hf_subject hby_ hf_template hit_p hf_spare hit_s ci ja crw_s hg hs hfr hm hk0; exact absurd hm (Nat.not_lt_zero _)
  | succ mz ih =>
    intro G o it_s sz_s mr_s F_s fits i_ hw_ hf_spans hf_subject hby_ hf_template hit_p hf_spare hit_s ci ja crw_s hg hs hfr hm hk0
    refine ab_iload_n d_PW_addTemplate_4 rfl ?_
    refine ab_aload_n d_PW_addTemplate_5 rfl ?_
    refine ab_getf (fs := [vR f_ready, vR f_tape, vR f_reader, vR f_programs, vR f_subject, vR f_spans, vR f_threads, vR f_marks, vR f_oneMind, vR f_states, vR f_latest, vR f_matches, vR f_pieces, vR f_template, vR f_result, vR f_spare, vz cmp, vz ovs]) f_PW_82 d_PW_addTemplate_6 hw_.2.2 rfl ?_
    refine ab_getf (fs := [vz 2000, vR it_p, vz sz_p]) f_PW_101 d_PW_addTemplate_9 hf_template.2.2 rfl ?_
    refine zz_icmp_ge (tgt := 108) d_PW_addTemplate_12 (by decide) (by omega) (by omega) (fun c1 => ?_) (fun c1 => ?_)
    · refine ab_less (L' := [none, some (vz fits), none, none, none]) (fun i v h => by rcases i with _ | _ | _ | _ | _ | i <;> first | exact h | (simp at h)) ?_
      exact hk0 _ _ _ _ _ _ _ hf_spare hit_s (by omega) (by exact atI_e ja cL9 (by first | (left; omega) | (right; omega))) (by omega) (by omega) (by omega) hfr
    · refine ab_iload_n d_PW_addTemplate_15 rfl ?_
      refine zz_if_eq (tgt := 108) d_PW_addTemplate_16 (by decide) (by omega) (fun c2 => ?_) (fun c2 => ?_)
      · refine ab_less (L' := [none, some (vz fits), none, none, none]) (fun i v h => by rcases i with _ | _ | _ | _ | _ | i <;> first | exact h | (simp at h)) ?_
        exact hk0 _ _ _ _ _ _ _ hf_spare hit_s (by omega) (by exact atI_e ja cL9 (by first | (left; omega) | (right; omega))) (by omega) (by omega) (by omega) hfr
      · refine ab_aload_n d_PW_addTemplate_19 rfl ?_
        refine ab_getf (fs := [vR f_ready, vR f_tape, vR f_reader, vR f_programs, vR f_subject, vR f_spans, vR f_threads, vR f_marks, vR f_oneMind, vR f_states, vR f_latest, vR f_matches, vR f_pieces, vR f_template, vR f_result, vR f_spare, vz cmp, vz ovs]) f_PW_82 d_PW_addTemplate_20 hw_.2.2 rfl ?_
        refine ab_getf (fs := [vz 2000, vR it_p, vz sz_p]) f_PW_272 d_PW_addTemplate_23 hf_template.2.2 rfl ?_
        refine ab_iload_n d_PW_addTemplate_26 rfl ?_
        refine zz_iald d_PW_addTemplate_27 hit_p (by omega) ?_
        have hit_ := jt i_ (by omega) (by omega)
        have hz9 : zT mr_s 6000 ≤ 18000 := zT_le (c := 6000) (by omega) rfl
        refine ab_istore_n d_PW_addTemplate_28 (Nat.le_of_ble_eq_true rfl) (Nat.le_of_ble_eq_true rfl) rfl ?_
        change ab_W _ _ _ G 29 [some (vR w_), some (vz fits), some (vz i_), some (vz (F_p i_)), none] [] _
        refine ab_iload_n d_PW_addTemplate_29 rfl ?_
        refine zz_if_lt (tgt := 45) d_PW_addTemplate_30 (by decide) (by omega) (fun c3 => ?_) (fun c3 => ?_)
        · refine zz_iconst d_PW_addTemplate_45 ?_
          refine zz_iconst d_PW_addTemplate_46 ?_
          refine ab_iload_n d_PW_addTemplate_47 rfl ?_
          refine zz_isub d_PW_addTemplate_48 ?_
          refine zz_imul d_PW_addTemplate_49 ?_
          have hsp0 := jsw (2 * ((-1) - (F_p i_))) (by omega) (by omega)
          have hsp1 := jsw ((2 * ((-1) - (F_p i_))) + 1) (by omega) (by omega)
          have hso_ := jso (-1 - F_p i_) (by omega) (by omega)
          refine ab_istore d_PW_addTemplate_50 (Nat.le_of_ble_eq_true rfl) (Nat.le_of_ble_eq_true rfl) rfl ?_
          change ab_W _ _ _ G 52 [some (vR w_), some (vz fits), some (vz i_), some (vz (F_p i_)), some (vz (2 * ((-1) - (F_p i_))))] [] _
          refine ab_aload_n d_PW_addTemplate_52 rfl ?_
          refine ab_getf (fs := [vR f_ready, vR f_tape, vR f_reader, vR f_programs, vR f_subject, vR f_spans, vR f_threads, vR f_marks, vR f_oneMind, vR f_states, vR f_latest, vR f_matches, vR f_pieces, vR f_template, vR f_result, vR f_spare, vz cmp, vz ovs]) f_PW_42 d_PW_addTemplate_53 hw_.2.2 rfl ?_
          refine ab_iload d_PW_addTemplate_56 rfl ?_
          refine zz_iald d_PW_addTemplate_58 hf_spans (by omega) ?_
          refine zz_iconst d_PW_addTemplate_59 ?_
          refine zz_icmp_eq (tgt := 96) d_PW_addTemplate_60 (by decide) (by omega) (by decide) (fun c4 => ?_) (fun c4 => ?_)
          · refine zz_iconst d_PW_addTemplate_96 ?_
            refine ab_goto (tgt := 101) d_PW_addTemplate_97 (by decide) ?_
            refine ab_istore_n d_PW_addTemplate_101 (Nat.le_of_ble_eq_true rfl) (Nat.le_of_ble_eq_true rfl) rfl ?_
            change ab_W _ _ _ G 102 [some (vR w_), some (vz 1), some (vz i_), some (vz (F_p i_)), some (vz (2 * ((-1) - (F_p i_))))] [] _
            refine zz_iinc d_PW_addTemplate_102 rfl (Nat.le_of_ble_eq_true rfl) (Nat.le_of_ble_eq_true rfl) rfl ?_
            change ab_W _ _ _ G 105 [some (vR w_), some (vz 1), some (vz (i_ + 1)), some (vz (F_p i_)), some (vz (2 * ((-1) - (F_p i_))))] [] _
            refine ab_goto (tgt := 4) d_PW_addTemplate_105 (by decide) ?_
            refine ab_less (L' := [some (vR w_), some (vz 1), some (vz (i_ + 1)), none, none]) (fun i v h => by rcases i with _ | _ | _ | _ | _ | i <;> first | exact h | (simp at h)) ?_
            exact ih (it_s := it_s) (sz_s := sz_s) (mr_s := mr_s) (F_s := F_s) (fits := 1) (i_ := (i_ + 1)) hw_ hf_spans hf_subject hby_ hf_template hit_p hf_spare hit_s (by omega) (atI_s ja jrw cL9 (by omega) (fun Q hQ_ => at_n (x := -1 - F_p i_) (wcR_e hQ_ (by omega)) (by omega) (by omega) (by omega))) (by omega) (by omega) (by omega) hfr (by omega) hk0
          · refine ab_aload_n d_PW_addTemplate_63 rfl ?_
            refine ab_getf (fs := [vR f_ready, vR f_tape, vR f_reader, vR f_programs, vR f_subject, vR f_spans, vR f_threads, vR f_marks, vR f_oneMind, vR f_states, vR f_latest, vR f_matches, vR f_pieces, vR f_template, vR f_result, vR f_spare, vz cmp, vz ovs]) f_PW_88 d_PW_addTemplate_64 hw_.2.2 rfl ?_
            refine ab_aload_n d_PW_addTemplate_67 rfl ?_
            refine ab_getf (fs := [vR f_ready, vR f_tape, vR f_reader, vR f_programs, vR f_subject, vR f_spans, vR f_threads, vR f_marks, vR f_oneMind, vR f_states, vR f_latest, vR f_matches, vR f_pieces, vR f_template, vR f_result, vR f_spare, vz cmp, vz ovs]) f_PW_38 d_PW_addTemplate_68 hw_.2.2 rfl ?_
            refine ab_getf (fs := [vR by_, vR co, vR re, vR ho, vz n]) f_PW_210 d_PW_addTemplate_71 hf_subject.2.2 rfl ?_
            refine ab_aload_n d_PW_addTemplate_74 rfl ?_
            refine ab_getf (fs := [vR f_ready, vR f_tape, vR f_reader, vR f_programs, vR f_subject, vR f_spans, vR f_threads, vR f_marks, vR f_oneMind, vR f_states, vR f_latest, vR f_matches, vR f_pieces, vR f_template, vR f_result, vR f_spare, vz cmp, vz ovs]) f_PW_42 d_PW_addTemplate_75 hw_.2.2 rfl ?_
            refine ab_iload d_PW_addTemplate_78 rfl ?_
            refine zz_iald d_PW_addTemplate_80 hf_spans (by omega) ?_
            refine ab_aload_n d_PW_addTemplate_81 rfl ?_
            refine ab_getf (fs := [vR f_ready, vR f_tape, vR f_reader, vR f_programs, vR f_subject, vR f_spans, vR f_threads, vR f_marks, vR f_oneMind, vR f_states, vR f_latest, vR f_matches, vR f_pieces, vR f_template, vR f_result, vR f_spare, vz cmp, vz ovs]) f_PW_42 d_PW_addTemplate_82 hw_.2.2 rfl ?_
            refine ab_iload d_PW_addTemplate_85 rfl ?_
            refine zz_iconst d_PW_addTemplate_87 ?_
            refine zz_iadd d_PW_addTemplate_88 ?_
            refine zz_iald d_PW_addTemplate_89 hf_spans (by omega) ?_
            refine ab_callV (d' := d - 1) (as := [vR by_, vz (SP (2 * ((-1) - (F_p i_)))), vz (SP ((2 * ((-1) - (F_p i_))) + 1))]) (st := []) (r := _) (z2_RW_addAll (o := o) (r := f_spare) (b := it_s) (lr := ls_) (lb := (ls_ + 1)) (n := mr_s) (lim := 6000) (sz := sz_s) (f := F_s) (a := by_) (la := 27) (m := m) (q := f) (x := (SP (2 * ((-1) - (F_p i_))))) (y := (SP ((2 * ((-1) - (F_p i_))) + 1))) hf_spare hit_s hby_ (by omega) (by have h18 : ab_n0 = 18 := rfl; omega) (by omega) (by omega) (by omega) (by omega) (by omega)) (fun oc G2 h => by rcases h with ⟨h, _⟩ | ⟨_, _, _, _, h, _⟩ <;> exact ⟨_, h⟩) (by omega) m_RW_addAll ml_PW_105 im_RW_addAll se_RW_addAll c_RW hf_spare.2.2 (Nat.le_of_ble_eq_true rfl) d_PW_addTemplate_90 rfl ?_
            intro v G5 hq
            rcases hq with ⟨hv, hGe, hq6⟩ | ⟨o7, b28, n29, f210, hv, hfk, hNf_spare, hNb28, hNby_, hq11, hq12, hq13, hq14, hq15, hq16⟩
            · cases hv
              rw [hGe]
              change ab_W _ _ _ G 93 [some (vR w_), some (vz fits), some (vz i_), some (vz (F_p i_)), some (vz (2 * ((-1) - (F_p i_))))] [vz 0] _
              refine zz_if_eq (tgt := 100) d_PW_addTemplate_93 (by decide) (by decide) (fun c18 => ?_) (fun c18 => absurd c18 (by decide))
              refine zz_iconst d_PW_addTemplate_100 ?_
              refine ab_istore_n d_PW_addTemplate_101 (Nat.le_of_ble_eq_true rfl) (Nat.le_of_ble_eq_true rfl) rfl ?_
              change ab_W _ _ _ G 102 [some (vR w_), some (vz 0), some (vz i_), some (vz (F_p i_)), some (vz (2 * ((-1) - (F_p i_))))] [] _
              refine zz_iinc d_PW_addTemplate_102 rfl (Nat.le_of_ble_eq_true rfl) (Nat.le_of_ble_eq_true rfl) rfl ?_
              change ab_W _ _ _ G 105 [some (vR w_), some (vz 0), some (vz (i_ + 1)), some (vz (F_p i_)), some (vz (2 * ((-1) - (F_p i_))))] [] _
              refine ab_goto (tgt := 4) d_PW_addTemplate_105 (by decide) ?_
              refine ab_less (L' := [some (vR w_), some (vz 0), some (vz (i_ + 1)), none, none]) (fun i v h => by rcases i with _ | _ | _ | _ | _ | i <;> first | exact h | (simp at h)) ?_
              exact ih (it_s := it_s) (sz_s := sz_s) (mr_s := mr_s) (F_s := F_s) (fits := 0) (i_ := (i_ + 1)) hw_ hf_spans hf_subject hby_ hf_template hit_p hf_spare hit_s (by omega) (atI_s ja jrw cL9 (by omega) (fun Q hQ_ => at_o (x := -1 - F_p i_) (wcR_e hQ_ (by omega)) (by omega) (by omega) (by omega) rfl rfl hso_ (by omega))) (by omega) (by omega) (by omega) hfr (by omega) hk0
            · cases hv
              have hw_ := hfk.get hw_ (by simp only [List.mem_cons, List.not_mem_nil, or_false]; omega)
              have hf_spans := hfk.get hf_spans (by simp only [List.mem_cons, List.not_mem_nil, or_false]; omega)
              have hf_subject := hfk.get hf_subject (by simp only [List.mem_cons, List.not_mem_nil, or_false]; omega)
              have hf_template := hfk.get hf_template (by simp only [List.mem_cons, List.not_mem_nil, or_false]; omega)
              have hit_p := hfk.get hit_p (by simp only [List.mem_cons, List.not_mem_nil, or_false]; omega)
              have hfr := hfr.tr hfk (by simp)
              have hq17 := hfk.1
              have hf_spare := hNf_spare
              have hb28 := hNb28
              have hby_ := hNby_
              change ab_W _ _ _ G5 93 [some (vR w_), some (vz fits), some (vz i_), some (vz (F_p i_)), some (vz (2 * ((-1) - (F_p i_))))] [vz 1] _
              refine zz_if_eq (tgt := 100) d_PW_addTemplate_93 (by decide) (by decide) (fun c19 => absurd c19 (by decide)) (fun c19 => ?_)
              refine zz_iconst d_PW_addTemplate_96 ?_
              refine ab_goto (tgt := 101) d_PW_addTemplate_97 (by decide) ?_
              refine ab_istore_n d_PW_addTemplate_101 (Nat.le_of_ble_eq_true rfl) (Nat.le_of_ble_eq_true rfl) rfl ?_
              change ab_W _ _ _ G5 102 [some (vR w_), some (vz 1), some (vz i_), some (vz (F_p i_)), some (vz (2 * ((-1) - (F_p i_))))] [] _
              refine zz_iinc d_PW_addTemplate_102 rfl (Nat.le_of_ble_eq_true rfl) (Nat.le_of_ble_eq_true rfl) rfl ?_
              change ab_W _ _ _ G5 105 [some (vR w_), some (vz 1), some (vz (i_ + 1)), some (vz (F_p i_)), some (vz (2 * ((-1) - (F_p i_))))] [] _
              refine ab_goto (tgt := 4) d_PW_addTemplate_105 (by decide) ?_
              refine ab_less (L' := [some (vR w_), some (vz 1), some (vz (i_ + 1)), none, none]) (fun i v h => by rcases i with _ | _ | _ | _ | _ | i <;> first | exact h | (simp at h)) ?_
              exact ih (it_s := b28) (sz_s := (sz_s + ((SP ((2 * ((-1) - (F_p i_))) + 1)) - (SP (2 * ((-1) - (F_p i_))))))) (mr_s := n29) (F_s := f210) (fits := 1) (i_ := (i_ + 1)) hw_ hf_spans hf_subject hby_ hf_template hit_p hf_spare hb28 (by omega) (atI_s ja jrw cL9 (by omega) (fun Q hQ_ => at_a (x := -1 - F_p i_) (wcR_e hQ_ (by omega)) (by omega) (by omega) (by omega) rfl rfl hso_ (by omega) (by omega) hq15 hq16)) (by omega) (by omega) (by omega) hfr (by omega) hk0
        · refine ab_aload_n d_PW_addTemplate_33 rfl ?_
          refine ab_getf (fs := [vR f_ready, vR f_tape, vR f_reader, vR f_programs, vR f_subject, vR f_spans, vR f_threads, vR f_marks, vR f_oneMind, vR f_states, vR f_latest, vR f_matches, vR f_pieces, vR f_template, vR f_result, vR f_spare, vz cmp, vz ovs]) f_PW_88 d_PW_addTemplate_34 hw_.2.2 rfl ?_
          refine ab_iload_n d_PW_addTemplate_37 rfl ?_
          refine ab_callV (d' := d - 1) (as := [vz (F_p i_)]) (st := []) (r := _) (z_RW_add (o := o) (r := f_spare) (b := it_s) (lr := ls_) (lb := (ls_ + 1)) (n := mr_s) (lim := 6000) (sz := sz_s) (f := F_s) (x := (F_p i_)) hf_spare hit_s (by omega) (by have h18 : ab_n0 = 18 := rfl; omega) (by omega) (by omega) (by omega)) (fun oc G2 h => by rcases h with ⟨h, _⟩ | ⟨_, _, _, _, h, _⟩ <;> exact ⟨_, h⟩) (by omega) m_RW_add ml_PW_197 im_RW_add se_RW_add c_RW hf_spare.2.2 (Nat.le_of_ble_eq_true rfl) d_PW_addTemplate_38 rfl ?_
          intro v G20 hq
          rcases hq with ⟨hv, hGe, hq21⟩ | ⟨o22, b223, n224, f225, hv, hfk, hNf_spare, hNb223, hq26, hq27, hq28, hq29, hq30, hq31⟩
          · cases hv
            rw [hGe]
            change ab_W _ _ _ G 41 [some (vR w_), some (vz fits), some (vz i_), some (vz (F_p i_)), none] [vz 0] _
            refine ab_istore_n d_PW_addTemplate_41 (Nat.le_of_ble_eq_true rfl) (Nat.le_of_ble_eq_true rfl) rfl ?_
            change ab_W _ _ _ G 42 [some (vR w_), some (vz 0), some (vz i_), some (vz (F_p i_)), none] [] _
            refine ab_goto (tgt := 102) d_PW_addTemplate_42 (by decide) ?_
            refine zz_iinc d_PW_addTemplate_102 rfl (Nat.le_of_ble_eq_true rfl) (Nat.le_of_ble_eq_true rfl) rfl ?_
            change ab_W _ _ _ G 105 [some (vR w_), some (vz 0), some (vz (i_ + 1)), some (vz (F_p i_)), none] [] _
            refine ab_goto (tgt := 4) d_PW_addTemplate_105 (by decide) ?_
            refine ab_less (L' := [some (vR w_), some (vz 0), some (vz (i_ + 1)), none, none]) (fun i v h => by rcases i with _ | _ | _ | _ | _ | i <;> first | exact h | (simp at h)) ?_
            exact ih (it_s := it_s) (sz_s := sz_s) (mr_s := mr_s) (F_s := F_s) (fits := 0) (i_ := (i_ + 1)) hw_ hf_spans hf_subject hby_ hf_template hit_p hf_spare hit_s (by omega) (atI_s ja jrw cL9 (by omega) (fun Q hQ_ => at_f (wcR_e hQ_ (by omega)) (by omega) (by omega))) (by omega) (by omega) (by omega) hfr (by omega) hk0
          · cases hv
            have hw_ := hfk.get hw_ (by simp only [List.mem_cons, List.not_mem_nil, or_false]; omega)
            have hf_spans := hfk.get hf_spans (by simp only [List.mem_cons, List.not_mem_nil, or_false]; omega)
            have hf_subject := hfk.get hf_subject (by simp only [List.mem_cons, List.not_mem_nil, or_false]; omega)
            have hby_ := hfk.get hby_ (by simp only [List.mem_cons, List.not_mem_nil, or_false]; omega)
            have hf_template := hfk.get hf_template (by simp only [List.mem_cons, List.not_mem_nil, or_false]; omega)
            have hit_p := hfk.get hit_p (by simp only [List.mem_cons, List.not_mem_nil, or_false]; omega)
            have hfr := hfr.tr hfk (by simp)
            have hq32 := hfk.1
            have hf_spare := hNf_spare
            have hb223 := hNb223
            change ab_W _ _ _ G20 41 [some (vR w_), some (vz fits), some (vz i_), some (vz (F_p i_)), none] [vz 1] _
            refine ab_istore_n d_PW_addTemplate_41 (Nat.le_of_ble_eq_true rfl) (Nat.le_of_ble_eq_true rfl) rfl ?_
            change ab_W _ _ _ G20 42 [some (vR w_), some (vz 1), some (vz i_), some (vz (F_p i_)), none] [] _
            refine ab_goto (tgt := 102) d_PW_addTemplate_42 (by decide) ?_
            refine zz_iinc d_PW_addTemplate_102 rfl (Nat.le_of_ble_eq_true rfl) (Nat.le_of_ble_eq_true rfl) rfl ?_
            change ab_W _ _ _ G20 105 [some (vR w_), some (vz 1), some (vz (i_ + 1)), some (vz (F_p i_)), none] [] _
            refine ab_goto (tgt := 4) d_PW_addTemplate_105 (by decide) ?_
            refine ab_less (L' := [some (vR w_), some (vz 1), some (vz (i_ + 1)), none, none]) (fun i v h => by rcases i with _ | _ | _ | _ | _ | i <;> first | exact h | (simp at h)) ?_
            exact ih (it_s := b223) (sz_s := (sz_s + 1)) (mr_s := n224) (F_s := f225) (fits := 1) (i_ := (i_ + 1)) hw_ hf_spans hf_subject hby_ hf_template hit_p hf_spare hb223 (by omega) (atI_s ja jrw cL9 (by omega) (fun Q hQ_ => at_b (wcR_e hQ_ (by omega)) (by omega) (by omega) (by omega) hq30 hq31)) (by omega) (by omega) (by omega) hfr (by omega) hk0
set_option maxRecDepth 100000 in
set_option maxHeartbeats 4000000 in
theorem z_PW_addTemplate {X : ab_X} {d : Nat} {o : Nat → Nat} {G : ab_G} {w_ : Nat} {f_ready : Nat} {f_tape : Nat} {f_reader : Nat} {f_programs : Nat} {f_subject : Nat} {f_spans : Nat} {f_threads : Nat} {f_marks : Nat} {f_oneMind : Nat} {f_states : Nat} {f_latest : Nat} {f_matches : Nat} {f_pieces : Nat} {f_template : Nat} {f_result : Nat} {f_spare : Nat} {cmp : Int} {ovs : Int} {it_p : Nat} {sz_p : Int} {mr_p : Nat} {F_p : Int → Int} {it_s : Nat} {sz_s : Int} {mr_s : Nat} {F_s : Int → Int} {ls_ : Nat} {gr : Int} {by_ : Nat} {co : Nat} {re : Nat} {ho : Nat} {mc : Nat} {n : Int} {m : Nat} {SP : Int → Int} {f : Int → Int} {O9 : List Int} {L9 : List Int} (hw_ : cc o G w_ 18 (ab_ob 0 [vR f_ready, vR f_tape, vR f_reader, vR f_programs, vR f_subject, vR f_spans, vR f_threads, vR f_marks, vR f_oneMind, vR f_states, vR f_latest, vR f_matches, vR f_pieces, vR f_template, vR f_result, vR f_spare, vz cmp, vz ovs])) (hf_spans : cc o G f_spans 31 (za 20 SP)) (hf_subject : cc o G f_subject 26 (ab_ob 9 [vR by_, vR co, vR re, vR ho, vz n])) (hby_ : cc o G by_ 27 (za m f)) (hf_template : cc o G f_template 75 (ab_ob 7 [vz 2000, vR it_p, vz sz_p])) (hit_p : cc o G it_p 76 (za mr_p F_p)) (hf_spare : cc o G f_spare ls_ (ab_ob 7 [vz 6000, vR it_s, vz sz_s])) (hit_s : cc o G it_s (ls_ + 1) (za mr_s F_s)) (n18 : ab_n0 = 18) (csu : 0 ≤ n ∧ n ≤ ↑m ∧ 32 ≤ m ∧ m ≤ 2000 ∧ mc = m + 1) (cgr : 0 ≤ gr ∧ gr ≤ 9) (cls : 77 ≤ ls_ ∧ ls_ ≤ 79) (crw_p : 0 ≤ sz_p ∧ sz_p ≤ ↑mr_p ∧ ↑mr_p ≤ (2000 : Int) ∧ 32 ≤ mr_p) (jt : rgs F_p sz_p (-1 - gr) 255) (jsw : rgs SP (2 * (gr + 1)) (-1) n) (jrw : rwL F_p 0 L9) (cL9 : sz_p = (L9.length : Int)) (jso : spO SP gr) (jw : wcR F_s sz_s 1 O9) (crw_s : 0 ≤ sz_s ∧ sz_s ≤ ↑mr_s ∧ ↑mr_s ≤ (6000 : Int) ∧ 32 ≤ mr_s) (rc : G.length + 6001 ≤ ab_n0 + room_1.cells) (rs : ab_slots G + 24000 ≤ room_1.slots + zT mr_s 6000) (hd : 7 ≤ d) : ab_F X d y_PW_addTemplate (.code y_PW_addTemplate b_PW_addTemplate 5 (some (.boolean))) [vR w_] G (fun oc G2 => ∃ o2 : Nat → Nat, ∃ f2 : Int, ∃ it2 : Nat, ∃ sz2 : Int, ∃ mr2 : Nat, ∃ F2 : Int → Int, oc = .returned (some (vz f2)) ∧ fx o o2 [ls_, (ls_ + 1)] G G2 ∧ cc o2 G2 f_spare ls_ (ab_ob 7 [vz 6000, vR it2, vz sz2]) ∧ cc o2 G2 it2 (ls_ + 1) (za mr2 F2) ∧ (0 ≤ f2 ∧ f2 ≤ 1) ∧ (wcR F2 sz2 f2 (O9 ++ exS f SP L9)) ∧ (0 ≤ sz2 ∧ sz2 ≤ ↑mr2 ∧ ↑mr2 ≤ (6000 : Int) ∧ 32 ≤ mr2) ∧ (G2.length + mr_s ≤ G.length + mr2) ∧ (ab_slots G2 + zT mr_s 6000 ≤ ab_slots G + zT mr2 6000)) := by
  refine ab_F_of (by decide +kernel) (Nat.le_of_ble_eq_true rfl) ?_
  obtain ⟨Q, hQ⟩ : ∃ z : Outcome → ab_G → Prop, z = (fun oc G2 => ∃ o2 : Nat → Nat, ∃ f2 : Int, ∃ it2 : Nat, ∃ sz2 : Int, ∃ mr2 : Nat, ∃ F2 : Int → Int, oc = .returned (some (vz f2)) ∧ fx o o2 [ls_, (ls_ + 1)] G G2 ∧ cc o2 G2 f_spare ls_ (ab_ob 7 [vz 6000, vR it2, vz sz2]) ∧ cc o2 G2 it2 (ls_ + 1) (za mr2 F2) ∧ (0 ≤ f2 ∧ f2 ≤ 1) ∧ (wcR F2 sz2 f2 (O9 ++ exS f SP L9)) ∧ (0 ≤ sz2 ∧ sz2 ≤ ↑mr2 ∧ ↑mr2 ≤ (6000 : Int) ∧ 32 ≤ mr2) ∧ (G2.length + mr_s ≤ G.length + mr2) ∧ (ab_slots G2 + zT mr_s 6000 ≤ ab_slots G + zT mr2 6000)) := ⟨_, rfl⟩
  rw [← hQ]
  change ab_W X (ab_pl y_PW_addTemplate b_PW_addTemplate 5 (some (.boolean))) d G 0 [some (vR w_), none, none, none, none] [] Q
  have hfr : fx o o [ls_, (ls_ + 1)] G G := fx.rf
  refine zz_iconst d_PW_addTemplate_0 ?_
  refine ab_istore_n d_PW_addTemplate_1 (Nat.le_of_ble_eq_true rfl) (Nat.le_of_ble_eq_true rfl) rfl ?_
  change ab_W _ _ _ G 2 [some (vR w_), some (vz 1), none, none, none] [] _
  refine zz_iconst d_PW_addTemplate_2 ?_
  refine ab_istore_n d_PW_addTemplate_3 (Nat.le_of_ble_eq_true rfl) (Nat.le_of_ble_eq_true rfl) rfl ?_
  change ab_W _ _ _ G 4 [some (vR w_), some (vz 1), some (vz 0), none, none] [] _
  refine y_PW_addTemplate_4 (w_ := w_) (f_ready := f_ready) (f_tape := f_tape) (f_reader := f_reader) (f_programs := f_programs) (f_subject := f_subject) (f_spans := f_spans) (f_threads := f_threads) (f_marks := f_marks) (f_oneMind := f_oneMind) (f_states := f_states) (f_latest := f_latest) (f_matches := f_matches) (f_pieces := f_pieces) (f_template := f_template) (f_result := f_result) (f_spare := f_spare) (cmp := cmp) (ovs := ovs) (it_p := it_p) (sz_p := sz_p) (mr_p := mr_p) (F_p := F_p) (ls_ := ls_) (by_ := by_) (co := co) (re := re) (ho := ho) (n := n) (m := m) (SP := SP) (f := f) (O9 := O9) (L9 := L9) (mr0 := mr_s) (G0 := G) (it_s := it_s) (sz_s := sz_s) (mr_s := mr_s) (F_s := F_s) (fits := 1) (i_ := 0) (by omega) (by omega) (by omega) (by omega) (by omega) jt jsw jrw (by omega) jso (by omega) (by omega) (by omega) (Int.toNat (sz_p - 0) + 1) hw_ hf_spans hf_subject hby_ hf_template hit_p hf_spare hit_s (by omega) (atI_0 jw) (by omega) (by omega) (by omega) fx.rf (by omega) (fun G1 o2 f23 it24 sz25 mr26 F27 hNf_spare hNit24 hq8 hq9 hq10 hq11 hq12 hfk => ?_)
  · have hw_ := hfk.get hw_ (by simp only [List.mem_cons, List.not_mem_nil, or_false]; omega)
    have hf_spans := hfk.get hf_spans (by simp only [List.mem_cons, List.not_mem_nil, or_false]; omega)
    have hf_subject := hfk.get hf_subject (by simp only [List.mem_cons, List.not_mem_nil, or_false]; omega)
    have hby_ := hfk.get hby_ (by simp only [List.mem_cons, List.not_mem_nil, or_false]; omega)
    have hf_template := hfk.get hf_template (by simp only [List.mem_cons, List.not_mem_nil, or_false]; omega)
    have hit_p := hfk.get hit_p (by simp only [List.mem_cons, List.not_mem_nil, or_false]; omega)
    have hfr := hfr.tr hfk (by simp)
    have hq13 := hfk.1
    have hf_spare := hNf_spare
    have hit24 := hNit24
    change ab_W _ _ _ G1 108 [none, some (vz f23), none, none, none] [] _
    refine ab_iload_n d_PW_addTemplate_108 rfl ?_
    refine zz_bret rfl (by omega) d_PW_addTemplate_109 ?_
    rw [hQ]; exact ⟨_, _, _, _, _, _, rfl, hfr, hf_spare, hit24, (by omega), (by exact hq9), (by omega), (by omega), (by omega)⟩
set_option maxRecDepth 100000 in
set_option maxHeartbeats 4000000 in
theorem y_PW_replace_84 {X : ab_X} {d : Nat} {Q : Outcome → ab_G → Prop} {o0 : Nat → Nat} {G0 : ab_G} {w_ : Nat} {f_ready : Nat} {f_tape : Nat} {f_reader : Nat} {f_programs : Nat} {f_subject : Nat} {f_spans : Nat} {f_threads : Nat} {f_marks : Nat} {f_oneMind : Nat} {f_states : Nat} {f_latest : Nat} {f_matches : Nat} {f_pieces : Nat} {f_template : Nat} {f_result : Nat} {f_spare : Nat} {cmp : Int} {ovs : Int} {q : Nat} {lq : Nat} {ki : Nat} {ne : Nat} {ot : Nat} {cnt : Int} {fi : Int} {la : Int} {ra : Nat} {ru : Int} {gr : Int} {wi : Int} {sz : Int} {fl : Int} {ve : Int} {mi : Int} {K : Int → Int} {N : Int → Int} {O : Int → Int} {RR : Int → Int} {nr : Nat} {na : Nat} {nl : Nat} {nm : Nat} {n : Int} {m : Nat} {f : Int → Int} {by_ : Nat} {co : Nat} {re : Nat} {ho : Nat} {C : Int → Int} {Rs : Int → Int} {H : Int → Int} {mc : Nat} {it_p : Nat} {sz_p : Int} {mr_p : Nat} {F_p : Int → Int} {L9 : List Int} {ls_ : Nat} {ns0 : Nat} {mr0 : Nat} {fy : Int} {hw : Int} {v9 : Sn} {st0 : Int} {un0 : Int} (n18 : ab_n0 = 18) (cq : 100 ≤ lq ∧ 2 ≤ cnt ∧ cnt ≤ 808 ∧ ↑nr ≤ (100000 : Int)) (hp : prok K N O RR cnt ↑nr wi) (hr : ∀ k : Int, 0 ≤ k → k < ↑nr → 0 ≤ RR k ∧ RR k ≤ 1114111) (cfi : 0 ≤ fi ∧ fi < cnt) (cwi : 2 ≤ wi ∧ wi ≤ 20) (csu : 0 ≤ n ∧ n ≤ ↑m ∧ 32 ≤ m ∧ m ≤ 2000 ∧ mc = m + 1) (hsu : suok f C Rs H n) (jpm : prM K N O RR fi v9) (chw0 : hw = 0) (cgr : 0 ≤ gr ∧ gr ≤ 9) (cwg : wi = 2 * (gr + 1)) (cls : 77 ≤ ls_ ∧ ls_ ≤ 79) (crw_p : 0 ≤ sz_p ∧ sz_p ≤ ↑mr_p ∧ ↑mr_p ≤ (2000 : Int) ∧ 32 ≤ mr_p) (jt : rgs F_p sz_p (-1 - gr) 255) (jrw : rwL F_p 0 L9) (cL9 : sz_p = (L9.length : Int)) (jlb : lsB L9 wi) (jok : okN v9) (rc : G0.length + 13000 ≤ ab_n0 + room_1.cells) (rs : ab_slots G0 + 1965000 ≤ room_1.slots + stT ns0 + zT mr0 6000) (hd : 11 ≤ d) : ∀ (mz : Nat) {G : ab_G} {o : Nat → Nat} {ns : Nat} {SP : Int → Int} {it_s : Nat} {sz_s : Int} {mr_s : Nat} {F_s : Int → Int} {bf : Int} {ct_ : Int} {fits : Int} {tu : Int} {dd : Int} {stm : Int} {un : Int}, (cc o G w_ 18 (ab_ob 0 [vR f_ready, vR f_tape, vR f_reader, vR f_programs, vR f_subject, vR f_spans, vR f_threads, vR f_marks, vR f_oneMind, vR f_states, vR f_latest, vR f_matches, vR f_pieces, vR f_template, vR f_result, vR f_spare, vz cmp, vz ovs])) → (cc o G f_spans 31 (za 20 SP)) → (cc o G q lq (ab_ob 5 [vR ki, vR ne, vR ot, vz cnt, vz fi, vz la, vR ra, vz ru, vz gr, vz wi, vz sz, vz fl, vz ve, vz mi, vR na, vR nl])) → (cc o G ki (lq + 1) (za 808 K)) → (cc o G ne (lq + 2) (za 808 N)) → (cc o G ot (lq + 3) (za 808 O)) → (cc o G ra (lq + 4) (za nr RR)) → (cc o G f_subject 26 (ab_ob 9 [vR by_, vR co, vR re, vR ho, vz n])) → (cc o G co 28 (za mc C)) → (cc o G re 29 (za mc Rs)) → (cc o G ho 30 (za mc H)) → (cc o G by_ 27 (za m f)) → (cc o G f_template 75 (ab_ob 7 [vz 2000, vR it_p, vz sz_p])) → (cc o G it_p 76 (za mr_p F_p)) → (cc o G f_spare ls_ (ab_ob 7 [vz 6000, vR it_s, vz sz_s])) → (cc o G it_s (ls_ + 1) (za mr_s F_s)) → (mkB o G f_marks q f_subject f_spans nm ns cnt n stm un K N O RR f dd fy hw) → (0 ≤ tu ∧ tu ≤ n + 1 ∧ -1 ≤ bf ∧ bf ≤ n ∧ 0 ≤ ct_ ∧ ct_ ≤ tu ∧ 0 ≤ fits ∧ fits ≤ 1 ∧ tu ≤ bf + 1) → (rcI v9 f n fy L9 bf F_s sz_s fits) → (rgs SP 20 (-1) 2000) → (0 ≤ sz_s ∧ sz_s ≤ ↑mr_s ∧ ↑mr_s ≤ (6000 : Int) ∧ 32 ≤ mr_s) → (G.length + stC ns0 + mr0 ≤ G0.length + stC ns + mr_s) → (ab_slots G + stT ns0 + zT mr0 6000 ≤ ab_slots G0 + stT ns + zT mr_s 6000) → (st0 ≤ stm ∧ stm + 2 * un ≤ st0 + 2 * un0 + 7340 * tu) → (ct_ = tu) → (mxA dd bf) → (fx o0 o [31, 44, 45, 46, 47, ls_, (ls_ + 1)] G0 G) → (Int.toNat (n + 1 - tu) < mz) → (∀ (G2 : ab_G) (o2 : Nat → Nat) (bf2 : Int) (ct2 : Int) (fits2 : Int) (ns2 : Nat) (SP2 : Int → Int) (it2 : Nat) (sz2 : Int) (mr2 : Nat) (F2 : Int → Int) (dd2 : Int) (sm2 : Int) (un2 : Int), (cc o2 G2 f_spans 31 (za 20 SP2)) → (cc o2 G2 f_spare ls_ (ab_ob 7 [vz 6000, vR it2, vz sz2])) → (cc o2 G2 it2 (ls_ + 1) (za mr2 F2)) → (mkB o2 G2 f_marks q f_subject f_spans nm ns2 cnt n sm2 un2 K N O RR f dd2 fy hw) → (rcE v9 f n fy L9 bf2 F2 sz2 fits2) → (st0 ≤ sm2 ∧ sm2 + 2 * un2 ≤ st0 + 2 * un0 + 7340 + 7340 * ct2) → (rgs SP2 20 (-1) 2000) → (-1 ≤ bf2 ∧ bf2 ≤ n ∧ 0 ≤ ct2 ∧ ct2 ≤ 2001 ∧ 0 ≤ fits2 ∧ fits2 ≤ 1) → (0 ≤ sz2 ∧ sz2 ≤ ↑mr2 ∧ ↑mr2 ≤ (6000 : Int) ∧ 32 ≤ mr2) → (G2.length + stC ns0 + mr0 ≤ G0.length + stC ns2 + mr2) → (ab_slots G2 + stT ns0 + zT mr0 6000 ≤ ab_slots G0 + stT ns2 + zT mr2 6000) → (fx o0 o2 [31, 44, 45, 46, 47, ls_, (ls_ + 1)] G0 G2) → ab_W X (ab_pl y_PW_replace b_PW_replace 8 (some (.int))) d G2 170 [some (vR w_), none, some (vR q), none, some (vz bf2), some (vz ct2), some (vz fits2), none] [] Q) → ab_W X (ab_pl y_PW_replace b_PW_replace 8 (some (.int))) d G 84 [some (vR w_), none, some (vR q), none, some (vz bf), some (vz ct_), some (vz fits), some (vz tu)] [] Q := by
  intro mz
  induction mz with
  | zero => intro G o ns SP it_s sz_s mr_s F_s bf ct_ fits tu dd stm un hw_ hf_spans hq hki hne hot hra hf_subject hco hre hho hby_ hf_template hit_p hf_spare hit_s pmkB_f_marks ci jr jsp crw_s hg hs hst9 cnt9 cmx hfr hm hk0; exact absurd hm (Nat.not_lt_zero _)
  | succ mz ih =>
    intro G o ns SP it_s sz_s mr_s F_s bf ct_ fits tu dd stm un hw_ hf_spans hq hki hne hot hra hf_subject hco hre hho hby_ hf_template hit_p hf_spare hit_s pmkB_f_marks ci jr jsp crw_s hg hs hst9 cnt9 cmx hfr hm hk0
    have hq1 := stT_le ns
    have hq2 := stC_le ns
    have hza_ : zT mr_s 6000 ≤ 18000 := zT_le (c := 6000) (by omega) rfl
    have jr0_ := jr
    obtain ⟨kk_, O_, hr_, hwc_⟩ := jr0_
    refine ab_iload d_PW_replace_84 rfl ?_
    refine ab_aload_n d_PW_replace_86 rfl ?_
    refine ab_getf (fs := [vR f_ready, vR f_tape, vR f_reader, vR f_programs, vR f_subject, vR f_spans, vR f_threads, vR f_marks, vR f_oneMind, vR f_states, vR f_latest, vR f_matches, vR f_pieces, vR f_template, vR f_result, vR f_spare, vz cmp, vz ovs]) f_PW_38 d_PW_replace_87 hw_.2.2 rfl ?_
    refine ab_getf (fs := [vR by_, vR co, vR re, vR ho, vz n]) f_PW_164 d_PW_replace_90 hf_subject.2.2 rfl ?_
    refine zz_icmp_gt (tgt := 170) d_PW_replace_93 (by decide) (by omega) (by omega) (fun c3 => ?_) (fun c3 => ?_)
    · refine ab_less (L' := [some (vR w_), none, some (vR q), none, some (vz bf), some (vz ct_), some (vz fits), none]) (fun i v h => by rcases i with _ | _ | _ | _ | _ | _ | _ | _ | i <;> first | exact h | (simp at h)) ?_
      exact hk0 _ _ _ _ _ _ _ _ _ _ _ _ _ _ hf_spans hf_spare hit_s pmkB_f_marks (by exact rcE_e jr hsu.1 (by omega) (by omega)) (by omega) (by exact jsp) (by omega) (by omega) (by omega) (by omega) hfr
    · refine ab_iload d_PW_replace_96 rfl ?_
      refine zz_if_eq (tgt := 170) d_PW_replace_98 (by decide) (by omega) (fun c4 => ?_) (fun c4 => ?_)
      · refine ab_less (L' := [some (vR w_), none, some (vR q), none, some (vz bf), some (vz ct_), some (vz fits), none]) (fun i v h => by rcases i with _ | _ | _ | _ | _ | _ | _ | _ | i <;> first | exact h | (simp at h)) ?_
        exact hk0 _ _ _ _ _ _ _ _ _ _ _ _ _ _ hf_spans hf_spare hit_s pmkB_f_marks (by exact rcE_o jr (by omega)) (by omega) (by exact jsp) (by omega) (by omega) (by omega) (by omega) hfr
      · refine ab_aload_n d_PW_replace_101 rfl ?_
        refine ab_iload d_PW_replace_102 rfl ?_
        refine ab_callV (d' := d - 1) (as := [vz bf]) (st := []) (r := _) (z_PW_hunt (o := o) (w_ := w_) (f_ready := f_ready) (f_tape := f_tape) (f_reader := f_reader) (f_programs := f_programs) (f_subject := f_subject) (f_spans := f_spans) (f_threads := f_threads) (f_marks := f_marks) (f_oneMind := f_oneMind) (f_states := f_states) (f_latest := f_latest) (f_matches := f_matches) (f_pieces := f_pieces) (f_template := f_template) (f_result := f_result) (f_spare := f_spare) (cmp := cmp) (ovs := ovs) (q := q) (lq := lq) (ki := ki) (ne := ne) (ot := ot) (cnt := cnt) (fi := fi) (la := la) (ra := ra) (ru := ru) (gr := gr) (wi := wi) (sz := sz) (fl := fl) (ve := ve) (mi := mi) (K := K) (N := N) (O := O) (RR := RR) (nr := nr) (na := na) (nl := nl) (nm := nm) (ns := ns) (n := n) (SP := SP) (f := f) (by_ := by_) (co := co) (re := re) (ho := ho) (C := C) (Rs := Rs) (H := H) (mc := mc) (bf := bf) (dd := dd) (fy := fy) (hw := hw) (v9 := v9) (stm := stm) (un := un) hw_ hf_spans hq hki hne hot hra hf_subject hco hre hho pmkB_f_marks (by omega) (by omega) hp hr (by omega) (by omega) (by omega) hsu jsp (by omega) (by omega) (by omega) jpm (by omega) cmx (by omega)) (fun oc G2 h => by rcases h with ⟨_, _, _, _, _, _, h, _⟩ | ⟨_, _, _, _, _, _, h, _⟩ <;> exact ⟨_, h⟩) (by omega) m_PW_hunt ml_PW_193 im_PW_hunt se_PW_hunt c_PW hw_.2.2 (Nat.le_of_ble_eq_true rfl) d_PW_replace_104 rfl ?_
        intro v G5 hq
        rcases hq with ⟨o6, ns27, SP28, dd29, sm210, un211, hv, hfk, hNf_spans, pNmkB_f_marks, hq12, hq13, hq14, hq15, hq16⟩ | ⟨o17, ns218, SP219, dd220, sm221, un222, hv, hfk, hNf_spans, pNmkB_f_marks, hq23, hq24, hq25, hq26, hq27, hq28, hq29, hq30⟩
        · cases hv
          have hw_ := hfk.get hw_ (by decide)
          have hq := hfk.get hq (by simp only [List.mem_cons, List.not_mem_nil, or_false]; omega)
          have hki := hfk.get hki (by simp only [List.mem_cons, List.not_mem_nil, or_false]; omega)
          have hne := hfk.get hne (by simp only [List.mem_cons, List.not_mem_nil, or_false]; omega)
          have hot := hfk.get hot (by simp only [List.mem_cons, List.not_mem_nil, or_false]; omega)
          have hra := hfk.get hra (by simp only [List.mem_cons, List.not_mem_nil, or_false]; omega)
          have hf_subject := hfk.get hf_subject (by decide)
          have hco := hfk.get hco (by decide)
          have hre := hfk.get hre (by decide)
          have hho := hfk.get hho (by decide)
          have hby_ := hfk.get hby_ (by decide)
          have hf_template := hfk.get hf_template (by decide)
          have hit_p := hfk.get hit_p (by decide)
          have hf_spare := hfk.get hf_spare (by simp only [List.mem_cons, List.not_mem_nil, or_false]; omega)
          have hit_s := hfk.get hit_s (by simp only [List.mem_cons, List.not_mem_nil, or_false]; omega)
          have pmkB_f_marks := pNmkB_f_marks
          have hfr := hfr.tr hfk (by simp)
          have hq31 := hfk.1
          have hf_spans := hNf_spans
          change ab_W _ _ _ G5 107 [some (vR w_), none, some (vR q), none, some (vz bf), some (vz ct_), some (vz fits), some (vz tu)] [vz 0] _
          refine zz_if_eq (tgt := 170) d_PW_replace_107 (by decide) (by decide) (fun c33 => ?_) (fun c33 => absurd c33 (by decide))
          refine ab_less (L' := [some (vR w_), none, some (vR q), none, some (vz bf), some (vz ct_), some (vz fits), none]) (fun i v h => by rcases i with _ | _ | _ | _ | _ | _ | _ | _ | i <;> first | exact h | (simp at h)) ?_
          exact hk0 _ _ _ _ _ _ _ _ _ _ _ _ _ _ hf_spans hf_spare hit_s pmkB_f_marks (by exact rcE_n jr hq16) (by omega) (by exact hq13) (by omega) (by omega) (by omega) (by omega) hfr
        · cases hv
          have hw_ := hfk.get hw_ (by decide)
          have hq := hfk.get hq (by simp only [List.mem_cons, List.not_mem_nil, or_false]; omega)
          have hki := hfk.get hki (by simp only [List.mem_cons, List.not_mem_nil, or_false]; omega)
          have hne := hfk.get hne (by simp only [List.mem_cons, List.not_mem_nil, or_false]; omega)
          have hot := hfk.get hot (by simp only [List.mem_cons, List.not_mem_nil, or_false]; omega)
          have hra := hfk.get hra (by simp only [List.mem_cons, List.not_mem_nil, or_false]; omega)
          have hf_subject := hfk.get hf_subject (by decide)
          have hco := hfk.get hco (by decide)
          have hre := hfk.get hre (by decide)
          have hho := hfk.get hho (by decide)
          have hby_ := hfk.get hby_ (by decide)
          have hf_template := hfk.get hf_template (by decide)
          have hit_p := hfk.get hit_p (by decide)
          have hf_spare := hfk.get hf_spare (by simp only [List.mem_cons, List.not_mem_nil, or_false]; omega)
          have hit_s := hfk.get hit_s (by simp only [List.mem_cons, List.not_mem_nil, or_false]; omega)
          have pmkB_f_marks := pNmkB_f_marks
          have hfr := hfr.tr hfk (by simp)
          have hq32 := hfk.1
          have hf_spans := hNf_spans
          change ab_W _ _ _ G5 107 [some (vR w_), none, some (vR q), none, some (vz bf), some (vz ct_), some (vz fits), some (vz tu)] [vz 1] _
          refine zz_if_eq (tgt := 170) d_PW_replace_107 (by decide) (by decide) (fun c34 => absurd c34 (by decide)) (fun c34 => ?_)
          have hs0_ := hq27 0 (by omega) (by omega)
          have hs1_ := hq27 1 (by omega) (by omega)
          have hsw_ : rgs SP219 (2 * (gr + 1)) (-1) n := by rw [show 2 * (gr + 1) = wi by omega]; exact hq27
          have hq35 := stT_le ns218
          have hq36 := stC_le ns218
          have hlt_ := nxC.lt hq30 hsu.1 (by omega)
          have hge_ := nxC.ge0 hq30 hsu.1 (by omega)
          have hso_ := spO_of hq30 jok hsu.1 (by omega) cwg
          refine ab_aload_n d_PW_replace_110 rfl ?_
          refine ab_getf (fs := [vR f_ready, vR f_tape, vR f_reader, vR f_programs, vR f_subject, vR f_spans, vR f_threads, vR f_marks, vR f_oneMind, vR f_states, vR f_latest, vR f_matches, vR f_pieces, vR f_template, vR f_result, vR f_spare, vz cmp, vz ovs]) f_PW_88 d_PW_replace_111 hw_.2.2 rfl ?_
          refine ab_aload_n d_PW_replace_114 rfl ?_
          refine ab_getf (fs := [vR f_ready, vR f_tape, vR f_reader, vR f_programs, vR f_subject, vR f_spans, vR f_threads, vR f_marks, vR f_oneMind, vR f_states, vR f_latest, vR f_matches, vR f_pieces, vR f_template, vR f_result, vR f_spare, vz cmp, vz ovs]) f_PW_38 d_PW_replace_115 hw_.2.2 rfl ?_
          refine ab_getf (fs := [vR by_, vR co, vR re, vR ho, vz n]) f_PW_210 d_PW_replace_118 hf_subject.2.2 rfl ?_
          refine ab_iload d_PW_replace_121 rfl ?_
          refine zz_iconst d_PW_replace_123 ?_
          refine zz_mmax2 mj_PW_213 d_PW_replace_124 (by omega) (by decide) (Nat.le_of_ble_eq_true rfl) (by omega) (fun c37 => ?_) (fun c37 => ?_)
          · refine ab_aload_n d_PW_replace_127 rfl ?_
            refine ab_getf (fs := [vR f_ready, vR f_tape, vR f_reader, vR f_programs, vR f_subject, vR f_spans, vR f_threads, vR f_marks, vR f_oneMind, vR f_states, vR f_latest, vR f_matches, vR f_pieces, vR f_template, vR f_result, vR f_spare, vz cmp, vz ovs]) f_PW_42 d_PW_replace_128 hw_.2.2 rfl ?_
            refine zz_iconst d_PW_replace_131 ?_
            refine zz_iald d_PW_replace_132 hf_spans (by omega) ?_
            have hla_ : mxA 0 bf := by unfold mxA; omega
            refine ab_callV (d' := d - 1) (as := [vR by_, vz 0, vz (SP219 0)]) (st := []) (r := _) (z2_RW_addAll (o := o17) (r := f_spare) (b := it_s) (lr := ls_) (lb := (ls_ + 1)) (n := mr_s) (lim := 6000) (sz := sz_s) (f := F_s) (a := by_) (la := 27) (m := m) (q := f) (x := 0) (y := (SP219 0)) hf_spare hit_s hby_ (by omega) (by have h18 : ab_n0 = 18 := rfl; omega) (by omega) (by omega) (by omega) (by omega) (by omega)) (fun oc G2 h => by rcases h with ⟨h, _⟩ | ⟨_, _, _, _, h, _⟩ <;> exact ⟨_, h⟩) (by omega) m_RW_addAll ml_PW_105 im_RW_addAll se_RW_addAll c_RW hf_spare.2.2 (Nat.le_of_ble_eq_true rfl) d_PW_replace_133 rfl ?_
            intro v G38 hq
            rcases hq with ⟨hv, hGe, hq39⟩ | ⟨o40, b241, n242, f243, hv, hfk, hNf_spare, hNb241, hNby_, hq44, hq45, hq46, hq47, hq48, hq49⟩
            · cases hv
              rw [hGe]
              change ab_W _ _ _ G5 136 [some (vR w_), none, some (vR q), none, some (vz bf), some (vz ct_), some (vz fits), some (vz tu)] [vz 0] _
              refine zz_if_eq (tgt := 150) d_PW_replace_136 (by decide) (by decide) (fun c51 => ?_) (fun c51 => absurd c51 (by decide))
              refine zz_iconst d_PW_replace_150 ?_
              refine ab_istore d_PW_replace_151 (Nat.le_of_ble_eq_true rfl) (Nat.le_of_ble_eq_true rfl) rfl ?_
              change ab_W _ _ _ G5 153 [some (vR w_), none, some (vR q), none, some (vz bf), some (vz ct_), some (vz 0), some (vz tu)] [] _
              refine ab_aload_n d_PW_replace_153 rfl ?_
              refine ab_getf (fs := [vR f_ready, vR f_tape, vR f_reader, vR f_programs, vR f_subject, vR f_spans, vR f_threads, vR f_marks, vR f_oneMind, vR f_states, vR f_latest, vR f_matches, vR f_pieces, vR f_template, vR f_result, vR f_spare, vz cmp, vz ovs]) f_PW_42 d_PW_replace_154 hw_.2.2 rfl ?_
              refine zz_iconst d_PW_replace_157 ?_
              refine zz_iald d_PW_replace_158 hf_spans (by omega) ?_
              refine ab_istore d_PW_replace_159 (Nat.le_of_ble_eq_true rfl) (Nat.le_of_ble_eq_true rfl) rfl ?_
              change ab_W _ _ _ G5 161 [some (vR w_), none, some (vR q), none, some (vz (SP219 1)), some (vz ct_), some (vz 0), some (vz tu)] [] _
              refine zz_iinc d_PW_replace_161 rfl (Nat.le_of_ble_eq_true rfl) (Nat.le_of_ble_eq_true rfl) rfl ?_
              change ab_W _ _ _ G5 164 [some (vR w_), none, some (vR q), none, some (vz (SP219 1)), some (vz (ct_ + 1)), some (vz 0), some (vz tu)] [] _
              refine zz_iinc d_PW_replace_164 rfl (Nat.le_of_ble_eq_true rfl) (Nat.le_of_ble_eq_true rfl) rfl ?_
              change ab_W _ _ _ G5 167 [some (vR w_), none, some (vR q), none, some (vz (SP219 1)), some (vz (ct_ + 1)), some (vz 0), some (vz (tu + 1))] [] _
              refine ab_goto (tgt := 84) d_PW_replace_167 (by decide) ?_
              exact ih (ns := ns218) (SP := SP219) (it_s := it_s) (sz_s := sz_s) (mr_s := mr_s) (F_s := F_s) (bf := (SP219 1)) (ct_ := (ct_ + 1)) (fits := 0) (tu := (tu + 1)) (dd := dd220) (stm := sm221) (un := un222) hw_ hf_spans hq hki hne hot hra hf_subject hco hre hho hby_ hf_template hit_p hf_spare hit_s pmkB_f_marks (by omega) (rcI_o (la := 0) hr_ hq30 hsu.1 (by omega) hla_ jlb rfl (wcR_e hwc_ (by omega)) (by omega) (by omega)) hq24 (by omega) (by omega) (by omega) (by omega) (by omega) (mxA_s (by omega) (by omega)) hfr (by omega) hk0
            · cases hv
              have hw_ := hfk.get hw_ (by simp only [List.mem_cons, List.not_mem_nil, or_false]; omega)
              have hf_spans := hfk.get hf_spans (by simp only [List.mem_cons, List.not_mem_nil, or_false]; omega)
              have hq := hfk.get hq (by simp only [List.mem_cons, List.not_mem_nil, or_false]; omega)
              have hki := hfk.get hki (by simp only [List.mem_cons, List.not_mem_nil, or_false]; omega)
              have hne := hfk.get hne (by simp only [List.mem_cons, List.not_mem_nil, or_false]; omega)
              have hot := hfk.get hot (by simp only [List.mem_cons, List.not_mem_nil, or_false]; omega)
              have hra := hfk.get hra (by simp only [List.mem_cons, List.not_mem_nil, or_false]; omega)
              have hf_subject := hfk.get hf_subject (by simp only [List.mem_cons, List.not_mem_nil, or_false]; omega)
              have hco := hfk.get hco (by simp only [List.mem_cons, List.not_mem_nil, or_false]; omega)
              have hre := hfk.get hre (by simp only [List.mem_cons, List.not_mem_nil, or_false]; omega)
              have hho := hfk.get hho (by simp only [List.mem_cons, List.not_mem_nil, or_false]; omega)
              have hf_template := hfk.get hf_template (by simp only [List.mem_cons, List.not_mem_nil, or_false]; omega)
              have hit_p := hfk.get hit_p (by simp only [List.mem_cons, List.not_mem_nil, or_false]; omega)
              have pmkB_f_marks := mkB.fr hfk pmkB_f_marks (by simp only [List.mem_cons, List.not_mem_nil, or_false]; omega) (by simp only [List.mem_cons, List.not_mem_nil, or_false]; omega) (by simp only [List.mem_cons, List.not_mem_nil, or_false]; omega) (by simp only [List.mem_cons, List.not_mem_nil, or_false]; omega)
              have hfr := hfr.tr hfk (by simp)
              have hq50 := hfk.1
              have hf_spare := hNf_spare
              have hb241 := hNb241
              have hby_ := hNby_
              change ab_W _ _ _ G38 136 [some (vR w_), none, some (vR q), none, some (vz bf), some (vz ct_), some (vz fits), some (vz tu)] [vz 1] _
              refine zz_if_eq (tgt := 150) d_PW_replace_136 (by decide) (by decide) (fun c52 => absurd c52 (by decide)) (fun c52 => ?_)
              have hz53 : zT n242 6000 ≤ 18000 := zT_le (c := 6000) (by omega) rfl
              refine ab_aload_n d_PW_replace_139 rfl ?_
              refine ab_callV (d' := d - 1) (as := []) (st := []) (r := _) (z_PW_addTemplate (o := o40) (w_ := w_) (f_ready := f_ready) (f_tape := f_tape) (f_reader := f_reader) (f_programs := f_programs) (f_subject := f_subject) (f_spans := f_spans) (f_threads := f_threads) (f_marks := f_marks) (f_oneMind := f_oneMind) (f_states := f_states) (f_latest := f_latest) (f_matches := f_matches) (f_pieces := f_pieces) (f_template := f_template) (f_result := f_result) (f_spare := f_spare) (cmp := cmp) (ovs := ovs) (it_p := it_p) (sz_p := sz_p) (mr_p := mr_p) (F_p := F_p) (it_s := b241) (sz_s := (sz_s + ((SP219 0) - 0))) (mr_s := n242) (F_s := f243) (ls_ := ls_) (by_ := by_) (co := co) (re := re) (ho := ho) (n := n) (m := m) (SP := SP219) (f := f) (O9 := (O_ ++ sbR f 0 (SP219 0))) (L9 := L9) hw_ hf_spans hf_subject hby_ hf_template hit_p hf_spare hb241 (by omega) (by omega) (by omega) (by omega) (by omega) jt hsw_ jrw (by omega) hso_ ((wcR_e hwc_ (by omega)).all (a := 0) (b := SP219 0) (by omega) (by omega) (by omega) hq48 hq49) (by omega) (by omega) (by omega) (by omega)) (fun oc G2 h => by rcases h with ⟨_, _, _, _, _, _, h, _⟩ <;> exact ⟨_, h⟩) (by omega) m_PW_addTemplate ml_PW_218 im_PW_addTemplate se_PW_addTemplate c_PW hw_.2.2 (Nat.le_of_ble_eq_true rfl) d_PW_replace_140 rfl ?_
              intro v G54 hq
              rcases hq with ⟨o55, f256, it257, sz258, mr259, F260, hv, hfk, hNf_spare, hNit257, hq61, hq62, hq63, hq64, hq65⟩
              cases hv
              have hw_ := hfk.get hw_ (by simp only [List.mem_cons, List.not_mem_nil, or_false]; omega)
              have hf_spans := hfk.get hf_spans (by simp only [List.mem_cons, List.not_mem_nil, or_false]; omega)
              have hq := hfk.get hq (by simp only [List.mem_cons, List.not_mem_nil, or_false]; omega)
              have hki := hfk.get hki (by simp only [List.mem_cons, List.not_mem_nil, or_false]; omega)
              have hne := hfk.get hne (by simp only [List.mem_cons, List.not_mem_nil, or_false]; omega)
              have hot := hfk.get hot (by simp only [List.mem_cons, List.not_mem_nil, or_false]; omega)
              have hra := hfk.get hra (by simp only [List.mem_cons, List.not_mem_nil, or_false]; omega)
              have hf_subject := hfk.get hf_subject (by simp only [List.mem_cons, List.not_mem_nil, or_false]; omega)
              have hco := hfk.get hco (by simp only [List.mem_cons, List.not_mem_nil, or_false]; omega)
              have hre := hfk.get hre (by simp only [List.mem_cons, List.not_mem_nil, or_false]; omega)
              have hho := hfk.get hho (by simp only [List.mem_cons, List.not_mem_nil, or_false]; omega)
              have hby_ := hfk.get hby_ (by simp only [List.mem_cons, List.not_mem_nil, or_false]; omega)
              have hf_template := hfk.get hf_template (by simp only [List.mem_cons, List.not_mem_nil, or_false]; omega)
              have hit_p := hfk.get hit_p (by simp only [List.mem_cons, List.not_mem_nil, or_false]; omega)
              have pmkB_f_marks := mkB.fr hfk pmkB_f_marks (by simp only [List.mem_cons, List.not_mem_nil, or_false]; omega) (by simp only [List.mem_cons, List.not_mem_nil, or_false]; omega) (by simp only [List.mem_cons, List.not_mem_nil, or_false]; omega) (by simp only [List.mem_cons, List.not_mem_nil, or_false]; omega)
              have hfr := hfr.tr hfk (by simp)
              have hq66 := hfk.1
              have hf_spare := hNf_spare
              have hit257 := hNit257
              change ab_W _ _ _ G54 143 [some (vR w_), none, some (vR q), none, some (vz bf), some (vz ct_), some (vz fits), some (vz tu)] [vz f256] _
              refine zz_if_eq (tgt := 150) d_PW_replace_143 (by decide) (by omega) (fun c67 => ?_) (fun c67 => ?_)
              · refine zz_iconst d_PW_replace_150 ?_
                refine ab_istore d_PW_replace_151 (Nat.le_of_ble_eq_true rfl) (Nat.le_of_ble_eq_true rfl) rfl ?_
                change ab_W _ _ _ G54 153 [some (vR w_), none, some (vR q), none, some (vz bf), some (vz ct_), some (vz 0), some (vz tu)] [] _
                refine ab_aload_n d_PW_replace_153 rfl ?_
                refine ab_getf (fs := [vR f_ready, vR f_tape, vR f_reader, vR f_programs, vR f_subject, vR f_spans, vR f_threads, vR f_marks, vR f_oneMind, vR f_states, vR f_latest, vR f_matches, vR f_pieces, vR f_template, vR f_result, vR f_spare, vz cmp, vz ovs]) f_PW_42 d_PW_replace_154 hw_.2.2 rfl ?_
                refine zz_iconst d_PW_replace_157 ?_
                refine zz_iald d_PW_replace_158 hf_spans (by omega) ?_
                refine ab_istore d_PW_replace_159 (Nat.le_of_ble_eq_true rfl) (Nat.le_of_ble_eq_true rfl) rfl ?_
                change ab_W _ _ _ G54 161 [some (vR w_), none, some (vR q), none, some (vz (SP219 1)), some (vz ct_), some (vz 0), some (vz tu)] [] _
                refine zz_iinc d_PW_replace_161 rfl (Nat.le_of_ble_eq_true rfl) (Nat.le_of_ble_eq_true rfl) rfl ?_
                change ab_W _ _ _ G54 164 [some (vR w_), none, some (vR q), none, some (vz (SP219 1)), some (vz (ct_ + 1)), some (vz 0), some (vz tu)] [] _
                refine zz_iinc d_PW_replace_164 rfl (Nat.le_of_ble_eq_true rfl) (Nat.le_of_ble_eq_true rfl) rfl ?_
                change ab_W _ _ _ G54 167 [some (vR w_), none, some (vR q), none, some (vz (SP219 1)), some (vz (ct_ + 1)), some (vz 0), some (vz (tu + 1))] [] _
                refine ab_goto (tgt := 84) d_PW_replace_167 (by decide) ?_
                exact ih (ns := ns218) (SP := SP219) (it_s := it257) (sz_s := sz258) (mr_s := mr259) (F_s := F260) (bf := (SP219 1)) (ct_ := (ct_ + 1)) (fits := 0) (tu := (tu + 1)) (dd := dd220) (stm := sm221) (un := un222) hw_ hf_spans hq hki hne hot hra hf_subject hco hre hho hby_ hf_template hit_p hf_spare hit257 pmkB_f_marks (by omega) (rcI_s (la := 0) hr_ hq30 hsu.1 (by omega) hla_ jlb rfl (wcR_e hq62 (by omega))) hq24 (by omega) (by omega) (by omega) (by omega) (by omega) (mxA_s (by omega) (by omega)) hfr (by omega) hk0
              · refine zz_iconst d_PW_replace_146 ?_
                refine ab_goto (tgt := 151) d_PW_replace_147 (by decide) ?_
                refine ab_istore d_PW_replace_151 (Nat.le_of_ble_eq_true rfl) (Nat.le_of_ble_eq_true rfl) rfl ?_
                change ab_W _ _ _ G54 153 [some (vR w_), none, some (vR q), none, some (vz bf), some (vz ct_), some (vz 1), some (vz tu)] [] _
                refine ab_aload_n d_PW_replace_153 rfl ?_
                refine ab_getf (fs := [vR f_ready, vR f_tape, vR f_reader, vR f_programs, vR f_subject, vR f_spans, vR f_threads, vR f_marks, vR f_oneMind, vR f_states, vR f_latest, vR f_matches, vR f_pieces, vR f_template, vR f_result, vR f_spare, vz cmp, vz ovs]) f_PW_42 d_PW_replace_154 hw_.2.2 rfl ?_
                refine zz_iconst d_PW_replace_157 ?_
                refine zz_iald d_PW_replace_158 hf_spans (by omega) ?_
                refine ab_istore d_PW_replace_159 (Nat.le_of_ble_eq_true rfl) (Nat.le_of_ble_eq_true rfl) rfl ?_
                change ab_W _ _ _ G54 161 [some (vR w_), none, some (vR q), none, some (vz (SP219 1)), some (vz ct_), some (vz 1), some (vz tu)] [] _
                refine zz_iinc d_PW_replace_161 rfl (Nat.le_of_ble_eq_true rfl) (Nat.le_of_ble_eq_true rfl) rfl ?_
                change ab_W _ _ _ G54 164 [some (vR w_), none, some (vR q), none, some (vz (SP219 1)), some (vz (ct_ + 1)), some (vz 1), some (vz tu)] [] _
                refine zz_iinc d_PW_replace_164 rfl (Nat.le_of_ble_eq_true rfl) (Nat.le_of_ble_eq_true rfl) rfl ?_
                change ab_W _ _ _ G54 167 [some (vR w_), none, some (vR q), none, some (vz (SP219 1)), some (vz (ct_ + 1)), some (vz 1), some (vz (tu + 1))] [] _
                refine ab_goto (tgt := 84) d_PW_replace_167 (by decide) ?_
                exact ih (ns := ns218) (SP := SP219) (it_s := it257) (sz_s := sz258) (mr_s := mr259) (F_s := F260) (bf := (SP219 1)) (ct_ := (ct_ + 1)) (fits := 1) (tu := (tu + 1)) (dd := dd220) (stm := sm221) (un := un222) hw_ hf_spans hq hki hne hot hra hf_subject hco hre hho hby_ hf_template hit_p hf_spare hit257 pmkB_f_marks (by omega) (rcI_s (la := 0) hr_ hq30 hsu.1 (by omega) hla_ jlb rfl (wcR_e hq62 (by omega))) hq24 (by omega) (by omega) (by omega) (by omega) (by omega) (mxA_s (by omega) (by omega)) hfr (by omega) hk0
          · refine ab_aload_n d_PW_replace_127 rfl ?_
            refine ab_getf (fs := [vR f_ready, vR f_tape, vR f_reader, vR f_programs, vR f_subject, vR f_spans, vR f_threads, vR f_marks, vR f_oneMind, vR f_states, vR f_latest, vR f_matches, vR f_pieces, vR f_template, vR f_result, vR f_spare, vz cmp, vz ovs]) f_PW_42 d_PW_replace_128 hw_.2.2 rfl ?_
            refine zz_iconst d_PW_replace_131 ?_
            refine zz_iald d_PW_replace_132 hf_spans (by omega) ?_
            have hla_ : mxA bf bf := by unfold mxA; omega
            refine ab_callV (d' := d - 1) (as := [vR by_, vz bf, vz (SP219 0)]) (st := []) (r := _) (z2_RW_addAll (o := o17) (r := f_spare) (b := it_s) (lr := ls_) (lb := (ls_ + 1)) (n := mr_s) (lim := 6000) (sz := sz_s) (f := F_s) (a := by_) (la := 27) (m := m) (q := f) (x := bf) (y := (SP219 0)) hf_spare hit_s hby_ (by omega) (by have h18 : ab_n0 = 18 := rfl; omega) (by omega) (by omega) (by omega) (by omega) (by omega)) (fun oc G2 h => by rcases h with ⟨h, _⟩ | ⟨_, _, _, _, h, _⟩ <;> exact ⟨_, h⟩) (by omega) m_RW_addAll ml_PW_105 im_RW_addAll se_RW_addAll c_RW hf_spare.2.2 (Nat.le_of_ble_eq_true rfl) d_PW_replace_133 rfl ?_
            intro v G68 hq
            rcases hq with ⟨hv, hGe, hq69⟩ | ⟨o70, b271, n272, f273, hv, hfk, hNf_spare, hNb271, hNby_, hq74, hq75, hq76, hq77, hq78, hq79⟩
            · cases hv
              rw [hGe]
              change ab_W _ _ _ G5 136 [some (vR w_), none, some (vR q), none, some (vz bf), some (vz ct_), some (vz fits), some (vz tu)] [vz 0] _
              refine zz_if_eq (tgt := 150) d_PW_replace_136 (by decide) (by decide) (fun c81 => ?_) (fun c81 => absurd c81 (by decide))
              refine zz_iconst d_PW_replace_150 ?_
              refine ab_istore d_PW_replace_151 (Nat.le_of_ble_eq_true rfl) (Nat.le_of_ble_eq_true rfl) rfl ?_
              change ab_W _ _ _ G5 153 [some (vR w_), none, some (vR q), none, some (vz bf), some (vz ct_), some (vz 0), some (vz tu)] [] _
              refine ab_aload_n d_PW_replace_153 rfl ?_
              refine ab_getf (fs := [vR f_ready, vR f_tape, vR f_reader, vR f_programs, vR f_subject, vR f_spans, vR f_threads, vR f_marks, vR f_oneMind, vR f_states, vR f_latest, vR f_matches, vR f_pieces, vR f_template, vR f_result, vR f_spare, vz cmp, vz ovs]) f_PW_42 d_PW_replace_154 hw_.2.2 rfl ?_
              refine zz_iconst d_PW_replace_157 ?_
              refine zz_iald d_PW_replace_158 hf_spans (by omega) ?_
              refine ab_istore d_PW_replace_159 (Nat.le_of_ble_eq_true rfl) (Nat.le_of_ble_eq_true rfl) rfl ?_
              change ab_W _ _ _ G5 161 [some (vR w_), none, some (vR q), none, some (vz (SP219 1)), some (vz ct_), some (vz 0), some (vz tu)] [] _
              refine zz_iinc d_PW_replace_161 rfl (Nat.le_of_ble_eq_true rfl) (Nat.le_of_ble_eq_true rfl) rfl ?_
              change ab_W _ _ _ G5 164 [some (vR w_), none, some (vR q), none, some (vz (SP219 1)), some (vz (ct_ + 1)), some (vz 0), some (vz tu)] [] _
              refine zz_iinc d_PW_replace_164 rfl (Nat.le_of_ble_eq_true rfl) (Nat.le_of_ble_eq_true rfl) rfl ?_
              change ab_W _ _ _ G5 167 [some (vR w_), none, some (vR q), none, some (vz (SP219 1)), some (vz (ct_ + 1)), some (vz 0), some (vz (tu + 1))] [] _
              refine ab_goto (tgt := 84) d_PW_replace_167 (by decide) ?_
              exact ih (ns := ns218) (SP := SP219) (it_s := it_s) (sz_s := sz_s) (mr_s := mr_s) (F_s := F_s) (bf := (SP219 1)) (ct_ := (ct_ + 1)) (fits := 0) (tu := (tu + 1)) (dd := dd220) (stm := sm221) (un := un222) hw_ hf_spans hq hki hne hot hra hf_subject hco hre hho hby_ hf_template hit_p hf_spare hit_s pmkB_f_marks (by omega) (rcI_o (la := bf) hr_ hq30 hsu.1 (by omega) hla_ jlb rfl (wcR_e hwc_ (by omega)) (by omega) (by omega)) hq24 (by omega) (by omega) (by omega) (by omega) (by omega) (mxA_s (by omega) (by omega)) hfr (by omega) hk0
            · cases hv
              have hw_ := hfk.get hw_ (by simp only [List.mem_cons, List.not_mem_nil, or_false]; omega)
              have hf_spans := hfk.get hf_spans (by simp only [List.mem_cons, List.not_mem_nil, or_false]; omega)
              have hq := hfk.get hq (by simp only [List.mem_cons, List.not_mem_nil, or_false]; omega)
              have hki := hfk.get hki (by simp only [List.mem_cons, List.not_mem_nil, or_false]; omega)
              have hne := hfk.get hne (by simp only [List.mem_cons, List.not_mem_nil, or_false]; omega)
              have hot := hfk.get hot (by simp only [List.mem_cons, List.not_mem_nil, or_false]; omega)
              have hra := hfk.get hra (by simp only [List.mem_cons, List.not_mem_nil, or_false]; omega)
              have hf_subject := hfk.get hf_subject (by simp only [List.mem_cons, List.not_mem_nil, or_false]; omega)
              have hco := hfk.get hco (by simp only [List.mem_cons, List.not_mem_nil, or_false]; omega)
              have hre := hfk.get hre (by simp only [List.mem_cons, List.not_mem_nil, or_false]; omega)
              have hho := hfk.get hho (by simp only [List.mem_cons, List.not_mem_nil, or_false]; omega)
              have hf_template := hfk.get hf_template (by simp only [List.mem_cons, List.not_mem_nil, or_false]; omega)
              have hit_p := hfk.get hit_p (by simp only [List.mem_cons, List.not_mem_nil, or_false]; omega)
              have pmkB_f_marks := mkB.fr hfk pmkB_f_marks (by simp only [List.mem_cons, List.not_mem_nil, or_false]; omega) (by simp only [List.mem_cons, List.not_mem_nil, or_false]; omega) (by simp only [List.mem_cons, List.not_mem_nil, or_false]; omega) (by simp only [List.mem_cons, List.not_mem_nil, or_false]; omega)
              have hfr := hfr.tr hfk (by simp)
              have hq80 := hfk.1
              have hf_spare := hNf_spare
              have hb271 := hNb271
              have hby_ := hNby_
              change ab_W _ _ _ G68 136 [some (vR w_), none, some (vR q), none, some (vz bf), some (vz ct_), some (vz fits), some (vz tu)] [vz 1] _
              refine zz_if_eq (tgt := 150) d_PW_replace_136 (by decide) (by decide) (fun c82 => absurd c82 (by decide)) (fun c82 => ?_)
              have hz83 : zT n272 6000 ≤ 18000 := zT_le (c := 6000) (by omega) rfl
              refine ab_aload_n d_PW_replace_139 rfl ?_
              refine ab_callV (d' := d - 1) (as := []) (st := []) (r := _) (z_PW_addTemplate (o := o70) (w_ := w_) (f_ready := f_ready) (f_tape := f_tape) (f_reader := f_reader) (f_programs := f_programs) (f_subject := f_subject) (f_spans := f_spans) (f_threads := f_threads) (f_marks := f_marks) (f_oneMind := f_oneMind) (f_states := f_states) (f_latest := f_latest) (f_matches := f_matches) (f_pieces := f_pieces) (f_template := f_template) (f_result := f_result) (f_spare := f_spare) (cmp := cmp) (ovs := ovs) (it_p := it_p) (sz_p := sz_p) (mr_p := mr_p) (F_p := F_p) (it_s := b271) (sz_s := (sz_s + ((SP219 0) - bf))) (mr_s := n272) (F_s := f273) (ls_ := ls_) (by_ := by_) (co := co) (re := re) (ho := ho) (n := n) (m := m) (SP := SP219) (f := f) (O9 := (O_ ++ sbR f bf (SP219 0))) (L9 := L9) hw_ hf_spans hf_subject hby_ hf_template hit_p hf_spare hb271 (by omega) (by omega) (by omega) (by omega) (by omega) jt hsw_ jrw (by omega) hso_ ((wcR_e hwc_ (by omega)).all (a := bf) (b := SP219 0) (by omega) (by omega) (by omega) hq78 hq79) (by omega) (by omega) (by omega) (by omega)) (fun oc G2 h => by rcases h with ⟨_, _, _, _, _, _, h, _⟩ <;> exact ⟨_, h⟩) (by omega) m_PW_addTemplate ml_PW_218 im_PW_addTemplate se_PW_addTemplate c_PW hw_.2.2 (Nat.le_of_ble_eq_true rfl) d_PW_replace_140 rfl ?_
              intro v G84 hq
              rcases hq with ⟨o85, f286, it287, sz288, mr289, F290, hv, hfk, hNf_spare, hNit287, hq91, hq92, hq93, hq94, hq95⟩
              cases hv
              have hw_ := hfk.get hw_ (by simp only [List.mem_cons, List.not_mem_nil, or_false]; omega)
              have hf_spans := hfk.get hf_spans (by simp only [List.mem_cons, List.not_mem_nil, or_false]; omega)
              have hq := hfk.get hq (by simp only [List.mem_cons, List.not_mem_nil, or_false]; omega)
              have hki := hfk.get hki (by simp only [List.mem_cons, List.not_mem_nil, or_false]; omega)
              have hne := hfk.get hne (by simp only [List.mem_cons, List.not_mem_nil, or_false]; omega)
              have hot := hfk.get hot (by simp only [List.mem_cons, List.not_mem_nil, or_false]; omega)
              have hra := hfk.get hra (by simp only [List.mem_cons, List.not_mem_nil, or_false]; omega)
              have hf_subject := hfk.get hf_subject (by simp only [List.mem_cons, List.not_mem_nil, or_false]; omega)
              have hco := hfk.get hco (by simp only [List.mem_cons, List.not_mem_nil, or_false]; omega)
              have hre := hfk.get hre (by simp only [List.mem_cons, List.not_mem_nil, or_false]; omega)
              have hho := hfk.get hho (by simp only [List.mem_cons, List.not_mem_nil, or_false]; omega)
              have hby_ := hfk.get hby_ (by simp only [List.mem_cons, List.not_mem_nil, or_false]; omega)
              have hf_template := hfk.get hf_template (by simp only [List.mem_cons, List.not_mem_nil, or_false]; omega)
              have hit_p := hfk.get hit_p (by simp only [List.mem_cons, List.not_mem_nil, or_false]; omega)
              have pmkB_f_marks := mkB.fr hfk pmkB_f_marks (by simp only [List.mem_cons, List.not_mem_nil, or_false]; omega) (by simp only [List.mem_cons, List.not_mem_nil, or_false]; omega) (by simp only [List.mem_cons, List.not_mem_nil, or_false]; omega) (by simp only [List.mem_cons, List.not_mem_nil, or_false]; omega)
              have hfr := hfr.tr hfk (by simp)
              have hq96 := hfk.1
              have hf_spare := hNf_spare
              have hit287 := hNit287
              change ab_W _ _ _ G84 143 [some (vR w_), none, some (vR q), none, some (vz bf), some (vz ct_), some (vz fits), some (vz tu)] [vz f286] _
              refine zz_if_eq (tgt := 150) d_PW_replace_143 (by decide) (by omega) (fun c97 => ?_) (fun c97 => ?_)
              · refine zz_iconst d_PW_replace_150 ?_
                refine ab_istore d_PW_replace_151 (Nat.le_of_ble_eq_true rfl) (Nat.le_of_ble_eq_true rfl) rfl ?_
                change ab_W _ _ _ G84 153 [some (vR w_), none, some (vR q), none, some (vz bf), some (vz ct_), some (vz 0), some (vz tu)] [] _
                refine ab_aload_n d_PW_replace_153 rfl ?_
                refine ab_getf (fs := [vR f_ready, vR f_tape, vR f_reader, vR f_programs, vR f_subject, vR f_spans, vR f_threads, vR f_marks, vR f_oneMind, vR f_states, vR f_latest, vR f_matches, vR f_pieces, vR f_template, vR f_result, vR f_spare, vz cmp, vz ovs]) f_PW_42 d_PW_replace_154 hw_.2.2 rfl ?_
                refine zz_iconst d_PW_replace_157 ?_
                refine zz_iald d_PW_replace_158 hf_spans (by omega) ?_
                refine ab_istore d_PW_replace_159 (Nat.le_of_ble_eq_true rfl) (Nat.le_of_ble_eq_true rfl) rfl ?_
                change ab_W _ _ _ G84 161 [some (vR w_), none, some (vR q), none, some (vz (SP219 1)), some (vz ct_), some (vz 0), some (vz tu)] [] _
                refine zz_iinc d_PW_replace_161 rfl (Nat.le_of_ble_eq_true rfl) (Nat.le_of_ble_eq_true rfl) rfl ?_
                change ab_W _ _ _ G84 164 [some (vR w_), none, some (vR q), none, some (vz (SP219 1)), some (vz (ct_ + 1)), some (vz 0), some (vz tu)] [] _
                refine zz_iinc d_PW_replace_164 rfl (Nat.le_of_ble_eq_true rfl) (Nat.le_of_ble_eq_true rfl) rfl ?_
                change ab_W _ _ _ G84 167 [some (vR w_), none, some (vR q), none, some (vz (SP219 1)), some (vz (ct_ + 1)), some (vz 0), some (vz (tu + 1))] [] _
                refine ab_goto (tgt := 84) d_PW_replace_167 (by decide) ?_
                exact ih (ns := ns218) (SP := SP219) (it_s := it287) (sz_s := sz288) (mr_s := mr289) (F_s := F290) (bf := (SP219 1)) (ct_ := (ct_ + 1)) (fits := 0) (tu := (tu + 1)) (dd := dd220) (stm := sm221) (un := un222) hw_ hf_spans hq hki hne hot hra hf_subject hco hre hho hby_ hf_template hit_p hf_spare hit287 pmkB_f_marks (by omega) (rcI_s (la := bf) hr_ hq30 hsu.1 (by omega) hla_ jlb rfl (wcR_e hq92 (by omega))) hq24 (by omega) (by omega) (by omega) (by omega) (by omega) (mxA_s (by omega) (by omega)) hfr (by omega) hk0
              · refine zz_iconst d_PW_replace_146 ?_
                refine ab_goto (tgt := 151) d_PW_replace_147 (by decide) ?_
                refine ab_istore d_PW_replace_151 (Nat.le_of_ble_eq_true rfl) (Nat.le_of_ble_eq_true rfl) rfl ?_
                change ab_W _ _ _ G84 153 [some (vR w_), none, some (vR q), none, some (vz bf), some (vz ct_), some (vz 1), some (vz tu)] [] _
                refine ab_aload_n d_PW_replace_153 rfl ?_
                refine ab_getf (fs := [vR f_ready, vR f_tape, vR f_reader, vR f_programs, vR f_subject, vR f_spans, vR f_threads, vR f_marks, vR f_oneMind, vR f_states, vR f_latest, vR f_matches, vR f_pieces, vR f_template, vR f_result, vR f_spare, vz cmp, vz ovs]) f_PW_42 d_PW_replace_154 hw_.2.2 rfl ?_
                refine zz_iconst d_PW_replace_157 ?_
                refine zz_iald d_PW_replace_158 hf_spans (by omega) ?_
                refine ab_istore d_PW_replace_159 (Nat.le_of_ble_eq_true rfl) (Nat.le_of_ble_eq_true rfl) rfl ?_
                change ab_W _ _ _ G84 161 [some (vR w_), none, some (vR q), none, some (vz (SP219 1)), some (vz ct_), some (vz 1), some (vz tu)] [] _
                refine zz_iinc d_PW_replace_161 rfl (Nat.le_of_ble_eq_true rfl) (Nat.le_of_ble_eq_true rfl) rfl ?_
                change ab_W _ _ _ G84 164 [some (vR w_), none, some (vR q), none, some (vz (SP219 1)), some (vz (ct_ + 1)), some (vz 1), some (vz tu)] [] _
                refine zz_iinc d_PW_replace_164 rfl (Nat.le_of_ble_eq_true rfl) (Nat.le_of_ble_eq_true rfl) rfl ?_
                change ab_W _ _ _ G84 167 [some (vR w_), none, some (vR q), none, some (vz (SP219 1)), some (vz (ct_ + 1)), some (vz 1), some (vz (tu + 1))] [] _
                refine ab_goto (tgt := 84) d_PW_replace_167 (by decide) ?_
                exact ih (ns := ns218) (SP := SP219) (it_s := it287) (sz_s := sz288) (mr_s := mr289) (F_s := F290) (bf := (SP219 1)) (ct_ := (ct_ + 1)) (fits := 1) (tu := (tu + 1)) (dd := dd220) (stm := sm221) (un := un222) hw_ hf_spans hq hki hne hot hra hf_subject hco hre hho hby_ hf_template hit_p hf_spare hit287 pmkB_f_marks (by omega) (rcI_s (la := bf) hr_ hq30 hsu.1 (by omega) hla_ jlb rfl (wcR_e hq92 (by omega))) hq24 (by omega) (by omega) (by omega) (by omega) (by omega) (mxA_s (by omega) (by omega)) hfr (by omega) hk0
set_option maxRecDepth 100000 in
set_option maxHeartbeats 4000000 in
theorem z_PW_replace {X : ab_X} {d : Nat} {o : Nat → Nat} {G : ab_G} {w_ : Nat} {f_ready : Nat} {f_tape : Nat} {f_reader : Nat} {f_programs : Nat} {f_subject : Nat} {f_spans : Nat} {f_threads : Nat} {f_marks : Nat} {f_oneMind : Nat} {f_states : Nat} {f_latest : Nat} {f_matches : Nat} {f_pieces : Nat} {f_template : Nat} {f_result : Nat} {f_spare : Nat} {cmp : Int} {ovs : Int} {sb : Int} {PG : Nat → Option Nat} {NR : Nat → Nat} {cv : Int → Int} {on : Nat} {nm : Nat} {ns : Nat} {nt : Nat} {n : Int} {m : Nat} {SP : Int → Int} {f : Int → Int} {it_t : Nat} {sz_t : Int} {mr_t : Nat} {F_t : Int → Int} {it_p : Nat} {sz_p : Int} {mr_p : Nat} {F_p : Int → Int} {it_s : Nat} {sz_s : Int} {mr_s : Nat} {F_s : Int → Int} {sl : Int} {k_ : Nat} {ls_ : Nat} {lr_ : Nat} (hw_ : cc o G w_ 18 (ab_ob 0 [vR f_ready, vR f_tape, vR f_reader, vR f_programs, vR f_subject, vR f_spans, vR f_threads, vR f_marks, vR f_oneMind, vR f_states, vR f_latest, vR f_matches, vR f_pieces, vR f_template, vR f_result, vR f_spare, vz cmp, vz ovs])) (hf_spans : cc o G f_spans 31 (za 20 SP)) (h17 : cc o G 17 17 (za 12 zFC)) (hf_programs : cc o G f_programs 81 (ab_rr 6 PG)) (hf_tape : cc o G f_tape 22 (ab_ob 7 [vz 2000, vR it_t, vz sz_t])) (hit_t : cc o G it_t 23 (za mr_t F_t)) (hf_template : cc o G f_template 75 (ab_ob 7 [vz 2000, vR it_p, vz sz_p])) (hit_p : cc o G it_p 76 (za mr_p F_p)) (hf_spare : cc o G f_spare ls_ (ab_ob 7 [vz 6000, vR it_s, vz sz_s])) (hit_s : cc o G it_s (ls_ + 1) (za mr_s F_s)) (pthI_f_threads : thI o G f_threads 0) (pmkI_f_marks : mkI o G f_marks nm ns 0) (pomI_f_oneMind : omI o G f_oneMind on nt 0) (pstI_f_states : stI o G f_states cv cmp 0 sb) (psuI_f_subject : suI o G f_subject n m f) (ppgI_0 : pgI o G 0 PG NR cv cmp on) (n18 : ab_n0 = 18) (hkq : kq6 sl k_) (crs : 77 ≤ lr_ ∧ lr_ ≤ 79 ∧ lr_ + ls_ = 156) (cr : -2147483648 ≤ sl ∧ sl ≤ 2147483647) (jsp : rgs SP 20 (-1) 2000) (crw_t : 0 ≤ sz_t ∧ sz_t ≤ ↑mr_t ∧ ↑mr_t ≤ (2000 : Int) ∧ 32 ≤ mr_t) (hbt : bytes F_t sz_t) (crw_p : 0 ≤ sz_p ∧ sz_p ≤ ↑mr_p ∧ ↑mr_p ≤ (2000 : Int) ∧ 32 ≤ mr_p) (crw_s : 0 ≤ sz_s ∧ sz_s ≤ ↑mr_s ∧ ↑mr_s ≤ (6000 : Int) ∧ 32 ≤ mr_s) (rc : 64 * G.length + 4600000 ≤ 64 * (ab_n0 + room_1.cells) + (64 * nm + 64 * stC ns + nt + onPQ on)) (rs : ab_slots G + 2380000 ≤ room_1.slots + (zT nm 52026 + stT ns + 2 * nt + onSQ on)) (hd : 17 ≤ d) : ab_F X d y_PW_replace (.code y_PW_replace b_PW_replace 8 (some (.int))) [vR w_, vz sl] G (fun oc G2 => (∃ o2 : Nat → Nat, ∃ b : Nat, ∃ nm2 : Nat, ∃ ns2 : Nat, ∃ SP2 : Int → Int, ∃ tz2 : Int, ∃ itp2 : Nat, ∃ szp2 : Int, ∃ mrp2 : Nat, ∃ Fp2 : Int → Int, ∃ it2 : Nat, ∃ sz2 : Int, ∃ mr2 : Nat, ∃ F2 : Int → Int, oc = .threw b ∧ fx o o2 [18, 22, 31, 75, 76, ls_, (ls_ + 1), 32, 33, 35, 36, 37, 38, 39, 40, 44, 45, 46, 47, 50, 51, 52, 53, 54, 55, 56, 57, 60, 61, 62, 63, 64, 65, 66, 67, 68] G G2 ∧ cc o2 G2 w_ 18 (ab_ob 0 [vR f_ready, vR f_tape, vR f_reader, vR f_programs, vR f_subject, vR f_spans, vR f_threads, vR f_marks, vR f_oneMind, vR f_states, vR f_latest, vR f_matches, vR f_pieces, vR f_template, vR f_result, vR f_spare, vz cmp, vz ovs]) ∧ cc o2 G2 f_spans 31 (za 20 SP2) ∧ cc o2 G2 f_tape 22 (ab_ob 7 [vz 2000, vR it_t, vz tz2]) ∧ cc o2 G2 f_template 75 (ab_ob 7 [vz 2000, vR itp2, vz szp2]) ∧ cc o2 G2 itp2 76 (za mrp2 Fp2) ∧ cc o2 G2 f_spare ls_ (ab_ob 7 [vz 6000, vR it2, vz sz2]) ∧ cc o2 G2 it2 (ls_ + 1) (za mr2 F2) ∧ thI o2 G2 f_threads 0 ∧ mkI o2 G2 f_marks nm2 ns2 0 ∧ omI o2 G2 f_oneMind on nt 0 ∧ stI o2 G2 f_states cv cmp 0 sb ∧ suI o2 G2 f_subject n m f ∧ pgI o2 G2 0 PG NR cv cmp on ∧ (G2[b]? = some (.inr (13, []))) ∧ (rpC PG cv sl f n F_t sz_t 1 0 0 (fun _ => 0)) ∧ (pgQ PG sl sz_t tz2) ∧ (rgs SP2 20 (-1) 2000) ∧ (0 ≤ tz2 ∧ tz2 ≤ sz_t) ∧ (0 ≤ szp2 ∧ szp2 ≤ ↑mrp2 ∧ ↑mrp2 ≤ (2000 : Int) ∧ 32 ≤ mrp2) ∧ (0 ≤ sz2 ∧ sz2 ≤ ↑mr2 ∧ ↑mr2 ≤ (6000 : Int) ∧ 32 ≤ mr2) ∧ (64 * G2.length + (64 * nm + 64 * stC ns + nt + onPQ on + 64 * mr_p + 64 * mr_s) ≤ 64 * G.length + 64 + (64 * nm2 + 64 * stC ns2 + nt + onPQ on + 64 * mrp2 + 64 * mr2)) ∧ (ab_slots G2 + (zT nm 52026 + stT ns + 2 * nt + onSQ on + zT mr_p 2000 + zT mr_s 6000) ≤ ab_slots G + 6 + (zT nm2 52026 + stT ns2 + 2 * nt + onSQ on + zT mrp2 2000 + zT mr2 6000))) ∨ (∃ o2 : Nat → Nat, ∃ r : Int, ∃ nm2 : Nat, ∃ ns2 : Nat, ∃ SP2 : Int → Int, ∃ tz2 : Int, ∃ itp2 : Nat, ∃ szp2 : Int, ∃ mrp2 : Nat, ∃ Fp2 : Int → Int, ∃ it2 : Nat, ∃ sz2 : Int, ∃ mr2 : Nat, ∃ F2 : Int → Int, oc = .returned (some (vz r)) ∧ fx o o2 [18, 22, 31, 75, 76, ls_, (ls_ + 1), 32, 33, 35, 36, 37, 38, 39, 40, 44, 45, 46, 47, 50, 51, 52, 53, 54, 55, 56, 57, 60, 61, 62, 63, 64, 65, 66, 67, 68] G G2 ∧ cc o2 G2 w_ 18 (ab_ob 0 [vR f_ready, vR f_tape, vR f_reader, vR f_programs, vR f_subject, vR f_spans, vR f_threads, vR f_marks, vR f_oneMind, vR f_states, vR f_latest, vR f_matches, vR f_pieces, vR f_template, vR f_spare, vR f_result, vz cmp, vz ovs]) ∧ cc o2 G2 f_spans 31 (za 20 SP2) ∧ cc o2 G2 f_tape 22 (ab_ob 7 [vz 2000, vR it_t, vz tz2]) ∧ cc o2 G2 f_template 75 (ab_ob 7 [vz 2000, vR itp2, vz szp2]) ∧ cc o2 G2 itp2 76 (za mrp2 Fp2) ∧ cc o2 G2 f_spare ls_ (ab_ob 7 [vz 6000, vR it2, vz sz2]) ∧ cc o2 G2 it2 (ls_ + 1) (za mr2 F2) ∧ thI o2 G2 f_threads 0 ∧ mkI o2 G2 f_marks nm2 ns2 0 ∧ omI o2 G2 f_oneMind on nt 0 ∧ stI o2 G2 f_states cv cmp 0 sb ∧ suI o2 G2 f_subject n m f ∧ pgI o2 G2 0 PG NR cv cmp on ∧ (rpC PG cv sl f n F_t sz_t 0 r sz2 F2) ∧ (pgQ PG sl sz_t tz2) ∧ (rgs SP2 20 (-1) 2000) ∧ (0 ≤ tz2 ∧ tz2 ≤ sz_t) ∧ (0 ≤ szp2 ∧ szp2 ≤ ↑mrp2 ∧ ↑mrp2 ≤ (2000 : Int) ∧ 32 ≤ mrp2) ∧ (0 ≤ sz2 ∧ sz2 ≤ ↑mr2 ∧ ↑mr2 ≤ (6000 : Int) ∧ 32 ≤ mr2) ∧ (64 * G2.length + (64 * nm + 64 * stC ns + nt + onPQ on + 64 * mr_p + 64 * mr_s) ≤ 64 * G.length + 64 + (64 * nm2 + 64 * stC ns2 + nt + onPQ on + 64 * mrp2 + 64 * mr2)) ∧ (ab_slots G2 + (zT nm 52026 + stT ns + 2 * nt + onSQ on + zT mr_p 2000 + zT mr_s 6000) ≤ ab_slots G + 6 + (zT nm2 52026 + stT ns2 + 2 * nt + onSQ on + zT mrp2 2000 + zT mr2 6000)))) := by
  refine ab_F_of (by decide +kernel) (Nat.le_of_ble_eq_true rfl) ?_
  obtain ⟨Q, hQ⟩ : ∃ z : Outcome → ab_G → Prop, z = (fun oc G2 => (∃ o2 : Nat → Nat, ∃ b : Nat, ∃ nm2 : Nat, ∃ ns2 : Nat, ∃ SP2 : Int → Int, ∃ tz2 : Int, ∃ itp2 : Nat, ∃ szp2 : Int, ∃ mrp2 : Nat, ∃ Fp2 : Int → Int, ∃ it2 : Nat, ∃ sz2 : Int, ∃ mr2 : Nat, ∃ F2 : Int → Int, oc = .threw b ∧ fx o o2 [18, 22, 31, 75, 76, ls_, (ls_ + 1), 32, 33, 35, 36, 37, 38, 39, 40, 44, 45, 46, 47, 50, 51, 52, 53, 54, 55, 56, 57, 60, 61, 62, 63, 64, 65, 66, 67, 68] G G2 ∧ cc o2 G2 w_ 18 (ab_ob 0 [vR f_ready, vR f_tape, vR f_reader, vR f_programs, vR f_subject, vR f_spans, vR f_threads, vR f_marks, vR f_oneMind, vR f_states, vR f_latest, vR f_matches, vR f_pieces, vR f_template, vR f_result, vR f_spare, vz cmp, vz ovs]) ∧ cc o2 G2 f_spans 31 (za 20 SP2) ∧ cc o2 G2 f_tape 22 (ab_ob 7 [vz 2000, vR it_t, vz tz2]) ∧ cc o2 G2 f_template 75 (ab_ob 7 [vz 2000, vR itp2, vz szp2]) ∧ cc o2 G2 itp2 76 (za mrp2 Fp2) ∧ cc o2 G2 f_spare ls_ (ab_ob 7 [vz 6000, vR it2, vz sz2]) ∧ cc o2 G2 it2 (ls_ + 1) (za mr2 F2) ∧ thI o2 G2 f_threads 0 ∧ mkI o2 G2 f_marks nm2 ns2 0 ∧ omI o2 G2 f_oneMind on nt 0 ∧ stI o2 G2 f_states cv cmp 0 sb ∧ suI o2 G2 f_subject n m f ∧ pgI o2 G2 0 PG NR cv cmp on ∧ (G2[b]? = some (.inr (13, []))) ∧ (rpC PG cv sl f n F_t sz_t 1 0 0 (fun _ => 0)) ∧ (pgQ PG sl sz_t tz2) ∧ (rgs SP2 20 (-1) 2000) ∧ (0 ≤ tz2 ∧ tz2 ≤ sz_t) ∧ (0 ≤ szp2 ∧ szp2 ≤ ↑mrp2 ∧ ↑mrp2 ≤ (2000 : Int) ∧ 32 ≤ mrp2) ∧ (0 ≤ sz2 ∧ sz2 ≤ ↑mr2 ∧ ↑mr2 ≤ (6000 : Int) ∧ 32 ≤ mr2) ∧ (64 * G2.length + (64 * nm + 64 * stC ns + nt + onPQ on + 64 * mr_p + 64 * mr_s) ≤ 64 * G.length + 64 + (64 * nm2 + 64 * stC ns2 + nt + onPQ on + 64 * mrp2 + 64 * mr2)) ∧ (ab_slots G2 + (zT nm 52026 + stT ns + 2 * nt + onSQ on + zT mr_p 2000 + zT mr_s 6000) ≤ ab_slots G + 6 + (zT nm2 52026 + stT ns2 + 2 * nt + onSQ on + zT mrp2 2000 + zT mr2 6000))) ∨ (∃ o2 : Nat → Nat, ∃ r : Int, ∃ nm2 : Nat, ∃ ns2 : Nat, ∃ SP2 : Int → Int, ∃ tz2 : Int, ∃ itp2 : Nat, ∃ szp2 : Int, ∃ mrp2 : Nat, ∃ Fp2 : Int → Int, ∃ it2 : Nat, ∃ sz2 : Int, ∃ mr2 : Nat, ∃ F2 : Int → Int, oc = .returned (some (vz r)) ∧ fx o o2 [18, 22, 31, 75, 76, ls_, (ls_ + 1), 32, 33, 35, 36, 37, 38, 39, 40, 44, 45, 46, 47, 50, 51, 52, 53, 54, 55, 56, 57, 60, 61, 62, 63, 64, 65, 66, 67, 68] G G2 ∧ cc o2 G2 w_ 18 (ab_ob 0 [vR f_ready, vR f_tape, vR f_reader, vR f_programs, vR f_subject, vR f_spans, vR f_threads, vR f_marks, vR f_oneMind, vR f_states, vR f_latest, vR f_matches, vR f_pieces, vR f_template, vR f_spare, vR f_result, vz cmp, vz ovs]) ∧ cc o2 G2 f_spans 31 (za 20 SP2) ∧ cc o2 G2 f_tape 22 (ab_ob 7 [vz 2000, vR it_t, vz tz2]) ∧ cc o2 G2 f_template 75 (ab_ob 7 [vz 2000, vR itp2, vz szp2]) ∧ cc o2 G2 itp2 76 (za mrp2 Fp2) ∧ cc o2 G2 f_spare ls_ (ab_ob 7 [vz 6000, vR it2, vz sz2]) ∧ cc o2 G2 it2 (ls_ + 1) (za mr2 F2) ∧ thI o2 G2 f_threads 0 ∧ mkI o2 G2 f_marks nm2 ns2 0 ∧ omI o2 G2 f_oneMind on nt 0 ∧ stI o2 G2 f_states cv cmp 0 sb ∧ suI o2 G2 f_subject n m f ∧ pgI o2 G2 0 PG NR cv cmp on ∧ (rpC PG cv sl f n F_t sz_t 0 r sz2 F2) ∧ (pgQ PG sl sz_t tz2) ∧ (rgs SP2 20 (-1) 2000) ∧ (0 ≤ tz2 ∧ tz2 ≤ sz_t) ∧ (0 ≤ szp2 ∧ szp2 ≤ ↑mrp2 ∧ ↑mrp2 ≤ (2000 : Int) ∧ 32 ≤ mrp2) ∧ (0 ≤ sz2 ∧ sz2 ≤ ↑mr2 ∧ ↑mr2 ≤ (6000 : Int) ∧ 32 ≤ mr2) ∧ (64 * G2.length + (64 * nm + 64 * stC ns + nt + onPQ on + 64 * mr_p + 64 * mr_s) ≤ 64 * G.length + 64 + (64 * nm2 + 64 * stC ns2 + nt + onPQ on + 64 * mrp2 + 64 * mr2)) ∧ (ab_slots G2 + (zT nm 52026 + stT ns + 2 * nt + onSQ on + zT mr_p 2000 + zT mr_s 6000) ≤ ab_slots G + 6 + (zT nm2 52026 + stT ns2 + 2 * nt + onSQ on + zT mrp2 2000 + zT mr2 6000)))) := ⟨_, rfl⟩
  rw [← hQ]
  change ab_W X (ab_pl y_PW_replace b_PW_replace 8 (some (.int))) d G 0 [some (vR w_), some (vz sl), none, none, none, none, none, none] [] Q
  have hfr : fx o o [18, 22, 31, 75, 76, ls_, (ls_ + 1), 32, 33, 35, 36, 37, 38, 39, 40, 44, 45, 46, 47, 50, 51, 52, 53, 54, 55, 56, 57, 60, 61, 62, 63, 64, 65, 66, 67, 68] G G := fx.rf
  have hq1 := stT_le ns
  have hq2 := stC_le ns
  have hq3 := onPQ_le on
  have hq4 := onSQ_le on
  have hnt_ := pomI_f_oneMind.nt
  have hnm_ := pmkI_f_marks.b
  have hzt_ : zT nm 52026 ≤ 156078 := zT_le (c := 52026) (by omega) rfl
  refine ab_aload_n d_PW_replace_0 rfl ?_
  refine ab_iload_n d_PW_replace_1 rfl ?_
  refine ab_callV (d' := d - 1) (as := [vz sl]) (st := []) (r := _) (z_PW_programAt (o := o) (w_ := w_) (f_ready := f_ready) (f_tape := f_tape) (f_reader := f_reader) (f_programs := f_programs) (f_subject := f_subject) (f_spans := f_spans) (f_threads := f_threads) (f_marks := f_marks) (f_oneMind := f_oneMind) (f_states := f_states) (f_latest := f_latest) (f_matches := f_matches) (f_pieces := f_pieces) (f_template := f_template) (f_result := f_result) (f_spare := f_spare) (cmp := cmp) (ovs := ovs) (PG := PG) (k := sl) hw_ hf_programs (by omega)) (fun oc G2 h => by rcases h with ⟨h, _⟩ | ⟨_, h, _⟩ <;> exact ⟨_, h⟩) (by omega) m_PW_programAt ml_PW_148 im_PW_programAt se_PW_programAt c_PW hw_.2.2 (Nat.le_of_ble_eq_true rfl) d_PW_replace_2 rfl ?_
  intro v G5 hq
  rcases hq with ⟨hv, hGe, hq6⟩ | ⟨b7, hv, hGe, hq8, hq9⟩
  · cases hv
    rw [hGe]
    change ab_W _ _ _ G 5 [some (vR w_), some (vz sl), none, none, none, none, none, none] [vN] _
    refine ab_astore_nN d_PW_replace_5 (Nat.le_of_ble_eq_true rfl) (Nat.le_of_ble_eq_true rfl) rfl ?_
    change ab_W _ _ _ G 6 [some (vR w_), some (vz sl), some (vN), none, none, none, none, none] [] _
    refine ab_aload_nN d_PW_replace_6 rfl ?_
    refine ab_ifnonnullN d_PW_replace_7 ?_
    refine ab_throw (tx := "no pattern there") (by decide) (fun c h => h) cl_PW_109 inst_IA ini_IA tw_PW_113 d_PW_replace_10 d_PW_replace_13 d_PW_replace_14 d_PW_replace_16 d_PW_replace_19 (by omega) (by omega) (by omega) ?_
    obtain ⟨G10, eG10⟩ : ∃ z : ab_G, z = G ++ [.inr (13, [])] := ⟨_, rfl⟩
    obtain ⟨o11, eo11⟩ : ∃ z : Nat → Nat, z = ol o G.length 99 := ⟨_, rfl⟩
    obtain ⟨a12, ea12⟩ : ∃ z : Nat, z = G.length := ⟨_, rfl⟩
    have hq13 := hit_s.n0 (by first | decide | omega)
    have ne_a12_w_ : nq a12 w_ := by have hlt := hw_.lt; unfold nq; omega
    have ne_a12_f_spans : nq a12 f_spans := by have hlt := hf_spans.lt; unfold nq; omega
    have ne_a12_17 : nq a12 17 := by have hlt := h17.lt; unfold nq; omega
    have ne_a12_f_programs : nq a12 f_programs := by have hlt := hf_programs.lt; unfold nq; omega
    have ne_a12_f_tape : nq a12 f_tape := by have hlt := hf_tape.lt; unfold nq; omega
    have ne_a12_it_t : nq a12 it_t := by have hlt := hit_t.lt; unfold nq; omega
    have ne_a12_f_template : nq a12 f_template := by have hlt := hf_template.lt; unfold nq; omega
    have ne_a12_it_p : nq a12 it_p := by have hlt := hit_p.lt; unfold nq; omega
    have ne_a12_f_spare : nq a12 f_spare := by have hlt := hf_spare.lt; unfold nq; omega
    have ne_a12_it_s : nq a12 it_s := by have hlt := hit_s.lt; unfold nq; omega
    have hw_ := hw_.akeep (k := 99) eG10
    rw [← eo11] at hw_
    have hf_spans := hf_spans.akeep (k := 99) eG10
    rw [← eo11] at hf_spans
    have h17 := h17.akeep (k := 99) eG10
    rw [← eo11] at h17
    have hf_programs := hf_programs.akeep (k := 99) eG10
    rw [← eo11] at hf_programs
    have hf_tape := hf_tape.akeep (k := 99) eG10
    rw [← eo11] at hf_tape
    have hit_t := hit_t.akeep (k := 99) eG10
    rw [← eo11] at hit_t
    have hf_template := hf_template.akeep (k := 99) eG10
    rw [← eo11] at hf_template
    have hit_p := hit_p.akeep (k := 99) eG10
    rw [← eo11] at hit_p
    have hf_spare := hf_spare.akeep (k := 99) eG10
    rw [← eo11] at hf_spare
    have hit_s := hit_s.akeep (k := 99) eG10
    rw [← eo11] at hit_s
    have hst := (fx.rf (o := o) (S := []) (G := G)).ap (k := 99) eG10
    rw [← eo11] at hst
    have pthI_f_threads := thI.fr hst pthI_f_threads (by decide) (by decide) (by decide) (by decide) (by decide) (by decide) (by decide) (by decide)
    have pmkI_f_marks := mkI.fr hst pmkI_f_marks (by decide) (by decide) (by decide) (by decide)
    have pomI_f_oneMind := omI.fr hst pomI_f_oneMind (by decide) (by decide) (by decide) (by decide) (by decide) (by decide) (by decide) (by decide)
    have pstI_f_states := stI.fr hst pstI_f_states (by decide) (by decide) (by decide) (by decide) (by decide) (by decide) (by decide) (by decide) (by decide)
    have psuI_f_subject := suI.fr hst psuI_f_subject (by decide) (by decide) (by decide) (by decide) (by decide)
    have ppgI_0 := pgI.fr hst ppgI_0  (by simp)
    have ha12 := cc.anew (o := o) 99 eG10 hq13
    rw [← eo11, ← ea12] at ha12
    have hfr := hfr.ap (k := 99) eG10
    rw [← eo11] at hfr
    have hq14 := z_alen eG10
    have hq15 : ab_slots G10 = ab_slots G + 6 := z_asl eG10 hq13
    rw [← ea12, ← eG10]
    rw [hQ]; exact (Or.inl ⟨_, _, _, _, _, _, _, _, _, _, _, _, _, _, rfl, hfr, hw_, hf_spans, hf_tape, hf_template, hit_p, hf_spare, hit_s, pthI_f_threads, pmkI_f_marks, pomI_f_oneMind, pstI_f_states, psuI_f_subject, ppgI_0, (by exact ha12.2.2), (by exact rpC_0 hq6), (by exact Or.inr ⟨hq6, rfl⟩), (by exact jsp), (by omega), (by omega), (by omega), (by omega), (by omega)⟩)
  · cases hv
    rw [hGe]
    change ab_W _ _ _ G 5 [some (vR w_), some (vz sl), none, none, none, none, none, none] [vR b7] _
    refine ab_astore_n d_PW_replace_5 (Nat.le_of_ble_eq_true rfl) (Nat.le_of_ble_eq_true rfl) rfl ?_
    change ab_W _ _ _ G 6 [some (vR w_), some (vz sl), some (vR b7), none, none, none, none, none] [] _
    refine ab_aload_n d_PW_replace_6 rfl ?_
    refine ab_ifnonnull (tgt := 20) d_PW_replace_7 (by decide) ?_
    have hk_ := hkq.2 (by omega) (by omega)
    rw [← hk_] at hq8
    have hk6_ : k_ < 6 := by omega
    obtain ⟨⟨mi_, sz_, ppgB_b7⟩, ppgX_0⟩ := ppgI_0.opn hk6_ hq8
    obtain ⟨ki_g, ne_g, ot_g, cnt_g, fi_g, la_g, ra_g, ru_g, gr_g, wi_g, fl_g, ve_g, na_g, nl_g, K_g, N_g, O_g, RR_g, NA_g, NL_g, hb7, hki_g, hne_g, hot_g, hra_g, hna_g, hnl_g, cq_g, hpu_g, hp_g, hr_g, hch_g, cru_g, ck9_g, cfi_g, cgr_g, cfl_g, hpo_g, hmi_g, hvc_g, cve_g, jnl_g, hiv_g, hmn_g, jna_g, hla_g, hpv_g, cv1_g, hkk_g, hoc_g, csz_g⟩ := ppgB_b7
    have hmn0_ := hmn_g
    obtain ⟨v9_, hmv_, hpm_⟩ := hmn0_
    obtain ⟨by_, co, re, ho, C, Rs, H, mc, hf_subject, hby_, hco, hre, hho, csu, hsu⟩ := psuI_f_subject
    have hz6_ : zT mr_s 6000 ≤ 18000 := zT_le (c := 6000) (by omega) rfl
    have hz2_ : zT mr_p 2000 ≤ 6000 := zT_le (c := 2000) (by omega) rfl
    refine ab_aload_n d_PW_replace_20 rfl ?_
    refine ab_aload_n d_PW_replace_21 rfl ?_
    refine ab_callV (d' := d - 1) (as := [vR b7]) (st := []) (r := _) (z_PW_readTemplate (o := o) (w_ := w_) (f_ready := f_ready) (f_tape := f_tape) (f_reader := f_reader) (f_programs := f_programs) (f_subject := f_subject) (f_spans := f_spans) (f_threads := f_threads) (f_marks := f_marks) (f_oneMind := f_oneMind) (f_states := f_states) (f_latest := f_latest) (f_matches := f_matches) (f_pieces := f_pieces) (f_template := f_template) (f_result := f_result) (f_spare := f_spare) (cmp := cmp) (ovs := ovs) (it_t := it_t) (sz_t := sz_t) (mr_t := mr_t) (F_t := F_t) (it_p := it_p) (sz_p := sz_p) (mr_p := mr_p) (F_p := F_p) (q := b7) (lq := (100 + 10 * k_)) (ki := ki_g) (ne := ne_g) (ot := ot_g) (cnt := cnt_g) (fi := fi_g) (la := la_g) (ra := ra_g) (ru := ru_g) (gr := gr_g) (wi := wi_g) (sz := sz_) (fl := fl_g) (ve := ve_g) (mi := mi_) (na := na_g) (nl := nl_g) (NA := NA_g) (NL := NL_g) hw_ hf_tape hit_t hf_template hit_p hb7 hna_g hnl_g (by omega) (by omega) (by omega) hbt (by omega) jnl_g jna_g (by omega) (by omega) (by omega) (by omega)) (fun oc G2 h => by rcases h with ⟨_, _, _, _, _, _, h, _⟩ <;> exact ⟨_, h⟩) (by omega) m_PW_readTemplate ml_PW_204 im_PW_readTemplate se_PW_readTemplate c_PW hw_.2.2 (Nat.le_of_ble_eq_true rfl) d_PW_replace_22 rfl ?_
    intro v G16 hq
    rcases hq with ⟨o17, v18, it219, sz220, mr221, F222, hv, hfk, hNf_template, hNit219, hq23, hq24, hq25, hq26, hq27, hq28⟩
    cases hv
    have hw_ := hfk.get hw_ (by decide)
    have hf_spans := hfk.get hf_spans (by decide)
    have h17 := hfk.get h17 (by decide)
    have hf_programs := hfk.get hf_programs (by decide)
    have hf_tape := hfk.get hf_tape (by decide)
    have hit_t := hfk.get hit_t (by decide)
    have hf_spare := hfk.get hf_spare (by simp only [List.mem_cons, List.not_mem_nil, or_false]; omega)
    have hit_s := hfk.get hit_s (by simp only [List.mem_cons, List.not_mem_nil, or_false]; omega)
    have hb7 := hfk.get hb7 (by simp only [List.mem_cons, List.not_mem_nil, or_false]; omega)
    have hki_g := hfk.get hki_g (by simp only [List.mem_cons, List.not_mem_nil, or_false]; omega)
    have hne_g := hfk.get hne_g (by simp only [List.mem_cons, List.not_mem_nil, or_false]; omega)
    have hot_g := hfk.get hot_g (by simp only [List.mem_cons, List.not_mem_nil, or_false]; omega)
    have hra_g := hfk.get hra_g (by simp only [List.mem_cons, List.not_mem_nil, or_false]; omega)
    have hna_g := hfk.get hna_g (by simp only [List.mem_cons, List.not_mem_nil, or_false]; omega)
    have hnl_g := hfk.get hnl_g (by simp only [List.mem_cons, List.not_mem_nil, or_false]; omega)
    have hf_subject := hfk.get hf_subject (by decide)
    have hby_ := hfk.get hby_ (by decide)
    have hco := hfk.get hco (by decide)
    have hre := hfk.get hre (by decide)
    have hho := hfk.get hho (by decide)
    have pthI_f_threads := thI.fr hfk pthI_f_threads (by decide) (by decide) (by decide) (by decide) (by decide) (by decide) (by decide) (by decide)
    have pmkI_f_marks := mkI.fr hfk pmkI_f_marks (by decide) (by decide) (by decide) (by decide)
    have pomI_f_oneMind := omI.fr hfk pomI_f_oneMind (by decide) (by decide) (by decide) (by decide) (by decide) (by decide) (by decide) (by decide)
    have pstI_f_states := stI.fr hfk pstI_f_states (by decide) (by decide) (by decide) (by decide) (by decide) (by decide) (by decide) (by decide) (by decide)
    have ppgX_0 := pgX.fr hfk ppgX_0 (fun xx hx => Or.inl ((show ∀ y ∈ ([75, 76] : List Nat), y < 100 by decide) xx hx))
    have hfr := hfr.tr hfk (by simp)
    have hq29 := hfk.1
    have hf_template := hNf_template
    have hit219 := hNit219
    change ab_W _ _ _ G16 25 [some (vR w_), some (vz sl), some (vR b7), none, none, none, none, none] [vz v18] _
    refine ab_istore_n d_PW_replace_25 (Nat.le_of_ble_eq_true rfl) (Nat.le_of_ble_eq_true rfl) rfl ?_
    change ab_W _ _ _ G16 26 [some (vR w_), some (vz sl), some (vR b7), some (vz v18), none, none, none, none] [] _
    have hz30 : zT mr221 2000 ≤ 6000 := zT_le (c := 2000) (by omega) rfl
    refine ab_aload_n d_PW_replace_26 rfl ?_
    refine ab_getf (fs := [vR f_ready, vR f_tape, vR f_reader, vR f_programs, vR f_subject, vR f_spans, vR f_threads, vR f_marks, vR f_oneMind, vR f_states, vR f_latest, vR f_matches, vR f_pieces, vR f_template, vR f_result, vR f_spare, vz cmp, vz ovs]) f_PW_18 d_PW_replace_27 hw_.2.2 rfl ?_
    refine ab_callV (d' := d - 1) (as := []) (st := []) (r := _) (z_RW_clear (o := o17) (r := f_tape) (b := it_t) (lr := 22) (lim := 2000) (sz := sz_t) hf_tape (by have h18 : ab_n0 = 18 := rfl; omega)) (fun oc G2 h => by rcases h with ⟨h, _⟩ <;> exact ⟨_, h⟩) (by omega) m_RW_clear ml_PW_120 im_RW_clear se_RW_clear c_RW hf_tape.2.2 (Nat.le_of_ble_eq_true rfl) d_PW_replace_30 rfl ?_
    intro v G31 hq
    rcases hq with ⟨hv, hfk, hlk, hsk, hNf_tape⟩
    cases hv
    have hw_ := hfk.get hw_ (by decide)
    have hf_spans := hfk.get hf_spans (by decide)
    have h17 := hfk.get h17 (by decide)
    have hf_programs := hfk.get hf_programs (by decide)
    have hit_t := hfk.get hit_t (by decide)
    have hf_template := hfk.get hf_template (by decide)
    have hf_spare := hfk.get hf_spare (by simp only [List.mem_cons, List.not_mem_nil, or_false]; omega)
    have hit_s := hfk.get hit_s (by simp only [List.mem_cons, List.not_mem_nil, or_false]; omega)
    have hb7 := hfk.get hb7 (by simp only [List.mem_cons, List.not_mem_nil, or_false]; omega)
    have hki_g := hfk.get hki_g (by simp only [List.mem_cons, List.not_mem_nil, or_false]; omega)
    have hne_g := hfk.get hne_g (by simp only [List.mem_cons, List.not_mem_nil, or_false]; omega)
    have hot_g := hfk.get hot_g (by simp only [List.mem_cons, List.not_mem_nil, or_false]; omega)
    have hra_g := hfk.get hra_g (by simp only [List.mem_cons, List.not_mem_nil, or_false]; omega)
    have hna_g := hfk.get hna_g (by simp only [List.mem_cons, List.not_mem_nil, or_false]; omega)
    have hnl_g := hfk.get hnl_g (by simp only [List.mem_cons, List.not_mem_nil, or_false]; omega)
    have hf_subject := hfk.get hf_subject (by decide)
    have hby_ := hfk.get hby_ (by decide)
    have hco := hfk.get hco (by decide)
    have hre := hfk.get hre (by decide)
    have hho := hfk.get hho (by decide)
    have hit219 := hfk.get hit219 (by decide)
    have pthI_f_threads := thI.fr hfk pthI_f_threads (by decide) (by decide) (by decide) (by decide) (by decide) (by decide) (by decide) (by decide)
    have pmkI_f_marks := mkI.fr hfk pmkI_f_marks (by decide) (by decide) (by decide) (by decide)
    have pomI_f_oneMind := omI.fr hfk pomI_f_oneMind (by decide) (by decide) (by decide) (by decide) (by decide) (by decide) (by decide) (by decide)
    have pstI_f_states := stI.fr hfk pstI_f_states (by decide) (by decide) (by decide) (by decide) (by decide) (by decide) (by decide) (by decide) (by decide)
    have ppgX_0 := pgX.fr hfk ppgX_0 (fun xx hx => Or.inl ((show ∀ y ∈ ([22] : List Nat), y < 100 by decide) xx hx))
    have hfr := hfr.tr hfk (by simp)
    have hq32 := hlk
    have hq33 := hsk
    have hf_tape := hNf_tape
    change ab_W _ _ _ G31 33 [some (vR w_), some (vz sl), some (vR b7), some (vz v18), none, none, none, none] [] _
    refine ab_iload_n d_PW_replace_33 rfl ?_
    refine zz_if_ne (tgt := 47) d_PW_replace_34 (by decide) (by omega) (fun c34 => ?_) (fun c34 => ?_)
    · obtain ⟨L9, htl_, hzl_, hrl_⟩ := rtE_1 hq26 (by omega)
      refine ab_aload_n d_PW_replace_47 rfl ?_
      refine ab_getf (fs := [vR f_ready, vR f_tape, vR f_reader, vR f_programs, vR f_subject, vR f_spans, vR f_threads, vR f_marks, vR f_oneMind, vR f_states, vR f_latest, vR f_matches, vR f_pieces, vR f_template, vR f_result, vR f_spare, vz cmp, vz ovs]) f_PW_88 d_PW_replace_48 hw_.2.2 rfl ?_
      refine ab_callV (d' := d - 1) (as := []) (st := []) (r := _) (z_RW_clear (o := o17) (r := f_spare) (b := it_s) (lr := ls_) (lim := 6000) (sz := sz_s) hf_spare (by have h18 : ab_n0 = 18 := rfl; omega)) (fun oc G2 h => by rcases h with ⟨h, _⟩ <;> exact ⟨_, h⟩) (by omega) m_RW_clear ml_PW_120 im_RW_clear se_RW_clear c_RW hf_spare.2.2 (Nat.le_of_ble_eq_true rfl) d_PW_replace_51 rfl ?_
      intro v G35 hq
      rcases hq with ⟨hv, hfk, hlk, hsk, hNf_spare⟩
      cases hv
      have hw_ := hfk.get hw_ (by simp only [List.mem_cons, List.not_mem_nil, or_false]; omega)
      have hf_spans := hfk.get hf_spans (by simp only [List.mem_cons, List.not_mem_nil, or_false]; omega)
      have h17 := hfk.get h17 (by simp only [List.mem_cons, List.not_mem_nil, or_false]; omega)
      have hf_programs := hfk.get hf_programs (by simp only [List.mem_cons, List.not_mem_nil, or_false]; omega)
      have hf_tape := hfk.get hf_tape (by simp only [List.mem_cons, List.not_mem_nil, or_false]; omega)
      have hit_t := hfk.get hit_t (by simp only [List.mem_cons, List.not_mem_nil, or_false]; omega)
      have hf_template := hfk.get hf_template (by simp only [List.mem_cons, List.not_mem_nil, or_false]; omega)
      have hit_s := hfk.get hit_s (by simp only [List.mem_cons, List.not_mem_nil, or_false]; omega)
      have hb7 := hfk.get hb7 (by simp only [List.mem_cons, List.not_mem_nil, or_false]; omega)
      have hki_g := hfk.get hki_g (by simp only [List.mem_cons, List.not_mem_nil, or_false]; omega)
      have hne_g := hfk.get hne_g (by simp only [List.mem_cons, List.not_mem_nil, or_false]; omega)
      have hot_g := hfk.get hot_g (by simp only [List.mem_cons, List.not_mem_nil, or_false]; omega)
      have hra_g := hfk.get hra_g (by simp only [List.mem_cons, List.not_mem_nil, or_false]; omega)
      have hna_g := hfk.get hna_g (by simp only [List.mem_cons, List.not_mem_nil, or_false]; omega)
      have hnl_g := hfk.get hnl_g (by simp only [List.mem_cons, List.not_mem_nil, or_false]; omega)
      have hf_subject := hfk.get hf_subject (by simp only [List.mem_cons, List.not_mem_nil, or_false]; omega)
      have hby_ := hfk.get hby_ (by simp only [List.mem_cons, List.not_mem_nil, or_false]; omega)
      have hco := hfk.get hco (by simp only [List.mem_cons, List.not_mem_nil, or_false]; omega)
      have hre := hfk.get hre (by simp only [List.mem_cons, List.not_mem_nil, or_false]; omega)
      have hho := hfk.get hho (by simp only [List.mem_cons, List.not_mem_nil, or_false]; omega)
      have hit219 := hfk.get hit219 (by simp only [List.mem_cons, List.not_mem_nil, or_false]; omega)
      have pthI_f_threads := thI.fr hfk pthI_f_threads (by simp only [List.mem_cons, List.not_mem_nil, or_false]; omega) (by simp only [List.mem_cons, List.not_mem_nil, or_false]; omega) (by simp only [List.mem_cons, List.not_mem_nil, or_false]; omega) (by simp only [List.mem_cons, List.not_mem_nil, or_false]; omega) (by simp only [List.mem_cons, List.not_mem_nil, or_false]; omega) (by simp only [List.mem_cons, List.not_mem_nil, or_false]; omega) (by simp only [List.mem_cons, List.not_mem_nil, or_false]; omega) (by simp only [List.mem_cons, List.not_mem_nil, or_false]; omega)
      have pmkI_f_marks := mkI.fr hfk pmkI_f_marks (by simp only [List.mem_cons, List.not_mem_nil, or_false]; omega) (by simp only [List.mem_cons, List.not_mem_nil, or_false]; omega) (by simp only [List.mem_cons, List.not_mem_nil, or_false]; omega) (by simp only [List.mem_cons, List.not_mem_nil, or_false]; omega)
      have pomI_f_oneMind := omI.fr hfk pomI_f_oneMind (by simp only [List.mem_cons, List.not_mem_nil, or_false]; omega) (by simp only [List.mem_cons, List.not_mem_nil, or_false]; omega) (by simp only [List.mem_cons, List.not_mem_nil, or_false]; omega) (by simp only [List.mem_cons, List.not_mem_nil, or_false]; omega) (by simp only [List.mem_cons, List.not_mem_nil, or_false]; omega) (by simp only [List.mem_cons, List.not_mem_nil, or_false]; omega) (by simp only [List.mem_cons, List.not_mem_nil, or_false]; omega) (by simp only [List.mem_cons, List.not_mem_nil, or_false]; omega)
      have pstI_f_states := stI.fr hfk pstI_f_states (by simp only [List.mem_cons, List.not_mem_nil, or_false]; omega) (by simp only [List.mem_cons, List.not_mem_nil, or_false]; omega) (by simp only [List.mem_cons, List.not_mem_nil, or_false]; omega) (by simp only [List.mem_cons, List.not_mem_nil, or_false]; omega) (by simp only [List.mem_cons, List.not_mem_nil, or_false]; omega) (by simp only [List.mem_cons, List.not_mem_nil, or_false]; omega) (by simp only [List.mem_cons, List.not_mem_nil, or_false]; omega) (by simp only [List.mem_cons, List.not_mem_nil, or_false]; omega) (by simp only [List.mem_cons, List.not_mem_nil, or_false]; omega)
      have ppgX_0 := pgX.fr hfk ppgX_0  (by intro xx hx; simp only [List.mem_cons, List.not_mem_nil, or_false] at hx; omega)
      have hfr := hfr.tr hfk (by simp)
      have hq36 := hlk
      have hq37 := hsk
      have hf_spare := hNf_spare
      change ab_W _ _ _ G35 54 [some (vR w_), some (vz sl), some (vR b7), some (vz v18), none, none, none, none] [] _
      refine zz_iconst d_PW_replace_54 ?_
      refine ab_istore d_PW_replace_55 (Nat.le_of_ble_eq_true rfl) (Nat.le_of_ble_eq_true rfl) rfl ?_
      change ab_W _ _ _ G35 57 [some (vR w_), some (vz sl), some (vR b7), some (vz v18), some (vz (-1)), none, none, none] [] _
      refine zz_iconst d_PW_replace_57 ?_
      refine ab_istore d_PW_replace_58 (Nat.le_of_ble_eq_true rfl) (Nat.le_of_ble_eq_true rfl) rfl ?_
      change ab_W _ _ _ G35 60 [some (vR w_), some (vz sl), some (vR b7), some (vz v18), some (vz (-1)), some (vz 0), none, none] [] _
      refine zz_iconst d_PW_replace_60 ?_
      refine ab_istore d_PW_replace_61 (Nat.le_of_ble_eq_true rfl) (Nat.le_of_ble_eq_true rfl) rfl ?_
      change ab_W _ _ _ G35 63 [some (vR w_), some (vz sl), some (vR b7), some (vz v18), some (vz (-1)), some (vz 0), some (vz 1), none] [] _
      refine ab_aload_n d_PW_replace_63 rfl ?_
      refine ab_getf (fs := [vR f_ready, vR f_tape, vR f_reader, vR f_programs, vR f_subject, vR f_spans, vR f_threads, vR f_marks, vR f_oneMind, vR f_states, vR f_latest, vR f_matches, vR f_pieces, vR f_template, vR f_result, vR f_spare, vz cmp, vz ovs]) f_PW_55 d_PW_replace_64 hw_.2.2 rfl ?_
      refine ab_aload_n d_PW_replace_67 rfl ?_
      refine ab_aload_n d_PW_replace_68 rfl ?_
      refine ab_getf (fs := [vR f_ready, vR f_tape, vR f_reader, vR f_programs, vR f_subject, vR f_spans, vR f_threads, vR f_marks, vR f_oneMind, vR f_states, vR f_latest, vR f_matches, vR f_pieces, vR f_template, vR f_result, vR f_spare, vz cmp, vz ovs]) f_PW_38 d_PW_replace_69 hw_.2.2 rfl ?_
      refine zz_iconst d_PW_replace_72 ?_
      refine zz_iconst d_PW_replace_73 ?_
      refine ab_aload_n d_PW_replace_74 rfl ?_
      refine ab_getf (fs := [vR f_ready, vR f_tape, vR f_reader, vR f_programs, vR f_subject, vR f_spans, vR f_threads, vR f_marks, vR f_oneMind, vR f_states, vR f_latest, vR f_matches, vR f_pieces, vR f_template, vR f_result, vR f_spare, vz cmp, vz ovs]) f_PW_42 d_PW_replace_75 hw_.2.2 rfl ?_
      obtain ⟨wk_k, mk_k, stk_k, w_k, df_k, dp_k, fo_k, fy_k, hw_k, WK_k, M_k, SK_k, sp0_k, q0_k, s0_k, hf_marks, hwk_k, hmk_k, hstk_k, cn_k, hst_k, cfo_k, cst0_k⟩ := pmkI_f_marks
      refine ab_callV (d' := d - 1) (as := [vR b7, vR f_subject, vz 0, vz 0, vR f_spans]) (st := []) (r := _) (z_MK_begin (o := o17) (q := b7) (lq := (100 + 10 * k_)) (ki := ki_g) (ne := ne_g) (ot := ot_g) (cnt := cnt_g) (fi := fi_g) (la := la_g) (ra := ra_g) (ru := ru_g) (gr := gr_g) (wi := wi_g) (sz := sz_) (fl := fl_g) (ve := ve_g) (mi := mi_) (na := na_g) (nl := nl_g) (s := f_subject) (by_ := by_) (co := co) (re := re) (ho := ho) (n := n) (a := f_marks) (sp := f_spans) (wk := wk_k) (mk := mk_k) (stk := stk_k) (dp := dp_k) (fo := fo_k) (hw := 0) (stp := 0) (M := M_k) (nm := nm) (q0 := q0_k) (s0 := s0_k) (sp0 := sp0_k) (from_ := 0) (hw0 := hw_k) (fy0 := fy_k) (w0 := w_k) (df0 := df_k) hf_marks hmk_k hb7 hf_subject (by omega) (by omega) (by omega) (by omega) (by omega) (by omega) (by omega)) (fun oc G2 h => by rcases h with ⟨_, _, _, _, _, _, h, _⟩ <;> exact ⟨_, h⟩) (by omega) m_MK_begin ml_PW_189 im_MK_begin se_MK_begin c_MK hf_marks.2.2 (Nat.le_of_ble_eq_true rfl) d_PW_replace_78 rfl ?_
      intro v G38 hq
      rcases hq with ⟨o39, w240, fy241, mk242, nm243, M244, hv, hfk, hNf_marks, hNmk242, hq45, hq46, hq47, hq48, hq49, hq50, hq51⟩
      cases hv
      have hw_ := hfk.get hw_ (by decide)
      have hf_spans := hfk.get hf_spans (by decide)
      have h17 := hfk.get h17 (by decide)
      have hf_programs := hfk.get hf_programs (by decide)
      have hf_tape := hfk.get hf_tape (by decide)
      have hit_t := hfk.get hit_t (by decide)
      have hf_template := hfk.get hf_template (by decide)
      have hf_spare := hfk.get hf_spare (by simp only [List.mem_cons, List.not_mem_nil, or_false]; omega)
      have hit_s := hfk.get hit_s (by simp only [List.mem_cons, List.not_mem_nil, or_false]; omega)
      have hb7 := hfk.get hb7 (by simp only [List.mem_cons, List.not_mem_nil, or_false]; omega)
      have hki_g := hfk.get hki_g (by simp only [List.mem_cons, List.not_mem_nil, or_false]; omega)
      have hne_g := hfk.get hne_g (by simp only [List.mem_cons, List.not_mem_nil, or_false]; omega)
      have hot_g := hfk.get hot_g (by simp only [List.mem_cons, List.not_mem_nil, or_false]; omega)
      have hra_g := hfk.get hra_g (by simp only [List.mem_cons, List.not_mem_nil, or_false]; omega)
      have hna_g := hfk.get hna_g (by simp only [List.mem_cons, List.not_mem_nil, or_false]; omega)
      have hnl_g := hfk.get hnl_g (by simp only [List.mem_cons, List.not_mem_nil, or_false]; omega)
      have hf_subject := hfk.get hf_subject (by decide)
      have hby_ := hfk.get hby_ (by decide)
      have hco := hfk.get hco (by decide)
      have hre := hfk.get hre (by decide)
      have hho := hfk.get hho (by decide)
      have hit219 := hfk.get hit219 (by decide)
      have hwk_k := hfk.get hwk_k (by decide)
      have hstk_k := hfk.get hstk_k (by decide)
      have pthI_f_threads := thI.fr hfk pthI_f_threads (by decide) (by decide) (by decide) (by decide) (by decide) (by decide) (by decide) (by decide)
      have pomI_f_oneMind := omI.fr hfk pomI_f_oneMind (by decide) (by decide) (by decide) (by decide) (by decide) (by decide) (by decide) (by decide)
      have pstI_f_states := stI.fr hfk pstI_f_states (by decide) (by decide) (by decide) (by decide) (by decide) (by decide) (by decide) (by decide) (by decide)
      have ppgX_0 := pgX.fr hfk ppgX_0 (fun xx hx => Or.inl ((show ∀ y ∈ ([44, 46] : List Nat), y < 100 by decide) xx hx))
      have hfr := hfr.tr hfk (by simp)
      have hq52 := hfk.1
      have hf_marks := hNf_marks
      have hmk242 := hNmk242
      change ab_W _ _ _ G38 81 [some (vR w_), some (vz sl), some (vR b7), some (vz v18), some (vz (-1)), some (vz 0), some (vz 1), none] [] _
      have hub_ := ucn_b (M := M244) (w := w240) (df := 0) (n := n) (by omega) (by omega)
      have pmkB_f_marks : mkB o39 G38 f_marks b7 f_subject f_spans nm243 ns cnt_g n 0 (ucn M244 w240 0 n) K_g N_g O_g RR_g f 0 fy241 0 := ⟨wk_k, mk242, stk_k, w240, 0, dp_k, fo_k, WK_k, M244, SK_k, hf_marks, hwk_k, hmk242, hstk_k, (by omega), hst_k, (by omega), (by omega), (by omega), (by omega), (ddC_0 (by omega)), (by omega), (by omega)⟩
      have hzt2_ : zT nm243 52026 ≤ 156078 := zT_le (c := 52026) (by omega) rfl
      refine zz_iconst d_PW_replace_81 ?_
      refine ab_istore d_PW_replace_82 (Nat.le_of_ble_eq_true rfl) (Nat.le_of_ble_eq_true rfl) rfl ?_
      change ab_W _ _ _ G38 84 [some (vR w_), some (vz sl), some (vR b7), some (vz v18), some (vz (-1)), some (vz 0), some (vz 1), some (vz 0)] [] _
      refine ab_less (L' := [some (vR w_), none, some (vR b7), none, some (vz (-1)), some (vz 0), some (vz 1), some (vz 0)]) (fun i v h => by rcases i with _ | _ | _ | _ | _ | _ | _ | _ | i <;> first | exact h | (simp at h)) ?_
      refine y_PW_replace_84 (w_ := w_) (f_ready := f_ready) (f_tape := f_tape) (f_reader := f_reader) (f_programs := f_programs) (f_subject := f_subject) (f_spans := f_spans) (f_threads := f_threads) (f_marks := f_marks) (f_oneMind := f_oneMind) (f_states := f_states) (f_latest := f_latest) (f_matches := f_matches) (f_pieces := f_pieces) (f_template := f_template) (f_result := f_result) (f_spare := f_spare) (cmp := cmp) (ovs := ovs) (q := b7) (lq := (100 + 10 * k_)) (ki := ki_g) (ne := ne_g) (ot := ot_g) (cnt := cnt_g) (fi := fi_g) (la := la_g) (ra := ra_g) (ru := ru_g) (gr := gr_g) (wi := wi_g) (sz := sz_) (fl := fl_g) (ve := ve_g) (mi := mi_) (K := K_g) (N := N_g) (O := O_g) (RR := RR_g) (nr := (NR k_)) (na := na_g) (nl := nl_g) (nm := nm243) (n := n) (m := m) (f := f) (by_ := by_) (co := co) (re := re) (ho := ho) (C := C) (Rs := Rs) (H := H) (mc := mc) (it_p := it219) (sz_p := sz220) (mr_p := mr221) (F_p := F222) (L9 := L9) (ls_ := ls_) (ns0 := ns) (mr0 := mr_s) (fy := fy241) (hw := 0) (v9 := v9_) (st0 := 0) (un0 := (ucn M244 w240 0 n)) (G0 := G38) (ns := ns) (SP := SP) (it_s := it_s) (sz_s := 0) (mr_s := mr_s) (F_s := F_s) (bf := (-1)) (ct_ := 0) (fits := 1) (tu := 0) (dd := 0) (stm := 0) (un := (ucn M244 w240 0 n)) (by omega) (by omega) hp_g hr_g (by omega) (by omega) (by omega) hsu (by omega) (by omega) (by omega) (by omega) (by omega) (by omega) hq25 hrl_ hzl_ (lsB_of htl_ hbt (by omega) (by omega)) (mnV_ok hmv_) (by omega) (by omega) (by omega) (Int.toNat (n + 1 - 0) + 1) hw_ hf_spans hb7 hki_g hne_g hot_g hra_g hf_subject hco hre hho hby_ hf_template hit219 hf_spare hit_s pmkB_f_marks (by omega) (rcI_0 rfl) jsp (by omega) (by omega) (by omega) (by omega) (by omega) mxA_0 fx.rf (by omega) (fun G53 o54 bf255 ct256 fits257 ns258 SP259 it260 sz261 mr262 F263 dd264 sm265 un266 hNf_spans hNf_spare hNit260 pNmkB_f_marks hq67 hq68 hq69 hq70 hq71 hq72 hq73 hfk => ?_)
      · have hw_ := hfk.get hw_ (by simp only [List.mem_cons, List.not_mem_nil, or_false]; omega)
        have h17 := hfk.get h17 (by simp only [List.mem_cons, List.not_mem_nil, or_false]; omega)
        have hf_programs := hfk.get hf_programs (by simp only [List.mem_cons, List.not_mem_nil, or_false]; omega)
        have hf_tape := hfk.get hf_tape (by simp only [List.mem_cons, List.not_mem_nil, or_false]; omega)
        have hit_t := hfk.get hit_t (by simp only [List.mem_cons, List.not_mem_nil, or_false]; omega)
        have hf_template := hfk.get hf_template (by simp only [List.mem_cons, List.not_mem_nil, or_false]; omega)
        have hb7 := hfk.get hb7 (by simp only [List.mem_cons, List.not_mem_nil, or_false]; omega)
        have hki_g := hfk.get hki_g (by simp only [List.mem_cons, List.not_mem_nil, or_false]; omega)
        have hne_g := hfk.get hne_g (by simp only [List.mem_cons, List.not_mem_nil, or_false]; omega)
        have hot_g := hfk.get hot_g (by simp only [List.mem_cons, List.not_mem_nil, or_false]; omega)
        have hra_g := hfk.get hra_g (by simp only [List.mem_cons, List.not_mem_nil, or_false]; omega)
        have hna_g := hfk.get hna_g (by simp only [List.mem_cons, List.not_mem_nil, or_false]; omega)
        have hnl_g := hfk.get hnl_g (by simp only [List.mem_cons, List.not_mem_nil, or_false]; omega)
        have hf_subject := hfk.get hf_subject (by simp only [List.mem_cons, List.not_mem_nil, or_false]; omega)
        have hby_ := hfk.get hby_ (by simp only [List.mem_cons, List.not_mem_nil, or_false]; omega)
        have hco := hfk.get hco (by simp only [List.mem_cons, List.not_mem_nil, or_false]; omega)
        have hre := hfk.get hre (by simp only [List.mem_cons, List.not_mem_nil, or_false]; omega)
        have hho := hfk.get hho (by simp only [List.mem_cons, List.not_mem_nil, or_false]; omega)
        have hit219 := hfk.get hit219 (by simp only [List.mem_cons, List.not_mem_nil, or_false]; omega)
        have pthI_f_threads := thI.fr hfk pthI_f_threads (by simp only [List.mem_cons, List.not_mem_nil, or_false]; omega) (by simp only [List.mem_cons, List.not_mem_nil, or_false]; omega) (by simp only [List.mem_cons, List.not_mem_nil, or_false]; omega) (by simp only [List.mem_cons, List.not_mem_nil, or_false]; omega) (by simp only [List.mem_cons, List.not_mem_nil, or_false]; omega) (by simp only [List.mem_cons, List.not_mem_nil, or_false]; omega) (by simp only [List.mem_cons, List.not_mem_nil, or_false]; omega) (by simp only [List.mem_cons, List.not_mem_nil, or_false]; omega)
        have pomI_f_oneMind := omI.fr hfk pomI_f_oneMind (by simp only [List.mem_cons, List.not_mem_nil, or_false]; omega) (by simp only [List.mem_cons, List.not_mem_nil, or_false]; omega) (by simp only [List.mem_cons, List.not_mem_nil, or_false]; omega) (by simp only [List.mem_cons, List.not_mem_nil, or_false]; omega) (by simp only [List.mem_cons, List.not_mem_nil, or_false]; omega) (by simp only [List.mem_cons, List.not_mem_nil, or_false]; omega) (by simp only [List.mem_cons, List.not_mem_nil, or_false]; omega) (by simp only [List.mem_cons, List.not_mem_nil, or_false]; omega)
        have pstI_f_states := stI.fr hfk pstI_f_states (by simp only [List.mem_cons, List.not_mem_nil, or_false]; omega) (by simp only [List.mem_cons, List.not_mem_nil, or_false]; omega) (by simp only [List.mem_cons, List.not_mem_nil, or_false]; omega) (by simp only [List.mem_cons, List.not_mem_nil, or_false]; omega) (by simp only [List.mem_cons, List.not_mem_nil, or_false]; omega) (by simp only [List.mem_cons, List.not_mem_nil, or_false]; omega) (by simp only [List.mem_cons, List.not_mem_nil, or_false]; omega) (by simp only [List.mem_cons, List.not_mem_nil, or_false]; omega) (by simp only [List.mem_cons, List.not_mem_nil, or_false]; omega)
        have ppgX_0 := pgX.fr hfk ppgX_0  (by intro xx hx; simp only [List.mem_cons, List.not_mem_nil, or_false] at hx; omega)
        have hfr := hfr.tr hfk (by simp)
        have hq74 := hfk.1
        have hf_spans := hNf_spans
        have hf_spare := hNf_spare
        have hit260 := hNit260
        have pmkB_f_marks := pNmkB_f_marks
        change ab_W _ _ _ G53 170 [some (vR w_), none, some (vR b7), none, some (vz bf255), some (vz ct256), some (vz fits257), none] [] _
        obtain ⟨wk_e, mk_e, stk_e, w_e, df_e, dp_e, fo_e, WK_e, M_e, SK_e, hf_marks, hwk_e, hmk_e, hstk_e, cn_e, hst_e, cf_e, cw_e, cm_e, cd_e, hdd_e, cst0_e, hun_e⟩ := pmkB_f_marks
        have hub2_ := ucn_b (M := M_e) (w := w_e) (df := df_e) (n := n) (by omega) (by omega)
        have pmkI_f_marks : mkI o54 G53 f_marks nm243 ns258 sm265 := ⟨wk_e, mk_e, stk_e, w_e, df_e, dp_e, fo_e, fy241, 0, WK_e, M_e, SK_e, vR f_spans, vR b7, vR f_subject, hf_marks, hwk_e, hmk_e, hstk_e, (by omega), hst_e, (by omega), (by omega)⟩
        have hq75 := stT_le ns258
        have hq76 := stC_le ns258
        have hq77 := onPQ_le on
        have hq78 := onSQ_le on
        have hz79 : zT mr262 6000 ≤ 18000 := zT_le (c := 6000) (by omega) rfl
        refine ab_aload_n d_PW_replace_170 rfl ?_
        refine ab_aload_n d_PW_replace_171 rfl ?_
        refine ab_getf (fs := [vR ki_g, vR ne_g, vR ot_g, vz cnt_g, vz fi_g, vz la_g, vR ra_g, vz ru_g, vz gr_g, vz wi_g, vz sz_, vz fl_g, vz ve_g, vz mi_, vR na_g, vR nl_g]) f_PW_152 d_PW_replace_172 hb7.2.2 rfl ?_
        refine ab_iload d_PW_replace_175 rfl ?_
        have psuI_f_subject : suI o54 G53 f_subject n m f := ⟨by_, co, re, ho, C, Rs, H, mc, hf_subject, hby_, hco, hre, hho, (by omega), hsu⟩
        refine ab_callV (d' := d - 1) (as := [vz sz_, vz ct256]) (st := []) (r := _) (z_PW_settle (o := o54) (w_ := w_) (f_ready := f_ready) (f_tape := f_tape) (f_reader := f_reader) (f_programs := f_programs) (f_subject := f_subject) (f_spans := f_spans) (f_threads := f_threads) (f_marks := f_marks) (f_oneMind := f_oneMind) (f_states := f_states) (f_latest := f_latest) (f_matches := f_matches) (f_pieces := f_pieces) (f_template := f_template) (f_result := f_result) (f_spare := f_spare) (cmp := cmp) (ovs := ovs) (sb := sb) (cv := cv) (on := on) (nm := nm243) (ns := ns258) (nt := nt) (n := n) (m := m) (f := f) (z1 := sz_) (z2 := ct256) (stt := 0) (stm := sm265) (sto := 0) (sts := 0) hw_ pthI_f_threads pmkI_f_marks pomI_f_oneMind pstI_f_states psuI_f_subject (by omega) (by omega) (cmo_k (by omega) (by omega) (by omega) (by omega)) (by omega)) (fun oc G2 h => by rcases h with ⟨h, _⟩ <;> exact ⟨_, h⟩) (by omega) m_PW_settle ml_PW_175 im_PW_settle se_PW_settle c_PW hw_.2.2 (Nat.le_of_ble_eq_true rfl) d_PW_replace_177 rfl ?_
        intro v G80 hq
        rcases hq with ⟨hv, hfk, hlk, hsk, hNw_, pNthI_f_threads, pNmkI_f_marks, pNomI_f_oneMind, pNstI_f_states, pNsuI_f_subject⟩
        cases hv
        have hf_spans := hfk.get hf_spans (by decide)
        have h17 := hfk.get h17 (by decide)
        have hf_programs := hfk.get hf_programs (by decide)
        have hf_tape := hfk.get hf_tape (by decide)
        have hit_t := hfk.get hit_t (by decide)
        have hf_template := hfk.get hf_template (by decide)
        have hf_spare := hfk.get hf_spare (by simp only [List.mem_cons, List.not_mem_nil, or_false]; omega)
        have hb7 := hfk.get hb7 (by simp only [List.mem_cons, List.not_mem_nil, or_false]; omega)
        have hki_g := hfk.get hki_g (by simp only [List.mem_cons, List.not_mem_nil, or_false]; omega)
        have hne_g := hfk.get hne_g (by simp only [List.mem_cons, List.not_mem_nil, or_false]; omega)
        have hot_g := hfk.get hot_g (by simp only [List.mem_cons, List.not_mem_nil, or_false]; omega)
        have hra_g := hfk.get hra_g (by simp only [List.mem_cons, List.not_mem_nil, or_false]; omega)
        have hna_g := hfk.get hna_g (by simp only [List.mem_cons, List.not_mem_nil, or_false]; omega)
        have hnl_g := hfk.get hnl_g (by simp only [List.mem_cons, List.not_mem_nil, or_false]; omega)
        have hit219 := hfk.get hit219 (by decide)
        have hit260 := hfk.get hit260 (by simp only [List.mem_cons, List.not_mem_nil, or_false]; omega)
        have ppgX_0 := pgX.fr hfk ppgX_0 (fun xx hx => Or.inl ((show ∀ y ∈ ([18, 32, 44, 50, 60] : List Nat), y < 100 by decide) xx hx))
        have pthI_f_threads := pNthI_f_threads
        have pmkI_f_marks := pNmkI_f_marks
        have pomI_f_oneMind := pNomI_f_oneMind
        have pstI_f_states := pNstI_f_states
        have psuI_f_subject := pNsuI_f_subject
        have hfr := hfr.tr hfk (by simp)
        have hq81 := hlk
        have hq82 := hsk
        have hw_ := hNw_
        change ab_W _ _ _ G80 180 [some (vR w_), none, some (vR b7), none, some (vz bf255), some (vz ct256), some (vz fits257), none] [] _
        refine ab_iload d_PW_replace_180 rfl ?_
        refine zz_if_eq (tgt := 215) d_PW_replace_182 (by decide) (by omega) (fun c83 => ?_) (fun c83 => ?_)
        · have hmq_ : onq mi_ on := hmi_g
          have ppgB_b7 : pgB o54 G80 b7 (100 + 10 * k_) (NR k_) cv cmp on mi_ sz_ := ⟨ki_g, ne_g, ot_g, cnt_g, fi_g, la_g, ra_g, ru_g, gr_g, wi_g, fl_g, ve_g, na_g, nl_g, K_g, N_g, O_g, RR_g, NA_g, NL_g, hb7, hki_g, hne_g, hot_g, hra_g, hna_g, hnl_g, (by omega), hpu_g, hp_g, hr_g, hch_g, (by omega), (by omega), (by omega), (by omega), (by omega), hpo_g, hmq_, (by omega), (by omega), jnl_g, hiv_g, hmn_g, jna_g, hla_g, hpv_g, (by omega), hkk_g, hoc_g, (by omega)⟩
          have ppgI_0 := ppgX_0.cls hq8 ppgB_b7
          refine ab_throw (tx := "too much output") (by decide) (fun c h => h) cl_PW_109 inst_IA ini_IA tw_PW_113 d_PW_replace_215 d_PW_replace_218 d_PW_replace_219 d_PW_replace_221 d_PW_replace_224 (by omega) (by omega) (by omega) ?_
          obtain ⟨G84, eG84⟩ : ∃ z : ab_G, z = G80 ++ [.inr (13, [])] := ⟨_, rfl⟩
          obtain ⟨o85, eo85⟩ : ∃ z : Nat → Nat, z = ol o54 G80.length 99 := ⟨_, rfl⟩
          obtain ⟨a86, ea86⟩ : ∃ z : Nat, z = G80.length := ⟨_, rfl⟩
          have hq87 := hit260.n0 (by first | decide | omega)
          have ne_a86_w_ : nq a86 w_ := by have hlt := hw_.lt; unfold nq; omega
          have ne_a86_f_spans : nq a86 f_spans := by have hlt := hf_spans.lt; unfold nq; omega
          have ne_a86_17 : nq a86 17 := by have hlt := h17.lt; unfold nq; omega
          have ne_a86_f_programs : nq a86 f_programs := by have hlt := hf_programs.lt; unfold nq; omega
          have ne_a86_f_tape : nq a86 f_tape := by have hlt := hf_tape.lt; unfold nq; omega
          have ne_a86_it_t : nq a86 it_t := by have hlt := hit_t.lt; unfold nq; omega
          have ne_a86_f_template : nq a86 f_template := by have hlt := hf_template.lt; unfold nq; omega
          have ne_a86_f_spare : nq a86 f_spare := by have hlt := hf_spare.lt; unfold nq; omega
          have ne_a86_it219 : nq a86 it219 := by have hlt := hit219.lt; unfold nq; omega
          have ne_a86_it260 : nq a86 it260 := by have hlt := hit260.lt; unfold nq; omega
          have hw_ := hw_.akeep (k := 99) eG84
          rw [← eo85] at hw_
          have hf_spans := hf_spans.akeep (k := 99) eG84
          rw [← eo85] at hf_spans
          have h17 := h17.akeep (k := 99) eG84
          rw [← eo85] at h17
          have hf_programs := hf_programs.akeep (k := 99) eG84
          rw [← eo85] at hf_programs
          have hf_tape := hf_tape.akeep (k := 99) eG84
          rw [← eo85] at hf_tape
          have hit_t := hit_t.akeep (k := 99) eG84
          rw [← eo85] at hit_t
          have hf_template := hf_template.akeep (k := 99) eG84
          rw [← eo85] at hf_template
          have hf_spare := hf_spare.akeep (k := 99) eG84
          rw [← eo85] at hf_spare
          have hit219 := hit219.akeep (k := 99) eG84
          rw [← eo85] at hit219
          have hit260 := hit260.akeep (k := 99) eG84
          rw [← eo85] at hit260
          have hst := (fx.rf (o := o54) (S := []) (G := G80)).ap (k := 99) eG84
          rw [← eo85] at hst
          have pthI_f_threads := thI.fr hst pthI_f_threads (by decide) (by decide) (by decide) (by decide) (by decide) (by decide) (by decide) (by decide)
          have pomI_f_oneMind := omI.fr hst pomI_f_oneMind (by decide) (by decide) (by decide) (by decide) (by decide) (by decide) (by decide) (by decide)
          have pstI_f_states := stI.fr hst pstI_f_states (by decide) (by decide) (by decide) (by decide) (by decide) (by decide) (by decide) (by decide) (by decide)
          have pmkI_f_marks := mkI.fr hst pmkI_f_marks (by decide) (by decide) (by decide) (by decide)
          have psuI_f_subject := suI.fr hst psuI_f_subject (by decide) (by decide) (by decide) (by decide) (by decide)
          have ppgI_0 := pgI.fr hst ppgI_0  (by simp)
          have ha86 := cc.anew (o := o54) 99 eG84 hq87
          rw [← eo85, ← ea86] at ha86
          have hfr := hfr.ap (k := 99) eG84
          rw [← eo85] at hfr
          have hq88 := z_alen eG84
          have hq89 : ab_slots G84 = ab_slots G80 + 6 := z_asl eG84 hq87
          rw [← ea86, ← eG84]
          rw [hQ]; exact (Or.inl ⟨_, _, _, _, _, _, _, _, _, _, _, _, _, _, rfl, hfr, hw_, hf_spans, hf_tape, hf_template, hit219, hf_spare, hit260, pthI_f_threads, pmkI_f_marks, pomI_f_oneMind, pstI_f_states, psuI_f_subject, ppgI_0, (by exact ha86.2.2), (by exact rpC_x hk_ hq8 (by omega) hmv_ hpm_ hsu.1 (by omega) hq49 (by omega) (by omega) hiv_g jnl_g (by omega) htl_ (rc_o (F2 := fun _ => 0) (sz2 := 0) hq67 (by omega))), (by exact Or.inl ⟨_, by omega, by omega, (by rw [← hk_]; exact hq8), rfl⟩), (by exact hq69), (by omega), (by omega), (by omega), (by omega), (by omega)⟩)
        · obtain ⟨by__r, co_r, re_r, ho_r, C_r, Rs_r, H_r, mc_r, hf_subject, hby__r, hco_r, hre_r, hho_r, csu_r, hsu_r⟩ := psuI_f_subject
          refine ab_aload_n d_PW_replace_185 rfl ?_
          refine ab_getf (fs := [vR f_ready, vR f_tape, vR f_reader, vR f_programs, vR f_subject, vR f_spans, vR f_threads, vR f_marks, vR f_oneMind, vR f_states, vR f_latest, vR f_matches, vR f_pieces, vR f_template, vR f_result, vR f_spare, vz cmp, vz ovs]) f_PW_88 d_PW_replace_186 hw_.2.2 rfl ?_
          refine ab_aload_n d_PW_replace_189 rfl ?_
          refine ab_getf (fs := [vR f_ready, vR f_tape, vR f_reader, vR f_programs, vR f_subject, vR f_spans, vR f_threads, vR f_marks, vR f_oneMind, vR f_states, vR f_latest, vR f_matches, vR f_pieces, vR f_template, vR f_result, vR f_spare, vz cmp, vz ovs]) f_PW_38 d_PW_replace_190 hw_.2.2 rfl ?_
          refine ab_getf (fs := [vR by__r, vR co_r, vR re_r, vR ho_r, vz n]) f_PW_210 d_PW_replace_193 hf_subject.2.2 rfl ?_
          refine ab_iload d_PW_replace_196 rfl ?_
          refine zz_iconst d_PW_replace_198 ?_
          refine zz_mmax2 mj_PW_213 d_PW_replace_199 (by omega) (by decide) (Nat.le_of_ble_eq_true rfl) (by omega) (fun c90 => ?_) (fun c90 => ?_)
          · refine ab_aload_n d_PW_replace_202 rfl ?_
            refine ab_getf (fs := [vR f_ready, vR f_tape, vR f_reader, vR f_programs, vR f_subject, vR f_spans, vR f_threads, vR f_marks, vR f_oneMind, vR f_states, vR f_latest, vR f_matches, vR f_pieces, vR f_template, vR f_result, vR f_spare, vz cmp, vz ovs]) f_PW_38 d_PW_replace_203 hw_.2.2 rfl ?_
            refine ab_getf (fs := [vR by__r, vR co_r, vR re_r, vR ho_r, vz n]) f_PW_164 d_PW_replace_206 hf_subject.2.2 rfl ?_
            have hla_ : mxA 0 bf255 := by unfold mxA; omega
            refine ab_callV (d' := d - 1) (as := [vR by__r, vz 0, vz n]) (st := []) (r := _) (z2_RW_addAll (o := o54) (r := f_spare) (b := it260) (lr := ls_) (lb := (ls_ + 1)) (n := mr262) (lim := 6000) (sz := sz261) (f := F263) (a := by__r) (la := 27) (m := m) (q := f) (x := 0) (y := n) hf_spare hit260 hby__r (by omega) (by have h18 : ab_n0 = 18 := rfl; omega) (by omega) (by omega) (by omega) (by omega) (by omega)) (fun oc G2 h => by rcases h with ⟨h, _⟩ | ⟨_, _, _, _, h, _⟩ <;> exact ⟨_, h⟩) (by omega) m_RW_addAll ml_PW_105 im_RW_addAll se_RW_addAll c_RW hf_spare.2.2 (Nat.le_of_ble_eq_true rfl) d_PW_replace_209 rfl ?_
            intro v G91 hq
            rcases hq with ⟨hv, hGe, hq92⟩ | ⟨o93, b294, n295, f296, hv, hfk, hNf_spare, hNb294, hNby__r, hq97, hq98, hq99, hq100, hq101, hq102⟩
            · cases hv
              rw [hGe]
              change ab_W _ _ _ G80 212 [some (vR w_), none, some (vR b7), none, some (vz bf255), some (vz ct256), some (vz fits257), none] [vz 0] _
              refine zz_if_ne (tgt := 225) d_PW_replace_212 (by decide) (by decide) (fun c104 => absurd c104 (by decide)) (fun c104 => ?_)
              have psuI_f_subject : suI o54 G80 f_subject n m f := ⟨by__r, co_r, re_r, ho_r, C_r, Rs_r, H_r, mc_r, hf_subject, hby__r, hco_r, hre_r, hho_r, (by omega), hsu_r⟩
              have hmq_ : onq mi_ on := hmi_g
              have ppgB_b7 : pgB o54 G80 b7 (100 + 10 * k_) (NR k_) cv cmp on mi_ sz_ := ⟨ki_g, ne_g, ot_g, cnt_g, fi_g, la_g, ra_g, ru_g, gr_g, wi_g, fl_g, ve_g, na_g, nl_g, K_g, N_g, O_g, RR_g, NA_g, NL_g, hb7, hki_g, hne_g, hot_g, hra_g, hna_g, hnl_g, (by omega), hpu_g, hp_g, hr_g, hch_g, (by omega), (by omega), (by omega), (by omega), (by omega), hpo_g, hmq_, (by omega), (by omega), jnl_g, hiv_g, hmn_g, jna_g, hla_g, hpv_g, (by omega), hkk_g, hoc_g, (by omega)⟩
              have ppgI_0 := ppgX_0.cls hq8 ppgB_b7
              refine ab_throw (tx := "too much output") (by decide) (fun c h => h) cl_PW_109 inst_IA ini_IA tw_PW_113 d_PW_replace_215 d_PW_replace_218 d_PW_replace_219 d_PW_replace_221 d_PW_replace_224 (by omega) (by omega) (by omega) ?_
              obtain ⟨G105, eG105⟩ : ∃ z : ab_G, z = G80 ++ [.inr (13, [])] := ⟨_, rfl⟩
              obtain ⟨o106, eo106⟩ : ∃ z : Nat → Nat, z = ol o54 G80.length 99 := ⟨_, rfl⟩
              obtain ⟨a107, ea107⟩ : ∃ z : Nat, z = G80.length := ⟨_, rfl⟩
              have hq108 := hit260.n0 (by first | decide | omega)
              have ne_a107_w_ : nq a107 w_ := by have hlt := hw_.lt; unfold nq; omega
              have ne_a107_f_spans : nq a107 f_spans := by have hlt := hf_spans.lt; unfold nq; omega
              have ne_a107_17 : nq a107 17 := by have hlt := h17.lt; unfold nq; omega
              have ne_a107_f_programs : nq a107 f_programs := by have hlt := hf_programs.lt; unfold nq; omega
              have ne_a107_f_tape : nq a107 f_tape := by have hlt := hf_tape.lt; unfold nq; omega
              have ne_a107_it_t : nq a107 it_t := by have hlt := hit_t.lt; unfold nq; omega
              have ne_a107_f_template : nq a107 f_template := by have hlt := hf_template.lt; unfold nq; omega
              have ne_a107_f_spare : nq a107 f_spare := by have hlt := hf_spare.lt; unfold nq; omega
              have ne_a107_it219 : nq a107 it219 := by have hlt := hit219.lt; unfold nq; omega
              have ne_a107_it260 : nq a107 it260 := by have hlt := hit260.lt; unfold nq; omega
              have hw_ := hw_.akeep (k := 99) eG105
              rw [← eo106] at hw_
              have hf_spans := hf_spans.akeep (k := 99) eG105
              rw [← eo106] at hf_spans
              have h17 := h17.akeep (k := 99) eG105
              rw [← eo106] at h17
              have hf_programs := hf_programs.akeep (k := 99) eG105
              rw [← eo106] at hf_programs
              have hf_tape := hf_tape.akeep (k := 99) eG105
              rw [← eo106] at hf_tape
              have hit_t := hit_t.akeep (k := 99) eG105
              rw [← eo106] at hit_t
              have hf_template := hf_template.akeep (k := 99) eG105
              rw [← eo106] at hf_template
              have hf_spare := hf_spare.akeep (k := 99) eG105
              rw [← eo106] at hf_spare
              have hit219 := hit219.akeep (k := 99) eG105
              rw [← eo106] at hit219
              have hit260 := hit260.akeep (k := 99) eG105
              rw [← eo106] at hit260
              have hst := (fx.rf (o := o54) (S := []) (G := G80)).ap (k := 99) eG105
              rw [← eo106] at hst
              have pthI_f_threads := thI.fr hst pthI_f_threads (by decide) (by decide) (by decide) (by decide) (by decide) (by decide) (by decide) (by decide)
              have pomI_f_oneMind := omI.fr hst pomI_f_oneMind (by decide) (by decide) (by decide) (by decide) (by decide) (by decide) (by decide) (by decide)
              have pstI_f_states := stI.fr hst pstI_f_states (by decide) (by decide) (by decide) (by decide) (by decide) (by decide) (by decide) (by decide) (by decide)
              have pmkI_f_marks := mkI.fr hst pmkI_f_marks (by decide) (by decide) (by decide) (by decide)
              have psuI_f_subject := suI.fr hst psuI_f_subject (by decide) (by decide) (by decide) (by decide) (by decide)
              have ppgI_0 := pgI.fr hst ppgI_0  (by simp)
              have ha107 := cc.anew (o := o54) 99 eG105 hq108
              rw [← eo106, ← ea107] at ha107
              have hfr := hfr.ap (k := 99) eG105
              rw [← eo106] at hfr
              have hq109 := z_alen eG105
              have hq110 : ab_slots G105 = ab_slots G80 + 6 := z_asl eG105 hq108
              rw [← ea107, ← eG105]
              rw [hQ]; exact (Or.inl ⟨_, _, _, _, _, _, _, _, _, _, _, _, _, _, rfl, hfr, hw_, hf_spans, hf_tape, hf_template, hit219, hf_spare, hit260, pthI_f_threads, pmkI_f_marks, pomI_f_oneMind, pstI_f_states, psuI_f_subject, ppgI_0, (by exact ha107.2.2), (by exact rpC_x hk_ hq8 (by omega) hmv_ hpm_ hsu.1 (by omega) hq49 (by omega) (by omega) hiv_g jnl_g (by omega) htl_ (rc_x (F2 := fun _ => 0) (sz2 := 0) hq67 (by omega) hla_ (by omega) (by omega))), (by exact Or.inl ⟨_, by omega, by omega, (by rw [← hk_]; exact hq8), rfl⟩), (by exact hq69), (by omega), (by omega), (by omega), (by omega), (by omega)⟩)
            · cases hv
              have hw_ := hfk.get hw_ (by simp only [List.mem_cons, List.not_mem_nil, or_false]; omega)
              have hf_spans := hfk.get hf_spans (by simp only [List.mem_cons, List.not_mem_nil, or_false]; omega)
              have h17 := hfk.get h17 (by simp only [List.mem_cons, List.not_mem_nil, or_false]; omega)
              have hf_programs := hfk.get hf_programs (by simp only [List.mem_cons, List.not_mem_nil, or_false]; omega)
              have hf_tape := hfk.get hf_tape (by simp only [List.mem_cons, List.not_mem_nil, or_false]; omega)
              have hit_t := hfk.get hit_t (by simp only [List.mem_cons, List.not_mem_nil, or_false]; omega)
              have hf_template := hfk.get hf_template (by simp only [List.mem_cons, List.not_mem_nil, or_false]; omega)
              have hb7 := hfk.get hb7 (by simp only [List.mem_cons, List.not_mem_nil, or_false]; omega)
              have hki_g := hfk.get hki_g (by simp only [List.mem_cons, List.not_mem_nil, or_false]; omega)
              have hne_g := hfk.get hne_g (by simp only [List.mem_cons, List.not_mem_nil, or_false]; omega)
              have hot_g := hfk.get hot_g (by simp only [List.mem_cons, List.not_mem_nil, or_false]; omega)
              have hra_g := hfk.get hra_g (by simp only [List.mem_cons, List.not_mem_nil, or_false]; omega)
              have hna_g := hfk.get hna_g (by simp only [List.mem_cons, List.not_mem_nil, or_false]; omega)
              have hnl_g := hfk.get hnl_g (by simp only [List.mem_cons, List.not_mem_nil, or_false]; omega)
              have hit219 := hfk.get hit219 (by simp only [List.mem_cons, List.not_mem_nil, or_false]; omega)
              have hf_subject := hfk.get hf_subject (by simp only [List.mem_cons, List.not_mem_nil, or_false]; omega)
              have hco_r := hfk.get hco_r (by simp only [List.mem_cons, List.not_mem_nil, or_false]; omega)
              have hre_r := hfk.get hre_r (by simp only [List.mem_cons, List.not_mem_nil, or_false]; omega)
              have hho_r := hfk.get hho_r (by simp only [List.mem_cons, List.not_mem_nil, or_false]; omega)
              have pthI_f_threads := thI.fr hfk pthI_f_threads (by simp only [List.mem_cons, List.not_mem_nil, or_false]; omega) (by simp only [List.mem_cons, List.not_mem_nil, or_false]; omega) (by simp only [List.mem_cons, List.not_mem_nil, or_false]; omega) (by simp only [List.mem_cons, List.not_mem_nil, or_false]; omega) (by simp only [List.mem_cons, List.not_mem_nil, or_false]; omega) (by simp only [List.mem_cons, List.not_mem_nil, or_false]; omega) (by simp only [List.mem_cons, List.not_mem_nil, or_false]; omega) (by simp only [List.mem_cons, List.not_mem_nil, or_false]; omega)
              have pomI_f_oneMind := omI.fr hfk pomI_f_oneMind (by simp only [List.mem_cons, List.not_mem_nil, or_false]; omega) (by simp only [List.mem_cons, List.not_mem_nil, or_false]; omega) (by simp only [List.mem_cons, List.not_mem_nil, or_false]; omega) (by simp only [List.mem_cons, List.not_mem_nil, or_false]; omega) (by simp only [List.mem_cons, List.not_mem_nil, or_false]; omega) (by simp only [List.mem_cons, List.not_mem_nil, or_false]; omega) (by simp only [List.mem_cons, List.not_mem_nil, or_false]; omega) (by simp only [List.mem_cons, List.not_mem_nil, or_false]; omega)
              have pstI_f_states := stI.fr hfk pstI_f_states (by simp only [List.mem_cons, List.not_mem_nil, or_false]; omega) (by simp only [List.mem_cons, List.not_mem_nil, or_false]; omega) (by simp only [List.mem_cons, List.not_mem_nil, or_false]; omega) (by simp only [List.mem_cons, List.not_mem_nil, or_false]; omega) (by simp only [List.mem_cons, List.not_mem_nil, or_false]; omega) (by simp only [List.mem_cons, List.not_mem_nil, or_false]; omega) (by simp only [List.mem_cons, List.not_mem_nil, or_false]; omega) (by simp only [List.mem_cons, List.not_mem_nil, or_false]; omega) (by simp only [List.mem_cons, List.not_mem_nil, or_false]; omega)
              have ppgX_0 := pgX.fr hfk ppgX_0  (by intro xx hx; simp only [List.mem_cons, List.not_mem_nil, or_false] at hx; omega)
              have pmkI_f_marks := mkI.fr hfk pmkI_f_marks (by simp only [List.mem_cons, List.not_mem_nil, or_false]; omega) (by simp only [List.mem_cons, List.not_mem_nil, or_false]; omega) (by simp only [List.mem_cons, List.not_mem_nil, or_false]; omega) (by simp only [List.mem_cons, List.not_mem_nil, or_false]; omega)
              have hfr := hfr.tr hfk (by simp)
              have hq103 := hfk.1
              have hf_spare := hNf_spare
              have hb294 := hNb294
              have hby__r := hNby__r
              change ab_W _ _ _ G91 212 [some (vR w_), none, some (vR b7), none, some (vz bf255), some (vz ct256), some (vz fits257), none] [vz 1] _
              refine zz_if_ne (tgt := 225) d_PW_replace_212 (by decide) (by decide) (fun c111 => ?_) (fun c111 => absurd c111 (by decide))
              have psuI_f_subject : suI o93 G91 f_subject n m f := ⟨by__r, co_r, re_r, ho_r, C_r, Rs_r, H_r, mc_r, hf_subject, hby__r, hco_r, hre_r, hho_r, (by omega), hsu_r⟩
              have hmq_ : onq mi_ on := hmi_g
              have ppgB_b7 : pgB o93 G91 b7 (100 + 10 * k_) (NR k_) cv cmp on mi_ sz_ := ⟨ki_g, ne_g, ot_g, cnt_g, fi_g, la_g, ra_g, ru_g, gr_g, wi_g, fl_g, ve_g, na_g, nl_g, K_g, N_g, O_g, RR_g, NA_g, NL_g, hb7, hki_g, hne_g, hot_g, hra_g, hna_g, hnl_g, (by omega), hpu_g, hp_g, hr_g, hch_g, (by omega), (by omega), (by omega), (by omega), (by omega), hpo_g, hmq_, (by omega), (by omega), jnl_g, hiv_g, hmn_g, jna_g, hla_g, hpv_g, (by omega), hkk_g, hoc_g, (by omega)⟩
              have ppgI_0 := ppgX_0.cls hq8 ppgB_b7
              refine ab_aload_n d_PW_replace_225 rfl ?_
              refine ab_getf (fs := [vR f_ready, vR f_tape, vR f_reader, vR f_programs, vR f_subject, vR f_spans, vR f_threads, vR f_marks, vR f_oneMind, vR f_states, vR f_latest, vR f_matches, vR f_pieces, vR f_template, vR f_result, vR f_spare, vz cmp, vz ovs]) f_PW_88 d_PW_replace_226 hw_.2.2 rfl ?_
              refine ab_astore d_PW_replace_229 (Nat.le_of_ble_eq_true rfl) (Nat.le_of_ble_eq_true rfl) rfl ?_
              change ab_W _ _ _ G91 231 [some (vR w_), none, some (vR b7), none, some (vz bf255), some (vz ct256), some (vz fits257), some (vR f_spare)] [] _
              refine ab_aload_n d_PW_replace_231 rfl ?_
              refine ab_aload_n d_PW_replace_232 rfl ?_
              refine ab_getf (fs := [vR f_ready, vR f_tape, vR f_reader, vR f_programs, vR f_subject, vR f_spans, vR f_threads, vR f_marks, vR f_oneMind, vR f_states, vR f_latest, vR f_matches, vR f_pieces, vR f_template, vR f_result, vR f_spare, vz cmp, vz ovs]) f_PW_85 d_PW_replace_233 hw_.2.2 rfl ?_
              refine ab_putf (fs := [vR f_ready, vR f_tape, vR f_reader, vR f_programs, vR f_subject, vR f_spans, vR f_threads, vR f_marks, vR f_oneMind, vR f_states, vR f_latest, vR f_matches, vR f_pieces, vR f_template, vR f_result, vR f_spare, vz cmp, vz ovs]) f_PW_88 (Or.inl rfl) d_PW_replace_236 hw_.2.2 (Nat.le_of_ble_eq_true rfl) (fun _ => ⟨rfl, rfl⟩) (hw_.2.1 (by decide)) ?_
              obtain ⟨G112, eG112⟩ : ∃ z : ab_G, z = List.set G91 w_ (ab_ob 0 [vR f_ready, vR f_tape, vR f_reader, vR f_programs, vR f_subject, vR f_spans, vR f_threads, vR f_marks, vR f_oneMind, vR f_states, vR f_latest, vR f_matches, vR f_pieces, vR f_template, vR f_result, vR f_result, vz cmp, vz ovs]) := ⟨_, rfl⟩
              have hf_spans := hf_spans.keep hw_ eG112 (by decide)
              have h17 := h17.keep hw_ eG112 (by decide)
              have hf_programs := hf_programs.keep hw_ eG112 (by decide)
              have hf_tape := hf_tape.keep hw_ eG112 (by decide)
              have hit_t := hit_t.keep hw_ eG112 (by decide)
              have hf_template := hf_template.keep hw_ eG112 (by decide)
              have hf_spare := hf_spare.keep hw_ eG112 (by omega)
              have hit219 := hit219.keep hw_ eG112 (by decide)
              have hb294 := hb294.keep hw_ eG112 (by omega)
              have hst := (fx.rf (o := o93) (S := [18]) (G := G91)).wr hw_ eG112 (List.mem_singleton.mpr rfl)
              have pthI_f_threads := thI.fr hst pthI_f_threads (by decide) (by decide) (by decide) (by decide) (by decide) (by decide) (by decide) (by decide)
              have pomI_f_oneMind := omI.fr hst pomI_f_oneMind (by decide) (by decide) (by decide) (by decide) (by decide) (by decide) (by decide) (by decide)
              have pstI_f_states := stI.fr hst pstI_f_states (by decide) (by decide) (by decide) (by decide) (by decide) (by decide) (by decide) (by decide) (by decide)
              have pmkI_f_marks := mkI.fr hst pmkI_f_marks (by decide) (by decide) (by decide) (by decide)
              have psuI_f_subject := suI.fr hst psuI_f_subject (by decide) (by decide) (by decide) (by decide) (by decide)
              have ppgI_0 := pgI.fr hst ppgI_0  (by decide)
              have hq113 := z_len eG112
              have hq114 := z_sl hw_ eG112 rfl
              have hfr := hfr.wr hw_ eG112 (by simp)
              have hw_ := hw_.kept eG112
              change ab_W _ _ _ (List.set G91 w_ (ab_ob 0 [vR f_ready, vR f_tape, vR f_reader, vR f_programs, vR f_subject, vR f_spans, vR f_threads, vR f_marks, vR f_oneMind, vR f_states, vR f_latest, vR f_matches, vR f_pieces, vR f_template, vR f_result, vR f_result, vz cmp, vz ovs])) 239 [some (vR w_), none, some (vR b7), none, some (vz bf255), some (vz ct256), some (vz fits257), some (vR f_spare)] [] _
              rw [← eG112]
              refine ab_aload_n d_PW_replace_239 rfl ?_
              refine ab_aload d_PW_replace_240 rfl ?_
              refine ab_putf (fs := [vR f_ready, vR f_tape, vR f_reader, vR f_programs, vR f_subject, vR f_spans, vR f_threads, vR f_marks, vR f_oneMind, vR f_states, vR f_latest, vR f_matches, vR f_pieces, vR f_template, vR f_result, vR f_result, vz cmp, vz ovs]) f_PW_85 (Or.inl rfl) d_PW_replace_242 hw_.2.2 (Nat.le_of_ble_eq_true rfl) (fun _ => ⟨rfl, rfl⟩) (hw_.2.1 (by decide)) ?_
              obtain ⟨G115, eG115⟩ : ∃ z : ab_G, z = List.set G112 w_ (ab_ob 0 [vR f_ready, vR f_tape, vR f_reader, vR f_programs, vR f_subject, vR f_spans, vR f_threads, vR f_marks, vR f_oneMind, vR f_states, vR f_latest, vR f_matches, vR f_pieces, vR f_template, vR f_spare, vR f_result, vz cmp, vz ovs]) := ⟨_, rfl⟩
              have hf_spans := hf_spans.keep hw_ eG115 (by decide)
              have h17 := h17.keep hw_ eG115 (by decide)
              have hf_programs := hf_programs.keep hw_ eG115 (by decide)
              have hf_tape := hf_tape.keep hw_ eG115 (by decide)
              have hit_t := hit_t.keep hw_ eG115 (by decide)
              have hf_template := hf_template.keep hw_ eG115 (by decide)
              have hf_spare := hf_spare.keep hw_ eG115 (by omega)
              have hit219 := hit219.keep hw_ eG115 (by decide)
              have hb294 := hb294.keep hw_ eG115 (by omega)
              have hst := (fx.rf (o := o93) (S := [18]) (G := G112)).wr hw_ eG115 (List.mem_singleton.mpr rfl)
              have pthI_f_threads := thI.fr hst pthI_f_threads (by decide) (by decide) (by decide) (by decide) (by decide) (by decide) (by decide) (by decide)
              have pomI_f_oneMind := omI.fr hst pomI_f_oneMind (by decide) (by decide) (by decide) (by decide) (by decide) (by decide) (by decide) (by decide)
              have pstI_f_states := stI.fr hst pstI_f_states (by decide) (by decide) (by decide) (by decide) (by decide) (by decide) (by decide) (by decide) (by decide)
              have pmkI_f_marks := mkI.fr hst pmkI_f_marks (by decide) (by decide) (by decide) (by decide)
              have psuI_f_subject := suI.fr hst psuI_f_subject (by decide) (by decide) (by decide) (by decide) (by decide)
              have ppgI_0 := pgI.fr hst ppgI_0  (by decide)
              have hq116 := z_len eG115
              have hq117 := z_sl hw_ eG115 rfl
              have hfr := hfr.wr hw_ eG115 (by simp)
              have hw_ := hw_.kept eG115
              change ab_W _ _ _ (List.set G112 w_ (ab_ob 0 [vR f_ready, vR f_tape, vR f_reader, vR f_programs, vR f_subject, vR f_spans, vR f_threads, vR f_marks, vR f_oneMind, vR f_states, vR f_latest, vR f_matches, vR f_pieces, vR f_template, vR f_spare, vR f_result, vz cmp, vz ovs])) 245 [some (vR w_), none, some (vR b7), none, some (vz bf255), some (vz ct256), some (vz fits257), some (vR f_spare)] [] _
              rw [← eG115]
              refine ab_aload_n d_PW_replace_245 rfl ?_
              refine ab_getf (fs := [vR f_ready, vR f_tape, vR f_reader, vR f_programs, vR f_subject, vR f_spans, vR f_threads, vR f_marks, vR f_oneMind, vR f_states, vR f_latest, vR f_matches, vR f_pieces, vR f_template, vR f_spare, vR f_result, vz cmp, vz ovs]) f_PW_85 d_PW_replace_246 hw_.2.2 rfl ?_
              refine ab_getf (fs := [vz 6000, vR b294, vz (sz261 + (n - 0))]) f_PW_101 d_PW_replace_249 hf_spare.2.2 rfl ?_
              refine zz_iret rfl d_PW_replace_252 ?_
              rw [hQ]; exact (Or.inr ⟨_, _, _, _, _, _, _, _, _, _, _, _, _, _, rfl, hfr, hw_, hf_spans, hf_tape, hf_template, hit219, hf_spare, hb294, pthI_f_threads, pmkI_f_marks, pomI_f_oneMind, pstI_f_states, psuI_f_subject, ppgI_0, (by exact rpC_y hk_ hq8 (by omega) hmv_ hpm_ hsu.1 (by omega) hq49 (by omega) (by omega) hiv_g jnl_g (by omega) htl_ (rc_y hq67 (by omega) hla_ (by omega) (by omega) (by omega) hq101 hq102) rfl), (by exact Or.inl ⟨_, by omega, by omega, (by rw [← hk_]; exact hq8), rfl⟩), (by exact hq69), (by omega), (by omega), (by omega), (by omega), (by omega)⟩)
          · refine ab_aload_n d_PW_replace_202 rfl ?_
            refine ab_getf (fs := [vR f_ready, vR f_tape, vR f_reader, vR f_programs, vR f_subject, vR f_spans, vR f_threads, vR f_marks, vR f_oneMind, vR f_states, vR f_latest, vR f_matches, vR f_pieces, vR f_template, vR f_result, vR f_spare, vz cmp, vz ovs]) f_PW_38 d_PW_replace_203 hw_.2.2 rfl ?_
            refine ab_getf (fs := [vR by__r, vR co_r, vR re_r, vR ho_r, vz n]) f_PW_164 d_PW_replace_206 hf_subject.2.2 rfl ?_
            have hla_ : mxA bf255 bf255 := by unfold mxA; omega
            refine ab_callV (d' := d - 1) (as := [vR by__r, vz bf255, vz n]) (st := []) (r := _) (z2_RW_addAll (o := o54) (r := f_spare) (b := it260) (lr := ls_) (lb := (ls_ + 1)) (n := mr262) (lim := 6000) (sz := sz261) (f := F263) (a := by__r) (la := 27) (m := m) (q := f) (x := bf255) (y := n) hf_spare hit260 hby__r (by omega) (by have h18 : ab_n0 = 18 := rfl; omega) (by omega) (by omega) (by omega) (by omega) (by omega)) (fun oc G2 h => by rcases h with ⟨h, _⟩ | ⟨_, _, _, _, h, _⟩ <;> exact ⟨_, h⟩) (by omega) m_RW_addAll ml_PW_105 im_RW_addAll se_RW_addAll c_RW hf_spare.2.2 (Nat.le_of_ble_eq_true rfl) d_PW_replace_209 rfl ?_
            intro v G118 hq
            rcases hq with ⟨hv, hGe, hq119⟩ | ⟨o120, b2121, n2122, f2123, hv, hfk, hNf_spare, hNb2121, hNby__r, hq124, hq125, hq126, hq127, hq128, hq129⟩
            · cases hv
              rw [hGe]
              change ab_W _ _ _ G80 212 [some (vR w_), none, some (vR b7), none, some (vz bf255), some (vz ct256), some (vz fits257), none] [vz 0] _
              refine zz_if_ne (tgt := 225) d_PW_replace_212 (by decide) (by decide) (fun c131 => absurd c131 (by decide)) (fun c131 => ?_)
              have psuI_f_subject : suI o54 G80 f_subject n m f := ⟨by__r, co_r, re_r, ho_r, C_r, Rs_r, H_r, mc_r, hf_subject, hby__r, hco_r, hre_r, hho_r, (by omega), hsu_r⟩
              have hmq_ : onq mi_ on := hmi_g
              have ppgB_b7 : pgB o54 G80 b7 (100 + 10 * k_) (NR k_) cv cmp on mi_ sz_ := ⟨ki_g, ne_g, ot_g, cnt_g, fi_g, la_g, ra_g, ru_g, gr_g, wi_g, fl_g, ve_g, na_g, nl_g, K_g, N_g, O_g, RR_g, NA_g, NL_g, hb7, hki_g, hne_g, hot_g, hra_g, hna_g, hnl_g, (by omega), hpu_g, hp_g, hr_g, hch_g, (by omega), (by omega), (by omega), (by omega), (by omega), hpo_g, hmq_, (by omega), (by omega), jnl_g, hiv_g, hmn_g, jna_g, hla_g, hpv_g, (by omega), hkk_g, hoc_g, (by omega)⟩
              have ppgI_0 := ppgX_0.cls hq8 ppgB_b7
              refine ab_throw (tx := "too much output") (by decide) (fun c h => h) cl_PW_109 inst_IA ini_IA tw_PW_113 d_PW_replace_215 d_PW_replace_218 d_PW_replace_219 d_PW_replace_221 d_PW_replace_224 (by omega) (by omega) (by omega) ?_
              obtain ⟨G132, eG132⟩ : ∃ z : ab_G, z = G80 ++ [.inr (13, [])] := ⟨_, rfl⟩
              obtain ⟨o133, eo133⟩ : ∃ z : Nat → Nat, z = ol o54 G80.length 99 := ⟨_, rfl⟩
              obtain ⟨a134, ea134⟩ : ∃ z : Nat, z = G80.length := ⟨_, rfl⟩
              have hq135 := hit260.n0 (by first | decide | omega)
              have ne_a134_w_ : nq a134 w_ := by have hlt := hw_.lt; unfold nq; omega
              have ne_a134_f_spans : nq a134 f_spans := by have hlt := hf_spans.lt; unfold nq; omega
              have ne_a134_17 : nq a134 17 := by have hlt := h17.lt; unfold nq; omega
              have ne_a134_f_programs : nq a134 f_programs := by have hlt := hf_programs.lt; unfold nq; omega
              have ne_a134_f_tape : nq a134 f_tape := by have hlt := hf_tape.lt; unfold nq; omega
              have ne_a134_it_t : nq a134 it_t := by have hlt := hit_t.lt; unfold nq; omega
              have ne_a134_f_template : nq a134 f_template := by have hlt := hf_template.lt; unfold nq; omega
              have ne_a134_f_spare : nq a134 f_spare := by have hlt := hf_spare.lt; unfold nq; omega
              have ne_a134_it219 : nq a134 it219 := by have hlt := hit219.lt; unfold nq; omega
              have ne_a134_it260 : nq a134 it260 := by have hlt := hit260.lt; unfold nq; omega
              have hw_ := hw_.akeep (k := 99) eG132
              rw [← eo133] at hw_
              have hf_spans := hf_spans.akeep (k := 99) eG132
              rw [← eo133] at hf_spans
              have h17 := h17.akeep (k := 99) eG132
              rw [← eo133] at h17
              have hf_programs := hf_programs.akeep (k := 99) eG132
              rw [← eo133] at hf_programs
              have hf_tape := hf_tape.akeep (k := 99) eG132
              rw [← eo133] at hf_tape
              have hit_t := hit_t.akeep (k := 99) eG132
              rw [← eo133] at hit_t
              have hf_template := hf_template.akeep (k := 99) eG132
              rw [← eo133] at hf_template
              have hf_spare := hf_spare.akeep (k := 99) eG132
              rw [← eo133] at hf_spare
              have hit219 := hit219.akeep (k := 99) eG132
              rw [← eo133] at hit219
              have hit260 := hit260.akeep (k := 99) eG132
              rw [← eo133] at hit260
              have hst := (fx.rf (o := o54) (S := []) (G := G80)).ap (k := 99) eG132
              rw [← eo133] at hst
              have pthI_f_threads := thI.fr hst pthI_f_threads (by decide) (by decide) (by decide) (by decide) (by decide) (by decide) (by decide) (by decide)
              have pomI_f_oneMind := omI.fr hst pomI_f_oneMind (by decide) (by decide) (by decide) (by decide) (by decide) (by decide) (by decide) (by decide)
              have pstI_f_states := stI.fr hst pstI_f_states (by decide) (by decide) (by decide) (by decide) (by decide) (by decide) (by decide) (by decide) (by decide)
              have pmkI_f_marks := mkI.fr hst pmkI_f_marks (by decide) (by decide) (by decide) (by decide)
              have psuI_f_subject := suI.fr hst psuI_f_subject (by decide) (by decide) (by decide) (by decide) (by decide)
              have ppgI_0 := pgI.fr hst ppgI_0  (by simp)
              have ha134 := cc.anew (o := o54) 99 eG132 hq135
              rw [← eo133, ← ea134] at ha134
              have hfr := hfr.ap (k := 99) eG132
              rw [← eo133] at hfr
              have hq136 := z_alen eG132
              have hq137 : ab_slots G132 = ab_slots G80 + 6 := z_asl eG132 hq135
              rw [← ea134, ← eG132]
              rw [hQ]; exact (Or.inl ⟨_, _, _, _, _, _, _, _, _, _, _, _, _, _, rfl, hfr, hw_, hf_spans, hf_tape, hf_template, hit219, hf_spare, hit260, pthI_f_threads, pmkI_f_marks, pomI_f_oneMind, pstI_f_states, psuI_f_subject, ppgI_0, (by exact ha134.2.2), (by exact rpC_x hk_ hq8 (by omega) hmv_ hpm_ hsu.1 (by omega) hq49 (by omega) (by omega) hiv_g jnl_g (by omega) htl_ (rc_x (F2 := fun _ => 0) (sz2 := 0) hq67 (by omega) hla_ (by omega) (by omega))), (by exact Or.inl ⟨_, by omega, by omega, (by rw [← hk_]; exact hq8), rfl⟩), (by exact hq69), (by omega), (by omega), (by omega), (by omega), (by omega)⟩)
            · cases hv
              have hw_ := hfk.get hw_ (by simp only [List.mem_cons, List.not_mem_nil, or_false]; omega)
              have hf_spans := hfk.get hf_spans (by simp only [List.mem_cons, List.not_mem_nil, or_false]; omega)
              have h17 := hfk.get h17 (by simp only [List.mem_cons, List.not_mem_nil, or_false]; omega)
              have hf_programs := hfk.get hf_programs (by simp only [List.mem_cons, List.not_mem_nil, or_false]; omega)
              have hf_tape := hfk.get hf_tape (by simp only [List.mem_cons, List.not_mem_nil, or_false]; omega)
              have hit_t := hfk.get hit_t (by simp only [List.mem_cons, List.not_mem_nil, or_false]; omega)
              have hf_template := hfk.get hf_template (by simp only [List.mem_cons, List.not_mem_nil, or_false]; omega)
              have hb7 := hfk.get hb7 (by simp only [List.mem_cons, List.not_mem_nil, or_false]; omega)
              have hki_g := hfk.get hki_g (by simp only [List.mem_cons, List.not_mem_nil, or_false]; omega)
              have hne_g := hfk.get hne_g (by simp only [List.mem_cons, List.not_mem_nil, or_false]; omega)
              have hot_g := hfk.get hot_g (by simp only [List.mem_cons, List.not_mem_nil, or_false]; omega)
              have hra_g := hfk.get hra_g (by simp only [List.mem_cons, List.not_mem_nil, or_false]; omega)
              have hna_g := hfk.get hna_g (by simp only [List.mem_cons, List.not_mem_nil, or_false]; omega)
              have hnl_g := hfk.get hnl_g (by simp only [List.mem_cons, List.not_mem_nil, or_false]; omega)
              have hit219 := hfk.get hit219 (by simp only [List.mem_cons, List.not_mem_nil, or_false]; omega)
              have hf_subject := hfk.get hf_subject (by simp only [List.mem_cons, List.not_mem_nil, or_false]; omega)
              have hco_r := hfk.get hco_r (by simp only [List.mem_cons, List.not_mem_nil, or_false]; omega)
              have hre_r := hfk.get hre_r (by simp only [List.mem_cons, List.not_mem_nil, or_false]; omega)
              have hho_r := hfk.get hho_r (by simp only [List.mem_cons, List.not_mem_nil, or_false]; omega)
              have pthI_f_threads := thI.fr hfk pthI_f_threads (by simp only [List.mem_cons, List.not_mem_nil, or_false]; omega) (by simp only [List.mem_cons, List.not_mem_nil, or_false]; omega) (by simp only [List.mem_cons, List.not_mem_nil, or_false]; omega) (by simp only [List.mem_cons, List.not_mem_nil, or_false]; omega) (by simp only [List.mem_cons, List.not_mem_nil, or_false]; omega) (by simp only [List.mem_cons, List.not_mem_nil, or_false]; omega) (by simp only [List.mem_cons, List.not_mem_nil, or_false]; omega) (by simp only [List.mem_cons, List.not_mem_nil, or_false]; omega)
              have pomI_f_oneMind := omI.fr hfk pomI_f_oneMind (by simp only [List.mem_cons, List.not_mem_nil, or_false]; omega) (by simp only [List.mem_cons, List.not_mem_nil, or_false]; omega) (by simp only [List.mem_cons, List.not_mem_nil, or_false]; omega) (by simp only [List.mem_cons, List.not_mem_nil, or_false]; omega) (by simp only [List.mem_cons, List.not_mem_nil, or_false]; omega) (by simp only [List.mem_cons, List.not_mem_nil, or_false]; omega) (by simp only [List.mem_cons, List.not_mem_nil, or_false]; omega) (by simp only [List.mem_cons, List.not_mem_nil, or_false]; omega)
              have pstI_f_states := stI.fr hfk pstI_f_states (by simp only [List.mem_cons, List.not_mem_nil, or_false]; omega) (by simp only [List.mem_cons, List.not_mem_nil, or_false]; omega) (by simp only [List.mem_cons, List.not_mem_nil, or_false]; omega) (by simp only [List.mem_cons, List.not_mem_nil, or_false]; omega) (by simp only [List.mem_cons, List.not_mem_nil, or_false]; omega) (by simp only [List.mem_cons, List.not_mem_nil, or_false]; omega) (by simp only [List.mem_cons, List.not_mem_nil, or_false]; omega) (by simp only [List.mem_cons, List.not_mem_nil, or_false]; omega) (by simp only [List.mem_cons, List.not_mem_nil, or_false]; omega)
              have ppgX_0 := pgX.fr hfk ppgX_0  (by intro xx hx; simp only [List.mem_cons, List.not_mem_nil, or_false] at hx; omega)
              have pmkI_f_marks := mkI.fr hfk pmkI_f_marks (by simp only [List.mem_cons, List.not_mem_nil, or_false]; omega) (by simp only [List.mem_cons, List.not_mem_nil, or_false]; omega) (by simp only [List.mem_cons, List.not_mem_nil, or_false]; omega) (by simp only [List.mem_cons, List.not_mem_nil, or_false]; omega)
              have hfr := hfr.tr hfk (by simp)
              have hq130 := hfk.1
              have hf_spare := hNf_spare
              have hb2121 := hNb2121
              have hby__r := hNby__r
              change ab_W _ _ _ G118 212 [some (vR w_), none, some (vR b7), none, some (vz bf255), some (vz ct256), some (vz fits257), none] [vz 1] _
              refine zz_if_ne (tgt := 225) d_PW_replace_212 (by decide) (by decide) (fun c138 => ?_) (fun c138 => absurd c138 (by decide))
              have psuI_f_subject : suI o120 G118 f_subject n m f := ⟨by__r, co_r, re_r, ho_r, C_r, Rs_r, H_r, mc_r, hf_subject, hby__r, hco_r, hre_r, hho_r, (by omega), hsu_r⟩
              have hmq_ : onq mi_ on := hmi_g
              have ppgB_b7 : pgB o120 G118 b7 (100 + 10 * k_) (NR k_) cv cmp on mi_ sz_ := ⟨ki_g, ne_g, ot_g, cnt_g, fi_g, la_g, ra_g, ru_g, gr_g, wi_g, fl_g, ve_g, na_g, nl_g, K_g, N_g, O_g, RR_g, NA_g, NL_g, hb7, hki_g, hne_g, hot_g, hra_g, hna_g, hnl_g, (by omega), hpu_g, hp_g, hr_g, hch_g, (by omega), (by omega), (by omega), (by omega), (by omega), hpo_g, hmq_, (by omega), (by omega), jnl_g, hiv_g, hmn_g, jna_g, hla_g, hpv_g, (by omega), hkk_g, hoc_g, (by omega)⟩
              have ppgI_0 := ppgX_0.cls hq8 ppgB_b7
              refine ab_aload_n d_PW_replace_225 rfl ?_
              refine ab_getf (fs := [vR f_ready, vR f_tape, vR f_reader, vR f_programs, vR f_subject, vR f_spans, vR f_threads, vR f_marks, vR f_oneMind, vR f_states, vR f_latest, vR f_matches, vR f_pieces, vR f_template, vR f_result, vR f_spare, vz cmp, vz ovs]) f_PW_88 d_PW_replace_226 hw_.2.2 rfl ?_
              refine ab_astore d_PW_replace_229 (Nat.le_of_ble_eq_true rfl) (Nat.le_of_ble_eq_true rfl) rfl ?_
              change ab_W _ _ _ G118 231 [some (vR w_), none, some (vR b7), none, some (vz bf255), some (vz ct256), some (vz fits257), some (vR f_spare)] [] _
              refine ab_aload_n d_PW_replace_231 rfl ?_
              refine ab_aload_n d_PW_replace_232 rfl ?_
              refine ab_getf (fs := [vR f_ready, vR f_tape, vR f_reader, vR f_programs, vR f_subject, vR f_spans, vR f_threads, vR f_marks, vR f_oneMind, vR f_states, vR f_latest, vR f_matches, vR f_pieces, vR f_template, vR f_result, vR f_spare, vz cmp, vz ovs]) f_PW_85 d_PW_replace_233 hw_.2.2 rfl ?_
              refine ab_putf (fs := [vR f_ready, vR f_tape, vR f_reader, vR f_programs, vR f_subject, vR f_spans, vR f_threads, vR f_marks, vR f_oneMind, vR f_states, vR f_latest, vR f_matches, vR f_pieces, vR f_template, vR f_result, vR f_spare, vz cmp, vz ovs]) f_PW_88 (Or.inl rfl) d_PW_replace_236 hw_.2.2 (Nat.le_of_ble_eq_true rfl) (fun _ => ⟨rfl, rfl⟩) (hw_.2.1 (by decide)) ?_
              obtain ⟨G139, eG139⟩ : ∃ z : ab_G, z = List.set G118 w_ (ab_ob 0 [vR f_ready, vR f_tape, vR f_reader, vR f_programs, vR f_subject, vR f_spans, vR f_threads, vR f_marks, vR f_oneMind, vR f_states, vR f_latest, vR f_matches, vR f_pieces, vR f_template, vR f_result, vR f_result, vz cmp, vz ovs]) := ⟨_, rfl⟩
              have hf_spans := hf_spans.keep hw_ eG139 (by decide)
              have h17 := h17.keep hw_ eG139 (by decide)
              have hf_programs := hf_programs.keep hw_ eG139 (by decide)
              have hf_tape := hf_tape.keep hw_ eG139 (by decide)
              have hit_t := hit_t.keep hw_ eG139 (by decide)
              have hf_template := hf_template.keep hw_ eG139 (by decide)
              have hf_spare := hf_spare.keep hw_ eG139 (by omega)
              have hit219 := hit219.keep hw_ eG139 (by decide)
              have hb2121 := hb2121.keep hw_ eG139 (by omega)
              have hst := (fx.rf (o := o120) (S := [18]) (G := G118)).wr hw_ eG139 (List.mem_singleton.mpr rfl)
              have pthI_f_threads := thI.fr hst pthI_f_threads (by decide) (by decide) (by decide) (by decide) (by decide) (by decide) (by decide) (by decide)
              have pomI_f_oneMind := omI.fr hst pomI_f_oneMind (by decide) (by decide) (by decide) (by decide) (by decide) (by decide) (by decide) (by decide)
              have pstI_f_states := stI.fr hst pstI_f_states (by decide) (by decide) (by decide) (by decide) (by decide) (by decide) (by decide) (by decide) (by decide)
              have pmkI_f_marks := mkI.fr hst pmkI_f_marks (by decide) (by decide) (by decide) (by decide)
              have psuI_f_subject := suI.fr hst psuI_f_subject (by decide) (by decide) (by decide) (by decide) (by decide)
              have ppgI_0 := pgI.fr hst ppgI_0  (by decide)
              have hq140 := z_len eG139
              have hq141 := z_sl hw_ eG139 rfl
              have hfr := hfr.wr hw_ eG139 (by simp)
              have hw_ := hw_.kept eG139
              change ab_W _ _ _ (List.set G118 w_ (ab_ob 0 [vR f_ready, vR f_tape, vR f_reader, vR f_programs, vR f_subject, vR f_spans, vR f_threads, vR f_marks, vR f_oneMind, vR f_states, vR f_latest, vR f_matches, vR f_pieces, vR f_template, vR f_result, vR f_result, vz cmp, vz ovs])) 239 [some (vR w_), none, some (vR b7), none, some (vz bf255), some (vz ct256), some (vz fits257), some (vR f_spare)] [] _
              rw [← eG139]
              refine ab_aload_n d_PW_replace_239 rfl ?_
              refine ab_aload d_PW_replace_240 rfl ?_
              refine ab_putf (fs := [vR f_ready, vR f_tape, vR f_reader, vR f_programs, vR f_subject, vR f_spans, vR f_threads, vR f_marks, vR f_oneMind, vR f_states, vR f_latest, vR f_matches, vR f_pieces, vR f_template, vR f_result, vR f_result, vz cmp, vz ovs]) f_PW_85 (Or.inl rfl) d_PW_replace_242 hw_.2.2 (Nat.le_of_ble_eq_true rfl) (fun _ => ⟨rfl, rfl⟩) (hw_.2.1 (by decide)) ?_
              obtain ⟨G142, eG142⟩ : ∃ z : ab_G, z = List.set G139 w_ (ab_ob 0 [vR f_ready, vR f_tape, vR f_reader, vR f_programs, vR f_subject, vR f_spans, vR f_threads, vR f_marks, vR f_oneMind, vR f_states, vR f_latest, vR f_matches, vR f_pieces, vR f_template, vR f_spare, vR f_result, vz cmp, vz ovs]) := ⟨_, rfl⟩
              have hf_spans := hf_spans.keep hw_ eG142 (by decide)
              have h17 := h17.keep hw_ eG142 (by decide)
              have hf_programs := hf_programs.keep hw_ eG142 (by decide)
              have hf_tape := hf_tape.keep hw_ eG142 (by decide)
              have hit_t := hit_t.keep hw_ eG142 (by decide)
              have hf_template := hf_template.keep hw_ eG142 (by decide)
              have hf_spare := hf_spare.keep hw_ eG142 (by omega)
              have hit219 := hit219.keep hw_ eG142 (by decide)
              have hb2121 := hb2121.keep hw_ eG142 (by omega)
              have hst := (fx.rf (o := o120) (S := [18]) (G := G139)).wr hw_ eG142 (List.mem_singleton.mpr rfl)
              have pthI_f_threads := thI.fr hst pthI_f_threads (by decide) (by decide) (by decide) (by decide) (by decide) (by decide) (by decide) (by decide)
              have pomI_f_oneMind := omI.fr hst pomI_f_oneMind (by decide) (by decide) (by decide) (by decide) (by decide) (by decide) (by decide) (by decide)
              have pstI_f_states := stI.fr hst pstI_f_states (by decide) (by decide) (by decide) (by decide) (by decide) (by decide) (by decide) (by decide) (by decide)
              have pmkI_f_marks := mkI.fr hst pmkI_f_marks (by decide) (by decide) (by decide) (by decide)
              have psuI_f_subject := suI.fr hst psuI_f_subject (by decide) (by decide) (by decide) (by decide) (by decide)
              have ppgI_0 := pgI.fr hst ppgI_0  (by decide)
              have hq143 := z_len eG142
              have hq144 := z_sl hw_ eG142 rfl
              have hfr := hfr.wr hw_ eG142 (by simp)
              have hw_ := hw_.kept eG142
              change ab_W _ _ _ (List.set G139 w_ (ab_ob 0 [vR f_ready, vR f_tape, vR f_reader, vR f_programs, vR f_subject, vR f_spans, vR f_threads, vR f_marks, vR f_oneMind, vR f_states, vR f_latest, vR f_matches, vR f_pieces, vR f_template, vR f_spare, vR f_result, vz cmp, vz ovs])) 245 [some (vR w_), none, some (vR b7), none, some (vz bf255), some (vz ct256), some (vz fits257), some (vR f_spare)] [] _
              rw [← eG142]
              refine ab_aload_n d_PW_replace_245 rfl ?_
              refine ab_getf (fs := [vR f_ready, vR f_tape, vR f_reader, vR f_programs, vR f_subject, vR f_spans, vR f_threads, vR f_marks, vR f_oneMind, vR f_states, vR f_latest, vR f_matches, vR f_pieces, vR f_template, vR f_spare, vR f_result, vz cmp, vz ovs]) f_PW_85 d_PW_replace_246 hw_.2.2 rfl ?_
              refine ab_getf (fs := [vz 6000, vR b2121, vz (sz261 + (n - bf255))]) f_PW_101 d_PW_replace_249 hf_spare.2.2 rfl ?_
              refine zz_iret rfl d_PW_replace_252 ?_
              rw [hQ]; exact (Or.inr ⟨_, _, _, _, _, _, _, _, _, _, _, _, _, _, rfl, hfr, hw_, hf_spans, hf_tape, hf_template, hit219, hf_spare, hb2121, pthI_f_threads, pmkI_f_marks, pomI_f_oneMind, pstI_f_states, psuI_f_subject, ppgI_0, (by exact rpC_y hk_ hq8 (by omega) hmv_ hpm_ hsu.1 (by omega) hq49 (by omega) (by omega) hiv_g jnl_g (by omega) htl_ (rc_y hq67 (by omega) hla_ (by omega) (by omega) (by omega) hq128 hq129) rfl), (by exact Or.inl ⟨_, by omega, by omega, (by rw [← hk_]; exact hq8), rfl⟩), (by exact hq69), (by omega), (by omega), (by omega), (by omega), (by omega)⟩)
    · have htn_ := rtE_0 hq26 (by omega)
      have psuI_f_subject : suI o17 G31 f_subject n m f := ⟨by_, co, re, ho, C, Rs, H, mc, hf_subject, hby_, hco, hre, hho, (by omega), hsu⟩
      have hmq_ : onq mi_ on := hmi_g
      have ppgB_b7 : pgB o17 G31 b7 (100 + 10 * k_) (NR k_) cv cmp on mi_ sz_ := ⟨ki_g, ne_g, ot_g, cnt_g, fi_g, la_g, ra_g, ru_g, gr_g, wi_g, fl_g, ve_g, na_g, nl_g, K_g, N_g, O_g, RR_g, NA_g, NL_g, hb7, hki_g, hne_g, hot_g, hra_g, hna_g, hnl_g, (by omega), hpu_g, hp_g, hr_g, hch_g, (by omega), (by omega), (by omega), (by omega), (by omega), hpo_g, hmq_, (by omega), (by omega), jnl_g, hiv_g, hmn_g, jna_g, hla_g, hpv_g, (by omega), hkk_g, hoc_g, (by omega)⟩
      have ppgI_0 := ppgX_0.cls hq8 ppgB_b7
      refine ab_throw (tx := "no such template") (by decide) (fun c h => h) cl_PW_109 inst_IA ini_IA tw_PW_113 d_PW_replace_37 d_PW_replace_40 d_PW_replace_41 d_PW_replace_43 d_PW_replace_46 (by omega) (by omega) (by omega) ?_
      obtain ⟨G145, eG145⟩ : ∃ z : ab_G, z = G31 ++ [.inr (13, [])] := ⟨_, rfl⟩
      obtain ⟨o146, eo146⟩ : ∃ z : Nat → Nat, z = ol o17 G31.length 99 := ⟨_, rfl⟩
      obtain ⟨a147, ea147⟩ : ∃ z : Nat, z = G31.length := ⟨_, rfl⟩
      have hq148 := hit219.n0 (by first | decide | omega)
      have ne_a147_w_ : nq a147 w_ := by have hlt := hw_.lt; unfold nq; omega
      have ne_a147_f_spans : nq a147 f_spans := by have hlt := hf_spans.lt; unfold nq; omega
      have ne_a147_17 : nq a147 17 := by have hlt := h17.lt; unfold nq; omega
      have ne_a147_f_programs : nq a147 f_programs := by have hlt := hf_programs.lt; unfold nq; omega
      have ne_a147_f_tape : nq a147 f_tape := by have hlt := hf_tape.lt; unfold nq; omega
      have ne_a147_it_t : nq a147 it_t := by have hlt := hit_t.lt; unfold nq; omega
      have ne_a147_f_template : nq a147 f_template := by have hlt := hf_template.lt; unfold nq; omega
      have ne_a147_f_spare : nq a147 f_spare := by have hlt := hf_spare.lt; unfold nq; omega
      have ne_a147_it_s : nq a147 it_s := by have hlt := hit_s.lt; unfold nq; omega
      have ne_a147_it219 : nq a147 it219 := by have hlt := hit219.lt; unfold nq; omega
      have hw_ := hw_.akeep (k := 99) eG145
      rw [← eo146] at hw_
      have hf_spans := hf_spans.akeep (k := 99) eG145
      rw [← eo146] at hf_spans
      have h17 := h17.akeep (k := 99) eG145
      rw [← eo146] at h17
      have hf_programs := hf_programs.akeep (k := 99) eG145
      rw [← eo146] at hf_programs
      have hf_tape := hf_tape.akeep (k := 99) eG145
      rw [← eo146] at hf_tape
      have hit_t := hit_t.akeep (k := 99) eG145
      rw [← eo146] at hit_t
      have hf_template := hf_template.akeep (k := 99) eG145
      rw [← eo146] at hf_template
      have hf_spare := hf_spare.akeep (k := 99) eG145
      rw [← eo146] at hf_spare
      have hit_s := hit_s.akeep (k := 99) eG145
      rw [← eo146] at hit_s
      have hit219 := hit219.akeep (k := 99) eG145
      rw [← eo146] at hit219
      have hst := (fx.rf (o := o17) (S := []) (G := G31)).ap (k := 99) eG145
      rw [← eo146] at hst
      have pthI_f_threads := thI.fr hst pthI_f_threads (by decide) (by decide) (by decide) (by decide) (by decide) (by decide) (by decide) (by decide)
      have pmkI_f_marks := mkI.fr hst pmkI_f_marks (by decide) (by decide) (by decide) (by decide)
      have pomI_f_oneMind := omI.fr hst pomI_f_oneMind (by decide) (by decide) (by decide) (by decide) (by decide) (by decide) (by decide) (by decide)
      have pstI_f_states := stI.fr hst pstI_f_states (by decide) (by decide) (by decide) (by decide) (by decide) (by decide) (by decide) (by decide) (by decide)
      have psuI_f_subject := suI.fr hst psuI_f_subject (by decide) (by decide) (by decide) (by decide) (by decide)
      have ppgI_0 := pgI.fr hst ppgI_0  (by simp)
      have ha147 := cc.anew (o := o17) 99 eG145 hq148
      rw [← eo146, ← ea147] at ha147
      have hfr := hfr.ap (k := 99) eG145
      rw [← eo146] at hfr
      have hq149 := z_alen eG145
      have hq150 : ab_slots G145 = ab_slots G31 + 6 := z_asl eG145 hq148
      rw [← ea147, ← eG145]
      rw [hQ]; exact (Or.inl ⟨_, _, _, _, _, _, _, _, _, _, _, _, _, _, rfl, hfr, hw_, hf_spans, hf_tape, hf_template, hit219, hf_spare, hit_s, pthI_f_threads, pmkI_f_marks, pomI_f_oneMind, pstI_f_states, psuI_f_subject, ppgI_0, (by exact ha147.2.2), (by exact rpC_n hk_ hq8 (by omega) hiv_g jnl_g (by omega) htn_), (by exact Or.inl ⟨_, by omega, by omega, (by rw [← hk_]; exact hq8), rfl⟩), (by exact jsp), (by omega), (by omega), (by omega), (by omega), (by omega)⟩)
