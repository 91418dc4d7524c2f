/-! whole objects as one predicate each -/
/-- a program means what its slot's text means -/
def mnK (cv : Int → Int) (lq : Nat) (K N O RR : Int → Int) (fi : Int) : Prop := ∃ v : Sn, mnV cv lq v ∧ prM K N O RR fi v
theorem mnK_n {cv w K N O RR : Int → Int} {v0 c fi : Int} {lq l2 k k2 : Nat} (h : mnK cv l2 K N O RR fi) (hv : 0 ≤ v0) (h1 : lq = 100 + 10 * k) (h2 : l2 = 100 + 10 * k2) (hn : ¬ k2 = k) : mnK (cvU cv v0 c lq w) l2 K N O RR fi := by
  obtain ⟨v, a, b⟩ := h
  exact ⟨v, mnV_n a hv h1 h2 hn, b⟩
def onk (on nk : Nat) : Prop := (on = 0 ∧ nk = 0) ∨ (on = 808 ∧ nk = 809)
def onq (mi : Int) (on : Nat) : Prop := ¬ mi = 0 → on = 808
def mpone (mi : Int) (K N O : Int → Int) (cnt fi : Int) : Prop := mi = 1 → pone K N O cnt fi
def kq6 (sl : Int) (k : Nat) : Prop := k < 6 ∧ (0 ≤ sl → sl < 6 → k = sl.toNat)
def onL (on on2 : Nat) : Prop := on2 = on ∨ on2 = 808
def onPQ (on : Nat) : Nat := if on = 0 then 0 else 192
def onSQ (on : Nat) : Nat := if on = 0 then 0 else 2425
theorem onPQ_le (on : Nat) : onPQ on ≤ 192 := by unfold onPQ; split <;> omega
theorem onSQ_le (on : Nat) : onSQ on ≤ 2425 := by unfold onSQ; split <;> omega
theorem stT_le (n : Nat) : stT n ≤ 1916393 := by unfold stT; (repeat' split) <;> omega
theorem stC_le (n : Nat) : stC n ≤ 5 := by unfold stC; (repeat' split) <;> omega
theorem zT_le {n : Nat} {lim : Int} {c : Nat} (h : (n : Int) ≤ lim) (hc : lim = c) : zT n lim ≤ 3 * c := by unfold zT; split <;> omega
section BRows
variable {X : ab_X} {M : ab_Y} {d : Nat} {G : ab_G} {pc : Nat} {L : List (Option Value)} {st : List Value} {Q : Outcome → ab_G → Prop}
theorem zz_lcmpA {x y : Int} (hd : decode M.2.2.1 pc = .ok (.lcmp, 1)) (k : ∀ v : Int, -1 ≤ v ∧ v ≤ 1 → ab_W X M d G (pc + 1) L (vz v :: st) Q) : ab_W X M d G pc L (vj y :: vj x :: st) Q := by
  refine ab_lcmp hd ?_
  unfold lg_cmp
  have e3 : (-1 : Int32) = Int32.ofInt (-1) := by decide
  have e1 : (1 : Int32) = Int32.ofInt 1 := by decide
  have e0 : (0 : Int32) = Int32.ofInt 0 := by decide
  rw [e3, e1, e0]
  split
  · exact k 1 (by omega)
  · split
    · exact k 0 (by omega)
    · exact k (-1) (by omega)
end BRows
def thI (o : Nat → Nat) (G : ab_G) (a : Nat) (stp : Int) : Prop := ∃ wk : Nat, ∃ nw : Nat, ∃ tn : Nat, ∃ nsp : Nat, ∃ tsp : Nat, ∃ se : Nat, ∃ stk : Nat, ∃ nc : Int, ∃ tc : Int, ∃ sta : Int, ∃ fo : Int, ∃ hw : Int, ∃ fy : Int, ∃ WK : Int → Int, ∃ NW : Int → Int, ∃ TN : Int → Int, ∃ NS : Int → Int, ∃ TS : Int → Int, ∃ SE : Int → Int, ∃ SK : Int → Int, ∃ l1 : Nat, ∃ l2 : Nat, ∃ l3 : Nat, ∃ l4 : Nat, ∃ sp0 : Value, ∃ q0 : Value, ∃ s0 : Value, cc o G a 32 (ab_ob 11 [sp0, vR wk, vR nw, vR tn, vR nsp, vR tsp, vz nc, vz tc, vR se, vz sta, vR stk, vz fo, q0, s0, vz hw, vz fy, vj stp]) ∧ cc o G wk 33 (za 20 WK) ∧ cc o G nw l1 (za 801 NW) ∧ cc o G tn l2 (za 801 TN) ∧ cc o G nsp l3 (za 16020 NS) ∧ cc o G tsp l4 (za 16020 TS) ∧ cc o G se 39 (za 2048 SE) ∧ cc o G stk 40 (za 809 SK) ∧ (l1 + l2 = 71 ∧ 35 ≤ l1 ∧ l1 ≤ 36 ∧ l3 + l4 = 75 ∧ 37 ≤ l3 ∧ l3 ≤ 38) ∧ (rgs SE 2048 0 sta) ∧ (0 ≤ sta ∧ sta ≤ 2100000000) ∧ (0 ≤ stp)
set_option maxRecDepth 100000 in
theorem thI.fr {o o2 : Nat → Nat} {S : List Nat} {G G2 : ab_G} {a : Nat} {stp : Int} (hf : fx o o2 S G G2) (h : thI o G a stp) (n0 : ¬ 32 ∈ S) (n1 : ¬ 33 ∈ S) (n2 : ¬ 35 ∈ S) (n3 : ¬ 36 ∈ S) (n4 : ¬ 37 ∈ S) (n5 : ¬ 38 ∈ S) (n6 : ¬ 39 ∈ S) (n7 : ¬ 40 ∈ S) : thI o2 G2 a stp := by
  obtain ⟨wk, nw, tn, nsp, tsp, se, stk, nc, tc, sta, fo, hw, fy, WK, NW, TN, NS, TS, SE, SK, l1, l2, l3, l4, sp0, q0, s0, c_a, c_wk, c_nw, c_tn, c_nsp, c_tsp, c_se, c_stk, k_cl, k_jse, k_cst, k_cst0⟩ := h
  exact ⟨wk, nw, tn, nsp, tsp, se, stk, nc, tc, sta, fo, hw, fy, WK, NW, TN, NS, TS, SE, SK, l1, l2, l3, l4, sp0, q0, s0, hf.get c_a n0, hf.get c_wk n1, hf.get c_nw (fun z => by rcases (show l1 = 35 ∨ l1 = 36 by omega) with e | e <;> (rw [e] at z; first | exact n2 z | exact n3 z)), hf.get c_tn (fun z => by rcases (show l2 = 35 ∨ l2 = 36 by omega) with e | e <;> (rw [e] at z; first | exact n2 z | exact n3 z)), hf.get c_nsp (fun z => by rcases (show l3 = 37 ∨ l3 = 38 by omega) with e | e <;> (rw [e] at z; first | exact n4 z | exact n5 z)), hf.get c_tsp (fun z => by rcases (show l4 = 37 ∨ l4 = 38 by omega) with e | e <;> (rw [e] at z; first | exact n4 z | exact n5 z)), hf.get c_se n6, hf.get c_stk n7, k_cl, k_jse, k_cst, k_cst0⟩
theorem thI.recv {o : Nat → Nat} {G : ab_G} {a : Nat} {stp : Int} (h : thI o G a stp) : ∃ fs, G[a]? = some (.inr (11, fs)) := by
  obtain ⟨wk, nw, tn, nsp, tsp, se, stk, nc, tc, sta, fo, hw, fy, WK, NW, TN, NS, TS, SE, SK, l1, l2, l3, l4, sp0, q0, s0, c_a, c_wk, c_nw, c_tn, c_nsp, c_tsp, c_se, c_stk, k_cl, k_jse, k_cst, k_cst0⟩ := h
  exact ⟨_, c_a.2.2⟩
def mkI (o : Nat → Nat) (G : ab_G) (a : Nat) (nm : Nat) (ns : Nat) (stp : Int) : Prop := ∃ wk : Nat, ∃ mk : Nat, ∃ stk : Nat, ∃ w : Int, ∃ df : Int, ∃ dp : Int, ∃ fo : Int, ∃ fy : Int, ∃ hw : Int, ∃ WK : Int → Int, ∃ M : Int → Int, ∃ SK : Int → Int, ∃ sp0 : Value, ∃ q0 : Value, ∃ s0 : Value, cc o G a 44 (ab_ob 2 [sp0, vR wk, vR mk, vz w, vz df, vR stk, vz dp, vz fo, vz fy, vz hw, q0, s0, vj stp]) ∧ cc o G wk 45 (za 20 WK) ∧ cc o G mk 46 (za nm M) ∧ cc o G stk 47 (za ns SK) ∧ (64 ≤ nm ∧ nm ≤ 52026 ∧ 64 ≤ ns ∧ ns ≤ 1616809) ∧ (stn ns) ∧ (0 ≤ fo ∧ fo ≤ 1) ∧ (0 ≤ stp)
set_option maxRecDepth 100000 in
theorem mkI.fr {o o2 : Nat → Nat} {S : List Nat} {G G2 : ab_G} {a : Nat} {nm : Nat} {ns : Nat} {stp : Int} (hf : fx o o2 S G G2) (h : mkI o G a nm ns stp) (n0 : ¬ 44 ∈ S) (n1 : ¬ 45 ∈ S) (n2 : ¬ 46 ∈ S) (n3 : ¬ 47 ∈ S) : mkI o2 G2 a nm ns stp := by
  obtain ⟨wk, mk, stk, w, df, dp, fo, fy, hw, WK, M, SK, sp0, q0, s0, c_a, c_wk, c_mk, c_stk, k_cn, k_hst, k_cfo, k_cst0⟩ := h
  exact ⟨wk, mk, stk, w, df, dp, fo, fy, hw, WK, M, SK, sp0, q0, s0, hf.get c_a n0, hf.get c_wk n1, hf.get c_mk n2, hf.get c_stk n3, k_cn, k_hst, k_cfo, k_cst0⟩
theorem mkI.recv {o : Nat → Nat} {G : ab_G} {a : Nat} {nm : Nat} {ns : Nat} {stp : Int} (h : mkI o G a nm ns stp) : ∃ fs, G[a]? = some (.inr (2, fs)) := by
  obtain ⟨wk, mk, stk, w, df, dp, fo, fy, hw, WK, M, SK, sp0, q0, s0, c_a, c_wk, c_mk, c_stk, k_cn, k_hst, k_cfo, k_cst0⟩ := h
  exact ⟨_, c_a.2.2⟩
def mkB (o : Nat → Nat) (G : ab_G) (a : Nat) (q : Nat) (s : Nat) (sp : Nat) (nm : Nat) (ns : Nat) (cnt : Int) (n : Int) (stp : Int) (un : Int) (K : Int → Int) (N : Int → Int) (O : Int → Int) (RR : Int → Int) (f : Int → Int) (dd : Int) (fy : Int) (hw : Int) : Prop := ∃ wk : Nat, ∃ mk : Nat, ∃ stk : Nat, ∃ w : Int, ∃ df : Int, ∃ dp : Int, ∃ fo : Int, ∃ WK : Int → Int, ∃ M : Int → Int, ∃ SK : Int → Int, cc o G a 44 (ab_ob 2 [vR sp, vR wk, vR mk, vz w, vz df, vR stk, vz dp, vz fo, vz fy, vz hw, vR q, vR s, vj stp]) ∧ cc o G wk 45 (za 20 WK) ∧ cc o G mk 46 (za nm M) ∧ cc o G stk 47 (za ns SK) ∧ (64 ≤ nm ∧ nm ≤ 52026 ∧ 64 ≤ ns ∧ ns ≤ 1616809) ∧ (stn ns) ∧ (0 ≤ fo ∧ fo ≤ 1 ∧ 0 ≤ fy ∧ fy ≤ 1 ∧ 0 ≤ hw ∧ hw ≤ 2) ∧ (1 ≤ w ∧ w ≤ 26 ∧ cnt ≤ 32 * w) ∧ ((n + 1) * w ≤ ↑nm ∧ ↑nm ≤ (52026 : Int)) ∧ (0 ≤ df ∧ df ≤ n + 1) ∧ (ddC K N O RR f n hw dd M w df) ∧ (0 ≤ stp) ∧ (un = ucn M w df n)
set_option maxRecDepth 100000 in
theorem mkB.fr {o o2 : Nat → Nat} {S : List Nat} {G G2 : ab_G} {a : Nat} {q : Nat} {s : Nat} {sp : Nat} {nm : Nat} {ns : Nat} {cnt : Int} {n : Int} {stp : Int} {un : Int} {K : Int → Int} {N : Int → Int} {O : Int → Int} {RR : Int → Int} {f : Int → Int} {dd : Int} {fy : Int} {hw : Int} (hf : fx o o2 S G G2) (h : mkB o G a q s sp nm ns cnt n stp un K N O RR f dd fy hw) (n0 : ¬ 44 ∈ S) (n1 : ¬ 45 ∈ S) (n2 : ¬ 46 ∈ S) (n3 : ¬ 47 ∈ S) : mkB o2 G2 a q s sp nm ns cnt n stp un K N O RR f dd fy hw := by
  obtain ⟨wk, mk, stk, w, df, dp, fo, WK, M, SK, c_a, c_wk, c_mk, c_stk, k_cn, k_hst, k_cf, k_cw, k_cm, k_cd, k_hdd, k_cst0, k_hun⟩ := h
  exact ⟨wk, mk, stk, w, df, dp, fo, WK, M, SK, hf.get c_a n0, hf.get c_wk n1, hf.get c_mk n2, hf.get c_stk n3, k_cn, k_hst, k_cf, k_cw, k_cm, k_cd, k_hdd, k_cst0, k_hun⟩
theorem mkB.recv {o : Nat → Nat} {G : ab_G} {a : Nat} {q : Nat} {s : Nat} {sp : Nat} {nm : Nat} {ns : Nat} {cnt : Int} {n : Int} {stp : Int} {un : Int} {K : Int → Int} {N : Int → Int} {O : Int → Int} {RR : Int → Int} {f : Int → Int} {dd : Int} {fy : Int} {hw : Int} (h : mkB o G a q s sp nm ns cnt n stp un K N O RR f dd fy hw) : ∃ fs, G[a]? = some (.inr (2, fs)) := by
  obtain ⟨wk, mk, stk, w, df, dp, fo, WK, M, SK, c_a, c_wk, c_mk, c_stk, k_cn, k_hst, k_cf, k_cw, k_cm, k_cd, k_hdd, k_cst0, k_hun⟩ := h
  exact ⟨_, c_a.2.2⟩
def omI (o : Nat → Nat) (G : ab_G) (a : Nat) (on : Nat) (nt : Nat) (stp : Int) : Prop := ∃ wk : Nat, ∃ onw : Nat, ∃ tkn : Nat, ∃ se_ : Nat, ∃ cle : Nat, ∃ stk : Nat, ∃ dp : Int, ∃ fo : Int, ∃ chn : Int, ∃ hw : Int, ∃ fy : Int, ∃ WK : Int → Int, ∃ ON : Int → Int, ∃ SK : Int → Int, ∃ sp0 : Value, ∃ q0 : Value, ∃ s0 : Value, ∃ SE : Int → Int, ∃ CL : Int → Int, ∃ ct : Int, ∃ P : Int → Prop, ∃ nk : Nat, cc o G a 50 (ab_ob 3 [sp0, vR wk, vR onw, vR tkn, vR se_, vR cle, vR stk, vz dp, vz fo, vz chn, q0, s0, vz hw, vz fy, vj stp]) ∧ cc o G wk 51 (za 20 WK) ∧ cc o G onw 52 (za 20 ON) ∧ cc o G se_ 55 (za on SE) ∧ cc o G cle 56 (za on CL) ∧ cc o G stk 57 (za nk SK) ∧ csI o G tkn 53 54 nt ct P ∧ (onk on nk) ∧ (nt ≤ 104000) ∧ (0 ≤ stp)
set_option maxRecDepth 100000 in
theorem omI.fr {o o2 : Nat → Nat} {S : List Nat} {G G2 : ab_G} {a : Nat} {on : Nat} {nt : Nat} {stp : Int} (hf : fx o o2 S G G2) (h : omI o G a on nt stp) (n0 : ¬ 50 ∈ S) (n1 : ¬ 51 ∈ S) (n2 : ¬ 52 ∈ S) (n3 : ¬ 55 ∈ S) (n4 : ¬ 56 ∈ S) (n5 : ¬ 57 ∈ S) (n6 : ¬ 53 ∈ S) (n7 : ¬ 54 ∈ S) : omI o2 G2 a on nt stp := by
  obtain ⟨wk, onw, tkn, se_, cle, stk, dp, fo, chn, hw, fy, WK, ON, SK, sp0, q0, s0, SE, CL, ct, P, nk, c_a, c_wk, c_onw, c_se_, c_cle, c_stk, p_csI_tkn, k_hon, k_hnt, k_cst0⟩ := h
  exact ⟨wk, onw, tkn, se_, cle, stk, dp, fo, chn, hw, fy, WK, ON, SK, sp0, q0, s0, SE, CL, ct, P, nk, hf.get c_a n0, hf.get c_wk n1, hf.get c_onw n2, hf.get c_se_ n3, hf.get c_cle n4, hf.get c_stk n5, csI.fr hf p_csI_tkn n6 n7, k_hon, k_hnt, k_cst0⟩
theorem omI.recv {o : Nat → Nat} {G : ab_G} {a : Nat} {on : Nat} {nt : Nat} {stp : Int} (h : omI o G a on nt stp) : ∃ fs, G[a]? = some (.inr (3, fs)) := by
  obtain ⟨wk, onw, tkn, se_, cle, stk, dp, fo, chn, hw, fy, WK, ON, SK, sp0, q0, s0, SE, CL, ct, P, nk, c_a, c_wk, c_onw, c_se_, c_cle, c_stk, p_csI_tkn, k_hon, k_hnt, k_cst0⟩ := h
  exact ⟨_, c_a.2.2⟩
def stI (o : Nat → Nat) (G : ab_G) (a : Nat) (cv : Int → Int) (cmp : Int) (stp : Int) (sb : Int) : Prop := ∃ cu : Nat, ∃ eg : Nat, ∃ po : Nat, ∃ bg : Nat, ∃ bd : Nat, ∃ sd : Nat, ∃ se_ : Nat, ∃ stk : Nat, ∃ mst : Int, ∃ q0 : Value, ∃ vr : Int, ∃ ro : Int, ∃ cn : Int, ∃ ct : Int, ∃ sc : Int, ∃ sta : Int, ∃ arv : Int, ∃ CU : Int → Int, ∃ EG : Int → Int, ∃ PO : Int → Int, ∃ BG : Int → Int, ∃ BD : Int → Int, ∃ SD : Int → Int, ∃ SE : Int → Int, ∃ SK : Int → Int, cc o G a 60 (ab_ob 8 [vz mst, q0, vz vr, vz ro, vR cu, vz cn, vR eg, vR po, vR bg, vR bd, vz ct, vR sd, vz sc, vR se_, vz sta, vR stk, vz arv, vj stp]) ∧ cc o G cu 61 (za 120 CU) ∧ cc o G eg 62 (za 8000 EG) ∧ cc o G po 63 (za 8192 PO) ∧ cc o G bg 64 (za 65 BG) ∧ cc o G bd 65 (za 64 BD) ∧ cc o G sd 66 (za 2048 SD) ∧ cc o G se_ 67 (za 3072 SE) ∧ cc o G stk 68 (za 809 SK) ∧ (rgs CU 120 0 1114112) ∧ (0 ≤ cn ∧ cn ≤ 121) ∧ (4 ≤ mst ∧ mst ≤ 64 ∧ 0 ≤ ct ∧ ct ≤ mst) ∧ (0 ≤ vr ∧ vr ≤ cmp ∧ cmp ≤ 100000) ∧ (bgo BG ct) ∧ (ents PO (BG ct) (cv vr)) ∧ (rgs BD 64 0 7) ∧ (ego EG ct (cn + 5)) ∧ (0 ≤ ro ∧ ro ≤ 1 ∧ 0 ≤ arv ∧ arv ≤ 1 ∧ 0 ≤ sc ∧ sc ≤ 2048) ∧ (0 ≤ stp) ∧ (rgs SE 3072 0 sta) ∧ (0 ≤ sta ∧ sta ≤ sb) ∧ (stQ cv vr ro CU cn PO BG BD EG ct)
set_option maxRecDepth 100000 in
theorem stI.fr {o o2 : Nat → Nat} {S : List Nat} {G G2 : ab_G} {a : Nat} {cv : Int → Int} {cmp : Int} {stp : Int} {sb : Int} (hf : fx o o2 S G G2) (h : stI o G a cv cmp stp sb) (n0 : ¬ 60 ∈ S) (n1 : ¬ 61 ∈ S) (n2 : ¬ 62 ∈ S) (n3 : ¬ 63 ∈ S) (n4 : ¬ 64 ∈ S) (n5 : ¬ 65 ∈ S) (n6 : ¬ 66 ∈ S) (n7 : ¬ 67 ∈ S) (n8 : ¬ 68 ∈ S) : stI o2 G2 a cv cmp stp sb := by
  obtain ⟨cu, eg, po, bg, bd, sd, se_, stk, mst, q0, vr, ro, cn, ct, sc, sta, arv, CU, EG, PO, BG, BD, SD, SE, SK, c_a, c_cu, c_eg, c_po, c_bg, c_bd, c_sd, c_se_, c_stk, k_jcu, k_ccn, k_cms, k_cvr, k_jbg, k_jpo, k_jbd, k_jeg, k_cro, k_cst0, k_jse, k_csb, k_jsq⟩ := h
  exact ⟨cu, eg, po, bg, bd, sd, se_, stk, mst, q0, vr, ro, cn, ct, sc, sta, arv, CU, EG, PO, BG, BD, SD, SE, SK, hf.get c_a n0, hf.get c_cu n1, hf.get c_eg n2, hf.get c_po n3, hf.get c_bg n4, hf.get c_bd n5, hf.get c_sd n6, hf.get c_se_ n7, hf.get c_stk n8, k_jcu, k_ccn, k_cms, k_cvr, k_jbg, k_jpo, k_jbd, k_jeg, k_cro, k_cst0, k_jse, k_csb, k_jsq⟩
theorem stI.recv {o : Nat → Nat} {G : ab_G} {a : Nat} {cv : Int → Int} {cmp : Int} {stp : Int} {sb : Int} (h : stI o G a cv cmp stp sb) : ∃ fs, G[a]? = some (.inr (8, fs)) := by
  obtain ⟨cu, eg, po, bg, bd, sd, se_, stk, mst, q0, vr, ro, cn, ct, sc, sta, arv, CU, EG, PO, BG, BD, SD, SE, SK, c_a, c_cu, c_eg, c_po, c_bg, c_bd, c_sd, c_se_, c_stk, k_jcu, k_ccn, k_cms, k_cvr, k_jbg, k_jpo, k_jbd, k_jeg, k_cro, k_cst0, k_jse, k_csb, k_jsq⟩ := h
  exact ⟨_, c_a.2.2⟩
def suI (o : Nat → Nat) (G : ab_G) (s : Nat) (n : Int) (m : Nat) (f : Int → Int) : Prop := ∃ by_ : Nat, ∃ co : Nat, ∃ re : Nat, ∃ ho : Nat, ∃ C : Int → Int, ∃ Rs : Int → Int, ∃ H : Int → Int, ∃ mc : Nat, cc o G s 26 (ab_ob 9 [vR by_, vR co, vR re, vR ho, vz n]) ∧ cc o G by_ 27 (za m f) ∧ cc o G co 28 (za mc C) ∧ cc o G re 29 (za mc Rs) ∧ cc o G ho 30 (za mc H) ∧ (0 ≤ n ∧ n ≤ ↑m ∧ 32 ≤ m ∧ m ≤ 2000 ∧ mc = m + 1) ∧ (suok f C Rs H n)
set_option maxRecDepth 100000 in
theorem suI.fr {o o2 : Nat → Nat} {S : List Nat} {G G2 : ab_G} {s : Nat} {n : Int} {m : Nat} {f : Int → Int} (hf : fx o o2 S G G2) (h : suI o G s n m f) (n0 : ¬ 26 ∈ S) (n1 : ¬ 27 ∈ S) (n2 : ¬ 28 ∈ S) (n3 : ¬ 29 ∈ S) (n4 : ¬ 30 ∈ S) : suI o2 G2 s n m f := by
  obtain ⟨by_, co, re, ho, C, Rs, H, mc, c_s, c_by_, c_co, c_re, c_ho, k_csu, k_hsu⟩ := h
  exact ⟨by_, co, re, ho, C, Rs, H, mc, hf.get c_s n0, hf.get c_by_ n1, hf.get c_co n2, hf.get c_re n3, hf.get c_ho n4, k_csu, k_hsu⟩
theorem suI.recv {o : Nat → Nat} {G : ab_G} {s : Nat} {n : Int} {m : Nat} {f : Int → Int} (h : suI o G s n m f) : ∃ fs, G[s]? = some (.inr (9, fs)) := by
  obtain ⟨by_, co, re, ho, C, Rs, H, mc, c_s, c_by_, c_co, c_re, c_ho, k_csu, k_hsu⟩ := h
  exact ⟨_, c_s.2.2⟩
def pgB (o : Nat → Nat) (G : ab_G) (q : Nat) (lq : Nat) (nr : Nat) (cv : Int → Int) (cmp : Int) (on : Nat) (mi : Int) (sz : Int) : Prop := ∃ ki : Nat, ∃ ne : Nat, ∃ ot : Nat, ∃ cnt : Int, ∃ fi : Int, ∃ la : Int, ∃ ra : Nat, ∃ ru : Int, ∃ gr : Int, ∃ wi : Int, ∃ fl : Int, ∃ ve : Int, ∃ na : Nat, ∃ nl : Nat, ∃ K : Int → Int, ∃ N : Int → Int, ∃ O : Int → Int, ∃ RR : Int → Int, ∃ NA : Int → Int, ∃ NL : Int → Int, cc o G q lq (ab_ob 5 [vR ki, vR ne, vR ot, vz cnt, vz fi, vz la, vR ra, vz ru, vz gr, vz wi, vz sz, vz fl, vz ve, vz mi, vR na, vR nl]) ∧ cc o G ki (lq + 1) (za 808 K) ∧ cc o G ne (lq + 2) (za 808 N) ∧ cc o G ot (lq + 3) (za 808 O) ∧ cc o G ra (lq + 4) (za nr RR) ∧ cc o G na (lq + 5) (za 120 NA) ∧ cc o G nl (lq + 6) (za 10 NL) ∧ (100 ≤ lq ∧ 2 ≤ cnt ∧ cnt ≤ 808 ∧ ↑nr ≤ (100000 : Int) ∧ 32 ≤ nr) ∧ (prok K N O RR cnt ru wi) ∧ (prok K N O RR cnt ↑nr wi) ∧ (∀ k : Int, 0 ≤ k → k < ↑nr → 0 ≤ RR k ∧ RR k ≤ 1114111) ∧ (rch RR ru) ∧ (0 ≤ ru ∧ ru ≤ ↑nr ∧ ru ≤ 50000) ∧ (K 0 = 9) ∧ (0 ≤ fi ∧ fi < cnt ∧ 0 ≤ la ∧ la ≤ 1) ∧ (0 ≤ gr ∧ gr ≤ 9 ∧ wi = 2 * (gr + 1)) ∧ (0 ≤ fl ∧ fl ≤ 31 ∧ 0 ≤ sz ∧ sz ≤ 400 ∧ 0 ≤ mi ∧ mi ≤ 2) ∧ (mpone mi K N O cnt fi) ∧ (onq mi on) ∧ (cv ve = cnt) ∧ (0 ≤ ve ∧ ve ≤ cmp ∧ cmp ≤ 100000) ∧ (rgs NL 10 0 12) ∧ (ivR gr sz fl NL NA cv lq) ∧ (mnK cv lq K N O RR fi) ∧ (nmB NL NA gr) ∧ (laI la K cnt) ∧ (prV cv ve K N O RR cnt ru fi la) ∧ (1 ≤ ve) ∧ (kkF K cnt) ∧ (momc mi K N O RR cnt fi) ∧ (cnt ≤ 2 * sz + 8)
set_option maxRecDepth 100000 in
theorem pgB.fr {o o2 : Nat → Nat} {S : List Nat} {G G2 : ab_G} {q : Nat} {lq : Nat} {nr : Nat} {cv : Int → Int} {cmp : Int} {on : Nat} {mi : Int} {sz : Int} (hf : fx o o2 S G G2) (h : pgB o G q lq nr cv cmp on mi sz) (n0 : ¬ lq ∈ S) (n1 : ¬ (lq + 1) ∈ S) (n2 : ¬ (lq + 2) ∈ S) (n3 : ¬ (lq + 3) ∈ S) (n4 : ¬ (lq + 4) ∈ S) (n5 : ¬ (lq + 5) ∈ S) (n6 : ¬ (lq + 6) ∈ S) : pgB o2 G2 q lq nr cv cmp on mi sz := by
  obtain ⟨ki, ne, ot, cnt, fi, la, ra, ru, gr, wi, fl, ve, na, nl, K, N, O, RR, NA, NL, c_q, c_ki, c_ne, c_ot, c_ra, c_na, c_nl, k_cq, k_hpu, k_hp, k_hr, k_hch, k_cru, k_ck9, k_cfi, k_cgr, k_cfl, k_hpo, k_hmi, k_hvc, k_cve, k_jnl, k_hiv, k_hmn, k_jna, k_hla, k_hpv, k_cv1, k_hkk, k_hoc, k_csz⟩ := h
  exact ⟨ki, ne, ot, cnt, fi, la, ra, ru, gr, wi, fl, ve, na, nl, K, N, O, RR, NA, NL, hf.get c_q n0, hf.get c_ki n1, hf.get c_ne n2, hf.get c_ot n3, hf.get c_ra n4, hf.get c_na n5, hf.get c_nl n6, k_cq, k_hpu, k_hp, k_hr, k_hch, k_cru, k_ck9, k_cfi, k_cgr, k_cfl, k_hpo, k_hmi, k_hvc, k_cve, k_jnl, k_hiv, k_hmn, k_jna, k_hla, k_hpv, k_cv1, k_hkk, k_hoc, k_csz⟩
theorem pgB.recv {o : Nat → Nat} {G : ab_G} {q : Nat} {lq : Nat} {nr : Nat} {cv : Int → Int} {cmp : Int} {on : Nat} {mi : Int} {sz : Int} (h : pgB o G q lq nr cv cmp on mi sz) : ∃ fs, G[q]? = some (.inr (5, fs)) := by
  obtain ⟨ki, ne, ot, cnt, fi, la, ra, ru, gr, wi, fl, ve, na, nl, K, N, O, RR, NA, NL, c_q, c_ki, c_ne, c_ot, c_ra, c_na, c_nl, k_cq, k_hpu, k_hp, k_hr, k_hch, k_cru, k_ck9, k_cfi, k_cgr, k_cfl, k_hpo, k_hmi, k_hvc, k_cve, k_jnl, k_hiv, k_hmn, k_jna, k_hla, k_hpv, k_cv1, k_hkk, k_hoc, k_csz⟩ := h
  exact ⟨_, c_q.2.2⟩
theorem omI.nt {o : Nat → Nat} {G : ab_G} {a on nt : Nat} {stp : Int} (h : omI o G a on nt stp) : nt ≤ 104000 := by
  obtain ⟨wk, onw, tkn, se_, cle, stk, dp, fo, chn, hw, fy, WK, ON, SK, sp0, q0, s0, SE, CL, ct, P, nk, c_a, c_wk, c_onw, c_se_, c_cle, c_stk, p_csI_tkn, k_hon, k_hnt, k_cst0⟩ := h
  exact k_hnt
theorem mkI.b {o : Nat → Nat} {G : ab_G} {a nm ns : Nat} {stp : Int} (h : mkI o G a nm ns stp) : 64 ≤ nm ∧ nm ≤ 52026 := by
  obtain ⟨_, _, _, _, _, _, _, _, _, _, _, _, _, _, _, _, _, _, _, h, _⟩ := h
  omega
theorem pgB.ong {o : Nat → Nat} {G : ab_G} {q lq nr : Nat} {cv : Int → Int} {cmp : Int} {on on2 : Nat} {mi sz : Int} (h : pgB o G q lq nr cv cmp on mi sz) (hl : onL on on2) : pgB o G q lq nr cv cmp on2 mi sz := by
  obtain ⟨ki, ne, ot, cnt, fi, la, ra, ru, gr, wi, fl, ve, na, nl, K, N, O, RR, NA, NL, c_q, c_ki, c_ne, c_ot, c_ra, c_na, c_nl, k_cq, k_hpu, k_hp, k_hr, k_hch, k_cru, k_ck9, k_cfi, k_cgr, k_cfl, k_hpo, k_hmi, k_hvc, k_cve, k_jnl, k_hiv, k_hmn, k_jna, k_hla, k_hpv, k_cv1, k_hkk, k_hoc, k_csz⟩ := h
  exact ⟨ki, ne, ot, cnt, fi, la, ra, ru, gr, wi, fl, ve, na, nl, K, N, O, RR, NA, NL, c_q, c_ki, c_ne, c_ot, c_ra, c_na, c_nl, k_cq, k_hpu, k_hp, k_hr, k_hch, k_cru, k_ck9, k_cfi, k_cgr, k_cfl, k_hpo, (fun z => by have := k_hmi z; unfold onL at hl; omega), k_hvc, k_cve, k_jnl, k_hiv, k_hmn, k_jna, k_hla, k_hpv, k_cv1, k_hkk, k_hoc, k_csz⟩
def pgI (o : Nat → Nat) (G : ab_G) (_z : Nat) (PG : Nat → Option Nat) (NR : Nat → Nat) (cv : Int → Int) (cmp : Int) (on : Nat) : Prop := ∀ k q : Nat, k < 6 → PG k = some q → ∃ mi sz : Int, pgB o G q (100 + 10 * k) (NR k) cv cmp on mi sz
def pgX (o : Nat → Nat) (G : ab_G) (_z : Nat) (PG : Nat → Option Nat) (NR : Nat → Nat) (cv : Int → Int) (cmp : Int) (on : Nat) (k0 : Nat) : Prop := ∀ k q : Nat, k < 6 → ¬ k = k0 → PG k = some q → ∃ mi sz : Int, pgB o G q (100 + 10 * k) (NR k) cv cmp on mi sz
section PGs
variable {o o2 : Nat → Nat} {G G2 : ab_G} {PG : Nat → Option Nat} {NR : Nat → Nat} {cv : Int → Int} {cmp : Int} {on on2 k0 : Nat} {S : List Nat}
theorem pgI.opn {k q : Nat} (h : pgI o G 0 PG NR cv cmp on) (hk : k < 6) (hq : PG k = some q) : (∃ mi sz : Int, pgB o G q (100 + 10 * k) (NR k) cv cmp on mi sz) ∧ pgX o G 0 PG NR cv cmp on k := ⟨h k q hk hq, fun j p a _ c => h j p a c⟩
theorem pgX.cls {k q : Nat} {mi sz : Int} (h : pgX o G 0 PG NR cv cmp on k) (hq : PG k = some q) (hb : pgB o G q (100 + 10 * k) (NR k) cv cmp on mi sz) : pgI o G 0 PG NR cv cmp on := fun j p a c => by
  by_cases e : j = k
  · subst e
    rw [hq] at c
    cases c
    exact ⟨mi, sz, hb⟩
  · exact h j p a e c
theorem pgX.fr (hf : fx o o2 S G G2) (h : pgX o G 0 PG NR cv cmp on k0) (low : ∀ x ∈ S, x < 100 ∨ (100 + 10 * k0 ≤ x ∧ x ≤ 106 + 10 * k0)) : pgX o2 G2 0 PG NR cv cmp on k0 := fun k q a b c => by
  obtain ⟨mi, sz, hb⟩ := h k q a b c
  exact ⟨mi, sz, hb.fr hf (fun z => by have := low _ z; omega) (fun z => by have := low _ z; omega) (fun z => by have := low _ z; omega) (fun z => by have := low _ z; omega) (fun z => by have := low _ z; omega) (fun z => by have := low _ z; omega) (fun z => by have := low _ z; omega)⟩
theorem pgI.fr (hf : fx o o2 S G G2) (h : pgI o G 0 PG NR cv cmp on) (low : ∀ x ∈ S, x < 100) : pgI o2 G2 0 PG NR cv cmp on := fun k q a c => by
  obtain ⟨mi, sz, hb⟩ := h k q a c
  exact ⟨mi, sz, hb.fr hf (fun z => by have := low _ z; omega) (fun z => by have := low _ z; omega) (fun z => by have := low _ z; omega) (fun z => by have := low _ z; omega) (fun z => by have := low _ z; omega) (fun z => by have := low _ z; omega) (fun z => by have := low _ z; omega)⟩
theorem pgX.ong (h : pgX o G 0 PG NR cv cmp on k0) (hl : onL on on2) : pgX o G 0 PG NR cv cmp on2 k0 := fun k q a b c => by
  obtain ⟨mi, sz, hb⟩ := h k q a b c
  exact ⟨mi, sz, hb.ong hl⟩
end PGs
