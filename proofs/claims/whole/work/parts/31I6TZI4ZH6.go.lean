set_option maxRecDepth 100000 in
set_option maxHeartbeats 4000000 in
theorem z_MO_go_Row_0 {X : ab_X} {d : Nat} {o : Nat → Nat} {G : ab_G} {m_thrown : Int} {m_taped : Int} {m_length : Int} {m_out : Int} {m_wide : Int} {m_gathered : Int} {m_sets : Int} {m_ranges : Int} {m_nodes : Int} {m_at : Int} {m_flags : Int} {m_fault : Int} {m_place : Int} {m_numbered : Int} {m_depth : Int} {m_value : Int} {m_isNot : Int} {m_least0 : Int} {m_most0 : Int} {m_slot : Int} {m_work : Int} {m_got : Int} {m_rowMany : Int} {m_charAt : Int} {m_charWide : Int} {m_trail : Int} {m_isMatch : Int} {m_matchGroups : Int} {m_allFrom : Int} {m_allBefore : Int} {m_founds : Int} {m_pieces : Int} {m_writtenMany : Int} {m_templateWide : Int} {m_tooMuch : Int} {T : Int → Int} {N : Int → Int} {W : Int → Int} {CA : Int → Int} {CM : Int → Int} {CL : Int → Int} {CH : Int → Int} {SN : Int → Int} {CC : Int → Int} {RO : Int → Int} {WP : Int → Int} {WD : Int → Int} {WT : Int → Int} {WG : Int → Int} {WS : Int → Int} {K : Int → Int} {O : Int → Int} {Fi : Int → Int} {Be : Int → Int} {Le : Int → Int} {Mo : Int → Int} {Z : Int → Int} {LZ : Int → Int} {SM : Int → Int} {SA : Int → Int} {RL : Int → Int} {RH : Int → Int} {w : Int} {ns : Int} {pa : Int → Int} {po : Int → Int} {MN : Int → Int} {dl : Int → Int} {st : Int → Int} {ht : Int → Int} {hh : Int → Int} {PS : Int → Int → Int} {T_ : Int} {QF : Int → Int} {QL : Int → Int} {AF : Int → Int} {AL : Int → Int} {SD : Int → Int} {nd : Int} (h80 : cc o G 80 280 (ab_ob 12 (mof m_thrown m_taped m_length m_out m_wide m_gathered m_sets m_ranges m_nodes m_at m_flags m_fault m_place m_numbered m_depth m_value m_isNot m_least0 m_most0 m_slot m_work m_got m_rowMany m_charAt m_charWide m_trail m_isMatch m_matchGroups m_allFrom m_allBefore m_founds m_pieces m_writtenMany m_templateWide m_tooMuch))) (h94 : cc o G 94 294 (za 4200 K)) (h95 : cc o G 95 295 (za 4200 O)) (h96 : cc o G 96 296 (za 4200 Fi)) (h97 : cc o G 97 297 (za 4200 Be)) (h98 : cc o G 98 298 (za 4200 Le)) (h99 : cc o G 99 299 (za 4200 Mo)) (h100 : cc o G 100 300 (zl 4200 Z)) (h101 : cc o G 101 301 (zb 4200 LZ)) (h90 : cc o G 90 290 (za 2100 SM)) (h89 : cc o G 89 289 (za 2100 SA)) (h91 : cc o G 91 291 (za 24000 RL)) (h92 : cc o G 92 292 (za 24000 RH)) (h118 : cc o G 118 318 (za 75000 T)) (h119 : cc o G 119 319 (za 75000 N)) (h120 : cc o G 120 320 (za 75000 W)) (h121 : cc o G 121 321 (za 75000 CA)) (h122 : cc o G 122 322 (za 75000 CM)) (h123 : cc o G 123 323 (za 3600 CL)) (h124 : cc o G 124 324 (za 3600 CH)) (h117 : cc o G 117 317 (za 6 SN)) (h125 : cc o G 125 325 (za 6 CC)) (h133 : cc o G 133 333 (za 40000 RO)) (h128 : cc o G 128 328 (za 300 WP)) (h129 : cc o G 129 329 (za 300 WD)) (h130 : cc o G 130 330 (za 300 WT)) (h131 : cc o G 131 331 (za 300 WG)) (h132 : cc o G 132 332 (za 300 WS)) (n18 : ab_n0 = 18) (csl : 0 ≤ m_slot ∧ m_slot ≤ 5) (jrl : rgs RL 24000 0 1114111) (jrh : rgs RH 24000 0 1114111) (jk : rgs K 4200 0 7) (jo : rgs O 4200 (-1) 3000) (jfi : rgs Fi 4200 (-1) 4199) (jbe : rgs Be 4200 (-1) 4199) (jle : rgs Le 4200 0 1000) (jmo : rgs Mo 4200 (-1) 1000) (jz : rgs Z 4200 (-1) 1000000000000) (jlz : rgs LZ 4200 0 1) (jsm : rgs SM 2100 0 24000) (jsa : rgs SA 2100 0 24000) (gt : rgs T 75000 0 6) (gn : rgs N 75000 (-1) 12499) (gw : rgs W 75000 (-1) 12499) (gca : rgs CA 75000 0 3600) (gcm : rgs CM 75000 0 24000) (gcl : rgs CL 3600 0 1114111) (gch : rgs CH 3600 0 1114111) (gsn : rgs SN 6 0 12500) (gcc : rgs CC 6 0 600) (gro : rgs RO 40000 0 12499) (gwp : rgs WP 300 0 4199) (gwd : rgs WD 300 0 31) (gwt : rgs WT 300 0 39968) (gwg : rgs WG 300 0 39968) (gws : rgs WS 300 0 4300) (jka : tka T W CA CM SM SA RL RH CL CH (12500 * m_slot) (SN m_slot) m_slot (CC m_slot) ns) (jss : sas SA SM ns) (cst : 0 ≤ m_rowMany ∧ m_rowMany ≤ 1250 ∧ 0 ≤ (SN m_slot) ∧ (SN m_slot) ≤ 12500 ∧ 0 ≤ ns ∧ ns ≤ 2100) (cw : 0 ≤ w ∧ m_work = w + 1 ∧ w < 299) (cx : 0 ≤ WP w ∧ WP w < nd ∧ 0 ≤ nd ∧ nd ≤ 4200 ∧ 0 ≤ WD w ∧ WD w ≤ 31 ∧ 0 ≤ WT w ∧ WT w + 32 ≤ 32 * m_rowMany) (jG : rtG K O Fi Be Le Mo Z SM QF QL AF AL SD nd ns 0 pa po MN dl st ht hh PS T_) (ck : K (WP w) = 4) (jf : rtF nd pa po MN (WP w) (Fi (WP w))) (cws : 0 ≤ WS w ∧ WS w ≤ 4200) (cs0 : WS w = 0) (jwg : rokk RO (WG w) (WD w + 1) (SN m_slot)) (cwg : 0 ≤ WG w ∧ WG w + 32 ≤ 32 * m_rowMany) (czz : 1 ≤ Z (WP w)) (hd : 4 ≤ d) : ab_F X d y_MO_go (.code y_MO_go b_MO_go 4 none) [vR 80, vz w] G (fun oc G2 => (∃ g2 : Int, ∃ WP2 : Int → Int, ∃ WD2 : Int → Int, ∃ WT2 : Int → Int, ∃ WG2 : Int → Int, ∃ WS2 : Int → Int, oc = .returned none ∧ fx o o [280, 328, 329, 330, 331, 332] G G2 ∧ G2.length = G.length ∧ ab_slots G2 = ab_slots G ∧ cc o G2 80 280 (ab_ob 12 (mof m_thrown m_taped m_length m_out m_wide m_gathered m_sets m_ranges m_nodes m_at m_flags m_fault m_place m_numbered m_depth m_value m_isNot m_least0 m_most0 m_slot (m_work - 1) g2 m_rowMany m_charAt m_charWide m_trail m_isMatch m_matchGroups m_allFrom m_allBefore m_founds m_pieces m_writtenMany m_templateWide m_tooMuch)) ∧ cc o G2 128 328 (za 300 WP2) ∧ cc o G2 129 329 (za 300 WD2) ∧ cc o G2 130 330 (za 300 WT2) ∧ cc o G2 131 331 (za 300 WG2) ∧ cc o G2 132 332 (za 300 WS2) ∧ (rgs WP2 300 0 4199) ∧ (rgs WD2 300 0 31) ∧ (rgs WT2 300 0 39968) ∧ (rgs WG2 300 0 39968) ∧ (rgs WS2 300 0 4300) ∧ (fsm WP WD WT WG WS WP2 WD2 WT2 WG2 WS2 w) ∧ (g2 = WG w) ∧ (MN (WP w) ≤ WS w ∧ 0 ≤ MN (WP w))) ∨ (∃ c2 : Int, ∃ t2 : Int, ∃ u2 : Int, ∃ WP2 : Int → Int, ∃ WD2 : Int → Int, ∃ WT2 : Int → Int, ∃ WG2 : Int → Int, ∃ WS2 : Int → Int, oc = .returned none ∧ fx o o [280, 328, 329, 330, 331, 332] G G2 ∧ G2.length = G.length ∧ ab_slots G2 = ab_slots G ∧ cc o G2 80 280 (ab_ob 12 (mof m_thrown m_taped m_length m_out m_wide m_gathered m_sets m_ranges m_nodes m_at m_flags m_fault m_place m_numbered m_depth m_value m_isNot m_least0 m_most0 m_slot (m_work + 1) m_got m_rowMany m_charAt m_charWide m_trail m_isMatch m_matchGroups m_allFrom m_allBefore m_founds m_pieces m_writtenMany m_templateWide m_tooMuch)) ∧ cc o G2 128 328 (za 300 WP2) ∧ cc o G2 129 329 (za 300 WD2) ∧ cc o G2 130 330 (za 300 WT2) ∧ cc o G2 131 331 (za 300 WG2) ∧ cc o G2 132 332 (za 300 WS2) ∧ (rgs WP2 300 0 4199) ∧ (rgs WD2 300 0 31) ∧ (rgs WT2 300 0 39968) ∧ (rgs WG2 300 0 39968) ∧ (rgs WS2 300 0 4300) ∧ (fsm WP WD WT WG WS WP2 WD2 WT2 WG2 WS2 w) ∧ (WP2 m_work = c2) ∧ (WD2 m_work = WD w) ∧ (WT2 m_work = t2) ∧ (WG2 m_work = t2) ∧ (WS2 m_work = 0) ∧ (WP2 w = WP w) ∧ (WD2 w = WD w) ∧ (WT2 w = WT w) ∧ (WG2 w = u2) ∧ (WS2 w = (WS w + 1)) ∧ (0 ≤ c2 ∧ c2 < nd) ∧ (t2 = WG w) ∧ (u2 = WG w) ∧ (WS w < MN (WP w) ∧ MN (WP w) ≤ 4200) ∧ (pa c2 = WP w ∧ po c2 = MN (WP w) - 1 - WS w) ∧ (nthI Fi Be (WP w) (MN (WP w) - 1 - WS w) c2))) := by
  refine ab_F_of (by decide +kernel) (Nat.le_of_ble_eq_true rfl) ?_
  obtain ⟨Q, hQ⟩ : ∃ z : Outcome → ab_G → Prop, z = (fun oc G2 => (∃ g2 : Int, ∃ WP2 : Int → Int, ∃ WD2 : Int → Int, ∃ WT2 : Int → Int, ∃ WG2 : Int → Int, ∃ WS2 : Int → Int, oc = .returned none ∧ fx o o [280, 328, 329, 330, 331, 332] G G2 ∧ G2.length = G.length ∧ ab_slots G2 = ab_slots G ∧ cc o G2 80 280 (ab_ob 12 (mof m_thrown m_taped m_length m_out m_wide m_gathered m_sets m_ranges m_nodes m_at m_flags m_fault m_place m_numbered m_depth m_value m_isNot m_least0 m_most0 m_slot (m_work - 1) g2 m_rowMany m_charAt m_charWide m_trail m_isMatch m_matchGroups m_allFrom m_allBefore m_founds m_pieces m_writtenMany m_templateWide m_tooMuch)) ∧ cc o G2 128 328 (za 300 WP2) ∧ cc o G2 129 329 (za 300 WD2) ∧ cc o G2 130 330 (za 300 WT2) ∧ cc o G2 131 331 (za 300 WG2) ∧ cc o G2 132 332 (za 300 WS2) ∧ (rgs WP2 300 0 4199) ∧ (rgs WD2 300 0 31) ∧ (rgs WT2 300 0 39968) ∧ (rgs WG2 300 0 39968) ∧ (rgs WS2 300 0 4300) ∧ (fsm WP WD WT WG WS WP2 WD2 WT2 WG2 WS2 w) ∧ (g2 = WG w) ∧ (MN (WP w) ≤ WS w ∧ 0 ≤ MN (WP w))) ∨ (∃ c2 : Int, ∃ t2 : Int, ∃ u2 : Int, ∃ WP2 : Int → Int, ∃ WD2 : Int → Int, ∃ WT2 : Int → Int, ∃ WG2 : Int → Int, ∃ WS2 : Int → Int, oc = .returned none ∧ fx o o [280, 328, 329, 330, 331, 332] G G2 ∧ G2.length = G.length ∧ ab_slots G2 = ab_slots G ∧ cc o G2 80 280 (ab_ob 12 (mof m_thrown m_taped m_length m_out m_wide m_gathered m_sets m_ranges m_nodes m_at m_flags m_fault m_place m_numbered m_depth m_value m_isNot m_least0 m_most0 m_slot (m_work + 1) m_got m_rowMany m_charAt m_charWide m_trail m_isMatch m_matchGroups m_allFrom m_allBefore m_founds m_pieces m_writtenMany m_templateWide m_tooMuch)) ∧ cc o G2 128 328 (za 300 WP2) ∧ cc o G2 129 329 (za 300 WD2) ∧ cc o G2 130 330 (za 300 WT2) ∧ cc o G2 131 331 (za 300 WG2) ∧ cc o G2 132 332 (za 300 WS2) ∧ (rgs WP2 300 0 4199) ∧ (rgs WD2 300 0 31) ∧ (rgs WT2 300 0 39968) ∧ (rgs WG2 300 0 39968) ∧ (rgs WS2 300 0 4300) ∧ (fsm WP WD WT WG WS WP2 WD2 WT2 WG2 WS2 w) ∧ (WP2 m_work = c2) ∧ (WD2 m_work = WD w) ∧ (WT2 m_work = t2) ∧ (WG2 m_work = t2) ∧ (WS2 m_work = 0) ∧ (WP2 w = WP w) ∧ (WD2 w = WD w) ∧ (WT2 w = WT w) ∧ (WG2 w = u2) ∧ (WS2 w = (WS w + 1)) ∧ (0 ≤ c2 ∧ c2 < nd) ∧ (t2 = WG w) ∧ (u2 = WG w) ∧ (WS w < MN (WP w) ∧ MN (WP w) ≤ 4200) ∧ (pa c2 = WP w ∧ po c2 = MN (WP w) - 1 - WS w) ∧ (nthI Fi Be (WP w) (MN (WP w) - 1 - WS w) c2))) := ⟨_, rfl⟩
  rw [← hQ]
  change ab_W X (ab_pl y_MO_go b_MO_go 4 none) d G 0 [some (vR 80), some (vz w), none, none] [] Q
  have hfr : fx o o [280, 328, 329, 330, 331, 332] G G := fx.rf
  have hlen : G.length = G.length := rfl
  have hsl : ab_slots G = ab_slots G := rfl
  refine ab_aload_n d_MO_go_0 rfl ?_
  refine ab_getf (fs := mof m_thrown m_taped m_length m_out m_wide m_gathered m_sets m_ranges m_nodes m_at m_flags m_fault m_place m_numbered m_depth m_value m_isNot m_least0 m_most0 m_slot m_work m_got m_rowMany m_charAt m_charWide m_trail m_isMatch m_matchGroups m_allFrom m_allBefore m_founds m_pieces m_writtenMany m_templateWide m_tooMuch) f_MO_158 d_MO_go_1 h80.2.2 rfl ?_
  refine ab_iload_n d_MO_go_4 rfl ?_
  refine zz_iald d_MO_go_5 h128 (by omega) ?_
  have hq1 := gwp w (by omega) (by omega)
  refine ab_istore_n d_MO_go_6 (Nat.le_of_ble_eq_true rfl) (Nat.le_of_ble_eq_true rfl) rfl ?_
  change ab_W _ _ _ G 7 [some (vR 80), some (vz w), some (vz (WP w)), none] [] _
  refine ab_aload_n d_MO_go_7 rfl ?_
  refine ab_getf (fs := mof m_thrown m_taped m_length m_out m_wide m_gathered m_sets m_ranges m_nodes m_at m_flags m_fault m_place m_numbered m_depth m_value m_isNot m_least0 m_most0 m_slot m_work m_got m_rowMany m_charAt m_charWide m_trail m_isMatch m_matchGroups m_allFrom m_allBefore m_founds m_pieces m_writtenMany m_templateWide m_tooMuch) f_MO_161 d_MO_go_8 h80.2.2 rfl ?_
  refine ab_iload_n d_MO_go_11 rfl ?_
  refine zz_iald d_MO_go_12 h129 (by omega) ?_
  have hq2 := gwd w (by omega) (by omega)
  refine ab_istore_n d_MO_go_13 (Nat.le_of_ble_eq_true rfl) (Nat.le_of_ble_eq_true rfl) rfl ?_
  change ab_W _ _ _ G 14 [some (vR 80), some (vz w), some (vz (WP w)), some (vz (WD w))] [] _
  refine ab_aload_n d_MO_go_14 rfl ?_
  refine ab_getf (fs := mof m_thrown m_taped m_length m_out m_wide m_gathered m_sets m_ranges m_nodes m_at m_flags m_fault m_place m_numbered m_depth m_value m_isNot m_least0 m_most0 m_slot m_work m_got m_rowMany m_charAt m_charWide m_trail m_isMatch m_matchGroups m_allFrom m_allBefore m_founds m_pieces m_writtenMany m_templateWide m_tooMuch) f_MO_68 d_MO_go_15 h80.2.2 rfl ?_
  refine ab_iload_n d_MO_go_18 rfl ?_
  refine zz_lald d_MO_go_19 h100 (by omega) ?_
  have hq3 := jz (WP w) (by omega) (by omega)
  refine zz_lconst d_MO_go_20 ?_
  change ab_W _ _ _ G 21 [some (vR 80), some (vz w), some (vz (WP w)), some (vz (WD w))] [vj 0, vj (Z (WP w))] _
  refine zz_lcmp d_MO_go_21 (by omega) (by omega) (fun c4a => by exfalso; omega) (fun c4a c4b => by exfalso; omega) (fun c4a => ?_)
  · refine zz_if_ne (tgt := 36) d_MO_go_22 (by decide) (by decide) (fun c5 => ?_) (fun c5 => absurd c5 (by decide))
    refine ab_aload_n d_MO_go_36 rfl ?_
    refine ab_getf (fs := mof m_thrown m_taped m_length m_out m_wide m_gathered m_sets m_ranges m_nodes m_at m_flags m_fault m_place m_numbered m_depth m_value m_isNot m_least0 m_most0 m_slot m_work m_got m_rowMany m_charAt m_charWide m_trail m_isMatch m_matchGroups m_allFrom m_allBefore m_founds m_pieces m_writtenMany m_templateWide m_tooMuch) f_MO_50 d_MO_go_37 h80.2.2 rfl ?_
    refine ab_iload_n d_MO_go_40 rfl ?_
    refine zz_iald d_MO_go_41 h94 (by omega) ?_
    have hq6 := jk (WP w) (by omega) (by omega)
    refine zz_top (y := 4) (by omega) ?_
    change ab_W _ _ _ G 42 [some (vR 80), some (vz w), some (vz (WP w)), some (vz (WD w))] [vz 4] _
    refine zz_tableIn (off := 129) (tgt := 171) d_MO_go_42 (by decide) (by decide) (by decide) (by decide) (by decide) ?_
    refine ab_aload_n d_MO_go_171 rfl ?_
    refine ab_iload_n d_MO_go_172 rfl ?_
    refine ab_callV (d' := d - 1) (as := [vz w]) (st := []) (r := _) (z_MO_goRow_0 (o := o) (m_thrown := m_thrown) (m_taped := m_taped) (m_length := m_length) (m_out := m_out) (m_wide := m_wide) (m_gathered := m_gathered) (m_sets := m_sets) (m_ranges := m_ranges) (m_nodes := m_nodes) (m_at := m_at) (m_flags := m_flags) (m_fault := m_fault) (m_place := m_place) (m_numbered := m_numbered) (m_depth := m_depth) (m_value := m_value) (m_isNot := m_isNot) (m_least0 := m_least0) (m_most0 := m_most0) (m_slot := m_slot) (m_work := m_work) (m_got := m_got) (m_rowMany := m_rowMany) (m_charAt := m_charAt) (m_charWide := m_charWide) (m_trail := m_trail) (m_isMatch := m_isMatch) (m_matchGroups := m_matchGroups) (m_allFrom := m_allFrom) (m_allBefore := m_allBefore) (m_founds := m_founds) (m_pieces := m_pieces) (m_writtenMany := m_writtenMany) (m_templateWide := m_templateWide) (m_tooMuch := m_tooMuch) (T := T) (N := N) (W := W) (CA := CA) (CM := CM) (CL := CL) (CH := CH) (SN := SN) (CC := CC) (RO := RO) (WP := WP) (WD := WD) (WT := WT) (WG := WG) (WS := WS) (K := K) (O := O) (Fi := Fi) (Be := Be) (Le := Le) (Mo := Mo) (Z := Z) (LZ := LZ) (SM := SM) (SA := SA) (RL := RL) (RH := RH) (w := w) (ns := ns) (pa := pa) (po := po) (MN := MN) (dl := dl) (st := st) (ht := ht) (hh := hh) (PS := PS) (T_ := T_) (QF := QF) (QL := QL) (AF := AF) (AL := AL) (SD := SD) (nd := nd) h80 h94 h95 h96 h97 h98 h99 h100 h101 h90 h89 h91 h92 h118 h119 h120 h121 h122 h123 h124 h117 h125 h133 h128 h129 h130 h131 h132 (by omega) (by omega) jrl jrh jk jo jfi jbe jle jmo jz jlz jsm jsa gt gn gw gca gcm gcl gch gsn gcc gro gwp gwd gwt gwg gws jka jss (by omega) (by omega) (by omega) jG (by omega) jf (by omega) (by omega) jwg (by omega) (by omega)) (fun oc G2 h => by rcases h with ⟨_, _, _, _, _, _, h, _⟩ | ⟨_, _, _, _, _, _, _, _, h, _⟩ <;> exact ⟨_, h⟩) (by omega) m_MO_goRow ml_MO_489 im_MO_goRow se_MO_goRow c_MO h80.2.2 (Nat.le_of_ble_eq_true rfl) d_MO_go_173 rfl ?_
    intro v G8 hq
    rcases hq with ⟨g29, WP210, WD211, WT212, WG213, WS214, hv, hfk, hlk, hsk, hN80, hN128, hN129, hN130, hN131, hN132, hq15, hq16, hq17, hq18, hq19, hq20, hq21, hq22⟩ | ⟨c223, t224, u225, WP226, WD227, WT228, WG229, WS230, hv, hfk, hlk, hsk, hN80, hN128, hN129, hN130, hN131, hN132, hq31, hq32, hq33, hq34, hq35, hq36, hq37, hq38, hq39, hq40, hq41, hq42, hq43, hq44, hq45, hq46, hq47, hq48, hq49, hq50, hq51, hq52⟩
    · cases hv
      have h94 := hfk.get h94 (by decide)
      have h95 := hfk.get h95 (by decide)
      have h96 := hfk.get h96 (by decide)
      have h97 := hfk.get h97 (by decide)
      have h98 := hfk.get h98 (by decide)
      have h99 := hfk.get h99 (by decide)
      have h100 := hfk.get h100 (by decide)
      have h101 := hfk.get h101 (by decide)
      have h90 := hfk.get h90 (by decide)
      have h89 := hfk.get h89 (by decide)
      have h91 := hfk.get h91 (by decide)
      have h92 := hfk.get h92 (by decide)
      have h118 := hfk.get h118 (by decide)
      have h119 := hfk.get h119 (by decide)
      have h120 := hfk.get h120 (by decide)
      have h121 := hfk.get h121 (by decide)
      have h122 := hfk.get h122 (by decide)
      have h123 := hfk.get h123 (by decide)
      have h124 := hfk.get h124 (by decide)
      have h117 := hfk.get h117 (by decide)
      have h125 := hfk.get h125 (by decide)
      have h133 := hfk.get h133 (by decide)
      have hfr := hfr.tr hfk (by decide)
      have hlen := hlk.trans hlen
      have hsl := hsk.trans hsl
      have h80 := hN80
      have h128 := hN128
      have h129 := hN129
      have h130 := hN130
      have h131 := hN131
      have h132 := hN132
      change ab_W _ _ _ G8 176 [some (vR 80), some (vz w), some (vz (WP w)), some (vz (WD w))] [] _
      refine ab_goto (tgt := 200) d_MO_go_176 (by decide) ?_
      refine ab_vret rfl d_MO_go_200 ?_
      rw [hQ]; exact (Or.inl ⟨_, _, _, _, _, _, rfl, hfr, hlen, hsl, h80, h128, h129, h130, h131, h132, (by first | exact hq15 | exact rgs_w hq15 (by omega)), (by first | exact hq16 | exact rgs_w hq16 (by omega)), (by first | exact hq17 | exact rgs_w hq17 (by omega)), (by first | exact hq18 | exact rgs_w hq18 (by omega)), (by first | exact hq19 | exact rgs_w hq19 (by omega)), (by assumption), (by assumption), (by omega)⟩)
    · cases hv
      have h94 := hfk.get h94 (by decide)
      have h95 := hfk.get h95 (by decide)
      have h96 := hfk.get h96 (by decide)
      have h97 := hfk.get h97 (by decide)
      have h98 := hfk.get h98 (by decide)
      have h99 := hfk.get h99 (by decide)
      have h100 := hfk.get h100 (by decide)
      have h101 := hfk.get h101 (by decide)
      have h90 := hfk.get h90 (by decide)
      have h89 := hfk.get h89 (by decide)
      have h91 := hfk.get h91 (by decide)
      have h92 := hfk.get h92 (by decide)
      have h118 := hfk.get h118 (by decide)
      have h119 := hfk.get h119 (by decide)
      have h120 := hfk.get h120 (by decide)
      have h121 := hfk.get h121 (by decide)
      have h122 := hfk.get h122 (by decide)
      have h123 := hfk.get h123 (by decide)
      have h124 := hfk.get h124 (by decide)
      have h117 := hfk.get h117 (by decide)
      have h125 := hfk.get h125 (by decide)
      have h133 := hfk.get h133 (by decide)
      have hfr := hfr.tr hfk (by decide)
      have hlen := hlk.trans hlen
      have hsl := hsk.trans hsl
      have h80 := hN80
      have h128 := hN128
      have h129 := hN129
      have h130 := hN130
      have h131 := hN131
      have h132 := hN132
      change ab_W _ _ _ G8 176 [some (vR 80), some (vz w), some (vz (WP w)), some (vz (WD w))] [] _
      refine ab_goto (tgt := 200) d_MO_go_176 (by decide) ?_
      refine ab_vret rfl d_MO_go_200 ?_
      rw [hQ]; exact (Or.inr ⟨_, _, _, _, _, _, _, _, rfl, hfr, hlen, hsl, h80, h128, h129, h130, h131, h132, (by first | exact hq31 | exact rgs_w hq31 (by omega)), (by first | exact hq32 | exact rgs_w hq32 (by omega)), (by first | exact hq33 | exact rgs_w hq33 (by omega)), (by first | exact hq34 | exact rgs_w hq34 (by omega)), (by first | exact hq35 | exact rgs_w hq35 (by omega)), (by assumption), (by assumption), (by assumption), (by assumption), (by assumption), (by assumption), (by assumption), (by assumption), (by assumption), (by assumption), (by assumption), (by omega), (by assumption), (by assumption), (by omega), (by assumption), (by assumption)⟩)
set_option maxRecDepth 100000 in
set_option maxHeartbeats 4000000 in
theorem z_MO_go_Row_s {X : ab_X} {d : Nat} {o : Nat → Nat} {G : ab_G} {m_thrown : Int} {m_taped : Int} {m_length : Int} {m_out : Int} {m_wide : Int} {m_gathered : Int} {m_sets : Int} {m_ranges : Int} {m_nodes : Int} {m_at : Int} {m_flags : Int} {m_fault : Int} {m_place : Int} {m_numbered : Int} {m_depth : Int} {m_value : Int} {m_isNot : Int} {m_least0 : Int} {m_most0 : Int} {m_slot : Int} {m_work : Int} {m_got : Int} {m_rowMany : Int} {m_charAt : Int} {m_charWide : Int} {m_trail : Int} {m_isMatch : Int} {m_matchGroups : Int} {m_allFrom : Int} {m_allBefore : Int} {m_founds : Int} {m_pieces : Int} {m_writtenMany : Int} {m_templateWide : Int} {m_tooMuch : Int} {T : Int → Int} {N : Int → Int} {W : Int → Int} {CA : Int → Int} {CM : Int → Int} {CL : Int → Int} {CH : Int → Int} {SN : Int → Int} {CC : Int → Int} {RO : Int → Int} {WP : Int → Int} {WD : Int → Int} {WT : Int → Int} {WG : Int → Int} {WS : Int → Int} {K : Int → Int} {O : Int → Int} {Fi : Int → Int} {Be : Int → Int} {Le : Int → Int} {Mo : Int → Int} {Z : Int → Int} {LZ : Int → Int} {SM : Int → Int} {SA : Int → Int} {RL : Int → Int} {RH : Int → Int} {w : Int} {ns : Int} {pa : Int → Int} {po : Int → Int} {MN : Int → Int} {dl : Int → Int} {st : Int → Int} {ht : Int → Int} {hh : Int → Int} {PS : Int → Int → Int} {T_ : Int} {QF : Int → Int} {QL : Int → Int} {AF : Int → Int} {AL : Int → Int} {SD : Int → Int} {nd : Int} (h80 : cc o G 80 280 (ab_ob 12 (mof m_thrown m_taped m_length m_out m_wide m_gathered m_sets m_ranges m_nodes m_at m_flags m_fault m_place m_numbered m_depth m_value m_isNot m_least0 m_most0 m_slot m_work m_got m_rowMany m_charAt m_charWide m_trail m_isMatch m_matchGroups m_allFrom m_allBefore m_founds m_pieces m_writtenMany m_templateWide m_tooMuch))) (h94 : cc o G 94 294 (za 4200 K)) (h95 : cc o G 95 295 (za 4200 O)) (h96 : cc o G 96 296 (za 4200 Fi)) (h97 : cc o G 97 297 (za 4200 Be)) (h98 : cc o G 98 298 (za 4200 Le)) (h99 : cc o G 99 299 (za 4200 Mo)) (h100 : cc o G 100 300 (zl 4200 Z)) (h101 : cc o G 101 301 (zb 4200 LZ)) (h90 : cc o G 90 290 (za 2100 SM)) (h89 : cc o G 89 289 (za 2100 SA)) (h91 : cc o G 91 291 (za 24000 RL)) (h92 : cc o G 92 292 (za 24000 RH)) (h118 : cc o G 118 318 (za 75000 T)) (h119 : cc o G 119 319 (za 75000 N)) (h120 : cc o G 120 320 (za 75000 W)) (h121 : cc o G 121 321 (za 75000 CA)) (h122 : cc o G 122 322 (za 75000 CM)) (h123 : cc o G 123 323 (za 3600 CL)) (h124 : cc o G 124 324 (za 3600 CH)) (h117 : cc o G 117 317 (za 6 SN)) (h125 : cc o G 125 325 (za 6 CC)) (h133 : cc o G 133 333 (za 40000 RO)) (h128 : cc o G 128 328 (za 300 WP)) (h129 : cc o G 129 329 (za 300 WD)) (h130 : cc o G 130 330 (za 300 WT)) (h131 : cc o G 131 331 (za 300 WG)) (h132 : cc o G 132 332 (za 300 WS)) (n18 : ab_n0 = 18) (csl : 0 ≤ m_slot ∧ m_slot ≤ 5) (jrl : rgs RL 24000 0 1114111) (jrh : rgs RH 24000 0 1114111) (jk : rgs K 4200 0 7) (jo : rgs O 4200 (-1) 3000) (jfi : rgs Fi 4200 (-1) 4199) (jbe : rgs Be 4200 (-1) 4199) (jle : rgs Le 4200 0 1000) (jmo : rgs Mo 4200 (-1) 1000) (jz : rgs Z 4200 (-1) 1000000000000) (jlz : rgs LZ 4200 0 1) (jsm : rgs SM 2100 0 24000) (jsa : rgs SA 2100 0 24000) (gt : rgs T 75000 0 6) (gn : rgs N 75000 (-1) 12499) (gw : rgs W 75000 (-1) 12499) (gca : rgs CA 75000 0 3600) (gcm : rgs CM 75000 0 24000) (gcl : rgs CL 3600 0 1114111) (gch : rgs CH 3600 0 1114111) (gsn : rgs SN 6 0 12500) (gcc : rgs CC 6 0 600) (gro : rgs RO 40000 0 12499) (gwp : rgs WP 300 0 4199) (gwd : rgs WD 300 0 31) (gwt : rgs WT 300 0 39968) (gwg : rgs WG 300 0 39968) (gws : rgs WS 300 0 4300) (jka : tka T W CA CM SM SA RL RH CL CH (12500 * m_slot) (SN m_slot) m_slot (CC m_slot) ns) (jss : sas SA SM ns) (cst : 0 ≤ m_rowMany ∧ m_rowMany ≤ 1250 ∧ 0 ≤ (SN m_slot) ∧ (SN m_slot) ≤ 12500 ∧ 0 ≤ ns ∧ ns ≤ 2100) (cw : 0 ≤ w ∧ m_work = w + 1 ∧ w < 299) (cx : 0 ≤ WP w ∧ WP w < nd ∧ 0 ≤ nd ∧ nd ≤ 4200 ∧ 0 ≤ WD w ∧ WD w ≤ 31 ∧ 0 ≤ WT w ∧ WT w + 32 ≤ 32 * m_rowMany) (jG : rtG K O Fi Be Le Mo Z SM QF QL AF AL SD nd ns 0 pa po MN dl st ht hh PS T_) (ck : K (WP w) = 4) (jf : rtF nd pa po MN (WP w) (Fi (WP w))) (cws : 0 ≤ WS w ∧ WS w ≤ 4200) (cs0 : 0 < WS w) (jgo : rokk RO m_got (WD w + 1) (SN m_slot)) (cgo : 0 ≤ m_got ∧ m_got + 32 ≤ 32 * m_rowMany) (czz : 1 ≤ Z (WP w)) (hd : 4 ≤ d) : ab_F X d y_MO_go (.code y_MO_go b_MO_go 4 none) [vR 80, vz w] G (fun oc G2 => (∃ g2 : Int, ∃ WP2 : Int → Int, ∃ WD2 : Int → Int, ∃ WT2 : Int → Int, ∃ WG2 : Int → Int, ∃ WS2 : Int → Int, oc = .returned none ∧ fx o o [280, 328, 329, 330, 331, 332] G G2 ∧ G2.length = G.length ∧ ab_slots G2 = ab_slots G ∧ cc o G2 80 280 (ab_ob 12 (mof m_thrown m_taped m_length m_out m_wide m_gathered m_sets m_ranges m_nodes m_at m_flags m_fault m_place m_numbered m_depth m_value m_isNot m_least0 m_most0 m_slot (m_work - 1) g2 m_rowMany m_charAt m_charWide m_trail m_isMatch m_matchGroups m_allFrom m_allBefore m_founds m_pieces m_writtenMany m_templateWide m_tooMuch)) ∧ cc o G2 128 328 (za 300 WP2) ∧ cc o G2 129 329 (za 300 WD2) ∧ cc o G2 130 330 (za 300 WT2) ∧ cc o G2 131 331 (za 300 WG2) ∧ cc o G2 132 332 (za 300 WS2) ∧ (rgs WP2 300 0 4199) ∧ (rgs WD2 300 0 31) ∧ (rgs WT2 300 0 39968) ∧ (rgs WG2 300 0 39968) ∧ (rgs WS2 300 0 4300) ∧ (fsm WP WD WT WG WS WP2 WD2 WT2 WG2 WS2 w) ∧ (g2 = m_got) ∧ (MN (WP w) ≤ WS w ∧ 0 ≤ MN (WP w))) ∨ (∃ c2 : Int, ∃ t2 : Int, ∃ u2 : Int, ∃ WP2 : Int → Int, ∃ WD2 : Int → Int, ∃ WT2 : Int → Int, ∃ WG2 : Int → Int, ∃ WS2 : Int → Int, oc = .returned none ∧ fx o o [280, 328, 329, 330, 331, 332] G G2 ∧ G2.length = G.length ∧ ab_slots G2 = ab_slots G ∧ cc o G2 80 280 (ab_ob 12 (mof m_thrown m_taped m_length m_out m_wide m_gathered m_sets m_ranges m_nodes m_at m_flags m_fault m_place m_numbered m_depth m_value m_isNot m_least0 m_most0 m_slot (m_work + 1) m_got m_rowMany m_charAt m_charWide m_trail m_isMatch m_matchGroups m_allFrom m_allBefore m_founds m_pieces m_writtenMany m_templateWide m_tooMuch)) ∧ cc o G2 128 328 (za 300 WP2) ∧ cc o G2 129 329 (za 300 WD2) ∧ cc o G2 130 330 (za 300 WT2) ∧ cc o G2 131 331 (za 300 WG2) ∧ cc o G2 132 332 (za 300 WS2) ∧ (rgs WP2 300 0 4199) ∧ (rgs WD2 300 0 31) ∧ (rgs WT2 300 0 39968) ∧ (rgs WG2 300 0 39968) ∧ (rgs WS2 300 0 4300) ∧ (fsm WP WD WT WG WS WP2 WD2 WT2 WG2 WS2 w) ∧ (WP2 m_work = c2) ∧ (WD2 m_work = WD w) ∧ (WT2 m_work = t2) ∧ (WG2 m_work = t2) ∧ (WS2 m_work = 0) ∧ (WP2 w = WP w) ∧ (WD2 w = WD w) ∧ (WT2 w = WT w) ∧ (WG2 w = u2) ∧ (WS2 w = (WS w + 1)) ∧ (0 ≤ c2 ∧ c2 < nd) ∧ (t2 = m_got) ∧ (u2 = m_got) ∧ (WS w < MN (WP w) ∧ MN (WP w) ≤ 4200) ∧ (pa c2 = WP w ∧ po c2 = MN (WP w) - 1 - WS w) ∧ (nthI Fi Be (WP w) (MN (WP w) - 1 - WS w) c2))) := by
  refine ab_F_of (by decide +kernel) (Nat.le_of_ble_eq_true rfl) ?_
  obtain ⟨Q, hQ⟩ : ∃ z : Outcome → ab_G → Prop, z = (fun oc G2 => (∃ g2 : Int, ∃ WP2 : Int → Int, ∃ WD2 : Int → Int, ∃ WT2 : Int → Int, ∃ WG2 : Int → Int, ∃ WS2 : Int → Int, oc = .returned none ∧ fx o o [280, 328, 329, 330, 331, 332] G G2 ∧ G2.length = G.length ∧ ab_slots G2 = ab_slots G ∧ cc o G2 80 280 (ab_ob 12 (mof m_thrown m_taped m_length m_out m_wide m_gathered m_sets m_ranges m_nodes m_at m_flags m_fault m_place m_numbered m_depth m_value m_isNot m_least0 m_most0 m_slot (m_work - 1) g2 m_rowMany m_charAt m_charWide m_trail m_isMatch m_matchGroups m_allFrom m_allBefore m_founds m_pieces m_writtenMany m_templateWide m_tooMuch)) ∧ cc o G2 128 328 (za 300 WP2) ∧ cc o G2 129 329 (za 300 WD2) ∧ cc o G2 130 330 (za 300 WT2) ∧ cc o G2 131 331 (za 300 WG2) ∧ cc o G2 132 332 (za 300 WS2) ∧ (rgs WP2 300 0 4199) ∧ (rgs WD2 300 0 31) ∧ (rgs WT2 300 0 39968) ∧ (rgs WG2 300 0 39968) ∧ (rgs WS2 300 0 4300) ∧ (fsm WP WD WT WG WS WP2 WD2 WT2 WG2 WS2 w) ∧ (g2 = m_got) ∧ (MN (WP w) ≤ WS w ∧ 0 ≤ MN (WP w))) ∨ (∃ c2 : Int, ∃ t2 : Int, ∃ u2 : Int, ∃ WP2 : Int → Int, ∃ WD2 : Int → Int, ∃ WT2 : Int → Int, ∃ WG2 : Int → Int, ∃ WS2 : Int → Int, oc = .returned none ∧ fx o o [280, 328, 329, 330, 331, 332] G G2 ∧ G2.length = G.length ∧ ab_slots G2 = ab_slots G ∧ cc o G2 80 280 (ab_ob 12 (mof m_thrown m_taped m_length m_out m_wide m_gathered m_sets m_ranges m_nodes m_at m_flags m_fault m_place m_numbered m_depth m_value m_isNot m_least0 m_most0 m_slot (m_work + 1) m_got m_rowMany m_charAt m_charWide m_trail m_isMatch m_matchGroups m_allFrom m_allBefore m_founds m_pieces m_writtenMany m_templateWide m_tooMuch)) ∧ cc o G2 128 328 (za 300 WP2) ∧ cc o G2 129 329 (za 300 WD2) ∧ cc o G2 130 330 (za 300 WT2) ∧ cc o G2 131 331 (za 300 WG2) ∧ cc o G2 132 332 (za 300 WS2) ∧ (rgs WP2 300 0 4199) ∧ (rgs WD2 300 0 31) ∧ (rgs WT2 300 0 39968) ∧ (rgs WG2 300 0 39968) ∧ (rgs WS2 300 0 4300) ∧ (fsm WP WD WT WG WS WP2 WD2 WT2 WG2 WS2 w) ∧ (WP2 m_work = c2) ∧ (WD2 m_work = WD w) ∧ (WT2 m_work = t2) ∧ (WG2 m_work = t2) ∧ (WS2 m_work = 0) ∧ (WP2 w = WP w) ∧ (WD2 w = WD w) ∧ (WT2 w = WT w) ∧ (WG2 w = u2) ∧ (WS2 w = (WS w + 1)) ∧ (0 ≤ c2 ∧ c2 < nd) ∧ (t2 = m_got) ∧ (u2 = m_got) ∧ (WS w < MN (WP w) ∧ MN (WP w) ≤ 4200) ∧ (pa c2 = WP w ∧ po c2 = MN (WP w) - 1 - WS w) ∧ (nthI Fi Be (WP w) (MN (WP w) - 1 - WS w) c2))) := ⟨_, rfl⟩
  rw [← hQ]
  change ab_W X (ab_pl y_MO_go b_MO_go 4 none) d G 0 [some (vR 80), some (vz w), none, none] [] Q
  have hfr : fx o o [280, 328, 329, 330, 331, 332] G G := fx.rf
  have hlen : G.length = G.length := rfl
  have hsl : ab_slots G = ab_slots G := rfl
  refine ab_aload_n d_MO_go_0 rfl ?_
  refine ab_getf (fs := mof m_thrown m_taped m_length m_out m_wide m_gathered m_sets m_ranges m_nodes m_at m_flags m_fault m_place m_numbered m_depth m_value m_isNot m_least0 m_most0 m_slot m_work m_got m_rowMany m_charAt m_charWide m_trail m_isMatch m_matchGroups m_allFrom m_allBefore m_founds m_pieces m_writtenMany m_templateWide m_tooMuch) f_MO_158 d_MO_go_1 h80.2.2 rfl ?_
  refine ab_iload_n d_MO_go_4 rfl ?_
  refine zz_iald d_MO_go_5 h128 (by omega) ?_
  have hq1 := gwp w (by omega) (by omega)
  refine ab_istore_n d_MO_go_6 (Nat.le_of_ble_eq_true rfl) (Nat.le_of_ble_eq_true rfl) rfl ?_
  change ab_W _ _ _ G 7 [some (vR 80), some (vz w), some (vz (WP w)), none] [] _
  refine ab_aload_n d_MO_go_7 rfl ?_
  refine ab_getf (fs := mof m_thrown m_taped m_length m_out m_wide m_gathered m_sets m_ranges m_nodes m_at m_flags m_fault m_place m_numbered m_depth m_value m_isNot m_least0 m_most0 m_slot m_work m_got m_rowMany m_charAt m_charWide m_trail m_isMatch m_matchGroups m_allFrom m_allBefore m_founds m_pieces m_writtenMany m_templateWide m_tooMuch) f_MO_161 d_MO_go_8 h80.2.2 rfl ?_
  refine ab_iload_n d_MO_go_11 rfl ?_
  refine zz_iald d_MO_go_12 h129 (by omega) ?_
  have hq2 := gwd w (by omega) (by omega)
  refine ab_istore_n d_MO_go_13 (Nat.le_of_ble_eq_true rfl) (Nat.le_of_ble_eq_true rfl) rfl ?_
  change ab_W _ _ _ G 14 [some (vR 80), some (vz w), some (vz (WP w)), some (vz (WD w))] [] _
  refine ab_aload_n d_MO_go_14 rfl ?_
  refine ab_getf (fs := mof m_thrown m_taped m_length m_out m_wide m_gathered m_sets m_ranges m_nodes m_at m_flags m_fault m_place m_numbered m_depth m_value m_isNot m_least0 m_most0 m_slot m_work m_got m_rowMany m_charAt m_charWide m_trail m_isMatch m_matchGroups m_allFrom m_allBefore m_founds m_pieces m_writtenMany m_templateWide m_tooMuch) f_MO_68 d_MO_go_15 h80.2.2 rfl ?_
  refine ab_iload_n d_MO_go_18 rfl ?_
  refine zz_lald d_MO_go_19 h100 (by omega) ?_
  have hq3 := jz (WP w) (by omega) (by omega)
  refine zz_lconst d_MO_go_20 ?_
  change ab_W _ _ _ G 21 [some (vR 80), some (vz w), some (vz (WP w)), some (vz (WD w))] [vj 0, vj (Z (WP w))] _
  refine zz_lcmp d_MO_go_21 (by omega) (by omega) (fun c4a => by exfalso; omega) (fun c4a c4b => by exfalso; omega) (fun c4a => ?_)
  · refine zz_if_ne (tgt := 36) d_MO_go_22 (by decide) (by decide) (fun c5 => ?_) (fun c5 => absurd c5 (by decide))
    refine ab_aload_n d_MO_go_36 rfl ?_
    refine ab_getf (fs := mof m_thrown m_taped m_length m_out m_wide m_gathered m_sets m_ranges m_nodes m_at m_flags m_fault m_place m_numbered m_depth m_value m_isNot m_least0 m_most0 m_slot m_work m_got m_rowMany m_charAt m_charWide m_trail m_isMatch m_matchGroups m_allFrom m_allBefore m_founds m_pieces m_writtenMany m_templateWide m_tooMuch) f_MO_50 d_MO_go_37 h80.2.2 rfl ?_
    refine ab_iload_n d_MO_go_40 rfl ?_
    refine zz_iald d_MO_go_41 h94 (by omega) ?_
    have hq6 := jk (WP w) (by omega) (by omega)
    refine zz_top (y := 4) (by omega) ?_
    change ab_W _ _ _ G 42 [some (vR 80), some (vz w), some (vz (WP w)), some (vz (WD w))] [vz 4] _
    refine zz_tableIn (off := 129) (tgt := 171) d_MO_go_42 (by decide) (by decide) (by decide) (by decide) (by decide) ?_
    refine ab_aload_n d_MO_go_171 rfl ?_
    refine ab_iload_n d_MO_go_172 rfl ?_
    refine ab_callV (d' := d - 1) (as := [vz w]) (st := []) (r := _) (z_MO_goRow_s (o := o) (m_thrown := m_thrown) (m_taped := m_taped) (m_length := m_length) (m_out := m_out) (m_wide := m_wide) (m_gathered := m_gathered) (m_sets := m_sets) (m_ranges := m_ranges) (m_nodes := m_nodes) (m_at := m_at) (m_flags := m_flags) (m_fault := m_fault) (m_place := m_place) (m_numbered := m_numbered) (m_depth := m_depth) (m_value := m_value) (m_isNot := m_isNot) (m_least0 := m_least0) (m_most0 := m_most0) (m_slot := m_slot) (m_work := m_work) (m_got := m_got) (m_rowMany := m_rowMany) (m_charAt := m_charAt) (m_charWide := m_charWide) (m_trail := m_trail) (m_isMatch := m_isMatch) (m_matchGroups := m_matchGroups) (m_allFrom := m_allFrom) (m_allBefore := m_allBefore) (m_founds := m_founds) (m_pieces := m_pieces) (m_writtenMany := m_writtenMany) (m_templateWide := m_templateWide) (m_tooMuch := m_tooMuch) (T := T) (N := N) (W := W) (CA := CA) (CM := CM) (CL := CL) (CH := CH) (SN := SN) (CC := CC) (RO := RO) (WP := WP) (WD := WD) (WT := WT) (WG := WG) (WS := WS) (K := K) (O := O) (Fi := Fi) (Be := Be) (Le := Le) (Mo := Mo) (Z := Z) (LZ := LZ) (SM := SM) (SA := SA) (RL := RL) (RH := RH) (w := w) (ns := ns) (pa := pa) (po := po) (MN := MN) (dl := dl) (st := st) (ht := ht) (hh := hh) (PS := PS) (T_ := T_) (QF := QF) (QL := QL) (AF := AF) (AL := AL) (SD := SD) (nd := nd) h80 h94 h95 h96 h97 h98 h99 h100 h101 h90 h89 h91 h92 h118 h119 h120 h121 h122 h123 h124 h117 h125 h133 h128 h129 h130 h131 h132 (by omega) (by omega) jrl jrh jk jo jfi jbe jle jmo jz jlz jsm jsa gt gn gw gca gcm gcl gch gsn gcc gro gwp gwd gwt gwg gws jka jss (by omega) (by omega) (by omega) jG (by omega) jf (by omega) (by omega) jgo (by omega) (by omega)) (fun oc G2 h => by rcases h with ⟨_, _, _, _, _, _, h, _⟩ | ⟨_, _, _, _, _, _, _, _, h, _⟩ <;> exact ⟨_, h⟩) (by omega) m_MO_goRow ml_MO_489 im_MO_goRow se_MO_goRow c_MO h80.2.2 (Nat.le_of_ble_eq_true rfl) d_MO_go_173 rfl ?_
    intro v G8 hq
    rcases hq with ⟨g29, WP210, WD211, WT212, WG213, WS214, hv, hfk, hlk, hsk, hN80, hN128, hN129, hN130, hN131, hN132, hq15, hq16, hq17, hq18, hq19, hq20, hq21, hq22⟩ | ⟨c223, t224, u225, WP226, WD227, WT228, WG229, WS230, hv, hfk, hlk, hsk, hN80, hN128, hN129, hN130, hN131, hN132, hq31, hq32, hq33, hq34, hq35, hq36, hq37, hq38, hq39, hq40, hq41, hq42, hq43, hq44, hq45, hq46, hq47, hq48, hq49, hq50, hq51, hq52⟩
    · cases hv
      have h94 := hfk.get h94 (by decide)
      have h95 := hfk.get h95 (by decide)
      have h96 := hfk.get h96 (by decide)
      have h97 := hfk.get h97 (by decide)
      have h98 := hfk.get h98 (by decide)
      have h99 := hfk.get h99 (by decide)
      have h100 := hfk.get h100 (by decide)
      have h101 := hfk.get h101 (by decide)
      have h90 := hfk.get h90 (by decide)
      have h89 := hfk.get h89 (by decide)
      have h91 := hfk.get h91 (by decide)
      have h92 := hfk.get h92 (by decide)
      have h118 := hfk.get h118 (by decide)
      have h119 := hfk.get h119 (by decide)
      have h120 := hfk.get h120 (by decide)
      have h121 := hfk.get h121 (by decide)
      have h122 := hfk.get h122 (by decide)
      have h123 := hfk.get h123 (by decide)
      have h124 := hfk.get h124 (by decide)
      have h117 := hfk.get h117 (by decide)
      have h125 := hfk.get h125 (by decide)
      have h133 := hfk.get h133 (by decide)
      have hfr := hfr.tr hfk (by decide)
      have hlen := hlk.trans hlen
      have hsl := hsk.trans hsl
      have h80 := hN80
      have h128 := hN128
      have h129 := hN129
      have h130 := hN130
      have h131 := hN131
      have h132 := hN132
      change ab_W _ _ _ G8 176 [some (vR 80), some (vz w), some (vz (WP w)), some (vz (WD w))] [] _
      refine ab_goto (tgt := 200) d_MO_go_176 (by decide) ?_
      refine ab_vret rfl d_MO_go_200 ?_
      rw [hQ]; exact (Or.inl ⟨_, _, _, _, _, _, rfl, hfr, hlen, hsl, h80, h128, h129, h130, h131, h132, (by first | exact hq15 | exact rgs_w hq15 (by omega)), (by first | exact hq16 | exact rgs_w hq16 (by omega)), (by first | exact hq17 | exact rgs_w hq17 (by omega)), (by first | exact hq18 | exact rgs_w hq18 (by omega)), (by first | exact hq19 | exact rgs_w hq19 (by omega)), (by assumption), (by assumption), (by omega)⟩)
    · cases hv
      have h94 := hfk.get h94 (by decide)
      have h95 := hfk.get h95 (by decide)
      have h96 := hfk.get h96 (by decide)
      have h97 := hfk.get h97 (by decide)
      have h98 := hfk.get h98 (by decide)
      have h99 := hfk.get h99 (by decide)
      have h100 := hfk.get h100 (by decide)
      have h101 := hfk.get h101 (by decide)
      have h90 := hfk.get h90 (by decide)
      have h89 := hfk.get h89 (by decide)
      have h91 := hfk.get h91 (by decide)
      have h92 := hfk.get h92 (by decide)
      have h118 := hfk.get h118 (by decide)
      have h119 := hfk.get h119 (by decide)
      have h120 := hfk.get h120 (by decide)
      have h121 := hfk.get h121 (by decide)
      have h122 := hfk.get h122 (by decide)
      have h123 := hfk.get h123 (by decide)
      have h124 := hfk.get h124 (by decide)
      have h117 := hfk.get h117 (by decide)
      have h125 := hfk.get h125 (by decide)
      have h133 := hfk.get h133 (by decide)
      have hfr := hfr.tr hfk (by decide)
      have hlen := hlk.trans hlen
      have hsl := hsk.trans hsl
      have h80 := hN80
      have h128 := hN128
      have h129 := hN129
      have h130 := hN130
      have h131 := hN131
      have h132 := hN132
      change ab_W _ _ _ G8 176 [some (vR 80), some (vz w), some (vz (WP w)), some (vz (WD w))] [] _
      refine ab_goto (tgt := 200) d_MO_go_176 (by decide) ?_
      refine ab_vret rfl d_MO_go_200 ?_
      rw [hQ]; exact (Or.inr ⟨_, _, _, _, _, _, _, _, rfl, hfr, hlen, hsl, h80, h128, h129, h130, h131, h132, (by first | exact hq31 | exact rgs_w hq31 (by omega)), (by first | exact hq32 | exact rgs_w hq32 (by omega)), (by first | exact hq33 | exact rgs_w hq33 (by omega)), (by first | exact hq34 | exact rgs_w hq34 (by omega)), (by first | exact hq35 | exact rgs_w hq35 (by omega)), (by assumption), (by assumption), (by assumption), (by assumption), (by assumption), (by assumption), (by assumption), (by assumption), (by assumption), (by assumption), (by assumption), (by omega), (by assumption), (by assumption), (by omega), (by assumption), (by assumption)⟩)
set_option maxRecDepth 100000 in
set_option maxHeartbeats 4000000 in
theorem z_MO_go_Either_0 {X : ab_X} {d : Nat} {o : Nat → Nat} {G : ab_G} {m_thrown : Int} {m_taped : Int} {m_length : Int} {m_out : Int} {m_wide : Int} {m_gathered : Int} {m_sets : Int} {m_ranges : Int} {m_nodes : Int} {m_at : Int} {m_flags : Int} {m_fault : Int} {m_place : Int} {m_numbered : Int} {m_depth : Int} {m_value : Int} {m_isNot : Int} {m_least0 : Int} {m_most0 : Int} {m_slot : Int} {m_work : Int} {m_got : Int} {m_rowMany : Int} {m_charAt : Int} {m_charWide : Int} {m_trail : Int} {m_isMatch : Int} {m_matchGroups : Int} {m_allFrom : Int} {m_allBefore : Int} {m_founds : Int} {m_pieces : Int} {m_writtenMany : Int} {m_templateWide : Int} {m_tooMuch : Int} {T : Int → Int} {N : Int → Int} {W : Int → Int} {CA : Int → Int} {CM : Int → Int} {CL : Int → Int} {CH : Int → Int} {SN : Int → Int} {CC : Int → Int} {RO : Int → Int} {WP : Int → Int} {WD : Int → Int} {WT : Int → Int} {WG : Int → Int} {WS : Int → Int} {K : Int → Int} {O : Int → Int} {Fi : Int → Int} {Be : Int → Int} {Le : Int → Int} {Mo : Int → Int} {Z : Int → Int} {LZ : Int → Int} {SM : Int → Int} {SA : Int → Int} {RL : Int → Int} {RH : Int → Int} {w : Int} {ns : Int} {pa : Int → Int} {po : Int → Int} {MN : Int → Int} {dl : Int → Int} {st : Int → Int} {ht : Int → Int} {hh : Int → Int} {PS : Int → Int → Int} {T_ : Int} {QF : Int → Int} {QL : Int → Int} {AF : Int → Int} {AL : Int → Int} {SD : Int → Int} {nd : Int} (h80 : cc o G 80 280 (ab_ob 12 (mof m_thrown m_taped m_length m_out m_wide m_gathered m_sets m_ranges m_nodes m_at m_flags m_fault m_place m_numbered m_depth m_value m_isNot m_least0 m_most0 m_slot m_work m_got m_rowMany m_charAt m_charWide m_trail m_isMatch m_matchGroups m_allFrom m_allBefore m_founds m_pieces m_writtenMany m_templateWide m_tooMuch))) (h94 : cc o G 94 294 (za 4200 K)) (h95 : cc o G 95 295 (za 4200 O)) (h96 : cc o G 96 296 (za 4200 Fi)) (h97 : cc o G 97 297 (za 4200 Be)) (h98 : cc o G 98 298 (za 4200 Le)) (h99 : cc o G 99 299 (za 4200 Mo)) (h100 : cc o G 100 300 (zl 4200 Z)) (h101 : cc o G 101 301 (zb 4200 LZ)) (h90 : cc o G 90 290 (za 2100 SM)) (h89 : cc o G 89 289 (za 2100 SA)) (h91 : cc o G 91 291 (za 24000 RL)) (h92 : cc o G 92 292 (za 24000 RH)) (h118 : cc o G 118 318 (za 75000 T)) (h119 : cc o G 119 319 (za 75000 N)) (h120 : cc o G 120 320 (za 75000 W)) (h121 : cc o G 121 321 (za 75000 CA)) (h122 : cc o G 122 322 (za 75000 CM)) (h123 : cc o G 123 323 (za 3600 CL)) (h124 : cc o G 124 324 (za 3600 CH)) (h117 : cc o G 117 317 (za 6 SN)) (h125 : cc o G 125 325 (za 6 CC)) (h133 : cc o G 133 333 (za 40000 RO)) (h128 : cc o G 128 328 (za 300 WP)) (h129 : cc o G 129 329 (za 300 WD)) (h130 : cc o G 130 330 (za 300 WT)) (h131 : cc o G 131 331 (za 300 WG)) (h132 : cc o G 132 332 (za 300 WS)) (n18 : ab_n0 = 18) (csl : 0 ≤ m_slot ∧ m_slot ≤ 5) (jrl : rgs RL 24000 0 1114111) (jrh : rgs RH 24000 0 1114111) (jk : rgs K 4200 0 7) (jo : rgs O 4200 (-1) 3000) (jfi : rgs Fi 4200 (-1) 4199) (jbe : rgs Be 4200 (-1) 4199) (jle : rgs Le 4200 0 1000) (jmo : rgs Mo 4200 (-1) 1000) (jz : rgs Z 4200 (-1) 1000000000000) (jlz : rgs LZ 4200 0 1) (jsm : rgs SM 2100 0 24000) (jsa : rgs SA 2100 0 24000) (gt : rgs T 75000 0 6) (gn : rgs N 75000 (-1) 12499) (gw : rgs W 75000 (-1) 12499) (gca : rgs CA 75000 0 3600) (gcm : rgs CM 75000 0 24000) (gcl : rgs CL 3600 0 1114111) (gch : rgs CH 3600 0 1114111) (gsn : rgs SN 6 0 12500) (gcc : rgs CC 6 0 600) (gro : rgs RO 40000 0 12499) (gwp : rgs WP 300 0 4199) (gwd : rgs WD 300 0 31) (gwt : rgs WT 300 0 39968) (gwg : rgs WG 300 0 39968) (gws : rgs WS 300 0 4300) (jka : tka T W CA CM SM SA RL RH CL CH (12500 * m_slot) (SN m_slot) m_slot (CC m_slot) ns) (jss : sas SA SM ns) (cst : 0 ≤ m_rowMany ∧ m_rowMany ≤ 1250 ∧ 0 ≤ (SN m_slot) ∧ (SN m_slot) ≤ 12500 ∧ 0 ≤ ns ∧ ns ≤ 2100) (cw : 0 ≤ w ∧ m_work = w + 1 ∧ w < 299) (cx : 0 ≤ WP w ∧ WP w < nd ∧ 0 ≤ nd ∧ nd ≤ 4200 ∧ 0 ≤ WD w ∧ WD w ≤ 31 ∧ 0 ≤ WT w ∧ WT w + 32 ≤ 32 * m_rowMany) (jG : rtG K O Fi Be Le Mo Z SM QF QL AF AL SD nd ns 0 pa po MN dl st ht hh PS T_) (ck : K (WP w) = 5) (jf : rtF nd pa po MN (WP w) (Fi (WP w))) (cws : 0 ≤ WS w ∧ WS w ≤ 4200) (cs0 : WS w = 0) (czz : 1 ≤ Z (WP w)) (hd : 5 ≤ d) : ab_F X d y_MO_go (.code y_MO_go b_MO_go 4 none) [vR 80, vz w] G (fun oc G2 => (∃ g2 : Int, ∃ WP2 : Int → Int, ∃ WD2 : Int → Int, ∃ WT2 : Int → Int, ∃ WG2 : Int → Int, ∃ WS2 : Int → Int, oc = .returned none ∧ fx o o [280, 328, 329, 330, 331, 332] G G2 ∧ G2.length = G.length ∧ ab_slots G2 = ab_slots G ∧ cc o G2 80 280 (ab_ob 12 (mof m_thrown m_taped m_length m_out m_wide m_gathered m_sets m_ranges m_nodes m_at m_flags m_fault m_place m_numbered m_depth m_value m_isNot m_least0 m_most0 m_slot (m_work - 1) g2 m_rowMany m_charAt m_charWide m_trail m_isMatch m_matchGroups m_allFrom m_allBefore m_founds m_pieces m_writtenMany m_templateWide m_tooMuch)) ∧ cc o G2 128 328 (za 300 WP2) ∧ cc o G2 129 329 (za 300 WD2) ∧ cc o G2 130 330 (za 300 WT2) ∧ cc o G2 131 331 (za 300 WG2) ∧ cc o G2 132 332 (za 300 WS2) ∧ (rgs WP2 300 0 4199) ∧ (rgs WD2 300 0 31) ∧ (rgs WT2 300 0 39968) ∧ (rgs WG2 300 0 39968) ∧ (rgs WS2 300 0 4300) ∧ (fsm WP WD WT WG WS WP2 WD2 WT2 WG2 WS2 w) ∧ (g2 = WG w) ∧ (MN (WP w) ≤ WS w ∧ 0 ≤ MN (WP w))) ∨ (∃ c2 : Int, ∃ t2 : Int, ∃ u2 : Int, ∃ WP2 : Int → Int, ∃ WD2 : Int → Int, ∃ WT2 : Int → Int, ∃ WG2 : Int → Int, ∃ WS2 : Int → Int, oc = .returned none ∧ fx o o [280, 328, 329, 330, 331, 332] G G2 ∧ G2.length = G.length ∧ ab_slots G2 = ab_slots G ∧ cc o G2 80 280 (ab_ob 12 (mof m_thrown m_taped m_length m_out m_wide m_gathered m_sets m_ranges m_nodes m_at m_flags m_fault m_place m_numbered m_depth m_value m_isNot m_least0 m_most0 m_slot (m_work + 1) m_got m_rowMany m_charAt m_charWide m_trail m_isMatch m_matchGroups m_allFrom m_allBefore m_founds m_pieces m_writtenMany m_templateWide m_tooMuch)) ∧ cc o G2 128 328 (za 300 WP2) ∧ cc o G2 129 329 (za 300 WD2) ∧ cc o G2 130 330 (za 300 WT2) ∧ cc o G2 131 331 (za 300 WG2) ∧ cc o G2 132 332 (za 300 WS2) ∧ (rgs WP2 300 0 4199) ∧ (rgs WD2 300 0 31) ∧ (rgs WT2 300 0 39968) ∧ (rgs WG2 300 0 39968) ∧ (rgs WS2 300 0 4300) ∧ (fsm WP WD WT WG WS WP2 WD2 WT2 WG2 WS2 w) ∧ (WP2 m_work = c2) ∧ (WD2 m_work = WD w) ∧ (WT2 m_work = t2) ∧ (WG2 m_work = t2) ∧ (WS2 m_work = 0) ∧ (WP2 w = WP w) ∧ (WD2 w = WD w) ∧ (WT2 w = WT w) ∧ (WG2 w = u2) ∧ (WS2 w = (WS w + 1)) ∧ (0 ≤ c2 ∧ c2 < nd) ∧ (t2 = WT w) ∧ (u2 = WG w) ∧ (WS w < MN (WP w) ∧ MN (WP w) ≤ 4200) ∧ (pa c2 = WP w ∧ po c2 = MN (WP w) - 1 - WS w) ∧ (nthI Fi Be (WP w) (MN (WP w) - 1 - WS w) c2))) := by
  refine ab_F_of (by decide +kernel) (Nat.le_of_ble_eq_true rfl) ?_
  obtain ⟨Q, hQ⟩ : ∃ z : Outcome → ab_G → Prop, z = (fun oc G2 => (∃ g2 : Int, ∃ WP2 : Int → Int, ∃ WD2 : Int → Int, ∃ WT2 : Int → Int, ∃ WG2 : Int → Int, ∃ WS2 : Int → Int, oc = .returned none ∧ fx o o [280, 328, 329, 330, 331, 332] G G2 ∧ G2.length = G.length ∧ ab_slots G2 = ab_slots G ∧ cc o G2 80 280 (ab_ob 12 (mof m_thrown m_taped m_length m_out m_wide m_gathered m_sets m_ranges m_nodes m_at m_flags m_fault m_place m_numbered m_depth m_value m_isNot m_least0 m_most0 m_slot (m_work - 1) g2 m_rowMany m_charAt m_charWide m_trail m_isMatch m_matchGroups m_allFrom m_allBefore m_founds m_pieces m_writtenMany m_templateWide m_tooMuch)) ∧ cc o G2 128 328 (za 300 WP2) ∧ cc o G2 129 329 (za 300 WD2) ∧ cc o G2 130 330 (za 300 WT2) ∧ cc o G2 131 331 (za 300 WG2) ∧ cc o G2 132 332 (za 300 WS2) ∧ (rgs WP2 300 0 4199) ∧ (rgs WD2 300 0 31) ∧ (rgs WT2 300 0 39968) ∧ (rgs WG2 300 0 39968) ∧ (rgs WS2 300 0 4300) ∧ (fsm WP WD WT WG WS WP2 WD2 WT2 WG2 WS2 w) ∧ (g2 = WG w) ∧ (MN (WP w) ≤ WS w ∧ 0 ≤ MN (WP w))) ∨ (∃ c2 : Int, ∃ t2 : Int, ∃ u2 : Int, ∃ WP2 : Int → Int, ∃ WD2 : Int → Int, ∃ WT2 : Int → Int, ∃ WG2 : Int → Int, ∃ WS2 : Int → Int, oc = .returned none ∧ fx o o [280, 328, 329, 330, 331, 332] G G2 ∧ G2.length = G.length ∧ ab_slots G2 = ab_slots G ∧ cc o G2 80 280 (ab_ob 12 (mof m_thrown m_taped m_length m_out m_wide m_gathered m_sets m_ranges m_nodes m_at m_flags m_fault m_place m_numbered m_depth m_value m_isNot m_least0 m_most0 m_slot (m_work + 1) m_got m_rowMany m_charAt m_charWide m_trail m_isMatch m_matchGroups m_allFrom m_allBefore m_founds m_pieces m_writtenMany m_templateWide m_tooMuch)) ∧ cc o G2 128 328 (za 300 WP2) ∧ cc o G2 129 329 (za 300 WD2) ∧ cc o G2 130 330 (za 300 WT2) ∧ cc o G2 131 331 (za 300 WG2) ∧ cc o G2 132 332 (za 300 WS2) ∧ (rgs WP2 300 0 4199) ∧ (rgs WD2 300 0 31) ∧ (rgs WT2 300 0 39968) ∧ (rgs WG2 300 0 39968) ∧ (rgs WS2 300 0 4300) ∧ (fsm WP WD WT WG WS WP2 WD2 WT2 WG2 WS2 w) ∧ (WP2 m_work = c2) ∧ (WD2 m_work = WD w) ∧ (WT2 m_work = t2) ∧ (WG2 m_work = t2) ∧ (WS2 m_work = 0) ∧ (WP2 w = WP w) ∧ (WD2 w = WD w) ∧ (WT2 w = WT w) ∧ (WG2 w = u2) ∧ (WS2 w = (WS w + 1)) ∧ (0 ≤ c2 ∧ c2 < nd) ∧ (t2 = WT w) ∧ (u2 = WG w) ∧ (WS w < MN (WP w) ∧ MN (WP w) ≤ 4200) ∧ (pa c2 = WP w ∧ po c2 = MN (WP w) - 1 - WS w) ∧ (nthI Fi Be (WP w) (MN (WP w) - 1 - WS w) c2))) := ⟨_, rfl⟩
  rw [← hQ]
  change ab_W X (ab_pl y_MO_go b_MO_go 4 none) d G 0 [some (vR 80), some (vz w), none, none] [] Q
  have hfr : fx o o [280, 328, 329, 330, 331, 332] G G := fx.rf
  have hlen : G.length = G.length := rfl
  have hsl : ab_slots G = ab_slots G := rfl
  refine ab_aload_n d_MO_go_0 rfl ?_
  refine ab_getf (fs := mof m_thrown m_taped m_length m_out m_wide m_gathered m_sets m_ranges m_nodes m_at m_flags m_fault m_place m_numbered m_depth m_value m_isNot m_least0 m_most0 m_slot m_work m_got m_rowMany m_charAt m_charWide m_trail m_isMatch m_matchGroups m_allFrom m_allBefore m_founds m_pieces m_writtenMany m_templateWide m_tooMuch) f_MO_158 d_MO_go_1 h80.2.2 rfl ?_
  refine ab_iload_n d_MO_go_4 rfl ?_
  refine zz_iald d_MO_go_5 h128 (by omega) ?_
  have hq1 := gwp w (by omega) (by omega)
  refine ab_istore_n d_MO_go_6 (Nat.le_of_ble_eq_true rfl) (Nat.le_of_ble_eq_true rfl) rfl ?_
  change ab_W _ _ _ G 7 [some (vR 80), some (vz w), some (vz (WP w)), none] [] _
  refine ab_aload_n d_MO_go_7 rfl ?_
  refine ab_getf (fs := mof m_thrown m_taped m_length m_out m_wide m_gathered m_sets m_ranges m_nodes m_at m_flags m_fault m_place m_numbered m_depth m_value m_isNot m_least0 m_most0 m_slot m_work m_got m_rowMany m_charAt m_charWide m_trail m_isMatch m_matchGroups m_allFrom m_allBefore m_founds m_pieces m_writtenMany m_templateWide m_tooMuch) f_MO_161 d_MO_go_8 h80.2.2 rfl ?_
  refine ab_iload_n d_MO_go_11 rfl ?_
  refine zz_iald d_MO_go_12 h129 (by omega) ?_
  have hq2 := gwd w (by omega) (by omega)
  refine ab_istore_n d_MO_go_13 (Nat.le_of_ble_eq_true rfl) (Nat.le_of_ble_eq_true rfl) rfl ?_
  change ab_W _ _ _ G 14 [some (vR 80), some (vz w), some (vz (WP w)), some (vz (WD w))] [] _
  refine ab_aload_n d_MO_go_14 rfl ?_
  refine ab_getf (fs := mof m_thrown m_taped m_length m_out m_wide m_gathered m_sets m_ranges m_nodes m_at m_flags m_fault m_place m_numbered m_depth m_value m_isNot m_least0 m_most0 m_slot m_work m_got m_rowMany m_charAt m_charWide m_trail m_isMatch m_matchGroups m_allFrom m_allBefore m_founds m_pieces m_writtenMany m_templateWide m_tooMuch) f_MO_68 d_MO_go_15 h80.2.2 rfl ?_
  refine ab_iload_n d_MO_go_18 rfl ?_
  refine zz_lald d_MO_go_19 h100 (by omega) ?_
  have hq3 := jz (WP w) (by omega) (by omega)
  refine zz_lconst d_MO_go_20 ?_
  change ab_W _ _ _ G 21 [some (vR 80), some (vz w), some (vz (WP w)), some (vz (WD w))] [vj 0, vj (Z (WP w))] _
  refine zz_lcmp d_MO_go_21 (by omega) (by omega) (fun c4a => by exfalso; omega) (fun c4a c4b => by exfalso; omega) (fun c4a => ?_)
  · refine zz_if_ne (tgt := 36) d_MO_go_22 (by decide) (by decide) (fun c5 => ?_) (fun c5 => absurd c5 (by decide))
    refine ab_aload_n d_MO_go_36 rfl ?_
    refine ab_getf (fs := mof m_thrown m_taped m_length m_out m_wide m_gathered m_sets m_ranges m_nodes m_at m_flags m_fault m_place m_numbered m_depth m_value m_isNot m_least0 m_most0 m_slot m_work m_got m_rowMany m_charAt m_charWide m_trail m_isMatch m_matchGroups m_allFrom m_allBefore m_founds m_pieces m_writtenMany m_templateWide m_tooMuch) f_MO_50 d_MO_go_37 h80.2.2 rfl ?_
    refine ab_iload_n d_MO_go_40 rfl ?_
    refine zz_iald d_MO_go_41 h94 (by omega) ?_
    have hq6 := jk (WP w) (by omega) (by omega)
    refine zz_top (y := 5) (by omega) ?_
    change ab_W _ _ _ G 42 [some (vR 80), some (vz w), some (vz (WP w)), some (vz (WD w))] [vz 5] _
    refine zz_tableIn (off := 137) (tgt := 179) d_MO_go_42 (by decide) (by decide) (by decide) (by decide) (by decide) ?_
    refine ab_aload_n d_MO_go_179 rfl ?_
    refine ab_iload_n d_MO_go_180 rfl ?_
    refine ab_callV (d' := d - 1) (as := [vz w]) (st := []) (r := _) (z_MO_goEither_0 (o := o) (m_thrown := m_thrown) (m_taped := m_taped) (m_length := m_length) (m_out := m_out) (m_wide := m_wide) (m_gathered := m_gathered) (m_sets := m_sets) (m_ranges := m_ranges) (m_nodes := m_nodes) (m_at := m_at) (m_flags := m_flags) (m_fault := m_fault) (m_place := m_place) (m_numbered := m_numbered) (m_depth := m_depth) (m_value := m_value) (m_isNot := m_isNot) (m_least0 := m_least0) (m_most0 := m_most0) (m_slot := m_slot) (m_work := m_work) (m_got := m_got) (m_rowMany := m_rowMany) (m_charAt := m_charAt) (m_charWide := m_charWide) (m_trail := m_trail) (m_isMatch := m_isMatch) (m_matchGroups := m_matchGroups) (m_allFrom := m_allFrom) (m_allBefore := m_allBefore) (m_founds := m_founds) (m_pieces := m_pieces) (m_writtenMany := m_writtenMany) (m_templateWide := m_templateWide) (m_tooMuch := m_tooMuch) (T := T) (N := N) (W := W) (CA := CA) (CM := CM) (CL := CL) (CH := CH) (SN := SN) (CC := CC) (RO := RO) (WP := WP) (WD := WD) (WT := WT) (WG := WG) (WS := WS) (K := K) (O := O) (Fi := Fi) (Be := Be) (Le := Le) (Mo := Mo) (Z := Z) (LZ := LZ) (SM := SM) (SA := SA) (RL := RL) (RH := RH) (w := w) (ns := ns) (pa := pa) (po := po) (MN := MN) (dl := dl) (st := st) (ht := ht) (hh := hh) (PS := PS) (T_ := T_) (QF := QF) (QL := QL) (AF := AF) (AL := AL) (SD := SD) (nd := nd) h80 h94 h95 h96 h97 h98 h99 h100 h101 h90 h89 h91 h92 h118 h119 h120 h121 h122 h123 h124 h117 h125 h133 h128 h129 h130 h131 h132 (by omega) (by omega) jrl jrh jk jo jfi jbe jle jmo jz jlz jsm jsa gt gn gw gca gcm gcl gch gsn gcc gro gwp gwd gwt gwg gws jka jss (by omega) (by omega) (by omega) jG (by omega) jf (by omega) (by omega) (by omega)) (fun oc G2 h => by rcases h with ⟨_, _, _, _, _, _, h, _⟩ | ⟨_, _, _, _, _, _, _, _, h, _⟩ <;> exact ⟨_, h⟩) (by omega) m_MO_goEither ml_MO_492 im_MO_goEither se_MO_goEither c_MO h80.2.2 (Nat.le_of_ble_eq_true rfl) d_MO_go_181 rfl ?_
    intro v G8 hq
    rcases hq with ⟨g29, WP210, WD211, WT212, WG213, WS214, hv, hfk, hlk, hsk, hN80, hN128, hN129, hN130, hN131, hN132, hq15, hq16, hq17, hq18, hq19, hq20, hq21, hq22⟩ | ⟨c223, t224, u225, WP226, WD227, WT228, WG229, WS230, hv, hfk, hlk, hsk, hN80, hN128, hN129, hN130, hN131, hN132, hq31, hq32, hq33, hq34, hq35, hq36, hq37, hq38, hq39, hq40, hq41, hq42, hq43, hq44, hq45, hq46, hq47, hq48, hq49, hq50, hq51, hq52⟩
    · cases hv
      have h94 := hfk.get h94 (by decide)
      have h95 := hfk.get h95 (by decide)
      have h96 := hfk.get h96 (by decide)
      have h97 := hfk.get h97 (by decide)
      have h98 := hfk.get h98 (by decide)
      have h99 := hfk.get h99 (by decide)
      have h100 := hfk.get h100 (by decide)
      have h101 := hfk.get h101 (by decide)
      have h90 := hfk.get h90 (by decide)
      have h89 := hfk.get h89 (by decide)
      have h91 := hfk.get h91 (by decide)
      have h92 := hfk.get h92 (by decide)
      have h118 := hfk.get h118 (by decide)
      have h119 := hfk.get h119 (by decide)
      have h120 := hfk.get h120 (by decide)
      have h121 := hfk.get h121 (by decide)
      have h122 := hfk.get h122 (by decide)
      have h123 := hfk.get h123 (by decide)
      have h124 := hfk.get h124 (by decide)
      have h117 := hfk.get h117 (by decide)
      have h125 := hfk.get h125 (by decide)
      have h133 := hfk.get h133 (by decide)
      have hfr := hfr.tr hfk (by decide)
      have hlen := hlk.trans hlen
      have hsl := hsk.trans hsl
      have h80 := hN80
      have h128 := hN128
      have h129 := hN129
      have h130 := hN130
      have h131 := hN131
      have h132 := hN132
      change ab_W _ _ _ G8 184 [some (vR 80), some (vz w), some (vz (WP w)), some (vz (WD w))] [] _
      refine ab_goto (tgt := 200) d_MO_go_184 (by decide) ?_
      refine ab_vret rfl d_MO_go_200 ?_
      rw [hQ]; exact (Or.inl ⟨_, _, _, _, _, _, rfl, hfr, hlen, hsl, h80, h128, h129, h130, h131, h132, (by first | exact hq15 | exact rgs_w hq15 (by omega)), (by first | exact hq16 | exact rgs_w hq16 (by omega)), (by first | exact hq17 | exact rgs_w hq17 (by omega)), (by first | exact hq18 | exact rgs_w hq18 (by omega)), (by first | exact hq19 | exact rgs_w hq19 (by omega)), (by assumption), (by assumption), (by omega)⟩)
    · cases hv
      have h94 := hfk.get h94 (by decide)
      have h95 := hfk.get h95 (by decide)
      have h96 := hfk.get h96 (by decide)
      have h97 := hfk.get h97 (by decide)
      have h98 := hfk.get h98 (by decide)
      have h99 := hfk.get h99 (by decide)
      have h100 := hfk.get h100 (by decide)
      have h101 := hfk.get h101 (by decide)
      have h90 := hfk.get h90 (by decide)
      have h89 := hfk.get h89 (by decide)
      have h91 := hfk.get h91 (by decide)
      have h92 := hfk.get h92 (by decide)
      have h118 := hfk.get h118 (by decide)
      have h119 := hfk.get h119 (by decide)
      have h120 := hfk.get h120 (by decide)
      have h121 := hfk.get h121 (by decide)
      have h122 := hfk.get h122 (by decide)
      have h123 := hfk.get h123 (by decide)
      have h124 := hfk.get h124 (by decide)
      have h117 := hfk.get h117 (by decide)
      have h125 := hfk.get h125 (by decide)
      have h133 := hfk.get h133 (by decide)
      have hfr := hfr.tr hfk (by decide)
      have hlen := hlk.trans hlen
      have hsl := hsk.trans hsl
      have h80 := hN80
      have h128 := hN128
      have h129 := hN129
      have h130 := hN130
      have h131 := hN131
      have h132 := hN132
      change ab_W _ _ _ G8 184 [some (vR 80), some (vz w), some (vz (WP w)), some (vz (WD w))] [] _
      refine ab_goto (tgt := 200) d_MO_go_184 (by decide) ?_
      refine ab_vret rfl d_MO_go_200 ?_
      rw [hQ]; exact (Or.inr ⟨_, _, _, _, _, _, _, _, rfl, hfr, hlen, hsl, h80, h128, h129, h130, h131, h132, (by first | exact hq31 | exact rgs_w hq31 (by omega)), (by first | exact hq32 | exact rgs_w hq32 (by omega)), (by first | exact hq33 | exact rgs_w hq33 (by omega)), (by first | exact hq34 | exact rgs_w hq34 (by omega)), (by first | exact hq35 | exact rgs_w hq35 (by omega)), (by assumption), (by assumption), (by assumption), (by assumption), (by assumption), (by assumption), (by assumption), (by assumption), (by assumption), (by assumption), (by assumption), (by omega), (by assumption), (by assumption), (by omega), (by assumption), (by assumption)⟩)
set_option maxRecDepth 100000 in
set_option maxHeartbeats 4000000 in
theorem z_MO_go_Either_1 {X : ab_X} {d : Nat} {o : Nat → Nat} {G : ab_G} {m_thrown : Int} {m_taped : Int} {m_length : Int} {m_out : Int} {m_wide : Int} {m_gathered : Int} {m_sets : Int} {m_ranges : Int} {m_nodes : Int} {m_at : Int} {m_flags : Int} {m_fault : Int} {m_place : Int} {m_numbered : Int} {m_depth : Int} {m_value : Int} {m_isNot : Int} {m_least0 : Int} {m_most0 : Int} {m_slot : Int} {m_work : Int} {m_got : Int} {m_rowMany : Int} {m_charAt : Int} {m_charWide : Int} {m_trail : Int} {m_isMatch : Int} {m_matchGroups : Int} {m_allFrom : Int} {m_allBefore : Int} {m_founds : Int} {m_pieces : Int} {m_writtenMany : Int} {m_templateWide : Int} {m_tooMuch : Int} {T : Int → Int} {N : Int → Int} {W : Int → Int} {CA : Int → Int} {CM : Int → Int} {CL : Int → Int} {CH : Int → Int} {SN : Int → Int} {CC : Int → Int} {RO : Int → Int} {WP : Int → Int} {WD : Int → Int} {WT : Int → Int} {WG : Int → Int} {WS : Int → Int} {K : Int → Int} {O : Int → Int} {Fi : Int → Int} {Be : Int → Int} {Le : Int → Int} {Mo : Int → Int} {Z : Int → Int} {LZ : Int → Int} {SM : Int → Int} {SA : Int → Int} {RL : Int → Int} {RH : Int → Int} {w : Int} {ns : Int} {pa : Int → Int} {po : Int → Int} {MN : Int → Int} {dl : Int → Int} {st : Int → Int} {ht : Int → Int} {hh : Int → Int} {PS : Int → Int → Int} {T_ : Int} {QF : Int → Int} {QL : Int → Int} {AF : Int → Int} {AL : Int → Int} {SD : Int → Int} {nd : Int} (h80 : cc o G 80 280 (ab_ob 12 (mof m_thrown m_taped m_length m_out m_wide m_gathered m_sets m_ranges m_nodes m_at m_flags m_fault m_place m_numbered m_depth m_value m_isNot m_least0 m_most0 m_slot m_work m_got m_rowMany m_charAt m_charWide m_trail m_isMatch m_matchGroups m_allFrom m_allBefore m_founds m_pieces m_writtenMany m_templateWide m_tooMuch))) (h94 : cc o G 94 294 (za 4200 K)) (h95 : cc o G 95 295 (za 4200 O)) (h96 : cc o G 96 296 (za 4200 Fi)) (h97 : cc o G 97 297 (za 4200 Be)) (h98 : cc o G 98 298 (za 4200 Le)) (h99 : cc o G 99 299 (za 4200 Mo)) (h100 : cc o G 100 300 (zl 4200 Z)) (h101 : cc o G 101 301 (zb 4200 LZ)) (h90 : cc o G 90 290 (za 2100 SM)) (h89 : cc o G 89 289 (za 2100 SA)) (h91 : cc o G 91 291 (za 24000 RL)) (h92 : cc o G 92 292 (za 24000 RH)) (h118 : cc o G 118 318 (za 75000 T)) (h119 : cc o G 119 319 (za 75000 N)) (h120 : cc o G 120 320 (za 75000 W)) (h121 : cc o G 121 321 (za 75000 CA)) (h122 : cc o G 122 322 (za 75000 CM)) (h123 : cc o G 123 323 (za 3600 CL)) (h124 : cc o G 124 324 (za 3600 CH)) (h117 : cc o G 117 317 (za 6 SN)) (h125 : cc o G 125 325 (za 6 CC)) (h133 : cc o G 133 333 (za 40000 RO)) (h128 : cc o G 128 328 (za 300 WP)) (h129 : cc o G 129 329 (za 300 WD)) (h130 : cc o G 130 330 (za 300 WT)) (h131 : cc o G 131 331 (za 300 WG)) (h132 : cc o G 132 332 (za 300 WS)) (n18 : ab_n0 = 18) (csl : 0 ≤ m_slot ∧ m_slot ≤ 5) (jrl : rgs RL 24000 0 1114111) (jrh : rgs RH 24000 0 1114111) (jk : rgs K 4200 0 7) (jo : rgs O 4200 (-1) 3000) (jfi : rgs Fi 4200 (-1) 4199) (jbe : rgs Be 4200 (-1) 4199) (jle : rgs Le 4200 0 1000) (jmo : rgs Mo 4200 (-1) 1000) (jz : rgs Z 4200 (-1) 1000000000000) (jlz : rgs LZ 4200 0 1) (jsm : rgs SM 2100 0 24000) (jsa : rgs SA 2100 0 24000) (gt : rgs T 75000 0 6) (gn : rgs N 75000 (-1) 12499) (gw : rgs W 75000 (-1) 12499) (gca : rgs CA 75000 0 3600) (gcm : rgs CM 75000 0 24000) (gcl : rgs CL 3600 0 1114111) (gch : rgs CH 3600 0 1114111) (gsn : rgs SN 6 0 12500) (gcc : rgs CC 6 0 600) (gro : rgs RO 40000 0 12499) (gwp : rgs WP 300 0 4199) (gwd : rgs WD 300 0 31) (gwt : rgs WT 300 0 39968) (gwg : rgs WG 300 0 39968) (gws : rgs WS 300 0 4300) (jka : tka T W CA CM SM SA RL RH CL CH (12500 * m_slot) (SN m_slot) m_slot (CC m_slot) ns) (jss : sas SA SM ns) (cst : 0 ≤ m_rowMany ∧ m_rowMany ≤ 1250 ∧ 0 ≤ (SN m_slot) ∧ (SN m_slot) ≤ 12500 ∧ 0 ≤ ns ∧ ns ≤ 2100) (cw : 0 ≤ w ∧ m_work = w + 1 ∧ w < 299) (cx : 0 ≤ WP w ∧ WP w < nd ∧ 0 ≤ nd ∧ nd ≤ 4200 ∧ 0 ≤ WD w ∧ WD w ≤ 31 ∧ 0 ≤ WT w ∧ WT w + 32 ≤ 32 * m_rowMany) (jG : rtG K O Fi Be Le Mo Z SM QF QL AF AL SD nd ns 0 pa po MN dl st ht hh PS T_) (ck : K (WP w) = 5) (jf : rtF nd pa po MN (WP w) (Fi (WP w))) (cws : 0 ≤ WS w ∧ WS w ≤ 4200) (cs0 : WS w = 1) (cgo : 0 ≤ m_got ∧ m_got + 32 ≤ 32 * m_rowMany) (czz : 1 ≤ Z (WP w)) (hd : 5 ≤ d) : ab_F X d y_MO_go (.code y_MO_go b_MO_go 4 none) [vR 80, vz w] G (fun oc G2 => (∃ g2 : Int, ∃ WP2 : Int → Int, ∃ WD2 : Int → Int, ∃ WT2 : Int → Int, ∃ WG2 : Int → Int, ∃ WS2 : Int → Int, oc = .returned none ∧ fx o o [280, 328, 329, 330, 331, 332] G G2 ∧ G2.length = G.length ∧ ab_slots G2 = ab_slots G ∧ cc o G2 80 280 (ab_ob 12 (mof m_thrown m_taped m_length m_out m_wide m_gathered m_sets m_ranges m_nodes m_at m_flags m_fault m_place m_numbered m_depth m_value m_isNot m_least0 m_most0 m_slot (m_work - 1) g2 m_rowMany m_charAt m_charWide m_trail m_isMatch m_matchGroups m_allFrom m_allBefore m_founds m_pieces m_writtenMany m_templateWide m_tooMuch)) ∧ cc o G2 128 328 (za 300 WP2) ∧ cc o G2 129 329 (za 300 WD2) ∧ cc o G2 130 330 (za 300 WT2) ∧ cc o G2 131 331 (za 300 WG2) ∧ cc o G2 132 332 (za 300 WS2) ∧ (rgs WP2 300 0 4199) ∧ (rgs WD2 300 0 31) ∧ (rgs WT2 300 0 39968) ∧ (rgs WG2 300 0 39968) ∧ (rgs WS2 300 0 4300) ∧ (fsm WP WD WT WG WS WP2 WD2 WT2 WG2 WS2 w) ∧ (g2 = m_got) ∧ (MN (WP w) ≤ WS w ∧ 0 ≤ MN (WP w))) ∨ (∃ c2 : Int, ∃ t2 : Int, ∃ u2 : Int, ∃ WP2 : Int → Int, ∃ WD2 : Int → Int, ∃ WT2 : Int → Int, ∃ WG2 : Int → Int, ∃ WS2 : Int → Int, oc = .returned none ∧ fx o o [280, 328, 329, 330, 331, 332] G G2 ∧ G2.length = G.length ∧ ab_slots G2 = ab_slots G ∧ cc o G2 80 280 (ab_ob 12 (mof m_thrown m_taped m_length m_out m_wide m_gathered m_sets m_ranges m_nodes m_at m_flags m_fault m_place m_numbered m_depth m_value m_isNot m_least0 m_most0 m_slot (m_work + 1) m_got m_rowMany m_charAt m_charWide m_trail m_isMatch m_matchGroups m_allFrom m_allBefore m_founds m_pieces m_writtenMany m_templateWide m_tooMuch)) ∧ cc o G2 128 328 (za 300 WP2) ∧ cc o G2 129 329 (za 300 WD2) ∧ cc o G2 130 330 (za 300 WT2) ∧ cc o G2 131 331 (za 300 WG2) ∧ cc o G2 132 332 (za 300 WS2) ∧ (rgs WP2 300 0 4199) ∧ (rgs WD2 300 0 31) ∧ (rgs WT2 300 0 39968) ∧ (rgs WG2 300 0 39968) ∧ (rgs WS2 300 0 4300) ∧ (fsm WP WD WT WG WS WP2 WD2 WT2 WG2 WS2 w) ∧ (WP2 m_work = c2) ∧ (WD2 m_work = WD w) ∧ (WT2 m_work = t2) ∧ (WG2 m_work = t2) ∧ (WS2 m_work = 0) ∧ (WP2 w = WP w) ∧ (WD2 w = WD w) ∧ (WT2 w = WT w) ∧ (WG2 w = u2) ∧ (WS2 w = (WS w + 1)) ∧ (0 ≤ c2 ∧ c2 < nd) ∧ (t2 = WT w) ∧ (u2 = m_got) ∧ (WS w < MN (WP w) ∧ MN (WP w) ≤ 4200) ∧ (pa c2 = WP w ∧ po c2 = MN (WP w) - 1 - WS w) ∧ (nthI Fi Be (WP w) (MN (WP w) - 1 - WS w) c2))) := by
  refine ab_F_of (by decide +kernel) (Nat.le_of_ble_eq_true rfl) ?_
  obtain ⟨Q, hQ⟩ : ∃ z : Outcome → ab_G → Prop, z = (fun oc G2 => (∃ g2 : Int, ∃ WP2 : Int → Int, ∃ WD2 : Int → Int, ∃ WT2 : Int → Int, ∃ WG2 : Int → Int, ∃ WS2 : Int → Int, oc = .returned none ∧ fx o o [280, 328, 329, 330, 331, 332] G G2 ∧ G2.length = G.length ∧ ab_slots G2 = ab_slots G ∧ cc o G2 80 280 (ab_ob 12 (mof m_thrown m_taped m_length m_out m_wide m_gathered m_sets m_ranges m_nodes m_at m_flags m_fault m_place m_numbered m_depth m_value m_isNot m_least0 m_most0 m_slot (m_work - 1) g2 m_rowMany m_charAt m_charWide m_trail m_isMatch m_matchGroups m_allFrom m_allBefore m_founds m_pieces m_writtenMany m_templateWide m_tooMuch)) ∧ cc o G2 128 328 (za 300 WP2) ∧ cc o G2 129 329 (za 300 WD2) ∧ cc o G2 130 330 (za 300 WT2) ∧ cc o G2 131 331 (za 300 WG2) ∧ cc o G2 132 332 (za 300 WS2) ∧ (rgs WP2 300 0 4199) ∧ (rgs WD2 300 0 31) ∧ (rgs WT2 300 0 39968) ∧ (rgs WG2 300 0 39968) ∧ (rgs WS2 300 0 4300) ∧ (fsm WP WD WT WG WS WP2 WD2 WT2 WG2 WS2 w) ∧ (g2 = m_got) ∧ (MN (WP w) ≤ WS w ∧ 0 ≤ MN (WP w))) ∨ (∃ c2 : Int, ∃ t2 : Int, ∃ u2 : Int, ∃ WP2 : Int → Int, ∃ WD2 : Int → Int, ∃ WT2 : Int → Int, ∃ WG2 : Int → Int, ∃ WS2 : Int → Int, oc = .returned none ∧ fx o o [280, 328, 329, 330, 331, 332] G G2 ∧ G2.length = G.length ∧ ab_slots G2 = ab_slots G ∧ cc o G2 80 280 (ab_ob 12 (mof m_thrown m_taped m_length m_out m_wide m_gathered m_sets m_ranges m_nodes m_at m_flags m_fault m_place m_numbered m_depth m_value m_isNot m_least0 m_most0 m_slot (m_work + 1) m_got m_rowMany m_charAt m_charWide m_trail m_isMatch m_matchGroups m_allFrom m_allBefore m_founds m_pieces m_writtenMany m_templateWide m_tooMuch)) ∧ cc o G2 128 328 (za 300 WP2) ∧ cc o G2 129 329 (za 300 WD2) ∧ cc o G2 130 330 (za 300 WT2) ∧ cc o G2 131 331 (za 300 WG2) ∧ cc o G2 132 332 (za 300 WS2) ∧ (rgs WP2 300 0 4199) ∧ (rgs WD2 300 0 31) ∧ (rgs WT2 300 0 39968) ∧ (rgs WG2 300 0 39968) ∧ (rgs WS2 300 0 4300) ∧ (fsm WP WD WT WG WS WP2 WD2 WT2 WG2 WS2 w) ∧ (WP2 m_work = c2) ∧ (WD2 m_work = WD w) ∧ (WT2 m_work = t2) ∧ (WG2 m_work = t2) ∧ (WS2 m_work = 0) ∧ (WP2 w = WP w) ∧ (WD2 w = WD w) ∧ (WT2 w = WT w) ∧ (WG2 w = u2) ∧ (WS2 w = (WS w + 1)) ∧ (0 ≤ c2 ∧ c2 < nd) ∧ (t2 = WT w) ∧ (u2 = m_got) ∧ (WS w < MN (WP w) ∧ MN (WP w) ≤ 4200) ∧ (pa c2 = WP w ∧ po c2 = MN (WP w) - 1 - WS w) ∧ (nthI Fi Be (WP w) (MN (WP w) - 1 - WS w) c2))) := ⟨_, rfl⟩
  rw [← hQ]
  change ab_W X (ab_pl y_MO_go b_MO_go 4 none) d G 0 [some (vR 80), some (vz w), none, none] [] Q
  have hfr : fx o o [280, 328, 329, 330, 331, 332] G G := fx.rf
  have hlen : G.length = G.length := rfl
  have hsl : ab_slots G = ab_slots G := rfl
  refine ab_aload_n d_MO_go_0 rfl ?_
  refine ab_getf (fs := mof m_thrown m_taped m_length m_out m_wide m_gathered m_sets m_ranges m_nodes m_at m_flags m_fault m_place m_numbered m_depth m_value m_isNot m_least0 m_most0 m_slot m_work m_got m_rowMany m_charAt m_charWide m_trail m_isMatch m_matchGroups m_allFrom m_allBefore m_founds m_pieces m_writtenMany m_templateWide m_tooMuch) f_MO_158 d_MO_go_1 h80.2.2 rfl ?_
  refine ab_iload_n d_MO_go_4 rfl ?_
  refine zz_iald d_MO_go_5 h128 (by omega) ?_
  have hq1 := gwp w (by omega) (by omega)
  refine ab_istore_n d_MO_go_6 (Nat.le_of_ble_eq_true rfl) (Nat.le_of_ble_eq_true rfl) rfl ?_
  change ab_W _ _ _ G 7 [some (vR 80), some (vz w), some (vz (WP w)), none] [] _
  refine ab_aload_n d_MO_go_7 rfl ?_
  refine ab_getf (fs := mof m_thrown m_taped m_length m_out m_wide m_gathered m_sets m_ranges m_nodes m_at m_flags m_fault m_place m_numbered m_depth m_value m_isNot m_least0 m_most0 m_slot m_work m_got m_rowMany m_charAt m_charWide m_trail m_isMatch m_matchGroups m_allFrom m_allBefore m_founds m_pieces m_writtenMany m_templateWide m_tooMuch) f_MO_161 d_MO_go_8 h80.2.2 rfl ?_
  refine ab_iload_n d_MO_go_11 rfl ?_
  refine zz_iald d_MO_go_12 h129 (by omega) ?_
  have hq2 := gwd w (by omega) (by omega)
  refine ab_istore_n d_MO_go_13 (Nat.le_of_ble_eq_true rfl) (Nat.le_of_ble_eq_true rfl) rfl ?_
  change ab_W _ _ _ G 14 [some (vR 80), some (vz w), some (vz (WP w)), some (vz (WD w))] [] _
  refine ab_aload_n d_MO_go_14 rfl ?_
  refine ab_getf (fs := mof m_thrown m_taped m_length m_out m_wide m_gathered m_sets m_ranges m_nodes m_at m_flags m_fault m_place m_numbered m_depth m_value m_isNot m_least0 m_most0 m_slot m_work m_got m_rowMany m_charAt m_charWide m_trail m_isMatch m_matchGroups m_allFrom m_allBefore m_founds m_pieces m_writtenMany m_templateWide m_tooMuch) f_MO_68 d_MO_go_15 h80.2.2 rfl ?_
  refine ab_iload_n d_MO_go_18 rfl ?_
  refine zz_lald d_MO_go_19 h100 (by omega) ?_
  have hq3 := jz (WP w) (by omega) (by omega)
  refine zz_lconst d_MO_go_20 ?_
  change ab_W _ _ _ G 21 [some (vR 80), some (vz w), some (vz (WP w)), some (vz (WD w))] [vj 0, vj (Z (WP w))] _
  refine zz_lcmp d_MO_go_21 (by omega) (by omega) (fun c4a => by exfalso; omega) (fun c4a c4b => by exfalso; omega) (fun c4a => ?_)
  · refine zz_if_ne (tgt := 36) d_MO_go_22 (by decide) (by decide) (fun c5 => ?_) (fun c5 => absurd c5 (by decide))
    refine ab_aload_n d_MO_go_36 rfl ?_
    refine ab_getf (fs := mof m_thrown m_taped m_length m_out m_wide m_gathered m_sets m_ranges m_nodes m_at m_flags m_fault m_place m_numbered m_depth m_value m_isNot m_least0 m_most0 m_slot m_work m_got m_rowMany m_charAt m_charWide m_trail m_isMatch m_matchGroups m_allFrom m_allBefore m_founds m_pieces m_writtenMany m_templateWide m_tooMuch) f_MO_50 d_MO_go_37 h80.2.2 rfl ?_
    refine ab_iload_n d_MO_go_40 rfl ?_
    refine zz_iald d_MO_go_41 h94 (by omega) ?_
    have hq6 := jk (WP w) (by omega) (by omega)
    refine zz_top (y := 5) (by omega) ?_
    change ab_W _ _ _ G 42 [some (vR 80), some (vz w), some (vz (WP w)), some (vz (WD w))] [vz 5] _
    refine zz_tableIn (off := 137) (tgt := 179) d_MO_go_42 (by decide) (by decide) (by decide) (by decide) (by decide) ?_
    refine ab_aload_n d_MO_go_179 rfl ?_
    refine ab_iload_n d_MO_go_180 rfl ?_
    refine ab_callV (d' := d - 1) (as := [vz w]) (st := []) (r := _) (z_MO_goEither_1 (o := o) (m_thrown := m_thrown) (m_taped := m_taped) (m_length := m_length) (m_out := m_out) (m_wide := m_wide) (m_gathered := m_gathered) (m_sets := m_sets) (m_ranges := m_ranges) (m_nodes := m_nodes) (m_at := m_at) (m_flags := m_flags) (m_fault := m_fault) (m_place := m_place) (m_numbered := m_numbered) (m_depth := m_depth) (m_value := m_value) (m_isNot := m_isNot) (m_least0 := m_least0) (m_most0 := m_most0) (m_slot := m_slot) (m_work := m_work) (m_got := m_got) (m_rowMany := m_rowMany) (m_charAt := m_charAt) (m_charWide := m_charWide) (m_trail := m_trail) (m_isMatch := m_isMatch) (m_matchGroups := m_matchGroups) (m_allFrom := m_allFrom) (m_allBefore := m_allBefore) (m_founds := m_founds) (m_pieces := m_pieces) (m_writtenMany := m_writtenMany) (m_templateWide := m_templateWide) (m_tooMuch := m_tooMuch) (T := T) (N := N) (W := W) (CA := CA) (CM := CM) (CL := CL) (CH := CH) (SN := SN) (CC := CC) (RO := RO) (WP := WP) (WD := WD) (WT := WT) (WG := WG) (WS := WS) (K := K) (O := O) (Fi := Fi) (Be := Be) (Le := Le) (Mo := Mo) (Z := Z) (LZ := LZ) (SM := SM) (SA := SA) (RL := RL) (RH := RH) (w := w) (ns := ns) (pa := pa) (po := po) (MN := MN) (dl := dl) (st := st) (ht := ht) (hh := hh) (PS := PS) (T_ := T_) (QF := QF) (QL := QL) (AF := AF) (AL := AL) (SD := SD) (nd := nd) h80 h94 h95 h96 h97 h98 h99 h100 h101 h90 h89 h91 h92 h118 h119 h120 h121 h122 h123 h124 h117 h125 h133 h128 h129 h130 h131 h132 (by omega) (by omega) jrl jrh jk jo jfi jbe jle jmo jz jlz jsm jsa gt gn gw gca gcm gcl gch gsn gcc gro gwp gwd gwt gwg gws jka jss (by omega) (by omega) (by omega) jG (by omega) jf (by omega) (by omega) (by omega) (by omega)) (fun oc G2 h => by rcases h with ⟨_, _, _, _, _, _, h, _⟩ | ⟨_, _, _, _, _, _, _, _, h, _⟩ <;> exact ⟨_, h⟩) (by omega) m_MO_goEither ml_MO_492 im_MO_goEither se_MO_goEither c_MO h80.2.2 (Nat.le_of_ble_eq_true rfl) d_MO_go_181 rfl ?_
    intro v G8 hq
    rcases hq with ⟨g29, WP210, WD211, WT212, WG213, WS214, hv, hfk, hlk, hsk, hN80, hN128, hN129, hN130, hN131, hN132, hq15, hq16, hq17, hq18, hq19, hq20, hq21, hq22⟩ | ⟨c223, t224, u225, WP226, WD227, WT228, WG229, WS230, hv, hfk, hlk, hsk, hN80, hN128, hN129, hN130, hN131, hN132, hq31, hq32, hq33, hq34, hq35, hq36, hq37, hq38, hq39, hq40, hq41, hq42, hq43, hq44, hq45, hq46, hq47, hq48, hq49, hq50, hq51, hq52⟩
    · cases hv
      have h94 := hfk.get h94 (by decide)
      have h95 := hfk.get h95 (by decide)
      have h96 := hfk.get h96 (by decide)
      have h97 := hfk.get h97 (by decide)
      have h98 := hfk.get h98 (by decide)
      have h99 := hfk.get h99 (by decide)
      have h100 := hfk.get h100 (by decide)
      have h101 := hfk.get h101 (by decide)
      have h90 := hfk.get h90 (by decide)
      have h89 := hfk.get h89 (by decide)
      have h91 := hfk.get h91 (by decide)
      have h92 := hfk.get h92 (by decide)
      have h118 := hfk.get h118 (by decide)
      have h119 := hfk.get h119 (by decide)
      have h120 := hfk.get h120 (by decide)
      have h121 := hfk.get h121 (by decide)
      have h122 := hfk.get h122 (by decide)
      have h123 := hfk.get h123 (by decide)
      have h124 := hfk.get h124 (by decide)
      have h117 := hfk.get h117 (by decide)
      have h125 := hfk.get h125 (by decide)
      have h133 := hfk.get h133 (by decide)
      have hfr := hfr.tr hfk (by decide)
      have hlen := hlk.trans hlen
      have hsl := hsk.trans hsl
      have h80 := hN80
      have h128 := hN128
      have h129 := hN129
      have h130 := hN130
      have h131 := hN131
      have h132 := hN132
      change ab_W _ _ _ G8 184 [some (vR 80), some (vz w), some (vz (WP w)), some (vz (WD w))] [] _
      refine ab_goto (tgt := 200) d_MO_go_184 (by decide) ?_
      refine ab_vret rfl d_MO_go_200 ?_
      rw [hQ]; exact (Or.inl ⟨_, _, _, _, _, _, rfl, hfr, hlen, hsl, h80, h128, h129, h130, h131, h132, (by first | exact hq15 | exact rgs_w hq15 (by omega)), (by first | exact hq16 | exact rgs_w hq16 (by omega)), (by first | exact hq17 | exact rgs_w hq17 (by omega)), (by first | exact hq18 | exact rgs_w hq18 (by omega)), (by first | exact hq19 | exact rgs_w hq19 (by omega)), (by assumption), (by assumption), (by omega)⟩)
    · cases hv
      have h94 := hfk.get h94 (by decide)
      have h95 := hfk.get h95 (by decide)
      have h96 := hfk.get h96 (by decide)
      have h97 := hfk.get h97 (by decide)
      have h98 := hfk.get h98 (by decide)
      have h99 := hfk.get h99 (by decide)
      have h100 := hfk.get h100 (by decide)
      have h101 := hfk.get h101 (by decide)
      have h90 := hfk.get h90 (by decide)
      have h89 := hfk.get h89 (by decide)
      have h91 := hfk.get h91 (by decide)
      have h92 := hfk.get h92 (by decide)
      have h118 := hfk.get h118 (by decide)
      have h119 := hfk.get h119 (by decide)
      have h120 := hfk.get h120 (by decide)
      have h121 := hfk.get h121 (by decide)
      have h122 := hfk.get h122 (by decide)
      have h123 := hfk.get h123 (by decide)
      have h124 := hfk.get h124 (by decide)
      have h117 := hfk.get h117 (by decide)
      have h125 := hfk.get h125 (by decide)
      have h133 := hfk.get h133 (by decide)
      have hfr := hfr.tr hfk (by decide)
      have hlen := hlk.trans hlen
      have hsl := hsk.trans hsl
      have h80 := hN80
      have h128 := hN128
      have h129 := hN129
      have h130 := hN130
      have h131 := hN131
      have h132 := hN132
      change ab_W _ _ _ G8 184 [some (vR 80), some (vz w), some (vz (WP w)), some (vz (WD w))] [] _
      refine ab_goto (tgt := 200) d_MO_go_184 (by decide) ?_
      refine ab_vret rfl d_MO_go_200 ?_
      rw [hQ]; exact (Or.inr ⟨_, _, _, _, _, _, _, _, rfl, hfr, hlen, hsl, h80, h128, h129, h130, h131, h132, (by first | exact hq31 | exact rgs_w hq31 (by omega)), (by first | exact hq32 | exact rgs_w hq32 (by omega)), (by first | exact hq33 | exact rgs_w hq33 (by omega)), (by first | exact hq34 | exact rgs_w hq34 (by omega)), (by first | exact hq35 | exact rgs_w hq35 (by omega)), (by assumption), (by assumption), (by assumption), (by assumption), (by assumption), (by assumption), (by assumption), (by assumption), (by assumption), (by assumption), (by assumption), (by omega), (by assumption), (by assumption), (by omega), (by assumption), (by assumption)⟩)
set_option maxRecDepth 100000 in
set_option maxHeartbeats 4000000 in
theorem z_MO_go_Either_n {X : ab_X} {d : Nat} {o : Nat → Nat} {G : ab_G} {m_thrown : Int} {m_taped : Int} {m_length : Int} {m_out : Int} {m_wide : Int} {m_gathered : Int} {m_sets : Int} {m_ranges : Int} {m_nodes : Int} {m_at : Int} {m_flags : Int} {m_fault : Int} {m_place : Int} {m_numbered : Int} {m_depth : Int} {m_value : Int} {m_isNot : Int} {m_least0 : Int} {m_most0 : Int} {m_slot : Int} {m_work : Int} {m_got : Int} {m_rowMany : Int} {m_charAt : Int} {m_charWide : Int} {m_trail : Int} {m_isMatch : Int} {m_matchGroups : Int} {m_allFrom : Int} {m_allBefore : Int} {m_founds : Int} {m_pieces : Int} {m_writtenMany : Int} {m_templateWide : Int} {m_tooMuch : Int} {T : Int → Int} {N : Int → Int} {W : Int → Int} {CA : Int → Int} {CM : Int → Int} {CL : Int → Int} {CH : Int → Int} {SN : Int → Int} {CC : Int → Int} {RO : Int → Int} {WP : Int → Int} {WD : Int → Int} {WT : Int → Int} {WG : Int → Int} {WS : Int → Int} {K : Int → Int} {O : Int → Int} {Fi : Int → Int} {Be : Int → Int} {Le : Int → Int} {Mo : Int → Int} {Z : Int → Int} {LZ : Int → Int} {SM : Int → Int} {SA : Int → Int} {RL : Int → Int} {RH : Int → Int} {w : Int} {ns : Int} {pa : Int → Int} {po : Int → Int} {MN : Int → Int} {dl : Int → Int} {st : Int → Int} {ht : Int → Int} {hh : Int → Int} {PS : Int → Int → Int} {T_ : Int} {QF : Int → Int} {QL : Int → Int} {AF : Int → Int} {AL : Int → Int} {SD : Int → Int} {nd : Int} (h80 : cc o G 80 280 (ab_ob 12 (mof m_thrown m_taped m_length m_out m_wide m_gathered m_sets m_ranges m_nodes m_at m_flags m_fault m_place m_numbered m_depth m_value m_isNot m_least0 m_most0 m_slot m_work m_got m_rowMany m_charAt m_charWide m_trail m_isMatch m_matchGroups m_allFrom m_allBefore m_founds m_pieces m_writtenMany m_templateWide m_tooMuch))) (h94 : cc o G 94 294 (za 4200 K)) (h95 : cc o G 95 295 (za 4200 O)) (h96 : cc o G 96 296 (za 4200 Fi)) (h97 : cc o G 97 297 (za 4200 Be)) (h98 : cc o G 98 298 (za 4200 Le)) (h99 : cc o G 99 299 (za 4200 Mo)) (h100 : cc o G 100 300 (zl 4200 Z)) (h101 : cc o G 101 301 (zb 4200 LZ)) (h90 : cc o G 90 290 (za 2100 SM)) (h89 : cc o G 89 289 (za 2100 SA)) (h91 : cc o G 91 291 (za 24000 RL)) (h92 : cc o G 92 292 (za 24000 RH)) (h118 : cc o G 118 318 (za 75000 T)) (h119 : cc o G 119 319 (za 75000 N)) (h120 : cc o G 120 320 (za 75000 W)) (h121 : cc o G 121 321 (za 75000 CA)) (h122 : cc o G 122 322 (za 75000 CM)) (h123 : cc o G 123 323 (za 3600 CL)) (h124 : cc o G 124 324 (za 3600 CH)) (h117 : cc o G 117 317 (za 6 SN)) (h125 : cc o G 125 325 (za 6 CC)) (h133 : cc o G 133 333 (za 40000 RO)) (h128 : cc o G 128 328 (za 300 WP)) (h129 : cc o G 129 329 (za 300 WD)) (h130 : cc o G 130 330 (za 300 WT)) (h131 : cc o G 131 331 (za 300 WG)) (h132 : cc o G 132 332 (za 300 WS)) (n18 : ab_n0 = 18) (csl : 0 ≤ m_slot ∧ m_slot ≤ 5) (jrl : rgs RL 24000 0 1114111) (jrh : rgs RH 24000 0 1114111) (jk : rgs K 4200 0 7) (jo : rgs O 4200 (-1) 3000) (jfi : rgs Fi 4200 (-1) 4199) (jbe : rgs Be 4200 (-1) 4199) (jle : rgs Le 4200 0 1000) (jmo : rgs Mo 4200 (-1) 1000) (jz : rgs Z 4200 (-1) 1000000000000) (jlz : rgs LZ 4200 0 1) (jsm : rgs SM 2100 0 24000) (jsa : rgs SA 2100 0 24000) (gt : rgs T 75000 0 6) (gn : rgs N 75000 (-1) 12499) (gw : rgs W 75000 (-1) 12499) (gca : rgs CA 75000 0 3600) (gcm : rgs CM 75000 0 24000) (gcl : rgs CL 3600 0 1114111) (gch : rgs CH 3600 0 1114111) (gsn : rgs SN 6 0 12500) (gcc : rgs CC 6 0 600) (gro : rgs RO 40000 0 12499) (gwp : rgs WP 300 0 4199) (gwd : rgs WD 300 0 31) (gwt : rgs WT 300 0 39968) (gwg : rgs WG 300 0 39968) (gws : rgs WS 300 0 4300) (jka : tka T W CA CM SM SA RL RH CL CH (12500 * m_slot) (SN m_slot) m_slot (CC m_slot) ns) (jss : sas SA SM ns) (cst : 0 ≤ m_rowMany ∧ m_rowMany ≤ 1250 ∧ 0 ≤ (SN m_slot) ∧ (SN m_slot) ≤ 12500 ∧ 0 ≤ ns ∧ ns ≤ 2100) (cw : 0 ≤ w ∧ m_work = w + 1 ∧ w < 299) (cx : 0 ≤ WP w ∧ WP w < nd ∧ 0 ≤ nd ∧ nd ≤ 4200 ∧ 0 ≤ WD w ∧ WD w ≤ 31 ∧ 0 ≤ WT w ∧ WT w + 32 ≤ 32 * m_rowMany) (jG : rtG K O Fi Be Le Mo Z SM QF QL AF AL SD nd ns 0 pa po MN dl st ht hh PS T_) (ck : K (WP w) = 5) (jf : rtF nd pa po MN (WP w) (Fi (WP w))) (cws : 0 ≤ WS w ∧ WS w ≤ 4200) (cs0 : 1 < WS w) (jgo : rokk RO m_got (WD w + 1) (SN m_slot)) (cgo : 0 ≤ m_got ∧ m_got + 32 ≤ 32 * m_rowMany) (jwg : rokk RO (WG w) (WD w + 1) (SN m_slot)) (cwg : 0 ≤ WG w ∧ WG w + 32 ≤ 32 * m_rowMany) (crs : m_rowMany ≤ 1249 ∧ (SN m_slot) + WD w + 1 ≤ 12500) (czz : 1 ≤ Z (WP w)) (hd : 5 ≤ d) : ab_F X d y_MO_go (.code y_MO_go b_MO_go 4 none) [vR 80, vz w] G (fun oc G2 => (∃ g2 : Int, ∃ WP2 : Int → Int, ∃ WD2 : Int → Int, ∃ WT2 : Int → Int, ∃ WG2 : Int → Int, ∃ WS2 : Int → Int, ∃ RO2 : Int → Int, ∃ T2 : Int → Int, ∃ N2 : Int → Int, ∃ W2 : Int → Int, ∃ SN2 : Int → Int, oc = .returned none ∧ fx o o [280, 328, 329, 330, 331, 332, 333, 318, 319, 320, 317] G G2 ∧ G2.length = G.length ∧ ab_slots G2 = ab_slots G ∧ cc o G2 80 280 (ab_ob 12 (mof m_thrown m_taped m_length m_out m_wide m_gathered m_sets m_ranges m_nodes m_at m_flags m_fault m_place m_numbered m_depth m_value m_isNot m_least0 m_most0 m_slot (m_work - 1) g2 (m_rowMany + 1) m_charAt m_charWide m_trail m_isMatch m_matchGroups m_allFrom m_allBefore m_founds m_pieces m_writtenMany m_templateWide m_tooMuch)) ∧ cc o G2 128 328 (za 300 WP2) ∧ cc o G2 129 329 (za 300 WD2) ∧ cc o G2 130 330 (za 300 WT2) ∧ cc o G2 131 331 (za 300 WG2) ∧ cc o G2 132 332 (za 300 WS2) ∧ cc o G2 133 333 (za 40000 RO2) ∧ cc o G2 118 318 (za 75000 T2) ∧ cc o G2 119 319 (za 75000 N2) ∧ cc o G2 120 320 (za 75000 W2) ∧ cc o G2 117 317 (za 6 SN2) ∧ (rgs WP2 300 0 4199) ∧ (rgs WD2 300 0 31) ∧ (rgs WT2 300 0 39968) ∧ (rgs WG2 300 0 39968) ∧ (rgs WS2 300 0 4300) ∧ (fsm WP WD WT WG WS WP2 WD2 WT2 WG2 WS2 w) ∧ (g2 = (32 * m_rowMany)) ∧ (MN (WP w) ≤ WS w ∧ 0 ≤ MN (WP w)) ∧ (rgs RO2 40000 0 12499) ∧ (rgs T2 75000 0 6) ∧ (rgs N2 75000 (-1) 12499) ∧ (rgs W2 75000 (-1) 12499) ∧ (rgs SN2 6 0 12500) ∧ ((SN m_slot) ≤ SN2 m_slot ∧ SN2 m_slot ≤ (SN m_slot) + WD w + 1) ∧ (rsm RO RO2 (32 * m_rowMany)) ∧ (sgn T2 N2 W2 (12500 * m_slot) (SN m_slot) (SN2 m_slot)) ∧ (stx T N W CA CM T2 N2 W2 CA CM (12500 * m_slot) (SN m_slot)) ∧ (sno SN SN2 m_slot) ∧ (tka T2 W2 CA CM SM SA RL RH CL CH (12500 * m_slot) (SN2 m_slot) m_slot (CC m_slot) ns) ∧ (rokk RO2 (32 * m_rowMany) (WD w + 1) (SN2 m_slot)) ∧ (rE T2 N2 W2 RO2 m_slot (SN m_slot) (SN2 m_slot) (32 * m_rowMany) (WD w + 1) 3 (fun i => RO (m_got + i)) (fun i => RO (WG w + i)))) ∨ (∃ c2 : Int, ∃ t2 : Int, ∃ u2 : Int, ∃ WP2 : Int → Int, ∃ WD2 : Int → Int, ∃ WT2 : Int → Int, ∃ WG2 : Int → Int, ∃ WS2 : Int → Int, ∃ RO2 : Int → Int, ∃ T2 : Int → Int, ∃ N2 : Int → Int, ∃ W2 : Int → Int, ∃ SN2 : Int → Int, oc = .returned none ∧ fx o o [280, 328, 329, 330, 331, 332, 333, 318, 319, 320, 317] G G2 ∧ G2.length = G.length ∧ ab_slots G2 = ab_slots G ∧ cc o G2 80 280 (ab_ob 12 (mof m_thrown m_taped m_length m_out m_wide m_gathered m_sets m_ranges m_nodes m_at m_flags m_fault m_place m_numbered m_depth m_value m_isNot m_least0 m_most0 m_slot (m_work + 1) m_got (m_rowMany + 1) m_charAt m_charWide m_trail m_isMatch m_matchGroups m_allFrom m_allBefore m_founds m_pieces m_writtenMany m_templateWide m_tooMuch)) ∧ cc o G2 128 328 (za 300 WP2) ∧ cc o G2 129 329 (za 300 WD2) ∧ cc o G2 130 330 (za 300 WT2) ∧ cc o G2 131 331 (za 300 WG2) ∧ cc o G2 132 332 (za 300 WS2) ∧ cc o G2 133 333 (za 40000 RO2) ∧ cc o G2 118 318 (za 75000 T2) ∧ cc o G2 119 319 (za 75000 N2) ∧ cc o G2 120 320 (za 75000 W2) ∧ cc o G2 117 317 (za 6 SN2) ∧ (rgs WP2 300 0 4199) ∧ (rgs WD2 300 0 31) ∧ (rgs WT2 300 0 39968) ∧ (rgs WG2 300 0 39968) ∧ (rgs WS2 300 0 4300) ∧ (fsm WP WD WT WG WS WP2 WD2 WT2 WG2 WS2 w) ∧ (WP2 m_work = c2) ∧ (WD2 m_work = WD w) ∧ (WT2 m_work = t2) ∧ (WG2 m_work = t2) ∧ (WS2 m_work = 0) ∧ (WP2 w = WP w) ∧ (WD2 w = WD w) ∧ (WT2 w = WT w) ∧ (WG2 w = u2) ∧ (WS2 w = (WS w + 1)) ∧ (0 ≤ c2 ∧ c2 < nd) ∧ (t2 = WT w) ∧ (u2 = (32 * m_rowMany)) ∧ (WS w < MN (WP w) ∧ MN (WP w) ≤ 4200) ∧ (pa c2 = WP w ∧ po c2 = MN (WP w) - 1 - WS w) ∧ (rgs RO2 40000 0 12499) ∧ (rgs T2 75000 0 6) ∧ (rgs N2 75000 (-1) 12499) ∧ (rgs W2 75000 (-1) 12499) ∧ (rgs SN2 6 0 12500) ∧ ((SN m_slot) ≤ SN2 m_slot ∧ SN2 m_slot ≤ (SN m_slot) + WD w + 1) ∧ (rsm RO RO2 (32 * m_rowMany)) ∧ (sgn T2 N2 W2 (12500 * m_slot) (SN m_slot) (SN2 m_slot)) ∧ (stx T N W CA CM T2 N2 W2 CA CM (12500 * m_slot) (SN m_slot)) ∧ (sno SN SN2 m_slot) ∧ (tka T2 W2 CA CM SM SA RL RH CL CH (12500 * m_slot) (SN2 m_slot) m_slot (CC m_slot) ns) ∧ (rokk RO2 (32 * m_rowMany) (WD w + 1) (SN2 m_slot)) ∧ (rE T2 N2 W2 RO2 m_slot (SN m_slot) (SN2 m_slot) (32 * m_rowMany) (WD w + 1) 3 (fun i => RO (m_got + i)) (fun i => RO (WG w + i))) ∧ (nthI Fi Be (WP w) (MN (WP w) - 1 - WS w) c2))) := by
  refine ab_F_of (by decide +kernel) (Nat.le_of_ble_eq_true rfl) ?_
  obtain ⟨Q, hQ⟩ : ∃ z : Outcome → ab_G → Prop, z = (fun oc G2 => (∃ g2 : Int, ∃ WP2 : Int → Int, ∃ WD2 : Int → Int, ∃ WT2 : Int → Int, ∃ WG2 : Int → Int, ∃ WS2 : Int → Int, ∃ RO2 : Int → Int, ∃ T2 : Int → Int, ∃ N2 : Int → Int, ∃ W2 : Int → Int, ∃ SN2 : Int → Int, oc = .returned none ∧ fx o o [280, 328, 329, 330, 331, 332, 333, 318, 319, 320, 317] G G2 ∧ G2.length = G.length ∧ ab_slots G2 = ab_slots G ∧ cc o G2 80 280 (ab_ob 12 (mof m_thrown m_taped m_length m_out m_wide m_gathered m_sets m_ranges m_nodes m_at m_flags m_fault m_place m_numbered m_depth m_value m_isNot m_least0 m_most0 m_slot (m_work - 1) g2 (m_rowMany + 1) m_charAt m_charWide m_trail m_isMatch m_matchGroups m_allFrom m_allBefore m_founds m_pieces m_writtenMany m_templateWide m_tooMuch)) ∧ cc o G2 128 328 (za 300 WP2) ∧ cc o G2 129 329 (za 300 WD2) ∧ cc o G2 130 330 (za 300 WT2) ∧ cc o G2 131 331 (za 300 WG2) ∧ cc o G2 132 332 (za 300 WS2) ∧ cc o G2 133 333 (za 40000 RO2) ∧ cc o G2 118 318 (za 75000 T2) ∧ cc o G2 119 319 (za 75000 N2) ∧ cc o G2 120 320 (za 75000 W2) ∧ cc o G2 117 317 (za 6 SN2) ∧ (rgs WP2 300 0 4199) ∧ (rgs WD2 300 0 31) ∧ (rgs WT2 300 0 39968) ∧ (rgs WG2 300 0 39968) ∧ (rgs WS2 300 0 4300) ∧ (fsm WP WD WT WG WS WP2 WD2 WT2 WG2 WS2 w) ∧ (g2 = (32 * m_rowMany)) ∧ (MN (WP w) ≤ WS w ∧ 0 ≤ MN (WP w)) ∧ (rgs RO2 40000 0 12499) ∧ (rgs T2 75000 0 6) ∧ (rgs N2 75000 (-1) 12499) ∧ (rgs W2 75000 (-1) 12499) ∧ (rgs SN2 6 0 12500) ∧ ((SN m_slot) ≤ SN2 m_slot ∧ SN2 m_slot ≤ (SN m_slot) + WD w + 1) ∧ (rsm RO RO2 (32 * m_rowMany)) ∧ (sgn T2 N2 W2 (12500 * m_slot) (SN m_slot) (SN2 m_slot)) ∧ (stx T N W CA CM T2 N2 W2 CA CM (12500 * m_slot) (SN m_slot)) ∧ (sno SN SN2 m_slot) ∧ (tka T2 W2 CA CM SM SA RL RH CL CH (12500 * m_slot) (SN2 m_slot) m_slot (CC m_slot) ns) ∧ (rokk RO2 (32 * m_rowMany) (WD w + 1) (SN2 m_slot)) ∧ (rE T2 N2 W2 RO2 m_slot (SN m_slot) (SN2 m_slot) (32 * m_rowMany) (WD w + 1) 3 (fun i => RO (m_got + i)) (fun i => RO (WG w + i)))) ∨ (∃ c2 : Int, ∃ t2 : Int, ∃ u2 : Int, ∃ WP2 : Int → Int, ∃ WD2 : Int → Int, ∃ WT2 : Int → Int, ∃ WG2 : Int → Int, ∃ WS2 : Int → Int, ∃ RO2 : Int → Int, ∃ T2 : Int → Int, ∃ N2 : Int → Int, ∃ W2 : Int → Int, ∃ SN2 : Int → Int, oc = .returned none ∧ fx o o [280, 328, 329, 330, 331, 332, 333, 318, 319, 320, 317] G G2 ∧ G2.length = G.length ∧ ab_slots G2 = ab_slots G ∧ cc o G2 80 280 (ab_ob 12 (mof m_thrown m_taped m_length m_out m_wide m_gathered m_sets m_ranges m_nodes m_at m_flags m_fault m_place m_numbered m_depth m_value m_isNot m_least0 m_most0 m_slot (m_work + 1) m_got (m_rowMany + 1) m_charAt m_charWide m_trail m_isMatch m_matchGroups m_allFrom m_allBefore m_founds m_pieces m_writtenMany m_templateWide m_tooMuch)) ∧ cc o G2 128 328 (za 300 WP2) ∧ cc o G2 129 329 (za 300 WD2) ∧ cc o G2 130 330 (za 300 WT2) ∧ cc o G2 131 331 (za 300 WG2) ∧ cc o G2 132 332 (za 300 WS2) ∧ cc o G2 133 333 (za 40000 RO2) ∧ cc o G2 118 318 (za 75000 T2) ∧ cc o G2 119 319 (za 75000 N2) ∧ cc o G2 120 320 (za 75000 W2) ∧ cc o G2 117 317 (za 6 SN2) ∧ (rgs WP2 300 0 4199) ∧ (rgs WD2 300 0 31) ∧ (rgs WT2 300 0 39968) ∧ (rgs WG2 300 0 39968) ∧ (rgs WS2 300 0 4300) ∧ (fsm WP WD WT WG WS WP2 WD2 WT2 WG2 WS2 w) ∧ (WP2 m_work = c2) ∧ (WD2 m_work = WD w) ∧ (WT2 m_work = t2) ∧ (WG2 m_work = t2) ∧ (WS2 m_work = 0) ∧ (WP2 w = WP w) ∧ (WD2 w = WD w) ∧ (WT2 w = WT w) ∧ (WG2 w = u2) ∧ (WS2 w = (WS w + 1)) ∧ (0 ≤ c2 ∧ c2 < nd) ∧ (t2 = WT w) ∧ (u2 = (32 * m_rowMany)) ∧ (WS w < MN (WP w) ∧ MN (WP w) ≤ 4200) ∧ (pa c2 = WP w ∧ po c2 = MN (WP w) - 1 - WS w) ∧ (rgs RO2 40000 0 12499) ∧ (rgs T2 75000 0 6) ∧ (rgs N2 75000 (-1) 12499) ∧ (rgs W2 75000 (-1) 12499) ∧ (rgs SN2 6 0 12500) ∧ ((SN m_slot) ≤ SN2 m_slot ∧ SN2 m_slot ≤ (SN m_slot) + WD w + 1) ∧ (rsm RO RO2 (32 * m_rowMany)) ∧ (sgn T2 N2 W2 (12500 * m_slot) (SN m_slot) (SN2 m_slot)) ∧ (stx T N W CA CM T2 N2 W2 CA CM (12500 * m_slot) (SN m_slot)) ∧ (sno SN SN2 m_slot) ∧ (tka T2 W2 CA CM SM SA RL RH CL CH (12500 * m_slot) (SN2 m_slot) m_slot (CC m_slot) ns) ∧ (rokk RO2 (32 * m_rowMany) (WD w + 1) (SN2 m_slot)) ∧ (rE T2 N2 W2 RO2 m_slot (SN m_slot) (SN2 m_slot) (32 * m_rowMany) (WD w + 1) 3 (fun i => RO (m_got + i)) (fun i => RO (WG w + i))) ∧ (nthI Fi Be (WP w) (MN (WP w) - 1 - WS w) c2))) := ⟨_, rfl⟩
  rw [← hQ]
  change ab_W X (ab_pl y_MO_go b_MO_go 4 none) d G 0 [some (vR 80), some (vz w), none, none] [] Q
  have hfr : fx o o [280, 328, 329, 330, 331, 332, 333, 318, 319, 320, 317] G G := fx.rf
  have hlen : G.length = G.length := rfl
  have hsl : ab_slots G = ab_slots G := rfl
  refine ab_aload_n d_MO_go_0 rfl ?_
  refine ab_getf (fs := mof m_thrown m_taped m_length m_out m_wide m_gathered m_sets m_ranges m_nodes m_at m_flags m_fault m_place m_numbered m_depth m_value m_isNot m_least0 m_most0 m_slot m_work m_got m_rowMany m_charAt m_charWide m_trail m_isMatch m_matchGroups m_allFrom m_allBefore m_founds m_pieces m_writtenMany m_templateWide m_tooMuch) f_MO_158 d_MO_go_1 h80.2.2 rfl ?_
  refine ab_iload_n d_MO_go_4 rfl ?_
  refine zz_iald d_MO_go_5 h128 (by omega) ?_
  have hq1 := gwp w (by omega) (by omega)
  refine ab_istore_n d_MO_go_6 (Nat.le_of_ble_eq_true rfl) (Nat.le_of_ble_eq_true rfl) rfl ?_
  change ab_W _ _ _ G 7 [some (vR 80), some (vz w), some (vz (WP w)), none] [] _
  refine ab_aload_n d_MO_go_7 rfl ?_
  refine ab_getf (fs := mof m_thrown m_taped m_length m_out m_wide m_gathered m_sets m_ranges m_nodes m_at m_flags m_fault m_place m_numbered m_depth m_value m_isNot m_least0 m_most0 m_slot m_work m_got m_rowMany m_charAt m_charWide m_trail m_isMatch m_matchGroups m_allFrom m_allBefore m_founds m_pieces m_writtenMany m_templateWide m_tooMuch) f_MO_161 d_MO_go_8 h80.2.2 rfl ?_
  refine ab_iload_n d_MO_go_11 rfl ?_
  refine zz_iald d_MO_go_12 h129 (by omega) ?_
  have hq2 := gwd w (by omega) (by omega)
  refine ab_istore_n d_MO_go_13 (Nat.le_of_ble_eq_true rfl) (Nat.le_of_ble_eq_true rfl) rfl ?_
  change ab_W _ _ _ G 14 [some (vR 80), some (vz w), some (vz (WP w)), some (vz (WD w))] [] _
  refine ab_aload_n d_MO_go_14 rfl ?_
  refine ab_getf (fs := mof m_thrown m_taped m_length m_out m_wide m_gathered m_sets m_ranges m_nodes m_at m_flags m_fault m_place m_numbered m_depth m_value m_isNot m_least0 m_most0 m_slot m_work m_got m_rowMany m_charAt m_charWide m_trail m_isMatch m_matchGroups m_allFrom m_allBefore m_founds m_pieces m_writtenMany m_templateWide m_tooMuch) f_MO_68 d_MO_go_15 h80.2.2 rfl ?_
  refine ab_iload_n d_MO_go_18 rfl ?_
  refine zz_lald d_MO_go_19 h100 (by omega) ?_
  have hq3 := jz (WP w) (by omega) (by omega)
  refine zz_lconst d_MO_go_20 ?_
  change ab_W _ _ _ G 21 [some (vR 80), some (vz w), some (vz (WP w)), some (vz (WD w))] [vj 0, vj (Z (WP w))] _
  refine zz_lcmp d_MO_go_21 (by omega) (by omega) (fun c4a => by exfalso; omega) (fun c4a c4b => by exfalso; omega) (fun c4a => ?_)
  · refine zz_if_ne (tgt := 36) d_MO_go_22 (by decide) (by decide) (fun c5 => ?_) (fun c5 => absurd c5 (by decide))
    refine ab_aload_n d_MO_go_36 rfl ?_
    refine ab_getf (fs := mof m_thrown m_taped m_length m_out m_wide m_gathered m_sets m_ranges m_nodes m_at m_flags m_fault m_place m_numbered m_depth m_value m_isNot m_least0 m_most0 m_slot m_work m_got m_rowMany m_charAt m_charWide m_trail m_isMatch m_matchGroups m_allFrom m_allBefore m_founds m_pieces m_writtenMany m_templateWide m_tooMuch) f_MO_50 d_MO_go_37 h80.2.2 rfl ?_
    refine ab_iload_n d_MO_go_40 rfl ?_
    refine zz_iald d_MO_go_41 h94 (by omega) ?_
    have hq6 := jk (WP w) (by omega) (by omega)
    refine zz_top (y := 5) (by omega) ?_
    change ab_W _ _ _ G 42 [some (vR 80), some (vz w), some (vz (WP w)), some (vz (WD w))] [vz 5] _
    refine zz_tableIn (off := 137) (tgt := 179) d_MO_go_42 (by decide) (by decide) (by decide) (by decide) (by decide) ?_
    refine ab_aload_n d_MO_go_179 rfl ?_
    refine ab_iload_n d_MO_go_180 rfl ?_
    refine ab_callV (d' := d - 1) (as := [vz w]) (st := []) (r := _) (z_MO_goEither_n (o := o) (m_thrown := m_thrown) (m_taped := m_taped) (m_length := m_length) (m_out := m_out) (m_wide := m_wide) (m_gathered := m_gathered) (m_sets := m_sets) (m_ranges := m_ranges) (m_nodes := m_nodes) (m_at := m_at) (m_flags := m_flags) (m_fault := m_fault) (m_place := m_place) (m_numbered := m_numbered) (m_depth := m_depth) (m_value := m_value) (m_isNot := m_isNot) (m_least0 := m_least0) (m_most0 := m_most0) (m_slot := m_slot) (m_work := m_work) (m_got := m_got) (m_rowMany := m_rowMany) (m_charAt := m_charAt) (m_charWide := m_charWide) (m_trail := m_trail) (m_isMatch := m_isMatch) (m_matchGroups := m_matchGroups) (m_allFrom := m_allFrom) (m_allBefore := m_allBefore) (m_founds := m_founds) (m_pieces := m_pieces) (m_writtenMany := m_writtenMany) (m_templateWide := m_templateWide) (m_tooMuch := m_tooMuch) (T := T) (N := N) (W := W) (CA := CA) (CM := CM) (CL := CL) (CH := CH) (SN := SN) (CC := CC) (RO := RO) (WP := WP) (WD := WD) (WT := WT) (WG := WG) (WS := WS) (K := K) (O := O) (Fi := Fi) (Be := Be) (Le := Le) (Mo := Mo) (Z := Z) (LZ := LZ) (SM := SM) (SA := SA) (RL := RL) (RH := RH) (w := w) (ns := ns) (pa := pa) (po := po) (MN := MN) (dl := dl) (st := st) (ht := ht) (hh := hh) (PS := PS) (T_ := T_) (QF := QF) (QL := QL) (AF := AF) (AL := AL) (SD := SD) (nd := nd) h80 h94 h95 h96 h97 h98 h99 h100 h101 h90 h89 h91 h92 h118 h119 h120 h121 h122 h123 h124 h117 h125 h133 h128 h129 h130 h131 h132 (by omega) (by omega) jrl jrh jk jo jfi jbe jle jmo jz jlz jsm jsa gt gn gw gca gcm gcl gch gsn gcc gro gwp gwd gwt gwg gws jka jss (by omega) (by omega) (by omega) jG (by omega) jf (by omega) (by omega) jgo (by omega) jwg (by omega) (by omega) (by omega)) (fun oc G2 h => by rcases h with ⟨_, _, _, _, _, _, _, _, _, _, _, h, _⟩ | ⟨_, _, _, _, _, _, _, _, _, _, _, _, _, h, _⟩ <;> exact ⟨_, h⟩) (by omega) m_MO_goEither ml_MO_492 im_MO_goEither se_MO_goEither c_MO h80.2.2 (Nat.le_of_ble_eq_true rfl) d_MO_go_181 rfl ?_
    intro v G8 hq
    rcases hq with ⟨g29, WP210, WD211, WT212, WG213, WS214, RO215, T216, N217, W218, SN219, hv, hfk, hlk, hsk, hN80, hN128, hN129, hN130, hN131, hN132, hN133, hN118, hN119, hN120, hN117, hq20, hq21, hq22, hq23, hq24, hq25, hq26, hq27, hq28, hq29, hq30, hq31, hq32, hq33, hq34, hq35, hq36, hq37, hq38, hq39, hq40⟩ | ⟨c241, t242, u243, WP244, WD245, WT246, WG247, WS248, RO249, T250, N251, W252, SN253, hv, hfk, hlk, hsk, hN80, hN128, hN129, hN130, hN131, hN132, hN133, hN118, hN119, hN120, hN117, hq54, hq55, hq56, hq57, hq58, hq59, hq60, hq61, hq62, hq63, hq64, hq65, hq66, hq67, hq68, hq69, hq70, hq71, hq72, hq73, hq74, hq75, hq76, hq77, hq78, hq79, hq80, hq81, hq82, hq83, hq84, hq85, hq86, hq87, hq88⟩
    · cases hv
      have h94 := hfk.get h94 (by decide)
      have h95 := hfk.get h95 (by decide)
      have h96 := hfk.get h96 (by decide)
      have h97 := hfk.get h97 (by decide)
      have h98 := hfk.get h98 (by decide)
      have h99 := hfk.get h99 (by decide)
      have h100 := hfk.get h100 (by decide)
      have h101 := hfk.get h101 (by decide)
      have h90 := hfk.get h90 (by decide)
      have h89 := hfk.get h89 (by decide)
      have h91 := hfk.get h91 (by decide)
      have h92 := hfk.get h92 (by decide)
      have h121 := hfk.get h121 (by decide)
      have h122 := hfk.get h122 (by decide)
      have h123 := hfk.get h123 (by decide)
      have h124 := hfk.get h124 (by decide)
      have h125 := hfk.get h125 (by decide)
      have hfr := hfr.tr hfk (by decide)
      have hlen := hlk.trans hlen
      have hsl := hsk.trans hsl
      have h80 := hN80
      have h128 := hN128
      have h129 := hN129
      have h130 := hN130
      have h131 := hN131
      have h132 := hN132
      have h133 := hN133
      have h118 := hN118
      have h119 := hN119
      have h120 := hN120
      have h117 := hN117
      change ab_W _ _ _ G8 184 [some (vR 80), some (vz w), some (vz (WP w)), some (vz (WD w))] [] _
      refine ab_goto (tgt := 200) d_MO_go_184 (by decide) ?_
      refine ab_vret rfl d_MO_go_200 ?_
      rw [hQ]; exact (Or.inl ⟨_, _, _, _, _, _, _, _, _, _, _, rfl, hfr, hlen, hsl, h80, h128, h129, h130, h131, h132, h133, h118, h119, h120, h117, (by first | exact hq20 | exact rgs_w hq20 (by omega)), (by first | exact hq21 | exact rgs_w hq21 (by omega)), (by first | exact hq22 | exact rgs_w hq22 (by omega)), (by first | exact hq23 | exact rgs_w hq23 (by omega)), (by first | exact hq24 | exact rgs_w hq24 (by omega)), (by assumption), (by assumption), (by omega), (by first | exact hq28 | exact rgs_w hq28 (by omega)), (by first | exact hq29 | exact rgs_w hq29 (by omega)), (by first | exact hq30 | exact rgs_w hq30 (by omega)), (by first | exact hq31 | exact rgs_w hq31 (by omega)), (by first | exact hq32 | exact rgs_w hq32 (by omega)), (by omega), (by assumption), (by assumption), (by assumption), (by assumption), (by assumption), (by assumption), (by assumption)⟩)
    · cases hv
      have h94 := hfk.get h94 (by decide)
      have h95 := hfk.get h95 (by decide)
      have h96 := hfk.get h96 (by decide)
      have h97 := hfk.get h97 (by decide)
      have h98 := hfk.get h98 (by decide)
      have h99 := hfk.get h99 (by decide)
      have h100 := hfk.get h100 (by decide)
      have h101 := hfk.get h101 (by decide)
      have h90 := hfk.get h90 (by decide)
      have h89 := hfk.get h89 (by decide)
      have h91 := hfk.get h91 (by decide)
      have h92 := hfk.get h92 (by decide)
      have h121 := hfk.get h121 (by decide)
      have h122 := hfk.get h122 (by decide)
      have h123 := hfk.get h123 (by decide)
      have h124 := hfk.get h124 (by decide)
      have h125 := hfk.get h125 (by decide)
      have hfr := hfr.tr hfk (by decide)
      have hlen := hlk.trans hlen
      have hsl := hsk.trans hsl
      have h80 := hN80
      have h128 := hN128
      have h129 := hN129
      have h130 := hN130
      have h131 := hN131
      have h132 := hN132
      have h133 := hN133
      have h118 := hN118
      have h119 := hN119
      have h120 := hN120
      have h117 := hN117
      change ab_W _ _ _ G8 184 [some (vR 80), some (vz w), some (vz (WP w)), some (vz (WD w))] [] _
      refine ab_goto (tgt := 200) d_MO_go_184 (by decide) ?_
      refine ab_vret rfl d_MO_go_200 ?_
      rw [hQ]; exact (Or.inr ⟨_, _, _, _, _, _, _, _, _, _, _, _, _, rfl, hfr, hlen, hsl, h80, h128, h129, h130, h131, h132, h133, h118, h119, h120, h117, (by first | exact hq54 | exact rgs_w hq54 (by omega)), (by first | exact hq55 | exact rgs_w hq55 (by omega)), (by first | exact hq56 | exact rgs_w hq56 (by omega)), (by first | exact hq57 | exact rgs_w hq57 (by omega)), (by first | exact hq58 | exact rgs_w hq58 (by omega)), (by assumption), (by assumption), (by assumption), (by assumption), (by assumption), (by assumption), (by assumption), (by assumption), (by assumption), (by assumption), (by assumption), (by omega), (by assumption), (by assumption), (by omega), (by assumption), (by first | exact hq75 | exact rgs_w hq75 (by omega)), (by first | exact hq76 | exact rgs_w hq76 (by omega)), (by first | exact hq77 | exact rgs_w hq77 (by omega)), (by first | exact hq78 | exact rgs_w hq78 (by omega)), (by first | exact hq79 | exact rgs_w hq79 (by omega)), (by omega), (by assumption), (by assumption), (by assumption), (by assumption), (by assumption), (by assumption), (by assumption), (by assumption)⟩)
set_option maxRecDepth 100000 in
set_option maxHeartbeats 4000000 in
theorem z_MO_go_Group_0p {X : ab_X} {d : Nat} {o : Nat → Nat} {G : ab_G} {m_thrown : Int} {m_taped : Int} {m_length : Int} {m_out : Int} {m_wide : Int} {m_gathered : Int} {m_sets : Int} {m_ranges : Int} {m_nodes : Int} {m_at : Int} {m_flags : Int} {m_fault : Int} {m_place : Int} {m_numbered : Int} {m_depth : Int} {m_value : Int} {m_isNot : Int} {m_least0 : Int} {m_most0 : Int} {m_slot : Int} {m_work : Int} {m_got : Int} {m_rowMany : Int} {m_charAt : Int} {m_charWide : Int} {m_trail : Int} {m_isMatch : Int} {m_matchGroups : Int} {m_allFrom : Int} {m_allBefore : Int} {m_founds : Int} {m_pieces : Int} {m_writtenMany : Int} {m_templateWide : Int} {m_tooMuch : Int} {T : Int → Int} {N : Int → Int} {W : Int → Int} {CA : Int → Int} {CM : Int → Int} {CL : Int → Int} {CH : Int → Int} {SN : Int → Int} {CC : Int → Int} {RO : Int → Int} {WP : Int → Int} {WD : Int → Int} {WT : Int → Int} {WG : Int → Int} {WS : Int → Int} {K : Int → Int} {O : Int → Int} {Fi : Int → Int} {Be : Int → Int} {Le : Int → Int} {Mo : Int → Int} {Z : Int → Int} {LZ : Int → Int} {SM : Int → Int} {SA : Int → Int} {RL : Int → Int} {RH : Int → Int} {w : Int} {ns : Int} {nd : Int} (h80 : cc o G 80 280 (ab_ob 12 (mof m_thrown m_taped m_length m_out m_wide m_gathered m_sets m_ranges m_nodes m_at m_flags m_fault m_place m_numbered m_depth m_value m_isNot m_least0 m_most0 m_slot m_work m_got m_rowMany m_charAt m_charWide m_trail m_isMatch m_matchGroups m_allFrom m_allBefore m_founds m_pieces m_writtenMany m_templateWide m_tooMuch))) (h94 : cc o G 94 294 (za 4200 K)) (h95 : cc o G 95 295 (za 4200 O)) (h96 : cc o G 96 296 (za 4200 Fi)) (h97 : cc o G 97 297 (za 4200 Be)) (h98 : cc o G 98 298 (za 4200 Le)) (h99 : cc o G 99 299 (za 4200 Mo)) (h100 : cc o G 100 300 (zl 4200 Z)) (h101 : cc o G 101 301 (zb 4200 LZ)) (h90 : cc o G 90 290 (za 2100 SM)) (h89 : cc o G 89 289 (za 2100 SA)) (h91 : cc o G 91 291 (za 24000 RL)) (h92 : cc o G 92 292 (za 24000 RH)) (h118 : cc o G 118 318 (za 75000 T)) (h119 : cc o G 119 319 (za 75000 N)) (h120 : cc o G 120 320 (za 75000 W)) (h121 : cc o G 121 321 (za 75000 CA)) (h122 : cc o G 122 322 (za 75000 CM)) (h123 : cc o G 123 323 (za 3600 CL)) (h124 : cc o G 124 324 (za 3600 CH)) (h117 : cc o G 117 317 (za 6 SN)) (h125 : cc o G 125 325 (za 6 CC)) (h133 : cc o G 133 333 (za 40000 RO)) (h128 : cc o G 128 328 (za 300 WP)) (h129 : cc o G 129 329 (za 300 WD)) (h130 : cc o G 130 330 (za 300 WT)) (h131 : cc o G 131 331 (za 300 WG)) (h132 : cc o G 132 332 (za 300 WS)) (n18 : ab_n0 = 18) (csl : 0 ≤ m_slot ∧ m_slot ≤ 5) (jrl : rgs RL 24000 0 1114111) (jrh : rgs RH 24000 0 1114111) (jk : rgs K 4200 0 7) (jo : rgs O 4200 (-1) 3000) (jfi : rgs Fi 4200 (-1) 4199) (jbe : rgs Be 4200 (-1) 4199) (jle : rgs Le 4200 0 1000) (jmo : rgs Mo 4200 (-1) 1000) (jz : rgs Z 4200 (-1) 1000000000000) (jlz : rgs LZ 4200 0 1) (jsm : rgs SM 2100 0 24000) (jsa : rgs SA 2100 0 24000) (gt : rgs T 75000 0 6) (gn : rgs N 75000 (-1) 12499) (gw : rgs W 75000 (-1) 12499) (gca : rgs CA 75000 0 3600) (gcm : rgs CM 75000 0 24000) (gcl : rgs CL 3600 0 1114111) (gch : rgs CH 3600 0 1114111) (gsn : rgs SN 6 0 12500) (gcc : rgs CC 6 0 600) (gro : rgs RO 40000 0 12499) (gwp : rgs WP 300 0 4199) (gwd : rgs WD 300 0 31) (gwt : rgs WT 300 0 39968) (gwg : rgs WG 300 0 39968) (gws : rgs WS 300 0 4300) (jka : tka T W CA CM SM SA RL RH CL CH (12500 * m_slot) (SN m_slot) m_slot (CC m_slot) ns) (jss : sas SA SM ns) (cst : 0 ≤ m_rowMany ∧ m_rowMany ≤ 1250 ∧ 0 ≤ (SN m_slot) ∧ (SN m_slot) ≤ 12500 ∧ 0 ≤ ns ∧ ns ≤ 2100) (cw : 0 ≤ w ∧ m_work = w + 1 ∧ w < 299) (cx : 0 ≤ WP w ∧ WP w < nd ∧ 0 ≤ nd ∧ nd ≤ 4200 ∧ 0 ≤ WD w ∧ WD w ≤ 31 ∧ 0 ≤ WT w ∧ WT w + 32 ≤ 32 * m_rowMany) (ck : K (WP w) = 6) (cfi : 0 ≤ Fi (WP w) ∧ Fi (WP w) < nd) (cof : 0 ≤ O (WP w) ∧ O (WP w) ≤ 9) (cs0 : WS w = 0) (cnum : 0 < O (WP w)) (jto : rokk RO (WT w) (WD w + 1) (SN m_slot)) (crs : m_rowMany ≤ 1249 ∧ (SN m_slot) + WD w + 1 ≤ 12500) (czz : 1 ≤ Z (WP w)) (hd : 5 ≤ d) : ab_F X d y_MO_go (.code y_MO_go b_MO_go 4 none) [vR 80, vz w] G (fun oc G2 => ∃ c2 : Int, ∃ t2 : Int, ∃ u2 : Int, ∃ WP2 : Int → Int, ∃ WD2 : Int → Int, ∃ WT2 : Int → Int, ∃ WG2 : Int → Int, ∃ WS2 : Int → Int, ∃ RO2 : Int → Int, ∃ T2 : Int → Int, ∃ N2 : Int → Int, ∃ W2 : Int → Int, ∃ SN2 : Int → Int, oc = .returned none ∧ fx o o [280, 328, 329, 330, 331, 332, 333, 318, 319, 320, 317] G G2 ∧ G2.length = G.length ∧ ab_slots G2 = ab_slots G ∧ cc o G2 80 280 (ab_ob 12 (mof m_thrown m_taped m_length m_out m_wide m_gathered m_sets m_ranges m_nodes m_at m_flags m_fault m_place m_numbered m_depth m_value m_isNot m_least0 m_most0 m_slot (m_work + 1) m_got (m_rowMany + 1) m_charAt m_charWide m_trail m_isMatch m_matchGroups m_allFrom m_allBefore m_founds m_pieces m_writtenMany m_templateWide m_tooMuch)) ∧ cc o G2 128 328 (za 300 WP2) ∧ cc o G2 129 329 (za 300 WD2) ∧ cc o G2 130 330 (za 300 WT2) ∧ cc o G2 131 331 (za 300 WG2) ∧ cc o G2 132 332 (za 300 WS2) ∧ cc o G2 133 333 (za 40000 RO2) ∧ cc o G2 118 318 (za 75000 T2) ∧ cc o G2 119 319 (za 75000 N2) ∧ cc o G2 120 320 (za 75000 W2) ∧ cc o G2 117 317 (za 6 SN2) ∧ (rgs WP2 300 0 4199) ∧ (rgs WD2 300 0 31) ∧ (rgs WT2 300 0 39968) ∧ (rgs WG2 300 0 39968) ∧ (rgs WS2 300 0 4300) ∧ (fsm WP WD WT WG WS WP2 WD2 WT2 WG2 WS2 w) ∧ (WP2 m_work = c2) ∧ (WD2 m_work = WD w) ∧ (WT2 m_work = t2) ∧ (WG2 m_work = t2) ∧ (WS2 m_work = 0) ∧ (WP2 w = WP w) ∧ (WD2 w = WD w) ∧ (WT2 w = WT w) ∧ (WG2 w = u2) ∧ (WS2 w = 1) ∧ (c2 = Fi (WP w)) ∧ (t2 = (32 * m_rowMany)) ∧ (rgs RO2 40000 0 12499) ∧ (rgs T2 75000 0 6) ∧ (rgs N2 75000 (-1) 12499) ∧ (rgs W2 75000 (-1) 12499) ∧ (rgs SN2 6 0 12500) ∧ ((SN m_slot) ≤ SN2 m_slot ∧ SN2 m_slot ≤ (SN m_slot) + WD w + 1) ∧ (rsm RO RO2 (32 * m_rowMany)) ∧ (sgn T2 N2 W2 (12500 * m_slot) (SN m_slot) (SN2 m_slot)) ∧ (stx T N W CA CM T2 N2 W2 CA CM (12500 * m_slot) (SN m_slot)) ∧ (sno SN SN2 m_slot) ∧ (tka T2 W2 CA CM SM SA RL RH CL CH (12500 * m_slot) (SN2 m_slot) m_slot (CC m_slot) ns) ∧ (rokk RO2 (32 * m_rowMany) (WD w + 1) (SN2 m_slot)) ∧ (rE T2 N2 W2 RO2 m_slot (SN m_slot) (SN2 m_slot) (32 * m_rowMany) (WD w + 1) 4 (fun i => RO (WT w + i)) (fun _ => 2 * O (WP w) + 1))) := by
  refine ab_F_of (by decide +kernel) (Nat.le_of_ble_eq_true rfl) ?_
  obtain ⟨Q, hQ⟩ : ∃ z : Outcome → ab_G → Prop, z = (fun oc G2 => ∃ c2 : Int, ∃ t2 : Int, ∃ u2 : Int, ∃ WP2 : Int → Int, ∃ WD2 : Int → Int, ∃ WT2 : Int → Int, ∃ WG2 : Int → Int, ∃ WS2 : Int → Int, ∃ RO2 : Int → Int, ∃ T2 : Int → Int, ∃ N2 : Int → Int, ∃ W2 : Int → Int, ∃ SN2 : Int → Int, oc = .returned none ∧ fx o o [280, 328, 329, 330, 331, 332, 333, 318, 319, 320, 317] G G2 ∧ G2.length = G.length ∧ ab_slots G2 = ab_slots G ∧ cc o G2 80 280 (ab_ob 12 (mof m_thrown m_taped m_length m_out m_wide m_gathered m_sets m_ranges m_nodes m_at m_flags m_fault m_place m_numbered m_depth m_value m_isNot m_least0 m_most0 m_slot (m_work + 1) m_got (m_rowMany + 1) m_charAt m_charWide m_trail m_isMatch m_matchGroups m_allFrom m_allBefore m_founds m_pieces m_writtenMany m_templateWide m_tooMuch)) ∧ cc o G2 128 328 (za 300 WP2) ∧ cc o G2 129 329 (za 300 WD2) ∧ cc o G2 130 330 (za 300 WT2) ∧ cc o G2 131 331 (za 300 WG2) ∧ cc o G2 132 332 (za 300 WS2) ∧ cc o G2 133 333 (za 40000 RO2) ∧ cc o G2 118 318 (za 75000 T2) ∧ cc o G2 119 319 (za 75000 N2) ∧ cc o G2 120 320 (za 75000 W2) ∧ cc o G2 117 317 (za 6 SN2) ∧ (rgs WP2 300 0 4199) ∧ (rgs WD2 300 0 31) ∧ (rgs WT2 300 0 39968) ∧ (rgs WG2 300 0 39968) ∧ (rgs WS2 300 0 4300) ∧ (fsm WP WD WT WG WS WP2 WD2 WT2 WG2 WS2 w) ∧ (WP2 m_work = c2) ∧ (WD2 m_work = WD w) ∧ (WT2 m_work = t2) ∧ (WG2 m_work = t2) ∧ (WS2 m_work = 0) ∧ (WP2 w = WP w) ∧ (WD2 w = WD w) ∧ (WT2 w = WT w) ∧ (WG2 w = u2) ∧ (WS2 w = 1) ∧ (c2 = Fi (WP w)) ∧ (t2 = (32 * m_rowMany)) ∧ (rgs RO2 40000 0 12499) ∧ (rgs T2 75000 0 6) ∧ (rgs N2 75000 (-1) 12499) ∧ (rgs W2 75000 (-1) 12499) ∧ (rgs SN2 6 0 12500) ∧ ((SN m_slot) ≤ SN2 m_slot ∧ SN2 m_slot ≤ (SN m_slot) + WD w + 1) ∧ (rsm RO RO2 (32 * m_rowMany)) ∧ (sgn T2 N2 W2 (12500 * m_slot) (SN m_slot) (SN2 m_slot)) ∧ (stx T N W CA CM T2 N2 W2 CA CM (12500 * m_slot) (SN m_slot)) ∧ (sno SN SN2 m_slot) ∧ (tka T2 W2 CA CM SM SA RL RH CL CH (12500 * m_slot) (SN2 m_slot) m_slot (CC m_slot) ns) ∧ (rokk RO2 (32 * m_rowMany) (WD w + 1) (SN2 m_slot)) ∧ (rE T2 N2 W2 RO2 m_slot (SN m_slot) (SN2 m_slot) (32 * m_rowMany) (WD w + 1) 4 (fun i => RO (WT w + i)) (fun _ => 2 * O (WP w) + 1))) := ⟨_, rfl⟩
  rw [← hQ]
  change ab_W X (ab_pl y_MO_go b_MO_go 4 none) d G 0 [some (vR 80), some (vz w), none, none] [] Q
  have hfr : fx o o [280, 328, 329, 330, 331, 332, 333, 318, 319, 320, 317] G G := fx.rf
  have hlen : G.length = G.length := rfl
  have hsl : ab_slots G = ab_slots G := rfl
  refine ab_aload_n d_MO_go_0 rfl ?_
  refine ab_getf (fs := mof m_thrown m_taped m_length m_out m_wide m_gathered m_sets m_ranges m_nodes m_at m_flags m_fault m_place m_numbered m_depth m_value m_isNot m_least0 m_most0 m_slot m_work m_got m_rowMany m_charAt m_charWide m_trail m_isMatch m_matchGroups m_allFrom m_allBefore m_founds m_pieces m_writtenMany m_templateWide m_tooMuch) f_MO_158 d_MO_go_1 h80.2.2 rfl ?_
  refine ab_iload_n d_MO_go_4 rfl ?_
  refine zz_iald d_MO_go_5 h128 (by omega) ?_
  have hq1 := gwp w (by omega) (by omega)
  refine ab_istore_n d_MO_go_6 (Nat.le_of_ble_eq_true rfl) (Nat.le_of_ble_eq_true rfl) rfl ?_
  change ab_W _ _ _ G 7 [some (vR 80), some (vz w), some (vz (WP w)), none] [] _
  refine ab_aload_n d_MO_go_7 rfl ?_
  refine ab_getf (fs := mof m_thrown m_taped m_length m_out m_wide m_gathered m_sets m_ranges m_nodes m_at m_flags m_fault m_place m_numbered m_depth m_value m_isNot m_least0 m_most0 m_slot m_work m_got m_rowMany m_charAt m_charWide m_trail m_isMatch m_matchGroups m_allFrom m_allBefore m_founds m_pieces m_writtenMany m_templateWide m_tooMuch) f_MO_161 d_MO_go_8 h80.2.2 rfl ?_
  refine ab_iload_n d_MO_go_11 rfl ?_
  refine zz_iald d_MO_go_12 h129 (by omega) ?_
  have hq2 := gwd w (by omega) (by omega)
  refine ab_istore_n d_MO_go_13 (Nat.le_of_ble_eq_true rfl) (Nat.le_of_ble_eq_true rfl) rfl ?_
  change ab_W _ _ _ G 14 [some (vR 80), some (vz w), some (vz (WP w)), some (vz (WD w))] [] _
  refine ab_aload_n d_MO_go_14 rfl ?_
  refine ab_getf (fs := mof m_thrown m_taped m_length m_out m_wide m_gathered m_sets m_ranges m_nodes m_at m_flags m_fault m_place m_numbered m_depth m_value m_isNot m_least0 m_most0 m_slot m_work m_got m_rowMany m_charAt m_charWide m_trail m_isMatch m_matchGroups m_allFrom m_allBefore m_founds m_pieces m_writtenMany m_templateWide m_tooMuch) f_MO_68 d_MO_go_15 h80.2.2 rfl ?_
  refine ab_iload_n d_MO_go_18 rfl ?_
  refine zz_lald d_MO_go_19 h100 (by omega) ?_
  have hq3 := jz (WP w) (by omega) (by omega)
  refine zz_lconst d_MO_go_20 ?_
  change ab_W _ _ _ G 21 [some (vR 80), some (vz w), some (vz (WP w)), some (vz (WD w))] [vj 0, vj (Z (WP w))] _
  refine zz_lcmp d_MO_go_21 (by omega) (by omega) (fun c4a => by exfalso; omega) (fun c4a c4b => by exfalso; omega) (fun c4a => ?_)
  · refine zz_if_ne (tgt := 36) d_MO_go_22 (by decide) (by decide) (fun c5 => ?_) (fun c5 => absurd c5 (by decide))
    refine ab_aload_n d_MO_go_36 rfl ?_
    refine ab_getf (fs := mof m_thrown m_taped m_length m_out m_wide m_gathered m_sets m_ranges m_nodes m_at m_flags m_fault m_place m_numbered m_depth m_value m_isNot m_least0 m_most0 m_slot m_work m_got m_rowMany m_charAt m_charWide m_trail m_isMatch m_matchGroups m_allFrom m_allBefore m_founds m_pieces m_writtenMany m_templateWide m_tooMuch) f_MO_50 d_MO_go_37 h80.2.2 rfl ?_
    refine ab_iload_n d_MO_go_40 rfl ?_
    refine zz_iald d_MO_go_41 h94 (by omega) ?_
    have hq6 := jk (WP w) (by omega) (by omega)
    refine zz_top (y := 6) (by omega) ?_
    change ab_W _ _ _ G 42 [some (vR 80), some (vz w), some (vz (WP w)), some (vz (WD w))] [vz 6] _
    refine zz_tableIn (off := 145) (tgt := 187) d_MO_go_42 (by decide) (by decide) (by decide) (by decide) (by decide) ?_
    refine ab_aload_n d_MO_go_187 rfl ?_
    refine ab_iload_n d_MO_go_188 rfl ?_
    refine ab_callV (d' := d - 1) (as := [vz w]) (st := []) (r := _) (z_MO_goGroup_0p (o := o) (m_thrown := m_thrown) (m_taped := m_taped) (m_length := m_length) (m_out := m_out) (m_wide := m_wide) (m_gathered := m_gathered) (m_sets := m_sets) (m_ranges := m_ranges) (m_nodes := m_nodes) (m_at := m_at) (m_flags := m_flags) (m_fault := m_fault) (m_place := m_place) (m_numbered := m_numbered) (m_depth := m_depth) (m_value := m_value) (m_isNot := m_isNot) (m_least0 := m_least0) (m_most0 := m_most0) (m_slot := m_slot) (m_work := m_work) (m_got := m_got) (m_rowMany := m_rowMany) (m_charAt := m_charAt) (m_charWide := m_charWide) (m_trail := m_trail) (m_isMatch := m_isMatch) (m_matchGroups := m_matchGroups) (m_allFrom := m_allFrom) (m_allBefore := m_allBefore) (m_founds := m_founds) (m_pieces := m_pieces) (m_writtenMany := m_writtenMany) (m_templateWide := m_templateWide) (m_tooMuch := m_tooMuch) (T := T) (N := N) (W := W) (CA := CA) (CM := CM) (CL := CL) (CH := CH) (SN := SN) (CC := CC) (RO := RO) (WP := WP) (WD := WD) (WT := WT) (WG := WG) (WS := WS) (K := K) (O := O) (Fi := Fi) (Be := Be) (Le := Le) (Mo := Mo) (Z := Z) (LZ := LZ) (SM := SM) (SA := SA) (RL := RL) (RH := RH) (w := w) (ns := ns) (nd := nd) h80 h94 h95 h96 h97 h98 h99 h100 h101 h90 h89 h91 h92 h118 h119 h120 h121 h122 h123 h124 h117 h125 h133 h128 h129 h130 h131 h132 (by omega) (by omega) jrl jrh jk jo jfi jbe jle jmo jz jlz jsm jsa gt gn gw gca gcm gcl gch gsn gcc gro gwp gwd gwt gwg gws jka jss (by omega) (by omega) (by omega) (by omega) (by omega) (by omega) (by omega) (by omega) jto (by omega) (by omega)) (fun oc G2 h => by rcases h with ⟨_, _, _, _, _, _, _, _, _, _, _, _, _, h, _⟩ <;> exact ⟨_, h⟩) (by omega) m_MO_goGroup ml_MO_495 im_MO_goGroup se_MO_goGroup c_MO h80.2.2 (Nat.le_of_ble_eq_true rfl) d_MO_go_189 rfl ?_
    intro v G8 hq
    rcases hq with ⟨c29, t210, u211, WP212, WD213, WT214, WG215, WS216, RO217, T218, N219, W220, SN221, hv, hfk, hlk, hsk, hN80, hN128, hN129, hN130, hN131, hN132, hN133, hN118, hN119, hN120, hN117, hq22, hq23, hq24, hq25, hq26, hq27, hq28, hq29, hq30, hq31, hq32, hq33, hq34, hq35, hq36, hq37, hq38, hq39, hq40, hq41, hq42, hq43, hq44, hq45, hq46, hq47, hq48, hq49, hq50, hq51, hq52⟩
    cases hv
    have h94 := hfk.get h94 (by decide)
    have h95 := hfk.get h95 (by decide)
    have h96 := hfk.get h96 (by decide)
    have h97 := hfk.get h97 (by decide)
    have h98 := hfk.get h98 (by decide)
    have h99 := hfk.get h99 (by decide)
    have h100 := hfk.get h100 (by decide)
    have h101 := hfk.get h101 (by decide)
    have h90 := hfk.get h90 (by decide)
    have h89 := hfk.get h89 (by decide)
    have h91 := hfk.get h91 (by decide)
    have h92 := hfk.get h92 (by decide)
    have h121 := hfk.get h121 (by decide)
    have h122 := hfk.get h122 (by decide)
    have h123 := hfk.get h123 (by decide)
    have h124 := hfk.get h124 (by decide)
    have h125 := hfk.get h125 (by decide)
    have hfr := hfr.tr hfk (by decide)
    have hlen := hlk.trans hlen
    have hsl := hsk.trans hsl
    have h80 := hN80
    have h128 := hN128
    have h129 := hN129
    have h130 := hN130
    have h131 := hN131
    have h132 := hN132
    have h133 := hN133
    have h118 := hN118
    have h119 := hN119
    have h120 := hN120
    have h117 := hN117
    change ab_W _ _ _ G8 192 [some (vR 80), some (vz w), some (vz (WP w)), some (vz (WD w))] [] _
    refine ab_goto (tgt := 200) d_MO_go_192 (by decide) ?_
    refine ab_vret rfl d_MO_go_200 ?_
    rw [hQ]; exact ⟨_, _, _, _, _, _, _, _, _, _, _, _, _, rfl, hfr, hlen, hsl, h80, h128, h129, h130, h131, h132, h133, h118, h119, h120, h117, (by first | exact hq22 | exact rgs_w hq22 (by omega)), (by first | exact hq23 | exact rgs_w hq23 (by omega)), (by first | exact hq24 | exact rgs_w hq24 (by omega)), (by first | exact hq25 | exact rgs_w hq25 (by omega)), (by first | exact hq26 | exact rgs_w hq26 (by omega)), (by assumption), (by assumption), (by assumption), (by assumption), (by assumption), (by assumption), (by assumption), (by assumption), (by assumption), (by assumption), (by assumption), (by assumption), (by assumption), (by first | exact hq40 | exact rgs_w hq40 (by omega)), (by first | exact hq41 | exact rgs_w hq41 (by omega)), (by first | exact hq42 | exact rgs_w hq42 (by omega)), (by first | exact hq43 | exact rgs_w hq43 (by omega)), (by first | exact hq44 | exact rgs_w hq44 (by omega)), (by omega), (by assumption), (by assumption), (by assumption), (by assumption), (by assumption), (by assumption), (by assumption)⟩
set_option maxRecDepth 100000 in
set_option maxHeartbeats 4000000 in
theorem z_MO_go_Group_0z {X : ab_X} {d : Nat} {o : Nat → Nat} {G : ab_G} {m_thrown : Int} {m_taped : Int} {m_length : Int} {m_out : Int} {m_wide : Int} {m_gathered : Int} {m_sets : Int} {m_ranges : Int} {m_nodes : Int} {m_at : Int} {m_flags : Int} {m_fault : Int} {m_place : Int} {m_numbered : Int} {m_depth : Int} {m_value : Int} {m_isNot : Int} {m_least0 : Int} {m_most0 : Int} {m_slot : Int} {m_work : Int} {m_got : Int} {m_rowMany : Int} {m_charAt : Int} {m_charWide : Int} {m_trail : Int} {m_isMatch : Int} {m_matchGroups : Int} {m_allFrom : Int} {m_allBefore : Int} {m_founds : Int} {m_pieces : Int} {m_writtenMany : Int} {m_templateWide : Int} {m_tooMuch : Int} {T : Int → Int} {N : Int → Int} {W : Int → Int} {CA : Int → Int} {CM : Int → Int} {CL : Int → Int} {CH : Int → Int} {SN : Int → Int} {CC : Int → Int} {RO : Int → Int} {WP : Int → Int} {WD : Int → Int} {WT : Int → Int} {WG : Int → Int} {WS : Int → Int} {K : Int → Int} {O : Int → Int} {Fi : Int → Int} {Be : Int → Int} {Le : Int → Int} {Mo : Int → Int} {Z : Int → Int} {LZ : Int → Int} {SM : Int → Int} {SA : Int → Int} {RL : Int → Int} {RH : Int → Int} {w : Int} {ns : Int} {nd : Int} (h80 : cc o G 80 280 (ab_ob 12 (mof m_thrown m_taped m_length m_out m_wide m_gathered m_sets m_ranges m_nodes m_at m_flags m_fault m_place m_numbered m_depth m_value m_isNot m_least0 m_most0 m_slot m_work m_got m_rowMany m_charAt m_charWide m_trail m_isMatch m_matchGroups m_allFrom m_allBefore m_founds m_pieces m_writtenMany m_templateWide m_tooMuch))) (h94 : cc o G 94 294 (za 4200 K)) (h95 : cc o G 95 295 (za 4200 O)) (h96 : cc o G 96 296 (za 4200 Fi)) (h97 : cc o G 97 297 (za 4200 Be)) (h98 : cc o G 98 298 (za 4200 Le)) (h99 : cc o G 99 299 (za 4200 Mo)) (h100 : cc o G 100 300 (zl 4200 Z)) (h101 : cc o G 101 301 (zb 4200 LZ)) (h90 : cc o G 90 290 (za 2100 SM)) (h89 : cc o G 89 289 (za 2100 SA)) (h91 : cc o G 91 291 (za 24000 RL)) (h92 : cc o G 92 292 (za 24000 RH)) (h118 : cc o G 118 318 (za 75000 T)) (h119 : cc o G 119 319 (za 75000 N)) (h120 : cc o G 120 320 (za 75000 W)) (h121 : cc o G 121 321 (za 75000 CA)) (h122 : cc o G 122 322 (za 75000 CM)) (h123 : cc o G 123 323 (za 3600 CL)) (h124 : cc o G 124 324 (za 3600 CH)) (h117 : cc o G 117 317 (za 6 SN)) (h125 : cc o G 125 325 (za 6 CC)) (h133 : cc o G 133 333 (za 40000 RO)) (h128 : cc o G 128 328 (za 300 WP)) (h129 : cc o G 129 329 (za 300 WD)) (h130 : cc o G 130 330 (za 300 WT)) (h131 : cc o G 131 331 (za 300 WG)) (h132 : cc o G 132 332 (za 300 WS)) (n18 : ab_n0 = 18) (csl : 0 ≤ m_slot ∧ m_slot ≤ 5) (jrl : rgs RL 24000 0 1114111) (jrh : rgs RH 24000 0 1114111) (jk : rgs K 4200 0 7) (jo : rgs O 4200 (-1) 3000) (jfi : rgs Fi 4200 (-1) 4199) (jbe : rgs Be 4200 (-1) 4199) (jle : rgs Le 4200 0 1000) (jmo : rgs Mo 4200 (-1) 1000) (jz : rgs Z 4200 (-1) 1000000000000) (jlz : rgs LZ 4200 0 1) (jsm : rgs SM 2100 0 24000) (jsa : rgs SA 2100 0 24000) (gt : rgs T 75000 0 6) (gn : rgs N 75000 (-1) 12499) (gw : rgs W 75000 (-1) 12499) (gca : rgs CA 75000 0 3600) (gcm : rgs CM 75000 0 24000) (gcl : rgs CL 3600 0 1114111) (gch : rgs CH 3600 0 1114111) (gsn : rgs SN 6 0 12500) (gcc : rgs CC 6 0 600) (gro : rgs RO 40000 0 12499) (gwp : rgs WP 300 0 4199) (gwd : rgs WD 300 0 31) (gwt : rgs WT 300 0 39968) (gwg : rgs WG 300 0 39968) (gws : rgs WS 300 0 4300) (jka : tka T W CA CM SM SA RL RH CL CH (12500 * m_slot) (SN m_slot) m_slot (CC m_slot) ns) (jss : sas SA SM ns) (cst : 0 ≤ m_rowMany ∧ m_rowMany ≤ 1250 ∧ 0 ≤ (SN m_slot) ∧ (SN m_slot) ≤ 12500 ∧ 0 ≤ ns ∧ ns ≤ 2100) (cw : 0 ≤ w ∧ m_work = w + 1 ∧ w < 299) (cx : 0 ≤ WP w ∧ WP w < nd ∧ 0 ≤ nd ∧ nd ≤ 4200 ∧ 0 ≤ WD w ∧ WD w ≤ 31 ∧ 0 ≤ WT w ∧ WT w + 32 ≤ 32 * m_rowMany) (ck : K (WP w) = 6) (cfi : 0 ≤ Fi (WP w) ∧ Fi (WP w) < nd) (cof : 0 ≤ O (WP w) ∧ O (WP w) ≤ 9) (cs0 : WS w = 0) (cnum : O (WP w) = 0) (czz : 1 ≤ Z (WP w)) (hd : 5 ≤ d) : ab_F X d y_MO_go (.code y_MO_go b_MO_go 4 none) [vR 80, vz w] G (fun oc G2 => ∃ c2 : Int, ∃ t2 : Int, ∃ u2 : Int, ∃ WP2 : Int → Int, ∃ WD2 : Int → Int, ∃ WT2 : Int → Int, ∃ WG2 : Int → Int, ∃ WS2 : Int → Int, oc = .returned none ∧ fx o o [280, 328, 329, 330, 331, 332] G G2 ∧ G2.length = G.length ∧ ab_slots G2 = ab_slots G ∧ cc o G2 80 280 (ab_ob 12 (mof m_thrown m_taped m_length m_out m_wide m_gathered m_sets m_ranges m_nodes m_at m_flags m_fault m_place m_numbered m_depth m_value m_isNot m_least0 m_most0 m_slot (m_work + 1) m_got m_rowMany m_charAt m_charWide m_trail m_isMatch m_matchGroups m_allFrom m_allBefore m_founds m_pieces m_writtenMany m_templateWide m_tooMuch)) ∧ cc o G2 128 328 (za 300 WP2) ∧ cc o G2 129 329 (za 300 WD2) ∧ cc o G2 130 330 (za 300 WT2) ∧ cc o G2 131 331 (za 300 WG2) ∧ cc o G2 132 332 (za 300 WS2) ∧ (rgs WP2 300 0 4199) ∧ (rgs WD2 300 0 31) ∧ (rgs WT2 300 0 39968) ∧ (rgs WG2 300 0 39968) ∧ (rgs WS2 300 0 4300) ∧ (fsm WP WD WT WG WS WP2 WD2 WT2 WG2 WS2 w) ∧ (WP2 m_work = c2) ∧ (WD2 m_work = WD w) ∧ (WT2 m_work = t2) ∧ (WG2 m_work = t2) ∧ (WS2 m_work = 0) ∧ (WP2 w = WP w) ∧ (WD2 w = WD w) ∧ (WT2 w = WT w) ∧ (WG2 w = u2) ∧ (WS2 w = 1) ∧ (c2 = Fi (WP w)) ∧ (t2 = WT w)) := by
  refine ab_F_of (by decide +kernel) (Nat.le_of_ble_eq_true rfl) ?_
  obtain ⟨Q, hQ⟩ : ∃ z : Outcome → ab_G → Prop, z = (fun oc G2 => ∃ c2 : Int, ∃ t2 : Int, ∃ u2 : Int, ∃ WP2 : Int → Int, ∃ WD2 : Int → Int, ∃ WT2 : Int → Int, ∃ WG2 : Int → Int, ∃ WS2 : Int → Int, oc = .returned none ∧ fx o o [280, 328, 329, 330, 331, 332] G G2 ∧ G2.length = G.length ∧ ab_slots G2 = ab_slots G ∧ cc o G2 80 280 (ab_ob 12 (mof m_thrown m_taped m_length m_out m_wide m_gathered m_sets m_ranges m_nodes m_at m_flags m_fault m_place m_numbered m_depth m_value m_isNot m_least0 m_most0 m_slot (m_work + 1) m_got m_rowMany m_charAt m_charWide m_trail m_isMatch m_matchGroups m_allFrom m_allBefore m_founds m_pieces m_writtenMany m_templateWide m_tooMuch)) ∧ cc o G2 128 328 (za 300 WP2) ∧ cc o G2 129 329 (za 300 WD2) ∧ cc o G2 130 330 (za 300 WT2) ∧ cc o G2 131 331 (za 300 WG2) ∧ cc o G2 132 332 (za 300 WS2) ∧ (rgs WP2 300 0 4199) ∧ (rgs WD2 300 0 31) ∧ (rgs WT2 300 0 39968) ∧ (rgs WG2 300 0 39968) ∧ (rgs WS2 300 0 4300) ∧ (fsm WP WD WT WG WS WP2 WD2 WT2 WG2 WS2 w) ∧ (WP2 m_work = c2) ∧ (WD2 m_work = WD w) ∧ (WT2 m_work = t2) ∧ (WG2 m_work = t2) ∧ (WS2 m_work = 0) ∧ (WP2 w = WP w) ∧ (WD2 w = WD w) ∧ (WT2 w = WT w) ∧ (WG2 w = u2) ∧ (WS2 w = 1) ∧ (c2 = Fi (WP w)) ∧ (t2 = WT w)) := ⟨_, rfl⟩
  rw [← hQ]
  change ab_W X (ab_pl y_MO_go b_MO_go 4 none) d G 0 [some (vR 80), some (vz w), none, none] [] Q
  have hfr : fx o o [280, 328, 329, 330, 331, 332] G G := fx.rf
  have hlen : G.length = G.length := rfl
  have hsl : ab_slots G = ab_slots G := rfl
  refine ab_aload_n d_MO_go_0 rfl ?_
  refine ab_getf (fs := mof m_thrown m_taped m_length m_out m_wide m_gathered m_sets m_ranges m_nodes m_at m_flags m_fault m_place m_numbered m_depth m_value m_isNot m_least0 m_most0 m_slot m_work m_got m_rowMany m_charAt m_charWide m_trail m_isMatch m_matchGroups m_allFrom m_allBefore m_founds m_pieces m_writtenMany m_templateWide m_tooMuch) f_MO_158 d_MO_go_1 h80.2.2 rfl ?_
  refine ab_iload_n d_MO_go_4 rfl ?_
  refine zz_iald d_MO_go_5 h128 (by omega) ?_
  have hq1 := gwp w (by omega) (by omega)
  refine ab_istore_n d_MO_go_6 (Nat.le_of_ble_eq_true rfl) (Nat.le_of_ble_eq_true rfl) rfl ?_
  change ab_W _ _ _ G 7 [some (vR 80), some (vz w), some (vz (WP w)), none] [] _
  refine ab_aload_n d_MO_go_7 rfl ?_
  refine ab_getf (fs := mof m_thrown m_taped m_length m_out m_wide m_gathered m_sets m_ranges m_nodes m_at m_flags m_fault m_place m_numbered m_depth m_value m_isNot m_least0 m_most0 m_slot m_work m_got m_rowMany m_charAt m_charWide m_trail m_isMatch m_matchGroups m_allFrom m_allBefore m_founds m_pieces m_writtenMany m_templateWide m_tooMuch) f_MO_161 d_MO_go_8 h80.2.2 rfl ?_
  refine ab_iload_n d_MO_go_11 rfl ?_
  refine zz_iald d_MO_go_12 h129 (by omega) ?_
  have hq2 := gwd w (by omega) (by omega)
  refine ab_istore_n d_MO_go_13 (Nat.le_of_ble_eq_true rfl) (Nat.le_of_ble_eq_true rfl) rfl ?_
  change ab_W _ _ _ G 14 [some (vR 80), some (vz w), some (vz (WP w)), some (vz (WD w))] [] _
  refine ab_aload_n d_MO_go_14 rfl ?_
  refine ab_getf (fs := mof m_thrown m_taped m_length m_out m_wide m_gathered m_sets m_ranges m_nodes m_at m_flags m_fault m_place m_numbered m_depth m_value m_isNot m_least0 m_most0 m_slot m_work m_got m_rowMany m_charAt m_charWide m_trail m_isMatch m_matchGroups m_allFrom m_allBefore m_founds m_pieces m_writtenMany m_templateWide m_tooMuch) f_MO_68 d_MO_go_15 h80.2.2 rfl ?_
  refine ab_iload_n d_MO_go_18 rfl ?_
  refine zz_lald d_MO_go_19 h100 (by omega) ?_
  have hq3 := jz (WP w) (by omega) (by omega)
  refine zz_lconst d_MO_go_20 ?_
  change ab_W _ _ _ G 21 [some (vR 80), some (vz w), some (vz (WP w)), some (vz (WD w))] [vj 0, vj (Z (WP w))] _
  refine zz_lcmp d_MO_go_21 (by omega) (by omega) (fun c4a => by exfalso; omega) (fun c4a c4b => by exfalso; omega) (fun c4a => ?_)
  · refine zz_if_ne (tgt := 36) d_MO_go_22 (by decide) (by decide) (fun c5 => ?_) (fun c5 => absurd c5 (by decide))
    refine ab_aload_n d_MO_go_36 rfl ?_
    refine ab_getf (fs := mof m_thrown m_taped m_length m_out m_wide m_gathered m_sets m_ranges m_nodes m_at m_flags m_fault m_place m_numbered m_depth m_value m_isNot m_least0 m_most0 m_slot m_work m_got m_rowMany m_charAt m_charWide m_trail m_isMatch m_matchGroups m_allFrom m_allBefore m_founds m_pieces m_writtenMany m_templateWide m_tooMuch) f_MO_50 d_MO_go_37 h80.2.2 rfl ?_
    refine ab_iload_n d_MO_go_40 rfl ?_
    refine zz_iald d_MO_go_41 h94 (by omega) ?_
    have hq6 := jk (WP w) (by omega) (by omega)
    refine zz_top (y := 6) (by omega) ?_
    change ab_W _ _ _ G 42 [some (vR 80), some (vz w), some (vz (WP w)), some (vz (WD w))] [vz 6] _
    refine zz_tableIn (off := 145) (tgt := 187) d_MO_go_42 (by decide) (by decide) (by decide) (by decide) (by decide) ?_
    refine ab_aload_n d_MO_go_187 rfl ?_
    refine ab_iload_n d_MO_go_188 rfl ?_
    refine ab_callV (d' := d - 1) (as := [vz w]) (st := []) (r := _) (z_MO_goGroup_0z (o := o) (m_thrown := m_thrown) (m_taped := m_taped) (m_length := m_length) (m_out := m_out) (m_wide := m_wide) (m_gathered := m_gathered) (m_sets := m_sets) (m_ranges := m_ranges) (m_nodes := m_nodes) (m_at := m_at) (m_flags := m_flags) (m_fault := m_fault) (m_place := m_place) (m_numbered := m_numbered) (m_depth := m_depth) (m_value := m_value) (m_isNot := m_isNot) (m_least0 := m_least0) (m_most0 := m_most0) (m_slot := m_slot) (m_work := m_work) (m_got := m_got) (m_rowMany := m_rowMany) (m_charAt := m_charAt) (m_charWide := m_charWide) (m_trail := m_trail) (m_isMatch := m_isMatch) (m_matchGroups := m_matchGroups) (m_allFrom := m_allFrom) (m_allBefore := m_allBefore) (m_founds := m_founds) (m_pieces := m_pieces) (m_writtenMany := m_writtenMany) (m_templateWide := m_templateWide) (m_tooMuch := m_tooMuch) (T := T) (N := N) (W := W) (CA := CA) (CM := CM) (CL := CL) (CH := CH) (SN := SN) (CC := CC) (RO := RO) (WP := WP) (WD := WD) (WT := WT) (WG := WG) (WS := WS) (K := K) (O := O) (Fi := Fi) (Be := Be) (Le := Le) (Mo := Mo) (Z := Z) (LZ := LZ) (SM := SM) (SA := SA) (RL := RL) (RH := RH) (w := w) (ns := ns) (nd := nd) h80 h94 h95 h96 h97 h98 h99 h100 h101 h90 h89 h91 h92 h118 h119 h120 h121 h122 h123 h124 h117 h125 h133 h128 h129 h130 h131 h132 (by omega) (by omega) jrl jrh jk jo jfi jbe jle jmo jz jlz jsm jsa gt gn gw gca gcm gcl gch gsn gcc gro gwp gwd gwt gwg gws jka jss (by omega) (by omega) (by omega) (by omega) (by omega) (by omega) (by omega) (by omega) (by omega)) (fun oc G2 h => by rcases h with ⟨_, _, _, _, _, _, _, _, h, _⟩ <;> exact ⟨_, h⟩) (by omega) m_MO_goGroup ml_MO_495 im_MO_goGroup se_MO_goGroup c_MO h80.2.2 (Nat.le_of_ble_eq_true rfl) d_MO_go_189 rfl ?_
    intro v G8 hq
    rcases hq with ⟨c29, t210, u211, WP212, WD213, WT214, WG215, WS216, hv, hfk, hlk, hsk, hN80, hN128, hN129, hN130, hN131, hN132, hq17, hq18, hq19, hq20, hq21, hq22, hq23, hq24, hq25, hq26, hq27, hq28, hq29, hq30, hq31, hq32, hq33, hq34⟩
    cases hv
    have h94 := hfk.get h94 (by decide)
    have h95 := hfk.get h95 (by decide)
    have h96 := hfk.get h96 (by decide)
    have h97 := hfk.get h97 (by decide)
    have h98 := hfk.get h98 (by decide)
    have h99 := hfk.get h99 (by decide)
    have h100 := hfk.get h100 (by decide)
    have h101 := hfk.get h101 (by decide)
    have h90 := hfk.get h90 (by decide)
    have h89 := hfk.get h89 (by decide)
    have h91 := hfk.get h91 (by decide)
    have h92 := hfk.get h92 (by decide)
    have h118 := hfk.get h118 (by decide)
    have h119 := hfk.get h119 (by decide)
    have h120 := hfk.get h120 (by decide)
    have h121 := hfk.get h121 (by decide)
    have h122 := hfk.get h122 (by decide)
    have h123 := hfk.get h123 (by decide)
    have h124 := hfk.get h124 (by decide)
    have h117 := hfk.get h117 (by decide)
    have h125 := hfk.get h125 (by decide)
    have h133 := hfk.get h133 (by decide)
    have hfr := hfr.tr hfk (by decide)
    have hlen := hlk.trans hlen
    have hsl := hsk.trans hsl
    have h80 := hN80
    have h128 := hN128
    have h129 := hN129
    have h130 := hN130
    have h131 := hN131
    have h132 := hN132
    change ab_W _ _ _ G8 192 [some (vR 80), some (vz w), some (vz (WP w)), some (vz (WD w))] [] _
    refine ab_goto (tgt := 200) d_MO_go_192 (by decide) ?_
    refine ab_vret rfl d_MO_go_200 ?_
    rw [hQ]; exact ⟨_, _, _, _, _, _, _, _, rfl, hfr, hlen, hsl, h80, h128, h129, h130, h131, h132, (by first | exact hq17 | exact rgs_w hq17 (by omega)), (by first | exact hq18 | exact rgs_w hq18 (by omega)), (by first | exact hq19 | exact rgs_w hq19 (by omega)), (by first | exact hq20 | exact rgs_w hq20 (by omega)), (by first | exact hq21 | exact rgs_w hq21 (by omega)), (by assumption), (by assumption), (by assumption), (by assumption), (by assumption), (by assumption), (by assumption), (by assumption), (by assumption), (by assumption), (by assumption), (by assumption), (by assumption)⟩
set_option maxRecDepth 100000 in
set_option maxHeartbeats 4000000 in
theorem z_MO_go_Group_1p {X : ab_X} {d : Nat} {o : Nat → Nat} {G : ab_G} {m_thrown : Int} {m_taped : Int} {m_length : Int} {m_out : Int} {m_wide : Int} {m_gathered : Int} {m_sets : Int} {m_ranges : Int} {m_nodes : Int} {m_at : Int} {m_flags : Int} {m_fault : Int} {m_place : Int} {m_numbered : Int} {m_depth : Int} {m_value : Int} {m_isNot : Int} {m_least0 : Int} {m_most0 : Int} {m_slot : Int} {m_work : Int} {m_got : Int} {m_rowMany : Int} {m_charAt : Int} {m_charWide : Int} {m_trail : Int} {m_isMatch : Int} {m_matchGroups : Int} {m_allFrom : Int} {m_allBefore : Int} {m_founds : Int} {m_pieces : Int} {m_writtenMany : Int} {m_templateWide : Int} {m_tooMuch : Int} {T : Int → Int} {N : Int → Int} {W : Int → Int} {CA : Int → Int} {CM : Int → Int} {CL : Int → Int} {CH : Int → Int} {SN : Int → Int} {CC : Int → Int} {RO : Int → Int} {WP : Int → Int} {WD : Int → Int} {WT : Int → Int} {WG : Int → Int} {WS : Int → Int} {K : Int → Int} {O : Int → Int} {Fi : Int → Int} {Be : Int → Int} {Le : Int → Int} {Mo : Int → Int} {Z : Int → Int} {LZ : Int → Int} {SM : Int → Int} {SA : Int → Int} {RL : Int → Int} {RH : Int → Int} {w : Int} {ns : Int} {nd : Int} (h80 : cc o G 80 280 (ab_ob 12 (mof m_thrown m_taped m_length m_out m_wide m_gathered m_sets m_ranges m_nodes m_at m_flags m_fault m_place m_numbered m_depth m_value m_isNot m_least0 m_most0 m_slot m_work m_got m_rowMany m_charAt m_charWide m_trail m_isMatch m_matchGroups m_allFrom m_allBefore m_founds m_pieces m_writtenMany m_templateWide m_tooMuch))) (h94 : cc o G 94 294 (za 4200 K)) (h95 : cc o G 95 295 (za 4200 O)) (h96 : cc o G 96 296 (za 4200 Fi)) (h97 : cc o G 97 297 (za 4200 Be)) (h98 : cc o G 98 298 (za 4200 Le)) (h99 : cc o G 99 299 (za 4200 Mo)) (h100 : cc o G 100 300 (zl 4200 Z)) (h101 : cc o G 101 301 (zb 4200 LZ)) (h90 : cc o G 90 290 (za 2100 SM)) (h89 : cc o G 89 289 (za 2100 SA)) (h91 : cc o G 91 291 (za 24000 RL)) (h92 : cc o G 92 292 (za 24000 RH)) (h118 : cc o G 118 318 (za 75000 T)) (h119 : cc o G 119 319 (za 75000 N)) (h120 : cc o G 120 320 (za 75000 W)) (h121 : cc o G 121 321 (za 75000 CA)) (h122 : cc o G 122 322 (za 75000 CM)) (h123 : cc o G 123 323 (za 3600 CL)) (h124 : cc o G 124 324 (za 3600 CH)) (h117 : cc o G 117 317 (za 6 SN)) (h125 : cc o G 125 325 (za 6 CC)) (h133 : cc o G 133 333 (za 40000 RO)) (h128 : cc o G 128 328 (za 300 WP)) (h129 : cc o G 129 329 (za 300 WD)) (h130 : cc o G 130 330 (za 300 WT)) (h131 : cc o G 131 331 (za 300 WG)) (h132 : cc o G 132 332 (za 300 WS)) (n18 : ab_n0 = 18) (csl : 0 ≤ m_slot ∧ m_slot ≤ 5) (jrl : rgs RL 24000 0 1114111) (jrh : rgs RH 24000 0 1114111) (jk : rgs K 4200 0 7) (jo : rgs O 4200 (-1) 3000) (jfi : rgs Fi 4200 (-1) 4199) (jbe : rgs Be 4200 (-1) 4199) (jle : rgs Le 4200 0 1000) (jmo : rgs Mo 4200 (-1) 1000) (jz : rgs Z 4200 (-1) 1000000000000) (jlz : rgs LZ 4200 0 1) (jsm : rgs SM 2100 0 24000) (jsa : rgs SA 2100 0 24000) (gt : rgs T 75000 0 6) (gn : rgs N 75000 (-1) 12499) (gw : rgs W 75000 (-1) 12499) (gca : rgs CA 75000 0 3600) (gcm : rgs CM 75000 0 24000) (gcl : rgs CL 3600 0 1114111) (gch : rgs CH 3600 0 1114111) (gsn : rgs SN 6 0 12500) (gcc : rgs CC 6 0 600) (gro : rgs RO 40000 0 12499) (gwp : rgs WP 300 0 4199) (gwd : rgs WD 300 0 31) (gwt : rgs WT 300 0 39968) (gwg : rgs WG 300 0 39968) (gws : rgs WS 300 0 4300) (jka : tka T W CA CM SM SA RL RH CL CH (12500 * m_slot) (SN m_slot) m_slot (CC m_slot) ns) (jss : sas SA SM ns) (cst : 0 ≤ m_rowMany ∧ m_rowMany ≤ 1250 ∧ 0 ≤ (SN m_slot) ∧ (SN m_slot) ≤ 12500 ∧ 0 ≤ ns ∧ ns ≤ 2100) (cw : 0 ≤ w ∧ m_work = w + 1 ∧ w < 299) (cx : 0 ≤ WP w ∧ WP w < nd ∧ 0 ≤ nd ∧ nd ≤ 4200 ∧ 0 ≤ WD w ∧ WD w ≤ 31 ∧ 0 ≤ WT w ∧ WT w + 32 ≤ 32 * m_rowMany) (ck : K (WP w) = 6) (cfi : 0 ≤ Fi (WP w) ∧ Fi (WP w) < nd) (cof : 0 ≤ O (WP w) ∧ O (WP w) ≤ 9) (cs0 : WS w = 1) (cnum : 0 < O (WP w)) (jgo : rokk RO m_got (WD w + 1) (SN m_slot)) (cgo : 0 ≤ m_got ∧ m_got + 32 ≤ 32 * m_rowMany) (crs : m_rowMany ≤ 1249 ∧ (SN m_slot) + WD w + 1 ≤ 12500) (czz : 1 ≤ Z (WP w)) (hd : 5 ≤ d) : ab_F X d y_MO_go (.code y_MO_go b_MO_go 4 none) [vR 80, vz w] G (fun oc G2 => ∃ g2 : Int, ∃ WP2 : Int → Int, ∃ WD2 : Int → Int, ∃ WT2 : Int → Int, ∃ WG2 : Int → Int, ∃ WS2 : Int → Int, ∃ RO2 : Int → Int, ∃ T2 : Int → Int, ∃ N2 : Int → Int, ∃ W2 : Int → Int, ∃ SN2 : Int → Int, oc = .returned none ∧ fx o o [280, 328, 329, 330, 331, 332, 333, 318, 319, 320, 317] G G2 ∧ G2.length = G.length ∧ ab_slots G2 = ab_slots G ∧ cc o G2 80 280 (ab_ob 12 (mof m_thrown m_taped m_length m_out m_wide m_gathered m_sets m_ranges m_nodes m_at m_flags m_fault m_place m_numbered m_depth m_value m_isNot m_least0 m_most0 m_slot (m_work - 1) g2 (m_rowMany + 1) m_charAt m_charWide m_trail m_isMatch m_matchGroups m_allFrom m_allBefore m_founds m_pieces m_writtenMany m_templateWide m_tooMuch)) ∧ cc o G2 128 328 (za 300 WP2) ∧ cc o G2 129 329 (za 300 WD2) ∧ cc o G2 130 330 (za 300 WT2) ∧ cc o G2 131 331 (za 300 WG2) ∧ cc o G2 132 332 (za 300 WS2) ∧ cc o G2 133 333 (za 40000 RO2) ∧ cc o G2 118 318 (za 75000 T2) ∧ cc o G2 119 319 (za 75000 N2) ∧ cc o G2 120 320 (za 75000 W2) ∧ cc o G2 117 317 (za 6 SN2) ∧ (rgs WP2 300 0 4199) ∧ (rgs WD2 300 0 31) ∧ (rgs WT2 300 0 39968) ∧ (rgs WG2 300 0 39968) ∧ (rgs WS2 300 0 4300) ∧ (fsm WP WD WT WG WS WP2 WD2 WT2 WG2 WS2 w) ∧ (g2 = (32 * m_rowMany)) ∧ (rgs RO2 40000 0 12499) ∧ (rgs T2 75000 0 6) ∧ (rgs N2 75000 (-1) 12499) ∧ (rgs W2 75000 (-1) 12499) ∧ (rgs SN2 6 0 12500) ∧ ((SN m_slot) ≤ SN2 m_slot ∧ SN2 m_slot ≤ (SN m_slot) + WD w + 1) ∧ (rsm RO RO2 (32 * m_rowMany)) ∧ (sgn T2 N2 W2 (12500 * m_slot) (SN m_slot) (SN2 m_slot)) ∧ (stx T N W CA CM T2 N2 W2 CA CM (12500 * m_slot) (SN m_slot)) ∧ (sno SN SN2 m_slot) ∧ (tka T2 W2 CA CM SM SA RL RH CL CH (12500 * m_slot) (SN2 m_slot) m_slot (CC m_slot) ns) ∧ (rokk RO2 (32 * m_rowMany) (WD w + 1) (SN2 m_slot)) ∧ (rE T2 N2 W2 RO2 m_slot (SN m_slot) (SN2 m_slot) (32 * m_rowMany) (WD w + 1) 4 (fun i => RO (m_got + i)) (fun _ => 2 * O (WP w)))) := by
  refine ab_F_of (by decide +kernel) (Nat.le_of_ble_eq_true rfl) ?_
  obtain ⟨Q, hQ⟩ : ∃ z : Outcome → ab_G → Prop, z = (fun oc G2 => ∃ g2 : Int, ∃ WP2 : Int → Int, ∃ WD2 : Int → Int, ∃ WT2 : Int → Int, ∃ WG2 : Int → Int, ∃ WS2 : Int → Int, ∃ RO2 : Int → Int, ∃ T2 : Int → Int, ∃ N2 : Int → Int, ∃ W2 : Int → Int, ∃ SN2 : Int → Int, oc = .returned none ∧ fx o o [280, 328, 329, 330, 331, 332, 333, 318, 319, 320, 317] G G2 ∧ G2.length = G.length ∧ ab_slots G2 = ab_slots G ∧ cc o G2 80 280 (ab_ob 12 (mof m_thrown m_taped m_length m_out m_wide m_gathered m_sets m_ranges m_nodes m_at m_flags m_fault m_place m_numbered m_depth m_value m_isNot m_least0 m_most0 m_slot (m_work - 1) g2 (m_rowMany + 1) m_charAt m_charWide m_trail m_isMatch m_matchGroups m_allFrom m_allBefore m_founds m_pieces m_writtenMany m_templateWide m_tooMuch)) ∧ cc o G2 128 328 (za 300 WP2) ∧ cc o G2 129 329 (za 300 WD2) ∧ cc o G2 130 330 (za 300 WT2) ∧ cc o G2 131 331 (za 300 WG2) ∧ cc o G2 132 332 (za 300 WS2) ∧ cc o G2 133 333 (za 40000 RO2) ∧ cc o G2 118 318 (za 75000 T2) ∧ cc o G2 119 319 (za 75000 N2) ∧ cc o G2 120 320 (za 75000 W2) ∧ cc o G2 117 317 (za 6 SN2) ∧ (rgs WP2 300 0 4199) ∧ (rgs WD2 300 0 31) ∧ (rgs WT2 300 0 39968) ∧ (rgs WG2 300 0 39968) ∧ (rgs WS2 300 0 4300) ∧ (fsm WP WD WT WG WS WP2 WD2 WT2 WG2 WS2 w) ∧ (g2 = (32 * m_rowMany)) ∧ (rgs RO2 40000 0 12499) ∧ (rgs T2 75000 0 6) ∧ (rgs N2 75000 (-1) 12499) ∧ (rgs W2 75000 (-1) 12499) ∧ (rgs SN2 6 0 12500) ∧ ((SN m_slot) ≤ SN2 m_slot ∧ SN2 m_slot ≤ (SN m_slot) + WD w + 1) ∧ (rsm RO RO2 (32 * m_rowMany)) ∧ (sgn T2 N2 W2 (12500 * m_slot) (SN m_slot) (SN2 m_slot)) ∧ (stx T N W CA CM T2 N2 W2 CA CM (12500 * m_slot) (SN m_slot)) ∧ (sno SN SN2 m_slot) ∧ (tka T2 W2 CA CM SM SA RL RH CL CH (12500 * m_slot) (SN2 m_slot) m_slot (CC m_slot) ns) ∧ (rokk RO2 (32 * m_rowMany) (WD w + 1) (SN2 m_slot)) ∧ (rE T2 N2 W2 RO2 m_slot (SN m_slot) (SN2 m_slot) (32 * m_rowMany) (WD w + 1) 4 (fun i => RO (m_got + i)) (fun _ => 2 * O (WP w)))) := ⟨_, rfl⟩
  rw [← hQ]
  change ab_W X (ab_pl y_MO_go b_MO_go 4 none) d G 0 [some (vR 80), some (vz w), none, none] [] Q
  have hfr : fx o o [280, 328, 329, 330, 331, 332, 333, 318, 319, 320, 317] G G := fx.rf
  have hlen : G.length = G.length := rfl
  have hsl : ab_slots G = ab_slots G := rfl
  refine ab_aload_n d_MO_go_0 rfl ?_
  refine ab_getf (fs := mof m_thrown m_taped m_length m_out m_wide m_gathered m_sets m_ranges m_nodes m_at m_flags m_fault m_place m_numbered m_depth m_value m_isNot m_least0 m_most0 m_slot m_work m_got m_rowMany m_charAt m_charWide m_trail m_isMatch m_matchGroups m_allFrom m_allBefore m_founds m_pieces m_writtenMany m_templateWide m_tooMuch) f_MO_158 d_MO_go_1 h80.2.2 rfl ?_
  refine ab_iload_n d_MO_go_4 rfl ?_
  refine zz_iald d_MO_go_5 h128 (by omega) ?_
  have hq1 := gwp w (by omega) (by omega)
  refine ab_istore_n d_MO_go_6 (Nat.le_of_ble_eq_true rfl) (Nat.le_of_ble_eq_true rfl) rfl ?_
  change ab_W _ _ _ G 7 [some (vR 80), some (vz w), some (vz (WP w)), none] [] _
  refine ab_aload_n d_MO_go_7 rfl ?_
  refine ab_getf (fs := mof m_thrown m_taped m_length m_out m_wide m_gathered m_sets m_ranges m_nodes m_at m_flags m_fault m_place m_numbered m_depth m_value m_isNot m_least0 m_most0 m_slot m_work m_got m_rowMany m_charAt m_charWide m_trail m_isMatch m_matchGroups m_allFrom m_allBefore m_founds m_pieces m_writtenMany m_templateWide m_tooMuch) f_MO_161 d_MO_go_8 h80.2.2 rfl ?_
  refine ab_iload_n d_MO_go_11 rfl ?_
  refine zz_iald d_MO_go_12 h129 (by omega) ?_
  have hq2 := gwd w (by omega) (by omega)
  refine ab_istore_n d_MO_go_13 (Nat.le_of_ble_eq_true rfl) (Nat.le_of_ble_eq_true rfl) rfl ?_
  change ab_W _ _ _ G 14 [some (vR 80), some (vz w), some (vz (WP w)), some (vz (WD w))] [] _
  refine ab_aload_n d_MO_go_14 rfl ?_
  refine ab_getf (fs := mof m_thrown m_taped m_length m_out m_wide m_gathered m_sets m_ranges m_nodes m_at m_flags m_fault m_place m_numbered m_depth m_value m_isNot m_least0 m_most0 m_slot m_work m_got m_rowMany m_charAt m_charWide m_trail m_isMatch m_matchGroups m_allFrom m_allBefore m_founds m_pieces m_writtenMany m_templateWide m_tooMuch) f_MO_68 d_MO_go_15 h80.2.2 rfl ?_
  refine ab_iload_n d_MO_go_18 rfl ?_
  refine zz_lald d_MO_go_19 h100 (by omega) ?_
  have hq3 := jz (WP w) (by omega) (by omega)
  refine zz_lconst d_MO_go_20 ?_
  change ab_W _ _ _ G 21 [some (vR 80), some (vz w), some (vz (WP w)), some (vz (WD w))] [vj 0, vj (Z (WP w))] _
  refine zz_lcmp d_MO_go_21 (by omega) (by omega) (fun c4a => by exfalso; omega) (fun c4a c4b => by exfalso; omega) (fun c4a => ?_)
  · refine zz_if_ne (tgt := 36) d_MO_go_22 (by decide) (by decide) (fun c5 => ?_) (fun c5 => absurd c5 (by decide))
    refine ab_aload_n d_MO_go_36 rfl ?_
    refine ab_getf (fs := mof m_thrown m_taped m_length m_out m_wide m_gathered m_sets m_ranges m_nodes m_at m_flags m_fault m_place m_numbered m_depth m_value m_isNot m_least0 m_most0 m_slot m_work m_got m_rowMany m_charAt m_charWide m_trail m_isMatch m_matchGroups m_allFrom m_allBefore m_founds m_pieces m_writtenMany m_templateWide m_tooMuch) f_MO_50 d_MO_go_37 h80.2.2 rfl ?_
    refine ab_iload_n d_MO_go_40 rfl ?_
    refine zz_iald d_MO_go_41 h94 (by omega) ?_
    have hq6 := jk (WP w) (by omega) (by omega)
    refine zz_top (y := 6) (by omega) ?_
    change ab_W _ _ _ G 42 [some (vR 80), some (vz w), some (vz (WP w)), some (vz (WD w))] [vz 6] _
    refine zz_tableIn (off := 145) (tgt := 187) d_MO_go_42 (by decide) (by decide) (by decide) (by decide) (by decide) ?_
    refine ab_aload_n d_MO_go_187 rfl ?_
    refine ab_iload_n d_MO_go_188 rfl ?_
    refine ab_callV (d' := d - 1) (as := [vz w]) (st := []) (r := _) (z_MO_goGroup_1p (o := o) (m_thrown := m_thrown) (m_taped := m_taped) (m_length := m_length) (m_out := m_out) (m_wide := m_wide) (m_gathered := m_gathered) (m_sets := m_sets) (m_ranges := m_ranges) (m_nodes := m_nodes) (m_at := m_at) (m_flags := m_flags) (m_fault := m_fault) (m_place := m_place) (m_numbered := m_numbered) (m_depth := m_depth) (m_value := m_value) (m_isNot := m_isNot) (m_least0 := m_least0) (m_most0 := m_most0) (m_slot := m_slot) (m_work := m_work) (m_got := m_got) (m_rowMany := m_rowMany) (m_charAt := m_charAt) (m_charWide := m_charWide) (m_trail := m_trail) (m_isMatch := m_isMatch) (m_matchGroups := m_matchGroups) (m_allFrom := m_allFrom) (m_allBefore := m_allBefore) (m_founds := m_founds) (m_pieces := m_pieces) (m_writtenMany := m_writtenMany) (m_templateWide := m_templateWide) (m_tooMuch := m_tooMuch) (T := T) (N := N) (W := W) (CA := CA) (CM := CM) (CL := CL) (CH := CH) (SN := SN) (CC := CC) (RO := RO) (WP := WP) (WD := WD) (WT := WT) (WG := WG) (WS := WS) (K := K) (O := O) (Fi := Fi) (Be := Be) (Le := Le) (Mo := Mo) (Z := Z) (LZ := LZ) (SM := SM) (SA := SA) (RL := RL) (RH := RH) (w := w) (ns := ns) (nd := nd) h80 h94 h95 h96 h97 h98 h99 h100 h101 h90 h89 h91 h92 h118 h119 h120 h121 h122 h123 h124 h117 h125 h133 h128 h129 h130 h131 h132 (by omega) (by omega) jrl jrh jk jo jfi jbe jle jmo jz jlz jsm jsa gt gn gw gca gcm gcl gch gsn gcc gro gwp gwd gwt gwg gws jka jss (by omega) (by omega) (by omega) (by omega) (by omega) (by omega) (by omega) (by omega) jgo (by omega) (by omega) (by omega)) (fun oc G2 h => by rcases h with ⟨_, _, _, _, _, _, _, _, _, _, _, h, _⟩ <;> exact ⟨_, h⟩) (by omega) m_MO_goGroup ml_MO_495 im_MO_goGroup se_MO_goGroup c_MO h80.2.2 (Nat.le_of_ble_eq_true rfl) d_MO_go_189 rfl ?_
    intro v G8 hq
    rcases hq with ⟨g29, WP210, WD211, WT212, WG213, WS214, RO215, T216, N217, W218, SN219, hv, hfk, hlk, hsk, hN80, hN128, hN129, hN130, hN131, hN132, hN133, hN118, hN119, hN120, hN117, hq20, hq21, hq22, hq23, hq24, hq25, hq26, hq27, hq28, hq29, hq30, hq31, hq32, hq33, hq34, hq35, hq36, hq37, hq38, hq39⟩
    cases hv
    have h94 := hfk.get h94 (by decide)
    have h95 := hfk.get h95 (by decide)
    have h96 := hfk.get h96 (by decide)
    have h97 := hfk.get h97 (by decide)
    have h98 := hfk.get h98 (by decide)
    have h99 := hfk.get h99 (by decide)
    have h100 := hfk.get h100 (by decide)
    have h101 := hfk.get h101 (by decide)
    have h90 := hfk.get h90 (by decide)
    have h89 := hfk.get h89 (by decide)
    have h91 := hfk.get h91 (by decide)
    have h92 := hfk.get h92 (by decide)
    have h121 := hfk.get h121 (by decide)
    have h122 := hfk.get h122 (by decide)
    have h123 := hfk.get h123 (by decide)
    have h124 := hfk.get h124 (by decide)
    have h125 := hfk.get h125 (by decide)
    have hfr := hfr.tr hfk (by decide)
    have hlen := hlk.trans hlen
    have hsl := hsk.trans hsl
    have h80 := hN80
    have h128 := hN128
    have h129 := hN129
    have h130 := hN130
    have h131 := hN131
    have h132 := hN132
    have h133 := hN133
    have h118 := hN118
    have h119 := hN119
    have h120 := hN120
    have h117 := hN117
    change ab_W _ _ _ G8 192 [some (vR 80), some (vz w), some (vz (WP w)), some (vz (WD w))] [] _
    refine ab_goto (tgt := 200) d_MO_go_192 (by decide) ?_
    refine ab_vret rfl d_MO_go_200 ?_
    rw [hQ]; exact ⟨_, _, _, _, _, _, _, _, _, _, _, rfl, hfr, hlen, hsl, h80, h128, h129, h130, h131, h132, h133, h118, h119, h120, h117, (by first | exact hq20 | exact rgs_w hq20 (by omega)), (by first | exact hq21 | exact rgs_w hq21 (by omega)), (by first | exact hq22 | exact rgs_w hq22 (by omega)), (by first | exact hq23 | exact rgs_w hq23 (by omega)), (by first | exact hq24 | exact rgs_w hq24 (by omega)), (by assumption), (by assumption), (by first | exact hq27 | exact rgs_w hq27 (by omega)), (by first | exact hq28 | exact rgs_w hq28 (by omega)), (by first | exact hq29 | exact rgs_w hq29 (by omega)), (by first | exact hq30 | exact rgs_w hq30 (by omega)), (by first | exact hq31 | exact rgs_w hq31 (by omega)), (by omega), (by assumption), (by assumption), (by assumption), (by assumption), (by assumption), (by assumption), (by assumption)⟩
set_option maxRecDepth 100000 in
set_option maxHeartbeats 4000000 in
theorem z_MO_go_Group_1z {X : ab_X} {d : Nat} {o : Nat → Nat} {G : ab_G} {m_thrown : Int} {m_taped : Int} {m_length : Int} {m_out : Int} {m_wide : Int} {m_gathered : Int} {m_sets : Int} {m_ranges : Int} {m_nodes : Int} {m_at : Int} {m_flags : Int} {m_fault : Int} {m_place : Int} {m_numbered : Int} {m_depth : Int} {m_value : Int} {m_isNot : Int} {m_least0 : Int} {m_most0 : Int} {m_slot : Int} {m_work : Int} {m_got : Int} {m_rowMany : Int} {m_charAt : Int} {m_charWide : Int} {m_trail : Int} {m_isMatch : Int} {m_matchGroups : Int} {m_allFrom : Int} {m_allBefore : Int} {m_founds : Int} {m_pieces : Int} {m_writtenMany : Int} {m_templateWide : Int} {m_tooMuch : Int} {T : Int → Int} {N : Int → Int} {W : Int → Int} {CA : Int → Int} {CM : Int → Int} {CL : Int → Int} {CH : Int → Int} {SN : Int → Int} {CC : Int → Int} {RO : Int → Int} {WP : Int → Int} {WD : Int → Int} {WT : Int → Int} {WG : Int → Int} {WS : Int → Int} {K : Int → Int} {O : Int → Int} {Fi : Int → Int} {Be : Int → Int} {Le : Int → Int} {Mo : Int → Int} {Z : Int → Int} {LZ : Int → Int} {SM : Int → Int} {SA : Int → Int} {RL : Int → Int} {RH : Int → Int} {w : Int} {ns : Int} {nd : Int} (h80 : cc o G 80 280 (ab_ob 12 (mof m_thrown m_taped m_length m_out m_wide m_gathered m_sets m_ranges m_nodes m_at m_flags m_fault m_place m_numbered m_depth m_value m_isNot m_least0 m_most0 m_slot m_work m_got m_rowMany m_charAt m_charWide m_trail m_isMatch m_matchGroups m_allFrom m_allBefore m_founds m_pieces m_writtenMany m_templateWide m_tooMuch))) (h94 : cc o G 94 294 (za 4200 K)) (h95 : cc o G 95 295 (za 4200 O)) (h96 : cc o G 96 296 (za 4200 Fi)) (h97 : cc o G 97 297 (za 4200 Be)) (h98 : cc o G 98 298 (za 4200 Le)) (h99 : cc o G 99 299 (za 4200 Mo)) (h100 : cc o G 100 300 (zl 4200 Z)) (h101 : cc o G 101 301 (zb 4200 LZ)) (h90 : cc o G 90 290 (za 2100 SM)) (h89 : cc o G 89 289 (za 2100 SA)) (h91 : cc o G 91 291 (za 24000 RL)) (h92 : cc o G 92 292 (za 24000 RH)) (h118 : cc o G 118 318 (za 75000 T)) (h119 : cc o G 119 319 (za 75000 N)) (h120 : cc o G 120 320 (za 75000 W)) (h121 : cc o G 121 321 (za 75000 CA)) (h122 : cc o G 122 322 (za 75000 CM)) (h123 : cc o G 123 323 (za 3600 CL)) (h124 : cc o G 124 324 (za 3600 CH)) (h117 : cc o G 117 317 (za 6 SN)) (h125 : cc o G 125 325 (za 6 CC)) (h133 : cc o G 133 333 (za 40000 RO)) (h128 : cc o G 128 328 (za 300 WP)) (h129 : cc o G 129 329 (za 300 WD)) (h130 : cc o G 130 330 (za 300 WT)) (h131 : cc o G 131 331 (za 300 WG)) (h132 : cc o G 132 332 (za 300 WS)) (n18 : ab_n0 = 18) (csl : 0 ≤ m_slot ∧ m_slot ≤ 5) (jrl : rgs RL 24000 0 1114111) (jrh : rgs RH 24000 0 1114111) (jk : rgs K 4200 0 7) (jo : rgs O 4200 (-1) 3000) (jfi : rgs Fi 4200 (-1) 4199) (jbe : rgs Be 4200 (-1) 4199) (jle : rgs Le 4200 0 1000) (jmo : rgs Mo 4200 (-1) 1000) (jz : rgs Z 4200 (-1) 1000000000000) (jlz : rgs LZ 4200 0 1) (jsm : rgs SM 2100 0 24000) (jsa : rgs SA 2100 0 24000) (gt : rgs T 75000 0 6) (gn : rgs N 75000 (-1) 12499) (gw : rgs W 75000 (-1) 12499) (gca : rgs CA 75000 0 3600) (gcm : rgs CM 75000 0 24000) (gcl : rgs CL 3600 0 1114111) (gch : rgs CH 3600 0 1114111) (gsn : rgs SN 6 0 12500) (gcc : rgs CC 6 0 600) (gro : rgs RO 40000 0 12499) (gwp : rgs WP 300 0 4199) (gwd : rgs WD 300 0 31) (gwt : rgs WT 300 0 39968) (gwg : rgs WG 300 0 39968) (gws : rgs WS 300 0 4300) (jka : tka T W CA CM SM SA RL RH CL CH (12500 * m_slot) (SN m_slot) m_slot (CC m_slot) ns) (jss : sas SA SM ns) (cst : 0 ≤ m_rowMany ∧ m_rowMany ≤ 1250 ∧ 0 ≤ (SN m_slot) ∧ (SN m_slot) ≤ 12500 ∧ 0 ≤ ns ∧ ns ≤ 2100) (cw : 0 ≤ w ∧ m_work = w + 1 ∧ w < 299) (cx : 0 ≤ WP w ∧ WP w < nd ∧ 0 ≤ nd ∧ nd ≤ 4200 ∧ 0 ≤ WD w ∧ WD w ≤ 31 ∧ 0 ≤ WT w ∧ WT w + 32 ≤ 32 * m_rowMany) (ck : K (WP w) = 6) (cfi : 0 ≤ Fi (WP w) ∧ Fi (WP w) < nd) (cof : 0 ≤ O (WP w) ∧ O (WP w) ≤ 9) (cs0 : WS w = 1) (cnum : O (WP w) = 0) (czz : 1 ≤ Z (WP w)) (hd : 5 ≤ d) : ab_F X d y_MO_go (.code y_MO_go b_MO_go 4 none) [vR 80, vz w] G (fun oc G2 => ∃ g2 : Int, ∃ WP2 : Int → Int, ∃ WD2 : Int → Int, ∃ WT2 : Int → Int, ∃ WG2 : Int → Int, ∃ WS2 : Int → Int, oc = .returned none ∧ fx o o [280, 328, 329, 330, 331, 332] G G2 ∧ G2.length = G.length ∧ ab_slots G2 = ab_slots G ∧ cc o G2 80 280 (ab_ob 12 (mof m_thrown m_taped m_length m_out m_wide m_gathered m_sets m_ranges m_nodes m_at m_flags m_fault m_place m_numbered m_depth m_value m_isNot m_least0 m_most0 m_slot (m_work - 1) g2 m_rowMany m_charAt m_charWide m_trail m_isMatch m_matchGroups m_allFrom m_allBefore m_founds m_pieces m_writtenMany m_templateWide m_tooMuch)) ∧ cc o G2 128 328 (za 300 WP2) ∧ cc o G2 129 329 (za 300 WD2) ∧ cc o G2 130 330 (za 300 WT2) ∧ cc o G2 131 331 (za 300 WG2) ∧ cc o G2 132 332 (za 300 WS2) ∧ (rgs WP2 300 0 4199) ∧ (rgs WD2 300 0 31) ∧ (rgs WT2 300 0 39968) ∧ (rgs WG2 300 0 39968) ∧ (rgs WS2 300 0 4300) ∧ (fsm WP WD WT WG WS WP2 WD2 WT2 WG2 WS2 w) ∧ (g2 = m_got)) := by
  refine ab_F_of (by decide +kernel) (Nat.le_of_ble_eq_true rfl) ?_
  obtain ⟨Q, hQ⟩ : ∃ z : Outcome → ab_G → Prop, z = (fun oc G2 => ∃ g2 : Int, ∃ WP2 : Int → Int, ∃ WD2 : Int → Int, ∃ WT2 : Int → Int, ∃ WG2 : Int → Int, ∃ WS2 : Int → Int, oc = .returned none ∧ fx o o [280, 328, 329, 330, 331, 332] G G2 ∧ G2.length = G.length ∧ ab_slots G2 = ab_slots G ∧ cc o G2 80 280 (ab_ob 12 (mof m_thrown m_taped m_length m_out m_wide m_gathered m_sets m_ranges m_nodes m_at m_flags m_fault m_place m_numbered m_depth m_value m_isNot m_least0 m_most0 m_slot (m_work - 1) g2 m_rowMany m_charAt m_charWide m_trail m_isMatch m_matchGroups m_allFrom m_allBefore m_founds m_pieces m_writtenMany m_templateWide m_tooMuch)) ∧ cc o G2 128 328 (za 300 WP2) ∧ cc o G2 129 329 (za 300 WD2) ∧ cc o G2 130 330 (za 300 WT2) ∧ cc o G2 131 331 (za 300 WG2) ∧ cc o G2 132 332 (za 300 WS2) ∧ (rgs WP2 300 0 4199) ∧ (rgs WD2 300 0 31) ∧ (rgs WT2 300 0 39968) ∧ (rgs WG2 300 0 39968) ∧ (rgs WS2 300 0 4300) ∧ (fsm WP WD WT WG WS WP2 WD2 WT2 WG2 WS2 w) ∧ (g2 = m_got)) := ⟨_, rfl⟩
  rw [← hQ]
  change ab_W X (ab_pl y_MO_go b_MO_go 4 none) d G 0 [some (vR 80), some (vz w), none, none] [] Q
  have hfr : fx o o [280, 328, 329, 330, 331, 332] G G := fx.rf
  have hlen : G.length = G.length := rfl
  have hsl : ab_slots G = ab_slots G := rfl
  refine ab_aload_n d_MO_go_0 rfl ?_
  refine ab_getf (fs := mof m_thrown m_taped m_length m_out m_wide m_gathered m_sets m_ranges m_nodes m_at m_flags m_fault m_place m_numbered m_depth m_value m_isNot m_least0 m_most0 m_slot m_work m_got m_rowMany m_charAt m_charWide m_trail m_isMatch m_matchGroups m_allFrom m_allBefore m_founds m_pieces m_writtenMany m_templateWide m_tooMuch) f_MO_158 d_MO_go_1 h80.2.2 rfl ?_
  refine ab_iload_n d_MO_go_4 rfl ?_
  refine zz_iald d_MO_go_5 h128 (by omega) ?_
  have hq1 := gwp w (by omega) (by omega)
  refine ab_istore_n d_MO_go_6 (Nat.le_of_ble_eq_true rfl) (Nat.le_of_ble_eq_true rfl) rfl ?_
  change ab_W _ _ _ G 7 [some (vR 80), some (vz w), some (vz (WP w)), none] [] _
  refine ab_aload_n d_MO_go_7 rfl ?_
  refine ab_getf (fs := mof m_thrown m_taped m_length m_out m_wide m_gathered m_sets m_ranges m_nodes m_at m_flags m_fault m_place m_numbered m_depth m_value m_isNot m_least0 m_most0 m_slot m_work m_got m_rowMany m_charAt m_charWide m_trail m_isMatch m_matchGroups m_allFrom m_allBefore m_founds m_pieces m_writtenMany m_templateWide m_tooMuch) f_MO_161 d_MO_go_8 h80.2.2 rfl ?_
  refine ab_iload_n d_MO_go_11 rfl ?_
  refine zz_iald d_MO_go_12 h129 (by omega) ?_
  have hq2 := gwd w (by omega) (by omega)
  refine ab_istore_n d_MO_go_13 (Nat.le_of_ble_eq_true rfl) (Nat.le_of_ble_eq_true rfl) rfl ?_
  change ab_W _ _ _ G 14 [some (vR 80), some (vz w), some (vz (WP w)), some (vz (WD w))] [] _
  refine ab_aload_n d_MO_go_14 rfl ?_
  refine ab_getf (fs := mof m_thrown m_taped m_length m_out m_wide m_gathered m_sets m_ranges m_nodes m_at m_flags m_fault m_place m_numbered m_depth m_value m_isNot m_least0 m_most0 m_slot m_work m_got m_rowMany m_charAt m_charWide m_trail m_isMatch m_matchGroups m_allFrom m_allBefore m_founds m_pieces m_writtenMany m_templateWide m_tooMuch) f_MO_68 d_MO_go_15 h80.2.2 rfl ?_
  refine ab_iload_n d_MO_go_18 rfl ?_
  refine zz_lald d_MO_go_19 h100 (by omega) ?_
  have hq3 := jz (WP w) (by omega) (by omega)
  refine zz_lconst d_MO_go_20 ?_
  change ab_W _ _ _ G 21 [some (vR 80), some (vz w), some (vz (WP w)), some (vz (WD w))] [vj 0, vj (Z (WP w))] _
  refine zz_lcmp d_MO_go_21 (by omega) (by omega) (fun c4a => by exfalso; omega) (fun c4a c4b => by exfalso; omega) (fun c4a => ?_)
  · refine zz_if_ne (tgt := 36) d_MO_go_22 (by decide) (by decide) (fun c5 => ?_) (fun c5 => absurd c5 (by decide))
    refine ab_aload_n d_MO_go_36 rfl ?_
    refine ab_getf (fs := mof m_thrown m_taped m_length m_out m_wide m_gathered m_sets m_ranges m_nodes m_at m_flags m_fault m_place m_numbered m_depth m_value m_isNot m_least0 m_most0 m_slot m_work m_got m_rowMany m_charAt m_charWide m_trail m_isMatch m_matchGroups m_allFrom m_allBefore m_founds m_pieces m_writtenMany m_templateWide m_tooMuch) f_MO_50 d_MO_go_37 h80.2.2 rfl ?_
    refine ab_iload_n d_MO_go_40 rfl ?_
    refine zz_iald d_MO_go_41 h94 (by omega) ?_
    have hq6 := jk (WP w) (by omega) (by omega)
    refine zz_top (y := 6) (by omega) ?_
    change ab_W _ _ _ G 42 [some (vR 80), some (vz w), some (vz (WP w)), some (vz (WD w))] [vz 6] _
    refine zz_tableIn (off := 145) (tgt := 187) d_MO_go_42 (by decide) (by decide) (by decide) (by decide) (by decide) ?_
    refine ab_aload_n d_MO_go_187 rfl ?_
    refine ab_iload_n d_MO_go_188 rfl ?_
    refine ab_callV (d' := d - 1) (as := [vz w]) (st := []) (r := _) (z_MO_goGroup_1z (o := o) (m_thrown := m_thrown) (m_taped := m_taped) (m_length := m_length) (m_out := m_out) (m_wide := m_wide) (m_gathered := m_gathered) (m_sets := m_sets) (m_ranges := m_ranges) (m_nodes := m_nodes) (m_at := m_at) (m_flags := m_flags) (m_fault := m_fault) (m_place := m_place) (m_numbered := m_numbered) (m_depth := m_depth) (m_value := m_value) (m_isNot := m_isNot) (m_least0 := m_least0) (m_most0 := m_most0) (m_slot := m_slot) (m_work := m_work) (m_got := m_got) (m_rowMany := m_rowMany) (m_charAt := m_charAt) (m_charWide := m_charWide) (m_trail := m_trail) (m_isMatch := m_isMatch) (m_matchGroups := m_matchGroups) (m_allFrom := m_allFrom) (m_allBefore := m_allBefore) (m_founds := m_founds) (m_pieces := m_pieces) (m_writtenMany := m_writtenMany) (m_templateWide := m_templateWide) (m_tooMuch := m_tooMuch) (T := T) (N := N) (W := W) (CA := CA) (CM := CM) (CL := CL) (CH := CH) (SN := SN) (CC := CC) (RO := RO) (WP := WP) (WD := WD) (WT := WT) (WG := WG) (WS := WS) (K := K) (O := O) (Fi := Fi) (Be := Be) (Le := Le) (Mo := Mo) (Z := Z) (LZ := LZ) (SM := SM) (SA := SA) (RL := RL) (RH := RH) (w := w) (ns := ns) (nd := nd) h80 h94 h95 h96 h97 h98 h99 h100 h101 h90 h89 h91 h92 h118 h119 h120 h121 h122 h123 h124 h117 h125 h133 h128 h129 h130 h131 h132 (by omega) (by omega) jrl jrh jk jo jfi jbe jle jmo jz jlz jsm jsa gt gn gw gca gcm gcl gch gsn gcc gro gwp gwd gwt gwg gws jka jss (by omega) (by omega) (by omega) (by omega) (by omega) (by omega) (by omega) (by omega) (by omega)) (fun oc G2 h => by rcases h with ⟨_, _, _, _, _, _, h, _⟩ <;> exact ⟨_, h⟩) (by omega) m_MO_goGroup ml_MO_495 im_MO_goGroup se_MO_goGroup c_MO h80.2.2 (Nat.le_of_ble_eq_true rfl) d_MO_go_189 rfl ?_
    intro v G8 hq
    rcases hq with ⟨g29, WP210, WD211, WT212, WG213, WS214, hv, hfk, hlk, hsk, hN80, hN128, hN129, hN130, hN131, hN132, hq15, hq16, hq17, hq18, hq19, hq20, hq21⟩
    cases hv
    have h94 := hfk.get h94 (by decide)
    have h95 := hfk.get h95 (by decide)
    have h96 := hfk.get h96 (by decide)
    have h97 := hfk.get h97 (by decide)
    have h98 := hfk.get h98 (by decide)
    have h99 := hfk.get h99 (by decide)
    have h100 := hfk.get h100 (by decide)
    have h101 := hfk.get h101 (by decide)
    have h90 := hfk.get h90 (by decide)
    have h89 := hfk.get h89 (by decide)
    have h91 := hfk.get h91 (by decide)
    have h92 := hfk.get h92 (by decide)
    have h118 := hfk.get h118 (by decide)
    have h119 := hfk.get h119 (by decide)
    have h120 := hfk.get h120 (by decide)
    have h121 := hfk.get h121 (by decide)
    have h122 := hfk.get h122 (by decide)
    have h123 := hfk.get h123 (by decide)
    have h124 := hfk.get h124 (by decide)
    have h117 := hfk.get h117 (by decide)
    have h125 := hfk.get h125 (by decide)
    have h133 := hfk.get h133 (by decide)
    have hfr := hfr.tr hfk (by decide)
    have hlen := hlk.trans hlen
    have hsl := hsk.trans hsl
    have h80 := hN80
    have h128 := hN128
    have h129 := hN129
    have h130 := hN130
    have h131 := hN131
    have h132 := hN132
    change ab_W _ _ _ G8 192 [some (vR 80), some (vz w), some (vz (WP w)), some (vz (WD w))] [] _
    refine ab_goto (tgt := 200) d_MO_go_192 (by decide) ?_
    refine ab_vret rfl d_MO_go_200 ?_
    rw [hQ]; exact ⟨_, _, _, _, _, _, rfl, hfr, hlen, hsl, h80, h128, h129, h130, h131, h132, (by first | exact hq15 | exact rgs_w hq15 (by omega)), (by first | exact hq16 | exact rgs_w hq16 (by omega)), (by first | exact hq17 | exact rgs_w hq17 (by omega)), (by first | exact hq18 | exact rgs_w hq18 (by omega)), (by first | exact hq19 | exact rgs_w hq19 (by omega)), (by assumption), (by assumption)⟩
set_option maxRecDepth 100000 in
set_option maxHeartbeats 4000000 in
theorem z_MO_go_Repeat_o {X : ab_X} {d : Nat} {o : Nat → Nat} {G : ab_G} {m_thrown : Int} {m_taped : Int} {m_length : Int} {m_out : Int} {m_wide : Int} {m_gathered : Int} {m_sets : Int} {m_ranges : Int} {m_nodes : Int} {m_at : Int} {m_flags : Int} {m_fault : Int} {m_place : Int} {m_numbered : Int} {m_depth : Int} {m_value : Int} {m_isNot : Int} {m_least0 : Int} {m_most0 : Int} {m_slot : Int} {m_work : Int} {m_got : Int} {m_rowMany : Int} {m_charAt : Int} {m_charWide : Int} {m_trail : Int} {m_isMatch : Int} {m_matchGroups : Int} {m_allFrom : Int} {m_allBefore : Int} {m_founds : Int} {m_pieces : Int} {m_writtenMany : Int} {m_templateWide : Int} {m_tooMuch : Int} {T : Int → Int} {N : Int → Int} {W : Int → Int} {CA : Int → Int} {CM : Int → Int} {CL : Int → Int} {CH : Int → Int} {SN : Int → Int} {CC : Int → Int} {RO : Int → Int} {WP : Int → Int} {WD : Int → Int} {WT : Int → Int} {WG : Int → Int} {WS : Int → Int} {K : Int → Int} {O : Int → Int} {Fi : Int → Int} {Be : Int → Int} {Le : Int → Int} {Mo : Int → Int} {Z : Int → Int} {LZ : Int → Int} {SM : Int → Int} {SA : Int → Int} {RL : Int → Int} {RH : Int → Int} {w : Int} {ns : Int} {nd : Int} (h80 : cc o G 80 280 (ab_ob 12 (mof m_thrown m_taped m_length m_out m_wide m_gathered m_sets m_ranges m_nodes m_at m_flags m_fault m_place m_numbered m_depth m_value m_isNot m_least0 m_most0 m_slot m_work m_got m_rowMany m_charAt m_charWide m_trail m_isMatch m_matchGroups m_allFrom m_allBefore m_founds m_pieces m_writtenMany m_templateWide m_tooMuch))) (h94 : cc o G 94 294 (za 4200 K)) (h95 : cc o G 95 295 (za 4200 O)) (h96 : cc o G 96 296 (za 4200 Fi)) (h97 : cc o G 97 297 (za 4200 Be)) (h98 : cc o G 98 298 (za 4200 Le)) (h99 : cc o G 99 299 (za 4200 Mo)) (h100 : cc o G 100 300 (zl 4200 Z)) (h101 : cc o G 101 301 (zb 4200 LZ)) (h90 : cc o G 90 290 (za 2100 SM)) (h89 : cc o G 89 289 (za 2100 SA)) (h91 : cc o G 91 291 (za 24000 RL)) (h92 : cc o G 92 292 (za 24000 RH)) (h118 : cc o G 118 318 (za 75000 T)) (h119 : cc o G 119 319 (za 75000 N)) (h120 : cc o G 120 320 (za 75000 W)) (h121 : cc o G 121 321 (za 75000 CA)) (h122 : cc o G 122 322 (za 75000 CM)) (h123 : cc o G 123 323 (za 3600 CL)) (h124 : cc o G 124 324 (za 3600 CH)) (h117 : cc o G 117 317 (za 6 SN)) (h125 : cc o G 125 325 (za 6 CC)) (h133 : cc o G 133 333 (za 40000 RO)) (h128 : cc o G 128 328 (za 300 WP)) (h129 : cc o G 129 329 (za 300 WD)) (h130 : cc o G 130 330 (za 300 WT)) (h131 : cc o G 131 331 (za 300 WG)) (h132 : cc o G 132 332 (za 300 WS)) (n18 : ab_n0 = 18) (csl : 0 ≤ m_slot ∧ m_slot ≤ 5) (jrl : rgs RL 24000 0 1114111) (jrh : rgs RH 24000 0 1114111) (jk : rgs K 4200 0 7) (jo : rgs O 4200 (-1) 3000) (jfi : rgs Fi 4200 (-1) 4199) (jbe : rgs Be 4200 (-1) 4199) (jle : rgs Le 4200 0 1000) (jmo : rgs Mo 4200 (-1) 1000) (jz : rgs Z 4200 (-1) 1000000000000) (jlz : rgs LZ 4200 0 1) (jsm : rgs SM 2100 0 24000) (jsa : rgs SA 2100 0 24000) (gt : rgs T 75000 0 6) (gn : rgs N 75000 (-1) 12499) (gw : rgs W 75000 (-1) 12499) (gca : rgs CA 75000 0 3600) (gcm : rgs CM 75000 0 24000) (gcl : rgs CL 3600 0 1114111) (gch : rgs CH 3600 0 1114111) (gsn : rgs SN 6 0 12500) (gcc : rgs CC 6 0 600) (gro : rgs RO 40000 0 12499) (gwp : rgs WP 300 0 4199) (gwd : rgs WD 300 0 31) (gwt : rgs WT 300 0 39968) (gwg : rgs WG 300 0 39968) (gws : rgs WS 300 0 4300) (jka : tka T W CA CM SM SA RL RH CL CH (12500 * m_slot) (SN m_slot) m_slot (CC m_slot) ns) (jss : sas SA SM ns) (cst : 0 ≤ m_rowMany ∧ m_rowMany ≤ 1250 ∧ 0 ≤ (SN m_slot) ∧ (SN m_slot) ≤ 12500 ∧ 0 ≤ ns ∧ ns ≤ 2100) (cw : 0 ≤ w ∧ m_work = w + 1 ∧ w < 299) (cx : 0 ≤ WP w ∧ WP w < nd ∧ 0 ≤ nd ∧ nd ≤ 4200 ∧ 0 ≤ WD w ∧ WD w ≤ 31 ∧ 0 ≤ WT w ∧ WT w + 32 ≤ 32 * m_rowMany) (ck : K (WP w) = 7) (cfi : 0 ≤ Fi (WP w) ∧ Fi (WP w) < nd) (clm : 0 ≤ Le (WP w) ∧ Le (WP w) ≤ 100 ∧ -1 ≤ Mo (WP w) ∧ Mo (WP w) ≤ 100) (cs0 : WS w = 0) (crs : m_rowMany ≤ 1248 ∧ 2 ≤ (SN m_slot) ∧ (SN m_slot) + WD w + 1 ≤ 12500 ∧ WD w ≤ 30) (cmo : Mo (WP w) < 0) (czz : 1 ≤ Z (WP w)) (hd : 6 ≤ d) : ab_F X d y_MO_go (.code y_MO_go b_MO_go 4 none) [vR 80, vz w] G (fun oc G2 => ∃ c2 : Int, ∃ t2 : Int, ∃ u2 : Int, ∃ WP2 : Int → Int, ∃ WD2 : Int → Int, ∃ WT2 : Int → Int, ∃ WG2 : Int → Int, ∃ WS2 : Int → Int, ∃ RO2 : Int → Int, ∃ T2 : Int → Int, ∃ N2 : Int → Int, ∃ W2 : Int → Int, ∃ SN2 : Int → Int, oc = .returned none ∧ fx o o [280, 328, 329, 330, 331, 332, 333, 318, 319, 320, 317] G G2 ∧ G2.length = G.length ∧ ab_slots G2 = ab_slots G ∧ cc o G2 80 280 (ab_ob 12 (mof m_thrown m_taped m_length m_out m_wide m_gathered m_sets m_ranges m_nodes m_at m_flags m_fault m_place m_numbered m_depth m_value m_isNot m_least0 m_most0 m_slot (m_work + 1) m_got ((m_rowMany + 1) + 1) m_charAt m_charWide m_trail m_isMatch m_matchGroups m_allFrom m_allBefore m_founds m_pieces m_writtenMany m_templateWide m_tooMuch)) ∧ cc o G2 128 328 (za 300 WP2) ∧ cc o G2 129 329 (za 300 WD2) ∧ cc o G2 130 330 (za 300 WT2) ∧ cc o G2 131 331 (za 300 WG2) ∧ cc o G2 132 332 (za 300 WS2) ∧ cc o G2 133 333 (za 40000 RO2) ∧ cc o G2 118 318 (za 75000 T2) ∧ cc o G2 119 319 (za 75000 N2) ∧ cc o G2 120 320 (za 75000 W2) ∧ cc o G2 117 317 (za 6 SN2) ∧ (rgs WP2 300 0 4199) ∧ (rgs WD2 300 0 31) ∧ (rgs WT2 300 0 39968) ∧ (rgs WG2 300 0 39968) ∧ (rgs WS2 300 0 4300) ∧ (fsm WP WD WT WG WS WP2 WD2 WT2 WG2 WS2 w) ∧ (WP2 m_work = c2) ∧ (WD2 m_work = WD w + 1) ∧ (WT2 m_work = t2) ∧ (WG2 m_work = t2) ∧ (WS2 m_work = 0) ∧ (WP2 w = WP w) ∧ (WD2 w = WD w) ∧ (WT2 w = WT w) ∧ (WG2 w = u2) ∧ (WS2 w = 1) ∧ (c2 = Fi (WP w)) ∧ (t2 = (32 * (m_rowMany + 1))) ∧ (u2 = (32 * m_rowMany)) ∧ (rgs RO2 40000 0 12499) ∧ (rgs T2 75000 0 6) ∧ (rgs N2 75000 (-1) 12499) ∧ (rgs W2 75000 (-1) 12499) ∧ (rgs SN2 6 0 12500) ∧ (SN2 m_slot = (SN m_slot) + WD w + 1) ∧ (rsm RO RO2 (32 * m_rowMany)) ∧ (rsq RO2 (32 * m_rowMany) (WD w + 1) (SN m_slot)) ∧ (rokk RO2 (32 * (m_rowMany + 1)) (WD w + 2) (SN2 m_slot)) ∧ (spl T2 (12500 * m_slot) (SN m_slot) (SN2 m_slot)) ∧ (stx T N W CA CM T2 N2 W2 CA CM (12500 * m_slot) (SN m_slot)) ∧ (sno SN SN2 m_slot) ∧ (tka T2 W2 CA CM SM SA RL RH CL CH (12500 * m_slot) (SN2 m_slot) m_slot (CC m_slot) ns) ∧ (rAl RO2 (32 * (m_rowMany + 1)) (WD w + 1) 1) ∧ (RO2 ((32 * (m_rowMany + 1)) + (WD w + 1)) = (SN m_slot) + WD w)) := by
  refine ab_F_of (by decide +kernel) (Nat.le_of_ble_eq_true rfl) ?_
  obtain ⟨Q, hQ⟩ : ∃ z : Outcome → ab_G → Prop, z = (fun oc G2 => ∃ c2 : Int, ∃ t2 : Int, ∃ u2 : Int, ∃ WP2 : Int → Int, ∃ WD2 : Int → Int, ∃ WT2 : Int → Int, ∃ WG2 : Int → Int, ∃ WS2 : Int → Int, ∃ RO2 : Int → Int, ∃ T2 : Int → Int, ∃ N2 : Int → Int, ∃ W2 : Int → Int, ∃ SN2 : Int → Int, oc = .returned none ∧ fx o o [280, 328, 329, 330, 331, 332, 333, 318, 319, 320, 317] G G2 ∧ G2.length = G.length ∧ ab_slots G2 = ab_slots G ∧ cc o G2 80 280 (ab_ob 12 (mof m_thrown m_taped m_length m_out m_wide m_gathered m_sets m_ranges m_nodes m_at m_flags m_fault m_place m_numbered m_depth m_value m_isNot m_least0 m_most0 m_slot (m_work + 1) m_got ((m_rowMany + 1) + 1) m_charAt m_charWide m_trail m_isMatch m_matchGroups m_allFrom m_allBefore m_founds m_pieces m_writtenMany m_templateWide m_tooMuch)) ∧ cc o G2 128 328 (za 300 WP2) ∧ cc o G2 129 329 (za 300 WD2) ∧ cc o G2 130 330 (za 300 WT2) ∧ cc o G2 131 331 (za 300 WG2) ∧ cc o G2 132 332 (za 300 WS2) ∧ cc o G2 133 333 (za 40000 RO2) ∧ cc o G2 118 318 (za 75000 T2) ∧ cc o G2 119 319 (za 75000 N2) ∧ cc o G2 120 320 (za 75000 W2) ∧ cc o G2 117 317 (za 6 SN2) ∧ (rgs WP2 300 0 4199) ∧ (rgs WD2 300 0 31) ∧ (rgs WT2 300 0 39968) ∧ (rgs WG2 300 0 39968) ∧ (rgs WS2 300 0 4300) ∧ (fsm WP WD WT WG WS WP2 WD2 WT2 WG2 WS2 w) ∧ (WP2 m_work = c2) ∧ (WD2 m_work = WD w + 1) ∧ (WT2 m_work = t2) ∧ (WG2 m_work = t2) ∧ (WS2 m_work = 0) ∧ (WP2 w = WP w) ∧ (WD2 w = WD w) ∧ (WT2 w = WT w) ∧ (WG2 w = u2) ∧ (WS2 w = 1) ∧ (c2 = Fi (WP w)) ∧ (t2 = (32 * (m_rowMany + 1))) ∧ (u2 = (32 * m_rowMany)) ∧ (rgs RO2 40000 0 12499) ∧ (rgs T2 75000 0 6) ∧ (rgs N2 75000 (-1) 12499) ∧ (rgs W2 75000 (-1) 12499) ∧ (rgs SN2 6 0 12500) ∧ (SN2 m_slot = (SN m_slot) + WD w + 1) ∧ (rsm RO RO2 (32 * m_rowMany)) ∧ (rsq RO2 (32 * m_rowMany) (WD w + 1) (SN m_slot)) ∧ (rokk RO2 (32 * (m_rowMany + 1)) (WD w + 2) (SN2 m_slot)) ∧ (spl T2 (12500 * m_slot) (SN m_slot) (SN2 m_slot)) ∧ (stx T N W CA CM T2 N2 W2 CA CM (12500 * m_slot) (SN m_slot)) ∧ (sno SN SN2 m_slot) ∧ (tka T2 W2 CA CM SM SA RL RH CL CH (12500 * m_slot) (SN2 m_slot) m_slot (CC m_slot) ns) ∧ (rAl RO2 (32 * (m_rowMany + 1)) (WD w + 1) 1) ∧ (RO2 ((32 * (m_rowMany + 1)) + (WD w + 1)) = (SN m_slot) + WD w)) := ⟨_, rfl⟩
  rw [← hQ]
  change ab_W X (ab_pl y_MO_go b_MO_go 4 none) d G 0 [some (vR 80), some (vz w), none, none] [] Q
  have hfr : fx o o [280, 328, 329, 330, 331, 332, 333, 318, 319, 320, 317] G G := fx.rf
  have hlen : G.length = G.length := rfl
  have hsl : ab_slots G = ab_slots G := rfl
  refine ab_aload_n d_MO_go_0 rfl ?_
  refine ab_getf (fs := mof m_thrown m_taped m_length m_out m_wide m_gathered m_sets m_ranges m_nodes m_at m_flags m_fault m_place m_numbered m_depth m_value m_isNot m_least0 m_most0 m_slot m_work m_got m_rowMany m_charAt m_charWide m_trail m_isMatch m_matchGroups m_allFrom m_allBefore m_founds m_pieces m_writtenMany m_templateWide m_tooMuch) f_MO_158 d_MO_go_1 h80.2.2 rfl ?_
  refine ab_iload_n d_MO_go_4 rfl ?_
  refine zz_iald d_MO_go_5 h128 (by omega) ?_
  have hq1 := gwp w (by omega) (by omega)
  refine ab_istore_n d_MO_go_6 (Nat.le_of_ble_eq_true rfl) (Nat.le_of_ble_eq_true rfl) rfl ?_
  change ab_W _ _ _ G 7 [some (vR 80), some (vz w), some (vz (WP w)), none] [] _
  refine ab_aload_n d_MO_go_7 rfl ?_
  refine ab_getf (fs := mof m_thrown m_taped m_length m_out m_wide m_gathered m_sets m_ranges m_nodes m_at m_flags m_fault m_place m_numbered m_depth m_value m_isNot m_least0 m_most0 m_slot m_work m_got m_rowMany m_charAt m_charWide m_trail m_isMatch m_matchGroups m_allFrom m_allBefore m_founds m_pieces m_writtenMany m_templateWide m_tooMuch) f_MO_161 d_MO_go_8 h80.2.2 rfl ?_
  refine ab_iload_n d_MO_go_11 rfl ?_
  refine zz_iald d_MO_go_12 h129 (by omega) ?_
  have hq2 := gwd w (by omega) (by omega)
  refine ab_istore_n d_MO_go_13 (Nat.le_of_ble_eq_true rfl) (Nat.le_of_ble_eq_true rfl) rfl ?_
  change ab_W _ _ _ G 14 [some (vR 80), some (vz w), some (vz (WP w)), some (vz (WD w))] [] _
  refine ab_aload_n d_MO_go_14 rfl ?_
  refine ab_getf (fs := mof m_thrown m_taped m_length m_out m_wide m_gathered m_sets m_ranges m_nodes m_at m_flags m_fault m_place m_numbered m_depth m_value m_isNot m_least0 m_most0 m_slot m_work m_got m_rowMany m_charAt m_charWide m_trail m_isMatch m_matchGroups m_allFrom m_allBefore m_founds m_pieces m_writtenMany m_templateWide m_tooMuch) f_MO_68 d_MO_go_15 h80.2.2 rfl ?_
  refine ab_iload_n d_MO_go_18 rfl ?_
  refine zz_lald d_MO_go_19 h100 (by omega) ?_
  have hq3 := jz (WP w) (by omega) (by omega)
  refine zz_lconst d_MO_go_20 ?_
  change ab_W _ _ _ G 21 [some (vR 80), some (vz w), some (vz (WP w)), some (vz (WD w))] [vj 0, vj (Z (WP w))] _
  refine zz_lcmp d_MO_go_21 (by omega) (by omega) (fun c4a => by exfalso; omega) (fun c4a c4b => by exfalso; omega) (fun c4a => ?_)
  · refine zz_if_ne (tgt := 36) d_MO_go_22 (by decide) (by decide) (fun c5 => ?_) (fun c5 => absurd c5 (by decide))
    refine ab_aload_n d_MO_go_36 rfl ?_
    refine ab_getf (fs := mof m_thrown m_taped m_length m_out m_wide m_gathered m_sets m_ranges m_nodes m_at m_flags m_fault m_place m_numbered m_depth m_value m_isNot m_least0 m_most0 m_slot m_work m_got m_rowMany m_charAt m_charWide m_trail m_isMatch m_matchGroups m_allFrom m_allBefore m_founds m_pieces m_writtenMany m_templateWide m_tooMuch) f_MO_50 d_MO_go_37 h80.2.2 rfl ?_
    refine ab_iload_n d_MO_go_40 rfl ?_
    refine zz_iald d_MO_go_41 h94 (by omega) ?_
    have hq6 := jk (WP w) (by omega) (by omega)
    refine zz_top (y := 7) (by omega) ?_
    change ab_W _ _ _ G 42 [some (vR 80), some (vz w), some (vz (WP w)), some (vz (WD w))] [vz 7] _
    refine zz_tableOut (tgt := 195) d_MO_go_42 (by decide) (by decide) (by decide) ?_
    refine ab_aload_n d_MO_go_195 rfl ?_
    refine ab_iload_n d_MO_go_196 rfl ?_
    refine ab_callV (d' := d - 1) (as := [vz w]) (st := []) (r := _) (z_MO_goRepeat_o (o := o) (m_thrown := m_thrown) (m_taped := m_taped) (m_length := m_length) (m_out := m_out) (m_wide := m_wide) (m_gathered := m_gathered) (m_sets := m_sets) (m_ranges := m_ranges) (m_nodes := m_nodes) (m_at := m_at) (m_flags := m_flags) (m_fault := m_fault) (m_place := m_place) (m_numbered := m_numbered) (m_depth := m_depth) (m_value := m_value) (m_isNot := m_isNot) (m_least0 := m_least0) (m_most0 := m_most0) (m_slot := m_slot) (m_work := m_work) (m_got := m_got) (m_rowMany := m_rowMany) (m_charAt := m_charAt) (m_charWide := m_charWide) (m_trail := m_trail) (m_isMatch := m_isMatch) (m_matchGroups := m_matchGroups) (m_allFrom := m_allFrom) (m_allBefore := m_allBefore) (m_founds := m_founds) (m_pieces := m_pieces) (m_writtenMany := m_writtenMany) (m_templateWide := m_templateWide) (m_tooMuch := m_tooMuch) (T := T) (N := N) (W := W) (CA := CA) (CM := CM) (CL := CL) (CH := CH) (SN := SN) (CC := CC) (RO := RO) (WP := WP) (WD := WD) (WT := WT) (WG := WG) (WS := WS) (K := K) (O := O) (Fi := Fi) (Be := Be) (Le := Le) (Mo := Mo) (Z := Z) (LZ := LZ) (SM := SM) (SA := SA) (RL := RL) (RH := RH) (w := w) (ns := ns) (nd := nd) h80 h94 h95 h96 h97 h98 h99 h100 h101 h90 h89 h91 h92 h118 h119 h120 h121 h122 h123 h124 h117 h125 h133 h128 h129 h130 h131 h132 (by omega) (by omega) jrl jrh jk jo jfi jbe jle jmo jz jlz jsm jsa gt gn gw gca gcm gcl gch gsn gcc gro gwp gwd gwt gwg gws jka jss (by omega) (by omega) (by omega) (by omega) (by omega) (by omega) (by omega) (by omega) (by omega) (by omega)) (fun oc G2 h => by rcases h with ⟨_, _, _, _, _, _, _, _, _, _, _, _, _, h, _⟩ <;> exact ⟨_, h⟩) (by omega) m_MO_goRepeat ml_MO_498 im_MO_goRepeat se_MO_goRepeat c_MO h80.2.2 (Nat.le_of_ble_eq_true rfl) d_MO_go_197 rfl ?_
    intro v G8 hq
    rcases hq with ⟨c29, t210, u211, WP212, WD213, WT214, WG215, WS216, RO217, T218, N219, W220, SN221, hv, hfk, hlk, hsk, hN80, hN128, hN129, hN130, hN131, hN132, hN133, hN118, hN119, hN120, hN117, hq22, hq23, hq24, hq25, hq26, hq27, hq28, hq29, hq30, hq31, hq32, hq33, hq34, hq35, hq36, hq37, hq38, hq39, hq40, hq41, hq42, hq43, hq44, hq45, hq46, hq47, hq48, hq49, hq50, hq51, hq52, hq53, hq54, hq55⟩
    cases hv
    have h94 := hfk.get h94 (by decide)
    have h95 := hfk.get h95 (by decide)
    have h96 := hfk.get h96 (by decide)
    have h97 := hfk.get h97 (by decide)
    have h98 := hfk.get h98 (by decide)
    have h99 := hfk.get h99 (by decide)
    have h100 := hfk.get h100 (by decide)
    have h101 := hfk.get h101 (by decide)
    have h90 := hfk.get h90 (by decide)
    have h89 := hfk.get h89 (by decide)
    have h91 := hfk.get h91 (by decide)
    have h92 := hfk.get h92 (by decide)
    have h121 := hfk.get h121 (by decide)
    have h122 := hfk.get h122 (by decide)
    have h123 := hfk.get h123 (by decide)
    have h124 := hfk.get h124 (by decide)
    have h125 := hfk.get h125 (by decide)
    have hfr := hfr.tr hfk (by decide)
    have hlen := hlk.trans hlen
    have hsl := hsk.trans hsl
    have h80 := hN80
    have h128 := hN128
    have h129 := hN129
    have h130 := hN130
    have h131 := hN131
    have h132 := hN132
    have h133 := hN133
    have h118 := hN118
    have h119 := hN119
    have h120 := hN120
    have h117 := hN117
    change ab_W _ _ _ G8 200 [some (vR 80), some (vz w), some (vz (WP w)), some (vz (WD w))] [] _
    refine ab_vret rfl d_MO_go_200 ?_
    rw [hQ]; exact ⟨_, _, _, _, _, _, _, _, _, _, _, _, _, rfl, hfr, hlen, hsl, h80, h128, h129, h130, h131, h132, h133, h118, h119, h120, h117, (by first | exact hq22 | exact rgs_w hq22 (by omega)), (by first | exact hq23 | exact rgs_w hq23 (by omega)), (by first | exact hq24 | exact rgs_w hq24 (by omega)), (by first | exact hq25 | exact rgs_w hq25 (by omega)), (by first | exact hq26 | exact rgs_w hq26 (by omega)), (by assumption), (by assumption), (by assumption), (by assumption), (by assumption), (by assumption), (by assumption), (by assumption), (by assumption), (by assumption), (by assumption), (by assumption), (by assumption), (by assumption), (by first | exact hq41 | exact rgs_w hq41 (by omega)), (by first | exact hq42 | exact rgs_w hq42 (by omega)), (by first | exact hq43 | exact rgs_w hq43 (by omega)), (by first | exact hq44 | exact rgs_w hq44 (by omega)), (by first | exact hq45 | exact rgs_w hq45 (by omega)), (by omega), (by assumption), (by assumption), (by assumption), (by assumption), (by assumption), (by assumption), (by assumption), (by assumption), (by assumption)⟩
set_option maxRecDepth 100000 in
set_option maxHeartbeats 4000000 in
theorem z_MO_go_Repeat_c {X : ab_X} {d : Nat} {o : Nat → Nat} {G : ab_G} {m_thrown : Int} {m_taped : Int} {m_length : Int} {m_out : Int} {m_wide : Int} {m_gathered : Int} {m_sets : Int} {m_ranges : Int} {m_nodes : Int} {m_at : Int} {m_flags : Int} {m_fault : Int} {m_place : Int} {m_numbered : Int} {m_depth : Int} {m_value : Int} {m_isNot : Int} {m_least0 : Int} {m_most0 : Int} {m_slot : Int} {m_work : Int} {m_got : Int} {m_rowMany : Int} {m_charAt : Int} {m_charWide : Int} {m_trail : Int} {m_isMatch : Int} {m_matchGroups : Int} {m_allFrom : Int} {m_allBefore : Int} {m_founds : Int} {m_pieces : Int} {m_writtenMany : Int} {m_templateWide : Int} {m_tooMuch : Int} {T : Int → Int} {N : Int → Int} {W : Int → Int} {CA : Int → Int} {CM : Int → Int} {CL : Int → Int} {CH : Int → Int} {SN : Int → Int} {CC : Int → Int} {RO : Int → Int} {WP : Int → Int} {WD : Int → Int} {WT : Int → Int} {WG : Int → Int} {WS : Int → Int} {K : Int → Int} {O : Int → Int} {Fi : Int → Int} {Be : Int → Int} {Le : Int → Int} {Mo : Int → Int} {Z : Int → Int} {LZ : Int → Int} {SM : Int → Int} {SA : Int → Int} {RL : Int → Int} {RH : Int → Int} {w : Int} {ns : Int} {nd : Int} {n1 : Int} (h80 : cc o G 80 280 (ab_ob 12 (mof m_thrown m_taped m_length m_out m_wide m_gathered m_sets m_ranges m_nodes m_at m_flags m_fault m_place m_numbered m_depth m_value m_isNot m_least0 m_most0 m_slot m_work m_got m_rowMany m_charAt m_charWide m_trail m_isMatch m_matchGroups m_allFrom m_allBefore m_founds m_pieces m_writtenMany m_templateWide m_tooMuch))) (h94 : cc o G 94 294 (za 4200 K)) (h95 : cc o G 95 295 (za 4200 O)) (h96 : cc o G 96 296 (za 4200 Fi)) (h97 : cc o G 97 297 (za 4200 Be)) (h98 : cc o G 98 298 (za 4200 Le)) (h99 : cc o G 99 299 (za 4200 Mo)) (h100 : cc o G 100 300 (zl 4200 Z)) (h101 : cc o G 101 301 (zb 4200 LZ)) (h90 : cc o G 90 290 (za 2100 SM)) (h89 : cc o G 89 289 (za 2100 SA)) (h91 : cc o G 91 291 (za 24000 RL)) (h92 : cc o G 92 292 (za 24000 RH)) (h118 : cc o G 118 318 (za 75000 T)) (h119 : cc o G 119 319 (za 75000 N)) (h120 : cc o G 120 320 (za 75000 W)) (h121 : cc o G 121 321 (za 75000 CA)) (h122 : cc o G 122 322 (za 75000 CM)) (h123 : cc o G 123 323 (za 3600 CL)) (h124 : cc o G 124 324 (za 3600 CH)) (h117 : cc o G 117 317 (za 6 SN)) (h125 : cc o G 125 325 (za 6 CC)) (h133 : cc o G 133 333 (za 40000 RO)) (h128 : cc o G 128 328 (za 300 WP)) (h129 : cc o G 129 329 (za 300 WD)) (h130 : cc o G 130 330 (za 300 WT)) (h131 : cc o G 131 331 (za 300 WG)) (h132 : cc o G 132 332 (za 300 WS)) (n18 : ab_n0 = 18) (csl : 0 ≤ m_slot ∧ m_slot ≤ 5) (jrl : rgs RL 24000 0 1114111) (jrh : rgs RH 24000 0 1114111) (jk : rgs K 4200 0 7) (jo : rgs O 4200 (-1) 3000) (jfi : rgs Fi 4200 (-1) 4199) (jbe : rgs Be 4200 (-1) 4199) (jle : rgs Le 4200 0 1000) (jmo : rgs Mo 4200 (-1) 1000) (jz : rgs Z 4200 (-1) 1000000000000) (jlz : rgs LZ 4200 0 1) (jsm : rgs SM 2100 0 24000) (jsa : rgs SA 2100 0 24000) (gt : rgs T 75000 0 6) (gn : rgs N 75000 (-1) 12499) (gw : rgs W 75000 (-1) 12499) (gca : rgs CA 75000 0 3600) (gcm : rgs CM 75000 0 24000) (gcl : rgs CL 3600 0 1114111) (gch : rgs CH 3600 0 1114111) (gsn : rgs SN 6 0 12500) (gcc : rgs CC 6 0 600) (gro : rgs RO 40000 0 12499) (gwp : rgs WP 300 0 4199) (gwd : rgs WD 300 0 31) (gwt : rgs WT 300 0 39968) (gwg : rgs WG 300 0 39968) (gws : rgs WS 300 0 4300) (jka : tka T W CA CM SM SA RL RH CL CH (12500 * m_slot) (SN m_slot) m_slot (CC m_slot) ns) (jss : sas SA SM ns) (cst : 0 ≤ m_rowMany ∧ m_rowMany ≤ 1250 ∧ 0 ≤ (SN m_slot) ∧ (SN m_slot) ≤ 12500 ∧ 0 ≤ ns ∧ ns ≤ 2100) (cw : 0 ≤ w ∧ m_work = w + 1 ∧ w < 299) (cx : 0 ≤ WP w ∧ WP w < nd ∧ 0 ≤ nd ∧ nd ≤ 4200 ∧ 0 ≤ WD w ∧ WD w ≤ 31 ∧ 0 ≤ WT w ∧ WT w + 32 ≤ 32 * m_rowMany) (jto : rokk RO (WT w) (WD w + 1) (SN m_slot)) (jgo : rokk RO m_got (WD w + 1) (SN m_slot)) (cgo : 0 ≤ m_got ∧ m_got + 32 ≤ 32 * m_rowMany) (cwg : 0 ≤ WG w ∧ WG w + 32 ≤ 32 * m_rowMany) (ck : K (WP w) = 7) (cfi : 0 ≤ Fi (WP w) ∧ Fi (WP w) < nd) (clm : 0 ≤ Le (WP w) ∧ Le (WP w) ≤ 100 ∧ -1 ≤ Mo (WP w) ∧ Mo (WP w) ≤ 100) (cmo : Mo (WP w) < 0) (cs0 : WS w = 1) (jwq : rsq RO (WG w) (WD w + 1) n1) (cn1 : 0 ≤ n1 ∧ n1 + WD w + 1 ≤ (SN m_slot) ∧ WD w ≤ 30) (czz : 1 ≤ Z (WP w)) (hd : 6 ≤ d) : ab_F X d y_MO_go (.code y_MO_go b_MO_go 4 none) [vR 80, vz w] G (fun oc G2 => (∃ g2 : Int, ∃ WP2 : Int → Int, ∃ WD2 : Int → Int, ∃ WT2 : Int → Int, ∃ WG2 : Int → Int, ∃ WS2 : Int → Int, ∃ N2 : Int → Int, ∃ W2 : Int → Int, oc = .returned none ∧ fx o o [280, 328, 329, 330, 331, 332, 319, 320] G G2 ∧ G2.length = G.length ∧ ab_slots G2 = ab_slots G ∧ cc o G2 80 280 (ab_ob 12 (mof m_thrown m_taped m_length m_out m_wide m_gathered m_sets m_ranges m_nodes m_at m_flags m_fault m_place m_numbered m_depth m_value m_isNot m_least0 m_most0 m_slot (m_work - 1) g2 m_rowMany m_charAt m_charWide m_trail m_isMatch m_matchGroups m_allFrom m_allBefore m_founds m_pieces m_writtenMany m_templateWide m_tooMuch)) ∧ cc o G2 128 328 (za 300 WP2) ∧ cc o G2 129 329 (za 300 WD2) ∧ cc o G2 130 330 (za 300 WT2) ∧ cc o G2 131 331 (za 300 WG2) ∧ cc o G2 132 332 (za 300 WS2) ∧ cc o G2 119 319 (za 75000 N2) ∧ cc o G2 120 320 (za 75000 W2) ∧ (rgs WP2 300 0 4199) ∧ (rgs WD2 300 0 31) ∧ (rgs WT2 300 0 39968) ∧ (rgs WG2 300 0 39968) ∧ (rgs WS2 300 0 4300) ∧ (fsm WP WD WT WG WS WP2 WD2 WT2 WG2 WS2 w) ∧ (g2 = WG w) ∧ (Le (WP w) = 0) ∧ (rgs N2 75000 (-1) 12499) ∧ (rgs W2 75000 (-1) 12499) ∧ (clr N W N2 W2 (12500 * m_slot) n1 (WD w + 1) (SN m_slot)) ∧ (clx N2 W2 RO m_slot n1 (WD w + 1) (LZ (WP w)) m_got (WT w))) ∨ (∃ c2 : Int, ∃ t2 : Int, ∃ u2 : Int, ∃ WP2 : Int → Int, ∃ WD2 : Int → Int, ∃ WT2 : Int → Int, ∃ WG2 : Int → Int, ∃ WS2 : Int → Int, ∃ N2 : Int → Int, ∃ W2 : Int → Int, oc = .returned none ∧ fx o o [280, 328, 329, 330, 331, 332, 319, 320] G G2 ∧ G2.length = G.length ∧ ab_slots G2 = ab_slots G ∧ cc o G2 80 280 (ab_ob 12 (mof m_thrown m_taped m_length m_out m_wide m_gathered m_sets m_ranges m_nodes m_at m_flags m_fault m_place m_numbered m_depth m_value m_isNot m_least0 m_most0 m_slot (m_work + 1) m_got m_rowMany m_charAt m_charWide m_trail m_isMatch m_matchGroups m_allFrom m_allBefore m_founds m_pieces m_writtenMany m_templateWide m_tooMuch)) ∧ cc o G2 128 328 (za 300 WP2) ∧ cc o G2 129 329 (za 300 WD2) ∧ cc o G2 130 330 (za 300 WT2) ∧ cc o G2 131 331 (za 300 WG2) ∧ cc o G2 132 332 (za 300 WS2) ∧ cc o G2 119 319 (za 75000 N2) ∧ cc o G2 120 320 (za 75000 W2) ∧ (rgs WP2 300 0 4199) ∧ (rgs WD2 300 0 31) ∧ (rgs WT2 300 0 39968) ∧ (rgs WG2 300 0 39968) ∧ (rgs WS2 300 0 4300) ∧ (fsm WP WD WT WG WS WP2 WD2 WT2 WG2 WS2 w) ∧ (WP2 m_work = c2) ∧ (WD2 m_work = WD w) ∧ (WT2 m_work = t2) ∧ (WG2 m_work = t2) ∧ (WS2 m_work = 0) ∧ (WP2 w = WP w) ∧ (WD2 w = WD w) ∧ (WT2 w = WT w) ∧ (WG2 w = u2) ∧ (WS2 w = (WS w + 1)) ∧ (c2 = Fi (WP w)) ∧ (t2 = WG w) ∧ (u2 = WG w) ∧ (0 < Le (WP w)) ∧ (rgs N2 75000 (-1) 12499) ∧ (rgs W2 75000 (-1) 12499) ∧ (clr N W N2 W2 (12500 * m_slot) n1 (WD w + 1) (SN m_slot)) ∧ (clx N2 W2 RO m_slot n1 (WD w + 1) (LZ (WP w)) m_got (WT w)))) := by
  refine ab_F_of (by decide +kernel) (Nat.le_of_ble_eq_true rfl) ?_
  obtain ⟨Q, hQ⟩ : ∃ z : Outcome → ab_G → Prop, z = (fun oc G2 => (∃ g2 : Int, ∃ WP2 : Int → Int, ∃ WD2 : Int → Int, ∃ WT2 : Int → Int, ∃ WG2 : Int → Int, ∃ WS2 : Int → Int, ∃ N2 : Int → Int, ∃ W2 : Int → Int, oc = .returned none ∧ fx o o [280, 328, 329, 330, 331, 332, 319, 320] G G2 ∧ G2.length = G.length ∧ ab_slots G2 = ab_slots G ∧ cc o G2 80 280 (ab_ob 12 (mof m_thrown m_taped m_length m_out m_wide m_gathered m_sets m_ranges m_nodes m_at m_flags m_fault m_place m_numbered m_depth m_value m_isNot m_least0 m_most0 m_slot (m_work - 1) g2 m_rowMany m_charAt m_charWide m_trail m_isMatch m_matchGroups m_allFrom m_allBefore m_founds m_pieces m_writtenMany m_templateWide m_tooMuch)) ∧ cc o G2 128 328 (za 300 WP2) ∧ cc o G2 129 329 (za 300 WD2) ∧ cc o G2 130 330 (za 300 WT2) ∧ cc o G2 131 331 (za 300 WG2) ∧ cc o G2 132 332 (za 300 WS2) ∧ cc o G2 119 319 (za 75000 N2) ∧ cc o G2 120 320 (za 75000 W2) ∧ (rgs WP2 300 0 4199) ∧ (rgs WD2 300 0 31) ∧ (rgs WT2 300 0 39968) ∧ (rgs WG2 300 0 39968) ∧ (rgs WS2 300 0 4300) ∧ (fsm WP WD WT WG WS WP2 WD2 WT2 WG2 WS2 w) ∧ (g2 = WG w) ∧ (Le (WP w) = 0) ∧ (rgs N2 75000 (-1) 12499) ∧ (rgs W2 75000 (-1) 12499) ∧ (clr N W N2 W2 (12500 * m_slot) n1 (WD w + 1) (SN m_slot)) ∧ (clx N2 W2 RO m_slot n1 (WD w + 1) (LZ (WP w)) m_got (WT w))) ∨ (∃ c2 : Int, ∃ t2 : Int, ∃ u2 : Int, ∃ WP2 : Int → Int, ∃ WD2 : Int → Int, ∃ WT2 : Int → Int, ∃ WG2 : Int → Int, ∃ WS2 : Int → Int, ∃ N2 : Int → Int, ∃ W2 : Int → Int, oc = .returned none ∧ fx o o [280, 328, 329, 330, 331, 332, 319, 320] G G2 ∧ G2.length = G.length ∧ ab_slots G2 = ab_slots G ∧ cc o G2 80 280 (ab_ob 12 (mof m_thrown m_taped m_length m_out m_wide m_gathered m_sets m_ranges m_nodes m_at m_flags m_fault m_place m_numbered m_depth m_value m_isNot m_least0 m_most0 m_slot (m_work + 1) m_got m_rowMany m_charAt m_charWide m_trail m_isMatch m_matchGroups m_allFrom m_allBefore m_founds m_pieces m_writtenMany m_templateWide m_tooMuch)) ∧ cc o G2 128 328 (za 300 WP2) ∧ cc o G2 129 329 (za 300 WD2) ∧ cc o G2 130 330 (za 300 WT2) ∧ cc o G2 131 331 (za 300 WG2) ∧ cc o G2 132 332 (za 300 WS2) ∧ cc o G2 119 319 (za 75000 N2) ∧ cc o G2 120 320 (za 75000 W2) ∧ (rgs WP2 300 0 4199) ∧ (rgs WD2 300 0 31) ∧ (rgs WT2 300 0 39968) ∧ (rgs WG2 300 0 39968) ∧ (rgs WS2 300 0 4300) ∧ (fsm WP WD WT WG WS WP2 WD2 WT2 WG2 WS2 w) ∧ (WP2 m_work = c2) ∧ (WD2 m_work = WD w) ∧ (WT2 m_work = t2) ∧ (WG2 m_work = t2) ∧ (WS2 m_work = 0) ∧ (WP2 w = WP w) ∧ (WD2 w = WD w) ∧ (WT2 w = WT w) ∧ (WG2 w = u2) ∧ (WS2 w = (WS w + 1)) ∧ (c2 = Fi (WP w)) ∧ (t2 = WG w) ∧ (u2 = WG w) ∧ (0 < Le (WP w)) ∧ (rgs N2 75000 (-1) 12499) ∧ (rgs W2 75000 (-1) 12499) ∧ (clr N W N2 W2 (12500 * m_slot) n1 (WD w + 1) (SN m_slot)) ∧ (clx N2 W2 RO m_slot n1 (WD w + 1) (LZ (WP w)) m_got (WT w)))) := ⟨_, rfl⟩
  rw [← hQ]
  change ab_W X (ab_pl y_MO_go b_MO_go 4 none) d G 0 [some (vR 80), some (vz w), none, none] [] Q
  have hfr : fx o o [280, 328, 329, 330, 331, 332, 319, 320] G G := fx.rf
  have hlen : G.length = G.length := rfl
  have hsl : ab_slots G = ab_slots G := rfl
  refine ab_aload_n d_MO_go_0 rfl ?_
  refine ab_getf (fs := mof m_thrown m_taped m_length m_out m_wide m_gathered m_sets m_ranges m_nodes m_at m_flags m_fault m_place m_numbered m_depth m_value m_isNot m_least0 m_most0 m_slot m_work m_got m_rowMany m_charAt m_charWide m_trail m_isMatch m_matchGroups m_allFrom m_allBefore m_founds m_pieces m_writtenMany m_templateWide m_tooMuch) f_MO_158 d_MO_go_1 h80.2.2 rfl ?_
  refine ab_iload_n d_MO_go_4 rfl ?_
  refine zz_iald d_MO_go_5 h128 (by omega) ?_
  have hq1 := gwp w (by omega) (by omega)
  refine ab_istore_n d_MO_go_6 (Nat.le_of_ble_eq_true rfl) (Nat.le_of_ble_eq_true rfl) rfl ?_
  change ab_W _ _ _ G 7 [some (vR 80), some (vz w), some (vz (WP w)), none] [] _
  refine ab_aload_n d_MO_go_7 rfl ?_
  refine ab_getf (fs := mof m_thrown m_taped m_length m_out m_wide m_gathered m_sets m_ranges m_nodes m_at m_flags m_fault m_place m_numbered m_depth m_value m_isNot m_least0 m_most0 m_slot m_work m_got m_rowMany m_charAt m_charWide m_trail m_isMatch m_matchGroups m_allFrom m_allBefore m_founds m_pieces m_writtenMany m_templateWide m_tooMuch) f_MO_161 d_MO_go_8 h80.2.2 rfl ?_
  refine ab_iload_n d_MO_go_11 rfl ?_
  refine zz_iald d_MO_go_12 h129 (by omega) ?_
  have hq2 := gwd w (by omega) (by omega)
  refine ab_istore_n d_MO_go_13 (Nat.le_of_ble_eq_true rfl) (Nat.le_of_ble_eq_true rfl) rfl ?_
  change ab_W _ _ _ G 14 [some (vR 80), some (vz w), some (vz (WP w)), some (vz (WD w))] [] _
  refine ab_aload_n d_MO_go_14 rfl ?_
  refine ab_getf (fs := mof m_thrown m_taped m_length m_out m_wide m_gathered m_sets m_ranges m_nodes m_at m_flags m_fault m_place m_numbered m_depth m_value m_isNot m_least0 m_most0 m_slot m_work m_got m_rowMany m_charAt m_charWide m_trail m_isMatch m_matchGroups m_allFrom m_allBefore m_founds m_pieces m_writtenMany m_templateWide m_tooMuch) f_MO_68 d_MO_go_15 h80.2.2 rfl ?_
  refine ab_iload_n d_MO_go_18 rfl ?_
  refine zz_lald d_MO_go_19 h100 (by omega) ?_
  have hq3 := jz (WP w) (by omega) (by omega)
  refine zz_lconst d_MO_go_20 ?_
  change ab_W _ _ _ G 21 [some (vR 80), some (vz w), some (vz (WP w)), some (vz (WD w))] [vj 0, vj (Z (WP w))] _
  refine zz_lcmp d_MO_go_21 (by omega) (by omega) (fun c4a => by exfalso; omega) (fun c4a c4b => by exfalso; omega) (fun c4a => ?_)
  · refine zz_if_ne (tgt := 36) d_MO_go_22 (by decide) (by decide) (fun c5 => ?_) (fun c5 => absurd c5 (by decide))
    refine ab_aload_n d_MO_go_36 rfl ?_
    refine ab_getf (fs := mof m_thrown m_taped m_length m_out m_wide m_gathered m_sets m_ranges m_nodes m_at m_flags m_fault m_place m_numbered m_depth m_value m_isNot m_least0 m_most0 m_slot m_work m_got m_rowMany m_charAt m_charWide m_trail m_isMatch m_matchGroups m_allFrom m_allBefore m_founds m_pieces m_writtenMany m_templateWide m_tooMuch) f_MO_50 d_MO_go_37 h80.2.2 rfl ?_
    refine ab_iload_n d_MO_go_40 rfl ?_
    refine zz_iald d_MO_go_41 h94 (by omega) ?_
    have hq6 := jk (WP w) (by omega) (by omega)
    refine zz_top (y := 7) (by omega) ?_
    change ab_W _ _ _ G 42 [some (vR 80), some (vz w), some (vz (WP w)), some (vz (WD w))] [vz 7] _
    refine zz_tableOut (tgt := 195) d_MO_go_42 (by decide) (by decide) (by decide) ?_
    refine ab_aload_n d_MO_go_195 rfl ?_
    refine ab_iload_n d_MO_go_196 rfl ?_
    refine ab_callV (d' := d - 1) (as := [vz w]) (st := []) (r := _) (z_MO_goRepeat_c (o := o) (m_thrown := m_thrown) (m_taped := m_taped) (m_length := m_length) (m_out := m_out) (m_wide := m_wide) (m_gathered := m_gathered) (m_sets := m_sets) (m_ranges := m_ranges) (m_nodes := m_nodes) (m_at := m_at) (m_flags := m_flags) (m_fault := m_fault) (m_place := m_place) (m_numbered := m_numbered) (m_depth := m_depth) (m_value := m_value) (m_isNot := m_isNot) (m_least0 := m_least0) (m_most0 := m_most0) (m_slot := m_slot) (m_work := m_work) (m_got := m_got) (m_rowMany := m_rowMany) (m_charAt := m_charAt) (m_charWide := m_charWide) (m_trail := m_trail) (m_isMatch := m_isMatch) (m_matchGroups := m_matchGroups) (m_allFrom := m_allFrom) (m_allBefore := m_allBefore) (m_founds := m_founds) (m_pieces := m_pieces) (m_writtenMany := m_writtenMany) (m_templateWide := m_templateWide) (m_tooMuch := m_tooMuch) (T := T) (N := N) (W := W) (CA := CA) (CM := CM) (CL := CL) (CH := CH) (SN := SN) (CC := CC) (RO := RO) (WP := WP) (WD := WD) (WT := WT) (WG := WG) (WS := WS) (K := K) (O := O) (Fi := Fi) (Be := Be) (Le := Le) (Mo := Mo) (Z := Z) (LZ := LZ) (SM := SM) (SA := SA) (RL := RL) (RH := RH) (w := w) (ns := ns) (nd := nd) (n1 := n1) h80 h94 h95 h96 h97 h98 h99 h100 h101 h90 h89 h91 h92 h118 h119 h120 h121 h122 h123 h124 h117 h125 h133 h128 h129 h130 h131 h132 (by omega) (by omega) jrl jrh jk jo jfi jbe jle jmo jz jlz jsm jsa gt gn gw gca gcm gcl gch gsn gcc gro gwp gwd gwt gwg gws jka jss (by omega) (by omega) (by omega) jto jgo (by omega) (by omega) (by omega) (by omega) (by omega) (by omega) (by omega) jwq (by omega) (by omega)) (fun oc G2 h => by rcases h with ⟨_, _, _, _, _, _, _, _, h, _⟩ | ⟨_, _, _, _, _, _, _, _, _, _, h, _⟩ <;> exact ⟨_, h⟩) (by omega) m_MO_goRepeat ml_MO_498 im_MO_goRepeat se_MO_goRepeat c_MO h80.2.2 (Nat.le_of_ble_eq_true rfl) d_MO_go_197 rfl ?_
    intro v G8 hq
    rcases hq with ⟨g29, WP210, WD211, WT212, WG213, WS214, N215, W216, hv, hfk, hlk, hsk, hN80, hN128, hN129, hN130, hN131, hN132, hN119, hN120, hq17, hq18, hq19, hq20, hq21, hq22, hq23, hq24, hq25, hq26, hq27, hq28⟩ | ⟨c229, t230, u231, WP232, WD233, WT234, WG235, WS236, N237, W238, hv, hfk, hlk, hsk, hN80, hN128, hN129, hN130, hN131, hN132, hN119, hN120, hq39, hq40, hq41, hq42, hq43, hq44, hq45, hq46, hq47, hq48, hq49, hq50, hq51, hq52, hq53, hq54, hq55, hq56, hq57, hq58, hq59, hq60, hq61, hq62⟩
    · cases hv
      have h94 := hfk.get h94 (by decide)
      have h95 := hfk.get h95 (by decide)
      have h96 := hfk.get h96 (by decide)
      have h97 := hfk.get h97 (by decide)
      have h98 := hfk.get h98 (by decide)
      have h99 := hfk.get h99 (by decide)
      have h100 := hfk.get h100 (by decide)
      have h101 := hfk.get h101 (by decide)
      have h90 := hfk.get h90 (by decide)
      have h89 := hfk.get h89 (by decide)
      have h91 := hfk.get h91 (by decide)
      have h92 := hfk.get h92 (by decide)
      have h118 := hfk.get h118 (by decide)
      have h121 := hfk.get h121 (by decide)
      have h122 := hfk.get h122 (by decide)
      have h123 := hfk.get h123 (by decide)
      have h124 := hfk.get h124 (by decide)
      have h117 := hfk.get h117 (by decide)
      have h125 := hfk.get h125 (by decide)
      have h133 := hfk.get h133 (by decide)
      have hfr := hfr.tr hfk (by decide)
      have hlen := hlk.trans hlen
      have hsl := hsk.trans hsl
      have h80 := hN80
      have h128 := hN128
      have h129 := hN129
      have h130 := hN130
      have h131 := hN131
      have h132 := hN132
      have h119 := hN119
      have h120 := hN120
      change ab_W _ _ _ G8 200 [some (vR 80), some (vz w), some (vz (WP w)), some (vz (WD w))] [] _
      refine ab_vret rfl d_MO_go_200 ?_
      rw [hQ]; exact (Or.inl ⟨_, _, _, _, _, _, _, _, rfl, hfr, hlen, hsl, h80, h128, h129, h130, h131, h132, h119, h120, (by first | exact hq17 | exact rgs_w hq17 (by omega)), (by first | exact hq18 | exact rgs_w hq18 (by omega)), (by first | exact hq19 | exact rgs_w hq19 (by omega)), (by first | exact hq20 | exact rgs_w hq20 (by omega)), (by first | exact hq21 | exact rgs_w hq21 (by omega)), (by assumption), (by assumption), (by omega), (by first | exact hq25 | exact rgs_w hq25 (by omega)), (by first | exact hq26 | exact rgs_w hq26 (by omega)), (by assumption), (by assumption)⟩)
    · cases hv
      have h94 := hfk.get h94 (by decide)
      have h95 := hfk.get h95 (by decide)
      have h96 := hfk.get h96 (by decide)
      have h97 := hfk.get h97 (by decide)
      have h98 := hfk.get h98 (by decide)
      have h99 := hfk.get h99 (by decide)
      have h100 := hfk.get h100 (by decide)
      have h101 := hfk.get h101 (by decide)
      have h90 := hfk.get h90 (by decide)
      have h89 := hfk.get h89 (by decide)
      have h91 := hfk.get h91 (by decide)
      have h92 := hfk.get h92 (by decide)
      have h118 := hfk.get h118 (by decide)
      have h121 := hfk.get h121 (by decide)
      have h122 := hfk.get h122 (by decide)
      have h123 := hfk.get h123 (by decide)
      have h124 := hfk.get h124 (by decide)
      have h117 := hfk.get h117 (by decide)
      have h125 := hfk.get h125 (by decide)
      have h133 := hfk.get h133 (by decide)
      have hfr := hfr.tr hfk (by decide)
      have hlen := hlk.trans hlen
      have hsl := hsk.trans hsl
      have h80 := hN80
      have h128 := hN128
      have h129 := hN129
      have h130 := hN130
      have h131 := hN131
      have h132 := hN132
      have h119 := hN119
      have h120 := hN120
      change ab_W _ _ _ G8 200 [some (vR 80), some (vz w), some (vz (WP w)), some (vz (WD w))] [] _
      refine ab_vret rfl d_MO_go_200 ?_
      rw [hQ]; exact (Or.inr ⟨_, _, _, _, _, _, _, _, _, _, rfl, hfr, hlen, hsl, h80, h128, h129, h130, h131, h132, h119, h120, (by first | exact hq39 | exact rgs_w hq39 (by omega)), (by first | exact hq40 | exact rgs_w hq40 (by omega)), (by first | exact hq41 | exact rgs_w hq41 (by omega)), (by first | exact hq42 | exact rgs_w hq42 (by omega)), (by first | exact hq43 | exact rgs_w hq43 (by omega)), (by assumption), (by assumption), (by assumption), (by assumption), (by assumption), (by assumption), (by assumption), (by assumption), (by assumption), (by assumption), (by assumption), (by assumption), (by assumption), (by assumption), (by omega), (by first | exact hq59 | exact rgs_w hq59 (by omega)), (by first | exact hq60 | exact rgs_w hq60 (by omega)), (by assumption), (by assumption)⟩)
set_option maxRecDepth 100000 in
set_option maxHeartbeats 4000000 in
theorem z_MO_go_Repeat_n {X : ab_X} {d : Nat} {o : Nat → Nat} {G : ab_G} {m_thrown : Int} {m_taped : Int} {m_length : Int} {m_out : Int} {m_wide : Int} {m_gathered : Int} {m_sets : Int} {m_ranges : Int} {m_nodes : Int} {m_at : Int} {m_flags : Int} {m_fault : Int} {m_place : Int} {m_numbered : Int} {m_depth : Int} {m_value : Int} {m_isNot : Int} {m_least0 : Int} {m_most0 : Int} {m_slot : Int} {m_work : Int} {m_got : Int} {m_rowMany : Int} {m_charAt : Int} {m_charWide : Int} {m_trail : Int} {m_isMatch : Int} {m_matchGroups : Int} {m_allFrom : Int} {m_allBefore : Int} {m_founds : Int} {m_pieces : Int} {m_writtenMany : Int} {m_templateWide : Int} {m_tooMuch : Int} {T : Int → Int} {N : Int → Int} {W : Int → Int} {CA : Int → Int} {CM : Int → Int} {CL : Int → Int} {CH : Int → Int} {SN : Int → Int} {CC : Int → Int} {RO : Int → Int} {WP : Int → Int} {WD : Int → Int} {WT : Int → Int} {WG : Int → Int} {WS : Int → Int} {K : Int → Int} {O : Int → Int} {Fi : Int → Int} {Be : Int → Int} {Le : Int → Int} {Mo : Int → Int} {Z : Int → Int} {LZ : Int → Int} {SM : Int → Int} {SA : Int → Int} {RL : Int → Int} {RH : Int → Int} {w : Int} {ns : Int} {nd : Int} (h80 : cc o G 80 280 (ab_ob 12 (mof m_thrown m_taped m_length m_out m_wide m_gathered m_sets m_ranges m_nodes m_at m_flags m_fault m_place m_numbered m_depth m_value m_isNot m_least0 m_most0 m_slot m_work m_got m_rowMany m_charAt m_charWide m_trail m_isMatch m_matchGroups m_allFrom m_allBefore m_founds m_pieces m_writtenMany m_templateWide m_tooMuch))) (h94 : cc o G 94 294 (za 4200 K)) (h95 : cc o G 95 295 (za 4200 O)) (h96 : cc o G 96 296 (za 4200 Fi)) (h97 : cc o G 97 297 (za 4200 Be)) (h98 : cc o G 98 298 (za 4200 Le)) (h99 : cc o G 99 299 (za 4200 Mo)) (h100 : cc o G 100 300 (zl 4200 Z)) (h101 : cc o G 101 301 (zb 4200 LZ)) (h90 : cc o G 90 290 (za 2100 SM)) (h89 : cc o G 89 289 (za 2100 SA)) (h91 : cc o G 91 291 (za 24000 RL)) (h92 : cc o G 92 292 (za 24000 RH)) (h118 : cc o G 118 318 (za 75000 T)) (h119 : cc o G 119 319 (za 75000 N)) (h120 : cc o G 120 320 (za 75000 W)) (h121 : cc o G 121 321 (za 75000 CA)) (h122 : cc o G 122 322 (za 75000 CM)) (h123 : cc o G 123 323 (za 3600 CL)) (h124 : cc o G 124 324 (za 3600 CH)) (h117 : cc o G 117 317 (za 6 SN)) (h125 : cc o G 125 325 (za 6 CC)) (h133 : cc o G 133 333 (za 40000 RO)) (h128 : cc o G 128 328 (za 300 WP)) (h129 : cc o G 129 329 (za 300 WD)) (h130 : cc o G 130 330 (za 300 WT)) (h131 : cc o G 131 331 (za 300 WG)) (h132 : cc o G 132 332 (za 300 WS)) (n18 : ab_n0 = 18) (csl : 0 ≤ m_slot ∧ m_slot ≤ 5) (jrl : rgs RL 24000 0 1114111) (jrh : rgs RH 24000 0 1114111) (jk : rgs K 4200 0 7) (jo : rgs O 4200 (-1) 3000) (jfi : rgs Fi 4200 (-1) 4199) (jbe : rgs Be 4200 (-1) 4199) (jle : rgs Le 4200 0 1000) (jmo : rgs Mo 4200 (-1) 1000) (jz : rgs Z 4200 (-1) 1000000000000) (jlz : rgs LZ 4200 0 1) (jsm : rgs SM 2100 0 24000) (jsa : rgs SA 2100 0 24000) (gt : rgs T 75000 0 6) (gn : rgs N 75000 (-1) 12499) (gw : rgs W 75000 (-1) 12499) (gca : rgs CA 75000 0 3600) (gcm : rgs CM 75000 0 24000) (gcl : rgs CL 3600 0 1114111) (gch : rgs CH 3600 0 1114111) (gsn : rgs SN 6 0 12500) (gcc : rgs CC 6 0 600) (gro : rgs RO 40000 0 12499) (gwp : rgs WP 300 0 4199) (gwd : rgs WD 300 0 31) (gwt : rgs WT 300 0 39968) (gwg : rgs WG 300 0 39968) (gws : rgs WS 300 0 4300) (jka : tka T W CA CM SM SA RL RH CL CH (12500 * m_slot) (SN m_slot) m_slot (CC m_slot) ns) (jss : sas SA SM ns) (cst : 0 ≤ m_rowMany ∧ m_rowMany ≤ 1250 ∧ 0 ≤ (SN m_slot) ∧ (SN m_slot) ≤ 12500 ∧ 0 ≤ ns ∧ ns ≤ 2100) (cw : 0 ≤ w ∧ m_work = w + 1 ∧ w < 299) (cx : 0 ≤ WP w ∧ WP w < nd ∧ 0 ≤ nd ∧ nd ≤ 4200 ∧ 0 ≤ WD w ∧ WD w ≤ 31 ∧ 0 ≤ WT w ∧ WT w + 32 ≤ 32 * m_rowMany) (cgo : 0 ≤ m_got ∧ m_got + 32 ≤ 32 * m_rowMany) (ck : K (WP w) = 7) (cfi : 0 ≤ Fi (WP w) ∧ Fi (WP w) < nd) (clm : 0 ≤ Le (WP w) ∧ Le (WP w) ≤ 100 ∧ -1 ≤ Mo (WP w) ∧ Mo (WP w) ≤ 100) (cws : 0 ≤ WS w ∧ WS w ≤ 300) (cs0 : (Mo (WP w) < 0 ∧ 2 ≤ WS w) ∨ (0 ≤ Mo (WP w) ∧ Mo (WP w) - Le (WP w) < WS w ∧ 1 ≤ WS w)) (czz : 1 ≤ Z (WP w)) (hd : 6 ≤ d) : ab_F X d y_MO_go (.code y_MO_go b_MO_go 4 none) [vR 80, vz w] G (fun oc G2 => (∃ g2 : Int, ∃ WP2 : Int → Int, ∃ WD2 : Int → Int, ∃ WT2 : Int → Int, ∃ WG2 : Int → Int, ∃ WS2 : Int → Int, oc = .returned none ∧ fx o o [280, 328, 329, 330, 331, 332] G G2 ∧ G2.length = G.length ∧ ab_slots G2 = ab_slots G ∧ cc o G2 80 280 (ab_ob 12 (mof m_thrown m_taped m_length m_out m_wide m_gathered m_sets m_ranges m_nodes m_at m_flags m_fault m_place m_numbered m_depth m_value m_isNot m_least0 m_most0 m_slot (m_work - 1) g2 m_rowMany m_charAt m_charWide m_trail m_isMatch m_matchGroups m_allFrom m_allBefore m_founds m_pieces m_writtenMany m_templateWide m_tooMuch)) ∧ cc o G2 128 328 (za 300 WP2) ∧ cc o G2 129 329 (za 300 WD2) ∧ cc o G2 130 330 (za 300 WT2) ∧ cc o G2 131 331 (za 300 WG2) ∧ cc o G2 132 332 (za 300 WS2) ∧ (rgs WP2 300 0 4199) ∧ (rgs WD2 300 0 31) ∧ (rgs WT2 300 0 39968) ∧ (rgs WG2 300 0 39968) ∧ (rgs WS2 300 0 4300) ∧ (fsm WP WD WT WG WS WP2 WD2 WT2 WG2 WS2 w) ∧ (g2 = m_got) ∧ ((Mo (WP w) < 0 ∧ 1 + Le (WP w) ≤ WS w) ∨ (0 ≤ Mo (WP w) ∧ Mo (WP w) ≤ WS w))) ∨ (∃ c2 : Int, ∃ t2 : Int, ∃ u2 : Int, ∃ WP2 : Int → Int, ∃ WD2 : Int → Int, ∃ WT2 : Int → Int, ∃ WG2 : Int → Int, ∃ WS2 : Int → Int, oc = .returned none ∧ fx o o [280, 328, 329, 330, 331, 332] G G2 ∧ G2.length = G.length ∧ ab_slots G2 = ab_slots G ∧ cc o G2 80 280 (ab_ob 12 (mof m_thrown m_taped m_length m_out m_wide m_gathered m_sets m_ranges m_nodes m_at m_flags m_fault m_place m_numbered m_depth m_value m_isNot m_least0 m_most0 m_slot (m_work + 1) m_got m_rowMany m_charAt m_charWide m_trail m_isMatch m_matchGroups m_allFrom m_allBefore m_founds m_pieces m_writtenMany m_templateWide m_tooMuch)) ∧ cc o G2 128 328 (za 300 WP2) ∧ cc o G2 129 329 (za 300 WD2) ∧ cc o G2 130 330 (za 300 WT2) ∧ cc o G2 131 331 (za 300 WG2) ∧ cc o G2 132 332 (za 300 WS2) ∧ (rgs WP2 300 0 4199) ∧ (rgs WD2 300 0 31) ∧ (rgs WT2 300 0 39968) ∧ (rgs WG2 300 0 39968) ∧ (rgs WS2 300 0 4300) ∧ (fsm WP WD WT WG WS WP2 WD2 WT2 WG2 WS2 w) ∧ (WP2 m_work = c2) ∧ (WD2 m_work = WD w) ∧ (WT2 m_work = t2) ∧ (WG2 m_work = t2) ∧ (WS2 m_work = 0) ∧ (WP2 w = WP w) ∧ (WD2 w = WD w) ∧ (WT2 w = WT w) ∧ (WG2 w = u2) ∧ (WS2 w = (WS w + 1)) ∧ (c2 = Fi (WP w)) ∧ (t2 = m_got) ∧ (u2 = m_got) ∧ ((Mo (WP w) < 0 ∧ WS w < 1 + Le (WP w)) ∨ (0 ≤ Mo (WP w) ∧ WS w < Mo (WP w))))) := by
  refine ab_F_of (by decide +kernel) (Nat.le_of_ble_eq_true rfl) ?_
  obtain ⟨Q, hQ⟩ : ∃ z : Outcome → ab_G → Prop, z = (fun oc G2 => (∃ g2 : Int, ∃ WP2 : Int → Int, ∃ WD2 : Int → Int, ∃ WT2 : Int → Int, ∃ WG2 : Int → Int, ∃ WS2 : Int → Int, oc = .returned none ∧ fx o o [280, 328, 329, 330, 331, 332] G G2 ∧ G2.length = G.length ∧ ab_slots G2 = ab_slots G ∧ cc o G2 80 280 (ab_ob 12 (mof m_thrown m_taped m_length m_out m_wide m_gathered m_sets m_ranges m_nodes m_at m_flags m_fault m_place m_numbered m_depth m_value m_isNot m_least0 m_most0 m_slot (m_work - 1) g2 m_rowMany m_charAt m_charWide m_trail m_isMatch m_matchGroups m_allFrom m_allBefore m_founds m_pieces m_writtenMany m_templateWide m_tooMuch)) ∧ cc o G2 128 328 (za 300 WP2) ∧ cc o G2 129 329 (za 300 WD2) ∧ cc o G2 130 330 (za 300 WT2) ∧ cc o G2 131 331 (za 300 WG2) ∧ cc o G2 132 332 (za 300 WS2) ∧ (rgs WP2 300 0 4199) ∧ (rgs WD2 300 0 31) ∧ (rgs WT2 300 0 39968) ∧ (rgs WG2 300 0 39968) ∧ (rgs WS2 300 0 4300) ∧ (fsm WP WD WT WG WS WP2 WD2 WT2 WG2 WS2 w) ∧ (g2 = m_got) ∧ ((Mo (WP w) < 0 ∧ 1 + Le (WP w) ≤ WS w) ∨ (0 ≤ Mo (WP w) ∧ Mo (WP w) ≤ WS w))) ∨ (∃ c2 : Int, ∃ t2 : Int, ∃ u2 : Int, ∃ WP2 : Int → Int, ∃ WD2 : Int → Int, ∃ WT2 : Int → Int, ∃ WG2 : Int → Int, ∃ WS2 : Int → Int, oc = .returned none ∧ fx o o [280, 328, 329, 330, 331, 332] G G2 ∧ G2.length = G.length ∧ ab_slots G2 = ab_slots G ∧ cc o G2 80 280 (ab_ob 12 (mof m_thrown m_taped m_length m_out m_wide m_gathered m_sets m_ranges m_nodes m_at m_flags m_fault m_place m_numbered m_depth m_value m_isNot m_least0 m_most0 m_slot (m_work + 1) m_got m_rowMany m_charAt m_charWide m_trail m_isMatch m_matchGroups m_allFrom m_allBefore m_founds m_pieces m_writtenMany m_templateWide m_tooMuch)) ∧ cc o G2 128 328 (za 300 WP2) ∧ cc o G2 129 329 (za 300 WD2) ∧ cc o G2 130 330 (za 300 WT2) ∧ cc o G2 131 331 (za 300 WG2) ∧ cc o G2 132 332 (za 300 WS2) ∧ (rgs WP2 300 0 4199) ∧ (rgs WD2 300 0 31) ∧ (rgs WT2 300 0 39968) ∧ (rgs WG2 300 0 39968) ∧ (rgs WS2 300 0 4300) ∧ (fsm WP WD WT WG WS WP2 WD2 WT2 WG2 WS2 w) ∧ (WP2 m_work = c2) ∧ (WD2 m_work = WD w) ∧ (WT2 m_work = t2) ∧ (WG2 m_work = t2) ∧ (WS2 m_work = 0) ∧ (WP2 w = WP w) ∧ (WD2 w = WD w) ∧ (WT2 w = WT w) ∧ (WG2 w = u2) ∧ (WS2 w = (WS w + 1)) ∧ (c2 = Fi (WP w)) ∧ (t2 = m_got) ∧ (u2 = m_got) ∧ ((Mo (WP w) < 0 ∧ WS w < 1 + Le (WP w)) ∨ (0 ≤ Mo (WP w) ∧ WS w < Mo (WP w))))) := ⟨_, rfl⟩
  rw [← hQ]
  change ab_W X (ab_pl y_MO_go b_MO_go 4 none) d G 0 [some (vR 80), some (vz w), none, none] [] Q
  have hfr : fx o o [280, 328, 329, 330, 331, 332] G G := fx.rf
  have hlen : G.length = G.length := rfl
  have hsl : ab_slots G = ab_slots G := rfl
  refine ab_aload_n d_MO_go_0 rfl ?_
  refine ab_getf (fs := mof m_thrown m_taped m_length m_out m_wide m_gathered m_sets m_ranges m_nodes m_at m_flags m_fault m_place m_numbered m_depth m_value m_isNot m_least0 m_most0 m_slot m_work m_got m_rowMany m_charAt m_charWide m_trail m_isMatch m_matchGroups m_allFrom m_allBefore m_founds m_pieces m_writtenMany m_templateWide m_tooMuch) f_MO_158 d_MO_go_1 h80.2.2 rfl ?_
  refine ab_iload_n d_MO_go_4 rfl ?_
  refine zz_iald d_MO_go_5 h128 (by omega) ?_
  have hq1 := gwp w (by omega) (by omega)
  refine ab_istore_n d_MO_go_6 (Nat.le_of_ble_eq_true rfl) (Nat.le_of_ble_eq_true rfl) rfl ?_
  change ab_W _ _ _ G 7 [some (vR 80), some (vz w), some (vz (WP w)), none] [] _
  refine ab_aload_n d_MO_go_7 rfl ?_
  refine ab_getf (fs := mof m_thrown m_taped m_length m_out m_wide m_gathered m_sets m_ranges m_nodes m_at m_flags m_fault m_place m_numbered m_depth m_value m_isNot m_least0 m_most0 m_slot m_work m_got m_rowMany m_charAt m_charWide m_trail m_isMatch m_matchGroups m_allFrom m_allBefore m_founds m_pieces m_writtenMany m_templateWide m_tooMuch) f_MO_161 d_MO_go_8 h80.2.2 rfl ?_
  refine ab_iload_n d_MO_go_11 rfl ?_
  refine zz_iald d_MO_go_12 h129 (by omega) ?_
  have hq2 := gwd w (by omega) (by omega)
  refine ab_istore_n d_MO_go_13 (Nat.le_of_ble_eq_true rfl) (Nat.le_of_ble_eq_true rfl) rfl ?_
  change ab_W _ _ _ G 14 [some (vR 80), some (vz w), some (vz (WP w)), some (vz (WD w))] [] _
  refine ab_aload_n d_MO_go_14 rfl ?_
  refine ab_getf (fs := mof m_thrown m_taped m_length m_out m_wide m_gathered m_sets m_ranges m_nodes m_at m_flags m_fault m_place m_numbered m_depth m_value m_isNot m_least0 m_most0 m_slot m_work m_got m_rowMany m_charAt m_charWide m_trail m_isMatch m_matchGroups m_allFrom m_allBefore m_founds m_pieces m_writtenMany m_templateWide m_tooMuch) f_MO_68 d_MO_go_15 h80.2.2 rfl ?_
  refine ab_iload_n d_MO_go_18 rfl ?_
  refine zz_lald d_MO_go_19 h100 (by omega) ?_
  have hq3 := jz (WP w) (by omega) (by omega)
  refine zz_lconst d_MO_go_20 ?_
  change ab_W _ _ _ G 21 [some (vR 80), some (vz w), some (vz (WP w)), some (vz (WD w))] [vj 0, vj (Z (WP w))] _
  refine zz_lcmp d_MO_go_21 (by omega) (by omega) (fun c4a => by exfalso; omega) (fun c4a c4b => by exfalso; omega) (fun c4a => ?_)
  · refine zz_if_ne (tgt := 36) d_MO_go_22 (by decide) (by decide) (fun c5 => ?_) (fun c5 => absurd c5 (by decide))
    refine ab_aload_n d_MO_go_36 rfl ?_
    refine ab_getf (fs := mof m_thrown m_taped m_length m_out m_wide m_gathered m_sets m_ranges m_nodes m_at m_flags m_fault m_place m_numbered m_depth m_value m_isNot m_least0 m_most0 m_slot m_work m_got m_rowMany m_charAt m_charWide m_trail m_isMatch m_matchGroups m_allFrom m_allBefore m_founds m_pieces m_writtenMany m_templateWide m_tooMuch) f_MO_50 d_MO_go_37 h80.2.2 rfl ?_
    refine ab_iload_n d_MO_go_40 rfl ?_
    refine zz_iald d_MO_go_41 h94 (by omega) ?_
    have hq6 := jk (WP w) (by omega) (by omega)
    refine zz_top (y := 7) (by omega) ?_
    change ab_W _ _ _ G 42 [some (vR 80), some (vz w), some (vz (WP w)), some (vz (WD w))] [vz 7] _
    refine zz_tableOut (tgt := 195) d_MO_go_42 (by decide) (by decide) (by decide) ?_
    refine ab_aload_n d_MO_go_195 rfl ?_
    refine ab_iload_n d_MO_go_196 rfl ?_
    refine ab_callV (d' := d - 1) (as := [vz w]) (st := []) (r := _) (z_MO_goRepeat_n (o := o) (m_thrown := m_thrown) (m_taped := m_taped) (m_length := m_length) (m_out := m_out) (m_wide := m_wide) (m_gathered := m_gathered) (m_sets := m_sets) (m_ranges := m_ranges) (m_nodes := m_nodes) (m_at := m_at) (m_flags := m_flags) (m_fault := m_fault) (m_place := m_place) (m_numbered := m_numbered) (m_depth := m_depth) (m_value := m_value) (m_isNot := m_isNot) (m_least0 := m_least0) (m_most0 := m_most0) (m_slot := m_slot) (m_work := m_work) (m_got := m_got) (m_rowMany := m_rowMany) (m_charAt := m_charAt) (m_charWide := m_charWide) (m_trail := m_trail) (m_isMatch := m_isMatch) (m_matchGroups := m_matchGroups) (m_allFrom := m_allFrom) (m_allBefore := m_allBefore) (m_founds := m_founds) (m_pieces := m_pieces) (m_writtenMany := m_writtenMany) (m_templateWide := m_templateWide) (m_tooMuch := m_tooMuch) (T := T) (N := N) (W := W) (CA := CA) (CM := CM) (CL := CL) (CH := CH) (SN := SN) (CC := CC) (RO := RO) (WP := WP) (WD := WD) (WT := WT) (WG := WG) (WS := WS) (K := K) (O := O) (Fi := Fi) (Be := Be) (Le := Le) (Mo := Mo) (Z := Z) (LZ := LZ) (SM := SM) (SA := SA) (RL := RL) (RH := RH) (w := w) (ns := ns) (nd := nd) h80 h94 h95 h96 h97 h98 h99 h100 h101 h90 h89 h91 h92 h118 h119 h120 h121 h122 h123 h124 h117 h125 h133 h128 h129 h130 h131 h132 (by omega) (by omega) jrl jrh jk jo jfi jbe jle jmo jz jlz jsm jsa gt gn gw gca gcm gcl gch gsn gcc gro gwp gwd gwt gwg gws jka jss (by omega) (by omega) (by omega) (by omega) (by omega) (by omega) (by omega) (by omega) (by omega) (by omega)) (fun oc G2 h => by rcases h with ⟨_, _, _, _, _, _, h, _⟩ | ⟨_, _, _, _, _, _, _, _, h, _⟩ <;> exact ⟨_, h⟩) (by omega) m_MO_goRepeat ml_MO_498 im_MO_goRepeat se_MO_goRepeat c_MO h80.2.2 (Nat.le_of_ble_eq_true rfl) d_MO_go_197 rfl ?_
    intro v G8 hq
    rcases hq with ⟨g29, WP210, WD211, WT212, WG213, WS214, hv, hfk, hlk, hsk, hN80, hN128, hN129, hN130, hN131, hN132, hq15, hq16, hq17, hq18, hq19, hq20, hq21, hq22⟩ | ⟨c223, t224, u225, WP226, WD227, WT228, WG229, WS230, hv, hfk, hlk, hsk, hN80, hN128, hN129, hN130, hN131, hN132, hq31, hq32, hq33, hq34, hq35, hq36, hq37, hq38, hq39, hq40, hq41, hq42, hq43, hq44, hq45, hq46, hq47, hq48, hq49, hq50⟩
    · cases hv
      have h94 := hfk.get h94 (by decide)
      have h95 := hfk.get h95 (by decide)
      have h96 := hfk.get h96 (by decide)
      have h97 := hfk.get h97 (by decide)
      have h98 := hfk.get h98 (by decide)
      have h99 := hfk.get h99 (by decide)
      have h100 := hfk.get h100 (by decide)
      have h101 := hfk.get h101 (by decide)
      have h90 := hfk.get h90 (by decide)
      have h89 := hfk.get h89 (by decide)
      have h91 := hfk.get h91 (by decide)
      have h92 := hfk.get h92 (by decide)
      have h118 := hfk.get h118 (by decide)
      have h119 := hfk.get h119 (by decide)
      have h120 := hfk.get h120 (by decide)
      have h121 := hfk.get h121 (by decide)
      have h122 := hfk.get h122 (by decide)
      have h123 := hfk.get h123 (by decide)
      have h124 := hfk.get h124 (by decide)
      have h117 := hfk.get h117 (by decide)
      have h125 := hfk.get h125 (by decide)
      have h133 := hfk.get h133 (by decide)
      have hfr := hfr.tr hfk (by decide)
      have hlen := hlk.trans hlen
      have hsl := hsk.trans hsl
      have h80 := hN80
      have h128 := hN128
      have h129 := hN129
      have h130 := hN130
      have h131 := hN131
      have h132 := hN132
      change ab_W _ _ _ G8 200 [some (vR 80), some (vz w), some (vz (WP w)), some (vz (WD w))] [] _
      refine ab_vret rfl d_MO_go_200 ?_
      rw [hQ]; exact (Or.inl ⟨_, _, _, _, _, _, rfl, hfr, hlen, hsl, h80, h128, h129, h130, h131, h132, (by first | exact hq15 | exact rgs_w hq15 (by omega)), (by first | exact hq16 | exact rgs_w hq16 (by omega)), (by first | exact hq17 | exact rgs_w hq17 (by omega)), (by first | exact hq18 | exact rgs_w hq18 (by omega)), (by first | exact hq19 | exact rgs_w hq19 (by omega)), (by assumption), (by assumption), (by omega)⟩)
    · cases hv
      have h94 := hfk.get h94 (by decide)
      have h95 := hfk.get h95 (by decide)
      have h96 := hfk.get h96 (by decide)
      have h97 := hfk.get h97 (by decide)
      have h98 := hfk.get h98 (by decide)
      have h99 := hfk.get h99 (by decide)
      have h100 := hfk.get h100 (by decide)
      have h101 := hfk.get h101 (by decide)
      have h90 := hfk.get h90 (by decide)
      have h89 := hfk.get h89 (by decide)
      have h91 := hfk.get h91 (by decide)
      have h92 := hfk.get h92 (by decide)
      have h118 := hfk.get h118 (by decide)
      have h119 := hfk.get h119 (by decide)
      have h120 := hfk.get h120 (by decide)
      have h121 := hfk.get h121 (by decide)
      have h122 := hfk.get h122 (by decide)
      have h123 := hfk.get h123 (by decide)
      have h124 := hfk.get h124 (by decide)
      have h117 := hfk.get h117 (by decide)
      have h125 := hfk.get h125 (by decide)
      have h133 := hfk.get h133 (by decide)
      have hfr := hfr.tr hfk (by decide)
      have hlen := hlk.trans hlen
      have hsl := hsk.trans hsl
      have h80 := hN80
      have h128 := hN128
      have h129 := hN129
      have h130 := hN130
      have h131 := hN131
      have h132 := hN132
      change ab_W _ _ _ G8 200 [some (vR 80), some (vz w), some (vz (WP w)), some (vz (WD w))] [] _
      refine ab_vret rfl d_MO_go_200 ?_
      rw [hQ]; exact (Or.inr ⟨_, _, _, _, _, _, _, _, rfl, hfr, hlen, hsl, h80, h128, h129, h130, h131, h132, (by first | exact hq31 | exact rgs_w hq31 (by omega)), (by first | exact hq32 | exact rgs_w hq32 (by omega)), (by first | exact hq33 | exact rgs_w hq33 (by omega)), (by first | exact hq34 | exact rgs_w hq34 (by omega)), (by first | exact hq35 | exact rgs_w hq35 (by omega)), (by assumption), (by assumption), (by assumption), (by assumption), (by assumption), (by assumption), (by assumption), (by assumption), (by assumption), (by assumption), (by assumption), (by assumption), (by assumption), (by assumption), (by omega)⟩)
set_option maxRecDepth 100000 in
set_option maxHeartbeats 4000000 in
theorem z_MO_go_Repeat_f {X : ab_X} {d : Nat} {o : Nat → Nat} {G : ab_G} {m_thrown : Int} {m_taped : Int} {m_length : Int} {m_out : Int} {m_wide : Int} {m_gathered : Int} {m_sets : Int} {m_ranges : Int} {m_nodes : Int} {m_at : Int} {m_flags : Int} {m_fault : Int} {m_place : Int} {m_numbered : Int} {m_depth : Int} {m_value : Int} {m_isNot : Int} {m_least0 : Int} {m_most0 : Int} {m_slot : Int} {m_work : Int} {m_got : Int} {m_rowMany : Int} {m_charAt : Int} {m_charWide : Int} {m_trail : Int} {m_isMatch : Int} {m_matchGroups : Int} {m_allFrom : Int} {m_allBefore : Int} {m_founds : Int} {m_pieces : Int} {m_writtenMany : Int} {m_templateWide : Int} {m_tooMuch : Int} {T : Int → Int} {N : Int → Int} {W : Int → Int} {CA : Int → Int} {CM : Int → Int} {CL : Int → Int} {CH : Int → Int} {SN : Int → Int} {CC : Int → Int} {RO : Int → Int} {WP : Int → Int} {WD : Int → Int} {WT : Int → Int} {WG : Int → Int} {WS : Int → Int} {K : Int → Int} {O : Int → Int} {Fi : Int → Int} {Be : Int → Int} {Le : Int → Int} {Mo : Int → Int} {Z : Int → Int} {LZ : Int → Int} {SM : Int → Int} {SA : Int → Int} {RL : Int → Int} {RH : Int → Int} {w : Int} {ns : Int} {nd : Int} (h80 : cc o G 80 280 (ab_ob 12 (mof m_thrown m_taped m_length m_out m_wide m_gathered m_sets m_ranges m_nodes m_at m_flags m_fault m_place m_numbered m_depth m_value m_isNot m_least0 m_most0 m_slot m_work m_got m_rowMany m_charAt m_charWide m_trail m_isMatch m_matchGroups m_allFrom m_allBefore m_founds m_pieces m_writtenMany m_templateWide m_tooMuch))) (h94 : cc o G 94 294 (za 4200 K)) (h95 : cc o G 95 295 (za 4200 O)) (h96 : cc o G 96 296 (za 4200 Fi)) (h97 : cc o G 97 297 (za 4200 Be)) (h98 : cc o G 98 298 (za 4200 Le)) (h99 : cc o G 99 299 (za 4200 Mo)) (h100 : cc o G 100 300 (zl 4200 Z)) (h101 : cc o G 101 301 (zb 4200 LZ)) (h90 : cc o G 90 290 (za 2100 SM)) (h89 : cc o G 89 289 (za 2100 SA)) (h91 : cc o G 91 291 (za 24000 RL)) (h92 : cc o G 92 292 (za 24000 RH)) (h118 : cc o G 118 318 (za 75000 T)) (h119 : cc o G 119 319 (za 75000 N)) (h120 : cc o G 120 320 (za 75000 W)) (h121 : cc o G 121 321 (za 75000 CA)) (h122 : cc o G 122 322 (za 75000 CM)) (h123 : cc o G 123 323 (za 3600 CL)) (h124 : cc o G 124 324 (za 3600 CH)) (h117 : cc o G 117 317 (za 6 SN)) (h125 : cc o G 125 325 (za 6 CC)) (h133 : cc o G 133 333 (za 40000 RO)) (h128 : cc o G 128 328 (za 300 WP)) (h129 : cc o G 129 329 (za 300 WD)) (h130 : cc o G 130 330 (za 300 WT)) (h131 : cc o G 131 331 (za 300 WG)) (h132 : cc o G 132 332 (za 300 WS)) (n18 : ab_n0 = 18) (csl : 0 ≤ m_slot ∧ m_slot ≤ 5) (jrl : rgs RL 24000 0 1114111) (jrh : rgs RH 24000 0 1114111) (jk : rgs K 4200 0 7) (jo : rgs O 4200 (-1) 3000) (jfi : rgs Fi 4200 (-1) 4199) (jbe : rgs Be 4200 (-1) 4199) (jle : rgs Le 4200 0 1000) (jmo : rgs Mo 4200 (-1) 1000) (jz : rgs Z 4200 (-1) 1000000000000) (jlz : rgs LZ 4200 0 1) (jsm : rgs SM 2100 0 24000) (jsa : rgs SA 2100 0 24000) (gt : rgs T 75000 0 6) (gn : rgs N 75000 (-1) 12499) (gw : rgs W 75000 (-1) 12499) (gca : rgs CA 75000 0 3600) (gcm : rgs CM 75000 0 24000) (gcl : rgs CL 3600 0 1114111) (gch : rgs CH 3600 0 1114111) (gsn : rgs SN 6 0 12500) (gcc : rgs CC 6 0 600) (gro : rgs RO 40000 0 12499) (gwp : rgs WP 300 0 4199) (gwd : rgs WD 300 0 31) (gwt : rgs WT 300 0 39968) (gwg : rgs WG 300 0 39968) (gws : rgs WS 300 0 4300) (jka : tka T W CA CM SM SA RL RH CL CH (12500 * m_slot) (SN m_slot) m_slot (CC m_slot) ns) (jss : sas SA SM ns) (cst : 0 ≤ m_rowMany ∧ m_rowMany ≤ 1250 ∧ 0 ≤ (SN m_slot) ∧ (SN m_slot) ≤ 12500 ∧ 0 ≤ ns ∧ ns ≤ 2100) (cw : 0 ≤ w ∧ m_work = w + 1 ∧ w < 299) (cx : 0 ≤ WP w ∧ WP w < nd ∧ 0 ≤ nd ∧ nd ≤ 4200 ∧ 0 ≤ WD w ∧ WD w ≤ 31 ∧ 0 ≤ WT w ∧ WT w + 32 ≤ 32 * m_rowMany) (cwg : 0 ≤ WG w ∧ WG w + 32 ≤ 32 * m_rowMany) (ck : K (WP w) = 7) (cfi : 0 ≤ Fi (WP w) ∧ Fi (WP w) < nd) (clm : 0 ≤ Le (WP w) ∧ Le (WP w) ≤ 100 ∧ -1 ≤ Mo (WP w) ∧ Mo (WP w) ≤ 100) (cs0 : WS w = 0) (cmo : 0 ≤ Mo (WP w) ∧ Le (WP w) ≤ Mo (WP w)) (czz : 1 ≤ Z (WP w)) (hd : 6 ≤ d) : ab_F X d y_MO_go (.code y_MO_go b_MO_go 4 none) [vR 80, vz w] G (fun oc G2 => (∃ g2 : Int, ∃ WP2 : Int → Int, ∃ WD2 : Int → Int, ∃ WT2 : Int → Int, ∃ WG2 : Int → Int, ∃ WS2 : Int → Int, oc = .returned none ∧ fx o o [280, 328, 329, 330, 331, 332] G G2 ∧ G2.length = G.length ∧ ab_slots G2 = ab_slots G ∧ cc o G2 80 280 (ab_ob 12 (mof m_thrown m_taped m_length m_out m_wide m_gathered m_sets m_ranges m_nodes m_at m_flags m_fault m_place m_numbered m_depth m_value m_isNot m_least0 m_most0 m_slot (m_work - 1) g2 m_rowMany m_charAt m_charWide m_trail m_isMatch m_matchGroups m_allFrom m_allBefore m_founds m_pieces m_writtenMany m_templateWide m_tooMuch)) ∧ cc o G2 128 328 (za 300 WP2) ∧ cc o G2 129 329 (za 300 WD2) ∧ cc o G2 130 330 (za 300 WT2) ∧ cc o G2 131 331 (za 300 WG2) ∧ cc o G2 132 332 (za 300 WS2) ∧ (rgs WP2 300 0 4199) ∧ (rgs WD2 300 0 31) ∧ (rgs WT2 300 0 39968) ∧ (rgs WG2 300 0 39968) ∧ (rgs WS2 300 0 4300) ∧ (fsm WP WD WT WG WS WP2 WD2 WT2 WG2 WS2 w) ∧ (g2 = WG w) ∧ (Mo (WP w) = 0)) ∨ (∃ c2 : Int, ∃ t2 : Int, ∃ u2 : Int, ∃ WP2 : Int → Int, ∃ WD2 : Int → Int, ∃ WT2 : Int → Int, ∃ WG2 : Int → Int, ∃ WS2 : Int → Int, oc = .returned none ∧ fx o o [280, 328, 329, 330, 331, 332] G G2 ∧ G2.length = G.length ∧ ab_slots G2 = ab_slots G ∧ cc o G2 80 280 (ab_ob 12 (mof m_thrown m_taped m_length m_out m_wide m_gathered m_sets m_ranges m_nodes m_at m_flags m_fault m_place m_numbered m_depth m_value m_isNot m_least0 m_most0 m_slot (m_work + 1) m_got m_rowMany m_charAt m_charWide m_trail m_isMatch m_matchGroups m_allFrom m_allBefore m_founds m_pieces m_writtenMany m_templateWide m_tooMuch)) ∧ cc o G2 128 328 (za 300 WP2) ∧ cc o G2 129 329 (za 300 WD2) ∧ cc o G2 130 330 (za 300 WT2) ∧ cc o G2 131 331 (za 300 WG2) ∧ cc o G2 132 332 (za 300 WS2) ∧ (rgs WP2 300 0 4199) ∧ (rgs WD2 300 0 31) ∧ (rgs WT2 300 0 39968) ∧ (rgs WG2 300 0 39968) ∧ (rgs WS2 300 0 4300) ∧ (fsm WP WD WT WG WS WP2 WD2 WT2 WG2 WS2 w) ∧ (WP2 m_work = c2) ∧ (WD2 m_work = WD w) ∧ (WT2 m_work = t2) ∧ (WG2 m_work = t2) ∧ (WS2 m_work = 0) ∧ (WP2 w = WP w) ∧ (WD2 w = WD w) ∧ (WT2 w = WT w) ∧ (WG2 w = u2) ∧ (WS2 w = 1) ∧ (c2 = Fi (WP w)) ∧ (t2 = WG w) ∧ (u2 = WG w) ∧ (0 < Mo (WP w)))) := by
  refine ab_F_of (by decide +kernel) (Nat.le_of_ble_eq_true rfl) ?_
  obtain ⟨Q, hQ⟩ : ∃ z : Outcome → ab_G → Prop, z = (fun oc G2 => (∃ g2 : Int, ∃ WP2 : Int → Int, ∃ WD2 : Int → Int, ∃ WT2 : Int → Int, ∃ WG2 : Int → Int, ∃ WS2 : Int → Int, oc = .returned none ∧ fx o o [280, 328, 329, 330, 331, 332] G G2 ∧ G2.length = G.length ∧ ab_slots G2 = ab_slots G ∧ cc o G2 80 280 (ab_ob 12 (mof m_thrown m_taped m_length m_out m_wide m_gathered m_sets m_ranges m_nodes m_at m_flags m_fault m_place m_numbered m_depth m_value m_isNot m_least0 m_most0 m_slot (m_work - 1) g2 m_rowMany m_charAt m_charWide m_trail m_isMatch m_matchGroups m_allFrom m_allBefore m_founds m_pieces m_writtenMany m_templateWide m_tooMuch)) ∧ cc o G2 128 328 (za 300 WP2) ∧ cc o G2 129 329 (za 300 WD2) ∧ cc o G2 130 330 (za 300 WT2) ∧ cc o G2 131 331 (za 300 WG2) ∧ cc o G2 132 332 (za 300 WS2) ∧ (rgs WP2 300 0 4199) ∧ (rgs WD2 300 0 31) ∧ (rgs WT2 300 0 39968) ∧ (rgs WG2 300 0 39968) ∧ (rgs WS2 300 0 4300) ∧ (fsm WP WD WT WG WS WP2 WD2 WT2 WG2 WS2 w) ∧ (g2 = WG w) ∧ (Mo (WP w) = 0)) ∨ (∃ c2 : Int, ∃ t2 : Int, ∃ u2 : Int, ∃ WP2 : Int → Int, ∃ WD2 : Int → Int, ∃ WT2 : Int → Int, ∃ WG2 : Int → Int, ∃ WS2 : Int → Int, oc = .returned none ∧ fx o o [280, 328, 329, 330, 331, 332] G G2 ∧ G2.length = G.length ∧ ab_slots G2 = ab_slots G ∧ cc o G2 80 280 (ab_ob 12 (mof m_thrown m_taped m_length m_out m_wide m_gathered m_sets m_ranges m_nodes m_at m_flags m_fault m_place m_numbered m_depth m_value m_isNot m_least0 m_most0 m_slot (m_work + 1) m_got m_rowMany m_charAt m_charWide m_trail m_isMatch m_matchGroups m_allFrom m_allBefore m_founds m_pieces m_writtenMany m_templateWide m_tooMuch)) ∧ cc o G2 128 328 (za 300 WP2) ∧ cc o G2 129 329 (za 300 WD2) ∧ cc o G2 130 330 (za 300 WT2) ∧ cc o G2 131 331 (za 300 WG2) ∧ cc o G2 132 332 (za 300 WS2) ∧ (rgs WP2 300 0 4199) ∧ (rgs WD2 300 0 31) ∧ (rgs WT2 300 0 39968) ∧ (rgs WG2 300 0 39968) ∧ (rgs WS2 300 0 4300) ∧ (fsm WP WD WT WG WS WP2 WD2 WT2 WG2 WS2 w) ∧ (WP2 m_work = c2) ∧ (WD2 m_work = WD w) ∧ (WT2 m_work = t2) ∧ (WG2 m_work = t2) ∧ (WS2 m_work = 0) ∧ (WP2 w = WP w) ∧ (WD2 w = WD w) ∧ (WT2 w = WT w) ∧ (WG2 w = u2) ∧ (WS2 w = 1) ∧ (c2 = Fi (WP w)) ∧ (t2 = WG w) ∧ (u2 = WG w) ∧ (0 < Mo (WP w)))) := ⟨_, rfl⟩
  rw [← hQ]
  change ab_W X (ab_pl y_MO_go b_MO_go 4 none) d G 0 [some (vR 80), some (vz w), none, none] [] Q
  have hfr : fx o o [280, 328, 329, 330, 331, 332] G G := fx.rf
  have hlen : G.length = G.length := rfl
  have hsl : ab_slots G = ab_slots G := rfl
  refine ab_aload_n d_MO_go_0 rfl ?_
  refine ab_getf (fs := mof m_thrown m_taped m_length m_out m_wide m_gathered m_sets m_ranges m_nodes m_at m_flags m_fault m_place m_numbered m_depth m_value m_isNot m_least0 m_most0 m_slot m_work m_got m_rowMany m_charAt m_charWide m_trail m_isMatch m_matchGroups m_allFrom m_allBefore m_founds m_pieces m_writtenMany m_templateWide m_tooMuch) f_MO_158 d_MO_go_1 h80.2.2 rfl ?_
  refine ab_iload_n d_MO_go_4 rfl ?_
  refine zz_iald d_MO_go_5 h128 (by omega) ?_
  have hq1 := gwp w (by omega) (by omega)
  refine ab_istore_n d_MO_go_6 (Nat.le_of_ble_eq_true rfl) (Nat.le_of_ble_eq_true rfl) rfl ?_
  change ab_W _ _ _ G 7 [some (vR 80), some (vz w), some (vz (WP w)), none] [] _
  refine ab_aload_n d_MO_go_7 rfl ?_
  refine ab_getf (fs := mof m_thrown m_taped m_length m_out m_wide m_gathered m_sets m_ranges m_nodes m_at m_flags m_fault m_place m_numbered m_depth m_value m_isNot m_least0 m_most0 m_slot m_work m_got m_rowMany m_charAt m_charWide m_trail m_isMatch m_matchGroups m_allFrom m_allBefore m_founds m_pieces m_writtenMany m_templateWide m_tooMuch) f_MO_161 d_MO_go_8 h80.2.2 rfl ?_
  refine ab_iload_n d_MO_go_11 rfl ?_
  refine zz_iald d_MO_go_12 h129 (by omega) ?_
  have hq2 := gwd w (by omega) (by omega)
  refine ab_istore_n d_MO_go_13 (Nat.le_of_ble_eq_true rfl) (Nat.le_of_ble_eq_true rfl) rfl ?_
  change ab_W _ _ _ G 14 [some (vR 80), some (vz w), some (vz (WP w)), some (vz (WD w))] [] _
  refine ab_aload_n d_MO_go_14 rfl ?_
  refine ab_getf (fs := mof m_thrown m_taped m_length m_out m_wide m_gathered m_sets m_ranges m_nodes m_at m_flags m_fault m_place m_numbered m_depth m_value m_isNot m_least0 m_most0 m_slot m_work m_got m_rowMany m_charAt m_charWide m_trail m_isMatch m_matchGroups m_allFrom m_allBefore m_founds m_pieces m_writtenMany m_templateWide m_tooMuch) f_MO_68 d_MO_go_15 h80.2.2 rfl ?_
  refine ab_iload_n d_MO_go_18 rfl ?_
  refine zz_lald d_MO_go_19 h100 (by omega) ?_
  have hq3 := jz (WP w) (by omega) (by omega)
  refine zz_lconst d_MO_go_20 ?_
  change ab_W _ _ _ G 21 [some (vR 80), some (vz w), some (vz (WP w)), some (vz (WD w))] [vj 0, vj (Z (WP w))] _
  refine zz_lcmp d_MO_go_21 (by omega) (by omega) (fun c4a => by exfalso; omega) (fun c4a c4b => by exfalso; omega) (fun c4a => ?_)
  · refine zz_if_ne (tgt := 36) d_MO_go_22 (by decide) (by decide) (fun c5 => ?_) (fun c5 => absurd c5 (by decide))
    refine ab_aload_n d_MO_go_36 rfl ?_
    refine ab_getf (fs := mof m_thrown m_taped m_length m_out m_wide m_gathered m_sets m_ranges m_nodes m_at m_flags m_fault m_place m_numbered m_depth m_value m_isNot m_least0 m_most0 m_slot m_work m_got m_rowMany m_charAt m_charWide m_trail m_isMatch m_matchGroups m_allFrom m_allBefore m_founds m_pieces m_writtenMany m_templateWide m_tooMuch) f_MO_50 d_MO_go_37 h80.2.2 rfl ?_
    refine ab_iload_n d_MO_go_40 rfl ?_
    refine zz_iald d_MO_go_41 h94 (by omega) ?_
    have hq6 := jk (WP w) (by omega) (by omega)
    refine zz_top (y := 7) (by omega) ?_
    change ab_W _ _ _ G 42 [some (vR 80), some (vz w), some (vz (WP w)), some (vz (WD w))] [vz 7] _
    refine zz_tableOut (tgt := 195) d_MO_go_42 (by decide) (by decide) (by decide) ?_
    refine ab_aload_n d_MO_go_195 rfl ?_
    refine ab_iload_n d_MO_go_196 rfl ?_
    refine ab_callV (d' := d - 1) (as := [vz w]) (st := []) (r := _) (z_MO_goRepeat_f (o := o) (m_thrown := m_thrown) (m_taped := m_taped) (m_length := m_length) (m_out := m_out) (m_wide := m_wide) (m_gathered := m_gathered) (m_sets := m_sets) (m_ranges := m_ranges) (m_nodes := m_nodes) (m_at := m_at) (m_flags := m_flags) (m_fault := m_fault) (m_place := m_place) (m_numbered := m_numbered) (m_depth := m_depth) (m_value := m_value) (m_isNot := m_isNot) (m_least0 := m_least0) (m_most0 := m_most0) (m_slot := m_slot) (m_work := m_work) (m_got := m_got) (m_rowMany := m_rowMany) (m_charAt := m_charAt) (m_charWide := m_charWide) (m_trail := m_trail) (m_isMatch := m_isMatch) (m_matchGroups := m_matchGroups) (m_allFrom := m_allFrom) (m_allBefore := m_allBefore) (m_founds := m_founds) (m_pieces := m_pieces) (m_writtenMany := m_writtenMany) (m_templateWide := m_templateWide) (m_tooMuch := m_tooMuch) (T := T) (N := N) (W := W) (CA := CA) (CM := CM) (CL := CL) (CH := CH) (SN := SN) (CC := CC) (RO := RO) (WP := WP) (WD := WD) (WT := WT) (WG := WG) (WS := WS) (K := K) (O := O) (Fi := Fi) (Be := Be) (Le := Le) (Mo := Mo) (Z := Z) (LZ := LZ) (SM := SM) (SA := SA) (RL := RL) (RH := RH) (w := w) (ns := ns) (nd := nd) h80 h94 h95 h96 h97 h98 h99 h100 h101 h90 h89 h91 h92 h118 h119 h120 h121 h122 h123 h124 h117 h125 h133 h128 h129 h130 h131 h132 (by omega) (by omega) jrl jrh jk jo jfi jbe jle jmo jz jlz jsm jsa gt gn gw gca gcm gcl gch gsn gcc gro gwp gwd gwt gwg gws jka jss (by omega) (by omega) (by omega) (by omega) (by omega) (by omega) (by omega) (by omega) (by omega) (by omega)) (fun oc G2 h => by rcases h with ⟨_, _, _, _, _, _, h, _⟩ | ⟨_, _, _, _, _, _, _, _, h, _⟩ <;> exact ⟨_, h⟩) (by omega) m_MO_goRepeat ml_MO_498 im_MO_goRepeat se_MO_goRepeat c_MO h80.2.2 (Nat.le_of_ble_eq_true rfl) d_MO_go_197 rfl ?_
    intro v G8 hq
    rcases hq with ⟨g29, WP210, WD211, WT212, WG213, WS214, hv, hfk, hlk, hsk, hN80, hN128, hN129, hN130, hN131, hN132, hq15, hq16, hq17, hq18, hq19, hq20, hq21, hq22⟩ | ⟨c223, t224, u225, WP226, WD227, WT228, WG229, WS230, hv, hfk, hlk, hsk, hN80, hN128, hN129, hN130, hN131, hN132, hq31, hq32, hq33, hq34, hq35, hq36, hq37, hq38, hq39, hq40, hq41, hq42, hq43, hq44, hq45, hq46, hq47, hq48, hq49, hq50⟩
    · cases hv
      have h94 := hfk.get h94 (by decide)
      have h95 := hfk.get h95 (by decide)
      have h96 := hfk.get h96 (by decide)
      have h97 := hfk.get h97 (by decide)
      have h98 := hfk.get h98 (by decide)
      have h99 := hfk.get h99 (by decide)
      have h100 := hfk.get h100 (by decide)
      have h101 := hfk.get h101 (by decide)
      have h90 := hfk.get h90 (by decide)
      have h89 := hfk.get h89 (by decide)
      have h91 := hfk.get h91 (by decide)
      have h92 := hfk.get h92 (by decide)
      have h118 := hfk.get h118 (by decide)
      have h119 := hfk.get h119 (by decide)
      have h120 := hfk.get h120 (by decide)
      have h121 := hfk.get h121 (by decide)
      have h122 := hfk.get h122 (by decide)
      have h123 := hfk.get h123 (by decide)
      have h124 := hfk.get h124 (by decide)
      have h117 := hfk.get h117 (by decide)
      have h125 := hfk.get h125 (by decide)
      have h133 := hfk.get h133 (by decide)
      have hfr := hfr.tr hfk (by decide)
      have hlen := hlk.trans hlen
      have hsl := hsk.trans hsl
      have h80 := hN80
      have h128 := hN128
      have h129 := hN129
      have h130 := hN130
      have h131 := hN131
      have h132 := hN132
      change ab_W _ _ _ G8 200 [some (vR 80), some (vz w), some (vz (WP w)), some (vz (WD w))] [] _
      refine ab_vret rfl d_MO_go_200 ?_
      rw [hQ]; exact (Or.inl ⟨_, _, _, _, _, _, rfl, hfr, hlen, hsl, h80, h128, h129, h130, h131, h132, (by first | exact hq15 | exact rgs_w hq15 (by omega)), (by first | exact hq16 | exact rgs_w hq16 (by omega)), (by first | exact hq17 | exact rgs_w hq17 (by omega)), (by first | exact hq18 | exact rgs_w hq18 (by omega)), (by first | exact hq19 | exact rgs_w hq19 (by omega)), (by assumption), (by assumption), (by omega)⟩)
    · cases hv
      have h94 := hfk.get h94 (by decide)
      have h95 := hfk.get h95 (by decide)
      have h96 := hfk.get h96 (by decide)
      have h97 := hfk.get h97 (by decide)
      have h98 := hfk.get h98 (by decide)
      have h99 := hfk.get h99 (by decide)
      have h100 := hfk.get h100 (by decide)
      have h101 := hfk.get h101 (by decide)
      have h90 := hfk.get h90 (by decide)
      have h89 := hfk.get h89 (by decide)
      have h91 := hfk.get h91 (by decide)
      have h92 := hfk.get h92 (by decide)
      have h118 := hfk.get h118 (by decide)
      have h119 := hfk.get h119 (by decide)
      have h120 := hfk.get h120 (by decide)
      have h121 := hfk.get h121 (by decide)
      have h122 := hfk.get h122 (by decide)
      have h123 := hfk.get h123 (by decide)
      have h124 := hfk.get h124 (by decide)
      have h117 := hfk.get h117 (by decide)
      have h125 := hfk.get h125 (by decide)
      have h133 := hfk.get h133 (by decide)
      have hfr := hfr.tr hfk (by decide)
      have hlen := hlk.trans hlen
      have hsl := hsk.trans hsl
      have h80 := hN80
      have h128 := hN128
      have h129 := hN129
      have h130 := hN130
      have h131 := hN131
      have h132 := hN132
      change ab_W _ _ _ G8 200 [some (vR 80), some (vz w), some (vz (WP w)), some (vz (WD w))] [] _
      refine ab_vret rfl d_MO_go_200 ?_
      rw [hQ]; exact (Or.inr ⟨_, _, _, _, _, _, _, _, rfl, hfr, hlen, hsl, h80, h128, h129, h130, h131, h132, (by first | exact hq31 | exact rgs_w hq31 (by omega)), (by first | exact hq32 | exact rgs_w hq32 (by omega)), (by first | exact hq33 | exact rgs_w hq33 (by omega)), (by first | exact hq34 | exact rgs_w hq34 (by omega)), (by first | exact hq35 | exact rgs_w hq35 (by omega)), (by assumption), (by assumption), (by assumption), (by assumption), (by assumption), (by assumption), (by assumption), (by assumption), (by assumption), (by assumption), (by assumption), (by assumption), (by assumption), (by assumption), (by omega)⟩)
set_option maxRecDepth 100000 in
set_option maxHeartbeats 4000000 in
theorem z_MO_go_Repeat_s {X : ab_X} {d : Nat} {o : Nat → Nat} {G : ab_G} {m_thrown : Int} {m_taped : Int} {m_length : Int} {m_out : Int} {m_wide : Int} {m_gathered : Int} {m_sets : Int} {m_ranges : Int} {m_nodes : Int} {m_at : Int} {m_flags : Int} {m_fault : Int} {m_place : Int} {m_numbered : Int} {m_depth : Int} {m_value : Int} {m_isNot : Int} {m_least0 : Int} {m_most0 : Int} {m_slot : Int} {m_work : Int} {m_got : Int} {m_rowMany : Int} {m_charAt : Int} {m_charWide : Int} {m_trail : Int} {m_isMatch : Int} {m_matchGroups : Int} {m_allFrom : Int} {m_allBefore : Int} {m_founds : Int} {m_pieces : Int} {m_writtenMany : Int} {m_templateWide : Int} {m_tooMuch : Int} {T : Int → Int} {N : Int → Int} {W : Int → Int} {CA : Int → Int} {CM : Int → Int} {CL : Int → Int} {CH : Int → Int} {SN : Int → Int} {CC : Int → Int} {RO : Int → Int} {WP : Int → Int} {WD : Int → Int} {WT : Int → Int} {WG : Int → Int} {WS : Int → Int} {K : Int → Int} {O : Int → Int} {Fi : Int → Int} {Be : Int → Int} {Le : Int → Int} {Mo : Int → Int} {Z : Int → Int} {LZ : Int → Int} {SM : Int → Int} {SA : Int → Int} {RL : Int → Int} {RH : Int → Int} {w : Int} {ns : Int} {nd : Int} (h80 : cc o G 80 280 (ab_ob 12 (mof m_thrown m_taped m_length m_out m_wide m_gathered m_sets m_ranges m_nodes m_at m_flags m_fault m_place m_numbered m_depth m_value m_isNot m_least0 m_most0 m_slot m_work m_got m_rowMany m_charAt m_charWide m_trail m_isMatch m_matchGroups m_allFrom m_allBefore m_founds m_pieces m_writtenMany m_templateWide m_tooMuch))) (h94 : cc o G 94 294 (za 4200 K)) (h95 : cc o G 95 295 (za 4200 O)) (h96 : cc o G 96 296 (za 4200 Fi)) (h97 : cc o G 97 297 (za 4200 Be)) (h98 : cc o G 98 298 (za 4200 Le)) (h99 : cc o G 99 299 (za 4200 Mo)) (h100 : cc o G 100 300 (zl 4200 Z)) (h101 : cc o G 101 301 (zb 4200 LZ)) (h90 : cc o G 90 290 (za 2100 SM)) (h89 : cc o G 89 289 (za 2100 SA)) (h91 : cc o G 91 291 (za 24000 RL)) (h92 : cc o G 92 292 (za 24000 RH)) (h118 : cc o G 118 318 (za 75000 T)) (h119 : cc o G 119 319 (za 75000 N)) (h120 : cc o G 120 320 (za 75000 W)) (h121 : cc o G 121 321 (za 75000 CA)) (h122 : cc o G 122 322 (za 75000 CM)) (h123 : cc o G 123 323 (za 3600 CL)) (h124 : cc o G 124 324 (za 3600 CH)) (h117 : cc o G 117 317 (za 6 SN)) (h125 : cc o G 125 325 (za 6 CC)) (h133 : cc o G 133 333 (za 40000 RO)) (h128 : cc o G 128 328 (za 300 WP)) (h129 : cc o G 129 329 (za 300 WD)) (h130 : cc o G 130 330 (za 300 WT)) (h131 : cc o G 131 331 (za 300 WG)) (h132 : cc o G 132 332 (za 300 WS)) (n18 : ab_n0 = 18) (csl : 0 ≤ m_slot ∧ m_slot ≤ 5) (jrl : rgs RL 24000 0 1114111) (jrh : rgs RH 24000 0 1114111) (jk : rgs K 4200 0 7) (jo : rgs O 4200 (-1) 3000) (jfi : rgs Fi 4200 (-1) 4199) (jbe : rgs Be 4200 (-1) 4199) (jle : rgs Le 4200 0 1000) (jmo : rgs Mo 4200 (-1) 1000) (jz : rgs Z 4200 (-1) 1000000000000) (jlz : rgs LZ 4200 0 1) (jsm : rgs SM 2100 0 24000) (jsa : rgs SA 2100 0 24000) (gt : rgs T 75000 0 6) (gn : rgs N 75000 (-1) 12499) (gw : rgs W 75000 (-1) 12499) (gca : rgs CA 75000 0 3600) (gcm : rgs CM 75000 0 24000) (gcl : rgs CL 3600 0 1114111) (gch : rgs CH 3600 0 1114111) (gsn : rgs SN 6 0 12500) (gcc : rgs CC 6 0 600) (gro : rgs RO 40000 0 12499) (gwp : rgs WP 300 0 4199) (gwd : rgs WD 300 0 31) (gwt : rgs WT 300 0 39968) (gwg : rgs WG 300 0 39968) (gws : rgs WS 300 0 4300) (jka : tka T W CA CM SM SA RL RH CL CH (12500 * m_slot) (SN m_slot) m_slot (CC m_slot) ns) (jss : sas SA SM ns) (cst : 0 ≤ m_rowMany ∧ m_rowMany ≤ 1250 ∧ 0 ≤ (SN m_slot) ∧ (SN m_slot) ≤ 12500 ∧ 0 ≤ ns ∧ ns ≤ 2100) (cw : 0 ≤ w ∧ m_work = w + 1 ∧ w < 299) (cx : 0 ≤ WP w ∧ WP w < nd ∧ 0 ≤ nd ∧ nd ≤ 4200 ∧ 0 ≤ WD w ∧ WD w ≤ 31 ∧ 0 ≤ WT w ∧ WT w + 32 ≤ 32 * m_rowMany) (jto : rokk RO (WT w) (WD w + 1) (SN m_slot)) (jgo : rokk RO m_got (WD w + 1) (SN m_slot)) (cgo : 0 ≤ m_got ∧ m_got + 32 ≤ 32 * m_rowMany) (ck : K (WP w) = 7) (cfi : 0 ≤ Fi (WP w) ∧ Fi (WP w) < nd) (clm : 0 ≤ Le (WP w) ∧ Le (WP w) ≤ 100 ∧ -1 ≤ Mo (WP w) ∧ Mo (WP w) ≤ 100) (cs0 : 1 ≤ WS w ∧ WS w ≤ Mo (WP w) - Le (WP w)) (cmo : 0 ≤ Mo (WP w) ∧ Le (WP w) ≤ Mo (WP w)) (crs : m_rowMany ≤ 1249 ∧ (SN m_slot) + WD w + 1 ≤ 12500) (czz : 1 ≤ Z (WP w)) (hd : 7 ≤ d) : ab_F X d y_MO_go (.code y_MO_go b_MO_go 4 none) [vR 80, vz w] G (fun oc G2 => (∃ g2 : Int, ∃ WP2 : Int → Int, ∃ WD2 : Int → Int, ∃ WT2 : Int → Int, ∃ WG2 : Int → Int, ∃ WS2 : Int → Int, ∃ RO2 : Int → Int, ∃ T2 : Int → Int, ∃ N2 : Int → Int, ∃ W2 : Int → Int, ∃ SN2 : Int → Int, oc = .returned none ∧ fx o o [280, 328, 329, 330, 331, 332, 333, 318, 319, 320, 317] G G2 ∧ G2.length = G.length ∧ ab_slots G2 = ab_slots G ∧ cc o G2 80 280 (ab_ob 12 (mof m_thrown m_taped m_length m_out m_wide m_gathered m_sets m_ranges m_nodes m_at m_flags m_fault m_place m_numbered m_depth m_value m_isNot m_least0 m_most0 m_slot (m_work - 1) g2 (m_rowMany + 1) m_charAt m_charWide m_trail m_isMatch m_matchGroups m_allFrom m_allBefore m_founds m_pieces m_writtenMany m_templateWide m_tooMuch)) ∧ cc o G2 128 328 (za 300 WP2) ∧ cc o G2 129 329 (za 300 WD2) ∧ cc o G2 130 330 (za 300 WT2) ∧ cc o G2 131 331 (za 300 WG2) ∧ cc o G2 132 332 (za 300 WS2) ∧ cc o G2 133 333 (za 40000 RO2) ∧ cc o G2 118 318 (za 75000 T2) ∧ cc o G2 119 319 (za 75000 N2) ∧ cc o G2 120 320 (za 75000 W2) ∧ cc o G2 117 317 (za 6 SN2) ∧ (rgs WP2 300 0 4199) ∧ (rgs WD2 300 0 31) ∧ (rgs WT2 300 0 39968) ∧ (rgs WG2 300 0 39968) ∧ (rgs WS2 300 0 4300) ∧ (fsm WP WD WT WG WS WP2 WD2 WT2 WG2 WS2 w) ∧ (g2 = (32 * m_rowMany)) ∧ (Mo (WP w) ≤ WS w) ∧ (rgs RO2 40000 0 12499) ∧ (rgs T2 75000 0 6) ∧ (rgs N2 75000 (-1) 12499) ∧ (rgs W2 75000 (-1) 12499) ∧ (rgs SN2 6 0 12500) ∧ ((SN m_slot) ≤ SN2 m_slot ∧ SN2 m_slot ≤ (SN m_slot) + WD w + 1) ∧ (rsm RO RO2 (32 * m_rowMany)) ∧ (sgn T2 N2 W2 (12500 * m_slot) (SN m_slot) (SN2 m_slot)) ∧ (stx T N W CA CM T2 N2 W2 CA CM (12500 * m_slot) (SN m_slot)) ∧ (sno SN SN2 m_slot) ∧ (tka T2 W2 CA CM SM SA RL RH CL CH (12500 * m_slot) (SN2 m_slot) m_slot (CC m_slot) ns) ∧ (rokk RO2 (32 * m_rowMany) (WD w + 1) (SN2 m_slot)) ∧ (rEl T2 N2 W2 RO2 m_slot (SN m_slot) (SN2 m_slot) (32 * m_rowMany) (WD w + 1) (LZ (WP w)) (fun i => RO (m_got + i)) (fun i => RO (WT w + i)))) ∨ (∃ c2 : Int, ∃ t2 : Int, ∃ u2 : Int, ∃ WP2 : Int → Int, ∃ WD2 : Int → Int, ∃ WT2 : Int → Int, ∃ WG2 : Int → Int, ∃ WS2 : Int → Int, ∃ RO2 : Int → Int, ∃ T2 : Int → Int, ∃ N2 : Int → Int, ∃ W2 : Int → Int, ∃ SN2 : Int → Int, oc = .returned none ∧ fx o o [280, 328, 329, 330, 331, 332, 333, 318, 319, 320, 317] G G2 ∧ G2.length = G.length ∧ ab_slots G2 = ab_slots G ∧ cc o G2 80 280 (ab_ob 12 (mof m_thrown m_taped m_length m_out m_wide m_gathered m_sets m_ranges m_nodes m_at m_flags m_fault m_place m_numbered m_depth m_value m_isNot m_least0 m_most0 m_slot (m_work + 1) m_got (m_rowMany + 1) m_charAt m_charWide m_trail m_isMatch m_matchGroups m_allFrom m_allBefore m_founds m_pieces m_writtenMany m_templateWide m_tooMuch)) ∧ cc o G2 128 328 (za 300 WP2) ∧ cc o G2 129 329 (za 300 WD2) ∧ cc o G2 130 330 (za 300 WT2) ∧ cc o G2 131 331 (za 300 WG2) ∧ cc o G2 132 332 (za 300 WS2) ∧ cc o G2 133 333 (za 40000 RO2) ∧ cc o G2 118 318 (za 75000 T2) ∧ cc o G2 119 319 (za 75000 N2) ∧ cc o G2 120 320 (za 75000 W2) ∧ cc o G2 117 317 (za 6 SN2) ∧ (rgs WP2 300 0 4199) ∧ (rgs WD2 300 0 31) ∧ (rgs WT2 300 0 39968) ∧ (rgs WG2 300 0 39968) ∧ (rgs WS2 300 0 4300) ∧ (fsm WP WD WT WG WS WP2 WD2 WT2 WG2 WS2 w) ∧ (WP2 m_work = c2) ∧ (WD2 m_work = WD w) ∧ (WT2 m_work = t2) ∧ (WG2 m_work = t2) ∧ (WS2 m_work = 0) ∧ (WP2 w = WP w) ∧ (WD2 w = WD w) ∧ (WT2 w = WT w) ∧ (WG2 w = u2) ∧ (WS2 w = (WS w + 1)) ∧ (c2 = Fi (WP w)) ∧ (t2 = (32 * m_rowMany)) ∧ (u2 = (32 * m_rowMany)) ∧ (WS w < Mo (WP w)) ∧ (rgs RO2 40000 0 12499) ∧ (rgs T2 75000 0 6) ∧ (rgs N2 75000 (-1) 12499) ∧ (rgs W2 75000 (-1) 12499) ∧ (rgs SN2 6 0 12500) ∧ ((SN m_slot) ≤ SN2 m_slot ∧ SN2 m_slot ≤ (SN m_slot) + WD w + 1) ∧ (rsm RO RO2 (32 * m_rowMany)) ∧ (sgn T2 N2 W2 (12500 * m_slot) (SN m_slot) (SN2 m_slot)) ∧ (stx T N W CA CM T2 N2 W2 CA CM (12500 * m_slot) (SN m_slot)) ∧ (sno SN SN2 m_slot) ∧ (tka T2 W2 CA CM SM SA RL RH CL CH (12500 * m_slot) (SN2 m_slot) m_slot (CC m_slot) ns) ∧ (rokk RO2 (32 * m_rowMany) (WD w + 1) (SN2 m_slot)) ∧ (rEl T2 N2 W2 RO2 m_slot (SN m_slot) (SN2 m_slot) (32 * m_rowMany) (WD w + 1) (LZ (WP w)) (fun i => RO (m_got + i)) (fun i => RO (WT w + i))))) := by
  refine ab_F_of (by decide +kernel) (Nat.le_of_ble_eq_true rfl) ?_
  obtain ⟨Q, hQ⟩ : ∃ z : Outcome → ab_G → Prop, z = (fun oc G2 => (∃ g2 : Int, ∃ WP2 : Int → Int, ∃ WD2 : Int → Int, ∃ WT2 : Int → Int, ∃ WG2 : Int → Int, ∃ WS2 : Int → Int, ∃ RO2 : Int → Int, ∃ T2 : Int → Int, ∃ N2 : Int → Int, ∃ W2 : Int → Int, ∃ SN2 : Int → Int, oc = .returned none ∧ fx o o [280, 328, 329, 330, 331, 332, 333, 318, 319, 320, 317] G G2 ∧ G2.length = G.length ∧ ab_slots G2 = ab_slots G ∧ cc o G2 80 280 (ab_ob 12 (mof m_thrown m_taped m_length m_out m_wide m_gathered m_sets m_ranges m_nodes m_at m_flags m_fault m_place m_numbered m_depth m_value m_isNot m_least0 m_most0 m_slot (m_work - 1) g2 (m_rowMany + 1) m_charAt m_charWide m_trail m_isMatch m_matchGroups m_allFrom m_allBefore m_founds m_pieces m_writtenMany m_templateWide m_tooMuch)) ∧ cc o G2 128 328 (za 300 WP2) ∧ cc o G2 129 329 (za 300 WD2) ∧ cc o G2 130 330 (za 300 WT2) ∧ cc o G2 131 331 (za 300 WG2) ∧ cc o G2 132 332 (za 300 WS2) ∧ cc o G2 133 333 (za 40000 RO2) ∧ cc o G2 118 318 (za 75000 T2) ∧ cc o G2 119 319 (za 75000 N2) ∧ cc o G2 120 320 (za 75000 W2) ∧ cc o G2 117 317 (za 6 SN2) ∧ (rgs WP2 300 0 4199) ∧ (rgs WD2 300 0 31) ∧ (rgs WT2 300 0 39968) ∧ (rgs WG2 300 0 39968) ∧ (rgs WS2 300 0 4300) ∧ (fsm WP WD WT WG WS WP2 WD2 WT2 WG2 WS2 w) ∧ (g2 = (32 * m_rowMany)) ∧ (Mo (WP w) ≤ WS w) ∧ (rgs RO2 40000 0 12499) ∧ (rgs T2 75000 0 6) ∧ (rgs N2 75000 (-1) 12499) ∧ (rgs W2 75000 (-1) 12499) ∧ (rgs SN2 6 0 12500) ∧ ((SN m_slot) ≤ SN2 m_slot ∧ SN2 m_slot ≤ (SN m_slot) + WD w + 1) ∧ (rsm RO RO2 (32 * m_rowMany)) ∧ (sgn T2 N2 W2 (12500 * m_slot) (SN m_slot) (SN2 m_slot)) ∧ (stx T N W CA CM T2 N2 W2 CA CM (12500 * m_slot) (SN m_slot)) ∧ (sno SN SN2 m_slot) ∧ (tka T2 W2 CA CM SM SA RL RH CL CH (12500 * m_slot) (SN2 m_slot) m_slot (CC m_slot) ns) ∧ (rokk RO2 (32 * m_rowMany) (WD w + 1) (SN2 m_slot)) ∧ (rEl T2 N2 W2 RO2 m_slot (SN m_slot) (SN2 m_slot) (32 * m_rowMany) (WD w + 1) (LZ (WP w)) (fun i => RO (m_got + i)) (fun i => RO (WT w + i)))) ∨ (∃ c2 : Int, ∃ t2 : Int, ∃ u2 : Int, ∃ WP2 : Int → Int, ∃ WD2 : Int → Int, ∃ WT2 : Int → Int, ∃ WG2 : Int → Int, ∃ WS2 : Int → Int, ∃ RO2 : Int → Int, ∃ T2 : Int → Int, ∃ N2 : Int → Int, ∃ W2 : Int → Int, ∃ SN2 : Int → Int, oc = .returned none ∧ fx o o [280, 328, 329, 330, 331, 332, 333, 318, 319, 320, 317] G G2 ∧ G2.length = G.length ∧ ab_slots G2 = ab_slots G ∧ cc o G2 80 280 (ab_ob 12 (mof m_thrown m_taped m_length m_out m_wide m_gathered m_sets m_ranges m_nodes m_at m_flags m_fault m_place m_numbered m_depth m_value m_isNot m_least0 m_most0 m_slot (m_work + 1) m_got (m_rowMany + 1) m_charAt m_charWide m_trail m_isMatch m_matchGroups m_allFrom m_allBefore m_founds m_pieces m_writtenMany m_templateWide m_tooMuch)) ∧ cc o G2 128 328 (za 300 WP2) ∧ cc o G2 129 329 (za 300 WD2) ∧ cc o G2 130 330 (za 300 WT2) ∧ cc o G2 131 331 (za 300 WG2) ∧ cc o G2 132 332 (za 300 WS2) ∧ cc o G2 133 333 (za 40000 RO2) ∧ cc o G2 118 318 (za 75000 T2) ∧ cc o G2 119 319 (za 75000 N2) ∧ cc o G2 120 320 (za 75000 W2) ∧ cc o G2 117 317 (za 6 SN2) ∧ (rgs WP2 300 0 4199) ∧ (rgs WD2 300 0 31) ∧ (rgs WT2 300 0 39968) ∧ (rgs WG2 300 0 39968) ∧ (rgs WS2 300 0 4300) ∧ (fsm WP WD WT WG WS WP2 WD2 WT2 WG2 WS2 w) ∧ (WP2 m_work = c2) ∧ (WD2 m_work = WD w) ∧ (WT2 m_work = t2) ∧ (WG2 m_work = t2) ∧ (WS2 m_work = 0) ∧ (WP2 w = WP w) ∧ (WD2 w = WD w) ∧ (WT2 w = WT w) ∧ (WG2 w = u2) ∧ (WS2 w = (WS w + 1)) ∧ (c2 = Fi (WP w)) ∧ (t2 = (32 * m_rowMany)) ∧ (u2 = (32 * m_rowMany)) ∧ (WS w < Mo (WP w)) ∧ (rgs RO2 40000 0 12499) ∧ (rgs T2 75000 0 6) ∧ (rgs N2 75000 (-1) 12499) ∧ (rgs W2 75000 (-1) 12499) ∧ (rgs SN2 6 0 12500) ∧ ((SN m_slot) ≤ SN2 m_slot ∧ SN2 m_slot ≤ (SN m_slot) + WD w + 1) ∧ (rsm RO RO2 (32 * m_rowMany)) ∧ (sgn T2 N2 W2 (12500 * m_slot) (SN m_slot) (SN2 m_slot)) ∧ (stx T N W CA CM T2 N2 W2 CA CM (12500 * m_slot) (SN m_slot)) ∧ (sno SN SN2 m_slot) ∧ (tka T2 W2 CA CM SM SA RL RH CL CH (12500 * m_slot) (SN2 m_slot) m_slot (CC m_slot) ns) ∧ (rokk RO2 (32 * m_rowMany) (WD w + 1) (SN2 m_slot)) ∧ (rEl T2 N2 W2 RO2 m_slot (SN m_slot) (SN2 m_slot) (32 * m_rowMany) (WD w + 1) (LZ (WP w)) (fun i => RO (m_got + i)) (fun i => RO (WT w + i))))) := ⟨_, rfl⟩
  rw [← hQ]
  change ab_W X (ab_pl y_MO_go b_MO_go 4 none) d G 0 [some (vR 80), some (vz w), none, none] [] Q
  have hfr : fx o o [280, 328, 329, 330, 331, 332, 333, 318, 319, 320, 317] G G := fx.rf
  have hlen : G.length = G.length := rfl
  have hsl : ab_slots G = ab_slots G := rfl
  refine ab_aload_n d_MO_go_0 rfl ?_
  refine ab_getf (fs := mof m_thrown m_taped m_length m_out m_wide m_gathered m_sets m_ranges m_nodes m_at m_flags m_fault m_place m_numbered m_depth m_value m_isNot m_least0 m_most0 m_slot m_work m_got m_rowMany m_charAt m_charWide m_trail m_isMatch m_matchGroups m_allFrom m_allBefore m_founds m_pieces m_writtenMany m_templateWide m_tooMuch) f_MO_158 d_MO_go_1 h80.2.2 rfl ?_
  refine ab_iload_n d_MO_go_4 rfl ?_
  refine zz_iald d_MO_go_5 h128 (by omega) ?_
  have hq1 := gwp w (by omega) (by omega)
  refine ab_istore_n d_MO_go_6 (Nat.le_of_ble_eq_true rfl) (Nat.le_of_ble_eq_true rfl) rfl ?_
  change ab_W _ _ _ G 7 [some (vR 80), some (vz w), some (vz (WP w)), none] [] _
  refine ab_aload_n d_MO_go_7 rfl ?_
  refine ab_getf (fs := mof m_thrown m_taped m_length m_out m_wide m_gathered m_sets m_ranges m_nodes m_at m_flags m_fault m_place m_numbered m_depth m_value m_isNot m_least0 m_most0 m_slot m_work m_got m_rowMany m_charAt m_charWide m_trail m_isMatch m_matchGroups m_allFrom m_allBefore m_founds m_pieces m_writtenMany m_templateWide m_tooMuch) f_MO_161 d_MO_go_8 h80.2.2 rfl ?_
  refine ab_iload_n d_MO_go_11 rfl ?_
  refine zz_iald d_MO_go_12 h129 (by omega) ?_
  have hq2 := gwd w (by omega) (by omega)
  refine ab_istore_n d_MO_go_13 (Nat.le_of_ble_eq_true rfl) (Nat.le_of_ble_eq_true rfl) rfl ?_
  change ab_W _ _ _ G 14 [some (vR 80), some (vz w), some (vz (WP w)), some (vz (WD w))] [] _
  refine ab_aload_n d_MO_go_14 rfl ?_
  refine ab_getf (fs := mof m_thrown m_taped m_length m_out m_wide m_gathered m_sets m_ranges m_nodes m_at m_flags m_fault m_place m_numbered m_depth m_value m_isNot m_least0 m_most0 m_slot m_work m_got m_rowMany m_charAt m_charWide m_trail m_isMatch m_matchGroups m_allFrom m_allBefore m_founds m_pieces m_writtenMany m_templateWide m_tooMuch) f_MO_68 d_MO_go_15 h80.2.2 rfl ?_
  refine ab_iload_n d_MO_go_18 rfl ?_
  refine zz_lald d_MO_go_19 h100 (by omega) ?_
  have hq3 := jz (WP w) (by omega) (by omega)
  refine zz_lconst d_MO_go_20 ?_
  change ab_W _ _ _ G 21 [some (vR 80), some (vz w), some (vz (WP w)), some (vz (WD w))] [vj 0, vj (Z (WP w))] _
  refine zz_lcmp d_MO_go_21 (by omega) (by omega) (fun c4a => by exfalso; omega) (fun c4a c4b => by exfalso; omega) (fun c4a => ?_)
  · refine zz_if_ne (tgt := 36) d_MO_go_22 (by decide) (by decide) (fun c5 => ?_) (fun c5 => absurd c5 (by decide))
    refine ab_aload_n d_MO_go_36 rfl ?_
    refine ab_getf (fs := mof m_thrown m_taped m_length m_out m_wide m_gathered m_sets m_ranges m_nodes m_at m_flags m_fault m_place m_numbered m_depth m_value m_isNot m_least0 m_most0 m_slot m_work m_got m_rowMany m_charAt m_charWide m_trail m_isMatch m_matchGroups m_allFrom m_allBefore m_founds m_pieces m_writtenMany m_templateWide m_tooMuch) f_MO_50 d_MO_go_37 h80.2.2 rfl ?_
    refine ab_iload_n d_MO_go_40 rfl ?_
    refine zz_iald d_MO_go_41 h94 (by omega) ?_
    have hq6 := jk (WP w) (by omega) (by omega)
    refine zz_top (y := 7) (by omega) ?_
    change ab_W _ _ _ G 42 [some (vR 80), some (vz w), some (vz (WP w)), some (vz (WD w))] [vz 7] _
    refine zz_tableOut (tgt := 195) d_MO_go_42 (by decide) (by decide) (by decide) ?_
    refine ab_aload_n d_MO_go_195 rfl ?_
    refine ab_iload_n d_MO_go_196 rfl ?_
    refine ab_callV (d' := d - 1) (as := [vz w]) (st := []) (r := _) (z_MO_goRepeat_s (o := o) (m_thrown := m_thrown) (m_taped := m_taped) (m_length := m_length) (m_out := m_out) (m_wide := m_wide) (m_gathered := m_gathered) (m_sets := m_sets) (m_ranges := m_ranges) (m_nodes := m_nodes) (m_at := m_at) (m_flags := m_flags) (m_fault := m_fault) (m_place := m_place) (m_numbered := m_numbered) (m_depth := m_depth) (m_value := m_value) (m_isNot := m_isNot) (m_least0 := m_least0) (m_most0 := m_most0) (m_slot := m_slot) (m_work := m_work) (m_got := m_got) (m_rowMany := m_rowMany) (m_charAt := m_charAt) (m_charWide := m_charWide) (m_trail := m_trail) (m_isMatch := m_isMatch) (m_matchGroups := m_matchGroups) (m_allFrom := m_allFrom) (m_allBefore := m_allBefore) (m_founds := m_founds) (m_pieces := m_pieces) (m_writtenMany := m_writtenMany) (m_templateWide := m_templateWide) (m_tooMuch := m_tooMuch) (T := T) (N := N) (W := W) (CA := CA) (CM := CM) (CL := CL) (CH := CH) (SN := SN) (CC := CC) (RO := RO) (WP := WP) (WD := WD) (WT := WT) (WG := WG) (WS := WS) (K := K) (O := O) (Fi := Fi) (Be := Be) (Le := Le) (Mo := Mo) (Z := Z) (LZ := LZ) (SM := SM) (SA := SA) (RL := RL) (RH := RH) (w := w) (ns := ns) (nd := nd) h80 h94 h95 h96 h97 h98 h99 h100 h101 h90 h89 h91 h92 h118 h119 h120 h121 h122 h123 h124 h117 h125 h133 h128 h129 h130 h131 h132 (by omega) (by omega) jrl jrh jk jo jfi jbe jle jmo jz jlz jsm jsa gt gn gw gca gcm gcl gch gsn gcc gro gwp gwd gwt gwg gws jka jss (by omega) (by omega) (by omega) jto jgo (by omega) (by omega) (by omega) (by omega) (by omega) (by omega) (by omega) (by omega)) (fun oc G2 h => by rcases h with ⟨_, _, _, _, _, _, _, _, _, _, _, h, _⟩ | ⟨_, _, _, _, _, _, _, _, _, _, _, _, _, h, _⟩ <;> exact ⟨_, h⟩) (by omega) m_MO_goRepeat ml_MO_498 im_MO_goRepeat se_MO_goRepeat c_MO h80.2.2 (Nat.le_of_ble_eq_true rfl) d_MO_go_197 rfl ?_
    intro v G8 hq
    rcases hq with ⟨g29, WP210, WD211, WT212, WG213, WS214, RO215, T216, N217, W218, SN219, hv, hfk, hlk, hsk, hN80, hN128, hN129, hN130, hN131, hN132, hN133, hN118, hN119, hN120, hN117, hq20, hq21, hq22, hq23, hq24, hq25, hq26, hq27, hq28, hq29, hq30, hq31, hq32, hq33, hq34, hq35, hq36, hq37, hq38, hq39, hq40⟩ | ⟨c241, t242, u243, WP244, WD245, WT246, WG247, WS248, RO249, T250, N251, W252, SN253, hv, hfk, hlk, hsk, hN80, hN128, hN129, hN130, hN131, hN132, hN133, hN118, hN119, hN120, hN117, hq54, hq55, hq56, hq57, hq58, hq59, hq60, hq61, hq62, hq63, hq64, hq65, hq66, hq67, hq68, hq69, hq70, hq71, hq72, hq73, hq74, hq75, hq76, hq77, hq78, hq79, hq80, hq81, hq82, hq83, hq84, hq85, hq86⟩
    · cases hv
      have h94 := hfk.get h94 (by decide)
      have h95 := hfk.get h95 (by decide)
      have h96 := hfk.get h96 (by decide)
      have h97 := hfk.get h97 (by decide)
      have h98 := hfk.get h98 (by decide)
      have h99 := hfk.get h99 (by decide)
      have h100 := hfk.get h100 (by decide)
      have h101 := hfk.get h101 (by decide)
      have h90 := hfk.get h90 (by decide)
      have h89 := hfk.get h89 (by decide)
      have h91 := hfk.get h91 (by decide)
      have h92 := hfk.get h92 (by decide)
      have h121 := hfk.get h121 (by decide)
      have h122 := hfk.get h122 (by decide)
      have h123 := hfk.get h123 (by decide)
      have h124 := hfk.get h124 (by decide)
      have h125 := hfk.get h125 (by decide)
      have hfr := hfr.tr hfk (by decide)
      have hlen := hlk.trans hlen
      have hsl := hsk.trans hsl
      have h80 := hN80
      have h128 := hN128
      have h129 := hN129
      have h130 := hN130
      have h131 := hN131
      have h132 := hN132
      have h133 := hN133
      have h118 := hN118
      have h119 := hN119
      have h120 := hN120
      have h117 := hN117
      change ab_W _ _ _ G8 200 [some (vR 80), some (vz w), some (vz (WP w)), some (vz (WD w))] [] _
      refine ab_vret rfl d_MO_go_200 ?_
      rw [hQ]; exact (Or.inl ⟨_, _, _, _, _, _, _, _, _, _, _, rfl, hfr, hlen, hsl, h80, h128, h129, h130, h131, h132, h133, h118, h119, h120, h117, (by first | exact hq20 | exact rgs_w hq20 (by omega)), (by first | exact hq21 | exact rgs_w hq21 (by omega)), (by first | exact hq22 | exact rgs_w hq22 (by omega)), (by first | exact hq23 | exact rgs_w hq23 (by omega)), (by first | exact hq24 | exact rgs_w hq24 (by omega)), (by assumption), (by assumption), (by omega), (by first | exact hq28 | exact rgs_w hq28 (by omega)), (by first | exact hq29 | exact rgs_w hq29 (by omega)), (by first | exact hq30 | exact rgs_w hq30 (by omega)), (by first | exact hq31 | exact rgs_w hq31 (by omega)), (by first | exact hq32 | exact rgs_w hq32 (by omega)), (by omega), (by assumption), (by assumption), (by assumption), (by assumption), (by assumption), (by assumption), (by assumption)⟩)
    · cases hv
      have h94 := hfk.get h94 (by decide)
      have h95 := hfk.get h95 (by decide)
      have h96 := hfk.get h96 (by decide)
      have h97 := hfk.get h97 (by decide)
      have h98 := hfk.get h98 (by decide)
      have h99 := hfk.get h99 (by decide)
      have h100 := hfk.get h100 (by decide)
      have h101 := hfk.get h101 (by decide)
      have h90 := hfk.get h90 (by decide)
      have h89 := hfk.get h89 (by decide)
      have h91 := hfk.get h91 (by decide)
      have h92 := hfk.get h92 (by decide)
      have h121 := hfk.get h121 (by decide)
      have h122 := hfk.get h122 (by decide)
      have h123 := hfk.get h123 (by decide)
      have h124 := hfk.get h124 (by decide)
      have h125 := hfk.get h125 (by decide)
      have hfr := hfr.tr hfk (by decide)
      have hlen := hlk.trans hlen
      have hsl := hsk.trans hsl
      have h80 := hN80
      have h128 := hN128
      have h129 := hN129
      have h130 := hN130
      have h131 := hN131
      have h132 := hN132
      have h133 := hN133
      have h118 := hN118
      have h119 := hN119
      have h120 := hN120
      have h117 := hN117
      change ab_W _ _ _ G8 200 [some (vR 80), some (vz w), some (vz (WP w)), some (vz (WD w))] [] _
      refine ab_vret rfl d_MO_go_200 ?_
      rw [hQ]; exact (Or.inr ⟨_, _, _, _, _, _, _, _, _, _, _, _, _, rfl, hfr, hlen, hsl, h80, h128, h129, h130, h131, h132, h133, h118, h119, h120, h117, (by first | exact hq54 | exact rgs_w hq54 (by omega)), (by first | exact hq55 | exact rgs_w hq55 (by omega)), (by first | exact hq56 | exact rgs_w hq56 (by omega)), (by first | exact hq57 | exact rgs_w hq57 (by omega)), (by first | exact hq58 | exact rgs_w hq58 (by omega)), (by assumption), (by assumption), (by assumption), (by assumption), (by assumption), (by assumption), (by assumption), (by assumption), (by assumption), (by assumption), (by assumption), (by assumption), (by assumption), (by assumption), (by omega), (by first | exact hq74 | exact rgs_w hq74 (by omega)), (by first | exact hq75 | exact rgs_w hq75 (by omega)), (by first | exact hq76 | exact rgs_w hq76 (by omega)), (by first | exact hq77 | exact rgs_w hq77 (by omega)), (by first | exact hq78 | exact rgs_w hq78 (by omega)), (by omega), (by assumption), (by assumption), (by assumption), (by assumption), (by assumption), (by assumption), (by assumption)⟩)
set_option maxRecDepth 100000 in
set_option maxHeartbeats 4000000 in
theorem z_MO_go__z {X : ab_X} {d : Nat} {o : Nat → Nat} {G : ab_G} {m_thrown : Int} {m_taped : Int} {m_length : Int} {m_out : Int} {m_wide : Int} {m_gathered : Int} {m_sets : Int} {m_ranges : Int} {m_nodes : Int} {m_at : Int} {m_flags : Int} {m_fault : Int} {m_place : Int} {m_numbered : Int} {m_depth : Int} {m_value : Int} {m_isNot : Int} {m_least0 : Int} {m_most0 : Int} {m_slot : Int} {m_work : Int} {m_got : Int} {m_rowMany : Int} {m_charAt : Int} {m_charWide : Int} {m_trail : Int} {m_isMatch : Int} {m_matchGroups : Int} {m_allFrom : Int} {m_allBefore : Int} {m_founds : Int} {m_pieces : Int} {m_writtenMany : Int} {m_templateWide : Int} {m_tooMuch : Int} {T : Int → Int} {N : Int → Int} {W : Int → Int} {CA : Int → Int} {CM : Int → Int} {CL : Int → Int} {CH : Int → Int} {SN : Int → Int} {CC : Int → Int} {RO : Int → Int} {WP : Int → Int} {WD : Int → Int} {WT : Int → Int} {WG : Int → Int} {WS : Int → Int} {K : Int → Int} {O : Int → Int} {Fi : Int → Int} {Be : Int → Int} {Le : Int → Int} {Mo : Int → Int} {Z : Int → Int} {LZ : Int → Int} {SM : Int → Int} {SA : Int → Int} {RL : Int → Int} {RH : Int → Int} {w : Int} {ns : Int} {nd : Int} (h80 : cc o G 80 280 (ab_ob 12 (mof m_thrown m_taped m_length m_out m_wide m_gathered m_sets m_ranges m_nodes m_at m_flags m_fault m_place m_numbered m_depth m_value m_isNot m_least0 m_most0 m_slot m_work m_got m_rowMany m_charAt m_charWide m_trail m_isMatch m_matchGroups m_allFrom m_allBefore m_founds m_pieces m_writtenMany m_templateWide m_tooMuch))) (h94 : cc o G 94 294 (za 4200 K)) (h95 : cc o G 95 295 (za 4200 O)) (h96 : cc o G 96 296 (za 4200 Fi)) (h97 : cc o G 97 297 (za 4200 Be)) (h98 : cc o G 98 298 (za 4200 Le)) (h99 : cc o G 99 299 (za 4200 Mo)) (h100 : cc o G 100 300 (zl 4200 Z)) (h101 : cc o G 101 301 (zb 4200 LZ)) (h90 : cc o G 90 290 (za 2100 SM)) (h89 : cc o G 89 289 (za 2100 SA)) (h91 : cc o G 91 291 (za 24000 RL)) (h92 : cc o G 92 292 (za 24000 RH)) (h118 : cc o G 118 318 (za 75000 T)) (h119 : cc o G 119 319 (za 75000 N)) (h120 : cc o G 120 320 (za 75000 W)) (h121 : cc o G 121 321 (za 75000 CA)) (h122 : cc o G 122 322 (za 75000 CM)) (h123 : cc o G 123 323 (za 3600 CL)) (h124 : cc o G 124 324 (za 3600 CH)) (h117 : cc o G 117 317 (za 6 SN)) (h125 : cc o G 125 325 (za 6 CC)) (h133 : cc o G 133 333 (za 40000 RO)) (h128 : cc o G 128 328 (za 300 WP)) (h129 : cc o G 129 329 (za 300 WD)) (h130 : cc o G 130 330 (za 300 WT)) (h131 : cc o G 131 331 (za 300 WG)) (h132 : cc o G 132 332 (za 300 WS)) (n18 : ab_n0 = 18) (csl : 0 ≤ m_slot ∧ m_slot ≤ 5) (jrl : rgs RL 24000 0 1114111) (jrh : rgs RH 24000 0 1114111) (jk : rgs K 4200 0 7) (jo : rgs O 4200 (-1) 3000) (jfi : rgs Fi 4200 (-1) 4199) (jbe : rgs Be 4200 (-1) 4199) (jle : rgs Le 4200 0 1000) (jmo : rgs Mo 4200 (-1) 1000) (jz : rgs Z 4200 (-1) 1000000000000) (jlz : rgs LZ 4200 0 1) (jsm : rgs SM 2100 0 24000) (jsa : rgs SA 2100 0 24000) (gt : rgs T 75000 0 6) (gn : rgs N 75000 (-1) 12499) (gw : rgs W 75000 (-1) 12499) (gca : rgs CA 75000 0 3600) (gcm : rgs CM 75000 0 24000) (gcl : rgs CL 3600 0 1114111) (gch : rgs CH 3600 0 1114111) (gsn : rgs SN 6 0 12500) (gcc : rgs CC 6 0 600) (gro : rgs RO 40000 0 12499) (gwp : rgs WP 300 0 4199) (gwd : rgs WD 300 0 31) (gwt : rgs WT 300 0 39968) (gwg : rgs WG 300 0 39968) (gws : rgs WS 300 0 4300) (jka : tka T W CA CM SM SA RL RH CL CH (12500 * m_slot) (SN m_slot) m_slot (CC m_slot) ns) (jss : sas SA SM ns) (cst : 0 ≤ m_rowMany ∧ m_rowMany ≤ 1250 ∧ 0 ≤ (SN m_slot) ∧ (SN m_slot) ≤ 12500 ∧ 0 ≤ ns ∧ ns ≤ 2100) (cw : 0 ≤ w ∧ m_work = w + 1 ∧ w < 299) (cx : 0 ≤ WP w ∧ WP w < nd ∧ 0 ≤ nd ∧ nd ≤ 4200 ∧ 0 ≤ WD w ∧ WD w ≤ 31 ∧ 0 ≤ WT w ∧ WT w + 32 ≤ 32 * m_rowMany) (czz : Z (WP w) = 0) (hd : 2 ≤ d) : ab_F X d y_MO_go (.code y_MO_go b_MO_go 4 none) [vR 80, vz w] G (fun oc G2 => ∃ g2 : Int, ∃ WP2 : Int → Int, ∃ WD2 : Int → Int, ∃ WT2 : Int → Int, ∃ WG2 : Int → Int, ∃ WS2 : Int → Int, oc = .returned none ∧ fx o o [280, 328, 329, 330, 331, 332] G G2 ∧ G2.length = G.length ∧ ab_slots G2 = ab_slots G ∧ cc o G2 80 280 (ab_ob 12 (mof m_thrown m_taped m_length m_out m_wide m_gathered m_sets m_ranges m_nodes m_at m_flags m_fault m_place m_numbered m_depth m_value m_isNot m_least0 m_most0 m_slot (m_work - 1) g2 m_rowMany m_charAt m_charWide m_trail m_isMatch m_matchGroups m_allFrom m_allBefore m_founds m_pieces m_writtenMany m_templateWide m_tooMuch)) ∧ cc o G2 128 328 (za 300 WP2) ∧ cc o G2 129 329 (za 300 WD2) ∧ cc o G2 130 330 (za 300 WT2) ∧ cc o G2 131 331 (za 300 WG2) ∧ cc o G2 132 332 (za 300 WS2) ∧ (rgs WP2 300 0 4199) ∧ (rgs WD2 300 0 31) ∧ (rgs WT2 300 0 39968) ∧ (rgs WG2 300 0 39968) ∧ (rgs WS2 300 0 4300) ∧ (fsm WP WD WT WG WS WP2 WD2 WT2 WG2 WS2 w) ∧ (g2 = WT w)) := by
  refine ab_F_of (by decide +kernel) (Nat.le_of_ble_eq_true rfl) ?_
  obtain ⟨Q, hQ⟩ : ∃ z : Outcome → ab_G → Prop, z = (fun oc G2 => ∃ g2 : Int, ∃ WP2 : Int → Int, ∃ WD2 : Int → Int, ∃ WT2 : Int → Int, ∃ WG2 : Int → Int, ∃ WS2 : Int → Int, oc = .returned none ∧ fx o o [280, 328, 329, 330, 331, 332] G G2 ∧ G2.length = G.length ∧ ab_slots G2 = ab_slots G ∧ cc o G2 80 280 (ab_ob 12 (mof m_thrown m_taped m_length m_out m_wide m_gathered m_sets m_ranges m_nodes m_at m_flags m_fault m_place m_numbered m_depth m_value m_isNot m_least0 m_most0 m_slot (m_work - 1) g2 m_rowMany m_charAt m_charWide m_trail m_isMatch m_matchGroups m_allFrom m_allBefore m_founds m_pieces m_writtenMany m_templateWide m_tooMuch)) ∧ cc o G2 128 328 (za 300 WP2) ∧ cc o G2 129 329 (za 300 WD2) ∧ cc o G2 130 330 (za 300 WT2) ∧ cc o G2 131 331 (za 300 WG2) ∧ cc o G2 132 332 (za 300 WS2) ∧ (rgs WP2 300 0 4199) ∧ (rgs WD2 300 0 31) ∧ (rgs WT2 300 0 39968) ∧ (rgs WG2 300 0 39968) ∧ (rgs WS2 300 0 4300) ∧ (fsm WP WD WT WG WS WP2 WD2 WT2 WG2 WS2 w) ∧ (g2 = WT w)) := ⟨_, rfl⟩
  rw [← hQ]
  change ab_W X (ab_pl y_MO_go b_MO_go 4 none) d G 0 [some (vR 80), some (vz w), none, none] [] Q
  have hfr : fx o o [280, 328, 329, 330, 331, 332] G G := fx.rf
  have hlen : G.length = G.length := rfl
  have hsl : ab_slots G = ab_slots G := rfl
  refine ab_aload_n d_MO_go_0 rfl ?_
  refine ab_getf (fs := mof m_thrown m_taped m_length m_out m_wide m_gathered m_sets m_ranges m_nodes m_at m_flags m_fault m_place m_numbered m_depth m_value m_isNot m_least0 m_most0 m_slot m_work m_got m_rowMany m_charAt m_charWide m_trail m_isMatch m_matchGroups m_allFrom m_allBefore m_founds m_pieces m_writtenMany m_templateWide m_tooMuch) f_MO_158 d_MO_go_1 h80.2.2 rfl ?_
  refine ab_iload_n d_MO_go_4 rfl ?_
  refine zz_iald d_MO_go_5 h128 (by omega) ?_
  have hq1 := gwp w (by omega) (by omega)
  refine ab_istore_n d_MO_go_6 (Nat.le_of_ble_eq_true rfl) (Nat.le_of_ble_eq_true rfl) rfl ?_
  change ab_W _ _ _ G 7 [some (vR 80), some (vz w), some (vz (WP w)), none] [] _
  refine ab_aload_n d_MO_go_7 rfl ?_
  refine ab_getf (fs := mof m_thrown m_taped m_length m_out m_wide m_gathered m_sets m_ranges m_nodes m_at m_flags m_fault m_place m_numbered m_depth m_value m_isNot m_least0 m_most0 m_slot m_work m_got m_rowMany m_charAt m_charWide m_trail m_isMatch m_matchGroups m_allFrom m_allBefore m_founds m_pieces m_writtenMany m_templateWide m_tooMuch) f_MO_161 d_MO_go_8 h80.2.2 rfl ?_
  refine ab_iload_n d_MO_go_11 rfl ?_
  refine zz_iald d_MO_go_12 h129 (by omega) ?_
  have hq2 := gwd w (by omega) (by omega)
  refine ab_istore_n d_MO_go_13 (Nat.le_of_ble_eq_true rfl) (Nat.le_of_ble_eq_true rfl) rfl ?_
  change ab_W _ _ _ G 14 [some (vR 80), some (vz w), some (vz (WP w)), some (vz (WD w))] [] _
  refine ab_aload_n d_MO_go_14 rfl ?_
  refine ab_getf (fs := mof m_thrown m_taped m_length m_out m_wide m_gathered m_sets m_ranges m_nodes m_at m_flags m_fault m_place m_numbered m_depth m_value m_isNot m_least0 m_most0 m_slot m_work m_got m_rowMany m_charAt m_charWide m_trail m_isMatch m_matchGroups m_allFrom m_allBefore m_founds m_pieces m_writtenMany m_templateWide m_tooMuch) f_MO_68 d_MO_go_15 h80.2.2 rfl ?_
  refine ab_iload_n d_MO_go_18 rfl ?_
  refine zz_lald d_MO_go_19 h100 (by omega) ?_
  have hq3 := jz (WP w) (by omega) (by omega)
  refine zz_lconst d_MO_go_20 ?_
  change ab_W _ _ _ G 21 [some (vR 80), some (vz w), some (vz (WP w)), some (vz (WD w))] [vj 0, vj (Z (WP w))] _
  refine zz_lcmp d_MO_go_21 (by omega) (by omega) (fun c4a => by exfalso; omega) (fun c4a c4b => ?_) (fun c4a => by exfalso; omega)
  · refine zz_if_ne (tgt := 36) d_MO_go_22 (by decide) (by decide) (fun c5 => absurd c5 (by decide)) (fun c5 => ?_)
    refine ab_aload_n d_MO_go_25 rfl ?_
    refine ab_aload_n d_MO_go_26 rfl ?_
    refine ab_getf (fs := mof m_thrown m_taped m_length m_out m_wide m_gathered m_sets m_ranges m_nodes m_at m_flags m_fault m_place m_numbered m_depth m_value m_isNot m_least0 m_most0 m_slot m_work m_got m_rowMany m_charAt m_charWide m_trail m_isMatch m_matchGroups m_allFrom m_allBefore m_founds m_pieces m_writtenMany m_templateWide m_tooMuch) f_MO_164 d_MO_go_27 h80.2.2 rfl ?_
    refine ab_iload_n d_MO_go_30 rfl ?_
    refine zz_iald d_MO_go_31 h130 (by omega) ?_
    have hq6 := gwt w (by omega) (by omega)
    refine ab_callV (d' := d - 1) (as := [vz (WT w)]) (st := []) (r := _) (z_MO_done (o := o) (m_thrown := m_thrown) (m_taped := m_taped) (m_length := m_length) (m_out := m_out) (m_wide := m_wide) (m_gathered := m_gathered) (m_sets := m_sets) (m_ranges := m_ranges) (m_nodes := m_nodes) (m_at := m_at) (m_flags := m_flags) (m_fault := m_fault) (m_place := m_place) (m_numbered := m_numbered) (m_depth := m_depth) (m_value := m_value) (m_isNot := m_isNot) (m_least0 := m_least0) (m_most0 := m_most0) (m_slot := m_slot) (m_work := m_work) (m_got := m_got) (m_rowMany := m_rowMany) (m_charAt := m_charAt) (m_charWide := m_charWide) (m_trail := m_trail) (m_isMatch := m_isMatch) (m_matchGroups := m_matchGroups) (m_allFrom := m_allFrom) (m_allBefore := m_allBefore) (m_founds := m_founds) (m_pieces := m_pieces) (m_writtenMany := m_writtenMany) (m_templateWide := m_templateWide) (m_tooMuch := m_tooMuch) (x := (WT w)) h80 (by omega)) (fun oc G2 h => by rcases h with ⟨h, _⟩ <;> exact ⟨_, h⟩) (by omega) m_MO_done ml_MO_461 im_MO_done se_MO_done c_MO h80.2.2 (Nat.le_of_ble_eq_true rfl) d_MO_go_32 rfl ?_
    intro v G7 hq
    rcases hq with ⟨hv, hfk, hlk, hsk, hN80⟩
    cases hv
    have h94 := hfk.get h94 (by decide)
    have h95 := hfk.get h95 (by decide)
    have h96 := hfk.get h96 (by decide)
    have h97 := hfk.get h97 (by decide)
    have h98 := hfk.get h98 (by decide)
    have h99 := hfk.get h99 (by decide)
    have h100 := hfk.get h100 (by decide)
    have h101 := hfk.get h101 (by decide)
    have h90 := hfk.get h90 (by decide)
    have h89 := hfk.get h89 (by decide)
    have h91 := hfk.get h91 (by decide)
    have h92 := hfk.get h92 (by decide)
    have h118 := hfk.get h118 (by decide)
    have h119 := hfk.get h119 (by decide)
    have h120 := hfk.get h120 (by decide)
    have h121 := hfk.get h121 (by decide)
    have h122 := hfk.get h122 (by decide)
    have h123 := hfk.get h123 (by decide)
    have h124 := hfk.get h124 (by decide)
    have h117 := hfk.get h117 (by decide)
    have h125 := hfk.get h125 (by decide)
    have h133 := hfk.get h133 (by decide)
    have h128 := hfk.get h128 (by decide)
    have h129 := hfk.get h129 (by decide)
    have h130 := hfk.get h130 (by decide)
    have h131 := hfk.get h131 (by decide)
    have h132 := hfk.get h132 (by decide)
    have hfr := hfr.tr hfk (by decide)
    have hlen := hlk.trans hlen
    have hsl := hsk.trans hsl
    have h80 := hN80
    change ab_W _ _ _ G7 35 [some (vR 80), some (vz w), some (vz (WP w)), some (vz (WD w))] [] _
    refine ab_vret rfl d_MO_go_35 ?_
    rw [hQ]; exact ⟨_, _, _, _, _, _, rfl, hfr, hlen, hsl, h80, h128, h129, h130, h131, h132, (by first | exact gwp | exact rgs_w gwp (by omega)), (by first | exact gwd | exact rgs_w gwd (by omega)), (by first | exact gwt | exact rgs_w gwt (by omega)), (by first | exact gwg | exact rgs_w gwg (by omega)), (by first | exact gws | exact rgs_w gws (by omega)), (by exact fun j_ a_ => ⟨rfl, rfl, rfl, rfl, rfl⟩), (by first | rfl | (rw [zu_self]; done) | omega)⟩
set_option maxRecDepth 100000 in
set_option maxHeartbeats 4000000 in
theorem z_MO_go__1 {X : ab_X} {d : Nat} {o : Nat → Nat} {G : ab_G} {m_thrown : Int} {m_taped : Int} {m_length : Int} {m_out : Int} {m_wide : Int} {m_gathered : Int} {m_sets : Int} {m_ranges : Int} {m_nodes : Int} {m_at : Int} {m_flags : Int} {m_fault : Int} {m_place : Int} {m_numbered : Int} {m_depth : Int} {m_value : Int} {m_isNot : Int} {m_least0 : Int} {m_most0 : Int} {m_slot : Int} {m_work : Int} {m_got : Int} {m_rowMany : Int} {m_charAt : Int} {m_charWide : Int} {m_trail : Int} {m_isMatch : Int} {m_matchGroups : Int} {m_allFrom : Int} {m_allBefore : Int} {m_founds : Int} {m_pieces : Int} {m_writtenMany : Int} {m_templateWide : Int} {m_tooMuch : Int} {T : Int → Int} {N : Int → Int} {W : Int → Int} {CA : Int → Int} {CM : Int → Int} {CL : Int → Int} {CH : Int → Int} {SN : Int → Int} {CC : Int → Int} {RO : Int → Int} {WP : Int → Int} {WD : Int → Int} {WT : Int → Int} {WG : Int → Int} {WS : Int → Int} {K : Int → Int} {O : Int → Int} {Fi : Int → Int} {Be : Int → Int} {Le : Int → Int} {Mo : Int → Int} {Z : Int → Int} {LZ : Int → Int} {SM : Int → Int} {SA : Int → Int} {RL : Int → Int} {RH : Int → Int} {w : Int} {ns : Int} {nd : Int} (h80 : cc o G 80 280 (ab_ob 12 (mof m_thrown m_taped m_length m_out m_wide m_gathered m_sets m_ranges m_nodes m_at m_flags m_fault m_place m_numbered m_depth m_value m_isNot m_least0 m_most0 m_slot m_work m_got m_rowMany m_charAt m_charWide m_trail m_isMatch m_matchGroups m_allFrom m_allBefore m_founds m_pieces m_writtenMany m_templateWide m_tooMuch))) (h94 : cc o G 94 294 (za 4200 K)) (h95 : cc o G 95 295 (za 4200 O)) (h96 : cc o G 96 296 (za 4200 Fi)) (h97 : cc o G 97 297 (za 4200 Be)) (h98 : cc o G 98 298 (za 4200 Le)) (h99 : cc o G 99 299 (za 4200 Mo)) (h100 : cc o G 100 300 (zl 4200 Z)) (h101 : cc o G 101 301 (zb 4200 LZ)) (h90 : cc o G 90 290 (za 2100 SM)) (h89 : cc o G 89 289 (za 2100 SA)) (h91 : cc o G 91 291 (za 24000 RL)) (h92 : cc o G 92 292 (za 24000 RH)) (h118 : cc o G 118 318 (za 75000 T)) (h119 : cc o G 119 319 (za 75000 N)) (h120 : cc o G 120 320 (za 75000 W)) (h121 : cc o G 121 321 (za 75000 CA)) (h122 : cc o G 122 322 (za 75000 CM)) (h123 : cc o G 123 323 (za 3600 CL)) (h124 : cc o G 124 324 (za 3600 CH)) (h117 : cc o G 117 317 (za 6 SN)) (h125 : cc o G 125 325 (za 6 CC)) (h133 : cc o G 133 333 (za 40000 RO)) (h128 : cc o G 128 328 (za 300 WP)) (h129 : cc o G 129 329 (za 300 WD)) (h130 : cc o G 130 330 (za 300 WT)) (h131 : cc o G 131 331 (za 300 WG)) (h132 : cc o G 132 332 (za 300 WS)) (n18 : ab_n0 = 18) (csl : 0 ≤ m_slot ∧ m_slot ≤ 5) (jrl : rgs RL 24000 0 1114111) (jrh : rgs RH 24000 0 1114111) (jk : rgs K 4200 0 7) (jo : rgs O 4200 (-1) 3000) (jfi : rgs Fi 4200 (-1) 4199) (jbe : rgs Be 4200 (-1) 4199) (jle : rgs Le 4200 0 1000) (jmo : rgs Mo 4200 (-1) 1000) (jz : rgs Z 4200 (-1) 1000000000000) (jlz : rgs LZ 4200 0 1) (jsm : rgs SM 2100 0 24000) (jsa : rgs SA 2100 0 24000) (gt : rgs T 75000 0 6) (gn : rgs N 75000 (-1) 12499) (gw : rgs W 75000 (-1) 12499) (gca : rgs CA 75000 0 3600) (gcm : rgs CM 75000 0 24000) (gcl : rgs CL 3600 0 1114111) (gch : rgs CH 3600 0 1114111) (gsn : rgs SN 6 0 12500) (gcc : rgs CC 6 0 600) (gro : rgs RO 40000 0 12499) (gwp : rgs WP 300 0 4199) (gwd : rgs WD 300 0 31) (gwt : rgs WT 300 0 39968) (gwg : rgs WG 300 0 39968) (gws : rgs WS 300 0 4300) (jka : tka T W CA CM SM SA RL RH CL CH (12500 * m_slot) (SN m_slot) m_slot (CC m_slot) ns) (jss : sas SA SM ns) (cst : 0 ≤ m_rowMany ∧ m_rowMany ≤ 1250 ∧ 0 ≤ (SN m_slot) ∧ (SN m_slot) ≤ 12500 ∧ 0 ≤ ns ∧ ns ≤ 2100) (cw : 0 ≤ w ∧ m_work = w + 1 ∧ w < 299) (cx : 0 ≤ WP w ∧ WP w < nd ∧ 0 ≤ nd ∧ nd ≤ 4200 ∧ 0 ≤ WD w ∧ WD w ≤ 31 ∧ 0 ≤ WT w ∧ WT w + 32 ≤ 32 * m_rowMany) (jto : rokk RO (WT w) (WD w + 1) (SN m_slot)) (crs : m_rowMany ≤ 1249 ∧ (SN m_slot) + WD w + 1 ≤ 12500) (czz : 1 ≤ Z (WP w)) (ck : K (WP w) = 1) (co : 0 ≤ O (WP w) ∧ O (WP w) < ns ∧ SM (O (WP w)) ≤ Z (WP w) ∧ (CC m_slot) + Z (WP w) ≤ 600) (hd : 4 ≤ d) : ab_F X d y_MO_go (.code y_MO_go b_MO_go 4 none) [vR 80, vz w] G (fun oc G2 => ∃ g2 : Int, ∃ WP2 : Int → Int, ∃ WD2 : Int → Int, ∃ WT2 : Int → Int, ∃ WG2 : Int → Int, ∃ WS2 : Int → Int, ∃ T2 : Int → Int, ∃ N2 : Int → Int, ∃ W2 : Int → Int, ∃ CA2 : Int → Int, ∃ CM2 : Int → Int, ∃ CL2 : Int → Int, ∃ CH2 : Int → Int, ∃ SN2 : Int → Int, ∃ CC2 : Int → Int, ∃ RO2 : Int → Int, oc = .returned none ∧ fx o o [280, 328, 329, 330, 331, 332, 318, 319, 320, 321, 322, 323, 324, 317, 325, 333] G G2 ∧ G2.length = G.length ∧ ab_slots G2 = ab_slots G ∧ cc o G2 80 280 (ab_ob 12 (mof m_thrown m_taped m_length m_out m_wide m_gathered m_sets m_ranges m_nodes m_at m_flags m_fault m_place m_numbered m_depth m_value m_isNot m_least0 m_most0 m_slot (m_work - 1) g2 (m_rowMany + 1) m_charAt m_charWide m_trail m_isMatch m_matchGroups m_allFrom m_allBefore m_founds m_pieces m_writtenMany m_templateWide m_tooMuch)) ∧ cc o G2 128 328 (za 300 WP2) ∧ cc o G2 129 329 (za 300 WD2) ∧ cc o G2 130 330 (za 300 WT2) ∧ cc o G2 131 331 (za 300 WG2) ∧ cc o G2 132 332 (za 300 WS2) ∧ cc o G2 118 318 (za 75000 T2) ∧ cc o G2 119 319 (za 75000 N2) ∧ cc o G2 120 320 (za 75000 W2) ∧ cc o G2 121 321 (za 75000 CA2) ∧ cc o G2 122 322 (za 75000 CM2) ∧ cc o G2 123 323 (za 3600 CL2) ∧ cc o G2 124 324 (za 3600 CH2) ∧ cc o G2 117 317 (za 6 SN2) ∧ cc o G2 125 325 (za 6 CC2) ∧ cc o G2 133 333 (za 40000 RO2) ∧ (rgs WP2 300 0 4199) ∧ (rgs WD2 300 0 31) ∧ (rgs WT2 300 0 39968) ∧ (rgs WG2 300 0 39968) ∧ (rgs WS2 300 0 4300) ∧ (fsm WP WD WT WG WS WP2 WD2 WT2 WG2 WS2 w) ∧ (g2 = (32 * m_rowMany)) ∧ (rgs T2 75000 0 6) ∧ (rgs N2 75000 (-1) 12499) ∧ (rgs W2 75000 (-1) 12499) ∧ (rgs CA2 75000 0 3600) ∧ (rgs CM2 75000 0 24000) ∧ (rgs CL2 3600 0 1114111) ∧ (rgs CH2 3600 0 1114111) ∧ (rgs SN2 6 0 12500) ∧ (rgs CC2 6 0 600) ∧ (rgs RO2 40000 0 12499) ∧ (SN2 m_slot = ((SN m_slot) + 1) ∧ (CC m_slot) ≤ CC2 m_slot ∧ CC2 m_slot ≤ (CC m_slot) + Z (WP w)) ∧ (rokk RO2 (32 * m_rowMany) (WD w + 1) ((SN m_slot) + 1)) ∧ (rsm RO RO2 (32 * m_rowMany)) ∧ (sgn T2 N2 W2 (12500 * m_slot) (SN m_slot) ((SN m_slot) + 1)) ∧ (stx T N W CA CM T2 N2 W2 CA2 CM2 (12500 * m_slot) (SN m_slot)) ∧ (sno SN SN2 m_slot) ∧ (sno CC CC2 m_slot) ∧ (tka T2 W2 CA2 CM2 SM SA RL RH CL2 CH2 (12500 * m_slot) ((SN m_slot) + 1) m_slot (CC2 m_slot) ns) ∧ (rAl RO2 (32 * m_rowMany) (WD w + 1) (SN m_slot)) ∧ (ccx CL CH CL2 CH2 m_slot (CC m_slot)) ∧ (stR T2 N2 W2 m_slot (SN m_slot) ((SN m_slot) + 1) (SN m_slot) 1 (RO (WT w + WD w)) (O (WP w)))) := by
  refine ab_F_of (by decide +kernel) (Nat.le_of_ble_eq_true rfl) ?_
  obtain ⟨Q, hQ⟩ : ∃ z : Outcome → ab_G → Prop, z = (fun oc G2 => ∃ g2 : Int, ∃ WP2 : Int → Int, ∃ WD2 : Int → Int, ∃ WT2 : Int → Int, ∃ WG2 : Int → Int, ∃ WS2 : Int → Int, ∃ T2 : Int → Int, ∃ N2 : Int → Int, ∃ W2 : Int → Int, ∃ CA2 : Int → Int, ∃ CM2 : Int → Int, ∃ CL2 : Int → Int, ∃ CH2 : Int → Int, ∃ SN2 : Int → Int, ∃ CC2 : Int → Int, ∃ RO2 : Int → Int, oc = .returned none ∧ fx o o [280, 328, 329, 330, 331, 332, 318, 319, 320, 321, 322, 323, 324, 317, 325, 333] G G2 ∧ G2.length = G.length ∧ ab_slots G2 = ab_slots G ∧ cc o G2 80 280 (ab_ob 12 (mof m_thrown m_taped m_length m_out m_wide m_gathered m_sets m_ranges m_nodes m_at m_flags m_fault m_place m_numbered m_depth m_value m_isNot m_least0 m_most0 m_slot (m_work - 1) g2 (m_rowMany + 1) m_charAt m_charWide m_trail m_isMatch m_matchGroups m_allFrom m_allBefore m_founds m_pieces m_writtenMany m_templateWide m_tooMuch)) ∧ cc o G2 128 328 (za 300 WP2) ∧ cc o G2 129 329 (za 300 WD2) ∧ cc o G2 130 330 (za 300 WT2) ∧ cc o G2 131 331 (za 300 WG2) ∧ cc o G2 132 332 (za 300 WS2) ∧ cc o G2 118 318 (za 75000 T2) ∧ cc o G2 119 319 (za 75000 N2) ∧ cc o G2 120 320 (za 75000 W2) ∧ cc o G2 121 321 (za 75000 CA2) ∧ cc o G2 122 322 (za 75000 CM2) ∧ cc o G2 123 323 (za 3600 CL2) ∧ cc o G2 124 324 (za 3600 CH2) ∧ cc o G2 117 317 (za 6 SN2) ∧ cc o G2 125 325 (za 6 CC2) ∧ cc o G2 133 333 (za 40000 RO2) ∧ (rgs WP2 300 0 4199) ∧ (rgs WD2 300 0 31) ∧ (rgs WT2 300 0 39968) ∧ (rgs WG2 300 0 39968) ∧ (rgs WS2 300 0 4300) ∧ (fsm WP WD WT WG WS WP2 WD2 WT2 WG2 WS2 w) ∧ (g2 = (32 * m_rowMany)) ∧ (rgs T2 75000 0 6) ∧ (rgs N2 75000 (-1) 12499) ∧ (rgs W2 75000 (-1) 12499) ∧ (rgs CA2 75000 0 3600) ∧ (rgs CM2 75000 0 24000) ∧ (rgs CL2 3600 0 1114111) ∧ (rgs CH2 3600 0 1114111) ∧ (rgs SN2 6 0 12500) ∧ (rgs CC2 6 0 600) ∧ (rgs RO2 40000 0 12499) ∧ (SN2 m_slot = ((SN m_slot) + 1) ∧ (CC m_slot) ≤ CC2 m_slot ∧ CC2 m_slot ≤ (CC m_slot) + Z (WP w)) ∧ (rokk RO2 (32 * m_rowMany) (WD w + 1) ((SN m_slot) + 1)) ∧ (rsm RO RO2 (32 * m_rowMany)) ∧ (sgn T2 N2 W2 (12500 * m_slot) (SN m_slot) ((SN m_slot) + 1)) ∧ (stx T N W CA CM T2 N2 W2 CA2 CM2 (12500 * m_slot) (SN m_slot)) ∧ (sno SN SN2 m_slot) ∧ (sno CC CC2 m_slot) ∧ (tka T2 W2 CA2 CM2 SM SA RL RH CL2 CH2 (12500 * m_slot) ((SN m_slot) + 1) m_slot (CC2 m_slot) ns) ∧ (rAl RO2 (32 * m_rowMany) (WD w + 1) (SN m_slot)) ∧ (ccx CL CH CL2 CH2 m_slot (CC m_slot)) ∧ (stR T2 N2 W2 m_slot (SN m_slot) ((SN m_slot) + 1) (SN m_slot) 1 (RO (WT w + WD w)) (O (WP w)))) := ⟨_, rfl⟩
  rw [← hQ]
  change ab_W X (ab_pl y_MO_go b_MO_go 4 none) d G 0 [some (vR 80), some (vz w), none, none] [] Q
  have hfr : fx o o [280, 328, 329, 330, 331, 332, 318, 319, 320, 321, 322, 323, 324, 317, 325, 333] G G := fx.rf
  have hlen : G.length = G.length := rfl
  have hsl : ab_slots G = ab_slots G := rfl
  refine ab_aload_n d_MO_go_0 rfl ?_
  refine ab_getf (fs := mof m_thrown m_taped m_length m_out m_wide m_gathered m_sets m_ranges m_nodes m_at m_flags m_fault m_place m_numbered m_depth m_value m_isNot m_least0 m_most0 m_slot m_work m_got m_rowMany m_charAt m_charWide m_trail m_isMatch m_matchGroups m_allFrom m_allBefore m_founds m_pieces m_writtenMany m_templateWide m_tooMuch) f_MO_158 d_MO_go_1 h80.2.2 rfl ?_
  refine ab_iload_n d_MO_go_4 rfl ?_
  refine zz_iald d_MO_go_5 h128 (by omega) ?_
  have hq1 := gwp w (by omega) (by omega)
  refine ab_istore_n d_MO_go_6 (Nat.le_of_ble_eq_true rfl) (Nat.le_of_ble_eq_true rfl) rfl ?_
  change ab_W _ _ _ G 7 [some (vR 80), some (vz w), some (vz (WP w)), none] [] _
  refine ab_aload_n d_MO_go_7 rfl ?_
  refine ab_getf (fs := mof m_thrown m_taped m_length m_out m_wide m_gathered m_sets m_ranges m_nodes m_at m_flags m_fault m_place m_numbered m_depth m_value m_isNot m_least0 m_most0 m_slot m_work m_got m_rowMany m_charAt m_charWide m_trail m_isMatch m_matchGroups m_allFrom m_allBefore m_founds m_pieces m_writtenMany m_templateWide m_tooMuch) f_MO_161 d_MO_go_8 h80.2.2 rfl ?_
  refine ab_iload_n d_MO_go_11 rfl ?_
  refine zz_iald d_MO_go_12 h129 (by omega) ?_
  have hq2 := gwd w (by omega) (by omega)
  refine ab_istore_n d_MO_go_13 (Nat.le_of_ble_eq_true rfl) (Nat.le_of_ble_eq_true rfl) rfl ?_
  change ab_W _ _ _ G 14 [some (vR 80), some (vz w), some (vz (WP w)), some (vz (WD w))] [] _
  refine ab_aload_n d_MO_go_14 rfl ?_
  refine ab_getf (fs := mof m_thrown m_taped m_length m_out m_wide m_gathered m_sets m_ranges m_nodes m_at m_flags m_fault m_place m_numbered m_depth m_value m_isNot m_least0 m_most0 m_slot m_work m_got m_rowMany m_charAt m_charWide m_trail m_isMatch m_matchGroups m_allFrom m_allBefore m_founds m_pieces m_writtenMany m_templateWide m_tooMuch) f_MO_68 d_MO_go_15 h80.2.2 rfl ?_
  refine ab_iload_n d_MO_go_18 rfl ?_
  refine zz_lald d_MO_go_19 h100 (by omega) ?_
  have hq3 := jz (WP w) (by omega) (by omega)
  refine zz_lconst d_MO_go_20 ?_
  change ab_W _ _ _ G 21 [some (vR 80), some (vz w), some (vz (WP w)), some (vz (WD w))] [vj 0, vj (Z (WP w))] _
  refine zz_lcmp d_MO_go_21 (by omega) (by omega) (fun c4a => by exfalso; omega) (fun c4a c4b => by exfalso; omega) (fun c4a => ?_)
  · refine zz_if_ne (tgt := 36) d_MO_go_22 (by decide) (by decide) (fun c5 => ?_) (fun c5 => absurd c5 (by decide))
    refine ab_aload_n d_MO_go_36 rfl ?_
    refine ab_getf (fs := mof m_thrown m_taped m_length m_out m_wide m_gathered m_sets m_ranges m_nodes m_at m_flags m_fault m_place m_numbered m_depth m_value m_isNot m_least0 m_most0 m_slot m_work m_got m_rowMany m_charAt m_charWide m_trail m_isMatch m_matchGroups m_allFrom m_allBefore m_founds m_pieces m_writtenMany m_templateWide m_tooMuch) f_MO_50 d_MO_go_37 h80.2.2 rfl ?_
    refine ab_iload_n d_MO_go_40 rfl ?_
    refine zz_iald d_MO_go_41 h94 (by omega) ?_
    have hq6 := jk (WP w) (by omega) (by omega)
    refine zz_top (y := 1) (by omega) ?_
    change ab_W _ _ _ G 42 [some (vR 80), some (vz w), some (vz (WP w)), some (vz (WD w))] [vz 1] _
    refine zz_tableIn (off := 38) (tgt := 80) d_MO_go_42 (by decide) (by decide) (by decide) (by decide) (by decide) ?_
    have hto_ := jto (WD w) (by omega) (by omega)
    have hss_ := jss (O (WP w)) (by omega) (by omega)
    refine ab_aload_n d_MO_go_80 rfl ?_
    refine ab_aload_n d_MO_go_81 rfl ?_
    refine ab_aload_n d_MO_go_82 rfl ?_
    refine ab_aload_n d_MO_go_83 rfl ?_
    refine ab_getf (fs := mof m_thrown m_taped m_length m_out m_wide m_gathered m_sets m_ranges m_nodes m_at m_flags m_fault m_place m_numbered m_depth m_value m_isNot m_least0 m_most0 m_slot m_work m_got m_rowMany m_charAt m_charWide m_trail m_isMatch m_matchGroups m_allFrom m_allBefore m_founds m_pieces m_writtenMany m_templateWide m_tooMuch) f_MO_53 d_MO_go_84 h80.2.2 rfl ?_
    refine ab_iload_n d_MO_go_87 rfl ?_
    refine zz_iald d_MO_go_88 h95 (by omega) ?_
    have hq8 := jo (WP w) (by omega) (by omega)
    refine ab_aload_n d_MO_go_89 rfl ?_
    refine ab_getf (fs := mof m_thrown m_taped m_length m_out m_wide m_gathered m_sets m_ranges m_nodes m_at m_flags m_fault m_place m_numbered m_depth m_value m_isNot m_least0 m_most0 m_slot m_work m_got m_rowMany m_charAt m_charWide m_trail m_isMatch m_matchGroups m_allFrom m_allBefore m_founds m_pieces m_writtenMany m_templateWide m_tooMuch) f_MO_174 d_MO_go_90 h80.2.2 rfl ?_
    refine ab_aload_n d_MO_go_93 rfl ?_
    refine ab_getf (fs := mof m_thrown m_taped m_length m_out m_wide m_gathered m_sets m_ranges m_nodes m_at m_flags m_fault m_place m_numbered m_depth m_value m_isNot m_least0 m_most0 m_slot m_work m_got m_rowMany m_charAt m_charWide m_trail m_isMatch m_matchGroups m_allFrom m_allBefore m_founds m_pieces m_writtenMany m_templateWide m_tooMuch) f_MO_164 d_MO_go_94 h80.2.2 rfl ?_
    refine ab_iload_n d_MO_go_97 rfl ?_
    refine zz_iald d_MO_go_98 h130 (by omega) ?_
    have hq9 := gwt w (by omega) (by omega)
    refine ab_iload_n d_MO_go_99 rfl ?_
    refine zz_iadd d_MO_go_100 ?_
    refine zz_iald d_MO_go_101 h133 (by omega) ?_
    have hq10 := gro ((WT w) + (WD w)) (by omega) (by omega)
    refine ab_callV (d' := d - 1) (as := [vz (O (WP w)), vz (RO ((WT w) + (WD w)))]) (st := [vR 80, vR 80]) (r := _) (z_MO_takeStep (o := o) (m_thrown := m_thrown) (m_taped := m_taped) (m_length := m_length) (m_out := m_out) (m_wide := m_wide) (m_gathered := m_gathered) (m_sets := m_sets) (m_ranges := m_ranges) (m_nodes := m_nodes) (m_at := m_at) (m_flags := m_flags) (m_fault := m_fault) (m_place := m_place) (m_numbered := m_numbered) (m_depth := m_depth) (m_value := m_value) (m_isNot := m_isNot) (m_least0 := m_least0) (m_most0 := m_most0) (m_slot := m_slot) (m_work := m_work) (m_got := m_got) (m_rowMany := m_rowMany) (m_charAt := m_charAt) (m_charWide := m_charWide) (m_trail := m_trail) (m_isMatch := m_isMatch) (m_matchGroups := m_matchGroups) (m_allFrom := m_allFrom) (m_allBefore := m_allBefore) (m_founds := m_founds) (m_pieces := m_pieces) (m_writtenMany := m_writtenMany) (m_templateWide := m_templateWide) (m_tooMuch := m_tooMuch) (T := T) (N := N) (W := W) (CA := CA) (CM := CM) (CL := CL) (CH := CH) (SN := SN) (CC := CC) (SM := SM) (SA := SA) (RL := RL) (RH := RH) (to := (RO ((WT w) + (WD w)))) (s_ := (O (WP w))) (ns := ns) h80 h90 h89 h91 h92 h118 h119 h120 h121 h122 h123 h124 h117 h125 (by omega) (by omega) jrl jrh jsm jsa gt gn gw gca gcm gcl gch gsn gcc jka (by omega) (by omega)) (fun oc G2 h => by rcases h with ⟨_, _, _, _, _, _, _, _, _, h, _⟩ <;> exact ⟨_, h⟩) (by omega) m_MO_takeStep ml_MO_483 im_MO_takeStep se_MO_takeStep c_MO h80.2.2 (Nat.le_of_ble_eq_true rfl) d_MO_go_102 rfl ?_
    intro v G11 hq
    rcases hq with ⟨T212, N213, W214, CA215, CM216, CL217, CH218, SN219, CC220, hv, hfk, hlk, hsk, hN118, hN119, hN120, hN121, hN122, hN123, hN124, hN117, hN125, hq21, hq22, hq23, hq24, hq25, hq26, hq27, hq28, hq29, hq30, hq31, hq32, hq33, hq34, hq35, hq36, hq37⟩
    cases hv
    have h80 := hfk.get h80 (by decide)
    have h94 := hfk.get h94 (by decide)
    have h95 := hfk.get h95 (by decide)
    have h96 := hfk.get h96 (by decide)
    have h97 := hfk.get h97 (by decide)
    have h98 := hfk.get h98 (by decide)
    have h99 := hfk.get h99 (by decide)
    have h100 := hfk.get h100 (by decide)
    have h101 := hfk.get h101 (by decide)
    have h90 := hfk.get h90 (by decide)
    have h89 := hfk.get h89 (by decide)
    have h91 := hfk.get h91 (by decide)
    have h92 := hfk.get h92 (by decide)
    have h133 := hfk.get h133 (by decide)
    have h128 := hfk.get h128 (by decide)
    have h129 := hfk.get h129 (by decide)
    have h130 := hfk.get h130 (by decide)
    have h131 := hfk.get h131 (by decide)
    have h132 := hfk.get h132 (by decide)
    have hfr := hfr.tr hfk (by decide)
    have hlen := hlk.trans hlen
    have hsl := hsk.trans hsl
    have h118 := hN118
    have h119 := hN119
    have h120 := hN120
    have h121 := hN121
    have h122 := hN122
    have h123 := hN123
    have h124 := hN124
    have h117 := hN117
    have h125 := hN125
    change ab_W _ _ _ G11 105 [some (vR 80), some (vz w), some (vz (WP w)), some (vz (WD w))] [vz (SN m_slot), vR 80, vR 80] _
    refine ab_iload_n d_MO_go_105 rfl ?_
    refine ab_callV (d' := d - 1) (as := [vz (SN m_slot), vz (WD w)]) (st := [vR 80]) (r := _) (z_MO_same (o := o) (m_thrown := m_thrown) (m_taped := m_taped) (m_length := m_length) (m_out := m_out) (m_wide := m_wide) (m_gathered := m_gathered) (m_sets := m_sets) (m_ranges := m_ranges) (m_nodes := m_nodes) (m_at := m_at) (m_flags := m_flags) (m_fault := m_fault) (m_place := m_place) (m_numbered := m_numbered) (m_depth := m_depth) (m_value := m_value) (m_isNot := m_isNot) (m_least0 := m_least0) (m_most0 := m_most0) (m_slot := m_slot) (m_work := m_work) (m_got := m_got) (m_rowMany := m_rowMany) (m_charAt := m_charAt) (m_charWide := m_charWide) (m_trail := m_trail) (m_isMatch := m_isMatch) (m_matchGroups := m_matchGroups) (m_allFrom := m_allFrom) (m_allBefore := m_allBefore) (m_founds := m_founds) (m_pieces := m_pieces) (m_writtenMany := m_writtenMany) (m_templateWide := m_templateWide) (m_tooMuch := m_tooMuch) (RO := RO) (dp := (WD w)) (x := (SN m_slot)) (nn := ((SN m_slot) + 1)) h80 h133 (by omega) (by omega) gro (by omega) (by omega)) (fun oc G2 h => by rcases h with ⟨_, h, _⟩ <;> exact ⟨_, h⟩) (by omega) m_MO_same ml_MO_486 im_MO_same se_MO_same c_MO h80.2.2 (Nat.le_of_ble_eq_true rfl) d_MO_go_106 rfl ?_
    intro v G38 hq
    rcases hq with ⟨RO239, hv, hfk, hlk, hsk, hN80, hN133, hq40, hq41, hq42, hq43⟩
    cases hv
    have h94 := hfk.get h94 (by decide)
    have h95 := hfk.get h95 (by decide)
    have h96 := hfk.get h96 (by decide)
    have h97 := hfk.get h97 (by decide)
    have h98 := hfk.get h98 (by decide)
    have h99 := hfk.get h99 (by decide)
    have h100 := hfk.get h100 (by decide)
    have h101 := hfk.get h101 (by decide)
    have h90 := hfk.get h90 (by decide)
    have h89 := hfk.get h89 (by decide)
    have h91 := hfk.get h91 (by decide)
    have h92 := hfk.get h92 (by decide)
    have h118 := hfk.get h118 (by decide)
    have h119 := hfk.get h119 (by decide)
    have h120 := hfk.get h120 (by decide)
    have h121 := hfk.get h121 (by decide)
    have h122 := hfk.get h122 (by decide)
    have h123 := hfk.get h123 (by decide)
    have h124 := hfk.get h124 (by decide)
    have h117 := hfk.get h117 (by decide)
    have h125 := hfk.get h125 (by decide)
    have h128 := hfk.get h128 (by decide)
    have h129 := hfk.get h129 (by decide)
    have h130 := hfk.get h130 (by decide)
    have h131 := hfk.get h131 (by decide)
    have h132 := hfk.get h132 (by decide)
    have hfr := hfr.tr hfk (by decide)
    have hlen := hlk.trans hlen
    have hsl := hsk.trans hsl
    have h80 := hN80
    have h133 := hN133
    change ab_W _ _ _ G38 109 [some (vR 80), some (vz w), some (vz (WP w)), some (vz (WD w))] [vz (32 * m_rowMany), vR 80] _
    refine ab_callV (d' := d - 1) (as := [vz (32 * m_rowMany)]) (st := []) (r := _) (z_MO_done (o := o) (m_thrown := m_thrown) (m_taped := m_taped) (m_length := m_length) (m_out := m_out) (m_wide := m_wide) (m_gathered := m_gathered) (m_sets := m_sets) (m_ranges := m_ranges) (m_nodes := m_nodes) (m_at := m_at) (m_flags := m_flags) (m_fault := m_fault) (m_place := m_place) (m_numbered := m_numbered) (m_depth := m_depth) (m_value := m_value) (m_isNot := m_isNot) (m_least0 := m_least0) (m_most0 := m_most0) (m_slot := m_slot) (m_work := m_work) (m_got := m_got) (m_rowMany := (m_rowMany + 1)) (m_charAt := m_charAt) (m_charWide := m_charWide) (m_trail := m_trail) (m_isMatch := m_isMatch) (m_matchGroups := m_matchGroups) (m_allFrom := m_allFrom) (m_allBefore := m_allBefore) (m_founds := m_founds) (m_pieces := m_pieces) (m_writtenMany := m_writtenMany) (m_templateWide := m_templateWide) (m_tooMuch := m_tooMuch) (x := (32 * m_rowMany)) h80 (by omega)) (fun oc G2 h => by rcases h with ⟨h, _⟩ <;> exact ⟨_, h⟩) (by omega) m_MO_done ml_MO_461 im_MO_done se_MO_done c_MO h80.2.2 (Nat.le_of_ble_eq_true rfl) d_MO_go_109 rfl ?_
    intro v G44 hq
    rcases hq with ⟨hv, hfk, hlk, hsk, hN80⟩
    cases hv
    have h94 := hfk.get h94 (by decide)
    have h95 := hfk.get h95 (by decide)
    have h96 := hfk.get h96 (by decide)
    have h97 := hfk.get h97 (by decide)
    have h98 := hfk.get h98 (by decide)
    have h99 := hfk.get h99 (by decide)
    have h100 := hfk.get h100 (by decide)
    have h101 := hfk.get h101 (by decide)
    have h90 := hfk.get h90 (by decide)
    have h89 := hfk.get h89 (by decide)
    have h91 := hfk.get h91 (by decide)
    have h92 := hfk.get h92 (by decide)
    have h118 := hfk.get h118 (by decide)
    have h119 := hfk.get h119 (by decide)
    have h120 := hfk.get h120 (by decide)
    have h121 := hfk.get h121 (by decide)
    have h122 := hfk.get h122 (by decide)
    have h123 := hfk.get h123 (by decide)
    have h124 := hfk.get h124 (by decide)
    have h117 := hfk.get h117 (by decide)
    have h125 := hfk.get h125 (by decide)
    have h133 := hfk.get h133 (by decide)
    have h128 := hfk.get h128 (by decide)
    have h129 := hfk.get h129 (by decide)
    have h130 := hfk.get h130 (by decide)
    have h131 := hfk.get h131 (by decide)
    have h132 := hfk.get h132 (by decide)
    have hfr := hfr.tr hfk (by decide)
    have hlen := hlk.trans hlen
    have hsl := hsk.trans hsl
    have h80 := hN80
    change ab_W _ _ _ G44 112 [some (vR 80), some (vz w), some (vz (WP w)), some (vz (WD w))] [] _
    refine ab_goto (tgt := 200) d_MO_go_112 (by decide) ?_
    refine ab_vret rfl d_MO_go_200 ?_
    rw [hQ]; exact ⟨_, _, _, _, _, _, _, _, _, _, _, _, _, _, _, _, rfl, hfr, hlen, hsl, h80, h128, h129, h130, h131, h132, h118, h119, h120, h121, h122, h123, h124, h117, h125, h133, (by first | exact gwp | exact rgs_w gwp (by omega)), (by first | exact gwd | exact rgs_w gwd (by omega)), (by first | exact gwt | exact rgs_w gwt (by omega)), (by first | exact gwg | exact rgs_w gwg (by omega)), (by first | exact gws | exact rgs_w gws (by omega)), (by exact fun j_ a_ => ⟨rfl, rfl, rfl, rfl, rfl⟩), (by first | rfl | (rw [zu_self]; done) | omega), (by first | exact hq21 | exact rgs_w hq21 (by omega)), (by first | exact hq22 | exact rgs_w hq22 (by omega)), (by first | exact hq23 | exact rgs_w hq23 (by omega)), (by first | exact hq24 | exact rgs_w hq24 (by omega)), (by first | exact hq25 | exact rgs_w hq25 (by omega)), (by first | exact hq26 | exact rgs_w hq26 (by omega)), (by first | exact hq27 | exact rgs_w hq27 (by omega)), (by first | exact hq28 | exact rgs_w hq28 (by omega)), (by first | exact hq29 | exact rgs_w hq29 (by omega)), (by first | exact hq40 | exact rgs_w hq40 (by omega)), (by omega), (by exact hq41), (by exact hq42), (by exact hq31), (by exact hq32), (by exact hq33), (by exact hq34), (by exact hq35), (by exact hq43), (by exact hq36), (by exact hq37)⟩
set_option maxRecDepth 100000 in
set_option maxHeartbeats 4000000 in
theorem z_MO_go__2 {X : ab_X} {d : Nat} {o : Nat → Nat} {G : ab_G} {m_thrown : Int} {m_taped : Int} {m_length : Int} {m_out : Int} {m_wide : Int} {m_gathered : Int} {m_sets : Int} {m_ranges : Int} {m_nodes : Int} {m_at : Int} {m_flags : Int} {m_fault : Int} {m_place : Int} {m_numbered : Int} {m_depth : Int} {m_value : Int} {m_isNot : Int} {m_least0 : Int} {m_most0 : Int} {m_slot : Int} {m_work : Int} {m_got : Int} {m_rowMany : Int} {m_charAt : Int} {m_charWide : Int} {m_trail : Int} {m_isMatch : Int} {m_matchGroups : Int} {m_allFrom : Int} {m_allBefore : Int} {m_founds : Int} {m_pieces : Int} {m_writtenMany : Int} {m_templateWide : Int} {m_tooMuch : Int} {T : Int → Int} {N : Int → Int} {W : Int → Int} {CA : Int → Int} {CM : Int → Int} {CL : Int → Int} {CH : Int → Int} {SN : Int → Int} {CC : Int → Int} {RO : Int → Int} {WP : Int → Int} {WD : Int → Int} {WT : Int → Int} {WG : Int → Int} {WS : Int → Int} {K : Int → Int} {O : Int → Int} {Fi : Int → Int} {Be : Int → Int} {Le : Int → Int} {Mo : Int → Int} {Z : Int → Int} {LZ : Int → Int} {SM : Int → Int} {SA : Int → Int} {RL : Int → Int} {RH : Int → Int} {w : Int} {ns : Int} {nd : Int} (h80 : cc o G 80 280 (ab_ob 12 (mof m_thrown m_taped m_length m_out m_wide m_gathered m_sets m_ranges m_nodes m_at m_flags m_fault m_place m_numbered m_depth m_value m_isNot m_least0 m_most0 m_slot m_work m_got m_rowMany m_charAt m_charWide m_trail m_isMatch m_matchGroups m_allFrom m_allBefore m_founds m_pieces m_writtenMany m_templateWide m_tooMuch))) (h94 : cc o G 94 294 (za 4200 K)) (h95 : cc o G 95 295 (za 4200 O)) (h96 : cc o G 96 296 (za 4200 Fi)) (h97 : cc o G 97 297 (za 4200 Be)) (h98 : cc o G 98 298 (za 4200 Le)) (h99 : cc o G 99 299 (za 4200 Mo)) (h100 : cc o G 100 300 (zl 4200 Z)) (h101 : cc o G 101 301 (zb 4200 LZ)) (h90 : cc o G 90 290 (za 2100 SM)) (h89 : cc o G 89 289 (za 2100 SA)) (h91 : cc o G 91 291 (za 24000 RL)) (h92 : cc o G 92 292 (za 24000 RH)) (h118 : cc o G 118 318 (za 75000 T)) (h119 : cc o G 119 319 (za 75000 N)) (h120 : cc o G 120 320 (za 75000 W)) (h121 : cc o G 121 321 (za 75000 CA)) (h122 : cc o G 122 322 (za 75000 CM)) (h123 : cc o G 123 323 (za 3600 CL)) (h124 : cc o G 124 324 (za 3600 CH)) (h117 : cc o G 117 317 (za 6 SN)) (h125 : cc o G 125 325 (za 6 CC)) (h133 : cc o G 133 333 (za 40000 RO)) (h128 : cc o G 128 328 (za 300 WP)) (h129 : cc o G 129 329 (za 300 WD)) (h130 : cc o G 130 330 (za 300 WT)) (h131 : cc o G 131 331 (za 300 WG)) (h132 : cc o G 132 332 (za 300 WS)) (n18 : ab_n0 = 18) (csl : 0 ≤ m_slot ∧ m_slot ≤ 5) (jrl : rgs RL 24000 0 1114111) (jrh : rgs RH 24000 0 1114111) (jk : rgs K 4200 0 7) (jo : rgs O 4200 (-1) 3000) (jfi : rgs Fi 4200 (-1) 4199) (jbe : rgs Be 4200 (-1) 4199) (jle : rgs Le 4200 0 1000) (jmo : rgs Mo 4200 (-1) 1000) (jz : rgs Z 4200 (-1) 1000000000000) (jlz : rgs LZ 4200 0 1) (jsm : rgs SM 2100 0 24000) (jsa : rgs SA 2100 0 24000) (gt : rgs T 75000 0 6) (gn : rgs N 75000 (-1) 12499) (gw : rgs W 75000 (-1) 12499) (gca : rgs CA 75000 0 3600) (gcm : rgs CM 75000 0 24000) (gcl : rgs CL 3600 0 1114111) (gch : rgs CH 3600 0 1114111) (gsn : rgs SN 6 0 12500) (gcc : rgs CC 6 0 600) (gro : rgs RO 40000 0 12499) (gwp : rgs WP 300 0 4199) (gwd : rgs WD 300 0 31) (gwt : rgs WT 300 0 39968) (gwg : rgs WG 300 0 39968) (gws : rgs WS 300 0 4300) (jka : tka T W CA CM SM SA RL RH CL CH (12500 * m_slot) (SN m_slot) m_slot (CC m_slot) ns) (jss : sas SA SM ns) (cst : 0 ≤ m_rowMany ∧ m_rowMany ≤ 1250 ∧ 0 ≤ (SN m_slot) ∧ (SN m_slot) ≤ 12500 ∧ 0 ≤ ns ∧ ns ≤ 2100) (cw : 0 ≤ w ∧ m_work = w + 1 ∧ w < 299) (cx : 0 ≤ WP w ∧ WP w < nd ∧ 0 ≤ nd ∧ nd ≤ 4200 ∧ 0 ≤ WD w ∧ WD w ≤ 31 ∧ 0 ≤ WT w ∧ WT w + 32 ≤ 32 * m_rowMany) (jto : rokk RO (WT w) (WD w + 1) (SN m_slot)) (crs : m_rowMany ≤ 1249 ∧ (SN m_slot) + WD w + 1 ≤ 12500) (czz : 1 ≤ Z (WP w)) (ck : K (WP w) = 2) (hd : 4 ≤ d) : ab_F X d y_MO_go (.code y_MO_go b_MO_go 4 none) [vR 80, vz w] G (fun oc G2 => ∃ g2 : Int, ∃ WP2 : Int → Int, ∃ WD2 : Int → Int, ∃ WT2 : Int → Int, ∃ WG2 : Int → Int, ∃ WS2 : Int → Int, ∃ RO2 : Int → Int, ∃ T2 : Int → Int, ∃ N2 : Int → Int, ∃ W2 : Int → Int, ∃ SN2 : Int → Int, oc = .returned none ∧ fx o o [280, 328, 329, 330, 331, 332, 333, 318, 319, 320, 317] G G2 ∧ G2.length = G.length ∧ ab_slots G2 = ab_slots G ∧ cc o G2 80 280 (ab_ob 12 (mof m_thrown m_taped m_length m_out m_wide m_gathered m_sets m_ranges m_nodes m_at m_flags m_fault m_place m_numbered m_depth m_value m_isNot m_least0 m_most0 m_slot (m_work - 1) g2 (m_rowMany + 1) m_charAt m_charWide m_trail m_isMatch m_matchGroups m_allFrom m_allBefore m_founds m_pieces m_writtenMany m_templateWide m_tooMuch)) ∧ cc o G2 128 328 (za 300 WP2) ∧ cc o G2 129 329 (za 300 WD2) ∧ cc o G2 130 330 (za 300 WT2) ∧ cc o G2 131 331 (za 300 WG2) ∧ cc o G2 132 332 (za 300 WS2) ∧ cc o G2 133 333 (za 40000 RO2) ∧ cc o G2 118 318 (za 75000 T2) ∧ cc o G2 119 319 (za 75000 N2) ∧ cc o G2 120 320 (za 75000 W2) ∧ cc o G2 117 317 (za 6 SN2) ∧ (rgs WP2 300 0 4199) ∧ (rgs WD2 300 0 31) ∧ (rgs WT2 300 0 39968) ∧ (rgs WG2 300 0 39968) ∧ (rgs WS2 300 0 4300) ∧ (fsm WP WD WT WG WS WP2 WD2 WT2 WG2 WS2 w) ∧ (g2 = (32 * m_rowMany)) ∧ (rgs RO2 40000 0 12499) ∧ (rgs T2 75000 0 6) ∧ (rgs N2 75000 (-1) 12499) ∧ (rgs W2 75000 (-1) 12499) ∧ (rgs SN2 6 0 12500) ∧ (SN2 m_slot = ((SN m_slot) + 1)) ∧ (rokk RO2 (32 * m_rowMany) (WD w + 1) ((SN m_slot) + 1)) ∧ (rsm RO RO2 (32 * m_rowMany)) ∧ (sgn T2 N2 W2 (12500 * m_slot) (SN m_slot) ((SN m_slot) + 1)) ∧ (stx T N W CA CM T2 N2 W2 CA CM (12500 * m_slot) (SN m_slot)) ∧ (sno SN SN2 m_slot) ∧ (tka T2 W2 CA CM SM SA RL RH CL CH (12500 * m_slot) ((SN m_slot) + 1) m_slot (CC m_slot) ns) ∧ (rAl RO2 (32 * m_rowMany) (WD w + 1) (SN m_slot)) ∧ (stR T2 N2 W2 m_slot (SN m_slot) ((SN m_slot) + 1) (SN m_slot) 2 (RO (WT w + WD w)) 0)) := by
  refine ab_F_of (by decide +kernel) (Nat.le_of_ble_eq_true rfl) ?_
  obtain ⟨Q, hQ⟩ : ∃ z : Outcome → ab_G → Prop, z = (fun oc G2 => ∃ g2 : Int, ∃ WP2 : Int → Int, ∃ WD2 : Int → Int, ∃ WT2 : Int → Int, ∃ WG2 : Int → Int, ∃ WS2 : Int → Int, ∃ RO2 : Int → Int, ∃ T2 : Int → Int, ∃ N2 : Int → Int, ∃ W2 : Int → Int, ∃ SN2 : Int → Int, oc = .returned none ∧ fx o o [280, 328, 329, 330, 331, 332, 333, 318, 319, 320, 317] G G2 ∧ G2.length = G.length ∧ ab_slots G2 = ab_slots G ∧ cc o G2 80 280 (ab_ob 12 (mof m_thrown m_taped m_length m_out m_wide m_gathered m_sets m_ranges m_nodes m_at m_flags m_fault m_place m_numbered m_depth m_value m_isNot m_least0 m_most0 m_slot (m_work - 1) g2 (m_rowMany + 1) m_charAt m_charWide m_trail m_isMatch m_matchGroups m_allFrom m_allBefore m_founds m_pieces m_writtenMany m_templateWide m_tooMuch)) ∧ cc o G2 128 328 (za 300 WP2) ∧ cc o G2 129 329 (za 300 WD2) ∧ cc o G2 130 330 (za 300 WT2) ∧ cc o G2 131 331 (za 300 WG2) ∧ cc o G2 132 332 (za 300 WS2) ∧ cc o G2 133 333 (za 40000 RO2) ∧ cc o G2 118 318 (za 75000 T2) ∧ cc o G2 119 319 (za 75000 N2) ∧ cc o G2 120 320 (za 75000 W2) ∧ cc o G2 117 317 (za 6 SN2) ∧ (rgs WP2 300 0 4199) ∧ (rgs WD2 300 0 31) ∧ (rgs WT2 300 0 39968) ∧ (rgs WG2 300 0 39968) ∧ (rgs WS2 300 0 4300) ∧ (fsm WP WD WT WG WS WP2 WD2 WT2 WG2 WS2 w) ∧ (g2 = (32 * m_rowMany)) ∧ (rgs RO2 40000 0 12499) ∧ (rgs T2 75000 0 6) ∧ (rgs N2 75000 (-1) 12499) ∧ (rgs W2 75000 (-1) 12499) ∧ (rgs SN2 6 0 12500) ∧ (SN2 m_slot = ((SN m_slot) + 1)) ∧ (rokk RO2 (32 * m_rowMany) (WD w + 1) ((SN m_slot) + 1)) ∧ (rsm RO RO2 (32 * m_rowMany)) ∧ (sgn T2 N2 W2 (12500 * m_slot) (SN m_slot) ((SN m_slot) + 1)) ∧ (stx T N W CA CM T2 N2 W2 CA CM (12500 * m_slot) (SN m_slot)) ∧ (sno SN SN2 m_slot) ∧ (tka T2 W2 CA CM SM SA RL RH CL CH (12500 * m_slot) ((SN m_slot) + 1) m_slot (CC m_slot) ns) ∧ (rAl RO2 (32 * m_rowMany) (WD w + 1) (SN m_slot)) ∧ (stR T2 N2 W2 m_slot (SN m_slot) ((SN m_slot) + 1) (SN m_slot) 2 (RO (WT w + WD w)) 0)) := ⟨_, rfl⟩
  rw [← hQ]
  change ab_W X (ab_pl y_MO_go b_MO_go 4 none) d G 0 [some (vR 80), some (vz w), none, none] [] Q
  have hfr : fx o o [280, 328, 329, 330, 331, 332, 333, 318, 319, 320, 317] G G := fx.rf
  have hlen : G.length = G.length := rfl
  have hsl : ab_slots G = ab_slots G := rfl
  refine ab_aload_n d_MO_go_0 rfl ?_
  refine ab_getf (fs := mof m_thrown m_taped m_length m_out m_wide m_gathered m_sets m_ranges m_nodes m_at m_flags m_fault m_place m_numbered m_depth m_value m_isNot m_least0 m_most0 m_slot m_work m_got m_rowMany m_charAt m_charWide m_trail m_isMatch m_matchGroups m_allFrom m_allBefore m_founds m_pieces m_writtenMany m_templateWide m_tooMuch) f_MO_158 d_MO_go_1 h80.2.2 rfl ?_
  refine ab_iload_n d_MO_go_4 rfl ?_
  refine zz_iald d_MO_go_5 h128 (by omega) ?_
  have hq1 := gwp w (by omega) (by omega)
  refine ab_istore_n d_MO_go_6 (Nat.le_of_ble_eq_true rfl) (Nat.le_of_ble_eq_true rfl) rfl ?_
  change ab_W _ _ _ G 7 [some (vR 80), some (vz w), some (vz (WP w)), none] [] _
  refine ab_aload_n d_MO_go_7 rfl ?_
  refine ab_getf (fs := mof m_thrown m_taped m_length m_out m_wide m_gathered m_sets m_ranges m_nodes m_at m_flags m_fault m_place m_numbered m_depth m_value m_isNot m_least0 m_most0 m_slot m_work m_got m_rowMany m_charAt m_charWide m_trail m_isMatch m_matchGroups m_allFrom m_allBefore m_founds m_pieces m_writtenMany m_templateWide m_tooMuch) f_MO_161 d_MO_go_8 h80.2.2 rfl ?_
  refine ab_iload_n d_MO_go_11 rfl ?_
  refine zz_iald d_MO_go_12 h129 (by omega) ?_
  have hq2 := gwd w (by omega) (by omega)
  refine ab_istore_n d_MO_go_13 (Nat.le_of_ble_eq_true rfl) (Nat.le_of_ble_eq_true rfl) rfl ?_
  change ab_W _ _ _ G 14 [some (vR 80), some (vz w), some (vz (WP w)), some (vz (WD w))] [] _
  refine ab_aload_n d_MO_go_14 rfl ?_
  refine ab_getf (fs := mof m_thrown m_taped m_length m_out m_wide m_gathered m_sets m_ranges m_nodes m_at m_flags m_fault m_place m_numbered m_depth m_value m_isNot m_least0 m_most0 m_slot m_work m_got m_rowMany m_charAt m_charWide m_trail m_isMatch m_matchGroups m_allFrom m_allBefore m_founds m_pieces m_writtenMany m_templateWide m_tooMuch) f_MO_68 d_MO_go_15 h80.2.2 rfl ?_
  refine ab_iload_n d_MO_go_18 rfl ?_
  refine zz_lald d_MO_go_19 h100 (by omega) ?_
  have hq3 := jz (WP w) (by omega) (by omega)
  refine zz_lconst d_MO_go_20 ?_
  change ab_W _ _ _ G 21 [some (vR 80), some (vz w), some (vz (WP w)), some (vz (WD w))] [vj 0, vj (Z (WP w))] _
  refine zz_lcmp d_MO_go_21 (by omega) (by omega) (fun c4a => by exfalso; omega) (fun c4a c4b => by exfalso; omega) (fun c4a => ?_)
  · refine zz_if_ne (tgt := 36) d_MO_go_22 (by decide) (by decide) (fun c5 => ?_) (fun c5 => absurd c5 (by decide))
    refine ab_aload_n d_MO_go_36 rfl ?_
    refine ab_getf (fs := mof m_thrown m_taped m_length m_out m_wide m_gathered m_sets m_ranges m_nodes m_at m_flags m_fault m_place m_numbered m_depth m_value m_isNot m_least0 m_most0 m_slot m_work m_got m_rowMany m_charAt m_charWide m_trail m_isMatch m_matchGroups m_allFrom m_allBefore m_founds m_pieces m_writtenMany m_templateWide m_tooMuch) f_MO_50 d_MO_go_37 h80.2.2 rfl ?_
    refine ab_iload_n d_MO_go_40 rfl ?_
    refine zz_iald d_MO_go_41 h94 (by omega) ?_
    have hq6 := jk (WP w) (by omega) (by omega)
    refine zz_top (y := 2) (by omega) ?_
    change ab_W _ _ _ G 42 [some (vR 80), some (vz w), some (vz (WP w)), some (vz (WD w))] [vz 2] _
    refine zz_tableIn (off := 73) (tgt := 115) d_MO_go_42 (by decide) (by decide) (by decide) (by decide) (by decide) ?_
    have hto_ := jto (WD w) (by omega) (by omega)
    refine ab_aload_n d_MO_go_115 rfl ?_
    refine ab_aload_n d_MO_go_116 rfl ?_
    refine ab_aload_n d_MO_go_117 rfl ?_
    refine zz_iconst d_MO_go_118 ?_
    refine ab_aload_n d_MO_go_119 rfl ?_
    refine ab_getf (fs := mof m_thrown m_taped m_length m_out m_wide m_gathered m_sets m_ranges m_nodes m_at m_flags m_fault m_place m_numbered m_depth m_value m_isNot m_least0 m_most0 m_slot m_work m_got m_rowMany m_charAt m_charWide m_trail m_isMatch m_matchGroups m_allFrom m_allBefore m_founds m_pieces m_writtenMany m_templateWide m_tooMuch) f_MO_174 d_MO_go_120 h80.2.2 rfl ?_
    refine ab_aload_n d_MO_go_123 rfl ?_
    refine ab_getf (fs := mof m_thrown m_taped m_length m_out m_wide m_gathered m_sets m_ranges m_nodes m_at m_flags m_fault m_place m_numbered m_depth m_value m_isNot m_least0 m_most0 m_slot m_work m_got m_rowMany m_charAt m_charWide m_trail m_isMatch m_matchGroups m_allFrom m_allBefore m_founds m_pieces m_writtenMany m_templateWide m_tooMuch) f_MO_164 d_MO_go_124 h80.2.2 rfl ?_
    refine ab_iload_n d_MO_go_127 rfl ?_
    refine zz_iald d_MO_go_128 h130 (by omega) ?_
    have hq8 := gwt w (by omega) (by omega)
    refine ab_iload_n d_MO_go_129 rfl ?_
    refine zz_iadd d_MO_go_130 ?_
    refine zz_iald d_MO_go_131 h133 (by omega) ?_
    have hq9 := gro ((WT w) + (WD w)) (by omega) (by omega)
    refine zz_iconst d_MO_go_132 ?_
    refine ab_callV (d' := d - 1) (as := [vz 2, vz (RO ((WT w) + (WD w))), vz 0]) (st := [vR 80, vR 80]) (r := _) (z_MO_addStep (o := o) (m_thrown := m_thrown) (m_taped := m_taped) (m_length := m_length) (m_out := m_out) (m_wide := m_wide) (m_gathered := m_gathered) (m_sets := m_sets) (m_ranges := m_ranges) (m_nodes := m_nodes) (m_at := m_at) (m_flags := m_flags) (m_fault := m_fault) (m_place := m_place) (m_numbered := m_numbered) (m_depth := m_depth) (m_value := m_value) (m_isNot := m_isNot) (m_least0 := m_least0) (m_most0 := m_most0) (m_slot := m_slot) (m_work := m_work) (m_got := m_got) (m_rowMany := m_rowMany) (m_charAt := m_charAt) (m_charWide := m_charWide) (m_trail := m_trail) (m_isMatch := m_isMatch) (m_matchGroups := m_matchGroups) (m_allFrom := m_allFrom) (m_allBefore := m_allBefore) (m_founds := m_founds) (m_pieces := m_pieces) (m_writtenMany := m_writtenMany) (m_templateWide := m_templateWide) (m_tooMuch := m_tooMuch) (T := T) (N := N) (W := W) (SN := SN) (k := 2) (x := (RO ((WT w) + (WD w)))) (y := 0) h80 h118 h119 h120 h117 (by omega) (by omega) (by omega)) (fun oc G2 h => by rcases h with ⟨h, _⟩ <;> exact ⟨_, h⟩) (by omega) m_MO_addStep ml_MO_441 im_MO_addStep se_MO_addStep c_MO h80.2.2 (Nat.le_of_ble_eq_true rfl) d_MO_go_133 rfl ?_
    intro v G10 hq
    rcases hq with ⟨hv, hfk, hlk, hsk, hN118, hN119, hN120, hN117⟩
    cases hv
    have h80 := hfk.get h80 (by decide)
    have h94 := hfk.get h94 (by decide)
    have h95 := hfk.get h95 (by decide)
    have h96 := hfk.get h96 (by decide)
    have h97 := hfk.get h97 (by decide)
    have h98 := hfk.get h98 (by decide)
    have h99 := hfk.get h99 (by decide)
    have h100 := hfk.get h100 (by decide)
    have h101 := hfk.get h101 (by decide)
    have h90 := hfk.get h90 (by decide)
    have h89 := hfk.get h89 (by decide)
    have h91 := hfk.get h91 (by decide)
    have h92 := hfk.get h92 (by decide)
    have h121 := hfk.get h121 (by decide)
    have h122 := hfk.get h122 (by decide)
    have h123 := hfk.get h123 (by decide)
    have h124 := hfk.get h124 (by decide)
    have h125 := hfk.get h125 (by decide)
    have h133 := hfk.get h133 (by decide)
    have h128 := hfk.get h128 (by decide)
    have h129 := hfk.get h129 (by decide)
    have h130 := hfk.get h130 (by decide)
    have h131 := hfk.get h131 (by decide)
    have h132 := hfk.get h132 (by decide)
    have hfr := hfr.tr hfk (by decide)
    have hlen := hlk.trans hlen
    have hsl := hsk.trans hsl
    have h118 := hN118
    have h119 := hN119
    have h120 := hN120
    have h117 := hN117
    change ab_W _ _ _ G10 136 [some (vR 80), some (vz w), some (vz (WP w)), some (vz (WD w))] [vz (SN m_slot), vR 80, vR 80] _
    refine ab_iload_n d_MO_go_136 rfl ?_
    refine ab_callV (d' := d - 1) (as := [vz (SN m_slot), vz (WD w)]) (st := [vR 80]) (r := _) (z_MO_same (o := o) (m_thrown := m_thrown) (m_taped := m_taped) (m_length := m_length) (m_out := m_out) (m_wide := m_wide) (m_gathered := m_gathered) (m_sets := m_sets) (m_ranges := m_ranges) (m_nodes := m_nodes) (m_at := m_at) (m_flags := m_flags) (m_fault := m_fault) (m_place := m_place) (m_numbered := m_numbered) (m_depth := m_depth) (m_value := m_value) (m_isNot := m_isNot) (m_least0 := m_least0) (m_most0 := m_most0) (m_slot := m_slot) (m_work := m_work) (m_got := m_got) (m_rowMany := m_rowMany) (m_charAt := m_charAt) (m_charWide := m_charWide) (m_trail := m_trail) (m_isMatch := m_isMatch) (m_matchGroups := m_matchGroups) (m_allFrom := m_allFrom) (m_allBefore := m_allBefore) (m_founds := m_founds) (m_pieces := m_pieces) (m_writtenMany := m_writtenMany) (m_templateWide := m_templateWide) (m_tooMuch := m_tooMuch) (RO := RO) (dp := (WD w)) (x := (SN m_slot)) (nn := ((SN m_slot) + 1)) h80 h133 (by omega) (by omega) gro (by omega) (by omega)) (fun oc G2 h => by rcases h with ⟨_, h, _⟩ <;> exact ⟨_, h⟩) (by omega) m_MO_same ml_MO_486 im_MO_same se_MO_same c_MO h80.2.2 (Nat.le_of_ble_eq_true rfl) d_MO_go_137 rfl ?_
    intro v G11 hq
    rcases hq with ⟨RO212, hv, hfk, hlk, hsk, hN80, hN133, hq13, hq14, hq15, hq16⟩
    cases hv
    have h94 := hfk.get h94 (by decide)
    have h95 := hfk.get h95 (by decide)
    have h96 := hfk.get h96 (by decide)
    have h97 := hfk.get h97 (by decide)
    have h98 := hfk.get h98 (by decide)
    have h99 := hfk.get h99 (by decide)
    have h100 := hfk.get h100 (by decide)
    have h101 := hfk.get h101 (by decide)
    have h90 := hfk.get h90 (by decide)
    have h89 := hfk.get h89 (by decide)
    have h91 := hfk.get h91 (by decide)
    have h92 := hfk.get h92 (by decide)
    have h118 := hfk.get h118 (by decide)
    have h119 := hfk.get h119 (by decide)
    have h120 := hfk.get h120 (by decide)
    have h121 := hfk.get h121 (by decide)
    have h122 := hfk.get h122 (by decide)
    have h123 := hfk.get h123 (by decide)
    have h124 := hfk.get h124 (by decide)
    have h117 := hfk.get h117 (by decide)
    have h125 := hfk.get h125 (by decide)
    have h128 := hfk.get h128 (by decide)
    have h129 := hfk.get h129 (by decide)
    have h130 := hfk.get h130 (by decide)
    have h131 := hfk.get h131 (by decide)
    have h132 := hfk.get h132 (by decide)
    have hfr := hfr.tr hfk (by decide)
    have hlen := hlk.trans hlen
    have hsl := hsk.trans hsl
    have h80 := hN80
    have h133 := hN133
    change ab_W _ _ _ G11 140 [some (vR 80), some (vz w), some (vz (WP w)), some (vz (WD w))] [vz (32 * m_rowMany), vR 80] _
    refine ab_callV (d' := d - 1) (as := [vz (32 * m_rowMany)]) (st := []) (r := _) (z_MO_done (o := o) (m_thrown := m_thrown) (m_taped := m_taped) (m_length := m_length) (m_out := m_out) (m_wide := m_wide) (m_gathered := m_gathered) (m_sets := m_sets) (m_ranges := m_ranges) (m_nodes := m_nodes) (m_at := m_at) (m_flags := m_flags) (m_fault := m_fault) (m_place := m_place) (m_numbered := m_numbered) (m_depth := m_depth) (m_value := m_value) (m_isNot := m_isNot) (m_least0 := m_least0) (m_most0 := m_most0) (m_slot := m_slot) (m_work := m_work) (m_got := m_got) (m_rowMany := (m_rowMany + 1)) (m_charAt := m_charAt) (m_charWide := m_charWide) (m_trail := m_trail) (m_isMatch := m_isMatch) (m_matchGroups := m_matchGroups) (m_allFrom := m_allFrom) (m_allBefore := m_allBefore) (m_founds := m_founds) (m_pieces := m_pieces) (m_writtenMany := m_writtenMany) (m_templateWide := m_templateWide) (m_tooMuch := m_tooMuch) (x := (32 * m_rowMany)) h80 (by omega)) (fun oc G2 h => by rcases h with ⟨h, _⟩ <;> exact ⟨_, h⟩) (by omega) m_MO_done ml_MO_461 im_MO_done se_MO_done c_MO h80.2.2 (Nat.le_of_ble_eq_true rfl) d_MO_go_140 rfl ?_
    intro v G17 hq
    rcases hq with ⟨hv, hfk, hlk, hsk, hN80⟩
    cases hv
    have h94 := hfk.get h94 (by decide)
    have h95 := hfk.get h95 (by decide)
    have h96 := hfk.get h96 (by decide)
    have h97 := hfk.get h97 (by decide)
    have h98 := hfk.get h98 (by decide)
    have h99 := hfk.get h99 (by decide)
    have h100 := hfk.get h100 (by decide)
    have h101 := hfk.get h101 (by decide)
    have h90 := hfk.get h90 (by decide)
    have h89 := hfk.get h89 (by decide)
    have h91 := hfk.get h91 (by decide)
    have h92 := hfk.get h92 (by decide)
    have h118 := hfk.get h118 (by decide)
    have h119 := hfk.get h119 (by decide)
    have h120 := hfk.get h120 (by decide)
    have h121 := hfk.get h121 (by decide)
    have h122 := hfk.get h122 (by decide)
    have h123 := hfk.get h123 (by decide)
    have h124 := hfk.get h124 (by decide)
    have h117 := hfk.get h117 (by decide)
    have h125 := hfk.get h125 (by decide)
    have h133 := hfk.get h133 (by decide)
    have h128 := hfk.get h128 (by decide)
    have h129 := hfk.get h129 (by decide)
    have h130 := hfk.get h130 (by decide)
    have h131 := hfk.get h131 (by decide)
    have h132 := hfk.get h132 (by decide)
    have hfr := hfr.tr hfk (by decide)
    have hlen := hlk.trans hlen
    have hsl := hsk.trans hsl
    have h80 := hN80
    change ab_W _ _ _ G17 143 [some (vR 80), some (vz w), some (vz (WP w)), some (vz (WD w))] [] _
    refine ab_goto (tgt := 200) d_MO_go_143 (by decide) ?_
    refine ab_vret rfl d_MO_go_200 ?_
    rw [hQ]; exact ⟨_, _, _, _, _, _, _, _, _, _, _, rfl, hfr, hlen, hsl, h80, h128, h129, h130, h131, h132, h133, h118, h119, h120, h117, (by first | exact gwp | exact rgs_w gwp (by omega)), (by first | exact gwd | exact rgs_w gwd (by omega)), (by first | exact gwt | exact rgs_w gwt (by omega)), (by first | exact gwg | exact rgs_w gwg (by omega)), (by first | exact gws | exact rgs_w gws (by omega)), (by exact fun j_ a_ => ⟨rfl, rfl, rfl, rfl, rfl⟩), (by first | rfl | (rw [zu_self]; done) | omega), (by first | exact hq13 | exact rgs_w hq13 (by omega)), (by first | exact (rgs_zu gt (by omega)) | exact rgs_w (rgs_zu gt (by omega)) (by omega)), (by first | exact (rgs_zu gn (by omega)) | exact rgs_w (rgs_zu gn (by omega)) (by omega)), (by first | exact (rgs_zu gw (by omega)) | exact rgs_w (rgs_zu gw (by omega)) (by omega)), (by first | exact (rgs_zu gsn (by omega)) | exact rgs_w (rgs_zu gsn (by omega)) (by omega)), (by exact zu_self _ _ _), (by exact hq14), (by exact hq15), (by exact sgn_add sgn_0 (by decide) (by omega) (by omega) (by omega) (by omega)), (by exact stx_add stx_rf (by omega)), (by exact sno_wr sno_rf), (by exact tka_add (k2 := 0) jka (by decide)), (by exact hq16), (by exact ⟨by omega, zu_self _ _ _, zu_self _ _ _, zu_self _ _ _⟩)⟩
set_option maxRecDepth 100000 in
set_option maxHeartbeats 4000000 in
theorem z_MO_go__3 {X : ab_X} {d : Nat} {o : Nat → Nat} {G : ab_G} {m_thrown : Int} {m_taped : Int} {m_length : Int} {m_out : Int} {m_wide : Int} {m_gathered : Int} {m_sets : Int} {m_ranges : Int} {m_nodes : Int} {m_at : Int} {m_flags : Int} {m_fault : Int} {m_place : Int} {m_numbered : Int} {m_depth : Int} {m_value : Int} {m_isNot : Int} {m_least0 : Int} {m_most0 : Int} {m_slot : Int} {m_work : Int} {m_got : Int} {m_rowMany : Int} {m_charAt : Int} {m_charWide : Int} {m_trail : Int} {m_isMatch : Int} {m_matchGroups : Int} {m_allFrom : Int} {m_allBefore : Int} {m_founds : Int} {m_pieces : Int} {m_writtenMany : Int} {m_templateWide : Int} {m_tooMuch : Int} {T : Int → Int} {N : Int → Int} {W : Int → Int} {CA : Int → Int} {CM : Int → Int} {CL : Int → Int} {CH : Int → Int} {SN : Int → Int} {CC : Int → Int} {RO : Int → Int} {WP : Int → Int} {WD : Int → Int} {WT : Int → Int} {WG : Int → Int} {WS : Int → Int} {K : Int → Int} {O : Int → Int} {Fi : Int → Int} {Be : Int → Int} {Le : Int → Int} {Mo : Int → Int} {Z : Int → Int} {LZ : Int → Int} {SM : Int → Int} {SA : Int → Int} {RL : Int → Int} {RH : Int → Int} {w : Int} {ns : Int} {nd : Int} (h80 : cc o G 80 280 (ab_ob 12 (mof m_thrown m_taped m_length m_out m_wide m_gathered m_sets m_ranges m_nodes m_at m_flags m_fault m_place m_numbered m_depth m_value m_isNot m_least0 m_most0 m_slot m_work m_got m_rowMany m_charAt m_charWide m_trail m_isMatch m_matchGroups m_allFrom m_allBefore m_founds m_pieces m_writtenMany m_templateWide m_tooMuch))) (h94 : cc o G 94 294 (za 4200 K)) (h95 : cc o G 95 295 (za 4200 O)) (h96 : cc o G 96 296 (za 4200 Fi)) (h97 : cc o G 97 297 (za 4200 Be)) (h98 : cc o G 98 298 (za 4200 Le)) (h99 : cc o G 99 299 (za 4200 Mo)) (h100 : cc o G 100 300 (zl 4200 Z)) (h101 : cc o G 101 301 (zb 4200 LZ)) (h90 : cc o G 90 290 (za 2100 SM)) (h89 : cc o G 89 289 (za 2100 SA)) (h91 : cc o G 91 291 (za 24000 RL)) (h92 : cc o G 92 292 (za 24000 RH)) (h118 : cc o G 118 318 (za 75000 T)) (h119 : cc o G 119 319 (za 75000 N)) (h120 : cc o G 120 320 (za 75000 W)) (h121 : cc o G 121 321 (za 75000 CA)) (h122 : cc o G 122 322 (za 75000 CM)) (h123 : cc o G 123 323 (za 3600 CL)) (h124 : cc o G 124 324 (za 3600 CH)) (h117 : cc o G 117 317 (za 6 SN)) (h125 : cc o G 125 325 (za 6 CC)) (h133 : cc o G 133 333 (za 40000 RO)) (h128 : cc o G 128 328 (za 300 WP)) (h129 : cc o G 129 329 (za 300 WD)) (h130 : cc o G 130 330 (za 300 WT)) (h131 : cc o G 131 331 (za 300 WG)) (h132 : cc o G 132 332 (za 300 WS)) (n18 : ab_n0 = 18) (csl : 0 ≤ m_slot ∧ m_slot ≤ 5) (jrl : rgs RL 24000 0 1114111) (jrh : rgs RH 24000 0 1114111) (jk : rgs K 4200 0 7) (jo : rgs O 4200 (-1) 3000) (jfi : rgs Fi 4200 (-1) 4199) (jbe : rgs Be 4200 (-1) 4199) (jle : rgs Le 4200 0 1000) (jmo : rgs Mo 4200 (-1) 1000) (jz : rgs Z 4200 (-1) 1000000000000) (jlz : rgs LZ 4200 0 1) (jsm : rgs SM 2100 0 24000) (jsa : rgs SA 2100 0 24000) (gt : rgs T 75000 0 6) (gn : rgs N 75000 (-1) 12499) (gw : rgs W 75000 (-1) 12499) (gca : rgs CA 75000 0 3600) (gcm : rgs CM 75000 0 24000) (gcl : rgs CL 3600 0 1114111) (gch : rgs CH 3600 0 1114111) (gsn : rgs SN 6 0 12500) (gcc : rgs CC 6 0 600) (gro : rgs RO 40000 0 12499) (gwp : rgs WP 300 0 4199) (gwd : rgs WD 300 0 31) (gwt : rgs WT 300 0 39968) (gwg : rgs WG 300 0 39968) (gws : rgs WS 300 0 4300) (jka : tka T W CA CM SM SA RL RH CL CH (12500 * m_slot) (SN m_slot) m_slot (CC m_slot) ns) (jss : sas SA SM ns) (cst : 0 ≤ m_rowMany ∧ m_rowMany ≤ 1250 ∧ 0 ≤ (SN m_slot) ∧ (SN m_slot) ≤ 12500 ∧ 0 ≤ ns ∧ ns ≤ 2100) (cw : 0 ≤ w ∧ m_work = w + 1 ∧ w < 299) (cx : 0 ≤ WP w ∧ WP w < nd ∧ 0 ≤ nd ∧ nd ≤ 4200 ∧ 0 ≤ WD w ∧ WD w ≤ 31 ∧ 0 ≤ WT w ∧ WT w + 32 ≤ 32 * m_rowMany) (jto : rokk RO (WT w) (WD w + 1) (SN m_slot)) (crs : m_rowMany ≤ 1249 ∧ (SN m_slot) + WD w + 1 ≤ 12500) (czz : 1 ≤ Z (WP w)) (ck : K (WP w) = 3) (co : 0 ≤ O (WP w) ∧ O (WP w) ≤ 5) (hd : 4 ≤ d) : ab_F X d y_MO_go (.code y_MO_go b_MO_go 4 none) [vR 80, vz w] G (fun oc G2 => ∃ g2 : Int, ∃ WP2 : Int → Int, ∃ WD2 : Int → Int, ∃ WT2 : Int → Int, ∃ WG2 : Int → Int, ∃ WS2 : Int → Int, ∃ RO2 : Int → Int, ∃ T2 : Int → Int, ∃ N2 : Int → Int, ∃ W2 : Int → Int, ∃ SN2 : Int → Int, oc = .returned none ∧ fx o o [280, 328, 329, 330, 331, 332, 333, 318, 319, 320, 317] G G2 ∧ G2.length = G.length ∧ ab_slots G2 = ab_slots G ∧ cc o G2 80 280 (ab_ob 12 (mof m_thrown m_taped m_length m_out m_wide m_gathered m_sets m_ranges m_nodes m_at m_flags m_fault m_place m_numbered m_depth m_value m_isNot m_least0 m_most0 m_slot (m_work - 1) g2 (m_rowMany + 1) m_charAt m_charWide m_trail m_isMatch m_matchGroups m_allFrom m_allBefore m_founds m_pieces m_writtenMany m_templateWide m_tooMuch)) ∧ cc o G2 128 328 (za 300 WP2) ∧ cc o G2 129 329 (za 300 WD2) ∧ cc o G2 130 330 (za 300 WT2) ∧ cc o G2 131 331 (za 300 WG2) ∧ cc o G2 132 332 (za 300 WS2) ∧ cc o G2 133 333 (za 40000 RO2) ∧ cc o G2 118 318 (za 75000 T2) ∧ cc o G2 119 319 (za 75000 N2) ∧ cc o G2 120 320 (za 75000 W2) ∧ cc o G2 117 317 (za 6 SN2) ∧ (rgs WP2 300 0 4199) ∧ (rgs WD2 300 0 31) ∧ (rgs WT2 300 0 39968) ∧ (rgs WG2 300 0 39968) ∧ (rgs WS2 300 0 4300) ∧ (fsm WP WD WT WG WS WP2 WD2 WT2 WG2 WS2 w) ∧ (g2 = (32 * m_rowMany)) ∧ (rgs RO2 40000 0 12499) ∧ (rgs T2 75000 0 6) ∧ (rgs N2 75000 (-1) 12499) ∧ (rgs W2 75000 (-1) 12499) ∧ (rgs SN2 6 0 12500) ∧ ((SN m_slot) ≤ SN2 m_slot ∧ SN2 m_slot ≤ (SN m_slot) + WD w + 1) ∧ (rsm RO RO2 (32 * m_rowMany)) ∧ (sgn T2 N2 W2 (12500 * m_slot) (SN m_slot) (SN2 m_slot)) ∧ (stx T N W CA CM T2 N2 W2 CA CM (12500 * m_slot) (SN m_slot)) ∧ (sno SN SN2 m_slot) ∧ (tka T2 W2 CA CM SM SA RL RH CL CH (12500 * m_slot) (SN2 m_slot) m_slot (CC m_slot) ns) ∧ (rokk RO2 (32 * m_rowMany) (WD w + 1) (SN2 m_slot)) ∧ (rE T2 N2 W2 RO2 m_slot (SN m_slot) (SN2 m_slot) (32 * m_rowMany) (WD w + 1) 5 (fun i => RO (WT w + i)) (fun _ => O (WP w)))) := by
  refine ab_F_of (by decide +kernel) (Nat.le_of_ble_eq_true rfl) ?_
  obtain ⟨Q, hQ⟩ : ∃ z : Outcome → ab_G → Prop, z = (fun oc G2 => ∃ g2 : Int, ∃ WP2 : Int → Int, ∃ WD2 : Int → Int, ∃ WT2 : Int → Int, ∃ WG2 : Int → Int, ∃ WS2 : Int → Int, ∃ RO2 : Int → Int, ∃ T2 : Int → Int, ∃ N2 : Int → Int, ∃ W2 : Int → Int, ∃ SN2 : Int → Int, oc = .returned none ∧ fx o o [280, 328, 329, 330, 331, 332, 333, 318, 319, 320, 317] G G2 ∧ G2.length = G.length ∧ ab_slots G2 = ab_slots G ∧ cc o G2 80 280 (ab_ob 12 (mof m_thrown m_taped m_length m_out m_wide m_gathered m_sets m_ranges m_nodes m_at m_flags m_fault m_place m_numbered m_depth m_value m_isNot m_least0 m_most0 m_slot (m_work - 1) g2 (m_rowMany + 1) m_charAt m_charWide m_trail m_isMatch m_matchGroups m_allFrom m_allBefore m_founds m_pieces m_writtenMany m_templateWide m_tooMuch)) ∧ cc o G2 128 328 (za 300 WP2) ∧ cc o G2 129 329 (za 300 WD2) ∧ cc o G2 130 330 (za 300 WT2) ∧ cc o G2 131 331 (za 300 WG2) ∧ cc o G2 132 332 (za 300 WS2) ∧ cc o G2 133 333 (za 40000 RO2) ∧ cc o G2 118 318 (za 75000 T2) ∧ cc o G2 119 319 (za 75000 N2) ∧ cc o G2 120 320 (za 75000 W2) ∧ cc o G2 117 317 (za 6 SN2) ∧ (rgs WP2 300 0 4199) ∧ (rgs WD2 300 0 31) ∧ (rgs WT2 300 0 39968) ∧ (rgs WG2 300 0 39968) ∧ (rgs WS2 300 0 4300) ∧ (fsm WP WD WT WG WS WP2 WD2 WT2 WG2 WS2 w) ∧ (g2 = (32 * m_rowMany)) ∧ (rgs RO2 40000 0 12499) ∧ (rgs T2 75000 0 6) ∧ (rgs N2 75000 (-1) 12499) ∧ (rgs W2 75000 (-1) 12499) ∧ (rgs SN2 6 0 12500) ∧ ((SN m_slot) ≤ SN2 m_slot ∧ SN2 m_slot ≤ (SN m_slot) + WD w + 1) ∧ (rsm RO RO2 (32 * m_rowMany)) ∧ (sgn T2 N2 W2 (12500 * m_slot) (SN m_slot) (SN2 m_slot)) ∧ (stx T N W CA CM T2 N2 W2 CA CM (12500 * m_slot) (SN m_slot)) ∧ (sno SN SN2 m_slot) ∧ (tka T2 W2 CA CM SM SA RL RH CL CH (12500 * m_slot) (SN2 m_slot) m_slot (CC m_slot) ns) ∧ (rokk RO2 (32 * m_rowMany) (WD w + 1) (SN2 m_slot)) ∧ (rE T2 N2 W2 RO2 m_slot (SN m_slot) (SN2 m_slot) (32 * m_rowMany) (WD w + 1) 5 (fun i => RO (WT w + i)) (fun _ => O (WP w)))) := ⟨_, rfl⟩
  rw [← hQ]
  change ab_W X (ab_pl y_MO_go b_MO_go 4 none) d G 0 [some (vR 80), some (vz w), none, none] [] Q
  have hfr : fx o o [280, 328, 329, 330, 331, 332, 333, 318, 319, 320, 317] G G := fx.rf
  have hlen : G.length = G.length := rfl
  have hsl : ab_slots G = ab_slots G := rfl
  refine ab_aload_n d_MO_go_0 rfl ?_
  refine ab_getf (fs := mof m_thrown m_taped m_length m_out m_wide m_gathered m_sets m_ranges m_nodes m_at m_flags m_fault m_place m_numbered m_depth m_value m_isNot m_least0 m_most0 m_slot m_work m_got m_rowMany m_charAt m_charWide m_trail m_isMatch m_matchGroups m_allFrom m_allBefore m_founds m_pieces m_writtenMany m_templateWide m_tooMuch) f_MO_158 d_MO_go_1 h80.2.2 rfl ?_
  refine ab_iload_n d_MO_go_4 rfl ?_
  refine zz_iald d_MO_go_5 h128 (by omega) ?_
  have hq1 := gwp w (by omega) (by omega)
  refine ab_istore_n d_MO_go_6 (Nat.le_of_ble_eq_true rfl) (Nat.le_of_ble_eq_true rfl) rfl ?_
  change ab_W _ _ _ G 7 [some (vR 80), some (vz w), some (vz (WP w)), none] [] _
  refine ab_aload_n d_MO_go_7 rfl ?_
  refine ab_getf (fs := mof m_thrown m_taped m_length m_out m_wide m_gathered m_sets m_ranges m_nodes m_at m_flags m_fault m_place m_numbered m_depth m_value m_isNot m_least0 m_most0 m_slot m_work m_got m_rowMany m_charAt m_charWide m_trail m_isMatch m_matchGroups m_allFrom m_allBefore m_founds m_pieces m_writtenMany m_templateWide m_tooMuch) f_MO_161 d_MO_go_8 h80.2.2 rfl ?_
  refine ab_iload_n d_MO_go_11 rfl ?_
  refine zz_iald d_MO_go_12 h129 (by omega) ?_
  have hq2 := gwd w (by omega) (by omega)
  refine ab_istore_n d_MO_go_13 (Nat.le_of_ble_eq_true rfl) (Nat.le_of_ble_eq_true rfl) rfl ?_
  change ab_W _ _ _ G 14 [some (vR 80), some (vz w), some (vz (WP w)), some (vz (WD w))] [] _
  refine ab_aload_n d_MO_go_14 rfl ?_
  refine ab_getf (fs := mof m_thrown m_taped m_length m_out m_wide m_gathered m_sets m_ranges m_nodes m_at m_flags m_fault m_place m_numbered m_depth m_value m_isNot m_least0 m_most0 m_slot m_work m_got m_rowMany m_charAt m_charWide m_trail m_isMatch m_matchGroups m_allFrom m_allBefore m_founds m_pieces m_writtenMany m_templateWide m_tooMuch) f_MO_68 d_MO_go_15 h80.2.2 rfl ?_
  refine ab_iload_n d_MO_go_18 rfl ?_
  refine zz_lald d_MO_go_19 h100 (by omega) ?_
  have hq3 := jz (WP w) (by omega) (by omega)
  refine zz_lconst d_MO_go_20 ?_
  change ab_W _ _ _ G 21 [some (vR 80), some (vz w), some (vz (WP w)), some (vz (WD w))] [vj 0, vj (Z (WP w))] _
  refine zz_lcmp d_MO_go_21 (by omega) (by omega) (fun c4a => by exfalso; omega) (fun c4a c4b => by exfalso; omega) (fun c4a => ?_)
  · refine zz_if_ne (tgt := 36) d_MO_go_22 (by decide) (by decide) (fun c5 => ?_) (fun c5 => absurd c5 (by decide))
    refine ab_aload_n d_MO_go_36 rfl ?_
    refine ab_getf (fs := mof m_thrown m_taped m_length m_out m_wide m_gathered m_sets m_ranges m_nodes m_at m_flags m_fault m_place m_numbered m_depth m_value m_isNot m_least0 m_most0 m_slot m_work m_got m_rowMany m_charAt m_charWide m_trail m_isMatch m_matchGroups m_allFrom m_allBefore m_founds m_pieces m_writtenMany m_templateWide m_tooMuch) f_MO_50 d_MO_go_37 h80.2.2 rfl ?_
    refine ab_iload_n d_MO_go_40 rfl ?_
    refine zz_iald d_MO_go_41 h94 (by omega) ?_
    have hq6 := jk (WP w) (by omega) (by omega)
    refine zz_top (y := 3) (by omega) ?_
    change ab_W _ _ _ G 42 [some (vR 80), some (vz w), some (vz (WP w)), some (vz (WD w))] [vz 3] _
    refine zz_tableIn (off := 104) (tgt := 146) d_MO_go_42 (by decide) (by decide) (by decide) (by decide) (by decide) ?_
    refine ab_aload_n d_MO_go_146 rfl ?_
    refine ab_aload_n d_MO_go_147 rfl ?_
    refine zz_iconst d_MO_go_148 ?_
    refine ab_aload_n d_MO_go_149 rfl ?_
    refine ab_getf (fs := mof m_thrown m_taped m_length m_out m_wide m_gathered m_sets m_ranges m_nodes m_at m_flags m_fault m_place m_numbered m_depth m_value m_isNot m_least0 m_most0 m_slot m_work m_got m_rowMany m_charAt m_charWide m_trail m_isMatch m_matchGroups m_allFrom m_allBefore m_founds m_pieces m_writtenMany m_templateWide m_tooMuch) f_MO_164 d_MO_go_150 h80.2.2 rfl ?_
    refine ab_iload_n d_MO_go_153 rfl ?_
    refine zz_iald d_MO_go_154 h130 (by omega) ?_
    have hq8 := gwt w (by omega) (by omega)
    refine ab_aload_n d_MO_go_155 rfl ?_
    refine ab_getf (fs := mof m_thrown m_taped m_length m_out m_wide m_gathered m_sets m_ranges m_nodes m_at m_flags m_fault m_place m_numbered m_depth m_value m_isNot m_least0 m_most0 m_slot m_work m_got m_rowMany m_charAt m_charWide m_trail m_isMatch m_matchGroups m_allFrom m_allBefore m_founds m_pieces m_writtenMany m_templateWide m_tooMuch) f_MO_53 d_MO_go_156 h80.2.2 rfl ?_
    refine ab_iload_n d_MO_go_159 rfl ?_
    refine zz_iald d_MO_go_160 h95 (by omega) ?_
    have hq9 := jo (WP w) (by omega) (by omega)
    refine ab_iload_n d_MO_go_161 rfl ?_
    refine ab_callV (d' := d - 1) (as := [vz 5, vz (WT w), vz (O (WP w)), vz (WD w)]) (st := [vR 80]) (r := _) (z_MO_each (o := o) (m_thrown := m_thrown) (m_taped := m_taped) (m_length := m_length) (m_out := m_out) (m_wide := m_wide) (m_gathered := m_gathered) (m_sets := m_sets) (m_ranges := m_ranges) (m_nodes := m_nodes) (m_at := m_at) (m_flags := m_flags) (m_fault := m_fault) (m_place := m_place) (m_numbered := m_numbered) (m_depth := m_depth) (m_value := m_value) (m_isNot := m_isNot) (m_least0 := m_least0) (m_most0 := m_most0) (m_slot := m_slot) (m_work := m_work) (m_got := m_got) (m_rowMany := m_rowMany) (m_charAt := m_charAt) (m_charWide := m_charWide) (m_trail := m_trail) (m_isMatch := m_isMatch) (m_matchGroups := m_matchGroups) (m_allFrom := m_allFrom) (m_allBefore := m_allBefore) (m_founds := m_founds) (m_pieces := m_pieces) (m_writtenMany := m_writtenMany) (m_templateWide := m_templateWide) (m_tooMuch := m_tooMuch) (T := T) (N := N) (W := W) (CA := CA) (CM := CM) (CL := CL) (CH := CH) (SN := SN) (RO := RO) (SM := SM) (SA := SA) (RL := RL) (RH := RH) (k := 5) (to := (WT w)) (be := (O (WP w))) (dp := (WD w)) (ns := ns) (cl := (CC m_slot)) h80 h133 h118 h119 h120 h117 (by omega) (by omega) (by omega) gro gt gn gw gsn (by omega) (by right; omega) jto jka (by omega)) (fun oc G2 h => by rcases h with ⟨_, _, _, _, _, h, _⟩ <;> exact ⟨_, h⟩) (by omega) m_MO_each ml_MO_470 im_MO_each se_MO_each c_MO h80.2.2 (Nat.le_of_ble_eq_true rfl) d_MO_go_162 rfl ?_
    intro v G10 hq
    rcases hq with ⟨RO211, T212, N213, W214, SN215, hv, hfk, hlk, hsk, hN80, hN133, hN118, hN119, hN120, hN117, hq16, hq17, hq18, hq19, hq20, hq21, hq22, hq23, hq24, hq25, hq26, hq27, hq28⟩
    cases hv
    have h94 := hfk.get h94 (by decide)
    have h95 := hfk.get h95 (by decide)
    have h96 := hfk.get h96 (by decide)
    have h97 := hfk.get h97 (by decide)
    have h98 := hfk.get h98 (by decide)
    have h99 := hfk.get h99 (by decide)
    have h100 := hfk.get h100 (by decide)
    have h101 := hfk.get h101 (by decide)
    have h90 := hfk.get h90 (by decide)
    have h89 := hfk.get h89 (by decide)
    have h91 := hfk.get h91 (by decide)
    have h92 := hfk.get h92 (by decide)
    have h121 := hfk.get h121 (by decide)
    have h122 := hfk.get h122 (by decide)
    have h123 := hfk.get h123 (by decide)
    have h124 := hfk.get h124 (by decide)
    have h125 := hfk.get h125 (by decide)
    have h128 := hfk.get h128 (by decide)
    have h129 := hfk.get h129 (by decide)
    have h130 := hfk.get h130 (by decide)
    have h131 := hfk.get h131 (by decide)
    have h132 := hfk.get h132 (by decide)
    have hfr := hfr.tr hfk (by decide)
    have hlen := hlk.trans hlen
    have hsl := hsk.trans hsl
    have h80 := hN80
    have h133 := hN133
    have h118 := hN118
    have h119 := hN119
    have h120 := hN120
    have h117 := hN117
    change ab_W _ _ _ G10 165 [some (vR 80), some (vz w), some (vz (WP w)), some (vz (WD w))] [vz (32 * m_rowMany), vR 80] _
    refine ab_callV (d' := d - 1) (as := [vz (32 * m_rowMany)]) (st := []) (r := _) (z_MO_done (o := o) (m_thrown := m_thrown) (m_taped := m_taped) (m_length := m_length) (m_out := m_out) (m_wide := m_wide) (m_gathered := m_gathered) (m_sets := m_sets) (m_ranges := m_ranges) (m_nodes := m_nodes) (m_at := m_at) (m_flags := m_flags) (m_fault := m_fault) (m_place := m_place) (m_numbered := m_numbered) (m_depth := m_depth) (m_value := m_value) (m_isNot := m_isNot) (m_least0 := m_least0) (m_most0 := m_most0) (m_slot := m_slot) (m_work := m_work) (m_got := m_got) (m_rowMany := (m_rowMany + 1)) (m_charAt := m_charAt) (m_charWide := m_charWide) (m_trail := m_trail) (m_isMatch := m_isMatch) (m_matchGroups := m_matchGroups) (m_allFrom := m_allFrom) (m_allBefore := m_allBefore) (m_founds := m_founds) (m_pieces := m_pieces) (m_writtenMany := m_writtenMany) (m_templateWide := m_templateWide) (m_tooMuch := m_tooMuch) (x := (32 * m_rowMany)) h80 (by omega)) (fun oc G2 h => by rcases h with ⟨h, _⟩ <;> exact ⟨_, h⟩) (by omega) m_MO_done ml_MO_461 im_MO_done se_MO_done c_MO h80.2.2 (Nat.le_of_ble_eq_true rfl) d_MO_go_165 rfl ?_
    intro v G29 hq
    rcases hq with ⟨hv, hfk, hlk, hsk, hN80⟩
    cases hv
    have h94 := hfk.get h94 (by decide)
    have h95 := hfk.get h95 (by decide)
    have h96 := hfk.get h96 (by decide)
    have h97 := hfk.get h97 (by decide)
    have h98 := hfk.get h98 (by decide)
    have h99 := hfk.get h99 (by decide)
    have h100 := hfk.get h100 (by decide)
    have h101 := hfk.get h101 (by decide)
    have h90 := hfk.get h90 (by decide)
    have h89 := hfk.get h89 (by decide)
    have h91 := hfk.get h91 (by decide)
    have h92 := hfk.get h92 (by decide)
    have h118 := hfk.get h118 (by decide)
    have h119 := hfk.get h119 (by decide)
    have h120 := hfk.get h120 (by decide)
    have h121 := hfk.get h121 (by decide)
    have h122 := hfk.get h122 (by decide)
    have h123 := hfk.get h123 (by decide)
    have h124 := hfk.get h124 (by decide)
    have h117 := hfk.get h117 (by decide)
    have h125 := hfk.get h125 (by decide)
    have h133 := hfk.get h133 (by decide)
    have h128 := hfk.get h128 (by decide)
    have h129 := hfk.get h129 (by decide)
    have h130 := hfk.get h130 (by decide)
    have h131 := hfk.get h131 (by decide)
    have h132 := hfk.get h132 (by decide)
    have hfr := hfr.tr hfk (by decide)
    have hlen := hlk.trans hlen
    have hsl := hsk.trans hsl
    have h80 := hN80
    change ab_W _ _ _ G29 168 [some (vR 80), some (vz w), some (vz (WP w)), some (vz (WD w))] [] _
    refine ab_goto (tgt := 200) d_MO_go_168 (by decide) ?_
    refine ab_vret rfl d_MO_go_200 ?_
    rw [hQ]; exact ⟨_, _, _, _, _, _, _, _, _, _, _, rfl, hfr, hlen, hsl, h80, h128, h129, h130, h131, h132, h133, h118, h119, h120, h117, (by first | exact gwp | exact rgs_w gwp (by omega)), (by first | exact gwd | exact rgs_w gwd (by omega)), (by first | exact gwt | exact rgs_w gwt (by omega)), (by first | exact gwg | exact rgs_w gwg (by omega)), (by first | exact gws | exact rgs_w gws (by omega)), (by exact fun j_ a_ => ⟨rfl, rfl, rfl, rfl, rfl⟩), (by first | rfl | (rw [zu_self]; done) | omega), (by first | exact hq16 | exact rgs_w hq16 (by omega)), (by first | exact hq17 | exact rgs_w hq17 (by omega)), (by first | exact hq18 | exact rgs_w hq18 (by omega)), (by first | exact hq19 | exact rgs_w hq19 (by omega)), (by first | exact hq20 | exact rgs_w hq20 (by omega)), (by omega), (by exact hq23), (by exact hq24), (by exact hq25), (by exact hq26), (by exact hq27), (by exact hq22), (by exact hq28)⟩
