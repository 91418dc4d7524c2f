def ryJ (o : Nat → Nat) (G : ab_G) (f_ready : Nat) (RD_ : Int → Int) : Prop := cc o G f_ready 19 (za 20 RD_) ∧ (rgs RD_ 20 0 255)
set_option maxRecDepth 100000 in
theorem ryJ.fr {o o2 : Nat → Nat} {S : List Nat} {G G2 : ab_G} {f_ready : Nat} {RD_ : Int → Int} (hf : fx o o2 S G G2) (h : ryJ o G f_ready RD_) (n0 : ¬ 19 ∈ S) : ryJ o2 G2 f_ready RD_ := by
  obtain ⟨c_f_ready, k_jr⟩ := h
  exact ⟨hf.get c_f_ready n0, k_jr⟩
def tpJ (o : Nat → Nat) (G : ab_G) (f_tape : Nat) (mr_t : Nat) (sz_t : Int) (F_t : Int → Int) : Prop := ∃ it_t : Nat, cc o G f_tape 22 (ab_ob 7 [vz 2000, vR it_t, vz sz_t]) ∧ cc o G it_t 23 (za mr_t F_t) ∧ (0 ≤ sz_t ∧ sz_t ≤ ↑mr_t ∧ ↑mr_t ≤ (2000 : Int) ∧ 32 ≤ mr_t) ∧ (bytes F_t sz_t)
set_option maxRecDepth 100000 in
theorem tpJ.fr {o o2 : Nat → Nat} {S : List Nat} {G G2 : ab_G} {f_tape : Nat} {mr_t : Nat} {sz_t : Int} {F_t : Int → Int} (hf : fx o o2 S G G2) (h : tpJ o G f_tape mr_t sz_t F_t) (n0 : ¬ 22 ∈ S) (n1 : ¬ 23 ∈ S) : tpJ o2 G2 f_tape mr_t sz_t F_t := by
  obtain ⟨it_t, c_f_tape, c_it_t, k_crw_t, k_hbt⟩ := h
  exact ⟨it_t, hf.get c_f_tape n0, hf.get c_it_t n1, k_crw_t, k_hbt⟩
def spJ (o : Nat → Nat) (G : ab_G) (f_spans : Nat) : Prop := ∃ SP : Int → Int, cc o G f_spans 31 (za 20 SP) ∧ (rgs SP 20 (-1) 2000)
set_option maxRecDepth 100000 in
theorem spJ.fr {o o2 : Nat → Nat} {S : List Nat} {G G2 : ab_G} {f_spans : Nat} (hf : fx o o2 S G G2) (h : spJ o G f_spans) (n0 : ¬ 31 ∈ S) : spJ o2 G2 f_spans := by
  obtain ⟨SP, c_f_spans, k_jsp⟩ := h
  exact ⟨SP, hf.get c_f_spans n0, k_jsp⟩
def laJ (o : Nat → Nat) (G : ab_G) (f_latest : Nat) (LA : Int → Int) : Prop := cc o G f_latest 70 (za 20 LA) ∧ (0 ≤ 1)
set_option maxRecDepth 100000 in
theorem laJ.fr {o o2 : Nat → Nat} {S : List Nat} {G G2 : ab_G} {f_latest : Nat} {LA : Int → Int} (hf : fx o o2 S G G2) (h : laJ o G f_latest LA) (n0 : ¬ 70 ∈ S) : laJ o2 G2 f_latest LA := by
  obtain ⟨c_f_latest, k_jla⟩ := h
  exact ⟨hf.get c_f_latest n0, k_jla⟩
def maJ (o : Nat → Nat) (G : ab_G) (f_matches : Nat) (mr_a : Nat) (sz_a : Int) (F_a : Int → Int) : Prop := ∃ it_a : Nat, cc o G f_matches 71 (ab_ob 7 [vz 4002, vR it_a, vz sz_a]) ∧ cc o G it_a 72 (za mr_a F_a) ∧ (0 ≤ sz_a ∧ sz_a ≤ ↑mr_a ∧ ↑mr_a ≤ (4002 : Int) ∧ 32 ≤ mr_a)
set_option maxRecDepth 100000 in
theorem maJ.fr {o o2 : Nat → Nat} {S : List Nat} {G G2 : ab_G} {f_matches : Nat} {mr_a : Nat} {sz_a : Int} {F_a : Int → Int} (hf : fx o o2 S G G2) (h : maJ o G f_matches mr_a sz_a F_a) (n0 : ¬ 71 ∈ S) (n1 : ¬ 72 ∈ S) : maJ o2 G2 f_matches mr_a sz_a F_a := by
  obtain ⟨it_a, c_f_matches, c_it_a, k_crw_a⟩ := h
  exact ⟨it_a, hf.get c_f_matches n0, hf.get c_it_a n1, k_crw_a⟩
def pcJ (o : Nat → Nat) (G : ab_G) (f_pieces : Nat) (mr_b : Nat) (sz_b : Int) (F_b : Int → Int) : Prop := ∃ it_b : Nat, cc o G f_pieces 73 (ab_ob 7 [vz 4004, vR it_b, vz sz_b]) ∧ cc o G it_b 74 (za mr_b F_b) ∧ (0 ≤ sz_b ∧ sz_b ≤ ↑mr_b ∧ ↑mr_b ≤ (4004 : Int) ∧ 32 ≤ mr_b)
set_option maxRecDepth 100000 in
theorem pcJ.fr {o o2 : Nat → Nat} {S : List Nat} {G G2 : ab_G} {f_pieces : Nat} {mr_b : Nat} {sz_b : Int} {F_b : Int → Int} (hf : fx o o2 S G G2) (h : pcJ o G f_pieces mr_b sz_b F_b) (n0 : ¬ 73 ∈ S) (n1 : ¬ 74 ∈ S) : pcJ o2 G2 f_pieces mr_b sz_b F_b := by
  obtain ⟨it_b, c_f_pieces, c_it_b, k_crw_b⟩ := h
  exact ⟨it_b, hf.get c_f_pieces n0, hf.get c_it_b n1, k_crw_b⟩
def tmJ (o : Nat → Nat) (G : ab_G) (f_template : Nat) (mr_p : Nat) : Prop := ∃ it_p : Nat, ∃ sz_p : Int, ∃ F_p : Int → Int, cc o G f_template 75 (ab_ob 7 [vz 2000, vR it_p, vz sz_p]) ∧ cc o G it_p 76 (za mr_p F_p) ∧ (0 ≤ sz_p ∧ sz_p ≤ ↑mr_p ∧ ↑mr_p ≤ (2000 : Int) ∧ 32 ≤ mr_p)
set_option maxRecDepth 100000 in
theorem tmJ.fr {o o2 : Nat → Nat} {S : List Nat} {G G2 : ab_G} {f_template : Nat} {mr_p : Nat} (hf : fx o o2 S G G2) (h : tmJ o G f_template mr_p) (n0 : ¬ 75 ∈ S) (n1 : ¬ 76 ∈ S) : tmJ o2 G2 f_template mr_p := by
  obtain ⟨it_p, sz_p, F_p, c_f_template, c_it_p, k_crw_p⟩ := h
  exact ⟨it_p, sz_p, F_p, hf.get c_f_template n0, hf.get c_it_p n1, k_crw_p⟩
def rsJ (o : Nat → Nat) (G : ab_G) (f_row : Nat) (l_ : Nat) (mr_w : Nat) (sz_w : Int) (F_w : Int → Int) : Prop := ∃ it_w : Nat, cc o G f_row l_ (ab_ob 7 [vz 6000, vR it_w, vz sz_w]) ∧ cc o G it_w (l_ + 1) (za mr_w F_w) ∧ (0 ≤ sz_w ∧ sz_w ≤ ↑mr_w ∧ ↑mr_w ≤ (6000 : Int) ∧ 32 ≤ mr_w)
set_option maxRecDepth 100000 in
theorem rsJ.fr {o o2 : Nat → Nat} {S : List Nat} {G G2 : ab_G} {f_row : Nat} {l_ : Nat} {mr_w : Nat} {sz_w : Int} {F_w : Int → Int} (hf : fx o o2 S G G2) (h : rsJ o G f_row l_ mr_w sz_w F_w) (n0 : ¬ l_ ∈ S) (n1 : ¬ (l_ + 1) ∈ S) : rsJ o2 G2 f_row l_ mr_w sz_w F_w := by
  obtain ⟨it_w, c_f_row, c_it_w, k_crw_w⟩ := h
  exact ⟨it_w, hf.get c_f_row n0, hf.get c_it_w n1, k_crw_w⟩
set_option maxRecDepth 100000 in
def pwW (o : Nat → Nat) (G : ab_G) (w_ : Nat) (lf : Nat) (RD_ : Int → Int) (F_t : Int → Int) (sz_t : Int) (PG : Nat → Option Nat) (cv : Int → Int) (fa : Int) (fp : Int) (n : Int) (f : Int → Int) (sz_a : Int) (F_a : Int → Int) (sz_b : Int) (F_b : Int → Int) (sz_r : Int) (F_r : Int → Int) (LA : Int → Int) : Prop := ∃ f_ready : Nat, ∃ f_tape : Nat, ∃ f_reader : Nat, ∃ f_programs : Nat, ∃ f_subject : Nat, ∃ f_spans : Nat, ∃ f_threads : Nat, ∃ f_marks : Nat, ∃ f_oneMind : Nat, ∃ f_states : Nat, ∃ f_latest : Nat, ∃ f_matches : Nat, ∃ f_pieces : Nat, ∃ f_template : Nat, ∃ f_result : Nat, ∃ f_spare : Nat, ∃ cmp : Int, ∃ sb : Int, ∃ NR : Nat → Nat, ∃ on : Nat, ∃ nm : Nat, ∃ ns : Nat, ∃ nt : Nat, ∃ m : Nat, ∃ mr_t : Nat, ∃ mr_a : Nat, ∃ mr_b : Nat, ∃ mr_p : Nat, ∃ mr_r : Nat, ∃ mr_s : Nat, ∃ lr_ : Nat, ∃ ls_ : Nat, ∃ jr_ : Nat, ∃ nb : Nat, ∃ sz_s : Int, ∃ F_s : Int → Int, cc o G w_ 18 (ab_ob 0 [vR f_ready, vR f_tape, vR f_reader, vR f_programs, vR f_subject, vR f_spans, vR f_threads, vR f_marks, vR f_oneMind, vR f_states, vR f_latest, vR f_matches, vR f_pieces, vR f_template, vR f_result, vR f_spare, vz cmp, vz 0]) ∧ cc o G f_programs 81 (ab_rr 6 PG) ∧ cc o G 17 17 (za 12 zFC) ∧ cc o G 15 15 (za 18 zAR) ∧ cc o G 16 16 (za 20 zAF) ∧ thI o G f_threads 0 ∧ mkI o G f_marks nm ns 0 ∧ omI o G f_oneMind on nt 0 ∧ stI o G f_states cv cmp 0 sb ∧ suI o G f_subject n m f ∧ pgI o G 0 PG NR cv cmp on ∧ rdI o G f_reader nb fa fp ∧ tbI o G 0 ∧ ryJ o G f_ready RD_ ∧ tpJ o G f_tape mr_t sz_t F_t ∧ spJ o G f_spans ∧ laJ o G f_latest LA ∧ maJ o G f_matches mr_a sz_a F_a ∧ pcJ o G f_pieces mr_b sz_b F_b ∧ tmJ o G f_template mr_p ∧ rsJ o G f_result lr_ mr_r sz_r F_r ∧ rsJ o G f_spare ls_ mr_s sz_s F_s ∧ (lr_ = 77 + 2 * jr_ ∧ ls_ + 2 * jr_ = 79 ∧ jr_ ≤ 1) ∧ (mr_t ≤ 2000 ∧ mr_a ≤ 4002 ∧ mr_b ≤ 4004 ∧ mr_p ≤ 2000 ∧ mr_r ≤ 6000 ∧ mr_s ≤ 6000 ∧ 0 ≤ sz_t ∧ sz_t ≤ 2000) ∧ (pgN PG NR) ∧ (0 ≤ cmp ∧ cmp + ↑lf ≤ 600) ∧ ((↑(ab_slots G) : Int) + 4238526 + 2200 * ↑lf + 100 * sz_t ≤ ↑room_1.slots + ↑(zT nm 52026 + stT ns + 2 * nt + onSQ on + 2 * nb + sumN prS NR + zT mr_t 2000 + zT mr_a 4002 + zT mr_b 4004 + zT mr_p 2000 + zT mr_r 6000 + zT mr_s 6000 + 4 * zT m 2000 + 3 * m)) ∧ (64 * (↑G.length : Int) + 11489248 + 9000 * ↑lf + 400 * sz_t ≤ 64 * (↑ab_n0 + ↑room_1.cells) + ↑(64 * nm + 64 * stC ns + nt + onPQ on + nb + 2 * sumN prC NR + 64 * mr_t + 64 * mr_a + 64 * mr_b + 64 * mr_p + 64 * mr_r + 64 * mr_s + 256 * m)) ∧ (0 ≤ sb ∧ sb + 25000 * ↑lf ≤ 13000000)
theorem sumN_le {f : Nat → Nat} {NR : Nat → Nat} {B k : Nat} (h : ∀ j, j < 6 → f (NR j) ≤ B) (hk : k < 6) : sumN f NR ≤ 5 * B + f (NR k) := by
  have h0 := h 0 (by omega)
  have h1 := h 1 (by omega)
  have h2 := h 2 (by omega)
  have h3 := h 3 (by omega)
  have h4 := h 4 (by omega)
  have h5 := h 5 (by omega)
  unfold sumN
  rcases (show k = 0 ∨ k = 1 ∨ k = 2 ∨ k = 3 ∨ k = 4 ∨ k = 5 by omega) with e | e | e | e | e | e <;> (subst e; omega)
theorem pgI.nr {o : Nat → Nat} {G : ab_G} {PG : Nat → Option Nat} {NR : Nat → Nat} {cv : Int → Int} {cmp : Int} {on : Nat} (h : pgI o G 0 PG NR cv cmp on) (hn : pgN PG NR) (j : Nat) (hj : j < 6) : NR j ≤ 100000 := by
  cases hq : PG j with
  | none => rw [hn j hj hq]; omega
  | some q =>
    obtain ⟨mi, sz, hb⟩ := h j q hj hq
    obtain ⟨ki, ne, ot, cnt, fi, la, ra, ru, gr, wi, fl, ve, na, nl, K, N, O, RR, NA, NL, c_q, c_ki, c_ne, c_ot, c_ra, c_na, c_nl, k_cq, k_hpu, k_hp, k_hr, k_hch, k_cru, k_ck9, k_cfi, k_cgr, k_cfl, k_hpo, k_hmi, k_hvc, k_cve, k_jnl, k_hiv, k_hmn, k_jna, k_hla, k_hpv, k_cv1, k_hkk, k_hoc, k_csz⟩ := hb
    omega
theorem prS_le {nr : Nat} (h : nr ≤ 100000) : prS nr ≤ 202602 := by unfold prS; split <;> omega
theorem prC_le {nr : Nat} (h : nr ≤ 100000) : prC nr ≤ 100224 := by unfold prC; split <;> omega
theorem suI.b {o : Nat → Nat} {G : ab_G} {s m : Nat} {n : Int} {f : Int → Int} (h : suI o G s n m f) : m ≤ 2000 ∧ 32 ≤ m ∧ 0 ≤ n ∧ n ≤ 2000 := by
  obtain ⟨by_, co, re, ho, C, Rs, H, mc, c_s, c_by_, c_co, c_re, c_ho, k_csu, k_hsu⟩ := h
  omega
theorem kq6_ex (sl : Int) : ∃ k : Nat, kq6 sl k := by
  by_cases h : 0 ≤ sl ∧ sl < 6
  · exact ⟨sl.toNat, by omega, fun _ _ => rfl⟩
  · exact ⟨0, by omega, fun a b => absurd ⟨a, b⟩ h⟩
theorem bytes_le {F : Int → Int} {n m : Int} (h : bytes F n) (hm : m ≤ n) : bytes F m := fun k h0 h1 => h k h0 (Int.lt_of_lt_of_le h1 hm)
theorem pgI.frH {o o2 : Nat → Nat} {S : List Nat} {G G2 : ab_G} {PG : Nat → Option Nat} {NR : Nat → Nat} {cv : Int → Int} {cmp : Int} {on : Nat} (hf : fx o o2 S G G2) (h : pgI o G 0 PG NR cv cmp on) (hi : ∀ x ∈ S, 190 ≤ x) : pgI o2 G2 0 PG NR cv cmp on := fun k q a c => by
  obtain ⟨mi, sz, hb⟩ := h k q a c
  exact ⟨mi, sz, hb.fr hf (fun z => by have := hi _ z; omega) (fun z => by have := hi _ z; omega) (fun z => by have := hi _ z; omega) (fun z => by have := hi _ z; omega) (fun z => by have := hi _ z; omega) (fun z => by have := hi _ z; omega) (fun z => by have := hi _ z; omega)⟩
set_option maxRecDepth 100000 in
theorem pwW.recv {o : Nat → Nat} {G : ab_G} {w_ lf : Nat} {RD_ : Int → Int} {F_t : Int → Int} {sz_t : Int} {PG : Nat → Option Nat} {cv : Int → Int} {fa : Int} {fp : Int} {n : Int} {f : Int → Int} {sz_a : Int} {F_a : Int → Int} {sz_b : Int} {F_b : Int → Int} {sz_r : Int} {F_r : Int → Int} {LA : Int → Int} (h : pwW o G w_ lf RD_ F_t sz_t PG cv fa fp n f sz_a F_a sz_b F_b sz_r F_r LA) : ∃ fs, G[w_]? = some (.inr (0, fs)) := by
  obtain ⟨f_ready, f_tape, f_reader, f_programs, f_subject, f_spans, f_threads, f_marks, f_oneMind, f_states, f_latest, f_matches, f_pieces, f_template, f_result, f_spare, cmp, sb, NR, on, nm, ns, nt, m, mr_t, mr_a, mr_b, mr_p, mr_r, mr_s, lr_, ls_, jr_, nb, sz_s, F_s, hw_, hf_programs, h17, h15, h16, pthI_f_threads, pmkI_f_marks, pomI_f_oneMind, pstI_f_states, psuI_f_subject, ppgI_0, prdI_f_reader, ptbI_0, pryJ_f_ready, ptpJ_f_tape, pspJ_f_spans, plaJ_f_latest, pmaJ_f_matches, ppcJ_f_pieces, ptmJ_f_template, prsJ_f_result, prsJ_f_spare, cjr, hmr, hpn, ccm, hS, hC, csb⟩ := h
  exact ⟨_, hw_.2.2⟩
theorem pw_llr_0 {lr_ ls_ jr_ : Nat} (h : lr_ = 77 + 2 * jr_ ∧ ls_ + 2 * jr_ = 79 ∧ jr_ ≤ 1) : lr_ < 190 := by omega
theorem pw_llr_1 {lr_ ls_ jr_ : Nat} (h : lr_ = 77 + 2 * jr_ ∧ ls_ + 2 * jr_ = 79 ∧ jr_ ≤ 1) : (lr_ + 1) < 190 := by omega
theorem pw_lls_0 {lr_ ls_ jr_ : Nat} (h : lr_ = 77 + 2 * jr_ ∧ ls_ + 2 * jr_ = 79 ∧ jr_ ≤ 1) : ls_ < 190 := by omega
theorem pw_lls_1 {lr_ ls_ jr_ : Nat} (h : lr_ = 77 + 2 * jr_ ∧ ls_ + 2 * jr_ = 79 ∧ jr_ ≤ 1) : (ls_ + 1) < 190 := by omega
set_option maxRecDepth 100000 in
theorem pwW.fr {o o2 : Nat → Nat} {S : List Nat} {G G2 : ab_G} {w_ lf : Nat} {RD_ : Int → Int} {F_t : Int → Int} {sz_t : Int} {PG : Nat → Option Nat} {cv : Int → Int} {fa : Int} {fp : Int} {n : Int} {f : Int → Int} {sz_a : Int} {F_a : Int → Int} {sz_b : Int} {F_b : Int → Int} {sz_r : Int} {F_r : Int → Int} {LA : Int → Int} (h : pwW o G w_ lf RD_ F_t sz_t PG cv fa fp n f sz_a F_a sz_b F_b sz_r F_r LA) (hf : fx o o2 S G G2) (hlen : G2.length = G.length) (hsl : ab_slots G2 = ab_slots G) (hi : ∀ l ∈ S, 190 ≤ l) : pwW o2 G2 w_ lf RD_ F_t sz_t PG cv fa fp n f sz_a F_a sz_b F_b sz_r F_r LA := by
  have nl : ∀ l : Nat, l < 190 → ¬ l ∈ S := fun l hl hm => by have := hi l hm; omega
  obtain ⟨f_ready, f_tape, f_reader, f_programs, f_subject, f_spans, f_threads, f_marks, f_oneMind, f_states, f_latest, f_matches, f_pieces, f_template, f_result, f_spare, cmp, sb, NR, on, nm, ns, nt, m, mr_t, mr_a, mr_b, mr_p, mr_r, mr_s, lr_, ls_, jr_, nb, sz_s, F_s, hw_, hf_programs, h17, h15, h16, pthI_f_threads, pmkI_f_marks, pomI_f_oneMind, pstI_f_states, psuI_f_subject, ppgI_0, prdI_f_reader, ptbI_0, pryJ_f_ready, ptpJ_f_tape, pspJ_f_spans, plaJ_f_latest, pmaJ_f_matches, ppcJ_f_pieces, ptmJ_f_template, prsJ_f_result, prsJ_f_spare, cjr, hmr, hpn, ccm, hS, hC, csb⟩ := h
  exact ⟨f_ready, f_tape, f_reader, f_programs, f_subject, f_spans, f_threads, f_marks, f_oneMind, f_states, f_latest, f_matches, f_pieces, f_template, f_result, f_spare, cmp, sb, NR, on, nm, ns, nt, m, mr_t, mr_a, mr_b, mr_p, mr_r, mr_s, lr_, ls_, jr_, nb, sz_s, F_s, hf.get hw_ (nl _ (by decide)), hf.get hf_programs (nl _ (by decide)), hf.get h17 (nl _ (by decide)), hf.get h15 (nl _ (by decide)), hf.get h16 (nl _ (by decide)), thI.fr hf pthI_f_threads (nl _ (by decide)) (nl _ (by decide)) (nl _ (by decide)) (nl _ (by decide)) (nl _ (by decide)) (nl _ (by decide)) (nl _ (by decide)) (nl _ (by decide)), mkI.fr hf pmkI_f_marks (nl _ (by decide)) (nl _ (by decide)) (nl _ (by decide)) (nl _ (by decide)), omI.fr hf pomI_f_oneMind (nl _ (by decide)) (nl _ (by decide)) (nl _ (by decide)) (nl _ (by decide)) (nl _ (by decide)) (nl _ (by decide)) (nl _ (by decide)) (nl _ (by decide)), stI.fr hf pstI_f_states (nl _ (by decide)) (nl _ (by decide)) (nl _ (by decide)) (nl _ (by decide)) (nl _ (by decide)) (nl _ (by decide)) (nl _ (by decide)) (nl _ (by decide)) (nl _ (by decide)), suI.fr hf psuI_f_subject (nl _ (by decide)) (nl _ (by decide)) (nl _ (by decide)) (nl _ (by decide)) (nl _ (by decide)), pgI.frH hf ppgI_0 hi, rdI.fr hf prdI_f_reader (nl _ (by decide)) (nl _ (by decide)) (nl _ (by decide)) (nl _ (by decide)) (nl _ (by decide)) (nl _ (by decide)), tbI.fr hf ptbI_0 (fun l hl => Nat.le_trans (by decide) (hi l hl)), ryJ.fr hf pryJ_f_ready (nl _ (by decide)), tpJ.fr hf ptpJ_f_tape (nl _ (by decide)) (nl _ (by decide)), spJ.fr hf pspJ_f_spans (nl _ (by decide)), laJ.fr hf plaJ_f_latest (nl _ (by decide)), maJ.fr hf pmaJ_f_matches (nl _ (by decide)) (nl _ (by decide)), pcJ.fr hf ppcJ_f_pieces (nl _ (by decide)) (nl _ (by decide)), tmJ.fr hf ptmJ_f_template (nl _ (by decide)) (nl _ (by decide)), rsJ.fr hf prsJ_f_result (nl _ (pw_llr_0 cjr)) (nl _ (pw_llr_1 cjr)), rsJ.fr hf prsJ_f_spare (nl _ (pw_lls_0 cjr)) (nl _ (pw_lls_1 cjr)), cjr, hmr, hpn, ccm, (by rw [hsl]; exact hS), (by rw [hlen]; exact hC), csb⟩
theorem pw_le4 {sb : Int} {lf : Nat} (h : 0 ≤ sb ∧ sb + 25000 * ↑(lf + 1) ≤ 13000000) : 0 ≤ sb ∧ sb + 25000 * ↑lf ≤ 13000000 := by omega
theorem pw_le3 {cmp : Int} {lf : Nat} (h : 0 ≤ cmp ∧ cmp + ↑(lf + 1) ≤ 600) : 0 ≤ cmp ∧ cmp + ↑lf ≤ 600 := by omega
theorem pw_le1 {G : ab_G} {lf : Nat} {sz_t p : Int} (h : (↑(ab_slots G) : Int) + 4238526 + 2200 * ↑(lf + 1) + 100 * sz_t ≤ ↑room_1.slots + p) : (↑(ab_slots G) : Int) + 4238526 + 2200 * ↑lf + 100 * sz_t ≤ ↑room_1.slots + p := by omega
theorem pw_le2 {G : ab_G} {lf : Nat} {sz_t p : Int} (h : 64 * (↑G.length : Int) + 11489248 + 9000 * ↑(lf + 1) + 400 * sz_t ≤ 64 * (↑ab_n0 + ↑room_1.cells) + p) : 64 * (↑G.length : Int) + 11489248 + 9000 * ↑lf + 400 * sz_t ≤ 64 * (↑ab_n0 + ↑room_1.cells) + p := by omega
set_option maxRecDepth 100000 in
theorem pwW.le {o : Nat → Nat} {G : ab_G} {w_ lf : Nat} {RD_ : Int → Int} {F_t : Int → Int} {sz_t : Int} {PG : Nat → Option Nat} {cv : Int → Int} {fa : Int} {fp : Int} {n : Int} {f : Int → Int} {sz_a : Int} {F_a : Int → Int} {sz_b : Int} {F_b : Int → Int} {sz_r : Int} {F_r : Int → Int} {LA : Int → Int} (h : pwW o G w_ (lf + 1) RD_ F_t sz_t PG cv fa fp n f sz_a F_a sz_b F_b sz_r F_r LA) : pwW o G w_ lf RD_ F_t sz_t PG cv fa fp n f sz_a F_a sz_b F_b sz_r F_r LA := by
  obtain ⟨f_ready, f_tape, f_reader, f_programs, f_subject, f_spans, f_threads, f_marks, f_oneMind, f_states, f_latest, f_matches, f_pieces, f_template, f_result, f_spare, cmp, sb, NR, on, nm, ns, nt, m, mr_t, mr_a, mr_b, mr_p, mr_r, mr_s, lr_, ls_, jr_, nb, sz_s, F_s, hw_, hf_programs, h17, h15, h16, pthI_f_threads, pmkI_f_marks, pomI_f_oneMind, pstI_f_states, psuI_f_subject, ppgI_0, prdI_f_reader, ptbI_0, pryJ_f_ready, ptpJ_f_tape, pspJ_f_spans, plaJ_f_latest, pmaJ_f_matches, ppcJ_f_pieces, ptmJ_f_template, prsJ_f_result, prsJ_f_spare, cjr, hmr, hpn, ccm, hS, hC, csb⟩ := h
  exact ⟨f_ready, f_tape, f_reader, f_programs, f_subject, f_spans, f_threads, f_marks, f_oneMind, f_states, f_latest, f_matches, f_pieces, f_template, f_result, f_spare, cmp, sb, NR, on, nm, ns, nt, m, mr_t, mr_a, mr_b, mr_p, mr_r, mr_s, lr_, ls_, jr_, nb, sz_s, F_s, hw_, hf_programs, h17, h15, h16, pthI_f_threads, pmkI_f_marks, pomI_f_oneMind, pstI_f_states, psuI_f_subject, ppgI_0, prdI_f_reader, ptbI_0, pryJ_f_ready, ptpJ_f_tape, pspJ_f_spans, plaJ_f_latest, pmaJ_f_matches, ppcJ_f_pieces, ptmJ_f_template, prsJ_f_result, prsJ_f_spare, cjr, hmr, hpn, (pw_le3 ccm), (pw_le1 hS), (pw_le2 hC), (pw_le4 csb)⟩
