/-! telling, place by place, as it is done -/
section Ti
variable {K N O RR KT NT OT RT CU f C Rs H PO BG BD PO2 BG2 BD2 : Int → Int} {cnt ru wi cn n hw fi la ro fr p x v ct ct2 sg y : Int}
/-- states stay within the program -/
theorem sSt_in {HS : Int → Prop} {z : Int} (hT : trQ K N O RR cnt ru KT NT OT RT) (hp : prok K N O RR cnt ru wi) (h0 : 0 ≤ x ∧ x < cnt) (h : sSt (tgC KT) NT OT HS x z) : 0 ≤ z ∧ z < cnt := by
  have a := (hp x h0.1 h0.2).2.1
  have en := hT.n (x := x) h0
  have eo := hT.o (x := x) h0
  have et := hT.t (x := x) h0
  rcases h with ⟨_, _, e⟩ | ⟨t, e | e⟩ | ⟨_, e⟩
  · rw [e, en]; exact a
  · rw [e, en]; exact a
  · rw [e, eo]
    rw [et] at t
    exact (hp x h0.1 h0.2).2.2.1 ((tgC_k t).2.2.2.1 rfl)
  · rw [e, en]; exact a
theorem sR_in {HS : Int → Prop} {z : Int} (hT : trQ K N O RR cnt ru KT NT OT RT) (hp : prok K N O RR cnt ru wi) (h0 : 0 ≤ x ∧ x < cnt) (h : sR (tgC KT) NT OT HS x z) : 0 ≤ z ∧ z < cnt := by
  obtain ⟨k, h⟩ := h
  exact sR_c (V := fun w => 0 ≤ w ∧ w < cnt) (fun u w hu hw => sSt_in hT hp hu hw) k x z h0 h
/-- what is known at a place: the set of x decides; what stands ahead; those that wait are within a character -/
def tlJ (KT NT OT RT f : Int → Int) (n hw fi la ro fr : Int) (Rs PO BG BD : Int → Int) (p x : Int) : Prop := tlI (tgC KT) NT OT (phas KT OT RT) f n hw fi fr (laR hw n fr) ro p (Rs p) (kpS PO BG x) ∧ (la = 1 → ahR f n p (BD x)) ∧ ∀ y : Int, kpS PO BG x y → 1024 ≤ y → tgC KT (y - 1024) = 0 ∧ 1 ≤ p ∧ 2 ≤ Rs (p - 1)
def tlX (KT NT OT RT f : Int → Int) (n hw fi fr v : Int) : Prop := (v = 1 ∧ ∃ e : Int, acc hw n e ∧ tlM (tgC KT) NT OT (phas KT OT RT) f n fi fr (laR hw n fr) e) ∨ (v = 0 ∧ ∀ e : Int, acc hw n e → ¬ tlM (tgC KT) NT OT (phas KT OT RT) f n fi fr (laR hw n fr) e)
def tlW (KT NT OT RT f : Int → Int) (n hw fi la ro fr : Int) (Rs PO BG BD : Int → Int) (p x : Int) : Prop := (p ≤ n ∧ tlJ KT NT OT RT f n hw fi la ro fr Rs PO BG BD p x) ∨ (n < p ∧ tlX KT NT OT RT f n hw fi fr 0)
/-- all that is fixed in a run -/
def tlF (K N O RR KT NT OT RT CU f C Rs H : Int → Int) (cnt ru wi cn n fi la : Int) : Prop := trQ K N O RR cnt ru KT NT OT RT ∧ prok K N O RR cnt ru wi ∧ suok f C Rs H n ∧ cuS CU cn ∧ cuF CU cn ∧ cuP KT OT RT cnt CU cn ∧ (la = 0 → ∀ z : Int, ¬ KT z = 3) ∧ (0 ≤ fi ∧ fi < cnt ∧ cnt ≤ 808 ∧ 0 ≤ la ∧ la ≤ 1)
theorem tlF.d (h : tlF K N O RR KT NT OT RT CU f C Rs H cnt ru wi cn n fi la) (hs : sgR CU cn C Rs n p sg (cdG CU sg)) (hp : 0 ≤ p ∧ p ≤ n) (ha : la = 1 → ahR f n p y) : dpl (tgC KT) OT (phas KT OT RT) (HSc (cdG CU sg) sg y) f n p (Rs p) (Rs (p + 1)) sg (cdG CU sg) := by
  obtain ⟨hT, hk, su, s1, s2, s3, s4, s5⟩ := h
  refine sg_dpl su s1 s2 s3 (fun z q => hT.z q) (fun z q => ?_) s4 hs hp.1 hp.2 ha (by omega)
  by_cases c : 0 ≤ z ∧ z < cnt
  · rw [hT.k c] at q
    rw [hT.o c]
    exact hk.o3 z c.1 c.2 q
  · rw [hT.z c] at q
    omega
theorem tlF.ok (h : tlF K N O RR KT NT OT RT CU f C Rs H cnt ru wi cn n fi la) (he : ∀ y : Int, kpS PO BG x y → 0 ≤ y ∧ y < 2048 ∧ y % 1024 < cnt) (hw2 : ∀ y : Int, kpS PO BG x y → 1024 ≤ y → tgC KT (y - 1024) = 0) : dok (tgC KT) NT (kpS PO BG x) fi := by
  obtain ⟨hT, hk, su, s1, s2, s3, s4, s5⟩ := h
  refine ⟨fun z z0 zt => ?_, fun y hy => ?_, by omega⟩
  · by_cases c : 0 ≤ z ∧ z < cnt
    · have a := (hk z c.1 c.2).2.1
      rw [hT.n c]
      omega
    · have e := hT.z c
      have e6 : tgC KT z = 6 := tgq_6 e
      omega
  · have b := he y hy
    exact ⟨b.1, b.2.1, hw2 y hy⟩
theorem tlF.in {HS : Int → Prop} (h : tlF K N O RR KT NT OT RT CU f C Rs H cnt ru wi cn n fi la) (he : ∀ y : Int, kpS PO BG x y → 0 ≤ y ∧ y < 2048 ∧ y % 1024 < cnt) : ∀ z : Int, dvS (tgC KT) NT OT HS (kpS PO BG x) ro fi z → 0 ≤ z ∧ z < 1024 := fun z ⟨y, hy, q⟩ => by
  obtain ⟨hT, hk, su, s1, s2, s3, s4, s5⟩ := h
  have y0 : 0 ≤ y ∧ y < cnt := by
    rcases hy with ⟨a, b⟩ | ⟨a, b⟩
    · have := he y a; omega
    · omega
  have := sR_in hT hk y0 q
  omega
theorem tlJ.w (h : tlF K N O RR KT NT OT RT CU f C Rs H cnt ru wi cn n fi la) (j : tlJ KT NT OT RT f n hw fi la ro fr Rs PO BG BD p x) (hs : sgR CU cn C Rs n p sg (cdG CU sg)) (hp : 0 ≤ p ∧ p ≤ n) : ∀ y : Int, kpS PO BG x y → 1024 ≤ y → 1 ≤ sg ∧ sg ≤ 3 := fun y hy h4 => by
  obtain ⟨a, b, c⟩ := j.2.2 y hy h4
  have hs2 : sgR CU cn C Rs n (p - 1 + 1) sg (cdG CU sg) := by rw [show p - 1 + 1 = p by omega]; exact hs
  exact sg_nx h.2.2.1 (by omega) (by omega) c hs2
/-- an arrival that counts -/
theorem tlJ_y (h : tlF K N O RR KT NT OT RT CU f C Rs H cnt ru wi cn n fi la) (j : tlJ KT NT OT RT f n hw fi la ro fr Rs PO BG BD p x) (hs : sgR CU cn C Rs n p sg (cdG CU sg)) (hp : 0 ≤ p ∧ p ≤ n) (e : edV KT NT OT RT fi la ro CU (kpS PO BG x) (BD x) sg v PO2 BG2 BD2 ct2) (hv : v % 2 = 1) (ha : ¬ hw = 2 ∨ sg = 0) : tlX KT NT OT RT f n hw fi fr 1 := by
  refine Or.inl ⟨rfl, tl_y j.1 (h.d hs hp j.2.1) hp.2 ?_ (e.2.1.mp hv)⟩
  intro q
  rcases ha with z | z
  · exact z q.1
  · rcases hs with ⟨w, _⟩ | ⟨w, _, w2, w3, _⟩ | ⟨w, _, _, w3, _⟩ | ⟨w, _, i, w2, w3, _⟩
    · omega
    · omega
    · omega
    · have := w2.1; omega
/-- no arrival that counts: a place further -/
theorem tlJ_s (h : tlF K N O RR KT NT OT RT CU f C Rs H cnt ru wi cn n fi la) (j : tlJ KT NT OT RT f n hw fi la ro fr Rs PO BG BD p x) (hs : sgR CU cn C Rs n p sg (cdG CU sg)) (hp : 0 ≤ p ∧ p ≤ n) (he : ∀ y : Int, kpS PO BG x y → 0 ≤ y ∧ y < 2048 ∧ y % 1024 < cnt) (e : edV KT NT OT RT fi la ro CU (kpS PO BG x) (BD x) sg v PO2 BG2 BD2 ct2) (ha : ¬ (v % 2 = 1 ∧ (¬ hw = 2 ∨ sg = 0))) : tlW KT NT OT RT f n hw fi la ro fr Rs PO2 BG2 BD2 (p + 1) (v / 2 - 1) := by
  have hd := h.d hs hp j.2.1
  have s0 : sg = 0 ↔ p = n := by
    rcases hs with ⟨w, w2, _⟩ | ⟨w, _, w2, w3, _⟩ | ⟨w, _, _, w3, _⟩ | ⟨w, _, i, w2, w3, _⟩
    · omega
    · omega
    · omega
    · have := w2.1; omega
  have hw2 := tlJ.w h j hs hp
  by_cases c : p = n
  · refine Or.inr ⟨by omega, Or.inr ⟨rfl, ?_⟩⟩
    have sg0 := s0.mpr c
    refine tl_n j.1 hd hw2 sg0 c (fun q => ha ⟨e.2.1.mpr q, Or.inr sg0⟩)
  · have pn : p < n := by omega
    have sgn : ¬ sg = 0 := fun q => c (s0.mp q)
    have hok := h.ok he (fun y a b => (j.2.2 y a b).1)
    have hin := h.in (ro := ro) (HS := HSc (cdG CU sg) sg (BD x)) he
    have step := tlI_s j.1 hd hok hin hw2 pn (fun q => ha ⟨e.2.1.mpr q.1, by
      have q2 := q.2
      unfold acc at q2
      omega⟩)
    obtain ⟨k1, k2⟩ := e.2.2 sgn
    refine Or.inl ⟨by omega, ?_⟩
    refine ⟨tlI_cg step (fun y => (k1 y).symm), fun l1 => ?_, fun y hy h4 => ?_⟩
    · obtain ⟨hT, hk, su, s1, s2, s3, s4, s5⟩ := h
      rcases k2 with ⟨k2, _⟩ | ⟨_, k2⟩
      · omega
      · exact ah_nx su s1 s2 hs hp.1 pn k2
    · have d := (k1 y).mp hy
      have w := dnx_w hd hok hin hw2 y d h4
      rw [show p + 1 - 1 = p by omega]
      refine ⟨?_, by omega, w⟩
      rcases d with ⟨z, z1, ⟨t, _, ez⟩ | ⟨t, _, _, ⟨_, ez⟩ | ⟨_, ez⟩⟩⟩ | ⟨z, z1, z2, ⟨_, ez⟩ | ⟨_, ez⟩⟩
      · have := (hok.1 z (hin z z1) (Or.inr t)).2; omega
      · have := (hok.1 z (hin z z1) (Or.inl t)).2; omega
      · rw [ez, show z + 1024 - 1024 = z by omega]; exact t
      · have zz := j.2.2 z z1 z2
        have b := he z z1
        have := (hok.1 (z - 1024) (by omega) (Or.inl zz.1)).2
        omega
      · rw [ez]; exact (j.2.2 z z1 z2).1
/-- an empty set, and no new begins -/
theorem tlW_e (j : tlW KT NT OT RT f n hw fi la ro fr Rs PO BG BD p x) (hr : ¬ ro = 1) (hx : BG x = BG (x + 1)) : tlX KT NT OT RT f n hw fi fr 0 := by
  rcases j with ⟨_, j⟩ | ⟨_, j⟩
  · refine Or.inr ⟨rfl, tl_e j.1 hr (fun y ⟨i, a, b, _⟩ => ?_)⟩
    omega
  · exact j
theorem tlW.j (j : tlW KT NT OT RT f n hw fi la ro fr Rs PO BG BD p x) (h : p ≤ n) : tlJ KT NT OT RT f n hw fi la ro fr Rs PO BG BD p x := by
  rcases j with ⟨_, j⟩ | ⟨q, _⟩
  · exact j
  · omega
theorem tlW.xx (j : tlW KT NT OT RT f n hw fi la ro fr Rs PO BG BD p x) (h : n < p) : tlX KT NT OT RT f n hw fi fr 0 := by
  rcases j with ⟨q, _⟩ | ⟨_, j⟩
  · omega
  · exact j
/-- the first state -/
def fsR (f : Int → Int) (n p fi la ro : Int) (PO BG BD : Int → Int) (x : Int) : Prop := (∀ y : Int, kpS PO BG x y ↔ (ro = 0 ∧ y = fi)) ∧ (la = 1 → ahR f n p (BD x))
def roH (ro hw : Int) : Prop := (ro = 1 ∧ hw = 0) ∨ (ro = 0 ∧ ¬ hw = 0)
theorem tlW_0 (h : fsR f n p fi la ro PO BG BD x) (hr : roH ro hw) (hf : 0 ≤ fi ∧ fi < 1024) (hp : 0 ≤ p ∧ p ≤ n) : tlW KT NT OT RT f n hw fi la ro p Rs PO BG BD p x := by
  refine Or.inl ⟨hp.2, ?_, h.2, fun y hy h4 => ?_⟩
  · rcases hr with ⟨r, w⟩ | ⟨r, w⟩
    · exact tlI_1 r (laR_0 w).symm (fun y hy => by have := (h.1 y).mp hy; omega)
    · exact tlI_0 (by omega) (laR_1 w).symm (fun y => by rw [h.1 y]; exact ⟨fun q => q.2, fun q => ⟨r, q⟩⟩) hf.2
  · have := (h.1 y).mp hy; omega
theorem ents_kp (h : ents PO (BG ct) cnt) (hb : bgo BG ct) (hx : 0 ≤ x ∧ x < ct) : ∀ y : Int, kpS PO BG x y → 0 ≤ y ∧ y < 2048 ∧ y % 1024 < cnt := fun y ⟨i, a, b, c⟩ => by
  have t := hb.st x hx.1 hx.2
  have q := h i (by omega) (by omega)
  rw [← c]
  exact q
end Ti
/-! what is told, of the ways -/
def tlC (v : Sn) (f : Int → Int) (n hw fr r : Int) : Prop := (r = 1 ∧ exM v f n hw fr) ∨ (r = 0 ∧ ¬ exM v f n hw fr) ∨ r = -2
theorem tlM_ex {K N O RR KT NT OT RT f : Int → Int} {cnt ru wi n hw fi fr : Int} {v : Sn} (hT : trQ K N O RR cnt ru KT NT OT RT) (hp : prok K N O RR cnt ru wi) (hm : prM K N O RR fi v) (hb : bytes f n) (hf : 0 ≤ fi ∧ fi < cnt) (h0 : 0 ≤ fr ∧ fr ≤ n) : (∃ e : Int, acc hw n e ∧ tlM (tgC KT) NT OT (phas KT OT RT) f n fi fr (laR hw n fr) e) ↔ exM v f n hw fr := by
  have key : ∀ p e : Int, 0 ≤ p → p ≤ n → (RN (tgC KT) NT OT (phas KT OT RT) f n fi p e ↔ ∃ x ∈ wyR v f n p, x.1 = e) := fun p e p0 p1 => by
    obtain ⟨e1, e2, e3, e4⟩ := hT
    have w := hm.ww (g := fun _ => -1) hb p0 p1
    rw [e1, e2, e3, e4, RN_tr hp hf.1 hf.2, ← EN_rn w, EN_of w, wyR_p p0 p1, List.mem_map]
  have l := laR_le (hw := hw) h0.2
  constructor
  · rintro ⟨e, a, p, p1, p2, q⟩
    obtain ⟨x, x1, x2⟩ := (key p e (by omega) (by omega)).mp q
    exact ⟨p, ⟨p1, p2⟩, x, x1, by rw [x2]; exact a⟩
  · rintro ⟨p, ⟨p1, p2⟩, x, x1, x2⟩
    exact ⟨x.1, x2, p, p1, p2, (key p x.1 (by omega) (by omega)).mpr ⟨x, x1, rfl⟩⟩
theorem tlX_c {K N O RR KT NT OT RT f : Int → Int} {cnt ru wi n hw fi fr r : Int} {v : Sn} (h : tlX KT NT OT RT f n hw fi fr r) (hT : trQ K N O RR cnt ru KT NT OT RT) (hp : prok K N O RR cnt ru wi) (hm : prM K N O RR fi v) (hb : bytes f n) (hf : 0 ≤ fi ∧ fi < cnt) (h0 : 0 ≤ fr ∧ fr ≤ n) : tlC v f n hw fr r := by
  have k := tlM_ex (hw := hw) hT hp hm hb hf h0
  rcases h with ⟨a, b⟩ | ⟨a, b⟩
  · exact Or.inl ⟨a, k.mp b⟩
  · exact Or.inr (Or.inl ⟨a, fun q => by
      obtain ⟨e, e1, e2⟩ := k.mpr q
      exact b e e1 e2⟩)
/-- what find finds tells it too -/
theorem fdC_ex {v : Sn} {f SP : Int → Int} {n fy hw fr wi fo : Int} (h : fdC v f n fy hw fr wi fo SP) : fo = 1 ↔ exM v f n hw fr := by
  obtain ⟨S, st, h1, h2⟩ := h
  constructor
  · intro q
    obtain ⟨y, hy, _⟩ := mch_s h2 q
    rcases h1 with ⟨a, _⟩ | ⟨a, b, c, _⟩
    · rw [a] at hy; cases hy
    · refine ⟨st, b, ?_⟩
      by_cases z : ∃ x ∈ wyR v f n st, acc hw n x.1
      · exact z
      · have e : mtR fy hw n (wyR v f n st) = none := mtR_none.mpr (fun x hx q => z ⟨x, hx, q⟩)
        exact absurd (c.symm.trans e) a
  · rintro ⟨p, ⟨p1, p2⟩, x, x1, x2⟩
    rcases mch_fo h2 with q | q
    · have e := mch_n h2 q
      rcases h1 with ⟨_, a⟩ | ⟨a, _⟩
      · exact absurd x2 (mtR_none.mp (a p p1 p2) x x1)
      · exact absurd e a
    · exact q
/-! cuts of a program that is cut to what counts -/
theorem cuP_t {K N O RR KT NT OT RT CU : Int → Int} {cnt ru wi cn : Int} (hT : trQ K N O RR cnt ru KT NT OT RT) (hp : prok K N O RR cnt ru wi) (h : cuP K O RR cnt CU cn) : cuP KT OT RT cnt CU cn := by
  refine ⟨fun x x0 x1 k => ?_, fun x x0 x1 k => ?_⟩
  · rw [hT.k ⟨x0, x1⟩] at k
    rw [hT.o ⟨x0, x1⟩]
    exact h.1 x x0 x1 k
  · rw [hT.k ⟨x0, x1⟩] at k
    rw [hT.o ⟨x0, x1⟩]
    obtain ⟨r0, r1, r2, _⟩ := hp.o1 x x0 x1 k
    have q := h.2 x x0 x1 k
    have e4 := hT.2.2.2
    intro j j0 j1
    rw [e4] at j1 ⊢
    rw [trc_in r0 (by omega)] at j1
    rw [trc_in (by omega) (by omega), trc_in (by omega) (by omega)]
    exact q j j0 j1
/-- what States keeps of a program is right -/
def stQR (KT NT OT RT : Int → Int) (fi la ro cnt : Int) (CU : Int → Int) (cn : Int) (PO BG BD EG : Int → Int) (ct : Int) : Prop := cn ≤ 120 → (cuS CU cn ∧ cuF CU cn ∧ cuP KT OT RT cnt CU cn) ∧ edO KT NT OT RT fi la ro CU PO BG BD EG cn ct
theorem stQR_z {KT NT OT RT CU PO BG BD EG PO2 BG2 BD2 EG2 : Int → Int} {fi la ro ro2 cnt cn ct : Int} (h : stQR KT NT OT RT fi la ro cnt CU cn PO BG BD EG ct) : stQR KT NT OT RT fi la ro2 cnt CU cn PO2 BG2 BD2 EG2 0 := fun q => ⟨(h q).1, edO_0⟩
theorem stQR_n {KT NT OT RT CU PO BG BD EG : Int → Int} {fi la ro cnt cn ct : Int} (h : 120 < cn) : stQR KT NT OT RT fi la ro cnt CU cn PO BG BD EG ct := fun q => by omega
theorem laI_k {la cnt ru : Int} {K N O RR KT NT OT RT : Int → Int} (h : laI la K cnt) (hT : trQ K N O RR cnt ru KT NT OT RT) : la = 0 → ∀ z : Int, ¬ KT z = 3 := fun e z => by
  by_cases c : 0 ≤ z ∧ z < cnt
  · rw [hT.k c]; exact h.1 e z c.1 c.2
  · rw [hT.z c]; decide
theorem stQR_f {K N O RR KT NT OT RT CU PO BG BD EG : Int → Int} {fi la ro cnt cn ru wi r : Int} (h : fcC K O RR cnt CU cn r) (e : ru ≤ r) (hp : prok K N O RR cnt ru wi) (hT : trQ K N O RR cnt ru KT NT OT RT) : stQR KT NT OT RT fi la ro cnt CU cn PO BG BD EG 0 := fun q => by
  obtain ⟨a, b, c⟩ := fcC_e h e hp q
  exact ⟨⟨a, b, cuP_t hT hp c⟩, edO_0⟩
