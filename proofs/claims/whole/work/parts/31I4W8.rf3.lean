/-! the reference's walk, by its steps -/
def unI (TS TO SP0 : Int → Int) (tr0 : Int) (SP : Int → Int) (tr to : Int) : Prop := to ≤ tr0 → (to ≤ tr ∧ tr ≤ tr0) ∧ spA TS TO SP tr to = spA TS TO SP0 tr0 to
def unK (TS TO SP : Int → Int) (tr : Int) (SP2 : Int → Int) (t2 to : Int) : Prop := to ≤ tr → t2 = to ∧ SP2 = spA TS TO SP tr to
section Un
variable {TS TO SP SP0 : Int → Int} {tr tr0 to : Int}
theorem unI_0 : unI TS TO SP tr SP tr to := fun h => ⟨⟨h, Int.le_refl _⟩, rfl⟩
theorem unI_s (h : unI TS TO SP0 tr0 SP tr to) (ht : to < tr) : unI TS TO SP0 tr0 (zu SP (TS (tr - 1)) (TO (tr - 1))) (tr - 1) to := fun q => by
  obtain ⟨h1, h2⟩ := h q
  exact ⟨by omega, by rw [← spA_s ht]; exact h2⟩
theorem unK_of (h : unI TS TO SP0 tr0 SP tr to) (ht : tr ≤ to) : unK TS TO SP0 tr0 SP tr to := fun q => by
  obtain ⟨h1, h2⟩ := h q
  have e : tr = to := by omega
  refine ⟨e, ?_⟩
  rw [← h2, e, spA_0]
end Un
def onA (PL PT TS TO SP : Int → Int) (tr : Int) (PL2 PT2 TS2 TO2 SP2 : Int → Int) (t2 : Int) : Prop := PL2 = PL ∧ PT2 = PT ∧ TS2 = TS ∧ TO2 = TO ∧ SP2 = SP ∧ t2 = tr
def onB (PL PT TS TO SP : Int → Int) (tr m nx mr : Int) (PL2 PT2 TS2 TO2 SP2 : Int → Int) (t2 : Int) : Prop := PL2 = zu (zu PL m mr) (m + 1) nx ∧ PT2 = zu (zu PT m tr) (m + 1) tr ∧ TS2 = TS ∧ TO2 = TO ∧ SP2 = SP ∧ t2 = tr
def onC (PL PT TS TO SP : Int → Int) (tr m nx mr p tk : Int) (PL2 PT2 TS2 TO2 SP2 : Int → Int) (t2 : Int) (hl : Prop) : Prop := (tk = 5 ∧ hl ∧ PL2 = zu PL m nx ∧ PT2 = zu PT m tr ∧ TS2 = TS ∧ TO2 = TO ∧ SP2 = SP ∧ t2 = tr) ∨ (tk = 4 ∧ PL2 = zu PL m nx ∧ PT2 = zu PT m (tr + 1) ∧ TS2 = zu TS tr mr ∧ TO2 = zu TO tr (SP mr) ∧ SP2 = zu SP mr p ∧ t2 = tr + 1)
def wlW (T N W CA CM CL CH f NO : Int → Int) (len b n hw fr p : Int) (Z PL PT TS TO SP : Int → Int) (tr m : Int) (S : Option (Int × Gr)) : Prop := wlK (tgR T b) (adR N b) (bdR T W b) (mmR CA CM CL CH b) f len hw fr p (fun z => nbit NO p z) n Z PL PT TS TO SP tr m S
def cuR (T N W CA CM CL CH f NO : Int → Int) (len b n hw fr p : Int) (Z PL PT TS TO SP : Int → Int) (tr m x : Int) (S : Option (Int × Gr)) : Prop := cuK (tgR T b) (adR N b) (bdR T W b) (mmR CA CM CL CH b) f len hw fr p (fun z => nbit NO p z) n Z PL PT TS TO SP tr m x S
def gnR (T N W CA CM CL CH f : Int → Int) (len b hw fr k p : Int) (SP : Int → Int) (S : Option (Int × Gr)) : Prop := ∃ L : List (Int × Gr), WR T N W CA CM CL CH b f len k p (gQ SP) L ∧ fA hw fr L = S ∧ ∀ y ∈ L, y.1 ≤ fr
/-- searching, gone on, ended -/
def wlB (T N W CA CM CL CH f NO : Int → Int) (len b n hw fr p0 : Int) (Z PL PT TS TO SP : Int → Int) (tr m p k go en : Int) (S : Option (Int × Gr)) : Prop := (go = 0 → en = 0 → wlW T N W CA CM CL CH f NO len b n hw fr p0 Z PL PT TS TO SP tr m S) ∧ (go = 1 → gnR T N W CA CM CL CH f len b hw fr k p SP S) ∧ (en = 1 → S = some (p0, gQ SP))
def hwA (al hw : Int) : Prop := (al = 0 ∧ hw = 0) ∨ (al = 1 ∧ hw = 2)
theorem AE_acc {al hw fr e : Int} (h : hwA al hw) (he : e ≤ fr) : AE fr al e ↔ acc hw fr e := by
  unfold AE acc hwA at *
  omega
section Wr
variable {T N W CA CM CL CH f NO : Int → Int} {len b n fr al to hw p : Int} {Z PL PT TS TO SP PL2 PT2 TS2 TO2 SP2 : Int → Int} {tr t2 m x k : Int} {S : Option (Int × Gr)}
theorem alA_of (h : ntK T N W CA CM CL CH f NO len b n fr al to) (hp : to ≤ p ∧ p ≤ fr) (hh : hwA al hw) : alA (tgR T b) (adR N b) (bdR T W b) (mmR CA CM CL CH b) f len hw fr p (fun z => nbit NO p z) n := fun z g L z0 z1 hL hF => by
  show nbit NO p z ↔ _
  rw [h p z g L hp.1 hp.2 z0 z1 hL]
  constructor
  · intro ⟨y, y1, y2⟩
    exact ⟨y, y1, (AE_acc hh (hF y y1)).mp y2⟩
  · intro ⟨y, y1, y2⟩
    exact ⟨y, y1, (AE_acc hh (hF y y1)).mpr y2⟩
theorem wlW.pop (h : wlW T N W CA CM CL CH f NO len b n hw fr p Z PL PT TS TO SP tr m S) (h1 : 1 ≤ m) (hu : unK TS TO SP tr SP2 t2 (PT (m - 1))) (hx : PL (m - 1) = x) : cuR T N W CA CM CL CH f NO len b n hw fr p Z PL PT TS TO SP2 t2 (m - 1) x S := by
  have pt : PT (m - 1) ≤ tr := by
    obtain ⟨R, _, _, hP, _⟩ := h
    exact (hP.2 (m - 1) (by omega) (by omega)).2
  obtain ⟨e1, e2⟩ := hu pt
  rw [e1, e2, ← hx]
  exact wlK.pop h h1
theorem cuR.seen (h : cuR T N W CA CM CL CH f NO len b n hw fr p Z PL PT TS TO SP tr m x S) (hn : ntK T N W CA CM CL CH f NO len b n fr al to) (hp : to ≤ p ∧ p ≤ fr) (hh : hwA al hw) (hz : Z x = 1) : wlW T N W CA CM CL CH f NO len b n hw fr p Z PL PT TS TO SP tr m S := cuK.seen h (alA_of hn hp hh) hz
theorem cuR.fin (h : cuR T N W CA CM CL CH f NO len b n hw fr p Z PL PT TS TO SP tr m x S) (t : T (b + x) = 0) (ha : acc hw fr p) : S = some (p, gQ SP) := cuK.fin h (tgR_0 t) ha
theorem cuR.miss (h : cuR T N W CA CM CL CH f NO len b n hw fr p Z PL PT TS TO SP tr m x S) (hn : ntK T N W CA CM CL CH f NO len b n fr al to) (hp : to ≤ p ∧ p ≤ fr) (hh : hwA al hw) (t : T (b + x) = 0) (ha : ¬ acc hw fr p) : wlW T N W CA CM CL CH f NO len b n hw fr p (zu Z x 1) PL PT TS TO SP tr m S := cuK.dead h (alA_of hn hp hh) (fun g L hL _ y hy => by
  rw [ww_i5 (tgR_0 t) hL] at hy
  rw [List.mem_singleton.mp hy]
  exact ha)
/-- a step that takes, and where it leads -/
theorem cuR.goes {c cw w : Int} (h : cuR T N W CA CM CL CH f NO len b n hw fr p Z PL PT TS TO SP tr m x S) (hn : ntK T N W CA CM CL CH f NO len b n fr al to) (hb : bytes f len) (hs : sgood T N W CA CM b n) (hx : 0 ≤ x ∧ x < n) (hp : to ≤ p ∧ 0 ≤ p) (hh : hwA al hw) (hc : mchr f len p c cw) (hw2 : tkv T CA CM CL CH c cw len (b + x) p w) (h0 : 0 < w) (hf : p + w ≤ fr) (hbt : nbit NO (p + w) (N (b + x))) : gnR T N W CA CM CL CH f len b hw fr (N (b + x)) (p + w) SP S := by
  obtain ⟨s1, s2, _⟩ := hs x hx.1 hx.2
  have go : ∀ (g : Gr) (L : List (Int × Gr)), WR T N W CA CM CL CH b f len x p g L → WR T N W CA CM CL CH b f len (N (b + x)) (p + w) g L := fun g L z => by
    rcases tkv_w hb hp.2 hc hw2 with ⟨_, ⟨z1, z2, z3⟩ | ⟨z1, z2, z3⟩⟩ | ⟨z, _⟩
    · have c1 := ww_i0 (tgR_1 z1) z2 z
      rw [← z3] at c1
      exact c1
    · have c1 := ww_i1 (tgR_2 z1) z2 z
      rw [← z3] at c1
      exact c1
    · omega
  have i : 0 ≤ N (b + x) ∧ N (b + x) < n := by
    rcases tkv_w hb hp.2 hc hw2 with ⟨_, ⟨z1, z2, z3⟩ | ⟨z1, z2, z3⟩⟩ | ⟨z, _⟩
    · exact s2 (by omega) (by omega)
    · exact s2 (by omega) (by omega)
    · omega
  exact cuK.take h go (fun g L hL hF => by
    obtain ⟨y, y1, y2⟩ := (hn (p + w) (N (b + x)) g L (by omega) hf i.1 i.2 hL).mp hbt
    exact ⟨y, y1, (AE_acc hh (hF y y1)).mp y2⟩)
theorem cuR.stays {c cw w : Int} (h : cuR T N W CA CM CL CH f NO len b n hw fr p Z PL PT TS TO SP tr m x S) (hn : ntK T N W CA CM CL CH f NO len b n fr al to) (hb : bytes f len) (hs : sgood T N W CA CM b n) (hx : 0 ≤ x ∧ x < n) (hp : to ≤ p ∧ 0 ≤ p ∧ p ≤ fr ∧ fr ≤ len) (hh : hwA al hw) (ht : 1 ≤ T (b + x) ∧ T (b + x) ≤ 2) (hc : mchr f len p c cw) (hw2 : tkv T CA CM CL CH c cw len (b + x) p w) (h0 : ¬ (0 < w ∧ p + w ≤ fr ∧ nbit NO (p + w) (N (b + x)))) : wlW T N W CA CM CL CH f NO len b n hw fr p (zu Z x 1) PL PT TS TO SP tr m S := by
  obtain ⟨s1, s2, _⟩ := hs x hx.1 hx.2
  have i := s2 (by omega) (by omega)
  refine cuK.dead h (alA_of hn ⟨hp.1, hp.2.2.1⟩ hh) (fun g L hL hF y hy ha => ?_)
  have far : ∀ p2 : Int, p2 = p + w → 0 < w → p2 ≤ len → WR T N W CA CM CL CH b f len (N (b + x)) p2 g L → False := fun p2 e w0 pl z => by
    obtain ⟨mf, zf⟩ := z
    have ge := EN_ge hb mf _ p2 g L (by omega) pl zf y hy
    have le := hF y hy
    refine h0 ⟨w0, by omega, ?_⟩
    rw [← e]
    exact (hn p2 (N (b + x)) g L (by omega) (by omega) i.1 i.2 ⟨mf, zf⟩).mpr ⟨y, hy, (AE_acc hh le).mpr ha⟩
  rcases tkv_w hb hp.2.1 hc hw2 with ⟨w0, ⟨z1, z2, z3⟩ | ⟨z1, z2, z3⟩⟩ | ⟨z, z1, z2⟩
  · have c1 := ww_i0 (tgR_1 z1) z2 hL
    have wu := u8_w (p := p) hb z2.1
    exact far _ (by rw [z3]) w0 wu.2 c1
  · have c1 := ww_i1 (tgR_2 z1) z2 hL
    exact far _ (by rw [z3]) w0 (by omega) c1
  · rcases (show T (b + x) = 1 ∨ T (b + x) = 2 by omega) with e | e
    · rw [ww_i0n (tgR_1 e) (fun q => z1 ⟨e, q.1, q.2⟩) hL] at hy
      exact absurd hy List.not_mem_nil
    · rw [ww_i1n (tgR_2 e) (fun q => z2 ⟨e, q⟩) hL] at hy
      exact absurd hy List.not_mem_nil
theorem cuR.no (h : cuR T N W CA CM CL CH f NO len b n hw fr p Z PL PT TS TO SP tr m x S) (hn : ntK T N W CA CM CL CH f NO len b n fr al to) (hs : sgood T N W CA CM b n) (hx : 0 ≤ x ∧ x < n) (hp : to ≤ p ∧ 0 ≤ p ∧ p ≤ fr ∧ fr ≤ len) (hh : hwA al hw) (ht : T (b + x) = 6 ∨ (T (b + x) = 5 ∧ ¬ mhld f len p (W (b + x)))) (ho : onA PL PT TS TO SP tr PL2 PT2 TS2 TO2 SP2 t2) : wlW T N W CA CM CL CH f NO len b n hw fr p (zu Z x 1) PL2 PT2 TS2 TO2 SP2 t2 m S := by
  obtain ⟨o1, o2, o3, o4, o5, o6⟩ := ho
  rw [o1, o2, o3, o4, o5, o6]
  refine cuK.dead h (alA_of hn ⟨hp.1, hp.2.2.1⟩ hh) (fun g L hL hF y hy ha => ?_)
  rcases ht with t | ⟨t, u⟩
  · rw [ww_i6 (tgR_6 t) hL] at hy
    exact absurd hy List.not_mem_nil
  · have hl : ¬ hld f len p (bdR T W b x) := by
      rw [bdR_5 t]
      exact fun z => u ((mhld_h ((hs x hx.1 hx.2).2.2.2.2.1 t) ⟨hp.2.1, by omega⟩).mpr z)
    rw [ww_i2n (tgR_5 t) hl hL] at hy
    exact absurd hy List.not_mem_nil
theorem cuR.splits (h : cuR T N W CA CM CL CH f NO len b n hw fr p Z PL PT TS TO SP tr m x S) (hn : ntK T N W CA CM CL CH f NO len b n fr al to) (hs : sgood T N W CA CM b n) (hx : 0 ≤ x ∧ x < n) (hp : to ≤ p ∧ p ≤ fr) (hh : hwA al hw) (ht : T (b + x) = 3) (h0 : 0 ≤ tr) (ho : onB PL PT TS TO SP tr m (N (b + x)) (W (b + x)) PL2 PT2 TS2 TO2 SP2 t2) : wlW T N W CA CM CL CH f NO len b n hw fr p (zu Z x 1) PL2 PT2 TS2 TO2 SP2 t2 (m + 2) S := by
  obtain ⟨s1, s2, s3, _⟩ := hs x hx.1 hx.2
  obtain ⟨o1, o2, o3, o4, o5, o6⟩ := ho
  have e : bdR T W b x = W (b + x) := bdR_n (by omega)
  have j := s3 ht
  rw [o1, o2, o3, o4, o5, o6]
  refine cuK.two h (alA_of hn hp hh) (tgR_3 ht) (s2 (by omega) (by omega)) (by rw [e]; exact j) (fun i i0 i1 => ?_) ?_ ?_ h0
  · rw [zu_ne (by omega), zu_ne (by omega), zu_ne (by omega), zu_ne (by omega)]
    exact ⟨rfl, rfl⟩
  · rw [zu_ne (by omega), zu_self, zu_ne (by omega), zu_self]
    exact ⟨e.symm, rfl⟩
  · rw [zu_self, zu_self]
    exact ⟨rfl, rfl⟩
theorem cuR.lays (h : cuR T N W CA CM CL CH f NO len b n hw fr p Z PL PT TS TO SP tr m x S) (hn : ntK T N W CA CM CL CH f NO len b n fr al to) (hs : sgood T N W CA CM b n) (hx : 0 ≤ x ∧ x < n) (hp : to ≤ p ∧ 0 ≤ p ∧ p ≤ fr ∧ fr ≤ len) (hh : hwA al hw) (h0 : 0 ≤ tr) (ho : onC PL PT TS TO SP tr m (N (b + x)) (W (b + x)) p (T (b + x)) PL2 PT2 TS2 TO2 SP2 t2 (mhld f len p (W (b + x)))) : wlW T N W CA CM CL CH f NO len b n hw fr p (zu Z x 1) PL2 PT2 TS2 TO2 SP2 t2 (m + 1) S := by
  obtain ⟨s1, s2, s3, s4, s5, _⟩ := hs x hx.1 hx.2
  rcases ho with ⟨t, u, o1, o2, o3, o4, o5, o6⟩ | ⟨t, o1, o2, o3, o4, o5, o6⟩
  · have hl : hld f len p (bdR T W b x) := by
      rw [bdR_5 t]
      exact (mhld_h (s5 t) ⟨hp.2.1, by omega⟩).mp u
    rw [o1, o2, o3, o4, o5, o6]
    refine cuK.one h (alA_of hn ⟨hp.1, hp.2.2.1⟩ hh) (y := N (b + x)) (Or.inr (Or.inr (Or.inl ⟨tgR_5 t, hl, rfl, rfl⟩))) (s2 (by omega) (by omega)) (fun L z => ww_i2 (tgR_5 t) hl z) (fun i i0 i1 => ?_) ⟨zu_self _ _ _, zu_self _ _ _⟩ ⟨Int.le_refl _, h0⟩ (fun _ _ _ => rfl)
    rw [zu_ne (by omega), zu_ne (by omega)]
    exact ⟨rfl, rfl⟩
  · have e : bdR T W b x = W (b + x) := bdR_n (by omega)
    have v := s4 t
    rw [o1, o2, o3, o4, o5, o6]
    refine cuK.one h (alA_of hn ⟨hp.1, hp.2.2.1⟩ hh) (y := N (b + x)) (Or.inr (Or.inr (Or.inr (Or.inr ⟨tgR_4 t, rfl, rfl⟩)))) (s2 (by omega) (by omega)) (fun L z => ?_) (fun i i0 i1 => ?_) ⟨zu_self _ _ _, zu_self _ _ _⟩ ⟨by omega, h0⟩ (fun q _ q1 => spA_push q1)
    · have c := ww_i4 (tgR_4 t) z
      rw [e] at c
      rw [gQ_zu v]
      exact c
    · rw [zu_ne (by omega), zu_ne (by omega)]
      exact ⟨rfl, rfl⟩
/-- the search at a place begins with what is known -/
theorem wlB_0 (h : gnR T N W CA CM CL CH f len b hw fr k p SP S) (hk : 0 ≤ k ∧ k < n) (hp : PL 0 = k ∧ PT 0 = 0) (hz : ∀ z : Int, 0 ≤ z → z < n → ¬ Z z = 1) {k2 go en : Int} (hg : go = 0 ∧ en = 0) : wlB T N W CA CM CL CH f NO len b n hw fr p Z PL PT TS TO SP 0 1 p k2 go en S := by
  obtain ⟨L, h1, h2, h3⟩ := h
  exact ⟨fun _ _ => wlK_0 h1 h2 h3 hk hp hz, fun q => by omega, fun q => by omega⟩
theorem wlB_k {k2 p2 go en : Int} (h : wlW T N W CA CM CL CH f NO len b n hw fr p Z PL PT TS TO SP tr m S) (hg : go = 0 ∧ en = 0) : wlB T N W CA CM CL CH f NO len b n hw fr p Z PL PT TS TO SP tr m p2 k2 go en S := ⟨fun _ _ => h, fun q => by omega, fun q => by omega⟩
theorem wlB_g {k2 p2 go en : Int} (h : gnR T N W CA CM CL CH f len b hw fr k2 p2 SP S) (hg : go = 1 ∧ en = 0) : wlB T N W CA CM CL CH f NO len b n hw fr p Z PL PT TS TO SP tr m p2 k2 go en S := ⟨fun q => by omega, fun _ => h, fun q => by omega⟩
theorem wlB_e {k2 p2 go en : Int} (h : S = some (p, gQ SP)) (hg : go = 0 ∧ en = 1) : wlB T N W CA CM CL CH f NO len b n hw fr p Z PL PT TS TO SP tr m p2 k2 go en S := ⟨fun _ q => by omega, fun q => by omega, fun _ => h⟩
end Wr
/-- spans that are cleared -/
def nmS (SP : Int → Int) (i : Int) : Prop := ∀ j : Int, 0 ≤ j → j < i → SP j = -1
theorem nmS_0 {SP : Int → Int} : nmS SP 0 := fun j a b => by omega
theorem nmS_s {SP : Int → Int} {i : Int} (h : nmS SP i) : nmS (zu SP i (-1)) (i + 1) := fun j a b => by
  by_cases e : j = i
  · rw [e, zu_self]
  · rw [zu_ne e]; exact h j a (by omega)
theorem gQ_nm {SP : Int → Int} (h : nmS SP 20) : gQ SP = fun _ => -1 := by
  funext i
  show (if 0 ≤ i ∧ i < 20 then SP i else -1) = -1
  by_cases c : 0 ≤ i ∧ i < 20
  · rw [if_pos c]; exact h i c.1 c.2
  · rw [if_neg c]
/-- what is to be found from an entry: the first way that counts -/
def gn0 (T N W CA CM CL CH f : Int → Int) (len b hw fr k p : Int) (S : Option (Int × Gr)) : Prop := ∃ L : List (Int × Gr), WR T N W CA CM CL CH b f len k p (fun _ => -1) L ∧ fA hw fr L = S ∧ ∀ y ∈ L, y.1 ≤ fr
def weB (T N W CA CM CL CH f : Int → Int) (len b hw fr k p : Int) (SP : Int → Int) (en : Int) (S : Option (Int × Gr)) : Prop := (en = 1 → S = some (p, gQ SP)) ∧ (en = 0 → gnR T N W CA CM CL CH f len b hw fr k p SP S)
theorem weB_0 {T N W CA CM CL CH f SP : Int → Int} {len b hw fr k p en : Int} {S : Option (Int × Gr)} (h : gn0 T N W CA CM CL CH f len b hw fr k p S) (hm : nmS SP 20) (he : en = 0) : weB T N W CA CM CL CH f len b hw fr k p SP en S := ⟨fun q => by omega, fun _ => by
  obtain ⟨L, h1, h2⟩ := h
  exact ⟨L, by rw [gQ_nm hm]; exact h1, h2⟩⟩
theorem mch_w {S : Option (Int × Gr)} {SP : Int → Int} {p fm : Int} (h : S = some (p, gQ SP)) : mch S 1 (zu (zu SP 0 fm) 1 p) 20 fm := Or.inr ⟨p, gQ SP, h, rfl, by rw [zu_ne (by decide), zu_self], zu_self _ _ _, fun i i0 i1 => by
  rw [zu_ne (by omega), zu_ne (by omega)]
  exact (if_pos ⟨by omega, i1⟩).symm⟩
