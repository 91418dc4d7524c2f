/-! what is built of a part does what it means -/
def hgt (v : Sn) : Int := (v.1.2.2 : Int)
theorem hgt_0 (v : Sn) : 0 ≤ hgt v := by unfold hgt; omega
def RP (K N O RR : Int → Int) (ru lo hi w w2 : Int) (v : Sn) : Prop := RlP K N O RR ru lo hi w w2 v.1.1 v.1.2.1
/-- the states below n and the ranges below ru stay -/
def pxt (K N O RR : Int → Int) (n ru : Int) (K2 N2 O2 R2 : Int → Int) : Prop := kext K K2 n ∧ kext N N2 n ∧ kext O O2 n ∧ kext RR R2 ru
section Pxt
variable {K N O RR K2 N2 O2 R2 K3 N3 O3 R3 : Int → Int} {n m ru ru2 lo hi lo2 hi2 w w1 w2 w3 : Int} {v u : Sn}
theorem pxt.rf : pxt K N O RR n ru K N O RR := ⟨kext.rf, kext.rf, kext.rf, kext.rf⟩
theorem pxt.tr (h : pxt K N O RR n ru K2 N2 O2 R2) (h2 : pxt K2 N2 O2 R2 m ru2 K3 N3 O3 R3) (hn : n ≤ m) (hr : ru ≤ ru2) : pxt K N O RR n ru K3 N3 O3 R3 := ⟨h.1.tr h2.1 hn, h.2.1.tr h2.2.1 hn, h.2.2.1.tr h2.2.2.1 hn, h.2.2.2.tr h2.2.2.2 hr⟩
theorem pxt.lt (h : pxt K N O RR m ru2 K2 N2 O2 R2) (hn : n ≤ m) (hr : ru ≤ ru2) : pxt K N O RR n ru K2 N2 O2 R2 := ⟨fun i a b => h.1 i a (by omega), fun i a b => h.2.1 i a (by omega), fun i a b => h.2.2.1 i a (by omega), fun i a b => h.2.2.2 i a (by omega)⟩
theorem pxt.ag (h : pxt K N O RR n ru K2 N2 O2 R2) (hl : 0 ≤ lo) (hh : hi ≤ n) : agC K N O RR K2 N2 O2 R2 lo hi ru := ⟨fun i a b => ⟨h.1 i (by omega) (by omega), h.2.1 i (by omega) (by omega), h.2.2.1 i (by omega) (by omega)⟩, fun j a b => h.2.2.2 j a b⟩
theorem pxt.add {k x y : Int} (h : n ≤ m) : pxt K N O RR n ru (zu K m k) (zu N m x) (zu O m y) RR := ⟨kext.zu h, kext.zu h, kext.zu h, kext.rf⟩
theorem RP.up (h : RP K N O RR ru lo hi w w2 v) (a : pxt K N O RR n ru K2 N2 O2 R2) (hl : 0 ≤ lo) (hh : hi ≤ n) (h1 : lo2 ≤ lo) (h2 : hi ≤ hi2) (h3 : ru ≤ ru2) : RP K2 N2 O2 R2 ru2 lo2 hi2 w w2 v := RlP.up h (a.ag hl hh) h1 h2 h3
theorem RP.wd (h : RP K N O RR ru lo hi w w2 v) (h1 : lo2 ≤ lo) (h2 : hi ≤ hi2) : RP K N O RR ru lo2 hi2 w w2 v := RlP.up h ⟨fun _ _ _ => ⟨rfl, rfl, rfl⟩, fun _ _ _ => rfl⟩ h1 h2 (Int.le_refl _)
theorem RP_I : RP K N O RR ru lo hi w w mnI := RlP_I
/-- what takes no states -/
theorem RP_z (h : nzS v) : RP K N O RR ru lo hi w w v := by
  unfold RP
  rw [h.1]
  exact RlP.wk RlP_I (fun q => h.2 q)
theorem RP_C (h1 : RP K N O RR ru lo hi w1 w2 v) (h2 : RP K N O RR ru lo hi w w1 u) : RP K N O RR ru lo hi w w2 (mnC v u) := RlP_C v.2 u.2 h1 h2
theorem RP_O (hf : sdC K N O lo hi (w2 / 4294967296) 6 (w1 / 4294967296) (w3 / 4294967296)) (hu : sdC K N O lo hi (w2 % 4294967296) 6 (w1 % 4294967296) (w3 % 4294967296)) (h1 : RP K N O RR ru lo hi w w1 v) (h2 : RP K N O RR ru lo hi w w3 u) : RP K N O RR ru lo hi w w2 (mnO v u) := RlP_O hf hu h1 h2
theorem RP.e (h : RP K N O RR ru lo hi w w2 v) (e : v = u) : RP K N O RR ru lo hi w w2 u := by rw [← e]; exact h
/-- two states that do one thing -/
def prCb (K N O : Int → Int) (lo hi w2 k w y : Int) : Prop := sdC K N O lo hi (w2 / 4294967296) k (w / 4294967296) y ∧ sdC K N O lo hi (w2 % 4294967296) k (w % 4294967296) y
theorem sdC.ex {x k y z : Int} (h : sdC K N O lo hi x k y z) (a : pxt K N O RR n ru K2 N2 O2 R2) (hl : 0 ≤ lo) (hh : hi ≤ n) (h1 : lo2 ≤ lo) (h2 : hi ≤ hi2) : sdC K2 N2 O2 lo2 hi2 x k y z := by
  obtain ⟨⟨a1, a2⟩, a3, a4, a5⟩ := h
  exact ⟨⟨by omega, by omega⟩, (a.1 x (by omega) (by omega)).trans a3, (a.2.1 x (by omega) (by omega)).trans a4, (a.2.2.1 x (by omega) (by omega)).trans a5⟩
theorem prCb.ex {k y : Int} (h : prCb K N O lo hi w2 k w y) (a : pxt K N O RR n ru K2 N2 O2 R2) (hl : 0 ≤ lo) (hh : hi ≤ n) (h1 : lo2 ≤ lo) (h2 : hi ≤ hi2) : prCb K2 N2 O2 lo2 hi2 w2 k w y := ⟨h.1.ex a hl hh h1 h2, h.2.ex a hl hh h1 h2⟩
theorem RP_Q {q : Int} (h : prCb K N O lo hi w2 3 w q) : RP K N O RR ru lo hi w w2 (mnQ q) := RlP_Q h.1 h.2
theorem RP_G {wi k : Int} (hk : ¬ k = 0) (h1 : prCb K N O lo hi w1 7 w (2 * k + 1)) (h : RP K N O RR ru lo hi w1 wi v) (h2 : prCb K N O lo hi w2 7 wi (2 * k)) : RP K N O RR ru lo hi w w2 (mnG k v) := by
  have e : (mnG k v).1.1 = smG k v.1.1 := if_neg hk
  unfold RP
  rw [e]
  exact RlP_G v.2 h1.1 h1.2 h h2.1 h2.2
theorem RP_G0 (h : RP K N O RR ru lo hi w w2 v) : RP K N O RR ru lo hi w w2 (mnG 0 v) := by
  have e : (mnG 0 v).1.1 = v.1.1 := by
    show (if (0 : Int) = 0 then v.1.1 else smG 0 v.1.1) = v.1.1
    exact if_pos rfl
  unfold RP
  rw [e]
  exact h
theorem RP_A {s q : Int} (h : sdC K N O lo hi s 2 (w % 4294967296) q) (e1 : w2 / 4294967296 = s) (e2 : w2 % 4294967296 = s) : RP K N O RR ru lo hi w w2 mnA := RlP_A h e1 e2
theorem RP_c {s c : Int} (h : sdC K N O lo hi s 0 (w % 4294967296) c) (e1 : w2 / 4294967296 = s) (e2 : w2 % 4294967296 = s) : RP K N O RR ru lo hi w w2 (mnS (fun x => c = x)) := RlP_c h e1 e2
theorem RP_S {s r : Int} {S : Int → Prop} (h : sdC K N O lo hi s 1 (w % 4294967296) r) (hr : recok RR ru r) (hS : ∀ x : Int, cs_mem (fun i => RR (r + 1 + i)) (RR r) x ↔ S x) (e1 : w2 / 4294967296 = s) (e2 : w2 % 4294967296 = s) : RP K N O RR ru lo hi w w2 (mnS S) := RlP_S h hr hS e1 e2
/-- a leaf's state: by its kind -/
theorem RP_lf {s k y : Int} {S : Int → Prop} {x : Sn} (h : sdC K N O lo hi s k (w % 4294967296) y) (hk : 0 ≤ k ∧ k ≤ 2) (vp : Int) (hv : ¬ k = 1 → y = vp) (hS : k = 1 → recok RR ru y ∧ ∀ x : Int, cs_mem (fun i => RR (y + 1 + i)) (RR y) x ↔ S x) (e1 : w2 / 4294967296 = s) (e2 : w2 % 4294967296 = s) : RP K N O RR ru lo hi w w2 (onS k vp S x) := by
  rcases (show k = 0 ∨ k = 1 ∨ k = 2 by omega) with e | e | e
  · subst e
    rw [onS_0, ← hv (by decide)]
    exact RP_c h e1 e2
  · subst e
    rw [onS_1]
    exact RP_S h (hS rfl).1 (hS rfl).2 e1 e2
  · subst e
    rw [onS_2]
    exact RP_A h e1 e2
theorem RP_T {lz r w0 wb : Int} (hr : lpC K N O lo hi (lz = 1) r (wb / 4294967296) (w % 4294967296)) (h : RP K N O RR ru lo hi w0 wb v) (e0 : w0 % 4294967296 = r) (hd : ¬ v.1.2.1 → w0 / 4294967296 = 0) (hx : lpC K N O lo hi (lz = 1) (w2 / 4294967296) (wb / 4294967296) (w / 4294967296)) (hu : w2 % 4294967296 = r) : RP K N O RR ru lo hi w w2 (mnR 0 1000 lz v) := by
  have e : (mnR 0 1000 lz v).1.1 = smT (lz = 1) v.1.1 := by
    show smR 0 1000 lz v.1.1 = _
    unfold smR
    rw [if_pos rfl]
    rfl
  unfold RP
  rw [e]
  exact RlP.wk (RlP_T v.2 hr h e0 hd hx hu) (fun q => absurd q.1 (by decide))
theorem RP_U0 {lz : Int} : RP K N O RR ru lo hi w w (mnU lz v 0) := RlP_I
theorem RP_U {lz we wt : Int} {m m2 : Nat} (hm : m2 = m + 1) (h1 : RP K N O RR ru lo hi we wt v) (h2 : RP K N O RR ru lo hi w we (mnU lz v m)) (hf : lpC K N O lo hi (lz = 1) (w2 / 4294967296) (wt / 4294967296) (w / 4294967296)) (hu : lpC K N O lo hi (lz = 1) (w2 % 4294967296) (wt % 4294967296) (w % 4294967296)) : RP K N O RR ru lo hi w w2 (mnU lz v m2) := by
  rw [hm]
  exact RlP_U v.2 h1 h2 hf hu
theorem RP_N0 (h : RP K N O RR ru lo hi w w2 u) : RP K N O RR ru lo hi w w2 (mnN v u 0) := by
  have e : (mnN v u 0).1.2.1 = u.1.2.1 := by
    show (if (0 : Nat) = 0 then u.1.2.1 else v.1.2.1) = u.1.2.1
    exact if_pos rfl
  unfold RP
  rw [e]
  exact h
theorem RP_N {we : Int} {m m2 : Nat} (hm : m2 = m + 1) (h1 : RP K N O RR ru lo hi we w2 v) (h2 : RP K N O RR ru lo hi w we (mnN v u m)) : RP K N O RR ru lo hi w w2 (mnN v u m2) := by
  rw [hm]
  have e : (mnN v u (m + 1)).1.2.1 = v.1.2.1 := by
    show (if m + 1 = 0 then u.1.2.1 else v.1.2.1) = v.1.2.1
    exact if_neg (by omega)
  unfold RP
  rw [e]
  exact RlP.wk (RlP_N v.2 (gd_N v.2 u.2 m |> fun _ => u.2) h1 h2) Or.inl
/-- the repeat, endless or not -/
theorem RP_re {l lz : Int} (hl : 0 ≤ l) (h : RP K N O RR ru lo hi w w2 (mnN v (mnR 0 1000 lz v) l.toNat)) : RP K N O RR ru lo hi w w2 (mnR l 1000 lz v) := by
  have e : (mnR l 1000 lz v).1.1 = smN v.1.1 (smR 0 1000 lz v.1.1) l.toNat := by
    show smR l 1000 lz v.1.1 = _
    unfold smR
    rw [if_pos rfl, if_pos rfl]
    rfl
  unfold RP at *
  rw [e]
  refine RlP.wk h (fun q => ?_)
  show (if l.toNat = 0 then _ else v.1.2.1)
  rw [if_neg (by have := q.1; omega)]
  exact q.2
theorem RP_rm {l m lz : Int} (hl : 0 ≤ l) (hm : ¬ m = 1000) (h : RP K N O RR ru lo hi w w2 (mnN v (mnU lz v (m - l).toNat) l.toNat)) : RP K N O RR ru lo hi w w2 (mnR l m lz v) := by
  have e : (mnR l m lz v).1.1 = smN v.1.1 (smU (lz = 1) v.1.1 (m - l).toNat) l.toNat := by
    show smR l m lz v.1.1 = _
    unfold smR
    rw [if_neg hm]
  unfold RP at *
  rw [e]
  refine RlP.wk h (fun q => ?_)
  show (if l.toNat = 0 then _ else v.1.2.1)
  rw [if_neg (by have := q.1; omega)]
  exact q.2
theorem opO_s {a b c : Sn} : opO (some (opO (some a) b)) c = opO (some a) (mnO b c) := mnO_O
theorem opO_n {b c : Sn} : opO (some (opO none b)) c = opO none (mnO b c) := rfl
end Pxt
/-- the records of parts: each has its part's characters -/
def rcS (G : ab_G) (ps : Nat → Nat) (wt : Nat → Wt) (RR : Int → Int) (ru : Int) : Prop := ∀ p, ps p = 90 → fi G p 0 = 1 → fi G p 14 = -1 ∨ (recok RR ru (fi G p 14) ∧ ∀ x, cs_mem (fun i => RR (fi G p 14 + 1 + i)) (RR (fi G p 14)) x ↔ (wt p).2 x)
/-- what parts mean while they are built: on once, re with the repeat, rg what stands within -/
def dnB (_o : Nat → Nat) (G : ab_G) (_z : Nat) (ps : Nat → Nat) (wt : Nat → Wt) (cs on re rg : Nat → Sn) (RR : Int → Int) (ru : Int) : Prop := dnX G ps cs (svw wt) ∧ (∀ p, ps p = 90 → onP G cs (svw wt) p = on p ∧ reP G cs (svw wt) p = re p) ∧ (∀ x, (ps x = 90 ∨ ps x = 94) → lvS cs (fv G x 6) = rg x) ∧ rcS G ps wt RR ru
section DnB
variable {o o2 : Nat → Nat} {G G2 : ab_G} {z : Nat} {ps : Nat → Nat} {wt : Nat → Wt} {bs : Nat} {gr : Int} {Pr : Int → Prop} {ph : Int} {cs on re rg : Nat → Sn} {RR R2 : Int → Int} {ru ru2 : Int}
theorem rcS.ext (h : rcS G ps wt RR ru) (e : kext RR R2 ru) (hu : ru ≤ ru2) : rcS G ps wt R2 ru2 := fun p hp hk => by
  rcases h p hp hk with q | ⟨q1, q2⟩
  · exact Or.inl q
  · refine Or.inr ⟨recok_ext q1 e hu, fun x => ?_⟩
    rw [← q2 x]
    obtain ⟨h0, h1, h2, _, _⟩ := q1
    have er : R2 (fi G p 14) = RR (fi G p 14) := e _ h0 (by omega)
    constructor
    · intro ⟨i, i0, i1, a, b⟩
      rw [er] at i1
      refine ⟨i, i0, i1, ?_, ?_⟩
      · have t := e (fi G p 14 + 1 + 2 * i) (by omega) (by omega)
        show RR (fi G p 14 + 1 + 2 * i) ≤ x
        rw [← t]; exact a
      · have t := e (fi G p 14 + 1 + (2 * i + 1)) (by omega) (by omega)
        show x ≤ RR (fi G p 14 + 1 + (2 * i + 1))
        rw [← t]; exact b
    · intro ⟨i, i0, i1, a, b⟩
      refine ⟨i, i0, by rw [er]; exact i1, ?_, ?_⟩
      · have t := e (fi G p 14 + 1 + 2 * i) (by omega) (by omega)
        show R2 (fi G p 14 + 1 + 2 * i) ≤ x
        rw [t]; exact a
      · have t := e (fi G p 14 + 1 + (2 * i + 1)) (by omega) (by omega)
        show x ≤ R2 (fi G p 14 + 1 + (2 * i + 1))
        rw [t]; exact b
theorem dnB.ext (h : dnB o G z ps wt cs on re rg RR ru) (e : kext RR R2 ru) (hu : ru ≤ ru2) : dnB o G z ps wt cs on re rg R2 ru2 := ⟨h.1, h.2.1, h.2.2.1, h.2.2.2.ext e hu⟩
theorem dnB.same (h : dnB o G z ps wt cs on re rg RR ru) (e : ∀ x, (ps x = 90 ∨ ps x = 94) → G2[x]? = G[x]?) : dnB o2 G2 z ps wt cs on re rg RR ru := by
  obtain ⟨h1, h2, h3, h4⟩ := h
  have ev : ∀ g, (ps g = 90 ∨ ps g = 94) → ∀ i, fv G2 g i = fv G g i := fun g hg i => fv_pf (pf_eq (e g hg))
  have ei : ∀ g, (ps g = 90 ∨ ps g = 94) → ∀ i, fi G2 g i = fi G g i := fun g hg i => fi_pf (pf_eq (e g hg))
  refine ⟨h1.same (fun x hx i _ => pf_eq (e x hx)), fun p hp => ?_, fun x hx => ?_, fun p hp hk => ?_⟩
  · have t := h2 p hp
    unfold reP onP at t ⊢
    rw [ei p (.inl hp) 0, ei p (.inl hp) 1, ei p (.inl hp) 11, ei p (.inl hp) 12, ei p (.inl hp) 13, ev p (.inl hp) 6]
    exact t
  · rw [ev x hx 6]; exact h3 x hx
  · rw [ei p (.inl hp) 0] at hk
    rw [ei p (.inl hp) 14]
    exact h4 p hp hk
theorem dnB.fr {S : List Nat} (hf : fx o o2 S G G2) (hp : paI o G z ps wt bs gr Pr ph) (h : dnB o G z ps wt cs on re rg RR ru) (h90 : ¬ 90 ∈ S) (h94 : ¬ 94 ∈ S) : dnB o2 G2 z ps wt cs on re rg RR ru := h.same (fun x hx => (fz.fx hp hf h90 h94) x hx List.not_mem_nil)
theorem fi_rc {a l : Nat} {k v : Int} {rg : Value} {pl fl : Int} {ou ls bf : Value} {sz mb oe le mo la rc : Int} (hc : cc o G a l (paE k v rg pl fl ou ls bf sz mb oe le mo la rc)) (hb : -1 ≤ rc ∧ rc ≤ 100000) : fi G a 14 = rc := by
  unfold fi pf
  rw [hc.2.2]
  exact z_ti (by omega)
/-- a record is written -/
theorem dnB.wrec {a : Nat} {k v : Int} {rg' : Value} {pl fl : Int} {ou ls bf : Value} {sz mb oe le mo la rc r : Int} (h : dnB o G z ps wt cs on re rg RR ru) (hc : cc o G a 90 (paE k v rg' pl fl ou ls bf sz mb oe le mo la rc)) (e : G2 = List.set G a (paE k v rg' pl fl ou ls bf sz mb oe le mo la r)) (hb : 0 ≤ r ∧ r ≤ 100000) (hr : recok RR ru r ∧ ∀ x, cs_mem (fun i => RR (r + 1 + i)) (RR r) x ↔ (wt a).2 x) : dnB o G2 z ps wt cs on re rg RR ru := by
  obtain ⟨h1, h2, h3, h4⟩ := h
  have hk := hc.kept e
  have pfe : ∀ x i, i < 14 → pf G2 x i = pf G x i := fun x i hi => by
    by_cases t : x = a
    · subst t
      unfold pf
      rw [hk.2.2, hc.2.2]
      rcases (show i = 0 ∨ i = 1 ∨ i = 2 ∨ i = 3 ∨ i = 4 ∨ i = 5 ∨ i = 6 ∨ i = 7 ∨ i = 8 ∨ i = 9 ∨ i = 10 ∨ i = 11 ∨ i = 12 ∨ i = 13 by omega) with q | q | q | q | q | q | q | q | q | q | q | q | q | q <;> (subst q; rfl)
    · exact pf_eq (by rw [e, List.getElem?_set_ne (fun y => t y.symm)])
  refine ⟨h1.same (fun x hx i hi => pfe x i hi), fun p hp => ?_, fun x hx => ?_, fun p hp hk' => ?_⟩
  · have t := h2 p hp
    unfold reP onP at t ⊢
    rw [fi_pf (pfe p 0 (by decide)), fi_pf (pfe p 1 (by decide)), fi_pf (pfe p 11 (by decide)), fi_pf (pfe p 12 (by decide)), fi_pf (pfe p 13 (by decide)), fv_pf (pfe p 6 (by decide))]
    exact t
  · rw [fv_pf (pfe x 6 (by decide))]; exact h3 x hx
  · by_cases t : p = a
    · subst t
      rw [fi_rc hk (by omega)]
      exact Or.inr hr
    · have e2 : G2[p]? = G[p]? := by rw [e, List.getElem?_set_ne (fun y => t y.symm)]
      rw [fi_pf (pf_eq e2)] at hk'
      rw [fi_pf (pf_eq e2)]
      exact h4 p hp hk'
section DnBC
variable {p l : Nat} {k v : Int} {rgv : Value} {pl fl : Int} {ou ls bf : Value} {sz mb oe le mo la rc : Int}
theorem dnB.part (h : dnB o G z ps wt cs on re rg RR ru) (hp : ps p = 90) (hc : cc o G p 90 (paE k v rgv pl fl ou ls bf sz mb oe le mo la rc)) (b1 : 0 ≤ k ∧ k ≤ 5 ∧ -1 ≤ v ∧ v ≤ 1114111) (b2 : 0 ≤ sz ∧ sz ≤ 1000000 ∧ 0 ≤ le ∧ le ≤ 1000 ∧ 0 ≤ mo ∧ mo ≤ 1000) (b3 : 0 ≤ mb ∧ mb ≤ 1 ∧ 0 ≤ oe ∧ oe ≤ 1 ∧ 0 ≤ la ∧ la ≤ 1) : cs p = mnC (lvS cs bf) (re p) ∧ re p = mnR le mo la (on p) ∧ on p = onS k v (wt p).2 (rg p) ∧ rg p = lvS cs ls ∧ (¬ mo = 0 → oe = 0 → (on p).1.2.1) ∧ (sz = 0 → nzS (re p)) := by
  obtain ⟨h1, h2, h3, h4⟩ := h
  obtain ⟨e1, e2⟩ := h2 p hp
  have e3 := h3 p (.inl hp)
  obtain ⟨d1, d2, d3⟩ := h1.2 p hp
  obtain ⟨f0, f1, f8, f11, f12⟩ := fi_pa hc b1 b2
  obtain ⟨f9, f10, f13⟩ := fi_mb hc b3
  obtain ⟨_, v6, v7⟩ := fv_pa hc
  rw [e2, v7] at d1
  rw [e1, f10, f12] at d2
  rw [e2, f8] at d3
  rw [v6] at e3
  refine ⟨d1, ?_, ?_, e3.symm, d2, d3⟩
  · rw [← e2, ← e1]
    unfold reP
    rw [f11, f12, f13]
  · rw [← e1]
    unfold onP
    rw [f0, f1, v6, e3]
    rfl
theorem dnB.row (h : dnB o G z ps wt cs on re rg RR ru) (hp : ps p = 94) (hc : cc o G p 94 (paE 5 0 vN (-1) 0 vN ls bf sz mb 0 0 0 0 (-1))) : cs p = opO (lvA cs bf) (rg p) ∧ rg p = lvS cs ls := by
  obtain ⟨h1, h2, h3, h4⟩ := h
  have e3 := h3 p (.inr hp)
  obtain ⟨d1, _, _⟩ := h1.1 p hp
  obtain ⟨_, v6, v7⟩ := fv_pa hc
  rw [v7, e3] at d1
  rw [v6] at e3
  exact ⟨d1, e3.symm⟩
theorem dnB.rec (h : dnB o G z ps wt cs on re rg RR ru) (hp : ps p = 90) (hc : cc o G p 90 (paE k v rgv pl fl ou ls bf sz mb oe le mo la rc)) (b1 : 0 ≤ k ∧ k ≤ 5 ∧ -1 ≤ v ∧ v ≤ 1114111) (b2 : 0 ≤ sz ∧ sz ≤ 1000000 ∧ 0 ≤ le ∧ le ≤ 1000 ∧ 0 ≤ mo ∧ mo ≤ 1000) (hk : k = 1) (b3 : 0 ≤ rc ∧ rc ≤ 100000) : ∀ x, cs_mem (fun i => RR (rc + 1 + i)) (RR rc) x ↔ (wt p).2 x := by
  have t := h.2.2.2 p hp (by rw [(fi_pa hc b1 b2).1]; exact hk)
  rw [fi_rc hc (by omega)] at t
  rcases t with t | t
  · omega
  · exact t.2
end DnBC
theorem dnB.mk {p : Nat} {v : Sn} (h : dnF o G z ps wt cs p v) (hp : paI o G z ps wt bs gr pr0 ph) : dnB o G z ps wt cs (onP G cs (svw wt)) (reP G cs (svw wt)) (fun x => lvS cs (fv G x 6)) RR ru := by
  refine ⟨h.1, fun _ _ => ⟨rfl, rfl⟩, fun _ _ => rfl, fun x hx _ => ?_⟩
  obtain ⟨k, v, rg, pl, fl, ou, ls, bf, sz, mb, oe, le, mo, la, rc, c1, c2, _⟩ := hp.1 x hx
  have hr : rc = -1 := c2.2.2.2.2
  exact Or.inl (by rw [fi_rc c1 (by omega)]; exact hr)
end DnB
section Fork
variable {K N O RR K2 N2 O2 R2 : Int → Int} {n ru lo hi lo2 hi2 w w1 w2 w3 u : Int} {v x : Sn}
theorem sdC.wd {s k y z : Int} (h : sdC K N O lo hi s k y z) (h1 : lo2 ≤ lo) (h2 : hi ≤ hi2) : sdC K N O lo2 hi2 s k y z := ⟨⟨by have := h.1.1; omega, by have := h.1.2; omega⟩, h.2⟩
theorem prCb.wd {k y : Int} (h : prCb K N O lo hi w2 k w y) (h1 : lo2 ≤ lo) (h2 : hi ≤ hi2) : prCb K N O lo2 hi2 w2 k w y := ⟨h.1.wd h1 h2, h.2.wd h1 h2⟩
theorem prCb.mk1 {s k a y : Int} (h : sdC K N O lo hi s k a y) (e1 : w2 / 4294967296 = s) (e2 : w2 % 4294967296 = s) (e3 : w / 4294967296 = a) (e4 : w % 4294967296 = a) : prCb K N O lo hi w2 k w y := by
  unfold prCb
  rw [e1, e2, e3, e4]
  exact ⟨h, h⟩
theorem prCb.mk2 {s t k a b y : Int} (h : sdC K N O lo hi s k a y) (h2 : sdC K N O lo hi t k b y) (e1 : w2 / 4294967296 = s) (e2 : w2 % 4294967296 = t) (e3 : w / 4294967296 = a) (e4 : w % 4294967296 = b) : prCb K N O lo hi w2 k w y := by
  unfold prCb
  rw [e1, e2, e3, e4]
  exact ⟨h, h2⟩
/-- a fork of two ways -/
def foC (K N O : Int → Int) (lo hi w2 w u : Int) : Prop := sdC K N O lo hi (w2 / 4294967296) 6 (w / 4294967296) (u / 4294967296) ∧ sdC K N O lo hi (w2 % 4294967296) 6 (w % 4294967296) (u % 4294967296)
theorem foC.mk1 {s a b : Int} (h : sdC K N O lo hi s 6 a b) (e1 : w2 / 4294967296 = s) (e2 : w2 % 4294967296 = s) (e3 : w / 4294967296 = a) (e4 : w % 4294967296 = a) (e5 : u / 4294967296 = b) (e6 : u % 4294967296 = b) : foC K N O lo hi w2 w u := by
  unfold foC
  rw [e1, e2, e3, e4, e5, e6]
  exact ⟨h, h⟩
theorem foC.mk2 {s t a b c d : Int} (h : sdC K N O lo hi s 6 a b) (h2 : sdC K N O lo hi t 6 c d) (e1 : w2 / 4294967296 = s) (e2 : w2 % 4294967296 = t) (e3 : w / 4294967296 = a) (e4 : w % 4294967296 = c) (e5 : u / 4294967296 = b) (e6 : u % 4294967296 = d) : foC K N O lo hi w2 w u := by
  unfold foC
  rw [e1, e2, e3, e4, e5, e6]
  exact ⟨h, h2⟩
theorem foC.wd (h : foC K N O lo hi w2 w u) (h1 : lo2 ≤ lo) (h2 : hi ≤ hi2) : foC K N O lo2 hi2 w2 w u := ⟨h.1.wd h1 h2, h.2.wd h1 h2⟩
theorem RP_F (h : foC K N O lo hi w2 w1 w3) (h1 : RP K N O RR ru lo hi w w1 v) (h2 : RP K N O RR ru lo hi w w3 x) : RP K N O RR ru lo hi w w2 (mnO v x) := RP_O h.1 h.2 h1 h2
/-- a fork as the head of what may be gone through once more -/
theorem foC.lp0 {lz : Int} (h : foC K N O lo hi w2 w1 w) (hl : ¬ lz = 1) : lpC K N O lo hi (lz = 1) (w2 / 4294967296) (w1 / 4294967296) (w / 4294967296) ∧ lpC K N O lo hi (lz = 1) (w2 % 4294967296) (w1 % 4294967296) (w % 4294967296) := ⟨⟨h.1.1, h.1.2.1, fun q => absurd q hl, fun _ => h.1.2.2⟩, ⟨h.2.1, h.2.2.1, fun q => absurd q hl, fun _ => h.2.2.2⟩⟩
theorem foC.lp1 {lz : Int} (h : foC K N O lo hi w2 w w1) (hl : lz = 1) : lpC K N O lo hi (lz = 1) (w2 / 4294967296) (w1 / 4294967296) (w / 4294967296) ∧ lpC K N O lo hi (lz = 1) (w2 % 4294967296) (w1 % 4294967296) (w % 4294967296) := ⟨⟨h.1.1, h.1.2.1, fun _ => h.1.2.2, fun q => absurd hl q⟩, ⟨h.2.1, h.2.2.1, fun _ => h.2.2.2, fun q => absurd hl q⟩⟩
theorem lpC.mk {lz : Int} {x y z : Int} (hx : lo ≤ x ∧ x < hi) (hk : K x = 6) (h1 : lz = 1 → N x = z ∧ O x = y) (h0 : ¬ lz = 1 → N x = y ∧ O x = z) : lpC K N O lo hi (lz = 1) x y z := ⟨hx, hk, h1, h0⟩
theorem pxt.setN {a y : Int} (h : n ≤ a) : pxt K N O RR n ru K (zu N a y) O RR := ⟨kext.rf, kext.zu h, kext.rf, kext.rf⟩
theorem pxt.setO {a y : Int} (h : n ≤ a) : pxt K N O RR n ru K N (zu O a y) RR := ⟨kext.rf, kext.rf, kext.zu h, kext.rf⟩
theorem RP.setN {a y : Int} (h : RP K N O RR ru lo hi w w2 v) (ha : a < lo) : RP K (zu N a y) O RR ru lo hi w w2 v := RlP.up h ⟨fun i i0 _ => ⟨rfl, zu_ne (by omega), rfl⟩, fun _ _ _ => rfl⟩ (Int.le_refl _) (Int.le_refl _) (Int.le_refl _)
theorem RP.setO {a y : Int} (h : RP K N O RR ru lo hi w w2 v) (ha : a < lo) : RP K N (zu O a y) RR ru lo hi w w2 v := RlP.up h ⟨fun i i0 _ => ⟨rfl, rfl, zu_ne (by omega)⟩, fun _ _ _ => rfl⟩ (Int.le_refl _) (Int.le_refl _) (Int.le_refl _)
theorem opO_a {a : Option Sn} {b c : Sn} : opO (some (opO a b)) c = opO a (mnO b c) := by
  cases a with
  | none => rfl
  | some u => exact mnO_O
theorem hgt_G {k : Int} : hgt (mnG k v) = hgt v + 1 := by
  show ((v.1.2.2 + 1 : Nat) : Int) = (v.1.2.2 : Int) + 1
  omega
theorem hgt_C : hgt v ≤ hgt (mnC v x) ∧ hgt x ≤ hgt (mnC v x) := by
  show (v.1.2.2 : Int) ≤ ((max v.1.2.2 x.1.2.2 : Nat) : Int) ∧ (x.1.2.2 : Int) ≤ ((max v.1.2.2 x.1.2.2 : Nat) : Int)
  omega
theorem hgt_O {a : Option Sn} : hgt x ≤ hgt (opO a x) := by
  have t : x.1.2.2 ≤ (opO a x).1.2.2 := hO_r
  unfold hgt
  omega
theorem hgt_O1 : hgt v ≤ hgt (opO (some v) x) := by
  show (v.1.2.2 : Int) ≤ ((max v.1.2.2 x.1.2.2 : Nat) : Int)
  omega
theorem hgt_R {l m lz : Int} (h : ¬ m = 0) : hgt (mnR l m lz v) = hgt v := by
  show (((if m = 0 then 0 else v.1.2.2) : Nat) : Int) = (v.1.2.2 : Int)
  rw [if_neg h]
theorem rec_set {F q RR : Int → Int} {ru m : Int} {n : Nat} (hn : (n : Int) = 2 * m) (hm : 0 ≤ m) (e0 : F = zcpy q (zu RR ru m) 0 (ru + 1) n) : ∀ x, cs_mem (fun i => F (ru + 1 + i)) (F ru) x ↔ cs_mem q m x := by
  have e1 : F ru = m := by rw [e0, zcpy_out (by omega), zu_self]
  have e2 : ∀ i : Int, 0 ≤ i → i < n → F (ru + 1 + i) = q i := fun i h0 h1 => by
    rw [e0, zcpy_in (by omega)]; congr 1; omega
  intro x
  rw [e1]
  constructor
  · intro ⟨i, i0, i1, a, b⟩
    have a' : F (ru + 1 + 2 * i) ≤ x := a
    have b' : x ≤ F (ru + 1 + (2 * i + 1)) := b
    rw [e2 _ (by omega) (by omega)] at a' b'
    exact ⟨i, i0, i1, a', b'⟩
  · intro ⟨i, i0, i1, a, b⟩
    refine ⟨i, i0, i1, ?_, ?_⟩
    · show F (ru + 1 + 2 * i) ≤ x
      rw [e2 _ (by omega) (by omega)]; exact a
    · show x ≤ F (ru + 1 + (2 * i + 1))
      rw [e2 _ (by omega) (by omega)]; exact b
theorem wml_b {c b i e n : Int} (h : wml c b i e) (hi : i + 1 ≤ n) (he : 0 ≤ e) (hb : b + n * e ≤ 808) : c + e ≤ 808 := by
  unfold wml at h
  have t := Int.mul_le_mul_of_nonneg_right hi he
  rw [Int.add_mul, Int.one_mul] at t
  omega
theorem rep_b1 {k v le mo c sz e c0 bq : Int} (hq : prq k v le mo c sz) (hm : mo = 1000) (he : e = pin k v + c) (hb : sz ≤ bq) (h8 : c0 + 2 * bq ≤ 808) (h0 : 2 ≤ c0) : c0 + 2 * e + 2 + le * (2 * e) ≤ 808 := by
  rcases hq.1 with t | t
  · unfold tms mre at t
    rw [if_pos hm, if_pos hm, ← he, Int.add_mul, Int.one_mul] at t
    rw [Int.mul_left_comm le 2 e]
    generalize le * e = P at *
    omega
  · omega
theorem rep_b2 {k v le mo c sz e c0 bq : Int} (hq : prq k v le mo c sz) (hm : ¬ mo = 1000) (he : e = pin k v + c) (hb : sz ≤ bq) (h8 : c0 + 2 * bq ≤ 808) (h0 : 2 ≤ c0) : c0 + (mo - le) * (2 * e + 2) + le * (2 * e) ≤ 808 := by
  rcases hq.1 with t | t
  · unfold tms mre at t
    rw [if_neg hm, if_neg hm, ← he] at t
    rw [Int.mul_left_comm le 2 e, Int.sub_mul, Int.mul_add mo, Int.mul_add le, Int.mul_left_comm mo 2 e, Int.mul_left_comm le 2 e]
    generalize le * e = P at *
    generalize mo * e = R at *
    omega
  · omega
end Fork
def pfi (G : ab_G) (a i : Nat) : Int := fi G a i
/-- what a whole program does -/
def prM (K N O RR : Int → Int) (f : Int) (v : Sn) : Prop := K 1 = 8 ∧ ∃ nn : Prop, Rl (tgC K) N O (phas K O RR) 1 1 f v.1.1 nn
theorem prM.mk {K N O RR : Int → Int} {ru lo hi w2 f : Int} {v : Sn} (h : RP K N O RR ru lo hi 4294967297 w2 v) (h0 : K 0 = 9) (h1 : K 1 = 8) (hf : w2 / 4294967296 = f) : prM K N O RR f v := by
  refine ⟨h1, v.1.2.1, ?_⟩
  have t := h.1 K N O RR ⟨fun _ _ _ => ⟨rfl, rfl, rfl⟩, fun _ _ _ => rfl⟩ h0
  rw [hf] at t
  exact t
