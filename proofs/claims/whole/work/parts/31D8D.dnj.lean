/-! what is read means: the open groups' frames, and the part that was just made -/
def svw (wt : Nat → Wt) : Nat → Int → Prop := fun a => (wt a).2
/-- the part that was just made, once -/
def pnD (G : ab_G) (cs : Nat → Sn) (sv : Nat → Int → Prop) (p : Nat) (ov : Sn) : Prop := onP G cs sv p = ov ∧ (fi G p 9 = 0 → ov.1.2.1) ∧ (fi G p 8 = 0 → nzS ov)
def dnJ (_o : Nat → Nat) (G : ab_G) (_z : Nat) (ps : Nat → Nat) (wt : Nat → Wt) (FS : List Fs) (hi : Nat) (v : Value) (pn : Nat) (ov : Sn) : Prop := ∃ cs : Nat → Sn, dnX G ps cs (svw wt) ∧ frs G ps cs FS hi v ∧ (pn = 0 ∨ (ps pn = 90 ∧ pnD G cs (svw wt) pn ov))
/-- a leaf, once -/
def lfv (G : ab_G) (wt : Nat → Wt) (p : Nat) (ov : Sn) : Prop := onS (fi G p 0) (fi G p 1) (wt p).2 mnI = ov ∧ (fi G p 9 = 0 → ov.1.2.1)
def lve (eu : Nat → Prop) (v : Value) : Prop := match v with
  | .ref b => eu b
  | _ => True
theorem lve_n {eu : Nat → Prop} : lve eu vN := trivial
theorem lve_r {eu : Nat → Prop} {b : Nat} : lve eu (vR b) = eu b := rfl
section DnJ
variable {o o2 : Nat → Nat} {G G2 : ab_G} {z : Nat} {ps ps2 : Nat → Nat} {wt wt2 : Nat → Wt} {FS : List Fs} {hi hi2 : Nat} {v : Value} {pn : Nat} {ov : Sn}
theorem dnJ.same (h : dnJ o G z ps wt FS hi v pn ov) (e : ∀ x, (ps x = 90 ∨ ps x = 94) → G2[x]? = G[x]?) : dnJ o2 G2 z ps wt FS hi v pn ov := by
  obtain ⟨cs, hx, hf, hp⟩ := h
  have ev : ∀ g, (ps g = 90 ∨ ps g = 94) → ∀ i, fv G2 g i = fv G g i := fun g hg i => fv_pf (pf_eq (e g hg))
  have ei : ∀ g, (ps g = 90 ∨ ps g = 94) → ∀ i, fi G2 g i = fi G g i := fun g hg i => fi_pf (pf_eq (e g hg))
  refine ⟨cs, hx.same (fun x hx i _ => pf_eq (e x hx)), frs.tr _ _ _ hf (fun g r hg _ hr _ => ⟨⟨hg, hr⟩, ⟨ev g (.inl hg) 6, ev g (.inl hg) 5⟩, by rw [ev r (.inr hr) 7], by rw [ev r (.inr hr) 6]⟩), ?_⟩
  rcases hp with hp | ⟨h1, h2, h3, h4⟩
  · exact Or.inl hp
  · refine Or.inr ⟨h1, ?_, ?_, ?_⟩
    · rw [← h2]
      unfold onP
      rw [ei pn (.inl h1) 0, ei pn (.inl h1) 1, ev pn (.inl h1) 6]
    · rw [ei pn (.inl h1) 9]; exact h3
    · rw [ei pn (.inl h1) 8]; exact h4
theorem dnJ.fzk (h : dnJ o G z ps wt FS hi v pn ov) (hf : fz ps [] G G2) : dnJ o2 G2 z ps wt FS hi v pn ov := h.same (fun x hx => hf x hx List.not_mem_nil)
theorem dnJ.fr {S : List Nat} {bs : Nat} {gr : Int} {Pr : Int → Prop} {ph : Int} {wq : Nat → Wt} (hf : fx o o2 S G G2) (hp : paI o G z ps wq bs gr Pr ph) (h : dnJ o G z ps wt FS hi v pn ov) (h90 : ¬ 90 ∈ S) (h94 : ¬ 94 ∈ S) : dnJ o2 G2 z ps wt FS hi v pn ov := h.fzk (fz.fx hp hf h90 h94)
theorem dnJ.up (h : dnJ o G z ps wt FS hi v pn ov) (hh : hi ≤ hi2) : dnJ o G z ps wt FS hi2 v pn ov := by
  obtain ⟨cs, hx, hf, hp⟩ := h
  exact ⟨cs, hx, hf.up hh, hp⟩
theorem dnJ.drop (h : dnJ o G z ps wt FS hi v pn ov) : dnJ o G z ps wt FS hi v 0 mnI := by
  obtain ⟨cs, hx, hf, hp⟩ := h
  exact ⟨cs, hx, hf, Or.inl rfl⟩
theorem dnJ.wnp {a : Nat} {E : ab_E} (h : dnJ o G z ps wt FS hi v pn ov) (e : G2 = List.set G a E) (hp : ¬ ps a = 90 ∧ ¬ ps a = 94) : dnJ o G2 z ps wt FS hi v pn ov :=
  h.same (fun x hq => by rw [e, List.getElem?_set_ne (fun t => by rw [← t] at hq; rcases hq with y | y; (exact hp.1 y); (exact hp.2 y))])
theorem dnJ.nil (h : ∀ x, ¬ ps x = 90 ∧ ¬ ps x = 94) : dnJ o G z ps wt [] hi vN 0 mnI := ⟨fun _ => mnI, ⟨fun r hr => absurd hr (h r).2, fun p hp => absurd hp (h p).1⟩, rfl, Or.inl rfl⟩
theorem dnJ.hd (h : dnJ o G z ps wt FS hi v pn ov) (hk : 1 ≤ FS.length) : ∃ (ao : Option Sn) (ro : Sn) (t : List Fs), FS = (ao, ro) :: t := by
  cases FS with
  | nil => exact absurd hk (by decide)
  | cons x t =>
    obtain ⟨ao, ro⟩ := x
    exact ⟨ao, ro, t, rfl⟩
theorem dnJ.leaf {p : Nat} (h : dnJ o G z ps wt FS hi v 0 mnI) (hl : leafp ps ps2 G p) (hw : wtx wt wt2 p) (hv : lfv G wt2 p ov) : dnJ o G z ps2 wt2 FS hi v p ov := by
  obtain ⟨cs, hx, hf, _⟩ := h
  obtain ⟨a1, a2⟩ := hx.leaf (sv2 := svw wt2) hl (fun x e => by unfold svw; rw [hw x e])
  obtain ⟨hn, hp, l1, l2, ⟨_, l8, _⟩, l6, _⟩ := hl
  refine ⟨_, a1, frs.tr _ _ _ hf (fun g r hg _ hr _ => ?_), Or.inr ⟨l2, ?_, hv.2, fun t => by omega⟩⟩
  · have e1 : ¬ g = p := fun t => hp.1 (t ▸ hg)
    have e2 : ¬ r = p := fun t => hp.2 (t ▸ hr)
    exact ⟨⟨by rw [l1 g e1]; exact hg, by rw [l1 r e2]; exact hr⟩, ⟨rfl, rfl⟩, lvA_eq a2 (hn.2 r hr).2, lvS_eq a2 (hn.2 r hr).1⟩
  · rw [← hv.1]
    unfold onP
    rw [l6, lvS_n]
    rfl
end DnJ
section DnJC
variable {o o2 : Nat → Nat} {G G2 : ab_G} {z : Nat} {ps ps2 : Nat → Nat} {wt wt2 : Nat → Wt} {bs : Nat} {gr : Int} {Pr : Int → Prop} {ph : Int} {hi hi2 p g r rn wh : Nat} {kg vg plg flg szg mbg oeg leg mog lag rcg : Int} {rgg oug lsg bfg : Value} {kp vp plp flp szp mbp oep lep mop lap rcp : Int} {rgp oup lsp bfp : Value} {lr br : Value} {sr mr sz2 mb2 oe2 l0 m0 z0 sr2 mr2 : Int} {pl fo nu al rw' psz : Int} {tf fr : List Fr} {ao : Option Sn} {ro ov : Sn} {t FS : List Fs}
theorem fi_mb {a l : Nat} {k v : Int} {rg : Value} {pl fl : Int} {ou ls bf : Value} {sz mb oe le mo la rc : Int} (hc : cc o G a l (paE k v rg pl fl ou ls bf sz mb oe le mo la rc)) (hb : 0 ≤ mb ∧ mb ≤ 1 ∧ 0 ≤ oe ∧ oe ≤ 1 ∧ 0 ≤ la ∧ la ≤ 1) : fi G a 9 = mb ∧ fi G a 10 = oe ∧ fi G a 13 = la := by
  unfold fi pf
  rw [hc.2.2]
  exact ⟨z_ti (by omega), z_ti (by omega), z_ti (by omega)⟩
theorem dnJ.barC (h : dnJ o G z ps wt ((ao, ro) :: t) hi (vR g) 0 mnI) (hn : nref G ps rn) (hp : ¬ ps rn = 90 ∧ ¬ ps rn = 94) (l1 : ∀ x, ¬ x = rn → ps2 x = ps x) (l2 : ps2 rn = 94) (hf : fz ps2 [g, rn] G G2) (hs : szJ o G z ps ((pl, fo, nu, al, rw') :: tf) hi (vR g) wh 0 0) (cg : cc o G g 90 (paE kg vg rgg plg flg oug lsg bfg szg mbg oeg leg mog lag rcg)) (cg2 : cc o2 G2 g 90 (paE kg vg rgg plg flg oug (vR rn) bfg szg mbg oeg leg mog lag rcg)) (cr2 : cc o2 G2 rn 94 (paE 5 0 vN (-1) 0 vN vN lsg 0 1 0 0 0 0 (-1))) : dnJ o2 G2 z ps2 wt ((some (opO ao ro), mnI) :: t) hi (vR g) 0 mnI := by
  obtain ⟨cs, hx, hfr, _⟩ := h
  obtain ⟨cu, hsx, hso, _, _⟩ := hs
  obtain ⟨g', hv, ⟨hg2, hg3⟩, ⟨_, _, f11, f12⟩, _, _, _⟩ := hso
  have hv := vRR hv
  subst hv
  have gr : ∀ x, ps x = 90 ∨ ps x = 94 → ¬ x = rn := fun x hx t => by
    rw [t] at hx
    rcases hx with q | q
    · exact hp.1 q
    · exact hp.2 q
  have hf2 : ∀ x, (ps x = 90 ∨ ps x = 94) → ¬ x = g → G2[x]? = G[x]? := fun x hx e => hf.ex2 x (by rw [l1 x (gr x hx)]; exact hx) e (gr x hx)
  have hg : ∀ i, i < 14 → ¬ i = 6 → pf G2 g i = pf G g i := fun i hi h6 => by
    unfold pf
    rw [cg.2.2, cg2.2.2]
    rcases (show i = 0 ∨ i = 1 ∨ i = 2 ∨ i = 3 ∨ i = 4 ∨ i = 5 ∨ i = 7 ∨ i = 8 ∨ i = 9 ∨ i = 10 ∨ i = 11 ∨ i = 12 ∨ i = 13 by omega) with e | e | e | e | e | e | e | e | e | e | e | e | e <;> (subst e; rfl)
  have r7 : fv G2 rn 7 = fv G g 6 := by rw [(fv_pa cr2).2.2, (fv_pa cg).2.1]
  obtain ⟨a1, a2⟩ := hx.bar hg2 f11 f12 hf2 hn hp l1 l2 hg (fv_pa cr2).2.1 r7 (fi_mb cr2 (by omega)).1
  obtain ⟨g', r, hv, _, ⟨hr, hgr⟩, ⟨c1, c2⟩, htl⟩ := hfr
  have hv := vRR hv
  subst hv
  have rr : ¬ r = rn := fun e => hp.2 (e ▸ hr)
  refine ⟨_, a1, ⟨g, rn, rfl, ⟨by rw [l1 g (gr g (.inl hg2))]; exact hg2, hg3⟩, ⟨l2, (fv_pa cg2).2.1⟩, ⟨?_, ?_⟩, ?_⟩, Or.inl rfl⟩
  · rw [r7.trans hgr, lvA_r, a2 r rr, (hx.1 r hr).1, c1, c2]
  · rw [(fv_pa cr2).2.1, lvS_n]
  · rw [fv_pf (hg 5 (by decide) (by decide))]
    refine frs.tr _ _ _ htl (fun x y hx' hl hy _ => ?_)
    have xg : ¬ x = g := by omega
    have yg : ¬ y = g := fun e => by rw [e, hg2] at hy; omega
    have ex := hf2 x (.inl hx') xg
    have ey := hf2 y (.inr hy) yg
    exact ⟨⟨by rw [l1 x (gr x (.inl hx'))]; exact hx', by rw [l1 y (gr y (.inr hy))]; exact hy⟩, ⟨fv_pf (pf_eq ex), fv_pf (pf_eq ex)⟩, by rw [fv_pf (pf_eq ey)]; exact lvA_eq a2 (hn.2 y hy).2, by rw [fv_pf (pf_eq ey)]; exact lvS_eq a2 (hn.2 y hy).1⟩
theorem dnJ.entC {v : Value} (h : dnJ o G z ps wt FS hi v 0 mnI) (ng : nref G ps g) (nr : nref G ps rn) (hpg : ¬ ps g = 90 ∧ ¬ ps g = 94) (hpr : ¬ ps rn = 90 ∧ ¬ ps rn = 94) (l1 : ∀ x, ¬ x = g → ¬ x = rn → ps2 x = ps x) (lg : ps2 g = 90) (lr : ps2 rn = 94) (hf : fz ps2 [g, rn] G G2) (hw : wtx wt wt2 g) (cg2 : cc o2 G2 g 90 (paE 4 vg rgg plg flg v (vR rn) vN szg mbg oeg 0 0 lag rcg)) (cr2 : cc o2 G2 rn 94 (paE 5 0 vN (-1) 0 vN vN vN 0 1 0 0 0 0 (-1))) (b1 : 0 ≤ vg ∧ vg ≤ 1114111) (b2 : 0 ≤ szg ∧ szg ≤ 1000000) (h1 : hi ≤ g) (h2 : g < hi2) : dnJ o2 G2 z ps2 wt2 ((none, mnI) :: FS) hi2 (vR g) 0 mnI := by
  obtain ⟨cs, hx, hfr, _⟩ := h
  have ne : ∀ x, ps x = 90 ∨ ps x = 94 → ¬ x = g ∧ ¬ x = rn := fun x hx => by
    refine ⟨fun t => ?_, fun t => ?_⟩
    · rw [t] at hx
      rcases hx with q | q
      · exact hpg.1 q
      · exact hpg.2 q
    · rw [t] at hx
      rcases hx with q | q
      · exact hpr.1 q
      · exact hpr.2 q
  have hf2 : ∀ x, (ps x = 90 ∨ ps x = 94) → G2[x]? = G[x]? := fun x hx => hf.ex2 x (by rw [l1 x (ne x hx).1 (ne x hx).2]; exact hx) (ne x hx).1 (ne x hx).2
  obtain ⟨_, _, _, a11, a12⟩ := fi_pa cg2 (by omega) (by omega)
  obtain ⟨a1, a2⟩ := hx.ent (sv2 := svw wt2) (fun x e => by unfold svw; rw [hw x e]) hf2 ng nr l1 lg lr a11 a12 (fv_pa cg2).2.2 (fv_pa cr2).2.1 (fv_pa cr2).2.2 (fi_mb cr2 (by omega)).1
  refine ⟨_, a1, ⟨g, rn, rfl, ⟨lg, h2⟩, ⟨lr, (fv_pa cg2).2.1⟩, ⟨by rw [(fv_pa cr2).2.2, lvA_n], by rw [(fv_pa cr2).2.1, lvS_n]⟩, ?_⟩, Or.inl rfl⟩
  rw [(fv_pa cg2).1]
  refine frs.tr _ _ _ (hfr.up h1) (fun x y hx' _ hy _ => ?_)
  have ex := hf2 x (.inl hx')
  have ey := hf2 y (.inr hy)
  exact ⟨⟨by rw [l1 x (ne x (.inl hx')).1 (ne x (.inl hx')).2]; exact hx', by rw [l1 y (ne y (.inr hy)).1 (ne y (.inr hy)).2]; exact hy⟩, ⟨fv_pf (pf_eq ex), fv_pf (pf_eq ex)⟩, by rw [fv_pf (pf_eq ey)]; exact lvA_eq2 a2 (ng.2 y hy).2 (nr.2 y hy).2, by rw [fv_pf (pf_eq ey)]; exact lvS_eq2 a2 (ng.2 y hy).1 (nr.2 y hy).1⟩
/-- rows that take a byte each -/
def reu (ps : Nat → Nat) (eu : Nat → Prop) (G : ab_G) : Prop := ∀ r, ps r = 94 → fi G r 9 = 0 → lve eu (fv G r 7) → eu r
theorem reu.at {eu : Nat → Prop} {ls bf : Value} {sz mb : Int} (h : reu ps eu G) (hr : ps r = 94) (hc : cc o G r 94 (paE 5 0 vN (-1) 0 vN ls bf sz mb 0 0 0 0 (-1))) (hb : 0 ≤ mb ∧ mb ≤ 1) : mb = 0 → lve eu bf → eu r := fun h1 h2 => h r hr (by rw [(fi_mb hc (by omega)).1]; exact h1) (by rw [(fv_pa hc).2.2]; exact h2)
theorem reu.same {eu : Nat → Prop} {A : List Nat} (h : reu ps eu G) (hf : fz ps A G G2) (hA : ∀ a ∈ A, ps a = 90) : reu ps eu G2 := fun r hr => by
  have e : G2[r]? = G[r]? := hf r (Or.inr hr) (fun t => by have := hA r t; omega)
  rw [fi_pf (pf_eq e), fv_pf (pf_eq e)]
  exact h r hr
def euc (cs : Nat → Sn) : Nat → Prop := fun r => (cs r).1.2.1
theorem dnX.reu {cs : Nat → Sn} {sv : Nat → Int → Prop} (h : dnX G ps cs sv) : reu ps (euc cs) G := fun r hr h1 h2 => by
  obtain ⟨a1, a2, _⟩ := h.1 r hr
  have t := a2 h1
  unfold euc
  rw [a1]
  revert h2
  cases hv : fv G r 7 with
  | ref b =>
    intro h2
    exact ⟨h2, t⟩
  | _ =>
    intro _
    exact t
theorem dnX.cloC {cs : Nat → Sn} {cu : Nat → Int} (hx : dnX G ps cs (svw wt)) (hfr : frs G ps cs ((ao, ro) :: t) hi (vR g)) (hsx : szX G ps cu) (hso : sopn G ps wh (tf.length + 1) hi (vR g)) (hfm : frm G ps cu ((pl, fo, nu, al, rw') :: tf) hi (vR g)) (hf : fz ps [g] G G2) (cg : cc o G g 90 (paE kg vg rgg plg flg oug lsg bfg szg mbg oeg leg mog lag rcg)) (cg2 : cc o2 G2 g 90 (paE kg vg rgg plg flg oug lsg bfg sz2 mb2 oeg leg mog lag rcg)) (b1 : 0 ≤ kg ∧ kg ≤ 5 ∧ -1 ≤ vg ∧ vg ≤ 1114111) (b2 : 0 ≤ szg ∧ szg ≤ 1000000 ∧ 0 ≤ leg ∧ leg ≤ 1000 ∧ 0 ≤ mog ∧ mog ≤ 1000) (b3 : 0 ≤ sz2 ∧ sz2 ≤ 1000000) (b4 : 0 ≤ mb2 ∧ mb2 ≤ 1 ∧ 0 ≤ oeg ∧ oeg ≤ 1 ∧ 0 ≤ lag ∧ lag ≤ 1) (hc : ceq sz2 (szg + lvc cu lsg)) (hm : mb2 = 0 → lve (euc cs) lsg) : dnJ o2 G2 z ps wt t g oug g (mnG nu (opO ao ro)) := by
  obtain ⟨g', hv, ⟨hg2, hg3⟩, ⟨k4, f8, f11, f12⟩, _, _, _⟩ := hso
  have hv := vRR hv
  subst hv
  obtain ⟨g', r', hv, _, ⟨hr', hgr'⟩, ⟨_, _, f1⟩, _, hz, _⟩ := hfm
  have hv := vRR hv
  subst hv
  obtain ⟨g', r, hv, _, ⟨hr, hgr⟩, ⟨c1, c2⟩, htl⟩ := hfr
  have hv := vRR hv
  subst hv
  have er : r' = r := vRR (hgr'.symm.trans hgr)
  subst er
  have hg : ∀ i, i < 14 → ¬ i = 8 → ¬ i = 9 → pf G2 g i = pf G g i := fun i hi h8 h9 => by
    unfold pf
    rw [cg.2.2, cg2.2.2]
    rcases (show i = 0 ∨ i = 1 ∨ i = 2 ∨ i = 3 ∨ i = 4 ∨ i = 5 ∨ i = 6 ∨ i = 7 ∨ i = 10 ∨ i = 11 ∨ i = 12 ∨ i = 13 by omega) with e | e | e | e | e | e | e | e | e | e | e | e <;> (subst e; rfl)
  obtain ⟨a1, a2⟩ := hx.clo hg2 f11 f12 hf.ex1 hg
  have els : lsg = vR r' := (fv_pa cg).2.1.symm.trans hgr
  have ecs : cs r' = opO ao ro := by rw [(hx.1 r' hr).1, c1, c2]
  have eon : onP G2 cs (svw wt) g = mnG nu (opO ao ro) := by
    rw [a2]
    unfold onP
    rw [k4, f1, hgr, lvS_r, ecs, onS_4]
  refine ⟨cs, a1, ?_, Or.inr ⟨hg2, eon, fun q => ?_, fun q => ?_⟩⟩
  · rw [(fv_pa cg).1] at htl
    refine frs.tr _ _ _ htl (fun x y hx' hl hy _ => ?_)
    have xg : ¬ x = g := by omega
    have yg : ¬ y = g := fun e => by rw [e, hg2] at hy; omega
    have ex := hf.ex1 x (.inl hx') xg
    have ey := hf.ex1 y (.inr hy) yg
    exact ⟨⟨hx', hy⟩, ⟨fv_pf (pf_eq ex), fv_pf (pf_eq ex)⟩, by rw [fv_pf (pf_eq ey)], by rw [fv_pf (pf_eq ey)]⟩
  · rw [(fi_mb cg2 b4).1] at q
    have w := hm q
    rw [els, lve_r] at w
    unfold euc at w
    rw [ecs] at w
    exact w
  · obtain ⟨_, _, d8, _, _⟩ := fi_pa cg2 b1 (by omega)
    obtain ⟨_, d1, e8, _, _⟩ := fi_pa cg b1 b2
    rw [d8] at q
    rw [els, lvc_r, (hsx.2.1 r' hr).2] at hc
    have n0 := lvb_0 hsx.1 (fv G r' 7)
    rw [e8] at f8
    have p0 := pin_0 4 (fi G g 1)
    have hall : szg = 0 ∧ fi G r' 8 = 0 ∧ lvb cu (fv G r' 7) = 0 := by
      unfold ceq at hc
      omega
    have hnu : nu = 0 := by
      have t := f8
      rw [hall.1, f1] at t
      unfold pin at t
      rw [if_pos rfl] at t
      by_cases e : nu = 0
      · exact e
      · rw [if_neg e] at t; omega
    have hao : ao = none := by
      rw [← c1]
      have t := hall.2.2
      revert t
      cases hv : fv G r' 7 with
      | ref b =>
        intro t
        have t' : 1 + cu b = 0 := t
        have := hsx.1 b
        omega
      | _ => intro _; rfl
    rw [hnu, hao]
    have w := (hx.1 r' hr).2.2 hall.2.1
    rw [c2] at w
    exact nzS_G w
theorem s8_of (h : ceq sz2 (tms l0 m0 * szp + mre l0 m0)) (h0 : sz2 = 0) (hl : 0 ≤ l0 ∧ l0 ≤ m0) (hs : 0 ≤ szp) : l0 = m0 ∧ ¬ m0 = 1000 ∧ (m0 = 0 ∨ szp = 0) := by
  have hz : tms l0 m0 * szp + mre l0 m0 = 0 := by
    unfold ceq at h
    omega
  unfold tms mre at hz
  by_cases e : m0 = 1000
  · rw [if_pos e, if_pos e] at hz
    have := Int.mul_nonneg (show 0 ≤ l0 + 1 by omega) hs
    omega
  · rw [if_neg e, if_neg e] at hz
    have q := Int.mul_nonneg (show 0 ≤ m0 by omega) hs
    have e2 : m0 * szp = 0 := by omega
    exact ⟨by omega, e, Int.mul_eq_zero.mp e2⟩
theorem dnJ.appC (h : dnJ o G z ps wt ((ao, ro) :: t) hi (vR g) p ov) (hs : szJ o G z ps ((pl, fo, nu, al, rw') :: tf) hi (vR g) wh p psz) (hpa : paI o G z ps wt bs gr Pr ph) (hf : fz ps [r, p] G G2) (cg : cc o G g 90 (paE kg vg rgg plg flg oug (vR r) bfg szg mbg oeg leg mog lag rcg)) (cp : cc o G p 90 (paE kp vp rgp plp flp oup lsp bfp szp mbp oep lep mop lap rcp)) (cr : cc o G r 94 (paE 5 0 vN (-1) 0 vN lr br sr mr 0 0 0 0 (-1))) (cp2 : cc o2 G2 p 90 (paE kp vp rgp plp flp oup lsp lr sz2 mb2 oe2 l0 m0 z0 rcp)) (cr2 : cc o2 G2 r 94 (paE 5 0 vN (-1) 0 vN (vR p) br sr2 mr2 0 0 0 0 (-1))) (hr : ps r = 94) (hhi : hi ≤ p ∧ 0 < p) (b1 : 0 ≤ kp ∧ kp ≤ 5 ∧ -1 ≤ vp ∧ vp ≤ 1114111) (b2 : 0 ≤ szp ∧ szp ≤ 1000000 ∧ 0 ≤ lep ∧ lep ≤ 1000 ∧ 0 ≤ mop ∧ mop ≤ 1000) (b3 : 0 ≤ sz2 ∧ sz2 ≤ 1000000 ∧ 0 ≤ l0 ∧ l0 ≤ m0 ∧ m0 ≤ 1000) (b4 : 0 ≤ sr ∧ sr ≤ 1000000 ∧ 0 ≤ sr2 ∧ sr2 ≤ 1000000) (h8 : ceq sz2 (tms l0 m0 * szp + mre l0 m0)) (h9 : ceq sr2 (sr + sz2)) (b5 : (0 ≤ mbp ∧ mbp ≤ 1 ∧ 0 ≤ oep ∧ oep ≤ 1 ∧ 0 ≤ lap ∧ lap ≤ 1) ∧ (0 ≤ mb2 ∧ mb2 ≤ 1 ∧ 0 ≤ z0 ∧ z0 ≤ 1) ∧ (0 ≤ mr ∧ mr ≤ 1 ∧ 0 ≤ mr2 ∧ mr2 ≤ 1)) (ho : oe2 = mbp) (hm : mb2 = 0 → mbp = 0 ∧ 1 ≤ l0) (hw : mr2 = 0 → mr = 0 ∨ mb2 = 0) : dnJ o2 G2 z ps wt ((ao, mnC ro (mnR l0 m0 z0 ov)) :: t) hi (vR g) 0 mnI := by
  obtain ⟨cs, hx, hfr, hq⟩ := h
  obtain ⟨cu, hsx, hso, hfm, hcl⟩ := hs
  rcases hq with hq | ⟨hq, q1, q2, q3⟩
  · omega
  rcases hcl with hcl | ⟨hcl, _, _⟩
  · omega
  obtain ⟨g', hv, ⟨hg2, hg3⟩, ⟨k4, f8, f11, f12⟩, _, _, _⟩ := hso
  have hv := vRR hv
  subst hv
  obtain ⟨g', r', hv, _, ⟨hr', hgr⟩, ⟨c1, c2⟩, htl⟩ := hfr
  have hv := vRR hv
  subst hv
  have g6 := (fv_pa cg).2.1
  have er : r' = r := vRR (hgr.symm.trans g6)
  subst er
  obtain ⟨a0, a1, a8, _, _⟩ := fi_pa cp b1 b2
  obtain ⟨d0, d1, d8, d11, d12⟩ := fi_pa cp2 b1 (by omega)
  obtain ⟨_, _, r8, _, _⟩ := fi_pa cr (by omega) (by omega)
  obtain ⟨_, _, t8, _, _⟩ := fi_pa cr2 (by omega) (by omega)
  obtain ⟨m9, m10, _⟩ := fi_mb cp (by omega)
  obtain ⟨n9, n10, n13⟩ := fi_mb cp2 (by omega)
  obtain ⟨u9, _, _⟩ := fi_mb cr (by omega)
  obtain ⟨w9, _, _⟩ := fi_mb cr2 (by omega)
  have gp : ¬ p = g := by omega
  obtain ⟨cs2, e1, e2, e3⟩ := hx.app hsx.2.2.2.1 hsx.2.2.2.2 hg2 f11 f12 hq hcl.2.1 hpa.typ gp hf.ex2 hr g6 (by rw [a0, d0]) (by rw [a1, d1]) (by rw [(fv_pa cp).2.1, (fv_pa cp2).2.1]) (by rw [(fv_pa cp2).2.2, (fv_pa cr).2.1]) (fv_pa cr2).2.1 (by rw [(fv_pa cr2).2.2, (fv_pa cr).2.2]) (by rw [q1]; exact q2) (by rw [q1]; exact q3) (by rw [n10, m9]; exact ho) (by rw [n9, m9, d11]; exact hm) (by rw [d8, d11, d12, a8]; exact fun z => s8_of h8 z (by omega) (by omega)) (by rw [w9, u9, n9]; exact hw) (by rw [t8, r8, d8]; intro z; unfold ceq at h9; omega)
  have n94 : ¬ g = r' := fun e => by rw [← e, hg2] at hr; omega
  have eg := hf.ex2 g (.inl hg2) n94 (fun e => gp e.symm)
  have hbr : fv G2 r' 7 = fv G r' 7 := by rw [(fv_pa cr2).2.2, (fv_pa cr).2.2]
  refine ⟨cs2, e1, ⟨g, r', rfl, ⟨hg2, hg3⟩, ⟨hr, (fv_pf (pf_eq eg)).trans hgr⟩, ⟨?_, ?_⟩, ?_⟩, Or.inl rfl⟩
  · rw [hbr, lvA_eq2 e2 (fun e => by have := (hpa.typ.2 r' p hr).2 e; omega) (hsx.2.2.2.1 g r' r' hg2 hr g6)]
    exact c1
  · rw [(fv_pa cr2).2.1, lvS_r, e3, c2, d11, d12, n13, q1]
  · rw [fv_pf (pf_eq eg)]
    refine frs.tr _ _ _ htl (fun x y hx' hl hy hv => ?_)
    have xp : ¬ x = p := by omega
    have xr : ¬ x = r' := fun e => by rw [e, hr] at hx'; omega
    have yr : ¬ y = r' := fun e => by
      have := hsx.2.2.2.2 x g r' hx' hg2 (by rw [← e]; exact hv) g6
      omega
    have yp : ¬ y = p := fun e => by rw [e, hq] at hy; omega
    have ex := hf.ex2 x (.inl hx') xr xp
    have ey := hf.ex2 y (.inr hy) yr yp
    exact ⟨⟨hx', hy⟩, ⟨fv_pf (pf_eq ex), fv_pf (pf_eq ex)⟩, by rw [fv_pf (pf_eq ey)]; exact lvA_eq2 e2 (fun e => by have := (hpa.typ.2 y p hy).2 e; omega) (hsx.2.2.2.1 g y r' hg2 hy g6), by rw [fv_pf (pf_eq ey)]; exact lvS_eq2 e2 (hcl.2.1.2 y hy) (fun e => by have := (hpa.typ.2 y r' hy).1 e; omega)⟩
end DnJC
theorem onN {k v : Int} {S : Int → Prop} {w : Sn} (h : 0 ≤ k ∧ k ≤ 2) : (onS k v S w).1.2.1 := by
  rcases (show k = 0 ∨ k = 1 ∨ k = 2 by omega) with e | e | e
  · rw [e, onS_0]; exact trivial
  · rw [e, onS_1]; exact trivial
  · rw [e, onS_2]; exact trivial
theorem lfv.e {G : ab_G} {wt : Nat → Wt} {p : Nat} {u v : Sn} (h : lfv G wt p u) (e : u = v) : lfv G wt p v := by rw [← e]; exact h
theorem lfv.mk {o : Nat → Nat} {G : ab_G} {wt : Nat → Wt} {p l : Nat} {W : Wt} {k v : Int} {rg : Value} {pl fl : Int} {ou ls bf : Value} {sz mb oe le mo la rc : Int} (hc : cc o G p l (paE k v rg pl fl ou ls bf sz mb oe le mo la rc)) (hw : wt p = W) (b1 : 0 ≤ k ∧ k ≤ 5 ∧ -1 ≤ v ∧ v ≤ 1114111) (b2 : 0 ≤ sz ∧ sz ≤ 1000000 ∧ 0 ≤ le ∧ le ≤ 1000 ∧ 0 ≤ mo ∧ mo ≤ 1000) (b3 : 0 ≤ mb ∧ mb ≤ 1 ∧ 0 ≤ oe ∧ oe ≤ 1 ∧ 0 ≤ la ∧ la ≤ 1) (hm : mb = 0 → (onS k v W.2 mnI).1.2.1) : lfv G wt p (onS k v W.2 mnI) := by
  obtain ⟨a0, a1, _⟩ := fi_pa hc b1 b2
  refine ⟨by rw [a0, a1, hw], fun t => hm ?_⟩
  rw [(fi_mb hc b3).1] at t
  exact t
/-- rows that were gone through -/
def mbe (mb : Int) (eu : Nat → Prop) (rw' : Value) (e9 : Prop) : Prop := mb = 0 → lve eu rw' → e9
def mbf (mb : Int) (e9 : Prop) : Prop := mb = 0 → e9
/-- a pattern that was read: what its rows mean -/
def dnF (_o : Nat → Nat) (G : ab_G) (_z : Nat) (ps : Nat → Nat) (wt : Nat → Wt) (cs : Nat → Sn) (p : Nat) (v : Sn) : Prop := dnX G ps cs (svw wt) ∧ ps p = 90 ∧ lvS cs (fv G p 6) = v
theorem dnF.fr {o o2 : Nat → Nat} {S : List Nat} {G G2 : ab_G} {z : Nat} {ps : Nat → Nat} {wt wq : Nat → Wt} {bs : Nat} {gr : Int} {Pr : Int → Prop} {ph : Int} {cs : Nat → Sn} {p : Nat} {v : Sn} (hf : fx o o2 S G G2) (hp : paI o G z ps wq bs gr Pr ph) (h : dnF o G z ps wt cs p v) (h90 : ¬ 90 ∈ S) (h94 : ¬ 94 ∈ S) : dnF o2 G2 z ps wt cs p v := by
  obtain ⟨h1, h2, h3⟩ := h
  have q := fz.fx hp hf h90 h94
  refine ⟨h1.same (fun x hx i _ => pf_eq (q x hx List.not_mem_nil)), h2, ?_⟩
  rw [fv_pf (pf_eq (q p (.inl h2) List.not_mem_nil))]
  exact h3
theorem dnX.finC {o o2 : Nat → Nat} {G G2 : ab_G} {z : Nat} {ps : Nat → Nat} {wt : Nat → Wt} {hi g wh k : Nat} {cs : Nat → Sn} {ao : Option Sn} {ro : Sn} {t : List Fs} {kg vg plg flg szg mbg oeg leg mog lag rcg sz2 mb2 : Int} {rgg oug lsg bfg : Value} (hx : dnX G ps cs (svw wt)) (hfr : frs G ps cs ((ao, ro) :: t) hi (vR g)) (hso : sopn G ps wh (k + 1) hi (vR g)) (hf : fz ps [g] G G2) (cg : cc o G g 90 (paE kg vg rgg plg flg oug lsg bfg szg mbg oeg leg mog lag rcg)) (cg2 : cc o2 G2 g 90 (paE kg vg rgg plg flg oug lsg bfg sz2 mb2 oeg leg mog lag rcg)) : dnF o2 G2 z ps wt cs g (opO ao ro) := by
  obtain ⟨g', hv, ⟨hg2, hg3⟩, ⟨k4, f8, f11, f12⟩, _, _, _⟩ := hso
  have hv := vRR hv
  subst hv
  obtain ⟨g', r, hv, _, ⟨hr, hgr⟩, ⟨c1, c2⟩, htl⟩ := hfr
  have hv := vRR hv
  subst hv
  have hg : ∀ i, i < 14 → ¬ i = 8 → ¬ i = 9 → pf G2 g i = pf G g i := fun i hi h8 h9 => by
    unfold pf
    rw [cg.2.2, cg2.2.2]
    rcases (show i = 0 ∨ i = 1 ∨ i = 2 ∨ i = 3 ∨ i = 4 ∨ i = 5 ∨ i = 6 ∨ i = 7 ∨ i = 10 ∨ i = 11 ∨ i = 12 ∨ i = 13 by omega) with e | e | e | e | e | e | e | e | e | e | e | e <;> (subst e; rfl)
  obtain ⟨a1, a2⟩ := hx.clo hg2 f11 f12 hf.ex1 hg
  refine ⟨a1, hg2, ?_⟩
  rw [fv_pf (hg 6 (by decide) (by decide) (by decide)), hgr, lvS_r, (hx.1 r hr).1, c1, c2]
theorem szJ.toF {o : Nat → Nat} {G : ab_G} {z : Nat} {ps : Nat → Nat} {fr : List Fr} {hi : Nat} {v : Value} {wh p : Nat} {s : Int} (h : szJ o G z ps fr hi v wh p s) (h0 : 0 < p) : ∃ cu : Nat → Int, szF o G z ps cu p := by
  obtain ⟨cu, hx, _, _, hp⟩ := h
  rcases hp with hp | ⟨hp, _⟩
  · omega
  · exact ⟨cu, szF.mk hx hp⟩
