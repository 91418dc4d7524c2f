/-! the layer over whole numbers: ints as Int, arrays as functions on Int, cells with labels (two cells of different labels are two) -/
abbrev vz (z : Int) : Value := .int (Int32.ofInt z)
abbrev vj (z : Int) : Value := .long (Int64.ofInt z)
abbrev za (n : Nat) (f : Int → Int) : ab_E := .inl (0, n, .inl (fun i : Nat => Int32.ofInt (f (i : Int))))
abbrev zb (n : Nat) (f : Int → Int) : ab_E := .inl (1, n, .inl (fun i : Nat => Int32.ofInt (f (i : Int))))
abbrev zl (n : Nat) (f : Int → Int) : ab_E := .inl (2, n, .inr (.inl (fun i : Nat => Int64.ofInt (f (i : Int)))))
def zu (f : Int → Int) (i v : Int) : Int → Int := fun j => if j = i then v else f j
theorem zu_self (f : Int → Int) (i v : Int) : zu f i v i = v := if_pos rfl
theorem zu_ne {f : Int → Int} {i j v : Int} (h : j ≠ i) : zu f i v j = f j := if_neg h
/-- a row with a stretch of another laid over it -/
def zcpy (f g : Int → Int) (sp dp n : Int) : Int → Int := fun k => if dp ≤ k ∧ k < dp + n then f (sp + (k - dp)) else g k
def zfill (g : Int → Int) (a b v : Int) : Int → Int := fun k => if a ≤ k ∧ k < b then v else g k
/-- what a row that grows has made so far: twice its room, and once more at its limit -/
def zT (n : Nat) (lim : Int) : Nat := 2 * n + if (n : Int) = lim then n else 0
theorem zfill_0 (g : Int → Int) (a v : Int) : zfill g a a v = g := by
  funext k
  unfold zfill
  rw [if_neg (by omega)]
theorem zfill_s {g : Int → Int} {a i v : Int} (h : a ≤ i) : zu (zfill g a i v) i v = zfill g a (i + 1) v := by
  funext k
  unfold zu zfill
  by_cases e : k = i
  · rw [if_pos e, if_pos (by omega)]
  · rw [if_neg e]
    by_cases q : a ≤ k ∧ k < i
    · rw [if_pos q, if_pos (by omega)]
    · rw [if_neg q, if_neg (by omega)]
theorem zfill_in {g : Int → Int} {a b v k : Int} (h : a ≤ k ∧ k < b) : zfill g a b v k = v := if_pos h
theorem zfill_out {g : Int → Int} {a b v k : Int} (h : ¬ (a ≤ k ∧ k < b)) : zfill g a b v k = g k := if_neg h
theorem zcpy_in {f g : Int → Int} {s d n k : Int} (h : d ≤ k ∧ k < d + n) : zcpy f g s d n k = f (s + (k - d)) := if_pos h
theorem zcpy_out {f g : Int → Int} {s d n k : Int} (h : ¬ (d ≤ k ∧ k < d + n)) : zcpy f g s d n k = g k := if_neg h
theorem z_ti {x : Int} (h : -2147483648 ≤ x ∧ x ≤ 2147483647) : (Int32.ofInt x).toInt = x := Int32.toInt_ofInt_of_le (by omega) (by omega)
theorem z_lt {x y : Int} (hx : -2147483648 ≤ x ∧ x ≤ 2147483647) (hy : -2147483648 ≤ y ∧ y ≤ 2147483647) : Int32.ofInt x < Int32.ofInt y ↔ x < y := by rw [Int32.lt_iff_toInt_lt, z_ti hx, z_ti hy]
theorem z_le {x y : Int} (hx : -2147483648 ≤ x ∧ x ≤ 2147483647) (hy : -2147483648 ≤ y ∧ y ≤ 2147483647) : Int32.ofInt x ≤ Int32.ofInt y ↔ x ≤ y := by rw [Int32.le_iff_toInt_le, z_ti hx, z_ti hy]
theorem z_eq {x y : Int} (hx : -2147483648 ≤ x ∧ x ≤ 2147483647) (hy : -2147483648 ≤ y ∧ y ≤ 2147483647) : Int32.ofInt x = Int32.ofInt y ↔ x = y := by rw [← Int32.toInt_inj, z_ti hx, z_ti hy]
theorem z_0 : (0 : Int32) = Int32.ofInt 0 := by decide
theorem z_tn {i : Int} (h : 0 ≤ i ∧ i ≤ 2147483647) : (Int32.ofInt i).toNatClampNeg = i.toNat := Int32.toNatClampNeg_ofInt_of_le (by omega) (by omega)
theorem z_in {i : Int} {n : Nat} (h : 0 ≤ i ∧ i < (n : Int) ∧ i ≤ 2147483647) : vp_in (Int32.ofInt i) n := vp_in_iff.mpr (by rw [z_ti ⟨by omega, by omega⟩]; exact ⟨h.1, h.2.1⟩)
theorem z_upd {f : Int → Int} {i v : Int} (h : 0 ≤ i ∧ i ≤ 2147483647) : upd (fun k : Nat => Int32.ofInt (f (k : Int))) (Int32.ofInt i).toNatClampNeg (Int32.ofInt v) = fun k : Nat => Int32.ofInt (zu f i v (k : Int)) := by
  funext k
  rw [z_tn h]
  unfold upd zu
  by_cases e : k = i.toNat
  · rw [if_pos e, if_pos (by omega)]
  · rw [if_neg e, if_neg (by omega)]
theorem z_cpy {f g : Int → Int} {sp dp n : Int} (h1 : 0 ≤ sp ∧ sp ≤ 2147483647) (h2 : 0 ≤ dp ∧ dp ≤ 2147483647) (h3 : 0 ≤ n ∧ n ≤ 2147483647) : va_cpy (fun k : Nat => Int32.ofInt (f (k : Int))) (fun k : Nat => Int32.ofInt (g (k : Int))) (Int32.ofInt sp).toNatClampNeg (Int32.ofInt dp).toNatClampNeg (Int32.ofInt n).toNatClampNeg = fun k : Nat => Int32.ofInt (zcpy f g sp dp n (k : Int)) := by
  funext k
  rw [z_tn h1, z_tn h2, z_tn h3]
  unfold va_cpy zcpy
  by_cases e : dp.toNat ≤ k ∧ k < dp.toNat + n.toNat
  · rw [if_pos e, if_pos (by omega)]
    show Int32.ofInt (f ((sp.toNat + (k - dp.toNat) : Nat) : Int)) = Int32.ofInt (f (sp + ((k : Int) - dp)))
    rw [show ((sp.toNat + (k - dp.toNat) : Nat) : Int) = sp + ((k : Int) - dp) by omega]
  · rw [if_neg e, if_neg (by omega)]
/-- two places, said so that arithmetic doesn't look at it -/
def nq (a b : Nat) : Prop := a ≠ b
theorem nq.s {a b : Nat} (h : nq a b) : b ≠ a := Ne.symm h
/-- a cell with its label -/
def cc (o : Nat → Nat) (G : ab_G) (a l : Nat) (E : ab_E) : Prop := o a = l ∧ (ab_n0 ≤ l → ab_n0 ≤ a) ∧ G[a]? = some E
/-- what a stretch of a run leaves: labels as they were, all cells but those of some labels as they were -/
def fx (o o2 : Nat → Nat) (S : List Nat) (G G2 : ab_G) : Prop := G.length ≤ G2.length ∧ (∀ a, a < G.length → o2 a = o a) ∧ ∀ a c, ¬ o a ∈ S → G[a]? = some c → G2[a]? = some c
def ol (o : Nat → Nat) (n l : Nat) : Nat → Nat := fun a => if a = n then l else o a
theorem g_lt {G : ab_G} {a : Nat} {E : ab_E} (h : G[a]? = some E) : a < G.length := (List.getElem?_eq_some_iff.mp h).1
theorem cc.lt {o : Nat → Nat} {G : ab_G} {a l : Nat} {E : ab_E} (h : cc o G a l E) : a < G.length := g_lt h.2.2
theorem cc.n0 {o : Nat → Nat} {G : ab_G} {a l : Nat} {E : ab_E} (h : cc o G a l E) (hl : ab_n0 ≤ l) : ab_n0 ≤ G.length := Nat.le_of_lt (Nat.lt_of_le_of_lt (h.2.1 hl) h.lt)
theorem cc.ne {o : Nat → Nat} {G : ab_G} {a b l m : Nat} {E F : ab_E} (h : cc o G a l E) (h2 : cc o G b m F) (hn : l ≠ m) : a ≠ b := fun e => hn (by rw [← h.1, ← h2.1, e])
theorem cc.keep {o : Nat → Nat} {G G2 : ab_G} {a b l m : Nat} {E E2 F : ab_E} (h : cc o G a l E) (ha : cc o G b m F) (e : G2 = List.set G b E2) (hn : m ≠ l) : cc o G2 a l E := ⟨h.1, h.2.1, by rw [e, List.getElem?_set_ne (ha.ne h hn)]; exact h.2.2⟩
theorem cc.keep' {o : Nat → Nat} {G G2 : ab_G} {a b l : Nat} {E E2 : ab_E} (h : cc o G a l E) (e : G2 = List.set G b E2) (hn : b ≠ a) : cc o G2 a l E := ⟨h.1, h.2.1, by rw [e, List.getElem?_set_ne hn]; exact h.2.2⟩
theorem cc.kept {o : Nat → Nat} {G G2 : ab_G} {a l : Nat} {E E2 : ab_E} (h : cc o G a l E) (e : G2 = List.set G a E2) : cc o G2 a l E2 := ⟨h.1, h.2.1, by rw [e]; exact List.getElem?_set_self h.lt⟩
theorem cc.akeep {o : Nat → Nat} {G G2 : ab_G} {a l k : Nat} {E E2 : ab_E} (h : cc o G a l E) (e : G2 = G ++ [E2]) : cc (ol o G.length k) G2 a l E := ⟨by unfold ol; rw [if_neg (Nat.ne_of_lt h.lt)]; exact h.1, h.2.1, by rw [e, List.getElem?_append_left h.lt]; exact h.2.2⟩
theorem cc.anew {o : Nat → Nat} {G G2 : ab_G} {E : ab_E} (k : Nat) (e : G2 = G ++ [E]) (hn : ab_n0 ≤ G.length) : cc (ol o G.length k) G2 G.length k E := ⟨if_pos rfl, fun _ => hn, by rw [e]; exact List.getElem?_concat_length⟩
theorem fx.rf {o : Nat → Nat} {S : List Nat} {G : ab_G} : fx o o S G G := ⟨Nat.le_refl _, fun _ _ => rfl, fun _ _ _ h => h⟩
theorem fx.get {o o2 : Nat → Nat} {S : List Nat} {G G2 : ab_G} {a l : Nat} {E : ab_E} (h : fx o o2 S G G2) (hc : cc o G a l E) (hn : ¬ l ∈ S) : cc o2 G2 a l E := ⟨(h.2.1 a hc.lt).trans hc.1, hc.2.1, h.2.2 a E (by rw [hc.1]; exact hn) hc.2.2⟩
theorem fx.tr {o o2 o3 : Nat → Nat} {S T : List Nat} {G G2 G3 : ab_G} (h : fx o o2 S G G2) (h2 : fx o2 o3 T G2 G3) (hs : ∀ l ∈ T, l ∈ S) : fx o o3 S G G3 := by
  refine ⟨Nat.le_trans h.1 h2.1, fun a ha => (h2.2.1 a (Nat.lt_of_lt_of_le ha h.1)).trans (h.2.1 a ha), fun a c hn hg => ?_⟩
  refine h2.2.2 a c (fun q => hn (hs _ ?_)) (h.2.2 a c hn hg)
  rw [← h.2.1 a (g_lt hg)]
  exact q
theorem fx.wr {o o2 : Nat → Nat} {S : List Nat} {G G1 G2 : ab_G} {a l : Nat} {E F : ab_E} (h : fx o o2 S G G1) (hc : cc o2 G1 a l F) (e : G2 = List.set G1 a E) (hm : l ∈ S) : fx o o2 S G G2 := by
  refine ⟨by rw [e, List.length_set]; exact h.1, h.2.1, fun b c hb hg => ?_⟩
  have h3 := h.2.2 b c hb hg
  have : a ≠ b := fun q => hb (by rw [← h.2.1 b (g_lt hg), ← q, hc.1]; exact hm)
  rw [e, List.getElem?_set_ne this]
  exact h3
theorem fx.wn {o o2 : Nat → Nat} {S : List Nat} {G G1 G2 : ab_G} {a : Nat} {E : ab_E} (h : fx o o2 S G G1) (hge : G.length ≤ a) (e : G2 = List.set G1 a E) : fx o o2 S G G2 := by
  refine ⟨by rw [e, List.length_set]; exact h.1, h.2.1, fun b c hb hg => ?_⟩
  rw [e, List.getElem?_set_ne (Nat.ne_of_gt (Nat.lt_of_lt_of_le (g_lt hg) hge))]
  exact h.2.2 b c hb hg
theorem fx.ap {o o2 : Nat → Nat} {S : List Nat} {G G1 G2 : ab_G} {E : ab_E} {k : Nat} (h : fx o o2 S G G1) (e : G2 = G1 ++ [E]) : fx o (ol o2 G1.length k) S G G2 := by
  refine ⟨by rw [e, List.length_append]; exact Nat.le_trans h.1 (Nat.le_add_right _ _), fun a ha => ?_, fun b c hb hg => ?_⟩
  · unfold ol
    rw [if_neg (Nat.ne_of_lt (Nat.lt_of_lt_of_le ha h.1))]
    exact h.2.1 a ha
  · rw [e, List.getElem?_append_left (Nat.lt_of_lt_of_le (g_lt hg) h.1)]
    exact h.2.2 b c hb hg
theorem fx.more {o o2 : Nat → Nat} {S T : List Nat} {G G2 : ab_G} (h : fx o o2 S G G2) (hs : ∀ l ∈ S, l ∈ T) : fx o o2 T G G2 := fx.tr fx.rf h hs
theorem z_len {G G2 : ab_G} {a : Nat} {E : ab_E} (e : G2 = List.set G a E) : G2.length = G.length := by rw [e, List.length_set]
theorem z_sl {o : Nat → Nat} {G G2 : ab_G} {a l : Nat} {E F : ab_E} (h : cc o G a l F) (e : G2 = List.set G a E) (hz : ab_sz E = ab_sz F) : ab_slots G2 = ab_slots G := by rw [e, ab_slots_set h.2.2 hz]
theorem z_alen {G G2 : ab_G} {E : ab_E} (e : G2 = G ++ [E]) : G2.length = G.length + 1 := by rw [e, List.length_append]; rfl
theorem z_asl {G G2 : ab_G} {E : ab_E} (e : G2 = G ++ [E]) (hn : ab_n0 ≤ G.length) : ab_slots G2 = ab_slots G + ab_sz E := by rw [e, ab_slots_app _ hn]
section ZRows
variable {X : ab_X} {M : ab_Y} {d : Nat} {G : ab_G} {pc : Nat} {L : List (Option Value)} {st : List Value} {Q : Outcome → ab_G → Prop}
theorem zz_iconst {n : Int} (hd : decode M.2.2.1 pc = .ok (.iconst n, 1)) (k : ab_W X M d G (pc + 1) L (vz n :: st) Q) : ab_W X M d G pc L st Q := ab_iconst hd rfl k
theorem zz_bipush {n : Int} (hd : decode M.2.2.1 pc = .ok (.bipush n, 2)) (hv : (Int8.ofInt n).toInt32 = Int32.ofInt n) (k : ab_W X M d G (pc + 2) L (vz n :: st) Q) : ab_W X M d G pc L st Q := ab_bipush hd hv k
theorem zz_sipush {n : Int} (hd : decode M.2.2.1 pc = .ok (.sipush n, 3)) (hv : (Int16.ofInt n).toInt32 = Int32.ofInt n) (k : ab_W X M d G (pc + 3) L (vz n :: st) Q) : ab_W X M d G pc L st Q := ab_sipush hd hv k
theorem zz_ldc {i : Nat} {v : Int32} (z : Int) (hd : decode M.2.2.1 pc = .ok (.ldc i, 2)) (hw : Cond.constant M.1 i v ∈ lw_tbl) (hv : v = Int32.ofInt z) (k : ab_W X M d G (pc + 2) L (vz z :: st) Q) : ab_W X M d G pc L st Q := ab_ldc hd hw (hv ▸ k)
theorem zz_ldcw {i : Nat} {v : Int32} (z : Int) (hd : decode M.2.2.1 pc = .ok (.ldc_w i, 3)) (hw : Cond.constant M.1 i v ∈ lw_tbl) (hv : v = Int32.ofInt z) (k : ab_W X M d G (pc + 3) L (vz z :: st) Q) : ab_W X M d G pc L st Q := ab_ldcw hd hw (hv ▸ k)
theorem zz_iinc {i : Nat} {n x : Int} (hd : decode M.2.2.1 pc = .ok (.iinc i n, 3)) (hl : L[i]? = some (some (vz x))) (hi : i < L.length) (hm : i < M.2.2.2.1) (hn : ab_nl L i = true) (kk : ab_W X M d G (pc + 3) (L.set i (some (vz (x + n)))) st Q) : ab_W X M d G pc L st Q := ab_iinc hd hl (Int32.ofInt_add x n).symm hi hm hn kk
theorem zz_iadd {x y : Int} (hd : decode M.2.2.1 pc = .ok (.iadd, 1)) (k : ab_W X M d G (pc + 1) L (vz (x + y) :: st) Q) : ab_W X M d G pc L (vz y :: vz x :: st) Q := ab_iadd hd (ab_topi (Int32.ofInt_add x y).symm k)
theorem zz_isub {x y : Int} (hd : decode M.2.2.1 pc = .ok (.isub, 1)) (k : ab_W X M d G (pc + 1) L (vz (x - y) :: st) Q) : ab_W X M d G pc L (vz y :: vz x :: st) Q := ab_isub hd (ab_topi (Int32.ofInt_sub x y).symm k)
theorem zz_imul {x y : Int} (hd : decode M.2.2.1 pc = .ok (.imul, 1)) (k : ab_W X M d G (pc + 1) L (vz (x * y) :: st) Q) : ab_W X M d G pc L (vz y :: vz x :: st) Q := ab_imul hd (ab_topi (Int32.ofInt_mul x y).symm k)
theorem zz_ineg {x : Int} (hd : decode M.2.2.1 pc = .ok (.ineg, 1)) (k : ab_W X M d G (pc + 1) L (vz (-x) :: st) Q) : ab_W X M d G pc L (vz x :: st) Q := ab_ineg hd (ab_topi (Int32.ofInt_neg x).symm k)
theorem zz_top {x y : Int} (h : x = y) (k : ab_W X M d G pc L (vz y :: st) Q) : ab_W X M d G pc L (vz x :: st) Q := h ▸ k
theorem zz_idiv {x y : Int} (hd : decode M.2.2.1 pc = .ok (.idiv, 1)) (h : 0 ≤ x ∧ x ≤ 2147483647 ∧ 0 < y ∧ y ≤ 2147483647) (k : ab_W X M d G (pc + 1) L (vz (x / y) :: st) Q) : ab_W X M d G pc L (vz y :: vz x :: st) Q := by
  refine ab_idiv hd (fun e => ?_) (ab_topi ?_ k)
  · rw [z_0, z_eq ⟨by omega, by omega⟩ (by decide)] at e
    omega
  · have e := Int32.ofInt_tdiv (a := x) (b := y) (show (-2147483648 : Int) ≤ x by omega) (show x ≤ (2147483647 : Int) by omega) (show (-2147483648 : Int) ≤ y by omega) (show y ≤ (2147483647 : Int) by omega)
    rw [← e, Int.tdiv_eq_ediv_of_nonneg h.1]
theorem zz_icmp_lt {x y : Int} {off : Int} {tgt : Nat} (hd : decode M.2.2.1 pc = .ok (.if_icmp .lt off, 3)) (ht : (pc : Int) + off = (tgt : Int)) (hx : -2147483648 ≤ x ∧ x ≤ 2147483647) (hy : -2147483648 ≤ y ∧ y ≤ 2147483647) (kt : x < y → ab_W X M d G tgt L st Q) (kf : y ≤ x → ab_W X M d G (pc + 3) L st Q) : ab_W X M d G pc L (vz y :: vz x :: st) Q :=
  ab_icmp_lt hd ht (fun h => kt ((z_lt hx hy).mp h)) (fun h => kf (by have q := mt (z_lt hx hy).mpr h; omega))
theorem zz_if_lt {x : Int} {off : Int} {tgt : Nat} (hd : decode M.2.2.1 pc = .ok (.ifCond .lt off, 3)) (ht : (pc : Int) + off = (tgt : Int)) (hx : -2147483648 ≤ x ∧ x ≤ 2147483647) (kt : x < 0 → ab_W X M d G tgt L st Q) (kf : 0 ≤ x → ab_W X M d G (pc + 3) L st Q) : ab_W X M d G pc L (vz x :: st) Q := by
  have hy : -2147483648 ≤ (0 : Int) ∧ (0 : Int) ≤ 2147483647 := by decide
  exact ab_if_lt hd ht (fun h => kt ((z_lt hx hy).mp h)) (fun h => kf (by have q := mt (z_lt hx hy).mpr h; omega))
theorem zz_icmp_ge {x y : Int} {off : Int} {tgt : Nat} (hd : decode M.2.2.1 pc = .ok (.if_icmp .ge off, 3)) (ht : (pc : Int) + off = (tgt : Int)) (hx : -2147483648 ≤ x ∧ x ≤ 2147483647) (hy : -2147483648 ≤ y ∧ y ≤ 2147483647) (kt : y ≤ x → ab_W X M d G tgt L st Q) (kf : x < y → ab_W X M d G (pc + 3) L st Q) : ab_W X M d G pc L (vz y :: vz x :: st) Q :=
  ab_icmp_ge hd ht (fun h => kt ((z_le hy hx).mp h)) (fun h => kf (by have q := mt (z_le hy hx).mpr h; omega))
theorem zz_if_ge {x : Int} {off : Int} {tgt : Nat} (hd : decode M.2.2.1 pc = .ok (.ifCond .ge off, 3)) (ht : (pc : Int) + off = (tgt : Int)) (hx : -2147483648 ≤ x ∧ x ≤ 2147483647) (kt : 0 ≤ x → ab_W X M d G tgt L st Q) (kf : x < 0 → ab_W X M d G (pc + 3) L st Q) : ab_W X M d G pc L (vz x :: st) Q := by
  have hy : -2147483648 ≤ (0 : Int) ∧ (0 : Int) ≤ 2147483647 := by decide
  exact ab_if_ge hd ht (fun h => kt ((z_le hy hx).mp h)) (fun h => kf (by have q := mt (z_le hy hx).mpr h; omega))
theorem zz_icmp_gt {x y : Int} {off : Int} {tgt : Nat} (hd : decode M.2.2.1 pc = .ok (.if_icmp .gt off, 3)) (ht : (pc : Int) + off = (tgt : Int)) (hx : -2147483648 ≤ x ∧ x ≤ 2147483647) (hy : -2147483648 ≤ y ∧ y ≤ 2147483647) (kt : y < x → ab_W X M d G tgt L st Q) (kf : x ≤ y → ab_W X M d G (pc + 3) L st Q) : ab_W X M d G pc L (vz y :: vz x :: st) Q :=
  ab_icmp_gt hd ht (fun h => kt ((z_lt hy hx).mp h)) (fun h => kf (by have q := mt (z_lt hy hx).mpr h; omega))
theorem zz_if_gt {x : Int} {off : Int} {tgt : Nat} (hd : decode M.2.2.1 pc = .ok (.ifCond .gt off, 3)) (ht : (pc : Int) + off = (tgt : Int)) (hx : -2147483648 ≤ x ∧ x ≤ 2147483647) (kt : 0 < x → ab_W X M d G tgt L st Q) (kf : x ≤ 0 → ab_W X M d G (pc + 3) L st Q) : ab_W X M d G pc L (vz x :: st) Q := by
  have hy : -2147483648 ≤ (0 : Int) ∧ (0 : Int) ≤ 2147483647 := by decide
  exact ab_if_gt hd ht (fun h => kt ((z_lt hy hx).mp h)) (fun h => kf (by have q := mt (z_lt hy hx).mpr h; omega))
theorem zz_icmp_le {x y : Int} {off : Int} {tgt : Nat} (hd : decode M.2.2.1 pc = .ok (.if_icmp .le off, 3)) (ht : (pc : Int) + off = (tgt : Int)) (hx : -2147483648 ≤ x ∧ x ≤ 2147483647) (hy : -2147483648 ≤ y ∧ y ≤ 2147483647) (kt : x ≤ y → ab_W X M d G tgt L st Q) (kf : y < x → ab_W X M d G (pc + 3) L st Q) : ab_W X M d G pc L (vz y :: vz x :: st) Q :=
  ab_icmp_le hd ht (fun h => kt ((z_le hx hy).mp h)) (fun h => kf (by have q := mt (z_le hx hy).mpr h; omega))
theorem zz_if_le {x : Int} {off : Int} {tgt : Nat} (hd : decode M.2.2.1 pc = .ok (.ifCond .le off, 3)) (ht : (pc : Int) + off = (tgt : Int)) (hx : -2147483648 ≤ x ∧ x ≤ 2147483647) (kt : x ≤ 0 → ab_W X M d G tgt L st Q) (kf : 0 < x → ab_W X M d G (pc + 3) L st Q) : ab_W X M d G pc L (vz x :: st) Q := by
  have hy : -2147483648 ≤ (0 : Int) ∧ (0 : Int) ≤ 2147483647 := by decide
  exact ab_if_le hd ht (fun h => kt ((z_le hx hy).mp h)) (fun h => kf (by have q := mt (z_le hx hy).mpr h; omega))
theorem zz_icmp_eq {x y : Int} {off : Int} {tgt : Nat} (hd : decode M.2.2.1 pc = .ok (.if_icmp .eq off, 3)) (ht : (pc : Int) + off = (tgt : Int)) (hx : -2147483648 ≤ x ∧ x ≤ 2147483647) (hy : -2147483648 ≤ y ∧ y ≤ 2147483647) (kt : x = y → ab_W X M d G tgt L st Q) (kf : ¬ x = y → ab_W X M d G (pc + 3) L st Q) : ab_W X M d G pc L (vz y :: vz x :: st) Q :=
  ab_icmp_eq hd ht (fun h => kt ((z_eq hx hy).mp h)) (fun h => kf (fun e => h ((z_eq hx hy).mpr e)))
theorem zz_if_eq {x : Int} {off : Int} {tgt : Nat} (hd : decode M.2.2.1 pc = .ok (.ifCond .eq off, 3)) (ht : (pc : Int) + off = (tgt : Int)) (hx : -2147483648 ≤ x ∧ x ≤ 2147483647) (kt : x = 0 → ab_W X M d G tgt L st Q) (kf : ¬ x = 0 → ab_W X M d G (pc + 3) L st Q) : ab_W X M d G pc L (vz x :: st) Q := by
  have hy : -2147483648 ≤ (0 : Int) ∧ (0 : Int) ≤ 2147483647 := by decide
  exact ab_if_eq hd ht (fun h => kt ((z_eq hx hy).mp h)) (fun h => kf (fun e => h ((z_eq hx hy).mpr e)))
theorem zz_icmp_ne {x y : Int} {off : Int} {tgt : Nat} (hd : decode M.2.2.1 pc = .ok (.if_icmp .ne off, 3)) (ht : (pc : Int) + off = (tgt : Int)) (hx : -2147483648 ≤ x ∧ x ≤ 2147483647) (hy : -2147483648 ≤ y ∧ y ≤ 2147483647) (kt : ¬ x = y → ab_W X M d G tgt L st Q) (kf : x = y → ab_W X M d G (pc + 3) L st Q) : ab_W X M d G pc L (vz y :: vz x :: st) Q :=
  ab_icmp_ne hd ht (fun h => kt (fun e => h ((z_eq hx hy).mpr e))) (fun h => kf ((z_eq hx hy).mp h))
theorem zz_if_ne {x : Int} {off : Int} {tgt : Nat} (hd : decode M.2.2.1 pc = .ok (.ifCond .ne off, 3)) (ht : (pc : Int) + off = (tgt : Int)) (hx : -2147483648 ≤ x ∧ x ≤ 2147483647) (kt : ¬ x = 0 → ab_W X M d G tgt L st Q) (kf : x = 0 → ab_W X M d G (pc + 3) L st Q) : ab_W X M d G pc L (vz x :: st) Q := by
  have hy : -2147483648 ≤ (0 : Int) ∧ (0 : Int) ≤ 2147483647 := by decide
  exact ab_if_ne hd ht (fun h => kt (fun e => h ((z_eq hx hy).mpr e))) (fun h => kf ((z_eq hx hy).mp h))
theorem zz_iald {o : Nat → Nat} {a n l : Nat} {f : Int → Int} {i : Int} (hd : decode M.2.2.1 pc = .ok (.iaload, 1)) (hG : cc o G a l (za n f)) (hi : 0 ≤ i ∧ i < (n : Int) ∧ i ≤ 2147483647) (kk : ab_W X M d G (pc + 1) L (vz (f i) :: st) Q) : ab_W X M d G pc L (vz i :: .ref a :: st) Q := by
  refine ab_iald hd hG.2.2 (z_in hi) ?_
  have e : ((Int32.ofInt i).toNatClampNeg : Int) = i := by rw [z_tn ⟨hi.1, hi.2.2⟩]; omega
  rw [e]
  exact kk
theorem zz_zald {o : Nat → Nat} {a n l : Nat} {f : Int → Int} {i : Int} (hd : decode M.2.2.1 pc = .ok (.baload, 1)) (hG : cc o G a l (zb n f)) (hi : 0 ≤ i ∧ i < (n : Int) ∧ i ≤ 2147483647) (kk : ab_W X M d G (pc + 1) L (vz (f i) :: st) Q) : ab_W X M d G pc L (vz i :: .ref a :: st) Q := by
  refine ab_zald hd hG.2.2 (z_in hi) ?_
  have e : ((Int32.ofInt i).toNatClampNeg : Int) = i := by rw [z_tn ⟨hi.1, hi.2.2⟩]; omega
  rw [e]
  exact kk
theorem zz_lald {o : Nat → Nat} {a n l : Nat} {f : Int → Int} {i : Int} (hd : decode M.2.2.1 pc = .ok (.laload, 1)) (hG : cc o G a l (zl n f)) (hi : 0 ≤ i ∧ i < (n : Int) ∧ i ≤ 2147483647) (kk : ab_W X M d G (pc + 1) L (vj (f i) :: st) Q) : ab_W X M d G pc L (vz i :: .ref a :: st) Q := by
  refine ab_lald hd hG.2.2 (z_in hi) ?_
  have e : ((Int32.ofInt i).toNatClampNeg : Int) = i := by rw [z_tn ⟨hi.1, hi.2.2⟩]; omega
  rw [e]
  exact kk
theorem zz_iast {o : Nat → Nat} {a n l : Nat} {f : Int → Int} {i x : Int} (hd : decode M.2.2.1 pc = .ok (.iastore, 1)) (hG : cc o G a l (za n f)) (hi : 0 ≤ i ∧ i < (n : Int) ∧ i ≤ 2147483647) (ha : ab_n0 ≤ a) (kk : ab_W X M d (List.set G a (za n (zu f i x))) (pc + 1) L st Q) : ab_W X M d G pc L (vz x :: vz i :: .ref a :: st) Q := by
  refine ab_iast hd hG.2.2 (z_in hi) ha ?_
  rw [z_upd ⟨hi.1, hi.2.2⟩]
  exact kk
theorem zz_zast {o : Nat → Nat} {a n l : Nat} {f : Int → Int} {i x : Int} (hd : decode M.2.2.1 pc = .ok (.bastore, 1)) (hG : cc o G a l (zb n f)) (hi : 0 ≤ i ∧ i < (n : Int) ∧ i ≤ 2147483647) (hx : x = 0 ∨ x = 1) (ha : ab_n0 ≤ a) (kk : ab_W X M d (List.set G a (zb n (zu f i x))) (pc + 1) L st Q) : ab_W X M d G pc L (vz x :: vz i :: .ref a :: st) Q := by
  refine ab_zast hd hG.2.2 (z_in hi) ha ?_
  have e : vp_nar .boolean (Int32.ofInt x) = Int32.ofInt x := by rcases hx with h | h <;> (rw [h]; decide)
  rw [e, z_upd ⟨hi.1, hi.2.2⟩]
  exact kk
theorem zz_alen {o : Nat → Nat} {a l n : Nat} {f : Int → Int} (hd : decode M.2.2.1 pc = .ok (.arraylength, 1)) (hG : cc o G a l (za n f)) (kk : ab_W X M d G (pc + 1) L (vz (n : Int) :: st) Q) : ab_W X M d G pc L (.ref a :: st) Q := ab_alen (v := Int32.ofInt (n : Int)) hd hG.2.2 Int32.ofInt_eq_ofNat.symm kk
theorem zz_newI {n : Int} {w : Nat} (hw : Cond.arrayClass .int ∈ lw_tbl) (hd : decode M.2.2.1 pc = .ok (.newarray .int, 2)) (hn : (w : Int) = n) (hn2 : n ≤ 2147483647) (hcl : G.length + 1 ≤ ab_n0 + room_1.cells) (hsl : ab_slots G + w ≤ room_1.slots) (kk : ab_W X M d (G ++ [za w (fun _ => 0)]) (pc + 2) L (.ref G.length :: st) Q) : ab_W X M d G pc L (vz n :: st) Q :=
  ab_newI hw hd (by rw [z_0, z_lt ⟨by omega, by omega⟩ (by decide)]; omega) ((z_tn ⟨by omega, hn2⟩).trans (by omega)) hcl hsl kk
theorem zz_mmax {idx : Nat} {x y : Int} (hl : Cond.methodLink M.1 idx Lib.Math.max.name ∈ lw_tbl) (hd : decode M.2.2.1 pc = .ok (.invokestatic idx, 3)) (hx : -2147483648 ≤ x ∧ x ≤ 2147483647) (hy : -2147483648 ≤ y ∧ y ≤ 2147483647) (hwt : (st.map fun v => v.category).sum ≤ 8) (hdd : 1 ≤ d) (kk : ab_W X M d G (pc + 3) L (vz (max x y) :: st) Q) : ab_W X M d G pc L (vz y :: vz x :: st) Q := by
  refine ab_mmax hl mm_max_st ini_MA mm_max_cd hd hwt hdd (ab_topi ?_ kk)
  by_cases h : x < y
  · rw [if_pos ((z_lt hx hy).mpr h)]; congr 1; omega
  · rw [if_neg (mt (z_lt hx hy).mp h)]; congr 1; omega
theorem zz_mmax2 {idx : Nat} {x y : Int} (hl : Cond.methodLink M.1 idx Lib.Math.max.name ∈ lw_tbl) (hd : decode M.2.2.1 pc = .ok (.invokestatic idx, 3)) (hx : -2147483648 ≤ x ∧ x ≤ 2147483647) (hy : -2147483648 ≤ y ∧ y ≤ 2147483647) (hwt : (st.map fun v => v.category).sum ≤ 8) (hdd : 1 ≤ d) (k1 : x ≤ y → ab_W X M d G (pc + 3) L (vz y :: st) Q) (k2 : y < x → ab_W X M d G (pc + 3) L (vz x :: st) Q) : ab_W X M d G pc L (vz y :: vz x :: st) Q := by
  refine zz_mmax hl hd hx hy hwt hdd ?_
  by_cases h : x ≤ y
  · exact zz_top (by omega) (k1 h)
  · exact zz_top (by omega) (k2 (by omega))
theorem zz_mmin {idx : Nat} {x y : Int} (hl : Cond.methodLink M.1 idx Lib.Math.min.name ∈ lw_tbl) (hd : decode M.2.2.1 pc = .ok (.invokestatic idx, 3)) (hx : -2147483648 ≤ x ∧ x ≤ 2147483647) (hy : -2147483648 ≤ y ∧ y ≤ 2147483647) (hwt : (st.map fun v => v.category).sum ≤ 8) (hdd : 1 ≤ d) (kk : ab_W X M d G (pc + 3) L (vz (min x y) :: st) Q) : ab_W X M d G pc L (vz y :: vz x :: st) Q := by
  refine ab_mmin hl mm_min_st ini_MA mm_min_cd hd hwt hdd (ab_topi ?_ kk)
  by_cases h : y < x
  · rw [if_pos ((z_lt hy hx).mpr h)]; congr 1; omega
  · rw [if_neg (mt (z_lt hy hx).mp h)]; congr 1; omega
theorem zz_mmin2 {idx : Nat} {x y : Int} (hl : Cond.methodLink M.1 idx Lib.Math.min.name ∈ lw_tbl) (hd : decode M.2.2.1 pc = .ok (.invokestatic idx, 3)) (hx : -2147483648 ≤ x ∧ x ≤ 2147483647) (hy : -2147483648 ≤ y ∧ y ≤ 2147483647) (hwt : (st.map fun v => v.category).sum ≤ 8) (hdd : 1 ≤ d) (k1 : x ≤ y → ab_W X M d G (pc + 3) L (vz x :: st) Q) (k2 : y < x → ab_W X M d G (pc + 3) L (vz y :: st) Q) : ab_W X M d G pc L (vz y :: vz x :: st) Q := by
  refine zz_mmin hl hd hx hy hwt hdd ?_
  by_cases h : x ≤ y
  · exact zz_top (by omega) (k1 h)
  · exact zz_top (by omega) (k2 (by omega))
theorem zz_copy {o : Nat → Nat} {idx a0 a l0 l n0 n1 : Nat} {f g : Int → Int} {sp dp n : Int} (hl : Cond.methodLink M.1 idx arraycopyName ∈ lw_tbl) (hd : decode M.2.2.1 pc = .ok (.invokestatic idx, 3)) (hG0 : cc o G a0 l0 (za n0 f)) (hG : cc o G a l (za n1 g)) (ha : ab_n0 ≤ a) (hn : 0 ≤ sp ∧ 0 ≤ dp ∧ 0 ≤ n ∧ sp + n ≤ (n0 : Int) ∧ dp + n ≤ (n1 : Int) ∧ sp + n ≤ 2147483647 ∧ dp + n ≤ 2147483647) (hwt : (st.map fun v => v.category).sum ≤ 8) (hdd : 1 ≤ d) (kk : ab_W X M d (List.set G a (za n1 (zcpy f g sp dp n))) (pc + 3) L st Q) : ab_W X M d G pc L (vz n :: vz dp :: .ref a :: vz sp :: .ref a0 :: st) Q := by
  have t1 := z_tn (i := sp) ⟨by omega, by omega⟩
  have t2 := z_tn (i := dp) ⟨by omega, by omega⟩
  have t3 := z_tn (i := n) ⟨by omega, by omega⟩
  have nn : ∀ {q : Int}, 0 ≤ q ∧ q ≤ 2147483647 → ¬ Int32.ofInt q < 0 := fun {q} h => by rw [z_0, z_lt ⟨by omega, by omega⟩ (by decide)]; omega
  refine ab_copy hl cp_nat cp_st ini_SY hd hG0.2.2 hG.2.2 ha (nn ⟨by omega, by omega⟩) (nn ⟨by omega, by omega⟩) (nn ⟨by omega, by omega⟩) (by rw [t1, t3]; omega) (by rw [t2, t3]; omega) hwt hdd ?_
  rw [z_cpy ⟨by omega, by omega⟩ ⟨by omega, by omega⟩ ⟨by omega, by omega⟩]
  exact kk
theorem zz_iret {v : Int} (hr : M.2.2.2.2.1 = some .int) (hd : decode M.2.2.1 pc = .ok (.ireturn, 1)) (hq : Q (.returned (some (vz v))) G) : ab_W X M d G pc L [vz v] Q := ab_iret hr rfl hd hq
theorem zz_bret {v : Int} (hr : M.2.2.2.2.1 = some .boolean) (hv : v = 0 ∨ v = 1) (hd : decode M.2.2.1 pc = .ok (.ireturn, 1)) (hq : Q (.returned (some (vz v))) G) : ab_W X M d G pc L [vz v] Q := ab_iret hr (by rcases hv with h | h <;> (rw [h]; decide)) hd hq
theorem zz_ior01 {x y : Int} (hd : decode M.2.2.1 pc = .ok (.ior, 1)) (hx : x = 0 ∨ x = 1) (hy : y = 0 ∨ y = 1) (k : ab_W X M d G (pc + 1) L (vz (max x y) :: st) Q) : ab_W X M d G pc L (vz y :: vz x :: st) Q := ab_ior hd (ab_topi (by rcases hx with h | h <;> rcases hy with g | g <;> (rw [h, g]; decide)) k)
theorem zz_iand01 {x y : Int} (hd : decode M.2.2.1 pc = .ok (.iand, 1)) (hx : x = 0 ∨ x = 1) (hy : y = 0 ∨ y = 1) (k : ab_W X M d G (pc + 1) L (vz (min x y) :: st) Q) : ab_W X M d G pc L (vz y :: vz x :: st) Q := ab_iand hd (ab_topi (by rcases hx with h | h <;> rcases hy with g | g <;> (rw [h, g]; decide)) k)
end ZRows
theorem ab_fbz {x : Int} (h : x = 0 ∨ x = 1) : ab_fit .boolean (vz x) := by rcases h with h | h <;> (rw [h]; first | exact ab_fb0 | exact ab_fb1)
