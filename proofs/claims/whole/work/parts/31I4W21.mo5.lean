/-! notes leave nothing out -/
def nep (T N W f : Int → Int) (len b p : Int) (Z : Int → Prop) (k : Int) : Prop := (T (b + k) = 3 ∧ (Z (N (b + k)) ∨ Z (W (b + k)))) ∨ (T (b + k) = 4 ∧ Z (N (b + k))) ∨ (T (b + k) = 5 ∧ mhld f len p (W (b + k)) ∧ Z (N (b + k)))
/-- the steps below k whose reason is another step's are set -/
def ncz (T N W f : Int → Int) (len b p : Int) (Z : Int → Int) (k : Int) : Prop := ∀ j : Int, 0 ≤ j → j < k → nep T N W f len b p (fun i => Z i = 1) j → Z j = 1
/-- the steps below k that have a reason of their own are set -/
def nsc (T N CA CM CL CH f NO : Int → Int) (len b fr al p : Int) (Z : Int → Int) (k : Int) : Prop := ∀ j : Int, 0 ≤ j → j < k → nsd T N CA CM CL CH f NO len b fr al p j → Z j = 1
def ncrow (T N W CA CM CL CH f NO : Int → Int) (len b n fr al p : Int) : Prop := ∀ k : Int, 0 ≤ k → k < n → (nsd T N CA CM CL CH f NO len b fr al p k ∨ nep T N W f len b p (fun i => nbit NO p i) k) → nbit NO p k
def ncrows (T N W CA CM CL CH f NO : Int → Int) (len b n fr al p : Int) : Prop := ∀ q : Int, p < q → q ≤ fr → ncrow T N W CA CM CL CH f NO len b n fr al q
section Notes5
variable {T N W CA CM CL CH f NO NO1 NO2 : Int → Int} {len b n fr al p k v : Int} {Z : Int → Int}
theorem ncz_0 : ncz T N W f len b p Z 0 := fun j a c => by omega
theorem ncz_s (h : ncz T N W f len b p Z k) (hk : nep T N W f len b p (fun i => Z i = 1) k → Z k = 1) : ncz T N W f len b p Z (k + 1) := fun j a c q => by
  by_cases e : j = k
  · subst e; exact hk q
  · exact h j a (by omega) q
theorem nsc_0 : nsc T N CA CM CL CH f NO len b fr al p Z 0 := fun j a c => by omega
theorem nsc_s (h : nsc T N CA CM CL CH f NO len b fr al p Z k) (hv : nsd T N CA CM CL CH f NO len b fr al p k → v = 1) : nsc T N CA CM CL CH f NO len b fr al p (zu Z k v) (k + 1) := fun j a c q => by
  by_cases e : j = k
  · subst e; rw [zu_self]; exact hv q
  · rw [zu_ne e]; exact h j a (by omega) q
theorem nsc_up (h : nsc T N CA CM CL CH f NO len b fr al p Z n) : nsc T N CA CM CL CH f NO len b fr al p (zu Z k 1) n := fun j a c q => by
  by_cases e : j = k
  · subst e; rw [zu_self]
  · rw [zu_ne e]; exact h j a c q
theorem nsame_sym {A B : Int → Int} (h : nsame A B p) : nsame B A p := fun q k a b c => (h q k a b c).symm
theorem nep_iff {Z1 Z2 : Int → Prop} (hs : sgood T N W CA CM b n) (hk : 0 ≤ k ∧ k < n) (e : ∀ i : Int, 0 ≤ i → i < n → (Z1 i ↔ Z2 i)) (h : nep T N W f len b p Z1 k) : nep T N W f len b p Z2 k := by
  obtain ⟨s1, s2, s3, s4, s5, s6⟩ := hs k hk.1 hk.2
  rcases h with ⟨t, q⟩ | ⟨t, q⟩ | ⟨t, u, q⟩
  · have i := s2 (by omega) (by omega)
    have j := s3 t
    exact Or.inl ⟨t, q.imp (e _ i.1 i.2).mp (e _ j.1 j.2).mp⟩
  · have i := s2 (by omega) (by omega)
    exact Or.inr (Or.inl ⟨t, (e _ i.1 i.2).mp q⟩)
  · have i := s2 (by omega) (by omega)
    exact Or.inr (Or.inr ⟨t, u, (e _ i.1 i.2).mp q⟩)
theorem ncrows_0 : ncrows T N W CA CM CL CH f NO len b n fr al fr := fun q a c => by omega
theorem ncrows_s (h : ncrows T N W CA CM CL CH f NO len b n fr al p) (hz : ncz T N W f len b p Z n) (hc : nsc T N CA CM CL CH f NO1 len b fr al p Z n) (hs : sgood T N W CA CM b n) (hn : n ≤ 12500) (e1 : nsame NO NO2 p) (e2 : nsame NO1 NO2 p) (hm : nmkb NO2 Z p n) : ncrows T N W CA CM CL CH f NO2 len b n fr al (p - 1) := fun q a c => by
  by_cases z : q = p
  · rw [z]
    have eq : ∀ i : Int, 0 ≤ i → i < n → (nbit NO2 p i ↔ Z i = 1) := fun i i0 i1 => by rw [hm i i0 (by omega)]; exact ⟨fun y => y.2, fun y => ⟨i1, y⟩⟩
    intro k k0 k1 r
    refine (eq k k0 k1).mpr ?_
    rcases r with r | r
    · exact hc k k0 k1 (nsd_same r hs ⟨k0, k1⟩ hn (nsame_sym e2))
    · exact hz k k0 k1 (nep_iff hs ⟨k0, k1⟩ eq r)
  · have eq : ∀ i : Int, 0 ≤ i → i < n → (nbit NO2 q i ↔ nbit NO q i) := fun i i0 i1 => e1 q i (by omega) i0 (by omega)
    intro k k0 k1 r
    refine (eq k k0 k1).mpr (h q (by omega) c k k0 k1 ?_)
    rcases r with r | r
    · exact Or.inl (nsd_same r hs ⟨k0, k1⟩ hn (fun x k a b c => nsame_sym e1 x k (by omega) b c))
    · exact Or.inr (nep_iff hs ⟨k0, k1⟩ eq r)
end Notes5
theorem nsd_n0 {T N CA CM CL CH f NO : Int → Int} {len b fr al p x : Int} (ht : T (b + x) = 0) (hn : ¬ (p = fr ∨ al = 0)) : ¬ nsd T N CA CM CL CH f NO len b fr al p x := by
  rintro (q | q)
  · exact hn q.2
  · exact q.1 ht
theorem nsd_n1 {T N CA CM CL CH f NO : Int → Int} {len b fr al p x c cw w : Int} (ht : ¬ T (b + x) = 0) (hc : mchr f len p c cw) (hw : tkv T CA CM CL CH c cw len (b + x) p w) (hn : ¬ (0 < w ∧ p + w ≤ fr ∧ nbit NO (p + w) (N (b + x)))) : ¬ nsd T N CA CM CL CH f NO len b fr al p x := by
  rintro (q | ⟨_, c2, cw2, w2, q1, q2, q3, q4, q5⟩)
  · exact ht q.1
  · obtain ⟨e1, e2⟩ := mchr_fun hc q1
    subst e1; subst e2
    have e := tkv_fun hw q2
    subst e
    exact hn ⟨q3, q4, q5⟩
