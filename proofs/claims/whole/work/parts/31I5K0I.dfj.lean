/-! a version's program as compile keeps it -/
def pvW (w K N O RR : Int → Int) (ru fi la : Int) : Int → Int := fun j => if j < 4000 then w j else if j < 5000 then K (j - 4000) else if j < 6000 then N (j - 5000) else if j < 7000 then O (j - 6000) else if j = 7000 then fi else if j = 7001 then la else if j = 7002 then ru else RR (j - 8000)
section PvW
variable {cv w K N O RR : Int → Int} {v v2 c j cnt ru fi la : Int} {lq : Nat}
theorem cvV_u (hv : 0 ≤ v ∧ v < 1000000) (hl : 100 ≤ lq) (hj : 0 ≤ j ∧ j < 1000000) : cvV (cvU cv v c lq w) v j = w (4000 + j) := by
  unfold cvV cvU
  rw [if_neg (by omega), if_neg (by omega), if_pos (by omega), show 1000000 + 1000000 * v + j - 1000000 - 1000000 * v = j by omega]
theorem cvV_o (hv : 0 ≤ v ∧ v < 1000000) (h2 : 0 ≤ v2) (hn : ¬ v2 = v) (hl : 100 ≤ lq) (hj : 0 ≤ j ∧ j < 1000000) : cvV (cvU cv v c lq w) v2 j = cvV cv v2 j := by
  unfold cvV cvU
  rw [if_neg (by omega), if_neg (by omega), if_neg (by omega)]
theorem prV_s (hv : 0 ≤ v ∧ v < 1000000) (hl : 100 ≤ lq) (hc : cnt ≤ 808) (hr : ru ≤ 50000) : prV (cvU cv v cnt lq (pvW w K N O RR ru fi la)) v K N O RR cnt ru fi la := by
  refine ⟨cvU_v, fun i a b => ⟨?_, ?_, ?_⟩, ?_, ?_, ?_, fun j a b => ?_⟩
  · rw [cvV_u hv hl (by omega)]; unfold pvW; rw [if_neg (by omega), if_pos (by omega), show 4000 + i - 4000 = i by omega]
  · rw [cvV_u hv hl (by omega)]; unfold pvW; rw [if_neg (by omega), if_neg (by omega), if_pos (by omega), show 4000 + (1000 + i) - 5000 = i by omega]
  · rw [cvV_u hv hl (by omega)]; unfold pvW; rw [if_neg (by omega), if_neg (by omega), if_neg (by omega), if_pos (by omega), show 4000 + (2000 + i) - 6000 = i by omega]
  · rw [cvV_u hv hl (by omega)]; unfold pvW; rw [if_neg (by omega), if_neg (by omega), if_neg (by omega), if_neg (by omega), if_pos (by omega)]
  · rw [cvV_u hv hl (by omega)]; unfold pvW; rw [if_neg (by omega), if_neg (by omega), if_neg (by omega), if_neg (by omega), if_neg (by omega), if_pos (by omega)]
  · rw [cvV_u hv hl (by omega)]; unfold pvW; rw [if_neg (by omega), if_neg (by omega), if_neg (by omega), if_neg (by omega), if_neg (by omega), if_neg (by omega), if_pos (by omega)]
  · rw [cvV_u hv hl (by omega)]; unfold pvW; rw [if_neg (by omega), if_neg (by omega), if_neg (by omega), if_neg (by omega), if_neg (by omega), if_neg (by omega), if_neg (by omega), show 4000 + (4000 + j) - 8000 = j by omega]
theorem prV_o (h : prV cv v2 K N O RR cnt ru fi la) (hv : 0 ≤ v ∧ v < 1000000) (h2 : 0 ≤ v2 ∧ v2 < 1000000) (hn : ¬ v2 = v) (hl : 100 ≤ lq) (hc : cnt ≤ 808) (hr : ru ≤ 50000) : prV (cvU cv v c lq w) v2 K N O RR cnt ru fi la := by
  obtain ⟨a1, a2, a3, a4, a5, a6⟩ := h
  refine ⟨by rw [cvU_p h2 hn hl hv.1]; exact a1, fun i a b => ?_, ?_, ?_, ?_, fun j a b => ?_⟩
  · rw [cvV_o hv h2.1 hn hl (by omega), cvV_o hv h2.1 hn hl (by omega), cvV_o hv h2.1 hn hl (by omega)]; exact a2 i a b
  · rw [cvV_o hv h2.1 hn hl (by omega)]; exact a3
  · rw [cvV_o hv h2.1 hn hl (by omega)]; exact a4
  · rw [cvV_o hv h2.1 hn hl (by omega)]; exact a5
  · rw [cvV_o hv h2.1 hn hl (by omega)]; exact a6 j a b
/-- what a slot keeps -/
theorem cvI_pw (hv : 0 ≤ v) (hl : 100 ≤ lq) (hj : 0 ≤ j ∧ j < 4000) : cvI (cvU cv v c lq (pvW w K N O RR ru fi la)) lq j = cvI (cvU cv v c lq w) lq j := by
  rw [cvI_s hv hl hj, cvI_s hv hl hj]
  unfold pvW
  rw [if_pos hj.2]
theorem ivR_pw {gr sz fl : Int} {NL NA : Int → Int} (h : ivR gr sz fl NL NA (cvU cv v c lq w) lq) (hv : 0 ≤ v) (hl : 100 ≤ lq) : ivR gr sz fl NL NA (cvU cv v c lq (pvW w K N O RR ru fi la)) lq := by
  obtain ⟨a1, a2, a3, a4, a5⟩ := h
  refine ⟨?_, ?_, ?_, fun k a b => ?_, fun i a b => ?_⟩
  · rw [cvI_pw hv hl (by omega)]; exact a1
  · rw [cvI_pw hv hl (by omega)]; exact a2
  · rw [cvI_pw hv hl (by omega)]; exact a3
  · rw [cvI_pw hv hl (by omega)]; exact a4 k a b
  · rw [cvI_pw hv hl (by omega)]; exact a5 i a b
theorem ivT_pw {tn : Int} {tf : Int → Int} (h : ivT tn tf (cvU cv v c lq w) lq) (hv : 0 ≤ v) (hl : 100 ≤ lq) : ivT tn tf (cvU cv v c lq (pvW w K N O RR ru fi la)) lq := by
  refine ⟨?_, fun i a b => ?_⟩
  · rw [cvI_pw hv hl (by omega)]; exact h.1
  · rw [cvI_pw hv hl (by omega)]; exact h.2 i a b
end PvW
/-! what States keeps, over all versions -/
def stQ (cv : Int → Int) (vr ro : Int) (CU : Int → Int) (cn : Int) (PO BG BD EG : Int → Int) (ct : Int) : Prop := vr = 0 ∨ ((cv vr ≤ 808 ∧ cvV cv vr 3002 ≤ 50000) ∧ stQR (veK cv vr) (veN cv vr) (veO cv vr) (veR cv vr) (cvV cv vr 3000) (cvV cv vr 3001) ro (cv vr) CU cn PO BG BD EG ct)
section StQ
variable {cv w K N O RR CU PO BG BD EG : Int → Int} {vr ve ro cn ct cnt ru fi la v c : Int} {lq : Nat}
theorem prV.t (h : prV cv ve K N O RR cnt ru fi la) : trQ K N O RR cnt ru (veK cv ve) (veN cv ve) (veO cv ve) (veR cv ve) := ⟨h.k, h.n, h.o, h.r⟩
theorem stQ.is (h : stQ cv vr ro CU cn PO BG BD EG ct) (hv : prV cv ve K N O RR cnt ru fi la) (h1 : 1 ≤ ve) : vr = ve → stQR (veK cv ve) (veN cv ve) (veO cv ve) (veR cv ve) fi la ro cnt CU cn PO BG BD EG ct := fun e => by
  rcases h with h | ⟨_, h⟩
  · omega
  · rw [e, hv.1, hv.2.2.1, hv.2.2.2.1] at h
    exact h
theorem stQ_mk (h : stQR (veK cv ve) (veN cv ve) (veO cv ve) (veR cv ve) fi la ro cnt CU cn PO BG BD EG ct) (hv : prV cv ve K N O RR cnt ru fi la) (hc : cnt ≤ 808) (hr : ru ≤ 50000) (e : vr = ve) : stQ cv vr ro CU cn PO BG BD EG ct := by
  rw [e]
  refine Or.inr ⟨⟨by rw [hv.1]; exact hc, by rw [hv.2.2.2.2.1]; exact hr⟩, ?_⟩
  rw [hv.1, hv.2.2.1, hv.2.2.2.1]
  exact h
theorem stQ.z (h : stQ cv vr ro CU cn PO BG BD EG ct) : stQ cv vr ro CU cn PO BG BD EG 0 := h.imp id (fun q => ⟨q.1, stQR_z q.2⟩)
theorem stQ.up (h : stQ cv vr ro CU cn PO BG BD EG ct) (hv : 0 ≤ v ∧ v < 1000000) (h2 : 0 ≤ vr ∧ vr < 1000000) (hn : ¬ vr = v) (hl : 100 ≤ lq) : stQ (cvU cv v c lq w) vr ro CU cn PO BG BD EG ct := by
  rcases h with h | ⟨⟨a, b⟩, q⟩
  · exact Or.inl h
  · have e0 : cvU cv v c lq w vr = cv vr := cvU_p h2 hn hl hv.1
    have o : ∀ j : Int, 0 ≤ j → j < 1000000 → cvV (cvU cv v c lq w) vr j = cvV cv vr j := fun j j0 j1 => cvV_o hv h2.1 hn hl ⟨j0, j1⟩
    have ek : veK (cvU cv v c lq w) vr = veK cv vr := by unfold veK; rw [e0]; exact trc_cg (fun i i0 i1 => o i i0 (by omega))
    have en : veN (cvU cv v c lq w) vr = veN cv vr := by unfold veN; rw [e0]; exact trc_cg (fun i i0 i1 => o (1000 + i) (by omega) (by omega))
    have eo : veO (cvU cv v c lq w) vr = veO cv vr := by unfold veO; rw [e0]; exact trc_cg (fun i i0 i1 => o (2000 + i) (by omega) (by omega))
    have er : veR (cvU cv v c lq w) vr = veR cv vr := by unfold veR; rw [o 3002 (by omega) (by omega)]; exact trc_cg (fun i i0 i1 => o (4000 + i) (by omega) (by omega))
    refine Or.inr ⟨⟨by rw [e0]; exact a, by rw [o 3002 (by omega) (by omega)]; exact b⟩, ?_⟩
    rw [ek, en, eo, er, e0, o 3000 (by omega) (by omega), o 3001 (by omega) (by omega)]
    exact q
end StQ
