set_option maxRecDepth 100000 in
set_option maxHeartbeats 4000000 in
theorem lq_0 {X : ab_X} {Q : Outcome → ab_G → Prop} {o : Nat → Nat} {G : ab_G} {L : Nat} {f F : Int → Int} {lf : Nat} {t i : Int} (h : lwI o G L f F (lf + 1) t) (hff : ∀ k : Int, -2147483648 ≤ f k ∧ f k ≤ 2147483647) (hi : 0 ≤ i ∧ i + 6 ≤ ↑L ∧ ↑L ≤ (3072 : Int)) (n18 : ab_n0 = 18)
    (K : ∀ (o2 : Nat → Nat) (G2 : ab_G) (F2 : Int → Int) (t2 : Int), lwI o2 G2 L f F2 lf t2 → ab_W X ab_LW 2048 G2 931 [some (vR 0), some (vR 18), some (vR 80), some (vR 148), some (vz i), none, none] [] Q) : ab_W X ab_LW 2048 G 132 [some (vR 0), some (vR 18), some (vR 80), some (vR 148), some (vz i), none, none] [] Q := by
  obtain ⟨RD, FT, sz, PG, cw, fa, fp, sn, sf, xa, Fa, xb, Fb, xr, Fr, LA, ry, tq, td, th, gj, zj, fj, nj, sj, fb, fq, us, ul, uf, ua, up, ub, uv, uo, uO, im, mg, ke, hp, hm, h0, h148, hy, hx, hz, hla_⟩ := h
  refine ab_aload_n d_LA_law_132 rfl ?_
  refine ab_aload_n d_LA_law_133 rfl ?_
  refine ab_iload d_LA_law_134 rfl ?_
  refine zz_iconst d_LA_law_136 ?_
  refine zz_iadd d_LA_law_137 ?_
  refine zz_iald d_LA_law_138 h0 (by omega) ?_
  have hq1 := hff (i + 1)
  refine ab_aload_n d_LA_law_139 rfl ?_
  refine ab_iload d_LA_law_140 rfl ?_
  refine zz_iconst d_LA_law_142 ?_
  refine zz_iadd d_LA_law_143 ?_
  refine zz_iald d_LA_law_144 h0 (by omega) ?_
  have hq2 := hff (i + 2)
  refine ab_aload_n d_LA_law_145 rfl ?_
  refine ab_iload d_LA_law_146 rfl ?_
  refine zz_iconst d_LA_law_148 ?_
  refine zz_iadd d_LA_law_149 ?_
  refine zz_iald d_LA_law_150 h0 (by omega) ?_
  have hq3 := hff (i + 3)
  refine ab_aload_n d_LA_law_151 rfl ?_
  refine ab_iload d_LA_law_152 rfl ?_
  refine zz_iconst d_LA_law_154 ?_
  refine zz_iadd d_LA_law_155 ?_
  refine zz_iald d_LA_law_156 h0 (by omega) ?_
  have hq4 := hff (i + 4)
  refine ab_aload_n d_LA_law_157 rfl ?_
  refine ab_iload d_LA_law_158 rfl ?_
  refine zz_iconst d_LA_law_160 ?_
  refine zz_iadd d_LA_law_161 ?_
  refine zz_iald d_LA_law_162 h0 (by omega) ?_
  have hq5 := hff (i + 5)
  obtain ⟨fs7, hfs7⟩ := hp.recv
  refine ab_callV (d' := 2047) (as := [vz (f (i + 1)), vz (f (i + 2)), vz (f (i + 3)), vz (f (i + 4)), vz (f (i + 5))]) (st := []) (r := _) (w_feed (d := 2047) (x1 := (f (i + 1))) (x2 := (f (i + 2))) (x3 := (f (i + 3))) (x4 := (f (i + 4))) (x5 := (f (i + 5))) hp  n18 (by decide)) (fun oc G2 h => by obtain ⟨_, _, _, _, _, _, _, _, _, _, _, _, _, _, _, _, _, _, _, _, _, h⟩ := h; exact ⟨_, h.1⟩) (by decide) m_PW_feed ml_LA_37 im_PW_feed se_PW_feed c_PW hfs7 (Nat.le_of_ble_eq_true rfl) d_LA_law_163 rfl ?_
  intro v G6 hq
  obtain ⟨oG6, SG6, RDG6, FTG6, szG6, PGG6, cwG6, faG6, fpG6, snG6, sfG6, xaG6, FaG6, xbG6, FbG6, xrG6, FrG6, LAG6, hfG6, hSG6, hp, hr⟩ := hq
  obtain ⟨hr, hrl, e1_, e2_, e3_, e4_, e5_, e6_, e7_, e8_, e9_, e10_, e11_, e12_, e13_, e14_, e15_⟩ := hr
  rw [e1_, e2_, e3_, e4_, e5_, e6_, e7_, e8_, e9_, e10_, e11_, e12_, e13_, e14_, e15_] at hp
  cases hr
  have h0 := hfG6.get h0 (nl_w hSG6 0 (by decide))
  have h148 := hfG6.get h148 (nl_w hSG6 348 (by decide))
  have hm := hm.fr hfG6 (fun l hl => by have := hSG6 l hl; omega)
  change ab_W _ _ _ G6 166 [some (vR 0), some (vR 18), some (vR 80), some (vR 148), some (vz i), none, none] [] _
  refine ab_aload_n d_LA_law_166 rfl ?_
  refine ab_aload_n d_LA_law_167 rfl ?_
  refine ab_iload d_LA_law_168 rfl ?_
  refine zz_iconst d_LA_law_170 ?_
  refine zz_iadd d_LA_law_171 ?_
  refine zz_iald d_LA_law_172 h0 (by omega) ?_
  have hq9 := hff (i + 1)
  refine ab_aload_n d_LA_law_173 rfl ?_
  refine ab_iload d_LA_law_174 rfl ?_
  refine zz_iconst d_LA_law_176 ?_
  refine zz_iadd d_LA_law_177 ?_
  refine zz_iald d_LA_law_178 h0 (by omega) ?_
  have hq10 := hff (i + 2)
  refine ab_aload_n d_LA_law_179 rfl ?_
  refine ab_iload d_LA_law_180 rfl ?_
  refine zz_iconst d_LA_law_182 ?_
  refine zz_iadd d_LA_law_183 ?_
  refine zz_iald d_LA_law_184 h0 (by omega) ?_
  have hq11 := hff (i + 3)
  refine ab_aload_n d_LA_law_185 rfl ?_
  refine ab_iload d_LA_law_186 rfl ?_
  refine zz_iconst d_LA_law_188 ?_
  refine zz_iadd d_LA_law_189 ?_
  refine zz_iald d_LA_law_190 h0 (by omega) ?_
  have hq12 := hff (i + 4)
  refine ab_aload_n d_LA_law_191 rfl ?_
  refine ab_iload d_LA_law_192 rfl ?_
  refine zz_iconst d_LA_law_194 ?_
  refine zz_iadd d_LA_law_195 ?_
  refine zz_iald d_LA_law_196 h0 (by omega) ?_
  have hq13 := hff (i + 5)
  obtain ⟨fs15, hfs15⟩ := hm.recv
  refine ab_callV (d' := 2047) (as := [vz (f (i + 1)), vz (f (i + 2)), vz (f (i + 3)), vz (f (i + 4)), vz (f (i + 5))]) (st := []) (r := _) (w_MO_feed (d := 2047) (x1 := (f (i + 1))) (x2 := (f (i + 2))) (x3 := (f (i + 3))) (x4 := (f (i + 4))) (x5 := (f (i + 5))) hm (by omega) (by decide)) (fun oc G2 h => by obtain ⟨_, _, _, _, _, _, _, _, _, _, _, _, _, _, _, _, _, _, _, _, _, _, _, _, h, _⟩ := h; exact ⟨_, h⟩) (by decide) m_MO_feed ml_LA_41 im_MO_feed se_MO_feed c_MO hfs15 (Nat.le_of_ble_eq_true rfl) d_LA_law_197 rfl ?_
  intro v G14 hq
  obtain ⟨ryG14, tqG14, tdG14, thG14, gjG14, zjG14, fjG14, njG14, sjG14, fbG14, fqG14, usG14, ulG14, ufG14, uaG14, upG14, ubG14, uvG14, uoG14, uOG14, imG14, mgG14, keG14, hrm, hr, hfG14, hlG14, hsG14, t16, hm⟩ := hq
  obtain ⟨hml, f1_, f2_, f3_, f4_, f5_, f6_, f7_, f8_, f9_, f10_, f11_, f12_, f13_, f14_, f15_, f16_, f17_, f18_, f19_, f20_, f21_, f22_⟩ := hrm
  rw [f1_, f2_, f3_, f4_, f5_, f6_, f7_, f8_, f9_, f10_, f11_, f12_, f13_, f14_, f15_, f16_, f17_, f18_, f19_, f20_, f21_, f22_] at hm
  have hy := syn_feed hy hrl hml
  cases hr
  have h0 := hfG14.get h0 (by decide)
  have h148 := hfG14.get h148 (by decide)
  have hp := hp.fr hfG14 hlG14 hsG14 (by decide)
  change ab_W _ _ _ G14 200 [some (vR 0), some (vR 18), some (vR 80), some (vR 148), some (vz i), none, none] [] _
  refine ab_goto (tgt := 931) d_LA_law_200 (by decide) ?_
  exact K _ _ _ _ ⟨_, _, _, _, _, _, _, _, _, _, _, _, _, _, _, _, _, _, _, _, _, _, _, _, _, _, _, _, _, _, _, _, _, _, _, _, _, _, _, hp, hm, h0, h148, hy, hx, hz, hla_⟩
set_option maxRecDepth 100000 in
set_option maxHeartbeats 4000000 in
theorem lq_1 {X : ab_X} {Q : Outcome → ab_G → Prop} {o : Nat → Nat} {G : ab_G} {L : Nat} {f F : Int → Int} {lf : Nat} {t i : Int} (h : lwI o G L f F (lf + 1) t) (hff : ∀ k : Int, -2147483648 ≤ f k ∧ f k ≤ 2147483647) (hi : 0 ≤ i ∧ i + 6 ≤ ↑L ∧ ↑L ≤ (3072 : Int)) (n18 : ab_n0 = 18)
    (K : ∀ (o2 : Nat → Nat) (G2 : ab_G) (F2 : Int → Int) (t2 : Int), lwI o2 G2 L f F2 lf t2 → ab_W X ab_LW 2048 G2 931 [some (vR 0), some (vR 18), some (vR 80), some (vR 148), some (vz i), none, none] [] Q) : ab_W X ab_LW 2048 G 203 [some (vR 0), some (vR 18), some (vR 80), some (vR 148), some (vz i), none, none] [] Q := by
  obtain ⟨RD, FT, sz, PG, cw, fa, fp, sn, sf, xa, Fa, xb, Fb, xr, Fr, LA, ry, tq, td, th, gj, zj, fj, nj, sj, fb, fq, us, ul, uf, ua, up, ub, uv, uo, uO, im, mg, ke, hp, hm, h0, h148, hy, hx, hz, hla_⟩ := h
  refine ab_aload_n d_LA_law_203 rfl ?_
  refine ab_aload_n d_LA_law_204 rfl ?_
  refine ab_iload d_LA_law_205 rfl ?_
  refine zz_iconst d_LA_law_207 ?_
  refine zz_iadd d_LA_law_208 ?_
  refine zz_iald d_LA_law_209 h0 (by omega) ?_
  have hq1 := hff (i + 1)
  obtain ⟨fs3, hfs3⟩ := hp.recv
  refine ab_callV (d' := 2047) (as := [vz (f (i + 1))]) (st := []) (r := _) (w_end (d := 2047) (n_ := (f (i + 1))) hp (by omega) n18 (by decide)) (fun oc G2 h => by obtain ⟨_, _, _, _, _, _, _, _, _, _, _, _, _, _, _, _, _, _, _, _, _, h⟩ := h; obtain ⟨_, h, _⟩ := h; exact ⟨_, h⟩) (by decide) m_PW_end ml_LA_42 im_PW_end se_PW_end c_PW hfs3 (Nat.le_of_ble_eq_true rfl) d_LA_law_210 rfl ?_
  intro v G2 hq
  obtain ⟨oG2, SG2, RDG2, FTG2, szG2, PGG2, cwG2, faG2, fpG2, snG2, sfG2, xaG2, FaG2, xbG2, FbG2, xrG2, FrG2, LAG2, hfG2, hSG2, hp, hr⟩ := hq
  obtain ⟨w4, hr, hrl, e1_, e2_, e3_, e4_, e5_, e6_, e7_, e8_, e9_, e10_, e11_, e12_, e13_⟩ := hr
  rw [e1_, e2_, e3_, e4_, e5_, e6_, e7_, e8_, e9_, e10_, e11_, e12_, e13_] at hp
  cases hr
  have h0 := hfG2.get h0 (nl_w hSG2 0 (by decide))
  have h148 := hfG2.get h148 (nl_w hSG2 348 (by decide))
  have hm := hm.fr hfG2 (fun l hl => by have := hSG2 l hl; omega)
  change ab_W _ _ _ G2 213 [some (vR 0), some (vR 18), some (vR 80), some (vR 148), some (vz i), none, none] [vz w4] _
  refine ab_aload_n d_LA_law_213 rfl ?_
  refine ab_aload_n d_LA_law_214 rfl ?_
  refine ab_iload d_LA_law_215 rfl ?_
  refine zz_iconst d_LA_law_217 ?_
  refine zz_iadd d_LA_law_218 ?_
  refine zz_iald d_LA_law_219 h0 (by omega) ?_
  have hq5 := hff (i + 1)
  obtain ⟨fs7, hfs7⟩ := hm.recv
  refine ab_callV (d' := 2047) (as := [vz (f (i + 1))]) (st := [vz w4]) (r := _) (w_MO_end (d := 2047) (n_ := (f (i + 1))) hm (by omega) (by decide)) (fun oc G2 h => by obtain ⟨_, _, _, _, _, _, _, _, _, _, _, _, _, _, _, _, _, _, _, _, _, _, _, _, h, _⟩ := h; obtain ⟨_, h⟩ := h; exact ⟨_, h⟩) (by decide) m_MO_end ml_LA_45 im_MO_end se_MO_end c_MO hfs7 (Nat.le_of_ble_eq_true rfl) d_LA_law_220 rfl ?_
  intro v G6 hq
  obtain ⟨ryG6, tqG6, tdG6, thG6, gjG6, zjG6, fjG6, njG6, sjG6, fbG6, fqG6, usG6, ulG6, ufG6, uaG6, upG6, ubG6, uvG6, uoG6, uOG6, imG6, mgG6, keG6, hrm, hr, hfG6, hlG6, hsG6, t8, hm⟩ := hq
  obtain ⟨w9, hrw, hml, f1_, f2_, f3_, f4_, f5_, f6_, f7_, f8_, f9_, f10_, f11_, f12_, f13_, f14_, f15_, f16_, f17_, f18_, f19_, f20_⟩ := hrm
  clear hr
  have hr := hrw
  rw [f1_, f2_, f3_, f4_, f5_, f6_, f7_, f8_, f9_, f10_, f11_, f12_, f13_, f14_, f15_, f16_, f17_, f18_, f19_, f20_] at hm
  obtain ⟨hvw_, hvb_, hy⟩ := syn_end hy hrl hml
  cases hr
  have h0 := hfG6.get h0 (by decide)
  have h148 := hfG6.get h148 (by decide)
  have hp := hp.fr hfG6 hlG6 hsG6 (by decide)
  change ab_W _ _ _ G6 223 [some (vR 0), some (vR 18), some (vR 80), some (vR 148), some (vz i), none, none] [vz w9, vz w4] _
  refine zz_icmp_eq (tgt := 931) d_LA_law_223 (by decide) (by omega) (by omega) (fun c10 => ?_) (fun c10 => absurd c10 (by omega))
  exact K _ _ _ _ ⟨_, _, _, _, _, _, _, _, _, _, _, _, _, _, _, _, _, _, _, _, _, _, _, _, _, _, _, _, _, _, _, _, _, _, _, _, _, _, _, hp, hm, h0, h148, hy, hx, hz, hla_⟩
set_option maxRecDepth 100000 in
set_option maxHeartbeats 4000000 in
theorem lq_2 {X : ab_X} {Q : Outcome → ab_G → Prop} {o : Nat → Nat} {G : ab_G} {L : Nat} {f F : Int → Int} {lf : Nat} {t i : Int} (h : lwI o G L f F (lf + 1) t) (hff : ∀ k : Int, -2147483648 ≤ f k ∧ f k ≤ 2147483647) (hi : 0 ≤ i ∧ i + 6 ≤ ↑L ∧ ↑L ≤ (3072 : Int)) (n18 : ab_n0 = 18)
    (K : ∀ (o2 : Nat → Nat) (G2 : ab_G) (F2 : Int → Int) (t2 : Int), lwI o2 G2 L f F2 lf t2 → ab_W X ab_LW 2048 G2 931 [some (vR 0), some (vR 18), some (vR 80), some (vR 148), some (vz i), none, none] [] Q) : ab_W X ab_LW 2048 G 228 [some (vR 0), some (vR 18), some (vR 80), some (vR 148), some (vz i), none, none] [] Q := by
  obtain ⟨RD, FT, sz, PG, cw, fa, fp, sn, sf, xa, Fa, xb, Fb, xr, Fr, LA, ry, tq, td, th, gj, zj, fj, nj, sj, fb, fq, us, ul, uf, ua, up, ub, uv, uo, uO, im, mg, ke, hp, hm, h0, h148, hy, hx, hz, hla_⟩ := h
  refine ab_aload_n d_LA_law_228 rfl ?_
  refine ab_aload_n d_LA_law_229 rfl ?_
  refine ab_iload d_LA_law_230 rfl ?_
  refine zz_iconst d_LA_law_232 ?_
  refine zz_iadd d_LA_law_233 ?_
  refine zz_iald d_LA_law_234 h0 (by omega) ?_
  have hq1 := hff (i + 1)
  refine ab_aload_n d_LA_law_235 rfl ?_
  refine ab_iload d_LA_law_236 rfl ?_
  refine zz_iconst d_LA_law_238 ?_
  refine zz_iadd d_LA_law_239 ?_
  refine zz_iald d_LA_law_240 h0 (by omega) ?_
  have hq2 := hff (i + 2)
  refine ab_aload_n d_LA_law_241 rfl ?_
  refine ab_callSW (d' := 2047) (as := [vR 18, vz (f (i + 1)), vz (f (i + 2)), vR 148]) (st := []) (c_LA_compile (d := 2047) hp h148 (by omega) n18 (by decide)) (fun oc G2 h => by obtain ⟨_, _, _, _, _, _, _, _, _, _, _, _, _, _, _, _, _, _, _, _, h, _⟩ := h; exact ⟨_, h⟩) (by decide) m_LA_compile (ab_t6 (List.mem_of_getElem? (i := 22) rfl)) st_LA_compile (Nat.le_of_ble_eq_true rfl) d_LA_law_242 rfl ?_
  intro v G3 hq
  obtain ⟨oG3, SG3, FG3, k4, RDG3, FTG3, szG3, PGG3, cwG3, faG3, fpG3, snG3, sfG3, xaG3, FaG3, xbG3, FbG3, xrG3, FrG3, LAG3, hr, hfG3, hSG3, hp, h148, hrel⟩ := hq
  cases hr
  obtain ⟨e1_, e2_, e3_, e4_, e5_, e6_, e7_, e8_, e9_, e10_, e11_, hrl⟩ := hrel
  rw [e1_, e2_, e3_, e4_, e5_, e6_, e7_, e8_, e9_, e10_, e11_] at hp
  have h0 := hfG3.get h0 (nl_v hSG3 0 (by decide))
  have hm := hm.fr hfG3 (fun l hl => by have := hSG3 l hl; omega)
  change ab_W _ _ _ G3 245 [some (vR 0), some (vR 18), some (vR 80), some (vR 148), some (vz i), none, none] [vz k4] _
  refine ab_istore d_LA_law_245 (Nat.le_of_ble_eq_true rfl) (Nat.le_of_ble_eq_true rfl) rfl ?_
  change ab_W _ _ _ G3 247 [some (vR 0), some (vR 18), some (vR 80), some (vR 148), some (vz i), some (vz k4), none] [] _
  refine ab_aload_n d_LA_law_247 rfl ?_
  refine ab_aload_n d_LA_law_248 rfl ?_
  refine ab_iload d_LA_law_249 rfl ?_
  refine zz_iconst d_LA_law_251 ?_
  refine zz_iadd d_LA_law_252 ?_
  refine zz_iald d_LA_law_253 h0 (by omega) ?_
  have hq5 := hff (i + 1)
  refine ab_aload_n d_LA_law_254 rfl ?_
  refine ab_iload d_LA_law_255 rfl ?_
  refine zz_iconst d_LA_law_257 ?_
  refine zz_iadd d_LA_law_258 ?_
  refine zz_iald d_LA_law_259 h0 (by omega) ?_
  have hq6 := hff (i + 2)
  obtain ⟨fs8, hfs8⟩ := hm.recv
  refine ab_callV (d' := 2047) (as := [vz (f (i + 1)), vz (f (i + 2))]) (st := []) (r := _) (w_MO_compile (d := 2047) (sc := (f (i + 1))) (wi := (f (i + 2))) hm (by omega) (by decide)) (fun oc G2 h => by obtain ⟨_, _, _, _, _, _, _, _, _, _, _, _, _, _, _, _, _, _, _, _, _, _, _, _, h, _⟩ := h; obtain ⟨_, h⟩ := h; exact ⟨_, h⟩) (by decide) m_MO_compile ml_LA_51 im_MO_compile se_MO_compile c_MO hfs8 (Nat.le_of_ble_eq_true rfl) d_LA_law_260 rfl ?_
  intro v G7 hq
  obtain ⟨ryG7, tqG7, tdG7, thG7, gjG7, zjG7, fjG7, njG7, sjG7, fbG7, fqG7, usG7, ulG7, ufG7, uaG7, upG7, ubG7, uvG7, uoG7, uOG7, imG7, mgG7, keG7, hrm, hr, hfG7, hlG7, hsG7, t9, hm, hcm⟩ := hq
  obtain ⟨f1_, f2_, f3_, f4_, f5_, f6_, f7_, f8_, f9_, f10_, f11_, f12_, f13_⟩ := hrm
  rw [f1_, f2_, f3_, f4_, f5_, f6_, f7_, f8_, f9_, f10_, f11_, f12_, f13_] at hm
  obtain ⟨w10, hrw, hvr, hml⟩ := hcm
  clear hr
  have hr := hrw
  have hy0 := hy
  obtain ⟨htk_, hvw_, hkb_, hy⟩ := syn_cmp hy0 hrl hml
  have hx := sy2_cmp hx hy0 hrl hvr htk_
  cases hr
  have h0 := hfG7.get h0 (by decide)
  have h148 := hfG7.get h148 (by decide)
  have hp := hp.fr hfG7 hlG7 hsG7 (by decide)
  change ab_W _ _ _ G7 263 [some (vR 0), some (vR 18), some (vR 80), some (vR 148), some (vz i), some (vz k4), none] [vz w10] _
  refine ab_istore d_LA_law_263 (Nat.le_of_ble_eq_true rfl) (Nat.le_of_ble_eq_true rfl) rfl ?_
  change ab_W _ _ _ G7 265 [some (vR 0), some (vR 18), some (vR 80), some (vR 148), some (vz i), some (vz k4), some (vz w10)] [] _
  refine ab_aload_n d_LA_law_265 rfl ?_
  obtain ⟨fs12, hfs12⟩ := hm.recv
  refine ab_callV (d' := 2047) (as := []) (st := []) (r := _) (w_MO_thrown (d := 2047)  hm  (by decide)) (fun oc G2 h => by obtain ⟨_, _, _, _, _, _, _, _, _, _, _, _, _, _, _, _, _, _, _, _, _, _, _, _, h, _⟩ := h; exact ⟨_, h⟩) (by decide) m_MO_thrown ml_LA_52 im_MO_thrown se_MO_thrown c_MO hfs12 (Nat.le_of_ble_eq_true rfl) d_LA_law_266 rfl ?_
  intro v G11 hq
  obtain ⟨ryG11, tqG11, tdG11, thG11, gjG11, zjG11, fjG11, njG11, sjG11, fbG11, fqG11, usG11, ulG11, ufG11, uaG11, upG11, ubG11, uvG11, uoG11, uOG11, imG11, mgG11, keG11, hrm, hr, hfG11, hlG11, hsG11, t13, hm⟩ := hq
  obtain ⟨f1_, f2_, f3_, f4_, f5_, f6_, f7_, f8_, f9_, f10_, f11_, f12_, f13_, f14_, f15_, f16_, f17_, f18_, f19_, f20_, f21_, f22_, f23_⟩ := hrm
  rw [f1_, f2_, f3_, f4_, f5_, f6_, f7_, f8_, f9_, f10_, f11_, f12_, f13_, f14_, f15_, f16_, f17_, f18_, f19_, f20_, f21_, f22_, f23_] at hm
  cases hr
  have h0 := hfG11.get h0 (by decide)
  have h148 := hfG11.get h148 (by decide)
  have hp := hp.fr hfG11 hlG11 hsG11 (by decide)
  change ab_W _ _ _ G11 269 [some (vR 0), some (vR 18), some (vR 80), some (vR 148), some (vz i), some (vz k4), some (vz w10)] [vz t9] _
  refine ab_iload d_LA_law_269 rfl ?_
  refine ab_icmp_eq (tgt := 276) d_LA_law_271 (by decide) (fun _ => ?_) (fun c => absurd (congrArg Int32.ofInt htk_) c)
  refine ab_iload d_LA_law_276 rfl ?_
  refine zz_if_ne (tgt := 293) d_LA_law_278 (by decide) (by omega) (fun c15 => ?_) (fun c15 => ?_)
  · refine ab_goto (tgt := 931) d_LA_law_293 (by decide) ?_
    refine ab_less (L' := [some (vR 0), some (vR 18), some (vR 80), some (vR 148), some (vz i), none, none]) (fun i v h => by rcases i with _ | _ | _ | _ | _ | _ | _ | i <;> first | exact h | (simp at h)) ?_
    exact K _ _ _ _ ⟨_, _, _, _, _, _, _, _, _, _, _, _, _, _, _, _, _, _, _, _, _, _, _, _, _, _, _, _, _, _, _, _, _, _, _, _, _, _, _, hp, hm, h0, h148, hy, hx, hz, hla_⟩
  · obtain ⟨hvw2_, hvw3_⟩ := hvw_ c15
    refine ab_aload_n d_LA_law_281 rfl ?_
    refine zz_iconst d_LA_law_282 ?_
    refine zz_lald d_LA_law_283 h148 (by omega) ?_
    refine ab_iload d_LA_law_284 rfl ?_
    refine zz_i2l d_LA_law_286 (by omega) ?_
    refine zz_lcmp d_LA_law_287 (by omega) (by omega) (fun c16a => by exfalso; omega) (fun c16a c16b => ?_) (fun c16a => by exfalso; omega)
    · refine zz_if_eq (tgt := 293) d_LA_law_288 (by decide) (by decide) (fun c17 => ?_) (fun c17 => absurd c17 (by decide))
      refine ab_goto (tgt := 931) d_LA_law_293 (by decide) ?_
      refine ab_less (L' := [some (vR 0), some (vR 18), some (vR 80), some (vR 148), some (vz i), none, none]) (fun i v h => by rcases i with _ | _ | _ | _ | _ | _ | _ | i <;> first | exact h | (simp at h)) ?_
      exact K _ _ _ _ ⟨_, _, _, _, _, _, _, _, _, _, _, _, _, _, _, _, _, _, _, _, _, _, _, _, _, _, _, _, _, _, _, _, _, _, _, _, _, _, _, hp, hm, h0, h148, hy, hx, hz, hla_⟩
set_option maxRecDepth 100000 in
set_option maxHeartbeats 4000000 in
theorem lq_3 {X : ab_X} {Q : Outcome → ab_G → Prop} {o : Nat → Nat} {G : ab_G} {L : Nat} {f F : Int → Int} {lf : Nat} {t i : Int} (h : lwI o G L f F (lf + 1) t) (hff : ∀ k : Int, -2147483648 ≤ f k ∧ f k ≤ 2147483647) (hi : 0 ≤ i ∧ i + 6 ≤ ↑L ∧ ↑L ≤ (3072 : Int)) (n18 : ab_n0 = 18)
    (K : ∀ (o2 : Nat → Nat) (G2 : ab_G) (F2 : Int → Int) (t2 : Int), lwI o2 G2 L f F2 lf t2 → ab_W X ab_LW 2048 G2 931 [some (vR 0), some (vR 18), some (vR 80), some (vR 148), some (vz i), none, none] [] Q) : ab_W X ab_LW 2048 G 296 [some (vR 0), some (vR 18), some (vR 80), some (vR 148), some (vz i), none, none] [] Q := by
  obtain ⟨RD, FT, sz, PG, cw, fa, fp, sn, sf, xa, Fa, xb, Fb, xr, Fr, LA, ry, tq, td, th, gj, zj, fj, nj, sj, fb, fq, us, ul, uf, ua, up, ub, uv, uo, uO, im, mg, ke, hp, hm, h0, h148, hy, hx, hz, hla_⟩ := h
  refine ab_aload_n d_LA_law_296 rfl ?_
  refine ab_aload_n d_LA_law_297 rfl ?_
  refine ab_iload d_LA_law_298 rfl ?_
  refine zz_iconst d_LA_law_300 ?_
  refine zz_iadd d_LA_law_301 ?_
  refine zz_iald d_LA_law_302 h0 (by omega) ?_
  have hq1 := hff (i + 1)
  obtain ⟨fs3, hfs3⟩ := hp.recv
  refine ab_callV (d' := 2047) (as := [vz (f (i + 1))]) (st := []) (r := _) (w_fault (d := 2047) (k := (f (i + 1))) hp (by omega) n18 (by decide)) (fun oc G2 h => by obtain ⟨_, _, _, _, _, _, _, _, _, _, _, _, _, _, _, _, _, _, _, _, _, h⟩ := h; obtain ⟨_, h, _⟩ := h; exact ⟨_, h⟩) (by decide) m_PW_fault ml_LA_56 im_PW_fault se_PW_fault c_PW hfs3 (Nat.le_of_ble_eq_true rfl) d_LA_law_303 rfl ?_
  intro v G2 hq
  obtain ⟨oG2, SG2, RDG2, FTG2, szG2, PGG2, cwG2, faG2, fpG2, snG2, sfG2, xaG2, FaG2, xbG2, FbG2, xrG2, FrG2, LAG2, hfG2, hSG2, hp, hr⟩ := hq
  obtain ⟨w4, hr, hcl, e1_, e2_, e3_, e4_, e5_, e6_, e7_, e8_, e9_, e10_, e11_, e12_, e13_, e14_, e15_, e16_⟩ := hr
  rw [e1_, e2_, e3_, e4_, e5_, e6_, e7_, e8_, e9_, e10_, e11_, e12_, e13_, e14_, e15_, e16_] at hp
  cases hr
  have h0 := hfG2.get h0 (nl_w hSG2 0 (by decide))
  have h148 := hfG2.get h148 (nl_w hSG2 348 (by decide))
  have hm := hm.fr hfG2 (fun l hl => by have := hSG2 l hl; omega)
  change ab_W _ _ _ G2 306 [some (vR 0), some (vR 18), some (vR 80), some (vR 148), some (vz i), none, none] [vz w4] _
  refine ab_aload_n d_LA_law_306 rfl ?_
  refine ab_aload_n d_LA_law_307 rfl ?_
  refine ab_iload d_LA_law_308 rfl ?_
  refine zz_iconst d_LA_law_310 ?_
  refine zz_iadd d_LA_law_311 ?_
  refine zz_iald d_LA_law_312 h0 (by omega) ?_
  have hq5 := hff (i + 1)
  obtain ⟨fs7, hfs7⟩ := hm.recv
  refine ab_callV (d' := 2047) (as := [vz (f (i + 1))]) (st := [vz w4]) (r := _) (w_MO_fault (d := 2047) (x := (f (i + 1))) hm (by omega) (by decide)) (fun oc G2 h => by obtain ⟨_, _, _, _, _, _, _, _, _, _, _, _, _, _, _, _, _, _, _, _, _, _, _, _, h, _⟩ := h; obtain ⟨_, h⟩ := h; exact ⟨_, h⟩) (by decide) m_MO_fault ml_LA_59 im_MO_fault se_MO_fault c_MO hfs7 (Nat.le_of_ble_eq_true rfl) d_LA_law_313 rfl ?_
  intro v G6 hq
  obtain ⟨ryG6, tqG6, tdG6, thG6, gjG6, zjG6, fjG6, njG6, sjG6, fbG6, fqG6, usG6, ulG6, ufG6, uaG6, upG6, ubG6, uvG6, uoG6, uOG6, imG6, mgG6, keG6, hrm, hr, hfG6, hlG6, hsG6, t8, hm⟩ := hq
  obtain ⟨w9, hrw, hvl, f1_, f2_, f3_, f4_, f5_, f6_, f7_, f8_, f9_, f10_, f11_, f12_, f13_, f14_, f15_, f16_, f17_, f18_, f19_, f20_, f21_, f22_, f23_⟩ := hrm
  clear hr
  have hr := hrw
  rw [f1_, f2_, f3_, f4_, f5_, f6_, f7_, f8_, f9_, f10_, f11_, f12_, f13_, f14_, f15_, f16_, f17_, f18_, f19_, f20_, f21_, f22_, f23_] at hm
  have hvq_ := syn_ft hy hcl hvl
  cases hr
  have h0 := hfG6.get h0 (by decide)
  have h148 := hfG6.get h148 (by decide)
  have hp := hp.fr hfG6 hlG6 hsG6 (by decide)
  change ab_W _ _ _ G6 316 [some (vR 0), some (vR 18), some (vR 80), some (vR 148), some (vz i), none, none] [vz w9, vz w4] _
  refine ab_icmp_eq (tgt := 931) d_LA_law_316 (by decide) (fun _ => ?_) (fun c => absurd (congrArg Int32.ofInt hvq_) c)
  exact K _ _ _ _ ⟨_, _, _, _, _, _, _, _, _, _, _, _, _, _, _, _, _, _, _, _, _, _, _, _, _, _, _, _, _, _, _, _, _, _, _, _, _, _, _, hp, hm, h0, h148, hy, hx, hz, hla_⟩
set_option maxRecDepth 100000 in
set_option maxHeartbeats 4000000 in
theorem lq_4 {X : ab_X} {Q : Outcome → ab_G → Prop} {o : Nat → Nat} {G : ab_G} {L : Nat} {f F : Int → Int} {lf : Nat} {t i : Int} (h : lwI o G L f F (lf + 1) t) (hff : ∀ k : Int, -2147483648 ≤ f k ∧ f k ≤ 2147483647) (hi : 0 ≤ i ∧ i + 6 ≤ ↑L ∧ ↑L ≤ (3072 : Int)) (n18 : ab_n0 = 18)
    (K : ∀ (o2 : Nat → Nat) (G2 : ab_G) (F2 : Int → Int) (t2 : Int), lwI o2 G2 L f F2 lf t2 → ab_W X ab_LW 2048 G2 931 [some (vR 0), some (vR 18), some (vR 80), some (vR 148), some (vz i), none, none] [] Q) : ab_W X ab_LW 2048 G 321 [some (vR 0), some (vR 18), some (vR 80), some (vR 148), some (vz i), none, none] [] Q := by
  obtain ⟨RD, FT, sz, PG, cw, fa, fp, sn, sf, xa, Fa, xb, Fb, xr, Fr, LA, ry, tq, td, th, gj, zj, fj, nj, sj, fb, fq, us, ul, uf, ua, up, ub, uv, uo, uO, im, mg, ke, hp, hm, h0, h148, hy, hx, hz, hla_⟩ := h
  refine ab_aload_n d_LA_law_321 rfl ?_
  refine ab_aload_n d_LA_law_322 rfl ?_
  refine ab_iload d_LA_law_323 rfl ?_
  refine zz_iconst d_LA_law_325 ?_
  refine zz_iadd d_LA_law_326 ?_
  refine zz_iald d_LA_law_327 h0 (by omega) ?_
  have hq1 := hff (i + 1)
  refine ab_aload_n d_LA_law_328 rfl ?_
  refine ab_iload d_LA_law_329 rfl ?_
  refine zz_iconst d_LA_law_331 ?_
  refine zz_iadd d_LA_law_332 ?_
  refine zz_iald d_LA_law_333 h0 (by omega) ?_
  have hq2 := hff (i + 2)
  obtain ⟨fs4, hfs4⟩ := hp.recv
  refine ab_callV (d' := 2047) (as := [vz (f (i + 1)), vz (f (i + 2))]) (st := []) (r := _) (w_about (d := 2047) (sl := (f (i + 1))) (x := (f (i + 2))) hp (by omega) n18 (by decide)) (fun oc G2 h => by obtain ⟨_, _, _, _, _, _, _, _, _, _, _, _, _, _, _, _, _, _, _, _, _, h⟩ := h; obtain ⟨_, h, _⟩ := h; exact ⟨_, h⟩) (by decide) m_PW_about ml_LA_60 im_PW_about se_PW_about c_PW hfs4 (Nat.le_of_ble_eq_true rfl) d_LA_law_334 rfl ?_
  intro v G3 hq
  obtain ⟨oG3, SG3, RDG3, FTG3, szG3, PGG3, cwG3, faG3, fpG3, snG3, sfG3, xaG3, FaG3, xbG3, FbG3, xrG3, FrG3, LAG3, hfG3, hSG3, hp, hr⟩ := hq
  obtain ⟨w5, hr, hcl, e1_, e2_, e3_, e4_, e5_, e6_, e7_, e8_, e9_, e10_, e11_, e12_, e13_, e14_, e15_, e16_⟩ := hr
  rw [e1_, e2_, e3_, e4_, e5_, e6_, e7_, e8_, e9_, e10_, e11_, e12_, e13_, e14_, e15_, e16_] at hp
  cases hr
  have h0 := hfG3.get h0 (nl_w hSG3 0 (by decide))
  have h148 := hfG3.get h148 (nl_w hSG3 348 (by decide))
  have hm := hm.fr hfG3 (fun l hl => by have := hSG3 l hl; omega)
  change ab_W _ _ _ G3 337 [some (vR 0), some (vR 18), some (vR 80), some (vR 148), some (vz i), none, none] [vz w5] _
  refine ab_aload_n d_LA_law_337 rfl ?_
  refine ab_aload_n d_LA_law_338 rfl ?_
  refine ab_iload d_LA_law_339 rfl ?_
  refine zz_iconst d_LA_law_341 ?_
  refine zz_iadd d_LA_law_342 ?_
  refine zz_iald d_LA_law_343 h0 (by omega) ?_
  have hq6 := hff (i + 1)
  refine ab_aload_n d_LA_law_344 rfl ?_
  refine ab_iload d_LA_law_345 rfl ?_
  refine zz_iconst d_LA_law_347 ?_
  refine zz_iadd d_LA_law_348 ?_
  refine zz_iald d_LA_law_349 h0 (by omega) ?_
  have hq7 := hff (i + 2)
  obtain ⟨fs9, hfs9⟩ := hm.recv
  refine ab_callV (d' := 2047) (as := [vz (f (i + 1)), vz (f (i + 2))]) (st := [vz w5]) (r := _) (w_MO_about (d := 2047) (x := (f (i + 1))) (y := (f (i + 2))) hm (by omega) (by decide)) (fun oc G2 h => by obtain ⟨_, _, _, _, _, _, _, _, _, _, _, _, _, _, _, _, _, _, _, _, _, _, _, _, h, _⟩ := h; obtain ⟨_, h⟩ := h; exact ⟨_, h⟩) (by decide) m_MO_about ml_LA_63 im_MO_about se_MO_about c_MO hfs9 (Nat.le_of_ble_eq_true rfl) d_LA_law_350 rfl ?_
  intro v G8 hq
  obtain ⟨ryG8, tqG8, tdG8, thG8, gjG8, zjG8, fjG8, njG8, sjG8, fbG8, fqG8, usG8, ulG8, ufG8, uaG8, upG8, ubG8, uvG8, uoG8, uOG8, imG8, mgG8, keG8, hrm, hr, hfG8, hlG8, hsG8, t10, hm⟩ := hq
  obtain ⟨w11, hrw, hvl, f1_, f2_, f3_, f4_, f5_, f6_, f7_, f8_, f9_, f10_, f11_, f12_, f13_, f14_, f15_, f16_, f17_, f18_, f19_, f20_, f21_, f22_, f23_⟩ := hrm
  clear hr
  have hr := hrw
  rw [f1_, f2_, f3_, f4_, f5_, f6_, f7_, f8_, f9_, f10_, f11_, f12_, f13_, f14_, f15_, f16_, f17_, f18_, f19_, f20_, f21_, f22_, f23_] at hm
  have hvq_ := syn_ab hy hcl hvl
  cases hr
  have h0 := hfG8.get h0 (by decide)
  have h148 := hfG8.get h148 (by decide)
  have hp := hp.fr hfG8 hlG8 hsG8 (by decide)
  change ab_W _ _ _ G8 353 [some (vR 0), some (vR 18), some (vR 80), some (vR 148), some (vz i), none, none] [vz w11, vz w5] _
  refine ab_icmp_eq (tgt := 931) d_LA_law_353 (by decide) (fun _ => ?_) (fun c => absurd (congrArg Int32.ofInt hvq_) c)
  exact K _ _ _ _ ⟨_, _, _, _, _, _, _, _, _, _, _, _, _, _, _, _, _, _, _, _, _, _, _, _, _, _, _, _, _, _, _, _, _, _, _, _, _, _, _, hp, hm, h0, h148, hy, hx, hz, hla_⟩
