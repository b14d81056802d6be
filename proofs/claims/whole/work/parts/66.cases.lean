/-! The law: its cases (printed by l4.py) -/
def lw_B (l : Launch) (X : sk_X) (O : sk_O) (A : Nat → Prop) (a k w b n : Nat) (cA : ClassId) (xs : Nat → Int32) : Prop := sk_C X cL_law 7 RL room_1 O A ∧ sk_LC X O A a cA ∧ sk_Sr (sk_s X) ∧ sk_Nx (sk_s X) ∧ sk_inj O ∧ l.stackTraces = false ∧ lw_X X A b n xs ∧ sk_isX O k ∧ sk_isM O w ∧ rl_ap k w
abbrev lw_lv (O : sk_O) (a k w b i : Nat) : List (Nat × Value) := [(0, .ref b), (1, .ref (sk_ad O k)), (2, .ref (sk_ad O w)), (3, .ref a), (4, .int (nI i))]
def lw_E (l : Launch) (X : sk_X) (O : sk_O) (A : Nat → Prop) (Q : State → Prop) (a : Nat) (cA : ClassId) (k w b i kc ks : Nat) : Prop := ∀ (kc' ks' : Nat) (M' : sk_M) (v' : Int64) (S' : rl_T), kc' ≤ kc + 1 → ks' ≤ ks + 6 → rl_C M' k S' → rl_D M' w S' → sk_L l X O A Q a cA v' 7 kc' ks' M' 1982 (lw_lv O a k w b i) []
set_option maxRecDepth 100000 in
theorem lc_0 {l : Launch} {X : sk_X} {O : sk_O} {A : Nat → Prop} {Q : State → Prop} {a k w b n i kc ks : Nat} {cA : ClassId} {xs : Nat → Int32} {M : sk_M} {v0 : Int64} {S : rl_T} (B : lw_B l X O A a k w b n cA xs) (hi : i + 5 ≤ n) (hkc : kc ≤ 600000) (hks : ks ≤ 7000000) (Cr : rl_C M k S) (D : rl_D M w S) (E : lw_E l X O A Q a cA k w b i kc ks) : sk_L l X O A Q a cA v0 7 kc ks M 160 (lw_lv O a k w b i) [] := by
  obtain ⟨C, L, hSr, hNx, hO, hst, hX, hkx, hkm, ap⟩ := B
  obtain ⟨o, H⟩ := Cr.2.1
  refine l_aloadn C 1 dL_law_160 rfl ?_
  refine l_aloadn C 0 dL_law_161 rfl ?_
  refine l_iload C 4 dL_law_162 rfl ?_
  refine l_iconst C 1 dL_law_164 (by decide) ?_
  refine l_iadd C dL_law_165 ?_
  refine l_sald C hX (i + 1) (show nI i + (1 : Int32) = nI (i + 1) from nI_add i 1) (by omega) dL_law_166 ?_
  refine l_aloadn C 3 dL_law_167 rfl ?_
  refine l_gi C L hSr hNx (as := [.ref (sk_ad O k), .int (xs (i + 1)), .ref a]) yg_append ml_L_102 (g_L_append l hO M (k := k) (c := (xs (i + 1))) (hk := hkx) (n := S.n) (hn := Cr.2.2.2.2.1) (hn2 := Cr.2.2.2.1) (hst := hst) (ca := a) (cA := cA) (v0 := v0)) rfl rfl (Nat.le_of_ble_eq_true rfl) ⟨⟨by decide, by decide⟩, by show kc + 1 ≤ 601024; omega, by show ks + 6 ≤ 7293034; omega⟩ dL_law_168 (fun x M1 v1 h1 => ?_)
  obtain ⟨x0, r, hx0, hx3, hw, hv⟩ := h1
  subst hx0
  dsimp only at hw hv
  have hy := wv2 (by decide) hw
  have D1 := d_0 Cr D ap hy
  have h8 := rl_D.h Cr D1
  refine l_istore C [1, 2, 3, 4, 5, 0] [(0, .ref b), (1, .ref (sk_ad O k)), (2, .ref (sk_ad O w)), (3, .ref a), (4, .int (nI i)), (5, .int (nI x0))] dL_law_171 (by decide) rfl ?_
  refine l_aloadn C 2 dL_law_173 rfl ?_
  refine l_aloadn C 0 dL_law_174 rfl ?_
  refine l_iload C 4 dL_law_175 rfl ?_
  refine l_iconst C 1 dL_law_177 (by decide) ?_
  refine l_iadd C dL_law_178 ?_
  refine l_sald C hX (i + 1) (show nI i + (1 : Int32) = nI (i + 1) from nI_add i 1) (by omega) dL_law_179 ?_
  refine l_vi C L (as := [.int (xs (i + 1))]) yvX8_append viX8_append ml_L_107 (m_X8_append l hO M1 (k := w) (hk := hkm) (v := (xs (i + 1))) (n := S.n) (hn := h8.2.2.2.2.2.1) (hn2 := h8.2.2.2.2.2.2.1)) hkm.1 rfl rfl rfl (Nat.le_of_ble_eq_true rfl) ⟨⟨by decide, by decide⟩, by show kc + 1 ≤ 601024; omega, by show ks + 6 ≤ 7293034; omega⟩ dL_law_180 (fun r2 M2 h2 => ?_)
  obtain ⟨s1, s2, S2, s3, s4⟩ := s_0 Cr D ap hy h2
  refine l_istore C [1, 2, 3, 4, 5, 6, 0] [(0, .ref b), (1, .ref (sk_ad O k)), (2, .ref (sk_ad O w)), (3, .ref a), (4, .int (nI i)), (5, .int (nI x0)), (6, .int r2)] dL_law_183 (by decide) rfl ?_
  refine l_aloadn C 2 dL_law_185 rfl ?_
  refine l_vi C L (as := []) yvX8_thrown viX8_thrown ml_L_108 (m_X8_thrown l hO M2 (k := w) (hk := hkm)) hkm.1 rfl rfl rfl (Nat.le_of_ble_eq_true rfl) ⟨⟨by decide, by decide⟩, by show kc + 1 ≤ 601024; omega, by show ks + 6 ≤ 7293034; omega⟩ dL_law_186 (fun r3 M3 h3 => ?_)
  obtain ⟨h3, h4⟩ := h3
  subst h4
  subst h3
  refine l_iload C 5 dL_law_189 rfl ?_
  refine l_ceq C 196 dL_law_191 (by decide) (fun _ => ?_) (fun e => absurd s1 e)
  have fin : ∀ v2 : Int64, sk_L l X O A Q a cA v2 7 (kc + 1) (ks + 6) M3 1982 [(0, .ref b), (1, .ref (sk_ad O k)), (2, .ref (sk_ad O w)), (3, .ref a), (4, .int (nI i)), (5, .int (nI x0)), (6, .int r2)] [] := fun v2 => l_drop [0, 1, 2, 3, 4] (lw_lv O a k w b i) rfl (E _ _ _ _ _ (by omega) (by omega) s3 s4)
  refine l_iload C 5 dL_law_196 rfl ?_
  refine l_zne C 213 dL_law_198 (by decide) (fun _ => ?_) (fun e => ?_)
  · exact l_goto C 1982 dL_law_213 (by decide) (fin _)
  · have e0 : x0 = 0 := (nI_eq (b := 0) (by omega) (by decide)).mp e
    have e1 := hv e0
    have e2 := s2 e0
    subst e1
    subst e2
    refine l_aloadn C 3 dL_law_201 rfl ?_
    refine l_iconst C 0 dL_law_202 (by decide) ?_
    refine l_lald C L dL_law_203 ?_
    refine l_iload C 6 dL_law_204 rfl ?_
    refine l_i2l C dL_law_206 ?_
    refine l_lcmp C dL_law_207 ?_
    refine l_zeq C 213 dL_law_208 (by decide) (fun _ => ?_) (fun e => absurd (lg_same _) e)
    exact l_goto C 1982 dL_law_213 (by decide) (fin _)
set_option maxRecDepth 100000 in
theorem lc_1 {l : Launch} {X : sk_X} {O : sk_O} {A : Nat → Prop} {Q : State → Prop} {a k w b n i kc ks : Nat} {cA : ClassId} {xs : Nat → Int32} {M : sk_M} {v0 : Int64} {S : rl_T} (B : lw_B l X O A a k w b n cA xs) (hi : i + 5 ≤ n) (hkc : kc ≤ 600000) (hks : ks ≤ 7000000) (Cr : rl_C M k S) (D : rl_D M w S) (E : lw_E l X O A Q a cA k w b i kc ks) : sk_L l X O A Q a cA v0 7 kc ks M 216 (lw_lv O a k w b i) [] := by
  obtain ⟨C, L, hSr, hNx, hO, hst, hX, hkx, hkm, ap⟩ := B
  obtain ⟨o, H⟩ := Cr.2.1
  refine l_aloadn C 1 dL_law_216 rfl ?_
  refine l_vi C L (as := []) yvX7_clearText viX7_clearText ml_L_111 (m_X7_clearText l hO M (k := k) (hk := hkx)) hkx.1 rfl rfl rfl (Nat.le_of_ble_eq_true rfl) ⟨⟨by decide, by decide⟩, by show kc ≤ 601024; omega, by show ks ≤ 7293034; omega⟩ dL_law_217 (fun r M1 h1 => ?_)
  have D1 : rl_D M1 w S := D.o ap (by rw [h1.2]; exact (show rl_o k M M from fun _ _ => rfl).ms (by omega))
  have h8 := rl_D.h Cr D1
  refine l_aloadn C 2 dL_law_220 rfl ?_
  refine l_vi C L (as := []) yvX8_clearText viX8_clearText ml_L_114 (m_X8_clearText l hO M1 (k := w) (hk := hkm)) hkm.1 rfl rfl rfl (Nat.le_of_ble_eq_true rfl) ⟨⟨by decide, by decide⟩, by show kc ≤ 601024; omega, by show ks ≤ 7293034; omega⟩ dL_law_221 (fun r2 M2 h2 => ?_)
  obtain ⟨s1, S2, s2, s3⟩ := s_1 Cr D ap h1 h2
  exact l_ceq C 1982 dL_law_224 (by decide) (fun _ => E _ _ _ _ _ (by omega) (by omega) s2 s3) (fun e => absurd s1 e)
set_option maxRecDepth 100000 in
theorem lc_2 {l : Launch} {X : sk_X} {O : sk_O} {A : Nat → Prop} {Q : State → Prop} {a k w b n i kc ks : Nat} {cA : ClassId} {xs : Nat → Int32} {M : sk_M} {v0 : Int64} {S : rl_T} (B : lw_B l X O A a k w b n cA xs) (hi : i + 5 ≤ n) (hkc : kc ≤ 600000) (hks : ks ≤ 7000000) (Cr : rl_C M k S) (D : rl_D M w S) (E : lw_E l X O A Q a cA k w b i kc ks) : sk_L l X O A Q a cA v0 7 kc ks M 229 (lw_lv O a k w b i) [] := by
  obtain ⟨C, L, hSr, hNx, hO, hst, hX, hkx, hkm, ap⟩ := B
  obtain ⟨o, H⟩ := Cr.2.1
  refine l_aloadn C 1 dL_law_229 rfl ?_
  refine l_vi C L (as := []) yvX7_errorPosition viX7_errorPosition ml_L_115 (m_X7_errorPosition l hO M (k := k) (n := S.n) (hk := hkx) (hn := Cr.2.2.2.2.1) (hn2 := Cr.2.2.2.1)) hkx.1 rfl rfl rfl (Nat.le_of_ble_eq_true rfl) ⟨⟨by decide, by decide⟩, by show kc ≤ 601024; omega, by show ks ≤ 7293034; omega⟩ dL_law_230 (fun r M1 h1 => ?_)
  have D1 : rl_D M1 w S := d_2 D ap h1
  have h8 := rl_D.h Cr D1
  refine l_aloadn C 2 dL_law_233 rfl ?_
  refine l_vi C L (as := []) yvX8_errorPosition viX8_errorPosition ml_L_118 (m_X8_errorPosition l hO M1 (k := w) (n := S.n) (S := M1 (w + 1)) (hk := hkm) (hS := rfl) (hn := h8.2.2.2.2.2.1) (hn2 := h8.2.2.2.2.2.2.1) (hr := h8.2.2.2.2.2.2.2)) hkm.1 rfl rfl rfl (Nat.le_of_ble_eq_true rfl) ⟨⟨by decide, by decide⟩, by show kc ≤ 601024; omega, by show ks ≤ 7293034; omega⟩ dL_law_234 (fun r2 M2 h2 => ?_)
  obtain ⟨s1, S2, s2, s3⟩ := s_2 Cr D ap h1 h2
  exact l_ceq C 1982 dL_law_237 (by decide) (fun _ => E _ _ _ _ _ (by omega) (by omega) s2 s3) (fun e => absurd s1 e)
set_option maxRecDepth 100000 in
theorem lc_3 {l : Launch} {X : sk_X} {O : sk_O} {A : Nat → Prop} {Q : State → Prop} {a k w b n i kc ks : Nat} {cA : ClassId} {xs : Nat → Int32} {M : sk_M} {v0 : Int64} {S : rl_T} (B : lw_B l X O A a k w b n cA xs) (hi : i + 5 ≤ n) (hkc : kc ≤ 600000) (hks : ks ≤ 7000000) (Cr : rl_C M k S) (D : rl_D M w S) (E : lw_E l X O A Q a cA k w b i kc ks) : sk_L l X O A Q a cA v0 7 kc ks M 242 (lw_lv O a k w b i) [] := by
  obtain ⟨C, L, hSr, hNx, hO, hst, hX, hkx, hkm, ap⟩ := B
  obtain ⟨o, H⟩ := Cr.2.1
  refine l_aloadn C 1 dL_law_242 rfl ?_
  refine l_aloadn C 0 dL_law_243 rfl ?_
  refine l_iload C 4 dL_law_244 rfl ?_
  refine l_iconst C 1 dL_law_246 (by decide) ?_
  refine l_iadd C dL_law_247 ?_
  refine l_sald C hX (i + 1) (show nI i + (1 : Int32) = nI (i + 1) from nI_add i 1) (by omega) dL_law_248 ?_
  refine l_aloadn C 3 dL_law_249 rfl ?_
  refine l_gi C L hSr hNx (as := [.ref (sk_ad O k), .int (xs (i + 1)), .ref a]) yg_about ml_L_119 (g_L_about l hO M (k := k) (w := (xs (i + 1))) (hk := hkx) (hw := Cr.1.wf) (hst := hst) (ca := a) (cA := cA) (v0 := v0)) rfl rfl (Nat.le_of_ble_eq_true rfl) ⟨⟨by decide, by decide⟩, by show kc + 1 ≤ 601024; omega, by show ks + 6 ≤ 7293034; omega⟩ dL_law_250 (fun x M1 v1 h1 => ?_)
  obtain ⟨x0, r, hx0, hx3, hw, hv⟩ := h1
  subst hx0
  dsimp only at hw hv
  have hy := wv1 hw
  have D1 := d_3 Cr D ap hy
  have h8 := rl_D.h Cr D1
  refine l_istore C [1, 2, 3, 4, 5, 0] [(0, .ref b), (1, .ref (sk_ad O k)), (2, .ref (sk_ad O w)), (3, .ref a), (4, .int (nI i)), (5, .int (nI x0))] dL_law_253 (by decide) rfl ?_
  refine l_aloadn C 2 dL_law_255 rfl ?_
  refine l_aloadn C 0 dL_law_256 rfl ?_
  refine l_iload C 4 dL_law_257 rfl ?_
  refine l_iconst C 1 dL_law_259 (by decide) ?_
  refine l_iadd C dL_law_260 ?_
  refine l_sald C hX (i + 1) (show nI i + (1 : Int32) = nI (i + 1) from nI_add i 1) (by omega) dL_law_261 ?_
  refine l_vi C L (as := [.int (xs (i + 1))]) yvX8_about viX8_about ml_L_121 (m_X8_about l hO M1 (k := w) (hk := hkm) (w := (xs (i + 1))) (m := S.m) (hm4 := h8.1) (hm := h8.2.1) (hmj := h8.2.2.1)) hkm.1 rfl rfl rfl (Nat.le_of_ble_eq_true rfl) ⟨⟨by decide, by decide⟩, by show kc + 1 ≤ 601024; omega, by show ks + 6 ≤ 7293034; omega⟩ dL_law_262 (fun r2 M2 h2 => ?_)
  obtain ⟨s1, s2, S2, s3, s4⟩ := s_3 Cr D ap hy h2
  refine l_istore C [1, 2, 3, 4, 5, 6, 0] [(0, .ref b), (1, .ref (sk_ad O k)), (2, .ref (sk_ad O w)), (3, .ref a), (4, .int (nI i)), (5, .int (nI x0)), (6, .int r2)] dL_law_265 (by decide) rfl ?_
  refine l_aloadn C 2 dL_law_267 rfl ?_
  refine l_vi C L (as := []) yvX8_thrown viX8_thrown ml_L_108 (m_X8_thrown l hO M2 (k := w) (hk := hkm)) hkm.1 rfl rfl rfl (Nat.le_of_ble_eq_true rfl) ⟨⟨by decide, by decide⟩, by show kc + 1 ≤ 601024; omega, by show ks + 6 ≤ 7293034; omega⟩ dL_law_268 (fun r3 M3 h3 => ?_)
  obtain ⟨h3, h4⟩ := h3
  subst h4
  subst h3
  refine l_iload C 5 dL_law_271 rfl ?_
  refine l_ceq C 278 dL_law_273 (by decide) (fun _ => ?_) (fun e => absurd s1 e)
  have fin : ∀ v2 : Int64, sk_L l X O A Q a cA v2 7 (kc + 1) (ks + 6) M3 1982 [(0, .ref b), (1, .ref (sk_ad O k)), (2, .ref (sk_ad O w)), (3, .ref a), (4, .int (nI i)), (5, .int (nI x0)), (6, .int r2)] [] := fun v2 => l_drop [0, 1, 2, 3, 4] (lw_lv O a k w b i) rfl (E _ _ _ _ _ (by omega) (by omega) s3 s4)
  refine l_iload C 5 dL_law_278 rfl ?_
  refine l_zne C 295 dL_law_280 (by decide) (fun _ => ?_) (fun e => ?_)
  · exact l_goto C 1982 dL_law_295 (by decide) (fin _)
  · have e0 : x0 = 0 := (nI_eq (b := 0) (by omega) (by decide)).mp e
    have e1 := hv e0
    have e2 := s2 e0
    subst e1
    subst e2
    refine l_aloadn C 3 dL_law_283 rfl ?_
    refine l_iconst C 0 dL_law_284 (by decide) ?_
    refine l_lald C L dL_law_285 ?_
    refine l_iload C 6 dL_law_286 rfl ?_
    refine l_i2l C dL_law_288 ?_
    refine l_lcmp C dL_law_289 ?_
    refine l_zeq C 295 dL_law_290 (by decide) (fun _ => ?_) (fun e => absurd (lg_same _) e)
    exact l_goto C 1982 dL_law_295 (by decide) (fin _)
set_option maxRecDepth 100000 in
theorem lc_4 {l : Launch} {X : sk_X} {O : sk_O} {A : Nat → Prop} {Q : State → Prop} {a k w b n i kc ks : Nat} {cA : ClassId} {xs : Nat → Int32} {M : sk_M} {v0 : Int64} {S : rl_T} (B : lw_B l X O A a k w b n cA xs) (hi : i + 5 ≤ n) (hkc : kc ≤ 600000) (hks : ks ≤ 7000000) (Cr : rl_C M k S) (D : rl_D M w S) (E : lw_E l X O A Q a cA k w b i kc ks) : sk_L l X O A Q a cA v0 7 kc ks M 298 (lw_lv O a k w b i) [] := by
  obtain ⟨C, L, hSr, hNx, hO, hst, hX, hkx, hkm, ap⟩ := B
  obtain ⟨o, H⟩ := Cr.2.1
  refine l_aloadn C 1 dL_law_298 rfl ?_
  refine l_aloadn C 0 dL_law_299 rfl ?_
  refine l_iload C 4 dL_law_300 rfl ?_
  refine l_iconst C 1 dL_law_302 (by decide) ?_
  refine l_iadd C dL_law_303 ?_
  refine l_sald C hX (i + 1) (show nI i + (1 : Int32) = nI (i + 1) from nI_add i 1) (by omega) dL_law_304 ?_
  refine l_aloadn C 0 dL_law_305 rfl ?_
  refine l_iload C 4 dL_law_306 rfl ?_
  refine l_iconst C 2 dL_law_308 (by decide) ?_
  refine l_iadd C dL_law_309 ?_
  refine l_sald C hX (i + 2) (show nI i + (2 : Int32) = nI (i + 2) from nI_add i 2) (by omega) dL_law_310 ?_
  refine l_aloadn C 3 dL_law_311 rfl ?_
  refine l_gi C L hSr hNx (as := [.ref (sk_ad O k), .int (xs (i + 1)), .int (xs (i + 2)), .ref a]) yg_skater ml_L_122 (g_L_skater l hO M (k := k) (s := (xs (i + 1))) (w := (xs (i + 2))) (hk := hkx) (hw := Cr.1.wf) (hst := hst) (ca := a) (cA := cA) (v0 := v0)) rfl rfl (Nat.le_of_ble_eq_true rfl) ⟨⟨by decide, by decide⟩, by show kc + 1 ≤ 601024; omega, by show ks + 6 ≤ 7293034; omega⟩ dL_law_312 (fun x M1 v1 h1 => ?_)
  obtain ⟨x0, r, hx0, hx3, hw, hv⟩ := h1
  subst hx0
  dsimp only at hw hv
  have hy := wv2 (by decide) hw
  have D1 := d_4 Cr D ap hy
  have h8 := rl_D.h Cr D1
  refine l_istore C [1, 2, 3, 4, 5, 0] [(0, .ref b), (1, .ref (sk_ad O k)), (2, .ref (sk_ad O w)), (3, .ref a), (4, .int (nI i)), (5, .int (nI x0))] dL_law_315 (by decide) rfl ?_
  refine l_aloadn C 2 dL_law_317 rfl ?_
  refine l_aloadn C 0 dL_law_318 rfl ?_
  refine l_iload C 4 dL_law_319 rfl ?_
  refine l_iconst C 1 dL_law_321 (by decide) ?_
  refine l_iadd C dL_law_322 ?_
  refine l_sald C hX (i + 1) (show nI i + (1 : Int32) = nI (i + 1) from nI_add i 1) (by omega) dL_law_323 ?_
  refine l_aloadn C 0 dL_law_324 rfl ?_
  refine l_iload C 4 dL_law_325 rfl ?_
  refine l_iconst C 2 dL_law_327 (by decide) ?_
  refine l_iadd C dL_law_328 ?_
  refine l_sald C hX (i + 2) (show nI i + (2 : Int32) = nI (i + 2) from nI_add i 2) (by omega) dL_law_329 ?_
  refine l_vi C L (as := [.int (xs (i + 1)), .int (xs (i + 2))]) yvX8_skater viX8_skater ml_L_125 (m_X8_skater l hO M1 (k := w) (hk := hkm) (s := (xs (i + 1))) (w := (xs (i + 2))) (m := S.m) (hm4 := h8.1) (hm := h8.2.1) (hmj := h8.2.2.1)) hkm.1 rfl rfl rfl (Nat.le_of_ble_eq_true rfl) ⟨⟨by decide, by decide⟩, by show kc + 1 ≤ 601024; omega, by show ks + 6 ≤ 7293034; omega⟩ dL_law_330 (fun r2 M2 h2 => ?_)
  obtain ⟨s1, s2, S2, s3, s4⟩ := s_4 Cr D ap hy h2
  refine l_istore C [1, 2, 3, 4, 5, 6, 0] [(0, .ref b), (1, .ref (sk_ad O k)), (2, .ref (sk_ad O w)), (3, .ref a), (4, .int (nI i)), (5, .int (nI x0)), (6, .int r2)] dL_law_333 (by decide) rfl ?_
  refine l_aloadn C 2 dL_law_335 rfl ?_
  refine l_vi C L (as := []) yvX8_thrown viX8_thrown ml_L_108 (m_X8_thrown l hO M2 (k := w) (hk := hkm)) hkm.1 rfl rfl rfl (Nat.le_of_ble_eq_true rfl) ⟨⟨by decide, by decide⟩, by show kc + 1 ≤ 601024; omega, by show ks + 6 ≤ 7293034; omega⟩ dL_law_336 (fun r3 M3 h3 => ?_)
  obtain ⟨h3, h4⟩ := h3
  subst h4
  subst h3
  refine l_iload C 5 dL_law_339 rfl ?_
  refine l_ceq C 346 dL_law_341 (by decide) (fun _ => ?_) (fun e => absurd s1 e)
  have fin : ∀ v2 : Int64, sk_L l X O A Q a cA v2 7 (kc + 1) (ks + 6) M3 1982 [(0, .ref b), (1, .ref (sk_ad O k)), (2, .ref (sk_ad O w)), (3, .ref a), (4, .int (nI i)), (5, .int (nI x0)), (6, .int r2)] [] := fun v2 => l_drop [0, 1, 2, 3, 4] (lw_lv O a k w b i) rfl (E _ _ _ _ _ (by omega) (by omega) s3 s4)
  refine l_iload C 5 dL_law_346 rfl ?_
  refine l_zne C 363 dL_law_348 (by decide) (fun _ => ?_) (fun e => ?_)
  · exact l_goto C 1982 dL_law_363 (by decide) (fin _)
  · have e0 : x0 = 0 := (nI_eq (b := 0) (by omega) (by decide)).mp e
    have e1 := hv e0
    have e2 := s2 e0
    subst e1
    subst e2
    refine l_aloadn C 3 dL_law_351 rfl ?_
    refine l_iconst C 0 dL_law_352 (by decide) ?_
    refine l_lald C L dL_law_353 ?_
    refine l_iload C 6 dL_law_354 rfl ?_
    refine l_i2l C dL_law_356 ?_
    refine l_lcmp C dL_law_357 ?_
    refine l_zeq C 363 dL_law_358 (by decide) (fun _ => ?_) (fun e => absurd (lg_same _) e)
    exact l_goto C 1982 dL_law_363 (by decide) (fin _)
set_option maxRecDepth 100000 in
theorem lc_5 {l : Launch} {X : sk_X} {O : sk_O} {A : Nat → Prop} {Q : State → Prop} {a k w b n i kc ks : Nat} {cA : ClassId} {xs : Nat → Int32} {M : sk_M} {v0 : Int64} {S : rl_T} (B : lw_B l X O A a k w b n cA xs) (hi : i + 5 ≤ n) (hkc : kc ≤ 600000) (hks : ks ≤ 7000000) (Cr : rl_C M k S) (D : rl_D M w S) (E : lw_E l X O A Q a cA k w b i kc ks) : sk_L l X O A Q a cA v0 7 kc ks M 366 (lw_lv O a k w b i) [] := by
  obtain ⟨C, L, hSr, hNx, hO, hst, hX, hkx, hkm, ap⟩ := B
  obtain ⟨o, H⟩ := Cr.2.1
  refine l_aloadn C 1 dL_law_366 rfl ?_
  refine l_aloadn C 0 dL_law_367 rfl ?_
  refine l_iload C 4 dL_law_368 rfl ?_
  refine l_iconst C 1 dL_law_370 (by decide) ?_
  refine l_iadd C dL_law_371 ?_
  refine l_sald C hX (i + 1) (show nI i + (1 : Int32) = nI (i + 1) from nI_add i 1) (by omega) dL_law_372 ?_
  refine l_aloadn C 0 dL_law_373 rfl ?_
  refine l_iload C 4 dL_law_374 rfl ?_
  refine l_iconst C 2 dL_law_376 (by decide) ?_
  refine l_iadd C dL_law_377 ?_
  refine l_sald C hX (i + 2) (show nI i + (2 : Int32) = nI (i + 2) from nI_add i 2) (by omega) dL_law_378 ?_
  refine l_aloadn C 0 dL_law_379 rfl ?_
  refine l_iload C 4 dL_law_380 rfl ?_
  refine l_iconst C 3 dL_law_382 (by decide) ?_
  refine l_iadd C dL_law_383 ?_
  refine l_sald C hX (i + 3) (show nI i + (3 : Int32) = nI (i + 3) from nI_add i 3) (by omega) dL_law_384 ?_
  refine l_aloadn C 3 dL_law_385 rfl ?_
  refine l_gi C L hSr hNx (as := [.ref (sk_ad O k), .int (xs (i + 1)), .int (xs (i + 2)), .int (xs (i + 3)), .ref a]) yg_element ml_L_126 (g_L_element l hO M (k := k) (s := (xs (i + 1))) (e := (xs (i + 2))) (w := (xs (i + 3))) (hk := hkx) (hw := Cr.1.wf) (hst := hst) (ca := a) (cA := cA) (v0 := v0)) rfl rfl (Nat.le_of_ble_eq_true rfl) ⟨⟨by decide, by decide⟩, by show kc + 1 ≤ 601024; omega, by show ks + 6 ≤ 7293034; omega⟩ dL_law_386 (fun x M1 v1 h1 => ?_)
  obtain ⟨x0, r, hx0, hx3, hw, hv⟩ := h1
  subst hx0
  dsimp only at hw hv
  have hy := wv2 (by decide) hw
  have D1 := d_5 Cr D ap hy
  have h8 := rl_D.h Cr D1
  refine l_istore C [1, 2, 3, 4, 5, 0] [(0, .ref b), (1, .ref (sk_ad O k)), (2, .ref (sk_ad O w)), (3, .ref a), (4, .int (nI i)), (5, .int (nI x0))] dL_law_389 (by decide) rfl ?_
  refine l_aloadn C 2 dL_law_391 rfl ?_
  refine l_aloadn C 0 dL_law_392 rfl ?_
  refine l_iload C 4 dL_law_393 rfl ?_
  refine l_iconst C 1 dL_law_395 (by decide) ?_
  refine l_iadd C dL_law_396 ?_
  refine l_sald C hX (i + 1) (show nI i + (1 : Int32) = nI (i + 1) from nI_add i 1) (by omega) dL_law_397 ?_
  refine l_aloadn C 0 dL_law_398 rfl ?_
  refine l_iload C 4 dL_law_399 rfl ?_
  refine l_iconst C 2 dL_law_401 (by decide) ?_
  refine l_iadd C dL_law_402 ?_
  refine l_sald C hX (i + 2) (show nI i + (2 : Int32) = nI (i + 2) from nI_add i 2) (by omega) dL_law_403 ?_
  refine l_aloadn C 0 dL_law_404 rfl ?_
  refine l_iload C 4 dL_law_405 rfl ?_
  refine l_iconst C 3 dL_law_407 (by decide) ?_
  refine l_iadd C dL_law_408 ?_
  refine l_sald C hX (i + 3) (show nI i + (3 : Int32) = nI (i + 3) from nI_add i 3) (by omega) dL_law_409 ?_
  refine l_vi C L (as := [.int (xs (i + 1)), .int (xs (i + 2)), .int (xs (i + 3))]) yvX8_element viX8_element ml_L_129 (m_X8_element l hO M1 (k := w) (hk := hkm) (s := (xs (i + 1))) (e := (xs (i + 2))) (w := (xs (i + 3))) (m := S.m) (hm4 := h8.1) (hm := h8.2.1) (hmj := h8.2.2.1)) hkm.1 rfl rfl rfl (Nat.le_of_ble_eq_true rfl) ⟨⟨by decide, by decide⟩, by show kc + 1 ≤ 601024; omega, by show ks + 6 ≤ 7293034; omega⟩ dL_law_410 (fun r2 M2 h2 => ?_)
  obtain ⟨s1, s2, S2, s3, s4⟩ := s_5 Cr D ap hy h2
  refine l_istore C [1, 2, 3, 4, 5, 6, 0] [(0, .ref b), (1, .ref (sk_ad O k)), (2, .ref (sk_ad O w)), (3, .ref a), (4, .int (nI i)), (5, .int (nI x0)), (6, .int r2)] dL_law_413 (by decide) rfl ?_
  refine l_aloadn C 2 dL_law_415 rfl ?_
  refine l_vi C L (as := []) yvX8_thrown viX8_thrown ml_L_108 (m_X8_thrown l hO M2 (k := w) (hk := hkm)) hkm.1 rfl rfl rfl (Nat.le_of_ble_eq_true rfl) ⟨⟨by decide, by decide⟩, by show kc + 1 ≤ 601024; omega, by show ks + 6 ≤ 7293034; omega⟩ dL_law_416 (fun r3 M3 h3 => ?_)
  obtain ⟨h3, h4⟩ := h3
  subst h4
  subst h3
  refine l_iload C 5 dL_law_419 rfl ?_
  refine l_ceq C 426 dL_law_421 (by decide) (fun _ => ?_) (fun e => absurd s1 e)
  have fin : ∀ v2 : Int64, sk_L l X O A Q a cA v2 7 (kc + 1) (ks + 6) M3 1982 [(0, .ref b), (1, .ref (sk_ad O k)), (2, .ref (sk_ad O w)), (3, .ref a), (4, .int (nI i)), (5, .int (nI x0)), (6, .int r2)] [] := fun v2 => l_drop [0, 1, 2, 3, 4] (lw_lv O a k w b i) rfl (E _ _ _ _ _ (by omega) (by omega) s3 s4)
  refine l_iload C 5 dL_law_426 rfl ?_
  refine l_zne C 443 dL_law_428 (by decide) (fun _ => ?_) (fun e => ?_)
  · exact l_goto C 1982 dL_law_443 (by decide) (fin _)
  · have e0 : x0 = 0 := (nI_eq (b := 0) (by omega) (by decide)).mp e
    have e1 := hv e0
    have e2 := s2 e0
    subst e1
    subst e2
    refine l_aloadn C 3 dL_law_431 rfl ?_
    refine l_iconst C 0 dL_law_432 (by decide) ?_
    refine l_lald C L dL_law_433 ?_
    refine l_iload C 6 dL_law_434 rfl ?_
    refine l_i2l C dL_law_436 ?_
    refine l_lcmp C dL_law_437 ?_
    refine l_zeq C 443 dL_law_438 (by decide) (fun _ => ?_) (fun e => absurd (lg_same _) e)
    exact l_goto C 1982 dL_law_443 (by decide) (fin _)
set_option maxRecDepth 100000 in
theorem lc_6 {l : Launch} {X : sk_X} {O : sk_O} {A : Nat → Prop} {Q : State → Prop} {a k w b n i kc ks : Nat} {cA : ClassId} {xs : Nat → Int32} {M : sk_M} {v0 : Int64} {S : rl_T} (B : lw_B l X O A a k w b n cA xs) (hi : i + 5 ≤ n) (hkc : kc ≤ 600000) (hks : ks ≤ 7000000) (Cr : rl_C M k S) (D : rl_D M w S) (E : lw_E l X O A Q a cA k w b i kc ks) : sk_L l X O A Q a cA v0 7 kc ks M 446 (lw_lv O a k w b i) [] := by
  obtain ⟨C, L, hSr, hNx, hO, hst, hX, hkx, hkm, ap⟩ := B
  obtain ⟨o, H⟩ := Cr.2.1
  refine l_aloadn C 1 dL_law_446 rfl ?_
  refine l_aloadn C 0 dL_law_447 rfl ?_
  refine l_iload C 4 dL_law_448 rfl ?_
  refine l_iconst C 1 dL_law_450 (by decide) ?_
  refine l_iadd C dL_law_451 ?_
  refine l_sald C hX (i + 1) (show nI i + (1 : Int32) = nI (i + 1) from nI_add i 1) (by omega) dL_law_452 ?_
  refine l_aloadn C 0 dL_law_453 rfl ?_
  refine l_iload C 4 dL_law_454 rfl ?_
  refine l_iconst C 2 dL_law_456 (by decide) ?_
  refine l_iadd C dL_law_457 ?_
  refine l_sald C hX (i + 2) (show nI i + (2 : Int32) = nI (i + 2) from nI_add i 2) (by omega) dL_law_458 ?_
  refine l_aloadn C 0 dL_law_459 rfl ?_
  refine l_iload C 4 dL_law_460 rfl ?_
  refine l_iconst C 3 dL_law_462 (by decide) ?_
  refine l_iadd C dL_law_463 ?_
  refine l_sald C hX (i + 3) (show nI i + (3 : Int32) = nI (i + 3) from nI_add i 3) (by omega) dL_law_464 ?_
  refine l_aloadn C 0 dL_law_465 rfl ?_
  refine l_iload C 4 dL_law_466 rfl ?_
  refine l_iconst C 4 dL_law_468 (by decide) ?_
  refine l_iadd C dL_law_469 ?_
  refine l_sald C hX (i + 4) (show nI i + (4 : Int32) = nI (i + 4) from nI_add i 4) (by omega) dL_law_470 ?_
  refine l_aloadn C 3 dL_law_471 rfl ?_
  refine l_gi C L hSr hNx (as := [.ref (sk_ad O k), .int (xs (i + 1)), .int (xs (i + 2)), .int (xs (i + 3)), .int (xs (i + 4)), .ref a]) yg_part ml_L_130 (g_L_part l hO M (k := k) (s := (xs (i + 1))) (e := (xs (i + 2))) (p := (xs (i + 3))) (w := (xs (i + 4))) (hk := hkx) (hw := Cr.1.wf) (hst := hst) (ca := a) (cA := cA) (v0 := v0)) rfl rfl (Nat.le_of_ble_eq_true rfl) ⟨⟨by decide, by decide⟩, by show kc + 1 ≤ 601024; omega, by show ks + 6 ≤ 7293034; omega⟩ dL_law_472 (fun x M1 v1 h1 => ?_)
  obtain ⟨x0, r, hx0, hx3, hw, hv⟩ := h1
  subst hx0
  dsimp only at hw hv
  have hy := wv2 (by decide) hw
  have D1 := d_6 Cr D ap hy
  have h8 := rl_D.h Cr D1
  refine l_istore C [1, 2, 3, 4, 5, 0] [(0, .ref b), (1, .ref (sk_ad O k)), (2, .ref (sk_ad O w)), (3, .ref a), (4, .int (nI i)), (5, .int (nI x0))] dL_law_475 (by decide) rfl ?_
  refine l_aloadn C 2 dL_law_477 rfl ?_
  refine l_aloadn C 0 dL_law_478 rfl ?_
  refine l_iload C 4 dL_law_479 rfl ?_
  refine l_iconst C 1 dL_law_481 (by decide) ?_
  refine l_iadd C dL_law_482 ?_
  refine l_sald C hX (i + 1) (show nI i + (1 : Int32) = nI (i + 1) from nI_add i 1) (by omega) dL_law_483 ?_
  refine l_aloadn C 0 dL_law_484 rfl ?_
  refine l_iload C 4 dL_law_485 rfl ?_
  refine l_iconst C 2 dL_law_487 (by decide) ?_
  refine l_iadd C dL_law_488 ?_
  refine l_sald C hX (i + 2) (show nI i + (2 : Int32) = nI (i + 2) from nI_add i 2) (by omega) dL_law_489 ?_
  refine l_aloadn C 0 dL_law_490 rfl ?_
  refine l_iload C 4 dL_law_491 rfl ?_
  refine l_iconst C 3 dL_law_493 (by decide) ?_
  refine l_iadd C dL_law_494 ?_
  refine l_sald C hX (i + 3) (show nI i + (3 : Int32) = nI (i + 3) from nI_add i 3) (by omega) dL_law_495 ?_
  refine l_aloadn C 0 dL_law_496 rfl ?_
  refine l_iload C 4 dL_law_497 rfl ?_
  refine l_iconst C 4 dL_law_499 (by decide) ?_
  refine l_iadd C dL_law_500 ?_
  refine l_sald C hX (i + 4) (show nI i + (4 : Int32) = nI (i + 4) from nI_add i 4) (by omega) dL_law_501 ?_
  refine l_vi C L (as := [.int (xs (i + 1)), .int (xs (i + 2)), .int (xs (i + 3)), .int (xs (i + 4))]) yvX8_part viX8_part ml_L_133 (m_X8_part l hO M1 (k := w) (hk := hkm) (s := (xs (i + 1))) (e := (xs (i + 2))) (p := (xs (i + 3))) (w := (xs (i + 4))) (m := S.m) (hm4 := h8.1) (hm := h8.2.1) (hmj := h8.2.2.1)) hkm.1 rfl rfl rfl (Nat.le_of_ble_eq_true rfl) ⟨⟨by decide, by decide⟩, by show kc + 1 ≤ 601024; omega, by show ks + 6 ≤ 7293034; omega⟩ dL_law_502 (fun r2 M2 h2 => ?_)
  obtain ⟨s1, s2, S2, s3, s4⟩ := s_6 Cr D ap hy h2
  refine l_istore C [1, 2, 3, 4, 5, 6, 0] [(0, .ref b), (1, .ref (sk_ad O k)), (2, .ref (sk_ad O w)), (3, .ref a), (4, .int (nI i)), (5, .int (nI x0)), (6, .int r2)] dL_law_505 (by decide) rfl ?_
  refine l_aloadn C 2 dL_law_507 rfl ?_
  refine l_vi C L (as := []) yvX8_thrown viX8_thrown ml_L_108 (m_X8_thrown l hO M2 (k := w) (hk := hkm)) hkm.1 rfl rfl rfl (Nat.le_of_ble_eq_true rfl) ⟨⟨by decide, by decide⟩, by show kc + 1 ≤ 601024; omega, by show ks + 6 ≤ 7293034; omega⟩ dL_law_508 (fun r3 M3 h3 => ?_)
  obtain ⟨h3, h4⟩ := h3
  subst h4
  subst h3
  refine l_iload C 5 dL_law_511 rfl ?_
  refine l_ceq C 518 dL_law_513 (by decide) (fun _ => ?_) (fun e => absurd s1 e)
  have fin : ∀ v2 : Int64, sk_L l X O A Q a cA v2 7 (kc + 1) (ks + 6) M3 1982 [(0, .ref b), (1, .ref (sk_ad O k)), (2, .ref (sk_ad O w)), (3, .ref a), (4, .int (nI i)), (5, .int (nI x0)), (6, .int r2)] [] := fun v2 => l_drop [0, 1, 2, 3, 4] (lw_lv O a k w b i) rfl (E _ _ _ _ _ (by omega) (by omega) s3 s4)
  refine l_iload C 5 dL_law_518 rfl ?_
  refine l_zne C 535 dL_law_520 (by decide) (fun _ => ?_) (fun e => ?_)
  · exact l_goto C 1982 dL_law_535 (by decide) (fin _)
  · have e0 : x0 = 0 := (nI_eq (b := 0) (by omega) (by decide)).mp e
    have e1 := hv e0
    have e2 := s2 e0
    subst e1
    subst e2
    refine l_aloadn C 3 dL_law_523 rfl ?_
    refine l_iconst C 0 dL_law_524 (by decide) ?_
    refine l_lald C L dL_law_525 ?_
    refine l_iload C 6 dL_law_526 rfl ?_
    refine l_i2l C dL_law_528 ?_
    refine l_lcmp C dL_law_529 ?_
    refine l_zeq C 535 dL_law_530 (by decide) (fun _ => ?_) (fun e => absurd (lg_same _) e)
    exact l_goto C 1982 dL_law_535 (by decide) (fin _)
set_option maxRecDepth 100000 in
theorem lc_7 {l : Launch} {X : sk_X} {O : sk_O} {A : Nat → Prop} {Q : State → Prop} {a k w b n i kc ks : Nat} {cA : ClassId} {xs : Nat → Int32} {M : sk_M} {v0 : Int64} {S : rl_T} (B : lw_B l X O A a k w b n cA xs) (hi : i + 5 ≤ n) (hkc : kc ≤ 600000) (hks : ks ≤ 7000000) (Cr : rl_C M k S) (D : rl_D M w S) (E : lw_E l X O A Q a cA k w b i kc ks) : sk_L l X O A Q a cA v0 7 kc ks M 538 (lw_lv O a k w b i) [] := by
  obtain ⟨C, L, hSr, hNx, hO, hst, hX, hkx, hkm, ap⟩ := B
  obtain ⟨o, H⟩ := Cr.2.1
  refine l_aloadn C 1 dL_law_538 rfl ?_
  refine l_aloadn C 0 dL_law_539 rfl ?_
  refine l_iload C 4 dL_law_540 rfl ?_
  refine l_iconst C 1 dL_law_542 (by decide) ?_
  refine l_iadd C dL_law_543 ?_
  refine l_sald C hX (i + 1) (show nI i + (1 : Int32) = nI (i + 1) from nI_add i 1) (by omega) dL_law_544 ?_
  refine l_aloadn C 3 dL_law_545 rfl ?_
  refine l_gi C L hSr hNx (as := [.ref (sk_ad O k), .int (xs (i + 1)), .ref a]) yg_setting ml_L_134 (g_L_setting l hO M (k := k) (w := (xs (i + 1))) (hk := hkx) (hst := hst) (ca := a) (cA := cA) (v0 := v0)) rfl rfl (Nat.le_of_ble_eq_true rfl) ⟨⟨by decide, by decide⟩, by show kc + 1 ≤ 601024; omega, by show ks + 6 ≤ 7293034; omega⟩ dL_law_546 (fun x M1 v1 h1 => ?_)
  obtain ⟨x0, r, hx0, hx3, hw, hv⟩ := h1
  subst hx0
  dsimp only at hw hv
  have hy := wv1 hw
  have D1 := d_7 Cr D ap hy
  have h8 := rl_D.h Cr D1
  refine l_istore C [1, 2, 3, 4, 5, 0] [(0, .ref b), (1, .ref (sk_ad O k)), (2, .ref (sk_ad O w)), (3, .ref a), (4, .int (nI i)), (5, .int (nI x0))] dL_law_549 (by decide) rfl ?_
  refine l_aloadn C 2 dL_law_551 rfl ?_
  refine l_aloadn C 0 dL_law_552 rfl ?_
  refine l_iload C 4 dL_law_553 rfl ?_
  refine l_iconst C 1 dL_law_555 (by decide) ?_
  refine l_iadd C dL_law_556 ?_
  refine l_sald C hX (i + 1) (show nI i + (1 : Int32) = nI (i + 1) from nI_add i 1) (by omega) dL_law_557 ?_
  refine l_vi C L (as := [.int (xs (i + 1))]) yvX8_setting viX8_setting ml_L_136 (m_X8_setting l hO M1 (k := w) (hk := hkm) (w := (xs (i + 1)))) hkm.1 rfl rfl rfl (Nat.le_of_ble_eq_true rfl) ⟨⟨by decide, by decide⟩, by show kc + 1 ≤ 601024; omega, by show ks + 6 ≤ 7293034; omega⟩ dL_law_558 (fun r2 M2 h2 => ?_)
  obtain ⟨s1, s2, S2, s3, s4⟩ := s_7 Cr D ap hy h2
  refine l_istore C [1, 2, 3, 4, 5, 6, 0] [(0, .ref b), (1, .ref (sk_ad O k)), (2, .ref (sk_ad O w)), (3, .ref a), (4, .int (nI i)), (5, .int (nI x0)), (6, .int r2)] dL_law_561 (by decide) rfl ?_
  refine l_aloadn C 2 dL_law_563 rfl ?_
  refine l_vi C L (as := []) yvX8_thrown viX8_thrown ml_L_108 (m_X8_thrown l hO M2 (k := w) (hk := hkm)) hkm.1 rfl rfl rfl (Nat.le_of_ble_eq_true rfl) ⟨⟨by decide, by decide⟩, by show kc + 1 ≤ 601024; omega, by show ks + 6 ≤ 7293034; omega⟩ dL_law_564 (fun r3 M3 h3 => ?_)
  obtain ⟨h3, h4⟩ := h3
  subst h4
  subst h3
  refine l_iload C 5 dL_law_567 rfl ?_
  refine l_ceq C 574 dL_law_569 (by decide) (fun _ => ?_) (fun e => absurd s1 e)
  have fin : ∀ v2 : Int64, sk_L l X O A Q a cA v2 7 (kc + 1) (ks + 6) M3 1982 [(0, .ref b), (1, .ref (sk_ad O k)), (2, .ref (sk_ad O w)), (3, .ref a), (4, .int (nI i)), (5, .int (nI x0)), (6, .int r2)] [] := fun v2 => l_drop [0, 1, 2, 3, 4] (lw_lv O a k w b i) rfl (E _ _ _ _ _ (by omega) (by omega) s3 s4)
  refine l_iload C 5 dL_law_574 rfl ?_
  refine l_zne C 591 dL_law_576 (by decide) (fun _ => ?_) (fun e => ?_)
  · exact l_goto C 1982 dL_law_591 (by decide) (fin _)
  · have e0 : x0 = 0 := (nI_eq (b := 0) (by omega) (by decide)).mp e
    have e1 := hv e0
    have e2 := s2 e0
    subst e1
    subst e2
    refine l_aloadn C 3 dL_law_579 rfl ?_
    refine l_iconst C 0 dL_law_580 (by decide) ?_
    refine l_lald C L dL_law_581 ?_
    refine l_iload C 6 dL_law_582 rfl ?_
    refine l_i2l C dL_law_584 ?_
    refine l_lcmp C dL_law_585 ?_
    refine l_zeq C 591 dL_law_586 (by decide) (fun _ => ?_) (fun e => absurd (lg_same _) e)
    exact l_goto C 1982 dL_law_591 (by decide) (fin _)
set_option maxRecDepth 100000 in
theorem lc_8 {l : Launch} {X : sk_X} {O : sk_O} {A : Nat → Prop} {Q : State → Prop} {a k w b n i kc ks : Nat} {cA : ClassId} {xs : Nat → Int32} {M : sk_M} {v0 : Int64} {S : rl_T} (B : lw_B l X O A a k w b n cA xs) (hi : i + 5 ≤ n) (hkc : kc ≤ 600000) (hks : ks ≤ 7000000) (Cr : rl_C M k S) (D : rl_D M w S) (E : lw_E l X O A Q a cA k w b i kc ks) : sk_L l X O A Q a cA v0 7 kc ks M 594 (lw_lv O a k w b i) [] := by
  obtain ⟨C, L, hSr, hNx, hO, hst, hX, hkx, hkm, ap⟩ := B
  obtain ⟨o, H⟩ := Cr.2.1
  refine l_aloadn C 1 dL_law_594 rfl ?_
  refine l_aloadn C 3 dL_law_595 rfl ?_
  refine l_gi C L hSr hNx (as := [.ref (sk_ad O k), .ref a]) yg_add ml_L_137 (g_L_add l hO M (k := k) (m := S.m) (hk := hkx) (hm := Cr.1.2.1) (hm4 := Cr.1.1) (o := o) (c := S.c) (ho := H.2.1) (hc := H.2.2.1) (ho14 := H.1) (hc14 := H.2.2.2.1) (hw := Cr.1.wf) (hst := hst) (ca := a) (cA := cA) (v0 := v0)) rfl rfl (Nat.le_of_ble_eq_true rfl) ⟨⟨by decide, by decide⟩, by show kc + 1 ≤ 601024; omega, by show ks + 6 ≤ 7293034; omega⟩ dL_law_596 (fun x M1 v1 h1 => ?_)
  obtain ⟨x0, r, hx0, hx3, hw, hv⟩ := h1
  subst hx0
  dsimp only at hw hv
  have hy := wv1 hw
  have D1 := d_8 Cr D ap H hy
  have h8 := rl_D.h Cr D1
  refine l_istore C [1, 2, 3, 4, 5, 0] [(0, .ref b), (1, .ref (sk_ad O k)), (2, .ref (sk_ad O w)), (3, .ref a), (4, .int (nI i)), (5, .int (nI x0))] dL_law_599 (by decide) rfl ?_
  refine l_aloadn C 2 dL_law_601 rfl ?_
  refine l_vi C L (as := []) yvX8_add viX8_add ml_L_140 (m_X8_add l hO M1 (k := w) (hk := hkm) (c := S.c) (hc := h8.2.2.2.1) (hc14 := h8.2.2.2.2.1) (m := S.m) (hm4 := h8.1) (hm := h8.2.1) (hmj := h8.2.2.1)) hkm.1 rfl rfl rfl (Nat.le_of_ble_eq_true rfl) ⟨⟨by decide, by decide⟩, by show kc + 1 ≤ 601024; omega, by show ks + 6 ≤ 7293034; omega⟩ dL_law_602 (fun r2 M2 h2 => ?_)
  obtain ⟨s1, s2, S2, s3, s4⟩ := s_8 Cr D ap H hy h2
  refine l_istore C [1, 2, 3, 4, 5, 6, 0] [(0, .ref b), (1, .ref (sk_ad O k)), (2, .ref (sk_ad O w)), (3, .ref a), (4, .int (nI i)), (5, .int (nI x0)), (6, .int r2)] dL_law_605 (by decide) rfl ?_
  refine l_aloadn C 2 dL_law_607 rfl ?_
  refine l_vi C L (as := []) yvX8_thrown viX8_thrown ml_L_108 (m_X8_thrown l hO M2 (k := w) (hk := hkm)) hkm.1 rfl rfl rfl (Nat.le_of_ble_eq_true rfl) ⟨⟨by decide, by decide⟩, by show kc + 1 ≤ 601024; omega, by show ks + 6 ≤ 7293034; omega⟩ dL_law_608 (fun r3 M3 h3 => ?_)
  obtain ⟨h3, h4⟩ := h3
  subst h4
  subst h3
  refine l_iload C 5 dL_law_611 rfl ?_
  refine l_ceq C 618 dL_law_613 (by decide) (fun _ => ?_) (fun e => absurd s1 e)
  have fin : ∀ v2 : Int64, sk_L l X O A Q a cA v2 7 (kc + 1) (ks + 6) M3 1982 [(0, .ref b), (1, .ref (sk_ad O k)), (2, .ref (sk_ad O w)), (3, .ref a), (4, .int (nI i)), (5, .int (nI x0)), (6, .int r2)] [] := fun v2 => l_drop [0, 1, 2, 3, 4] (lw_lv O a k w b i) rfl (E _ _ _ _ _ (by omega) (by omega) s3 s4)
  refine l_iload C 5 dL_law_618 rfl ?_
  refine l_zne C 635 dL_law_620 (by decide) (fun _ => ?_) (fun e => ?_)
  · exact l_goto C 1982 dL_law_635 (by decide) (fin _)
  · have e0 : x0 = 0 := (nI_eq (b := 0) (by omega) (by decide)).mp e
    have e1 := hv e0
    have e2 := s2 e0
    subst e1
    subst e2
    refine l_aloadn C 3 dL_law_623 rfl ?_
    refine l_iconst C 0 dL_law_624 (by decide) ?_
    refine l_lald C L dL_law_625 ?_
    refine l_iload C 6 dL_law_626 rfl ?_
    refine l_i2l C dL_law_628 ?_
    refine l_lcmp C dL_law_629 ?_
    refine l_zeq C 635 dL_law_630 (by decide) (fun _ => ?_) (fun e => absurd (lg_same _) e)
    exact l_goto C 1982 dL_law_635 (by decide) (fin _)
set_option maxRecDepth 100000 in
theorem lc_9 {l : Launch} {X : sk_X} {O : sk_O} {A : Nat → Prop} {Q : State → Prop} {a k w b n i kc ks : Nat} {cA : ClassId} {xs : Nat → Int32} {M : sk_M} {v0 : Int64} {S : rl_T} (B : lw_B l X O A a k w b n cA xs) (hi : i + 5 ≤ n) (hkc : kc ≤ 600000) (hks : ks ≤ 7000000) (Cr : rl_C M k S) (D : rl_D M w S) (E : lw_E l X O A Q a cA k w b i kc ks) : sk_L l X O A Q a cA v0 7 kc ks M 638 (lw_lv O a k w b i) [] := by
  obtain ⟨C, L, hSr, hNx, hO, hst, hX, hkx, hkm, ap⟩ := B
  obtain ⟨o, H⟩ := Cr.2.1
  refine l_aloadn C 1 dL_law_638 rfl ?_
  refine l_aloadn C 0 dL_law_639 rfl ?_
  refine l_iload C 4 dL_law_640 rfl ?_
  refine l_iconst C 1 dL_law_642 (by decide) ?_
  refine l_iadd C dL_law_643 ?_
  refine l_sald C hX (i + 1) (show nI i + (1 : Int32) = nI (i + 1) from nI_add i 1) (by omega) dL_law_644 ?_
  refine l_aloadn C 3 dL_law_645 rfl ?_
  refine l_gi C L hSr hNx (as := [.ref (sk_ad O k), .int (xs (i + 1)), .ref a]) yg_program ml_L_141 (g_L_program l hO M (k := k) (n := S.n) (s := (xs (i + 1))) (hk := hkx) (hn := Cr.2.2.2.2.1) (hn2 := Cr.2.2.2.1) (o := o) (c := S.c) (ho := H.2.1) (hc := H.2.2.1) (ho14 := H.1) (hc14 := H.2.2.2.1) (hw := Cr.1.wf) (hst := hst) (ca := a) (cA := cA) (v0 := v0)) rfl rfl (Nat.le_of_ble_eq_true rfl) ⟨⟨by decide, by decide⟩, by show kc + 1 ≤ 601024; omega, by show ks + 6 ≤ 7293034; omega⟩ dL_law_646 (fun x M1 v1 h1 => ?_)
  obtain ⟨x0, r, hx0, hx3, hw, hv⟩ := h1
  subst hx0
  dsimp only at hw hv
  have hy := hw
  have D1 := d_9 Cr D ap H hy
  have h8 := rl_D.h Cr D1
  refine l_istore C [1, 2, 3, 4, 5, 0] [(0, .ref b), (1, .ref (sk_ad O k)), (2, .ref (sk_ad O w)), (3, .ref a), (4, .int (nI i)), (5, .int (nI x0))] dL_law_649 (by decide) rfl ?_
  refine l_aloadn C 2 dL_law_651 rfl ?_
  refine l_aloadn C 0 dL_law_652 rfl ?_
  refine l_iload C 4 dL_law_653 rfl ?_
  refine l_iconst C 1 dL_law_655 (by decide) ?_
  refine l_iadd C dL_law_656 ?_
  refine l_sald C hX (i + 1) (show nI i + (1 : Int32) = nI (i + 1) from nI_add i 1) (by omega) dL_law_657 ?_
  refine l_vi C L (as := [.int (xs (i + 1))]) yvX8_program viX8_program ml_L_143 (m_X8_program l hO M1 (k := w) (hk := hkm) (s := (xs (i + 1))) (n := S.n) (hn := h8.2.2.2.2.2.1) (hn2 := h8.2.2.2.2.2.2.1) (hr := h8.2.2.2.2.2.2.2) (c := S.c) (hc := h8.2.2.2.1) (hc14 := h8.2.2.2.2.1) (m := S.m) (hm4 := h8.1) (hm := h8.2.1) (hmj := h8.2.2.1)) hkm.1 rfl rfl rfl (Nat.le_of_ble_eq_true rfl) ⟨⟨by decide, by decide⟩, by show kc + 1 ≤ 601024; omega, by show ks + 6 ≤ 7293034; omega⟩ dL_law_658 (fun r2 M2 h2 => ?_)
  obtain ⟨s1, s2, S2, s3, s4⟩ := s_9 Cr D ap H hy h2
  refine l_istore C [1, 2, 3, 4, 5, 6, 0] [(0, .ref b), (1, .ref (sk_ad O k)), (2, .ref (sk_ad O w)), (3, .ref a), (4, .int (nI i)), (5, .int (nI x0)), (6, .int r2)] dL_law_661 (by decide) rfl ?_
  refine l_aloadn C 2 dL_law_663 rfl ?_
  refine l_vi C L (as := []) yvX8_thrown viX8_thrown ml_L_108 (m_X8_thrown l hO M2 (k := w) (hk := hkm)) hkm.1 rfl rfl rfl (Nat.le_of_ble_eq_true rfl) ⟨⟨by decide, by decide⟩, by show kc + 1 ≤ 601024; omega, by show ks + 6 ≤ 7293034; omega⟩ dL_law_664 (fun r3 M3 h3 => ?_)
  obtain ⟨h3, h4⟩ := h3
  subst h4
  subst h3
  refine l_iload C 5 dL_law_667 rfl ?_
  refine l_ceq C 674 dL_law_669 (by decide) (fun _ => ?_) (fun e => absurd s1 e)
  have fin : ∀ v2 : Int64, sk_L l X O A Q a cA v2 7 (kc + 1) (ks + 6) M3 1982 [(0, .ref b), (1, .ref (sk_ad O k)), (2, .ref (sk_ad O w)), (3, .ref a), (4, .int (nI i)), (5, .int (nI x0)), (6, .int r2)] [] := fun v2 => l_drop [0, 1, 2, 3, 4] (lw_lv O a k w b i) rfl (E _ _ _ _ _ (by omega) (by omega) s3 s4)
  refine l_iload C 5 dL_law_674 rfl ?_
  refine l_zne C 691 dL_law_676 (by decide) (fun _ => ?_) (fun e => ?_)
  · exact l_goto C 1982 dL_law_691 (by decide) (fin _)
  · have e0 : x0 = 0 := (nI_eq (b := 0) (by omega) (by decide)).mp e
    have e1 := hv e0
    have e2 := s2 e0
    subst e1
    subst e2
    refine l_aloadn C 3 dL_law_679 rfl ?_
    refine l_iconst C 0 dL_law_680 (by decide) ?_
    refine l_lald C L dL_law_681 ?_
    refine l_iload C 6 dL_law_682 rfl ?_
    refine l_i2l C dL_law_684 ?_
    refine l_lcmp C dL_law_685 ?_
    refine l_zeq C 691 dL_law_686 (by decide) (fun _ => ?_) (fun e => absurd (lg_same _) e)
    exact l_goto C 1982 dL_law_691 (by decide) (fin _)
set_option maxRecDepth 100000 in
theorem lc_10 {l : Launch} {X : sk_X} {O : sk_O} {A : Nat → Prop} {Q : State → Prop} {a k w b n i kc ks : Nat} {cA : ClassId} {xs : Nat → Int32} {M : sk_M} {v0 : Int64} {S : rl_T} (B : lw_B l X O A a k w b n cA xs) (hi : i + 5 ≤ n) (hkc : kc ≤ 600000) (hks : ks ≤ 7000000) (Cr : rl_C M k S) (D : rl_D M w S) (E : lw_E l X O A Q a cA k w b i kc ks) : sk_L l X O A Q a cA v0 7 kc ks M 694 (lw_lv O a k w b i) [] := by
  obtain ⟨C, L, hSr, hNx, hO, hst, hX, hkx, hkm, ap⟩ := B
  obtain ⟨o, H⟩ := Cr.2.1
  refine l_aloadn C 1 dL_law_694 rfl ?_
  refine l_aloadn C 0 dL_law_695 rfl ?_
  refine l_iload C 4 dL_law_696 rfl ?_
  refine l_iconst C 1 dL_law_698 (by decide) ?_
  refine l_iadd C dL_law_699 ?_
  refine l_sald C hX (i + 1) (show nI i + (1 : Int32) = nI (i + 1) from nI_add i 1) (by omega) dL_law_700 ?_
  refine l_aloadn C 0 dL_law_701 rfl ?_
  refine l_iload C 4 dL_law_702 rfl ?_
  refine l_iconst C 2 dL_law_704 (by decide) ?_
  refine l_iadd C dL_law_705 ?_
  refine l_sald C hX (i + 2) (show nI i + (2 : Int32) = nI (i + 2) from nI_add i 2) (by omega) dL_law_706 ?_
  refine l_aloadn C 0 dL_law_707 rfl ?_
  refine l_iload C 4 dL_law_708 rfl ?_
  refine l_iconst C 3 dL_law_710 (by decide) ?_
  refine l_iadd C dL_law_711 ?_
  refine l_sald C hX (i + 3) (show nI i + (3 : Int32) = nI (i + 3) from nI_add i 3) (by omega) dL_law_712 ?_
  refine l_aloadn C 3 dL_law_713 rfl ?_
  refine l_gi C L hSr hNx (as := [.ref (sk_ad O k), .int (xs (i + 1)), .int (xs (i + 2)), .int (xs (i + 3)), .ref a]) yg_mark ml_L_144 (g_L_mark l hO M (k := k) (s := (xs (i + 1))) (e := (xs (i + 2))) (v := (xs (i + 3))) (hk := hkx) (o := o) (c := S.c) (ho := H.2.1) (hc := H.2.2.1) (ho14 := H.1) (hc14 := H.2.2.2.1) (hw := Cr.1.wf) (hst := hst) (ca := a) (cA := cA) (v0 := v0)) rfl rfl (Nat.le_of_ble_eq_true rfl) ⟨⟨by decide, by decide⟩, by show kc + 1 ≤ 601024; omega, by show ks + 6 ≤ 7293034; omega⟩ dL_law_714 (fun x M1 v1 h1 => ?_)
  obtain ⟨x0, r, hx0, hx3, hw, hv⟩ := h1
  subst hx0
  dsimp only at hw hv
  have hy := wv2 (by decide) hw
  have D1 := d_10 Cr D ap H hy
  have h8 := rl_D.h Cr D1
  refine l_istore C [1, 2, 3, 4, 5, 0] [(0, .ref b), (1, .ref (sk_ad O k)), (2, .ref (sk_ad O w)), (3, .ref a), (4, .int (nI i)), (5, .int (nI x0))] dL_law_717 (by decide) rfl ?_
  refine l_aloadn C 2 dL_law_719 rfl ?_
  refine l_aloadn C 0 dL_law_720 rfl ?_
  refine l_iload C 4 dL_law_721 rfl ?_
  refine l_iconst C 1 dL_law_723 (by decide) ?_
  refine l_iadd C dL_law_724 ?_
  refine l_sald C hX (i + 1) (show nI i + (1 : Int32) = nI (i + 1) from nI_add i 1) (by omega) dL_law_725 ?_
  refine l_aloadn C 0 dL_law_726 rfl ?_
  refine l_iload C 4 dL_law_727 rfl ?_
  refine l_iconst C 2 dL_law_729 (by decide) ?_
  refine l_iadd C dL_law_730 ?_
  refine l_sald C hX (i + 2) (show nI i + (2 : Int32) = nI (i + 2) from nI_add i 2) (by omega) dL_law_731 ?_
  refine l_aloadn C 0 dL_law_732 rfl ?_
  refine l_iload C 4 dL_law_733 rfl ?_
  refine l_iconst C 3 dL_law_735 (by decide) ?_
  refine l_iadd C dL_law_736 ?_
  refine l_sald C hX (i + 3) (show nI i + (3 : Int32) = nI (i + 3) from nI_add i 3) (by omega) dL_law_737 ?_
  refine l_vi C L (as := [.int (xs (i + 1)), .int (xs (i + 2)), .int (xs (i + 3))]) yvX8_mark viX8_mark ml_L_146 (m_X8_mark l hO M1 (k := w) (hk := hkm) (s := (xs (i + 1))) (e := (xs (i + 2))) (v := (xs (i + 3))) (c := S.c) (hc := h8.2.2.2.1) (hc14 := h8.2.2.2.2.1) (m := S.m) (hm4 := h8.1) (hm := h8.2.1) (hmj := h8.2.2.1)) hkm.1 rfl rfl rfl (Nat.le_of_ble_eq_true rfl) ⟨⟨by decide, by decide⟩, by show kc + 1 ≤ 601024; omega, by show ks + 6 ≤ 7293034; omega⟩ dL_law_738 (fun r2 M2 h2 => ?_)
  obtain ⟨s1, s2, S2, s3, s4⟩ := s_10 Cr D ap H hy h2
  refine l_istore C [1, 2, 3, 4, 5, 6, 0] [(0, .ref b), (1, .ref (sk_ad O k)), (2, .ref (sk_ad O w)), (3, .ref a), (4, .int (nI i)), (5, .int (nI x0)), (6, .int r2)] dL_law_741 (by decide) rfl ?_
  refine l_aloadn C 2 dL_law_743 rfl ?_
  refine l_vi C L (as := []) yvX8_thrown viX8_thrown ml_L_108 (m_X8_thrown l hO M2 (k := w) (hk := hkm)) hkm.1 rfl rfl rfl (Nat.le_of_ble_eq_true rfl) ⟨⟨by decide, by decide⟩, by show kc + 1 ≤ 601024; omega, by show ks + 6 ≤ 7293034; omega⟩ dL_law_744 (fun r3 M3 h3 => ?_)
  obtain ⟨h3, h4⟩ := h3
  subst h4
  subst h3
  refine l_iload C 5 dL_law_747 rfl ?_
  refine l_ceq C 754 dL_law_749 (by decide) (fun _ => ?_) (fun e => absurd s1 e)
  have fin : ∀ v2 : Int64, sk_L l X O A Q a cA v2 7 (kc + 1) (ks + 6) M3 1982 [(0, .ref b), (1, .ref (sk_ad O k)), (2, .ref (sk_ad O w)), (3, .ref a), (4, .int (nI i)), (5, .int (nI x0)), (6, .int r2)] [] := fun v2 => l_drop [0, 1, 2, 3, 4] (lw_lv O a k w b i) rfl (E _ _ _ _ _ (by omega) (by omega) s3 s4)
  refine l_iload C 5 dL_law_754 rfl ?_
  refine l_zne C 771 dL_law_756 (by decide) (fun _ => ?_) (fun e => ?_)
  · exact l_goto C 1982 dL_law_771 (by decide) (fin _)
  · have e0 : x0 = 0 := (nI_eq (b := 0) (by omega) (by decide)).mp e
    have e1 := hv e0
    have e2 := s2 e0
    subst e1
    subst e2
    refine l_aloadn C 3 dL_law_759 rfl ?_
    refine l_iconst C 0 dL_law_760 (by decide) ?_
    refine l_lald C L dL_law_761 ?_
    refine l_iload C 6 dL_law_762 rfl ?_
    refine l_i2l C dL_law_764 ?_
    refine l_lcmp C dL_law_765 ?_
    refine l_zeq C 771 dL_law_766 (by decide) (fun _ => ?_) (fun e => absurd (lg_same _) e)
    exact l_goto C 1982 dL_law_771 (by decide) (fin _)
set_option maxRecDepth 100000 in
theorem lc_11 {l : Launch} {X : sk_X} {O : sk_O} {A : Nat → Prop} {Q : State → Prop} {a k w b n i kc ks : Nat} {cA : ClassId} {xs : Nat → Int32} {M : sk_M} {v0 : Int64} {S : rl_T} (B : lw_B l X O A a k w b n cA xs) (hi : i + 5 ≤ n) (hkc : kc ≤ 600000) (hks : ks ≤ 7000000) (Cr : rl_C M k S) (D : rl_D M w S) (E : lw_E l X O A Q a cA k w b i kc ks) : sk_L l X O A Q a cA v0 7 kc ks M 774 (lw_lv O a k w b i) [] := by
  obtain ⟨C, L, hSr, hNx, hO, hst, hX, hkx, hkm, ap⟩ := B
  obtain ⟨o, H⟩ := Cr.2.1
  refine l_aloadn C 1 dL_law_774 rfl ?_
  refine l_aloadn C 0 dL_law_775 rfl ?_
  refine l_iload C 4 dL_law_776 rfl ?_
  refine l_iconst C 1 dL_law_778 (by decide) ?_
  refine l_iadd C dL_law_779 ?_
  refine l_sald C hX (i + 1) (show nI i + (1 : Int32) = nI (i + 1) from nI_add i 1) (by omega) dL_law_780 ?_
  refine l_aloadn C 0 dL_law_781 rfl ?_
  refine l_iload C 4 dL_law_782 rfl ?_
  refine l_iconst C 2 dL_law_784 (by decide) ?_
  refine l_iadd C dL_law_785 ?_
  refine l_sald C hX (i + 2) (show nI i + (2 : Int32) = nI (i + 2) from nI_add i 2) (by omega) dL_law_786 ?_
  refine l_aloadn C 0 dL_law_787 rfl ?_
  refine l_iload C 4 dL_law_788 rfl ?_
  refine l_iconst C 3 dL_law_790 (by decide) ?_
  refine l_iadd C dL_law_791 ?_
  refine l_sald C hX (i + 3) (show nI i + (3 : Int32) = nI (i + 3) from nI_add i 3) (by omega) dL_law_792 ?_
  refine l_aloadn C 3 dL_law_793 rfl ?_
  refine l_gi C L hSr hNx (as := [.ref (sk_ad O k), .int (xs (i + 1)), .int (xs (i + 2)), .int (xs (i + 3)), .ref a]) yg_component ml_L_147 (g_L_component l hO M (k := k) (s := (xs (i + 1))) (j := (xs (i + 2))) (v := (xs (i + 3))) (hk := hkx) (o := o) (c := S.c) (ho := H.2.1) (hc := H.2.2.1) (ho14 := H.1) (hc14 := H.2.2.2.1) (hw := Cr.1.wf) (hst := hst) (ca := a) (cA := cA) (v0 := v0)) rfl rfl (Nat.le_of_ble_eq_true rfl) ⟨⟨by decide, by decide⟩, by show kc + 1 ≤ 601024; omega, by show ks + 6 ≤ 7293034; omega⟩ dL_law_794 (fun x M1 v1 h1 => ?_)
  obtain ⟨x0, r, hx0, hx3, hw, hv⟩ := h1
  subst hx0
  dsimp only at hw hv
  have hy := wv2 (by decide) hw
  have D1 := d_11 Cr D ap H hy
  have h8 := rl_D.h Cr D1
  refine l_istore C [1, 2, 3, 4, 5, 0] [(0, .ref b), (1, .ref (sk_ad O k)), (2, .ref (sk_ad O w)), (3, .ref a), (4, .int (nI i)), (5, .int (nI x0))] dL_law_797 (by decide) rfl ?_
  refine l_aloadn C 2 dL_law_799 rfl ?_
  refine l_aloadn C 0 dL_law_800 rfl ?_
  refine l_iload C 4 dL_law_801 rfl ?_
  refine l_iconst C 1 dL_law_803 (by decide) ?_
  refine l_iadd C dL_law_804 ?_
  refine l_sald C hX (i + 1) (show nI i + (1 : Int32) = nI (i + 1) from nI_add i 1) (by omega) dL_law_805 ?_
  refine l_aloadn C 0 dL_law_806 rfl ?_
  refine l_iload C 4 dL_law_807 rfl ?_
  refine l_iconst C 2 dL_law_809 (by decide) ?_
  refine l_iadd C dL_law_810 ?_
  refine l_sald C hX (i + 2) (show nI i + (2 : Int32) = nI (i + 2) from nI_add i 2) (by omega) dL_law_811 ?_
  refine l_aloadn C 0 dL_law_812 rfl ?_
  refine l_iload C 4 dL_law_813 rfl ?_
  refine l_iconst C 3 dL_law_815 (by decide) ?_
  refine l_iadd C dL_law_816 ?_
  refine l_sald C hX (i + 3) (show nI i + (3 : Int32) = nI (i + 3) from nI_add i 3) (by omega) dL_law_817 ?_
  refine l_vi C L (as := [.int (xs (i + 1)), .int (xs (i + 2)), .int (xs (i + 3))]) yvX8_component viX8_component ml_L_149 (m_X8_component l hO M1 (k := w) (hk := hkm) (s := (xs (i + 1))) (j := (xs (i + 2))) (v := (xs (i + 3))) (c := S.c) (hc := h8.2.2.2.1) (hc14 := h8.2.2.2.2.1) (m := S.m) (hm4 := h8.1) (hm := h8.2.1) (hmj := h8.2.2.1)) hkm.1 rfl rfl rfl (Nat.le_of_ble_eq_true rfl) ⟨⟨by decide, by decide⟩, by show kc + 1 ≤ 601024; omega, by show ks + 6 ≤ 7293034; omega⟩ dL_law_818 (fun r2 M2 h2 => ?_)
  obtain ⟨s1, s2, S2, s3, s4⟩ := s_11 Cr D ap H hy h2
  refine l_istore C [1, 2, 3, 4, 5, 6, 0] [(0, .ref b), (1, .ref (sk_ad O k)), (2, .ref (sk_ad O w)), (3, .ref a), (4, .int (nI i)), (5, .int (nI x0)), (6, .int r2)] dL_law_821 (by decide) rfl ?_
  refine l_aloadn C 2 dL_law_823 rfl ?_
  refine l_vi C L (as := []) yvX8_thrown viX8_thrown ml_L_108 (m_X8_thrown l hO M2 (k := w) (hk := hkm)) hkm.1 rfl rfl rfl (Nat.le_of_ble_eq_true rfl) ⟨⟨by decide, by decide⟩, by show kc + 1 ≤ 601024; omega, by show ks + 6 ≤ 7293034; omega⟩ dL_law_824 (fun r3 M3 h3 => ?_)
  obtain ⟨h3, h4⟩ := h3
  subst h4
  subst h3
  refine l_iload C 5 dL_law_827 rfl ?_
  refine l_ceq C 834 dL_law_829 (by decide) (fun _ => ?_) (fun e => absurd s1 e)
  have fin : ∀ v2 : Int64, sk_L l X O A Q a cA v2 7 (kc + 1) (ks + 6) M3 1982 [(0, .ref b), (1, .ref (sk_ad O k)), (2, .ref (sk_ad O w)), (3, .ref a), (4, .int (nI i)), (5, .int (nI x0)), (6, .int r2)] [] := fun v2 => l_drop [0, 1, 2, 3, 4] (lw_lv O a k w b i) rfl (E _ _ _ _ _ (by omega) (by omega) s3 s4)
  refine l_iload C 5 dL_law_834 rfl ?_
  refine l_zne C 851 dL_law_836 (by decide) (fun _ => ?_) (fun e => ?_)
  · exact l_goto C 1982 dL_law_851 (by decide) (fin _)
  · have e0 : x0 = 0 := (nI_eq (b := 0) (by omega) (by decide)).mp e
    have e1 := hv e0
    have e2 := s2 e0
    subst e1
    subst e2
    refine l_aloadn C 3 dL_law_839 rfl ?_
    refine l_iconst C 0 dL_law_840 (by decide) ?_
    refine l_lald C L dL_law_841 ?_
    refine l_iload C 6 dL_law_842 rfl ?_
    refine l_i2l C dL_law_844 ?_
    refine l_lcmp C dL_law_845 ?_
    refine l_zeq C 851 dL_law_846 (by decide) (fun _ => ?_) (fun e => absurd (lg_same _) e)
    exact l_goto C 1982 dL_law_851 (by decide) (fin _)
set_option maxRecDepth 100000 in
theorem lc_12 {l : Launch} {X : sk_X} {O : sk_O} {A : Nat → Prop} {Q : State → Prop} {a k w b n i kc ks : Nat} {cA : ClassId} {xs : Nat → Int32} {M : sk_M} {v0 : Int64} {S : rl_T} (B : lw_B l X O A a k w b n cA xs) (hi : i + 5 ≤ n) (hkc : kc ≤ 600000) (hks : ks ≤ 7000000) (Cr : rl_C M k S) (D : rl_D M w S) (E : lw_E l X O A Q a cA k w b i kc ks) : sk_L l X O A Q a cA v0 7 kc ks M 854 (lw_lv O a k w b i) [] := by
  obtain ⟨C, L, hSr, hNx, hO, hst, hX, hkx, hkm, ap⟩ := B
  obtain ⟨o, H⟩ := Cr.2.1
  refine l_aloadn C 1 dL_law_854 rfl ?_
  refine l_aloadn C 0 dL_law_855 rfl ?_
  refine l_iload C 4 dL_law_856 rfl ?_
  refine l_iconst C 1 dL_law_858 (by decide) ?_
  refine l_iadd C dL_law_859 ?_
  refine l_sald C hX (i + 1) (show nI i + (1 : Int32) = nI (i + 1) from nI_add i 1) (by omega) dL_law_860 ?_
  refine l_aloadn C 0 dL_law_861 rfl ?_
  refine l_iload C 4 dL_law_862 rfl ?_
  refine l_iconst C 2 dL_law_864 (by decide) ?_
  refine l_iadd C dL_law_865 ?_
  refine l_sald C hX (i + 2) (show nI i + (2 : Int32) = nI (i + 2) from nI_add i 2) (by omega) dL_law_866 ?_
  refine l_aloadn C 0 dL_law_867 rfl ?_
  refine l_iload C 4 dL_law_868 rfl ?_
  refine l_iconst C 3 dL_law_870 (by decide) ?_
  refine l_iadd C dL_law_871 ?_
  refine l_sald C hX (i + 3) (show nI i + (3 : Int32) = nI (i + 3) from nI_add i 3) (by omega) dL_law_872 ?_
  refine l_aloadn C 0 dL_law_873 rfl ?_
  refine l_iload C 4 dL_law_874 rfl ?_
  refine l_iconst C 4 dL_law_876 (by decide) ?_
  refine l_iadd C dL_law_877 ?_
  refine l_sald C hX (i + 4) (show nI i + (4 : Int32) = nI (i + 4) from nI_add i 4) (by omega) dL_law_878 ?_
  refine l_aloadn C 3 dL_law_879 rfl ?_
  refine l_gi C L hSr hNx (as := [.ref (sk_ad O k), .int (xs (i + 1)), .int (xs (i + 2)), .int (xs (i + 3)), .int (xs (i + 4)), .ref a]) yg_call ml_L_150 (g_L_call l hO M (k := k) (s := (xs (i + 1))) (e := (xs (i + 2))) (p := (xs (i + 3))) (v := (xs (i + 4))) (hk := hkx) (o := o) (c := S.c) (ho := H.2.1) (hc := H.2.2.1) (ho14 := H.1) (hc14 := H.2.2.2.1) (hw := Cr.1.wf) (hst := hst) (ca := a) (cA := cA) (v0 := v0)) rfl rfl (Nat.le_of_ble_eq_true rfl) ⟨⟨by decide, by decide⟩, by show kc + 1 ≤ 601024; omega, by show ks + 6 ≤ 7293034; omega⟩ dL_law_880 (fun x M1 v1 h1 => ?_)
  obtain ⟨x0, r, hx0, hx3, hw, hv⟩ := h1
  subst hx0
  dsimp only at hw hv
  have hy := wv3 (by decide) (by decide) (by decide) hw
  have D1 := d_12 Cr D ap H hy
  have h8 := rl_D.h Cr D1
  refine l_istore C [1, 2, 3, 4, 5, 0] [(0, .ref b), (1, .ref (sk_ad O k)), (2, .ref (sk_ad O w)), (3, .ref a), (4, .int (nI i)), (5, .int (nI x0))] dL_law_883 (by decide) rfl ?_
  refine l_aloadn C 2 dL_law_885 rfl ?_
  refine l_aloadn C 0 dL_law_886 rfl ?_
  refine l_iload C 4 dL_law_887 rfl ?_
  refine l_iconst C 1 dL_law_889 (by decide) ?_
  refine l_iadd C dL_law_890 ?_
  refine l_sald C hX (i + 1) (show nI i + (1 : Int32) = nI (i + 1) from nI_add i 1) (by omega) dL_law_891 ?_
  refine l_aloadn C 0 dL_law_892 rfl ?_
  refine l_iload C 4 dL_law_893 rfl ?_
  refine l_iconst C 2 dL_law_895 (by decide) ?_
  refine l_iadd C dL_law_896 ?_
  refine l_sald C hX (i + 2) (show nI i + (2 : Int32) = nI (i + 2) from nI_add i 2) (by omega) dL_law_897 ?_
  refine l_aloadn C 0 dL_law_898 rfl ?_
  refine l_iload C 4 dL_law_899 rfl ?_
  refine l_iconst C 3 dL_law_901 (by decide) ?_
  refine l_iadd C dL_law_902 ?_
  refine l_sald C hX (i + 3) (show nI i + (3 : Int32) = nI (i + 3) from nI_add i 3) (by omega) dL_law_903 ?_
  refine l_aloadn C 0 dL_law_904 rfl ?_
  refine l_iload C 4 dL_law_905 rfl ?_
  refine l_iconst C 4 dL_law_907 (by decide) ?_
  refine l_iadd C dL_law_908 ?_
  refine l_sald C hX (i + 4) (show nI i + (4 : Int32) = nI (i + 4) from nI_add i 4) (by omega) dL_law_909 ?_
  refine l_vi C L (as := [.int (xs (i + 1)), .int (xs (i + 2)), .int (xs (i + 3)), .int (xs (i + 4))]) yvX8_call viX8_call ml_L_152 (m_X8_call l hO M1 (k := w) (hk := hkm) (s := (xs (i + 1))) (e := (xs (i + 2))) (p := (xs (i + 3))) (v := (xs (i + 4))) (c := S.c) (hc := h8.2.2.2.1) (hc14 := h8.2.2.2.2.1) (m := S.m) (hm4 := h8.1) (hm := h8.2.1) (hmj := h8.2.2.1)) hkm.1 rfl rfl rfl (Nat.le_of_ble_eq_true rfl) ⟨⟨by decide, by decide⟩, by show kc + 1 ≤ 601024; omega, by show ks + 6 ≤ 7293034; omega⟩ dL_law_910 (fun r2 M2 h2 => ?_)
  obtain ⟨s1, s2, S2, s3, s4⟩ := s_12 Cr D ap H hy h2
  refine l_istore C [1, 2, 3, 4, 5, 6, 0] [(0, .ref b), (1, .ref (sk_ad O k)), (2, .ref (sk_ad O w)), (3, .ref a), (4, .int (nI i)), (5, .int (nI x0)), (6, .int r2)] dL_law_913 (by decide) rfl ?_
  refine l_aloadn C 2 dL_law_915 rfl ?_
  refine l_vi C L (as := []) yvX8_thrown viX8_thrown ml_L_108 (m_X8_thrown l hO M2 (k := w) (hk := hkm)) hkm.1 rfl rfl rfl (Nat.le_of_ble_eq_true rfl) ⟨⟨by decide, by decide⟩, by show kc + 1 ≤ 601024; omega, by show ks + 6 ≤ 7293034; omega⟩ dL_law_916 (fun r3 M3 h3 => ?_)
  obtain ⟨h3, h4⟩ := h3
  subst h4
  subst h3
  refine l_iload C 5 dL_law_919 rfl ?_
  refine l_ceq C 926 dL_law_921 (by decide) (fun _ => ?_) (fun e => absurd s1 e)
  have fin : ∀ v2 : Int64, sk_L l X O A Q a cA v2 7 (kc + 1) (ks + 6) M3 1982 [(0, .ref b), (1, .ref (sk_ad O k)), (2, .ref (sk_ad O w)), (3, .ref a), (4, .int (nI i)), (5, .int (nI x0)), (6, .int r2)] [] := fun v2 => l_drop [0, 1, 2, 3, 4] (lw_lv O a k w b i) rfl (E _ _ _ _ _ (by omega) (by omega) s3 s4)
  refine l_iload C 5 dL_law_926 rfl ?_
  refine l_zne C 943 dL_law_928 (by decide) (fun _ => ?_) (fun e => ?_)
  · exact l_goto C 1982 dL_law_943 (by decide) (fin _)
  · have e0 : x0 = 0 := (nI_eq (b := 0) (by omega) (by decide)).mp e
    have e1 := hv e0
    have e2 := s2 e0
    subst e1
    subst e2
    refine l_aloadn C 3 dL_law_931 rfl ?_
    refine l_iconst C 0 dL_law_932 (by decide) ?_
    refine l_lald C L dL_law_933 ?_
    refine l_iload C 6 dL_law_934 rfl ?_
    refine l_i2l C dL_law_936 ?_
    refine l_lcmp C dL_law_937 ?_
    refine l_zeq C 943 dL_law_938 (by decide) (fun _ => ?_) (fun e => absurd (lg_same _) e)
    exact l_goto C 1982 dL_law_943 (by decide) (fin _)
set_option maxRecDepth 100000 in
theorem lc_13 {l : Launch} {X : sk_X} {O : sk_O} {A : Nat → Prop} {Q : State → Prop} {a k w b n i kc ks : Nat} {cA : ClassId} {xs : Nat → Int32} {M : sk_M} {v0 : Int64} {S : rl_T} (B : lw_B l X O A a k w b n cA xs) (hi : i + 5 ≤ n) (hkc : kc ≤ 600000) (hks : ks ≤ 7000000) (Cr : rl_C M k S) (D : rl_D M w S) (E : lw_E l X O A Q a cA k w b i kc ks) : sk_L l X O A Q a cA v0 7 kc ks M 946 (lw_lv O a k w b i) [] := by
  obtain ⟨C, L, hSr, hNx, hO, hst, hX, hkx, hkm, ap⟩ := B
  obtain ⟨o, H⟩ := Cr.2.1
  refine l_aloadn C 1 dL_law_946 rfl ?_
  refine l_aloadn C 0 dL_law_947 rfl ?_
  refine l_iload C 4 dL_law_948 rfl ?_
  refine l_iconst C 1 dL_law_950 (by decide) ?_
  refine l_iadd C dL_law_951 ?_
  refine l_sald C hX (i + 1) (show nI i + (1 : Int32) = nI (i + 1) from nI_add i 1) (by omega) dL_law_952 ?_
  refine l_aloadn C 0 dL_law_953 rfl ?_
  refine l_iload C 4 dL_law_954 rfl ?_
  refine l_iconst C 2 dL_law_956 (by decide) ?_
  refine l_iadd C dL_law_957 ?_
  refine l_sald C hX (i + 2) (show nI i + (2 : Int32) = nI (i + 2) from nI_add i 2) (by omega) dL_law_958 ?_
  refine l_aloadn C 0 dL_law_959 rfl ?_
  refine l_iload C 4 dL_law_960 rfl ?_
  refine l_iconst C 3 dL_law_962 (by decide) ?_
  refine l_iadd C dL_law_963 ?_
  refine l_sald C hX (i + 3) (show nI i + (3 : Int32) = nI (i + 3) from nI_add i 3) (by omega) dL_law_964 ?_
  refine l_bool C 972 973 dL_law_965 dL_law_968 dL_law_969 (by decide) dL_law_972 (by decide) rfl ?_
  refine l_aloadn C 3 dL_law_973 rfl ?_
  refine l_gi C L hSr hNx (as := [.ref (sk_ad O k), .int (xs (i + 1)), .int (xs (i + 2)), .int (if (xs (i + 3)) = 0 then 0 else 1), .ref a]) yg_review ml_L_153 (g_L_review l hO M (k := k) (s := (xs (i + 1))) (e := (xs (i + 2))) (b := (if (xs (i + 3)) = 0 then 0 else 1)) (hk := hkx) (o := o) (c := S.c) (ho := H.2.1) (hc := H.2.2.1) (ho14 := H.1) (hc14 := H.2.2.2.1) (hw := Cr.1.wf) (hst := hst) (ca := a) (cA := cA) (v0 := v0)) rfl rfl (Nat.le_of_ble_eq_true rfl) ⟨⟨by decide, by decide⟩, by show kc + 1 ≤ 601024; omega, by show ks + 6 ≤ 7293034; omega⟩ dL_law_974 (fun x M1 v1 h1 => ?_)
  obtain ⟨x0, r, hx0, hx3, hw, hv⟩ := h1
  subst hx0
  dsimp only at hw hv
  have hy := wv1 hw
  have D1 := d_13 Cr D ap H hy
  have h8 := rl_D.h Cr D1
  refine l_istore C [1, 2, 3, 4, 5, 0] [(0, .ref b), (1, .ref (sk_ad O k)), (2, .ref (sk_ad O w)), (3, .ref a), (4, .int (nI i)), (5, .int (nI x0))] dL_law_977 (by decide) rfl ?_
  refine l_aloadn C 2 dL_law_979 rfl ?_
  refine l_aloadn C 0 dL_law_980 rfl ?_
  refine l_iload C 4 dL_law_981 rfl ?_
  refine l_iconst C 1 dL_law_983 (by decide) ?_
  refine l_iadd C dL_law_984 ?_
  refine l_sald C hX (i + 1) (show nI i + (1 : Int32) = nI (i + 1) from nI_add i 1) (by omega) dL_law_985 ?_
  refine l_aloadn C 0 dL_law_986 rfl ?_
  refine l_iload C 4 dL_law_987 rfl ?_
  refine l_iconst C 2 dL_law_989 (by decide) ?_
  refine l_iadd C dL_law_990 ?_
  refine l_sald C hX (i + 2) (show nI i + (2 : Int32) = nI (i + 2) from nI_add i 2) (by omega) dL_law_991 ?_
  refine l_aloadn C 0 dL_law_992 rfl ?_
  refine l_iload C 4 dL_law_993 rfl ?_
  refine l_iconst C 3 dL_law_995 (by decide) ?_
  refine l_iadd C dL_law_996 ?_
  refine l_sald C hX (i + 3) (show nI i + (3 : Int32) = nI (i + 3) from nI_add i 3) (by omega) dL_law_997 ?_
  refine l_bool C 1005 1006 dL_law_998 dL_law_1001 dL_law_1002 (by decide) dL_law_1005 (by decide) rfl ?_
  refine l_vi C L (as := [.int (xs (i + 1)), .int (xs (i + 2)), .int (if (xs (i + 3)) = 0 then 0 else 1)]) yvX8_review viX8_review ml_L_156 (m_X8_review l hO M1 (k := w) (hk := hkm) (s := (xs (i + 1))) (e := (xs (i + 2))) (b := (if (xs (i + 3)) = 0 then 0 else 1)) (c := S.c) (hc := h8.2.2.2.1) (hc14 := h8.2.2.2.2.1) (m := S.m) (hm4 := h8.1) (hm := h8.2.1) (hmj := h8.2.2.1)) hkm.1 rfl rfl rfl (Nat.le_of_ble_eq_true rfl) ⟨⟨by decide, by decide⟩, by show kc + 1 ≤ 601024; omega, by show ks + 6 ≤ 7293034; omega⟩ dL_law_1006 (fun r2 M2 h2 => ?_)
  obtain ⟨s1, s2, S2, s3, s4⟩ := s_13 Cr D ap H hy h2
  refine l_istore C [1, 2, 3, 4, 5, 6, 0] [(0, .ref b), (1, .ref (sk_ad O k)), (2, .ref (sk_ad O w)), (3, .ref a), (4, .int (nI i)), (5, .int (nI x0)), (6, .int r2)] dL_law_1009 (by decide) rfl ?_
  refine l_aloadn C 2 dL_law_1011 rfl ?_
  refine l_vi C L (as := []) yvX8_thrown viX8_thrown ml_L_108 (m_X8_thrown l hO M2 (k := w) (hk := hkm)) hkm.1 rfl rfl rfl (Nat.le_of_ble_eq_true rfl) ⟨⟨by decide, by decide⟩, by show kc + 1 ≤ 601024; omega, by show ks + 6 ≤ 7293034; omega⟩ dL_law_1012 (fun r3 M3 h3 => ?_)
  obtain ⟨h3, h4⟩ := h3
  subst h4
  subst h3
  refine l_iload C 5 dL_law_1015 rfl ?_
  refine l_ceq C 1022 dL_law_1017 (by decide) (fun _ => ?_) (fun e => absurd s1 e)
  have fin : ∀ v2 : Int64, sk_L l X O A Q a cA v2 7 (kc + 1) (ks + 6) M3 1982 [(0, .ref b), (1, .ref (sk_ad O k)), (2, .ref (sk_ad O w)), (3, .ref a), (4, .int (nI i)), (5, .int (nI x0)), (6, .int r2)] [] := fun v2 => l_drop [0, 1, 2, 3, 4] (lw_lv O a k w b i) rfl (E _ _ _ _ _ (by omega) (by omega) s3 s4)
  refine l_iload C 5 dL_law_1022 rfl ?_
  refine l_zne C 1039 dL_law_1024 (by decide) (fun _ => ?_) (fun e => ?_)
  · exact l_goto C 1982 dL_law_1039 (by decide) (fin _)
  · have e0 : x0 = 0 := (nI_eq (b := 0) (by omega) (by decide)).mp e
    have e1 := hv e0
    have e2 := s2 e0
    subst e1
    subst e2
    refine l_aloadn C 3 dL_law_1027 rfl ?_
    refine l_iconst C 0 dL_law_1028 (by decide) ?_
    refine l_lald C L dL_law_1029 ?_
    refine l_iload C 6 dL_law_1030 rfl ?_
    refine l_i2l C dL_law_1032 ?_
    refine l_lcmp C dL_law_1033 ?_
    refine l_zeq C 1039 dL_law_1034 (by decide) (fun _ => ?_) (fun e => absurd (lg_same _) e)
    exact l_goto C 1982 dL_law_1039 (by decide) (fin _)
set_option maxRecDepth 100000 in
theorem lc_14 {l : Launch} {X : sk_X} {O : sk_O} {A : Nat → Prop} {Q : State → Prop} {a k w b n i kc ks : Nat} {cA : ClassId} {xs : Nat → Int32} {M : sk_M} {v0 : Int64} {S : rl_T} (B : lw_B l X O A a k w b n cA xs) (hi : i + 5 ≤ n) (hkc : kc ≤ 600000) (hks : ks ≤ 7000000) (Cr : rl_C M k S) (D : rl_D M w S) (E : lw_E l X O A Q a cA k w b i kc ks) : sk_L l X O A Q a cA v0 7 kc ks M 1042 (lw_lv O a k w b i) [] := by
  obtain ⟨C, L, hSr, hNx, hO, hst, hX, hkx, hkm, ap⟩ := B
  obtain ⟨o, H⟩ := Cr.2.1
  refine l_aloadn C 1 dL_law_1042 rfl ?_
  refine l_aloadn C 0 dL_law_1043 rfl ?_
  refine l_iload C 4 dL_law_1044 rfl ?_
  refine l_iconst C 1 dL_law_1046 (by decide) ?_
  refine l_iadd C dL_law_1047 ?_
  refine l_sald C hX (i + 1) (show nI i + (1 : Int32) = nI (i + 1) from nI_add i 1) (by omega) dL_law_1048 ?_
  refine l_aloadn C 0 dL_law_1049 rfl ?_
  refine l_iload C 4 dL_law_1050 rfl ?_
  refine l_iconst C 2 dL_law_1052 (by decide) ?_
  refine l_iadd C dL_law_1053 ?_
  refine l_sald C hX (i + 2) (show nI i + (2 : Int32) = nI (i + 2) from nI_add i 2) (by omega) dL_law_1054 ?_
  refine l_aloadn C 0 dL_law_1055 rfl ?_
  refine l_iload C 4 dL_law_1056 rfl ?_
  refine l_iconst C 3 dL_law_1058 (by decide) ?_
  refine l_iadd C dL_law_1059 ?_
  refine l_sald C hX (i + 3) (show nI i + (3 : Int32) = nI (i + 3) from nI_add i 3) (by omega) dL_law_1060 ?_
  refine l_bool C 1068 1069 dL_law_1061 dL_law_1064 dL_law_1065 (by decide) dL_law_1068 (by decide) rfl ?_
  refine l_aloadn C 3 dL_law_1069 rfl ?_
  refine l_gi C L hSr hNx (as := [.ref (sk_ad O k), .int (xs (i + 1)), .int (xs (i + 2)), .int (if (xs (i + 3)) = 0 then 0 else 1), .ref a]) yg_fall ml_L_157 (g_L_fall l hO M (k := k) (s := (xs (i + 1))) (e := (xs (i + 2))) (b := (if (xs (i + 3)) = 0 then 0 else 1)) (hk := hkx) (o := o) (c := S.c) (ho := H.2.1) (hc := H.2.2.1) (ho14 := H.1) (hc14 := H.2.2.2.1) (hw := Cr.1.wf) (hst := hst) (ca := a) (cA := cA) (v0 := v0)) rfl rfl (Nat.le_of_ble_eq_true rfl) ⟨⟨by decide, by decide⟩, by show kc + 1 ≤ 601024; omega, by show ks + 6 ≤ 7293034; omega⟩ dL_law_1070 (fun x M1 v1 h1 => ?_)
  obtain ⟨x0, r, hx0, hx3, hw, hv⟩ := h1
  subst hx0
  dsimp only at hw hv
  have hy := wv1 hw
  have D1 := d_14 Cr D ap H hy
  have h8 := rl_D.h Cr D1
  refine l_istore C [1, 2, 3, 4, 5, 0] [(0, .ref b), (1, .ref (sk_ad O k)), (2, .ref (sk_ad O w)), (3, .ref a), (4, .int (nI i)), (5, .int (nI x0))] dL_law_1073 (by decide) rfl ?_
  refine l_aloadn C 2 dL_law_1075 rfl ?_
  refine l_aloadn C 0 dL_law_1076 rfl ?_
  refine l_iload C 4 dL_law_1077 rfl ?_
  refine l_iconst C 1 dL_law_1079 (by decide) ?_
  refine l_iadd C dL_law_1080 ?_
  refine l_sald C hX (i + 1) (show nI i + (1 : Int32) = nI (i + 1) from nI_add i 1) (by omega) dL_law_1081 ?_
  refine l_aloadn C 0 dL_law_1082 rfl ?_
  refine l_iload C 4 dL_law_1083 rfl ?_
  refine l_iconst C 2 dL_law_1085 (by decide) ?_
  refine l_iadd C dL_law_1086 ?_
  refine l_sald C hX (i + 2) (show nI i + (2 : Int32) = nI (i + 2) from nI_add i 2) (by omega) dL_law_1087 ?_
  refine l_aloadn C 0 dL_law_1088 rfl ?_
  refine l_iload C 4 dL_law_1089 rfl ?_
  refine l_iconst C 3 dL_law_1091 (by decide) ?_
  refine l_iadd C dL_law_1092 ?_
  refine l_sald C hX (i + 3) (show nI i + (3 : Int32) = nI (i + 3) from nI_add i 3) (by omega) dL_law_1093 ?_
  refine l_bool C 1101 1102 dL_law_1094 dL_law_1097 dL_law_1098 (by decide) dL_law_1101 (by decide) rfl ?_
  refine l_vi C L (as := [.int (xs (i + 1)), .int (xs (i + 2)), .int (if (xs (i + 3)) = 0 then 0 else 1)]) yvX8_fall viX8_fall ml_L_159 (m_X8_fall l hO M1 (k := w) (hk := hkm) (s := (xs (i + 1))) (e := (xs (i + 2))) (b := (if (xs (i + 3)) = 0 then 0 else 1)) (c := S.c) (hc := h8.2.2.2.1) (hc14 := h8.2.2.2.2.1) (m := S.m) (hm4 := h8.1) (hm := h8.2.1) (hmj := h8.2.2.1)) hkm.1 rfl rfl rfl (Nat.le_of_ble_eq_true rfl) ⟨⟨by decide, by decide⟩, by show kc + 1 ≤ 601024; omega, by show ks + 6 ≤ 7293034; omega⟩ dL_law_1102 (fun r2 M2 h2 => ?_)
  obtain ⟨s1, s2, S2, s3, s4⟩ := s_14 Cr D ap H hy h2
  refine l_istore C [1, 2, 3, 4, 5, 6, 0] [(0, .ref b), (1, .ref (sk_ad O k)), (2, .ref (sk_ad O w)), (3, .ref a), (4, .int (nI i)), (5, .int (nI x0)), (6, .int r2)] dL_law_1105 (by decide) rfl ?_
  refine l_aloadn C 2 dL_law_1107 rfl ?_
  refine l_vi C L (as := []) yvX8_thrown viX8_thrown ml_L_108 (m_X8_thrown l hO M2 (k := w) (hk := hkm)) hkm.1 rfl rfl rfl (Nat.le_of_ble_eq_true rfl) ⟨⟨by decide, by decide⟩, by show kc + 1 ≤ 601024; omega, by show ks + 6 ≤ 7293034; omega⟩ dL_law_1108 (fun r3 M3 h3 => ?_)
  obtain ⟨h3, h4⟩ := h3
  subst h4
  subst h3
  refine l_iload C 5 dL_law_1111 rfl ?_
  refine l_ceq C 1118 dL_law_1113 (by decide) (fun _ => ?_) (fun e => absurd s1 e)
  have fin : ∀ v2 : Int64, sk_L l X O A Q a cA v2 7 (kc + 1) (ks + 6) M3 1982 [(0, .ref b), (1, .ref (sk_ad O k)), (2, .ref (sk_ad O w)), (3, .ref a), (4, .int (nI i)), (5, .int (nI x0)), (6, .int r2)] [] := fun v2 => l_drop [0, 1, 2, 3, 4] (lw_lv O a k w b i) rfl (E _ _ _ _ _ (by omega) (by omega) s3 s4)
  refine l_iload C 5 dL_law_1118 rfl ?_
  refine l_zne C 1135 dL_law_1120 (by decide) (fun _ => ?_) (fun e => ?_)
  · exact l_goto C 1982 dL_law_1135 (by decide) (fin _)
  · have e0 : x0 = 0 := (nI_eq (b := 0) (by omega) (by decide)).mp e
    have e1 := hv e0
    have e2 := s2 e0
    subst e1
    subst e2
    refine l_aloadn C 3 dL_law_1123 rfl ?_
    refine l_iconst C 0 dL_law_1124 (by decide) ?_
    refine l_lald C L dL_law_1125 ?_
    refine l_iload C 6 dL_law_1126 rfl ?_
    refine l_i2l C dL_law_1128 ?_
    refine l_lcmp C dL_law_1129 ?_
    refine l_zeq C 1135 dL_law_1130 (by decide) (fun _ => ?_) (fun e => absurd (lg_same _) e)
    exact l_goto C 1982 dL_law_1135 (by decide) (fin _)
set_option maxRecDepth 100000 in
theorem lc_15 {l : Launch} {X : sk_X} {O : sk_O} {A : Nat → Prop} {Q : State → Prop} {a k w b n i kc ks : Nat} {cA : ClassId} {xs : Nat → Int32} {M : sk_M} {v0 : Int64} {S : rl_T} (B : lw_B l X O A a k w b n cA xs) (hi : i + 5 ≤ n) (hkc : kc ≤ 600000) (hks : ks ≤ 7000000) (Cr : rl_C M k S) (D : rl_D M w S) (E : lw_E l X O A Q a cA k w b i kc ks) : sk_L l X O A Q a cA v0 7 kc ks M 1138 (lw_lv O a k w b i) [] := by
  obtain ⟨C, L, hSr, hNx, hO, hst, hX, hkx, hkm, ap⟩ := B
  obtain ⟨o, H⟩ := Cr.2.1
  refine l_aloadn C 1 dL_law_1138 rfl ?_
  refine l_aloadn C 0 dL_law_1139 rfl ?_
  refine l_iload C 4 dL_law_1140 rfl ?_
  refine l_iconst C 1 dL_law_1142 (by decide) ?_
  refine l_iadd C dL_law_1143 ?_
  refine l_sald C hX (i + 1) (show nI i + (1 : Int32) = nI (i + 1) from nI_add i 1) (by omega) dL_law_1144 ?_
  refine l_aloadn C 0 dL_law_1145 rfl ?_
  refine l_iload C 4 dL_law_1146 rfl ?_
  refine l_iconst C 2 dL_law_1148 (by decide) ?_
  refine l_iadd C dL_law_1149 ?_
  refine l_sald C hX (i + 2) (show nI i + (2 : Int32) = nI (i + 2) from nI_add i 2) (by omega) dL_law_1150 ?_
  refine l_aloadn C 3 dL_law_1151 rfl ?_
  refine l_gi C L hSr hNx (as := [.ref (sk_ad O k), .int (xs (i + 1)), .int (xs (i + 2)), .ref a]) yg_penalty ml_L_160 (g_L_penalty l hO M (k := k) (s := (xs (i + 1))) (v := (xs (i + 2))) (hk := hkx) (o := o) (c := S.c) (ho := H.2.1) (hc := H.2.2.1) (ho14 := H.1) (hc14 := H.2.2.2.1) (hw := Cr.1.wf) (hst := hst) (ca := a) (cA := cA) (v0 := v0)) rfl rfl (Nat.le_of_ble_eq_true rfl) ⟨⟨by decide, by decide⟩, by show kc + 1 ≤ 601024; omega, by show ks + 6 ≤ 7293034; omega⟩ dL_law_1152 (fun x M1 v1 h1 => ?_)
  obtain ⟨x0, r, hx0, hx3, hw, hv⟩ := h1
  subst hx0
  dsimp only at hw hv
  have hy := wv2 (by decide) hw
  have D1 := d_15 Cr D ap H hy
  have h8 := rl_D.h Cr D1
  refine l_istore C [1, 2, 3, 4, 5, 0] [(0, .ref b), (1, .ref (sk_ad O k)), (2, .ref (sk_ad O w)), (3, .ref a), (4, .int (nI i)), (5, .int (nI x0))] dL_law_1155 (by decide) rfl ?_
  refine l_aloadn C 2 dL_law_1157 rfl ?_
  refine l_aloadn C 0 dL_law_1158 rfl ?_
  refine l_iload C 4 dL_law_1159 rfl ?_
  refine l_iconst C 1 dL_law_1161 (by decide) ?_
  refine l_iadd C dL_law_1162 ?_
  refine l_sald C hX (i + 1) (show nI i + (1 : Int32) = nI (i + 1) from nI_add i 1) (by omega) dL_law_1163 ?_
  refine l_aloadn C 0 dL_law_1164 rfl ?_
  refine l_iload C 4 dL_law_1165 rfl ?_
  refine l_iconst C 2 dL_law_1167 (by decide) ?_
  refine l_iadd C dL_law_1168 ?_
  refine l_sald C hX (i + 2) (show nI i + (2 : Int32) = nI (i + 2) from nI_add i 2) (by omega) dL_law_1169 ?_
  refine l_vi C L (as := [.int (xs (i + 1)), .int (xs (i + 2))]) yvX8_penalty viX8_penalty ml_L_162 (m_X8_penalty l hO M1 (k := w) (hk := hkm) (s := (xs (i + 1))) (v := (xs (i + 2))) (c := S.c) (hc := h8.2.2.2.1) (hc14 := h8.2.2.2.2.1) (m := S.m) (hm4 := h8.1) (hm := h8.2.1) (hmj := h8.2.2.1)) hkm.1 rfl rfl rfl (Nat.le_of_ble_eq_true rfl) ⟨⟨by decide, by decide⟩, by show kc + 1 ≤ 601024; omega, by show ks + 6 ≤ 7293034; omega⟩ dL_law_1170 (fun r2 M2 h2 => ?_)
  obtain ⟨s1, s2, S2, s3, s4⟩ := s_15 Cr D ap H hy h2
  refine l_istore C [1, 2, 3, 4, 5, 6, 0] [(0, .ref b), (1, .ref (sk_ad O k)), (2, .ref (sk_ad O w)), (3, .ref a), (4, .int (nI i)), (5, .int (nI x0)), (6, .int r2)] dL_law_1173 (by decide) rfl ?_
  refine l_aloadn C 2 dL_law_1175 rfl ?_
  refine l_vi C L (as := []) yvX8_thrown viX8_thrown ml_L_108 (m_X8_thrown l hO M2 (k := w) (hk := hkm)) hkm.1 rfl rfl rfl (Nat.le_of_ble_eq_true rfl) ⟨⟨by decide, by decide⟩, by show kc + 1 ≤ 601024; omega, by show ks + 6 ≤ 7293034; omega⟩ dL_law_1176 (fun r3 M3 h3 => ?_)
  obtain ⟨h3, h4⟩ := h3
  subst h4
  subst h3
  refine l_iload C 5 dL_law_1179 rfl ?_
  refine l_ceq C 1186 dL_law_1181 (by decide) (fun _ => ?_) (fun e => absurd s1 e)
  have fin : ∀ v2 : Int64, sk_L l X O A Q a cA v2 7 (kc + 1) (ks + 6) M3 1982 [(0, .ref b), (1, .ref (sk_ad O k)), (2, .ref (sk_ad O w)), (3, .ref a), (4, .int (nI i)), (5, .int (nI x0)), (6, .int r2)] [] := fun v2 => l_drop [0, 1, 2, 3, 4] (lw_lv O a k w b i) rfl (E _ _ _ _ _ (by omega) (by omega) s3 s4)
  refine l_iload C 5 dL_law_1186 rfl ?_
  refine l_zne C 1203 dL_law_1188 (by decide) (fun _ => ?_) (fun e => ?_)
  · exact l_goto C 1982 dL_law_1203 (by decide) (fin _)
  · have e0 : x0 = 0 := (nI_eq (b := 0) (by omega) (by decide)).mp e
    have e1 := hv e0
    have e2 := s2 e0
    subst e1
    subst e2
    refine l_aloadn C 3 dL_law_1191 rfl ?_
    refine l_iconst C 0 dL_law_1192 (by decide) ?_
    refine l_lald C L dL_law_1193 ?_
    refine l_iload C 6 dL_law_1194 rfl ?_
    refine l_i2l C dL_law_1196 ?_
    refine l_lcmp C dL_law_1197 ?_
    refine l_zeq C 1203 dL_law_1198 (by decide) (fun _ => ?_) (fun e => absurd (lg_same _) e)
    exact l_goto C 1982 dL_law_1203 (by decide) (fin _)
set_option maxRecDepth 100000 in
theorem lc_16 {l : Launch} {X : sk_X} {O : sk_O} {A : Nat → Prop} {Q : State → Prop} {a k w b n i kc ks : Nat} {cA : ClassId} {xs : Nat → Int32} {M : sk_M} {v0 : Int64} {S : rl_T} (B : lw_B l X O A a k w b n cA xs) (hi : i + 5 ≤ n) (hkc : kc ≤ 600000) (hks : ks ≤ 7000000) (Cr : rl_C M k S) (D : rl_D M w S) (E : lw_E l X O A Q a cA k w b i kc ks) : sk_L l X O A Q a cA v0 7 kc ks M 1206 (lw_lv O a k w b i) [] := by
  obtain ⟨C, L, hSr, hNx, hO, hst, hX, hkx, hkm, ap⟩ := B
  obtain ⟨o, H⟩ := Cr.2.1
  refine l_aloadn C 1 dL_law_1206 rfl ?_
  refine l_aloadn C 0 dL_law_1207 rfl ?_
  refine l_iload C 4 dL_law_1208 rfl ?_
  refine l_iconst C 1 dL_law_1210 (by decide) ?_
  refine l_iadd C dL_law_1211 ?_
  refine l_sald C hX (i + 1) (show nI i + (1 : Int32) = nI (i + 1) from nI_add i 1) (by omega) dL_law_1212 ?_
  refine l_aloadn C 0 dL_law_1213 rfl ?_
  refine l_iload C 4 dL_law_1214 rfl ?_
  refine l_iconst C 2 dL_law_1216 (by decide) ?_
  refine l_iadd C dL_law_1217 ?_
  refine l_sald C hX (i + 2) (show nI i + (2 : Int32) = nI (i + 2) from nI_add i 2) (by omega) dL_law_1218 ?_
  refine l_aloadn C 3 dL_law_1219 rfl ?_
  refine l_gi C L hSr hNx (as := [.ref (sk_ad O k), .int (xs (i + 1)), .int (xs (i + 2)), .ref a]) yg_set ml_L_163 (g_L_set l hO M (k := k) (w := (xs (i + 1))) (v := (xs (i + 2))) (hk := hkx) (o := o) (c := S.c) (ho := H.2.1) (hc := H.2.2.1) (ho14 := H.1) (hc14 := H.2.2.2.1) (hw := Cr.1.wf) (hst := hst) (ca := a) (cA := cA) (v0 := v0)) rfl rfl (Nat.le_of_ble_eq_true rfl) ⟨⟨by decide, by decide⟩, by show kc + 1 ≤ 601024; omega, by show ks + 6 ≤ 7293034; omega⟩ dL_law_1220 (fun x M1 v1 h1 => ?_)
  obtain ⟨x0, r, hx0, hx3, hw, hv⟩ := h1
  subst hx0
  dsimp only at hw hv
  have hy := wv1 hw
  have D1 := d_16 Cr D ap H hy
  have h8 := rl_D.h Cr D1
  refine l_istore C [1, 2, 3, 4, 5, 0] [(0, .ref b), (1, .ref (sk_ad O k)), (2, .ref (sk_ad O w)), (3, .ref a), (4, .int (nI i)), (5, .int (nI x0))] dL_law_1223 (by decide) rfl ?_
  refine l_aloadn C 2 dL_law_1225 rfl ?_
  refine l_aloadn C 0 dL_law_1226 rfl ?_
  refine l_iload C 4 dL_law_1227 rfl ?_
  refine l_iconst C 1 dL_law_1229 (by decide) ?_
  refine l_iadd C dL_law_1230 ?_
  refine l_sald C hX (i + 1) (show nI i + (1 : Int32) = nI (i + 1) from nI_add i 1) (by omega) dL_law_1231 ?_
  refine l_aloadn C 0 dL_law_1232 rfl ?_
  refine l_iload C 4 dL_law_1233 rfl ?_
  refine l_iconst C 2 dL_law_1235 (by decide) ?_
  refine l_iadd C dL_law_1236 ?_
  refine l_sald C hX (i + 2) (show nI i + (2 : Int32) = nI (i + 2) from nI_add i 2) (by omega) dL_law_1237 ?_
  refine l_vi C L (as := [.int (xs (i + 1)), .int (xs (i + 2))]) yvX8_set viX8_set ml_L_165 (m_X8_set l hO M1 (k := w) (hk := hkm) (w := (xs (i + 1))) (v := (xs (i + 2))) (c := S.c) (hc := h8.2.2.2.1) (hc14 := h8.2.2.2.2.1)) hkm.1 rfl rfl rfl (Nat.le_of_ble_eq_true rfl) ⟨⟨by decide, by decide⟩, by show kc + 1 ≤ 601024; omega, by show ks + 6 ≤ 7293034; omega⟩ dL_law_1238 (fun r2 M2 h2 => ?_)
  obtain ⟨s1, s2, S2, s3, s4⟩ := s_16 Cr D ap H hy h2
  refine l_istore C [1, 2, 3, 4, 5, 6, 0] [(0, .ref b), (1, .ref (sk_ad O k)), (2, .ref (sk_ad O w)), (3, .ref a), (4, .int (nI i)), (5, .int (nI x0)), (6, .int r2)] dL_law_1241 (by decide) rfl ?_
  refine l_aloadn C 2 dL_law_1243 rfl ?_
  refine l_vi C L (as := []) yvX8_thrown viX8_thrown ml_L_108 (m_X8_thrown l hO M2 (k := w) (hk := hkm)) hkm.1 rfl rfl rfl (Nat.le_of_ble_eq_true rfl) ⟨⟨by decide, by decide⟩, by show kc + 1 ≤ 601024; omega, by show ks + 6 ≤ 7293034; omega⟩ dL_law_1244 (fun r3 M3 h3 => ?_)
  obtain ⟨h3, h4⟩ := h3
  subst h4
  subst h3
  refine l_iload C 5 dL_law_1247 rfl ?_
  refine l_ceq C 1254 dL_law_1249 (by decide) (fun _ => ?_) (fun e => absurd s1 e)
  have fin : ∀ v2 : Int64, sk_L l X O A Q a cA v2 7 (kc + 1) (ks + 6) M3 1982 [(0, .ref b), (1, .ref (sk_ad O k)), (2, .ref (sk_ad O w)), (3, .ref a), (4, .int (nI i)), (5, .int (nI x0)), (6, .int r2)] [] := fun v2 => l_drop [0, 1, 2, 3, 4] (lw_lv O a k w b i) rfl (E _ _ _ _ _ (by omega) (by omega) s3 s4)
  refine l_iload C 5 dL_law_1254 rfl ?_
  refine l_zne C 1271 dL_law_1256 (by decide) (fun _ => ?_) (fun e => ?_)
  · exact l_goto C 1982 dL_law_1271 (by decide) (fin _)
  · have e0 : x0 = 0 := (nI_eq (b := 0) (by omega) (by decide)).mp e
    have e1 := hv e0
    have e2 := s2 e0
    subst e1
    subst e2
    refine l_aloadn C 3 dL_law_1259 rfl ?_
    refine l_iconst C 0 dL_law_1260 (by decide) ?_
    refine l_lald C L dL_law_1261 ?_
    refine l_iload C 6 dL_law_1262 rfl ?_
    refine l_i2l C dL_law_1264 ?_
    refine l_lcmp C dL_law_1265 ?_
    refine l_zeq C 1271 dL_law_1266 (by decide) (fun _ => ?_) (fun e => absurd (lg_same _) e)
    exact l_goto C 1982 dL_law_1271 (by decide) (fin _)
set_option maxRecDepth 100000 in
theorem lc_17 {l : Launch} {X : sk_X} {O : sk_O} {A : Nat → Prop} {Q : State → Prop} {a k w b n i kc ks : Nat} {cA : ClassId} {xs : Nat → Int32} {M : sk_M} {v0 : Int64} {S : rl_T} (B : lw_B l X O A a k w b n cA xs) (hi : i + 5 ≤ n) (hkc : kc ≤ 600000) (hks : ks ≤ 7000000) (Cr : rl_C M k S) (D : rl_D M w S) (E : lw_E l X O A Q a cA k w b i kc ks) : sk_L l X O A Q a cA v0 7 kc ks M 1274 (lw_lv O a k w b i) [] := by
  obtain ⟨C, L, hSr, hNx, hO, hst, hX, hkx, hkm, ap⟩ := B
  obtain ⟨o, H⟩ := Cr.2.1
  refine l_aloadn C 1 dL_law_1274 rfl ?_
  refine l_aloadn C 3 dL_law_1275 rfl ?_
  have hwb : S.c = 0 ∨ st_wf M (hs_at (k + 44) ((o + (S.c - 1)) % 14)) := by
    by_cases z : S.c = 0
    · exact Or.inl z
    · obtain ⟨m, R⟩ := H.2.2.2.2 (S.c - 1) (by omega)
      exact Or.inr R.wf
  refine l_gi C L hSr hNx (as := [.ref (sk_ad O k), .ref a]) yg_undo ml_L_166 (g_L_undo l hO M (k := k) (hk := hkx) (o := o) (c := S.c) (ho := H.2.1) (hc := H.2.2.1) (ho14 := H.1) (hc14 := H.2.2.2.1) (hwb := hwb) (hst := hst) (ca := a) (cA := cA) (v0 := v0)) rfl rfl (Nat.le_of_ble_eq_true rfl) ⟨⟨by decide, by decide⟩, by show kc + 1 ≤ 601024; omega, by show ks + 6 ≤ 7293034; omega⟩ dL_law_1276 (fun x M1 v1 h1 => ?_)
  obtain ⟨x0, r, hx0, hx3, hw, hv⟩ := h1
  subst hx0
  dsimp only at hw hv
  have hy := wvu hw
  have D1 := d_17 Cr D ap H hy
  have h8 := rl_D.h Cr D1
  refine l_istore C [1, 2, 3, 4, 5, 0] [(0, .ref b), (1, .ref (sk_ad O k)), (2, .ref (sk_ad O w)), (3, .ref a), (4, .int (nI i)), (5, .int (nI x0))] dL_law_1279 (by decide) rfl ?_
  refine l_aloadn C 2 dL_law_1281 rfl ?_
  refine l_vi C L (as := []) yvX8_undo viX8_undo ml_L_168 (m_X8_undo l hO M1 (k := w) (hk := hkm) (c := S.c) (hc := h8.2.2.2.1) (hc14 := h8.2.2.2.2.1)) hkm.1 rfl rfl rfl (Nat.le_of_ble_eq_true rfl) ⟨⟨by decide, by decide⟩, by show kc + 1 ≤ 601024; omega, by show ks + 6 ≤ 7293034; omega⟩ dL_law_1282 (fun r2 M2 h2 => ?_)
  obtain ⟨s1, s2, S2, s3, s4⟩ := s_17 Cr D ap H hy h2
  refine l_istore C [1, 2, 3, 4, 5, 6, 0] [(0, .ref b), (1, .ref (sk_ad O k)), (2, .ref (sk_ad O w)), (3, .ref a), (4, .int (nI i)), (5, .int (nI x0)), (6, .int r2)] dL_law_1285 (by decide) rfl ?_
  refine l_aloadn C 2 dL_law_1287 rfl ?_
  refine l_vi C L (as := []) yvX8_thrown viX8_thrown ml_L_108 (m_X8_thrown l hO M2 (k := w) (hk := hkm)) hkm.1 rfl rfl rfl (Nat.le_of_ble_eq_true rfl) ⟨⟨by decide, by decide⟩, by show kc + 1 ≤ 601024; omega, by show ks + 6 ≤ 7293034; omega⟩ dL_law_1288 (fun r3 M3 h3 => ?_)
  obtain ⟨h3, h4⟩ := h3
  subst h4
  subst h3
  refine l_iload C 5 dL_law_1291 rfl ?_
  refine l_ceq C 1298 dL_law_1293 (by decide) (fun _ => ?_) (fun e => absurd s1 e)
  have fin : ∀ v2 : Int64, sk_L l X O A Q a cA v2 7 (kc + 1) (ks + 6) M3 1982 [(0, .ref b), (1, .ref (sk_ad O k)), (2, .ref (sk_ad O w)), (3, .ref a), (4, .int (nI i)), (5, .int (nI x0)), (6, .int r2)] [] := fun v2 => l_drop [0, 1, 2, 3, 4] (lw_lv O a k w b i) rfl (E _ _ _ _ _ (by omega) (by omega) s3 s4)
  refine l_iload C 5 dL_law_1298 rfl ?_
  refine l_zne C 1315 dL_law_1300 (by decide) (fun _ => ?_) (fun e => ?_)
  · exact l_goto C 1982 dL_law_1315 (by decide) (fin _)
  · have e0 : x0 = 0 := (nI_eq (b := 0) (by omega) (by decide)).mp e
    have e1 := hv e0
    have e2 := s2 e0
    subst e1
    subst e2
    refine l_aloadn C 3 dL_law_1303 rfl ?_
    refine l_iconst C 0 dL_law_1304 (by decide) ?_
    refine l_lald C L dL_law_1305 ?_
    refine l_iload C 6 dL_law_1306 rfl ?_
    refine l_i2l C dL_law_1308 ?_
    refine l_lcmp C dL_law_1309 ?_
    refine l_zeq C 1315 dL_law_1310 (by decide) (fun _ => ?_) (fun e => absurd (lg_same _) e)
    exact l_goto C 1982 dL_law_1315 (by decide) (fin _)
set_option maxRecDepth 100000 in
theorem lc_18 {l : Launch} {X : sk_X} {O : sk_O} {A : Nat → Prop} {Q : State → Prop} {a k w b n i kc ks : Nat} {cA : ClassId} {xs : Nat → Int32} {M : sk_M} {v0 : Int64} {S : rl_T} (B : lw_B l X O A a k w b n cA xs) (hi : i + 5 ≤ n) (hkc : kc ≤ 600000) (hks : ks ≤ 7000000) (Cr : rl_C M k S) (D : rl_D M w S) (E : lw_E l X O A Q a cA k w b i kc ks) : sk_L l X O A Q a cA v0 7 kc ks M 1318 (lw_lv O a k w b i) [] := by
  obtain ⟨C, L, hSr, hNx, hO, hst, hX, hkx, hkm, ap⟩ := B
  obtain ⟨o, H⟩ := Cr.2.1
  refine l_aloadn C 1 dL_law_1318 rfl ?_
  refine l_aloadn C 0 dL_law_1319 rfl ?_
  refine l_iload C 4 dL_law_1320 rfl ?_
  refine l_iconst C 1 dL_law_1322 (by decide) ?_
  refine l_iadd C dL_law_1323 ?_
  refine l_sald C hX (i + 1) (show nI i + (1 : Int32) = nI (i + 1) from nI_add i 1) (by omega) dL_law_1324 ?_
  refine l_aloadn C 0 dL_law_1325 rfl ?_
  refine l_iload C 4 dL_law_1326 rfl ?_
  refine l_iconst C 2 dL_law_1328 (by decide) ?_
  refine l_iadd C dL_law_1329 ?_
  refine l_sald C hX (i + 2) (show nI i + (2 : Int32) = nI (i + 2) from nI_add i 2) (by omega) dL_law_1330 ?_
  refine l_aloadn C 0 dL_law_1331 rfl ?_
  refine l_iload C 4 dL_law_1332 rfl ?_
  refine l_iconst C 3 dL_law_1334 (by decide) ?_
  refine l_iadd C dL_law_1335 ?_
  refine l_sald C hX (i + 3) (show nI i + (3 : Int32) = nI (i + 3) from nI_add i 3) (by omega) dL_law_1336 ?_
  refine l_aloadn C 0 dL_law_1337 rfl ?_
  refine l_iload C 4 dL_law_1338 rfl ?_
  refine l_iconst C 4 dL_law_1340 (by decide) ?_
  refine l_iadd C dL_law_1341 ?_
  refine l_sald C hX (i + 4) (show nI i + (4 : Int32) = nI (i + 4) from nI_add i 4) (by omega) dL_law_1342 ?_
  refine l_aloadn C 3 dL_law_1343 rfl ?_
  refine l_gi C L hSr hNx (as := [.ref (sk_ad O k), .int (xs (i + 1)), .int (xs (i + 2)), .int (xs (i + 3)), .int (xs (i + 4)), .ref a]) yg_ifCalled ml_L_169 (g_L_ifCalled l hO M (k := k) (s := (xs (i + 1))) (e := (xs (i + 2))) (p := (xs (i + 3))) (v := (xs (i + 4))) (hk := hkx) (hw := Cr.1.wf) (hst := hst) (ca := a) (cA := cA) (v0 := v0)) rfl rfl (Nat.le_of_ble_eq_true rfl) ⟨⟨by decide, by decide⟩, by show kc + 1 ≤ 601024; omega, by show ks + 6 ≤ 7293034; omega⟩ dL_law_1344 (fun x M1 v1 h1 => ?_)
  obtain ⟨x0, r, hx0, hx3, hw, hv⟩ := h1
  subst hx0
  dsimp only at hw hv
  have hy := wv3 (by decide) (by decide) (by decide) hw
  have D1 := d_18 Cr D ap hy
  have h8 := rl_D.h Cr D1
  refine l_istore C [1, 2, 3, 4, 5, 0] [(0, .ref b), (1, .ref (sk_ad O k)), (2, .ref (sk_ad O w)), (3, .ref a), (4, .int (nI i)), (5, .int (nI x0))] dL_law_1347 (by decide) rfl ?_
  refine l_aloadn C 2 dL_law_1349 rfl ?_
  refine l_aloadn C 0 dL_law_1350 rfl ?_
  refine l_iload C 4 dL_law_1351 rfl ?_
  refine l_iconst C 1 dL_law_1353 (by decide) ?_
  refine l_iadd C dL_law_1354 ?_
  refine l_sald C hX (i + 1) (show nI i + (1 : Int32) = nI (i + 1) from nI_add i 1) (by omega) dL_law_1355 ?_
  refine l_aloadn C 0 dL_law_1356 rfl ?_
  refine l_iload C 4 dL_law_1357 rfl ?_
  refine l_iconst C 2 dL_law_1359 (by decide) ?_
  refine l_iadd C dL_law_1360 ?_
  refine l_sald C hX (i + 2) (show nI i + (2 : Int32) = nI (i + 2) from nI_add i 2) (by omega) dL_law_1361 ?_
  refine l_aloadn C 0 dL_law_1362 rfl ?_
  refine l_iload C 4 dL_law_1363 rfl ?_
  refine l_iconst C 3 dL_law_1365 (by decide) ?_
  refine l_iadd C dL_law_1366 ?_
  refine l_sald C hX (i + 3) (show nI i + (3 : Int32) = nI (i + 3) from nI_add i 3) (by omega) dL_law_1367 ?_
  refine l_aloadn C 0 dL_law_1368 rfl ?_
  refine l_iload C 4 dL_law_1369 rfl ?_
  refine l_iconst C 4 dL_law_1371 (by decide) ?_
  refine l_iadd C dL_law_1372 ?_
  refine l_sald C hX (i + 4) (show nI i + (4 : Int32) = nI (i + 4) from nI_add i 4) (by omega) dL_law_1373 ?_
  refine l_vi C L (as := [.int (xs (i + 1)), .int (xs (i + 2)), .int (xs (i + 3)), .int (xs (i + 4))]) yvX8_ifCalled viX8_ifCalled ml_L_171 (m_X8_ifCalled l hO M1 (k := w) (hk := hkm) (s := (xs (i + 1))) (e := (xs (i + 2))) (p := (xs (i + 3))) (v := (xs (i + 4))) (m := S.m) (hm4 := h8.1) (hm := h8.2.1) (hmj := h8.2.2.1)) hkm.1 rfl rfl rfl (Nat.le_of_ble_eq_true rfl) ⟨⟨by decide, by decide⟩, by show kc + 1 ≤ 601024; omega, by show ks + 6 ≤ 7293034; omega⟩ dL_law_1374 (fun r2 M2 h2 => ?_)
  obtain ⟨s1, s2, S2, s3, s4⟩ := s_18 Cr D ap hy h2
  refine l_istore C [1, 2, 3, 4, 5, 6, 0] [(0, .ref b), (1, .ref (sk_ad O k)), (2, .ref (sk_ad O w)), (3, .ref a), (4, .int (nI i)), (5, .int (nI x0)), (6, .int r2)] dL_law_1377 (by decide) rfl ?_
  refine l_aloadn C 2 dL_law_1379 rfl ?_
  refine l_vi C L (as := []) yvX8_thrown viX8_thrown ml_L_108 (m_X8_thrown l hO M2 (k := w) (hk := hkm)) hkm.1 rfl rfl rfl (Nat.le_of_ble_eq_true rfl) ⟨⟨by decide, by decide⟩, by show kc + 1 ≤ 601024; omega, by show ks + 6 ≤ 7293034; omega⟩ dL_law_1380 (fun r3 M3 h3 => ?_)
  obtain ⟨h3, h4⟩ := h3
  subst h4
  subst h3
  refine l_iload C 5 dL_law_1383 rfl ?_
  refine l_ceq C 1390 dL_law_1385 (by decide) (fun _ => ?_) (fun e => absurd s1 e)
  have fin : ∀ v2 : Int64, sk_L l X O A Q a cA v2 7 (kc + 1) (ks + 6) M3 1982 [(0, .ref b), (1, .ref (sk_ad O k)), (2, .ref (sk_ad O w)), (3, .ref a), (4, .int (nI i)), (5, .int (nI x0)), (6, .int r2)] [] := fun v2 => l_drop [0, 1, 2, 3, 4] (lw_lv O a k w b i) rfl (E _ _ _ _ _ (by omega) (by omega) s3 s4)
  refine l_iload C 5 dL_law_1390 rfl ?_
  refine l_zne C 1407 dL_law_1392 (by decide) (fun _ => ?_) (fun e => ?_)
  · exact l_goto C 1982 dL_law_1407 (by decide) (fin _)
  · have e0 : x0 = 0 := (nI_eq (b := 0) (by omega) (by decide)).mp e
    have e1 := hv e0
    have e2 := s2 e0
    subst e1
    subst e2
    refine l_aloadn C 3 dL_law_1395 rfl ?_
    refine l_iconst C 0 dL_law_1396 (by decide) ?_
    refine l_lald C L dL_law_1397 ?_
    refine l_iload C 6 dL_law_1398 rfl ?_
    refine l_i2l C dL_law_1400 ?_
    refine l_lcmp C dL_law_1401 ?_
    refine l_zeq C 1407 dL_law_1402 (by decide) (fun _ => ?_) (fun e => absurd (lg_same _) e)
    exact l_goto C 1982 dL_law_1407 (by decide) (fin _)
set_option maxRecDepth 100000 in
theorem lc_19 {l : Launch} {X : sk_X} {O : sk_O} {A : Nat → Prop} {Q : State → Prop} {a k w b n i kc ks : Nat} {cA : ClassId} {xs : Nat → Int32} {M : sk_M} {v0 : Int64} {S : rl_T} (B : lw_B l X O A a k w b n cA xs) (hi : i + 5 ≤ n) (hkc : kc ≤ 600000) (hks : ks ≤ 7000000) (Cr : rl_C M k S) (D : rl_D M w S) (E : lw_E l X O A Q a cA k w b i kc ks) : sk_L l X O A Q a cA v0 7 kc ks M 1410 (lw_lv O a k w b i) [] := by
  obtain ⟨C, L, hSr, hNx, hO, hst, hX, hkx, hkm, ap⟩ := B
  obtain ⟨o, H⟩ := Cr.2.1
  refine l_aloadn C 1 dL_law_1410 rfl ?_
  refine l_aloadn C 0 dL_law_1411 rfl ?_
  refine l_iload C 4 dL_law_1412 rfl ?_
  refine l_iconst C 1 dL_law_1414 (by decide) ?_
  refine l_iadd C dL_law_1415 ?_
  refine l_sald C hX (i + 1) (show nI i + (1 : Int32) = nI (i + 1) from nI_add i 1) (by omega) dL_law_1416 ?_
  refine l_aloadn C 0 dL_law_1417 rfl ?_
  refine l_iload C 4 dL_law_1418 rfl ?_
  refine l_iconst C 2 dL_law_1420 (by decide) ?_
  refine l_iadd C dL_law_1421 ?_
  refine l_sald C hX (i + 2) (show nI i + (2 : Int32) = nI (i + 2) from nI_add i 2) (by omega) dL_law_1422 ?_
  refine l_aloadn C 3 dL_law_1423 rfl ?_
  refine l_gi C L hSr hNx (as := [.ref (sk_ad O k), .int (xs (i + 1)), .int (xs (i + 2)), .ref a]) yg_ifReplaced ml_L_172 (g_L_ifReplaced l hO M (k := k) (n := S.n) (s := (xs (i + 1))) (e := (xs (i + 2))) (hk := hkx) (hn := Cr.2.2.2.2.1) (hn2 := Cr.2.2.2.1) (hw := Cr.1.wf) (hst := hst) (ca := a) (cA := cA) (v0 := v0)) rfl rfl (Nat.le_of_ble_eq_true rfl) ⟨⟨by decide, by decide⟩, by show kc + 1 ≤ 601024; omega, by show ks + 6 ≤ 7293034; omega⟩ dL_law_1424 (fun x M1 v1 h1 => ?_)
  obtain ⟨x0, r, hx0, hx3, hw, hv⟩ := h1
  subst hx0
  dsimp only at hw hv
  have hy := hw
  have D1 := d_19 Cr D ap hy
  have h8 := rl_D.h Cr D1
  refine l_istore C [1, 2, 3, 4, 5, 0] [(0, .ref b), (1, .ref (sk_ad O k)), (2, .ref (sk_ad O w)), (3, .ref a), (4, .int (nI i)), (5, .int (nI x0))] dL_law_1427 (by decide) rfl ?_
  refine l_aloadn C 2 dL_law_1429 rfl ?_
  refine l_aloadn C 0 dL_law_1430 rfl ?_
  refine l_iload C 4 dL_law_1431 rfl ?_
  refine l_iconst C 1 dL_law_1433 (by decide) ?_
  refine l_iadd C dL_law_1434 ?_
  refine l_sald C hX (i + 1) (show nI i + (1 : Int32) = nI (i + 1) from nI_add i 1) (by omega) dL_law_1435 ?_
  refine l_aloadn C 0 dL_law_1436 rfl ?_
  refine l_iload C 4 dL_law_1437 rfl ?_
  refine l_iconst C 2 dL_law_1439 (by decide) ?_
  refine l_iadd C dL_law_1440 ?_
  refine l_sald C hX (i + 2) (show nI i + (2 : Int32) = nI (i + 2) from nI_add i 2) (by omega) dL_law_1441 ?_
  refine l_vi C L (as := [.int (xs (i + 1)), .int (xs (i + 2))]) yvX8_ifReplaced viX8_ifReplaced ml_L_174 (m_X8_ifReplaced l hO M1 (k := w) (hk := hkm) (s := (xs (i + 1))) (e := (xs (i + 2))) (n := S.n) (hn := h8.2.2.2.2.2.1) (hn2 := h8.2.2.2.2.2.2.1) (hr := h8.2.2.2.2.2.2.2) (m := S.m) (hm4 := h8.1) (hm := h8.2.1) (hmj := h8.2.2.1)) hkm.1 rfl rfl rfl (Nat.le_of_ble_eq_true rfl) ⟨⟨by decide, by decide⟩, by show kc + 1 ≤ 601024; omega, by show ks + 6 ≤ 7293034; omega⟩ dL_law_1442 (fun r2 M2 h2 => ?_)
  obtain ⟨s1, s2, S2, s3, s4⟩ := s_19 Cr D ap hy h2
  refine l_istore C [1, 2, 3, 4, 5, 6, 0] [(0, .ref b), (1, .ref (sk_ad O k)), (2, .ref (sk_ad O w)), (3, .ref a), (4, .int (nI i)), (5, .int (nI x0)), (6, .int r2)] dL_law_1445 (by decide) rfl ?_
  refine l_aloadn C 2 dL_law_1447 rfl ?_
  refine l_vi C L (as := []) yvX8_thrown viX8_thrown ml_L_108 (m_X8_thrown l hO M2 (k := w) (hk := hkm)) hkm.1 rfl rfl rfl (Nat.le_of_ble_eq_true rfl) ⟨⟨by decide, by decide⟩, by show kc + 1 ≤ 601024; omega, by show ks + 6 ≤ 7293034; omega⟩ dL_law_1448 (fun r3 M3 h3 => ?_)
  obtain ⟨h3, h4⟩ := h3
  subst h4
  subst h3
  refine l_iload C 5 dL_law_1451 rfl ?_
  refine l_ceq C 1458 dL_law_1453 (by decide) (fun _ => ?_) (fun e => absurd s1 e)
  have fin : ∀ v2 : Int64, sk_L l X O A Q a cA v2 7 (kc + 1) (ks + 6) M3 1982 [(0, .ref b), (1, .ref (sk_ad O k)), (2, .ref (sk_ad O w)), (3, .ref a), (4, .int (nI i)), (5, .int (nI x0)), (6, .int r2)] [] := fun v2 => l_drop [0, 1, 2, 3, 4] (lw_lv O a k w b i) rfl (E _ _ _ _ _ (by omega) (by omega) s3 s4)
  refine l_iload C 5 dL_law_1458 rfl ?_
  refine l_zne C 1475 dL_law_1460 (by decide) (fun _ => ?_) (fun e => ?_)
  · exact l_goto C 1982 dL_law_1475 (by decide) (fin _)
  · have e0 : x0 = 0 := (nI_eq (b := 0) (by omega) (by decide)).mp e
    have e1 := hv e0
    have e2 := s2 e0
    subst e1
    subst e2
    refine l_aloadn C 3 dL_law_1463 rfl ?_
    refine l_iconst C 0 dL_law_1464 (by decide) ?_
    refine l_lald C L dL_law_1465 ?_
    refine l_iload C 6 dL_law_1466 rfl ?_
    refine l_i2l C dL_law_1468 ?_
    refine l_lcmp C dL_law_1469 ?_
    refine l_zeq C 1475 dL_law_1470 (by decide) (fun _ => ?_) (fun e => absurd (lg_same _) e)
    exact l_goto C 1982 dL_law_1475 (by decide) (fin _)
set_option maxRecDepth 100000 in
theorem lc_20 {l : Launch} {X : sk_X} {O : sk_O} {A : Nat → Prop} {Q : State → Prop} {a k w b n i kc ks : Nat} {cA : ClassId} {xs : Nat → Int32} {M : sk_M} {v0 : Int64} {S : rl_T} (B : lw_B l X O A a k w b n cA xs) (hi : i + 5 ≤ n) (hkc : kc ≤ 600000) (hks : ks ≤ 7000000) (Cr : rl_C M k S) (D : rl_D M w S) (E : lw_E l X O A Q a cA k w b i kc ks) : sk_L l X O A Q a cA v0 7 kc ks M 1478 (lw_lv O a k w b i) [] := by
  obtain ⟨C, L, hSr, hNx, hO, hst, hX, hkx, hkm, ap⟩ := B
  obtain ⟨o, H⟩ := Cr.2.1
  refine l_aloadn C 1 dL_law_1478 rfl ?_
  refine l_aloadn C 0 dL_law_1479 rfl ?_
  refine l_iload C 4 dL_law_1480 rfl ?_
  refine l_iconst C 1 dL_law_1482 (by decide) ?_
  refine l_iadd C dL_law_1483 ?_
  refine l_sald C hX (i + 1) (show nI i + (1 : Int32) = nI (i + 1) from nI_add i 1) (by omega) dL_law_1484 ?_
  refine l_aloadn C 0 dL_law_1485 rfl ?_
  refine l_iload C 4 dL_law_1486 rfl ?_
  refine l_iconst C 2 dL_law_1488 (by decide) ?_
  refine l_iadd C dL_law_1489 ?_
  refine l_sald C hX (i + 2) (show nI i + (2 : Int32) = nI (i + 2) from nI_add i 2) (by omega) dL_law_1490 ?_
  refine l_aloadn C 3 dL_law_1491 rfl ?_
  refine l_gi C L hSr hNx (as := [.ref (sk_ad O k), .int (xs (i + 1)), .int (xs (i + 2)), .ref a]) yg_bestSwap ml_L_175 (g_L_bestSwap l hO M (k := k) (s := (xs (i + 1))) (w := (xs (i + 2))) (hk := hkx) (hw := Cr.1.wf) (hst := hst) (ca := a) (cA := cA) (v0 := v0)) rfl rfl (Nat.le_of_ble_eq_true rfl) ⟨⟨by decide, by decide⟩, by show kc + 1 ≤ 601024; omega, by show ks + 6 ≤ 7293034; omega⟩ dL_law_1492 (fun x M1 v1 h1 => ?_)
  obtain ⟨x0, r, hx0, hx3, hw, hv⟩ := h1
  subst hx0
  dsimp only at hw hv
  have hy := wv2 (by decide) hw
  have D1 := d_20 Cr D ap hy
  have h8 := rl_D.h Cr D1
  refine l_istore C [1, 2, 3, 4, 5, 0] [(0, .ref b), (1, .ref (sk_ad O k)), (2, .ref (sk_ad O w)), (3, .ref a), (4, .int (nI i)), (5, .int (nI x0))] dL_law_1495 (by decide) rfl ?_
  refine l_aloadn C 2 dL_law_1497 rfl ?_
  refine l_aloadn C 0 dL_law_1498 rfl ?_
  refine l_iload C 4 dL_law_1499 rfl ?_
  refine l_iconst C 1 dL_law_1501 (by decide) ?_
  refine l_iadd C dL_law_1502 ?_
  refine l_sald C hX (i + 1) (show nI i + (1 : Int32) = nI (i + 1) from nI_add i 1) (by omega) dL_law_1503 ?_
  refine l_aloadn C 0 dL_law_1504 rfl ?_
  refine l_iload C 4 dL_law_1505 rfl ?_
  refine l_iconst C 2 dL_law_1507 (by decide) ?_
  refine l_iadd C dL_law_1508 ?_
  refine l_sald C hX (i + 2) (show nI i + (2 : Int32) = nI (i + 2) from nI_add i 2) (by omega) dL_law_1509 ?_
  refine l_vi C L (as := [.int (xs (i + 1)), .int (xs (i + 2))]) yvX8_bestSwap viX8_bestSwap ml_L_177 (m_X8_bestSwap l hO M1 (k := w) (hk := hkm) (s := (xs (i + 1))) (w := (xs (i + 2))) (m := S.m) (hm4 := h8.1) (hm := h8.2.1) (hmj := h8.2.2.1)) hkm.1 rfl rfl rfl (Nat.le_of_ble_eq_true rfl) ⟨⟨by decide, by decide⟩, by show kc + 1 ≤ 601024; omega, by show ks + 6 ≤ 7293034; omega⟩ dL_law_1510 (fun r2 M2 h2 => ?_)
  obtain ⟨s1, s2, S2, s3, s4⟩ := s_20 Cr D ap hy h2
  refine l_istore C [1, 2, 3, 4, 5, 6, 0] [(0, .ref b), (1, .ref (sk_ad O k)), (2, .ref (sk_ad O w)), (3, .ref a), (4, .int (nI i)), (5, .int (nI x0)), (6, .int r2)] dL_law_1513 (by decide) rfl ?_
  refine l_aloadn C 2 dL_law_1515 rfl ?_
  refine l_vi C L (as := []) yvX8_thrown viX8_thrown ml_L_108 (m_X8_thrown l hO M2 (k := w) (hk := hkm)) hkm.1 rfl rfl rfl (Nat.le_of_ble_eq_true rfl) ⟨⟨by decide, by decide⟩, by show kc + 1 ≤ 601024; omega, by show ks + 6 ≤ 7293034; omega⟩ dL_law_1516 (fun r3 M3 h3 => ?_)
  obtain ⟨h3, h4⟩ := h3
  subst h4
  subst h3
  refine l_iload C 5 dL_law_1519 rfl ?_
  refine l_ceq C 1526 dL_law_1521 (by decide) (fun _ => ?_) (fun e => absurd s1 e)
  have fin : ∀ v2 : Int64, sk_L l X O A Q a cA v2 7 (kc + 1) (ks + 6) M3 1982 [(0, .ref b), (1, .ref (sk_ad O k)), (2, .ref (sk_ad O w)), (3, .ref a), (4, .int (nI i)), (5, .int (nI x0)), (6, .int r2)] [] := fun v2 => l_drop [0, 1, 2, 3, 4] (lw_lv O a k w b i) rfl (E _ _ _ _ _ (by omega) (by omega) s3 s4)
  refine l_iload C 5 dL_law_1526 rfl ?_
  refine l_zne C 1543 dL_law_1528 (by decide) (fun _ => ?_) (fun e => ?_)
  · exact l_goto C 1982 dL_law_1543 (by decide) (fin _)
  · have e0 : x0 = 0 := (nI_eq (b := 0) (by omega) (by decide)).mp e
    have e1 := hv e0
    have e2 := s2 e0
    subst e1
    subst e2
    refine l_aloadn C 3 dL_law_1531 rfl ?_
    refine l_iconst C 0 dL_law_1532 (by decide) ?_
    refine l_lald C L dL_law_1533 ?_
    refine l_iload C 6 dL_law_1534 rfl ?_
    refine l_i2l C dL_law_1536 ?_
    refine l_lcmp C dL_law_1537 ?_
    refine l_zeq C 1543 dL_law_1538 (by decide) (fun _ => ?_) (fun e => absurd (lg_same _) e)
    exact l_goto C 1982 dL_law_1543 (by decide) (fin _)
set_option maxRecDepth 100000 in
theorem lc_21 {l : Launch} {X : sk_X} {O : sk_O} {A : Nat → Prop} {Q : State → Prop} {a k w b n i kc ks : Nat} {cA : ClassId} {xs : Nat → Int32} {M : sk_M} {v0 : Int64} {S : rl_T} (B : lw_B l X O A a k w b n cA xs) (hi : i + 5 ≤ n) (hkc : kc ≤ 600000) (hks : ks ≤ 7000000) (Cr : rl_C M k S) (D : rl_D M w S) (E : lw_E l X O A Q a cA k w b i kc ks) : sk_L l X O A Q a cA v0 7 kc ks M 1546 (lw_lv O a k w b i) [] := by
  obtain ⟨C, L, hSr, hNx, hO, hst, hX, hkx, hkm, ap⟩ := B
  obtain ⟨o, H⟩ := Cr.2.1
  refine l_aloadn C 1 dL_law_1546 rfl ?_
  refine l_aloadn C 0 dL_law_1547 rfl ?_
  refine l_iload C 4 dL_law_1548 rfl ?_
  refine l_iconst C 1 dL_law_1550 (by decide) ?_
  refine l_iadd C dL_law_1551 ?_
  refine l_sald C hX (i + 1) (show nI i + (1 : Int32) = nI (i + 1) from nI_add i 1) (by omega) dL_law_1552 ?_
  refine l_aloadn C 0 dL_law_1553 rfl ?_
  refine l_iload C 4 dL_law_1554 rfl ?_
  refine l_iconst C 2 dL_law_1556 (by decide) ?_
  refine l_iadd C dL_law_1557 ?_
  refine l_sald C hX (i + 2) (show nI i + (2 : Int32) = nI (i + 2) from nI_add i 2) (by omega) dL_law_1558 ?_
  refine l_aloadn C 3 dL_law_1559 rfl ?_
  refine l_gi C L hSr hNx (as := [.ref (sk_ad O k), .int (xs (i + 1)), .int (xs (i + 2)), .ref a]) yg_needs ml_L_178 (g_L_needs l hO M (k := k) (s := (xs (i + 1))) (e := (xs (i + 2))) (hk := hkx) (hw := Cr.1.wf) (hst := hst) (ca := a) (cA := cA) (v0 := v0)) rfl rfl (Nat.le_of_ble_eq_true rfl) ⟨⟨by decide, by decide⟩, by show kc + 1 ≤ 601024; omega, by show ks + 6 ≤ 7293034; omega⟩ dL_law_1560 (fun x M1 v1 h1 => ?_)
  obtain ⟨x0, r, hx0, hx3, hw, hv⟩ := h1
  subst hx0
  dsimp only at hw hv
  have hy := hw
  have D1 := d_21 Cr D ap hy
  have h8 := rl_D.h Cr D1
  refine l_istore C [1, 2, 3, 4, 5, 0] [(0, .ref b), (1, .ref (sk_ad O k)), (2, .ref (sk_ad O w)), (3, .ref a), (4, .int (nI i)), (5, .int (nI x0))] dL_law_1563 (by decide) rfl ?_
  refine l_aloadn C 2 dL_law_1565 rfl ?_
  refine l_aloadn C 0 dL_law_1566 rfl ?_
  refine l_iload C 4 dL_law_1567 rfl ?_
  refine l_iconst C 1 dL_law_1569 (by decide) ?_
  refine l_iadd C dL_law_1570 ?_
  refine l_sald C hX (i + 1) (show nI i + (1 : Int32) = nI (i + 1) from nI_add i 1) (by omega) dL_law_1571 ?_
  refine l_aloadn C 0 dL_law_1572 rfl ?_
  refine l_iload C 4 dL_law_1573 rfl ?_
  refine l_iconst C 2 dL_law_1575 (by decide) ?_
  refine l_iadd C dL_law_1576 ?_
  refine l_sald C hX (i + 2) (show nI i + (2 : Int32) = nI (i + 2) from nI_add i 2) (by omega) dL_law_1577 ?_
  refine l_vi C L (as := [.int (xs (i + 1)), .int (xs (i + 2))]) yvX8_needs viX8_needs ml_L_180 (m_X8_needs l hO M1 (k := w) (hk := hkm) (s := (xs (i + 1))) (e := (xs (i + 2))) (m := S.m) (hm4 := h8.1) (hm := h8.2.1) (hmj := h8.2.2.1)) hkm.1 rfl rfl rfl (Nat.le_of_ble_eq_true rfl) ⟨⟨by decide, by decide⟩, by show kc + 1 ≤ 601024; omega, by show ks + 6 ≤ 7293034; omega⟩ dL_law_1578 (fun r2 M2 h2 => ?_)
  obtain ⟨s1, s2, S2, s3, s4⟩ := s_21 Cr D ap hy h2
  refine l_istore C [1, 2, 3, 4, 5, 6, 0] [(0, .ref b), (1, .ref (sk_ad O k)), (2, .ref (sk_ad O w)), (3, .ref a), (4, .int (nI i)), (5, .int (nI x0)), (6, .int r2)] dL_law_1581 (by decide) rfl ?_
  refine l_aloadn C 2 dL_law_1583 rfl ?_
  refine l_vi C L (as := []) yvX8_thrown viX8_thrown ml_L_108 (m_X8_thrown l hO M2 (k := w) (hk := hkm)) hkm.1 rfl rfl rfl (Nat.le_of_ble_eq_true rfl) ⟨⟨by decide, by decide⟩, by show kc + 1 ≤ 601024; omega, by show ks + 6 ≤ 7293034; omega⟩ dL_law_1584 (fun r3 M3 h3 => ?_)
  obtain ⟨h3, h4⟩ := h3
  subst h4
  subst h3
  refine l_iload C 5 dL_law_1587 rfl ?_
  refine l_ceq C 1594 dL_law_1589 (by decide) (fun _ => ?_) (fun e => absurd s1 e)
  have fin : ∀ v2 : Int64, sk_L l X O A Q a cA v2 7 (kc + 1) (ks + 6) M3 1982 [(0, .ref b), (1, .ref (sk_ad O k)), (2, .ref (sk_ad O w)), (3, .ref a), (4, .int (nI i)), (5, .int (nI x0)), (6, .int r2)] [] := fun v2 => l_drop [0, 1, 2, 3, 4] (lw_lv O a k w b i) rfl (E _ _ _ _ _ (by omega) (by omega) s3 s4)
  refine l_iload C 5 dL_law_1594 rfl ?_
  refine l_zne C 1611 dL_law_1596 (by decide) (fun _ => ?_) (fun e => ?_)
  · exact l_goto C 1982 dL_law_1611 (by decide) (fin _)
  · have e0 : x0 = 0 := (nI_eq (b := 0) (by omega) (by decide)).mp e
    have e1 := hv e0
    have e2 := s2 e0
    subst e1
    subst e2
    refine l_aloadn C 3 dL_law_1599 rfl ?_
    refine l_iconst C 0 dL_law_1600 (by decide) ?_
    refine l_lald C L dL_law_1601 ?_
    refine l_iload C 6 dL_law_1602 rfl ?_
    refine l_i2l C dL_law_1604 ?_
    refine l_lcmp C dL_law_1605 ?_
    refine l_zeq C 1611 dL_law_1606 (by decide) (fun _ => ?_) (fun e => absurd (lg_same _) e)
    exact l_goto C 1982 dL_law_1611 (by decide) (fin _)
set_option maxRecDepth 100000 in
theorem lc_22 {l : Launch} {X : sk_X} {O : sk_O} {A : Nat → Prop} {Q : State → Prop} {a k w b n i kc ks : Nat} {cA : ClassId} {xs : Nat → Int32} {M : sk_M} {v0 : Int64} {S : rl_T} (B : lw_B l X O A a k w b n cA xs) (hi : i + 5 ≤ n) (hkc : kc ≤ 600000) (hks : ks ≤ 7000000) (Cr : rl_C M k S) (D : rl_D M w S) (E : lw_E l X O A Q a cA k w b i kc ks) : sk_L l X O A Q a cA v0 7 kc ks M 1614 (lw_lv O a k w b i) [] := by
  obtain ⟨C, L, hSr, hNx, hO, hst, hX, hkx, hkm, ap⟩ := B
  obtain ⟨o, H⟩ := Cr.2.1
  refine l_aloadn C 1 dL_law_1614 rfl ?_
  refine l_aloadn C 0 dL_law_1615 rfl ?_
  refine l_iload C 4 dL_law_1616 rfl ?_
  refine l_iconst C 1 dL_law_1618 (by decide) ?_
  refine l_iadd C dL_law_1619 ?_
  refine l_sald C hX (i + 1) (show nI i + (1 : Int32) = nI (i + 1) from nI_add i 1) (by omega) dL_law_1620 ?_
  refine l_aloadn C 3 dL_law_1621 rfl ?_
  refine l_gi C L hSr hNx (as := [.ref (sk_ad O k), .int (xs (i + 1)), .ref a]) yg_behind ml_L_181 (g_L_behind l hO M (k := k) (s := (xs (i + 1))) (hk := hkx) (hw := Cr.1.wf) (hst := hst) (ca := a) (cA := cA) (v0 := v0)) rfl rfl (Nat.le_of_ble_eq_true rfl) ⟨⟨by decide, by decide⟩, by show kc + 1 ≤ 601024; omega, by show ks + 6 ≤ 7293034; omega⟩ dL_law_1622 (fun x M1 v1 h1 => ?_)
  obtain ⟨x0, r, hx0, hx3, hw, hv⟩ := h1
  subst hx0
  dsimp only at hw hv
  have hy := wv1 hw
  have D1 := d_22 Cr D ap hy
  have h8 := rl_D.h Cr D1
  refine l_istore C [1, 2, 3, 4, 5, 0] [(0, .ref b), (1, .ref (sk_ad O k)), (2, .ref (sk_ad O w)), (3, .ref a), (4, .int (nI i)), (5, .int (nI x0))] dL_law_1625 (by decide) rfl ?_
  refine l_aloadn C 2 dL_law_1627 rfl ?_
  refine l_aloadn C 0 dL_law_1628 rfl ?_
  refine l_iload C 4 dL_law_1629 rfl ?_
  refine l_iconst C 1 dL_law_1631 (by decide) ?_
  refine l_iadd C dL_law_1632 ?_
  refine l_sald C hX (i + 1) (show nI i + (1 : Int32) = nI (i + 1) from nI_add i 1) (by omega) dL_law_1633 ?_
  refine l_vi C L (as := [.int (xs (i + 1))]) yvX8_behind viX8_behind ml_L_183 (m_X8_behind l hO M1 (k := w) (hk := hkm) (s := (xs (i + 1))) (m := S.m) (hm4 := h8.1) (hm := h8.2.1) (hmj := h8.2.2.1)) hkm.1 rfl rfl rfl (Nat.le_of_ble_eq_true rfl) ⟨⟨by decide, by decide⟩, by show kc + 1 ≤ 601024; omega, by show ks + 6 ≤ 7293034; omega⟩ dL_law_1634 (fun r2 M2 h2 => ?_)
  obtain ⟨s1, s2, S2, s3, s4⟩ := s_22 Cr D ap hy h2
  refine l_istore C [1, 2, 3, 4, 5, 6, 0] [(0, .ref b), (1, .ref (sk_ad O k)), (2, .ref (sk_ad O w)), (3, .ref a), (4, .int (nI i)), (5, .int (nI x0)), (6, .int r2)] dL_law_1637 (by decide) rfl ?_
  refine l_aloadn C 2 dL_law_1639 rfl ?_
  refine l_vi C L (as := []) yvX8_thrown viX8_thrown ml_L_108 (m_X8_thrown l hO M2 (k := w) (hk := hkm)) hkm.1 rfl rfl rfl (Nat.le_of_ble_eq_true rfl) ⟨⟨by decide, by decide⟩, by show kc + 1 ≤ 601024; omega, by show ks + 6 ≤ 7293034; omega⟩ dL_law_1640 (fun r3 M3 h3 => ?_)
  obtain ⟨h3, h4⟩ := h3
  subst h4
  subst h3
  refine l_iload C 5 dL_law_1643 rfl ?_
  refine l_ceq C 1650 dL_law_1645 (by decide) (fun _ => ?_) (fun e => absurd s1 e)
  have fin : ∀ v2 : Int64, sk_L l X O A Q a cA v2 7 (kc + 1) (ks + 6) M3 1982 [(0, .ref b), (1, .ref (sk_ad O k)), (2, .ref (sk_ad O w)), (3, .ref a), (4, .int (nI i)), (5, .int (nI x0)), (6, .int r2)] [] := fun v2 => l_drop [0, 1, 2, 3, 4] (lw_lv O a k w b i) rfl (E _ _ _ _ _ (by omega) (by omega) s3 s4)
  refine l_iload C 5 dL_law_1650 rfl ?_
  refine l_zne C 1667 dL_law_1652 (by decide) (fun _ => ?_) (fun e => ?_)
  · exact l_goto C 1982 dL_law_1667 (by decide) (fin _)
  · have e0 : x0 = 0 := (nI_eq (b := 0) (by omega) (by decide)).mp e
    have e1 := hv e0
    have e2 := s2 e0
    subst e1
    subst e2
    refine l_aloadn C 3 dL_law_1655 rfl ?_
    refine l_iconst C 0 dL_law_1656 (by decide) ?_
    refine l_lald C L dL_law_1657 ?_
    refine l_iload C 6 dL_law_1658 rfl ?_
    refine l_i2l C dL_law_1660 ?_
    refine l_lcmp C dL_law_1661 ?_
    refine l_zeq C 1667 dL_law_1662 (by decide) (fun _ => ?_) (fun e => absurd (lg_same _) e)
    exact l_goto C 1982 dL_law_1667 (by decide) (fin _)
set_option maxRecDepth 100000 in
theorem lc_23 {l : Launch} {X : sk_X} {O : sk_O} {A : Nat → Prop} {Q : State → Prop} {a k w b n i kc ks : Nat} {cA : ClassId} {xs : Nat → Int32} {M : sk_M} {v0 : Int64} {S : rl_T} (B : lw_B l X O A a k w b n cA xs) (hi : i + 5 ≤ n) (hkc : kc ≤ 600000) (hks : ks ≤ 7000000) (Cr : rl_C M k S) (D : rl_D M w S) (E : lw_E l X O A Q a cA k w b i kc ks) : sk_L l X O A Q a cA v0 7 kc ks M 1670 (lw_lv O a k w b i) [] := by
  obtain ⟨C, L, hSr, hNx, hO, hst, hX, hkx, hkm, ap⟩ := B
  obtain ⟨o, H⟩ := Cr.2.1
  refine l_aloadn C 1 dL_law_1670 rfl ?_
  refine l_aloadn C 0 dL_law_1671 rfl ?_
  refine l_iload C 4 dL_law_1672 rfl ?_
  refine l_iconst C 1 dL_law_1674 (by decide) ?_
  refine l_iadd C dL_law_1675 ?_
  refine l_sald C hX (i + 1) (show nI i + (1 : Int32) = nI (i + 1) from nI_add i 1) (by omega) dL_law_1676 ?_
  refine l_aloadn C 0 dL_law_1677 rfl ?_
  refine l_iload C 4 dL_law_1678 rfl ?_
  refine l_iconst C 2 dL_law_1680 (by decide) ?_
  refine l_iadd C dL_law_1681 ?_
  refine l_sald C hX (i + 2) (show nI i + (2 : Int32) = nI (i + 2) from nI_add i 2) (by omega) dL_law_1682 ?_
  refine l_i2l C dL_law_1683 ?_
  refine l_bipush C 32 dL_law_1684 (by decide) ?_
  refine l_lshl C dL_law_1686 ?_
  refine l_aloadn C 0 dL_law_1687 rfl ?_
  refine l_iload C 4 dL_law_1688 rfl ?_
  refine l_iconst C 3 dL_law_1690 (by decide) ?_
  refine l_iadd C dL_law_1691 ?_
  refine l_sald C hX (i + 3) (show nI i + (3 : Int32) = nI (i + 3) from nI_add i 3) (by omega) dL_law_1692 ?_
  refine l_i2l C dL_law_1693 ?_
  refine l_ldc2w C kc_L_184 dL_law_1694 ?_
  refine l_land C dL_law_1697 ?_
  refine l_lor C dL_law_1698 ?_
  refine l_aloadn C 3 dL_law_1699 rfl ?_
  refine l_gi C L hSr hNx (as := [.ref (sk_ad O k), .int (xs (i + 1)), .long ((((xs (i + 2))).toInt64 <<< ((32 : Int32).toInt64 &&& 63)) ||| (((xs (i + 3))).toInt64 &&& 4294967295)), .ref a]) yg_runScript ml_L_186 (g_L_runScript l hO M (k := k) (v := (xs (i + 1))) (x := ((((xs (i + 2))).toInt64 <<< ((32 : Int32).toInt64 &&& 63)) ||| (((xs (i + 3))).toInt64 &&& 4294967295))) (hk := hkx) (hw := Cr.1.wf) (hst := hst) (ca := a) (cA := cA) (v0 := v0)) rfl rfl (Nat.le_of_ble_eq_true rfl) ⟨⟨by decide, by decide⟩, by show kc + 1 ≤ 601024; omega, by show ks + 6 ≤ 7293034; omega⟩ dL_law_1700 (fun x M1 v1 h1 => ?_)
  obtain ⟨x0, r, hx0, hx3, hw, hv⟩ := h1
  subst hx0
  dsimp only at hw hv
  have hy := hw
  have D1 := d_23 Cr D ap hy
  have h8 := rl_D.h Cr D1
  refine l_istore C [1, 2, 3, 4, 5, 0] [(0, .ref b), (1, .ref (sk_ad O k)), (2, .ref (sk_ad O w)), (3, .ref a), (4, .int (nI i)), (5, .int (nI x0))] dL_law_1703 (by decide) rfl ?_
  refine l_aloadn C 2 dL_law_1705 rfl ?_
  refine l_aloadn C 0 dL_law_1706 rfl ?_
  refine l_iload C 4 dL_law_1707 rfl ?_
  refine l_iconst C 1 dL_law_1709 (by decide) ?_
  refine l_iadd C dL_law_1710 ?_
  refine l_sald C hX (i + 1) (show nI i + (1 : Int32) = nI (i + 1) from nI_add i 1) (by omega) dL_law_1711 ?_
  refine l_aloadn C 0 dL_law_1712 rfl ?_
  refine l_iload C 4 dL_law_1713 rfl ?_
  refine l_iconst C 2 dL_law_1715 (by decide) ?_
  refine l_iadd C dL_law_1716 ?_
  refine l_sald C hX (i + 2) (show nI i + (2 : Int32) = nI (i + 2) from nI_add i 2) (by omega) dL_law_1717 ?_
  refine l_i2l C dL_law_1718 ?_
  refine l_bipush C 32 dL_law_1719 (by decide) ?_
  refine l_lshl C dL_law_1721 ?_
  refine l_aloadn C 0 dL_law_1722 rfl ?_
  refine l_iload C 4 dL_law_1723 rfl ?_
  refine l_iconst C 3 dL_law_1725 (by decide) ?_
  refine l_iadd C dL_law_1726 ?_
  refine l_sald C hX (i + 3) (show nI i + (3 : Int32) = nI (i + 3) from nI_add i 3) (by omega) dL_law_1727 ?_
  refine l_i2l C dL_law_1728 ?_
  refine l_ldc2w C kc_L_184 dL_law_1729 ?_
  refine l_land C dL_law_1732 ?_
  refine l_lor C dL_law_1733 ?_
  refine l_vi C L (as := [.int (xs (i + 1)), .long ((((xs (i + 2))).toInt64 <<< ((32 : Int32).toInt64 &&& 63)) ||| (((xs (i + 3))).toInt64 &&& 4294967295))]) yvX8_runScript viX8_runScript ml_L_189 (m_X8_runScript l hO M1 (k := w) (hk := hkm) (v := (xs (i + 1))) (x := ((((xs (i + 2))).toInt64 <<< ((32 : Int32).toInt64 &&& 63)) ||| (((xs (i + 3))).toInt64 &&& 4294967295))) (m := S.m) (hm4 := h8.1) (hm := h8.2.1) (hmj := h8.2.2.1)) hkm.1 rfl rfl rfl (Nat.le_of_ble_eq_true rfl) ⟨⟨by decide, by decide⟩, by show kc + 1 ≤ 601024; omega, by show ks + 6 ≤ 7293034; omega⟩ dL_law_1734 (fun r2 M2 h2 => ?_)
  obtain ⟨s1, s2, S2, s3, s4⟩ := s_23 Cr D ap hy h2
  refine l_istore C [1, 2, 3, 4, 5, 6, 0] [(0, .ref b), (1, .ref (sk_ad O k)), (2, .ref (sk_ad O w)), (3, .ref a), (4, .int (nI i)), (5, .int (nI x0)), (6, .int r2)] dL_law_1737 (by decide) rfl ?_
  refine l_aloadn C 2 dL_law_1739 rfl ?_
  refine l_vi C L (as := []) yvX8_thrown viX8_thrown ml_L_108 (m_X8_thrown l hO M2 (k := w) (hk := hkm)) hkm.1 rfl rfl rfl (Nat.le_of_ble_eq_true rfl) ⟨⟨by decide, by decide⟩, by show kc + 1 ≤ 601024; omega, by show ks + 6 ≤ 7293034; omega⟩ dL_law_1740 (fun r3 M3 h3 => ?_)
  obtain ⟨h3, h4⟩ := h3
  subst h4
  subst h3
  refine l_iload C 5 dL_law_1743 rfl ?_
  refine l_ceq C 1750 dL_law_1745 (by decide) (fun _ => ?_) (fun e => absurd s1 e)
  have fin : ∀ v2 : Int64, sk_L l X O A Q a cA v2 7 (kc + 1) (ks + 6) M3 1982 [(0, .ref b), (1, .ref (sk_ad O k)), (2, .ref (sk_ad O w)), (3, .ref a), (4, .int (nI i)), (5, .int (nI x0)), (6, .int r2)] [] := fun v2 => l_drop [0, 1, 2, 3, 4] (lw_lv O a k w b i) rfl (E _ _ _ _ _ (by omega) (by omega) s3 s4)
  refine l_iload C 5 dL_law_1750 rfl ?_
  refine l_zne C 1767 dL_law_1752 (by decide) (fun _ => ?_) (fun e => ?_)
  · exact l_goto C 1982 dL_law_1767 (by decide) (fin _)
  · have e0 : x0 = 0 := (nI_eq (b := 0) (by omega) (by decide)).mp e
    have e1 := hv e0
    have e2 := s2 e0
    subst e1
    subst e2
    refine l_aloadn C 3 dL_law_1755 rfl ?_
    refine l_iconst C 0 dL_law_1756 (by decide) ?_
    refine l_lald C L dL_law_1757 ?_
    refine l_iload C 6 dL_law_1758 rfl ?_
    refine l_i2l C dL_law_1760 ?_
    refine l_lcmp C dL_law_1761 ?_
    refine l_zeq C 1767 dL_law_1762 (by decide) (fun _ => ?_) (fun e => absurd (lg_same _) e)
    exact l_goto C 1982 dL_law_1767 (by decide) (fin _)
set_option maxRecDepth 100000 in
theorem lc_24 {l : Launch} {X : sk_X} {O : sk_O} {A : Nat → Prop} {Q : State → Prop} {a k w b n i kc ks : Nat} {cA : ClassId} {xs : Nat → Int32} {M : sk_M} {v0 : Int64} {S : rl_T} (B : lw_B l X O A a k w b n cA xs) (hi : i + 5 ≤ n) (hkc : kc ≤ 600000) (hks : ks ≤ 7000000) (Cr : rl_C M k S) (D : rl_D M w S) (E : lw_E l X O A Q a cA k w b i kc ks) : sk_L l X O A Q a cA v0 7 kc ks M 1770 (lw_lv O a k w b i) [] := by
  obtain ⟨C, L, hSr, hNx, hO, hst, hX, hkx, hkm, ap⟩ := B
  obtain ⟨o, H⟩ := Cr.2.1
  refine l_aloadn C 1 dL_law_1770 rfl ?_
  refine l_aloadn C 0 dL_law_1771 rfl ?_
  refine l_iload C 4 dL_law_1772 rfl ?_
  refine l_iconst C 1 dL_law_1774 (by decide) ?_
  refine l_iadd C dL_law_1775 ?_
  refine l_sald C hX (i + 1) (show nI i + (1 : Int32) = nI (i + 1) from nI_add i 1) (by omega) dL_law_1776 ?_
  refine l_i2l C dL_law_1777 ?_
  refine l_bipush C 32 dL_law_1778 (by decide) ?_
  refine l_lshl C dL_law_1780 ?_
  refine l_aloadn C 0 dL_law_1781 rfl ?_
  refine l_iload C 4 dL_law_1782 rfl ?_
  refine l_iconst C 2 dL_law_1784 (by decide) ?_
  refine l_iadd C dL_law_1785 ?_
  refine l_sald C hX (i + 2) (show nI i + (2 : Int32) = nI (i + 2) from nI_add i 2) (by omega) dL_law_1786 ?_
  refine l_i2l C dL_law_1787 ?_
  refine l_ldc2w C kc_L_184 dL_law_1788 ?_
  refine l_land C dL_law_1791 ?_
  refine l_lor C dL_law_1792 ?_
  refine l_aloadn C 0 dL_law_1793 rfl ?_
  refine l_iload C 4 dL_law_1794 rfl ?_
  refine l_iconst C 3 dL_law_1796 (by decide) ?_
  refine l_iadd C dL_law_1797 ?_
  refine l_sald C hX (i + 3) (show nI i + (3 : Int32) = nI (i + 3) from nI_add i 3) (by omega) dL_law_1798 ?_
  refine l_aloadn C 3 dL_law_1799 rfl ?_
  refine l_gi C L hSr hNx (as := [.ref (sk_ad O k), .long ((((xs (i + 1))).toInt64 <<< ((32 : Int32).toInt64 &&& 63)) ||| (((xs (i + 2))).toInt64 &&& 4294967295)), .int (xs (i + 3)), .ref a]) yg_simulate ml_L_190 (g_L_simulate l hO M (k := k) (x := ((((xs (i + 1))).toInt64 <<< ((32 : Int32).toInt64 &&& 63)) ||| (((xs (i + 2))).toInt64 &&& 4294967295))) (v := (xs (i + 3))) (hk := hkx) (hw := Cr.1.wf) (hst := hst) (ca := a) (cA := cA) (v0 := v0)) rfl rfl (Nat.le_of_ble_eq_true rfl) ⟨⟨by decide, by decide⟩, by show kc + 1 ≤ 601024; omega, by show ks + 6 ≤ 7293034; omega⟩ dL_law_1800 (fun x M1 v1 h1 => ?_)
  obtain ⟨x0, r, hx0, hx3, hw, hv⟩ := h1
  subst hx0
  dsimp only at hw hv
  have hy := wv1 hw
  have D1 := d_24 Cr D ap hy
  have h8 := rl_D.h Cr D1
  refine l_istore C [1, 2, 3, 4, 5, 0] [(0, .ref b), (1, .ref (sk_ad O k)), (2, .ref (sk_ad O w)), (3, .ref a), (4, .int (nI i)), (5, .int (nI x0))] dL_law_1803 (by decide) rfl ?_
  refine l_aloadn C 2 dL_law_1805 rfl ?_
  refine l_aloadn C 0 dL_law_1806 rfl ?_
  refine l_iload C 4 dL_law_1807 rfl ?_
  refine l_iconst C 1 dL_law_1809 (by decide) ?_
  refine l_iadd C dL_law_1810 ?_
  refine l_sald C hX (i + 1) (show nI i + (1 : Int32) = nI (i + 1) from nI_add i 1) (by omega) dL_law_1811 ?_
  refine l_i2l C dL_law_1812 ?_
  refine l_bipush C 32 dL_law_1813 (by decide) ?_
  refine l_lshl C dL_law_1815 ?_
  refine l_aloadn C 0 dL_law_1816 rfl ?_
  refine l_iload C 4 dL_law_1817 rfl ?_
  refine l_iconst C 2 dL_law_1819 (by decide) ?_
  refine l_iadd C dL_law_1820 ?_
  refine l_sald C hX (i + 2) (show nI i + (2 : Int32) = nI (i + 2) from nI_add i 2) (by omega) dL_law_1821 ?_
  refine l_i2l C dL_law_1822 ?_
  refine l_ldc2w C kc_L_184 dL_law_1823 ?_
  refine l_land C dL_law_1826 ?_
  refine l_lor C dL_law_1827 ?_
  refine l_aloadn C 0 dL_law_1828 rfl ?_
  refine l_iload C 4 dL_law_1829 rfl ?_
  refine l_iconst C 3 dL_law_1831 (by decide) ?_
  refine l_iadd C dL_law_1832 ?_
  refine l_sald C hX (i + 3) (show nI i + (3 : Int32) = nI (i + 3) from nI_add i 3) (by omega) dL_law_1833 ?_
  refine l_vi C L (as := [.long ((((xs (i + 1))).toInt64 <<< ((32 : Int32).toInt64 &&& 63)) ||| (((xs (i + 2))).toInt64 &&& 4294967295)), .int (xs (i + 3))]) yvX8_simulate viX8_simulate ml_L_193 (m_X8_simulate l hO M1 (k := w) (hk := hkm) (x := ((((xs (i + 1))).toInt64 <<< ((32 : Int32).toInt64 &&& 63)) ||| (((xs (i + 2))).toInt64 &&& 4294967295))) (v := (xs (i + 3))) (m := S.m) (hm4 := h8.1) (hm := h8.2.1) (hmj := h8.2.2.1)) hkm.1 rfl rfl rfl (Nat.le_of_ble_eq_true rfl) ⟨⟨by decide, by decide⟩, by show kc + 1 ≤ 601024; omega, by show ks + 6 ≤ 7293034; omega⟩ dL_law_1834 (fun r2 M2 h2 => ?_)
  obtain ⟨s1, s2, S2, s3, s4⟩ := s_24 Cr D ap hy h2
  refine l_istore C [1, 2, 3, 4, 5, 6, 0] [(0, .ref b), (1, .ref (sk_ad O k)), (2, .ref (sk_ad O w)), (3, .ref a), (4, .int (nI i)), (5, .int (nI x0)), (6, .int r2)] dL_law_1837 (by decide) rfl ?_
  refine l_aloadn C 2 dL_law_1839 rfl ?_
  refine l_vi C L (as := []) yvX8_thrown viX8_thrown ml_L_108 (m_X8_thrown l hO M2 (k := w) (hk := hkm)) hkm.1 rfl rfl rfl (Nat.le_of_ble_eq_true rfl) ⟨⟨by decide, by decide⟩, by show kc + 1 ≤ 601024; omega, by show ks + 6 ≤ 7293034; omega⟩ dL_law_1840 (fun r3 M3 h3 => ?_)
  obtain ⟨h3, h4⟩ := h3
  subst h4
  subst h3
  refine l_iload C 5 dL_law_1843 rfl ?_
  refine l_ceq C 1850 dL_law_1845 (by decide) (fun _ => ?_) (fun e => absurd s1 e)
  have fin : ∀ v2 : Int64, sk_L l X O A Q a cA v2 7 (kc + 1) (ks + 6) M3 1982 [(0, .ref b), (1, .ref (sk_ad O k)), (2, .ref (sk_ad O w)), (3, .ref a), (4, .int (nI i)), (5, .int (nI x0)), (6, .int r2)] [] := fun v2 => l_drop [0, 1, 2, 3, 4] (lw_lv O a k w b i) rfl (E _ _ _ _ _ (by omega) (by omega) s3 s4)
  refine l_iload C 5 dL_law_1850 rfl ?_
  refine l_zne C 1867 dL_law_1852 (by decide) (fun _ => ?_) (fun e => ?_)
  · exact l_goto C 1982 dL_law_1867 (by decide) (fin _)
  · have e0 : x0 = 0 := (nI_eq (b := 0) (by omega) (by decide)).mp e
    have e1 := hv e0
    have e2 := s2 e0
    subst e1
    subst e2
    refine l_aloadn C 3 dL_law_1855 rfl ?_
    refine l_iconst C 0 dL_law_1856 (by decide) ?_
    refine l_lald C L dL_law_1857 ?_
    refine l_iload C 6 dL_law_1858 rfl ?_
    refine l_i2l C dL_law_1860 ?_
    refine l_lcmp C dL_law_1861 ?_
    refine l_zeq C 1867 dL_law_1862 (by decide) (fun _ => ?_) (fun e => absurd (lg_same _) e)
    exact l_goto C 1982 dL_law_1867 (by decide) (fin _)
set_option maxRecDepth 100000 in
theorem lc_25 {l : Launch} {X : sk_X} {O : sk_O} {A : Nat → Prop} {Q : State → Prop} {a k w b n i kc ks : Nat} {cA : ClassId} {xs : Nat → Int32} {M : sk_M} {v0 : Int64} {S : rl_T} (B : lw_B l X O A a k w b n cA xs) (hi : i + 5 ≤ n) (hkc : kc ≤ 600000) (hks : ks ≤ 7000000) (Cr : rl_C M k S) (D : rl_D M w S) (E : lw_E l X O A Q a cA k w b i kc ks) : sk_L l X O A Q a cA v0 7 kc ks M 1870 (lw_lv O a k w b i) [] := by
  obtain ⟨C, L, hSr, hNx, hO, hst, hX, hkx, hkm, ap⟩ := B
  obtain ⟨o, H⟩ := Cr.2.1
  refine l_aloadn C 1 dL_law_1870 rfl ?_
  refine l_aloadn C 0 dL_law_1871 rfl ?_
  refine l_iload C 4 dL_law_1872 rfl ?_
  refine l_iconst C 1 dL_law_1874 (by decide) ?_
  refine l_iadd C dL_law_1875 ?_
  refine l_sald C hX (i + 1) (show nI i + (1 : Int32) = nI (i + 1) from nI_add i 1) (by omega) dL_law_1876 ?_
  refine l_aloadn C 3 dL_law_1877 rfl ?_
  refine l_gi C L hSr hNx (as := [.ref (sk_ad O k), .int (xs (i + 1)), .ref a]) yg_save ml_L_194 (g_L_save l hO M (k := k) (j := (xs (i + 1))) (hk := hkx) (hw := Cr.1.wf) (hst := hst) (ca := a) (cA := cA) (v0 := v0)) rfl rfl (Nat.le_of_ble_eq_true rfl) ⟨⟨by decide, by decide⟩, by show kc + 1 ≤ 601024; omega, by show ks + 6 ≤ 7293034; omega⟩ dL_law_1878 (fun x M1 v1 h1 => ?_)
  obtain ⟨x0, r, hx0, hx3, hw, hv⟩ := h1
  subst hx0
  dsimp only at hw hv
  have hy := wv1 hw
  have D1 := d_25 Cr D ap hy
  have h8 := rl_D.h Cr D1
  refine l_istore C [1, 2, 3, 4, 5, 0] [(0, .ref b), (1, .ref (sk_ad O k)), (2, .ref (sk_ad O w)), (3, .ref a), (4, .int (nI i)), (5, .int (nI x0))] dL_law_1881 (by decide) rfl ?_
  refine l_aloadn C 2 dL_law_1883 rfl ?_
  refine l_aloadn C 0 dL_law_1884 rfl ?_
  refine l_iload C 4 dL_law_1885 rfl ?_
  refine l_iconst C 1 dL_law_1887 (by decide) ?_
  refine l_iadd C dL_law_1888 ?_
  refine l_sald C hX (i + 1) (show nI i + (1 : Int32) = nI (i + 1) from nI_add i 1) (by omega) dL_law_1889 ?_
  refine l_vi C L (as := [.int (xs (i + 1))]) yvX8_save viX8_save ml_L_196 (m_X8_save l hO M1 (k := w) (hk := hkm) (j := (xs (i + 1)))) hkm.1 rfl rfl rfl (Nat.le_of_ble_eq_true rfl) ⟨⟨by decide, by decide⟩, by show kc + 1 ≤ 601024; omega, by show ks + 6 ≤ 7293034; omega⟩ dL_law_1890 (fun r2 M2 h2 => ?_)
  obtain ⟨s1, s2, S2, s3, s4⟩ := s_25 Cr D ap hy h2
  refine l_istore C [1, 2, 3, 4, 5, 6, 0] [(0, .ref b), (1, .ref (sk_ad O k)), (2, .ref (sk_ad O w)), (3, .ref a), (4, .int (nI i)), (5, .int (nI x0)), (6, .int r2)] dL_law_1893 (by decide) rfl ?_
  refine l_aloadn C 2 dL_law_1895 rfl ?_
  refine l_vi C L (as := []) yvX8_thrown viX8_thrown ml_L_108 (m_X8_thrown l hO M2 (k := w) (hk := hkm)) hkm.1 rfl rfl rfl (Nat.le_of_ble_eq_true rfl) ⟨⟨by decide, by decide⟩, by show kc + 1 ≤ 601024; omega, by show ks + 6 ≤ 7293034; omega⟩ dL_law_1896 (fun r3 M3 h3 => ?_)
  obtain ⟨h3, h4⟩ := h3
  subst h4
  subst h3
  refine l_iload C 5 dL_law_1899 rfl ?_
  refine l_ceq C 1906 dL_law_1901 (by decide) (fun _ => ?_) (fun e => absurd s1 e)
  have fin : ∀ v2 : Int64, sk_L l X O A Q a cA v2 7 (kc + 1) (ks + 6) M3 1982 [(0, .ref b), (1, .ref (sk_ad O k)), (2, .ref (sk_ad O w)), (3, .ref a), (4, .int (nI i)), (5, .int (nI x0)), (6, .int r2)] [] := fun v2 => l_drop [0, 1, 2, 3, 4] (lw_lv O a k w b i) rfl (E _ _ _ _ _ (by omega) (by omega) s3 s4)
  refine l_iload C 5 dL_law_1906 rfl ?_
  refine l_zne C 1923 dL_law_1908 (by decide) (fun _ => ?_) (fun e => ?_)
  · exact l_goto C 1982 dL_law_1923 (by decide) (fin _)
  · have e0 : x0 = 0 := (nI_eq (b := 0) (by omega) (by decide)).mp e
    have e1 := hv e0
    have e2 := s2 e0
    subst e1
    subst e2
    refine l_aloadn C 3 dL_law_1911 rfl ?_
    refine l_iconst C 0 dL_law_1912 (by decide) ?_
    refine l_lald C L dL_law_1913 ?_
    refine l_iload C 6 dL_law_1914 rfl ?_
    refine l_i2l C dL_law_1916 ?_
    refine l_lcmp C dL_law_1917 ?_
    refine l_zeq C 1923 dL_law_1918 (by decide) (fun _ => ?_) (fun e => absurd (lg_same _) e)
    exact l_goto C 1982 dL_law_1923 (by decide) (fin _)
set_option maxRecDepth 100000 in
theorem lc_26 {l : Launch} {X : sk_X} {O : sk_O} {A : Nat → Prop} {Q : State → Prop} {a k w b n i kc ks : Nat} {cA : ClassId} {xs : Nat → Int32} {M : sk_M} {v0 : Int64} {S : rl_T} (B : lw_B l X O A a k w b n cA xs) (hi : i + 5 ≤ n) (hkc : kc ≤ 600000) (hks : ks ≤ 7000000) (Cr : rl_C M k S) (D : rl_D M w S) (E : lw_E l X O A Q a cA k w b i kc ks) : sk_L l X O A Q a cA v0 7 kc ks M 1926 (lw_lv O a k w b i) [] := by
  obtain ⟨C, L, hSr, hNx, hO, hst, hX, hkx, hkm, ap⟩ := B
  obtain ⟨o, H⟩ := Cr.2.1
  refine l_aloadn C 1 dL_law_1926 rfl ?_
  refine l_aloadn C 0 dL_law_1927 rfl ?_
  refine l_iload C 4 dL_law_1928 rfl ?_
  refine l_iconst C 1 dL_law_1930 (by decide) ?_
  refine l_iadd C dL_law_1931 ?_
  refine l_sald C hX (i + 1) (show nI i + (1 : Int32) = nI (i + 1) from nI_add i 1) (by omega) dL_law_1932 ?_
  refine l_aloadn C 3 dL_law_1933 rfl ?_
  have hwj : ¬ xs (i + 1) < 0 → ¬ 2 ≤ xs (i + 1) → M (k + 735) (xs (i + 1)).toNatClampNeg = 0 ∨ st_wf M (k + 649 + 43 * (xs (i + 1)).toNatClampNeg) := fun z1 z2 => by
    obtain ⟨v1, v2⟩ := Cr.2.2.1 _ (t_2 ⟨z1, z2⟩)
    exact v2.imp (fun z => v1.trans z) (fun ⟨m, R⟩ => R.wf)
  refine l_gi C L hSr hNx (as := [.ref (sk_ad O k), .int (xs (i + 1)), .ref a]) yg_restore ml_L_197 (g_L_restore l hO M (k := k) (j := (xs (i + 1))) (hk := hkx) (hwj := hwj) (hst := hst) (ca := a) (cA := cA) (v0 := v0)) rfl rfl (Nat.le_of_ble_eq_true rfl) ⟨⟨by decide, by decide⟩, by show kc + 1 ≤ 601024; omega, by show ks + 6 ≤ 7293034; omega⟩ dL_law_1934 (fun x M1 v1 h1 => ?_)
  obtain ⟨x0, r, hx0, hx3, hw, hv⟩ := h1
  subst hx0
  dsimp only at hw hv
  have hy := wv2 (by decide) hw
  have D1 := d_26 Cr D ap hy
  have h8 := rl_D.h Cr D1
  refine l_istore C [1, 2, 3, 4, 5, 0] [(0, .ref b), (1, .ref (sk_ad O k)), (2, .ref (sk_ad O w)), (3, .ref a), (4, .int (nI i)), (5, .int (nI x0))] dL_law_1937 (by decide) rfl ?_
  refine l_aloadn C 2 dL_law_1939 rfl ?_
  refine l_aloadn C 0 dL_law_1940 rfl ?_
  refine l_iload C 4 dL_law_1941 rfl ?_
  refine l_iconst C 1 dL_law_1943 (by decide) ?_
  refine l_iadd C dL_law_1944 ?_
  refine l_sald C hX (i + 1) (show nI i + (1 : Int32) = nI (i + 1) from nI_add i 1) (by omega) dL_law_1945 ?_
  refine l_vi C L (as := [.int (xs (i + 1))]) yvX8_restore viX8_restore ml_L_199 (m_X8_restore l hO M1 (k := w) (hk := hkm) (j := (xs (i + 1)))) hkm.1 rfl rfl rfl (Nat.le_of_ble_eq_true rfl) ⟨⟨by decide, by decide⟩, by show kc + 1 ≤ 601024; omega, by show ks + 6 ≤ 7293034; omega⟩ dL_law_1946 (fun r2 M2 h2 => ?_)
  obtain ⟨s1, s2, S2, s3, s4⟩ := s_26 Cr D ap hy h2
  refine l_istore C [1, 2, 3, 4, 5, 6, 0] [(0, .ref b), (1, .ref (sk_ad O k)), (2, .ref (sk_ad O w)), (3, .ref a), (4, .int (nI i)), (5, .int (nI x0)), (6, .int r2)] dL_law_1949 (by decide) rfl ?_
  refine l_aloadn C 2 dL_law_1951 rfl ?_
  refine l_vi C L (as := []) yvX8_thrown viX8_thrown ml_L_108 (m_X8_thrown l hO M2 (k := w) (hk := hkm)) hkm.1 rfl rfl rfl (Nat.le_of_ble_eq_true rfl) ⟨⟨by decide, by decide⟩, by show kc + 1 ≤ 601024; omega, by show ks + 6 ≤ 7293034; omega⟩ dL_law_1952 (fun r3 M3 h3 => ?_)
  obtain ⟨h3, h4⟩ := h3
  subst h4
  subst h3
  refine l_iload C 5 dL_law_1955 rfl ?_
  refine l_ceq C 1962 dL_law_1957 (by decide) (fun _ => ?_) (fun e => absurd s1 e)
  have fin : ∀ v2 : Int64, sk_L l X O A Q a cA v2 7 (kc + 1) (ks + 6) M3 1982 [(0, .ref b), (1, .ref (sk_ad O k)), (2, .ref (sk_ad O w)), (3, .ref a), (4, .int (nI i)), (5, .int (nI x0)), (6, .int r2)] [] := fun v2 => l_drop [0, 1, 2, 3, 4] (lw_lv O a k w b i) rfl (E _ _ _ _ _ (by omega) (by omega) s3 s4)
  refine l_iload C 5 dL_law_1962 rfl ?_
  refine l_zne C 1979 dL_law_1964 (by decide) (fun _ => ?_) (fun e => ?_)
  · exact l_goto C 1982 dL_law_1979 (by decide) (fin _)
  · have e0 : x0 = 0 := (nI_eq (b := 0) (by omega) (by decide)).mp e
    have e1 := hv e0
    have e2 := s2 e0
    subst e1
    subst e2
    refine l_aloadn C 3 dL_law_1967 rfl ?_
    refine l_iconst C 0 dL_law_1968 (by decide) ?_
    refine l_lald C L dL_law_1969 ?_
    refine l_iload C 6 dL_law_1970 rfl ?_
    refine l_i2l C dL_law_1972 ?_
    refine l_lcmp C dL_law_1973 ?_
    refine l_zeq C 1979 dL_law_1974 (by decide) (fun _ => ?_) (fun e => absurd (lg_same _) e)
    exact l_goto C 1982 dL_law_1979 (by decide) (fin _)
