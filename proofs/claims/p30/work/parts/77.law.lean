/-! The law: its loops (printed by p5.py) -/
theorem pa_2 {r : Nat → Int32} {s e p : Nat} : mo_pa r s e p 2 = r (25 + 233 * s + 18 * e + 3 * p + 2) := rfl
theorem th_n {v : Int32} (h : -9000000 ≤ v.toInt) : ¬ th v := fun z => by
  have e1 : (-9999001 : Int32).toInt = -9999001 := rfl
  have e2 : (-9999002 : Int32).toInt = -9999002 := rfl
  have e3 : (-9999003 : Int32).toInt = -9999003 := rfl
  rcases z with z | z | z
  · rw [z, e1] at h; omega
  · rw [z, e2] at h; omega
  · rw [z, e3] at h; omega
theorem th_N {n : Nat} (h : n < 2147483648) : ¬ th (nI n) := th_n (by rw [nT h]; omega)
theorem th_x {er : Nat} {A : Int32} (h : ¬ er = 0) (h3 : er ≤ 3) : th (cx er A (-9999001) (-9999002) (-9999003)) := by
  rcases (show er = 1 ∨ er = 2 ∨ er = 3 by omega) with z | z | z
  · exact Or.inl (cx1 z)
  · exact Or.inr (Or.inl (cx2 z))
  · exact Or.inr (Or.inr (cx3 z))
theorem cxn' {er : Nat} {A e1 e2 e3 x : Int32} {k : Nat} {M M2 : sk_M} {S S' : rl_T} (h : x = cx er A e1 e2 e3 ∧ rl_J k M (cs er S' S) M2) (he : ¬ er = 0) : x = cx er A e1 e2 e3 ∧ rl_J k M S M2 := by
  rw [csn he] at h
  exact h
def lw_B (l : Launch) (X : sk_X) (O : sk_O) (A : Nat → Prop) (b L : Nat) (xs : Nat → Int32) : Prop := sk_C X cL_law 16 RL room_1 O A ∧ sk_Sr (sk_s X) ∧ sk_Nx (sk_s X) ∧ sk_inj O ∧ l.stackTraces = false ∧ sk_SX X A b L xs ∧ L ≤ 260 ∧ (∀ k, k < sk_n O → sk_ad O k ≠ b) ∧ sk_isX O 0 ∧ sk_isX O 804
set_option maxHeartbeats 8000000 in
set_option maxRecDepth 100000 in
theorem lw_turns {l : Launch} {X : sk_X} {O : sk_O} {A : Nat → Prop} {Q : State → Prop} {b L t : Nat} {xs : Nat → Int32} (B : lw_B l X O A b L xs) (ht : t ≤ 24) (fin : ∀ (kc : Nat) (M : sk_M) (lv : List (Nat × Value)), kc ≤ 700000 → sk_W l X O A Q 16 kc (6 * kc) M 531 lv [.int 1]) : ∀ (d i : Nat) (N : sk_M) (S : rl_T), i + d = t → rl_C N 0 S → rl_C N 804 S → inv S → sk_W l X O A Q 16 (6000 + 2400 * i) (6 * (6000 + 2400 * i)) N 134 [(0, .ref b), (1, .ref (sk_ad O 0)), (2, .ref (sk_ad O 804)), (3, .int 1), (4, .int (nI t)), (5, .int (nI i))] [] := by
  obtain ⟨C, hSr, hNx, hO, hst, hX, hL, hbk, hk0, hk1⟩ := B
  intro d
  induction d with
  | zero =>
    intro i N S hi C1 C2 hI
    obtain rfl : i = t := by omega
    refine k_iload C 5 dL_law_134 rfl ?_
    refine k_iload C 4 dL_law_136 rfl ?_
    refine k_cge C 530 dL_law_138 (by decide) (fun _ => ?_) (fun e0 => absurd (Int32.le_refl _) e0)
    refine k_iloadn C 3 dL_law_530 rfl ?_
    exact fin _ _ _ (by omega)
  | succ d ih =>
    intro i N S hi C1 C2 hI
    refine k_iload C 5 dL_law_134 rfl ?_
    refine k_iload C 4 dL_law_136 rfl ?_
    refine k_cge C 530 dL_law_138 (by decide) (fun e0 => absurd e0 (by rw [nI_leI (by omega) (by omega)]; omega)) (fun _ => ?_)
    refine k_iloadn C 3 dL_law_141 rfl ?_
    refine k_zeq C 530 dL_law_142 (by decide) (fun e0 => absurd e0 (by decide)) (fun _ => ?_)
    refine k_aloadn C 0 dL_law_145 rfl ?_
    refine k_iconst C 3 dL_law_146 (by decide) ?_
    refine k_iload C 5 dL_law_147 rfl ?_
    refine k_iadd C dL_law_149 ?_
    refine k_top (nI (3 + i)) (sk_nadd (a := 3) (b := i) rfl rfl) ?_
    refine k_cell C hO (j := (3 + i)) hX hL (by omega) hbk (Nat.le_of_ble_eq_true rfl) ⟨⟨by decide, by decide⟩, by show 6000 + 2400 * i ≤ 760519; omega, by show 6 * (6000 + 2400 * i) ≤ 6820068; omega⟩ dL_law_150 ?_
    obtain ⟨z, hz, ez⟩ := cl_n L xs (3 + i)
    rw [ez]
    refine k_istore C [1, 2, 3, 4, 5, 6, 0] [(0, .ref b), (1, .ref (sk_ad O 0)), (2, .ref (sk_ad O 804)), (3, .int 1), (4, .int (nI t)), (5, .int (nI i)), (6, .int (nI z))] dL_law_153 (by decide) rfl ?_
    refine k_iload C 6 dL_law_155 rfl ?_
    refine k_iconst C 5 dL_law_157 (by decide) ?_
    refine k_irem C dL_law_158 (by decide) ?_
    refine k_top (nI (z % 5)) (sk_nrem (a := z) (b := 5) rfl rfl (by omega) (by decide)) ?_
    have J190 : ∀ (N : sk_M) (S : rl_T), rl_C N 0 S → rl_C N 804 S → inv S → sk_W l X O A Q 16 (6000 + 2400 * i + 40) (6 * (6000 + 2400 * i + 40)) N 190 [(0, .ref b), (1, .ref (sk_ad O 0)), (2, .ref (sk_ad O 804)), (3, .int 1), (4, .int (nI t)), (5, .int (nI i)), (6, .int (nI z))] [] := by
      intro N S C1 C2 hI
      have hso := C1.so
      have hc14 := C1.c14
      refine k_aloadn C 1 dL_law_190 rfl ?_
      refine k_iload C 6 dL_law_191 rfl ?_
      refine k_ks C hSr hNx (6000 + 2400 * i + 40 + 2) (as := [.ref (sk_ad O 0), .int (nI z)]) yvL_act vsL_act ml_L_209 (w_act l hO hst C1 hk0 (w := z) (by omega)) rfl rfl (Nat.le_of_ble_eq_true rfl) ⟨⟨by decide, by decide⟩, by omega, by show 6000 + 2400 * i + 40 + 2 ≤ 760519; omega, by show 6 * (6000 + 2400 * i + 40 + 2) ≤ 6820068; omega⟩ dL_law_193 (fun x M1 h => ?_)
      obtain ⟨hx, hj⟩ := h
      subst hx
      replace C2 := hj.x (Or.inl (by omega)) C2
      replace C1 := hj.1
      clear hj
      refine k_istore C [1, 2, 3, 4, 5, 6, 7, 0] [(0, .ref b), (1, .ref (sk_ad O 0)), (2, .ref (sk_ad O 804)), (3, .int 1), (4, .int (nI t)), (5, .int (nI i)), (6, .int (nI z)), (7, .int ((act_A S z (z % 16)).1))] dL_law_196 (by decide) rfl ?_
      refine k_iloadn C 3 dL_law_198 rfl ?_
      refine k_zeq C 278 dL_law_199 (by decide) (fun e0 => absurd e0 (by decide)) (fun _ => ?_)
      refine k_aloadn C 2 dL_law_202 rfl ?_
      refine k_iload C 6 dL_law_203 rfl ?_
      refine k_ldc C kc_L_212 dL_law_205 ?_
      refine k_irem C dL_law_207 (by decide) ?_
      refine k_top (nI (z % 100000)) (sk_nrem (a := z) (b := 100000) rfl rfl (by omega) (by decide)) ?_
      refine k_ks C hSr hNx (6000 + 2400 * i + 40 + 33) (as := [.ref (sk_ad O 804), .int (nI (z % 100000))]) yvL_refuses vsL_refuses ml_L_213 (w_refuses l hO hst C2 hk1 (w := z % 100000) (by omega) hI.2) rfl rfl (Nat.le_of_ble_eq_true rfl) ⟨⟨by decide, by decide⟩, by omega, by show 6000 + 2400 * i + 40 + 33 ≤ 760519; omega, by show 6 * (6000 + 2400 * i + 40 + 33) ≤ 6820068; omega⟩ dL_law_208 (fun x M2 h => ?_)
      obtain ⟨hx, hj⟩ := h
      subst hx
      replace C1 := hj.x (Or.inr (by omega)) C1
      replace C2 := hj.1
      clear hj
      refine k_zeq C 278 dL_law_211 (by decide) (fun e0 => absurd e0 (by decide)) (fun _ => ?_)
      refine k_aloadn C 2 dL_law_214 rfl ?_
      refine k_iload C 6 dL_law_215 rfl ?_
      refine k_ks C hSr hNx (6000 + 2400 * i + 40 + 35) (as := [.ref (sk_ad O 804), .int (nI z)]) yvL_act vsL_act ml_L_209 (w_act l hO hst C2 hk1 (w := z) (by omega)) rfl rfl (Nat.le_of_ble_eq_true rfl) ⟨⟨by decide, by decide⟩, by omega, by show 6000 + 2400 * i + 40 + 35 ≤ 760519; omega, by show 6 * (6000 + 2400 * i + 40 + 35) ≤ 6820068; omega⟩ dL_law_217 (fun x M3 h => ?_)
      obtain ⟨hx, hj⟩ := h
      subst hx
      replace C1 := hj.x (Or.inr (by omega)) C1
      replace C2 := hj.1
      clear hj
      have hI2 : inv (act_A S z (z % 16)).2 := inv_act hI hso hc14 hz _ (Nat.mod_lt _ (by decide))
      refine k_iload C 7 dL_law_220 rfl ?_
      refine k_cne C 278 dL_law_222 (by decide) (fun e0 => absurd rfl e0) (fun _ => ?_)
      refine k_aloadn C 2 dL_law_225 rfl ?_
      refine k_iload C 6 dL_law_226 rfl ?_
      refine k_sipush C 1000 dL_law_228 (by decide) ?_
      refine k_irem C dL_law_231 (by decide) ?_
      refine k_top (nI (z % 1000)) (sk_nrem (a := z) (b := 1000) rfl rfl (by omega) (by decide)) ?_
      refine k_ks C hSr hNx (6000 + 2400 * i + 40 + 66) (as := [.ref (sk_ad O 804), .int (nI (z % 1000))]) yvL_refuses vsL_refuses ml_L_213 (w_refuses l hO hst C2 hk1 (w := z % 1000) (by omega) hI2.2) rfl rfl (Nat.le_of_ble_eq_true rfl) ⟨⟨by decide, by decide⟩, by omega, by show 6000 + 2400 * i + 40 + 66 ≤ 760519; omega, by show 6 * (6000 + 2400 * i + 40 + 66) ≤ 6820068; omega⟩ dL_law_232 (fun x M4 h => ?_)
      obtain ⟨hx, hj⟩ := h
      subst hx
      replace C1 := hj.x (Or.inr (by omega)) C1
      replace C2 := hj.1
      clear hj
      refine k_zeq C 278 dL_law_235 (by decide) (fun e0 => absurd e0 (by decide)) (fun _ => ?_)
      refine k_aloadn C 1 dL_law_238 rfl ?_
      refine k_aloadn C 2 dL_law_239 rfl ?_
      refine k_iload C 6 dL_law_240 rfl ?_
      refine k_sipush C 5000 dL_law_242 (by decide) ?_
      refine k_irem C dL_law_245 (by decide) ?_
      refine k_top (nI (z % 5000)) (sk_nrem (a := z) (b := 5000) rfl rfl (by omega) (by decide)) ?_
      refine k_ks C hSr hNx (6000 + 2400 * i + 40 + 236) (as := [.ref (sk_ad O 0), .ref (sk_ad O 804), .int (nI (z % 5000))]) yvL_alike vsL_alike ml_L_216 (w_alike l hO hst C1 C2 (Or.inl (by omega)) hk0 hk1 (w := z % 5000) (by omega)) rfl rfl (Nat.le_of_ble_eq_true rfl) ⟨⟨by decide, by decide⟩, by omega, by show 6000 + 2400 * i + 40 + 236 ≤ 760519; omega, by show 6 * (6000 + 2400 * i + 40 + 236) ≤ 6820068; omega⟩ dL_law_246 (fun x M5 h => ?_)
      obtain ⟨hx, D1, D2⟩ := h
      subst hx
      replace C1 := D1
      replace C2 := D2
      clear D1 D2
      refine k_zeq C 278 dL_law_249 (by decide) (fun e0 => absurd e0 (by decide)) (fun _ => ?_)
      refine k_aloadn C 1 dL_law_252 rfl ?_
      refine k_iload C 6 dL_law_253 rfl ?_
      refine k_iconst C 3 dL_law_255 (by decide) ?_
      refine k_idiv C dL_law_256 (by decide) ?_
      refine k_top (nI (z / 3)) (sk_ndiv (a := z) (b := 3) rfl rfl (by omega) (by decide)) ?_
      refine k_ks C hSr hNx (6000 + 2400 * i + 40 + 1261) (as := [.ref (sk_ad O 0), .int (nI (z / 3))]) yvL_holds vsL_holds ml_L_220 (w_holds l hO hst C1 hk0 hI2.1.1 (w := z / 3) (by omega)) rfl rfl (Nat.le_of_ble_eq_true rfl) ⟨⟨by decide, by decide⟩, by omega, by show 6000 + 2400 * i + 40 + 1261 ≤ 760519; omega, by show 6 * (6000 + 2400 * i + 40 + 1261) ≤ 6820068; omega⟩ dL_law_257 (fun x M6 h => ?_)
      obtain ⟨hx, hj⟩ := h
      subst hx
      replace C2 := hj.x (Or.inl (by omega)) C2
      replace C1 := hj.1
      clear hj
      refine k_zeq C 278 dL_law_260 (by decide) (fun e0 => absurd e0 (by decide)) (fun _ => ?_)
      refine k_aloadn C 2 dL_law_263 rfl ?_
      refine k_iload C 6 dL_law_264 rfl ?_
      refine k_iconst C 5 dL_law_266 (by decide) ?_
      refine k_idiv C dL_law_267 (by decide) ?_
      refine k_top (nI (z / 5)) (sk_ndiv (a := z) (b := 5) rfl rfl (by omega) (by decide)) ?_
      refine k_ks C hSr hNx (6000 + 2400 * i + 40 + 2286) (as := [.ref (sk_ad O 804), .int (nI (z / 5))]) yvL_holds vsL_holds ml_L_220 (w_holds l hO hst C2 hk1 hI2.1.1 (w := z / 5) (by omega)) rfl rfl (Nat.le_of_ble_eq_true rfl) ⟨⟨by decide, by decide⟩, by omega, by show 6000 + 2400 * i + 40 + 2286 ≤ 760519; omega, by show 6 * (6000 + 2400 * i + 40 + 2286) ≤ 6820068; omega⟩ dL_law_268 (fun x M7 h => ?_)
      obtain ⟨hx, hj⟩ := h
      subst hx
      replace C1 := hj.x (Or.inr (by omega)) C1
      replace C2 := hj.1
      clear hj
      refine k_zeq C 278 dL_law_271 (by decide) (fun e0 => absurd e0 (by decide)) (fun _ => ?_)
      refine k_iconst C 1 dL_law_274 (by decide) ?_
      refine k_goto C 279 dL_law_275 (by decide) ?_
      refine k_istoren C [1, 2, 3, 0, 4, 5, 6, 7] [(0, .ref b), (1, .ref (sk_ad O 0)), (2, .ref (sk_ad O 804)), (3, .int 1), (4, .int (nI t)), (5, .int (nI i)), (6, .int (nI z)), (7, .int ((act_A S z (z % 16)).1))] dL_law_279 (by decide) rfl ?_
      clear hso hc14 hI
      generalize (act_A S z (z % 16)).1 = av
      generalize (act_A S z (z % 16)).2 = S2 at hI2 C1 C2
      have hI := hI2
      clear hI2
      have s0 := C1.so
      have h4 := s0.1
      have hc14 := C1.c14
      refine k_iload C 6 dL_law_280 rfl ?_
      refine k_bipush C 7 dL_law_282 (by decide) ?_
      refine k_idiv C dL_law_284 (by decide) ?_
      refine k_top (nI (z / 7)) (sk_ndiv (a := z) (b := 7) rfl rfl (by omega) (by decide)) ?_
      refine k_iconst C 2 dL_law_285 (by decide) ?_
      refine k_irem C dL_law_286 (by decide) ?_
      refine k_top (nI ((z / 7) % 2)) (sk_nrem (a := z / 7) (b := 2) rfl rfl (by omega) (by decide)) ?_
      generalize hga : z / 7 % 2 = a
      have hba : a < 2 := by omega
      refine k_istore C [1, 2, 3, 4, 5, 6, 7, 8, 0] [(0, .ref b), (1, .ref (sk_ad O 0)), (2, .ref (sk_ad O 804)), (3, .int 1), (4, .int (nI t)), (5, .int (nI i)), (6, .int (nI z)), (7, .int av), (8, .int (nI a))] dL_law_287 (by decide) rfl ?_
      refine k_iload C 6 dL_law_289 rfl ?_
      refine k_bipush C 14 dL_law_291 (by decide) ?_
      refine k_idiv C dL_law_293 (by decide) ?_
      refine k_top (nI (z / 14)) (sk_ndiv (a := z) (b := 14) rfl rfl (by omega) (by decide)) ?_
      refine k_iconst C 5 dL_law_294 (by decide) ?_
      refine k_irem C dL_law_295 (by decide) ?_
      refine k_top (nI ((z / 14) % 5)) (sk_nrem (a := z / 14) (b := 5) rfl rfl (by omega) (by decide)) ?_
      generalize hgf : z / 14 % 5 = f
      have hbf : f < 5 := by omega
      refine k_istore C [1, 2, 3, 4, 5, 6, 7, 8, 9, 0] [(0, .ref b), (1, .ref (sk_ad O 0)), (2, .ref (sk_ad O 804)), (3, .int 1), (4, .int (nI t)), (5, .int (nI i)), (6, .int (nI z)), (7, .int av), (8, .int (nI a)), (9, .int (nI f))] dL_law_296 (by decide) rfl ?_
      refine k_iload C 6 dL_law_298 rfl ?_
      refine k_bipush C 70 dL_law_300 (by decide) ?_
      refine k_idiv C dL_law_302 (by decide) ?_
      refine k_top (nI (z / 70)) (sk_ndiv (a := z) (b := 70) rfl rfl (by omega) (by decide)) ?_
      refine k_iconst C 3 dL_law_303 (by decide) ?_
      refine k_irem C dL_law_304 (by decide) ?_
      refine k_top (nI ((z / 70) % 3)) (sk_nrem (a := z / 70) (b := 3) rfl rfl (by omega) (by decide)) ?_
      generalize hgp : z / 70 % 3 = p
      have hbp : p < 3 := by omega
      refine k_istore C [1, 2, 3, 4, 5, 6, 7, 8, 9, 10, 0] [(0, .ref b), (1, .ref (sk_ad O 0)), (2, .ref (sk_ad O 804)), (3, .int 1), (4, .int (nI t)), (5, .int (nI i)), (6, .int (nI z)), (7, .int av), (8, .int (nI a)), (9, .int (nI f)), (10, .int (nI p))] dL_law_305 (by decide) rfl ?_
      refine k_iload C 6 dL_law_307 rfl ?_
      refine k_sipush C 210 dL_law_309 (by decide) ?_
      refine k_idiv C dL_law_312 (by decide) ?_
      refine k_top (nI (z / 210)) (sk_ndiv (a := z) (b := 210) rfl rfl (by omega) (by decide)) ?_
      refine k_iconst C 4 dL_law_313 (by decide) ?_
      refine k_irem C dL_law_314 (by decide) ?_
      refine k_top (nI ((z / 210) % 4)) (sk_nrem (a := z / 210) (b := 4) rfl rfl (by omega) (by decide)) ?_
      generalize hgg : z / 210 % 4 = g
      have hbg : g < 4 := by omega
      refine k_istore C [1, 2, 3, 4, 5, 6, 7, 8, 9, 10, 11, 0] [(0, .ref b), (1, .ref (sk_ad O 0)), (2, .ref (sk_ad O 804)), (3, .int 1), (4, .int (nI t)), (5, .int (nI i)), (6, .int (nI z)), (7, .int av), (8, .int (nI a)), (9, .int (nI f)), (10, .int (nI p)), (11, .int (nI g))] dL_law_315 (by decide) rfl ?_
      clear hga hgf hgp hgg
      by_cases hwc : mo_wc S2.r (nI a) (nI f) (nI p) (nI g) = 0
      · skip
        obtain ⟨hp0, ⟨gn, hgn, egn⟩, hty⟩ := ck_0 hwc
        have hs : a < S2.m := (s0.hs (by omega)).mp hp0.1.1
        have he : f < mo_c S2.r a := (s0.he hs (by omega)).mp hp0.1
        have hp : p < mo_n S2.r a f := (s0.hp hs he (by omega)).mp hp0
        have eA : (nI a).toNatClampNeg = a := nI_clamp (by omega)
        have eF : (nI f).toNatClampNeg = f := nI_clamp (by omega)
        have eP : (nI p).toNatClampNeg = p := nI_clamp (by omega)
        have hel := C1.el hs he
        have hgd := C1.gd hI.1.1
        have hcall : ∃ c : Nat, c ≤ 3 ∧ S2.r (25 + 233 * a + 18 * f + 3 * p + 2) = nI c := by
          rw [eA, eF] at hty
          rcases hel.1 with ⟨-, w⟩ | ⟨w, -⟩
          · obtain ⟨-, -, c, -, -, -, hc, -, -, ec⟩ := w p hp
            exact ⟨c, hc, ec⟩
          · rw [hty] at w
            exact absurd w (by decide)
        obtain ⟨cv, hcv, ecv⟩ := hcall
        have eT : a_ca S2 (nI a) (nI f) (nI p) (nI g) = S2.ac (mu_u S2.r (25 + 233 * a + 18 * f + 3 * p + 2) (nI g)) S2.m := by
          unfold a_ca
          rw [eA, eF, eP]
        have hR : ∀ y, 938 ≤ y → mu_u S2.r (25 + 233 * a + 18 * f + 3 * p + 2) (nI g) y = S2.r y := fun y hy => mu_n (by omega)
        have hT : inv (S2.ac (mu_u S2.r (25 + 233 * a + 18 * f + 3 * p + 2) (nI g)) S2.m) := by
          have := inv_ca hI s0 hc14 hwc
          rw [eT] at this
          exact this
        have hU := a_un_ca hI s0 hc14 hR hT.1.1
        obtain ⟨u1, u2⟩ := un_ca s0 hR
        refine k_aloadn C 1 dL_law_317 rfl ?_
        refine k_iload C 8 dL_law_318 rfl ?_
        refine k_iload C 9 dL_law_320 rfl ?_
        refine k_iload C 10 dL_law_322 rfl ?_
        refine k_iload C 11 dL_law_324 rfl ?_
        refine k_kg C hSr hNx (6000 + 2400 * i + 40 + 2287) (as := [.ref (sk_ad O 0), .int (nI a), .int (nI f), .int (nI p), .int (nI g)]) yg_tryIfCalled ml_L_173 (t_tryIfCalled l hO hst C1 hk0 (nI a) (nI f) (nI p) (nI g)) rfl rfl (Nat.le_of_ble_eq_true rfl) ⟨⟨by decide, by decide⟩, by omega, by show 6000 + 2400 * i + 40 + 2287 ≤ 760519; omega, by show 6 * (6000 + 2400 * i + 40 + 2287) ≤ 6820068; omega⟩ dL_law_326 (fun x M8 h => ?_)
        obtain ⟨hx, hj⟩ := ax0 h hwc
        rw [eA, eF, eP] at hx
        subst hx
        replace C2 := hj.x (Or.inl (by omega)) C2
        replace C1 := hj.1
        clear hj
        refine k_istore C [1, 2, 3, 4, 5, 6, 7, 8, 9, 10, 11, 12, 0] [(0, .ref b), (1, .ref (sk_ad O 0)), (2, .ref (sk_ad O 804)), (3, .int 1), (4, .int (nI t)), (5, .int (nI i)), (6, .int (nI z)), (7, .int av), (8, .int (nI a)), (9, .int (nI f)), (10, .int (nI p)), (11, .int (nI g)), (12, .int (mo_T (mu_u S2.r (25 + 233 * a + 18 * f + 3 * p + 2) (nI g)) a))] dL_law_329 (by decide) rfl ?_
        refine k_aloadn C 1 dL_law_331 rfl ?_
        refine k_iconst C 2 dL_law_332 (by decide) ?_
        refine k_iload C 8 dL_law_333 rfl ?_
        refine k_iconst C 4 dL_law_335 (by decide) ?_
        refine k_iconst C 0 dL_law_336 (by decide) ?_
        refine k_ks C hSr hNx (6000 + 2400 * i + 40 + 2288) (as := [.ref (sk_ad O 0), .int 2, .int (nI a), .int 4, .int 0]) yvL_call vsL_call ml_L_163 (q_Skater l hO hst C1 hk0 (nI a) 4 0) rfl rfl (Nat.le_of_ble_eq_true rfl) ⟨⟨by decide, by decide⟩, by omega, by show 6000 + 2400 * i + 40 + 2288 ≤ 760519; omega, by show 6 * (6000 + 2400 * i + 40 + 2288) ≤ 6820068; omega⟩ dL_law_337 (fun x M9 h => ?_)
        obtain ⟨hx, hj⟩ := s_at s0 hs (by decide) h
        rw [sk_4] at hx
        subst hx
        replace C2 := hj.x (Or.inl (by omega)) C2
        replace C1 := hj.1
        clear hj
        refine k_istore C [1, 2, 3, 4, 5, 6, 7, 8, 9, 10, 11, 12, 13, 0] [(0, .ref b), (1, .ref (sk_ad O 0)), (2, .ref (sk_ad O 804)), (3, .int 1), (4, .int (nI t)), (5, .int (nI i)), (6, .int (nI z)), (7, .int av), (8, .int (nI a)), (9, .int (nI f)), (10, .int (nI p)), (11, .int (nI g)), (12, .int (mo_T (mu_u S2.r (25 + 233 * a + 18 * f + 3 * p + 2) (nI g)) a)), (13, .int (mo_T S2.r a))] dL_law_340 (by decide) rfl ?_
        refine k_aloadn C 1 dL_law_342 rfl ?_
        refine k_iload C 8 dL_law_343 rfl ?_
        refine k_iload C 9 dL_law_345 rfl ?_
        refine k_iload C 10 dL_law_347 rfl ?_
        refine k_iconst C 2 dL_law_349 (by decide) ?_
        refine k_kg C hSr hNx (6000 + 2400 * i + 40 + 2289) (as := [.ref (sk_ad O 0), .int (nI a), .int (nI f), .int (nI p), .int 2]) yg_tryPart ml_L_166 (t_tryPart l hO hst C1 hk0 (nI a) (nI f) (nI p) 2) rfl rfl (Nat.le_of_ble_eq_true rfl) ⟨⟨by decide, by decide⟩, by omega, by show 6000 + 2400 * i + 40 + 2289 ≤ 760519; omega, by show 6 * (6000 + 2400 * i + 40 + 2289) ≤ 6820068; omega⟩ dL_law_350 (fun x M10 h => ?_)
        obtain ⟨hx, hj⟩ := p_at s0 hs he hp (by decide) h
        rw [pa_2, ecv] at hx
        subst hx
        replace C2 := hj.x (Or.inl (by omega)) C2
        replace C1 := hj.1
        clear hj
        refine k_istore C [1, 2, 3, 4, 5, 6, 7, 8, 9, 10, 11, 12, 13, 14, 0] [(0, .ref b), (1, .ref (sk_ad O 0)), (2, .ref (sk_ad O 804)), (3, .int 1), (4, .int (nI t)), (5, .int (nI i)), (6, .int (nI z)), (7, .int av), (8, .int (nI a)), (9, .int (nI f)), (10, .int (nI p)), (11, .int (nI g)), (12, .int (mo_T (mu_u S2.r (25 + 233 * a + 18 * f + 3 * p + 2) (nI g)) a)), (13, .int (mo_T S2.r a)), (14, .int (nI cv))] dL_law_353 (by decide) rfl ?_
        refine k_aloadn C 1 dL_law_355 rfl ?_
        refine k_iload C 8 dL_law_356 rfl ?_
        refine k_iload C 9 dL_law_358 rfl ?_
        refine k_iload C 10 dL_law_360 rfl ?_
        refine k_iload C 11 dL_law_362 rfl ?_
        refine k_kg C hSr hNx (6000 + 2400 * i + 40 + 2290) (as := [.ref (sk_ad O 0), .int (nI a), .int (nI f), .int (nI p), .int (nI g)]) yg_tryCall ml_L_170 (t_tryCall l hO hst C1 hk0 (nI a) (nI f) (nI p) (nI g)) rfl rfl (Nat.le_of_ble_eq_true rfl) ⟨⟨by decide, by decide⟩, by omega, by show 6000 + 2400 * i + 40 + 2290 ≤ 760519; omega, by show 6 * (6000 + 2400 * i + 40 + 2290) ≤ 6820068; omega⟩ dL_law_364 (fun x M11 h => ?_)
        obtain ⟨hx, hj⟩ := cx0' h hwc
        rw [eA, eF, eP, ecv] at hx
        rw [eT] at hj
        subst hx
        replace C2 := hj.x (Or.inl (by omega)) C2
        replace C1 := hj.1
        clear hj
        refine k_istore C [1, 2, 3, 4, 5, 6, 7, 8, 9, 10, 11, 12, 13, 14, 15, 0] [(0, .ref b), (1, .ref (sk_ad O 0)), (2, .ref (sk_ad O 804)), (3, .int 1), (4, .int (nI t)), (5, .int (nI i)), (6, .int (nI z)), (7, .int av), (8, .int (nI a)), (9, .int (nI f)), (10, .int (nI p)), (11, .int (nI g)), (12, .int (mo_T (mu_u S2.r (25 + 233 * a + 18 * f + 3 * p + 2) (nI g)) a)), (13, .int (mo_T S2.r a)), (14, .int (nI cv)), (15, .int (nI cv))] dL_law_367 (by decide) rfl ?_
        refine k_iloadn C 3 dL_law_369 rfl ?_
        refine k_zeq C 407 dL_law_370 (by decide) (fun e0 => absurd e0 (by decide)) (fun _ => ?_)
        refine k_iload C 15 dL_law_373 rfl ?_
        refine k_aloadn C 2 dL_law_375 rfl ?_
        refine k_iload C 8 dL_law_376 rfl ?_
        refine k_iload C 9 dL_law_378 rfl ?_
        refine k_iload C 10 dL_law_380 rfl ?_
        refine k_iload C 11 dL_law_382 rfl ?_
        refine k_kg C hSr hNx (6000 + 2400 * i + 40 + 2291) (as := [.ref (sk_ad O 804), .int (nI a), .int (nI f), .int (nI p), .int (nI g)]) yg_tryCall ml_L_170 (t_tryCall l hO hst C2 hk1 (nI a) (nI f) (nI p) (nI g)) rfl rfl (Nat.le_of_ble_eq_true rfl) ⟨⟨by decide, by decide⟩, by omega, by show 6000 + 2400 * i + 40 + 2291 ≤ 760519; omega, by show 6 * (6000 + 2400 * i + 40 + 2291) ≤ 6820068; omega⟩ dL_law_384 (fun x M12 h => ?_)
        obtain ⟨hx, hj⟩ := cx0' h hwc
        rw [eA, eF, eP, ecv] at hx
        rw [eT] at hj
        subst hx
        replace C1 := hj.x (Or.inr (by omega)) C1
        replace C2 := hj.1
        clear hj
        generalize hTe : S2.ac (mu_u S2.r (25 + 233 * a + 18 * f + 3 * p + 2) (nI g)) S2.m = T at C1 C2 hT
        have t1 : T.r = mu_u S2.r (25 + 233 * a + 18 * f + 3 * p + 2) (nI g) := by rw [← hTe]; rfl
        have t2 : T.m = S2.m := by rw [← hTe]; rfl
        have t3 : 0 < T.c := by rw [← hTe]; exact Nat.succ_pos _
        rw [hTe] at hU u1 u2
        clear hTe
        have sT := C1.so
        have hsT : a < T.m := by rw [t2]; exact hs
        have heT : f < mo_c T.r a := by rw [t1, mo_cu (by omega)]; exact he
        have hpT : p < mo_n T.r a f := by rw [t1]; show p < (mu_u _ _ _ _).toNatClampNeg; rw [mu_n (by omega)]; exact hp
        have hgT := T_b (C1.gd hT.1.1) hsT
        rw [t1] at hgT
        refine k_cne C 407 dL_law_387 (by decide) (fun e0 => absurd rfl e0) (fun _ => ?_)
        refine k_iload C 12 dL_law_390 rfl ?_
        refine k_si C (as := [.int (mo_T (mu_u S2.r (25 + 233 * a + 18 * f + 3 * p + 2) (nI g)) a)]) yvL_thrown vsL_thrown ml_L_223 (m_thrown l hO M12 (mo_T (mu_u S2.r (25 + 233 * a + 18 * f + 3 * p + 2) (nI g)) a)) rfl rfl (Nat.le_of_ble_eq_true rfl) ⟨⟨by decide, by decide⟩, by show 6000 + 2400 * i + 40 + 2291 ≤ 760519; omega, by show 6 * (6000 + 2400 * i + 40 + 2291) ≤ 6820068; omega⟩ dL_law_392 (fun x M13 h => ?_)
        obtain ⟨h1, h2⟩ := h
        rw [h2]
        clear h2
        obtain rfl : x = 0 := h1.elim (fun z => absurd z.2 (th_n (by omega))) (fun z => z.1)
        refine k_iload C 15 dL_law_395 rfl ?_
        refine k_si C (as := [.int (nI cv)]) yvL_thrown vsL_thrown ml_L_223 (m_thrown l hO M12 (nI cv)) rfl rfl (Nat.le_of_ble_eq_true rfl) ⟨⟨by decide, by decide⟩, by show 6000 + 2400 * i + 40 + 2291 ≤ 760519; omega, by show 6 * (6000 + 2400 * i + 40 + 2291) ≤ 6820068; omega⟩ dL_law_397 (fun x M14 h => ?_)
        obtain ⟨h1, h2⟩ := h
        rw [h2]
        clear h2
        obtain rfl : x = 0 := h1.elim (fun z => absurd z.2 (th_N (by omega))) (fun z => z.1)
        refine k_cne C 407 dL_law_400 (by decide) (fun e0 => absurd rfl e0) (fun _ => ?_)
        refine k_iconst C 1 dL_law_403 (by decide) ?_
        refine k_goto C 408 dL_law_404 (by decide) ?_
        refine k_istoren C [1, 2, 3, 0, 4, 5, 6, 7, 8, 9, 10, 11, 12, 13, 14, 15] [(0, .ref b), (1, .ref (sk_ad O 0)), (2, .ref (sk_ad O 804)), (3, .int 1), (4, .int (nI t)), (5, .int (nI i)), (6, .int (nI z)), (7, .int av), (8, .int (nI a)), (9, .int (nI f)), (10, .int (nI p)), (11, .int (nI g)), (12, .int (mo_T (mu_u S2.r (25 + 233 * a + 18 * f + 3 * p + 2) (nI g)) a)), (13, .int (mo_T S2.r a)), (14, .int (nI cv)), (15, .int (nI cv))] dL_law_408 (by decide) rfl ?_
        refine k_iloadn C 3 dL_law_409 rfl ?_
        refine k_zeq C 524 dL_law_410 (by decide) (fun e0 => absurd e0 (by decide)) (fun _ => ?_)
        refine k_iload C 15 dL_law_413 rfl ?_
        refine k_si C (as := [.int (nI cv)]) yvL_thrown vsL_thrown ml_L_223 (m_thrown l hO M12 (nI cv)) rfl rfl (Nat.le_of_ble_eq_true rfl) ⟨⟨by decide, by decide⟩, by show 6000 + 2400 * i + 40 + 2291 ≤ 760519; omega, by show 6 * (6000 + 2400 * i + 40 + 2291) ≤ 6820068; omega⟩ dL_law_415 (fun x M15 h => ?_)
        obtain ⟨h1, h2⟩ := h
        rw [h2]
        clear h2
        obtain rfl : x = 0 := h1.elim (fun z => absurd z.2 (th_N (by omega))) (fun z => z.1)
        refine k_zne C 524 dL_law_418 (by decide) (fun e0 => absurd rfl e0) (fun _ => ?_)
        refine k_iload C 15 dL_law_421 rfl ?_
        refine k_iload C 14 dL_law_423 rfl ?_
        refine k_cne C 522 dL_law_425 (by decide) (fun e0 => absurd rfl e0) (fun _ => ?_)
        refine k_aloadn C 1 dL_law_428 rfl ?_
        refine k_iconst C 2 dL_law_429 (by decide) ?_
        refine k_iload C 8 dL_law_430 rfl ?_
        refine k_iconst C 4 dL_law_432 (by decide) ?_
        refine k_iconst C 0 dL_law_433 (by decide) ?_
        refine k_ks C hSr hNx (6000 + 2400 * i + 40 + 2292) (as := [.ref (sk_ad O 0), .int 2, .int (nI a), .int 4, .int 0]) yvL_call vsL_call ml_L_163 (q_Skater l hO hst C1 hk0 (nI a) 4 0) rfl rfl (Nat.le_of_ble_eq_true rfl) ⟨⟨by decide, by decide⟩, by omega, by show 6000 + 2400 * i + 40 + 2292 ≤ 760519; omega, by show 6 * (6000 + 2400 * i + 40 + 2292) ≤ 6820068; omega⟩ dL_law_434 (fun x M16 h => ?_)
        obtain ⟨hx, hj⟩ := s_at sT hsT (by decide) h
        rw [sk_4, t1] at hx
        subst hx
        replace C2 := hj.x (Or.inl (by omega)) C2
        replace C1 := hj.1
        clear hj
        refine k_iload C 12 dL_law_437 rfl ?_
        refine k_cne C 522 dL_law_439 (by decide) (fun e0 => absurd rfl e0) (fun _ => ?_)
        refine k_aloadn C 1 dL_law_442 rfl ?_
        refine k_iload C 8 dL_law_443 rfl ?_
        refine k_iload C 9 dL_law_445 rfl ?_
        refine k_iload C 10 dL_law_447 rfl ?_
        refine k_iconst C 2 dL_law_449 (by decide) ?_
        refine k_kg C hSr hNx (6000 + 2400 * i + 40 + 2293) (as := [.ref (sk_ad O 0), .int (nI a), .int (nI f), .int (nI p), .int 2]) yg_tryPart ml_L_166 (t_tryPart l hO hst C1 hk0 (nI a) (nI f) (nI p) 2) rfl rfl (Nat.le_of_ble_eq_true rfl) ⟨⟨by decide, by decide⟩, by omega, by show 6000 + 2400 * i + 40 + 2293 ≤ 760519; omega, by show 6 * (6000 + 2400 * i + 40 + 2293) ≤ 6820068; omega⟩ dL_law_450 (fun x M17 h => ?_)
        obtain ⟨hx, hj⟩ := p_at sT hsT heT hpT (by decide) h
        rw [pa_2, t1, mu_y] at hx
        subst hx
        replace C2 := hj.x (Or.inl (by omega)) C2
        replace C1 := hj.1
        clear hj
        refine k_iload C 11 dL_law_453 rfl ?_
        refine k_cne C 522 dL_law_455 (by decide) (fun e0 => absurd rfl e0) (fun _ => ?_)
        refine k_aloadn C 1 dL_law_458 rfl ?_
        refine k_bipush C 11 dL_law_459 (by decide) ?_
        refine k_iconst C 0 dL_law_461 (by decide) ?_
        refine k_iconst C 0 dL_law_462 (by decide) ?_
        refine k_iconst C 0 dL_law_463 (by decide) ?_
        refine k_ks C hSr hNx (6000 + 2400 * i + 40 + 2294) (as := [.ref (sk_ad O 0), .int 11, .int 0, .int 0, .int 0]) yvL_call vsL_call ml_L_163 (q_Undo l hO hst C1 hk0 0 0 0) rfl rfl (Nat.le_of_ble_eq_true rfl) ⟨⟨by decide, by decide⟩, by omega, by show 6000 + 2400 * i + 40 + 2294 ≤ 760519; omega, by show 6 * (6000 + 2400 * i + 40 + 2294) ≤ 6820068; omega⟩ dL_law_464 (fun x M18 h => ?_)
        obtain ⟨hx, hj⟩ := cx0' h (er1p t3)
        subst hx
        replace C2 := hj.x (Or.inl (by omega)) C2
        replace C1 := hj.1
        clear hj
        have hcT : T.c ≤ 14 := C2.c14
        refine k_si C (as := [.int (nI (T.c - 1))]) yvL_thrown vsL_thrown ml_L_223 (m_thrown l hO M18 (nI (T.c - 1))) rfl rfl (Nat.le_of_ble_eq_true rfl) ⟨⟨by decide, by decide⟩, by show 6000 + 2400 * i + 40 + 2294 ≤ 760519; omega, by show 6 * (6000 + 2400 * i + 40 + 2294) ≤ 6820068; omega⟩ dL_law_467 (fun x M19 h => ?_)
        obtain ⟨h1, h2⟩ := h
        rw [h2]
        clear h2
        obtain rfl : x = 0 := h1.elim (fun z => absurd z.2 (th_N (by omega))) (fun z => z.1)
        refine k_zne C 522 dL_law_470 (by decide) (fun e0 => absurd rfl e0) (fun _ => ?_)
        refine k_aloadn C 2 dL_law_473 rfl ?_
        refine k_bipush C 11 dL_law_474 (by decide) ?_
        refine k_iconst C 0 dL_law_476 (by decide) ?_
        refine k_iconst C 0 dL_law_477 (by decide) ?_
        refine k_iconst C 0 dL_law_478 (by decide) ?_
        refine k_ks C hSr hNx (6000 + 2400 * i + 40 + 2295) (as := [.ref (sk_ad O 804), .int 11, .int 0, .int 0, .int 0]) yvL_call vsL_call ml_L_163 (q_Undo l hO hst C2 hk1 0 0 0) rfl rfl (Nat.le_of_ble_eq_true rfl) ⟨⟨by decide, by decide⟩, by omega, by show 6000 + 2400 * i + 40 + 2295 ≤ 760519; omega, by show 6 * (6000 + 2400 * i + 40 + 2295) ≤ 6820068; omega⟩ dL_law_479 (fun x M20 h => ?_)
        obtain ⟨hx, hj⟩ := cx0' h (er1p t3)
        subst hx
        replace C1 := hj.x (Or.inr (by omega)) C1
        replace C2 := hj.1
        clear hj
        refine k_si C (as := [.int (nI (T.c - 1))]) yvL_thrown vsL_thrown ml_L_223 (m_thrown l hO M20 (nI (T.c - 1))) rfl rfl (Nat.le_of_ble_eq_true rfl) ⟨⟨by decide, by decide⟩, by show 6000 + 2400 * i + 40 + 2295 ≤ 760519; omega, by show 6 * (6000 + 2400 * i + 40 + 2295) ≤ 6820068; omega⟩ dL_law_482 (fun x M21 h => ?_)
        obtain ⟨h1, h2⟩ := h
        rw [h2]
        clear h2
        obtain rfl : x = 0 := h1.elim (fun z => absurd z.2 (th_N (by omega))) (fun z => z.1)
        refine k_zne C 522 dL_law_485 (by decide) (fun e0 => absurd rfl e0) (fun _ => ?_)
        refine k_aloadn C 1 dL_law_488 rfl ?_
        refine k_iconst C 2 dL_law_489 (by decide) ?_
        refine k_iload C 8 dL_law_490 rfl ?_
        refine k_iconst C 4 dL_law_492 (by decide) ?_
        refine k_iconst C 0 dL_law_493 (by decide) ?_
        refine k_ks C hSr hNx (6000 + 2400 * i + 40 + 2296) (as := [.ref (sk_ad O 0), .int 2, .int (nI a), .int 4, .int 0]) yvL_call vsL_call ml_L_163 (q_Skater l hO hst C1 hk0 (nI a) 4 0) rfl rfl (Nat.le_of_ble_eq_true rfl) ⟨⟨by decide, by decide⟩, by omega, by show 6000 + 2400 * i + 40 + 2296 ≤ 760519; omega, by show 6 * (6000 + 2400 * i + 40 + 2296) ≤ 6820068; omega⟩ dL_law_494 (fun x M22 h => ?_)
        obtain ⟨hx, hj⟩ := s_at C1.so (show a < (a_un T).m by rw [u2]; exact hs) (by decide) h
        rw [sk_4, u1] at hx
        subst hx
        replace C2 := hj.x (Or.inl (by omega)) C2
        replace C1 := hj.1
        clear hj
        refine k_iload C 13 dL_law_497 rfl ?_
        refine k_cne C 522 dL_law_499 (by decide) (fun e0 => absurd rfl e0) (fun _ => ?_)
        refine k_aloadn C 1 dL_law_502 rfl ?_
        refine k_iload C 8 dL_law_503 rfl ?_
        refine k_iload C 9 dL_law_505 rfl ?_
        refine k_iload C 10 dL_law_507 rfl ?_
        refine k_iconst C 2 dL_law_509 (by decide) ?_
        refine k_kg C hSr hNx (6000 + 2400 * i + 40 + 2297) (as := [.ref (sk_ad O 0), .int (nI a), .int (nI f), .int (nI p), .int 2]) yg_tryPart ml_L_166 (t_tryPart l hO hst C1 hk0 (nI a) (nI f) (nI p) 2) rfl rfl (Nat.le_of_ble_eq_true rfl) ⟨⟨by decide, by decide⟩, by omega, by show 6000 + 2400 * i + 40 + 2297 ≤ 760519; omega, by show 6 * (6000 + 2400 * i + 40 + 2297) ≤ 6820068; omega⟩ dL_law_510 (fun x M23 h => ?_)
        obtain ⟨hx, hj⟩ := p_at C1.so (show a < (a_un T).m by rw [u2]; exact hs) (show f < mo_c (a_un T).r a by rw [u1]; exact he) (show p < mo_n (a_un T).r a f by rw [u1]; exact hp) (by decide) h
        rw [pa_2, u1, ecv] at hx
        subst hx
        replace C2 := hj.x (Or.inl (by omega)) C2
        replace C1 := hj.1
        clear hj
        refine k_iload C 14 dL_law_513 rfl ?_
        refine k_cne C 522 dL_law_515 (by decide) (fun e0 => absurd rfl e0) (fun _ => ?_)
        refine k_iconst C 1 dL_law_518 (by decide) ?_
        refine k_goto C 523 dL_law_519 (by decide) ?_
        refine k_istoren C [1, 2, 3, 0, 4, 5, 6, 7, 8, 9, 10, 11, 12, 13, 14, 15] [(0, .ref b), (1, .ref (sk_ad O 0)), (2, .ref (sk_ad O 804)), (3, .int 1), (4, .int (nI t)), (5, .int (nI i)), (6, .int (nI z)), (7, .int av), (8, .int (nI a)), (9, .int (nI f)), (10, .int (nI p)), (11, .int (nI g)), (12, .int (mo_T (mu_u S2.r (25 + 233 * a + 18 * f + 3 * p + 2) (nI g)) a)), (13, .int (mo_T S2.r a)), (14, .int (nI cv)), (15, .int (nI cv))] dL_law_523 (by decide) rfl ?_
        refine k_sub [0, 1, 2, 3, 4, 5] (lv' := [(0, .ref b), (1, .ref (sk_ad O 0)), (2, .ref (sk_ad O 804)), (3, .int 1), (4, .int (nI t)), (5, .int (nI i))]) rfl ?_
        refine k_iinc C 5 (nI (i + 1)) [1, 2, 3, 4, 5, 0] [(0, .ref b), (1, .ref (sk_ad O 0)), (2, .ref (sk_ad O 804)), (3, .int 1), (4, .int (nI t)), (5, .int (nI (i + 1)))] dL_law_524 rfl (nI_add _ 1) (by decide) rfl ?_
        refine k_goto C 134 dL_law_527 (by decide) ?_
        exact k_widen (by omega) (by omega) (ih (i + 1) _ _ (by omega) C1 C2 (hU))
      · skip
        have h3 : mo_wc S2.r (nI a) (nI f) (nI p) (nI g) ≤ 3 := er3_le
        refine k_aloadn C 1 dL_law_317 rfl ?_
        refine k_iload C 8 dL_law_318 rfl ?_
        refine k_iload C 9 dL_law_320 rfl ?_
        refine k_iload C 10 dL_law_322 rfl ?_
        refine k_iload C 11 dL_law_324 rfl ?_
        refine k_kg C hSr hNx (6000 + 2400 * i + 40 + 2298) (as := [.ref (sk_ad O 0), .int (nI a), .int (nI f), .int (nI p), .int (nI g)]) yg_tryIfCalled ml_L_173 (t_tryIfCalled l hO hst C1 hk0 (nI a) (nI f) (nI p) (nI g)) rfl rfl (Nat.le_of_ble_eq_true rfl) ⟨⟨by decide, by decide⟩, by omega, by show 6000 + 2400 * i + 40 + 2298 ≤ 760519; omega, by show 6 * (6000 + 2400 * i + 40 + 2298) ≤ 6820068; omega⟩ dL_law_326 (fun v1 M24 h => ?_)
        obtain ⟨hxv1, hj⟩ := h
        replace C2 := hj.x (Or.inl (by omega)) C2
        replace C1 := hj.1
        clear hj
        refine k_istore C [1, 2, 3, 4, 5, 6, 7, 8, 9, 10, 11, 12, 0] [(0, .ref b), (1, .ref (sk_ad O 0)), (2, .ref (sk_ad O 804)), (3, .int 1), (4, .int (nI t)), (5, .int (nI i)), (6, .int (nI z)), (7, .int av), (8, .int (nI a)), (9, .int (nI f)), (10, .int (nI p)), (11, .int (nI g)), (12, .int v1)] dL_law_329 (by decide) rfl ?_
        refine k_aloadn C 1 dL_law_331 rfl ?_
        refine k_iconst C 2 dL_law_332 (by decide) ?_
        refine k_iload C 8 dL_law_333 rfl ?_
        refine k_iconst C 4 dL_law_335 (by decide) ?_
        refine k_iconst C 0 dL_law_336 (by decide) ?_
        refine k_ks C hSr hNx (6000 + 2400 * i + 40 + 2299) (as := [.ref (sk_ad O 0), .int 2, .int (nI a), .int 4, .int 0]) yvL_call vsL_call ml_L_163 (q_Skater l hO hst C1 hk0 (nI a) 4 0) rfl rfl (Nat.le_of_ble_eq_true rfl) ⟨⟨by decide, by decide⟩, by omega, by show 6000 + 2400 * i + 40 + 2299 ≤ 760519; omega, by show 6 * (6000 + 2400 * i + 40 + 2299) ≤ 6820068; omega⟩ dL_law_337 (fun v2 M25 h => ?_)
        obtain ⟨hxv2, hj⟩ := h
        replace C2 := hj.x (Or.inl (by omega)) C2
        replace C1 := hj.1
        clear hj
        refine k_istore C [1, 2, 3, 4, 5, 6, 7, 8, 9, 10, 11, 12, 13, 0] [(0, .ref b), (1, .ref (sk_ad O 0)), (2, .ref (sk_ad O 804)), (3, .int 1), (4, .int (nI t)), (5, .int (nI i)), (6, .int (nI z)), (7, .int av), (8, .int (nI a)), (9, .int (nI f)), (10, .int (nI p)), (11, .int (nI g)), (12, .int v1), (13, .int v2)] dL_law_340 (by decide) rfl ?_
        refine k_aloadn C 1 dL_law_342 rfl ?_
        refine k_iload C 8 dL_law_343 rfl ?_
        refine k_iload C 9 dL_law_345 rfl ?_
        refine k_iload C 10 dL_law_347 rfl ?_
        refine k_iconst C 2 dL_law_349 (by decide) ?_
        refine k_kg C hSr hNx (6000 + 2400 * i + 40 + 2300) (as := [.ref (sk_ad O 0), .int (nI a), .int (nI f), .int (nI p), .int 2]) yg_tryPart ml_L_166 (t_tryPart l hO hst C1 hk0 (nI a) (nI f) (nI p) 2) rfl rfl (Nat.le_of_ble_eq_true rfl) ⟨⟨by decide, by decide⟩, by omega, by show 6000 + 2400 * i + 40 + 2300 ≤ 760519; omega, by show 6 * (6000 + 2400 * i + 40 + 2300) ≤ 6820068; omega⟩ dL_law_350 (fun v3 M26 h => ?_)
        obtain ⟨hxv3, hj⟩ := h
        replace C2 := hj.x (Or.inl (by omega)) C2
        replace C1 := hj.1
        clear hj
        refine k_istore C [1, 2, 3, 4, 5, 6, 7, 8, 9, 10, 11, 12, 13, 14, 0] [(0, .ref b), (1, .ref (sk_ad O 0)), (2, .ref (sk_ad O 804)), (3, .int 1), (4, .int (nI t)), (5, .int (nI i)), (6, .int (nI z)), (7, .int av), (8, .int (nI a)), (9, .int (nI f)), (10, .int (nI p)), (11, .int (nI g)), (12, .int v1), (13, .int v2), (14, .int v3)] dL_law_353 (by decide) rfl ?_
        refine k_aloadn C 1 dL_law_355 rfl ?_
        refine k_iload C 8 dL_law_356 rfl ?_
        refine k_iload C 9 dL_law_358 rfl ?_
        refine k_iload C 10 dL_law_360 rfl ?_
        refine k_iload C 11 dL_law_362 rfl ?_
        refine k_kg C hSr hNx (6000 + 2400 * i + 40 + 2301) (as := [.ref (sk_ad O 0), .int (nI a), .int (nI f), .int (nI p), .int (nI g)]) yg_tryCall ml_L_170 (t_tryCall l hO hst C1 hk0 (nI a) (nI f) (nI p) (nI g)) rfl rfl (Nat.le_of_ble_eq_true rfl) ⟨⟨by decide, by decide⟩, by omega, by show 6000 + 2400 * i + 40 + 2301 ≤ 760519; omega, by show 6 * (6000 + 2400 * i + 40 + 2301) ≤ 6820068; omega⟩ dL_law_364 (fun v4 M27 h => ?_)
        obtain ⟨hxv4, hj⟩ := cxn' h hwc
        replace C2 := hj.x (Or.inl (by omega)) C2
        replace C1 := hj.1
        clear hj
        refine k_istore C [1, 2, 3, 4, 5, 6, 7, 8, 9, 10, 11, 12, 13, 14, 15, 0] [(0, .ref b), (1, .ref (sk_ad O 0)), (2, .ref (sk_ad O 804)), (3, .int 1), (4, .int (nI t)), (5, .int (nI i)), (6, .int (nI z)), (7, .int av), (8, .int (nI a)), (9, .int (nI f)), (10, .int (nI p)), (11, .int (nI g)), (12, .int v1), (13, .int v2), (14, .int v3), (15, .int v4)] dL_law_367 (by decide) rfl ?_
        refine k_iloadn C 3 dL_law_369 rfl ?_
        refine k_zeq C 407 dL_law_370 (by decide) (fun e0 => absurd e0 (by decide)) (fun _ => ?_)
        refine k_iload C 15 dL_law_373 rfl ?_
        refine k_aloadn C 2 dL_law_375 rfl ?_
        refine k_iload C 8 dL_law_376 rfl ?_
        refine k_iload C 9 dL_law_378 rfl ?_
        refine k_iload C 10 dL_law_380 rfl ?_
        refine k_iload C 11 dL_law_382 rfl ?_
        refine k_kg C hSr hNx (6000 + 2400 * i + 40 + 2302) (as := [.ref (sk_ad O 804), .int (nI a), .int (nI f), .int (nI p), .int (nI g)]) yg_tryCall ml_L_170 (t_tryCall l hO hst C2 hk1 (nI a) (nI f) (nI p) (nI g)) rfl rfl (Nat.le_of_ble_eq_true rfl) ⟨⟨by decide, by decide⟩, by omega, by show 6000 + 2400 * i + 40 + 2302 ≤ 760519; omega, by show 6 * (6000 + 2400 * i + 40 + 2302) ≤ 6820068; omega⟩ dL_law_384 (fun v5 M28 h => ?_)
        obtain ⟨hxv5, hj⟩ := cxn' h hwc
        replace C1 := hj.x (Or.inr (by omega)) C1
        replace C2 := hj.1
        clear hj
        refine k_cne C 407 dL_law_387 (by decide) (fun e0 => absurd (hxv4.trans hxv5.symm) e0) (fun _ => ?_)
        refine k_iload C 12 dL_law_390 rfl ?_
        refine k_si C (as := [.int v1]) yvL_thrown vsL_thrown ml_L_223 (m_thrown l hO M28 v1) rfl rfl (Nat.le_of_ble_eq_true rfl) ⟨⟨by decide, by decide⟩, by show 6000 + 2400 * i + 40 + 2302 ≤ 760519; omega, by show 6 * (6000 + 2400 * i + 40 + 2302) ≤ 6820068; omega⟩ dL_law_392 (fun x M29 h => ?_)
        obtain ⟨h1, h2⟩ := h
        rw [h2]
        clear h2
        obtain rfl : x = 1 := h1.elim (fun z => z.1) (fun z => absurd (by rw [hxv1]; exact th_x hwc h3) z.2)
        refine k_iload C 15 dL_law_395 rfl ?_
        refine k_si C (as := [.int v4]) yvL_thrown vsL_thrown ml_L_223 (m_thrown l hO M28 v4) rfl rfl (Nat.le_of_ble_eq_true rfl) ⟨⟨by decide, by decide⟩, by show 6000 + 2400 * i + 40 + 2302 ≤ 760519; omega, by show 6 * (6000 + 2400 * i + 40 + 2302) ≤ 6820068; omega⟩ dL_law_397 (fun x M30 h => ?_)
        obtain ⟨h1, h2⟩ := h
        rw [h2]
        clear h2
        obtain rfl : x = 1 := h1.elim (fun z => z.1) (fun z => absurd (by rw [hxv4]; exact th_x hwc h3) z.2)
        refine k_cne C 407 dL_law_400 (by decide) (fun e0 => absurd rfl e0) (fun _ => ?_)
        refine k_iconst C 1 dL_law_403 (by decide) ?_
        refine k_goto C 408 dL_law_404 (by decide) ?_
        refine k_istoren C [1, 2, 3, 0, 4, 5, 6, 7, 8, 9, 10, 11, 12, 13, 14, 15] [(0, .ref b), (1, .ref (sk_ad O 0)), (2, .ref (sk_ad O 804)), (3, .int 1), (4, .int (nI t)), (5, .int (nI i)), (6, .int (nI z)), (7, .int av), (8, .int (nI a)), (9, .int (nI f)), (10, .int (nI p)), (11, .int (nI g)), (12, .int v1), (13, .int v2), (14, .int v3), (15, .int v4)] dL_law_408 (by decide) rfl ?_
        refine k_iloadn C 3 dL_law_409 rfl ?_
        refine k_zeq C 524 dL_law_410 (by decide) (fun e0 => absurd e0 (by decide)) (fun _ => ?_)
        refine k_iload C 15 dL_law_413 rfl ?_
        refine k_si C (as := [.int v4]) yvL_thrown vsL_thrown ml_L_223 (m_thrown l hO M28 v4) rfl rfl (Nat.le_of_ble_eq_true rfl) ⟨⟨by decide, by decide⟩, by show 6000 + 2400 * i + 40 + 2302 ≤ 760519; omega, by show 6 * (6000 + 2400 * i + 40 + 2302) ≤ 6820068; omega⟩ dL_law_415 (fun x M31 h => ?_)
        obtain ⟨h1, h2⟩ := h
        rw [h2]
        clear h2
        obtain rfl : x = 1 := h1.elim (fun z => z.1) (fun z => absurd (by rw [hxv4]; exact th_x hwc h3) z.2)
        refine k_zne C 524 dL_law_418 (by decide) (fun _ => ?_) (fun e0 => absurd e0 (by decide))
        refine k_sub [0, 1, 2, 3, 4, 5] (lv' := [(0, .ref b), (1, .ref (sk_ad O 0)), (2, .ref (sk_ad O 804)), (3, .int 1), (4, .int (nI t)), (5, .int (nI i))]) rfl ?_
        refine k_iinc C 5 (nI (i + 1)) [1, 2, 3, 4, 5, 0] [(0, .ref b), (1, .ref (sk_ad O 0)), (2, .ref (sk_ad O 804)), (3, .int 1), (4, .int (nI t)), (5, .int (nI (i + 1)))] dL_law_524 rfl (nI_add _ 1) (by decide) rfl ?_
        refine k_goto C 134 dL_law_527 (by decide) ?_
        exact k_widen (by omega) (by omega) (ih (i + 1) _ _ (by omega) C1 C2 (hI))
    refine k_zne C 190 dL_law_159 (by decide) (fun _ => k_widen (by omega) (by omega) (J190 _ S C1 C2 hI)) (fun _ => ?_)
    refine k_aloadn C 1 dL_law_162 rfl ?_
    refine k_iload C 6 dL_law_163 rfl ?_
    refine k_iconst C 5 dL_law_165 (by decide) ?_
    refine k_idiv C dL_law_166 (by decide) ?_
    refine k_top (nI (z / 5)) (sk_ndiv (a := z) (b := 5) rfl rfl (by omega) (by decide)) ?_
    refine k_ks C hSr hNx (6000 + 2400 * i + 20) (as := [.ref (sk_ad O 0), .int (nI (z / 5))]) yvL_type vsL_type ml_L_205 (w_type l hO hst C1 hk0 (w := z / 5) (by omega)) rfl rfl (Nat.le_of_ble_eq_true rfl) ⟨⟨by decide, by decide⟩, by omega, by show 6000 + 2400 * i + 20 ≤ 760519; omega, by show 6 * (6000 + 2400 * i + 20) ≤ 6820068; omega⟩ dL_law_167 (fun x M32 h => ?_)
    obtain ⟨hx, hj⟩ := h
    subst hx
    replace C2 := hj.x (Or.inl (by omega)) C2
    replace C1 := hj.1
    clear hj
    refine k_zeq C 188 dL_law_170 (by decide) (fun e0 => absurd e0 (by decide)) (fun _ => ?_)
    refine k_aloadn C 2 dL_law_173 rfl ?_
    refine k_iload C 6 dL_law_174 rfl ?_
    refine k_iconst C 5 dL_law_176 (by decide) ?_
    refine k_idiv C dL_law_177 (by decide) ?_
    refine k_top (nI (z / 5)) (sk_ndiv (a := z) (b := 5) rfl rfl (by omega) (by decide)) ?_
    refine k_ks C hSr hNx (6000 + 2400 * i + 40) (as := [.ref (sk_ad O 804), .int (nI (z / 5))]) yvL_type vsL_type ml_L_205 (w_type l hO hst C2 hk1 (w := z / 5) (by omega)) rfl rfl (Nat.le_of_ble_eq_true rfl) ⟨⟨by decide, by decide⟩, by omega, by show 6000 + 2400 * i + 40 ≤ 760519; omega, by show 6 * (6000 + 2400 * i + 40) ≤ 6820068; omega⟩ dL_law_178 (fun x M33 h => ?_)
    obtain ⟨hx, hj⟩ := h
    subst hx
    replace C1 := hj.x (Or.inr (by omega)) C1
    replace C2 := hj.1
    clear hj
    refine k_zeq C 188 dL_law_181 (by decide) (fun e0 => absurd e0 (by decide)) (fun _ => ?_)
    refine k_iconst C 1 dL_law_184 (by decide) ?_
    refine k_goto C 189 dL_law_185 (by decide) ?_
    refine k_istoren C [1, 2, 3, 0, 4, 5, 6] [(0, .ref b), (1, .ref (sk_ad O 0)), (2, .ref (sk_ad O 804)), (3, .int 1), (4, .int (nI t)), (5, .int (nI i)), (6, .int (nI z))] dL_law_189 (by decide) rfl ?_
    obtain ⟨k1, k2⟩ := iw_ty (w := z / 5) hI.1 5
    exact J190 _ _ C1 C2 ⟨k1, by rw [k2]; exact hI.2⟩
set_option maxHeartbeats 8000000 in
set_option maxRecDepth 100000 in
theorem lw_begin {l : Launch} {X : sk_X} {O : sk_O} {A : Nat → Prop} {Q : State → Prop} {b L : Nat} {xs : Nat → Int32} (B : lw_B l X O A b L xs) (fin : ∀ (kc : Nat) (M : sk_M) (lv : List (Nat × Value)), kc ≤ 700000 → sk_W l X O A Q 16 kc (6 * kc) M 531 lv [.int 1]) : ∀ (d i : Nat) (N : sk_M) (S : rl_T), i + d = 2 → rl_C N 0 S → rl_C N 804 S → iw S → S.m = i → sk_W l X O A Q 16 (5000 + 44 * i) (6 * (5000 + 44 * i)) N 21 [(0, .ref b), (1, .ref (sk_ad O 0)), (2, .ref (sk_ad O 804)), (3, .int 1), (4, .int (nI i))] [] := by
  have B0 := B
  obtain ⟨C, hSr, hNx, hO, hst, hX, hL, hbk, hk0, hk1⟩ := B
  intro d
  induction d with
  | zero =>
    intro i N S hi C1 C2 hI hm
    obtain rfl : i = 2 := by omega
    refine k_iload C 4 dL_law_21 rfl ?_
    refine k_iconst C 2 dL_law_23 (by decide) ?_
    refine k_cge C 118 dL_law_24 (by decide) (fun _ => ?_) (fun e0 => absurd (show (2 : Int32) ≤ nI 2 from by decide) e0)
    refine k_bipush C 8 dL_law_118 (by decide) ?_
    refine k_aloadn C 0 dL_law_120 rfl ?_
    refine k_iconst C 2 dL_law_121 (by decide) ?_
    refine k_cell C hO (j := 2) hX hL (by omega) hbk (Nat.le_of_ble_eq_true rfl) ⟨⟨by decide, by decide⟩, by show 5000 + 44 * 2 ≤ 760519; omega, by show 6 * (5000 + 44 * 2) ≤ 6820068; omega⟩ dL_law_122 ?_
    obtain ⟨z, hz, ez⟩ := cl_n L xs 2
    rw [ez]
    refine k_bipush C 17 dL_law_125 (by decide) ?_
    refine k_irem C dL_law_127 (by decide) ?_
    refine k_top (nI (z % 17)) (sk_nrem (a := z) (b := 17) rfl rfl (by omega) (by decide)) ?_
    refine k_iadd C dL_law_128 ?_
    refine k_top (nI (8 + z % 17)) (sk_nadd (a := 8) (b := z % 17) rfl rfl) ?_
    refine k_istore C [1, 2, 3, 4, 0] [(0, .ref b), (1, .ref (sk_ad O 0)), (2, .ref (sk_ad O 804)), (3, .int 1), (4, .int (nI (8 + z % 17)))] dL_law_129 (by decide) rfl ?_
    refine k_iconst C 0 dL_law_131 (by decide) ?_
    refine k_istore C [1, 2, 3, 4, 5, 0] [(0, .ref b), (1, .ref (sk_ad O 0)), (2, .ref (sk_ad O 804)), (3, .int 1), (4, .int (nI (8 + z % 17))), (5, .int 0)] dL_law_132 (by decide) rfl ?_
    exact k_widen (by omega) (by omega) (lw_turns (t := 8 + z % 17) B0 (by omega) fin (8 + z % 17) 0 N S (by omega) C1 C2 ⟨hI, by omega⟩)
  | succ d ih =>
    intro i N S hi C1 C2 hI hm
    have h4 : S.m < 4 := by omega
    have hc14 := C1.c14
    refine k_iload C 4 dL_law_21 rfl ?_
    refine k_iconst C 2 dL_law_23 (by decide) ?_
    refine k_cge C 118 dL_law_24 (by decide) (fun e0 => absurd e0 (by rw [show (2 : Int32) = nI 2 from rfl, nI_leI (by omega) (by omega)]; omega)) (fun _ => ?_)
    refine k_iloadn C 3 dL_law_27 rfl ?_
    refine k_zeq C 118 dL_law_28 (by decide) (fun e0 => absurd e0 (by decide)) (fun _ => ?_)
    refine k_aloadn C 1 dL_law_31 rfl ?_
    refine k_iconst C 5 dL_law_32 (by decide) ?_
    refine k_iconst C 0 dL_law_33 (by decide) ?_
    refine k_iconst C 0 dL_law_34 (by decide) ?_
    refine k_iconst C 0 dL_law_35 (by decide) ?_
    refine k_ks C hSr hNx (5000 + 44 * i + 1) (as := [.ref (sk_ad O 0), .int 5, .int 0, .int 0, .int 0]) yvL_call vsL_call ml_L_163 (q_Add l hO hst C1 hk0 0 0 0) rfl rfl (Nat.le_of_ble_eq_true rfl) ⟨⟨by decide, by decide⟩, by omega, by show 5000 + 44 * i + 1 ≤ 760519; omega, by show 6 * (5000 + 44 * i + 1) ≤ 6820068; omega⟩ dL_law_36 (fun x M1 h => ?_)
    obtain ⟨hx, hj⟩ := cx0' h (er1p h4)
    rw [hm] at hx
    subst hx
    replace C2 := hj.x (Or.inl (by omega)) C2
    replace C1 := hj.1
    clear hj
    refine k_iload C 4 dL_law_39 rfl ?_
    refine k_cne C 110 dL_law_41 (by decide) (fun e0 => absurd rfl e0) (fun _ => ?_)
    refine k_aloadn C 2 dL_law_44 rfl ?_
    refine k_iconst C 5 dL_law_45 (by decide) ?_
    refine k_iconst C 0 dL_law_46 (by decide) ?_
    refine k_iconst C 0 dL_law_47 (by decide) ?_
    refine k_iconst C 0 dL_law_48 (by decide) ?_
    refine k_ks C hSr hNx (5000 + 44 * i + 2) (as := [.ref (sk_ad O 804), .int 5, .int 0, .int 0, .int 0]) yvL_call vsL_call ml_L_163 (q_Add l hO hst C2 hk1 0 0 0) rfl rfl (Nat.le_of_ble_eq_true rfl) ⟨⟨by decide, by decide⟩, by omega, by show 5000 + 44 * i + 2 ≤ 760519; omega, by show 6 * (5000 + 44 * i + 2) ≤ 6820068; omega⟩ dL_law_49 (fun x M2 h => ?_)
    obtain ⟨hx, hj⟩ := cx0' h (er1p h4)
    rw [hm] at hx
    subst hx
    replace C1 := hj.x (Or.inr (by omega)) C1
    replace C2 := hj.1
    clear hj
    refine k_iload C 4 dL_law_52 rfl ?_
    refine k_cne C 110 dL_law_54 (by decide) (fun e0 => absurd rfl e0) (fun _ => ?_)
    refine k_aloadn C 1 dL_law_57 rfl ?_
    refine k_aloadn C 0 dL_law_58 rfl ?_
    refine k_iload C 4 dL_law_59 rfl ?_
    have hI2 : iw (a_ad S) := (inv_ad hI hc14 h4).1
    refine k_cell C hO (j := i) hX hL (by omega) hbk (Nat.le_of_ble_eq_true rfl) ⟨⟨by decide, by decide⟩, by show 5000 + 44 * i + 2 ≤ 760519; omega, by show 6 * (5000 + 44 * i + 2) ≤ 6820068; omega⟩ dL_law_61 ?_
    obtain ⟨z1, hz1, ez1⟩ := cl_n L xs i
    rw [ez1]
    refine k_ks C hSr hNx (5000 + 44 * i + 22) (as := [.ref (sk_ad O 0), .int (nI z1)]) yvL_type vsL_type ml_L_205 (w_type l hO hst C1 hk0 (w := z1) hz1) rfl rfl (Nat.le_of_ble_eq_true rfl) ⟨⟨by decide, by decide⟩, by omega, by show 5000 + 44 * i + 22 ≤ 760519; omega, by show 6 * (5000 + 44 * i + 22) ≤ 6820068; omega⟩ dL_law_64 (fun x M3 h => ?_)
    obtain ⟨hx, hj⟩ := h
    subst hx
    replace C2 := hj.x (Or.inl (by omega)) C2
    replace C1 := hj.1
    clear hj
    refine k_zeq C 110 dL_law_67 (by decide) (fun e0 => absurd e0 (by decide)) (fun _ => ?_)
    refine k_aloadn C 2 dL_law_70 rfl ?_
    refine k_aloadn C 0 dL_law_71 rfl ?_
    refine k_iload C 4 dL_law_72 rfl ?_
    refine k_cell C hO (j := i) hX hL (by omega) hbk (Nat.le_of_ble_eq_true rfl) ⟨⟨by decide, by decide⟩, by show 5000 + 44 * i + 22 ≤ 760519; omega, by show 6 * (5000 + 44 * i + 22) ≤ 6820068; omega⟩ dL_law_74 ?_
    rw [ez1]
    refine k_ks C hSr hNx (5000 + 44 * i + 42) (as := [.ref (sk_ad O 804), .int (nI z1)]) yvL_type vsL_type ml_L_205 (w_type l hO hst C2 hk1 (w := z1) hz1) rfl rfl (Nat.le_of_ble_eq_true rfl) ⟨⟨by decide, by decide⟩, by omega, by show 5000 + 44 * i + 42 ≤ 760519; omega, by show 6 * (5000 + 44 * i + 42) ≤ 6820068; omega⟩ dL_law_77 (fun x M4 h => ?_)
    obtain ⟨hx, hj⟩ := h
    subst hx
    replace C1 := hj.x (Or.inr (by omega)) C1
    replace C2 := hj.1
    clear hj
    refine k_zeq C 110 dL_law_80 (by decide) (fun e0 => absurd e0 (by decide)) (fun _ => ?_)
    have hcT := C1.c14
    refine k_aloadn C 1 dL_law_83 rfl ?_
    refine k_bipush C 6 dL_law_84 (by decide) ?_
    refine k_iload C 4 dL_law_86 rfl ?_
    refine k_iconst C 0 dL_law_88 (by decide) ?_
    refine k_iconst C 0 dL_law_89 (by decide) ?_
    refine k_ks C hSr hNx (5000 + 44 * i + 43) (as := [.ref (sk_ad O 0), .int 6, .int (nI i), .int 0, .int 0]) yvL_call vsL_call ml_L_163 (q_Program l hO hst C1 hk0 (nI i) 0 0) rfl rfl (Nat.le_of_ble_eq_true rfl) ⟨⟨by decide, by decide⟩, by omega, by show 5000 + 44 * i + 43 ≤ 760519; omega, by show 6 * (5000 + 44 * i + 43) ≤ 6820068; omega⟩ dL_law_90 (fun x M5 h => ?_)
    obtain ⟨hx, hj⟩ := h
    subst hx
    replace C2 := hj.x (Or.inl (by omega)) C2
    replace C1 := hj.1
    clear hj
    refine k_aloadn C 2 dL_law_93 rfl ?_
    refine k_bipush C 6 dL_law_94 (by decide) ?_
    refine k_iload C 4 dL_law_96 rfl ?_
    refine k_iconst C 0 dL_law_98 (by decide) ?_
    refine k_iconst C 0 dL_law_99 (by decide) ?_
    refine k_ks C hSr hNx (5000 + 44 * i + 44) (as := [.ref (sk_ad O 804), .int 6, .int (nI i), .int 0, .int 0]) yvL_call vsL_call ml_L_163 (q_Program l hO hst C2 hk1 (nI i) 0 0) rfl rfl (Nat.le_of_ble_eq_true rfl) ⟨⟨by decide, by decide⟩, by omega, by show 5000 + 44 * i + 44 ≤ 760519; omega, by show 6 * (5000 + 44 * i + 44) ≤ 6820068; omega⟩ dL_law_100 (fun x M6 h => ?_)
    obtain ⟨hx, hj⟩ := h
    subst hx
    replace C1 := hj.x (Or.inr (by omega)) C1
    replace C2 := hj.1
    clear hj
    refine k_cne C 110 dL_law_103 (by decide) (fun e0 => absurd rfl e0) (fun _ => ?_)
    refine k_iconst C 1 dL_law_106 (by decide) ?_
    refine k_goto C 111 dL_law_107 (by decide) ?_
    refine k_istoren C [1, 2, 3, 0, 4] [(0, .ref b), (1, .ref (sk_ad O 0)), (2, .ref (sk_ad O 804)), (3, .int 1), (4, .int (nI i))] dL_law_111 (by decide) rfl ?_
    refine k_iinc C 4 (nI (i + 1)) [1, 2, 3, 4, 0] [(0, .ref b), (1, .ref (sk_ad O 0)), (2, .ref (sk_ad O 804)), (3, .int 1), (4, .int (nI (i + 1)))] dL_law_112 rfl (nI_add _ 1) (by decide) rfl ?_
    refine k_goto C 21 dL_law_115 (by decide) ?_
    obtain ⟨k1, k2⟩ := iw_ty (w := z1) hI2 5
    have k3 : (ty_n (a_ad S) z1 5).1.m = i + 1 := by rw [k2, ← hm]; rfl
    refine k_widen (by omega) (by omega) (ih (i + 1) _ _ (by omega) C1 C2 ?_ ?_)
    · by_cases zz : er_2 (mo_hs (ty_n (a_ad S) z1 5).1.r (nI i)) (a_ok (ty_n (a_ad S) z1 5).1 = true) = 0
      · rw [cs0 zz]
        exact k1.ac (by have := C1.c14; rw [cs0 zz] at this; exact hcT) (iv_pr k1.1 (a_L_12 _)) (Nat.le_succ _)
      · rw [csn zz]; exact k1
    · by_cases zz : er_2 (mo_hs (ty_n (a_ad S) z1 5).1.r (nI i)) (a_ok (ty_n (a_ad S) z1 5).1 = true) = 0
      · rw [cs0 zz]; exact k3
      · rw [csn zz]; exact k3
