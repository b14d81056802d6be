/-! Scoring: an element, a program -/
theorem sk_nz (p : Prop) [Decidable p] : narrow .boolean (.int (if p then 1 else 0)) = .int (if p then 1 else 0) := by by_cases h : p <;> simp [h] <;> rfl
theorem sk_fz (p : Prop) [Decidable p] : fits .boolean (.int (if p then 1 else 0)) = true := by by_cases h : p <;> simp [h] <;> rfl
def re_tm (M : sk_M) (k g u e : Nat) : Int32 := if sc_cp M k u (M (g + 1) e) then 1 else 0
def re_a (M : sk_M) (k g u e np : Nat) : sk_M := if 1 < np ∧ re_tm M k g u e = 0 then sk_ms (sc_cm M k (M (g + 1) e)) k 11 (sc_cm M k (M (g + 1) e) k 11 + 1) else sc_cm M k (M (g + 1) e)
def re_ct (M : sk_M) (k g u e np : Nat) : Int32 := if 1 < np ∧ ¬ re_a M k g u e np k 11 ≤ re_a M k g u e np u 1 then 1 else 0
def re_w (N : sk_M) (k g e q : Nat) (ty tm ct : Int32) : Int32 := if 1 < sc_ov N k g e q tm ct then 0 else sc_pw ty (sc_om N k g e q tm ct (g + 6) (3 * e + q)) (sc_om N k g e q tm ct (g + 7) (3 * e + q)) (sc_om N k g e q tm ct (g + 8) (3 * e + q))
def re_v (N : sk_M) (k g e q : Nat) (ty tm ct : Int32) : Int32 := if sc_ov N k g e q tm ct = 1 then sc_pc (re_w N k g e q ty tm ct) 70 else re_w N k g e q ty tm ct
def re_s (N : sk_M) (k g e q : Nat) (ty tm ct : Int32) : sk_M := sk_ms (sk_ms (sk_ms (sc_om N k g e q tm ct) (k + 1) (3 * e + q) (re_v N k g e q ty tm ct)) (k + 2) (3 * e + q) (sc_ov N k g e q tm ct)) k 13 (sc_om N k g e q tm ct k 13 + (if sc_ov N k g e q tm ct = 0 then 0 else 1))
def re_l (k g e : Nat) (ty tm ct : Int32) (M1 : sk_M) : Nat → sk_M × Int32 × Int32
  | 0 => (M1, 0, 0)
  | q + 1 => (re_s (re_l k g e ty tm ct M1 q).1 k g e q ty tm ct, (re_l k g e ty tm ct M1 q).2.1 + re_v (re_l k g e ty tm ct M1 q).1 k g e q ty tm ct,
      if (re_l k g e ty tm ct M1 q).2.2 < re_v (re_l k g e ty tm ct M1 q).1 k g e q ty tm ct then re_v (re_l k g e ty tm ct M1 q).1 k g e q ty tm ct else (re_l k g e ty tm ct M1 q).2.2)
def re_L (M : sk_M) (k g u e np q : Nat) : sk_M × Int32 × Int32 := re_l k g e (M (g + 1) e) (re_tm M k g u e) (re_ct M k g u e np) (re_a M k g u e np) q
def re_h (M : sk_M) (k g u e np : Nat) : sk_M := sk_ms (re_L M k g u e np np).1 k 12 (if ¬ (re_L M k g u e np np).1 k 12 = 0 ∨ (np = 3 ∧ re_tm M k g u e = 0 ∧ re_ct M k g u e np = 0) then 1 else 0)
def re_hb (M : sk_M) (k g u e np : Nat) : Int32 := if M (g + 1) e = 0 ∧ re_tm M k g u e = 0 ∧ ¬ 2 * nI e < re_h M k g u e np g 9 then 1 else 0
def re_b (M : sk_M) (k g u e np : Nat) : Int32 := if re_hb M k g u e np = 0 then (re_L M k g u e np np).2.1 else sc_pc (re_L M k g u e np np).2.1 (100 + re_h M k g u e np u 4)
def re_3 (M : sk_M) (k g u e np : Nat) : sk_M := sk_ms (sk_ms (sk_ms (re_h M k g u e np) (k + 3) e (re_b M k g u e np)) (k + 6) e (if re_hb M k g u e np = 0 then 0 else 1)) (k + 4) e (re_L M k g u e np np).2.2
def re_m (M : sk_M) (k g u e np : Nat) : sk_M := sk_ms (re_3 M k g u e np) (k + 5) e (sc_gr (re_3 M k g u e np (g + 3) e) (re_L M k g u e np np).2.2)
set_option maxHeartbeats 4000000 in
set_option maxRecDepth 100000 in
theorem m_X3_rateElement (l : Launch) {O : sk_O} (hO : sk_inj O) (M : sk_M) (k g u e np : Nat) (hk : sk_isK O k) (hg : sk_isP O g) (hu : sk_is O u (0, 5, sk_no)) (he : e < 12) (hp : M (g + 2) e = nI np) (hp3 : np ≤ 3) (hap : u < k ∨ k + 9 ≤ u) : sk_Mv l yX3_rateElement (sk_w yX3_rateElement cX3_rateElement 14 none) ({ frames := 2, cells := 0, slots := 0, locals := 51 }) O [.ref (sk_ad O k), .ref (sk_ad O g), .int (nI e), .ref (sk_ad O u)] M (fun M' => M' = (re_m M k g u e np)) := by
  refine sk_mv (by decide) ⟨rfl, rfl⟩ hO (Nat.le_of_ble_eq_true rfl) (fun X A Q C ret => ?_)
  show sk_W l X O A Q 14 0 0 M 0 [(0, .ref (sk_ad O k)), (1, .ref (sk_ad O g)), (2, .int (nI e)), (3, .ref (sk_ad O u))] []
  refine k_aloadn C 1 dX3_rateElement_0 rfl ?_
  refine k_getr C (j := 0) (k' := g + 1) kcl_X2 fl_X3_95 hg.1 (by decide) rfl dX3_rateElement_1 ?_
  refine k_iloadn C 2 dX3_rateElement_4 rfl ?_
  refine k_ialdn C e hg.2.1 rfl (by omega) dX3_rateElement_5 ?_
  refine k_istore C [1, 2, 3, 4, 0] [(0, .ref (sk_ad O k)), (1, .ref (sk_ad O g)), (2, .int (nI e)), (3, .ref (sk_ad O u)), (4, .int (M (g + 1) e))] dX3_rateElement_6 (by decide) rfl ?_
  refine k_aloadn C 1 dX3_rateElement_8 rfl ?_
  refine k_getr C (j := 1) (k' := g + 2) kcl_X2 fl_X3_98 hg.1 (by decide) rfl dX3_rateElement_9 ?_
  refine k_iloadn C 2 dX3_rateElement_12 rfl ?_
  refine k_ialdn C e hg.2.2.1 rfl (by omega) dX3_rateElement_13 ?_
  refine k_istore C [1, 2, 3, 4, 5, 0] [(0, .ref (sk_ad O k)), (1, .ref (sk_ad O g)), (2, .int (nI e)), (3, .ref (sk_ad O u)), (4, .int (M (g + 1) e)), (5, .int (M (g + 2) e))] dX3_rateElement_14 (by decide) rfl ?_
  refine k_aloadn C 0 dX3_rateElement_16 rfl ?_
  refine k_iload C 4 dX3_rateElement_17 rfl ?_
  refine k_aloadn C 3 dX3_rateElement_19 rfl ?_
  refine k_vi C (as := [.int (M (g + 1) e), .ref (sk_ad O u)]) yvX3_countsTooMany viX3_countsTooMany ml_X3_101 (m_X3_countsTooMany l C.2.2.2.1 M (k := k) (u := u) (ty := M (g + 1) e) (hk := hk) (hu := hu) (hap := hap)) hk.1 rfl rfl rfl (Nat.le_of_ble_eq_true rfl) (by decide) dX3_rateElement_20 (fun x20_1 M20_1 h20_1 => ?_)
  obtain ⟨hx, hm⟩ := h20_1
  rw [hm, show x20_1 = re_tm M k g u e from hx]
  refine k_istore C [1, 2, 3, 4, 5, 6, 0] [(0, .ref (sk_ad O k)), (1, .ref (sk_ad O g)), (2, .int (nI e)), (3, .ref (sk_ad O u)), (4, .int (M (g + 1) e)), (5, .int (M (g + 2) e)), (6, .int (re_tm M k g u e))] dX3_rateElement_23 (by decide) rfl ?_
  refine k_iload C 5 dX3_rateElement_25 rfl ?_
  refine k_iconst C (1) dX3_rateElement_27 (by decide) ?_
  have J46 : sk_W l X O A Q 14 0 0 (re_a M k g u e np) 46 [(0, .ref (sk_ad O k)), (1, .ref (sk_ad O g)), (2, .int (nI e)), (3, .ref (sk_ad O u)), (4, .int (M (g + 1) e)), (5, .int (M (g + 2) e)), (6, .int (re_tm M k g u e))] [] := by
    refine k_iload C 5 dX3_rateElement_46 rfl ?_
    refine k_iconst C (1) dX3_rateElement_48 (by decide) ?_
    have J67 : sk_W l X O A Q 14 0 0 (re_a M k g u e np) 67 [(0, .ref (sk_ad O k)), (1, .ref (sk_ad O g)), (2, .int (nI e)), (3, .ref (sk_ad O u)), (4, .int (M (g + 1) e)), (5, .int (M (g + 2) e)), (6, .int (re_tm M k g u e))] [.int (re_ct M k g u e np)] := by
      refine k_istore C [1, 2, 3, 4, 5, 6, 7, 0] [(0, .ref (sk_ad O k)), (1, .ref (sk_ad O g)), (2, .int (nI e)), (3, .ref (sk_ad O u)), (4, .int (M (g + 1) e)), (5, .int (M (g + 2) e)), (6, .int (re_tm M k g u e)), (7, .int (re_ct M k g u e np))] dX3_rateElement_67 (by decide) rfl ?_
      refine k_iconst C (0) dX3_rateElement_69 (by decide) ?_
      refine k_istore C [1, 2, 3, 4, 5, 6, 7, 8, 0] [(0, .ref (sk_ad O k)), (1, .ref (sk_ad O g)), (2, .int (nI e)), (3, .ref (sk_ad O u)), (4, .int (M (g + 1) e)), (5, .int (M (g + 2) e)), (6, .int (re_tm M k g u e)), (7, .int (re_ct M k g u e np)), (8, .int (0))] dX3_rateElement_70 (by decide) rfl ?_
      refine k_iconst C (0) dX3_rateElement_72 (by decide) ?_
      refine k_istore C [1, 2, 3, 4, 5, 6, 7, 8, 9, 0] [(0, .ref (sk_ad O k)), (1, .ref (sk_ad O g)), (2, .int (nI e)), (3, .ref (sk_ad O u)), (4, .int (M (g + 1) e)), (5, .int (M (g + 2) e)), (6, .int (re_tm M k g u e)), (7, .int (re_ct M k g u e np)), (8, .int (0)), (9, .int (0))] dX3_rateElement_73 (by decide) rfl ?_
      refine k_iconst C (0) dX3_rateElement_75 (by decide) ?_
      refine k_istore C [1, 2, 3, 4, 5, 6, 7, 8, 9, 10, 0] [(0, .ref (sk_ad O k)), (1, .ref (sk_ad O g)), (2, .int (nI e)), (3, .ref (sk_ad O u)), (4, .int (M (g + 1) e)), (5, .int (M (g + 2) e)), (6, .int (re_tm M k g u e)), (7, .int (re_ct M k g u e np)), (8, .int (0)), (9, .int (0)), (10, .int (0))] dX3_rateElement_76 (by decide) rfl ?_
      have L78 : ∀ q, q ≤ np → sk_W l X O A Q 14 0 0 ((re_L M k g u e np q).1) 78 [(0, .ref (sk_ad O k)), (1, .ref (sk_ad O g)), (2, .int (nI e)), (3, .ref (sk_ad O u)), (4, .int (M (g + 1) e)), (5, .int (M (g + 2) e)), (6, .int (re_tm M k g u e)), (7, .int (re_ct M k g u e np)), (8, .int ((re_L M k g u e np q).2.1)), (9, .int ((re_L M k g u e np q).2.2)), (10, .int (nI q))] [] := by
        refine sk_loop np (fun q hi78 ih78 => ?_)
        refine k_iload C 10 dX3_rateElement_78 rfl ?_
        refine k_iload C 5 dX3_rateElement_80 rfl ?_
        refine k_cge C 230 dX3_rateElement_82 (by decide) (fun c82_2 => ?_) (fun c82_2 => ?_)
        ·
          have nc82_2 : np ≤ q := (sk_eI (a := np) (b := q) hp rfl (by omega) (by omega)).mp c82_2
          obtain rfl : np = q := (by omega)
          refine k_aloadn C 0 dX3_rateElement_230 rfl ?_
          refine k_aloadn C 0 dX3_rateElement_231 rfl ?_
          refine k_geti C (j := 12) kcl_X3 fl_X3_55 hk.1 (by decide) rfl dX3_rateElement_232 ?_
          have J259 : sk_W l X O A Q 14 0 0 ((re_L M k g u e np np).1) 259 [(0, .ref (sk_ad O k)), (1, .ref (sk_ad O g)), (2, .int (nI e)), (3, .ref (sk_ad O u)), (4, .int (M (g + 1) e)), (5, .int (M (g + 2) e)), (6, .int (re_tm M k g u e)), (7, .int (re_ct M k g u e np)), (8, .int ((re_L M k g u e np np).2.1)), (9, .int ((re_L M k g u e np np).2.2)), (10, .int (nI np))] [.int (if ¬ (re_L M k g u e np np).1 k 12 = 0 ∨ (np = 3 ∧ re_tm M k g u e = 0 ∧ re_ct M k g u e np = 0) then 1 else 0), .ref (sk_ad O k)] := by
            refine k_puti C (j := 12) (ty := .boolean) tyX3 kcl_X3 tyX3_ok nmX3 fl_X3_55 hk.1 (by decide) rfl rfl (by decide +kernel) (sk_nz _) (sk_fz _) dX3_rateElement_259 ?_
            refine k_iload C 4 dX3_rateElement_262 rfl ?_
            have J287 : sk_W l X O A Q 14 0 0 (re_h M k g u e np) 287 [(0, .ref (sk_ad O k)), (1, .ref (sk_ad O g)), (2, .int (nI e)), (3, .ref (sk_ad O u)), (4, .int (M (g + 1) e)), (5, .int (M (g + 2) e)), (6, .int (re_tm M k g u e)), (7, .int (re_ct M k g u e np)), (8, .int ((re_L M k g u e np np).2.1)), (9, .int ((re_L M k g u e np np).2.2)), (10, .int (nI np))] [.int (re_hb M k g u e np)] := by
              refine k_istore C [1, 2, 3, 4, 5, 6, 7, 8, 9, 10, 0] [(0, .ref (sk_ad O k)), (1, .ref (sk_ad O g)), (2, .int (nI e)), (3, .ref (sk_ad O u)), (4, .int (M (g + 1) e)), (5, .int (M (g + 2) e)), (6, .int (re_tm M k g u e)), (7, .int (re_ct M k g u e np)), (8, .int ((re_L M k g u e np np).2.1)), (9, .int ((re_L M k g u e np np).2.2)), (10, .int (re_hb M k g u e np))] dX3_rateElement_287 (by decide) rfl ?_
              refine k_aloadn C 0 dX3_rateElement_289 rfl ?_
              refine k_getr C (j := 2) (k' := k + 3) kcl_X3 fl_X3_18 hk.1 (by decide) rfl dX3_rateElement_290 ?_
              refine k_iloadn C 2 dX3_rateElement_293 rfl ?_
              refine k_iload C 10 dX3_rateElement_294 rfl ?_
              have J315 : sk_W l X O A Q 14 0 0 (re_h M k g u e np) 315 [(0, .ref (sk_ad O k)), (1, .ref (sk_ad O g)), (2, .int (nI e)), (3, .ref (sk_ad O u)), (4, .int (M (g + 1) e)), (5, .int (M (g + 2) e)), (6, .int (re_tm M k g u e)), (7, .int (re_ct M k g u e np)), (8, .int ((re_L M k g u e np np).2.1)), (9, .int ((re_L M k g u e np np).2.2)), (10, .int (re_hb M k g u e np))] [.int (re_b M k g u e np), .int (nI e), .ref (sk_ad O (k + 3))] := by
                refine k_iast C e hk.2.2.2.1 rfl (by omega) dX3_rateElement_315 ?_
                refine k_aloadn C 0 dX3_rateElement_316 rfl ?_
                refine k_getr C (j := 5) (k' := k + 6) kcl_X3 fl_X3_27 hk.1 (by decide) rfl dX3_rateElement_317 ?_
                refine k_iloadn C 2 dX3_rateElement_320 rfl ?_
                refine k_iload C 10 dX3_rateElement_321 rfl ?_
                have J331 : sk_W l X O A Q 14 0 0 (sk_ms (re_h M k g u e np) (k + 3) e (re_b M k g u e np)) 331 [(0, .ref (sk_ad O k)), (1, .ref (sk_ad O g)), (2, .int (nI e)), (3, .ref (sk_ad O u)), (4, .int (M (g + 1) e)), (5, .int (M (g + 2) e)), (6, .int (re_tm M k g u e)), (7, .int (re_ct M k g u e np)), (8, .int ((re_L M k g u e np np).2.1)), (9, .int ((re_L M k g u e np np).2.2)), (10, .int (re_hb M k g u e np))] [.int (if re_hb M k g u e np = 0 then 0 else 1), .int (nI e), .ref (sk_ad O (k + 6))] := by
                  refine k_iast C e hk.2.2.2.2.2.2.1 rfl (by omega) dX3_rateElement_331 ?_
                  refine k_aloadn C 0 dX3_rateElement_332 rfl ?_
                  refine k_getr C (j := 3) (k' := k + 4) kcl_X3 fl_X3_21 hk.1 (by decide) rfl dX3_rateElement_333 ?_
                  refine k_iloadn C 2 dX3_rateElement_336 rfl ?_
                  refine k_iload C 9 dX3_rateElement_337 rfl ?_
                  refine k_iast C e hk.2.2.2.2.1 rfl (by omega) dX3_rateElement_339 ?_
                  refine k_aloadn C 0 dX3_rateElement_340 rfl ?_
                  refine k_getr C (j := 4) (k' := k + 5) kcl_X3 fl_X3_24 hk.1 (by decide) rfl dX3_rateElement_341 ?_
                  refine k_iloadn C 2 dX3_rateElement_344 rfl ?_
                  refine k_aloadn C 1 dX3_rateElement_345 rfl ?_
                  refine k_getr C (j := 2) (k' := g + 3) kcl_X2 fl_X3_127 hg.1 (by decide) rfl dX3_rateElement_346 ?_
                  refine k_iloadn C 2 dX3_rateElement_349 rfl ?_
                  refine k_ialdn C e hg.2.2.2.1 rfl (by omega) dX3_rateElement_350 ?_
                  refine k_iload C 9 dX3_rateElement_351 rfl ?_
                  refine k_si C (as := [.int ((sk_ms (sk_ms (sk_ms (re_h M k g u e np) (k + 3) e (re_b M k g u e np)) (k + 6) e (if re_hb M k g u e np = 0 then 0 else 1)) (k + 4) e ((re_L M k g u e np np).2.2)) (g + 3) e), .int ((re_L M k g u e np np).2.2)]) yvX3_gradeOf vsX3_gradeOf ml_X3_130 (m_X3_gradeOf l C.2.2.2.1 (sk_ms (sk_ms (sk_ms (re_h M k g u e np) (k + 3) e (re_b M k g u e np)) (k + 6) e (if re_hb M k g u e np = 0 then 0 else 1)) (k + 4) e ((re_L M k g u e np np).2.2)) (k := (sk_ms (sk_ms (sk_ms (re_h M k g u e np) (k + 3) e (re_b M k g u e np)) (k + 6) e (if re_hb M k g u e np = 0 then 0 else 1)) (k + 4) e ((re_L M k g u e np np).2.2)) (g + 3) e) (t := (re_L M k g u e np np).2.2)) rfl rfl (Nat.le_of_ble_eq_true rfl) (by decide) dX3_rateElement_353 (fun x353_3 M353_3 h353_3 => ?_)
                  rw [h353_3.1, h353_3.2]
                  refine k_iast C e hk.2.2.2.2.2.1 rfl (by omega) dX3_rateElement_356 ?_
                  exact ret _ _ _ dX3_rateElement_357 (by exact rfl)
                refine k_zeq C 330 dX3_rateElement_323 (by decide) (fun c323_4 => ?_) (fun c323_4 => ?_)
                ·
                  refine k_iconst C (0) dX3_rateElement_330 (by decide) ?_
                  exact k_eq rfl rfl rfl (by rw [if_pos c323_4]) J331
                ·
                  refine k_iconst C (1) dX3_rateElement_326 (by decide) ?_
                  refine k_goto C 331 dX3_rateElement_327 (by decide) ?_
                  exact k_eq rfl rfl rfl (by rw [if_neg c323_4]) J331
              refine k_zeq C 313 dX3_rateElement_296 (by decide) (fun c296_5 => ?_) (fun c296_5 => ?_)
              ·
                refine k_iload C 8 dX3_rateElement_313 rfl ?_
                exact k_eq rfl rfl rfl (by rw [re_b, if_pos c296_5]) J315
              ·
                refine k_iload C 8 dX3_rateElement_299 rfl ?_
                refine k_bipush C (100) dX3_rateElement_301 (by decide) ?_
                refine k_aloadn C 3 dX3_rateElement_303 rfl ?_
                refine k_iconst C (4) dX3_rateElement_304 (by decide) ?_
                refine k_ialdn C 4 hu (rfl : ((4) : Int32) = nI 4) (by omega) dX3_rateElement_305 ?_
                refine k_iadd C dX3_rateElement_306 ?_
                refine k_si C (as := [.int ((re_L M k g u e np np).2.1), .int ((100) + ((re_h M k g u e np) u 4))]) yvX3_percent vsX3_percent ml_X3_89 (m_X3_percent l C.2.2.2.1 (re_h M k g u e np) (x := (re_L M k g u e np np).2.1) (y := (100) + ((re_h M k g u e np) u 4))) rfl rfl (Nat.le_of_ble_eq_true rfl) (by decide) dX3_rateElement_307 (fun x307_6 M307_6 h307_6 => ?_)
                rw [h307_6.1, h307_6.2]
                refine k_goto C 315 dX3_rateElement_310 (by decide) ?_
                exact k_eq rfl rfl rfl (by rw [re_b, if_neg c296_5]) J315
            refine k_zne C 286 dX3_rateElement_264 (by decide) (fun c264_7 => ?_) (fun c264_7 => ?_)
            ·
              refine k_iconst C (0) dX3_rateElement_286 (by decide) ?_
              exact k_eq rfl rfl rfl (by rw [re_hb, if_neg (show ¬ (M (g + 1) e = 0 ∧ re_tm M k g u e = 0 ∧ ¬ 2 * nI e < re_h M k g u e np g 9) from fun h => c264_7 h.1)]) J287
            ·
              refine k_iload C 6 dX3_rateElement_267 rfl ?_
              refine k_zne C 286 dX3_rateElement_269 (by decide) (fun c269_8 => ?_) (fun c269_8 => ?_)
              ·
                refine k_iconst C (0) dX3_rateElement_286 (by decide) ?_
                exact k_eq rfl rfl rfl (by rw [re_hb, if_neg (show ¬ (M (g + 1) e = 0 ∧ re_tm M k g u e = 0 ∧ ¬ 2 * nI e < re_h M k g u e np g 9) from fun h => c269_8 h.2.1)]) J287
              ·
                refine k_iconst C (2) dX3_rateElement_272 (by decide) ?_
                refine k_iloadn C 2 dX3_rateElement_273 rfl ?_
                refine k_imul C dX3_rateElement_274 ?_
                refine k_aloadn C 1 dX3_rateElement_275 rfl ?_
                refine k_geti C (j := 9) kcl_X2 fl_X3_71 hg.1 (by decide) rfl dX3_rateElement_276 ?_
                refine k_clt C 286 dX3_rateElement_279 (by decide) (fun c279_9 => ?_) (fun c279_9 => ?_)
                ·
                  refine k_iconst C (0) dX3_rateElement_286 (by decide) ?_
                  exact k_eq rfl rfl rfl (by rw [re_hb, if_neg (show ¬ (M (g + 1) e = 0 ∧ re_tm M k g u e = 0 ∧ ¬ 2 * nI e < re_h M k g u e np g 9) from fun h => h.2.2 c279_9)]) J287
                ·
                  refine k_iconst C (1) dX3_rateElement_282 (by decide) ?_
                  refine k_goto C 287 dX3_rateElement_283 (by decide) ?_
                  exact k_eq rfl rfl rfl (by rw [re_hb, if_pos (show M (g + 1) e = 0 ∧ re_tm M k g u e = 0 ∧ ¬ 2 * nI e < re_h M k g u e np g 9 from ⟨c264_7, c269_8, c279_9⟩)]) J287
          refine k_zne C 254 dX3_rateElement_235 (by decide) (fun c235_10 => ?_) (fun c235_10 => ?_)
          ·
            refine k_iconst C (1) dX3_rateElement_254 (by decide) ?_
            refine k_goto C 259 dX3_rateElement_255 (by decide) ?_
            exact k_eq rfl rfl rfl (by rw [if_pos (show ¬ (re_L M k g u e np np).1 k 12 = 0 ∨ (np = 3 ∧ re_tm M k g u e = 0 ∧ re_ct M k g u e np = 0) from Or.inl c235_10)]) J259
          ·
            refine k_iload C 5 dX3_rateElement_238 rfl ?_
            refine k_iconst C (3) dX3_rateElement_240 (by decide) ?_
            refine k_cne C 258 dX3_rateElement_241 (by decide) (fun c241_11 => ?_) (fun c241_11 => ?_)
            ·
              have nc241_11 : ¬ (np = 3) := fun h => c241_11 ((sk_qI (a := np) (b := 3) hp (rfl : ((3) : Int32) = nI 3) (by omega) (by omega)).mpr h)
              refine k_iconst C (0) dX3_rateElement_258 (by decide) ?_
              exact k_eq rfl rfl rfl (by rw [if_neg (show ¬ (¬ (re_L M k g u e np np).1 k 12 = 0 ∨ (np = 3 ∧ re_tm M k g u e = 0 ∧ re_ct M k g u e np = 0)) from fun h => h.elim (fun z => z c235_10) (fun z => absurd z.1 (by omega)))]) J259
            ·
              have nc241_11 : np = 3 := (sk_qI (a := np) (b := 3) hp (rfl : ((3) : Int32) = nI 3) (by omega) (by omega)).mp c241_11
              refine k_iload C 6 dX3_rateElement_244 rfl ?_
              refine k_zne C 258 dX3_rateElement_246 (by decide) (fun c246_12 => ?_) (fun c246_12 => ?_)
              ·
                refine k_iconst C (0) dX3_rateElement_258 (by decide) ?_
                exact k_eq rfl rfl rfl (by rw [if_neg (show ¬ (¬ (re_L M k g u e np np).1 k 12 = 0 ∨ (np = 3 ∧ re_tm M k g u e = 0 ∧ re_ct M k g u e np = 0)) from fun h => h.elim (fun z => z c235_10) (fun z => c246_12 z.2.1))]) J259
              ·
                refine k_iload C 7 dX3_rateElement_249 rfl ?_
                refine k_zne C 258 dX3_rateElement_251 (by decide) (fun c251_13 => ?_) (fun c251_13 => ?_)
                ·
                  refine k_iconst C (0) dX3_rateElement_258 (by decide) ?_
                  exact k_eq rfl rfl rfl (by rw [if_neg (show ¬ (¬ (re_L M k g u e np np).1 k 12 = 0 ∨ (np = 3 ∧ re_tm M k g u e = 0 ∧ re_ct M k g u e np = 0)) from fun h => h.elim (fun z => z c235_10) (fun z => c251_13 z.2.2))]) J259
                ·
                  refine k_iconst C (1) dX3_rateElement_254 (by decide) ?_
                  refine k_goto C 259 dX3_rateElement_255 (by decide) ?_
                  exact k_eq rfl rfl rfl (by rw [if_pos (show ¬ (re_L M k g u e np np).1 k 12 = 0 ∨ (np = 3 ∧ re_tm M k g u e = 0 ∧ re_ct M k g u e np = 0) from Or.inr ⟨by omega, c246_12, c251_13⟩)]) J259
        ·
          have nc82_2 : ¬ (np ≤ q) := fun h => c82_2 ((sk_eI (a := np) (b := q) hp rfl (by omega) (by omega)).mpr h)
          refine k_iconst C (3) dX3_rateElement_85 (by decide) ?_
          refine k_iloadn C 2 dX3_rateElement_86 rfl ?_
          refine k_imul C dX3_rateElement_87 ?_
          refine k_iload C 10 dX3_rateElement_88 rfl ?_
          refine k_iadd C dX3_rateElement_90 ?_
          refine k_istore C [1, 2, 3, 4, 5, 6, 7, 8, 9, 10, 11, 0] [(0, .ref (sk_ad O k)), (1, .ref (sk_ad O g)), (2, .int (nI e)), (3, .ref (sk_ad O u)), (4, .int (M (g + 1) e)), (5, .int (M (g + 2) e)), (6, .int (re_tm M k g u e)), (7, .int (re_ct M k g u e np)), (8, .int ((re_L M k g u e np q).2.1)), (9, .int ((re_L M k g u e np q).2.2)), (10, .int (nI q)), (11, .int (((3) * (nI e)) + (nI q)))] dX3_rateElement_91 (by decide) rfl ?_
          refine k_aloadn C 0 dX3_rateElement_93 rfl ?_
          refine k_aloadn C 1 dX3_rateElement_94 rfl ?_
          refine k_iloadn C 2 dX3_rateElement_95 rfl ?_
          refine k_iload C 10 dX3_rateElement_96 rfl ?_
          refine k_iload C 6 dX3_rateElement_98 rfl ?_
          refine k_iload C 7 dX3_rateElement_100 rfl ?_
          refine k_vi C (as := [.ref (sk_ad O g), .int (nI e), .int (nI q), .int (re_tm M k g u e), .int (re_ct M k g u e np)]) yvX3_reasonOf viX3_reasonOf ml_X3_105 (m_X3_reasonOf l C.2.2.2.1 ((re_L M k g u e np q).1) (k := k) (g := g) (e := e) (q := q) (tm := re_tm M k g u e) (ct := re_ct M k g u e np) (hk := hk) (hg := hg) (he := (by omega)) (hq := (by omega))) hk.1 rfl rfl rfl (Nat.le_of_ble_eq_true rfl) (by decide) dX3_rateElement_102 (fun x102_14 M102_14 h102_14 => ?_)
          rw [h102_14.1, h102_14.2]
          refine k_istore C [1, 2, 3, 4, 5, 6, 7, 8, 9, 10, 11, 12, 0] [(0, .ref (sk_ad O k)), (1, .ref (sk_ad O g)), (2, .int (nI e)), (3, .ref (sk_ad O u)), (4, .int (M (g + 1) e)), (5, .int (M (g + 2) e)), (6, .int (re_tm M k g u e)), (7, .int (re_ct M k g u e np)), (8, .int ((re_L M k g u e np q).2.1)), (9, .int ((re_L M k g u e np q).2.2)), (10, .int (nI q)), (11, .int (((3) * (nI e)) + (nI q))), (12, .int (sc_ov ((re_L M k g u e np q).1) k g e q (re_tm M k g u e) (re_ct M k g u e np)))] dX3_rateElement_105 (by decide) rfl ?_
          refine k_iload C 12 dX3_rateElement_107 rfl ?_
          refine k_iconst C (1) dX3_rateElement_109 (by decide) ?_
          have J143 : sk_W l X O A Q 14 0 0 (sc_om ((re_L M k g u e np q).1) k g e q (re_tm M k g u e) (re_ct M k g u e np)) 143 [(0, .ref (sk_ad O k)), (1, .ref (sk_ad O g)), (2, .int (nI e)), (3, .ref (sk_ad O u)), (4, .int (M (g + 1) e)), (5, .int (M (g + 2) e)), (6, .int (re_tm M k g u e)), (7, .int (re_ct M k g u e np)), (8, .int ((re_L M k g u e np q).2.1)), (9, .int ((re_L M k g u e np q).2.2)), (10, .int (nI q)), (11, .int (((3) * (nI e)) + (nI q))), (12, .int (sc_ov ((re_L M k g u e np q).1) k g e q (re_tm M k g u e) (re_ct M k g u e np)))] [.int (re_w (re_L M k g u e np q).1 k g e q (M (g + 1) e) (re_tm M k g u e) (re_ct M k g u e np))] := by
            refine k_istore C [1, 2, 3, 4, 5, 6, 7, 8, 9, 10, 11, 12, 13, 0] [(0, .ref (sk_ad O k)), (1, .ref (sk_ad O g)), (2, .int (nI e)), (3, .ref (sk_ad O u)), (4, .int (M (g + 1) e)), (5, .int (M (g + 2) e)), (6, .int (re_tm M k g u e)), (7, .int (re_ct M k g u e np)), (8, .int ((re_L M k g u e np q).2.1)), (9, .int ((re_L M k g u e np q).2.2)), (10, .int (nI q)), (11, .int (((3) * (nI e)) + (nI q))), (12, .int (sc_ov ((re_L M k g u e np q).1) k g e q (re_tm M k g u e) (re_ct M k g u e np))), (13, .int (re_w (re_L M k g u e np q).1 k g e q (M (g + 1) e) (re_tm M k g u e) (re_ct M k g u e np)))] dX3_rateElement_143 (by decide) rfl ?_
            refine k_aloadn C 0 dX3_rateElement_145 rfl ?_
            refine k_getr C (j := 0) (k' := k + 1) kcl_X3 fl_X3_9 hk.1 (by decide) rfl dX3_rateElement_146 ?_
            refine k_iload C 11 dX3_rateElement_149 rfl ?_
            refine k_iload C 12 dX3_rateElement_151 rfl ?_
            refine k_iconst C (1) dX3_rateElement_153 (by decide) ?_
            have J169 : sk_W l X O A Q 14 0 0 (sc_om ((re_L M k g u e np q).1) k g e q (re_tm M k g u e) (re_ct M k g u e np)) 169 [(0, .ref (sk_ad O k)), (1, .ref (sk_ad O g)), (2, .int (nI e)), (3, .ref (sk_ad O u)), (4, .int (M (g + 1) e)), (5, .int (M (g + 2) e)), (6, .int (re_tm M k g u e)), (7, .int (re_ct M k g u e np)), (8, .int ((re_L M k g u e np q).2.1)), (9, .int ((re_L M k g u e np q).2.2)), (10, .int (nI q)), (11, .int (((3) * (nI e)) + (nI q))), (12, .int (sc_ov ((re_L M k g u e np q).1) k g e q (re_tm M k g u e) (re_ct M k g u e np))), (13, .int (re_w (re_L M k g u e np q).1 k g e q (M (g + 1) e) (re_tm M k g u e) (re_ct M k g u e np)))] [.int (re_v (re_L M k g u e np q).1 k g e q (M (g + 1) e) (re_tm M k g u e) (re_ct M k g u e np)), .int (((3) * (nI e)) + (nI q)), .ref (sk_ad O (k + 1))] := by
              refine k_iast C (3 * e + q) hk.2.1 (sk_nadd (sk_nmul (rfl : ((3) : Int32) = nI 3) rfl) rfl) (by omega) dX3_rateElement_169 ?_
              refine k_aloadn C 0 dX3_rateElement_170 rfl ?_
              refine k_getr C (j := 1) (k' := k + 2) kcl_X3 fl_X3_15 hk.1 (by decide) rfl dX3_rateElement_171 ?_
              refine k_iload C 11 dX3_rateElement_174 rfl ?_
              refine k_iload C 12 dX3_rateElement_176 rfl ?_
              refine k_iast C (3 * e + q) hk.2.2.1 (sk_nadd (sk_nmul (rfl : ((3) : Int32) = nI 3) rfl) rfl) (by omega) dX3_rateElement_178 ?_
              refine k_aloadn C 0 dX3_rateElement_179 rfl ?_
              refine k_dup C dX3_rateElement_180 rfl ?_
              refine k_geti C (j := 13) kcl_X3 fl_X3_59 hk.1 (by decide) rfl dX3_rateElement_181 ?_
              refine k_top ((sc_om ((re_L M k g u e np q).1) k g e q (re_tm M k g u e) (re_ct M k g u e np)) k 13) (by rw [sk_ne (by omega), sk_ne (by omega)]) ?_
              refine k_iload C 12 dX3_rateElement_184 rfl ?_
              have J194 : sk_W l X O A Q 14 0 0 (sk_ms (sk_ms (sc_om ((re_L M k g u e np q).1) k g e q (re_tm M k g u e) (re_ct M k g u e np)) (k + 1) (3 * e + q) (re_v (re_L M k g u e np q).1 k g e q (M (g + 1) e) (re_tm M k g u e) (re_ct M k g u e np))) (k + 2) (3 * e + q) (sc_ov ((re_L M k g u e np q).1) k g e q (re_tm M k g u e) (re_ct M k g u e np))) 194 [(0, .ref (sk_ad O k)), (1, .ref (sk_ad O g)), (2, .int (nI e)), (3, .ref (sk_ad O u)), (4, .int (M (g + 1) e)), (5, .int (M (g + 2) e)), (6, .int (re_tm M k g u e)), (7, .int (re_ct M k g u e np)), (8, .int ((re_L M k g u e np q).2.1)), (9, .int ((re_L M k g u e np q).2.2)), (10, .int (nI q)), (11, .int (((3) * (nI e)) + (nI q))), (12, .int (sc_ov ((re_L M k g u e np q).1) k g e q (re_tm M k g u e) (re_ct M k g u e np))), (13, .int (re_w (re_L M k g u e np q).1 k g e q (M (g + 1) e) (re_tm M k g u e) (re_ct M k g u e np)))] [.int (if sc_ov (re_L M k g u e np q).1 k g e q (re_tm M k g u e) (re_ct M k g u e np) = 0 then 0 else 1), .int ((sc_om ((re_L M k g u e np q).1) k g e q (re_tm M k g u e) (re_ct M k g u e np)) k 13), .ref (sk_ad O k)] := by
                refine k_iadd C dX3_rateElement_194 ?_
                refine k_puti C (j := 13) (ty := .int) tyX3 kcl_X3 tyX3_ok nmX3 fl_X3_59 hk.1 (by decide) rfl rfl (by decide +kernel) rfl rfl dX3_rateElement_195 ?_
                refine k_iload C 8 dX3_rateElement_198 rfl ?_
                refine k_aloadn C 0 dX3_rateElement_200 rfl ?_
                refine k_getr C (j := 0) (k' := k + 1) kcl_X3 fl_X3_9 hk.1 (by decide) rfl dX3_rateElement_201 ?_
                refine k_iload C 11 dX3_rateElement_204 rfl ?_
                refine k_ialdn C (3 * e + q) hk.2.1 (sk_nadd (sk_nmul (rfl : ((3) : Int32) = nI 3) rfl) rfl) (by omega) dX3_rateElement_206 ?_
                refine k_top (re_v (re_L M k g u e np q).1 k g e q (M (g + 1) e) (re_tm M k g u e) (re_ct M k g u e np)) (by rw [sk_ne (by omega), sk_ne (by omega), sk_sm]) ?_
                refine k_iadd C dX3_rateElement_207 ?_
                refine k_istore C [1, 2, 3, 4, 5, 6, 7, 8, 0, 9, 10, 11, 12, 13] [(0, .ref (sk_ad O k)), (1, .ref (sk_ad O g)), (2, .int (nI e)), (3, .ref (sk_ad O u)), (4, .int (M (g + 1) e)), (5, .int (M (g + 2) e)), (6, .int (re_tm M k g u e)), (7, .int (re_ct M k g u e np)), (8, .int (((re_L M k g u e np q).2.1) + (re_v (re_L M k g u e np q).1 k g e q (M (g + 1) e) (re_tm M k g u e) (re_ct M k g u e np)))), (9, .int ((re_L M k g u e np q).2.2)), (10, .int (nI q)), (11, .int (((3) * (nI e)) + (nI q))), (12, .int (sc_ov ((re_L M k g u e np q).1) k g e q (re_tm M k g u e) (re_ct M k g u e np))), (13, .int (re_w (re_L M k g u e np q).1 k g e q (M (g + 1) e) (re_tm M k g u e) (re_ct M k g u e np)))] dX3_rateElement_208 (by decide) rfl ?_
                refine k_iload C 9 dX3_rateElement_210 rfl ?_
                refine k_aloadn C 0 dX3_rateElement_212 rfl ?_
                refine k_getr C (j := 0) (k' := k + 1) kcl_X3 fl_X3_9 hk.1 (by decide) rfl dX3_rateElement_213 ?_
                refine k_iload C 11 dX3_rateElement_216 rfl ?_
                refine k_ialdn C (3 * e + q) hk.2.1 (sk_nadd (sk_nmul (rfl : ((3) : Int32) = nI 3) rfl) rfl) (by omega) dX3_rateElement_218 ?_
                refine k_top (re_v (re_L M k g u e np q).1 k g e q (M (g + 1) e) (re_tm M k g u e) (re_ct M k g u e np)) (by rw [sk_ne (by omega), sk_ne (by omega), sk_sm]) ?_
                refine k_max C mm_X3_122 sta_max ini_java_lang_Math cod_max ⟨by decide, Nat.le_of_ble_eq_true rfl, by decide, by decide⟩ dX3_rateElement_219 ?_
                refine k_istore C [1, 2, 3, 4, 5, 6, 7, 8, 9, 0, 10, 11, 12, 13] [(0, .ref (sk_ad O k)), (1, .ref (sk_ad O g)), (2, .int (nI e)), (3, .ref (sk_ad O u)), (4, .int (M (g + 1) e)), (5, .int (M (g + 2) e)), (6, .int (re_tm M k g u e)), (7, .int (re_ct M k g u e np)), (8, .int (((re_L M k g u e np q).2.1) + (re_v (re_L M k g u e np q).1 k g e q (M (g + 1) e) (re_tm M k g u e) (re_ct M k g u e np)))), (9, .int (if ((re_L M k g u e np q).2.2) < (re_v (re_L M k g u e np q).1 k g e q (M (g + 1) e) (re_tm M k g u e) (re_ct M k g u e np)) then (re_v (re_L M k g u e np q).1 k g e q (M (g + 1) e) (re_tm M k g u e) (re_ct M k g u e np)) else ((re_L M k g u e np q).2.2))), (10, .int (nI q)), (11, .int (((3) * (nI e)) + (nI q))), (12, .int (sc_ov ((re_L M k g u e np q).1) k g e q (re_tm M k g u e) (re_ct M k g u e np))), (13, .int (re_w (re_L M k g u e np q).1 k g e q (M (g + 1) e) (re_tm M k g u e) (re_ct M k g u e np)))] dX3_rateElement_222 (by decide) rfl ?_
                refine k_iinc C 10 (nI (q + 1)) [1, 2, 3, 4, 5, 6, 7, 8, 9, 10, 0, 11, 12, 13] [(0, .ref (sk_ad O k)), (1, .ref (sk_ad O g)), (2, .int (nI e)), (3, .ref (sk_ad O u)), (4, .int (M (g + 1) e)), (5, .int (M (g + 2) e)), (6, .int (re_tm M k g u e)), (7, .int (re_ct M k g u e np)), (8, .int (((re_L M k g u e np q).2.1) + (re_v (re_L M k g u e np q).1 k g e q (M (g + 1) e) (re_tm M k g u e) (re_ct M k g u e np)))), (9, .int (if ((re_L M k g u e np q).2.2) < (re_v (re_L M k g u e np q).1 k g e q (M (g + 1) e) (re_tm M k g u e) (re_ct M k g u e np)) then (re_v (re_L M k g u e np q).1 k g e q (M (g + 1) e) (re_tm M k g u e) (re_ct M k g u e np)) else ((re_L M k g u e np q).2.2))), (10, .int (nI (q + 1))), (11, .int (((3) * (nI e)) + (nI q))), (12, .int (sc_ov ((re_L M k g u e np q).1) k g e q (re_tm M k g u e) (re_ct M k g u e np))), (13, .int (re_w (re_L M k g u e np q).1 k g e q (M (g + 1) e) (re_tm M k g u e) (re_ct M k g u e np)))] dX3_rateElement_224 rfl (nI_add _ _) (by decide) rfl ?_
                refine k_goto C 78 dX3_rateElement_227 (by decide) ?_
                refine k_sub [0, 1, 2, 3, 4, 5, 6, 7, 8, 9, 10] (lv' := [(0, .ref (sk_ad O k)), (1, .ref (sk_ad O g)), (2, .int (nI e)), (3, .ref (sk_ad O u)), (4, .int (M (g + 1) e)), (5, .int (M (g + 2) e)), (6, .int (re_tm M k g u e)), (7, .int (re_ct M k g u e np)), (8, .int (((re_L M k g u e np q).2.1) + (re_v (re_L M k g u e np q).1 k g e q (M (g + 1) e) (re_tm M k g u e) (re_ct M k g u e np)))), (9, .int (if ((re_L M k g u e np q).2.2) < (re_v (re_L M k g u e np q).1 k g e q (M (g + 1) e) (re_tm M k g u e) (re_ct M k g u e np)) then (re_v (re_L M k g u e np q).1 k g e q (M (g + 1) e) (re_tm M k g u e) (re_ct M k g u e np)) else ((re_L M k g u e np q).2.2))), (10, .int (nI (q + 1)))]) rfl ?_
                exact ih78 (by omega)
              refine k_zeq C 193 dX3_rateElement_186 (by decide) (fun c186_15 => ?_) (fun c186_15 => ?_)
              ·
                refine k_iconst C (0) dX3_rateElement_193 (by decide) ?_
                exact k_eq rfl rfl rfl (by rw [if_pos c186_15]) J194
              ·
                refine k_iconst C (1) dX3_rateElement_189 (by decide) ?_
                refine k_goto C 194 dX3_rateElement_190 (by decide) ?_
                exact k_eq rfl rfl rfl (by rw [if_neg c186_15]) J194
            refine k_cne C 167 dX3_rateElement_154 (by decide) (fun c154_16 => ?_) (fun c154_16 => ?_)
            ·
              refine k_iload C 13 dX3_rateElement_167 rfl ?_
              exact k_eq rfl rfl rfl (by rw [re_v, if_neg c154_16]) J169
            ·
              refine k_iload C 13 dX3_rateElement_157 rfl ?_
              refine k_bipush C (70) dX3_rateElement_159 (by decide) ?_
              refine k_si C (as := [.int (re_w (re_L M k g u e np q).1 k g e q (M (g + 1) e) (re_tm M k g u e) (re_ct M k g u e np)), .int (70)]) yvX3_percent vsX3_percent ml_X3_89 (m_X3_percent l C.2.2.2.1 (sc_om ((re_L M k g u e np q).1) k g e q (re_tm M k g u e) (re_ct M k g u e np)) (x := re_w (re_L M k g u e np q).1 k g e q (M (g + 1) e) (re_tm M k g u e) (re_ct M k g u e np)) (y := (70))) rfl rfl (Nat.le_of_ble_eq_true rfl) (by decide) dX3_rateElement_161 (fun x161_17 M161_17 h161_17 => ?_)
              rw [h161_17.1, h161_17.2]
              refine k_goto C 169 dX3_rateElement_164 (by decide) ?_
              exact k_eq rfl rfl rfl (by rw [re_v, if_pos c154_16]) J169
          refine k_cle C 117 dX3_rateElement_110 (by decide) (fun c110_18 => ?_) (fun c110_18 => ?_)
          ·
            refine k_iload C 4 dX3_rateElement_117 rfl ?_
            refine k_aloadn C 1 dX3_rateElement_119 rfl ?_
            refine k_getr C (j := 5) (k' := g + 6) kcl_X2 fl_X3_109 hg.1 (by decide) rfl dX3_rateElement_120 ?_
            refine k_iload C 11 dX3_rateElement_123 rfl ?_
            refine k_ialdn C (3 * e + q) hg.2.2.2.2.2.2.1 (sk_nadd (sk_nmul (rfl : ((3) : Int32) = nI 3) rfl) rfl) (by omega) dX3_rateElement_125 ?_
            refine k_aloadn C 1 dX3_rateElement_126 rfl ?_
            refine k_getr C (j := 6) (k' := g + 7) kcl_X2 fl_X3_112 hg.1 (by decide) rfl dX3_rateElement_127 ?_
            refine k_iload C 11 dX3_rateElement_130 rfl ?_
            refine k_ialdn C (3 * e + q) hg.2.2.2.2.2.2.2.1 (sk_nadd (sk_nmul (rfl : ((3) : Int32) = nI 3) rfl) rfl) (by omega) dX3_rateElement_132 ?_
            refine k_aloadn C 1 dX3_rateElement_133 rfl ?_
            refine k_getr C (j := 7) (k' := g + 8) kcl_X2 fl_X3_115 hg.1 (by decide) rfl dX3_rateElement_134 ?_
            refine k_iload C 11 dX3_rateElement_137 rfl ?_
            refine k_ialdn C (3 * e + q) hg.2.2.2.2.2.2.2.2.1 (sk_nadd (sk_nmul (rfl : ((3) : Int32) = nI 3) rfl) rfl) (by omega) dX3_rateElement_139 ?_
            refine k_si C (as := [.int (M (g + 1) e), .int ((sc_om ((re_L M k g u e np q).1) k g e q (re_tm M k g u e) (re_ct M k g u e np)) (g + 6) (3 * e + q)), .int ((sc_om ((re_L M k g u e np q).1) k g e q (re_tm M k g u e) (re_ct M k g u e np)) (g + 7) (3 * e + q)), .int ((sc_om ((re_L M k g u e np q).1) k g e q (re_tm M k g u e) (re_ct M k g u e np)) (g + 8) (3 * e + q))]) yvX3_partWorth vsX3_partWorth ml_X3_118 (m_X3_partWorth l C.2.2.2.1 (sc_om ((re_L M k g u e np q).1) k g e q (re_tm M k g u e) (re_ct M k g u e np)) (ty := M (g + 1) e) (kd := (sc_om ((re_L M k g u e np q).1) k g e q (re_tm M k g u e) (re_ct M k g u e np)) (g + 6) (3 * e + q)) (tu := (sc_om ((re_L M k g u e np q).1) k g e q (re_tm M k g u e) (re_ct M k g u e np)) (g + 7) (3 * e + q)) (ca := (sc_om ((re_L M k g u e np q).1) k g e q (re_tm M k g u e) (re_ct M k g u e np)) (g + 8) (3 * e + q))) rfl rfl (Nat.le_of_ble_eq_true rfl) (by decide) dX3_rateElement_140 (fun x140_19 M140_19 h140_19 => ?_)
            rw [h140_19.1, h140_19.2]
            exact k_eq rfl rfl rfl (by rw [re_w, if_neg (Int32.not_lt.mpr c110_18)]) J143
          ·
            refine k_iconst C (0) dX3_rateElement_113 (by decide) ?_
            refine k_goto C 143 dX3_rateElement_114 (by decide) ?_
            exact k_eq rfl rfl rfl (by rw [re_w, if_pos (Int32.not_le.mp c110_18)]) J143
      exact L78 0 (Nat.zero_le _)
    refine k_cle C 66 dX3_rateElement_49 (by decide) (fun c49_20 => ?_) (fun c49_20 => ?_)
    ·
      have nc49_20 : np ≤ 1 := (sk_eI (a := np) (b := 1) hp (rfl : ((1) : Int32) = nI 1) (by omega) (by omega)).mp c49_20
      refine k_iconst C (0) dX3_rateElement_66 (by decide) ?_
      exact k_eq rfl rfl rfl (by rw [re_ct, if_neg (show ¬ (1 < np ∧ ¬ re_a M k g u e np k 11 ≤ re_a M k g u e np u 1) from fun h => absurd h.1 (by omega))]) J67
    ·
      have nc49_20 : ¬ (np ≤ 1) := fun h => c49_20 ((sk_eI (a := np) (b := 1) hp (rfl : ((1) : Int32) = nI 1) (by omega) (by omega)).mpr h)
      refine k_aloadn C 0 dX3_rateElement_52 rfl ?_
      refine k_geti C (j := 11) kcl_X3 fl_X3_52 hk.1 (by decide) rfl dX3_rateElement_53 ?_
      refine k_aloadn C 3 dX3_rateElement_56 rfl ?_
      refine k_iconst C (1) dX3_rateElement_57 (by decide) ?_
      refine k_ialdn C 1 hu (rfl : ((1) : Int32) = nI 1) (by omega) dX3_rateElement_58 ?_
      refine k_cle C 66 dX3_rateElement_59 (by decide) (fun c59_21 => ?_) (fun c59_21 => ?_)
      ·
        refine k_iconst C (0) dX3_rateElement_66 (by decide) ?_
        exact k_eq rfl rfl rfl (by rw [re_ct, if_neg (show ¬ (1 < np ∧ ¬ re_a M k g u e np k 11 ≤ re_a M k g u e np u 1) from fun h => h.2 c59_21)]) J67
      ·
        refine k_iconst C (1) dX3_rateElement_62 (by decide) ?_
        refine k_goto C 67 dX3_rateElement_63 (by decide) ?_
        exact k_eq rfl rfl rfl (by rw [re_ct, if_pos (show 1 < np ∧ ¬ re_a M k g u e np k 11 ≤ re_a M k g u e np u 1 from ⟨by omega, c59_21⟩)]) J67
  refine k_cle C 46 dX3_rateElement_28 (by decide) (fun c28_22 => ?_) (fun c28_22 => ?_)
  ·
    have nc28_22 : np ≤ 1 := (sk_eI (a := np) (b := 1) hp (rfl : ((1) : Int32) = nI 1) (by omega) (by omega)).mp c28_22
    exact k_eq (by rw [re_a, if_neg (show ¬ (1 < np ∧ re_tm M k g u e = 0) from fun h => absurd h.1 (by omega))]) rfl rfl rfl J46
  ·
    have nc28_22 : ¬ (np ≤ 1) := fun h => c28_22 ((sk_eI (a := np) (b := 1) hp (rfl : ((1) : Int32) = nI 1) (by omega) (by omega)).mpr h)
    refine k_iload C 6 dX3_rateElement_31 rfl ?_
    refine k_zne C 46 dX3_rateElement_33 (by decide) (fun c33_23 => ?_) (fun c33_23 => ?_)
    ·
      exact k_eq (by rw [re_a, if_neg (show ¬ (1 < np ∧ re_tm M k g u e = 0) from fun h => c33_23 h.2)]) rfl rfl rfl J46
    ·
      refine k_aloadn C 0 dX3_rateElement_36 rfl ?_
      refine k_dup C dX3_rateElement_37 rfl ?_
      refine k_geti C (j := 11) kcl_X3 fl_X3_52 hk.1 (by decide) rfl dX3_rateElement_38 ?_
      refine k_iconst C (1) dX3_rateElement_41 (by decide) ?_
      refine k_iadd C dX3_rateElement_42 ?_
      refine k_puti C (j := 11) (ty := .int) tyX3 kcl_X3 tyX3_ok nmX3 fl_X3_52 hk.1 (by decide) rfl rfl (by decide +kernel) rfl rfl dX3_rateElement_43 ?_
      exact k_eq (by rw [re_a, if_pos (show 1 < np ∧ re_tm M k g u e = 0 from ⟨by omega, c33_23⟩)]) rfl rfl rfl J46
