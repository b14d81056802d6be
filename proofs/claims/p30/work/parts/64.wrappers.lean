/-! The law: its guarded calls (printed by l2.py) -/
theorem clE_13 : Cond.classLink RL 13 "java/lang/IndexOutOfBoundsException" ∈ sk_tb := sk_wd 325 (by decide +kernel) (by decide +kernel)
theorem clE_16 : Cond.classLink RL 16 "java/lang/IllegalArgumentException" ∈ sk_tb := sk_wd 326 (by decide +kernel) (by decide +kernel)
theorem clE_22 : Cond.classLink RL 22 "java/lang/IllegalStateException" ∈ sk_tb := sk_wd 483 (by decide +kernel) (by decide +kernel)
theorem yg_tryPart : sk_yg yL_tryPart cL_tryPart 6 [(0, 9, 10, 13), (0, 9, 15, 16)] 5 := ⟨sk_wd 324 (by decide +kernel) (by decide +kernel), ini_SkateSheetLaw, by decide +kernel, by decide +kernel, sk_wd 323 (by decide +kernel) (by decide +kernel)⟩
set_option maxRecDepth 100000 in
theorem g_L_tryPart (l : Launch) {O : sk_O} (hO : sk_inj O) (M : sk_M) (k : Nat) (s e p w : Int32) (hk : sk_isX O k) (hw : st_wf M (k + 1)) (hst : l.stackTraces = false) : sk_K l yL_tryPart (Cond.codeWith yL_tryPart cL_tryPart 6 (some .int) [(0, 9, 10, 13), (0, 9, 15, 16)] :: sk_tb) ({ frames := 7, cells := 1, slots := 6, locals := 134 }) O [.ref (sk_ad O k), .int s, .int e, .int p, .int w] M 1 (sk_gq ["java/lang/IndexOutOfBoundsException", "java/lang/IllegalArgumentException"] [-9999001, -9999002] (fun r M' => (er_2 (st_hp M (k + 1) s e p) (¬ w < 0 ∧ ¬ 4 < w)) = 0 ∧ r = (x_pa M k s e p w) ∧ M' = (x_pm M k s w)) (fun E M' => ((er_2 (st_hp M (k + 1) s e p) (¬ w < 0 ∧ ¬ 4 < w)) = 1 ∧ E = "java/lang/IndexOutOfBoundsException" ∨ (er_2 (st_hp M (k + 1) s e p) (¬ w < 0 ∧ ¬ 4 < w)) = 2 ∧ E = "java/lang/IllegalArgumentException") ∧ M' = M)) := by
  refine sk_kh (by decide) ⟨rfl, rfl⟩ hO (Nat.le_of_ble_eq_true rfl) (fun X A Q C hSr hNx htab ret => ?_)
  show sk_W l X O A Q 6 0 0 M 0 [(0, .ref (sk_ad O k)), (1, .int s), (2, .int e), (3, .int p), (4, .int w)] []
  refine k_aloadn C 0 dL_tryPart_0 rfl ?_
  refine k_iloadn C 1 dL_tryPart_1 rfl ?_
  refine k_iloadn C 2 dL_tryPart_2 rfl ?_
  refine k_iloadn C 3 dL_tryPart_3 rfl ?_
  refine k_iload C 4 dL_tryPart_4 rfl ?_
  refine k_xi C hSr (as := [.int s, .int e, .int p, .int w]) yvX7_part viX7_part ml_L_7 (m_X7_part l hO M k s e p w hk hw hst) hk.1 rfl rfl rfl (Nat.le_of_ble_eq_true rfl) (by decide) dL_tryPart_6 (fun E9 M9 h9 => ?_) (fun r9 M9 h9 => ?_)
  · have hm : E9 = "java/lang/IndexOutOfBoundsException" ∨ E9 = "java/lang/IllegalArgumentException" := Or.imp (fun z => z.2) (fun z => z.2) h9.1
    rcases hm with rfl | rfl
    · refine k_catch C hNx htab (by decide) 0 rfl (fun z hz => absurd hz (by simp)) ⟨by decide, by decide⟩ (by decide) clE_13 (fun q9 => ?_)
      refine k_astore C [1, 2, 3, 4, 5, 0] [(0, .ref (sk_ad O k)), (1, .int s), (2, .int e), (3, .int p), (4, .int w), (5, .ref q9)] dL_tryPart_10 (by decide) rfl ?_
      refine k_ldc C kc_L_15 dL_tryPart_12 ?_
      exact ret _ _ _ _ _ _ (by decide) (by decide) dL_tryPart_14 ⟨1, 0, Or.inr ⟨0, _, rfl, rfl, h9⟩, rfl⟩
    · refine k_catch C hNx htab (by decide) 1 rfl (fun z hz => by
          rcases (by simpa using hz : z = (0, 9, 10, 13)) with rfl
          · exact ⟨by decide, "java/lang/IndexOutOfBoundsException", clE_13, by decide, by decide⟩
          ) ⟨by decide, by decide⟩ (by decide) clE_16 (fun q9 => ?_)
      refine k_astore C [1, 2, 3, 4, 5, 0] [(0, .ref (sk_ad O k)), (1, .int s), (2, .int e), (3, .int p), (4, .int w), (5, .ref q9)] dL_tryPart_15 (by decide) rfl ?_
      refine k_ldc C kc_L_18 dL_tryPart_17 ?_
      exact ret _ _ _ _ _ _ (by decide) (by decide) dL_tryPart_19 ⟨2, 0, Or.inr ⟨1, _, rfl, rfl, h9⟩, rfl⟩
  · exact ret _ _ _ _ _ _ (by decide) (by decide) dL_tryPart_9 ⟨0, r9, Or.inl ⟨rfl, h9⟩, rfl⟩
theorem yg_tryCall : sk_yg yL_tryCall cL_tryCall 6 [(0, 9, 10, 13), (0, 9, 15, 16), (0, 9, 20, 22)] 5 := ⟨sk_wd 482 (by decide +kernel) (by decide +kernel), ini_SkateSheetLaw, by decide +kernel, by decide +kernel, sk_wd 481 (by decide +kernel) (by decide +kernel)⟩
set_option maxRecDepth 100000 in
theorem g_L_tryCall (l : Launch) {O : sk_O} (hO : sk_inj O) (M : sk_M) (k : Nat) (s e p v : Int32) (hk : sk_isX O k) (o c : Nat) (ho : M (k + 44) 1 = nI o) (hc : M (k + 44) 2 = nI c) (ho14 : o < 14) (hc14 : c ≤ 14) (hw : st_wf M (k + 1)) (hst : l.stackTraces = false) : sk_K l yL_tryCall (Cond.codeWith yL_tryCall cL_tryCall 6 (some .int) [(0, 9, 10, 13), (0, 9, 15, 16), (0, 9, 20, 22)] :: sk_tb) ({ frames := 8, cells := 1, slots := 6, locals := 170 }) O [.ref (sk_ad O k), .int s, .int e, .int p, .int v] M 1 (sk_gq ["java/lang/IndexOutOfBoundsException", "java/lang/IllegalArgumentException", "java/lang/IllegalStateException"] [-9999001, -9999002, -9999003] (fun r M' => (x_ck M (k + 1) s e p v) = 0 ∧ r = (x_re M k o c (st_pg (k + 1) s + 8) (3 * e.toNatClampNeg + p.toNatClampNeg)) ∧ M' = (if st_cc (x_re M k o c) (k + 1) s e p v then sk_ms (x_re M k o c) (st_pg (k + 1) s + 8) (3 * e.toNatClampNeg + p.toNatClampNeg) v else x_re M k o c)) (fun E M' => ((x_ck M (k + 1) s e p v) = 1 ∧ E = "java/lang/IndexOutOfBoundsException" ∨ (x_ck M (k + 1) s e p v) = 2 ∧ E = "java/lang/IllegalArgumentException" ∨ (x_ck M (k + 1) s e p v) = 3 ∧ E = "java/lang/IllegalStateException") ∧ M' = M)) := by
  refine sk_kh (by decide) ⟨rfl, rfl⟩ hO (Nat.le_of_ble_eq_true rfl) (fun X A Q C hSr hNx htab ret => ?_)
  show sk_W l X O A Q 6 0 0 M 0 [(0, .ref (sk_ad O k)), (1, .int s), (2, .int e), (3, .int p), (4, .int v)] []
  refine k_aloadn C 0 dL_tryCall_0 rfl ?_
  refine k_iloadn C 1 dL_tryCall_1 rfl ?_
  refine k_iloadn C 2 dL_tryCall_2 rfl ?_
  refine k_iloadn C 3 dL_tryCall_3 rfl ?_
  refine k_iload C 4 dL_tryCall_4 rfl ?_
  refine k_xi C hSr (as := [.int s, .int e, .int p, .int v]) yvX7_call viX7_call ml_L_19 (m_X7_call l hO M k s e p v hk o c ho hc ho14 hc14 hw hst) hk.1 rfl rfl rfl (Nat.le_of_ble_eq_true rfl) (by decide) dL_tryCall_6 (fun E9 M9 h9 => ?_) (fun r9 M9 h9 => ?_)
  · have hm : E9 = "java/lang/IndexOutOfBoundsException" ∨ E9 = "java/lang/IllegalArgumentException" ∨ E9 = "java/lang/IllegalStateException" := Or.imp (fun z => z.2) (Or.imp (fun z => z.2) (fun z => z.2)) h9.1
    rcases hm with rfl | rfl | rfl
    · refine k_catch C hNx htab (by decide) 0 rfl (fun z hz => absurd hz (by simp)) ⟨by decide, by decide⟩ (by decide) clE_13 (fun q9 => ?_)
      refine k_astore C [1, 2, 3, 4, 5, 0] [(0, .ref (sk_ad O k)), (1, .int s), (2, .int e), (3, .int p), (4, .int v), (5, .ref q9)] dL_tryCall_10 (by decide) rfl ?_
      refine k_ldc C kc_L_15 dL_tryCall_12 ?_
      exact ret _ _ _ _ _ _ (by decide) (by decide) dL_tryCall_14 ⟨1, 0, Or.inr ⟨0, _, rfl, rfl, h9⟩, rfl⟩
    · refine k_catch C hNx htab (by decide) 1 rfl (fun z hz => by
          rcases (by simpa using hz : z = (0, 9, 10, 13)) with rfl
          · exact ⟨by decide, "java/lang/IndexOutOfBoundsException", clE_13, by decide, by decide⟩
          ) ⟨by decide, by decide⟩ (by decide) clE_16 (fun q9 => ?_)
      refine k_astore C [1, 2, 3, 4, 5, 0] [(0, .ref (sk_ad O k)), (1, .int s), (2, .int e), (3, .int p), (4, .int v), (5, .ref q9)] dL_tryCall_15 (by decide) rfl ?_
      refine k_ldc C kc_L_18 dL_tryCall_17 ?_
      exact ret _ _ _ _ _ _ (by decide) (by decide) dL_tryCall_19 ⟨2, 0, Or.inr ⟨1, _, rfl, rfl, h9⟩, rfl⟩
    · refine k_catch C hNx htab (by decide) 2 rfl (fun z hz => by
          rcases (by simpa using hz : z = (0, 9, 10, 13) ∨ z = (0, 9, 15, 16)) with rfl | rfl
          · exact ⟨by decide, "java/lang/IndexOutOfBoundsException", clE_13, by decide, by decide⟩
          · exact ⟨by decide, "java/lang/IllegalArgumentException", clE_16, by decide, by decide⟩
          ) ⟨by decide, by decide⟩ (by decide) clE_22 (fun q9 => ?_)
      refine k_astore C [1, 2, 3, 4, 5, 0] [(0, .ref (sk_ad O k)), (1, .int s), (2, .int e), (3, .int p), (4, .int v), (5, .ref q9)] dL_tryCall_20 (by decide) rfl ?_
      refine k_ldc C kc_L_24 dL_tryCall_22 ?_
      exact ret _ _ _ _ _ _ (by decide) (by decide) dL_tryCall_24 ⟨3, 0, Or.inr ⟨2, _, rfl, rfl, h9⟩, rfl⟩
  · exact ret _ _ _ _ _ _ (by decide) (by decide) dL_tryCall_9 ⟨0, r9, Or.inl ⟨rfl, h9⟩, rfl⟩
theorem yg_tryIfCalled : sk_yg yL_tryIfCalled cL_tryIfCalled 6 [(0, 9, 10, 13), (0, 9, 15, 16), (0, 9, 20, 22)] 5 := ⟨sk_wd 545 (by decide +kernel) (by decide +kernel), ini_SkateSheetLaw, by decide +kernel, by decide +kernel, sk_wd 544 (by decide +kernel) (by decide +kernel)⟩
set_option maxRecDepth 100000 in
theorem g_L_tryIfCalled (l : Launch) {O : sk_O} (hO : sk_inj O) (M : sk_M) (k : Nat) (s e p v : Int32) (hk : sk_isX O k) (hw : st_wf M (k + 1)) (hst : l.stackTraces = false) : sk_K l yL_tryIfCalled (Cond.codeWith yL_tryIfCalled cL_tryIfCalled 6 (some .int) [(0, 9, 10, 13), (0, 9, 15, 16), (0, 9, 20, 22)] :: sk_tb) ({ frames := 8, cells := 1, slots := 6, locals := 132 }) O [.ref (sk_ad O k), .int s, .int e, .int p, .int v] M 1 (sk_gq ["java/lang/IndexOutOfBoundsException", "java/lang/IllegalArgumentException", "java/lang/IllegalStateException"] [-9999001, -9999002, -9999003] (fun r M' => (x_ck M (k + 1) s e p v) = 0 ∧ r = (x_ic M k s e p v (k + 738) 14 + x_ic M k s e p v (k + 738) 15 - x_ic M k s e p v (k + 738) 16) ∧ M' = (x_ic M k s e p v)) (fun E M' => ((x_ck M (k + 1) s e p v) = 1 ∧ E = "java/lang/IndexOutOfBoundsException" ∨ (x_ck M (k + 1) s e p v) = 2 ∧ E = "java/lang/IllegalArgumentException" ∨ (x_ck M (k + 1) s e p v) = 3 ∧ E = "java/lang/IllegalStateException") ∧ M' = M)) := by
  refine sk_kh (by decide) ⟨rfl, rfl⟩ hO (Nat.le_of_ble_eq_true rfl) (fun X A Q C hSr hNx htab ret => ?_)
  show sk_W l X O A Q 6 0 0 M 0 [(0, .ref (sk_ad O k)), (1, .int s), (2, .int e), (3, .int p), (4, .int v)] []
  refine k_aloadn C 0 dL_tryIfCalled_0 rfl ?_
  refine k_iloadn C 1 dL_tryIfCalled_1 rfl ?_
  refine k_iloadn C 2 dL_tryIfCalled_2 rfl ?_
  refine k_iloadn C 3 dL_tryIfCalled_3 rfl ?_
  refine k_iload C 4 dL_tryIfCalled_4 rfl ?_
  refine k_xi C hSr (as := [.int s, .int e, .int p, .int v]) yvX7_ifCalled viX7_ifCalled ml_L_25 (m_X7_ifCalled l hO M k s e p v hk hw hst) hk.1 rfl rfl rfl (Nat.le_of_ble_eq_true rfl) (by decide) dL_tryIfCalled_6 (fun E9 M9 h9 => ?_) (fun r9 M9 h9 => ?_)
  · have hm : E9 = "java/lang/IndexOutOfBoundsException" ∨ E9 = "java/lang/IllegalArgumentException" ∨ E9 = "java/lang/IllegalStateException" := Or.imp (fun z => z.2) (Or.imp (fun z => z.2) (fun z => z.2)) h9.1
    rcases hm with rfl | rfl | rfl
    · refine k_catch C hNx htab (by decide) 0 rfl (fun z hz => absurd hz (by simp)) ⟨by decide, by decide⟩ (by decide) clE_13 (fun q9 => ?_)
      refine k_astore C [1, 2, 3, 4, 5, 0] [(0, .ref (sk_ad O k)), (1, .int s), (2, .int e), (3, .int p), (4, .int v), (5, .ref q9)] dL_tryIfCalled_10 (by decide) rfl ?_
      refine k_ldc C kc_L_15 dL_tryIfCalled_12 ?_
      exact ret _ _ _ _ _ _ (by decide) (by decide) dL_tryIfCalled_14 ⟨1, 0, Or.inr ⟨0, _, rfl, rfl, h9⟩, rfl⟩
    · refine k_catch C hNx htab (by decide) 1 rfl (fun z hz => by
          rcases (by simpa using hz : z = (0, 9, 10, 13)) with rfl
          · exact ⟨by decide, "java/lang/IndexOutOfBoundsException", clE_13, by decide, by decide⟩
          ) ⟨by decide, by decide⟩ (by decide) clE_16 (fun q9 => ?_)
      refine k_astore C [1, 2, 3, 4, 5, 0] [(0, .ref (sk_ad O k)), (1, .int s), (2, .int e), (3, .int p), (4, .int v), (5, .ref q9)] dL_tryIfCalled_15 (by decide) rfl ?_
      refine k_ldc C kc_L_18 dL_tryIfCalled_17 ?_
      exact ret _ _ _ _ _ _ (by decide) (by decide) dL_tryIfCalled_19 ⟨2, 0, Or.inr ⟨1, _, rfl, rfl, h9⟩, rfl⟩
    · refine k_catch C hNx htab (by decide) 2 rfl (fun z hz => by
          rcases (by simpa using hz : z = (0, 9, 10, 13) ∨ z = (0, 9, 15, 16)) with rfl | rfl
          · exact ⟨by decide, "java/lang/IndexOutOfBoundsException", clE_13, by decide, by decide⟩
          · exact ⟨by decide, "java/lang/IllegalArgumentException", clE_16, by decide, by decide⟩
          ) ⟨by decide, by decide⟩ (by decide) clE_22 (fun q9 => ?_)
      refine k_astore C [1, 2, 3, 4, 5, 0] [(0, .ref (sk_ad O k)), (1, .int s), (2, .int e), (3, .int p), (4, .int v), (5, .ref q9)] dL_tryIfCalled_20 (by decide) rfl ?_
      refine k_ldc C kc_L_24 dL_tryIfCalled_22 ?_
      exact ret _ _ _ _ _ _ (by decide) (by decide) dL_tryIfCalled_24 ⟨3, 0, Or.inr ⟨2, _, rfl, rfl, h9⟩, rfl⟩
  · exact ret _ _ _ _ _ _ (by decide) (by decide) dL_tryIfCalled_9 ⟨0, r9, Or.inl ⟨rfl, h9⟩, rfl⟩
theorem yg_tryReview : sk_yg yL_tryReview cL_tryReview 5 [(0, 7, 8, 13)] 4 := ⟨sk_wd 872 (by decide +kernel) (by decide +kernel), ini_SkateSheetLaw, by decide +kernel, by decide +kernel, sk_wd 871 (by decide +kernel) (by decide +kernel)⟩
set_option maxRecDepth 100000 in
theorem g_L_tryReview (l : Launch) {O : sk_O} (hO : sk_inj O) (M : sk_M) (k : Nat) (s e b : Int32) (hk : sk_isX O k) (o c : Nat) (ho : M (k + 44) 1 = nI o) (hc : M (k + 44) 2 = nI c) (ho14 : o < 14) (hc14 : c ≤ 14) (hw : st_wf M (k + 1)) (hst : l.stackTraces = false) : sk_K l yL_tryReview (Cond.codeWith yL_tryReview cL_tryReview 5 (some .int) [(0, 7, 8, 13)] :: sk_tb) ({ frames := 7, cells := 1, slots := 6, locals := 168 }) O [.ref (sk_ad O k), .int s, .int e, .int b] M 1 (sk_gq ["java/lang/IndexOutOfBoundsException"] [-9999001] (fun r M' => (er_1 (st_he M (k + 1) s e)) = 0 ∧ r = (st_rv (if st_he (x_re M k o c) (k + 1) s e then sk_ms (x_re M k o c) (st_pg (k + 1) s + 5) e.toNatClampNeg (if b = 0 then 0 else 1) else x_re M k o c) (k + 1)) ∧ M' = (if st_he (x_re M k o c) (k + 1) s e then sk_ms (x_re M k o c) (st_pg (k + 1) s + 5) e.toNatClampNeg (if b = 0 then 0 else 1) else x_re M k o c)) (fun E M' => ((er_1 (st_he M (k + 1) s e)) = 1 ∧ E = "java/lang/IndexOutOfBoundsException") ∧ M' = M)) := by
  refine sk_kh (by decide) ⟨rfl, rfl⟩ hO (Nat.le_of_ble_eq_true rfl) (fun X A Q C hSr hNx htab ret => ?_)
  show sk_W l X O A Q 5 0 0 M 0 [(0, .ref (sk_ad O k)), (1, .int s), (2, .int e), (3, .int b)] []
  refine k_aloadn C 0 dL_tryReview_0 rfl ?_
  refine k_iloadn C 1 dL_tryReview_1 rfl ?_
  refine k_iloadn C 2 dL_tryReview_2 rfl ?_
  refine k_iloadn C 3 dL_tryReview_3 rfl ?_
  refine k_xi C hSr (as := [.int s, .int e, .int b]) yvX7_review viX7_review ml_L_28 (m_X7_review l hO M k s e b hk o c ho hc ho14 hc14 hw hst) hk.1 rfl rfl rfl (Nat.le_of_ble_eq_true rfl) (by decide) dL_tryReview_4 (fun E9 M9 h9 => ?_) (fun r9 M9 h9 => ?_)
  · have hm : E9 = "java/lang/IndexOutOfBoundsException" := h9.1.2
    subst hm
    refine k_catch C hNx htab (by decide) 0 rfl (fun z hz => absurd hz (by simp)) ⟨by decide, by decide⟩ (by decide) clE_13 (fun q9 => ?_)
    refine k_astore C [1, 2, 3, 4, 0] [(0, .ref (sk_ad O k)), (1, .int s), (2, .int e), (3, .int b), (4, .ref q9)] dL_tryReview_8 (by decide) rfl ?_
    refine k_ldc C kc_L_15 dL_tryReview_10 ?_
    exact ret _ _ _ _ _ _ (by decide) (by decide) dL_tryReview_12 ⟨1, 0, Or.inr ⟨0, _, rfl, rfl, h9⟩, rfl⟩
  · exact ret _ _ _ _ _ _ (by decide) (by decide) dL_tryReview_7 ⟨0, r9, Or.inl ⟨rfl, h9⟩, rfl⟩
theorem yg_tryFall : sk_yg yL_tryFall cL_tryFall 5 [(0, 7, 8, 13)] 4 := ⟨sk_wd 883 (by decide +kernel) (by decide +kernel), ini_SkateSheetLaw, by decide +kernel, by decide +kernel, sk_wd 882 (by decide +kernel) (by decide +kernel)⟩
set_option maxRecDepth 100000 in
theorem g_L_tryFall (l : Launch) {O : sk_O} (hO : sk_inj O) (M : sk_M) (k : Nat) (s e b : Int32) (hk : sk_isX O k) (o c : Nat) (ho : M (k + 44) 1 = nI o) (hc : M (k + 44) 2 = nI c) (ho14 : o < 14) (hc14 : c ≤ 14) (hw : st_wf M (k + 1)) (hst : l.stackTraces = false) : sk_K l yL_tryFall (Cond.codeWith yL_tryFall cL_tryFall 5 (some .int) [(0, 7, 8, 13)] :: sk_tb) ({ frames := 7, cells := 1, slots := 6, locals := 168 }) O [.ref (sk_ad O k), .int s, .int e, .int b] M 1 (sk_gq ["java/lang/IndexOutOfBoundsException"] [-9999001] (fun r M' => (er_1 (st_he M (k + 1) s e)) = 0 ∧ r = (sk_sum ((if st_he (x_re M k o c) (k + 1) s e then sk_ms (x_re M k o c) (st_pg (k + 1) s + 4) e.toNatClampNeg (if b = 0 then 0 else 1) else x_re M k o c) (st_pg (k + 1) s + 4)) (pg_n (if st_he (x_re M k o c) (k + 1) s e then sk_ms (x_re M k o c) (st_pg (k + 1) s + 4) e.toNatClampNeg (if b = 0 then 0 else 1) else x_re M k o c) (st_pg (k + 1) s))) ∧ M' = (if st_he (x_re M k o c) (k + 1) s e then sk_ms (x_re M k o c) (st_pg (k + 1) s + 4) e.toNatClampNeg (if b = 0 then 0 else 1) else x_re M k o c)) (fun E M' => ((er_1 (st_he M (k + 1) s e)) = 1 ∧ E = "java/lang/IndexOutOfBoundsException") ∧ M' = M)) := by
  refine sk_kh (by decide) ⟨rfl, rfl⟩ hO (Nat.le_of_ble_eq_true rfl) (fun X A Q C hSr hNx htab ret => ?_)
  show sk_W l X O A Q 5 0 0 M 0 [(0, .ref (sk_ad O k)), (1, .int s), (2, .int e), (3, .int b)] []
  refine k_aloadn C 0 dL_tryFall_0 rfl ?_
  refine k_iloadn C 1 dL_tryFall_1 rfl ?_
  refine k_iloadn C 2 dL_tryFall_2 rfl ?_
  refine k_iloadn C 3 dL_tryFall_3 rfl ?_
  refine k_xi C hSr (as := [.int s, .int e, .int b]) yvX7_fall viX7_fall ml_L_32 (m_X7_fall l hO M k s e b hk o c ho hc ho14 hc14 hw hst) hk.1 rfl rfl rfl (Nat.le_of_ble_eq_true rfl) (by decide) dL_tryFall_4 (fun E9 M9 h9 => ?_) (fun r9 M9 h9 => ?_)
  · have hm : E9 = "java/lang/IndexOutOfBoundsException" := h9.1.2
    subst hm
    refine k_catch C hNx htab (by decide) 0 rfl (fun z hz => absurd hz (by simp)) ⟨by decide, by decide⟩ (by decide) clE_13 (fun q9 => ?_)
    refine k_astore C [1, 2, 3, 4, 0] [(0, .ref (sk_ad O k)), (1, .int s), (2, .int e), (3, .int b), (4, .ref q9)] dL_tryFall_8 (by decide) rfl ?_
    refine k_ldc C kc_L_15 dL_tryFall_10 ?_
    exact ret _ _ _ _ _ _ (by decide) (by decide) dL_tryFall_12 ⟨1, 0, Or.inr ⟨0, _, rfl, rfl, h9⟩, rfl⟩
  · exact ret _ _ _ _ _ _ (by decide) (by decide) dL_tryFall_7 ⟨0, r9, Or.inl ⟨rfl, h9⟩, rfl⟩
theorem yg_tryScript : sk_yg yL_tryScript cL_tryScript 5 [(0, 6, 7, 16)] 3 := ⟨sk_wd 894 (by decide +kernel) (by decide +kernel), ini_SkateSheetLaw, by decide +kernel, by decide +kernel, sk_wd 893 (by decide +kernel) (by decide +kernel)⟩
set_option maxRecDepth 100000 in
theorem g_L_tryScript (l : Launch) {O : sk_O} (hO : sk_inj O) (M : sk_M) (k : Nat) (v : Int32) (x : Int64) (hk : sk_isX O k) (hw : st_wf M (k + 1)) (hst : l.stackTraces = false) : sk_K l yL_tryScript (Cond.codeWith yL_tryScript cL_tryScript 5 (some .int) [(0, 6, 7, 16)] :: sk_tb) ({ frames := 7, cells := 1, slots := 6, locals := 179 }) O [.ref (sk_ad O k), .int v, .long x] M 1 (sk_gq ["java/lang/IllegalArgumentException"] [-9999002] (rs_q M k v x) (fun E M' => E = "java/lang/IllegalArgumentException" ∧ ¬ rs_k v x ∧ M' = M)) := by
  refine sk_kh (by decide) ⟨rfl, rfl⟩ hO (Nat.le_of_ble_eq_true rfl) (fun X A Q C hSr hNx htab ret => ?_)
  show sk_W l X O A Q 5 0 0 M 0 [(0, .ref (sk_ad O k)), (1, .int v), (2, .long x)] []
  refine k_aloadn C 0 dL_tryScript_0 rfl ?_
  refine k_iloadn C 1 dL_tryScript_1 rfl ?_
  refine k_lloadn C 2 dL_tryScript_2 rfl ?_
  refine k_xi C hSr (as := [.int v, .long x]) yvX7_runScript viX7_runScript ml_L_35 (m_X7_runScript l hO M k v x hk hw hst) hk.1 rfl rfl rfl (Nat.le_of_ble_eq_true rfl) (by decide) dL_tryScript_3 (fun E9 M9 h9 => ?_) (fun r9 M9 h9 => ?_)
  · have hm : E9 = "java/lang/IllegalArgumentException" := h9.1
    subst hm
    refine k_catch C hNx htab (by decide) 0 rfl (fun z hz => absurd hz (by simp)) ⟨by decide, by decide⟩ (by decide) clE_16 (fun q9 => ?_)
    refine k_astore C [1, 2, 3, 0] [(0, .ref (sk_ad O k)), (1, .int v), (2, .long x), (4, .ref q9)] dL_tryScript_7 (by decide) rfl ?_
    refine k_ldc C kc_L_18 dL_tryScript_9 ?_
    exact ret _ _ _ _ _ _ (by decide) (by decide) dL_tryScript_11 ⟨1, 0, Or.inr ⟨0, _, rfl, rfl, h9⟩, rfl⟩
  · exact ret _ _ _ _ _ _ (by decide) (by decide) dL_tryScript_6 ⟨0, r9, Or.inl ⟨rfl, h9⟩, rfl⟩
theorem yg_trySimulate : sk_yg yL_trySimulate cL_trySimulate 5 [(0, 6, 7, 16)] 3 := ⟨sk_wd 929 (by decide +kernel) (by decide +kernel), ini_SkateSheetLaw, by decide +kernel, by decide +kernel, sk_wd 928 (by decide +kernel) (by decide +kernel)⟩
set_option maxRecDepth 100000 in
theorem g_L_trySimulate (l : Launch) {O : sk_O} (hO : sk_inj O) (M : sk_M) (k : Nat) (x : Int64) (v : Int32) (hk : sk_isX O k) (hw : st_wf M (k + 1)) (hst : l.stackTraces = false) : sk_K l yL_trySimulate (Cond.codeWith yL_trySimulate cL_trySimulate 5 (some .int) [(0, 6, 7, 16)] :: sk_tb) ({ frames := 7, cells := 1, slots := 6, locals := 158 }) O [.ref (sk_ad O k), .long x, .int v] M 1 (sk_gq ["java/lang/IllegalArgumentException"] [-9999002] (fun r M' => (er_1 (¬ v < 1 ∧ ¬ 60 < v)) = 0 ∧ r = (sk_sum (si_e M k x v.toNatClampNeg (k + 748)) (st_n (si_m M k x v.toNatClampNeg) (k + 751))) ∧ M' = (si_e M k x v.toNatClampNeg)) (fun E M' => ((er_1 (¬ v < 1 ∧ ¬ 60 < v)) = 1 ∧ E = "java/lang/IllegalArgumentException") ∧ M' = M)) := by
  refine sk_kh (by decide) ⟨rfl, rfl⟩ hO (Nat.le_of_ble_eq_true rfl) (fun X A Q C hSr hNx htab ret => ?_)
  show sk_W l X O A Q 5 0 0 M 0 [(0, .ref (sk_ad O k)), (1, .long x), (3, .int v)] []
  refine k_aloadn C 0 dL_trySimulate_0 rfl ?_
  refine k_lloadn C 1 dL_trySimulate_1 rfl ?_
  refine k_iloadn C 2 dL_trySimulate_2 rfl ?_
  refine k_xi C hSr (as := [.long x, .int v]) yvX7_simulate viX7_simulate ml_L_39 (m_X7_simulate l hO M k x v hk hw hst) hk.1 rfl rfl rfl (Nat.le_of_ble_eq_true rfl) (by decide) dL_trySimulate_3 (fun E9 M9 h9 => ?_) (fun r9 M9 h9 => ?_)
  · have hm : E9 = "java/lang/IllegalArgumentException" := h9.1.2
    subst hm
    refine k_catch C hNx htab (by decide) 0 rfl (fun z hz => absurd hz (by simp)) ⟨by decide, by decide⟩ (by decide) clE_16 (fun q9 => ?_)
    refine k_astore C [1, 2, 3, 0] [(0, .ref (sk_ad O k)), (1, .long x), (3, .int v), (4, .ref q9)] dL_trySimulate_7 (by decide) rfl ?_
    refine k_ldc C kc_L_18 dL_trySimulate_9 ?_
    exact ret _ _ _ _ _ _ (by decide) (by decide) dL_trySimulate_11 ⟨1, 0, Or.inr ⟨0, _, rfl, rfl, h9⟩, rfl⟩
  · exact ret _ _ _ _ _ _ (by decide) (by decide) dL_trySimulate_6 ⟨0, r9, Or.inl ⟨rfl, h9⟩, rfl⟩
theorem yg_tryAppend : sk_yg yL_tryAppend cL_tryAppend 3 [(0, 5, 6, 16), (0, 5, 10, 22)] 2 := ⟨sk_wd 560 (by decide +kernel) (by decide +kernel), ini_SkateSheetLaw, by decide +kernel, by decide +kernel, sk_wd 559 (by decide +kernel) (by decide +kernel)⟩
set_option maxRecDepth 100000 in
theorem g_L_tryAppend (l : Launch) {O : sk_O} (hO : sk_inj O) (M : sk_M) (k : Nat) (c : Int32) (hk : sk_isX O k) (n : Nat) (hn : M (k + 736) 1 = nI n) (hn2 : n ≤ 120) (hst : l.stackTraces = false) : sk_K l yL_tryAppend (Cond.codeWith yL_tryAppend cL_tryAppend 3 (some .int) [(0, 5, 6, 16), (0, 5, 10, 22)] :: sk_tb) ({ frames := 7, cells := 1, slots := 6, locals := 103 }) O [.ref (sk_ad O k), .int c] M 1 (sk_gq ["java/lang/IllegalArgumentException", "java/lang/IllegalStateException"] [-9999002, -9999003] (fun r M' => (er_2 (¬ c < 0 ∧ ¬ 255 < c) (n < 120)) = 0 ∧ r = (nI (n + 1)) ∧ M' = (sk_ms (sk_ms M (k + 736 + 1) n c) (k + 736) 1 (M (k + 736) 1 + 1))) (fun E M' => ((er_2 (¬ c < 0 ∧ ¬ 255 < c) (n < 120)) = 1 ∧ E = "java/lang/IllegalArgumentException" ∨ (er_2 (¬ c < 0 ∧ ¬ 255 < c) (n < 120)) = 2 ∧ E = "java/lang/IllegalStateException") ∧ M' = M)) := by
  refine sk_kh (by decide) ⟨rfl, rfl⟩ hO (Nat.le_of_ble_eq_true rfl) (fun X A Q C hSr hNx htab ret => ?_)
  show sk_W l X O A Q 3 0 0 M 0 [(0, .ref (sk_ad O k)), (1, .int c)] []
  refine k_aloadn C 0 dL_tryAppend_0 rfl ?_
  refine k_iloadn C 1 dL_tryAppend_1 rfl ?_
  refine k_xi C hSr (as := [.int c]) yvX7_append viX7_append ml_L_43 (m_X7_append l hO M k c hk n hn hn2 hst) hk.1 rfl rfl rfl (Nat.le_of_ble_eq_true rfl) (by decide) dL_tryAppend_2 (fun E9 M9 h9 => ?_) (fun r9 M9 h9 => ?_)
  · have hm : E9 = "java/lang/IllegalArgumentException" ∨ E9 = "java/lang/IllegalStateException" := Or.imp (fun z => z.2) (fun z => z.2) h9.1
    rcases hm with rfl | rfl
    · refine k_catch C hNx htab (by decide) 0 rfl (fun z hz => absurd hz (by simp)) ⟨by decide, by decide⟩ (by decide) clE_16 (fun q9 => ?_)
      refine k_astoren C [1, 2, 0] [(0, .ref (sk_ad O k)), (1, .int c), (2, .ref q9)] dL_tryAppend_6 (by decide) rfl ?_
      refine k_ldc C kc_L_18 dL_tryAppend_7 ?_
      exact ret _ _ _ _ _ _ (by decide) (by decide) dL_tryAppend_9 ⟨1, 0, Or.inr ⟨0, _, rfl, rfl, h9⟩, rfl⟩
    · refine k_catch C hNx htab (by decide) 1 rfl (fun z hz => by
          rcases (by simpa using hz : z = (0, 5, 6, 16)) with rfl
          · exact ⟨by decide, "java/lang/IllegalArgumentException", clE_16, by decide, by decide⟩
          ) ⟨by decide, by decide⟩ (by decide) clE_22 (fun q9 => ?_)
      refine k_astoren C [1, 2, 0] [(0, .ref (sk_ad O k)), (1, .int c), (2, .ref q9)] dL_tryAppend_10 (by decide) rfl ?_
      refine k_ldc C kc_L_24 dL_tryAppend_11 ?_
      exact ret _ _ _ _ _ _ (by decide) (by decide) dL_tryAppend_13 ⟨2, 0, Or.inr ⟨1, _, rfl, rfl, h9⟩, rfl⟩
  · exact ret _ _ _ _ _ _ (by decide) (by decide) dL_tryAppend_5 ⟨0, r9, Or.inl ⟨rfl, h9⟩, rfl⟩
theorem yg_tryAbout : sk_yg yL_tryAbout cL_tryAbout 3 [(0, 5, 6, 16)] 2 := ⟨sk_wd 578 (by decide +kernel) (by decide +kernel), ini_SkateSheetLaw, by decide +kernel, by decide +kernel, sk_wd 577 (by decide +kernel) (by decide +kernel)⟩
set_option maxRecDepth 100000 in
theorem g_L_tryAbout (l : Launch) {O : sk_O} (hO : sk_inj O) (M : sk_M) (k : Nat) (w : Int32) (hk : sk_isX O k) (hw : st_wf M (k + 1)) (hst : l.stackTraces = false) : sk_K l yL_tryAbout (Cond.codeWith yL_tryAbout cL_tryAbout 3 (some .int) [(0, 5, 6, 16)] :: sk_tb) ({ frames := 7, cells := 1, slots := 6, locals := 152 }) O [.ref (sk_ad O k), .int w] M 1 (sk_gq ["java/lang/IllegalArgumentException"] [-9999002] (fun r M' => (er_1 (¬ w < 0 ∧ ¬ 5 < w)) = 0 ∧ r = (x_ab M k w) ∧ M' = (x_am M k w)) (fun E M' => ((er_1 (¬ w < 0 ∧ ¬ 5 < w)) = 1 ∧ E = "java/lang/IllegalArgumentException") ∧ M' = M)) := by
  refine sk_kh (by decide) ⟨rfl, rfl⟩ hO (Nat.le_of_ble_eq_true rfl) (fun X A Q C hSr hNx htab ret => ?_)
  show sk_W l X O A Q 3 0 0 M 0 [(0, .ref (sk_ad O k)), (1, .int w)] []
  refine k_aloadn C 0 dL_tryAbout_0 rfl ?_
  refine k_iloadn C 1 dL_tryAbout_1 rfl ?_
  refine k_xi C hSr (as := [.int w]) yvX7_about viX7_about ml_L_47 (m_X7_about l hO M k w hk hw hst) hk.1 rfl rfl rfl (Nat.le_of_ble_eq_true rfl) (by decide) dL_tryAbout_2 (fun E9 M9 h9 => ?_) (fun r9 M9 h9 => ?_)
  · have hm : E9 = "java/lang/IllegalArgumentException" := h9.1.2
    subst hm
    refine k_catch C hNx htab (by decide) 0 rfl (fun z hz => absurd hz (by simp)) ⟨by decide, by decide⟩ (by decide) clE_16 (fun q9 => ?_)
    refine k_astoren C [1, 2, 0] [(0, .ref (sk_ad O k)), (1, .int w), (2, .ref q9)] dL_tryAbout_6 (by decide) rfl ?_
    refine k_ldc C kc_L_18 dL_tryAbout_7 ?_
    exact ret _ _ _ _ _ _ (by decide) (by decide) dL_tryAbout_9 ⟨1, 0, Or.inr ⟨0, _, rfl, rfl, h9⟩, rfl⟩
  · exact ret _ _ _ _ _ _ (by decide) (by decide) dL_tryAbout_5 ⟨0, r9, Or.inl ⟨rfl, h9⟩, rfl⟩
theorem yg_trySkater : sk_yg yL_trySkater cL_trySkater 4 [(0, 6, 7, 13), (0, 6, 11, 16)] 3 := ⟨sk_wd 624 (by decide +kernel) (by decide +kernel), ini_SkateSheetLaw, by decide +kernel, by decide +kernel, sk_wd 623 (by decide +kernel) (by decide +kernel)⟩
set_option maxRecDepth 100000 in
theorem g_L_trySkater (l : Launch) {O : sk_O} (hO : sk_inj O) (M : sk_M) (k : Nat) (s w : Int32) (hk : sk_isX O k) (hw : st_wf M (k + 1)) (hst : l.stackTraces = false) : sk_K l yL_trySkater (Cond.codeWith yL_trySkater cL_trySkater 4 (some .int) [(0, 6, 7, 13), (0, 6, 11, 16)] :: sk_tb) ({ frames := 7, cells := 1, slots := 6, locals := 154 }) O [.ref (sk_ad O k), .int s, .int w] M 1 (sk_gq ["java/lang/IndexOutOfBoundsException", "java/lang/IllegalArgumentException"] [-9999001, -9999002] (fun r M' => (er_2 (st_hs M (k + 1) s) (¬ w < 0 ∧ ¬ 7 < w)) = 0 ∧ r = (x_sk M k s w) ∧ M' = (if w = 5 then x_RK (x_R M k (st_pg (k + 1) s)) k else x_R M k (st_pg (k + 1) s))) (fun E M' => ((er_2 (st_hs M (k + 1) s) (¬ w < 0 ∧ ¬ 7 < w)) = 1 ∧ E = "java/lang/IndexOutOfBoundsException" ∨ (er_2 (st_hs M (k + 1) s) (¬ w < 0 ∧ ¬ 7 < w)) = 2 ∧ E = "java/lang/IllegalArgumentException") ∧ M' = M)) := by
  refine sk_kh (by decide) ⟨rfl, rfl⟩ hO (Nat.le_of_ble_eq_true rfl) (fun X A Q C hSr hNx htab ret => ?_)
  show sk_W l X O A Q 4 0 0 M 0 [(0, .ref (sk_ad O k)), (1, .int s), (2, .int w)] []
  refine k_aloadn C 0 dL_trySkater_0 rfl ?_
  refine k_iloadn C 1 dL_trySkater_1 rfl ?_
  refine k_iloadn C 2 dL_trySkater_2 rfl ?_
  refine k_xi C hSr (as := [.int s, .int w]) yvX7_skater viX7_skater ml_L_50 (m_X7_skater l hO M k s w hk hw hst) hk.1 rfl rfl rfl (Nat.le_of_ble_eq_true rfl) (by decide) dL_trySkater_3 (fun E9 M9 h9 => ?_) (fun r9 M9 h9 => ?_)
  · have hm : E9 = "java/lang/IndexOutOfBoundsException" ∨ E9 = "java/lang/IllegalArgumentException" := Or.imp (fun z => z.2) (fun z => z.2) h9.1
    rcases hm with rfl | rfl
    · refine k_catch C hNx htab (by decide) 0 rfl (fun z hz => absurd hz (by simp)) ⟨by decide, by decide⟩ (by decide) clE_13 (fun q9 => ?_)
      refine k_astoren C [1, 2, 3, 0] [(0, .ref (sk_ad O k)), (1, .int s), (2, .int w), (3, .ref q9)] dL_trySkater_7 (by decide) rfl ?_
      refine k_ldc C kc_L_15 dL_trySkater_8 ?_
      exact ret _ _ _ _ _ _ (by decide) (by decide) dL_trySkater_10 ⟨1, 0, Or.inr ⟨0, _, rfl, rfl, h9⟩, rfl⟩
    · refine k_catch C hNx htab (by decide) 1 rfl (fun z hz => by
          rcases (by simpa using hz : z = (0, 6, 7, 13)) with rfl
          · exact ⟨by decide, "java/lang/IndexOutOfBoundsException", clE_13, by decide, by decide⟩
          ) ⟨by decide, by decide⟩ (by decide) clE_16 (fun q9 => ?_)
      refine k_astoren C [1, 2, 3, 0] [(0, .ref (sk_ad O k)), (1, .int s), (2, .int w), (3, .ref q9)] dL_trySkater_11 (by decide) rfl ?_
      refine k_ldc C kc_L_18 dL_trySkater_12 ?_
      exact ret _ _ _ _ _ _ (by decide) (by decide) dL_trySkater_14 ⟨2, 0, Or.inr ⟨1, _, rfl, rfl, h9⟩, rfl⟩
  · exact ret _ _ _ _ _ _ (by decide) (by decide) dL_trySkater_6 ⟨0, r9, Or.inl ⟨rfl, h9⟩, rfl⟩
theorem yg_tryElement : sk_yg yL_tryElement cL_tryElement 5 [(0, 7, 8, 13), (0, 7, 13, 16)] 4 := ⟨sk_wd 640 (by decide +kernel) (by decide +kernel), ini_SkateSheetLaw, by decide +kernel, by decide +kernel, sk_wd 639 (by decide +kernel) (by decide +kernel)⟩
set_option maxRecDepth 100000 in
theorem g_L_tryElement (l : Launch) {O : sk_O} (hO : sk_inj O) (M : sk_M) (k : Nat) (s e w : Int32) (hk : sk_isX O k) (hw : st_wf M (k + 1)) (hst : l.stackTraces = false) : sk_K l yL_tryElement (Cond.codeWith yL_tryElement cL_tryElement 5 (some .int) [(0, 7, 8, 13), (0, 7, 13, 16)] :: sk_tb) ({ frames := 7, cells := 1, slots := 6, locals := 132 }) O [.ref (sk_ad O k), .int s, .int e, .int w] M 1 (sk_gq ["java/lang/IndexOutOfBoundsException", "java/lang/IllegalArgumentException"] [-9999001, -9999002] (fun r M' => (er_2 (st_he M (k + 1) s e) (¬ w < 0 ∧ ¬ 8 < w)) = 0 ∧ r = (x_el M k s e w) ∧ M' = (x_R M k (st_pg (k + 1) s))) (fun E M' => ((er_2 (st_he M (k + 1) s e) (¬ w < 0 ∧ ¬ 8 < w)) = 1 ∧ E = "java/lang/IndexOutOfBoundsException" ∨ (er_2 (st_he M (k + 1) s e) (¬ w < 0 ∧ ¬ 8 < w)) = 2 ∧ E = "java/lang/IllegalArgumentException") ∧ M' = M)) := by
  refine sk_kh (by decide) ⟨rfl, rfl⟩ hO (Nat.le_of_ble_eq_true rfl) (fun X A Q C hSr hNx htab ret => ?_)
  show sk_W l X O A Q 5 0 0 M 0 [(0, .ref (sk_ad O k)), (1, .int s), (2, .int e), (3, .int w)] []
  refine k_aloadn C 0 dL_tryElement_0 rfl ?_
  refine k_iloadn C 1 dL_tryElement_1 rfl ?_
  refine k_iloadn C 2 dL_tryElement_2 rfl ?_
  refine k_iloadn C 3 dL_tryElement_3 rfl ?_
  refine k_xi C hSr (as := [.int s, .int e, .int w]) yvX7_element viX7_element ml_L_54 (m_X7_element l hO M k s e w hk hw hst) hk.1 rfl rfl rfl (Nat.le_of_ble_eq_true rfl) (by decide) dL_tryElement_4 (fun E9 M9 h9 => ?_) (fun r9 M9 h9 => ?_)
  · have hm : E9 = "java/lang/IndexOutOfBoundsException" ∨ E9 = "java/lang/IllegalArgumentException" := Or.imp (fun z => z.2) (fun z => z.2) h9.1
    rcases hm with rfl | rfl
    · refine k_catch C hNx htab (by decide) 0 rfl (fun z hz => absurd hz (by simp)) ⟨by decide, by decide⟩ (by decide) clE_13 (fun q9 => ?_)
      refine k_astore C [1, 2, 3, 4, 0] [(0, .ref (sk_ad O k)), (1, .int s), (2, .int e), (3, .int w), (4, .ref q9)] dL_tryElement_8 (by decide) rfl ?_
      refine k_ldc C kc_L_15 dL_tryElement_10 ?_
      exact ret _ _ _ _ _ _ (by decide) (by decide) dL_tryElement_12 ⟨1, 0, Or.inr ⟨0, _, rfl, rfl, h9⟩, rfl⟩
    · refine k_catch C hNx htab (by decide) 1 rfl (fun z hz => by
          rcases (by simpa using hz : z = (0, 7, 8, 13)) with rfl
          · exact ⟨by decide, "java/lang/IndexOutOfBoundsException", clE_13, by decide, by decide⟩
          ) ⟨by decide, by decide⟩ (by decide) clE_16 (fun q9 => ?_)
      refine k_astore C [1, 2, 3, 4, 0] [(0, .ref (sk_ad O k)), (1, .int s), (2, .int e), (3, .int w), (4, .ref q9)] dL_tryElement_13 (by decide) rfl ?_
      refine k_ldc C kc_L_18 dL_tryElement_15 ?_
      exact ret _ _ _ _ _ _ (by decide) (by decide) dL_tryElement_17 ⟨2, 0, Or.inr ⟨1, _, rfl, rfl, h9⟩, rfl⟩
  · exact ret _ _ _ _ _ _ (by decide) (by decide) dL_tryElement_7 ⟨0, r9, Or.inl ⟨rfl, h9⟩, rfl⟩
theorem yg_trySetting : sk_yg yL_trySetting cL_trySetting 3 [(0, 5, 6, 16)] 2 := ⟨sk_wd 650 (by decide +kernel) (by decide +kernel), ini_SkateSheetLaw, by decide +kernel, by decide +kernel, sk_wd 649 (by decide +kernel) (by decide +kernel)⟩
set_option maxRecDepth 100000 in
theorem g_L_trySetting (l : Launch) {O : sk_O} (hO : sk_inj O) (M : sk_M) (k : Nat) (w : Int32) (hk : sk_isX O k) (hst : l.stackTraces = false) : sk_K l yL_trySetting (Cond.codeWith yL_trySetting cL_trySetting 3 (some .int) [(0, 5, 6, 16)] :: sk_tb) ({ frames := 7, cells := 1, slots := 6, locals := 103 }) O [.ref (sk_ad O k), .int w] M 1 (sk_gq ["java/lang/IllegalArgumentException"] [-9999002] (fun r M' => (er_1 (¬ w < 0 ∧ ¬ 5 ≤ w)) = 0 ∧ r = (M (k + 3) w.toNatClampNeg) ∧ M' = M) (fun E M' => ((er_1 (¬ w < 0 ∧ ¬ 5 ≤ w)) = 1 ∧ E = "java/lang/IllegalArgumentException") ∧ M' = M)) := by
  refine sk_kh (by decide) ⟨rfl, rfl⟩ hO (Nat.le_of_ble_eq_true rfl) (fun X A Q C hSr hNx htab ret => ?_)
  show sk_W l X O A Q 3 0 0 M 0 [(0, .ref (sk_ad O k)), (1, .int w)] []
  refine k_aloadn C 0 dL_trySetting_0 rfl ?_
  refine k_iloadn C 1 dL_trySetting_1 rfl ?_
  refine k_xi C hSr (as := [.int w]) yvX7_setting viX7_setting ml_L_58 (m_X7_setting l hO M k w hk hst) hk.1 rfl rfl rfl (Nat.le_of_ble_eq_true rfl) (by decide) dL_trySetting_2 (fun E9 M9 h9 => ?_) (fun r9 M9 h9 => ?_)
  · have hm : E9 = "java/lang/IllegalArgumentException" := h9.1.2
    subst hm
    refine k_catch C hNx htab (by decide) 0 rfl (fun z hz => absurd hz (by simp)) ⟨by decide, by decide⟩ (by decide) clE_16 (fun q9 => ?_)
    refine k_astoren C [1, 2, 0] [(0, .ref (sk_ad O k)), (1, .int w), (2, .ref q9)] dL_trySetting_6 (by decide) rfl ?_
    refine k_ldc C kc_L_18 dL_trySetting_7 ?_
    exact ret _ _ _ _ _ _ (by decide) (by decide) dL_trySetting_9 ⟨1, 0, Or.inr ⟨0, _, rfl, rfl, h9⟩, rfl⟩
  · exact ret _ _ _ _ _ _ (by decide) (by decide) dL_trySetting_5 ⟨0, r9, Or.inl ⟨rfl, h9⟩, rfl⟩
theorem yg_tryAdd : sk_yg yL_tryAdd cL_tryAdd 2 [(0, 4, 5, 22)] 1 := ⟨sk_wd 657 (by decide +kernel) (by decide +kernel), ini_SkateSheetLaw, by decide +kernel, by decide +kernel, sk_wd 656 (by decide +kernel) (by decide +kernel)⟩
set_option maxRecDepth 100000 in
theorem g_L_tryAdd (l : Launch) {O : sk_O} (hO : sk_inj O) (M : sk_M) (k m : Nat) (hk : sk_isX O k) (hm : M (k + 1) 2 = nI m) (hm4 : m ≤ 4) (o c : Nat) (ho : M (k + 44) 1 = nI o) (hc : M (k + 44) 2 = nI c) (ho14 : o < 14) (hc14 : c ≤ 14) (hw : st_wf M (k + 1)) (hst : l.stackTraces = false) : sk_K l yL_tryAdd (Cond.codeWith yL_tryAdd cL_tryAdd 2 (some .int) [(0, 4, 5, 22)] :: sk_tb) ({ frames := 7, cells := 1, slots := 6, locals := 166 }) O [.ref (sk_ad O k)] M 1 (sk_gq ["java/lang/IllegalStateException"] [-9999003] (fun r M' => (er_1 (m < 4)) = 0 ∧ r = (nI m) ∧ M' = (x_ad M k o c m)) (fun E M' => ((er_1 (m < 4)) = 1 ∧ E = "java/lang/IllegalStateException") ∧ M' = M)) := by
  refine sk_kh (by decide) ⟨rfl, rfl⟩ hO (Nat.le_of_ble_eq_true rfl) (fun X A Q C hSr hNx htab ret => ?_)
  show sk_W l X O A Q 2 0 0 M 0 [(0, .ref (sk_ad O k))] []
  refine k_aloadn C 0 dL_tryAdd_0 rfl ?_
  refine k_xi C hSr (as := []) yvX7_add viX7_add ml_L_61 (m_X7_add l hO M k m hk hm hm4 o c ho hc ho14 hc14 hw hst) hk.1 rfl rfl rfl (Nat.le_of_ble_eq_true rfl) (by decide) dL_tryAdd_1 (fun E9 M9 h9 => ?_) (fun r9 M9 h9 => ?_)
  · have hm : E9 = "java/lang/IllegalStateException" := h9.1.2
    subst hm
    refine k_catch C hNx htab (by decide) 0 rfl (fun z hz => absurd hz (by simp)) ⟨by decide, by decide⟩ (by decide) clE_22 (fun q9 => ?_)
    refine k_astoren C [1, 0] [(0, .ref (sk_ad O k)), (1, .ref q9)] dL_tryAdd_5 (by decide) rfl ?_
    refine k_ldc C kc_L_24 dL_tryAdd_6 ?_
    exact ret _ _ _ _ _ _ (by decide) (by decide) dL_tryAdd_8 ⟨1, 0, Or.inr ⟨0, _, rfl, rfl, h9⟩, rfl⟩
  · exact ret _ _ _ _ _ _ (by decide) (by decide) dL_tryAdd_4 ⟨0, r9, Or.inl ⟨rfl, h9⟩, rfl⟩
theorem yg_tryProgram : sk_yg yL_tryProgram cL_tryProgram 3 [(0, 5, 6, 13), (0, 5, 10, 22)] 2 := ⟨sk_wd 670 (by decide +kernel) (by decide +kernel), ini_SkateSheetLaw, by decide +kernel, by decide +kernel, sk_wd 669 (by decide +kernel) (by decide +kernel)⟩
set_option maxRecDepth 100000 in
theorem g_L_tryProgram (l : Launch) {O : sk_O} (hO : sk_inj O) (M : sk_M) (k n : Nat) (s : Int32) (hk : sk_isX O k) (hn : M (k + 736) 1 = nI n) (hn2 : n ≤ 120) (o c : Nat) (ho : M (k + 44) 1 = nI o) (hc : M (k + 44) 2 = nI c) (ho14 : o < 14) (hc14 : c ≤ 14) (hw : st_wf M (k + 1)) (hst : l.stackTraces = false) : sk_K l yL_tryProgram (Cond.codeWith yL_tryProgram cL_tryProgram 3 (some .int) [(0, 5, 6, 13), (0, 5, 10, 22)] :: sk_tb) ({ frames := 7, cells := 1, slots := 6, locals := 167 }) O [.ref (sk_ad O k), .int s] M 1 (sk_gq ["java/lang/IndexOutOfBoundsException", "java/lang/IllegalStateException"] [-9999001, -9999003] (x_pp M k n o c s) (x_px M k n s)) := by
  refine sk_kh (by decide) ⟨rfl, rfl⟩ hO (Nat.le_of_ble_eq_true rfl) (fun X A Q C hSr hNx htab ret => ?_)
  show sk_W l X O A Q 3 0 0 M 0 [(0, .ref (sk_ad O k)), (1, .int s)] []
  refine k_aloadn C 0 dL_tryProgram_0 rfl ?_
  refine k_iloadn C 1 dL_tryProgram_1 rfl ?_
  refine k_xi C hSr (as := [.int s]) yvX7_program viX7_program ml_L_65 (m_X7_program l hO M k n s hk hn hn2 o c ho hc ho14 hc14 hw hst) hk.1 rfl rfl rfl (Nat.le_of_ble_eq_true rfl) (by decide) dL_tryProgram_2 (fun E9 M9 h9 => ?_) (fun r9 M9 h9 => ?_)
  · have hm : E9 = "java/lang/IndexOutOfBoundsException" ∨ E9 = "java/lang/IllegalStateException" := Or.imp (fun z => z.1) (fun z => z.1) h9
    rcases hm with rfl | rfl
    · refine k_catch C hNx htab (by decide) 0 rfl (fun z hz => absurd hz (by simp)) ⟨by decide, by decide⟩ (by decide) clE_13 (fun q9 => ?_)
      refine k_astoren C [1, 2, 0] [(0, .ref (sk_ad O k)), (1, .int s), (2, .ref q9)] dL_tryProgram_6 (by decide) rfl ?_
      refine k_ldc C kc_L_15 dL_tryProgram_7 ?_
      exact ret _ _ _ _ _ _ (by decide) (by decide) dL_tryProgram_9 ⟨1, 0, Or.inr ⟨0, _, rfl, rfl, h9⟩, rfl⟩
    · refine k_catch C hNx htab (by decide) 1 rfl (fun z hz => by
          rcases (by simpa using hz : z = (0, 5, 6, 13)) with rfl
          · exact ⟨by decide, "java/lang/IndexOutOfBoundsException", clE_13, by decide, by decide⟩
          ) ⟨by decide, by decide⟩ (by decide) clE_22 (fun q9 => ?_)
      refine k_astoren C [1, 2, 0] [(0, .ref (sk_ad O k)), (1, .int s), (2, .ref q9)] dL_tryProgram_10 (by decide) rfl ?_
      refine k_ldc C kc_L_24 dL_tryProgram_11 ?_
      exact ret _ _ _ _ _ _ (by decide) (by decide) dL_tryProgram_13 ⟨2, 0, Or.inr ⟨1, _, rfl, rfl, h9⟩, rfl⟩
  · exact ret _ _ _ _ _ _ (by decide) (by decide) dL_tryProgram_5 ⟨0, r9, Or.inl ⟨rfl, h9⟩, rfl⟩
theorem yg_tryMark : sk_yg yL_tryMark cL_tryMark 5 [(0, 7, 8, 13), (0, 7, 13, 16)] 4 := ⟨sk_wd 718 (by decide +kernel) (by decide +kernel), ini_SkateSheetLaw, by decide +kernel, by decide +kernel, sk_wd 717 (by decide +kernel) (by decide +kernel)⟩
set_option maxRecDepth 100000 in
theorem g_L_tryMark (l : Launch) {O : sk_O} (hO : sk_inj O) (M : sk_M) (k : Nat) (s e v : Int32) (hk : sk_isX O k) (o c : Nat) (ho : M (k + 44) 1 = nI o) (hc : M (k + 44) 2 = nI c) (ho14 : o < 14) (hc14 : c ≤ 14) (hw : st_wf M (k + 1)) (hst : l.stackTraces = false) : sk_K l yL_tryMark (Cond.codeWith yL_tryMark cL_tryMark 5 (some .int) [(0, 7, 8, 13), (0, 7, 13, 16)] :: sk_tb) ({ frames := 7, cells := 1, slots := 6, locals := 169 }) O [.ref (sk_ad O k), .int s, .int e, .int v] M 1 (sk_gq ["java/lang/IndexOutOfBoundsException", "java/lang/IllegalArgumentException"] [-9999001, -9999002] (fun r M' => (er_2 (st_he M (k + 1) s e) (¬ v < 0 ∧ ¬ 161050 < v)) = 0 ∧ r = (x_kn v) ∧ M' = (if st_he (x_re M k o c) (k + 1) s e then sk_ms (x_re M k o c) (st_pg (k + 1) s + 3) e.toNatClampNeg (x_kn v) else x_re M k o c)) (fun E M' => ((er_2 (st_he M (k + 1) s e) (¬ v < 0 ∧ ¬ 161050 < v)) = 1 ∧ E = "java/lang/IndexOutOfBoundsException" ∨ (er_2 (st_he M (k + 1) s e) (¬ v < 0 ∧ ¬ 161050 < v)) = 2 ∧ E = "java/lang/IllegalArgumentException") ∧ M' = M)) := by
  refine sk_kh (by decide) ⟨rfl, rfl⟩ hO (Nat.le_of_ble_eq_true rfl) (fun X A Q C hSr hNx htab ret => ?_)
  show sk_W l X O A Q 5 0 0 M 0 [(0, .ref (sk_ad O k)), (1, .int s), (2, .int e), (3, .int v)] []
  refine k_aloadn C 0 dL_tryMark_0 rfl ?_
  refine k_iloadn C 1 dL_tryMark_1 rfl ?_
  refine k_iloadn C 2 dL_tryMark_2 rfl ?_
  refine k_iloadn C 3 dL_tryMark_3 rfl ?_
  refine k_xi C hSr (as := [.int s, .int e, .int v]) yvX7_mark viX7_mark ml_L_68 (m_X7_mark l hO M k s e v hk o c ho hc ho14 hc14 hw hst) hk.1 rfl rfl rfl (Nat.le_of_ble_eq_true rfl) (by decide) dL_tryMark_4 (fun E9 M9 h9 => ?_) (fun r9 M9 h9 => ?_)
  · have hm : E9 = "java/lang/IndexOutOfBoundsException" ∨ E9 = "java/lang/IllegalArgumentException" := Or.imp (fun z => z.2) (fun z => z.2) h9.1
    rcases hm with rfl | rfl
    · refine k_catch C hNx htab (by decide) 0 rfl (fun z hz => absurd hz (by simp)) ⟨by decide, by decide⟩ (by decide) clE_13 (fun q9 => ?_)
      refine k_astore C [1, 2, 3, 4, 0] [(0, .ref (sk_ad O k)), (1, .int s), (2, .int e), (3, .int v), (4, .ref q9)] dL_tryMark_8 (by decide) rfl ?_
      refine k_ldc C kc_L_15 dL_tryMark_10 ?_
      exact ret _ _ _ _ _ _ (by decide) (by decide) dL_tryMark_12 ⟨1, 0, Or.inr ⟨0, _, rfl, rfl, h9⟩, rfl⟩
    · refine k_catch C hNx htab (by decide) 1 rfl (fun z hz => by
          rcases (by simpa using hz : z = (0, 7, 8, 13)) with rfl
          · exact ⟨by decide, "java/lang/IndexOutOfBoundsException", clE_13, by decide, by decide⟩
          ) ⟨by decide, by decide⟩ (by decide) clE_16 (fun q9 => ?_)
      refine k_astore C [1, 2, 3, 4, 0] [(0, .ref (sk_ad O k)), (1, .int s), (2, .int e), (3, .int v), (4, .ref q9)] dL_tryMark_13 (by decide) rfl ?_
      refine k_ldc C kc_L_18 dL_tryMark_15 ?_
      exact ret _ _ _ _ _ _ (by decide) (by decide) dL_tryMark_17 ⟨2, 0, Or.inr ⟨1, _, rfl, rfl, h9⟩, rfl⟩
  · exact ret _ _ _ _ _ _ (by decide) (by decide) dL_tryMark_7 ⟨0, r9, Or.inl ⟨rfl, h9⟩, rfl⟩
theorem yg_tryComponent : sk_yg yL_tryComponent cL_tryComponent 5 [(0, 7, 8, 13), (0, 7, 13, 16)] 4 := ⟨sk_wd 741 (by decide +kernel) (by decide +kernel), ini_SkateSheetLaw, by decide +kernel, by decide +kernel, sk_wd 740 (by decide +kernel) (by decide +kernel)⟩
set_option maxRecDepth 100000 in
theorem g_L_tryComponent (l : Launch) {O : sk_O} (hO : sk_inj O) (M : sk_M) (k : Nat) (s j v : Int32) (hk : sk_isX O k) (o c : Nat) (ho : M (k + 44) 1 = nI o) (hc : M (k + 44) 2 = nI c) (ho14 : o < 14) (hc14 : c ≤ 14) (hw : st_wf M (k + 1)) (hst : l.stackTraces = false) : sk_K l yL_tryComponent (Cond.codeWith yL_tryComponent cL_tryComponent 5 (some .int) [(0, 7, 8, 13), (0, 7, 13, 16)] :: sk_tb) ({ frames := 7, cells := 1, slots := 6, locals := 169 }) O [.ref (sk_ad O k), .int s, .int j, .int v] M 1 (sk_gq ["java/lang/IndexOutOfBoundsException", "java/lang/IllegalArgumentException"] [-9999001, -9999002] (fun r M' => (er_2 (st_hs M (k + 1) s ∧ ¬ j < 0 ∧ ¬ 3 ≤ j) (¬ v < 0 ∧ ¬ 115856200 < v)) = 0 ∧ r = (x_cn v) ∧ M' = (if st_hs (x_re M k o c) (k + 1) s ∧ ¬ j < 0 ∧ ¬ 3 ≤ j then sk_ms (x_re M k o c) (st_pg (k + 1) s + 9) j.toNatClampNeg (x_cn v) else x_re M k o c)) (fun E M' => ((er_2 (st_hs M (k + 1) s ∧ ¬ j < 0 ∧ ¬ 3 ≤ j) (¬ v < 0 ∧ ¬ 115856200 < v)) = 1 ∧ E = "java/lang/IndexOutOfBoundsException" ∨ (er_2 (st_hs M (k + 1) s ∧ ¬ j < 0 ∧ ¬ 3 ≤ j) (¬ v < 0 ∧ ¬ 115856200 < v)) = 2 ∧ E = "java/lang/IllegalArgumentException") ∧ M' = M)) := by
  refine sk_kh (by decide) ⟨rfl, rfl⟩ hO (Nat.le_of_ble_eq_true rfl) (fun X A Q C hSr hNx htab ret => ?_)
  show sk_W l X O A Q 5 0 0 M 0 [(0, .ref (sk_ad O k)), (1, .int s), (2, .int j), (3, .int v)] []
  refine k_aloadn C 0 dL_tryComponent_0 rfl ?_
  refine k_iloadn C 1 dL_tryComponent_1 rfl ?_
  refine k_iloadn C 2 dL_tryComponent_2 rfl ?_
  refine k_iloadn C 3 dL_tryComponent_3 rfl ?_
  refine k_xi C hSr (as := [.int s, .int j, .int v]) yvX7_component viX7_component ml_L_71 (m_X7_component l hO M k s j v hk o c ho hc ho14 hc14 hw hst) hk.1 rfl rfl rfl (Nat.le_of_ble_eq_true rfl) (by decide) dL_tryComponent_4 (fun E9 M9 h9 => ?_) (fun r9 M9 h9 => ?_)
  · have hm : E9 = "java/lang/IndexOutOfBoundsException" ∨ E9 = "java/lang/IllegalArgumentException" := Or.imp (fun z => z.2) (fun z => z.2) h9.1
    rcases hm with rfl | rfl
    · refine k_catch C hNx htab (by decide) 0 rfl (fun z hz => absurd hz (by simp)) ⟨by decide, by decide⟩ (by decide) clE_13 (fun q9 => ?_)
      refine k_astore C [1, 2, 3, 4, 0] [(0, .ref (sk_ad O k)), (1, .int s), (2, .int j), (3, .int v), (4, .ref q9)] dL_tryComponent_8 (by decide) rfl ?_
      refine k_ldc C kc_L_15 dL_tryComponent_10 ?_
      exact ret _ _ _ _ _ _ (by decide) (by decide) dL_tryComponent_12 ⟨1, 0, Or.inr ⟨0, _, rfl, rfl, h9⟩, rfl⟩
    · refine k_catch C hNx htab (by decide) 1 rfl (fun z hz => by
          rcases (by simpa using hz : z = (0, 7, 8, 13)) with rfl
          · exact ⟨by decide, "java/lang/IndexOutOfBoundsException", clE_13, by decide, by decide⟩
          ) ⟨by decide, by decide⟩ (by decide) clE_16 (fun q9 => ?_)
      refine k_astore C [1, 2, 3, 4, 0] [(0, .ref (sk_ad O k)), (1, .int s), (2, .int j), (3, .int v), (4, .ref q9)] dL_tryComponent_13 (by decide) rfl ?_
      refine k_ldc C kc_L_18 dL_tryComponent_15 ?_
      exact ret _ _ _ _ _ _ (by decide) (by decide) dL_tryComponent_17 ⟨2, 0, Or.inr ⟨1, _, rfl, rfl, h9⟩, rfl⟩
  · exact ret _ _ _ _ _ _ (by decide) (by decide) dL_tryComponent_7 ⟨0, r9, Or.inl ⟨rfl, h9⟩, rfl⟩
theorem yg_tryPenalty : sk_yg yL_tryPenalty cL_tryPenalty 4 [(0, 6, 7, 13), (0, 6, 11, 16)] 3 := ⟨sk_wd 760 (by decide +kernel) (by decide +kernel), ini_SkateSheetLaw, by decide +kernel, by decide +kernel, sk_wd 759 (by decide +kernel) (by decide +kernel)⟩
set_option maxRecDepth 100000 in
theorem g_L_tryPenalty (l : Launch) {O : sk_O} (hO : sk_inj O) (M : sk_M) (k : Nat) (s v : Int32) (hk : sk_isX O k) (o c : Nat) (ho : M (k + 44) 1 = nI o) (hc : M (k + 44) 2 = nI c) (ho14 : o < 14) (hc14 : c ≤ 14) (hw : st_wf M (k + 1)) (hst : l.stackTraces = false) : sk_K l yL_tryPenalty (Cond.codeWith yL_tryPenalty cL_tryPenalty 4 (some .int) [(0, 6, 7, 13), (0, 6, 11, 16)] :: sk_tb) ({ frames := 7, cells := 1, slots := 6, locals := 168 }) O [.ref (sk_ad O k), .int s, .int v] M 1 (sk_gq ["java/lang/IndexOutOfBoundsException", "java/lang/IllegalArgumentException"] [-9999001, -9999002] (fun r M' => (er_2 (st_hs M (k + 1) s) (¬ v < 0 ∧ ¬ 9 < v)) = 0 ∧ r = (x_re M k o c (st_pg (k + 1) s) 10) ∧ M' = (if st_hs (x_re M k o c) (k + 1) s then sk_ms (x_re M k o c) (st_pg (k + 1) s) 10 v else x_re M k o c)) (fun E M' => ((er_2 (st_hs M (k + 1) s) (¬ v < 0 ∧ ¬ 9 < v)) = 1 ∧ E = "java/lang/IndexOutOfBoundsException" ∨ (er_2 (st_hs M (k + 1) s) (¬ v < 0 ∧ ¬ 9 < v)) = 2 ∧ E = "java/lang/IllegalArgumentException") ∧ M' = M)) := by
  refine sk_kh (by decide) ⟨rfl, rfl⟩ hO (Nat.le_of_ble_eq_true rfl) (fun X A Q C hSr hNx htab ret => ?_)
  show sk_W l X O A Q 4 0 0 M 0 [(0, .ref (sk_ad O k)), (1, .int s), (2, .int v)] []
  refine k_aloadn C 0 dL_tryPenalty_0 rfl ?_
  refine k_iloadn C 1 dL_tryPenalty_1 rfl ?_
  refine k_iloadn C 2 dL_tryPenalty_2 rfl ?_
  refine k_xi C hSr (as := [.int s, .int v]) yvX7_penalty viX7_penalty ml_L_74 (m_X7_penalty l hO M k s v hk o c ho hc ho14 hc14 hw hst) hk.1 rfl rfl rfl (Nat.le_of_ble_eq_true rfl) (by decide) dL_tryPenalty_3 (fun E9 M9 h9 => ?_) (fun r9 M9 h9 => ?_)
  · have hm : E9 = "java/lang/IndexOutOfBoundsException" ∨ E9 = "java/lang/IllegalArgumentException" := Or.imp (fun z => z.2) (fun z => z.2) h9.1
    rcases hm with rfl | rfl
    · refine k_catch C hNx htab (by decide) 0 rfl (fun z hz => absurd hz (by simp)) ⟨by decide, by decide⟩ (by decide) clE_13 (fun q9 => ?_)
      refine k_astoren C [1, 2, 3, 0] [(0, .ref (sk_ad O k)), (1, .int s), (2, .int v), (3, .ref q9)] dL_tryPenalty_7 (by decide) rfl ?_
      refine k_ldc C kc_L_15 dL_tryPenalty_8 ?_
      exact ret _ _ _ _ _ _ (by decide) (by decide) dL_tryPenalty_10 ⟨1, 0, Or.inr ⟨0, _, rfl, rfl, h9⟩, rfl⟩
    · refine k_catch C hNx htab (by decide) 1 rfl (fun z hz => by
          rcases (by simpa using hz : z = (0, 6, 7, 13)) with rfl
          · exact ⟨by decide, "java/lang/IndexOutOfBoundsException", clE_13, by decide, by decide⟩
          ) ⟨by decide, by decide⟩ (by decide) clE_16 (fun q9 => ?_)
      refine k_astoren C [1, 2, 3, 0] [(0, .ref (sk_ad O k)), (1, .int s), (2, .int v), (3, .ref q9)] dL_tryPenalty_11 (by decide) rfl ?_
      refine k_ldc C kc_L_18 dL_tryPenalty_12 ?_
      exact ret _ _ _ _ _ _ (by decide) (by decide) dL_tryPenalty_14 ⟨2, 0, Or.inr ⟨1, _, rfl, rfl, h9⟩, rfl⟩
  · exact ret _ _ _ _ _ _ (by decide) (by decide) dL_tryPenalty_6 ⟨0, r9, Or.inl ⟨rfl, h9⟩, rfl⟩
theorem yg_tryLay : sk_yg yL_tryLay cL_tryLay 4 [(0, 6, 7, 16)] 3 := ⟨sk_wd 772 (by decide +kernel) (by decide +kernel), ini_SkateSheetLaw, by decide +kernel, by decide +kernel, sk_wd 771 (by decide +kernel) (by decide +kernel)⟩
set_option maxRecDepth 100000 in
theorem g_L_tryLay (l : Launch) {O : sk_O} (hO : sk_inj O) (M : sk_M) (k : Nat) (w v : Int32) (hk : sk_isX O k) (o c : Nat) (ho : M (k + 44) 1 = nI o) (hc : M (k + 44) 2 = nI c) (ho14 : o < 14) (hc14 : c ≤ 14) (hw : st_wf M (k + 1)) (hst : l.stackTraces = false) : sk_K l yL_tryLay (Cond.codeWith yL_tryLay cL_tryLay 4 (some .int) [(0, 6, 7, 16)] :: sk_tb) ({ frames := 7, cells := 1, slots := 6, locals := 168 }) O [.ref (sk_ad O k), .int w, .int v] M 1 (sk_gq ["java/lang/IllegalArgumentException"] [-9999002] (fun r M' => (er_1 (st_fi w v)) = 0 ∧ r = (x_re M k o c (k + 3) w.toNatClampNeg) ∧ M' = (if st_fi w v then sk_ms (x_re M k o c) (k + 1 + 2) w.toNatClampNeg v else x_re M k o c)) (fun E M' => ((er_1 (st_fi w v)) = 1 ∧ E = "java/lang/IllegalArgumentException") ∧ M' = M)) := by
  refine sk_kh (by decide) ⟨rfl, rfl⟩ hO (Nat.le_of_ble_eq_true rfl) (fun X A Q C hSr hNx htab ret => ?_)
  show sk_W l X O A Q 4 0 0 M 0 [(0, .ref (sk_ad O k)), (1, .int w), (2, .int v)] []
  refine k_aloadn C 0 dL_tryLay_0 rfl ?_
  refine k_iloadn C 1 dL_tryLay_1 rfl ?_
  refine k_iloadn C 2 dL_tryLay_2 rfl ?_
  refine k_xi C hSr (as := [.int w, .int v]) yvX7_set viX7_set ml_L_77 (m_X7_set l hO M k w v hk o c ho hc ho14 hc14 hw hst) hk.1 rfl rfl rfl (Nat.le_of_ble_eq_true rfl) (by decide) dL_tryLay_3 (fun E9 M9 h9 => ?_) (fun r9 M9 h9 => ?_)
  · have hm : E9 = "java/lang/IllegalArgumentException" := h9.1.2
    subst hm
    refine k_catch C hNx htab (by decide) 0 rfl (fun z hz => absurd hz (by simp)) ⟨by decide, by decide⟩ (by decide) clE_16 (fun q9 => ?_)
    refine k_astoren C [1, 2, 3, 0] [(0, .ref (sk_ad O k)), (1, .int w), (2, .int v), (3, .ref q9)] dL_tryLay_7 (by decide) rfl ?_
    refine k_ldc C kc_L_18 dL_tryLay_8 ?_
    exact ret _ _ _ _ _ _ (by decide) (by decide) dL_tryLay_10 ⟨1, 0, Or.inr ⟨0, _, rfl, rfl, h9⟩, rfl⟩
  · exact ret _ _ _ _ _ _ (by decide) (by decide) dL_tryLay_6 ⟨0, r9, Or.inl ⟨rfl, h9⟩, rfl⟩
theorem yg_tryUndo : sk_yg yL_tryUndo cL_tryUndo 2 [(0, 4, 5, 22)] 1 := ⟨sk_wd 788 (by decide +kernel) (by decide +kernel), ini_SkateSheetLaw, by decide +kernel, by decide +kernel, sk_wd 787 (by decide +kernel) (by decide +kernel)⟩
set_option maxRecDepth 100000 in
theorem g_L_tryUndo (l : Launch) {O : sk_O} (hO : sk_inj O) (M : sk_M) (k : Nat) (hk : sk_isX O k) (o c : Nat) (ho : M (k + 44) 1 = nI o) (hc : M (k + 44) 2 = nI c) (ho14 : o < 14) (hc14 : c ≤ 14) (hwb : c = 0 ∨ st_wf M (hs_at (k + 44) ((o + (c - 1)) % 14))) (hst : l.stackTraces = false) : sk_K l yL_tryUndo (Cond.codeWith yL_tryUndo cL_tryUndo 2 (some .int) [(0, 4, 5, 22)] :: sk_tb) ({ frames := 7, cells := 1, slots := 6, locals := 165 }) O [.ref (sk_ad O k)] M 1 (sk_gq ["java/lang/IllegalStateException"] [-9999003] (fun r M' => (er_1 (0 < c)) = 0 ∧ r = ((if 0 < c then hs_tb M (k + 44) (k + 1) o c else M) (k + 44) 2) ∧ M' = (if 0 < c then hs_tb M (k + 44) (k + 1) o c else M)) (fun E M' => (er_1 (0 < c) = 1 ∧ E = "java/lang/IllegalStateException") ∧ M' = if 0 < c then hs_tb M (k + 44) (k + 1) o c else M)) := by
  refine sk_kh (by decide) ⟨rfl, rfl⟩ hO (Nat.le_of_ble_eq_true rfl) (fun X A Q C hSr hNx htab ret => ?_)
  show sk_W l X O A Q 2 0 0 M 0 [(0, .ref (sk_ad O k))] []
  refine k_aloadn C 0 dL_tryUndo_0 rfl ?_
  refine k_xi C hSr (as := []) yvX7_undo viX7_undo ml_L_80 (m_X7_undo l hO M k hk o c ho hc ho14 hc14 hwb hst) hk.1 rfl rfl rfl (Nat.le_of_ble_eq_true rfl) (by decide) dL_tryUndo_1 (fun E9 M9 h9 => ?_) (fun r9 M9 h9 => ?_)
  · have hm : E9 = "java/lang/IllegalStateException" := h9.1.2
    subst hm
    refine k_catch C hNx htab (by decide) 0 rfl (fun z hz => absurd hz (by simp)) ⟨by decide, by decide⟩ (by decide) clE_22 (fun q9 => ?_)
    refine k_astoren C [1, 0] [(0, .ref (sk_ad O k)), (1, .ref q9)] dL_tryUndo_5 (by decide) rfl ?_
    refine k_ldc C kc_L_24 dL_tryUndo_6 ?_
    exact ret _ _ _ _ _ _ (by decide) (by decide) dL_tryUndo_8 ⟨1, 0, Or.inr ⟨0, _, rfl, rfl, h9⟩, rfl⟩
  · exact ret _ _ _ _ _ _ (by decide) (by decide) dL_tryUndo_4 ⟨0, r9, Or.inl ⟨rfl, h9⟩, rfl⟩
theorem yg_tryReplaced : sk_yg yL_tryReplaced cL_tryReplaced 4 [(0, 6, 7, 13), (0, 6, 11, 22)] 3 := ⟨sk_wd 800 (by decide +kernel) (by decide +kernel), ini_SkateSheetLaw, by decide +kernel, by decide +kernel, sk_wd 799 (by decide +kernel) (by decide +kernel)⟩
set_option maxRecDepth 100000 in
theorem g_L_tryReplaced (l : Launch) {O : sk_O} (hO : sk_inj O) (M : sk_M) (k n : Nat) (s e : Int32) (hk : sk_isX O k) (hn : M (k + 736) 1 = nI n) (hn2 : n ≤ 120) (hw : st_wf M (k + 1)) (hst : l.stackTraces = false) : sk_K l yL_tryReplaced (Cond.codeWith yL_tryReplaced cL_tryReplaced 4 (some .int) [(0, 6, 7, 13), (0, 6, 11, 22)] :: sk_tb) ({ frames := 7, cells := 1, slots := 6, locals := 155 }) O [.ref (sk_ad O k), .int s, .int e] M 1 (sk_gq ["java/lang/IndexOutOfBoundsException", "java/lang/IllegalStateException"] [-9999001, -9999003] (x_rp M k n s e) (x_rx M k n s e)) := by
  refine sk_kh (by decide) ⟨rfl, rfl⟩ hO (Nat.le_of_ble_eq_true rfl) (fun X A Q C hSr hNx htab ret => ?_)
  show sk_W l X O A Q 4 0 0 M 0 [(0, .ref (sk_ad O k)), (1, .int s), (2, .int e)] []
  refine k_aloadn C 0 dL_tryReplaced_0 rfl ?_
  refine k_iloadn C 1 dL_tryReplaced_1 rfl ?_
  refine k_iloadn C 2 dL_tryReplaced_2 rfl ?_
  refine k_xi C hSr (as := [.int s, .int e]) yvX7_ifReplaced viX7_ifReplaced ml_L_83 (m_X7_ifReplaced l hO M k n s e hk hn hn2 hw hst) hk.1 rfl rfl rfl (Nat.le_of_ble_eq_true rfl) (by decide) dL_tryReplaced_3 (fun E9 M9 h9 => ?_) (fun r9 M9 h9 => ?_)
  · have hm : E9 = "java/lang/IndexOutOfBoundsException" ∨ E9 = "java/lang/IllegalStateException" := Or.imp (fun z => z.1) (fun z => z.1) h9
    rcases hm with rfl | rfl
    · refine k_catch C hNx htab (by decide) 0 rfl (fun z hz => absurd hz (by simp)) ⟨by decide, by decide⟩ (by decide) clE_13 (fun q9 => ?_)
      refine k_astoren C [1, 2, 3, 0] [(0, .ref (sk_ad O k)), (1, .int s), (2, .int e), (3, .ref q9)] dL_tryReplaced_7 (by decide) rfl ?_
      refine k_ldc C kc_L_15 dL_tryReplaced_8 ?_
      exact ret _ _ _ _ _ _ (by decide) (by decide) dL_tryReplaced_10 ⟨1, 0, Or.inr ⟨0, _, rfl, rfl, h9⟩, rfl⟩
    · refine k_catch C hNx htab (by decide) 1 rfl (fun z hz => by
          rcases (by simpa using hz : z = (0, 6, 7, 13)) with rfl
          · exact ⟨by decide, "java/lang/IndexOutOfBoundsException", clE_13, by decide, by decide⟩
          ) ⟨by decide, by decide⟩ (by decide) clE_22 (fun q9 => ?_)
      refine k_astoren C [1, 2, 3, 0] [(0, .ref (sk_ad O k)), (1, .int s), (2, .int e), (3, .ref q9)] dL_tryReplaced_11 (by decide) rfl ?_
      refine k_ldc C kc_L_24 dL_tryReplaced_12 ?_
      exact ret _ _ _ _ _ _ (by decide) (by decide) dL_tryReplaced_14 ⟨2, 0, Or.inr ⟨1, _, rfl, rfl, h9⟩, rfl⟩
  · exact ret _ _ _ _ _ _ (by decide) (by decide) dL_tryReplaced_6 ⟨0, r9, Or.inl ⟨rfl, h9⟩, rfl⟩
theorem yg_trySwap : sk_yg yL_trySwap cL_trySwap 4 [(0, 6, 7, 13), (0, 6, 11, 16)] 3 := ⟨sk_wd 812 (by decide +kernel) (by decide +kernel), ini_SkateSheetLaw, by decide +kernel, by decide +kernel, sk_wd 811 (by decide +kernel) (by decide +kernel)⟩
set_option maxRecDepth 100000 in
theorem g_L_trySwap (l : Launch) {O : sk_O} (hO : sk_inj O) (M : sk_M) (k : Nat) (s w : Int32) (hk : sk_isX O k) (hw : st_wf M (k + 1)) (hst : l.stackTraces = false) : sk_K l yL_trySwap (Cond.codeWith yL_trySwap cL_trySwap 4 (some .int) [(0, 6, 7, 13), (0, 6, 11, 16)] :: sk_tb) ({ frames := 7, cells := 1, slots := 6, locals := 160 }) O [.ref (sk_ad O k), .int s, .int w] M 1 (sk_gq ["java/lang/IndexOutOfBoundsException", "java/lang/IllegalArgumentException"] [-9999001, -9999002] (fun r M' => (er_2 (st_hs M (k + 1) s) (¬ w < 0 ∧ ¬ 2 < w)) = 0 ∧ r = (bs_a (bs_o k (st_pg (k + 1) s) (pg_n M (st_pg (k + 1) s)) (bs_z M k (st_pg (k + 1) s)) (pg_n M (st_pg (k + 1) s))) w) ∧ M' = ((bs_o k (st_pg (k + 1) s) (pg_n M (st_pg (k + 1) s)) (bs_z M k (st_pg (k + 1) s)) (pg_n M (st_pg (k + 1) s))).1)) (fun E M' => ((er_2 (st_hs M (k + 1) s) (¬ w < 0 ∧ ¬ 2 < w)) = 1 ∧ E = "java/lang/IndexOutOfBoundsException" ∨ (er_2 (st_hs M (k + 1) s) (¬ w < 0 ∧ ¬ 2 < w)) = 2 ∧ E = "java/lang/IllegalArgumentException") ∧ M' = M)) := by
  refine sk_kh (by decide) ⟨rfl, rfl⟩ hO (Nat.le_of_ble_eq_true rfl) (fun X A Q C hSr hNx htab ret => ?_)
  show sk_W l X O A Q 4 0 0 M 0 [(0, .ref (sk_ad O k)), (1, .int s), (2, .int w)] []
  refine k_aloadn C 0 dL_trySwap_0 rfl ?_
  refine k_iloadn C 1 dL_trySwap_1 rfl ?_
  refine k_iloadn C 2 dL_trySwap_2 rfl ?_
  refine k_xi C hSr (as := [.int s, .int w]) yvX7_bestSwap viX7_bestSwap ml_L_86 (m_X7_bestSwap l hO M k s w hk hw hst) hk.1 rfl rfl rfl (Nat.le_of_ble_eq_true rfl) (by decide) dL_trySwap_3 (fun E9 M9 h9 => ?_) (fun r9 M9 h9 => ?_)
  · have hm : E9 = "java/lang/IndexOutOfBoundsException" ∨ E9 = "java/lang/IllegalArgumentException" := Or.imp (fun z => z.2) (fun z => z.2) h9.1
    rcases hm with rfl | rfl
    · refine k_catch C hNx htab (by decide) 0 rfl (fun z hz => absurd hz (by simp)) ⟨by decide, by decide⟩ (by decide) clE_13 (fun q9 => ?_)
      refine k_astoren C [1, 2, 3, 0] [(0, .ref (sk_ad O k)), (1, .int s), (2, .int w), (3, .ref q9)] dL_trySwap_7 (by decide) rfl ?_
      refine k_ldc C kc_L_15 dL_trySwap_8 ?_
      exact ret _ _ _ _ _ _ (by decide) (by decide) dL_trySwap_10 ⟨1, 0, Or.inr ⟨0, _, rfl, rfl, h9⟩, rfl⟩
    · refine k_catch C hNx htab (by decide) 1 rfl (fun z hz => by
          rcases (by simpa using hz : z = (0, 6, 7, 13)) with rfl
          · exact ⟨by decide, "java/lang/IndexOutOfBoundsException", clE_13, by decide, by decide⟩
          ) ⟨by decide, by decide⟩ (by decide) clE_16 (fun q9 => ?_)
      refine k_astoren C [1, 2, 3, 0] [(0, .ref (sk_ad O k)), (1, .int s), (2, .int w), (3, .ref q9)] dL_trySwap_11 (by decide) rfl ?_
      refine k_ldc C kc_L_18 dL_trySwap_12 ?_
      exact ret _ _ _ _ _ _ (by decide) (by decide) dL_trySwap_14 ⟨2, 0, Or.inr ⟨1, _, rfl, rfl, h9⟩, rfl⟩
  · exact ret _ _ _ _ _ _ (by decide) (by decide) dL_trySwap_6 ⟨0, r9, Or.inl ⟨rfl, h9⟩, rfl⟩
theorem yg_tryNeeds : sk_yg yL_tryNeeds cL_tryNeeds 4 [(0, 6, 7, 13)] 3 := ⟨sk_wd 824 (by decide +kernel) (by decide +kernel), ini_SkateSheetLaw, by decide +kernel, by decide +kernel, sk_wd 823 (by decide +kernel) (by decide +kernel)⟩
set_option maxRecDepth 100000 in
theorem g_L_tryNeeds (l : Launch) {O : sk_O} (hO : sk_inj O) (M : sk_M) (k : Nat) (s e : Int32) (hk : sk_isX O k) (hw : st_wf M (k + 1)) (hst : l.stackTraces = false) : sk_K l yL_tryNeeds (Cond.codeWith yL_tryNeeds cL_tryNeeds 4 (some .int) [(0, 6, 7, 13)] :: sk_tb) ({ frames := 7, cells := 1, slots := 6, locals := 158 }) O [.ref (sk_ad O k), .int s, .int e] M 1 (sk_gq ["java/lang/IndexOutOfBoundsException"] [-9999001] (nd_q M k s e) (fun E M' => E = "java/lang/IndexOutOfBoundsException" ∧ ¬ st_he M (k + 1) s e ∧ M' = M)) := by
  refine sk_kh (by decide) ⟨rfl, rfl⟩ hO (Nat.le_of_ble_eq_true rfl) (fun X A Q C hSr hNx htab ret => ?_)
  show sk_W l X O A Q 4 0 0 M 0 [(0, .ref (sk_ad O k)), (1, .int s), (2, .int e)] []
  refine k_aloadn C 0 dL_tryNeeds_0 rfl ?_
  refine k_iloadn C 1 dL_tryNeeds_1 rfl ?_
  refine k_iloadn C 2 dL_tryNeeds_2 rfl ?_
  refine k_xi C hSr (as := [.int s, .int e]) yvX7_needs viX7_needs ml_L_89 (m_X7_needs l hO M k s e hk hw hst) hk.1 rfl rfl rfl (Nat.le_of_ble_eq_true rfl) (by decide) dL_tryNeeds_3 (fun E9 M9 h9 => ?_) (fun r9 M9 h9 => ?_)
  · have hm : E9 = "java/lang/IndexOutOfBoundsException" := h9.1
    subst hm
    refine k_catch C hNx htab (by decide) 0 rfl (fun z hz => absurd hz (by simp)) ⟨by decide, by decide⟩ (by decide) clE_13 (fun q9 => ?_)
    refine k_astoren C [1, 2, 3, 0] [(0, .ref (sk_ad O k)), (1, .int s), (2, .int e), (3, .ref q9)] dL_tryNeeds_7 (by decide) rfl ?_
    refine k_ldc C kc_L_15 dL_tryNeeds_8 ?_
    exact ret _ _ _ _ _ _ (by decide) (by decide) dL_tryNeeds_10 ⟨1, 0, Or.inr ⟨0, _, rfl, rfl, h9⟩, rfl⟩
  · exact ret _ _ _ _ _ _ (by decide) (by decide) dL_tryNeeds_6 ⟨0, r9, Or.inl ⟨rfl, h9⟩, rfl⟩
theorem yg_tryBehind : sk_yg yL_tryBehind cL_tryBehind 3 [(0, 5, 6, 13)] 2 := ⟨sk_wd 832 (by decide +kernel) (by decide +kernel), ini_SkateSheetLaw, by decide +kernel, by decide +kernel, sk_wd 831 (by decide +kernel) (by decide +kernel)⟩
set_option maxRecDepth 100000 in
theorem g_L_tryBehind (l : Launch) {O : sk_O} (hO : sk_inj O) (M : sk_M) (k : Nat) (s : Int32) (hk : sk_isX O k) (hw : st_wf M (k + 1)) (hst : l.stackTraces = false) : sk_K l yL_tryBehind (Cond.codeWith yL_tryBehind cL_tryBehind 3 (some .int) [(0, 5, 6, 13)] :: sk_tb) ({ frames := 7, cells := 1, slots := 6, locals := 153 }) O [.ref (sk_ad O k), .int s] M 1 (sk_gq ["java/lang/IndexOutOfBoundsException"] [-9999001] (fun r M' => (er_1 (st_hs M (k + 1) s)) = 0 ∧ r = (x_be M k s) ∧ M' = (x_RK M k)) (fun E M' => ((er_1 (st_hs M (k + 1) s)) = 1 ∧ E = "java/lang/IndexOutOfBoundsException") ∧ M' = M)) := by
  refine sk_kh (by decide) ⟨rfl, rfl⟩ hO (Nat.le_of_ble_eq_true rfl) (fun X A Q C hSr hNx htab ret => ?_)
  show sk_W l X O A Q 3 0 0 M 0 [(0, .ref (sk_ad O k)), (1, .int s)] []
  refine k_aloadn C 0 dL_tryBehind_0 rfl ?_
  refine k_iloadn C 1 dL_tryBehind_1 rfl ?_
  refine k_xi C hSr (as := [.int s]) yvX7_behind viX7_behind ml_L_92 (m_X7_behind l hO M k s hk hw hst) hk.1 rfl rfl rfl (Nat.le_of_ble_eq_true rfl) (by decide) dL_tryBehind_2 (fun E9 M9 h9 => ?_) (fun r9 M9 h9 => ?_)
  · have hm : E9 = "java/lang/IndexOutOfBoundsException" := h9.1.2
    subst hm
    refine k_catch C hNx htab (by decide) 0 rfl (fun z hz => absurd hz (by simp)) ⟨by decide, by decide⟩ (by decide) clE_13 (fun q9 => ?_)
    refine k_astoren C [1, 2, 0] [(0, .ref (sk_ad O k)), (1, .int s), (2, .ref q9)] dL_tryBehind_6 (by decide) rfl ?_
    refine k_ldc C kc_L_15 dL_tryBehind_7 ?_
    exact ret _ _ _ _ _ _ (by decide) (by decide) dL_tryBehind_9 ⟨1, 0, Or.inr ⟨0, _, rfl, rfl, h9⟩, rfl⟩
  · exact ret _ _ _ _ _ _ (by decide) (by decide) dL_tryBehind_5 ⟨0, r9, Or.inl ⟨rfl, h9⟩, rfl⟩
theorem yg_tryKeep : sk_yg yL_tryKeep cL_tryKeep 3 [(0, 5, 6, 13)] 2 := ⟨sk_wd 839 (by decide +kernel) (by decide +kernel), ini_SkateSheetLaw, by decide +kernel, by decide +kernel, sk_wd 838 (by decide +kernel) (by decide +kernel)⟩
set_option maxRecDepth 100000 in
theorem g_L_tryKeep (l : Launch) {O : sk_O} (hO : sk_inj O) (M : sk_M) (k : Nat) (j : Int32) (hk : sk_isX O k) (hw : st_wf M (k + 1)) (hst : l.stackTraces = false) : sk_K l yL_tryKeep (Cond.codeWith yL_tryKeep cL_tryKeep 3 (some .int) [(0, 5, 6, 13)] :: sk_tb) ({ frames := 7, cells := 1, slots := 6, locals := 145 }) O [.ref (sk_ad O k), .int j] M 1 (sk_gq ["java/lang/IndexOutOfBoundsException"] [-9999001] (fun r M' => (er_1 (¬ j < 0 ∧ ¬ 2 ≤ j)) = 0 ∧ r = (sk_ms (st_cf M (k + 649 + 43 * j.toNatClampNeg) (k + 1)) (k + 735) j.toNatClampNeg 1 (k + 1) 2) ∧ M' = (sk_ms (st_cf M (k + 649 + 43 * j.toNatClampNeg) (k + 1)) (k + 735) j.toNatClampNeg 1)) (fun E M' => ((er_1 (¬ j < 0 ∧ ¬ 2 ≤ j)) = 1 ∧ E = "java/lang/IndexOutOfBoundsException") ∧ M' = M)) := by
  refine sk_kh (by decide) ⟨rfl, rfl⟩ hO (Nat.le_of_ble_eq_true rfl) (fun X A Q C hSr hNx htab ret => ?_)
  show sk_W l X O A Q 3 0 0 M 0 [(0, .ref (sk_ad O k)), (1, .int j)] []
  refine k_aloadn C 0 dL_tryKeep_0 rfl ?_
  refine k_iloadn C 1 dL_tryKeep_1 rfl ?_
  refine k_xi C hSr (as := [.int j]) yvX7_save viX7_save ml_L_95 (m_X7_save l hO M k j hk hw hst) hk.1 rfl rfl rfl (Nat.le_of_ble_eq_true rfl) (by decide) dL_tryKeep_2 (fun E9 M9 h9 => ?_) (fun r9 M9 h9 => ?_)
  · have hm : E9 = "java/lang/IndexOutOfBoundsException" := h9.1.2
    subst hm
    refine k_catch C hNx htab (by decide) 0 rfl (fun z hz => absurd hz (by simp)) ⟨by decide, by decide⟩ (by decide) clE_13 (fun q9 => ?_)
    refine k_astoren C [1, 2, 0] [(0, .ref (sk_ad O k)), (1, .int j), (2, .ref q9)] dL_tryKeep_6 (by decide) rfl ?_
    refine k_ldc C kc_L_15 dL_tryKeep_7 ?_
    exact ret _ _ _ _ _ _ (by decide) (by decide) dL_tryKeep_9 ⟨1, 0, Or.inr ⟨0, _, rfl, rfl, h9⟩, rfl⟩
  · exact ret _ _ _ _ _ _ (by decide) (by decide) dL_tryKeep_5 ⟨0, r9, Or.inl ⟨rfl, h9⟩, rfl⟩
theorem yg_tryBack : sk_yg yL_tryBack cL_tryBack 3 [(0, 5, 6, 13), (0, 5, 10, 22)] 2 := ⟨sk_wd 848 (by decide +kernel) (by decide +kernel), ini_SkateSheetLaw, by decide +kernel, by decide +kernel, sk_wd 847 (by decide +kernel) (by decide +kernel)⟩
set_option maxRecDepth 100000 in
theorem g_L_tryBack (l : Launch) {O : sk_O} (hO : sk_inj O) (M : sk_M) (k : Nat) (j : Int32) (hk : sk_isX O k) (hwj : ¬ j < 0 → ¬ 2 ≤ j → M (k + 735) j.toNatClampNeg = 0 ∨ st_wf M (k + 649 + 43 * j.toNatClampNeg)) (hst : l.stackTraces = false) : sk_K l yL_tryBack (Cond.codeWith yL_tryBack cL_tryBack 3 (some .int) [(0, 5, 6, 13), (0, 5, 10, 22)] :: sk_tb) ({ frames := 7, cells := 1, slots := 6, locals := 145 }) O [.ref (sk_ad O k), .int j] M 1 (sk_gq ["java/lang/IndexOutOfBoundsException", "java/lang/IllegalStateException"] [-9999001, -9999003] (fun r M' => (er_2 (¬ j < 0 ∧ ¬ 2 ≤ j) (¬ M (k + 735) j.toNatClampNeg = 0)) = 0 ∧ r = (sk_ms (st_cf M (k + 1) (k + 649 + 43 * j.toNatClampNeg)) (k + 44) 2 0 (k + 1) 2) ∧ M' = (sk_ms (st_cf M (k + 1) (k + 649 + 43 * j.toNatClampNeg)) (k + 44) 2 0)) (fun E M' => ((er_2 (¬ j < 0 ∧ ¬ 2 ≤ j) (¬ M (k + 735) j.toNatClampNeg = 0)) = 1 ∧ E = "java/lang/IndexOutOfBoundsException" ∨ (er_2 (¬ j < 0 ∧ ¬ 2 ≤ j) (¬ M (k + 735) j.toNatClampNeg = 0)) = 2 ∧ E = "java/lang/IllegalStateException") ∧ M' = M)) := by
  refine sk_kh (by decide) ⟨rfl, rfl⟩ hO (Nat.le_of_ble_eq_true rfl) (fun X A Q C hSr hNx htab ret => ?_)
  show sk_W l X O A Q 3 0 0 M 0 [(0, .ref (sk_ad O k)), (1, .int j)] []
  refine k_aloadn C 0 dL_tryBack_0 rfl ?_
  refine k_iloadn C 1 dL_tryBack_1 rfl ?_
  refine k_xi C hSr (as := [.int j]) yvX7_restore viX7_restore ml_L_98 (m_X7_restore l hO M k j hk hwj hst) hk.1 rfl rfl rfl (Nat.le_of_ble_eq_true rfl) (by decide) dL_tryBack_2 (fun E9 M9 h9 => ?_) (fun r9 M9 h9 => ?_)
  · have hm : E9 = "java/lang/IndexOutOfBoundsException" ∨ E9 = "java/lang/IllegalStateException" := Or.imp (fun z => z.2) (fun z => z.2) h9.1
    rcases hm with rfl | rfl
    · refine k_catch C hNx htab (by decide) 0 rfl (fun z hz => absurd hz (by simp)) ⟨by decide, by decide⟩ (by decide) clE_13 (fun q9 => ?_)
      refine k_astoren C [1, 2, 0] [(0, .ref (sk_ad O k)), (1, .int j), (2, .ref q9)] dL_tryBack_6 (by decide) rfl ?_
      refine k_ldc C kc_L_15 dL_tryBack_7 ?_
      exact ret _ _ _ _ _ _ (by decide) (by decide) dL_tryBack_9 ⟨1, 0, Or.inr ⟨0, _, rfl, rfl, h9⟩, rfl⟩
    · refine k_catch C hNx htab (by decide) 1 rfl (fun z hz => by
          rcases (by simpa using hz : z = (0, 5, 6, 13)) with rfl
          · exact ⟨by decide, "java/lang/IndexOutOfBoundsException", clE_13, by decide, by decide⟩
          ) ⟨by decide, by decide⟩ (by decide) clE_22 (fun q9 => ?_)
      refine k_astoren C [1, 2, 0] [(0, .ref (sk_ad O k)), (1, .int j), (2, .ref q9)] dL_tryBack_10 (by decide) rfl ?_
      refine k_ldc C kc_L_24 dL_tryBack_11 ?_
      exact ret _ _ _ _ _ _ (by decide) (by decide) dL_tryBack_13 ⟨2, 0, Or.inr ⟨1, _, rfl, rfl, h9⟩, rfl⟩
  · exact ret _ _ _ _ _ _ (by decide) (by decide) dL_tryBack_5 ⟨0, r9, Or.inl ⟨rfl, h9⟩, rfl⟩
