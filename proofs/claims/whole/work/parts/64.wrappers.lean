/-! The law: its guarded calls (printed by l2.py) -/
theorem clE_13 : Cond.classLink RL 13 "java/lang/IllegalArgumentException" ∈ sk_tb := sk_wd 389 (by decide +kernel) (by decide +kernel)
theorem clE_15 : Cond.classLink RL 15 "java/lang/IllegalStateException" ∈ sk_tb := sk_wd 390 (by decide +kernel) (by decide +kernel)
theorem clE_24 : Cond.classLink RL 24 "java/lang/IndexOutOfBoundsException" ∈ sk_tb := sk_wd 591 (by decide +kernel) (by decide +kernel)
theorem yg_append : sk_yg yL_append cL_append 4 [(0, 9, 12, 13), (0, 9, 15, 15)] 3 := ⟨sk_wd 388 (by decide +kernel) (by decide +kernel), ini_SkateSheetLaw, by decide +kernel, by decide +kernel, sk_wd 387 (by decide +kernel) (by decide +kernel)⟩
set_option maxRecDepth 100000 in
theorem g_L_append (l : Launch) {O : sk_O} (hO : sk_inj O) (M : sk_M) (k : Nat) (c : Int32) (hk : sk_isX O k) (n : Nat) (hn : M (k + 736) 1 = nI n) (hn2 : n ≤ 120) (hst : l.stackTraces = false) (ca : Nat) (cA : ClassId) (v0 : Int64) : sk_G l yL_append (Cond.codeWith yL_append cL_append 4 (some .int) [(0, 9, 12, 13), (0, 9, 15, 15)] :: sk_tb) ({ frames := 7, cells := 1, slots := 6, locals := 103 }) O ca cA [.ref (sk_ad O k), .int c, .ref ca] M v0 (sk_gq ["java/lang/IllegalArgumentException", "java/lang/IllegalStateException"] (fun r M' => (er_2 (¬ c < 0 ∧ ¬ 255 < c) (n < 120)) = 0 ∧ r = (nI (n + 1)) ∧ M' = (sk_ms (sk_ms M (k + 736 + 1) n c) (k + 736) 1 (M (k + 736) 1 + 1))) (fun E M' => ((er_2 (¬ c < 0 ∧ ¬ 255 < c) (n < 120)) = 1 ∧ E = "java/lang/IllegalArgumentException" ∨ (er_2 (¬ c < 0 ∧ ¬ 255 < c) (n < 120)) = 2 ∧ E = "java/lang/IllegalStateException") ∧ M' = M)) := by
  refine sk_gi (by decide) ⟨rfl, rfl⟩ hO (Nat.le_of_ble_eq_true rfl) (fun X A Q C L hSr hNx htab ret => ?_)
  show sk_L l X O A Q ca cA v0 4 0 0 M 0 [(0, .ref (sk_ad O k)), (1, .int c), (2, .ref ca)] []
  refine l_aloadn C 2 dL_append_0 rfl ?_
  refine l_iconst C (0) dL_append_1 (by decide) ?_
  refine l_aloadn C 0 dL_append_2 rfl ?_
  refine l_iloadn C 1 dL_append_3 rfl ?_
  refine l_xi C L hSr (as := [.int c]) yvX7_append viX7_append ml_L_7 (m_X7_append l hO M k c hk n hn hn2 hst) hk.1 rfl rfl rfl (Nat.le_of_ble_eq_true rfl) (by decide) dL_append_4 (fun E9 M9 h9 => ?_) (fun r9 M9 h9 => ?_)
  · have hm : E9 = "java/lang/IllegalArgumentException" ∨ E9 = "java/lang/IllegalStateException" := Or.imp (fun z => z.2) (fun z => z.2) h9.1
    rcases hm with rfl | rfl
    · refine l_catch C hNx htab (by decide) 0 rfl (fun z hz => absurd hz (by simp)) ⟨by decide, by decide⟩ (by decide) clE_13 (fun q9 => ?_)
      refine l_astoren C [0, 1, 2, 3] [(3, .ref q9), (0, .ref (sk_ad O k)), (1, .int c), (2, .ref ca)] dL_append_12 (by decide) rfl ?_
      refine l_iconst C (1) dL_append_13 (by decide) ?_
      exact ret _ _ _ _ _ _ _ (by decide) (by decide) dL_append_14 ⟨1, 0, rfl, by decide, Or.inr ⟨0, _, rfl, rfl, h9⟩, fun h => absurd h (by decide)⟩
    · refine l_catch C hNx htab (by decide) 1 rfl (fun z hz => by
          rcases (by simpa using hz : z = (0, 9, 12, 13)) with rfl
          · exact ⟨by decide, "java/lang/IllegalArgumentException", clE_13, by decide, by decide⟩
          ) ⟨by decide, by decide⟩ (by decide) clE_15 (fun q9 => ?_)
      refine l_astoren C [0, 1, 2, 3] [(3, .ref q9), (0, .ref (sk_ad O k)), (1, .int c), (2, .ref ca)] dL_append_15 (by decide) rfl ?_
      refine l_iconst C (2) dL_append_16 (by decide) ?_
      exact ret _ _ _ _ _ _ _ (by decide) (by decide) dL_append_17 ⟨2, 0, rfl, by decide, Or.inr ⟨1, _, rfl, rfl, h9⟩, fun h => absurd h (by decide)⟩
  · refine l_i2l C dL_append_7 ?_
    refine l_last C L dL_append_8 ?_
    refine l_goto C 18 dL_append_9 (by decide) ?_
    refine l_iconst C (0) dL_append_18 (by decide) ?_
    exact ret _ _ _ _ _ _ _ (by decide) (by decide) dL_append_19 ⟨0, r9, rfl, by decide, Or.inl ⟨rfl, h9⟩, fun _ => rfl⟩
theorem yg_about : sk_yg yL_about cL_about 4 [(0, 9, 12, 13)] 3 := ⟨sk_wd 490 (by decide +kernel) (by decide +kernel), ini_SkateSheetLaw, by decide +kernel, by decide +kernel, sk_wd 489 (by decide +kernel) (by decide +kernel)⟩
set_option maxRecDepth 100000 in
theorem g_L_about (l : Launch) {O : sk_O} (hO : sk_inj O) (M : sk_M) (k : Nat) (w : Int32) (hk : sk_isX O k) (hw : st_wf M (k + 1)) (hst : l.stackTraces = false) (ca : Nat) (cA : ClassId) (v0 : Int64) : sk_G l yL_about (Cond.codeWith yL_about cL_about 4 (some .int) [(0, 9, 12, 13)] :: sk_tb) ({ frames := 7, cells := 1, slots := 6, locals := 152 }) O ca cA [.ref (sk_ad O k), .int w, .ref ca] M v0 (sk_gq ["java/lang/IllegalArgumentException"] (fun r M' => (er_1 (¬ w < 0 ∧ ¬ 5 < w)) = 0 ∧ r = (x_ab M k w) ∧ M' = (x_am M k w)) (fun E M' => ((er_1 (¬ w < 0 ∧ ¬ 5 < w)) = 1 ∧ E = "java/lang/IllegalArgumentException") ∧ M' = M)) := by
  refine sk_gi (by decide) ⟨rfl, rfl⟩ hO (Nat.le_of_ble_eq_true rfl) (fun X A Q C L hSr hNx htab ret => ?_)
  show sk_L l X O A Q ca cA v0 4 0 0 M 0 [(0, .ref (sk_ad O k)), (1, .int w), (2, .ref ca)] []
  refine l_aloadn C 2 dL_about_0 rfl ?_
  refine l_iconst C (0) dL_about_1 (by decide) ?_
  refine l_aloadn C 0 dL_about_2 rfl ?_
  refine l_iloadn C 1 dL_about_3 rfl ?_
  refine l_xi C L hSr (as := [.int w]) yvX7_about viX7_about ml_L_17 (m_X7_about l hO M k w hk hw hst) hk.1 rfl rfl rfl (Nat.le_of_ble_eq_true rfl) (by decide) dL_about_4 (fun E9 M9 h9 => ?_) (fun r9 M9 h9 => ?_)
  · have hm : E9 = "java/lang/IllegalArgumentException" := h9.1.2
    subst hm
    refine l_catch C hNx htab (by decide) 0 rfl (fun z hz => absurd hz (by simp)) ⟨by decide, by decide⟩ (by decide) clE_13 (fun q9 => ?_)
    refine l_astoren C [0, 1, 2, 3] [(3, .ref q9), (0, .ref (sk_ad O k)), (1, .int w), (2, .ref ca)] dL_about_12 (by decide) rfl ?_
    refine l_iconst C (1) dL_about_13 (by decide) ?_
    exact ret _ _ _ _ _ _ _ (by decide) (by decide) dL_about_14 ⟨1, 0, rfl, by decide, Or.inr ⟨0, _, rfl, rfl, h9⟩, fun h => absurd h (by decide)⟩
  · refine l_i2l C dL_about_7 ?_
    refine l_last C L dL_about_8 ?_
    refine l_goto C 15 dL_about_9 (by decide) ?_
    refine l_iconst C (0) dL_about_15 (by decide) ?_
    exact ret _ _ _ _ _ _ _ (by decide) (by decide) dL_about_16 ⟨0, r9, rfl, by decide, Or.inl ⟨rfl, h9⟩, fun _ => rfl⟩
theorem yg_skater : sk_yg yL_skater cL_skater 5 [(0, 10, 13, 24), (0, 10, 17, 13)] 4 := ⟨sk_wd 590 (by decide +kernel) (by decide +kernel), ini_SkateSheetLaw, by decide +kernel, by decide +kernel, sk_wd 589 (by decide +kernel) (by decide +kernel)⟩
set_option maxRecDepth 100000 in
theorem g_L_skater (l : Launch) {O : sk_O} (hO : sk_inj O) (M : sk_M) (k : Nat) (s w : Int32) (hk : sk_isX O k) (hw : st_wf M (k + 1)) (hst : l.stackTraces = false) (ca : Nat) (cA : ClassId) (v0 : Int64) : sk_G l yL_skater (Cond.codeWith yL_skater cL_skater 5 (some .int) [(0, 10, 13, 24), (0, 10, 17, 13)] :: sk_tb) ({ frames := 7, cells := 1, slots := 6, locals := 154 }) O ca cA [.ref (sk_ad O k), .int s, .int w, .ref ca] M v0 (sk_gq ["java/lang/IndexOutOfBoundsException", "java/lang/IllegalArgumentException"] (fun r M' => (er_2 (st_hs M (k + 1) s) (¬ w < 0 ∧ ¬ 7 < w)) = 0 ∧ r = (x_sk M k s w) ∧ M' = (if w = 5 then x_RK (x_R M k (st_pg (k + 1) s)) k else x_R M k (st_pg (k + 1) s))) (fun E M' => ((er_2 (st_hs M (k + 1) s) (¬ w < 0 ∧ ¬ 7 < w)) = 1 ∧ E = "java/lang/IndexOutOfBoundsException" ∨ (er_2 (st_hs M (k + 1) s) (¬ w < 0 ∧ ¬ 7 < w)) = 2 ∧ E = "java/lang/IllegalArgumentException") ∧ M' = M)) := by
  refine sk_gi (by decide) ⟨rfl, rfl⟩ hO (Nat.le_of_ble_eq_true rfl) (fun X A Q C L hSr hNx htab ret => ?_)
  show sk_L l X O A Q ca cA v0 5 0 0 M 0 [(0, .ref (sk_ad O k)), (1, .int s), (2, .int w), (3, .ref ca)] []
  refine l_aloadn C 3 dL_skater_0 rfl ?_
  refine l_iconst C (0) dL_skater_1 (by decide) ?_
  refine l_aloadn C 0 dL_skater_2 rfl ?_
  refine l_iloadn C 1 dL_skater_3 rfl ?_
  refine l_iloadn C 2 dL_skater_4 rfl ?_
  refine l_xi C L hSr (as := [.int s, .int w]) yvX7_skater viX7_skater ml_L_20 (m_X7_skater l hO M k s w hk hw hst) hk.1 rfl rfl rfl (Nat.le_of_ble_eq_true rfl) (by decide) dL_skater_5 (fun E9 M9 h9 => ?_) (fun r9 M9 h9 => ?_)
  · have hm : E9 = "java/lang/IndexOutOfBoundsException" ∨ E9 = "java/lang/IllegalArgumentException" := Or.imp (fun z => z.2) (fun z => z.2) h9.1
    rcases hm with rfl | rfl
    · refine l_catch C hNx htab (by decide) 0 rfl (fun z hz => absurd hz (by simp)) ⟨by decide, by decide⟩ (by decide) clE_24 (fun q9 => ?_)
      refine l_astore C [0, 1, 2, 3, 4] [(4, .ref q9), (0, .ref (sk_ad O k)), (1, .int s), (2, .int w), (3, .ref ca)] dL_skater_13 (by decide) rfl ?_
      refine l_iconst C (1) dL_skater_15 (by decide) ?_
      exact ret _ _ _ _ _ _ _ (by decide) (by decide) dL_skater_16 ⟨1, 0, rfl, by decide, Or.inr ⟨0, _, rfl, rfl, h9⟩, fun h => absurd h (by decide)⟩
    · refine l_catch C hNx htab (by decide) 1 rfl (fun z hz => by
          rcases (by simpa using hz : z = (0, 10, 13, 24)) with rfl
          · exact ⟨by decide, "java/lang/IndexOutOfBoundsException", clE_24, by decide, by decide⟩
          ) ⟨by decide, by decide⟩ (by decide) clE_13 (fun q9 => ?_)
      refine l_astore C [0, 1, 2, 3, 4] [(4, .ref q9), (0, .ref (sk_ad O k)), (1, .int s), (2, .int w), (3, .ref ca)] dL_skater_17 (by decide) rfl ?_
      refine l_iconst C (2) dL_skater_19 (by decide) ?_
      exact ret _ _ _ _ _ _ _ (by decide) (by decide) dL_skater_20 ⟨2, 0, rfl, by decide, Or.inr ⟨1, _, rfl, rfl, h9⟩, fun h => absurd h (by decide)⟩
  · refine l_i2l C dL_skater_8 ?_
    refine l_last C L dL_skater_9 ?_
    refine l_goto C 21 dL_skater_10 (by decide) ?_
    refine l_iconst C (0) dL_skater_21 (by decide) ?_
    exact ret _ _ _ _ _ _ _ (by decide) (by decide) dL_skater_22 ⟨0, r9, rfl, by decide, Or.inl ⟨rfl, h9⟩, fun _ => rfl⟩
theorem yg_element : sk_yg yL_element cL_element 6 [(0, 12, 15, 24), (0, 12, 19, 13)] 5 := ⟨sk_wd 626 (by decide +kernel) (by decide +kernel), ini_SkateSheetLaw, by decide +kernel, by decide +kernel, sk_wd 625 (by decide +kernel) (by decide +kernel)⟩
set_option maxRecDepth 100000 in
theorem g_L_element (l : Launch) {O : sk_O} (hO : sk_inj O) (M : sk_M) (k : Nat) (s e w : Int32) (hk : sk_isX O k) (hw : st_wf M (k + 1)) (hst : l.stackTraces = false) (ca : Nat) (cA : ClassId) (v0 : Int64) : sk_G l yL_element (Cond.codeWith yL_element cL_element 6 (some .int) [(0, 12, 15, 24), (0, 12, 19, 13)] :: sk_tb) ({ frames := 7, cells := 1, slots := 6, locals := 132 }) O ca cA [.ref (sk_ad O k), .int s, .int e, .int w, .ref ca] M v0 (sk_gq ["java/lang/IndexOutOfBoundsException", "java/lang/IllegalArgumentException"] (fun r M' => (er_2 (st_he M (k + 1) s e) (¬ w < 0 ∧ ¬ 8 < w)) = 0 ∧ r = (x_el M k s e w) ∧ M' = (x_R M k (st_pg (k + 1) s))) (fun E M' => ((er_2 (st_he M (k + 1) s e) (¬ w < 0 ∧ ¬ 8 < w)) = 1 ∧ E = "java/lang/IndexOutOfBoundsException" ∨ (er_2 (st_he M (k + 1) s e) (¬ w < 0 ∧ ¬ 8 < w)) = 2 ∧ E = "java/lang/IllegalArgumentException") ∧ M' = M)) := by
  refine sk_gi (by decide) ⟨rfl, rfl⟩ hO (Nat.le_of_ble_eq_true rfl) (fun X A Q C L hSr hNx htab ret => ?_)
  show sk_L l X O A Q ca cA v0 6 0 0 M 0 [(0, .ref (sk_ad O k)), (1, .int s), (2, .int e), (3, .int w), (4, .ref ca)] []
  refine l_aload C 4 dL_element_0 rfl ?_
  refine l_iconst C (0) dL_element_2 (by decide) ?_
  refine l_aloadn C 0 dL_element_3 rfl ?_
  refine l_iloadn C 1 dL_element_4 rfl ?_
  refine l_iloadn C 2 dL_element_5 rfl ?_
  refine l_iloadn C 3 dL_element_6 rfl ?_
  refine l_xi C L hSr (as := [.int s, .int e, .int w]) yvX7_element viX7_element ml_L_26 (m_X7_element l hO M k s e w hk hw hst) hk.1 rfl rfl rfl (Nat.le_of_ble_eq_true rfl) (by decide) dL_element_7 (fun E9 M9 h9 => ?_) (fun r9 M9 h9 => ?_)
  · have hm : E9 = "java/lang/IndexOutOfBoundsException" ∨ E9 = "java/lang/IllegalArgumentException" := Or.imp (fun z => z.2) (fun z => z.2) h9.1
    rcases hm with rfl | rfl
    · refine l_catch C hNx htab (by decide) 0 rfl (fun z hz => absurd hz (by simp)) ⟨by decide, by decide⟩ (by decide) clE_24 (fun q9 => ?_)
      refine l_astore C [0, 1, 2, 3, 4, 5] [(5, .ref q9), (0, .ref (sk_ad O k)), (1, .int s), (2, .int e), (3, .int w), (4, .ref ca)] dL_element_15 (by decide) rfl ?_
      refine l_iconst C (1) dL_element_17 (by decide) ?_
      exact ret _ _ _ _ _ _ _ (by decide) (by decide) dL_element_18 ⟨1, 0, rfl, by decide, Or.inr ⟨0, _, rfl, rfl, h9⟩, fun h => absurd h (by decide)⟩
    · refine l_catch C hNx htab (by decide) 1 rfl (fun z hz => by
          rcases (by simpa using hz : z = (0, 12, 15, 24)) with rfl
          · exact ⟨by decide, "java/lang/IndexOutOfBoundsException", clE_24, by decide, by decide⟩
          ) ⟨by decide, by decide⟩ (by decide) clE_13 (fun q9 => ?_)
      refine l_astore C [0, 1, 2, 3, 4, 5] [(5, .ref q9), (0, .ref (sk_ad O k)), (1, .int s), (2, .int e), (3, .int w), (4, .ref ca)] dL_element_19 (by decide) rfl ?_
      refine l_iconst C (2) dL_element_21 (by decide) ?_
      exact ret _ _ _ _ _ _ _ (by decide) (by decide) dL_element_22 ⟨2, 0, rfl, by decide, Or.inr ⟨1, _, rfl, rfl, h9⟩, fun h => absurd h (by decide)⟩
  · refine l_i2l C dL_element_10 ?_
    refine l_last C L dL_element_11 ?_
    refine l_goto C 23 dL_element_12 (by decide) ?_
    refine l_iconst C (0) dL_element_23 (by decide) ?_
    exact ret _ _ _ _ _ _ _ (by decide) (by decide) dL_element_24 ⟨0, r9, rfl, by decide, Or.inl ⟨rfl, h9⟩, fun _ => rfl⟩
theorem yg_part : sk_yg yL_part cL_part 7 [(0, 14, 17, 24), (0, 14, 21, 13)] 6 := ⟨sk_wd 640 (by decide +kernel) (by decide +kernel), ini_SkateSheetLaw, by decide +kernel, by decide +kernel, sk_wd 639 (by decide +kernel) (by decide +kernel)⟩
set_option maxRecDepth 100000 in
theorem g_L_part (l : Launch) {O : sk_O} (hO : sk_inj O) (M : sk_M) (k : Nat) (s e p w : Int32) (hk : sk_isX O k) (hw : st_wf M (k + 1)) (hst : l.stackTraces = false) (ca : Nat) (cA : ClassId) (v0 : Int64) : sk_G l yL_part (Cond.codeWith yL_part cL_part 7 (some .int) [(0, 14, 17, 24), (0, 14, 21, 13)] :: sk_tb) ({ frames := 7, cells := 1, slots := 6, locals := 134 }) O ca cA [.ref (sk_ad O k), .int s, .int e, .int p, .int w, .ref ca] M v0 (sk_gq ["java/lang/IndexOutOfBoundsException", "java/lang/IllegalArgumentException"] (fun r M' => (er_2 (st_hp M (k + 1) s e p) (¬ w < 0 ∧ ¬ 4 < w)) = 0 ∧ r = (x_pa M k s e p w) ∧ M' = (x_pm M k s w)) (fun E M' => ((er_2 (st_hp M (k + 1) s e p) (¬ w < 0 ∧ ¬ 4 < w)) = 1 ∧ E = "java/lang/IndexOutOfBoundsException" ∨ (er_2 (st_hp M (k + 1) s e p) (¬ w < 0 ∧ ¬ 4 < w)) = 2 ∧ E = "java/lang/IllegalArgumentException") ∧ M' = M)) := by
  refine sk_gi (by decide) ⟨rfl, rfl⟩ hO (Nat.le_of_ble_eq_true rfl) (fun X A Q C L hSr hNx htab ret => ?_)
  show sk_L l X O A Q ca cA v0 7 0 0 M 0 [(0, .ref (sk_ad O k)), (1, .int s), (2, .int e), (3, .int p), (4, .int w), (5, .ref ca)] []
  refine l_aload C 5 dL_part_0 rfl ?_
  refine l_iconst C (0) dL_part_2 (by decide) ?_
  refine l_aloadn C 0 dL_part_3 rfl ?_
  refine l_iloadn C 1 dL_part_4 rfl ?_
  refine l_iloadn C 2 dL_part_5 rfl ?_
  refine l_iloadn C 3 dL_part_6 rfl ?_
  refine l_iload C 4 dL_part_7 rfl ?_
  refine l_xi C L hSr (as := [.int s, .int e, .int p, .int w]) yvX7_part viX7_part ml_L_30 (m_X7_part l hO M k s e p w hk hw hst) hk.1 rfl rfl rfl (Nat.le_of_ble_eq_true rfl) (by decide) dL_part_9 (fun E9 M9 h9 => ?_) (fun r9 M9 h9 => ?_)
  · have hm : E9 = "java/lang/IndexOutOfBoundsException" ∨ E9 = "java/lang/IllegalArgumentException" := Or.imp (fun z => z.2) (fun z => z.2) h9.1
    rcases hm with rfl | rfl
    · refine l_catch C hNx htab (by decide) 0 rfl (fun z hz => absurd hz (by simp)) ⟨by decide, by decide⟩ (by decide) clE_24 (fun q9 => ?_)
      refine l_astore C [0, 1, 2, 3, 4, 5, 6] [(6, .ref q9), (0, .ref (sk_ad O k)), (1, .int s), (2, .int e), (3, .int p), (4, .int w), (5, .ref ca)] dL_part_17 (by decide) rfl ?_
      refine l_iconst C (1) dL_part_19 (by decide) ?_
      exact ret _ _ _ _ _ _ _ (by decide) (by decide) dL_part_20 ⟨1, 0, rfl, by decide, Or.inr ⟨0, _, rfl, rfl, h9⟩, fun h => absurd h (by decide)⟩
    · refine l_catch C hNx htab (by decide) 1 rfl (fun z hz => by
          rcases (by simpa using hz : z = (0, 14, 17, 24)) with rfl
          · exact ⟨by decide, "java/lang/IndexOutOfBoundsException", clE_24, by decide, by decide⟩
          ) ⟨by decide, by decide⟩ (by decide) clE_13 (fun q9 => ?_)
      refine l_astore C [0, 1, 2, 3, 4, 5, 6] [(6, .ref q9), (0, .ref (sk_ad O k)), (1, .int s), (2, .int e), (3, .int p), (4, .int w), (5, .ref ca)] dL_part_21 (by decide) rfl ?_
      refine l_iconst C (2) dL_part_23 (by decide) ?_
      exact ret _ _ _ _ _ _ _ (by decide) (by decide) dL_part_24 ⟨2, 0, rfl, by decide, Or.inr ⟨1, _, rfl, rfl, h9⟩, fun h => absurd h (by decide)⟩
  · refine l_i2l C dL_part_12 ?_
    refine l_last C L dL_part_13 ?_
    refine l_goto C 25 dL_part_14 (by decide) ?_
    refine l_iconst C (0) dL_part_25 (by decide) ?_
    exact ret _ _ _ _ _ _ _ (by decide) (by decide) dL_part_26 ⟨0, r9, rfl, by decide, Or.inl ⟨rfl, h9⟩, fun _ => rfl⟩
theorem yg_setting : sk_yg yL_setting cL_setting 4 [(0, 9, 12, 13)] 3 := ⟨sk_wd 654 (by decide +kernel) (by decide +kernel), ini_SkateSheetLaw, by decide +kernel, by decide +kernel, sk_wd 653 (by decide +kernel) (by decide +kernel)⟩
set_option maxRecDepth 100000 in
theorem g_L_setting (l : Launch) {O : sk_O} (hO : sk_inj O) (M : sk_M) (k : Nat) (w : Int32) (hk : sk_isX O k) (hst : l.stackTraces = false) (ca : Nat) (cA : ClassId) (v0 : Int64) : sk_G l yL_setting (Cond.codeWith yL_setting cL_setting 4 (some .int) [(0, 9, 12, 13)] :: sk_tb) ({ frames := 7, cells := 1, slots := 6, locals := 103 }) O ca cA [.ref (sk_ad O k), .int w, .ref ca] M v0 (sk_gq ["java/lang/IllegalArgumentException"] (fun r M' => (er_1 (¬ w < 0 ∧ ¬ 5 ≤ w)) = 0 ∧ r = (M (k + 3) w.toNatClampNeg) ∧ M' = M) (fun E M' => ((er_1 (¬ w < 0 ∧ ¬ 5 ≤ w)) = 1 ∧ E = "java/lang/IllegalArgumentException") ∧ M' = M)) := by
  refine sk_gi (by decide) ⟨rfl, rfl⟩ hO (Nat.le_of_ble_eq_true rfl) (fun X A Q C L hSr hNx htab ret => ?_)
  show sk_L l X O A Q ca cA v0 4 0 0 M 0 [(0, .ref (sk_ad O k)), (1, .int w), (2, .ref ca)] []
  refine l_aloadn C 2 dL_setting_0 rfl ?_
  refine l_iconst C (0) dL_setting_1 (by decide) ?_
  refine l_aloadn C 0 dL_setting_2 rfl ?_
  refine l_iloadn C 1 dL_setting_3 rfl ?_
  refine l_xi C L hSr (as := [.int w]) yvX7_setting viX7_setting ml_L_34 (m_X7_setting l hO M k w hk hst) hk.1 rfl rfl rfl (Nat.le_of_ble_eq_true rfl) (by decide) dL_setting_4 (fun E9 M9 h9 => ?_) (fun r9 M9 h9 => ?_)
  · have hm : E9 = "java/lang/IllegalArgumentException" := h9.1.2
    subst hm
    refine l_catch C hNx htab (by decide) 0 rfl (fun z hz => absurd hz (by simp)) ⟨by decide, by decide⟩ (by decide) clE_13 (fun q9 => ?_)
    refine l_astoren C [0, 1, 2, 3] [(3, .ref q9), (0, .ref (sk_ad O k)), (1, .int w), (2, .ref ca)] dL_setting_12 (by decide) rfl ?_
    refine l_iconst C (1) dL_setting_13 (by decide) ?_
    exact ret _ _ _ _ _ _ _ (by decide) (by decide) dL_setting_14 ⟨1, 0, rfl, by decide, Or.inr ⟨0, _, rfl, rfl, h9⟩, fun h => absurd h (by decide)⟩
  · refine l_i2l C dL_setting_7 ?_
    refine l_last C L dL_setting_8 ?_
    refine l_goto C 15 dL_setting_9 (by decide) ?_
    refine l_iconst C (0) dL_setting_15 (by decide) ?_
    exact ret _ _ _ _ _ _ _ (by decide) (by decide) dL_setting_16 ⟨0, r9, rfl, by decide, Or.inl ⟨rfl, h9⟩, fun _ => rfl⟩
theorem yg_add : sk_yg yL_add cL_add 3 [(0, 8, 11, 15)] 2 := ⟨sk_wd 661 (by decide +kernel) (by decide +kernel), ini_SkateSheetLaw, by decide +kernel, by decide +kernel, sk_wd 660 (by decide +kernel) (by decide +kernel)⟩
set_option maxRecDepth 100000 in
theorem g_L_add (l : Launch) {O : sk_O} (hO : sk_inj O) (M : sk_M) (k m : Nat) (hk : sk_isX O k) (hm : M (k + 1) 2 = nI m) (hm4 : m ≤ 4) (o c : Nat) (ho : M (k + 44) 1 = nI o) (hc : M (k + 44) 2 = nI c) (ho14 : o < 14) (hc14 : c ≤ 14) (hw : st_wf M (k + 1)) (hst : l.stackTraces = false) (ca : Nat) (cA : ClassId) (v0 : Int64) : sk_G l yL_add (Cond.codeWith yL_add cL_add 3 (some .int) [(0, 8, 11, 15)] :: sk_tb) ({ frames := 7, cells := 1, slots := 6, locals := 166 }) O ca cA [.ref (sk_ad O k), .ref ca] M v0 (sk_gq ["java/lang/IllegalStateException"] (fun r M' => (er_1 (m < 4)) = 0 ∧ r = (nI m) ∧ M' = (x_ad M k o c m)) (fun E M' => ((er_1 (m < 4)) = 1 ∧ E = "java/lang/IllegalStateException") ∧ M' = M)) := by
  refine sk_gi (by decide) ⟨rfl, rfl⟩ hO (Nat.le_of_ble_eq_true rfl) (fun X A Q C L hSr hNx htab ret => ?_)
  show sk_L l X O A Q ca cA v0 3 0 0 M 0 [(0, .ref (sk_ad O k)), (1, .ref ca)] []
  refine l_aloadn C 1 dL_add_0 rfl ?_
  refine l_iconst C (0) dL_add_1 (by decide) ?_
  refine l_aloadn C 0 dL_add_2 rfl ?_
  refine l_xi C L hSr (as := []) yvX7_add viX7_add ml_L_37 (m_X7_add l hO M k m hk hm hm4 o c ho hc ho14 hc14 hw hst) hk.1 rfl rfl rfl (Nat.le_of_ble_eq_true rfl) (by decide) dL_add_3 (fun E9 M9 h9 => ?_) (fun r9 M9 h9 => ?_)
  · have hm : E9 = "java/lang/IllegalStateException" := h9.1.2
    subst hm
    refine l_catch C hNx htab (by decide) 0 rfl (fun z hz => absurd hz (by simp)) ⟨by decide, by decide⟩ (by decide) clE_15 (fun q9 => ?_)
    refine l_astoren C [0, 1, 2] [(2, .ref q9), (0, .ref (sk_ad O k)), (1, .ref ca)] dL_add_11 (by decide) rfl ?_
    refine l_iconst C (1) dL_add_12 (by decide) ?_
    exact ret _ _ _ _ _ _ _ (by decide) (by decide) dL_add_13 ⟨1, 0, rfl, by decide, Or.inr ⟨0, _, rfl, rfl, h9⟩, fun h => absurd h (by decide)⟩
  · refine l_i2l C dL_add_6 ?_
    refine l_last C L dL_add_7 ?_
    refine l_goto C 14 dL_add_8 (by decide) ?_
    refine l_iconst C (0) dL_add_14 (by decide) ?_
    exact ret _ _ _ _ _ _ _ (by decide) (by decide) dL_add_15 ⟨0, r9, rfl, by decide, Or.inl ⟨rfl, h9⟩, fun _ => rfl⟩
theorem yg_program : sk_yg yL_program cL_program 4 [(0, 9, 12, 24), (0, 9, 15, 15)] 3 := ⟨sk_wd 694 (by decide +kernel) (by decide +kernel), ini_SkateSheetLaw, by decide +kernel, by decide +kernel, sk_wd 693 (by decide +kernel) (by decide +kernel)⟩
set_option maxRecDepth 100000 in
theorem g_L_program (l : Launch) {O : sk_O} (hO : sk_inj O) (M : sk_M) (k n : Nat) (s : Int32) (hk : sk_isX O k) (hn : M (k + 736) 1 = nI n) (hn2 : n ≤ 120) (o c : Nat) (ho : M (k + 44) 1 = nI o) (hc : M (k + 44) 2 = nI c) (ho14 : o < 14) (hc14 : c ≤ 14) (hw : st_wf M (k + 1)) (hst : l.stackTraces = false) (ca : Nat) (cA : ClassId) (v0 : Int64) : sk_G l yL_program (Cond.codeWith yL_program cL_program 4 (some .int) [(0, 9, 12, 24), (0, 9, 15, 15)] :: sk_tb) ({ frames := 7, cells := 1, slots := 6, locals := 167 }) O ca cA [.ref (sk_ad O k), .int s, .ref ca] M v0 (sk_gq ["java/lang/IndexOutOfBoundsException", "java/lang/IllegalStateException"] (x_pp M k n o c s) (x_px M k n s)) := by
  refine sk_gi (by decide) ⟨rfl, rfl⟩ hO (Nat.le_of_ble_eq_true rfl) (fun X A Q C L hSr hNx htab ret => ?_)
  show sk_L l X O A Q ca cA v0 4 0 0 M 0 [(0, .ref (sk_ad O k)), (1, .int s), (2, .ref ca)] []
  refine l_aloadn C 2 dL_program_0 rfl ?_
  refine l_iconst C (0) dL_program_1 (by decide) ?_
  refine l_aloadn C 0 dL_program_2 rfl ?_
  refine l_iloadn C 1 dL_program_3 rfl ?_
  refine l_xi C L hSr (as := [.int s]) yvX7_program viX7_program ml_L_41 (m_X7_program l hO M k n s hk hn hn2 o c ho hc ho14 hc14 hw hst) hk.1 rfl rfl rfl (Nat.le_of_ble_eq_true rfl) (by decide) dL_program_4 (fun E9 M9 h9 => ?_) (fun r9 M9 h9 => ?_)
  · have hm : E9 = "java/lang/IndexOutOfBoundsException" ∨ E9 = "java/lang/IllegalStateException" := Or.imp (fun z => z.1) (fun z => z.1) h9
    rcases hm with rfl | rfl
    · refine l_catch C hNx htab (by decide) 0 rfl (fun z hz => absurd hz (by simp)) ⟨by decide, by decide⟩ (by decide) clE_24 (fun q9 => ?_)
      refine l_astoren C [0, 1, 2, 3] [(3, .ref q9), (0, .ref (sk_ad O k)), (1, .int s), (2, .ref ca)] dL_program_12 (by decide) rfl ?_
      refine l_iconst C (1) dL_program_13 (by decide) ?_
      exact ret _ _ _ _ _ _ _ (by decide) (by decide) dL_program_14 ⟨1, 0, rfl, by decide, Or.inr ⟨0, _, rfl, rfl, h9⟩, fun h => absurd h (by decide)⟩
    · refine l_catch C hNx htab (by decide) 1 rfl (fun z hz => by
          rcases (by simpa using hz : z = (0, 9, 12, 24)) with rfl
          · exact ⟨by decide, "java/lang/IndexOutOfBoundsException", clE_24, by decide, by decide⟩
          ) ⟨by decide, by decide⟩ (by decide) clE_15 (fun q9 => ?_)
      refine l_astoren C [0, 1, 2, 3] [(3, .ref q9), (0, .ref (sk_ad O k)), (1, .int s), (2, .ref ca)] dL_program_15 (by decide) rfl ?_
      refine l_iconst C (2) dL_program_16 (by decide) ?_
      exact ret _ _ _ _ _ _ _ (by decide) (by decide) dL_program_17 ⟨2, 0, rfl, by decide, Or.inr ⟨1, _, rfl, rfl, h9⟩, fun h => absurd h (by decide)⟩
  · refine l_i2l C dL_program_7 ?_
    refine l_last C L dL_program_8 ?_
    refine l_goto C 18 dL_program_9 (by decide) ?_
    refine l_iconst C (0) dL_program_18 (by decide) ?_
    exact ret _ _ _ _ _ _ _ (by decide) (by decide) dL_program_19 ⟨0, r9, rfl, by decide, Or.inl ⟨rfl, h9⟩, fun _ => rfl⟩
theorem yg_mark : sk_yg yL_mark cL_mark 6 [(0, 12, 15, 24), (0, 12, 19, 13)] 5 := ⟨sk_wd 703 (by decide +kernel) (by decide +kernel), ini_SkateSheetLaw, by decide +kernel, by decide +kernel, sk_wd 702 (by decide +kernel) (by decide +kernel)⟩
set_option maxRecDepth 100000 in
theorem g_L_mark (l : Launch) {O : sk_O} (hO : sk_inj O) (M : sk_M) (k : Nat) (s e v : Int32) (hk : sk_isX O k) (o c : Nat) (ho : M (k + 44) 1 = nI o) (hc : M (k + 44) 2 = nI c) (ho14 : o < 14) (hc14 : c ≤ 14) (hw : st_wf M (k + 1)) (hst : l.stackTraces = false) (ca : Nat) (cA : ClassId) (v0 : Int64) : sk_G l yL_mark (Cond.codeWith yL_mark cL_mark 6 (some .int) [(0, 12, 15, 24), (0, 12, 19, 13)] :: sk_tb) ({ frames := 7, cells := 1, slots := 6, locals := 169 }) O ca cA [.ref (sk_ad O k), .int s, .int e, .int v, .ref ca] M v0 (sk_gq ["java/lang/IndexOutOfBoundsException", "java/lang/IllegalArgumentException"] (fun r M' => (er_2 (st_he M (k + 1) s e) (¬ v < 0 ∧ ¬ 161050 < v)) = 0 ∧ r = (x_kn v) ∧ M' = (if st_he (x_re M k o c) (k + 1) s e then sk_ms (x_re M k o c) (st_pg (k + 1) s + 3) e.toNatClampNeg (x_kn v) else x_re M k o c)) (fun E M' => ((er_2 (st_he M (k + 1) s e) (¬ v < 0 ∧ ¬ 161050 < v)) = 1 ∧ E = "java/lang/IndexOutOfBoundsException" ∨ (er_2 (st_he M (k + 1) s e) (¬ v < 0 ∧ ¬ 161050 < v)) = 2 ∧ E = "java/lang/IllegalArgumentException") ∧ M' = M)) := by
  refine sk_gi (by decide) ⟨rfl, rfl⟩ hO (Nat.le_of_ble_eq_true rfl) (fun X A Q C L hSr hNx htab ret => ?_)
  show sk_L l X O A Q ca cA v0 6 0 0 M 0 [(0, .ref (sk_ad O k)), (1, .int s), (2, .int e), (3, .int v), (4, .ref ca)] []
  refine l_aload C 4 dL_mark_0 rfl ?_
  refine l_iconst C (0) dL_mark_2 (by decide) ?_
  refine l_aloadn C 0 dL_mark_3 rfl ?_
  refine l_iloadn C 1 dL_mark_4 rfl ?_
  refine l_iloadn C 2 dL_mark_5 rfl ?_
  refine l_iloadn C 3 dL_mark_6 rfl ?_
  refine l_xi C L hSr (as := [.int s, .int e, .int v]) yvX7_mark viX7_mark ml_L_44 (m_X7_mark l hO M k s e v hk o c ho hc ho14 hc14 hw hst) hk.1 rfl rfl rfl (Nat.le_of_ble_eq_true rfl) (by decide) dL_mark_7 (fun E9 M9 h9 => ?_) (fun r9 M9 h9 => ?_)
  · have hm : E9 = "java/lang/IndexOutOfBoundsException" ∨ E9 = "java/lang/IllegalArgumentException" := Or.imp (fun z => z.2) (fun z => z.2) h9.1
    rcases hm with rfl | rfl
    · refine l_catch C hNx htab (by decide) 0 rfl (fun z hz => absurd hz (by simp)) ⟨by decide, by decide⟩ (by decide) clE_24 (fun q9 => ?_)
      refine l_astore C [0, 1, 2, 3, 4, 5] [(5, .ref q9), (0, .ref (sk_ad O k)), (1, .int s), (2, .int e), (3, .int v), (4, .ref ca)] dL_mark_15 (by decide) rfl ?_
      refine l_iconst C (1) dL_mark_17 (by decide) ?_
      exact ret _ _ _ _ _ _ _ (by decide) (by decide) dL_mark_18 ⟨1, 0, rfl, by decide, Or.inr ⟨0, _, rfl, rfl, h9⟩, fun h => absurd h (by decide)⟩
    · refine l_catch C hNx htab (by decide) 1 rfl (fun z hz => by
          rcases (by simpa using hz : z = (0, 12, 15, 24)) with rfl
          · exact ⟨by decide, "java/lang/IndexOutOfBoundsException", clE_24, by decide, by decide⟩
          ) ⟨by decide, by decide⟩ (by decide) clE_13 (fun q9 => ?_)
      refine l_astore C [0, 1, 2, 3, 4, 5] [(5, .ref q9), (0, .ref (sk_ad O k)), (1, .int s), (2, .int e), (3, .int v), (4, .ref ca)] dL_mark_19 (by decide) rfl ?_
      refine l_iconst C (2) dL_mark_21 (by decide) ?_
      exact ret _ _ _ _ _ _ _ (by decide) (by decide) dL_mark_22 ⟨2, 0, rfl, by decide, Or.inr ⟨1, _, rfl, rfl, h9⟩, fun h => absurd h (by decide)⟩
  · refine l_i2l C dL_mark_10 ?_
    refine l_last C L dL_mark_11 ?_
    refine l_goto C 23 dL_mark_12 (by decide) ?_
    refine l_iconst C (0) dL_mark_23 (by decide) ?_
    exact ret _ _ _ _ _ _ _ (by decide) (by decide) dL_mark_24 ⟨0, r9, rfl, by decide, Or.inl ⟨rfl, h9⟩, fun _ => rfl⟩
theorem yg_component : sk_yg yL_component cL_component 6 [(0, 12, 15, 24), (0, 12, 19, 13)] 5 := ⟨sk_wd 726 (by decide +kernel) (by decide +kernel), ini_SkateSheetLaw, by decide +kernel, by decide +kernel, sk_wd 725 (by decide +kernel) (by decide +kernel)⟩
set_option maxRecDepth 100000 in
theorem g_L_component (l : Launch) {O : sk_O} (hO : sk_inj O) (M : sk_M) (k : Nat) (s j v : Int32) (hk : sk_isX O k) (o c : Nat) (ho : M (k + 44) 1 = nI o) (hc : M (k + 44) 2 = nI c) (ho14 : o < 14) (hc14 : c ≤ 14) (hw : st_wf M (k + 1)) (hst : l.stackTraces = false) (ca : Nat) (cA : ClassId) (v0 : Int64) : sk_G l yL_component (Cond.codeWith yL_component cL_component 6 (some .int) [(0, 12, 15, 24), (0, 12, 19, 13)] :: sk_tb) ({ frames := 7, cells := 1, slots := 6, locals := 169 }) O ca cA [.ref (sk_ad O k), .int s, .int j, .int v, .ref ca] M v0 (sk_gq ["java/lang/IndexOutOfBoundsException", "java/lang/IllegalArgumentException"] (fun r M' => (er_2 (st_hs M (k + 1) s ∧ ¬ j < 0 ∧ ¬ 3 ≤ j) (¬ v < 0 ∧ ¬ 115856200 < v)) = 0 ∧ r = (x_cn v) ∧ M' = (if st_hs (x_re M k o c) (k + 1) s ∧ ¬ j < 0 ∧ ¬ 3 ≤ j then sk_ms (x_re M k o c) (st_pg (k + 1) s + 9) j.toNatClampNeg (x_cn v) else x_re M k o c)) (fun E M' => ((er_2 (st_hs M (k + 1) s ∧ ¬ j < 0 ∧ ¬ 3 ≤ j) (¬ v < 0 ∧ ¬ 115856200 < v)) = 1 ∧ E = "java/lang/IndexOutOfBoundsException" ∨ (er_2 (st_hs M (k + 1) s ∧ ¬ j < 0 ∧ ¬ 3 ≤ j) (¬ v < 0 ∧ ¬ 115856200 < v)) = 2 ∧ E = "java/lang/IllegalArgumentException") ∧ M' = M)) := by
  refine sk_gi (by decide) ⟨rfl, rfl⟩ hO (Nat.le_of_ble_eq_true rfl) (fun X A Q C L hSr hNx htab ret => ?_)
  show sk_L l X O A Q ca cA v0 6 0 0 M 0 [(0, .ref (sk_ad O k)), (1, .int s), (2, .int j), (3, .int v), (4, .ref ca)] []
  refine l_aload C 4 dL_component_0 rfl ?_
  refine l_iconst C (0) dL_component_2 (by decide) ?_
  refine l_aloadn C 0 dL_component_3 rfl ?_
  refine l_iloadn C 1 dL_component_4 rfl ?_
  refine l_iloadn C 2 dL_component_5 rfl ?_
  refine l_iloadn C 3 dL_component_6 rfl ?_
  refine l_xi C L hSr (as := [.int s, .int j, .int v]) yvX7_component viX7_component ml_L_47 (m_X7_component l hO M k s j v hk o c ho hc ho14 hc14 hw hst) hk.1 rfl rfl rfl (Nat.le_of_ble_eq_true rfl) (by decide) dL_component_7 (fun E9 M9 h9 => ?_) (fun r9 M9 h9 => ?_)
  · have hm : E9 = "java/lang/IndexOutOfBoundsException" ∨ E9 = "java/lang/IllegalArgumentException" := Or.imp (fun z => z.2) (fun z => z.2) h9.1
    rcases hm with rfl | rfl
    · refine l_catch C hNx htab (by decide) 0 rfl (fun z hz => absurd hz (by simp)) ⟨by decide, by decide⟩ (by decide) clE_24 (fun q9 => ?_)
      refine l_astore C [0, 1, 2, 3, 4, 5] [(5, .ref q9), (0, .ref (sk_ad O k)), (1, .int s), (2, .int j), (3, .int v), (4, .ref ca)] dL_component_15 (by decide) rfl ?_
      refine l_iconst C (1) dL_component_17 (by decide) ?_
      exact ret _ _ _ _ _ _ _ (by decide) (by decide) dL_component_18 ⟨1, 0, rfl, by decide, Or.inr ⟨0, _, rfl, rfl, h9⟩, fun h => absurd h (by decide)⟩
    · refine l_catch C hNx htab (by decide) 1 rfl (fun z hz => by
          rcases (by simpa using hz : z = (0, 12, 15, 24)) with rfl
          · exact ⟨by decide, "java/lang/IndexOutOfBoundsException", clE_24, by decide, by decide⟩
          ) ⟨by decide, by decide⟩ (by decide) clE_13 (fun q9 => ?_)
      refine l_astore C [0, 1, 2, 3, 4, 5] [(5, .ref q9), (0, .ref (sk_ad O k)), (1, .int s), (2, .int j), (3, .int v), (4, .ref ca)] dL_component_19 (by decide) rfl ?_
      refine l_iconst C (2) dL_component_21 (by decide) ?_
      exact ret _ _ _ _ _ _ _ (by decide) (by decide) dL_component_22 ⟨2, 0, rfl, by decide, Or.inr ⟨1, _, rfl, rfl, h9⟩, fun h => absurd h (by decide)⟩
  · refine l_i2l C dL_component_10 ?_
    refine l_last C L dL_component_11 ?_
    refine l_goto C 23 dL_component_12 (by decide) ?_
    refine l_iconst C (0) dL_component_23 (by decide) ?_
    exact ret _ _ _ _ _ _ _ (by decide) (by decide) dL_component_24 ⟨0, r9, rfl, by decide, Or.inl ⟨rfl, h9⟩, fun _ => rfl⟩
theorem yg_call : sk_yg yL_call cL_call 7 [(0, 14, 17, 24), (0, 14, 21, 13), (0, 14, 25, 15)] 6 := ⟨sk_wd 745 (by decide +kernel) (by decide +kernel), ini_SkateSheetLaw, by decide +kernel, by decide +kernel, sk_wd 744 (by decide +kernel) (by decide +kernel)⟩
set_option maxRecDepth 100000 in
theorem g_L_call (l : Launch) {O : sk_O} (hO : sk_inj O) (M : sk_M) (k : Nat) (s e p v : Int32) (hk : sk_isX O k) (o c : Nat) (ho : M (k + 44) 1 = nI o) (hc : M (k + 44) 2 = nI c) (ho14 : o < 14) (hc14 : c ≤ 14) (hw : st_wf M (k + 1)) (hst : l.stackTraces = false) (ca : Nat) (cA : ClassId) (v0 : Int64) : sk_G l yL_call (Cond.codeWith yL_call cL_call 7 (some .int) [(0, 14, 17, 24), (0, 14, 21, 13), (0, 14, 25, 15)] :: sk_tb) ({ frames := 8, cells := 1, slots := 6, locals := 170 }) O ca cA [.ref (sk_ad O k), .int s, .int e, .int p, .int v, .ref ca] M v0 (sk_gq ["java/lang/IndexOutOfBoundsException", "java/lang/IllegalArgumentException", "java/lang/IllegalStateException"] (fun r M' => (x_ck M (k + 1) s e p v) = 0 ∧ r = (x_re M k o c (st_pg (k + 1) s + 8) (3 * e.toNatClampNeg + p.toNatClampNeg)) ∧ M' = (if st_cc (x_re M k o c) (k + 1) s e p v then sk_ms (x_re M k o c) (st_pg (k + 1) s + 8) (3 * e.toNatClampNeg + p.toNatClampNeg) v else x_re M k o c)) (fun E M' => ((x_ck M (k + 1) s e p v) = 1 ∧ E = "java/lang/IndexOutOfBoundsException" ∨ (x_ck M (k + 1) s e p v) = 2 ∧ E = "java/lang/IllegalArgumentException" ∨ (x_ck M (k + 1) s e p v) = 3 ∧ E = "java/lang/IllegalStateException") ∧ M' = M)) := by
  refine sk_gi (by decide) ⟨rfl, rfl⟩ hO (Nat.le_of_ble_eq_true rfl) (fun X A Q C L hSr hNx htab ret => ?_)
  show sk_L l X O A Q ca cA v0 7 0 0 M 0 [(0, .ref (sk_ad O k)), (1, .int s), (2, .int e), (3, .int p), (4, .int v), (5, .ref ca)] []
  refine l_aload C 5 dL_call_0 rfl ?_
  refine l_iconst C (0) dL_call_2 (by decide) ?_
  refine l_aloadn C 0 dL_call_3 rfl ?_
  refine l_iloadn C 1 dL_call_4 rfl ?_
  refine l_iloadn C 2 dL_call_5 rfl ?_
  refine l_iloadn C 3 dL_call_6 rfl ?_
  refine l_iload C 4 dL_call_7 rfl ?_
  refine l_xi C L hSr (as := [.int s, .int e, .int p, .int v]) yvX7_call viX7_call ml_L_50 (m_X7_call l hO M k s e p v hk o c ho hc ho14 hc14 hw hst) hk.1 rfl rfl rfl (Nat.le_of_ble_eq_true rfl) (by decide) dL_call_9 (fun E9 M9 h9 => ?_) (fun r9 M9 h9 => ?_)
  · have hm : E9 = "java/lang/IndexOutOfBoundsException" ∨ E9 = "java/lang/IllegalArgumentException" ∨ E9 = "java/lang/IllegalStateException" := Or.imp (fun z => z.2) (Or.imp (fun z => z.2) (fun z => z.2)) h9.1
    rcases hm with rfl | rfl | rfl
    · refine l_catch C hNx htab (by decide) 0 rfl (fun z hz => absurd hz (by simp)) ⟨by decide, by decide⟩ (by decide) clE_24 (fun q9 => ?_)
      refine l_astore C [0, 1, 2, 3, 4, 5, 6] [(6, .ref q9), (0, .ref (sk_ad O k)), (1, .int s), (2, .int e), (3, .int p), (4, .int v), (5, .ref ca)] dL_call_17 (by decide) rfl ?_
      refine l_iconst C (1) dL_call_19 (by decide) ?_
      exact ret _ _ _ _ _ _ _ (by decide) (by decide) dL_call_20 ⟨1, 0, rfl, by decide, Or.inr ⟨0, _, rfl, rfl, h9⟩, fun h => absurd h (by decide)⟩
    · refine l_catch C hNx htab (by decide) 1 rfl (fun z hz => by
          rcases (by simpa using hz : z = (0, 14, 17, 24)) with rfl
          · exact ⟨by decide, "java/lang/IndexOutOfBoundsException", clE_24, by decide, by decide⟩
          ) ⟨by decide, by decide⟩ (by decide) clE_13 (fun q9 => ?_)
      refine l_astore C [0, 1, 2, 3, 4, 5, 6] [(6, .ref q9), (0, .ref (sk_ad O k)), (1, .int s), (2, .int e), (3, .int p), (4, .int v), (5, .ref ca)] dL_call_21 (by decide) rfl ?_
      refine l_iconst C (2) dL_call_23 (by decide) ?_
      exact ret _ _ _ _ _ _ _ (by decide) (by decide) dL_call_24 ⟨2, 0, rfl, by decide, Or.inr ⟨1, _, rfl, rfl, h9⟩, fun h => absurd h (by decide)⟩
    · refine l_catch C hNx htab (by decide) 2 rfl (fun z hz => by
          rcases (by simpa using hz : z = (0, 14, 17, 24) ∨ z = (0, 14, 21, 13)) with rfl | rfl
          · exact ⟨by decide, "java/lang/IndexOutOfBoundsException", clE_24, by decide, by decide⟩
          · exact ⟨by decide, "java/lang/IllegalArgumentException", clE_13, by decide, by decide⟩
          ) ⟨by decide, by decide⟩ (by decide) clE_15 (fun q9 => ?_)
      refine l_astore C [0, 1, 2, 3, 4, 5, 6] [(6, .ref q9), (0, .ref (sk_ad O k)), (1, .int s), (2, .int e), (3, .int p), (4, .int v), (5, .ref ca)] dL_call_25 (by decide) rfl ?_
      refine l_iconst C (3) dL_call_27 (by decide) ?_
      exact ret _ _ _ _ _ _ _ (by decide) (by decide) dL_call_28 ⟨3, 0, rfl, by decide, Or.inr ⟨2, _, rfl, rfl, h9⟩, fun h => absurd h (by decide)⟩
  · refine l_i2l C dL_call_12 ?_
    refine l_last C L dL_call_13 ?_
    refine l_goto C 29 dL_call_14 (by decide) ?_
    refine l_iconst C (0) dL_call_29 (by decide) ?_
    exact ret _ _ _ _ _ _ _ (by decide) (by decide) dL_call_30 ⟨0, r9, rfl, by decide, Or.inl ⟨rfl, h9⟩, fun _ => rfl⟩
theorem yg_review : sk_yg yL_review cL_review 6 [(0, 12, 15, 24)] 5 := ⟨sk_wd 769 (by decide +kernel) (by decide +kernel), ini_SkateSheetLaw, by decide +kernel, by decide +kernel, sk_wd 768 (by decide +kernel) (by decide +kernel)⟩
set_option maxRecDepth 100000 in
theorem g_L_review (l : Launch) {O : sk_O} (hO : sk_inj O) (M : sk_M) (k : Nat) (s e b : Int32) (hk : sk_isX O k) (o c : Nat) (ho : M (k + 44) 1 = nI o) (hc : M (k + 44) 2 = nI c) (ho14 : o < 14) (hc14 : c ≤ 14) (hw : st_wf M (k + 1)) (hst : l.stackTraces = false) (ca : Nat) (cA : ClassId) (v0 : Int64) : sk_G l yL_review (Cond.codeWith yL_review cL_review 6 (some .int) [(0, 12, 15, 24)] :: sk_tb) ({ frames := 7, cells := 1, slots := 6, locals := 168 }) O ca cA [.ref (sk_ad O k), .int s, .int e, .int b, .ref ca] M v0 (sk_gq ["java/lang/IndexOutOfBoundsException"] (fun r M' => (er_1 (st_he M (k + 1) s e)) = 0 ∧ r = (st_rv (if st_he (x_re M k o c) (k + 1) s e then sk_ms (x_re M k o c) (st_pg (k + 1) s + 5) e.toNatClampNeg (if b = 0 then 0 else 1) else x_re M k o c) (k + 1)) ∧ M' = (if st_he (x_re M k o c) (k + 1) s e then sk_ms (x_re M k o c) (st_pg (k + 1) s + 5) e.toNatClampNeg (if b = 0 then 0 else 1) else x_re M k o c)) (fun E M' => ((er_1 (st_he M (k + 1) s e)) = 1 ∧ E = "java/lang/IndexOutOfBoundsException") ∧ M' = M)) := by
  refine sk_gi (by decide) ⟨rfl, rfl⟩ hO (Nat.le_of_ble_eq_true rfl) (fun X A Q C L hSr hNx htab ret => ?_)
  show sk_L l X O A Q ca cA v0 6 0 0 M 0 [(0, .ref (sk_ad O k)), (1, .int s), (2, .int e), (3, .int b), (4, .ref ca)] []
  refine l_aload C 4 dL_review_0 rfl ?_
  refine l_iconst C (0) dL_review_2 (by decide) ?_
  refine l_aloadn C 0 dL_review_3 rfl ?_
  refine l_iloadn C 1 dL_review_4 rfl ?_
  refine l_iloadn C 2 dL_review_5 rfl ?_
  refine l_iloadn C 3 dL_review_6 rfl ?_
  refine l_xi C L hSr (as := [.int s, .int e, .int b]) yvX7_review viX7_review ml_L_53 (m_X7_review l hO M k s e b hk o c ho hc ho14 hc14 hw hst) hk.1 rfl rfl rfl (Nat.le_of_ble_eq_true rfl) (by decide) dL_review_7 (fun E9 M9 h9 => ?_) (fun r9 M9 h9 => ?_)
  · have hm : E9 = "java/lang/IndexOutOfBoundsException" := h9.1.2
    subst hm
    refine l_catch C hNx htab (by decide) 0 rfl (fun z hz => absurd hz (by simp)) ⟨by decide, by decide⟩ (by decide) clE_24 (fun q9 => ?_)
    refine l_astore C [0, 1, 2, 3, 4, 5] [(5, .ref q9), (0, .ref (sk_ad O k)), (1, .int s), (2, .int e), (3, .int b), (4, .ref ca)] dL_review_15 (by decide) rfl ?_
    refine l_iconst C (1) dL_review_17 (by decide) ?_
    exact ret _ _ _ _ _ _ _ (by decide) (by decide) dL_review_18 ⟨1, 0, rfl, by decide, Or.inr ⟨0, _, rfl, rfl, h9⟩, fun h => absurd h (by decide)⟩
  · refine l_i2l C dL_review_10 ?_
    refine l_last C L dL_review_11 ?_
    refine l_goto C 19 dL_review_12 (by decide) ?_
    refine l_iconst C (0) dL_review_19 (by decide) ?_
    exact ret _ _ _ _ _ _ _ (by decide) (by decide) dL_review_20 ⟨0, r9, rfl, by decide, Or.inl ⟨rfl, h9⟩, fun _ => rfl⟩
theorem yg_fall : sk_yg yL_fall cL_fall 6 [(0, 12, 15, 24)] 5 := ⟨sk_wd 780 (by decide +kernel) (by decide +kernel), ini_SkateSheetLaw, by decide +kernel, by decide +kernel, sk_wd 779 (by decide +kernel) (by decide +kernel)⟩
set_option maxRecDepth 100000 in
theorem g_L_fall (l : Launch) {O : sk_O} (hO : sk_inj O) (M : sk_M) (k : Nat) (s e b : Int32) (hk : sk_isX O k) (o c : Nat) (ho : M (k + 44) 1 = nI o) (hc : M (k + 44) 2 = nI c) (ho14 : o < 14) (hc14 : c ≤ 14) (hw : st_wf M (k + 1)) (hst : l.stackTraces = false) (ca : Nat) (cA : ClassId) (v0 : Int64) : sk_G l yL_fall (Cond.codeWith yL_fall cL_fall 6 (some .int) [(0, 12, 15, 24)] :: sk_tb) ({ frames := 7, cells := 1, slots := 6, locals := 168 }) O ca cA [.ref (sk_ad O k), .int s, .int e, .int b, .ref ca] M v0 (sk_gq ["java/lang/IndexOutOfBoundsException"] (fun r M' => (er_1 (st_he M (k + 1) s e)) = 0 ∧ r = (sk_sum ((if st_he (x_re M k o c) (k + 1) s e then sk_ms (x_re M k o c) (st_pg (k + 1) s + 4) e.toNatClampNeg (if b = 0 then 0 else 1) else x_re M k o c) (st_pg (k + 1) s + 4)) (pg_n (if st_he (x_re M k o c) (k + 1) s e then sk_ms (x_re M k o c) (st_pg (k + 1) s + 4) e.toNatClampNeg (if b = 0 then 0 else 1) else x_re M k o c) (st_pg (k + 1) s))) ∧ M' = (if st_he (x_re M k o c) (k + 1) s e then sk_ms (x_re M k o c) (st_pg (k + 1) s + 4) e.toNatClampNeg (if b = 0 then 0 else 1) else x_re M k o c)) (fun E M' => ((er_1 (st_he M (k + 1) s e)) = 1 ∧ E = "java/lang/IndexOutOfBoundsException") ∧ M' = M)) := by
  refine sk_gi (by decide) ⟨rfl, rfl⟩ hO (Nat.le_of_ble_eq_true rfl) (fun X A Q C L hSr hNx htab ret => ?_)
  show sk_L l X O A Q ca cA v0 6 0 0 M 0 [(0, .ref (sk_ad O k)), (1, .int s), (2, .int e), (3, .int b), (4, .ref ca)] []
  refine l_aload C 4 dL_fall_0 rfl ?_
  refine l_iconst C (0) dL_fall_2 (by decide) ?_
  refine l_aloadn C 0 dL_fall_3 rfl ?_
  refine l_iloadn C 1 dL_fall_4 rfl ?_
  refine l_iloadn C 2 dL_fall_5 rfl ?_
  refine l_iloadn C 3 dL_fall_6 rfl ?_
  refine l_xi C L hSr (as := [.int s, .int e, .int b]) yvX7_fall viX7_fall ml_L_57 (m_X7_fall l hO M k s e b hk o c ho hc ho14 hc14 hw hst) hk.1 rfl rfl rfl (Nat.le_of_ble_eq_true rfl) (by decide) dL_fall_7 (fun E9 M9 h9 => ?_) (fun r9 M9 h9 => ?_)
  · have hm : E9 = "java/lang/IndexOutOfBoundsException" := h9.1.2
    subst hm
    refine l_catch C hNx htab (by decide) 0 rfl (fun z hz => absurd hz (by simp)) ⟨by decide, by decide⟩ (by decide) clE_24 (fun q9 => ?_)
    refine l_astore C [0, 1, 2, 3, 4, 5] [(5, .ref q9), (0, .ref (sk_ad O k)), (1, .int s), (2, .int e), (3, .int b), (4, .ref ca)] dL_fall_15 (by decide) rfl ?_
    refine l_iconst C (1) dL_fall_17 (by decide) ?_
    exact ret _ _ _ _ _ _ _ (by decide) (by decide) dL_fall_18 ⟨1, 0, rfl, by decide, Or.inr ⟨0, _, rfl, rfl, h9⟩, fun h => absurd h (by decide)⟩
  · refine l_i2l C dL_fall_10 ?_
    refine l_last C L dL_fall_11 ?_
    refine l_goto C 19 dL_fall_12 (by decide) ?_
    refine l_iconst C (0) dL_fall_19 (by decide) ?_
    exact ret _ _ _ _ _ _ _ (by decide) (by decide) dL_fall_20 ⟨0, r9, rfl, by decide, Or.inl ⟨rfl, h9⟩, fun _ => rfl⟩
theorem yg_penalty : sk_yg yL_penalty cL_penalty 5 [(0, 10, 13, 24), (0, 10, 17, 13)] 4 := ⟨sk_wd 791 (by decide +kernel) (by decide +kernel), ini_SkateSheetLaw, by decide +kernel, by decide +kernel, sk_wd 790 (by decide +kernel) (by decide +kernel)⟩
set_option maxRecDepth 100000 in
theorem g_L_penalty (l : Launch) {O : sk_O} (hO : sk_inj O) (M : sk_M) (k : Nat) (s v : Int32) (hk : sk_isX O k) (o c : Nat) (ho : M (k + 44) 1 = nI o) (hc : M (k + 44) 2 = nI c) (ho14 : o < 14) (hc14 : c ≤ 14) (hw : st_wf M (k + 1)) (hst : l.stackTraces = false) (ca : Nat) (cA : ClassId) (v0 : Int64) : sk_G l yL_penalty (Cond.codeWith yL_penalty cL_penalty 5 (some .int) [(0, 10, 13, 24), (0, 10, 17, 13)] :: sk_tb) ({ frames := 7, cells := 1, slots := 6, locals := 168 }) O ca cA [.ref (sk_ad O k), .int s, .int v, .ref ca] M v0 (sk_gq ["java/lang/IndexOutOfBoundsException", "java/lang/IllegalArgumentException"] (fun r M' => (er_2 (st_hs M (k + 1) s) (¬ v < 0 ∧ ¬ 9 < v)) = 0 ∧ r = (x_re M k o c (st_pg (k + 1) s) 10) ∧ M' = (if st_hs (x_re M k o c) (k + 1) s then sk_ms (x_re M k o c) (st_pg (k + 1) s) 10 v else x_re M k o c)) (fun E M' => ((er_2 (st_hs M (k + 1) s) (¬ v < 0 ∧ ¬ 9 < v)) = 1 ∧ E = "java/lang/IndexOutOfBoundsException" ∨ (er_2 (st_hs M (k + 1) s) (¬ v < 0 ∧ ¬ 9 < v)) = 2 ∧ E = "java/lang/IllegalArgumentException") ∧ M' = M)) := by
  refine sk_gi (by decide) ⟨rfl, rfl⟩ hO (Nat.le_of_ble_eq_true rfl) (fun X A Q C L hSr hNx htab ret => ?_)
  show sk_L l X O A Q ca cA v0 5 0 0 M 0 [(0, .ref (sk_ad O k)), (1, .int s), (2, .int v), (3, .ref ca)] []
  refine l_aloadn C 3 dL_penalty_0 rfl ?_
  refine l_iconst C (0) dL_penalty_1 (by decide) ?_
  refine l_aloadn C 0 dL_penalty_2 rfl ?_
  refine l_iloadn C 1 dL_penalty_3 rfl ?_
  refine l_iloadn C 2 dL_penalty_4 rfl ?_
  refine l_xi C L hSr (as := [.int s, .int v]) yvX7_penalty viX7_penalty ml_L_60 (m_X7_penalty l hO M k s v hk o c ho hc ho14 hc14 hw hst) hk.1 rfl rfl rfl (Nat.le_of_ble_eq_true rfl) (by decide) dL_penalty_5 (fun E9 M9 h9 => ?_) (fun r9 M9 h9 => ?_)
  · have hm : E9 = "java/lang/IndexOutOfBoundsException" ∨ E9 = "java/lang/IllegalArgumentException" := Or.imp (fun z => z.2) (fun z => z.2) h9.1
    rcases hm with rfl | rfl
    · refine l_catch C hNx htab (by decide) 0 rfl (fun z hz => absurd hz (by simp)) ⟨by decide, by decide⟩ (by decide) clE_24 (fun q9 => ?_)
      refine l_astore C [0, 1, 2, 3, 4] [(4, .ref q9), (0, .ref (sk_ad O k)), (1, .int s), (2, .int v), (3, .ref ca)] dL_penalty_13 (by decide) rfl ?_
      refine l_iconst C (1) dL_penalty_15 (by decide) ?_
      exact ret _ _ _ _ _ _ _ (by decide) (by decide) dL_penalty_16 ⟨1, 0, rfl, by decide, Or.inr ⟨0, _, rfl, rfl, h9⟩, fun h => absurd h (by decide)⟩
    · refine l_catch C hNx htab (by decide) 1 rfl (fun z hz => by
          rcases (by simpa using hz : z = (0, 10, 13, 24)) with rfl
          · exact ⟨by decide, "java/lang/IndexOutOfBoundsException", clE_24, by decide, by decide⟩
          ) ⟨by decide, by decide⟩ (by decide) clE_13 (fun q9 => ?_)
      refine l_astore C [0, 1, 2, 3, 4] [(4, .ref q9), (0, .ref (sk_ad O k)), (1, .int s), (2, .int v), (3, .ref ca)] dL_penalty_17 (by decide) rfl ?_
      refine l_iconst C (2) dL_penalty_19 (by decide) ?_
      exact ret _ _ _ _ _ _ _ (by decide) (by decide) dL_penalty_20 ⟨2, 0, rfl, by decide, Or.inr ⟨1, _, rfl, rfl, h9⟩, fun h => absurd h (by decide)⟩
  · refine l_i2l C dL_penalty_8 ?_
    refine l_last C L dL_penalty_9 ?_
    refine l_goto C 21 dL_penalty_10 (by decide) ?_
    refine l_iconst C (0) dL_penalty_21 (by decide) ?_
    exact ret _ _ _ _ _ _ _ (by decide) (by decide) dL_penalty_22 ⟨0, r9, rfl, by decide, Or.inl ⟨rfl, h9⟩, fun _ => rfl⟩
theorem yg_set : sk_yg yL_set cL_set 5 [(0, 10, 13, 13)] 4 := ⟨sk_wd 803 (by decide +kernel) (by decide +kernel), ini_SkateSheetLaw, by decide +kernel, by decide +kernel, sk_wd 802 (by decide +kernel) (by decide +kernel)⟩
set_option maxRecDepth 100000 in
theorem g_L_set (l : Launch) {O : sk_O} (hO : sk_inj O) (M : sk_M) (k : Nat) (w v : Int32) (hk : sk_isX O k) (o c : Nat) (ho : M (k + 44) 1 = nI o) (hc : M (k + 44) 2 = nI c) (ho14 : o < 14) (hc14 : c ≤ 14) (hw : st_wf M (k + 1)) (hst : l.stackTraces = false) (ca : Nat) (cA : ClassId) (v0 : Int64) : sk_G l yL_set (Cond.codeWith yL_set cL_set 5 (some .int) [(0, 10, 13, 13)] :: sk_tb) ({ frames := 7, cells := 1, slots := 6, locals := 168 }) O ca cA [.ref (sk_ad O k), .int w, .int v, .ref ca] M v0 (sk_gq ["java/lang/IllegalArgumentException"] (fun r M' => (er_1 (st_fi w v)) = 0 ∧ r = (x_re M k o c (k + 3) w.toNatClampNeg) ∧ M' = (if st_fi w v then sk_ms (x_re M k o c) (k + 1 + 2) w.toNatClampNeg v else x_re M k o c)) (fun E M' => ((er_1 (st_fi w v)) = 1 ∧ E = "java/lang/IllegalArgumentException") ∧ M' = M)) := by
  refine sk_gi (by decide) ⟨rfl, rfl⟩ hO (Nat.le_of_ble_eq_true rfl) (fun X A Q C L hSr hNx htab ret => ?_)
  show sk_L l X O A Q ca cA v0 5 0 0 M 0 [(0, .ref (sk_ad O k)), (1, .int w), (2, .int v), (3, .ref ca)] []
  refine l_aloadn C 3 dL_set_0 rfl ?_
  refine l_iconst C (0) dL_set_1 (by decide) ?_
  refine l_aloadn C 0 dL_set_2 rfl ?_
  refine l_iloadn C 1 dL_set_3 rfl ?_
  refine l_iloadn C 2 dL_set_4 rfl ?_
  refine l_xi C L hSr (as := [.int w, .int v]) yvX7_set viX7_set ml_L_63 (m_X7_set l hO M k w v hk o c ho hc ho14 hc14 hw hst) hk.1 rfl rfl rfl (Nat.le_of_ble_eq_true rfl) (by decide) dL_set_5 (fun E9 M9 h9 => ?_) (fun r9 M9 h9 => ?_)
  · have hm : E9 = "java/lang/IllegalArgumentException" := h9.1.2
    subst hm
    refine l_catch C hNx htab (by decide) 0 rfl (fun z hz => absurd hz (by simp)) ⟨by decide, by decide⟩ (by decide) clE_13 (fun q9 => ?_)
    refine l_astore C [0, 1, 2, 3, 4] [(4, .ref q9), (0, .ref (sk_ad O k)), (1, .int w), (2, .int v), (3, .ref ca)] dL_set_13 (by decide) rfl ?_
    refine l_iconst C (1) dL_set_15 (by decide) ?_
    exact ret _ _ _ _ _ _ _ (by decide) (by decide) dL_set_16 ⟨1, 0, rfl, by decide, Or.inr ⟨0, _, rfl, rfl, h9⟩, fun h => absurd h (by decide)⟩
  · refine l_i2l C dL_set_8 ?_
    refine l_last C L dL_set_9 ?_
    refine l_goto C 17 dL_set_10 (by decide) ?_
    refine l_iconst C (0) dL_set_17 (by decide) ?_
    exact ret _ _ _ _ _ _ _ (by decide) (by decide) dL_set_18 ⟨0, r9, rfl, by decide, Or.inl ⟨rfl, h9⟩, fun _ => rfl⟩
theorem yg_undo : sk_yg yL_undo cL_undo 3 [(0, 8, 11, 15)] 2 := ⟨sk_wd 819 (by decide +kernel) (by decide +kernel), ini_SkateSheetLaw, by decide +kernel, by decide +kernel, sk_wd 818 (by decide +kernel) (by decide +kernel)⟩
set_option maxRecDepth 100000 in
theorem g_L_undo (l : Launch) {O : sk_O} (hO : sk_inj O) (M : sk_M) (k : Nat) (hk : sk_isX O k) (o c : Nat) (ho : M (k + 44) 1 = nI o) (hc : M (k + 44) 2 = nI c) (ho14 : o < 14) (hc14 : c ≤ 14) (hwb : c = 0 ∨ st_wf M (hs_at (k + 44) ((o + (c - 1)) % 14))) (hst : l.stackTraces = false) (ca : Nat) (cA : ClassId) (v0 : Int64) : sk_G l yL_undo (Cond.codeWith yL_undo cL_undo 3 (some .int) [(0, 8, 11, 15)] :: sk_tb) ({ frames := 7, cells := 1, slots := 6, locals := 165 }) O ca cA [.ref (sk_ad O k), .ref ca] M v0 (sk_gq ["java/lang/IllegalStateException"] (fun r M' => (er_1 (0 < c)) = 0 ∧ r = ((if 0 < c then hs_tb M (k + 44) (k + 1) o c else M) (k + 44) 2) ∧ M' = (if 0 < c then hs_tb M (k + 44) (k + 1) o c else M)) (fun E M' => (er_1 (0 < c) = 1 ∧ E = "java/lang/IllegalStateException") ∧ M' = if 0 < c then hs_tb M (k + 44) (k + 1) o c else M)) := by
  refine sk_gi (by decide) ⟨rfl, rfl⟩ hO (Nat.le_of_ble_eq_true rfl) (fun X A Q C L hSr hNx htab ret => ?_)
  show sk_L l X O A Q ca cA v0 3 0 0 M 0 [(0, .ref (sk_ad O k)), (1, .ref ca)] []
  refine l_aloadn C 1 dL_undo_0 rfl ?_
  refine l_iconst C (0) dL_undo_1 (by decide) ?_
  refine l_aloadn C 0 dL_undo_2 rfl ?_
  refine l_xi C L hSr (as := []) yvX7_undo viX7_undo ml_L_66 (m_X7_undo l hO M k hk o c ho hc ho14 hc14 hwb hst) hk.1 rfl rfl rfl (Nat.le_of_ble_eq_true rfl) (by decide) dL_undo_3 (fun E9 M9 h9 => ?_) (fun r9 M9 h9 => ?_)
  · have hm : E9 = "java/lang/IllegalStateException" := h9.1.2
    subst hm
    refine l_catch C hNx htab (by decide) 0 rfl (fun z hz => absurd hz (by simp)) ⟨by decide, by decide⟩ (by decide) clE_15 (fun q9 => ?_)
    refine l_astoren C [0, 1, 2] [(2, .ref q9), (0, .ref (sk_ad O k)), (1, .ref ca)] dL_undo_11 (by decide) rfl ?_
    refine l_iconst C (1) dL_undo_12 (by decide) ?_
    exact ret _ _ _ _ _ _ _ (by decide) (by decide) dL_undo_13 ⟨1, 0, rfl, by decide, Or.inr ⟨0, _, rfl, rfl, h9⟩, fun h => absurd h (by decide)⟩
  · refine l_i2l C dL_undo_6 ?_
    refine l_last C L dL_undo_7 ?_
    refine l_goto C 14 dL_undo_8 (by decide) ?_
    refine l_iconst C (0) dL_undo_14 (by decide) ?_
    exact ret _ _ _ _ _ _ _ (by decide) (by decide) dL_undo_15 ⟨0, r9, rfl, by decide, Or.inl ⟨rfl, h9⟩, fun _ => rfl⟩
theorem yg_ifCalled : sk_yg yL_ifCalled cL_ifCalled 7 [(0, 14, 17, 24), (0, 14, 21, 13), (0, 14, 25, 15)] 6 := ⟨sk_wd 831 (by decide +kernel) (by decide +kernel), ini_SkateSheetLaw, by decide +kernel, by decide +kernel, sk_wd 830 (by decide +kernel) (by decide +kernel)⟩
set_option maxRecDepth 100000 in
theorem g_L_ifCalled (l : Launch) {O : sk_O} (hO : sk_inj O) (M : sk_M) (k : Nat) (s e p v : Int32) (hk : sk_isX O k) (hw : st_wf M (k + 1)) (hst : l.stackTraces = false) (ca : Nat) (cA : ClassId) (v0 : Int64) : sk_G l yL_ifCalled (Cond.codeWith yL_ifCalled cL_ifCalled 7 (some .int) [(0, 14, 17, 24), (0, 14, 21, 13), (0, 14, 25, 15)] :: sk_tb) ({ frames := 8, cells := 1, slots := 6, locals := 132 }) O ca cA [.ref (sk_ad O k), .int s, .int e, .int p, .int v, .ref ca] M v0 (sk_gq ["java/lang/IndexOutOfBoundsException", "java/lang/IllegalArgumentException", "java/lang/IllegalStateException"] (fun r M' => (x_ck M (k + 1) s e p v) = 0 ∧ r = (x_ic M k s e p v (k + 738) 14 + x_ic M k s e p v (k + 738) 15 - x_ic M k s e p v (k + 738) 16) ∧ M' = (x_ic M k s e p v)) (fun E M' => ((x_ck M (k + 1) s e p v) = 1 ∧ E = "java/lang/IndexOutOfBoundsException" ∨ (x_ck M (k + 1) s e p v) = 2 ∧ E = "java/lang/IllegalArgumentException" ∨ (x_ck M (k + 1) s e p v) = 3 ∧ E = "java/lang/IllegalStateException") ∧ M' = M)) := by
  refine sk_gi (by decide) ⟨rfl, rfl⟩ hO (Nat.le_of_ble_eq_true rfl) (fun X A Q C L hSr hNx htab ret => ?_)
  show sk_L l X O A Q ca cA v0 7 0 0 M 0 [(0, .ref (sk_ad O k)), (1, .int s), (2, .int e), (3, .int p), (4, .int v), (5, .ref ca)] []
  refine l_aload C 5 dL_ifCalled_0 rfl ?_
  refine l_iconst C (0) dL_ifCalled_2 (by decide) ?_
  refine l_aloadn C 0 dL_ifCalled_3 rfl ?_
  refine l_iloadn C 1 dL_ifCalled_4 rfl ?_
  refine l_iloadn C 2 dL_ifCalled_5 rfl ?_
  refine l_iloadn C 3 dL_ifCalled_6 rfl ?_
  refine l_iload C 4 dL_ifCalled_7 rfl ?_
  refine l_xi C L hSr (as := [.int s, .int e, .int p, .int v]) yvX7_ifCalled viX7_ifCalled ml_L_69 (m_X7_ifCalled l hO M k s e p v hk hw hst) hk.1 rfl rfl rfl (Nat.le_of_ble_eq_true rfl) (by decide) dL_ifCalled_9 (fun E9 M9 h9 => ?_) (fun r9 M9 h9 => ?_)
  · have hm : E9 = "java/lang/IndexOutOfBoundsException" ∨ E9 = "java/lang/IllegalArgumentException" ∨ E9 = "java/lang/IllegalStateException" := Or.imp (fun z => z.2) (Or.imp (fun z => z.2) (fun z => z.2)) h9.1
    rcases hm with rfl | rfl | rfl
    · refine l_catch C hNx htab (by decide) 0 rfl (fun z hz => absurd hz (by simp)) ⟨by decide, by decide⟩ (by decide) clE_24 (fun q9 => ?_)
      refine l_astore C [0, 1, 2, 3, 4, 5, 6] [(6, .ref q9), (0, .ref (sk_ad O k)), (1, .int s), (2, .int e), (3, .int p), (4, .int v), (5, .ref ca)] dL_ifCalled_17 (by decide) rfl ?_
      refine l_iconst C (1) dL_ifCalled_19 (by decide) ?_
      exact ret _ _ _ _ _ _ _ (by decide) (by decide) dL_ifCalled_20 ⟨1, 0, rfl, by decide, Or.inr ⟨0, _, rfl, rfl, h9⟩, fun h => absurd h (by decide)⟩
    · refine l_catch C hNx htab (by decide) 1 rfl (fun z hz => by
          rcases (by simpa using hz : z = (0, 14, 17, 24)) with rfl
          · exact ⟨by decide, "java/lang/IndexOutOfBoundsException", clE_24, by decide, by decide⟩
          ) ⟨by decide, by decide⟩ (by decide) clE_13 (fun q9 => ?_)
      refine l_astore C [0, 1, 2, 3, 4, 5, 6] [(6, .ref q9), (0, .ref (sk_ad O k)), (1, .int s), (2, .int e), (3, .int p), (4, .int v), (5, .ref ca)] dL_ifCalled_21 (by decide) rfl ?_
      refine l_iconst C (2) dL_ifCalled_23 (by decide) ?_
      exact ret _ _ _ _ _ _ _ (by decide) (by decide) dL_ifCalled_24 ⟨2, 0, rfl, by decide, Or.inr ⟨1, _, rfl, rfl, h9⟩, fun h => absurd h (by decide)⟩
    · refine l_catch C hNx htab (by decide) 2 rfl (fun z hz => by
          rcases (by simpa using hz : z = (0, 14, 17, 24) ∨ z = (0, 14, 21, 13)) with rfl | rfl
          · exact ⟨by decide, "java/lang/IndexOutOfBoundsException", clE_24, by decide, by decide⟩
          · exact ⟨by decide, "java/lang/IllegalArgumentException", clE_13, by decide, by decide⟩
          ) ⟨by decide, by decide⟩ (by decide) clE_15 (fun q9 => ?_)
      refine l_astore C [0, 1, 2, 3, 4, 5, 6] [(6, .ref q9), (0, .ref (sk_ad O k)), (1, .int s), (2, .int e), (3, .int p), (4, .int v), (5, .ref ca)] dL_ifCalled_25 (by decide) rfl ?_
      refine l_iconst C (3) dL_ifCalled_27 (by decide) ?_
      exact ret _ _ _ _ _ _ _ (by decide) (by decide) dL_ifCalled_28 ⟨3, 0, rfl, by decide, Or.inr ⟨2, _, rfl, rfl, h9⟩, fun h => absurd h (by decide)⟩
  · refine l_i2l C dL_ifCalled_12 ?_
    refine l_last C L dL_ifCalled_13 ?_
    refine l_goto C 29 dL_ifCalled_14 (by decide) ?_
    refine l_iconst C (0) dL_ifCalled_29 (by decide) ?_
    exact ret _ _ _ _ _ _ _ (by decide) (by decide) dL_ifCalled_30 ⟨0, r9, rfl, by decide, Or.inl ⟨rfl, h9⟩, fun _ => rfl⟩
theorem yg_ifReplaced : sk_yg yL_ifReplaced cL_ifReplaced 5 [(0, 10, 13, 24), (0, 10, 17, 15)] 4 := ⟨sk_wd 839 (by decide +kernel) (by decide +kernel), ini_SkateSheetLaw, by decide +kernel, by decide +kernel, sk_wd 838 (by decide +kernel) (by decide +kernel)⟩
set_option maxRecDepth 100000 in
theorem g_L_ifReplaced (l : Launch) {O : sk_O} (hO : sk_inj O) (M : sk_M) (k n : Nat) (s e : Int32) (hk : sk_isX O k) (hn : M (k + 736) 1 = nI n) (hn2 : n ≤ 120) (hw : st_wf M (k + 1)) (hst : l.stackTraces = false) (ca : Nat) (cA : ClassId) (v0 : Int64) : sk_G l yL_ifReplaced (Cond.codeWith yL_ifReplaced cL_ifReplaced 5 (some .int) [(0, 10, 13, 24), (0, 10, 17, 15)] :: sk_tb) ({ frames := 7, cells := 1, slots := 6, locals := 155 }) O ca cA [.ref (sk_ad O k), .int s, .int e, .ref ca] M v0 (sk_gq ["java/lang/IndexOutOfBoundsException", "java/lang/IllegalStateException"] (x_rp M k n s e) (x_rx M k n s e)) := by
  refine sk_gi (by decide) ⟨rfl, rfl⟩ hO (Nat.le_of_ble_eq_true rfl) (fun X A Q C L hSr hNx htab ret => ?_)
  show sk_L l X O A Q ca cA v0 5 0 0 M 0 [(0, .ref (sk_ad O k)), (1, .int s), (2, .int e), (3, .ref ca)] []
  refine l_aloadn C 3 dL_ifReplaced_0 rfl ?_
  refine l_iconst C (0) dL_ifReplaced_1 (by decide) ?_
  refine l_aloadn C 0 dL_ifReplaced_2 rfl ?_
  refine l_iloadn C 1 dL_ifReplaced_3 rfl ?_
  refine l_iloadn C 2 dL_ifReplaced_4 rfl ?_
  refine l_xi C L hSr (as := [.int s, .int e]) yvX7_ifReplaced viX7_ifReplaced ml_L_72 (m_X7_ifReplaced l hO M k n s e hk hn hn2 hw hst) hk.1 rfl rfl rfl (Nat.le_of_ble_eq_true rfl) (by decide) dL_ifReplaced_5 (fun E9 M9 h9 => ?_) (fun r9 M9 h9 => ?_)
  · have hm : E9 = "java/lang/IndexOutOfBoundsException" ∨ E9 = "java/lang/IllegalStateException" := Or.imp (fun z => z.1) (fun z => z.1) h9
    rcases hm with rfl | rfl
    · refine l_catch C hNx htab (by decide) 0 rfl (fun z hz => absurd hz (by simp)) ⟨by decide, by decide⟩ (by decide) clE_24 (fun q9 => ?_)
      refine l_astore C [0, 1, 2, 3, 4] [(4, .ref q9), (0, .ref (sk_ad O k)), (1, .int s), (2, .int e), (3, .ref ca)] dL_ifReplaced_13 (by decide) rfl ?_
      refine l_iconst C (1) dL_ifReplaced_15 (by decide) ?_
      exact ret _ _ _ _ _ _ _ (by decide) (by decide) dL_ifReplaced_16 ⟨1, 0, rfl, by decide, Or.inr ⟨0, _, rfl, rfl, h9⟩, fun h => absurd h (by decide)⟩
    · refine l_catch C hNx htab (by decide) 1 rfl (fun z hz => by
          rcases (by simpa using hz : z = (0, 10, 13, 24)) with rfl
          · exact ⟨by decide, "java/lang/IndexOutOfBoundsException", clE_24, by decide, by decide⟩
          ) ⟨by decide, by decide⟩ (by decide) clE_15 (fun q9 => ?_)
      refine l_astore C [0, 1, 2, 3, 4] [(4, .ref q9), (0, .ref (sk_ad O k)), (1, .int s), (2, .int e), (3, .ref ca)] dL_ifReplaced_17 (by decide) rfl ?_
      refine l_iconst C (2) dL_ifReplaced_19 (by decide) ?_
      exact ret _ _ _ _ _ _ _ (by decide) (by decide) dL_ifReplaced_20 ⟨2, 0, rfl, by decide, Or.inr ⟨1, _, rfl, rfl, h9⟩, fun h => absurd h (by decide)⟩
  · refine l_i2l C dL_ifReplaced_8 ?_
    refine l_last C L dL_ifReplaced_9 ?_
    refine l_goto C 21 dL_ifReplaced_10 (by decide) ?_
    refine l_iconst C (0) dL_ifReplaced_21 (by decide) ?_
    exact ret _ _ _ _ _ _ _ (by decide) (by decide) dL_ifReplaced_22 ⟨0, r9, rfl, by decide, Or.inl ⟨rfl, h9⟩, fun _ => rfl⟩
theorem yg_bestSwap : sk_yg yL_bestSwap cL_bestSwap 5 [(0, 10, 13, 24), (0, 10, 17, 13)] 4 := ⟨sk_wd 851 (by decide +kernel) (by decide +kernel), ini_SkateSheetLaw, by decide +kernel, by decide +kernel, sk_wd 850 (by decide +kernel) (by decide +kernel)⟩
set_option maxRecDepth 100000 in
theorem g_L_bestSwap (l : Launch) {O : sk_O} (hO : sk_inj O) (M : sk_M) (k : Nat) (s w : Int32) (hk : sk_isX O k) (hw : st_wf M (k + 1)) (hst : l.stackTraces = false) (ca : Nat) (cA : ClassId) (v0 : Int64) : sk_G l yL_bestSwap (Cond.codeWith yL_bestSwap cL_bestSwap 5 (some .int) [(0, 10, 13, 24), (0, 10, 17, 13)] :: sk_tb) ({ frames := 7, cells := 1, slots := 6, locals := 160 }) O ca cA [.ref (sk_ad O k), .int s, .int w, .ref ca] M v0 (sk_gq ["java/lang/IndexOutOfBoundsException", "java/lang/IllegalArgumentException"] (fun r M' => (er_2 (st_hs M (k + 1) s) (¬ w < 0 ∧ ¬ 2 < w)) = 0 ∧ r = (bs_a (bs_o k (st_pg (k + 1) s) (pg_n M (st_pg (k + 1) s)) (bs_z M k (st_pg (k + 1) s)) (pg_n M (st_pg (k + 1) s))) w) ∧ M' = ((bs_o k (st_pg (k + 1) s) (pg_n M (st_pg (k + 1) s)) (bs_z M k (st_pg (k + 1) s)) (pg_n M (st_pg (k + 1) s))).1)) (fun E M' => ((er_2 (st_hs M (k + 1) s) (¬ w < 0 ∧ ¬ 2 < w)) = 1 ∧ E = "java/lang/IndexOutOfBoundsException" ∨ (er_2 (st_hs M (k + 1) s) (¬ w < 0 ∧ ¬ 2 < w)) = 2 ∧ E = "java/lang/IllegalArgumentException") ∧ M' = M)) := by
  refine sk_gi (by decide) ⟨rfl, rfl⟩ hO (Nat.le_of_ble_eq_true rfl) (fun X A Q C L hSr hNx htab ret => ?_)
  show sk_L l X O A Q ca cA v0 5 0 0 M 0 [(0, .ref (sk_ad O k)), (1, .int s), (2, .int w), (3, .ref ca)] []
  refine l_aloadn C 3 dL_bestSwap_0 rfl ?_
  refine l_iconst C (0) dL_bestSwap_1 (by decide) ?_
  refine l_aloadn C 0 dL_bestSwap_2 rfl ?_
  refine l_iloadn C 1 dL_bestSwap_3 rfl ?_
  refine l_iloadn C 2 dL_bestSwap_4 rfl ?_
  refine l_xi C L hSr (as := [.int s, .int w]) yvX7_bestSwap viX7_bestSwap ml_L_75 (m_X7_bestSwap l hO M k s w hk hw hst) hk.1 rfl rfl rfl (Nat.le_of_ble_eq_true rfl) (by decide) dL_bestSwap_5 (fun E9 M9 h9 => ?_) (fun r9 M9 h9 => ?_)
  · have hm : E9 = "java/lang/IndexOutOfBoundsException" ∨ E9 = "java/lang/IllegalArgumentException" := Or.imp (fun z => z.2) (fun z => z.2) h9.1
    rcases hm with rfl | rfl
    · refine l_catch C hNx htab (by decide) 0 rfl (fun z hz => absurd hz (by simp)) ⟨by decide, by decide⟩ (by decide) clE_24 (fun q9 => ?_)
      refine l_astore C [0, 1, 2, 3, 4] [(4, .ref q9), (0, .ref (sk_ad O k)), (1, .int s), (2, .int w), (3, .ref ca)] dL_bestSwap_13 (by decide) rfl ?_
      refine l_iconst C (1) dL_bestSwap_15 (by decide) ?_
      exact ret _ _ _ _ _ _ _ (by decide) (by decide) dL_bestSwap_16 ⟨1, 0, rfl, by decide, Or.inr ⟨0, _, rfl, rfl, h9⟩, fun h => absurd h (by decide)⟩
    · refine l_catch C hNx htab (by decide) 1 rfl (fun z hz => by
          rcases (by simpa using hz : z = (0, 10, 13, 24)) with rfl
          · exact ⟨by decide, "java/lang/IndexOutOfBoundsException", clE_24, by decide, by decide⟩
          ) ⟨by decide, by decide⟩ (by decide) clE_13 (fun q9 => ?_)
      refine l_astore C [0, 1, 2, 3, 4] [(4, .ref q9), (0, .ref (sk_ad O k)), (1, .int s), (2, .int w), (3, .ref ca)] dL_bestSwap_17 (by decide) rfl ?_
      refine l_iconst C (2) dL_bestSwap_19 (by decide) ?_
      exact ret _ _ _ _ _ _ _ (by decide) (by decide) dL_bestSwap_20 ⟨2, 0, rfl, by decide, Or.inr ⟨1, _, rfl, rfl, h9⟩, fun h => absurd h (by decide)⟩
  · refine l_i2l C dL_bestSwap_8 ?_
    refine l_last C L dL_bestSwap_9 ?_
    refine l_goto C 21 dL_bestSwap_10 (by decide) ?_
    refine l_iconst C (0) dL_bestSwap_21 (by decide) ?_
    exact ret _ _ _ _ _ _ _ (by decide) (by decide) dL_bestSwap_22 ⟨0, r9, rfl, by decide, Or.inl ⟨rfl, h9⟩, fun _ => rfl⟩
theorem yg_needs : sk_yg yL_needs cL_needs 5 [(0, 10, 13, 24)] 4 := ⟨sk_wd 863 (by decide +kernel) (by decide +kernel), ini_SkateSheetLaw, by decide +kernel, by decide +kernel, sk_wd 862 (by decide +kernel) (by decide +kernel)⟩
set_option maxRecDepth 100000 in
theorem g_L_needs (l : Launch) {O : sk_O} (hO : sk_inj O) (M : sk_M) (k : Nat) (s e : Int32) (hk : sk_isX O k) (hw : st_wf M (k + 1)) (hst : l.stackTraces = false) (ca : Nat) (cA : ClassId) (v0 : Int64) : sk_G l yL_needs (Cond.codeWith yL_needs cL_needs 5 (some .int) [(0, 10, 13, 24)] :: sk_tb) ({ frames := 7, cells := 1, slots := 6, locals := 158 }) O ca cA [.ref (sk_ad O k), .int s, .int e, .ref ca] M v0 (sk_gq ["java/lang/IndexOutOfBoundsException"] (nd_q M k s e) (fun E M' => E = "java/lang/IndexOutOfBoundsException" ∧ ¬ st_he M (k + 1) s e ∧ M' = M)) := by
  refine sk_gi (by decide) ⟨rfl, rfl⟩ hO (Nat.le_of_ble_eq_true rfl) (fun X A Q C L hSr hNx htab ret => ?_)
  show sk_L l X O A Q ca cA v0 5 0 0 M 0 [(0, .ref (sk_ad O k)), (1, .int s), (2, .int e), (3, .ref ca)] []
  refine l_aloadn C 3 dL_needs_0 rfl ?_
  refine l_iconst C (0) dL_needs_1 (by decide) ?_
  refine l_aloadn C 0 dL_needs_2 rfl ?_
  refine l_iloadn C 1 dL_needs_3 rfl ?_
  refine l_iloadn C 2 dL_needs_4 rfl ?_
  refine l_xi C L hSr (as := [.int s, .int e]) yvX7_needs viX7_needs ml_L_78 (m_X7_needs l hO M k s e hk hw hst) hk.1 rfl rfl rfl (Nat.le_of_ble_eq_true rfl) (by decide) dL_needs_5 (fun E9 M9 h9 => ?_) (fun r9 M9 h9 => ?_)
  · have hm : E9 = "java/lang/IndexOutOfBoundsException" := h9.1
    subst hm
    refine l_catch C hNx htab (by decide) 0 rfl (fun z hz => absurd hz (by simp)) ⟨by decide, by decide⟩ (by decide) clE_24 (fun q9 => ?_)
    refine l_astore C [0, 1, 2, 3, 4] [(4, .ref q9), (0, .ref (sk_ad O k)), (1, .int s), (2, .int e), (3, .ref ca)] dL_needs_13 (by decide) rfl ?_
    refine l_iconst C (1) dL_needs_15 (by decide) ?_
    exact ret _ _ _ _ _ _ _ (by decide) (by decide) dL_needs_16 ⟨1, 0, rfl, by decide, Or.inr ⟨0, _, rfl, rfl, h9⟩, fun h => absurd h (by decide)⟩
  · refine l_i2l C dL_needs_8 ?_
    refine l_last C L dL_needs_9 ?_
    refine l_goto C 17 dL_needs_10 (by decide) ?_
    refine l_iconst C (0) dL_needs_17 (by decide) ?_
    exact ret _ _ _ _ _ _ _ (by decide) (by decide) dL_needs_18 ⟨0, r9, rfl, by decide, Or.inl ⟨rfl, h9⟩, fun _ => rfl⟩
theorem yg_behind : sk_yg yL_behind cL_behind 4 [(0, 9, 12, 24)] 3 := ⟨sk_wd 871 (by decide +kernel) (by decide +kernel), ini_SkateSheetLaw, by decide +kernel, by decide +kernel, sk_wd 870 (by decide +kernel) (by decide +kernel)⟩
set_option maxRecDepth 100000 in
theorem g_L_behind (l : Launch) {O : sk_O} (hO : sk_inj O) (M : sk_M) (k : Nat) (s : Int32) (hk : sk_isX O k) (hw : st_wf M (k + 1)) (hst : l.stackTraces = false) (ca : Nat) (cA : ClassId) (v0 : Int64) : sk_G l yL_behind (Cond.codeWith yL_behind cL_behind 4 (some .int) [(0, 9, 12, 24)] :: sk_tb) ({ frames := 7, cells := 1, slots := 6, locals := 153 }) O ca cA [.ref (sk_ad O k), .int s, .ref ca] M v0 (sk_gq ["java/lang/IndexOutOfBoundsException"] (fun r M' => (er_1 (st_hs M (k + 1) s)) = 0 ∧ r = (x_be M k s) ∧ M' = (x_RK M k)) (fun E M' => ((er_1 (st_hs M (k + 1) s)) = 1 ∧ E = "java/lang/IndexOutOfBoundsException") ∧ M' = M)) := by
  refine sk_gi (by decide) ⟨rfl, rfl⟩ hO (Nat.le_of_ble_eq_true rfl) (fun X A Q C L hSr hNx htab ret => ?_)
  show sk_L l X O A Q ca cA v0 4 0 0 M 0 [(0, .ref (sk_ad O k)), (1, .int s), (2, .ref ca)] []
  refine l_aloadn C 2 dL_behind_0 rfl ?_
  refine l_iconst C (0) dL_behind_1 (by decide) ?_
  refine l_aloadn C 0 dL_behind_2 rfl ?_
  refine l_iloadn C 1 dL_behind_3 rfl ?_
  refine l_xi C L hSr (as := [.int s]) yvX7_behind viX7_behind ml_L_81 (m_X7_behind l hO M k s hk hw hst) hk.1 rfl rfl rfl (Nat.le_of_ble_eq_true rfl) (by decide) dL_behind_4 (fun E9 M9 h9 => ?_) (fun r9 M9 h9 => ?_)
  · have hm : E9 = "java/lang/IndexOutOfBoundsException" := h9.1.2
    subst hm
    refine l_catch C hNx htab (by decide) 0 rfl (fun z hz => absurd hz (by simp)) ⟨by decide, by decide⟩ (by decide) clE_24 (fun q9 => ?_)
    refine l_astoren C [0, 1, 2, 3] [(3, .ref q9), (0, .ref (sk_ad O k)), (1, .int s), (2, .ref ca)] dL_behind_12 (by decide) rfl ?_
    refine l_iconst C (1) dL_behind_13 (by decide) ?_
    exact ret _ _ _ _ _ _ _ (by decide) (by decide) dL_behind_14 ⟨1, 0, rfl, by decide, Or.inr ⟨0, _, rfl, rfl, h9⟩, fun h => absurd h (by decide)⟩
  · refine l_i2l C dL_behind_7 ?_
    refine l_last C L dL_behind_8 ?_
    refine l_goto C 15 dL_behind_9 (by decide) ?_
    refine l_iconst C (0) dL_behind_15 (by decide) ?_
    exact ret _ _ _ _ _ _ _ (by decide) (by decide) dL_behind_16 ⟨0, r9, rfl, by decide, Or.inl ⟨rfl, h9⟩, fun _ => rfl⟩
theorem yg_runScript : sk_yg yL_runScript cL_runScript 6 [(0, 11, 14, 13)] 4 := ⟨sk_wd 878 (by decide +kernel) (by decide +kernel), ini_SkateSheetLaw, by decide +kernel, by decide +kernel, sk_wd 877 (by decide +kernel) (by decide +kernel)⟩
set_option maxRecDepth 100000 in
theorem g_L_runScript (l : Launch) {O : sk_O} (hO : sk_inj O) (M : sk_M) (k : Nat) (v : Int32) (x : Int64) (hk : sk_isX O k) (hw : st_wf M (k + 1)) (hst : l.stackTraces = false) (ca : Nat) (cA : ClassId) (v0 : Int64) : sk_G l yL_runScript (Cond.codeWith yL_runScript cL_runScript 6 (some .int) [(0, 11, 14, 13)] :: sk_tb) ({ frames := 7, cells := 1, slots := 6, locals := 179 }) O ca cA [.ref (sk_ad O k), .int v, .long x, .ref ca] M v0 (sk_gq ["java/lang/IllegalArgumentException"] (rs_q M k v x) (fun E M' => E = "java/lang/IllegalArgumentException" ∧ ¬ rs_k v x ∧ M' = M)) := by
  refine sk_gi (by decide) ⟨rfl, rfl⟩ hO (Nat.le_of_ble_eq_true rfl) (fun X A Q C L hSr hNx htab ret => ?_)
  show sk_L l X O A Q ca cA v0 6 0 0 M 0 [(0, .ref (sk_ad O k)), (1, .int v), (2, .long x), (4, .ref ca)] []
  refine l_aload C 3 dL_runScript_0 rfl ?_
  refine l_iconst C (0) dL_runScript_2 (by decide) ?_
  refine l_aloadn C 0 dL_runScript_3 rfl ?_
  refine l_iloadn C 1 dL_runScript_4 rfl ?_
  refine l_lloadn C 2 dL_runScript_5 rfl ?_
  refine l_xi C L hSr (as := [.int v, .long x]) yvX7_runScript viX7_runScript ml_L_84 (m_X7_runScript l hO M k v x hk hw hst) hk.1 rfl rfl rfl (Nat.le_of_ble_eq_true rfl) (by decide) dL_runScript_6 (fun E9 M9 h9 => ?_) (fun r9 M9 h9 => ?_)
  · have hm : E9 = "java/lang/IllegalArgumentException" := h9.1
    subst hm
    refine l_catch C hNx htab (by decide) 0 rfl (fun z hz => absurd hz (by simp)) ⟨by decide, by decide⟩ (by decide) clE_13 (fun q9 => ?_)
    refine l_astore C [0, 1, 2, 3, 4] [(5, .ref q9), (0, .ref (sk_ad O k)), (1, .int v), (2, .long x), (4, .ref ca)] dL_runScript_14 (by decide) rfl ?_
    refine l_iconst C (1) dL_runScript_16 (by decide) ?_
    exact ret _ _ _ _ _ _ _ (by decide) (by decide) dL_runScript_17 ⟨1, 0, rfl, by decide, Or.inr ⟨0, _, rfl, rfl, h9⟩, fun h => absurd h (by decide)⟩
  · refine l_i2l C dL_runScript_9 ?_
    refine l_last C L dL_runScript_10 ?_
    refine l_goto C 18 dL_runScript_11 (by decide) ?_
    refine l_iconst C (0) dL_runScript_18 (by decide) ?_
    exact ret _ _ _ _ _ _ _ (by decide) (by decide) dL_runScript_19 ⟨0, r9, rfl, by decide, Or.inl ⟨rfl, h9⟩, fun _ => rfl⟩
theorem yg_simulate : sk_yg yL_simulate cL_simulate 6 [(0, 11, 14, 13)] 4 := ⟨sk_wd 913 (by decide +kernel) (by decide +kernel), ini_SkateSheetLaw, by decide +kernel, by decide +kernel, sk_wd 912 (by decide +kernel) (by decide +kernel)⟩
set_option maxRecDepth 100000 in
theorem g_L_simulate (l : Launch) {O : sk_O} (hO : sk_inj O) (M : sk_M) (k : Nat) (x : Int64) (v : Int32) (hk : sk_isX O k) (hw : st_wf M (k + 1)) (hst : l.stackTraces = false) (ca : Nat) (cA : ClassId) (v0 : Int64) : sk_G l yL_simulate (Cond.codeWith yL_simulate cL_simulate 6 (some .int) [(0, 11, 14, 13)] :: sk_tb) ({ frames := 7, cells := 1, slots := 6, locals := 158 }) O ca cA [.ref (sk_ad O k), .long x, .int v, .ref ca] M v0 (sk_gq ["java/lang/IllegalArgumentException"] (fun r M' => (er_1 (¬ v < 1 ∧ ¬ 60 < v)) = 0 ∧ r = (sk_sum (si_e M k x v.toNatClampNeg (k + 748)) (st_n (si_m M k x v.toNatClampNeg) (k + 751))) ∧ M' = (si_e M k x v.toNatClampNeg)) (fun E M' => ((er_1 (¬ v < 1 ∧ ¬ 60 < v)) = 1 ∧ E = "java/lang/IllegalArgumentException") ∧ M' = M)) := by
  refine sk_gi (by decide) ⟨rfl, rfl⟩ hO (Nat.le_of_ble_eq_true rfl) (fun X A Q C L hSr hNx htab ret => ?_)
  show sk_L l X O A Q ca cA v0 6 0 0 M 0 [(0, .ref (sk_ad O k)), (1, .long x), (3, .int v), (4, .ref ca)] []
  refine l_aload C 3 dL_simulate_0 rfl ?_
  refine l_iconst C (0) dL_simulate_2 (by decide) ?_
  refine l_aloadn C 0 dL_simulate_3 rfl ?_
  refine l_lloadn C 1 dL_simulate_4 rfl ?_
  refine l_iloadn C 2 dL_simulate_5 rfl ?_
  refine l_xi C L hSr (as := [.long x, .int v]) yvX7_simulate viX7_simulate ml_L_88 (m_X7_simulate l hO M k x v hk hw hst) hk.1 rfl rfl rfl (Nat.le_of_ble_eq_true rfl) (by decide) dL_simulate_6 (fun E9 M9 h9 => ?_) (fun r9 M9 h9 => ?_)
  · have hm : E9 = "java/lang/IllegalArgumentException" := h9.1.2
    subst hm
    refine l_catch C hNx htab (by decide) 0 rfl (fun z hz => absurd hz (by simp)) ⟨by decide, by decide⟩ (by decide) clE_13 (fun q9 => ?_)
    refine l_astore C [0, 1, 2, 3, 4] [(5, .ref q9), (0, .ref (sk_ad O k)), (1, .long x), (3, .int v), (4, .ref ca)] dL_simulate_14 (by decide) rfl ?_
    refine l_iconst C (1) dL_simulate_16 (by decide) ?_
    exact ret _ _ _ _ _ _ _ (by decide) (by decide) dL_simulate_17 ⟨1, 0, rfl, by decide, Or.inr ⟨0, _, rfl, rfl, h9⟩, fun h => absurd h (by decide)⟩
  · refine l_i2l C dL_simulate_9 ?_
    refine l_last C L dL_simulate_10 ?_
    refine l_goto C 18 dL_simulate_11 (by decide) ?_
    refine l_iconst C (0) dL_simulate_18 (by decide) ?_
    exact ret _ _ _ _ _ _ _ (by decide) (by decide) dL_simulate_19 ⟨0, r9, rfl, by decide, Or.inl ⟨rfl, h9⟩, fun _ => rfl⟩
theorem yg_save : sk_yg yL_save cL_save 4 [(0, 9, 12, 24)] 3 := ⟨sk_wd 929 (by decide +kernel) (by decide +kernel), ini_SkateSheetLaw, by decide +kernel, by decide +kernel, sk_wd 928 (by decide +kernel) (by decide +kernel)⟩
set_option maxRecDepth 100000 in
theorem g_L_save (l : Launch) {O : sk_O} (hO : sk_inj O) (M : sk_M) (k : Nat) (j : Int32) (hk : sk_isX O k) (hw : st_wf M (k + 1)) (hst : l.stackTraces = false) (ca : Nat) (cA : ClassId) (v0 : Int64) : sk_G l yL_save (Cond.codeWith yL_save cL_save 4 (some .int) [(0, 9, 12, 24)] :: sk_tb) ({ frames := 7, cells := 1, slots := 6, locals := 145 }) O ca cA [.ref (sk_ad O k), .int j, .ref ca] M v0 (sk_gq ["java/lang/IndexOutOfBoundsException"] (fun r M' => (er_1 (¬ j < 0 ∧ ¬ 2 ≤ j)) = 0 ∧ r = (sk_ms (st_cf M (k + 649 + 43 * j.toNatClampNeg) (k + 1)) (k + 735) j.toNatClampNeg 1 (k + 1) 2) ∧ M' = (sk_ms (st_cf M (k + 649 + 43 * j.toNatClampNeg) (k + 1)) (k + 735) j.toNatClampNeg 1)) (fun E M' => ((er_1 (¬ j < 0 ∧ ¬ 2 ≤ j)) = 1 ∧ E = "java/lang/IndexOutOfBoundsException") ∧ M' = M)) := by
  refine sk_gi (by decide) ⟨rfl, rfl⟩ hO (Nat.le_of_ble_eq_true rfl) (fun X A Q C L hSr hNx htab ret => ?_)
  show sk_L l X O A Q ca cA v0 4 0 0 M 0 [(0, .ref (sk_ad O k)), (1, .int j), (2, .ref ca)] []
  refine l_aloadn C 2 dL_save_0 rfl ?_
  refine l_iconst C (0) dL_save_1 (by decide) ?_
  refine l_aloadn C 0 dL_save_2 rfl ?_
  refine l_iloadn C 1 dL_save_3 rfl ?_
  refine l_xi C L hSr (as := [.int j]) yvX7_save viX7_save ml_L_92 (m_X7_save l hO M k j hk hw hst) hk.1 rfl rfl rfl (Nat.le_of_ble_eq_true rfl) (by decide) dL_save_4 (fun E9 M9 h9 => ?_) (fun r9 M9 h9 => ?_)
  · have hm : E9 = "java/lang/IndexOutOfBoundsException" := h9.1.2
    subst hm
    refine l_catch C hNx htab (by decide) 0 rfl (fun z hz => absurd hz (by simp)) ⟨by decide, by decide⟩ (by decide) clE_24 (fun q9 => ?_)
    refine l_astoren C [0, 1, 2, 3] [(3, .ref q9), (0, .ref (sk_ad O k)), (1, .int j), (2, .ref ca)] dL_save_12 (by decide) rfl ?_
    refine l_iconst C (1) dL_save_13 (by decide) ?_
    exact ret _ _ _ _ _ _ _ (by decide) (by decide) dL_save_14 ⟨1, 0, rfl, by decide, Or.inr ⟨0, _, rfl, rfl, h9⟩, fun h => absurd h (by decide)⟩
  · refine l_i2l C dL_save_7 ?_
    refine l_last C L dL_save_8 ?_
    refine l_goto C 15 dL_save_9 (by decide) ?_
    refine l_iconst C (0) dL_save_15 (by decide) ?_
    exact ret _ _ _ _ _ _ _ (by decide) (by decide) dL_save_16 ⟨0, r9, rfl, by decide, Or.inl ⟨rfl, h9⟩, fun _ => rfl⟩
theorem yg_restore : sk_yg yL_restore cL_restore 4 [(0, 9, 12, 24), (0, 9, 15, 15)] 3 := ⟨sk_wd 937 (by decide +kernel) (by decide +kernel), ini_SkateSheetLaw, by decide +kernel, by decide +kernel, sk_wd 936 (by decide +kernel) (by decide +kernel)⟩
set_option maxRecDepth 100000 in
theorem g_L_restore (l : Launch) {O : sk_O} (hO : sk_inj O) (M : sk_M) (k : Nat) (j : Int32) (hk : sk_isX O k) (hwj : ¬ j < 0 → ¬ 2 ≤ j → M (k + 735) j.toNatClampNeg = 0 ∨ st_wf M (k + 649 + 43 * j.toNatClampNeg)) (hst : l.stackTraces = false) (ca : Nat) (cA : ClassId) (v0 : Int64) : sk_G l yL_restore (Cond.codeWith yL_restore cL_restore 4 (some .int) [(0, 9, 12, 24), (0, 9, 15, 15)] :: sk_tb) ({ frames := 7, cells := 1, slots := 6, locals := 145 }) O ca cA [.ref (sk_ad O k), .int j, .ref ca] M v0 (sk_gq ["java/lang/IndexOutOfBoundsException", "java/lang/IllegalStateException"] (fun r M' => (er_2 (¬ j < 0 ∧ ¬ 2 ≤ j) (¬ M (k + 735) j.toNatClampNeg = 0)) = 0 ∧ r = (sk_ms (st_cf M (k + 1) (k + 649 + 43 * j.toNatClampNeg)) (k + 44) 2 0 (k + 1) 2) ∧ M' = (sk_ms (st_cf M (k + 1) (k + 649 + 43 * j.toNatClampNeg)) (k + 44) 2 0)) (fun E M' => ((er_2 (¬ j < 0 ∧ ¬ 2 ≤ j) (¬ M (k + 735) j.toNatClampNeg = 0)) = 1 ∧ E = "java/lang/IndexOutOfBoundsException" ∨ (er_2 (¬ j < 0 ∧ ¬ 2 ≤ j) (¬ M (k + 735) j.toNatClampNeg = 0)) = 2 ∧ E = "java/lang/IllegalStateException") ∧ M' = M)) := by
  refine sk_gi (by decide) ⟨rfl, rfl⟩ hO (Nat.le_of_ble_eq_true rfl) (fun X A Q C L hSr hNx htab ret => ?_)
  show sk_L l X O A Q ca cA v0 4 0 0 M 0 [(0, .ref (sk_ad O k)), (1, .int j), (2, .ref ca)] []
  refine l_aloadn C 2 dL_restore_0 rfl ?_
  refine l_iconst C (0) dL_restore_1 (by decide) ?_
  refine l_aloadn C 0 dL_restore_2 rfl ?_
  refine l_iloadn C 1 dL_restore_3 rfl ?_
  refine l_xi C L hSr (as := [.int j]) yvX7_restore viX7_restore ml_L_95 (m_X7_restore l hO M k j hk hwj hst) hk.1 rfl rfl rfl (Nat.le_of_ble_eq_true rfl) (by decide) dL_restore_4 (fun E9 M9 h9 => ?_) (fun r9 M9 h9 => ?_)
  · have hm : E9 = "java/lang/IndexOutOfBoundsException" ∨ E9 = "java/lang/IllegalStateException" := Or.imp (fun z => z.2) (fun z => z.2) h9.1
    rcases hm with rfl | rfl
    · refine l_catch C hNx htab (by decide) 0 rfl (fun z hz => absurd hz (by simp)) ⟨by decide, by decide⟩ (by decide) clE_24 (fun q9 => ?_)
      refine l_astoren C [0, 1, 2, 3] [(3, .ref q9), (0, .ref (sk_ad O k)), (1, .int j), (2, .ref ca)] dL_restore_12 (by decide) rfl ?_
      refine l_iconst C (1) dL_restore_13 (by decide) ?_
      exact ret _ _ _ _ _ _ _ (by decide) (by decide) dL_restore_14 ⟨1, 0, rfl, by decide, Or.inr ⟨0, _, rfl, rfl, h9⟩, fun h => absurd h (by decide)⟩
    · refine l_catch C hNx htab (by decide) 1 rfl (fun z hz => by
          rcases (by simpa using hz : z = (0, 9, 12, 24)) with rfl
          · exact ⟨by decide, "java/lang/IndexOutOfBoundsException", clE_24, by decide, by decide⟩
          ) ⟨by decide, by decide⟩ (by decide) clE_15 (fun q9 => ?_)
      refine l_astoren C [0, 1, 2, 3] [(3, .ref q9), (0, .ref (sk_ad O k)), (1, .int j), (2, .ref ca)] dL_restore_15 (by decide) rfl ?_
      refine l_iconst C (2) dL_restore_16 (by decide) ?_
      exact ret _ _ _ _ _ _ _ (by decide) (by decide) dL_restore_17 ⟨2, 0, rfl, by decide, Or.inr ⟨1, _, rfl, rfl, h9⟩, fun h => absurd h (by decide)⟩
  · refine l_i2l C dL_restore_7 ?_
    refine l_last C L dL_restore_8 ?_
    refine l_goto C 18 dL_restore_9 (by decide) ?_
    refine l_iconst C (0) dL_restore_18 (by decide) ?_
    exact ret _ _ _ _ _ _ _ (by decide) (by decide) dL_restore_19 ⟨0, r9, rfl, by decide, Or.inl ⟨rfl, h9⟩, fun _ => rfl⟩
