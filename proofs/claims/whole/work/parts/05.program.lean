/-! Command and Program: contracts -/
abbrev sk_rm (x y : Int32) : Int32 := x - x / y * y
def sk_sum (f : Nat → Int32) : Nat → Int32
  | 0 => 0
  | n + 1 => sk_sum f n + f n
def cm_read (M : sk_M) (k : Nat) (g : Int32) : sk_M := sk_ms (sk_ms (sk_ms (sk_ms (sk_ms M k 0 (g / 10000)) k 1 (sk_rm (g / 1000) 10)) k 2 (sk_rm (g / 100) 10)) k 3 (sk_rm (g / 10) 10)) k 4 (sk_rm g 10)
set_option maxHeartbeats 4000000 in
set_option maxRecDepth 100000 in
theorem m_X0_read (l : Launch) {O : sk_O} (hO : sk_inj O) (M : sk_M) (k : Nat) (g : Int32) (hk : sk_isC O k) : sk_Mv l yX0_read (sk_w yX0_read cX0_read 2 none) ({ frames := 0, cells := 0, slots := 0, locals := 0 }) O [.ref (sk_ad O k), .int g] M (fun M' => M' = (cm_read M k g)) := by
  refine sk_mv (by decide) ⟨rfl, rfl⟩ hO (Nat.le_of_ble_eq_true rfl) (fun X A Q C ret => ?_)
  show sk_W l X O A Q 2 0 0 M 0 [(0, .ref (sk_ad O k)), (1, .int g)] []
  refine k_aloadn C 0 dX0_read_0 rfl ?_
  refine k_iloadn C 1 dX0_read_1 rfl ?_
  refine k_sipush C (10000) dX0_read_2 (by decide) ?_
  refine k_idiv C dX0_read_5 (by decide) ?_
  refine k_puti C (j := 0) (ty := .int) tyX0 kcl_X0 tyX0_ok nmX0 fl_X0_7 hk (by decide) rfl rfl (by decide +kernel) rfl rfl dX0_read_6 ?_
  refine k_aloadn C 0 dX0_read_9 rfl ?_
  refine k_iloadn C 1 dX0_read_10 rfl ?_
  refine k_sipush C (1000) dX0_read_11 (by decide) ?_
  refine k_idiv C dX0_read_14 (by decide) ?_
  refine k_bipush C (10) dX0_read_15 (by decide) ?_
  refine k_irem C dX0_read_17 (by decide) ?_
  refine k_puti C (j := 1) (ty := .int) tyX0 kcl_X0 tyX0_ok nmX0 fl_X0_13 hk (by decide) rfl rfl (by decide +kernel) rfl rfl dX0_read_18 ?_
  refine k_aloadn C 0 dX0_read_21 rfl ?_
  refine k_iloadn C 1 dX0_read_22 rfl ?_
  refine k_bipush C (100) dX0_read_23 (by decide) ?_
  refine k_idiv C dX0_read_25 (by decide) ?_
  refine k_bipush C (10) dX0_read_26 (by decide) ?_
  refine k_irem C dX0_read_28 (by decide) ?_
  refine k_puti C (j := 2) (ty := .int) tyX0 kcl_X0 tyX0_ok nmX0 fl_X0_16 hk (by decide) rfl rfl (by decide +kernel) rfl rfl dX0_read_29 ?_
  refine k_aloadn C 0 dX0_read_32 rfl ?_
  refine k_iloadn C 1 dX0_read_33 rfl ?_
  refine k_bipush C (10) dX0_read_34 (by decide) ?_
  refine k_idiv C dX0_read_36 (by decide) ?_
  refine k_bipush C (10) dX0_read_37 (by decide) ?_
  refine k_irem C dX0_read_39 (by decide) ?_
  refine k_puti C (j := 3) (ty := .int) tyX0 kcl_X0 tyX0_ok nmX0 fl_X0_19 hk (by decide) rfl rfl (by decide +kernel) rfl rfl dX0_read_40 ?_
  refine k_aloadn C 0 dX0_read_43 rfl ?_
  refine k_iloadn C 1 dX0_read_44 rfl ?_
  refine k_bipush C (10) dX0_read_45 (by decide) ?_
  refine k_irem C dX0_read_47 (by decide) ?_
  refine k_puti C (j := 4) (ty := .int) tyX0 kcl_X0 tyX0_ok nmX0 fl_X0_22 hk (by decide) rfl rfl (by decide +kernel) rfl rfl dX0_read_48 ?_
  exact ret _ _ _ dX0_read_51 (by exact rfl)

set_option maxHeartbeats 4000000 in
set_option maxRecDepth 100000 in
theorem m_X0_middleTwo (l : Launch) {O : sk_O} (hO : sk_inj O) (M : sk_M) (k : Nat) (hk : sk_isC O k) : sk_Mi l yX0_middleTwo (sk_w yX0_middleTwo cX0_middleTwo 1 (some .int)) ({ frames := 0, cells := 0, slots := 0, locals := 0 }) O [.ref (sk_ad O k)] M (fun r M' => r = (10 * M k 2 + M k 3) ∧ M' = M) := by
  refine sk_mi (by decide) ⟨rfl, rfl⟩ hO (Nat.le_of_ble_eq_true rfl) (fun X A Q C ret => ?_)
  show sk_W l X O A Q 1 0 0 M 0 [(0, .ref (sk_ad O k))] []
  refine k_bipush C (10) dX0_middleTwo_0 (by decide) ?_
  refine k_aloadn C 0 dX0_middleTwo_2 rfl ?_
  refine k_geti C (j := 2) kcl_X0 fl_X0_16 hk (by decide) rfl dX0_middleTwo_3 ?_
  refine k_imul C dX0_middleTwo_6 ?_
  refine k_aloadn C 0 dX0_middleTwo_7 rfl ?_
  refine k_geti C (j := 3) kcl_X0 fl_X0_19 hk (by decide) rfl dX0_middleTwo_8 ?_
  refine k_iadd C dX0_middleTwo_11 ?_
  exact ret _ _ _ _ dX0_middleTwo_12 rfl (by exact ⟨rfl, rfl⟩)

set_option maxHeartbeats 4000000 in
set_option maxRecDepth 100000 in
theorem m_X0_lastThree (l : Launch) {O : sk_O} (hO : sk_inj O) (M : sk_M) (k : Nat) (hk : sk_isC O k) : sk_Mi l yX0_lastThree (sk_w yX0_lastThree cX0_lastThree 1 (some .int)) ({ frames := 0, cells := 0, slots := 0, locals := 0 }) O [.ref (sk_ad O k)] M (fun r M' => r = (100 * M k 2 + 10 * M k 3 + M k 4) ∧ M' = M) := by
  refine sk_mi (by decide) ⟨rfl, rfl⟩ hO (Nat.le_of_ble_eq_true rfl) (fun X A Q C ret => ?_)
  show sk_W l X O A Q 1 0 0 M 0 [(0, .ref (sk_ad O k))] []
  refine k_bipush C (100) dX0_lastThree_0 (by decide) ?_
  refine k_aloadn C 0 dX0_lastThree_2 rfl ?_
  refine k_geti C (j := 2) kcl_X0 fl_X0_16 hk (by decide) rfl dX0_lastThree_3 ?_
  refine k_imul C dX0_lastThree_6 ?_
  refine k_bipush C (10) dX0_lastThree_7 (by decide) ?_
  refine k_aloadn C 0 dX0_lastThree_9 rfl ?_
  refine k_geti C (j := 3) kcl_X0 fl_X0_19 hk (by decide) rfl dX0_lastThree_10 ?_
  refine k_imul C dX0_lastThree_13 ?_
  refine k_iadd C dX0_lastThree_14 ?_
  refine k_aloadn C 0 dX0_lastThree_15 rfl ?_
  refine k_geti C (j := 4) kcl_X0 fl_X0_22 hk (by decide) rfl dX0_lastThree_16 ?_
  refine k_iadd C dX0_lastThree_19 ?_
  exact ret _ _ _ _ dX0_lastThree_20 rfl (by exact ⟨rfl, rfl⟩)

set_option maxHeartbeats 4000000 in
set_option maxRecDepth 100000 in
theorem m_X2_fallen (l : Launch) {O : sk_O} (hO : sk_inj O) (M : sk_M) (k N : Nat) (hk : sk_isP O k) (hN : M k 9 = nI N) (hN2 : N ≤ 12) : sk_Mi l yX2_fallen (sk_w yX2_fallen cX2_fallen 3 (some .int)) ({ frames := 0, cells := 0, slots := 0, locals := 0 }) O [.ref (sk_ad O k)] M (fun r M' => r = (sk_sum (M (k + 4)) N) ∧ M' = M) := by
  refine sk_mi (by decide) ⟨rfl, rfl⟩ hO (Nat.le_of_ble_eq_true rfl) (fun X A Q C ret => ?_)
  show sk_W l X O A Q 3 0 0 M 0 [(0, .ref (sk_ad O k))] []
  refine k_iconst C (0) dX2_fallen_0 (by decide) ?_
  refine k_istoren C [1, 0] [(0, .ref (sk_ad O k)), (1, .int (0))] dX2_fallen_1 (by decide) rfl ?_
  refine k_iconst C (0) dX2_fallen_2 (by decide) ?_
  refine k_istoren C [1, 2, 0] [(0, .ref (sk_ad O k)), (1, .int (0)), (2, .int (0))] dX2_fallen_3 (by decide) rfl ?_
  have L4 : ∀ i, i ≤ N → sk_W l X O A Q 3 0 0 M 4 [(0, .ref (sk_ad O k)), (1, .int (sk_sum (M (k + 4)) i)), (2, .int (nI i))] [] := by
    refine sk_loop N (fun i hi4 ih4 => ?_)
    refine k_iloadn C 2 dX2_fallen_4 rfl ?_
    refine k_aloadn C 0 dX2_fallen_5 rfl ?_
    refine k_geti C (j := 9) kcl_X2 fl_X2_39 hk.1 (by decide) rfl dX2_fallen_6 ?_
    refine k_cge C 27 dX2_fallen_9 (by decide) (fun c9_1 => ?_) (fun c9_1 => ?_)
    ·
      have nc9_1 : N ≤ i := (sk_eI hN rfl (by omega) (by omega)).mp c9_1
      refine k_iloadn C 1 dX2_fallen_27 rfl ?_
      exact ret _ _ _ _ dX2_fallen_28 rfl (by obtain rfl : i = N := by omega; exact ⟨rfl, rfl⟩)
    ·
      have nc9_1 : ¬ (N ≤ i) := fun h => c9_1 ((sk_eI hN rfl (by omega) (by omega)).mpr h)
      refine k_iloadn C 1 dX2_fallen_12 rfl ?_
      refine k_aloadn C 0 dX2_fallen_13 rfl ?_
      refine k_getr C (j := 3) (k' := k + 4) kcl_X2 fl_X2_21 hk.1 (by decide) rfl dX2_fallen_14 ?_
      refine k_iloadn C 2 dX2_fallen_17 rfl ?_
      refine k_ialdn C i hk.2.2.2.2.1 rfl (by omega) dX2_fallen_18 ?_
      refine k_iadd C dX2_fallen_19 ?_
      refine k_istoren C [1, 0, 2] [(0, .ref (sk_ad O k)), (1, .int ((sk_sum (M (k + 4)) i) + (M (k + 4) i))), (2, .int (nI i))] dX2_fallen_20 (by decide) rfl ?_
      refine k_iinc C 2 (nI (i + 1)) [1, 2, 0] [(0, .ref (sk_ad O k)), (1, .int ((sk_sum (M (k + 4)) i) + (M (k + 4) i))), (2, .int (nI (i + 1)))] dX2_fallen_21 rfl (nI_add _ _) (by decide) rfl ?_
      refine k_goto C 4 dX2_fallen_24 (by decide) ?_
      exact ih4 (by omega)
  exact L4 0 (Nat.zero_le _)

set_option maxHeartbeats 4000000 in
set_option maxRecDepth 100000 in
theorem m_X2_reviewed (l : Launch) {O : sk_O} (hO : sk_inj O) (M : sk_M) (k N : Nat) (hk : sk_isP O k) (hN : M k 9 = nI N) (hN2 : N ≤ 12) : sk_Mi l yX2_reviewed (sk_w yX2_reviewed cX2_reviewed 3 (some .int)) ({ frames := 0, cells := 0, slots := 0, locals := 0 }) O [.ref (sk_ad O k)] M (fun r M' => r = (sk_sum (M (k + 5)) N) ∧ M' = M) := by
  refine sk_mi (by decide) ⟨rfl, rfl⟩ hO (Nat.le_of_ble_eq_true rfl) (fun X A Q C ret => ?_)
  show sk_W l X O A Q 3 0 0 M 0 [(0, .ref (sk_ad O k))] []
  refine k_iconst C (0) dX2_reviewed_0 (by decide) ?_
  refine k_istoren C [1, 0] [(0, .ref (sk_ad O k)), (1, .int (0))] dX2_reviewed_1 (by decide) rfl ?_
  refine k_iconst C (0) dX2_reviewed_2 (by decide) ?_
  refine k_istoren C [1, 2, 0] [(0, .ref (sk_ad O k)), (1, .int (0)), (2, .int (0))] dX2_reviewed_3 (by decide) rfl ?_
  have L4 : ∀ i, i ≤ N → sk_W l X O A Q 3 0 0 M 4 [(0, .ref (sk_ad O k)), (1, .int (sk_sum (M (k + 5)) i)), (2, .int (nI i))] [] := by
    refine sk_loop N (fun i hi4 ih4 => ?_)
    refine k_iloadn C 2 dX2_reviewed_4 rfl ?_
    refine k_aloadn C 0 dX2_reviewed_5 rfl ?_
    refine k_geti C (j := 9) kcl_X2 fl_X2_39 hk.1 (by decide) rfl dX2_reviewed_6 ?_
    refine k_cge C 27 dX2_reviewed_9 (by decide) (fun c9_1 => ?_) (fun c9_1 => ?_)
    ·
      have nc9_1 : N ≤ i := (sk_eI hN rfl (by omega) (by omega)).mp c9_1
      refine k_iloadn C 1 dX2_reviewed_27 rfl ?_
      exact ret _ _ _ _ dX2_reviewed_28 rfl (by obtain rfl : i = N := by omega; exact ⟨rfl, rfl⟩)
    ·
      have nc9_1 : ¬ (N ≤ i) := fun h => c9_1 ((sk_eI hN rfl (by omega) (by omega)).mpr h)
      refine k_iloadn C 1 dX2_reviewed_12 rfl ?_
      refine k_aloadn C 0 dX2_reviewed_13 rfl ?_
      refine k_getr C (j := 4) (k' := k + 5) kcl_X2 fl_X2_24 hk.1 (by decide) rfl dX2_reviewed_14 ?_
      refine k_iloadn C 2 dX2_reviewed_17 rfl ?_
      refine k_ialdn C i hk.2.2.2.2.2.1 rfl (by omega) dX2_reviewed_18 ?_
      refine k_iadd C dX2_reviewed_19 ?_
      refine k_istoren C [1, 0, 2] [(0, .ref (sk_ad O k)), (1, .int ((sk_sum (M (k + 5)) i) + (M (k + 5) i))), (2, .int (nI i))] dX2_reviewed_20 (by decide) rfl ?_
      refine k_iinc C 2 (nI (i + 1)) [1, 2, 0] [(0, .ref (sk_ad O k)), (1, .int ((sk_sum (M (k + 5)) i) + (M (k + 5) i))), (2, .int (nI (i + 1)))] dX2_reviewed_21 rfl (nI_add _ _) (by decide) rfl ?_
      refine k_goto C 4 dX2_reviewed_24 (by decide) ?_
      exact ih4 (by omega)
  exact L4 0 (Nat.zero_le _)

set_option maxHeartbeats 4000000 in
set_option maxRecDepth 100000 in
theorem m_X2_hasEdge (l : Launch) {O : sk_O} (hO : sk_inj O) (M : sk_M) (x : Int32) : sk_Mi l yX2_hasEdge (sk_w yX2_hasEdge cX2_hasEdge 1 (some .boolean)) ({ frames := 0, cells := 0, slots := 0, locals := 0 }) O [.int x] M (fun r M' => r = (if x = 3 ∨ x = 4 then 1 else 0) ∧ M' = M) := by
  refine sk_mi (by decide) ⟨rfl, rfl⟩ hO (Nat.le_of_ble_eq_true rfl) (fun X A Q C ret => ?_)
  show sk_W l X O A Q 1 0 0 M 0 [(0, .int x)] []
  refine k_iloadn C 0 dX2_hasEdge_0 rfl ?_
  refine k_iconst C (3) dX2_hasEdge_1 (by decide) ?_
  refine k_ceq C 10 dX2_hasEdge_2 (by decide) (fun c2_1 => ?_) (fun c2_1 => ?_)
  ·
    refine k_iconst C (1) dX2_hasEdge_10 (by decide) ?_
    refine k_goto C 15 dX2_hasEdge_11 (by decide) ?_
    exact ret _ _ _ _ dX2_hasEdge_15 rfl (by simp [*])
  ·
    refine k_iloadn C 0 dX2_hasEdge_5 rfl ?_
    refine k_iconst C (4) dX2_hasEdge_6 (by decide) ?_
    refine k_cne C 14 dX2_hasEdge_7 (by decide) (fun c7_2 => ?_) (fun c7_2 => ?_)
    ·
      refine k_iconst C (0) dX2_hasEdge_14 (by decide) ?_
      exact ret _ _ _ _ dX2_hasEdge_15 rfl (by simp [*])
    ·
      refine k_iconst C (1) dX2_hasEdge_10 (by decide) ?_
      refine k_goto C 15 dX2_hasEdge_11 (by decide) ?_
      exact ret _ _ _ _ dX2_hasEdge_15 rfl (by simp [*])
