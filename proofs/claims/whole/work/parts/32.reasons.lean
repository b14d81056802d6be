/-! The model: worth of parts, counts, reasons -/
theorem mo_km {r : Nat → Int32} {q i : Nat} (h : (mo_k5 r q i).2.1 < r (q + i)) : r (q + i) = (mo_k5 r q (i + 1)).2.1 := (if_pos h).symm
theorem mo_kn {r : Nat → Int32} {q i : Nat} (h : r (q + i) ≤ (mo_k5 r q i).2.1) : (mo_k5 r q i).2.1 = (mo_k5 r q (i + 1)).2.1 := (if_neg (Int32.not_lt.mpr h)).symm
theorem mo_lm {r : Nat → Int32} {q i : Nat} (h : r (q + i) < (mo_k5 r q i).2.2) : r (q + i) = (mo_k5 r q (i + 1)).2.2 := (if_pos h).symm
theorem mo_ln {r : Nat → Int32} {q i : Nat} (h : (mo_k5 r q i).2.2 ≤ r (q + i)) : (mo_k5 r q i).2.2 = (mo_k5 r q (i + 1)).2.2 := (if_neg (Int32.not_lt.mpr h)).symm
theorem mo_wz {r : Nat → Int32} {s i : Nat} (h : mo_wn r s i = 0) (q : ¬ mo_lg r s i) : mo_wn r s (i + 1) = 0 := by
  show mo_wn r s i + (if mo_lg r s i then 1 else 0) = 0
  rw [if_neg q, h]
theorem mo_nn {r : Nat → Int32} {s n i : Nat} (h : mo_pp r s n) (hi : i < n) : r (23 + 233 * s + 18 * i + 1) = nI (mo_n r s i) ∧ mo_n r s i ≤ 3 := by
  obtain ⟨p, hp3, hpp⟩ := h i hi
  have h3 : mo_n r s i = p := by show (r _).toNatClampNeg = p; rw [hpp, nI_clamp (by omega)]
  rw [h3]
  exact ⟨hpp, hp3⟩
set_option maxHeartbeats 4000000 in
set_option maxRecDepth 100000 in
theorem m_X8_ofJump (l : Launch) {O : sk_O} (hO : sk_inj O) (M : sk_M) (k t c : Int32) : sk_Mi l yX8_ofJump (sk_w yX8_ofJump cX8_ofJump 3 (some .int)) ({ frames := 1, cells := 0, slots := 0, locals := 25 }) O [.int k, .int t, .int c] M (fun r M' => r = (mo_oj k t c) ∧ M' = M) := by
  refine sk_mi (by decide) ⟨rfl, rfl⟩ hO (Nat.le_of_ble_eq_true rfl) (fun X A Q C ret => ?_)
  show sk_W l X O A Q 3 0 0 M 0 [(0, .int k), (1, .int t), (2, .int c)] []
  refine k_iloadn C 2 dX8_ofJump_0 rfl ?_
  refine k_iconst C (2) dX8_ofJump_1 (by decide) ?_
  refine k_cne C 13 dX8_ofJump_2 (by decide) (fun c2_1 => ?_) (fun c2_1 => ?_)
  ·
    refine k_iloadn C 2 dX8_ofJump_13 rfl ?_
    refine k_zne C 25 dX8_ofJump_14 (by decide) (fun c14_2 => ?_) (fun c14_2 => ?_)
    ·
      refine k_iloadn C 0 dX8_ofJump_25 rfl ?_
      refine k_iloadn C 1 dX8_ofJump_26 rfl ?_
      refine k_si C (as := [.int k, .int t]) yvX8_ofKind vsX8_ofKind ml_X8_80 (m_X8_ofKind l C.2.2.2.1 M (k := k) (t := t)) rfl rfl (Nat.le_of_ble_eq_true rfl) (by decide) dX8_ofJump_27 (fun x27_3 M27_3 h27_3 => ?_)
      rw [h27_3.1, h27_3.2]
      refine k_bipush C (80) dX8_ofJump_30 (by decide) ?_
      refine k_si C (as := [.int (mo_ok k t), .int (80)]) yvX8_percent vsX8_percent ml_X8_83 (m_X8_percent l C.2.2.2.1 M (x := mo_ok k t) (y := (80))) rfl rfl (Nat.le_of_ble_eq_true rfl) (by decide) dX8_ofJump_32 (fun x32_4 M32_4 h32_4 => ?_)
      rw [h32_4.1, h32_4.2]
      exact ret _ _ _ _ dX8_ofJump_35 rfl (by exact ⟨by rw [mo_oj, if_neg c2_1, if_neg c14_2], rfl⟩)
    ·
      refine k_iloadn C 0 dX8_ofJump_17 rfl ?_
      refine k_iloadn C 1 dX8_ofJump_18 rfl ?_
      refine k_si C (as := [.int k, .int t]) yvX8_ofKind vsX8_ofKind ml_X8_80 (m_X8_ofKind l C.2.2.2.1 M (k := k) (t := t)) rfl rfl (Nat.le_of_ble_eq_true rfl) (by decide) dX8_ofJump_19 (fun x19_5 M19_5 h19_5 => ?_)
      rw [h19_5.1, h19_5.2]
      refine k_goto C 35 dX8_ofJump_22 (by decide) ?_
      exact ret _ _ _ _ dX8_ofJump_35 rfl (by exact ⟨by rw [mo_oj, if_neg c2_1, if_pos c14_2], rfl⟩)
  ·
    refine k_iloadn C 0 dX8_ofJump_5 rfl ?_
    refine k_iloadn C 1 dX8_ofJump_6 rfl ?_
    refine k_iconst C (1) dX8_ofJump_7 (by decide) ?_
    refine k_isub C dX8_ofJump_8 ?_
    refine k_si C (as := [.int k, .int (t - (1))]) yvX8_ofKind vsX8_ofKind ml_X8_80 (m_X8_ofKind l C.2.2.2.1 M (k := k) (t := t - (1))) rfl rfl (Nat.le_of_ble_eq_true rfl) (by decide) dX8_ofJump_9 (fun x9_6 M9_6 h9_6 => ?_)
    rw [h9_6.1, h9_6.2]
    exact ret _ _ _ _ dX8_ofJump_12 rfl (by exact ⟨(if_pos c2_1).symm, rfl⟩)

set_option maxHeartbeats 4000000 in
set_option maxRecDepth 100000 in
theorem m_X8_ofLevel (l : Launch) {O : sk_O} (hO : sk_inj O) (M : sk_M) (ty lv : Int32) : sk_Mi l yX8_ofLevel (sk_w yX8_ofLevel cX8_ofLevel 2 (some .int)) ({ frames := 0, cells := 0, slots := 0, locals := 0 }) O [.int ty, .int lv] M (fun r M' => r = (mo_ol ty lv) ∧ M' = M) := by
  refine sk_mi (by decide) ⟨rfl, rfl⟩ hO (Nat.le_of_ble_eq_true rfl) (fun X A Q C ret => ?_)
  show sk_W l X O A Q 2 0 0 M 0 [(0, .int ty), (1, .int lv)] []
  refine k_iloadn C 0 dX8_ofLevel_0 rfl ?_
  refine k_iconst C (1) dX8_ofLevel_1 (by decide) ?_
  refine k_cne C 51 dX8_ofLevel_2 (by decide) (fun c2_1 => ?_) (fun c2_1 => ?_)
  ·
    refine k_iloadn C 1 dX8_ofLevel_51 rfl ?_
    refine k_zne C 61 dX8_ofLevel_52 (by decide) (fun c52_2 => ?_) (fun c52_2 => ?_)
    ·
      refine k_iloadn C 1 dX8_ofLevel_61 rfl ?_
      refine k_iconst C (1) dX8_ofLevel_62 (by decide) ?_
      refine k_cne C 72 dX8_ofLevel_63 (by decide) (fun c63_3 => ?_) (fun c63_3 => ?_)
      ·
        refine k_iloadn C 1 dX8_ofLevel_72 rfl ?_
        refine k_iconst C (2) dX8_ofLevel_73 (by decide) ?_
        refine k_cne C 83 dX8_ofLevel_74 (by decide) (fun c74_4 => ?_) (fun c74_4 => ?_)
        ·
          refine k_iloadn C 1 dX8_ofLevel_83 rfl ?_
          refine k_iconst C (3) dX8_ofLevel_84 (by decide) ?_
          refine k_cne C 94 dX8_ofLevel_85 (by decide) (fun c85_5 => ?_) (fun c85_5 => ?_)
          ·
            refine k_sipush C (390) dX8_ofLevel_94 (by decide) ?_
            exact ret _ _ _ _ dX8_ofLevel_97 rfl (by exact ⟨by simp [mo_ol, c2_1, c52_2, c63_3, c74_4, c85_5], rfl⟩)
          ·
            refine k_sipush C (330) dX8_ofLevel_88 (by decide) ?_
            refine k_goto C 97 dX8_ofLevel_91 (by decide) ?_
            exact ret _ _ _ _ dX8_ofLevel_97 rfl (by exact ⟨by simp [mo_ol, c2_1, c52_2, c63_3, c74_4, c85_5], rfl⟩)
        ·
          refine k_sipush C (260) dX8_ofLevel_77 (by decide) ?_
          refine k_goto C 97 dX8_ofLevel_80 (by decide) ?_
          exact ret _ _ _ _ dX8_ofLevel_97 rfl (by exact ⟨by simp [mo_ol, c2_1, c52_2, c63_3, c74_4], rfl⟩)
      ·
        refine k_sipush C (180) dX8_ofLevel_66 (by decide) ?_
        refine k_goto C 97 dX8_ofLevel_69 (by decide) ?_
        exact ret _ _ _ _ dX8_ofLevel_97 rfl (by exact ⟨by simp [mo_ol, c2_1, c52_2, c63_3], rfl⟩)
    ·
      refine k_sipush C (150) dX8_ofLevel_55 (by decide) ?_
      refine k_goto C 97 dX8_ofLevel_58 (by decide) ?_
      exact ret _ _ _ _ dX8_ofLevel_97 rfl (by exact ⟨by simp [mo_ol, c2_1, c52_2], rfl⟩)
  ·
    refine k_iloadn C 1 dX8_ofLevel_5 rfl ?_
    refine k_zne C 14 dX8_ofLevel_6 (by decide) (fun c6_6 => ?_) (fun c6_6 => ?_)
    ·
      refine k_iloadn C 1 dX8_ofLevel_14 rfl ?_
      refine k_iconst C (1) dX8_ofLevel_15 (by decide) ?_
      refine k_cne C 25 dX8_ofLevel_16 (by decide) (fun c16_7 => ?_) (fun c16_7 => ?_)
      ·
        refine k_iloadn C 1 dX8_ofLevel_25 rfl ?_
        refine k_iconst C (2) dX8_ofLevel_26 (by decide) ?_
        refine k_cne C 36 dX8_ofLevel_27 (by decide) (fun c27_8 => ?_) (fun c27_8 => ?_)
        ·
          refine k_iloadn C 1 dX8_ofLevel_36 rfl ?_
          refine k_iconst C (3) dX8_ofLevel_37 (by decide) ?_
          refine k_cne C 47 dX8_ofLevel_38 (by decide) (fun c38_9 => ?_) (fun c38_9 => ?_)
          ·
            refine k_sipush C (300) dX8_ofLevel_47 (by decide) ?_
            exact ret _ _ _ _ dX8_ofLevel_50 rfl (by exact ⟨by simp [mo_ol, c2_1, c6_6, c16_7, c27_8, c38_9], rfl⟩)
          ·
            refine k_sipush C (240) dX8_ofLevel_41 (by decide) ?_
            refine k_goto C 50 dX8_ofLevel_44 (by decide) ?_
            exact ret _ _ _ _ dX8_ofLevel_50 rfl (by exact ⟨by simp [mo_ol, c2_1, c6_6, c16_7, c27_8, c38_9], rfl⟩)
        ·
          refine k_sipush C (190) dX8_ofLevel_30 (by decide) ?_
          refine k_goto C 50 dX8_ofLevel_33 (by decide) ?_
          exact ret _ _ _ _ dX8_ofLevel_50 rfl (by exact ⟨by simp [mo_ol, c2_1, c6_6, c16_7, c27_8], rfl⟩)
      ·
        refine k_sipush C (150) dX8_ofLevel_19 (by decide) ?_
        refine k_goto C 50 dX8_ofLevel_22 (by decide) ?_
        exact ret _ _ _ _ dX8_ofLevel_50 rfl (by exact ⟨by simp [mo_ol, c2_1, c6_6, c16_7], rfl⟩)
    ·
      refine k_bipush C (120) dX8_ofLevel_9 (by decide) ?_
      refine k_goto C 50 dX8_ofLevel_11 (by decide) ?_
      exact ret _ _ _ _ dX8_ofLevel_50 rfl (by exact ⟨by simp [mo_ol, c2_1, c6_6], rfl⟩)

set_option maxHeartbeats 4000000 in
set_option maxRecDepth 100000 in
theorem m_X8_graded (l : Launch) {O : sk_O} (hO : sk_inj O) (M : sk_M) (v : Int32) : sk_Mi l yX8_graded (sk_w yX8_graded cX8_graded 1 (some .int)) ({ frames := 0, cells := 0, slots := 0, locals := 0 }) O [.int v] M (fun r M' => r = (mo_gd v) ∧ M' = M) := by
  refine sk_mi (by decide) ⟨rfl, rfl⟩ hO (Nat.le_of_ble_eq_true rfl) (fun X A Q C ret => ?_)
  show sk_W l X O A Q 1 0 0 M 0 [(0, .int v)] []
  refine k_iloadn C 0 dX8_graded_0 rfl ?_
  refine k_zge C 15 dX8_graded_1 (by decide) (fun c1_1 => ?_) (fun c1_1 => ?_)
  ·
    refine k_iloadn C 0 dX8_graded_15 rfl ?_
    refine k_bipush C (15) dX8_graded_16 (by decide) ?_
    refine k_iadd C dX8_graded_18 ?_
    refine k_bipush C (30) dX8_graded_19 (by decide) ?_
    refine k_idiv C dX8_graded_21 (by decide) ?_
    exact ret _ _ _ _ dX8_graded_22 rfl (by exact ⟨(if_neg (Int32.not_lt.mpr c1_1)).symm, rfl⟩)
  ·
    refine k_bipush C (15) dX8_graded_4 (by decide) ?_
    refine k_iloadn C 0 dX8_graded_6 rfl ?_
    refine k_isub C dX8_graded_7 ?_
    refine k_bipush C (30) dX8_graded_8 (by decide) ?_
    refine k_idiv C dX8_graded_10 (by decide) ?_
    refine k_ineg C dX8_graded_11 ?_
    refine k_goto C 22 dX8_graded_12 (by decide) ?_
    exact ret _ _ _ _ dX8_graded_22 rfl (by exact ⟨(if_pos (Int32.not_le.mp c1_1)).symm, rfl⟩)

set_option maxHeartbeats 4000000 in
set_option maxRecDepth 100000 in
theorem m_X8_kernel (l : Launch) {O : sk_O} (hO : sk_inj O) (M : sk_M) (a : Nat) (ha : sk_is O a (0, 938, sk_no)) (q : Nat) (xq : Int32) (hxq : xq = nI q) (hq : q + 5 ≤ 938) : sk_Mi l yX8_kernel (sk_w yX8_kernel cX8_kernel 6 (some .int)) ({ frames := 0, cells := 0, slots := 0, locals := 0 }) O [.ref (sk_ad O a), .int xq] M (fun r M' => r = (mo_ke (M a) q) ∧ M' = M) := by
  refine sk_mi (by decide) ⟨rfl, rfl⟩ hO (Nat.le_of_ble_eq_true rfl) (fun X A Q C ret => ?_)
  show sk_W l X O A Q 6 0 0 M 0 [(0, .ref (sk_ad O a)), (1, .int xq)] []
  refine k_iconst C (0) dX8_kernel_0 (by decide) ?_
  refine k_istoren C [1, 2, 0] [(0, .ref (sk_ad O a)), (1, .int xq), (2, .int (0))] dX8_kernel_1 (by decide) rfl ?_
  refine k_aloadn C 0 dX8_kernel_2 rfl ?_
  refine k_iloadn C 1 dX8_kernel_3 rfl ?_
  refine k_ialdn C q ha hxq (by omega) dX8_kernel_4 ?_
  refine k_istoren C [1, 2, 3, 0] [(0, .ref (sk_ad O a)), (1, .int xq), (2, .int (0)), (3, .int (M a q))] dX8_kernel_5 (by decide) rfl ?_
  refine k_aloadn C 0 dX8_kernel_6 rfl ?_
  refine k_iloadn C 1 dX8_kernel_7 rfl ?_
  refine k_ialdn C q ha hxq (by omega) dX8_kernel_8 ?_
  refine k_istore C [1, 2, 3, 4, 0] [(0, .ref (sk_ad O a)), (1, .int xq), (2, .int (0)), (3, .int (M a q)), (4, .int (M a q))] dX8_kernel_9 (by decide) rfl ?_
  refine k_iconst C (0) dX8_kernel_11 (by decide) ?_
  refine k_istore C [1, 2, 3, 4, 5, 0] [(0, .ref (sk_ad O a)), (1, .int xq), (2, .int (0)), (3, .int (M a q)), (4, .int (M a q)), (5, .int (0))] dX8_kernel_12 (by decide) rfl ?_
  have L14 : ∀ i, i ≤ 5 → sk_W l X O A Q 6 0 0 M 14 [(0, .ref (sk_ad O a)), (1, .int xq), (2, .int ((mo_k5 (M a) q i).1)), (3, .int ((mo_k5 (M a) q i).2.1)), (4, .int ((mo_k5 (M a) q i).2.2)), (5, .int (nI i))] [] := by
    refine sk_loop 5 (fun i hi14 ih14 => ?_)
    refine k_iload C 5 dX8_kernel_14 rfl ?_
    refine k_iconst C (5) dX8_kernel_16 (by decide) ?_
    refine k_cge C 80 dX8_kernel_17 (by decide) (fun c17_1 => ?_) (fun c17_1 => ?_)
    ·
      have nc17_1 : 5 ≤ i := (sk_eI (a := 5) (b := i) (rfl : ((5) : Int32) = nI 5) rfl (by omega) (by omega)).mp c17_1
      refine k_iloadn C 2 dX8_kernel_80 rfl ?_
      refine k_iloadn C 3 dX8_kernel_81 rfl ?_
      refine k_isub C dX8_kernel_82 ?_
      refine k_iload C 4 dX8_kernel_83 rfl ?_
      refine k_isub C dX8_kernel_85 ?_
      exact ret _ _ _ _ dX8_kernel_86 rfl (by obtain rfl : i = 5 := (by omega); exact ⟨rfl, rfl⟩)
    ·
      have nc17_1 : ¬ (5 ≤ i) := fun h => c17_1 ((sk_eI (a := 5) (b := i) (rfl : ((5) : Int32) = nI 5) rfl (by omega) (by omega)).mpr h)
      refine k_iloadn C 2 dX8_kernel_20 rfl ?_
      refine k_aloadn C 0 dX8_kernel_21 rfl ?_
      refine k_iloadn C 1 dX8_kernel_22 rfl ?_
      refine k_iload C 5 dX8_kernel_23 rfl ?_
      refine k_iadd C dX8_kernel_25 ?_
      refine k_ialdn C (q + i) ha (sk_nadd hxq rfl) (by omega) dX8_kernel_26 ?_
      refine k_iadd C dX8_kernel_27 ?_
      refine k_istoren C [1, 2, 0, 3, 4, 5] [(0, .ref (sk_ad O a)), (1, .int xq), (2, .int (((mo_k5 (M a) q i).1) + (M a (q + i)))), (3, .int ((mo_k5 (M a) q i).2.1)), (4, .int ((mo_k5 (M a) q i).2.2)), (5, .int (nI i))] dX8_kernel_28 (by decide) rfl ?_
      refine k_aloadn C 0 dX8_kernel_29 rfl ?_
      refine k_iloadn C 1 dX8_kernel_30 rfl ?_
      refine k_iload C 5 dX8_kernel_31 rfl ?_
      refine k_iadd C dX8_kernel_33 ?_
      refine k_ialdn C (q + i) ha (sk_nadd hxq rfl) (by omega) dX8_kernel_34 ?_
      refine k_iloadn C 3 dX8_kernel_35 rfl ?_
      have J49 : sk_W l X O A Q 6 0 0 M 49 [(0, .ref (sk_ad O a)), (1, .int xq), (2, .int (((mo_k5 (M a) q i).1) + (M a (q + i)))), (3, .int ((mo_k5 (M a) q i).2.1)), (4, .int ((mo_k5 (M a) q i).2.2)), (5, .int (nI i))] [.int ((mo_k5 (M a) q (i + 1)).2.1)] := by
        refine k_istoren C [1, 2, 3, 0, 4, 5] [(0, .ref (sk_ad O a)), (1, .int xq), (2, .int (((mo_k5 (M a) q i).1) + (M a (q + i)))), (3, .int ((mo_k5 (M a) q (i + 1)).2.1)), (4, .int ((mo_k5 (M a) q i).2.2)), (5, .int (nI i))] dX8_kernel_49 (by decide) rfl ?_
        refine k_aloadn C 0 dX8_kernel_50 rfl ?_
        refine k_iloadn C 1 dX8_kernel_51 rfl ?_
        refine k_iload C 5 dX8_kernel_52 rfl ?_
        refine k_iadd C dX8_kernel_54 ?_
        refine k_ialdn C (q + i) ha (sk_nadd hxq rfl) (by omega) dX8_kernel_55 ?_
        refine k_iload C 4 dX8_kernel_56 rfl ?_
        have J72 : sk_W l X O A Q 6 0 0 M 72 [(0, .ref (sk_ad O a)), (1, .int xq), (2, .int (((mo_k5 (M a) q i).1) + (M a (q + i)))), (3, .int ((mo_k5 (M a) q (i + 1)).2.1)), (4, .int ((mo_k5 (M a) q i).2.2)), (5, .int (nI i))] [.int ((mo_k5 (M a) q (i + 1)).2.2)] := by
          refine k_istore C [1, 2, 3, 4, 0, 5] [(0, .ref (sk_ad O a)), (1, .int xq), (2, .int (((mo_k5 (M a) q i).1) + (M a (q + i)))), (3, .int ((mo_k5 (M a) q (i + 1)).2.1)), (4, .int ((mo_k5 (M a) q (i + 1)).2.2)), (5, .int (nI i))] dX8_kernel_72 (by decide) rfl ?_
          refine k_iinc C 5 (nI (i + 1)) [1, 2, 3, 4, 5, 0] [(0, .ref (sk_ad O a)), (1, .int xq), (2, .int (((mo_k5 (M a) q i).1) + (M a (q + i)))), (3, .int ((mo_k5 (M a) q (i + 1)).2.1)), (4, .int ((mo_k5 (M a) q (i + 1)).2.2)), (5, .int (nI (i + 1)))] dX8_kernel_74 rfl (nI_add _ _) (by decide) rfl ?_
          refine k_goto C 14 dX8_kernel_77 (by decide) ?_
          exact ih14 (by omega)
        refine k_cge C 70 dX8_kernel_58 (by decide) (fun c58_2 => ?_) (fun c58_2 => ?_)
        ·
          refine k_iload C 4 dX8_kernel_70 rfl ?_
          exact k_eq rfl rfl rfl (congrArg (fun z => [Value.int z]) (mo_ln c58_2)) J72
        ·
          refine k_aloadn C 0 dX8_kernel_61 rfl ?_
          refine k_iloadn C 1 dX8_kernel_62 rfl ?_
          refine k_iload C 5 dX8_kernel_63 rfl ?_
          refine k_iadd C dX8_kernel_65 ?_
          refine k_ialdn C (q + i) ha (sk_nadd hxq rfl) (by omega) dX8_kernel_66 ?_
          refine k_goto C 72 dX8_kernel_67 (by decide) ?_
          exact k_eq rfl rfl rfl (congrArg (fun z => [Value.int z]) (mo_lm (Int32.not_le.mp c58_2))) J72
      refine k_cle C 48 dX8_kernel_36 (by decide) (fun c36_3 => ?_) (fun c36_3 => ?_)
      ·
        refine k_iloadn C 3 dX8_kernel_48 rfl ?_
        exact k_eq rfl rfl rfl (congrArg (fun z => [Value.int z]) (mo_kn c36_3)) J49
      ·
        refine k_aloadn C 0 dX8_kernel_39 rfl ?_
        refine k_iloadn C 1 dX8_kernel_40 rfl ?_
        refine k_iload C 5 dX8_kernel_41 rfl ?_
        refine k_iadd C dX8_kernel_43 ?_
        refine k_ialdn C (q + i) ha (sk_nadd hxq rfl) (by omega) dX8_kernel_44 ?_
        refine k_goto C 49 dX8_kernel_45 (by decide) ?_
        exact k_eq rfl rfl rfl (congrArg (fun z => [Value.int z]) (mo_km (Int32.not_le.mp c36_3))) J49
  exact L14 0 (Nat.zero_le _)

set_option maxHeartbeats 4000000 in
set_option maxRecDepth 100000 in
theorem m_X8_ofComponent (l : Launch) {O : sk_O} (hO : sk_inj O) (M : sk_M) (a : Nat) (ha : sk_is O a (0, 938, sk_no)) (s : Nat) (xs : Int32) (hxs : xs = nI s) (k : Nat) (xk : Int32) (hxk : xk = nI k) (hs : s < 4) (hk : k < 3) : sk_Mi l yX8_ofComponent (sk_w yX8_ofComponent cX8_ofComponent 3 (some .int)) ({ frames := 1, cells := 0, slots := 0, locals := 25 }) O [.ref (sk_ad O a), .int xs, .int xk] M (fun r M' => r = (mo_oc (M a) s k) ∧ M' = M) := by
  refine sk_mi (by decide) ⟨rfl, rfl⟩ hO (Nat.le_of_ble_eq_true rfl) (fun X A Q C ret => ?_)
  show sk_W l X O A Q 3 0 0 M 0 [(0, .ref (sk_ad O a)), (1, .int xs), (2, .int xk)] []
  refine k_bipush C (50) dX8_ofComponent_0 (by decide) ?_
  refine k_aloadn C 0 dX8_ofComponent_2 rfl ?_
  refine k_iloadn C 1 dX8_ofComponent_3 rfl ?_
  refine k_si C (as := [.int xs]) yvX8_skaterAt vsX8_skaterAt ml_X8_72 (m_X8_skaterAt l C.2.2.2.1 M (s := s) (xs := xs) (hxs := hxs)) rfl rfl (Nat.le_of_ble_eq_true rfl) (by decide) dX8_ofComponent_4 (fun x4_1 M4_1 h4_1 => ?_)
  rw [h4_1.1, h4_1.2]
  refine k_iconst C (2) dX8_ofComponent_7 (by decide) ?_
  refine k_iadd C dX8_ofComponent_8 ?_
  refine k_iconst C (5) dX8_ofComponent_9 (by decide) ?_
  refine k_iloadn C 2 dX8_ofComponent_10 rfl ?_
  refine k_imul C dX8_ofComponent_11 ?_
  refine k_iadd C dX8_ofComponent_12 ?_
  refine k_si C (as := [.ref (sk_ad O a), .int (((nI (6 + 233 * s)) + (2)) + ((5) * xk))]) yvX8_kernel vsX8_kernel ml_X8_113 (m_X8_kernel l C.2.2.2.1 M (a := a) (ha := ha) (q := 6 + 233 * s + 2 + 5 * k) (xq := ((nI (6 + 233 * s)) + (2)) + ((5) * xk)) (hxq := (sk_nadd (sk_nadd rfl (rfl : ((2) : Int32) = nI 2)) (sk_nmul (rfl : ((5) : Int32) = nI 5) hxk))) (hq := (by omega))) rfl rfl (Nat.le_of_ble_eq_true rfl) (by decide) dX8_ofComponent_13 (fun x13_2 M13_2 h13_2 => ?_)
  rw [h13_2.1, h13_2.2]
  refine k_imul C dX8_ofComponent_16 ?_
  refine k_iconst C (3) dX8_ofComponent_17 (by decide) ?_
  refine k_iadd C dX8_ofComponent_18 ?_
  refine k_bipush C (6) dX8_ofComponent_19 (by decide) ?_
  refine k_idiv C dX8_ofComponent_21 (by decide) ?_
  exact ret _ _ _ _ dX8_ofComponent_22 rfl (by exact ⟨rfl, rfl⟩)

set_option maxHeartbeats 4000000 in
set_option maxRecDepth 100000 in
theorem m_X8_upTo (l : Launch) {O : sk_O} (hO : sk_inj O) (M : sk_M) (a : Nat) (ha : sk_is O a (0, 938, sk_no)) (s : Nat) (xs : Int32) (hxs : xs = nI s) (e : Nat) (xe : Int32) (hxe : xe = nI e) (hs : s < 4) (he : e < 12) (ty : Int32) : sk_Mi l yX8_upTo (sk_w yX8_upTo cX8_upTo 6 (some .int)) ({ frames := 1, cells := 0, slots := 0, locals := 21 }) O [.ref (sk_ad O a), .int xs, .int xe, .int ty] M (fun r M' => r = (nI (mo_ct (M a) s ty (e + 1))) ∧ M' = M) := by
  refine sk_mi (by decide) ⟨rfl, rfl⟩ hO (Nat.le_of_ble_eq_true rfl) (fun X A Q C ret => ?_)
  show sk_W l X O A Q 6 0 0 M 0 [(0, .ref (sk_ad O a)), (1, .int xs), (2, .int xe), (3, .int ty)] []
  refine k_iconst C (0) dX8_upTo_0 (by decide) ?_
  refine k_istore C [1, 2, 3, 4, 0] [(0, .ref (sk_ad O a)), (1, .int xs), (2, .int xe), (3, .int ty), (4, .int (0))] dX8_upTo_1 (by decide) rfl ?_
  refine k_iconst C (0) dX8_upTo_3 (by decide) ?_
  refine k_istore C [1, 2, 3, 4, 5, 0] [(0, .ref (sk_ad O a)), (1, .int xs), (2, .int xe), (3, .int ty), (4, .int (0)), (5, .int (0))] dX8_upTo_4 (by decide) rfl ?_
  have L6 : ∀ i, i ≤ e + 1 → sk_W l X O A Q 6 0 0 M 6 [(0, .ref (sk_ad O a)), (1, .int xs), (2, .int xe), (3, .int ty), (4, .int (nI (mo_ct (M a) s ty i))), (5, .int (nI i))] [] := by
    refine sk_loop (e + 1) (fun i hi6 ih6 => ?_)
    refine k_iload C 5 dX8_upTo_6 rfl ?_
    refine k_iloadn C 2 dX8_upTo_8 rfl ?_
    refine k_cgt C 42 dX8_upTo_9 (by decide) (fun c9_1 => ?_) (fun c9_1 => ?_)
    ·
      have nc9_1 : e < i := (sk_lI (a := e) (b := i) hxe rfl (by omega) (by omega)).mp c9_1
      obtain rfl : i = e + 1 := (by omega)
      refine k_iload C 4 dX8_upTo_42 rfl ?_
      exact ret _ _ _ _ dX8_upTo_44 rfl (by exact ⟨rfl, rfl⟩)
    ·
      have nc9_1 : ¬ (e < i) := fun h => c9_1 ((sk_lI (a := e) (b := i) hxe rfl (by omega) (by omega)).mpr h)
      refine k_iload C 4 dX8_upTo_12 rfl ?_
      refine k_aloadn C 0 dX8_upTo_14 rfl ?_
      refine k_iloadn C 1 dX8_upTo_15 rfl ?_
      refine k_iload C 5 dX8_upTo_16 rfl ?_
      refine k_si C (as := [.int xs, .int (nI i)]) yvX8_elementAt vsX8_elementAt ml_X8_60 (m_X8_elementAt l C.2.2.2.1 M (s := s) (xs := xs) (hxs := hxs) (e := i) (xe := nI i) (hxe := rfl)) rfl rfl (Nat.le_of_ble_eq_true rfl) (by decide) dX8_upTo_18 (fun x18_2 M18_2 h18_2 => ?_)
      rw [h18_2.1, h18_2.2]
      refine k_iconst C (0) dX8_upTo_21 (by decide) ?_
      refine k_iadd C dX8_upTo_22 ?_
      refine k_ialdn C (23 + 233 * s + 18 * i) ha (sk_nadd (b := 0) rfl (rfl : ((0) : Int32) = nI 0)) (by omega) dX8_upTo_23 ?_
      refine k_iloadn C 3 dX8_upTo_24 rfl ?_
      refine k_cne C 32 dX8_upTo_25 (by decide) (fun c25_3 => ?_) (fun c25_3 => ?_)
      ·
        refine k_iconst C (0) dX8_upTo_32 (by decide) ?_
        refine k_iadd C dX8_upTo_33 ?_
        refine k_top (nI (mo_ct (M a) s ty (i + 1))) (in_n rfl rfl c25_3) ?_
        refine k_istore C [1, 2, 3, 4, 0, 5] [(0, .ref (sk_ad O a)), (1, .int xs), (2, .int xe), (3, .int ty), (4, .int (nI (mo_ct (M a) s ty (i + 1)))), (5, .int (nI i))] dX8_upTo_34 (by decide) rfl ?_
        refine k_iinc C 5 (nI (i + 1)) [1, 2, 3, 4, 5, 0] [(0, .ref (sk_ad O a)), (1, .int xs), (2, .int xe), (3, .int ty), (4, .int (nI (mo_ct (M a) s ty (i + 1)))), (5, .int (nI (i + 1)))] dX8_upTo_36 rfl (nI_add _ _) (by decide) rfl ?_
        refine k_goto C 6 dX8_upTo_39 (by decide) ?_
        exact ih6 (by omega)
      ·
        refine k_iconst C (1) dX8_upTo_28 (by decide) ?_
        refine k_goto C 33 dX8_upTo_29 (by decide) ?_
        refine k_iadd C dX8_upTo_33 ?_
        refine k_top (nI (mo_ct (M a) s ty (i + 1))) (in_y rfl rfl c25_3) ?_
        refine k_istore C [1, 2, 3, 4, 0, 5] [(0, .ref (sk_ad O a)), (1, .int xs), (2, .int xe), (3, .int ty), (4, .int (nI (mo_ct (M a) s ty (i + 1)))), (5, .int (nI i))] dX8_upTo_34 (by decide) rfl ?_
        refine k_iinc C 5 (nI (i + 1)) [1, 2, 3, 4, 5, 0] [(0, .ref (sk_ad O a)), (1, .int xs), (2, .int xe), (3, .int ty), (4, .int (nI (mo_ct (M a) s ty (i + 1)))), (5, .int (nI (i + 1)))] dX8_upTo_36 rfl (nI_add _ _) (by decide) rfl ?_
        refine k_goto C 6 dX8_upTo_39 (by decide) ?_
        exact ih6 (by omega)
  exact L6 0 (Nat.zero_le _)

set_option maxHeartbeats 4000000 in
set_option maxRecDepth 100000 in
theorem m_X8_isTooMany (l : Launch) {O : sk_O} (hO : sk_inj O) (M : sk_M) (a : Nat) (ha : sk_is O a (0, 938, sk_no)) (s : Nat) (xs : Int32) (hxs : xs = nI s) (e : Nat) (xe : Int32) (hxe : xe = nI e) (hs : s < 4) (he : e < 12) : sk_Mi l yX8_isTooMany (sk_w yX8_isTooMany cX8_isTooMany 5 (some .boolean)) ({ frames := 2, cells := 0, slots := 0, locals := 46 }) O [.ref (sk_ad O a), .int xs, .int xe] M (fun r M' => r = (if mo_tm (M a) s e then 1 else 0) ∧ M' = M) := by
  refine sk_mi (by decide) ⟨rfl, rfl⟩ hO (Nat.le_of_ble_eq_true rfl) (fun X A Q C ret => ?_)
  show sk_W l X O A Q 5 0 0 M 0 [(0, .ref (sk_ad O a)), (1, .int xs), (2, .int xe)] []
  refine k_aloadn C 0 dX8_isTooMany_0 rfl ?_
  refine k_iloadn C 1 dX8_isTooMany_1 rfl ?_
  refine k_iloadn C 2 dX8_isTooMany_2 rfl ?_
  refine k_si C (as := [.int xs, .int xe]) yvX8_elementAt vsX8_elementAt ml_X8_60 (m_X8_elementAt l C.2.2.2.1 M (s := s) (xs := xs) (hxs := hxs) (e := e) (xe := xe) (hxe := hxe)) rfl rfl (Nat.le_of_ble_eq_true rfl) (by decide) dX8_isTooMany_3 (fun x3_1 M3_1 h3_1 => ?_)
  rw [h3_1.1, h3_1.2]
  refine k_iconst C (0) dX8_isTooMany_6 (by decide) ?_
  refine k_iadd C dX8_isTooMany_7 ?_
  refine k_ialdn C (23 + 233 * s + 18 * e) ha (sk_nadd (b := 0) rfl (rfl : ((0) : Int32) = nI 0)) (by omega) dX8_isTooMany_8 ?_
  refine k_istoren C [1, 2, 3, 0] [(0, .ref (sk_ad O a)), (1, .int xs), (2, .int xe), (3, .int (M a (23 + 233 * s + 18 * e)))] dX8_isTooMany_9 (by decide) rfl ?_
  refine k_iloadn C 3 dX8_isTooMany_10 rfl ?_
  have J32 : sk_W l X O A Q 5 0 0 M 32 [(0, .ref (sk_ad O a)), (1, .int xs), (2, .int xe), (3, .int (M a (23 + 233 * s + 18 * e)))] [.int (mo_mo (M a) (M a (23 + 233 * s + 18 * e)))] := by
    refine k_istore C [1, 2, 3, 4, 0] [(0, .ref (sk_ad O a)), (1, .int xs), (2, .int xe), (3, .int (M a (23 + 233 * s + 18 * e))), (4, .int (mo_mo (M a) (M a (23 + 233 * s + 18 * e))))] dX8_isTooMany_32 (by decide) rfl ?_
    refine k_aloadn C 0 dX8_isTooMany_34 rfl ?_
    refine k_iloadn C 1 dX8_isTooMany_35 rfl ?_
    refine k_iloadn C 2 dX8_isTooMany_36 rfl ?_
    refine k_iloadn C 3 dX8_isTooMany_37 rfl ?_
    refine k_si C (as := [.ref (sk_ad O a), .int xs, .int xe, .int (M a (23 + 233 * s + 18 * e))]) yvX8_upTo vsX8_upTo ml_X8_86 (m_X8_upTo l C.2.2.2.1 M (a := a) (ha := ha) (s := s) (xs := xs) (hxs := hxs) (hs := (by omega)) (e := e) (xe := xe) (hxe := hxe) (he := (by omega)) (ty := M a (23 + 233 * s + 18 * e))) rfl rfl (Nat.le_of_ble_eq_true rfl) (by decide) dX8_isTooMany_38 (fun x38_2 M38_2 h38_2 => ?_)
    rw [h38_2.1, h38_2.2]
    refine k_iload C 4 dX8_isTooMany_41 rfl ?_
    refine k_cle C 50 dX8_isTooMany_43 (by decide) (fun c43_3 => ?_) (fun c43_3 => ?_)
    ·
      refine k_iconst C (0) dX8_isTooMany_50 (by decide) ?_
      exact ret _ _ _ _ dX8_isTooMany_51 rfl (by exact ⟨(if_neg (fun h => h c43_3)).symm, rfl⟩)
    ·
      refine k_iconst C (1) dX8_isTooMany_46 (by decide) ?_
      refine k_goto C 51 dX8_isTooMany_47 (by decide) ?_
      exact ret _ _ _ _ dX8_isTooMany_51 rfl (by exact ⟨(if_pos c43_3).symm, rfl⟩)
  refine k_zne C 20 dX8_isTooMany_11 (by decide) (fun c11_4 => ?_) (fun c11_4 => ?_)
  ·
    refine k_iloadn C 3 dX8_isTooMany_20 rfl ?_
    refine k_iconst C (1) dX8_isTooMany_21 (by decide) ?_
    refine k_cne C 31 dX8_isTooMany_22 (by decide) (fun c22_5 => ?_) (fun c22_5 => ?_)
    ·
      refine k_iconst C (1) dX8_isTooMany_31 (by decide) ?_
      exact k_eq rfl rfl rfl (by rw [mo_mo, if_neg c11_4, if_neg c22_5]) J32
    ·
      refine k_aloadn C 0 dX8_isTooMany_25 rfl ?_
      refine k_iconst C (4) dX8_isTooMany_26 (by decide) ?_
      refine k_ialdn C 4 ha (rfl : ((4) : Int32) = nI 4) (by omega) dX8_isTooMany_27 ?_
      refine k_goto C 32 dX8_isTooMany_28 (by decide) ?_
      exact k_eq rfl rfl rfl (by rw [mo_mo, if_neg c11_4, if_pos c22_5]) J32
  ·
    refine k_aloadn C 0 dX8_isTooMany_14 rfl ?_
    refine k_iconst C (3) dX8_isTooMany_15 (by decide) ?_
    refine k_ialdn C 3 ha (rfl : ((3) : Int32) = nI 3) (by omega) dX8_isTooMany_16 ?_
    refine k_goto C 32 dX8_isTooMany_17 (by decide) ?_
    exact k_eq rfl rfl rfl (by rw [mo_mo, if_pos c11_4]) J32

set_option maxHeartbeats 4000000 in
set_option maxRecDepth 100000 in
theorem m_X8_isChain (l : Launch) {O : sk_O} (hO : sk_inj O) (M : sk_M) (a : Nat) (ha : sk_is O a (0, 938, sk_no)) (s : Nat) (xs : Int32) (hxs : xs = nI s) (e : Nat) (xe : Int32) (hxe : xe = nI e) (hs : s < 4) (he : e < 12) : sk_Mi l yX8_isChain (sk_w yX8_isChain cX8_isChain 3 (some .boolean)) ({ frames := 1, cells := 0, slots := 0, locals := 21 }) O [.ref (sk_ad O a), .int xs, .int xe] M (fun r M' => r = (if mo_ch (M a) s e then 1 else 0) ∧ M' = M) := by
  refine sk_mi (by decide) ⟨rfl, rfl⟩ hO (Nat.le_of_ble_eq_true rfl) (fun X A Q C ret => ?_)
  show sk_W l X O A Q 3 0 0 M 0 [(0, .ref (sk_ad O a)), (1, .int xs), (2, .int xe)] []
  refine k_aloadn C 0 dX8_isChain_0 rfl ?_
  refine k_iloadn C 1 dX8_isChain_1 rfl ?_
  refine k_iloadn C 2 dX8_isChain_2 rfl ?_
  refine k_si C (as := [.int xs, .int xe]) yvX8_elementAt vsX8_elementAt ml_X8_60 (m_X8_elementAt l C.2.2.2.1 M (s := s) (xs := xs) (hxs := hxs) (e := e) (xe := xe) (hxe := hxe)) rfl rfl (Nat.le_of_ble_eq_true rfl) (by decide) dX8_isChain_3 (fun x3_1 M3_1 h3_1 => ?_)
  rw [h3_1.1, h3_1.2]
  refine k_iconst C (1) dX8_isChain_6 (by decide) ?_
  refine k_iadd C dX8_isChain_7 ?_
  refine k_ialdn C (23 + 233 * s + 18 * e + 1) ha (sk_nadd rfl (rfl : ((1) : Int32) = nI 1)) (by omega) dX8_isChain_8 ?_
  refine k_iconst C (1) dX8_isChain_9 (by decide) ?_
  refine k_cle C 17 dX8_isChain_10 (by decide) (fun c10_2 => ?_) (fun c10_2 => ?_)
  ·
    refine k_iconst C (0) dX8_isChain_17 (by decide) ?_
    exact ret _ _ _ _ dX8_isChain_18 rfl (by exact ⟨(if_neg (fun h => h c10_2)).symm, rfl⟩)
  ·
    refine k_iconst C (1) dX8_isChain_13 (by decide) ?_
    refine k_goto C 18 dX8_isChain_14 (by decide) ?_
    exact ret _ _ _ _ dX8_isChain_18 rfl (by exact ⟨(if_pos c10_2).symm, rfl⟩)

set_option maxHeartbeats 4000000 in
set_option maxRecDepth 100000 in
theorem m_X8_isChainTooMany (l : Launch) {O : sk_O} (hO : sk_inj O) (M : sk_M) (a : Nat) (ha : sk_is O a (0, 938, sk_no)) (s : Nat) (xs : Int32) (hxs : xs = nI s) (e : Nat) (xe : Int32) (hxe : xe = nI e) (hs : s < 4) (he : e < 12) : sk_Mi l yX8_isChainTooMany (sk_w yX8_isChainTooMany cX8_isChainTooMany 5 (some .boolean)) ({ frames := 3, cells := 0, slots := 0, locals := 70 }) O [.ref (sk_ad O a), .int xs, .int xe] M (fun r M' => r = (if mo_cm (M a) s e then 1 else 0) ∧ M' = M) := by
  refine sk_mi (by decide) ⟨rfl, rfl⟩ hO (Nat.le_of_ble_eq_true rfl) (fun X A Q C ret => ?_)
  show sk_W l X O A Q 5 0 0 M 0 [(0, .ref (sk_ad O a)), (1, .int xs), (2, .int xe)] []
  refine k_iconst C (0) dX8_isChainTooMany_0 (by decide) ?_
  refine k_istoren C [1, 2, 3, 0] [(0, .ref (sk_ad O a)), (1, .int xs), (2, .int xe), (3, .int (0))] dX8_isChainTooMany_1 (by decide) rfl ?_
  refine k_iconst C (0) dX8_isChainTooMany_2 (by decide) ?_
  refine k_istore C [1, 2, 3, 4, 0] [(0, .ref (sk_ad O a)), (1, .int xs), (2, .int xe), (3, .int (0)), (4, .int (0))] dX8_isChainTooMany_3 (by decide) rfl ?_
  have L5 : ∀ i, i ≤ e + 1 → sk_W l X O A Q 5 0 0 M 5 [(0, .ref (sk_ad O a)), (1, .int xs), (2, .int xe), (3, .int (nI (mo_cc (M a) s i))), (4, .int (nI i))] [] := by
    refine sk_loop (e + 1) (fun i hi5 ih5 => ?_)
    refine k_iload C 4 dX8_isChainTooMany_5 rfl ?_
    refine k_iloadn C 2 dX8_isChainTooMany_7 rfl ?_
    refine k_cgt C 45 dX8_isChainTooMany_8 (by decide) (fun c8_1 => ?_) (fun c8_1 => ?_)
    ·
      have nc8_1 : e < i := (sk_lI (a := e) (b := i) hxe rfl (by omega) (by omega)).mp c8_1
      obtain rfl : i = e + 1 := (by omega)
      refine k_aloadn C 0 dX8_isChainTooMany_45 rfl ?_
      refine k_iloadn C 1 dX8_isChainTooMany_46 rfl ?_
      refine k_iloadn C 2 dX8_isChainTooMany_47 rfl ?_
      refine k_si C (as := [.ref (sk_ad O a), .int xs, .int xe]) yvX8_isChain vsX8_isChain ml_X8_90 (m_X8_isChain l C.2.2.2.1 M (a := a) (ha := ha) (s := s) (xs := xs) (hxs := hxs) (hs := (by omega)) (e := e) (xe := xe) (hxe := hxe) (he := (by omega))) rfl rfl (Nat.le_of_ble_eq_true rfl) (by decide) dX8_isChainTooMany_48 (fun x48_2 M48_2 h48_2 => ?_)
      rw [h48_2.1, h48_2.2]
      refine k_zeq C 65 dX8_isChainTooMany_51 (by decide) (fun c51_3 => ?_) (fun c51_3 => ?_)
      ·
        have nc51_3 : ¬ (mo_ch (M a) s e) := sk_b1.mp c51_3
        refine k_iconst C (0) dX8_isChainTooMany_65 (by decide) ?_
        exact ret _ _ _ _ dX8_isChainTooMany_66 rfl (by exact ⟨(if_neg (fun h => nc51_3 h.1)).symm, rfl⟩)
      ·
        have nc51_3 : mo_ch (M a) s e := Classical.byContradiction (fun h => c51_3 (sk_b1.mpr h))
        refine k_iloadn C 3 dX8_isChainTooMany_54 rfl ?_
        refine k_aloadn C 0 dX8_isChainTooMany_55 rfl ?_
        refine k_iconst C (2) dX8_isChainTooMany_56 (by decide) ?_
        refine k_ialdn C 2 ha (rfl : ((2) : Int32) = nI 2) (by omega) dX8_isChainTooMany_57 ?_
        refine k_cle C 65 dX8_isChainTooMany_58 (by decide) (fun c58_4 => ?_) (fun c58_4 => ?_)
        ·
          refine k_iconst C (0) dX8_isChainTooMany_65 (by decide) ?_
          exact ret _ _ _ _ dX8_isChainTooMany_66 rfl (by exact ⟨(if_neg (fun h => h.2 c58_4)).symm, rfl⟩)
        ·
          refine k_iconst C (1) dX8_isChainTooMany_61 (by decide) ?_
          refine k_goto C 66 dX8_isChainTooMany_62 (by decide) ?_
          exact ret _ _ _ _ dX8_isChainTooMany_66 rfl (by exact ⟨(if_pos ⟨nc51_3, c58_4⟩).symm, rfl⟩)
    ·
      have nc8_1 : ¬ (e < i) := fun h => c8_1 ((sk_lI (a := e) (b := i) hxe rfl (by omega) (by omega)).mpr h)
      refine k_iloadn C 3 dX8_isChainTooMany_11 rfl ?_
      refine k_aloadn C 0 dX8_isChainTooMany_12 rfl ?_
      refine k_iloadn C 1 dX8_isChainTooMany_13 rfl ?_
      refine k_iload C 4 dX8_isChainTooMany_14 rfl ?_
      refine k_si C (as := [.ref (sk_ad O a), .int xs, .int (nI i)]) yvX8_isChain vsX8_isChain ml_X8_90 (m_X8_isChain l C.2.2.2.1 M (a := a) (ha := ha) (s := s) (xs := xs) (hxs := hxs) (hs := (by omega)) (e := i) (xe := nI i) (hxe := rfl) (he := (by omega))) rfl rfl (Nat.le_of_ble_eq_true rfl) (by decide) dX8_isChainTooMany_16 (fun x16_5 M16_5 h16_5 => ?_)
      rw [h16_5.1, h16_5.2]
      refine k_zeq C 36 dX8_isChainTooMany_19 (by decide) (fun c19_6 => ?_) (fun c19_6 => ?_)
      ·
        have nc19_6 : ¬ (mo_ch (M a) s i) := sk_b1.mp c19_6
        refine k_iconst C (0) dX8_isChainTooMany_36 (by decide) ?_
        refine k_iadd C dX8_isChainTooMany_37 ?_
        refine k_top (nI (mo_cc (M a) s (i + 1))) (in_n rfl rfl (fun h => nc19_6 h.1)) ?_
        refine k_istoren C [1, 2, 3, 0, 4] [(0, .ref (sk_ad O a)), (1, .int xs), (2, .int xe), (3, .int (nI (mo_cc (M a) s (i + 1)))), (4, .int (nI i))] dX8_isChainTooMany_38 (by decide) rfl ?_
        refine k_iinc C 4 (nI (i + 1)) [1, 2, 3, 4, 0] [(0, .ref (sk_ad O a)), (1, .int xs), (2, .int xe), (3, .int (nI (mo_cc (M a) s (i + 1)))), (4, .int (nI (i + 1)))] dX8_isChainTooMany_39 rfl (nI_add _ _) (by decide) rfl ?_
        refine k_goto C 5 dX8_isChainTooMany_42 (by decide) ?_
        exact ih5 (by omega)
      ·
        have nc19_6 : mo_ch (M a) s i := Classical.byContradiction (fun h => c19_6 (sk_b1.mpr h))
        refine k_aloadn C 0 dX8_isChainTooMany_22 rfl ?_
        refine k_iloadn C 1 dX8_isChainTooMany_23 rfl ?_
        refine k_iload C 4 dX8_isChainTooMany_24 rfl ?_
        refine k_si C (as := [.ref (sk_ad O a), .int xs, .int (nI i)]) yvX8_isTooMany vsX8_isTooMany ml_X8_93 (m_X8_isTooMany l C.2.2.2.1 M (a := a) (ha := ha) (s := s) (xs := xs) (hxs := hxs) (hs := (by omega)) (e := i) (xe := nI i) (hxe := rfl) (he := (by omega))) rfl rfl (Nat.le_of_ble_eq_true rfl) (by decide) dX8_isChainTooMany_26 (fun x26_7 M26_7 h26_7 => ?_)
        rw [h26_7.1, h26_7.2]
        refine k_zne C 36 dX8_isChainTooMany_29 (by decide) (fun c29_8 => ?_) (fun c29_8 => ?_)
        ·
          have nc29_8 : mo_tm (M a) s i := Classical.byContradiction (fun h => c29_8 (sk_b1.mpr h))
          refine k_iconst C (0) dX8_isChainTooMany_36 (by decide) ?_
          refine k_iadd C dX8_isChainTooMany_37 ?_
          refine k_top (nI (mo_cc (M a) s (i + 1))) (in_n rfl rfl (fun h => h.2 nc29_8)) ?_
          refine k_istoren C [1, 2, 3, 0, 4] [(0, .ref (sk_ad O a)), (1, .int xs), (2, .int xe), (3, .int (nI (mo_cc (M a) s (i + 1)))), (4, .int (nI i))] dX8_isChainTooMany_38 (by decide) rfl ?_
          refine k_iinc C 4 (nI (i + 1)) [1, 2, 3, 4, 0] [(0, .ref (sk_ad O a)), (1, .int xs), (2, .int xe), (3, .int (nI (mo_cc (M a) s (i + 1)))), (4, .int (nI (i + 1)))] dX8_isChainTooMany_39 rfl (nI_add _ _) (by decide) rfl ?_
          refine k_goto C 5 dX8_isChainTooMany_42 (by decide) ?_
          exact ih5 (by omega)
        ·
          have nc29_8 : ¬ (mo_tm (M a) s i) := sk_b1.mp c29_8
          refine k_iconst C (1) dX8_isChainTooMany_32 (by decide) ?_
          refine k_goto C 37 dX8_isChainTooMany_33 (by decide) ?_
          refine k_iadd C dX8_isChainTooMany_37 ?_
          refine k_top (nI (mo_cc (M a) s (i + 1))) (in_y rfl rfl ⟨nc19_6, nc29_8⟩) ?_
          refine k_istoren C [1, 2, 3, 0, 4] [(0, .ref (sk_ad O a)), (1, .int xs), (2, .int xe), (3, .int (nI (mo_cc (M a) s (i + 1)))), (4, .int (nI i))] dX8_isChainTooMany_38 (by decide) rfl ?_
          refine k_iinc C 4 (nI (i + 1)) [1, 2, 3, 4, 0] [(0, .ref (sk_ad O a)), (1, .int xs), (2, .int xe), (3, .int (nI (mo_cc (M a) s (i + 1)))), (4, .int (nI (i + 1)))] dX8_isChainTooMany_39 rfl (nI_add _ _) (by decide) rfl ?_
          refine k_goto C 5 dX8_isChainTooMany_42 (by decide) ?_
          exact ih5 (by omega)
  exact L5 0 (Nat.zero_le _)

set_option maxHeartbeats 4000000 in
set_option maxRecDepth 100000 in
theorem m_X8_wasLong (l : Launch) {O : sk_O} (hO : sk_inj O) (M : sk_M) (a : Nat) (ha : sk_is O a (0, 938, sk_no)) (s : Nat) (xs : Int32) (hxs : xs = nI s) (e : Nat) (xe : Int32) (hxe : xe = nI e) (hs : s < 4) (he : e < 12) : sk_Mi l yX8_wasLong (sk_w yX8_wasLong cX8_wasLong 4 (some .boolean)) ({ frames := 4, cells := 0, slots := 0, locals := 94 }) O [.ref (sk_ad O a), .int xs, .int xe] M (fun r M' => r = (if ¬ mo_wn (M a) s e = 0 then 1 else 0) ∧ M' = M) := by
  refine sk_mi (by decide) ⟨rfl, rfl⟩ hO (Nat.le_of_ble_eq_true rfl) (fun X A Q C ret => ?_)
  show sk_W l X O A Q 4 0 0 M 0 [(0, .ref (sk_ad O a)), (1, .int xs), (2, .int xe)] []
  refine k_iconst C (0) dX8_wasLong_0 (by decide) ?_
  refine k_istoren C [1, 2, 3, 0] [(0, .ref (sk_ad O a)), (1, .int xs), (2, .int xe), (3, .int (0))] dX8_wasLong_1 (by decide) rfl ?_
  have L2 : ∀ i, i ≤ e → mo_wn (M a) s i = 0 → sk_W l X O A Q 4 0 0 M 2 [(0, .ref (sk_ad O a)), (1, .int xs), (2, .int xe), (3, .int (nI i))] [] := by
    refine sk_loop e (fun i hi2 ih2 => ?_)
    intro h0
    refine k_iloadn C 3 dX8_wasLong_2 rfl ?_
    refine k_iloadn C 2 dX8_wasLong_3 rfl ?_
    refine k_cge C 46 dX8_wasLong_4 (by decide) (fun c4_1 => ?_) (fun c4_1 => ?_)
    ·
      have nc4_1 : e ≤ i := (sk_eI (a := e) (b := i) hxe rfl (by omega) (by omega)).mp c4_1
      obtain rfl : e = i := (by omega)
      refine k_iconst C (0) dX8_wasLong_46 (by decide) ?_
      exact ret _ _ _ _ dX8_wasLong_47 rfl (by exact ⟨(if_neg (fun h => h h0)).symm, rfl⟩)
    ·
      have nc4_1 : ¬ (e ≤ i) := fun h => c4_1 ((sk_eI (a := e) (b := i) hxe rfl (by omega) (by omega)).mpr h)
      refine k_aloadn C 0 dX8_wasLong_7 rfl ?_
      refine k_iloadn C 1 dX8_wasLong_8 rfl ?_
      refine k_iloadn C 3 dX8_wasLong_9 rfl ?_
      refine k_si C (as := [.int xs, .int (nI i)]) yvX8_elementAt vsX8_elementAt ml_X8_60 (m_X8_elementAt l C.2.2.2.1 M (s := s) (xs := xs) (hxs := hxs) (e := i) (xe := nI i) (hxe := rfl)) rfl rfl (Nat.le_of_ble_eq_true rfl) (by decide) dX8_wasLong_10 (fun x10_2 M10_2 h10_2 => ?_)
      rw [h10_2.1, h10_2.2]
      refine k_iconst C (1) dX8_wasLong_13 (by decide) ?_
      refine k_iadd C dX8_wasLong_14 ?_
      refine k_ialdn C (23 + 233 * s + 18 * i + 1) ha (sk_nadd rfl (rfl : ((1) : Int32) = nI 1)) (by omega) dX8_wasLong_15 ?_
      refine k_iconst C (3) dX8_wasLong_16 (by decide) ?_
      refine k_cne C 40 dX8_wasLong_17 (by decide) (fun c17_3 => ?_) (fun c17_3 => ?_)
      ·
        refine k_iinc C 3 (nI (i + 1)) [1, 2, 3, 0] [(0, .ref (sk_ad O a)), (1, .int xs), (2, .int xe), (3, .int (nI (i + 1)))] dX8_wasLong_40 rfl (nI_add _ _) (by decide) rfl ?_
        refine k_goto C 2 dX8_wasLong_43 (by decide) ?_
        exact ih2 (by omega) (mo_wz h0 (fun h => c17_3 h.1))
      ·
        refine k_aloadn C 0 dX8_wasLong_20 rfl ?_
        refine k_iloadn C 1 dX8_wasLong_21 rfl ?_
        refine k_iloadn C 3 dX8_wasLong_22 rfl ?_
        refine k_si C (as := [.ref (sk_ad O a), .int xs, .int (nI i)]) yvX8_isTooMany vsX8_isTooMany ml_X8_93 (m_X8_isTooMany l C.2.2.2.1 M (a := a) (ha := ha) (s := s) (xs := xs) (hxs := hxs) (hs := (by omega)) (e := i) (xe := nI i) (hxe := rfl) (he := (by omega))) rfl rfl (Nat.le_of_ble_eq_true rfl) (by decide) dX8_wasLong_23 (fun x23_4 M23_4 h23_4 => ?_)
        rw [h23_4.1, h23_4.2]
        refine k_zne C 40 dX8_wasLong_26 (by decide) (fun c26_5 => ?_) (fun c26_5 => ?_)
        ·
          have nc26_5 : mo_tm (M a) s i := Classical.byContradiction (fun h => c26_5 (sk_b1.mpr h))
          refine k_iinc C 3 (nI (i + 1)) [1, 2, 3, 0] [(0, .ref (sk_ad O a)), (1, .int xs), (2, .int xe), (3, .int (nI (i + 1)))] dX8_wasLong_40 rfl (nI_add _ _) (by decide) rfl ?_
          refine k_goto C 2 dX8_wasLong_43 (by decide) ?_
          exact ih2 (by omega) (mo_wz h0 (fun h => h.2.1 nc26_5))
        ·
          have nc26_5 : ¬ (mo_tm (M a) s i) := sk_b1.mp c26_5
          refine k_aloadn C 0 dX8_wasLong_29 rfl ?_
          refine k_iloadn C 1 dX8_wasLong_30 rfl ?_
          refine k_iloadn C 3 dX8_wasLong_31 rfl ?_
          refine k_si C (as := [.ref (sk_ad O a), .int xs, .int (nI i)]) yvX8_isChainTooMany vsX8_isChainTooMany ml_X8_96 (m_X8_isChainTooMany l C.2.2.2.1 M (a := a) (ha := ha) (s := s) (xs := xs) (hxs := hxs) (hs := (by omega)) (e := i) (xe := nI i) (hxe := rfl) (he := (by omega))) rfl rfl (Nat.le_of_ble_eq_true rfl) (by decide) dX8_wasLong_32 (fun x32_6 M32_6 h32_6 => ?_)
          rw [h32_6.1, h32_6.2]
          refine k_zne C 40 dX8_wasLong_35 (by decide) (fun c35_7 => ?_) (fun c35_7 => ?_)
          ·
            have nc35_7 : mo_cm (M a) s i := Classical.byContradiction (fun h => c35_7 (sk_b1.mpr h))
            refine k_iinc C 3 (nI (i + 1)) [1, 2, 3, 0] [(0, .ref (sk_ad O a)), (1, .int xs), (2, .int xe), (3, .int (nI (i + 1)))] dX8_wasLong_40 rfl (nI_add _ _) (by decide) rfl ?_
            refine k_goto C 2 dX8_wasLong_43 (by decide) ?_
            exact ih2 (by omega) (mo_wz h0 (fun h => h.2.2 nc35_7))
          ·
            have nc35_7 : ¬ (mo_cm (M a) s i) := sk_b1.mp c35_7
            refine k_iconst C (1) dX8_wasLong_38 (by decide) ?_
            exact ret _ _ _ _ dX8_wasLong_39 rfl (by exact ⟨(if_pos (mo_wn_0 (i := i) (by omega) ⟨c17_3, nc26_5, nc35_7⟩)).symm, rfl⟩)
  exact L2 0 (Nat.zero_le _) rfl

set_option maxHeartbeats 4000000 in
set_option maxRecDepth 100000 in
theorem m_X8_byPlace (l : Launch) {O : sk_O} (hO : sk_inj O) (M : sk_M) (a : Nat) (ha : sk_is O a (0, 938, sk_no)) (s : Nat) (xs : Int32) (hxs : xs = nI s) (e : Nat) (xe : Int32) (hxe : xe = nI e) (k : Nat) (xk : Int32) (hxk : xk = nI k) (hs : s < 4) (he : e < 12) (hk : k < 3) : sk_Mi l yX8_byPlace (sk_w yX8_byPlace cX8_byPlace 4 (some .int)) ({ frames := 5, cells := 0, slots := 0, locals := 117 }) O [.ref (sk_ad O a), .int xs, .int xe, .int xk] M (fun r M' => r = (mo_bp (M a) s e k) ∧ M' = M) := by
  refine sk_mi (by decide) ⟨rfl, rfl⟩ hO (Nat.le_of_ble_eq_true rfl) (fun X A Q C ret => ?_)
  show sk_W l X O A Q 4 0 0 M 0 [(0, .ref (sk_ad O a)), (1, .int xs), (2, .int xe), (3, .int xk)] []
  refine k_aloadn C 0 dX8_byPlace_0 rfl ?_
  refine k_iloadn C 1 dX8_byPlace_1 rfl ?_
  refine k_iloadn C 2 dX8_byPlace_2 rfl ?_
  refine k_si C (as := [.ref (sk_ad O a), .int xs, .int xe]) yvX8_isTooMany vsX8_isTooMany ml_X8_93 (m_X8_isTooMany l C.2.2.2.1 M (a := a) (ha := ha) (s := s) (xs := xs) (hxs := hxs) (hs := (by omega)) (e := e) (xe := xe) (hxe := hxe) (he := (by omega))) rfl rfl (Nat.le_of_ble_eq_true rfl) (by decide) dX8_byPlace_3 (fun x3_1 M3_1 h3_1 => ?_)
  rw [h3_1.1, h3_1.2]
  refine k_zeq C 11 dX8_byPlace_6 (by decide) (fun c6_2 => ?_) (fun c6_2 => ?_)
  ·
    have nc6_2 : ¬ (mo_tm (M a) s e) := sk_b1.mp c6_2
    refine k_iloadn C 3 dX8_byPlace_11 rfl ?_
    refine k_zle C 26 dX8_byPlace_12 (by decide) (fun c12_3 => ?_) (fun c12_3 => ?_)
    ·
      have nc12_3 : k ≤ 0 := (sk_eI (a := k) (b := 0) hxk (rfl : ((0) : Int32) = nI 0) (by omega) (by omega)).mp c12_3
      refine k_iloadn C 3 dX8_byPlace_26 rfl ?_
      refine k_iconst C (2) dX8_byPlace_27 (by decide) ?_
      refine k_cne C 44 dX8_byPlace_28 (by decide) (fun c28_4 => ?_) (fun c28_4 => ?_)
      ·
        have nc28_4 : ¬ (k = 2) := fun h => c28_4 ((sk_qI (a := k) (b := 2) hxk (rfl : ((2) : Int32) = nI 2) (by omega) (by omega)).mpr h)
        refine k_iconst C (0) dX8_byPlace_44 (by decide) ?_
        exact ret _ _ _ _ dX8_byPlace_45 rfl (by exact ⟨by rw [mo_bp, if_neg nc6_2, if_neg (show ¬ (0 < k ∧ mo_cm (M a) s e) from fun h => absurd h.1 (by omega)), if_neg (show ¬ (k = 2 ∧ ¬ mo_wn (M a) s e = 0) from fun h => absurd h.1 (by omega))], rfl⟩)
      ·
        have nc28_4 : k = 2 := (sk_qI (a := k) (b := 2) hxk (rfl : ((2) : Int32) = nI 2) (by omega) (by omega)).mp c28_4
        refine k_aloadn C 0 dX8_byPlace_31 rfl ?_
        refine k_iloadn C 1 dX8_byPlace_32 rfl ?_
        refine k_iloadn C 2 dX8_byPlace_33 rfl ?_
        refine k_si C (as := [.ref (sk_ad O a), .int xs, .int xe]) yvX8_wasLong vsX8_wasLong ml_X8_99 (m_X8_wasLong l C.2.2.2.1 M (a := a) (ha := ha) (s := s) (xs := xs) (hxs := hxs) (hs := (by omega)) (e := e) (xe := xe) (hxe := hxe) (he := (by omega))) rfl rfl (Nat.le_of_ble_eq_true rfl) (by decide) dX8_byPlace_34 (fun x34_5 M34_5 h34_5 => ?_)
        rw [h34_5.1, h34_5.2]
        refine k_zeq C 44 dX8_byPlace_37 (by decide) (fun c37_6 => ?_) (fun c37_6 => ?_)
        ·
          have nc37_6 : ¬ (¬ mo_wn (M a) s e = 0) := sk_b1.mp c37_6
          refine k_iconst C (0) dX8_byPlace_44 (by decide) ?_
          exact ret _ _ _ _ dX8_byPlace_45 rfl (by exact ⟨by rw [mo_bp, if_neg nc6_2, if_neg (show ¬ (0 < k ∧ mo_cm (M a) s e) from fun h => absurd h.1 (by omega)), if_neg (show ¬ (k = 2 ∧ ¬ mo_wn (M a) s e = 0) from fun h => nc37_6 h.2)], rfl⟩)
        ·
          have nc37_6 : ¬ mo_wn (M a) s e = 0 := Classical.byContradiction (fun h => c37_6 (sk_b1.mpr h))
          refine k_iconst C (4) dX8_byPlace_40 (by decide) ?_
          refine k_goto C 45 dX8_byPlace_41 (by decide) ?_
          exact ret _ _ _ _ dX8_byPlace_45 rfl (by exact ⟨by rw [mo_bp, if_neg nc6_2, if_neg (show ¬ (0 < k ∧ mo_cm (M a) s e) from fun h => absurd h.1 (by omega)), if_pos (show k = 2 ∧ ¬ mo_wn (M a) s e = 0 from ⟨by omega, nc37_6⟩)], rfl⟩)
    ·
      have nc12_3 : ¬ (k ≤ 0) := fun h => c12_3 ((sk_eI (a := k) (b := 0) hxk (rfl : ((0) : Int32) = nI 0) (by omega) (by omega)).mpr h)
      refine k_aloadn C 0 dX8_byPlace_15 rfl ?_
      refine k_iloadn C 1 dX8_byPlace_16 rfl ?_
      refine k_iloadn C 2 dX8_byPlace_17 rfl ?_
      refine k_si C (as := [.ref (sk_ad O a), .int xs, .int xe]) yvX8_isChainTooMany vsX8_isChainTooMany ml_X8_96 (m_X8_isChainTooMany l C.2.2.2.1 M (a := a) (ha := ha) (s := s) (xs := xs) (hxs := hxs) (hs := (by omega)) (e := e) (xe := xe) (hxe := hxe) (he := (by omega))) rfl rfl (Nat.le_of_ble_eq_true rfl) (by decide) dX8_byPlace_18 (fun x18_7 M18_7 h18_7 => ?_)
      rw [h18_7.1, h18_7.2]
      refine k_zeq C 26 dX8_byPlace_21 (by decide) (fun c21_8 => ?_) (fun c21_8 => ?_)
      ·
        have nc21_8 : ¬ (mo_cm (M a) s e) := sk_b1.mp c21_8
        refine k_iloadn C 3 dX8_byPlace_26 rfl ?_
        refine k_iconst C (2) dX8_byPlace_27 (by decide) ?_
        refine k_cne C 44 dX8_byPlace_28 (by decide) (fun c28_9 => ?_) (fun c28_9 => ?_)
        ·
          have nc28_9 : ¬ (k = 2) := fun h => c28_9 ((sk_qI (a := k) (b := 2) hxk (rfl : ((2) : Int32) = nI 2) (by omega) (by omega)).mpr h)
          refine k_iconst C (0) dX8_byPlace_44 (by decide) ?_
          exact ret _ _ _ _ dX8_byPlace_45 rfl (by exact ⟨by rw [mo_bp, if_neg nc6_2, if_neg (show ¬ (0 < k ∧ mo_cm (M a) s e) from fun h => nc21_8 h.2), if_neg (show ¬ (k = 2 ∧ ¬ mo_wn (M a) s e = 0) from fun h => absurd h.1 (by omega))], rfl⟩)
        ·
          have nc28_9 : k = 2 := (sk_qI (a := k) (b := 2) hxk (rfl : ((2) : Int32) = nI 2) (by omega) (by omega)).mp c28_9
          refine k_aloadn C 0 dX8_byPlace_31 rfl ?_
          refine k_iloadn C 1 dX8_byPlace_32 rfl ?_
          refine k_iloadn C 2 dX8_byPlace_33 rfl ?_
          refine k_si C (as := [.ref (sk_ad O a), .int xs, .int xe]) yvX8_wasLong vsX8_wasLong ml_X8_99 (m_X8_wasLong l C.2.2.2.1 M (a := a) (ha := ha) (s := s) (xs := xs) (hxs := hxs) (hs := (by omega)) (e := e) (xe := xe) (hxe := hxe) (he := (by omega))) rfl rfl (Nat.le_of_ble_eq_true rfl) (by decide) dX8_byPlace_34 (fun x34_10 M34_10 h34_10 => ?_)
          rw [h34_10.1, h34_10.2]
          refine k_zeq C 44 dX8_byPlace_37 (by decide) (fun c37_11 => ?_) (fun c37_11 => ?_)
          ·
            have nc37_11 : ¬ (¬ mo_wn (M a) s e = 0) := sk_b1.mp c37_11
            refine k_iconst C (0) dX8_byPlace_44 (by decide) ?_
            exact ret _ _ _ _ dX8_byPlace_45 rfl (by exact ⟨by rw [mo_bp, if_neg nc6_2, if_neg (show ¬ (0 < k ∧ mo_cm (M a) s e) from fun h => nc21_8 h.2), if_neg (show ¬ (k = 2 ∧ ¬ mo_wn (M a) s e = 0) from fun h => nc37_11 h.2)], rfl⟩)
          ·
            have nc37_11 : ¬ mo_wn (M a) s e = 0 := Classical.byContradiction (fun h => c37_11 (sk_b1.mpr h))
            refine k_iconst C (4) dX8_byPlace_40 (by decide) ?_
            refine k_goto C 45 dX8_byPlace_41 (by decide) ?_
            exact ret _ _ _ _ dX8_byPlace_45 rfl (by exact ⟨by rw [mo_bp, if_neg nc6_2, if_neg (show ¬ (0 < k ∧ mo_cm (M a) s e) from fun h => nc21_8 h.2), if_pos (show k = 2 ∧ ¬ mo_wn (M a) s e = 0 from ⟨by omega, nc37_11⟩)], rfl⟩)
      ·
        have nc21_8 : mo_cm (M a) s e := Classical.byContradiction (fun h => c21_8 (sk_b1.mpr h))
        refine k_iconst C (3) dX8_byPlace_24 (by decide) ?_
        exact ret _ _ _ _ dX8_byPlace_25 rfl (by exact ⟨by rw [mo_bp, if_neg nc6_2, if_pos (show 0 < k ∧ mo_cm (M a) s e from ⟨by omega, nc21_8⟩)], rfl⟩)
  ·
    have nc6_2 : mo_tm (M a) s e := Classical.byContradiction (fun h => c6_2 (sk_b1.mpr h))
    refine k_iconst C (5) dX8_byPlace_9 (by decide) ?_
    exact ret _ _ _ _ dX8_byPlace_10 rfl (by exact ⟨by rw [mo_bp, if_pos nc6_2], rfl⟩)

set_option maxHeartbeats 4000000 in
set_option maxRecDepth 100000 in
theorem m_X8_isAlike (l : Launch) {O : sk_O} (hO : sk_inj O) (M : sk_M) (a : Nat) (ha : sk_is O a (0, 938, sk_no)) (s : Nat) (xs : Int32) (hxs : xs = nI s) (e : Nat) (xe : Int32) (hxe : xe = nI e) (k : Nat) (xk : Int32) (hxk : xk = nI k) (i : Nat) (xi : Int32) (hxi : xi = nI i) (j : Nat) (xj : Int32) (hxj : xj = nI j) (hs : s < 4) (he : e < 12) (hk : k < 3) (hi : i < 12) (hj : j < 3) : sk_Mi l yX8_isAlike (sk_w yX8_isAlike cX8_isAlike 6 (some .boolean)) ({ frames := 6, cells := 0, slots := 0, locals := 140 }) O [.ref (sk_ad O a), .int xs, .int xe, .int xk, .int xi, .int xj] M (fun r M' => r = (if mo_al (M a) s e k i j then 1 else 0) ∧ M' = M) := by
  refine sk_mi (by decide) ⟨rfl, rfl⟩ hO (Nat.le_of_ble_eq_true rfl) (fun X A Q C ret => ?_)
  show sk_W l X O A Q 6 0 0 M 0 [(0, .ref (sk_ad O a)), (1, .int xs), (2, .int xe), (3, .int xk), (4, .int xi), (5, .int xj)] []
  refine k_aloadn C 0 dX8_isAlike_0 rfl ?_
  refine k_iloadn C 1 dX8_isAlike_1 rfl ?_
  refine k_iload C 4 dX8_isAlike_2 rfl ?_
  refine k_si C (as := [.int xs, .int xi]) yvX8_elementAt vsX8_elementAt ml_X8_60 (m_X8_elementAt l C.2.2.2.1 M (s := s) (xs := xs) (hxs := hxs) (e := i) (xe := xi) (hxe := hxi)) rfl rfl (Nat.le_of_ble_eq_true rfl) (by decide) dX8_isAlike_4 (fun x4_1 M4_1 h4_1 => ?_)
  rw [h4_1.1, h4_1.2]
  refine k_iconst C (0) dX8_isAlike_7 (by decide) ?_
  refine k_iadd C dX8_isAlike_8 ?_
  refine k_ialdn C (23 + 233 * s + 18 * i) ha (sk_nadd (b := 0) rfl (rfl : ((0) : Int32) = nI 0)) (by omega) dX8_isAlike_9 ?_
  refine k_zne C 75 dX8_isAlike_10 (by decide) (fun c10_2 => ?_) (fun c10_2 => ?_)
  ·
    refine k_iconst C (0) dX8_isAlike_75 (by decide) ?_
    exact ret _ _ _ _ dX8_isAlike_76 rfl (by exact ⟨(if_neg (fun h => c10_2 h.1)).symm, rfl⟩)
  ·
    refine k_aloadn C 0 dX8_isAlike_13 rfl ?_
    refine k_iloadn C 1 dX8_isAlike_14 rfl ?_
    refine k_iload C 4 dX8_isAlike_15 rfl ?_
    refine k_iload C 5 dX8_isAlike_17 rfl ?_
    refine k_si C (as := [.int xs, .int xi, .int xj]) yvX8_partAt vsX8_partAt ml_X8_102 (m_X8_partAt l C.2.2.2.1 M (s := s) (xs := xs) (hxs := hxs) (e := i) (xe := xi) (hxe := hxi) (k := j) (xk := xj) (hxk := hxj)) rfl rfl (Nat.le_of_ble_eq_true rfl) (by decide) dX8_isAlike_19 (fun x19_3 M19_3 h19_3 => ?_)
    rw [h19_3.1, h19_3.2]
    refine k_ialdn C (25 + 233 * s + 18 * i + 3 * j) ha rfl (by omega) dX8_isAlike_22 ?_
    refine k_aloadn C 0 dX8_isAlike_23 rfl ?_
    refine k_iloadn C 1 dX8_isAlike_24 rfl ?_
    refine k_iloadn C 2 dX8_isAlike_25 rfl ?_
    refine k_iloadn C 3 dX8_isAlike_26 rfl ?_
    refine k_si C (as := [.int xs, .int xe, .int xk]) yvX8_partAt vsX8_partAt ml_X8_102 (m_X8_partAt l C.2.2.2.1 M (s := s) (xs := xs) (hxs := hxs) (e := e) (xe := xe) (hxe := hxe) (k := k) (xk := xk) (hxk := hxk)) rfl rfl (Nat.le_of_ble_eq_true rfl) (by decide) dX8_isAlike_27 (fun x27_4 M27_4 h27_4 => ?_)
    rw [h27_4.1, h27_4.2]
    refine k_ialdn C (25 + 233 * s + 18 * e + 3 * k) ha rfl (by omega) dX8_isAlike_30 ?_
    refine k_cne C 75 dX8_isAlike_31 (by decide) (fun c31_5 => ?_) (fun c31_5 => ?_)
    ·
      refine k_iconst C (0) dX8_isAlike_75 (by decide) ?_
      exact ret _ _ _ _ dX8_isAlike_76 rfl (by exact ⟨(if_neg (fun h => c31_5 h.2.1)).symm, rfl⟩)
    ·
      refine k_aloadn C 0 dX8_isAlike_34 rfl ?_
      refine k_iloadn C 1 dX8_isAlike_35 rfl ?_
      refine k_iload C 4 dX8_isAlike_36 rfl ?_
      refine k_iload C 5 dX8_isAlike_38 rfl ?_
      refine k_si C (as := [.int xs, .int xi, .int xj]) yvX8_partAt vsX8_partAt ml_X8_102 (m_X8_partAt l C.2.2.2.1 M (s := s) (xs := xs) (hxs := hxs) (e := i) (xe := xi) (hxe := hxi) (k := j) (xk := xj) (hxk := hxj)) rfl rfl (Nat.le_of_ble_eq_true rfl) (by decide) dX8_isAlike_40 (fun x40_6 M40_6 h40_6 => ?_)
      rw [h40_6.1, h40_6.2]
      refine k_iconst C (1) dX8_isAlike_43 (by decide) ?_
      refine k_iadd C dX8_isAlike_44 ?_
      refine k_ialdn C (25 + 233 * s + 18 * i + 3 * j + 1) ha (sk_nadd rfl (rfl : ((1) : Int32) = nI 1)) (by omega) dX8_isAlike_45 ?_
      refine k_aloadn C 0 dX8_isAlike_46 rfl ?_
      refine k_iloadn C 1 dX8_isAlike_47 rfl ?_
      refine k_iloadn C 2 dX8_isAlike_48 rfl ?_
      refine k_iloadn C 3 dX8_isAlike_49 rfl ?_
      refine k_si C (as := [.int xs, .int xe, .int xk]) yvX8_partAt vsX8_partAt ml_X8_102 (m_X8_partAt l C.2.2.2.1 M (s := s) (xs := xs) (hxs := hxs) (e := e) (xe := xe) (hxe := hxe) (k := k) (xk := xk) (hxk := hxk)) rfl rfl (Nat.le_of_ble_eq_true rfl) (by decide) dX8_isAlike_50 (fun x50_7 M50_7 h50_7 => ?_)
      rw [h50_7.1, h50_7.2]
      refine k_iconst C (1) dX8_isAlike_53 (by decide) ?_
      refine k_iadd C dX8_isAlike_54 ?_
      refine k_ialdn C (25 + 233 * s + 18 * e + 3 * k + 1) ha (sk_nadd rfl (rfl : ((1) : Int32) = nI 1)) (by omega) dX8_isAlike_55 ?_
      refine k_cne C 75 dX8_isAlike_56 (by decide) (fun c56_8 => ?_) (fun c56_8 => ?_)
      ·
        refine k_iconst C (0) dX8_isAlike_75 (by decide) ?_
        exact ret _ _ _ _ dX8_isAlike_76 rfl (by exact ⟨(if_neg (fun h => c56_8 h.2.2.1)).symm, rfl⟩)
      ·
        refine k_aloadn C 0 dX8_isAlike_59 rfl ?_
        refine k_iloadn C 1 dX8_isAlike_60 rfl ?_
        refine k_iload C 4 dX8_isAlike_61 rfl ?_
        refine k_iload C 5 dX8_isAlike_63 rfl ?_
        refine k_si C (as := [.ref (sk_ad O a), .int xs, .int xi, .int xj]) yvX8_byPlace vsX8_byPlace ml_X8_106 (m_X8_byPlace l C.2.2.2.1 M (a := a) (ha := ha) (s := s) (xs := xs) (hxs := hxs) (hs := (by omega)) (e := i) (xe := xi) (hxe := hxi) (he := (by omega)) (k := j) (xk := xj) (hxk := hxj) (hk := (by omega))) rfl rfl (Nat.le_of_ble_eq_true rfl) (by decide) dX8_isAlike_65 (fun x65_9 M65_9 h65_9 => ?_)
        rw [h65_9.1, h65_9.2]
        refine k_zne C 75 dX8_isAlike_68 (by decide) (fun c68_10 => ?_) (fun c68_10 => ?_)
        ·
          refine k_iconst C (0) dX8_isAlike_75 (by decide) ?_
          exact ret _ _ _ _ dX8_isAlike_76 rfl (by exact ⟨(if_neg (fun h => c68_10 h.2.2.2)).symm, rfl⟩)
        ·
          refine k_iconst C (1) dX8_isAlike_71 (by decide) ?_
          refine k_goto C 76 dX8_isAlike_72 (by decide) ?_
          exact ret _ _ _ _ dX8_isAlike_76 rfl (by exact ⟨(if_pos ⟨c10_2, c31_5, c56_8, c68_10⟩).symm, rfl⟩)

set_option maxHeartbeats 4000000 in
set_option maxRecDepth 100000 in
theorem m_X8_byRepeat (l : Launch) {O : sk_O} (hO : sk_inj O) (M : sk_M) (a : Nat) (ha : sk_is O a (0, 938, sk_no)) (s : Nat) (xs : Int32) (hxs : xs = nI s) (e : Nat) (xe : Int32) (hxe : xe = nI e) (k : Nat) (xk : Int32) (hxk : xk = nI k) (hs : s < 4) (he : e < 12) (hk : k < 3) (hp : mo_pp (M a) s (e + 1)) : sk_Mi l yX8_byRepeat (sk_w yX8_byRepeat cX8_byRepeat 8 (some .int)) ({ frames := 7, cells := 0, slots := 0, locals := 165 }) O [.ref (sk_ad O a), .int xs, .int xe, .int xk] M (fun r M' => r = (mo_br (M a) s e k) ∧ M' = M) := by
  refine sk_mi (by decide) ⟨rfl, rfl⟩ hO (Nat.le_of_ble_eq_true rfl) (fun X A Q C ret => ?_)
  show sk_W l X O A Q 8 0 0 M 0 [(0, .ref (sk_ad O a)), (1, .int xs), (2, .int xe), (3, .int xk)] []
  refine k_aloadn C 0 dX8_byRepeat_0 rfl ?_
  refine k_iloadn C 1 dX8_byRepeat_1 rfl ?_
  refine k_iloadn C 2 dX8_byRepeat_2 rfl ?_
  refine k_si C (as := [.int xs, .int xe]) yvX8_elementAt vsX8_elementAt ml_X8_60 (m_X8_elementAt l C.2.2.2.1 M (s := s) (xs := xs) (hxs := hxs) (e := e) (xe := xe) (hxe := hxe)) rfl rfl (Nat.le_of_ble_eq_true rfl) (by decide) dX8_byRepeat_3 (fun x3_1 M3_1 h3_1 => ?_)
  rw [h3_1.1, h3_1.2]
  refine k_iconst C (0) dX8_byRepeat_6 (by decide) ?_
  refine k_iadd C dX8_byRepeat_7 ?_
  refine k_ialdn C (23 + 233 * s + 18 * e) ha (sk_nadd (b := 0) rfl (rfl : ((0) : Int32) = nI 0)) (by omega) dX8_byRepeat_8 ?_
  refine k_zne C 26 dX8_byRepeat_9 (by decide) (fun c9_2 => ?_) (fun c9_2 => ?_)
  ·
    refine k_iconst C (0) dX8_byRepeat_26 (by decide) ?_
    exact ret _ _ _ _ dX8_byRepeat_27 rfl (by exact ⟨by rw [mo_br, if_pos (Or.inl c9_2)], rfl⟩)
  ·
    refine k_aloadn C 0 dX8_byRepeat_12 rfl ?_
    refine k_iloadn C 1 dX8_byRepeat_13 rfl ?_
    refine k_iloadn C 2 dX8_byRepeat_14 rfl ?_
    refine k_iloadn C 3 dX8_byRepeat_15 rfl ?_
    refine k_si C (as := [.int xs, .int xe, .int xk]) yvX8_partAt vsX8_partAt ml_X8_102 (m_X8_partAt l C.2.2.2.1 M (s := s) (xs := xs) (hxs := hxs) (e := e) (xe := xe) (hxe := hxe) (k := k) (xk := xk) (hxk := hxk)) rfl rfl (Nat.le_of_ble_eq_true rfl) (by decide) dX8_byRepeat_16 (fun x16_3 M16_3 h16_3 => ?_)
    rw [h16_3.1, h16_3.2]
    refine k_iconst C (1) dX8_byRepeat_19 (by decide) ?_
    refine k_iadd C dX8_byRepeat_20 ?_
    refine k_ialdn C (25 + 233 * s + 18 * e + 3 * k + 1) ha (sk_nadd rfl (rfl : ((1) : Int32) = nI 1)) (by omega) dX8_byRepeat_21 ?_
    refine k_iconst C (3) dX8_byRepeat_22 (by decide) ?_
    refine k_cge C 28 dX8_byRepeat_23 (by decide) (fun c23_4 => ?_) (fun c23_4 => ?_)
    ·
      refine k_iconst C (0) dX8_byRepeat_28 (by decide) ?_
      refine k_istore C [1, 2, 3, 4, 0] [(0, .ref (sk_ad O a)), (1, .int xs), (2, .int xe), (3, .int xk), (4, .int (0))] dX8_byRepeat_29 (by decide) rfl ?_
      refine k_aloadn C 0 dX8_byRepeat_31 rfl ?_
      refine k_iloadn C 1 dX8_byRepeat_32 rfl ?_
      refine k_iloadn C 2 dX8_byRepeat_33 rfl ?_
      refine k_si C (as := [.int xs, .int xe]) yvX8_elementAt vsX8_elementAt ml_X8_60 (m_X8_elementAt l C.2.2.2.1 M (s := s) (xs := xs) (hxs := hxs) (e := e) (xe := xe) (hxe := hxe)) rfl rfl (Nat.le_of_ble_eq_true rfl) (by decide) dX8_byRepeat_34 (fun x34_5 M34_5 h34_5 => ?_)
      rw [h34_5.1, h34_5.2]
      refine k_iconst C (1) dX8_byRepeat_37 (by decide) ?_
      refine k_iadd C dX8_byRepeat_38 ?_
      refine k_ialdn C (23 + 233 * s + 18 * e + 1) ha (sk_nadd rfl (rfl : ((1) : Int32) = nI 1)) (by omega) dX8_byRepeat_39 ?_
      refine k_iconst C (1) dX8_byRepeat_40 (by decide) ?_
      have J49 : sk_W l X O A Q 8 0 0 M 49 [(0, .ref (sk_ad O a)), (1, .int xs), (2, .int xe), (3, .int xk), (4, .int (0))] [.int (if M a (23 + 233 * s + 18 * e + 1) = 1 then 1 else 0)] := by
        refine k_istore C [1, 2, 3, 4, 5, 0] [(0, .ref (sk_ad O a)), (1, .int xs), (2, .int xe), (3, .int xk), (4, .int (0)), (5, .int (if M a (23 + 233 * s + 18 * e + 1) = 1 then 1 else 0))] dX8_byRepeat_49 (by decide) rfl ?_
        refine k_iconst C (0) dX8_byRepeat_51 (by decide) ?_
        refine k_istore C [1, 2, 3, 4, 5, 6, 0] [(0, .ref (sk_ad O a)), (1, .int xs), (2, .int xe), (3, .int xk), (4, .int (0)), (5, .int (if M a (23 + 233 * s + 18 * e + 1) = 1 then 1 else 0)), (6, .int (0))] dX8_byRepeat_52 (by decide) rfl ?_
        have L54 : ∀ i, i ≤ e + 1 → sk_W l X O A Q 8 0 0 M 54 [(0, .ref (sk_ad O a)), (1, .int xs), (2, .int xe), (3, .int xk), (4, .int (nI ((mo_bo (M a) s e k i).1))), (5, .int ((mo_bo (M a) s e k i).2)), (6, .int (nI i))] [] := by
          refine sk_loop (e + 1) (fun i hi54 ih54 => ?_)
          refine k_iload C 6 dX8_byRepeat_54 rfl ?_
          refine k_iloadn C 2 dX8_byRepeat_56 rfl ?_
          refine k_cgt C 145 dX8_byRepeat_57 (by decide) (fun c57_6 => ?_) (fun c57_6 => ?_)
          ·
            have nc57_6 : e < i := (sk_lI (a := e) (b := i) hxe rfl (by omega) (by omega)).mp c57_6
            obtain rfl : i = e + 1 := (by omega)
            have hb := mo_bo_le (k := k) (e := e) hp (e + 1) (Nat.le_refl _)
            refine k_iload C 4 dX8_byRepeat_145 rfl ?_
            refine k_iconst C (1) dX8_byRepeat_147 (by decide) ?_
            refine k_cle C 155 dX8_byRepeat_148 (by decide) (fun c148_7 => ?_) (fun c148_7 => ?_)
            ·
              have nc148_7 : (mo_bo (M a) s e k (e + 1)).1 ≤ 1 := (sk_eI (a := (mo_bo (M a) s e k (e + 1)).1) (b := 1) rfl (rfl : ((1) : Int32) = nI 1) (by omega) (by omega)).mp c148_7
              refine k_iload C 4 dX8_byRepeat_155 rfl ?_
              refine k_iconst C (1) dX8_byRepeat_157 (by decide) ?_
              refine k_cne C 170 dX8_byRepeat_158 (by decide) (fun c158_8 => ?_) (fun c158_8 => ?_)
              ·
                have nc158_8 : ¬ ((mo_bo (M a) s e k (e + 1)).1 = 1) := fun h => c158_8 ((sk_qI (a := (mo_bo (M a) s e k (e + 1)).1) (b := 1) rfl (rfl : ((1) : Int32) = nI 1) (by omega) (by omega)).mpr h)
                refine k_iconst C (0) dX8_byRepeat_170 (by decide) ?_
                exact ret _ _ _ _ dX8_byRepeat_171 rfl (by exact ⟨by rw [mo_br, if_neg (show ¬ (¬ M a (23 + 233 * s + 18 * e) = 0 ∨ M a (25 + 233 * s + 18 * e + 3 * k + 1) < 3) from fun h => h.elim (fun z => z c9_2) (fun z => absurd c23_4 (Int32.not_le.mpr z))), if_neg (show ¬ 1 < (mo_bo (M a) s e k (e + 1)).1 from by omega), if_neg (show ¬ ((mo_bo (M a) s e k (e + 1)).1 = 1 ∧ ¬ (mo_bo (M a) s e k (e + 1)).2 = 0) from fun h => absurd h.1 (by omega))], rfl⟩)
              ·
                have nc158_8 : (mo_bo (M a) s e k (e + 1)).1 = 1 := (sk_qI (a := (mo_bo (M a) s e k (e + 1)).1) (b := 1) rfl (rfl : ((1) : Int32) = nI 1) (by omega) (by omega)).mp c158_8
                refine k_iload C 5 dX8_byRepeat_161 rfl ?_
                refine k_zeq C 170 dX8_byRepeat_163 (by decide) (fun c163_9 => ?_) (fun c163_9 => ?_)
                ·
                  refine k_iconst C (0) dX8_byRepeat_170 (by decide) ?_
                  exact ret _ _ _ _ dX8_byRepeat_171 rfl (by exact ⟨by rw [mo_br, if_neg (show ¬ (¬ M a (23 + 233 * s + 18 * e) = 0 ∨ M a (25 + 233 * s + 18 * e + 3 * k + 1) < 3) from fun h => h.elim (fun z => z c9_2) (fun z => absurd c23_4 (Int32.not_le.mpr z))), if_neg (show ¬ 1 < (mo_bo (M a) s e k (e + 1)).1 from by omega), if_neg (show ¬ ((mo_bo (M a) s e k (e + 1)).1 = 1 ∧ ¬ (mo_bo (M a) s e k (e + 1)).2 = 0) from fun h => h.2 c163_9)], rfl⟩)
                ·
                  refine k_iconst C (1) dX8_byRepeat_166 (by decide) ?_
                  refine k_goto C 171 dX8_byRepeat_167 (by decide) ?_
                  exact ret _ _ _ _ dX8_byRepeat_171 rfl (by exact ⟨by rw [mo_br, if_neg (show ¬ (¬ M a (23 + 233 * s + 18 * e) = 0 ∨ M a (25 + 233 * s + 18 * e + 3 * k + 1) < 3) from fun h => h.elim (fun z => z c9_2) (fun z => absurd c23_4 (Int32.not_le.mpr z))), if_neg (show ¬ 1 < (mo_bo (M a) s e k (e + 1)).1 from by omega), if_pos (show (mo_bo (M a) s e k (e + 1)).1 = 1 ∧ ¬ (mo_bo (M a) s e k (e + 1)).2 = 0 from ⟨by omega, c163_9⟩)], rfl⟩)
            ·
              have nc148_7 : ¬ ((mo_bo (M a) s e k (e + 1)).1 ≤ 1) := fun h => c148_7 ((sk_eI (a := (mo_bo (M a) s e k (e + 1)).1) (b := 1) rfl (rfl : ((1) : Int32) = nI 1) (by omega) (by omega)).mpr h)
              refine k_iconst C (2) dX8_byRepeat_151 (by decide) ?_
              refine k_goto C 171 dX8_byRepeat_152 (by decide) ?_
              exact ret _ _ _ _ dX8_byRepeat_171 rfl (by exact ⟨by rw [mo_br, if_neg (show ¬ (¬ M a (23 + 233 * s + 18 * e) = 0 ∨ M a (25 + 233 * s + 18 * e + 3 * k + 1) < 3) from fun h => h.elim (fun z => z c9_2) (fun z => absurd c23_4 (Int32.not_le.mpr z))), if_pos (show 1 < (mo_bo (M a) s e k (e + 1)).1 from by omega)], rfl⟩)
          ·
            have nc57_6 : ¬ (e < i) := fun h => c57_6 ((sk_lI (a := e) (b := i) hxe rfl (by omega) (by omega)).mpr h)
            obtain ⟨hpi, hpi3⟩ := mo_nn hp (i := i) (by omega)
            refine k_iconst C (0) dX8_byRepeat_60 (by decide) ?_
            refine k_istore C [1, 2, 3, 4, 5, 6, 7, 0] [(0, .ref (sk_ad O a)), (1, .int xs), (2, .int xe), (3, .int xk), (4, .int (nI ((mo_bo (M a) s e k i).1))), (5, .int ((mo_bo (M a) s e k i).2)), (6, .int (nI i)), (7, .int (0))] dX8_byRepeat_61 (by decide) rfl ?_
            have L63 : ∀ j, j ≤ mo_n (M a) s i → sk_W l X O A Q 8 0 0 M 63 [(0, .ref (sk_ad O a)), (1, .int xs), (2, .int xe), (3, .int xk), (4, .int (nI ((mo_bj (M a) s e k i (mo_bo (M a) s e k i) j).1))), (5, .int ((mo_bj (M a) s e k i (mo_bo (M a) s e k i) j).2)), (6, .int (nI i)), (7, .int (nI j))] [] := by
              refine sk_loop (mo_n (M a) s i) (fun j hi63 ih63 => ?_)
              refine k_iload C 7 dX8_byRepeat_63 rfl ?_
              refine k_aloadn C 0 dX8_byRepeat_65 rfl ?_
              refine k_iloadn C 1 dX8_byRepeat_66 rfl ?_
              refine k_iload C 6 dX8_byRepeat_67 rfl ?_
              refine k_si C (as := [.int xs, .int (nI i)]) yvX8_elementAt vsX8_elementAt ml_X8_60 (m_X8_elementAt l C.2.2.2.1 M (s := s) (xs := xs) (hxs := hxs) (e := i) (xe := nI i) (hxe := rfl)) rfl rfl (Nat.le_of_ble_eq_true rfl) (by decide) dX8_byRepeat_69 (fun x69_10 M69_10 h69_10 => ?_)
              rw [h69_10.1, h69_10.2]
              refine k_iconst C (1) dX8_byRepeat_72 (by decide) ?_
              refine k_iadd C dX8_byRepeat_73 ?_
              refine k_ialdn C (23 + 233 * s + 18 * i + 1) ha (sk_nadd rfl (rfl : ((1) : Int32) = nI 1)) (by omega) dX8_byRepeat_74 ?_
              refine k_cge C 139 dX8_byRepeat_75 (by decide) (fun c75_11 => ?_) (fun c75_11 => ?_)
              ·
                have nc75_11 : mo_n (M a) s i ≤ j := (sk_eI (a := mo_n (M a) s i) (b := j) hpi rfl (by omega) (by omega)).mp c75_11
                obtain rfl : mo_n (M a) s i = j := (by omega)
                refine k_iinc C 6 (nI (i + 1)) [1, 2, 3, 4, 5, 6, 0, 7] [(0, .ref (sk_ad O a)), (1, .int xs), (2, .int xe), (3, .int xk), (4, .int (nI ((mo_bj (M a) s e k i (mo_bo (M a) s e k i) (mo_n (M a) s i)).1))), (5, .int ((mo_bj (M a) s e k i (mo_bo (M a) s e k i) (mo_n (M a) s i)).2)), (6, .int (nI (i + 1))), (7, .int (nI (mo_n (M a) s i)))] dX8_byRepeat_139 rfl (nI_add _ _) (by decide) rfl ?_
                refine k_goto C 54 dX8_byRepeat_142 (by decide) ?_
                refine k_sub [0, 1, 2, 3, 4, 5, 6] (lv' := [(0, .ref (sk_ad O a)), (1, .int xs), (2, .int xe), (3, .int xk), (4, .int (nI ((mo_bj (M a) s e k i (mo_bo (M a) s e k i) (mo_n (M a) s i)).1))), (5, .int ((mo_bj (M a) s e k i (mo_bo (M a) s e k i) (mo_n (M a) s i)).2)), (6, .int (nI (i + 1)))]) rfl ?_
                exact ih54 (by omega)
              ·
                have nc75_11 : ¬ (mo_n (M a) s i ≤ j) := fun h => c75_11 ((sk_eI (a := mo_n (M a) s i) (b := j) hpi rfl (by omega) (by omega)).mpr h)
                refine k_iload C 6 dX8_byRepeat_78 rfl ?_
                refine k_iloadn C 2 dX8_byRepeat_80 rfl ?_
                have J133 : sk_W l X O A Q 8 0 0 M 133 [(0, .ref (sk_ad O a)), (1, .int xs), (2, .int xe), (3, .int xk), (4, .int (nI ((mo_bs (M a) s e k i j (mo_bj (M a) s e k i (mo_bo (M a) s e k i) j)).1))), (5, .int ((mo_bs (M a) s e k i j (mo_bj (M a) s e k i (mo_bo (M a) s e k i) j)).2)), (6, .int (nI i)), (7, .int (nI j))] [] := by
                  refine k_iinc C 7 (nI (j + 1)) [1, 2, 3, 4, 5, 6, 7, 0] [(0, .ref (sk_ad O a)), (1, .int xs), (2, .int xe), (3, .int xk), (4, .int (nI ((mo_bs (M a) s e k i j (mo_bj (M a) s e k i (mo_bo (M a) s e k i) j)).1))), (5, .int ((mo_bs (M a) s e k i j (mo_bj (M a) s e k i (mo_bo (M a) s e k i) j)).2)), (6, .int (nI i)), (7, .int (nI (j + 1)))] dX8_byRepeat_133 rfl (nI_add _ _) (by decide) rfl ?_
                  refine k_goto C 63 dX8_byRepeat_136 (by decide) ?_
                  exact ih63 (by omega)
                refine k_clt C 90 dX8_byRepeat_81 (by decide) (fun c81_12 => ?_) (fun c81_12 => ?_)
                ·
                  have nc81_12 : i < e := (sk_lI (a := i) (b := e) rfl hxe (by omega) (by omega)).mp c81_12
                  refine k_aloadn C 0 dX8_byRepeat_90 rfl ?_
                  refine k_iloadn C 1 dX8_byRepeat_91 rfl ?_
                  refine k_iloadn C 2 dX8_byRepeat_92 rfl ?_
                  refine k_iloadn C 3 dX8_byRepeat_93 rfl ?_
                  refine k_iload C 6 dX8_byRepeat_94 rfl ?_
                  refine k_iload C 7 dX8_byRepeat_96 rfl ?_
                  refine k_si C (as := [.ref (sk_ad O a), .int xs, .int xe, .int xk, .int (nI i), .int (nI j)]) yvX8_isAlike vsX8_isAlike ml_X8_109 (m_X8_isAlike l C.2.2.2.1 M (a := a) (ha := ha) (s := s) (xs := xs) (hxs := hxs) (hs := (by omega)) (e := e) (xe := xe) (hxe := hxe) (he := (by omega)) (k := k) (xk := xk) (hxk := hxk) (hk := (by omega)) (i := i) (xi := nI i) (hxi := rfl) (hi := (by omega)) (j := j) (xj := nI j) (hxj := rfl) (hj := (by omega))) rfl rfl (Nat.le_of_ble_eq_true rfl) (by decide) dX8_byRepeat_98 (fun x98_13 M98_13 h98_13 => ?_)
                  rw [h98_13.1, h98_13.2]
                  refine k_zeq C 133 dX8_byRepeat_101 (by decide) (fun c101_14 => ?_) (fun c101_14 => ?_)
                  ·
                    have nc101_14 : ¬ (mo_al (M a) s e k i j) := sk_b1.mp c101_14
                    refine k_eq rfl rfl (by rw [mo_bw (fun h => nc101_14 h.2)]) rfl J133
                  ·
                    have nc101_14 : mo_al (M a) s e k i j := Classical.byContradiction (fun h => c101_14 (sk_b1.mpr h))
                    refine k_iinc C 4 (nI ((mo_bj (M a) s e k i (mo_bo (M a) s e k i) j).1 + 1)) [1, 2, 3, 4, 0, 5, 6, 7] [(0, .ref (sk_ad O a)), (1, .int xs), (2, .int xe), (3, .int xk), (4, .int (nI ((mo_bj (M a) s e k i (mo_bo (M a) s e k i) j).1 + 1))), (5, .int ((mo_bj (M a) s e k i (mo_bo (M a) s e k i) j).2)), (6, .int (nI i)), (7, .int (nI j))] dX8_byRepeat_104 rfl (nI_add _ _) (by decide) rfl ?_
                    refine k_iload C 5 dX8_byRepeat_107 rfl ?_
                    refine k_zeq C 130 dX8_byRepeat_109 (by decide) (fun c109_15 => ?_) (fun c109_15 => ?_)
                    ·
                      refine k_iconst C (0) dX8_byRepeat_130 (by decide) ?_
                      refine k_istore C [1, 2, 3, 4, 5, 0, 6, 7] [(0, .ref (sk_ad O a)), (1, .int xs), (2, .int xe), (3, .int xk), (4, .int (nI ((mo_bj (M a) s e k i (mo_bo (M a) s e k i) j).1 + 1))), (5, .int (0)), (6, .int (nI i)), (7, .int (nI j))] dX8_byRepeat_131 (by decide) rfl ?_
                      refine k_eq rfl rfl (by rw [mo_bz ⟨Or.inl (by omega), nc101_14⟩, if_neg (show ¬ (¬ (mo_bj (M a) s e k i (mo_bo (M a) s e k i) j).2 = 0 ∧ M a (23 + 233 * s + 18 * i + 1) = 1) from fun h => h.1 c109_15)]) rfl J133
                    ·
                      refine k_aloadn C 0 dX8_byRepeat_112 rfl ?_
                      refine k_iloadn C 1 dX8_byRepeat_113 rfl ?_
                      refine k_iload C 6 dX8_byRepeat_114 rfl ?_
                      refine k_si C (as := [.int xs, .int (nI i)]) yvX8_elementAt vsX8_elementAt ml_X8_60 (m_X8_elementAt l C.2.2.2.1 M (s := s) (xs := xs) (hxs := hxs) (e := i) (xe := nI i) (hxe := rfl)) rfl rfl (Nat.le_of_ble_eq_true rfl) (by decide) dX8_byRepeat_116 (fun x116_16 M116_16 h116_16 => ?_)
                      rw [h116_16.1, h116_16.2]
                      refine k_iconst C (1) dX8_byRepeat_119 (by decide) ?_
                      refine k_iadd C dX8_byRepeat_120 ?_
                      refine k_ialdn C (23 + 233 * s + 18 * i + 1) ha (sk_nadd rfl (rfl : ((1) : Int32) = nI 1)) (by omega) dX8_byRepeat_121 ?_
                      refine k_iconst C (1) dX8_byRepeat_122 (by decide) ?_
                      refine k_cne C 130 dX8_byRepeat_123 (by decide) (fun c123_17 => ?_) (fun c123_17 => ?_)
                      ·
                        have nc123_17 : ¬ (mo_n (M a) s i = 1) := fun h => c123_17 ((sk_qI (a := mo_n (M a) s i) (b := 1) hpi (rfl : ((1) : Int32) = nI 1) (by omega) (by omega)).mpr h)
                        refine k_iconst C (0) dX8_byRepeat_130 (by decide) ?_
                        refine k_istore C [1, 2, 3, 4, 5, 0, 6, 7] [(0, .ref (sk_ad O a)), (1, .int xs), (2, .int xe), (3, .int xk), (4, .int (nI ((mo_bj (M a) s e k i (mo_bo (M a) s e k i) j).1 + 1))), (5, .int (0)), (6, .int (nI i)), (7, .int (nI j))] dX8_byRepeat_131 (by decide) rfl ?_
                        refine k_eq rfl rfl (by rw [mo_bz ⟨Or.inl (by omega), nc101_14⟩, if_neg (show ¬ (¬ (mo_bj (M a) s e k i (mo_bo (M a) s e k i) j).2 = 0 ∧ M a (23 + 233 * s + 18 * i + 1) = 1) from fun h => c123_17 h.2)]) rfl J133
                      ·
                        have nc123_17 : mo_n (M a) s i = 1 := (sk_qI (a := mo_n (M a) s i) (b := 1) hpi (rfl : ((1) : Int32) = nI 1) (by omega) (by omega)).mp c123_17
                        refine k_iconst C (1) dX8_byRepeat_126 (by decide) ?_
                        refine k_goto C 131 dX8_byRepeat_127 (by decide) ?_
                        refine k_istore C [1, 2, 3, 4, 5, 0, 6, 7] [(0, .ref (sk_ad O a)), (1, .int xs), (2, .int xe), (3, .int xk), (4, .int (nI ((mo_bj (M a) s e k i (mo_bo (M a) s e k i) j).1 + 1))), (5, .int (1)), (6, .int (nI i)), (7, .int (nI j))] dX8_byRepeat_131 (by decide) rfl ?_
                        refine k_eq rfl rfl (by rw [mo_bz ⟨Or.inl (by omega), nc101_14⟩, if_pos (show ¬ (mo_bj (M a) s e k i (mo_bo (M a) s e k i) j).2 = 0 ∧ M a (23 + 233 * s + 18 * i + 1) = 1 from ⟨c109_15, c123_17⟩)]) rfl J133
                ·
                  have nc81_12 : ¬ (i < e) := fun h => c81_12 ((sk_lI (a := i) (b := e) rfl hxe (by omega) (by omega)).mpr h)
                  refine k_iload C 7 dX8_byRepeat_84 rfl ?_
                  refine k_iloadn C 3 dX8_byRepeat_86 rfl ?_
                  refine k_cge C 133 dX8_byRepeat_87 (by decide) (fun c87_18 => ?_) (fun c87_18 => ?_)
                  ·
                    have nc87_18 : k ≤ j := (sk_eI (a := k) (b := j) hxk rfl (by omega) (by omega)).mp c87_18
                    refine k_eq rfl rfl (by rw [mo_bw (fun h => h.1.elim (fun z => absurd z (by omega)) (fun z => absurd z (by omega)))]) rfl J133
                  ·
                    have nc87_18 : ¬ (k ≤ j) := fun h => c87_18 ((sk_eI (a := k) (b := j) hxk rfl (by omega) (by omega)).mpr h)
                    refine k_aloadn C 0 dX8_byRepeat_90 rfl ?_
                    refine k_iloadn C 1 dX8_byRepeat_91 rfl ?_
                    refine k_iloadn C 2 dX8_byRepeat_92 rfl ?_
                    refine k_iloadn C 3 dX8_byRepeat_93 rfl ?_
                    refine k_iload C 6 dX8_byRepeat_94 rfl ?_
                    refine k_iload C 7 dX8_byRepeat_96 rfl ?_
                    refine k_si C (as := [.ref (sk_ad O a), .int xs, .int xe, .int xk, .int (nI i), .int (nI j)]) yvX8_isAlike vsX8_isAlike ml_X8_109 (m_X8_isAlike l C.2.2.2.1 M (a := a) (ha := ha) (s := s) (xs := xs) (hxs := hxs) (hs := (by omega)) (e := e) (xe := xe) (hxe := hxe) (he := (by omega)) (k := k) (xk := xk) (hxk := hxk) (hk := (by omega)) (i := i) (xi := nI i) (hxi := rfl) (hi := (by omega)) (j := j) (xj := nI j) (hxj := rfl) (hj := (by omega))) rfl rfl (Nat.le_of_ble_eq_true rfl) (by decide) dX8_byRepeat_98 (fun x98_19 M98_19 h98_19 => ?_)
                    rw [h98_19.1, h98_19.2]
                    refine k_zeq C 133 dX8_byRepeat_101 (by decide) (fun c101_20 => ?_) (fun c101_20 => ?_)
                    ·
                      have nc101_20 : ¬ (mo_al (M a) s e k i j) := sk_b1.mp c101_20
                      refine k_eq rfl rfl (by rw [mo_bw (fun h => nc101_20 h.2)]) rfl J133
                    ·
                      have nc101_20 : mo_al (M a) s e k i j := Classical.byContradiction (fun h => c101_20 (sk_b1.mpr h))
                      refine k_iinc C 4 (nI ((mo_bj (M a) s e k i (mo_bo (M a) s e k i) j).1 + 1)) [1, 2, 3, 4, 0, 5, 6, 7] [(0, .ref (sk_ad O a)), (1, .int xs), (2, .int xe), (3, .int xk), (4, .int (nI ((mo_bj (M a) s e k i (mo_bo (M a) s e k i) j).1 + 1))), (5, .int ((mo_bj (M a) s e k i (mo_bo (M a) s e k i) j).2)), (6, .int (nI i)), (7, .int (nI j))] dX8_byRepeat_104 rfl (nI_add _ _) (by decide) rfl ?_
                      refine k_iload C 5 dX8_byRepeat_107 rfl ?_
                      refine k_zeq C 130 dX8_byRepeat_109 (by decide) (fun c109_21 => ?_) (fun c109_21 => ?_)
                      ·
                        refine k_iconst C (0) dX8_byRepeat_130 (by decide) ?_
                        refine k_istore C [1, 2, 3, 4, 5, 0, 6, 7] [(0, .ref (sk_ad O a)), (1, .int xs), (2, .int xe), (3, .int xk), (4, .int (nI ((mo_bj (M a) s e k i (mo_bo (M a) s e k i) j).1 + 1))), (5, .int (0)), (6, .int (nI i)), (7, .int (nI j))] dX8_byRepeat_131 (by decide) rfl ?_
                        refine k_eq rfl rfl (by rw [mo_bz ⟨Or.inr (by omega), nc101_20⟩, if_neg (show ¬ (¬ (mo_bj (M a) s e k i (mo_bo (M a) s e k i) j).2 = 0 ∧ M a (23 + 233 * s + 18 * i + 1) = 1) from fun h => h.1 c109_21)]) rfl J133
                      ·
                        refine k_aloadn C 0 dX8_byRepeat_112 rfl ?_
                        refine k_iloadn C 1 dX8_byRepeat_113 rfl ?_
                        refine k_iload C 6 dX8_byRepeat_114 rfl ?_
                        refine k_si C (as := [.int xs, .int (nI i)]) yvX8_elementAt vsX8_elementAt ml_X8_60 (m_X8_elementAt l C.2.2.2.1 M (s := s) (xs := xs) (hxs := hxs) (e := i) (xe := nI i) (hxe := rfl)) rfl rfl (Nat.le_of_ble_eq_true rfl) (by decide) dX8_byRepeat_116 (fun x116_22 M116_22 h116_22 => ?_)
                        rw [h116_22.1, h116_22.2]
                        refine k_iconst C (1) dX8_byRepeat_119 (by decide) ?_
                        refine k_iadd C dX8_byRepeat_120 ?_
                        refine k_ialdn C (23 + 233 * s + 18 * i + 1) ha (sk_nadd rfl (rfl : ((1) : Int32) = nI 1)) (by omega) dX8_byRepeat_121 ?_
                        refine k_iconst C (1) dX8_byRepeat_122 (by decide) ?_
                        refine k_cne C 130 dX8_byRepeat_123 (by decide) (fun c123_23 => ?_) (fun c123_23 => ?_)
                        ·
                          have nc123_23 : ¬ (mo_n (M a) s i = 1) := fun h => c123_23 ((sk_qI (a := mo_n (M a) s i) (b := 1) hpi (rfl : ((1) : Int32) = nI 1) (by omega) (by omega)).mpr h)
                          refine k_iconst C (0) dX8_byRepeat_130 (by decide) ?_
                          refine k_istore C [1, 2, 3, 4, 5, 0, 6, 7] [(0, .ref (sk_ad O a)), (1, .int xs), (2, .int xe), (3, .int xk), (4, .int (nI ((mo_bj (M a) s e k i (mo_bo (M a) s e k i) j).1 + 1))), (5, .int (0)), (6, .int (nI i)), (7, .int (nI j))] dX8_byRepeat_131 (by decide) rfl ?_
                          refine k_eq rfl rfl (by rw [mo_bz ⟨Or.inr (by omega), nc101_20⟩, if_neg (show ¬ (¬ (mo_bj (M a) s e k i (mo_bo (M a) s e k i) j).2 = 0 ∧ M a (23 + 233 * s + 18 * i + 1) = 1) from fun h => c123_23 h.2)]) rfl J133
                        ·
                          have nc123_23 : mo_n (M a) s i = 1 := (sk_qI (a := mo_n (M a) s i) (b := 1) hpi (rfl : ((1) : Int32) = nI 1) (by omega) (by omega)).mp c123_23
                          refine k_iconst C (1) dX8_byRepeat_126 (by decide) ?_
                          refine k_goto C 131 dX8_byRepeat_127 (by decide) ?_
                          refine k_istore C [1, 2, 3, 4, 5, 0, 6, 7] [(0, .ref (sk_ad O a)), (1, .int xs), (2, .int xe), (3, .int xk), (4, .int (nI ((mo_bj (M a) s e k i (mo_bo (M a) s e k i) j).1 + 1))), (5, .int (1)), (6, .int (nI i)), (7, .int (nI j))] dX8_byRepeat_131 (by decide) rfl ?_
                          refine k_eq rfl rfl (by rw [mo_bz ⟨Or.inr (by omega), nc101_20⟩, if_pos (show ¬ (mo_bj (M a) s e k i (mo_bo (M a) s e k i) j).2 = 0 ∧ M a (23 + 233 * s + 18 * i + 1) = 1 from ⟨c109_21, c123_23⟩)]) rfl J133
            exact L63 0 (Nat.zero_le _)
        exact L54 0 (Nat.zero_le _)
      refine k_cne C 48 dX8_byRepeat_41 (by decide) (fun c41_24 => ?_) (fun c41_24 => ?_)
      ·
        refine k_iconst C (0) dX8_byRepeat_48 (by decide) ?_
        exact k_eq rfl rfl rfl (by rw [if_neg c41_24]) J49
      ·
        refine k_iconst C (1) dX8_byRepeat_44 (by decide) ?_
        refine k_goto C 49 dX8_byRepeat_45 (by decide) ?_
        exact k_eq rfl rfl rfl (by rw [if_pos c41_24]) J49
    ·
      refine k_iconst C (0) dX8_byRepeat_26 (by decide) ?_
      exact ret _ _ _ _ dX8_byRepeat_27 rfl (by exact ⟨by rw [mo_br, if_pos (Or.inr (Int32.not_le.mp c23_4))], rfl⟩)

