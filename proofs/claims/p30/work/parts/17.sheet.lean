/-! SkateSheet: what its face leans on -/
def sk_mn (x y : Int32) : Int32 := if y < x then y else x
def sk_mx (x y : Int32) : Int32 := if x < y then y else x
def x_t3 (a b c d e : Int32) : Int32 := a + b + c + d + e - sk_mn (sk_mn (sk_mn a b) (sk_mn c d)) e - sk_mx (sk_mx (sk_mx a b) (sk_mx c d)) e
def x_kn (m : Int32) : Int32 := x_t3 (sk_rm m 11) (sk_rm (m / 11) 11) (sk_rm (m / 121) 11) (sk_rm (m / 1331) 11) (m / 14641) - 15
def x_cn (m : Int32) : Int32 := (x_t3 (sk_rm m 41) (sk_rm (m / 41) 41) (sk_rm (m / 1681) 41) (sk_rm (m / 68921) 41) (m / 2825761) * 25 + 1) / 3
def x_ll (M : sk_M) (k : Nat) : Nat → sk_M
  | 0 => M
  | s + 1 => sc_ra (x_ll M k s) (k + 738) (k + 1 + 3 + 10 * s) (k + 3)
theorem x_ll_f {M : sk_M} {k a : Nat} (h : a < k + 738 ∨ k + 747 ≤ a) (s : Nat) : x_ll M k s a = M a := by
  induction s with
  | zero => rfl
  | succ s ih =>
    show sc_ra _ _ _ _ a = _
    rw [sc_ra_f (by omega), ih]
def x_sw (M : sk_M) (k g i j : Nat) : sk_M := sc_ra (pg_te (pg_te M (k + 794) i g j) (k + 794) j g i) (k + 738) (k + 794) (k + 3)
def x_sm (M : sk_M) (k g i j : Nat) : sk_M := pg_te (pg_te (x_sw M k g i j) (k + 794) i g i) (k + 794) j g j
set_option maxHeartbeats 4000000 in
set_option maxRecDepth 100000 in
theorem m_X7_threeOf (l : Launch) {O : sk_O} (hO : sk_inj O) (M : sk_M) (a b c d e : Int32) : sk_Mi l yX7_threeOf (sk_w yX7_threeOf cX7_threeOf 7 (some .int)) ({ frames := 1, cells := 0, slots := 0, locals := 21 }) O [.int a, .int b, .int c, .int d, .int e] M (fun r M' => r = (x_t3 a b c d e) ∧ M' = M) := by
  refine sk_mi (by decide) ⟨rfl, rfl⟩ hO (Nat.le_of_ble_eq_true rfl) (fun X A Q C ret => ?_)
  show sk_W l X O A Q 7 0 0 M 0 [(0, .int a), (1, .int b), (2, .int c), (3, .int d), (4, .int e)] []
  refine k_iloadn C 0 dX7_threeOf_0 rfl ?_
  refine k_iloadn C 1 dX7_threeOf_1 rfl ?_
  refine k_min C mm_X7_400 sta_min ini_java_lang_Math cod_min ⟨by decide, Nat.le_of_ble_eq_true rfl, by decide, by decide⟩ dX7_threeOf_2 ?_
  refine k_top (sk_mn a b) rfl ?_
  refine k_iloadn C 2 dX7_threeOf_5 rfl ?_
  refine k_iloadn C 3 dX7_threeOf_6 rfl ?_
  refine k_min C mm_X7_400 sta_min ini_java_lang_Math cod_min ⟨by decide, Nat.le_of_ble_eq_true rfl, by decide, by decide⟩ dX7_threeOf_7 ?_
  refine k_top (sk_mn c d) rfl ?_
  refine k_min C mm_X7_400 sta_min ini_java_lang_Math cod_min ⟨by decide, Nat.le_of_ble_eq_true rfl, by decide, by decide⟩ dX7_threeOf_10 ?_
  refine k_top (sk_mn (sk_mn a b) (sk_mn c d)) rfl ?_
  refine k_iload C 4 dX7_threeOf_13 rfl ?_
  refine k_min C mm_X7_400 sta_min ini_java_lang_Math cod_min ⟨by decide, Nat.le_of_ble_eq_true rfl, by decide, by decide⟩ dX7_threeOf_15 ?_
  refine k_top (sk_mn (sk_mn (sk_mn a b) (sk_mn c d)) e) rfl ?_
  refine k_istore C [1, 2, 3, 4, 5, 0] [(0, .int a), (1, .int b), (2, .int c), (3, .int d), (4, .int e), (5, .int (sk_mn (sk_mn (sk_mn a b) (sk_mn c d)) e))] dX7_threeOf_18 (by decide) rfl ?_
  refine k_iloadn C 0 dX7_threeOf_20 rfl ?_
  refine k_iloadn C 1 dX7_threeOf_21 rfl ?_
  refine k_max C mm_X7_405 sta_max ini_java_lang_Math cod_max ⟨by decide, Nat.le_of_ble_eq_true rfl, by decide, by decide⟩ dX7_threeOf_22 ?_
  refine k_top (sk_mx a b) rfl ?_
  refine k_iloadn C 2 dX7_threeOf_25 rfl ?_
  refine k_iloadn C 3 dX7_threeOf_26 rfl ?_
  refine k_max C mm_X7_405 sta_max ini_java_lang_Math cod_max ⟨by decide, Nat.le_of_ble_eq_true rfl, by decide, by decide⟩ dX7_threeOf_27 ?_
  refine k_top (sk_mx c d) rfl ?_
  refine k_max C mm_X7_405 sta_max ini_java_lang_Math cod_max ⟨by decide, Nat.le_of_ble_eq_true rfl, by decide, by decide⟩ dX7_threeOf_30 ?_
  refine k_top (sk_mx (sk_mx a b) (sk_mx c d)) rfl ?_
  refine k_iload C 4 dX7_threeOf_33 rfl ?_
  refine k_max C mm_X7_405 sta_max ini_java_lang_Math cod_max ⟨by decide, Nat.le_of_ble_eq_true rfl, by decide, by decide⟩ dX7_threeOf_35 ?_
  refine k_top (sk_mx (sk_mx (sk_mx a b) (sk_mx c d)) e) rfl ?_
  refine k_istore C [1, 2, 3, 4, 5, 6, 0] [(0, .int a), (1, .int b), (2, .int c), (3, .int d), (4, .int e), (5, .int (sk_mn (sk_mn (sk_mn a b) (sk_mn c d)) e)), (6, .int (sk_mx (sk_mx (sk_mx a b) (sk_mx c d)) e))] dX7_threeOf_38 (by decide) rfl ?_
  refine k_iloadn C 0 dX7_threeOf_40 rfl ?_
  refine k_iloadn C 1 dX7_threeOf_41 rfl ?_
  refine k_iadd C dX7_threeOf_42 ?_
  refine k_iloadn C 2 dX7_threeOf_43 rfl ?_
  refine k_iadd C dX7_threeOf_44 ?_
  refine k_iloadn C 3 dX7_threeOf_45 rfl ?_
  refine k_iadd C dX7_threeOf_46 ?_
  refine k_iload C 4 dX7_threeOf_47 rfl ?_
  refine k_iadd C dX7_threeOf_49 ?_
  refine k_iload C 5 dX7_threeOf_50 rfl ?_
  refine k_isub C dX7_threeOf_52 ?_
  refine k_iload C 6 dX7_threeOf_53 rfl ?_
  refine k_isub C dX7_threeOf_55 ?_
  exact ret _ _ _ _ dX7_threeOf_56 rfl (by exact ⟨rfl, rfl⟩)

set_option maxHeartbeats 4000000 in
set_option maxRecDepth 100000 in
theorem m_X7_kernelOf (l : Launch) {O : sk_O} (hO : sk_inj O) (M : sk_M) (m : Int32) : sk_Mi l yX7_kernelOf (sk_w yX7_kernelOf cX7_kernelOf 1 (some .int)) ({ frames := 2, cells := 0, slots := 0, locals := 47 }) O [.int m] M (fun r M' => r = (x_kn m) ∧ M' = M) := by
  refine sk_mi (by decide) ⟨rfl, rfl⟩ hO (Nat.le_of_ble_eq_true rfl) (fun X A Q C ret => ?_)
  show sk_W l X O A Q 1 0 0 M 0 [(0, .int m)] []
  refine k_iloadn C 0 dX7_kernelOf_0 rfl ?_
  refine k_bipush C (11) dX7_kernelOf_1 (by decide) ?_
  refine k_irem C dX7_kernelOf_3 (by decide) ?_
  refine k_iloadn C 0 dX7_kernelOf_4 rfl ?_
  refine k_bipush C (11) dX7_kernelOf_5 (by decide) ?_
  refine k_idiv C dX7_kernelOf_7 (by decide) ?_
  refine k_bipush C (11) dX7_kernelOf_8 (by decide) ?_
  refine k_irem C dX7_kernelOf_10 (by decide) ?_
  refine k_iloadn C 0 dX7_kernelOf_11 rfl ?_
  refine k_bipush C (121) dX7_kernelOf_12 (by decide) ?_
  refine k_idiv C dX7_kernelOf_14 (by decide) ?_
  refine k_bipush C (11) dX7_kernelOf_15 (by decide) ?_
  refine k_irem C dX7_kernelOf_17 (by decide) ?_
  refine k_iloadn C 0 dX7_kernelOf_18 rfl ?_
  refine k_sipush C (1331) dX7_kernelOf_19 (by decide) ?_
  refine k_idiv C dX7_kernelOf_22 (by decide) ?_
  refine k_bipush C (11) dX7_kernelOf_23 (by decide) ?_
  refine k_irem C dX7_kernelOf_25 (by decide) ?_
  refine k_iloadn C 0 dX7_kernelOf_26 rfl ?_
  refine k_sipush C (14641) dX7_kernelOf_27 (by decide) ?_
  refine k_idiv C dX7_kernelOf_30 (by decide) ?_
  refine k_si C (as := [.int (m - m / (11) * (11)), .int ((m / (11)) - (m / (11)) / (11) * (11)), .int ((m / (121)) - (m / (121)) / (11) * (11)), .int ((m / (1331)) - (m / (1331)) / (11) * (11)), .int (m / (14641))]) yvX7_threeOf vsX7_threeOf ml_X7_394 (m_X7_threeOf l C.2.2.2.1 M (a := m - m / (11) * (11)) (b := (m / (11)) - (m / (11)) / (11) * (11)) (c := (m / (121)) - (m / (121)) / (11) * (11)) (d := (m / (1331)) - (m / (1331)) / (11) * (11)) (e := m / (14641))) rfl rfl (Nat.le_of_ble_eq_true rfl) (by decide) dX7_kernelOf_31 (fun x31_1 M31_1 h31_1 => ?_)
  rw [h31_1.1, h31_1.2]
  refine k_bipush C (15) dX7_kernelOf_34 (by decide) ?_
  refine k_isub C dX7_kernelOf_36 ?_
  exact ret _ _ _ _ dX7_kernelOf_37 rfl (by exact ⟨rfl, rfl⟩)

set_option maxHeartbeats 4000000 in
set_option maxRecDepth 100000 in
theorem m_X7_componentOf (l : Launch) {O : sk_O} (hO : sk_inj O) (M : sk_M) (m : Int32) : sk_Mi l yX7_componentOf (sk_w yX7_componentOf cX7_componentOf 2 (some .int)) ({ frames := 2, cells := 0, slots := 0, locals := 47 }) O [.int m] M (fun r M' => r = (x_cn m) ∧ M' = M) := by
  refine sk_mi (by decide) ⟨rfl, rfl⟩ hO (Nat.le_of_ble_eq_true rfl) (fun X A Q C ret => ?_)
  show sk_W l X O A Q 2 0 0 M 0 [(0, .int m)] []
  refine k_iloadn C 0 dX7_componentOf_0 rfl ?_
  refine k_bipush C (41) dX7_componentOf_1 (by decide) ?_
  refine k_irem C dX7_componentOf_3 (by decide) ?_
  refine k_iloadn C 0 dX7_componentOf_4 rfl ?_
  refine k_bipush C (41) dX7_componentOf_5 (by decide) ?_
  refine k_idiv C dX7_componentOf_7 (by decide) ?_
  refine k_bipush C (41) dX7_componentOf_8 (by decide) ?_
  refine k_irem C dX7_componentOf_10 (by decide) ?_
  refine k_iloadn C 0 dX7_componentOf_11 rfl ?_
  refine k_sipush C (1681) dX7_componentOf_12 (by decide) ?_
  refine k_idiv C dX7_componentOf_15 (by decide) ?_
  refine k_bipush C (41) dX7_componentOf_16 (by decide) ?_
  refine k_irem C dX7_componentOf_18 (by decide) ?_
  refine k_iloadn C 0 dX7_componentOf_19 rfl ?_
  refine k_ldcw C kc_X7_398 dX7_componentOf_20 ?_
  refine k_idiv C dX7_componentOf_23 (by decide) ?_
  refine k_bipush C (41) dX7_componentOf_24 (by decide) ?_
  refine k_irem C dX7_componentOf_26 (by decide) ?_
  refine k_iloadn C 0 dX7_componentOf_27 rfl ?_
  refine k_ldcw C kc_X7_399 dX7_componentOf_28 ?_
  refine k_idiv C dX7_componentOf_31 (by decide) ?_
  refine k_si C (as := [.int (m - m / (41) * (41)), .int ((m / (41)) - (m / (41)) / (41) * (41)), .int ((m / (1681)) - (m / (1681)) / (41) * (41)), .int ((m / (68921)) - (m / (68921)) / (41) * (41)), .int (m / (2825761))]) yvX7_threeOf vsX7_threeOf ml_X7_394 (m_X7_threeOf l C.2.2.2.1 M (a := m - m / (41) * (41)) (b := (m / (41)) - (m / (41)) / (41) * (41)) (c := (m / (1681)) - (m / (1681)) / (41) * (41)) (d := (m / (68921)) - (m / (68921)) / (41) * (41)) (e := m / (2825761))) rfl rfl (Nat.le_of_ble_eq_true rfl) (by decide) dX7_componentOf_32 (fun x32_1 M32_1 h32_1 => ?_)
  rw [h32_1.1, h32_1.2]
  refine k_istoren C [1, 0] [(0, .int m), (1, .int (x_t3 (m - m / (41) * (41)) ((m / (41)) - (m / (41)) / (41) * (41)) ((m / (1681)) - (m / (1681)) / (41) * (41)) ((m / (68921)) - (m / (68921)) / (41) * (41)) (m / (2825761))))] dX7_componentOf_35 (by decide) rfl ?_
  refine k_iloadn C 1 dX7_componentOf_36 rfl ?_
  refine k_bipush C (25) dX7_componentOf_37 (by decide) ?_
  refine k_imul C dX7_componentOf_39 ?_
  refine k_iconst C (1) dX7_componentOf_40 (by decide) ?_
  refine k_iadd C dX7_componentOf_41 ?_
  refine k_iconst C (3) dX7_componentOf_42 (by decide) ?_
  refine k_idiv C dX7_componentOf_43 (by decide) ?_
  exact ret _ _ _ _ dX7_componentOf_44 rfl (by exact ⟨rfl, rfl⟩)

set_option maxHeartbeats 4000000 in
set_option maxRecDepth 100000 in
theorem m_X7_lesserParts (l : Launch) {O : sk_O} (hO : sk_inj O) (M : sk_M) (k : Nat) (hk : sk_isX O k) (hw : st_wf M (k + 1)) : sk_Mi l yX7_lesserParts (sk_w yX7_lesserParts cX7_lesserParts 3 (some .int)) ({ frames := 4, cells := 0, slots := 0, locals := 108 }) O [.ref (sk_ad O k)] M (fun r M' => r = (sk_sum (fun s => x_ll M k (s + 1) (k + 738) 13) (st_n M (k + 1))) ∧ M' = (x_ll M k (st_n M (k + 1)))) := by
  refine sk_mi (by decide) ⟨rfl, rfl⟩ hO (Nat.le_of_ble_eq_true rfl) (fun X A Q C ret => ?_)
  show sk_W l X O A Q 3 0 0 M 0 [(0, .ref (sk_ad O k))] []
  obtain ⟨m, hm4, hm, hmj⟩ := hw
  refine k_iconst C (0) dX7_lesserParts_0 (by decide) ?_
  refine k_istoren C [1, 0] [(0, .ref (sk_ad O k)), (1, .int (0))] dX7_lesserParts_1 (by decide) rfl ?_
  refine k_iconst C (0) dX7_lesserParts_2 (by decide) ?_
  refine k_istoren C [1, 2, 0] [(0, .ref (sk_ad O k)), (1, .int (0)), (2, .int (0))] dX7_lesserParts_3 (by decide) rfl ?_
  have L4 : ∀ i, i ≤ m → sk_W l X O A Q 3 0 0 (x_ll M k i) 4 [(0, .ref (sk_ad O k)), (1, .int (sk_sum (fun s => x_ll M k (s + 1) (k + 738) 13) i)), (2, .int (nI i))] [] := by
    refine sk_loop m (fun i hi4 ih4 => ?_)
    refine k_iloadn C 2 dX7_lesserParts_4 rfl ?_
    refine k_aloadn C 0 dX7_lesserParts_5 rfl ?_
    refine k_getr C (j := 0) (k' := k + 1) kcl_X7 fl_X7_10 hk.1 (by decide) rfl dX7_lesserParts_6 ?_
    refine k_geti C (j := 2) kcl_X5 fl_X7_99 hk.2.1.1 (by decide) rfl dX7_lesserParts_9 ?_
    refine k_cge C 54 dX7_lesserParts_12 (by decide) (fun c12_1 => ?_) (fun c12_1 => ?_)
    ·
      have nc12_1 : m ≤ i := (sk_eI (a := m) (b := i) (by rw [x_ll_f (by omega), hm]) rfl (by omega) (by omega)).mp c12_1
      refine k_iloadn C 1 dX7_lesserParts_54 rfl ?_
      exact ret _ _ _ _ dX7_lesserParts_55 rfl (by obtain rfl : i = m := (by omega); exact ⟨by rw [st_n, hm, nI_clamp (by omega)], by rw [st_n, hm, nI_clamp (by omega)]⟩)
    ·
      have nc12_1 : ¬ (m ≤ i) := fun h => c12_1 ((sk_eI (a := m) (b := i) (by rw [x_ll_f (by omega), hm]) rfl (by omega) (by omega)).mpr h)
      refine k_aloadn C 0 dX7_lesserParts_15 rfl ?_
      refine k_getr C (j := 5) (k' := k + 738) kcl_X7 fl_X7_41 hk.1 (by decide) rfl dX7_lesserParts_16 ?_
      refine k_aloadn C 0 dX7_lesserParts_19 rfl ?_
      refine k_getr C (j := 0) (k' := k + 1) kcl_X7 fl_X7_10 hk.1 (by decide) rfl dX7_lesserParts_20 ?_
      refine k_getr C (j := 0) (k' := k + 2) kcl_X5 fl_X7_133 hk.2.1.1 (by decide) rfl dX7_lesserParts_23 ?_
      refine k_iloadn C 2 dX7_lesserParts_26 rfl ?_
      refine k_aald C (k' := k + 1 + 3 + 10 * i) i ((hk.2.1.2.1).1) (by decide) rfl (by omega) rfl dX7_lesserParts_27 ?_
      refine k_aloadn C 0 dX7_lesserParts_28 rfl ?_
      refine k_getr C (j := 0) (k' := k + 1) kcl_X7 fl_X7_10 hk.1 (by decide) rfl dX7_lesserParts_29 ?_
      refine k_getr C (j := 1) (k' := k + 3) kcl_X5 fl_X7_137 hk.2.1.1 (by decide) rfl dX7_lesserParts_32 ?_
      refine k_vv C (as := [.ref (sk_ad O (k + 1 + 3 + 10 * i)), .ref (sk_ad O (k + 3))]) yvX3_rate viX3_rate ml_X7_141 (m_X3_rate l C.2.2.2.1 (x_ll M k i) (k := k + 738) (g := k + 1 + 3 + 10 * i) (u := k + 3) (hk := hk.2.2.2.2.2.2.1) (hg := (hk.2.1.2.1).2 i (by omega)) (hu := hk.2.1.2.2) (hw := (pg_wf_c (x_ll_f (by omega) _) (x_ll_f (by omega) _) (hmj i (by omega)))) (hap := (by omega)) (hap2 := (by omega))) hk.2.2.2.2.2.2.1.1 rfl rfl rfl (Nat.le_of_ble_eq_true rfl) (by decide) dX7_lesserParts_35 (fun M35_2 h35_2 => ?_)
      rw [h35_2]
      refine k_iloadn C 1 dX7_lesserParts_38 rfl ?_
      refine k_aloadn C 0 dX7_lesserParts_39 rfl ?_
      refine k_getr C (j := 5) (k' := k + 738) kcl_X7 fl_X7_41 hk.1 (by decide) rfl dX7_lesserParts_40 ?_
      refine k_geti C (j := 13) kcl_X3 fl_X7_371 hk.2.2.2.2.2.2.1.1 (by decide) rfl dX7_lesserParts_43 ?_
      refine k_iadd C dX7_lesserParts_46 ?_
      refine k_istoren C [1, 0, 2] [(0, .ref (sk_ad O k)), (1, .int ((sk_sum (fun s => x_ll M k (s + 1) (k + 738) 13) i) + ((sc_ra (x_ll M k i) (k + 738) (k + 1 + 3 + 10 * i) (k + 3)) (k + 738) 13))), (2, .int (nI i))] dX7_lesserParts_47 (by decide) rfl ?_
      refine k_iinc C 2 (nI (i + 1)) [1, 2, 0] [(0, .ref (sk_ad O k)), (1, .int ((sk_sum (fun s => x_ll M k (s + 1) (k + 738) 13) i) + ((sc_ra (x_ll M k i) (k + 738) (k + 1 + 3 + 10 * i) (k + 3)) (k + 738) 13))), (2, .int (nI (i + 1)))] dX7_lesserParts_48 rfl (nI_add _ _) (by decide) rfl ?_
      refine k_goto C 4 dX7_lesserParts_51 (by decide) ?_
      exact ih4 (by omega)
  exact L4 0 (Nat.zero_le _)

set_option maxHeartbeats 4000000 in
set_option maxRecDepth 100000 in
theorem m_X7_totalOfSwap (l : Launch) {O : sk_O} (hO : sk_inj O) (M : sk_M) (k g i j : Nat) (hk : sk_isX O k) (hg : sk_isP O g) (hi : i < 12) (hj : j < 12) (hw : pg_wf (pg_te (pg_te M (k + 794) i g j) (k + 794) j g i) (k + 794)) : sk_Mi l yX7_totalOfSwap (sk_w yX7_totalOfSwap cX7_totalOfSwap 4 (some .int)) ({ frames := 4, cells := 0, slots := 0, locals := 108 }) O [.ref (sk_ad O k), .ref (sk_ad O g), .int (nI i), .int (nI j)] M (fun r M' => r = (x_sm M k g i j (k + 738) 14 + x_sm M k g i j (k + 738) 15 - x_sm M k g i j (k + 738) 16) ∧ M' = (x_sm M k g i j)) := by
  refine sk_mi (by decide) ⟨rfl, rfl⟩ hO (Nat.le_of_ble_eq_true rfl) (fun X A Q C ret => ?_)
  show sk_W l X O A Q 4 0 0 M 0 [(0, .ref (sk_ad O k)), (1, .ref (sk_ad O g)), (2, .int (nI i)), (3, .int (nI j))] []
  refine k_aloadn C 0 dX7_totalOfSwap_0 rfl ?_
  refine k_getr C (j := 9) (k' := k + 794) kcl_X7 fl_X7_65 hk.1 (by decide) rfl dX7_totalOfSwap_1 ?_
  refine k_iloadn C 2 dX7_totalOfSwap_4 rfl ?_
  refine k_aloadn C 1 dX7_totalOfSwap_5 rfl ?_
  refine k_iloadn C 3 dX7_totalOfSwap_6 rfl ?_
  refine k_vv C (as := [.int (nI i), .ref (sk_ad O g), .int (nI j)]) yvX2_takeElement viX2_takeElement ml_X7_301 (m_X2_takeElement l C.2.2.2.1 M (k := k + 794) (e := i) (f := g) (i := j) (hk := hk.2.2.2.2.2.2.2.2.2.2) (hf := hg) (he := (by omega)) (hi := (by omega))) hk.2.2.2.2.2.2.2.2.2.2.1 rfl rfl rfl (Nat.le_of_ble_eq_true rfl) (by decide) dX7_totalOfSwap_7 (fun M7_1 h7_1 => ?_)
  rw [h7_1]
  refine k_aloadn C 0 dX7_totalOfSwap_10 rfl ?_
  refine k_getr C (j := 9) (k' := k + 794) kcl_X7 fl_X7_65 hk.1 (by decide) rfl dX7_totalOfSwap_11 ?_
  refine k_iloadn C 3 dX7_totalOfSwap_14 rfl ?_
  refine k_aloadn C 1 dX7_totalOfSwap_15 rfl ?_
  refine k_iloadn C 2 dX7_totalOfSwap_16 rfl ?_
  refine k_vv C (as := [.int (nI j), .ref (sk_ad O g), .int (nI i)]) yvX2_takeElement viX2_takeElement ml_X7_301 (m_X2_takeElement l C.2.2.2.1 (pg_te M (k + 794) i g j) (k := k + 794) (e := j) (f := g) (i := i) (hk := hk.2.2.2.2.2.2.2.2.2.2) (hf := hg) (he := (by omega)) (hi := (by omega))) hk.2.2.2.2.2.2.2.2.2.2.1 rfl rfl rfl (Nat.le_of_ble_eq_true rfl) (by decide) dX7_totalOfSwap_17 (fun M17_2 h17_2 => ?_)
  rw [h17_2]
  refine k_aloadn C 0 dX7_totalOfSwap_20 rfl ?_
  refine k_getr C (j := 5) (k' := k + 738) kcl_X7 fl_X7_41 hk.1 (by decide) rfl dX7_totalOfSwap_21 ?_
  refine k_aloadn C 0 dX7_totalOfSwap_24 rfl ?_
  refine k_getr C (j := 9) (k' := k + 794) kcl_X7 fl_X7_65 hk.1 (by decide) rfl dX7_totalOfSwap_25 ?_
  refine k_aloadn C 0 dX7_totalOfSwap_28 rfl ?_
  refine k_getr C (j := 0) (k' := k + 1) kcl_X7 fl_X7_10 hk.1 (by decide) rfl dX7_totalOfSwap_29 ?_
  refine k_getr C (j := 1) (k' := k + 3) kcl_X5 fl_X7_137 hk.2.1.1 (by decide) rfl dX7_totalOfSwap_32 ?_
  refine k_vv C (as := [.ref (sk_ad O (k + 794)), .ref (sk_ad O (k + 3))]) yvX3_rate viX3_rate ml_X7_141 (m_X3_rate l C.2.2.2.1 (pg_te (pg_te M (k + 794) i g j) (k + 794) j g i) (k := k + 738) (g := k + 794) (u := k + 3) (hk := hk.2.2.2.2.2.2.1) (hg := hk.2.2.2.2.2.2.2.2.2.2) (hu := hk.2.1.2.2) (hw := hw) (hap := (by omega)) (hap2 := (by omega))) hk.2.2.2.2.2.2.1.1 rfl rfl rfl (Nat.le_of_ble_eq_true rfl) (by decide) dX7_totalOfSwap_35 (fun M35_3 h35_3 => ?_)
  rw [h35_3]
  refine k_aloadn C 0 dX7_totalOfSwap_38 rfl ?_
  refine k_getr C (j := 9) (k' := k + 794) kcl_X7 fl_X7_65 hk.1 (by decide) rfl dX7_totalOfSwap_39 ?_
  refine k_iloadn C 2 dX7_totalOfSwap_42 rfl ?_
  refine k_aloadn C 1 dX7_totalOfSwap_43 rfl ?_
  refine k_iloadn C 2 dX7_totalOfSwap_44 rfl ?_
  refine k_vv C (as := [.int (nI i), .ref (sk_ad O g), .int (nI i)]) yvX2_takeElement viX2_takeElement ml_X7_301 (m_X2_takeElement l C.2.2.2.1 (sc_ra (pg_te (pg_te M (k + 794) i g j) (k + 794) j g i) (k + 738) (k + 794) (k + 3)) (k := k + 794) (e := i) (f := g) (i := i) (hk := hk.2.2.2.2.2.2.2.2.2.2) (hf := hg) (he := (by omega)) (hi := (by omega))) hk.2.2.2.2.2.2.2.2.2.2.1 rfl rfl rfl (Nat.le_of_ble_eq_true rfl) (by decide) dX7_totalOfSwap_45 (fun M45_4 h45_4 => ?_)
  rw [h45_4]
  refine k_aloadn C 0 dX7_totalOfSwap_48 rfl ?_
  refine k_getr C (j := 9) (k' := k + 794) kcl_X7 fl_X7_65 hk.1 (by decide) rfl dX7_totalOfSwap_49 ?_
  refine k_iloadn C 3 dX7_totalOfSwap_52 rfl ?_
  refine k_aloadn C 1 dX7_totalOfSwap_53 rfl ?_
  refine k_iloadn C 3 dX7_totalOfSwap_54 rfl ?_
  refine k_vv C (as := [.int (nI j), .ref (sk_ad O g), .int (nI j)]) yvX2_takeElement viX2_takeElement ml_X7_301 (m_X2_takeElement l C.2.2.2.1 (pg_te (sc_ra (pg_te (pg_te M (k + 794) i g j) (k + 794) j g i) (k + 738) (k + 794) (k + 3)) (k + 794) i g i) (k := k + 794) (e := j) (f := g) (i := j) (hk := hk.2.2.2.2.2.2.2.2.2.2) (hf := hg) (he := (by omega)) (hi := (by omega))) hk.2.2.2.2.2.2.2.2.2.2.1 rfl rfl rfl (Nat.le_of_ble_eq_true rfl) (by decide) dX7_totalOfSwap_55 (fun M55_5 h55_5 => ?_)
  rw [h55_5]
  refine k_aloadn C 0 dX7_totalOfSwap_58 rfl ?_
  refine k_getr C (j := 5) (k' := k + 738) kcl_X7 fl_X7_41 hk.1 (by decide) rfl dX7_totalOfSwap_59 ?_
  refine k_vi C (as := []) yvX3_total viX3_total ml_X7_157 (m_X3_total l C.2.2.2.1 (pg_te (pg_te (sc_ra (pg_te (pg_te M (k + 794) i g j) (k + 794) j g i) (k + 738) (k + 794) (k + 3)) (k + 794) i g i) (k + 794) j g j) (k := k + 738) (hk := hk.2.2.2.2.2.2.1)) hk.2.2.2.2.2.2.1.1 rfl rfl rfl (Nat.le_of_ble_eq_true rfl) (by decide) dX7_totalOfSwap_62 (fun x62_6 M62_6 h62_6 => ?_)
  rw [h62_6.1, h62_6.2]
  exact ret _ _ _ _ dX7_totalOfSwap_65 rfl (by exact ⟨rfl, rfl⟩)

abbrev x_s1 (r : Int32) : Int32 := sk_rm (r / 8) 4
abbrev x_e1 (r : Int32) : Int32 := sk_rm (r / 32) 12
def x_tt (M : sk_M) (t : Nat) (r : Int32) : sk_M :=
  if sk_rm r 8 = 3 then (if st_hs M t (x_s1 r) ∧ ¬ sk_rm (r / 32) 3 < 0 ∧ ¬ 3 ≤ sk_rm (r / 32) 3 then sk_ms M (st_pg t (x_s1 r) + 9) (sk_rm (r / 32) 3).toNatClampNeg (x_cn (sk_rm (r / 128) 115856201)) else M)
  else if sk_rm r 8 = 4 ∨ sk_rm r 8 = 5 then (if st_cc M t (x_s1 r) (x_e1 r) (sk_rm (r / 512) 3) (sk_rm (r / 2048) 4) then sk_ms M (st_pg t (x_s1 r) + 8) (3 * (x_e1 r).toNatClampNeg + (sk_rm (r / 512) 3).toNatClampNeg) (sk_rm (r / 2048) 4) else M)
  else if sk_rm r 8 = 6 then (if st_he M t (x_s1 r) (x_e1 r) then sk_ms M (st_pg t (x_s1 r) + 4) (x_e1 r).toNatClampNeg (if sk_rm (r / 512) 2 = 0 then 1 else 0) else M)
  else if sk_rm r 8 = 7 then (if st_hs M t (x_s1 r) then sk_ms M (st_pg t (x_s1 r)) 10 (sk_rm (r / 32) 10) else M)
  else (if st_he M t (x_s1 r) (x_e1 r) then sk_ms M (st_pg t (x_s1 r) + 3) (x_e1 r).toNatClampNeg (x_kn (sk_rm (r / 512) 161051)) else M)
set_option maxHeartbeats 4000000 in
set_option maxRecDepth 100000 in
theorem m_X7_takeTurn (l : Launch) {O : sk_O} (hO : sk_inj O) (M : sk_M) (k : Nat) (r : Int32) (hk : sk_isX O k) (hw : st_wf M (k + 751)) : sk_Mv l yX7_takeTurn (sk_w yX7_takeTurn cX7_takeTurn 4 none) ({ frames := 4, cells := 0, slots := 0, locals := 90 }) O [.ref (sk_ad O k), .int r] M (fun M' => M' = (x_tt M (k + 751) r)) := by
  refine sk_mv (by decide) ⟨rfl, rfl⟩ hO (Nat.le_of_ble_eq_true rfl) (fun X A Q C ret => ?_)
  show sk_W l X O A Q 4 0 0 M 0 [(0, .ref (sk_ad O k)), (1, .int r)] []
  refine k_iloadn C 1 dX7_takeTurn_0 rfl ?_
  refine k_bipush C (8) dX7_takeTurn_1 (by decide) ?_
  refine k_idiv C dX7_takeTurn_3 (by decide) ?_
  refine k_iconst C (4) dX7_takeTurn_4 (by decide) ?_
  refine k_irem C dX7_takeTurn_5 (by decide) ?_
  refine k_istoren C [1, 2, 0] [(0, .ref (sk_ad O k)), (1, .int r), (2, .int ((r / (8)) - (r / (8)) / (4) * (4)))] dX7_takeTurn_6 (by decide) rfl ?_
  refine k_iloadn C 1 dX7_takeTurn_7 rfl ?_
  refine k_bipush C (32) dX7_takeTurn_8 (by decide) ?_
  refine k_idiv C dX7_takeTurn_10 (by decide) ?_
  refine k_bipush C (12) dX7_takeTurn_11 (by decide) ?_
  refine k_irem C dX7_takeTurn_13 (by decide) ?_
  refine k_istoren C [1, 2, 3, 0] [(0, .ref (sk_ad O k)), (1, .int r), (2, .int ((r / (8)) - (r / (8)) / (4) * (4))), (3, .int ((r / (32)) - (r / (32)) / (12) * (12)))] dX7_takeTurn_14 (by decide) rfl ?_
  refine k_iloadn C 1 dX7_takeTurn_15 rfl ?_
  refine k_bipush C (8) dX7_takeTurn_16 (by decide) ?_
  refine k_irem C dX7_takeTurn_18 (by decide) ?_
  by_cases c19_1_3 : r - r / (8) * (8) = (3 : Int32)
  ·
    refine k_top (3 : Int32) c19_1_3 ?_
    refine k_tin C 52 (33) dX7_takeTurn_19 (by decide) (by decide) ?_
    refine k_aloadn C 0 dX7_takeTurn_52 rfl ?_
    refine k_getr C (j := 8) (k' := k + 751) kcl_X7 fl_X7_59 hk.1 (by decide) rfl dX7_takeTurn_53 ?_
    refine k_iloadn C 2 dX7_takeTurn_56 rfl ?_
    refine k_iloadn C 1 dX7_takeTurn_57 rfl ?_
    refine k_bipush C (32) dX7_takeTurn_58 (by decide) ?_
    refine k_idiv C dX7_takeTurn_60 (by decide) ?_
    refine k_iconst C (3) dX7_takeTurn_61 (by decide) ?_
    refine k_irem C dX7_takeTurn_62 (by decide) ?_
    refine k_iloadn C 1 dX7_takeTurn_63 rfl ?_
    refine k_sipush C (128) dX7_takeTurn_64 (by decide) ?_
    refine k_idiv C dX7_takeTurn_67 (by decide) ?_
    refine k_ldcw C kc_X7_392 dX7_takeTurn_68 ?_
    refine k_irem C dX7_takeTurn_71 (by decide) ?_
    refine k_si C (as := [.int ((r / (128)) - (r / (128)) / (115856201) * (115856201))]) yvX7_componentOf vsX7_componentOf ml_X7_251 (m_X7_componentOf l C.2.2.2.1 M (m := (r / (128)) - (r / (128)) / (115856201) * (115856201))) rfl rfl (Nat.le_of_ble_eq_true rfl) (by decide) dX7_takeTurn_72 (fun x72_2 M72_2 h72_2 => ?_)
    rw [h72_2.1, h72_2.2]
    refine k_vv C (as := [.int ((r / (8)) - (r / (8)) / (4) * (4)), .int ((r / (32)) - (r / (32)) / (3) * (3)), .int (x_cn ((r / (128)) - (r / (128)) / (115856201) * (115856201)))]) yvX5_putComponent viX5_putComponent ml_X7_254 (m_X5_putComponent l C.2.2.2.1 M (k := k + 751) (hk := hk.2.2.2.2.2.2.2.2.2.1) (hw := hw) (s := (r / (8)) - (r / (8)) / (4) * (4)) (c := (r / (32)) - (r / (32)) / (3) * (3)) (v := x_cn ((r / (128)) - (r / (128)) / (115856201) * (115856201)))) hk.2.2.2.2.2.2.2.2.2.1.1 rfl rfl rfl (Nat.le_of_ble_eq_true rfl) (by decide) dX7_takeTurn_75 (fun M75_3 h75_3 => ?_)
    rw [h75_3]
    refine k_goto C 176 dX7_takeTurn_78 (by decide) ?_
    exact ret _ _ _ dX7_takeTurn_176 (by rw [x_tt, if_pos (show sk_rm r 8 = 3 from c19_1_3)])
  by_cases c19_1_4 : r - r / (8) * (8) = (4 : Int32)
  ·
    refine k_top (4 : Int32) c19_1_4 ?_
    refine k_tin C 81 (62) dX7_takeTurn_19 (by decide) (by decide) ?_
    refine k_aloadn C 0 dX7_takeTurn_81 rfl ?_
    refine k_getr C (j := 8) (k' := k + 751) kcl_X7 fl_X7_59 hk.1 (by decide) rfl dX7_takeTurn_82 ?_
    refine k_iloadn C 2 dX7_takeTurn_85 rfl ?_
    refine k_iloadn C 3 dX7_takeTurn_86 rfl ?_
    refine k_iloadn C 1 dX7_takeTurn_87 rfl ?_
    refine k_sipush C (512) dX7_takeTurn_88 (by decide) ?_
    refine k_idiv C dX7_takeTurn_91 (by decide) ?_
    refine k_iconst C (3) dX7_takeTurn_92 (by decide) ?_
    refine k_irem C dX7_takeTurn_93 (by decide) ?_
    refine k_iloadn C 1 dX7_takeTurn_94 rfl ?_
    refine k_sipush C (2048) dX7_takeTurn_95 (by decide) ?_
    refine k_idiv C dX7_takeTurn_98 (by decide) ?_
    refine k_iconst C (4) dX7_takeTurn_99 (by decide) ?_
    refine k_irem C dX7_takeTurn_100 (by decide) ?_
    refine k_vi C (as := [.int ((r / (8)) - (r / (8)) / (4) * (4)), .int ((r / (32)) - (r / (32)) / (12) * (12)), .int ((r / (512)) - (r / (512)) / (3) * (3)), .int ((r / (2048)) - (r / (2048)) / (4) * (4))]) yvX5_putCall viX5_putCall ml_X7_261 (m_X5_putCall l C.2.2.2.1 M (k := k + 751) (hk := hk.2.2.2.2.2.2.2.2.2.1) (hw := hw) (s := (r / (8)) - (r / (8)) / (4) * (4)) (e := (r / (32)) - (r / (32)) / (12) * (12)) (p := (r / (512)) - (r / (512)) / (3) * (3)) (v := (r / (2048)) - (r / (2048)) / (4) * (4))) hk.2.2.2.2.2.2.2.2.2.1.1 rfl rfl rfl (Nat.le_of_ble_eq_true rfl) (by decide) dX7_takeTurn_101 (fun x101_4 M101_4 h101_4 => ?_)
    rw [h101_4.1, h101_4.2]
    refine k_pop C dX7_takeTurn_104 rfl ?_
    refine k_goto C 176 dX7_takeTurn_105 (by decide) ?_
    exact ret _ _ _ dX7_takeTurn_176 (by rw [x_tt, if_neg (show ¬ (sk_rm r 8 = 3) from by rw [show sk_rm r 8 = 4 from c19_1_4]; decide), if_pos (show sk_rm r 8 = 4 ∨ sk_rm r 8 = 5 from Or.inl c19_1_4)])
  by_cases c19_1_5 : r - r / (8) * (8) = (5 : Int32)
  ·
    refine k_top (5 : Int32) c19_1_5 ?_
    refine k_tin C 81 (62) dX7_takeTurn_19 (by decide) (by decide) ?_
    refine k_aloadn C 0 dX7_takeTurn_81 rfl ?_
    refine k_getr C (j := 8) (k' := k + 751) kcl_X7 fl_X7_59 hk.1 (by decide) rfl dX7_takeTurn_82 ?_
    refine k_iloadn C 2 dX7_takeTurn_85 rfl ?_
    refine k_iloadn C 3 dX7_takeTurn_86 rfl ?_
    refine k_iloadn C 1 dX7_takeTurn_87 rfl ?_
    refine k_sipush C (512) dX7_takeTurn_88 (by decide) ?_
    refine k_idiv C dX7_takeTurn_91 (by decide) ?_
    refine k_iconst C (3) dX7_takeTurn_92 (by decide) ?_
    refine k_irem C dX7_takeTurn_93 (by decide) ?_
    refine k_iloadn C 1 dX7_takeTurn_94 rfl ?_
    refine k_sipush C (2048) dX7_takeTurn_95 (by decide) ?_
    refine k_idiv C dX7_takeTurn_98 (by decide) ?_
    refine k_iconst C (4) dX7_takeTurn_99 (by decide) ?_
    refine k_irem C dX7_takeTurn_100 (by decide) ?_
    refine k_vi C (as := [.int ((r / (8)) - (r / (8)) / (4) * (4)), .int ((r / (32)) - (r / (32)) / (12) * (12)), .int ((r / (512)) - (r / (512)) / (3) * (3)), .int ((r / (2048)) - (r / (2048)) / (4) * (4))]) yvX5_putCall viX5_putCall ml_X7_261 (m_X5_putCall l C.2.2.2.1 M (k := k + 751) (hk := hk.2.2.2.2.2.2.2.2.2.1) (hw := hw) (s := (r / (8)) - (r / (8)) / (4) * (4)) (e := (r / (32)) - (r / (32)) / (12) * (12)) (p := (r / (512)) - (r / (512)) / (3) * (3)) (v := (r / (2048)) - (r / (2048)) / (4) * (4))) hk.2.2.2.2.2.2.2.2.2.1.1 rfl rfl rfl (Nat.le_of_ble_eq_true rfl) (by decide) dX7_takeTurn_101 (fun x101_5 M101_5 h101_5 => ?_)
    rw [h101_5.1, h101_5.2]
    refine k_pop C dX7_takeTurn_104 rfl ?_
    refine k_goto C 176 dX7_takeTurn_105 (by decide) ?_
    exact ret _ _ _ dX7_takeTurn_176 (by rw [x_tt, if_neg (show ¬ (sk_rm r 8 = 3) from by rw [show sk_rm r 8 = 5 from c19_1_5]; decide), if_pos (show sk_rm r 8 = 4 ∨ sk_rm r 8 = 5 from Or.inr c19_1_5)])
  by_cases c19_1_6 : r - r / (8) * (8) = (6 : Int32)
  ·
    refine k_top (6 : Int32) c19_1_6 ?_
    refine k_tin C 108 (89) dX7_takeTurn_19 (by decide) (by decide) ?_
    refine k_aloadn C 0 dX7_takeTurn_108 rfl ?_
    refine k_getr C (j := 8) (k' := k + 751) kcl_X7 fl_X7_59 hk.1 (by decide) rfl dX7_takeTurn_109 ?_
    refine k_iloadn C 2 dX7_takeTurn_112 rfl ?_
    refine k_iloadn C 3 dX7_takeTurn_113 rfl ?_
    refine k_iloadn C 1 dX7_takeTurn_114 rfl ?_
    refine k_sipush C (512) dX7_takeTurn_115 (by decide) ?_
    refine k_idiv C dX7_takeTurn_118 (by decide) ?_
    refine k_iconst C (2) dX7_takeTurn_119 (by decide) ?_
    refine k_irem C dX7_takeTurn_120 (by decide) ?_
    have J129 : sk_W l X O A Q 4 0 0 M 129 [(0, .ref (sk_ad O k)), (1, .int r), (2, .int ((r / (8)) - (r / (8)) / (4) * (4))), (3, .int ((r / (32)) - (r / (32)) / (12) * (12)))] [.int (if sk_rm (r / 512) 2 = 0 then 1 else 0), .int ((r / (32)) - (r / (32)) / (12) * (12)), .int ((r / (8)) - (r / (8)) / (4) * (4)), .ref (sk_ad O (k + 751))] := by
      refine k_vi C (as := [.int ((r / (8)) - (r / (8)) / (4) * (4)), .int ((r / (32)) - (r / (32)) / (12) * (12)), .int (if sk_rm (r / 512) 2 = 0 then 1 else 0)]) yvX5_putFall viX5_putFall ml_X7_268 (m_X5_putFall l C.2.2.2.1 M (k := k + 751) (hk := hk.2.2.2.2.2.2.2.2.2.1) (hw := hw) (s := (r / (8)) - (r / (8)) / (4) * (4)) (e := (r / (32)) - (r / (32)) / (12) * (12)) (v := if sk_rm (r / 512) 2 = 0 then 1 else 0)) hk.2.2.2.2.2.2.2.2.2.1.1 rfl rfl rfl (Nat.le_of_ble_eq_true rfl) (by decide) dX7_takeTurn_129 (fun x129_6 M129_6 h129_6 => ?_)
      rw [h129_6.1, h129_6.2]
      refine k_pop C dX7_takeTurn_132 rfl ?_
      refine k_goto C 176 dX7_takeTurn_133 (by decide) ?_
      exact ret _ _ _ dX7_takeTurn_176 (by rw [x_tt, if_neg (show ¬ (sk_rm r 8 = 3) from by rw [show sk_rm r 8 = 6 from c19_1_6]; decide), if_neg (show ¬ (sk_rm r 8 = 4 ∨ sk_rm r 8 = 5) from by rw [show sk_rm r 8 = 6 from c19_1_6]; decide), if_pos (show sk_rm r 8 = 6 from c19_1_6)])
    refine k_zne C 128 dX7_takeTurn_121 (by decide) (fun c121_7 => ?_) (fun c121_7 => ?_)
    ·
      refine k_iconst C (0) dX7_takeTurn_128 (by decide) ?_
      exact k_eq rfl rfl rfl (by rw [if_neg c121_7]) J129
    ·
      refine k_iconst C (1) dX7_takeTurn_124 (by decide) ?_
      refine k_goto C 129 dX7_takeTurn_125 (by decide) ?_
      exact k_eq rfl rfl rfl (by rw [if_pos c121_7]) J129
  by_cases c19_1_7 : r - r / (8) * (8) = (7 : Int32)
  ·
    refine k_top (7 : Int32) c19_1_7 ?_
    refine k_tin C 136 (117) dX7_takeTurn_19 (by decide) (by decide) ?_
    refine k_aloadn C 0 dX7_takeTurn_136 rfl ?_
    refine k_getr C (j := 8) (k' := k + 751) kcl_X7 fl_X7_59 hk.1 (by decide) rfl dX7_takeTurn_137 ?_
    refine k_iloadn C 2 dX7_takeTurn_140 rfl ?_
    refine k_iloadn C 1 dX7_takeTurn_141 rfl ?_
    refine k_bipush C (32) dX7_takeTurn_142 (by decide) ?_
    refine k_idiv C dX7_takeTurn_144 (by decide) ?_
    refine k_bipush C (10) dX7_takeTurn_145 (by decide) ?_
    refine k_irem C dX7_takeTurn_147 (by decide) ?_
    refine k_vi C (as := [.int ((r / (8)) - (r / (8)) / (4) * (4)), .int ((r / (32)) - (r / (32)) / (10) * (10))]) yvX5_putPoints viX5_putPoints ml_X7_276 (m_X5_putPoints l C.2.2.2.1 M (k := k + 751) (hk := hk.2.2.2.2.2.2.2.2.2.1) (hw := hw) (s := (r / (8)) - (r / (8)) / (4) * (4)) (v := (r / (32)) - (r / (32)) / (10) * (10))) hk.2.2.2.2.2.2.2.2.2.1.1 rfl rfl rfl (Nat.le_of_ble_eq_true rfl) (by decide) dX7_takeTurn_148 (fun x148_8 M148_8 h148_8 => ?_)
    rw [h148_8.1, h148_8.2]
    refine k_pop C dX7_takeTurn_151 rfl ?_
    refine k_goto C 176 dX7_takeTurn_152 (by decide) ?_
    exact ret _ _ _ dX7_takeTurn_176 (by rw [x_tt, if_neg (show ¬ (sk_rm r 8 = 3) from by rw [show sk_rm r 8 = 7 from c19_1_7]; decide), if_neg (show ¬ (sk_rm r 8 = 4 ∨ sk_rm r 8 = 5) from by rw [show sk_rm r 8 = 7 from c19_1_7]; decide), if_neg (show ¬ (sk_rm r 8 = 6) from by rw [show sk_rm r 8 = 7 from c19_1_7]; decide), if_pos (show sk_rm r 8 = 7 from c19_1_7)])
  have c19_1_3T : ¬ (r - r / (8) * (8)).toInt = 3 := fun h => c19_1_3 (sk_toI h)
  have c19_1_4T : ¬ (r - r / (8) * (8)).toInt = 4 := fun h => c19_1_4 (sk_toI h)
  have c19_1_5T : ¬ (r - r / (8) * (8)).toInt = 5 := fun h => c19_1_5 (sk_toI h)
  have c19_1_6T : ¬ (r - r / (8) * (8)).toInt = 6 := fun h => c19_1_6 (sk_toI h)
  have c19_1_7T : ¬ (r - r / (8) * (8)).toInt = 7 := fun h => c19_1_7 (sk_toI h)
  refine k_tout C 155 dX7_takeTurn_19 (by omega) (by decide) ?_
  refine k_aloadn C 0 dX7_takeTurn_155 rfl ?_
  refine k_getr C (j := 8) (k' := k + 751) kcl_X7 fl_X7_59 hk.1 (by decide) rfl dX7_takeTurn_156 ?_
  refine k_iloadn C 2 dX7_takeTurn_159 rfl ?_
  refine k_iloadn C 3 dX7_takeTurn_160 rfl ?_
  refine k_iloadn C 1 dX7_takeTurn_161 rfl ?_
  refine k_sipush C (512) dX7_takeTurn_162 (by decide) ?_
  refine k_idiv C dX7_takeTurn_165 (by decide) ?_
  refine k_ldcw C kc_X7_393 dX7_takeTurn_166 ?_
  refine k_irem C dX7_takeTurn_169 (by decide) ?_
  refine k_si C (as := [.int ((r / (512)) - (r / (512)) / (161051) * (161051))]) yvX7_kernelOf vsX7_kernelOf ml_X7_239 (m_X7_kernelOf l C.2.2.2.1 M (m := (r / (512)) - (r / (512)) / (161051) * (161051))) rfl rfl (Nat.le_of_ble_eq_true rfl) (by decide) dX7_takeTurn_170 (fun x170_9 M170_9 h170_9 => ?_)
  rw [h170_9.1, h170_9.2]
  refine k_vv C (as := [.int ((r / (8)) - (r / (8)) / (4) * (4)), .int ((r / (32)) - (r / (32)) / (12) * (12)), .int (x_kn ((r / (512)) - (r / (512)) / (161051) * (161051)))]) yvX5_putKernel viX5_putKernel ml_X7_242 (m_X5_putKernel l C.2.2.2.1 M (k := k + 751) (hk := hk.2.2.2.2.2.2.2.2.2.1) (hw := hw) (s := (r / (8)) - (r / (8)) / (4) * (4)) (e := (r / (32)) - (r / (32)) / (12) * (12)) (v := x_kn ((r / (512)) - (r / (512)) / (161051) * (161051)))) hk.2.2.2.2.2.2.2.2.2.1.1 rfl rfl rfl (Nat.le_of_ble_eq_true rfl) (by decide) dX7_takeTurn_173 (fun M173_10 h173_10 => ?_)
  rw [h173_10]
  exact ret _ _ _ dX7_takeTurn_176 (by rw [x_tt, if_neg (show ¬ (sk_rm r 8 = 3) from c19_1_3), if_neg (show ¬ (sk_rm r 8 = 4 ∨ sk_rm r 8 = 5) from fun h => h.elim c19_1_4 c19_1_5), if_neg (show ¬ (sk_rm r 8 = 6) from c19_1_6), if_neg (show ¬ (sk_rm r 8 = 7) from c19_1_7)])
