/-! The model: elements, whole texts -/
theorem mi_0 {M : sk_M} {k q b : Nat} {s : Nat → Int32} (hb : M k 21 = nI b) (hz : ∀ y, q ≤ y → y < q + 18 → M (k + 7) y = 0) : mi_c k q s b M 0 (sk_ms M (k + 7) q 0) b [] 1 := by
  refine ⟨⟨rfl, sk_sm, ?_, fun p j h => by simp at h, fun y h => sk_ne (by omega)⟩, ?_, mt_f.w mt_f.r, by omega, Or.inl ⟨rfl, by omega, rfl⟩⟩
  · rw [sk_ne (by omega)]; exact hz _ (by omega) (by omega)
  · rw [sk_ne (by omega)]; exact hb
theorem mi_x0 {M : sk_M} {k n : Nat} {s : Nat → Int32} : mi_x k n s M 0 (sk_ms (sk_fm M (k + 7) 0 233) k 21 0) 0 [] 1 := by
  refine ⟨⟨rfl, ?_, fun e el h => by simp at h, fun y h1 h2 => ?_⟩, sk_sm, ⟨fun a h1 h2 => ?_, fun y h1 => ?_⟩, by omega, by omega, Or.inl ⟨rfl, by omega, rfl⟩⟩
  · rw [sk_ne (by omega)]; simp [sk_fm, sk_mr]; rfl
  · rw [sk_ne (by omega)]; simp [sk_fm, sk_mr]; omega
  · rw [sk_nf h2]; funext y; exact sk_nr h1
  · rw [sk_ne (Or.inr h1)]; exact sk_nr (by omega)
set_option maxHeartbeats 4000000 in
set_option maxRecDepth 100000 in
theorem m_X8_readElement (l : Launch) {O : sk_O} (hO : sk_inj O) (M : sk_M) (k n b : Nat) (S : Nat → Int32) (hk : sk_isM O k) (hS : M (k + 1) = S) (hn : M k 2 = nI n) (hb : M k 21 = nI b) (hn2 : n ≤ 120) (hb2 : b ≤ 800) (hr : ∀ i, i < n → ¬ S i < 0 ∧ ¬ 255 < S i) (q : Nat) (xq : Int32) (hxq : xq = nI q) (hq : q + 18 ≤ 233) (hz : ∀ y, q ≤ y → y < q + 18 → M (k + 7) y = 0) : sk_Mi l yX8_readElement (sk_w yX8_readElement cX8_readElement 4 (some .boolean)) ({ frames := 3, cells := 0, slots := 0, locals := 63 }) O [.ref (sk_ad O k), .int xq] M (me_q k q (tx S n) b M) := by
  refine sk_mi (by decide) ⟨rfl, rfl⟩ hO (Nat.le_of_ble_eq_true rfl) (fun X A Q C ret => ?_)
  show sk_W l X O A Q 4 0 0 M 0 [(0, .ref (sk_ad O k)), (1, .int xq)] []
  refine k_aloadn C 0 dX8_readElement_0 rfl ?_
  refine k_bipush C (112) dX8_readElement_1 (by decide) ?_
  refine k_vi C (as := [.int (112)]) yvX8_passes viX8_passes ml_X8_182 (m_X8_passes l C.2.2.2.1 M (k := k) (n := n) (b := b) (S := S) (hk := hk) (hS := hS) (hn := hn) (hb := hb) (hn2 := hn2) (hb2 := (by omega)) (c := (112))) hk.1 rfl rfl rfl (Nat.le_of_ble_eq_true rfl) (by decide) dX8_readElement_3 (fun x3_1 M3_1 h3_1 => ?_)
  rcases h3_1 with ⟨q3, rfl, rfl⟩ | ⟨q3, rfl, rfl⟩
  ·
    refine k_zeq C 13 dX8_readElement_6 (by decide) (fun c6_2 => ?_) (fun c6_2 => ?_)
    ·
      exact absurd c6_2 (by decide)
    ·
      refine k_iconst C (1) dX8_readElement_9 (by decide) ?_
      refine k_goto C 27 dX8_readElement_10 (by decide) ?_
      refine k_istoren C [1, 2, 0] [(0, .ref (sk_ad O k)), (1, .int xq), (2, .int (1))] dX8_readElement_27 (by decide) rfl ?_
      refine k_aloadn C 0 dX8_readElement_28 rfl ?_
      refine k_getr C (j := 9) (k' := k + 7) kcl_X8 fl_X8_29 hk.1 (by decide) rfl dX8_readElement_29 ?_
      refine k_iloadn C 1 dX8_readElement_32 rfl ?_
      refine k_iconst C (0) dX8_readElement_33 (by decide) ?_
      refine k_iadd C dX8_readElement_34 ?_
      refine k_iloadn C 2 dX8_readElement_35 rfl ?_
      refine k_iast C q hk.2.2.2.2.2.2.2.1 (sk_nadd (b := 0) hxq (rfl : ((0) : Int32) = nI 0)) (by omega) dX8_readElement_36 ?_
      refine k_iloadn C 2 dX8_readElement_37 rfl ?_
      refine k_zeq C 107 dX8_readElement_38 (by decide) (fun c38_3 => ?_) (fun c38_3 => ?_)
      ·
        exact absurd c38_3 (by decide)
      ·
        refine k_aloadn C 0 dX8_readElement_41 rfl ?_
        refine k_vi C (as := []) yvX8_here viX8_here ml_X8_171 (m_X8_here l C.2.2.2.1 (sk_ms (sk_ms M k 21 (nI (b + 1))) (k + 7) q (1)) (k := k) (n := n) (b := b + 1) (S := S) (hk := hk) (hS := (by rw [sk_nf (by omega), sk_nf (by omega)]; exact hS)) (hn := (by rw [sk_ne (by omega), sk_ne (by omega)]; exact hn)) (hb := (by rw [sk_ne (by omega)]; exact sk_sm)) (hn2 := hn2) (hb2 := (by omega))) hk.1 rfl rfl rfl (Nat.le_of_ble_eq_true rfl) (by decide) dX8_readElement_42 (fun x42_4 M42_4 h42_4 => ?_)
        rw [h42_4.1, h42_4.2]
        refine k_i2l C dX8_readElement_45 ?_
        refine k_ldcl C kc_X8_188 dX8_readElement_46 ?_
        refine k_ldcl C kc_X8_177 dX8_readElement_49 ?_
        refine k_si C (as := [.long ((tx S n (b + 1)).toInt64), .long (48), .long (52)]) yvX8_in vsX8_in ml_X8_64 (m_X8_in l C.2.2.2.1 (sk_ms (sk_ms M k 21 (nI (b + 1))) (k + 7) q (1)) (v := (tx S n (b + 1)).toInt64) (p := (48)) (q := (52))) rfl rfl (Nat.le_of_ble_eq_true rfl) (by decide) dX8_readElement_52 (fun x52_5 M52_5 h52_5 => ?_)
        rw [h52_5.1, h52_5.2]
        refine k_zne C 60 dX8_readElement_55 (by decide) (fun c55_6 => ?_) (fun c55_6 => ?_)
        ·
          have nc55_6 : ¬ ((tx S n (b + 1)).toInt64) < (48) ∧ ¬ (52) < ((tx S n (b + 1)).toInt64) := Classical.byContradiction (fun h => c55_6 (sk_b1.mpr h))
          refine k_aloadn C 0 dX8_readElement_60 rfl ?_
          refine k_getr C (j := 9) (k' := k + 7) kcl_X8 fl_X8_29 hk.1 (by decide) rfl dX8_readElement_61 ?_
          refine k_iloadn C 1 dX8_readElement_64 rfl ?_
          refine k_iconst C (1) dX8_readElement_65 (by decide) ?_
          refine k_iadd C dX8_readElement_66 ?_
          refine k_iconst C (1) dX8_readElement_67 (by decide) ?_
          refine k_iast C (q + 1) hk.2.2.2.2.2.2.2.1 (sk_nadd hxq (rfl : ((1) : Int32) = nI 1)) (by omega) dX8_readElement_68 ?_
          refine k_aloadn C 0 dX8_readElement_69 rfl ?_
          refine k_getr C (j := 9) (k' := k + 7) kcl_X8 fl_X8_29 hk.1 (by decide) rfl dX8_readElement_70 ?_
          refine k_iloadn C 1 dX8_readElement_73 rfl ?_
          refine k_iconst C (2) dX8_readElement_74 (by decide) ?_
          refine k_iadd C dX8_readElement_75 ?_
          refine k_iconst C (-1) dX8_readElement_76 (by decide) ?_
          refine k_iast C (q + 2) hk.2.2.2.2.2.2.2.1 (sk_nadd hxq (rfl : ((2) : Int32) = nI 2)) (by omega) dX8_readElement_77 ?_
          refine k_aloadn C 0 dX8_readElement_78 rfl ?_
          refine k_getr C (j := 9) (k' := k + 7) kcl_X8 fl_X8_29 hk.1 (by decide) rfl dX8_readElement_79 ?_
          refine k_iloadn C 1 dX8_readElement_82 rfl ?_
          refine k_iconst C (2) dX8_readElement_83 (by decide) ?_
          refine k_iadd C dX8_readElement_84 ?_
          refine k_iconst C (1) dX8_readElement_85 (by decide) ?_
          refine k_iadd C dX8_readElement_86 ?_
          refine k_aloadn C 0 dX8_readElement_87 rfl ?_
          refine k_vi C (as := []) yvX8_here viX8_here ml_X8_171 (m_X8_here l C.2.2.2.1 (sk_ms (sk_ms (sk_ms (sk_ms M k 21 (nI (b + 1))) (k + 7) q (1)) (k + 7) (q + 1) (1)) (k + 7) (q + 2) (-1)) (k := k) (n := n) (b := b + 1) (S := S) (hk := hk) (hS := (by rw [sk_nf (by omega), sk_nf (by omega), sk_nf (by omega), sk_nf (by omega)]; exact hS)) (hn := (by rw [sk_ne (by omega), sk_ne (by omega), sk_ne (by omega), sk_ne (by omega)]; exact hn)) (hb := (by rw [sk_ne (by omega), sk_ne (by omega), sk_ne (by omega)]; exact sk_sm)) (hn2 := hn2) (hb2 := (by omega))) hk.1 rfl rfl rfl (Nat.le_of_ble_eq_true rfl) (by decide) dX8_readElement_88 (fun x88_7 M88_7 h88_7 => ?_)
          rw [h88_7.1, h88_7.2]
          refine k_bipush C (48) dX8_readElement_91 (by decide) ?_
          refine k_isub C dX8_readElement_93 ?_
          refine k_iast C (q + 2 + 1) hk.2.2.2.2.2.2.2.1 (sk_nadd (sk_nadd hxq (rfl : ((2) : Int32) = nI 2)) (rfl : ((1) : Int32) = nI 1)) (by omega) dX8_readElement_94 ?_
          refine k_aloadn C 0 dX8_readElement_95 rfl ?_
          refine k_dup C dX8_readElement_96 rfl ?_
          refine k_geti C (j := 21) kcl_X8 fl_X8_168 hk.1 (by decide) rfl dX8_readElement_97 ?_
          refine k_top (nI (b + 1)) (by rw [sk_ne (by omega), sk_ne (by omega), sk_ne (by omega), sk_ne (by omega), sk_sm]) ?_
          refine k_iconst C (1) dX8_readElement_100 (by decide) ?_
          refine k_iadd C dX8_readElement_101 ?_
          refine k_top (nI (b + 2)) (sk_nadd (b := 1) (a := b + 1) rfl rfl) ?_
          refine k_puti C (j := 21) (ty := .int) tyX8 kcl_X8 tyX8_ok nmX8 fl_X8_168 hk.1 (by decide) rfl rfl (by decide +kernel) rfl rfl dX8_readElement_102 ?_
          refine k_iconst C (1) dX8_readElement_105 (by decide) ?_
          exact ret _ _ _ _ dX8_readElement_106 rfl (by exact el_lv (show te (tx S n) b = tlv (tx S n) 1 b from by rw [te, if_pos q3]) ((dg_l (tx_r hr (b + 1))).mp nc55_6) hz)
        ·
          have nc55_6 : ¬ (¬ ((tx S n (b + 1)).toInt64) < (48) ∧ ¬ (52) < ((tx S n (b + 1)).toInt64)) := sk_b1.mp c55_6
          refine k_iconst C (0) dX8_readElement_58 (by decide) ?_
          exact ret _ _ _ _ dX8_readElement_59 rfl (by exact el_lf (show te (tx S n) b = tlv (tx S n) 1 b from by rw [te, if_pos q3]) (Classical.byContradiction (fun h => nc55_6 ((dg_l (tx_r hr (b + 1))).mpr h))))
  ·
    refine k_zeq C 13 dX8_readElement_6 (by decide) (fun c6_8 => ?_) (fun c6_8 => ?_)
    ·
      refine k_aloadn C 0 dX8_readElement_13 rfl ?_
      refine k_bipush C (115) dX8_readElement_14 (by decide) ?_
      refine k_vi C (as := [.int (115)]) yvX8_passes viX8_passes ml_X8_182 (m_X8_passes l C.2.2.2.1 M (k := k) (n := n) (b := b) (S := S) (hk := hk) (hS := hS) (hn := hn) (hb := hb) (hn2 := hn2) (hb2 := (by omega)) (c := (115))) hk.1 rfl rfl rfl (Nat.le_of_ble_eq_true rfl) (by decide) dX8_readElement_16 (fun x16_9 M16_9 h16_9 => ?_)
      rcases h16_9 with ⟨q16, rfl, rfl⟩ | ⟨q16, rfl, rfl⟩
      ·
        refine k_zeq C 26 dX8_readElement_19 (by decide) (fun c19_10 => ?_) (fun c19_10 => ?_)
        ·
          exact absurd c19_10 (by decide)
        ·
          refine k_iconst C (2) dX8_readElement_22 (by decide) ?_
          refine k_goto C 27 dX8_readElement_23 (by decide) ?_
          refine k_istoren C [1, 2, 0] [(0, .ref (sk_ad O k)), (1, .int xq), (2, .int (2))] dX8_readElement_27 (by decide) rfl ?_
          refine k_aloadn C 0 dX8_readElement_28 rfl ?_
          refine k_getr C (j := 9) (k' := k + 7) kcl_X8 fl_X8_29 hk.1 (by decide) rfl dX8_readElement_29 ?_
          refine k_iloadn C 1 dX8_readElement_32 rfl ?_
          refine k_iconst C (0) dX8_readElement_33 (by decide) ?_
          refine k_iadd C dX8_readElement_34 ?_
          refine k_iloadn C 2 dX8_readElement_35 rfl ?_
          refine k_iast C q hk.2.2.2.2.2.2.2.1 (sk_nadd (b := 0) hxq (rfl : ((0) : Int32) = nI 0)) (by omega) dX8_readElement_36 ?_
          refine k_iloadn C 2 dX8_readElement_37 rfl ?_
          refine k_zeq C 107 dX8_readElement_38 (by decide) (fun c38_11 => ?_) (fun c38_11 => ?_)
          ·
            exact absurd c38_11 (by decide)
          ·
            refine k_aloadn C 0 dX8_readElement_41 rfl ?_
            refine k_vi C (as := []) yvX8_here viX8_here ml_X8_171 (m_X8_here l C.2.2.2.1 (sk_ms (sk_ms M k 21 (nI (b + 1))) (k + 7) q (2)) (k := k) (n := n) (b := b + 1) (S := S) (hk := hk) (hS := (by rw [sk_nf (by omega), sk_nf (by omega)]; exact hS)) (hn := (by rw [sk_ne (by omega), sk_ne (by omega)]; exact hn)) (hb := (by rw [sk_ne (by omega)]; exact sk_sm)) (hn2 := hn2) (hb2 := (by omega))) hk.1 rfl rfl rfl (Nat.le_of_ble_eq_true rfl) (by decide) dX8_readElement_42 (fun x42_12 M42_12 h42_12 => ?_)
            rw [h42_12.1, h42_12.2]
            refine k_i2l C dX8_readElement_45 ?_
            refine k_ldcl C kc_X8_188 dX8_readElement_46 ?_
            refine k_ldcl C kc_X8_177 dX8_readElement_49 ?_
            refine k_si C (as := [.long ((tx S n (b + 1)).toInt64), .long (48), .long (52)]) yvX8_in vsX8_in ml_X8_64 (m_X8_in l C.2.2.2.1 (sk_ms (sk_ms M k 21 (nI (b + 1))) (k + 7) q (2)) (v := (tx S n (b + 1)).toInt64) (p := (48)) (q := (52))) rfl rfl (Nat.le_of_ble_eq_true rfl) (by decide) dX8_readElement_52 (fun x52_13 M52_13 h52_13 => ?_)
            rw [h52_13.1, h52_13.2]
            refine k_zne C 60 dX8_readElement_55 (by decide) (fun c55_14 => ?_) (fun c55_14 => ?_)
            ·
              have nc55_14 : ¬ ((tx S n (b + 1)).toInt64) < (48) ∧ ¬ (52) < ((tx S n (b + 1)).toInt64) := Classical.byContradiction (fun h => c55_14 (sk_b1.mpr h))
              refine k_aloadn C 0 dX8_readElement_60 rfl ?_
              refine k_getr C (j := 9) (k' := k + 7) kcl_X8 fl_X8_29 hk.1 (by decide) rfl dX8_readElement_61 ?_
              refine k_iloadn C 1 dX8_readElement_64 rfl ?_
              refine k_iconst C (1) dX8_readElement_65 (by decide) ?_
              refine k_iadd C dX8_readElement_66 ?_
              refine k_iconst C (1) dX8_readElement_67 (by decide) ?_
              refine k_iast C (q + 1) hk.2.2.2.2.2.2.2.1 (sk_nadd hxq (rfl : ((1) : Int32) = nI 1)) (by omega) dX8_readElement_68 ?_
              refine k_aloadn C 0 dX8_readElement_69 rfl ?_
              refine k_getr C (j := 9) (k' := k + 7) kcl_X8 fl_X8_29 hk.1 (by decide) rfl dX8_readElement_70 ?_
              refine k_iloadn C 1 dX8_readElement_73 rfl ?_
              refine k_iconst C (2) dX8_readElement_74 (by decide) ?_
              refine k_iadd C dX8_readElement_75 ?_
              refine k_iconst C (-1) dX8_readElement_76 (by decide) ?_
              refine k_iast C (q + 2) hk.2.2.2.2.2.2.2.1 (sk_nadd hxq (rfl : ((2) : Int32) = nI 2)) (by omega) dX8_readElement_77 ?_
              refine k_aloadn C 0 dX8_readElement_78 rfl ?_
              refine k_getr C (j := 9) (k' := k + 7) kcl_X8 fl_X8_29 hk.1 (by decide) rfl dX8_readElement_79 ?_
              refine k_iloadn C 1 dX8_readElement_82 rfl ?_
              refine k_iconst C (2) dX8_readElement_83 (by decide) ?_
              refine k_iadd C dX8_readElement_84 ?_
              refine k_iconst C (1) dX8_readElement_85 (by decide) ?_
              refine k_iadd C dX8_readElement_86 ?_
              refine k_aloadn C 0 dX8_readElement_87 rfl ?_
              refine k_vi C (as := []) yvX8_here viX8_here ml_X8_171 (m_X8_here l C.2.2.2.1 (sk_ms (sk_ms (sk_ms (sk_ms M k 21 (nI (b + 1))) (k + 7) q (2)) (k + 7) (q + 1) (1)) (k + 7) (q + 2) (-1)) (k := k) (n := n) (b := b + 1) (S := S) (hk := hk) (hS := (by rw [sk_nf (by omega), sk_nf (by omega), sk_nf (by omega), sk_nf (by omega)]; exact hS)) (hn := (by rw [sk_ne (by omega), sk_ne (by omega), sk_ne (by omega), sk_ne (by omega)]; exact hn)) (hb := (by rw [sk_ne (by omega), sk_ne (by omega), sk_ne (by omega)]; exact sk_sm)) (hn2 := hn2) (hb2 := (by omega))) hk.1 rfl rfl rfl (Nat.le_of_ble_eq_true rfl) (by decide) dX8_readElement_88 (fun x88_15 M88_15 h88_15 => ?_)
              rw [h88_15.1, h88_15.2]
              refine k_bipush C (48) dX8_readElement_91 (by decide) ?_
              refine k_isub C dX8_readElement_93 ?_
              refine k_iast C (q + 2 + 1) hk.2.2.2.2.2.2.2.1 (sk_nadd (sk_nadd hxq (rfl : ((2) : Int32) = nI 2)) (rfl : ((1) : Int32) = nI 1)) (by omega) dX8_readElement_94 ?_
              refine k_aloadn C 0 dX8_readElement_95 rfl ?_
              refine k_dup C dX8_readElement_96 rfl ?_
              refine k_geti C (j := 21) kcl_X8 fl_X8_168 hk.1 (by decide) rfl dX8_readElement_97 ?_
              refine k_top (nI (b + 1)) (by rw [sk_ne (by omega), sk_ne (by omega), sk_ne (by omega), sk_ne (by omega), sk_sm]) ?_
              refine k_iconst C (1) dX8_readElement_100 (by decide) ?_
              refine k_iadd C dX8_readElement_101 ?_
              refine k_top (nI (b + 2)) (sk_nadd (b := 1) (a := b + 1) rfl rfl) ?_
              refine k_puti C (j := 21) (ty := .int) tyX8 kcl_X8 tyX8_ok nmX8 fl_X8_168 hk.1 (by decide) rfl rfl (by decide +kernel) rfl rfl dX8_readElement_102 ?_
              refine k_iconst C (1) dX8_readElement_105 (by decide) ?_
              exact ret _ _ _ _ dX8_readElement_106 rfl (by exact el_lv (show te (tx S n) b = tlv (tx S n) 2 b from by rw [te, if_neg q3, if_pos q16]) ((dg_l (tx_r hr (b + 1))).mp nc55_14) hz)
            ·
              have nc55_14 : ¬ (¬ ((tx S n (b + 1)).toInt64) < (48) ∧ ¬ (52) < ((tx S n (b + 1)).toInt64)) := sk_b1.mp c55_14
              refine k_iconst C (0) dX8_readElement_58 (by decide) ?_
              exact ret _ _ _ _ dX8_readElement_59 rfl (by exact el_lf (show te (tx S n) b = tlv (tx S n) 2 b from by rw [te, if_neg q3, if_pos q16]) (Classical.byContradiction (fun h => nc55_14 ((dg_l (tx_r hr (b + 1))).mpr h))))
      ·
        refine k_zeq C 26 dX8_readElement_19 (by decide) (fun c19_16 => ?_) (fun c19_16 => ?_)
        ·
          refine k_iconst C (0) dX8_readElement_26 (by decide) ?_
          refine k_istoren C [1, 2, 0] [(0, .ref (sk_ad O k)), (1, .int xq), (2, .int (0))] dX8_readElement_27 (by decide) rfl ?_
          refine k_aloadn C 0 dX8_readElement_28 rfl ?_
          refine k_getr C (j := 9) (k' := k + 7) kcl_X8 fl_X8_29 hk.1 (by decide) rfl dX8_readElement_29 ?_
          refine k_iloadn C 1 dX8_readElement_32 rfl ?_
          refine k_iconst C (0) dX8_readElement_33 (by decide) ?_
          refine k_iadd C dX8_readElement_34 ?_
          refine k_iloadn C 2 dX8_readElement_35 rfl ?_
          refine k_iast C q hk.2.2.2.2.2.2.2.1 (sk_nadd (b := 0) hxq (rfl : ((0) : Int32) = nI 0)) (by omega) dX8_readElement_36 ?_
          refine k_iloadn C 2 dX8_readElement_37 rfl ?_
          refine k_zeq C 107 dX8_readElement_38 (by decide) (fun c38_17 => ?_) (fun c38_17 => ?_)
          ·
            refine k_iconst C (1) dX8_readElement_107 (by decide) ?_
            refine k_istoren C [1, 2, 3, 0] [(0, .ref (sk_ad O k)), (1, .int xq), (2, .int (0)), (3, .int (1))] dX8_readElement_108 (by decide) rfl ?_
            have L109 : ∀ i, i ≤ 3 → ∀ (N : sk_M) (x : Nat) (js : List sk_J) (mo : Int32), mi_c k q (tx S n) b M i N x js mo → sk_W l X O A Q 4 0 0 N 109 [(0, .ref (sk_ad O k)), (1, .int xq), (3, .int mo)] [] := by
              refine sk_loop 3 (fun i hi109 ih109 => ?_)
              intro N x js mo hI
              obtain ⟨j1, j2, j3, j4, j6⟩ := hI
              have hS2 : N (k + 1) = S := (j3.1 _ (by omega) (by omega)).trans hS
              have hn3 : N k 2 = nI n := (j3.2 _ (by omega)).trans hn
              have q9 : te (tx S n) b = tch (tx S n) b := by rw [te, if_neg q3, if_neg q16]
              refine k_iloadn C 2 dX8_readElement_109 rfl ?_
              refine k_zeq C 178 dX8_readElement_110 (by decide) (fun c110_18 => ?_) (fun c110_18 => ?_)
              ·
                refine k_iconst C (1) dX8_readElement_178 (by decide) ?_
                exact ret _ _ _ _ dX8_readElement_179 rfl (by exact Or.inr ⟨x, (0, js), by rw [q9, tch, (j6.resolve_left (fun h => by rw [h.1] at c110_18; exact absurd c110_18 (by decide))).2], rfl, j2, j3, ⟨j1.2.1, by rw [j1.2.2.1, j1.1], by show js.length ≤ 3; rw [j1.1]; exact hi109, j1.2.2.2.1⟩, j1.2.2.2.2⟩)
              ·
                obtain ⟨j7, j8, j9⟩ := j6.resolve_right (fun h => c110_18 h.1)
                refine k_aloadn C 0 dX8_readElement_113 rfl ?_
                refine k_iloadn C 1 dX8_readElement_114 rfl ?_
                refine k_iconst C (2) dX8_readElement_115 (by decide) ?_
                refine k_iadd C dX8_readElement_116 ?_
                refine k_iconst C (3) dX8_readElement_117 (by decide) ?_
                refine k_aloadn C 0 dX8_readElement_118 rfl ?_
                refine k_getr C (j := 9) (k' := k + 7) kcl_X8 fl_X8_29 hk.1 (by decide) rfl dX8_readElement_119 ?_
                refine k_iloadn C 1 dX8_readElement_122 rfl ?_
                refine k_iconst C (1) dX8_readElement_123 (by decide) ?_
                refine k_iadd C dX8_readElement_124 ?_
                refine k_ialdn C (q + 1) hk.2.2.2.2.2.2.2.1 (sk_nadd hxq (rfl : ((1) : Int32) = nI 1)) (by omega) dX8_readElement_125 ?_
                refine k_imul C dX8_readElement_126 ?_
                refine k_iadd C dX8_readElement_127 ?_
                refine k_vi C (as := [.int ((xq + (2)) + ((3) * (N (k + 7) (q + 1))))]) yvX8_readJump viX8_readJump ml_X8_190 (m_X8_readJump l C.2.2.2.1 N (k := k) (n := n) (b := x) (S := S) (hk := hk) (hS := hS2) (hn := hn3) (hb := j2) (hn2 := hn2) (hb2 := (by omega)) (q := q + 2 + 3 * i) (xq := (xq + (2)) + ((3) * (N (k + 7) (q + 1)))) (hxq := (sk_nadd (sk_nadd hxq (rfl : ((2) : Int32) = nI 2)) (sk_nmul (rfl : ((3) : Int32) = nI 3) j1.2.2.1))) (hr := hr) (hq := (by omega))) hk.1 rfl rfl rfl (Nat.le_of_ble_eq_true rfl) (by decide) dX8_readElement_128 (fun x128_19 M128_19 h128_19 => ?_)
                obtain ⟨N9, rfl⟩ : ∃ z, z = M128_19 := ⟨_, rfl⟩
                rcases h128_19 with ⟨x9, z1, rfl, z3, z4⟩ | ⟨x9, w9, z1, rfl, z3, z4, z5⟩
                ·
                  refine k_zne C 136 dX8_readElement_131 (by decide) (fun c131_20 => ?_) (fun c131_20 => ?_)
                  ·
                    exact absurd c131_20 (by decide)
                  ·
                    refine k_iconst C (0) dX8_readElement_134 (by decide) ?_
                    exact ret _ _ _ _ dX8_readElement_135 rfl (by exact Or.inl ⟨x9, by rw [q9, tch, j9, show 3 - i = (2 - i) + 1 from by omega, tcl_e z1], rfl, z3, mt_f.t j3 z4⟩)
                ·
                  have hx9 := tj_le z1
                  refine k_zne C 136 dX8_readElement_131 (by decide) (fun c131_21 => ?_) (fun c131_21 => ?_)
                  ·
                    refine k_aloadn C 0 dX8_readElement_136 rfl ?_
                    refine k_getr C (j := 9) (k' := k + 7) kcl_X8 fl_X8_29 hk.1 (by decide) rfl dX8_readElement_137 ?_
                    refine k_iloadn C 1 dX8_readElement_140 rfl ?_
                    refine k_iconst C (1) dX8_readElement_141 (by decide) ?_
                    refine k_iadd C dX8_readElement_142 ?_
                    refine k_dup2 C dX8_readElement_143 rfl rfl ?_
                    refine k_ialdn C (q + 1) hk.2.2.2.2.2.2.2.1 (sk_nadd hxq (rfl : ((1) : Int32) = nI 1)) (by omega) dX8_readElement_144 ?_
                    refine k_iconst C (1) dX8_readElement_145 (by decide) ?_
                    refine k_iadd C dX8_readElement_146 ?_
                    refine k_top (nI (i + 1)) (sk_nadd (b := 1) (show N9 (k + 7) (q + 1) = nI i from by rw [z5, if_neg (by omega), if_neg (by omega), if_neg (by omega)]; exact j1.2.2.1) rfl) ?_
                    refine k_iast C (q + 1) hk.2.2.2.2.2.2.2.1 (sk_nadd hxq (rfl : ((1) : Int32) = nI 1)) (by omega) dX8_readElement_147 ?_
                    refine k_aloadn C 0 dX8_readElement_148 rfl ?_
                    refine k_getr C (j := 9) (k' := k + 7) kcl_X8 fl_X8_29 hk.1 (by decide) rfl dX8_readElement_149 ?_
                    refine k_iloadn C 1 dX8_readElement_152 rfl ?_
                    refine k_iconst C (1) dX8_readElement_153 (by decide) ?_
                    refine k_iadd C dX8_readElement_154 ?_
                    refine k_ialdn C (q + 1) hk.2.2.2.2.2.2.2.1 (sk_nadd hxq (rfl : ((1) : Int32) = nI 1)) (by omega) dX8_readElement_155 ?_
                    refine k_top (nI (i + 1)) (by rw [sk_sm]) ?_
                    refine k_iconst C (3) dX8_readElement_156 (by decide) ?_
                    refine k_cge C 173 dX8_readElement_157 (by decide) (fun c157_22 => ?_) (fun c157_22 => ?_)
                    ·
                      have nc157_22 : 3 ≤ i + 1 := (sk_eI (a := 3) (b := i + 1) (rfl : ((3) : Int32) = nI 3) rfl (by omega) (by omega)).mp c157_22
                      refine k_iconst C (0) dX8_readElement_173 (by decide) ?_
                      refine k_istoren C [1, 2, 0] [(0, .ref (sk_ad O k)), (1, .int xq), (3, .int (0))] dX8_readElement_174 (by decide) rfl ?_
                      refine k_goto C 109 dX8_readElement_175 (by decide) ?_
                      exact ih109 (by omega) _ x9 (js ++ [w9]) _ ⟨mc_c.s j1 (by omega) z5, by rw [sk_ne (by omega)]; exact z3, mt_f.w (mt_f.t j3 z4), by omega, Or.inr ⟨rfl, by rw [j9, show 3 - i = (2 - i) + 1 from by omega, tcl_n z1 (show ¬ (tx S n x9 = 43 ∧ 0 < 2 - i) from fun h => absurd h.2 (by omega))]⟩⟩
                    ·
                      have nc157_22 : ¬ (3 ≤ i + 1) := fun h => c157_22 ((sk_eI (a := 3) (b := i + 1) (rfl : ((3) : Int32) = nI 3) rfl (by omega) (by omega)).mpr h)
                      refine k_aloadn C 0 dX8_readElement_160 rfl ?_
                      refine k_bipush C (43) dX8_readElement_161 (by decide) ?_
                      refine k_vi C (as := [.int (43)]) yvX8_passes viX8_passes ml_X8_182 (m_X8_passes l C.2.2.2.1 (sk_ms N9 (k + 7) (q + 1) (nI (i + 1))) (k := k) (n := n) (b := x9) (S := S) (hk := hk) (hS := (by rw [sk_nf (by omega), z4.1 _ (by omega) (by omega)]; exact hS2)) (hn := (by rw [sk_ne (by omega), z4.2 _ (by omega)]; exact hn3)) (hb := (by rw [sk_ne (by omega)]; exact z3)) (hn2 := hn2) (hb2 := (by omega)) (c := (43))) hk.1 rfl rfl rfl (Nat.le_of_ble_eq_true rfl) (by decide) dX8_readElement_163 (fun x163_23 M163_23 h163_23 => ?_)
                      rcases h163_23 with ⟨q166, rfl, rfl⟩ | ⟨q166, rfl, rfl⟩
                      ·
                        refine k_zeq C 173 dX8_readElement_166 (by decide) (fun c166_24 => ?_) (fun c166_24 => ?_)
                        ·
                          exact absurd c166_24 (by decide)
                        ·
                          refine k_iconst C (1) dX8_readElement_169 (by decide) ?_
                          refine k_goto C 174 dX8_readElement_170 (by decide) ?_
                          refine k_istoren C [1, 2, 0] [(0, .ref (sk_ad O k)), (1, .int xq), (3, .int (1))] dX8_readElement_174 (by decide) rfl ?_
                          refine k_goto C 109 dX8_readElement_175 (by decide) ?_
                          exact ih109 (by omega) _ (x9 + 1) (js ++ [w9]) _ ⟨(mc_c.s j1 (by omega) z5).k, sk_sm, mt_f.s (mt_f.w (mt_f.t j3 z4)), by omega, Or.inl ⟨rfl, by omega, by rw [j9, show 3 - i = (2 - i) + 1 from by omega, tcl_y z1 ⟨q166, by omega⟩, show 3 - (i + 1) = 2 - i from by omega]⟩⟩
                      ·
                        refine k_zeq C 173 dX8_readElement_166 (by decide) (fun c166_25 => ?_) (fun c166_25 => ?_)
                        ·
                          refine k_iconst C (0) dX8_readElement_173 (by decide) ?_
                          refine k_istoren C [1, 2, 0] [(0, .ref (sk_ad O k)), (1, .int xq), (3, .int (0))] dX8_readElement_174 (by decide) rfl ?_
                          refine k_goto C 109 dX8_readElement_175 (by decide) ?_
                          exact ih109 (by omega) _ x9 (js ++ [w9]) _ ⟨mc_c.s j1 (by omega) z5, by rw [sk_ne (by omega)]; exact z3, mt_f.w (mt_f.t j3 z4), by omega, Or.inr ⟨rfl, by rw [j9, show 3 - i = (2 - i) + 1 from by omega, tcl_n z1 (show ¬ (tx S n x9 = 43 ∧ 0 < 2 - i) from fun h => q166 h.1)]⟩⟩
                        ·
                          exact absurd c166_25 (by decide)
                  ·
                    exact absurd c131_21 (by decide)
            refine k_sub [0, 1, 3] (lv' := [(0, .ref (sk_ad O k)), (1, .int xq), (3, .int (1))]) rfl ?_
            exact L109 0 (Nat.zero_le _) _ b [] 1 (mi_0 hb hz)
          ·
            exact absurd c38_17 (by decide)
        ·
          exact absurd c19_16 (by decide)
    ·
      exact absurd c6_8 (by decide)

set_option maxHeartbeats 4000000 in
set_option maxRecDepth 100000 in
theorem m_X8_readText (l : Launch) {O : sk_O} (hO : sk_inj O) (M : sk_M) (k n : Nat) (S : Nat → Int32) (hk : sk_isM O k) (hS : M (k + 1) = S) (hn : M k 2 = nI n) (hn2 : n ≤ 120) (hr : ∀ i, i < n → ¬ S i < 0 ∧ ¬ 255 < S i) : sk_Mi l yX8_readText (sk_w yX8_readText cX8_readText 2 (some .int)) ({ frames := 4, cells := 0, slots := 0, locals := 86 }) O [.ref (sk_ad O k)] M (mx_q k n (tx S n) M) := by
  refine sk_mi (by decide) ⟨rfl, rfl⟩ hO (Nat.le_of_ble_eq_true rfl) (fun X A Q C ret => ?_)
  show sk_W l X O A Q 2 0 0 M 0 [(0, .ref (sk_ad O k))] []
  refine k_iconst C (0) dX8_readText_0 (by decide) ?_
  refine k_istoren C [1, 0] [(0, .ref (sk_ad O k)), (1, .int (0))] dX8_readText_1 (by decide) rfl ?_
  have L2 : ∀ i, i ≤ 233 → sk_W l X O A Q 2 0 0 (sk_fm M (k + 7) 0 i) 2 [(0, .ref (sk_ad O k)), (1, .int (nI i))] [] := by
    refine sk_loop 233 (fun i hi2 ih2 => ?_)
    refine k_iloadn C 1 dX8_readText_2 rfl ?_
    refine k_sipush C (233) dX8_readText_3 (by decide) ?_
    refine k_cge C 22 dX8_readText_6 (by decide) (fun c6_1 => ?_) (fun c6_1 => ?_)
    ·
      have nc6_1 : 233 ≤ i := (sk_eI (a := 233) (b := i) (rfl : ((233) : Int32) = nI 233) rfl (by omega) (by omega)).mp c6_1
      obtain rfl : i = 233 := (by omega)
      refine k_aloadn C 0 dX8_readText_22 rfl ?_
      refine k_iconst C (0) dX8_readText_23 (by decide) ?_
      refine k_puti C (j := 21) (ty := .int) tyX8 kcl_X8 tyX8_ok nmX8 fl_X8_168 hk.1 (by decide) rfl rfl (by decide +kernel) rfl rfl dX8_readText_24 ?_
      refine k_iconst C (1) dX8_readText_27 (by decide) ?_
      refine k_istoren C [1, 0] [(0, .ref (sk_ad O k)), (1, .int (1))] dX8_readText_28 (by decide) rfl ?_
      have L29 : ∀ i, i ≤ 12 → ∀ (N : sk_M) (b : Nat) (L : List sk_E) (mo : Int32), mi_x k n (tx S n) M i N b L mo → sk_W l X O A Q 2 0 0 N 29 [(0, .ref (sk_ad O k)), (1, .int mo)] [] := by
        refine sk_loop 12 (fun i hi29 ih29 => ?_)
        intro N b L mo hI
        obtain ⟨j1, j2, j3, j4, j5, j6⟩ := hI
        have hS2 : N (k + 1) = S := (j3.1 _ (by omega) (by omega)).trans hS
        have hn3 : N k 2 = nI n := (j3.2 _ (by omega)).trans hn
        refine k_iloadn C 1 dX8_readText_29 rfl ?_
        refine k_zeq C 96 dX8_readText_30 (by decide) (fun c30_2 => ?_) (fun c30_2 => ?_)
        ·
          have j9 := (j6.resolve_left (fun h => by rw [h.1] at c30_2; exact absurd c30_2 (by decide))).2
          refine k_aloadn C 0 dX8_readText_96 rfl ?_
          refine k_geti C (j := 21) kcl_X8 fl_X8_168 hk.1 (by decide) rfl dX8_readText_97 ?_
          refine k_aloadn C 0 dX8_readText_100 rfl ?_
          refine k_geti C (j := 2) kcl_X8 fl_X8_161 hk.1 (by decide) rfl dX8_readText_101 ?_
          refine k_cge C 114 dX8_readText_104 (by decide) (fun c104_3 => ?_) (fun c104_3 => ?_)
          ·
            have nc104_3 : n ≤ b := (sk_eI (a := n) (b := b) hn3 j2 (by omega) (by omega)).mp c104_3
            refine k_iconst C (-1) dX8_readText_114 (by decide) ?_
            exact ret _ _ _ _ dX8_readText_115 rfl (by exact Or.inr ⟨L, by rw [j9, if_pos (show b = n from by omega)], rfl, by rw [j1.1]; exact hi29, j3, by rw [j1.2.1, j1.1], j1.2.2.1⟩)
          ·
            have nc104_3 : ¬ (n ≤ b) := fun h => c104_3 ((sk_eI (a := n) (b := b) hn3 j2 (by omega) (by omega)).mpr h)
            refine k_aloadn C 0 dX8_readText_107 rfl ?_
            refine k_geti C (j := 21) kcl_X8 fl_X8_168 hk.1 (by decide) rfl dX8_readText_108 ?_
            refine k_goto C 115 dX8_readText_111 (by decide) ?_
            exact ret _ _ _ _ dX8_readText_115 rfl (by exact Or.inl ⟨b, by rw [j9, if_neg (show ¬ b = n from by omega)], j2, j3⟩)
        ·
          obtain ⟨j7, j8, j9⟩ := j6.resolve_right (fun h => c30_2 h.1)
          refine k_aloadn C 0 dX8_readText_33 rfl ?_
          refine k_bipush C (17) dX8_readText_34 (by decide) ?_
          refine k_bipush C (18) dX8_readText_36 (by decide) ?_
          refine k_aloadn C 0 dX8_readText_38 rfl ?_
          refine k_getr C (j := 9) (k' := k + 7) kcl_X8 fl_X8_29 hk.1 (by decide) rfl dX8_readText_39 ?_
          refine k_iconst C (0) dX8_readText_42 (by decide) ?_
          refine k_ialdn C 0 hk.2.2.2.2.2.2.2.1 (rfl : ((0) : Int32) = nI 0) (by omega) dX8_readText_43 ?_
          refine k_imul C dX8_readText_44 ?_
          refine k_iadd C dX8_readText_45 ?_
          refine k_vi C (as := [.int ((17) + ((18) * (N (k + 7) 0)))]) yvX8_readElement viX8_readElement ml_X8_193 (m_X8_readElement l C.2.2.2.1 N (k := k) (n := n) (b := b) (S := S) (hk := hk) (hS := hS2) (hn := hn3) (hb := j2) (hn2 := hn2) (hb2 := (by omega)) (q := 17 + 18 * i) (xq := (17) + ((18) * (N (k + 7) 0))) (hxq := (sk_nadd (rfl : ((17) : Int32) = nI 17) (sk_nmul (rfl : ((18) : Int32) = nI 18) j1.2.1))) (hr := hr) (hq := (by omega)) (hz := (fun y h1 h2 => j1.2.2.2 y h1 (by omega)))) hk.1 rfl rfl rfl (Nat.le_of_ble_eq_true rfl) (by decide) dX8_readText_46 (fun x46_4 M46_4 h46_4 => ?_)
          obtain ⟨N9, rfl⟩ : ∃ z, z = M46_4 := ⟨_, rfl⟩
          rcases h46_4 with ⟨x9, z1, rfl, z3, z4⟩ | ⟨x9, w9, z1, rfl, z3, z4, z5, z6⟩
          ·
            refine k_zne C 57 dX8_readText_49 (by decide) (fun c49_5 => ?_) (fun c49_5 => ?_)
            ·
              exact absurd c49_5 (by decide)
            ·
              refine k_aloadn C 0 dX8_readText_52 rfl ?_
              refine k_geti C (j := 21) kcl_X8 fl_X8_168 hk.1 (by decide) rfl dX8_readText_53 ?_
              exact ret _ _ _ _ dX8_readText_56 rfl (by exact Or.inl ⟨x9, by rw [j9, show 12 - i = (11 - i) + 1 from by omega, tel_e z1], z3, mt_f.t j3 z4⟩)
          ·
            have hx9 := te_le z1
            refine k_zne C 57 dX8_readText_49 (by decide) (fun c49_6 => ?_) (fun c49_6 => ?_)
            ·
              refine k_aloadn C 0 dX8_readText_57 rfl ?_
              refine k_getr C (j := 9) (k' := k + 7) kcl_X8 fl_X8_29 hk.1 (by decide) rfl dX8_readText_58 ?_
              refine k_iconst C (0) dX8_readText_61 (by decide) ?_
              refine k_dup2 C dX8_readText_62 rfl rfl ?_
              refine k_ialdn C 0 hk.2.2.2.2.2.2.2.1 (rfl : ((0) : Int32) = nI 0) (by omega) dX8_readText_63 ?_
              refine k_iconst C (1) dX8_readText_64 (by decide) ?_
              refine k_iadd C dX8_readText_65 ?_
              refine k_top (nI (i + 1)) (sk_nadd (b := 1) (show N9 (k + 7) 0 = nI i from by rw [z6 _ (by omega)]; exact j1.2.1) rfl) ?_
              refine k_iast C 0 hk.2.2.2.2.2.2.2.1 (rfl : ((0) : Int32) = nI 0) (by omega) dX8_readText_66 ?_
              refine k_aloadn C 0 dX8_readText_67 rfl ?_
              refine k_getr C (j := 9) (k' := k + 7) kcl_X8 fl_X8_29 hk.1 (by decide) rfl dX8_readText_68 ?_
              refine k_iconst C (0) dX8_readText_71 (by decide) ?_
              refine k_ialdn C 0 hk.2.2.2.2.2.2.2.1 (rfl : ((0) : Int32) = nI 0) (by omega) dX8_readText_72 ?_
              refine k_top (nI (i + 1)) (by rw [sk_sm]) ?_
              refine k_bipush C (12) dX8_readText_73 (by decide) ?_
              refine k_cge C 91 dX8_readText_75 (by decide) (fun c75_7 => ?_) (fun c75_7 => ?_)
              ·
                have nc75_7 : 12 ≤ i + 1 := (sk_eI (a := 12) (b := i + 1) (rfl : ((12) : Int32) = nI 12) rfl (by omega) (by omega)).mp c75_7
                refine k_iconst C (0) dX8_readText_91 (by decide) ?_
                refine k_istoren C [1, 0] [(0, .ref (sk_ad O k)), (1, .int (0))] dX8_readText_92 (by decide) rfl ?_
                refine k_goto C 29 dX8_readText_93 (by decide) ?_
                exact ih29 (by omega) _ x9 (L ++ [w9]) _ ⟨mx_c.s j1 (by omega) z5 z6, by rw [sk_ne (by omega)]; exact z3, mt_f.w (mt_f.t j3 z4), by omega, te_n hr z1, Or.inr ⟨rfl, by rw [j9, show 12 - i = (11 - i) + 1 from by omega, tel_n z1 (show ¬ (tx S n x9 = 59 ∧ 0 < 11 - i) from fun h => absurd h.2 (by omega))]⟩⟩
              ·
                have nc75_7 : ¬ (12 ≤ i + 1) := fun h => c75_7 ((sk_eI (a := 12) (b := i + 1) (rfl : ((12) : Int32) = nI 12) rfl (by omega) (by omega)).mpr h)
                refine k_aloadn C 0 dX8_readText_78 rfl ?_
                refine k_bipush C (59) dX8_readText_79 (by decide) ?_
                refine k_vi C (as := [.int (59)]) yvX8_passes viX8_passes ml_X8_182 (m_X8_passes l C.2.2.2.1 (sk_ms N9 (k + 7) 0 (nI (i + 1))) (k := k) (n := n) (b := x9) (S := S) (hk := hk) (hS := (by rw [sk_nf (by omega), z4.1 _ (by omega) (by omega)]; exact hS2)) (hn := (by rw [sk_ne (by omega), z4.2 _ (by omega)]; exact hn3)) (hb := (by rw [sk_ne (by omega)]; exact z3)) (hn2 := hn2) (hb2 := (by omega)) (c := (59))) hk.1 rfl rfl rfl (Nat.le_of_ble_eq_true rfl) (by decide) dX8_readText_81 (fun x81_8 M81_8 h81_8 => ?_)
                rcases h81_8 with ⟨q84, rfl, rfl⟩ | ⟨q84, rfl, rfl⟩
                ·
                  have hxn : x9 + 1 ≤ n := tx_n (fun h => by rw [h] at q84; exact absurd q84 (by decide))
                  refine k_zeq C 91 dX8_readText_84 (by decide) (fun c84_9 => ?_) (fun c84_9 => ?_)
                  ·
                    exact absurd c84_9 (by decide)
                  ·
                    refine k_iconst C (1) dX8_readText_87 (by decide) ?_
                    refine k_goto C 92 dX8_readText_88 (by decide) ?_
                    refine k_istoren C [1, 0] [(0, .ref (sk_ad O k)), (1, .int (1))] dX8_readText_92 (by decide) rfl ?_
                    refine k_goto C 29 dX8_readText_93 (by decide) ?_
                    exact ih29 (by omega) _ (x9 + 1) (L ++ [w9]) _ ⟨(mx_c.s j1 (by omega) z5 z6).k, sk_sm, mt_f.s (mt_f.w (mt_f.t j3 z4)), by omega, hxn, Or.inl ⟨rfl, by omega, by rw [j9, show 12 - i = (11 - i) + 1 from by omega, tel_y z1 ⟨q84, by omega⟩, show 12 - (i + 1) = 11 - i from by omega]⟩⟩
                ·
                  refine k_zeq C 91 dX8_readText_84 (by decide) (fun c84_10 => ?_) (fun c84_10 => ?_)
                  ·
                    refine k_iconst C (0) dX8_readText_91 (by decide) ?_
                    refine k_istoren C [1, 0] [(0, .ref (sk_ad O k)), (1, .int (0))] dX8_readText_92 (by decide) rfl ?_
                    refine k_goto C 29 dX8_readText_93 (by decide) ?_
                    exact ih29 (by omega) _ x9 (L ++ [w9]) _ ⟨mx_c.s j1 (by omega) z5 z6, by rw [sk_ne (by omega)]; exact z3, mt_f.w (mt_f.t j3 z4), by omega, te_n hr z1, Or.inr ⟨rfl, by rw [j9, show 12 - i = (11 - i) + 1 from by omega, tel_n z1 (show ¬ (tx S n x9 = 59 ∧ 0 < 11 - i) from fun h => q84 h.1)]⟩⟩
                  ·
                    exact absurd c84_10 (by decide)
            ·
              exact absurd c49_6 (by decide)
      exact L29 0 (Nat.zero_le _) _ 0 [] 1 mi_x0
    ·
      have nc6_1 : ¬ (233 ≤ i) := fun h => c6_1 ((sk_eI (a := 233) (b := i) (rfl : ((233) : Int32) = nI 233) rfl (by omega) (by omega)).mpr h)
      refine k_aloadn C 0 dX8_readText_9 rfl ?_
      refine k_getr C (j := 9) (k' := k + 7) kcl_X8 fl_X8_29 hk.1 (by decide) rfl dX8_readText_10 ?_
      refine k_iloadn C 1 dX8_readText_13 rfl ?_
      refine k_iconst C (0) dX8_readText_14 (by decide) ?_
      refine k_iast C i hk.2.2.2.2.2.2.2.1 rfl (by omega) dX8_readText_15 ?_
      refine k_iinc C 1 (nI (i + 1)) [1, 0] [(0, .ref (sk_ad O k)), (1, .int (nI (i + 1)))] dX8_readText_16 rfl (nI_add _ _) (by decide) rfl ?_
      refine k_goto C 2 dX8_readText_19 (by decide) ?_
      refine k_eq sk_fm_s rfl rfl rfl (ih2 (by omega))
  refine k_eq sk_fm_0.symm rfl rfl rfl (L2 0 (Nat.zero_le _))

set_option maxHeartbeats 4000000 in
set_option maxRecDepth 100000 in
theorem m_X8_errorPosition (l : Launch) {O : sk_O} (hO : sk_inj O) (M : sk_M) (k n : Nat) (S : Nat → Int32) (hk : sk_isM O k) (hS : M (k + 1) = S) (hn : M k 2 = nI n) (hn2 : n ≤ 120) (hr : ∀ i, i < n → ¬ S i < 0 ∧ ¬ 255 < S i) : sk_Mi l yX8_errorPosition (sk_w yX8_errorPosition cX8_errorPosition 1 (some .int)) ({ frames := 5, cells := 0, slots := 0, locals := 107 }) O [.ref (sk_ad O k)] M (mx_q k n (tx S n) (sk_ms M k 0 0)) := by
  refine sk_mi (by decide) ⟨rfl, rfl⟩ hO (Nat.le_of_ble_eq_true rfl) (fun X A Q C ret => ?_)
  show sk_W l X O A Q 1 0 0 M 0 [(0, .ref (sk_ad O k))] []
  refine k_aloadn C 0 dX8_errorPosition_0 rfl ?_
  refine k_iconst C (0) dX8_errorPosition_1 (by decide) ?_
  refine k_puti C (j := 0) (ty := .int) tyX8 kcl_X8 tyX8_ok nmX8 fl_X8_56 hk.1 (by decide) rfl rfl (by decide +kernel) rfl rfl dX8_errorPosition_2 ?_
  refine k_aloadn C 0 dX8_errorPosition_5 rfl ?_
  refine k_vi C (as := []) yvX8_readText viX8_readText ml_X8_196 (m_X8_readText l C.2.2.2.1 (sk_ms M k 0 (0)) (k := k) (n := n) (S := S) (hk := hk) (hS := (by rw [sk_nf (by omega)]; exact hS)) (hn := (by rw [sk_ne (by omega)]; exact hn)) (hn2 := hn2) (hr := hr)) hk.1 rfl rfl rfl (Nat.le_of_ble_eq_true rfl) (by decide) dX8_errorPosition_6 (fun x6_1 M6_1 h6_1 => ?_)
  exact ret _ _ _ _ dX8_errorPosition_9 rfl (by exact h6_1)

