/-! Scoring: contracts -/
def sc_pc (x y : Int32) : Int32 := (x * y + 50) / 100
def sc_gr (k t : Int32) : Int32 := if k < 0 then -(((if 0 ≤ k then k else 0 - k) * t + 15) / 30) else ((if 0 ≤ k then k else 0 - k) * t + 15) / 30
def sc_wr (z : Nat) (i : Int32) : Int32 := if i < 0 then 0 else if nI (sk_row z).length ≤ i then 0 else (sk_row z).getD i.toNatClampNeg 0
def sc_w0 (kd ro : Int32) : Int32 := if ro < 1 then 0 else sc_wr 0 (4 * kd + ro - 1)
def sc_w1 (w ca : Int32) : Int32 := if ca = 1 then sc_pc w 80 else if ca = 3 then sc_pc w 80 else w
def sc_pw (ty kd tu ca : Int32) : Int32 := if ty = 1 then sc_wr 1 tu else if ty = 2 then sc_wr 2 tu else sc_w1 (sc_w0 kd (if ca = 2 then tu - 1 else tu)) ca
theorem sk_rl (z : Nat) : (sk_row z).length < 2 ^ 31 := by
  match z with
  | 0 => exact Nat.le_of_ble_eq_true rfl
  | 1 => exact Nat.le_of_ble_eq_true rfl
  | z + 2 => exact Nat.le_of_ble_eq_true rfl
def sc_so (M : sk_M) (k : Nat) : sk_M := sk_ms (sk_ms (sk_ms (sk_ms (sk_ms (sk_ms (sk_ms (sk_ms (sk_fm M (k + 7) 0 12) k 8 0) k 9 0) k 10 0) k 11 0) k 12 0) k 13 0) k 14 0) k 16 0
def sc_cm (M : sk_M) (k : Nat) (ty : Int32) : sk_M := if ty = 0 then sk_ms M k 8 (M k 8 + 1) else if ty = 1 then sk_ms M k 9 (M k 9 + 1) else sk_ms M k 10 (M k 10 + 1)
abbrev sc_cp (M : sk_M) (k u : Nat) (ty : Int32) : Prop := if ty = 0 then ¬ M k 8 + 1 ≤ M u 2 else if ty = 1 then ¬ M k 9 + 1 ≤ M u 3 else ¬ M k 10 + 1 ≤ 1
set_option maxHeartbeats 4000000 in
set_option maxRecDepth 100000 in
theorem m_X3_percent (l : Launch) {O : sk_O} (hO : sk_inj O) (M : sk_M) (x y : Int32) : sk_Mi l yX3_percent (sk_w yX3_percent cX3_percent 2 (some .int)) ({ frames := 0, cells := 0, slots := 0, locals := 0 }) O [.int x, .int y] M (fun r M' => r = (sc_pc x y) ∧ M' = M) := by
  refine sk_mi (by decide) ⟨rfl, rfl⟩ hO (Nat.le_of_ble_eq_true rfl) (fun X A Q C ret => ?_)
  show sk_W l X O A Q 2 0 0 M 0 [(0, .int x), (1, .int y)] []
  refine k_iloadn C 0 dX3_percent_0 rfl ?_
  refine k_iloadn C 1 dX3_percent_1 rfl ?_
  refine k_imul C dX3_percent_2 ?_
  refine k_bipush C (50) dX3_percent_3 (by decide) ?_
  refine k_iadd C dX3_percent_5 ?_
  refine k_bipush C (100) dX3_percent_6 (by decide) ?_
  refine k_idiv C dX3_percent_8 (by decide) ?_
  exact ret _ _ _ _ dX3_percent_9 rfl (by exact ⟨rfl, rfl⟩)

set_option maxHeartbeats 4000000 in
set_option maxRecDepth 100000 in
theorem m_X3_gradeOf (l : Launch) {O : sk_O} (hO : sk_inj O) (M : sk_M) (k t : Int32) : sk_Mi l yX3_gradeOf (sk_w yX3_gradeOf cX3_gradeOf 3 (some .int)) ({ frames := 1, cells := 0, slots := 0, locals := 21 }) O [.int k, .int t] M (fun r M' => r = (sc_gr k t) ∧ M' = M) := by
  refine sk_mi (by decide) ⟨rfl, rfl⟩ hO (Nat.le_of_ble_eq_true rfl) (fun X A Q C ret => ?_)
  show sk_W l X O A Q 3 0 0 M 0 [(0, .int k), (1, .int t)] []
  refine k_iloadn C 0 dX3_gradeOf_0 rfl ?_
  refine k_abs C mm_X3_150 sta_abs ini_java_lang_Math cod_abs ⟨by decide, Nat.le_of_ble_eq_true rfl, by decide, by decide⟩ dX3_gradeOf_1 ?_
  refine k_iloadn C 1 dX3_gradeOf_4 rfl ?_
  refine k_imul C dX3_gradeOf_5 ?_
  refine k_bipush C (15) dX3_gradeOf_6 (by decide) ?_
  refine k_iadd C dX3_gradeOf_8 ?_
  refine k_bipush C (30) dX3_gradeOf_9 (by decide) ?_
  refine k_idiv C dX3_gradeOf_11 (by decide) ?_
  refine k_istoren C [1, 2, 0] [(0, .int k), (1, .int t), (2, .int ((((if 0 ≤ k then k else 0 - k) * t) + (15)) / (30)))] dX3_gradeOf_12 (by decide) rfl ?_
  refine k_iloadn C 0 dX3_gradeOf_13 rfl ?_
  refine k_zge C 22 dX3_gradeOf_14 (by decide) (fun c14_1 => ?_) (fun c14_1 => ?_)
  ·
    refine k_iloadn C 2 dX3_gradeOf_22 rfl ?_
    exact ret _ _ _ _ dX3_gradeOf_23 rfl (by exact ⟨(if_neg (Int32.not_lt.mpr c14_1)).symm, rfl⟩)
  ·
    refine k_iloadn C 2 dX3_gradeOf_17 rfl ?_
    refine k_ineg C dX3_gradeOf_18 ?_
    refine k_goto C 23 dX3_gradeOf_19 (by decide) ?_
    exact ret _ _ _ _ dX3_gradeOf_23 rfl (by exact ⟨(if_pos (Int32.not_le.mp c14_1)).symm, rfl⟩)

set_option maxHeartbeats 4000000 in
set_option maxRecDepth 100000 in
theorem m_X3_worthAt (l : Launch) {O : sk_O} (hO : sk_inj O) (M : sk_M) (z : Nat) (i : Int32) (hz : z < 3) : sk_Mi l yX3_worthAt (sk_w yX3_worthAt cX3_worthAt 2 (some .int)) ({ frames := 0, cells := 0, slots := 0, locals := 0 }) O [.ref (sk_st O z), .int i] M (fun r M' => r = (sc_wr z i) ∧ M' = M) := by
  refine sk_mi (by decide) ⟨rfl, rfl⟩ hO (Nat.le_of_ble_eq_true rfl) (fun X A Q C ret => ?_)
  show sk_W l X O A Q 2 0 0 M 0 [(0, .ref (sk_st O z)), (1, .int i)] []
  refine k_iloadn C 1 dX3_worthAt_0 rfl ?_
  refine k_zlt C 16 dX3_worthAt_1 (by decide) (fun c1_1 => ?_) (fun c1_1 => ?_)
  ·
    refine k_iconst C (0) dX3_worthAt_16 (by decide) ?_
    exact ret _ _ _ _ dX3_worthAt_17 rfl (by exact ⟨(if_pos c1_1).symm, rfl⟩)
  ·
    refine k_iloadn C 1 dX3_worthAt_4 rfl ?_
    refine k_aloadn C 0 dX3_worthAt_5 rfl ?_
    refine k_slen C z (by first | decide | assumption) dX3_worthAt_6 ?_
    refine k_cge C 16 dX3_worthAt_7 (by decide) (fun c7_2 => ?_) (fun c7_2 => ?_)
    ·
      refine k_iconst C (0) dX3_worthAt_16 (by decide) ?_
      exact ret _ _ _ _ dX3_worthAt_17 rfl (by exact ⟨by rw [sc_wr, if_neg c1_1, if_pos c7_2], rfl⟩)
    ·
      obtain ⟨ix, ib⟩ := sk_ix ⟨c1_1, c7_2⟩ rfl (sk_rl z)
      refine k_aloadn C 0 dX3_worthAt_10 rfl ?_
      refine k_iloadn C 1 dX3_worthAt_11 rfl ?_
      refine k_sald C z i.toNatClampNeg (by first | decide | assumption) ix ib dX3_worthAt_12 ?_
      refine k_goto C 17 dX3_worthAt_13 (by decide) ?_
      exact ret _ _ _ _ dX3_worthAt_17 rfl (by exact ⟨by rw [sc_wr, if_neg c1_1, if_neg c7_2], rfl⟩)

set_option maxHeartbeats 4000000 in
set_option maxRecDepth 100000 in
theorem m_X3_partWorth (l : Launch) {O : sk_O} (hO : sk_inj O) (M : sk_M) (ty kd tu ca : Int32) : sk_Mi l yX3_partWorth (sk_w yX3_partWorth cX3_partWorth 6 (some .int)) ({ frames := 1, cells := 0, slots := 0, locals := 21 }) O [.int ty, .int kd, .int tu, .int ca] M (fun r M' => r = (sc_pw ty kd tu ca) ∧ M' = M) := by
  refine sk_mi (by decide) ⟨rfl, rfl⟩ hO (Nat.le_of_ble_eq_true rfl) (fun X A Q C ret => ?_)
  show sk_W l X O A Q 6 0 0 M 0 [(0, .int ty), (1, .int kd), (2, .int tu), (3, .int ca)] []
  refine k_iloadn C 0 dX3_partWorth_0 rfl ?_
  refine k_iconst C (1) dX3_partWorth_1 (by decide) ?_
  refine k_cne C 13 dX3_partWorth_2 (by decide) (fun c2_1 => ?_) (fun c2_1 => ?_)
  ·
    refine k_iloadn C 0 dX3_partWorth_13 rfl ?_
    refine k_iconst C (2) dX3_partWorth_14 (by decide) ?_
    refine k_cne C 26 dX3_partWorth_15 (by decide) (fun c15_2 => ?_) (fun c15_2 => ?_)
    ·
      refine k_iloadn C 3 dX3_partWorth_26 rfl ?_
      refine k_iconst C (2) dX3_partWorth_27 (by decide) ?_
      have J38 : sk_W l X O A Q 6 0 0 M 38 [(0, .int ty), (1, .int kd), (2, .int tu), (3, .int ca)] [.int (if ca = 2 then tu - 1 else tu)] := by
        refine k_istore C [1, 2, 3, 4, 0] [(0, .int ty), (1, .int kd), (2, .int tu), (3, .int ca), (4, .int (if ca = 2 then tu - 1 else tu))] dX3_partWorth_38 (by decide) rfl ?_
        refine k_iload C 4 dX3_partWorth_40 rfl ?_
        refine k_iconst C (1) dX3_partWorth_42 (by decide) ?_
        have J64 : sk_W l X O A Q 6 0 0 M 64 [(0, .int ty), (1, .int kd), (2, .int tu), (3, .int ca), (4, .int (if ca = 2 then tu - 1 else tu))] [.int (sc_w0 kd (if ca = 2 then tu - 1 else tu))] := by
          refine k_istore C [1, 2, 3, 4, 5, 0] [(0, .int ty), (1, .int kd), (2, .int tu), (3, .int ca), (4, .int (if ca = 2 then tu - 1 else tu)), (5, .int (sc_w0 kd (if ca = 2 then tu - 1 else tu)))] dX3_partWorth_64 (by decide) rfl ?_
          refine k_iloadn C 3 dX3_partWorth_66 rfl ?_
          refine k_iconst C (1) dX3_partWorth_67 (by decide) ?_
          refine k_ceq C 76 dX3_partWorth_68 (by decide) (fun c68_3 => ?_) (fun c68_3 => ?_)
          ·
            refine k_iload C 5 dX3_partWorth_76 rfl ?_
            refine k_bipush C (80) dX3_partWorth_78 (by decide) ?_
            refine k_si C (as := [.int (sc_w0 kd (if ca = 2 then tu - 1 else tu)), .int (80)]) yvX3_percent vsX3_percent ml_X3_89 (m_X3_percent l C.2.2.2.1 M (x := sc_w0 kd (if ca = 2 then tu - 1 else tu)) (y := (80))) rfl rfl (Nat.le_of_ble_eq_true rfl) (by decide) dX3_partWorth_80 (fun x80_4 M80_4 h80_4 => ?_)
            rw [h80_4.1, h80_4.2]
            refine k_goto C 88 dX3_partWorth_83 (by decide) ?_
            exact ret _ _ _ _ dX3_partWorth_88 rfl (by exact ⟨by rw [sc_pw, if_neg c2_1, if_neg c15_2, sc_w1, if_pos c68_3], rfl⟩)
          ·
            refine k_iloadn C 3 dX3_partWorth_71 rfl ?_
            refine k_iconst C (3) dX3_partWorth_72 (by decide) ?_
            refine k_cne C 86 dX3_partWorth_73 (by decide) (fun c73_5 => ?_) (fun c73_5 => ?_)
            ·
              refine k_iload C 5 dX3_partWorth_86 rfl ?_
              exact ret _ _ _ _ dX3_partWorth_88 rfl (by exact ⟨by rw [sc_pw, if_neg c2_1, if_neg c15_2, sc_w1, if_neg c68_3, if_neg c73_5], rfl⟩)
            ·
              refine k_iload C 5 dX3_partWorth_76 rfl ?_
              refine k_bipush C (80) dX3_partWorth_78 (by decide) ?_
              refine k_si C (as := [.int (sc_w0 kd (if ca = 2 then tu - 1 else tu)), .int (80)]) yvX3_percent vsX3_percent ml_X3_89 (m_X3_percent l C.2.2.2.1 M (x := sc_w0 kd (if ca = 2 then tu - 1 else tu)) (y := (80))) rfl rfl (Nat.le_of_ble_eq_true rfl) (by decide) dX3_partWorth_80 (fun x80_6 M80_6 h80_6 => ?_)
              rw [h80_6.1, h80_6.2]
              refine k_goto C 88 dX3_partWorth_83 (by decide) ?_
              exact ret _ _ _ _ dX3_partWorth_88 rfl (by exact ⟨by rw [sc_pw, if_neg c2_1, if_neg c15_2, sc_w1, if_neg c68_3, if_pos c73_5], rfl⟩)
        refine k_cge C 50 dX3_partWorth_43 (by decide) (fun c43_7 => ?_) (fun c43_7 => ?_)
        ·
          refine k_gets C 0 (by decide) fl_X3_147 dX3_partWorth_50 ?_
          refine k_iconst C (4) dX3_partWorth_53 (by decide) ?_
          refine k_iloadn C 1 dX3_partWorth_54 rfl ?_
          refine k_imul C dX3_partWorth_55 ?_
          refine k_iload C 4 dX3_partWorth_56 rfl ?_
          refine k_iadd C dX3_partWorth_58 ?_
          refine k_iconst C (1) dX3_partWorth_59 (by decide) ?_
          refine k_isub C dX3_partWorth_60 ?_
          refine k_si C (as := [.ref (sk_st O 0), .int ((((4) * kd) + (if ca = 2 then tu - 1 else tu)) - (1))]) yvX3_worthAt vsX3_worthAt ml_X3_140 (m_X3_worthAt l C.2.2.2.1 M (z := 0) (i := (((4) * kd) + (if ca = 2 then tu - 1 else tu)) - (1)) (hz := (by decide))) rfl rfl (Nat.le_of_ble_eq_true rfl) (by decide) dX3_partWorth_61 (fun x61_8 M61_8 h61_8 => ?_)
          rw [h61_8.1, h61_8.2]
          exact k_eq rfl rfl rfl (by rw [sc_w0, if_neg (Int32.not_lt.mpr c43_7)]) J64
        ·
          refine k_iconst C (0) dX3_partWorth_46 (by decide) ?_
          refine k_goto C 64 dX3_partWorth_47 (by decide) ?_
          exact k_eq rfl rfl rfl (by rw [sc_w0, if_pos (Int32.not_le.mp c43_7)]) J64
      refine k_cne C 37 dX3_partWorth_28 (by decide) (fun c28_9 => ?_) (fun c28_9 => ?_)
      ·
        refine k_iloadn C 2 dX3_partWorth_37 rfl ?_
        exact k_eq rfl rfl rfl (by rw [if_neg c28_9]) J38
      ·
        refine k_iloadn C 2 dX3_partWorth_31 rfl ?_
        refine k_iconst C (1) dX3_partWorth_32 (by decide) ?_
        refine k_isub C dX3_partWorth_33 ?_
        refine k_goto C 38 dX3_partWorth_34 (by decide) ?_
        exact k_eq rfl rfl rfl (by rw [if_pos c28_9]) J38
    ·
      refine k_gets C 2 (by decide) fl_X3_144 dX3_partWorth_18 ?_
      refine k_iloadn C 2 dX3_partWorth_21 rfl ?_
      refine k_si C (as := [.ref (sk_st O 2), .int tu]) yvX3_worthAt vsX3_worthAt ml_X3_140 (m_X3_worthAt l C.2.2.2.1 M (z := 2) (i := tu) (hz := (by decide))) rfl rfl (Nat.le_of_ble_eq_true rfl) (by decide) dX3_partWorth_22 (fun x22_10 M22_10 h22_10 => ?_)
      rw [h22_10.1, h22_10.2]
      exact ret _ _ _ _ dX3_partWorth_25 rfl (by exact ⟨by rw [sc_pw, if_neg c2_1, if_pos c15_2], rfl⟩)
  ·
    refine k_gets C 1 (by decide) fl_X3_137 dX3_partWorth_5 ?_
    refine k_iloadn C 2 dX3_partWorth_8 rfl ?_
    refine k_si C (as := [.ref (sk_st O 1), .int tu]) yvX3_worthAt vsX3_worthAt ml_X3_140 (m_X3_worthAt l C.2.2.2.1 M (z := 1) (i := tu) (hz := (by decide))) rfl rfl (Nat.le_of_ble_eq_true rfl) (by decide) dX3_partWorth_9 (fun x9_11 M9_11 h9_11 => ?_)
    rw [h9_11.1, h9_11.2]
    exact ret _ _ _ _ dX3_partWorth_12 rfl (by exact ⟨(if_pos c2_1).symm, rfl⟩)

set_option maxHeartbeats 4000000 in
set_option maxRecDepth 100000 in
theorem m_X3_total (l : Launch) {O : sk_O} (hO : sk_inj O) (M : sk_M) (k : Nat) (hk : sk_isK O k) : sk_Mi l yX3_total (sk_w yX3_total cX3_total 1 (some .int)) ({ frames := 0, cells := 0, slots := 0, locals := 0 }) O [.ref (sk_ad O k)] M (fun r M' => r = (M k 14 + M k 15 - M k 16) ∧ M' = M) := by
  refine sk_mi (by decide) ⟨rfl, rfl⟩ hO (Nat.le_of_ble_eq_true rfl) (fun X A Q C ret => ?_)
  show sk_W l X O A Q 1 0 0 M 0 [(0, .ref (sk_ad O k))] []
  refine k_aloadn C 0 dX3_total_0 rfl ?_
  refine k_geti C (j := 14) kcl_X3 fl_X3_62 hk.1 (by decide) rfl dX3_total_1 ?_
  refine k_aloadn C 0 dX3_total_4 rfl ?_
  refine k_geti C (j := 15) kcl_X3 fl_X3_93 hk.1 (by decide) rfl dX3_total_5 ?_
  refine k_iadd C dX3_total_8 ?_
  refine k_aloadn C 0 dX3_total_9 rfl ?_
  refine k_geti C (j := 16) kcl_X3 fl_X3_65 hk.1 (by decide) rfl dX3_total_10 ?_
  refine k_isub C dX3_total_13 ?_
  exact ret _ _ _ _ dX3_total_14 rfl (by exact ⟨rfl, rfl⟩)

set_option maxHeartbeats 4000000 in
set_option maxRecDepth 100000 in
theorem m_X3_startOver (l : Launch) {O : sk_O} (hO : sk_inj O) (M : sk_M) (k : Nat) (hk : sk_isK O k) : sk_Mv l yX3_startOver (sk_w yX3_startOver cX3_startOver 1 none) ({ frames := 1, cells := 0, slots := 0, locals := 23 }) O [.ref (sk_ad O k)] M (fun M' => M' = (sc_so M k)) := by
  refine sk_mv (by decide) ⟨rfl, rfl⟩ hO (Nat.le_of_ble_eq_true rfl) (fun X A Q C ret => ?_)
  show sk_W l X O A Q 1 0 0 M 0 [(0, .ref (sk_ad O k))] []
  refine k_aloadn C 0 dX3_startOver_0 rfl ?_
  refine k_getr C (j := 6) (k' := k + 7) kcl_X3 fl_X3_30 hk.1 (by decide) rfl dX3_startOver_1 ?_
  refine k_iconst C (0) dX3_startOver_4 (by decide) ?_
  refine k_sv C (as := [.ref (sk_ad O (k + 7)), .int (0)]) yvJ7_fill_53178 vsJ7_fill_53178 ml_X3_36 (m_J7_fill_53178 l C.2.2.2.1 M (k := k + 7) (z := 12) (v := (0)) (hk := hk.2.2.2.2.2.2.2.1) (hz := (by omega))) rfl rfl (Nat.le_of_ble_eq_true rfl) (by decide) dX3_startOver_5 (fun M5_1 h5_1 => ?_)
  rw [h5_1]
  refine k_aloadn C 0 dX3_startOver_8 rfl ?_
  refine k_iconst C (0) dX3_startOver_9 (by decide) ?_
  refine k_puti C (j := 8) (ty := .int) tyX3 kcl_X3 tyX3_ok nmX3 fl_X3_42 hk.1 (by decide) rfl rfl (by decide +kernel) rfl rfl dX3_startOver_10 ?_
  refine k_aloadn C 0 dX3_startOver_13 rfl ?_
  refine k_iconst C (0) dX3_startOver_14 (by decide) ?_
  refine k_puti C (j := 9) (ty := .int) tyX3 kcl_X3 tyX3_ok nmX3 fl_X3_46 hk.1 (by decide) rfl rfl (by decide +kernel) rfl rfl dX3_startOver_15 ?_
  refine k_aloadn C 0 dX3_startOver_18 rfl ?_
  refine k_iconst C (0) dX3_startOver_19 (by decide) ?_
  refine k_puti C (j := 10) (ty := .int) tyX3 kcl_X3 tyX3_ok nmX3 fl_X3_49 hk.1 (by decide) rfl rfl (by decide +kernel) rfl rfl dX3_startOver_20 ?_
  refine k_aloadn C 0 dX3_startOver_23 rfl ?_
  refine k_iconst C (0) dX3_startOver_24 (by decide) ?_
  refine k_puti C (j := 11) (ty := .int) tyX3 kcl_X3 tyX3_ok nmX3 fl_X3_52 hk.1 (by decide) rfl rfl (by decide +kernel) rfl rfl dX3_startOver_25 ?_
  refine k_aloadn C 0 dX3_startOver_28 rfl ?_
  refine k_iconst C (0) dX3_startOver_29 (by decide) ?_
  refine k_puti C (j := 12) (ty := .boolean) tyX3 kcl_X3 tyX3_ok nmX3 fl_X3_55 hk.1 (by decide) rfl rfl (by decide +kernel) rfl rfl dX3_startOver_30 ?_
  refine k_aloadn C 0 dX3_startOver_33 rfl ?_
  refine k_iconst C (0) dX3_startOver_34 (by decide) ?_
  refine k_puti C (j := 13) (ty := .int) tyX3 kcl_X3 tyX3_ok nmX3 fl_X3_59 hk.1 (by decide) rfl rfl (by decide +kernel) rfl rfl dX3_startOver_35 ?_
  refine k_aloadn C 0 dX3_startOver_38 rfl ?_
  refine k_iconst C (0) dX3_startOver_39 (by decide) ?_
  refine k_puti C (j := 14) (ty := .int) tyX3 kcl_X3 tyX3_ok nmX3 fl_X3_62 hk.1 (by decide) rfl rfl (by decide +kernel) rfl rfl dX3_startOver_40 ?_
  refine k_aloadn C 0 dX3_startOver_43 rfl ?_
  refine k_iconst C (0) dX3_startOver_44 (by decide) ?_
  refine k_puti C (j := 16) (ty := .int) tyX3 kcl_X3 tyX3_ok nmX3 fl_X3_65 hk.1 (by decide) rfl rfl (by decide +kernel) rfl rfl dX3_startOver_45 ?_
  exact ret _ _ _ dX3_startOver_48 (by exact rfl)

set_option maxHeartbeats 4000000 in
set_option maxRecDepth 100000 in
theorem m_X3_countsTooMany (l : Launch) {O : sk_O} (hO : sk_inj O) (M : sk_M) (k u : Nat) (ty : Int32) (hk : sk_isK O k) (hu : sk_is O u (0, 5, sk_no)) (hap : u < k ∨ k + 9 ≤ u) : sk_Mi l yX3_countsTooMany (sk_w yX3_countsTooMany cX3_countsTooMany 3 (some .boolean)) ({ frames := 0, cells := 0, slots := 0, locals := 0 }) O [.ref (sk_ad O k), .int ty, .ref (sk_ad O u)] M (fun r M' => r = (if sc_cp M k u ty then 1 else 0) ∧ M' = (sc_cm M k ty)) := by
  refine sk_mi (by decide) ⟨rfl, rfl⟩ hO (Nat.le_of_ble_eq_true rfl) (fun X A Q C ret => ?_)
  show sk_W l X O A Q 3 0 0 M 0 [(0, .ref (sk_ad O k)), (1, .int ty), (2, .ref (sk_ad O u))] []
  refine k_iloadn C 1 dX3_countsTooMany_0 rfl ?_
  refine k_zne C 30 dX3_countsTooMany_1 (by decide) (fun c1_1 => ?_) (fun c1_1 => ?_)
  ·
    refine k_iloadn C 1 dX3_countsTooMany_30 rfl ?_
    refine k_iconst C (1) dX3_countsTooMany_31 (by decide) ?_
    refine k_cne C 61 dX3_countsTooMany_32 (by decide) (fun c32_2 => ?_) (fun c32_2 => ?_)
    ·
      refine k_aloadn C 0 dX3_countsTooMany_61 rfl ?_
      refine k_dup C dX3_countsTooMany_62 rfl ?_
      refine k_geti C (j := 10) kcl_X3 fl_X3_49 hk.1 (by decide) rfl dX3_countsTooMany_63 ?_
      refine k_iconst C (1) dX3_countsTooMany_66 (by decide) ?_
      refine k_iadd C dX3_countsTooMany_67 ?_
      refine k_puti C (j := 10) (ty := .int) tyX3 kcl_X3 tyX3_ok nmX3 fl_X3_49 hk.1 (by decide) rfl rfl (by decide +kernel) rfl rfl dX3_countsTooMany_68 ?_
      refine k_aloadn C 0 dX3_countsTooMany_71 rfl ?_
      refine k_geti C (j := 10) kcl_X3 fl_X3_49 hk.1 (by decide) rfl dX3_countsTooMany_72 ?_
      refine k_top ((M k 10) + (1)) (by rw [sk_sm]) ?_
      refine k_iconst C (1) dX3_countsTooMany_75 (by decide) ?_
      refine k_cle C 83 dX3_countsTooMany_76 (by decide) (fun c76_3 => ?_) (fun c76_3 => ?_)
      ·
        refine k_iconst C (0) dX3_countsTooMany_83 (by decide) ?_
        exact ret _ _ _ _ dX3_countsTooMany_84 rfl (by exact ⟨(if_neg (by rw [sc_cp, if_neg c1_1, if_neg c32_2]; exact fun h => h c76_3)).symm, by rw [sc_cm, if_neg c1_1, if_neg c32_2]⟩)
      ·
        refine k_iconst C (1) dX3_countsTooMany_79 (by decide) ?_
        refine k_goto C 84 dX3_countsTooMany_80 (by decide) ?_
        exact ret _ _ _ _ dX3_countsTooMany_84 rfl (by exact ⟨(if_pos (by rw [sc_cp, if_neg c1_1, if_neg c32_2]; exact c76_3)).symm, by rw [sc_cm, if_neg c1_1, if_neg c32_2]⟩)
    ·
      refine k_aloadn C 0 dX3_countsTooMany_35 rfl ?_
      refine k_dup C dX3_countsTooMany_36 rfl ?_
      refine k_geti C (j := 9) kcl_X3 fl_X3_46 hk.1 (by decide) rfl dX3_countsTooMany_37 ?_
      refine k_iconst C (1) dX3_countsTooMany_40 (by decide) ?_
      refine k_iadd C dX3_countsTooMany_41 ?_
      refine k_puti C (j := 9) (ty := .int) tyX3 kcl_X3 tyX3_ok nmX3 fl_X3_46 hk.1 (by decide) rfl rfl (by decide +kernel) rfl rfl dX3_countsTooMany_42 ?_
      refine k_aloadn C 0 dX3_countsTooMany_45 rfl ?_
      refine k_geti C (j := 9) kcl_X3 fl_X3_46 hk.1 (by decide) rfl dX3_countsTooMany_46 ?_
      refine k_top ((M k 9) + (1)) (by rw [sk_sm]) ?_
      refine k_aloadn C 2 dX3_countsTooMany_49 rfl ?_
      refine k_iconst C (3) dX3_countsTooMany_50 (by decide) ?_
      refine k_ialdn C 3 hu (rfl : ((3) : Int32) = nI 3) (by omega) dX3_countsTooMany_51 ?_
      refine k_top (M u 3) (by rw [sk_ne (by omega)]) ?_
      refine k_cle C 59 dX3_countsTooMany_52 (by decide) (fun c52_4 => ?_) (fun c52_4 => ?_)
      ·
        refine k_iconst C (0) dX3_countsTooMany_59 (by decide) ?_
        exact ret _ _ _ _ dX3_countsTooMany_60 rfl (by exact ⟨(if_neg (by rw [sc_cp, if_neg c1_1, if_pos c32_2]; exact fun h => h c52_4)).symm, by rw [sc_cm, if_neg c1_1, if_pos c32_2]⟩)
      ·
        refine k_iconst C (1) dX3_countsTooMany_55 (by decide) ?_
        refine k_goto C 60 dX3_countsTooMany_56 (by decide) ?_
        exact ret _ _ _ _ dX3_countsTooMany_60 rfl (by exact ⟨(if_pos (by rw [sc_cp, if_neg c1_1, if_pos c32_2]; exact c52_4)).symm, by rw [sc_cm, if_neg c1_1, if_pos c32_2]⟩)
  ·
    refine k_aloadn C 0 dX3_countsTooMany_4 rfl ?_
    refine k_dup C dX3_countsTooMany_5 rfl ?_
    refine k_geti C (j := 8) kcl_X3 fl_X3_42 hk.1 (by decide) rfl dX3_countsTooMany_6 ?_
    refine k_iconst C (1) dX3_countsTooMany_9 (by decide) ?_
    refine k_iadd C dX3_countsTooMany_10 ?_
    refine k_puti C (j := 8) (ty := .int) tyX3 kcl_X3 tyX3_ok nmX3 fl_X3_42 hk.1 (by decide) rfl rfl (by decide +kernel) rfl rfl dX3_countsTooMany_11 ?_
    refine k_aloadn C 0 dX3_countsTooMany_14 rfl ?_
    refine k_geti C (j := 8) kcl_X3 fl_X3_42 hk.1 (by decide) rfl dX3_countsTooMany_15 ?_
    refine k_top ((M k 8) + (1)) (by rw [sk_sm]) ?_
    refine k_aloadn C 2 dX3_countsTooMany_18 rfl ?_
    refine k_iconst C (2) dX3_countsTooMany_19 (by decide) ?_
    refine k_ialdn C 2 hu (rfl : ((2) : Int32) = nI 2) (by omega) dX3_countsTooMany_20 ?_
    refine k_top (M u 2) (by rw [sk_ne (by omega)]) ?_
    refine k_cle C 28 dX3_countsTooMany_21 (by decide) (fun c21_5 => ?_) (fun c21_5 => ?_)
    ·
      refine k_iconst C (0) dX3_countsTooMany_28 (by decide) ?_
      exact ret _ _ _ _ dX3_countsTooMany_29 rfl (by exact ⟨(if_neg (by rw [sc_cp, if_pos c1_1]; exact fun h => h c21_5)).symm, by rw [sc_cm, if_pos c1_1]⟩)
    ·
      refine k_iconst C (1) dX3_countsTooMany_24 (by decide) ?_
      refine k_goto C 29 dX3_countsTooMany_25 (by decide) ?_
      exact ret _ _ _ _ dX3_countsTooMany_29 rfl (by exact ⟨(if_pos (by rw [sc_cp, if_pos c1_1]; exact c21_5)).symm, by rw [sc_cm, if_pos c1_1]⟩)

abbrev sc_ix (kd ro : Int32) : Int32 := 2 * kd + ro - 3
def sc_rv (M : sk_M) (k : Nat) (kd ro al : Int32) : Int32 :=
  if ro < 3 ∨ sc_ix kd ro < 0 ∨ 12 ≤ sc_ix kd ro then 0
  else if M (k + 7) (sc_ix kd ro).toNatClampNeg = 0 then 0
  else if 1 < M (k + 7) (sc_ix kd ro).toNatClampNeg then 2
  else if ¬ al = 0 ∧ M (k + 8) (sc_ix kd ro).toNatClampNeg = 1 then 1 else 0
def sc_rm (M : sk_M) (k : Nat) (kd ro al : Int32) : sk_M :=
  if ro < 3 ∨ sc_ix kd ro < 0 ∨ 12 ≤ sc_ix kd ro then M
  else if M (k + 7) (sc_ix kd ro).toNatClampNeg = 0 then sk_ms (sk_ms M (k + 7) (sc_ix kd ro).toNatClampNeg (M (k + 7) (sc_ix kd ro).toNatClampNeg + 1)) (k + 8) (sc_ix kd ro).toNatClampNeg (if al = 0 then 0 else 1)
  else sk_ms M (k + 7) (sc_ix kd ro).toNatClampNeg (M (k + 7) (sc_ix kd ro).toNatClampNeg + 1)
def sc_ov (M : sk_M) (k g e q : Nat) (tm ct : Int32) : Int32 :=
  if ¬ tm = 0 then 5 else if ¬ ct = 0 ∧ 0 < q then 3 else if ¬ M k 12 = 0 ∧ q = 2 then 4 else if ¬ M (g + 1) e = 0 then 0
  else sc_rv M k (M (g + 6) (3 * e + q)) (M (g + 7) (3 * e + q)) (if M (g + 2) e = 1 then 1 else 0)
def sc_om (M : sk_M) (k g e q : Nat) (tm ct : Int32) : sk_M :=
  if ¬ tm = 0 then M else if ¬ ct = 0 ∧ 0 < q then M else if ¬ M k 12 = 0 ∧ q = 2 then M else if ¬ M (g + 1) e = 0 then M
  else sc_rm M k (M (g + 6) (3 * e + q)) (M (g + 7) (3 * e + q)) (if M (g + 2) e = 1 then 1 else 0)
set_option maxHeartbeats 4000000 in
set_option maxRecDepth 100000 in
theorem m_X3_repeatReason (l : Launch) {O : sk_O} (hO : sk_inj O) (M : sk_M) (k : Nat) (kd ro al : Int32) (hk : sk_isK O k) : sk_Mi l yX3_repeatReason (sk_w yX3_repeatReason cX3_repeatReason 6 (some .int)) ({ frames := 0, cells := 0, slots := 0, locals := 0 }) O [.ref (sk_ad O k), .int kd, .int ro, .int al] M (fun r M' => r = (sc_rv M k kd ro al) ∧ M' = (sc_rm M k kd ro al)) := by
  refine sk_mi (by decide) ⟨rfl, rfl⟩ hO (Nat.le_of_ble_eq_true rfl) (fun X A Q C ret => ?_)
  show sk_W l X O A Q 6 0 0 M 0 [(0, .ref (sk_ad O k)), (1, .int kd), (2, .int ro), (3, .int al)] []
  refine k_iconst C (2) dX3_repeatReason_0 (by decide) ?_
  refine k_iloadn C 1 dX3_repeatReason_1 rfl ?_
  refine k_imul C dX3_repeatReason_2 ?_
  refine k_iloadn C 2 dX3_repeatReason_3 rfl ?_
  refine k_iadd C dX3_repeatReason_4 ?_
  refine k_iconst C (3) dX3_repeatReason_5 (by decide) ?_
  refine k_isub C dX3_repeatReason_6 ?_
  refine k_istore C [1, 2, 3, 4, 0] [(0, .ref (sk_ad O k)), (1, .int kd), (2, .int ro), (3, .int al), (4, .int ((((2) * kd) + ro) - (3)))] dX3_repeatReason_7 (by decide) rfl ?_
  refine k_iloadn C 2 dX3_repeatReason_9 rfl ?_
  refine k_iconst C (3) dX3_repeatReason_10 (by decide) ?_
  refine k_clt C 26 dX3_repeatReason_11 (by decide) (fun c11_1 => ?_) (fun c11_1 => ?_)
  ·
    refine k_iconst C (0) dX3_repeatReason_26 (by decide) ?_
    exact ret _ _ _ _ dX3_repeatReason_27 rfl (by exact ⟨by rw [sc_rv, if_pos (Or.inl c11_1)], by rw [sc_rm, if_pos (Or.inl c11_1)]⟩)
  ·
    refine k_iload C 4 dX3_repeatReason_14 rfl ?_
    refine k_zlt C 26 dX3_repeatReason_16 (by decide) (fun c16_2 => ?_) (fun c16_2 => ?_)
    ·
      refine k_iconst C (0) dX3_repeatReason_26 (by decide) ?_
      exact ret _ _ _ _ dX3_repeatReason_27 rfl (by exact ⟨by rw [sc_rv, if_pos (Or.inr (Or.inl c16_2))], by rw [sc_rm, if_pos (Or.inr (Or.inl c16_2))]⟩)
    ·
      refine k_iload C 4 dX3_repeatReason_19 rfl ?_
      refine k_bipush C (12) dX3_repeatReason_21 (by decide) ?_
      refine k_clt C 28 dX3_repeatReason_23 (by decide) (fun c23_3 => ?_) (fun c23_3 => ?_)
      ·
        obtain ⟨ix, ib⟩ := sk_ix (m := 12) ⟨c16_2, Int32.not_le.mpr c23_3⟩ rfl (by omega)
        refine k_aloadn C 0 dX3_repeatReason_28 rfl ?_
        refine k_getr C (j := 6) (k' := k + 7) kcl_X3 fl_X3_30 hk.1 (by decide) rfl dX3_repeatReason_29 ?_
        refine k_iload C 4 dX3_repeatReason_32 rfl ?_
        refine k_ialdn C ((sc_ix kd ro).toNatClampNeg) hk.2.2.2.2.2.2.2.1 ix ⟨ib, by omega⟩ dX3_repeatReason_34 ?_
        refine k_istore C [1, 2, 3, 4, 5, 0] [(0, .ref (sk_ad O k)), (1, .int kd), (2, .int ro), (3, .int al), (4, .int ((((2) * kd) + ro) - (3))), (5, .int (M (k + 7) ((sc_ix kd ro).toNatClampNeg)))] dX3_repeatReason_35 (by decide) rfl ?_
        refine k_aloadn C 0 dX3_repeatReason_37 rfl ?_
        refine k_getr C (j := 6) (k' := k + 7) kcl_X3 fl_X3_30 hk.1 (by decide) rfl dX3_repeatReason_38 ?_
        refine k_iload C 4 dX3_repeatReason_41 rfl ?_
        refine k_iload C 5 dX3_repeatReason_43 rfl ?_
        refine k_iconst C (1) dX3_repeatReason_45 (by decide) ?_
        refine k_iadd C dX3_repeatReason_46 ?_
        refine k_iast C ((sc_ix kd ro).toNatClampNeg) hk.2.2.2.2.2.2.2.1 ix ⟨ib, by omega⟩ dX3_repeatReason_47 ?_
        refine k_iload C 5 dX3_repeatReason_48 rfl ?_
        refine k_zne C 71 dX3_repeatReason_50 (by decide) (fun c50_4 => ?_) (fun c50_4 => ?_)
        ·
          refine k_iload C 5 dX3_repeatReason_71 rfl ?_
          refine k_iconst C (1) dX3_repeatReason_73 (by decide) ?_
          refine k_cle C 79 dX3_repeatReason_74 (by decide) (fun c74_5 => ?_) (fun c74_5 => ?_)
          ·
            refine k_iloadn C 3 dX3_repeatReason_79 rfl ?_
            refine k_zeq C 98 dX3_repeatReason_80 (by decide) (fun c80_6 => ?_) (fun c80_6 => ?_)
            ·
              refine k_iconst C (0) dX3_repeatReason_98 (by decide) ?_
              exact ret _ _ _ _ dX3_repeatReason_99 rfl (by exact ⟨by rw [sc_rv, if_neg (fun h => h.elim c11_1 (fun h => h.elim c16_2 (fun z => absurd z (Int32.not_le.mpr c23_3)))), if_neg c50_4, if_neg (Int32.not_lt.mpr c74_5), if_neg (fun h => h.1 c80_6)], by rw [sc_rm, if_neg (fun h => h.elim c11_1 (fun h => h.elim c16_2 (fun z => absurd z (Int32.not_le.mpr c23_3)))), if_neg c50_4]⟩)
            ·
              refine k_aloadn C 0 dX3_repeatReason_83 rfl ?_
              refine k_getr C (j := 7) (k' := k + 8) kcl_X3 fl_X3_33 hk.1 (by decide) rfl dX3_repeatReason_84 ?_
              refine k_iload C 4 dX3_repeatReason_87 rfl ?_
              refine k_ialdn C ((sc_ix kd ro).toNatClampNeg) hk.2.2.2.2.2.2.2.2 ix ⟨ib, by omega⟩ dX3_repeatReason_89 ?_
              refine k_top (M (k + 8) ((sc_ix kd ro).toNatClampNeg)) (by rw [sk_ne (by omega)]) ?_
              refine k_iconst C (1) dX3_repeatReason_90 (by decide) ?_
              refine k_cne C 98 dX3_repeatReason_91 (by decide) (fun c91_7 => ?_) (fun c91_7 => ?_)
              ·
                refine k_iconst C (0) dX3_repeatReason_98 (by decide) ?_
                exact ret _ _ _ _ dX3_repeatReason_99 rfl (by exact ⟨by rw [sc_rv, if_neg (fun h => h.elim c11_1 (fun h => h.elim c16_2 (fun z => absurd z (Int32.not_le.mpr c23_3)))), if_neg c50_4, if_neg (Int32.not_lt.mpr c74_5), if_neg (fun h => c91_7 h.2)], by rw [sc_rm, if_neg (fun h => h.elim c11_1 (fun h => h.elim c16_2 (fun z => absurd z (Int32.not_le.mpr c23_3)))), if_neg c50_4]⟩)
              ·
                refine k_iconst C (1) dX3_repeatReason_94 (by decide) ?_
                refine k_goto C 99 dX3_repeatReason_95 (by decide) ?_
                exact ret _ _ _ _ dX3_repeatReason_99 rfl (by exact ⟨by rw [sc_rv, if_neg (fun h => h.elim c11_1 (fun h => h.elim c16_2 (fun z => absurd z (Int32.not_le.mpr c23_3)))), if_neg c50_4, if_neg (Int32.not_lt.mpr c74_5), if_pos ⟨c80_6, c91_7⟩], by rw [sc_rm, if_neg (fun h => h.elim c11_1 (fun h => h.elim c16_2 (fun z => absurd z (Int32.not_le.mpr c23_3)))), if_neg c50_4]⟩)
          ·
            refine k_iconst C (2) dX3_repeatReason_77 (by decide) ?_
            exact ret _ _ _ _ dX3_repeatReason_78 rfl (by exact ⟨by rw [sc_rv, if_neg (fun h => h.elim c11_1 (fun h => h.elim c16_2 (fun z => absurd z (Int32.not_le.mpr c23_3)))), if_neg c50_4, if_pos (Int32.not_le.mp c74_5)], by rw [sc_rm, if_neg (fun h => h.elim c11_1 (fun h => h.elim c16_2 (fun z => absurd z (Int32.not_le.mpr c23_3)))), if_neg c50_4]⟩)
        ·
          refine k_aloadn C 0 dX3_repeatReason_53 rfl ?_
          refine k_getr C (j := 7) (k' := k + 8) kcl_X3 fl_X3_33 hk.1 (by decide) rfl dX3_repeatReason_54 ?_
          refine k_iload C 4 dX3_repeatReason_57 rfl ?_
          refine k_iloadn C 3 dX3_repeatReason_59 rfl ?_
          refine k_zeq C 67 dX3_repeatReason_60 (by decide) (fun c60_8 => ?_) (fun c60_8 => ?_)
          ·
            refine k_iconst C (0) dX3_repeatReason_67 (by decide) ?_
            refine k_iast C ((sc_ix kd ro).toNatClampNeg) hk.2.2.2.2.2.2.2.2 ix ⟨ib, by omega⟩ dX3_repeatReason_68 ?_
            refine k_iconst C (0) dX3_repeatReason_69 (by decide) ?_
            exact ret _ _ _ _ dX3_repeatReason_70 rfl (by exact ⟨by rw [sc_rv, if_neg (fun h => h.elim c11_1 (fun h => h.elim c16_2 (fun z => absurd z (Int32.not_le.mpr c23_3)))), if_pos c50_4], by rw [sc_rm, if_neg (fun h => h.elim c11_1 (fun h => h.elim c16_2 (fun z => absurd z (Int32.not_le.mpr c23_3)))), if_pos c50_4, if_pos c60_8]⟩)
          ·
            refine k_iconst C (1) dX3_repeatReason_63 (by decide) ?_
            refine k_goto C 68 dX3_repeatReason_64 (by decide) ?_
            refine k_iast C ((sc_ix kd ro).toNatClampNeg) hk.2.2.2.2.2.2.2.2 ix ⟨ib, by omega⟩ dX3_repeatReason_68 ?_
            refine k_iconst C (0) dX3_repeatReason_69 (by decide) ?_
            exact ret _ _ _ _ dX3_repeatReason_70 rfl (by exact ⟨by rw [sc_rv, if_neg (fun h => h.elim c11_1 (fun h => h.elim c16_2 (fun z => absurd z (Int32.not_le.mpr c23_3)))), if_pos c50_4], by rw [sc_rm, if_neg (fun h => h.elim c11_1 (fun h => h.elim c16_2 (fun z => absurd z (Int32.not_le.mpr c23_3)))), if_pos c50_4, if_neg c60_8]⟩)
      ·
        refine k_iconst C (0) dX3_repeatReason_26 (by decide) ?_
        exact ret _ _ _ _ dX3_repeatReason_27 rfl (by exact ⟨by rw [sc_rv, if_pos (Or.inr (Or.inr (Int32.not_lt.mp c23_3)))], by rw [sc_rm, if_pos (Or.inr (Or.inr (Int32.not_lt.mp c23_3)))]⟩)

set_option maxHeartbeats 4000000 in
set_option maxRecDepth 100000 in
theorem m_X3_reasonOf (l : Launch) {O : sk_O} (hO : sk_inj O) (M : sk_M) (k g e q : Nat) (tm ct : Int32) (hk : sk_isK O k) (hg : sk_isP O g) (he : e < 12) (hq : q < 3) : sk_Mi l yX3_reasonOf (sk_w yX3_reasonOf cX3_reasonOf 7 (some .int)) ({ frames := 1, cells := 0, slots := 0, locals := 25 }) O [.ref (sk_ad O k), .ref (sk_ad O g), .int (nI e), .int (nI q), .int tm, .int ct] M (fun r M' => r = (sc_ov M k g e q tm ct) ∧ M' = (sc_om M k g e q tm ct)) := by
  refine sk_mi (by decide) ⟨rfl, rfl⟩ hO (Nat.le_of_ble_eq_true rfl) (fun X A Q C ret => ?_)
  show sk_W l X O A Q 7 0 0 M 0 [(0, .ref (sk_ad O k)), (1, .ref (sk_ad O g)), (2, .int (nI e)), (3, .int (nI q)), (4, .int tm), (5, .int ct)] []
  refine k_iload C 4 dX3_reasonOf_0 rfl ?_
  refine k_zeq C 7 dX3_reasonOf_2 (by decide) (fun c2_1 => ?_) (fun c2_1 => ?_)
  ·
    refine k_iload C 5 dX3_reasonOf_7 rfl ?_
    refine k_zeq C 18 dX3_reasonOf_9 (by decide) (fun c9_2 => ?_) (fun c9_2 => ?_)
    ·
      refine k_aloadn C 0 dX3_reasonOf_18 rfl ?_
      refine k_geti C (j := 12) kcl_X3 fl_X3_55 hk.1 (by decide) rfl dX3_reasonOf_19 ?_
      refine k_zeq C 32 dX3_reasonOf_22 (by decide) (fun c22_3 => ?_) (fun c22_3 => ?_)
      ·
        refine k_aloadn C 1 dX3_reasonOf_32 rfl ?_
        refine k_getr C (j := 0) (k' := g + 1) kcl_X2 fl_X3_95 hg.1 (by decide) rfl dX3_reasonOf_33 ?_
        refine k_iloadn C 2 dX3_reasonOf_36 rfl ?_
        refine k_ialdn C e hg.2.1 rfl (by omega) dX3_reasonOf_37 ?_
        refine k_zeq C 43 dX3_reasonOf_38 (by decide) (fun c38_4 => ?_) (fun c38_4 => ?_)
        ·
          refine k_iconst C (3) dX3_reasonOf_43 (by decide) ?_
          refine k_iloadn C 2 dX3_reasonOf_44 rfl ?_
          refine k_imul C dX3_reasonOf_45 ?_
          refine k_iloadn C 3 dX3_reasonOf_46 rfl ?_
          refine k_iadd C dX3_reasonOf_47 ?_
          refine k_istore C [1, 2, 3, 4, 5, 6, 0] [(0, .ref (sk_ad O k)), (1, .ref (sk_ad O g)), (2, .int (nI e)), (3, .int (nI q)), (4, .int tm), (5, .int ct), (6, .int (((3) * (nI e)) + (nI q)))] dX3_reasonOf_48 (by decide) rfl ?_
          refine k_aloadn C 0 dX3_reasonOf_50 rfl ?_
          refine k_aloadn C 1 dX3_reasonOf_51 rfl ?_
          refine k_getr C (j := 5) (k' := g + 6) kcl_X2 fl_X3_109 hg.1 (by decide) rfl dX3_reasonOf_52 ?_
          refine k_iload C 6 dX3_reasonOf_55 rfl ?_
          refine k_ialdn C (3 * e + q) hg.2.2.2.2.2.2.1 (sk_nadd (sk_nmul (rfl : ((3) : Int32) = nI 3) rfl) rfl) (by omega) dX3_reasonOf_57 ?_
          refine k_aloadn C 1 dX3_reasonOf_58 rfl ?_
          refine k_getr C (j := 6) (k' := g + 7) kcl_X2 fl_X3_112 hg.1 (by decide) rfl dX3_reasonOf_59 ?_
          refine k_iload C 6 dX3_reasonOf_62 rfl ?_
          refine k_ialdn C (3 * e + q) hg.2.2.2.2.2.2.2.1 (sk_nadd (sk_nmul (rfl : ((3) : Int32) = nI 3) rfl) rfl) (by omega) dX3_reasonOf_64 ?_
          refine k_aloadn C 1 dX3_reasonOf_65 rfl ?_
          refine k_getr C (j := 1) (k' := g + 2) kcl_X2 fl_X3_98 hg.1 (by decide) rfl dX3_reasonOf_66 ?_
          refine k_iloadn C 2 dX3_reasonOf_69 rfl ?_
          refine k_ialdn C e hg.2.2.1 rfl (by omega) dX3_reasonOf_70 ?_
          refine k_iconst C (1) dX3_reasonOf_71 (by decide) ?_
          have J80 : sk_W l X O A Q 7 0 0 M 80 [(0, .ref (sk_ad O k)), (1, .ref (sk_ad O g)), (2, .int (nI e)), (3, .int (nI q)), (4, .int tm), (5, .int ct), (6, .int (((3) * (nI e)) + (nI q)))] [.int (if M (g + 2) e = 1 then 1 else 0), .int (M (g + 7) (3 * e + q)), .int (M (g + 6) (3 * e + q)), .ref (sk_ad O k)] := by
            refine k_vi C (as := [.int (M (g + 6) (3 * e + q)), .int (M (g + 7) (3 * e + q)), .int (if M (g + 2) e = 1 then 1 else 0)]) yvX3_repeatReason viX3_repeatReason ml_X3_133 (m_X3_repeatReason l C.2.2.2.1 M (k := k) (kd := M (g + 6) (3 * e + q)) (ro := M (g + 7) (3 * e + q)) (al := if M (g + 2) e = 1 then 1 else 0) (hk := hk)) hk.1 rfl rfl rfl (Nat.le_of_ble_eq_true rfl) (by decide) dX3_reasonOf_80 (fun x80_5 M80_5 h80_5 => ?_)
            rw [h80_5.1, h80_5.2]
            exact ret _ _ _ _ dX3_reasonOf_83 rfl (by exact ⟨by rw [sc_ov, if_neg (show ¬ (¬ tm = 0) from fun h => h c2_1), if_neg (show ¬ (¬ ct = 0 ∧ 0 < q) from fun h => h.1 c9_2), if_neg (show ¬ (¬ M k 12 = 0 ∧ q = 2) from fun h => h.1 c22_3), if_neg (show ¬ (¬ M (g + 1) e = 0) from fun h => h c38_4)], by rw [sc_om, if_neg (show ¬ (¬ tm = 0) from fun h => h c2_1), if_neg (show ¬ (¬ ct = 0 ∧ 0 < q) from fun h => h.1 c9_2), if_neg (show ¬ (¬ M k 12 = 0 ∧ q = 2) from fun h => h.1 c22_3), if_neg (show ¬ (¬ M (g + 1) e = 0) from fun h => h c38_4)]⟩)
          refine k_cne C 79 dX3_reasonOf_72 (by decide) (fun c72_6 => ?_) (fun c72_6 => ?_)
          ·
            refine k_iconst C (0) dX3_reasonOf_79 (by decide) ?_
            exact k_eq rfl rfl rfl (by rw [if_neg c72_6]) J80
          ·
            refine k_iconst C (1) dX3_reasonOf_75 (by decide) ?_
            refine k_goto C 80 dX3_reasonOf_76 (by decide) ?_
            exact k_eq rfl rfl rfl (by rw [if_pos c72_6]) J80
        ·
          refine k_iconst C (0) dX3_reasonOf_41 (by decide) ?_
          exact ret _ _ _ _ dX3_reasonOf_42 rfl (by exact ⟨by rw [sc_ov, if_neg (show ¬ (¬ tm = 0) from fun h => h c2_1), if_neg (show ¬ (¬ ct = 0 ∧ 0 < q) from fun h => h.1 c9_2), if_neg (show ¬ (¬ M k 12 = 0 ∧ q = 2) from fun h => h.1 c22_3), if_pos (show ¬ M (g + 1) e = 0 from c38_4)], by rw [sc_om, if_neg (show ¬ (¬ tm = 0) from fun h => h c2_1), if_neg (show ¬ (¬ ct = 0 ∧ 0 < q) from fun h => h.1 c9_2), if_neg (show ¬ (¬ M k 12 = 0 ∧ q = 2) from fun h => h.1 c22_3), if_pos (show ¬ M (g + 1) e = 0 from c38_4)]⟩)
      ·
        refine k_iloadn C 3 dX3_reasonOf_25 rfl ?_
        refine k_iconst C (2) dX3_reasonOf_26 (by decide) ?_
        refine k_cne C 32 dX3_reasonOf_27 (by decide) (fun c27_7 => ?_) (fun c27_7 => ?_)
        ·
          have nc27_7 : ¬ (q = 2) := fun h => c27_7 ((sk_qI (a := q) (b := 2) rfl (rfl : ((2) : Int32) = nI 2) (by omega) (by omega)).mpr h)
          refine k_aloadn C 1 dX3_reasonOf_32 rfl ?_
          refine k_getr C (j := 0) (k' := g + 1) kcl_X2 fl_X3_95 hg.1 (by decide) rfl dX3_reasonOf_33 ?_
          refine k_iloadn C 2 dX3_reasonOf_36 rfl ?_
          refine k_ialdn C e hg.2.1 rfl (by omega) dX3_reasonOf_37 ?_
          refine k_zeq C 43 dX3_reasonOf_38 (by decide) (fun c38_8 => ?_) (fun c38_8 => ?_)
          ·
            refine k_iconst C (3) dX3_reasonOf_43 (by decide) ?_
            refine k_iloadn C 2 dX3_reasonOf_44 rfl ?_
            refine k_imul C dX3_reasonOf_45 ?_
            refine k_iloadn C 3 dX3_reasonOf_46 rfl ?_
            refine k_iadd C dX3_reasonOf_47 ?_
            refine k_istore C [1, 2, 3, 4, 5, 6, 0] [(0, .ref (sk_ad O k)), (1, .ref (sk_ad O g)), (2, .int (nI e)), (3, .int (nI q)), (4, .int tm), (5, .int ct), (6, .int (((3) * (nI e)) + (nI q)))] dX3_reasonOf_48 (by decide) rfl ?_
            refine k_aloadn C 0 dX3_reasonOf_50 rfl ?_
            refine k_aloadn C 1 dX3_reasonOf_51 rfl ?_
            refine k_getr C (j := 5) (k' := g + 6) kcl_X2 fl_X3_109 hg.1 (by decide) rfl dX3_reasonOf_52 ?_
            refine k_iload C 6 dX3_reasonOf_55 rfl ?_
            refine k_ialdn C (3 * e + q) hg.2.2.2.2.2.2.1 (sk_nadd (sk_nmul (rfl : ((3) : Int32) = nI 3) rfl) rfl) (by omega) dX3_reasonOf_57 ?_
            refine k_aloadn C 1 dX3_reasonOf_58 rfl ?_
            refine k_getr C (j := 6) (k' := g + 7) kcl_X2 fl_X3_112 hg.1 (by decide) rfl dX3_reasonOf_59 ?_
            refine k_iload C 6 dX3_reasonOf_62 rfl ?_
            refine k_ialdn C (3 * e + q) hg.2.2.2.2.2.2.2.1 (sk_nadd (sk_nmul (rfl : ((3) : Int32) = nI 3) rfl) rfl) (by omega) dX3_reasonOf_64 ?_
            refine k_aloadn C 1 dX3_reasonOf_65 rfl ?_
            refine k_getr C (j := 1) (k' := g + 2) kcl_X2 fl_X3_98 hg.1 (by decide) rfl dX3_reasonOf_66 ?_
            refine k_iloadn C 2 dX3_reasonOf_69 rfl ?_
            refine k_ialdn C e hg.2.2.1 rfl (by omega) dX3_reasonOf_70 ?_
            refine k_iconst C (1) dX3_reasonOf_71 (by decide) ?_
            have J80 : sk_W l X O A Q 7 0 0 M 80 [(0, .ref (sk_ad O k)), (1, .ref (sk_ad O g)), (2, .int (nI e)), (3, .int (nI q)), (4, .int tm), (5, .int ct), (6, .int (((3) * (nI e)) + (nI q)))] [.int (if M (g + 2) e = 1 then 1 else 0), .int (M (g + 7) (3 * e + q)), .int (M (g + 6) (3 * e + q)), .ref (sk_ad O k)] := by
              refine k_vi C (as := [.int (M (g + 6) (3 * e + q)), .int (M (g + 7) (3 * e + q)), .int (if M (g + 2) e = 1 then 1 else 0)]) yvX3_repeatReason viX3_repeatReason ml_X3_133 (m_X3_repeatReason l C.2.2.2.1 M (k := k) (kd := M (g + 6) (3 * e + q)) (ro := M (g + 7) (3 * e + q)) (al := if M (g + 2) e = 1 then 1 else 0) (hk := hk)) hk.1 rfl rfl rfl (Nat.le_of_ble_eq_true rfl) (by decide) dX3_reasonOf_80 (fun x80_9 M80_9 h80_9 => ?_)
              rw [h80_9.1, h80_9.2]
              exact ret _ _ _ _ dX3_reasonOf_83 rfl (by exact ⟨by rw [sc_ov, if_neg (show ¬ (¬ tm = 0) from fun h => h c2_1), if_neg (show ¬ (¬ ct = 0 ∧ 0 < q) from fun h => h.1 c9_2), if_neg (show ¬ (¬ M k 12 = 0 ∧ q = 2) from fun h => absurd h.2 (by omega)), if_neg (show ¬ (¬ M (g + 1) e = 0) from fun h => h c38_8)], by rw [sc_om, if_neg (show ¬ (¬ tm = 0) from fun h => h c2_1), if_neg (show ¬ (¬ ct = 0 ∧ 0 < q) from fun h => h.1 c9_2), if_neg (show ¬ (¬ M k 12 = 0 ∧ q = 2) from fun h => absurd h.2 (by omega)), if_neg (show ¬ (¬ M (g + 1) e = 0) from fun h => h c38_8)]⟩)
            refine k_cne C 79 dX3_reasonOf_72 (by decide) (fun c72_10 => ?_) (fun c72_10 => ?_)
            ·
              refine k_iconst C (0) dX3_reasonOf_79 (by decide) ?_
              exact k_eq rfl rfl rfl (by rw [if_neg c72_10]) J80
            ·
              refine k_iconst C (1) dX3_reasonOf_75 (by decide) ?_
              refine k_goto C 80 dX3_reasonOf_76 (by decide) ?_
              exact k_eq rfl rfl rfl (by rw [if_pos c72_10]) J80
          ·
            refine k_iconst C (0) dX3_reasonOf_41 (by decide) ?_
            exact ret _ _ _ _ dX3_reasonOf_42 rfl (by exact ⟨by rw [sc_ov, if_neg (show ¬ (¬ tm = 0) from fun h => h c2_1), if_neg (show ¬ (¬ ct = 0 ∧ 0 < q) from fun h => h.1 c9_2), if_neg (show ¬ (¬ M k 12 = 0 ∧ q = 2) from fun h => absurd h.2 (by omega)), if_pos (show ¬ M (g + 1) e = 0 from c38_8)], by rw [sc_om, if_neg (show ¬ (¬ tm = 0) from fun h => h c2_1), if_neg (show ¬ (¬ ct = 0 ∧ 0 < q) from fun h => h.1 c9_2), if_neg (show ¬ (¬ M k 12 = 0 ∧ q = 2) from fun h => absurd h.2 (by omega)), if_pos (show ¬ M (g + 1) e = 0 from c38_8)]⟩)
        ·
          have nc27_7 : q = 2 := (sk_qI (a := q) (b := 2) rfl (rfl : ((2) : Int32) = nI 2) (by omega) (by omega)).mp c27_7
          refine k_iconst C (4) dX3_reasonOf_30 (by decide) ?_
          exact ret _ _ _ _ dX3_reasonOf_31 rfl (by exact ⟨by rw [sc_ov, if_neg (show ¬ (¬ tm = 0) from fun h => h c2_1), if_neg (show ¬ (¬ ct = 0 ∧ 0 < q) from fun h => h.1 c9_2), if_pos (show ¬ M k 12 = 0 ∧ q = 2 from ⟨c22_3, by omega⟩)], by rw [sc_om, if_neg (show ¬ (¬ tm = 0) from fun h => h c2_1), if_neg (show ¬ (¬ ct = 0 ∧ 0 < q) from fun h => h.1 c9_2), if_pos (show ¬ M k 12 = 0 ∧ q = 2 from ⟨c22_3, by omega⟩)]⟩)
    ·
      refine k_iloadn C 3 dX3_reasonOf_12 rfl ?_
      refine k_zle C 18 dX3_reasonOf_13 (by decide) (fun c13_11 => ?_) (fun c13_11 => ?_)
      ·
        have nc13_11 : q ≤ 0 := (sk_eI (a := q) (b := 0) rfl (rfl : ((0) : Int32) = nI 0) (by omega) (by omega)).mp c13_11
        refine k_aloadn C 0 dX3_reasonOf_18 rfl ?_
        refine k_geti C (j := 12) kcl_X3 fl_X3_55 hk.1 (by decide) rfl dX3_reasonOf_19 ?_
        refine k_zeq C 32 dX3_reasonOf_22 (by decide) (fun c22_12 => ?_) (fun c22_12 => ?_)
        ·
          refine k_aloadn C 1 dX3_reasonOf_32 rfl ?_
          refine k_getr C (j := 0) (k' := g + 1) kcl_X2 fl_X3_95 hg.1 (by decide) rfl dX3_reasonOf_33 ?_
          refine k_iloadn C 2 dX3_reasonOf_36 rfl ?_
          refine k_ialdn C e hg.2.1 rfl (by omega) dX3_reasonOf_37 ?_
          refine k_zeq C 43 dX3_reasonOf_38 (by decide) (fun c38_13 => ?_) (fun c38_13 => ?_)
          ·
            refine k_iconst C (3) dX3_reasonOf_43 (by decide) ?_
            refine k_iloadn C 2 dX3_reasonOf_44 rfl ?_
            refine k_imul C dX3_reasonOf_45 ?_
            refine k_iloadn C 3 dX3_reasonOf_46 rfl ?_
            refine k_iadd C dX3_reasonOf_47 ?_
            refine k_istore C [1, 2, 3, 4, 5, 6, 0] [(0, .ref (sk_ad O k)), (1, .ref (sk_ad O g)), (2, .int (nI e)), (3, .int (nI q)), (4, .int tm), (5, .int ct), (6, .int (((3) * (nI e)) + (nI q)))] dX3_reasonOf_48 (by decide) rfl ?_
            refine k_aloadn C 0 dX3_reasonOf_50 rfl ?_
            refine k_aloadn C 1 dX3_reasonOf_51 rfl ?_
            refine k_getr C (j := 5) (k' := g + 6) kcl_X2 fl_X3_109 hg.1 (by decide) rfl dX3_reasonOf_52 ?_
            refine k_iload C 6 dX3_reasonOf_55 rfl ?_
            refine k_ialdn C (3 * e + q) hg.2.2.2.2.2.2.1 (sk_nadd (sk_nmul (rfl : ((3) : Int32) = nI 3) rfl) rfl) (by omega) dX3_reasonOf_57 ?_
            refine k_aloadn C 1 dX3_reasonOf_58 rfl ?_
            refine k_getr C (j := 6) (k' := g + 7) kcl_X2 fl_X3_112 hg.1 (by decide) rfl dX3_reasonOf_59 ?_
            refine k_iload C 6 dX3_reasonOf_62 rfl ?_
            refine k_ialdn C (3 * e + q) hg.2.2.2.2.2.2.2.1 (sk_nadd (sk_nmul (rfl : ((3) : Int32) = nI 3) rfl) rfl) (by omega) dX3_reasonOf_64 ?_
            refine k_aloadn C 1 dX3_reasonOf_65 rfl ?_
            refine k_getr C (j := 1) (k' := g + 2) kcl_X2 fl_X3_98 hg.1 (by decide) rfl dX3_reasonOf_66 ?_
            refine k_iloadn C 2 dX3_reasonOf_69 rfl ?_
            refine k_ialdn C e hg.2.2.1 rfl (by omega) dX3_reasonOf_70 ?_
            refine k_iconst C (1) dX3_reasonOf_71 (by decide) ?_
            have J80 : sk_W l X O A Q 7 0 0 M 80 [(0, .ref (sk_ad O k)), (1, .ref (sk_ad O g)), (2, .int (nI e)), (3, .int (nI q)), (4, .int tm), (5, .int ct), (6, .int (((3) * (nI e)) + (nI q)))] [.int (if M (g + 2) e = 1 then 1 else 0), .int (M (g + 7) (3 * e + q)), .int (M (g + 6) (3 * e + q)), .ref (sk_ad O k)] := by
              refine k_vi C (as := [.int (M (g + 6) (3 * e + q)), .int (M (g + 7) (3 * e + q)), .int (if M (g + 2) e = 1 then 1 else 0)]) yvX3_repeatReason viX3_repeatReason ml_X3_133 (m_X3_repeatReason l C.2.2.2.1 M (k := k) (kd := M (g + 6) (3 * e + q)) (ro := M (g + 7) (3 * e + q)) (al := if M (g + 2) e = 1 then 1 else 0) (hk := hk)) hk.1 rfl rfl rfl (Nat.le_of_ble_eq_true rfl) (by decide) dX3_reasonOf_80 (fun x80_14 M80_14 h80_14 => ?_)
              rw [h80_14.1, h80_14.2]
              exact ret _ _ _ _ dX3_reasonOf_83 rfl (by exact ⟨by rw [sc_ov, if_neg (show ¬ (¬ tm = 0) from fun h => h c2_1), if_neg (show ¬ (¬ ct = 0 ∧ 0 < q) from fun h => absurd h.2 (by omega)), if_neg (show ¬ (¬ M k 12 = 0 ∧ q = 2) from fun h => h.1 c22_12), if_neg (show ¬ (¬ M (g + 1) e = 0) from fun h => h c38_13)], by rw [sc_om, if_neg (show ¬ (¬ tm = 0) from fun h => h c2_1), if_neg (show ¬ (¬ ct = 0 ∧ 0 < q) from fun h => absurd h.2 (by omega)), if_neg (show ¬ (¬ M k 12 = 0 ∧ q = 2) from fun h => h.1 c22_12), if_neg (show ¬ (¬ M (g + 1) e = 0) from fun h => h c38_13)]⟩)
            refine k_cne C 79 dX3_reasonOf_72 (by decide) (fun c72_15 => ?_) (fun c72_15 => ?_)
            ·
              refine k_iconst C (0) dX3_reasonOf_79 (by decide) ?_
              exact k_eq rfl rfl rfl (by rw [if_neg c72_15]) J80
            ·
              refine k_iconst C (1) dX3_reasonOf_75 (by decide) ?_
              refine k_goto C 80 dX3_reasonOf_76 (by decide) ?_
              exact k_eq rfl rfl rfl (by rw [if_pos c72_15]) J80
          ·
            refine k_iconst C (0) dX3_reasonOf_41 (by decide) ?_
            exact ret _ _ _ _ dX3_reasonOf_42 rfl (by exact ⟨by rw [sc_ov, if_neg (show ¬ (¬ tm = 0) from fun h => h c2_1), if_neg (show ¬ (¬ ct = 0 ∧ 0 < q) from fun h => absurd h.2 (by omega)), if_neg (show ¬ (¬ M k 12 = 0 ∧ q = 2) from fun h => h.1 c22_12), if_pos (show ¬ M (g + 1) e = 0 from c38_13)], by rw [sc_om, if_neg (show ¬ (¬ tm = 0) from fun h => h c2_1), if_neg (show ¬ (¬ ct = 0 ∧ 0 < q) from fun h => absurd h.2 (by omega)), if_neg (show ¬ (¬ M k 12 = 0 ∧ q = 2) from fun h => h.1 c22_12), if_pos (show ¬ M (g + 1) e = 0 from c38_13)]⟩)
        ·
          refine k_iloadn C 3 dX3_reasonOf_25 rfl ?_
          refine k_iconst C (2) dX3_reasonOf_26 (by decide) ?_
          refine k_cne C 32 dX3_reasonOf_27 (by decide) (fun c27_16 => ?_) (fun c27_16 => ?_)
          ·
            have nc27_16 : ¬ (q = 2) := fun h => c27_16 ((sk_qI (a := q) (b := 2) rfl (rfl : ((2) : Int32) = nI 2) (by omega) (by omega)).mpr h)
            refine k_aloadn C 1 dX3_reasonOf_32 rfl ?_
            refine k_getr C (j := 0) (k' := g + 1) kcl_X2 fl_X3_95 hg.1 (by decide) rfl dX3_reasonOf_33 ?_
            refine k_iloadn C 2 dX3_reasonOf_36 rfl ?_
            refine k_ialdn C e hg.2.1 rfl (by omega) dX3_reasonOf_37 ?_
            refine k_zeq C 43 dX3_reasonOf_38 (by decide) (fun c38_17 => ?_) (fun c38_17 => ?_)
            ·
              refine k_iconst C (3) dX3_reasonOf_43 (by decide) ?_
              refine k_iloadn C 2 dX3_reasonOf_44 rfl ?_
              refine k_imul C dX3_reasonOf_45 ?_
              refine k_iloadn C 3 dX3_reasonOf_46 rfl ?_
              refine k_iadd C dX3_reasonOf_47 ?_
              refine k_istore C [1, 2, 3, 4, 5, 6, 0] [(0, .ref (sk_ad O k)), (1, .ref (sk_ad O g)), (2, .int (nI e)), (3, .int (nI q)), (4, .int tm), (5, .int ct), (6, .int (((3) * (nI e)) + (nI q)))] dX3_reasonOf_48 (by decide) rfl ?_
              refine k_aloadn C 0 dX3_reasonOf_50 rfl ?_
              refine k_aloadn C 1 dX3_reasonOf_51 rfl ?_
              refine k_getr C (j := 5) (k' := g + 6) kcl_X2 fl_X3_109 hg.1 (by decide) rfl dX3_reasonOf_52 ?_
              refine k_iload C 6 dX3_reasonOf_55 rfl ?_
              refine k_ialdn C (3 * e + q) hg.2.2.2.2.2.2.1 (sk_nadd (sk_nmul (rfl : ((3) : Int32) = nI 3) rfl) rfl) (by omega) dX3_reasonOf_57 ?_
              refine k_aloadn C 1 dX3_reasonOf_58 rfl ?_
              refine k_getr C (j := 6) (k' := g + 7) kcl_X2 fl_X3_112 hg.1 (by decide) rfl dX3_reasonOf_59 ?_
              refine k_iload C 6 dX3_reasonOf_62 rfl ?_
              refine k_ialdn C (3 * e + q) hg.2.2.2.2.2.2.2.1 (sk_nadd (sk_nmul (rfl : ((3) : Int32) = nI 3) rfl) rfl) (by omega) dX3_reasonOf_64 ?_
              refine k_aloadn C 1 dX3_reasonOf_65 rfl ?_
              refine k_getr C (j := 1) (k' := g + 2) kcl_X2 fl_X3_98 hg.1 (by decide) rfl dX3_reasonOf_66 ?_
              refine k_iloadn C 2 dX3_reasonOf_69 rfl ?_
              refine k_ialdn C e hg.2.2.1 rfl (by omega) dX3_reasonOf_70 ?_
              refine k_iconst C (1) dX3_reasonOf_71 (by decide) ?_
              have J80 : sk_W l X O A Q 7 0 0 M 80 [(0, .ref (sk_ad O k)), (1, .ref (sk_ad O g)), (2, .int (nI e)), (3, .int (nI q)), (4, .int tm), (5, .int ct), (6, .int (((3) * (nI e)) + (nI q)))] [.int (if M (g + 2) e = 1 then 1 else 0), .int (M (g + 7) (3 * e + q)), .int (M (g + 6) (3 * e + q)), .ref (sk_ad O k)] := by
                refine k_vi C (as := [.int (M (g + 6) (3 * e + q)), .int (M (g + 7) (3 * e + q)), .int (if M (g + 2) e = 1 then 1 else 0)]) yvX3_repeatReason viX3_repeatReason ml_X3_133 (m_X3_repeatReason l C.2.2.2.1 M (k := k) (kd := M (g + 6) (3 * e + q)) (ro := M (g + 7) (3 * e + q)) (al := if M (g + 2) e = 1 then 1 else 0) (hk := hk)) hk.1 rfl rfl rfl (Nat.le_of_ble_eq_true rfl) (by decide) dX3_reasonOf_80 (fun x80_18 M80_18 h80_18 => ?_)
                rw [h80_18.1, h80_18.2]
                exact ret _ _ _ _ dX3_reasonOf_83 rfl (by exact ⟨by rw [sc_ov, if_neg (show ¬ (¬ tm = 0) from fun h => h c2_1), if_neg (show ¬ (¬ ct = 0 ∧ 0 < q) from fun h => absurd h.2 (by omega)), if_neg (show ¬ (¬ M k 12 = 0 ∧ q = 2) from fun h => absurd h.2 (by omega)), if_neg (show ¬ (¬ M (g + 1) e = 0) from fun h => h c38_17)], by rw [sc_om, if_neg (show ¬ (¬ tm = 0) from fun h => h c2_1), if_neg (show ¬ (¬ ct = 0 ∧ 0 < q) from fun h => absurd h.2 (by omega)), if_neg (show ¬ (¬ M k 12 = 0 ∧ q = 2) from fun h => absurd h.2 (by omega)), if_neg (show ¬ (¬ M (g + 1) e = 0) from fun h => h c38_17)]⟩)
              refine k_cne C 79 dX3_reasonOf_72 (by decide) (fun c72_19 => ?_) (fun c72_19 => ?_)
              ·
                refine k_iconst C (0) dX3_reasonOf_79 (by decide) ?_
                exact k_eq rfl rfl rfl (by rw [if_neg c72_19]) J80
              ·
                refine k_iconst C (1) dX3_reasonOf_75 (by decide) ?_
                refine k_goto C 80 dX3_reasonOf_76 (by decide) ?_
                exact k_eq rfl rfl rfl (by rw [if_pos c72_19]) J80
            ·
              refine k_iconst C (0) dX3_reasonOf_41 (by decide) ?_
              exact ret _ _ _ _ dX3_reasonOf_42 rfl (by exact ⟨by rw [sc_ov, if_neg (show ¬ (¬ tm = 0) from fun h => h c2_1), if_neg (show ¬ (¬ ct = 0 ∧ 0 < q) from fun h => absurd h.2 (by omega)), if_neg (show ¬ (¬ M k 12 = 0 ∧ q = 2) from fun h => absurd h.2 (by omega)), if_pos (show ¬ M (g + 1) e = 0 from c38_17)], by rw [sc_om, if_neg (show ¬ (¬ tm = 0) from fun h => h c2_1), if_neg (show ¬ (¬ ct = 0 ∧ 0 < q) from fun h => absurd h.2 (by omega)), if_neg (show ¬ (¬ M k 12 = 0 ∧ q = 2) from fun h => absurd h.2 (by omega)), if_pos (show ¬ M (g + 1) e = 0 from c38_17)]⟩)
          ·
            have nc27_16 : q = 2 := (sk_qI (a := q) (b := 2) rfl (rfl : ((2) : Int32) = nI 2) (by omega) (by omega)).mp c27_16
            refine k_iconst C (4) dX3_reasonOf_30 (by decide) ?_
            exact ret _ _ _ _ dX3_reasonOf_31 rfl (by exact ⟨by rw [sc_ov, if_neg (show ¬ (¬ tm = 0) from fun h => h c2_1), if_neg (show ¬ (¬ ct = 0 ∧ 0 < q) from fun h => absurd h.2 (by omega)), if_pos (show ¬ M k 12 = 0 ∧ q = 2 from ⟨c22_12, by omega⟩)], by rw [sc_om, if_neg (show ¬ (¬ tm = 0) from fun h => h c2_1), if_neg (show ¬ (¬ ct = 0 ∧ 0 < q) from fun h => absurd h.2 (by omega)), if_pos (show ¬ M k 12 = 0 ∧ q = 2 from ⟨c22_12, by omega⟩)]⟩)
      ·
        have nc13_11 : ¬ (q ≤ 0) := fun h => c13_11 ((sk_eI (a := q) (b := 0) rfl (rfl : ((0) : Int32) = nI 0) (by omega) (by omega)).mpr h)
        refine k_iconst C (3) dX3_reasonOf_16 (by decide) ?_
        exact ret _ _ _ _ dX3_reasonOf_17 rfl (by exact ⟨by rw [sc_ov, if_neg (show ¬ (¬ tm = 0) from fun h => h c2_1), if_pos (show ¬ ct = 0 ∧ 0 < q from ⟨c9_2, by omega⟩)], by rw [sc_om, if_neg (show ¬ (¬ tm = 0) from fun h => h c2_1), if_pos (show ¬ ct = 0 ∧ 0 < q from ⟨c9_2, by omega⟩)]⟩)
  ·
    refine k_iconst C (5) dX3_reasonOf_5 (by decide) ?_
    exact ret _ _ _ _ dX3_reasonOf_6 rfl (by exact ⟨by rw [sc_ov, if_pos (show ¬ tm = 0 from c2_1)], by rw [sc_om, if_pos (show ¬ tm = 0 from c2_1)]⟩)
