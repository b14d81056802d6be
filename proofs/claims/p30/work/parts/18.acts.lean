/-! SkateSheet: commands -/
theorem sk_ic {p q : Prop} [Decidable p] [Decidable q] (h : p ↔ q) : (if p then (1 : Int32) else 0) = if q then 1 else 0 := by
  by_cases z : p
  · rw [if_pos z, if_pos (h.mp z)]
  · rw [if_neg z, if_neg (fun y => z (h.mpr y))]
abbrev cm_2 (M : sk_M) (c : Nat) : Int32 := 10 * M c 2 + M c 3
abbrev cm_3 (M : sk_M) (c : Nat) : Int32 := 100 * M c 2 + 10 * M c 3 + M c 4
abbrev ac_p (M : sk_M) (c t : Nat) : Prop :=
  if M c 0 = 1 then (¬ 1 < M c 4 ∧ st_he M t (M c 1) (cm_2 M c))
  else if M c 0 = 2 then st_cc M t (M c 1) (M c 2) (M c 3) (M c 4)
  else if M c 0 = 3 then (¬ 1 < M c 4 ∧ st_he M t (M c 1) (cm_2 M c))
  else if M c 0 = 4 then (cm_2 M c = 0 ∧ st_hs M t (M c 1))
  else if M c 0 = 5 then st_fi (M c 1) (cm_3 M c) else False
def ac_m (M : sk_M) (c t : Nat) : sk_M :=
  if M c 0 = 1 then (if 1 < M c 4 then M else if st_he M t (M c 1) (cm_2 M c) then sk_ms M (st_pg t (M c 1) + 4) (cm_2 M c).toNatClampNeg (M c 4) else M)
  else if M c 0 = 2 then (if st_cc M t (M c 1) (M c 2) (M c 3) (M c 4) then sk_ms M (st_pg t (M c 1) + 8) (3 * (M c 2).toNatClampNeg + (M c 3).toNatClampNeg) (M c 4) else M)
  else if M c 0 = 3 then (if 1 < M c 4 then M else if st_he M t (M c 1) (cm_2 M c) then sk_ms M (st_pg t (M c 1) + 5) (cm_2 M c).toNatClampNeg (M c 4) else M)
  else if M c 0 = 4 then (if ¬ cm_2 M c = 0 then M else if st_hs M t (M c 1) then sk_ms M (st_pg t (M c 1)) 10 (M c 4) else M)
  else if M c 0 = 5 then (if st_fi (M c 1) (cm_3 M c) then sk_ms M (t + 2) (M c 1).toNatClampNeg (cm_3 M c) else M) else M
set_option maxHeartbeats 4000000 in
set_option maxRecDepth 100000 in
theorem m_X7_acts (l : Launch) {O : sk_O} (hO : sk_inj O) (M : sk_M) (k : Nat) (hk : sk_isX O k) (hw : st_wf M (k + 751)) : sk_Mi l yX7_acts (sk_w yX7_acts cX7_acts 3 (some .boolean)) ({ frames := 4, cells := 0, slots := 0, locals := 90 }) O [.ref (sk_ad O k)] M (fun r M' => r = (if ac_p M (k + 750) (k + 751) then 1 else 0) ∧ M' = (ac_m M (k + 750) (k + 751))) := by
  refine sk_mi (by decide) ⟨rfl, rfl⟩ hO (Nat.le_of_ble_eq_true rfl) (fun X A Q C ret => ?_)
  show sk_W l X O A Q 3 0 0 M 0 [(0, .ref (sk_ad O k))] []
  refine k_aloadn C 0 dX7_acts_0 rfl ?_
  refine k_getr C (j := 7) (k' := k + 750) kcl_X7 fl_X7_55 hk.1 (by decide) rfl dX7_acts_1 ?_
  refine k_geti C (j := 1) kcl_X0 fl_X7_374 hk.2.2.2.2.2.2.2.2.1 (by decide) rfl dX7_acts_4 ?_
  refine k_istoren C [1, 0] [(0, .ref (sk_ad O k)), (1, .int (M (k + 750) 1))] dX7_acts_7 (by decide) rfl ?_
  refine k_aloadn C 0 dX7_acts_8 rfl ?_
  refine k_getr C (j := 7) (k' := k + 750) kcl_X7 fl_X7_55 hk.1 (by decide) rfl dX7_acts_9 ?_
  refine k_geti C (j := 4) kcl_X0 fl_X7_377 hk.2.2.2.2.2.2.2.2.1 (by decide) rfl dX7_acts_12 ?_
  refine k_istoren C [1, 2, 0] [(0, .ref (sk_ad O k)), (1, .int (M (k + 750) 1)), (2, .int (M (k + 750) 4))] dX7_acts_15 (by decide) rfl ?_
  refine k_aloadn C 0 dX7_acts_16 rfl ?_
  refine k_getr C (j := 7) (k' := k + 750) kcl_X7 fl_X7_55 hk.1 (by decide) rfl dX7_acts_17 ?_
  refine k_geti C (j := 0) kcl_X0 fl_X7_339 hk.2.2.2.2.2.2.2.2.1 (by decide) rfl dX7_acts_20 ?_
  by_cases c23_1_1 : M (k + 750) 0 = (1 : Int32)
  ·
    refine k_top (1 : Int32) c23_1_1 ?_
    refine k_tin C 56 (33) dX7_acts_23 (by decide) (by decide) ?_
    refine k_iloadn C 2 dX7_acts_56 rfl ?_
    refine k_iconst C (1) dX7_acts_57 (by decide) ?_
    refine k_cgt C 84 dX7_acts_58 (by decide) (fun c58_2 => ?_) (fun c58_2 => ?_)
    ·
      refine k_iconst C (0) dX7_acts_84 (by decide) ?_
      exact ret _ _ _ _ dX7_acts_85 rfl (by exact ⟨(if_neg (by rw [ac_p, if_pos (show M (k + 750) 0 = 1 from c23_1_1)]; exact fun h => h.1 c58_2)).symm, by rw [ac_m, if_pos (show M (k + 750) 0 = 1 from c23_1_1), if_pos c58_2]⟩)
    ·
      refine k_aloadn C 0 dX7_acts_61 rfl ?_
      refine k_getr C (j := 8) (k' := k + 751) kcl_X7 fl_X7_59 hk.1 (by decide) rfl dX7_acts_62 ?_
      refine k_iloadn C 1 dX7_acts_65 rfl ?_
      refine k_aloadn C 0 dX7_acts_66 rfl ?_
      refine k_getr C (j := 7) (k' := k + 750) kcl_X7 fl_X7_55 hk.1 (by decide) rfl dX7_acts_67 ?_
      refine k_vi C (as := []) yvX0_middleTwo viX0_middleTwo ml_X7_380 (m_X0_middleTwo l C.2.2.2.1 M (k := k + 750) (hk := hk.2.2.2.2.2.2.2.2.1)) hk.2.2.2.2.2.2.2.2.1 rfl rfl rfl (Nat.le_of_ble_eq_true rfl) (by decide) dX7_acts_70 (fun x70_3 M70_3 h70_3 => ?_)
      rw [h70_3.1, h70_3.2]
      refine k_iloadn C 2 dX7_acts_73 rfl ?_
      refine k_vi C (as := [.int (M (k + 750) 1), .int (10 * M (k + 750) 2 + M (k + 750) 3), .int (M (k + 750) 4)]) yvX5_putFall viX5_putFall ml_X7_268 (m_X5_putFall l C.2.2.2.1 M (k := k + 751) (hk := hk.2.2.2.2.2.2.2.2.2.1) (hw := hw) (s := M (k + 750) 1) (e := 10 * M (k + 750) 2 + M (k + 750) 3) (v := M (k + 750) 4)) hk.2.2.2.2.2.2.2.2.2.1.1 rfl rfl rfl (Nat.le_of_ble_eq_true rfl) (by decide) dX7_acts_74 (fun x74_4 M74_4 h74_4 => ?_)
      rw [h74_4.1, h74_4.2]
      refine k_zeq C 84 dX7_acts_77 (by decide) (fun c77_5 => ?_) (fun c77_5 => ?_)
      ·
        have nc77_5 : ¬ (st_he M (k + 751) (M (k + 750) 1) (10 * M (k + 750) 2 + M (k + 750) 3)) := sk_b1.mp c77_5
        refine k_iconst C (0) dX7_acts_84 (by decide) ?_
        exact ret _ _ _ _ dX7_acts_85 rfl (by exact ⟨(if_neg (by rw [ac_p, if_pos (show M (k + 750) 0 = 1 from c23_1_1)]; exact fun h => nc77_5 h.2)).symm, by rw [ac_m, if_pos (show M (k + 750) 0 = 1 from c23_1_1), if_neg c58_2]⟩)
      ·
        have nc77_5 : st_he M (k + 751) (M (k + 750) 1) (10 * M (k + 750) 2 + M (k + 750) 3) := Classical.byContradiction (fun h => c77_5 (sk_b1.mpr h))
        refine k_iconst C (1) dX7_acts_80 (by decide) ?_
        refine k_goto C 85 dX7_acts_81 (by decide) ?_
        exact ret _ _ _ _ dX7_acts_85 rfl (by exact ⟨(if_pos (by rw [ac_p, if_pos (show M (k + 750) 0 = 1 from c23_1_1)]; exact ⟨c58_2, nc77_5⟩)).symm, by rw [ac_m, if_pos (show M (k + 750) 0 = 1 from c23_1_1), if_neg c58_2]⟩)
  by_cases c23_1_2 : M (k + 750) 0 = (2 : Int32)
  ·
    refine k_top (2 : Int32) c23_1_2 ?_
    refine k_tin C 86 (63) dX7_acts_23 (by decide) (by decide) ?_
    refine k_aloadn C 0 dX7_acts_86 rfl ?_
    refine k_getr C (j := 8) (k' := k + 751) kcl_X7 fl_X7_59 hk.1 (by decide) rfl dX7_acts_87 ?_
    refine k_iloadn C 1 dX7_acts_90 rfl ?_
    refine k_aloadn C 0 dX7_acts_91 rfl ?_
    refine k_getr C (j := 7) (k' := k + 750) kcl_X7 fl_X7_55 hk.1 (by decide) rfl dX7_acts_92 ?_
    refine k_geti C (j := 2) kcl_X0 fl_X7_383 hk.2.2.2.2.2.2.2.2.1 (by decide) rfl dX7_acts_95 ?_
    refine k_aloadn C 0 dX7_acts_98 rfl ?_
    refine k_getr C (j := 7) (k' := k + 750) kcl_X7 fl_X7_55 hk.1 (by decide) rfl dX7_acts_99 ?_
    refine k_geti C (j := 3) kcl_X0 fl_X7_386 hk.2.2.2.2.2.2.2.2.1 (by decide) rfl dX7_acts_102 ?_
    refine k_iloadn C 2 dX7_acts_105 rfl ?_
    refine k_vi C (as := [.int (M (k + 750) 1), .int (M (k + 750) 2), .int (M (k + 750) 3), .int (M (k + 750) 4)]) yvX5_putCall viX5_putCall ml_X7_261 (m_X5_putCall l C.2.2.2.1 M (k := k + 751) (hk := hk.2.2.2.2.2.2.2.2.2.1) (hw := hw) (s := M (k + 750) 1) (e := M (k + 750) 2) (p := M (k + 750) 3) (v := M (k + 750) 4)) hk.2.2.2.2.2.2.2.2.2.1.1 rfl rfl rfl (Nat.le_of_ble_eq_true rfl) (by decide) dX7_acts_106 (fun x106_6 M106_6 h106_6 => ?_)
    rw [h106_6.1, h106_6.2]
    refine ret _ _ _ _ dX7_acts_109 (sk_nz _) ?_
    refine ⟨?_, by rw [ac_m, if_neg (show ¬ (M (k + 750) 0 = 1) from by rw [show M (k + 750) 0 = 2 from c23_1_2]; decide), if_pos (show M (k + 750) 0 = 2 from c23_1_2)]⟩
    exact sk_ic (by rw [ac_p, if_neg (show ¬ (M (k + 750) 0 = 1) from by rw [show M (k + 750) 0 = 2 from c23_1_2]; decide), if_pos (show M (k + 750) 0 = 2 from c23_1_2)])
  by_cases c23_1_3 : M (k + 750) 0 = (3 : Int32)
  ·
    refine k_top (3 : Int32) c23_1_3 ?_
    refine k_tin C 110 (87) dX7_acts_23 (by decide) (by decide) ?_
    refine k_iloadn C 2 dX7_acts_110 rfl ?_
    refine k_iconst C (1) dX7_acts_111 (by decide) ?_
    refine k_cgt C 138 dX7_acts_112 (by decide) (fun c112_7 => ?_) (fun c112_7 => ?_)
    ·
      refine k_iconst C (0) dX7_acts_138 (by decide) ?_
      exact ret _ _ _ _ dX7_acts_139 rfl (by exact ⟨(if_neg (by rw [ac_p, if_neg (show ¬ (M (k + 750) 0 = 1) from by rw [show M (k + 750) 0 = 3 from c23_1_3]; decide), if_neg (show ¬ (M (k + 750) 0 = 2) from by rw [show M (k + 750) 0 = 3 from c23_1_3]; decide), if_pos (show M (k + 750) 0 = 3 from c23_1_3)]; exact fun h => h.1 c112_7)).symm, by rw [ac_m, if_neg (show ¬ (M (k + 750) 0 = 1) from by rw [show M (k + 750) 0 = 3 from c23_1_3]; decide), if_neg (show ¬ (M (k + 750) 0 = 2) from by rw [show M (k + 750) 0 = 3 from c23_1_3]; decide), if_pos (show M (k + 750) 0 = 3 from c23_1_3), if_pos c112_7]⟩)
    ·
      refine k_aloadn C 0 dX7_acts_115 rfl ?_
      refine k_getr C (j := 8) (k' := k + 751) kcl_X7 fl_X7_59 hk.1 (by decide) rfl dX7_acts_116 ?_
      refine k_iloadn C 1 dX7_acts_119 rfl ?_
      refine k_aloadn C 0 dX7_acts_120 rfl ?_
      refine k_getr C (j := 7) (k' := k + 750) kcl_X7 fl_X7_55 hk.1 (by decide) rfl dX7_acts_121 ?_
      refine k_vi C (as := []) yvX0_middleTwo viX0_middleTwo ml_X7_380 (m_X0_middleTwo l C.2.2.2.1 M (k := k + 750) (hk := hk.2.2.2.2.2.2.2.2.1)) hk.2.2.2.2.2.2.2.2.1 rfl rfl rfl (Nat.le_of_ble_eq_true rfl) (by decide) dX7_acts_124 (fun x124_8 M124_8 h124_8 => ?_)
      rw [h124_8.1, h124_8.2]
      refine k_iloadn C 2 dX7_acts_127 rfl ?_
      refine k_vi C (as := [.int (M (k + 750) 1), .int (10 * M (k + 750) 2 + M (k + 750) 3), .int (M (k + 750) 4)]) yvX5_putReview viX5_putReview ml_X7_265 (m_X5_putReview l C.2.2.2.1 M (k := k + 751) (hk := hk.2.2.2.2.2.2.2.2.2.1) (hw := hw) (s := M (k + 750) 1) (e := 10 * M (k + 750) 2 + M (k + 750) 3) (v := M (k + 750) 4)) hk.2.2.2.2.2.2.2.2.2.1.1 rfl rfl rfl (Nat.le_of_ble_eq_true rfl) (by decide) dX7_acts_128 (fun x128_9 M128_9 h128_9 => ?_)
      rw [h128_9.1, h128_9.2]
      refine k_zeq C 138 dX7_acts_131 (by decide) (fun c131_10 => ?_) (fun c131_10 => ?_)
      ·
        have nc131_10 : ¬ (st_he M (k + 751) (M (k + 750) 1) (10 * M (k + 750) 2 + M (k + 750) 3)) := sk_b1.mp c131_10
        refine k_iconst C (0) dX7_acts_138 (by decide) ?_
        exact ret _ _ _ _ dX7_acts_139 rfl (by exact ⟨(if_neg (by rw [ac_p, if_neg (show ¬ (M (k + 750) 0 = 1) from by rw [show M (k + 750) 0 = 3 from c23_1_3]; decide), if_neg (show ¬ (M (k + 750) 0 = 2) from by rw [show M (k + 750) 0 = 3 from c23_1_3]; decide), if_pos (show M (k + 750) 0 = 3 from c23_1_3)]; exact fun h => nc131_10 h.2)).symm, by rw [ac_m, if_neg (show ¬ (M (k + 750) 0 = 1) from by rw [show M (k + 750) 0 = 3 from c23_1_3]; decide), if_neg (show ¬ (M (k + 750) 0 = 2) from by rw [show M (k + 750) 0 = 3 from c23_1_3]; decide), if_pos (show M (k + 750) 0 = 3 from c23_1_3), if_neg c112_7]⟩)
      ·
        have nc131_10 : st_he M (k + 751) (M (k + 750) 1) (10 * M (k + 750) 2 + M (k + 750) 3) := Classical.byContradiction (fun h => c131_10 (sk_b1.mpr h))
        refine k_iconst C (1) dX7_acts_134 (by decide) ?_
        refine k_goto C 139 dX7_acts_135 (by decide) ?_
        exact ret _ _ _ _ dX7_acts_139 rfl (by exact ⟨(if_pos (by rw [ac_p, if_neg (show ¬ (M (k + 750) 0 = 1) from by rw [show M (k + 750) 0 = 3 from c23_1_3]; decide), if_neg (show ¬ (M (k + 750) 0 = 2) from by rw [show M (k + 750) 0 = 3 from c23_1_3]; decide), if_pos (show M (k + 750) 0 = 3 from c23_1_3)]; exact ⟨c112_7, nc131_10⟩)).symm, by rw [ac_m, if_neg (show ¬ (M (k + 750) 0 = 1) from by rw [show M (k + 750) 0 = 3 from c23_1_3]; decide), if_neg (show ¬ (M (k + 750) 0 = 2) from by rw [show M (k + 750) 0 = 3 from c23_1_3]; decide), if_pos (show M (k + 750) 0 = 3 from c23_1_3), if_neg c112_7]⟩)
  by_cases c23_1_4 : M (k + 750) 0 = (4 : Int32)
  ·
    refine k_top (4 : Int32) c23_1_4 ?_
    refine k_tin C 140 (117) dX7_acts_23 (by decide) (by decide) ?_
    refine k_aloadn C 0 dX7_acts_140 rfl ?_
    refine k_getr C (j := 7) (k' := k + 750) kcl_X7 fl_X7_55 hk.1 (by decide) rfl dX7_acts_141 ?_
    refine k_vi C (as := []) yvX0_middleTwo viX0_middleTwo ml_X7_380 (m_X0_middleTwo l C.2.2.2.1 M (k := k + 750) (hk := hk.2.2.2.2.2.2.2.2.1)) hk.2.2.2.2.2.2.2.2.1 rfl rfl rfl (Nat.le_of_ble_eq_true rfl) (by decide) dX7_acts_144 (fun x144_11 M144_11 h144_11 => ?_)
    rw [h144_11.1, h144_11.2]
    refine k_zne C 166 dX7_acts_147 (by decide) (fun c147_12 => ?_) (fun c147_12 => ?_)
    ·
      refine k_iconst C (0) dX7_acts_166 (by decide) ?_
      exact ret _ _ _ _ dX7_acts_167 rfl (by exact ⟨(if_neg (by rw [ac_p, if_neg (show ¬ (M (k + 750) 0 = 1) from by rw [show M (k + 750) 0 = 4 from c23_1_4]; decide), if_neg (show ¬ (M (k + 750) 0 = 2) from by rw [show M (k + 750) 0 = 4 from c23_1_4]; decide), if_neg (show ¬ (M (k + 750) 0 = 3) from by rw [show M (k + 750) 0 = 4 from c23_1_4]; decide), if_pos (show M (k + 750) 0 = 4 from c23_1_4)]; exact fun h => c147_12 h.1)).symm, by rw [ac_m, if_neg (show ¬ (M (k + 750) 0 = 1) from by rw [show M (k + 750) 0 = 4 from c23_1_4]; decide), if_neg (show ¬ (M (k + 750) 0 = 2) from by rw [show M (k + 750) 0 = 4 from c23_1_4]; decide), if_neg (show ¬ (M (k + 750) 0 = 3) from by rw [show M (k + 750) 0 = 4 from c23_1_4]; decide), if_pos (show M (k + 750) 0 = 4 from c23_1_4), if_pos c147_12]⟩)
    ·
      refine k_aloadn C 0 dX7_acts_150 rfl ?_
      refine k_getr C (j := 8) (k' := k + 751) kcl_X7 fl_X7_59 hk.1 (by decide) rfl dX7_acts_151 ?_
      refine k_iloadn C 1 dX7_acts_154 rfl ?_
      refine k_iloadn C 2 dX7_acts_155 rfl ?_
      refine k_vi C (as := [.int (M (k + 750) 1), .int (M (k + 750) 4)]) yvX5_putPoints viX5_putPoints ml_X7_276 (m_X5_putPoints l C.2.2.2.1 M (k := k + 751) (hk := hk.2.2.2.2.2.2.2.2.2.1) (hw := hw) (s := M (k + 750) 1) (v := M (k + 750) 4)) hk.2.2.2.2.2.2.2.2.2.1.1 rfl rfl rfl (Nat.le_of_ble_eq_true rfl) (by decide) dX7_acts_156 (fun x156_13 M156_13 h156_13 => ?_)
      rw [h156_13.1, h156_13.2]
      refine k_zeq C 166 dX7_acts_159 (by decide) (fun c159_14 => ?_) (fun c159_14 => ?_)
      ·
        have nc159_14 : ¬ (st_hs M (k + 751) (M (k + 750) 1)) := sk_b1.mp c159_14
        refine k_iconst C (0) dX7_acts_166 (by decide) ?_
        exact ret _ _ _ _ dX7_acts_167 rfl (by exact ⟨(if_neg (by rw [ac_p, if_neg (show ¬ (M (k + 750) 0 = 1) from by rw [show M (k + 750) 0 = 4 from c23_1_4]; decide), if_neg (show ¬ (M (k + 750) 0 = 2) from by rw [show M (k + 750) 0 = 4 from c23_1_4]; decide), if_neg (show ¬ (M (k + 750) 0 = 3) from by rw [show M (k + 750) 0 = 4 from c23_1_4]; decide), if_pos (show M (k + 750) 0 = 4 from c23_1_4)]; exact fun h => nc159_14 h.2)).symm, by rw [ac_m, if_neg (show ¬ (M (k + 750) 0 = 1) from by rw [show M (k + 750) 0 = 4 from c23_1_4]; decide), if_neg (show ¬ (M (k + 750) 0 = 2) from by rw [show M (k + 750) 0 = 4 from c23_1_4]; decide), if_neg (show ¬ (M (k + 750) 0 = 3) from by rw [show M (k + 750) 0 = 4 from c23_1_4]; decide), if_pos (show M (k + 750) 0 = 4 from c23_1_4), if_neg (show ¬ (¬ cm_2 M (k + 750) = 0) from fun h => h c147_12)]⟩)
      ·
        have nc159_14 : st_hs M (k + 751) (M (k + 750) 1) := Classical.byContradiction (fun h => c159_14 (sk_b1.mpr h))
        refine k_iconst C (1) dX7_acts_162 (by decide) ?_
        refine k_goto C 167 dX7_acts_163 (by decide) ?_
        exact ret _ _ _ _ dX7_acts_167 rfl (by exact ⟨(if_pos (by rw [ac_p, if_neg (show ¬ (M (k + 750) 0 = 1) from by rw [show M (k + 750) 0 = 4 from c23_1_4]; decide), if_neg (show ¬ (M (k + 750) 0 = 2) from by rw [show M (k + 750) 0 = 4 from c23_1_4]; decide), if_neg (show ¬ (M (k + 750) 0 = 3) from by rw [show M (k + 750) 0 = 4 from c23_1_4]; decide), if_pos (show M (k + 750) 0 = 4 from c23_1_4)]; exact ⟨c147_12, nc159_14⟩)).symm, by rw [ac_m, if_neg (show ¬ (M (k + 750) 0 = 1) from by rw [show M (k + 750) 0 = 4 from c23_1_4]; decide), if_neg (show ¬ (M (k + 750) 0 = 2) from by rw [show M (k + 750) 0 = 4 from c23_1_4]; decide), if_neg (show ¬ (M (k + 750) 0 = 3) from by rw [show M (k + 750) 0 = 4 from c23_1_4]; decide), if_pos (show M (k + 750) 0 = 4 from c23_1_4), if_neg (show ¬ (¬ cm_2 M (k + 750) = 0) from fun h => h c147_12)]⟩)
  by_cases c23_1_5 : M (k + 750) 0 = (5 : Int32)
  ·
    refine k_top (5 : Int32) c23_1_5 ?_
    refine k_tin C 168 (145) dX7_acts_23 (by decide) (by decide) ?_
    refine k_aloadn C 0 dX7_acts_168 rfl ?_
    refine k_getr C (j := 8) (k' := k + 751) kcl_X7 fl_X7_59 hk.1 (by decide) rfl dX7_acts_169 ?_
    refine k_aloadn C 0 dX7_acts_172 rfl ?_
    refine k_getr C (j := 7) (k' := k + 750) kcl_X7 fl_X7_55 hk.1 (by decide) rfl dX7_acts_173 ?_
    refine k_geti C (j := 1) kcl_X0 fl_X7_374 hk.2.2.2.2.2.2.2.2.1 (by decide) rfl dX7_acts_176 ?_
    refine k_aloadn C 0 dX7_acts_179 rfl ?_
    refine k_getr C (j := 7) (k' := k + 750) kcl_X7 fl_X7_55 hk.1 (by decide) rfl dX7_acts_180 ?_
    refine k_vi C (as := []) yvX0_lastThree viX0_lastThree ml_X7_389 (m_X0_lastThree l C.2.2.2.1 M (k := k + 750) (hk := hk.2.2.2.2.2.2.2.2.1)) hk.2.2.2.2.2.2.2.2.1 rfl rfl rfl (Nat.le_of_ble_eq_true rfl) (by decide) dX7_acts_183 (fun x183_15 M183_15 h183_15 => ?_)
    rw [h183_15.1, h183_15.2]
    refine k_vi C (as := [.int (M (k + 750) 1), .int (100 * M (k + 750) 2 + 10 * M (k + 750) 3 + M (k + 750) 4)]) yvX5_putSetting viX5_putSetting ml_X7_284 (m_X5_putSetting l C.2.2.2.1 M (k := k + 751) (hk := hk.2.2.2.2.2.2.2.2.2.1) (w := M (k + 750) 1) (v := 100 * M (k + 750) 2 + 10 * M (k + 750) 3 + M (k + 750) 4)) hk.2.2.2.2.2.2.2.2.2.1.1 rfl rfl rfl (Nat.le_of_ble_eq_true rfl) (by decide) dX7_acts_186 (fun x186_16 M186_16 h186_16 => ?_)
    rw [h186_16.1, h186_16.2]
    refine ret _ _ _ _ dX7_acts_189 (sk_nz _) ?_
    refine ⟨?_, by rw [ac_m, if_neg (show ¬ (M (k + 750) 0 = 1) from by rw [show M (k + 750) 0 = 5 from c23_1_5]; decide), if_neg (show ¬ (M (k + 750) 0 = 2) from by rw [show M (k + 750) 0 = 5 from c23_1_5]; decide), if_neg (show ¬ (M (k + 750) 0 = 3) from by rw [show M (k + 750) 0 = 5 from c23_1_5]; decide), if_neg (show ¬ (M (k + 750) 0 = 4) from by rw [show M (k + 750) 0 = 5 from c23_1_5]; decide), if_pos (show M (k + 750) 0 = 5 from c23_1_5)]⟩
    exact sk_ic (by rw [ac_p, if_neg (show ¬ (M (k + 750) 0 = 1) from by rw [show M (k + 750) 0 = 5 from c23_1_5]; decide), if_neg (show ¬ (M (k + 750) 0 = 2) from by rw [show M (k + 750) 0 = 5 from c23_1_5]; decide), if_neg (show ¬ (M (k + 750) 0 = 3) from by rw [show M (k + 750) 0 = 5 from c23_1_5]; decide), if_neg (show ¬ (M (k + 750) 0 = 4) from by rw [show M (k + 750) 0 = 5 from c23_1_5]; decide), if_pos (show M (k + 750) 0 = 5 from c23_1_5)])
  have c23_1_1T : ¬ (M (k + 750) 0).toInt = 1 := fun h => c23_1_1 (sk_toI h)
  have c23_1_2T : ¬ (M (k + 750) 0).toInt = 2 := fun h => c23_1_2 (sk_toI h)
  have c23_1_3T : ¬ (M (k + 750) 0).toInt = 3 := fun h => c23_1_3 (sk_toI h)
  have c23_1_4T : ¬ (M (k + 750) 0).toInt = 4 := fun h => c23_1_4 (sk_toI h)
  have c23_1_5T : ¬ (M (k + 750) 0).toInt = 5 := fun h => c23_1_5 (sk_toI h)
  refine k_tout C 190 dX7_acts_23 (by omega) (by decide) ?_
  refine k_iconst C (0) dX7_acts_190 (by decide) ?_
  exact ret _ _ _ _ dX7_acts_191 rfl (by exact ⟨(if_neg (by rw [ac_p, if_neg (show ¬ (M (k + 750) 0 = 1) from c23_1_1), if_neg (show ¬ (M (k + 750) 0 = 2) from c23_1_2), if_neg (show ¬ (M (k + 750) 0 = 3) from c23_1_3), if_neg (show ¬ (M (k + 750) 0 = 4) from c23_1_4), if_neg (show ¬ (M (k + 750) 0 = 5) from c23_1_5)]; exact id)).symm, by rw [ac_m, if_neg (show ¬ (M (k + 750) 0 = 1) from c23_1_1), if_neg (show ¬ (M (k + 750) 0 = 2) from c23_1_2), if_neg (show ¬ (M (k + 750) 0 = 3) from c23_1_3), if_neg (show ¬ (M (k + 750) 0 = 4) from c23_1_4), if_neg (show ¬ (M (k + 750) 0 = 5) from c23_1_5)]⟩)
