/-! SkateSheet: what there is -/
def x_R (M : sk_M) (k g : Nat) : sk_M := sc_ra M (k + 738) g (k + 3)
def x_RK (M : sk_M) (k : Nat) : sk_M := sd_rk M (k + 747) (k + 1) (k + 738)
theorem x_R_f {M : sk_M} {k g a : Nat} (h : a < k + 738 ∨ k + 747 ≤ a) : x_R M k g a = M a := sc_ra_f (by omega)
theorem x_RK_f {M : sk_M} {k a : Nat} (h : a < k + 738 ∨ k + 750 ≤ a) : x_RK M k a = M a := sd_rk_f (by omega) (by omega)
def x_sk (M : sk_M) (k : Nat) (s w : Int32) : Int32 :=
  if w = 0 then x_R M k (st_pg (k + 1) s) (st_pg (k + 1) s) 9 else if w = 1 then x_R M k (st_pg (k + 1) s) (k + 738) 14 else if w = 2 then x_R M k (st_pg (k + 1) s) (k + 738) 15 else if w = 3 then x_R M k (st_pg (k + 1) s) (k + 738) 16
  else if w = 4 then x_R M k (st_pg (k + 1) s) (k + 738) 14 + x_R M k (st_pg (k + 1) s) (k + 738) 15 - x_R M k (st_pg (k + 1) s) (k + 738) 16
  else if w = 5 then nI (sd_cn (x_RK (x_R M k (st_pg (k + 1) s)) k) (k + 747) s.toNatClampNeg (st_n M (k + 1)))
  else if w = 6 then sk_sum (x_R M k (st_pg (k + 1) s) (st_pg (k + 1) s + 4)) (pg_n (x_R M k (st_pg (k + 1) s)) (st_pg (k + 1) s)) else sk_sum (x_R M k (st_pg (k + 1) s) (st_pg (k + 1) s + 5)) (pg_n (x_R M k (st_pg (k + 1) s)) (st_pg (k + 1) s))
def x_el (M : sk_M) (k : Nat) (s e w : Int32) : Int32 :=
  if w = 0 then x_R M k (st_pg (k + 1) s) (st_pg (k + 1) s + 1) e.toNatClampNeg else if w = 1 then x_R M k (st_pg (k + 1) s) (st_pg (k + 1) s + 2) e.toNatClampNeg else if w = 2 then x_R M k (st_pg (k + 1) s) (k + 741) e.toNatClampNeg
  else if w = 3 then x_R M k (st_pg (k + 1) s) (st_pg (k + 1) s + 3) e.toNatClampNeg else if w = 4 then x_R M k (st_pg (k + 1) s) (k + 743) e.toNatClampNeg else if w = 5 then x_R M k (st_pg (k + 1) s) (k + 741) e.toNatClampNeg + x_R M k (st_pg (k + 1) s) (k + 743) e.toNatClampNeg
  else if w = 6 then x_R M k (st_pg (k + 1) s) (st_pg (k + 1) s + 4) e.toNatClampNeg else if w = 7 then x_R M k (st_pg (k + 1) s) (st_pg (k + 1) s + 5) e.toNatClampNeg else x_R M k (st_pg (k + 1) s) (k + 744) e.toNatClampNeg
def x_pa (M : sk_M) (k : Nat) (s e p w : Int32) : Int32 :=
  if w = 0 then M (st_pg (k + 1) s + 6) (3 * e.toNatClampNeg + p.toNatClampNeg) else if w = 1 then M (st_pg (k + 1) s + 7) (3 * e.toNatClampNeg + p.toNatClampNeg) else if w = 2 then M (st_pg (k + 1) s + 8) (3 * e.toNatClampNeg + p.toNatClampNeg)
  else if w = 3 then x_R M k (st_pg (k + 1) s) (k + 739) (3 * e.toNatClampNeg + p.toNatClampNeg) else x_R M k (st_pg (k + 1) s) (k + 740) (3 * e.toNatClampNeg + p.toNatClampNeg)
def x_pm (M : sk_M) (k : Nat) (s w : Int32) : sk_M := if w = 0 then M else if w = 1 then M else if w = 2 then M else x_R M k (st_pg (k + 1) s)
set_option maxHeartbeats 4000000 in
set_option maxRecDepth 100000 in
theorem m_X7_skater (l : Launch) {O : sk_O} (hO : sk_inj O) (M : sk_M) (k : Nat) (s w : Int32) (hk : sk_isX O k) (hw : st_wf M (k + 1)) (hst : l.stackTraces = false) : sk_Xi l yX7_skater (sk_w yX7_skater cX7_skater 4 (some .int)) ({ frames := 6, cells := 1, slots := 6, locals := 131 }) O [.ref (sk_ad O k), .int s, .int w] M (fun r M' => (er_2 (st_hs M (k + 1) s) (¬ w < 0 ∧ ¬ 7 < w)) = 0 ∧ r = (x_sk M k s w) ∧ M' = (if w = 5 then x_RK (x_R M k (st_pg (k + 1) s)) k else x_R M k (st_pg (k + 1) s))) (fun E M' => ((er_2 (st_hs M (k + 1) s) (¬ w < 0 ∧ ¬ 7 < w)) = 1 ∧ E = "java/lang/IndexOutOfBoundsException" ∨ (er_2 (st_hs M (k + 1) s) (¬ w < 0 ∧ ¬ 7 < w)) = 2 ∧ E = "java/lang/IllegalArgumentException") ∧ M' = M) := by
  refine sk_xi hst (by decide) rfl ⟨rfl, rfl⟩ hO (Nat.le_of_ble_eq_true rfl) (fun X A Q C hSr ret thr out => ?_)
  show sk_W l X O A Q 4 0 0 M 0 [(0, .ref (sk_ad O k)), (1, .int s), (2, .int w)] []
  have hw0 := hw
  obtain ⟨m, hm4, hm, hmj⟩ := hw
  have hw2 : st_wf (x_R M k (st_pg (k + 1) s)) (k + 1) := st_wf_c (fun a h1 h2 => x_R_f (by omega)) hw0
  refine k_aloadn C 0 dX7_skater_0 rfl ?_
  refine k_getr C (j := 0) (k' := k + 1) kcl_X7 fl_X7_10 hk.1 (by decide) rfl dX7_skater_1 ?_
  refine k_iloadn C 1 dX7_skater_4 rfl ?_
  refine k_vi C (as := [.int s]) yvX5_hasSkater viX5_hasSkater ml_X7_122 (m_X5_hasSkater l C.2.2.2.1 M (k := k + 1) (hk := hk.2.1) (s := s)) hk.2.1.1 rfl rfl rfl (Nat.le_of_ble_eq_true rfl) (by decide) dX7_skater_5 (fun x5_1 M5_1 h5_1 => ?_)
  rw [h5_1.1, h5_1.2]
  refine k_zne C 21 dX7_skater_8 (by decide) (fun c8_2 => ?_) (fun c8_2 => ?_)
  ·
    have nc8_2 : st_hs M (k + 1) s := Classical.byContradiction (fun h => c8_2 (sk_b1.mpr h))
    obtain ⟨ix, ib⟩ := sk_ix nc8_2 hm (by omega)
    have hwp : pg_wf (x_R M k (st_pg (k + 1) s)) (st_pg (k + 1) s) := pg_wf_c (x_R_f (by unfold st_pg; omega)) (x_R_f (by unfold st_pg; omega)) (hmj _ ib)
    refine k_iloadn C 2 dX7_skater_21 rfl ?_
    refine k_zlt C 31 dX7_skater_22 (by decide) (fun c22_3 => ?_) (fun c22_3 => ?_)
    ·
      refine thr "java/lang/IllegalArgumentException" "what is not 0 to 7" 69 131 73 _ _ _ xw_IllegalArgumentException (by decide +kernel) (by decide) dX7_skater_31 dX7_skater_34 (Or.inl ⟨dX7_skater_35, dX7_skater_37, dX7_skater_40⟩) ?_
      refine ⟨Or.inr (⟨?_, rfl⟩), rfl⟩
      exact er2m nc8_2 (fun h => h.1 c22_3)
    ·
      refine k_iloadn C 2 dX7_skater_25 rfl ?_
      refine k_bipush C (7) dX7_skater_26 (by decide) ?_
      refine k_cle C 41 dX7_skater_28 (by decide) (fun c28_4 => ?_) (fun c28_4 => ?_)
      ·
        refine k_aloadn C 0 dX7_skater_41 rfl ?_
        refine k_getr C (j := 0) (k' := k + 1) kcl_X7 fl_X7_10 hk.1 (by decide) rfl dX7_skater_42 ?_
        refine k_getr C (j := 0) (k' := k + 2) kcl_X5 fl_X7_133 hk.2.1.1 (by decide) rfl dX7_skater_45 ?_
        refine k_iloadn C 1 dX7_skater_48 rfl ?_
        refine k_aald C (k' := k + 1 + 3 + 10 * s.toNatClampNeg) s.toNatClampNeg ((hk.2.1.2.1).1) (by decide) ix (by omega) rfl dX7_skater_49 ?_
        refine k_astoren C [1, 2, 3, 0] [(0, .ref (sk_ad O k)), (1, .int s), (2, .int w), (3, .ref (sk_ad O (k + 1 + 3 + 10 * s.toNatClampNeg)))] dX7_skater_50 (by decide) rfl ?_
        refine k_aloadn C 0 dX7_skater_51 rfl ?_
        refine k_getr C (j := 5) (k' := k + 738) kcl_X7 fl_X7_41 hk.1 (by decide) rfl dX7_skater_52 ?_
        refine k_aloadn C 3 dX7_skater_55 rfl ?_
        refine k_aloadn C 0 dX7_skater_56 rfl ?_
        refine k_getr C (j := 0) (k' := k + 1) kcl_X7 fl_X7_10 hk.1 (by decide) rfl dX7_skater_57 ?_
        refine k_getr C (j := 1) (k' := k + 3) kcl_X5 fl_X7_137 hk.2.1.1 (by decide) rfl dX7_skater_60 ?_
        refine k_vv C (as := [.ref (sk_ad O (k + 1 + 3 + 10 * s.toNatClampNeg)), .ref (sk_ad O (k + 3))]) yvX3_rate viX3_rate ml_X7_141 (m_X3_rate l C.2.2.2.1 M (k := k + 738) (g := k + 1 + 3 + 10 * s.toNatClampNeg) (u := k + 3) (hk := hk.2.2.2.2.2.2.1) (hg := (hk.2.1.2.1).2 s.toNatClampNeg (by omega)) (hu := hk.2.1.2.2) (hw := (hmj _ ib)) (hap := (by omega)) (hap2 := (by omega))) hk.2.2.2.2.2.2.1.1 rfl rfl rfl (Nat.le_of_ble_eq_true rfl) (by decide) dX7_skater_63 (fun M63_5 h63_5 => ?_)
        rw [show M63_5 = x_R M k (st_pg (k + 1) s) from h63_5]
        refine k_iloadn C 2 dX7_skater_66 rfl ?_
        by_cases c67_6_0 : w = (0 : Int32)
        ·
          refine k_top (0 : Int32) c67_6_0 ?_
          refine k_tin C 108 (41) dX7_skater_67 (by decide) (by decide) ?_
          refine k_aloadn C 3 dX7_skater_108 rfl ?_
          refine k_geti C (j := 9) kcl_X2 fl_X7_145 ((hk.2.1.2.1).2 s.toNatClampNeg (by omega)).1 (by decide) rfl dX7_skater_109 ?_
          refine ret _ _ _ _ _ _ (by decide) (by decide) dX7_skater_112 rfl ?_
          exact ⟨er2p nc8_2 ⟨c22_3, Int32.not_lt.mpr c28_4⟩, by rw [x_sk, if_pos (show w = 0 from c67_6_0)], by rw [if_neg (show ¬ (w = 5) from by rw [show w = 0 from c67_6_0]; decide)]⟩
        by_cases c67_6_1 : w = (1 : Int32)
        ·
          refine k_top (1 : Int32) c67_6_1 ?_
          refine k_tin C 113 (46) dX7_skater_67 (by decide) (by decide) ?_
          refine k_aloadn C 0 dX7_skater_113 rfl ?_
          refine k_getr C (j := 5) (k' := k + 738) kcl_X7 fl_X7_41 hk.1 (by decide) rfl dX7_skater_114 ?_
          refine k_geti C (j := 14) kcl_X3 fl_X7_148 hk.2.2.2.2.2.2.1.1 (by decide) rfl dX7_skater_117 ?_
          refine ret _ _ _ _ _ _ (by decide) (by decide) dX7_skater_120 rfl ?_
          exact ⟨er2p nc8_2 ⟨c22_3, Int32.not_lt.mpr c28_4⟩, by rw [x_sk, if_neg (show ¬ (w = 0) from by rw [show w = 1 from c67_6_1]; decide), if_pos (show w = 1 from c67_6_1)], by rw [if_neg (show ¬ (w = 5) from by rw [show w = 1 from c67_6_1]; decide)]⟩
        by_cases c67_6_2 : w = (2 : Int32)
        ·
          refine k_top (2 : Int32) c67_6_2 ?_
          refine k_tin C 121 (54) dX7_skater_67 (by decide) (by decide) ?_
          refine k_aloadn C 0 dX7_skater_121 rfl ?_
          refine k_getr C (j := 5) (k' := k + 738) kcl_X7 fl_X7_41 hk.1 (by decide) rfl dX7_skater_122 ?_
          refine k_geti C (j := 15) kcl_X3 fl_X7_151 hk.2.2.2.2.2.2.1.1 (by decide) rfl dX7_skater_125 ?_
          refine ret _ _ _ _ _ _ (by decide) (by decide) dX7_skater_128 rfl ?_
          exact ⟨er2p nc8_2 ⟨c22_3, Int32.not_lt.mpr c28_4⟩, by rw [x_sk, if_neg (show ¬ (w = 0) from by rw [show w = 2 from c67_6_2]; decide), if_neg (show ¬ (w = 1) from by rw [show w = 2 from c67_6_2]; decide), if_pos (show w = 2 from c67_6_2)], by rw [if_neg (show ¬ (w = 5) from by rw [show w = 2 from c67_6_2]; decide)]⟩
        by_cases c67_6_3 : w = (3 : Int32)
        ·
          refine k_top (3 : Int32) c67_6_3 ?_
          refine k_tin C 129 (62) dX7_skater_67 (by decide) (by decide) ?_
          refine k_aloadn C 0 dX7_skater_129 rfl ?_
          refine k_getr C (j := 5) (k' := k + 738) kcl_X7 fl_X7_41 hk.1 (by decide) rfl dX7_skater_130 ?_
          refine k_geti C (j := 16) kcl_X3 fl_X7_154 hk.2.2.2.2.2.2.1.1 (by decide) rfl dX7_skater_133 ?_
          refine ret _ _ _ _ _ _ (by decide) (by decide) dX7_skater_136 rfl ?_
          exact ⟨er2p nc8_2 ⟨c22_3, Int32.not_lt.mpr c28_4⟩, by rw [x_sk, if_neg (show ¬ (w = 0) from by rw [show w = 3 from c67_6_3]; decide), if_neg (show ¬ (w = 1) from by rw [show w = 3 from c67_6_3]; decide), if_neg (show ¬ (w = 2) from by rw [show w = 3 from c67_6_3]; decide), if_pos (show w = 3 from c67_6_3)], by rw [if_neg (show ¬ (w = 5) from by rw [show w = 3 from c67_6_3]; decide)]⟩
        by_cases c67_6_4 : w = (4 : Int32)
        ·
          refine k_top (4 : Int32) c67_6_4 ?_
          refine k_tin C 137 (70) dX7_skater_67 (by decide) (by decide) ?_
          refine k_aloadn C 0 dX7_skater_137 rfl ?_
          refine k_getr C (j := 5) (k' := k + 738) kcl_X7 fl_X7_41 hk.1 (by decide) rfl dX7_skater_138 ?_
          refine k_vi C (as := []) yvX3_total viX3_total ml_X7_157 (m_X3_total l C.2.2.2.1 (x_R M k (st_pg (k + 1) s)) (k := k + 738) (hk := hk.2.2.2.2.2.2.1)) hk.2.2.2.2.2.2.1.1 rfl rfl rfl (Nat.le_of_ble_eq_true rfl) (by decide) dX7_skater_141 (fun x141_7 M141_7 h141_7 => ?_)
          rw [h141_7.1, h141_7.2]
          refine ret _ _ _ _ _ _ (by decide) (by decide) dX7_skater_144 rfl ?_
          exact ⟨er2p nc8_2 ⟨c22_3, Int32.not_lt.mpr c28_4⟩, by rw [x_sk, if_neg (show ¬ (w = 0) from by rw [show w = 4 from c67_6_4]; decide), if_neg (show ¬ (w = 1) from by rw [show w = 4 from c67_6_4]; decide), if_neg (show ¬ (w = 2) from by rw [show w = 4 from c67_6_4]; decide), if_neg (show ¬ (w = 3) from by rw [show w = 4 from c67_6_4]; decide), if_pos (show w = 4 from c67_6_4)], by rw [if_neg (show ¬ (w = 5) from by rw [show w = 4 from c67_6_4]; decide)]⟩
        by_cases c67_6_5 : w = (5 : Int32)
        ·
          refine k_top (5 : Int32) c67_6_5 ?_
          refine k_tin C 145 (78) dX7_skater_67 (by decide) (by decide) ?_
          refine k_aloadn C 0 dX7_skater_145 rfl ?_
          refine k_getr C (j := 6) (k' := k + 747) kcl_X7 fl_X7_48 hk.1 (by decide) rfl dX7_skater_146 ?_
          refine k_aloadn C 0 dX7_skater_149 rfl ?_
          refine k_getr C (j := 0) (k' := k + 1) kcl_X7 fl_X7_10 hk.1 (by decide) rfl dX7_skater_150 ?_
          refine k_aloadn C 0 dX7_skater_153 rfl ?_
          refine k_getr C (j := 5) (k' := k + 738) kcl_X7 fl_X7_41 hk.1 (by decide) rfl dX7_skater_154 ?_
          refine k_vv C (as := [.ref (sk_ad O (k + 1)), .ref (sk_ad O (k + 738))]) yvX4_rank viX4_rank ml_X7_112 (m_X4_rank l C.2.2.2.1 (x_R M k (st_pg (k + 1) s)) (k := k + 747) (f := k + 1) (c := k + 738) (hk := hk.2.2.2.2.2.2.2.1) (hf := hk.2.1) (hc := hk.2.2.2.2.2.2.1) (hw := hw2) (hkf := (by omega)) (hcf := (by omega)) (hkc := (by omega))) hk.2.2.2.2.2.2.2.1.1 rfl rfl rfl (Nat.le_of_ble_eq_true rfl) (by decide) dX7_skater_157 (fun M157_8 h157_8 => ?_)
          rw [show M157_8 = x_RK (x_R M k (st_pg (k + 1) s)) k from h157_8]
          refine k_aloadn C 0 dX7_skater_160 rfl ?_
          refine k_getr C (j := 6) (k' := k + 747) kcl_X7 fl_X7_48 hk.1 (by decide) rfl dX7_skater_161 ?_
          refine k_iloadn C 1 dX7_skater_164 rfl ?_
          refine k_top (nI s.toNatClampNeg) ix ?_
          refine k_vi C (as := [.int (nI s.toNatClampNeg)]) yvX4_place viX4_place ml_X7_160 (m_X4_place l C.2.2.2.1 (x_RK (x_R M k (st_pg (k + 1) s)) k) (k := k + 747) (q := s.toNatClampNeg) (m := st_n M (k + 1)) (hk := hk.2.2.2.2.2.2.2.1) (hm := (by rw [x_RK, sd_rk_2 (by omega), x_R_f (by omega), st_n, hm, nI_clamp (by omega)])) (hm4 := (by rw [st_n, hm, nI_clamp (by omega)]; exact hm4)) (hq := (by omega))) hk.2.2.2.2.2.2.2.1.1 rfl rfl rfl (Nat.le_of_ble_eq_true rfl) (by decide) dX7_skater_165 (fun x165_9 M165_9 h165_9 => ?_)
          rw [h165_9.1, h165_9.2]
          refine ret _ _ _ _ _ _ (by decide) (by decide) dX7_skater_168 rfl ?_
          exact ⟨er2p nc8_2 ⟨c22_3, Int32.not_lt.mpr c28_4⟩, by rw [x_sk, if_neg (show ¬ (w = 0) from by rw [show w = 5 from c67_6_5]; decide), if_neg (show ¬ (w = 1) from by rw [show w = 5 from c67_6_5]; decide), if_neg (show ¬ (w = 2) from by rw [show w = 5 from c67_6_5]; decide), if_neg (show ¬ (w = 3) from by rw [show w = 5 from c67_6_5]; decide), if_neg (show ¬ (w = 4) from by rw [show w = 5 from c67_6_5]; decide), if_pos (show w = 5 from c67_6_5)], by rw [if_pos c67_6_5]⟩
        by_cases c67_6_6 : w = (6 : Int32)
        ·
          refine k_top (6 : Int32) c67_6_6 ?_
          refine k_tin C 169 (102) dX7_skater_67 (by decide) (by decide) ?_
          refine k_aloadn C 3 dX7_skater_169 rfl ?_
          refine k_vi C (as := []) yvX2_fallen viX2_fallen ml_X7_164 (m_X2_fallen l C.2.2.2.1 (x_R M k (st_pg (k + 1) s)) (k := k + 1 + 3 + 10 * s.toNatClampNeg) (hk := (hk.2.1.2.1).2 s.toNatClampNeg (by omega)) (hw := hwp)) ((hk.2.1.2.1).2 s.toNatClampNeg (by omega)).1 rfl rfl rfl (Nat.le_of_ble_eq_true rfl) (by decide) dX7_skater_170 (fun x170_10 M170_10 h170_10 => ?_)
          rw [h170_10.1, h170_10.2]
          refine ret _ _ _ _ _ _ (by decide) (by decide) dX7_skater_173 rfl ?_
          exact ⟨er2p nc8_2 ⟨c22_3, Int32.not_lt.mpr c28_4⟩, by rw [x_sk, if_neg (show ¬ (w = 0) from by rw [show w = 6 from c67_6_6]; decide), if_neg (show ¬ (w = 1) from by rw [show w = 6 from c67_6_6]; decide), if_neg (show ¬ (w = 2) from by rw [show w = 6 from c67_6_6]; decide), if_neg (show ¬ (w = 3) from by rw [show w = 6 from c67_6_6]; decide), if_neg (show ¬ (w = 4) from by rw [show w = 6 from c67_6_6]; decide), if_neg (show ¬ (w = 5) from by rw [show w = 6 from c67_6_6]; decide), if_pos (show w = 6 from c67_6_6)], by rw [if_neg (show ¬ (w = 5) from by rw [show w = 6 from c67_6_6]; decide)]⟩
        have c67_6_0T : ¬ (w).toInt = 0 := fun h => c67_6_0 (sk_toI h)
        have c67_6_1T : ¬ (w).toInt = 1 := fun h => c67_6_1 (sk_toI h)
        have c67_6_2T : ¬ (w).toInt = 2 := fun h => c67_6_2 (sk_toI h)
        have c67_6_3T : ¬ (w).toInt = 3 := fun h => c67_6_3 (sk_toI h)
        have c67_6_4T : ¬ (w).toInt = 4 := fun h => c67_6_4 (sk_toI h)
        have c67_6_5T : ¬ (w).toInt = 5 := fun h => c67_6_5 (sk_toI h)
        have c67_6_6T : ¬ (w).toInt = 6 := fun h => c67_6_6 (sk_toI h)
        refine k_tout C 174 dX7_skater_67 (by omega) (by decide) ?_
        refine k_aloadn C 3 dX7_skater_174 rfl ?_
        refine k_vi C (as := []) yvX2_reviewed viX2_reviewed ml_X7_165 (m_X2_reviewed l C.2.2.2.1 (x_R M k (st_pg (k + 1) s)) (k := k + 1 + 3 + 10 * s.toNatClampNeg) (hk := (hk.2.1.2.1).2 s.toNatClampNeg (by omega)) (hw := hwp)) ((hk.2.1.2.1).2 s.toNatClampNeg (by omega)).1 rfl rfl rfl (Nat.le_of_ble_eq_true rfl) (by decide) dX7_skater_175 (fun x175_11 M175_11 h175_11 => ?_)
        rw [h175_11.1, h175_11.2]
        refine ret _ _ _ _ _ _ (by decide) (by decide) dX7_skater_178 rfl ?_
        exact ⟨er2p nc8_2 ⟨c22_3, Int32.not_lt.mpr c28_4⟩, by rw [x_sk, if_neg (show ¬ (w = 0) from c67_6_0), if_neg (show ¬ (w = 1) from c67_6_1), if_neg (show ¬ (w = 2) from c67_6_2), if_neg (show ¬ (w = 3) from c67_6_3), if_neg (show ¬ (w = 4) from c67_6_4), if_neg (show ¬ (w = 5) from c67_6_5), if_neg (show ¬ (w = 6) from c67_6_6)], by rw [if_neg (show ¬ (w = 5) from c67_6_5)]⟩
      ·
        refine thr "java/lang/IllegalArgumentException" "what is not 0 to 7" 69 131 73 _ _ _ xw_IllegalArgumentException (by decide +kernel) (by decide) dX7_skater_31 dX7_skater_34 (Or.inl ⟨dX7_skater_35, dX7_skater_37, dX7_skater_40⟩) ?_
        refine ⟨Or.inr (⟨?_, rfl⟩), rfl⟩
        exact er2m nc8_2 (fun h => h.2 (Int32.not_le.mp c28_4))
  ·
    have nc8_2 : ¬ (st_hs M (k + 1) s) := sk_b1.mp c8_2
    refine thr "java/lang/IndexOutOfBoundsException" "no such skater" 126 128 130 _ _ _ xw_IndexOutOfBoundsException (by decide +kernel) (by decide) dX7_skater_11 dX7_skater_14 (Or.inl ⟨dX7_skater_15, dX7_skater_17, dX7_skater_20⟩) ?_
    refine ⟨Or.inl ⟨?_, rfl⟩, rfl⟩
    exact er2n nc8_2

set_option maxHeartbeats 4000000 in
set_option maxRecDepth 100000 in
theorem m_X7_element (l : Launch) {O : sk_O} (hO : sk_inj O) (M : sk_M) (k : Nat) (s e w : Int32) (hk : sk_isX O k) (hw : st_wf M (k + 1)) (hst : l.stackTraces = false) : sk_Xi l yX7_element (sk_w yX7_element cX7_element 5 (some .int)) ({ frames := 6, cells := 1, slots := 6, locals := 108 }) O [.ref (sk_ad O k), .int s, .int e, .int w] M (fun r M' => (er_2 (st_he M (k + 1) s e) (¬ w < 0 ∧ ¬ 8 < w)) = 0 ∧ r = (x_el M k s e w) ∧ M' = (x_R M k (st_pg (k + 1) s))) (fun E M' => ((er_2 (st_he M (k + 1) s e) (¬ w < 0 ∧ ¬ 8 < w)) = 1 ∧ E = "java/lang/IndexOutOfBoundsException" ∨ (er_2 (st_he M (k + 1) s e) (¬ w < 0 ∧ ¬ 8 < w)) = 2 ∧ E = "java/lang/IllegalArgumentException") ∧ M' = M) := by
  refine sk_xi hst (by decide) rfl ⟨rfl, rfl⟩ hO (Nat.le_of_ble_eq_true rfl) (fun X A Q C hSr ret thr out => ?_)
  show sk_W l X O A Q 5 0 0 M 0 [(0, .ref (sk_ad O k)), (1, .int s), (2, .int e), (3, .int w)] []
  have hw0 := hw
  obtain ⟨m, hm4, hm, hmj⟩ := hw
  have hw2 : st_wf (x_R M k (st_pg (k + 1) s)) (k + 1) := st_wf_c (fun a h1 h2 => x_R_f (by omega)) hw0
  refine k_aloadn C 0 dX7_element_0 rfl ?_
  refine k_getr C (j := 0) (k' := k + 1) kcl_X7 fl_X7_10 hk.1 (by decide) rfl dX7_element_1 ?_
  refine k_iloadn C 1 dX7_element_4 rfl ?_
  refine k_iloadn C 2 dX7_element_5 rfl ?_
  refine k_vi C (as := [.int s, .int e]) yvX5_hasElement viX5_hasElement ml_X7_166 (m_X5_hasElement l C.2.2.2.1 M (k := k + 1) (hk := hk.2.1) (hw := hw0) (s := s) (e := e)) hk.2.1.1 rfl rfl rfl (Nat.le_of_ble_eq_true rfl) (by decide) dX7_element_6 (fun x6_1 M6_1 h6_1 => ?_)
  rw [h6_1.1, h6_1.2]
  refine k_zne C 22 dX7_element_9 (by decide) (fun c9_2 => ?_) (fun c9_2 => ?_)
  ·
    have nc9_2 : st_he M (k + 1) s e := Classical.byContradiction (fun h => c9_2 (sk_b1.mpr h))
    obtain ⟨ix, ib⟩ := sk_ix nc9_2.1 hm (by omega)
    obtain ⟨N, hN12, hN, hNp⟩ := id (hmj _ ib)
    obtain ⟨ex, eb⟩ := sk_ix nc9_2.2 hN (by omega)
    refine k_iloadn C 3 dX7_element_22 rfl ?_
    refine k_zlt C 32 dX7_element_23 (by decide) (fun c23_3 => ?_) (fun c23_3 => ?_)
    ·
      refine thr "java/lang/IllegalArgumentException" "what is not 0 to 8" 69 172 73 _ _ _ xw_IllegalArgumentException (by decide +kernel) (by decide) dX7_element_32 dX7_element_35 (Or.inl ⟨dX7_element_36, dX7_element_38, dX7_element_41⟩) ?_
      refine ⟨Or.inr (⟨?_, rfl⟩), rfl⟩
      exact er2m nc9_2 (fun h => h.1 c23_3)
    ·
      refine k_iloadn C 3 dX7_element_26 rfl ?_
      refine k_bipush C (8) dX7_element_27 (by decide) ?_
      refine k_cle C 42 dX7_element_29 (by decide) (fun c29_4 => ?_) (fun c29_4 => ?_)
      ·
        refine k_aloadn C 0 dX7_element_42 rfl ?_
        refine k_getr C (j := 0) (k' := k + 1) kcl_X7 fl_X7_10 hk.1 (by decide) rfl dX7_element_43 ?_
        refine k_getr C (j := 0) (k' := k + 2) kcl_X5 fl_X7_133 hk.2.1.1 (by decide) rfl dX7_element_46 ?_
        refine k_iloadn C 1 dX7_element_49 rfl ?_
        refine k_aald C (k' := k + 1 + 3 + 10 * s.toNatClampNeg) s.toNatClampNeg ((hk.2.1.2.1).1) (by decide) ix (by omega) rfl dX7_element_50 ?_
        refine k_astore C [1, 2, 3, 4, 0] [(0, .ref (sk_ad O k)), (1, .int s), (2, .int e), (3, .int w), (4, .ref (sk_ad O (k + 1 + 3 + 10 * s.toNatClampNeg)))] dX7_element_51 (by decide) rfl ?_
        refine k_aloadn C 0 dX7_element_53 rfl ?_
        refine k_getr C (j := 5) (k' := k + 738) kcl_X7 fl_X7_41 hk.1 (by decide) rfl dX7_element_54 ?_
        refine k_aload C 4 dX7_element_57 rfl ?_
        refine k_aloadn C 0 dX7_element_59 rfl ?_
        refine k_getr C (j := 0) (k' := k + 1) kcl_X7 fl_X7_10 hk.1 (by decide) rfl dX7_element_60 ?_
        refine k_getr C (j := 1) (k' := k + 3) kcl_X5 fl_X7_137 hk.2.1.1 (by decide) rfl dX7_element_63 ?_
        refine k_vv C (as := [.ref (sk_ad O (k + 1 + 3 + 10 * s.toNatClampNeg)), .ref (sk_ad O (k + 3))]) yvX3_rate viX3_rate ml_X7_141 (m_X3_rate l C.2.2.2.1 M (k := k + 738) (g := k + 1 + 3 + 10 * s.toNatClampNeg) (u := k + 3) (hk := hk.2.2.2.2.2.2.1) (hg := (hk.2.1.2.1).2 s.toNatClampNeg (by omega)) (hu := hk.2.1.2.2) (hw := (hmj _ ib)) (hap := (by omega)) (hap2 := (by omega))) hk.2.2.2.2.2.2.1.1 rfl rfl rfl (Nat.le_of_ble_eq_true rfl) (by decide) dX7_element_66 (fun M66_5 h66_5 => ?_)
        rw [show M66_5 = x_R M k (st_pg (k + 1) s) from h66_5]
        refine k_iloadn C 3 dX7_element_69 rfl ?_
        by_cases c70_6_0 : w = (0 : Int32)
        ·
          refine k_top (0 : Int32) c70_6_0 ?_
          refine k_tin C 116 (46) dX7_element_70 (by decide) (by decide) ?_
          refine k_aload C 4 dX7_element_116 rfl ?_
          refine k_getr C (j := 0) (k' := k + 1 + 3 + 10 * s.toNatClampNeg + 1) kcl_X2 fl_X7_174 ((hk.2.1.2.1).2 s.toNatClampNeg (by omega)).1 (by decide) rfl dX7_element_118 ?_
          refine k_iloadn C 2 dX7_element_121 rfl ?_
          refine k_ialdn C e.toNatClampNeg (((hk.2.1.2.1).2 s.toNatClampNeg (by omega)).2.1) ex (by omega) dX7_element_122 ?_
          refine ret _ _ _ _ _ _ (by decide) (by decide) dX7_element_123 rfl ?_
          exact ⟨er2p nc9_2 ⟨c23_3, Int32.not_lt.mpr c29_4⟩, by rw [x_el, if_pos (show w = 0 from c70_6_0)], rfl⟩
        by_cases c70_6_1 : w = (1 : Int32)
        ·
          refine k_top (1 : Int32) c70_6_1 ?_
          refine k_tin C 124 (54) dX7_element_70 (by decide) (by decide) ?_
          refine k_aload C 4 dX7_element_124 rfl ?_
          refine k_getr C (j := 1) (k' := k + 1 + 3 + 10 * s.toNatClampNeg + 2) kcl_X2 fl_X7_177 ((hk.2.1.2.1).2 s.toNatClampNeg (by omega)).1 (by decide) rfl dX7_element_126 ?_
          refine k_iloadn C 2 dX7_element_129 rfl ?_
          refine k_ialdn C e.toNatClampNeg (((hk.2.1.2.1).2 s.toNatClampNeg (by omega)).2.2.1) ex (by omega) dX7_element_130 ?_
          refine ret _ _ _ _ _ _ (by decide) (by decide) dX7_element_131 rfl ?_
          exact ⟨er2p nc9_2 ⟨c23_3, Int32.not_lt.mpr c29_4⟩, by rw [x_el, if_neg (show ¬ (w = 0) from by rw [show w = 1 from c70_6_1]; decide), if_pos (show w = 1 from c70_6_1)], rfl⟩
        by_cases c70_6_2 : w = (2 : Int32)
        ·
          refine k_top (2 : Int32) c70_6_2 ?_
          refine k_tin C 132 (62) dX7_element_70 (by decide) (by decide) ?_
          refine k_aloadn C 0 dX7_element_132 rfl ?_
          refine k_getr C (j := 5) (k' := k + 738) kcl_X7 fl_X7_41 hk.1 (by decide) rfl dX7_element_133 ?_
          refine k_getr C (j := 2) (k' := k + 741) kcl_X3 fl_X7_180 hk.2.2.2.2.2.2.1.1 (by decide) rfl dX7_element_136 ?_
          refine k_iloadn C 2 dX7_element_139 rfl ?_
          refine k_ialdn C e.toNatClampNeg hk.2.2.2.2.2.2.1.2.2.2.1 ex (by omega) dX7_element_140 ?_
          refine ret _ _ _ _ _ _ (by decide) (by decide) dX7_element_141 rfl ?_
          exact ⟨er2p nc9_2 ⟨c23_3, Int32.not_lt.mpr c29_4⟩, by rw [x_el, if_neg (show ¬ (w = 0) from by rw [show w = 2 from c70_6_2]; decide), if_neg (show ¬ (w = 1) from by rw [show w = 2 from c70_6_2]; decide), if_pos (show w = 2 from c70_6_2)], rfl⟩
        by_cases c70_6_3 : w = (3 : Int32)
        ·
          refine k_top (3 : Int32) c70_6_3 ?_
          refine k_tin C 142 (72) dX7_element_70 (by decide) (by decide) ?_
          refine k_aload C 4 dX7_element_142 rfl ?_
          refine k_getr C (j := 2) (k' := k + 1 + 3 + 10 * s.toNatClampNeg + 3) kcl_X2 fl_X7_183 ((hk.2.1.2.1).2 s.toNatClampNeg (by omega)).1 (by decide) rfl dX7_element_144 ?_
          refine k_iloadn C 2 dX7_element_147 rfl ?_
          refine k_ialdn C e.toNatClampNeg (((hk.2.1.2.1).2 s.toNatClampNeg (by omega)).2.2.2.1) ex (by omega) dX7_element_148 ?_
          refine ret _ _ _ _ _ _ (by decide) (by decide) dX7_element_149 rfl ?_
          exact ⟨er2p nc9_2 ⟨c23_3, Int32.not_lt.mpr c29_4⟩, by rw [x_el, if_neg (show ¬ (w = 0) from by rw [show w = 3 from c70_6_3]; decide), if_neg (show ¬ (w = 1) from by rw [show w = 3 from c70_6_3]; decide), if_neg (show ¬ (w = 2) from by rw [show w = 3 from c70_6_3]; decide), if_pos (show w = 3 from c70_6_3)], rfl⟩
        by_cases c70_6_4 : w = (4 : Int32)
        ·
          refine k_top (4 : Int32) c70_6_4 ?_
          refine k_tin C 150 (80) dX7_element_70 (by decide) (by decide) ?_
          refine k_aloadn C 0 dX7_element_150 rfl ?_
          refine k_getr C (j := 5) (k' := k + 738) kcl_X7 fl_X7_41 hk.1 (by decide) rfl dX7_element_151 ?_
          refine k_getr C (j := 4) (k' := k + 743) kcl_X3 fl_X7_186 hk.2.2.2.2.2.2.1.1 (by decide) rfl dX7_element_154 ?_
          refine k_iloadn C 2 dX7_element_157 rfl ?_
          refine k_ialdn C e.toNatClampNeg hk.2.2.2.2.2.2.1.2.2.2.2.2.1 ex (by omega) dX7_element_158 ?_
          refine ret _ _ _ _ _ _ (by decide) (by decide) dX7_element_159 rfl ?_
          exact ⟨er2p nc9_2 ⟨c23_3, Int32.not_lt.mpr c29_4⟩, by rw [x_el, if_neg (show ¬ (w = 0) from by rw [show w = 4 from c70_6_4]; decide), if_neg (show ¬ (w = 1) from by rw [show w = 4 from c70_6_4]; decide), if_neg (show ¬ (w = 2) from by rw [show w = 4 from c70_6_4]; decide), if_neg (show ¬ (w = 3) from by rw [show w = 4 from c70_6_4]; decide), if_pos (show w = 4 from c70_6_4)], rfl⟩
        by_cases c70_6_5 : w = (5 : Int32)
        ·
          refine k_top (5 : Int32) c70_6_5 ?_
          refine k_tin C 160 (90) dX7_element_70 (by decide) (by decide) ?_
          refine k_aloadn C 0 dX7_element_160 rfl ?_
          refine k_getr C (j := 5) (k' := k + 738) kcl_X7 fl_X7_41 hk.1 (by decide) rfl dX7_element_161 ?_
          refine k_getr C (j := 2) (k' := k + 741) kcl_X3 fl_X7_180 hk.2.2.2.2.2.2.1.1 (by decide) rfl dX7_element_164 ?_
          refine k_iloadn C 2 dX7_element_167 rfl ?_
          refine k_ialdn C e.toNatClampNeg hk.2.2.2.2.2.2.1.2.2.2.1 ex (by omega) dX7_element_168 ?_
          refine k_aloadn C 0 dX7_element_169 rfl ?_
          refine k_getr C (j := 5) (k' := k + 738) kcl_X7 fl_X7_41 hk.1 (by decide) rfl dX7_element_170 ?_
          refine k_getr C (j := 4) (k' := k + 743) kcl_X3 fl_X7_186 hk.2.2.2.2.2.2.1.1 (by decide) rfl dX7_element_173 ?_
          refine k_iloadn C 2 dX7_element_176 rfl ?_
          refine k_ialdn C e.toNatClampNeg hk.2.2.2.2.2.2.1.2.2.2.2.2.1 ex (by omega) dX7_element_177 ?_
          refine k_iadd C dX7_element_178 ?_
          refine ret _ _ _ _ _ _ (by decide) (by decide) dX7_element_179 rfl ?_
          exact ⟨er2p nc9_2 ⟨c23_3, Int32.not_lt.mpr c29_4⟩, by rw [x_el, if_neg (show ¬ (w = 0) from by rw [show w = 5 from c70_6_5]; decide), if_neg (show ¬ (w = 1) from by rw [show w = 5 from c70_6_5]; decide), if_neg (show ¬ (w = 2) from by rw [show w = 5 from c70_6_5]; decide), if_neg (show ¬ (w = 3) from by rw [show w = 5 from c70_6_5]; decide), if_neg (show ¬ (w = 4) from by rw [show w = 5 from c70_6_5]; decide), if_pos (show w = 5 from c70_6_5)], rfl⟩
        by_cases c70_6_6 : w = (6 : Int32)
        ·
          refine k_top (6 : Int32) c70_6_6 ?_
          refine k_tin C 180 (110) dX7_element_70 (by decide) (by decide) ?_
          refine k_aload C 4 dX7_element_180 rfl ?_
          refine k_getr C (j := 3) (k' := k + 1 + 3 + 10 * s.toNatClampNeg + 4) kcl_X2 fl_X7_189 ((hk.2.1.2.1).2 s.toNatClampNeg (by omega)).1 (by decide) rfl dX7_element_182 ?_
          refine k_iloadn C 2 dX7_element_185 rfl ?_
          refine k_ialdn C e.toNatClampNeg (((hk.2.1.2.1).2 s.toNatClampNeg (by omega)).2.2.2.2.1) ex (by omega) dX7_element_186 ?_
          refine ret _ _ _ _ _ _ (by decide) (by decide) dX7_element_187 rfl ?_
          exact ⟨er2p nc9_2 ⟨c23_3, Int32.not_lt.mpr c29_4⟩, by rw [x_el, if_neg (show ¬ (w = 0) from by rw [show w = 6 from c70_6_6]; decide), if_neg (show ¬ (w = 1) from by rw [show w = 6 from c70_6_6]; decide), if_neg (show ¬ (w = 2) from by rw [show w = 6 from c70_6_6]; decide), if_neg (show ¬ (w = 3) from by rw [show w = 6 from c70_6_6]; decide), if_neg (show ¬ (w = 4) from by rw [show w = 6 from c70_6_6]; decide), if_neg (show ¬ (w = 5) from by rw [show w = 6 from c70_6_6]; decide), if_pos (show w = 6 from c70_6_6)], rfl⟩
        by_cases c70_6_7 : w = (7 : Int32)
        ·
          refine k_top (7 : Int32) c70_6_7 ?_
          refine k_tin C 188 (118) dX7_element_70 (by decide) (by decide) ?_
          refine k_aload C 4 dX7_element_188 rfl ?_
          refine k_getr C (j := 4) (k' := k + 1 + 3 + 10 * s.toNatClampNeg + 5) kcl_X2 fl_X7_192 ((hk.2.1.2.1).2 s.toNatClampNeg (by omega)).1 (by decide) rfl dX7_element_190 ?_
          refine k_iloadn C 2 dX7_element_193 rfl ?_
          refine k_ialdn C e.toNatClampNeg (((hk.2.1.2.1).2 s.toNatClampNeg (by omega)).2.2.2.2.2.1) ex (by omega) dX7_element_194 ?_
          refine ret _ _ _ _ _ _ (by decide) (by decide) dX7_element_195 rfl ?_
          exact ⟨er2p nc9_2 ⟨c23_3, Int32.not_lt.mpr c29_4⟩, by rw [x_el, if_neg (show ¬ (w = 0) from by rw [show w = 7 from c70_6_7]; decide), if_neg (show ¬ (w = 1) from by rw [show w = 7 from c70_6_7]; decide), if_neg (show ¬ (w = 2) from by rw [show w = 7 from c70_6_7]; decide), if_neg (show ¬ (w = 3) from by rw [show w = 7 from c70_6_7]; decide), if_neg (show ¬ (w = 4) from by rw [show w = 7 from c70_6_7]; decide), if_neg (show ¬ (w = 5) from by rw [show w = 7 from c70_6_7]; decide), if_neg (show ¬ (w = 6) from by rw [show w = 7 from c70_6_7]; decide), if_pos (show w = 7 from c70_6_7)], rfl⟩
        have c70_6_0T : ¬ (w).toInt = 0 := fun h => c70_6_0 (sk_toI h)
        have c70_6_1T : ¬ (w).toInt = 1 := fun h => c70_6_1 (sk_toI h)
        have c70_6_2T : ¬ (w).toInt = 2 := fun h => c70_6_2 (sk_toI h)
        have c70_6_3T : ¬ (w).toInt = 3 := fun h => c70_6_3 (sk_toI h)
        have c70_6_4T : ¬ (w).toInt = 4 := fun h => c70_6_4 (sk_toI h)
        have c70_6_5T : ¬ (w).toInt = 5 := fun h => c70_6_5 (sk_toI h)
        have c70_6_6T : ¬ (w).toInt = 6 := fun h => c70_6_6 (sk_toI h)
        have c70_6_7T : ¬ (w).toInt = 7 := fun h => c70_6_7 (sk_toI h)
        refine k_tout C 196 dX7_element_70 (by omega) (by decide) ?_
        refine k_aloadn C 0 dX7_element_196 rfl ?_
        refine k_getr C (j := 5) (k' := k + 738) kcl_X7 fl_X7_41 hk.1 (by decide) rfl dX7_element_197 ?_
        refine k_getr C (j := 5) (k' := k + 744) kcl_X3 fl_X7_195 hk.2.2.2.2.2.2.1.1 (by decide) rfl dX7_element_200 ?_
        refine k_iloadn C 2 dX7_element_203 rfl ?_
        refine k_ialdn C e.toNatClampNeg hk.2.2.2.2.2.2.1.2.2.2.2.2.2.1 ex (by omega) dX7_element_204 ?_
        refine ret _ _ _ _ _ _ (by decide) (by decide) dX7_element_205 rfl ?_
        exact ⟨er2p nc9_2 ⟨c23_3, Int32.not_lt.mpr c29_4⟩, by rw [x_el, if_neg (show ¬ (w = 0) from c70_6_0), if_neg (show ¬ (w = 1) from c70_6_1), if_neg (show ¬ (w = 2) from c70_6_2), if_neg (show ¬ (w = 3) from c70_6_3), if_neg (show ¬ (w = 4) from c70_6_4), if_neg (show ¬ (w = 5) from c70_6_5), if_neg (show ¬ (w = 6) from c70_6_6), if_neg (show ¬ (w = 7) from c70_6_7)], rfl⟩
      ·
        refine thr "java/lang/IllegalArgumentException" "what is not 0 to 8" 69 172 73 _ _ _ xw_IllegalArgumentException (by decide +kernel) (by decide) dX7_element_32 dX7_element_35 (Or.inl ⟨dX7_element_36, dX7_element_38, dX7_element_41⟩) ?_
        refine ⟨Or.inr (⟨?_, rfl⟩), rfl⟩
        exact er2m nc9_2 (fun h => h.2 (Int32.not_le.mp c29_4))
  ·
    have nc9_2 : ¬ (st_he M (k + 1) s e) := sk_b1.mp c9_2
    refine thr "java/lang/IndexOutOfBoundsException" "no such skater or element" 126 170 130 _ _ _ xw_IndexOutOfBoundsException (by decide +kernel) (by decide) dX7_element_12 dX7_element_15 (Or.inl ⟨dX7_element_16, dX7_element_18, dX7_element_21⟩) ?_
    refine ⟨Or.inl ⟨?_, rfl⟩, rfl⟩
    exact er2n nc9_2

set_option maxHeartbeats 4000000 in
set_option maxRecDepth 100000 in
theorem m_X7_part (l : Launch) {O : sk_O} (hO : sk_inj O) (M : sk_M) (k : Nat) (s e p w : Int32) (hk : sk_isX O k) (hw : st_wf M (k + 1)) (hst : l.stackTraces = false) : sk_Xi l yX7_part (sk_w yX7_part cX7_part 7 (some .int)) ({ frames := 6, cells := 1, slots := 6, locals := 108 }) O [.ref (sk_ad O k), .int s, .int e, .int p, .int w] M (fun r M' => (er_2 (st_hp M (k + 1) s e p) (¬ w < 0 ∧ ¬ 4 < w)) = 0 ∧ r = (x_pa M k s e p w) ∧ M' = (x_pm M k s w)) (fun E M' => ((er_2 (st_hp M (k + 1) s e p) (¬ w < 0 ∧ ¬ 4 < w)) = 1 ∧ E = "java/lang/IndexOutOfBoundsException" ∨ (er_2 (st_hp M (k + 1) s e p) (¬ w < 0 ∧ ¬ 4 < w)) = 2 ∧ E = "java/lang/IllegalArgumentException") ∧ M' = M) := by
  refine sk_xi hst (by decide) rfl ⟨rfl, rfl⟩ hO (Nat.le_of_ble_eq_true rfl) (fun X A Q C hSr ret thr out => ?_)
  show sk_W l X O A Q 7 0 0 M 0 [(0, .ref (sk_ad O k)), (1, .int s), (2, .int e), (3, .int p), (4, .int w)] []
  have hw0 := hw
  obtain ⟨m, hm4, hm, hmj⟩ := hw
  have hw2 : st_wf (x_R M k (st_pg (k + 1) s)) (k + 1) := st_wf_c (fun a h1 h2 => x_R_f (by omega)) hw0
  refine k_aloadn C 0 dX7_part_0 rfl ?_
  refine k_getr C (j := 0) (k' := k + 1) kcl_X7 fl_X7_10 hk.1 (by decide) rfl dX7_part_1 ?_
  refine k_iloadn C 1 dX7_part_4 rfl ?_
  refine k_iloadn C 2 dX7_part_5 rfl ?_
  refine k_iloadn C 3 dX7_part_6 rfl ?_
  refine k_vi C (as := [.int s, .int e, .int p]) yvX5_hasPart viX5_hasPart ml_X7_198 (m_X5_hasPart l C.2.2.2.1 M (k := k + 1) (hk := hk.2.1) (hw := hw0) (s := s) (e := e) (p := p)) hk.2.1.1 rfl rfl rfl (Nat.le_of_ble_eq_true rfl) (by decide) dX7_part_7 (fun x7_1 M7_1 h7_1 => ?_)
  rw [h7_1.1, h7_1.2]
  refine k_zne C 23 dX7_part_10 (by decide) (fun c10_2 => ?_) (fun c10_2 => ?_)
  ·
    have nc10_2 : st_hp M (k + 1) s e p := Classical.byContradiction (fun h => c10_2 (sk_b1.mpr h))
    obtain ⟨ix, ib⟩ := sk_ix nc10_2.1.1 hm (by omega)
    obtain ⟨N, hN12, hN, hNp⟩ := id (hmj _ ib)
    obtain ⟨ex, eb⟩ := sk_ix nc10_2.1.2 hN (by omega)
    obtain ⟨np, hnp, hpp⟩ := hNp _ eb
    obtain ⟨px, pb⟩ := sk_ix nc10_2.2 hpp (by omega)
    refine k_iload C 4 dX7_part_23 rfl ?_
    refine k_zlt C 34 dX7_part_25 (by decide) (fun c25_3 => ?_) (fun c25_3 => ?_)
    ·
      refine thr "java/lang/IllegalArgumentException" "what is not 0 to 4" 69 204 73 _ _ _ xw_IllegalArgumentException (by decide +kernel) (by decide) dX7_part_34 dX7_part_37 (Or.inl ⟨dX7_part_38, dX7_part_40, dX7_part_43⟩) ?_
      refine ⟨Or.inr (⟨?_, rfl⟩), rfl⟩
      exact er2m nc10_2 (fun h => h.1 c25_3)
    ·
      refine k_iload C 4 dX7_part_28 rfl ?_
      refine k_iconst C (4) dX7_part_30 (by decide) ?_
      refine k_cle C 44 dX7_part_31 (by decide) (fun c31_4 => ?_) (fun c31_4 => ?_)
      ·
        refine k_aloadn C 0 dX7_part_44 rfl ?_
        refine k_getr C (j := 0) (k' := k + 1) kcl_X7 fl_X7_10 hk.1 (by decide) rfl dX7_part_45 ?_
        refine k_getr C (j := 0) (k' := k + 2) kcl_X5 fl_X7_133 hk.2.1.1 (by decide) rfl dX7_part_48 ?_
        refine k_iloadn C 1 dX7_part_51 rfl ?_
        refine k_aald C (k' := k + 1 + 3 + 10 * s.toNatClampNeg) s.toNatClampNeg ((hk.2.1.2.1).1) (by decide) ix (by omega) rfl dX7_part_52 ?_
        refine k_astore C [1, 2, 3, 4, 5, 0] [(0, .ref (sk_ad O k)), (1, .int s), (2, .int e), (3, .int p), (4, .int w), (5, .ref (sk_ad O (k + 1 + 3 + 10 * s.toNatClampNeg)))] dX7_part_53 (by decide) rfl ?_
        refine k_iconst C (3) dX7_part_55 (by decide) ?_
        refine k_iloadn C 2 dX7_part_56 rfl ?_
        refine k_imul C dX7_part_57 ?_
        refine k_iloadn C 3 dX7_part_58 rfl ?_
        refine k_iadd C dX7_part_59 ?_
        refine k_istore C [1, 2, 3, 4, 5, 6, 0] [(0, .ref (sk_ad O k)), (1, .int s), (2, .int e), (3, .int p), (4, .int w), (5, .ref (sk_ad O (k + 1 + 3 + 10 * s.toNatClampNeg))), (6, .int (((3) * e) + p))] dX7_part_60 (by decide) rfl ?_
        refine k_iload C 4 dX7_part_62 rfl ?_
        by_cases c64_5_0 : w = (0 : Int32)
        ·
          refine k_top (0 : Int32) c64_5_0 ?_
          refine k_tin C 96 (32) dX7_part_64 (by decide) (by decide) ?_
          refine k_aload C 5 dX7_part_96 rfl ?_
          refine k_getr C (j := 5) (k' := k + 1 + 3 + 10 * s.toNatClampNeg + 6) kcl_X2 fl_X7_206 ((hk.2.1.2.1).2 s.toNatClampNeg (by omega)).1 (by decide) rfl dX7_part_98 ?_
          refine k_iload C 6 dX7_part_101 rfl ?_
          refine k_ialdn C (3 * e.toNatClampNeg + p.toNatClampNeg) (((hk.2.1.2.1).2 s.toNatClampNeg (by omega)).2.2.2.2.2.2.1) (sk_nadd (sk_nmul (a := 3) rfl ex) px) (by omega) dX7_part_103 ?_
          refine ret _ _ _ _ _ _ (by decide) (by decide) dX7_part_104 rfl ?_
          exact ⟨er2p nc10_2 ⟨c25_3, Int32.not_lt.mpr c31_4⟩, by rw [x_pa, if_pos (show w = 0 from c64_5_0)], by rw [x_pm, if_pos (show w = 0 from c64_5_0)]⟩
        by_cases c64_5_1 : w = (1 : Int32)
        ·
          refine k_top (1 : Int32) c64_5_1 ?_
          refine k_tin C 105 (41) dX7_part_64 (by decide) (by decide) ?_
          refine k_aload C 5 dX7_part_105 rfl ?_
          refine k_getr C (j := 6) (k' := k + 1 + 3 + 10 * s.toNatClampNeg + 7) kcl_X2 fl_X7_209 ((hk.2.1.2.1).2 s.toNatClampNeg (by omega)).1 (by decide) rfl dX7_part_107 ?_
          refine k_iload C 6 dX7_part_110 rfl ?_
          refine k_ialdn C (3 * e.toNatClampNeg + p.toNatClampNeg) (((hk.2.1.2.1).2 s.toNatClampNeg (by omega)).2.2.2.2.2.2.2.1) (sk_nadd (sk_nmul (a := 3) rfl ex) px) (by omega) dX7_part_112 ?_
          refine ret _ _ _ _ _ _ (by decide) (by decide) dX7_part_113 rfl ?_
          exact ⟨er2p nc10_2 ⟨c25_3, Int32.not_lt.mpr c31_4⟩, by rw [x_pa, if_neg (show ¬ (w = 0) from by rw [show w = 1 from c64_5_1]; decide), if_pos (show w = 1 from c64_5_1)], by rw [x_pm, if_neg (show ¬ (w = 0) from by rw [show w = 1 from c64_5_1]; decide), if_pos (show w = 1 from c64_5_1)]⟩
        by_cases c64_5_2 : w = (2 : Int32)
        ·
          refine k_top (2 : Int32) c64_5_2 ?_
          refine k_tin C 114 (50) dX7_part_64 (by decide) (by decide) ?_
          refine k_aload C 5 dX7_part_114 rfl ?_
          refine k_getr C (j := 7) (k' := k + 1 + 3 + 10 * s.toNatClampNeg + 8) kcl_X2 fl_X7_212 ((hk.2.1.2.1).2 s.toNatClampNeg (by omega)).1 (by decide) rfl dX7_part_116 ?_
          refine k_iload C 6 dX7_part_119 rfl ?_
          refine k_ialdn C (3 * e.toNatClampNeg + p.toNatClampNeg) (((hk.2.1.2.1).2 s.toNatClampNeg (by omega)).2.2.2.2.2.2.2.2.1) (sk_nadd (sk_nmul (a := 3) rfl ex) px) (by omega) dX7_part_121 ?_
          refine ret _ _ _ _ _ _ (by decide) (by decide) dX7_part_122 rfl ?_
          exact ⟨er2p nc10_2 ⟨c25_3, Int32.not_lt.mpr c31_4⟩, by rw [x_pa, if_neg (show ¬ (w = 0) from by rw [show w = 2 from c64_5_2]; decide), if_neg (show ¬ (w = 1) from by rw [show w = 2 from c64_5_2]; decide), if_pos (show w = 2 from c64_5_2)], by rw [x_pm, if_neg (show ¬ (w = 0) from by rw [show w = 2 from c64_5_2]; decide), if_neg (show ¬ (w = 1) from by rw [show w = 2 from c64_5_2]; decide), if_pos (show w = 2 from c64_5_2)]⟩
        by_cases c64_5_3 : w = (3 : Int32)
        ·
          refine k_top (3 : Int32) c64_5_3 ?_
          refine k_tin C 123 (59) dX7_part_64 (by decide) (by decide) ?_
          refine k_aloadn C 0 dX7_part_123 rfl ?_
          refine k_getr C (j := 5) (k' := k + 738) kcl_X7 fl_X7_41 hk.1 (by decide) rfl dX7_part_124 ?_
          refine k_aload C 5 dX7_part_127 rfl ?_
          refine k_aloadn C 0 dX7_part_129 rfl ?_
          refine k_getr C (j := 0) (k' := k + 1) kcl_X7 fl_X7_10 hk.1 (by decide) rfl dX7_part_130 ?_
          refine k_getr C (j := 1) (k' := k + 3) kcl_X5 fl_X7_137 hk.2.1.1 (by decide) rfl dX7_part_133 ?_
          refine k_vv C (as := [.ref (sk_ad O (k + 1 + 3 + 10 * s.toNatClampNeg)), .ref (sk_ad O (k + 3))]) yvX3_rate viX3_rate ml_X7_141 (m_X3_rate l C.2.2.2.1 M (k := k + 738) (g := k + 1 + 3 + 10 * s.toNatClampNeg) (u := k + 3) (hk := hk.2.2.2.2.2.2.1) (hg := (hk.2.1.2.1).2 s.toNatClampNeg (by omega)) (hu := hk.2.1.2.2) (hw := (hmj _ ib)) (hap := (by omega)) (hap2 := (by omega))) hk.2.2.2.2.2.2.1.1 rfl rfl rfl (Nat.le_of_ble_eq_true rfl) (by decide) dX7_part_136 (fun M136_6 h136_6 => ?_)
          rw [show M136_6 = x_R M k (st_pg (k + 1) s) from h136_6]
          refine k_aloadn C 0 dX7_part_139 rfl ?_
          refine k_getr C (j := 5) (k' := k + 738) kcl_X7 fl_X7_41 hk.1 (by decide) rfl dX7_part_140 ?_
          refine k_getr C (j := 0) (k' := k + 739) kcl_X3 fl_X7_215 hk.2.2.2.2.2.2.1.1 (by decide) rfl dX7_part_143 ?_
          refine k_iload C 6 dX7_part_146 rfl ?_
          refine k_ialdn C (3 * e.toNatClampNeg + p.toNatClampNeg) hk.2.2.2.2.2.2.1.2.1 (sk_nadd (sk_nmul (a := 3) rfl ex) px) (by omega) dX7_part_148 ?_
          refine ret _ _ _ _ _ _ (by decide) (by decide) dX7_part_149 rfl ?_
          exact ⟨er2p nc10_2 ⟨c25_3, Int32.not_lt.mpr c31_4⟩, by rw [x_pa, if_neg (show ¬ (w = 0) from by rw [show w = 3 from c64_5_3]; decide), if_neg (show ¬ (w = 1) from by rw [show w = 3 from c64_5_3]; decide), if_neg (show ¬ (w = 2) from by rw [show w = 3 from c64_5_3]; decide), if_pos (show w = 3 from c64_5_3)], by rw [x_pm, if_neg (show ¬ (w = 0) from by rw [show w = 3 from c64_5_3]; decide), if_neg (show ¬ (w = 1) from by rw [show w = 3 from c64_5_3]; decide), if_neg (show ¬ (w = 2) from by rw [show w = 3 from c64_5_3]; decide)]⟩
        have c64_5_0T : ¬ (w).toInt = 0 := fun h => c64_5_0 (sk_toI h)
        have c64_5_1T : ¬ (w).toInt = 1 := fun h => c64_5_1 (sk_toI h)
        have c64_5_2T : ¬ (w).toInt = 2 := fun h => c64_5_2 (sk_toI h)
        have c64_5_3T : ¬ (w).toInt = 3 := fun h => c64_5_3 (sk_toI h)
        refine k_tout C 150 dX7_part_64 (by omega) (by decide) ?_
        refine k_aloadn C 0 dX7_part_150 rfl ?_
        refine k_getr C (j := 5) (k' := k + 738) kcl_X7 fl_X7_41 hk.1 (by decide) rfl dX7_part_151 ?_
        refine k_aload C 5 dX7_part_154 rfl ?_
        refine k_aloadn C 0 dX7_part_156 rfl ?_
        refine k_getr C (j := 0) (k' := k + 1) kcl_X7 fl_X7_10 hk.1 (by decide) rfl dX7_part_157 ?_
        refine k_getr C (j := 1) (k' := k + 3) kcl_X5 fl_X7_137 hk.2.1.1 (by decide) rfl dX7_part_160 ?_
        refine k_vv C (as := [.ref (sk_ad O (k + 1 + 3 + 10 * s.toNatClampNeg)), .ref (sk_ad O (k + 3))]) yvX3_rate viX3_rate ml_X7_141 (m_X3_rate l C.2.2.2.1 M (k := k + 738) (g := k + 1 + 3 + 10 * s.toNatClampNeg) (u := k + 3) (hk := hk.2.2.2.2.2.2.1) (hg := (hk.2.1.2.1).2 s.toNatClampNeg (by omega)) (hu := hk.2.1.2.2) (hw := (hmj _ ib)) (hap := (by omega)) (hap2 := (by omega))) hk.2.2.2.2.2.2.1.1 rfl rfl rfl (Nat.le_of_ble_eq_true rfl) (by decide) dX7_part_163 (fun M163_7 h163_7 => ?_)
        rw [show M163_7 = x_R M k (st_pg (k + 1) s) from h163_7]
        refine k_aloadn C 0 dX7_part_166 rfl ?_
        refine k_getr C (j := 5) (k' := k + 738) kcl_X7 fl_X7_41 hk.1 (by decide) rfl dX7_part_167 ?_
        refine k_getr C (j := 1) (k' := k + 740) kcl_X3 fl_X7_218 hk.2.2.2.2.2.2.1.1 (by decide) rfl dX7_part_170 ?_
        refine k_iload C 6 dX7_part_173 rfl ?_
        refine k_ialdn C (3 * e.toNatClampNeg + p.toNatClampNeg) hk.2.2.2.2.2.2.1.2.2.1 (sk_nadd (sk_nmul (a := 3) rfl ex) px) (by omega) dX7_part_175 ?_
        refine ret _ _ _ _ _ _ (by decide) (by decide) dX7_part_176 rfl ?_
        exact ⟨er2p nc10_2 ⟨c25_3, Int32.not_lt.mpr c31_4⟩, by rw [x_pa, if_neg (show ¬ (w = 0) from c64_5_0), if_neg (show ¬ (w = 1) from c64_5_1), if_neg (show ¬ (w = 2) from c64_5_2), if_neg (show ¬ (w = 3) from c64_5_3)], by rw [x_pm, if_neg (show ¬ (w = 0) from c64_5_0), if_neg (show ¬ (w = 1) from c64_5_1), if_neg (show ¬ (w = 2) from c64_5_2)]⟩
      ·
        refine thr "java/lang/IllegalArgumentException" "what is not 0 to 4" 69 204 73 _ _ _ xw_IllegalArgumentException (by decide +kernel) (by decide) dX7_part_34 dX7_part_37 (Or.inl ⟨dX7_part_38, dX7_part_40, dX7_part_43⟩) ?_
        refine ⟨Or.inr (⟨?_, rfl⟩), rfl⟩
        exact er2m nc10_2 (fun h => h.2 (Int32.not_le.mp c31_4))
  ·
    have nc10_2 : ¬ (st_hp M (k + 1) s e p) := sk_b1.mp c10_2
    refine thr "java/lang/IndexOutOfBoundsException" "no such skater, element or part" 126 202 130 _ _ _ xw_IndexOutOfBoundsException (by decide +kernel) (by decide) dX7_part_13 dX7_part_16 (Or.inl ⟨dX7_part_17, dX7_part_19, dX7_part_22⟩) ?_
    refine ⟨Or.inl ⟨?_, rfl⟩, rfl⟩
    exact er2n nc10_2
