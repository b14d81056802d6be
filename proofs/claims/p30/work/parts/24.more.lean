/-! SkateSheet: text, about, behind, what a call would bring -/
theorem pg_cf_9 {M : sk_M} {k f : Nat} (h : k ≠ f) : pg_cf M k f k 9 = M f 9 := by
  unfold pg_cf pg_ce
  rw [sk_nm (by omega), sk_nc (by omega), sk_nc (by omega), sk_nc (by omega), sk_nc (by omega), sk_nc (by omega), sk_nc (by omega), sk_nc (by omega), sk_nc (by omega), sk_nc (by omega), sk_sa]
theorem pg_cf_2 {M : sk_M} {k f e : Nat} (h : k + 10 ≤ f ∨ f + 10 ≤ k) (he : e < 12) : pg_cf M k f (k + 2) e = M (f + 2) e := by
  unfold pg_cf pg_ce
  rw [sk_nm (by omega), sk_nc (by omega), sk_nc (by omega), sk_nc (by omega), sk_nc (by omega), sk_nc (by omega), sk_nc (by omega), sk_nc (by omega), sk_ci he, sk_nc (by omega), sk_nm (by omega)]
theorem pg_wf_cf {M : sk_M} {k f : Nat} (h : k + 10 ≤ f ∨ f + 10 ≤ k) (hw : pg_wf M f) : pg_wf (pg_cf M k f) k := by
  obtain ⟨N, h1, h2, h3⟩ := hw
  exact ⟨N, h1, by rw [pg_cf_9 (by omega)]; exact h2, fun e he => by rw [pg_cf_2 h (by omega)]; exact h3 e he⟩
def x_ab (M : sk_M) (k : Nat) (w : Int32) : Int32 :=
  if w = 0 then M (k + 1) 2 else if w = 1 then st_rv M (k + 1)
  else if w = 2 then sk_sum (fun j => sk_sum (M (k + 1 + 3 + 10 * j + 4)) (pg_n M (k + 1 + 3 + 10 * j))) (st_n M (k + 1))
  else if w = 3 then sk_sum (fun j => M (k + 1 + 3 + 10 * j) 9) (st_n M (k + 1))
  else if w = 4 then sd_fv (x_RK M k) (k + 747) (st_n M (k + 1))
  else sk_sum (fun s => x_ll M k (s + 1) (k + 738) 13) (st_n M (k + 1))
def x_am (M : sk_M) (k : Nat) (w : Int32) : sk_M := if w = 0 then M else if w = 1 then M else if w = 2 then M else if w = 3 then M else if w = 4 then x_RK M k else x_ll M k (st_n M (k + 1))
def x_be (M : sk_M) (k : Nat) (s : Int32) : Int32 := if sd_fv (x_RK M k) (k + 747) (st_n M (k + 1)) = -1 then 0 else x_RK M k (k + 748) (sd_fn (x_RK M k) (k + 747) (st_n M (k + 1))) - x_RK M k (k + 748) s.toNatClampNeg
def x_ic (M : sk_M) (k : Nat) (s e p v : Int32) : sk_M := sc_ra (sk_ms (pg_cf M (k + 794) (st_pg (k + 1) s)) (k + 794 + 8) (3 * e.toNatClampNeg + p.toNatClampNeg) v) (k + 738) (k + 794) (k + 3)
set_option maxHeartbeats 4000000 in
set_option maxRecDepth 100000 in
theorem m_X7_about (l : Launch) {O : sk_O} (hO : sk_inj O) (M : sk_M) (k : Nat) (w : Int32) (hk : sk_isX O k) (hw : st_wf M (k + 1)) (hst : l.stackTraces = false) : sk_Xi l yX7_about (sk_w yX7_about cX7_about 2 (some .int)) ({ frames := 6, cells := 1, slots := 6, locals := 131 }) O [.ref (sk_ad O k), .int w] M (fun r M' => (er_1 (¬ w < 0 ∧ ¬ 5 < w)) = 0 ∧ r = (x_ab M k w) ∧ M' = (x_am M k w)) (fun E M' => ((er_1 (¬ w < 0 ∧ ¬ 5 < w)) = 1 ∧ E = "java/lang/IllegalArgumentException") ∧ M' = M) := by
  refine sk_xi hst (by decide) rfl ⟨rfl, rfl⟩ hO (Nat.le_of_ble_eq_true rfl) (fun X A Q C hSr ret thr out => ?_)
  show sk_W l X O A Q 2 0 0 M 0 [(0, .ref (sk_ad O k)), (1, .int w)] []
  have hw0 := hw
  obtain ⟨m, hm4, hm, hmj⟩ := hw
  have hsn : st_n M (k + 1) = m := by rw [st_n, hm, nI_clamp (by omega)]
  refine k_iloadn C 1 dX7_about_0 rfl ?_
  refine k_zlt C 9 dX7_about_1 (by decide) (fun c1_1 => ?_) (fun c1_1 => ?_)
  ·
    refine thr "java/lang/IllegalArgumentException" "what is not 0 to 5" 69 97 73 _ _ _ xw_IllegalArgumentException (by decide +kernel) (by decide) dX7_about_9 dX7_about_12 (Or.inl ⟨dX7_about_13, dX7_about_15, dX7_about_18⟩) ?_
    refine ⟨⟨?_, rfl⟩, rfl⟩
    exact er1n (fun h => h.1 c1_1)
  ·
    refine k_iloadn C 1 dX7_about_4 rfl ?_
    refine k_iconst C (5) dX7_about_5 (by decide) ?_
    refine k_cle C 19 dX7_about_6 (by decide) (fun c6_2 => ?_) (fun c6_2 => ?_)
    ·
      refine k_iloadn C 1 dX7_about_19 rfl ?_
      by_cases c20_3_0 : w = (0 : Int32)
      ·
        refine k_top (0 : Int32) c20_3_0 ?_
        refine k_tin C 56 (36) dX7_about_20 (by decide) (by decide) ?_
        refine k_aloadn C 0 dX7_about_56 rfl ?_
        refine k_getr C (j := 0) (k' := k + 1) kcl_X7 fl_X7_10 hk.1 (by decide) rfl dX7_about_57 ?_
        refine k_geti C (j := 2) kcl_X5 fl_X7_99 hk.2.1.1 (by decide) rfl dX7_about_60 ?_
        refine ret _ _ _ _ _ _ (by decide) (by decide) dX7_about_63 rfl ?_
        exact ⟨er1p ⟨c1_1, Int32.not_lt.mpr c6_2⟩, by rw [x_ab, if_pos (show w = 0 from c20_3_0)], by rw [x_am, if_pos (show w = 0 from c20_3_0)]⟩
      by_cases c20_3_1 : w = (1 : Int32)
      ·
        refine k_top (1 : Int32) c20_3_1 ?_
        refine k_tin C 64 (44) dX7_about_20 (by decide) (by decide) ?_
        refine k_aloadn C 0 dX7_about_64 rfl ?_
        refine k_getr C (j := 0) (k' := k + 1) kcl_X7 fl_X7_10 hk.1 (by decide) rfl dX7_about_65 ?_
        refine k_vi C (as := []) yvX5_reviewed viX5_reviewed ml_X7_102 (m_X5_reviewed l C.2.2.2.1 M (k := k + 1) (hk := hk.2.1) (hw := hw0)) hk.2.1.1 rfl rfl rfl (Nat.le_of_ble_eq_true rfl) (by decide) dX7_about_68 (fun x68_4 M68_4 h68_4 => ?_)
        rw [h68_4.1, h68_4.2]
        refine ret _ _ _ _ _ _ (by decide) (by decide) dX7_about_71 rfl ?_
        exact ⟨er1p ⟨c1_1, Int32.not_lt.mpr c6_2⟩, by rw [x_ab, if_neg (show ¬ (w = 0) from by rw [show w = 1 from c20_3_1]; decide), if_pos (show w = 1 from c20_3_1)], by rw [x_am, if_neg (show ¬ (w = 0) from by rw [show w = 1 from c20_3_1]; decide), if_pos (show w = 1 from c20_3_1)]⟩
      by_cases c20_3_2 : w = (2 : Int32)
      ·
        refine k_top (2 : Int32) c20_3_2 ?_
        refine k_tin C 72 (52) dX7_about_20 (by decide) (by decide) ?_
        refine k_aloadn C 0 dX7_about_72 rfl ?_
        refine k_getr C (j := 0) (k' := k + 1) kcl_X7 fl_X7_10 hk.1 (by decide) rfl dX7_about_73 ?_
        refine k_vi C (as := []) yvX5_fallen viX5_fallen ml_X7_106 (m_X5_fallen l C.2.2.2.1 M (k := k + 1) (hk := hk.2.1) (hw := hw0)) hk.2.1.1 rfl rfl rfl (Nat.le_of_ble_eq_true rfl) (by decide) dX7_about_76 (fun x76_5 M76_5 h76_5 => ?_)
        rw [h76_5.1, h76_5.2]
        refine ret _ _ _ _ _ _ (by decide) (by decide) dX7_about_79 rfl ?_
        exact ⟨er1p ⟨c1_1, Int32.not_lt.mpr c6_2⟩, by rw [x_ab, if_neg (show ¬ (w = 0) from by rw [show w = 2 from c20_3_2]; decide), if_neg (show ¬ (w = 1) from by rw [show w = 2 from c20_3_2]; decide), if_pos (show w = 2 from c20_3_2)], by rw [x_am, if_neg (show ¬ (w = 0) from by rw [show w = 2 from c20_3_2]; decide), if_neg (show ¬ (w = 1) from by rw [show w = 2 from c20_3_2]; decide), if_pos (show w = 2 from c20_3_2)]⟩
      by_cases c20_3_3 : w = (3 : Int32)
      ·
        refine k_top (3 : Int32) c20_3_3 ?_
        refine k_tin C 80 (60) dX7_about_20 (by decide) (by decide) ?_
        refine k_aloadn C 0 dX7_about_80 rfl ?_
        refine k_getr C (j := 0) (k' := k + 1) kcl_X7 fl_X7_10 hk.1 (by decide) rfl dX7_about_81 ?_
        refine k_vi C (as := []) yvX5_allElements viX5_allElements ml_X7_109 (m_X5_allElements l C.2.2.2.1 M (k := k + 1) (hk := hk.2.1) (hw := hw0)) hk.2.1.1 rfl rfl rfl (Nat.le_of_ble_eq_true rfl) (by decide) dX7_about_84 (fun x84_6 M84_6 h84_6 => ?_)
        rw [h84_6.1, h84_6.2]
        refine ret _ _ _ _ _ _ (by decide) (by decide) dX7_about_87 rfl ?_
        exact ⟨er1p ⟨c1_1, Int32.not_lt.mpr c6_2⟩, by rw [x_ab, if_neg (show ¬ (w = 0) from by rw [show w = 3 from c20_3_3]; decide), if_neg (show ¬ (w = 1) from by rw [show w = 3 from c20_3_3]; decide), if_neg (show ¬ (w = 2) from by rw [show w = 3 from c20_3_3]; decide), if_pos (show w = 3 from c20_3_3)], by rw [x_am, if_neg (show ¬ (w = 0) from by rw [show w = 3 from c20_3_3]; decide), if_neg (show ¬ (w = 1) from by rw [show w = 3 from c20_3_3]; decide), if_neg (show ¬ (w = 2) from by rw [show w = 3 from c20_3_3]; decide), if_pos (show w = 3 from c20_3_3)]⟩
      by_cases c20_3_4 : w = (4 : Int32)
      ·
        refine k_top (4 : Int32) c20_3_4 ?_
        refine k_tin C 88 (68) dX7_about_20 (by decide) (by decide) ?_
        refine k_aloadn C 0 dX7_about_88 rfl ?_
        refine k_getr C (j := 6) (k' := k + 747) kcl_X7 fl_X7_48 hk.1 (by decide) rfl dX7_about_89 ?_
        refine k_aloadn C 0 dX7_about_92 rfl ?_
        refine k_getr C (j := 0) (k' := k + 1) kcl_X7 fl_X7_10 hk.1 (by decide) rfl dX7_about_93 ?_
        refine k_aloadn C 0 dX7_about_96 rfl ?_
        refine k_getr C (j := 5) (k' := k + 738) kcl_X7 fl_X7_41 hk.1 (by decide) rfl dX7_about_97 ?_
        refine k_vv C (as := [.ref (sk_ad O (k + 1)), .ref (sk_ad O (k + 738))]) yvX4_rank viX4_rank ml_X7_112 (m_X4_rank l C.2.2.2.1 M (k := k + 747) (f := k + 1) (c := k + 738) (hk := hk.2.2.2.2.2.2.2.1) (hf := hk.2.1) (hc := hk.2.2.2.2.2.2.1) (hw := hw0) (hkf := (by omega)) (hcf := (by omega)) (hkc := (by omega))) hk.2.2.2.2.2.2.2.1.1 rfl rfl rfl (Nat.le_of_ble_eq_true rfl) (by decide) dX7_about_100 (fun M100_7 h100_7 => ?_)
        rw [show M100_7 = x_RK M k from h100_7]
        refine k_aloadn C 0 dX7_about_103 rfl ?_
        refine k_getr C (j := 6) (k' := k + 747) kcl_X7 fl_X7_48 hk.1 (by decide) rfl dX7_about_104 ?_
        refine k_vi C (as := []) yvX4_first viX4_first ml_X7_116 (m_X4_first l C.2.2.2.1 (x_RK M k) (k := k + 747) (m := st_n M (k + 1)) (hk := hk.2.2.2.2.2.2.2.1) (hm := (by rw [x_RK, sd_rk_2 (by omega), hsn, hm])) (hm4 := (by rw [hsn]; exact hm4))) hk.2.2.2.2.2.2.2.1.1 rfl rfl rfl (Nat.le_of_ble_eq_true rfl) (by decide) dX7_about_107 (fun x107_8 M107_8 h107_8 => ?_)
        rw [h107_8.1, h107_8.2]
        refine ret _ _ _ _ _ _ (by decide) (by decide) dX7_about_110 rfl ?_
        exact ⟨er1p ⟨c1_1, Int32.not_lt.mpr c6_2⟩, by rw [x_ab, if_neg (show ¬ (w = 0) from by rw [show w = 4 from c20_3_4]; decide), if_neg (show ¬ (w = 1) from by rw [show w = 4 from c20_3_4]; decide), if_neg (show ¬ (w = 2) from by rw [show w = 4 from c20_3_4]; decide), if_neg (show ¬ (w = 3) from by rw [show w = 4 from c20_3_4]; decide), if_pos (show w = 4 from c20_3_4)], by rw [x_am, if_neg (show ¬ (w = 0) from by rw [show w = 4 from c20_3_4]; decide), if_neg (show ¬ (w = 1) from by rw [show w = 4 from c20_3_4]; decide), if_neg (show ¬ (w = 2) from by rw [show w = 4 from c20_3_4]; decide), if_neg (show ¬ (w = 3) from by rw [show w = 4 from c20_3_4]; decide), if_pos (show w = 4 from c20_3_4)]⟩
      have c20_3_0T : ¬ (w).toInt = 0 := fun h => c20_3_0 (sk_toI h)
      have c20_3_1T : ¬ (w).toInt = 1 := fun h => c20_3_1 (sk_toI h)
      have c20_3_2T : ¬ (w).toInt = 2 := fun h => c20_3_2 (sk_toI h)
      have c20_3_3T : ¬ (w).toInt = 3 := fun h => c20_3_3 (sk_toI h)
      have c20_3_4T : ¬ (w).toInt = 4 := fun h => c20_3_4 (sk_toI h)
      refine k_tout C 111 dX7_about_20 (by omega) (by decide) ?_
      refine k_aloadn C 0 dX7_about_111 rfl ?_
      refine k_vi C (as := []) yvX7_lesserParts viX7_lesserParts ml_X7_119 (m_X7_lesserParts l C.2.2.2.1 M (k := k) (hk := hk) (hw := hw0)) hk.1 rfl rfl rfl (Nat.le_of_ble_eq_true rfl) (by decide) dX7_about_112 (fun x112_9 M112_9 h112_9 => ?_)
      rw [h112_9.1, h112_9.2]
      refine ret _ _ _ _ _ _ (by decide) (by decide) dX7_about_115 rfl ?_
      exact ⟨er1p ⟨c1_1, Int32.not_lt.mpr c6_2⟩, by rw [x_ab, if_neg (show ¬ (w = 0) from c20_3_0), if_neg (show ¬ (w = 1) from c20_3_1), if_neg (show ¬ (w = 2) from c20_3_2), if_neg (show ¬ (w = 3) from c20_3_3), if_neg (show ¬ (w = 4) from c20_3_4)], by rw [x_am, if_neg (show ¬ (w = 0) from c20_3_0), if_neg (show ¬ (w = 1) from c20_3_1), if_neg (show ¬ (w = 2) from c20_3_2), if_neg (show ¬ (w = 3) from c20_3_3), if_neg (show ¬ (w = 4) from c20_3_4)]⟩
    ·
      refine thr "java/lang/IllegalArgumentException" "what is not 0 to 5" 69 97 73 _ _ _ xw_IllegalArgumentException (by decide +kernel) (by decide) dX7_about_9 dX7_about_12 (Or.inl ⟨dX7_about_13, dX7_about_15, dX7_about_18⟩) ?_
      refine ⟨⟨?_, rfl⟩, rfl⟩
      exact er1n (fun h => h.2 (Int32.not_le.mp c6_2))

set_option maxHeartbeats 4000000 in
set_option maxRecDepth 100000 in
theorem m_X7_behind (l : Launch) {O : sk_O} (hO : sk_inj O) (M : sk_M) (k : Nat) (s : Int32) (hk : sk_isX O k) (hw : st_wf M (k + 1)) (hst : l.stackTraces = false) : sk_Xi l yX7_behind (sk_w yX7_behind cX7_behind 3 (some .int)) ({ frames := 6, cells := 1, slots := 6, locals := 131 }) O [.ref (sk_ad O k), .int s] M (fun r M' => (er_1 (st_hs M (k + 1) s)) = 0 ∧ r = (x_be M k s) ∧ M' = (x_RK M k)) (fun E M' => ((er_1 (st_hs M (k + 1) s)) = 1 ∧ E = "java/lang/IndexOutOfBoundsException") ∧ M' = M) := by
  refine sk_xi hst (by decide) rfl ⟨rfl, rfl⟩ hO (Nat.le_of_ble_eq_true rfl) (fun X A Q C hSr ret thr out => ?_)
  show sk_W l X O A Q 3 0 0 M 0 [(0, .ref (sk_ad O k)), (1, .int s)] []
  have hw0 := hw
  obtain ⟨m, hm4, hm, hmj⟩ := hw
  have hsn : st_n M (k + 1) = m := by rw [st_n, hm, nI_clamp (by omega)]
  refine k_aloadn C 0 dX7_behind_0 rfl ?_
  refine k_getr C (j := 0) (k' := k + 1) kcl_X7 fl_X7_10 hk.1 (by decide) rfl dX7_behind_1 ?_
  refine k_iloadn C 1 dX7_behind_4 rfl ?_
  refine k_vi C (as := [.int s]) yvX5_hasSkater viX5_hasSkater ml_X7_122 (m_X5_hasSkater l C.2.2.2.1 M (k := k + 1) (hk := hk.2.1) (s := s)) hk.2.1.1 rfl rfl rfl (Nat.le_of_ble_eq_true rfl) (by decide) dX7_behind_5 (fun x5_1 M5_1 h5_1 => ?_)
  rw [h5_1.1, h5_1.2]
  refine k_zne C 21 dX7_behind_8 (by decide) (fun c8_2 => ?_) (fun c8_2 => ?_)
  ·
    have nc8_2 : st_hs M (k + 1) s := Classical.byContradiction (fun h => c8_2 (sk_b1.mpr h))
    obtain ⟨ix, ib⟩ := sk_ix nc8_2 hm (by omega)
    refine k_aloadn C 0 dX7_behind_21 rfl ?_
    refine k_getr C (j := 6) (k' := k + 747) kcl_X7 fl_X7_48 hk.1 (by decide) rfl dX7_behind_22 ?_
    refine k_aloadn C 0 dX7_behind_25 rfl ?_
    refine k_getr C (j := 0) (k' := k + 1) kcl_X7 fl_X7_10 hk.1 (by decide) rfl dX7_behind_26 ?_
    refine k_aloadn C 0 dX7_behind_29 rfl ?_
    refine k_getr C (j := 5) (k' := k + 738) kcl_X7 fl_X7_41 hk.1 (by decide) rfl dX7_behind_30 ?_
    refine k_vv C (as := [.ref (sk_ad O (k + 1)), .ref (sk_ad O (k + 738))]) yvX4_rank viX4_rank ml_X7_112 (m_X4_rank l C.2.2.2.1 M (k := k + 747) (f := k + 1) (c := k + 738) (hk := hk.2.2.2.2.2.2.2.1) (hf := hk.2.1) (hc := hk.2.2.2.2.2.2.1) (hw := hw0) (hkf := (by omega)) (hcf := (by omega)) (hkc := (by omega))) hk.2.2.2.2.2.2.2.1.1 rfl rfl rfl (Nat.le_of_ble_eq_true rfl) (by decide) dX7_behind_33 (fun M33_3 h33_3 => ?_)
    rw [show M33_3 = x_RK M k from h33_3]
    refine k_aloadn C 0 dX7_behind_36 rfl ?_
    refine k_getr C (j := 6) (k' := k + 747) kcl_X7 fl_X7_48 hk.1 (by decide) rfl dX7_behind_37 ?_
    refine k_vi C (as := []) yvX4_first viX4_first ml_X7_116 (m_X4_first l C.2.2.2.1 (x_RK M k) (k := k + 747) (m := st_n M (k + 1)) (hk := hk.2.2.2.2.2.2.2.1) (hm := (by rw [x_RK, sd_rk_2 (by omega), hsn, hm])) (hm4 := (by rw [hsn]; exact hm4))) hk.2.2.2.2.2.2.2.1.1 rfl rfl rfl (Nat.le_of_ble_eq_true rfl) (by decide) dX7_behind_40 (fun x40_4 M40_4 h40_4 => ?_)
    rw [h40_4.1, h40_4.2]
    refine k_istoren C [1, 2, 0] [(0, .ref (sk_ad O k)), (1, .int s), (2, .int (sd_fv (x_RK M k) (k + 747) (st_n M (k + 1))))] dX7_behind_43 (by decide) rfl ?_
    refine k_iloadn C 2 dX7_behind_44 rfl ?_
    refine k_iconst C (-1) dX7_behind_45 (by decide) ?_
    refine k_cne C 53 dX7_behind_46 (by decide) (fun c46_5 => ?_) (fun c46_5 => ?_)
    ·
      have hf2 := sd_f2 c46_5
      have hfl := sd_fn_lt (x_RK M k) (k + 747) (st_n M (k + 1)) hf2.1
      refine k_aloadn C 0 dX7_behind_53 rfl ?_
      refine k_getr C (j := 6) (k' := k + 747) kcl_X7 fl_X7_48 hk.1 (by decide) rfl dX7_behind_54 ?_
      refine k_getr C (j := 0) (k' := k + 748) kcl_X4 fl_X7_318 hk.2.2.2.2.2.2.2.1.1 (by decide) rfl dX7_behind_57 ?_
      refine k_iloadn C 2 dX7_behind_60 rfl ?_
      refine k_ialdn C (sd_fn (x_RK M k) (k + 747) (st_n M (k + 1))) hk.2.2.2.2.2.2.2.1.2.1 hf2.2 (by omega) dX7_behind_61 ?_
      refine k_aloadn C 0 dX7_behind_62 rfl ?_
      refine k_getr C (j := 6) (k' := k + 747) kcl_X7 fl_X7_48 hk.1 (by decide) rfl dX7_behind_63 ?_
      refine k_getr C (j := 0) (k' := k + 748) kcl_X4 fl_X7_318 hk.2.2.2.2.2.2.2.1.1 (by decide) rfl dX7_behind_66 ?_
      refine k_iloadn C 1 dX7_behind_69 rfl ?_
      refine k_ialdn C s.toNatClampNeg hk.2.2.2.2.2.2.2.1.2.1 ix (by omega) dX7_behind_70 ?_
      refine k_isub C dX7_behind_71 ?_
      refine ret _ _ _ _ _ _ (by decide) (by decide) dX7_behind_72 rfl ?_
      exact ⟨er1p nc8_2, by rw [x_be, if_neg c46_5], rfl⟩
    ·
      refine k_iconst C (0) dX7_behind_49 (by decide) ?_
      refine k_goto C 72 dX7_behind_50 (by decide) ?_
      refine ret _ _ _ _ _ _ (by decide) (by decide) dX7_behind_72 rfl ?_
      exact ⟨er1p nc8_2, by rw [x_be, if_pos c46_5], rfl⟩
  ·
    have nc8_2 : ¬ (st_hs M (k + 1) s) := sk_b1.mp c8_2
    refine thr "java/lang/IndexOutOfBoundsException" "no such skater" 126 128 130 _ _ _ xw_IndexOutOfBoundsException (by decide +kernel) (by decide) dX7_behind_11 dX7_behind_14 (Or.inl ⟨dX7_behind_15, dX7_behind_17, dX7_behind_20⟩) ?_
    refine ⟨⟨?_, rfl⟩, rfl⟩
    exact er1n nc8_2

set_option maxHeartbeats 4000000 in
set_option maxRecDepth 100000 in
theorem m_X7_clearText (l : Launch) {O : sk_O} (hO : sk_inj O) (M : sk_M) (k : Nat) (hk : sk_isX O k) : sk_Mi l yX7_clearText (sk_w yX7_clearText cX7_clearText 2 (some .int)) ({ frames := 0, cells := 0, slots := 0, locals := 0 }) O [.ref (sk_ad O k)] M (fun r M' => r = (M (k + 736) 1) ∧ M' = (sk_ms M (k + 736) 1 0)) := by
  refine sk_mi (by decide) ⟨rfl, rfl⟩ hO (Nat.le_of_ble_eq_true rfl) (fun X A Q C ret => ?_)
  show sk_W l X O A Q 2 0 0 M 0 [(0, .ref (sk_ad O k))] []
  refine k_aloadn C 0 dX7_clearText_0 rfl ?_
  refine k_getr C (j := 4) (k' := k + 736) kcl_X7 fl_X7_34 hk.1 (by decide) rfl dX7_clearText_1 ?_
  refine k_geti C (j := 1) kcl_X6 fl_X7_89 hk.2.2.2.2.2.1.1 (by decide) rfl dX7_clearText_4 ?_
  refine k_istoren C [1, 0] [(0, .ref (sk_ad O k)), (1, .int (M (k + 736) 1))] dX7_clearText_7 (by decide) rfl ?_
  refine k_aloadn C 0 dX7_clearText_8 rfl ?_
  refine k_getr C (j := 4) (k' := k + 736) kcl_X7 fl_X7_34 hk.1 (by decide) rfl dX7_clearText_9 ?_
  refine k_iconst C (0) dX7_clearText_12 (by decide) ?_
  refine k_puti C (j := 1) (ty := .int) tyX6 kcl_X6 tyX6_ok nmX6 fl_X7_89 hk.2.2.2.2.2.1.1 (by decide) rfl rfl (by decide +kernel) rfl rfl dX7_clearText_13 ?_
  refine k_iloadn C 1 dX7_clearText_16 rfl ?_
  exact ret _ _ _ _ dX7_clearText_17 rfl (by exact ⟨rfl, rfl⟩)

set_option maxHeartbeats 4000000 in
set_option maxRecDepth 100000 in
theorem m_X7_append (l : Launch) {O : sk_O} (hO : sk_inj O) (M : sk_M) (k : Nat) (c : Int32) (hk : sk_isX O k) (n : Nat) (hn : M (k + 736) 1 = nI n) (hn2 : n ≤ 120) (hst : l.stackTraces = false) : sk_Xi l yX7_append (sk_w yX7_append cX7_append 2 (some .int)) ({ frames := 6, cells := 1, slots := 6, locals := 82 }) O [.ref (sk_ad O k), .int c] M (fun r M' => (er_2 (¬ c < 0 ∧ ¬ 255 < c) (n < 120)) = 0 ∧ r = (nI (n + 1)) ∧ M' = (sk_ms (sk_ms M (k + 736 + 1) n c) (k + 736) 1 (M (k + 736) 1 + 1))) (fun E M' => ((er_2 (¬ c < 0 ∧ ¬ 255 < c) (n < 120)) = 1 ∧ E = "java/lang/IllegalArgumentException" ∨ (er_2 (¬ c < 0 ∧ ¬ 255 < c) (n < 120)) = 2 ∧ E = "java/lang/IllegalStateException") ∧ M' = M) := by
  refine sk_xi hst (by decide) rfl ⟨rfl, rfl⟩ hO (Nat.le_of_ble_eq_true rfl) (fun X A Q C hSr ret thr out => ?_)
  show sk_W l X O A Q 2 0 0 M 0 [(0, .ref (sk_ad O k)), (1, .int c)] []
  refine k_iloadn C 1 dX7_append_0 rfl ?_
  refine k_zlt C 11 dX7_append_1 (by decide) (fun c1_1 => ?_) (fun c1_1 => ?_)
  ·
    refine thr "java/lang/IllegalArgumentException" "c is not 0 to 255" 69 71 73 _ _ _ xw_IllegalArgumentException (by decide +kernel) (by decide) dX7_append_11 dX7_append_14 (Or.inl ⟨dX7_append_15, dX7_append_17, dX7_append_20⟩) ?_
    refine ⟨Or.inl ⟨?_, rfl⟩, rfl⟩
    exact er2n (fun h => h.1 c1_1)
  ·
    refine k_iloadn C 1 dX7_append_4 rfl ?_
    refine k_sipush C (255) dX7_append_5 (by decide) ?_
    refine k_cle C 21 dX7_append_8 (by decide) (fun c8_2 => ?_) (fun c8_2 => ?_)
    ·
      refine k_aloadn C 0 dX7_append_21 rfl ?_
      refine k_getr C (j := 4) (k' := k + 736) kcl_X7 fl_X7_34 hk.1 (by decide) rfl dX7_append_22 ?_
      refine k_vi C (as := []) yvX6_isFull viX6_isFull ml_X7_76 (m_X6_isFull l C.2.2.2.1 M (t := k + 736) (n := n) (ht := hk.2.2.2.2.2.1) (hn := hn) (hn2 := hn2)) hk.2.2.2.2.2.1.1 rfl rfl rfl (Nat.le_of_ble_eq_true rfl) (by decide) dX7_append_25 (fun x25_3 M25_3 h25_3 => ?_)
      rw [h25_3.1, h25_3.2]
      refine k_zeq C 41 dX7_append_28 (by decide) (fun c28_4 => ?_) (fun c28_4 => ?_)
      ·
        have nc28_4 : ¬ (120 ≤ n) := sk_b1.mp c28_4
        refine k_aloadn C 0 dX7_append_41 rfl ?_
        refine k_getr C (j := 4) (k' := k + 736) kcl_X7 fl_X7_34 hk.1 (by decide) rfl dX7_append_42 ?_
        refine k_iloadn C 1 dX7_append_45 rfl ?_
        refine k_vv C (as := [.int c]) yvX6_put viX6_put ml_X7_85 (m_X6_put l C.2.2.2.1 M (t := k + 736) (n := n) (c := c) (ht := hk.2.2.2.2.2.1) (hn := hn) (hn2 := (by omega))) hk.2.2.2.2.2.1.1 rfl rfl rfl (Nat.le_of_ble_eq_true rfl) (by decide) dX7_append_46 (fun M46_5 h46_5 => ?_)
        rw [h46_5]
        refine k_aloadn C 0 dX7_append_49 rfl ?_
        refine k_getr C (j := 4) (k' := k + 736) kcl_X7 fl_X7_34 hk.1 (by decide) rfl dX7_append_50 ?_
        refine k_geti C (j := 1) kcl_X6 fl_X7_89 hk.2.2.2.2.2.1.1 (by decide) rfl dX7_append_53 ?_
        refine ret _ _ _ _ _ _ (by decide) (by decide) dX7_append_56 rfl ?_
        exact ⟨er2p ⟨c1_1, Int32.not_lt.mpr c8_2⟩ (by omega), by rw [sk_sm]; exact sk_nadd (b := 1) hn rfl, rfl⟩
      ·
        have nc28_4 : 120 ≤ n := Classical.byContradiction (fun h => c28_4 (sk_b1.mpr h))
        refine thr "java/lang/IllegalStateException" "the text is full" 80 82 84 _ _ _ xw_IllegalStateException (by decide +kernel) (by decide) dX7_append_31 dX7_append_34 (Or.inl ⟨dX7_append_35, dX7_append_37, dX7_append_40⟩) ?_
        refine ⟨Or.inr (⟨?_, rfl⟩), rfl⟩
        exact er2m ⟨c1_1, Int32.not_lt.mpr c8_2⟩ (by omega)
    ·
      refine thr "java/lang/IllegalArgumentException" "c is not 0 to 255" 69 71 73 _ _ _ xw_IllegalArgumentException (by decide +kernel) (by decide) dX7_append_11 dX7_append_14 (Or.inl ⟨dX7_append_15, dX7_append_17, dX7_append_20⟩) ?_
      refine ⟨Or.inl ⟨?_, rfl⟩, rfl⟩
      exact er2n (fun h => h.2 (Int32.not_le.mp c8_2))

set_option maxHeartbeats 4000000 in
set_option maxRecDepth 100000 in
theorem m_X7_errorPosition (l : Launch) {O : sk_O} (hO : sk_inj O) (M : sk_M) (k n : Nat) (hk : sk_isX O k) (hn : M (k + 736) 1 = nI n) (hn2 : n ≤ 120) : sk_Mi l yX7_errorPosition (sk_w yX7_errorPosition cX7_errorPosition 1 (some .int)) ({ frames := 6, cells := 0, slots := 0, locals := 132 }) O [.ref (sk_ad O k)] M (tt_q (M (k + 737)) n (k + 736) (k + 794) M) := by
  refine sk_mi (by decide) ⟨rfl, rfl⟩ hO (Nat.le_of_ble_eq_true rfl) (fun X A Q C ret => ?_)
  show sk_W l X O A Q 1 0 0 M 0 [(0, .ref (sk_ad O k))] []
  refine k_aloadn C 0 dX7_errorPosition_0 rfl ?_
  refine k_getr C (j := 4) (k' := k + 736) kcl_X7 fl_X7_34 hk.1 (by decide) rfl dX7_errorPosition_1 ?_
  refine k_aloadn C 0 dX7_errorPosition_4 rfl ?_
  refine k_getr C (j := 9) (k' := k + 794) kcl_X7 fl_X7_65 hk.1 (by decide) rfl dX7_errorPosition_5 ?_
  refine k_vi C (as := [.ref (sk_ad O (k + 794))]) yvX6_readInto viX6_readInto ml_X7_93 (m_X6_readInto l C.2.2.2.1 M (t := k + 736) (n := n) (g := k + 794) (S := M (k + 737)) (ht := hk.2.2.2.2.2.1) (hS := rfl) (hn := hn) (hn2 := hn2) (hg := hk.2.2.2.2.2.2.2.2.2.2) (hap := (by omega))) hk.2.2.2.2.2.1.1 rfl rfl rfl (Nat.le_of_ble_eq_true rfl) (by decide) dX7_errorPosition_8 (fun x8_1 M8_1 h8_1 => ?_)
  exact ret _ _ _ _ dX7_errorPosition_11 rfl (by exact h8_1)

set_option maxHeartbeats 4000000 in
set_option maxRecDepth 100000 in
theorem m_X7_ifCalled (l : Launch) {O : sk_O} (hO : sk_inj O) (M : sk_M) (k : Nat) (s e p v : Int32) (hk : sk_isX O k) (hw : st_wf M (k + 1)) (hst : l.stackTraces = false) : sk_Xi l yX7_ifCalled (sk_w yX7_ifCalled cX7_ifCalled 5 (some .int)) ({ frames := 7, cells := 1, slots := 6, locals := 108 }) O [.ref (sk_ad O k), .int s, .int e, .int p, .int v] M (fun r M' => (x_ck M (k + 1) s e p v) = 0 ∧ r = (x_ic M k s e p v (k + 738) 14 + x_ic M k s e p v (k + 738) 15 - x_ic M k s e p v (k + 738) 16) ∧ M' = (x_ic M k s e p v)) (fun E M' => ((x_ck M (k + 1) s e p v) = 1 ∧ E = "java/lang/IndexOutOfBoundsException" ∨ (x_ck M (k + 1) s e p v) = 2 ∧ E = "java/lang/IllegalArgumentException" ∨ (x_ck M (k + 1) s e p v) = 3 ∧ E = "java/lang/IllegalStateException") ∧ M' = M) := by
  refine sk_xi hst (by decide) rfl ⟨rfl, rfl⟩ hO (Nat.le_of_ble_eq_true rfl) (fun X A Q C hSr ret thr out => ?_)
  show sk_W l X O A Q 5 0 0 M 0 [(0, .ref (sk_ad O k)), (1, .int s), (2, .int e), (3, .int p), (4, .int v)] []
  refine k_aloadn C 0 dX7_ifCalled_0 rfl ?_
  refine k_iloadn C 1 dX7_ifCalled_1 rfl ?_
  refine k_iloadn C 2 dX7_ifCalled_2 rfl ?_
  refine k_iloadn C 3 dX7_ifCalled_3 rfl ?_
  refine k_iload C 4 dX7_ifCalled_4 rfl ?_
  refine k_xv C hSr (as := [.int s, .int e, .int p, .int v]) yvX7_checkCall viX7_checkCall ml_X7_257 (m_X7_checkCall l C.2.2.2.1 M (hst := hst) (k := k) (s := s) (e := e) (p := p) (v := v) (hk := hk) (hw := hw)) hk.1 rfl rfl rfl (Nat.le_of_ble_eq_true rfl) (by decide) dX7_ifCalled_6 (fun E9 M9 h9 => out E9 M9 _ _ _ ?_) (fun M6_1 h6_1 => ?_)
  · exact h9
  rw [h6_1.2]
  have hcc := x_ck0 h6_1.1
  have hck := h6_1.1
  obtain ⟨m, hm4, hm, hmj⟩ := id hw
  obtain ⟨ix, ib⟩ := sk_ix hcc.1.1.1 hm (by omega)
  obtain ⟨N, hN12, hN, hNp⟩ := hmj _ ib
  obtain ⟨ex, eb⟩ := sk_ix hcc.1.1.2 hN (by omega)
  obtain ⟨np, hnp, hpp⟩ := hNp _ eb
  obtain ⟨px, pb⟩ := sk_ix hcc.1.2 hpp (by omega)
  refine k_aloadn C 0 dX7_ifCalled_9 rfl ?_
  refine k_getr C (j := 9) (k' := k + 794) kcl_X7 fl_X7_65 hk.1 (by decide) rfl dX7_ifCalled_10 ?_
  refine k_aloadn C 0 dX7_ifCalled_13 rfl ?_
  refine k_getr C (j := 0) (k' := k + 1) kcl_X7 fl_X7_10 hk.1 (by decide) rfl dX7_ifCalled_14 ?_
  refine k_getr C (j := 0) (k' := k + 2) kcl_X5 fl_X7_133 hk.2.1.1 (by decide) rfl dX7_ifCalled_17 ?_
  refine k_iloadn C 1 dX7_ifCalled_20 rfl ?_
  refine k_aald C (k' := k + 1 + 3 + 10 * s.toNatClampNeg) s.toNatClampNeg ((hk.2.1.2.1).1) (by decide) ix (by omega) rfl dX7_ifCalled_21 ?_
  refine k_vv C (as := [.ref (sk_ad O (k + 1 + 3 + 10 * s.toNatClampNeg))]) yvX2_copyFrom viX2_copyFrom ml_X7_296 (m_X2_copyFrom l C.2.2.2.1 M (k := k + 794) (f := k + 1 + 3 + 10 * s.toNatClampNeg) (hk := hk.2.2.2.2.2.2.2.2.2.2) (hf := (hk.2.1.2.1).2 s.toNatClampNeg (by omega))) hk.2.2.2.2.2.2.2.2.2.2.1 rfl rfl rfl (Nat.le_of_ble_eq_true rfl) (by decide) dX7_ifCalled_22 (fun M22_2 h22_2 => ?_)
  rw [h22_2]
  refine k_aloadn C 0 dX7_ifCalled_25 rfl ?_
  refine k_getr C (j := 9) (k' := k + 794) kcl_X7 fl_X7_65 hk.1 (by decide) rfl dX7_ifCalled_26 ?_
  refine k_getr C (j := 7) (k' := k + 802) kcl_X2 fl_X7_212 hk.2.2.2.2.2.2.2.2.2.2.1 (by decide) rfl dX7_ifCalled_29 ?_
  refine k_iconst C (3) dX7_ifCalled_32 (by decide) ?_
  refine k_iloadn C 2 dX7_ifCalled_33 rfl ?_
  refine k_imul C dX7_ifCalled_34 ?_
  refine k_iloadn C 3 dX7_ifCalled_35 rfl ?_
  refine k_iadd C dX7_ifCalled_36 ?_
  refine k_iload C 4 dX7_ifCalled_37 rfl ?_
  refine k_iast C (3 * e.toNatClampNeg + p.toNatClampNeg) hk.2.2.2.2.2.2.2.2.2.2.2.2.2.2.2.2.2.2.1 (sk_nadd (sk_nmul (a := 3) rfl ex) px) (by omega) dX7_ifCalled_39 ?_
  refine k_aloadn C 0 dX7_ifCalled_40 rfl ?_
  refine k_getr C (j := 5) (k' := k + 738) kcl_X7 fl_X7_41 hk.1 (by decide) rfl dX7_ifCalled_41 ?_
  refine k_aloadn C 0 dX7_ifCalled_44 rfl ?_
  refine k_getr C (j := 9) (k' := k + 794) kcl_X7 fl_X7_65 hk.1 (by decide) rfl dX7_ifCalled_45 ?_
  refine k_aloadn C 0 dX7_ifCalled_48 rfl ?_
  refine k_getr C (j := 0) (k' := k + 1) kcl_X7 fl_X7_10 hk.1 (by decide) rfl dX7_ifCalled_49 ?_
  refine k_getr C (j := 1) (k' := k + 3) kcl_X5 fl_X7_137 hk.2.1.1 (by decide) rfl dX7_ifCalled_52 ?_
  refine k_vv C (as := [.ref (sk_ad O (k + 794)), .ref (sk_ad O (k + 3))]) yvX3_rate viX3_rate ml_X7_141 (m_X3_rate l C.2.2.2.1 (sk_ms (pg_cf M (k + 794) (k + 1 + 3 + 10 * s.toNatClampNeg)) (k + 802) (3 * e.toNatClampNeg + p.toNatClampNeg) v) (k := k + 738) (g := k + 794) (u := k + 3) (hk := hk.2.2.2.2.2.2.1) (hg := hk.2.2.2.2.2.2.2.2.2.2) (hu := hk.2.1.2.2) (hw := (pg_wf_c (sk_nf (by omega)) (sk_nf (by omega)) (pg_wf_cf (by omega) (hmj _ ib)))) (hap := (by omega)) (hap2 := (by omega))) hk.2.2.2.2.2.2.1.1 rfl rfl rfl (Nat.le_of_ble_eq_true rfl) (by decide) dX7_ifCalled_55 (fun M55_3 h55_3 => ?_)
  rw [h55_3]
  refine k_aloadn C 0 dX7_ifCalled_58 rfl ?_
  refine k_getr C (j := 5) (k' := k + 738) kcl_X7 fl_X7_41 hk.1 (by decide) rfl dX7_ifCalled_59 ?_
  refine k_vi C (as := []) yvX3_total viX3_total ml_X7_157 (m_X3_total l C.2.2.2.1 (sc_ra (sk_ms (pg_cf M (k + 794) (k + 1 + 3 + 10 * s.toNatClampNeg)) (k + 802) (3 * e.toNatClampNeg + p.toNatClampNeg) v) (k + 738) (k + 794) (k + 3)) (k := k + 738) (hk := hk.2.2.2.2.2.2.1)) hk.2.2.2.2.2.2.1.1 rfl rfl rfl (Nat.le_of_ble_eq_true rfl) (by decide) dX7_ifCalled_62 (fun x62_4 M62_4 h62_4 => ?_)
  rw [h62_4.1, h62_4.2]
  refine ret _ _ _ _ _ _ (by decide) (by decide) dX7_ifCalled_65 rfl ?_
  exact ⟨hck, rfl, rfl⟩
