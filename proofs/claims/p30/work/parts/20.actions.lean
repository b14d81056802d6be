/-! SkateSheet: the face, actions -/
def er_1 (P : Prop) [Decidable P] : Nat := if P then 0 else 1
def er_2 (P Q : Prop) [Decidable P] [Decidable Q] : Nat := if P then (if Q then 0 else 2) else 1
def er_3 (P Q R : Prop) [Decidable P] [Decidable Q] [Decidable R] : Nat := if P then (if Q then (if R then 0 else 3) else 2) else 1
abbrev x_re (M : sk_M) (k o c : Nat) : sk_M := hs_re M (k + 44) (k + 1) o c
theorem hs_re_f {M : sk_M} {h f o c a : Nat} (ho14 : o < 14) (hc14 : c ≤ 14) (hw : st_wf M f) (hap : h + 604 ≤ f ∨ f + 43 ≤ h) (q : a < h ∨ h + 604 ≤ a) : hs_re M h f o c a = M a := by
  have hi : (hs_o o c + hs_c c) % 14 < 14 := Nat.mod_lt _ (by decide)
  have hw2 : st_wf (hs_m0 M h o c) f := st_wf_c (fun a h1 h2 => hs_m0_f (by omega)) hw
  unfold hs_re
  rw [sk_nf (by omega), st_cf_f hw2 (by unfold hs_at; omega), hs_m0_f (by omega)]
theorem er1p {P : Prop} [Decidable P] (h : P) : er_1 P = 0 := if_pos h
theorem er1n {P : Prop} [Decidable P] (h : ¬ P) : er_1 P = 1 := if_neg h
theorem er2p {P Q : Prop} [Decidable P] [Decidable Q] (h : P) (q : Q) : er_2 P Q = 0 := by rw [er_2, if_pos h, if_pos q]
theorem er2n {P Q : Prop} [Decidable P] [Decidable Q] (h : ¬ P) : er_2 P Q = 1 := if_neg h
theorem er2m {P Q : Prop} [Decidable P] [Decidable Q] (h : P) (q : ¬ Q) : er_2 P Q = 2 := by rw [er_2, if_pos h, if_neg q]
theorem er3p {P Q R : Prop} [Decidable P] [Decidable Q] [Decidable R] (h : P) (q : Q) (r : R) : er_3 P Q R = 0 := by rw [er_3, if_pos h, if_pos q, if_pos r]
theorem er3n {P Q R : Prop} [Decidable P] [Decidable Q] [Decidable R] (h : ¬ P) : er_3 P Q R = 1 := if_neg h
theorem er3m {P Q R : Prop} [Decidable P] [Decidable Q] [Decidable R] (h : P) (q : ¬ Q) : er_3 P Q R = 2 := by rw [er_3, if_pos h, if_neg q]
theorem er3l {P Q R : Prop} [Decidable P] [Decidable Q] [Decidable R] (h : P) (q : Q) (r : ¬ R) : er_3 P Q R = 3 := by rw [er_3, if_pos h, if_pos q, if_neg r]
set_option maxHeartbeats 4000000 in
set_option maxRecDepth 100000 in
theorem m_X7_setting (l : Launch) {O : sk_O} (hO : sk_inj O) (M : sk_M) (k : Nat) (w : Int32) (hk : sk_isX O k) (hst : l.stackTraces = false) : sk_Xi l yX7_setting (sk_w yX7_setting cX7_setting 2 (some .int)) ({ frames := 6, cells := 1, slots := 6, locals := 82 }) O [.ref (sk_ad O k), .int w] M (fun r M' => (er_1 (¬ w < 0 ∧ ¬ 5 ≤ w)) = 0 ∧ r = (M (k + 3) w.toNatClampNeg) ∧ M' = M) (fun E M' => ((er_1 (¬ w < 0 ∧ ¬ 5 ≤ w)) = 1 ∧ E = "java/lang/IllegalArgumentException") ∧ M' = M) := by
  refine sk_xi hst (by decide) rfl ⟨rfl, rfl⟩ hO (Nat.le_of_ble_eq_true rfl) (fun X A Q C hSr ret thr out => ?_)
  show sk_W l X O A Q 2 0 0 M 0 [(0, .ref (sk_ad O k)), (1, .int w)] []
  refine k_iloadn C 1 dX7_setting_0 rfl ?_
  refine k_zlt C 9 dX7_setting_1 (by decide) (fun c1_1 => ?_) (fun c1_1 => ?_)
  ·
    refine thr "java/lang/IllegalArgumentException" "what is not 0 to 4" 69 204 73 _ _ _ xw_IllegalArgumentException (by decide +kernel) (by decide) dX7_setting_9 dX7_setting_12 (Or.inl ⟨dX7_setting_13, dX7_setting_15, dX7_setting_18⟩) ?_
    refine ⟨⟨?_, rfl⟩, rfl⟩
    exact er1n (fun h => h.1 c1_1)
  ·
    refine k_iloadn C 1 dX7_setting_4 rfl ?_
    refine k_iconst C (5) dX7_setting_5 (by decide) ?_
    refine k_clt C 19 dX7_setting_6 (by decide) (fun c6_2 => ?_) (fun c6_2 => ?_)
    ·
      obtain ⟨wx, wb⟩ := sk_ix (m := 5) ⟨c1_1, Int32.not_le.mpr c6_2⟩ rfl (by omega)
      refine k_aloadn C 0 dX7_setting_19 rfl ?_
      refine k_getr C (j := 0) (k' := k + 1) kcl_X7 fl_X7_10 hk.1 (by decide) rfl dX7_setting_20 ?_
      refine k_getr C (j := 1) (k' := k + 3) kcl_X5 fl_X7_137 hk.2.1.1 (by decide) rfl dX7_setting_23 ?_
      refine k_iloadn C 1 dX7_setting_26 rfl ?_
      refine k_ialdn C w.toNatClampNeg hk.2.1.2.2 wx ⟨wb, by omega⟩ dX7_setting_27 ?_
      refine ret _ _ _ _ _ _ (by decide) (by decide) dX7_setting_28 rfl ?_
      exact ⟨er1p ⟨c1_1, Int32.not_le.mpr c6_2⟩, rfl, rfl⟩
    ·
      refine thr "java/lang/IllegalArgumentException" "what is not 0 to 4" 69 204 73 _ _ _ xw_IllegalArgumentException (by decide +kernel) (by decide) dX7_setting_9 dX7_setting_12 (Or.inl ⟨dX7_setting_13, dX7_setting_15, dX7_setting_18⟩) ?_
      refine ⟨⟨?_, rfl⟩, rfl⟩
      exact er1n (fun h => h.2 (Int32.not_lt.mp c6_2))

set_option maxHeartbeats 4000000 in
set_option maxRecDepth 100000 in
theorem m_X7_mark (l : Launch) {O : sk_O} (hO : sk_inj O) (M : sk_M) (k : Nat) (s e v : Int32) (hk : sk_isX O k) (o c : Nat) (ho : M (k + 44) 1 = nI o) (hc : M (k + 44) 2 = nI c) (ho14 : o < 14) (hc14 : c ≤ 14) (hw : st_wf M (k + 1)) (hst : l.stackTraces = false) : sk_Xi l yX7_mark (sk_w yX7_mark cX7_mark 5 (some .int)) ({ frames := 6, cells := 1, slots := 6, locals := 145 }) O [.ref (sk_ad O k), .int s, .int e, .int v] M (fun r M' => (er_2 (st_he M (k + 1) s e) (¬ v < 0 ∧ ¬ 161050 < v)) = 0 ∧ r = (x_kn v) ∧ M' = (if st_he (x_re M k o c) (k + 1) s e then sk_ms (x_re M k o c) (st_pg (k + 1) s + 3) e.toNatClampNeg (x_kn v) else x_re M k o c)) (fun E M' => ((er_2 (st_he M (k + 1) s e) (¬ v < 0 ∧ ¬ 161050 < v)) = 1 ∧ E = "java/lang/IndexOutOfBoundsException" ∨ (er_2 (st_he M (k + 1) s e) (¬ v < 0 ∧ ¬ 161050 < v)) = 2 ∧ E = "java/lang/IllegalArgumentException") ∧ M' = M) := by
  refine sk_xi hst (by decide) rfl ⟨rfl, rfl⟩ hO (Nat.le_of_ble_eq_true rfl) (fun X A Q C hSr ret thr out => ?_)
  show sk_W l X O A Q 5 0 0 M 0 [(0, .ref (sk_ad O k)), (1, .int s), (2, .int e), (3, .int v)] []
  have hw2 : st_wf (x_re M k o c) (k + 1) := st_wf_c (fun a h1 h2 => hs_re_f ho14 hc14 hw (by omega) (by omega)) hw
  refine k_aloadn C 0 dX7_mark_0 rfl ?_
  refine k_getr C (j := 0) (k' := k + 1) kcl_X7 fl_X7_10 hk.1 (by decide) rfl dX7_mark_1 ?_
  refine k_iloadn C 1 dX7_mark_4 rfl ?_
  refine k_iloadn C 2 dX7_mark_5 rfl ?_
  refine k_vi C (as := [.int s, .int e]) yvX5_hasElement viX5_hasElement ml_X7_166 (m_X5_hasElement l C.2.2.2.1 M (k := k + 1) (hk := hk.2.1) (hw := hw) (s := s) (e := e)) hk.2.1.1 rfl rfl rfl (Nat.le_of_ble_eq_true rfl) (by decide) dX7_mark_6 (fun x6_1 M6_1 h6_1 => ?_)
  rw [h6_1.1, h6_1.2]
  refine k_zne C 22 dX7_mark_9 (by decide) (fun c9_2 => ?_) (fun c9_2 => ?_)
  ·
    have nc9_2 : st_he M (k + 1) s e := Classical.byContradiction (fun h => c9_2 (sk_b1.mpr h))
    refine k_iloadn C 3 dX7_mark_22 rfl ?_
    refine k_zlt C 32 dX7_mark_23 (by decide) (fun c23_3 => ?_) (fun c23_3 => ?_)
    ·
      refine thr "java/lang/IllegalArgumentException" "marks is not 0 to 161050" 69 237 73 _ _ _ xw_IllegalArgumentException (by decide +kernel) (by decide) dX7_mark_32 dX7_mark_35 (Or.inl ⟨dX7_mark_36, dX7_mark_38, dX7_mark_41⟩) ?_
      refine ⟨Or.inr (⟨?_, rfl⟩), rfl⟩
      exact er2m nc9_2 (fun h => h.1 c23_3)
    ·
      refine k_iloadn C 3 dX7_mark_26 rfl ?_
      refine k_ldc C kc_X7_236 dX7_mark_27 ?_
      refine k_cle C 42 dX7_mark_29 (by decide) (fun c29_4 => ?_) (fun c29_4 => ?_)
      ·
        refine k_aloadn C 0 dX7_mark_42 rfl ?_
        refine k_getr C (j := 1) (k' := k + 44) kcl_X7 fl_X7_19 hk.1 (by decide) rfl dX7_mark_43 ?_
        refine k_aloadn C 0 dX7_mark_46 rfl ?_
        refine k_getr C (j := 0) (k' := k + 1) kcl_X7 fl_X7_10 hk.1 (by decide) rfl dX7_mark_47 ?_
        refine k_vv C (as := [.ref (sk_ad O (k + 1))]) yvX1_remember viX1_remember ml_X7_223 (m_X1_remember l C.2.2.2.1 M (h := k + 44) (f := k + 1) (o := o) (c := c) (hh := hk.2.2.1) (hf := hk.2.1) (ho := ho) (hc := hc) (ho14 := ho14) (hc14 := hc14) (hw := hw) (hap := (by omega))) hk.2.2.1.1 rfl rfl rfl (Nat.le_of_ble_eq_true rfl) (by decide) dX7_mark_50 (fun M50_5 h50_5 => ?_)
        rw [h50_5]
        refine k_iloadn C 3 dX7_mark_53 rfl ?_
        refine k_si C (as := [.int v]) yvX7_kernelOf vsX7_kernelOf ml_X7_239 (m_X7_kernelOf l C.2.2.2.1 (x_re M k o c) (m := v)) rfl rfl (Nat.le_of_ble_eq_true rfl) (by decide) dX7_mark_54 (fun x54_6 M54_6 h54_6 => ?_)
        rw [h54_6.1, h54_6.2]
        refine k_istore C [1, 2, 3, 4, 0] [(0, .ref (sk_ad O k)), (1, .int s), (2, .int e), (3, .int v), (4, .int (x_kn v))] dX7_mark_57 (by decide) rfl ?_
        refine k_aloadn C 0 dX7_mark_59 rfl ?_
        refine k_getr C (j := 0) (k' := k + 1) kcl_X7 fl_X7_10 hk.1 (by decide) rfl dX7_mark_60 ?_
        refine k_iloadn C 1 dX7_mark_63 rfl ?_
        refine k_iloadn C 2 dX7_mark_64 rfl ?_
        refine k_iload C 4 dX7_mark_65 rfl ?_
        refine k_vv C (as := [.int s, .int e, .int (x_kn v)]) yvX5_putKernel viX5_putKernel ml_X7_242 (m_X5_putKernel l C.2.2.2.1 (x_re M k o c) (k := k + 1) (hk := hk.2.1) (hw := hw2) (s := s) (e := e) (v := x_kn v)) hk.2.1.1 rfl rfl rfl (Nat.le_of_ble_eq_true rfl) (by decide) dX7_mark_67 (fun M67_7 h67_7 => ?_)
        rw [h67_7]
        refine k_iload C 4 dX7_mark_70 rfl ?_
        refine ret _ _ _ _ _ _ (by decide) (by decide) dX7_mark_72 rfl ?_
        exact ⟨er2p nc9_2 ⟨c23_3, Int32.not_lt.mpr c29_4⟩, rfl, rfl⟩
      ·
        refine thr "java/lang/IllegalArgumentException" "marks is not 0 to 161050" 69 237 73 _ _ _ xw_IllegalArgumentException (by decide +kernel) (by decide) dX7_mark_32 dX7_mark_35 (Or.inl ⟨dX7_mark_36, dX7_mark_38, dX7_mark_41⟩) ?_
        refine ⟨Or.inr (⟨?_, rfl⟩), rfl⟩
        exact er2m nc9_2 (fun h => h.2 (Int32.not_le.mp c29_4))
  ·
    have nc9_2 : ¬ (st_he M (k + 1) s e) := sk_b1.mp c9_2
    refine thr "java/lang/IndexOutOfBoundsException" "no such skater or element" 126 170 130 _ _ _ xw_IndexOutOfBoundsException (by decide +kernel) (by decide) dX7_mark_12 dX7_mark_15 (Or.inl ⟨dX7_mark_16, dX7_mark_18, dX7_mark_21⟩) ?_
    refine ⟨Or.inl ⟨?_, rfl⟩, rfl⟩
    exact er2n nc9_2

set_option maxHeartbeats 4000000 in
set_option maxRecDepth 100000 in
theorem m_X7_penalty (l : Launch) {O : sk_O} (hO : sk_inj O) (M : sk_M) (k : Nat) (s v : Int32) (hk : sk_isX O k) (o c : Nat) (ho : M (k + 44) 1 = nI o) (hc : M (k + 44) 2 = nI c) (ho14 : o < 14) (hc14 : c ≤ 14) (hw : st_wf M (k + 1)) (hst : l.stackTraces = false) : sk_Xi l yX7_penalty (sk_w yX7_penalty cX7_penalty 4 (some .int)) ({ frames := 6, cells := 1, slots := 6, locals := 145 }) O [.ref (sk_ad O k), .int s, .int v] M (fun r M' => (er_2 (st_hs M (k + 1) s) (¬ v < 0 ∧ ¬ 9 < v)) = 0 ∧ r = (x_re M k o c (st_pg (k + 1) s) 10) ∧ M' = (if st_hs (x_re M k o c) (k + 1) s then sk_ms (x_re M k o c) (st_pg (k + 1) s) 10 v else x_re M k o c)) (fun E M' => ((er_2 (st_hs M (k + 1) s) (¬ v < 0 ∧ ¬ 9 < v)) = 1 ∧ E = "java/lang/IndexOutOfBoundsException" ∨ (er_2 (st_hs M (k + 1) s) (¬ v < 0 ∧ ¬ 9 < v)) = 2 ∧ E = "java/lang/IllegalArgumentException") ∧ M' = M) := by
  refine sk_xi hst (by decide) rfl ⟨rfl, rfl⟩ hO (Nat.le_of_ble_eq_true rfl) (fun X A Q C hSr ret thr out => ?_)
  show sk_W l X O A Q 4 0 0 M 0 [(0, .ref (sk_ad O k)), (1, .int s), (2, .int v)] []
  have hw2 : st_wf (x_re M k o c) (k + 1) := st_wf_c (fun a h1 h2 => hs_re_f ho14 hc14 hw (by omega) (by omega)) hw
  obtain ⟨m, hm4, hm, hmj⟩ := id hw
  refine k_aloadn C 0 dX7_penalty_0 rfl ?_
  refine k_getr C (j := 0) (k' := k + 1) kcl_X7 fl_X7_10 hk.1 (by decide) rfl dX7_penalty_1 ?_
  refine k_iloadn C 1 dX7_penalty_4 rfl ?_
  refine k_vi C (as := [.int s]) yvX5_hasSkater viX5_hasSkater ml_X7_122 (m_X5_hasSkater l C.2.2.2.1 M (k := k + 1) (hk := hk.2.1) (s := s)) hk.2.1.1 rfl rfl rfl (Nat.le_of_ble_eq_true rfl) (by decide) dX7_penalty_5 (fun x5_1 M5_1 h5_1 => ?_)
  rw [h5_1.1, h5_1.2]
  refine k_zne C 21 dX7_penalty_8 (by decide) (fun c8_2 => ?_) (fun c8_2 => ?_)
  ·
    have nc8_2 : st_hs M (k + 1) s := Classical.byContradiction (fun h => c8_2 (sk_b1.mpr h))
    obtain ⟨ix, ib⟩ := sk_ix nc8_2 hm (by omega)
    refine k_iloadn C 2 dX7_penalty_21 rfl ?_
    refine k_zlt C 31 dX7_penalty_22 (by decide) (fun c22_3 => ?_) (fun c22_3 => ?_)
    ·
      refine thr "java/lang/IllegalArgumentException" "points is not 0 to 9" 69 271 73 _ _ _ xw_IllegalArgumentException (by decide +kernel) (by decide) dX7_penalty_31 dX7_penalty_34 (Or.inr ⟨dX7_penalty_35, dX7_penalty_38, dX7_penalty_41⟩) ?_
      refine ⟨Or.inr (⟨?_, rfl⟩), rfl⟩
      exact er2m nc8_2 (fun h => h.1 c22_3)
    ·
      refine k_iloadn C 2 dX7_penalty_25 rfl ?_
      refine k_bipush C (9) dX7_penalty_26 (by decide) ?_
      refine k_cle C 42 dX7_penalty_28 (by decide) (fun c28_4 => ?_) (fun c28_4 => ?_)
      ·
        refine k_aloadn C 0 dX7_penalty_42 rfl ?_
        refine k_getr C (j := 1) (k' := k + 44) kcl_X7 fl_X7_19 hk.1 (by decide) rfl dX7_penalty_43 ?_
        refine k_aloadn C 0 dX7_penalty_46 rfl ?_
        refine k_getr C (j := 0) (k' := k + 1) kcl_X7 fl_X7_10 hk.1 (by decide) rfl dX7_penalty_47 ?_
        refine k_vv C (as := [.ref (sk_ad O (k + 1))]) yvX1_remember viX1_remember ml_X7_223 (m_X1_remember l C.2.2.2.1 M (h := k + 44) (f := k + 1) (o := o) (c := c) (hh := hk.2.2.1) (hf := hk.2.1) (ho := ho) (hc := hc) (ho14 := ho14) (hc14 := hc14) (hw := hw) (hap := (by omega))) hk.2.2.1.1 rfl rfl rfl (Nat.le_of_ble_eq_true rfl) (by decide) dX7_penalty_50 (fun M50_5 h50_5 => ?_)
        rw [h50_5]
        refine k_aloadn C 0 dX7_penalty_53 rfl ?_
        refine k_getr C (j := 0) (k' := k + 1) kcl_X7 fl_X7_10 hk.1 (by decide) rfl dX7_penalty_54 ?_
        refine k_getr C (j := 0) (k' := k + 2) kcl_X5 fl_X7_133 hk.2.1.1 (by decide) rfl dX7_penalty_57 ?_
        refine k_iloadn C 1 dX7_penalty_60 rfl ?_
        refine k_aald C (k' := k + 1 + 3 + 10 * s.toNatClampNeg) s.toNatClampNeg ((hk.2.1.2.1).1) (by decide) ix (by omega) rfl dX7_penalty_61 ?_
        refine k_geti C (j := 10) kcl_X2 fl_X7_273 ((hk.2.1.2.1).2 s.toNatClampNeg (by omega)).1 (by decide) rfl dX7_penalty_62 ?_
        refine k_istoren C [1, 2, 3, 0] [(0, .ref (sk_ad O k)), (1, .int s), (2, .int v), (3, .int ((x_re M k o c) (k + 1 + 3 + 10 * s.toNatClampNeg) 10))] dX7_penalty_65 (by decide) rfl ?_
        refine k_aloadn C 0 dX7_penalty_66 rfl ?_
        refine k_getr C (j := 0) (k' := k + 1) kcl_X7 fl_X7_10 hk.1 (by decide) rfl dX7_penalty_67 ?_
        refine k_iloadn C 1 dX7_penalty_70 rfl ?_
        refine k_iloadn C 2 dX7_penalty_71 rfl ?_
        refine k_vi C (as := [.int s, .int v]) yvX5_putPoints viX5_putPoints ml_X7_276 (m_X5_putPoints l C.2.2.2.1 (x_re M k o c) (k := k + 1) (hk := hk.2.1) (hw := hw2) (s := s) (v := v)) hk.2.1.1 rfl rfl rfl (Nat.le_of_ble_eq_true rfl) (by decide) dX7_penalty_72 (fun x72_6 M72_6 h72_6 => ?_)
        rw [h72_6.1, h72_6.2]
        refine k_pop C dX7_penalty_75 rfl ?_
        refine k_iloadn C 3 dX7_penalty_76 rfl ?_
        refine ret _ _ _ _ _ _ (by decide) (by decide) dX7_penalty_77 rfl ?_
        exact ⟨er2p nc8_2 ⟨c22_3, Int32.not_lt.mpr c28_4⟩, rfl, rfl⟩
      ·
        refine thr "java/lang/IllegalArgumentException" "points is not 0 to 9" 69 271 73 _ _ _ xw_IllegalArgumentException (by decide +kernel) (by decide) dX7_penalty_31 dX7_penalty_34 (Or.inr ⟨dX7_penalty_35, dX7_penalty_38, dX7_penalty_41⟩) ?_
        refine ⟨Or.inr (⟨?_, rfl⟩), rfl⟩
        exact er2m nc8_2 (fun h => h.2 (Int32.not_le.mp c28_4))
  ·
    have nc8_2 : ¬ (st_hs M (k + 1) s) := sk_b1.mp c8_2
    refine thr "java/lang/IndexOutOfBoundsException" "no such skater" 126 128 130 _ _ _ xw_IndexOutOfBoundsException (by decide +kernel) (by decide) dX7_penalty_11 dX7_penalty_14 (Or.inl ⟨dX7_penalty_15, dX7_penalty_17, dX7_penalty_20⟩) ?_
    refine ⟨Or.inl ⟨?_, rfl⟩, rfl⟩
    exact er2n nc8_2
