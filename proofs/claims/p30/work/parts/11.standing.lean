/-! Standing: contracts -/
theorem pg_wf_c {M M' : sk_M} {g : Nat} (h0 : M' g = M g) (h2 : M' (g + 2) = M (g + 2)) (h : pg_wf M g) : pg_wf M' g := by
  obtain ⟨N, h3, h4, h5⟩ := h
  exact ⟨N, h3, by rw [h0]; exact h4, fun e he => by rw [h2]; exact h5 e he⟩
def rk_l (M : sk_M) (k f c : Nat) : Nat → sk_M
  | 0 => sk_mo M f 2 k 2
  | s + 1 => sk_ms (sk_ms (sc_ra (rk_l M k f c s) c (f + 3 + 10 * s) (f + 2)) (k + 1) s (sc_ra (rk_l M k f c s) c (f + 3 + 10 * s) (f + 2) c 14 + sc_ra (rk_l M k f c s) c (f + 3 + 10 * s) (f + 2) c 15 - sc_ra (rk_l M k f c s) c (f + 3 + 10 * s) (f + 2) c 16)) (k + 2) s (sc_ra (rk_l M k f c s) c (f + 3 + 10 * s) (f + 2) c 14)
def sd_rk (M : sk_M) (k f c : Nat) : sk_M := rk_l M k f c (st_n M f)
theorem rk_l_f {M : sk_M} {k f c a : Nat} (h : a < c ∨ c + 9 ≤ a) (h2 : a < k ∨ k + 3 ≤ a) (s : Nat) : rk_l M k f c s a = M a := by
  induction s with
  | zero => exact sk_nmf (by omega)
  | succ s ih =>
    unfold rk_l
    rw [sk_nf (by omega), sk_nf (by omega), sc_ra_f h, ih]
theorem rk_l_2 {M : sk_M} {k f c : Nat} (h : k < c ∨ c + 9 ≤ k) (s : Nat) : rk_l M k f c s k = sk_mo M f 2 k 2 k := by
  induction s with
  | zero => rfl
  | succ s ih =>
    unfold rk_l
    rw [sk_nf (by omega), sk_nf (by omega), sc_ra_f h, ih]
theorem sd_rk_f {M : sk_M} {k f c a : Nat} (h : a < c ∨ c + 9 ≤ a) (h2 : a < k ∨ k + 3 ≤ a) : sd_rk M k f c a = M a := rk_l_f h h2 _
abbrev sd_ah (M : sk_M) (k a b : Nat) : Prop := if M (k + 1) a = M (k + 1) b then (if M (k + 2) a = M (k + 2) b then a < b else M (k + 2) b < M (k + 2) a) else M (k + 1) b < M (k + 1) a
def sd_n (M : sk_M) (k : Nat) : Nat := (M k 2).toNatClampNeg
def sd_cn (M : sk_M) (k s : Nat) : Nat → Nat
  | 0 => 0
  | o + 1 => sd_cn M k s o + (if o ≠ s ∧ sd_ah M k o s then 1 else 0)
theorem sd_cn_le (M : sk_M) (k s o : Nat) : sd_cn M k s o ≤ o := by
  induction o with
  | zero => exact Nat.le_refl _
  | succ o ih => unfold sd_cn; split <;> omega
def sd_fn (M : sk_M) (k : Nat) : Nat → Nat
  | 0 => 0
  | i + 1 => if sd_ah M k i (sd_fn M k i) then i else sd_fn M k i
theorem sd_fn_le (M : sk_M) (k i : Nat) : sd_fn M k i ≤ i := by
  induction i with
  | zero => exact Nat.le_refl _
  | succ o ih => unfold sd_fn; split <;> omega
theorem sd_fn_lt (M : sk_M) (k i : Nat) (h : 0 < i) : sd_fn M k i < i := by
  obtain ⟨j, rfl⟩ : ∃ j, i = j + 1 := ⟨i - 1, by omega⟩
  unfold sd_fn
  split
  · omega
  · exact Nat.lt_succ_of_le (sd_fn_le M k j)
theorem sk_nm1 {n : Nat} (h : n < 2 ^ 31) : ¬ nI n = -1 := fun q => nI_pos h (by rw [q]; decide)
def sd_fv (M : sk_M) (k i : Nat) : Int32 := if i = 0 then -1 else nI (sd_fn M k i)
theorem sd_fs0 {M : sk_M} {k i : Nat} (h : i = 0) : sd_fv M k (i + 1) = nI i := by
  subst h
  rw [sd_fv, if_neg (by omega), sd_fn]
  split <;> rfl
theorem sd_fsn {M : sk_M} {k i : Nat} (h : 0 < i) (q : ¬ sd_ah M k i (sd_fn M k i)) : sd_fv M k (i + 1) = nI (sd_fn M k i) := by
  rw [sd_fv, if_neg (by omega), sd_fn, if_neg q]
theorem sd_fsp {M : sk_M} {k i : Nat} (q : sd_ah M k i (sd_fn M k i)) : sd_fv M k (i + 1) = nI i := by
  rw [sd_fv, if_neg (by omega), sd_fn, if_pos q]
theorem sd_f1 {M : sk_M} {k i : Nat} (hi : i < 4) (h : sd_fv M k i = -1) : i = 0 := by
  refine Classical.byContradiction (fun q => ?_)
  rw [sd_fv, if_neg q] at h
  exact sk_nm1 (by have := sd_fn_le M k i; omega) h
theorem sd_f2 {M : sk_M} {k i : Nat} (h : ¬ sd_fv M k i = -1) : 0 < i ∧ sd_fv M k i = nI (sd_fn M k i) := by
  by_cases q : i = 0
  · rw [sd_fv, if_pos q] at h; exact absurd rfl h
  · exact ⟨by omega, by rw [sd_fv, if_neg q]⟩
set_option maxHeartbeats 4000000 in
set_option maxRecDepth 100000 in
theorem m_X4_rank (l : Launch) {O : sk_O} (hO : sk_inj O) (M : sk_M) (k f c : Nat) (hk : sk_isD O k) (hf : sk_isS O f) (hc : sk_isK O c) (hw : st_wf M f) (hkf : k + 3 ≤ f ∨ f + 43 ≤ k) (hcf : c + 9 ≤ f ∨ f + 43 ≤ c) (hkc : k + 3 ≤ c ∨ c + 9 ≤ k) : sk_Mv l yX4_rank (sk_w yX4_rank cX4_rank 4 none) ({ frames := 4, cells := 0, slots := 0, locals := 108 }) O [.ref (sk_ad O k), .ref (sk_ad O f), .ref (sk_ad O c)] M (fun M' => M' = (sd_rk M k f c)) := by
  refine sk_mv (by decide) ⟨rfl, rfl⟩ hO (Nat.le_of_ble_eq_true rfl) (fun X A Q C ret => ?_)
  show sk_W l X O A Q 4 0 0 M 0 [(0, .ref (sk_ad O k)), (1, .ref (sk_ad O f)), (2, .ref (sk_ad O c))] []
  obtain ⟨m, hm4, hm, hmj⟩ := hw
  refine k_aloadn C 0 dX4_rank_0 rfl ?_
  refine k_aloadn C 1 dX4_rank_1 rfl ?_
  refine k_geti C (j := 2) kcl_X5 fl_X4_18 hf.1 (by decide) rfl dX4_rank_2 ?_
  refine k_puti C (j := 2) (ty := .int) tyX4 kcl_X4 tyX4_ok nmX4 fl_X4_24 hk.1 (by decide) rfl rfl (by decide +kernel) rfl rfl dX4_rank_5 ?_
  refine k_iconst C (0) dX4_rank_8 (by decide) ?_
  refine k_istoren C [1, 2, 3, 0] [(0, .ref (sk_ad O k)), (1, .ref (sk_ad O f)), (2, .ref (sk_ad O c)), (3, .int (0))] dX4_rank_9 (by decide) rfl ?_
  have L10 : ∀ s, s ≤ m → sk_W l X O A Q 4 0 0 (rk_l M k f c s) 10 [(0, .ref (sk_ad O k)), (1, .ref (sk_ad O f)), (2, .ref (sk_ad O c)), (3, .int (nI s))] [] := by
    refine sk_loop m (fun s hi10 ih10 => ?_)
    refine k_iloadn C 3 dX4_rank_10 rfl ?_
    refine k_aloadn C 0 dX4_rank_11 rfl ?_
    refine k_geti C (j := 2) kcl_X4 fl_X4_24 hk.1 (by decide) rfl dX4_rank_12 ?_
    refine k_cge C 58 dX4_rank_15 (by decide) (fun c15_1 => ?_) (fun c15_1 => ?_)
    ·
      have nc15_1 : m ≤ s := (sk_eI (a := m) (b := s) (by rw [rk_l_2 (by omega), sk_sa, hm]) rfl (by omega) (by omega)).mp c15_1
      exact ret _ _ _ dX4_rank_58 (by obtain rfl : s = m := (by omega); rw [sd_rk, st_n, hm, nI_clamp (by omega)])
    ·
      have nc15_1 : ¬ (m ≤ s) := fun h => c15_1 ((sk_eI (a := m) (b := s) (by rw [rk_l_2 (by omega), sk_sa, hm]) rfl (by omega) (by omega)).mpr h)
      refine k_aloadn C 2 dX4_rank_18 rfl ?_
      refine k_aloadn C 1 dX4_rank_19 rfl ?_
      refine k_getr C (j := 0) (k' := f + 1) kcl_X5 fl_X4_25 hf.1 (by decide) rfl dX4_rank_20 ?_
      refine k_iloadn C 3 dX4_rank_23 rfl ?_
      refine k_aald C (k' := f + 3 + 10 * s) s ((hf.2.1).1) (by decide) rfl (by omega) rfl dX4_rank_24 ?_
      refine k_aloadn C 1 dX4_rank_25 rfl ?_
      refine k_getr C (j := 1) (k' := f + 2) kcl_X5 fl_X4_29 hf.1 (by decide) rfl dX4_rank_26 ?_
      refine k_vv C (as := [.ref (sk_ad O (f + 3 + 10 * s)), .ref (sk_ad O (f + 2))]) yvX3_rate viX3_rate ml_X4_32 (m_X3_rate l C.2.2.2.1 (rk_l M k f c s) (k := c) (g := f + 3 + 10 * s) (u := f + 2) (hk := hc) (hg := (hf.2.1).2 s (by omega)) (hu := hf.2.2) (hw := (pg_wf_c (rk_l_f (by omega) (by omega) _) (rk_l_f (by omega) (by omega) _) (hmj s (by omega)))) (hap := (by omega)) (hap2 := (by omega))) hc.1 rfl rfl rfl (Nat.le_of_ble_eq_true rfl) (by decide) dX4_rank_29 (fun M29_2 h29_2 => ?_)
      rw [h29_2]
      refine k_aloadn C 0 dX4_rank_32 rfl ?_
      refine k_getr C (j := 0) (k' := k + 1) kcl_X4 fl_X4_9 hk.1 (by decide) rfl dX4_rank_33 ?_
      refine k_iloadn C 3 dX4_rank_36 rfl ?_
      refine k_aloadn C 2 dX4_rank_37 rfl ?_
      refine k_vi C (as := []) yvX3_total viX3_total ml_X4_38 (m_X3_total l C.2.2.2.1 (sc_ra (rk_l M k f c s) c (f + 3 + 10 * s) (f + 2)) (k := c) (hk := hc)) hc.1 rfl rfl rfl (Nat.le_of_ble_eq_true rfl) (by decide) dX4_rank_38 (fun x38_3 M38_3 h38_3 => ?_)
      rw [h38_3.1, h38_3.2]
      refine k_iast C s hk.2.1 rfl (by omega) dX4_rank_41 ?_
      refine k_aloadn C 0 dX4_rank_42 rfl ?_
      refine k_getr C (j := 1) (k' := k + 2) kcl_X4 fl_X4_15 hk.1 (by decide) rfl dX4_rank_43 ?_
      refine k_iloadn C 3 dX4_rank_46 rfl ?_
      refine k_aloadn C 2 dX4_rank_47 rfl ?_
      refine k_geti C (j := 14) kcl_X3 fl_X4_42 hc.1 (by decide) rfl dX4_rank_48 ?_
      refine k_top ((sc_ra (rk_l M k f c s) c (f + 3 + 10 * s) (f + 2)) c 14) (by rw [sk_ne (by omega)]) ?_
      refine k_iast C s hk.2.2 rfl (by omega) dX4_rank_51 ?_
      refine k_iinc C 3 (nI (s + 1)) [1, 2, 3, 0] [(0, .ref (sk_ad O k)), (1, .ref (sk_ad O f)), (2, .ref (sk_ad O c)), (3, .int (nI (s + 1)))] dX4_rank_52 rfl (nI_add _ _) (by decide) rfl ?_
      refine k_goto C 10 dX4_rank_55 (by decide) ?_
      exact ih10 (by omega)
  exact L10 0 (Nat.zero_le _)

set_option maxHeartbeats 4000000 in
set_option maxRecDepth 100000 in
theorem m_X4_isAhead (l : Launch) {O : sk_O} (hO : sk_inj O) (M : sk_M) (k a b : Nat) (hk : sk_isD O k) (ha : a < 4) (hb : b < 4) : sk_Mi l yX4_isAhead (sk_w yX4_isAhead cX4_isAhead 3 (some .boolean)) ({ frames := 0, cells := 0, slots := 0, locals := 0 }) O [.ref (sk_ad O k), .int (nI a), .int (nI b)] M (fun r M' => r = (if sd_ah M k a b then 1 else 0) ∧ M' = M) := by
  refine sk_mi (by decide) ⟨rfl, rfl⟩ hO (Nat.le_of_ble_eq_true rfl) (fun X A Q C ret => ?_)
  show sk_W l X O A Q 3 0 0 M 0 [(0, .ref (sk_ad O k)), (1, .int (nI a)), (2, .int (nI b))] []
  refine k_aloadn C 0 dX4_isAhead_0 rfl ?_
  refine k_getr C (j := 0) (k' := k + 1) kcl_X4 fl_X4_9 hk.1 (by decide) rfl dX4_isAhead_1 ?_
  refine k_iloadn C 1 dX4_isAhead_4 rfl ?_
  refine k_ialdn C a hk.2.1 rfl (by omega) dX4_isAhead_5 ?_
  refine k_aloadn C 0 dX4_isAhead_6 rfl ?_
  refine k_getr C (j := 0) (k' := k + 1) kcl_X4 fl_X4_9 hk.1 (by decide) rfl dX4_isAhead_7 ?_
  refine k_iloadn C 2 dX4_isAhead_10 rfl ?_
  refine k_ialdn C b hk.2.1 rfl (by omega) dX4_isAhead_11 ?_
  refine k_ceq C 36 dX4_isAhead_12 (by decide) (fun c12_1 => ?_) (fun c12_1 => ?_)
  ·
    refine k_aloadn C 0 dX4_isAhead_36 rfl ?_
    refine k_getr C (j := 1) (k' := k + 2) kcl_X4 fl_X4_15 hk.1 (by decide) rfl dX4_isAhead_37 ?_
    refine k_iloadn C 1 dX4_isAhead_40 rfl ?_
    refine k_ialdn C a hk.2.2 rfl (by omega) dX4_isAhead_41 ?_
    refine k_aloadn C 0 dX4_isAhead_42 rfl ?_
    refine k_getr C (j := 1) (k' := k + 2) kcl_X4 fl_X4_15 hk.1 (by decide) rfl dX4_isAhead_43 ?_
    refine k_iloadn C 2 dX4_isAhead_46 rfl ?_
    refine k_ialdn C b hk.2.2 rfl (by omega) dX4_isAhead_47 ?_
    refine k_ceq C 72 dX4_isAhead_48 (by decide) (fun c48_2 => ?_) (fun c48_2 => ?_)
    ·
      refine k_iloadn C 1 dX4_isAhead_72 rfl ?_
      refine k_iloadn C 2 dX4_isAhead_73 rfl ?_
      refine k_cge C 81 dX4_isAhead_74 (by decide) (fun c74_3 => ?_) (fun c74_3 => ?_)
      ·
        have nc74_3 : b ≤ a := (sk_eI (a := b) (b := a) rfl rfl (by omega) (by omega)).mp c74_3
        refine k_iconst C (0) dX4_isAhead_81 (by decide) ?_
        exact ret _ _ _ _ dX4_isAhead_82 rfl (by exact ⟨(if_neg (by rw [sd_ah, if_pos c12_1, if_pos c48_2]; omega)).symm, rfl⟩)
      ·
        have nc74_3 : ¬ (b ≤ a) := fun h => c74_3 ((sk_eI (a := b) (b := a) rfl rfl (by omega) (by omega)).mpr h)
        refine k_iconst C (1) dX4_isAhead_77 (by decide) ?_
        refine k_goto C 82 dX4_isAhead_78 (by decide) ?_
        exact ret _ _ _ _ dX4_isAhead_82 rfl (by exact ⟨(if_pos (by rw [sd_ah, if_pos c12_1, if_pos c48_2]; omega)).symm, rfl⟩)
    ·
      refine k_aloadn C 0 dX4_isAhead_51 rfl ?_
      refine k_getr C (j := 1) (k' := k + 2) kcl_X4 fl_X4_15 hk.1 (by decide) rfl dX4_isAhead_52 ?_
      refine k_iloadn C 1 dX4_isAhead_55 rfl ?_
      refine k_ialdn C a hk.2.2 rfl (by omega) dX4_isAhead_56 ?_
      refine k_aloadn C 0 dX4_isAhead_57 rfl ?_
      refine k_getr C (j := 1) (k' := k + 2) kcl_X4 fl_X4_15 hk.1 (by decide) rfl dX4_isAhead_58 ?_
      refine k_iloadn C 2 dX4_isAhead_61 rfl ?_
      refine k_ialdn C b hk.2.2 rfl (by omega) dX4_isAhead_62 ?_
      refine k_cle C 70 dX4_isAhead_63 (by decide) (fun c63_4 => ?_) (fun c63_4 => ?_)
      ·
        refine k_iconst C (0) dX4_isAhead_70 (by decide) ?_
        exact ret _ _ _ _ dX4_isAhead_71 rfl (by exact ⟨(if_neg (by rw [sd_ah, if_pos c12_1, if_neg c48_2]; exact Int32.not_lt.mpr c63_4)).symm, rfl⟩)
      ·
        refine k_iconst C (1) dX4_isAhead_66 (by decide) ?_
        refine k_goto C 71 dX4_isAhead_67 (by decide) ?_
        exact ret _ _ _ _ dX4_isAhead_71 rfl (by exact ⟨(if_pos (by rw [sd_ah, if_pos c12_1, if_neg c48_2]; exact Int32.not_le.mp c63_4)).symm, rfl⟩)
  ·
    refine k_aloadn C 0 dX4_isAhead_15 rfl ?_
    refine k_getr C (j := 0) (k' := k + 1) kcl_X4 fl_X4_9 hk.1 (by decide) rfl dX4_isAhead_16 ?_
    refine k_iloadn C 1 dX4_isAhead_19 rfl ?_
    refine k_ialdn C a hk.2.1 rfl (by omega) dX4_isAhead_20 ?_
    refine k_aloadn C 0 dX4_isAhead_21 rfl ?_
    refine k_getr C (j := 0) (k' := k + 1) kcl_X4 fl_X4_9 hk.1 (by decide) rfl dX4_isAhead_22 ?_
    refine k_iloadn C 2 dX4_isAhead_25 rfl ?_
    refine k_ialdn C b hk.2.1 rfl (by omega) dX4_isAhead_26 ?_
    refine k_cle C 34 dX4_isAhead_27 (by decide) (fun c27_5 => ?_) (fun c27_5 => ?_)
    ·
      refine k_iconst C (0) dX4_isAhead_34 (by decide) ?_
      exact ret _ _ _ _ dX4_isAhead_35 rfl (by exact ⟨(if_neg (by rw [sd_ah, if_neg c12_1]; exact Int32.not_lt.mpr c27_5)).symm, rfl⟩)
    ·
      refine k_iconst C (1) dX4_isAhead_30 (by decide) ?_
      refine k_goto C 35 dX4_isAhead_31 (by decide) ?_
      exact ret _ _ _ _ dX4_isAhead_35 rfl (by exact ⟨(if_pos (by rw [sd_ah, if_neg c12_1]; exact Int32.not_le.mp c27_5)).symm, rfl⟩)

set_option maxHeartbeats 4000000 in
set_option maxRecDepth 100000 in
theorem m_X4_place (l : Launch) {O : sk_O} (hO : sk_inj O) (M : sk_M) (k q m : Nat) (hk : sk_isD O k) (hm : M k 2 = nI m) (hm4 : m ≤ 4) (hq : q < 4) : sk_Mi l yX4_place (sk_w yX4_place cX4_place 4 (some .int)) ({ frames := 1, cells := 0, slots := 0, locals := 22 }) O [.ref (sk_ad O k), .int (nI q)] M (fun r M' => r = (nI (sd_cn M k q m)) ∧ M' = M) := by
  refine sk_mi (by decide) ⟨rfl, rfl⟩ hO (Nat.le_of_ble_eq_true rfl) (fun X A Q C ret => ?_)
  show sk_W l X O A Q 4 0 0 M 0 [(0, .ref (sk_ad O k)), (1, .int (nI q))] []
  refine k_iconst C (0) dX4_place_0 (by decide) ?_
  refine k_istoren C [1, 2, 0] [(0, .ref (sk_ad O k)), (1, .int (nI q)), (2, .int (0))] dX4_place_1 (by decide) rfl ?_
  refine k_iconst C (0) dX4_place_2 (by decide) ?_
  refine k_istoren C [1, 2, 3, 0] [(0, .ref (sk_ad O k)), (1, .int (nI q)), (2, .int (0)), (3, .int (0))] dX4_place_3 (by decide) rfl ?_
  have L4 : ∀ i, i ≤ m → sk_W l X O A Q 4 0 0 M 4 [(0, .ref (sk_ad O k)), (1, .int (nI q)), (2, .int (nI (sd_cn M k q i))), (3, .int (nI i))] [] := by
    refine sk_loop m (fun i hi4 ih4 => ?_)
    have hcl := sd_cn_le M k q i
    refine k_iloadn C 3 dX4_place_4 rfl ?_
    refine k_aloadn C 0 dX4_place_5 rfl ?_
    refine k_geti C (j := 2) kcl_X4 fl_X4_24 hk.1 (by decide) rfl dX4_place_6 ?_
    refine k_cge C 35 dX4_place_9 (by decide) (fun c9_1 => ?_) (fun c9_1 => ?_)
    ·
      have nc9_1 : m ≤ i := (sk_eI (a := m) (b := i) hm rfl (by omega) (by omega)).mp c9_1
      refine k_iloadn C 2 dX4_place_35 rfl ?_
      exact ret _ _ _ _ dX4_place_36 rfl (by obtain rfl : i = m := (by omega); exact ⟨rfl, rfl⟩)
    ·
      have nc9_1 : ¬ (m ≤ i) := fun h => c9_1 ((sk_eI (a := m) (b := i) hm rfl (by omega) (by omega)).mpr h)
      refine k_iloadn C 3 dX4_place_12 rfl ?_
      refine k_iloadn C 1 dX4_place_13 rfl ?_
      refine k_ceq C 29 dX4_place_14 (by decide) (fun c14_2 => ?_) (fun c14_2 => ?_)
      ·
        have nc14_2 : i = q := (sk_qI (a := i) (b := q) rfl rfl (by omega) (by omega)).mp c14_2
        refine k_iinc C 3 (nI (i + 1)) [1, 2, 3, 0] [(0, .ref (sk_ad O k)), (1, .int (nI q)), (2, .int (nI (sd_cn M k q i))), (3, .int (nI (i + 1)))] dX4_place_29 rfl (nI_add _ _) (by decide) rfl ?_
        refine k_goto C 4 dX4_place_32 (by decide) ?_
        exact k_eq rfl rfl (by rw [sd_cn, if_neg (show ¬ (i ≠ q ∧ sd_ah M k i q) from fun h => h.1 (by omega))]; rfl) rfl (ih4 (by omega))
      ·
        have nc14_2 : ¬ (i = q) := fun h => c14_2 ((sk_qI (a := i) (b := q) rfl rfl (by omega) (by omega)).mpr h)
        refine k_aloadn C 0 dX4_place_17 rfl ?_
        refine k_iloadn C 3 dX4_place_18 rfl ?_
        refine k_iloadn C 1 dX4_place_19 rfl ?_
        refine k_vi C (as := [.int (nI i), .int (nI q)]) yvX4_isAhead viX4_isAhead ml_X4_45 (m_X4_isAhead l C.2.2.2.1 M (k := k) (a := i) (b := q) (hk := hk) (ha := (by omega)) (hb := hq)) hk.1 rfl rfl rfl (Nat.le_of_ble_eq_true rfl) (by decide) dX4_place_20 (fun x20_3 M20_3 h20_3 => ?_)
        rw [h20_3.1, h20_3.2]
        refine k_zeq C 29 dX4_place_23 (by decide) (fun c23_4 => ?_) (fun c23_4 => ?_)
        ·
          have nc23_4 : ¬ (sd_ah M k i q) := sk_b1.mp c23_4
          refine k_iinc C 3 (nI (i + 1)) [1, 2, 3, 0] [(0, .ref (sk_ad O k)), (1, .int (nI q)), (2, .int (nI (sd_cn M k q i))), (3, .int (nI (i + 1)))] dX4_place_29 rfl (nI_add _ _) (by decide) rfl ?_
          refine k_goto C 4 dX4_place_32 (by decide) ?_
          exact k_eq rfl rfl (by rw [sd_cn, if_neg (show ¬ (i ≠ q ∧ sd_ah M k i q) from fun h => nc23_4 h.2)]; rfl) rfl (ih4 (by omega))
        ·
          have nc23_4 : sd_ah M k i q := Classical.byContradiction (fun h => c23_4 (sk_b1.mpr h))
          refine k_iinc C 2 (nI (sd_cn M k q i + 1)) [1, 2, 0, 3] [(0, .ref (sk_ad O k)), (1, .int (nI q)), (2, .int (nI (sd_cn M k q i + 1))), (3, .int (nI i))] dX4_place_26 rfl (nI_add _ _) (by decide) rfl ?_
          refine k_iinc C 3 (nI (i + 1)) [1, 2, 3, 0] [(0, .ref (sk_ad O k)), (1, .int (nI q)), (2, .int (nI (sd_cn M k q i + 1))), (3, .int (nI (i + 1)))] dX4_place_29 rfl (nI_add _ _) (by decide) rfl ?_
          refine k_goto C 4 dX4_place_32 (by decide) ?_
          exact k_eq rfl rfl (by rw [sd_cn, if_pos (show i ≠ q ∧ sd_ah M k i q from ⟨by omega, nc23_4⟩)]) rfl (ih4 (by omega))
  exact L4 0 (Nat.zero_le _)

set_option maxHeartbeats 4000000 in
set_option maxRecDepth 100000 in
theorem m_X4_first (l : Launch) {O : sk_O} (hO : sk_inj O) (M : sk_M) (k m : Nat) (hk : sk_isD O k) (hm : M k 2 = nI m) (hm4 : m ≤ 4) : sk_Mi l yX4_first (sk_w yX4_first cX4_first 3 (some .int)) ({ frames := 1, cells := 0, slots := 0, locals := 22 }) O [.ref (sk_ad O k)] M (fun r M' => r = (sd_fv M k m) ∧ M' = M) := by
  refine sk_mi (by decide) ⟨rfl, rfl⟩ hO (Nat.le_of_ble_eq_true rfl) (fun X A Q C ret => ?_)
  show sk_W l X O A Q 3 0 0 M 0 [(0, .ref (sk_ad O k))] []
  refine k_iconst C (-1) dX4_first_0 (by decide) ?_
  refine k_istoren C [1, 0] [(0, .ref (sk_ad O k)), (1, .int (-1))] dX4_first_1 (by decide) rfl ?_
  refine k_iconst C (0) dX4_first_2 (by decide) ?_
  refine k_istoren C [1, 2, 0] [(0, .ref (sk_ad O k)), (1, .int (-1)), (2, .int (0))] dX4_first_3 (by decide) rfl ?_
  have L4 : ∀ i, i ≤ m → sk_W l X O A Q 3 0 0 M 4 [(0, .ref (sk_ad O k)), (1, .int (sd_fv M k i)), (2, .int (nI i))] [] := by
    refine sk_loop m (fun i hi4 ih4 => ?_)
    have hfl := sd_fn_le M k i
    refine k_iloadn C 2 dX4_first_4 rfl ?_
    refine k_aloadn C 0 dX4_first_5 rfl ?_
    refine k_geti C (j := 2) kcl_X4 fl_X4_24 hk.1 (by decide) rfl dX4_first_6 ?_
    refine k_cge C 34 dX4_first_9 (by decide) (fun c9_1 => ?_) (fun c9_1 => ?_)
    ·
      have nc9_1 : m ≤ i := (sk_eI (a := m) (b := i) hm rfl (by omega) (by omega)).mp c9_1
      refine k_iloadn C 1 dX4_first_34 rfl ?_
      exact ret _ _ _ _ dX4_first_35 rfl (by obtain rfl : i = m := (by omega); exact ⟨rfl, rfl⟩)
    ·
      have nc9_1 : ¬ (m ≤ i) := fun h => c9_1 ((sk_eI (a := m) (b := i) hm rfl (by omega) (by omega)).mpr h)
      refine k_iloadn C 1 dX4_first_12 rfl ?_
      refine k_iconst C (-1) dX4_first_13 (by decide) ?_
      refine k_ceq C 26 dX4_first_14 (by decide) (fun c14_2 => ?_) (fun c14_2 => ?_)
      ·
        refine k_iloadn C 2 dX4_first_26 rfl ?_
        refine k_istoren C [1, 0, 2] [(0, .ref (sk_ad O k)), (1, .int (nI i)), (2, .int (nI i))] dX4_first_27 (by decide) rfl ?_
        refine k_iinc C 2 (nI (i + 1)) [1, 2, 0] [(0, .ref (sk_ad O k)), (1, .int (nI i)), (2, .int (nI (i + 1)))] dX4_first_28 rfl (nI_add _ _) (by decide) rfl ?_
        refine k_goto C 4 dX4_first_31 (by decide) ?_
        exact k_eq rfl rfl (by rw [sd_fs0 (sd_f1 (by omega) c14_2)]) rfl (ih4 (by omega))
      ·
        refine k_aloadn C 0 dX4_first_17 rfl ?_
        refine k_iloadn C 2 dX4_first_18 rfl ?_
        refine k_iloadn C 1 dX4_first_19 rfl ?_
        refine k_top (nI (sd_fn M k i)) (sd_f2 c14_2).2 ?_
        refine k_vi C (as := [.int (nI i), .int (nI (sd_fn M k i))]) yvX4_isAhead viX4_isAhead ml_X4_45 (m_X4_isAhead l C.2.2.2.1 M (k := k) (a := i) (b := sd_fn M k i) (hk := hk) (ha := (by omega)) (hb := (by omega))) hk.1 rfl rfl rfl (Nat.le_of_ble_eq_true rfl) (by decide) dX4_first_20 (fun x20_3 M20_3 h20_3 => ?_)
        rw [h20_3.1, h20_3.2]
        refine k_zeq C 28 dX4_first_23 (by decide) (fun c23_4 => ?_) (fun c23_4 => ?_)
        ·
          have nc23_4 : ¬ (sd_ah M k i (sd_fn M k i)) := sk_b1.mp c23_4
          refine k_iinc C 2 (nI (i + 1)) [1, 2, 0] [(0, .ref (sk_ad O k)), (1, .int (sd_fv M k i)), (2, .int (nI (i + 1)))] dX4_first_28 rfl (nI_add _ _) (by decide) rfl ?_
          refine k_goto C 4 dX4_first_31 (by decide) ?_
          exact k_eq rfl rfl (by rw [sd_fsn (sd_f2 c14_2).1 nc23_4, (sd_f2 c14_2).2]) rfl (ih4 (by omega))
        ·
          have nc23_4 : sd_ah M k i (sd_fn M k i) := Classical.byContradiction (fun h => c23_4 (sk_b1.mpr h))
          refine k_iloadn C 2 dX4_first_26 rfl ?_
          refine k_istoren C [1, 0, 2] [(0, .ref (sk_ad O k)), (1, .int (nI i)), (2, .int (nI i))] dX4_first_27 (by decide) rfl ?_
          refine k_iinc C 2 (nI (i + 1)) [1, 2, 0] [(0, .ref (sk_ad O k)), (1, .int (nI i)), (2, .int (nI (i + 1)))] dX4_first_28 rfl (nI_add _ _) (by decide) rfl ?_
          refine k_goto C 4 dX4_first_31 (by decide) ?_
          exact k_eq rfl rfl (by rw [sd_fsp nc23_4]) rfl (ih4 (by omega))
  exact L4 0 (Nat.zero_le _)
