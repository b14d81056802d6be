/-! SkateSheet: calls, add, undo, slots, text -/
theorem x_ck0 {M : sk_M} {t : Nat} {s e p v : Int32} (h : x_ck M t s e p v = 0) : st_cc M t s e p v := by
  unfold x_ck er_3 at h
  split at h
  · split at h
    · split at h
      · exact ⟨by assumption, (by assumption : ¬ v < 0 ∧ ¬ 3 < v).1, (by assumption : ¬ v < 0 ∧ ¬ 3 < v).2, by assumption⟩
      · cases h
    · cases h
  · cases h
def x_ad (M : sk_M) (k o c m : Nat) : sk_M := sk_ms (pg_cl (x_re M k o c) (k + 1 + 3 + 10 * m)) (k + 1) 2 (nI m + 1)
set_option maxHeartbeats 4000000 in
set_option maxRecDepth 100000 in
theorem m_X7_checkCall (l : Launch) {O : sk_O} (hO : sk_inj O) (M : sk_M) (k : Nat) (s e p v : Int32) (hk : sk_isX O k) (hw : st_wf M (k + 1)) (hst : l.stackTraces = false) : sk_Xv l yX7_checkCall (sk_w yX7_checkCall cX7_checkCall 5 none) ({ frames := 6, cells := 1, slots := 6, locals := 82 }) O [.ref (sk_ad O k), .int s, .int e, .int p, .int v] M (fun M' => (x_ck M (k + 1) s e p v) = 0 ∧ M' = M) (fun E M' => ((x_ck M (k + 1) s e p v) = 1 ∧ E = "java/lang/IndexOutOfBoundsException" ∨ (x_ck M (k + 1) s e p v) = 2 ∧ E = "java/lang/IllegalArgumentException" ∨ (x_ck M (k + 1) s e p v) = 3 ∧ E = "java/lang/IllegalStateException") ∧ M' = M) := by
  refine sk_xv hst (by decide) rfl ⟨rfl, rfl⟩ hO (Nat.le_of_ble_eq_true rfl) (fun X A Q C hSr ret thr out => ?_)
  show sk_W l X O A Q 5 0 0 M 0 [(0, .ref (sk_ad O k)), (1, .int s), (2, .int e), (3, .int p), (4, .int v)] []
  refine k_aloadn C 0 dX7_checkCall_0 rfl ?_
  refine k_getr C (j := 0) (k' := k + 1) kcl_X7 fl_X7_10 hk.1 (by decide) rfl dX7_checkCall_1 ?_
  refine k_iloadn C 1 dX7_checkCall_4 rfl ?_
  refine k_iloadn C 2 dX7_checkCall_5 rfl ?_
  refine k_iloadn C 3 dX7_checkCall_6 rfl ?_
  refine k_vi C (as := [.int s, .int e, .int p]) yvX5_hasPart viX5_hasPart ml_X7_198 (m_X5_hasPart l C.2.2.2.1 M (k := k + 1) (hk := hk.2.1) (hw := hw) (s := s) (e := e) (p := p)) hk.2.1.1 rfl rfl rfl (Nat.le_of_ble_eq_true rfl) (by decide) dX7_checkCall_7 (fun x7_1 M7_1 h7_1 => ?_)
  rw [h7_1.1, h7_1.2]
  refine k_zne C 23 dX7_checkCall_10 (by decide) (fun c10_2 => ?_) (fun c10_2 => ?_)
  ·
    have nc10_2 : st_hp M (k + 1) s e p := Classical.byContradiction (fun h => c10_2 (sk_b1.mpr h))
    obtain ⟨m, hm4, hm, hmj⟩ := id hw
    obtain ⟨ix, ib⟩ := sk_ix nc10_2.1.1 hm (by omega)
    obtain ⟨N, hN12, hN, hNp⟩ := hmj _ ib
    obtain ⟨ex, eb⟩ := sk_ix nc10_2.1.2 hN (by omega)
    obtain ⟨np, hnp, hpp⟩ := hNp _ eb
    obtain ⟨px, pb⟩ := sk_ix nc10_2.2 hpp (by omega)
    refine k_iload C 4 dX7_checkCall_23 rfl ?_
    refine k_zlt C 34 dX7_checkCall_25 (by decide) (fun c25_3 => ?_) (fun c25_3 => ?_)
    ·
      refine thr "java/lang/IllegalArgumentException" "call is not 0 to 3" 69 364 73 _ _ _ xw_IllegalArgumentException (by decide +kernel) (by decide) dX7_checkCall_34 dX7_checkCall_37 (Or.inr ⟨dX7_checkCall_38, dX7_checkCall_41, dX7_checkCall_44⟩) ?_
      refine ⟨Or.inr (Or.inl ⟨?_, rfl⟩), rfl⟩
      exact er3m nc10_2 (fun h => h.1 c25_3)
    ·
      refine k_iload C 4 dX7_checkCall_28 rfl ?_
      refine k_iconst C (3) dX7_checkCall_30 (by decide) ?_
      refine k_cle C 45 dX7_checkCall_31 (by decide) (fun c31_4 => ?_) (fun c31_4 => ?_)
      ·
        refine k_aloadn C 0 dX7_checkCall_45 rfl ?_
        refine k_getr C (j := 0) (k' := k + 1) kcl_X7 fl_X7_10 hk.1 (by decide) rfl dX7_checkCall_46 ?_
        refine k_getr C (j := 0) (k' := k + 2) kcl_X5 fl_X7_133 hk.2.1.1 (by decide) rfl dX7_checkCall_49 ?_
        refine k_iloadn C 1 dX7_checkCall_52 rfl ?_
        refine k_aald C (k' := k + 1 + 3 + 10 * s.toNatClampNeg) s.toNatClampNeg ((hk.2.1.2.1).1) (by decide) ix (by omega) rfl dX7_checkCall_53 ?_
        refine k_iloadn C 2 dX7_checkCall_54 rfl ?_
        refine k_top (nI e.toNatClampNeg) ex ?_
        refine k_iloadn C 3 dX7_checkCall_55 rfl ?_
        refine k_top (nI p.toNatClampNeg) px ?_
        refine k_iload C 4 dX7_checkCall_56 rfl ?_
        refine k_vi C (as := [.int (nI e.toNatClampNeg), .int (nI p.toNatClampNeg), .int v]) yvX2_takesCall viX2_takesCall ml_X7_366 (m_X2_takesCall l C.2.2.2.1 M (k := k + 1 + 3 + 10 * s.toNatClampNeg) (e := e.toNatClampNeg) (p := p.toNatClampNeg) (x := v) (hk := (hk.2.1.2.1).2 s.toNatClampNeg (by omega)) (he := (by omega)) (hp := (by omega))) ((hk.2.1.2.1).2 s.toNatClampNeg (by omega)).1 rfl rfl rfl (Nat.le_of_ble_eq_true rfl) (by decide) dX7_checkCall_58 (fun x58_5 M58_5 h58_5 => ?_)
        rw [h58_5.1, h58_5.2]
        refine k_zne C 75 dX7_checkCall_61 (by decide) (fun c61_6 => ?_) (fun c61_6 => ?_)
        ·
          have nc61_6 : M ((k + 1 + 3 + 10 * s.toNatClampNeg) + 1) e.toNatClampNeg = 0 ∧ (¬ v = 3 ∨ M ((k + 1 + 3 + 10 * s.toNatClampNeg) + 6) (3 * e.toNatClampNeg + p.toNatClampNeg) = 3 ∨ M ((k + 1 + 3 + 10 * s.toNatClampNeg) + 6) (3 * e.toNatClampNeg + p.toNatClampNeg) = 4) := Classical.byContradiction (fun h => c61_6 (sk_b1.mpr h))
          refine ret _ _ _ _ _ (by decide) (by decide) dX7_checkCall_75 ?_
          exact ⟨er3p nc10_2 ⟨c25_3, Int32.not_lt.mpr c31_4⟩ nc61_6, rfl⟩
        ·
          have nc61_6 : ¬ (M ((k + 1 + 3 + 10 * s.toNatClampNeg) + 1) e.toNatClampNeg = 0 ∧ (¬ v = 3 ∨ M ((k + 1 + 3 + 10 * s.toNatClampNeg) + 6) (3 * e.toNatClampNeg + p.toNatClampNeg) = 3 ∨ M ((k + 1 + 3 + 10 * s.toNatClampNeg) + 6) (3 * e.toNatClampNeg + p.toNatClampNeg) = 4)) := sk_b1.mp c61_6
          refine thr "java/lang/IllegalStateException" "the part does not take the call" 80 369 84 _ _ _ xw_IllegalStateException (by decide +kernel) (by decide) dX7_checkCall_64 dX7_checkCall_67 (Or.inr ⟨dX7_checkCall_68, dX7_checkCall_71, dX7_checkCall_74⟩) ?_
          refine ⟨Or.inr (Or.inr (⟨?_, rfl⟩)), rfl⟩
          exact er3l nc10_2 ⟨c25_3, Int32.not_lt.mpr c31_4⟩ nc61_6
      ·
        refine thr "java/lang/IllegalArgumentException" "call is not 0 to 3" 69 364 73 _ _ _ xw_IllegalArgumentException (by decide +kernel) (by decide) dX7_checkCall_34 dX7_checkCall_37 (Or.inr ⟨dX7_checkCall_38, dX7_checkCall_41, dX7_checkCall_44⟩) ?_
        refine ⟨Or.inr (Or.inl ⟨?_, rfl⟩), rfl⟩
        exact er3m nc10_2 (fun h => h.2 (Int32.not_le.mp c31_4))
  ·
    have nc10_2 : ¬ (st_hp M (k + 1) s e p) := sk_b1.mp c10_2
    refine thr "java/lang/IndexOutOfBoundsException" "no such skater, element or part" 126 202 130 _ _ _ xw_IndexOutOfBoundsException (by decide +kernel) (by decide) dX7_checkCall_13 dX7_checkCall_16 (Or.inl ⟨dX7_checkCall_17, dX7_checkCall_19, dX7_checkCall_22⟩) ?_
    refine ⟨Or.inl ⟨?_, rfl⟩, rfl⟩
    exact er3n nc10_2

set_option maxHeartbeats 4000000 in
set_option maxRecDepth 100000 in
theorem m_X7_call (l : Launch) {O : sk_O} (hO : sk_inj O) (M : sk_M) (k : Nat) (s e p v : Int32) (hk : sk_isX O k) (o c : Nat) (ho : M (k + 44) 1 = nI o) (hc : M (k + 44) 2 = nI c) (ho14 : o < 14) (hc14 : c ≤ 14) (hw : st_wf M (k + 1)) (hst : l.stackTraces = false) : sk_Xi l yX7_call (sk_w yX7_call cX7_call 6 (some .int)) ({ frames := 7, cells := 1, slots := 6, locals := 145 }) O [.ref (sk_ad O k), .int s, .int e, .int p, .int v] M (fun r M' => (x_ck M (k + 1) s e p v) = 0 ∧ r = (x_re M k o c (st_pg (k + 1) s + 8) (3 * e.toNatClampNeg + p.toNatClampNeg)) ∧ M' = (if st_cc (x_re M k o c) (k + 1) s e p v then sk_ms (x_re M k o c) (st_pg (k + 1) s + 8) (3 * e.toNatClampNeg + p.toNatClampNeg) v else x_re M k o c)) (fun E M' => ((x_ck M (k + 1) s e p v) = 1 ∧ E = "java/lang/IndexOutOfBoundsException" ∨ (x_ck M (k + 1) s e p v) = 2 ∧ E = "java/lang/IllegalArgumentException" ∨ (x_ck M (k + 1) s e p v) = 3 ∧ E = "java/lang/IllegalStateException") ∧ M' = M) := by
  refine sk_xi hst (by decide) rfl ⟨rfl, rfl⟩ hO (Nat.le_of_ble_eq_true rfl) (fun X A Q C hSr ret thr out => ?_)
  show sk_W l X O A Q 6 0 0 M 0 [(0, .ref (sk_ad O k)), (1, .int s), (2, .int e), (3, .int p), (4, .int v)] []
  have hw2 : st_wf (x_re M k o c) (k + 1) := st_wf_c (fun a h1 h2 => hs_re_f ho14 hc14 hw (by omega) (by omega)) hw
  refine k_aloadn C 0 dX7_call_0 rfl ?_
  refine k_iloadn C 1 dX7_call_1 rfl ?_
  refine k_iloadn C 2 dX7_call_2 rfl ?_
  refine k_iloadn C 3 dX7_call_3 rfl ?_
  refine k_iload C 4 dX7_call_4 rfl ?_
  refine k_xv C hSr (as := [.int s, .int e, .int p, .int v]) yvX7_checkCall viX7_checkCall ml_X7_257 (m_X7_checkCall l C.2.2.2.1 M (hst := hst) (k := k) (s := s) (e := e) (p := p) (v := v) (hk := hk) (hw := hw)) hk.1 rfl rfl rfl (Nat.le_of_ble_eq_true rfl) (by decide) dX7_call_6 (fun E9 M9 h9 => out E9 M9 _ _ _ ?_) (fun M6_1 h6_1 => ?_)
  · exact h9
  rw [h6_1.2]
  have hcc := x_ck0 h6_1.1
  have hck := h6_1.1
  obtain ⟨m, hm4, hm, hmj⟩ := id hw
  obtain ⟨ix, ib⟩ := sk_ix hcc.1.1.1 hm (by omega)
  obtain ⟨N, hN12, hN, hNp⟩ := hmj _ ib
  obtain ⟨ex, eb⟩ := sk_ix hcc.1.1.2 hN (by omega)
  obtain ⟨np, hnp, hpp⟩ := hNp _ eb
  obtain ⟨px, pb⟩ := sk_ix hcc.1.2 hpp (by omega)
  refine k_aloadn C 0 dX7_call_9 rfl ?_
  refine k_getr C (j := 1) (k' := k + 44) kcl_X7 fl_X7_19 hk.1 (by decide) rfl dX7_call_10 ?_
  refine k_aloadn C 0 dX7_call_13 rfl ?_
  refine k_getr C (j := 0) (k' := k + 1) kcl_X7 fl_X7_10 hk.1 (by decide) rfl dX7_call_14 ?_
  refine k_vv C (as := [.ref (sk_ad O (k + 1))]) yvX1_remember viX1_remember ml_X7_223 (m_X1_remember l C.2.2.2.1 M (h := k + 44) (f := k + 1) (o := o) (c := c) (hh := hk.2.2.1) (hf := hk.2.1) (ho := ho) (hc := hc) (ho14 := ho14) (hc14 := hc14) (hw := hw) (hap := (by omega))) hk.2.2.1.1 rfl rfl rfl (Nat.le_of_ble_eq_true rfl) (by decide) dX7_call_17 (fun M17_2 h17_2 => ?_)
  rw [h17_2]
  refine k_aloadn C 0 dX7_call_20 rfl ?_
  refine k_getr C (j := 0) (k' := k + 1) kcl_X7 fl_X7_10 hk.1 (by decide) rfl dX7_call_21 ?_
  refine k_getr C (j := 0) (k' := k + 2) kcl_X5 fl_X7_133 hk.2.1.1 (by decide) rfl dX7_call_24 ?_
  refine k_iloadn C 1 dX7_call_27 rfl ?_
  refine k_aald C (k' := k + 1 + 3 + 10 * s.toNatClampNeg) s.toNatClampNeg ((hk.2.1.2.1).1) (by decide) ix (by omega) rfl dX7_call_28 ?_
  refine k_getr C (j := 7) (k' := k + 1 + 3 + 10 * s.toNatClampNeg + 8) kcl_X2 fl_X7_212 ((hk.2.1.2.1).2 s.toNatClampNeg (by omega)).1 (by decide) rfl dX7_call_29 ?_
  refine k_iconst C (3) dX7_call_32 (by decide) ?_
  refine k_iloadn C 2 dX7_call_33 rfl ?_
  refine k_imul C dX7_call_34 ?_
  refine k_iloadn C 3 dX7_call_35 rfl ?_
  refine k_iadd C dX7_call_36 ?_
  refine k_ialdn C (3 * e.toNatClampNeg + p.toNatClampNeg) (((hk.2.1.2.1).2 s.toNatClampNeg (by omega)).2.2.2.2.2.2.2.2.1) (sk_nadd (sk_nmul (a := 3) rfl ex) px) (by omega) dX7_call_37 ?_
  refine k_istore C [1, 2, 3, 4, 5, 0] [(0, .ref (sk_ad O k)), (1, .int s), (2, .int e), (3, .int p), (4, .int v), (5, .int ((x_re M k o c) (k + 1 + 3 + 10 * s.toNatClampNeg + 8) (3 * e.toNatClampNeg + p.toNatClampNeg)))] dX7_call_38 (by decide) rfl ?_
  refine k_aloadn C 0 dX7_call_40 rfl ?_
  refine k_getr C (j := 0) (k' := k + 1) kcl_X7 fl_X7_10 hk.1 (by decide) rfl dX7_call_41 ?_
  refine k_iloadn C 1 dX7_call_44 rfl ?_
  refine k_iloadn C 2 dX7_call_45 rfl ?_
  refine k_iloadn C 3 dX7_call_46 rfl ?_
  refine k_iload C 4 dX7_call_47 rfl ?_
  refine k_vi C (as := [.int s, .int e, .int p, .int v]) yvX5_putCall viX5_putCall ml_X7_261 (m_X5_putCall l C.2.2.2.1 (x_re M k o c) (k := k + 1) (hk := hk.2.1) (hw := hw2) (s := s) (e := e) (p := p) (v := v)) hk.2.1.1 rfl rfl rfl (Nat.le_of_ble_eq_true rfl) (by decide) dX7_call_49 (fun x49_3 M49_3 h49_3 => ?_)
  rw [h49_3.1, h49_3.2]
  refine k_pop C dX7_call_52 rfl ?_
  refine k_iload C 5 dX7_call_53 rfl ?_
  refine ret _ _ _ _ _ _ (by decide) (by decide) dX7_call_55 rfl ?_
  exact ⟨hck, rfl, rfl⟩

set_option maxHeartbeats 4000000 in
set_option maxRecDepth 100000 in
theorem m_X7_add (l : Launch) {O : sk_O} (hO : sk_inj O) (M : sk_M) (k m : Nat) (hk : sk_isX O k) (hm : M (k + 1) 2 = nI m) (hm4 : m ≤ 4) (o c : Nat) (ho : M (k + 44) 1 = nI o) (hc : M (k + 44) 2 = nI c) (ho14 : o < 14) (hc14 : c ≤ 14) (hw : st_wf M (k + 1)) (hst : l.stackTraces = false) : sk_Xi l yX7_add (sk_w yX7_add cX7_add 2 (some .int)) ({ frames := 6, cells := 1, slots := 6, locals := 145 }) O [.ref (sk_ad O k)] M (fun r M' => (er_1 (m < 4)) = 0 ∧ r = (nI m) ∧ M' = (x_ad M k o c m)) (fun E M' => ((er_1 (m < 4)) = 1 ∧ E = "java/lang/IllegalStateException") ∧ M' = M) := by
  refine sk_xi hst (by decide) rfl ⟨rfl, rfl⟩ hO (Nat.le_of_ble_eq_true rfl) (fun X A Q C hSr ret thr out => ?_)
  show sk_W l X O A Q 2 0 0 M 0 [(0, .ref (sk_ad O k))] []
  have hw2 : st_wf (x_re M k o c) (k + 1) := st_wf_c (fun a h1 h2 => hs_re_f ho14 hc14 hw (by omega) (by omega)) hw
  have hm2 : x_re M k o c (k + 1) 2 = nI m := by rw [x_re, hs_re_f ho14 hc14 hw (by omega) (by omega)]; exact hm
  refine k_aloadn C 0 dX7_add_0 rfl ?_
  refine k_getr C (j := 0) (k' := k + 1) kcl_X7 fl_X7_10 hk.1 (by decide) rfl dX7_add_1 ?_
  refine k_geti C (j := 2) kcl_X5 fl_X7_99 hk.2.1.1 (by decide) rfl dX7_add_4 ?_
  refine k_iconst C (4) dX7_add_7 (by decide) ?_
  refine k_clt C 21 dX7_add_8 (by decide) (fun c8_1 => ?_) (fun c8_1 => ?_)
  ·
    have nc8_1 : m < 4 := (sk_lI (a := m) (b := 4) hm (rfl : ((4) : Int32) = nI 4) (by omega) (by omega)).mp c8_1
    refine k_aloadn C 0 dX7_add_21 rfl ?_
    refine k_getr C (j := 1) (k' := k + 44) kcl_X7 fl_X7_19 hk.1 (by decide) rfl dX7_add_22 ?_
    refine k_aloadn C 0 dX7_add_25 rfl ?_
    refine k_getr C (j := 0) (k' := k + 1) kcl_X7 fl_X7_10 hk.1 (by decide) rfl dX7_add_26 ?_
    refine k_vv C (as := [.ref (sk_ad O (k + 1))]) yvX1_remember viX1_remember ml_X7_223 (m_X1_remember l C.2.2.2.1 M (h := k + 44) (f := k + 1) (o := o) (c := c) (hh := hk.2.2.1) (hf := hk.2.1) (ho := ho) (hc := hc) (ho14 := ho14) (hc14 := hc14) (hw := hw) (hap := (by omega))) hk.2.2.1.1 rfl rfl rfl (Nat.le_of_ble_eq_true rfl) (by decide) dX7_add_29 (fun M29_2 h29_2 => ?_)
    rw [h29_2]
    refine k_aloadn C 0 dX7_add_32 rfl ?_
    refine k_getr C (j := 0) (k' := k + 1) kcl_X7 fl_X7_10 hk.1 (by decide) rfl dX7_add_33 ?_
    refine k_geti C (j := 2) kcl_X5 fl_X7_99 hk.2.1.1 (by decide) rfl dX7_add_36 ?_
    refine k_top (nI m) hm2 ?_
    refine k_istoren C [1, 0] [(0, .ref (sk_ad O k)), (1, .int (nI m))] dX7_add_39 (by decide) rfl ?_
    refine k_aloadn C 0 dX7_add_40 rfl ?_
    refine k_getr C (j := 0) (k' := k + 1) kcl_X7 fl_X7_10 hk.1 (by decide) rfl dX7_add_41 ?_
    refine k_getr C (j := 0) (k' := k + 2) kcl_X5 fl_X7_133 hk.2.1.1 (by decide) rfl dX7_add_44 ?_
    refine k_iloadn C 1 dX7_add_47 rfl ?_
    refine k_aald C (k' := k + 1 + 3 + 10 * m) m ((hk.2.1.2.1).1) (by decide) rfl (by omega) rfl dX7_add_48 ?_
    refine k_vv C (as := []) yvX2_clear viX2_clear ml_X7_227 (m_X2_clear l C.2.2.2.1 (x_re M k o c) (k := k + 1 + 3 + 10 * m) (hk := (hk.2.1.2.1).2 m (by omega))) ((hk.2.1.2.1).2 m (by omega)).1 rfl rfl rfl (Nat.le_of_ble_eq_true rfl) (by decide) dX7_add_49 (fun M49_3 h49_3 => ?_)
    rw [h49_3]
    refine k_aloadn C 0 dX7_add_52 rfl ?_
    refine k_getr C (j := 0) (k' := k + 1) kcl_X7 fl_X7_10 hk.1 (by decide) rfl dX7_add_53 ?_
    refine k_iloadn C 1 dX7_add_56 rfl ?_
    refine k_iconst C (1) dX7_add_57 (by decide) ?_
    refine k_iadd C dX7_add_58 ?_
    refine k_puti C (j := 2) (ty := .int) tyX5 kcl_X5 tyX5_ok nmX5 fl_X7_99 hk.2.1.1 (by decide) rfl rfl (by decide +kernel) rfl rfl dX7_add_59 ?_
    refine k_iloadn C 1 dX7_add_62 rfl ?_
    refine ret _ _ _ _ _ _ (by decide) (by decide) dX7_add_63 rfl ?_
    exact ⟨er1p nc8_1, rfl, rfl⟩
  ·
    have nc8_1 : ¬ (m < 4) := fun h => c8_1 ((sk_lI (a := m) (b := 4) hm (rfl : ((4) : Int32) = nI 4) (by omega) (by omega)).mpr h)
    refine thr "java/lang/IllegalStateException" "there are 4 skaters" 80 221 84 _ _ _ xw_IllegalStateException (by decide +kernel) (by decide) dX7_add_11 dX7_add_14 (Or.inl ⟨dX7_add_15, dX7_add_17, dX7_add_20⟩) ?_
    refine ⟨⟨?_, rfl⟩, rfl⟩
    exact er1n nc8_1

set_option maxHeartbeats 4000000 in
set_option maxRecDepth 100000 in
theorem m_X7_undo (l : Launch) {O : sk_O} (hO : sk_inj O) (M : sk_M) (k : Nat) (hk : sk_isX O k) (o c : Nat) (ho : M (k + 44) 1 = nI o) (hc : M (k + 44) 2 = nI c) (ho14 : o < 14) (hc14 : c ≤ 14) (hwb : c = 0 ∨ st_wf M (hs_at (k + 44) ((o + (c - 1)) % 14))) (hst : l.stackTraces = false) : sk_Xi l yX7_undo (sk_w yX7_undo cX7_undo 1 (some .int)) ({ frames := 6, cells := 1, slots := 6, locals := 145 }) O [.ref (sk_ad O k)] M (fun r M' => (er_1 (0 < c)) = 0 ∧ r = ((if 0 < c then hs_tb M (k + 44) (k + 1) o c else M) (k + 44) 2) ∧ M' = (if 0 < c then hs_tb M (k + 44) (k + 1) o c else M)) (fun E M' => (er_1 (0 < c) = 1 ∧ E = "java/lang/IllegalStateException") ∧ M' = if 0 < c then hs_tb M (k + 44) (k + 1) o c else M) := by
  refine sk_xi hst (by decide) rfl ⟨rfl, rfl⟩ hO (Nat.le_of_ble_eq_true rfl) (fun X A Q C hSr ret thr out => ?_)
  show sk_W l X O A Q 1 0 0 M 0 [(0, .ref (sk_ad O k))] []
  refine k_aloadn C 0 dX7_undo_0 rfl ?_
  refine k_getr C (j := 1) (k' := k + 44) kcl_X7 fl_X7_19 hk.1 (by decide) rfl dX7_undo_1 ?_
  refine k_aloadn C 0 dX7_undo_4 rfl ?_
  refine k_getr C (j := 0) (k' := k + 1) kcl_X7 fl_X7_10 hk.1 (by decide) rfl dX7_undo_5 ?_
  refine k_vi C (as := [.ref (sk_ad O (k + 1))]) yvX1_takeBack viX1_takeBack ml_X7_287 (m_X1_takeBack l C.2.2.2.1 M (h := k + 44) (f := k + 1) (o := o) (c := c) (hh := hk.2.2.1) (hf := hk.2.1) (ho := ho) (hc := hc) (ho14 := ho14) (hc14 := hc14) (hw := hwb)) hk.2.2.1.1 rfl rfl rfl (Nat.le_of_ble_eq_true rfl) (by decide) dX7_undo_8 (fun x8_1 M8_1 h8_1 => ?_)
  rw [h8_1.1, h8_1.2]
  refine k_zne C 25 dX7_undo_11 (by decide) (fun c11_2 => ?_) (fun c11_2 => ?_)
  ·
    have nc11_2 : 0 < c := Classical.byContradiction (fun h => c11_2 (sk_b1.mpr h))
    refine k_aloadn C 0 dX7_undo_25 rfl ?_
    refine k_getr C (j := 1) (k' := k + 44) kcl_X7 fl_X7_19 hk.1 (by decide) rfl dX7_undo_26 ?_
    refine k_geti C (j := 2) kcl_X1 fl_X7_293 hk.2.2.1.1 (by decide) rfl dX7_undo_29 ?_
    refine ret _ _ _ _ _ _ (by decide) (by decide) dX7_undo_32 rfl ?_
    exact ⟨er1p nc11_2, rfl, rfl⟩
  ·
    have nc11_2 : ¬ (0 < c) := sk_b1.mp c11_2
    refine thr "java/lang/IllegalStateException" "no state is remembered" 80 291 84 _ _ _ xw_IllegalStateException (by decide +kernel) (by decide) dX7_undo_14 dX7_undo_17 (Or.inr ⟨dX7_undo_18, dX7_undo_21, dX7_undo_24⟩) ?_
    exact ⟨⟨er1n nc11_2, rfl⟩, rfl⟩

set_option maxHeartbeats 4000000 in
set_option maxRecDepth 100000 in
theorem m_X7_save (l : Launch) {O : sk_O} (hO : sk_inj O) (M : sk_M) (k : Nat) (j : Int32) (hk : sk_isX O k) (hw : st_wf M (k + 1)) (hst : l.stackTraces = false) : sk_Xi l yX7_save (sk_w yX7_save cX7_save 2 (some .int)) ({ frames := 6, cells := 1, slots := 6, locals := 124 }) O [.ref (sk_ad O k), .int j] M (fun r M' => (er_1 (¬ j < 0 ∧ ¬ 2 ≤ j)) = 0 ∧ r = (sk_ms (st_cf M (k + 649 + 43 * j.toNatClampNeg) (k + 1)) (k + 735) j.toNatClampNeg 1 (k + 1) 2) ∧ M' = (sk_ms (st_cf M (k + 649 + 43 * j.toNatClampNeg) (k + 1)) (k + 735) j.toNatClampNeg 1)) (fun E M' => ((er_1 (¬ j < 0 ∧ ¬ 2 ≤ j)) = 1 ∧ E = "java/lang/IndexOutOfBoundsException") ∧ M' = M) := by
  refine sk_xi hst (by decide) rfl ⟨rfl, rfl⟩ hO (Nat.le_of_ble_eq_true rfl) (fun X A Q C hSr ret thr out => ?_)
  show sk_W l X O A Q 2 0 0 M 0 [(0, .ref (sk_ad O k)), (1, .int j)] []
  refine k_iloadn C 1 dX7_save_0 rfl ?_
  refine k_zlt C 9 dX7_save_1 (by decide) (fun c1_1 => ?_) (fun c1_1 => ?_)
  ·
    refine thr "java/lang/IndexOutOfBoundsException" "no such save slot" 126 357 130 _ _ _ xw_IndexOutOfBoundsException (by decide +kernel) (by decide) dX7_save_9 dX7_save_12 (Or.inr ⟨dX7_save_13, dX7_save_16, dX7_save_19⟩) ?_
    refine ⟨⟨?_, rfl⟩, rfl⟩
    exact er1n (fun h => h.1 c1_1)
  ·
    refine k_iloadn C 1 dX7_save_4 rfl ?_
    refine k_iconst C (2) dX7_save_5 (by decide) ?_
    refine k_clt C 20 dX7_save_6 (by decide) (fun c6_2 => ?_) (fun c6_2 => ?_)
    ·
      obtain ⟨jx, jb⟩ := sk_ix (m := 2) ⟨c1_1, Int32.not_le.mpr c6_2⟩ rfl (by omega)
      refine k_aloadn C 0 dX7_save_20 rfl ?_
      refine k_getr C (j := 2) (k' := k + 648) kcl_X7 fl_X7_23 hk.1 (by decide) rfl dX7_save_21 ?_
      refine k_iloadn C 1 dX7_save_24 rfl ?_
      refine k_aald C (k' := k + 649 + 43 * j.toNatClampNeg) j.toNatClampNeg ((hk.2.2.2.1).1) (by decide) jx ⟨jb, by omega⟩ rfl dX7_save_25 ?_
      refine k_aloadn C 0 dX7_save_26 rfl ?_
      refine k_getr C (j := 0) (k' := k + 1) kcl_X7 fl_X7_10 hk.1 (by decide) rfl dX7_save_27 ?_
      refine k_vv C (as := [.ref (sk_ad O (k + 1))]) yvX5_copyFrom viX5_copyFrom ml_X7_332 (m_X5_copyFrom l C.2.2.2.1 M (k := k + 649 + 43 * j.toNatClampNeg) (f := k + 1) (hk := (hk.2.2.2.1).2 j.toNatClampNeg jb) (hf := hk.2.1) (hw := hw)) ((hk.2.2.2.1).2 j.toNatClampNeg jb).1 rfl rfl rfl (Nat.le_of_ble_eq_true rfl) (by decide) dX7_save_30 (fun M30_3 h30_3 => ?_)
      rw [h30_3]
      refine k_aloadn C 0 dX7_save_33 rfl ?_
      refine k_getr C (j := 3) (k' := k + 735) kcl_X7 fl_X7_27 hk.1 (by decide) rfl dX7_save_34 ?_
      refine k_iloadn C 1 dX7_save_37 rfl ?_
      refine k_iconst C (1) dX7_save_38 (by decide) ?_
      refine k_zast C j.toNatClampNeg hk.2.2.2.2.1 jx ⟨jb, by omega⟩ rfl dX7_save_39 ?_
      refine k_aloadn C 0 dX7_save_40 rfl ?_
      refine k_getr C (j := 0) (k' := k + 1) kcl_X7 fl_X7_10 hk.1 (by decide) rfl dX7_save_41 ?_
      refine k_geti C (j := 2) kcl_X5 fl_X7_99 hk.2.1.1 (by decide) rfl dX7_save_44 ?_
      refine k_top ((st_cf M (k + 649 + 43 * j.toNatClampNeg) (k + 1)) (k + 1) 2) (by rw [sk_ne (by omega)]) ?_
      refine ret _ _ _ _ _ _ (by decide) (by decide) dX7_save_47 rfl ?_
      exact ⟨er1p ⟨c1_1, Int32.not_le.mpr c6_2⟩, by first | rfl | (rw [sk_ne (by omega)]), rfl⟩
    ·
      refine thr "java/lang/IndexOutOfBoundsException" "no such save slot" 126 357 130 _ _ _ xw_IndexOutOfBoundsException (by decide +kernel) (by decide) dX7_save_9 dX7_save_12 (Or.inr ⟨dX7_save_13, dX7_save_16, dX7_save_19⟩) ?_
      refine ⟨⟨?_, rfl⟩, rfl⟩
      exact er1n (fun h => h.2 (Int32.not_lt.mp c6_2))

set_option maxHeartbeats 4000000 in
set_option maxRecDepth 100000 in
theorem m_X7_restore (l : Launch) {O : sk_O} (hO : sk_inj O) (M : sk_M) (k : Nat) (j : Int32) (hk : sk_isX O k) (hwj : ¬ j < 0 → ¬ 2 ≤ j → M (k + 735) j.toNatClampNeg = 0 ∨ st_wf M (k + 649 + 43 * j.toNatClampNeg)) (hst : l.stackTraces = false) : sk_Xi l yX7_restore (sk_w yX7_restore cX7_restore 2 (some .int)) ({ frames := 6, cells := 1, slots := 6, locals := 124 }) O [.ref (sk_ad O k), .int j] M (fun r M' => (er_2 (¬ j < 0 ∧ ¬ 2 ≤ j) (¬ M (k + 735) j.toNatClampNeg = 0)) = 0 ∧ r = (sk_ms (st_cf M (k + 1) (k + 649 + 43 * j.toNatClampNeg)) (k + 44) 2 0 (k + 1) 2) ∧ M' = (sk_ms (st_cf M (k + 1) (k + 649 + 43 * j.toNatClampNeg)) (k + 44) 2 0)) (fun E M' => ((er_2 (¬ j < 0 ∧ ¬ 2 ≤ j) (¬ M (k + 735) j.toNatClampNeg = 0)) = 1 ∧ E = "java/lang/IndexOutOfBoundsException" ∨ (er_2 (¬ j < 0 ∧ ¬ 2 ≤ j) (¬ M (k + 735) j.toNatClampNeg = 0)) = 2 ∧ E = "java/lang/IllegalStateException") ∧ M' = M) := by
  refine sk_xi hst (by decide) rfl ⟨rfl, rfl⟩ hO (Nat.le_of_ble_eq_true rfl) (fun X A Q C hSr ret thr out => ?_)
  show sk_W l X O A Q 2 0 0 M 0 [(0, .ref (sk_ad O k)), (1, .int j)] []
  refine k_iloadn C 1 dX7_restore_0 rfl ?_
  refine k_zlt C 9 dX7_restore_1 (by decide) (fun c1_1 => ?_) (fun c1_1 => ?_)
  ·
    refine thr "java/lang/IndexOutOfBoundsException" "no such save slot" 126 357 130 _ _ _ xw_IndexOutOfBoundsException (by decide +kernel) (by decide) dX7_restore_9 dX7_restore_12 (Or.inr ⟨dX7_restore_13, dX7_restore_16, dX7_restore_19⟩) ?_
    refine ⟨Or.inl ⟨?_, rfl⟩, rfl⟩
    exact er2n (fun h => h.1 c1_1)
  ·
    refine k_iloadn C 1 dX7_restore_4 rfl ?_
    refine k_iconst C (2) dX7_restore_5 (by decide) ?_
    refine k_clt C 20 dX7_restore_6 (by decide) (fun c6_2 => ?_) (fun c6_2 => ?_)
    ·
      obtain ⟨jx, jb⟩ := sk_ix (m := 2) ⟨c1_1, Int32.not_le.mpr c6_2⟩ rfl (by omega)
      refine k_aloadn C 0 dX7_restore_20 rfl ?_
      refine k_getr C (j := 3) (k' := k + 735) kcl_X7 fl_X7_27 hk.1 (by decide) rfl dX7_restore_21 ?_
      refine k_iloadn C 1 dX7_restore_24 rfl ?_
      refine k_zaldn C j.toNatClampNeg hk.2.2.2.2.1 jx ⟨jb, by omega⟩ dX7_restore_25 ?_
      refine k_zne C 40 dX7_restore_26 (by decide) (fun c26_3 => ?_) (fun c26_3 => ?_)
      ·
        refine k_aloadn C 0 dX7_restore_40 rfl ?_
        refine k_getr C (j := 0) (k' := k + 1) kcl_X7 fl_X7_10 hk.1 (by decide) rfl dX7_restore_41 ?_
        refine k_aloadn C 0 dX7_restore_44 rfl ?_
        refine k_getr C (j := 2) (k' := k + 648) kcl_X7 fl_X7_23 hk.1 (by decide) rfl dX7_restore_45 ?_
        refine k_iloadn C 1 dX7_restore_48 rfl ?_
        refine k_aald C (k' := k + 649 + 43 * j.toNatClampNeg) j.toNatClampNeg ((hk.2.2.2.1).1) (by decide) jx ⟨jb, by omega⟩ rfl dX7_restore_49 ?_
        refine k_vv C (as := [.ref (sk_ad O (k + 649 + 43 * j.toNatClampNeg))]) yvX5_copyFrom viX5_copyFrom ml_X7_332 (m_X5_copyFrom l C.2.2.2.1 M (k := k + 1) (f := k + 649 + 43 * j.toNatClampNeg) (hk := hk.2.1) (hf := (hk.2.2.2.1).2 j.toNatClampNeg jb) (hw := ((hwj c1_1 (Int32.not_le.mpr c6_2)).resolve_left c26_3))) hk.2.1.1 rfl rfl rfl (Nat.le_of_ble_eq_true rfl) (by decide) dX7_restore_50 (fun M50_4 h50_4 => ?_)
        rw [h50_4]
        refine k_aloadn C 0 dX7_restore_53 rfl ?_
        refine k_getr C (j := 1) (k' := k + 44) kcl_X7 fl_X7_19 hk.1 (by decide) rfl dX7_restore_54 ?_
        refine k_vv C (as := []) yvX1_forget viX1_forget ml_X7_361 (m_X1_forget l C.2.2.2.1 (st_cf M (k + 1) (k + 649 + 43 * j.toNatClampNeg)) (h := k + 44) (hh := hk.2.2.1)) hk.2.2.1.1 rfl rfl rfl (Nat.le_of_ble_eq_true rfl) (by decide) dX7_restore_57 (fun M57_5 h57_5 => ?_)
        rw [h57_5]
        refine k_aloadn C 0 dX7_restore_60 rfl ?_
        refine k_getr C (j := 0) (k' := k + 1) kcl_X7 fl_X7_10 hk.1 (by decide) rfl dX7_restore_61 ?_
        refine k_geti C (j := 2) kcl_X5 fl_X7_99 hk.2.1.1 (by decide) rfl dX7_restore_64 ?_
        refine ret _ _ _ _ _ _ (by decide) (by decide) dX7_restore_67 rfl ?_
        exact ⟨er2p ⟨c1_1, Int32.not_le.mpr c6_2⟩ c26_3, by first | rfl | (rw [sk_ne (by omega)]), rfl⟩
      ·
        refine thr "java/lang/IllegalStateException" "nothing has been saved in the slot" 80 359 84 _ _ _ xw_IllegalStateException (by decide +kernel) (by decide) dX7_restore_29 dX7_restore_32 (Or.inr ⟨dX7_restore_33, dX7_restore_36, dX7_restore_39⟩) ?_
        refine ⟨Or.inr (⟨?_, rfl⟩), rfl⟩
        exact er2m ⟨c1_1, Int32.not_le.mpr c6_2⟩ (fun h => h c26_3)
    ·
      refine thr "java/lang/IndexOutOfBoundsException" "no such save slot" 126 357 130 _ _ _ xw_IndexOutOfBoundsException (by decide +kernel) (by decide) dX7_restore_9 dX7_restore_12 (Or.inr ⟨dX7_restore_13, dX7_restore_16, dX7_restore_19⟩) ?_
      refine ⟨Or.inl ⟨?_, rfl⟩, rfl⟩
      exact er2n (fun h => h.2 (Int32.not_lt.mp c6_2))
