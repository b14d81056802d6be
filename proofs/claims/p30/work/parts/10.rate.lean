/-! Scoring: rate -/
theorem sc_cm_f {M : sk_M} {k a : Nat} {ty : Int32} (h : a < k ∨ k + 9 ≤ a) : sc_cm M k ty a = M a := by
  unfold sc_cm
  split
  · exact sk_nf (by omega)
  · split
    · exact sk_nf (by omega)
    · exact sk_nf (by omega)
theorem sc_rm_f {M : sk_M} {k a : Nat} {x y z : Int32} (h : a < k ∨ k + 9 ≤ a) : sc_rm M k x y z a = M a := by
  unfold sc_rm
  split
  · rfl
  · split
    · rw [sk_nf (by omega), sk_nf (by omega)]
    · rw [sk_nf (by omega)]
theorem sc_om_f {M : sk_M} {k g e q a : Nat} {x y : Int32} (h : a < k ∨ k + 9 ≤ a) : sc_om M k g e q x y a = M a := by
  unfold sc_om
  split
  · rfl
  · split
    · rfl
    · split
      · rfl
      · split
        · rfl
        · exact sc_rm_f h
theorem re_a_f {M : sk_M} {k g u e np a : Nat} (h : a < k ∨ k + 9 ≤ a) : re_a M k g u e np a = M a := by
  unfold re_a
  split
  · rw [sk_nf (by omega), sc_cm_f h]
  · exact sc_cm_f h
theorem re_s_f {N : sk_M} {k g e q a : Nat} {x y z : Int32} (h : a < k ∨ k + 9 ≤ a) : re_s N k g e q x y z a = N a := by
  unfold re_s
  rw [sk_nf (by omega), sk_nf (by omega), sk_nf (by omega), sc_om_f h]
theorem re_l_f {N : sk_M} {k g e a : Nat} {x y z : Int32} (h : a < k ∨ k + 9 ≤ a) (q : Nat) : (re_l k g e x y z N q).1 a = N a := by
  induction q with
  | zero => rfl
  | succ q ih =>
    show re_s _ k g e q x y z a = _
    rw [re_s_f h, ih]
theorem re_h_f {M : sk_M} {k g u e np a : Nat} (h : a < k ∨ k + 9 ≤ a) : re_h M k g u e np a = M a := by
  unfold re_h re_L
  rw [sk_nf (by omega), re_l_f h, re_a_f h]
theorem re_m_f {M : sk_M} {k g u e np a : Nat} (h : a < k ∨ k + 9 ≤ a) : re_m M k g u e np a = M a := by
  unfold re_m re_3
  rw [sk_nf (by omega), sk_nf (by omega), sk_nf (by omega), sk_nf (by omega), re_h_f h]
theorem sc_so_f {M : sk_M} {k a : Nat} (h : a < k ∨ k + 9 ≤ a) : sc_so M k a = M a := by
  unfold sc_so
  rw [sk_nf (by omega), sk_nf (by omega), sk_nf (by omega), sk_nf (by omega), sk_nf (by omega), sk_nf (by omega), sk_nf (by omega), sk_nf (by omega)]
  unfold sk_fm sk_mr
  funext b
  exact if_neg (by omega)
def pg_p (M : sk_M) (g e : Nat) : Nat := (M (g + 2) e).toNatClampNeg
def ra_l (M : sk_M) (k g u : Nat) : Nat → sk_M
  | 0 => sc_so M k
  | e + 1 => sk_ms (sk_ms (re_m (ra_l M k g u e) k g u e (pg_p M g e)) k 14 (re_m (ra_l M k g u e) k g u e (pg_p M g e) k 14 + (re_m (ra_l M k g u e) k g u e (pg_p M g e) (k + 3) e + re_m (ra_l M k g u e) k g u e (pg_p M g e) (k + 5) e))) k 16
      (re_m (ra_l M k g u e) k g u e (pg_p M g e) k 16 + 100 * re_m (ra_l M k g u e) k g u e (pg_p M g e) (g + 4) e)
theorem ra_l_f {M : sk_M} {k g u a : Nat} (h : a < k ∨ k + 9 ≤ a) (e : Nat) : ra_l M k g u e a = M a := by
  induction e with
  | zero => exact sc_so_f h
  | succ e ih =>
    unfold ra_l
    rw [sk_nf (by omega), sk_nf (by omega), re_m_f h, ih]
def ra_e (M : sk_M) (k g u : Nat) : sk_M := ra_l M k g u (pg_n M g)
def sc_ra (M : sk_M) (k g u : Nat) : sk_M := sk_ms (sk_ms (ra_e M k g u) k 16 (ra_e M k g u k 16 + 100 * ra_e M k g u g 10)) k 15 (sc_pc (sk_sum (ra_e M k g u (g + 9)) 3) (ra_e M k g u u 0))
theorem ra_e_f {M : sk_M} {k g u a : Nat} (h : a < k ∨ k + 9 ≤ a) : ra_e M k g u a = M a := ra_l_f h _
theorem sc_ra_f {M : sk_M} {k g u a : Nat} (h : a < k ∨ k + 9 ≤ a) : sc_ra M k g u a = M a := by
  unfold sc_ra
  rw [sk_nf (by omega), sk_nf (by omega), ra_e_f h]
set_option maxHeartbeats 4000000 in
set_option maxRecDepth 100000 in
theorem m_X3_rate (l : Launch) {O : sk_O} (hO : sk_inj O) (M : sk_M) (k g u : Nat) (hk : sk_isK O k) (hg : sk_isP O g) (hu : sk_is O u (0, 5, sk_no)) (hw : pg_wf M g) (hap : u < k ∨ k + 9 ≤ u) (hap2 : g + 10 ≤ k ∨ k + 9 ≤ g) : sk_Mv l yX3_rate (sk_w yX3_rate cX3_rate 5 none) ({ frames := 3, cells := 0, slots := 0, locals := 84 }) O [.ref (sk_ad O k), .ref (sk_ad O g), .ref (sk_ad O u)] M (fun M' => M' = (sc_ra M k g u)) := by
  refine sk_mv (by decide) ⟨rfl, rfl⟩ hO (Nat.le_of_ble_eq_true rfl) (fun X A Q C ret => ?_)
  show sk_W l X O A Q 5 0 0 M 0 [(0, .ref (sk_ad O k)), (1, .ref (sk_ad O g)), (2, .ref (sk_ad O u))] []
  obtain ⟨N, hN12, hN, hNp⟩ := hw
  have hpn : pg_n M g = N := by rw [pg_n, hN, nI_clamp (by omega)]
  refine k_aloadn C 0 dX3_rate_0 rfl ?_
  refine k_vv C (as := []) yvX3_startOver viX3_startOver ml_X3_68 (m_X3_startOver l C.2.2.2.1 M (k := k) (hk := hk)) hk.1 rfl rfl rfl (Nat.le_of_ble_eq_true rfl) (by decide) dX3_rate_1 (fun M1_1 h1_1 => ?_)
  rw [h1_1]
  refine k_iconst C (0) dX3_rate_4 (by decide) ?_
  refine k_istoren C [1, 2, 3, 0] [(0, .ref (sk_ad O k)), (1, .ref (sk_ad O g)), (2, .ref (sk_ad O u)), (3, .int (0))] dX3_rate_5 (by decide) rfl ?_
  have L6 : ∀ i, i ≤ N → sk_W l X O A Q 5 0 0 (ra_l M k g u i) 6 [(0, .ref (sk_ad O k)), (1, .ref (sk_ad O g)), (2, .ref (sk_ad O u)), (3, .int (nI i))] [] := by
    refine sk_loop N (fun i hi6 ih6 => ?_)
    refine k_iloadn C 3 dX3_rate_6 rfl ?_
    refine k_aloadn C 1 dX3_rate_7 rfl ?_
    refine k_geti C (j := 9) kcl_X2 fl_X3_71 hg.1 (by decide) rfl dX3_rate_8 ?_
    refine k_cge C 67 dX3_rate_11 (by decide) (fun c11_2 => ?_) (fun c11_2 => ?_)
    ·
      have nc11_2 : N ≤ i := (sk_eI (a := N) (b := i) (by rw [ra_l_f (by omega), hN]) rfl (by omega) (by omega)).mp c11_2
      obtain rfl : N = i := (by omega)
      refine k_aloadn C 0 dX3_rate_67 rfl ?_
      refine k_dup C dX3_rate_68 rfl ?_
      refine k_geti C (j := 16) kcl_X3 fl_X3_65 hk.1 (by decide) rfl dX3_rate_69 ?_
      refine k_bipush C (100) dX3_rate_72 (by decide) ?_
      refine k_aloadn C 1 dX3_rate_74 rfl ?_
      refine k_geti C (j := 10) kcl_X2 fl_X3_83 hg.1 (by decide) rfl dX3_rate_75 ?_
      refine k_imul C dX3_rate_78 ?_
      refine k_iadd C dX3_rate_79 ?_
      refine k_puti C (j := 16) (ty := .int) tyX3 kcl_X3 tyX3_ok nmX3 fl_X3_65 hk.1 (by decide) rfl rfl (by decide +kernel) rfl rfl dX3_rate_80 ?_
      refine k_iconst C (0) dX3_rate_83 (by decide) ?_
      refine k_istoren C [1, 2, 3, 0] [(0, .ref (sk_ad O k)), (1, .ref (sk_ad O g)), (2, .ref (sk_ad O u)), (3, .int (0))] dX3_rate_84 (by decide) rfl ?_
      refine k_iconst C (0) dX3_rate_85 (by decide) ?_
      refine k_istore C [1, 2, 3, 4, 0] [(0, .ref (sk_ad O k)), (1, .ref (sk_ad O g)), (2, .ref (sk_ad O u)), (3, .int (0)), (4, .int (0))] dX3_rate_86 (by decide) rfl ?_
      have L88 : ∀ j, j ≤ 3 → sk_W l X O A Q 5 0 0 (sk_ms (ra_l M k g u N) k 16 (((ra_l M k g u N) k 16) + ((100) * ((ra_l M k g u N) g 10)))) 88 [(0, .ref (sk_ad O k)), (1, .ref (sk_ad O g)), (2, .ref (sk_ad O u)), (3, .int (sk_sum (ra_l M k g u N (g + 9)) j)), (4, .int (nI j))] [] := by
        refine sk_loop 3 (fun j hi88 ih88 => ?_)
        refine k_iload C 4 dX3_rate_88 rfl ?_
        refine k_iconst C (3) dX3_rate_90 (by decide) ?_
        refine k_cge C 110 dX3_rate_91 (by decide) (fun c91_3 => ?_) (fun c91_3 => ?_)
        ·
          have nc91_3 : 3 ≤ j := (sk_eI (a := 3) (b := j) (rfl : ((3) : Int32) = nI 3) rfl (by omega) (by omega)).mp c91_3
          obtain rfl : 3 = j := (by omega)
          refine k_aloadn C 0 dX3_rate_110 rfl ?_
          refine k_iloadn C 3 dX3_rate_111 rfl ?_
          refine k_aloadn C 2 dX3_rate_112 rfl ?_
          refine k_iconst C (0) dX3_rate_113 (by decide) ?_
          refine k_ialdn C 0 hu (rfl : ((0) : Int32) = nI 0) (by omega) dX3_rate_114 ?_
          refine k_top ((ra_l M k g u N) u 0) (by rw [sk_ne (by omega)]) ?_
          refine k_si C (as := [.int (sk_sum (ra_l M k g u N (g + 9)) 3), .int ((ra_l M k g u N) u 0)]) yvX3_percent vsX3_percent ml_X3_89 (m_X3_percent l C.2.2.2.1 (sk_ms (ra_l M k g u N) k 16 (((ra_l M k g u N) k 16) + ((100) * ((ra_l M k g u N) g 10)))) (x := sk_sum (ra_l M k g u N (g + 9)) 3) (y := (ra_l M k g u N) u 0)) rfl rfl (Nat.le_of_ble_eq_true rfl) (by decide) dX3_rate_115 (fun x115_4 M115_4 h115_4 => ?_)
          rw [h115_4.1, h115_4.2]
          refine k_puti C (j := 15) (ty := .int) tyX3 kcl_X3 tyX3_ok nmX3 fl_X3_93 hk.1 (by decide) rfl rfl (by decide +kernel) rfl rfl dX3_rate_118 ?_
          exact ret _ _ _ dX3_rate_121 (by rw [sc_ra, ra_e, hpn])
        ·
          have nc91_3 : ¬ (3 ≤ j) := fun h => c91_3 ((sk_eI (a := 3) (b := j) (rfl : ((3) : Int32) = nI 3) rfl (by omega) (by omega)).mpr h)
          refine k_iloadn C 3 dX3_rate_94 rfl ?_
          refine k_aloadn C 1 dX3_rate_95 rfl ?_
          refine k_getr C (j := 8) (k' := g + 9) kcl_X2 fl_X3_86 hg.1 (by decide) rfl dX3_rate_96 ?_
          refine k_iload C 4 dX3_rate_99 rfl ?_
          refine k_ialdn C j hg.2.2.2.2.2.2.2.2.2 rfl (by omega) dX3_rate_101 ?_
          refine k_top ((ra_l M k g u N) (g + 9) j) (by rw [sk_ne (by omega)]) ?_
          refine k_iadd C dX3_rate_102 ?_
          refine k_istoren C [1, 2, 3, 0, 4] [(0, .ref (sk_ad O k)), (1, .ref (sk_ad O g)), (2, .ref (sk_ad O u)), (3, .int ((sk_sum (ra_l M k g u N (g + 9)) j) + ((ra_l M k g u N) (g + 9) j))), (4, .int (nI j))] dX3_rate_103 (by decide) rfl ?_
          refine k_iinc C 4 (nI (j + 1)) [1, 2, 3, 4, 0] [(0, .ref (sk_ad O k)), (1, .ref (sk_ad O g)), (2, .ref (sk_ad O u)), (3, .int ((sk_sum (ra_l M k g u N (g + 9)) j) + ((ra_l M k g u N) (g + 9) j))), (4, .int (nI (j + 1)))] dX3_rate_104 rfl (nI_add _ _) (by decide) rfl ?_
          refine k_goto C 88 dX3_rate_107 (by decide) ?_
          exact ih88 (by omega)
      exact L88 0 (Nat.zero_le _)
    ·
      have nc11_2 : ¬ (N ≤ i) := fun h => c11_2 ((sk_eI (a := N) (b := i) (by rw [ra_l_f (by omega), hN]) rfl (by omega) (by omega)).mpr h)
      refine k_aloadn C 0 dX3_rate_14 rfl ?_
      refine k_aloadn C 1 dX3_rate_15 rfl ?_
      refine k_iloadn C 3 dX3_rate_16 rfl ?_
      refine k_aloadn C 2 dX3_rate_17 rfl ?_
      have hpi : ra_l M k g u i (g + 2) i = nI (pg_p M g i) ∧ pg_p M g i ≤ 3 := by
        obtain ⟨p, h3, h4⟩ := hNp i (by omega)
        have h5 : pg_p M g i = p := by rw [pg_p, h4, nI_clamp (by omega)]
        rw [ra_l_f (by omega), h5, h4]
        exact ⟨rfl, h3⟩
      refine k_vv C (as := [.ref (sk_ad O g), .int (nI i), .ref (sk_ad O u)]) yvX3_rateElement viX3_rateElement ml_X3_76 (m_X3_rateElement l C.2.2.2.1 (ra_l M k g u i) (k := k) (g := g) (u := u) (e := i) (np := pg_p M g i) (hk := hk) (hg := hg) (hu := hu) (he := (by omega)) (hp := hpi.1) (hp3 := hpi.2) (hap := hap)) hk.1 rfl rfl rfl (Nat.le_of_ble_eq_true rfl) (by decide) dX3_rate_18 (fun M18_5 h18_5 => ?_)
      rw [h18_5]
      refine k_aloadn C 0 dX3_rate_21 rfl ?_
      refine k_dup C dX3_rate_22 rfl ?_
      refine k_geti C (j := 14) kcl_X3 fl_X3_62 hk.1 (by decide) rfl dX3_rate_23 ?_
      refine k_aloadn C 0 dX3_rate_26 rfl ?_
      refine k_getr C (j := 2) (k' := k + 3) kcl_X3 fl_X3_18 hk.1 (by decide) rfl dX3_rate_27 ?_
      refine k_iloadn C 3 dX3_rate_30 rfl ?_
      refine k_ialdn C i hk.2.2.2.1 rfl (by omega) dX3_rate_31 ?_
      refine k_aloadn C 0 dX3_rate_32 rfl ?_
      refine k_getr C (j := 4) (k' := k + 5) kcl_X3 fl_X3_24 hk.1 (by decide) rfl dX3_rate_33 ?_
      refine k_iloadn C 3 dX3_rate_36 rfl ?_
      refine k_ialdn C i hk.2.2.2.2.2.1 rfl (by omega) dX3_rate_37 ?_
      refine k_iadd C dX3_rate_38 ?_
      refine k_iadd C dX3_rate_39 ?_
      refine k_puti C (j := 14) (ty := .int) tyX3 kcl_X3 tyX3_ok nmX3 fl_X3_62 hk.1 (by decide) rfl rfl (by decide +kernel) rfl rfl dX3_rate_40 ?_
      refine k_aloadn C 0 dX3_rate_43 rfl ?_
      refine k_dup C dX3_rate_44 rfl ?_
      refine k_geti C (j := 16) kcl_X3 fl_X3_65 hk.1 (by decide) rfl dX3_rate_45 ?_
      refine k_top ((re_m (ra_l M k g u i) k g u i (pg_p M g i)) k 16) (by rw [sk_ne (by omega)]) ?_
      refine k_bipush C (100) dX3_rate_48 (by decide) ?_
      refine k_aloadn C 1 dX3_rate_50 rfl ?_
      refine k_getr C (j := 3) (k' := g + 4) kcl_X2 fl_X3_80 hg.1 (by decide) rfl dX3_rate_51 ?_
      refine k_iloadn C 3 dX3_rate_54 rfl ?_
      refine k_ialdn C i hg.2.2.2.2.1 rfl (by omega) dX3_rate_55 ?_
      refine k_top ((re_m (ra_l M k g u i) k g u i (pg_p M g i)) (g + 4) i) (by rw [sk_ne (by omega)]) ?_
      refine k_imul C dX3_rate_56 ?_
      refine k_iadd C dX3_rate_57 ?_
      refine k_puti C (j := 16) (ty := .int) tyX3 kcl_X3 tyX3_ok nmX3 fl_X3_65 hk.1 (by decide) rfl rfl (by decide +kernel) rfl rfl dX3_rate_58 ?_
      refine k_iinc C 3 (nI (i + 1)) [1, 2, 3, 0] [(0, .ref (sk_ad O k)), (1, .ref (sk_ad O g)), (2, .ref (sk_ad O u)), (3, .int (nI (i + 1)))] dX3_rate_61 rfl (nI_add _ _) (by decide) rfl ?_
      refine k_goto C 6 dX3_rate_64 (by decide) ?_
      exact ih6 (by omega)
  exact L6 0 (Nat.zero_le _)
