/-! SkateSheet: what is needed -/
def nd_k : Nat → Int32
  | 0 => -15
  | i + 1 => nd_k i + 1
theorem nd_c : ∀ i, i < 32 → ((15 : Int32) < nd_k i ↔ 31 ≤ i) := by decide
def nd_R (M : sk_M) (k : Nat) (s : Int32) : sk_M := sc_ra (x_RK M k) (k + 738) (st_pg (k + 1) s) (k + 3)
def nd_t (M : sk_M) (k : Nat) (s e : Int32) : Int32 := nd_R M k s (k + 738) 14 - nd_R M k s (k + 743) e.toNatClampNeg
def nd_o (M : sk_M) (k : Nat) (s e : Int32) : Int32 := nd_R M k s (k + 738) 14 + nd_R M k s (k + 738) 15 - nd_R M k s (k + 738) 16 - nd_R M k s (k + 743) e.toNatClampNeg
def nd_g (M : sk_M) (k : Nat) (s e : Int32) (i : Nat) : Int32 := sc_gr (nd_k i) (nd_R M k s (k + 742) e.toNatClampNeg)
def nd_l (M : sk_M) (k : Nat) (s e : Int32) : Nat → sk_M
  | 0 => nd_R M k s
  | i + 1 => sk_ms (sk_ms (nd_l M k s e i) (k + 748) s.toNatClampNeg (nd_o M k s e + nd_g M k s e i)) (k + 749) s.toNatClampNeg (nd_t M k s e + nd_g M k s e i)
theorem nd_l_f {M : sk_M} {k a : Nat} {s e : Int32} (h : a ≠ k + 748) (h2 : a ≠ k + 749) (i : Nat) : nd_l M k s e i a = nd_R M k s a := by
  induction i with
  | zero => rfl
  | succ i ih =>
    unfold nd_l
    rw [sk_nf h2, sk_nf h, ih]
def nd_n (M : sk_M) (k : Nat) (s e : Int32) (i : Nat) : Nat := sd_cn (nd_l M k s e (i + 1)) (k + 747) s.toNatClampNeg (st_n M (k + 1))
def nd_q (M : sk_M) (k : Nat) (s e : Int32) (r : Int32) (M' : sk_M) : Prop := st_he M (k + 1) s e ∧ ((∃ i, i < 31 ∧ (∀ j, j < i → ¬ nd_n M k s e j = 0) ∧ nd_n M k s e i = 0 ∧ r = 100 + nd_k i ∧ M' = nd_l M k s e (i + 1)) ∨ ((∀ j, j < 31 → ¬ nd_n M k s e j = 0) ∧ r = -1 ∧ M' = nd_l M k s e 31))
set_option maxHeartbeats 4000000 in
set_option maxRecDepth 100000 in
theorem m_X7_needs (l : Launch) {O : sk_O} (hO : sk_inj O) (M : sk_M) (k : Nat) (s e : Int32) (hk : sk_isX O k) (hw : st_wf M (k + 1)) (hst : l.stackTraces = false) : sk_Xi l yX7_needs (sk_w yX7_needs cX7_needs 8 (some .int)) ({ frames := 6, cells := 1, slots := 6, locals := 131 }) O [.ref (sk_ad O k), .int s, .int e] M (nd_q M k s e) (fun E M' => E = "java/lang/IndexOutOfBoundsException" ∧ ¬ st_he M (k + 1) s e ∧ M' = M) := by
  refine sk_xi hst (by decide) rfl ⟨rfl, rfl⟩ hO (Nat.le_of_ble_eq_true rfl) (fun X A Q C hSr ret thr out => ?_)
  show sk_W l X O A Q 8 0 0 M 0 [(0, .ref (sk_ad O k)), (1, .int s), (2, .int e)] []
  have hw0 := hw
  obtain ⟨m, hm4, hm, hmj⟩ := hw
  have hsn : st_n M (k + 1) = m := by rw [st_n, hm, nI_clamp (by omega)]
  refine k_aloadn C 0 dX7_needs_0 rfl ?_
  refine k_getr C (j := 0) (k' := k + 1) kcl_X7 fl_X7_10 hk.1 (by decide) rfl dX7_needs_1 ?_
  refine k_iloadn C 1 dX7_needs_4 rfl ?_
  refine k_iloadn C 2 dX7_needs_5 rfl ?_
  refine k_vi C (as := [.int s, .int e]) yvX5_hasElement viX5_hasElement ml_X7_166 (m_X5_hasElement l C.2.2.2.1 M (k := k + 1) (hk := hk.2.1) (hw := hw0) (s := s) (e := e)) hk.2.1.1 rfl rfl rfl (Nat.le_of_ble_eq_true rfl) (by decide) dX7_needs_6 (fun x6_1 M6_1 h6_1 => ?_)
  rw [h6_1.1, h6_1.2]
  refine k_zne C 22 dX7_needs_9 (by decide) (fun c9_2 => ?_) (fun c9_2 => ?_)
  ·
    have nc9_2 : st_he M (k + 1) s e := Classical.byContradiction (fun h => c9_2 (sk_b1.mpr h))
    obtain ⟨ix, ib⟩ := sk_ix nc9_2.1 hm (by omega)
    obtain ⟨N, hN12, hN, hNp⟩ := id (hmj _ ib)
    obtain ⟨ex, eb⟩ := sk_ix nc9_2.2 hN (by omega)
    refine k_aloadn C 0 dX7_needs_22 rfl ?_
    refine k_getr C (j := 6) (k' := k + 747) kcl_X7 fl_X7_48 hk.1 (by decide) rfl dX7_needs_23 ?_
    refine k_aloadn C 0 dX7_needs_26 rfl ?_
    refine k_getr C (j := 0) (k' := k + 1) kcl_X7 fl_X7_10 hk.1 (by decide) rfl dX7_needs_27 ?_
    refine k_aloadn C 0 dX7_needs_30 rfl ?_
    refine k_getr C (j := 5) (k' := k + 738) kcl_X7 fl_X7_41 hk.1 (by decide) rfl dX7_needs_31 ?_
    refine k_vv C (as := [.ref (sk_ad O (k + 1)), .ref (sk_ad O (k + 738))]) yvX4_rank viX4_rank ml_X7_112 (m_X4_rank l C.2.2.2.1 M (k := k + 747) (f := k + 1) (c := k + 738) (hk := hk.2.2.2.2.2.2.2.1) (hf := hk.2.1) (hc := hk.2.2.2.2.2.2.1) (hw := hw0) (hkf := (by omega)) (hcf := (by omega)) (hkc := (by omega))) hk.2.2.2.2.2.2.2.1.1 rfl rfl rfl (Nat.le_of_ble_eq_true rfl) (by decide) dX7_needs_34 (fun M34_3 h34_3 => ?_)
    rw [show M34_3 = x_RK M k from h34_3]
    refine k_aloadn C 0 dX7_needs_37 rfl ?_
    refine k_getr C (j := 5) (k' := k + 738) kcl_X7 fl_X7_41 hk.1 (by decide) rfl dX7_needs_38 ?_
    refine k_aloadn C 0 dX7_needs_41 rfl ?_
    refine k_getr C (j := 0) (k' := k + 1) kcl_X7 fl_X7_10 hk.1 (by decide) rfl dX7_needs_42 ?_
    refine k_getr C (j := 0) (k' := k + 2) kcl_X5 fl_X7_133 hk.2.1.1 (by decide) rfl dX7_needs_45 ?_
    refine k_iloadn C 1 dX7_needs_48 rfl ?_
    refine k_aald C (k' := k + 1 + 3 + 10 * s.toNatClampNeg) s.toNatClampNeg ((hk.2.1.2.1).1) (by decide) ix (by omega) rfl dX7_needs_49 ?_
    refine k_aloadn C 0 dX7_needs_50 rfl ?_
    refine k_getr C (j := 0) (k' := k + 1) kcl_X7 fl_X7_10 hk.1 (by decide) rfl dX7_needs_51 ?_
    refine k_getr C (j := 1) (k' := k + 3) kcl_X5 fl_X7_137 hk.2.1.1 (by decide) rfl dX7_needs_54 ?_
    refine k_vv C (as := [.ref (sk_ad O (k + 1 + 3 + 10 * s.toNatClampNeg)), .ref (sk_ad O (k + 3))]) yvX3_rate viX3_rate ml_X7_141 (m_X3_rate l C.2.2.2.1 (x_RK M k) (k := k + 738) (g := k + 1 + 3 + 10 * s.toNatClampNeg) (u := k + 3) (hk := hk.2.2.2.2.2.2.1) (hg := (hk.2.1.2.1).2 s.toNatClampNeg (by omega)) (hu := hk.2.1.2.2) (hw := (pg_wf_c (x_RK_f (by omega)) (x_RK_f (by omega)) (hmj _ ib))) (hap := (by omega)) (hap2 := (by omega))) hk.2.2.2.2.2.2.1.1 rfl rfl rfl (Nat.le_of_ble_eq_true rfl) (by decide) dX7_needs_57 (fun M57_4 h57_4 => ?_)
    rw [show M57_4 = nd_R M k s from h57_4]
    refine k_aloadn C 0 dX7_needs_60 rfl ?_
    refine k_getr C (j := 5) (k' := k + 738) kcl_X7 fl_X7_41 hk.1 (by decide) rfl dX7_needs_61 ?_
    refine k_getr C (j := 3) (k' := k + 742) kcl_X3 fl_X7_311 hk.2.2.2.2.2.2.1.1 (by decide) rfl dX7_needs_64 ?_
    refine k_iloadn C 2 dX7_needs_67 rfl ?_
    refine k_ialdn C e.toNatClampNeg hk.2.2.2.2.2.2.1.2.2.2.2.1 ex (by omega) dX7_needs_68 ?_
    refine k_istoren C [1, 2, 3, 0] [(0, .ref (sk_ad O k)), (1, .int s), (2, .int e), (3, .int ((nd_R M k s) (k + 742) e.toNatClampNeg))] dX7_needs_69 (by decide) rfl ?_
    refine k_aloadn C 0 dX7_needs_70 rfl ?_
    refine k_getr C (j := 5) (k' := k + 738) kcl_X7 fl_X7_41 hk.1 (by decide) rfl dX7_needs_71 ?_
    refine k_geti C (j := 14) kcl_X3 fl_X7_148 hk.2.2.2.2.2.2.1.1 (by decide) rfl dX7_needs_74 ?_
    refine k_aloadn C 0 dX7_needs_77 rfl ?_
    refine k_getr C (j := 5) (k' := k + 738) kcl_X7 fl_X7_41 hk.1 (by decide) rfl dX7_needs_78 ?_
    refine k_getr C (j := 4) (k' := k + 743) kcl_X3 fl_X7_186 hk.2.2.2.2.2.2.1.1 (by decide) rfl dX7_needs_81 ?_
    refine k_iloadn C 2 dX7_needs_84 rfl ?_
    refine k_ialdn C e.toNatClampNeg hk.2.2.2.2.2.2.1.2.2.2.2.2.1 ex (by omega) dX7_needs_85 ?_
    refine k_isub C dX7_needs_86 ?_
    refine k_istore C [1, 2, 3, 4, 0] [(0, .ref (sk_ad O k)), (1, .int s), (2, .int e), (3, .int ((nd_R M k s) (k + 742) e.toNatClampNeg)), (4, .int (((nd_R M k s) (k + 738) 14) - ((nd_R M k s) (k + 743) e.toNatClampNeg)))] dX7_needs_87 (by decide) rfl ?_
    refine k_aloadn C 0 dX7_needs_89 rfl ?_
    refine k_getr C (j := 5) (k' := k + 738) kcl_X7 fl_X7_41 hk.1 (by decide) rfl dX7_needs_90 ?_
    refine k_vi C (as := []) yvX3_total viX3_total ml_X7_157 (m_X3_total l C.2.2.2.1 (nd_R M k s) (k := k + 738) (hk := hk.2.2.2.2.2.2.1)) hk.2.2.2.2.2.2.1.1 rfl rfl rfl (Nat.le_of_ble_eq_true rfl) (by decide) dX7_needs_93 (fun x93_5 M93_5 h93_5 => ?_)
    rw [h93_5.1, h93_5.2]
    refine k_aloadn C 0 dX7_needs_96 rfl ?_
    refine k_getr C (j := 5) (k' := k + 738) kcl_X7 fl_X7_41 hk.1 (by decide) rfl dX7_needs_97 ?_
    refine k_getr C (j := 4) (k' := k + 743) kcl_X3 fl_X7_186 hk.2.2.2.2.2.2.1.1 (by decide) rfl dX7_needs_100 ?_
    refine k_iloadn C 2 dX7_needs_103 rfl ?_
    refine k_ialdn C e.toNatClampNeg hk.2.2.2.2.2.2.1.2.2.2.2.2.1 ex (by omega) dX7_needs_104 ?_
    refine k_isub C dX7_needs_105 ?_
    refine k_istore C [1, 2, 3, 4, 5, 0] [(0, .ref (sk_ad O k)), (1, .int s), (2, .int e), (3, .int ((nd_R M k s) (k + 742) e.toNatClampNeg)), (4, .int (((nd_R M k s) (k + 738) 14) - ((nd_R M k s) (k + 743) e.toNatClampNeg))), (5, .int (((nd_R M k s) (k + 738) 14 + (nd_R M k s) (k + 738) 15 - (nd_R M k s) (k + 738) 16) - ((nd_R M k s) (k + 743) e.toNatClampNeg)))] dX7_needs_106 (by decide) rfl ?_
    refine k_bipush C (-15) dX7_needs_108 (by decide) ?_
    refine k_istore C [1, 2, 3, 4, 5, 6, 0] [(0, .ref (sk_ad O k)), (1, .int s), (2, .int e), (3, .int ((nd_R M k s) (k + 742) e.toNatClampNeg)), (4, .int (((nd_R M k s) (k + 738) 14) - ((nd_R M k s) (k + 743) e.toNatClampNeg))), (5, .int (((nd_R M k s) (k + 738) 14 + (nd_R M k s) (k + 738) 15 - (nd_R M k s) (k + 738) 16) - ((nd_R M k s) (k + 743) e.toNatClampNeg))), (6, .int (-15))] dX7_needs_110 (by decide) rfl ?_
    have L112 : ∀ i, i ≤ 31 → (∀ j, j < i → ¬ nd_n M k s e j = 0) → sk_W l X O A Q 8 0 0 (nd_l M k s e i) 112 [(0, .ref (sk_ad O k)), (1, .int s), (2, .int e), (3, .int ((nd_R M k s) (k + 742) e.toNatClampNeg)), (4, .int (nd_t M k s e)), (5, .int (nd_o M k s e)), (6, .int (nd_k i))] [] := by
      refine sk_loop 31 (fun i hi112 ih112 => ?_)
      intro hno
      refine k_iload C 6 dX7_needs_112 rfl ?_
      refine k_bipush C (15) dX7_needs_114 (by decide) ?_
      refine k_cgt C 178 dX7_needs_116 (by decide) (fun c116_6 => ?_) (fun c116_6 => ?_)
      ·
        have h31 := (nd_c i (by omega)).mp c116_6
        obtain rfl : i = 31 := (by omega)
        refine k_iconst C (-1) dX7_needs_178 (by decide) ?_
        refine ret _ _ _ _ _ _ (by decide) (by decide) dX7_needs_179 rfl ?_
        exact ⟨nc9_2, Or.inr ⟨hno, rfl, rfl⟩⟩
      ·
        have h31 : i < 31 := by
          have h5 : ¬ 31 ≤ i := fun h => c116_6 ((nd_c i (by omega)).mpr h)
          omega
        refine k_iload C 6 dX7_needs_119 rfl ?_
        refine k_iloadn C 3 dX7_needs_121 rfl ?_
        refine k_si C (as := [.int (nd_k i), .int ((nd_R M k s) (k + 742) e.toNatClampNeg)]) yvX3_gradeOf vsX3_gradeOf ml_X7_314 (m_X3_gradeOf l C.2.2.2.1 (nd_l M k s e i) (k := nd_k i) (t := (nd_R M k s) (k + 742) e.toNatClampNeg)) rfl rfl (Nat.le_of_ble_eq_true rfl) (by decide) dX7_needs_122 (fun x122_7 M122_7 h122_7 => ?_)
        rw [h122_7.1, h122_7.2]
        refine k_istore C [1, 2, 3, 4, 5, 6, 7, 0] [(0, .ref (sk_ad O k)), (1, .int s), (2, .int e), (3, .int ((nd_R M k s) (k + 742) e.toNatClampNeg)), (4, .int (nd_t M k s e)), (5, .int (nd_o M k s e)), (6, .int (nd_k i)), (7, .int (sc_gr (nd_k i) ((nd_R M k s) (k + 742) e.toNatClampNeg)))] dX7_needs_125 (by decide) rfl ?_
        refine k_aloadn C 0 dX7_needs_127 rfl ?_
        refine k_getr C (j := 6) (k' := k + 747) kcl_X7 fl_X7_48 hk.1 (by decide) rfl dX7_needs_128 ?_
        refine k_getr C (j := 0) (k' := k + 748) kcl_X4 fl_X7_318 hk.2.2.2.2.2.2.2.1.1 (by decide) rfl dX7_needs_131 ?_
        refine k_iloadn C 1 dX7_needs_134 rfl ?_
        refine k_iload C 5 dX7_needs_135 rfl ?_
        refine k_iload C 7 dX7_needs_137 rfl ?_
        refine k_iadd C dX7_needs_139 ?_
        refine k_iast C s.toNatClampNeg hk.2.2.2.2.2.2.2.1.2.1 ix (by omega) dX7_needs_140 ?_
        refine k_aloadn C 0 dX7_needs_141 rfl ?_
        refine k_getr C (j := 6) (k' := k + 747) kcl_X7 fl_X7_48 hk.1 (by decide) rfl dX7_needs_142 ?_
        refine k_getr C (j := 1) (k' := k + 749) kcl_X4 fl_X7_321 hk.2.2.2.2.2.2.2.1.1 (by decide) rfl dX7_needs_145 ?_
        refine k_iloadn C 1 dX7_needs_148 rfl ?_
        refine k_iload C 4 dX7_needs_149 rfl ?_
        refine k_iload C 7 dX7_needs_151 rfl ?_
        refine k_iadd C dX7_needs_153 ?_
        refine k_iast C s.toNatClampNeg hk.2.2.2.2.2.2.2.1.2.2 ix (by omega) dX7_needs_154 ?_
        refine k_aloadn C 0 dX7_needs_155 rfl ?_
        refine k_getr C (j := 6) (k' := k + 747) kcl_X7 fl_X7_48 hk.1 (by decide) rfl dX7_needs_156 ?_
        refine k_iloadn C 1 dX7_needs_159 rfl ?_
        refine k_top (nI s.toNatClampNeg) ix ?_
        refine k_vi C (as := [.int (nI s.toNatClampNeg)]) yvX4_place viX4_place ml_X7_160 (m_X4_place l C.2.2.2.1 (sk_ms (sk_ms (nd_l M k s e i) (k + 748) s.toNatClampNeg ((nd_o M k s e) + (sc_gr (nd_k i) ((nd_R M k s) (k + 742) e.toNatClampNeg)))) (k + 749) s.toNatClampNeg ((nd_t M k s e) + (sc_gr (nd_k i) ((nd_R M k s) (k + 742) e.toNatClampNeg)))) (k := k + 747) (q := s.toNatClampNeg) (m := st_n M (k + 1)) (hk := hk.2.2.2.2.2.2.2.1) (hm := (by rw [sk_ne (by omega), sk_ne (by omega), nd_l_f (by omega) (by omega), nd_R, sc_ra_f (by omega), x_RK, sd_rk_2 (by omega), hsn, hm])) (hm4 := (by rw [hsn]; exact hm4)) (hq := (by omega))) hk.2.2.2.2.2.2.2.1.1 rfl rfl rfl (Nat.le_of_ble_eq_true rfl) (by decide) dX7_needs_160 (fun x160_8 M160_8 h160_8 => ?_)
        rw [h160_8.1, h160_8.2]
        refine k_zne C 172 dX7_needs_163 (by decide) (fun c163_9 => ?_) (fun c163_9 => ?_)
        ·
          refine k_iinc C 6 (nd_k i + 1) [1, 2, 3, 4, 5, 6, 0, 7] [(0, .ref (sk_ad O k)), (1, .int s), (2, .int e), (3, .int ((nd_R M k s) (k + 742) e.toNatClampNeg)), (4, .int (nd_t M k s e)), (5, .int (nd_o M k s e)), (6, .int (nd_k i + 1)), (7, .int (sc_gr (nd_k i) ((nd_R M k s) (k + 742) e.toNatClampNeg)))] dX7_needs_172 rfl rfl (by decide) rfl ?_
          refine k_goto C 112 dX7_needs_175 (by decide) ?_
          refine k_sub [0, 1, 2, 3, 4, 5, 6] (lv' := [(0, .ref (sk_ad O k)), (1, .int s), (2, .int e), (3, .int ((nd_R M k s) (k + 742) e.toNatClampNeg)), (4, .int (nd_t M k s e)), (5, .int (nd_o M k s e)), (6, .int (nd_k i + 1))]) rfl ?_
          exact ih112 (by omega) (fun j hj => by
            rcases Nat.lt_succ_iff_lt_or_eq.mp hj with h | h
            · exact hno j h
            · rw [h]
              exact fun q => c163_9 (congrArg nI q))
        ·
          refine k_bipush C (100) dX7_needs_166 (by decide) ?_
          refine k_iload C 6 dX7_needs_168 rfl ?_
          refine k_iadd C dX7_needs_170 ?_
          refine ret _ _ _ _ _ _ (by decide) (by decide) dX7_needs_171 rfl ?_
          refine ⟨nc9_2, Or.inl ⟨i, h31, hno, ?_, rfl, rfl⟩⟩
          have hcl := sd_cn_le (nd_l M k s e (i + 1)) (k + 747) s.toNatClampNeg (st_n M (k + 1))
          exact (nI_eq (b := 0) (by have := hcl; show nd_n M k s e i < _; unfold nd_n; omega) (by decide)).mp c163_9
    exact L112 0 (Nat.zero_le _) (fun j hj => absurd hj (Nat.not_lt_zero _))
  ·
    have nc9_2 : ¬ (st_he M (k + 1) s e) := sk_b1.mp c9_2
    refine thr "java/lang/IndexOutOfBoundsException" "no such skater or element" 126 170 130 _ _ _ xw_IndexOutOfBoundsException (by decide +kernel) (by decide) dX7_needs_12 dX7_needs_15 (Or.inl ⟨dX7_needs_16, dX7_needs_18, dX7_needs_21⟩) ?_
    exact ⟨rfl, nc9_2, rfl⟩
