/-! SkateSheet: scripts -/
def rs_g (y : Int64) : Int32 := (y - y / 100000 * 100000).toInt32
def rs_s (k : Nat) (N : sk_M) (g : Int32) : sk_M := if 5 < cm_read N (k + 750) g (k + 750) 0 then hd_m (cm_read N (k + 750) g) k else ac_m (cm_read N (k + 750) g) (k + 750) (k + 751)
def rs_v (k : Nat) (N : sk_M) (g : Int32) : Int32 := if 5 < cm_read N (k + 750) g (k + 750) 0 then (if hd_p (cm_read N (k + 750) g) k then 1 else 0) else (if ac_p (cm_read N (k + 750) g) (k + 750) (k + 751) then 1 else 0)
def rs_l (M : sk_M) (k n : Nat) (x : Int64) : Nat → sk_M
  | 0 => st_cf M (k + 751) (k + 1)
  | i + 1 => rs_s k (rs_l M k n x i) (rs_g (gb_l x (n - 1 - i)))
abbrev rs_a (M : sk_M) (k n : Nat) (x : Int64) (i : Nat) : Prop := ¬ rs_v k (rs_l M k n x i) (rs_g (gb_l x (n - 1 - i))) = 0
abbrev rs_k (v : Int32) (x : Int64) : Prop := ¬ v < 1 ∧ v ≤ 3 ∧ ¬ x < 0 ∧ gb_l x v.toNatClampNeg = 0
def rs_q (M : sk_M) (k : Nat) (v : Int32) (x : Int64) (r : Int32) (M' : sk_M) : Prop := rs_k v x ∧ ((∃ i, i < v.toNatClampNeg ∧ (∀ j, j < i → rs_a M k v.toNatClampNeg x j) ∧ ¬ rs_a M k v.toNatClampNeg x i ∧ r = nI i ∧ M' = rs_l M k v.toNatClampNeg x (i + 1)) ∨ ((∀ j, j < v.toNatClampNeg → rs_a M k v.toNatClampNeg x j) ∧ r = -1 ∧ M' = rs_l M k v.toNatClampNeg x v.toNatClampNeg))
theorem cm_read_f {M : sk_M} {k a : Nat} {g : Int32} (h : a ≠ k) : cm_read M k g a = M a := by
  unfold cm_read
  rw [sk_nf h, sk_nf h, sk_nf h, sk_nf h, sk_nf h]
theorem st_wf_ac {M : sk_M} {c t : Nat} (hw : st_wf M t) : st_wf (ac_m M c t) t := by
  unfold ac_m
  split
  · split
    · exact hw
    · exact st_wf_i (st_wf_m (d := 4) (by decide) hw) hw
  · split
    · exact st_wf_i (st_wf_m (d := 8) (by decide) hw) hw
    · split
      · split
        · exact hw
        · exact st_wf_i (st_wf_m (d := 5) (by decide) hw) hw
      · split
        · split
          · exact hw
          · exact st_wf_i (st_wf_e (sk_ne (by unfold st_pg; omega)) (fun i _ => ⟨sk_ne (by omega), fun e _ => sk_ne (by unfold st_pg; omega)⟩) hw) hw
        · split
          · exact st_wf_i (st_wf_e (sk_ne (by omega)) (fun i _ => ⟨sk_ne (by omega), fun e _ => sk_ne (by omega)⟩) hw) hw
          · exact hw
theorem st_wf_hd {M : sk_M} {k : Nat} (hw : st_wf M (k + 751)) : st_wf (hd_m M k) (k + 751) := by
  unfold hd_m
  split
  · exact hw
  · split
    · exact hw
    · split
      · exact st_wf_c (fun a h1 h2 => sd_rk_f (by omega) (by omega)) hw
      · exact st_wf_c (fun a h1 h2 => sc_ra_f (by omega)) hw
theorem st_wf_rs {k : Nat} {N : sk_M} {g : Int32} (hw : st_wf N (k + 751)) : st_wf (rs_s k N g) (k + 751) := by
  have h : st_wf (cm_read N (k + 750) g) (k + 751) := st_wf_c (fun a h1 h2 => cm_read_f (by omega)) hw
  unfold rs_s
  split
  · exact st_wf_hd h
  · exact st_wf_ac h
theorem st_wf_rl {M : sk_M} {k n : Nat} {x : Int64} (hw : st_wf M (k + 1)) : ∀ i, st_wf (rs_l M k n x i) (k + 751)
  | 0 => st_wf_cf (by omega) hw
  | i + 1 => st_wf_rs (st_wf_rl hw i)
set_option maxHeartbeats 4000000 in
set_option maxRecDepth 100000 in
theorem m_X7_runScript (l : Launch) {O : sk_O} (hO : sk_inj O) (M : sk_M) (k : Nat) (v : Int32) (x : Int64) (hk : sk_isX O k) (hw : st_wf M (k + 1)) (hst : l.stackTraces = false) : sk_Xi l yX7_runScript (sk_w yX7_runScript cX7_runScript 6 (some .int)) ({ frames := 6, cells := 1, slots := 6, locals := 154 }) O [.ref (sk_ad O k), .int v, .long x] M (rs_q M k v x) (fun E M' => E = "java/lang/IllegalArgumentException" ∧ ¬ rs_k v x ∧ M' = M) := by
  refine sk_xi hst (by decide) rfl ⟨rfl, rfl⟩ hO (Nat.le_of_ble_eq_true rfl) (fun X A Q C hSr ret thr out => ?_)
  show sk_W l X O A Q 6 0 0 M 0 [(0, .ref (sk_ad O k)), (1, .int v), (2, .long x)] []
  refine k_iloadn C 1 dX7_runScript_0 rfl ?_
  refine k_iconst C (1) dX7_runScript_1 (by decide) ?_
  refine k_clt C 10 dX7_runScript_2 (by decide) (fun c2_1 => ?_) (fun c2_1 => ?_)
  ·
    refine thr "java/lang/IllegalArgumentException" "n is not 1 to 3" 69 324 73 _ _ _ xw_IllegalArgumentException (by decide +kernel) (by decide) dX7_runScript_10 dX7_runScript_13 (Or.inr ⟨dX7_runScript_14, dX7_runScript_17, dX7_runScript_20⟩) ?_
    exact ⟨rfl, fun h => h.1 c2_1, rfl⟩
  ·
    refine k_iloadn C 1 dX7_runScript_5 rfl ?_
    refine k_iconst C (3) dX7_runScript_6 (by decide) ?_
    refine k_cle C 21 dX7_runScript_7 (by decide) (fun c7_2 => ?_) (fun c7_2 => ?_)
    ·
      obtain ⟨vx, vb⟩ := sk_ix (x := v) (y := 4) (m := 4) ⟨fun h => c2_1 (Int32.lt_of_lt_of_le h (by decide)), fun h => absurd (Int32.le_trans h c7_2) (by decide)⟩ rfl (by omega)
      have v1 : 1 ≤ v.toNatClampNeg := (by
        have h9 := c2_1
        rw [vx, show (1 : Int32) = nI 1 from rfl, nI_ltI (by omega) (by omega)] at h9
        omega)
      refine k_lloadn C 2 dX7_runScript_21 rfl ?_
      refine k_lconst C (0) dX7_runScript_22 (by decide) ?_
      refine k_lcmp C dX7_runScript_23 ?_
      refine k_zlt C 37 dX7_runScript_24 (by decide) (fun c24_3 => ?_) (fun c24_3 => ?_)
      ·
        refine thr "java/lang/IllegalArgumentException" "script is negative or has too many digits" 69 330 73 _ _ _ xw_IllegalArgumentException (by decide +kernel) (by decide) dX7_runScript_37 dX7_runScript_40 (Or.inr ⟨dX7_runScript_41, dX7_runScript_44, dX7_runScript_47⟩) ?_
        exact ⟨rfl, fun h => h.2.2.1 ((lg_cmp_lt _ _).mp c24_3), rfl⟩
      ·
        refine k_iloadn C 1 dX7_runScript_27 rfl ?_
        refine k_top (nI v.toNatClampNeg) vx ?_
        refine k_lloadn C 2 dX7_runScript_28 rfl ?_
        refine k_sl C (as := [.int (nI v.toNatClampNeg), .long x]) yvX0_groupsBefore vsX0_groupsBefore ml_X7_326 (m_X0_groupsBefore l C.2.2.2.1 M (n := v.toNatClampNeg) (x := x) (hn := (by omega))) rfl rfl (Nat.le_of_ble_eq_true rfl) (by decide) dX7_runScript_29 (fun x29_4 M29_4 h29_4 => ?_)
        rw [h29_4.1, h29_4.2]
        refine k_lconst C (0) dX7_runScript_32 (by decide) ?_
        refine k_lcmp C dX7_runScript_33 ?_
        refine k_zeq C 48 dX7_runScript_34 (by decide) (fun c34_5 => ?_) (fun c34_5 => ?_)
        ·
          have hok : rs_k v x := ⟨c2_1, c7_2, fun h => c24_3 ((lg_cmp_lt _ _).mpr h), (lg_cmp_eq _ _).mp c34_5⟩
          have hwl := st_wf_rl (n := v.toNatClampNeg) (x := x) hw
          refine k_aloadn C 0 dX7_runScript_48 rfl ?_
          refine k_getr C (j := 8) (k' := k + 751) kcl_X7 fl_X7_59 hk.1 (by decide) rfl dX7_runScript_49 ?_
          refine k_aloadn C 0 dX7_runScript_52 rfl ?_
          refine k_getr C (j := 0) (k' := k + 1) kcl_X7 fl_X7_10 hk.1 (by decide) rfl dX7_runScript_53 ?_
          refine k_vv C (as := [.ref (sk_ad O (k + 1))]) yvX5_copyFrom viX5_copyFrom ml_X7_332 (m_X5_copyFrom l C.2.2.2.1 M (k := k + 751) (f := k + 1) (hk := hk.2.2.2.2.2.2.2.2.2.1) (hf := hk.2.1) (hw := hw)) hk.2.2.2.2.2.2.2.2.2.1.1 rfl rfl rfl (Nat.le_of_ble_eq_true rfl) (by decide) dX7_runScript_56 (fun M56_6 h56_6 => ?_)
          rw [h56_6]
          refine k_iconst C (0) dX7_runScript_59 (by decide) ?_
          refine k_istore C [1, 2, 3, 0] [(0, .ref (sk_ad O k)), (1, .int v), (2, .long x), (4, .int (0))] dX7_runScript_60 (by decide) rfl ?_
          have L62 : ∀ i, i ≤ v.toNatClampNeg → (∀ j, j < i → rs_a M k v.toNatClampNeg x j) → sk_W l X O A Q 6 0 0 (rs_l M k v.toNatClampNeg x i) 62 [(0, .ref (sk_ad O k)), (1, .int v), (2, .long x), (4, .int (nI i))] [] := by
            refine sk_loop v.toNatClampNeg (fun i hi62 ih62 => ?_)
            intro hyes
            refine k_iload C 3 dX7_runScript_62 rfl ?_
            refine k_iloadn C 1 dX7_runScript_64 rfl ?_
            refine k_cge C 128 dX7_runScript_65 (by decide) (fun c65_7 => ?_) (fun c65_7 => ?_)
            ·
              have nc65_7 : v.toNatClampNeg ≤ i := (sk_eI (a := v.toNatClampNeg) (b := i) vx rfl (by omega) (by omega)).mp c65_7
              obtain rfl : v.toNatClampNeg = i := (by omega)
              refine k_iconst C (-1) dX7_runScript_128 (by decide) ?_
              refine ret _ _ _ _ _ _ (by decide) (by decide) dX7_runScript_129 rfl ?_
              exact ⟨hok, Or.inr ⟨hyes, rfl, rfl⟩⟩
            ·
              have nc65_7 : ¬ (v.toNatClampNeg ≤ i) := fun h => c65_7 ((sk_eI (a := v.toNatClampNeg) (b := i) vx rfl (by omega) (by omega)).mpr h)
              refine k_aloadn C 0 dX7_runScript_68 rfl ?_
              refine k_getr C (j := 7) (k' := k + 750) kcl_X7 fl_X7_55 hk.1 (by decide) rfl dX7_runScript_69 ?_
              refine k_iloadn C 1 dX7_runScript_72 rfl ?_
              refine k_iconst C (1) dX7_runScript_73 (by decide) ?_
              refine k_isub C dX7_runScript_74 ?_
              refine k_iload C 3 dX7_runScript_75 rfl ?_
              refine k_isub C dX7_runScript_77 ?_
              refine k_top (nI (v.toNatClampNeg - 1 - i)) (sk_nsub (a := v.toNatClampNeg - 1) (b := i) (sk_nsub (a := v.toNatClampNeg) (b := 1) vx rfl (by omega)) rfl (by omega)) ?_
              refine k_lloadn C 2 dX7_runScript_78 rfl ?_
              refine k_sl C (as := [.int (nI (v.toNatClampNeg - 1 - i)), .long x]) yvX0_groupsBefore vsX0_groupsBefore ml_X7_326 (m_X0_groupsBefore l C.2.2.2.1 (rs_l M k v.toNatClampNeg x i) (n := v.toNatClampNeg - 1 - i) (x := x) (hn := (by omega))) rfl rfl (Nat.le_of_ble_eq_true rfl) (by decide) dX7_runScript_79 (fun x79_8 M79_8 h79_8 => ?_)
              rw [h79_8.1, h79_8.2]
              refine k_ldcl C kc_X7_334 dX7_runScript_82 ?_
              refine k_lrem C dX7_runScript_85 (by decide) ?_
              refine k_l2i C dX7_runScript_86 ?_
              refine k_top (rs_g (gb_l x (v.toNatClampNeg - 1 - i))) rfl ?_
              refine k_vv C (as := [.int (rs_g (gb_l x (v.toNatClampNeg - 1 - i)))]) yvX0_read viX0_read ml_X7_336 (m_X0_read l C.2.2.2.1 (rs_l M k v.toNatClampNeg x i) (k := k + 750) (g := rs_g (gb_l x (v.toNatClampNeg - 1 - i))) (hk := hk.2.2.2.2.2.2.2.2.1)) hk.2.2.2.2.2.2.2.2.1 rfl rfl rfl (Nat.le_of_ble_eq_true rfl) (by decide) dX7_runScript_87 (fun M87_9 h87_9 => ?_)
              rw [h87_9]
              refine k_aloadn C 0 dX7_runScript_90 rfl ?_
              refine k_getr C (j := 7) (k' := k + 750) kcl_X7 fl_X7_55 hk.1 (by decide) rfl dX7_runScript_91 ?_
              refine k_geti C (j := 0) kcl_X0 fl_X7_339 hk.2.2.2.2.2.2.2.2.1 (by decide) rfl dX7_runScript_94 ?_
              refine k_iconst C (5) dX7_runScript_97 (by decide) ?_
              have J112 : sk_W l X O A Q 6 0 0 (rs_s k (rs_l M k v.toNatClampNeg x i) (rs_g (gb_l x (v.toNatClampNeg - 1 - i)))) 112 [(0, .ref (sk_ad O k)), (1, .int v), (2, .long x), (4, .int (nI i))] [.int (rs_v k (rs_l M k v.toNatClampNeg x i) (rs_g (gb_l x (v.toNatClampNeg - 1 - i))))] := by
                refine k_istore C [1, 2, 3, 4, 0] [(0, .ref (sk_ad O k)), (1, .int v), (2, .long x), (4, .int (nI i)), (5, .int (rs_v k (rs_l M k v.toNatClampNeg x i) (rs_g (gb_l x (v.toNatClampNeg - 1 - i)))))] dX7_runScript_112 (by decide) rfl ?_
                refine k_iload C 4 dX7_runScript_114 rfl ?_
                refine k_zne C 122 dX7_runScript_116 (by decide) (fun c116_10 => ?_) (fun c116_10 => ?_)
                ·
                  refine k_iinc C 3 (nI (i + 1)) [1, 2, 3, 0, 4] [(0, .ref (sk_ad O k)), (1, .int v), (2, .long x), (4, .int (nI (i + 1))), (5, .int (rs_v k (rs_l M k v.toNatClampNeg x i) (rs_g (gb_l x (v.toNatClampNeg - 1 - i)))))] dX7_runScript_122 rfl (nI_add _ _) (by decide) rfl ?_
                  refine k_goto C 62 dX7_runScript_125 (by decide) ?_
                  refine k_sub [0, 1, 2, 3] (lv' := [(0, .ref (sk_ad O k)), (1, .int v), (2, .long x), (4, .int (nI (i + 1)))]) rfl ?_
                  exact ih62 (by omega) (fun j hj => by
                    rcases Nat.lt_succ_iff_lt_or_eq.mp hj with h | h
                    · exact hyes j h
                    · rw [h]
                      exact c116_10)
                ·
                  refine k_iload C 3 dX7_runScript_119 rfl ?_
                  refine ret _ _ _ _ _ _ (by decide) (by decide) dX7_runScript_121 rfl ?_
                  exact ⟨hok, Or.inl ⟨i, by omega, hyes, fun h => h c116_10, rfl, rfl⟩⟩
              refine k_cgt C 108 dX7_runScript_98 (by decide) (fun c98_11 => ?_) (fun c98_11 => ?_)
              ·
                refine k_aloadn C 0 dX7_runScript_108 rfl ?_
                refine k_vi C (as := []) yvX7_holds viX7_holds ml_X7_345 (m_X7_holds l C.2.2.2.1 (cm_read (rs_l M k v.toNatClampNeg x i) (k + 750) (rs_g (gb_l x (v.toNatClampNeg - 1 - i)))) (k := k) (hk := hk) (hw := (st_wf_c (fun a h1 h2 => cm_read_f (by omega)) (hwl i)))) hk.1 rfl rfl rfl (Nat.le_of_ble_eq_true rfl) (by decide) dX7_runScript_109 (fun x109_12 M109_12 h109_12 => ?_)
                rw [h109_12.1, h109_12.2]
                exact k_eq (by rw [rs_s, if_pos c98_11]) rfl rfl (congrArg (fun z => [Value.int z]) (by rw [rs_v, if_pos c98_11])) J112
              ·
                refine k_aloadn C 0 dX7_runScript_101 rfl ?_
                refine k_vi C (as := []) yvX7_acts viX7_acts ml_X7_342 (m_X7_acts l C.2.2.2.1 (cm_read (rs_l M k v.toNatClampNeg x i) (k + 750) (rs_g (gb_l x (v.toNatClampNeg - 1 - i)))) (k := k) (hk := hk) (hw := (st_wf_c (fun a h1 h2 => cm_read_f (by omega)) (hwl i)))) hk.1 rfl rfl rfl (Nat.le_of_ble_eq_true rfl) (by decide) dX7_runScript_102 (fun x102_13 M102_13 h102_13 => ?_)
                rw [h102_13.1, h102_13.2]
                refine k_goto C 112 dX7_runScript_105 (by decide) ?_
                exact k_eq (by rw [rs_s, if_neg c98_11]) rfl rfl (congrArg (fun z => [Value.int z]) (by rw [rs_v, if_neg c98_11])) J112
          exact L62 0 (Nat.zero_le _) (fun j hj => absurd hj (Nat.not_lt_zero _))
        ·
          refine thr "java/lang/IllegalArgumentException" "script is negative or has too many digits" 69 330 73 _ _ _ xw_IllegalArgumentException (by decide +kernel) (by decide) dX7_runScript_37 dX7_runScript_40 (Or.inr ⟨dX7_runScript_41, dX7_runScript_44, dX7_runScript_47⟩) ?_
          exact ⟨rfl, fun h => c34_5 ((lg_cmp_eq _ _).mpr h.2.2.2), rfl⟩
    ·
      refine thr "java/lang/IllegalArgumentException" "n is not 1 to 3" 69 324 73 _ _ _ xw_IllegalArgumentException (by decide +kernel) (by decide) dX7_runScript_10 dX7_runScript_13 (Or.inr ⟨dX7_runScript_14, dX7_runScript_17, dX7_runScript_20⟩) ?_
      exact ⟨rfl, fun h => c7_2 h.2.1, rfl⟩

