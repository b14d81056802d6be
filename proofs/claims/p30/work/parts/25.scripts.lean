/-! SkateSheet: scripts, simulations -/
theorem k_topl {l : Launch} {X : sk_X} {nL : Nat} {O : sk_O} {A : Nat → Prop} {Q : State → Prop} {kc ks : Nat} {M : sk_M} {pc : Nat} {lv : List (Nat × Value)} {st : List Value} (v : Int64) {x : Int64} (h : x = v) (K : sk_W l X O A Q nL kc ks M pc lv (.long v :: st)) : sk_W l X O A Q nL kc ks M pc lv (.long x :: st) := h ▸ K
def gb_l (x : Int64) : Nat → Int64
  | 0 => x
  | i + 1 => gb_l x i / 100000
def si_x (x : Int64) : Nat → Int64
  | 0 => x
  | i + 1 => si_x x i * 6364136223846793005 + 1442695040888963407
def si_r (x : Int64) : Int32 := ((x.toUInt64 >>> ((33 : Int32).toInt64.toUInt64 &&& Int64.toUInt64 63)).toInt64).toInt32
def si_m (M : sk_M) (k : Nat) (x : Int64) : Nat → sk_M
  | 0 => st_cf M (k + 751) (k + 1)
  | i + 1 => x_tt (si_m M k x i) (k + 751) (si_r (si_x x (i + 1)))
theorem st_cl_g {M : sk_M} {k f : Nat} (hap : k + 43 ≤ f ∨ f + 43 ≤ k) : ∀ (n j : Nat), n ≤ 4 → j < n → st_cl M k f n (k + 3 + 10 * j) 9 = M (f + 3 + 10 * j) 9 ∧ ∀ e, e < 12 → st_cl M k f n (k + 3 + 10 * j + 2) e = M (f + 3 + 10 * j + 2) e
  | 0, j, _, h => absurd h (by omega)
  | n + 1, j, hn, h => by
    by_cases hj : j = n
    · subst hj
      refine ⟨?_, fun e he => ?_⟩
      · show pg_cf _ _ _ _ 9 = _
        rw [pg_cf_9 (by omega), st_cl_f _ (by omega) (by omega)]
      · show pg_cf _ _ _ _ e = _
        rw [pg_cf_2 (by omega) he, st_cl_f _ (by omega) (by omega)]
    · obtain ⟨h1, h2⟩ := st_cl_g (M := M) hap n j (by omega) (by omega)
      refine ⟨?_, fun e he => ?_⟩
      · show pg_cf _ _ _ _ 9 = _
        rw [pg_cf_f (by omega), h1]
      · show pg_cf _ _ _ _ e = _
        rw [pg_cf_f (by omega), h2 e he]
theorem st_wf_cf {M : sk_M} {k f : Nat} (hap : k + 43 ≤ f ∨ f + 43 ≤ k) (hw : st_wf M f) : st_wf (st_cf M k f) k := by
  obtain ⟨m, hm4, hm, hj⟩ := hw
  have hs : st_n M f = m := by rw [st_n, hm, nI_clamp (by omega)]
  refine ⟨m, hm4, ?_, fun j hjm => ?_⟩
  · rw [st_cf, sk_nc (by omega), st_cl_2, hm]
  · obtain ⟨N, h1, h2, h3⟩ := hj j hjm
    obtain ⟨g1, g2⟩ := st_cl_g (M := M) hap m j hm4 hjm
    refine ⟨N, h1, ?_, fun e he => ?_⟩
    · rw [st_cf, hs, sk_nc (by omega), g1, h2]
    · rw [st_cf, hs, sk_nc (by omega), g2 e (by omega)]
      exact h3 e he
theorem st_wf_e {M M' : sk_M} {f : Nat} (h0 : M' f 2 = M f 2) (h : ∀ j, j < 4 → M' (f + 3 + 10 * j) 9 = M (f + 3 + 10 * j) 9 ∧ ∀ e, e < 12 → M' (f + 3 + 10 * j + 2) e = M (f + 3 + 10 * j + 2) e) (hw : st_wf M f) : st_wf M' f := by
  obtain ⟨m, hm4, hm, hj⟩ := hw
  refine ⟨m, hm4, by rw [h0]; exact hm, fun j hj4 => ?_⟩
  obtain ⟨N, h1, h2, h3⟩ := hj j hj4
  obtain ⟨g1, g2⟩ := h j (by omega)
  exact ⟨N, h1, by rw [g1]; exact h2, fun e he => by rw [g2 e (by omega)]; exact h3 e he⟩
theorem st_wf_tt {M : sk_M} {t : Nat} {r : Int32} (hw : st_wf M t) : st_wf (x_tt M t r) t := by
  unfold x_tt
  have key : ∀ (N : sk_M) (P : Prop) [Decidable P], st_wf N t → st_wf (if P then N else M) t := fun N P _ h => st_wf_i h hw
  split
  · exact key _ _ (st_wf_m (d := 9) (by decide) hw)
  · split
    · exact key _ _ (st_wf_m (d := 8) (by decide) hw)
    · split
      · exact key _ _ (st_wf_m (d := 4) (by decide) hw)
      · split
        · exact key _ _ (st_wf_e (sk_ne (by unfold st_pg; omega)) (fun i _ => ⟨sk_ne (by omega), fun e _ => sk_ne (by unfold st_pg; omega)⟩) hw)
        · exact key _ _ (st_wf_m (d := 3) (by decide) hw)
set_option maxHeartbeats 4000000 in
set_option maxRecDepth 100000 in
theorem m_X0_groupsBefore (l : Launch) {O : sk_O} (hO : sk_inj O) (M : sk_M) (n : Nat) (x : Int64) (hn : n < 1000) : sk_Ml l yX0_groupsBefore (sk_w yX0_groupsBefore cX0_groupsBefore 6 (some .long)) ({ frames := 0, cells := 0, slots := 0, locals := 0 }) O [.int (nI n), .long x] M (fun r M' => r = (gb_l x n) ∧ M' = M) := by
  refine sk_ml (by decide) ⟨rfl, rfl⟩ hO (Nat.le_of_ble_eq_true rfl) (fun X A Q C ret => ?_)
  show sk_W l X O A Q 6 0 0 M 0 [(0, .int (nI n)), (1, .long x)] []
  refine k_lloadn C 1 dX0_groupsBefore_0 rfl ?_
  refine k_lstoren C [1, 2, 0] [(0, .int (nI n)), (1, .long x), (3, .long x)] dX0_groupsBefore_1 (by decide) rfl ?_
  refine k_iconst C (0) dX0_groupsBefore_2 (by decide) ?_
  refine k_istore C [1, 2, 3, 0] [(0, .int (nI n)), (1, .long x), (3, .long x), (5, .int (0))] dX0_groupsBefore_3 (by decide) rfl ?_
  have L5 : ∀ i, i ≤ n → sk_W l X O A Q 6 0 0 M 5 [(0, .int (nI n)), (1, .long x), (3, .long (gb_l x i)), (5, .int (nI i))] [] := by
    refine sk_loop n (fun i hi5 ih5 => ?_)
    refine k_iload C 3 dX0_groupsBefore_5 rfl ?_
    refine k_iloadn C 0 dX0_groupsBefore_7 rfl ?_
    refine k_cge C 23 dX0_groupsBefore_8 (by decide) (fun c8_1 => ?_) (fun c8_1 => ?_)
    ·
      have nc8_1 : n ≤ i := (sk_eI (a := n) (b := i) rfl rfl (by omega) (by omega)).mp c8_1
      refine k_lloadn C 2 dX0_groupsBefore_23 rfl ?_
      exact ret _ _ _ _ dX0_groupsBefore_24 (by obtain rfl : i = n := (by omega); exact ⟨rfl, rfl⟩)
    ·
      have nc8_1 : ¬ (n ≤ i) := fun h => c8_1 ((sk_eI (a := n) (b := i) rfl rfl (by omega) (by omega)).mpr h)
      refine k_lloadn C 2 dX0_groupsBefore_11 rfl ?_
      refine k_ldcl C kc_X0_25 dX0_groupsBefore_12 ?_
      refine k_ldiv C dX0_groupsBefore_15 (by decide) ?_
      refine k_lstoren C [1, 2, 0, 3] [(0, .int (nI n)), (1, .long x), (3, .long ((gb_l x i) / (100000))), (5, .int (nI i))] dX0_groupsBefore_16 (by decide) rfl ?_
      refine k_iinc C 3 (nI (i + 1)) [1, 2, 3, 0] [(0, .int (nI n)), (1, .long x), (3, .long ((gb_l x i) / (100000))), (5, .int (nI (i + 1)))] dX0_groupsBefore_17 rfl (nI_add _ _) (by decide) rfl ?_
      refine k_goto C 5 dX0_groupsBefore_20 (by decide) ?_
      exact ih5 (by omega)
  exact L5 0 (Nat.zero_le _)

theorem si_wf {M : sk_M} {k : Nat} {x : Int64} (hw : st_wf M (k + 1)) : ∀ i, st_wf (si_m M k x i) (k + 751)
  | 0 => st_wf_cf (by omega) hw
  | i + 1 => st_wf_tt (si_wf hw i)
theorem x_tt_f {M : sk_M} {t a : Nat} {r : Int32} (h : a < t ∨ t + 43 ≤ a) (hw : st_wf M t) : x_tt M t r a = M a := by
  obtain ⟨m, hm4, hm, -⟩ := hw
  have hb : ∀ s : Int32, st_hs M t s → s.toNatClampNeg < 4 := fun s hs => Nat.lt_of_lt_of_le (sk_ix hs hm (by omega)).2 hm4
  unfold x_tt
  split
  · split
    · have h4 := hb _ (by rename_i q; exact q.1)
      exact sk_nf (by unfold st_pg; omega)
    · rfl
  · split
    · split
      · have h4 := hb _ (by rename_i q; exact q.1.1.1)
        exact sk_nf (by unfold st_pg; omega)
      · rfl
    · split
      · split
        · have h4 := hb _ (by rename_i q; exact q.1)
          exact sk_nf (by unfold st_pg; omega)
        · rfl
      · split
        · split
          · have h4 := hb _ (by rename_i q; exact q)
            exact sk_nf (by unfold st_pg; omega)
          · rfl
        · split
          · have h4 := hb _ (by rename_i q; exact q.1)
            exact sk_nf (by unfold st_pg; omega)
          · rfl
def si_e (M : sk_M) (k : Nat) (x : Int64) (n : Nat) : sk_M := sd_rk (si_m M k x n) (k + 747) (k + 751) (k + 738)
set_option maxHeartbeats 4000000 in
set_option maxRecDepth 100000 in
theorem m_X7_simulate (l : Launch) {O : sk_O} (hO : sk_inj O) (M : sk_M) (k : Nat) (x : Int64) (v : Int32) (hk : sk_isX O k) (hw : st_wf M (k + 1)) (hst : l.stackTraces = false) : sk_Xi l yX7_simulate (sk_w yX7_simulate cX7_simulate 8 (some .int)) ({ frames := 6, cells := 1, slots := 6, locals := 131 }) O [.ref (sk_ad O k), .long x, .int v] M (fun r M' => (er_1 (¬ v < 1 ∧ ¬ 60 < v)) = 0 ∧ r = (sk_sum (si_e M k x v.toNatClampNeg (k + 748)) (st_n (si_m M k x v.toNatClampNeg) (k + 751))) ∧ M' = (si_e M k x v.toNatClampNeg)) (fun E M' => ((er_1 (¬ v < 1 ∧ ¬ 60 < v)) = 1 ∧ E = "java/lang/IllegalArgumentException") ∧ M' = M) := by
  refine sk_xi hst (by decide) rfl ⟨rfl, rfl⟩ hO (Nat.le_of_ble_eq_true rfl) (fun X A Q C hSr ret thr out => ?_)
  show sk_W l X O A Q 8 0 0 M 0 [(0, .ref (sk_ad O k)), (1, .long x), (3, .int v)] []
  refine k_iloadn C 2 dX7_simulate_0 rfl ?_
  refine k_iconst C (1) dX7_simulate_1 (by decide) ?_
  refine k_clt C 11 dX7_simulate_2 (by decide) (fun c2_1 => ?_) (fun c2_1 => ?_)
  ·
    refine thr "java/lang/IllegalArgumentException" "m is not 1 to 60" 69 348 73 _ _ _ xw_IllegalArgumentException (by decide +kernel) (by decide) dX7_simulate_11 dX7_simulate_14 (Or.inr ⟨dX7_simulate_15, dX7_simulate_18, dX7_simulate_21⟩) ?_
    refine ⟨⟨?_, rfl⟩, rfl⟩
    exact er1n (fun h => h.1 c2_1)
  ·
    refine k_iloadn C 2 dX7_simulate_5 rfl ?_
    refine k_bipush C (60) dX7_simulate_6 (by decide) ?_
    refine k_cle C 22 dX7_simulate_8 (by decide) (fun c8_2 => ?_) (fun c8_2 => ?_)
    ·
      obtain ⟨vx, vb⟩ := sk_ix (x := v) (y := 61) (m := 61) ⟨fun h => c2_1 (Int32.lt_of_lt_of_le h (by decide)), fun h => absurd (Int32.le_trans h c8_2) (by decide)⟩ rfl (by omega)
      obtain ⟨m, hm4, hm, hmj⟩ := si_wf (x := x) hw v.toNatClampNeg
      have hsn : st_n (si_m M k x v.toNatClampNeg) (k + 751) = m := by rw [st_n, hm, nI_clamp (by omega)]
      have hm9 : si_e M k x v.toNatClampNeg (k + 751) 2 = nI m := by rw [si_e, sd_rk_f (by omega) (by omega)]; exact hm
      refine k_aloadn C 0 dX7_simulate_22 rfl ?_
      refine k_getr C (j := 8) (k' := k + 751) kcl_X7 fl_X7_59 hk.1 (by decide) rfl dX7_simulate_23 ?_
      refine k_aloadn C 0 dX7_simulate_26 rfl ?_
      refine k_getr C (j := 0) (k' := k + 1) kcl_X7 fl_X7_10 hk.1 (by decide) rfl dX7_simulate_27 ?_
      refine k_vv C (as := [.ref (sk_ad O (k + 1))]) yvX5_copyFrom viX5_copyFrom ml_X7_332 (m_X5_copyFrom l C.2.2.2.1 M (k := k + 751) (f := k + 1) (hk := hk.2.2.2.2.2.2.2.2.2.1) (hf := hk.2.1) (hw := hw)) hk.2.2.2.2.2.2.2.2.2.1.1 rfl rfl rfl (Nat.le_of_ble_eq_true rfl) (by decide) dX7_simulate_30 (fun M30_3 h30_3 => ?_)
      rw [h30_3]
      refine k_lloadn C 1 dX7_simulate_33 rfl ?_
      refine k_lstore C [1, 2, 3, 0] [(0, .ref (sk_ad O k)), (1, .long x), (3, .int v), (4, .long x)] dX7_simulate_34 (by decide) rfl ?_
      refine k_iconst C (0) dX7_simulate_36 (by decide) ?_
      refine k_istore C [1, 2, 3, 4, 0] [(0, .ref (sk_ad O k)), (1, .long x), (3, .int v), (4, .long x), (6, .int (0))] dX7_simulate_37 (by decide) rfl ?_
      have L39 : ∀ i, i ≤ v.toNatClampNeg → sk_W l X O A Q 8 0 0 (si_m M k x i) 39 [(0, .ref (sk_ad O k)), (1, .long x), (3, .int v), (4, .long (si_x x i)), (6, .int (nI i))] [] := by
        refine sk_loop v.toNatClampNeg (fun i hi39 ih39 => ?_)
        refine k_iload C 4 dX7_simulate_39 rfl ?_
        refine k_iloadn C 2 dX7_simulate_41 rfl ?_
        refine k_cge C 73 dX7_simulate_42 (by decide) (fun c42_4 => ?_) (fun c42_4 => ?_)
        ·
          have nc42_4 : v.toNatClampNeg ≤ i := (sk_eI (a := v.toNatClampNeg) (b := i) vx rfl (by omega) (by omega)).mp c42_4
          obtain rfl : v.toNatClampNeg = i := (by have := nc42_4; omega)
          refine k_aloadn C 0 dX7_simulate_73 rfl ?_
          refine k_getr C (j := 6) (k' := k + 747) kcl_X7 fl_X7_48 hk.1 (by decide) rfl dX7_simulate_74 ?_
          refine k_aloadn C 0 dX7_simulate_77 rfl ?_
          refine k_getr C (j := 8) (k' := k + 751) kcl_X7 fl_X7_59 hk.1 (by decide) rfl dX7_simulate_78 ?_
          refine k_aloadn C 0 dX7_simulate_81 rfl ?_
          refine k_getr C (j := 5) (k' := k + 738) kcl_X7 fl_X7_41 hk.1 (by decide) rfl dX7_simulate_82 ?_
          refine k_vv C (as := [.ref (sk_ad O (k + 751)), .ref (sk_ad O (k + 738))]) yvX4_rank viX4_rank ml_X7_112 (m_X4_rank l C.2.2.2.1 (si_m M k x v.toNatClampNeg) (k := k + 747) (f := k + 751) (c := k + 738) (hk := hk.2.2.2.2.2.2.2.1) (hf := hk.2.2.2.2.2.2.2.2.2.1) (hc := hk.2.2.2.2.2.2.1) (hw := (si_wf hw _)) (hkf := (by omega)) (hcf := (by omega)) (hkc := (by omega))) hk.2.2.2.2.2.2.2.1.1 rfl rfl rfl (Nat.le_of_ble_eq_true rfl) (by decide) dX7_simulate_85 (fun M85_5 h85_5 => ?_)
          rw [show M85_5 = si_e M k x v.toNatClampNeg from h85_5]
          refine k_iconst C (0) dX7_simulate_88 (by decide) ?_
          refine k_istore C [1, 2, 3, 4, 0] [(0, .ref (sk_ad O k)), (1, .long x), (3, .int v), (4, .long (si_x x v.toNatClampNeg)), (6, .int (0))] dX7_simulate_89 (by decide) rfl ?_
          refine k_iconst C (0) dX7_simulate_91 (by decide) ?_
          refine k_istore C [1, 2, 3, 4, 5, 0] [(0, .ref (sk_ad O k)), (1, .long x), (3, .int v), (4, .long (si_x x v.toNatClampNeg)), (6, .int (0)), (7, .int (0))] dX7_simulate_92 (by decide) rfl ?_
          have L94 : ∀ j, j ≤ m → sk_W l X O A Q 8 0 0 (si_e M k x v.toNatClampNeg) 94 [(0, .ref (sk_ad O k)), (1, .long x), (3, .int v), (4, .long (si_x x v.toNatClampNeg)), (6, .int (sk_sum (si_e M k x v.toNatClampNeg (k + 748)) j)), (7, .int (nI j))] [] := by
            refine sk_loop m (fun j hi94 ih94 => ?_)
            refine k_iload C 5 dX7_simulate_94 rfl ?_
            refine k_aloadn C 0 dX7_simulate_96 rfl ?_
            refine k_getr C (j := 8) (k' := k + 751) kcl_X7 fl_X7_59 hk.1 (by decide) rfl dX7_simulate_97 ?_
            refine k_geti C (j := 2) kcl_X5 fl_X7_99 hk.2.2.2.2.2.2.2.2.2.1.1 (by decide) rfl dX7_simulate_100 ?_
            refine k_cge C 127 dX7_simulate_103 (by decide) (fun c103_6 => ?_) (fun c103_6 => ?_)
            ·
              have nc103_6 : m ≤ j := (sk_eI (a := m) (b := j) hm9 rfl (by omega) (by omega)).mp c103_6
              obtain rfl : m = j := (by omega)
              refine k_iload C 4 dX7_simulate_127 rfl ?_
              refine ret _ _ _ _ _ _ (by decide) (by decide) dX7_simulate_129 rfl ?_
              exact ⟨er1p ⟨c2_1, Int32.not_lt.mpr c8_2⟩, by rw [hsn], rfl⟩
            ·
              have nc103_6 : ¬ (m ≤ j) := fun h => c103_6 ((sk_eI (a := m) (b := j) hm9 rfl (by omega) (by omega)).mpr h)
              refine k_iload C 4 dX7_simulate_106 rfl ?_
              refine k_aloadn C 0 dX7_simulate_108 rfl ?_
              refine k_getr C (j := 6) (k' := k + 747) kcl_X7 fl_X7_48 hk.1 (by decide) rfl dX7_simulate_109 ?_
              refine k_getr C (j := 0) (k' := k + 748) kcl_X4 fl_X7_318 hk.2.2.2.2.2.2.2.1.1 (by decide) rfl dX7_simulate_112 ?_
              refine k_iload C 5 dX7_simulate_115 rfl ?_
              refine k_ialdn C j hk.2.2.2.2.2.2.2.1.2.1 rfl (by omega) dX7_simulate_117 ?_
              refine k_iadd C dX7_simulate_118 ?_
              refine k_istore C [1, 2, 3, 4, 0, 5] [(0, .ref (sk_ad O k)), (1, .long x), (3, .int v), (4, .long (si_x x v.toNatClampNeg)), (6, .int ((sk_sum (si_e M k x v.toNatClampNeg (k + 748)) j) + ((si_e M k x v.toNatClampNeg) (k + 748) j))), (7, .int (nI j))] dX7_simulate_119 (by decide) rfl ?_
              refine k_iinc C 5 (nI (j + 1)) [1, 2, 3, 4, 5, 0] [(0, .ref (sk_ad O k)), (1, .long x), (3, .int v), (4, .long (si_x x v.toNatClampNeg)), (6, .int ((sk_sum (si_e M k x v.toNatClampNeg (k + 748)) j) + ((si_e M k x v.toNatClampNeg) (k + 748) j))), (7, .int (nI (j + 1)))] dX7_simulate_121 rfl (nI_add _ _) (by decide) rfl ?_
              refine k_goto C 94 dX7_simulate_124 (by decide) ?_
              exact ih94 (by omega)
          exact L94 0 (Nat.zero_le _)
        ·
          have nc42_4 : ¬ (v.toNatClampNeg ≤ i) := fun h => c42_4 ((sk_eI (a := v.toNatClampNeg) (b := i) vx rfl (by omega) (by omega)).mpr h)
          refine k_lload C 3 dX7_simulate_45 rfl ?_
          refine k_ldcl C kc_X7_350 dX7_simulate_47 ?_
          refine k_lmul C dX7_simulate_50 ?_
          refine k_ldcl C kc_X7_352 dX7_simulate_51 ?_
          refine k_ladd C dX7_simulate_54 ?_
          refine k_topl (si_x x (i + 1)) rfl ?_
          refine k_lstore C [1, 2, 3, 0, 4] [(0, .ref (sk_ad O k)), (1, .long x), (3, .int v), (4, .long (si_x x (i + 1))), (6, .int (nI i))] dX7_simulate_55 (by decide) rfl ?_
          refine k_aloadn C 0 dX7_simulate_57 rfl ?_
          refine k_lload C 3 dX7_simulate_58 rfl ?_
          refine k_bipush C (33) dX7_simulate_60 (by decide) ?_
          refine k_lushr C dX7_simulate_62 ?_
          refine k_l2i C dX7_simulate_63 ?_
          refine k_top (si_r (si_x x (i + 1))) rfl ?_
          refine k_vv C (as := [.int (si_r (si_x x (i + 1)))]) yvX7_takeTurn viX7_takeTurn ml_X7_354 (m_X7_takeTurn l C.2.2.2.1 (si_m M k x i) (k := k) (r := si_r (si_x x (i + 1))) (hk := hk) (hw := (si_wf hw i))) hk.1 rfl rfl rfl (Nat.le_of_ble_eq_true rfl) (by decide) dX7_simulate_64 (fun M64_7 h64_7 => ?_)
          rw [h64_7]
          refine k_iinc C 4 (nI (i + 1)) [1, 2, 3, 4, 0] [(0, .ref (sk_ad O k)), (1, .long x), (3, .int v), (4, .long (si_x x (i + 1))), (6, .int (nI (i + 1)))] dX7_simulate_67 rfl (nI_add _ _) (by decide) rfl ?_
          refine k_goto C 39 dX7_simulate_70 (by decide) ?_
          exact ih39 (by omega)
      exact L39 0 (Nat.zero_le _)
    ·
      refine thr "java/lang/IllegalArgumentException" "m is not 1 to 60" 69 348 73 _ _ _ xw_IllegalArgumentException (by decide +kernel) (by decide) dX7_simulate_11 dX7_simulate_14 (Or.inr ⟨dX7_simulate_15, dX7_simulate_18, dX7_simulate_21⟩) ?_
      refine ⟨⟨?_, rfl⟩, rfl⟩
      exact er1n (fun h => h.2 (Int32.not_le.mp c8_2))
