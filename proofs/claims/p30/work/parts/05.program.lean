/-! Command and Program: contracts -/
abbrev sk_rm (x y : Int32) : Int32 := x - x / y * y
def sk_sum (f : Nat → Int32) : Nat → Int32
  | 0 => 0
  | n + 1 => sk_sum f n + f n
def cm_read (M : sk_M) (k : Nat) (g : Int32) : sk_M := sk_ms (sk_ms (sk_ms (sk_ms (sk_ms M k 0 (g / 10000)) k 1 (sk_rm (g / 1000) 10)) k 2 (sk_rm (g / 100) 10)) k 3 (sk_rm (g / 10) 10)) k 4 (sk_rm g 10)
def pg_wf (M : sk_M) (g : Nat) : Prop := ∃ N : Nat, N ≤ 12 ∧ M g 9 = nI N ∧ ∀ e, e < N → ∃ p : Nat, p ≤ 3 ∧ M (g + 2) e = nI p
def pg_n (M : sk_M) (g : Nat) : Nat := (M g 9).toNatClampNeg
def pg_se (M : sk_M) (k N : Nat) (t : Int32) : sk_M := sk_ms (sk_ms (sk_ms (sk_ms (sk_ms (sk_ms M (k + 1) N t) (k + 2) N 0) (k + 3) N 0) (k + 4) N 0) (k + 5) N 0) k 9 (M k 9 + 1)
def pg_sp (M : sk_M) (k e p : Nat) (a b c : Int32) : sk_M := sk_ms (sk_ms (sk_ms (sk_ms M (k + 6) (3 * e + p) a) (k + 7) (3 * e + p) b) (k + 8) (3 * e + p) c) (k + 2) e (M (k + 2) e + 1)
def pg_ce (M : sk_M) (k f : Nat) : sk_M := sk_cp (sk_cp (sk_cp (sk_cp (sk_cp (sk_cp (sk_cp (sk_cp (sk_mo M f 9 k 9) (f + 1) (k + 1) 12) (f + 2) (k + 2) 12) (f + 3) (k + 3) 12) (f + 4) (k + 4) 12) (f + 5) (k + 5) 12) (f + 6) (k + 6) 36) (f + 7) (k + 7) 36) (f + 8) (k + 8) 36
def pg_cf (M : sk_M) (k f : Nat) : sk_M := sk_mo (sk_cp (pg_ce M k f) (f + 9) (k + 9) 3) f 10 k 10
def pg_t0 (M : sk_M) (k e f i : Nat) : sk_M := sk_mo (sk_mo (sk_mo (sk_mo (sk_mo M (f + 1) i (k + 1) e) (f + 2) i (k + 2) e) (f + 3) i (k + 3) e) (f + 4) i (k + 4) e) (f + 5) i (k + 5) e
def pg_tl (M : sk_M) (k e f i : Nat) : Nat → sk_M
  | 0 => M
  | n + 1 => sk_mo (sk_mo (sk_mo (pg_tl M k e f i n) (f + 6) (3 * i + n) (k + 6) (3 * e + n)) (f + 7) (3 * i + n) (k + 7) (3 * e + n)) (f + 8) (3 * i + n) (k + 8) (3 * e + n)
def pg_te (M : sk_M) (k e f i : Nat) : sk_M := pg_tl (pg_t0 M k e f i) k e f i 3
theorem pg_ce_f {M : sk_M} {k f a : Nat} (h : a < k ∨ k + 10 ≤ a) : pg_ce M k f a = M a := by
  unfold pg_ce
  rw [sk_ncf (by omega), sk_ncf (by omega), sk_ncf (by omega), sk_ncf (by omega), sk_ncf (by omega), sk_ncf (by omega), sk_ncf (by omega), sk_ncf (by omega), sk_nmf (by omega)]
theorem pg_cf_f {M : sk_M} {k f a : Nat} (h : a < k ∨ k + 10 ≤ a) : pg_cf M k f a = M a := by
  unfold pg_cf
  rw [sk_nmf (by omega), sk_ncf (by omega), pg_ce_f h]
theorem pg_tl_f {M : sk_M} {k e f i a : Nat} (h : a < k ∨ k + 10 ≤ a) (n : Nat) : pg_tl M k e f i n a = M a := by
  induction n with
  | zero => rfl
  | succ n ih =>
    unfold pg_tl
    rw [sk_nmf (by omega), sk_nmf (by omega), sk_nmf (by omega), ih]
theorem pg_te_f {M : sk_M} {k e f i a : Nat} (h : a < k ∨ k + 10 ≤ a) : pg_te M k e f i a = M a := by
  unfold pg_te
  rw [pg_tl_f h]
  unfold pg_t0
  rw [sk_nmf (by omega), sk_nmf (by omega), sk_nmf (by omega), sk_nmf (by omega), sk_nmf (by omega)]

set_option maxHeartbeats 4000000 in
set_option maxRecDepth 100000 in
theorem m_X0_read (l : Launch) {O : sk_O} (hO : sk_inj O) (M : sk_M) (k : Nat) (g : Int32) (hk : sk_isC O k) : sk_Mv l yX0_read (sk_w yX0_read cX0_read 2 none) ({ frames := 0, cells := 0, slots := 0, locals := 0 }) O [.ref (sk_ad O k), .int g] M (fun M' => M' = (cm_read M k g)) := by
  refine sk_mv (by decide) ⟨rfl, rfl⟩ hO (Nat.le_of_ble_eq_true rfl) (fun X A Q C ret => ?_)
  show sk_W l X O A Q 2 0 0 M 0 [(0, .ref (sk_ad O k)), (1, .int g)] []
  refine k_aloadn C 0 dX0_read_0 rfl ?_
  refine k_iloadn C 1 dX0_read_1 rfl ?_
  refine k_sipush C (10000) dX0_read_2 (by decide) ?_
  refine k_idiv C dX0_read_5 (by decide) ?_
  refine k_puti C (j := 0) (ty := .int) tyX0 kcl_X0 tyX0_ok nmX0 fl_X0_7 hk (by decide) rfl rfl (by decide +kernel) rfl rfl dX0_read_6 ?_
  refine k_aloadn C 0 dX0_read_9 rfl ?_
  refine k_iloadn C 1 dX0_read_10 rfl ?_
  refine k_sipush C (1000) dX0_read_11 (by decide) ?_
  refine k_idiv C dX0_read_14 (by decide) ?_
  refine k_bipush C (10) dX0_read_15 (by decide) ?_
  refine k_irem C dX0_read_17 (by decide) ?_
  refine k_puti C (j := 1) (ty := .int) tyX0 kcl_X0 tyX0_ok nmX0 fl_X0_13 hk (by decide) rfl rfl (by decide +kernel) rfl rfl dX0_read_18 ?_
  refine k_aloadn C 0 dX0_read_21 rfl ?_
  refine k_iloadn C 1 dX0_read_22 rfl ?_
  refine k_bipush C (100) dX0_read_23 (by decide) ?_
  refine k_idiv C dX0_read_25 (by decide) ?_
  refine k_bipush C (10) dX0_read_26 (by decide) ?_
  refine k_irem C dX0_read_28 (by decide) ?_
  refine k_puti C (j := 2) (ty := .int) tyX0 kcl_X0 tyX0_ok nmX0 fl_X0_16 hk (by decide) rfl rfl (by decide +kernel) rfl rfl dX0_read_29 ?_
  refine k_aloadn C 0 dX0_read_32 rfl ?_
  refine k_iloadn C 1 dX0_read_33 rfl ?_
  refine k_bipush C (10) dX0_read_34 (by decide) ?_
  refine k_idiv C dX0_read_36 (by decide) ?_
  refine k_bipush C (10) dX0_read_37 (by decide) ?_
  refine k_irem C dX0_read_39 (by decide) ?_
  refine k_puti C (j := 3) (ty := .int) tyX0 kcl_X0 tyX0_ok nmX0 fl_X0_19 hk (by decide) rfl rfl (by decide +kernel) rfl rfl dX0_read_40 ?_
  refine k_aloadn C 0 dX0_read_43 rfl ?_
  refine k_iloadn C 1 dX0_read_44 rfl ?_
  refine k_bipush C (10) dX0_read_45 (by decide) ?_
  refine k_irem C dX0_read_47 (by decide) ?_
  refine k_puti C (j := 4) (ty := .int) tyX0 kcl_X0 tyX0_ok nmX0 fl_X0_22 hk (by decide) rfl rfl (by decide +kernel) rfl rfl dX0_read_48 ?_
  exact ret _ _ _ dX0_read_51 (by exact rfl)

set_option maxHeartbeats 4000000 in
set_option maxRecDepth 100000 in
theorem m_X0_middleTwo (l : Launch) {O : sk_O} (hO : sk_inj O) (M : sk_M) (k : Nat) (hk : sk_isC O k) : sk_Mi l yX0_middleTwo (sk_w yX0_middleTwo cX0_middleTwo 1 (some .int)) ({ frames := 0, cells := 0, slots := 0, locals := 0 }) O [.ref (sk_ad O k)] M (fun r M' => r = (10 * M k 2 + M k 3) ∧ M' = M) := by
  refine sk_mi (by decide) ⟨rfl, rfl⟩ hO (Nat.le_of_ble_eq_true rfl) (fun X A Q C ret => ?_)
  show sk_W l X O A Q 1 0 0 M 0 [(0, .ref (sk_ad O k))] []
  refine k_bipush C (10) dX0_middleTwo_0 (by decide) ?_
  refine k_aloadn C 0 dX0_middleTwo_2 rfl ?_
  refine k_geti C (j := 2) kcl_X0 fl_X0_16 hk (by decide) rfl dX0_middleTwo_3 ?_
  refine k_imul C dX0_middleTwo_6 ?_
  refine k_aloadn C 0 dX0_middleTwo_7 rfl ?_
  refine k_geti C (j := 3) kcl_X0 fl_X0_19 hk (by decide) rfl dX0_middleTwo_8 ?_
  refine k_iadd C dX0_middleTwo_11 ?_
  exact ret _ _ _ _ dX0_middleTwo_12 rfl (by exact ⟨rfl, rfl⟩)

set_option maxHeartbeats 4000000 in
set_option maxRecDepth 100000 in
theorem m_X0_lastThree (l : Launch) {O : sk_O} (hO : sk_inj O) (M : sk_M) (k : Nat) (hk : sk_isC O k) : sk_Mi l yX0_lastThree (sk_w yX0_lastThree cX0_lastThree 1 (some .int)) ({ frames := 0, cells := 0, slots := 0, locals := 0 }) O [.ref (sk_ad O k)] M (fun r M' => r = (100 * M k 2 + 10 * M k 3 + M k 4) ∧ M' = M) := by
  refine sk_mi (by decide) ⟨rfl, rfl⟩ hO (Nat.le_of_ble_eq_true rfl) (fun X A Q C ret => ?_)
  show sk_W l X O A Q 1 0 0 M 0 [(0, .ref (sk_ad O k))] []
  refine k_bipush C (100) dX0_lastThree_0 (by decide) ?_
  refine k_aloadn C 0 dX0_lastThree_2 rfl ?_
  refine k_geti C (j := 2) kcl_X0 fl_X0_16 hk (by decide) rfl dX0_lastThree_3 ?_
  refine k_imul C dX0_lastThree_6 ?_
  refine k_bipush C (10) dX0_lastThree_7 (by decide) ?_
  refine k_aloadn C 0 dX0_lastThree_9 rfl ?_
  refine k_geti C (j := 3) kcl_X0 fl_X0_19 hk (by decide) rfl dX0_lastThree_10 ?_
  refine k_imul C dX0_lastThree_13 ?_
  refine k_iadd C dX0_lastThree_14 ?_
  refine k_aloadn C 0 dX0_lastThree_15 rfl ?_
  refine k_geti C (j := 4) kcl_X0 fl_X0_22 hk (by decide) rfl dX0_lastThree_16 ?_
  refine k_iadd C dX0_lastThree_19 ?_
  exact ret _ _ _ _ dX0_lastThree_20 rfl (by exact ⟨rfl, rfl⟩)

set_option maxHeartbeats 4000000 in
set_option maxRecDepth 100000 in
theorem m_X2_fallen (l : Launch) {O : sk_O} (hO : sk_inj O) (M : sk_M) (k : Nat) (hk : sk_isP O k) (hw : pg_wf M k) : sk_Mi l yX2_fallen (sk_w yX2_fallen cX2_fallen 3 (some .int)) ({ frames := 0, cells := 0, slots := 0, locals := 0 }) O [.ref (sk_ad O k)] M (fun r M' => r = (sk_sum (M (k + 4)) (pg_n M k)) ∧ M' = M) := by
  refine sk_mi (by decide) ⟨rfl, rfl⟩ hO (Nat.le_of_ble_eq_true rfl) (fun X A Q C ret => ?_)
  show sk_W l X O A Q 3 0 0 M 0 [(0, .ref (sk_ad O k))] []
  obtain ⟨N, hN2, hN, hNp⟩ := hw
  refine k_iconst C (0) dX2_fallen_0 (by decide) ?_
  refine k_istoren C [1, 0] [(0, .ref (sk_ad O k)), (1, .int (0))] dX2_fallen_1 (by decide) rfl ?_
  refine k_iconst C (0) dX2_fallen_2 (by decide) ?_
  refine k_istoren C [1, 2, 0] [(0, .ref (sk_ad O k)), (1, .int (0)), (2, .int (0))] dX2_fallen_3 (by decide) rfl ?_
  have L4 : ∀ i, i ≤ N → sk_W l X O A Q 3 0 0 M 4 [(0, .ref (sk_ad O k)), (1, .int (sk_sum (M (k + 4)) i)), (2, .int (nI i))] [] := by
    refine sk_loop N (fun i hi4 ih4 => ?_)
    refine k_iloadn C 2 dX2_fallen_4 rfl ?_
    refine k_aloadn C 0 dX2_fallen_5 rfl ?_
    refine k_geti C (j := 9) kcl_X2 fl_X2_39 hk.1 (by decide) rfl dX2_fallen_6 ?_
    refine k_cge C 27 dX2_fallen_9 (by decide) (fun c9_1 => ?_) (fun c9_1 => ?_)
    ·
      have nc9_1 : N ≤ i := (sk_eI (a := N) (b := i) hN rfl (by omega) (by omega)).mp c9_1
      refine k_iloadn C 1 dX2_fallen_27 rfl ?_
      exact ret _ _ _ _ dX2_fallen_28 rfl (by obtain rfl : i = N := (by omega); exact ⟨by rw [pg_n, hN, nI_clamp (by omega)], rfl⟩)
    ·
      have nc9_1 : ¬ (N ≤ i) := fun h => c9_1 ((sk_eI (a := N) (b := i) hN rfl (by omega) (by omega)).mpr h)
      refine k_iloadn C 1 dX2_fallen_12 rfl ?_
      refine k_aloadn C 0 dX2_fallen_13 rfl ?_
      refine k_getr C (j := 3) (k' := k + 4) kcl_X2 fl_X2_21 hk.1 (by decide) rfl dX2_fallen_14 ?_
      refine k_iloadn C 2 dX2_fallen_17 rfl ?_
      refine k_ialdn C i hk.2.2.2.2.1 rfl (by omega) dX2_fallen_18 ?_
      refine k_iadd C dX2_fallen_19 ?_
      refine k_istoren C [1, 0, 2] [(0, .ref (sk_ad O k)), (1, .int ((sk_sum (M (k + 4)) i) + (M (k + 4) i))), (2, .int (nI i))] dX2_fallen_20 (by decide) rfl ?_
      refine k_iinc C 2 (nI (i + 1)) [1, 2, 0] [(0, .ref (sk_ad O k)), (1, .int ((sk_sum (M (k + 4)) i) + (M (k + 4) i))), (2, .int (nI (i + 1)))] dX2_fallen_21 rfl (nI_add _ _) (by decide) rfl ?_
      refine k_goto C 4 dX2_fallen_24 (by decide) ?_
      exact ih4 (by omega)
  exact L4 0 (Nat.zero_le _)

set_option maxHeartbeats 4000000 in
set_option maxRecDepth 100000 in
theorem m_X2_reviewed (l : Launch) {O : sk_O} (hO : sk_inj O) (M : sk_M) (k : Nat) (hk : sk_isP O k) (hw : pg_wf M k) : sk_Mi l yX2_reviewed (sk_w yX2_reviewed cX2_reviewed 3 (some .int)) ({ frames := 0, cells := 0, slots := 0, locals := 0 }) O [.ref (sk_ad O k)] M (fun r M' => r = (sk_sum (M (k + 5)) (pg_n M k)) ∧ M' = M) := by
  refine sk_mi (by decide) ⟨rfl, rfl⟩ hO (Nat.le_of_ble_eq_true rfl) (fun X A Q C ret => ?_)
  show sk_W l X O A Q 3 0 0 M 0 [(0, .ref (sk_ad O k))] []
  obtain ⟨N, hN2, hN, hNp⟩ := hw
  refine k_iconst C (0) dX2_reviewed_0 (by decide) ?_
  refine k_istoren C [1, 0] [(0, .ref (sk_ad O k)), (1, .int (0))] dX2_reviewed_1 (by decide) rfl ?_
  refine k_iconst C (0) dX2_reviewed_2 (by decide) ?_
  refine k_istoren C [1, 2, 0] [(0, .ref (sk_ad O k)), (1, .int (0)), (2, .int (0))] dX2_reviewed_3 (by decide) rfl ?_
  have L4 : ∀ i, i ≤ N → sk_W l X O A Q 3 0 0 M 4 [(0, .ref (sk_ad O k)), (1, .int (sk_sum (M (k + 5)) i)), (2, .int (nI i))] [] := by
    refine sk_loop N (fun i hi4 ih4 => ?_)
    refine k_iloadn C 2 dX2_reviewed_4 rfl ?_
    refine k_aloadn C 0 dX2_reviewed_5 rfl ?_
    refine k_geti C (j := 9) kcl_X2 fl_X2_39 hk.1 (by decide) rfl dX2_reviewed_6 ?_
    refine k_cge C 27 dX2_reviewed_9 (by decide) (fun c9_1 => ?_) (fun c9_1 => ?_)
    ·
      have nc9_1 : N ≤ i := (sk_eI (a := N) (b := i) hN rfl (by omega) (by omega)).mp c9_1
      refine k_iloadn C 1 dX2_reviewed_27 rfl ?_
      exact ret _ _ _ _ dX2_reviewed_28 rfl (by obtain rfl : i = N := (by omega); exact ⟨by rw [pg_n, hN, nI_clamp (by omega)], rfl⟩)
    ·
      have nc9_1 : ¬ (N ≤ i) := fun h => c9_1 ((sk_eI (a := N) (b := i) hN rfl (by omega) (by omega)).mpr h)
      refine k_iloadn C 1 dX2_reviewed_12 rfl ?_
      refine k_aloadn C 0 dX2_reviewed_13 rfl ?_
      refine k_getr C (j := 4) (k' := k + 5) kcl_X2 fl_X2_24 hk.1 (by decide) rfl dX2_reviewed_14 ?_
      refine k_iloadn C 2 dX2_reviewed_17 rfl ?_
      refine k_ialdn C i hk.2.2.2.2.2.1 rfl (by omega) dX2_reviewed_18 ?_
      refine k_iadd C dX2_reviewed_19 ?_
      refine k_istoren C [1, 0, 2] [(0, .ref (sk_ad O k)), (1, .int ((sk_sum (M (k + 5)) i) + (M (k + 5) i))), (2, .int (nI i))] dX2_reviewed_20 (by decide) rfl ?_
      refine k_iinc C 2 (nI (i + 1)) [1, 2, 0] [(0, .ref (sk_ad O k)), (1, .int ((sk_sum (M (k + 5)) i) + (M (k + 5) i))), (2, .int (nI (i + 1)))] dX2_reviewed_21 rfl (nI_add _ _) (by decide) rfl ?_
      refine k_goto C 4 dX2_reviewed_24 (by decide) ?_
      exact ih4 (by omega)
  exact L4 0 (Nat.zero_le _)

set_option maxHeartbeats 4000000 in
set_option maxRecDepth 100000 in
theorem m_X2_hasEdge (l : Launch) {O : sk_O} (hO : sk_inj O) (M : sk_M) (x : Int32) : sk_Mi l yX2_hasEdge (sk_w yX2_hasEdge cX2_hasEdge 1 (some .boolean)) ({ frames := 0, cells := 0, slots := 0, locals := 0 }) O [.int x] M (fun r M' => r = (if x = 3 ∨ x = 4 then 1 else 0) ∧ M' = M) := by
  refine sk_mi (by decide) ⟨rfl, rfl⟩ hO (Nat.le_of_ble_eq_true rfl) (fun X A Q C ret => ?_)
  show sk_W l X O A Q 1 0 0 M 0 [(0, .int x)] []
  refine k_iloadn C 0 dX2_hasEdge_0 rfl ?_
  refine k_iconst C (3) dX2_hasEdge_1 (by decide) ?_
  refine k_ceq C 10 dX2_hasEdge_2 (by decide) (fun c2_1 => ?_) (fun c2_1 => ?_)
  ·
    refine k_iconst C (1) dX2_hasEdge_10 (by decide) ?_
    refine k_goto C 15 dX2_hasEdge_11 (by decide) ?_
    exact ret _ _ _ _ dX2_hasEdge_15 rfl (by simp [*])
  ·
    refine k_iloadn C 0 dX2_hasEdge_5 rfl ?_
    refine k_iconst C (4) dX2_hasEdge_6 (by decide) ?_
    refine k_cne C 14 dX2_hasEdge_7 (by decide) (fun c7_2 => ?_) (fun c7_2 => ?_)
    ·
      refine k_iconst C (0) dX2_hasEdge_14 (by decide) ?_
      exact ret _ _ _ _ dX2_hasEdge_15 rfl (by simp [*])
    ·
      refine k_iconst C (1) dX2_hasEdge_10 (by decide) ?_
      refine k_goto C 15 dX2_hasEdge_11 (by decide) ?_
      exact ret _ _ _ _ dX2_hasEdge_15 rfl (by simp [*])

set_option maxHeartbeats 4000000 in
set_option maxRecDepth 100000 in
theorem m_X2_startElement (l : Launch) {O : sk_O} (hO : sk_inj O) (M : sk_M) (k N : Nat) (t : Int32) (hk : sk_isP O k) (hN : M k 9 = nI N) (hN2 : N < 12) : sk_Mv l yX2_startElement (sk_w yX2_startElement cX2_startElement 2 none) ({ frames := 0, cells := 0, slots := 0, locals := 0 }) O [.ref (sk_ad O k), .int t] M (fun M' => M' = (pg_se M k N t)) := by
  refine sk_mv (by decide) ⟨rfl, rfl⟩ hO (Nat.le_of_ble_eq_true rfl) (fun X A Q C ret => ?_)
  show sk_W l X O A Q 2 0 0 M 0 [(0, .ref (sk_ad O k)), (1, .int t)] []
  refine k_aloadn C 0 dX2_startElement_0 rfl ?_
  refine k_geti C (j := 9) kcl_X2 fl_X2_39 hk.1 (by decide) rfl dX2_startElement_1 ?_
  refine k_bipush C (12) dX2_startElement_4 (by decide) ?_
  refine k_cge C 69 dX2_startElement_6 (by decide) (fun c6_1 => ?_) (fun c6_1 => ?_)
  ·
    have nc6_1 : 12 ≤ N := (sk_eI (a := 12) (b := N) (rfl : ((12) : Int32) = nI 12) hN (by omega) (by omega)).mp c6_1
    omega --done
  ·
    have nc6_1 : ¬ (12 ≤ N) := fun h => c6_1 ((sk_eI (a := 12) (b := N) (rfl : ((12) : Int32) = nI 12) hN (by omega) (by omega)).mpr h)
    refine k_aloadn C 0 dX2_startElement_9 rfl ?_
    refine k_getr C (j := 0) (k' := k + 1) kcl_X2 fl_X2_9 hk.1 (by decide) rfl dX2_startElement_10 ?_
    refine k_aloadn C 0 dX2_startElement_13 rfl ?_
    refine k_geti C (j := 9) kcl_X2 fl_X2_39 hk.1 (by decide) rfl dX2_startElement_14 ?_
    refine k_iloadn C 1 dX2_startElement_17 rfl ?_
    refine k_iast C N hk.2.1 hN (by omega) dX2_startElement_18 ?_
    refine k_aloadn C 0 dX2_startElement_19 rfl ?_
    refine k_getr C (j := 1) (k' := k + 2) kcl_X2 fl_X2_15 hk.1 (by decide) rfl dX2_startElement_20 ?_
    refine k_aloadn C 0 dX2_startElement_23 rfl ?_
    refine k_geti C (j := 9) kcl_X2 fl_X2_39 hk.1 (by decide) rfl dX2_startElement_24 ?_
    refine k_top (M k 9) (by rw [sk_ne (by omega)]) ?_
    refine k_iconst C (0) dX2_startElement_27 (by decide) ?_
    refine k_iast C N hk.2.2.1 hN (by omega) dX2_startElement_28 ?_
    refine k_aloadn C 0 dX2_startElement_29 rfl ?_
    refine k_getr C (j := 2) (k' := k + 3) kcl_X2 fl_X2_18 hk.1 (by decide) rfl dX2_startElement_30 ?_
    refine k_aloadn C 0 dX2_startElement_33 rfl ?_
    refine k_geti C (j := 9) kcl_X2 fl_X2_39 hk.1 (by decide) rfl dX2_startElement_34 ?_
    refine k_top (M k 9) (by rw [sk_ne (by omega), sk_ne (by omega)]) ?_
    refine k_iconst C (0) dX2_startElement_37 (by decide) ?_
    refine k_iast C N hk.2.2.2.1 hN (by omega) dX2_startElement_38 ?_
    refine k_aloadn C 0 dX2_startElement_39 rfl ?_
    refine k_getr C (j := 3) (k' := k + 4) kcl_X2 fl_X2_21 hk.1 (by decide) rfl dX2_startElement_40 ?_
    refine k_aloadn C 0 dX2_startElement_43 rfl ?_
    refine k_geti C (j := 9) kcl_X2 fl_X2_39 hk.1 (by decide) rfl dX2_startElement_44 ?_
    refine k_top (M k 9) (by rw [sk_ne (by omega), sk_ne (by omega), sk_ne (by omega)]) ?_
    refine k_iconst C (0) dX2_startElement_47 (by decide) ?_
    refine k_iast C N hk.2.2.2.2.1 hN (by omega) dX2_startElement_48 ?_
    refine k_aloadn C 0 dX2_startElement_49 rfl ?_
    refine k_getr C (j := 4) (k' := k + 5) kcl_X2 fl_X2_24 hk.1 (by decide) rfl dX2_startElement_50 ?_
    refine k_aloadn C 0 dX2_startElement_53 rfl ?_
    refine k_geti C (j := 9) kcl_X2 fl_X2_39 hk.1 (by decide) rfl dX2_startElement_54 ?_
    refine k_top (M k 9) (by rw [sk_ne (by omega), sk_ne (by omega), sk_ne (by omega), sk_ne (by omega)]) ?_
    refine k_iconst C (0) dX2_startElement_57 (by decide) ?_
    refine k_iast C N hk.2.2.2.2.2.1 hN (by omega) dX2_startElement_58 ?_
    refine k_aloadn C 0 dX2_startElement_59 rfl ?_
    refine k_dup C dX2_startElement_60 rfl ?_
    refine k_geti C (j := 9) kcl_X2 fl_X2_39 hk.1 (by decide) rfl dX2_startElement_61 ?_
    refine k_top (M k 9) (by rw [sk_ne (by omega), sk_ne (by omega), sk_ne (by omega), sk_ne (by omega), sk_ne (by omega)]) ?_
    refine k_iconst C (1) dX2_startElement_64 (by decide) ?_
    refine k_iadd C dX2_startElement_65 ?_
    refine k_puti C (j := 9) (ty := .int) tyX2 kcl_X2 tyX2_ok nmX2 fl_X2_39 hk.1 (by decide) rfl rfl (by decide +kernel) rfl rfl dX2_startElement_66 ?_
    exact ret _ _ _ dX2_startElement_69 (by exact rfl)

set_option maxHeartbeats 4000000 in
set_option maxRecDepth 100000 in
theorem m_X2_startPart (l : Launch) {O : sk_O} (hO : sk_inj O) (M : sk_M) (k e p : Nat) (a b c : Int32) (hk : sk_isP O k) (hN : M k 9 = nI (e + 1)) (hN2 : e < 12) (hp : M (k + 2) e = nI p) (hp3 : p < 3) : sk_Mv l yX2_startPart (sk_w yX2_startPart cX2_startPart 6 none) ({ frames := 0, cells := 0, slots := 0, locals := 0 }) O [.ref (sk_ad O k), .int a, .int b, .int c] M (fun M' => M' = (pg_sp M k e p a b c)) := by
  refine sk_mv (by decide) ⟨rfl, rfl⟩ hO (Nat.le_of_ble_eq_true rfl) (fun X A Q C ret => ?_)
  show sk_W l X O A Q 6 0 0 M 0 [(0, .ref (sk_ad O k)), (1, .int a), (2, .int b), (3, .int c)] []
  refine k_aloadn C 0 dX2_startPart_0 rfl ?_
  refine k_geti C (j := 9) kcl_X2 fl_X2_39 hk.1 (by decide) rfl dX2_startPart_1 ?_
  refine k_iconst C (1) dX2_startPart_4 (by decide) ?_
  refine k_isub C dX2_startPart_5 ?_
  refine k_top (nI e) (sk_nsub (a := e + 1) (b := 1) hN rfl (by omega)) ?_
  refine k_istore C [1, 2, 3, 4, 0] [(0, .ref (sk_ad O k)), (1, .int a), (2, .int b), (3, .int c), (4, .int (nI e))] dX2_startPart_6 (by decide) rfl ?_
  refine k_iload C 4 dX2_startPart_8 rfl ?_
  refine k_zlt C 73 dX2_startPart_10 (by decide) (fun c10_1 => ?_) (fun c10_1 => ?_)
  ·
    have nc10_1 : e < 0 := (sk_lI (a := e) (b := 0) rfl (rfl : ((0) : Int32) = nI 0) (by omega) (by omega)).mp c10_1
    omega --done
  ·
    have nc10_1 : ¬ (e < 0) := fun h => c10_1 ((sk_lI (a := e) (b := 0) rfl (rfl : ((0) : Int32) = nI 0) (by omega) (by omega)).mpr h)
    refine k_aloadn C 0 dX2_startPart_13 rfl ?_
    refine k_getr C (j := 1) (k' := k + 2) kcl_X2 fl_X2_15 hk.1 (by decide) rfl dX2_startPart_14 ?_
    refine k_iload C 4 dX2_startPart_17 rfl ?_
    refine k_ialdn C e hk.2.2.1 rfl (by omega) dX2_startPart_19 ?_
    refine k_iconst C (3) dX2_startPart_20 (by decide) ?_
    refine k_cge C 73 dX2_startPart_21 (by decide) (fun c21_2 => ?_) (fun c21_2 => ?_)
    ·
      have nc21_2 : 3 ≤ p := (sk_eI (a := 3) (b := p) (rfl : ((3) : Int32) = nI 3) hp (by omega) (by omega)).mp c21_2
      omega --done
    ·
      have nc21_2 : ¬ (3 ≤ p) := fun h => c21_2 ((sk_eI (a := 3) (b := p) (rfl : ((3) : Int32) = nI 3) hp (by omega) (by omega)).mpr h)
      refine k_iconst C (3) dX2_startPart_24 (by decide) ?_
      refine k_iload C 4 dX2_startPart_25 rfl ?_
      refine k_imul C dX2_startPart_27 ?_
      refine k_aloadn C 0 dX2_startPart_28 rfl ?_
      refine k_getr C (j := 1) (k' := k + 2) kcl_X2 fl_X2_15 hk.1 (by decide) rfl dX2_startPart_29 ?_
      refine k_iload C 4 dX2_startPart_32 rfl ?_
      refine k_ialdn C e hk.2.2.1 rfl (by omega) dX2_startPart_34 ?_
      refine k_iadd C dX2_startPart_35 ?_
      refine k_istore C [1, 2, 3, 4, 5, 0] [(0, .ref (sk_ad O k)), (1, .int a), (2, .int b), (3, .int c), (4, .int (nI e)), (5, .int (((3) * (nI e)) + (M (k + 2) e)))] dX2_startPart_36 (by decide) rfl ?_
      refine k_aloadn C 0 dX2_startPart_38 rfl ?_
      refine k_getr C (j := 5) (k' := k + 6) kcl_X2 fl_X2_27 hk.1 (by decide) rfl dX2_startPart_39 ?_
      refine k_iload C 5 dX2_startPart_42 rfl ?_
      refine k_iloadn C 1 dX2_startPart_44 rfl ?_
      refine k_iast C (3 * e + p) hk.2.2.2.2.2.2.1 (sk_nadd (sk_nmul (rfl : ((3) : Int32) = nI 3) rfl) hp) (by omega) dX2_startPart_45 ?_
      refine k_aloadn C 0 dX2_startPart_46 rfl ?_
      refine k_getr C (j := 6) (k' := k + 7) kcl_X2 fl_X2_30 hk.1 (by decide) rfl dX2_startPart_47 ?_
      refine k_iload C 5 dX2_startPart_50 rfl ?_
      refine k_iloadn C 2 dX2_startPart_52 rfl ?_
      refine k_iast C (3 * e + p) hk.2.2.2.2.2.2.2.1 (sk_nadd (sk_nmul (rfl : ((3) : Int32) = nI 3) rfl) hp) (by omega) dX2_startPart_53 ?_
      refine k_aloadn C 0 dX2_startPart_54 rfl ?_
      refine k_getr C (j := 7) (k' := k + 8) kcl_X2 fl_X2_33 hk.1 (by decide) rfl dX2_startPart_55 ?_
      refine k_iload C 5 dX2_startPart_58 rfl ?_
      refine k_iloadn C 3 dX2_startPart_60 rfl ?_
      refine k_iast C (3 * e + p) hk.2.2.2.2.2.2.2.2.1 (sk_nadd (sk_nmul (rfl : ((3) : Int32) = nI 3) rfl) hp) (by omega) dX2_startPart_61 ?_
      refine k_aloadn C 0 dX2_startPart_62 rfl ?_
      refine k_getr C (j := 1) (k' := k + 2) kcl_X2 fl_X2_15 hk.1 (by decide) rfl dX2_startPart_63 ?_
      refine k_iload C 4 dX2_startPart_66 rfl ?_
      refine k_dup2 C dX2_startPart_68 rfl rfl ?_
      refine k_ialdn C e hk.2.2.1 rfl (by omega) dX2_startPart_69 ?_
      refine k_top (M (k + 2) e) (by rw [sk_ne (by omega), sk_ne (by omega), sk_ne (by omega)]) ?_
      refine k_iconst C (1) dX2_startPart_70 (by decide) ?_
      refine k_iadd C dX2_startPart_71 ?_
      refine k_iast C e hk.2.2.1 rfl (by omega) dX2_startPart_72 ?_
      exact ret _ _ _ dX2_startPart_73 (by exact rfl)

set_option maxHeartbeats 4000000 in
set_option maxRecDepth 100000 in
theorem m_J7_fill_53178 (l : Launch) {O : sk_O} (hO : sk_inj O) (M : sk_M) (k z : Nat) (v : Int32) (hk : sk_is O k (0, z, sk_no)) (hz : z < 1000) : sk_Mv l yJ7_fill_53178 (sk_w yJ7_fill_53178 cJ7_fill_53178 4 none) ({ frames := 0, cells := 0, slots := 0, locals := 0 }) O [.ref (sk_ad O k), .int v] M (fun M' => M' = (sk_fm M k v z)) := by
  refine sk_mv (by decide) ⟨rfl, rfl⟩ hO (Nat.le_of_ble_eq_true rfl) (fun X A Q C ret => ?_)
  show sk_W l X O A Q 4 0 0 M 0 [(0, .ref (sk_ad O k)), (1, .int v)] []
  refine k_iconst C (0) dJ7_fill_53178_0 (by decide) ?_
  refine k_istoren C [1, 2, 0] [(0, .ref (sk_ad O k)), (1, .int v), (2, .int (0))] dJ7_fill_53178_1 (by decide) rfl ?_
  refine k_aloadn C 0 dJ7_fill_53178_2 rfl ?_
  refine k_alen C hk dJ7_fill_53178_3 ?_
  refine k_istoren C [1, 2, 3, 0] [(0, .ref (sk_ad O k)), (1, .int v), (2, .int (0)), (3, .int (nI z))] dJ7_fill_53178_4 (by decide) rfl ?_
  have L5 : ∀ i, i ≤ z → sk_W l X O A Q 4 0 0 (sk_fm M k v i) 5 [(0, .ref (sk_ad O k)), (1, .int v), (2, .int (nI i)), (3, .int (nI z))] [] := by
    refine sk_loop z (fun i hi5 ih5 => ?_)
    refine k_iloadn C 2 dJ7_fill_53178_5 rfl ?_
    refine k_iloadn C 3 dJ7_fill_53178_6 rfl ?_
    refine k_cge C 20 dJ7_fill_53178_7 (by decide) (fun c7_1 => ?_) (fun c7_1 => ?_)
    ·
      have nc7_1 : z ≤ i := (sk_eI (a := z) (b := i) rfl rfl (by omega) (by omega)).mp c7_1
      exact ret _ _ _ dJ7_fill_53178_20 (by obtain rfl : i = z := (by omega); exact rfl)
    ·
      have nc7_1 : ¬ (z ≤ i) := fun h => c7_1 ((sk_eI (a := z) (b := i) rfl rfl (by omega) (by omega)).mpr h)
      refine k_aloadn C 0 dJ7_fill_53178_10 rfl ?_
      refine k_iloadn C 2 dJ7_fill_53178_11 rfl ?_
      refine k_iloadn C 1 dJ7_fill_53178_12 rfl ?_
      refine k_iast C i hk rfl (by omega) dJ7_fill_53178_13 ?_
      refine k_iinc C 2 (nI (i + 1)) [1, 2, 0, 3] [(0, .ref (sk_ad O k)), (1, .int v), (2, .int (nI (i + 1))), (3, .int (nI z))] dJ7_fill_53178_14 rfl (nI_add _ _) (by decide) rfl ?_
      refine k_goto C 5 dJ7_fill_53178_17 (by decide) ?_
      refine k_eq sk_fm_s rfl rfl rfl (ih5 (by omega))
  refine k_eq sk_fm_0.symm rfl rfl rfl (L5 0 (Nat.zero_le _))

def pg_cl (M : sk_M) (k : Nat) : sk_M := sk_fm (sk_ms (sk_ms M k 9 0) k 10 0) (k + 9) 0 3
set_option maxHeartbeats 4000000 in
set_option maxRecDepth 100000 in
theorem m_X2_clear (l : Launch) {O : sk_O} (hO : sk_inj O) (M : sk_M) (k : Nat) (hk : sk_isP O k) : sk_Mv l yX2_clear (sk_w yX2_clear cX2_clear 1 none) ({ frames := 1, cells := 0, slots := 0, locals := 23 }) O [.ref (sk_ad O k)] M (fun M' => M' = (pg_cl M k)) := by
  refine sk_mv (by decide) ⟨rfl, rfl⟩ hO (Nat.le_of_ble_eq_true rfl) (fun X A Q C ret => ?_)
  show sk_W l X O A Q 1 0 0 M 0 [(0, .ref (sk_ad O k))] []
  refine k_aloadn C 0 dX2_clear_0 rfl ?_
  refine k_iconst C (0) dX2_clear_1 (by decide) ?_
  refine k_puti C (j := 9) (ty := .int) tyX2 kcl_X2 tyX2_ok nmX2 fl_X2_39 hk.1 (by decide) rfl rfl (by decide +kernel) rfl rfl dX2_clear_2 ?_
  refine k_aloadn C 0 dX2_clear_5 rfl ?_
  refine k_iconst C (0) dX2_clear_6 (by decide) ?_
  refine k_puti C (j := 10) (ty := .int) tyX2 kcl_X2 tyX2_ok nmX2 fl_X2_43 hk.1 (by decide) rfl rfl (by decide +kernel) rfl rfl dX2_clear_7 ?_
  refine k_aloadn C 0 dX2_clear_10 rfl ?_
  refine k_getr C (j := 8) (k' := k + 9) kcl_X2 fl_X2_36 hk.1 (by decide) rfl dX2_clear_11 ?_
  refine k_iconst C (0) dX2_clear_14 (by decide) ?_
  refine k_sv C (as := [.ref (sk_ad O (k + 9)), .int (0)]) yvJ7_fill_53178 vsJ7_fill_53178 ml_X2_46 (m_J7_fill_53178 l C.2.2.2.1 (sk_ms (sk_ms M k 9 (0)) k 10 (0)) (k := k + 9) (z := 3) (v := (0)) (hk := hk.2.2.2.2.2.2.2.2.2) (hz := (by omega))) rfl rfl (Nat.le_of_ble_eq_true rfl) (by decide) dX2_clear_15 (fun M15_1 h15_1 => ?_)
  rw [h15_1]
  exact ret _ _ _ dX2_clear_18 (by exact rfl)

set_option maxHeartbeats 4000000 in
set_option maxRecDepth 100000 in
theorem m_X2_copyElements (l : Launch) {O : sk_O} (hO : sk_inj O) (M : sk_M) (k f : Nat) (hk : sk_isP O k) (hf : sk_isP O f) : sk_Mv l yX2_copyElements (sk_w yX2_copyElements cX2_copyElements 2 none) ({ frames := 1, cells := 0, slots := 0, locals := 60 }) O [.ref (sk_ad O k), .ref (sk_ad O f)] M (fun M' => M' = (pg_ce M k f)) := by
  refine sk_mv (by decide) ⟨rfl, rfl⟩ hO (Nat.le_of_ble_eq_true rfl) (fun X A Q C ret => ?_)
  show sk_W l X O A Q 2 0 0 M 0 [(0, .ref (sk_ad O k)), (1, .ref (sk_ad O f))] []
  refine k_aloadn C 0 dX2_copyElements_0 rfl ?_
  refine k_aloadn C 1 dX2_copyElements_1 rfl ?_
  refine k_geti C (j := 9) kcl_X2 fl_X2_39 hf.1 (by decide) rfl dX2_copyElements_2 ?_
  refine k_puti C (j := 9) (ty := .int) tyX2 kcl_X2 tyX2_ok nmX2 fl_X2_39 hk.1 (by decide) rfl rfl (by decide +kernel) rfl rfl dX2_copyElements_5 ?_
  refine k_aloadn C 1 dX2_copyElements_8 rfl ?_
  refine k_getr C (j := 0) (k' := f + 1) kcl_X2 fl_X2_9 hf.1 (by decide) rfl dX2_copyElements_9 ?_
  refine k_iconst C (0) dX2_copyElements_12 (by decide) ?_
  refine k_aloadn C 0 dX2_copyElements_13 rfl ?_
  refine k_getr C (j := 0) (k' := k + 1) kcl_X2 fl_X2_9 hk.1 (by decide) rfl dX2_copyElements_14 ?_
  refine k_iconst C (0) dX2_copyElements_17 (by decide) ?_
  refine k_bipush C (12) dX2_copyElements_18 (by decide) ?_
  refine k_copy C (z0 := 12) (z1 := 12) 12 ml_X2_56 nat_acopy sta_acopy ini_java_lang_System hf.2.1 hk.2.1 (rfl : ((12) : Int32) = nI 12) rfl rfl (by omega) (by decide) dX2_copyElements_20 ?_
  refine k_aloadn C 1 dX2_copyElements_23 rfl ?_
  refine k_getr C (j := 1) (k' := f + 2) kcl_X2 fl_X2_15 hf.1 (by decide) rfl dX2_copyElements_24 ?_
  refine k_iconst C (0) dX2_copyElements_27 (by decide) ?_
  refine k_aloadn C 0 dX2_copyElements_28 rfl ?_
  refine k_getr C (j := 1) (k' := k + 2) kcl_X2 fl_X2_15 hk.1 (by decide) rfl dX2_copyElements_29 ?_
  refine k_iconst C (0) dX2_copyElements_32 (by decide) ?_
  refine k_bipush C (12) dX2_copyElements_33 (by decide) ?_
  refine k_copy C (z0 := 12) (z1 := 12) 12 ml_X2_56 nat_acopy sta_acopy ini_java_lang_System hf.2.2.1 hk.2.2.1 (rfl : ((12) : Int32) = nI 12) rfl rfl (by omega) (by decide) dX2_copyElements_35 ?_
  refine k_aloadn C 1 dX2_copyElements_38 rfl ?_
  refine k_getr C (j := 2) (k' := f + 3) kcl_X2 fl_X2_18 hf.1 (by decide) rfl dX2_copyElements_39 ?_
  refine k_iconst C (0) dX2_copyElements_42 (by decide) ?_
  refine k_aloadn C 0 dX2_copyElements_43 rfl ?_
  refine k_getr C (j := 2) (k' := k + 3) kcl_X2 fl_X2_18 hk.1 (by decide) rfl dX2_copyElements_44 ?_
  refine k_iconst C (0) dX2_copyElements_47 (by decide) ?_
  refine k_bipush C (12) dX2_copyElements_48 (by decide) ?_
  refine k_copy C (z0 := 12) (z1 := 12) 12 ml_X2_56 nat_acopy sta_acopy ini_java_lang_System hf.2.2.2.1 hk.2.2.2.1 (rfl : ((12) : Int32) = nI 12) rfl rfl (by omega) (by decide) dX2_copyElements_50 ?_
  refine k_aloadn C 1 dX2_copyElements_53 rfl ?_
  refine k_getr C (j := 3) (k' := f + 4) kcl_X2 fl_X2_21 hf.1 (by decide) rfl dX2_copyElements_54 ?_
  refine k_iconst C (0) dX2_copyElements_57 (by decide) ?_
  refine k_aloadn C 0 dX2_copyElements_58 rfl ?_
  refine k_getr C (j := 3) (k' := k + 4) kcl_X2 fl_X2_21 hk.1 (by decide) rfl dX2_copyElements_59 ?_
  refine k_iconst C (0) dX2_copyElements_62 (by decide) ?_
  refine k_bipush C (12) dX2_copyElements_63 (by decide) ?_
  refine k_copy C (z0 := 12) (z1 := 12) 12 ml_X2_56 nat_acopy sta_acopy ini_java_lang_System hf.2.2.2.2.1 hk.2.2.2.2.1 (rfl : ((12) : Int32) = nI 12) rfl rfl (by omega) (by decide) dX2_copyElements_65 ?_
  refine k_aloadn C 1 dX2_copyElements_68 rfl ?_
  refine k_getr C (j := 4) (k' := f + 5) kcl_X2 fl_X2_24 hf.1 (by decide) rfl dX2_copyElements_69 ?_
  refine k_iconst C (0) dX2_copyElements_72 (by decide) ?_
  refine k_aloadn C 0 dX2_copyElements_73 rfl ?_
  refine k_getr C (j := 4) (k' := k + 5) kcl_X2 fl_X2_24 hk.1 (by decide) rfl dX2_copyElements_74 ?_
  refine k_iconst C (0) dX2_copyElements_77 (by decide) ?_
  refine k_bipush C (12) dX2_copyElements_78 (by decide) ?_
  refine k_copy C (z0 := 12) (z1 := 12) 12 ml_X2_56 nat_acopy sta_acopy ini_java_lang_System hf.2.2.2.2.2.1 hk.2.2.2.2.2.1 (rfl : ((12) : Int32) = nI 12) rfl rfl (by omega) (by decide) dX2_copyElements_80 ?_
  refine k_aloadn C 1 dX2_copyElements_83 rfl ?_
  refine k_getr C (j := 5) (k' := f + 6) kcl_X2 fl_X2_27 hf.1 (by decide) rfl dX2_copyElements_84 ?_
  refine k_iconst C (0) dX2_copyElements_87 (by decide) ?_
  refine k_aloadn C 0 dX2_copyElements_88 rfl ?_
  refine k_getr C (j := 5) (k' := k + 6) kcl_X2 fl_X2_27 hk.1 (by decide) rfl dX2_copyElements_89 ?_
  refine k_iconst C (0) dX2_copyElements_92 (by decide) ?_
  refine k_bipush C (36) dX2_copyElements_93 (by decide) ?_
  refine k_copy C (z0 := 36) (z1 := 36) 36 ml_X2_56 nat_acopy sta_acopy ini_java_lang_System hf.2.2.2.2.2.2.1 hk.2.2.2.2.2.2.1 (rfl : ((36) : Int32) = nI 36) rfl rfl (by omega) (by decide) dX2_copyElements_95 ?_
  refine k_aloadn C 1 dX2_copyElements_98 rfl ?_
  refine k_getr C (j := 6) (k' := f + 7) kcl_X2 fl_X2_30 hf.1 (by decide) rfl dX2_copyElements_99 ?_
  refine k_iconst C (0) dX2_copyElements_102 (by decide) ?_
  refine k_aloadn C 0 dX2_copyElements_103 rfl ?_
  refine k_getr C (j := 6) (k' := k + 7) kcl_X2 fl_X2_30 hk.1 (by decide) rfl dX2_copyElements_104 ?_
  refine k_iconst C (0) dX2_copyElements_107 (by decide) ?_
  refine k_bipush C (36) dX2_copyElements_108 (by decide) ?_
  refine k_copy C (z0 := 36) (z1 := 36) 36 ml_X2_56 nat_acopy sta_acopy ini_java_lang_System hf.2.2.2.2.2.2.2.1 hk.2.2.2.2.2.2.2.1 (rfl : ((36) : Int32) = nI 36) rfl rfl (by omega) (by decide) dX2_copyElements_110 ?_
  refine k_aloadn C 1 dX2_copyElements_113 rfl ?_
  refine k_getr C (j := 7) (k' := f + 8) kcl_X2 fl_X2_33 hf.1 (by decide) rfl dX2_copyElements_114 ?_
  refine k_iconst C (0) dX2_copyElements_117 (by decide) ?_
  refine k_aloadn C 0 dX2_copyElements_118 rfl ?_
  refine k_getr C (j := 7) (k' := k + 8) kcl_X2 fl_X2_33 hk.1 (by decide) rfl dX2_copyElements_119 ?_
  refine k_iconst C (0) dX2_copyElements_122 (by decide) ?_
  refine k_bipush C (36) dX2_copyElements_123 (by decide) ?_
  refine k_copy C (z0 := 36) (z1 := 36) 36 ml_X2_56 nat_acopy sta_acopy ini_java_lang_System hf.2.2.2.2.2.2.2.2.1 hk.2.2.2.2.2.2.2.2.1 (rfl : ((36) : Int32) = nI 36) rfl rfl (by omega) (by decide) dX2_copyElements_125 ?_
  exact ret _ _ _ dX2_copyElements_128 (by exact rfl)

set_option maxHeartbeats 4000000 in
set_option maxRecDepth 100000 in
theorem m_X2_copyFrom (l : Launch) {O : sk_O} (hO : sk_inj O) (M : sk_M) (k f : Nat) (hk : sk_isP O k) (hf : sk_isP O f) : sk_Mv l yX2_copyFrom (sk_w yX2_copyFrom cX2_copyFrom 2 none) ({ frames := 2, cells := 0, slots := 0, locals := 81 }) O [.ref (sk_ad O k), .ref (sk_ad O f)] M (fun M' => M' = (pg_cf M k f)) := by
  refine sk_mv (by decide) ⟨rfl, rfl⟩ hO (Nat.le_of_ble_eq_true rfl) (fun X A Q C ret => ?_)
  show sk_W l X O A Q 2 0 0 M 0 [(0, .ref (sk_ad O k)), (1, .ref (sk_ad O f))] []
  refine k_aloadn C 0 dX2_copyFrom_0 rfl ?_
  refine k_aloadn C 1 dX2_copyFrom_1 rfl ?_
  refine k_vv C (as := [.ref (sk_ad O f)]) yvX2_copyElements viX2_copyElements ml_X2_52 (m_X2_copyElements l C.2.2.2.1 M (k := k) (f := f) (hk := hk) (hf := hf)) hk.1 rfl rfl rfl (Nat.le_of_ble_eq_true rfl) (by decide) dX2_copyFrom_2 (fun M2_1 h2_1 => ?_)
  rw [h2_1]
  refine k_aloadn C 1 dX2_copyFrom_5 rfl ?_
  refine k_getr C (j := 8) (k' := f + 9) kcl_X2 fl_X2_36 hf.1 (by decide) rfl dX2_copyFrom_6 ?_
  refine k_iconst C (0) dX2_copyFrom_9 (by decide) ?_
  refine k_aloadn C 0 dX2_copyFrom_10 rfl ?_
  refine k_getr C (j := 8) (k' := k + 9) kcl_X2 fl_X2_36 hk.1 (by decide) rfl dX2_copyFrom_11 ?_
  refine k_iconst C (0) dX2_copyFrom_14 (by decide) ?_
  refine k_iconst C (3) dX2_copyFrom_15 (by decide) ?_
  refine k_copy C (z0 := 3) (z1 := 3) 3 ml_X2_56 nat_acopy sta_acopy ini_java_lang_System hf.2.2.2.2.2.2.2.2.2 hk.2.2.2.2.2.2.2.2.2 (rfl : ((3) : Int32) = nI 3) rfl rfl (by omega) (by decide) dX2_copyFrom_16 ?_
  refine k_aloadn C 0 dX2_copyFrom_19 rfl ?_
  refine k_aloadn C 1 dX2_copyFrom_20 rfl ?_
  refine k_geti C (j := 10) kcl_X2 fl_X2_43 hf.1 (by decide) rfl dX2_copyFrom_21 ?_
  refine k_puti C (j := 10) (ty := .int) tyX2 kcl_X2 tyX2_ok nmX2 fl_X2_43 hk.1 (by decide) rfl rfl (by decide +kernel) rfl rfl dX2_copyFrom_24 ?_
  exact ret _ _ _ dX2_copyFrom_27 (by exact rfl)

set_option maxHeartbeats 4000000 in
set_option maxRecDepth 100000 in
theorem m_X2_takeElement (l : Launch) {O : sk_O} (hO : sk_inj O) (M : sk_M) (k e f i : Nat) (hk : sk_isP O k) (hf : sk_isP O f) (he : e < 12) (hi : i < 12) : sk_Mv l yX2_takeElement (sk_w yX2_takeElement cX2_takeElement 5 none) ({ frames := 0, cells := 0, slots := 0, locals := 0 }) O [.ref (sk_ad O k), .int (nI e), .ref (sk_ad O f), .int (nI i)] M (fun M' => M' = (pg_te M k e f i)) := by
  refine sk_mv (by decide) ⟨rfl, rfl⟩ hO (Nat.le_of_ble_eq_true rfl) (fun X A Q C ret => ?_)
  show sk_W l X O A Q 5 0 0 M 0 [(0, .ref (sk_ad O k)), (1, .int (nI e)), (2, .ref (sk_ad O f)), (3, .int (nI i))] []
  refine k_aloadn C 0 dX2_takeElement_0 rfl ?_
  refine k_getr C (j := 0) (k' := k + 1) kcl_X2 fl_X2_9 hk.1 (by decide) rfl dX2_takeElement_1 ?_
  refine k_iloadn C 1 dX2_takeElement_4 rfl ?_
  refine k_aloadn C 2 dX2_takeElement_5 rfl ?_
  refine k_getr C (j := 0) (k' := f + 1) kcl_X2 fl_X2_9 hf.1 (by decide) rfl dX2_takeElement_6 ?_
  refine k_iloadn C 3 dX2_takeElement_9 rfl ?_
  refine k_ialdn C i hf.2.1 rfl (by omega) dX2_takeElement_10 ?_
  refine k_iast C e hk.2.1 rfl (by omega) dX2_takeElement_11 ?_
  refine k_aloadn C 0 dX2_takeElement_12 rfl ?_
  refine k_getr C (j := 1) (k' := k + 2) kcl_X2 fl_X2_15 hk.1 (by decide) rfl dX2_takeElement_13 ?_
  refine k_iloadn C 1 dX2_takeElement_16 rfl ?_
  refine k_aloadn C 2 dX2_takeElement_17 rfl ?_
  refine k_getr C (j := 1) (k' := f + 2) kcl_X2 fl_X2_15 hf.1 (by decide) rfl dX2_takeElement_18 ?_
  refine k_iloadn C 3 dX2_takeElement_21 rfl ?_
  refine k_ialdn C i hf.2.2.1 rfl (by omega) dX2_takeElement_22 ?_
  refine k_iast C e hk.2.2.1 rfl (by omega) dX2_takeElement_23 ?_
  refine k_aloadn C 0 dX2_takeElement_24 rfl ?_
  refine k_getr C (j := 2) (k' := k + 3) kcl_X2 fl_X2_18 hk.1 (by decide) rfl dX2_takeElement_25 ?_
  refine k_iloadn C 1 dX2_takeElement_28 rfl ?_
  refine k_aloadn C 2 dX2_takeElement_29 rfl ?_
  refine k_getr C (j := 2) (k' := f + 3) kcl_X2 fl_X2_18 hf.1 (by decide) rfl dX2_takeElement_30 ?_
  refine k_iloadn C 3 dX2_takeElement_33 rfl ?_
  refine k_ialdn C i hf.2.2.2.1 rfl (by omega) dX2_takeElement_34 ?_
  refine k_iast C e hk.2.2.2.1 rfl (by omega) dX2_takeElement_35 ?_
  refine k_aloadn C 0 dX2_takeElement_36 rfl ?_
  refine k_getr C (j := 3) (k' := k + 4) kcl_X2 fl_X2_21 hk.1 (by decide) rfl dX2_takeElement_37 ?_
  refine k_iloadn C 1 dX2_takeElement_40 rfl ?_
  refine k_aloadn C 2 dX2_takeElement_41 rfl ?_
  refine k_getr C (j := 3) (k' := f + 4) kcl_X2 fl_X2_21 hf.1 (by decide) rfl dX2_takeElement_42 ?_
  refine k_iloadn C 3 dX2_takeElement_45 rfl ?_
  refine k_ialdn C i hf.2.2.2.2.1 rfl (by omega) dX2_takeElement_46 ?_
  refine k_iast C e hk.2.2.2.2.1 rfl (by omega) dX2_takeElement_47 ?_
  refine k_aloadn C 0 dX2_takeElement_48 rfl ?_
  refine k_getr C (j := 4) (k' := k + 5) kcl_X2 fl_X2_24 hk.1 (by decide) rfl dX2_takeElement_49 ?_
  refine k_iloadn C 1 dX2_takeElement_52 rfl ?_
  refine k_aloadn C 2 dX2_takeElement_53 rfl ?_
  refine k_getr C (j := 4) (k' := f + 5) kcl_X2 fl_X2_24 hf.1 (by decide) rfl dX2_takeElement_54 ?_
  refine k_iloadn C 3 dX2_takeElement_57 rfl ?_
  refine k_ialdn C i hf.2.2.2.2.2.1 rfl (by omega) dX2_takeElement_58 ?_
  refine k_iast C e hk.2.2.2.2.2.1 rfl (by omega) dX2_takeElement_59 ?_
  refine k_iconst C (0) dX2_takeElement_60 (by decide) ?_
  refine k_istore C [1, 2, 3, 4, 0] [(0, .ref (sk_ad O k)), (1, .int (nI e)), (2, .ref (sk_ad O f)), (3, .int (nI i)), (4, .int (0))] dX2_takeElement_61 (by decide) rfl ?_
  have L63 : ∀ n, n ≤ 3 → sk_W l X O A Q 5 0 0 (pg_tl (pg_t0 M k e f i) k e f i n) 63 [(0, .ref (sk_ad O k)), (1, .int (nI e)), (2, .ref (sk_ad O f)), (3, .int (nI i)), (4, .int (nI n))] [] := by
    refine sk_loop 3 (fun n hi63 ih63 => ?_)
    refine k_iload C 4 dX2_takeElement_63 rfl ?_
    refine k_iconst C (3) dX2_takeElement_65 (by decide) ?_
    refine k_cge C 141 dX2_takeElement_66 (by decide) (fun c66_1 => ?_) (fun c66_1 => ?_)
    ·
      have nc66_1 : 3 ≤ n := (sk_eI (a := 3) (b := n) (rfl : ((3) : Int32) = nI 3) rfl (by omega) (by omega)).mp c66_1
      exact ret _ _ _ dX2_takeElement_141 (by obtain rfl : n = 3 := (by omega); exact rfl)
    ·
      have nc66_1 : ¬ (3 ≤ n) := fun h => c66_1 ((sk_eI (a := 3) (b := n) (rfl : ((3) : Int32) = nI 3) rfl (by omega) (by omega)).mpr h)
      refine k_aloadn C 0 dX2_takeElement_69 rfl ?_
      refine k_getr C (j := 5) (k' := k + 6) kcl_X2 fl_X2_27 hk.1 (by decide) rfl dX2_takeElement_70 ?_
      refine k_iconst C (3) dX2_takeElement_73 (by decide) ?_
      refine k_iloadn C 1 dX2_takeElement_74 rfl ?_
      refine k_imul C dX2_takeElement_75 ?_
      refine k_iload C 4 dX2_takeElement_76 rfl ?_
      refine k_iadd C dX2_takeElement_78 ?_
      refine k_aloadn C 2 dX2_takeElement_79 rfl ?_
      refine k_getr C (j := 5) (k' := f + 6) kcl_X2 fl_X2_27 hf.1 (by decide) rfl dX2_takeElement_80 ?_
      refine k_iconst C (3) dX2_takeElement_83 (by decide) ?_
      refine k_iloadn C 3 dX2_takeElement_84 rfl ?_
      refine k_imul C dX2_takeElement_85 ?_
      refine k_iload C 4 dX2_takeElement_86 rfl ?_
      refine k_iadd C dX2_takeElement_88 ?_
      refine k_ialdn C (3 * i + n) hf.2.2.2.2.2.2.1 (sk_nadd (sk_nmul (rfl : ((3) : Int32) = nI 3) rfl) rfl) (by omega) dX2_takeElement_89 ?_
      refine k_iast C (3 * e + n) hk.2.2.2.2.2.2.1 (sk_nadd (sk_nmul (rfl : ((3) : Int32) = nI 3) rfl) rfl) (by omega) dX2_takeElement_90 ?_
      refine k_aloadn C 0 dX2_takeElement_91 rfl ?_
      refine k_getr C (j := 6) (k' := k + 7) kcl_X2 fl_X2_30 hk.1 (by decide) rfl dX2_takeElement_92 ?_
      refine k_iconst C (3) dX2_takeElement_95 (by decide) ?_
      refine k_iloadn C 1 dX2_takeElement_96 rfl ?_
      refine k_imul C dX2_takeElement_97 ?_
      refine k_iload C 4 dX2_takeElement_98 rfl ?_
      refine k_iadd C dX2_takeElement_100 ?_
      refine k_aloadn C 2 dX2_takeElement_101 rfl ?_
      refine k_getr C (j := 6) (k' := f + 7) kcl_X2 fl_X2_30 hf.1 (by decide) rfl dX2_takeElement_102 ?_
      refine k_iconst C (3) dX2_takeElement_105 (by decide) ?_
      refine k_iloadn C 3 dX2_takeElement_106 rfl ?_
      refine k_imul C dX2_takeElement_107 ?_
      refine k_iload C 4 dX2_takeElement_108 rfl ?_
      refine k_iadd C dX2_takeElement_110 ?_
      refine k_ialdn C (3 * i + n) hf.2.2.2.2.2.2.2.1 (sk_nadd (sk_nmul (rfl : ((3) : Int32) = nI 3) rfl) rfl) (by omega) dX2_takeElement_111 ?_
      refine k_iast C (3 * e + n) hk.2.2.2.2.2.2.2.1 (sk_nadd (sk_nmul (rfl : ((3) : Int32) = nI 3) rfl) rfl) (by omega) dX2_takeElement_112 ?_
      refine k_aloadn C 0 dX2_takeElement_113 rfl ?_
      refine k_getr C (j := 7) (k' := k + 8) kcl_X2 fl_X2_33 hk.1 (by decide) rfl dX2_takeElement_114 ?_
      refine k_iconst C (3) dX2_takeElement_117 (by decide) ?_
      refine k_iloadn C 1 dX2_takeElement_118 rfl ?_
      refine k_imul C dX2_takeElement_119 ?_
      refine k_iload C 4 dX2_takeElement_120 rfl ?_
      refine k_iadd C dX2_takeElement_122 ?_
      refine k_aloadn C 2 dX2_takeElement_123 rfl ?_
      refine k_getr C (j := 7) (k' := f + 8) kcl_X2 fl_X2_33 hf.1 (by decide) rfl dX2_takeElement_124 ?_
      refine k_iconst C (3) dX2_takeElement_127 (by decide) ?_
      refine k_iloadn C 3 dX2_takeElement_128 rfl ?_
      refine k_imul C dX2_takeElement_129 ?_
      refine k_iload C 4 dX2_takeElement_130 rfl ?_
      refine k_iadd C dX2_takeElement_132 ?_
      refine k_ialdn C (3 * i + n) hf.2.2.2.2.2.2.2.2.1 (sk_nadd (sk_nmul (rfl : ((3) : Int32) = nI 3) rfl) rfl) (by omega) dX2_takeElement_133 ?_
      refine k_iast C (3 * e + n) hk.2.2.2.2.2.2.2.2.1 (sk_nadd (sk_nmul (rfl : ((3) : Int32) = nI 3) rfl) rfl) (by omega) dX2_takeElement_134 ?_
      refine k_iinc C 4 (nI (n + 1)) [1, 2, 3, 4, 0] [(0, .ref (sk_ad O k)), (1, .int (nI e)), (2, .ref (sk_ad O f)), (3, .int (nI i)), (4, .int (nI (n + 1)))] dX2_takeElement_135 rfl (nI_add _ _) (by decide) rfl ?_
      refine k_goto C 63 dX2_takeElement_138 (by decide) ?_
      exact ih63 (by omega)
  exact L63 0 (Nat.zero_le _)

set_option maxHeartbeats 4000000 in
set_option maxRecDepth 100000 in
theorem m_X2_takesCall (l : Launch) {O : sk_O} (hO : sk_inj O) (M : sk_M) (k e p : Nat) (x : Int32) (hk : sk_isP O k) (he : e < 12) (hp : p < 3) : sk_Mi l yX2_takesCall (sk_w yX2_takesCall cX2_takesCall 4 (some .boolean)) ({ frames := 1, cells := 0, slots := 0, locals := 20 }) O [.ref (sk_ad O k), .int (nI e), .int (nI p), .int x] M (fun r M' => r = (if M (k + 1) e = 0 ∧ (¬ x = 3 ∨ M (k + 6) (3 * e + p) = 3 ∨ M (k + 6) (3 * e + p) = 4) then 1 else 0) ∧ M' = M) := by
  refine sk_mi (by decide) ⟨rfl, rfl⟩ hO (Nat.le_of_ble_eq_true rfl) (fun X A Q C ret => ?_)
  show sk_W l X O A Q 4 0 0 M 0 [(0, .ref (sk_ad O k)), (1, .int (nI e)), (2, .int (nI p)), (3, .int x)] []
  refine k_aloadn C 0 dX2_takesCall_0 rfl ?_
  refine k_getr C (j := 0) (k' := k + 1) kcl_X2 fl_X2_9 hk.1 (by decide) rfl dX2_takesCall_1 ?_
  refine k_iloadn C 1 dX2_takesCall_4 rfl ?_
  refine k_ialdn C e hk.2.1 rfl (by omega) dX2_takesCall_5 ?_
  refine k_zeq C 11 dX2_takesCall_6 (by decide) (fun c6_1 => ?_) (fun c6_1 => ?_)
  ·
    refine k_iloadn C 3 dX2_takesCall_11 rfl ?_
    refine k_iconst C (3) dX2_takesCall_12 (by decide) ?_
    refine k_cne C 32 dX2_takesCall_13 (by decide) (fun c13_2 => ?_) (fun c13_2 => ?_)
    ·
      refine k_iconst C (1) dX2_takesCall_32 (by decide) ?_
      refine k_goto C 37 dX2_takesCall_33 (by decide) ?_
      exact ret _ _ _ _ dX2_takesCall_37 rfl (by simp [*])
    ·
      refine k_aloadn C 0 dX2_takesCall_16 rfl ?_
      refine k_getr C (j := 5) (k' := k + 6) kcl_X2 fl_X2_27 hk.1 (by decide) rfl dX2_takesCall_17 ?_
      refine k_iconst C (3) dX2_takesCall_20 (by decide) ?_
      refine k_iloadn C 1 dX2_takesCall_21 rfl ?_
      refine k_imul C dX2_takesCall_22 ?_
      refine k_iloadn C 2 dX2_takesCall_23 rfl ?_
      refine k_iadd C dX2_takesCall_24 ?_
      refine k_ialdn C (3 * e + p) hk.2.2.2.2.2.2.1 (sk_nadd (sk_nmul (rfl : ((3) : Int32) = nI 3) rfl) rfl) (by omega) dX2_takesCall_25 ?_
      refine k_si C (as := [.int (M (k + 6) (3 * e + p))]) yvX2_hasEdge vsX2_hasEdge ml_X2_62 (m_X2_hasEdge l C.2.2.2.1 M (x := M (k + 6) (3 * e + p))) rfl rfl (Nat.le_of_ble_eq_true rfl) (by decide) dX2_takesCall_26 (fun x26_3 M26_3 h26_3 => ?_)
      rw [h26_3.1, h26_3.2]
      refine k_zeq C 36 dX2_takesCall_29 (by decide) (fun c29_4 => ?_) (fun c29_4 => ?_)
      ·
        have nc29_4 : ¬ ((M (k + 6) (3 * e + p)) = 3 ∨ (M (k + 6) (3 * e + p)) = 4) := sk_b1.mp c29_4
        refine k_iconst C (0) dX2_takesCall_36 (by decide) ?_
        exact ret _ _ _ _ dX2_takesCall_37 rfl (by simp [*])
      ·
        have nc29_4 : (M (k + 6) (3 * e + p)) = 3 ∨ (M (k + 6) (3 * e + p)) = 4 := Classical.byContradiction (fun h => c29_4 (sk_b1.mpr h))
        refine k_iconst C (1) dX2_takesCall_32 (by decide) ?_
        refine k_goto C 37 dX2_takesCall_33 (by decide) ?_
        exact ret _ _ _ _ dX2_takesCall_37 rfl (by simp [*])
  ·
    refine k_iconst C (0) dX2_takesCall_9 (by decide) ?_
    exact ret _ _ _ _ dX2_takesCall_10 rfl (by simp [*])
