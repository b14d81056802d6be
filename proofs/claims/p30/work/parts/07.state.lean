/-! State: contracts -/
def st_n (M : sk_M) (k : Nat) : Nat := (M k 2).toNatClampNeg
def st_wf (M : sk_M) (k : Nat) : Prop := ∃ m : Nat, m ≤ 4 ∧ M k 2 = nI m ∧ ∀ j, j < m → pg_wf M (k + 3 + 10 * j)
abbrev st_hs (M : sk_M) (k : Nat) (s : Int32) : Prop := ¬ s < 0 ∧ ¬ M k 2 ≤ s
abbrev st_pg (k : Nat) (s : Int32) : Nat := k + 3 + 10 * s.toNatClampNeg
abbrev st_he (M : sk_M) (k : Nat) (s e : Int32) : Prop := st_hs M k s ∧ ¬ e < 0 ∧ ¬ M (st_pg k s) 9 ≤ e
abbrev st_hp (M : sk_M) (k : Nat) (s e p : Int32) : Prop := st_he M k s e ∧ ¬ p < 0 ∧ ¬ M (st_pg k s + 2) e.toNatClampNeg ≤ p
theorem sk_ix {x y : Int32} {m : Nat} (h : ¬ x < 0 ∧ ¬ y ≤ x) (hm : y = nI m) (hm4 : m < 2 ^ 31) : x = nI x.toNatClampNeg ∧ x.toNatClampNeg < m := by
  obtain ⟨j, h1, rfl⟩ := nI_of h.1
  rw [nI_clamp h1]
  refine ⟨rfl, ?_⟩
  have h2 := h.2
  rw [hm, nI_leI hm4 h1] at h2
  omega
def st_cl (M : sk_M) (k f : Nat) : Nat → sk_M
  | 0 => sk_mo M f 2 k 2
  | j + 1 => pg_cf (st_cl M k f j) (k + 3 + 10 * j) (f + 3 + 10 * j)
def st_cf (M : sk_M) (k f : Nat) : sk_M := sk_cp (st_cl M k f (st_n M f)) (f + 2) (k + 2) 5
theorem st_cl_2 (M : sk_M) (k f : Nat) (i : Nat) : st_cl M k f i k 2 = M f 2 := by
  induction i with
  | zero => exact sk_sa
  | succ i ih =>
    show pg_cf _ _ _ k 2 = _
    rw [pg_cf_f (by omega), ih]
theorem st_fiw0 : True := trivial
abbrev st_cc (M : sk_M) (k : Nat) (s e p v : Int32) : Prop := st_hp M k s e p ∧ ¬ v < 0 ∧ ¬ 3 < v ∧ (M (st_pg k s + 1) e.toNatClampNeg = 0 ∧ (¬ v = 3 ∨ M (st_pg k s + 6) (3 * e.toNatClampNeg + p.toNatClampNeg) = 3 ∨ M (st_pg k s + 6) (3 * e.toNatClampNeg + p.toNatClampNeg) = 4))
abbrev st_fi (w v : Int32) : Prop := (w = 0 ∧ ¬ v < 50 ∧ v ≤ 300) ∨ ((w = 1 ∨ w = 3) ∧ ¬ v < 0 ∧ v ≤ 5) ∨ (w = 2 ∧ ¬ v < 0 ∧ v ≤ 12) ∨ (w = 4 ∧ ¬ v < 0 ∧ v ≤ 30)
theorem st_fiw {w v : Int32} (h : st_fi w v) : w = nI w.toNatClampNeg ∧ w.toNatClampNeg < 5 := by
  rcases h with h | h | h | h
  · rw [h.1]; decide
  · rcases h.1 with q | q <;> rw [q] <;> decide
  · rw [h.1]; decide
  · rw [h.1]; decide

set_option maxHeartbeats 4000000 in
set_option maxRecDepth 100000 in
theorem m_X5_hasSkater (l : Launch) {O : sk_O} (hO : sk_inj O) (M : sk_M) (k : Nat) (s : Int32) (hk : sk_isS O k) : sk_Mi l yX5_hasSkater (sk_w yX5_hasSkater cX5_hasSkater 2 (some .boolean)) ({ frames := 0, cells := 0, slots := 0, locals := 0 }) O [.ref (sk_ad O k), .int s] M (fun r M' => r = (if st_hs M k s then 1 else 0) ∧ M' = M) := by
  refine sk_mi (by decide) ⟨rfl, rfl⟩ hO (Nat.le_of_ble_eq_true rfl) (fun X A Q C ret => ?_)
  show sk_W l X O A Q 2 0 0 M 0 [(0, .ref (sk_ad O k)), (1, .int s)] []
  refine k_iloadn C 1 dX5_hasSkater_0 rfl ?_
  refine k_zlt C 16 dX5_hasSkater_1 (by decide) (fun c1_1 => ?_) (fun c1_1 => ?_)
  ·
    refine k_iconst C (0) dX5_hasSkater_16 (by decide) ?_
    exact ret _ _ _ _ dX5_hasSkater_17 rfl (by simp [*])
  ·
    refine k_iloadn C 1 dX5_hasSkater_4 rfl ?_
    refine k_aloadn C 0 dX5_hasSkater_5 rfl ?_
    refine k_geti C (j := 2) kcl_X5 fl_X5_22 hk.1 (by decide) rfl dX5_hasSkater_6 ?_
    refine k_cge C 16 dX5_hasSkater_9 (by decide) (fun c9_2 => ?_) (fun c9_2 => ?_)
    ·
      refine k_iconst C (0) dX5_hasSkater_16 (by decide) ?_
      exact ret _ _ _ _ dX5_hasSkater_17 rfl (by simp [*])
    ·
      refine k_iconst C (1) dX5_hasSkater_12 (by decide) ?_
      refine k_goto C 17 dX5_hasSkater_13 (by decide) ?_
      exact ret _ _ _ _ dX5_hasSkater_17 rfl (by simp [*])

set_option maxHeartbeats 4000000 in
set_option maxRecDepth 100000 in
theorem m_X5_hasElement (l : Launch) {O : sk_O} (hO : sk_inj O) (M : sk_M) (k : Nat) (s e : Int32) (hk : sk_isS O k) (hw : st_wf M k) : sk_Mi l yX5_hasElement (sk_w yX5_hasElement cX5_hasElement 3 (some .boolean)) ({ frames := 1, cells := 0, slots := 0, locals := 21 }) O [.ref (sk_ad O k), .int s, .int e] M (fun r M' => r = (if st_he M k s e then 1 else 0) ∧ M' = M) := by
  refine sk_mi (by decide) ⟨rfl, rfl⟩ hO (Nat.le_of_ble_eq_true rfl) (fun X A Q C ret => ?_)
  show sk_W l X O A Q 3 0 0 M 0 [(0, .ref (sk_ad O k)), (1, .int s), (2, .int e)] []
  obtain ⟨m, hm4, hm, hmj⟩ := hw
  refine k_aloadn C 0 dX5_hasElement_0 rfl ?_
  refine k_iloadn C 1 dX5_hasElement_1 rfl ?_
  refine k_vi C (as := [.int s]) yvX5_hasSkater viX5_hasSkater ml_X5_36 (m_X5_hasSkater l C.2.2.2.1 M (k := k) (hk := hk) (s := s)) hk.1 rfl rfl rfl (Nat.le_of_ble_eq_true rfl) (by decide) dX5_hasElement_2 (fun x2_1 M2_1 h2_1 => ?_)
  rw [h2_1.1, h2_1.2]
  refine k_zeq C 29 dX5_hasElement_5 (by decide) (fun c5_2 => ?_) (fun c5_2 => ?_)
  ·
    have nc5_2 : ¬ (st_hs M k s) := sk_b1.mp c5_2
    refine k_iconst C (0) dX5_hasElement_29 (by decide) ?_
    exact ret _ _ _ _ dX5_hasElement_30 rfl (by exact ⟨(if_neg (fun h => by first | exact absurd h.1 (by assumption) | exact h.2.1 (by assumption) | exact h.2.2 (by assumption))).symm, rfl⟩)
  ·
    have nc5_2 : st_hs M k s := Classical.byContradiction (fun h => c5_2 (sk_b1.mpr h))
    obtain ⟨ix, ib⟩ := sk_ix nc5_2 hm (by omega)
    refine k_iloadn C 2 dX5_hasElement_8 rfl ?_
    refine k_zlt C 29 dX5_hasElement_9 (by decide) (fun c9_3 => ?_) (fun c9_3 => ?_)
    ·
      refine k_iconst C (0) dX5_hasElement_29 (by decide) ?_
      exact ret _ _ _ _ dX5_hasElement_30 rfl (by exact ⟨(if_neg (fun h => by first | exact absurd h.1 (by assumption) | exact h.2.1 (by assumption) | exact h.2.2 (by assumption))).symm, rfl⟩)
    ·
      refine k_iloadn C 2 dX5_hasElement_12 rfl ?_
      refine k_aloadn C 0 dX5_hasElement_13 rfl ?_
      refine k_getr C (j := 0) (k' := k + 1) kcl_X5 fl_X5_11 hk.1 (by decide) rfl dX5_hasElement_14 ?_
      refine k_iloadn C 1 dX5_hasElement_17 rfl ?_
      refine k_aald C (k' := k + 3 + 10 * s.toNatClampNeg) s.toNatClampNeg ((hk.2.1).1) (by decide) ix (by omega) rfl dX5_hasElement_18 ?_
      refine k_geti C (j := 9) kcl_X2 fl_X5_40 ((hk.2.1).2 s.toNatClampNeg (by omega)).1 (by decide) rfl dX5_hasElement_19 ?_
      refine k_cge C 29 dX5_hasElement_22 (by decide) (fun c22_4 => ?_) (fun c22_4 => ?_)
      ·
        refine k_iconst C (0) dX5_hasElement_29 (by decide) ?_
        exact ret _ _ _ _ dX5_hasElement_30 rfl (by exact ⟨(if_neg (fun h => by first | exact absurd h.1 (by assumption) | exact h.2.1 (by assumption) | exact h.2.2 (by assumption))).symm, rfl⟩)
      ·
        refine k_iconst C (1) dX5_hasElement_25 (by decide) ?_
        refine k_goto C 30 dX5_hasElement_26 (by decide) ?_
        exact ret _ _ _ _ dX5_hasElement_30 rfl (by exact ⟨(if_pos ⟨by assumption, by assumption, by assumption⟩).symm, rfl⟩)

set_option maxHeartbeats 4000000 in
set_option maxRecDepth 100000 in
theorem m_X5_hasPart (l : Launch) {O : sk_O} (hO : sk_inj O) (M : sk_M) (k : Nat) (s e p : Int32) (hk : sk_isS O k) (hw : st_wf M k) : sk_Mi l yX5_hasPart (sk_w yX5_hasPart cX5_hasPart 4 (some .boolean)) ({ frames := 2, cells := 0, slots := 0, locals := 43 }) O [.ref (sk_ad O k), .int s, .int e, .int p] M (fun r M' => r = (if st_hp M k s e p then 1 else 0) ∧ M' = M) := by
  refine sk_mi (by decide) ⟨rfl, rfl⟩ hO (Nat.le_of_ble_eq_true rfl) (fun X A Q C ret => ?_)
  show sk_W l X O A Q 4 0 0 M 0 [(0, .ref (sk_ad O k)), (1, .int s), (2, .int e), (3, .int p)] []
  have hw0 := hw
  obtain ⟨m, hm4, hm, hmj⟩ := hw
  refine k_aloadn C 0 dX5_hasPart_0 rfl ?_
  refine k_iloadn C 1 dX5_hasPart_1 rfl ?_
  refine k_iloadn C 2 dX5_hasPart_2 rfl ?_
  refine k_vi C (as := [.int s, .int e]) yvX5_hasElement viX5_hasElement ml_X5_43 (m_X5_hasElement l C.2.2.2.1 M (k := k) (s := s) (e := e) (hk := hk) (hw := hw0)) hk.1 rfl rfl rfl (Nat.le_of_ble_eq_true rfl) (by decide) dX5_hasPart_3 (fun x3_1 M3_1 h3_1 => ?_)
  rw [h3_1.1, h3_1.2]
  refine k_zeq C 32 dX5_hasPart_6 (by decide) (fun c6_2 => ?_) (fun c6_2 => ?_)
  ·
    have nc6_2 : ¬ (st_he M k s e) := sk_b1.mp c6_2
    refine k_iconst C (0) dX5_hasPart_32 (by decide) ?_
    exact ret _ _ _ _ dX5_hasPart_33 rfl (by exact ⟨(if_neg (fun h => by first | exact absurd h.1 (by assumption) | exact h.2.1 (by assumption) | exact h.2.2 (by assumption))).symm, rfl⟩)
  ·
    have nc6_2 : st_he M k s e := Classical.byContradiction (fun h => c6_2 (sk_b1.mpr h))
    obtain ⟨ix, ib⟩ := sk_ix nc6_2.1 hm (by omega)
    obtain ⟨N, hN12, hN, hNp⟩ := hmj _ ib
    obtain ⟨ex, eb⟩ := sk_ix nc6_2.2 hN (by omega)
    refine k_iloadn C 3 dX5_hasPart_9 rfl ?_
    refine k_zlt C 32 dX5_hasPart_10 (by decide) (fun c10_3 => ?_) (fun c10_3 => ?_)
    ·
      refine k_iconst C (0) dX5_hasPart_32 (by decide) ?_
      exact ret _ _ _ _ dX5_hasPart_33 rfl (by exact ⟨(if_neg (fun h => by first | exact absurd h.1 (by assumption) | exact h.2.1 (by assumption) | exact h.2.2 (by assumption))).symm, rfl⟩)
    ·
      refine k_iloadn C 3 dX5_hasPart_13 rfl ?_
      refine k_aloadn C 0 dX5_hasPart_14 rfl ?_
      refine k_getr C (j := 0) (k' := k + 1) kcl_X5 fl_X5_11 hk.1 (by decide) rfl dX5_hasPart_15 ?_
      refine k_iloadn C 1 dX5_hasPart_18 rfl ?_
      refine k_aald C (k' := k + 3 + 10 * s.toNatClampNeg) s.toNatClampNeg ((hk.2.1).1) (by decide) ix (by omega) rfl dX5_hasPart_19 ?_
      refine k_getr C (j := 1) (k' := k + 3 + 10 * s.toNatClampNeg + 2) kcl_X2 fl_X5_47 ((hk.2.1).2 s.toNatClampNeg (by omega)).1 (by decide) rfl dX5_hasPart_20 ?_
      refine k_iloadn C 2 dX5_hasPart_23 rfl ?_
      refine k_ialdn C e.toNatClampNeg (((hk.2.1).2 s.toNatClampNeg (by omega)).2.2.1) ex (by omega) dX5_hasPart_24 ?_
      refine k_cge C 32 dX5_hasPart_25 (by decide) (fun c25_4 => ?_) (fun c25_4 => ?_)
      ·
        refine k_iconst C (0) dX5_hasPart_32 (by decide) ?_
        exact ret _ _ _ _ dX5_hasPart_33 rfl (by exact ⟨(if_neg (fun h => by first | exact absurd h.1 (by assumption) | exact h.2.1 (by assumption) | exact h.2.2 (by assumption))).symm, rfl⟩)
      ·
        refine k_iconst C (1) dX5_hasPart_28 (by decide) ?_
        refine k_goto C 33 dX5_hasPart_29 (by decide) ?_
        exact ret _ _ _ _ dX5_hasPart_33 rfl (by exact ⟨(if_pos ⟨by assumption, by assumption, by assumption⟩).symm, rfl⟩)

set_option maxHeartbeats 4000000 in
set_option maxRecDepth 100000 in
theorem m_X5_putFall (l : Launch) {O : sk_O} (hO : sk_inj O) (M : sk_M) (k : Nat) (s e v : Int32) (hk : sk_isS O k) (hw : st_wf M k) : sk_Mi l yX5_putFall (sk_w yX5_putFall cX5_putFall 4 (some .boolean)) ({ frames := 2, cells := 0, slots := 0, locals := 43 }) O [.ref (sk_ad O k), .int s, .int e, .int v] M (fun r M' => r = (if st_he M k s e then 1 else 0) ∧ M' = (if st_he M k s e then sk_ms M (st_pg k s + 4) e.toNatClampNeg v else M)) := by
  refine sk_mi (by decide) ⟨rfl, rfl⟩ hO (Nat.le_of_ble_eq_true rfl) (fun X A Q C ret => ?_)
  show sk_W l X O A Q 4 0 0 M 0 [(0, .ref (sk_ad O k)), (1, .int s), (2, .int e), (3, .int v)] []
  have hw0 := hw
  obtain ⟨m, hm4, hm, hmj⟩ := hw
  refine k_aloadn C 0 dX5_putFall_0 rfl ?_
  refine k_iloadn C 1 dX5_putFall_1 rfl ?_
  refine k_iloadn C 2 dX5_putFall_2 rfl ?_
  refine k_vi C (as := [.int s, .int e]) yvX5_hasElement viX5_hasElement ml_X5_43 (m_X5_hasElement l C.2.2.2.1 M (k := k) (s := s) (e := e) (hk := hk) (hw := hw0)) hk.1 rfl rfl rfl (Nat.le_of_ble_eq_true rfl) (by decide) dX5_putFall_3 (fun x3_1 M3_1 h3_1 => ?_)
  rw [h3_1.1, h3_1.2]
  refine k_zne C 11 dX5_putFall_6 (by decide) (fun c6_2 => ?_) (fun c6_2 => ?_)
  ·
    have nc6_2 : st_he M k s e := Classical.byContradiction (fun h => c6_2 (sk_b1.mpr h))
    obtain ⟨ix, ib⟩ := sk_ix nc6_2.1 hm (by omega)
    obtain ⟨N, hN12, hN, hNp⟩ := hmj _ ib
    obtain ⟨ex, eb⟩ := sk_ix nc6_2.2 hN (by omega)
    refine k_aloadn C 0 dX5_putFall_11 rfl ?_
    refine k_getr C (j := 0) (k' := k + 1) kcl_X5 fl_X5_11 hk.1 (by decide) rfl dX5_putFall_12 ?_
    refine k_iloadn C 1 dX5_putFall_15 rfl ?_
    refine k_aald C (k' := k + 3 + 10 * s.toNatClampNeg) s.toNatClampNeg ((hk.2.1).1) (by decide) ix (by omega) rfl dX5_putFall_16 ?_
    refine k_getr C (j := 3) (k' := k + 3 + 10 * s.toNatClampNeg + 4) kcl_X2 fl_X5_57 ((hk.2.1).2 s.toNatClampNeg (by omega)).1 (by decide) rfl dX5_putFall_17 ?_
    refine k_iloadn C 2 dX5_putFall_20 rfl ?_
    refine k_iloadn C 3 dX5_putFall_21 rfl ?_
    refine k_iast C e.toNatClampNeg (((hk.2.1).2 s.toNatClampNeg (by omega)).2.2.2.2.1) ex (by omega) dX5_putFall_22 ?_
    refine k_iconst C (1) dX5_putFall_23 (by decide) ?_
    exact ret _ _ _ _ dX5_putFall_24 rfl (by exact ⟨(if_pos nc6_2).symm, (if_pos nc6_2).symm⟩)
  ·
    have nc6_2 : ¬ (st_he M k s e) := sk_b1.mp c6_2
    refine k_iconst C (0) dX5_putFall_9 (by decide) ?_
    exact ret _ _ _ _ dX5_putFall_10 rfl (by exact ⟨(if_neg nc6_2).symm, (if_neg nc6_2).symm⟩)

set_option maxHeartbeats 4000000 in
set_option maxRecDepth 100000 in
theorem m_X5_putReview (l : Launch) {O : sk_O} (hO : sk_inj O) (M : sk_M) (k : Nat) (s e v : Int32) (hk : sk_isS O k) (hw : st_wf M k) : sk_Mi l yX5_putReview (sk_w yX5_putReview cX5_putReview 4 (some .boolean)) ({ frames := 2, cells := 0, slots := 0, locals := 43 }) O [.ref (sk_ad O k), .int s, .int e, .int v] M (fun r M' => r = (if st_he M k s e then 1 else 0) ∧ M' = (if st_he M k s e then sk_ms M (st_pg k s + 5) e.toNatClampNeg v else M)) := by
  refine sk_mi (by decide) ⟨rfl, rfl⟩ hO (Nat.le_of_ble_eq_true rfl) (fun X A Q C ret => ?_)
  show sk_W l X O A Q 4 0 0 M 0 [(0, .ref (sk_ad O k)), (1, .int s), (2, .int e), (3, .int v)] []
  have hw0 := hw
  obtain ⟨m, hm4, hm, hmj⟩ := hw
  refine k_aloadn C 0 dX5_putReview_0 rfl ?_
  refine k_iloadn C 1 dX5_putReview_1 rfl ?_
  refine k_iloadn C 2 dX5_putReview_2 rfl ?_
  refine k_vi C (as := [.int s, .int e]) yvX5_hasElement viX5_hasElement ml_X5_43 (m_X5_hasElement l C.2.2.2.1 M (k := k) (s := s) (e := e) (hk := hk) (hw := hw0)) hk.1 rfl rfl rfl (Nat.le_of_ble_eq_true rfl) (by decide) dX5_putReview_3 (fun x3_1 M3_1 h3_1 => ?_)
  rw [h3_1.1, h3_1.2]
  refine k_zne C 11 dX5_putReview_6 (by decide) (fun c6_2 => ?_) (fun c6_2 => ?_)
  ·
    have nc6_2 : st_he M k s e := Classical.byContradiction (fun h => c6_2 (sk_b1.mpr h))
    obtain ⟨ix, ib⟩ := sk_ix nc6_2.1 hm (by omega)
    obtain ⟨N, hN12, hN, hNp⟩ := hmj _ ib
    obtain ⟨ex, eb⟩ := sk_ix nc6_2.2 hN (by omega)
    refine k_aloadn C 0 dX5_putReview_11 rfl ?_
    refine k_getr C (j := 0) (k' := k + 1) kcl_X5 fl_X5_11 hk.1 (by decide) rfl dX5_putReview_12 ?_
    refine k_iloadn C 1 dX5_putReview_15 rfl ?_
    refine k_aald C (k' := k + 3 + 10 * s.toNatClampNeg) s.toNatClampNeg ((hk.2.1).1) (by decide) ix (by omega) rfl dX5_putReview_16 ?_
    refine k_getr C (j := 4) (k' := k + 3 + 10 * s.toNatClampNeg + 5) kcl_X2 fl_X5_60 ((hk.2.1).2 s.toNatClampNeg (by omega)).1 (by decide) rfl dX5_putReview_17 ?_
    refine k_iloadn C 2 dX5_putReview_20 rfl ?_
    refine k_iloadn C 3 dX5_putReview_21 rfl ?_
    refine k_iast C e.toNatClampNeg (((hk.2.1).2 s.toNatClampNeg (by omega)).2.2.2.2.2.1) ex (by omega) dX5_putReview_22 ?_
    refine k_iconst C (1) dX5_putReview_23 (by decide) ?_
    exact ret _ _ _ _ dX5_putReview_24 rfl (by exact ⟨(if_pos nc6_2).symm, (if_pos nc6_2).symm⟩)
  ·
    have nc6_2 : ¬ (st_he M k s e) := sk_b1.mp c6_2
    refine k_iconst C (0) dX5_putReview_9 (by decide) ?_
    exact ret _ _ _ _ dX5_putReview_10 rfl (by exact ⟨(if_neg nc6_2).symm, (if_neg nc6_2).symm⟩)

set_option maxHeartbeats 4000000 in
set_option maxRecDepth 100000 in
theorem m_X5_putKernel (l : Launch) {O : sk_O} (hO : sk_inj O) (M : sk_M) (k : Nat) (s e v : Int32) (hk : sk_isS O k) (hw : st_wf M k) : sk_Mv l yX5_putKernel (sk_w yX5_putKernel cX5_putKernel 4 none) ({ frames := 2, cells := 0, slots := 0, locals := 43 }) O [.ref (sk_ad O k), .int s, .int e, .int v] M (fun M' => M' = (if st_he M k s e then sk_ms M (st_pg k s + 3) e.toNatClampNeg v else M)) := by
  refine sk_mv (by decide) ⟨rfl, rfl⟩ hO (Nat.le_of_ble_eq_true rfl) (fun X A Q C ret => ?_)
  show sk_W l X O A Q 4 0 0 M 0 [(0, .ref (sk_ad O k)), (1, .int s), (2, .int e), (3, .int v)] []
  have hw0 := hw
  obtain ⟨m, hm4, hm, hmj⟩ := hw
  refine k_aloadn C 0 dX5_putKernel_0 rfl ?_
  refine k_iloadn C 1 dX5_putKernel_1 rfl ?_
  refine k_iloadn C 2 dX5_putKernel_2 rfl ?_
  refine k_vi C (as := [.int s, .int e]) yvX5_hasElement viX5_hasElement ml_X5_43 (m_X5_hasElement l C.2.2.2.1 M (k := k) (s := s) (e := e) (hk := hk) (hw := hw0)) hk.1 rfl rfl rfl (Nat.le_of_ble_eq_true rfl) (by decide) dX5_putKernel_3 (fun x3_1 M3_1 h3_1 => ?_)
  rw [h3_1.1, h3_1.2]
  refine k_zeq C 21 dX5_putKernel_6 (by decide) (fun c6_2 => ?_) (fun c6_2 => ?_)
  ·
    have nc6_2 : ¬ (st_he M k s e) := sk_b1.mp c6_2
    exact ret _ _ _ dX5_putKernel_21 (by first | exact (if_neg nc6_2).symm | exact (if_pos nc6_2).symm)
  ·
    have nc6_2 : st_he M k s e := Classical.byContradiction (fun h => c6_2 (sk_b1.mpr h))
    obtain ⟨ix, ib⟩ := sk_ix nc6_2.1 hm (by omega)
    obtain ⟨N, hN12, hN, hNp⟩ := hmj _ ib
    obtain ⟨ex, eb⟩ := sk_ix nc6_2.2 hN (by omega)
    refine k_aloadn C 0 dX5_putKernel_9 rfl ?_
    refine k_getr C (j := 0) (k' := k + 1) kcl_X5 fl_X5_11 hk.1 (by decide) rfl dX5_putKernel_10 ?_
    refine k_iloadn C 1 dX5_putKernel_13 rfl ?_
    refine k_aald C (k' := k + 3 + 10 * s.toNatClampNeg) s.toNatClampNeg ((hk.2.1).1) (by decide) ix (by omega) rfl dX5_putKernel_14 ?_
    refine k_getr C (j := 2) (k' := k + 3 + 10 * s.toNatClampNeg + 3) kcl_X2 fl_X5_63 ((hk.2.1).2 s.toNatClampNeg (by omega)).1 (by decide) rfl dX5_putKernel_15 ?_
    refine k_iloadn C 2 dX5_putKernel_18 rfl ?_
    refine k_iloadn C 3 dX5_putKernel_19 rfl ?_
    refine k_iast C e.toNatClampNeg (((hk.2.1).2 s.toNatClampNeg (by omega)).2.2.2.1) ex (by omega) dX5_putKernel_20 ?_
    exact ret _ _ _ dX5_putKernel_21 (by first | exact (if_neg nc6_2).symm | exact (if_pos nc6_2).symm)

set_option maxHeartbeats 4000000 in
set_option maxRecDepth 100000 in
theorem m_X5_putPoints (l : Launch) {O : sk_O} (hO : sk_inj O) (M : sk_M) (k : Nat) (s v : Int32) (hk : sk_isS O k) (hw : st_wf M k) : sk_Mi l yX5_putPoints (sk_w yX5_putPoints cX5_putPoints 3 (some .boolean)) ({ frames := 1, cells := 0, slots := 0, locals := 21 }) O [.ref (sk_ad O k), .int s, .int v] M (fun r M' => r = (if st_hs M k s then 1 else 0) ∧ M' = (if st_hs M k s then sk_ms M (st_pg k s) 10 v else M)) := by
  refine sk_mi (by decide) ⟨rfl, rfl⟩ hO (Nat.le_of_ble_eq_true rfl) (fun X A Q C ret => ?_)
  show sk_W l X O A Q 3 0 0 M 0 [(0, .ref (sk_ad O k)), (1, .int s), (2, .int v)] []
  have hw0 := hw
  obtain ⟨m, hm4, hm, hmj⟩ := hw
  refine k_aloadn C 0 dX5_putPoints_0 rfl ?_
  refine k_iloadn C 1 dX5_putPoints_1 rfl ?_
  refine k_vi C (as := [.int s]) yvX5_hasSkater viX5_hasSkater ml_X5_36 (m_X5_hasSkater l C.2.2.2.1 M (k := k) (s := s) (hk := hk)) hk.1 rfl rfl rfl (Nat.le_of_ble_eq_true rfl) (by decide) dX5_putPoints_2 (fun x2_1 M2_1 h2_1 => ?_)
  rw [h2_1.1, h2_1.2]
  refine k_zne C 10 dX5_putPoints_5 (by decide) (fun c5_2 => ?_) (fun c5_2 => ?_)
  ·
    have nc5_2 : st_hs M k s := Classical.byContradiction (fun h => c5_2 (sk_b1.mpr h))
    obtain ⟨ix, ib⟩ := sk_ix nc5_2 hm (by omega)
    refine k_aloadn C 0 dX5_putPoints_10 rfl ?_
    refine k_getr C (j := 0) (k' := k + 1) kcl_X5 fl_X5_11 hk.1 (by decide) rfl dX5_putPoints_11 ?_
    refine k_iloadn C 1 dX5_putPoints_14 rfl ?_
    refine k_aald C (k' := k + 3 + 10 * s.toNatClampNeg) s.toNatClampNeg ((hk.2.1).1) (by decide) ix (by omega) rfl dX5_putPoints_15 ?_
    refine k_iloadn C 2 dX5_putPoints_16 rfl ?_
    refine k_puti C (j := 10) (ty := .int) tyX2 kcl_X2 tyX2_ok nmX2 fl_X5_79 ((hk.2.1).2 s.toNatClampNeg (by omega)).1 (by decide) rfl rfl (by decide +kernel) rfl rfl dX5_putPoints_17 ?_
    refine k_iconst C (1) dX5_putPoints_20 (by decide) ?_
    exact ret _ _ _ _ dX5_putPoints_21 rfl (by exact ⟨(if_pos nc5_2).symm, (if_pos nc5_2).symm⟩)
  ·
    have nc5_2 : ¬ (st_hs M k s) := sk_b1.mp c5_2
    refine k_iconst C (0) dX5_putPoints_8 (by decide) ?_
    exact ret _ _ _ _ dX5_putPoints_9 rfl (by exact ⟨(if_neg nc5_2).symm, (if_neg nc5_2).symm⟩)

set_option maxHeartbeats 4000000 in
set_option maxRecDepth 100000 in
theorem m_X5_putComponent (l : Launch) {O : sk_O} (hO : sk_inj O) (M : sk_M) (k : Nat) (s c v : Int32) (hk : sk_isS O k) (hw : st_wf M k) : sk_Mv l yX5_putComponent (sk_w yX5_putComponent cX5_putComponent 4 none) ({ frames := 1, cells := 0, slots := 0, locals := 21 }) O [.ref (sk_ad O k), .int s, .int c, .int v] M (fun M' => M' = (if st_hs M k s ∧ ¬ c < 0 ∧ ¬ 3 ≤ c then sk_ms M (st_pg k s + 9) c.toNatClampNeg v else M)) := by
  refine sk_mv (by decide) ⟨rfl, rfl⟩ hO (Nat.le_of_ble_eq_true rfl) (fun X A Q C ret => ?_)
  show sk_W l X O A Q 4 0 0 M 0 [(0, .ref (sk_ad O k)), (1, .int s), (2, .int c), (3, .int v)] []
  have hw0 := hw
  obtain ⟨m, hm4, hm, hmj⟩ := hw
  refine k_aloadn C 0 dX5_putComponent_0 rfl ?_
  refine k_iloadn C 1 dX5_putComponent_1 rfl ?_
  refine k_vi C (as := [.int s]) yvX5_hasSkater viX5_hasSkater ml_X5_36 (m_X5_hasSkater l C.2.2.2.1 M (k := k) (s := s) (hk := hk)) hk.1 rfl rfl rfl (Nat.le_of_ble_eq_true rfl) (by decide) dX5_putComponent_2 (fun x2_1 M2_1 h2_1 => ?_)
  rw [h2_1.1, h2_1.2]
  refine k_zeq C 29 dX5_putComponent_5 (by decide) (fun c5_2 => ?_) (fun c5_2 => ?_)
  ·
    have nc5_2 : ¬ (st_hs M k s) := sk_b1.mp c5_2
    exact ret _ _ _ dX5_putComponent_29 (by exact (if_neg (fun h => nc5_2 h.1)).symm)
  ·
    have nc5_2 : st_hs M k s := Classical.byContradiction (fun h => c5_2 (sk_b1.mpr h))
    obtain ⟨ix, ib⟩ := sk_ix nc5_2 hm (by omega)
    refine k_iloadn C 2 dX5_putComponent_8 rfl ?_
    refine k_zlt C 29 dX5_putComponent_9 (by decide) (fun c9_3 => ?_) (fun c9_3 => ?_)
    ·
      exact ret _ _ _ dX5_putComponent_29 (by exact (if_neg (fun h => h.2.1 c9_3)).symm)
    ·
      refine k_iloadn C 2 dX5_putComponent_12 rfl ?_
      refine k_iconst C (3) dX5_putComponent_13 (by decide) ?_
      refine k_cge C 29 dX5_putComponent_14 (by decide) (fun c14_4 => ?_) (fun c14_4 => ?_)
      ·
        exact ret _ _ _ dX5_putComponent_29 (by exact (if_neg (fun h => h.2.2 c14_4)).symm)
      ·
        obtain ⟨cx, cb⟩ := sk_ix (m := 3) ⟨c9_3, c14_4⟩ rfl (by omega)
        refine k_aloadn C 0 dX5_putComponent_17 rfl ?_
        refine k_getr C (j := 0) (k' := k + 1) kcl_X5 fl_X5_11 hk.1 (by decide) rfl dX5_putComponent_18 ?_
        refine k_iloadn C 1 dX5_putComponent_21 rfl ?_
        refine k_aald C (k' := k + 3 + 10 * s.toNatClampNeg) s.toNatClampNeg ((hk.2.1).1) (by decide) ix (by omega) rfl dX5_putComponent_22 ?_
        refine k_getr C (j := 8) (k' := k + 3 + 10 * s.toNatClampNeg + 9) kcl_X2 fl_X5_76 ((hk.2.1).2 s.toNatClampNeg (by omega)).1 (by decide) rfl dX5_putComponent_23 ?_
        refine k_iloadn C 2 dX5_putComponent_26 rfl ?_
        refine k_iloadn C 3 dX5_putComponent_27 rfl ?_
        refine k_iast C c.toNatClampNeg (((hk.2.1).2 s.toNatClampNeg (by omega)).2.2.2.2.2.2.2.2.2) cx (by omega) dX5_putComponent_28 ?_
        exact ret _ _ _ dX5_putComponent_29 (by exact (if_pos ⟨nc5_2, c9_3, c14_4⟩).symm)

set_option maxHeartbeats 4000000 in
set_option maxRecDepth 100000 in
theorem m_X5_settingFits (l : Launch) {O : sk_O} (hO : sk_inj O) (M : sk_M) (w v : Int32) : sk_Mi l yX5_settingFits (sk_w yX5_settingFits cX5_settingFits 2 (some .boolean)) ({ frames := 0, cells := 0, slots := 0, locals := 0 }) O [.int w, .int v] M (fun r M' => r = (if st_fi w v then 1 else 0) ∧ M' = M) := by
  refine sk_mi (by decide) ⟨rfl, rfl⟩ hO (Nat.le_of_ble_eq_true rfl) (fun X A Q C ret => ?_)
  show sk_W l X O A Q 2 0 0 M 0 [(0, .int w), (1, .int v)] []
  refine k_iloadn C 0 dX5_settingFits_0 rfl ?_
  by_cases c1_1_0 : w = (0 : Int32)
  ·
    refine k_top (0 : Int32) c1_1_0 ?_
    refine k_tin C 36 (35) dX5_settingFits_1 (by decide) (by decide) ?_
    refine k_iloadn C 1 dX5_settingFits_36 rfl ?_
    refine k_bipush C (50) dX5_settingFits_37 (by decide) ?_
    refine k_clt C 53 dX5_settingFits_39 (by decide) (fun c39_2 => ?_) (fun c39_2 => ?_)
    ·
      refine k_iconst C (0) dX5_settingFits_53 (by decide) ?_
      exact ret _ _ _ _ dX5_settingFits_54 rfl (by simp [st_fi, *])
    ·
      refine k_iloadn C 1 dX5_settingFits_42 rfl ?_
      refine k_sipush C (300) dX5_settingFits_43 (by decide) ?_
      refine k_cgt C 53 dX5_settingFits_46 (by decide) (fun c46_3 => ?_) (fun c46_3 => ?_)
      ·
        refine k_iconst C (0) dX5_settingFits_53 (by decide) ?_
        exact ret _ _ _ _ dX5_settingFits_54 rfl (by simp [st_fi, *])
      ·
        refine k_iconst C (1) dX5_settingFits_49 (by decide) ?_
        refine k_goto C 54 dX5_settingFits_50 (by decide) ?_
        exact ret _ _ _ _ dX5_settingFits_54 rfl (by simp [st_fi, *])
  by_cases c1_1_1 : w = (1 : Int32)
  ·
    refine k_top (1 : Int32) c1_1_1 ?_
    refine k_tin C 55 (54) dX5_settingFits_1 (by decide) (by decide) ?_
    refine k_iloadn C 1 dX5_settingFits_55 rfl ?_
    refine k_zlt C 68 dX5_settingFits_56 (by decide) (fun c56_4 => ?_) (fun c56_4 => ?_)
    ·
      refine k_iconst C (0) dX5_settingFits_68 (by decide) ?_
      exact ret _ _ _ _ dX5_settingFits_69 rfl (by simp [st_fi, *])
    ·
      refine k_iloadn C 1 dX5_settingFits_59 rfl ?_
      refine k_iconst C (5) dX5_settingFits_60 (by decide) ?_
      refine k_cgt C 68 dX5_settingFits_61 (by decide) (fun c61_5 => ?_) (fun c61_5 => ?_)
      ·
        refine k_iconst C (0) dX5_settingFits_68 (by decide) ?_
        exact ret _ _ _ _ dX5_settingFits_69 rfl (by simp [st_fi, *])
      ·
        refine k_iconst C (1) dX5_settingFits_64 (by decide) ?_
        refine k_goto C 69 dX5_settingFits_65 (by decide) ?_
        exact ret _ _ _ _ dX5_settingFits_69 rfl (by simp [st_fi, *])
  by_cases c1_1_2 : w = (2 : Int32)
  ·
    refine k_top (2 : Int32) c1_1_2 ?_
    refine k_tin C 70 (69) dX5_settingFits_1 (by decide) (by decide) ?_
    refine k_iloadn C 1 dX5_settingFits_70 rfl ?_
    refine k_zlt C 84 dX5_settingFits_71 (by decide) (fun c71_6 => ?_) (fun c71_6 => ?_)
    ·
      refine k_iconst C (0) dX5_settingFits_84 (by decide) ?_
      exact ret _ _ _ _ dX5_settingFits_85 rfl (by simp [st_fi, *])
    ·
      refine k_iloadn C 1 dX5_settingFits_74 rfl ?_
      refine k_bipush C (12) dX5_settingFits_75 (by decide) ?_
      refine k_cgt C 84 dX5_settingFits_77 (by decide) (fun c77_7 => ?_) (fun c77_7 => ?_)
      ·
        refine k_iconst C (0) dX5_settingFits_84 (by decide) ?_
        exact ret _ _ _ _ dX5_settingFits_85 rfl (by simp [st_fi, *])
      ·
        refine k_iconst C (1) dX5_settingFits_80 (by decide) ?_
        refine k_goto C 85 dX5_settingFits_81 (by decide) ?_
        exact ret _ _ _ _ dX5_settingFits_85 rfl (by simp [st_fi, *])
  by_cases c1_1_3 : w = (3 : Int32)
  ·
    refine k_top (3 : Int32) c1_1_3 ?_
    refine k_tin C 55 (54) dX5_settingFits_1 (by decide) (by decide) ?_
    refine k_iloadn C 1 dX5_settingFits_55 rfl ?_
    refine k_zlt C 68 dX5_settingFits_56 (by decide) (fun c56_8 => ?_) (fun c56_8 => ?_)
    ·
      refine k_iconst C (0) dX5_settingFits_68 (by decide) ?_
      exact ret _ _ _ _ dX5_settingFits_69 rfl (by simp [st_fi, *])
    ·
      refine k_iloadn C 1 dX5_settingFits_59 rfl ?_
      refine k_iconst C (5) dX5_settingFits_60 (by decide) ?_
      refine k_cgt C 68 dX5_settingFits_61 (by decide) (fun c61_9 => ?_) (fun c61_9 => ?_)
      ·
        refine k_iconst C (0) dX5_settingFits_68 (by decide) ?_
        exact ret _ _ _ _ dX5_settingFits_69 rfl (by simp [st_fi, *])
      ·
        refine k_iconst C (1) dX5_settingFits_64 (by decide) ?_
        refine k_goto C 69 dX5_settingFits_65 (by decide) ?_
        exact ret _ _ _ _ dX5_settingFits_69 rfl (by simp [st_fi, *])
  by_cases c1_1_4 : w = (4 : Int32)
  ·
    refine k_top (4 : Int32) c1_1_4 ?_
    refine k_tin C 86 (85) dX5_settingFits_1 (by decide) (by decide) ?_
    refine k_iloadn C 1 dX5_settingFits_86 rfl ?_
    refine k_zlt C 100 dX5_settingFits_87 (by decide) (fun c87_10 => ?_) (fun c87_10 => ?_)
    ·
      refine k_iconst C (0) dX5_settingFits_100 (by decide) ?_
      exact ret _ _ _ _ dX5_settingFits_101 rfl (by simp [st_fi, *])
    ·
      refine k_iloadn C 1 dX5_settingFits_90 rfl ?_
      refine k_bipush C (30) dX5_settingFits_91 (by decide) ?_
      refine k_cgt C 100 dX5_settingFits_93 (by decide) (fun c93_11 => ?_) (fun c93_11 => ?_)
      ·
        refine k_iconst C (0) dX5_settingFits_100 (by decide) ?_
        exact ret _ _ _ _ dX5_settingFits_101 rfl (by simp [st_fi, *])
      ·
        refine k_iconst C (1) dX5_settingFits_96 (by decide) ?_
        refine k_goto C 101 dX5_settingFits_97 (by decide) ?_
        exact ret _ _ _ _ dX5_settingFits_101 rfl (by simp [st_fi, *])
  have c1_1_0T : ¬ (w).toInt = 0 := fun h => c1_1_0 (sk_toI h)
  have c1_1_1T : ¬ (w).toInt = 1 := fun h => c1_1_1 (sk_toI h)
  have c1_1_2T : ¬ (w).toInt = 2 := fun h => c1_1_2 (sk_toI h)
  have c1_1_3T : ¬ (w).toInt = 3 := fun h => c1_1_3 (sk_toI h)
  have c1_1_4T : ¬ (w).toInt = 4 := fun h => c1_1_4 (sk_toI h)
  refine k_tout C 102 dX5_settingFits_1 (by omega) (by decide) ?_
  refine k_iconst C (0) dX5_settingFits_102 (by decide) ?_
  exact ret _ _ _ _ dX5_settingFits_103 rfl (by simp [st_fi, *])

set_option maxHeartbeats 4000000 in
set_option maxRecDepth 100000 in
theorem m_X5_putSetting (l : Launch) {O : sk_O} (hO : sk_inj O) (M : sk_M) (k : Nat) (w v : Int32) (hk : sk_isS O k) : sk_Mi l yX5_putSetting (sk_w yX5_putSetting cX5_putSetting 3 (some .boolean)) ({ frames := 1, cells := 0, slots := 0, locals := 21 }) O [.ref (sk_ad O k), .int w, .int v] M (fun r M' => r = (if st_fi w v then 1 else 0) ∧ M' = (if st_fi w v then sk_ms M (k + 2) w.toNatClampNeg v else M)) := by
  refine sk_mi (by decide) ⟨rfl, rfl⟩ hO (Nat.le_of_ble_eq_true rfl) (fun X A Q C ret => ?_)
  show sk_W l X O A Q 3 0 0 M 0 [(0, .ref (sk_ad O k)), (1, .int w), (2, .int v)] []
  refine k_iloadn C 1 dX5_putSetting_0 rfl ?_
  refine k_iloadn C 2 dX5_putSetting_1 rfl ?_
  refine k_si C (as := [.int w, .int v]) yvX5_settingFits vsX5_settingFits ml_X5_82 (m_X5_settingFits l C.2.2.2.1 M (w := w) (v := v)) rfl rfl (Nat.le_of_ble_eq_true rfl) (by decide) dX5_putSetting_2 (fun x2_1 M2_1 h2_1 => ?_)
  rw [h2_1.1, h2_1.2]
  refine k_zne C 10 dX5_putSetting_5 (by decide) (fun c5_2 => ?_) (fun c5_2 => ?_)
  ·
    have nc5_2 : st_fi w v := Classical.byContradiction (fun h => c5_2 (sk_b1.mpr h))
    refine k_aloadn C 0 dX5_putSetting_10 rfl ?_
    refine k_getr C (j := 1) (k' := k + 2) kcl_X5 fl_X5_17 hk.1 (by decide) rfl dX5_putSetting_11 ?_
    refine k_iloadn C 1 dX5_putSetting_14 rfl ?_
    refine k_iloadn C 2 dX5_putSetting_15 rfl ?_
    refine k_iast C w.toNatClampNeg hk.2.2 (st_fiw nc5_2).1 ⟨(st_fiw nc5_2).2, by omega⟩ dX5_putSetting_16 ?_
    refine k_iconst C (1) dX5_putSetting_17 (by decide) ?_
    exact ret _ _ _ _ dX5_putSetting_18 rfl (by exact ⟨(if_pos nc5_2).symm, (if_pos nc5_2).symm⟩)
  ·
    have nc5_2 : ¬ (st_fi w v) := sk_b1.mp c5_2
    refine k_iconst C (0) dX5_putSetting_8 (by decide) ?_
    exact ret _ _ _ _ dX5_putSetting_9 rfl (by exact ⟨(if_neg nc5_2).symm, (if_neg nc5_2).symm⟩)

set_option maxHeartbeats 4000000 in
set_option maxRecDepth 100000 in
theorem m_X5_putCall (l : Launch) {O : sk_O} (hO : sk_inj O) (M : sk_M) (k : Nat) (s e p v : Int32) (hk : sk_isS O k) (hw : st_wf M k) : sk_Mi l yX5_putCall (sk_w yX5_putCall cX5_putCall 5 (some .boolean)) ({ frames := 3, cells := 0, slots := 0, locals := 66 }) O [.ref (sk_ad O k), .int s, .int e, .int p, .int v] M (fun r M' => r = (if st_cc M k s e p v then 1 else 0) ∧ M' = (if st_cc M k s e p v then sk_ms M (st_pg k s + 8) (3 * e.toNatClampNeg + p.toNatClampNeg) v else M)) := by
  refine sk_mi (by decide) ⟨rfl, rfl⟩ hO (Nat.le_of_ble_eq_true rfl) (fun X A Q C ret => ?_)
  show sk_W l X O A Q 5 0 0 M 0 [(0, .ref (sk_ad O k)), (1, .int s), (2, .int e), (3, .int p), (4, .int v)] []
  have hw0 := hw
  obtain ⟨m, hm4, hm, hmj⟩ := hw
  refine k_aloadn C 0 dX5_putCall_0 rfl ?_
  refine k_iloadn C 1 dX5_putCall_1 rfl ?_
  refine k_iloadn C 2 dX5_putCall_2 rfl ?_
  refine k_iloadn C 3 dX5_putCall_3 rfl ?_
  refine k_vi C (as := [.int s, .int e, .int p]) yvX5_hasPart viX5_hasPart ml_X5_66 (m_X5_hasPart l C.2.2.2.1 M (k := k) (s := s) (e := e) (p := p) (hk := hk) (hw := hw0)) hk.1 rfl rfl rfl (Nat.le_of_ble_eq_true rfl) (by decide) dX5_putCall_4 (fun x4_1 M4_1 h4_1 => ?_)
  rw [h4_1.1, h4_1.2]
  refine k_zeq C 37 dX5_putCall_7 (by decide) (fun c7_2 => ?_) (fun c7_2 => ?_)
  ·
    have nc7_2 : ¬ (st_hp M k s e p) := sk_b1.mp c7_2
    refine k_iconst C (0) dX5_putCall_37 (by decide) ?_
    exact ret _ _ _ _ dX5_putCall_38 rfl (by exact ⟨(if_neg (fun h => nc7_2 h.1)).symm, (if_neg (fun h => nc7_2 h.1)).symm⟩)
  ·
    have nc7_2 : st_hp M k s e p := Classical.byContradiction (fun h => c7_2 (sk_b1.mpr h))
    obtain ⟨ix, ib⟩ := sk_ix nc7_2.1.1 hm (by omega)
    obtain ⟨N, hN12, hN, hNp⟩ := hmj _ ib
    obtain ⟨ex, eb⟩ := sk_ix nc7_2.1.2 hN (by omega)
    obtain ⟨np, hnp, hpp⟩ := hNp _ eb
    obtain ⟨px, pb⟩ := sk_ix nc7_2.2 hpp (by omega)
    refine k_iload C 4 dX5_putCall_10 rfl ?_
    refine k_zlt C 37 dX5_putCall_12 (by decide) (fun c12_3 => ?_) (fun c12_3 => ?_)
    ·
      refine k_iconst C (0) dX5_putCall_37 (by decide) ?_
      exact ret _ _ _ _ dX5_putCall_38 rfl (by exact ⟨(if_neg (fun h => h.2.1 c12_3)).symm, (if_neg (fun h => h.2.1 c12_3)).symm⟩)
    ·
      refine k_iload C 4 dX5_putCall_15 rfl ?_
      refine k_iconst C (3) dX5_putCall_17 (by decide) ?_
      refine k_cgt C 37 dX5_putCall_18 (by decide) (fun c18_4 => ?_) (fun c18_4 => ?_)
      ·
        refine k_iconst C (0) dX5_putCall_37 (by decide) ?_
        exact ret _ _ _ _ dX5_putCall_38 rfl (by exact ⟨(if_neg (fun h => h.2.2.1 c18_4)).symm, (if_neg (fun h => h.2.2.1 c18_4)).symm⟩)
      ·
        refine k_aloadn C 0 dX5_putCall_21 rfl ?_
        refine k_getr C (j := 0) (k' := k + 1) kcl_X5 fl_X5_11 hk.1 (by decide) rfl dX5_putCall_22 ?_
        refine k_iloadn C 1 dX5_putCall_25 rfl ?_
        refine k_aald C (k' := k + 3 + 10 * s.toNatClampNeg) s.toNatClampNeg ((hk.2.1).1) (by decide) ix (by omega) rfl dX5_putCall_26 ?_
        refine k_iloadn C 2 dX5_putCall_27 rfl ?_
        refine k_top (nI e.toNatClampNeg) ex ?_
        refine k_iloadn C 3 dX5_putCall_28 rfl ?_
        refine k_top (nI p.toNatClampNeg) px ?_
        refine k_iload C 4 dX5_putCall_29 rfl ?_
        refine k_vi C (as := [.int (nI e.toNatClampNeg), .int (nI p.toNatClampNeg), .int v]) yvX2_takesCall viX2_takesCall ml_X5_70 (m_X2_takesCall l C.2.2.2.1 M (k := k + 3 + 10 * s.toNatClampNeg) (e := e.toNatClampNeg) (p := p.toNatClampNeg) (x := v) (hk := (hk.2.1).2 s.toNatClampNeg (by omega)) (he := (by omega)) (hp := (by omega))) ((hk.2.1).2 s.toNatClampNeg (by omega)).1 rfl rfl rfl (Nat.le_of_ble_eq_true rfl) (by decide) dX5_putCall_31 (fun x31_5 M31_5 h31_5 => ?_)
        rw [h31_5.1, h31_5.2]
        refine k_zne C 39 dX5_putCall_34 (by decide) (fun c34_6 => ?_) (fun c34_6 => ?_)
        ·
          have nc34_6 : M ((k + 3 + 10 * s.toNatClampNeg) + 1) e.toNatClampNeg = 0 ∧ (¬ v = 3 ∨ M ((k + 3 + 10 * s.toNatClampNeg) + 6) (3 * e.toNatClampNeg + p.toNatClampNeg) = 3 ∨ M ((k + 3 + 10 * s.toNatClampNeg) + 6) (3 * e.toNatClampNeg + p.toNatClampNeg) = 4) := Classical.byContradiction (fun h => c34_6 (sk_b1.mpr h))
          refine k_aloadn C 0 dX5_putCall_39 rfl ?_
          refine k_getr C (j := 0) (k' := k + 1) kcl_X5 fl_X5_11 hk.1 (by decide) rfl dX5_putCall_40 ?_
          refine k_iloadn C 1 dX5_putCall_43 rfl ?_
          refine k_aald C (k' := k + 3 + 10 * s.toNatClampNeg) s.toNatClampNeg ((hk.2.1).1) (by decide) ix (by omega) rfl dX5_putCall_44 ?_
          refine k_getr C (j := 7) (k' := k + 3 + 10 * s.toNatClampNeg + 8) kcl_X2 fl_X5_73 ((hk.2.1).2 s.toNatClampNeg (by omega)).1 (by decide) rfl dX5_putCall_45 ?_
          refine k_iconst C (3) dX5_putCall_48 (by decide) ?_
          refine k_iloadn C 2 dX5_putCall_49 rfl ?_
          refine k_imul C dX5_putCall_50 ?_
          refine k_iloadn C 3 dX5_putCall_51 rfl ?_
          refine k_iadd C dX5_putCall_52 ?_
          refine k_iload C 4 dX5_putCall_53 rfl ?_
          refine k_iast C (3 * e.toNatClampNeg + p.toNatClampNeg) (((hk.2.1).2 s.toNatClampNeg (by omega)).2.2.2.2.2.2.2.2.1) (sk_nadd (sk_nmul (a := 3) rfl ex) px) (by omega) dX5_putCall_55 ?_
          refine k_iconst C (1) dX5_putCall_56 (by decide) ?_
          exact ret _ _ _ _ dX5_putCall_57 rfl (by exact ⟨(if_pos ⟨nc7_2, c12_3, c18_4, nc34_6⟩).symm, (if_pos ⟨nc7_2, c12_3, c18_4, nc34_6⟩).symm⟩)
        ·
          have nc34_6 : ¬ (M ((k + 3 + 10 * s.toNatClampNeg) + 1) e.toNatClampNeg = 0 ∧ (¬ v = 3 ∨ M ((k + 3 + 10 * s.toNatClampNeg) + 6) (3 * e.toNatClampNeg + p.toNatClampNeg) = 3 ∨ M ((k + 3 + 10 * s.toNatClampNeg) + 6) (3 * e.toNatClampNeg + p.toNatClampNeg) = 4)) := sk_b1.mp c34_6
          refine k_iconst C (0) dX5_putCall_37 (by decide) ?_
          exact ret _ _ _ _ dX5_putCall_38 rfl (by exact ⟨(if_neg (fun h => nc34_6 h.2.2.2)).symm, (if_neg (fun h => nc34_6 h.2.2.2)).symm⟩)

set_option maxHeartbeats 4000000 in
set_option maxRecDepth 100000 in
theorem m_X5_reviewed (l : Launch) {O : sk_O} (hO : sk_inj O) (M : sk_M) (k : Nat) (hk : sk_isS O k) (hw : st_wf M k) : sk_Mi l yX5_reviewed (sk_w yX5_reviewed cX5_reviewed 3 (some .int)) ({ frames := 1, cells := 0, slots := 0, locals := 22 }) O [.ref (sk_ad O k)] M (fun r M' => r = (sk_sum (fun j => sk_sum (M (k + 3 + 10 * j + 5)) (pg_n M (k + 3 + 10 * j))) (st_n M k)) ∧ M' = M) := by
  refine sk_mi (by decide) ⟨rfl, rfl⟩ hO (Nat.le_of_ble_eq_true rfl) (fun X A Q C ret => ?_)
  show sk_W l X O A Q 3 0 0 M 0 [(0, .ref (sk_ad O k))] []
  have hw0 := hw
  obtain ⟨m, hm4, hm, hmj⟩ := hw
  refine k_iconst C (0) dX5_reviewed_0 (by decide) ?_
  refine k_istoren C [1, 0] [(0, .ref (sk_ad O k)), (1, .int (0))] dX5_reviewed_1 (by decide) rfl ?_
  refine k_iconst C (0) dX5_reviewed_2 (by decide) ?_
  refine k_istoren C [1, 2, 0] [(0, .ref (sk_ad O k)), (1, .int (0)), (2, .int (0))] dX5_reviewed_3 (by decide) rfl ?_
  have L4 : ∀ i, i ≤ m → sk_W l X O A Q 3 0 0 M 4 [(0, .ref (sk_ad O k)), (1, .int (sk_sum (fun j => sk_sum (M (k + 3 + 10 * j + 5)) (pg_n M (k + 3 + 10 * j))) i)), (2, .int (nI i))] [] := by
    refine sk_loop m (fun i hi4 ih4 => ?_)
    refine k_iloadn C 2 dX5_reviewed_4 rfl ?_
    refine k_aloadn C 0 dX5_reviewed_5 rfl ?_
    refine k_geti C (j := 2) kcl_X5 fl_X5_22 hk.1 (by decide) rfl dX5_reviewed_6 ?_
    refine k_cge C 30 dX5_reviewed_9 (by decide) (fun c9_1 => ?_) (fun c9_1 => ?_)
    ·
      have nc9_1 : m ≤ i := (sk_eI (a := m) (b := i) hm rfl (by omega) (by omega)).mp c9_1
      refine k_iloadn C 1 dX5_reviewed_30 rfl ?_
      exact ret _ _ _ _ dX5_reviewed_31 rfl (by obtain rfl : i = m := (by omega); exact ⟨by rw [st_n, hm, nI_clamp (by omega)], rfl⟩)
    ·
      have nc9_1 : ¬ (m ≤ i) := fun h => c9_1 ((sk_eI (a := m) (b := i) hm rfl (by omega) (by omega)).mpr h)
      refine k_iloadn C 1 dX5_reviewed_12 rfl ?_
      refine k_aloadn C 0 dX5_reviewed_13 rfl ?_
      refine k_getr C (j := 0) (k' := k + 1) kcl_X5 fl_X5_11 hk.1 (by decide) rfl dX5_reviewed_14 ?_
      refine k_iloadn C 2 dX5_reviewed_17 rfl ?_
      refine k_aald C (k' := k + 3 + 10 * i) i ((hk.2.1).1) (by decide) rfl (by omega) rfl dX5_reviewed_18 ?_
      refine k_vi C (as := []) yvX2_reviewed viX2_reviewed ml_X5_50 (m_X2_reviewed l C.2.2.2.1 M (k := k + 3 + 10 * i) (hk := (hk.2.1).2 i (by omega)) (hw := (hmj i (by omega)))) ((hk.2.1).2 i (by omega)).1 rfl rfl rfl (Nat.le_of_ble_eq_true rfl) (by decide) dX5_reviewed_19 (fun x19_2 M19_2 h19_2 => ?_)
      rw [h19_2.1, h19_2.2]
      refine k_iadd C dX5_reviewed_22 ?_
      refine k_istoren C [1, 0, 2] [(0, .ref (sk_ad O k)), (1, .int ((sk_sum (fun j => sk_sum (M (k + 3 + 10 * j + 5)) (pg_n M (k + 3 + 10 * j))) i) + (sk_sum (M ((k + 3 + 10 * i) + 5)) (pg_n M (k + 3 + 10 * i))))), (2, .int (nI i))] dX5_reviewed_23 (by decide) rfl ?_
      refine k_iinc C 2 (nI (i + 1)) [1, 2, 0] [(0, .ref (sk_ad O k)), (1, .int ((sk_sum (fun j => sk_sum (M (k + 3 + 10 * j + 5)) (pg_n M (k + 3 + 10 * j))) i) + (sk_sum (M ((k + 3 + 10 * i) + 5)) (pg_n M (k + 3 + 10 * i))))), (2, .int (nI (i + 1)))] dX5_reviewed_24 rfl (nI_add _ _) (by decide) rfl ?_
      refine k_goto C 4 dX5_reviewed_27 (by decide) ?_
      exact ih4 (by omega)
  exact L4 0 (Nat.zero_le _)

set_option maxHeartbeats 4000000 in
set_option maxRecDepth 100000 in
theorem m_X5_fallen (l : Launch) {O : sk_O} (hO : sk_inj O) (M : sk_M) (k : Nat) (hk : sk_isS O k) (hw : st_wf M k) : sk_Mi l yX5_fallen (sk_w yX5_fallen cX5_fallen 3 (some .int)) ({ frames := 1, cells := 0, slots := 0, locals := 22 }) O [.ref (sk_ad O k)] M (fun r M' => r = (sk_sum (fun j => sk_sum (M (k + 3 + 10 * j + 4)) (pg_n M (k + 3 + 10 * j))) (st_n M k)) ∧ M' = M) := by
  refine sk_mi (by decide) ⟨rfl, rfl⟩ hO (Nat.le_of_ble_eq_true rfl) (fun X A Q C ret => ?_)
  show sk_W l X O A Q 3 0 0 M 0 [(0, .ref (sk_ad O k))] []
  have hw0 := hw
  obtain ⟨m, hm4, hm, hmj⟩ := hw
  refine k_iconst C (0) dX5_fallen_0 (by decide) ?_
  refine k_istoren C [1, 0] [(0, .ref (sk_ad O k)), (1, .int (0))] dX5_fallen_1 (by decide) rfl ?_
  refine k_iconst C (0) dX5_fallen_2 (by decide) ?_
  refine k_istoren C [1, 2, 0] [(0, .ref (sk_ad O k)), (1, .int (0)), (2, .int (0))] dX5_fallen_3 (by decide) rfl ?_
  have L4 : ∀ i, i ≤ m → sk_W l X O A Q 3 0 0 M 4 [(0, .ref (sk_ad O k)), (1, .int (sk_sum (fun j => sk_sum (M (k + 3 + 10 * j + 4)) (pg_n M (k + 3 + 10 * j))) i)), (2, .int (nI i))] [] := by
    refine sk_loop m (fun i hi4 ih4 => ?_)
    refine k_iloadn C 2 dX5_fallen_4 rfl ?_
    refine k_aloadn C 0 dX5_fallen_5 rfl ?_
    refine k_geti C (j := 2) kcl_X5 fl_X5_22 hk.1 (by decide) rfl dX5_fallen_6 ?_
    refine k_cge C 30 dX5_fallen_9 (by decide) (fun c9_1 => ?_) (fun c9_1 => ?_)
    ·
      have nc9_1 : m ≤ i := (sk_eI (a := m) (b := i) hm rfl (by omega) (by omega)).mp c9_1
      refine k_iloadn C 1 dX5_fallen_30 rfl ?_
      exact ret _ _ _ _ dX5_fallen_31 rfl (by obtain rfl : i = m := (by omega); exact ⟨by rw [st_n, hm, nI_clamp (by omega)], rfl⟩)
    ·
      have nc9_1 : ¬ (m ≤ i) := fun h => c9_1 ((sk_eI (a := m) (b := i) hm rfl (by omega) (by omega)).mpr h)
      refine k_iloadn C 1 dX5_fallen_12 rfl ?_
      refine k_aloadn C 0 dX5_fallen_13 rfl ?_
      refine k_getr C (j := 0) (k' := k + 1) kcl_X5 fl_X5_11 hk.1 (by decide) rfl dX5_fallen_14 ?_
      refine k_iloadn C 2 dX5_fallen_17 rfl ?_
      refine k_aald C (k' := k + 3 + 10 * i) i ((hk.2.1).1) (by decide) rfl (by omega) rfl dX5_fallen_18 ?_
      refine k_vi C (as := []) yvX2_fallen viX2_fallen ml_X5_54 (m_X2_fallen l C.2.2.2.1 M (k := k + 3 + 10 * i) (hk := (hk.2.1).2 i (by omega)) (hw := (hmj i (by omega)))) ((hk.2.1).2 i (by omega)).1 rfl rfl rfl (Nat.le_of_ble_eq_true rfl) (by decide) dX5_fallen_19 (fun x19_2 M19_2 h19_2 => ?_)
      rw [h19_2.1, h19_2.2]
      refine k_iadd C dX5_fallen_22 ?_
      refine k_istoren C [1, 0, 2] [(0, .ref (sk_ad O k)), (1, .int ((sk_sum (fun j => sk_sum (M (k + 3 + 10 * j + 4)) (pg_n M (k + 3 + 10 * j))) i) + (sk_sum (M ((k + 3 + 10 * i) + 4)) (pg_n M (k + 3 + 10 * i))))), (2, .int (nI i))] dX5_fallen_23 (by decide) rfl ?_
      refine k_iinc C 2 (nI (i + 1)) [1, 2, 0] [(0, .ref (sk_ad O k)), (1, .int ((sk_sum (fun j => sk_sum (M (k + 3 + 10 * j + 4)) (pg_n M (k + 3 + 10 * j))) i) + (sk_sum (M ((k + 3 + 10 * i) + 4)) (pg_n M (k + 3 + 10 * i))))), (2, .int (nI (i + 1)))] dX5_fallen_24 rfl (nI_add _ _) (by decide) rfl ?_
      refine k_goto C 4 dX5_fallen_27 (by decide) ?_
      exact ih4 (by omega)
  exact L4 0 (Nat.zero_le _)

set_option maxHeartbeats 4000000 in
set_option maxRecDepth 100000 in
theorem m_X5_allElements (l : Launch) {O : sk_O} (hO : sk_inj O) (M : sk_M) (k : Nat) (hk : sk_isS O k) (hw : st_wf M k) : sk_Mi l yX5_allElements (sk_w yX5_allElements cX5_allElements 3 (some .int)) ({ frames := 0, cells := 0, slots := 0, locals := 0 }) O [.ref (sk_ad O k)] M (fun r M' => r = (sk_sum (fun j => M (k + 3 + 10 * j) 9) (st_n M k)) ∧ M' = M) := by
  refine sk_mi (by decide) ⟨rfl, rfl⟩ hO (Nat.le_of_ble_eq_true rfl) (fun X A Q C ret => ?_)
  show sk_W l X O A Q 3 0 0 M 0 [(0, .ref (sk_ad O k))] []
  have hw0 := hw
  obtain ⟨m, hm4, hm, hmj⟩ := hw
  refine k_iconst C (0) dX5_allElements_0 (by decide) ?_
  refine k_istoren C [1, 0] [(0, .ref (sk_ad O k)), (1, .int (0))] dX5_allElements_1 (by decide) rfl ?_
  refine k_iconst C (0) dX5_allElements_2 (by decide) ?_
  refine k_istoren C [1, 2, 0] [(0, .ref (sk_ad O k)), (1, .int (0)), (2, .int (0))] dX5_allElements_3 (by decide) rfl ?_
  have L4 : ∀ i, i ≤ m → sk_W l X O A Q 3 0 0 M 4 [(0, .ref (sk_ad O k)), (1, .int (sk_sum (fun j => M (k + 3 + 10 * j) 9) i)), (2, .int (nI i))] [] := by
    refine sk_loop m (fun i hi4 ih4 => ?_)
    refine k_iloadn C 2 dX5_allElements_4 rfl ?_
    refine k_aloadn C 0 dX5_allElements_5 rfl ?_
    refine k_geti C (j := 2) kcl_X5 fl_X5_22 hk.1 (by decide) rfl dX5_allElements_6 ?_
    refine k_cge C 30 dX5_allElements_9 (by decide) (fun c9_1 => ?_) (fun c9_1 => ?_)
    ·
      have nc9_1 : m ≤ i := (sk_eI (a := m) (b := i) hm rfl (by omega) (by omega)).mp c9_1
      refine k_iloadn C 1 dX5_allElements_30 rfl ?_
      exact ret _ _ _ _ dX5_allElements_31 rfl (by obtain rfl : i = m := (by omega); exact ⟨by rw [st_n, hm, nI_clamp (by omega)], rfl⟩)
    ·
      have nc9_1 : ¬ (m ≤ i) := fun h => c9_1 ((sk_eI (a := m) (b := i) hm rfl (by omega) (by omega)).mpr h)
      refine k_iloadn C 1 dX5_allElements_12 rfl ?_
      refine k_aloadn C 0 dX5_allElements_13 rfl ?_
      refine k_getr C (j := 0) (k' := k + 1) kcl_X5 fl_X5_11 hk.1 (by decide) rfl dX5_allElements_14 ?_
      refine k_iloadn C 2 dX5_allElements_17 rfl ?_
      refine k_aald C (k' := k + 3 + 10 * i) i ((hk.2.1).1) (by decide) rfl (by omega) rfl dX5_allElements_18 ?_
      refine k_geti C (j := 9) kcl_X2 fl_X5_40 ((hk.2.1).2 i (by omega)).1 (by decide) rfl dX5_allElements_19 ?_
      refine k_iadd C dX5_allElements_22 ?_
      refine k_istoren C [1, 0, 2] [(0, .ref (sk_ad O k)), (1, .int ((sk_sum (fun j => M (k + 3 + 10 * j) 9) i) + (M (k + 3 + 10 * i) 9))), (2, .int (nI i))] dX5_allElements_23 (by decide) rfl ?_
      refine k_iinc C 2 (nI (i + 1)) [1, 2, 0] [(0, .ref (sk_ad O k)), (1, .int ((sk_sum (fun j => M (k + 3 + 10 * j) 9) i) + (M (k + 3 + 10 * i) 9))), (2, .int (nI (i + 1)))] dX5_allElements_24 rfl (nI_add _ _) (by decide) rfl ?_
      refine k_goto C 4 dX5_allElements_27 (by decide) ?_
      exact ih4 (by omega)
  exact L4 0 (Nat.zero_le _)

set_option maxHeartbeats 4000000 in
set_option maxRecDepth 100000 in
theorem m_X5_copyFrom (l : Launch) {O : sk_O} (hO : sk_inj O) (M : sk_M) (k f : Nat) (hk : sk_isS O k) (hf : sk_isS O f) (hw : st_wf M f) : sk_Mv l yX5_copyFrom (sk_w yX5_copyFrom cX5_copyFrom 3 none) ({ frames := 3, cells := 0, slots := 0, locals := 102 }) O [.ref (sk_ad O k), .ref (sk_ad O f)] M (fun M' => M' = (st_cf M k f)) := by
  refine sk_mv (by decide) ⟨rfl, rfl⟩ hO (Nat.le_of_ble_eq_true rfl) (fun X A Q C ret => ?_)
  show sk_W l X O A Q 3 0 0 M 0 [(0, .ref (sk_ad O k)), (1, .ref (sk_ad O f))] []
  have hw0 := hw
  obtain ⟨m, hm4, hm, hmj⟩ := hw
  refine k_aloadn C 0 dX5_copyFrom_0 rfl ?_
  refine k_aloadn C 1 dX5_copyFrom_1 rfl ?_
  refine k_geti C (j := 2) kcl_X5 fl_X5_22 hf.1 (by decide) rfl dX5_copyFrom_2 ?_
  refine k_puti C (j := 2) (ty := .int) tyX5 kcl_X5 tyX5_ok nmX5 fl_X5_22 hk.1 (by decide) rfl rfl (by decide +kernel) rfl rfl dX5_copyFrom_5 ?_
  refine k_iconst C (0) dX5_copyFrom_8 (by decide) ?_
  refine k_istoren C [1, 2, 0] [(0, .ref (sk_ad O k)), (1, .ref (sk_ad O f)), (2, .int (0))] dX5_copyFrom_9 (by decide) rfl ?_
  have L10 : ∀ i, i ≤ m → sk_W l X O A Q 3 0 0 (st_cl M k f i) 10 [(0, .ref (sk_ad O k)), (1, .ref (sk_ad O f)), (2, .int (nI i))] [] := by
    refine sk_loop m (fun i hi10 ih10 => ?_)
    refine k_iloadn C 2 dX5_copyFrom_10 rfl ?_
    refine k_aloadn C 0 dX5_copyFrom_11 rfl ?_
    refine k_geti C (j := 2) kcl_X5 fl_X5_22 hk.1 (by decide) rfl dX5_copyFrom_12 ?_
    refine k_cge C 39 dX5_copyFrom_15 (by decide) (fun c15_1 => ?_) (fun c15_1 => ?_)
    ·
      have nc15_1 : m ≤ i := (sk_eI (a := m) (b := i) (by rw [st_cl_2, hm]) rfl (by omega) (by omega)).mp c15_1
      refine k_aloadn C 1 dX5_copyFrom_39 rfl ?_
      refine k_getr C (j := 1) (k' := f + 2) kcl_X5 fl_X5_17 hf.1 (by decide) rfl dX5_copyFrom_40 ?_
      refine k_iconst C (0) dX5_copyFrom_43 (by decide) ?_
      refine k_aloadn C 0 dX5_copyFrom_44 rfl ?_
      refine k_getr C (j := 1) (k' := k + 2) kcl_X5 fl_X5_17 hk.1 (by decide) rfl dX5_copyFrom_45 ?_
      refine k_iconst C (0) dX5_copyFrom_48 (by decide) ?_
      refine k_iconst C (5) dX5_copyFrom_49 (by decide) ?_
      refine k_copy C (z0 := 5) (z1 := 5) 5 ml_X5_30 nat_acopy sta_acopy ini_java_lang_System hf.2.2 hk.2.2 (rfl : ((5) : Int32) = nI 5) rfl rfl (by omega) (by decide) dX5_copyFrom_50 ?_
      exact ret _ _ _ dX5_copyFrom_53 (by obtain rfl : i = m := (by omega); rw [st_cf, st_n, hm, nI_clamp (by omega)])
    ·
      have nc15_1 : ¬ (m ≤ i) := fun h => c15_1 ((sk_eI (a := m) (b := i) (by rw [st_cl_2, hm]) rfl (by omega) (by omega)).mpr h)
      refine k_aloadn C 0 dX5_copyFrom_18 rfl ?_
      refine k_getr C (j := 0) (k' := k + 1) kcl_X5 fl_X5_11 hk.1 (by decide) rfl dX5_copyFrom_19 ?_
      refine k_iloadn C 2 dX5_copyFrom_22 rfl ?_
      refine k_aald C (k' := k + 3 + 10 * i) i ((hk.2.1).1) (by decide) rfl (by omega) rfl dX5_copyFrom_23 ?_
      refine k_aloadn C 1 dX5_copyFrom_24 rfl ?_
      refine k_getr C (j := 0) (k' := f + 1) kcl_X5 fl_X5_11 hf.1 (by decide) rfl dX5_copyFrom_25 ?_
      refine k_iloadn C 2 dX5_copyFrom_28 rfl ?_
      refine k_aald C (k' := f + 3 + 10 * i) i ((hf.2.1).1) (by decide) rfl (by omega) rfl dX5_copyFrom_29 ?_
      refine k_vv C (as := [.ref (sk_ad O (f + 3 + 10 * i))]) yvX2_copyFrom viX2_copyFrom ml_X5_26 (m_X2_copyFrom l C.2.2.2.1 (st_cl M k f i) (k := k + 3 + 10 * i) (f := f + 3 + 10 * i) (hk := (hk.2.1).2 i (by omega)) (hf := (hf.2.1).2 i (by omega))) ((hk.2.1).2 i (by omega)).1 rfl rfl rfl (Nat.le_of_ble_eq_true rfl) (by decide) dX5_copyFrom_30 (fun M30_2 h30_2 => ?_)
      rw [h30_2]
      refine k_iinc C 2 (nI (i + 1)) [1, 2, 0] [(0, .ref (sk_ad O k)), (1, .ref (sk_ad O f)), (2, .int (nI (i + 1)))] dX5_copyFrom_33 rfl (nI_add _ _) (by decide) rfl ?_
      refine k_goto C 10 dX5_copyFrom_36 (by decide) ?_
      exact ih10 (by omega)
  exact L10 0 (Nat.zero_le _)
