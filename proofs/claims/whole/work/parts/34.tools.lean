/-! The model: copies, marks, calls, the diary -/
def mc_m (M : sk_M) (a b p q n : Nat) : sk_M := sk_mr M b (fun j => if q ≤ j ∧ j < q + n then M a (p + (j - q)) else M b j)
theorem mc_m_f {M : sk_M} {a b p q n x : Nat} (h : x ≠ b) : mc_m M a b p q n x = M x := by funext y; exact sk_nr h
theorem mc_m_v {M : sk_M} {a b p q n y : Nat} : mc_m M a b p q n b y = if q ≤ y ∧ y < q + n then M a (p + (y - q)) else M b y := by simp [mc_m, sk_mr]
theorem mc_m_0 {M : sk_M} {a b p q : Nat} : mc_m M a b p q 0 = M := by
  funext x y
  by_cases h : x = b
  · subst h; rw [mc_m_v, if_neg (by omega)]
  · rw [mc_m_f h]
theorem mc_m_s {M : sk_M} {a b p q n : Nat} : sk_ms (mc_m M a b p q n) b (q + n) (M a (p + n)) = mc_m M a b p q (n + 1) := by
  funext x y
  by_cases h : x = b
  · subst h
    rw [mc_m_v]
    by_cases g : y = q + n
    · subst g
      rw [sk_sm, if_pos (by omega), Nat.add_sub_cancel_left]
    · rw [sk_ne (Or.inr g), mc_m_v]
      by_cases z : q ≤ y ∧ y < q + n
      · rw [if_pos z, if_pos (by omega)]
      · rw [if_neg z, if_neg (by omega)]
  · rw [sk_ne (Or.inl h), mc_m_f h, mc_m_f h]
def my_v (v b : Int32) : Nat → Int32
  | 0 => v
  | n + 1 => my_v v b n / b
def my_m (M : sk_M) (a q : Nat) (v b d : Int32) : Nat → sk_M
  | 0 => M
  | n + 1 => sk_ms (my_m M a q v b d n) a (q + (4 - n)) (sk_rm (my_v v b n) b - d)
theorem my_m_f {M : sk_M} {a q x : Nat} {v b d : Int32} (h : x ≠ a) (n : Nat) : my_m M a q v b d n x = M x := by
  induction n with
  | zero => rfl
  | succ n ih => unfold my_m; rw [sk_nf h, ih]
def mo_dn : Nat → Int32
  | 0 => 4
  | n + 1 => mo_dn n + (-1)
theorem mo_dn_c : ∀ n, n < 6 → (mo_dn n < 0 ↔ 5 ≤ n) := by decide
theorem mo_dn_n : ∀ n, n < 5 → mo_dn n = nI (4 - n) := by decide
abbrev mo_wc (r : Nat → Int32) (s e p v : Int32) : Nat := er_3 (mo_hp r s e p) (¬ v < 0 ∧ ¬ 3 < v) (r (23 + 233 * s.toNatClampNeg + 18 * e.toNatClampNeg) = 0 ∧ (¬ v = 3 ∨ r (25 + 233 * s.toNatClampNeg + 18 * e.toNatClampNeg + 3 * p.toNatClampNeg) = 3 ∨ r (25 + 233 * s.toNatClampNeg + 18 * e.toNatClampNeg + 3 * p.toNatClampNeg) = 4))
theorem er3_le {P Q R : Prop} [Decidable P] [Decidable Q] [Decidable R] : er_3 P Q R ≤ 3 := by
  unfold er_3
  split
  · split
    · split <;> omega
    · omega
  · omega
def md_l (M : sk_M) (k i : Nat) : sk_M := sk_mr M (k + 4) (fun j => if j < i then M (k + 4) (j + 938) else M (k + 4) j)
theorem md_l_f {M : sk_M} {k i x : Nat} (h : x ≠ k + 4) : md_l M k i x = M x := by funext y; exact sk_nr h
theorem md_l_v {M : sk_M} {k i y : Nat} : md_l M k i (k + 4) y = if y < i then M (k + 4) (y + 938) else M (k + 4) y := by simp [md_l, sk_mr]
theorem md_l_0 {M : sk_M} {k : Nat} : md_l M k 0 = M := by
  funext x y
  by_cases h : x = k + 4
  · subst h; rw [md_l_v, if_neg (by omega)]
  · rw [md_l_f h]
theorem md_l_s {M : sk_M} {k i : Nat} : sk_ms (md_l M k i) (k + 4) i (M (k + 4) (i + 938)) = md_l M k (i + 1) := by
  funext x y
  by_cases h : x = k + 4
  · subst h
    rw [md_l_v]
    by_cases g : y = i
    · subst g
      rw [sk_sm, if_pos (by omega)]
    · rw [sk_ne (Or.inr g), md_l_v]
      by_cases z : y < i
      · rw [if_pos z, if_pos (by omega)]
      · rw [if_neg z, if_neg (by omega)]
  · rw [sk_ne (Or.inl h), md_l_f h, md_l_f h]
def mr_0 (M : sk_M) (k c : Nat) : sk_M := if c = 14 then sk_ms (md_l M k 12194) k 6 (nI 13) else M
def mr_c (c : Nat) : Nat := if c = 14 then 13 else c
theorem mr_c_le {c : Nat} (h : c ≤ 14) : mr_c c ≤ 13 := by unfold mr_c; split <;> omega
theorem mr_0_6 {M : sk_M} {k c : Nat} (h : M k 6 = nI c) : mr_0 M k c k 6 = nI (mr_c c) := by
  unfold mr_0 mr_c
  split
  · exact sk_sm
  · exact h
theorem mr_0_f {M : sk_M} {k c x : Nat} (h : x ≠ k) (h2 : x ≠ k + 4) : mr_0 M k c x = M x := by
  unfold mr_0
  split
  · rw [sk_nf h, md_l_f h2]
  · rfl
theorem mr_0_k {M : sk_M} {k c y : Nat} (h : y ≠ 6) : mr_0 M k c k y = M k y := by
  unfold mr_0
  split
  · rw [sk_ne (Or.inr h), md_l_f (by omega)]
  · rfl
def mr_m (M : sk_M) (k c : Nat) : sk_M := sk_ms (mc_m (mr_0 M k c) (k + 2) (k + 4) 0 (938 * mr_c c) 938) k 6 (mr_0 M k c k 6 + 1)
theorem mr_m_f {M : sk_M} {k c x : Nat} (h : x ≠ k) (h2 : x ≠ k + 4) : mr_m M k c x = M x := by
  unfold mr_m
  rw [sk_nf h, mc_m_f h2, mr_0_f h h2]
theorem mo_fi (w v : Int32) : st_fi w v ↔ (¬ w < 0 ∧ ¬ 4 < w) ∧ ¬ v < (if w = 0 then 50 else 0) ∧ ¬ (if w = 0 then 300 else if w = 2 then 12 else if w = 4 then 30 else 5) < v := by
  have e0 : w = 0 ↔ w.toInt = 0 := Int32.toInt_inj.symm
  have e1 : w = 1 ↔ w.toInt = 1 := Int32.toInt_inj.symm
  have e2 : w = 2 ↔ w.toInt = 2 := Int32.toInt_inj.symm
  have e3 : w = 3 ↔ w.toInt = 3 := Int32.toInt_inj.symm
  have e4 : w = 4 ↔ w.toInt = 4 := Int32.toInt_inj.symm
  have l0 : w < 0 ↔ w.toInt < 0 := Int32.lt_iff_toInt_lt
  have l4 : 4 < w ↔ 4 < w.toInt := Int32.lt_iff_toInt_lt
  have a0 : v < 0 ↔ v.toInt < 0 := Int32.lt_iff_toInt_lt
  have a50 : v < 50 ↔ v.toInt < 50 := Int32.lt_iff_toInt_lt
  have b5 : 5 < v ↔ 5 < v.toInt := Int32.lt_iff_toInt_lt
  have b12 : 12 < v ↔ 12 < v.toInt := Int32.lt_iff_toInt_lt
  have b30 : 30 < v ↔ 30 < v.toInt := Int32.lt_iff_toInt_lt
  have b300 : 300 < v ↔ 300 < v.toInt := Int32.lt_iff_toInt_lt
  unfold st_fi
  rw [← Int32.not_lt (a := 300), ← Int32.not_lt (a := 5), ← Int32.not_lt (a := 12), ← Int32.not_lt (a := 30)]
  by_cases h0 : w = 0
  · rw [if_pos h0, if_pos h0]; simp only [e0, e1, e2, e3, e4, l0, l4, a0, a50, b5, b12, b30, b300]; rw [e0] at h0; omega
  · rw [if_neg h0, if_neg h0]
    by_cases h2 : w = 2
    · rw [if_pos h2]; simp only [e0, e1, e2, e3, e4, l0, l4, a0, a50, b5, b12, b30, b300]; rw [e2] at h2; omega
    · rw [if_neg h2]
      by_cases h4 : w = 4
      · rw [if_pos h4]; simp only [e0, e1, e2, e3, e4, l0, l4, a0, a50, b5, b12, b30, b300]; rw [e4] at h4; omega
      · rw [if_neg h4]; simp only [e0, e1, e2, e3, e4, l0, l4, a0, a50, b5, b12, b30, b300]; rw [e0] at h0; rw [e2] at h2; rw [e4] at h4; omega
set_option maxHeartbeats 4000000 in
set_option maxRecDepth 100000 in
theorem m_X8_copyState (l : Launch) {O : sk_O} (hO : sk_inj O) (M : sk_M) (a b za zb : Nat) (ha : sk_is O a (0, za, sk_no)) (hb : sk_is O b (0, zb, sk_no)) (p : Nat) (xp : Int32) (hxp : xp = nI p) (q : Nat) (xq : Int32) (hxq : xq = nI q) (hza : p + 938 ≤ za) (hzb : q + 938 ≤ zb) (hz2 : za < 20000) (hz3 : zb < 20000) (hab : a ≠ b) : sk_Mv l yX8_copyState (sk_w yX8_copyState cX8_copyState 5 none) ({ frames := 0, cells := 0, slots := 0, locals := 0 }) O [.ref (sk_ad O a), .int xp, .ref (sk_ad O b), .int xq] M (fun M' => M' = (mc_m M a b p q 938)) := by
  refine sk_mv (by decide) ⟨rfl, rfl⟩ hO (Nat.le_of_ble_eq_true rfl) (fun X A Q C ret => ?_)
  show sk_W l X O A Q 5 0 0 M 0 [(0, .ref (sk_ad O a)), (1, .int xp), (2, .ref (sk_ad O b)), (3, .int xq)] []
  refine k_iconst C (0) dX8_copyState_0 (by decide) ?_
  refine k_istore C [1, 2, 3, 4, 0] [(0, .ref (sk_ad O a)), (1, .int xp), (2, .ref (sk_ad O b)), (3, .int xq), (4, .int (0))] dX8_copyState_1 (by decide) rfl ?_
  have L3 : ∀ i, i ≤ 938 → sk_W l X O A Q 5 0 0 (mc_m M a b p q i) 3 [(0, .ref (sk_ad O a)), (1, .int xp), (2, .ref (sk_ad O b)), (3, .int xq), (4, .int (nI i))] [] := by
    refine sk_loop 938 (fun i hi3 ih3 => ?_)
    refine k_iload C 4 dX8_copyState_3 rfl ?_
    refine k_sipush C (938) dX8_copyState_5 (by decide) ?_
    refine k_cge C 29 dX8_copyState_8 (by decide) (fun c8_1 => ?_) (fun c8_1 => ?_)
    ·
      have nc8_1 : 938 ≤ i := (sk_eI (a := 938) (b := i) (rfl : ((938) : Int32) = nI 938) rfl (by omega) (by omega)).mp c8_1
      exact ret _ _ _ dX8_copyState_29 (by obtain rfl : i = 938 := (by omega); exact rfl)
    ·
      have nc8_1 : ¬ (938 ≤ i) := fun h => c8_1 ((sk_eI (a := 938) (b := i) (rfl : ((938) : Int32) = nI 938) rfl (by omega) (by omega)).mpr h)
      refine k_aloadn C 2 dX8_copyState_11 rfl ?_
      refine k_iloadn C 3 dX8_copyState_12 rfl ?_
      refine k_iload C 4 dX8_copyState_13 rfl ?_
      refine k_iadd C dX8_copyState_15 ?_
      refine k_aloadn C 0 dX8_copyState_16 rfl ?_
      refine k_iloadn C 1 dX8_copyState_17 rfl ?_
      refine k_iload C 4 dX8_copyState_18 rfl ?_
      refine k_iadd C dX8_copyState_20 ?_
      refine k_ialdn C (p + i) ha (sk_nadd hxp rfl) (by omega) dX8_copyState_21 ?_
      refine k_top (M a (p + i)) (by rw [mc_m_f hab]) ?_
      refine k_iast C (q + i) hb (sk_nadd hxq rfl) (by omega) dX8_copyState_22 ?_
      refine k_iinc C 4 (nI (i + 1)) [1, 2, 3, 4, 0] [(0, .ref (sk_ad O a)), (1, .int xp), (2, .ref (sk_ad O b)), (3, .int xq), (4, .int (nI (i + 1)))] dX8_copyState_23 rfl (nI_add _ _) (by decide) rfl ?_
      refine k_goto C 3 dX8_copyState_26 (by decide) ?_
      refine k_eq mc_m_s rfl rfl rfl (ih3 (by omega))
  refine k_eq mc_m_0.symm rfl rfl rfl (L3 0 (Nat.zero_le _))

set_option maxHeartbeats 4000000 in
set_option maxRecDepth 100000 in
theorem m_X8_layMarks (l : Launch) {O : sk_O} (hO : sk_inj O) (M : sk_M) (a : Nat) (ha : sk_is O a (0, 938, sk_no)) (q : Nat) (xq : Int32) (hxq : xq = nI q) (v b d : Int32) (hq : q + 5 ≤ 938) (hb : ¬ b = 0) : sk_Mv l yX8_layMarks (sk_w yX8_layMarks cX8_layMarks 7 none) ({ frames := 0, cells := 0, slots := 0, locals := 0 }) O [.ref (sk_ad O a), .int xq, .int v, .int b, .int d] M (fun M' => M' = (my_m M a q v b d 5)) := by
  refine sk_mv (by decide) ⟨rfl, rfl⟩ hO (Nat.le_of_ble_eq_true rfl) (fun X A Q C ret => ?_)
  show sk_W l X O A Q 7 0 0 M 0 [(0, .ref (sk_ad O a)), (1, .int xq), (2, .int v), (3, .int b), (4, .int d)] []
  refine k_iloadn C 2 dX8_layMarks_0 rfl ?_
  refine k_istore C [1, 2, 3, 4, 5, 0] [(0, .ref (sk_ad O a)), (1, .int xq), (2, .int v), (3, .int b), (4, .int d), (5, .int v)] dX8_layMarks_1 (by decide) rfl ?_
  refine k_iconst C (4) dX8_layMarks_3 (by decide) ?_
  refine k_istore C [1, 2, 3, 4, 5, 6, 0] [(0, .ref (sk_ad O a)), (1, .int xq), (2, .int v), (3, .int b), (4, .int d), (5, .int v), (6, .int (4))] dX8_layMarks_4 (by decide) rfl ?_
  have L6 : ∀ n, n ≤ 5 → sk_W l X O A Q 7 0 0 (my_m M a q v b d n) 6 [(0, .ref (sk_ad O a)), (1, .int xq), (2, .int v), (3, .int b), (4, .int d), (5, .int (my_v v b n)), (6, .int (mo_dn n))] [] := by
    refine sk_loop 5 (fun n hi6 ih6 => ?_)
    refine k_iload C 6 dX8_layMarks_6 rfl ?_
    refine k_zlt C 36 dX8_layMarks_8 (by decide) (fun c8_1 => ?_) (fun c8_1 => ?_)
    ·
      obtain rfl : n = 5 := (by have h9 := (mo_dn_c n (by omega)).mp c8_1; omega)
      exact ret _ _ _ dX8_layMarks_36 (by rfl)
    ·
      have h5 : n < 5 := (by
        have h9 : ¬ 5 ≤ n := fun h => c8_1 ((mo_dn_c n (by omega)).mpr h)
        omega)
      refine k_aloadn C 0 dX8_layMarks_11 rfl ?_
      refine k_iloadn C 1 dX8_layMarks_12 rfl ?_
      refine k_iload C 6 dX8_layMarks_13 rfl ?_
      refine k_top (nI (4 - n)) (mo_dn_n n h5) ?_
      refine k_iadd C dX8_layMarks_15 ?_
      refine k_iload C 5 dX8_layMarks_16 rfl ?_
      refine k_iloadn C 3 dX8_layMarks_18 rfl ?_
      refine k_irem C dX8_layMarks_19 hb ?_
      refine k_iload C 4 dX8_layMarks_20 rfl ?_
      refine k_isub C dX8_layMarks_22 ?_
      refine k_iast C (q + (4 - n)) ha (sk_nadd hxq rfl) (by omega) dX8_layMarks_23 ?_
      refine k_iload C 5 dX8_layMarks_24 rfl ?_
      refine k_iloadn C 3 dX8_layMarks_26 rfl ?_
      refine k_idiv C dX8_layMarks_27 hb ?_
      refine k_istore C [1, 2, 3, 4, 5, 0, 6] [(0, .ref (sk_ad O a)), (1, .int xq), (2, .int v), (3, .int b), (4, .int d), (5, .int ((my_v v b n) / b)), (6, .int (mo_dn n))] dX8_layMarks_28 (by decide) rfl ?_
      refine k_iinc C 6 (mo_dn n + (-1)) [1, 2, 3, 4, 5, 6, 0] [(0, .ref (sk_ad O a)), (1, .int xq), (2, .int v), (3, .int b), (4, .int d), (5, .int ((my_v v b n) / b)), (6, .int (mo_dn n + (-1)))] dX8_layMarks_30 rfl rfl (by decide) rfl ?_
      refine k_goto C 6 dX8_layMarks_33 (by decide) ?_
      exact ih6 (by omega)
  exact L6 0 (Nat.zero_le _)

set_option maxHeartbeats 4000000 in
set_option maxRecDepth 100000 in
theorem m_X8_hasEdge (l : Launch) {O : sk_O} (hO : sk_inj O) (M : sk_M) (x : Int32) : sk_Mi l yX8_hasEdge (sk_w yX8_hasEdge cX8_hasEdge 1 (some .boolean)) ({ frames := 0, cells := 0, slots := 0, locals := 0 }) O [.int x] M (fun r M' => r = (if x = 3 ∨ x = 4 then 1 else 0) ∧ M' = M) := by
  refine sk_mi (by decide) ⟨rfl, rfl⟩ hO (Nat.le_of_ble_eq_true rfl) (fun X A Q C ret => ?_)
  show sk_W l X O A Q 1 0 0 M 0 [(0, .int x)] []
  refine k_iloadn C 0 dX8_hasEdge_0 rfl ?_
  refine k_iconst C (3) dX8_hasEdge_1 (by decide) ?_
  refine k_ceq C 10 dX8_hasEdge_2 (by decide) (fun c2_1 => ?_) (fun c2_1 => ?_)
  ·
    refine k_iconst C (1) dX8_hasEdge_10 (by decide) ?_
    refine k_goto C 15 dX8_hasEdge_11 (by decide) ?_
    exact ret _ _ _ _ dX8_hasEdge_15 rfl (by simp [*])
  ·
    refine k_iloadn C 0 dX8_hasEdge_5 rfl ?_
    refine k_iconst C (4) dX8_hasEdge_6 (by decide) ?_
    refine k_cne C 14 dX8_hasEdge_7 (by decide) (fun c7_2 => ?_) (fun c7_2 => ?_)
    ·
      refine k_iconst C (0) dX8_hasEdge_14 (by decide) ?_
      exact ret _ _ _ _ dX8_hasEdge_15 rfl (by simp [*])
    ·
      refine k_iconst C (1) dX8_hasEdge_10 (by decide) ?_
      refine k_goto C 15 dX8_hasEdge_11 (by decide) ?_
      exact ret _ _ _ _ dX8_hasEdge_15 rfl (by simp [*])

set_option maxHeartbeats 4000000 in
set_option maxRecDepth 100000 in
theorem m_X8_whyNotCall (l : Launch) {O : sk_O} (hO : sk_inj O) (M : sk_M) (a : Nat) (ha : sk_is O a (0, 938, sk_no)) (s e p v : Int32) (hw : mo_wf (M a)) : sk_Mi l yX8_whyNotCall (sk_w yX8_whyNotCall cX8_whyNotCall 5 (some .int)) ({ frames := 4, cells := 0, slots := 0, locals := 91 }) O [.ref (sk_ad O a), .int s, .int e, .int p, .int v] M (fun r M' => r = (nI (mo_wc (M a) s e p v)) ∧ M' = M) := by
  refine sk_mi (by decide) ⟨rfl, rfl⟩ hO (Nat.le_of_ble_eq_true rfl) (fun X A Q C ret => ?_)
  show sk_W l X O A Q 5 0 0 M 0 [(0, .ref (sk_ad O a)), (1, .int s), (2, .int e), (3, .int p), (4, .int v)] []
  obtain ⟨m, hm4, hm, hmj⟩ := id hw
  refine k_aloadn C 0 dX8_whyNotCall_0 rfl ?_
  refine k_iloadn C 1 dX8_whyNotCall_1 rfl ?_
  refine k_iloadn C 2 dX8_whyNotCall_2 rfl ?_
  refine k_iloadn C 3 dX8_whyNotCall_3 rfl ?_
  refine k_si C (as := [.ref (sk_ad O a), .int s, .int e, .int p]) yvX8_isPart vsX8_isPart ml_X8_212 (m_X8_isPart l C.2.2.2.1 M (a := a) (ha := ha) (s := s) (e := e) (p := p) (hw := hw)) rfl rfl (Nat.le_of_ble_eq_true rfl) (by decide) dX8_whyNotCall_4 (fun x4_1 M4_1 h4_1 => ?_)
  rw [h4_1.1, h4_1.2]
  refine k_zne C 12 dX8_whyNotCall_7 (by decide) (fun c7_2 => ?_) (fun c7_2 => ?_)
  ·
    have nc7_2 : mo_hp (M a) s e p := Classical.byContradiction (fun h => c7_2 (sk_b1.mpr h))
    obtain ⟨ix, ib⟩ := sk_ix nc7_2.1.1 hm (by omega)
    obtain ⟨N, hN12, hN, hNp⟩ := id (hmj _ ib)
    obtain ⟨ex, eb⟩ := sk_ix nc7_2.1.2 hN (by omega)
    obtain ⟨np, hnp, hpp⟩ := hNp _ eb
    obtain ⟨px, pb⟩ := sk_ix nc7_2.2 hpp (by omega)
    refine k_iload C 4 dX8_whyNotCall_12 rfl ?_
    refine k_i2l C dX8_whyNotCall_14 ?_
    refine k_lconst C (0) dX8_whyNotCall_15 (by decide) ?_
    refine k_ldcl C kc_X8_238 dX8_whyNotCall_16 ?_
    refine k_si C (as := [.long v.toInt64, .long (0), .long (3)]) yvX8_in vsX8_in ml_X8_64 (m_X8_in l C.2.2.2.1 M (v := v.toInt64) (p := (0)) (q := (3))) rfl rfl (Nat.le_of_ble_eq_true rfl) (by decide) dX8_whyNotCall_19 (fun x19_3 M19_3 h19_3 => ?_)
    rw [h19_3.1, h19_3.2]
    refine k_zne C 27 dX8_whyNotCall_22 (by decide) (fun c22_4 => ?_) (fun c22_4 => ?_)
    ·
      have nc22_4 : ¬ v.toInt64 < (0) ∧ ¬ (3) < v.toInt64 := Classical.byContradiction (fun h => c22_4 (sk_b1.mpr h))
      refine k_aloadn C 0 dX8_whyNotCall_27 rfl ?_
      refine k_iloadn C 1 dX8_whyNotCall_28 rfl ?_
      refine k_iloadn C 2 dX8_whyNotCall_29 rfl ?_
      refine k_si C (as := [.int s, .int e]) yvX8_elementAt vsX8_elementAt ml_X8_60 (m_X8_elementAt l C.2.2.2.1 M (s := s.toNatClampNeg) (xs := s) (hxs := ix) (e := e.toNatClampNeg) (xe := e) (hxe := ex)) rfl rfl (Nat.le_of_ble_eq_true rfl) (by decide) dX8_whyNotCall_30 (fun x30_5 M30_5 h30_5 => ?_)
      rw [h30_5.1, h30_5.2]
      refine k_iconst C (0) dX8_whyNotCall_33 (by decide) ?_
      refine k_iadd C dX8_whyNotCall_34 ?_
      refine k_ialdn C (23 + 233 * s.toNatClampNeg + 18 * e.toNatClampNeg) ha (sk_nadd (b := 0) rfl (rfl : ((0) : Int32) = nI 0)) (by omega) dX8_whyNotCall_35 ?_
      refine k_zne C 59 dX8_whyNotCall_36 (by decide) (fun c36_6 => ?_) (fun c36_6 => ?_)
      ·
        refine k_iconst C (3) dX8_whyNotCall_59 (by decide) ?_
        refine k_goto C 64 dX8_whyNotCall_60 (by decide) ?_
        exact ret _ _ _ _ dX8_whyNotCall_64 rfl (by exact ⟨congrArg nI (er3l nc7_2 ((in_k v 0 3 rfl rfl).mp nc22_4) (fun h => c36_6 h.1)).symm, rfl⟩)
      ·
        refine k_iload C 4 dX8_whyNotCall_39 rfl ?_
        refine k_iconst C (3) dX8_whyNotCall_41 (by decide) ?_
        refine k_cne C 63 dX8_whyNotCall_42 (by decide) (fun c42_7 => ?_) (fun c42_7 => ?_)
        ·
          refine k_iconst C (0) dX8_whyNotCall_63 (by decide) ?_
          exact ret _ _ _ _ dX8_whyNotCall_64 rfl (by exact ⟨congrArg nI (er3p nc7_2 ((in_k v 0 3 rfl rfl).mp nc22_4) ⟨c36_6, Or.inl c42_7⟩).symm, rfl⟩)
        ·
          refine k_aloadn C 0 dX8_whyNotCall_45 rfl ?_
          refine k_iloadn C 1 dX8_whyNotCall_46 rfl ?_
          refine k_iloadn C 2 dX8_whyNotCall_47 rfl ?_
          refine k_iloadn C 3 dX8_whyNotCall_48 rfl ?_
          refine k_si C (as := [.int s, .int e, .int p]) yvX8_partAt vsX8_partAt ml_X8_102 (m_X8_partAt l C.2.2.2.1 M (s := s.toNatClampNeg) (xs := s) (hxs := ix) (e := e.toNatClampNeg) (xe := e) (hxe := ex) (k := p.toNatClampNeg) (xk := p) (hxk := px)) rfl rfl (Nat.le_of_ble_eq_true rfl) (by decide) dX8_whyNotCall_49 (fun x49_8 M49_8 h49_8 => ?_)
          rw [h49_8.1, h49_8.2]
          refine k_ialdn C (25 + 233 * s.toNatClampNeg + 18 * e.toNatClampNeg + 3 * p.toNatClampNeg) ha rfl (by omega) dX8_whyNotCall_52 ?_
          refine k_si C (as := [.int (M a (25 + 233 * s.toNatClampNeg + 18 * e.toNatClampNeg + 3 * p.toNatClampNeg))]) yvX8_hasEdge vsX8_hasEdge ml_X8_185 (m_X8_hasEdge l C.2.2.2.1 M (x := M a (25 + 233 * s.toNatClampNeg + 18 * e.toNatClampNeg + 3 * p.toNatClampNeg))) rfl rfl (Nat.le_of_ble_eq_true rfl) (by decide) dX8_whyNotCall_53 (fun x53_9 M53_9 h53_9 => ?_)
          rw [h53_9.1, h53_9.2]
          refine k_zne C 63 dX8_whyNotCall_56 (by decide) (fun c56_10 => ?_) (fun c56_10 => ?_)
          ·
            have nc56_10 : (M a (25 + 233 * s.toNatClampNeg + 18 * e.toNatClampNeg + 3 * p.toNatClampNeg)) = 3 ∨ (M a (25 + 233 * s.toNatClampNeg + 18 * e.toNatClampNeg + 3 * p.toNatClampNeg)) = 4 := Classical.byContradiction (fun h => c56_10 (sk_b1.mpr h))
            refine k_iconst C (0) dX8_whyNotCall_63 (by decide) ?_
            exact ret _ _ _ _ dX8_whyNotCall_64 rfl (by exact ⟨congrArg nI (er3p nc7_2 ((in_k v 0 3 rfl rfl).mp nc22_4) ⟨c36_6, Or.inr nc56_10⟩).symm, rfl⟩)
          ·
            have nc56_10 : ¬ ((M a (25 + 233 * s.toNatClampNeg + 18 * e.toNatClampNeg + 3 * p.toNatClampNeg)) = 3 ∨ (M a (25 + 233 * s.toNatClampNeg + 18 * e.toNatClampNeg + 3 * p.toNatClampNeg)) = 4) := sk_b1.mp c56_10
            refine k_iconst C (3) dX8_whyNotCall_59 (by decide) ?_
            refine k_goto C 64 dX8_whyNotCall_60 (by decide) ?_
            exact ret _ _ _ _ dX8_whyNotCall_64 rfl (by exact ⟨congrArg nI (er3l nc7_2 ((in_k v 0 3 rfl rfl).mp nc22_4) (fun h => h.2.elim (fun z => z c42_7) nc56_10)).symm, rfl⟩)
    ·
      have nc22_4 : ¬ (¬ v.toInt64 < (0) ∧ ¬ (3) < v.toInt64) := sk_b1.mp c22_4
      refine k_iconst C (2) dX8_whyNotCall_25 (by decide) ?_
      exact ret _ _ _ _ dX8_whyNotCall_26 rfl (by exact ⟨congrArg nI (er3m nc7_2 (fun h => nc22_4 ((in_k v 0 3 rfl rfl).mpr h))).symm, rfl⟩)
  ·
    have nc7_2 : ¬ (mo_hp (M a) s e p) := sk_b1.mp c7_2
    refine k_iconst C (1) dX8_whyNotCall_10 (by decide) ?_
    exact ret _ _ _ _ dX8_whyNotCall_11 rfl (by exact ⟨congrArg nI (er3n nc7_2).symm, rfl⟩)

set_option maxHeartbeats 4000000 in
set_option maxRecDepth 100000 in
theorem m_X8_callOn (l : Launch) {O : sk_O} (hO : sk_inj O) (M : sk_M) (a : Nat) (ha : sk_is O a (0, 938, sk_no)) (s : Nat) (xs : Int32) (hxs : xs = nI s) (e : Nat) (xe : Int32) (hxe : xe = nI e) (p : Nat) (xp : Int32) (hxp : xp = nI p) (v : Int32) (hs : s < 4) (he : e < 12) (hp : p < 3) : sk_Mi l yX8_callOn (sk_w yX8_callOn cX8_callOn 6 (some .int)) ({ frames := 2, cells := 0, slots := 0, locals := 43 }) O [.ref (sk_ad O a), .int xs, .int xe, .int xp, .int v] M (fun r M' => r = (M a (25 + 233 * s + 18 * e + 3 * p + 2)) ∧ M' = (sk_ms M a (25 + 233 * s + 18 * e + 3 * p + 2) v)) := by
  refine sk_mi (by decide) ⟨rfl, rfl⟩ hO (Nat.le_of_ble_eq_true rfl) (fun X A Q C ret => ?_)
  show sk_W l X O A Q 6 0 0 M 0 [(0, .ref (sk_ad O a)), (1, .int xs), (2, .int xe), (3, .int xp), (4, .int v)] []
  refine k_aloadn C 0 dX8_callOn_0 rfl ?_
  refine k_iloadn C 1 dX8_callOn_1 rfl ?_
  refine k_iloadn C 2 dX8_callOn_2 rfl ?_
  refine k_iloadn C 3 dX8_callOn_3 rfl ?_
  refine k_si C (as := [.int xs, .int xe, .int xp]) yvX8_partAt vsX8_partAt ml_X8_102 (m_X8_partAt l C.2.2.2.1 M (s := s) (xs := xs) (hxs := hxs) (e := e) (xe := xe) (hxe := hxe) (k := p) (xk := xp) (hxk := hxp)) rfl rfl (Nat.le_of_ble_eq_true rfl) (by decide) dX8_callOn_4 (fun x4_1 M4_1 h4_1 => ?_)
  rw [h4_1.1, h4_1.2]
  refine k_iconst C (2) dX8_callOn_7 (by decide) ?_
  refine k_iadd C dX8_callOn_8 ?_
  refine k_ialdn C (25 + 233 * s + 18 * e + 3 * p + 2) ha (sk_nadd rfl (rfl : ((2) : Int32) = nI 2)) (by omega) dX8_callOn_9 ?_
  refine k_istore C [1, 2, 3, 4, 5, 0] [(0, .ref (sk_ad O a)), (1, .int xs), (2, .int xe), (3, .int xp), (4, .int v), (5, .int (M a (25 + 233 * s + 18 * e + 3 * p + 2)))] dX8_callOn_10 (by decide) rfl ?_
  refine k_aloadn C 0 dX8_callOn_12 rfl ?_
  refine k_iloadn C 1 dX8_callOn_13 rfl ?_
  refine k_iloadn C 2 dX8_callOn_14 rfl ?_
  refine k_iloadn C 3 dX8_callOn_15 rfl ?_
  refine k_si C (as := [.int xs, .int xe, .int xp]) yvX8_partAt vsX8_partAt ml_X8_102 (m_X8_partAt l C.2.2.2.1 M (s := s) (xs := xs) (hxs := hxs) (e := e) (xe := xe) (hxe := hxe) (k := p) (xk := xp) (hxk := hxp)) rfl rfl (Nat.le_of_ble_eq_true rfl) (by decide) dX8_callOn_16 (fun x16_2 M16_2 h16_2 => ?_)
  rw [h16_2.1, h16_2.2]
  refine k_iconst C (2) dX8_callOn_19 (by decide) ?_
  refine k_iadd C dX8_callOn_20 ?_
  refine k_iload C 4 dX8_callOn_21 rfl ?_
  refine k_iast C (25 + 233 * s + 18 * e + 3 * p + 2) ha (sk_nadd rfl (rfl : ((2) : Int32) = nI 2)) (by omega) dX8_callOn_23 ?_
  refine k_iload C 5 dX8_callOn_24 rfl ?_
  exact ret _ _ _ _ dX8_callOn_26 rfl (by exact ⟨rfl, rfl⟩)

set_option maxHeartbeats 4000000 in
set_option maxRecDepth 100000 in
theorem m_X8_refused (l : Launch) {O : sk_O} (hO : sk_inj O) (M : sk_M) (k : Nat) (x : Int32) (hk : sk_isM O k) : sk_Mi l yX8_refused (sk_w yX8_refused cX8_refused 2 (some .boolean)) ({ frames := 0, cells := 0, slots := 0, locals := 0 }) O [.ref (sk_ad O k), .int x] M (fun r M' => r = (if 0 < x then 1 else 0) ∧ M' = (sk_ms M k 0 x)) := by
  refine sk_mi (by decide) ⟨rfl, rfl⟩ hO (Nat.le_of_ble_eq_true rfl) (fun X A Q C ret => ?_)
  show sk_W l X O A Q 2 0 0 M 0 [(0, .ref (sk_ad O k)), (1, .int x)] []
  refine k_aloadn C 0 dX8_refused_0 rfl ?_
  refine k_iloadn C 1 dX8_refused_1 rfl ?_
  refine k_puti C (j := 0) (ty := .int) tyX8 kcl_X8 tyX8_ok nmX8 fl_X8_56 hk.1 (by decide) rfl rfl (by decide +kernel) rfl rfl dX8_refused_2 ?_
  refine k_iloadn C 1 dX8_refused_5 rfl ?_
  refine k_zle C 13 dX8_refused_6 (by decide) (fun c6_1 => ?_) (fun c6_1 => ?_)
  ·
    refine k_iconst C (0) dX8_refused_13 (by decide) ?_
    exact ret _ _ _ _ dX8_refused_14 rfl (by exact ⟨(if_neg (Int32.not_lt.mpr c6_1)).symm, rfl⟩)
  ·
    refine k_iconst C (1) dX8_refused_9 (by decide) ?_
    refine k_goto C 14 dX8_refused_10 (by decide) ?_
    exact ret _ _ _ _ dX8_refused_14 rfl (by exact ⟨(if_pos (Int32.not_le.mp c6_1)).symm, rfl⟩)

set_option maxHeartbeats 4000000 in
set_option maxRecDepth 100000 in
theorem m_X8_thrown (l : Launch) {O : sk_O} (hO : sk_inj O) (M : sk_M) (k : Nat) (hk : sk_isM O k) : sk_Mi l yX8_thrown (sk_w yX8_thrown cX8_thrown 1 (some .int)) ({ frames := 0, cells := 0, slots := 0, locals := 0 }) O [.ref (sk_ad O k)] M (fun r M' => r = (M k 0) ∧ M' = M) := by
  refine sk_mi (by decide) ⟨rfl, rfl⟩ hO (Nat.le_of_ble_eq_true rfl) (fun X A Q C ret => ?_)
  show sk_W l X O A Q 1 0 0 M 0 [(0, .ref (sk_ad O k))] []
  refine k_aloadn C 0 dX8_thrown_0 rfl ?_
  refine k_geti C (j := 0) kcl_X8 fl_X8_56 hk.1 (by decide) rfl dX8_thrown_1 ?_
  exact ret _ _ _ _ dX8_thrown_4 rfl (by exact ⟨rfl, rfl⟩)

set_option maxHeartbeats 4000000 in
set_option maxRecDepth 100000 in
theorem m_X8_remember (l : Launch) {O : sk_O} (hO : sk_inj O) (M : sk_M) (k c : Nat) (hk : sk_isM O k) (hc : M k 6 = nI c) (hc14 : c ≤ 14) : sk_Mv l yX8_remember (sk_w yX8_remember cX8_remember 2 none) ({ frames := 1, cells := 0, slots := 0, locals := 24 }) O [.ref (sk_ad O k)] M (fun M' => M' = (mr_m M k c)) := by
  refine sk_mv (by decide) ⟨rfl, rfl⟩ hO (Nat.le_of_ble_eq_true rfl) (fun X A Q C ret => ?_)
  show sk_W l X O A Q 2 0 0 M 0 [(0, .ref (sk_ad O k))] []
  have hmc := mr_c_le hc14
  refine k_aloadn C 0 dX8_remember_0 rfl ?_
  refine k_geti C (j := 6) kcl_X8 fl_X8_218 hk.1 (by decide) rfl dX8_remember_1 ?_
  refine k_bipush C (14) dX8_remember_4 (by decide) ?_
  have J50 : sk_W l X O A Q 2 0 0 (mr_0 M k c) 50 [(0, .ref (sk_ad O k))] [] := by
    refine k_aloadn C 0 dX8_remember_50 rfl ?_
    refine k_getr C (j := 3) (k' := k + 2) kcl_X8 fl_X8_13 hk.1 (by decide) rfl dX8_remember_51 ?_
    refine k_iconst C (0) dX8_remember_54 (by decide) ?_
    refine k_aloadn C 0 dX8_remember_55 rfl ?_
    refine k_getr C (j := 5) (k' := k + 4) kcl_X8 fl_X8_19 hk.1 (by decide) rfl dX8_remember_56 ?_
    refine k_sipush C (938) dX8_remember_59 (by decide) ?_
    refine k_aloadn C 0 dX8_remember_62 rfl ?_
    refine k_geti C (j := 6) kcl_X8 fl_X8_218 hk.1 (by decide) rfl dX8_remember_63 ?_
    refine k_imul C dX8_remember_66 ?_
    refine k_sv C (as := [.ref (sk_ad O (k + 2)), .int (0), .ref (sk_ad O (k + 4)), .int ((938) * ((mr_0 M k c) k 6))]) yvX8_copyState vsX8_copyState ml_X8_221 (m_X8_copyState l C.2.2.2.1 (mr_0 M k c) (a := k + 2) (b := k + 4) (za := 938) (zb := 13132) (ha := hk.2.2.1) (hb := hk.2.2.2.2.1) (p := 0) (xp := (0)) (hxp := (rfl : ((0) : Int32) = nI 0)) (q := 938 * (mr_c c)) (xq := (938) * ((mr_0 M k c) k 6)) (hxq := (sk_nmul (rfl : ((938) : Int32) = nI 938) (mr_0_6 hc))) (hza := (by omega)) (hzb := (by omega)) (hz2 := (by omega)) (hz3 := (by omega)) (hab := (by omega))) rfl rfl (Nat.le_of_ble_eq_true rfl) (by decide) dX8_remember_67 (fun M67_1 h67_1 => ?_)
    rw [h67_1]
    refine k_aloadn C 0 dX8_remember_70 rfl ?_
    refine k_dup C dX8_remember_71 rfl ?_
    refine k_geti C (j := 6) kcl_X8 fl_X8_218 hk.1 (by decide) rfl dX8_remember_72 ?_
    refine k_top ((mr_0 M k c) k 6) (by rw [mc_m_f (by omega)]) ?_
    refine k_iconst C (1) dX8_remember_75 (by decide) ?_
    refine k_iadd C dX8_remember_76 ?_
    refine k_puti C (j := 6) (ty := .int) tyX8 kcl_X8 tyX8_ok nmX8 fl_X8_218 hk.1 (by decide) rfl rfl (by decide +kernel) rfl rfl dX8_remember_77 ?_
    exact ret _ _ _ dX8_remember_80 (by exact rfl)
  refine k_cne C 50 dX8_remember_6 (by decide) (fun c6_2 => ?_) (fun c6_2 => ?_)
  ·
    have nc6_2 : ¬ (c = 14) := fun h => c6_2 ((sk_qI (a := c) (b := 14) hc (rfl : ((14) : Int32) = nI 14) (by omega) (by omega)).mpr h)
    exact k_eq (by rw [mr_0, if_neg (by omega)]) rfl rfl rfl J50
  ·
    have nc6_2 : c = 14 := (sk_qI (a := c) (b := 14) hc (rfl : ((14) : Int32) = nI 14) (by omega) (by omega)).mp c6_2
    refine k_iconst C (0) dX8_remember_9 (by decide) ?_
    refine k_istoren C [1, 0] [(0, .ref (sk_ad O k)), (1, .int (0))] dX8_remember_10 (by decide) rfl ?_
    have L11 : ∀ i, i ≤ 12194 → sk_W l X O A Q 2 0 0 (md_l M k i) 11 [(0, .ref (sk_ad O k)), (1, .int (nI i))] [] := by
      refine sk_loop 12194 (fun i hi11 ih11 => ?_)
      refine k_iloadn C 1 dX8_remember_11 rfl ?_
      refine k_sipush C (12194) dX8_remember_12 (by decide) ?_
      refine k_cge C 40 dX8_remember_15 (by decide) (fun c15_3 => ?_) (fun c15_3 => ?_)
      ·
        have nc15_3 : 12194 ≤ i := (sk_eI (a := 12194) (b := i) (rfl : ((12194) : Int32) = nI 12194) rfl (by omega) (by omega)).mp c15_3
        obtain rfl : i = 12194 := (by omega)
        refine k_aloadn C 0 dX8_remember_40 rfl ?_
        refine k_dup C dX8_remember_41 rfl ?_
        refine k_geti C (j := 6) kcl_X8 fl_X8_218 hk.1 (by decide) rfl dX8_remember_42 ?_
        refine k_top (M k 6) (by rw [md_l_f (by omega)]) ?_
        refine k_iconst C (1) dX8_remember_45 (by decide) ?_
        refine k_isub C dX8_remember_46 ?_
        refine k_puti C (j := 6) (ty := .int) tyX8 kcl_X8 tyX8_ok nmX8 fl_X8_218 hk.1 (by decide) rfl rfl (by decide +kernel) rfl rfl dX8_remember_47 ?_
        refine k_sub [0] (lv' := [(0, .ref (sk_ad O k))]) rfl ?_
        exact k_eq (by rw [mr_0, if_pos (by omega)]; exact congrArg (sk_ms _ k 6) (by rw [hc, show c = 14 from by omega]; rfl)) rfl rfl rfl J50
      ·
        have nc15_3 : ¬ (12194 ≤ i) := fun h => c15_3 ((sk_eI (a := 12194) (b := i) (rfl : ((12194) : Int32) = nI 12194) rfl (by omega) (by omega)).mpr h)
        refine k_aloadn C 0 dX8_remember_18 rfl ?_
        refine k_getr C (j := 5) (k' := k + 4) kcl_X8 fl_X8_19 hk.1 (by decide) rfl dX8_remember_19 ?_
        refine k_iloadn C 1 dX8_remember_22 rfl ?_
        refine k_aloadn C 0 dX8_remember_23 rfl ?_
        refine k_getr C (j := 5) (k' := k + 4) kcl_X8 fl_X8_19 hk.1 (by decide) rfl dX8_remember_24 ?_
        refine k_iloadn C 1 dX8_remember_27 rfl ?_
        refine k_sipush C (938) dX8_remember_28 (by decide) ?_
        refine k_iadd C dX8_remember_31 ?_
        refine k_ialdn C (i + 938) hk.2.2.2.2.1 (sk_nadd rfl (rfl : ((938) : Int32) = nI 938)) (by omega) dX8_remember_32 ?_
        refine k_top (M (k + 4) (i + 938)) (by rw [md_l_v, if_neg (by omega)]) ?_
        refine k_iast C i hk.2.2.2.2.1 rfl (by omega) dX8_remember_33 ?_
        refine k_iinc C 1 (nI (i + 1)) [1, 0] [(0, .ref (sk_ad O k)), (1, .int (nI (i + 1)))] dX8_remember_34 rfl (nI_add _ _) (by decide) rfl ?_
        refine k_goto C 11 dX8_remember_37 (by decide) ?_
        refine k_eq md_l_s rfl rfl rfl (ih11 (by omega))
    refine k_eq md_l_0.symm rfl rfl rfl (L11 0 (Nat.zero_le _))

set_option maxHeartbeats 4000000 in
set_option maxRecDepth 100000 in
theorem m_X8_isSetting (l : Launch) {O : sk_O} (hO : sk_inj O) (M : sk_M) (w v : Int32) : sk_Mi l yX8_isSetting (sk_w yX8_isSetting cX8_isSetting 2 (some .boolean)) ({ frames := 1, cells := 0, slots := 0, locals := 25 }) O [.int w, .int v] M (fun r M' => r = (if st_fi w v then 1 else 0) ∧ M' = M) := by
  refine sk_mi (by decide) ⟨rfl, rfl⟩ hO (Nat.le_of_ble_eq_true rfl) (fun X A Q C ret => ?_)
  show sk_W l X O A Q 2 0 0 M 0 [(0, .int w), (1, .int v)] []
  refine k_iloadn C 0 dX8_isSetting_0 rfl ?_
  refine k_i2l C dX8_isSetting_1 ?_
  refine k_lconst C (0) dX8_isSetting_2 (by decide) ?_
  refine k_ldcl C kc_X8_216 dX8_isSetting_3 ?_
  refine k_si C (as := [.long w.toInt64, .long (0), .long (4)]) yvX8_in vsX8_in ml_X8_64 (m_X8_in l C.2.2.2.1 M (v := w.toInt64) (p := (0)) (q := (4))) rfl rfl (Nat.le_of_ble_eq_true rfl) (by decide) dX8_isSetting_6 (fun x6_1 M6_1 h6_1 => ?_)
  rw [h6_1.1, h6_1.2]
  refine k_zeq C 70 dX8_isSetting_9 (by decide) (fun c9_2 => ?_) (fun c9_2 => ?_)
  ·
    have nc9_2 : ¬ (¬ w.toInt64 < (0) ∧ ¬ (4) < w.toInt64) := sk_b1.mp c9_2
    refine k_iconst C (0) dX8_isSetting_70 (by decide) ?_
    exact ret _ _ _ _ dX8_isSetting_71 rfl (by exact ⟨(if_neg (fun h => nc9_2 ((in_k w 0 4 rfl rfl).mpr ((mo_fi w v).mp h).1))).symm, rfl⟩)
  ·
    have nc9_2 : ¬ w.toInt64 < (0) ∧ ¬ (4) < w.toInt64 := Classical.byContradiction (fun h => c9_2 (sk_b1.mpr h))
    refine k_iloadn C 1 dX8_isSetting_12 rfl ?_
    refine k_i2l C dX8_isSetting_13 ?_
    refine k_iloadn C 0 dX8_isSetting_14 rfl ?_
    have J25 : sk_W l X O A Q 2 0 0 M 25 [(0, .int w), (1, .int v)] [.long (if w = 0 then (50 : Int64) else 0), .long v.toInt64] := by
      refine k_iloadn C 0 dX8_isSetting_25 rfl ?_
      have J60 : sk_W l X O A Q 2 0 0 M 60 [(0, .int w), (1, .int v)] [.long (if w = 0 then (300 : Int64) else if w = 2 then 12 else if w = 4 then 30 else 5), .long (if w = 0 then (50 : Int64) else 0), .long v.toInt64] := by
        refine k_si C (as := [.long v.toInt64, .long (if w = 0 then (50 : Int64) else 0), .long (if w = 0 then (300 : Int64) else if w = 2 then 12 else if w = 4 then 30 else 5)]) yvX8_in vsX8_in ml_X8_64 (m_X8_in l C.2.2.2.1 M (v := v.toInt64) (p := (if w = 0 then (50 : Int64) else 0)) (q := (if w = 0 then (300 : Int64) else if w = 2 then 12 else if w = 4 then 30 else 5))) rfl rfl (Nat.le_of_ble_eq_true rfl) (by decide) dX8_isSetting_60 (fun x60_3 M60_3 h60_3 => ?_)
        rw [h60_3.1, h60_3.2]
        refine k_zeq C 70 dX8_isSetting_63 (by decide) (fun c63_4 => ?_) (fun c63_4 => ?_)
        ·
          have nc63_4 : ¬ (¬ v.toInt64 < (if w = 0 then (50 : Int64) else 0) ∧ ¬ (if w = 0 then (300 : Int64) else if w = 2 then 12 else if w = 4 then 30 else 5) < v.toInt64) := sk_b1.mp c63_4
          refine k_iconst C (0) dX8_isSetting_70 (by decide) ?_
          exact ret _ _ _ _ dX8_isSetting_71 rfl (by exact ⟨(if_neg (fun h => nc63_4 ((in_k v (if w = 0 then 50 else 0) (if w = 0 then 300 else if w = 2 then 12 else if w = 4 then 30 else 5) (by split <;> rfl) (by split <;> first | rfl | (split <;> first | rfl | (split <;> rfl)))).mpr ((mo_fi w v).mp h).2))).symm, rfl⟩)
        ·
          have nc63_4 : ¬ v.toInt64 < (if w = 0 then (50 : Int64) else 0) ∧ ¬ (if w = 0 then (300 : Int64) else if w = 2 then 12 else if w = 4 then 30 else 5) < v.toInt64 := Classical.byContradiction (fun h => c63_4 (sk_b1.mpr h))
          refine k_iconst C (1) dX8_isSetting_66 (by decide) ?_
          refine k_goto C 71 dX8_isSetting_67 (by decide) ?_
          exact ret _ _ _ _ dX8_isSetting_71 rfl (by exact ⟨(if_pos ((mo_fi w v).mpr ⟨(in_k w 0 4 rfl rfl).mp nc9_2, (in_k v (if w = 0 then 50 else 0) (if w = 0 then 300 else if w = 2 then 12 else if w = 4 then 30 else 5) (by split <;> rfl) (by split <;> first | rfl | (split <;> first | rfl | (split <;> rfl)))).mp nc63_4⟩)).symm, rfl⟩)
      refine k_zne C 35 dX8_isSetting_26 (by decide) (fun c26_5 => ?_) (fun c26_5 => ?_)
      ·
        refine k_iloadn C 0 dX8_isSetting_35 rfl ?_
        refine k_iconst C (2) dX8_isSetting_36 (by decide) ?_
        refine k_cne C 46 dX8_isSetting_37 (by decide) (fun c37_6 => ?_) (fun c37_6 => ?_)
        ·
          refine k_iloadn C 0 dX8_isSetting_46 rfl ?_
          refine k_iconst C (4) dX8_isSetting_47 (by decide) ?_
          refine k_cne C 57 dX8_isSetting_48 (by decide) (fun c48_7 => ?_) (fun c48_7 => ?_)
          ·
            refine k_ldcl C kc_X8_199 dX8_isSetting_57 ?_
            exact k_eq rfl rfl rfl (congrArg (fun z => [Value.long z, Value.long (if w = 0 then (50 : Int64) else 0), Value.long v.toInt64]) (by rw [if_neg c26_5, if_neg c37_6, if_neg c48_7])) J60
          ·
            refine k_ldcl C kc_X8_255 dX8_isSetting_51 ?_
            refine k_goto C 60 dX8_isSetting_54 (by decide) ?_
            exact k_eq rfl rfl rfl (congrArg (fun z => [Value.long z, Value.long (if w = 0 then (50 : Int64) else 0), Value.long v.toInt64]) (by rw [if_neg c26_5, if_neg c37_6, if_pos c48_7])) J60
        ·
          refine k_ldcl C kc_X8_253 dX8_isSetting_40 ?_
          refine k_goto C 60 dX8_isSetting_43 (by decide) ?_
          exact k_eq rfl rfl rfl (congrArg (fun z => [Value.long z, Value.long (if w = 0 then (50 : Int64) else 0), Value.long v.toInt64]) (by rw [if_neg c26_5, if_pos c37_6])) J60
      ·
        refine k_ldcl C kc_X8_251 dX8_isSetting_29 ?_
        refine k_goto C 60 dX8_isSetting_32 (by decide) ?_
        exact k_eq rfl rfl rfl (congrArg (fun z => [Value.long z, Value.long (if w = 0 then (50 : Int64) else 0), Value.long v.toInt64]) (by rw [if_pos c26_5])) J60
    refine k_zne C 24 dX8_isSetting_15 (by decide) (fun c15_8 => ?_) (fun c15_8 => ?_)
    ·
      refine k_lconst C (0) dX8_isSetting_24 (by decide) ?_
      exact k_eq rfl rfl rfl (by rw [if_neg c15_8]) J25
    ·
      refine k_ldcl C kc_X8_249 dX8_isSetting_18 ?_
      refine k_goto C 25 dX8_isSetting_21 (by decide) ?_
      exact k_eq rfl rfl rfl (by rw [if_pos c15_8]) J25

