/-! The model: actions -/
def mr_d (r d : Nat → Int32) (c : Nat) : Nat → Int32 := fun y => if 938 * mr_c c ≤ y ∧ y < 938 * mr_c c + 938 then r (y - 938 * mr_c c) else if c = 14 ∧ y < 12194 then d (y + 938) else d y
theorem mr_m_4 {M : sk_M} {k c : Nat} : mr_m M k c (k + 4) = mr_d (M (k + 2)) (M (k + 4)) c := by
  funext y
  unfold mr_m mr_d
  rw [sk_nf (by omega), mc_m_v]
  by_cases h : 938 * mr_c c ≤ y ∧ y < 938 * mr_c c + 938
  · rw [if_pos h, if_pos h, mr_0_f (by omega) (by omega), Nat.zero_add]
  · rw [if_neg h, if_neg h]
    unfold mr_0
    by_cases h2 : c = 14
    · rw [if_pos h2, sk_ne (by omega), md_l_v]
      by_cases h3 : y < 12194
      · rw [if_pos h3, if_pos ⟨h2, h3⟩]
      · rw [if_neg h3, if_neg (fun q => h3 q.2)]
    · rw [if_neg h2, if_neg (fun q => h2 q.1)]
theorem mr_m_6 {M : sk_M} {k c : Nat} (h : M k 6 = nI c) : mr_m M k c k 6 = nI (mr_c c + 1) := by
  unfold mr_m
  rw [sk_sm, mr_0_6 h]
  exact nI_add _ 1
theorem mr_m_k {M : sk_M} {k c y : Nat} (h : y ≠ 6) : mr_m M k c k y = M k y := by
  unfold mr_m
  rw [sk_ne (Or.inr h), mc_m_f (by omega), mr_0_k h]
/-- what an action leaves behind: the row R is now, the diary has one more -/
def mo_h (k c : Nat) (M M' : sk_M) (R : Nat → Int32) : Prop := M' (k + 2) = R ∧ M' k 6 = nI (mr_c c + 1) ∧ M' (k + 4) = mr_d (M (k + 2)) (M (k + 4)) c ∧ M' k 2 = M k 2 ∧ ∀ a, (a < k ∨ k + 16 ≤ a ∨ a = k + 1 ∨ a = k + 5 ∨ a = k + 6) → M' a = M a
def mo_a (M : sk_M) (k c er : Nat) (A : Int32) (R : Nat → Int32) (r : Int32) (M' : sk_M) : Prop := (er = 0 ∧ r = A ∧ M' k 0 = 0 ∧ mo_h k c M M' R) ∨ (¬ er = 0 ∧ r = 0 ∧ M' = sk_ms M k 0 (nI er))
theorem mo_hk {M N M' : sk_M} {R : Nat → Int32} {k c : Nat} (hf : mt_f k M N) (hc : N k 6 = nI c) (h1 : ∀ x, x ≠ k + 2 → M' x = mr_m (sk_ms N k 0 0) k c x) (h2 : M' (k + 2) = R) : M' k 0 = 0 ∧ mo_h k c M M' R := by
  refine ⟨by rw [h1 _ (by omega), mr_m_k (by omega), sk_sm], h2, by rw [h1 _ (by omega), mr_m_6 (by rw [sk_ne (by omega)]; exact hc)], ?_, by rw [h1 _ (by omega), mr_m_k (by omega), sk_ne (by omega), hf.2 _ (by omega)], fun a ha => ?_⟩
  · rw [h1 _ (by omega), mr_m_4, sk_nf (by omega), sk_nf (by omega), hf.1 _ (by omega) (by omega), hf.1 _ (by omega) (by omega)]
  · rw [h1 _ (by omega), mr_m_f (by omega) (by omega), sk_nf (by omega), hf.1 _ (by omega) (by omega)]
theorem mo_ak {M M' : sk_M} {R : Nat → Int32} {k c er : Nat} {A r : Int32} (her : er = 0) (hc : M k 6 = nI c) (hA : r = A) (h1 : ∀ x, x ≠ k + 2 → M' x = mr_m (sk_ms M k 0 0) k c x) (h2 : M' (k + 2) = R) : mo_a M k c er A R r M' :=
  Or.inl ⟨her, hA, mo_hk mt_f.r hc h1 h2⟩
theorem mo_an {M : sk_M} {R : Nat → Int32} {k c er i : Nat} {A : Int32} (h : er = i) (hi : i ≠ 0) : mo_a M k c er A R 0 (sk_ms M k 0 (nI i)) := Or.inr ⟨by omega, rfl, by rw [h]⟩
theorem mo_aw {M : sk_M} {R : Nat → Int32} {k c er : Nat} {A : Int32} (h : (0 : Int32) < nI er) : mo_a M k c er A R 0 (sk_ms M k 0 (nI er)) := mo_an (i := er) rfl (by intro q; subst q; exact absurd h (by decide))
def my_w (r : Nat → Int32) (q : Nat) (v b d : Int32) : Nat → Nat → Int32
  | 0 => r
  | n + 1 => mu_u (my_w r q v b d n) (q + (4 - n)) (sk_rm (my_v v b n) b - d)
theorem my_m_w {M : sk_M} {a q : Nat} {v b d : Int32} : ∀ n, my_m M a q v b d n a = my_w (M a) q v b d n
  | 0 => rfl
  | n + 1 => by
    unfold my_m my_w
    rw [sk_msu, my_m_w n]
theorem my_w_n {r : Nat → Int32} {q y : Nat} {v b d : Int32} (h : y < q ∨ q + 5 ≤ y) : ∀ n, my_w r q v b d n y = r y
  | 0 => rfl
  | n + 1 => by
    unfold my_w
    rw [mu_n (by omega), my_w_n h n]
def mz_l (N : sk_M) (a q i : Nat) : sk_M := sk_mr N a (fun y => if q ≤ y ∧ y < q + i then 0 else N a y)
theorem mz_l_f {N : sk_M} {a q i x : Nat} (h : x ≠ a) : mz_l N a q i x = N x := by funext y; exact sk_nr h
theorem mz_l_v {N : sk_M} {a q i y : Nat} : mz_l N a q i a y = if q ≤ y ∧ y < q + i then 0 else N a y := by simp [mz_l, sk_mr]
theorem mz_l_0 {N : sk_M} {a q : Nat} : mz_l N a q 0 = N := by
  funext x y
  by_cases h : x = a
  · subst h; rw [mz_l_v, if_neg (by omega)]
  · rw [mz_l_f h]
theorem mz_l_s {N : sk_M} {a q i : Nat} : sk_ms (mz_l N a q i) a (q + i) 0 = mz_l N a q (i + 1) := by
  funext x y
  by_cases h : x = a
  · subst h
    rw [mz_l_v]
    by_cases g : y = q + i
    · subst g
      rw [sk_sm, if_pos (by omega)]
    · rw [sk_ne (Or.inr g), mz_l_v]
      by_cases z : q ≤ y ∧ y < q + i
      · rw [if_pos z, if_pos (by omega)]
      · rw [if_neg z, if_neg (by omega)]
  · rw [sk_ne (Or.inl h), mz_l_f h, mz_l_f h]
def mz_r (r : Nat → Int32) (q i : Nat) : Nat → Int32 := fun y => if q ≤ y ∧ y < q + i then 0 else r y
theorem mz_lr {N : sk_M} {a q i : Nat} : mz_l N a q i a = mz_r (N a) q i := by funext y; exact mz_l_v
theorem mc_mv0 {M : sk_M} {a b p : Nat} : mc_m M a b p 0 938 b 0 = M a p := by rw [mc_m_v, if_pos (by omega)]; rfl
def mo_q (M : sk_M) (k er : Nat) (A : Int32) (B : sk_M) (r : Int32) (M' : sk_M) : Prop := (er = 0 ∧ r = A ∧ M' = B) ∨ (¬ er = 0 ∧ r = 0 ∧ M' = sk_ms M k 0 (nI er))
theorem mo_qn {M B : sk_M} {k er i : Nat} {A : Int32} (h : er = i) (hi : i ≠ 0) : mo_q M k er A B 0 (sk_ms M k 0 (nI i)) := Or.inr ⟨by omega, rfl, by rw [h]⟩
def pr_l (N : sk_M) (k q : Nat) : Nat → sk_M
  | 0 => sk_ms N (k + 2) q (N (k + 7) 0)
  | n + 1 => sk_ms (pr_l N k q n) (k + 2) (q + (17 + n)) (N (k + 7) (17 + n))
theorem pr_l_f {N : sk_M} {k q a : Nat} (h : a ≠ k + 2) (n : Nat) : pr_l N k q n a = N a := by
  induction n with
  | zero => exact sk_nf h
  | succ n ih => unfold pr_l; rw [sk_nf h, ih]
theorem pr_l_s {N : sk_M} {T : Nat → Int32} {k q n : Nat} (h : N (k + 7) = T) : pr_l N k q (n + 1) = sk_ms (pr_l N k q n) (k + 2) (q + (17 + n)) (T (17 + n)) := by subst h; rfl
theorem pr_l_0 {N : sk_M} {T : Nat → Int32} {k q : Nat} (h : N (k + 7) = T) : pr_l N k q 0 = sk_ms N (k + 2) q (T 0) := by subst h; rfl
theorem pr_l_v {N : sk_M} {k q y : Nat} : ∀ n, pr_l N k q n (k + 2) y = if y = q then N (k + 7) 0 else if q + 17 ≤ y ∧ y < q + 17 + n then N (k + 7) (y - q) else N (k + 2) y
  | 0 => by
    unfold pr_l
    by_cases h : y = q
    · subst h; rw [sk_sm, if_pos rfl]
    · rw [sk_ne (Or.inr h), if_neg h, if_neg (by omega)]
  | n + 1 => by
    unfold pr_l
    by_cases h1 : y = q + (17 + n)
    · subst h1
      rw [sk_sm, if_neg (by omega), if_pos (by omega), Nat.add_sub_cancel_left]
    · rw [sk_ne (Or.inr h1), pr_l_v n]
      by_cases h2 : y = q
      · rw [if_pos h2, if_pos h2]
      · rw [if_neg h2, if_neg h2]
        by_cases h3 : q + 17 ≤ y ∧ y < q + 17 + n
        · rw [if_pos h3, if_pos (by omega)]
        · rw [if_neg h3, if_neg (by omega)]
def mo_pz (M : sk_M) (k n c : Nat) (s : Int32) (x : Int32) (M' : sk_M) : Prop :=
  (¬ mo_hs (M (k + 2)) s ∧ x = 0 ∧ M' k 0 = 1 ∧ mo_fr k M M') ∨ (mo_hs (M (k + 2)) s ∧ (∃ z, tt (tx (M (k + 1)) n) n = .inl z) ∧ x = 0 ∧ M' k 0 = 2 ∧ mo_fr k M M') ∨
  (mo_hs (M (k + 2)) s ∧ ∃ L T R, tt (tx (M (k + 1)) n) n = .inr L ∧ L.length ≤ 12 ∧ mx_h T L ∧ x = nI L.length ∧ (∀ y, R y = if y = 6 + 233 * s.toNatClampNeg then T 0 else if 6 + 233 * s.toNatClampNeg + 17 ≤ y ∧ y < 6 + 233 * s.toNatClampNeg + 17 + 216 then T (y - (6 + 233 * s.toNatClampNeg)) else M (k + 2) y) ∧ M' k 0 = 0 ∧ mo_h k c M M' R)
set_option maxHeartbeats 4000000 in
set_option maxRecDepth 100000 in
theorem m_X8_append (l : Launch) {O : sk_O} (hO : sk_inj O) (M : sk_M) (k : Nat) (hk : sk_isM O k) (v : Int32) (n : Nat) (hn : M k 2 = nI n) (hn2 : n ≤ 120) : sk_Mi l yX8_append (sk_w yX8_append cX8_append 2 (some .int)) ({ frames := 1, cells := 0, slots := 0, locals := 25 }) O [.ref (sk_ad O k), .int v] M (mo_q M k (er_2 (¬ v < 0 ∧ ¬ 255 < v) (n < 120)) (nI (n + 1)) (sk_ms (sk_ms (sk_ms M k 0 0) (k + 1) n v) k 2 (nI (n + 1)))) := by
  refine sk_mi (by decide) ⟨rfl, rfl⟩ hO (Nat.le_of_ble_eq_true rfl) (fun X A Q C ret => ?_)
  show sk_W l X O A Q 2 0 0 M 0 [(0, .ref (sk_ad O k)), (1, .int v)] []
  refine k_aloadn C 0 dX8_append_0 rfl ?_
  refine k_iloadn C 1 dX8_append_1 rfl ?_
  refine k_i2l C dX8_append_2 ?_
  refine k_lconst C (0) dX8_append_3 (by decide) ?_
  refine k_ldcl C kc_X8_159 dX8_append_4 ?_
  refine k_si C (as := [.long v.toInt64, .long (0), .long (255)]) yvX8_in vsX8_in ml_X8_64 (m_X8_in l C.2.2.2.1 M (v := v.toInt64) (p := (0)) (q := (255))) rfl rfl (Nat.le_of_ble_eq_true rfl) (by decide) dX8_append_7 (fun x7_1 M7_1 h7_1 => ?_)
  rw [h7_1.1, h7_1.2]
  refine k_zne C 17 dX8_append_10 (by decide) (fun c10_2 => ?_) (fun c10_2 => ?_)
  ·
    have nc10_2 : ¬ v.toInt64 < (0) ∧ ¬ (255) < v.toInt64 := Classical.byContradiction (fun h => c10_2 (sk_b1.mpr h))
    refine k_aloadn C 0 dX8_append_17 rfl ?_
    refine k_geti C (j := 2) kcl_X8 fl_X8_161 hk.1 (by decide) rfl dX8_append_18 ?_
    refine k_bipush C (120) dX8_append_21 (by decide) ?_
    refine k_cne C 30 dX8_append_23 (by decide) (fun c23_3 => ?_) (fun c23_3 => ?_)
    ·
      have nc23_3 : ¬ (n = 120) := fun h => c23_3 ((sk_qI (a := n) (b := 120) hn (rfl : ((120) : Int32) = nI 120) (by omega) (by omega)).mpr h)
      refine k_iconst C (0) dX8_append_30 (by decide) ?_
      refine k_vi C (as := [.int (0)]) yvX8_refused viX8_refused ml_X8_164 (m_X8_refused l C.2.2.2.1 M (k := k) (x := (0)) (hk := hk)) hk.1 rfl rfl rfl (Nat.le_of_ble_eq_true rfl) (by decide) dX8_append_31 (fun x31_4 M31_4 h31_4 => ?_)
      rw [h31_4.1, h31_4.2]
      refine k_top (0) (by decide) ?_
      refine k_zeq C 39 dX8_append_34 (by decide) (fun c34_5 => ?_) (fun c34_5 => ?_)
      ·
        refine k_aloadn C 0 dX8_append_39 rfl ?_
        refine k_getr C (j := 1) (k' := k + 1) kcl_X8 fl_X8_7 hk.1 (by decide) rfl dX8_append_40 ?_
        refine k_aloadn C 0 dX8_append_43 rfl ?_
        refine k_geti C (j := 2) kcl_X8 fl_X8_161 hk.1 (by decide) rfl dX8_append_44 ?_
        refine k_top (M k 2) (by rw [sk_ne (by omega)]) ?_
        refine k_iloadn C 1 dX8_append_47 rfl ?_
        refine k_iast C n hk.2.1 hn (by omega) dX8_append_48 ?_
        refine k_aloadn C 0 dX8_append_49 rfl ?_
        refine k_dup C dX8_append_50 rfl ?_
        refine k_geti C (j := 2) kcl_X8 fl_X8_161 hk.1 (by decide) rfl dX8_append_51 ?_
        refine k_top (M k 2) (by rw [sk_ne (by omega), sk_ne (by omega)]) ?_
        refine k_iconst C (1) dX8_append_54 (by decide) ?_
        refine k_iadd C dX8_append_55 ?_
        refine k_top (nI (n + 1)) (sk_nadd (b := 1) hn rfl) ?_
        refine k_puti C (j := 2) (ty := .int) tyX8 kcl_X8 tyX8_ok nmX8 fl_X8_161 hk.1 (by decide) rfl rfl (by decide +kernel) rfl rfl dX8_append_56 ?_
        refine k_aloadn C 0 dX8_append_59 rfl ?_
        refine k_geti C (j := 2) kcl_X8 fl_X8_161 hk.1 (by decide) rfl dX8_append_60 ?_
        refine k_top (nI (n + 1)) (by rw [sk_sm]) ?_
        exact ret _ _ _ _ dX8_append_63 rfl (by exact Or.inl ⟨er2p ((in_k v 0 255 rfl rfl).mp nc10_2) (by omega), rfl, rfl⟩)
      ·
        exact absurd c34_5 (by decide)
    ·
      have nc23_3 : n = 120 := (sk_qI (a := n) (b := 120) hn (rfl : ((120) : Int32) = nI 120) (by omega) (by omega)).mp c23_3
      refine k_iconst C (2) dX8_append_26 (by decide) ?_
      refine k_goto C 31 dX8_append_27 (by decide) ?_
      refine k_vi C (as := [.int (2)]) yvX8_refused viX8_refused ml_X8_164 (m_X8_refused l C.2.2.2.1 M (k := k) (x := (2)) (hk := hk)) hk.1 rfl rfl rfl (Nat.le_of_ble_eq_true rfl) (by decide) dX8_append_31 (fun x31_6 M31_6 h31_6 => ?_)
      rw [h31_6.1, h31_6.2]
      refine k_top (1) (by decide) ?_
      refine k_zeq C 39 dX8_append_34 (by decide) (fun c34_7 => ?_) (fun c34_7 => ?_)
      ·
        exact absurd c34_7 (by decide)
      ·
        refine k_iconst C (0) dX8_append_37 (by decide) ?_
        exact ret _ _ _ _ dX8_append_38 rfl (by exact mo_qn (i := 2) (er2m ((in_k v 0 255 rfl rfl).mp nc10_2) (by omega)) (by decide))
  ·
    have nc10_2 : ¬ (¬ v.toInt64 < (0) ∧ ¬ (255) < v.toInt64) := sk_b1.mp c10_2
    refine k_iconst C (1) dX8_append_13 (by decide) ?_
    refine k_goto C 31 dX8_append_14 (by decide) ?_
    refine k_vi C (as := [.int (1)]) yvX8_refused viX8_refused ml_X8_164 (m_X8_refused l C.2.2.2.1 M (k := k) (x := (1)) (hk := hk)) hk.1 rfl rfl rfl (Nat.le_of_ble_eq_true rfl) (by decide) dX8_append_31 (fun x31_8 M31_8 h31_8 => ?_)
    rw [h31_8.1, h31_8.2]
    refine k_top (1) (by decide) ?_
    refine k_zeq C 39 dX8_append_34 (by decide) (fun c34_9 => ?_) (fun c34_9 => ?_)
    ·
      exact absurd c34_9 (by decide)
    ·
      refine k_iconst C (0) dX8_append_37 (by decide) ?_
      exact ret _ _ _ _ dX8_append_38 rfl (by exact mo_qn (i := 1) (er2n (fun h => nc10_2 ((in_k v 0 255 rfl rfl).mpr h))) (by decide))

set_option maxHeartbeats 4000000 in
set_option maxRecDepth 100000 in
theorem m_X8_clearText (l : Launch) {O : sk_O} (hO : sk_inj O) (M : sk_M) (k : Nat) (hk : sk_isM O k) : sk_Mi l yX8_clearText (sk_w yX8_clearText cX8_clearText 2 (some .int)) ({ frames := 0, cells := 0, slots := 0, locals := 0 }) O [.ref (sk_ad O k)] M (fun r M' => r = (M k 2) ∧ M' = (sk_ms (sk_ms M k 0 0) k 2 0)) := by
  refine sk_mi (by decide) ⟨rfl, rfl⟩ hO (Nat.le_of_ble_eq_true rfl) (fun X A Q C ret => ?_)
  show sk_W l X O A Q 2 0 0 M 0 [(0, .ref (sk_ad O k))] []
  refine k_aloadn C 0 dX8_clearText_0 rfl ?_
  refine k_iconst C (0) dX8_clearText_1 (by decide) ?_
  refine k_puti C (j := 0) (ty := .int) tyX8 kcl_X8 tyX8_ok nmX8 fl_X8_56 hk.1 (by decide) rfl rfl (by decide +kernel) rfl rfl dX8_clearText_2 ?_
  refine k_aloadn C 0 dX8_clearText_5 rfl ?_
  refine k_geti C (j := 2) kcl_X8 fl_X8_161 hk.1 (by decide) rfl dX8_clearText_6 ?_
  refine k_top (M k 2) (by rw [sk_ne (by omega)]) ?_
  refine k_istoren C [1, 0] [(0, .ref (sk_ad O k)), (1, .int (M k 2))] dX8_clearText_9 (by decide) rfl ?_
  refine k_aloadn C 0 dX8_clearText_10 rfl ?_
  refine k_iconst C (0) dX8_clearText_11 (by decide) ?_
  refine k_puti C (j := 2) (ty := .int) tyX8 kcl_X8 tyX8_ok nmX8 fl_X8_161 hk.1 (by decide) rfl rfl (by decide +kernel) rfl rfl dX8_clearText_12 ?_
  refine k_iloadn C 1 dX8_clearText_15 rfl ?_
  exact ret _ _ _ _ dX8_clearText_16 rfl (by exact ⟨rfl, rfl⟩)

set_option maxHeartbeats 4000000 in
set_option maxRecDepth 100000 in
theorem m_X8_add (l : Launch) {O : sk_O} (hO : sk_inj O) (M : sk_M) (k : Nat) (hk : sk_isM O k) (c : Nat) (hc : M k 6 = nI c) (hc14 : c ≤ 14) (m : Nat) (hm4 : m ≤ 4) (hm : M (k + 2) 0 = nI m) (hmj : ∀ s, s < m → mo_wp (M (k + 2)) s) : sk_Mi l yX8_add (sk_w yX8_add cX8_add 2 (some .int)) ({ frames := 2, cells := 0, slots := 0, locals := 45 }) O [.ref (sk_ad O k)] M (mo_a M k c (er_1 (m < 4)) (nI m) (mu_u (mz_r (M (k + 2)) (6 + 233 * m) 233) 0 (nI (m + 1)))) := by
  refine sk_mi (by decide) ⟨rfl, rfl⟩ hO (Nat.le_of_ble_eq_true rfl) (fun X A Q C ret => ?_)
  show sk_W l X O A Q 2 0 0 M 0 [(0, .ref (sk_ad O k))] []
  refine k_aloadn C 0 dX8_add_0 rfl ?_
  refine k_aloadn C 0 dX8_add_1 rfl ?_
  refine k_getr C (j := 3) (k' := k + 2) kcl_X8 fl_X8_13 hk.1 (by decide) rfl dX8_add_2 ?_
  refine k_iconst C (0) dX8_add_5 (by decide) ?_
  refine k_ialdn C 0 hk.2.2.1 (rfl : ((0) : Int32) = nI 0) (by omega) dX8_add_6 ?_
  refine k_iconst C (4) dX8_add_7 (by decide) ?_
  refine k_cne C 15 dX8_add_8 (by decide) (fun c8_1 => ?_) (fun c8_1 => ?_)
  ·
    have nc8_1 : ¬ (m = 4) := fun h => c8_1 ((sk_qI (a := m) (b := 4) hm (rfl : ((4) : Int32) = nI 4) (by omega) (by omega)).mpr h)
    refine k_iconst C (0) dX8_add_15 (by decide) ?_
    refine k_vi C (as := [.int (0)]) yvX8_refused viX8_refused ml_X8_164 (m_X8_refused l C.2.2.2.1 M (k := k) (x := (0)) (hk := hk)) hk.1 rfl rfl rfl (Nat.le_of_ble_eq_true rfl) (by decide) dX8_add_16 (fun x16_2 M16_2 h16_2 => ?_)
    rw [h16_2.1, h16_2.2]
    refine k_top (0) (by decide) ?_
    refine k_zeq C 24 dX8_add_19 (by decide) (fun c19_3 => ?_) (fun c19_3 => ?_)
    ·
      refine k_aloadn C 0 dX8_add_24 rfl ?_
      refine k_vv C (as := []) yvX8_remember viX8_remember ml_X8_225 (m_X8_remember l C.2.2.2.1 (sk_ms M k 0 (0)) (k := k) (c := c) (hk := hk) (hc := (by rw [sk_ne (by omega)]; exact hc)) (hc14 := hc14)) hk.1 rfl rfl rfl (Nat.le_of_ble_eq_true rfl) (by decide) dX8_add_25 (fun M25_4 h25_4 => ?_)
      rw [h25_4]
      refine k_iconst C (0) dX8_add_28 (by decide) ?_
      refine k_istoren C [1, 0] [(0, .ref (sk_ad O k)), (1, .int (0))] dX8_add_29 (by decide) rfl ?_
      have L30 : ∀ i, i ≤ 233 → sk_W l X O A Q 2 0 0 (mz_l (mr_m (sk_ms M k 0 (0)) k c) (k + 2) (6 + 233 * m) i) 30 [(0, .ref (sk_ad O k)), (1, .int (nI i))] [] := by
        refine sk_loop 233 (fun i hi30 ih30 => ?_)
        refine k_iloadn C 1 dX8_add_30 rfl ?_
        refine k_sipush C (233) dX8_add_31 (by decide) ?_
        refine k_cge C 60 dX8_add_34 (by decide) (fun c34_5 => ?_) (fun c34_5 => ?_)
        ·
          have nc34_5 : 233 ≤ i := (sk_eI (a := 233) (b := i) (rfl : ((233) : Int32) = nI 233) rfl (by omega) (by omega)).mp c34_5
          obtain rfl : i = 233 := (by omega)
          refine k_aloadn C 0 dX8_add_60 rfl ?_
          refine k_getr C (j := 3) (k' := k + 2) kcl_X8 fl_X8_13 hk.1 (by decide) rfl dX8_add_61 ?_
          refine k_iconst C (0) dX8_add_64 (by decide) ?_
          refine k_dup2 C dX8_add_65 rfl rfl ?_
          refine k_ialdn C 0 hk.2.2.1 (rfl : ((0) : Int32) = nI 0) (by omega) dX8_add_66 ?_
          refine k_iconst C (1) dX8_add_67 (by decide) ?_
          refine k_iadd C dX8_add_68 ?_
          refine k_top (nI (m + 1)) (sk_nadd (b := 1) (by rw [mz_l_v, if_neg (by omega), mr_m_f (by omega) (by omega), sk_nf (by omega)]; exact hm) rfl) ?_
          refine k_iast C 0 hk.2.2.1 (rfl : ((0) : Int32) = nI 0) (by omega) dX8_add_69 ?_
          refine k_aloadn C 0 dX8_add_70 rfl ?_
          refine k_getr C (j := 3) (k' := k + 2) kcl_X8 fl_X8_13 hk.1 (by decide) rfl dX8_add_71 ?_
          refine k_iconst C (0) dX8_add_74 (by decide) ?_
          refine k_ialdn C 0 hk.2.2.1 (rfl : ((0) : Int32) = nI 0) (by omega) dX8_add_75 ?_
          refine k_top (nI (m + 1)) (by rw [sk_sm]) ?_
          refine k_iconst C (1) dX8_add_76 (by decide) ?_
          refine k_isub C dX8_add_77 ?_
          exact ret _ _ _ _ dX8_add_78 rfl (by exact mo_ak (er1p (by omega)) hc (sk_nsub (a := m + 1) (b := 1) rfl rfl (by omega)) (fun x hx => by rw [sk_nf hx, mz_l_f hx]) (by rw [sk_msu, mz_lr, mr_m_f (by omega) (by omega), sk_nf (by omega)]))
        ·
          have nc34_5 : ¬ (233 ≤ i) := fun h => c34_5 ((sk_eI (a := 233) (b := i) (rfl : ((233) : Int32) = nI 233) rfl (by omega) (by omega)).mpr h)
          refine k_aloadn C 0 dX8_add_37 rfl ?_
          refine k_getr C (j := 3) (k' := k + 2) kcl_X8 fl_X8_13 hk.1 (by decide) rfl dX8_add_38 ?_
          refine k_aloadn C 0 dX8_add_41 rfl ?_
          refine k_getr C (j := 3) (k' := k + 2) kcl_X8 fl_X8_13 hk.1 (by decide) rfl dX8_add_42 ?_
          refine k_iconst C (0) dX8_add_45 (by decide) ?_
          refine k_ialdn C 0 hk.2.2.1 (rfl : ((0) : Int32) = nI 0) (by omega) dX8_add_46 ?_
          refine k_si C (as := [.int ((mz_l (mr_m (sk_ms M k 0 (0)) k c) (k + 2) (6 + 233 * m) i) (k + 2) 0)]) yvX8_skaterAt vsX8_skaterAt ml_X8_72 (m_X8_skaterAt l C.2.2.2.1 (mz_l (mr_m (sk_ms M k 0 (0)) k c) (k + 2) (6 + 233 * m) i) (s := m) (xs := (mz_l (mr_m (sk_ms M k 0 (0)) k c) (k + 2) (6 + 233 * m) i) (k + 2) 0) (hxs := (by rw [mz_l_v, if_neg (by omega), mr_m_f (by omega) (by omega), sk_nf (by omega)]; exact hm))) rfl rfl (Nat.le_of_ble_eq_true rfl) (by decide) dX8_add_47 (fun x47_6 M47_6 h47_6 => ?_)
          rw [h47_6.1, h47_6.2]
          refine k_iloadn C 1 dX8_add_50 rfl ?_
          refine k_iadd C dX8_add_51 ?_
          refine k_iconst C (0) dX8_add_52 (by decide) ?_
          refine k_iast C (6 + 233 * m + i) hk.2.2.1 (sk_nadd rfl rfl) (by omega) dX8_add_53 ?_
          refine k_iinc C 1 (nI (i + 1)) [1, 0] [(0, .ref (sk_ad O k)), (1, .int (nI (i + 1)))] dX8_add_54 rfl (nI_add _ _) (by decide) rfl ?_
          refine k_goto C 30 dX8_add_57 (by decide) ?_
          refine k_eq mz_l_s rfl rfl rfl (ih30 (by omega))
      refine k_eq mz_l_0.symm rfl rfl rfl (L30 0 (Nat.zero_le _))
    ·
      exact absurd c19_3 (by decide)
  ·
    have nc8_1 : m = 4 := (sk_qI (a := m) (b := 4) hm (rfl : ((4) : Int32) = nI 4) (by omega) (by omega)).mp c8_1
    refine k_iconst C (1) dX8_add_11 (by decide) ?_
    refine k_goto C 16 dX8_add_12 (by decide) ?_
    refine k_vi C (as := [.int (1)]) yvX8_refused viX8_refused ml_X8_164 (m_X8_refused l C.2.2.2.1 M (k := k) (x := (1)) (hk := hk)) hk.1 rfl rfl rfl (Nat.le_of_ble_eq_true rfl) (by decide) dX8_add_16 (fun x16_7 M16_7 h16_7 => ?_)
    rw [h16_7.1, h16_7.2]
    refine k_top (1) (by decide) ?_
    refine k_zeq C 24 dX8_add_19 (by decide) (fun c19_8 => ?_) (fun c19_8 => ?_)
    ·
      exact absurd c19_8 (by decide)
    ·
      refine k_iconst C (0) dX8_add_22 (by decide) ?_
      exact ret _ _ _ _ dX8_add_23 rfl (by exact mo_an (i := 1) (er1n (by omega)) (by decide))

set_option maxHeartbeats 4000000 in
set_option maxRecDepth 100000 in
theorem m_X8_program (l : Launch) {O : sk_O} (hO : sk_inj O) (M : sk_M) (k : Nat) (hk : sk_isM O k) (s : Int32) (n : Nat) (hn : M k 2 = nI n) (hn2 : n ≤ 120) (hr : ∀ i, i < n → ¬ M (k + 1) i < 0 ∧ ¬ 255 < M (k + 1) i) (c : Nat) (hc : M k 6 = nI c) (hc14 : c ≤ 14) (m : Nat) (hm4 : m ≤ 4) (hm : M (k + 2) 0 = nI m) (hmj : ∀ s, s < m → mo_wp (M (k + 2)) s) : sk_Mi l yX8_program (sk_w yX8_program cX8_program 3 (some .int)) ({ frames := 5, cells := 0, slots := 0, locals := 107 }) O [.ref (sk_ad O k), .int s] M (mo_pz M k n c s) := by
  refine sk_mi (by decide) ⟨rfl, rfl⟩ hO (Nat.le_of_ble_eq_true rfl) (fun X A Q C ret => ?_)
  show sk_W l X O A Q 3 0 0 M 0 [(0, .ref (sk_ad O k)), (1, .int s)] []
  have hw : mo_wf (M (k + 2)) := ⟨m, hm4, hm, hmj⟩
  refine k_aloadn C 0 dX8_program_0 rfl ?_
  refine k_aloadn C 0 dX8_program_1 rfl ?_
  refine k_getr C (j := 3) (k' := k + 2) kcl_X8 fl_X8_13 hk.1 (by decide) rfl dX8_program_2 ?_
  refine k_iloadn C 1 dX8_program_5 rfl ?_
  refine k_si C (as := [.ref (sk_ad O (k + 2)), .int s]) yvX8_isSkater vsX8_isSkater ml_X8_68 (m_X8_isSkater l C.2.2.2.1 M (a := k + 2) (ha := hk.2.2.1) (s := s) (hw := hw)) rfl rfl (Nat.le_of_ble_eq_true rfl) (by decide) dX8_program_6 (fun x6_1 M6_1 h6_1 => ?_)
  rw [h6_1.1, h6_1.2]
  refine k_zne C 16 dX8_program_9 (by decide) (fun c9_2 => ?_) (fun c9_2 => ?_)
  ·
    have nc9_2 : mo_hs (M (k + 2)) s := Classical.byContradiction (fun h => c9_2 (sk_b1.mpr h))
    obtain ⟨ix, ib⟩ := sk_ix nc9_2 hm (by omega)
    obtain ⟨N, hN12, hN, hNp⟩ := id (hmj _ ib)
    have hcN : mo_c (M (k + 2)) s.toNatClampNeg = N := (by show (M (k + 2) _).toNatClampNeg = N; rw [hN, nI_clamp (by omega)])
    rw [← hcN] at hN12 hN hNp
    refine k_aloadn C 0 dX8_program_16 rfl ?_
    refine k_vi C (as := []) yvX8_readText viX8_readText ml_X8_196 (m_X8_readText l C.2.2.2.1 M (k := k) (n := n) (S := M (k + 1)) (hk := hk) (hS := rfl) (hn := hn) (hn2 := hn2) (hr := hr)) hk.1 rfl rfl rfl (Nat.le_of_ble_eq_true rfl) (by decide) dX8_program_17 (fun x17_3 M17_3 h17_3 => ?_)
    obtain ⟨M9, rfl⟩ : ∃ z, z = M17_3 := ⟨_, rfl⟩
    rcases h17_3 with ⟨x9, q1, rfl, q3⟩ | ⟨L, q1, rfl, q3, q4, q5⟩
    ·
      have hx9 := tt_el q1
      refine k_iconst C (-1) dX8_program_20 (by decide) ?_
      refine k_cne C 28 dX8_program_21 (by decide) (fun c21_4 => ?_) (fun c21_4 => ?_)
      ·
        refine k_iconst C (2) dX8_program_28 (by decide) ?_
        refine k_vi C (as := [.int (2)]) yvX8_refused viX8_refused ml_X8_164 (m_X8_refused l C.2.2.2.1 M9 (k := k) (x := (2)) (hk := hk)) hk.1 rfl rfl rfl (Nat.le_of_ble_eq_true rfl) (by decide) dX8_program_29 (fun x29_5 M29_5 h29_5 => ?_)
        rw [h29_5.1, h29_5.2]
        refine k_top (1) (by decide) ?_
        refine k_zeq C 37 dX8_program_32 (by decide) (fun c32_6 => ?_) (fun c32_6 => ?_)
        ·
          exact absurd c32_6 (by decide)
        ·
          refine k_iconst C (0) dX8_program_35 (by decide) ?_
          exact ret _ _ _ _ dX8_program_36 rfl (by exact Or.inr (Or.inl ⟨nc9_2, ⟨x9, q1⟩, rfl, mo_g3 (mo_g.x mo_g.r q3) rfl⟩))
      ·
        exact absurd c21_4 (sk_nm1 (by omega)) --done
    ·
      have hc9 : M9 k 6 = nI c := (q4.2 _ (by omega)).trans hc
      have e2 : M9 (k + 2) = M (k + 2) := q4.1 _ (by omega) (by omega)
      have e7 : mr_m (sk_ms M9 k 0 0) k c (k + 7) = M9 (k + 7) := by rw [mr_m_f (by omega) (by omega), sk_nf (by omega)]
      refine k_iconst C (-1) dX8_program_20 (by decide) ?_
      refine k_cne C 28 dX8_program_21 (by decide) (fun c21_7 => ?_) (fun c21_7 => ?_)
      ·
        exact absurd c21_7 (by decide)
      ·
        refine k_iconst C (0) dX8_program_24 (by decide) ?_
        refine k_goto C 29 dX8_program_25 (by decide) ?_
        refine k_vi C (as := [.int (0)]) yvX8_refused viX8_refused ml_X8_164 (m_X8_refused l C.2.2.2.1 M9 (k := k) (x := (0)) (hk := hk)) hk.1 rfl rfl rfl (Nat.le_of_ble_eq_true rfl) (by decide) dX8_program_29 (fun x29_8 M29_8 h29_8 => ?_)
        rw [h29_8.1, h29_8.2]
        refine k_top (0) (by decide) ?_
        refine k_zeq C 37 dX8_program_32 (by decide) (fun c32_9 => ?_) (fun c32_9 => ?_)
        ·
          refine k_aloadn C 0 dX8_program_37 rfl ?_
          refine k_vv C (as := []) yvX8_remember viX8_remember ml_X8_225 (m_X8_remember l C.2.2.2.1 (sk_ms M9 k 0 (0)) (k := k) (c := c) (hk := hk) (hc := (by rw [sk_ne (by omega)]; exact hc9)) (hc14 := hc14)) hk.1 rfl rfl rfl (Nat.le_of_ble_eq_true rfl) (by decide) dX8_program_38 (fun M38_10 h38_10 => ?_)
          rw [h38_10]
          refine k_aloadn C 0 dX8_program_41 rfl ?_
          refine k_getr C (j := 3) (k' := k + 2) kcl_X8 fl_X8_13 hk.1 (by decide) rfl dX8_program_42 ?_
          refine k_iloadn C 1 dX8_program_45 rfl ?_
          refine k_si C (as := [.int s]) yvX8_skaterAt vsX8_skaterAt ml_X8_72 (m_X8_skaterAt l C.2.2.2.1 (mr_m (sk_ms M9 k 0 (0)) k c) (s := s.toNatClampNeg) (xs := s) (hxs := ix)) rfl rfl (Nat.le_of_ble_eq_true rfl) (by decide) dX8_program_46 (fun x46_11 M46_11 h46_11 => ?_)
          rw [h46_11.1, h46_11.2]
          refine k_iconst C (0) dX8_program_49 (by decide) ?_
          refine k_iadd C dX8_program_50 ?_
          refine k_aloadn C 0 dX8_program_51 rfl ?_
          refine k_getr C (j := 9) (k' := k + 7) kcl_X8 fl_X8_29 hk.1 (by decide) rfl dX8_program_52 ?_
          refine k_iconst C (0) dX8_program_55 (by decide) ?_
          refine k_ialdn C 0 hk.2.2.2.2.2.2.2.1 (rfl : ((0) : Int32) = nI 0) (by omega) dX8_program_56 ?_
          refine k_top (M9 (k + 7) 0) (by rw [mr_m_f (by omega) (by omega), sk_ne (by omega)]) ?_
          refine k_iast C (6 + 233 * s.toNatClampNeg) hk.2.2.1 (sk_nadd (b := 0) rfl (rfl : ((0) : Int32) = nI 0)) (by omega) dX8_program_57 ?_
          refine k_bipush C (17) dX8_program_58 (by decide) ?_
          refine k_istoren C [1, 2, 0] [(0, .ref (sk_ad O k)), (1, .int s), (2, .int (17))] dX8_program_60 (by decide) rfl ?_
          have L61 : ∀ n9, n9 ≤ 216 → sk_W l X O A Q 3 0 0 (pr_l (mr_m (sk_ms M9 k 0 (0)) k c) k (6 + 233 * s.toNatClampNeg) n9) 61 [(0, .ref (sk_ad O k)), (1, .int s), (2, .int (nI (17 + n9)))] [] := by
            refine sk_loop 216 (fun n9 hi61 ih61 => ?_)
            refine k_iloadn C 2 dX8_program_61 rfl ?_
            refine k_sipush C (233) dX8_program_62 (by decide) ?_
            refine k_cge C 91 dX8_program_65 (by decide) (fun c65_12 => ?_) (fun c65_12 => ?_)
            ·
              have nc65_12 : 233 ≤ (17 + n9) := (sk_eI (a := 233) (b := (17 + n9)) (rfl : ((233) : Int32) = nI 233) rfl (by omega) (by omega)).mp c65_12
              obtain rfl : n9 = 216 := (by omega)
              refine k_aloadn C 0 dX8_program_91 rfl ?_
              refine k_getr C (j := 9) (k' := k + 7) kcl_X8 fl_X8_29 hk.1 (by decide) rfl dX8_program_92 ?_
              refine k_iconst C (0) dX8_program_95 (by decide) ?_
              refine k_ialdn C 0 hk.2.2.2.2.2.2.2.1 (rfl : ((0) : Int32) = nI 0) (by omega) dX8_program_96 ?_
              refine k_top (M9 (k + 7) 0) (by rw [pr_l_f (by omega) _, mr_m_f (by omega) (by omega), sk_ne (by omega)]) ?_
              exact ret _ _ _ _ dX8_program_97 rfl (by exact Or.inr (Or.inr ⟨nc9_2, L, M9 (k + 7), _, q1, q3, q5, q5.1, fun y => by rw [pr_l_v 216, e7, mr_m_f (by omega) (by omega), sk_nf (by omega), e2], mo_hk q4 hc9 (fun x hx => pr_l_f hx _) rfl⟩))
            ·
              have nc65_12 : ¬ (233 ≤ (17 + n9)) := fun h => c65_12 ((sk_eI (a := 233) (b := (17 + n9)) (rfl : ((233) : Int32) = nI 233) rfl (by omega) (by omega)).mpr h)
              refine k_aloadn C 0 dX8_program_68 rfl ?_
              refine k_getr C (j := 3) (k' := k + 2) kcl_X8 fl_X8_13 hk.1 (by decide) rfl dX8_program_69 ?_
              refine k_iloadn C 1 dX8_program_72 rfl ?_
              refine k_si C (as := [.int s]) yvX8_skaterAt vsX8_skaterAt ml_X8_72 (m_X8_skaterAt l C.2.2.2.1 (pr_l (mr_m (sk_ms M9 k 0 (0)) k c) k (6 + 233 * s.toNatClampNeg) n9) (s := s.toNatClampNeg) (xs := s) (hxs := ix)) rfl rfl (Nat.le_of_ble_eq_true rfl) (by decide) dX8_program_73 (fun x73_13 M73_13 h73_13 => ?_)
              rw [h73_13.1, h73_13.2]
              refine k_iloadn C 2 dX8_program_76 rfl ?_
              refine k_iadd C dX8_program_77 ?_
              refine k_aloadn C 0 dX8_program_78 rfl ?_
              refine k_getr C (j := 9) (k' := k + 7) kcl_X8 fl_X8_29 hk.1 (by decide) rfl dX8_program_79 ?_
              refine k_iloadn C 2 dX8_program_82 rfl ?_
              refine k_ialdn C (17 + n9) hk.2.2.2.2.2.2.2.1 rfl (by omega) dX8_program_83 ?_
              refine k_top (M9 (k + 7) (17 + n9)) (by rw [pr_l_f (by omega) _, mr_m_f (by omega) (by omega), sk_ne (by omega)]) ?_
              refine k_iast C (6 + 233 * s.toNatClampNeg + (17 + n9)) hk.2.2.1 (sk_nadd rfl rfl) (by omega) dX8_program_84 ?_
              refine k_iinc C 2 (nI ((17 + n9) + 1)) [1, 2, 0] [(0, .ref (sk_ad O k)), (1, .int s), (2, .int (nI ((17 + n9) + 1)))] dX8_program_85 rfl (nI_add _ _) (by decide) rfl ?_
              refine k_goto C 61 dX8_program_88 (by decide) ?_
              refine k_eq (pr_l_s e7).symm rfl rfl rfl (ih61 (by omega))
          refine k_eq (pr_l_0 e7).symm rfl rfl rfl (L61 0 (Nat.zero_le _))
        ·
          exact absurd c32_9 (by decide)
  ·
    have nc9_2 : ¬ (mo_hs (M (k + 2)) s) := sk_b1.mp c9_2
    refine k_iconst C (1) dX8_program_12 (by decide) ?_
    refine k_goto C 29 dX8_program_13 (by decide) ?_
    refine k_vi C (as := [.int (1)]) yvX8_refused viX8_refused ml_X8_164 (m_X8_refused l C.2.2.2.1 M (k := k) (x := (1)) (hk := hk)) hk.1 rfl rfl rfl (Nat.le_of_ble_eq_true rfl) (by decide) dX8_program_29 (fun x29_14 M29_14 h29_14 => ?_)
    rw [h29_14.1, h29_14.2]
    refine k_top (1) (by decide) ?_
    refine k_zeq C 37 dX8_program_32 (by decide) (fun c32_15 => ?_) (fun c32_15 => ?_)
    ·
      exact absurd c32_15 (by decide)
    ·
      refine k_iconst C (0) dX8_program_35 (by decide) ?_
      exact ret _ _ _ _ dX8_program_36 rfl (by exact Or.inl ⟨nc9_2, rfl, mo_g3 mo_g.r rfl⟩)

set_option maxHeartbeats 4000000 in
set_option maxRecDepth 100000 in
theorem m_X8_mark (l : Launch) {O : sk_O} (hO : sk_inj O) (M : sk_M) (k : Nat) (hk : sk_isM O k) (s e v : Int32) (c : Nat) (hc : M k 6 = nI c) (hc14 : c ≤ 14) (m : Nat) (hm4 : m ≤ 4) (hm : M (k + 2) 0 = nI m) (hmj : ∀ s, s < m → mo_wp (M (k + 2)) s) : sk_Mi l yX8_mark (sk_w yX8_mark cX8_mark 4 (some .int)) ({ frames := 3, cells := 0, slots := 0, locals := 68 }) O [.ref (sk_ad O k), .int s, .int e, .int v] M (mo_a M k c (er_2 (mo_he (M (k + 2)) s e) (¬ v < 0 ∧ ¬ 161050 < v)) (mo_ke (my_w (M (k + 2)) (23 + 233 * s.toNatClampNeg + 18 * e.toNatClampNeg + 11) v 11 5 5) (23 + 233 * s.toNatClampNeg + 18 * e.toNatClampNeg + 11)) (my_w (M (k + 2)) (23 + 233 * s.toNatClampNeg + 18 * e.toNatClampNeg + 11) v 11 5 5)) := by
  refine sk_mi (by decide) ⟨rfl, rfl⟩ hO (Nat.le_of_ble_eq_true rfl) (fun X A Q C ret => ?_)
  show sk_W l X O A Q 4 0 0 M 0 [(0, .ref (sk_ad O k)), (1, .int s), (2, .int e), (3, .int v)] []
  have hw : mo_wf (M (k + 2)) := ⟨m, hm4, hm, hmj⟩
  refine k_aloadn C 0 dX8_mark_0 rfl ?_
  refine k_aloadn C 0 dX8_mark_1 rfl ?_
  refine k_getr C (j := 3) (k' := k + 2) kcl_X8 fl_X8_13 hk.1 (by decide) rfl dX8_mark_2 ?_
  refine k_iloadn C 1 dX8_mark_5 rfl ?_
  refine k_iloadn C 2 dX8_mark_6 rfl ?_
  refine k_si C (as := [.ref (sk_ad O (k + 2)), .int s, .int e]) yvX8_isElement vsX8_isElement ml_X8_76 (m_X8_isElement l C.2.2.2.1 M (a := k + 2) (ha := hk.2.2.1) (s := s) (e := e) (hw := hw)) rfl rfl (Nat.le_of_ble_eq_true rfl) (by decide) dX8_mark_7 (fun x7_1 M7_1 h7_1 => ?_)
  rw [h7_1.1, h7_1.2]
  refine k_zne C 17 dX8_mark_10 (by decide) (fun c10_2 => ?_) (fun c10_2 => ?_)
  ·
    have nc10_2 : mo_he (M (k + 2)) s e := Classical.byContradiction (fun h => c10_2 (sk_b1.mpr h))
    obtain ⟨ix, ib⟩ := sk_ix nc10_2.1 hm (by omega)
    obtain ⟨N, hN12, hN, hNp⟩ := id (hmj _ ib)
    have hcN : mo_c (M (k + 2)) s.toNatClampNeg = N := (by show (M (k + 2) _).toNatClampNeg = N; rw [hN, nI_clamp (by omega)])
    rw [← hcN] at hN12 hN hNp
    obtain ⟨ex, eb⟩ := sk_ix nc10_2.2 hN (by omega)
    obtain ⟨hpe, hpe3⟩ := mo_nn hNp eb
    refine k_iloadn C 3 dX8_mark_17 rfl ?_
    refine k_i2l C dX8_mark_18 ?_
    refine k_lconst C (0) dX8_mark_19 (by decide) ?_
    refine k_ldcl C kc_X8_228 dX8_mark_20 ?_
    refine k_si C (as := [.long v.toInt64, .long (0), .long (161050)]) yvX8_in vsX8_in ml_X8_64 (m_X8_in l C.2.2.2.1 M (v := v.toInt64) (p := (0)) (q := (161050))) rfl rfl (Nat.le_of_ble_eq_true rfl) (by decide) dX8_mark_23 (fun x23_3 M23_3 h23_3 => ?_)
    rw [h23_3.1, h23_3.2]
    refine k_zeq C 33 dX8_mark_26 (by decide) (fun c26_4 => ?_) (fun c26_4 => ?_)
    ·
      have nc26_4 : ¬ (¬ v.toInt64 < (0) ∧ ¬ (161050) < v.toInt64) := sk_b1.mp c26_4
      refine k_iconst C (2) dX8_mark_33 (by decide) ?_
      refine k_vi C (as := [.int (2)]) yvX8_refused viX8_refused ml_X8_164 (m_X8_refused l C.2.2.2.1 M (k := k) (x := (2)) (hk := hk)) hk.1 rfl rfl rfl (Nat.le_of_ble_eq_true rfl) (by decide) dX8_mark_34 (fun x34_5 M34_5 h34_5 => ?_)
      rw [h34_5.1, h34_5.2]
      refine k_top (1) (by decide) ?_
      refine k_zeq C 42 dX8_mark_37 (by decide) (fun c37_6 => ?_) (fun c37_6 => ?_)
      ·
        exact absurd c37_6 (by decide)
      ·
        refine k_iconst C (0) dX8_mark_40 (by decide) ?_
        exact ret _ _ _ _ dX8_mark_41 rfl (by exact mo_an (i := 2) (er2m nc10_2 (fun h => nc26_4 ((in_k v 0 161050 rfl rfl).mpr h))) (by decide))
    ·
      have nc26_4 : ¬ v.toInt64 < (0) ∧ ¬ (161050) < v.toInt64 := Classical.byContradiction (fun h => c26_4 (sk_b1.mpr h))
      refine k_iconst C (0) dX8_mark_29 (by decide) ?_
      refine k_goto C 34 dX8_mark_30 (by decide) ?_
      refine k_vi C (as := [.int (0)]) yvX8_refused viX8_refused ml_X8_164 (m_X8_refused l C.2.2.2.1 M (k := k) (x := (0)) (hk := hk)) hk.1 rfl rfl rfl (Nat.le_of_ble_eq_true rfl) (by decide) dX8_mark_34 (fun x34_7 M34_7 h34_7 => ?_)
      rw [h34_7.1, h34_7.2]
      refine k_top (0) (by decide) ?_
      refine k_zeq C 42 dX8_mark_37 (by decide) (fun c37_8 => ?_) (fun c37_8 => ?_)
      ·
        refine k_aloadn C 0 dX8_mark_42 rfl ?_
        refine k_vv C (as := []) yvX8_remember viX8_remember ml_X8_225 (m_X8_remember l C.2.2.2.1 (sk_ms M k 0 (0)) (k := k) (c := c) (hk := hk) (hc := (by rw [sk_ne (by omega)]; exact hc)) (hc14 := hc14)) hk.1 rfl rfl rfl (Nat.le_of_ble_eq_true rfl) (by decide) dX8_mark_43 (fun M43_9 h43_9 => ?_)
        rw [h43_9]
        refine k_aloadn C 0 dX8_mark_46 rfl ?_
        refine k_getr C (j := 3) (k' := k + 2) kcl_X8 fl_X8_13 hk.1 (by decide) rfl dX8_mark_47 ?_
        refine k_iloadn C 1 dX8_mark_50 rfl ?_
        refine k_iloadn C 2 dX8_mark_51 rfl ?_
        refine k_si C (as := [.int s, .int e]) yvX8_elementAt vsX8_elementAt ml_X8_60 (m_X8_elementAt l C.2.2.2.1 (mr_m (sk_ms M k 0 (0)) k c) (s := s.toNatClampNeg) (xs := s) (hxs := ix) (e := e.toNatClampNeg) (xe := e) (hxe := ex)) rfl rfl (Nat.le_of_ble_eq_true rfl) (by decide) dX8_mark_52 (fun x52_10 M52_10 h52_10 => ?_)
        rw [h52_10.1, h52_10.2]
        refine k_bipush C (11) dX8_mark_55 (by decide) ?_
        refine k_iadd C dX8_mark_57 ?_
        refine k_iloadn C 3 dX8_mark_58 rfl ?_
        refine k_bipush C (11) dX8_mark_59 (by decide) ?_
        refine k_iconst C (5) dX8_mark_61 (by decide) ?_
        refine k_sv C (as := [.ref (sk_ad O (k + 2)), .int ((nI (23 + 233 * s.toNatClampNeg + 18 * e.toNatClampNeg)) + (11)), .int v, .int (11), .int (5)]) yvX8_layMarks vsX8_layMarks ml_X8_230 (m_X8_layMarks l C.2.2.2.1 (mr_m (sk_ms M k 0 (0)) k c) (a := k + 2) (ha := hk.2.2.1) (q := 23 + 233 * s.toNatClampNeg + 18 * e.toNatClampNeg + 11) (xq := (nI (23 + 233 * s.toNatClampNeg + 18 * e.toNatClampNeg)) + (11)) (hxq := (sk_nadd rfl (rfl : ((11) : Int32) = nI 11))) (v := v) (b := (11)) (d := (5)) (hq := (by omega)) (hb := (by decide))) rfl rfl (Nat.le_of_ble_eq_true rfl) (by decide) dX8_mark_62 (fun M62_11 h62_11 => ?_)
        rw [h62_11]
        refine k_aloadn C 0 dX8_mark_65 rfl ?_
        refine k_getr C (j := 3) (k' := k + 2) kcl_X8 fl_X8_13 hk.1 (by decide) rfl dX8_mark_66 ?_
        refine k_iloadn C 1 dX8_mark_69 rfl ?_
        refine k_iloadn C 2 dX8_mark_70 rfl ?_
        refine k_si C (as := [.int s, .int e]) yvX8_elementAt vsX8_elementAt ml_X8_60 (m_X8_elementAt l C.2.2.2.1 (my_m (mr_m (sk_ms M k 0 (0)) k c) (k + 2) (23 + 233 * s.toNatClampNeg + 18 * e.toNatClampNeg + 11) v (11) (5) 5) (s := s.toNatClampNeg) (xs := s) (hxs := ix) (e := e.toNatClampNeg) (xe := e) (hxe := ex)) rfl rfl (Nat.le_of_ble_eq_true rfl) (by decide) dX8_mark_71 (fun x71_12 M71_12 h71_12 => ?_)
        rw [h71_12.1, h71_12.2]
        refine k_bipush C (11) dX8_mark_74 (by decide) ?_
        refine k_iadd C dX8_mark_76 ?_
        refine k_si C (as := [.ref (sk_ad O (k + 2)), .int ((nI (23 + 233 * s.toNatClampNeg + 18 * e.toNatClampNeg)) + (11))]) yvX8_kernel vsX8_kernel ml_X8_113 (m_X8_kernel l C.2.2.2.1 (my_m (mr_m (sk_ms M k 0 (0)) k c) (k + 2) (23 + 233 * s.toNatClampNeg + 18 * e.toNatClampNeg + 11) v (11) (5) 5) (a := k + 2) (ha := hk.2.2.1) (q := 23 + 233 * s.toNatClampNeg + 18 * e.toNatClampNeg + 11) (xq := (nI (23 + 233 * s.toNatClampNeg + 18 * e.toNatClampNeg)) + (11)) (hxq := (sk_nadd rfl (rfl : ((11) : Int32) = nI 11))) (hq := (by omega))) rfl rfl (Nat.le_of_ble_eq_true rfl) (by decide) dX8_mark_77 (fun x77_13 M77_13 h77_13 => ?_)
        rw [h77_13.1, h77_13.2]
        exact ret _ _ _ _ dX8_mark_80 rfl (by exact mo_ak (er2p nc10_2 ((in_k v 0 161050 rfl rfl).mp nc26_4)) hc (by rw [my_m_w, mr_m_f (by omega) (by omega), sk_nf (by omega)]) (fun x hx => my_m_f hx 5) (by rw [my_m_w, mr_m_f (by omega) (by omega), sk_nf (by omega)]))
      ·
        exact absurd c37_8 (by decide)
  ·
    have nc10_2 : ¬ (mo_he (M (k + 2)) s e) := sk_b1.mp c10_2
    refine k_iconst C (1) dX8_mark_13 (by decide) ?_
    refine k_goto C 34 dX8_mark_14 (by decide) ?_
    refine k_vi C (as := [.int (1)]) yvX8_refused viX8_refused ml_X8_164 (m_X8_refused l C.2.2.2.1 M (k := k) (x := (1)) (hk := hk)) hk.1 rfl rfl rfl (Nat.le_of_ble_eq_true rfl) (by decide) dX8_mark_34 (fun x34_14 M34_14 h34_14 => ?_)
    rw [h34_14.1, h34_14.2]
    refine k_top (1) (by decide) ?_
    refine k_zeq C 42 dX8_mark_37 (by decide) (fun c37_15 => ?_) (fun c37_15 => ?_)
    ·
      exact absurd c37_15 (by decide)
    ·
      refine k_iconst C (0) dX8_mark_40 (by decide) ?_
      exact ret _ _ _ _ dX8_mark_41 rfl (by exact mo_an (i := 1) (er2n nc10_2) (by decide))

set_option maxHeartbeats 4000000 in
set_option maxRecDepth 100000 in
theorem m_X8_component (l : Launch) {O : sk_O} (hO : sk_inj O) (M : sk_M) (k : Nat) (hk : sk_isM O k) (s j v : Int32) (c : Nat) (hc : M k 6 = nI c) (hc14 : c ≤ 14) (m : Nat) (hm4 : m ≤ 4) (hm : M (k + 2) 0 = nI m) (hmj : ∀ s, s < m → mo_wp (M (k + 2)) s) : sk_Mi l yX8_component (sk_w yX8_component cX8_component 4 (some .int)) ({ frames := 2, cells := 0, slots := 0, locals := 47 }) O [.ref (sk_ad O k), .int s, .int j, .int v] M (mo_a M k c (er_2 (mo_hs (M (k + 2)) s ∧ ¬ j < 0 ∧ ¬ 2 < j) (¬ v < 0 ∧ ¬ 115856200 < v)) (mo_oc (my_w (M (k + 2)) (6 + 233 * s.toNatClampNeg + 2 + 5 * j.toNatClampNeg) v 41 0 5) s.toNatClampNeg j.toNatClampNeg) (my_w (M (k + 2)) (6 + 233 * s.toNatClampNeg + 2 + 5 * j.toNatClampNeg) v 41 0 5)) := by
  refine sk_mi (by decide) ⟨rfl, rfl⟩ hO (Nat.le_of_ble_eq_true rfl) (fun X A Q C ret => ?_)
  show sk_W l X O A Q 4 0 0 M 0 [(0, .ref (sk_ad O k)), (1, .int s), (2, .int j), (3, .int v)] []
  have hw : mo_wf (M (k + 2)) := ⟨m, hm4, hm, hmj⟩
  refine k_aloadn C 0 dX8_component_0 rfl ?_
  refine k_aloadn C 0 dX8_component_1 rfl ?_
  refine k_getr C (j := 3) (k' := k + 2) kcl_X8 fl_X8_13 hk.1 (by decide) rfl dX8_component_2 ?_
  refine k_iloadn C 1 dX8_component_5 rfl ?_
  refine k_si C (as := [.ref (sk_ad O (k + 2)), .int s]) yvX8_isSkater vsX8_isSkater ml_X8_68 (m_X8_isSkater l C.2.2.2.1 M (a := k + 2) (ha := hk.2.2.1) (s := s) (hw := hw)) rfl rfl (Nat.le_of_ble_eq_true rfl) (by decide) dX8_component_6 (fun x6_1 M6_1 h6_1 => ?_)
  rw [h6_1.1, h6_1.2]
  refine k_zeq C 24 dX8_component_9 (by decide) (fun c9_2 => ?_) (fun c9_2 => ?_)
  ·
    have nc9_2 : ¬ (mo_hs (M (k + 2)) s) := sk_b1.mp c9_2
    refine k_iconst C (1) dX8_component_24 (by decide) ?_
    refine k_goto C 45 dX8_component_25 (by decide) ?_
    refine k_vi C (as := [.int (1)]) yvX8_refused viX8_refused ml_X8_164 (m_X8_refused l C.2.2.2.1 M (k := k) (x := (1)) (hk := hk)) hk.1 rfl rfl rfl (Nat.le_of_ble_eq_true rfl) (by decide) dX8_component_45 (fun x45_3 M45_3 h45_3 => ?_)
    rw [h45_3.1, h45_3.2]
    refine k_top (1) (by decide) ?_
    refine k_zeq C 53 dX8_component_48 (by decide) (fun c48_4 => ?_) (fun c48_4 => ?_)
    ·
      exact absurd c48_4 (by decide)
    ·
      refine k_iconst C (0) dX8_component_51 (by decide) ?_
      exact ret _ _ _ _ dX8_component_52 rfl (by exact mo_an (i := 1) (er2n (fun h => nc9_2 h.1)) (by decide))
  ·
    have nc9_2 : mo_hs (M (k + 2)) s := Classical.byContradiction (fun h => c9_2 (sk_b1.mpr h))
    obtain ⟨ix, ib⟩ := sk_ix nc9_2 hm (by omega)
    obtain ⟨N, hN12, hN, hNp⟩ := id (hmj _ ib)
    have hcN : mo_c (M (k + 2)) s.toNatClampNeg = N := (by show (M (k + 2) _).toNatClampNeg = N; rw [hN, nI_clamp (by omega)])
    rw [← hcN] at hN12 hN hNp
    refine k_iloadn C 2 dX8_component_12 rfl ?_
    refine k_i2l C dX8_component_13 ?_
    refine k_lconst C (0) dX8_component_14 (by decide) ?_
    refine k_ldcl C kc_X8_234 dX8_component_15 ?_
    refine k_si C (as := [.long j.toInt64, .long (0), .long (2)]) yvX8_in vsX8_in ml_X8_64 (m_X8_in l C.2.2.2.1 M (v := j.toInt64) (p := (0)) (q := (2))) rfl rfl (Nat.le_of_ble_eq_true rfl) (by decide) dX8_component_18 (fun x18_5 M18_5 h18_5 => ?_)
    rw [h18_5.1, h18_5.2]
    refine k_zne C 28 dX8_component_21 (by decide) (fun c21_6 => ?_) (fun c21_6 => ?_)
    ·
      have nc21_6 : ¬ j.toInt64 < (0) ∧ ¬ (2) < j.toInt64 := Classical.byContradiction (fun h => c21_6 (sk_b1.mpr h))
      obtain ⟨jx, jb⟩ := mo_ix (m := 2) ((in_k j 0 2 rfl rfl).mp nc21_6) rfl (by omega)
      refine k_iloadn C 3 dX8_component_28 rfl ?_
      refine k_i2l C dX8_component_29 ?_
      refine k_lconst C (0) dX8_component_30 (by decide) ?_
      refine k_ldcl C kc_X8_236 dX8_component_31 ?_
      refine k_si C (as := [.long v.toInt64, .long (0), .long (115856200)]) yvX8_in vsX8_in ml_X8_64 (m_X8_in l C.2.2.2.1 M (v := v.toInt64) (p := (0)) (q := (115856200))) rfl rfl (Nat.le_of_ble_eq_true rfl) (by decide) dX8_component_34 (fun x34_7 M34_7 h34_7 => ?_)
      rw [h34_7.1, h34_7.2]
      refine k_zeq C 44 dX8_component_37 (by decide) (fun c37_8 => ?_) (fun c37_8 => ?_)
      ·
        have nc37_8 : ¬ (¬ v.toInt64 < (0) ∧ ¬ (115856200) < v.toInt64) := sk_b1.mp c37_8
        refine k_iconst C (2) dX8_component_44 (by decide) ?_
        refine k_vi C (as := [.int (2)]) yvX8_refused viX8_refused ml_X8_164 (m_X8_refused l C.2.2.2.1 M (k := k) (x := (2)) (hk := hk)) hk.1 rfl rfl rfl (Nat.le_of_ble_eq_true rfl) (by decide) dX8_component_45 (fun x45_9 M45_9 h45_9 => ?_)
        rw [h45_9.1, h45_9.2]
        refine k_top (1) (by decide) ?_
        refine k_zeq C 53 dX8_component_48 (by decide) (fun c48_10 => ?_) (fun c48_10 => ?_)
        ·
          exact absurd c48_10 (by decide)
        ·
          refine k_iconst C (0) dX8_component_51 (by decide) ?_
          exact ret _ _ _ _ dX8_component_52 rfl (by exact mo_an (i := 2) (er2m ⟨nc9_2, (in_k j 0 2 rfl rfl).mp nc21_6⟩ (fun h => nc37_8 ((in_k v 0 115856200 rfl rfl).mpr h))) (by decide))
      ·
        have nc37_8 : ¬ v.toInt64 < (0) ∧ ¬ (115856200) < v.toInt64 := Classical.byContradiction (fun h => c37_8 (sk_b1.mpr h))
        refine k_iconst C (0) dX8_component_40 (by decide) ?_
        refine k_goto C 45 dX8_component_41 (by decide) ?_
        refine k_vi C (as := [.int (0)]) yvX8_refused viX8_refused ml_X8_164 (m_X8_refused l C.2.2.2.1 M (k := k) (x := (0)) (hk := hk)) hk.1 rfl rfl rfl (Nat.le_of_ble_eq_true rfl) (by decide) dX8_component_45 (fun x45_11 M45_11 h45_11 => ?_)
        rw [h45_11.1, h45_11.2]
        refine k_top (0) (by decide) ?_
        refine k_zeq C 53 dX8_component_48 (by decide) (fun c48_12 => ?_) (fun c48_12 => ?_)
        ·
          refine k_aloadn C 0 dX8_component_53 rfl ?_
          refine k_vv C (as := []) yvX8_remember viX8_remember ml_X8_225 (m_X8_remember l C.2.2.2.1 (sk_ms M k 0 (0)) (k := k) (c := c) (hk := hk) (hc := (by rw [sk_ne (by omega)]; exact hc)) (hc14 := hc14)) hk.1 rfl rfl rfl (Nat.le_of_ble_eq_true rfl) (by decide) dX8_component_54 (fun M54_13 h54_13 => ?_)
          rw [h54_13]
          refine k_aloadn C 0 dX8_component_57 rfl ?_
          refine k_getr C (j := 3) (k' := k + 2) kcl_X8 fl_X8_13 hk.1 (by decide) rfl dX8_component_58 ?_
          refine k_iloadn C 1 dX8_component_61 rfl ?_
          refine k_si C (as := [.int s]) yvX8_skaterAt vsX8_skaterAt ml_X8_72 (m_X8_skaterAt l C.2.2.2.1 (mr_m (sk_ms M k 0 (0)) k c) (s := s.toNatClampNeg) (xs := s) (hxs := ix)) rfl rfl (Nat.le_of_ble_eq_true rfl) (by decide) dX8_component_62 (fun x62_14 M62_14 h62_14 => ?_)
          rw [h62_14.1, h62_14.2]
          refine k_iconst C (2) dX8_component_65 (by decide) ?_
          refine k_iadd C dX8_component_66 ?_
          refine k_iconst C (5) dX8_component_67 (by decide) ?_
          refine k_iloadn C 2 dX8_component_68 rfl ?_
          refine k_imul C dX8_component_69 ?_
          refine k_iadd C dX8_component_70 ?_
          refine k_iloadn C 3 dX8_component_71 rfl ?_
          refine k_bipush C (41) dX8_component_72 (by decide) ?_
          refine k_iconst C (0) dX8_component_74 (by decide) ?_
          refine k_sv C (as := [.ref (sk_ad O (k + 2)), .int (((nI (6 + 233 * s.toNatClampNeg)) + (2)) + ((5) * j)), .int v, .int (41), .int (0)]) yvX8_layMarks vsX8_layMarks ml_X8_230 (m_X8_layMarks l C.2.2.2.1 (mr_m (sk_ms M k 0 (0)) k c) (a := k + 2) (ha := hk.2.2.1) (q := 6 + 233 * s.toNatClampNeg + 2 + 5 * j.toNatClampNeg) (xq := ((nI (6 + 233 * s.toNatClampNeg)) + (2)) + ((5) * j)) (hxq := (sk_nadd (sk_nadd rfl (rfl : ((2) : Int32) = nI 2)) (sk_nmul (rfl : ((5) : Int32) = nI 5) jx))) (v := v) (b := (41)) (d := (0)) (hq := (by omega)) (hb := (by decide))) rfl rfl (Nat.le_of_ble_eq_true rfl) (by decide) dX8_component_75 (fun M75_15 h75_15 => ?_)
          rw [h75_15]
          refine k_aloadn C 0 dX8_component_78 rfl ?_
          refine k_getr C (j := 3) (k' := k + 2) kcl_X8 fl_X8_13 hk.1 (by decide) rfl dX8_component_79 ?_
          refine k_iloadn C 1 dX8_component_82 rfl ?_
          refine k_iloadn C 2 dX8_component_83 rfl ?_
          refine k_si C (as := [.ref (sk_ad O (k + 2)), .int s, .int j]) yvX8_ofComponent vsX8_ofComponent ml_X8_139 (m_X8_ofComponent l C.2.2.2.1 (my_m (mr_m (sk_ms M k 0 (0)) k c) (k + 2) (6 + 233 * s.toNatClampNeg + 2 + 5 * j.toNatClampNeg) v (41) (0) 5) (a := k + 2) (ha := hk.2.2.1) (s := s.toNatClampNeg) (xs := s) (hxs := ix) (k := j.toNatClampNeg) (xk := j) (hxk := jx) (hs := (by omega)) (hk := (by omega))) rfl rfl (Nat.le_of_ble_eq_true rfl) (by decide) dX8_component_84 (fun x84_16 M84_16 h84_16 => ?_)
          rw [h84_16.1, h84_16.2]
          exact ret _ _ _ _ dX8_component_87 rfl (by exact mo_ak (er2p ⟨nc9_2, (in_k j 0 2 rfl rfl).mp nc21_6⟩ ((in_k v 0 115856200 rfl rfl).mp nc37_8)) hc (by rw [my_m_w, mr_m_f (by omega) (by omega), sk_nf (by omega)]) (fun x hx => my_m_f hx 5) (by rw [my_m_w, mr_m_f (by omega) (by omega), sk_nf (by omega)]))
        ·
          exact absurd c48_12 (by decide)
    ·
      have nc21_6 : ¬ (¬ j.toInt64 < (0) ∧ ¬ (2) < j.toInt64) := sk_b1.mp c21_6
      refine k_iconst C (1) dX8_component_24 (by decide) ?_
      refine k_goto C 45 dX8_component_25 (by decide) ?_
      refine k_vi C (as := [.int (1)]) yvX8_refused viX8_refused ml_X8_164 (m_X8_refused l C.2.2.2.1 M (k := k) (x := (1)) (hk := hk)) hk.1 rfl rfl rfl (Nat.le_of_ble_eq_true rfl) (by decide) dX8_component_45 (fun x45_17 M45_17 h45_17 => ?_)
      rw [h45_17.1, h45_17.2]
      refine k_top (1) (by decide) ?_
      refine k_zeq C 53 dX8_component_48 (by decide) (fun c48_18 => ?_) (fun c48_18 => ?_)
      ·
        exact absurd c48_18 (by decide)
      ·
        refine k_iconst C (0) dX8_component_51 (by decide) ?_
        exact ret _ _ _ _ dX8_component_52 rfl (by exact mo_an (i := 1) (er2n (fun h => nc21_6 ((in_k j 0 2 rfl rfl).mpr h.2))) (by decide))

set_option maxHeartbeats 4000000 in
set_option maxRecDepth 100000 in
theorem m_X8_call (l : Launch) {O : sk_O} (hO : sk_inj O) (M : sk_M) (k : Nat) (hk : sk_isM O k) (s e p v : Int32) (c : Nat) (hc : M k 6 = nI c) (hc14 : c ≤ 14) (m : Nat) (hm4 : m ≤ 4) (hm : M (k + 2) 0 = nI m) (hmj : ∀ s, s < m → mo_wp (M (k + 2)) s) : sk_Mi l yX8_call (sk_w yX8_call cX8_call 5 (some .int)) ({ frames := 5, cells := 0, slots := 0, locals := 115 }) O [.ref (sk_ad O k), .int s, .int e, .int p, .int v] M (mo_a M k c (mo_wc (M (k + 2)) s e p v) (M (k + 2) (25 + 233 * s.toNatClampNeg + 18 * e.toNatClampNeg + 3 * p.toNatClampNeg + 2)) (mu_u (M (k + 2)) (25 + 233 * s.toNatClampNeg + 18 * e.toNatClampNeg + 3 * p.toNatClampNeg + 2) v)) := by
  refine sk_mi (by decide) ⟨rfl, rfl⟩ hO (Nat.le_of_ble_eq_true rfl) (fun X A Q C ret => ?_)
  show sk_W l X O A Q 5 0 0 M 0 [(0, .ref (sk_ad O k)), (1, .int s), (2, .int e), (3, .int p), (4, .int v)] []
  have hw : mo_wf (M (k + 2)) := ⟨m, hm4, hm, hmj⟩
  refine k_aloadn C 0 dX8_call_0 rfl ?_
  refine k_aloadn C 0 dX8_call_1 rfl ?_
  refine k_getr C (j := 3) (k' := k + 2) kcl_X8 fl_X8_13 hk.1 (by decide) rfl dX8_call_2 ?_
  refine k_iloadn C 1 dX8_call_5 rfl ?_
  refine k_iloadn C 2 dX8_call_6 rfl ?_
  refine k_iloadn C 3 dX8_call_7 rfl ?_
  refine k_iload C 4 dX8_call_8 rfl ?_
  refine k_si C (as := [.ref (sk_ad O (k + 2)), .int s, .int e, .int p, .int v]) yvX8_whyNotCall vsX8_whyNotCall ml_X8_240 (m_X8_whyNotCall l C.2.2.2.1 M (a := k + 2) (ha := hk.2.2.1) (s := s) (e := e) (p := p) (v := v) (hw := hw)) rfl rfl (Nat.le_of_ble_eq_true rfl) (by decide) dX8_call_10 (fun x10_1 M10_1 h10_1 => ?_)
  rw [h10_1.1, h10_1.2]
  refine k_vi C (as := [.int (nI (mo_wc (M (k + 2)) s e p v))]) yvX8_refused viX8_refused ml_X8_164 (m_X8_refused l C.2.2.2.1 M (k := k) (x := nI (mo_wc (M (k + 2)) s e p v)) (hk := hk)) hk.1 rfl rfl rfl (Nat.le_of_ble_eq_true rfl) (by decide) dX8_call_13 (fun x13_2 M13_2 h13_2 => ?_)
  rw [h13_2.1, h13_2.2]
  refine k_zeq C 21 dX8_call_16 (by decide) (fun c16_3 => ?_) (fun c16_3 => ?_)
  ·
    have nc16_3 : ¬ (0 < (nI (mo_wc (M (k + 2)) s e p v))) := sk_b1.mp c16_3
    have he0 : mo_wc (M (k + 2)) s e p v = 0 := mo_e0 nc16_3 (by have := er3_le (P := mo_hp (M (k + 2)) s e p) (Q := ¬ v < 0 ∧ ¬ 3 < v) (R := M (k + 2) (23 + 233 * s.toNatClampNeg + 18 * e.toNatClampNeg) = 0 ∧ (¬ v = 3 ∨ M (k + 2) (25 + 233 * s.toNatClampNeg + 18 * e.toNatClampNeg + 3 * p.toNatClampNeg) = 3 ∨ M (k + 2) (25 + 233 * s.toNatClampNeg + 18 * e.toNatClampNeg + 3 * p.toNatClampNeg) = 4)); exact Nat.lt_of_le_of_lt this (by decide))
    have hcc := x_ck00 he0
    obtain ⟨ix, ib⟩ := sk_ix hcc.1.1 hm (by omega)
    obtain ⟨N, hN12, hN, hNp⟩ := id (hmj _ ib)
    have hcN : mo_c (M (k + 2)) s.toNatClampNeg = N := (by show (M (k + 2) _).toNatClampNeg = N; rw [hN, nI_clamp (by omega)])
    rw [← hcN] at hN12 hN hNp
    obtain ⟨ex, eb⟩ := sk_ix hcc.1.2 hN (by omega)
    obtain ⟨hpe, hpe3⟩ := mo_nn hNp eb
    obtain ⟨px, pb⟩ := sk_ix hcc.2 hpe (by omega)
    refine k_eq (M' := sk_ms M k 0 (0)) (by rw [he0]; rfl) rfl rfl rfl ?_
    refine k_aloadn C 0 dX8_call_21 rfl ?_
    refine k_vv C (as := []) yvX8_remember viX8_remember ml_X8_225 (m_X8_remember l C.2.2.2.1 (sk_ms M k 0 (0)) (k := k) (c := c) (hk := hk) (hc := (by rw [sk_ne (by omega)]; exact hc)) (hc14 := hc14)) hk.1 rfl rfl rfl (Nat.le_of_ble_eq_true rfl) (by decide) dX8_call_22 (fun M22_4 h22_4 => ?_)
    rw [h22_4]
    refine k_aloadn C 0 dX8_call_25 rfl ?_
    refine k_getr C (j := 3) (k' := k + 2) kcl_X8 fl_X8_13 hk.1 (by decide) rfl dX8_call_26 ?_
    refine k_iloadn C 1 dX8_call_29 rfl ?_
    refine k_iloadn C 2 dX8_call_30 rfl ?_
    refine k_iloadn C 3 dX8_call_31 rfl ?_
    refine k_iload C 4 dX8_call_32 rfl ?_
    refine k_si C (as := [.ref (sk_ad O (k + 2)), .int s, .int e, .int p, .int v]) yvX8_callOn vsX8_callOn ml_X8_244 (m_X8_callOn l C.2.2.2.1 (mr_m (sk_ms M k 0 (0)) k c) (a := k + 2) (ha := hk.2.2.1) (s := s.toNatClampNeg) (xs := s) (hxs := ix) (e := e.toNatClampNeg) (xe := e) (hxe := ex) (p := p.toNatClampNeg) (xp := p) (hxp := px) (v := v) (hs := (by omega)) (he := (by omega)) (hp := (by omega))) rfl rfl (Nat.le_of_ble_eq_true rfl) (by decide) dX8_call_34 (fun x34_5 M34_5 h34_5 => ?_)
    rw [h34_5.1, h34_5.2]
    refine k_top (M (k + 2) (25 + 233 * s.toNatClampNeg + 18 * e.toNatClampNeg + 3 * p.toNatClampNeg + 2)) (by rw [mr_m_f (by omega) (by omega), sk_nf (by omega)]) ?_
    exact ret _ _ _ _ dX8_call_37 rfl (by exact mo_ak he0 hc rfl (fun x hx => sk_nf hx) (by rw [sk_msu, mr_m_f (by omega) (by omega), sk_nf (by omega)]))
  ·
    have nc16_3 : 0 < (nI (mo_wc (M (k + 2)) s e p v)) := Classical.byContradiction (fun h => c16_3 (sk_b1.mpr h))
    refine k_iconst C (0) dX8_call_19 (by decide) ?_
    exact ret _ _ _ _ dX8_call_20 rfl (by exact mo_aw nc16_3)

set_option maxHeartbeats 4000000 in
set_option maxRecDepth 100000 in
theorem m_X8_review (l : Launch) {O : sk_O} (hO : sk_inj O) (M : sk_M) (k : Nat) (hk : sk_isM O k) (s e b : Int32) (c : Nat) (hc : M k 6 = nI c) (hc14 : c ≤ 14) (m : Nat) (hm4 : m ≤ 4) (hm : M (k + 2) 0 = nI m) (hmj : ∀ s, s < m → mo_wp (M (k + 2)) s) : sk_Mi l yX8_review (sk_w yX8_review cX8_review 4 (some .int)) ({ frames := 3, cells := 0, slots := 0, locals := 68 }) O [.ref (sk_ad O k), .int s, .int e, .int b] M (mo_a M k c (er_1 (mo_he (M (k + 2)) s e)) (sk_sum (fun q => sk_sum (fun z => (mu_u (M (k + 2)) (23 + 233 * s.toNatClampNeg + 18 * e.toNatClampNeg + 17) (if b = 0 then 0 else 1)) (23 + 233 * q + 18 * z + 17)) (mo_c (mu_u (M (k + 2)) (23 + 233 * s.toNatClampNeg + 18 * e.toNatClampNeg + 17) (if b = 0 then 0 else 1)) q)) m) (mu_u (M (k + 2)) (23 + 233 * s.toNatClampNeg + 18 * e.toNatClampNeg + 17) (if b = 0 then 0 else 1))) := by
  refine sk_mi (by decide) ⟨rfl, rfl⟩ hO (Nat.le_of_ble_eq_true rfl) (fun X A Q C ret => ?_)
  show sk_W l X O A Q 4 0 0 M 0 [(0, .ref (sk_ad O k)), (1, .int s), (2, .int e), (3, .int b)] []
  have hw : mo_wf (M (k + 2)) := ⟨m, hm4, hm, hmj⟩
  refine k_aloadn C 0 dX8_review_0 rfl ?_
  refine k_aloadn C 0 dX8_review_1 rfl ?_
  refine k_getr C (j := 3) (k' := k + 2) kcl_X8 fl_X8_13 hk.1 (by decide) rfl dX8_review_2 ?_
  refine k_iloadn C 1 dX8_review_5 rfl ?_
  refine k_iloadn C 2 dX8_review_6 rfl ?_
  refine k_si C (as := [.ref (sk_ad O (k + 2)), .int s, .int e]) yvX8_isElement vsX8_isElement ml_X8_76 (m_X8_isElement l C.2.2.2.1 M (a := k + 2) (ha := hk.2.2.1) (s := s) (e := e) (hw := hw)) rfl rfl (Nat.le_of_ble_eq_true rfl) (by decide) dX8_review_7 (fun x7_1 M7_1 h7_1 => ?_)
  rw [h7_1.1, h7_1.2]
  refine k_zeq C 17 dX8_review_10 (by decide) (fun c10_2 => ?_) (fun c10_2 => ?_)
  ·
    have nc10_2 : ¬ (mo_he (M (k + 2)) s e) := sk_b1.mp c10_2
    refine k_iconst C (1) dX8_review_17 (by decide) ?_
    refine k_vi C (as := [.int (1)]) yvX8_refused viX8_refused ml_X8_164 (m_X8_refused l C.2.2.2.1 M (k := k) (x := (1)) (hk := hk)) hk.1 rfl rfl rfl (Nat.le_of_ble_eq_true rfl) (by decide) dX8_review_18 (fun x18_3 M18_3 h18_3 => ?_)
    rw [h18_3.1, h18_3.2]
    refine k_top (1) (by decide) ?_
    refine k_zeq C 26 dX8_review_21 (by decide) (fun c21_4 => ?_) (fun c21_4 => ?_)
    ·
      exact absurd c21_4 (by decide)
    ·
      refine k_iconst C (0) dX8_review_24 (by decide) ?_
      exact ret _ _ _ _ dX8_review_25 rfl (by exact mo_an (i := 1) (er1n nc10_2) (by decide))
  ·
    have nc10_2 : mo_he (M (k + 2)) s e := Classical.byContradiction (fun h => c10_2 (sk_b1.mpr h))
    obtain ⟨ix, ib⟩ := sk_ix nc10_2.1 hm (by omega)
    obtain ⟨N, hN12, hN, hNp⟩ := id (hmj _ ib)
    have hcN : mo_c (M (k + 2)) s.toNatClampNeg = N := (by show (M (k + 2) _).toNatClampNeg = N; rw [hN, nI_clamp (by omega)])
    rw [← hcN] at hN12 hN hNp
    obtain ⟨ex, eb⟩ := sk_ix nc10_2.2 hN (by omega)
    obtain ⟨hpe, hpe3⟩ := mo_nn hNp eb
    refine k_iconst C (0) dX8_review_13 (by decide) ?_
    refine k_goto C 18 dX8_review_14 (by decide) ?_
    refine k_vi C (as := [.int (0)]) yvX8_refused viX8_refused ml_X8_164 (m_X8_refused l C.2.2.2.1 M (k := k) (x := (0)) (hk := hk)) hk.1 rfl rfl rfl (Nat.le_of_ble_eq_true rfl) (by decide) dX8_review_18 (fun x18_5 M18_5 h18_5 => ?_)
    rw [h18_5.1, h18_5.2]
    refine k_top (0) (by decide) ?_
    refine k_zeq C 26 dX8_review_21 (by decide) (fun c21_6 => ?_) (fun c21_6 => ?_)
    ·
      refine k_aloadn C 0 dX8_review_26 rfl ?_
      refine k_vv C (as := []) yvX8_remember viX8_remember ml_X8_225 (m_X8_remember l C.2.2.2.1 (sk_ms M k 0 (0)) (k := k) (c := c) (hk := hk) (hc := (by rw [sk_ne (by omega)]; exact hc)) (hc14 := hc14)) hk.1 rfl rfl rfl (Nat.le_of_ble_eq_true rfl) (by decide) dX8_review_27 (fun M27_7 h27_7 => ?_)
      rw [h27_7]
      refine k_aloadn C 0 dX8_review_30 rfl ?_
      refine k_getr C (j := 3) (k' := k + 2) kcl_X8 fl_X8_13 hk.1 (by decide) rfl dX8_review_31 ?_
      refine k_iloadn C 1 dX8_review_34 rfl ?_
      refine k_iloadn C 2 dX8_review_35 rfl ?_
      refine k_si C (as := [.int s, .int e]) yvX8_elementAt vsX8_elementAt ml_X8_60 (m_X8_elementAt l C.2.2.2.1 (mr_m (sk_ms M k 0 (0)) k c) (s := s.toNatClampNeg) (xs := s) (hxs := ix) (e := e.toNatClampNeg) (xe := e) (hxe := ex)) rfl rfl (Nat.le_of_ble_eq_true rfl) (by decide) dX8_review_36 (fun x36_8 M36_8 h36_8 => ?_)
      rw [h36_8.1, h36_8.2]
      refine k_bipush C (17) dX8_review_39 (by decide) ?_
      refine k_iadd C dX8_review_41 ?_
      refine k_iloadn C 3 dX8_review_42 rfl ?_
      have J51 : sk_W l X O A Q 4 0 0 (mr_m (sk_ms M k 0 (0)) k c) 51 [(0, .ref (sk_ad O k)), (1, .int s), (2, .int e), (3, .int b)] [.int (if b = 0 then 0 else 1), .int ((nI (23 + 233 * s.toNatClampNeg + 18 * e.toNatClampNeg)) + (17)), .ref (sk_ad O (k + 2))] := by
        refine k_iast C (23 + 233 * s.toNatClampNeg + 18 * e.toNatClampNeg + 17) hk.2.2.1 (sk_nadd rfl (rfl : ((17) : Int32) = nI 17)) (by omega) dX8_review_51 ?_
        refine k_aloadn C 0 dX8_review_52 rfl ?_
        refine k_getr C (j := 3) (k' := k + 2) kcl_X8 fl_X8_13 hk.1 (by decide) rfl dX8_review_53 ?_
        refine k_bipush C (17) dX8_review_56 (by decide) ?_
        refine k_si C (as := [.ref (sk_ad O (k + 2)), .int (17)]) yvX8_sumOfAll vsX8_sumOfAll ml_X8_201 (m_X8_sumOfAll l C.2.2.2.1 (sk_ms (mr_m (sk_ms M k 0 (0)) k c) (k + 2) (23 + 233 * s.toNatClampNeg + 18 * e.toNatClampNeg + 17) (if b = 0 then 0 else 1)) (a := k + 2) (ha := hk.2.2.1) (w := 17) (xw := (17)) (hxw := (rfl : ((17) : Int32) = nI 17)) (m := m) (hm4 := hm4) (hm := (by rw [sk_ne (by omega), mr_m_f (by omega) (by omega), sk_nf (by omega)]; exact hm)) (hmj := (fun q hq => by rw [sk_msu, mr_m_f (by omega) (by omega), sk_nf (by omega)]; exact mo_wpc (mu_n (by omega)) (fun z hz => mu_n (by omega)) (hmj q hq))) (hw18 := (by decide))) rfl rfl (Nat.le_of_ble_eq_true rfl) (by decide) dX8_review_58 (fun x58_9 M58_9 h58_9 => ?_)
        rw [h58_9.1, h58_9.2]
        exact ret _ _ _ _ dX8_review_61 rfl (by exact mo_ak (er1p nc10_2) hc (by rw [sk_msu, mr_m_f (by omega) (by omega), sk_nf (by omega)]) (fun x hx => sk_nf hx) (by rw [sk_msu, mr_m_f (by omega) (by omega), sk_nf (by omega)]))
      refine k_zeq C 50 dX8_review_43 (by decide) (fun c43_10 => ?_) (fun c43_10 => ?_)
      ·
        refine k_iconst C (0) dX8_review_50 (by decide) ?_
        exact k_eq rfl rfl rfl (by rw [if_pos c43_10]) J51
      ·
        refine k_iconst C (1) dX8_review_46 (by decide) ?_
        refine k_goto C 51 dX8_review_47 (by decide) ?_
        exact k_eq rfl rfl rfl (by rw [if_neg c43_10]) J51
    ·
      exact absurd c21_6 (by decide)

set_option maxHeartbeats 4000000 in
set_option maxRecDepth 100000 in
theorem m_X8_fall (l : Launch) {O : sk_O} (hO : sk_inj O) (M : sk_M) (k : Nat) (hk : sk_isM O k) (s e b : Int32) (c : Nat) (hc : M k 6 = nI c) (hc14 : c ≤ 14) (m : Nat) (hm4 : m ≤ 4) (hm : M (k + 2) 0 = nI m) (hmj : ∀ s, s < m → mo_wp (M (k + 2)) s) : sk_Mi l yX8_fall (sk_w yX8_fall cX8_fall 4 (some .int)) ({ frames := 3, cells := 0, slots := 0, locals := 68 }) O [.ref (sk_ad O k), .int s, .int e, .int b] M (mo_a M k c (er_1 (mo_he (M (k + 2)) s e)) (sk_sum (fun z => (mu_u (M (k + 2)) (23 + 233 * s.toNatClampNeg + 18 * e.toNatClampNeg + 16) (if b = 0 then 0 else 1)) (23 + 233 * s.toNatClampNeg + 18 * z + 16)) (mo_c (M (k + 2)) s.toNatClampNeg)) (mu_u (M (k + 2)) (23 + 233 * s.toNatClampNeg + 18 * e.toNatClampNeg + 16) (if b = 0 then 0 else 1))) := by
  refine sk_mi (by decide) ⟨rfl, rfl⟩ hO (Nat.le_of_ble_eq_true rfl) (fun X A Q C ret => ?_)
  show sk_W l X O A Q 4 0 0 M 0 [(0, .ref (sk_ad O k)), (1, .int s), (2, .int e), (3, .int b)] []
  have hw : mo_wf (M (k + 2)) := ⟨m, hm4, hm, hmj⟩
  refine k_aloadn C 0 dX8_fall_0 rfl ?_
  refine k_aloadn C 0 dX8_fall_1 rfl ?_
  refine k_getr C (j := 3) (k' := k + 2) kcl_X8 fl_X8_13 hk.1 (by decide) rfl dX8_fall_2 ?_
  refine k_iloadn C 1 dX8_fall_5 rfl ?_
  refine k_iloadn C 2 dX8_fall_6 rfl ?_
  refine k_si C (as := [.ref (sk_ad O (k + 2)), .int s, .int e]) yvX8_isElement vsX8_isElement ml_X8_76 (m_X8_isElement l C.2.2.2.1 M (a := k + 2) (ha := hk.2.2.1) (s := s) (e := e) (hw := hw)) rfl rfl (Nat.le_of_ble_eq_true rfl) (by decide) dX8_fall_7 (fun x7_1 M7_1 h7_1 => ?_)
  rw [h7_1.1, h7_1.2]
  refine k_zeq C 17 dX8_fall_10 (by decide) (fun c10_2 => ?_) (fun c10_2 => ?_)
  ·
    have nc10_2 : ¬ (mo_he (M (k + 2)) s e) := sk_b1.mp c10_2
    refine k_iconst C (1) dX8_fall_17 (by decide) ?_
    refine k_vi C (as := [.int (1)]) yvX8_refused viX8_refused ml_X8_164 (m_X8_refused l C.2.2.2.1 M (k := k) (x := (1)) (hk := hk)) hk.1 rfl rfl rfl (Nat.le_of_ble_eq_true rfl) (by decide) dX8_fall_18 (fun x18_3 M18_3 h18_3 => ?_)
    rw [h18_3.1, h18_3.2]
    refine k_top (1) (by decide) ?_
    refine k_zeq C 26 dX8_fall_21 (by decide) (fun c21_4 => ?_) (fun c21_4 => ?_)
    ·
      exact absurd c21_4 (by decide)
    ·
      refine k_iconst C (0) dX8_fall_24 (by decide) ?_
      exact ret _ _ _ _ dX8_fall_25 rfl (by exact mo_an (i := 1) (er1n nc10_2) (by decide))
  ·
    have nc10_2 : mo_he (M (k + 2)) s e := Classical.byContradiction (fun h => c10_2 (sk_b1.mpr h))
    obtain ⟨ix, ib⟩ := sk_ix nc10_2.1 hm (by omega)
    obtain ⟨N, hN12, hN, hNp⟩ := id (hmj _ ib)
    have hcN : mo_c (M (k + 2)) s.toNatClampNeg = N := (by show (M (k + 2) _).toNatClampNeg = N; rw [hN, nI_clamp (by omega)])
    rw [← hcN] at hN12 hN hNp
    obtain ⟨ex, eb⟩ := sk_ix nc10_2.2 hN (by omega)
    obtain ⟨hpe, hpe3⟩ := mo_nn hNp eb
    refine k_iconst C (0) dX8_fall_13 (by decide) ?_
    refine k_goto C 18 dX8_fall_14 (by decide) ?_
    refine k_vi C (as := [.int (0)]) yvX8_refused viX8_refused ml_X8_164 (m_X8_refused l C.2.2.2.1 M (k := k) (x := (0)) (hk := hk)) hk.1 rfl rfl rfl (Nat.le_of_ble_eq_true rfl) (by decide) dX8_fall_18 (fun x18_5 M18_5 h18_5 => ?_)
    rw [h18_5.1, h18_5.2]
    refine k_top (0) (by decide) ?_
    refine k_zeq C 26 dX8_fall_21 (by decide) (fun c21_6 => ?_) (fun c21_6 => ?_)
    ·
      refine k_aloadn C 0 dX8_fall_26 rfl ?_
      refine k_vv C (as := []) yvX8_remember viX8_remember ml_X8_225 (m_X8_remember l C.2.2.2.1 (sk_ms M k 0 (0)) (k := k) (c := c) (hk := hk) (hc := (by rw [sk_ne (by omega)]; exact hc)) (hc14 := hc14)) hk.1 rfl rfl rfl (Nat.le_of_ble_eq_true rfl) (by decide) dX8_fall_27 (fun M27_7 h27_7 => ?_)
      rw [h27_7]
      refine k_aloadn C 0 dX8_fall_30 rfl ?_
      refine k_getr C (j := 3) (k' := k + 2) kcl_X8 fl_X8_13 hk.1 (by decide) rfl dX8_fall_31 ?_
      refine k_iloadn C 1 dX8_fall_34 rfl ?_
      refine k_iloadn C 2 dX8_fall_35 rfl ?_
      refine k_si C (as := [.int s, .int e]) yvX8_elementAt vsX8_elementAt ml_X8_60 (m_X8_elementAt l C.2.2.2.1 (mr_m (sk_ms M k 0 (0)) k c) (s := s.toNatClampNeg) (xs := s) (hxs := ix) (e := e.toNatClampNeg) (xe := e) (hxe := ex)) rfl rfl (Nat.le_of_ble_eq_true rfl) (by decide) dX8_fall_36 (fun x36_8 M36_8 h36_8 => ?_)
      rw [h36_8.1, h36_8.2]
      refine k_bipush C (16) dX8_fall_39 (by decide) ?_
      refine k_iadd C dX8_fall_41 ?_
      refine k_iloadn C 3 dX8_fall_42 rfl ?_
      have J51 : sk_W l X O A Q 4 0 0 (mr_m (sk_ms M k 0 (0)) k c) 51 [(0, .ref (sk_ad O k)), (1, .int s), (2, .int e), (3, .int b)] [.int (if b = 0 then 0 else 1), .int ((nI (23 + 233 * s.toNatClampNeg + 18 * e.toNatClampNeg)) + (16)), .ref (sk_ad O (k + 2))] := by
        refine k_iast C (23 + 233 * s.toNatClampNeg + 18 * e.toNatClampNeg + 16) hk.2.2.1 (sk_nadd rfl (rfl : ((16) : Int32) = nI 16)) (by omega) dX8_fall_51 ?_
        refine k_aloadn C 0 dX8_fall_52 rfl ?_
        refine k_getr C (j := 3) (k' := k + 2) kcl_X8 fl_X8_13 hk.1 (by decide) rfl dX8_fall_53 ?_
        refine k_iloadn C 1 dX8_fall_56 rfl ?_
        refine k_bipush C (16) dX8_fall_57 (by decide) ?_
        refine k_si C (as := [.ref (sk_ad O (k + 2)), .int s, .int (16)]) yvX8_sum vsX8_sum ml_X8_156 (m_X8_sum l C.2.2.2.1 (sk_ms (mr_m (sk_ms M k 0 (0)) k c) (k + 2) (23 + 233 * s.toNatClampNeg + 18 * e.toNatClampNeg + 16) (if b = 0 then 0 else 1)) (a := k + 2) (ha := hk.2.2.1) (s := s.toNatClampNeg) (xs := s) (hxs := ix) (w := 16) (xw := (16)) (hxw := (rfl : ((16) : Int32) = nI 16)) (N := mo_c (M (k + 2)) s.toNatClampNeg) (hs := (by omega)) (hN12 := hN12) (hN := (by rw [sk_ne (by omega), mr_m_f (by omega) (by omega), sk_nf (by omega)]; exact hN)) (hw18 := (by decide))) rfl rfl (Nat.le_of_ble_eq_true rfl) (by decide) dX8_fall_59 (fun x59_9 M59_9 h59_9 => ?_)
        rw [h59_9.1, h59_9.2]
        exact ret _ _ _ _ dX8_fall_62 rfl (by exact mo_ak (er1p nc10_2) hc (by rw [sk_msu, mr_m_f (by omega) (by omega), sk_nf (by omega)]) (fun x hx => sk_nf hx) (by rw [sk_msu, mr_m_f (by omega) (by omega), sk_nf (by omega)]))
      refine k_zeq C 50 dX8_fall_43 (by decide) (fun c43_10 => ?_) (fun c43_10 => ?_)
      ·
        refine k_iconst C (0) dX8_fall_50 (by decide) ?_
        exact k_eq rfl rfl rfl (by rw [if_pos c43_10]) J51
      ·
        refine k_iconst C (1) dX8_fall_46 (by decide) ?_
        refine k_goto C 51 dX8_fall_47 (by decide) ?_
        exact k_eq rfl rfl rfl (by rw [if_neg c43_10]) J51
    ·
      exact absurd c21_6 (by decide)

set_option maxHeartbeats 4000000 in
set_option maxRecDepth 100000 in
theorem m_X8_penalty (l : Launch) {O : sk_O} (hO : sk_inj O) (M : sk_M) (k : Nat) (hk : sk_isM O k) (s v : Int32) (c : Nat) (hc : M k 6 = nI c) (hc14 : c ≤ 14) (m : Nat) (hm4 : m ≤ 4) (hm : M (k + 2) 0 = nI m) (hmj : ∀ s, s < m → mo_wp (M (k + 2)) s) : sk_Mi l yX8_penalty (sk_w yX8_penalty cX8_penalty 4 (some .int)) ({ frames := 2, cells := 0, slots := 0, locals := 46 }) O [.ref (sk_ad O k), .int s, .int v] M (mo_a M k c (er_2 (mo_hs (M (k + 2)) s) (¬ v < 0 ∧ ¬ 9 < v)) (M (k + 2) (6 + 233 * s.toNatClampNeg + 1)) (mu_u (M (k + 2)) (6 + 233 * s.toNatClampNeg + 1) v)) := by
  refine sk_mi (by decide) ⟨rfl, rfl⟩ hO (Nat.le_of_ble_eq_true rfl) (fun X A Q C ret => ?_)
  show sk_W l X O A Q 4 0 0 M 0 [(0, .ref (sk_ad O k)), (1, .int s), (2, .int v)] []
  have hw : mo_wf (M (k + 2)) := ⟨m, hm4, hm, hmj⟩
  refine k_aloadn C 0 dX8_penalty_0 rfl ?_
  refine k_aloadn C 0 dX8_penalty_1 rfl ?_
  refine k_getr C (j := 3) (k' := k + 2) kcl_X8 fl_X8_13 hk.1 (by decide) rfl dX8_penalty_2 ?_
  refine k_iloadn C 1 dX8_penalty_5 rfl ?_
  refine k_si C (as := [.ref (sk_ad O (k + 2)), .int s]) yvX8_isSkater vsX8_isSkater ml_X8_68 (m_X8_isSkater l C.2.2.2.1 M (a := k + 2) (ha := hk.2.2.1) (s := s) (hw := hw)) rfl rfl (Nat.le_of_ble_eq_true rfl) (by decide) dX8_penalty_6 (fun x6_1 M6_1 h6_1 => ?_)
  rw [h6_1.1, h6_1.2]
  refine k_zne C 16 dX8_penalty_9 (by decide) (fun c9_2 => ?_) (fun c9_2 => ?_)
  ·
    have nc9_2 : mo_hs (M (k + 2)) s := Classical.byContradiction (fun h => c9_2 (sk_b1.mpr h))
    obtain ⟨ix, ib⟩ := sk_ix nc9_2 hm (by omega)
    obtain ⟨N, hN12, hN, hNp⟩ := id (hmj _ ib)
    have hcN : mo_c (M (k + 2)) s.toNatClampNeg = N := (by show (M (k + 2) _).toNatClampNeg = N; rw [hN, nI_clamp (by omega)])
    rw [← hcN] at hN12 hN hNp
    refine k_iloadn C 2 dX8_penalty_16 rfl ?_
    refine k_i2l C dX8_penalty_17 ?_
    refine k_lconst C (0) dX8_penalty_18 (by decide) ?_
    refine k_ldcl C kc_X8_247 dX8_penalty_19 ?_
    refine k_si C (as := [.long v.toInt64, .long (0), .long (9)]) yvX8_in vsX8_in ml_X8_64 (m_X8_in l C.2.2.2.1 M (v := v.toInt64) (p := (0)) (q := (9))) rfl rfl (Nat.le_of_ble_eq_true rfl) (by decide) dX8_penalty_22 (fun x22_3 M22_3 h22_3 => ?_)
    rw [h22_3.1, h22_3.2]
    refine k_zeq C 32 dX8_penalty_25 (by decide) (fun c25_4 => ?_) (fun c25_4 => ?_)
    ·
      have nc25_4 : ¬ (¬ v.toInt64 < (0) ∧ ¬ (9) < v.toInt64) := sk_b1.mp c25_4
      refine k_iconst C (2) dX8_penalty_32 (by decide) ?_
      refine k_vi C (as := [.int (2)]) yvX8_refused viX8_refused ml_X8_164 (m_X8_refused l C.2.2.2.1 M (k := k) (x := (2)) (hk := hk)) hk.1 rfl rfl rfl (Nat.le_of_ble_eq_true rfl) (by decide) dX8_penalty_33 (fun x33_5 M33_5 h33_5 => ?_)
      rw [h33_5.1, h33_5.2]
      refine k_top (1) (by decide) ?_
      refine k_zeq C 41 dX8_penalty_36 (by decide) (fun c36_6 => ?_) (fun c36_6 => ?_)
      ·
        exact absurd c36_6 (by decide)
      ·
        refine k_iconst C (0) dX8_penalty_39 (by decide) ?_
        exact ret _ _ _ _ dX8_penalty_40 rfl (by exact mo_an (i := 2) (er2m nc9_2 (fun h => nc25_4 ((in_k v 0 9 rfl rfl).mpr h))) (by decide))
    ·
      have nc25_4 : ¬ v.toInt64 < (0) ∧ ¬ (9) < v.toInt64 := Classical.byContradiction (fun h => c25_4 (sk_b1.mpr h))
      refine k_iconst C (0) dX8_penalty_28 (by decide) ?_
      refine k_goto C 33 dX8_penalty_29 (by decide) ?_
      refine k_vi C (as := [.int (0)]) yvX8_refused viX8_refused ml_X8_164 (m_X8_refused l C.2.2.2.1 M (k := k) (x := (0)) (hk := hk)) hk.1 rfl rfl rfl (Nat.le_of_ble_eq_true rfl) (by decide) dX8_penalty_33 (fun x33_7 M33_7 h33_7 => ?_)
      rw [h33_7.1, h33_7.2]
      refine k_top (0) (by decide) ?_
      refine k_zeq C 41 dX8_penalty_36 (by decide) (fun c36_8 => ?_) (fun c36_8 => ?_)
      ·
        refine k_aloadn C 0 dX8_penalty_41 rfl ?_
        refine k_vv C (as := []) yvX8_remember viX8_remember ml_X8_225 (m_X8_remember l C.2.2.2.1 (sk_ms M k 0 (0)) (k := k) (c := c) (hk := hk) (hc := (by rw [sk_ne (by omega)]; exact hc)) (hc14 := hc14)) hk.1 rfl rfl rfl (Nat.le_of_ble_eq_true rfl) (by decide) dX8_penalty_42 (fun M42_9 h42_9 => ?_)
        rw [h42_9]
        refine k_aloadn C 0 dX8_penalty_45 rfl ?_
        refine k_getr C (j := 3) (k' := k + 2) kcl_X8 fl_X8_13 hk.1 (by decide) rfl dX8_penalty_46 ?_
        refine k_iloadn C 1 dX8_penalty_49 rfl ?_
        refine k_si C (as := [.int s]) yvX8_skaterAt vsX8_skaterAt ml_X8_72 (m_X8_skaterAt l C.2.2.2.1 (mr_m (sk_ms M k 0 (0)) k c) (s := s.toNatClampNeg) (xs := s) (hxs := ix)) rfl rfl (Nat.le_of_ble_eq_true rfl) (by decide) dX8_penalty_50 (fun x50_10 M50_10 h50_10 => ?_)
        rw [h50_10.1, h50_10.2]
        refine k_iconst C (1) dX8_penalty_53 (by decide) ?_
        refine k_iadd C dX8_penalty_54 ?_
        refine k_ialdn C (6 + 233 * s.toNatClampNeg + 1) hk.2.2.1 (sk_nadd rfl (rfl : ((1) : Int32) = nI 1)) (by omega) dX8_penalty_55 ?_
        refine k_top (M (k + 2) (6 + 233 * s.toNatClampNeg + 1)) (by rw [mr_m_f (by omega) (by omega), sk_ne (by omega)]) ?_
        refine k_istoren C [1, 2, 3, 0] [(0, .ref (sk_ad O k)), (1, .int s), (2, .int v), (3, .int (M (k + 2) (6 + 233 * s.toNatClampNeg + 1)))] dX8_penalty_56 (by decide) rfl ?_
        refine k_aloadn C 0 dX8_penalty_57 rfl ?_
        refine k_getr C (j := 3) (k' := k + 2) kcl_X8 fl_X8_13 hk.1 (by decide) rfl dX8_penalty_58 ?_
        refine k_iloadn C 1 dX8_penalty_61 rfl ?_
        refine k_si C (as := [.int s]) yvX8_skaterAt vsX8_skaterAt ml_X8_72 (m_X8_skaterAt l C.2.2.2.1 (mr_m (sk_ms M k 0 (0)) k c) (s := s.toNatClampNeg) (xs := s) (hxs := ix)) rfl rfl (Nat.le_of_ble_eq_true rfl) (by decide) dX8_penalty_62 (fun x62_11 M62_11 h62_11 => ?_)
        rw [h62_11.1, h62_11.2]
        refine k_iconst C (1) dX8_penalty_65 (by decide) ?_
        refine k_iadd C dX8_penalty_66 ?_
        refine k_iloadn C 2 dX8_penalty_67 rfl ?_
        refine k_iast C (6 + 233 * s.toNatClampNeg + 1) hk.2.2.1 (sk_nadd rfl (rfl : ((1) : Int32) = nI 1)) (by omega) dX8_penalty_68 ?_
        refine k_iloadn C 3 dX8_penalty_69 rfl ?_
        exact ret _ _ _ _ dX8_penalty_70 rfl (by exact mo_ak (er2p nc9_2 ((in_k v 0 9 rfl rfl).mp nc25_4)) hc rfl (fun x hx => sk_nf hx) (by rw [sk_msu, mr_m_f (by omega) (by omega), sk_nf (by omega)]))
      ·
        exact absurd c36_8 (by decide)
  ·
    have nc9_2 : ¬ (mo_hs (M (k + 2)) s) := sk_b1.mp c9_2
    refine k_iconst C (1) dX8_penalty_12 (by decide) ?_
    refine k_goto C 33 dX8_penalty_13 (by decide) ?_
    refine k_vi C (as := [.int (1)]) yvX8_refused viX8_refused ml_X8_164 (m_X8_refused l C.2.2.2.1 M (k := k) (x := (1)) (hk := hk)) hk.1 rfl rfl rfl (Nat.le_of_ble_eq_true rfl) (by decide) dX8_penalty_33 (fun x33_12 M33_12 h33_12 => ?_)
    rw [h33_12.1, h33_12.2]
    refine k_top (1) (by decide) ?_
    refine k_zeq C 41 dX8_penalty_36 (by decide) (fun c36_13 => ?_) (fun c36_13 => ?_)
    ·
      exact absurd c36_13 (by decide)
    ·
      refine k_iconst C (0) dX8_penalty_39 (by decide) ?_
      exact ret _ _ _ _ dX8_penalty_40 rfl (by exact mo_an (i := 1) (er2n nc9_2) (by decide))

set_option maxHeartbeats 4000000 in
set_option maxRecDepth 100000 in
theorem m_X8_set (l : Launch) {O : sk_O} (hO : sk_inj O) (M : sk_M) (k : Nat) (hk : sk_isM O k) (w v : Int32) (c : Nat) (hc : M k 6 = nI c) (hc14 : c ≤ 14) : sk_Mi l yX8_set (sk_w yX8_set cX8_set 4 (some .int)) ({ frames := 2, cells := 0, slots := 0, locals := 46 }) O [.ref (sk_ad O k), .int w, .int v] M (mo_a M k c (er_1 (st_fi w v)) (M (k + 2) (1 + w.toNatClampNeg)) (mu_u (M (k + 2)) (1 + w.toNatClampNeg) v)) := by
  refine sk_mi (by decide) ⟨rfl, rfl⟩ hO (Nat.le_of_ble_eq_true rfl) (fun X A Q C ret => ?_)
  show sk_W l X O A Q 4 0 0 M 0 [(0, .ref (sk_ad O k)), (1, .int w), (2, .int v)] []
  refine k_aloadn C 0 dX8_set_0 rfl ?_
  refine k_iloadn C 1 dX8_set_1 rfl ?_
  refine k_iloadn C 2 dX8_set_2 rfl ?_
  refine k_si C (as := [.int w, .int v]) yvX8_isSetting vsX8_isSetting ml_X8_257 (m_X8_isSetting l C.2.2.2.1 M (w := w) (v := v)) rfl rfl (Nat.le_of_ble_eq_true rfl) (by decide) dX8_set_3 (fun x3_1 M3_1 h3_1 => ?_)
  rw [h3_1.1, h3_1.2]
  refine k_zeq C 13 dX8_set_6 (by decide) (fun c6_2 => ?_) (fun c6_2 => ?_)
  ·
    have nc6_2 : ¬ (st_fi w v) := sk_b1.mp c6_2
    refine k_iconst C (1) dX8_set_13 (by decide) ?_
    refine k_vi C (as := [.int (1)]) yvX8_refused viX8_refused ml_X8_164 (m_X8_refused l C.2.2.2.1 M (k := k) (x := (1)) (hk := hk)) hk.1 rfl rfl rfl (Nat.le_of_ble_eq_true rfl) (by decide) dX8_set_14 (fun x14_3 M14_3 h14_3 => ?_)
    rw [h14_3.1, h14_3.2]
    refine k_top (1) (by decide) ?_
    refine k_zeq C 22 dX8_set_17 (by decide) (fun c17_4 => ?_) (fun c17_4 => ?_)
    ·
      exact absurd c17_4 (by decide)
    ·
      refine k_iconst C (0) dX8_set_20 (by decide) ?_
      exact ret _ _ _ _ dX8_set_21 rfl (by exact mo_an (i := 1) (er1n nc6_2) (by decide))
  ·
    have nc6_2 : st_fi w v := Classical.byContradiction (fun h => c6_2 (sk_b1.mpr h))
    obtain ⟨wx, wb⟩ := st_fiw nc6_2
    refine k_iconst C (0) dX8_set_9 (by decide) ?_
    refine k_goto C 14 dX8_set_10 (by decide) ?_
    refine k_vi C (as := [.int (0)]) yvX8_refused viX8_refused ml_X8_164 (m_X8_refused l C.2.2.2.1 M (k := k) (x := (0)) (hk := hk)) hk.1 rfl rfl rfl (Nat.le_of_ble_eq_true rfl) (by decide) dX8_set_14 (fun x14_5 M14_5 h14_5 => ?_)
    rw [h14_5.1, h14_5.2]
    refine k_top (0) (by decide) ?_
    refine k_zeq C 22 dX8_set_17 (by decide) (fun c17_6 => ?_) (fun c17_6 => ?_)
    ·
      refine k_aloadn C 0 dX8_set_22 rfl ?_
      refine k_vv C (as := []) yvX8_remember viX8_remember ml_X8_225 (m_X8_remember l C.2.2.2.1 (sk_ms M k 0 (0)) (k := k) (c := c) (hk := hk) (hc := (by rw [sk_ne (by omega)]; exact hc)) (hc14 := hc14)) hk.1 rfl rfl rfl (Nat.le_of_ble_eq_true rfl) (by decide) dX8_set_23 (fun M23_7 h23_7 => ?_)
      rw [h23_7]
      refine k_aloadn C 0 dX8_set_26 rfl ?_
      refine k_getr C (j := 3) (k' := k + 2) kcl_X8 fl_X8_13 hk.1 (by decide) rfl dX8_set_27 ?_
      refine k_iconst C (1) dX8_set_30 (by decide) ?_
      refine k_iloadn C 1 dX8_set_31 rfl ?_
      refine k_iadd C dX8_set_32 ?_
      refine k_ialdn C (1 + w.toNatClampNeg) hk.2.2.1 (sk_nadd (a := 1) rfl wx) (by omega) dX8_set_33 ?_
      refine k_top (M (k + 2) (1 + w.toNatClampNeg)) (by rw [mr_m_f (by omega) (by omega), sk_ne (by omega)]) ?_
      refine k_istoren C [1, 2, 3, 0] [(0, .ref (sk_ad O k)), (1, .int w), (2, .int v), (3, .int (M (k + 2) (1 + w.toNatClampNeg)))] dX8_set_34 (by decide) rfl ?_
      refine k_aloadn C 0 dX8_set_35 rfl ?_
      refine k_getr C (j := 3) (k' := k + 2) kcl_X8 fl_X8_13 hk.1 (by decide) rfl dX8_set_36 ?_
      refine k_iconst C (1) dX8_set_39 (by decide) ?_
      refine k_iloadn C 1 dX8_set_40 rfl ?_
      refine k_iadd C dX8_set_41 ?_
      refine k_iloadn C 2 dX8_set_42 rfl ?_
      refine k_iast C (1 + w.toNatClampNeg) hk.2.2.1 (sk_nadd (a := 1) rfl wx) (by omega) dX8_set_43 ?_
      refine k_iloadn C 3 dX8_set_44 rfl ?_
      exact ret _ _ _ _ dX8_set_45 rfl (by exact mo_ak (er1p nc6_2) hc rfl (fun x hx => sk_nf hx) (by rw [sk_msu, mr_m_f (by omega) (by omega), sk_nf (by omega)]))
    ·
      exact absurd c17_6 (by decide)

set_option maxHeartbeats 4000000 in
set_option maxRecDepth 100000 in
theorem m_X8_undo (l : Launch) {O : sk_O} (hO : sk_inj O) (M : sk_M) (k : Nat) (hk : sk_isM O k) (c : Nat) (hc : M k 6 = nI c) (hc14 : c ≤ 14) : sk_Mi l yX8_undo (sk_w yX8_undo cX8_undo 1 (some .int)) ({ frames := 1, cells := 0, slots := 0, locals := 24 }) O [.ref (sk_ad O k)] M (mo_q M k (er_1 (0 < c)) (nI (c - 1)) (mc_m (sk_ms (sk_ms M k 0 0) k 6 (nI (c - 1))) (k + 4) (k + 2) (938 * (c - 1)) 0 938)) := by
  refine sk_mi (by decide) ⟨rfl, rfl⟩ hO (Nat.le_of_ble_eq_true rfl) (fun X A Q C ret => ?_)
  show sk_W l X O A Q 1 0 0 M 0 [(0, .ref (sk_ad O k))] []
  refine k_aloadn C 0 dX8_undo_0 rfl ?_
  refine k_aloadn C 0 dX8_undo_1 rfl ?_
  refine k_geti C (j := 6) kcl_X8 fl_X8_218 hk.1 (by decide) rfl dX8_undo_2 ?_
  refine k_zne C 12 dX8_undo_5 (by decide) (fun c5_1 => ?_) (fun c5_1 => ?_)
  ·
    have nc5_1 : ¬ (c = 0) := fun h => c5_1 ((sk_qI (a := c) (b := 0) hc (rfl : ((0) : Int32) = nI 0) (by omega) (by omega)).mpr h)
    refine k_iconst C (0) dX8_undo_12 (by decide) ?_
    refine k_vi C (as := [.int (0)]) yvX8_refused viX8_refused ml_X8_164 (m_X8_refused l C.2.2.2.1 M (k := k) (x := (0)) (hk := hk)) hk.1 rfl rfl rfl (Nat.le_of_ble_eq_true rfl) (by decide) dX8_undo_13 (fun x13_2 M13_2 h13_2 => ?_)
    rw [h13_2.1, h13_2.2]
    refine k_top (0) (by decide) ?_
    refine k_zeq C 21 dX8_undo_16 (by decide) (fun c16_3 => ?_) (fun c16_3 => ?_)
    ·
      refine k_aloadn C 0 dX8_undo_21 rfl ?_
      refine k_dup C dX8_undo_22 rfl ?_
      refine k_geti C (j := 6) kcl_X8 fl_X8_218 hk.1 (by decide) rfl dX8_undo_23 ?_
      refine k_top (M k 6) (by rw [sk_ne (by omega)]) ?_
      refine k_iconst C (1) dX8_undo_26 (by decide) ?_
      refine k_isub C dX8_undo_27 ?_
      refine k_top (nI (c - 1)) (sk_nsub (b := 1) hc rfl (by omega)) ?_
      refine k_puti C (j := 6) (ty := .int) tyX8 kcl_X8 tyX8_ok nmX8 fl_X8_218 hk.1 (by decide) rfl rfl (by decide +kernel) rfl rfl dX8_undo_28 ?_
      refine k_aloadn C 0 dX8_undo_31 rfl ?_
      refine k_getr C (j := 5) (k' := k + 4) kcl_X8 fl_X8_19 hk.1 (by decide) rfl dX8_undo_32 ?_
      refine k_sipush C (938) dX8_undo_35 (by decide) ?_
      refine k_aloadn C 0 dX8_undo_38 rfl ?_
      refine k_geti C (j := 6) kcl_X8 fl_X8_218 hk.1 (by decide) rfl dX8_undo_39 ?_
      refine k_top (nI (c - 1)) (by rw [sk_sm]) ?_
      refine k_imul C dX8_undo_42 ?_
      refine k_aloadn C 0 dX8_undo_43 rfl ?_
      refine k_getr C (j := 3) (k' := k + 2) kcl_X8 fl_X8_13 hk.1 (by decide) rfl dX8_undo_44 ?_
      refine k_iconst C (0) dX8_undo_47 (by decide) ?_
      refine k_sv C (as := [.ref (sk_ad O (k + 4)), .int ((938) * (nI (c - 1))), .ref (sk_ad O (k + 2)), .int (0)]) yvX8_copyState vsX8_copyState ml_X8_221 (m_X8_copyState l C.2.2.2.1 (sk_ms (sk_ms M k 0 (0)) k 6 (nI (c - 1))) (a := k + 4) (b := k + 2) (za := 13132) (zb := 938) (ha := hk.2.2.2.2.1) (hb := hk.2.2.1) (p := 938 * (c - 1)) (xp := (938) * (nI (c - 1))) (hxp := (sk_nmul (rfl : ((938) : Int32) = nI 938) rfl)) (q := 0) (xq := (0)) (hxq := (rfl : ((0) : Int32) = nI 0)) (hza := (by omega)) (hzb := (by omega)) (hz2 := (by omega)) (hz3 := (by omega)) (hab := (by omega))) rfl rfl (Nat.le_of_ble_eq_true rfl) (by decide) dX8_undo_48 (fun M48_4 h48_4 => ?_)
      rw [h48_4]
      refine k_aloadn C 0 dX8_undo_51 rfl ?_
      refine k_geti C (j := 6) kcl_X8 fl_X8_218 hk.1 (by decide) rfl dX8_undo_52 ?_
      refine k_top (nI (c - 1)) (by rw [mc_m_f (by omega), sk_sm]) ?_
      exact ret _ _ _ _ dX8_undo_55 rfl (by exact Or.inl ⟨er1p (by omega), rfl, rfl⟩)
    ·
      exact absurd c16_3 (by decide)
  ·
    have nc5_1 : c = 0 := (sk_qI (a := c) (b := 0) hc (rfl : ((0) : Int32) = nI 0) (by omega) (by omega)).mp c5_1
    refine k_iconst C (1) dX8_undo_8 (by decide) ?_
    refine k_goto C 13 dX8_undo_9 (by decide) ?_
    refine k_vi C (as := [.int (1)]) yvX8_refused viX8_refused ml_X8_164 (m_X8_refused l C.2.2.2.1 M (k := k) (x := (1)) (hk := hk)) hk.1 rfl rfl rfl (Nat.le_of_ble_eq_true rfl) (by decide) dX8_undo_13 (fun x13_5 M13_5 h13_5 => ?_)
    rw [h13_5.1, h13_5.2]
    refine k_top (1) (by decide) ?_
    refine k_zeq C 21 dX8_undo_16 (by decide) (fun c16_6 => ?_) (fun c16_6 => ?_)
    ·
      exact absurd c16_6 (by decide)
    ·
      refine k_iconst C (0) dX8_undo_19 (by decide) ?_
      exact ret _ _ _ _ dX8_undo_20 rfl (by exact mo_qn (i := 1) (er1n (by omega)) (by decide))

set_option maxHeartbeats 4000000 in
set_option maxRecDepth 100000 in
theorem m_X8_save (l : Launch) {O : sk_O} (hO : sk_inj O) (M : sk_M) (k : Nat) (hk : sk_isM O k) (j : Int32) : sk_Mi l yX8_save (sk_w yX8_save cX8_save 2 (some .int)) ({ frames := 1, cells := 0, slots := 0, locals := 25 }) O [.ref (sk_ad O k), .int j] M (mo_q M k (er_1 (¬ j < 0 ∧ ¬ 1 < j)) (M (k + 2) 0) (sk_ms (mc_m (sk_ms M k 0 0) (k + 2) (k + 5) 0 (938 * j.toNatClampNeg) 938) (k + 6) j.toNatClampNeg 1)) := by
  refine sk_mi (by decide) ⟨rfl, rfl⟩ hO (Nat.le_of_ble_eq_true rfl) (fun X A Q C ret => ?_)
  show sk_W l X O A Q 2 0 0 M 0 [(0, .ref (sk_ad O k)), (1, .int j)] []
  refine k_aloadn C 0 dX8_save_0 rfl ?_
  refine k_iloadn C 1 dX8_save_1 rfl ?_
  refine k_i2l C dX8_save_2 ?_
  refine k_lconst C (0) dX8_save_3 (by decide) ?_
  refine k_lconst C (1) dX8_save_4 (by decide) ?_
  refine k_si C (as := [.long j.toInt64, .long (0), .long (1)]) yvX8_in vsX8_in ml_X8_64 (m_X8_in l C.2.2.2.1 M (v := j.toInt64) (p := (0)) (q := (1))) rfl rfl (Nat.le_of_ble_eq_true rfl) (by decide) dX8_save_5 (fun x5_1 M5_1 h5_1 => ?_)
  rw [h5_1.1, h5_1.2]
  refine k_zeq C 15 dX8_save_8 (by decide) (fun c8_2 => ?_) (fun c8_2 => ?_)
  ·
    have nc8_2 : ¬ (¬ j.toInt64 < (0) ∧ ¬ (1) < j.toInt64) := sk_b1.mp c8_2
    refine k_iconst C (1) dX8_save_15 (by decide) ?_
    refine k_vi C (as := [.int (1)]) yvX8_refused viX8_refused ml_X8_164 (m_X8_refused l C.2.2.2.1 M (k := k) (x := (1)) (hk := hk)) hk.1 rfl rfl rfl (Nat.le_of_ble_eq_true rfl) (by decide) dX8_save_16 (fun x16_3 M16_3 h16_3 => ?_)
    rw [h16_3.1, h16_3.2]
    refine k_top (1) (by decide) ?_
    refine k_zeq C 24 dX8_save_19 (by decide) (fun c19_4 => ?_) (fun c19_4 => ?_)
    ·
      exact absurd c19_4 (by decide)
    ·
      refine k_iconst C (0) dX8_save_22 (by decide) ?_
      exact ret _ _ _ _ dX8_save_23 rfl (by exact mo_qn (i := 1) (er1n (fun h => nc8_2 ((in_k j 0 1 rfl rfl).mpr h))) (by decide))
  ·
    have nc8_2 : ¬ j.toInt64 < (0) ∧ ¬ (1) < j.toInt64 := Classical.byContradiction (fun h => c8_2 (sk_b1.mpr h))
    obtain ⟨jx, jb⟩ := mo_ix (m := 1) ((in_k j 0 1 rfl rfl).mp nc8_2) rfl (by omega)
    refine k_iconst C (0) dX8_save_11 (by decide) ?_
    refine k_goto C 16 dX8_save_12 (by decide) ?_
    refine k_vi C (as := [.int (0)]) yvX8_refused viX8_refused ml_X8_164 (m_X8_refused l C.2.2.2.1 M (k := k) (x := (0)) (hk := hk)) hk.1 rfl rfl rfl (Nat.le_of_ble_eq_true rfl) (by decide) dX8_save_16 (fun x16_5 M16_5 h16_5 => ?_)
    rw [h16_5.1, h16_5.2]
    refine k_top (0) (by decide) ?_
    refine k_zeq C 24 dX8_save_19 (by decide) (fun c19_6 => ?_) (fun c19_6 => ?_)
    ·
      refine k_aloadn C 0 dX8_save_24 rfl ?_
      refine k_getr C (j := 3) (k' := k + 2) kcl_X8 fl_X8_13 hk.1 (by decide) rfl dX8_save_25 ?_
      refine k_iconst C (0) dX8_save_28 (by decide) ?_
      refine k_aloadn C 0 dX8_save_29 rfl ?_
      refine k_getr C (j := 7) (k' := k + 5) kcl_X8 fl_X8_22 hk.1 (by decide) rfl dX8_save_30 ?_
      refine k_sipush C (938) dX8_save_33 (by decide) ?_
      refine k_iloadn C 1 dX8_save_36 rfl ?_
      refine k_imul C dX8_save_37 ?_
      refine k_sv C (as := [.ref (sk_ad O (k + 2)), .int (0), .ref (sk_ad O (k + 5)), .int ((938) * j)]) yvX8_copyState vsX8_copyState ml_X8_221 (m_X8_copyState l C.2.2.2.1 (sk_ms M k 0 (0)) (a := k + 2) (b := k + 5) (za := 938) (zb := 1876) (ha := hk.2.2.1) (hb := hk.2.2.2.2.2.1) (p := 0) (xp := (0)) (hxp := (rfl : ((0) : Int32) = nI 0)) (q := 938 * j.toNatClampNeg) (xq := (938) * j) (hxq := (sk_nmul (rfl : ((938) : Int32) = nI 938) jx)) (hza := (by omega)) (hzb := (by omega)) (hz2 := (by omega)) (hz3 := (by omega)) (hab := (by omega))) rfl rfl (Nat.le_of_ble_eq_true rfl) (by decide) dX8_save_38 (fun M38_7 h38_7 => ?_)
      rw [h38_7]
      refine k_aloadn C 0 dX8_save_41 rfl ?_
      refine k_getr C (j := 8) (k' := k + 6) kcl_X8 fl_X8_25 hk.1 (by decide) rfl dX8_save_42 ?_
      refine k_iloadn C 1 dX8_save_45 rfl ?_
      refine k_iconst C (1) dX8_save_46 (by decide) ?_
      refine k_zast C j.toNatClampNeg hk.2.2.2.2.2.2.1 jx (by omega) rfl dX8_save_47 ?_
      refine k_aloadn C 0 dX8_save_48 rfl ?_
      refine k_getr C (j := 3) (k' := k + 2) kcl_X8 fl_X8_13 hk.1 (by decide) rfl dX8_save_49 ?_
      refine k_iconst C (0) dX8_save_52 (by decide) ?_
      refine k_ialdn C 0 hk.2.2.1 (rfl : ((0) : Int32) = nI 0) (by omega) dX8_save_53 ?_
      refine k_top (M (k + 2) 0) (by rw [sk_ne (by omega), mc_m_f (by omega), sk_ne (by omega)]) ?_
      exact ret _ _ _ _ dX8_save_54 rfl (by exact Or.inl ⟨er1p ((in_k j 0 1 rfl rfl).mp nc8_2), rfl, rfl⟩)
    ·
      exact absurd c19_6 (by decide)

set_option maxHeartbeats 4000000 in
set_option maxRecDepth 100000 in
theorem m_X8_restore (l : Launch) {O : sk_O} (hO : sk_inj O) (M : sk_M) (k : Nat) (hk : sk_isM O k) (j : Int32) : sk_Mi l yX8_restore (sk_w yX8_restore cX8_restore 2 (some .int)) ({ frames := 1, cells := 0, slots := 0, locals := 25 }) O [.ref (sk_ad O k), .int j] M (mo_q M k (er_2 (¬ j < 0 ∧ ¬ 1 < j) (¬ M (k + 6) j.toNatClampNeg = 0)) (M (k + 5) (938 * j.toNatClampNeg)) (sk_ms (mc_m (sk_ms M k 0 0) (k + 5) (k + 2) (938 * j.toNatClampNeg) 0 938) k 6 0)) := by
  refine sk_mi (by decide) ⟨rfl, rfl⟩ hO (Nat.le_of_ble_eq_true rfl) (fun X A Q C ret => ?_)
  show sk_W l X O A Q 2 0 0 M 0 [(0, .ref (sk_ad O k)), (1, .int j)] []
  refine k_aloadn C 0 dX8_restore_0 rfl ?_
  refine k_iloadn C 1 dX8_restore_1 rfl ?_
  refine k_i2l C dX8_restore_2 ?_
  refine k_lconst C (0) dX8_restore_3 (by decide) ?_
  refine k_lconst C (1) dX8_restore_4 (by decide) ?_
  refine k_si C (as := [.long j.toInt64, .long (0), .long (1)]) yvX8_in vsX8_in ml_X8_64 (m_X8_in l C.2.2.2.1 M (v := j.toInt64) (p := (0)) (q := (1))) rfl rfl (Nat.le_of_ble_eq_true rfl) (by decide) dX8_restore_5 (fun x5_1 M5_1 h5_1 => ?_)
  rw [h5_1.1, h5_1.2]
  refine k_zne C 15 dX8_restore_8 (by decide) (fun c8_2 => ?_) (fun c8_2 => ?_)
  ·
    have nc8_2 : ¬ j.toInt64 < (0) ∧ ¬ (1) < j.toInt64 := Classical.byContradiction (fun h => c8_2 (sk_b1.mpr h))
    obtain ⟨jx, jb⟩ := mo_ix (m := 1) ((in_k j 0 1 rfl rfl).mp nc8_2) rfl (by omega)
    refine k_aloadn C 0 dX8_restore_15 rfl ?_
    refine k_getr C (j := 8) (k' := k + 6) kcl_X8 fl_X8_25 hk.1 (by decide) rfl dX8_restore_16 ?_
    refine k_iloadn C 1 dX8_restore_19 rfl ?_
    refine k_zaldn C j.toNatClampNeg hk.2.2.2.2.2.2.1 jx (by omega) dX8_restore_20 ?_
    refine k_zne C 28 dX8_restore_21 (by decide) (fun c21_3 => ?_) (fun c21_3 => ?_)
    ·
      refine k_iconst C (0) dX8_restore_28 (by decide) ?_
      refine k_vi C (as := [.int (0)]) yvX8_refused viX8_refused ml_X8_164 (m_X8_refused l C.2.2.2.1 M (k := k) (x := (0)) (hk := hk)) hk.1 rfl rfl rfl (Nat.le_of_ble_eq_true rfl) (by decide) dX8_restore_29 (fun x29_4 M29_4 h29_4 => ?_)
      rw [h29_4.1, h29_4.2]
      refine k_top (0) (by decide) ?_
      refine k_zeq C 37 dX8_restore_32 (by decide) (fun c32_5 => ?_) (fun c32_5 => ?_)
      ·
        refine k_aloadn C 0 dX8_restore_37 rfl ?_
        refine k_getr C (j := 7) (k' := k + 5) kcl_X8 fl_X8_22 hk.1 (by decide) rfl dX8_restore_38 ?_
        refine k_sipush C (938) dX8_restore_41 (by decide) ?_
        refine k_iloadn C 1 dX8_restore_44 rfl ?_
        refine k_imul C dX8_restore_45 ?_
        refine k_aloadn C 0 dX8_restore_46 rfl ?_
        refine k_getr C (j := 3) (k' := k + 2) kcl_X8 fl_X8_13 hk.1 (by decide) rfl dX8_restore_47 ?_
        refine k_iconst C (0) dX8_restore_50 (by decide) ?_
        refine k_sv C (as := [.ref (sk_ad O (k + 5)), .int ((938) * j), .ref (sk_ad O (k + 2)), .int (0)]) yvX8_copyState vsX8_copyState ml_X8_221 (m_X8_copyState l C.2.2.2.1 (sk_ms M k 0 (0)) (a := k + 5) (b := k + 2) (za := 1876) (zb := 938) (ha := hk.2.2.2.2.2.1) (hb := hk.2.2.1) (p := 938 * j.toNatClampNeg) (xp := (938) * j) (hxp := (sk_nmul (rfl : ((938) : Int32) = nI 938) jx)) (q := 0) (xq := (0)) (hxq := (rfl : ((0) : Int32) = nI 0)) (hza := (by omega)) (hzb := (by omega)) (hz2 := (by omega)) (hz3 := (by omega)) (hab := (by omega))) rfl rfl (Nat.le_of_ble_eq_true rfl) (by decide) dX8_restore_51 (fun M51_6 h51_6 => ?_)
        rw [h51_6]
        refine k_aloadn C 0 dX8_restore_54 rfl ?_
        refine k_iconst C (0) dX8_restore_55 (by decide) ?_
        refine k_puti C (j := 6) (ty := .int) tyX8 kcl_X8 tyX8_ok nmX8 fl_X8_218 hk.1 (by decide) rfl rfl (by decide +kernel) rfl rfl dX8_restore_56 ?_
        refine k_aloadn C 0 dX8_restore_59 rfl ?_
        refine k_getr C (j := 3) (k' := k + 2) kcl_X8 fl_X8_13 hk.1 (by decide) rfl dX8_restore_60 ?_
        refine k_iconst C (0) dX8_restore_63 (by decide) ?_
        refine k_ialdn C 0 hk.2.2.1 (rfl : ((0) : Int32) = nI 0) (by omega) dX8_restore_64 ?_
        refine k_top ((mc_m (sk_ms M k 0 (0)) (k + 5) (k + 2) (938 * j.toNatClampNeg) 0 938) (k + 2) 0) (by rw [sk_ne (by omega)]) ?_
        refine k_top (M (k + 5) (938 * j.toNatClampNeg)) (by rw [mc_mv0, sk_nf (by omega)]) ?_
        exact ret _ _ _ _ dX8_restore_65 rfl (by exact Or.inl ⟨er2p ((in_k j 0 1 rfl rfl).mp nc8_2) c21_3, rfl, rfl⟩)
      ·
        exact absurd c32_5 (by decide)
    ·
      refine k_iconst C (2) dX8_restore_24 (by decide) ?_
      refine k_goto C 29 dX8_restore_25 (by decide) ?_
      refine k_vi C (as := [.int (2)]) yvX8_refused viX8_refused ml_X8_164 (m_X8_refused l C.2.2.2.1 M (k := k) (x := (2)) (hk := hk)) hk.1 rfl rfl rfl (Nat.le_of_ble_eq_true rfl) (by decide) dX8_restore_29 (fun x29_7 M29_7 h29_7 => ?_)
      rw [h29_7.1, h29_7.2]
      refine k_top (1) (by decide) ?_
      refine k_zeq C 37 dX8_restore_32 (by decide) (fun c32_8 => ?_) (fun c32_8 => ?_)
      ·
        exact absurd c32_8 (by decide)
      ·
        refine k_iconst C (0) dX8_restore_35 (by decide) ?_
        exact ret _ _ _ _ dX8_restore_36 rfl (by exact mo_qn (i := 2) (er2m ((in_k j 0 1 rfl rfl).mp nc8_2) (fun h => h c21_3)) (by decide))
  ·
    have nc8_2 : ¬ (¬ j.toInt64 < (0) ∧ ¬ (1) < j.toInt64) := sk_b1.mp c8_2
    refine k_iconst C (1) dX8_restore_11 (by decide) ?_
    refine k_goto C 29 dX8_restore_12 (by decide) ?_
    refine k_vi C (as := [.int (1)]) yvX8_refused viX8_refused ml_X8_164 (m_X8_refused l C.2.2.2.1 M (k := k) (x := (1)) (hk := hk)) hk.1 rfl rfl rfl (Nat.le_of_ble_eq_true rfl) (by decide) dX8_restore_29 (fun x29_9 M29_9 h29_9 => ?_)
    rw [h29_9.1, h29_9.2]
    refine k_top (1) (by decide) ?_
    refine k_zeq C 37 dX8_restore_32 (by decide) (fun c32_10 => ?_) (fun c32_10 => ?_)
    ·
      exact absurd c32_10 (by decide)
    ·
      refine k_iconst C (0) dX8_restore_35 (by decide) ?_
      exact ret _ _ _ _ dX8_restore_36 rfl (by exact mo_qn (i := 1) (er2n (fun h => nc8_2 ((in_k j 0 1 rfl rfl).mpr h))) (by decide))

