/-! Text: the reader, against a pure one -/
def tx (S : Nat → Int32) (n a : Nat) : Int32 := if a < n then S a else -1
abbrev sk_J : Type := Int32 × Int32 × Int32
def tk (c : Int32) : Int32 := if c = 84 then 0 else if c = 83 then 1 else if c = 79 then 2 else if c = 70 then 3 else if c = 90 then 4 else if c = 65 then 5 else -1
def tc (c k : Int32) : Int32 := if c = 60 then 1 else if c = 33 then 2 else if c = 101 then (if k = 3 ∨ k = 4 then 3 else 0) else 0
theorem sk_id {M : sk_M} {k j : Nat} {v : Int32} (h : M k j = v) : sk_ms M k j v = M := by
  funext a b
  unfold sk_ms
  by_cases q : a = k ∧ b = j
  · rw [if_pos q, q.1, q.2, h]
  · rw [if_neg q]
theorem sk_n2 {x : Int32} (h1 : ¬ x < 1) (h2 : x ≤ 4) : ¬ (x < 1 ∨ 4 < x) := fun h => h.elim h1 (fun z => absurd h2 (Int32.not_le.mpr z))
/-- a jump at a: where it fails, or where it ends and what it is -/
def tj (s : Nat → Int32) (a : Nat) : Nat ⊕ (Nat × sk_J) :=
  if s a - 48 < 1 ∨ 4 < s a - 48 then .inl a
  else if tk (s (a + 1)) = -1 then .inl (a + 1)
  else .inr (if tc (s (a + 2)) (tk (s (a + 1))) = 0 then a + 2 else a + 3, (tk (s (a + 1)), s a - 48, tc (s (a + 2)) (tk (s (a + 1)))))
set_option maxHeartbeats 4000000 in
set_option maxRecDepth 100000 in
theorem m_X6_isFull (l : Launch) {O : sk_O} (hO : sk_inj O) (M : sk_M) (t n : Nat) (ht : sk_isT O t) (hn : M t 1 = nI n) (hn2 : n ≤ 120) : sk_Mi l yX6_isFull (sk_w yX6_isFull cX6_isFull 1 (some .boolean)) ({ frames := 0, cells := 0, slots := 0, locals := 0 }) O [.ref (sk_ad O t)] M (fun r M' => r = (if 120 ≤ n then 1 else 0) ∧ M' = M) := by
  refine sk_mi (by decide) ⟨rfl, rfl⟩ hO (Nat.le_of_ble_eq_true rfl) (fun X A Q C ret => ?_)
  show sk_W l X O A Q 1 0 0 M 0 [(0, .ref (sk_ad O t))] []
  refine k_aloadn C 0 dX6_isFull_0 rfl ?_
  refine k_geti C (j := 1) kcl_X6 fl_X6_15 ht.1 (by decide) rfl dX6_isFull_1 ?_
  refine k_bipush C (120) dX6_isFull_4 (by decide) ?_
  refine k_clt C 13 dX6_isFull_6 (by decide) (fun c6_1 => ?_) (fun c6_1 => ?_)
  ·
    have nc6_1 : n < 120 := (sk_lI (a := n) (b := 120) hn (rfl : ((120) : Int32) = nI 120) (by omega) (by omega)).mp c6_1
    refine k_iconst C (0) dX6_isFull_13 (by decide) ?_
    exact ret _ _ _ _ dX6_isFull_14 rfl (by first | (rw [if_pos (by omega)]; exact ⟨rfl, rfl⟩) | (rw [if_neg (by omega)]; exact ⟨rfl, rfl⟩))
  ·
    have nc6_1 : ¬ (n < 120) := fun h => c6_1 ((sk_lI (a := n) (b := 120) hn (rfl : ((120) : Int32) = nI 120) (by omega) (by omega)).mpr h)
    refine k_iconst C (1) dX6_isFull_9 (by decide) ?_
    refine k_goto C 14 dX6_isFull_10 (by decide) ?_
    exact ret _ _ _ _ dX6_isFull_14 rfl (by first | (rw [if_pos (by omega)]; exact ⟨rfl, rfl⟩) | (rw [if_neg (by omega)]; exact ⟨rfl, rfl⟩))

set_option maxHeartbeats 4000000 in
set_option maxRecDepth 100000 in
theorem m_X6_put (l : Launch) {O : sk_O} (hO : sk_inj O) (M : sk_M) (t n : Nat) (c : Int32) (ht : sk_isT O t) (hn : M t 1 = nI n) (hn2 : n < 120) : sk_Mv l yX6_put (sk_w yX6_put cX6_put 2 none) ({ frames := 1, cells := 0, slots := 0, locals := 20 }) O [.ref (sk_ad O t), .int c] M (fun M' => M' = (sk_ms (sk_ms M (t + 1) n c) t 1 (M t 1 + 1))) := by
  refine sk_mv (by decide) ⟨rfl, rfl⟩ hO (Nat.le_of_ble_eq_true rfl) (fun X A Q C ret => ?_)
  show sk_W l X O A Q 2 0 0 M 0 [(0, .ref (sk_ad O t)), (1, .int c)] []
  refine k_aloadn C 0 dX6_put_0 rfl ?_
  refine k_vi C (as := []) yvX6_isFull viX6_isFull ml_X6_19 (m_X6_isFull l C.2.2.2.1 M (t := t) (n := n) (ht := ht) (hn := hn) (hn2 := (by omega))) ht.1 rfl rfl rfl (Nat.le_of_ble_eq_true rfl) (by decide) dX6_put_1 (fun x1_1 M1_1 h1_1 => ?_)
  rw [h1_1.1, h1_1.2]
  refine k_zne C 27 dX6_put_4 (by decide) (fun c4_2 => ?_) (fun c4_2 => ?_)
  ·
    have nc4_2 : 120 ≤ n := Classical.byContradiction (fun h => c4_2 (sk_b1.mpr h))
    omega --done
  ·
    have nc4_2 : ¬ (120 ≤ n) := sk_b1.mp c4_2
    refine k_aloadn C 0 dX6_put_7 rfl ?_
    refine k_getr C (j := 0) (k' := t + 1) kcl_X6 fl_X6_11 ht.1 (by decide) rfl dX6_put_8 ?_
    refine k_aloadn C 0 dX6_put_11 rfl ?_
    refine k_geti C (j := 1) kcl_X6 fl_X6_15 ht.1 (by decide) rfl dX6_put_12 ?_
    refine k_iloadn C 1 dX6_put_15 rfl ?_
    refine k_iast C n ht.2 hn (by omega) dX6_put_16 ?_
    refine k_aloadn C 0 dX6_put_17 rfl ?_
    refine k_dup C dX6_put_18 rfl ?_
    refine k_geti C (j := 1) kcl_X6 fl_X6_15 ht.1 (by decide) rfl dX6_put_19 ?_
    refine k_top (M t 1) (by rw [sk_ne (by omega)]) ?_
    refine k_iconst C (1) dX6_put_22 (by decide) ?_
    refine k_iadd C dX6_put_23 ?_
    refine k_puti C (j := 1) (ty := .int) tyX6 kcl_X6 tyX6_ok nmX6 fl_X6_15 ht.1 (by decide) rfl rfl (by decide +kernel) rfl rfl dX6_put_24 ?_
    exact ret _ _ _ dX6_put_27 (by exact rfl)

set_option maxHeartbeats 4000000 in
set_option maxRecDepth 100000 in
theorem m_X6_sign (l : Launch) {O : sk_O} (hO : sk_inj O) (M : sk_M) (t n a : Nat) (S : Nat → Int32) (ht : sk_isT O t) (hS : M (t + 1) = S) (hn : M t 1 = nI n) (ha : M t 2 = nI a) (hn2 : n ≤ 120) (ha2 : a ≤ 1000) : sk_Mi l yX6_sign (sk_w yX6_sign cX6_sign 1 (some .int)) ({ frames := 0, cells := 0, slots := 0, locals := 0 }) O [.ref (sk_ad O t)] M (fun r M' => r = (tx S n a) ∧ M' = M) := by
  refine sk_mi (by decide) ⟨rfl, rfl⟩ hO (Nat.le_of_ble_eq_true rfl) (fun X A Q C ret => ?_)
  show sk_W l X O A Q 1 0 0 M 0 [(0, .ref (sk_ad O t))] []
  refine k_aloadn C 0 dX6_sign_0 rfl ?_
  refine k_geti C (j := 2) kcl_X6 fl_X6_23 ht.1 (by decide) rfl dX6_sign_1 ?_
  refine k_aloadn C 0 dX6_sign_4 rfl ?_
  refine k_geti C (j := 1) kcl_X6 fl_X6_15 ht.1 (by decide) rfl dX6_sign_5 ?_
  refine k_cge C 23 dX6_sign_8 (by decide) (fun c8_1 => ?_) (fun c8_1 => ?_)
  ·
    have nc8_1 : n ≤ a := (sk_eI (a := n) (b := a) hn ha (by omega) (by omega)).mp c8_1
    refine k_iconst C (-1) dX6_sign_23 (by decide) ?_
    exact ret _ _ _ _ dX6_sign_24 rfl (by first | exact ⟨by rw [tx, if_pos (by omega), ← hS], rfl⟩ | exact ⟨by rw [tx, if_neg (by omega)], rfl⟩)
  ·
    have nc8_1 : ¬ (n ≤ a) := fun h => c8_1 ((sk_eI (a := n) (b := a) hn ha (by omega) (by omega)).mpr h)
    refine k_aloadn C 0 dX6_sign_11 rfl ?_
    refine k_getr C (j := 0) (k' := t + 1) kcl_X6 fl_X6_11 ht.1 (by decide) rfl dX6_sign_12 ?_
    refine k_aloadn C 0 dX6_sign_15 rfl ?_
    refine k_geti C (j := 2) kcl_X6 fl_X6_23 ht.1 (by decide) rfl dX6_sign_16 ?_
    refine k_ialdn C a ht.2 ha (by omega) dX6_sign_19 ?_
    refine k_goto C 24 dX6_sign_20 (by decide) ?_
    exact ret _ _ _ _ dX6_sign_24 rfl (by first | exact ⟨by rw [tx, if_pos (by omega), ← hS], rfl⟩ | exact ⟨by rw [tx, if_neg (by omega)], rfl⟩)

set_option maxHeartbeats 4000000 in
set_option maxRecDepth 100000 in
theorem m_X6_kindOf (l : Launch) {O : sk_O} (hO : sk_inj O) (M : sk_M) (c : Int32) : sk_Mi l yX6_kindOf (sk_w yX6_kindOf cX6_kindOf 1 (some .int)) ({ frames := 0, cells := 0, slots := 0, locals := 0 }) O [.int c] M (fun r M' => r = (tk c) ∧ M' = M) := by
  refine sk_mi (by decide) ⟨rfl, rfl⟩ hO (Nat.le_of_ble_eq_true rfl) (fun X A Q C ret => ?_)
  show sk_W l X O A Q 1 0 0 M 0 [(0, .int c)] []
  refine k_iloadn C 0 dX6_kindOf_0 rfl ?_
  by_cases c1_1_65 : c = (65 : Int32)
  ·
    refine k_top (65 : Int32) c1_1_65 ?_
    refine k_look C 70 (69) dX6_kindOf_1 (by decide) (by decide) (by decide) ?_
    refine k_iconst C (5) dX6_kindOf_70 (by decide) ?_
    exact ret _ _ _ _ dX6_kindOf_71 rfl (by simp [tk, *])
  by_cases c1_1_70 : c = (70 : Int32)
  ·
    refine k_top (70 : Int32) c1_1_70 ?_
    refine k_look C 66 (65) dX6_kindOf_1 (by decide) (by decide) (by decide) ?_
    refine k_iconst C (3) dX6_kindOf_66 (by decide) ?_
    exact ret _ _ _ _ dX6_kindOf_67 rfl (by simp [tk, *])
  by_cases c1_1_79 : c = (79 : Int32)
  ·
    refine k_top (79 : Int32) c1_1_79 ?_
    refine k_look C 64 (63) dX6_kindOf_1 (by decide) (by decide) (by decide) ?_
    refine k_iconst C (2) dX6_kindOf_64 (by decide) ?_
    exact ret _ _ _ _ dX6_kindOf_65 rfl (by simp [tk, *])
  by_cases c1_1_83 : c = (83 : Int32)
  ·
    refine k_top (83 : Int32) c1_1_83 ?_
    refine k_look C 62 (61) dX6_kindOf_1 (by decide) (by decide) (by decide) ?_
    refine k_iconst C (1) dX6_kindOf_62 (by decide) ?_
    exact ret _ _ _ _ dX6_kindOf_63 rfl (by simp [tk, *])
  by_cases c1_1_84 : c = (84 : Int32)
  ·
    refine k_top (84 : Int32) c1_1_84 ?_
    refine k_look C 60 (59) dX6_kindOf_1 (by decide) (by decide) (by decide) ?_
    refine k_iconst C (0) dX6_kindOf_60 (by decide) ?_
    exact ret _ _ _ _ dX6_kindOf_61 rfl (by simp [tk, *])
  by_cases c1_1_90 : c = (90 : Int32)
  ·
    refine k_top (90 : Int32) c1_1_90 ?_
    refine k_look C 68 (67) dX6_kindOf_1 (by decide) (by decide) (by decide) ?_
    refine k_iconst C (4) dX6_kindOf_68 (by decide) ?_
    exact ret _ _ _ _ dX6_kindOf_69 rfl (by simp [tk, *])
  have c1_1_65T : ¬ (c).toInt = 65 := fun h => c1_1_65 (sk_toI h)
  have c1_1_70T : ¬ (c).toInt = 70 := fun h => c1_1_70 (sk_toI h)
  have c1_1_79T : ¬ (c).toInt = 79 := fun h => c1_1_79 (sk_toI h)
  have c1_1_83T : ¬ (c).toInt = 83 := fun h => c1_1_83 (sk_toI h)
  have c1_1_84T : ¬ (c).toInt = 84 := fun h => c1_1_84 (sk_toI h)
  have c1_1_90T : ¬ (c).toInt = 90 := fun h => c1_1_90 (sk_toI h)
  refine k_look C 72 (71) dX6_kindOf_1 (by decide) (sk_lk _ _ _ (by simp only [List.mem_cons, List.not_mem_nil, or_false]; rintro q (rfl | rfl | rfl | rfl | rfl | rfl) <;> assumption)) (by decide) ?_
  refine k_iconst C (-1) dX6_kindOf_72 (by decide) ?_
  exact ret _ _ _ _ dX6_kindOf_73 rfl (by simp [tk, *])

set_option maxHeartbeats 4000000 in
set_option maxRecDepth 100000 in
theorem m_X6_callOf (l : Launch) {O : sk_O} (hO : sk_inj O) (M : sk_M) (c k : Int32) : sk_Mi l yX6_callOf (sk_w yX6_callOf cX6_callOf 2 (some .int)) ({ frames := 1, cells := 0, slots := 0, locals := 20 }) O [.int c, .int k] M (fun r M' => r = (tc c k) ∧ M' = M) := by
  refine sk_mi (by decide) ⟨rfl, rfl⟩ hO (Nat.le_of_ble_eq_true rfl) (fun X A Q C ret => ?_)
  show sk_W l X O A Q 2 0 0 M 0 [(0, .int c), (1, .int k)] []
  refine k_iloadn C 0 dX6_callOf_0 rfl ?_
  by_cases c1_1_33 : c = (33 : Int32)
  ·
    refine k_top (33 : Int32) c1_1_33 ?_
    refine k_look C 38 (37) dX6_callOf_1 (by decide) (by decide) (by decide) ?_
    refine k_iconst C (2) dX6_callOf_38 (by decide) ?_
    exact ret _ _ _ _ dX6_callOf_39 rfl (by simp [tc, *])
  by_cases c1_1_60 : c = (60 : Int32)
  ·
    refine k_top (60 : Int32) c1_1_60 ?_
    refine k_look C 36 (35) dX6_callOf_1 (by decide) (by decide) (by decide) ?_
    refine k_iconst C (1) dX6_callOf_36 (by decide) ?_
    exact ret _ _ _ _ dX6_callOf_37 rfl (by simp [tc, *])
  by_cases c1_1_101 : c = (101 : Int32)
  ·
    refine k_top (101 : Int32) c1_1_101 ?_
    refine k_look C 40 (39) dX6_callOf_1 (by decide) (by decide) (by decide) ?_
    refine k_iloadn C 1 dX6_callOf_40 rfl ?_
    refine k_si C (as := [.int k]) yvX2_hasEdge vsX2_hasEdge ml_X6_65 (m_X2_hasEdge l C.2.2.2.1 M (x := k)) rfl rfl (Nat.le_of_ble_eq_true rfl) (by decide) dX6_callOf_41 (fun x41_2 M41_2 h41_2 => ?_)
    rw [h41_2.1, h41_2.2]
    refine k_zeq C 51 dX6_callOf_44 (by decide) (fun c44_3 => ?_) (fun c44_3 => ?_)
    ·
      have nc44_3 : ¬ (k = 3 ∨ k = 4) := sk_b1.mp c44_3
      refine k_iconst C (0) dX6_callOf_51 (by decide) ?_
      exact ret _ _ _ _ dX6_callOf_52 rfl (by simp [tc, *])
    ·
      have nc44_3 : k = 3 ∨ k = 4 := Classical.byContradiction (fun h => c44_3 (sk_b1.mpr h))
      refine k_iconst C (3) dX6_callOf_47 (by decide) ?_
      refine k_goto C 52 dX6_callOf_48 (by decide) ?_
      exact ret _ _ _ _ dX6_callOf_52 rfl (by simp [tc, *])
  have c1_1_33T : ¬ (c).toInt = 33 := fun h => c1_1_33 (sk_toI h)
  have c1_1_60T : ¬ (c).toInt = 60 := fun h => c1_1_60 (sk_toI h)
  have c1_1_101T : ¬ (c).toInt = 101 := fun h => c1_1_101 (sk_toI h)
  refine k_look C 53 (52) dX6_callOf_1 (by decide) (sk_lk _ _ _ (by simp only [List.mem_cons, List.not_mem_nil, or_false]; rintro q (rfl | rfl | rfl) <;> assumption)) (by decide) ?_
  refine k_iconst C (0) dX6_callOf_53 (by decide) ?_
  exact ret _ _ _ _ dX6_callOf_54 rfl (by simp [tc, *])

set_option maxHeartbeats 4000000 in
set_option maxRecDepth 100000 in
theorem m_X6_readJump (l : Launch) {O : sk_O} (hO : sk_inj O) (M : sk_M) (t n a g e p : Nat) (S : Nat → Int32) (ht : sk_isT O t) (hS : M (t + 1) = S) (hn : M t 1 = nI n) (ha : M t 2 = nI a) (hn2 : n ≤ 120) (ha2 : a ≤ 900) (hg : sk_isP O g) (hN : M g 9 = nI (e + 1)) (he : e < 12) (hp : M (g + 2) e = nI p) (hp3 : p < 3) (hap : t + 1 < g ∨ g + 9 < t) : sk_Mi l yX6_readJump (sk_w yX6_readJump cX6_readJump 5 (some .boolean)) ({ frames := 2, cells := 0, slots := 0, locals := 41 }) O [.ref (sk_ad O t), .ref (sk_ad O g)] M (fun r M' => (∃ x, tj (tx S n) a = .inl x ∧ r = 0 ∧ M' = sk_ms M t 2 (nI x)) ∨ ∃ x j, tj (tx S n) a = .inr (x, j) ∧ r = 1 ∧ M' = pg_sp (sk_ms M t 2 (nI x)) g e p j.1 j.2.1 j.2.2) := by
  refine sk_mi (by decide) ⟨rfl, rfl⟩ hO (Nat.le_of_ble_eq_true rfl) (fun X A Q C ret => ?_)
  show sk_W l X O A Q 5 0 0 M 0 [(0, .ref (sk_ad O t)), (1, .ref (sk_ad O g))] []
  refine k_aloadn C 0 dX6_readJump_0 rfl ?_
  refine k_vi C (as := []) yvX6_sign viX6_sign ml_X6_35 (m_X6_sign l C.2.2.2.1 M (t := t) (n := n) (a := a) (S := S) (ht := ht) (hS := hS) (hn := hn) (ha := ha) (hn2 := hn2) (ha2 := (by omega))) ht.1 rfl rfl rfl (Nat.le_of_ble_eq_true rfl) (by decide) dX6_readJump_1 (fun x1_1 M1_1 h1_1 => ?_)
  rw [h1_1.1, h1_1.2]
  refine k_bipush C (48) dX6_readJump_4 (by decide) ?_
  refine k_isub C dX6_readJump_6 ?_
  refine k_istoren C [1, 2, 0] [(0, .ref (sk_ad O t)), (1, .ref (sk_ad O g)), (2, .int ((tx S n a) - (48)))] dX6_readJump_7 (by decide) rfl ?_
  refine k_iloadn C 2 dX6_readJump_8 rfl ?_
  refine k_iconst C (1) dX6_readJump_9 (by decide) ?_
  refine k_clt C 18 dX6_readJump_10 (by decide) (fun c10_2 => ?_) (fun c10_2 => ?_)
  ·
    refine k_iconst C (0) dX6_readJump_18 (by decide) ?_
    exact ret _ _ _ _ dX6_readJump_19 rfl (by exact Or.inl ⟨a, by rw [tj, if_pos (Or.inl c10_2)], rfl, (sk_id ha).symm⟩)
  ·
    refine k_iloadn C 2 dX6_readJump_13 rfl ?_
    refine k_iconst C (4) dX6_readJump_14 (by decide) ?_
    refine k_cle C 20 dX6_readJump_15 (by decide) (fun c15_3 => ?_) (fun c15_3 => ?_)
    ·
      refine k_aloadn C 0 dX6_readJump_20 rfl ?_
      refine k_dup C dX6_readJump_21 rfl ?_
      refine k_geti C (j := 2) kcl_X6 fl_X6_23 ht.1 (by decide) rfl dX6_readJump_22 ?_
      refine k_iconst C (1) dX6_readJump_25 (by decide) ?_
      refine k_iadd C dX6_readJump_26 ?_
      refine k_puti C (j := 2) (ty := .int) tyX6 kcl_X6 tyX6_ok nmX6 fl_X6_23 ht.1 (by decide) rfl rfl (by decide +kernel) rfl rfl dX6_readJump_27 ?_
      refine k_aloadn C 0 dX6_readJump_30 rfl ?_
      refine k_vi C (as := []) yvX6_sign viX6_sign ml_X6_35 (m_X6_sign l C.2.2.2.1 (sk_ms M t 2 ((M t 2) + (1))) (t := t) (n := n) (a := a + 1) (S := S) (ht := ht) (hS := (by rw [sk_nf (by omega)]; exact hS)) (hn := (by rw [sk_ne (by omega)]; exact hn)) (ha := (by rw [sk_sm]; exact (sk_nadd ha (rfl : ((1) : Int32) = nI 1)))) (hn2 := hn2) (ha2 := (by omega))) ht.1 rfl rfl rfl (Nat.le_of_ble_eq_true rfl) (by decide) dX6_readJump_31 (fun x31_4 M31_4 h31_4 => ?_)
      rw [h31_4.1, h31_4.2]
      refine k_si C (as := [.int (tx S n (a + 1))]) yvX6_kindOf vsX6_kindOf ml_X6_57 (m_X6_kindOf l C.2.2.2.1 (sk_ms M t 2 ((M t 2) + (1))) (c := tx S n (a + 1))) rfl rfl (Nat.le_of_ble_eq_true rfl) (by decide) dX6_readJump_34 (fun x34_5 M34_5 h34_5 => ?_)
      rw [h34_5.1, h34_5.2]
      refine k_istoren C [1, 2, 3, 0] [(0, .ref (sk_ad O t)), (1, .ref (sk_ad O g)), (2, .int ((tx S n a) - (48))), (3, .int (tk (tx S n (a + 1))))] dX6_readJump_37 (by decide) rfl ?_
      refine k_iloadn C 3 dX6_readJump_38 rfl ?_
      refine k_iconst C (-1) dX6_readJump_39 (by decide) ?_
      refine k_cne C 45 dX6_readJump_40 (by decide) (fun c40_6 => ?_) (fun c40_6 => ?_)
      ·
        refine k_aloadn C 0 dX6_readJump_45 rfl ?_
        refine k_dup C dX6_readJump_46 rfl ?_
        refine k_geti C (j := 2) kcl_X6 fl_X6_23 ht.1 (by decide) rfl dX6_readJump_47 ?_
        refine k_top ((M t 2) + (1)) (by rw [sk_sm]) ?_
        refine k_iconst C (1) dX6_readJump_50 (by decide) ?_
        refine k_iadd C dX6_readJump_51 ?_
        refine k_puti C (j := 2) (ty := .int) tyX6 kcl_X6 tyX6_ok nmX6 fl_X6_23 ht.1 (by decide) rfl rfl (by decide +kernel) rfl rfl dX6_readJump_52 ?_
        refine k_aloadn C 0 dX6_readJump_55 rfl ?_
        refine k_vi C (as := []) yvX6_sign viX6_sign ml_X6_35 (m_X6_sign l C.2.2.2.1 (sk_ms (sk_ms M t 2 ((M t 2) + (1))) t 2 (((M t 2) + (1)) + (1))) (t := t) (n := n) (a := a + 1 + 1) (S := S) (ht := ht) (hS := (by rw [sk_nf (by omega), sk_nf (by omega)]; exact hS)) (hn := (by rw [sk_ne (by omega), sk_ne (by omega)]; exact hn)) (ha := (by rw [sk_sm]; exact (sk_nadd (sk_nadd ha (rfl : ((1) : Int32) = nI 1)) (rfl : ((1) : Int32) = nI 1)))) (hn2 := hn2) (ha2 := (by omega))) ht.1 rfl rfl rfl (Nat.le_of_ble_eq_true rfl) (by decide) dX6_readJump_56 (fun x56_7 M56_7 h56_7 => ?_)
        rw [h56_7.1, h56_7.2]
        refine k_iloadn C 3 dX6_readJump_59 rfl ?_
        refine k_si C (as := [.int (tx S n (a + 1 + 1)), .int (tk (tx S n (a + 1)))]) yvX6_callOf vsX6_callOf ml_X6_61 (m_X6_callOf l C.2.2.2.1 (sk_ms (sk_ms M t 2 ((M t 2) + (1))) t 2 (((M t 2) + (1)) + (1))) (c := tx S n (a + 1 + 1)) (k := tk (tx S n (a + 1)))) rfl rfl (Nat.le_of_ble_eq_true rfl) (by decide) dX6_readJump_60 (fun x60_8 M60_8 h60_8 => ?_)
        rw [h60_8.1, h60_8.2]
        refine k_istore C [1, 2, 3, 4, 0] [(0, .ref (sk_ad O t)), (1, .ref (sk_ad O g)), (2, .int ((tx S n a) - (48))), (3, .int (tk (tx S n (a + 1)))), (4, .int (tc (tx S n (a + 1 + 1)) (tk (tx S n (a + 1)))))] dX6_readJump_63 (by decide) rfl ?_
        refine k_aloadn C 0 dX6_readJump_65 rfl ?_
        refine k_dup C dX6_readJump_66 rfl ?_
        refine k_geti C (j := 2) kcl_X6 fl_X6_23 ht.1 (by decide) rfl dX6_readJump_67 ?_
        refine k_top (((M t 2) + (1)) + (1)) (by rw [sk_sm]) ?_
        refine k_iload C 4 dX6_readJump_70 rfl ?_
        refine k_zeq C 79 dX6_readJump_72 (by decide) (fun c72_9 => ?_) (fun c72_9 => ?_)
        ·
          refine k_iconst C (0) dX6_readJump_79 (by decide) ?_
          refine k_iadd C dX6_readJump_80 ?_
          refine k_puti C (j := 2) (ty := .int) tyX6 kcl_X6 tyX6_ok nmX6 fl_X6_23 ht.1 (by decide) rfl rfl (by decide +kernel) rfl rfl dX6_readJump_81 ?_
          refine k_aloadn C 1 dX6_readJump_84 rfl ?_
          refine k_iloadn C 3 dX6_readJump_85 rfl ?_
          refine k_iloadn C 2 dX6_readJump_86 rfl ?_
          refine k_iload C 4 dX6_readJump_87 rfl ?_
          refine k_vv C (as := [.int (tk (tx S n (a + 1))), .int ((tx S n a) - (48)), .int (tc (tx S n (a + 1 + 1)) (tk (tx S n (a + 1))))]) yvX2_startPart viX2_startPart ml_X6_50 (m_X2_startPart l C.2.2.2.1 (sk_ms (sk_ms (sk_ms M t 2 ((M t 2) + (1))) t 2 (((M t 2) + (1)) + (1))) t 2 ((((M t 2) + (1)) + (1)) + (0))) (k := g) (e := e) (p := p) (a := tk (tx S n (a + 1))) (b := (tx S n a) - (48)) (c := tc (tx S n (a + 1 + 1)) (tk (tx S n (a + 1)))) (hk := hg) (hN := (by rw [sk_ne (by omega), sk_ne (by omega), sk_ne (by omega)]; exact hN)) (hN2 := he) (hp := (by rw [sk_ne (by omega), sk_ne (by omega), sk_ne (by omega)]; exact hp)) (hp3 := hp3)) hg.1 rfl rfl rfl (Nat.le_of_ble_eq_true rfl) (by decide) dX6_readJump_89 (fun M89_10 h89_10 => ?_)
          rw [h89_10]
          refine k_iconst C (1) dX6_readJump_92 (by decide) ?_
          exact ret _ _ _ _ dX6_readJump_93 rfl (by exact Or.inr ⟨_, _, (by rw [tj, if_neg (sk_n2 c10_2 c15_3), if_neg c40_6, if_pos c72_9]), rfl, (by simp only [sk_mm, sk_sm]; exact congrArg (fun z => pg_sp (sk_ms M t 2 z) g e p _ _ _) (sk_nadd (b := 0) (sk_nadd (b := 1) (sk_nadd (b := 1) ha rfl) rfl) rfl))⟩)
        ·
          refine k_iconst C (1) dX6_readJump_75 (by decide) ?_
          refine k_goto C 80 dX6_readJump_76 (by decide) ?_
          refine k_iadd C dX6_readJump_80 ?_
          refine k_puti C (j := 2) (ty := .int) tyX6 kcl_X6 tyX6_ok nmX6 fl_X6_23 ht.1 (by decide) rfl rfl (by decide +kernel) rfl rfl dX6_readJump_81 ?_
          refine k_aloadn C 1 dX6_readJump_84 rfl ?_
          refine k_iloadn C 3 dX6_readJump_85 rfl ?_
          refine k_iloadn C 2 dX6_readJump_86 rfl ?_
          refine k_iload C 4 dX6_readJump_87 rfl ?_
          refine k_vv C (as := [.int (tk (tx S n (a + 1))), .int ((tx S n a) - (48)), .int (tc (tx S n (a + 1 + 1)) (tk (tx S n (a + 1))))]) yvX2_startPart viX2_startPart ml_X6_50 (m_X2_startPart l C.2.2.2.1 (sk_ms (sk_ms (sk_ms M t 2 ((M t 2) + (1))) t 2 (((M t 2) + (1)) + (1))) t 2 ((((M t 2) + (1)) + (1)) + (1))) (k := g) (e := e) (p := p) (a := tk (tx S n (a + 1))) (b := (tx S n a) - (48)) (c := tc (tx S n (a + 1 + 1)) (tk (tx S n (a + 1)))) (hk := hg) (hN := (by rw [sk_ne (by omega), sk_ne (by omega), sk_ne (by omega)]; exact hN)) (hN2 := he) (hp := (by rw [sk_ne (by omega), sk_ne (by omega), sk_ne (by omega)]; exact hp)) (hp3 := hp3)) hg.1 rfl rfl rfl (Nat.le_of_ble_eq_true rfl) (by decide) dX6_readJump_89 (fun M89_11 h89_11 => ?_)
          rw [h89_11]
          refine k_iconst C (1) dX6_readJump_92 (by decide) ?_
          exact ret _ _ _ _ dX6_readJump_93 rfl (by exact Or.inr ⟨_, _, (by rw [tj, if_neg (sk_n2 c10_2 c15_3), if_neg c40_6, if_neg c72_9]), rfl, (by simp only [sk_mm, sk_sm]; exact congrArg (fun z => pg_sp (sk_ms M t 2 z) g e p _ _ _) (sk_nadd (b := 1) (sk_nadd (b := 1) (sk_nadd (b := 1) ha rfl) rfl) rfl))⟩)
      ·
        refine k_iconst C (0) dX6_readJump_43 (by decide) ?_
        exact ret _ _ _ _ dX6_readJump_44 rfl (by exact Or.inl ⟨a + 1, by rw [tj, if_neg (sk_n2 c10_2 c15_3), if_pos c40_6], rfl, by rw [show M t 2 + 1 = nI (a + 1) from sk_nadd ha rfl]⟩)
    ·
      refine k_iconst C (0) dX6_readJump_18 (by decide) ?_
      exact ret _ _ _ _ dX6_readJump_19 rfl (by exact Or.inl ⟨a, by rw [tj, if_pos (Or.inr (Int32.not_le.mp c15_3))], rfl, (sk_id ha).symm⟩)
