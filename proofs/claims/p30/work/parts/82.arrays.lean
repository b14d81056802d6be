/-! Constructors that make arrays alone (printed by l6.py) -/
theorem oi_i : Cond.instanceMethod objectInit ∈ sk_tb := sk_wd 42 (by decide +kernel) (by decide +kernel)
theorem oi_c : Cond.code objectInit ⟨#[0xb1]⟩ 1 none ∈ sk_tb := sk_wd 43 (by decide +kernel) (by decide +kernel)
theorem arc_int : Cond.arrayClass .int ∈ sk_tb := sk_wd 120 (by decide +kernel) (by decide +kernel)
theorem arc_boolean : Cond.arrayClass .boolean ∈ sk_tb := sk_wd 174 (by decide +kernel) (by decide +kernel)
theorem ml_X7_1_o : Cond.methodLink RX7 1 objectInit ∈ sk_tb := sk_wd 41 (by decide +kernel) (by decide +kernel)
theorem ml_X5_3_o : Cond.methodLink RX5 3 objectInit ∈ sk_tb := sk_wd 49 (by decide +kernel) (by decide +kernel)
theorem ml_X2_3_o : Cond.methodLink RX2 3 objectInit ∈ sk_tb := sk_wd 56 (by decide +kernel) (by decide +kernel)
theorem ml_X1_1_o : Cond.methodLink RX1 1 objectInit ∈ sk_tb := sk_wd 142 (by decide +kernel) (by decide +kernel)
theorem ml_X6_3_o : Cond.methodLink RX6 3 objectInit ∈ sk_tb := sk_wd 162 (by decide +kernel) (by decide +kernel)
theorem ml_X3_3_o : Cond.methodLink RX3 3 objectInit ∈ sk_tb := sk_wd 180 (by decide +kernel) (by decide +kernel)
theorem ml_X4_3_o : Cond.methodLink RX4 3 objectInit ∈ sk_tb := sk_wd 249 (by decide +kernel) (by decide +kernel)
theorem ml_X0_1_o : Cond.methodLink RX0 1 objectInit ∈ sk_tb := sk_wd 267 (by decide +kernel) (by decide +kernel)
section
variable {X : sk_X} {cc : ByteArray} {nL : Nat} {own : String} {rm : Room} {O : sk_O} {A : Nat → Prop} {b : Nat}
theorem yc_0 (C : sk_YC X cc nL own rm O A b) (cA : ClassId) (h : (sk_s X).vm.findClass ("[" ++ FieldType.int.toString) = some cA) : cA = sk_cy O 0 := Option.some.inj (h.symm.trans (C.2.2.1.2 0 _ rfl).2)
theorem yc_1 (C : sk_YC X cc nL own rm O A b) (cA : ClassId) (h : (sk_s X).vm.findClass ("[" ++ FieldType.boolean.toString) = some cA) : cA = sk_cy O 1 := Option.some.inj (h.symm.trans (C.2.2.1.2 1 _ rfl).2)
theorem yc_2 (C : sk_YC X cc nL own rm O A b) (cA : ClassId) (h : (sk_s X).vm.findClass ("[" ++ (FieldType.object "SkateSheet$Program").toString) = some cA) : cA = sk_cy O 2 := by
  obtain ⟨_, _, _, _, _, h4⟩ := (C.2.2.1.2 2 _ rfl).2
  exact Option.some.inj (h.symm.trans h4)
theorem yc_3 (C : sk_YC X cc nL own rm O A b) (cA : ClassId) (h : (sk_s X).vm.findClass ("[" ++ (FieldType.object "SkateSheet$State").toString) = some cA) : cA = sk_cy O 3 := by
  obtain ⟨_, _, _, _, _, h4⟩ := (C.2.2.1.2 3 _ rfl).2
  exact Option.some.inj (h.symm.trans h4)
end
/-- the objects k .. k+N-1 stand as the layout has them, with the memory M -/
def sk_ef (O : sk_O) (M : sk_M) (k N : Nat) (E : Nat → va_E) : Nat → va_E := fun i => if k ≤ i ∧ i < k + N then sk_el (sk_ad O) (sk_cy O) (sk_sh O i) (M i) else E i
theorem ef_lt {O : sk_O} {M : sk_M} {k N i : Nat} {E : Nat → va_E} (h : i < k ∨ k + N ≤ i) : sk_ef O M k N E i = E i := if_neg (by omega)
theorem ef_in {O : sk_O} {M : sk_M} {k N i : Nat} {E : Nat → va_E} (h : k ≤ i ∧ i < k + N) : sk_ef O M k N E i = sk_el (sk_ad O) (sk_cy O) (sk_sh O i) (M i) := if_pos h
def fsX0 : List Value := [.int 0, .int 0, .int 0, .int 0, .int 0]
set_option maxHeartbeats 4000000 in
set_option maxRecDepth 100000 in
theorem j_X0 (l : Launch) {O : sk_O} {b : Nat} (had : ∀ i, sk_ad O i = b + i) (M : sk_M) (k : Nat) (E : Nat → va_E) (hk : sk_isC O k) (hM : ∀ i, k ≤ i → i < k + 1 → M i = fun _ => 0) (hE : E k = .inr (0, fsX0)) : sk_mk l yX0_init (sk_w yX0_init cX0_init 1 none) ({ frames := 1, cells := 0, slots := 0, locals := 12 }) O b k E (k + 1) (sk_ef O M k 1 E) (k + 1) := by
  refine sk_ji (by decide) rfl (Nat.le_refl _) (fun X A Q C hnm ret => ?_)
  refine y_aloadn C 0 dX0_init_0 rfl ?_
  refine y_obj C ml_X0_1_o oi_i oi_c ⟨Nat.le_refl _, Nat.le_refl _⟩ dX0_init_1 ?_
  refine ret _ _ _ _ _ (Nat.le_of_ble_eq_true rfl) (Nat.le_of_ble_eq_true rfl) (fun i hi => ?_) dX0_init_4
  by_cases q : i < k
  · rw [ef_lt (Or.inl q)]
    repeat rw [eu_n (by omega)]
  · obtain ⟨j, rfl⟩ : ∃ j, i = k + j := ⟨i - k, by omega⟩
    rw [ef_in (by omega)]
    obtain rfl : j = 0 := by omega
    have hs : sk_sh O (k + 0) = _ := hk.2
    rw [hs]
    show _ = (Sum.inr (0, [.int (M k 0), .int (M k 1), .int (M k 2), .int (M k 3), .int (M k 4)]) : va_E)
    rw [hM k (by omega) (by omega)]
    exact hE.trans rfl
def fsX2 : List Value := [.null, .null, .null, .null, .null, .null, .null, .null, .null, .int 0, .int 0]
set_option maxHeartbeats 4000000 in
set_option maxRecDepth 100000 in
theorem j_X2 (l : Launch) {O : sk_O} {b : Nat} (had : ∀ i, sk_ad O i = b + i) (M : sk_M) (k : Nat) (E : Nat → va_E) (hk : sk_isP O k) (hM : ∀ i, k ≤ i → i < k + 10 → M i = fun _ => 0) (hE : E k = .inr (2, fsX2)) : sk_mk l yX2_init (sk_w yX2_init cX2_init 1 none) ({ frames := 1, cells := 9, slots := 171, locals := 12 }) O b k E (k + 1) (sk_ef O M k 10 E) (k + 10) := by
  refine sk_ji (by decide) rfl (Nat.le_refl _) (fun X A Q C hnm ret => ?_)
  refine y_aloadn C 0 dX2_init_0 rfl ?_
  refine y_obj C ml_X2_3_o oi_i oi_c ⟨Nat.le_refl _, Nat.le_refl _⟩ dX2_init_1 ?_
  refine y_aloadn C 0 dX2_init_4 rfl ?_
  refine y_bipush C 12 dX2_init_5 (by decide) ?_
  refine y_newa C (atype := .int) (ty := .int) rfl arc_int 0 (yc_0 C) (N := 12) rfl (by decide) (by decide) (Nat.le_of_ble_eq_true rfl) ⟨Nat.le_of_ble_eq_true rfl, Nat.le_of_ble_eq_true rfl⟩ dX2_init_7 ?_
  refine y_put C (k := k) (j := 0) kcl_X2 tyX2 tyX2_ok nmX2 (by omega) ((eu_n (by omega)).trans (hE)) (by decide) fl_X2_9 rfl hnm rfl (tyX2_ok 0 (by decide)) rfl rfl (by simp [fsX2]) dX2_init_9 ?_
  refine y_aloadn C 0 dX2_init_12 rfl ?_
  refine y_bipush C 12 dX2_init_13 (by decide) ?_
  refine y_newa C (atype := .int) (ty := .int) rfl arc_int 0 (yc_0 C) (N := 12) rfl (by decide) (by decide) (Nat.le_of_ble_eq_true rfl) ⟨Nat.le_of_ble_eq_true rfl, Nat.le_of_ble_eq_true rfl⟩ dX2_init_15 ?_
  refine y_put C (k := k) (j := 1) kcl_X2 tyX2 tyX2_ok nmX2 (by omega) ((eu_n (by omega)).trans (eu_y)) (by decide) fl_X2_15 rfl hnm rfl (tyX2_ok 1 (by decide)) rfl rfl (by simp [fsX2]) dX2_init_17 ?_
  refine y_aloadn C 0 dX2_init_20 rfl ?_
  refine y_bipush C 12 dX2_init_21 (by decide) ?_
  refine y_newa C (atype := .int) (ty := .int) rfl arc_int 0 (yc_0 C) (N := 12) rfl (by decide) (by decide) (Nat.le_of_ble_eq_true rfl) ⟨Nat.le_of_ble_eq_true rfl, Nat.le_of_ble_eq_true rfl⟩ dX2_init_23 ?_
  refine y_put C (k := k) (j := 2) kcl_X2 tyX2 tyX2_ok nmX2 (by omega) ((eu_n (by omega)).trans (eu_y)) (by decide) fl_X2_18 rfl hnm rfl (tyX2_ok 2 (by decide)) rfl rfl (by simp [fsX2]) dX2_init_25 ?_
  refine y_aloadn C 0 dX2_init_28 rfl ?_
  refine y_bipush C 12 dX2_init_29 (by decide) ?_
  refine y_newa C (atype := .int) (ty := .int) rfl arc_int 0 (yc_0 C) (N := 12) rfl (by decide) (by decide) (Nat.le_of_ble_eq_true rfl) ⟨Nat.le_of_ble_eq_true rfl, Nat.le_of_ble_eq_true rfl⟩ dX2_init_31 ?_
  refine y_put C (k := k) (j := 3) kcl_X2 tyX2 tyX2_ok nmX2 (by omega) ((eu_n (by omega)).trans (eu_y)) (by decide) fl_X2_21 rfl hnm rfl (tyX2_ok 3 (by decide)) rfl rfl (by simp [fsX2]) dX2_init_33 ?_
  refine y_aloadn C 0 dX2_init_36 rfl ?_
  refine y_bipush C 12 dX2_init_37 (by decide) ?_
  refine y_newa C (atype := .int) (ty := .int) rfl arc_int 0 (yc_0 C) (N := 12) rfl (by decide) (by decide) (Nat.le_of_ble_eq_true rfl) ⟨Nat.le_of_ble_eq_true rfl, Nat.le_of_ble_eq_true rfl⟩ dX2_init_39 ?_
  refine y_put C (k := k) (j := 4) kcl_X2 tyX2 tyX2_ok nmX2 (by omega) ((eu_n (by omega)).trans (eu_y)) (by decide) fl_X2_24 rfl hnm rfl (tyX2_ok 4 (by decide)) rfl rfl (by simp [fsX2]) dX2_init_41 ?_
  refine y_aloadn C 0 dX2_init_44 rfl ?_
  refine y_bipush C 36 dX2_init_45 (by decide) ?_
  refine y_newa C (atype := .int) (ty := .int) rfl arc_int 0 (yc_0 C) (N := 36) rfl (by decide) (by decide) (Nat.le_of_ble_eq_true rfl) ⟨Nat.le_of_ble_eq_true rfl, Nat.le_of_ble_eq_true rfl⟩ dX2_init_47 ?_
  refine y_put C (k := k) (j := 5) kcl_X2 tyX2 tyX2_ok nmX2 (by omega) ((eu_n (by omega)).trans (eu_y)) (by decide) fl_X2_27 rfl hnm rfl (tyX2_ok 5 (by decide)) rfl rfl (by simp [fsX2]) dX2_init_49 ?_
  refine y_aloadn C 0 dX2_init_52 rfl ?_
  refine y_bipush C 36 dX2_init_53 (by decide) ?_
  refine y_newa C (atype := .int) (ty := .int) rfl arc_int 0 (yc_0 C) (N := 36) rfl (by decide) (by decide) (Nat.le_of_ble_eq_true rfl) ⟨Nat.le_of_ble_eq_true rfl, Nat.le_of_ble_eq_true rfl⟩ dX2_init_55 ?_
  refine y_put C (k := k) (j := 6) kcl_X2 tyX2 tyX2_ok nmX2 (by omega) ((eu_n (by omega)).trans (eu_y)) (by decide) fl_X2_30 rfl hnm rfl (tyX2_ok 6 (by decide)) rfl rfl (by simp [fsX2]) dX2_init_57 ?_
  refine y_aloadn C 0 dX2_init_60 rfl ?_
  refine y_bipush C 36 dX2_init_61 (by decide) ?_
  refine y_newa C (atype := .int) (ty := .int) rfl arc_int 0 (yc_0 C) (N := 36) rfl (by decide) (by decide) (Nat.le_of_ble_eq_true rfl) ⟨Nat.le_of_ble_eq_true rfl, Nat.le_of_ble_eq_true rfl⟩ dX2_init_63 ?_
  refine y_put C (k := k) (j := 7) kcl_X2 tyX2 tyX2_ok nmX2 (by omega) ((eu_n (by omega)).trans (eu_y)) (by decide) fl_X2_33 rfl hnm rfl (tyX2_ok 7 (by decide)) rfl rfl (by simp [fsX2]) dX2_init_65 ?_
  refine y_aloadn C 0 dX2_init_68 rfl ?_
  refine y_iconst C 3 dX2_init_69 (by decide) ?_
  refine y_newa C (atype := .int) (ty := .int) rfl arc_int 0 (yc_0 C) (N := 3) rfl (by decide) (by decide) (Nat.le_of_ble_eq_true rfl) ⟨Nat.le_of_ble_eq_true rfl, Nat.le_of_ble_eq_true rfl⟩ dX2_init_70 ?_
  refine y_put C (k := k) (j := 8) kcl_X2 tyX2 tyX2_ok nmX2 (by omega) ((eu_n (by omega)).trans (eu_y)) (by decide) fl_X2_36 rfl hnm rfl (tyX2_ok 8 (by decide)) rfl rfl (by simp [fsX2]) dX2_init_72 ?_
  refine ret _ _ _ _ _ (Nat.le_of_ble_eq_true rfl) (Nat.le_of_ble_eq_true rfl) (fun i hi => ?_) dX2_init_75
  by_cases q : i < k
  · rw [ef_lt (Or.inl q)]
    repeat rw [eu_n (by omega)]
  · obtain ⟨j, rfl⟩ : ∃ j, i = k + j := ⟨i - k, by omega⟩
    rw [ef_in (by omega)]
    rcases (show j = 0 ∨ j = 1 ∨ j = 2 ∨ j = 3 ∨ j = 4 ∨ j = 5 ∨ j = 6 ∨ j = 7 ∨ j = 8 ∨ j = 9 by omega) with rfl | rfl | rfl | rfl | rfl | rfl | rfl | rfl | rfl | rfl
    · have hs : sk_sh O (k + 0) = _ := hk.1.2
      rw [hs]
      show _ = (Sum.inr (2, [.ref (sk_ad O (k + 1)), .ref (sk_ad O (k + 2)), .ref (sk_ad O (k + 3)), .ref (sk_ad O (k + 4)), .ref (sk_ad O (k + 5)), .ref (sk_ad O (k + 6)), .ref (sk_ad O (k + 7)), .ref (sk_ad O (k + 8)), .ref (sk_ad O (k + 9)), .int (M k 9), .int (M k 10)]) : va_E)
      rw [hM k (by omega) (by omega)]
      simp only [had]
      exact eu_y.trans rfl
    · have hs : sk_sh O (k + 1) = _ := hk.2.1.2
      rw [hs, hM (k + 1) (by omega) (by omega)]
      repeat rw [eu_n (by omega)]
      exact eu_y.trans rfl
    · have hs : sk_sh O (k + 2) = _ := hk.2.2.1.2
      rw [hs, hM (k + 2) (by omega) (by omega)]
      repeat rw [eu_n (by omega)]
      exact eu_y.trans rfl
    · have hs : sk_sh O (k + 3) = _ := hk.2.2.2.1.2
      rw [hs, hM (k + 3) (by omega) (by omega)]
      repeat rw [eu_n (by omega)]
      exact eu_y.trans rfl
    · have hs : sk_sh O (k + 4) = _ := hk.2.2.2.2.1.2
      rw [hs, hM (k + 4) (by omega) (by omega)]
      repeat rw [eu_n (by omega)]
      exact eu_y.trans rfl
    · have hs : sk_sh O (k + 5) = _ := hk.2.2.2.2.2.1.2
      rw [hs, hM (k + 5) (by omega) (by omega)]
      repeat rw [eu_n (by omega)]
      exact eu_y.trans rfl
    · have hs : sk_sh O (k + 6) = _ := hk.2.2.2.2.2.2.1.2
      rw [hs, hM (k + 6) (by omega) (by omega)]
      repeat rw [eu_n (by omega)]
      exact eu_y.trans rfl
    · have hs : sk_sh O (k + 7) = _ := hk.2.2.2.2.2.2.2.1.2
      rw [hs, hM (k + 7) (by omega) (by omega)]
      repeat rw [eu_n (by omega)]
      exact eu_y.trans rfl
    · have hs : sk_sh O (k + 8) = _ := hk.2.2.2.2.2.2.2.2.1.2
      rw [hs, hM (k + 8) (by omega) (by omega)]
      repeat rw [eu_n (by omega)]
      exact eu_y.trans rfl
    · have hs : sk_sh O (k + 9) = _ := hk.2.2.2.2.2.2.2.2.2.2
      rw [hs, hM (k + 9) (by omega) (by omega)]
      repeat rw [eu_n (by omega)]
      exact eu_y.trans rfl
def fsX3 : List Value := [.null, .null, .null, .null, .null, .null, .null, .null, .int 0, .int 0, .int 0, .int 0, .int 0, .int 0, .int 0, .int 0, .int 0]
set_option maxHeartbeats 4000000 in
set_option maxRecDepth 100000 in
theorem j_X3 (l : Launch) {O : sk_O} {b : Nat} (had : ∀ i, sk_ad O i = b + i) (M : sk_M) (k : Nat) (E : Nat → va_E) (hk : sk_isK O k) (hM : ∀ i, k ≤ i → i < k + 9 → M i = fun _ => 0) (hE : E k = .inr (3, fsX3)) : sk_mk l yX3_init (sk_w yX3_init cX3_init 1 none) ({ frames := 1, cells := 8, slots := 144, locals := 12 }) O b k E (k + 1) (sk_ef O M k 9 E) (k + 9) := by
  refine sk_ji (by decide) rfl (Nat.le_refl _) (fun X A Q C hnm ret => ?_)
  refine y_aloadn C 0 dX3_init_0 rfl ?_
  refine y_obj C ml_X3_3_o oi_i oi_c ⟨Nat.le_refl _, Nat.le_refl _⟩ dX3_init_1 ?_
  refine y_aloadn C 0 dX3_init_4 rfl ?_
  refine y_bipush C 36 dX3_init_5 (by decide) ?_
  refine y_newa C (atype := .int) (ty := .int) rfl arc_int 0 (yc_0 C) (N := 36) rfl (by decide) (by decide) (Nat.le_of_ble_eq_true rfl) ⟨Nat.le_of_ble_eq_true rfl, Nat.le_of_ble_eq_true rfl⟩ dX3_init_7 ?_
  refine y_put C (k := k) (j := 0) kcl_X3 tyX3 tyX3_ok nmX3 (by omega) ((eu_n (by omega)).trans (hE)) (by decide) fl_X3_9 rfl hnm rfl (tyX3_ok 0 (by decide)) rfl rfl (by simp [fsX3]) dX3_init_9 ?_
  refine y_aloadn C 0 dX3_init_12 rfl ?_
  refine y_bipush C 36 dX3_init_13 (by decide) ?_
  refine y_newa C (atype := .int) (ty := .int) rfl arc_int 0 (yc_0 C) (N := 36) rfl (by decide) (by decide) (Nat.le_of_ble_eq_true rfl) ⟨Nat.le_of_ble_eq_true rfl, Nat.le_of_ble_eq_true rfl⟩ dX3_init_15 ?_
  refine y_put C (k := k) (j := 1) kcl_X3 tyX3 tyX3_ok nmX3 (by omega) ((eu_n (by omega)).trans (eu_y)) (by decide) fl_X3_15 rfl hnm rfl (tyX3_ok 1 (by decide)) rfl rfl (by simp [fsX3]) dX3_init_17 ?_
  refine y_aloadn C 0 dX3_init_20 rfl ?_
  refine y_bipush C 12 dX3_init_21 (by decide) ?_
  refine y_newa C (atype := .int) (ty := .int) rfl arc_int 0 (yc_0 C) (N := 12) rfl (by decide) (by decide) (Nat.le_of_ble_eq_true rfl) ⟨Nat.le_of_ble_eq_true rfl, Nat.le_of_ble_eq_true rfl⟩ dX3_init_23 ?_
  refine y_put C (k := k) (j := 2) kcl_X3 tyX3 tyX3_ok nmX3 (by omega) ((eu_n (by omega)).trans (eu_y)) (by decide) fl_X3_18 rfl hnm rfl (tyX3_ok 2 (by decide)) rfl rfl (by simp [fsX3]) dX3_init_25 ?_
  refine y_aloadn C 0 dX3_init_28 rfl ?_
  refine y_bipush C 12 dX3_init_29 (by decide) ?_
  refine y_newa C (atype := .int) (ty := .int) rfl arc_int 0 (yc_0 C) (N := 12) rfl (by decide) (by decide) (Nat.le_of_ble_eq_true rfl) ⟨Nat.le_of_ble_eq_true rfl, Nat.le_of_ble_eq_true rfl⟩ dX3_init_31 ?_
  refine y_put C (k := k) (j := 3) kcl_X3 tyX3 tyX3_ok nmX3 (by omega) ((eu_n (by omega)).trans (eu_y)) (by decide) fl_X3_21 rfl hnm rfl (tyX3_ok 3 (by decide)) rfl rfl (by simp [fsX3]) dX3_init_33 ?_
  refine y_aloadn C 0 dX3_init_36 rfl ?_
  refine y_bipush C 12 dX3_init_37 (by decide) ?_
  refine y_newa C (atype := .int) (ty := .int) rfl arc_int 0 (yc_0 C) (N := 12) rfl (by decide) (by decide) (Nat.le_of_ble_eq_true rfl) ⟨Nat.le_of_ble_eq_true rfl, Nat.le_of_ble_eq_true rfl⟩ dX3_init_39 ?_
  refine y_put C (k := k) (j := 4) kcl_X3 tyX3 tyX3_ok nmX3 (by omega) ((eu_n (by omega)).trans (eu_y)) (by decide) fl_X3_24 rfl hnm rfl (tyX3_ok 4 (by decide)) rfl rfl (by simp [fsX3]) dX3_init_41 ?_
  refine y_aloadn C 0 dX3_init_44 rfl ?_
  refine y_bipush C 12 dX3_init_45 (by decide) ?_
  refine y_newa C (atype := .int) (ty := .int) rfl arc_int 0 (yc_0 C) (N := 12) rfl (by decide) (by decide) (Nat.le_of_ble_eq_true rfl) ⟨Nat.le_of_ble_eq_true rfl, Nat.le_of_ble_eq_true rfl⟩ dX3_init_47 ?_
  refine y_put C (k := k) (j := 5) kcl_X3 tyX3 tyX3_ok nmX3 (by omega) ((eu_n (by omega)).trans (eu_y)) (by decide) fl_X3_27 rfl hnm rfl (tyX3_ok 5 (by decide)) rfl rfl (by simp [fsX3]) dX3_init_49 ?_
  refine y_aloadn C 0 dX3_init_52 rfl ?_
  refine y_bipush C 12 dX3_init_53 (by decide) ?_
  refine y_newa C (atype := .int) (ty := .int) rfl arc_int 0 (yc_0 C) (N := 12) rfl (by decide) (by decide) (Nat.le_of_ble_eq_true rfl) ⟨Nat.le_of_ble_eq_true rfl, Nat.le_of_ble_eq_true rfl⟩ dX3_init_55 ?_
  refine y_put C (k := k) (j := 6) kcl_X3 tyX3 tyX3_ok nmX3 (by omega) ((eu_n (by omega)).trans (eu_y)) (by decide) fl_X3_30 rfl hnm rfl (tyX3_ok 6 (by decide)) rfl rfl (by simp [fsX3]) dX3_init_57 ?_
  refine y_aloadn C 0 dX3_init_60 rfl ?_
  refine y_bipush C 12 dX3_init_61 (by decide) ?_
  refine y_newa C (atype := .int) (ty := .int) rfl arc_int 0 (yc_0 C) (N := 12) rfl (by decide) (by decide) (Nat.le_of_ble_eq_true rfl) ⟨Nat.le_of_ble_eq_true rfl, Nat.le_of_ble_eq_true rfl⟩ dX3_init_63 ?_
  refine y_put C (k := k) (j := 7) kcl_X3 tyX3 tyX3_ok nmX3 (by omega) ((eu_n (by omega)).trans (eu_y)) (by decide) fl_X3_33 rfl hnm rfl (tyX3_ok 7 (by decide)) rfl rfl (by simp [fsX3]) dX3_init_65 ?_
  refine ret _ _ _ _ _ (Nat.le_of_ble_eq_true rfl) (Nat.le_of_ble_eq_true rfl) (fun i hi => ?_) dX3_init_68
  by_cases q : i < k
  · rw [ef_lt (Or.inl q)]
    repeat rw [eu_n (by omega)]
  · obtain ⟨j, rfl⟩ : ∃ j, i = k + j := ⟨i - k, by omega⟩
    rw [ef_in (by omega)]
    rcases (show j = 0 ∨ j = 1 ∨ j = 2 ∨ j = 3 ∨ j = 4 ∨ j = 5 ∨ j = 6 ∨ j = 7 ∨ j = 8 by omega) with rfl | rfl | rfl | rfl | rfl | rfl | rfl | rfl | rfl
    · have hs : sk_sh O (k + 0) = _ := hk.1.2
      rw [hs]
      show _ = (Sum.inr (3, [.ref (sk_ad O (k + 1)), .ref (sk_ad O (k + 2)), .ref (sk_ad O (k + 3)), .ref (sk_ad O (k + 4)), .ref (sk_ad O (k + 5)), .ref (sk_ad O (k + 6)), .ref (sk_ad O (k + 7)), .ref (sk_ad O (k + 8)), .int (M k 8), .int (M k 9), .int (M k 10), .int (M k 11), .int (M k 12), .int (M k 13), .int (M k 14), .int (M k 15), .int (M k 16)]) : va_E)
      rw [hM k (by omega) (by omega)]
      simp only [had]
      exact eu_y.trans rfl
    · have hs : sk_sh O (k + 1) = _ := hk.2.1.2
      rw [hs, hM (k + 1) (by omega) (by omega)]
      repeat rw [eu_n (by omega)]
      exact eu_y.trans rfl
    · have hs : sk_sh O (k + 2) = _ := hk.2.2.1.2
      rw [hs, hM (k + 2) (by omega) (by omega)]
      repeat rw [eu_n (by omega)]
      exact eu_y.trans rfl
    · have hs : sk_sh O (k + 3) = _ := hk.2.2.2.1.2
      rw [hs, hM (k + 3) (by omega) (by omega)]
      repeat rw [eu_n (by omega)]
      exact eu_y.trans rfl
    · have hs : sk_sh O (k + 4) = _ := hk.2.2.2.2.1.2
      rw [hs, hM (k + 4) (by omega) (by omega)]
      repeat rw [eu_n (by omega)]
      exact eu_y.trans rfl
    · have hs : sk_sh O (k + 5) = _ := hk.2.2.2.2.2.1.2
      rw [hs, hM (k + 5) (by omega) (by omega)]
      repeat rw [eu_n (by omega)]
      exact eu_y.trans rfl
    · have hs : sk_sh O (k + 6) = _ := hk.2.2.2.2.2.2.1.2
      rw [hs, hM (k + 6) (by omega) (by omega)]
      repeat rw [eu_n (by omega)]
      exact eu_y.trans rfl
    · have hs : sk_sh O (k + 7) = _ := hk.2.2.2.2.2.2.2.1.2
      rw [hs, hM (k + 7) (by omega) (by omega)]
      repeat rw [eu_n (by omega)]
      exact eu_y.trans rfl
    · have hs : sk_sh O (k + 8) = _ := hk.2.2.2.2.2.2.2.2.2
      rw [hs, hM (k + 8) (by omega) (by omega)]
      repeat rw [eu_n (by omega)]
      exact eu_y.trans rfl
def fsX4 : List Value := [.null, .null, .int 0]
set_option maxHeartbeats 4000000 in
set_option maxRecDepth 100000 in
theorem j_X4 (l : Launch) {O : sk_O} {b : Nat} (had : ∀ i, sk_ad O i = b + i) (M : sk_M) (k : Nat) (E : Nat → va_E) (hk : sk_isD O k) (hM : ∀ i, k ≤ i → i < k + 3 → M i = fun _ => 0) (hE : E k = .inr (4, fsX4)) : sk_mk l yX4_init (sk_w yX4_init cX4_init 1 none) ({ frames := 1, cells := 2, slots := 8, locals := 12 }) O b k E (k + 1) (sk_ef O M k 3 E) (k + 3) := by
  refine sk_ji (by decide) rfl (Nat.le_refl _) (fun X A Q C hnm ret => ?_)
  refine y_aloadn C 0 dX4_init_0 rfl ?_
  refine y_obj C ml_X4_3_o oi_i oi_c ⟨Nat.le_refl _, Nat.le_refl _⟩ dX4_init_1 ?_
  refine y_aloadn C 0 dX4_init_4 rfl ?_
  refine y_iconst C 4 dX4_init_5 (by decide) ?_
  refine y_newa C (atype := .int) (ty := .int) rfl arc_int 0 (yc_0 C) (N := 4) rfl (by decide) (by decide) (Nat.le_of_ble_eq_true rfl) ⟨Nat.le_of_ble_eq_true rfl, Nat.le_of_ble_eq_true rfl⟩ dX4_init_6 ?_
  refine y_put C (k := k) (j := 0) kcl_X4 tyX4 tyX4_ok nmX4 (by omega) ((eu_n (by omega)).trans (hE)) (by decide) fl_X4_9 rfl hnm rfl (tyX4_ok 0 (by decide)) rfl rfl (by simp [fsX4]) dX4_init_8 ?_
  refine y_aloadn C 0 dX4_init_11 rfl ?_
  refine y_iconst C 4 dX4_init_12 (by decide) ?_
  refine y_newa C (atype := .int) (ty := .int) rfl arc_int 0 (yc_0 C) (N := 4) rfl (by decide) (by decide) (Nat.le_of_ble_eq_true rfl) ⟨Nat.le_of_ble_eq_true rfl, Nat.le_of_ble_eq_true rfl⟩ dX4_init_13 ?_
  refine y_put C (k := k) (j := 1) kcl_X4 tyX4 tyX4_ok nmX4 (by omega) ((eu_n (by omega)).trans (eu_y)) (by decide) fl_X4_15 rfl hnm rfl (tyX4_ok 1 (by decide)) rfl rfl (by simp [fsX4]) dX4_init_15 ?_
  refine ret _ _ _ _ _ (Nat.le_of_ble_eq_true rfl) (Nat.le_of_ble_eq_true rfl) (fun i hi => ?_) dX4_init_18
  by_cases q : i < k
  · rw [ef_lt (Or.inl q)]
    repeat rw [eu_n (by omega)]
  · obtain ⟨j, rfl⟩ : ∃ j, i = k + j := ⟨i - k, by omega⟩
    rw [ef_in (by omega)]
    rcases (show j = 0 ∨ j = 1 ∨ j = 2 by omega) with rfl | rfl | rfl
    · have hs : sk_sh O (k + 0) = _ := hk.1.2
      rw [hs]
      show _ = (Sum.inr (4, [.ref (sk_ad O (k + 1)), .ref (sk_ad O (k + 2)), .int (M k 2)]) : va_E)
      rw [hM k (by omega) (by omega)]
      simp only [had]
      exact eu_y.trans rfl
    · have hs : sk_sh O (k + 1) = _ := hk.2.1.2
      rw [hs, hM (k + 1) (by omega) (by omega)]
      repeat rw [eu_n (by omega)]
      exact eu_y.trans rfl
    · have hs : sk_sh O (k + 2) = _ := hk.2.2.2
      rw [hs, hM (k + 2) (by omega) (by omega)]
      repeat rw [eu_n (by omega)]
      exact eu_y.trans rfl
def fsX6 : List Value := [.null, .int 0, .int 0]
set_option maxHeartbeats 4000000 in
set_option maxRecDepth 100000 in
theorem j_X6 (l : Launch) {O : sk_O} {b : Nat} (had : ∀ i, sk_ad O i = b + i) (M : sk_M) (k : Nat) (E : Nat → va_E) (hk : sk_isT O k) (hM : ∀ i, k ≤ i → i < k + 2 → M i = fun _ => 0) (hE : E k = .inr (6, fsX6)) : sk_mk l yX6_init (sk_w yX6_init cX6_init 1 none) ({ frames := 1, cells := 1, slots := 120, locals := 12 }) O b k E (k + 1) (sk_ef O M k 2 E) (k + 2) := by
  refine sk_ji (by decide) rfl (Nat.le_refl _) (fun X A Q C hnm ret => ?_)
  refine y_aloadn C 0 dX6_init_0 rfl ?_
  refine y_obj C ml_X6_3_o oi_i oi_c ⟨Nat.le_refl _, Nat.le_refl _⟩ dX6_init_1 ?_
  refine y_aloadn C 0 dX6_init_4 rfl ?_
  refine y_bipush C 120 dX6_init_5 (by decide) ?_
  refine y_newa C (atype := .int) (ty := .int) rfl arc_int 0 (yc_0 C) (N := 120) rfl (by decide) (by decide) (Nat.le_of_ble_eq_true rfl) ⟨Nat.le_of_ble_eq_true rfl, Nat.le_of_ble_eq_true rfl⟩ dX6_init_7 ?_
  refine y_put C (k := k) (j := 0) kcl_X6 tyX6 tyX6_ok nmX6 (by omega) ((eu_n (by omega)).trans (hE)) (by decide) fl_X6_11 rfl hnm rfl (tyX6_ok 0 (by decide)) rfl rfl (by simp [fsX6]) dX6_init_9 ?_
  refine ret _ _ _ _ _ (Nat.le_of_ble_eq_true rfl) (Nat.le_of_ble_eq_true rfl) (fun i hi => ?_) dX6_init_12
  by_cases q : i < k
  · rw [ef_lt (Or.inl q)]
    repeat rw [eu_n (by omega)]
  · obtain ⟨j, rfl⟩ : ∃ j, i = k + j := ⟨i - k, by omega⟩
    rw [ef_in (by omega)]
    rcases (show j = 0 ∨ j = 1 by omega) with rfl | rfl
    · have hs : sk_sh O (k + 0) = _ := hk.1.2
      rw [hs]
      show _ = (Sum.inr (6, [.ref (sk_ad O (k + 1)), .int (M k 1), .int (M k 2)]) : va_E)
      rw [hM k (by omega) (by omega)]
      simp only [had]
      exact eu_y.trans rfl
    · have hs : sk_sh O (k + 1) = _ := hk.2.2
      rw [hs, hM (k + 1) (by omega) (by omega)]
      repeat rw [eu_n (by omega)]
      exact eu_y.trans rfl
