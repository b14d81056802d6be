/-! Constructors: SkateSheet (printed by l7.py) -/
/-- the sheet k with the fields own; the objects behind it up to k + t stand -/
def sk_xs (O : sk_O) (M : sk_M) (k t : Nat) (own : List Value) (E : Nat → va_E) : Nat → va_E := fun i => if i = k then .inr (7, own) else if k < i ∧ i < k + t then sk_el (sk_ad O) (sk_cy O) (sk_sh O i) (M i) else E i
theorem xs_k {O : sk_O} {M : sk_M} {k t : Nat} {own : List Value} {E : Nat → va_E} : sk_xs O M k t own E k = .inr (7, own) := if_pos rfl
theorem xs_i {O : sk_O} {M : sk_M} {k t i : Nat} {own : List Value} {E : Nat → va_E} (h : k < i ∧ i < k + t) : sk_xs O M k t own E i = sk_el (sk_ad O) (sk_cy O) (sk_sh O i) (M i) := by
  unfold sk_xs
  rw [if_neg (by omega), if_pos h]
theorem xs_o {O : sk_O} {M : sk_M} {k t i : Nat} {own : List Value} {E : Nat → va_E} (h : i < k ∨ (k + t ≤ i ∧ i ≠ k)) : sk_xs O M k t own E i = E i := by
  unfold sk_xs
  rw [if_neg (by omega), if_neg (by omega)]
theorem xs_s {O : sk_O} {M : sk_M} {k t n N : Nat} {own own' : List Value} {E : Nat → va_E} {x : va_E} (ht : 0 < t) (hN : n = t + N) : ∀ i, i < k + n → sk_xs O M k n own' E i = sk_eu (sk_ef O M (k + t) N (sk_eu (sk_xs O M k t own E) (k + t) x)) k (.inr (7, own')) i := by
  intro i hi
  by_cases h0 : i = k
  · subst h0; rw [xs_k, eu_y]
  · rw [eu_n h0]
    by_cases h1 : k + t ≤ i
    · rw [ef_in (by omega), xs_i (by omega)]
    · rw [ef_lt (by omega), eu_n (by omega)]
      by_cases h2 : i < k
      · rw [xs_o (Or.inl h2), xs_o (Or.inl h2)]
      · rw [xs_i (by omega), xs_i (by omega)]
/-- the loop over the slots -/
def sk_sl (O : sk_O) (M : sk_M) (b k s : Nat) (own : List Value) (E : Nat → va_E) : Nat → va_E := fun i => if i = k + 648 then .inl (sk_cy O 3, 2, .inr (.inr (.inr (.inr (sk_rf b (k + 649) 43 s))))) else sk_xs O M k (649 + 43 * s) own E i
theorem sl_a {O : sk_O} {M : sk_M} {b k s : Nat} {own : List Value} {E : Nat → va_E} : sk_sl O M b k s own E (k + 648) = .inl (sk_cy O 3, 2, .inr (.inr (.inr (.inr (sk_rf b (k + 649) 43 s))))) := if_pos rfl
theorem sl_n {O : sk_O} {M : sk_M} {b k s i : Nat} {own : List Value} {E : Nat → va_E} (h : i ≠ k + 648) : sk_sl O M b k s own E i = sk_xs O M k (649 + 43 * s) own E i := if_neg h
theorem sl_s {O : sk_O} {M : sk_M} {b k s : Nat} {own : List Value} {E : Nat → va_E} {x : va_E} : ∀ i, i < k + 649 + 43 * (s + 1) → sk_sl O M b k (s + 1) own E i = sk_eu (sk_ef O M (k + 649 + 43 * s) 43 (sk_eu (sk_sl O M b k s own E) (k + 649 + 43 * s) x)) (k + 648) (.inl (sk_cy O 3, 2, .inr (.inr (.inr (.inr (va_up (sk_rf b (k + 649) 43 s) s (some (b + (k + 649 + 43 * s))))))))) i := by
  intro i hi
  by_cases h1 : i = k + 648
  · subst h1
    rw [eu_y, sl_a, rf_s]
  · rw [eu_n h1, sl_n h1]
    by_cases h2 : k + 649 + 43 * s ≤ i
    · rw [ef_in (by omega), xs_i (by omega)]
    · rw [ef_lt (by omega), eu_n (by omega), sl_n h1]
      by_cases h0 : i = k
      · subst h0; rw [xs_k, xs_k]
      · by_cases h3 : i < k
        · rw [xs_o (Or.inl h3), xs_o (Or.inl h3)]
        · rw [xs_i (by omega), xs_i (by omega)]
def fsX7 : List Value := [.null, .null, .null, .null, .null, .null, .null, .null, .null, .null]
/-- a fresh sheet's memory -/
def sk_mX (M : sk_M) (k : Nat) : Prop := sk_m0 M (k + 1) ∧ (M (k + 44) = fun _ => 0) ∧ (∀ j, j < 14 → sk_m0 M (k + 44 + 2 + 43 * j)) ∧ (∀ j, j < 2 → sk_m0 M (k + 649 + 43 * j)) ∧ (∀ i, k + 735 ≤ i → i < k + 751 → M i = fun _ => 0) ∧ sk_m0 M (k + 751) ∧ ∀ i, k + 794 ≤ i → i < k + 804 → M i = fun _ => 0
set_option maxHeartbeats 4000000 in
set_option maxRecDepth 100000 in
theorem j_X7 (l : Launch) {O : sk_O} {b : Nat} (had : ∀ i, sk_ad O i = b + i) (M : sk_M) (k : Nat) (E : Nat → va_E) (hk : sk_isX O k) (hM : sk_mX M k) (hE : E k = .inr (7, fsX7)) : sk_mk l yX7_init (sk_w yX7_init cX7_init 2 none) ({ frames := 4, cells := 803, slots := 13823, locals := 74 }) O b k E (k + 1) (sk_ef O M k 804 E) (k + 804) := by
  obtain ⟨k0, k1, k2, k3, k4, k5, k6, k7, k8, k9, k10⟩ := hk
  obtain ⟨m1, m2, m3, m4, m5, m6, m7⟩ := hM
  refine sk_ji (by decide) rfl (by decide) (fun X A Q C hnm ret => ?_)
  refine y_aloadn C 0 dX7_init_0 rfl ?_
  refine y_obj C ml_X7_1_o oi_i oi_c ⟨by decide, by decide⟩ dX7_init_1 ?_
  refine y_eq (E' := sk_xs O M k 1 fsX7 E) (fun i hi => by
    by_cases h0 : i = k
    · subst h0; rw [xs_k, hE]
    · rw [xs_o (by omega)]) ?_
  refine y_aloadn C 0 dX7_init_4 rfl ?_
  refine y_new C kcl_X5 tyX5 tyX5_ok (fs := fsX5) (fun q hq => by rcases (show q = 0 ∨ q = 1 ∨ q = 2 by omega) with rfl | rfl | rfl <;> rfl) cll_X7_7 nw_X5 ini_SkateSheet_State ⟨Nat.le_of_ble_eq_true rfl, Nat.le_of_ble_eq_true rfl⟩ dX7_init_5 ?_
  refine y_dup C dX7_init_8 rfl ?_
  refine y_ctor C yvX5_init rfl vjX5_init ml_X7_9 (j_X5 l had M (k + 1) _ k1 m1 eu_y) (Nat.le_of_ble_eq_true rfl) ⟨⟨by decide, by decide⟩, Nat.le_of_ble_eq_true rfl, Nat.le_of_ble_eq_true rfl⟩ dX7_init_9 ?_
  refine y_put C (k := k) (j := 0) kcl_X7 tyX7 tyX7_ok nmX7 (by omega) ((ef_lt (by omega)).trans ((eu_n (by omega)).trans xs_k)) (by decide) fl_X7_10 rfl hnm rfl (tyX7_ok 0 (by decide)) rfl rfl (by simp [fsX7]) dX7_init_12 ?_
  refine y_eq (E' := sk_xs O M k 44 [.ref (b + (k + 1)), .null, .null, .null, .null, .null, .null, .null, .null, .null] E) (xs_s (t := 1) (N := 43) (by decide) rfl) ?_
  refine y_aloadn C 0 dX7_init_15 rfl ?_
  refine y_new C kcl_X1 tyX1 tyX1_ok (fs := fsX1) (fun q hq => by rcases (show q = 0 ∨ q = 1 ∨ q = 2 by omega) with rfl | rfl | rfl <;> rfl) cll_X7_16 nw_X1 ini_SkateSheet_History ⟨Nat.le_of_ble_eq_true rfl, Nat.le_of_ble_eq_true rfl⟩ dX7_init_16 ?_
  refine y_dup C dX7_init_19 rfl ?_
  refine y_ctor C yvX1_init rfl vjX1_init ml_X7_18 (j_X1 l had M (k + 44) _ k2 m2 m3 eu_y) (Nat.le_of_ble_eq_true rfl) ⟨⟨by decide, by decide⟩, Nat.le_of_ble_eq_true rfl, Nat.le_of_ble_eq_true rfl⟩ dX7_init_20 ?_
  refine y_put C (k := k) (j := 1) kcl_X7 tyX7 tyX7_ok nmX7 (by omega) ((ef_lt (by omega)).trans ((eu_n (by omega)).trans xs_k)) (by decide) fl_X7_19 rfl hnm rfl (tyX7_ok 1 (by decide)) rfl rfl (by simp) dX7_init_23 ?_
  refine y_eq (E' := sk_xs O M k 648 [.ref (b + (k + 1)), .ref (b + (k + 44)), .null, .null, .null, .null, .null, .null, .null, .null] E) (xs_s (t := 44) (N := 604) (by decide) rfl) ?_
  refine y_aloadn C 0 dX7_init_26 rfl ?_
  refine y_iconst C 2 dX7_init_27 (by decide) ?_
  refine y_newq C cll_X7_7 C.2.2.2.2.2.2 3 (yc_3 C) (N := 2) (by decide) (by decide) (by decide) ⟨Nat.le_of_ble_eq_true rfl, Nat.le_of_ble_eq_true rfl⟩ dX7_init_28 ?_
  refine y_put C (k := k) (j := 2) kcl_X7 tyX7 tyX7_ok nmX7 (by omega) ((eu_n (by omega)).trans xs_k) (by decide) fl_X7_23 rfl hnm rfl (tyX7_ok 2 (by decide)) rfl rfl (by simp) dX7_init_31 ?_
  refine y_iconst C 0 dX7_init_34 (by decide) ?_
  refine y_istoren C [1, 0] [(0, .ref (b + k)), (1, .int (nI 0))] dX7_init_35 (by decide) rfl ?_
  have loop : ∀ (f s kc ks : Nat), s + f = 2 → kc ≤ 648 + 43 * s → ks ≤ 11119 + 740 * s → (∀ kc' ks', kc' ≤ 734 → ks' ≤ 12599 → sk_Y l X O A Q b (sk_xs O M k 735 [.ref (b + (k + 1)), .ref (b + (k + 44)), .ref (b + (k + 648)), .null, .null, .null, .null, .null, .null, .null] E) 2 kc' ks' (k + 735) 60 [(0, .ref (b + k)), (1, .int (nI 2))] []) → sk_Y l X O A Q b (sk_sl O M b k s [.ref (b + (k + 1)), .ref (b + (k + 44)), .ref (b + (k + 648)), .null, .null, .null, .null, .null, .null, .null] E) 2 kc ks (k + 649 + 43 * s) 36 [(0, .ref (b + k)), (1, .int (nI s))] [] := by
    intro f
    induction f with
    | zero =>
      intro s kc ks hs hkc hks fin
      obtain rfl : s = 2 := by omega
      refine y_iloadn C 1 dX7_init_36 rfl ?_
      refine y_iconst C 2 dX7_init_37 (by decide) ?_
      refine y_cge C 60 dX7_init_38 (by decide) (fun _ => ?_) (fun h => absurd (show (2 : Int32) ≤ nI 2 by decide) h)
      refine y_eqv (fun i hi H h => ?_) (fin kc ks (by omega) (by omega))
      by_cases h1 : i = k + 648
      · subst h1
        rw [sl_a] at h
        rw [xs_i (by omega)]
        have hs : sk_sh O (k + 648) = _ := k3.1.2
        rw [hs]
        show H[b + (k + 648)]? = some (vp_cell (sk_cy O 3) (2, .inr (.inr (.inr (.inr (fun j => (sk_isX_slots k j).map (sk_ad O)))))))
        refine Eq.trans (show H[b + (k + 648)]? = some (vp_cell (sk_cy O 3) (2, .inr (.inr (.inr (.inr (sk_rf b (k + 649) 43 2)))))) from h) ?_
        rw [vp_cell_q, vp_cell_q]
        congr 1
        refine arrV_n (fun j hj => ?_)
        show va_rf (sk_rf b (k + 649) 43 2 j) = va_rf (some (sk_ad O (k + 649 + 43 * j)))
        unfold sk_rf
        rw [if_pos hj, had]
      · rw [sl_n h1] at h
        exact h
    | succ f ih =>
      intro s kc ks hs hkc hks fin
      refine y_iloadn C 1 dX7_init_36 rfl ?_
      refine y_iconst C 2 dX7_init_37 (by decide) ?_
      refine y_cge C 60 dX7_init_38 (by decide) (fun h => absurd ((nI_leI (a := 2) (by decide) (by omega)).mp h) (by omega)) (fun _ => ?_)
      refine y_aloadn C 0 dX7_init_41 rfl ?_
      refine y_get C kcl_X7 (k := k) (j := 2) (by omega) ((sl_n (by omega)).trans xs_k) (by decide) fl_X7_23 rfl dX7_init_42 ?_
      refine y_iloadn C 1 dX7_init_45 rfl ?_
      refine y_new C kcl_X5 tyX5 tyX5_ok (fs := fsX5) (fun j hj => by rcases (show j = 0 ∨ j = 1 ∨ j = 2 by omega) with rfl | rfl | rfl <;> rfl) cll_X7_7 nw_X5 ini_SkateSheet_State ⟨by show kc + 1 ≤ 803; omega, by show ks + 3 ≤ 13823; omega⟩ dX7_init_46 ?_
      refine y_dup C dX7_init_49 rfl ?_
      refine y_ctor C yvX5_init rfl vjX5_init ml_X7_9 (j_X5 l had M (k + 649 + 43 * s) _ (k3.2 s (by omega)) (m4 s (by omega)) eu_y) (Nat.le_of_ble_eq_true rfl) ⟨⟨by decide, by decide⟩, by show kc + 1 + 42 ≤ 803; omega, by show ks + 3 + 737 ≤ 13823; omega⟩ dX7_init_50 ?_
      refine y_aast C (k := k + 648) (v := k + 649 + 43 * s) (z := 3) (ci := 5) (N := 2) (r := (RX5, TX5, 3)) (by omega) ((ef_lt (by omega)).trans ((eu_n (by omega)).trans sl_a)) rfl (by omega) ((ef_in (by omega)).trans (by rw [(k3.2 s (by omega)).1.2]; rfl)) kcl_X5.1 s rfl (by omega) (by decide) dX7_init_53 ?_
      refine y_iinc C 1 (nI (s + 1)) [1, 0] [(0, .ref (b + k)), (1, .int (nI (s + 1)))] dX7_init_54 rfl (nI_add s 1) (by decide) rfl ?_
      refine y_goto C 36 dX7_init_57 (by decide) ?_
      have h10 : k + 649 + 43 * s + 43 = k + 649 + 43 * (s + 1) := by omega
      rw [h10]
      refine y_eq sl_s ?_
      exact ih (s + 1) (kc + 1 + 42) (ks + 3 + 737) (by omega) (by omega) (by omega) fin
  refine y_eq (fun i hi => ?_) (loop 2 0 _ _ rfl (by decide) (by decide) (fun kc ks hkc hks => ?_))
  · by_cases h0 : i = k
    · subst h0
      rw [sl_n (by omega), xs_k]
      exact (eu_y.trans rfl).symm
    · by_cases h1 : i = k + 648
      · subst h1
        rw [sl_a, rf_0, eu_n (by omega)]
        exact (eu_y.trans rfl).symm
      · rw [sl_n h1, eu_n h0, eu_n (by omega)]
        by_cases h3 : i < k
        · rw [xs_o (Or.inl h3), xs_o (Or.inl h3)]
        · rw [xs_i (by omega), xs_i (by omega)]
  refine y_aloadn C 0 dX7_init_60 rfl ?_
  refine y_iconst C 2 dX7_init_61 (by decide) ?_
  refine y_newa C (atype := .boolean) (ty := .boolean) rfl arc_boolean 1 (yc_1 C) (N := 2) rfl (by decide) (by decide) (by decide) ⟨by show kc + 1 ≤ 803; omega, by show ks + 2 ≤ 13823; omega⟩ dX7_init_62 ?_
  refine y_put C (k := k) (j := 3) kcl_X7 tyX7 tyX7_ok nmX7 (by omega) ((eu_n (by omega)).trans xs_k) (by decide) fl_X7_27 rfl hnm rfl (tyX7_ok 3 (by decide)) rfl rfl (by simp) dX7_init_64 ?_
  refine y_eq (E' := sk_xs O M k 736 [.ref (b + (k + 1)), .ref (b + (k + 44)), .ref (b + (k + 648)), .ref (b + (k + 735)), .null, .null, .null, .null, .null, .null] E) (fun i hi => by
    by_cases h0 : i = k
    · subst h0
      rw [xs_k]
      exact (eu_y.trans rfl).symm
    · rw [eu_n h0]
      by_cases h1 : i = k + 735
      · subst h1
        rw [xs_i (by omega)]
        have hs : sk_sh O (k + 735) = _ := k4.2
        rw [hs, m5 _ (by omega) (by omega)]
        exact (eu_y.trans rfl).symm
      · rw [eu_n h1]
        by_cases h3 : i < k
        · rw [xs_o (Or.inl h3), xs_o (Or.inl h3)]
        · rw [xs_i (by omega), xs_i (by omega)]) ?_
  refine y_aloadn C 0 dX7_init_67 rfl ?_
  refine y_new C kcl_X6 tyX6 tyX6_ok (fs := fsX6) (fun q hq => by rcases (show q = 0 ∨ q = 1 ∨ q = 2 by omega) with rfl | rfl | rfl <;> rfl) cll_X7_31 nw_X6 ini_SkateSheet_Text ⟨by show kc + 2 ≤ 803; omega, by show ks + 5 ≤ 13823; omega⟩ dX7_init_68 ?_
  refine y_dup C dX7_init_71 rfl ?_
  refine y_ctor C yvX6_init rfl vjX6_init ml_X7_33 (j_X6 l had M (k + 736) _ k5 (fun i h1 h2 => m5 i (by omega) (by omega)) eu_y) (Nat.le_of_ble_eq_true rfl) ⟨⟨by decide, by decide⟩, by show kc + 3 ≤ 803; omega, by show ks + 125 ≤ 13823; omega⟩ dX7_init_72 ?_
  refine y_put C (k := k) (j := 4) kcl_X7 tyX7 tyX7_ok nmX7 (by omega) ((ef_lt (by omega)).trans ((eu_n (by omega)).trans xs_k)) (by decide) fl_X7_34 rfl hnm rfl (tyX7_ok 4 (by decide)) rfl rfl (by simp) dX7_init_75 ?_
  refine y_eq (E' := sk_xs O M k 738 [.ref (b + (k + 1)), .ref (b + (k + 44)), .ref (b + (k + 648)), .ref (b + (k + 735)), .ref (b + (k + 736)), .null, .null, .null, .null, .null] E) (xs_s (t := 736) (N := 2) (by decide) rfl) ?_
  refine y_aloadn C 0 dX7_init_78 rfl ?_
  refine y_new C kcl_X3 tyX3 tyX3_ok (fs := fsX3) (fun q hq => by rcases (show q = 0 ∨ q = 1 ∨ q = 2 ∨ q = 3 ∨ q = 4 ∨ q = 5 ∨ q = 6 ∨ q = 7 ∨ q = 8 ∨ q = 9 ∨ q = 10 ∨ q = 11 ∨ q = 12 ∨ q = 13 ∨ q = 14 ∨ q = 15 ∨ q = 16 by omega) with rfl | rfl | rfl | rfl | rfl | rfl | rfl | rfl | rfl | rfl | rfl | rfl | rfl | rfl | rfl | rfl | rfl <;> rfl) cll_X7_38 nw_X3 ini_SkateSheet_Scoring ⟨by show kc + 4 ≤ 803; omega, by show ks + 142 ≤ 13823; omega⟩ dX7_init_79 ?_
  refine y_dup C dX7_init_82 rfl ?_
  refine y_ctor C yvX3_init rfl vjX3_init ml_X7_40 (j_X3 l had M (k + 738) _ k6 (fun i h1 h2 => m5 i (by omega) (by omega)) eu_y) (Nat.le_of_ble_eq_true rfl) ⟨⟨by decide, by decide⟩, by show kc + 12 ≤ 803; omega, by show ks + 286 ≤ 13823; omega⟩ dX7_init_83 ?_
  refine y_put C (k := k) (j := 5) kcl_X7 tyX7 tyX7_ok nmX7 (by omega) ((ef_lt (by omega)).trans ((eu_n (by omega)).trans xs_k)) (by decide) fl_X7_41 rfl hnm rfl (tyX7_ok 5 (by decide)) rfl rfl (by simp) dX7_init_86 ?_
  refine y_eq (E' := sk_xs O M k 747 [.ref (b + (k + 1)), .ref (b + (k + 44)), .ref (b + (k + 648)), .ref (b + (k + 735)), .ref (b + (k + 736)), .ref (b + (k + 738)), .null, .null, .null, .null] E) (xs_s (t := 738) (N := 9) (by decide) rfl) ?_
  refine y_aloadn C 0 dX7_init_89 rfl ?_
  refine y_new C kcl_X4 tyX4 tyX4_ok (fs := fsX4) (fun q hq => by rcases (show q = 0 ∨ q = 1 ∨ q = 2 by omega) with rfl | rfl | rfl <;> rfl) cll_X7_45 nw_X4 ini_SkateSheet_Standing ⟨by show kc + 13 ≤ 803; omega, by show ks + 289 ≤ 13823; omega⟩ dX7_init_90 ?_
  refine y_dup C dX7_init_93 rfl ?_
  refine y_ctor C yvX4_init rfl vjX4_init ml_X7_47 (j_X4 l had M (k + 747) _ k7 (fun i h1 h2 => m5 i (by omega) (by omega)) eu_y) (Nat.le_of_ble_eq_true rfl) ⟨⟨by decide, by decide⟩, by show kc + 15 ≤ 803; omega, by show ks + 297 ≤ 13823; omega⟩ dX7_init_94 ?_
  refine y_put C (k := k) (j := 6) kcl_X7 tyX7 tyX7_ok nmX7 (by omega) ((ef_lt (by omega)).trans ((eu_n (by omega)).trans xs_k)) (by decide) fl_X7_48 rfl hnm rfl (tyX7_ok 6 (by decide)) rfl rfl (by simp) dX7_init_97 ?_
  refine y_eq (E' := sk_xs O M k 750 [.ref (b + (k + 1)), .ref (b + (k + 44)), .ref (b + (k + 648)), .ref (b + (k + 735)), .ref (b + (k + 736)), .ref (b + (k + 738)), .ref (b + (k + 747)), .null, .null, .null] E) (xs_s (t := 747) (N := 3) (by decide) rfl) ?_
  refine y_aloadn C 0 dX7_init_100 rfl ?_
  refine y_new C kcl_X0 tyX0 tyX0_ok (fs := fsX0) (fun q hq => by rcases (show q = 0 ∨ q = 1 ∨ q = 2 ∨ q = 3 ∨ q = 4 by omega) with rfl | rfl | rfl | rfl | rfl <;> rfl) cll_X7_52 nw_X0 ini_SkateSheet_Command ⟨by show kc + 16 ≤ 803; omega, by show ks + 302 ≤ 13823; omega⟩ dX7_init_101 ?_
  refine y_dup C dX7_init_104 rfl ?_
  refine y_ctor C yvX0_init rfl vjX0_init ml_X7_54 (j_X0 l had M (k + 750) _ k8 (fun i h1 h2 => m5 i (by omega) (by omega)) eu_y) (Nat.le_of_ble_eq_true rfl) ⟨⟨by decide, by decide⟩, by show kc + 16 ≤ 803; omega, by show ks + 302 ≤ 13823; omega⟩ dX7_init_105 ?_
  refine y_put C (k := k) (j := 7) kcl_X7 tyX7 tyX7_ok nmX7 (by omega) ((ef_lt (by omega)).trans ((eu_n (by omega)).trans xs_k)) (by decide) fl_X7_55 rfl hnm rfl (tyX7_ok 7 (by decide)) rfl rfl (by simp) dX7_init_108 ?_
  refine y_eq (E' := sk_xs O M k 751 [.ref (b + (k + 1)), .ref (b + (k + 44)), .ref (b + (k + 648)), .ref (b + (k + 735)), .ref (b + (k + 736)), .ref (b + (k + 738)), .ref (b + (k + 747)), .ref (b + (k + 750)), .null, .null] E) (xs_s (t := 750) (N := 1) (by decide) rfl) ?_
  refine y_aloadn C 0 dX7_init_111 rfl ?_
  refine y_new C kcl_X5 tyX5 tyX5_ok (fs := fsX5) (fun q hq => by rcases (show q = 0 ∨ q = 1 ∨ q = 2 by omega) with rfl | rfl | rfl <;> rfl) cll_X7_7 nw_X5 ini_SkateSheet_State ⟨by show kc + 17 ≤ 803; omega, by show ks + 305 ≤ 13823; omega⟩ dX7_init_112 ?_
  refine y_dup C dX7_init_115 rfl ?_
  refine y_ctor C yvX5_init rfl vjX5_init ml_X7_9 (j_X5 l had M (k + 751) _ k9 m6 eu_y) (Nat.le_of_ble_eq_true rfl) ⟨⟨by decide, by decide⟩, by show kc + 59 ≤ 803; omega, by show ks + 1042 ≤ 13823; omega⟩ dX7_init_116 ?_
  refine y_put C (k := k) (j := 8) kcl_X7 tyX7 tyX7_ok nmX7 (by omega) ((ef_lt (by omega)).trans ((eu_n (by omega)).trans xs_k)) (by decide) fl_X7_59 rfl hnm rfl (tyX7_ok 8 (by decide)) rfl rfl (by simp) dX7_init_119 ?_
  refine y_eq (E' := sk_xs O M k 794 [.ref (b + (k + 1)), .ref (b + (k + 44)), .ref (b + (k + 648)), .ref (b + (k + 735)), .ref (b + (k + 736)), .ref (b + (k + 738)), .ref (b + (k + 747)), .ref (b + (k + 750)), .ref (b + (k + 751)), .null] E) (xs_s (t := 751) (N := 43) (by decide) rfl) ?_
  refine y_aloadn C 0 dX7_init_122 rfl ?_
  refine y_new C kcl_X2 tyX2 tyX2_ok (fs := fsX2) (fun q hq => by rcases (show q = 0 ∨ q = 1 ∨ q = 2 ∨ q = 3 ∨ q = 4 ∨ q = 5 ∨ q = 6 ∨ q = 7 ∨ q = 8 ∨ q = 9 ∨ q = 10 by omega) with rfl | rfl | rfl | rfl | rfl | rfl | rfl | rfl | rfl | rfl | rfl <;> rfl) cll_X7_62 nw_X2 ini_SkateSheet_Program ⟨by show kc + 60 ≤ 803; omega, by show ks + 1053 ≤ 13823; omega⟩ dX7_init_123 ?_
  refine y_dup C dX7_init_126 rfl ?_
  refine y_ctor C yvX2_init rfl vjX2_init ml_X7_64 (j_X2 l had M (k + 794) _ k10 (fun i h1 h2 => m7 i (by omega) (by omega)) eu_y) (Nat.le_of_ble_eq_true rfl) ⟨⟨by decide, by decide⟩, by show kc + 69 ≤ 803; omega, by show ks + 1224 ≤ 13823; omega⟩ dX7_init_127 ?_
  refine y_put C (k := k) (j := 9) kcl_X7 tyX7 tyX7_ok nmX7 (by omega) ((ef_lt (by omega)).trans ((eu_n (by omega)).trans xs_k)) (by decide) fl_X7_65 rfl hnm rfl (tyX7_ok 9 (by decide)) rfl rfl (by simp) dX7_init_130 ?_
  refine y_eq (E' := sk_xs O M k 804 [.ref (b + (k + 1)), .ref (b + (k + 44)), .ref (b + (k + 648)), .ref (b + (k + 735)), .ref (b + (k + 736)), .ref (b + (k + 738)), .ref (b + (k + 747)), .ref (b + (k + 750)), .ref (b + (k + 751)), .ref (b + (k + 794))] E) (xs_s (t := 794) (N := 10) (by decide) rfl) ?_
  refine ret _ _ _ _ _ (by show kc + 69 ≤ 803; omega) (by show ks + 1224 ≤ 13823; omega) (fun i hi => ?_) dX7_init_133
  by_cases h0 : i = k
  · subst h0
    rw [xs_k, ef_in (by omega)]
    have hs : sk_sh O i = _ := k0.2
    rw [hs]
    show _ = (Sum.inr (7, [.ref (sk_ad O (i + 1)), .ref (sk_ad O (i + 44)), .ref (sk_ad O (i + 648)), .ref (sk_ad O (i + 735)), .ref (sk_ad O (i + 736)), .ref (sk_ad O (i + 738)), .ref (sk_ad O (i + 747)), .ref (sk_ad O (i + 750)), .ref (sk_ad O (i + 751)), .ref (sk_ad O (i + 794))]) : va_E)
    simp only [had]
  · by_cases h3 : i < k
    · rw [xs_o (Or.inl h3), ef_lt (Or.inl h3)]
    · rw [xs_i (by omega), ef_in (by omega)]
