/-! Constructors: History -/
set_option maxHeartbeats 4000000 in
set_option maxRecDepth 100000 in
theorem j_X1 (l : Launch) {O : sk_O} {b : Nat} (had : ∀ i, sk_ad O i = b + i) (M : sk_M) (k : Nat) (E : Nat → va_E) (hk : sk_isH O k) (hM : M k = fun _ => 0) (hM2 : ∀ j, j < 14 → sk_m0 M (k + 2 + 43 * j)) (hE : E k = .inr (1, fsX1)) : sk_mk l yX1_init (sk_w yX1_init cX1_init 2 none) ({ frames := 3, cells := 603, slots := 10374, locals := 53 }) O b k E (k + 1) (sk_ef O M k 604 E) (k + 604) := by
  refine sk_ji (by decide) rfl (by decide) (fun X A Q C hnm ret => ?_)
  refine y_aloadn C 0 dX1_init_0 rfl ?_
  refine y_obj C ml_X1_1_o oi_i oi_c ⟨by decide, by decide⟩ dX1_init_1 ?_
  refine y_aloadn C 0 dX1_init_4 rfl ?_
  refine y_bipush C 14 dX1_init_5 (by decide) ?_
  refine y_newq C cll_X1_9 C.2.2.2.2.2.2 3 (yc_3 C) (N := 14) (by decide) (by decide) (by decide) ⟨by decide, by decide⟩ dX1_init_7 ?_
  refine y_put C (k := k) (j := 0) kcl_X1 tyX1 tyX1_ok nmX1 (by omega) ((eu_n (by omega)).trans hE) (by decide) fl_X1_11 rfl hnm rfl (tyX1_ok 0 (by decide)) rfl rfl (by simp [fsX1]) dX1_init_10 ?_
  refine y_iconst C 0 dX1_init_13 (by decide) ?_
  refine y_istoren C [1, 0] [(0, .ref (b + k)), (1, .int (nI 0))] dX1_init_14 (by decide) rfl ?_
  have loop : ∀ (f s kc ks : Nat), s + f = 14 → kc ≤ 1 + 43 * s → ks ≤ 14 + 740 * s → sk_Y l X O A Q b (sk_es O M b k 2 1 3 14 (k + 2) 43 s [.ref (b + (k + 1)), .int 0, .int 0] E) 2 kc ks (k + 2 + 43 * s) 15 [(0, .ref (b + k)), (1, .int (nI s))] [] := by
    intro f
    induction f with
    | zero =>
      intro s kc ks hs hkc hks
      obtain rfl : s = 14 := by omega
      refine y_iloadn C 1 dX1_init_15 rfl ?_
      refine y_bipush C 14 dX1_init_16 (by decide) ?_
      refine y_cge C 40 dX1_init_18 (by decide) (fun _ => ?_) (fun h => absurd (show (14 : Int32) ≤ nI 14 by decide) h)
      refine y_eqv (E' := sk_ef O M k 604 E) (fun i hi H h => ?_) (ret _ _ _ _ _ (by show kc ≤ 603; omega) (by show ks ≤ 10374; omega) (fun _ _ => rfl) dX1_init_40)
      by_cases h0 : i = k
      · subst h0
        rw [es_k] at h
        rw [ef_in (by omega)]
        have hs : sk_sh O i = _ := hk.1.2
        rw [hs, hM]
        show va_at O.1 vwCl (b + i, Sum.inr (1, [.ref (sk_ad O (i + 1)), .int 0, .int 0])) H
        rw [had]
        exact h
      · by_cases h1 : i = k + 1
        · subst h1
          rw [es_1] at h
          rw [ef_in (by omega)]
          have hs : sk_sh O (k + 1) = _ := hk.2.1.2
          rw [hs]
          show H[b + (k + 1)]? = some (vp_cell (sk_cy O 3) (14, .inr (.inr (.inr (.inr (fun j => (sk_isH_ring k j).map (sk_ad O)))))))
          refine Eq.trans (show H[b + (k + 1)]? = some (vp_cell (sk_cy O 3) (14, .inr (.inr (.inr (.inr (sk_rf b (k + 2) 43 14)))))) from h) ?_
          rw [vp_cell_q, vp_cell_q]
          congr 1
          refine arrV_n (fun j hj => ?_)
          show va_rf (sk_rf b (k + 2) 43 14 j) = va_rf (some (sk_ad O (k + 2 + 43 * j)))
          unfold sk_rf
          rw [if_pos hj, had]
        · by_cases h2 : i < k
          · rw [es_o (Or.inl h2)] at h
            rw [ef_lt (Or.inl h2)]
            exact h
          · rw [es_i (by omega)] at h
            rw [ef_in (by omega)]
            exact h
    | succ f ih =>
      intro s kc ks hs hkc hks
      refine y_iloadn C 1 dX1_init_15 rfl ?_
      refine y_bipush C 14 dX1_init_16 (by decide) ?_
      refine y_cge C 40 dX1_init_18 (by decide) (fun h => absurd ((nI_leI (a := 14) (by decide) (by omega)).mp h) (by omega)) (fun _ => ?_)
      refine y_aloadn C 0 dX1_init_21 rfl ?_
      refine y_get C kcl_X1 (k := k) (j := 0) (by omega) es_k (by decide) fl_X1_11 rfl dX1_init_22 ?_
      refine y_iloadn C 1 dX1_init_25 rfl ?_
      refine y_new C kcl_X5 tyX5 tyX5_ok (fs := fsX5) (fun j hj => by rcases (show j = 0 ∨ j = 1 ∨ j = 2 by omega) with rfl | rfl | rfl <;> rfl) cll_X1_9 nw_X5 ini_SkateSheet_State ⟨by show kc + 1 ≤ 603; omega, by show ks + 3 ≤ 10374; omega⟩ dX1_init_26 ?_
      refine y_dup C dX1_init_29 rfl ?_
      refine y_ctor C yvX5_init rfl vjX5_init ml_X1_15 (j_X5 l had M (k + 2 + 43 * s) _ (hk.2.2 s (by omega)) (hM2 s (by omega)) eu_y) (Nat.le_of_ble_eq_true rfl) ⟨⟨by decide, by decide⟩, by show kc + 1 + 42 ≤ 603; omega, by show ks + 3 + 737 ≤ 10374; omega⟩ dX1_init_30 ?_
      refine y_aast C (k := k + 1) (v := k + 2 + 43 * s) (z := 3) (ci := 5) (N := 14) (r := (RX5, TX5, 3)) (by omega) ((ef_lt (by omega)).trans ((eu_n (by omega)).trans es_1)) rfl (by omega) ((ef_in (by omega)).trans (by rw [(hk.2.2 s (by omega)).1.2]; rfl)) kcl_X5.1 s rfl (by omega) (by decide) dX1_init_33 ?_
      refine y_iinc C 1 (nI (s + 1)) [1, 0] [(0, .ref (b + k)), (1, .int (nI (s + 1)))] dX1_init_34 rfl (nI_add s 1) (by decide) rfl ?_
      refine y_goto C 15 dX1_init_37 (by decide) ?_
      have h10 : k + 2 + 43 * s + 43 = k + 2 + 43 * (s + 1) := by omega
      rw [h10]
      refine y_eq (es_s (q := k + 2) (z := 43) (s := s) (by omega) (by decide)) ?_
      exact ih (s + 1) (kc + 1 + 42) (ks + 3 + 737) (by omega) (by omega) (by omega)
  refine y_eq (fun i hi => ?_) (loop 14 0 _ _ rfl (by decide) (by decide))
  by_cases h0 : i = k
  · subst h0
    rw [es_k]
    exact (eu_y.trans rfl).symm
  · by_cases h1 : i = k + 1
    · subst h1
      rw [es_1, rf_0]
      repeat rw [eu_n (by omega)]
      exact (eu_y.trans rfl).symm
    · rw [es_o (by omega)]
      repeat rw [eu_n (by omega)]
