/-! Constructors: State, History -/
theorem arrV_n {c : ClassId} {n : Nat} {f g : Nat → Value} (h : ∀ i, i < n → f i = g i) : arrV c n f = arrV c n g := by
  unfold arrV
  congr 1
  apply Array.ext
  · simp
  · intro i h1 h2
    have hi : i < n := by simpa using h1
    simp [h i hi]
section
variable {l : Launch} {X : sk_X} {O : sk_O} {A : Nat → Prop} {Q : State → Prop} {b : Nat} {E : Nat → va_E} {nL kc ks t pc : Nat} {lv : List (Nat × Value)} {st : List Value}
theorem y_eqv {E' : Nat → va_E} (h : ∀ i, i < t → ∀ H, va_at O.1 vwCl (b + i, E i) H → va_at O.1 vwCl (b + i, E' i) H) (K : sk_Y l X O A Q b E' nL kc ks t pc lv st) : sk_Y l X O A Q b E nL kc ks t pc lv st :=
  fun H locs ls hz hP hS hl => K H locs ls hz ⟨hP.1, fun k hk => h k hk H (hP.2 k hk)⟩ hS hl
end
/-- a row of references, s of them set -/
def sk_rf (b q z s : Nat) : Nat → Option Nat := fun j => if j < s then some (b + (q + z * j)) else none
theorem rf_s {b q z s : Nat} : va_up (sk_rf b q z s) s (some (b + (q + z * s))) = sk_rf b q z (s + 1) := by
  funext j
  unfold va_up sk_rf
  by_cases h : j = s
  · subst h; rw [if_pos rfl, if_pos (by omega)]
  · rw [if_neg h]
    by_cases g : j < s
    · rw [if_pos g, if_pos (by omega)]
    · rw [if_neg g, if_neg (by omega)]
theorem rf_0 {b q z : Nat} : sk_rf b q z 0 = fun _ => none := by
  funext j
  exact if_neg (by omega)
/-- the world in the loop: the object k, its row of references at k + 1, r more of its own, s elements of z objects from q on -/
def sk_es (O : sk_O) (M : sk_M) (b k r ci cy n q z s : Nat) (own : List Value) (E : Nat → va_E) : Nat → va_E := fun i => if i = k then .inr (ci, own) else if i = k + 1 then .inl (sk_cy O cy, n, .inr (.inr (.inr (.inr (sk_rf b q z s))))) else if k + 2 ≤ i ∧ i < q + z * s then sk_el (sk_ad O) (sk_cy O) (sk_sh O i) (M i) else E i
theorem es_k {O : sk_O} {M : sk_M} {b k r ci cy n q z s : Nat} {own : List Value} {E : Nat → va_E} : sk_es O M b k r ci cy n q z s own E k = .inr (ci, own) := if_pos rfl
theorem es_1 {O : sk_O} {M : sk_M} {b k r ci cy n q z s : Nat} {own : List Value} {E : Nat → va_E} : sk_es O M b k r ci cy n q z s own E (k + 1) = .inl (sk_cy O cy, n, .inr (.inr (.inr (.inr (sk_rf b q z s))))) := by
  unfold sk_es
  rw [if_neg (by omega), if_pos rfl]
theorem es_i {O : sk_O} {M : sk_M} {b k r ci cy n q z s i : Nat} {own : List Value} {E : Nat → va_E} (h : k + 2 ≤ i ∧ i < q + z * s) : sk_es O M b k r ci cy n q z s own E i = sk_el (sk_ad O) (sk_cy O) (sk_sh O i) (M i) := by
  unfold sk_es
  rw [if_neg (by omega), if_neg (by omega), if_pos h]
theorem es_o {O : sk_O} {M : sk_M} {b k r ci cy n q z s i : Nat} {own : List Value} {E : Nat → va_E} (h : i < k ∨ (k + 2 ≤ i ∧ q + z * s ≤ i)) : sk_es O M b k r ci cy n q z s own E i = E i := by
  unfold sk_es
  rw [if_neg (by omega), if_neg (by omega), if_neg (by omega)]
/-- one element more -/
theorem es_s {O : sk_O} {M : sk_M} {b k r ci cy n q z s : Nat} {own : List Value} {E : Nat → va_E} {x : va_E} (hq : k + 2 ≤ q) (hz : 0 < z) : ∀ i, i < q + z * (s + 1) → sk_es O M b k r ci cy n q z (s + 1) own E i = sk_eu (sk_ef O M (q + z * s) z (sk_eu (sk_es O M b k r ci cy n q z s own E) (q + z * s) x)) (k + 1) (.inl (sk_cy O cy, n, .inr (.inr (.inr (.inr (va_up (sk_rf b q z s) s (some (b + (q + z * s))))))))) i := by
  intro i hi
  have hm : z * (s + 1) = z * s + z := by rw [Nat.mul_succ]
  by_cases h1 : i = k + 1
  · subst h1
    rw [eu_y, es_1, rf_s]
  · rw [eu_n h1]
    by_cases h2 : q + z * s ≤ i
    · rw [ef_in (by omega), es_i (by omega)]
    · rw [ef_lt (by omega), eu_n (by omega)]
      by_cases h0 : i = k
      · subst h0; rw [es_k, es_k]
      · by_cases h3 : i < k
        · rw [es_o (Or.inl h3), es_o (Or.inl h3)]
        · rw [es_i (by omega), es_i (by omega)]
def fsX5 : List Value := [.null, .null, .int 0]
def fsX1 : List Value := [.null, .int 0, .int 0]
def sk_s0 : Nat → Int32 := upd (upd (upd (upd (upd (fun _ => 0) 0 100) 1 3) 2 7) 3 3) 4 10
/-- a fresh state's memory -/
def sk_m0 (M : sk_M) (k : Nat) : Prop := (∀ i, k ≤ i → i < k + 43 → i ≠ k + 2 → M i = fun _ => 0) ∧ M (k + 2) = sk_s0
set_option maxHeartbeats 4000000 in
set_option maxRecDepth 100000 in
theorem j_X5 (l : Launch) {O : sk_O} {b : Nat} (had : ∀ i, sk_ad O i = b + i) (M : sk_M) (k : Nat) (E : Nat → va_E) (hk : sk_isS O k) (hM : sk_m0 M k) (hE : E k = .inr (5, fsX5)) : sk_mk l yX5_init (sk_w yX5_init cX5_init 2 none) ({ frames := 2, cells := 42, slots := 737, locals := 32 }) O b k E (k + 1) (sk_ef O M k 43 E) (k + 43) := by
  refine sk_ji (by decide) rfl (by decide) (fun X A Q C hnm ret => ?_)
  refine y_aloadn C 0 dX5_init_0 rfl ?_
  refine y_obj C ml_X5_3_o oi_i oi_c ⟨by decide, by decide⟩ dX5_init_1 ?_
  refine y_aloadn C 0 dX5_init_4 rfl ?_
  refine y_iconst C 4 dX5_init_5 (by decide) ?_
  refine y_newq C cll_X5_9 C.2.2.2.2.2.1 2 (yc_2 C) (N := 4) (by decide) (by decide) (by decide) ⟨by decide, by decide⟩ dX5_init_6 ?_
  refine y_put C (k := k) (j := 0) kcl_X5 tyX5 tyX5_ok nmX5 (by omega) ((eu_n (by omega)).trans hE) (by decide) fl_X5_11 rfl hnm rfl (tyX5_ok 0 (by decide)) rfl rfl (by simp [fsX5]) dX5_init_9 ?_
  refine y_aloadn C 0 dX5_init_12 rfl ?_
  refine y_iconst C 5 dX5_init_13 (by decide) ?_
  refine y_newa C (atype := .int) (ty := .int) rfl arc_int 0 (yc_0 C) (N := 5) rfl (by decide) (by decide) (by decide) ⟨by decide, by decide⟩ dX5_init_14 ?_
  refine y_dup C dX5_init_16 rfl ?_
  refine y_iconst C 0 dX5_init_17 (by decide) ?_
  refine y_bipush C 100 dX5_init_18 (by decide) ?_
  refine y_iast C (k := k + 2) (by omega) eu_y 0 rfl (by decide) (by decide) dX5_init_20 ?_
  refine y_dup C dX5_init_21 rfl ?_
  refine y_iconst C 1 dX5_init_22 (by decide) ?_
  refine y_iconst C 3 dX5_init_23 (by decide) ?_
  refine y_iast C (k := k + 2) (by omega) eu_y 1 rfl (by decide) (by decide) dX5_init_24 ?_
  refine y_dup C dX5_init_25 rfl ?_
  refine y_iconst C 2 dX5_init_26 (by decide) ?_
  refine y_bipush C 7 dX5_init_27 (by decide) ?_
  refine y_iast C (k := k + 2) (by omega) eu_y 2 rfl (by decide) (by decide) dX5_init_29 ?_
  refine y_dup C dX5_init_30 rfl ?_
  refine y_iconst C 3 dX5_init_31 (by decide) ?_
  refine y_iconst C 3 dX5_init_32 (by decide) ?_
  refine y_iast C (k := k + 2) (by omega) eu_y 3 rfl (by decide) (by decide) dX5_init_33 ?_
  refine y_dup C dX5_init_34 rfl ?_
  refine y_iconst C 4 dX5_init_35 (by decide) ?_
  refine y_bipush C 10 dX5_init_36 (by decide) ?_
  refine y_iast C (k := k + 2) (by omega) eu_y 4 rfl (by decide) (by decide) dX5_init_38 ?_
  refine y_put C (k := k) (j := 1) kcl_X5 tyX5 tyX5_ok nmX5 (by omega) ((eu_n (by omega)).trans ((eu_n (by omega)).trans ((eu_n (by omega)).trans ((eu_n (by omega)).trans ((eu_n (by omega)).trans ((eu_n (by omega)).trans eu_y)))))) (by decide) fl_X5_17 rfl hnm rfl (tyX5_ok 1 (by decide)) rfl rfl (by simp [fsX5]) dX5_init_39 ?_
  refine y_iconst C 0 dX5_init_42 (by decide) ?_
  refine y_istoren C [1, 0] [(0, .ref (b + k)), (1, .int (nI 0))] dX5_init_43 (by decide) rfl ?_
  have loop : ∀ (f s kc ks : Nat), s + f = 4 → kc ≤ 2 + 10 * s → ks ≤ 9 + 182 * s → sk_Y l X O A Q b (sk_es O M b k 3 5 2 4 (k + 3) 10 s [.ref (b + (k + 1)), .ref (b + (k + 2)), .int 0] E) 2 kc ks (k + 3 + 10 * s) 44 [(0, .ref (b + k)), (1, .int (nI s))] [] := by
    intro f
    induction f with
    | zero =>
      intro s kc ks hs hkc hks
      obtain rfl : s = 4 := by omega
      refine y_iloadn C 1 dX5_init_44 rfl ?_
      refine y_iconst C 4 dX5_init_45 (by decide) ?_
      refine y_cge C 68 dX5_init_46 (by decide) (fun _ => ?_) (fun h => absurd (show (4 : Int32) ≤ nI 4 by decide) h)
      refine y_eqv (E' := sk_ef O M k 43 E) (fun i hi H h => ?_) (ret _ _ _ _ _ (by show kc ≤ 42; omega) (by show ks ≤ 737; omega) (fun _ _ => rfl) dX5_init_68)
      by_cases h0 : i = k
      · subst h0
        rw [es_k] at h
        rw [ef_in (by omega)]
        have hs : sk_sh O i = _ := hk.1.2
        rw [hs, hM.1 i (by omega) (by omega) (by omega)]
        show va_at O.1 vwCl (b + i, Sum.inr (5, [.ref (sk_ad O (i + 1)), .ref (sk_ad O (i + 2)), .int 0])) H
        rw [had, had]
        exact h
      · by_cases h1 : i = k + 1
        · subst h1
          rw [es_1] at h
          rw [ef_in (by omega)]
          have hs : sk_sh O (k + 1) = _ := hk.2.1.1.2
          rw [hs]
          show H[b + (k + 1)]? = some (vp_cell (sk_cy O 2) (4, .inr (.inr (.inr (.inr (fun j => (sk_isS_programs k j).map (sk_ad O)))))))
          refine Eq.trans (show H[b + (k + 1)]? = some (vp_cell (sk_cy O 2) (4, .inr (.inr (.inr (.inr (sk_rf b (k + 3) 10 4)))))) from h) ?_
          rw [vp_cell_q, vp_cell_q]
          congr 1
          refine arrV_n (fun j hj => ?_)
          show va_rf (sk_rf b (k + 3) 10 4 j) = va_rf (some (sk_ad O (k + 3 + 10 * j)))
          unfold sk_rf
          rw [if_pos hj, had]
        · by_cases h2 : i < k
          · rw [es_o (Or.inl h2)] at h
            rw [ef_lt (Or.inl h2)]
            exact h
          · rw [es_i (by omega)] at h
            rw [ef_in (by omega)]
            exact h
    | succ f ih =>
      intro s kc ks hs hkc hks
      refine y_iloadn C 1 dX5_init_44 rfl ?_
      refine y_iconst C 4 dX5_init_45 (by decide) ?_
      refine y_cge C 68 dX5_init_46 (by decide) (fun h => absurd ((nI_leI (a := 4) (by decide) (by omega)).mp h) (by omega)) (fun _ => ?_)
      refine y_aloadn C 0 dX5_init_49 rfl ?_
      refine y_get C kcl_X5 (k := k) (j := 0) (by omega) es_k (by decide) fl_X5_11 rfl dX5_init_50 ?_
      refine y_iloadn C 1 dX5_init_53 rfl ?_
      refine y_new C kcl_X2 tyX2 tyX2_ok (fs := fsX2) (fun j hj => by rcases (show j = 0 ∨ j = 1 ∨ j = 2 ∨ j = 3 ∨ j = 4 ∨ j = 5 ∨ j = 6 ∨ j = 7 ∨ j = 8 ∨ j = 9 ∨ j = 10 by omega) with rfl | rfl | rfl | rfl | rfl | rfl | rfl | rfl | rfl | rfl | rfl <;> rfl) cll_X5_9 nw_X2 ini_SkateSheet_Program ⟨by show kc + 1 ≤ 42; omega, by show ks + 11 ≤ 737; omega⟩ dX5_init_54 ?_
      refine y_dup C dX5_init_57 rfl ?_
      refine y_ctor C yvX2_init rfl vjX2_init ml_X5_21 (j_X2 l had M (k + 3 + 10 * s) _ (hk.2.1.2 s (by omega)) (fun i h1 h2 => hM.1 i (by omega) (by omega) (by omega)) eu_y) (Nat.le_of_ble_eq_true rfl) ⟨⟨by decide, by decide⟩, by show kc + 1 + 9 ≤ 42; omega, by show ks + 11 + 171 ≤ 737; omega⟩ dX5_init_58 ?_
      refine y_aast C (k := k + 1) (v := k + 3 + 10 * s) (z := 2) (ci := 2) (N := 4) (r := (RX2, TX2, 11)) (by omega) ((ef_lt (by omega)).trans ((eu_n (by omega)).trans es_1)) rfl (by omega) ((ef_in (by omega)).trans (by rw [(hk.2.1.2 s (by omega)).1.2]; rfl)) kcl_X2.1 s rfl (by omega) (by decide) dX5_init_61 ?_
      refine y_iinc C 1 (nI (s + 1)) [1, 0] [(0, .ref (b + k)), (1, .int (nI (s + 1)))] dX5_init_62 rfl (nI_add s 1) (by decide) rfl ?_
      refine y_goto C 44 dX5_init_65 (by decide) ?_
      have h10 : k + 3 + 10 * s + 10 = k + 3 + 10 * (s + 1) := by omega
      rw [h10]
      refine y_eq (es_s (q := k + 3) (z := 10) (s := s) (by omega) (by decide)) ?_
      exact ih (s + 1) (kc + 1 + 9) (ks + 11 + 171) (by omega) (by omega) (by omega)
  refine y_eq (fun i hi => ?_) (loop 4 0 _ _ rfl (by decide) (by decide))
  by_cases h0 : i = k
  · subst h0
    rw [es_k]
    exact (eu_y.trans rfl).symm
  · by_cases h1 : i = k + 1
    · subst h1
      rw [es_1, rf_0]
      repeat rw [eu_n (by omega)]
      exact (eu_y.trans rfl).symm
    · by_cases h2 : i = k + 2
      · subst h2
        rw [es_i (by omega)]
        have hs : sk_sh O (k + 2) = _ := hk.2.2.2
        rw [hs, hM.2, eu_n (by omega)]
        exact (eu_y.trans rfl).symm
      · rw [es_o (by omega)]
        repeat rw [eu_n (by omega)]
