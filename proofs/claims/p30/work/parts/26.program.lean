/-! SkateSheet: program, another element -/
theorem tcl_el {s : Nat → Int32} : ∀ (k a : Nat) (js : List sk_J) (x : Nat), tcl s k a js = .inl x → x ≤ a + 4 * k + 1
  | 0, a, js, x, h => by cases h
  | k + 1, a, js, x, h => by
    cases q : tj s a with
    | inl y => rw [tcl_e q] at h; cases h; have := (tj_el q).1; omega
    | inr y =>
      obtain ⟨b, j⟩ := y
      have hb := (tj_le q).1
      by_cases c : s b = 43 ∧ 0 < k
      · rw [tcl_y q c] at h
        have := tcl_el k _ _ _ h
        omega
      · rw [tcl_n q c] at h
        cases h
theorem te_el {s : Nat → Int32} {a x : Nat} (h : te s a = .inl x) : x ≤ a + 13 := by
  unfold te tlv tch at h
  split at h
  · split at h
    · cases h; omega
    · cases h
  · split at h
    · split at h
      · cases h; omega
      · cases h
    · split at h
      · cases h
        have := tcl_el _ _ _ _ (by assumption)
        omega
      · cases h
theorem tel_el {s : Nat → Int32} {n : Nat} : ∀ (k a : Nat) (L : List sk_E) (x : Nat), tel s n k a L = .inl x → x ≤ a + 13 * k + 13
  | 0, a, L, x, h => by
    unfold tel at h
    split at h
    · cases h
    · cases h; omega
  | k + 1, a, L, x, h => by
    cases q : te s a with
    | inl y => rw [tel_e q] at h; cases h; have := te_el q; omega
    | inr y =>
      obtain ⟨b, el⟩ := y
      have hb := te_le q
      by_cases c : s b = 59 ∧ 0 < k
      · rw [tel_y q c] at h
        have := tel_el k _ _ _ h
        omega
      · rw [tel_n q c] at h
        split at h
        · cases h
        · cases h; omega
theorem tt_el {s : Nat → Int32} {n x : Nat} (h : tt s n = .inl x) : x ≤ 200 := by
  have := tel_el _ _ _ _ h
  omega
def x_pp (M : sk_M) (k n o c : Nat) (s : Int32) (r : Int32) (M' : sk_M) : Prop := ∃ L M1, st_hs M (k + 1) s ∧ tt (tx (M (k + 737)) n) n = .inr L ∧ sk_ph M1 (k + 794) L ∧ L.length ≤ 12 ∧ sk_fr (k + 736) (k + 794) M M1 ∧ r = nI L.length ∧ M' = pg_ce (x_re M1 k o c) (st_pg (k + 1) s) (k + 794)
def x_px (M : sk_M) (k n : Nat) (s : Int32) (E : String) (M' : sk_M) : Prop := (E = "java/lang/IndexOutOfBoundsException" ∧ ¬ st_hs M (k + 1) s ∧ M' = M) ∨ (E = "java/lang/IllegalStateException" ∧ st_hs M (k + 1) s ∧ (∃ x, tt (tx (M (k + 737)) n) n = .inl x) ∧ sk_fr (k + 736) (k + 794) M M')
theorem pg_ce_9 {M : sk_M} {k f : Nat} (h : k ≠ f) : pg_ce M k f k 9 = M f 9 := by
  unfold pg_ce
  rw [sk_nc (by omega), sk_nc (by omega), sk_nc (by omega), sk_nc (by omega), sk_nc (by omega), sk_nc (by omega), sk_nc (by omega), sk_nc (by omega), sk_sa]
set_option maxHeartbeats 4000000 in
set_option maxRecDepth 100000 in
theorem m_X7_program (l : Launch) {O : sk_O} (hO : sk_inj O) (M : sk_M) (k n : Nat) (s : Int32) (hk : sk_isX O k) (hn : M (k + 736) 1 = nI n) (hn2 : n ≤ 120) (o c : Nat) (ho : M (k + 44) 1 = nI o) (hc : M (k + 44) 2 = nI c) (ho14 : o < 14) (hc14 : c ≤ 14) (hw : st_wf M (k + 1)) (hst : l.stackTraces = false) : sk_Xi l yX7_program (sk_w yX7_program cX7_program 3 (some .int)) ({ frames := 6, cells := 1, slots := 6, locals := 145 }) O [.ref (sk_ad O k), .int s] M (x_pp M k n o c s) (x_px M k n s) := by
  refine sk_xi hst (by decide) rfl ⟨rfl, rfl⟩ hO (Nat.le_of_ble_eq_true rfl) (fun X A Q C hSr ret thr out => ?_)
  show sk_W l X O A Q 3 0 0 M 0 [(0, .ref (sk_ad O k)), (1, .int s)] []
  obtain ⟨m, hm4, hm, hmj⟩ := id hw
  refine k_aloadn C 0 dX7_program_0 rfl ?_
  refine k_getr C (j := 0) (k' := k + 1) kcl_X7 fl_X7_10 hk.1 (by decide) rfl dX7_program_1 ?_
  refine k_iloadn C 1 dX7_program_4 rfl ?_
  refine k_vi C (as := [.int s]) yvX5_hasSkater viX5_hasSkater ml_X7_122 (m_X5_hasSkater l C.2.2.2.1 M (k := k + 1) (hk := hk.2.1) (s := s)) hk.2.1.1 rfl rfl rfl (Nat.le_of_ble_eq_true rfl) (by decide) dX7_program_5 (fun x5_1 M5_1 h5_1 => ?_)
  rw [h5_1.1, h5_1.2]
  refine k_zne C 21 dX7_program_8 (by decide) (fun c8_2 => ?_) (fun c8_2 => ?_)
  ·
    have nc8_2 : st_hs M (k + 1) s := Classical.byContradiction (fun h => c8_2 (sk_b1.mpr h))
    obtain ⟨ix, ib⟩ := sk_ix nc8_2 hm (by omega)
    refine k_aloadn C 0 dX7_program_21 rfl ?_
    refine k_getr C (j := 4) (k' := k + 736) kcl_X7 fl_X7_34 hk.1 (by decide) rfl dX7_program_22 ?_
    refine k_aloadn C 0 dX7_program_25 rfl ?_
    refine k_getr C (j := 9) (k' := k + 794) kcl_X7 fl_X7_65 hk.1 (by decide) rfl dX7_program_26 ?_
    refine k_vi C (as := [.ref (sk_ad O (k + 794))]) yvX6_readInto viX6_readInto ml_X7_93 (m_X6_readInto l C.2.2.2.1 M (t := k + 736) (n := n) (g := k + 794) (S := M (k + 737)) (ht := hk.2.2.2.2.2.1) (hS := rfl) (hn := hn) (hn2 := hn2) (hg := hk.2.2.2.2.2.2.2.2.2.2) (hap := (by omega))) hk.2.2.2.2.2.1.1 rfl rfl rfl (Nat.le_of_ble_eq_true rfl) (by decide) dX7_program_29 (fun x29_3 M29_3 h29_3 => ?_)
    obtain ⟨M9, rfl⟩ : ∃ z, z = M29_3 := ⟨_, rfl⟩
    rcases h29_3 with ⟨x9, q1, rfl, q3⟩ | ⟨L, q1, rfl, q3, q4, q5⟩
    ·
      refine k_iconst C (-1) dX7_program_32 (by decide) ?_
      refine k_ceq C 46 dX7_program_33 (by decide) (fun c33_4 => ?_) (fun c33_4 => ?_)
      ·
        exact absurd c33_4 (sk_nm1 (by have := tt_el q1; omega)) --done
      ·
        refine thr "java/lang/IllegalStateException" "the text is not a program" 80 230 84 _ _ _ xw_IllegalStateException (by decide +kernel) (by decide) dX7_program_36 dX7_program_39 (Or.inl ⟨dX7_program_40, dX7_program_42, dX7_program_45⟩) ?_
        exact Or.inr ⟨rfl, nc8_2, ⟨x9, q1⟩, q3⟩
    ·
      have ho9 : M9 (k + 44) 1 = nI o := by rw [q5.1 _ (by omega) (by omega)]; exact ho
      have hc9 : M9 (k + 44) 2 = nI c := by rw [q5.1 _ (by omega) (by omega)]; exact hc
      have hw9 : st_wf M9 (k + 1) := st_wf_c (fun a h1 h2 => q5.1 _ (by omega) (by omega)) hw
      refine k_iconst C (-1) dX7_program_32 (by decide) ?_
      refine k_ceq C 46 dX7_program_33 (by decide) (fun c33_5 => ?_) (fun c33_5 => ?_)
      ·
        refine k_aloadn C 0 dX7_program_46 rfl ?_
        refine k_getr C (j := 1) (k' := k + 44) kcl_X7 fl_X7_19 hk.1 (by decide) rfl dX7_program_47 ?_
        refine k_aloadn C 0 dX7_program_50 rfl ?_
        refine k_getr C (j := 0) (k' := k + 1) kcl_X7 fl_X7_10 hk.1 (by decide) rfl dX7_program_51 ?_
        refine k_vv C (as := [.ref (sk_ad O (k + 1))]) yvX1_remember viX1_remember ml_X7_223 (m_X1_remember l C.2.2.2.1 M9 (h := k + 44) (f := k + 1) (o := o) (c := c) (hh := hk.2.2.1) (hf := hk.2.1) (ho := ho9) (hc := hc9) (ho14 := ho14) (hc14 := hc14) (hw := hw9) (hap := (by omega))) hk.2.2.1.1 rfl rfl rfl (Nat.le_of_ble_eq_true rfl) (by decide) dX7_program_54 (fun M54_6 h54_6 => ?_)
        rw [h54_6]
        refine k_aloadn C 0 dX7_program_57 rfl ?_
        refine k_getr C (j := 0) (k' := k + 1) kcl_X7 fl_X7_10 hk.1 (by decide) rfl dX7_program_58 ?_
        refine k_getr C (j := 0) (k' := k + 2) kcl_X5 fl_X7_133 hk.2.1.1 (by decide) rfl dX7_program_61 ?_
        refine k_iloadn C 1 dX7_program_64 rfl ?_
        refine k_aald C (k' := k + 1 + 3 + 10 * s.toNatClampNeg) s.toNatClampNeg ((hk.2.1.2.1).1) (by decide) ix (by omega) rfl dX7_program_65 ?_
        refine k_astoren C [1, 2, 0] [(0, .ref (sk_ad O k)), (1, .int s), (2, .ref (sk_ad O (k + 1 + 3 + 10 * s.toNatClampNeg)))] dX7_program_66 (by decide) rfl ?_
        refine k_aloadn C 2 dX7_program_67 rfl ?_
        refine k_aloadn C 0 dX7_program_68 rfl ?_
        refine k_getr C (j := 9) (k' := k + 794) kcl_X7 fl_X7_65 hk.1 (by decide) rfl dX7_program_69 ?_
        refine k_vv C (as := [.ref (sk_ad O (k + 794))]) yvX2_copyElements viX2_copyElements ml_X7_232 (m_X2_copyElements l C.2.2.2.1 (x_re M9 k o c) (k := k + 1 + 3 + 10 * s.toNatClampNeg) (f := k + 794) (hk := (hk.2.1.2.1).2 s.toNatClampNeg (by omega)) (hf := hk.2.2.2.2.2.2.2.2.2.2)) ((hk.2.1.2.1).2 s.toNatClampNeg (by omega)).1 rfl rfl rfl (Nat.le_of_ble_eq_true rfl) (by decide) dX7_program_72 (fun M72_7 h72_7 => ?_)
        rw [h72_7]
        refine k_aloadn C 2 dX7_program_75 rfl ?_
        refine k_geti C (j := 9) kcl_X2 fl_X7_145 ((hk.2.1.2.1).2 s.toNatClampNeg (by omega)).1 (by decide) rfl dX7_program_76 ?_
        refine ret _ _ _ _ _ _ (by decide) (by decide) dX7_program_79 rfl ?_
        exact ⟨L, M9, nc8_2, q1, q3, q4, q5, by rw [pg_ce_9 (by omega), x_re, hs_re_f ho14 hc14 hw9 (by omega) (by omega)]; exact q3.1, rfl⟩
      ·
        exact absurd c33_5 (by decide)
  ·
    have nc8_2 : ¬ (st_hs M (k + 1) s) := sk_b1.mp c8_2
    refine thr "java/lang/IndexOutOfBoundsException" "no such skater" 126 128 130 _ _ _ xw_IndexOutOfBoundsException (by decide +kernel) (by decide) dX7_program_11 dX7_program_14 (Or.inl ⟨dX7_program_15, dX7_program_17, dX7_program_20⟩) ?_
    exact Or.inl ⟨rfl, nc8_2, rfl⟩
