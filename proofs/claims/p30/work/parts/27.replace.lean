/-! SkateSheet: another element, what is needed -/
theorem pg_tl_x {M : sk_M} {k e f i a b : Nat} (h : a < k + 6 ∨ k + 9 ≤ a) (n : Nat) : pg_tl M k e f i n a b = M a b := by
  induction n with
  | zero => rfl
  | succ n ih =>
    unfold pg_tl
    rw [sk_nm (by omega), sk_nm (by omega), sk_nm (by omega), ih]
theorem pg_te_9 {M : sk_M} {k e f i : Nat} : pg_te M k e f i k 9 = M k 9 := by
  unfold pg_te pg_t0
  rw [pg_tl_x (by omega), sk_nm (by omega), sk_nm (by omega), sk_nm (by omega), sk_nm (by omega), sk_nm (by omega)]
theorem pg_te_2 {M : sk_M} {k e f i b : Nat} (h : k + 10 ≤ f ∨ f + 10 ≤ k) : pg_te M k e f i (k + 2) b = if b = e then M (f + 2) i else M (k + 2) b := by
  unfold pg_te pg_t0
  rw [pg_tl_x (by omega), sk_nm (by omega), sk_nm (by omega), sk_nm (by omega)]
  by_cases q : b = e
  · subst q
    rw [if_pos rfl, sk_sa, sk_nm (by omega)]
  · rw [if_neg q, sk_nm (by omega), sk_nm (by omega)]
theorem pg_wf_te {M : sk_M} {k e f i : Nat} (h : k + 10 ≤ f ∨ f + 10 ≤ k) (hf : ∃ p : Nat, p ≤ 3 ∧ M (f + 2) i = nI p) (hw : pg_wf M k) : pg_wf (pg_te M k e f i) k := by
  obtain ⟨N, h1, h2, h3⟩ := hw
  refine ⟨N, h1, by rw [pg_te_9]; exact h2, fun b hb => ?_⟩
  rw [pg_te_2 h]
  by_cases q : b = e
  · rw [if_pos q]; exact hf
  · rw [if_neg q]; exact h3 b hb
def x_ir (M : sk_M) (k : Nat) (s e : Int32) : sk_M := sc_ra (pg_te (pg_cf M (st_pg (k + 751) s) (st_pg (k + 1) s)) (st_pg (k + 751) s) e.toNatClampNeg (k + 794) 0) (k + 738) (st_pg (k + 751) s) (k + 3)
def x_rp (M : sk_M) (k n : Nat) (s e : Int32) (r : Int32) (M' : sk_M) : Prop := ∃ L M1, st_he M (k + 1) s e ∧ tt (tx (M (k + 737)) n) n = .inr L ∧ L.length = 1 ∧ sk_ph M1 (k + 794) L ∧ sk_fr (k + 736) (k + 794) M M1 ∧ r = x_ir M1 k s e (k + 738) 14 + x_ir M1 k s e (k + 738) 15 - x_ir M1 k s e (k + 738) 16 ∧ M' = x_ir M1 k s e
def x_rx (M : sk_M) (k n : Nat) (s e : Int32) (E : String) (M' : sk_M) : Prop := (E = "java/lang/IndexOutOfBoundsException" ∧ ¬ st_he M (k + 1) s e ∧ M' = M) ∨ (E = "java/lang/IllegalStateException" ∧ st_he M (k + 1) s e ∧ ((∃ x, tt (tx (M (k + 737)) n) n = .inl x) ∨ ∃ L, tt (tx (M (k + 737)) n) n = .inr L ∧ ¬ L.length = 1) ∧ sk_fr (k + 736) (k + 794) M M')
set_option maxHeartbeats 4000000 in
set_option maxRecDepth 100000 in
theorem m_X7_ifReplaced (l : Launch) {O : sk_O} (hO : sk_inj O) (M : sk_M) (k n : Nat) (s e : Int32) (hk : sk_isX O k) (hn : M (k + 736) 1 = nI n) (hn2 : n ≤ 120) (hw : st_wf M (k + 1)) (hst : l.stackTraces = false) : sk_Xi l yX7_ifReplaced (sk_w yX7_ifReplaced cX7_ifReplaced 4 (some .int)) ({ frames := 6, cells := 1, slots := 6, locals := 132 }) O [.ref (sk_ad O k), .int s, .int e] M (x_rp M k n s e) (x_rx M k n s e) := by
  refine sk_xi hst (by decide) rfl ⟨rfl, rfl⟩ hO (Nat.le_of_ble_eq_true rfl) (fun X A Q C hSr ret thr out => ?_)
  show sk_W l X O A Q 4 0 0 M 0 [(0, .ref (sk_ad O k)), (1, .int s), (2, .int e)] []
  obtain ⟨m, hm4, hm, hmj⟩ := id hw
  refine k_aloadn C 0 dX7_ifReplaced_0 rfl ?_
  refine k_getr C (j := 0) (k' := k + 1) kcl_X7 fl_X7_10 hk.1 (by decide) rfl dX7_ifReplaced_1 ?_
  refine k_iloadn C 1 dX7_ifReplaced_4 rfl ?_
  refine k_iloadn C 2 dX7_ifReplaced_5 rfl ?_
  refine k_vi C (as := [.int s, .int e]) yvX5_hasElement viX5_hasElement ml_X7_166 (m_X5_hasElement l C.2.2.2.1 M (k := k + 1) (hk := hk.2.1) (hw := hw) (s := s) (e := e)) hk.2.1.1 rfl rfl rfl (Nat.le_of_ble_eq_true rfl) (by decide) dX7_ifReplaced_6 (fun x6_1 M6_1 h6_1 => ?_)
  rw [h6_1.1, h6_1.2]
  refine k_zne C 22 dX7_ifReplaced_9 (by decide) (fun c9_2 => ?_) (fun c9_2 => ?_)
  ·
    have nc9_2 : st_he M (k + 1) s e := Classical.byContradiction (fun h => c9_2 (sk_b1.mpr h))
    obtain ⟨ix, ib⟩ := sk_ix nc9_2.1 hm (by omega)
    obtain ⟨N, hN12, hN, hNp⟩ := id (hmj _ ib)
    obtain ⟨ex, eb⟩ := sk_ix nc9_2.2 hN (by omega)
    refine k_aloadn C 0 dX7_ifReplaced_22 rfl ?_
    refine k_getr C (j := 4) (k' := k + 736) kcl_X7 fl_X7_34 hk.1 (by decide) rfl dX7_ifReplaced_23 ?_
    refine k_aloadn C 0 dX7_ifReplaced_26 rfl ?_
    refine k_getr C (j := 9) (k' := k + 794) kcl_X7 fl_X7_65 hk.1 (by decide) rfl dX7_ifReplaced_27 ?_
    refine k_vi C (as := [.ref (sk_ad O (k + 794))]) yvX6_readInto viX6_readInto ml_X7_93 (m_X6_readInto l C.2.2.2.1 M (t := k + 736) (n := n) (g := k + 794) (S := M (k + 737)) (ht := hk.2.2.2.2.2.1) (hS := rfl) (hn := hn) (hn2 := hn2) (hg := hk.2.2.2.2.2.2.2.2.2.2) (hap := (by omega))) hk.2.2.2.2.2.1.1 rfl rfl rfl (Nat.le_of_ble_eq_true rfl) (by decide) dX7_ifReplaced_30 (fun x30_3 M30_3 h30_3 => ?_)
    obtain ⟨M9, rfl⟩ : ∃ z, z = M30_3 := ⟨_, rfl⟩
    rcases h30_3 with ⟨x9, q1, rfl, q3⟩ | ⟨L, q1, rfl, q3, q4, q5⟩
    ·
      refine k_iconst C (-1) dX7_ifReplaced_33 (by decide) ?_
      refine k_cne C 48 dX7_ifReplaced_34 (by decide) (fun c34_4 => ?_) (fun c34_4 => ?_)
      ·
        refine thr "java/lang/IllegalStateException" "the text is not a program of one element" 80 299 84 _ _ _ xw_IllegalStateException (by decide +kernel) (by decide) dX7_ifReplaced_48 dX7_ifReplaced_51 (Or.inr ⟨dX7_ifReplaced_52, dX7_ifReplaced_55, dX7_ifReplaced_58⟩) ?_
        exact Or.inr ⟨rfl, nc9_2, Or.inl ⟨x9, q1⟩, q3⟩
      ·
        exact absurd c34_4 (sk_nm1 (by have := tt_el q1; omega)) --done
    ·
      have hw9 : st_wf M9 (k + 1) := st_wf_c (fun a h1 h2 => q5.1 _ (by omega) (by omega)) hw
      obtain ⟨m9, hm94, hm9, hmj9⟩ := hw9
      have e9 : m9 = m := by have h5 := (congrFun (q5.1 (k + 1) (by omega) (by omega)) 2).symm.trans hm9; rw [hm] at h5; exact ((nI_eq (by omega) (by omega)).mp h5).symm
      refine k_iconst C (-1) dX7_ifReplaced_33 (by decide) ?_
      refine k_cne C 48 dX7_ifReplaced_34 (by decide) (fun c34_5 => ?_) (fun c34_5 => ?_)
      ·
        exact absurd c34_5 (by decide)
      ·
        refine k_aloadn C 0 dX7_ifReplaced_37 rfl ?_
        refine k_getr C (j := 9) (k' := k + 794) kcl_X7 fl_X7_65 hk.1 (by decide) rfl dX7_ifReplaced_38 ?_
        refine k_geti C (j := 9) kcl_X2 fl_X7_145 hk.2.2.2.2.2.2.2.2.2.2.1 (by decide) rfl dX7_ifReplaced_41 ?_
        refine k_iconst C (1) dX7_ifReplaced_44 (by decide) ?_
        refine k_ceq C 59 dX7_ifReplaced_45 (by decide) (fun c45_6 => ?_) (fun c45_6 => ?_)
        ·
          have nc45_6 : L.length = 1 := (sk_qI (a := L.length) (b := 1) q3.1 (rfl : ((1) : Int32) = nI 1) (by omega) (by omega)).mp c45_6
          refine k_aloadn C 0 dX7_ifReplaced_59 rfl ?_
          refine k_getr C (j := 8) (k' := k + 751) kcl_X7 fl_X7_59 hk.1 (by decide) rfl dX7_ifReplaced_60 ?_
          refine k_getr C (j := 0) (k' := k + 752) kcl_X5 fl_X7_133 hk.2.2.2.2.2.2.2.2.2.1.1 (by decide) rfl dX7_ifReplaced_63 ?_
          refine k_iloadn C 1 dX7_ifReplaced_66 rfl ?_
          refine k_aald C (k' := k + 751 + 3 + 10 * s.toNatClampNeg) s.toNatClampNeg ((hk.2.2.2.2.2.2.2.2.2.1.2.1).1) (by decide) ix (by omega) rfl dX7_ifReplaced_67 ?_
          refine k_astoren C [1, 2, 3, 0] [(0, .ref (sk_ad O k)), (1, .int s), (2, .int e), (3, .ref (sk_ad O (k + 751 + 3 + 10 * s.toNatClampNeg)))] dX7_ifReplaced_68 (by decide) rfl ?_
          refine k_aloadn C 3 dX7_ifReplaced_69 rfl ?_
          refine k_aloadn C 0 dX7_ifReplaced_70 rfl ?_
          refine k_getr C (j := 0) (k' := k + 1) kcl_X7 fl_X7_10 hk.1 (by decide) rfl dX7_ifReplaced_71 ?_
          refine k_getr C (j := 0) (k' := k + 2) kcl_X5 fl_X7_133 hk.2.1.1 (by decide) rfl dX7_ifReplaced_74 ?_
          refine k_iloadn C 1 dX7_ifReplaced_77 rfl ?_
          refine k_aald C (k' := k + 1 + 3 + 10 * s.toNatClampNeg) s.toNatClampNeg ((hk.2.1.2.1).1) (by decide) ix (by omega) rfl dX7_ifReplaced_78 ?_
          refine k_vv C (as := [.ref (sk_ad O (k + 1 + 3 + 10 * s.toNatClampNeg))]) yvX2_copyFrom viX2_copyFrom ml_X7_296 (m_X2_copyFrom l C.2.2.2.1 M9 (k := k + 751 + 3 + 10 * s.toNatClampNeg) (f := k + 1 + 3 + 10 * s.toNatClampNeg) (hk := (hk.2.2.2.2.2.2.2.2.2.1.2.1).2 s.toNatClampNeg (by omega)) (hf := (hk.2.1.2.1).2 s.toNatClampNeg (by omega))) ((hk.2.2.2.2.2.2.2.2.2.1.2.1).2 s.toNatClampNeg (by omega)).1 rfl rfl rfl (Nat.le_of_ble_eq_true rfl) (by decide) dX7_ifReplaced_79 (fun M79_7 h79_7 => ?_)
          rw [h79_7]
          refine k_aloadn C 3 dX7_ifReplaced_82 rfl ?_
          refine k_iloadn C 2 dX7_ifReplaced_83 rfl ?_
          refine k_top (nI e.toNatClampNeg) ex ?_
          refine k_aloadn C 0 dX7_ifReplaced_84 rfl ?_
          refine k_getr C (j := 9) (k' := k + 794) kcl_X7 fl_X7_65 hk.1 (by decide) rfl dX7_ifReplaced_85 ?_
          refine k_iconst C (0) dX7_ifReplaced_88 (by decide) ?_
          refine k_vv C (as := [.int (nI e.toNatClampNeg), .ref (sk_ad O (k + 794)), .int (0)]) yvX2_takeElement viX2_takeElement ml_X7_301 (m_X2_takeElement l C.2.2.2.1 (pg_cf M9 (k + 751 + 3 + 10 * s.toNatClampNeg) (k + 1 + 3 + 10 * s.toNatClampNeg)) (k := k + 751 + 3 + 10 * s.toNatClampNeg) (e := e.toNatClampNeg) (f := k + 794) (i := 0) (hk := (hk.2.2.2.2.2.2.2.2.2.1.2.1).2 s.toNatClampNeg (by omega)) (hf := hk.2.2.2.2.2.2.2.2.2.2) (he := (by omega)) (hi := (by decide))) ((hk.2.2.2.2.2.2.2.2.2.1.2.1).2 s.toNatClampNeg (by omega)).1 rfl rfl rfl (Nat.le_of_ble_eq_true rfl) (by decide) dX7_ifReplaced_89 (fun M89_8 h89_8 => ?_)
          rw [h89_8]
          refine k_aloadn C 0 dX7_ifReplaced_92 rfl ?_
          refine k_getr C (j := 5) (k' := k + 738) kcl_X7 fl_X7_41 hk.1 (by decide) rfl dX7_ifReplaced_93 ?_
          refine k_aloadn C 3 dX7_ifReplaced_96 rfl ?_
          refine k_aloadn C 0 dX7_ifReplaced_97 rfl ?_
          refine k_getr C (j := 0) (k' := k + 1) kcl_X7 fl_X7_10 hk.1 (by decide) rfl dX7_ifReplaced_98 ?_
          refine k_getr C (j := 1) (k' := k + 3) kcl_X5 fl_X7_137 hk.2.1.1 (by decide) rfl dX7_ifReplaced_101 ?_
          refine k_vv C (as := [.ref (sk_ad O (k + 751 + 3 + 10 * s.toNatClampNeg)), .ref (sk_ad O (k + 3))]) yvX3_rate viX3_rate ml_X7_141 (m_X3_rate l C.2.2.2.1 (pg_te (pg_cf M9 (k + 751 + 3 + 10 * s.toNatClampNeg) (k + 1 + 3 + 10 * s.toNatClampNeg)) (k + 751 + 3 + 10 * s.toNatClampNeg) e.toNatClampNeg (k + 794) 0) (k := k + 738) (g := k + 751 + 3 + 10 * s.toNatClampNeg) (u := k + 3) (hk := hk.2.2.2.2.2.2.1) (hg := (hk.2.2.2.2.2.2.2.2.2.1.2.1).2 s.toNatClampNeg (by omega)) (hu := hk.2.1.2.2) (hw := (pg_wf_te (by omega) (by rw [pg_cf_f (by omega)]; obtain ⟨el, z1, z2⟩ := ph_len q3 (e := 0) (by omega); exact ⟨_, z2.2.2.1, z2.2.1⟩) (pg_wf_cf (by omega) (hmj9 _ (by omega))))) (hap := (by omega)) (hap2 := (by omega))) hk.2.2.2.2.2.2.1.1 rfl rfl rfl (Nat.le_of_ble_eq_true rfl) (by decide) dX7_ifReplaced_104 (fun M104_9 h104_9 => ?_)
          rw [h104_9]
          refine k_aloadn C 0 dX7_ifReplaced_107 rfl ?_
          refine k_getr C (j := 5) (k' := k + 738) kcl_X7 fl_X7_41 hk.1 (by decide) rfl dX7_ifReplaced_108 ?_
          refine k_vi C (as := []) yvX3_total viX3_total ml_X7_157 (m_X3_total l C.2.2.2.1 (sc_ra (pg_te (pg_cf M9 (k + 751 + 3 + 10 * s.toNatClampNeg) (k + 1 + 3 + 10 * s.toNatClampNeg)) (k + 751 + 3 + 10 * s.toNatClampNeg) e.toNatClampNeg (k + 794) 0) (k + 738) (k + 751 + 3 + 10 * s.toNatClampNeg) (k + 3)) (k := k + 738) (hk := hk.2.2.2.2.2.2.1)) hk.2.2.2.2.2.2.1.1 rfl rfl rfl (Nat.le_of_ble_eq_true rfl) (by decide) dX7_ifReplaced_111 (fun x111_10 M111_10 h111_10 => ?_)
          rw [h111_10.1, h111_10.2]
          refine ret _ _ _ _ _ _ (by decide) (by decide) dX7_ifReplaced_114 rfl ?_
          exact ⟨L, M9, nc9_2, q1, by omega, q3, q5, rfl, rfl⟩
        ·
          have nc45_6 : ¬ (L.length = 1) := fun h => c45_6 ((sk_qI (a := L.length) (b := 1) q3.1 (rfl : ((1) : Int32) = nI 1) (by omega) (by omega)).mpr h)
          refine thr "java/lang/IllegalStateException" "the text is not a program of one element" 80 299 84 _ _ _ xw_IllegalStateException (by decide +kernel) (by decide) dX7_ifReplaced_48 dX7_ifReplaced_51 (Or.inr ⟨dX7_ifReplaced_52, dX7_ifReplaced_55, dX7_ifReplaced_58⟩) ?_
          exact Or.inr ⟨rfl, nc9_2, Or.inr ⟨L, q1, nc45_6⟩, q5⟩
  ·
    have nc9_2 : ¬ (st_he M (k + 1) s e) := sk_b1.mp c9_2
    refine thr "java/lang/IndexOutOfBoundsException" "no such skater or element" 126 170 130 _ _ _ xw_IndexOutOfBoundsException (by decide +kernel) (by decide) dX7_ifReplaced_12 dX7_ifReplaced_15 (Or.inl ⟨dX7_ifReplaced_16, dX7_ifReplaced_18, dX7_ifReplaced_21⟩) ?_
    exact Or.inl ⟨rfl, nc9_2, rfl⟩
