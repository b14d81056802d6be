/-! The model: calls that ask -/
theorem mk_m_t {M : sk_M} {k a s n : Nat} : mk_m M k a s n k 16 = mo_te (M a) s n := by rw [mk_m, sk_ne (by omega), mk_l_t]
theorem mk_m_o {M : sk_M} {k a s n : Nat} : mk_m M k a s n k 18 = mo_of (M a) s n := by rw [mk_m, sk_ne (by omega), mk_l_o]
theorem mk_m_c {M : sk_M} {k a s n : Nat} : mk_m M k a s n k 17 = mo_cp (M a) s := by rw [mk_m, sk_sm]
theorem mk_m_y {M : sk_M} {k a s N e p : Nat} (hka : k < a ∧ a < k + 8) (hp : mo_pp (M a) s N) (he : e < N) (h2 : p < mo_n (M a) s e) : mk_m M k a s N (k + 9) (3 * e + p) = mo_wy (M a) s e p := by
  rw [mk_m, sk_ne (by omega), mk_l_y hka hp N (Nat.le_refl _) e p he h2]
def mj_l (M : sk_M) (k : Nat) : Nat → sk_M
  | 0 => sk_ms M k 0 0
  | i + 1 => mk_m (mj_l M k i) k (k + 2) i (mo_c (M (k + 2)) i)
theorem mj_l_f {M : sk_M} {k x : Nat} (h : x < k + 8 ∨ k + 14 ≤ x) (h2 : x ≠ k) (i : Nat) : mj_l M k i x = M x := by
  induction i with
  | zero => exact sk_nf h2
  | succ i ih => unfold mj_l; rw [mk_m_f h h2, ih]
theorem mo_g.mj {k : Nat} {M : sk_M} : ∀ i, mo_g k (sk_ms M k 0 0) (mj_l M k i)
  | 0 => mo_g.r
  | i + 1 => mo_g.mk (mo_g.mj i)
def mo_lp (r : Nat → Int32) (s e : Nat) : Nat → Nat
  | 0 => 0
  | p + 1 => mo_lp r s e p + if 0 < mo_wy r s e p then 1 else 0
def mo_lq (r : Nat → Int32) (s : Nat) : Nat → Nat
  | 0 => 0
  | e + 1 => mo_lq r s e + mo_lp r s e (mo_n r s e)
def mo_la (r : Nat → Int32) : Nat → Nat
  | 0 => 0
  | s + 1 => mo_la r s + mo_lq r s (mo_c r s)
def mo_ab (r : Nat → Int32) (m : Nat) (w : Int32) : Int32 :=
  if w = 0 then r 0 else if w = 1 then sk_sum (fun s => sk_sum (fun e => r (23 + 233 * s + 18 * e + 17)) (mo_c r s)) m else if w = 2 then sk_sum (fun s => sk_sum (fun e => r (23 + 233 * s + 18 * e + 16)) (mo_c r s)) m
  else if w = 3 then sk_sum (fun s => r (6 + 233 * s)) m else if w = 4 then mo_fv r m else nI (mo_la r m)
def mn_l (N : sk_M) (k s : Nat) (t u h z : Int32) : Nat → sk_M
  | 0 => N
  | i + 1 => sk_ms (sk_ms (mn_l N k s t u h z i) (k + 14) s (t - h + mo_gd (nd_k i * z))) (k + 15) s (u - h + mo_gd (nd_k i * z))
theorem mn_l_f {N : sk_M} {k s a : Nat} {t u h z : Int32} (ha : a < k + 14 ∨ k + 16 ≤ a) (i : Nat) : mn_l N k s t u h z i a = N a := by
  induction i with
  | zero => rfl
  | succ i ih => unfold mn_l; rw [sk_nf (by omega), sk_nf (by omega), ih]
theorem mn_l_o {N : sk_M} {k s q a : Nat} {t u h z : Int32} (hq : q ≠ s) (i : Nat) : mn_l N k s t u h z i a q = N a q := by
  induction i with
  | zero => rfl
  | succ i ih => unfold mn_l; rw [sk_ne (Or.inr hq), sk_ne (Or.inr hq), ih]
theorem mo_g.mn {k s : Nat} {t u h z : Int32} {M N : sk_M} (g : mo_g k M N) : ∀ i, mo_g k M (mn_l N k s t u h z i)
  | 0 => g
  | i + 1 => mo_g.w (by omega) (mo_g.w (by omega) (mo_g.mn g i))
def mn_T (r : Nat → Int32) (s e i q : Nat) : Int32 := if q = s then mo_T r s - mo_gr r s e + mo_gd (nd_k i * mo_sm r s e (mo_n r s e)) else mo_T r q
def mn_S (r : Nat → Int32) (s e i q : Nat) : Int32 := if q = s then mo_S r s - mo_gr r s e + mo_gd (nd_k i * mo_sm r s e (mo_n r s e)) else mo_S r q
def mo_nd (r : Nat → Int32) (s e m i : Nat) : Nat := mp_c (mn_T r s e i) (mn_S r s e i) s m
theorem mn_pl {N : sk_M} {r : Nat → Int32} {k s e m i : Nat} (hs : s < m) (hN : ∀ q, q < m → N (k + 14) q = mo_T r q ∧ N (k + 15) q = mo_S r q) : mp_c (mn_l N k s (mo_T r s) (mo_S r s) (mo_gr r s e) (mo_sm r s e (mo_n r s e)) (i + 1) (k + 14)) (mn_l N k s (mo_T r s) (mo_S r s) (mo_gr r s e) (mo_sm r s e (mo_n r s e)) (i + 1) (k + 15)) s m = mo_nd r s e m i := by
  have key : ∀ q, q < m → mn_l N k s (mo_T r s) (mo_S r s) (mo_gr r s e) (mo_sm r s e (mo_n r s e)) (i + 1) (k + 14) q = mn_T r s e i q ∧ mn_l N k s (mo_T r s) (mo_S r s) (mo_gr r s e) (mo_sm r s e (mo_n r s e)) (i + 1) (k + 15) q = mn_S r s e i q := by
    intro q hq
    unfold mn_T mn_S
    by_cases h : q = s
    · subst h
      rw [if_pos rfl, if_pos rfl]
      unfold mn_l
      exact ⟨by rw [sk_ne (by omega), sk_sm], by rw [sk_sm]⟩
    · rw [if_neg h, if_neg h, mn_l_o h, mn_l_o h]
      exact hN q hq
  exact mp_c_c key (key s hs)
def mo_nq (r : Nat → Int32) (s e m : Nat) (x : Int32) : Prop := (∃ i, i < 31 ∧ (∀ j, j < i → ¬ mo_nd r s e m j = 0) ∧ mo_nd r s e m i = 0 ∧ x = 100 + nd_k i) ∨ ((∀ j, j < 31 → ¬ mo_nd r s e m j = 0) ∧ x = -1)
def mo_nz (M : sk_M) (k : Nat) (s e : Int32) (m : Nat) (x : Int32) (M' : sk_M) : Prop := (¬ mo_he (M (k + 2)) s e ∧ x = 0 ∧ M' = sk_ms M k 0 (nI 1)) ∨ (mo_he (M (k + 2)) s e ∧ mo_nq (M (k + 2)) s.toNatClampNeg e.toNatClampNeg m x ∧ M' k 0 = 0 ∧ mo_fr k M M')
theorem mo_gz {k : Nat} {M M' : sk_M} (g : mo_g k (sk_ms M k 0 0) M') : M' k 0 = 0 ∧ mo_fr k M M' :=
  ⟨by rw [g.1, sk_sm], fun a h1 => by rw [g.2.1 a h1, sk_nf (by omega)], by rw [g.2.2.1, sk_ne (by omega)], by rw [g.2.2.2, sk_ne (by omega)]⟩
set_option maxHeartbeats 4000000 in
set_option maxRecDepth 100000 in
theorem m_X8_skater (l : Launch) {O : sk_O} (hO : sk_inj O) (M : sk_M) (k : Nat) (hk : sk_isM O k) (s w : Int32) (m : Nat) (hm4 : m ≤ 4) (hm : M (k + 2) 0 = nI m) (hmj : ∀ s, s < m → mo_wp (M (k + 2)) s) : sk_Mi l yX8_skater (sk_w yX8_skater cX8_skater 5 (some .int)) ({ frames := 11, cells := 0, slots := 0, locals := 267 }) O [.ref (sk_ad O k), .int s, .int w] M (mo_z M k (er_2 (mo_hs (M (k + 2)) s) (¬ w < 0 ∧ ¬ 7 < w)) (mo_sk (M (k + 2)) s.toNatClampNeg m w)) := by
  refine sk_mi (by decide) ⟨rfl, rfl⟩ hO (Nat.le_of_ble_eq_true rfl) (fun X A Q C ret => ?_)
  show sk_W l X O A Q 5 0 0 M 0 [(0, .ref (sk_ad O k)), (1, .int s), (2, .int w)] []
  have hw : mo_wf (M (k + 2)) := ⟨m, hm4, hm, hmj⟩
  refine k_aloadn C 0 dX8_skater_0 rfl ?_
  refine k_aloadn C 0 dX8_skater_1 rfl ?_
  refine k_getr C (j := 3) (k' := k + 2) kcl_X8 fl_X8_13 hk.1 (by decide) rfl dX8_skater_2 ?_
  refine k_iloadn C 1 dX8_skater_5 rfl ?_
  refine k_si C (as := [.ref (sk_ad O (k + 2)), .int s]) yvX8_isSkater vsX8_isSkater ml_X8_68 (m_X8_isSkater l C.2.2.2.1 M (a := k + 2) (ha := hk.2.2.1) (s := s) (hw := hw)) rfl rfl (Nat.le_of_ble_eq_true rfl) (by decide) dX8_skater_6 (fun x6_1 M6_1 h6_1 => ?_)
  rw [h6_1.1, h6_1.2]
  refine k_zne C 16 dX8_skater_9 (by decide) (fun c9_2 => ?_) (fun c9_2 => ?_)
  ·
    have nc9_2 : mo_hs (M (k + 2)) s := Classical.byContradiction (fun h => c9_2 (sk_b1.mpr h))
    obtain ⟨ix, ib⟩ := sk_ix nc9_2 hm (by omega)
    obtain ⟨N, hN12, hN, hNp⟩ := id (hmj _ ib)
    have hcN : mo_c (M (k + 2)) s.toNatClampNeg = N := (by show (M (k + 2) _).toNatClampNeg = N; rw [hN, nI_clamp (by omega)])
    rw [← hcN] at hN12 hN hNp
    refine k_iloadn C 2 dX8_skater_16 rfl ?_
    refine k_i2l C dX8_skater_17 ?_
    refine k_lconst C (0) dX8_skater_18 (by decide) ?_
    refine k_ldcl C kc_X8_208 dX8_skater_19 ?_
    refine k_si C (as := [.long w.toInt64, .long (0), .long (7)]) yvX8_in vsX8_in ml_X8_64 (m_X8_in l C.2.2.2.1 M (v := w.toInt64) (p := (0)) (q := (7))) rfl rfl (Nat.le_of_ble_eq_true rfl) (by decide) dX8_skater_22 (fun x22_3 M22_3 h22_3 => ?_)
    rw [h22_3.1, h22_3.2]
    refine k_zeq C 32 dX8_skater_25 (by decide) (fun c25_4 => ?_) (fun c25_4 => ?_)
    ·
      have nc25_4 : ¬ (¬ w.toInt64 < (0) ∧ ¬ (7) < w.toInt64) := sk_b1.mp c25_4
      refine k_iconst C (2) dX8_skater_32 (by decide) ?_
      refine k_vi C (as := [.int (2)]) yvX8_refused viX8_refused ml_X8_164 (m_X8_refused l C.2.2.2.1 M (k := k) (x := (2)) (hk := hk)) hk.1 rfl rfl rfl (Nat.le_of_ble_eq_true rfl) (by decide) dX8_skater_33 (fun x33_5 M33_5 h33_5 => ?_)
      rw [h33_5.1, h33_5.2]
      refine k_top (1) (by decide) ?_
      refine k_zeq C 41 dX8_skater_36 (by decide) (fun c36_6 => ?_) (fun c36_6 => ?_)
      ·
        exact absurd c36_6 (by decide)
      ·
        refine k_iconst C (0) dX8_skater_39 (by decide) ?_
        exact ret _ _ _ _ dX8_skater_40 rfl (by exact mo_z1 (i := 2) (er2m nc9_2 (fun h => nc25_4 ((in_k w 0 7 rfl rfl).mpr h))) (by decide))
    ·
      have nc25_4 : ¬ w.toInt64 < (0) ∧ ¬ (7) < w.toInt64 := Classical.byContradiction (fun h => c25_4 (sk_b1.mpr h))
      refine k_iconst C (0) dX8_skater_28 (by decide) ?_
      refine k_goto C 33 dX8_skater_29 (by decide) ?_
      refine k_vi C (as := [.int (0)]) yvX8_refused viX8_refused ml_X8_164 (m_X8_refused l C.2.2.2.1 M (k := k) (x := (0)) (hk := hk)) hk.1 rfl rfl rfl (Nat.le_of_ble_eq_true rfl) (by decide) dX8_skater_33 (fun x33_7 M33_7 h33_7 => ?_)
      rw [h33_7.1, h33_7.2]
      refine k_top (0) (by decide) ?_
      refine k_zeq C 41 dX8_skater_36 (by decide) (fun c36_8 => ?_) (fun c36_8 => ?_)
      ·
        refine k_aloadn C 0 dX8_skater_41 rfl ?_
        refine k_aloadn C 0 dX8_skater_42 rfl ?_
        refine k_getr C (j := 3) (k' := k + 2) kcl_X8 fl_X8_13 hk.1 (by decide) rfl dX8_skater_43 ?_
        refine k_vv C (as := [.ref (sk_ad O (k + 2))]) yvX8_reckonAll viX8_reckonAll ml_X8_149 (m_X8_reckonAll l C.2.2.2.1 (sk_ms M k 0 (0)) (k := k) (hk := hk) (a := k + 2) (ha := hk.2.2.1) (m := m) (hm4 := hm4) (hm := (by rw [sk_nf (by omega)]; exact hm)) (hmj := (by rw [sk_nf (by omega)]; exact hmj)) (hap := (by omega))) hk.1 rfl rfl rfl (Nat.le_of_ble_eq_true rfl) (by decide) dX8_skater_46 (fun M46_9 h46_9 => ?_)
        rw [h46_9]
        refine k_aloadn C 0 dX8_skater_49 rfl ?_
        refine k_aloadn C 0 dX8_skater_50 rfl ?_
        refine k_getr C (j := 3) (k' := k + 2) kcl_X8 fl_X8_13 hk.1 (by decide) rfl dX8_skater_51 ?_
        refine k_iloadn C 1 dX8_skater_54 rfl ?_
        refine k_vi C (as := [.ref (sk_ad O (k + 2)), .int s]) yvX8_place viX8_place ml_X8_153 (m_X8_place l C.2.2.2.1 (ml_l (sk_ms M k 0 (0)) k (k + 2) m) (k := k) (hk := hk) (a := k + 2) (ha := hk.2.2.1) (s := s.toNatClampNeg) (xs := s) (hxs := ix) (m := m) (hs := (by omega)) (hm4 := hm4) (hm := (by rw [ml_l_f (by omega) (by omega) _, sk_nf (by omega)]; exact hm))) hk.1 rfl rfl rfl (Nat.le_of_ble_eq_true rfl) (by decide) dX8_skater_55 (fun x55_10 M55_10 h55_10 => ?_)
        rw [h55_10.1, h55_10.2]
        refine k_top (nI (mo_pl (M (k + 2)) s.toNatClampNeg m)) (by rw [ml_pl ib, sk_nf (by omega)]) ?_
        refine k_istoren C [1, 2, 3, 0] [(0, .ref (sk_ad O k)), (1, .int s), (2, .int w), (3, .int (nI (mo_pl (M (k + 2)) s.toNatClampNeg m)))] dX8_skater_58 (by decide) rfl ?_
        refine k_aloadn C 0 dX8_skater_59 rfl ?_
        refine k_aloadn C 0 dX8_skater_60 rfl ?_
        refine k_getr C (j := 3) (k' := k + 2) kcl_X8 fl_X8_13 hk.1 (by decide) rfl dX8_skater_61 ?_
        refine k_iloadn C 1 dX8_skater_64 rfl ?_
        refine k_vi C (as := [.ref (sk_ad O (k + 2)), .int s]) yvX8_reckon viX8_reckon ml_X8_146 (m_X8_reckon l C.2.2.2.1 (ml_l (sk_ms M k 0 (0)) k (k + 2) m) (k := k) (hk := hk) (a := k + 2) (ha := hk.2.2.1) (s := s.toNatClampNeg) (xs := s) (hxs := ix) (N := mo_c (M (k + 2)) s.toNatClampNeg) (hs := (by omega)) (hN12 := hN12) (hN := (by rw [ml_l_f (by omega) (by omega) _, sk_nf (by omega)]; exact hN)) (hp := (by rw [ml_l_f (by omega) (by omega) _, sk_nf (by omega)]; exact hNp)) (hap := (by omega))) hk.1 rfl rfl rfl (Nat.le_of_ble_eq_true rfl) (by decide) dX8_skater_65 (fun x65_11 M65_11 h65_11 => ?_)
        rw [h65_11.1, h65_11.2]
        refine k_top (mo_to (M (k + 2)) s.toNatClampNeg (mo_c (M (k + 2)) s.toNatClampNeg)) (by rw [ml_l_f (by omega) (by omega) _, sk_nf (by omega)]) ?_
        refine k_istore C [1, 2, 3, 4, 0] [(0, .ref (sk_ad O k)), (1, .int s), (2, .int w), (3, .int (nI (mo_pl (M (k + 2)) s.toNatClampNeg m))), (4, .int (mo_to (M (k + 2)) s.toNatClampNeg (mo_c (M (k + 2)) s.toNatClampNeg)))] dX8_skater_68 (by decide) rfl ?_
        refine k_iloadn C 2 dX8_skater_70 rfl ?_
        by_cases c71_12_0 : w = (0 : Int32)
        ·
          refine k_top (0 : Int32) c71_12_0 ?_
          refine k_tin C 112 (41) dX8_skater_71 (by decide) (by decide) ?_
          refine k_aloadn C 0 dX8_skater_112 rfl ?_
          refine k_getr C (j := 3) (k' := k + 2) kcl_X8 fl_X8_13 hk.1 (by decide) rfl dX8_skater_113 ?_
          refine k_iloadn C 1 dX8_skater_116 rfl ?_
          refine k_si C (as := [.int s]) yvX8_skaterAt vsX8_skaterAt ml_X8_72 (m_X8_skaterAt l C.2.2.2.1 (mk_m (ml_l (sk_ms M k 0 (0)) k (k + 2) m) k (k + 2) s.toNatClampNeg (mo_c (M (k + 2)) s.toNatClampNeg)) (s := s.toNatClampNeg) (xs := s) (hxs := ix)) rfl rfl (Nat.le_of_ble_eq_true rfl) (by decide) dX8_skater_117 (fun x117_13 M117_13 h117_13 => ?_)
          rw [h117_13.1, h117_13.2]
          refine k_iconst C (0) dX8_skater_120 (by decide) ?_
          refine k_iadd C dX8_skater_121 ?_
          refine k_ialdn C (6 + 233 * s.toNatClampNeg) hk.2.2.1 (sk_nadd (b := 0) rfl (rfl : ((0) : Int32) = nI 0)) (by omega) dX8_skater_122 ?_
          refine k_top (M (k + 2) (6 + 233 * s.toNatClampNeg)) (by rw [mk_m_f (by omega) (by omega), ml_l_f (by omega) (by omega) _, sk_ne (by omega)]) ?_
          exact ret _ _ _ _ dX8_skater_123 rfl (by exact mo_z0 (er2p nc9_2 ((in_k w 0 7 rfl rfl).mp nc25_4)) (by rw [mo_sk, if_pos (show w = 0 from c71_12_0)]) (mo_g.mk (mo_g.ma mo_g.r _)))
        by_cases c71_12_1 : w = (1 : Int32)
        ·
          refine k_top (1 : Int32) c71_12_1 ?_
          refine k_tin C 124 (53) dX8_skater_71 (by decide) (by decide) ?_
          refine k_aloadn C 0 dX8_skater_124 rfl ?_
          refine k_geti C (j := 16) kcl_X8 fl_X8_129 hk.1 (by decide) rfl dX8_skater_125 ?_
          refine k_top (mo_S (M (k + 2)) s.toNatClampNeg) (by rw [mk_m_t, ml_l_f (by omega) (by omega) _, sk_nf (by omega)]) ?_
          exact ret _ _ _ _ dX8_skater_128 rfl (by exact mo_z0 (er2p nc9_2 ((in_k w 0 7 rfl rfl).mp nc25_4)) (by rw [mo_sk, if_neg (show ¬ (w = 0) from by rw [show w = 1 from c71_12_1]; decide), if_pos (show w = 1 from c71_12_1)]) (mo_g.mk (mo_g.ma mo_g.r _)))
        by_cases c71_12_2 : w = (2 : Int32)
        ·
          refine k_top (2 : Int32) c71_12_2 ?_
          refine k_tin C 129 (58) dX8_skater_71 (by decide) (by decide) ?_
          refine k_aloadn C 0 dX8_skater_129 rfl ?_
          refine k_geti C (j := 17) kcl_X8 fl_X8_143 hk.1 (by decide) rfl dX8_skater_130 ?_
          refine k_top (mo_cp (M (k + 2)) s.toNatClampNeg) (by rw [mk_m_c, ml_l_f (by omega) (by omega) _, sk_nf (by omega)]) ?_
          exact ret _ _ _ _ dX8_skater_133 rfl (by exact mo_z0 (er2p nc9_2 ((in_k w 0 7 rfl rfl).mp nc25_4)) (by rw [mo_sk, if_neg (show ¬ (w = 0) from by rw [show w = 2 from c71_12_2]; decide), if_neg (show ¬ (w = 1) from by rw [show w = 2 from c71_12_2]; decide), if_pos (show w = 2 from c71_12_2)]) (mo_g.mk (mo_g.ma mo_g.r _)))
        by_cases c71_12_3 : w = (3 : Int32)
        ·
          refine k_top (3 : Int32) c71_12_3 ?_
          refine k_tin C 134 (63) dX8_skater_71 (by decide) (by decide) ?_
          refine k_aloadn C 0 dX8_skater_134 rfl ?_
          refine k_geti C (j := 18) kcl_X8 fl_X8_132 hk.1 (by decide) rfl dX8_skater_135 ?_
          refine k_top (mo_of (M (k + 2)) s.toNatClampNeg (mo_c (M (k + 2)) s.toNatClampNeg)) (by rw [mk_m_o, ml_l_f (by omega) (by omega) _, sk_nf (by omega)]) ?_
          exact ret _ _ _ _ dX8_skater_138 rfl (by exact mo_z0 (er2p nc9_2 ((in_k w 0 7 rfl rfl).mp nc25_4)) (by rw [mo_sk, if_neg (show ¬ (w = 0) from by rw [show w = 3 from c71_12_3]; decide), if_neg (show ¬ (w = 1) from by rw [show w = 3 from c71_12_3]; decide), if_neg (show ¬ (w = 2) from by rw [show w = 3 from c71_12_3]; decide), if_pos (show w = 3 from c71_12_3)]) (mo_g.mk (mo_g.ma mo_g.r _)))
        by_cases c71_12_4 : w = (4 : Int32)
        ·
          refine k_top (4 : Int32) c71_12_4 ?_
          refine k_tin C 139 (68) dX8_skater_71 (by decide) (by decide) ?_
          refine k_iload C 4 dX8_skater_139 rfl ?_
          exact ret _ _ _ _ dX8_skater_141 rfl (by exact mo_z0 (er2p nc9_2 ((in_k w 0 7 rfl rfl).mp nc25_4)) (by rw [mo_sk, if_neg (show ¬ (w = 0) from by rw [show w = 4 from c71_12_4]; decide), if_neg (show ¬ (w = 1) from by rw [show w = 4 from c71_12_4]; decide), if_neg (show ¬ (w = 2) from by rw [show w = 4 from c71_12_4]; decide), if_neg (show ¬ (w = 3) from by rw [show w = 4 from c71_12_4]; decide), if_pos (show w = 4 from c71_12_4)]) (mo_g.mk (mo_g.ma mo_g.r _)))
        by_cases c71_12_5 : w = (5 : Int32)
        ·
          refine k_top (5 : Int32) c71_12_5 ?_
          refine k_tin C 142 (71) dX8_skater_71 (by decide) (by decide) ?_
          refine k_iloadn C 3 dX8_skater_142 rfl ?_
          exact ret _ _ _ _ dX8_skater_143 rfl (by exact mo_z0 (er2p nc9_2 ((in_k w 0 7 rfl rfl).mp nc25_4)) (by rw [mo_sk, if_neg (show ¬ (w = 0) from by rw [show w = 5 from c71_12_5]; decide), if_neg (show ¬ (w = 1) from by rw [show w = 5 from c71_12_5]; decide), if_neg (show ¬ (w = 2) from by rw [show w = 5 from c71_12_5]; decide), if_neg (show ¬ (w = 3) from by rw [show w = 5 from c71_12_5]; decide), if_neg (show ¬ (w = 4) from by rw [show w = 5 from c71_12_5]; decide), if_pos (show w = 5 from c71_12_5)]) (mo_g.mk (mo_g.ma mo_g.r _)))
        by_cases c71_12_6 : w = (6 : Int32)
        ·
          refine k_top (6 : Int32) c71_12_6 ?_
          refine k_tin C 144 (73) dX8_skater_71 (by decide) (by decide) ?_
          refine k_aloadn C 0 dX8_skater_144 rfl ?_
          refine k_getr C (j := 3) (k' := k + 2) kcl_X8 fl_X8_13 hk.1 (by decide) rfl dX8_skater_145 ?_
          refine k_iloadn C 1 dX8_skater_148 rfl ?_
          refine k_bipush C (16) dX8_skater_149 (by decide) ?_
          refine k_si C (as := [.ref (sk_ad O (k + 2)), .int s, .int (16)]) yvX8_sum vsX8_sum ml_X8_156 (m_X8_sum l C.2.2.2.1 (mk_m (ml_l (sk_ms M k 0 (0)) k (k + 2) m) k (k + 2) s.toNatClampNeg (mo_c (M (k + 2)) s.toNatClampNeg)) (a := k + 2) (ha := hk.2.2.1) (s := s.toNatClampNeg) (xs := s) (hxs := ix) (w := 16) (xw := (16)) (hxw := (rfl : ((16) : Int32) = nI 16)) (N := mo_c (M (k + 2)) s.toNatClampNeg) (hs := (by omega)) (hN12 := hN12) (hN := (by rw [mk_m_f (by omega) (by omega), ml_l_f (by omega) (by omega) _, sk_nf (by omega)]; exact hN)) (hw18 := (by decide))) rfl rfl (Nat.le_of_ble_eq_true rfl) (by decide) dX8_skater_151 (fun x151_14 M151_14 h151_14 => ?_)
          rw [h151_14.1, h151_14.2]
          refine k_top (sk_sum (fun e => M (k + 2) (23 + 233 * s.toNatClampNeg + 18 * e + 16)) (mo_c (M (k + 2)) s.toNatClampNeg)) (by rw [mk_m_f (by omega) (by omega), ml_l_f (by omega) (by omega) _, sk_nf (by omega)]) ?_
          exact ret _ _ _ _ dX8_skater_154 rfl (by exact mo_z0 (er2p nc9_2 ((in_k w 0 7 rfl rfl).mp nc25_4)) (by rw [mo_sk, if_neg (show ¬ (w = 0) from by rw [show w = 6 from c71_12_6]; decide), if_neg (show ¬ (w = 1) from by rw [show w = 6 from c71_12_6]; decide), if_neg (show ¬ (w = 2) from by rw [show w = 6 from c71_12_6]; decide), if_neg (show ¬ (w = 3) from by rw [show w = 6 from c71_12_6]; decide), if_neg (show ¬ (w = 4) from by rw [show w = 6 from c71_12_6]; decide), if_neg (show ¬ (w = 5) from by rw [show w = 6 from c71_12_6]; decide), if_pos (show w = 6 from c71_12_6)]) (mo_g.mk (mo_g.ma mo_g.r _)))
        have c71_12_0T : ¬ (w).toInt = 0 := fun h => c71_12_0 (sk_toI h)
        have c71_12_1T : ¬ (w).toInt = 1 := fun h => c71_12_1 (sk_toI h)
        have c71_12_2T : ¬ (w).toInt = 2 := fun h => c71_12_2 (sk_toI h)
        have c71_12_3T : ¬ (w).toInt = 3 := fun h => c71_12_3 (sk_toI h)
        have c71_12_4T : ¬ (w).toInt = 4 := fun h => c71_12_4 (sk_toI h)
        have c71_12_5T : ¬ (w).toInt = 5 := fun h => c71_12_5 (sk_toI h)
        have c71_12_6T : ¬ (w).toInt = 6 := fun h => c71_12_6 (sk_toI h)
        refine k_tout C 155 dX8_skater_71 (by omega) (by decide) ?_
        refine k_aloadn C 0 dX8_skater_155 rfl ?_
        refine k_getr C (j := 3) (k' := k + 2) kcl_X8 fl_X8_13 hk.1 (by decide) rfl dX8_skater_156 ?_
        refine k_iloadn C 1 dX8_skater_159 rfl ?_
        refine k_bipush C (17) dX8_skater_160 (by decide) ?_
        refine k_si C (as := [.ref (sk_ad O (k + 2)), .int s, .int (17)]) yvX8_sum vsX8_sum ml_X8_156 (m_X8_sum l C.2.2.2.1 (mk_m (ml_l (sk_ms M k 0 (0)) k (k + 2) m) k (k + 2) s.toNatClampNeg (mo_c (M (k + 2)) s.toNatClampNeg)) (a := k + 2) (ha := hk.2.2.1) (s := s.toNatClampNeg) (xs := s) (hxs := ix) (w := 17) (xw := (17)) (hxw := (rfl : ((17) : Int32) = nI 17)) (N := mo_c (M (k + 2)) s.toNatClampNeg) (hs := (by omega)) (hN12 := hN12) (hN := (by rw [mk_m_f (by omega) (by omega), ml_l_f (by omega) (by omega) _, sk_nf (by omega)]; exact hN)) (hw18 := (by decide))) rfl rfl (Nat.le_of_ble_eq_true rfl) (by decide) dX8_skater_162 (fun x162_15 M162_15 h162_15 => ?_)
        rw [h162_15.1, h162_15.2]
        refine k_top (sk_sum (fun e => M (k + 2) (23 + 233 * s.toNatClampNeg + 18 * e + 17)) (mo_c (M (k + 2)) s.toNatClampNeg)) (by rw [mk_m_f (by omega) (by omega), ml_l_f (by omega) (by omega) _, sk_nf (by omega)]) ?_
        exact ret _ _ _ _ dX8_skater_165 rfl (by exact mo_z0 (er2p nc9_2 ((in_k w 0 7 rfl rfl).mp nc25_4)) (by rw [mo_sk, if_neg (show ¬ (w = 0) from c71_12_0), if_neg (show ¬ (w = 1) from c71_12_1), if_neg (show ¬ (w = 2) from c71_12_2), if_neg (show ¬ (w = 3) from c71_12_3), if_neg (show ¬ (w = 4) from c71_12_4), if_neg (show ¬ (w = 5) from c71_12_5), if_neg (show ¬ (w = 6) from c71_12_6)]) (mo_g.mk (mo_g.ma mo_g.r _)))
      ·
        exact absurd c36_8 (by decide)
  ·
    have nc9_2 : ¬ (mo_hs (M (k + 2)) s) := sk_b1.mp c9_2
    refine k_iconst C (1) dX8_skater_12 (by decide) ?_
    refine k_goto C 33 dX8_skater_13 (by decide) ?_
    refine k_vi C (as := [.int (1)]) yvX8_refused viX8_refused ml_X8_164 (m_X8_refused l C.2.2.2.1 M (k := k) (x := (1)) (hk := hk)) hk.1 rfl rfl rfl (Nat.le_of_ble_eq_true rfl) (by decide) dX8_skater_33 (fun x33_16 M33_16 h33_16 => ?_)
    rw [h33_16.1, h33_16.2]
    refine k_top (1) (by decide) ?_
    refine k_zeq C 41 dX8_skater_36 (by decide) (fun c36_17 => ?_) (fun c36_17 => ?_)
    ·
      exact absurd c36_17 (by decide)
    ·
      refine k_iconst C (0) dX8_skater_39 (by decide) ?_
      exact ret _ _ _ _ dX8_skater_40 rfl (by exact mo_z1 (i := 1) (er2n nc9_2) (by decide))

set_option maxHeartbeats 4000000 in
set_option maxRecDepth 100000 in
theorem m_X8_element (l : Launch) {O : sk_O} (hO : sk_inj O) (M : sk_M) (k : Nat) (hk : sk_isM O k) (s e w : Int32) (m : Nat) (hm4 : m ≤ 4) (hm : M (k + 2) 0 = nI m) (hmj : ∀ s, s < m → mo_wp (M (k + 2)) s) : sk_Mi l yX8_element (sk_w yX8_element cX8_element 5 (some .int)) ({ frames := 9, cells := 0, slots := 0, locals := 222 }) O [.ref (sk_ad O k), .int s, .int e, .int w] M (mo_z M k (er_2 (mo_he (M (k + 2)) s e) (¬ w < 0 ∧ ¬ 8 < w)) (mo_el (M (k + 2)) s.toNatClampNeg e.toNatClampNeg w)) := by
  refine sk_mi (by decide) ⟨rfl, rfl⟩ hO (Nat.le_of_ble_eq_true rfl) (fun X A Q C ret => ?_)
  show sk_W l X O A Q 5 0 0 M 0 [(0, .ref (sk_ad O k)), (1, .int s), (2, .int e), (3, .int w)] []
  have hw : mo_wf (M (k + 2)) := ⟨m, hm4, hm, hmj⟩
  refine k_aloadn C 0 dX8_element_0 rfl ?_
  refine k_aloadn C 0 dX8_element_1 rfl ?_
  refine k_getr C (j := 3) (k' := k + 2) kcl_X8 fl_X8_13 hk.1 (by decide) rfl dX8_element_2 ?_
  refine k_iloadn C 1 dX8_element_5 rfl ?_
  refine k_iloadn C 2 dX8_element_6 rfl ?_
  refine k_si C (as := [.ref (sk_ad O (k + 2)), .int s, .int e]) yvX8_isElement vsX8_isElement ml_X8_76 (m_X8_isElement l C.2.2.2.1 M (a := k + 2) (ha := hk.2.2.1) (s := s) (e := e) (hw := hw)) rfl rfl (Nat.le_of_ble_eq_true rfl) (by decide) dX8_element_7 (fun x7_1 M7_1 h7_1 => ?_)
  rw [h7_1.1, h7_1.2]
  refine k_zne C 17 dX8_element_10 (by decide) (fun c10_2 => ?_) (fun c10_2 => ?_)
  ·
    have nc10_2 : mo_he (M (k + 2)) s e := Classical.byContradiction (fun h => c10_2 (sk_b1.mpr h))
    obtain ⟨ix, ib⟩ := sk_ix nc10_2.1 hm (by omega)
    obtain ⟨N, hN12, hN, hNp⟩ := id (hmj _ ib)
    have hcN : mo_c (M (k + 2)) s.toNatClampNeg = N := (by show (M (k + 2) _).toNatClampNeg = N; rw [hN, nI_clamp (by omega)])
    rw [← hcN] at hN12 hN hNp
    obtain ⟨ex, eb⟩ := sk_ix nc10_2.2 hN (by omega)
    obtain ⟨hpe, hpe3⟩ := mo_nn hNp eb
    refine k_iloadn C 3 dX8_element_17 rfl ?_
    refine k_i2l C dX8_element_18 ?_
    refine k_lconst C (0) dX8_element_19 (by decide) ?_
    refine k_ldcl C kc_X8_210 dX8_element_20 ?_
    refine k_si C (as := [.long w.toInt64, .long (0), .long (8)]) yvX8_in vsX8_in ml_X8_64 (m_X8_in l C.2.2.2.1 M (v := w.toInt64) (p := (0)) (q := (8))) rfl rfl (Nat.le_of_ble_eq_true rfl) (by decide) dX8_element_23 (fun x23_3 M23_3 h23_3 => ?_)
    rw [h23_3.1, h23_3.2]
    refine k_zeq C 33 dX8_element_26 (by decide) (fun c26_4 => ?_) (fun c26_4 => ?_)
    ·
      have nc26_4 : ¬ (¬ w.toInt64 < (0) ∧ ¬ (8) < w.toInt64) := sk_b1.mp c26_4
      refine k_iconst C (2) dX8_element_33 (by decide) ?_
      refine k_vi C (as := [.int (2)]) yvX8_refused viX8_refused ml_X8_164 (m_X8_refused l C.2.2.2.1 M (k := k) (x := (2)) (hk := hk)) hk.1 rfl rfl rfl (Nat.le_of_ble_eq_true rfl) (by decide) dX8_element_34 (fun x34_5 M34_5 h34_5 => ?_)
      rw [h34_5.1, h34_5.2]
      refine k_top (1) (by decide) ?_
      refine k_zeq C 42 dX8_element_37 (by decide) (fun c37_6 => ?_) (fun c37_6 => ?_)
      ·
        exact absurd c37_6 (by decide)
      ·
        refine k_iconst C (0) dX8_element_40 (by decide) ?_
        exact ret _ _ _ _ dX8_element_41 rfl (by exact mo_z1 (i := 2) (er2m nc10_2 (fun h => nc26_4 ((in_k w 0 8 rfl rfl).mpr h))) (by decide))
    ·
      have nc26_4 : ¬ w.toInt64 < (0) ∧ ¬ (8) < w.toInt64 := Classical.byContradiction (fun h => c26_4 (sk_b1.mpr h))
      obtain ⟨wx, wb⟩ := mo_ix (m := 8) ((in_k w 0 8 rfl rfl).mp nc26_4) rfl (by omega)
      refine k_iconst C (0) dX8_element_29 (by decide) ?_
      refine k_goto C 34 dX8_element_30 (by decide) ?_
      refine k_vi C (as := [.int (0)]) yvX8_refused viX8_refused ml_X8_164 (m_X8_refused l C.2.2.2.1 M (k := k) (x := (0)) (hk := hk)) hk.1 rfl rfl rfl (Nat.le_of_ble_eq_true rfl) (by decide) dX8_element_34 (fun x34_7 M34_7 h34_7 => ?_)
      rw [h34_7.1, h34_7.2]
      refine k_top (0) (by decide) ?_
      refine k_zeq C 42 dX8_element_37 (by decide) (fun c37_8 => ?_) (fun c37_8 => ?_)
      ·
        refine k_aloadn C 0 dX8_element_42 rfl ?_
        refine k_aloadn C 0 dX8_element_43 rfl ?_
        refine k_getr C (j := 3) (k' := k + 2) kcl_X8 fl_X8_13 hk.1 (by decide) rfl dX8_element_44 ?_
        refine k_iloadn C 1 dX8_element_47 rfl ?_
        refine k_iloadn C 2 dX8_element_48 rfl ?_
        refine k_vv C (as := [.ref (sk_ad O (k + 2)), .int s, .int e]) yvX8_weigh viX8_weigh ml_X8_135 (m_X8_weigh l C.2.2.2.1 (sk_ms M k 0 (0)) (k := k) (hk := hk) (a := k + 2) (ha := hk.2.2.1) (s := s.toNatClampNeg) (xs := s) (hxs := ix) (e := e.toNatClampNeg) (xe := e) (hxe := ex) (hs := (by omega)) (he := (by omega)) (hp := (by intro q hq; have h9 := hNp q (by omega); rw [sk_nf (by omega)]; exact h9)) (hap := (by omega))) hk.1 rfl rfl rfl (Nat.le_of_ble_eq_true rfl) (by decide) dX8_element_49 (fun M49_9 h49_9 => ?_)
        rw [h49_9]
        refine k_iloadn C 1 dX8_element_52 rfl ?_
        refine k_iloadn C 2 dX8_element_53 rfl ?_
        refine k_si C (as := [.int s, .int e]) yvX8_elementAt vsX8_elementAt ml_X8_60 (m_X8_elementAt l C.2.2.2.1 (mw_m (sk_ms M k 0 (0)) k (k + 2) s.toNatClampNeg e.toNatClampNeg) (s := s.toNatClampNeg) (xs := s) (hxs := ix) (e := e.toNatClampNeg) (xe := e) (hxe := ex)) rfl rfl (Nat.le_of_ble_eq_true rfl) (by decide) dX8_element_54 (fun x54_10 M54_10 h54_10 => ?_)
        rw [h54_10.1, h54_10.2]
        refine k_istore C [1, 2, 3, 4, 0] [(0, .ref (sk_ad O k)), (1, .int s), (2, .int e), (3, .int w), (4, .int (nI (23 + 233 * s.toNatClampNeg + 18 * e.toNatClampNeg)))] dX8_element_57 (by decide) rfl ?_
        refine k_iloadn C 3 dX8_element_59 rfl ?_
        by_cases c60_11_0 : w = (0 : Int32)
        ·
          refine k_top (0 : Int32) c60_11_0 ?_
          refine k_tin C 108 (48) dX8_element_60 (by decide) (by decide) ?_
          refine k_aloadn C 0 dX8_element_108 rfl ?_
          refine k_getr C (j := 3) (k' := k + 2) kcl_X8 fl_X8_13 hk.1 (by decide) rfl dX8_element_109 ?_
          refine k_iload C 4 dX8_element_112 rfl ?_
          refine k_iloadn C 3 dX8_element_114 rfl ?_
          refine k_iadd C dX8_element_115 ?_
          refine k_ialdn C (23 + 233 * s.toNatClampNeg + 18 * e.toNatClampNeg + w.toNatClampNeg) hk.2.2.1 (sk_nadd (a := 23 + 233 * s.toNatClampNeg + 18 * e.toNatClampNeg) rfl wx) (by omega) dX8_element_116 ?_
          refine k_top (M (k + 2) (23 + 233 * s.toNatClampNeg + 18 * e.toNatClampNeg + w.toNatClampNeg)) (by rw [mw_m_f (by omega), sk_ne (by omega)]) ?_
          exact ret _ _ _ _ dX8_element_117 rfl (by exact mo_z0 (er2p nc10_2 ((in_k w 0 8 rfl rfl).mp nc26_4)) (by rw [mo_el, if_pos (show w = 0 from c60_11_0), show w = 0 from c60_11_0]; rfl) (mo_g.mw mo_g.r))
        by_cases c60_11_1 : w = (1 : Int32)
        ·
          refine k_top (1 : Int32) c60_11_1 ?_
          refine k_tin C 108 (48) dX8_element_60 (by decide) (by decide) ?_
          refine k_aloadn C 0 dX8_element_108 rfl ?_
          refine k_getr C (j := 3) (k' := k + 2) kcl_X8 fl_X8_13 hk.1 (by decide) rfl dX8_element_109 ?_
          refine k_iload C 4 dX8_element_112 rfl ?_
          refine k_iloadn C 3 dX8_element_114 rfl ?_
          refine k_iadd C dX8_element_115 ?_
          refine k_ialdn C (23 + 233 * s.toNatClampNeg + 18 * e.toNatClampNeg + w.toNatClampNeg) hk.2.2.1 (sk_nadd (a := 23 + 233 * s.toNatClampNeg + 18 * e.toNatClampNeg) rfl wx) (by omega) dX8_element_116 ?_
          refine k_top (M (k + 2) (23 + 233 * s.toNatClampNeg + 18 * e.toNatClampNeg + w.toNatClampNeg)) (by rw [mw_m_f (by omega), sk_ne (by omega)]) ?_
          exact ret _ _ _ _ dX8_element_117 rfl (by exact mo_z0 (er2p nc10_2 ((in_k w 0 8 rfl rfl).mp nc26_4)) (by rw [mo_el, if_neg (show ¬ (w = 0) from by rw [show w = 1 from c60_11_1]; decide), if_pos (show w = 1 from c60_11_1), show w = 1 from c60_11_1]; rfl) (mo_g.mw mo_g.r))
        by_cases c60_11_2 : w = (2 : Int32)
        ·
          refine k_top (2 : Int32) c60_11_2 ?_
          refine k_tin C 118 (58) dX8_element_60 (by decide) (by decide) ?_
          refine k_aloadn C 0 dX8_element_118 rfl ?_
          refine k_getr C (j := 12) (k' := k + 10) kcl_X8 fl_X8_38 hk.1 (by decide) rfl dX8_element_119 ?_
          refine k_iloadn C 2 dX8_element_122 rfl ?_
          refine k_ialdn C e.toNatClampNeg hk.2.2.2.2.2.2.2.2.2.2.1 ex (by omega) dX8_element_123 ?_
          refine k_top (mo_ba (M (k + 2)) s.toNatClampNeg e.toNatClampNeg) (by rw [mw_m_b, sk_nf (by omega)]) ?_
          exact ret _ _ _ _ dX8_element_124 rfl (by exact mo_z0 (er2p nc10_2 ((in_k w 0 8 rfl rfl).mp nc26_4)) (by rw [mo_el, if_neg (show ¬ (w = 0) from by rw [show w = 2 from c60_11_2]; decide), if_neg (show ¬ (w = 1) from by rw [show w = 2 from c60_11_2]; decide), if_pos (show w = 2 from c60_11_2)]) (mo_g.mw mo_g.r))
        by_cases c60_11_3 : w = (3 : Int32)
        ·
          refine k_top (3 : Int32) c60_11_3 ?_
          refine k_tin C 125 (65) dX8_element_60 (by decide) (by decide) ?_
          refine k_aloadn C 0 dX8_element_125 rfl ?_
          refine k_getr C (j := 13) (k' := k + 11) kcl_X8 fl_X8_41 hk.1 (by decide) rfl dX8_element_126 ?_
          refine k_iloadn C 2 dX8_element_129 rfl ?_
          refine k_ialdn C e.toNatClampNeg hk.2.2.2.2.2.2.2.2.2.2.2.1 ex (by omega) dX8_element_130 ?_
          refine k_top (mo_ke (M (k + 2)) (23 + 233 * s.toNatClampNeg + 18 * e.toNatClampNeg + 11)) (by rw [mw_m_k, sk_nf (by omega)]) ?_
          exact ret _ _ _ _ dX8_element_131 rfl (by exact mo_z0 (er2p nc10_2 ((in_k w 0 8 rfl rfl).mp nc26_4)) (by rw [mo_el, if_neg (show ¬ (w = 0) from by rw [show w = 3 from c60_11_3]; decide), if_neg (show ¬ (w = 1) from by rw [show w = 3 from c60_11_3]; decide), if_neg (show ¬ (w = 2) from by rw [show w = 3 from c60_11_3]; decide), if_pos (show w = 3 from c60_11_3)]) (mo_g.mw mo_g.r))
        by_cases c60_11_4 : w = (4 : Int32)
        ·
          refine k_top (4 : Int32) c60_11_4 ?_
          refine k_tin C 132 (72) dX8_element_60 (by decide) (by decide) ?_
          refine k_aloadn C 0 dX8_element_132 rfl ?_
          refine k_getr C (j := 14) (k' := k + 12) kcl_X8 fl_X8_44 hk.1 (by decide) rfl dX8_element_133 ?_
          refine k_iloadn C 2 dX8_element_136 rfl ?_
          refine k_ialdn C e.toNatClampNeg hk.2.2.2.2.2.2.2.2.2.2.2.2.1 ex (by omega) dX8_element_137 ?_
          refine k_top (mo_gr (M (k + 2)) s.toNatClampNeg e.toNatClampNeg) (by rw [mw_m_g, sk_nf (by omega)]) ?_
          exact ret _ _ _ _ dX8_element_138 rfl (by exact mo_z0 (er2p nc10_2 ((in_k w 0 8 rfl rfl).mp nc26_4)) (by rw [mo_el, if_neg (show ¬ (w = 0) from by rw [show w = 4 from c60_11_4]; decide), if_neg (show ¬ (w = 1) from by rw [show w = 4 from c60_11_4]; decide), if_neg (show ¬ (w = 2) from by rw [show w = 4 from c60_11_4]; decide), if_neg (show ¬ (w = 3) from by rw [show w = 4 from c60_11_4]; decide), if_pos (show w = 4 from c60_11_4)]) (mo_g.mw mo_g.r))
        by_cases c60_11_5 : w = (5 : Int32)
        ·
          refine k_top (5 : Int32) c60_11_5 ?_
          refine k_tin C 139 (79) dX8_element_60 (by decide) (by decide) ?_
          refine k_aloadn C 0 dX8_element_139 rfl ?_
          refine k_getr C (j := 12) (k' := k + 10) kcl_X8 fl_X8_38 hk.1 (by decide) rfl dX8_element_140 ?_
          refine k_iloadn C 2 dX8_element_143 rfl ?_
          refine k_ialdn C e.toNatClampNeg hk.2.2.2.2.2.2.2.2.2.2.1 ex (by omega) dX8_element_144 ?_
          refine k_top (mo_ba (M (k + 2)) s.toNatClampNeg e.toNatClampNeg) (by rw [mw_m_b, sk_nf (by omega)]) ?_
          refine k_aloadn C 0 dX8_element_145 rfl ?_
          refine k_getr C (j := 14) (k' := k + 12) kcl_X8 fl_X8_44 hk.1 (by decide) rfl dX8_element_146 ?_
          refine k_iloadn C 2 dX8_element_149 rfl ?_
          refine k_ialdn C e.toNatClampNeg hk.2.2.2.2.2.2.2.2.2.2.2.2.1 ex (by omega) dX8_element_150 ?_
          refine k_top (mo_gr (M (k + 2)) s.toNatClampNeg e.toNatClampNeg) (by rw [mw_m_g, sk_nf (by omega)]) ?_
          refine k_iadd C dX8_element_151 ?_
          exact ret _ _ _ _ dX8_element_152 rfl (by exact mo_z0 (er2p nc10_2 ((in_k w 0 8 rfl rfl).mp nc26_4)) (by rw [mo_el, if_neg (show ¬ (w = 0) from by rw [show w = 5 from c60_11_5]; decide), if_neg (show ¬ (w = 1) from by rw [show w = 5 from c60_11_5]; decide), if_neg (show ¬ (w = 2) from by rw [show w = 5 from c60_11_5]; decide), if_neg (show ¬ (w = 3) from by rw [show w = 5 from c60_11_5]; decide), if_neg (show ¬ (w = 4) from by rw [show w = 5 from c60_11_5]; decide), if_pos (show w = 5 from c60_11_5)]) (mo_g.mw mo_g.r))
        by_cases c60_11_6 : w = (6 : Int32)
        ·
          refine k_top (6 : Int32) c60_11_6 ?_
          refine k_tin C 153 (93) dX8_element_60 (by decide) (by decide) ?_
          refine k_aloadn C 0 dX8_element_153 rfl ?_
          refine k_getr C (j := 3) (k' := k + 2) kcl_X8 fl_X8_13 hk.1 (by decide) rfl dX8_element_154 ?_
          refine k_iload C 4 dX8_element_157 rfl ?_
          refine k_bipush C (16) dX8_element_159 (by decide) ?_
          refine k_iadd C dX8_element_161 ?_
          refine k_ialdn C (23 + 233 * s.toNatClampNeg + 18 * e.toNatClampNeg + 16) hk.2.2.1 (sk_nadd rfl (rfl : ((16) : Int32) = nI 16)) (by omega) dX8_element_162 ?_
          refine k_top (M (k + 2) (23 + 233 * s.toNatClampNeg + 18 * e.toNatClampNeg + 16)) (by rw [mw_m_f (by omega), sk_ne (by omega)]) ?_
          exact ret _ _ _ _ dX8_element_163 rfl (by exact mo_z0 (er2p nc10_2 ((in_k w 0 8 rfl rfl).mp nc26_4)) (by rw [mo_el, if_neg (show ¬ (w = 0) from by rw [show w = 6 from c60_11_6]; decide), if_neg (show ¬ (w = 1) from by rw [show w = 6 from c60_11_6]; decide), if_neg (show ¬ (w = 2) from by rw [show w = 6 from c60_11_6]; decide), if_neg (show ¬ (w = 3) from by rw [show w = 6 from c60_11_6]; decide), if_neg (show ¬ (w = 4) from by rw [show w = 6 from c60_11_6]; decide), if_neg (show ¬ (w = 5) from by rw [show w = 6 from c60_11_6]; decide), if_pos (show w = 6 from c60_11_6)]) (mo_g.mw mo_g.r))
        by_cases c60_11_7 : w = (7 : Int32)
        ·
          refine k_top (7 : Int32) c60_11_7 ?_
          refine k_tin C 164 (104) dX8_element_60 (by decide) (by decide) ?_
          refine k_aloadn C 0 dX8_element_164 rfl ?_
          refine k_getr C (j := 3) (k' := k + 2) kcl_X8 fl_X8_13 hk.1 (by decide) rfl dX8_element_165 ?_
          refine k_iload C 4 dX8_element_168 rfl ?_
          refine k_bipush C (17) dX8_element_170 (by decide) ?_
          refine k_iadd C dX8_element_172 ?_
          refine k_ialdn C (23 + 233 * s.toNatClampNeg + 18 * e.toNatClampNeg + 17) hk.2.2.1 (sk_nadd rfl (rfl : ((17) : Int32) = nI 17)) (by omega) dX8_element_173 ?_
          refine k_top (M (k + 2) (23 + 233 * s.toNatClampNeg + 18 * e.toNatClampNeg + 17)) (by rw [mw_m_f (by omega), sk_ne (by omega)]) ?_
          exact ret _ _ _ _ dX8_element_174 rfl (by exact mo_z0 (er2p nc10_2 ((in_k w 0 8 rfl rfl).mp nc26_4)) (by rw [mo_el, if_neg (show ¬ (w = 0) from by rw [show w = 7 from c60_11_7]; decide), if_neg (show ¬ (w = 1) from by rw [show w = 7 from c60_11_7]; decide), if_neg (show ¬ (w = 2) from by rw [show w = 7 from c60_11_7]; decide), if_neg (show ¬ (w = 3) from by rw [show w = 7 from c60_11_7]; decide), if_neg (show ¬ (w = 4) from by rw [show w = 7 from c60_11_7]; decide), if_neg (show ¬ (w = 5) from by rw [show w = 7 from c60_11_7]; decide), if_neg (show ¬ (w = 6) from by rw [show w = 7 from c60_11_7]; decide), if_pos (show w = 7 from c60_11_7)]) (mo_g.mw mo_g.r))
        have c60_11_0T : ¬ (w).toInt = 0 := fun h => c60_11_0 (sk_toI h)
        have c60_11_1T : ¬ (w).toInt = 1 := fun h => c60_11_1 (sk_toI h)
        have c60_11_2T : ¬ (w).toInt = 2 := fun h => c60_11_2 (sk_toI h)
        have c60_11_3T : ¬ (w).toInt = 3 := fun h => c60_11_3 (sk_toI h)
        have c60_11_4T : ¬ (w).toInt = 4 := fun h => c60_11_4 (sk_toI h)
        have c60_11_5T : ¬ (w).toInt = 5 := fun h => c60_11_5 (sk_toI h)
        have c60_11_6T : ¬ (w).toInt = 6 := fun h => c60_11_6 (sk_toI h)
        have c60_11_7T : ¬ (w).toInt = 7 := fun h => c60_11_7 (sk_toI h)
        refine k_tout C 175 dX8_element_60 (by omega) (by decide) ?_
        refine k_aloadn C 0 dX8_element_175 rfl ?_
        refine k_getr C (j := 15) (k' := k + 13) kcl_X8 fl_X8_47 hk.1 (by decide) rfl dX8_element_176 ?_
        refine k_iloadn C 2 dX8_element_179 rfl ?_
        refine k_ialdn C e.toNatClampNeg hk.2.2.2.2.2.2.2.2.2.2.2.2.2.1 ex (by omega) dX8_element_180 ?_
        refine k_top (if mo_bn (M (k + 2)) s.toNatClampNeg e.toNatClampNeg then 1 else 0) (by rw [mw_m_n, sk_nf (by omega)]) ?_
        exact ret _ _ _ _ dX8_element_181 rfl (by exact mo_z0 (er2p nc10_2 ((in_k w 0 8 rfl rfl).mp nc26_4)) (by rw [mo_el, if_neg (show ¬ (w = 0) from c60_11_0), if_neg (show ¬ (w = 1) from c60_11_1), if_neg (show ¬ (w = 2) from c60_11_2), if_neg (show ¬ (w = 3) from c60_11_3), if_neg (show ¬ (w = 4) from c60_11_4), if_neg (show ¬ (w = 5) from c60_11_5), if_neg (show ¬ (w = 6) from c60_11_6), if_neg (show ¬ (w = 7) from c60_11_7)]) (mo_g.mw mo_g.r))
      ·
        exact absurd c37_8 (by decide)
  ·
    have nc10_2 : ¬ (mo_he (M (k + 2)) s e) := sk_b1.mp c10_2
    refine k_iconst C (1) dX8_element_13 (by decide) ?_
    refine k_goto C 34 dX8_element_14 (by decide) ?_
    refine k_vi C (as := [.int (1)]) yvX8_refused viX8_refused ml_X8_164 (m_X8_refused l C.2.2.2.1 M (k := k) (x := (1)) (hk := hk)) hk.1 rfl rfl rfl (Nat.le_of_ble_eq_true rfl) (by decide) dX8_element_34 (fun x34_12 M34_12 h34_12 => ?_)
    rw [h34_12.1, h34_12.2]
    refine k_top (1) (by decide) ?_
    refine k_zeq C 42 dX8_element_37 (by decide) (fun c37_13 => ?_) (fun c37_13 => ?_)
    ·
      exact absurd c37_13 (by decide)
    ·
      refine k_iconst C (0) dX8_element_40 (by decide) ?_
      exact ret _ _ _ _ dX8_element_41 rfl (by exact mo_z1 (i := 1) (er2n nc10_2) (by decide))

set_option maxHeartbeats 4000000 in
set_option maxRecDepth 100000 in
theorem m_X8_part (l : Launch) {O : sk_O} (hO : sk_inj O) (M : sk_M) (k : Nat) (hk : sk_isM O k) (s e p w : Int32) (m : Nat) (hm4 : m ≤ 4) (hm : M (k + 2) 0 = nI m) (hmj : ∀ s, s < m → mo_wp (M (k + 2)) s) : sk_Mi l yX8_part (sk_w yX8_part cX8_part 5 (some .int)) ({ frames := 9, cells := 0, slots := 0, locals := 222 }) O [.ref (sk_ad O k), .int s, .int e, .int p, .int w] M (mo_z M k (er_2 (mo_hp (M (k + 2)) s e p) (¬ w < 0 ∧ ¬ 4 < w)) (mo_pa (M (k + 2)) s.toNatClampNeg e.toNatClampNeg p.toNatClampNeg w)) := by
  refine sk_mi (by decide) ⟨rfl, rfl⟩ hO (Nat.le_of_ble_eq_true rfl) (fun X A Q C ret => ?_)
  show sk_W l X O A Q 5 0 0 M 0 [(0, .ref (sk_ad O k)), (1, .int s), (2, .int e), (3, .int p), (4, .int w)] []
  have hw : mo_wf (M (k + 2)) := ⟨m, hm4, hm, hmj⟩
  refine k_aloadn C 0 dX8_part_0 rfl ?_
  refine k_aloadn C 0 dX8_part_1 rfl ?_
  refine k_getr C (j := 3) (k' := k + 2) kcl_X8 fl_X8_13 hk.1 (by decide) rfl dX8_part_2 ?_
  refine k_iloadn C 1 dX8_part_5 rfl ?_
  refine k_iloadn C 2 dX8_part_6 rfl ?_
  refine k_iloadn C 3 dX8_part_7 rfl ?_
  refine k_si C (as := [.ref (sk_ad O (k + 2)), .int s, .int e, .int p]) yvX8_isPart vsX8_isPart ml_X8_212 (m_X8_isPart l C.2.2.2.1 M (a := k + 2) (ha := hk.2.2.1) (s := s) (e := e) (p := p) (hw := hw)) rfl rfl (Nat.le_of_ble_eq_true rfl) (by decide) dX8_part_8 (fun x8_1 M8_1 h8_1 => ?_)
  rw [h8_1.1, h8_1.2]
  refine k_zne C 18 dX8_part_11 (by decide) (fun c11_2 => ?_) (fun c11_2 => ?_)
  ·
    have nc11_2 : mo_hp (M (k + 2)) s e p := Classical.byContradiction (fun h => c11_2 (sk_b1.mpr h))
    obtain ⟨ix, ib⟩ := sk_ix nc11_2.1.1 hm (by omega)
    obtain ⟨N, hN12, hN, hNp⟩ := id (hmj _ ib)
    have hcN : mo_c (M (k + 2)) s.toNatClampNeg = N := (by show (M (k + 2) _).toNatClampNeg = N; rw [hN, nI_clamp (by omega)])
    rw [← hcN] at hN12 hN hNp
    obtain ⟨ex, eb⟩ := sk_ix nc11_2.1.2 hN (by omega)
    obtain ⟨hpe, hpe3⟩ := mo_nn hNp eb
    obtain ⟨px, pb⟩ := sk_ix nc11_2.2 hpe (by omega)
    refine k_iload C 4 dX8_part_18 rfl ?_
    refine k_i2l C dX8_part_20 ?_
    refine k_lconst C (0) dX8_part_21 (by decide) ?_
    refine k_ldcl C kc_X8_216 dX8_part_22 ?_
    refine k_si C (as := [.long w.toInt64, .long (0), .long (4)]) yvX8_in vsX8_in ml_X8_64 (m_X8_in l C.2.2.2.1 M (v := w.toInt64) (p := (0)) (q := (4))) rfl rfl (Nat.le_of_ble_eq_true rfl) (by decide) dX8_part_25 (fun x25_3 M25_3 h25_3 => ?_)
    rw [h25_3.1, h25_3.2]
    refine k_zeq C 35 dX8_part_28 (by decide) (fun c28_4 => ?_) (fun c28_4 => ?_)
    ·
      have nc28_4 : ¬ (¬ w.toInt64 < (0) ∧ ¬ (4) < w.toInt64) := sk_b1.mp c28_4
      refine k_iconst C (2) dX8_part_35 (by decide) ?_
      refine k_vi C (as := [.int (2)]) yvX8_refused viX8_refused ml_X8_164 (m_X8_refused l C.2.2.2.1 M (k := k) (x := (2)) (hk := hk)) hk.1 rfl rfl rfl (Nat.le_of_ble_eq_true rfl) (by decide) dX8_part_36 (fun x36_5 M36_5 h36_5 => ?_)
      rw [h36_5.1, h36_5.2]
      refine k_top (1) (by decide) ?_
      refine k_zeq C 44 dX8_part_39 (by decide) (fun c39_6 => ?_) (fun c39_6 => ?_)
      ·
        exact absurd c39_6 (by decide)
      ·
        refine k_iconst C (0) dX8_part_42 (by decide) ?_
        exact ret _ _ _ _ dX8_part_43 rfl (by exact mo_z1 (i := 2) (er2m nc11_2 (fun h => nc28_4 ((in_k w 0 4 rfl rfl).mpr h))) (by decide))
    ·
      have nc28_4 : ¬ w.toInt64 < (0) ∧ ¬ (4) < w.toInt64 := Classical.byContradiction (fun h => c28_4 (sk_b1.mpr h))
      obtain ⟨wx, wb⟩ := mo_ix (m := 4) ((in_k w 0 4 rfl rfl).mp nc28_4) rfl (by omega)
      refine k_iconst C (0) dX8_part_31 (by decide) ?_
      refine k_goto C 36 dX8_part_32 (by decide) ?_
      refine k_vi C (as := [.int (0)]) yvX8_refused viX8_refused ml_X8_164 (m_X8_refused l C.2.2.2.1 M (k := k) (x := (0)) (hk := hk)) hk.1 rfl rfl rfl (Nat.le_of_ble_eq_true rfl) (by decide) dX8_part_36 (fun x36_7 M36_7 h36_7 => ?_)
      rw [h36_7.1, h36_7.2]
      refine k_top (0) (by decide) ?_
      refine k_zeq C 44 dX8_part_39 (by decide) (fun c39_8 => ?_) (fun c39_8 => ?_)
      ·
        refine k_aloadn C 0 dX8_part_44 rfl ?_
        refine k_aloadn C 0 dX8_part_45 rfl ?_
        refine k_getr C (j := 3) (k' := k + 2) kcl_X8 fl_X8_13 hk.1 (by decide) rfl dX8_part_46 ?_
        refine k_iloadn C 1 dX8_part_49 rfl ?_
        refine k_iloadn C 2 dX8_part_50 rfl ?_
        refine k_vv C (as := [.ref (sk_ad O (k + 2)), .int s, .int e]) yvX8_weigh viX8_weigh ml_X8_135 (m_X8_weigh l C.2.2.2.1 (sk_ms M k 0 (0)) (k := k) (hk := hk) (a := k + 2) (ha := hk.2.2.1) (s := s.toNatClampNeg) (xs := s) (hxs := ix) (e := e.toNatClampNeg) (xe := e) (hxe := ex) (hs := (by omega)) (he := (by omega)) (hp := (by intro q hq; have h9 := hNp q (by omega); rw [sk_nf (by omega)]; exact h9)) (hap := (by omega))) hk.1 rfl rfl rfl (Nat.le_of_ble_eq_true rfl) (by decide) dX8_part_51 (fun M51_9 h51_9 => ?_)
        rw [h51_9]
        refine k_iload C 4 dX8_part_54 rfl ?_
        refine k_iconst C (3) dX8_part_56 (by decide) ?_
        refine k_cge C 77 dX8_part_57 (by decide) (fun c57_10 => ?_) (fun c57_10 => ?_)
        ·
          refine k_iload C 4 dX8_part_77 rfl ?_
          refine k_iconst C (3) dX8_part_79 (by decide) ?_
          refine k_cne C 96 dX8_part_80 (by decide) (fun c80_11 => ?_) (fun c80_11 => ?_)
          ·
            refine k_aloadn C 0 dX8_part_96 rfl ?_
            refine k_getr C (j := 11) (k' := k + 9) kcl_X8 fl_X8_35 hk.1 (by decide) rfl dX8_part_97 ?_
            refine k_iconst C (3) dX8_part_100 (by decide) ?_
            refine k_iloadn C 2 dX8_part_101 rfl ?_
            refine k_imul C dX8_part_102 ?_
            refine k_iloadn C 3 dX8_part_103 rfl ?_
            refine k_iadd C dX8_part_104 ?_
            refine k_ialdn C (3 * e.toNatClampNeg + p.toNatClampNeg) hk.2.2.2.2.2.2.2.2.2.1 (sk_nadd (sk_nmul (rfl : ((3) : Int32) = nI 3) ex) px) (by omega) dX8_part_105 ?_
            refine k_top (mo_wy (M (k + 2)) s.toNatClampNeg e.toNatClampNeg p.toNatClampNeg) (by rw [(mw_m_v (by rw [sk_nf (by omega)]; exact pb)).2, sk_nf (by omega)]) ?_
            exact ret _ _ _ _ dX8_part_106 rfl (by exact mo_z0 (er2p nc11_2 ((in_k w 0 4 rfl rfl).mp nc28_4)) (by rw [mo_pa, if_neg (Int32.not_lt.mpr c57_10), if_neg c80_11]) (mo_g.mw mo_g.r))
          ·
            refine k_aloadn C 0 dX8_part_83 rfl ?_
            refine k_getr C (j := 10) (k' := k + 8) kcl_X8 fl_X8_32 hk.1 (by decide) rfl dX8_part_84 ?_
            refine k_iconst C (3) dX8_part_87 (by decide) ?_
            refine k_iloadn C 2 dX8_part_88 rfl ?_
            refine k_imul C dX8_part_89 ?_
            refine k_iloadn C 3 dX8_part_90 rfl ?_
            refine k_iadd C dX8_part_91 ?_
            refine k_ialdn C (3 * e.toNatClampNeg + p.toNatClampNeg) hk.2.2.2.2.2.2.2.2.1 (sk_nadd (sk_nmul (rfl : ((3) : Int32) = nI 3) ex) px) (by omega) dX8_part_92 ?_
            refine k_top (mo_v (M (k + 2)) s.toNatClampNeg e.toNatClampNeg p.toNatClampNeg) (by rw [(mw_m_v (by rw [sk_nf (by omega)]; exact pb)).1, sk_nf (by omega)]) ?_
            refine k_goto C 106 dX8_part_93 (by decide) ?_
            exact ret _ _ _ _ dX8_part_106 rfl (by exact mo_z0 (er2p nc11_2 ((in_k w 0 4 rfl rfl).mp nc28_4)) (by rw [mo_pa, if_neg (Int32.not_lt.mpr c57_10), if_pos c80_11]) (mo_g.mw mo_g.r))
        ·
          refine k_aloadn C 0 dX8_part_60 rfl ?_
          refine k_getr C (j := 3) (k' := k + 2) kcl_X8 fl_X8_13 hk.1 (by decide) rfl dX8_part_61 ?_
          refine k_iloadn C 1 dX8_part_64 rfl ?_
          refine k_iloadn C 2 dX8_part_65 rfl ?_
          refine k_iloadn C 3 dX8_part_66 rfl ?_
          refine k_si C (as := [.int s, .int e, .int p]) yvX8_partAt vsX8_partAt ml_X8_102 (m_X8_partAt l C.2.2.2.1 (mw_m (sk_ms M k 0 (0)) k (k + 2) s.toNatClampNeg e.toNatClampNeg) (s := s.toNatClampNeg) (xs := s) (hxs := ix) (e := e.toNatClampNeg) (xe := e) (hxe := ex) (k := p.toNatClampNeg) (xk := p) (hxk := px)) rfl rfl (Nat.le_of_ble_eq_true rfl) (by decide) dX8_part_67 (fun x67_12 M67_12 h67_12 => ?_)
          rw [h67_12.1, h67_12.2]
          refine k_iload C 4 dX8_part_70 rfl ?_
          refine k_iadd C dX8_part_72 ?_
          refine k_ialdn C (25 + 233 * s.toNatClampNeg + 18 * e.toNatClampNeg + 3 * p.toNatClampNeg + w.toNatClampNeg) hk.2.2.1 (sk_nadd (a := 25 + 233 * s.toNatClampNeg + 18 * e.toNatClampNeg + 3 * p.toNatClampNeg) rfl wx) (by omega) dX8_part_73 ?_
          refine k_top (M (k + 2) (25 + 233 * s.toNatClampNeg + 18 * e.toNatClampNeg + 3 * p.toNatClampNeg + w.toNatClampNeg)) (by rw [mw_m_f (by omega), sk_ne (by omega)]) ?_
          refine k_goto C 106 dX8_part_74 (by decide) ?_
          exact ret _ _ _ _ dX8_part_106 rfl (by exact mo_z0 (er2p nc11_2 ((in_k w 0 4 rfl rfl).mp nc28_4)) (by rw [mo_pa, if_pos (Int32.not_le.mp c57_10)]) (mo_g.mw mo_g.r))
      ·
        exact absurd c39_8 (by decide)
  ·
    have nc11_2 : ¬ (mo_hp (M (k + 2)) s e p) := sk_b1.mp c11_2
    refine k_iconst C (1) dX8_part_14 (by decide) ?_
    refine k_goto C 36 dX8_part_15 (by decide) ?_
    refine k_vi C (as := [.int (1)]) yvX8_refused viX8_refused ml_X8_164 (m_X8_refused l C.2.2.2.1 M (k := k) (x := (1)) (hk := hk)) hk.1 rfl rfl rfl (Nat.le_of_ble_eq_true rfl) (by decide) dX8_part_36 (fun x36_13 M36_13 h36_13 => ?_)
    rw [h36_13.1, h36_13.2]
    refine k_top (1) (by decide) ?_
    refine k_zeq C 44 dX8_part_39 (by decide) (fun c39_14 => ?_) (fun c39_14 => ?_)
    ·
      exact absurd c39_14 (by decide)
    ·
      refine k_iconst C (0) dX8_part_42 (by decide) ?_
      exact ret _ _ _ _ dX8_part_43 rfl (by exact mo_z1 (i := 1) (er2n nc11_2) (by decide))

set_option maxHeartbeats 4000000 in
set_option maxRecDepth 100000 in
theorem m_X8_setting (l : Launch) {O : sk_O} (hO : sk_inj O) (M : sk_M) (k : Nat) (hk : sk_isM O k) (w : Int32) : sk_Mi l yX8_setting (sk_w yX8_setting cX8_setting 2 (some .int)) ({ frames := 1, cells := 0, slots := 0, locals := 25 }) O [.ref (sk_ad O k), .int w] M (mo_z M k (er_1 (¬ w < 0 ∧ ¬ 4 < w)) (M (k + 2) (1 + w.toNatClampNeg))) := by
  refine sk_mi (by decide) ⟨rfl, rfl⟩ hO (Nat.le_of_ble_eq_true rfl) (fun X A Q C ret => ?_)
  show sk_W l X O A Q 2 0 0 M 0 [(0, .ref (sk_ad O k)), (1, .int w)] []
  refine k_aloadn C 0 dX8_setting_0 rfl ?_
  refine k_iloadn C 1 dX8_setting_1 rfl ?_
  refine k_i2l C dX8_setting_2 ?_
  refine k_lconst C (0) dX8_setting_3 (by decide) ?_
  refine k_ldcl C kc_X8_216 dX8_setting_4 ?_
  refine k_si C (as := [.long w.toInt64, .long (0), .long (4)]) yvX8_in vsX8_in ml_X8_64 (m_X8_in l C.2.2.2.1 M (v := w.toInt64) (p := (0)) (q := (4))) rfl rfl (Nat.le_of_ble_eq_true rfl) (by decide) dX8_setting_7 (fun x7_1 M7_1 h7_1 => ?_)
  rw [h7_1.1, h7_1.2]
  refine k_zeq C 17 dX8_setting_10 (by decide) (fun c10_2 => ?_) (fun c10_2 => ?_)
  ·
    have nc10_2 : ¬ (¬ w.toInt64 < (0) ∧ ¬ (4) < w.toInt64) := sk_b1.mp c10_2
    refine k_iconst C (1) dX8_setting_17 (by decide) ?_
    refine k_vi C (as := [.int (1)]) yvX8_refused viX8_refused ml_X8_164 (m_X8_refused l C.2.2.2.1 M (k := k) (x := (1)) (hk := hk)) hk.1 rfl rfl rfl (Nat.le_of_ble_eq_true rfl) (by decide) dX8_setting_18 (fun x18_3 M18_3 h18_3 => ?_)
    rw [h18_3.1, h18_3.2]
    refine k_top (1) (by decide) ?_
    refine k_zeq C 26 dX8_setting_21 (by decide) (fun c21_4 => ?_) (fun c21_4 => ?_)
    ·
      exact absurd c21_4 (by decide)
    ·
      refine k_iconst C (0) dX8_setting_24 (by decide) ?_
      exact ret _ _ _ _ dX8_setting_25 rfl (by exact mo_z1 (i := 1) (er1n (fun h => nc10_2 ((in_k w 0 4 rfl rfl).mpr h))) (by decide))
  ·
    have nc10_2 : ¬ w.toInt64 < (0) ∧ ¬ (4) < w.toInt64 := Classical.byContradiction (fun h => c10_2 (sk_b1.mpr h))
    obtain ⟨wx, wb⟩ := mo_ix (m := 4) ((in_k w 0 4 rfl rfl).mp nc10_2) rfl (by omega)
    refine k_iconst C (0) dX8_setting_13 (by decide) ?_
    refine k_goto C 18 dX8_setting_14 (by decide) ?_
    refine k_vi C (as := [.int (0)]) yvX8_refused viX8_refused ml_X8_164 (m_X8_refused l C.2.2.2.1 M (k := k) (x := (0)) (hk := hk)) hk.1 rfl rfl rfl (Nat.le_of_ble_eq_true rfl) (by decide) dX8_setting_18 (fun x18_5 M18_5 h18_5 => ?_)
    rw [h18_5.1, h18_5.2]
    refine k_top (0) (by decide) ?_
    refine k_zeq C 26 dX8_setting_21 (by decide) (fun c21_6 => ?_) (fun c21_6 => ?_)
    ·
      refine k_aloadn C 0 dX8_setting_26 rfl ?_
      refine k_getr C (j := 3) (k' := k + 2) kcl_X8 fl_X8_13 hk.1 (by decide) rfl dX8_setting_27 ?_
      refine k_iconst C (1) dX8_setting_30 (by decide) ?_
      refine k_iloadn C 1 dX8_setting_31 rfl ?_
      refine k_iadd C dX8_setting_32 ?_
      refine k_ialdn C (1 + w.toNatClampNeg) hk.2.2.1 (sk_nadd (a := 1) rfl wx) (by omega) dX8_setting_33 ?_
      refine k_top (M (k + 2) (1 + w.toNatClampNeg)) (by rw [sk_ne (by omega)]) ?_
      exact ret _ _ _ _ dX8_setting_34 rfl (by exact mo_z0 (er1p ((in_k w 0 4 rfl rfl).mp nc10_2)) rfl mo_g.r)
    ·
      exact absurd c21_6 (by decide)

set_option maxHeartbeats 4000000 in
set_option maxRecDepth 100000 in
theorem m_X8_about (l : Launch) {O : sk_O} (hO : sk_inj O) (M : sk_M) (k : Nat) (hk : sk_isM O k) (w : Int32) (m : Nat) (hm4 : m ≤ 4) (hm : M (k + 2) 0 = nI m) (hmj : ∀ s, s < m → mo_wp (M (k + 2)) s) : sk_Mi l yX8_about (sk_w yX8_about cX8_about 7 (some .int)) ({ frames := 12, cells := 0, slots := 0, locals := 289 }) O [.ref (sk_ad O k), .int w] M (mo_z M k (er_1 (¬ w < 0 ∧ ¬ 5 < w)) (mo_ab (M (k + 2)) m w)) := by
  refine sk_mi (by decide) ⟨rfl, rfl⟩ hO (Nat.le_of_ble_eq_true rfl) (fun X A Q C ret => ?_)
  show sk_W l X O A Q 7 0 0 M 0 [(0, .ref (sk_ad O k)), (1, .int w)] []
  have hw : mo_wf (M (k + 2)) := ⟨m, hm4, hm, hmj⟩
  refine k_aloadn C 0 dX8_about_0 rfl ?_
  refine k_iloadn C 1 dX8_about_1 rfl ?_
  refine k_i2l C dX8_about_2 ?_
  refine k_lconst C (0) dX8_about_3 (by decide) ?_
  refine k_ldcl C kc_X8_199 dX8_about_4 ?_
  refine k_si C (as := [.long w.toInt64, .long (0), .long (5)]) yvX8_in vsX8_in ml_X8_64 (m_X8_in l C.2.2.2.1 M (v := w.toInt64) (p := (0)) (q := (5))) rfl rfl (Nat.le_of_ble_eq_true rfl) (by decide) dX8_about_7 (fun x7_1 M7_1 h7_1 => ?_)
  rw [h7_1.1, h7_1.2]
  refine k_zeq C 17 dX8_about_10 (by decide) (fun c10_2 => ?_) (fun c10_2 => ?_)
  ·
    have nc10_2 : ¬ (¬ w.toInt64 < (0) ∧ ¬ (5) < w.toInt64) := sk_b1.mp c10_2
    refine k_iconst C (1) dX8_about_17 (by decide) ?_
    refine k_vi C (as := [.int (1)]) yvX8_refused viX8_refused ml_X8_164 (m_X8_refused l C.2.2.2.1 M (k := k) (x := (1)) (hk := hk)) hk.1 rfl rfl rfl (Nat.le_of_ble_eq_true rfl) (by decide) dX8_about_18 (fun x18_3 M18_3 h18_3 => ?_)
    rw [h18_3.1, h18_3.2]
    refine k_top (1) (by decide) ?_
    refine k_zeq C 26 dX8_about_21 (by decide) (fun c21_4 => ?_) (fun c21_4 => ?_)
    ·
      exact absurd c21_4 (by decide)
    ·
      refine k_iconst C (0) dX8_about_24 (by decide) ?_
      exact ret _ _ _ _ dX8_about_25 rfl (by exact mo_z1 (i := 1) (er1n (fun h => nc10_2 ((in_k w 0 5 rfl rfl).mpr h))) (by decide))
  ·
    have nc10_2 : ¬ w.toInt64 < (0) ∧ ¬ (5) < w.toInt64 := Classical.byContradiction (fun h => c10_2 (sk_b1.mpr h))
    refine k_iconst C (0) dX8_about_13 (by decide) ?_
    refine k_goto C 18 dX8_about_14 (by decide) ?_
    refine k_vi C (as := [.int (0)]) yvX8_refused viX8_refused ml_X8_164 (m_X8_refused l C.2.2.2.1 M (k := k) (x := (0)) (hk := hk)) hk.1 rfl rfl rfl (Nat.le_of_ble_eq_true rfl) (by decide) dX8_about_18 (fun x18_5 M18_5 h18_5 => ?_)
    rw [h18_5.1, h18_5.2]
    refine k_top (0) (by decide) ?_
    refine k_zeq C 26 dX8_about_21 (by decide) (fun c21_6 => ?_) (fun c21_6 => ?_)
    ·
      refine k_iconst C (0) dX8_about_26 (by decide) ?_
      refine k_istoren C [1, 2, 0] [(0, .ref (sk_ad O k)), (1, .int w), (2, .int (0))] dX8_about_27 (by decide) rfl ?_
      refine k_iconst C (0) dX8_about_28 (by decide) ?_
      refine k_istoren C [1, 2, 3, 0] [(0, .ref (sk_ad O k)), (1, .int w), (2, .int (0)), (3, .int (0))] dX8_about_29 (by decide) rfl ?_
      refine k_iconst C (0) dX8_about_30 (by decide) ?_
      refine k_istore C [1, 2, 3, 4, 0] [(0, .ref (sk_ad O k)), (1, .int w), (2, .int (0)), (3, .int (0)), (4, .int (0))] dX8_about_31 (by decide) rfl ?_
      have L33 : ∀ i, i ≤ m → sk_W l X O A Q 7 0 0 (mj_l M k i) 33 [(0, .ref (sk_ad O k)), (1, .int w), (2, .int (sk_sum (fun s => M (k + 2) (6 + 233 * s)) i)), (3, .int (nI (mo_la (M (k + 2)) i))), (4, .int (nI i))] [] := by
        refine sk_loop m (fun i hi33 ih33 => ?_)
        refine k_iload C 4 dX8_about_33 rfl ?_
        refine k_aloadn C 0 dX8_about_35 rfl ?_
        refine k_getr C (j := 3) (k' := k + 2) kcl_X8 fl_X8_13 hk.1 (by decide) rfl dX8_about_36 ?_
        refine k_iconst C (0) dX8_about_39 (by decide) ?_
        refine k_ialdn C 0 hk.2.2.1 (rfl : ((0) : Int32) = nI 0) (by omega) dX8_about_40 ?_
        refine k_top (M (k + 2) 0) (by rw [mj_l_f (by omega) (by omega) _]) ?_
        refine k_cge C 153 dX8_about_41 (by decide) (fun c41_7 => ?_) (fun c41_7 => ?_)
        ·
          have nc41_7 : m ≤ i := (sk_eI (a := m) (b := i) hm rfl (by omega) (by omega)).mp c41_7
          obtain rfl : m = i := (by omega)
          refine k_iloadn C 1 dX8_about_153 rfl ?_
          by_cases c154_8_0 : w = (0 : Int32)
          ·
            refine k_top (0 : Int32) c154_8_0 ?_
            refine k_tin C 188 (34) dX8_about_154 (by decide) (by decide) ?_
            refine k_aloadn C 0 dX8_about_188 rfl ?_
            refine k_getr C (j := 3) (k' := k + 2) kcl_X8 fl_X8_13 hk.1 (by decide) rfl dX8_about_189 ?_
            refine k_iconst C (0) dX8_about_192 (by decide) ?_
            refine k_ialdn C 0 hk.2.2.1 (rfl : ((0) : Int32) = nI 0) (by omega) dX8_about_193 ?_
            refine k_top (M (k + 2) 0) (by rw [mj_l_f (by omega) (by omega) _]) ?_
            exact ret _ _ _ _ dX8_about_194 rfl (by exact mo_z0 (er1p ((in_k w 0 5 rfl rfl).mp nc10_2)) (by rw [mo_ab, if_pos (show w = 0 from c154_8_0)]) (mo_g.mj m))
          by_cases c154_8_1 : w = (1 : Int32)
          ·
            refine k_top (1 : Int32) c154_8_1 ?_
            refine k_tin C 195 (41) dX8_about_154 (by decide) (by decide) ?_
            refine k_aloadn C 0 dX8_about_195 rfl ?_
            refine k_getr C (j := 3) (k' := k + 2) kcl_X8 fl_X8_13 hk.1 (by decide) rfl dX8_about_196 ?_
            refine k_bipush C (17) dX8_about_199 (by decide) ?_
            refine k_si C (as := [.ref (sk_ad O (k + 2)), .int (17)]) yvX8_sumOfAll vsX8_sumOfAll ml_X8_201 (m_X8_sumOfAll l C.2.2.2.1 (mj_l M k m) (a := k + 2) (ha := hk.2.2.1) (w := 17) (xw := (17)) (hxw := (rfl : ((17) : Int32) = nI 17)) (m := m) (hm4 := hm4) (hm := (by rw [mj_l_f (by omega) (by omega) _]; exact hm)) (hmj := (by rw [mj_l_f (by omega) (by omega) _]; exact hmj)) (hw18 := (by decide))) rfl rfl (Nat.le_of_ble_eq_true rfl) (by decide) dX8_about_201 (fun x201_9 M201_9 h201_9 => ?_)
            rw [h201_9.1, h201_9.2]
            refine k_top (sk_sum (fun s => sk_sum (fun e => M (k + 2) (23 + 233 * s + 18 * e + 17)) (mo_c (M (k + 2)) s)) m) (by rw [mj_l_f (by omega) (by omega) _]) ?_
            exact ret _ _ _ _ dX8_about_204 rfl (by exact mo_z0 (er1p ((in_k w 0 5 rfl rfl).mp nc10_2)) (by rw [mo_ab, if_neg (show ¬ (w = 0) from by rw [show w = 1 from c154_8_1]; decide), if_pos (show w = 1 from c154_8_1)]) (mo_g.mj m))
          by_cases c154_8_2 : w = (2 : Int32)
          ·
            refine k_top (2 : Int32) c154_8_2 ?_
            refine k_tin C 205 (51) dX8_about_154 (by decide) (by decide) ?_
            refine k_aloadn C 0 dX8_about_205 rfl ?_
            refine k_getr C (j := 3) (k' := k + 2) kcl_X8 fl_X8_13 hk.1 (by decide) rfl dX8_about_206 ?_
            refine k_bipush C (16) dX8_about_209 (by decide) ?_
            refine k_si C (as := [.ref (sk_ad O (k + 2)), .int (16)]) yvX8_sumOfAll vsX8_sumOfAll ml_X8_201 (m_X8_sumOfAll l C.2.2.2.1 (mj_l M k m) (a := k + 2) (ha := hk.2.2.1) (w := 16) (xw := (16)) (hxw := (rfl : ((16) : Int32) = nI 16)) (m := m) (hm4 := hm4) (hm := (by rw [mj_l_f (by omega) (by omega) _]; exact hm)) (hmj := (by rw [mj_l_f (by omega) (by omega) _]; exact hmj)) (hw18 := (by decide))) rfl rfl (Nat.le_of_ble_eq_true rfl) (by decide) dX8_about_211 (fun x211_10 M211_10 h211_10 => ?_)
            rw [h211_10.1, h211_10.2]
            refine k_top (sk_sum (fun s => sk_sum (fun e => M (k + 2) (23 + 233 * s + 18 * e + 16)) (mo_c (M (k + 2)) s)) m) (by rw [mj_l_f (by omega) (by omega) _]) ?_
            exact ret _ _ _ _ dX8_about_214 rfl (by exact mo_z0 (er1p ((in_k w 0 5 rfl rfl).mp nc10_2)) (by rw [mo_ab, if_neg (show ¬ (w = 0) from by rw [show w = 2 from c154_8_2]; decide), if_neg (show ¬ (w = 1) from by rw [show w = 2 from c154_8_2]; decide), if_pos (show w = 2 from c154_8_2)]) (mo_g.mj m))
          by_cases c154_8_3 : w = (3 : Int32)
          ·
            refine k_top (3 : Int32) c154_8_3 ?_
            refine k_tin C 215 (61) dX8_about_154 (by decide) (by decide) ?_
            refine k_iloadn C 2 dX8_about_215 rfl ?_
            exact ret _ _ _ _ dX8_about_216 rfl (by exact mo_z0 (er1p ((in_k w 0 5 rfl rfl).mp nc10_2)) (by rw [mo_ab, if_neg (show ¬ (w = 0) from by rw [show w = 3 from c154_8_3]; decide), if_neg (show ¬ (w = 1) from by rw [show w = 3 from c154_8_3]; decide), if_neg (show ¬ (w = 2) from by rw [show w = 3 from c154_8_3]; decide), if_pos (show w = 3 from c154_8_3)]) (mo_g.mj m))
          by_cases c154_8_4 : w = (4 : Int32)
          ·
            refine k_top (4 : Int32) c154_8_4 ?_
            refine k_tin C 217 (63) dX8_about_154 (by decide) (by decide) ?_
            refine k_aloadn C 0 dX8_about_217 rfl ?_
            refine k_aloadn C 0 dX8_about_218 rfl ?_
            refine k_getr C (j := 3) (k' := k + 2) kcl_X8 fl_X8_13 hk.1 (by decide) rfl dX8_about_219 ?_
            refine k_vi C (as := [.ref (sk_ad O (k + 2))]) yvX8_first viX8_first ml_X8_204 (m_X8_first l C.2.2.2.1 (mj_l M k m) (k := k) (hk := hk) (a := k + 2) (ha := hk.2.2.1) (m := m) (hm4 := hm4) (hm := (by rw [mj_l_f (by omega) (by omega) _]; exact hm)) (hmj := (by rw [mj_l_f (by omega) (by omega) _]; exact hmj)) (hap := (by omega))) hk.1 rfl rfl rfl (Nat.le_of_ble_eq_true rfl) (by decide) dX8_about_222 (fun x222_11 M222_11 h222_11 => ?_)
            rw [h222_11.2]
            have hfv := ml_fv h222_11.1
            rw [mj_l_f (by omega) (by omega) _] at hfv
            exact ret _ _ _ _ dX8_about_225 rfl (by exact mo_z0 (er1p ((in_k w 0 5 rfl rfl).mp nc10_2)) (by rw [mo_ab, if_neg (show ¬ (w = 0) from by rw [show w = 4 from c154_8_4]; decide), if_neg (show ¬ (w = 1) from by rw [show w = 4 from c154_8_4]; decide), if_neg (show ¬ (w = 2) from by rw [show w = 4 from c154_8_4]; decide), if_neg (show ¬ (w = 3) from by rw [show w = 4 from c154_8_4]; decide), if_pos (show w = 4 from c154_8_4)]; exact hfv) (mo_g.ma (mo_g.mj m) m))
          have c154_8_0T : ¬ (w).toInt = 0 := fun h => c154_8_0 (sk_toI h)
          have c154_8_1T : ¬ (w).toInt = 1 := fun h => c154_8_1 (sk_toI h)
          have c154_8_2T : ¬ (w).toInt = 2 := fun h => c154_8_2 (sk_toI h)
          have c154_8_3T : ¬ (w).toInt = 3 := fun h => c154_8_3 (sk_toI h)
          have c154_8_4T : ¬ (w).toInt = 4 := fun h => c154_8_4 (sk_toI h)
          refine k_tout C 226 dX8_about_154 (by omega) (by decide) ?_
          refine k_iloadn C 3 dX8_about_226 rfl ?_
          exact ret _ _ _ _ dX8_about_227 rfl (by exact mo_z0 (er1p ((in_k w 0 5 rfl rfl).mp nc10_2)) (by rw [mo_ab, if_neg (show ¬ (w = 0) from c154_8_0), if_neg (show ¬ (w = 1) from c154_8_1), if_neg (show ¬ (w = 2) from c154_8_2), if_neg (show ¬ (w = 3) from c154_8_3), if_neg (show ¬ (w = 4) from c154_8_4)]) (mo_g.mj m))
        ·
          have nc41_7 : ¬ (m ≤ i) := fun h => c41_7 ((sk_eI (a := m) (b := i) hm rfl (by omega) (by omega)).mpr h)
          obtain ⟨N, hN12, hN, hNp⟩ := id (hmj i (by omega))
          have hcN : mo_c (M (k + 2)) i = N := (by show (M (k + 2) _).toNatClampNeg = N; rw [hN, nI_clamp (by omega)])
          rw [← hcN] at hN12 hN hNp
          refine k_iloadn C 2 dX8_about_44 rfl ?_
          refine k_aloadn C 0 dX8_about_45 rfl ?_
          refine k_getr C (j := 3) (k' := k + 2) kcl_X8 fl_X8_13 hk.1 (by decide) rfl dX8_about_46 ?_
          refine k_iload C 4 dX8_about_49 rfl ?_
          refine k_si C (as := [.int (nI i)]) yvX8_skaterAt vsX8_skaterAt ml_X8_72 (m_X8_skaterAt l C.2.2.2.1 (mj_l M k i) (s := i) (xs := nI i) (hxs := rfl)) rfl rfl (Nat.le_of_ble_eq_true rfl) (by decide) dX8_about_51 (fun x51_12 M51_12 h51_12 => ?_)
          rw [h51_12.1, h51_12.2]
          refine k_iconst C (0) dX8_about_54 (by decide) ?_
          refine k_iadd C dX8_about_55 ?_
          refine k_ialdn C (6 + 233 * i) hk.2.2.1 (sk_nadd (b := 0) rfl (rfl : ((0) : Int32) = nI 0)) (by omega) dX8_about_56 ?_
          refine k_top (M (k + 2) (6 + 233 * i)) (by rw [mj_l_f (by omega) (by omega) _]) ?_
          refine k_iadd C dX8_about_57 ?_
          refine k_istoren C [1, 2, 0, 3, 4] [(0, .ref (sk_ad O k)), (1, .int w), (2, .int ((sk_sum (fun s => M (k + 2) (6 + 233 * s)) i) + (M (k + 2) (6 + 233 * i)))), (3, .int (nI (mo_la (M (k + 2)) i))), (4, .int (nI i))] dX8_about_58 (by decide) rfl ?_
          refine k_aloadn C 0 dX8_about_59 rfl ?_
          refine k_aloadn C 0 dX8_about_60 rfl ?_
          refine k_getr C (j := 3) (k' := k + 2) kcl_X8 fl_X8_13 hk.1 (by decide) rfl dX8_about_61 ?_
          refine k_iload C 4 dX8_about_64 rfl ?_
          refine k_vi C (as := [.ref (sk_ad O (k + 2)), .int (nI i)]) yvX8_reckon viX8_reckon ml_X8_146 (m_X8_reckon l C.2.2.2.1 (mj_l M k i) (k := k) (hk := hk) (a := k + 2) (ha := hk.2.2.1) (s := i) (xs := nI i) (hxs := rfl) (N := mo_c (M (k + 2)) i) (hs := (by omega)) (hN12 := hN12) (hN := (by rw [mj_l_f (by omega) (by omega) _]; exact hN)) (hp := (by rw [mj_l_f (by omega) (by omega) _]; exact hNp)) (hap := (by omega))) hk.1 rfl rfl rfl (Nat.le_of_ble_eq_true rfl) (by decide) dX8_about_66 (fun x66_13 M66_13 h66_13 => ?_)
          rw [h66_13.1, h66_13.2]
          refine k_top (mo_to (M (k + 2)) i (mo_c (M (k + 2)) i)) (by rw [mj_l_f (by omega) (by omega) _]) ?_
          refine k_pop C dX8_about_69 rfl ?_
          refine k_iconst C (0) dX8_about_70 (by decide) ?_
          refine k_istore C [1, 2, 3, 4, 5, 0] [(0, .ref (sk_ad O k)), (1, .int w), (2, .int ((sk_sum (fun s => M (k + 2) (6 + 233 * s)) i) + (M (k + 2) (6 + 233 * i)))), (3, .int (nI (mo_la (M (k + 2)) i))), (4, .int (nI i)), (5, .int (0))] dX8_about_71 (by decide) rfl ?_
          have L73 : ∀ j, j ≤ mo_c (M (k + 2)) i → sk_W l X O A Q 7 0 0 (mk_m (mj_l M k i) k (k + 2) i (mo_c (M (k + 2)) i)) 73 [(0, .ref (sk_ad O k)), (1, .int w), (2, .int ((sk_sum (fun s => M (k + 2) (6 + 233 * s)) i) + (M (k + 2) (6 + 233 * i)))), (3, .int (nI (mo_la (M (k + 2)) i + mo_lq (M (k + 2)) i j))), (4, .int (nI i)), (5, .int (nI j))] [] := by
            refine sk_loop (mo_c (M (k + 2)) i) (fun j hi73 ih73 => ?_)
            refine k_iload C 5 dX8_about_73 rfl ?_
            refine k_aloadn C 0 dX8_about_75 rfl ?_
            refine k_getr C (j := 3) (k' := k + 2) kcl_X8 fl_X8_13 hk.1 (by decide) rfl dX8_about_76 ?_
            refine k_iload C 4 dX8_about_79 rfl ?_
            refine k_si C (as := [.int (nI i)]) yvX8_skaterAt vsX8_skaterAt ml_X8_72 (m_X8_skaterAt l C.2.2.2.1 (mk_m (mj_l M k i) k (k + 2) i (mo_c (M (k + 2)) i)) (s := i) (xs := nI i) (hxs := rfl)) rfl rfl (Nat.le_of_ble_eq_true rfl) (by decide) dX8_about_81 (fun x81_14 M81_14 h81_14 => ?_)
            rw [h81_14.1, h81_14.2]
            refine k_iconst C (0) dX8_about_84 (by decide) ?_
            refine k_iadd C dX8_about_85 ?_
            refine k_ialdn C (6 + 233 * i) hk.2.2.1 (sk_nadd (b := 0) rfl (rfl : ((0) : Int32) = nI 0)) (by omega) dX8_about_86 ?_
            refine k_top (M (k + 2) (6 + 233 * i)) (by rw [mk_m_f (by omega) (by omega), mj_l_f (by omega) (by omega) _]) ?_
            refine k_cge C 147 dX8_about_87 (by decide) (fun c87_15 => ?_) (fun c87_15 => ?_)
            ·
              have nc87_15 : mo_c (M (k + 2)) i ≤ j := (sk_eI (a := mo_c (M (k + 2)) i) (b := j) hN rfl (by omega) (by omega)).mp c87_15
              obtain rfl : mo_c (M (k + 2)) i = j := (by omega)
              refine k_iinc C 4 (nI (i + 1)) [1, 2, 3, 4, 0, 5] [(0, .ref (sk_ad O k)), (1, .int w), (2, .int ((sk_sum (fun s => M (k + 2) (6 + 233 * s)) i) + (M (k + 2) (6 + 233 * i)))), (3, .int (nI (mo_la (M (k + 2)) i + mo_lq (M (k + 2)) i (mo_c (M (k + 2)) i)))), (4, .int (nI (i + 1))), (5, .int (nI (mo_c (M (k + 2)) i)))] dX8_about_147 rfl (nI_add _ _) (by decide) rfl ?_
              refine k_goto C 33 dX8_about_150 (by decide) ?_
              refine k_sub [0, 1, 2, 3, 4] (lv' := [(0, .ref (sk_ad O k)), (1, .int w), (2, .int ((sk_sum (fun s => M (k + 2) (6 + 233 * s)) i) + (M (k + 2) (6 + 233 * i)))), (3, .int (nI (mo_la (M (k + 2)) i + mo_lq (M (k + 2)) i (mo_c (M (k + 2)) i)))), (4, .int (nI (i + 1)))]) rfl ?_
              exact ih33 (by omega)
            ·
              have nc87_15 : ¬ (mo_c (M (k + 2)) i ≤ j) := fun h => c87_15 ((sk_eI (a := mo_c (M (k + 2)) i) (b := j) hN rfl (by omega) (by omega)).mpr h)
              obtain ⟨hpj, hpj3⟩ := mo_nn hNp (i := j) (by omega)
              refine k_iconst C (0) dX8_about_90 (by decide) ?_
              refine k_istore C [1, 2, 3, 4, 5, 6, 0] [(0, .ref (sk_ad O k)), (1, .int w), (2, .int ((sk_sum (fun s => M (k + 2) (6 + 233 * s)) i) + (M (k + 2) (6 + 233 * i)))), (3, .int (nI (mo_la (M (k + 2)) i + mo_lq (M (k + 2)) i j))), (4, .int (nI i)), (5, .int (nI j)), (6, .int (0))] dX8_about_91 (by decide) rfl ?_
              have L93 : ∀ p, p ≤ mo_n (M (k + 2)) i j → sk_W l X O A Q 7 0 0 (mk_m (mj_l M k i) k (k + 2) i (mo_c (M (k + 2)) i)) 93 [(0, .ref (sk_ad O k)), (1, .int w), (2, .int ((sk_sum (fun s => M (k + 2) (6 + 233 * s)) i) + (M (k + 2) (6 + 233 * i)))), (3, .int (nI (mo_la (M (k + 2)) i + mo_lq (M (k + 2)) i j + mo_lp (M (k + 2)) i j p))), (4, .int (nI i)), (5, .int (nI j)), (6, .int (nI p))] [] := by
                refine sk_loop (mo_n (M (k + 2)) i j) (fun p hi93 ih93 => ?_)
                refine k_iload C 6 dX8_about_93 rfl ?_
                refine k_aloadn C 0 dX8_about_95 rfl ?_
                refine k_getr C (j := 3) (k' := k + 2) kcl_X8 fl_X8_13 hk.1 (by decide) rfl dX8_about_96 ?_
                refine k_iload C 4 dX8_about_99 rfl ?_
                refine k_iload C 5 dX8_about_101 rfl ?_
                refine k_si C (as := [.int (nI i), .int (nI j)]) yvX8_elementAt vsX8_elementAt ml_X8_60 (m_X8_elementAt l C.2.2.2.1 (mk_m (mj_l M k i) k (k + 2) i (mo_c (M (k + 2)) i)) (s := i) (xs := nI i) (hxs := rfl) (e := j) (xe := nI j) (hxe := rfl)) rfl rfl (Nat.le_of_ble_eq_true rfl) (by decide) dX8_about_103 (fun x103_16 M103_16 h103_16 => ?_)
                rw [h103_16.1, h103_16.2]
                refine k_iconst C (1) dX8_about_106 (by decide) ?_
                refine k_iadd C dX8_about_107 ?_
                refine k_ialdn C (23 + 233 * i + 18 * j + 1) hk.2.2.1 (sk_nadd rfl (rfl : ((1) : Int32) = nI 1)) (by omega) dX8_about_108 ?_
                refine k_top (M (k + 2) (23 + 233 * i + 18 * j + 1)) (by rw [mk_m_f (by omega) (by omega), mj_l_f (by omega) (by omega) _]) ?_
                refine k_cge C 141 dX8_about_109 (by decide) (fun c109_17 => ?_) (fun c109_17 => ?_)
                ·
                  have nc109_17 : mo_n (M (k + 2)) i j ≤ p := (sk_eI (a := mo_n (M (k + 2)) i j) (b := p) hpj rfl (by omega) (by omega)).mp c109_17
                  obtain rfl : mo_n (M (k + 2)) i j = p := (by omega)
                  refine k_iinc C 5 (nI (j + 1)) [1, 2, 3, 4, 5, 0, 6] [(0, .ref (sk_ad O k)), (1, .int w), (2, .int ((sk_sum (fun s => M (k + 2) (6 + 233 * s)) i) + (M (k + 2) (6 + 233 * i)))), (3, .int (nI (mo_la (M (k + 2)) i + mo_lq (M (k + 2)) i j + mo_lp (M (k + 2)) i j (mo_n (M (k + 2)) i j)))), (4, .int (nI i)), (5, .int (nI (j + 1))), (6, .int (nI (mo_n (M (k + 2)) i j)))] dX8_about_141 rfl (nI_add _ _) (by decide) rfl ?_
                  refine k_goto C 73 dX8_about_144 (by decide) ?_
                  refine k_sub [0, 1, 2, 3, 4, 5] (lv' := [(0, .ref (sk_ad O k)), (1, .int w), (2, .int ((sk_sum (fun s => M (k + 2) (6 + 233 * s)) i) + (M (k + 2) (6 + 233 * i)))), (3, .int (nI (mo_la (M (k + 2)) i + mo_lq (M (k + 2)) i j + mo_lp (M (k + 2)) i j (mo_n (M (k + 2)) i j)))), (4, .int (nI i)), (5, .int (nI (j + 1)))]) rfl ?_
                  refine k_eq rfl rfl (by rw [Nat.add_assoc (mo_la (M (k + 2)) i)]; rfl) rfl (ih73 (by omega))
                ·
                  have nc109_17 : ¬ (mo_n (M (k + 2)) i j ≤ p) := fun h => c109_17 ((sk_eI (a := mo_n (M (k + 2)) i j) (b := p) hpj rfl (by omega) (by omega)).mpr h)
                  refine k_iloadn C 3 dX8_about_112 rfl ?_
                  refine k_aloadn C 0 dX8_about_113 rfl ?_
                  refine k_getr C (j := 11) (k' := k + 9) kcl_X8 fl_X8_35 hk.1 (by decide) rfl dX8_about_114 ?_
                  refine k_iconst C (3) dX8_about_117 (by decide) ?_
                  refine k_iload C 5 dX8_about_118 rfl ?_
                  refine k_imul C dX8_about_120 ?_
                  refine k_iload C 6 dX8_about_121 rfl ?_
                  refine k_iadd C dX8_about_123 ?_
                  refine k_ialdn C (3 * j + p) hk.2.2.2.2.2.2.2.2.2.1 (sk_nadd (sk_nmul (rfl : ((3) : Int32) = nI 3) rfl) rfl) (by omega) dX8_about_124 ?_
                  refine k_top (mo_wy (M (k + 2)) i j p) (by rw [mk_m_y (by omega) (by rw [mj_l_f (by omega) (by omega) _]; exact hNp) (by omega) (by rw [mj_l_f (by omega) (by omega) _]; omega), mj_l_f (by omega) (by omega) _]) ?_
                  refine k_zle C 132 dX8_about_125 (by decide) (fun c125_18 => ?_) (fun c125_18 => ?_)
                  ·
                    refine k_iconst C (0) dX8_about_132 (by decide) ?_
                    refine k_iadd C dX8_about_133 ?_
                    refine k_top (nI (mo_la (M (k + 2)) i + mo_lq (M (k + 2)) i j + mo_lp (M (k + 2)) i j (p + 1))) ((in_n rfl rfl (Int32.not_lt.mpr c125_18)).trans (congrArg nI (Nat.add_assoc _ _ _))) ?_
                    refine k_istoren C [1, 2, 3, 0, 4, 5, 6] [(0, .ref (sk_ad O k)), (1, .int w), (2, .int ((sk_sum (fun s => M (k + 2) (6 + 233 * s)) i) + (M (k + 2) (6 + 233 * i)))), (3, .int (nI (mo_la (M (k + 2)) i + mo_lq (M (k + 2)) i j + mo_lp (M (k + 2)) i j (p + 1)))), (4, .int (nI i)), (5, .int (nI j)), (6, .int (nI p))] dX8_about_134 (by decide) rfl ?_
                    refine k_iinc C 6 (nI (p + 1)) [1, 2, 3, 4, 5, 6, 0] [(0, .ref (sk_ad O k)), (1, .int w), (2, .int ((sk_sum (fun s => M (k + 2) (6 + 233 * s)) i) + (M (k + 2) (6 + 233 * i)))), (3, .int (nI (mo_la (M (k + 2)) i + mo_lq (M (k + 2)) i j + mo_lp (M (k + 2)) i j (p + 1)))), (4, .int (nI i)), (5, .int (nI j)), (6, .int (nI (p + 1)))] dX8_about_135 rfl (nI_add _ _) (by decide) rfl ?_
                    refine k_goto C 93 dX8_about_138 (by decide) ?_
                    exact ih93 (by omega)
                  ·
                    refine k_iconst C (1) dX8_about_128 (by decide) ?_
                    refine k_goto C 133 dX8_about_129 (by decide) ?_
                    refine k_iadd C dX8_about_133 ?_
                    refine k_top (nI (mo_la (M (k + 2)) i + mo_lq (M (k + 2)) i j + mo_lp (M (k + 2)) i j (p + 1))) ((in_y rfl rfl (Int32.not_le.mp c125_18)).trans (congrArg nI (Nat.add_assoc _ _ _))) ?_
                    refine k_istoren C [1, 2, 3, 0, 4, 5, 6] [(0, .ref (sk_ad O k)), (1, .int w), (2, .int ((sk_sum (fun s => M (k + 2) (6 + 233 * s)) i) + (M (k + 2) (6 + 233 * i)))), (3, .int (nI (mo_la (M (k + 2)) i + mo_lq (M (k + 2)) i j + mo_lp (M (k + 2)) i j (p + 1)))), (4, .int (nI i)), (5, .int (nI j)), (6, .int (nI p))] dX8_about_134 (by decide) rfl ?_
                    refine k_iinc C 6 (nI (p + 1)) [1, 2, 3, 4, 5, 6, 0] [(0, .ref (sk_ad O k)), (1, .int w), (2, .int ((sk_sum (fun s => M (k + 2) (6 + 233 * s)) i) + (M (k + 2) (6 + 233 * i)))), (3, .int (nI (mo_la (M (k + 2)) i + mo_lq (M (k + 2)) i j + mo_lp (M (k + 2)) i j (p + 1)))), (4, .int (nI i)), (5, .int (nI j)), (6, .int (nI (p + 1)))] dX8_about_135 rfl (nI_add _ _) (by decide) rfl ?_
                    refine k_goto C 93 dX8_about_138 (by decide) ?_
                    exact ih93 (by omega)
              exact L93 0 (Nat.zero_le _)
          exact L73 0 (Nat.zero_le _)
      exact L33 0 (Nat.zero_le _)
    ·
      exact absurd c21_6 (by decide)

set_option maxHeartbeats 4000000 in
set_option maxRecDepth 100000 in
theorem m_X8_behind (l : Launch) {O : sk_O} (hO : sk_inj O) (M : sk_M) (k : Nat) (hk : sk_isM O k) (s : Int32) (m : Nat) (hm4 : m ≤ 4) (hm : M (k + 2) 0 = nI m) (hmj : ∀ s, s < m → mo_wp (M (k + 2)) s) : sk_Mi l yX8_behind (sk_w yX8_behind cX8_behind 3 (some .int)) ({ frames := 12, cells := 0, slots := 0, locals := 289 }) O [.ref (sk_ad O k), .int s] M (mo_z M k (er_1 (mo_hs (M (k + 2)) s)) (mo_T (M (k + 2)) (mo_w (mo_T (M (k + 2))) (mo_S (M (k + 2))) m) - mo_T (M (k + 2)) s.toNatClampNeg)) := by
  refine sk_mi (by decide) ⟨rfl, rfl⟩ hO (Nat.le_of_ble_eq_true rfl) (fun X A Q C ret => ?_)
  show sk_W l X O A Q 3 0 0 M 0 [(0, .ref (sk_ad O k)), (1, .int s)] []
  have hw : mo_wf (M (k + 2)) := ⟨m, hm4, hm, hmj⟩
  refine k_aloadn C 0 dX8_behind_0 rfl ?_
  refine k_aloadn C 0 dX8_behind_1 rfl ?_
  refine k_getr C (j := 3) (k' := k + 2) kcl_X8 fl_X8_13 hk.1 (by decide) rfl dX8_behind_2 ?_
  refine k_iloadn C 1 dX8_behind_5 rfl ?_
  refine k_si C (as := [.ref (sk_ad O (k + 2)), .int s]) yvX8_isSkater vsX8_isSkater ml_X8_68 (m_X8_isSkater l C.2.2.2.1 M (a := k + 2) (ha := hk.2.2.1) (s := s) (hw := hw)) rfl rfl (Nat.le_of_ble_eq_true rfl) (by decide) dX8_behind_6 (fun x6_1 M6_1 h6_1 => ?_)
  rw [h6_1.1, h6_1.2]
  refine k_zeq C 16 dX8_behind_9 (by decide) (fun c9_2 => ?_) (fun c9_2 => ?_)
  ·
    have nc9_2 : ¬ (mo_hs (M (k + 2)) s) := sk_b1.mp c9_2
    refine k_iconst C (1) dX8_behind_16 (by decide) ?_
    refine k_vi C (as := [.int (1)]) yvX8_refused viX8_refused ml_X8_164 (m_X8_refused l C.2.2.2.1 M (k := k) (x := (1)) (hk := hk)) hk.1 rfl rfl rfl (Nat.le_of_ble_eq_true rfl) (by decide) dX8_behind_17 (fun x17_3 M17_3 h17_3 => ?_)
    rw [h17_3.1, h17_3.2]
    refine k_top (1) (by decide) ?_
    refine k_zeq C 25 dX8_behind_20 (by decide) (fun c20_4 => ?_) (fun c20_4 => ?_)
    ·
      exact absurd c20_4 (by decide)
    ·
      refine k_iconst C (0) dX8_behind_23 (by decide) ?_
      exact ret _ _ _ _ dX8_behind_24 rfl (by exact mo_z1 (i := 1) (er1n nc9_2) (by decide))
  ·
    have nc9_2 : mo_hs (M (k + 2)) s := Classical.byContradiction (fun h => c9_2 (sk_b1.mpr h))
    obtain ⟨ix, ib⟩ := sk_ix nc9_2 hm (by omega)
    obtain ⟨N, hN12, hN, hNp⟩ := id (hmj _ ib)
    have hcN : mo_c (M (k + 2)) s.toNatClampNeg = N := (by show (M (k + 2) _).toNatClampNeg = N; rw [hN, nI_clamp (by omega)])
    rw [← hcN] at hN12 hN hNp
    refine k_iconst C (0) dX8_behind_12 (by decide) ?_
    refine k_goto C 17 dX8_behind_13 (by decide) ?_
    refine k_vi C (as := [.int (0)]) yvX8_refused viX8_refused ml_X8_164 (m_X8_refused l C.2.2.2.1 M (k := k) (x := (0)) (hk := hk)) hk.1 rfl rfl rfl (Nat.le_of_ble_eq_true rfl) (by decide) dX8_behind_17 (fun x17_5 M17_5 h17_5 => ?_)
    rw [h17_5.1, h17_5.2]
    refine k_top (0) (by decide) ?_
    refine k_zeq C 25 dX8_behind_20 (by decide) (fun c20_6 => ?_) (fun c20_6 => ?_)
    ·
      refine k_aloadn C 0 dX8_behind_25 rfl ?_
      refine k_aloadn C 0 dX8_behind_26 rfl ?_
      refine k_getr C (j := 3) (k' := k + 2) kcl_X8 fl_X8_13 hk.1 (by decide) rfl dX8_behind_27 ?_
      refine k_vi C (as := [.ref (sk_ad O (k + 2))]) yvX8_first viX8_first ml_X8_204 (m_X8_first l C.2.2.2.1 (sk_ms M k 0 (0)) (k := k) (hk := hk) (a := k + 2) (ha := hk.2.2.1) (m := m) (hm4 := hm4) (hm := (by rw [sk_nf (by omega)]; exact hm)) (hmj := (by rw [sk_nf (by omega)]; exact hmj)) (hap := (by omega))) hk.1 rfl rfl rfl (Nat.le_of_ble_eq_true rfl) (by decide) dX8_behind_30 (fun x30_7 M30_7 h30_7 => ?_)
      rw [h30_7.2]
      have hfv := ml_fv h30_7.1
      rw [sk_nf (by omega), mo_fv, if_neg (by omega)] at hfv
      have hwl := mo_w_lt (T := mo_T (M (k + 2))) (S := mo_S (M (k + 2))) m (by omega)
      refine k_istoren C [1, 2, 0] [(0, .ref (sk_ad O k)), (1, .int s), (2, .int x30_7)] dX8_behind_33 (by decide) rfl ?_
      refine k_aloadn C 0 dX8_behind_34 rfl ?_
      refine k_getr C (j := 19) (k' := k + 14) kcl_X8 fl_X8_50 hk.1 (by decide) rfl dX8_behind_35 ?_
      refine k_iloadn C 2 dX8_behind_38 rfl ?_
      refine k_ialdn C (mo_w (mo_T (M (k + 2))) (mo_S (M (k + 2))) m) hk.2.2.2.2.2.2.2.2.2.2.2.2.2.2.1 hfv (by omega) dX8_behind_39 ?_
      refine k_top (mo_T (M (k + 2)) (mo_w (mo_T (M (k + 2))) (mo_S (M (k + 2))) m)) (by rw [(ml_l_T m hwl).1, sk_nf (by omega)]) ?_
      refine k_aloadn C 0 dX8_behind_40 rfl ?_
      refine k_getr C (j := 19) (k' := k + 14) kcl_X8 fl_X8_50 hk.1 (by decide) rfl dX8_behind_41 ?_
      refine k_iloadn C 1 dX8_behind_44 rfl ?_
      refine k_ialdn C s.toNatClampNeg hk.2.2.2.2.2.2.2.2.2.2.2.2.2.2.1 ix (by omega) dX8_behind_45 ?_
      refine k_top (mo_T (M (k + 2)) s.toNatClampNeg) (by rw [(ml_l_T m ib).1, sk_nf (by omega)]) ?_
      refine k_isub C dX8_behind_46 ?_
      exact ret _ _ _ _ dX8_behind_47 rfl (by exact mo_z0 (er1p nc9_2) rfl (mo_g.ma mo_g.r _))
    ·
      exact absurd c20_6 (by decide)

set_option maxHeartbeats 4000000 in
set_option maxRecDepth 100000 in
theorem m_X8_needs (l : Launch) {O : sk_O} (hO : sk_inj O) (M : sk_M) (k : Nat) (hk : sk_isM O k) (s e : Int32) (m : Nat) (hm4 : m ≤ 4) (hm : M (k + 2) 0 = nI m) (hmj : ∀ s, s < m → mo_wp (M (k + 2)) s) : sk_Mi l yX8_needs (sk_w yX8_needs cX8_needs 8 (some .int)) ({ frames := 11, cells := 0, slots := 0, locals := 267 }) O [.ref (sk_ad O k), .int s, .int e] M (mo_nz M k s e m) := by
  refine sk_mi (by decide) ⟨rfl, rfl⟩ hO (Nat.le_of_ble_eq_true rfl) (fun X A Q C ret => ?_)
  show sk_W l X O A Q 8 0 0 M 0 [(0, .ref (sk_ad O k)), (1, .int s), (2, .int e)] []
  have hw : mo_wf (M (k + 2)) := ⟨m, hm4, hm, hmj⟩
  refine k_aloadn C 0 dX8_needs_0 rfl ?_
  refine k_aloadn C 0 dX8_needs_1 rfl ?_
  refine k_getr C (j := 3) (k' := k + 2) kcl_X8 fl_X8_13 hk.1 (by decide) rfl dX8_needs_2 ?_
  refine k_iloadn C 1 dX8_needs_5 rfl ?_
  refine k_iloadn C 2 dX8_needs_6 rfl ?_
  refine k_si C (as := [.ref (sk_ad O (k + 2)), .int s, .int e]) yvX8_isElement vsX8_isElement ml_X8_76 (m_X8_isElement l C.2.2.2.1 M (a := k + 2) (ha := hk.2.2.1) (s := s) (e := e) (hw := hw)) rfl rfl (Nat.le_of_ble_eq_true rfl) (by decide) dX8_needs_7 (fun x7_1 M7_1 h7_1 => ?_)
  rw [h7_1.1, h7_1.2]
  refine k_zeq C 17 dX8_needs_10 (by decide) (fun c10_2 => ?_) (fun c10_2 => ?_)
  ·
    have nc10_2 : ¬ (mo_he (M (k + 2)) s e) := sk_b1.mp c10_2
    refine k_iconst C (1) dX8_needs_17 (by decide) ?_
    refine k_vi C (as := [.int (1)]) yvX8_refused viX8_refused ml_X8_164 (m_X8_refused l C.2.2.2.1 M (k := k) (x := (1)) (hk := hk)) hk.1 rfl rfl rfl (Nat.le_of_ble_eq_true rfl) (by decide) dX8_needs_18 (fun x18_3 M18_3 h18_3 => ?_)
    rw [h18_3.1, h18_3.2]
    refine k_top (1) (by decide) ?_
    refine k_zeq C 26 dX8_needs_21 (by decide) (fun c21_4 => ?_) (fun c21_4 => ?_)
    ·
      exact absurd c21_4 (by decide)
    ·
      refine k_iconst C (0) dX8_needs_24 (by decide) ?_
      exact ret _ _ _ _ dX8_needs_25 rfl (by exact Or.inl ⟨nc10_2, rfl, rfl⟩)
  ·
    have nc10_2 : mo_he (M (k + 2)) s e := Classical.byContradiction (fun h => c10_2 (sk_b1.mpr h))
    obtain ⟨ix, ib⟩ := sk_ix nc10_2.1 hm (by omega)
    obtain ⟨N, hN12, hN, hNp⟩ := id (hmj _ ib)
    have hcN : mo_c (M (k + 2)) s.toNatClampNeg = N := (by show (M (k + 2) _).toNatClampNeg = N; rw [hN, nI_clamp (by omega)])
    rw [← hcN] at hN12 hN hNp
    obtain ⟨ex, eb⟩ := sk_ix nc10_2.2 hN (by omega)
    obtain ⟨hpe, hpe3⟩ := mo_nn hNp eb
    refine k_iconst C (0) dX8_needs_13 (by decide) ?_
    refine k_goto C 18 dX8_needs_14 (by decide) ?_
    refine k_vi C (as := [.int (0)]) yvX8_refused viX8_refused ml_X8_164 (m_X8_refused l C.2.2.2.1 M (k := k) (x := (0)) (hk := hk)) hk.1 rfl rfl rfl (Nat.le_of_ble_eq_true rfl) (by decide) dX8_needs_18 (fun x18_5 M18_5 h18_5 => ?_)
    rw [h18_5.1, h18_5.2]
    refine k_top (0) (by decide) ?_
    refine k_zeq C 26 dX8_needs_21 (by decide) (fun c21_6 => ?_) (fun c21_6 => ?_)
    ·
      refine k_aloadn C 0 dX8_needs_26 rfl ?_
      refine k_aloadn C 0 dX8_needs_27 rfl ?_
      refine k_getr C (j := 3) (k' := k + 2) kcl_X8 fl_X8_13 hk.1 (by decide) rfl dX8_needs_28 ?_
      refine k_vv C (as := [.ref (sk_ad O (k + 2))]) yvX8_reckonAll viX8_reckonAll ml_X8_149 (m_X8_reckonAll l C.2.2.2.1 (sk_ms M k 0 (0)) (k := k) (hk := hk) (a := k + 2) (ha := hk.2.2.1) (m := m) (hm4 := hm4) (hm := (by rw [sk_nf (by omega)]; exact hm)) (hmj := (by rw [sk_nf (by omega)]; exact hmj)) (hap := (by omega))) hk.1 rfl rfl rfl (Nat.le_of_ble_eq_true rfl) (by decide) dX8_needs_31 (fun M31_7 h31_7 => ?_)
      rw [h31_7]
      refine k_aloadn C 0 dX8_needs_34 rfl ?_
      refine k_aloadn C 0 dX8_needs_35 rfl ?_
      refine k_getr C (j := 3) (k' := k + 2) kcl_X8 fl_X8_13 hk.1 (by decide) rfl dX8_needs_36 ?_
      refine k_iloadn C 1 dX8_needs_39 rfl ?_
      refine k_iloadn C 2 dX8_needs_40 rfl ?_
      refine k_vv C (as := [.ref (sk_ad O (k + 2)), .int s, .int e]) yvX8_weigh viX8_weigh ml_X8_135 (m_X8_weigh l C.2.2.2.1 (ml_l (sk_ms M k 0 (0)) k (k + 2) m) (k := k) (hk := hk) (a := k + 2) (ha := hk.2.2.1) (s := s.toNatClampNeg) (xs := s) (hxs := ix) (e := e.toNatClampNeg) (xe := e) (hxe := ex) (hs := (by omega)) (he := (by omega)) (hp := (by intro q hq; have h9 := hNp q (by omega); rw [ml_l_f (by omega) (by omega) _, sk_nf (by omega)]; exact h9)) (hap := (by omega))) hk.1 rfl rfl rfl (Nat.le_of_ble_eq_true rfl) (by decide) dX8_needs_41 (fun M41_8 h41_8 => ?_)
      rw [h41_8]
      refine k_aloadn C 0 dX8_needs_44 rfl ?_
      refine k_getr C (j := 14) (k' := k + 12) kcl_X8 fl_X8_44 hk.1 (by decide) rfl dX8_needs_45 ?_
      refine k_iloadn C 2 dX8_needs_48 rfl ?_
      refine k_ialdn C e.toNatClampNeg hk.2.2.2.2.2.2.2.2.2.2.2.2.1 ex (by omega) dX8_needs_49 ?_
      refine k_top (mo_gr (M (k + 2)) s.toNatClampNeg e.toNatClampNeg) (by rw [mw_m_g, ml_l_f (by omega) (by omega) _, sk_nf (by omega)]) ?_
      refine k_istoren C [1, 2, 3, 0] [(0, .ref (sk_ad O k)), (1, .int s), (2, .int e), (3, .int (mo_gr (M (k + 2)) s.toNatClampNeg e.toNatClampNeg))] dX8_needs_50 (by decide) rfl ?_
      refine k_aloadn C 0 dX8_needs_51 rfl ?_
      refine k_getr C (j := 19) (k' := k + 14) kcl_X8 fl_X8_50 hk.1 (by decide) rfl dX8_needs_52 ?_
      refine k_iloadn C 1 dX8_needs_55 rfl ?_
      refine k_ialdn C s.toNatClampNeg hk.2.2.2.2.2.2.2.2.2.2.2.2.2.2.1 ix (by omega) dX8_needs_56 ?_
      refine k_top ((ml_l (sk_ms M k 0 (0)) k (k + 2) m) (k + 14) s.toNatClampNeg) (by rw [mw_m_f (by omega)]) ?_
      refine k_top (mo_T (M (k + 2)) s.toNatClampNeg) (by rw [(ml_l_T m ib).1, sk_nf (by omega)]) ?_
      refine k_istore C [1, 2, 3, 4, 0] [(0, .ref (sk_ad O k)), (1, .int s), (2, .int e), (3, .int (mo_gr (M (k + 2)) s.toNatClampNeg e.toNatClampNeg)), (4, .int (mo_T (M (k + 2)) s.toNatClampNeg))] dX8_needs_57 (by decide) rfl ?_
      refine k_aloadn C 0 dX8_needs_59 rfl ?_
      refine k_getr C (j := 20) (k' := k + 15) kcl_X8 fl_X8_53 hk.1 (by decide) rfl dX8_needs_60 ?_
      refine k_iloadn C 1 dX8_needs_63 rfl ?_
      refine k_ialdn C s.toNatClampNeg hk.2.2.2.2.2.2.2.2.2.2.2.2.2.2.2 ix (by omega) dX8_needs_64 ?_
      refine k_top ((ml_l (sk_ms M k 0 (0)) k (k + 2) m) (k + 15) s.toNatClampNeg) (by rw [mw_m_f (by omega)]) ?_
      refine k_top (mo_S (M (k + 2)) s.toNatClampNeg) (by rw [(ml_l_T m ib).2, sk_nf (by omega)]) ?_
      refine k_istore C [1, 2, 3, 4, 5, 0] [(0, .ref (sk_ad O k)), (1, .int s), (2, .int e), (3, .int (mo_gr (M (k + 2)) s.toNatClampNeg e.toNatClampNeg)), (4, .int (mo_T (M (k + 2)) s.toNatClampNeg)), (5, .int (mo_S (M (k + 2)) s.toNatClampNeg))] dX8_needs_65 (by decide) rfl ?_
      refine k_iconst C (0) dX8_needs_67 (by decide) ?_
      refine k_istore C [1, 2, 3, 4, 5, 6, 0] [(0, .ref (sk_ad O k)), (1, .int s), (2, .int e), (3, .int (mo_gr (M (k + 2)) s.toNatClampNeg e.toNatClampNeg)), (4, .int (mo_T (M (k + 2)) s.toNatClampNeg)), (5, .int (mo_S (M (k + 2)) s.toNatClampNeg)), (6, .int (0))] dX8_needs_68 (by decide) rfl ?_
      refine k_iconst C (0) dX8_needs_70 (by decide) ?_
      refine k_istore C [1, 2, 3, 4, 5, 6, 7, 0] [(0, .ref (sk_ad O k)), (1, .int s), (2, .int e), (3, .int (mo_gr (M (k + 2)) s.toNatClampNeg e.toNatClampNeg)), (4, .int (mo_T (M (k + 2)) s.toNatClampNeg)), (5, .int (mo_S (M (k + 2)) s.toNatClampNeg)), (6, .int (0)), (7, .int (0))] dX8_needs_71 (by decide) rfl ?_
      have L73 : ∀ j, j ≤ mo_n (M (k + 2)) s.toNatClampNeg e.toNatClampNeg → sk_W l X O A Q 8 0 0 (mw_m (ml_l (sk_ms M k 0 (0)) k (k + 2) m) k (k + 2) s.toNatClampNeg e.toNatClampNeg) 73 [(0, .ref (sk_ad O k)), (1, .int s), (2, .int e), (3, .int (mo_gr (M (k + 2)) s.toNatClampNeg e.toNatClampNeg)), (4, .int (mo_T (M (k + 2)) s.toNatClampNeg)), (5, .int (mo_S (M (k + 2)) s.toNatClampNeg)), (6, .int (mo_sm (M (k + 2)) s.toNatClampNeg e.toNatClampNeg j)), (7, .int (nI j))] [] := by
        refine sk_loop (mo_n (M (k + 2)) s.toNatClampNeg e.toNatClampNeg) (fun j hi73 ih73 => ?_)
        refine k_iload C 7 dX8_needs_73 rfl ?_
        refine k_aloadn C 0 dX8_needs_75 rfl ?_
        refine k_getr C (j := 3) (k' := k + 2) kcl_X8 fl_X8_13 hk.1 (by decide) rfl dX8_needs_76 ?_
        refine k_iloadn C 1 dX8_needs_79 rfl ?_
        refine k_iloadn C 2 dX8_needs_80 rfl ?_
        refine k_si C (as := [.int s, .int e]) yvX8_elementAt vsX8_elementAt ml_X8_60 (m_X8_elementAt l C.2.2.2.1 (mw_m (ml_l (sk_ms M k 0 (0)) k (k + 2) m) k (k + 2) s.toNatClampNeg e.toNatClampNeg) (s := s.toNatClampNeg) (xs := s) (hxs := ix) (e := e.toNatClampNeg) (xe := e) (hxe := ex)) rfl rfl (Nat.le_of_ble_eq_true rfl) (by decide) dX8_needs_81 (fun x81_9 M81_9 h81_9 => ?_)
        rw [h81_9.1, h81_9.2]
        refine k_iconst C (1) dX8_needs_84 (by decide) ?_
        refine k_iadd C dX8_needs_85 ?_
        refine k_ialdn C (23 + 233 * s.toNatClampNeg + 18 * e.toNatClampNeg + 1) hk.2.2.1 (sk_nadd rfl (rfl : ((1) : Int32) = nI 1)) (by omega) dX8_needs_86 ?_
        refine k_top (M (k + 2) (23 + 233 * s.toNatClampNeg + 18 * e.toNatClampNeg + 1)) (by rw [mw_m_f (by omega), ml_l_f (by omega) (by omega) _, sk_ne (by omega)]) ?_
        refine k_cge C 130 dX8_needs_87 (by decide) (fun c87_10 => ?_) (fun c87_10 => ?_)
        ·
          have nc87_10 : mo_n (M (k + 2)) s.toNatClampNeg e.toNatClampNeg ≤ j := (sk_eI (a := mo_n (M (k + 2)) s.toNatClampNeg e.toNatClampNeg) (b := j) hpe rfl (by omega) (by omega)).mp c87_10
          obtain rfl : mo_n (M (k + 2)) s.toNatClampNeg e.toNatClampNeg = j := (by omega)
          refine k_bipush C (-15) dX8_needs_130 (by decide) ?_
          refine k_istore C [1, 2, 3, 4, 5, 6, 7, 0] [(0, .ref (sk_ad O k)), (1, .int s), (2, .int e), (3, .int (mo_gr (M (k + 2)) s.toNatClampNeg e.toNatClampNeg)), (4, .int (mo_T (M (k + 2)) s.toNatClampNeg)), (5, .int (mo_S (M (k + 2)) s.toNatClampNeg)), (6, .int (mo_sm (M (k + 2)) s.toNatClampNeg e.toNatClampNeg (mo_n (M (k + 2)) s.toNatClampNeg e.toNatClampNeg))), (7, .int (-15))] dX8_needs_132 (by decide) rfl ?_
          have L134 : ∀ i, i ≤ 31 → (∀ j, j < i → ¬ mo_nd (M (k + 2)) s.toNatClampNeg e.toNatClampNeg m j = 0) → sk_W l X O A Q 8 0 0 (mn_l (mw_m (ml_l (sk_ms M k 0 (0)) k (k + 2) m) k (k + 2) s.toNatClampNeg e.toNatClampNeg) k s.toNatClampNeg (mo_T (M (k + 2)) s.toNatClampNeg) (mo_S (M (k + 2)) s.toNatClampNeg) (mo_gr (M (k + 2)) s.toNatClampNeg e.toNatClampNeg) (mo_sm (M (k + 2)) s.toNatClampNeg e.toNatClampNeg (mo_n (M (k + 2)) s.toNatClampNeg e.toNatClampNeg)) i) 134 [(0, .ref (sk_ad O k)), (1, .int s), (2, .int e), (3, .int (mo_gr (M (k + 2)) s.toNatClampNeg e.toNatClampNeg)), (4, .int (mo_T (M (k + 2)) s.toNatClampNeg)), (5, .int (mo_S (M (k + 2)) s.toNatClampNeg)), (6, .int (mo_sm (M (k + 2)) s.toNatClampNeg e.toNatClampNeg (mo_n (M (k + 2)) s.toNatClampNeg e.toNatClampNeg))), (7, .int (nd_k i))] [] := by
            refine sk_loop 31 (fun i hi134 ih134 => ?_)
            intro hno
            have hcl := mp_c_le (mn_T (M (k + 2)) s.toNatClampNeg e.toNatClampNeg i) (mn_S (M (k + 2)) s.toNatClampNeg e.toNatClampNeg i) s.toNatClampNeg m
            rw [show mp_c (mn_T (M (k + 2)) s.toNatClampNeg e.toNatClampNeg i) (mn_S (M (k + 2)) s.toNatClampNeg e.toNatClampNeg i) s.toNatClampNeg m = mo_nd (M (k + 2)) s.toNatClampNeg e.toNatClampNeg m i from rfl] at hcl
            refine k_iload C 7 dX8_needs_134 rfl ?_
            refine k_bipush C (15) dX8_needs_136 (by decide) ?_
            refine k_cgt C 203 dX8_needs_138 (by decide) (fun c138_11 => ?_) (fun c138_11 => ?_)
            ·
              have h31 := (nd_c i (by omega)).mp c138_11
              obtain rfl : i = 31 := (by omega)
              refine k_iconst C (-1) dX8_needs_203 (by decide) ?_
              exact ret _ _ _ _ dX8_needs_204 rfl (by exact Or.inr ⟨nc10_2, Or.inr ⟨hno, rfl⟩, mo_gz (mo_g.mn (mo_g.mw (mo_g.ma mo_g.r _)) 31)⟩)
            ·
              have h31 : i < 31 := by
                have h5 : ¬ 31 ≤ i := fun h => c138_11 ((nd_c i (by omega)).mpr h)
                omega
              refine k_aloadn C 0 dX8_needs_141 rfl ?_
              refine k_getr C (j := 19) (k' := k + 14) kcl_X8 fl_X8_50 hk.1 (by decide) rfl dX8_needs_142 ?_
              refine k_iloadn C 1 dX8_needs_145 rfl ?_
              refine k_iload C 4 dX8_needs_146 rfl ?_
              refine k_iloadn C 3 dX8_needs_148 rfl ?_
              refine k_isub C dX8_needs_149 ?_
              refine k_iload C 7 dX8_needs_150 rfl ?_
              refine k_iload C 6 dX8_needs_152 rfl ?_
              refine k_imul C dX8_needs_154 ?_
              refine k_si C (as := [.int ((nd_k i) * (mo_sm (M (k + 2)) s.toNatClampNeg e.toNatClampNeg (mo_n (M (k + 2)) s.toNatClampNeg e.toNatClampNeg)))]) yvX8_graded vsX8_graded ml_X8_126 (m_X8_graded l C.2.2.2.1 (mn_l (mw_m (ml_l (sk_ms M k 0 (0)) k (k + 2) m) k (k + 2) s.toNatClampNeg e.toNatClampNeg) k s.toNatClampNeg (mo_T (M (k + 2)) s.toNatClampNeg) (mo_S (M (k + 2)) s.toNatClampNeg) (mo_gr (M (k + 2)) s.toNatClampNeg e.toNatClampNeg) (mo_sm (M (k + 2)) s.toNatClampNeg e.toNatClampNeg (mo_n (M (k + 2)) s.toNatClampNeg e.toNatClampNeg)) i) (v := (nd_k i) * (mo_sm (M (k + 2)) s.toNatClampNeg e.toNatClampNeg (mo_n (M (k + 2)) s.toNatClampNeg e.toNatClampNeg)))) rfl rfl (Nat.le_of_ble_eq_true rfl) (by decide) dX8_needs_155 (fun x155_12 M155_12 h155_12 => ?_)
              rw [h155_12.1, h155_12.2]
              refine k_iadd C dX8_needs_158 ?_
              refine k_iast C s.toNatClampNeg hk.2.2.2.2.2.2.2.2.2.2.2.2.2.2.1 ix (by omega) dX8_needs_159 ?_
              refine k_aloadn C 0 dX8_needs_160 rfl ?_
              refine k_getr C (j := 20) (k' := k + 15) kcl_X8 fl_X8_53 hk.1 (by decide) rfl dX8_needs_161 ?_
              refine k_iloadn C 1 dX8_needs_164 rfl ?_
              refine k_iload C 5 dX8_needs_165 rfl ?_
              refine k_iloadn C 3 dX8_needs_167 rfl ?_
              refine k_isub C dX8_needs_168 ?_
              refine k_iload C 7 dX8_needs_169 rfl ?_
              refine k_iload C 6 dX8_needs_171 rfl ?_
              refine k_imul C dX8_needs_173 ?_
              refine k_si C (as := [.int ((nd_k i) * (mo_sm (M (k + 2)) s.toNatClampNeg e.toNatClampNeg (mo_n (M (k + 2)) s.toNatClampNeg e.toNatClampNeg)))]) yvX8_graded vsX8_graded ml_X8_126 (m_X8_graded l C.2.2.2.1 (sk_ms (mn_l (mw_m (ml_l (sk_ms M k 0 (0)) k (k + 2) m) k (k + 2) s.toNatClampNeg e.toNatClampNeg) k s.toNatClampNeg (mo_T (M (k + 2)) s.toNatClampNeg) (mo_S (M (k + 2)) s.toNatClampNeg) (mo_gr (M (k + 2)) s.toNatClampNeg e.toNatClampNeg) (mo_sm (M (k + 2)) s.toNatClampNeg e.toNatClampNeg (mo_n (M (k + 2)) s.toNatClampNeg e.toNatClampNeg)) i) (k + 14) s.toNatClampNeg (((mo_T (M (k + 2)) s.toNatClampNeg) - (mo_gr (M (k + 2)) s.toNatClampNeg e.toNatClampNeg)) + (mo_gd ((nd_k i) * (mo_sm (M (k + 2)) s.toNatClampNeg e.toNatClampNeg (mo_n (M (k + 2)) s.toNatClampNeg e.toNatClampNeg)))))) (v := (nd_k i) * (mo_sm (M (k + 2)) s.toNatClampNeg e.toNatClampNeg (mo_n (M (k + 2)) s.toNatClampNeg e.toNatClampNeg)))) rfl rfl (Nat.le_of_ble_eq_true rfl) (by decide) dX8_needs_174 (fun x174_13 M174_13 h174_13 => ?_)
              rw [h174_13.1, h174_13.2]
              refine k_iadd C dX8_needs_177 ?_
              refine k_iast C s.toNatClampNeg hk.2.2.2.2.2.2.2.2.2.2.2.2.2.2.2 ix (by omega) dX8_needs_178 ?_
              refine k_aloadn C 0 dX8_needs_179 rfl ?_
              refine k_aloadn C 0 dX8_needs_180 rfl ?_
              refine k_getr C (j := 3) (k' := k + 2) kcl_X8 fl_X8_13 hk.1 (by decide) rfl dX8_needs_181 ?_
              refine k_iloadn C 1 dX8_needs_184 rfl ?_
              refine k_vi C (as := [.ref (sk_ad O (k + 2)), .int s]) yvX8_place viX8_place ml_X8_153 (m_X8_place l C.2.2.2.1 (sk_ms (sk_ms (mn_l (mw_m (ml_l (sk_ms M k 0 (0)) k (k + 2) m) k (k + 2) s.toNatClampNeg e.toNatClampNeg) k s.toNatClampNeg (mo_T (M (k + 2)) s.toNatClampNeg) (mo_S (M (k + 2)) s.toNatClampNeg) (mo_gr (M (k + 2)) s.toNatClampNeg e.toNatClampNeg) (mo_sm (M (k + 2)) s.toNatClampNeg e.toNatClampNeg (mo_n (M (k + 2)) s.toNatClampNeg e.toNatClampNeg)) i) (k + 14) s.toNatClampNeg (((mo_T (M (k + 2)) s.toNatClampNeg) - (mo_gr (M (k + 2)) s.toNatClampNeg e.toNatClampNeg)) + (mo_gd ((nd_k i) * (mo_sm (M (k + 2)) s.toNatClampNeg e.toNatClampNeg (mo_n (M (k + 2)) s.toNatClampNeg e.toNatClampNeg)))))) (k + 15) s.toNatClampNeg (((mo_S (M (k + 2)) s.toNatClampNeg) - (mo_gr (M (k + 2)) s.toNatClampNeg e.toNatClampNeg)) + (mo_gd ((nd_k i) * (mo_sm (M (k + 2)) s.toNatClampNeg e.toNatClampNeg (mo_n (M (k + 2)) s.toNatClampNeg e.toNatClampNeg)))))) (k := k) (hk := hk) (a := k + 2) (ha := hk.2.2.1) (s := s.toNatClampNeg) (xs := s) (hxs := ix) (m := m) (hs := (by omega)) (hm4 := hm4) (hm := (by rw [sk_nf (by omega), sk_nf (by omega), mn_l_f (by omega) _, mw_m_f (by omega), ml_l_f (by omega) (by omega) _, sk_nf (by omega)]; exact hm))) hk.1 rfl rfl rfl (Nat.le_of_ble_eq_true rfl) (by decide) dX8_needs_185 (fun x185_14 M185_14 h185_14 => ?_)
              rw [h185_14.1, h185_14.2]
              refine k_top (nI (mo_nd (M (k + 2)) s.toNatClampNeg e.toNatClampNeg m i)) (congrArg nI (mn_pl (N := mw_m (ml_l (sk_ms M k 0 (0)) k (k + 2) m) k (k + 2) s.toNatClampNeg e.toNatClampNeg) ib (fun q hq => by rw [mw_m_f (by omega), mw_m_f (by omega)]; have h9 := ml_l_T (M := sk_ms M k 0 (0)) (k := k) (a := k + 2) m hq; rw [sk_nf (by omega)] at h9; exact h9))) ?_
              refine k_zne C 197 dX8_needs_188 (by decide) (fun c188_15 => ?_) (fun c188_15 => ?_)
              ·
                have nc188_15 : ¬ (mo_nd (M (k + 2)) s.toNatClampNeg e.toNatClampNeg m i = 0) := fun h => c188_15 ((sk_qI (a := mo_nd (M (k + 2)) s.toNatClampNeg e.toNatClampNeg m i) (b := 0) rfl (rfl : ((0) : Int32) = nI 0) (by omega) (by omega)).mpr h)
                refine k_iinc C 7 (nd_k i + 1) [1, 2, 3, 4, 5, 6, 7, 0] [(0, .ref (sk_ad O k)), (1, .int s), (2, .int e), (3, .int (mo_gr (M (k + 2)) s.toNatClampNeg e.toNatClampNeg)), (4, .int (mo_T (M (k + 2)) s.toNatClampNeg)), (5, .int (mo_S (M (k + 2)) s.toNatClampNeg)), (6, .int (mo_sm (M (k + 2)) s.toNatClampNeg e.toNatClampNeg (mo_n (M (k + 2)) s.toNatClampNeg e.toNatClampNeg))), (7, .int (nd_k i + 1))] dX8_needs_197 rfl rfl (by decide) rfl ?_
                refine k_goto C 134 dX8_needs_200 (by decide) ?_
                exact ih134 (by omega) (fun j hj => by
                  rcases Nat.lt_succ_iff_lt_or_eq.mp hj with h | h
                  · exact hno j h
                  · rw [h]
                    exact nc188_15)
              ·
                have nc188_15 : mo_nd (M (k + 2)) s.toNatClampNeg e.toNatClampNeg m i = 0 := (sk_qI (a := mo_nd (M (k + 2)) s.toNatClampNeg e.toNatClampNeg m i) (b := 0) rfl (rfl : ((0) : Int32) = nI 0) (by omega) (by omega)).mp c188_15
                refine k_bipush C (100) dX8_needs_191 (by decide) ?_
                refine k_iload C 7 dX8_needs_193 rfl ?_
                refine k_iadd C dX8_needs_195 ?_
                exact ret _ _ _ _ dX8_needs_196 rfl (by exact Or.inr ⟨nc10_2, Or.inl ⟨i, h31, hno, nc188_15, rfl⟩, mo_gz (mo_g.mn (mo_g.mw (mo_g.ma mo_g.r _)) (i + 1))⟩)
          exact L134 0 (Nat.zero_le _) (fun j hj => absurd hj (Nat.not_lt_zero _))
        ·
          have nc87_10 : ¬ (mo_n (M (k + 2)) s.toNatClampNeg e.toNatClampNeg ≤ j) := fun h => c87_10 ((sk_eI (a := mo_n (M (k + 2)) s.toNatClampNeg e.toNatClampNeg) (b := j) hpe rfl (by omega) (by omega)).mpr h)
          refine k_aloadn C 0 dX8_needs_90 rfl ?_
          refine k_getr C (j := 10) (k' := k + 8) kcl_X8 fl_X8_32 hk.1 (by decide) rfl dX8_needs_91 ?_
          refine k_iconst C (3) dX8_needs_94 (by decide) ?_
          refine k_iloadn C 2 dX8_needs_95 rfl ?_
          refine k_imul C dX8_needs_96 ?_
          refine k_iload C 7 dX8_needs_97 rfl ?_
          refine k_iadd C dX8_needs_99 ?_
          refine k_ialdn C (3 * e.toNatClampNeg + j) hk.2.2.2.2.2.2.2.2.1 (sk_nadd (sk_nmul (rfl : ((3) : Int32) = nI 3) ex) rfl) (by omega) dX8_needs_100 ?_
          refine k_top (mo_v (M (k + 2)) s.toNatClampNeg e.toNatClampNeg j) (by rw [(mw_m_v (by rw [ml_l_f (by omega) (by omega) _, sk_nf (by omega)]; omega)).1, ml_l_f (by omega) (by omega) _, sk_nf (by omega)]) ?_
          refine k_iload C 6 dX8_needs_101 rfl ?_
          have J122 : sk_W l X O A Q 8 0 0 (mw_m (ml_l (sk_ms M k 0 (0)) k (k + 2) m) k (k + 2) s.toNatClampNeg e.toNatClampNeg) 122 [(0, .ref (sk_ad O k)), (1, .int s), (2, .int e), (3, .int (mo_gr (M (k + 2)) s.toNatClampNeg e.toNatClampNeg)), (4, .int (mo_T (M (k + 2)) s.toNatClampNeg)), (5, .int (mo_S (M (k + 2)) s.toNatClampNeg)), (6, .int (mo_sm (M (k + 2)) s.toNatClampNeg e.toNatClampNeg j)), (7, .int (nI j))] [.int (mo_sm (M (k + 2)) s.toNatClampNeg e.toNatClampNeg (j + 1))] := by
            refine k_istore C [1, 2, 3, 4, 5, 6, 0, 7] [(0, .ref (sk_ad O k)), (1, .int s), (2, .int e), (3, .int (mo_gr (M (k + 2)) s.toNatClampNeg e.toNatClampNeg)), (4, .int (mo_T (M (k + 2)) s.toNatClampNeg)), (5, .int (mo_S (M (k + 2)) s.toNatClampNeg)), (6, .int (mo_sm (M (k + 2)) s.toNatClampNeg e.toNatClampNeg (j + 1))), (7, .int (nI j))] dX8_needs_122 (by decide) rfl ?_
            refine k_iinc C 7 (nI (j + 1)) [1, 2, 3, 4, 5, 6, 7, 0] [(0, .ref (sk_ad O k)), (1, .int s), (2, .int e), (3, .int (mo_gr (M (k + 2)) s.toNatClampNeg e.toNatClampNeg)), (4, .int (mo_T (M (k + 2)) s.toNatClampNeg)), (5, .int (mo_S (M (k + 2)) s.toNatClampNeg)), (6, .int (mo_sm (M (k + 2)) s.toNatClampNeg e.toNatClampNeg (j + 1))), (7, .int (nI (j + 1)))] dX8_needs_124 rfl (nI_add _ _) (by decide) rfl ?_
            refine k_goto C 73 dX8_needs_127 (by decide) ?_
            exact ih73 (by omega)
          refine k_cle C 120 dX8_needs_103 (by decide) (fun c103_16 => ?_) (fun c103_16 => ?_)
          ·
            refine k_iload C 6 dX8_needs_120 rfl ?_
            exact k_eq rfl rfl rfl (congrArg (fun z => [Value.int z]) (mo_sz c103_16)) J122
          ·
            refine k_aloadn C 0 dX8_needs_106 rfl ?_
            refine k_getr C (j := 10) (k' := k + 8) kcl_X8 fl_X8_32 hk.1 (by decide) rfl dX8_needs_107 ?_
            refine k_iconst C (3) dX8_needs_110 (by decide) ?_
            refine k_iloadn C 2 dX8_needs_111 rfl ?_
            refine k_imul C dX8_needs_112 ?_
            refine k_iload C 7 dX8_needs_113 rfl ?_
            refine k_iadd C dX8_needs_115 ?_
            refine k_ialdn C (3 * e.toNatClampNeg + j) hk.2.2.2.2.2.2.2.2.1 (sk_nadd (sk_nmul (rfl : ((3) : Int32) = nI 3) ex) rfl) (by omega) dX8_needs_116 ?_
            refine k_top (mo_v (M (k + 2)) s.toNatClampNeg e.toNatClampNeg j) (by rw [(mw_m_v (by rw [ml_l_f (by omega) (by omega) _, sk_nf (by omega)]; omega)).1, ml_l_f (by omega) (by omega) _, sk_nf (by omega)]) ?_
            refine k_goto C 122 dX8_needs_117 (by decide) ?_
            exact k_eq rfl rfl rfl (congrArg (fun z => [Value.int z]) (mo_sy (Int32.not_le.mp c103_16))) J122
      exact L73 0 (Nat.zero_le _)
    ·
      exact absurd c21_6 (by decide)

