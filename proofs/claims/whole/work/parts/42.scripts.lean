/-! The model: commands, scripts -/
def mc_v (t : Nat → Int32) (m : Nat) (o a b c d : Int32) : Int32 :=
  if o = 1 ∨ o = 3 then (if 1 < d then 0 else if mo_he t a (10 * b + c) then 1 else 0)
  else if o = 2 then (if mo_wc t a b c d = 0 then (if t (25 + 233 * a.toNatClampNeg + 18 * b.toNatClampNeg + 3 * c.toNatClampNeg + 2) < 0 then 0 else 1) else 0)
  else if o = 4 then (if 0 < 10 * b + c then 0 else if mo_hs t a then 1 else 0)
  else if o = 5 then (if st_fi a (100 * b + 10 * c + d) then 1 else 0)
  else if o = 6 then (if 0 < 10 * b + c then 0 else if mo_hs t a then (if nI (mo_pl t a.toNatClampNeg m) = d then 1 else 0) else 0)
  else if o = 7 then (if mo_hs t a then (if mo_T t a.toNatClampNeg < 10 * (100 * b + 10 * c + d) then 0 else 1) else 0)
  else if o = 8 then (if mo_hp t a b c then (if mo_wy t a.toNatClampNeg b.toNatClampNeg c.toNatClampNeg = d then 1 else 0) else 0)
  else if o = 9 then (if a = 0 then (if d = 0 then (if 10 * b + c < sk_sum (fun s => sk_sum (fun e => t (23 + 233 * s + 18 * e + 17)) (mo_c t s)) m then 0 else 1) else 0) else 0) else 0
def mc_t (t : Nat → Int32) (o a b c d : Int32) : Nat → Int32 :=
  if o = 1 ∨ o = 3 then (if 1 < d then t else if mo_he t a (10 * b + c) then mu_u t (23 + 233 * a.toNatClampNeg + 18 * (10 * b + c).toNatClampNeg + (if o = 1 then 16 else 17)) d else t)
  else if o = 2 then (if mo_wc t a b c d = 0 then mu_u t (25 + 233 * a.toNatClampNeg + 18 * b.toNatClampNeg + 3 * c.toNatClampNeg + 2) d else t)
  else if o = 4 then (if 0 < 10 * b + c then t else if mo_hs t a then mu_u t (6 + 233 * a.toNatClampNeg + 1) d else t)
  else if o = 5 then (if st_fi a (100 * b + 10 * c + d) then mu_u t (1 + a.toNatClampNeg) (100 * b + 10 * c + d) else t) else t
theorem mo_wm.mc {t : Nat → Int32} {m : Nat} {o a b c d : Int32} (h : mo_wm t m) (hm4 : m ≤ 4) : mo_wm (mc_t t o a b c d) m := by
  unfold mc_t
  split
  · split
    · exact h
    · split
      · have g := h.ex hm4 (by assumption)
        have h16 : 16 ≤ (if o = 1 then 16 else 17) ∧ (if o = 1 then 16 else 17) ≤ 17 := by split <;> omega
        exact h.u (by omega) (fun q hq => by have := pl_a (q := q) (s := a.toNatClampNeg) g.2; omega) (fun q z hq hz => by have := pl_b (q := q) (s := a.toNatClampNeg) hz g.2; omega)
      · exact h
  · split
    · split
      · have g := h.px hm4 (x_ck00 (by assumption))
        exact h.u (by omega) (fun q hq => by have := pl_a (q := q) (s := a.toNatClampNeg) g.2.1; omega) (fun q z hq hz => by have := pl_b (q := q) (s := a.toNatClampNeg) hz g.2.1; omega)
      · exact h
    · split
      · split
        · exact h
        · split
          · have g := h.sx hm4 (by assumption)
            exact h.u (by omega) (fun q hq => by omega) (fun q z hq hz => by have := pl_d (q := q) (s := a.toNatClampNeg) hz; omega)
          · exact h
      · split
        · split
          · have g := (st_fiw (by assumption)).2
            exact h.u (by omega) (fun q hq => by omega) (fun q z hq hz => by omega)
          · exact h
        · exact h
def rn_p : Nat → Int64
  | 0 => 1
  | i + 1 => rn_p i * 100000
def rn_q (y : Int64) : Nat → Int64
  | 0 => y
  | i + 1 => rn_q y i / 100000
theorem rn_nz : ∀ n, 1 ≤ n → n < 4 → ∀ q, q < n → ¬ rn_q (rn_p n) (q + 1) = 0 := by
  intro n h1 h2
  rcases (show n = 1 ∨ n = 2 ∨ n = 3 by omega) with rfl | rfl | rfl <;> decide
def rw_g (n : Nat) (x : Int64) (q : Nat) : Int32 := rs_g (x / rn_q (rn_p n) (q + 1))
def rw_l (t : Nat → Int32) (n : Nat) (x : Int64) : Nat → Nat → Int32
  | 0 => t
  | q + 1 => mc_t (rw_l t n x q) (rw_g n x q / 10000) (sk_rm (rw_g n x q / 1000) 10) (sk_rm (rw_g n x q / 100) 10) (sk_rm (rw_g n x q / 10) 10) (sk_rm (rw_g n x q) 10)
def rw_v (t : Nat → Int32) (m n : Nat) (x : Int64) (q : Nat) : Int32 := mc_v (rw_l t n x q) m (rw_g n x q / 10000) (sk_rm (rw_g n x q / 1000) 10) (sk_rm (rw_g n x q / 100) 10) (sk_rm (rw_g n x q / 10) 10) (sk_rm (rw_g n x q) 10)
theorem mo_wm.rw {t : Nat → Int32} {m n : Nat} {x : Int64} (h : mo_wm t m) (hm4 : m ≤ 4) : ∀ q, mo_wm (rw_l t n x q) m
  | 0 => h
  | q + 1 => (mo_wm.rw h hm4 q).mc hm4
abbrev rn_k (v : Int32) (x : Int64) : Prop := (¬ v < 1 ∧ ¬ 3 < v) ∧ ¬ x < 0 ∧ ¬ rn_p v.toNatClampNeg - 1 < x
def mo_rq (M : sk_M) (k m : Nat) (v : Int32) (x : Int64) (r : Int32) (M' : sk_M) : Prop := (¬ rn_k v x ∧ r = 0 ∧ M' = sk_ms M k 0 (nI 1)) ∨
  (rn_k v x ∧ ((∃ q, q < v.toNatClampNeg ∧ (∀ j, j < q → ¬ rw_v (mu_c (M (k + 2)) (M (k + 3))) m v.toNatClampNeg x j = 0) ∧ rw_v (mu_c (M (k + 2)) (M (k + 3))) m v.toNatClampNeg x q = 0 ∧ r = nI q) ∨ ((∀ j, j < v.toNatClampNeg → ¬ rw_v (mu_c (M (k + 2)) (M (k + 3))) m v.toNatClampNeg x j = 0) ∧ r = -1)) ∧ M' k 0 = 0 ∧ mo_fr k M M')
set_option maxHeartbeats 4000000 in
set_option maxRecDepth 100000 in
theorem m_X8_command (l : Launch) {O : sk_O} (hO : sk_inj O) (M : sk_M) (k : Nat) (hk : sk_isM O k) (o a b c d : Int32) (m : Nat) (hm4 : m ≤ 4) (hm : M (k + 3) 0 = nI m) (hmj : ∀ s, s < m → mo_wp (M (k + 3)) s) : sk_Mi l yX8_command (sk_w yX8_command cX8_command 8 (some .boolean)) ({ frames := 11, cells := 0, slots := 0, locals := 267 }) O [.ref (sk_ad O k), .int o, .int a, .int b, .int c, .int d] M (fun x M' => x = mc_v (M (k + 3)) m o a b c d ∧ M' (k + 3) = mc_t (M (k + 3)) o a b c d ∧ mo_g k M M') := by
  refine sk_mi (by decide) ⟨rfl, rfl⟩ hO (Nat.le_of_ble_eq_true rfl) (fun X A Q C ret => ?_)
  show sk_W l X O A Q 8 0 0 M 0 [(0, .ref (sk_ad O k)), (1, .int o), (2, .int a), (3, .int b), (4, .int c), (5, .int d)] []
  have hw : mo_wf (M (k + 3)) := ⟨m, hm4, hm, hmj⟩
  refine k_bipush C (10) dX8_command_0 (by decide) ?_
  refine k_iloadn C 3 dX8_command_2 rfl ?_
  refine k_imul C dX8_command_3 ?_
  refine k_iload C 4 dX8_command_4 rfl ?_
  refine k_iadd C dX8_command_6 ?_
  refine k_top (10 * b + c) rfl ?_
  refine k_istore C [1, 2, 3, 4, 5, 6, 0] [(0, .ref (sk_ad O k)), (1, .int o), (2, .int a), (3, .int b), (4, .int c), (5, .int d), (6, .int (10 * b + c))] dX8_command_7 (by decide) rfl ?_
  refine k_bipush C (100) dX8_command_9 (by decide) ?_
  refine k_iloadn C 3 dX8_command_11 rfl ?_
  refine k_imul C dX8_command_12 ?_
  refine k_bipush C (10) dX8_command_13 (by decide) ?_
  refine k_iload C 4 dX8_command_15 rfl ?_
  refine k_imul C dX8_command_17 ?_
  refine k_iadd C dX8_command_18 ?_
  refine k_iload C 5 dX8_command_19 rfl ?_
  refine k_iadd C dX8_command_21 ?_
  refine k_top (100 * b + 10 * c + d) rfl ?_
  refine k_istore C [1, 2, 3, 4, 5, 6, 7, 0] [(0, .ref (sk_ad O k)), (1, .int o), (2, .int a), (3, .int b), (4, .int c), (5, .int d), (6, .int (10 * b + c)), (7, .int (100 * b + 10 * c + d))] dX8_command_22 (by decide) rfl ?_
  refine k_iloadn C 1 dX8_command_24 rfl ?_
  by_cases c25_1_1 : o = (1 : Int32)
  ·
    refine k_top (1 : Int32) c25_1_1 ?_
    refine k_tin C 76 (51) dX8_command_25 (by decide) (by decide) ?_
    refine k_iload C 5 dX8_command_76 rfl ?_
    refine k_iconst C (1) dX8_command_78 (by decide) ?_
    refine k_cgt C 95 dX8_command_79 (by decide) (fun c79_2 => ?_) (fun c79_2 => ?_)
    ·
      refine k_iconst C (0) dX8_command_95 (by decide) ?_
      exact ret _ _ _ _ dX8_command_96 rfl (by exact ⟨by rw [mc_v, if_pos (show o = 1 ∨ o = 3 from Or.inl c25_1_1), if_pos c79_2], by rw [mc_t, if_pos (show o = 1 ∨ o = 3 from Or.inl c25_1_1), if_pos c79_2], mo_g.r⟩)
    ·
      refine k_aloadn C 0 dX8_command_82 rfl ?_
      refine k_getr C (j := 4) (k' := k + 3) kcl_X8 fl_X8_16 hk.1 (by decide) rfl dX8_command_83 ?_
      refine k_iloadn C 2 dX8_command_86 rfl ?_
      refine k_iload C 6 dX8_command_87 rfl ?_
      refine k_si C (as := [.ref (sk_ad O (k + 3)), .int a, .int (10 * b + c)]) yvX8_isElement vsX8_isElement ml_X8_76 (m_X8_isElement l C.2.2.2.1 M (a := k + 3) (ha := hk.2.2.2.1) (s := a) (e := 10 * b + c) (hw := hw)) rfl rfl (Nat.le_of_ble_eq_true rfl) (by decide) dX8_command_89 (fun x89_3 M89_3 h89_3 => ?_)
      rw [h89_3.1, h89_3.2]
      refine k_zne C 97 dX8_command_92 (by decide) (fun c92_4 => ?_) (fun c92_4 => ?_)
      ·
        have nc92_4 : mo_he (M (k + 3)) a (10 * b + c) := Classical.byContradiction (fun h => c92_4 (sk_b1.mpr h))
        obtain ⟨ix, ib⟩ := sk_ix nc92_4.1 hm (by omega)
        obtain ⟨N, hN12, hN, hNp⟩ := id (hmj _ ib)
        obtain ⟨ex, eb⟩ := sk_ix nc92_4.2 hN (by omega)
        refine k_aloadn C 0 dX8_command_97 rfl ?_
        refine k_getr C (j := 4) (k' := k + 3) kcl_X8 fl_X8_16 hk.1 (by decide) rfl dX8_command_98 ?_
        refine k_iloadn C 2 dX8_command_101 rfl ?_
        refine k_iload C 6 dX8_command_102 rfl ?_
        refine k_si C (as := [.int a, .int (10 * b + c)]) yvX8_elementAt vsX8_elementAt ml_X8_60 (m_X8_elementAt l C.2.2.2.1 M (s := a.toNatClampNeg) (xs := a) (hxs := ix) (e := (10 * b + c).toNatClampNeg) (xe := 10 * b + c) (hxe := ex)) rfl rfl (Nat.le_of_ble_eq_true rfl) (by decide) dX8_command_104 (fun x104_5 M104_5 h104_5 => ?_)
        rw [h104_5.1, h104_5.2]
        refine k_iloadn C 1 dX8_command_107 rfl ?_
        refine k_iconst C (1) dX8_command_108 (by decide) ?_
        refine k_cne C 117 dX8_command_109 (by decide) (fun c109_6 => ?_) (fun c109_6 => ?_)
        ·
          exact absurd c25_1_1 c109_6 --done
        ·
          refine k_bipush C (16) dX8_command_112 (by decide) ?_
          refine k_goto C 119 dX8_command_114 (by decide) ?_
          refine k_iadd C dX8_command_119 ?_
          refine k_iload C 5 dX8_command_120 rfl ?_
          refine k_iast C (23 + 233 * a.toNatClampNeg + 18 * ((10 * b + c).toNatClampNeg) + 16) hk.2.2.2.1 (sk_nadd rfl (rfl : ((16) : Int32) = nI 16)) (by omega) dX8_command_122 ?_
          refine k_iconst C (1) dX8_command_123 (by decide) ?_
          exact ret _ _ _ _ dX8_command_124 rfl (by exact ⟨by rw [mc_v, if_pos (show o = 1 ∨ o = 3 from Or.inl c25_1_1), if_neg c79_2, if_pos nc92_4], by rw [sk_msu, mc_t, if_pos (show o = 1 ∨ o = 3 from Or.inl c25_1_1), if_neg c79_2, if_pos nc92_4, if_pos (show o = 1 from c25_1_1)], (mo_g.w (by omega) mo_g.r)⟩)
      ·
        have nc92_4 : ¬ (mo_he (M (k + 3)) a (10 * b + c)) := sk_b1.mp c92_4
        refine k_iconst C (0) dX8_command_95 (by decide) ?_
        exact ret _ _ _ _ dX8_command_96 rfl (by exact ⟨by rw [mc_v, if_pos (show o = 1 ∨ o = 3 from Or.inl c25_1_1), if_neg c79_2, if_neg nc92_4], by rw [mc_t, if_pos (show o = 1 ∨ o = 3 from Or.inl c25_1_1), if_neg c79_2, if_neg nc92_4], mo_g.r⟩)
  by_cases c25_1_2 : o = (2 : Int32)
  ·
    refine k_top (2 : Int32) c25_1_2 ?_
    refine k_tin C 125 (100) dX8_command_25 (by decide) (by decide) ?_
    refine k_aloadn C 0 dX8_command_125 rfl ?_
    refine k_getr C (j := 4) (k' := k + 3) kcl_X8 fl_X8_16 hk.1 (by decide) rfl dX8_command_126 ?_
    refine k_iloadn C 2 dX8_command_129 rfl ?_
    refine k_iloadn C 3 dX8_command_130 rfl ?_
    refine k_iload C 4 dX8_command_131 rfl ?_
    refine k_iload C 5 dX8_command_133 rfl ?_
    refine k_si C (as := [.ref (sk_ad O (k + 3)), .int a, .int b, .int c, .int d]) yvX8_whyNotCall vsX8_whyNotCall ml_X8_240 (m_X8_whyNotCall l C.2.2.2.1 M (a := k + 3) (ha := hk.2.2.2.1) (s := a) (e := b) (p := c) (v := d) (hw := hw)) rfl rfl (Nat.le_of_ble_eq_true rfl) (by decide) dX8_command_135 (fun x135_7 M135_7 h135_7 => ?_)
    rw [h135_7.1, h135_7.2]
    refine k_zne C 161 dX8_command_138 (by decide) (fun c138_8 => ?_) (fun c138_8 => ?_)
    ·
      refine k_iconst C (0) dX8_command_161 (by decide) ?_
      exact ret _ _ _ _ dX8_command_162 rfl (by exact ⟨by rw [mc_v, if_neg (show ¬ (o = 1 ∨ o = 3) from by rw [show o = 2 from c25_1_2]; decide), if_pos (show o = 2 from c25_1_2), if_neg (show ¬ mo_wc (M (k + 3)) a b c d = 0 from fun z => c138_8 (congrArg nI z))], by rw [mc_t, if_neg (show ¬ (o = 1 ∨ o = 3) from by rw [show o = 2 from c25_1_2]; decide), if_pos (show o = 2 from c25_1_2), if_neg (show ¬ mo_wc (M (k + 3)) a b c d = 0 from fun z => c138_8 (congrArg nI z))], mo_g.r⟩)
    ·
      have he0 : mo_wc (M (k + 3)) a b c d = 0 := mo_e1 c138_8 (er3_le2 _ _ _)
      have hcc := x_ck00 he0
      obtain ⟨ix, ib⟩ := sk_ix hcc.1.1 hm (by omega)
      obtain ⟨N, hN12, hN, hNp⟩ := id (hmj _ ib)
      obtain ⟨bx, bb⟩ := sk_ix hcc.1.2 hN (by omega)
      obtain ⟨hpe, hpe3⟩ := mo_nn hNp bb
      obtain ⟨cx, cb⟩ := sk_ix hcc.2 hpe (by omega)
      refine k_aloadn C 0 dX8_command_141 rfl ?_
      refine k_getr C (j := 4) (k' := k + 3) kcl_X8 fl_X8_16 hk.1 (by decide) rfl dX8_command_142 ?_
      refine k_iloadn C 2 dX8_command_145 rfl ?_
      refine k_iloadn C 3 dX8_command_146 rfl ?_
      refine k_iload C 4 dX8_command_147 rfl ?_
      refine k_iload C 5 dX8_command_149 rfl ?_
      refine k_si C (as := [.ref (sk_ad O (k + 3)), .int a, .int b, .int c, .int d]) yvX8_callOn vsX8_callOn ml_X8_244 (m_X8_callOn l C.2.2.2.1 M (a := k + 3) (ha := hk.2.2.2.1) (s := a.toNatClampNeg) (xs := a) (hxs := ix) (e := b.toNatClampNeg) (xe := b) (hxe := bx) (p := c.toNatClampNeg) (xp := c) (hxp := cx) (v := d) (hs := (by omega)) (he := (by omega)) (hp := (by omega))) rfl rfl (Nat.le_of_ble_eq_true rfl) (by decide) dX8_command_151 (fun x151_9 M151_9 h151_9 => ?_)
      rw [h151_9.1, h151_9.2]
      refine k_zlt C 161 dX8_command_154 (by decide) (fun c154_10 => ?_) (fun c154_10 => ?_)
      ·
        refine k_iconst C (0) dX8_command_161 (by decide) ?_
        exact ret _ _ _ _ dX8_command_162 rfl (by exact ⟨by rw [mc_v, if_neg (show ¬ (o = 1 ∨ o = 3) from by rw [show o = 2 from c25_1_2]; decide), if_pos (show o = 2 from c25_1_2), if_pos he0, if_pos c154_10], by rw [sk_msu, mc_t, if_neg (show ¬ (o = 1 ∨ o = 3) from by rw [show o = 2 from c25_1_2]; decide), if_pos (show o = 2 from c25_1_2), if_pos he0], (mo_g.w (by omega) mo_g.r)⟩)
      ·
        refine k_iconst C (1) dX8_command_157 (by decide) ?_
        refine k_goto C 162 dX8_command_158 (by decide) ?_
        exact ret _ _ _ _ dX8_command_162 rfl (by exact ⟨by rw [mc_v, if_neg (show ¬ (o = 1 ∨ o = 3) from by rw [show o = 2 from c25_1_2]; decide), if_pos (show o = 2 from c25_1_2), if_pos he0, if_neg c154_10], by rw [sk_msu, mc_t, if_neg (show ¬ (o = 1 ∨ o = 3) from by rw [show o = 2 from c25_1_2]; decide), if_pos (show o = 2 from c25_1_2), if_pos he0], (mo_g.w (by omega) mo_g.r)⟩)
  by_cases c25_1_3 : o = (3 : Int32)
  ·
    refine k_top (3 : Int32) c25_1_3 ?_
    refine k_tin C 76 (51) dX8_command_25 (by decide) (by decide) ?_
    refine k_iload C 5 dX8_command_76 rfl ?_
    refine k_iconst C (1) dX8_command_78 (by decide) ?_
    refine k_cgt C 95 dX8_command_79 (by decide) (fun c79_11 => ?_) (fun c79_11 => ?_)
    ·
      refine k_iconst C (0) dX8_command_95 (by decide) ?_
      exact ret _ _ _ _ dX8_command_96 rfl (by exact ⟨by rw [mc_v, if_pos (show o = 1 ∨ o = 3 from Or.inr c25_1_3), if_pos c79_11], by rw [mc_t, if_pos (show o = 1 ∨ o = 3 from Or.inr c25_1_3), if_pos c79_11], mo_g.r⟩)
    ·
      refine k_aloadn C 0 dX8_command_82 rfl ?_
      refine k_getr C (j := 4) (k' := k + 3) kcl_X8 fl_X8_16 hk.1 (by decide) rfl dX8_command_83 ?_
      refine k_iloadn C 2 dX8_command_86 rfl ?_
      refine k_iload C 6 dX8_command_87 rfl ?_
      refine k_si C (as := [.ref (sk_ad O (k + 3)), .int a, .int (10 * b + c)]) yvX8_isElement vsX8_isElement ml_X8_76 (m_X8_isElement l C.2.2.2.1 M (a := k + 3) (ha := hk.2.2.2.1) (s := a) (e := 10 * b + c) (hw := hw)) rfl rfl (Nat.le_of_ble_eq_true rfl) (by decide) dX8_command_89 (fun x89_12 M89_12 h89_12 => ?_)
      rw [h89_12.1, h89_12.2]
      refine k_zne C 97 dX8_command_92 (by decide) (fun c92_13 => ?_) (fun c92_13 => ?_)
      ·
        have nc92_13 : mo_he (M (k + 3)) a (10 * b + c) := Classical.byContradiction (fun h => c92_13 (sk_b1.mpr h))
        obtain ⟨ix, ib⟩ := sk_ix nc92_13.1 hm (by omega)
        obtain ⟨N, hN12, hN, hNp⟩ := id (hmj _ ib)
        obtain ⟨ex, eb⟩ := sk_ix nc92_13.2 hN (by omega)
        refine k_aloadn C 0 dX8_command_97 rfl ?_
        refine k_getr C (j := 4) (k' := k + 3) kcl_X8 fl_X8_16 hk.1 (by decide) rfl dX8_command_98 ?_
        refine k_iloadn C 2 dX8_command_101 rfl ?_
        refine k_iload C 6 dX8_command_102 rfl ?_
        refine k_si C (as := [.int a, .int (10 * b + c)]) yvX8_elementAt vsX8_elementAt ml_X8_60 (m_X8_elementAt l C.2.2.2.1 M (s := a.toNatClampNeg) (xs := a) (hxs := ix) (e := (10 * b + c).toNatClampNeg) (xe := 10 * b + c) (hxe := ex)) rfl rfl (Nat.le_of_ble_eq_true rfl) (by decide) dX8_command_104 (fun x104_14 M104_14 h104_14 => ?_)
        rw [h104_14.1, h104_14.2]
        refine k_iloadn C 1 dX8_command_107 rfl ?_
        refine k_iconst C (1) dX8_command_108 (by decide) ?_
        refine k_cne C 117 dX8_command_109 (by decide) (fun c109_15 => ?_) (fun c109_15 => ?_)
        ·
          refine k_bipush C (17) dX8_command_117 (by decide) ?_
          refine k_iadd C dX8_command_119 ?_
          refine k_iload C 5 dX8_command_120 rfl ?_
          refine k_iast C (23 + 233 * a.toNatClampNeg + 18 * ((10 * b + c).toNatClampNeg) + 17) hk.2.2.2.1 (sk_nadd rfl (rfl : ((17) : Int32) = nI 17)) (by omega) dX8_command_122 ?_
          refine k_iconst C (1) dX8_command_123 (by decide) ?_
          exact ret _ _ _ _ dX8_command_124 rfl (by exact ⟨by rw [mc_v, if_pos (show o = 1 ∨ o = 3 from Or.inr c25_1_3), if_neg c79_11, if_pos nc92_13], by rw [sk_msu, mc_t, if_pos (show o = 1 ∨ o = 3 from Or.inr c25_1_3), if_neg c79_11, if_pos nc92_13, if_neg (show ¬ o = 1 from by rw [show o = 3 from c25_1_3]; decide)], (mo_g.w (by omega) mo_g.r)⟩)
        ·
          exact absurd (c109_15.symm.trans c25_1_3) (by decide) --done
      ·
        have nc92_13 : ¬ (mo_he (M (k + 3)) a (10 * b + c)) := sk_b1.mp c92_13
        refine k_iconst C (0) dX8_command_95 (by decide) ?_
        exact ret _ _ _ _ dX8_command_96 rfl (by exact ⟨by rw [mc_v, if_pos (show o = 1 ∨ o = 3 from Or.inr c25_1_3), if_neg c79_11, if_neg nc92_13], by rw [mc_t, if_pos (show o = 1 ∨ o = 3 from Or.inr c25_1_3), if_neg c79_11, if_neg nc92_13], mo_g.r⟩)
  by_cases c25_1_4 : o = (4 : Int32)
  ·
    refine k_top (4 : Int32) c25_1_4 ?_
    refine k_tin C 163 (138) dX8_command_25 (by decide) (by decide) ?_
    refine k_iload C 6 dX8_command_163 rfl ?_
    refine k_zgt C 179 dX8_command_165 (by decide) (fun c165_16 => ?_) (fun c165_16 => ?_)
    ·
      refine k_iconst C (0) dX8_command_179 (by decide) ?_
      exact ret _ _ _ _ dX8_command_180 rfl (by exact ⟨by rw [mc_v, if_neg (show ¬ (o = 1 ∨ o = 3) from by rw [show o = 4 from c25_1_4]; decide), if_neg (show ¬ o = 2 from by rw [show o = 4 from c25_1_4]; decide), if_pos (show o = 4 from c25_1_4), if_pos c165_16], by rw [mc_t, if_neg (show ¬ (o = 1 ∨ o = 3) from by rw [show o = 4 from c25_1_4]; decide), if_neg (show ¬ o = 2 from by rw [show o = 4 from c25_1_4]; decide), if_pos (show o = 4 from c25_1_4), if_pos c165_16], mo_g.r⟩)
    ·
      refine k_aloadn C 0 dX8_command_168 rfl ?_
      refine k_getr C (j := 4) (k' := k + 3) kcl_X8 fl_X8_16 hk.1 (by decide) rfl dX8_command_169 ?_
      refine k_iloadn C 2 dX8_command_172 rfl ?_
      refine k_si C (as := [.ref (sk_ad O (k + 3)), .int a]) yvX8_isSkater vsX8_isSkater ml_X8_68 (m_X8_isSkater l C.2.2.2.1 M (a := k + 3) (ha := hk.2.2.2.1) (s := a) (hw := hw)) rfl rfl (Nat.le_of_ble_eq_true rfl) (by decide) dX8_command_173 (fun x173_17 M173_17 h173_17 => ?_)
      rw [h173_17.1, h173_17.2]
      refine k_zne C 181 dX8_command_176 (by decide) (fun c176_18 => ?_) (fun c176_18 => ?_)
      ·
        have nc176_18 : mo_hs (M (k + 3)) a := Classical.byContradiction (fun h => c176_18 (sk_b1.mpr h))
        obtain ⟨ix, ib⟩ := sk_ix nc176_18 hm (by omega)
        refine k_aloadn C 0 dX8_command_181 rfl ?_
        refine k_getr C (j := 4) (k' := k + 3) kcl_X8 fl_X8_16 hk.1 (by decide) rfl dX8_command_182 ?_
        refine k_iloadn C 2 dX8_command_185 rfl ?_
        refine k_si C (as := [.int a]) yvX8_skaterAt vsX8_skaterAt ml_X8_72 (m_X8_skaterAt l C.2.2.2.1 M (s := a.toNatClampNeg) (xs := a) (hxs := ix)) rfl rfl (Nat.le_of_ble_eq_true rfl) (by decide) dX8_command_186 (fun x186_19 M186_19 h186_19 => ?_)
        rw [h186_19.1, h186_19.2]
        refine k_iconst C (1) dX8_command_189 (by decide) ?_
        refine k_iadd C dX8_command_190 ?_
        refine k_iload C 5 dX8_command_191 rfl ?_
        refine k_iast C (6 + 233 * a.toNatClampNeg + 1) hk.2.2.2.1 (sk_nadd rfl (rfl : ((1) : Int32) = nI 1)) (by omega) dX8_command_193 ?_
        refine k_iconst C (1) dX8_command_194 (by decide) ?_
        exact ret _ _ _ _ dX8_command_195 rfl (by exact ⟨by rw [mc_v, if_neg (show ¬ (o = 1 ∨ o = 3) from by rw [show o = 4 from c25_1_4]; decide), if_neg (show ¬ o = 2 from by rw [show o = 4 from c25_1_4]; decide), if_pos (show o = 4 from c25_1_4), if_neg c165_16, if_pos nc176_18], by rw [sk_msu, mc_t, if_neg (show ¬ (o = 1 ∨ o = 3) from by rw [show o = 4 from c25_1_4]; decide), if_neg (show ¬ o = 2 from by rw [show o = 4 from c25_1_4]; decide), if_pos (show o = 4 from c25_1_4), if_neg c165_16, if_pos nc176_18], (mo_g.w (by omega) mo_g.r)⟩)
      ·
        have nc176_18 : ¬ (mo_hs (M (k + 3)) a) := sk_b1.mp c176_18
        refine k_iconst C (0) dX8_command_179 (by decide) ?_
        exact ret _ _ _ _ dX8_command_180 rfl (by exact ⟨by rw [mc_v, if_neg (show ¬ (o = 1 ∨ o = 3) from by rw [show o = 4 from c25_1_4]; decide), if_neg (show ¬ o = 2 from by rw [show o = 4 from c25_1_4]; decide), if_pos (show o = 4 from c25_1_4), if_neg c165_16, if_neg nc176_18], by rw [mc_t, if_neg (show ¬ (o = 1 ∨ o = 3) from by rw [show o = 4 from c25_1_4]; decide), if_neg (show ¬ o = 2 from by rw [show o = 4 from c25_1_4]; decide), if_pos (show o = 4 from c25_1_4), if_neg c165_16, if_neg nc176_18], mo_g.r⟩)
  by_cases c25_1_5 : o = (5 : Int32)
  ·
    refine k_top (5 : Int32) c25_1_5 ?_
    refine k_tin C 196 (171) dX8_command_25 (by decide) (by decide) ?_
    refine k_iloadn C 2 dX8_command_196 rfl ?_
    refine k_iload C 7 dX8_command_197 rfl ?_
    refine k_si C (as := [.int a, .int (100 * b + 10 * c + d)]) yvX8_isSetting vsX8_isSetting ml_X8_257 (m_X8_isSetting l C.2.2.2.1 M (w := a) (v := 100 * b + 10 * c + d)) rfl rfl (Nat.le_of_ble_eq_true rfl) (by decide) dX8_command_199 (fun x199_20 M199_20 h199_20 => ?_)
    rw [h199_20.1, h199_20.2]
    refine k_zne C 207 dX8_command_202 (by decide) (fun c202_21 => ?_) (fun c202_21 => ?_)
    ·
      have nc202_21 : st_fi a (100 * b + 10 * c + d) := Classical.byContradiction (fun h => c202_21 (sk_b1.mpr h))
      obtain ⟨ix, ib⟩ := st_fiw nc202_21
      refine k_aloadn C 0 dX8_command_207 rfl ?_
      refine k_getr C (j := 4) (k' := k + 3) kcl_X8 fl_X8_16 hk.1 (by decide) rfl dX8_command_208 ?_
      refine k_iconst C (1) dX8_command_211 (by decide) ?_
      refine k_iloadn C 2 dX8_command_212 rfl ?_
      refine k_iadd C dX8_command_213 ?_
      refine k_iload C 7 dX8_command_214 rfl ?_
      refine k_iast C (1 + a.toNatClampNeg) hk.2.2.2.1 (sk_nadd (rfl : ((1) : Int32) = nI 1) ix) (by omega) dX8_command_216 ?_
      refine k_iconst C (1) dX8_command_217 (by decide) ?_
      exact ret _ _ _ _ dX8_command_218 rfl (by exact ⟨by rw [mc_v, if_neg (show ¬ (o = 1 ∨ o = 3) from by rw [show o = 5 from c25_1_5]; decide), if_neg (show ¬ o = 2 from by rw [show o = 5 from c25_1_5]; decide), if_neg (show ¬ o = 4 from by rw [show o = 5 from c25_1_5]; decide), if_pos (show o = 5 from c25_1_5), if_pos nc202_21], by rw [sk_msu, mc_t, if_neg (show ¬ (o = 1 ∨ o = 3) from by rw [show o = 5 from c25_1_5]; decide), if_neg (show ¬ o = 2 from by rw [show o = 5 from c25_1_5]; decide), if_neg (show ¬ o = 4 from by rw [show o = 5 from c25_1_5]; decide), if_pos (show o = 5 from c25_1_5), if_pos nc202_21], (mo_g.w (by omega) mo_g.r)⟩)
    ·
      have nc202_21 : ¬ (st_fi a (100 * b + 10 * c + d)) := sk_b1.mp c202_21
      refine k_iconst C (0) dX8_command_205 (by decide) ?_
      exact ret _ _ _ _ dX8_command_206 rfl (by exact ⟨by rw [mc_v, if_neg (show ¬ (o = 1 ∨ o = 3) from by rw [show o = 5 from c25_1_5]; decide), if_neg (show ¬ o = 2 from by rw [show o = 5 from c25_1_5]; decide), if_neg (show ¬ o = 4 from by rw [show o = 5 from c25_1_5]; decide), if_pos (show o = 5 from c25_1_5), if_neg nc202_21], by rw [mc_t, if_neg (show ¬ (o = 1 ∨ o = 3) from by rw [show o = 5 from c25_1_5]; decide), if_neg (show ¬ o = 2 from by rw [show o = 5 from c25_1_5]; decide), if_neg (show ¬ o = 4 from by rw [show o = 5 from c25_1_5]; decide), if_pos (show o = 5 from c25_1_5), if_neg nc202_21], mo_g.r⟩)
  by_cases c25_1_6 : o = (6 : Int32)
  ·
    refine k_top (6 : Int32) c25_1_6 ?_
    refine k_tin C 219 (194) dX8_command_25 (by decide) (by decide) ?_
    refine k_iload C 6 dX8_command_219 rfl ?_
    refine k_zgt C 235 dX8_command_221 (by decide) (fun c221_22 => ?_) (fun c221_22 => ?_)
    ·
      refine k_iconst C (0) dX8_command_235 (by decide) ?_
      exact ret _ _ _ _ dX8_command_236 rfl (by exact ⟨by rw [mc_v, if_neg (show ¬ (o = 1 ∨ o = 3) from by rw [show o = 6 from c25_1_6]; decide), if_neg (show ¬ o = 2 from by rw [show o = 6 from c25_1_6]; decide), if_neg (show ¬ o = 4 from by rw [show o = 6 from c25_1_6]; decide), if_neg (show ¬ o = 5 from by rw [show o = 6 from c25_1_6]; decide), if_pos (show o = 6 from c25_1_6), if_pos c221_22], by rw [mc_t, if_neg (show ¬ (o = 1 ∨ o = 3) from by rw [show o = 6 from c25_1_6]; decide), if_neg (show ¬ o = 2 from by rw [show o = 6 from c25_1_6]; decide), if_neg (show ¬ o = 4 from by rw [show o = 6 from c25_1_6]; decide), if_neg (show ¬ o = 5 from by rw [show o = 6 from c25_1_6]; decide)], mo_g.r⟩)
    ·
      refine k_aloadn C 0 dX8_command_224 rfl ?_
      refine k_getr C (j := 4) (k' := k + 3) kcl_X8 fl_X8_16 hk.1 (by decide) rfl dX8_command_225 ?_
      refine k_iloadn C 2 dX8_command_228 rfl ?_
      refine k_si C (as := [.ref (sk_ad O (k + 3)), .int a]) yvX8_isSkater vsX8_isSkater ml_X8_68 (m_X8_isSkater l C.2.2.2.1 M (a := k + 3) (ha := hk.2.2.2.1) (s := a) (hw := hw)) rfl rfl (Nat.le_of_ble_eq_true rfl) (by decide) dX8_command_229 (fun x229_23 M229_23 h229_23 => ?_)
      rw [h229_23.1, h229_23.2]
      refine k_zne C 237 dX8_command_232 (by decide) (fun c232_24 => ?_) (fun c232_24 => ?_)
      ·
        have nc232_24 : mo_hs (M (k + 3)) a := Classical.byContradiction (fun h => c232_24 (sk_b1.mpr h))
        obtain ⟨ix, ib⟩ := sk_ix nc232_24 hm (by omega)
        refine k_aloadn C 0 dX8_command_237 rfl ?_
        refine k_aloadn C 0 dX8_command_238 rfl ?_
        refine k_getr C (j := 4) (k' := k + 3) kcl_X8 fl_X8_16 hk.1 (by decide) rfl dX8_command_239 ?_
        refine k_vv C (as := [.ref (sk_ad O (k + 3))]) yvX8_reckonAll viX8_reckonAll ml_X8_149 (m_X8_reckonAll l C.2.2.2.1 M (k := k) (hk := hk) (a := k + 3) (ha := hk.2.2.2.1) (m := m) (hm4 := hm4) (hm := hm) (hmj := hmj) (hap := (by omega))) hk.1 rfl rfl rfl (Nat.le_of_ble_eq_true rfl) (by decide) dX8_command_242 (fun M242_25 h242_25 => ?_)
        rw [h242_25]
        refine k_aloadn C 0 dX8_command_245 rfl ?_
        refine k_aloadn C 0 dX8_command_246 rfl ?_
        refine k_getr C (j := 4) (k' := k + 3) kcl_X8 fl_X8_16 hk.1 (by decide) rfl dX8_command_247 ?_
        refine k_iloadn C 2 dX8_command_250 rfl ?_
        refine k_vi C (as := [.ref (sk_ad O (k + 3)), .int a]) yvX8_place viX8_place ml_X8_153 (m_X8_place l C.2.2.2.1 (ml_l M k (k + 3) m) (k := k) (hk := hk) (a := k + 3) (ha := hk.2.2.2.1) (s := a.toNatClampNeg) (xs := a) (hxs := ix) (m := m) (hs := (by omega)) (hm4 := hm4) (hm := (by rw [ml_l_f (by omega) (by omega) _]; exact hm))) hk.1 rfl rfl rfl (Nat.le_of_ble_eq_true rfl) (by decide) dX8_command_251 (fun x251_26 M251_26 h251_26 => ?_)
        rw [h251_26.1, h251_26.2]
        refine k_top (nI (mo_pl (M (k + 3)) a.toNatClampNeg m)) (by rw [ml_pl ib]) ?_
        refine k_iload C 5 dX8_command_254 rfl ?_
        refine k_cne C 263 dX8_command_256 (by decide) (fun c256_27 => ?_) (fun c256_27 => ?_)
        ·
          refine k_iconst C (0) dX8_command_263 (by decide) ?_
          exact ret _ _ _ _ dX8_command_264 rfl (by exact ⟨by rw [mc_v, if_neg (show ¬ (o = 1 ∨ o = 3) from by rw [show o = 6 from c25_1_6]; decide), if_neg (show ¬ o = 2 from by rw [show o = 6 from c25_1_6]; decide), if_neg (show ¬ o = 4 from by rw [show o = 6 from c25_1_6]; decide), if_neg (show ¬ o = 5 from by rw [show o = 6 from c25_1_6]; decide), if_pos (show o = 6 from c25_1_6), if_neg c221_22, if_pos nc232_24, if_neg c256_27], by rw [ml_l_f (by omega) (by omega) _, mc_t, if_neg (show ¬ (o = 1 ∨ o = 3) from by rw [show o = 6 from c25_1_6]; decide), if_neg (show ¬ o = 2 from by rw [show o = 6 from c25_1_6]; decide), if_neg (show ¬ o = 4 from by rw [show o = 6 from c25_1_6]; decide), if_neg (show ¬ o = 5 from by rw [show o = 6 from c25_1_6]; decide)], (mo_g.ma mo_g.r _)⟩)
        ·
          refine k_iconst C (1) dX8_command_259 (by decide) ?_
          refine k_goto C 264 dX8_command_260 (by decide) ?_
          exact ret _ _ _ _ dX8_command_264 rfl (by exact ⟨by rw [mc_v, if_neg (show ¬ (o = 1 ∨ o = 3) from by rw [show o = 6 from c25_1_6]; decide), if_neg (show ¬ o = 2 from by rw [show o = 6 from c25_1_6]; decide), if_neg (show ¬ o = 4 from by rw [show o = 6 from c25_1_6]; decide), if_neg (show ¬ o = 5 from by rw [show o = 6 from c25_1_6]; decide), if_pos (show o = 6 from c25_1_6), if_neg c221_22, if_pos nc232_24, if_pos c256_27], by rw [ml_l_f (by omega) (by omega) _, mc_t, if_neg (show ¬ (o = 1 ∨ o = 3) from by rw [show o = 6 from c25_1_6]; decide), if_neg (show ¬ o = 2 from by rw [show o = 6 from c25_1_6]; decide), if_neg (show ¬ o = 4 from by rw [show o = 6 from c25_1_6]; decide), if_neg (show ¬ o = 5 from by rw [show o = 6 from c25_1_6]; decide)], (mo_g.ma mo_g.r _)⟩)
      ·
        have nc232_24 : ¬ (mo_hs (M (k + 3)) a) := sk_b1.mp c232_24
        refine k_iconst C (0) dX8_command_235 (by decide) ?_
        exact ret _ _ _ _ dX8_command_236 rfl (by exact ⟨by rw [mc_v, if_neg (show ¬ (o = 1 ∨ o = 3) from by rw [show o = 6 from c25_1_6]; decide), if_neg (show ¬ o = 2 from by rw [show o = 6 from c25_1_6]; decide), if_neg (show ¬ o = 4 from by rw [show o = 6 from c25_1_6]; decide), if_neg (show ¬ o = 5 from by rw [show o = 6 from c25_1_6]; decide), if_pos (show o = 6 from c25_1_6), if_neg c221_22, if_neg nc232_24], by rw [mc_t, if_neg (show ¬ (o = 1 ∨ o = 3) from by rw [show o = 6 from c25_1_6]; decide), if_neg (show ¬ o = 2 from by rw [show o = 6 from c25_1_6]; decide), if_neg (show ¬ o = 4 from by rw [show o = 6 from c25_1_6]; decide), if_neg (show ¬ o = 5 from by rw [show o = 6 from c25_1_6]; decide)], mo_g.r⟩)
  by_cases c25_1_7 : o = (7 : Int32)
  ·
    refine k_top (7 : Int32) c25_1_7 ?_
    refine k_tin C 265 (240) dX8_command_25 (by decide) (by decide) ?_
    refine k_aloadn C 0 dX8_command_265 rfl ?_
    refine k_getr C (j := 4) (k' := k + 3) kcl_X8 fl_X8_16 hk.1 (by decide) rfl dX8_command_266 ?_
    refine k_iloadn C 2 dX8_command_269 rfl ?_
    refine k_si C (as := [.ref (sk_ad O (k + 3)), .int a]) yvX8_isSkater vsX8_isSkater ml_X8_68 (m_X8_isSkater l C.2.2.2.1 M (a := k + 3) (ha := hk.2.2.2.1) (s := a) (hw := hw)) rfl rfl (Nat.le_of_ble_eq_true rfl) (by decide) dX8_command_270 (fun x270_28 M270_28 h270_28 => ?_)
    rw [h270_28.1, h270_28.2]
    refine k_zeq C 297 dX8_command_273 (by decide) (fun c273_29 => ?_) (fun c273_29 => ?_)
    ·
      have nc273_29 : ¬ (mo_hs (M (k + 3)) a) := sk_b1.mp c273_29
      refine k_iconst C (0) dX8_command_297 (by decide) ?_
      exact ret _ _ _ _ dX8_command_298 rfl (by exact ⟨by rw [mc_v, if_neg (show ¬ (o = 1 ∨ o = 3) from by rw [show o = 7 from c25_1_7]; decide), if_neg (show ¬ o = 2 from by rw [show o = 7 from c25_1_7]; decide), if_neg (show ¬ o = 4 from by rw [show o = 7 from c25_1_7]; decide), if_neg (show ¬ o = 5 from by rw [show o = 7 from c25_1_7]; decide), if_neg (show ¬ o = 6 from by rw [show o = 7 from c25_1_7]; decide), if_pos (show o = 7 from c25_1_7), if_neg nc273_29], by rw [mc_t, if_neg (show ¬ (o = 1 ∨ o = 3) from by rw [show o = 7 from c25_1_7]; decide), if_neg (show ¬ o = 2 from by rw [show o = 7 from c25_1_7]; decide), if_neg (show ¬ o = 4 from by rw [show o = 7 from c25_1_7]; decide), if_neg (show ¬ o = 5 from by rw [show o = 7 from c25_1_7]; decide)], mo_g.r⟩)
    ·
      have nc273_29 : mo_hs (M (k + 3)) a := Classical.byContradiction (fun h => c273_29 (sk_b1.mpr h))
      obtain ⟨ix, ib⟩ := sk_ix nc273_29 hm (by omega)
      obtain ⟨N, hN12, hN, hNp⟩ := id (hmj _ ib)
      have hcN : mo_c (M (k + 3)) a.toNatClampNeg = N := (by show (M (k + 3) _).toNatClampNeg = N; rw [hN, nI_clamp (by omega)])
      rw [← hcN] at hN12 hN hNp
      refine k_aloadn C 0 dX8_command_276 rfl ?_
      refine k_aloadn C 0 dX8_command_277 rfl ?_
      refine k_getr C (j := 4) (k' := k + 3) kcl_X8 fl_X8_16 hk.1 (by decide) rfl dX8_command_278 ?_
      refine k_iloadn C 2 dX8_command_281 rfl ?_
      refine k_vi C (as := [.ref (sk_ad O (k + 3)), .int a]) yvX8_reckon viX8_reckon ml_X8_146 (m_X8_reckon l C.2.2.2.1 M (k := k) (hk := hk) (a := k + 3) (ha := hk.2.2.2.1) (s := a.toNatClampNeg) (xs := a) (hxs := ix) (N := mo_c (M (k + 3)) a.toNatClampNeg) (hs := (by omega)) (hN12 := hN12) (hN := hN) (hp := hNp) (hap := (by omega))) hk.1 rfl rfl rfl (Nat.le_of_ble_eq_true rfl) (by decide) dX8_command_282 (fun x282_30 M282_30 h282_30 => ?_)
      rw [h282_30.1, h282_30.2]
      refine k_bipush C (10) dX8_command_285 (by decide) ?_
      refine k_iload C 7 dX8_command_287 rfl ?_
      refine k_imul C dX8_command_289 ?_
      refine k_clt C 297 dX8_command_290 (by decide) (fun c290_31 => ?_) (fun c290_31 => ?_)
      ·
        refine k_iconst C (0) dX8_command_297 (by decide) ?_
        exact ret _ _ _ _ dX8_command_298 rfl (by exact ⟨by rw [mc_v, if_neg (show ¬ (o = 1 ∨ o = 3) from by rw [show o = 7 from c25_1_7]; decide), if_neg (show ¬ o = 2 from by rw [show o = 7 from c25_1_7]; decide), if_neg (show ¬ o = 4 from by rw [show o = 7 from c25_1_7]; decide), if_neg (show ¬ o = 5 from by rw [show o = 7 from c25_1_7]; decide), if_neg (show ¬ o = 6 from by rw [show o = 7 from c25_1_7]; decide), if_pos (show o = 7 from c25_1_7), if_pos nc273_29, if_pos c290_31], by rw [mk_m_f (by omega) (by omega), mc_t, if_neg (show ¬ (o = 1 ∨ o = 3) from by rw [show o = 7 from c25_1_7]; decide), if_neg (show ¬ o = 2 from by rw [show o = 7 from c25_1_7]; decide), if_neg (show ¬ o = 4 from by rw [show o = 7 from c25_1_7]; decide), if_neg (show ¬ o = 5 from by rw [show o = 7 from c25_1_7]; decide)], (mo_g.mk mo_g.r)⟩)
      ·
        refine k_iconst C (1) dX8_command_293 (by decide) ?_
        refine k_goto C 298 dX8_command_294 (by decide) ?_
        exact ret _ _ _ _ dX8_command_298 rfl (by exact ⟨by rw [mc_v, if_neg (show ¬ (o = 1 ∨ o = 3) from by rw [show o = 7 from c25_1_7]; decide), if_neg (show ¬ o = 2 from by rw [show o = 7 from c25_1_7]; decide), if_neg (show ¬ o = 4 from by rw [show o = 7 from c25_1_7]; decide), if_neg (show ¬ o = 5 from by rw [show o = 7 from c25_1_7]; decide), if_neg (show ¬ o = 6 from by rw [show o = 7 from c25_1_7]; decide), if_pos (show o = 7 from c25_1_7), if_pos nc273_29, if_neg c290_31], by rw [mk_m_f (by omega) (by omega), mc_t, if_neg (show ¬ (o = 1 ∨ o = 3) from by rw [show o = 7 from c25_1_7]; decide), if_neg (show ¬ o = 2 from by rw [show o = 7 from c25_1_7]; decide), if_neg (show ¬ o = 4 from by rw [show o = 7 from c25_1_7]; decide), if_neg (show ¬ o = 5 from by rw [show o = 7 from c25_1_7]; decide)], (mo_g.mk mo_g.r)⟩)
  by_cases c25_1_8 : o = (8 : Int32)
  ·
    refine k_top (8 : Int32) c25_1_8 ?_
    refine k_tin C 299 (274) dX8_command_25 (by decide) (by decide) ?_
    refine k_aloadn C 0 dX8_command_299 rfl ?_
    refine k_getr C (j := 4) (k' := k + 3) kcl_X8 fl_X8_16 hk.1 (by decide) rfl dX8_command_300 ?_
    refine k_iloadn C 2 dX8_command_303 rfl ?_
    refine k_iloadn C 3 dX8_command_304 rfl ?_
    refine k_iload C 4 dX8_command_305 rfl ?_
    refine k_si C (as := [.ref (sk_ad O (k + 3)), .int a, .int b, .int c]) yvX8_isPart vsX8_isPart ml_X8_212 (m_X8_isPart l C.2.2.2.1 M (a := k + 3) (ha := hk.2.2.2.1) (s := a) (e := b) (p := c) (hw := hw)) rfl rfl (Nat.le_of_ble_eq_true rfl) (by decide) dX8_command_307 (fun x307_32 M307_32 h307_32 => ?_)
    rw [h307_32.1, h307_32.2]
    refine k_zne C 315 dX8_command_310 (by decide) (fun c310_33 => ?_) (fun c310_33 => ?_)
    ·
      have nc310_33 : mo_hp (M (k + 3)) a b c := Classical.byContradiction (fun h => c310_33 (sk_b1.mpr h))
      obtain ⟨ix, ib⟩ := sk_ix nc310_33.1.1 hm (by omega)
      obtain ⟨N, hN12, hN, hNp⟩ := id (hmj _ ib)
      obtain ⟨bx, bb⟩ := sk_ix nc310_33.1.2 hN (by omega)
      obtain ⟨hpe, hpe3⟩ := mo_nn hNp bb
      obtain ⟨cx, cb⟩ := sk_ix nc310_33.2 hpe (by omega)
      refine k_aloadn C 0 dX8_command_315 rfl ?_
      refine k_aloadn C 0 dX8_command_316 rfl ?_
      refine k_getr C (j := 4) (k' := k + 3) kcl_X8 fl_X8_16 hk.1 (by decide) rfl dX8_command_317 ?_
      refine k_iloadn C 2 dX8_command_320 rfl ?_
      refine k_iloadn C 3 dX8_command_321 rfl ?_
      refine k_vv C (as := [.ref (sk_ad O (k + 3)), .int a, .int b]) yvX8_weigh viX8_weigh ml_X8_135 (m_X8_weigh l C.2.2.2.1 M (k := k) (hk := hk) (a := k + 3) (ha := hk.2.2.2.1) (s := a.toNatClampNeg) (xs := a) (hxs := ix) (e := b.toNatClampNeg) (xe := b) (hxe := bx) (hs := (by omega)) (he := (by omega)) (hp := (by intro q hq; have h9 := hNp q (by omega); exact h9)) (hap := (by omega))) hk.1 rfl rfl rfl (Nat.le_of_ble_eq_true rfl) (by decide) dX8_command_322 (fun M322_34 h322_34 => ?_)
      rw [h322_34]
      refine k_aloadn C 0 dX8_command_325 rfl ?_
      refine k_getr C (j := 11) (k' := k + 9) kcl_X8 fl_X8_35 hk.1 (by decide) rfl dX8_command_326 ?_
      refine k_iconst C (3) dX8_command_329 (by decide) ?_
      refine k_iloadn C 3 dX8_command_330 rfl ?_
      refine k_imul C dX8_command_331 ?_
      refine k_iload C 4 dX8_command_332 rfl ?_
      refine k_iadd C dX8_command_334 ?_
      refine k_ialdn C (3 * b.toNatClampNeg + c.toNatClampNeg) hk.2.2.2.2.2.2.2.2.2.1 (sk_nadd (sk_nmul (rfl : ((3) : Int32) = nI 3) bx) cx) (by omega) dX8_command_335 ?_
      refine k_top (mo_wy (M (k + 3)) a.toNatClampNeg b.toNatClampNeg c.toNatClampNeg) ((mw_m_v cb).2) ?_
      refine k_iload C 5 dX8_command_336 rfl ?_
      refine k_cne C 345 dX8_command_338 (by decide) (fun c338_35 => ?_) (fun c338_35 => ?_)
      ·
        refine k_iconst C (0) dX8_command_345 (by decide) ?_
        exact ret _ _ _ _ dX8_command_346 rfl (by exact ⟨by rw [mc_v, if_neg (show ¬ (o = 1 ∨ o = 3) from by rw [show o = 8 from c25_1_8]; decide), if_neg (show ¬ o = 2 from by rw [show o = 8 from c25_1_8]; decide), if_neg (show ¬ o = 4 from by rw [show o = 8 from c25_1_8]; decide), if_neg (show ¬ o = 5 from by rw [show o = 8 from c25_1_8]; decide), if_neg (show ¬ o = 6 from by rw [show o = 8 from c25_1_8]; decide), if_neg (show ¬ o = 7 from by rw [show o = 8 from c25_1_8]; decide), if_pos (show o = 8 from c25_1_8), if_pos nc310_33, if_neg c338_35], by rw [mw_m_f (by omega), mc_t, if_neg (show ¬ (o = 1 ∨ o = 3) from by rw [show o = 8 from c25_1_8]; decide), if_neg (show ¬ o = 2 from by rw [show o = 8 from c25_1_8]; decide), if_neg (show ¬ o = 4 from by rw [show o = 8 from c25_1_8]; decide), if_neg (show ¬ o = 5 from by rw [show o = 8 from c25_1_8]; decide)], (mo_g.mw mo_g.r)⟩)
      ·
        refine k_iconst C (1) dX8_command_341 (by decide) ?_
        refine k_goto C 346 dX8_command_342 (by decide) ?_
        exact ret _ _ _ _ dX8_command_346 rfl (by exact ⟨by rw [mc_v, if_neg (show ¬ (o = 1 ∨ o = 3) from by rw [show o = 8 from c25_1_8]; decide), if_neg (show ¬ o = 2 from by rw [show o = 8 from c25_1_8]; decide), if_neg (show ¬ o = 4 from by rw [show o = 8 from c25_1_8]; decide), if_neg (show ¬ o = 5 from by rw [show o = 8 from c25_1_8]; decide), if_neg (show ¬ o = 6 from by rw [show o = 8 from c25_1_8]; decide), if_neg (show ¬ o = 7 from by rw [show o = 8 from c25_1_8]; decide), if_pos (show o = 8 from c25_1_8), if_pos nc310_33, if_pos c338_35], by rw [mw_m_f (by omega), mc_t, if_neg (show ¬ (o = 1 ∨ o = 3) from by rw [show o = 8 from c25_1_8]; decide), if_neg (show ¬ o = 2 from by rw [show o = 8 from c25_1_8]; decide), if_neg (show ¬ o = 4 from by rw [show o = 8 from c25_1_8]; decide), if_neg (show ¬ o = 5 from by rw [show o = 8 from c25_1_8]; decide)], (mo_g.mw mo_g.r)⟩)
    ·
      have nc310_33 : ¬ (mo_hp (M (k + 3)) a b c) := sk_b1.mp c310_33
      refine k_iconst C (0) dX8_command_313 (by decide) ?_
      exact ret _ _ _ _ dX8_command_314 rfl (by exact ⟨by rw [mc_v, if_neg (show ¬ (o = 1 ∨ o = 3) from by rw [show o = 8 from c25_1_8]; decide), if_neg (show ¬ o = 2 from by rw [show o = 8 from c25_1_8]; decide), if_neg (show ¬ o = 4 from by rw [show o = 8 from c25_1_8]; decide), if_neg (show ¬ o = 5 from by rw [show o = 8 from c25_1_8]; decide), if_neg (show ¬ o = 6 from by rw [show o = 8 from c25_1_8]; decide), if_neg (show ¬ o = 7 from by rw [show o = 8 from c25_1_8]; decide), if_pos (show o = 8 from c25_1_8), if_neg nc310_33], by rw [mc_t, if_neg (show ¬ (o = 1 ∨ o = 3) from by rw [show o = 8 from c25_1_8]; decide), if_neg (show ¬ o = 2 from by rw [show o = 8 from c25_1_8]; decide), if_neg (show ¬ o = 4 from by rw [show o = 8 from c25_1_8]; decide), if_neg (show ¬ o = 5 from by rw [show o = 8 from c25_1_8]; decide)], mo_g.r⟩)
  by_cases c25_1_9 : o = (9 : Int32)
  ·
    refine k_top (9 : Int32) c25_1_9 ?_
    refine k_tin C 347 (322) dX8_command_25 (by decide) (by decide) ?_
    refine k_iloadn C 2 dX8_command_347 rfl ?_
    refine k_zne C 374 dX8_command_348 (by decide) (fun c348_36 => ?_) (fun c348_36 => ?_)
    ·
      refine k_iconst C (0) dX8_command_374 (by decide) ?_
      exact ret _ _ _ _ dX8_command_375 rfl (by exact ⟨by rw [mc_v, if_neg (show ¬ (o = 1 ∨ o = 3) from by rw [show o = 9 from c25_1_9]; decide), if_neg (show ¬ o = 2 from by rw [show o = 9 from c25_1_9]; decide), if_neg (show ¬ o = 4 from by rw [show o = 9 from c25_1_9]; decide), if_neg (show ¬ o = 5 from by rw [show o = 9 from c25_1_9]; decide), if_neg (show ¬ o = 6 from by rw [show o = 9 from c25_1_9]; decide), if_neg (show ¬ o = 7 from by rw [show o = 9 from c25_1_9]; decide), if_neg (show ¬ o = 8 from by rw [show o = 9 from c25_1_9]; decide), if_pos (show o = 9 from c25_1_9), if_neg c348_36], by rw [mc_t, if_neg (show ¬ (o = 1 ∨ o = 3) from by rw [show o = 9 from c25_1_9]; decide), if_neg (show ¬ o = 2 from by rw [show o = 9 from c25_1_9]; decide), if_neg (show ¬ o = 4 from by rw [show o = 9 from c25_1_9]; decide), if_neg (show ¬ o = 5 from by rw [show o = 9 from c25_1_9]; decide)], mo_g.r⟩)
    ·
      refine k_iload C 5 dX8_command_351 rfl ?_
      refine k_zne C 374 dX8_command_353 (by decide) (fun c353_37 => ?_) (fun c353_37 => ?_)
      ·
        refine k_iconst C (0) dX8_command_374 (by decide) ?_
        exact ret _ _ _ _ dX8_command_375 rfl (by exact ⟨by rw [mc_v, if_neg (show ¬ (o = 1 ∨ o = 3) from by rw [show o = 9 from c25_1_9]; decide), if_neg (show ¬ o = 2 from by rw [show o = 9 from c25_1_9]; decide), if_neg (show ¬ o = 4 from by rw [show o = 9 from c25_1_9]; decide), if_neg (show ¬ o = 5 from by rw [show o = 9 from c25_1_9]; decide), if_neg (show ¬ o = 6 from by rw [show o = 9 from c25_1_9]; decide), if_neg (show ¬ o = 7 from by rw [show o = 9 from c25_1_9]; decide), if_neg (show ¬ o = 8 from by rw [show o = 9 from c25_1_9]; decide), if_pos (show o = 9 from c25_1_9), if_pos c348_36, if_neg c353_37], by rw [mc_t, if_neg (show ¬ (o = 1 ∨ o = 3) from by rw [show o = 9 from c25_1_9]; decide), if_neg (show ¬ o = 2 from by rw [show o = 9 from c25_1_9]; decide), if_neg (show ¬ o = 4 from by rw [show o = 9 from c25_1_9]; decide), if_neg (show ¬ o = 5 from by rw [show o = 9 from c25_1_9]; decide)], mo_g.r⟩)
      ·
        refine k_aloadn C 0 dX8_command_356 rfl ?_
        refine k_getr C (j := 4) (k' := k + 3) kcl_X8 fl_X8_16 hk.1 (by decide) rfl dX8_command_357 ?_
        refine k_bipush C (17) dX8_command_360 (by decide) ?_
        refine k_si C (as := [.ref (sk_ad O (k + 3)), .int (17)]) yvX8_sumOfAll vsX8_sumOfAll ml_X8_201 (m_X8_sumOfAll l C.2.2.2.1 M (a := k + 3) (ha := hk.2.2.2.1) (w := 17) (xw := (17)) (hxw := (rfl : ((17) : Int32) = nI 17)) (m := m) (hm4 := hm4) (hm := hm) (hmj := hmj) (hw18 := (by decide))) rfl rfl (Nat.le_of_ble_eq_true rfl) (by decide) dX8_command_362 (fun x362_38 M362_38 h362_38 => ?_)
        rw [h362_38.1, h362_38.2]
        refine k_iload C 6 dX8_command_365 rfl ?_
        refine k_cgt C 374 dX8_command_367 (by decide) (fun c367_39 => ?_) (fun c367_39 => ?_)
        ·
          refine k_iconst C (0) dX8_command_374 (by decide) ?_
          exact ret _ _ _ _ dX8_command_375 rfl (by exact ⟨by rw [mc_v, if_neg (show ¬ (o = 1 ∨ o = 3) from by rw [show o = 9 from c25_1_9]; decide), if_neg (show ¬ o = 2 from by rw [show o = 9 from c25_1_9]; decide), if_neg (show ¬ o = 4 from by rw [show o = 9 from c25_1_9]; decide), if_neg (show ¬ o = 5 from by rw [show o = 9 from c25_1_9]; decide), if_neg (show ¬ o = 6 from by rw [show o = 9 from c25_1_9]; decide), if_neg (show ¬ o = 7 from by rw [show o = 9 from c25_1_9]; decide), if_neg (show ¬ o = 8 from by rw [show o = 9 from c25_1_9]; decide), if_pos (show o = 9 from c25_1_9), if_pos c348_36, if_pos c353_37, if_pos c367_39], by rw [mc_t, if_neg (show ¬ (o = 1 ∨ o = 3) from by rw [show o = 9 from c25_1_9]; decide), if_neg (show ¬ o = 2 from by rw [show o = 9 from c25_1_9]; decide), if_neg (show ¬ o = 4 from by rw [show o = 9 from c25_1_9]; decide), if_neg (show ¬ o = 5 from by rw [show o = 9 from c25_1_9]; decide)], mo_g.r⟩)
        ·
          refine k_iconst C (1) dX8_command_370 (by decide) ?_
          refine k_goto C 375 dX8_command_371 (by decide) ?_
          exact ret _ _ _ _ dX8_command_375 rfl (by exact ⟨by rw [mc_v, if_neg (show ¬ (o = 1 ∨ o = 3) from by rw [show o = 9 from c25_1_9]; decide), if_neg (show ¬ o = 2 from by rw [show o = 9 from c25_1_9]; decide), if_neg (show ¬ o = 4 from by rw [show o = 9 from c25_1_9]; decide), if_neg (show ¬ o = 5 from by rw [show o = 9 from c25_1_9]; decide), if_neg (show ¬ o = 6 from by rw [show o = 9 from c25_1_9]; decide), if_neg (show ¬ o = 7 from by rw [show o = 9 from c25_1_9]; decide), if_neg (show ¬ o = 8 from by rw [show o = 9 from c25_1_9]; decide), if_pos (show o = 9 from c25_1_9), if_pos c348_36, if_pos c353_37, if_neg c367_39], by rw [mc_t, if_neg (show ¬ (o = 1 ∨ o = 3) from by rw [show o = 9 from c25_1_9]; decide), if_neg (show ¬ o = 2 from by rw [show o = 9 from c25_1_9]; decide), if_neg (show ¬ o = 4 from by rw [show o = 9 from c25_1_9]; decide), if_neg (show ¬ o = 5 from by rw [show o = 9 from c25_1_9]; decide)], mo_g.r⟩)
  have c25_1_1T : ¬ (o).toInt = 1 := fun h => c25_1_1 (sk_toI h)
  have c25_1_2T : ¬ (o).toInt = 2 := fun h => c25_1_2 (sk_toI h)
  have c25_1_3T : ¬ (o).toInt = 3 := fun h => c25_1_3 (sk_toI h)
  have c25_1_4T : ¬ (o).toInt = 4 := fun h => c25_1_4 (sk_toI h)
  have c25_1_5T : ¬ (o).toInt = 5 := fun h => c25_1_5 (sk_toI h)
  have c25_1_6T : ¬ (o).toInt = 6 := fun h => c25_1_6 (sk_toI h)
  have c25_1_7T : ¬ (o).toInt = 7 := fun h => c25_1_7 (sk_toI h)
  have c25_1_8T : ¬ (o).toInt = 8 := fun h => c25_1_8 (sk_toI h)
  have c25_1_9T : ¬ (o).toInt = 9 := fun h => c25_1_9 (sk_toI h)
  refine k_tout C 376 dX8_command_25 (by omega) (by decide) ?_
  refine k_iconst C (0) dX8_command_376 (by decide) ?_
  exact ret _ _ _ _ dX8_command_377 rfl (by exact ⟨by rw [mc_v, if_neg (show ¬ (o = 1 ∨ o = 3) from fun z => z.elim c25_1_1 c25_1_3), if_neg (show ¬ o = 2 from c25_1_2), if_neg (show ¬ o = 4 from c25_1_4), if_neg (show ¬ o = 5 from c25_1_5), if_neg (show ¬ o = 6 from c25_1_6), if_neg (show ¬ o = 7 from c25_1_7), if_neg (show ¬ o = 8 from c25_1_8), if_neg (show ¬ o = 9 from c25_1_9)], by rw [mc_t, if_neg (show ¬ (o = 1 ∨ o = 3) from fun z => z.elim c25_1_1 c25_1_3), if_neg (show ¬ o = 2 from c25_1_2), if_neg (show ¬ o = 4 from c25_1_4), if_neg (show ¬ o = 5 from c25_1_5)], mo_g.r⟩)

set_option maxHeartbeats 4000000 in
set_option maxRecDepth 100000 in
theorem m_X8_runScript (l : Launch) {O : sk_O} (hO : sk_inj O) (M : sk_M) (k : Nat) (hk : sk_isM O k) (v : Int32) (x : Int64) (m : Nat) (hm4 : m ≤ 4) (hm : M (k + 2) 0 = nI m) (hmj : ∀ s, s < m → mo_wp (M (k + 2)) s) : sk_Mi l yX8_runScript (sk_w yX8_runScript cX8_runScript 8 (some .int)) ({ frames := 12, cells := 0, slots := 0, locals := 294 }) O [.ref (sk_ad O k), .int v, .long x] M (mo_rq M k m v x) := by
  refine sk_mi (by decide) ⟨rfl, rfl⟩ hO (Nat.le_of_ble_eq_true rfl) (fun X A Q C ret => ?_)
  show sk_W l X O A Q 8 0 0 M 0 [(0, .ref (sk_ad O k)), (1, .int v), (2, .long x)] []
  have hW := fun q => mo_wm.rw (n := v.toNatClampNeg) (x := x) (mo_wm.w (t := M (k + 3)) (show mo_wm (M (k + 2)) m from ⟨hm, hmj⟩) hm4) hm4 q
  refine k_lconst C (1) dX8_runScript_0 (by decide) ?_
  refine k_lstore C [1, 2, 3, 0] [(0, .ref (sk_ad O k)), (1, .int v), (2, .long x), (4, .long (1))] dX8_runScript_1 (by decide) rfl ?_
  refine k_iconst C (0) dX8_runScript_3 (by decide) ?_
  refine k_istore C [1, 2, 3, 4, 0] [(0, .ref (sk_ad O k)), (1, .int v), (2, .long x), (4, .long (1)), (6, .int (0))] dX8_runScript_4 (by decide) rfl ?_
  have L6 : ∀ i, i ≤ 3 → (i = 0 ∨ ¬ v ≤ nI (i - 1)) → sk_W l X O A Q 8 0 0 M 6 [(0, .ref (sk_ad O k)), (1, .int v), (2, .long x), (4, .long (rn_p i)), (6, .int (nI i))] [] := by
    refine sk_loop 3 (fun i hi6 ih6 => ?_)
    intro hi0
    refine k_iload C 4 dX8_runScript_6 rfl ?_
    refine k_iloadn C 1 dX8_runScript_8 rfl ?_
    have J32 : (v ≤ nI i ∨ i = 3) → sk_W l X O A Q 8 0 0 M 32 [(0, .ref (sk_ad O k)), (1, .int v), (2, .long x), (4, .long (rn_p i)), (6, .int (nI i))] [] := by
      intro hJ32
      refine k_aloadn C 0 dX8_runScript_32 rfl ?_
      refine k_iloadn C 1 dX8_runScript_33 rfl ?_
      refine k_i2l C dX8_runScript_34 ?_
      refine k_lconst C (1) dX8_runScript_35 (by decide) ?_
      refine k_ldcl C kc_X8_238 dX8_runScript_36 ?_
      refine k_si C (as := [.long v.toInt64, .long (1), .long (3)]) yvX8_in vsX8_in ml_X8_64 (m_X8_in l C.2.2.2.1 M (v := v.toInt64) (p := (1)) (q := (3))) rfl rfl (Nat.le_of_ble_eq_true rfl) (by decide) dX8_runScript_39 (fun x39_1 M39_1 h39_1 => ?_)
      rw [h39_1.1, h39_1.2]
      refine k_zeq C 61 dX8_runScript_42 (by decide) (fun c42_2 => ?_) (fun c42_2 => ?_)
      ·
        have nc42_2 : ¬ (¬ v.toInt64 < (1) ∧ ¬ (3) < v.toInt64) := sk_b1.mp c42_2
        refine k_iconst C (1) dX8_runScript_61 (by decide) ?_
        refine k_vi C (as := [.int (1)]) yvX8_refused viX8_refused ml_X8_164 (m_X8_refused l C.2.2.2.1 M (k := k) (x := (1)) (hk := hk)) hk.1 rfl rfl rfl (Nat.le_of_ble_eq_true rfl) (by decide) dX8_runScript_62 (fun x62_3 M62_3 h62_3 => ?_)
        rw [h62_3.1, h62_3.2]
        refine k_top (1) (by decide) ?_
        refine k_zeq C 70 dX8_runScript_65 (by decide) (fun c65_4 => ?_) (fun c65_4 => ?_)
        ·
          exact absurd c65_4 (by decide)
        ·
          refine k_iconst C (0) dX8_runScript_68 (by decide) ?_
          exact ret _ _ _ _ dX8_runScript_69 rfl (by exact Or.inl ⟨fun h => nc42_2 ((in_k v 1 3 rfl rfl).mpr h.1), rfl, rfl⟩)
      ·
        have nc42_2 : ¬ v.toInt64 < (1) ∧ ¬ (3) < v.toInt64 := Classical.byContradiction (fun h => c42_2 (sk_b1.mpr h))
        obtain ⟨v1, v2⟩ := ((in_k v 1 3 rfl rfl).mp nc42_2)
        obtain ⟨vx, vb⟩ := sk_ix (x := v) (y := 4) (m := 4) ⟨fun h => v1 (Int32.lt_of_lt_of_le h (by decide)), fun h => v2 (Int32.lt_of_lt_of_le (by decide) h)⟩ rfl (by omega)
        have hv1 : 1 ≤ v.toNatClampNeg := (by
          have h9 := v1
          rw [vx, show (1 : Int32) = nI 1 from rfl, nI_ltI (by omega) (by omega)] at h9
          omega)
        obtain rfl : v.toNatClampNeg = i := (by
          rw [vx, nI_leI (by omega) (by omega)] at hJ32
          rw [vx, nI_leI (by omega) (by omega)] at hi0
          omega)
        refine k_lloadn C 2 dX8_runScript_45 rfl ?_
        refine k_lconst C (0) dX8_runScript_46 (by decide) ?_
        refine k_lload C 3 dX8_runScript_47 rfl ?_
        refine k_lconst C (1) dX8_runScript_49 (by decide) ?_
        refine k_lsub C dX8_runScript_50 ?_
        refine k_si C (as := [.long x, .long (0), .long ((rn_p v.toNatClampNeg) - (1))]) yvX8_in vsX8_in ml_X8_64 (m_X8_in l C.2.2.2.1 M (v := x) (p := (0)) (q := (rn_p v.toNatClampNeg) - (1))) rfl rfl (Nat.le_of_ble_eq_true rfl) (by decide) dX8_runScript_51 (fun x51_5 M51_5 h51_5 => ?_)
        rw [h51_5.1, h51_5.2]
        refine k_zeq C 61 dX8_runScript_54 (by decide) (fun c54_6 => ?_) (fun c54_6 => ?_)
        ·
          have nc54_6 : ¬ (¬ x < (0) ∧ ¬ ((rn_p v.toNatClampNeg) - (1)) < x) := sk_b1.mp c54_6
          refine k_iconst C (1) dX8_runScript_61 (by decide) ?_
          refine k_vi C (as := [.int (1)]) yvX8_refused viX8_refused ml_X8_164 (m_X8_refused l C.2.2.2.1 M (k := k) (x := (1)) (hk := hk)) hk.1 rfl rfl rfl (Nat.le_of_ble_eq_true rfl) (by decide) dX8_runScript_62 (fun x62_7 M62_7 h62_7 => ?_)
          rw [h62_7.1, h62_7.2]
          refine k_top (1) (by decide) ?_
          refine k_zeq C 70 dX8_runScript_65 (by decide) (fun c65_8 => ?_) (fun c65_8 => ?_)
          ·
            exact absurd c65_8 (by decide)
          ·
            refine k_iconst C (0) dX8_runScript_68 (by decide) ?_
            exact ret _ _ _ _ dX8_runScript_69 rfl (by exact Or.inl ⟨fun h => nc54_6 h.2, rfl, rfl⟩)
        ·
          have nc54_6 : ¬ x < (0) ∧ ¬ ((rn_p v.toNatClampNeg) - (1)) < x := Classical.byContradiction (fun h => c54_6 (sk_b1.mpr h))
          have hok : rn_k v x := ⟨⟨v1, v2⟩, nc54_6⟩
          refine k_iconst C (0) dX8_runScript_57 (by decide) ?_
          refine k_goto C 62 dX8_runScript_58 (by decide) ?_
          refine k_vi C (as := [.int (0)]) yvX8_refused viX8_refused ml_X8_164 (m_X8_refused l C.2.2.2.1 M (k := k) (x := (0)) (hk := hk)) hk.1 rfl rfl rfl (Nat.le_of_ble_eq_true rfl) (by decide) dX8_runScript_62 (fun x62_9 M62_9 h62_9 => ?_)
          rw [h62_9.1, h62_9.2]
          refine k_top (0) (by decide) ?_
          refine k_zeq C 70 dX8_runScript_65 (by decide) (fun c65_10 => ?_) (fun c65_10 => ?_)
          ·
            refine k_aloadn C 0 dX8_runScript_70 rfl ?_
            refine k_getr C (j := 3) (k' := k + 2) kcl_X8 fl_X8_13 hk.1 (by decide) rfl dX8_runScript_71 ?_
            refine k_iconst C (0) dX8_runScript_74 (by decide) ?_
            refine k_aloadn C 0 dX8_runScript_75 rfl ?_
            refine k_getr C (j := 4) (k' := k + 3) kcl_X8 fl_X8_16 hk.1 (by decide) rfl dX8_runScript_76 ?_
            refine k_iconst C (0) dX8_runScript_79 (by decide) ?_
            refine k_sv C (as := [.ref (sk_ad O (k + 2)), .int (0), .ref (sk_ad O (k + 3)), .int (0)]) yvX8_copyState vsX8_copyState ml_X8_221 (m_X8_copyState l C.2.2.2.1 (sk_ms M k 0 (0)) (a := k + 2) (b := k + 3) (za := 938) (zb := 938) (ha := hk.2.2.1) (hb := hk.2.2.2.1) (p := 0) (xp := (0)) (hxp := (rfl : ((0) : Int32) = nI 0)) (q := 0) (xq := (0)) (hxq := (rfl : ((0) : Int32) = nI 0)) (hza := (by omega)) (hzb := (by omega)) (hz2 := (by omega)) (hz3 := (by omega)) (hab := (by omega))) rfl rfl (Nat.le_of_ble_eq_true rfl) (by decide) dX8_runScript_80 (fun M80_11 h80_11 => ?_)
            rw [h80_11]
            refine k_iconst C (0) dX8_runScript_83 (by decide) ?_
            refine k_istore C [1, 2, 3, 4, 0] [(0, .ref (sk_ad O k)), (1, .int v), (2, .long x), (4, .long (rn_p v.toNatClampNeg)), (6, .int (0))] dX8_runScript_84 (by decide) rfl ?_
            have L86 : ∀ q, q ≤ v.toNatClampNeg → ∀ (N : sk_M), (N (k + 3) = rw_l (mu_c (M (k + 2)) (M (k + 3))) v.toNatClampNeg x q ∧ mo_g k (sk_ms M k 0 (0)) N) → (∀ j, j < q → ¬ rw_v (mu_c (M (k + 2)) (M (k + 3))) m v.toNatClampNeg x j = 0) → sk_W l X O A Q 8 0 0 N 86 [(0, .ref (sk_ad O k)), (1, .int v), (2, .long x), (4, .long (rn_q (rn_p v.toNatClampNeg) q)), (6, .int (nI q))] [] := by
              refine sk_loop v.toNatClampNeg (fun q hi86 ih86 => ?_)
              intro N hN9 hyes
              obtain ⟨hN3, hNg⟩ := hN9
              refine k_iload C 4 dX8_runScript_86 rfl ?_
              refine k_iloadn C 1 dX8_runScript_88 rfl ?_
              refine k_cge C 163 dX8_runScript_89 (by decide) (fun c89_12 => ?_) (fun c89_12 => ?_)
              ·
                have nc89_12 : v.toNatClampNeg ≤ q := (sk_eI (a := v.toNatClampNeg) (b := q) vx rfl (by omega) (by omega)).mp c89_12
                obtain rfl : v.toNatClampNeg = q := (by omega)
                refine k_iconst C (-1) dX8_runScript_163 (by decide) ?_
                exact ret _ _ _ _ dX8_runScript_164 rfl (by exact Or.inr ⟨hok, Or.inr ⟨hyes, rfl⟩, mo_gz hNg⟩)
              ·
                have nc89_12 : ¬ (v.toNatClampNeg ≤ q) := fun h => c89_12 ((sk_eI (a := v.toNatClampNeg) (b := q) vx rfl (by omega) (by omega)).mpr h)
                refine k_lload C 3 dX8_runScript_92 rfl ?_
                refine k_ldcl C kc_X8_261 dX8_runScript_94 ?_
                refine k_ldiv C dX8_runScript_97 (by decide) ?_
                refine k_topl (rn_q (rn_p v.toNatClampNeg) (q + 1)) rfl ?_
                refine k_lstore C [1, 2, 3, 0, 4] [(0, .ref (sk_ad O k)), (1, .int v), (2, .long x), (4, .long (rn_q (rn_p v.toNatClampNeg) (q + 1))), (6, .int (nI q))] dX8_runScript_98 (by decide) rfl ?_
                refine k_lloadn C 2 dX8_runScript_100 rfl ?_
                refine k_lload C 3 dX8_runScript_101 rfl ?_
                refine k_ldiv C dX8_runScript_103 (rn_nz _ hv1 (by omega) q (by omega)) ?_
                refine k_ldcl C kc_X8_261 dX8_runScript_104 ?_
                refine k_lrem C dX8_runScript_107 (by decide) ?_
                refine k_l2i C dX8_runScript_108 ?_
                refine k_top (rw_g v.toNatClampNeg x q) rfl ?_
                refine k_istore C [1, 2, 3, 4, 5, 0] [(0, .ref (sk_ad O k)), (1, .int v), (2, .long x), (4, .long (rn_q (rn_p v.toNatClampNeg) (q + 1))), (6, .int (nI q)), (7, .int (rw_g v.toNatClampNeg x q))] dX8_runScript_109 (by decide) rfl ?_
                refine k_aloadn C 0 dX8_runScript_111 rfl ?_
                refine k_iload C 5 dX8_runScript_112 rfl ?_
                refine k_sipush C (10000) dX8_runScript_114 (by decide) ?_
                refine k_idiv C dX8_runScript_117 (by decide) ?_
                refine k_iload C 5 dX8_runScript_118 rfl ?_
                refine k_sipush C (1000) dX8_runScript_120 (by decide) ?_
                refine k_idiv C dX8_runScript_123 (by decide) ?_
                refine k_bipush C (10) dX8_runScript_124 (by decide) ?_
                refine k_irem C dX8_runScript_126 (by decide) ?_
                refine k_iload C 5 dX8_runScript_127 rfl ?_
                refine k_bipush C (100) dX8_runScript_129 (by decide) ?_
                refine k_idiv C dX8_runScript_131 (by decide) ?_
                refine k_bipush C (10) dX8_runScript_132 (by decide) ?_
                refine k_irem C dX8_runScript_134 (by decide) ?_
                refine k_iload C 5 dX8_runScript_135 rfl ?_
                refine k_bipush C (10) dX8_runScript_137 (by decide) ?_
                refine k_idiv C dX8_runScript_139 (by decide) ?_
                refine k_bipush C (10) dX8_runScript_140 (by decide) ?_
                refine k_irem C dX8_runScript_142 (by decide) ?_
                refine k_iload C 5 dX8_runScript_143 rfl ?_
                refine k_bipush C (10) dX8_runScript_145 (by decide) ?_
                refine k_irem C dX8_runScript_147 (by decide) ?_
                refine k_vi C (as := [.int ((rw_g v.toNatClampNeg x q) / (10000)), .int (((rw_g v.toNatClampNeg x q) / (1000)) - ((rw_g v.toNatClampNeg x q) / (1000)) / (10) * (10)), .int (((rw_g v.toNatClampNeg x q) / (100)) - ((rw_g v.toNatClampNeg x q) / (100)) / (10) * (10)), .int (((rw_g v.toNatClampNeg x q) / (10)) - ((rw_g v.toNatClampNeg x q) / (10)) / (10) * (10)), .int ((rw_g v.toNatClampNeg x q) - (rw_g v.toNatClampNeg x q) / (10) * (10))]) yvX8_command viX8_command ml_X8_263 (m_X8_command l C.2.2.2.1 N (k := k) (hk := hk) (o := (rw_g v.toNatClampNeg x q) / (10000)) (a := ((rw_g v.toNatClampNeg x q) / (1000)) - ((rw_g v.toNatClampNeg x q) / (1000)) / (10) * (10)) (b := ((rw_g v.toNatClampNeg x q) / (100)) - ((rw_g v.toNatClampNeg x q) / (100)) / (10) * (10)) (c := ((rw_g v.toNatClampNeg x q) / (10)) - ((rw_g v.toNatClampNeg x q) / (10)) / (10) * (10)) (d := (rw_g v.toNatClampNeg x q) - (rw_g v.toNatClampNeg x q) / (10) * (10)) (m := m) (hm4 := hm4) (hm := (by rw [hN3]; exact (hW q).1)) (hmj := (by rw [hN3]; exact (hW q).2))) hk.1 rfl rfl rfl (Nat.le_of_ble_eq_true rfl) (by decide) dX8_runScript_148 (fun x148_13 M148_13 h148_13 => ?_)
                obtain ⟨hv9, hr9, hg9⟩ := h148_13
                rw [hN3] at hv9 hr9
                refine k_zne C 157 dX8_runScript_151 (by decide) (fun c151_14 => ?_) (fun c151_14 => ?_)
                ·
                  refine k_iinc C 4 (nI (q + 1)) [1, 2, 3, 4, 0, 5] [(0, .ref (sk_ad O k)), (1, .int v), (2, .long x), (4, .long (rn_q (rn_p v.toNatClampNeg) (q + 1))), (6, .int (nI (q + 1))), (7, .int (rw_g v.toNatClampNeg x q))] dX8_runScript_157 rfl (nI_add _ _) (by decide) rfl ?_
                  refine k_goto C 86 dX8_runScript_160 (by decide) ?_
                  refine k_sub [0, 1, 2, 3, 4] (lv' := [(0, .ref (sk_ad O k)), (1, .int v), (2, .long x), (4, .long (rn_q (rn_p v.toNatClampNeg) (q + 1))), (6, .int (nI (q + 1)))]) rfl ?_
                  exact ih86 (by omega) _ ⟨hr9, hNg.t hg9⟩ (fun j hj => by
                    rcases Nat.lt_succ_iff_lt_or_eq.mp hj with h | h
                    · exact hyes j h
                    · rw [h]
                      exact fun z => c151_14 (hv9.trans z))
                ·
                  refine k_iload C 4 dX8_runScript_154 rfl ?_
                  exact ret _ _ _ _ dX8_runScript_156 rfl (by exact Or.inr ⟨hok, Or.inl ⟨q, by omega, hyes, hv9.symm.trans c151_14, rfl⟩, mo_gz (hNg.t hg9)⟩)
            exact L86 0 (Nat.zero_le _) _ ⟨mc_mu.trans (by rw [sk_nf (by omega), sk_nf (by omega)]; rfl), mo_g.c rfl mo_g.r⟩ (fun j hj => absurd hj (Nat.not_lt_zero _))
          ·
            exact absurd c65_10 (by decide)
    refine k_cge C 32 dX8_runScript_9 (by decide) (fun c9_15 => ?_) (fun c9_15 => ?_)
    ·
      exact J32 (Or.inl c9_15)
    ·
      refine k_iload C 4 dX8_runScript_12 rfl ?_
      refine k_iconst C (3) dX8_runScript_14 (by decide) ?_
      refine k_cge C 32 dX8_runScript_15 (by decide) (fun c15_16 => ?_) (fun c15_16 => ?_)
      ·
        have nc15_16 : 3 ≤ i := (sk_eI (a := 3) (b := i) (rfl : ((3) : Int32) = nI 3) rfl (by omega) (by omega)).mp c15_16
        exact J32 (Or.inr (by omega))
      ·
        have nc15_16 : ¬ (3 ≤ i) := fun h => c15_16 ((sk_eI (a := 3) (b := i) (rfl : ((3) : Int32) = nI 3) rfl (by omega) (by omega)).mpr h)
        refine k_lload C 3 dX8_runScript_18 rfl ?_
        refine k_ldcl C kc_X8_261 dX8_runScript_20 ?_
        refine k_lmul C dX8_runScript_23 ?_
        refine k_lstore C [1, 2, 3, 0, 4] [(0, .ref (sk_ad O k)), (1, .int v), (2, .long x), (4, .long ((rn_p i) * (100000))), (6, .int (nI i))] dX8_runScript_24 (by decide) rfl ?_
        refine k_iinc C 4 (nI (i + 1)) [1, 2, 3, 4, 0] [(0, .ref (sk_ad O k)), (1, .int v), (2, .long x), (4, .long ((rn_p i) * (100000))), (6, .int (nI (i + 1)))] dX8_runScript_26 rfl (nI_add _ _) (by decide) rfl ?_
        refine k_goto C 6 dX8_runScript_29 (by decide) ?_
        exact ih6 (by omega) (Or.inr (by rw [Nat.add_sub_cancel]; exact c9_15))
  exact L6 0 (Nat.zero_le _) (Or.inl rfl)

