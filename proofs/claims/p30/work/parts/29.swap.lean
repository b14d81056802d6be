/-! SkateSheet: the best exchange -/
abbrev bs_S : Type := sk_M × Int32 × Int32 × Int32
def bs_t (N : sk_M) (k : Nat) : Int32 := N (k + 738) 14 + N (k + 738) 15 - N (k + 738) 16
def bs_s (k g i j : Nat) (z : bs_S) : bs_S := if z.2.2.1 = -1 ∨ z.2.1 < bs_t (x_sm z.1 k g i j) k then (x_sm z.1 k g i j, bs_t (x_sm z.1 k g i j) k, nI i, nI j) else (x_sm z.1 k g i j, z.2.1, z.2.2.1, z.2.2.2)
def bs_j (k g i : Nat) (z : bs_S) : Nat → bs_S
  | 0 => z
  | d + 1 => bs_s k g i (i + 1 + d) (bs_j k g i z d)
def bs_o (k g n : Nat) (z : bs_S) : Nat → bs_S
  | 0 => z
  | i + 1 => bs_j k g i (bs_o k g n z i) (n - (i + 1))
/-- what stays: the draft is a program, all else but scoring is as it was -/
def bs_w (M : sk_M) (k : Nat) (N : sk_M) : Prop := pg_wf N (k + 794) ∧ ∀ a, (a < k + 738 ∨ k + 747 ≤ a) → (a < k + 794 ∨ k + 804 ≤ a) → N a = M a
theorem x_sm_f {M : sk_M} {k g i j a : Nat} (h : a < k + 738 ∨ k + 747 ≤ a) (h2 : a < k + 794 ∨ k + 804 ≤ a) : x_sm M k g i j a = M a := by
  unfold x_sm x_sw
  rw [pg_te_f (by omega), pg_te_f (by omega), sc_ra_f (by omega), pg_te_f (by omega), pg_te_f (by omega)]
theorem bs_w1 {M N : sk_M} {k g i j : Nat} (hap : g + 10 ≤ k + 738) (hg : pg_wf M g) (hi : ∃ p : Nat, p ≤ 3 ∧ M (g + 2) i = nI p) (hj : ∃ p : Nat, p ≤ 3 ∧ M (g + 2) j = nI p) (h : bs_w M k N) : pg_wf (pg_te (pg_te N (k + 794) i g j) (k + 794) j g i) (k + 794) := by
  have h2 : N (g + 2) = M (g + 2) := h.2 _ (by omega) (by omega)
  refine pg_wf_te (by omega) ?_ (pg_wf_te (by omega) ?_ h.1)
  · rw [pg_te_f (by omega), h2]; exact hi
  · rw [h2]; exact hj
theorem bs_w2 {M N : sk_M} {k g i j : Nat} (hap : g + 10 ≤ k + 738) (hg : pg_wf M g) (hi : ∃ p : Nat, p ≤ 3 ∧ M (g + 2) i = nI p) (hj : ∃ p : Nat, p ≤ 3 ∧ M (g + 2) j = nI p) (h : bs_w M k N) : bs_w M k (x_sm N k g i j) := by
  have h2 : N (g + 2) = M (g + 2) := h.2 _ (by omega) (by omega)
  refine ⟨?_, fun a h3 h4 => by rw [x_sm_f h3 h4]; exact h.2 a h3 h4⟩
  unfold x_sm
  have h5 := bs_w1 hap hg hi hj h
  have h6 : pg_wf (x_sw N k g i j) (k + 794) := pg_wf_c (sc_ra_f (by omega)) (sc_ra_f (by omega)) h5
  have h7 : x_sw N k g i j (g + 2) = M (g + 2) := by
    unfold x_sw
    rw [sc_ra_f (by omega), pg_te_f (by omega), pg_te_f (by omega), h2]
  refine pg_wf_te (by omega) ?_ (pg_wf_te (by omega) ?_ h6)
  · rw [pg_te_f (by omega), h7]; exact hj
  · rw [h7]; exact hi
theorem bs_w3 {M : sk_M} {k g i j : Nat} {z : bs_S} (hap : g + 10 ≤ k + 738) (hg : pg_wf M g) (hi : ∃ p : Nat, p ≤ 3 ∧ M (g + 2) i = nI p) (hj : ∃ p : Nat, p ≤ 3 ∧ M (g + 2) j = nI p) (h : bs_w M k z.1) : bs_w M k (bs_s k g i j z).1 := by
  unfold bs_s
  split <;> exact bs_w2 hap hg hi hj h
theorem bs_w4 {M : sk_M} {k g i n : Nat} {z : bs_S} (hap : g + 10 ≤ k + 738) (hg : pg_wf M g) (hp : ∀ e, e < n → ∃ p : Nat, p ≤ 3 ∧ M (g + 2) e = nI p) (hi : i < n) (h : bs_w M k z.1) : ∀ d, d ≤ n - (i + 1) → bs_w M k (bs_j k g i z d).1
  | 0, _ => h
  | d + 1, hd => bs_w3 hap hg (hp i hi) (hp _ (by omega)) (bs_w4 hap hg hp hi h d (by omega))
theorem bs_w5 {M : sk_M} {k g n : Nat} {z : bs_S} (hap : g + 10 ≤ k + 738) (hg : pg_wf M g) (hp : ∀ e, e < n → ∃ p : Nat, p ≤ 3 ∧ M (g + 2) e = nI p) (h : bs_w M k z.1) : ∀ i, i ≤ n → bs_w M k (bs_o k g n z i).1
  | 0, _ => h
  | i + 1, hi => bs_w4 hap hg hp (by omega) (bs_w5 hap hg hp h i (by omega)) _ (Nat.le_refl _)
theorem bs_w0 {M : sk_M} {k g : Nat} (hap : g + 10 ≤ k + 738) (hg : pg_wf M g) : bs_w M k (pg_cf M (k + 794) g) :=
  ⟨pg_wf_cf (by omega) hg, fun a h1 h2 => pg_cf_f (by omega)⟩
abbrev bs_z (M : sk_M) (k g : Nat) : bs_S := (pg_cf M (k + 794) g, 0, -1, -1)
def bs_a (z : bs_S) (w : Int32) : Int32 := if z.2.2.1 = -1 then -1 else if w = 0 then z.2.1 else if w = 1 then z.2.2.1 else z.2.2.2
theorem bs_y {z : bs_S} {k g i j : Nat} (h : z.2.2.1 = -1 ∨ z.2.1 < bs_t (x_sm z.1 k g i j) k) : bs_s k g i j z = (x_sm z.1 k g i j, bs_t (x_sm z.1 k g i j) k, nI i, nI j) := if_pos h
theorem bs_n {z : bs_S} {k g i j : Nat} (h : ¬ z.2.2.1 = -1) (h2 : z.2.1 ≥ bs_t (x_sm z.1 k g i j) k) : bs_s k g i j z = (x_sm z.1 k g i j, z.2.1, z.2.2.1, z.2.2.2) := if_neg (fun q => q.elim h (fun r => absurd h2 (Int32.not_le.mpr r)))
set_option maxHeartbeats 4000000 in
set_option maxRecDepth 100000 in
theorem m_X7_bestSwap (l : Launch) {O : sk_O} (hO : sk_inj O) (M : sk_M) (k : Nat) (s w : Int32) (hk : sk_isX O k) (hw : st_wf M (k + 1)) (hst : l.stackTraces = false) : sk_Xi l yX7_bestSwap (sk_w yX7_bestSwap cX7_bestSwap 10 (some .int)) ({ frames := 6, cells := 1, slots := 6, locals := 131 }) O [.ref (sk_ad O k), .int s, .int w] M (fun r M' => (er_2 (st_hs M (k + 1) s) (¬ w < 0 ∧ ¬ 2 < w)) = 0 ∧ r = (bs_a (bs_o k (st_pg (k + 1) s) (pg_n M (st_pg (k + 1) s)) (bs_z M k (st_pg (k + 1) s)) (pg_n M (st_pg (k + 1) s))) w) ∧ M' = ((bs_o k (st_pg (k + 1) s) (pg_n M (st_pg (k + 1) s)) (bs_z M k (st_pg (k + 1) s)) (pg_n M (st_pg (k + 1) s))).1)) (fun E M' => ((er_2 (st_hs M (k + 1) s) (¬ w < 0 ∧ ¬ 2 < w)) = 1 ∧ E = "java/lang/IndexOutOfBoundsException" ∨ (er_2 (st_hs M (k + 1) s) (¬ w < 0 ∧ ¬ 2 < w)) = 2 ∧ E = "java/lang/IllegalArgumentException") ∧ M' = M) := by
  refine sk_xi hst (by decide) rfl ⟨rfl, rfl⟩ hO (Nat.le_of_ble_eq_true rfl) (fun X A Q C hSr ret thr out => ?_)
  show sk_W l X O A Q 10 0 0 M 0 [(0, .ref (sk_ad O k)), (1, .int s), (2, .int w)] []
  have hw0 := hw
  obtain ⟨m, hm4, hm, hmj⟩ := hw
  have hsn : st_n M (k + 1) = m := by rw [st_n, hm, nI_clamp (by omega)]
  refine k_aloadn C 0 dX7_bestSwap_0 rfl ?_
  refine k_getr C (j := 0) (k' := k + 1) kcl_X7 fl_X7_10 hk.1 (by decide) rfl dX7_bestSwap_1 ?_
  refine k_iloadn C 1 dX7_bestSwap_4 rfl ?_
  refine k_vi C (as := [.int s]) yvX5_hasSkater viX5_hasSkater ml_X7_122 (m_X5_hasSkater l C.2.2.2.1 M (k := k + 1) (hk := hk.2.1) (s := s)) hk.2.1.1 rfl rfl rfl (Nat.le_of_ble_eq_true rfl) (by decide) dX7_bestSwap_5 (fun x5_1 M5_1 h5_1 => ?_)
  rw [h5_1.1, h5_1.2]
  refine k_zne C 21 dX7_bestSwap_8 (by decide) (fun c8_2 => ?_) (fun c8_2 => ?_)
  ·
    have nc8_2 : st_hs M (k + 1) s := Classical.byContradiction (fun h => c8_2 (sk_b1.mpr h))
    obtain ⟨ix, ib⟩ := sk_ix nc8_2 hm (by omega)
    have hwg := hmj _ ib
    obtain ⟨N, hN12, hN, hNp⟩ := id hwg
    have hpn : pg_n M (k + 1 + 3 + 10 * s.toNatClampNeg) = N := by rw [pg_n, hN, nI_clamp (by omega)]
    have hbs := bs_w5 (k := k) (g := k + 1 + 3 + 10 * s.toNatClampNeg) (n := N) (z := bs_z M k (k + 1 + 3 + 10 * s.toNatClampNeg)) (by omega) hwg hNp (bs_w0 (by omega) hwg)
    refine k_iloadn C 2 dX7_bestSwap_21 rfl ?_
    refine k_zlt C 30 dX7_bestSwap_22 (by decide) (fun c22_3 => ?_) (fun c22_3 => ?_)
    ·
      refine thr "java/lang/IllegalArgumentException" "what is not 0 to 2" 69 305 73 _ _ _ xw_IllegalArgumentException (by decide +kernel) (by decide) dX7_bestSwap_30 dX7_bestSwap_33 (Or.inr ⟨dX7_bestSwap_34, dX7_bestSwap_37, dX7_bestSwap_40⟩) ?_
      refine ⟨Or.inr (⟨?_, rfl⟩), rfl⟩
      exact er2m nc8_2 (fun h => h.1 c22_3)
    ·
      refine k_iloadn C 2 dX7_bestSwap_25 rfl ?_
      refine k_iconst C (2) dX7_bestSwap_26 (by decide) ?_
      refine k_cle C 41 dX7_bestSwap_27 (by decide) (fun c27_4 => ?_) (fun c27_4 => ?_)
      ·
        refine k_aloadn C 0 dX7_bestSwap_41 rfl ?_
        refine k_getr C (j := 0) (k' := k + 1) kcl_X7 fl_X7_10 hk.1 (by decide) rfl dX7_bestSwap_42 ?_
        refine k_getr C (j := 0) (k' := k + 2) kcl_X5 fl_X7_133 hk.2.1.1 (by decide) rfl dX7_bestSwap_45 ?_
        refine k_iloadn C 1 dX7_bestSwap_48 rfl ?_
        refine k_aald C (k' := k + 1 + 3 + 10 * s.toNatClampNeg) s.toNatClampNeg ((hk.2.1.2.1).1) (by decide) ix (by omega) rfl dX7_bestSwap_49 ?_
        refine k_astoren C [1, 2, 3, 0] [(0, .ref (sk_ad O k)), (1, .int s), (2, .int w), (3, .ref (sk_ad O (k + 1 + 3 + 10 * s.toNatClampNeg)))] dX7_bestSwap_50 (by decide) rfl ?_
        refine k_aloadn C 0 dX7_bestSwap_51 rfl ?_
        refine k_getr C (j := 9) (k' := k + 794) kcl_X7 fl_X7_65 hk.1 (by decide) rfl dX7_bestSwap_52 ?_
        refine k_aloadn C 3 dX7_bestSwap_55 rfl ?_
        refine k_vv C (as := [.ref (sk_ad O (k + 1 + 3 + 10 * s.toNatClampNeg))]) yvX2_copyFrom viX2_copyFrom ml_X7_296 (m_X2_copyFrom l C.2.2.2.1 M (k := k + 794) (f := k + 1 + 3 + 10 * s.toNatClampNeg) (hk := hk.2.2.2.2.2.2.2.2.2.2) (hf := (hk.2.1.2.1).2 s.toNatClampNeg (by omega))) hk.2.2.2.2.2.2.2.2.2.2.1 rfl rfl rfl (Nat.le_of_ble_eq_true rfl) (by decide) dX7_bestSwap_56 (fun M56_5 h56_5 => ?_)
        rw [h56_5]
        refine k_iconst C (0) dX7_bestSwap_59 (by decide) ?_
        refine k_istore C [1, 2, 3, 4, 0] [(0, .ref (sk_ad O k)), (1, .int s), (2, .int w), (3, .ref (sk_ad O (k + 1 + 3 + 10 * s.toNatClampNeg))), (4, .int (0))] dX7_bestSwap_60 (by decide) rfl ?_
        refine k_iconst C (-1) dX7_bestSwap_62 (by decide) ?_
        refine k_istore C [1, 2, 3, 4, 5, 0] [(0, .ref (sk_ad O k)), (1, .int s), (2, .int w), (3, .ref (sk_ad O (k + 1 + 3 + 10 * s.toNatClampNeg))), (4, .int (0)), (5, .int (-1))] dX7_bestSwap_63 (by decide) rfl ?_
        refine k_iconst C (-1) dX7_bestSwap_65 (by decide) ?_
        refine k_istore C [1, 2, 3, 4, 5, 6, 0] [(0, .ref (sk_ad O k)), (1, .int s), (2, .int w), (3, .ref (sk_ad O (k + 1 + 3 + 10 * s.toNatClampNeg))), (4, .int (0)), (5, .int (-1)), (6, .int (-1))] dX7_bestSwap_66 (by decide) rfl ?_
        refine k_iconst C (0) dX7_bestSwap_68 (by decide) ?_
        refine k_istore C [1, 2, 3, 4, 5, 6, 7, 0] [(0, .ref (sk_ad O k)), (1, .int s), (2, .int w), (3, .ref (sk_ad O (k + 1 + 3 + 10 * s.toNatClampNeg))), (4, .int (0)), (5, .int (-1)), (6, .int (-1)), (7, .int (0))] dX7_bestSwap_69 (by decide) rfl ?_
        have L71 : ∀ i, i ≤ N → sk_W l X O A Q 10 0 0 ((bs_o k (k + 1 + 3 + 10 * s.toNatClampNeg) N (bs_z M k (k + 1 + 3 + 10 * s.toNatClampNeg)) i).1) 71 [(0, .ref (sk_ad O k)), (1, .int s), (2, .int w), (3, .ref (sk_ad O (k + 1 + 3 + 10 * s.toNatClampNeg))), (4, .int ((bs_o k (k + 1 + 3 + 10 * s.toNatClampNeg) N (bs_z M k (k + 1 + 3 + 10 * s.toNatClampNeg)) i).2.1)), (5, .int ((bs_o k (k + 1 + 3 + 10 * s.toNatClampNeg) N (bs_z M k (k + 1 + 3 + 10 * s.toNatClampNeg)) i).2.2.1)), (6, .int ((bs_o k (k + 1 + 3 + 10 * s.toNatClampNeg) N (bs_z M k (k + 1 + 3 + 10 * s.toNatClampNeg)) i).2.2.2)), (7, .int (nI i))] [] := by
          refine sk_loop N (fun i hi71 ih71 => ?_)
          refine k_iload C 7 dX7_bestSwap_71 rfl ?_
          refine k_aloadn C 3 dX7_bestSwap_73 rfl ?_
          refine k_geti C (j := 9) kcl_X2 fl_X7_145 ((hk.2.1.2.1).2 s.toNatClampNeg (by omega)).1 (by decide) rfl dX7_bestSwap_74 ?_
          refine k_cge C 143 dX7_bestSwap_77 (by decide) (fun c77_6 => ?_) (fun c77_6 => ?_)
          ·
            have nc77_6 : N ≤ i := (sk_eI (a := N) (b := i) (by rw [(hbs i (by omega)).2 _ (by omega) (by omega)]; exact hN) rfl (by omega) (by omega)).mp c77_6
            obtain rfl : N = i := (by omega)
            refine k_iload C 5 dX7_bestSwap_143 rfl ?_
            refine k_iconst C (-1) dX7_bestSwap_145 (by decide) ?_
            refine k_cne C 151 dX7_bestSwap_146 (by decide) (fun c146_7 => ?_) (fun c146_7 => ?_)
            ·
              refine k_iloadn C 2 dX7_bestSwap_151 rfl ?_
              refine k_zne C 160 dX7_bestSwap_152 (by decide) (fun c152_8 => ?_) (fun c152_8 => ?_)
              ·
                refine k_iloadn C 2 dX7_bestSwap_160 rfl ?_
                refine k_iconst C (1) dX7_bestSwap_161 (by decide) ?_
                refine k_cne C 170 dX7_bestSwap_162 (by decide) (fun c162_9 => ?_) (fun c162_9 => ?_)
                ·
                  refine k_iload C 6 dX7_bestSwap_170 rfl ?_
                  refine ret _ _ _ _ _ _ (by decide) (by decide) dX7_bestSwap_172 rfl ?_
                  exact ⟨er2p nc8_2 ⟨c22_3, Int32.not_lt.mpr c27_4⟩, by rw [hpn, bs_a, if_neg c146_7, if_neg c152_8, if_neg c162_9], by rw [hpn]⟩
                ·
                  refine k_iload C 5 dX7_bestSwap_165 rfl ?_
                  refine k_goto C 172 dX7_bestSwap_167 (by decide) ?_
                  refine ret _ _ _ _ _ _ (by decide) (by decide) dX7_bestSwap_172 rfl ?_
                  exact ⟨er2p nc8_2 ⟨c22_3, Int32.not_lt.mpr c27_4⟩, by rw [hpn, bs_a, if_neg c146_7, if_neg c152_8, if_pos c162_9], by rw [hpn]⟩
              ·
                refine k_iload C 4 dX7_bestSwap_155 rfl ?_
                refine k_goto C 172 dX7_bestSwap_157 (by decide) ?_
                refine ret _ _ _ _ _ _ (by decide) (by decide) dX7_bestSwap_172 rfl ?_
                exact ⟨er2p nc8_2 ⟨c22_3, Int32.not_lt.mpr c27_4⟩, by rw [hpn, bs_a, if_neg c146_7, if_pos c152_8], by rw [hpn]⟩
            ·
              refine k_iconst C (-1) dX7_bestSwap_149 (by decide) ?_
              refine ret _ _ _ _ _ _ (by decide) (by decide) dX7_bestSwap_150 rfl ?_
              exact ⟨er2p nc8_2 ⟨c22_3, Int32.not_lt.mpr c27_4⟩, by rw [hpn, bs_a, if_pos c146_7], by rw [hpn]⟩
          ·
            have nc77_6 : ¬ (N ≤ i) := fun h => c77_6 ((sk_eI (a := N) (b := i) (by rw [(hbs i (by omega)).2 _ (by omega) (by omega)]; exact hN) rfl (by omega) (by omega)).mpr h)
            refine k_iload C 7 dX7_bestSwap_80 rfl ?_
            refine k_iconst C (1) dX7_bestSwap_82 (by decide) ?_
            refine k_iadd C dX7_bestSwap_83 ?_
            refine k_top (nI (i + 1)) (sk_nadd (b := 1) rfl rfl) ?_
            refine k_istore C [1, 2, 3, 4, 5, 6, 7, 8, 0] [(0, .ref (sk_ad O k)), (1, .int s), (2, .int w), (3, .ref (sk_ad O (k + 1 + 3 + 10 * s.toNatClampNeg))), (4, .int ((bs_o k (k + 1 + 3 + 10 * s.toNatClampNeg) N (bs_z M k (k + 1 + 3 + 10 * s.toNatClampNeg)) i).2.1)), (5, .int ((bs_o k (k + 1 + 3 + 10 * s.toNatClampNeg) N (bs_z M k (k + 1 + 3 + 10 * s.toNatClampNeg)) i).2.2.1)), (6, .int ((bs_o k (k + 1 + 3 + 10 * s.toNatClampNeg) N (bs_z M k (k + 1 + 3 + 10 * s.toNatClampNeg)) i).2.2.2)), (7, .int (nI i)), (8, .int (nI (i + 1)))] dX7_bestSwap_84 (by decide) rfl ?_
            have L86 : ∀ d, d ≤ N - (i + 1) → sk_W l X O A Q 10 0 0 ((bs_j k (k + 1 + 3 + 10 * s.toNatClampNeg) i (bs_o k (k + 1 + 3 + 10 * s.toNatClampNeg) N (bs_z M k (k + 1 + 3 + 10 * s.toNatClampNeg)) i) d).1) 86 [(0, .ref (sk_ad O k)), (1, .int s), (2, .int w), (3, .ref (sk_ad O (k + 1 + 3 + 10 * s.toNatClampNeg))), (4, .int ((bs_j k (k + 1 + 3 + 10 * s.toNatClampNeg) i (bs_o k (k + 1 + 3 + 10 * s.toNatClampNeg) N (bs_z M k (k + 1 + 3 + 10 * s.toNatClampNeg)) i) d).2.1)), (5, .int ((bs_j k (k + 1 + 3 + 10 * s.toNatClampNeg) i (bs_o k (k + 1 + 3 + 10 * s.toNatClampNeg) N (bs_z M k (k + 1 + 3 + 10 * s.toNatClampNeg)) i) d).2.2.1)), (6, .int ((bs_j k (k + 1 + 3 + 10 * s.toNatClampNeg) i (bs_o k (k + 1 + 3 + 10 * s.toNatClampNeg) N (bs_z M k (k + 1 + 3 + 10 * s.toNatClampNeg)) i) d).2.2.2)), (7, .int (nI i)), (8, .int (nI (i + 1 + d)))] [] := by
              refine sk_loop (N - (i + 1)) (fun d hi86 ih86 => ?_)
              refine k_iload C 8 dX7_bestSwap_86 rfl ?_
              refine k_aloadn C 3 dX7_bestSwap_88 rfl ?_
              refine k_geti C (j := 9) kcl_X2 fl_X7_145 ((hk.2.1.2.1).2 s.toNatClampNeg (by omega)).1 (by decide) rfl dX7_bestSwap_89 ?_
              refine k_cge C 137 dX7_bestSwap_92 (by decide) (fun c92_10 => ?_) (fun c92_10 => ?_)
              ·
                have nc92_10 : N ≤ i + 1 + d := (sk_eI (a := N) (b := i + 1 + d) (by rw [(bs_w4 (by omega) hwg hNp (by omega) (hbs i (by omega)) d (by omega)).2 _ (by omega) (by omega)]; exact hN) rfl (by omega) (by omega)).mp c92_10
                obtain rfl : d = N - (i + 1) := (by omega)
                refine k_iinc C 7 (nI (i + 1)) [1, 2, 3, 4, 5, 6, 7, 0, 8] [(0, .ref (sk_ad O k)), (1, .int s), (2, .int w), (3, .ref (sk_ad O (k + 1 + 3 + 10 * s.toNatClampNeg))), (4, .int ((bs_j k (k + 1 + 3 + 10 * s.toNatClampNeg) i (bs_o k (k + 1 + 3 + 10 * s.toNatClampNeg) N (bs_z M k (k + 1 + 3 + 10 * s.toNatClampNeg)) i) (N - (i + 1))).2.1)), (5, .int ((bs_j k (k + 1 + 3 + 10 * s.toNatClampNeg) i (bs_o k (k + 1 + 3 + 10 * s.toNatClampNeg) N (bs_z M k (k + 1 + 3 + 10 * s.toNatClampNeg)) i) (N - (i + 1))).2.2.1)), (6, .int ((bs_j k (k + 1 + 3 + 10 * s.toNatClampNeg) i (bs_o k (k + 1 + 3 + 10 * s.toNatClampNeg) N (bs_z M k (k + 1 + 3 + 10 * s.toNatClampNeg)) i) (N - (i + 1))).2.2.2)), (7, .int (nI (i + 1))), (8, .int (nI (i + 1 + (N - (i + 1)))))] dX7_bestSwap_137 rfl (nI_add _ _) (by decide) rfl ?_
                refine k_goto C 71 dX7_bestSwap_140 (by decide) ?_
                refine k_sub [0, 1, 2, 3, 4, 5, 6, 7] (lv' := [(0, .ref (sk_ad O k)), (1, .int s), (2, .int w), (3, .ref (sk_ad O (k + 1 + 3 + 10 * s.toNatClampNeg))), (4, .int ((bs_j k (k + 1 + 3 + 10 * s.toNatClampNeg) i (bs_o k (k + 1 + 3 + 10 * s.toNatClampNeg) N (bs_z M k (k + 1 + 3 + 10 * s.toNatClampNeg)) i) (N - (i + 1))).2.1)), (5, .int ((bs_j k (k + 1 + 3 + 10 * s.toNatClampNeg) i (bs_o k (k + 1 + 3 + 10 * s.toNatClampNeg) N (bs_z M k (k + 1 + 3 + 10 * s.toNatClampNeg)) i) (N - (i + 1))).2.2.1)), (6, .int ((bs_j k (k + 1 + 3 + 10 * s.toNatClampNeg) i (bs_o k (k + 1 + 3 + 10 * s.toNatClampNeg) N (bs_z M k (k + 1 + 3 + 10 * s.toNatClampNeg)) i) (N - (i + 1))).2.2.2)), (7, .int (nI (i + 1)))]) rfl ?_
                exact ih71 (by omega)
              ·
                have nc92_10 : ¬ (N ≤ i + 1 + d) := fun h => c92_10 ((sk_eI (a := N) (b := i + 1 + d) (by rw [(bs_w4 (by omega) hwg hNp (by omega) (hbs i (by omega)) d (by omega)).2 _ (by omega) (by omega)]; exact hN) rfl (by omega) (by omega)).mpr h)
                refine k_aloadn C 0 dX7_bestSwap_95 rfl ?_
                refine k_aloadn C 3 dX7_bestSwap_96 rfl ?_
                refine k_iload C 7 dX7_bestSwap_97 rfl ?_
                refine k_iload C 8 dX7_bestSwap_99 rfl ?_
                refine k_vi C (as := [.ref (sk_ad O (k + 1 + 3 + 10 * s.toNatClampNeg)), .int (nI i), .int (nI (i + 1 + d))]) yvX7_totalOfSwap viX7_totalOfSwap ml_X7_307 (m_X7_totalOfSwap l C.2.2.2.1 ((bs_j k (k + 1 + 3 + 10 * s.toNatClampNeg) i (bs_o k (k + 1 + 3 + 10 * s.toNatClampNeg) N (bs_z M k (k + 1 + 3 + 10 * s.toNatClampNeg)) i) d).1) (k := k) (g := k + 1 + 3 + 10 * s.toNatClampNeg) (i := i) (j := i + 1 + d) (hk := hk) (hg := (hk.2.1.2.1).2 s.toNatClampNeg (by omega)) (hi := (by omega)) (hj := (by omega)) (hw := (bs_w1 (by omega) hwg (hNp i (by omega)) (hNp _ (by omega)) (bs_w4 (by omega) hwg hNp (by omega) (hbs i (by omega)) d (by omega))))) hk.1 rfl rfl rfl (Nat.le_of_ble_eq_true rfl) (by decide) dX7_bestSwap_101 (fun x101_11 M101_11 h101_11 => ?_)
                rw [h101_11.1, h101_11.2]
                refine k_top (bs_t (x_sm (bs_j k (k + 1 + 3 + 10 * s.toNatClampNeg) i (bs_o k (k + 1 + 3 + 10 * s.toNatClampNeg) N (bs_z M k (k + 1 + 3 + 10 * s.toNatClampNeg)) i) d).1 k (k + 1 + 3 + 10 * s.toNatClampNeg) i (i + 1 + d)) k) rfl ?_
                refine k_istore C [1, 2, 3, 4, 5, 6, 7, 8, 9, 0] [(0, .ref (sk_ad O k)), (1, .int s), (2, .int w), (3, .ref (sk_ad O (k + 1 + 3 + 10 * s.toNatClampNeg))), (4, .int ((bs_j k (k + 1 + 3 + 10 * s.toNatClampNeg) i (bs_o k (k + 1 + 3 + 10 * s.toNatClampNeg) N (bs_z M k (k + 1 + 3 + 10 * s.toNatClampNeg)) i) d).2.1)), (5, .int ((bs_j k (k + 1 + 3 + 10 * s.toNatClampNeg) i (bs_o k (k + 1 + 3 + 10 * s.toNatClampNeg) N (bs_z M k (k + 1 + 3 + 10 * s.toNatClampNeg)) i) d).2.2.1)), (6, .int ((bs_j k (k + 1 + 3 + 10 * s.toNatClampNeg) i (bs_o k (k + 1 + 3 + 10 * s.toNatClampNeg) N (bs_z M k (k + 1 + 3 + 10 * s.toNatClampNeg)) i) d).2.2.2)), (7, .int (nI i)), (8, .int (nI (i + 1 + d))), (9, .int (bs_t (x_sm (bs_j k (k + 1 + 3 + 10 * s.toNatClampNeg) i (bs_o k (k + 1 + 3 + 10 * s.toNatClampNeg) N (bs_z M k (k + 1 + 3 + 10 * s.toNatClampNeg)) i) d).1 k (k + 1 + 3 + 10 * s.toNatClampNeg) i (i + 1 + d)) k))] dX7_bestSwap_104 (by decide) rfl ?_
                refine k_iload C 5 dX7_bestSwap_106 rfl ?_
                refine k_iconst C (-1) dX7_bestSwap_108 (by decide) ?_
                have J131 : sk_W l X O A Q 10 0 0 ((bs_s k (k + 1 + 3 + 10 * s.toNatClampNeg) i (i + 1 + d) (bs_j k (k + 1 + 3 + 10 * s.toNatClampNeg) i (bs_o k (k + 1 + 3 + 10 * s.toNatClampNeg) N (bs_z M k (k + 1 + 3 + 10 * s.toNatClampNeg)) i) d)).1) 131 [(0, .ref (sk_ad O k)), (1, .int s), (2, .int w), (3, .ref (sk_ad O (k + 1 + 3 + 10 * s.toNatClampNeg))), (4, .int ((bs_s k (k + 1 + 3 + 10 * s.toNatClampNeg) i (i + 1 + d) (bs_j k (k + 1 + 3 + 10 * s.toNatClampNeg) i (bs_o k (k + 1 + 3 + 10 * s.toNatClampNeg) N (bs_z M k (k + 1 + 3 + 10 * s.toNatClampNeg)) i) d)).2.1)), (5, .int ((bs_s k (k + 1 + 3 + 10 * s.toNatClampNeg) i (i + 1 + d) (bs_j k (k + 1 + 3 + 10 * s.toNatClampNeg) i (bs_o k (k + 1 + 3 + 10 * s.toNatClampNeg) N (bs_z M k (k + 1 + 3 + 10 * s.toNatClampNeg)) i) d)).2.2.1)), (6, .int ((bs_s k (k + 1 + 3 + 10 * s.toNatClampNeg) i (i + 1 + d) (bs_j k (k + 1 + 3 + 10 * s.toNatClampNeg) i (bs_o k (k + 1 + 3 + 10 * s.toNatClampNeg) N (bs_z M k (k + 1 + 3 + 10 * s.toNatClampNeg)) i) d)).2.2.2)), (7, .int (nI i)), (8, .int (nI (i + 1 + d)))] [] := by
                  refine k_iinc C 8 (nI (i + 1 + d + 1)) [1, 2, 3, 4, 5, 6, 7, 8, 0] [(0, .ref (sk_ad O k)), (1, .int s), (2, .int w), (3, .ref (sk_ad O (k + 1 + 3 + 10 * s.toNatClampNeg))), (4, .int ((bs_s k (k + 1 + 3 + 10 * s.toNatClampNeg) i (i + 1 + d) (bs_j k (k + 1 + 3 + 10 * s.toNatClampNeg) i (bs_o k (k + 1 + 3 + 10 * s.toNatClampNeg) N (bs_z M k (k + 1 + 3 + 10 * s.toNatClampNeg)) i) d)).2.1)), (5, .int ((bs_s k (k + 1 + 3 + 10 * s.toNatClampNeg) i (i + 1 + d) (bs_j k (k + 1 + 3 + 10 * s.toNatClampNeg) i (bs_o k (k + 1 + 3 + 10 * s.toNatClampNeg) N (bs_z M k (k + 1 + 3 + 10 * s.toNatClampNeg)) i) d)).2.2.1)), (6, .int ((bs_s k (k + 1 + 3 + 10 * s.toNatClampNeg) i (i + 1 + d) (bs_j k (k + 1 + 3 + 10 * s.toNatClampNeg) i (bs_o k (k + 1 + 3 + 10 * s.toNatClampNeg) N (bs_z M k (k + 1 + 3 + 10 * s.toNatClampNeg)) i) d)).2.2.2)), (7, .int (nI i)), (8, .int (nI (i + 1 + d + 1)))] dX7_bestSwap_131 rfl (nI_add _ _) (by decide) rfl ?_
                  refine k_goto C 86 dX7_bestSwap_134 (by decide) ?_
                  exact ih86 (by omega)
                refine k_ceq C 119 dX7_bestSwap_109 (by decide) (fun c109_12 => ?_) (fun c109_12 => ?_)
                ·
                  refine k_iload C 9 dX7_bestSwap_119 rfl ?_
                  refine k_istore C [1, 2, 3, 4, 0, 5, 6, 7, 8, 9] [(0, .ref (sk_ad O k)), (1, .int s), (2, .int w), (3, .ref (sk_ad O (k + 1 + 3 + 10 * s.toNatClampNeg))), (4, .int (bs_t (x_sm (bs_j k (k + 1 + 3 + 10 * s.toNatClampNeg) i (bs_o k (k + 1 + 3 + 10 * s.toNatClampNeg) N (bs_z M k (k + 1 + 3 + 10 * s.toNatClampNeg)) i) d).1 k (k + 1 + 3 + 10 * s.toNatClampNeg) i (i + 1 + d)) k)), (5, .int ((bs_j k (k + 1 + 3 + 10 * s.toNatClampNeg) i (bs_o k (k + 1 + 3 + 10 * s.toNatClampNeg) N (bs_z M k (k + 1 + 3 + 10 * s.toNatClampNeg)) i) d).2.2.1)), (6, .int ((bs_j k (k + 1 + 3 + 10 * s.toNatClampNeg) i (bs_o k (k + 1 + 3 + 10 * s.toNatClampNeg) N (bs_z M k (k + 1 + 3 + 10 * s.toNatClampNeg)) i) d).2.2.2)), (7, .int (nI i)), (8, .int (nI (i + 1 + d))), (9, .int (bs_t (x_sm (bs_j k (k + 1 + 3 + 10 * s.toNatClampNeg) i (bs_o k (k + 1 + 3 + 10 * s.toNatClampNeg) N (bs_z M k (k + 1 + 3 + 10 * s.toNatClampNeg)) i) d).1 k (k + 1 + 3 + 10 * s.toNatClampNeg) i (i + 1 + d)) k))] dX7_bestSwap_121 (by decide) rfl ?_
                  refine k_iload C 7 dX7_bestSwap_123 rfl ?_
                  refine k_istore C [1, 2, 3, 4, 5, 0, 6, 7, 8, 9] [(0, .ref (sk_ad O k)), (1, .int s), (2, .int w), (3, .ref (sk_ad O (k + 1 + 3 + 10 * s.toNatClampNeg))), (4, .int (bs_t (x_sm (bs_j k (k + 1 + 3 + 10 * s.toNatClampNeg) i (bs_o k (k + 1 + 3 + 10 * s.toNatClampNeg) N (bs_z M k (k + 1 + 3 + 10 * s.toNatClampNeg)) i) d).1 k (k + 1 + 3 + 10 * s.toNatClampNeg) i (i + 1 + d)) k)), (5, .int (nI i)), (6, .int ((bs_j k (k + 1 + 3 + 10 * s.toNatClampNeg) i (bs_o k (k + 1 + 3 + 10 * s.toNatClampNeg) N (bs_z M k (k + 1 + 3 + 10 * s.toNatClampNeg)) i) d).2.2.2)), (7, .int (nI i)), (8, .int (nI (i + 1 + d))), (9, .int (bs_t (x_sm (bs_j k (k + 1 + 3 + 10 * s.toNatClampNeg) i (bs_o k (k + 1 + 3 + 10 * s.toNatClampNeg) N (bs_z M k (k + 1 + 3 + 10 * s.toNatClampNeg)) i) d).1 k (k + 1 + 3 + 10 * s.toNatClampNeg) i (i + 1 + d)) k))] dX7_bestSwap_125 (by decide) rfl ?_
                  refine k_iload C 8 dX7_bestSwap_127 rfl ?_
                  refine k_istore C [1, 2, 3, 4, 5, 6, 0, 7, 8, 9] [(0, .ref (sk_ad O k)), (1, .int s), (2, .int w), (3, .ref (sk_ad O (k + 1 + 3 + 10 * s.toNatClampNeg))), (4, .int (bs_t (x_sm (bs_j k (k + 1 + 3 + 10 * s.toNatClampNeg) i (bs_o k (k + 1 + 3 + 10 * s.toNatClampNeg) N (bs_z M k (k + 1 + 3 + 10 * s.toNatClampNeg)) i) d).1 k (k + 1 + 3 + 10 * s.toNatClampNeg) i (i + 1 + d)) k)), (5, .int (nI i)), (6, .int (nI (i + 1 + d))), (7, .int (nI i)), (8, .int (nI (i + 1 + d))), (9, .int (bs_t (x_sm (bs_j k (k + 1 + 3 + 10 * s.toNatClampNeg) i (bs_o k (k + 1 + 3 + 10 * s.toNatClampNeg) N (bs_z M k (k + 1 + 3 + 10 * s.toNatClampNeg)) i) d).1 k (k + 1 + 3 + 10 * s.toNatClampNeg) i (i + 1 + d)) k))] dX7_bestSwap_129 (by decide) rfl ?_
                  refine k_sub [0, 1, 2, 3, 4, 5, 6, 7, 8] (lv' := [(0, .ref (sk_ad O k)), (1, .int s), (2, .int w), (3, .ref (sk_ad O (k + 1 + 3 + 10 * s.toNatClampNeg))), (4, .int (bs_t (x_sm (bs_j k (k + 1 + 3 + 10 * s.toNatClampNeg) i (bs_o k (k + 1 + 3 + 10 * s.toNatClampNeg) N (bs_z M k (k + 1 + 3 + 10 * s.toNatClampNeg)) i) d).1 k (k + 1 + 3 + 10 * s.toNatClampNeg) i (i + 1 + d)) k)), (5, .int (nI i)), (6, .int (nI (i + 1 + d))), (7, .int (nI i)), (8, .int (nI (i + 1 + d)))]) rfl ?_
                  refine k_eq (by rw [bs_y (Or.inl c109_12)]) rfl (by rw [bs_y (Or.inl c109_12)]) rfl J131
                ·
                  refine k_iload C 9 dX7_bestSwap_112 rfl ?_
                  refine k_iload C 4 dX7_bestSwap_114 rfl ?_
                  refine k_cle C 131 dX7_bestSwap_116 (by decide) (fun c116_13 => ?_) (fun c116_13 => ?_)
                  ·
                    refine k_sub [0, 1, 2, 3, 4, 5, 6, 7, 8] (lv' := [(0, .ref (sk_ad O k)), (1, .int s), (2, .int w), (3, .ref (sk_ad O (k + 1 + 3 + 10 * s.toNatClampNeg))), (4, .int ((bs_j k (k + 1 + 3 + 10 * s.toNatClampNeg) i (bs_o k (k + 1 + 3 + 10 * s.toNatClampNeg) N (bs_z M k (k + 1 + 3 + 10 * s.toNatClampNeg)) i) d).2.1)), (5, .int ((bs_j k (k + 1 + 3 + 10 * s.toNatClampNeg) i (bs_o k (k + 1 + 3 + 10 * s.toNatClampNeg) N (bs_z M k (k + 1 + 3 + 10 * s.toNatClampNeg)) i) d).2.2.1)), (6, .int ((bs_j k (k + 1 + 3 + 10 * s.toNatClampNeg) i (bs_o k (k + 1 + 3 + 10 * s.toNatClampNeg) N (bs_z M k (k + 1 + 3 + 10 * s.toNatClampNeg)) i) d).2.2.2)), (7, .int (nI i)), (8, .int (nI (i + 1 + d)))]) rfl ?_
                    refine k_eq (by rw [bs_n c109_12 c116_13]) rfl (by rw [bs_n c109_12 c116_13]) rfl J131
                  ·
                    refine k_iload C 9 dX7_bestSwap_119 rfl ?_
                    refine k_istore C [1, 2, 3, 4, 0, 5, 6, 7, 8, 9] [(0, .ref (sk_ad O k)), (1, .int s), (2, .int w), (3, .ref (sk_ad O (k + 1 + 3 + 10 * s.toNatClampNeg))), (4, .int (bs_t (x_sm (bs_j k (k + 1 + 3 + 10 * s.toNatClampNeg) i (bs_o k (k + 1 + 3 + 10 * s.toNatClampNeg) N (bs_z M k (k + 1 + 3 + 10 * s.toNatClampNeg)) i) d).1 k (k + 1 + 3 + 10 * s.toNatClampNeg) i (i + 1 + d)) k)), (5, .int ((bs_j k (k + 1 + 3 + 10 * s.toNatClampNeg) i (bs_o k (k + 1 + 3 + 10 * s.toNatClampNeg) N (bs_z M k (k + 1 + 3 + 10 * s.toNatClampNeg)) i) d).2.2.1)), (6, .int ((bs_j k (k + 1 + 3 + 10 * s.toNatClampNeg) i (bs_o k (k + 1 + 3 + 10 * s.toNatClampNeg) N (bs_z M k (k + 1 + 3 + 10 * s.toNatClampNeg)) i) d).2.2.2)), (7, .int (nI i)), (8, .int (nI (i + 1 + d))), (9, .int (bs_t (x_sm (bs_j k (k + 1 + 3 + 10 * s.toNatClampNeg) i (bs_o k (k + 1 + 3 + 10 * s.toNatClampNeg) N (bs_z M k (k + 1 + 3 + 10 * s.toNatClampNeg)) i) d).1 k (k + 1 + 3 + 10 * s.toNatClampNeg) i (i + 1 + d)) k))] dX7_bestSwap_121 (by decide) rfl ?_
                    refine k_iload C 7 dX7_bestSwap_123 rfl ?_
                    refine k_istore C [1, 2, 3, 4, 5, 0, 6, 7, 8, 9] [(0, .ref (sk_ad O k)), (1, .int s), (2, .int w), (3, .ref (sk_ad O (k + 1 + 3 + 10 * s.toNatClampNeg))), (4, .int (bs_t (x_sm (bs_j k (k + 1 + 3 + 10 * s.toNatClampNeg) i (bs_o k (k + 1 + 3 + 10 * s.toNatClampNeg) N (bs_z M k (k + 1 + 3 + 10 * s.toNatClampNeg)) i) d).1 k (k + 1 + 3 + 10 * s.toNatClampNeg) i (i + 1 + d)) k)), (5, .int (nI i)), (6, .int ((bs_j k (k + 1 + 3 + 10 * s.toNatClampNeg) i (bs_o k (k + 1 + 3 + 10 * s.toNatClampNeg) N (bs_z M k (k + 1 + 3 + 10 * s.toNatClampNeg)) i) d).2.2.2)), (7, .int (nI i)), (8, .int (nI (i + 1 + d))), (9, .int (bs_t (x_sm (bs_j k (k + 1 + 3 + 10 * s.toNatClampNeg) i (bs_o k (k + 1 + 3 + 10 * s.toNatClampNeg) N (bs_z M k (k + 1 + 3 + 10 * s.toNatClampNeg)) i) d).1 k (k + 1 + 3 + 10 * s.toNatClampNeg) i (i + 1 + d)) k))] dX7_bestSwap_125 (by decide) rfl ?_
                    refine k_iload C 8 dX7_bestSwap_127 rfl ?_
                    refine k_istore C [1, 2, 3, 4, 5, 6, 0, 7, 8, 9] [(0, .ref (sk_ad O k)), (1, .int s), (2, .int w), (3, .ref (sk_ad O (k + 1 + 3 + 10 * s.toNatClampNeg))), (4, .int (bs_t (x_sm (bs_j k (k + 1 + 3 + 10 * s.toNatClampNeg) i (bs_o k (k + 1 + 3 + 10 * s.toNatClampNeg) N (bs_z M k (k + 1 + 3 + 10 * s.toNatClampNeg)) i) d).1 k (k + 1 + 3 + 10 * s.toNatClampNeg) i (i + 1 + d)) k)), (5, .int (nI i)), (6, .int (nI (i + 1 + d))), (7, .int (nI i)), (8, .int (nI (i + 1 + d))), (9, .int (bs_t (x_sm (bs_j k (k + 1 + 3 + 10 * s.toNatClampNeg) i (bs_o k (k + 1 + 3 + 10 * s.toNatClampNeg) N (bs_z M k (k + 1 + 3 + 10 * s.toNatClampNeg)) i) d).1 k (k + 1 + 3 + 10 * s.toNatClampNeg) i (i + 1 + d)) k))] dX7_bestSwap_129 (by decide) rfl ?_
                    refine k_sub [0, 1, 2, 3, 4, 5, 6, 7, 8] (lv' := [(0, .ref (sk_ad O k)), (1, .int s), (2, .int w), (3, .ref (sk_ad O (k + 1 + 3 + 10 * s.toNatClampNeg))), (4, .int (bs_t (x_sm (bs_j k (k + 1 + 3 + 10 * s.toNatClampNeg) i (bs_o k (k + 1 + 3 + 10 * s.toNatClampNeg) N (bs_z M k (k + 1 + 3 + 10 * s.toNatClampNeg)) i) d).1 k (k + 1 + 3 + 10 * s.toNatClampNeg) i (i + 1 + d)) k)), (5, .int (nI i)), (6, .int (nI (i + 1 + d))), (7, .int (nI i)), (8, .int (nI (i + 1 + d)))]) rfl ?_
                    refine k_eq (by rw [bs_y (Or.inr (Int32.not_le.mp c116_13))]) rfl (by rw [bs_y (Or.inr (Int32.not_le.mp c116_13))]) rfl J131
            exact L86 0 (Nat.zero_le _)
        exact L71 0 (Nat.zero_le _)
      ·
        refine thr "java/lang/IllegalArgumentException" "what is not 0 to 2" 69 305 73 _ _ _ xw_IllegalArgumentException (by decide +kernel) (by decide) dX7_bestSwap_30 dX7_bestSwap_33 (Or.inr ⟨dX7_bestSwap_34, dX7_bestSwap_37, dX7_bestSwap_40⟩) ?_
        refine ⟨Or.inr (⟨?_, rfl⟩), rfl⟩
        exact er2m nc8_2 (fun h => h.2 (Int32.not_le.mp c27_4))
  ·
    have nc8_2 : ¬ (st_hs M (k + 1) s) := sk_b1.mp c8_2
    refine thr "java/lang/IndexOutOfBoundsException" "no such skater" 126 128 130 _ _ _ xw_IndexOutOfBoundsException (by decide +kernel) (by decide) dX7_bestSwap_11 dX7_bestSwap_14 (Or.inl ⟨dX7_bestSwap_15, dX7_bestSwap_17, dX7_bestSwap_20⟩) ?_
    refine ⟨Or.inl ⟨?_, rfl⟩, rfl⟩
    exact er2n nc8_2

