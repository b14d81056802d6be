/-! The model: weighing, reckoning, places -/
def mo_wy (r : Nat → Int32) (s e k : Nat) : Int32 := if mo_bp r s e k = 0 then mo_br r s e k else mo_bp r s e k
def mo_v0 (r : Nat → Int32) (s e k : Nat) : Int32 := if mo_ty r s e = 0 then mo_oj (mo_kd r s e k) (mo_tu r s e k) (mo_ca r s e k) else mo_ol (mo_ty r s e) (mo_tu r s e k)
def mo_v (r : Nat → Int32) (s e k : Nat) : Int32 := if mo_wy r s e k = 0 then mo_v0 r s e k else if mo_wy r s e k = 1 then sc_pc (mo_v0 r s e k) 70 else 0
def mo_sb (r : Nat → Int32) (s e : Nat) : Nat → Int32
  | 0 => 0
  | k + 1 => mo_sb r s e k + mo_v r s e k
def mo_sm (r : Nat → Int32) (s e : Nat) : Nat → Int32
  | 0 => 0
  | k + 1 => if mo_sm r s e k < mo_v r s e k then mo_v r s e k else mo_sm r s e k
theorem mo_sy {r : Nat → Int32} {s e k : Nat} (h : mo_sm r s e k < mo_v r s e k) : mo_v r s e k = mo_sm r s e (k + 1) := (if_pos h).symm
theorem mo_sz {r : Nat → Int32} {s e k : Nat} (h : mo_v r s e k ≤ mo_sm r s e k) : mo_sm r s e k = mo_sm r s e (k + 1) := (if_neg (Int32.not_lt.mpr h)).symm
abbrev mo_bn (r : Nat → Int32) (s e : Nat) : Prop := mo_ty r s e = 0 ∧ ¬ nI (2 * e) < r (6 + 233 * s) ∧ ¬ mo_tm r s e
def mo_ba (r : Nat → Int32) (s e : Nat) : Int32 := if mo_bn r s e then sc_pc (mo_sb r s e (mo_n r s e)) (100 + r 5) else mo_sb r s e (mo_n r s e)
def mo_gr (r : Nat → Int32) (s e : Nat) : Int32 := mo_gd (mo_ke r (23 + 233 * s + 18 * e + 11) * mo_sm r s e (mo_n r s e))
def mw_l (M : sk_M) (k a s e : Nat) : Nat → sk_M
  | 0 => M
  | j + 1 => sk_ms (sk_ms (mw_l M k a s e j) (k + 8) (3 * e + j) (mo_v (M a) s e j)) (k + 9) (3 * e + j) (mo_wy (M a) s e j)
theorem mw_l_f {M : sk_M} {k a s e x : Nat} (h : x < k + 8 ∨ k + 10 ≤ x) (j : Nat) : mw_l M k a s e j x = M x := by
  induction j with
  | zero => rfl
  | succ j ih =>
    unfold mw_l
    rw [sk_nf (by omega), sk_nf (by omega), ih]
def mw_m (M : sk_M) (k a s e : Nat) : sk_M := sk_ms (sk_ms (sk_ms (sk_ms (mw_l M k a s e (mo_n (M a) s e)) (k + 13) e (if mo_bn (M a) s e then 1 else 0)) (k + 10) e (mo_ba (M a) s e)) (k + 11) e (mo_ke (M a) (23 + 233 * s + 18 * e + 11))) (k + 12) e (mo_gr (M a) s e)
theorem mw_m_f {M : sk_M} {k a s e x : Nat} (h : x < k + 8 ∨ k + 14 ≤ x) : mw_m M k a s e x = M x := by
  unfold mw_m
  rw [sk_nf (by omega), sk_nf (by omega), sk_nf (by omega), sk_nf (by omega), mw_l_f (by omega)]
theorem mw_m_b {M : sk_M} {k a s e : Nat} : mw_m M k a s e (k + 10) e = mo_ba (M a) s e := by
  unfold mw_m
  rw [sk_ne (by omega), sk_ne (by omega), sk_sm]
theorem mw_m_g {M : sk_M} {k a s e : Nat} : mw_m M k a s e (k + 12) e = mo_gr (M a) s e := by
  unfold mw_m
  rw [sk_sm]
def mo_te (r : Nat → Int32) (s : Nat) : Nat → Int32
  | 0 => 0
  | e + 1 => mo_te r s e + (mo_ba r s e + mo_gr r s e)
def mo_of (r : Nat → Int32) (s : Nat) : Nat → Int32
  | 0 => 100 * r (6 + 233 * s + 1)
  | e + 1 => mo_of r s e + 100 * r (23 + 233 * s + 18 * e + 16)
def mo_cp (r : Nat → Int32) (s : Nat) : Int32 := sc_pc (mo_oc r s 0 + mo_oc r s 1 + mo_oc r s 2) (r 1)
def mo_to (r : Nat → Int32) (s n : Nat) : Int32 := mo_te r s n + mo_cp r s - mo_of r s n
def mk_l (M : sk_M) (k a s : Nat) : Nat → sk_M
  | 0 => sk_ms (sk_ms M k 16 0) k 18 (100 * M a (6 + 233 * s + 1))
  | e + 1 => sk_ms (sk_ms (mw_m (mk_l M k a s e) k a s e) k 16 (mo_te (M a) s (e + 1))) k 18 (mo_of (M a) s (e + 1))
theorem mk_l_f {M : sk_M} {k a s x : Nat} (h : x < k + 8 ∨ k + 14 ≤ x) (h2 : x ≠ k) (j : Nat) : mk_l M k a s j x = M x := by
  induction j with
  | zero => unfold mk_l; rw [sk_nf h2, sk_nf h2]
  | succ j ih =>
    unfold mk_l
    rw [sk_nf h2, sk_nf h2, mw_m_f h, ih]
theorem mk_l_t {M : sk_M} {k a s : Nat} (j : Nat) : mk_l M k a s j k 16 = mo_te (M a) s j := by
  cases j with
  | zero => unfold mk_l; rw [sk_ne (by omega), sk_sm]; rfl
  | succ j => unfold mk_l; rw [sk_ne (by omega), sk_sm]
theorem mk_l_o {M : sk_M} {k a s : Nat} (j : Nat) : mk_l M k a s j k 18 = mo_of (M a) s j := by
  cases j with
  | zero => unfold mk_l; rw [sk_sm]; rfl
  | succ j => unfold mk_l; rw [sk_sm]
def mk_m (M : sk_M) (k a s n : Nat) : sk_M := sk_ms (mk_l M k a s n) k 17 (mo_cp (M a) s)
theorem mk_m_f {M : sk_M} {k a s n x : Nat} (h : x < k + 8 ∨ k + 14 ≤ x) (h2 : x ≠ k) : mk_m M k a s n x = M x := by
  unfold mk_m
  rw [sk_nf h2, mk_l_f h h2]
abbrev mo_c (r : Nat → Int32) (s : Nat) : Nat := (r (6 + 233 * s)).toNatClampNeg
abbrev mo_T (r : Nat → Int32) (s : Nat) : Int32 := mo_to r s (mo_c r s)
abbrev mo_S (r : Nat → Int32) (s : Nat) : Int32 := mo_te r s (mo_c r s)
def ml_l (M : sk_M) (k a : Nat) : Nat → sk_M
  | 0 => M
  | s + 1 => sk_ms (sk_ms (mk_m (ml_l M k a s) k a s (mo_c (M a) s)) (k + 14) s (mo_T (M a) s)) (k + 15) s (mo_S (M a) s)
theorem ml_l_f {M : sk_M} {k a x : Nat} (h : x < k + 8 ∨ k + 16 ≤ x) (h2 : x ≠ k) (s : Nat) : ml_l M k a s x = M x := by
  induction s with
  | zero => rfl
  | succ s ih =>
    unfold ml_l
    rw [sk_nf (by omega), sk_nf (by omega), mk_m_f (by omega) h2, ih]
theorem ml_l_T {M : sk_M} {k a i : Nat} : ∀ s, i < s → ml_l M k a s (k + 14) i = mo_T (M a) i ∧ ml_l M k a s (k + 15) i = mo_S (M a) i
  | 0, h => absurd h (Nat.not_lt_zero _)
  | s + 1, h => by
    unfold ml_l
    by_cases q : i = s
    · subst q
      exact ⟨by rw [sk_ne (by omega), sk_sm], by rw [sk_sm]⟩
    · have := ml_l_T (M := M) (k := k) (a := a) (i := i) s (by omega)
      rw [sk_ne (by omega), sk_ne (by omega), sk_ne (by omega), sk_ne (by omega), mk_m_f (by omega) (by omega), mk_m_f (by omega) (by omega)]
      exact this
abbrev mp_a (T S : Nat → Int32) (a b : Nat) : Prop := T b < T a ∨ (T a = T b ∧ (S b < S a ∨ (S a = S b ∧ a < b)))
def mp_c (T S : Nat → Int32) (s : Nat) : Nat → Nat
  | 0 => 0
  | i + 1 => mp_c T S s i + if mp_a T S i s then 1 else 0
theorem mp_c_le (T S : Nat → Int32) (s n : Nat) : mp_c T S s n ≤ n := by
  induction n with
  | zero => exact Nat.le_refl _
  | succ n ih => unfold mp_c; split <;> omega
def mp_q (T S : Nat → Int32) (m : Nat) (r : Int32) : Prop := (∃ i, i < m ∧ mp_c T S i m = 0 ∧ (∀ j, j < i → ¬ mp_c T S j m = 0) ∧ r = nI i) ∨ ((∀ j, j < m → ¬ mp_c T S j m = 0) ∧ r = -1)
set_option maxHeartbeats 4000000 in
set_option maxRecDepth 100000 in
theorem m_X8_weigh (l : Launch) {O : sk_O} (hO : sk_inj O) (M : sk_M) (k : Nat) (hk : sk_isM O k) (a : Nat) (ha : sk_is O a (0, 938, sk_no)) (s : Nat) (xs : Int32) (hxs : xs = nI s) (e : Nat) (xe : Int32) (hxe : xe = nI e) (hs : s < 4) (he : e < 12) (hp : mo_pp (M a) s (e + 1)) (hap : k < a ∧ a < k + 8) : sk_Mv l yX8_weigh (sk_w yX8_weigh cX8_weigh 11 none) ({ frames := 8, cells := 0, slots := 0, locals := 192 }) O [.ref (sk_ad O k), .ref (sk_ad O a), .int xs, .int xe] M (fun M' => M' = (mw_m M k a s e)) := by
  refine sk_mv (by decide) ⟨rfl, rfl⟩ hO (Nat.le_of_ble_eq_true rfl) (fun X A Q C ret => ?_)
  show sk_W l X O A Q 11 0 0 M 0 [(0, .ref (sk_ad O k)), (1, .ref (sk_ad O a)), (2, .int xs), (3, .int xe)] []
  obtain ⟨hpe, hpe3⟩ := mo_nn hp (i := e) (by omega)
  refine k_iloadn C 2 dX8_weigh_0 rfl ?_
  refine k_iloadn C 3 dX8_weigh_1 rfl ?_
  refine k_si C (as := [.int xs, .int xe]) yvX8_elementAt vsX8_elementAt ml_X8_60 (m_X8_elementAt l C.2.2.2.1 M (s := s) (xs := xs) (hxs := hxs) (e := e) (xe := xe) (hxe := hxe)) rfl rfl (Nat.le_of_ble_eq_true rfl) (by decide) dX8_weigh_2 (fun x2_1 M2_1 h2_1 => ?_)
  rw [h2_1.1, h2_1.2]
  refine k_istore C [1, 2, 3, 4, 0] [(0, .ref (sk_ad O k)), (1, .ref (sk_ad O a)), (2, .int xs), (3, .int xe), (4, .int (nI (23 + 233 * s + 18 * e)))] dX8_weigh_5 (by decide) rfl ?_
  refine k_iconst C (0) dX8_weigh_7 (by decide) ?_
  refine k_istore C [1, 2, 3, 4, 5, 0] [(0, .ref (sk_ad O k)), (1, .ref (sk_ad O a)), (2, .int xs), (3, .int xe), (4, .int (nI (23 + 233 * s + 18 * e))), (5, .int (0))] dX8_weigh_8 (by decide) rfl ?_
  refine k_iconst C (0) dX8_weigh_10 (by decide) ?_
  refine k_istore C [1, 2, 3, 4, 5, 6, 0] [(0, .ref (sk_ad O k)), (1, .ref (sk_ad O a)), (2, .int xs), (3, .int xe), (4, .int (nI (23 + 233 * s + 18 * e))), (5, .int (0)), (6, .int (0))] dX8_weigh_11 (by decide) rfl ?_
  refine k_iconst C (0) dX8_weigh_13 (by decide) ?_
  refine k_istore C [1, 2, 3, 4, 5, 6, 7, 0] [(0, .ref (sk_ad O k)), (1, .ref (sk_ad O a)), (2, .int xs), (3, .int xe), (4, .int (nI (23 + 233 * s + 18 * e))), (5, .int (0)), (6, .int (0)), (7, .int (0))] dX8_weigh_14 (by decide) rfl ?_
  have L16 : ∀ j, j ≤ mo_n (M a) s e → sk_W l X O A Q 11 0 0 (mw_l M k a s e j) 16 [(0, .ref (sk_ad O k)), (1, .ref (sk_ad O a)), (2, .int xs), (3, .int xe), (4, .int (nI (23 + 233 * s + 18 * e))), (5, .int (mo_sb (M a) s e j)), (6, .int (mo_sm (M a) s e j)), (7, .int (nI j))] [] := by
    refine sk_loop (mo_n (M a) s e) (fun j hi16 ih16 => ?_)
    refine k_iload C 7 dX8_weigh_16 rfl ?_
    refine k_aloadn C 1 dX8_weigh_18 rfl ?_
    refine k_iload C 4 dX8_weigh_19 rfl ?_
    refine k_iconst C (1) dX8_weigh_21 (by decide) ?_
    refine k_iadd C dX8_weigh_22 ?_
    refine k_ialdn C (23 + 233 * s + 18 * e + 1) ha (sk_nadd rfl (rfl : ((1) : Int32) = nI 1)) (by omega) dX8_weigh_23 ?_
    refine k_top (M a (23 + 233 * s + 18 * e + 1)) (by rw [mw_l_f (by omega)]) ?_
    refine k_cge C 198 dX8_weigh_24 (by decide) (fun c24_2 => ?_) (fun c24_2 => ?_)
    ·
      have nc24_2 : mo_n (M a) s e ≤ j := (sk_eI (a := mo_n (M a) s e) (b := j) hpe rfl (by omega) (by omega)).mp c24_2
      obtain rfl : mo_n (M a) s e = j := (by omega)
      refine k_aloadn C 1 dX8_weigh_198 rfl ?_
      refine k_iload C 4 dX8_weigh_199 rfl ?_
      refine k_iconst C (0) dX8_weigh_201 (by decide) ?_
      refine k_iadd C dX8_weigh_202 ?_
      refine k_ialdn C (23 + 233 * s + 18 * e) ha (sk_nadd (b := 0) rfl (rfl : ((0) : Int32) = nI 0)) (by omega) dX8_weigh_203 ?_
      refine k_top (M a (23 + 233 * s + 18 * e)) (by rw [mw_l_f (by omega)]) ?_
      have J235 : sk_W l X O A Q 11 0 0 (mw_l M k a s e (mo_n (M a) s e)) 235 [(0, .ref (sk_ad O k)), (1, .ref (sk_ad O a)), (2, .int xs), (3, .int xe), (4, .int (nI (23 + 233 * s + 18 * e))), (5, .int (mo_sb (M a) s e (mo_n (M a) s e))), (6, .int (mo_sm (M a) s e (mo_n (M a) s e))), (7, .int (nI (mo_n (M a) s e)))] [.int (if mo_bn (M a) s e then 1 else 0)] := by
        refine k_istore C [1, 2, 3, 4, 5, 6, 7, 0] [(0, .ref (sk_ad O k)), (1, .ref (sk_ad O a)), (2, .int xs), (3, .int xe), (4, .int (nI (23 + 233 * s + 18 * e))), (5, .int (mo_sb (M a) s e (mo_n (M a) s e))), (6, .int (mo_sm (M a) s e (mo_n (M a) s e))), (7, .int (if mo_bn (M a) s e then 1 else 0))] dX8_weigh_235 (by decide) rfl ?_
        refine k_aloadn C 0 dX8_weigh_237 rfl ?_
        refine k_getr C (j := 15) (k' := k + 13) kcl_X8 fl_X8_47 hk.1 (by decide) rfl dX8_weigh_238 ?_
        refine k_iloadn C 3 dX8_weigh_241 rfl ?_
        refine k_iload C 7 dX8_weigh_242 rfl ?_
        have J252 : sk_W l X O A Q 11 0 0 (mw_l M k a s e (mo_n (M a) s e)) 252 [(0, .ref (sk_ad O k)), (1, .ref (sk_ad O a)), (2, .int xs), (3, .int xe), (4, .int (nI (23 + 233 * s + 18 * e))), (5, .int (mo_sb (M a) s e (mo_n (M a) s e))), (6, .int (mo_sm (M a) s e (mo_n (M a) s e))), (7, .int (if mo_bn (M a) s e then 1 else 0))] [.int (if mo_bn (M a) s e then 1 else 0), .int xe, .ref (sk_ad O (k + 13))] := by
          refine k_iast C e hk.2.2.2.2.2.2.2.2.2.2.2.2.2.1 hxe (by omega) dX8_weigh_252 ?_
          refine k_aloadn C 0 dX8_weigh_253 rfl ?_
          refine k_getr C (j := 12) (k' := k + 10) kcl_X8 fl_X8_38 hk.1 (by decide) rfl dX8_weigh_254 ?_
          refine k_iloadn C 3 dX8_weigh_257 rfl ?_
          refine k_iload C 7 dX8_weigh_258 rfl ?_
          have J279 : sk_W l X O A Q 11 0 0 (sk_ms (mw_l M k a s e (mo_n (M a) s e)) (k + 13) e (if mo_bn (M a) s e then 1 else 0)) 279 [(0, .ref (sk_ad O k)), (1, .ref (sk_ad O a)), (2, .int xs), (3, .int xe), (4, .int (nI (23 + 233 * s + 18 * e))), (5, .int (mo_sb (M a) s e (mo_n (M a) s e))), (6, .int (mo_sm (M a) s e (mo_n (M a) s e))), (7, .int (if mo_bn (M a) s e then 1 else 0))] [.int (mo_ba (M a) s e), .int xe, .ref (sk_ad O (k + 10))] := by
            refine k_iast C e hk.2.2.2.2.2.2.2.2.2.2.1 hxe (by omega) dX8_weigh_279 ?_
            refine k_aloadn C 0 dX8_weigh_280 rfl ?_
            refine k_getr C (j := 13) (k' := k + 11) kcl_X8 fl_X8_41 hk.1 (by decide) rfl dX8_weigh_281 ?_
            refine k_iloadn C 3 dX8_weigh_284 rfl ?_
            refine k_aloadn C 1 dX8_weigh_285 rfl ?_
            refine k_iload C 4 dX8_weigh_286 rfl ?_
            refine k_bipush C (11) dX8_weigh_288 (by decide) ?_
            refine k_iadd C dX8_weigh_290 ?_
            refine k_si C (as := [.ref (sk_ad O a), .int ((nI (23 + 233 * s + 18 * e)) + (11))]) yvX8_kernel vsX8_kernel ml_X8_113 (m_X8_kernel l C.2.2.2.1 (sk_ms (sk_ms (mw_l M k a s e (mo_n (M a) s e)) (k + 13) e (if mo_bn (M a) s e then 1 else 0)) (k + 10) e (mo_ba (M a) s e)) (a := a) (ha := ha) (q := 23 + 233 * s + 18 * e + 11) (xq := (nI (23 + 233 * s + 18 * e)) + (11)) (hxq := (sk_nadd rfl (rfl : ((11) : Int32) = nI 11))) (hq := (by omega))) rfl rfl (Nat.le_of_ble_eq_true rfl) (by decide) dX8_weigh_291 (fun x291_3 M291_3 h291_3 => ?_)
            rw [h291_3.1, h291_3.2]
            refine k_top (mo_ke (M a) (23 + 233 * s + 18 * e + 11)) (by rw [sk_nf (by omega), sk_nf (by omega), mw_l_f (by omega)]) ?_
            refine k_iast C e hk.2.2.2.2.2.2.2.2.2.2.2.1 hxe (by omega) dX8_weigh_294 ?_
            refine k_aloadn C 0 dX8_weigh_295 rfl ?_
            refine k_getr C (j := 14) (k' := k + 12) kcl_X8 fl_X8_44 hk.1 (by decide) rfl dX8_weigh_296 ?_
            refine k_iloadn C 3 dX8_weigh_299 rfl ?_
            refine k_aloadn C 0 dX8_weigh_300 rfl ?_
            refine k_getr C (j := 13) (k' := k + 11) kcl_X8 fl_X8_41 hk.1 (by decide) rfl dX8_weigh_301 ?_
            refine k_iloadn C 3 dX8_weigh_304 rfl ?_
            refine k_ialdn C e hk.2.2.2.2.2.2.2.2.2.2.2.1 hxe (by omega) dX8_weigh_305 ?_
            refine k_top (mo_ke (M a) (23 + 233 * s + 18 * e + 11)) (by rw [sk_sm]) ?_
            refine k_iload C 6 dX8_weigh_306 rfl ?_
            refine k_imul C dX8_weigh_308 ?_
            refine k_si C (as := [.int ((mo_ke (M a) (23 + 233 * s + 18 * e + 11)) * (mo_sm (M a) s e (mo_n (M a) s e)))]) yvX8_graded vsX8_graded ml_X8_126 (m_X8_graded l C.2.2.2.1 (sk_ms (sk_ms (sk_ms (mw_l M k a s e (mo_n (M a) s e)) (k + 13) e (if mo_bn (M a) s e then 1 else 0)) (k + 10) e (mo_ba (M a) s e)) (k + 11) e (mo_ke (M a) (23 + 233 * s + 18 * e + 11))) (v := (mo_ke (M a) (23 + 233 * s + 18 * e + 11)) * (mo_sm (M a) s e (mo_n (M a) s e)))) rfl rfl (Nat.le_of_ble_eq_true rfl) (by decide) dX8_weigh_309 (fun x309_4 M309_4 h309_4 => ?_)
            rw [h309_4.1, h309_4.2]
            refine k_iast C e hk.2.2.2.2.2.2.2.2.2.2.2.2.1 hxe (by omega) dX8_weigh_312 ?_
            exact ret _ _ _ dX8_weigh_313 (by exact rfl)
          refine k_zeq C 277 dX8_weigh_260 (by decide) (fun c260_5 => ?_) (fun c260_5 => ?_)
          ·
            have nc260_5 : ¬ (mo_bn (M a) s e) := sk_b1.mp c260_5
            refine k_iload C 5 dX8_weigh_277 rfl ?_
            exact k_eq rfl rfl rfl (by rw [mo_ba, if_neg nc260_5]) J279
          ·
            have nc260_5 : mo_bn (M a) s e := Classical.byContradiction (fun h => c260_5 (sk_b1.mpr h))
            refine k_iload C 5 dX8_weigh_263 rfl ?_
            refine k_bipush C (100) dX8_weigh_265 (by decide) ?_
            refine k_aloadn C 1 dX8_weigh_267 rfl ?_
            refine k_iconst C (5) dX8_weigh_268 (by decide) ?_
            refine k_ialdn C 5 ha (rfl : ((5) : Int32) = nI 5) (by omega) dX8_weigh_269 ?_
            refine k_top (M a 5) (by rw [sk_ne (by omega), mw_l_f (by omega)]) ?_
            refine k_iadd C dX8_weigh_270 ?_
            refine k_si C (as := [.int (mo_sb (M a) s e (mo_n (M a) s e)), .int ((100) + (M a 5))]) yvX8_percent vsX8_percent ml_X8_83 (m_X8_percent l C.2.2.2.1 (sk_ms (mw_l M k a s e (mo_n (M a) s e)) (k + 13) e (if mo_bn (M a) s e then 1 else 0)) (x := mo_sb (M a) s e (mo_n (M a) s e)) (y := (100) + (M a 5))) rfl rfl (Nat.le_of_ble_eq_true rfl) (by decide) dX8_weigh_271 (fun x271_6 M271_6 h271_6 => ?_)
            rw [h271_6.1, h271_6.2]
            refine k_goto C 279 dX8_weigh_274 (by decide) ?_
            exact k_eq rfl rfl rfl (by rw [mo_ba, if_pos nc260_5]) J279
        refine k_zeq C 251 dX8_weigh_244 (by decide) (fun c244_7 => ?_) (fun c244_7 => ?_)
        ·
          have nc244_7 : ¬ (mo_bn (M a) s e) := sk_b1.mp c244_7
          refine k_iconst C (0) dX8_weigh_251 (by decide) ?_
          exact k_eq rfl rfl rfl (by rw [if_neg nc244_7]) J252
        ·
          have nc244_7 : mo_bn (M a) s e := Classical.byContradiction (fun h => c244_7 (sk_b1.mpr h))
          refine k_iconst C (1) dX8_weigh_247 (by decide) ?_
          refine k_goto C 252 dX8_weigh_248 (by decide) ?_
          exact k_eq rfl rfl rfl (by rw [if_pos nc244_7]) J252
      refine k_zne C 234 dX8_weigh_204 (by decide) (fun c204_8 => ?_) (fun c204_8 => ?_)
      ·
        refine k_iconst C (0) dX8_weigh_234 (by decide) ?_
        exact k_eq rfl rfl rfl (by rw [if_neg (show ¬ mo_bn (M a) s e from fun h => c204_8 h.1)]) J235
      ·
        refine k_iconst C (2) dX8_weigh_207 (by decide) ?_
        refine k_iloadn C 3 dX8_weigh_208 rfl ?_
        refine k_imul C dX8_weigh_209 ?_
        refine k_top (nI (2 * e)) (sk_nmul (a := 2) rfl hxe) ?_
        refine k_aloadn C 1 dX8_weigh_210 rfl ?_
        refine k_iloadn C 2 dX8_weigh_211 rfl ?_
        refine k_si C (as := [.int xs]) yvX8_skaterAt vsX8_skaterAt ml_X8_72 (m_X8_skaterAt l C.2.2.2.1 (mw_l M k a s e (mo_n (M a) s e)) (s := s) (xs := xs) (hxs := hxs)) rfl rfl (Nat.le_of_ble_eq_true rfl) (by decide) dX8_weigh_212 (fun x212_9 M212_9 h212_9 => ?_)
        rw [h212_9.1, h212_9.2]
        refine k_iconst C (0) dX8_weigh_215 (by decide) ?_
        refine k_iadd C dX8_weigh_216 ?_
        refine k_ialdn C (6 + 233 * s) ha (sk_nadd (b := 0) rfl (rfl : ((0) : Int32) = nI 0)) (by omega) dX8_weigh_217 ?_
        refine k_top (M a (6 + 233 * s)) (by rw [mw_l_f (by omega)]) ?_
        refine k_clt C 234 dX8_weigh_218 (by decide) (fun c218_10 => ?_) (fun c218_10 => ?_)
        ·
          refine k_iconst C (0) dX8_weigh_234 (by decide) ?_
          exact k_eq rfl rfl rfl (by rw [if_neg (show ¬ mo_bn (M a) s e from fun h => h.2.1 c218_10)]) J235
        ·
          refine k_aloadn C 1 dX8_weigh_221 rfl ?_
          refine k_iloadn C 2 dX8_weigh_222 rfl ?_
          refine k_iloadn C 3 dX8_weigh_223 rfl ?_
          refine k_si C (as := [.ref (sk_ad O a), .int xs, .int xe]) yvX8_isTooMany vsX8_isTooMany ml_X8_93 (m_X8_isTooMany l C.2.2.2.1 (mw_l M k a s e (mo_n (M a) s e)) (a := a) (ha := ha) (s := s) (xs := xs) (hxs := hxs) (hs := (by omega)) (e := e) (xe := xe) (hxe := hxe) (he := (by omega))) rfl rfl (Nat.le_of_ble_eq_true rfl) (by decide) dX8_weigh_224 (fun x224_11 M224_11 h224_11 => ?_)
          rw [h224_11.1, h224_11.2]
          refine k_top (if mo_tm (M a) s e then 1 else 0) (by rw [mw_l_f (by omega)]) ?_
          refine k_zne C 234 dX8_weigh_227 (by decide) (fun c227_12 => ?_) (fun c227_12 => ?_)
          ·
            have nc227_12 : mo_tm (M a) s e := Classical.byContradiction (fun h => c227_12 (sk_b1.mpr h))
            refine k_iconst C (0) dX8_weigh_234 (by decide) ?_
            exact k_eq rfl rfl rfl (by rw [if_neg (show ¬ mo_bn (M a) s e from fun h => h.2.2 nc227_12)]) J235
          ·
            have nc227_12 : ¬ (mo_tm (M a) s e) := sk_b1.mp c227_12
            refine k_iconst C (1) dX8_weigh_230 (by decide) ?_
            refine k_goto C 235 dX8_weigh_231 (by decide) ?_
            exact k_eq rfl rfl rfl (by rw [if_pos (show mo_bn (M a) s e from ⟨c204_8, c218_10, nc227_12⟩)]) J235
    ·
      have nc24_2 : ¬ (mo_n (M a) s e ≤ j) := fun h => c24_2 ((sk_eI (a := mo_n (M a) s e) (b := j) hpe rfl (by omega) (by omega)).mpr h)
      refine k_iloadn C 2 dX8_weigh_27 rfl ?_
      refine k_iloadn C 3 dX8_weigh_28 rfl ?_
      refine k_iload C 7 dX8_weigh_29 rfl ?_
      refine k_si C (as := [.int xs, .int xe, .int (nI j)]) yvX8_partAt vsX8_partAt ml_X8_102 (m_X8_partAt l C.2.2.2.1 (mw_l M k a s e j) (s := s) (xs := xs) (hxs := hxs) (e := e) (xe := xe) (hxe := hxe) (k := j) (xk := nI j) (hxk := rfl)) rfl rfl (Nat.le_of_ble_eq_true rfl) (by decide) dX8_weigh_31 (fun x31_13 M31_13 h31_13 => ?_)
      rw [h31_13.1, h31_13.2]
      refine k_istore C [1, 2, 3, 4, 5, 6, 7, 8, 0] [(0, .ref (sk_ad O k)), (1, .ref (sk_ad O a)), (2, .int xs), (3, .int xe), (4, .int (nI (23 + 233 * s + 18 * e))), (5, .int (mo_sb (M a) s e j)), (6, .int (mo_sm (M a) s e j)), (7, .int (nI j)), (8, .int (nI (25 + 233 * s + 18 * e + 3 * j)))] dX8_weigh_34 (by decide) rfl ?_
      refine k_aloadn C 1 dX8_weigh_36 rfl ?_
      refine k_iload C 4 dX8_weigh_37 rfl ?_
      refine k_iconst C (0) dX8_weigh_39 (by decide) ?_
      refine k_iadd C dX8_weigh_40 ?_
      refine k_ialdn C (23 + 233 * s + 18 * e) ha (sk_nadd (b := 0) rfl (rfl : ((0) : Int32) = nI 0)) (by omega) dX8_weigh_41 ?_
      refine k_top (M a (23 + 233 * s + 18 * e)) (by rw [mw_l_f (by omega)]) ?_
      have J82 : sk_W l X O A Q 11 0 0 (mw_l M k a s e j) 82 [(0, .ref (sk_ad O k)), (1, .ref (sk_ad O a)), (2, .int xs), (3, .int xe), (4, .int (nI (23 + 233 * s + 18 * e))), (5, .int (mo_sb (M a) s e j)), (6, .int (mo_sm (M a) s e j)), (7, .int (nI j)), (8, .int (nI (25 + 233 * s + 18 * e + 3 * j)))] [.int (mo_v0 (M a) s e j)] := by
        refine k_istore C [1, 2, 3, 4, 5, 6, 7, 8, 9, 0] [(0, .ref (sk_ad O k)), (1, .ref (sk_ad O a)), (2, .int xs), (3, .int xe), (4, .int (nI (23 + 233 * s + 18 * e))), (5, .int (mo_sb (M a) s e j)), (6, .int (mo_sm (M a) s e j)), (7, .int (nI j)), (8, .int (nI (25 + 233 * s + 18 * e + 3 * j))), (9, .int (mo_v0 (M a) s e j))] dX8_weigh_82 (by decide) rfl ?_
        refine k_aloadn C 1 dX8_weigh_84 rfl ?_
        refine k_iloadn C 2 dX8_weigh_85 rfl ?_
        refine k_iloadn C 3 dX8_weigh_86 rfl ?_
        refine k_iload C 7 dX8_weigh_87 rfl ?_
        refine k_si C (as := [.ref (sk_ad O a), .int xs, .int xe, .int (nI j)]) yvX8_byPlace vsX8_byPlace ml_X8_106 (m_X8_byPlace l C.2.2.2.1 (mw_l M k a s e j) (a := a) (ha := ha) (s := s) (xs := xs) (hxs := hxs) (hs := (by omega)) (e := e) (xe := xe) (hxe := hxe) (he := (by omega)) (k := j) (xk := nI j) (hxk := rfl) (hk := (by omega))) rfl rfl (Nat.le_of_ble_eq_true rfl) (by decide) dX8_weigh_89 (fun x89_14 M89_14 h89_14 => ?_)
        rw [h89_14.1, h89_14.2]
        refine k_top (mo_bp (M a) s e j) (by rw [mw_l_f (by omega)]) ?_
        refine k_istore C [1, 2, 3, 4, 5, 6, 7, 8, 9, 10, 0] [(0, .ref (sk_ad O k)), (1, .ref (sk_ad O a)), (2, .int xs), (3, .int xe), (4, .int (nI (23 + 233 * s + 18 * e))), (5, .int (mo_sb (M a) s e j)), (6, .int (mo_sm (M a) s e j)), (7, .int (nI j)), (8, .int (nI (25 + 233 * s + 18 * e + 3 * j))), (9, .int (mo_v0 (M a) s e j)), (10, .int (mo_bp (M a) s e j))] dX8_weigh_92 (by decide) rfl ?_
        refine k_iload C 10 dX8_weigh_94 rfl ?_
        have J112 : sk_W l X O A Q 11 0 0 (mw_l M k a s e j) 112 [(0, .ref (sk_ad O k)), (1, .ref (sk_ad O a)), (2, .int xs), (3, .int xe), (4, .int (nI (23 + 233 * s + 18 * e))), (5, .int (mo_sb (M a) s e j)), (6, .int (mo_sm (M a) s e j)), (7, .int (nI j)), (8, .int (nI (25 + 233 * s + 18 * e + 3 * j))), (9, .int (mo_v0 (M a) s e j)), (10, .int (mo_bp (M a) s e j))] [.int (mo_wy (M a) s e j)] := by
          refine k_istore C [1, 2, 3, 4, 5, 6, 7, 8, 9, 10, 0] [(0, .ref (sk_ad O k)), (1, .ref (sk_ad O a)), (2, .int xs), (3, .int xe), (4, .int (nI (23 + 233 * s + 18 * e))), (5, .int (mo_sb (M a) s e j)), (6, .int (mo_sm (M a) s e j)), (7, .int (nI j)), (8, .int (nI (25 + 233 * s + 18 * e + 3 * j))), (9, .int (mo_v0 (M a) s e j)), (10, .int (mo_wy (M a) s e j))] dX8_weigh_112 (by decide) rfl ?_
          refine k_iload C 10 dX8_weigh_114 rfl ?_
          have J141 : sk_W l X O A Q 11 0 0 (mw_l M k a s e j) 141 [(0, .ref (sk_ad O k)), (1, .ref (sk_ad O a)), (2, .int xs), (3, .int xe), (4, .int (nI (23 + 233 * s + 18 * e))), (5, .int (mo_sb (M a) s e j)), (6, .int (mo_sm (M a) s e j)), (7, .int (nI j)), (8, .int (nI (25 + 233 * s + 18 * e + 3 * j))), (9, .int (mo_v0 (M a) s e j)), (10, .int (mo_wy (M a) s e j))] [.int (mo_v (M a) s e j)] := by
            refine k_istore C [1, 2, 3, 4, 5, 6, 7, 8, 9, 0, 10] [(0, .ref (sk_ad O k)), (1, .ref (sk_ad O a)), (2, .int xs), (3, .int xe), (4, .int (nI (23 + 233 * s + 18 * e))), (5, .int (mo_sb (M a) s e j)), (6, .int (mo_sm (M a) s e j)), (7, .int (nI j)), (8, .int (nI (25 + 233 * s + 18 * e + 3 * j))), (9, .int (mo_v (M a) s e j)), (10, .int (mo_wy (M a) s e j))] dX8_weigh_141 (by decide) rfl ?_
            refine k_aloadn C 0 dX8_weigh_143 rfl ?_
            refine k_getr C (j := 10) (k' := k + 8) kcl_X8 fl_X8_32 hk.1 (by decide) rfl dX8_weigh_144 ?_
            refine k_iconst C (3) dX8_weigh_147 (by decide) ?_
            refine k_iloadn C 3 dX8_weigh_148 rfl ?_
            refine k_imul C dX8_weigh_149 ?_
            refine k_iload C 7 dX8_weigh_150 rfl ?_
            refine k_iadd C dX8_weigh_152 ?_
            refine k_iload C 9 dX8_weigh_153 rfl ?_
            refine k_iast C (3 * e + j) hk.2.2.2.2.2.2.2.2.1 (sk_nadd (sk_nmul (rfl : ((3) : Int32) = nI 3) hxe) rfl) (by omega) dX8_weigh_155 ?_
            refine k_aloadn C 0 dX8_weigh_156 rfl ?_
            refine k_getr C (j := 11) (k' := k + 9) kcl_X8 fl_X8_35 hk.1 (by decide) rfl dX8_weigh_157 ?_
            refine k_iconst C (3) dX8_weigh_160 (by decide) ?_
            refine k_iloadn C 3 dX8_weigh_161 rfl ?_
            refine k_imul C dX8_weigh_162 ?_
            refine k_iload C 7 dX8_weigh_163 rfl ?_
            refine k_iadd C dX8_weigh_165 ?_
            refine k_iload C 10 dX8_weigh_166 rfl ?_
            refine k_iast C (3 * e + j) hk.2.2.2.2.2.2.2.2.2.1 (sk_nadd (sk_nmul (rfl : ((3) : Int32) = nI 3) hxe) rfl) (by omega) dX8_weigh_168 ?_
            refine k_iload C 5 dX8_weigh_169 rfl ?_
            refine k_iload C 9 dX8_weigh_171 rfl ?_
            refine k_iadd C dX8_weigh_173 ?_
            refine k_istore C [1, 2, 3, 4, 5, 0, 6, 7, 8, 9, 10] [(0, .ref (sk_ad O k)), (1, .ref (sk_ad O a)), (2, .int xs), (3, .int xe), (4, .int (nI (23 + 233 * s + 18 * e))), (5, .int ((mo_sb (M a) s e j) + (mo_v (M a) s e j))), (6, .int (mo_sm (M a) s e j)), (7, .int (nI j)), (8, .int (nI (25 + 233 * s + 18 * e + 3 * j))), (9, .int (mo_v (M a) s e j)), (10, .int (mo_wy (M a) s e j))] dX8_weigh_174 (by decide) rfl ?_
            refine k_iload C 9 dX8_weigh_176 rfl ?_
            refine k_iload C 6 dX8_weigh_178 rfl ?_
            have J190 : sk_W l X O A Q 11 0 0 (sk_ms (sk_ms (mw_l M k a s e j) (k + 8) (3 * e + j) (mo_v (M a) s e j)) (k + 9) (3 * e + j) (mo_wy (M a) s e j)) 190 [(0, .ref (sk_ad O k)), (1, .ref (sk_ad O a)), (2, .int xs), (3, .int xe), (4, .int (nI (23 + 233 * s + 18 * e))), (5, .int ((mo_sb (M a) s e j) + (mo_v (M a) s e j))), (6, .int (mo_sm (M a) s e j)), (7, .int (nI j)), (8, .int (nI (25 + 233 * s + 18 * e + 3 * j))), (9, .int (mo_v (M a) s e j)), (10, .int (mo_wy (M a) s e j))] [.int (mo_sm (M a) s e (j + 1))] := by
              refine k_istore C [1, 2, 3, 4, 5, 6, 0, 7, 8, 9, 10] [(0, .ref (sk_ad O k)), (1, .ref (sk_ad O a)), (2, .int xs), (3, .int xe), (4, .int (nI (23 + 233 * s + 18 * e))), (5, .int ((mo_sb (M a) s e j) + (mo_v (M a) s e j))), (6, .int (mo_sm (M a) s e (j + 1))), (7, .int (nI j)), (8, .int (nI (25 + 233 * s + 18 * e + 3 * j))), (9, .int (mo_v (M a) s e j)), (10, .int (mo_wy (M a) s e j))] dX8_weigh_190 (by decide) rfl ?_
              refine k_iinc C 7 (nI (j + 1)) [1, 2, 3, 4, 5, 6, 7, 0, 8, 9, 10] [(0, .ref (sk_ad O k)), (1, .ref (sk_ad O a)), (2, .int xs), (3, .int xe), (4, .int (nI (23 + 233 * s + 18 * e))), (5, .int ((mo_sb (M a) s e j) + (mo_v (M a) s e j))), (6, .int (mo_sm (M a) s e (j + 1))), (7, .int (nI (j + 1))), (8, .int (nI (25 + 233 * s + 18 * e + 3 * j))), (9, .int (mo_v (M a) s e j)), (10, .int (mo_wy (M a) s e j))] dX8_weigh_192 rfl (nI_add _ _) (by decide) rfl ?_
              refine k_goto C 16 dX8_weigh_195 (by decide) ?_
              refine k_sub [0, 1, 2, 3, 4, 5, 6, 7] (lv' := [(0, .ref (sk_ad O k)), (1, .ref (sk_ad O a)), (2, .int xs), (3, .int xe), (4, .int (nI (23 + 233 * s + 18 * e))), (5, .int ((mo_sb (M a) s e j) + (mo_v (M a) s e j))), (6, .int (mo_sm (M a) s e (j + 1))), (7, .int (nI (j + 1)))]) rfl ?_
              exact ih16 (by omega)
            refine k_cle C 188 dX8_weigh_180 (by decide) (fun c180_15 => ?_) (fun c180_15 => ?_)
            ·
              refine k_iload C 6 dX8_weigh_188 rfl ?_
              exact k_eq rfl rfl rfl (congrArg (fun z => [Value.int z]) (mo_sz c180_15)) J190
            ·
              refine k_iload C 9 dX8_weigh_183 rfl ?_
              refine k_goto C 190 dX8_weigh_185 (by decide) ?_
              exact k_eq rfl rfl rfl (congrArg (fun z => [Value.int z]) (mo_sy (Int32.not_le.mp c180_15))) J190
          refine k_zne C 124 dX8_weigh_116 (by decide) (fun c116_16 => ?_) (fun c116_16 => ?_)
          ·
            refine k_iload C 10 dX8_weigh_124 rfl ?_
            refine k_iconst C (1) dX8_weigh_126 (by decide) ?_
            refine k_cne C 140 dX8_weigh_127 (by decide) (fun c127_17 => ?_) (fun c127_17 => ?_)
            ·
              refine k_iconst C (0) dX8_weigh_140 (by decide) ?_
              exact k_eq rfl rfl rfl (by rw [mo_v, if_neg c116_16, if_neg c127_17]) J141
            ·
              refine k_iload C 9 dX8_weigh_130 rfl ?_
              refine k_bipush C (70) dX8_weigh_132 (by decide) ?_
              refine k_si C (as := [.int (mo_v0 (M a) s e j), .int (70)]) yvX8_percent vsX8_percent ml_X8_83 (m_X8_percent l C.2.2.2.1 (mw_l M k a s e j) (x := mo_v0 (M a) s e j) (y := (70))) rfl rfl (Nat.le_of_ble_eq_true rfl) (by decide) dX8_weigh_134 (fun x134_18 M134_18 h134_18 => ?_)
              rw [h134_18.1, h134_18.2]
              refine k_goto C 141 dX8_weigh_137 (by decide) ?_
              exact k_eq rfl rfl rfl (by rw [mo_v, if_neg c116_16, if_pos c127_17]) J141
          ·
            refine k_iload C 9 dX8_weigh_119 rfl ?_
            refine k_goto C 141 dX8_weigh_121 (by decide) ?_
            exact k_eq rfl rfl rfl (by rw [mo_v, if_pos c116_16]) J141
        refine k_zne C 110 dX8_weigh_96 (by decide) (fun c96_19 => ?_) (fun c96_19 => ?_)
        ·
          refine k_iload C 10 dX8_weigh_110 rfl ?_
          exact k_eq rfl rfl rfl (by rw [mo_wy, if_neg c96_19]) J112
        ·
          refine k_aloadn C 1 dX8_weigh_99 rfl ?_
          refine k_iloadn C 2 dX8_weigh_100 rfl ?_
          refine k_iloadn C 3 dX8_weigh_101 rfl ?_
          refine k_iload C 7 dX8_weigh_102 rfl ?_
          refine k_si C (as := [.ref (sk_ad O a), .int xs, .int xe, .int (nI j)]) yvX8_byRepeat vsX8_byRepeat ml_X8_123 (m_X8_byRepeat l C.2.2.2.1 (mw_l M k a s e j) (a := a) (ha := ha) (s := s) (xs := xs) (hxs := hxs) (hs := (by omega)) (e := e) (xe := xe) (hxe := hxe) (he := (by omega)) (k := j) (xk := nI j) (hxk := rfl) (hk := (by omega)) (hp := (by rw [mw_l_f (by omega)]; exact hp))) rfl rfl (Nat.le_of_ble_eq_true rfl) (by decide) dX8_weigh_104 (fun x104_20 M104_20 h104_20 => ?_)
          rw [h104_20.1, h104_20.2]
          refine k_top (mo_br (M a) s e j) (by rw [mw_l_f (by omega)]) ?_
          refine k_goto C 112 dX8_weigh_107 (by decide) ?_
          exact k_eq rfl rfl rfl (by rw [mo_wy, if_pos c96_19]) J112
      refine k_zne C 67 dX8_weigh_42 (by decide) (fun c42_21 => ?_) (fun c42_21 => ?_)
      ·
        refine k_aloadn C 1 dX8_weigh_67 rfl ?_
        refine k_iload C 4 dX8_weigh_68 rfl ?_
        refine k_iconst C (0) dX8_weigh_70 (by decide) ?_
        refine k_iadd C dX8_weigh_71 ?_
        refine k_ialdn C (23 + 233 * s + 18 * e) ha (sk_nadd (b := 0) rfl (rfl : ((0) : Int32) = nI 0)) (by omega) dX8_weigh_72 ?_
        refine k_top (M a (23 + 233 * s + 18 * e)) (by rw [mw_l_f (by omega)]) ?_
        refine k_aloadn C 1 dX8_weigh_73 rfl ?_
        refine k_iload C 8 dX8_weigh_74 rfl ?_
        refine k_iconst C (1) dX8_weigh_76 (by decide) ?_
        refine k_iadd C dX8_weigh_77 ?_
        refine k_ialdn C (25 + 233 * s + 18 * e + 3 * j + 1) ha (sk_nadd rfl (rfl : ((1) : Int32) = nI 1)) (by omega) dX8_weigh_78 ?_
        refine k_top (M a (25 + 233 * s + 18 * e + 3 * j + 1)) (by rw [mw_l_f (by omega)]) ?_
        refine k_si C (as := [.int (M a (23 + 233 * s + 18 * e)), .int (M a (25 + 233 * s + 18 * e + 3 * j + 1))]) yvX8_ofLevel vsX8_ofLevel ml_X8_120 (m_X8_ofLevel l C.2.2.2.1 (mw_l M k a s e j) (ty := M a (23 + 233 * s + 18 * e)) (lv := M a (25 + 233 * s + 18 * e + 3 * j + 1))) rfl rfl (Nat.le_of_ble_eq_true rfl) (by decide) dX8_weigh_79 (fun x79_22 M79_22 h79_22 => ?_)
        rw [h79_22.1, h79_22.2]
        exact k_eq rfl rfl rfl (by rw [mo_v0, if_neg c42_21]) J82
      ·
        refine k_aloadn C 1 dX8_weigh_45 rfl ?_
        refine k_iload C 8 dX8_weigh_46 rfl ?_
        refine k_ialdn C (25 + 233 * s + 18 * e + 3 * j) ha rfl (by omega) dX8_weigh_48 ?_
        refine k_top (M a (25 + 233 * s + 18 * e + 3 * j)) (by rw [mw_l_f (by omega)]) ?_
        refine k_aloadn C 1 dX8_weigh_49 rfl ?_
        refine k_iload C 8 dX8_weigh_50 rfl ?_
        refine k_iconst C (1) dX8_weigh_52 (by decide) ?_
        refine k_iadd C dX8_weigh_53 ?_
        refine k_ialdn C (25 + 233 * s + 18 * e + 3 * j + 1) ha (sk_nadd rfl (rfl : ((1) : Int32) = nI 1)) (by omega) dX8_weigh_54 ?_
        refine k_top (M a (25 + 233 * s + 18 * e + 3 * j + 1)) (by rw [mw_l_f (by omega)]) ?_
        refine k_aloadn C 1 dX8_weigh_55 rfl ?_
        refine k_iload C 8 dX8_weigh_56 rfl ?_
        refine k_iconst C (2) dX8_weigh_58 (by decide) ?_
        refine k_iadd C dX8_weigh_59 ?_
        refine k_ialdn C (25 + 233 * s + 18 * e + 3 * j + 2) ha (sk_nadd rfl (rfl : ((2) : Int32) = nI 2)) (by omega) dX8_weigh_60 ?_
        refine k_top (M a (25 + 233 * s + 18 * e + 3 * j + 2)) (by rw [mw_l_f (by omega)]) ?_
        refine k_si C (as := [.int (M a (25 + 233 * s + 18 * e + 3 * j)), .int (M a (25 + 233 * s + 18 * e + 3 * j + 1)), .int (M a (25 + 233 * s + 18 * e + 3 * j + 2))]) yvX8_ofJump vsX8_ofJump ml_X8_117 (m_X8_ofJump l C.2.2.2.1 (mw_l M k a s e j) (k := M a (25 + 233 * s + 18 * e + 3 * j)) (t := M a (25 + 233 * s + 18 * e + 3 * j + 1)) (c := M a (25 + 233 * s + 18 * e + 3 * j + 2))) rfl rfl (Nat.le_of_ble_eq_true rfl) (by decide) dX8_weigh_61 (fun x61_23 M61_23 h61_23 => ?_)
        rw [h61_23.1, h61_23.2]
        refine k_goto C 82 dX8_weigh_64 (by decide) ?_
        exact k_eq rfl rfl rfl (by rw [mo_v0, if_pos c42_21]) J82
  exact L16 0 (Nat.zero_le _)

set_option maxHeartbeats 4000000 in
set_option maxRecDepth 100000 in
theorem m_X8_reckon (l : Launch) {O : sk_O} (hO : sk_inj O) (M : sk_M) (k : Nat) (hk : sk_isM O k) (a : Nat) (ha : sk_is O a (0, 938, sk_no)) (s : Nat) (xs : Int32) (hxs : xs = nI s) (N : Nat) (hs : s < 4) (hN12 : N ≤ 12) (hN : M a (6 + 233 * s) = nI N) (hp : mo_pp (M a) s N) (hap : k < a ∧ a < k + 8) : sk_Mi l yX8_reckon (sk_w yX8_reckon cX8_reckon 4 (some .int)) ({ frames := 9, cells := 0, slots := 0, locals := 222 }) O [.ref (sk_ad O k), .ref (sk_ad O a), .int xs] M (fun r M' => r = (mo_to (M a) s N) ∧ M' = (mk_m M k a s N)) := by
  refine sk_mi (by decide) ⟨rfl, rfl⟩ hO (Nat.le_of_ble_eq_true rfl) (fun X A Q C ret => ?_)
  show sk_W l X O A Q 4 0 0 M 0 [(0, .ref (sk_ad O k)), (1, .ref (sk_ad O a)), (2, .int xs)] []
  refine k_aloadn C 0 dX8_reckon_0 rfl ?_
  refine k_iconst C (0) dX8_reckon_1 (by decide) ?_
  refine k_puti C (j := 16) (ty := .int) tyX8 kcl_X8 tyX8_ok nmX8 fl_X8_129 hk.1 (by decide) rfl rfl (by decide +kernel) rfl rfl dX8_reckon_2 ?_
  refine k_aloadn C 0 dX8_reckon_5 rfl ?_
  refine k_bipush C (100) dX8_reckon_6 (by decide) ?_
  refine k_aloadn C 1 dX8_reckon_8 rfl ?_
  refine k_iloadn C 2 dX8_reckon_9 rfl ?_
  refine k_si C (as := [.int xs]) yvX8_skaterAt vsX8_skaterAt ml_X8_72 (m_X8_skaterAt l C.2.2.2.1 (sk_ms M k 16 (0)) (s := s) (xs := xs) (hxs := hxs)) rfl rfl (Nat.le_of_ble_eq_true rfl) (by decide) dX8_reckon_10 (fun x10_1 M10_1 h10_1 => ?_)
  rw [h10_1.1, h10_1.2]
  refine k_iconst C (1) dX8_reckon_13 (by decide) ?_
  refine k_iadd C dX8_reckon_14 ?_
  refine k_ialdn C (6 + 233 * s + 1) ha (sk_nadd rfl (rfl : ((1) : Int32) = nI 1)) (by omega) dX8_reckon_15 ?_
  refine k_top (M a (6 + 233 * s + 1)) (by rw [sk_ne (by omega)]) ?_
  refine k_imul C dX8_reckon_16 ?_
  refine k_puti C (j := 18) (ty := .int) tyX8 kcl_X8 tyX8_ok nmX8 fl_X8_132 hk.1 (by decide) rfl rfl (by decide +kernel) rfl rfl dX8_reckon_17 ?_
  refine k_iconst C (0) dX8_reckon_20 (by decide) ?_
  refine k_istoren C [1, 2, 3, 0] [(0, .ref (sk_ad O k)), (1, .ref (sk_ad O a)), (2, .int xs), (3, .int (0))] dX8_reckon_21 (by decide) rfl ?_
  have L22 : ∀ i, i ≤ N → sk_W l X O A Q 4 0 0 (mk_l M k a s i) 22 [(0, .ref (sk_ad O k)), (1, .ref (sk_ad O a)), (2, .int xs), (3, .int (nI i))] [] := by
    refine sk_loop N (fun i hi22 ih22 => ?_)
    refine k_iloadn C 3 dX8_reckon_22 rfl ?_
    refine k_aloadn C 1 dX8_reckon_23 rfl ?_
    refine k_iloadn C 2 dX8_reckon_24 rfl ?_
    refine k_si C (as := [.int xs]) yvX8_skaterAt vsX8_skaterAt ml_X8_72 (m_X8_skaterAt l C.2.2.2.1 (mk_l M k a s i) (s := s) (xs := xs) (hxs := hxs)) rfl rfl (Nat.le_of_ble_eq_true rfl) (by decide) dX8_reckon_25 (fun x25_2 M25_2 h25_2 => ?_)
    rw [h25_2.1, h25_2.2]
    refine k_iconst C (0) dX8_reckon_28 (by decide) ?_
    refine k_iadd C dX8_reckon_29 ?_
    refine k_ialdn C (6 + 233 * s) ha (sk_nadd (b := 0) rfl (rfl : ((0) : Int32) = nI 0)) (by omega) dX8_reckon_30 ?_
    refine k_top (M a (6 + 233 * s)) (by rw [mk_l_f (by omega) (by omega)]) ?_
    refine k_cge C 91 dX8_reckon_31 (by decide) (fun c31_3 => ?_) (fun c31_3 => ?_)
    ·
      have nc31_3 : N ≤ i := (sk_eI (a := N) (b := i) hN rfl (by omega) (by omega)).mp c31_3
      obtain rfl : N = i := (by omega)
      refine k_aloadn C 1 dX8_reckon_91 rfl ?_
      refine k_iloadn C 2 dX8_reckon_92 rfl ?_
      refine k_iconst C (0) dX8_reckon_93 (by decide) ?_
      refine k_si C (as := [.ref (sk_ad O a), .int xs, .int (0)]) yvX8_ofComponent vsX8_ofComponent ml_X8_139 (m_X8_ofComponent l C.2.2.2.1 (mk_l M k a s N) (a := a) (ha := ha) (s := s) (xs := xs) (hxs := hxs) (k := 0) (xk := (0)) (hxk := (rfl : ((0) : Int32) = nI 0)) (hs := (by omega)) (hk := (by omega))) rfl rfl (Nat.le_of_ble_eq_true rfl) (by decide) dX8_reckon_94 (fun x94_4 M94_4 h94_4 => ?_)
      rw [h94_4.1, h94_4.2]
      refine k_top (mo_oc (M a) s 0) (by rw [mk_l_f (by omega) (by omega)]) ?_
      refine k_aloadn C 1 dX8_reckon_97 rfl ?_
      refine k_iloadn C 2 dX8_reckon_98 rfl ?_
      refine k_iconst C (1) dX8_reckon_99 (by decide) ?_
      refine k_si C (as := [.ref (sk_ad O a), .int xs, .int (1)]) yvX8_ofComponent vsX8_ofComponent ml_X8_139 (m_X8_ofComponent l C.2.2.2.1 (mk_l M k a s N) (a := a) (ha := ha) (s := s) (xs := xs) (hxs := hxs) (k := 1) (xk := (1)) (hxk := (rfl : ((1) : Int32) = nI 1)) (hs := (by omega)) (hk := (by omega))) rfl rfl (Nat.le_of_ble_eq_true rfl) (by decide) dX8_reckon_100 (fun x100_5 M100_5 h100_5 => ?_)
      rw [h100_5.1, h100_5.2]
      refine k_top (mo_oc (M a) s 1) (by rw [mk_l_f (by omega) (by omega)]) ?_
      refine k_iadd C dX8_reckon_103 ?_
      refine k_aloadn C 1 dX8_reckon_104 rfl ?_
      refine k_iloadn C 2 dX8_reckon_105 rfl ?_
      refine k_iconst C (2) dX8_reckon_106 (by decide) ?_
      refine k_si C (as := [.ref (sk_ad O a), .int xs, .int (2)]) yvX8_ofComponent vsX8_ofComponent ml_X8_139 (m_X8_ofComponent l C.2.2.2.1 (mk_l M k a s N) (a := a) (ha := ha) (s := s) (xs := xs) (hxs := hxs) (k := 2) (xk := (2)) (hxk := (rfl : ((2) : Int32) = nI 2)) (hs := (by omega)) (hk := (by omega))) rfl rfl (Nat.le_of_ble_eq_true rfl) (by decide) dX8_reckon_107 (fun x107_6 M107_6 h107_6 => ?_)
      rw [h107_6.1, h107_6.2]
      refine k_top (mo_oc (M a) s 2) (by rw [mk_l_f (by omega) (by omega)]) ?_
      refine k_iadd C dX8_reckon_110 ?_
      refine k_istoren C [1, 2, 3, 0] [(0, .ref (sk_ad O k)), (1, .ref (sk_ad O a)), (2, .int xs), (3, .int (((mo_oc (M a) s 0) + (mo_oc (M a) s 1)) + (mo_oc (M a) s 2)))] dX8_reckon_111 (by decide) rfl ?_
      refine k_aloadn C 0 dX8_reckon_112 rfl ?_
      refine k_iloadn C 3 dX8_reckon_113 rfl ?_
      refine k_aloadn C 1 dX8_reckon_114 rfl ?_
      refine k_iconst C (1) dX8_reckon_115 (by decide) ?_
      refine k_ialdn C 1 ha (rfl : ((1) : Int32) = nI 1) (by omega) dX8_reckon_116 ?_
      refine k_top (M a 1) (by rw [mk_l_f (by omega) (by omega)]) ?_
      refine k_si C (as := [.int (((mo_oc (M a) s 0) + (mo_oc (M a) s 1)) + (mo_oc (M a) s 2)), .int (M a 1)]) yvX8_percent vsX8_percent ml_X8_83 (m_X8_percent l C.2.2.2.1 (mk_l M k a s N) (x := ((mo_oc (M a) s 0) + (mo_oc (M a) s 1)) + (mo_oc (M a) s 2)) (y := M a 1)) rfl rfl (Nat.le_of_ble_eq_true rfl) (by decide) dX8_reckon_117 (fun x117_7 M117_7 h117_7 => ?_)
      rw [h117_7.1, h117_7.2]
      refine k_puti C (j := 17) (ty := .int) tyX8 kcl_X8 tyX8_ok nmX8 fl_X8_143 hk.1 (by decide) rfl rfl (by decide +kernel) rfl rfl dX8_reckon_120 ?_
      refine k_aloadn C 0 dX8_reckon_123 rfl ?_
      refine k_geti C (j := 16) kcl_X8 fl_X8_129 hk.1 (by decide) rfl dX8_reckon_124 ?_
      refine k_top ((mk_l M k a s N) k 16) (by rw [sk_ne (by omega)]) ?_
      refine k_top (mo_te (M a) s N) (mk_l_t N) ?_
      refine k_aloadn C 0 dX8_reckon_127 rfl ?_
      refine k_geti C (j := 17) kcl_X8 fl_X8_143 hk.1 (by decide) rfl dX8_reckon_128 ?_
      refine k_top (sc_pc (((mo_oc (M a) s 0) + (mo_oc (M a) s 1)) + (mo_oc (M a) s 2)) (M a 1)) (by rw [sk_sm]) ?_
      refine k_iadd C dX8_reckon_131 ?_
      refine k_aloadn C 0 dX8_reckon_132 rfl ?_
      refine k_geti C (j := 18) kcl_X8 fl_X8_132 hk.1 (by decide) rfl dX8_reckon_133 ?_
      refine k_top ((mk_l M k a s N) k 18) (by rw [sk_ne (by omega)]) ?_
      refine k_top (mo_of (M a) s N) (mk_l_o N) ?_
      refine k_isub C dX8_reckon_136 ?_
      exact ret _ _ _ _ dX8_reckon_137 rfl (by exact ⟨rfl, rfl⟩)
    ·
      have nc31_3 : ¬ (N ≤ i) := fun h => c31_3 ((sk_eI (a := N) (b := i) hN rfl (by omega) (by omega)).mpr h)
      refine k_aloadn C 0 dX8_reckon_34 rfl ?_
      refine k_aloadn C 1 dX8_reckon_35 rfl ?_
      refine k_iloadn C 2 dX8_reckon_36 rfl ?_
      refine k_iloadn C 3 dX8_reckon_37 rfl ?_
      refine k_vv C (as := [.ref (sk_ad O a), .int xs, .int (nI i)]) yvX8_weigh viX8_weigh ml_X8_135 (m_X8_weigh l C.2.2.2.1 (mk_l M k a s i) (k := k) (hk := hk) (a := a) (ha := ha) (s := s) (xs := xs) (hxs := hxs) (e := i) (xe := nI i) (hxe := rfl) (hs := hs) (he := (by omega)) (hp := (by rw [mk_l_f (by omega) (by omega)]; exact fun q hq => hp q (by omega))) (hap := hap)) hk.1 rfl rfl rfl (Nat.le_of_ble_eq_true rfl) (by decide) dX8_reckon_38 (fun M38_8 h38_8 => ?_)
      rw [h38_8]
      refine k_aloadn C 0 dX8_reckon_41 rfl ?_
      refine k_dup C dX8_reckon_42 rfl ?_
      refine k_geti C (j := 16) kcl_X8 fl_X8_129 hk.1 (by decide) rfl dX8_reckon_43 ?_
      refine k_top ((mk_l M k a s i) k 16) (by rw [mw_m_f (by omega)]) ?_
      refine k_top (mo_te (M a) s i) (mk_l_t i) ?_
      refine k_aloadn C 0 dX8_reckon_46 rfl ?_
      refine k_getr C (j := 12) (k' := k + 10) kcl_X8 fl_X8_38 hk.1 (by decide) rfl dX8_reckon_47 ?_
      refine k_iloadn C 3 dX8_reckon_50 rfl ?_
      refine k_ialdn C i hk.2.2.2.2.2.2.2.2.2.2.1 rfl (by omega) dX8_reckon_51 ?_
      refine k_top (mo_ba (M a) s i) (by rw [mw_m_b, mk_l_f (by omega) (by omega)]) ?_
      refine k_aloadn C 0 dX8_reckon_52 rfl ?_
      refine k_getr C (j := 14) (k' := k + 12) kcl_X8 fl_X8_44 hk.1 (by decide) rfl dX8_reckon_53 ?_
      refine k_iloadn C 3 dX8_reckon_56 rfl ?_
      refine k_ialdn C i hk.2.2.2.2.2.2.2.2.2.2.2.2.1 rfl (by omega) dX8_reckon_57 ?_
      refine k_top (mo_gr (M a) s i) (by rw [mw_m_g, mk_l_f (by omega) (by omega)]) ?_
      refine k_iadd C dX8_reckon_58 ?_
      refine k_iadd C dX8_reckon_59 ?_
      refine k_puti C (j := 16) (ty := .int) tyX8 kcl_X8 tyX8_ok nmX8 fl_X8_129 hk.1 (by decide) rfl rfl (by decide +kernel) rfl rfl dX8_reckon_60 ?_
      refine k_aloadn C 0 dX8_reckon_63 rfl ?_
      refine k_dup C dX8_reckon_64 rfl ?_
      refine k_geti C (j := 18) kcl_X8 fl_X8_132 hk.1 (by decide) rfl dX8_reckon_65 ?_
      refine k_top ((mk_l M k a s i) k 18) (by rw [sk_ne (by omega), mw_m_f (by omega)]) ?_
      refine k_top (mo_of (M a) s i) (mk_l_o i) ?_
      refine k_bipush C (100) dX8_reckon_68 (by decide) ?_
      refine k_aloadn C 1 dX8_reckon_70 rfl ?_
      refine k_iloadn C 2 dX8_reckon_71 rfl ?_
      refine k_iloadn C 3 dX8_reckon_72 rfl ?_
      refine k_si C (as := [.int xs, .int (nI i)]) yvX8_elementAt vsX8_elementAt ml_X8_60 (m_X8_elementAt l C.2.2.2.1 (sk_ms (mw_m (mk_l M k a s i) k a s i) k 16 ((mo_te (M a) s i) + ((mo_ba (M a) s i) + (mo_gr (M a) s i)))) (s := s) (xs := xs) (hxs := hxs) (e := i) (xe := nI i) (hxe := rfl)) rfl rfl (Nat.le_of_ble_eq_true rfl) (by decide) dX8_reckon_73 (fun x73_9 M73_9 h73_9 => ?_)
      rw [h73_9.1, h73_9.2]
      refine k_bipush C (16) dX8_reckon_76 (by decide) ?_
      refine k_iadd C dX8_reckon_78 ?_
      refine k_ialdn C (23 + 233 * s + 18 * i + 16) ha (sk_nadd rfl (rfl : ((16) : Int32) = nI 16)) (by omega) dX8_reckon_79 ?_
      refine k_top (M a (23 + 233 * s + 18 * i + 16)) (by rw [sk_ne (by omega), mw_m_f (by omega), mk_l_f (by omega) (by omega)]) ?_
      refine k_imul C dX8_reckon_80 ?_
      refine k_iadd C dX8_reckon_81 ?_
      refine k_puti C (j := 18) (ty := .int) tyX8 kcl_X8 tyX8_ok nmX8 fl_X8_132 hk.1 (by decide) rfl rfl (by decide +kernel) rfl rfl dX8_reckon_82 ?_
      refine k_iinc C 3 (nI (i + 1)) [1, 2, 3, 0] [(0, .ref (sk_ad O k)), (1, .ref (sk_ad O a)), (2, .int xs), (3, .int (nI (i + 1)))] dX8_reckon_85 rfl (nI_add _ _) (by decide) rfl ?_
      refine k_goto C 22 dX8_reckon_88 (by decide) ?_
      exact ih22 (by omega)
  exact L22 0 (Nat.zero_le _)

set_option maxHeartbeats 4000000 in
set_option maxRecDepth 100000 in
theorem m_X8_reckonAll (l : Launch) {O : sk_O} (hO : sk_inj O) (M : sk_M) (k : Nat) (hk : sk_isM O k) (a : Nat) (ha : sk_is O a (0, 938, sk_no)) (m : Nat) (hm4 : m ≤ 4) (hm : M a 0 = nI m) (hmj : ∀ s, s < m → mo_wp (M a) s) (hap : k < a ∧ a < k + 8) : sk_Mv l yX8_reckonAll (sk_w yX8_reckonAll cX8_reckonAll 3 none) ({ frames := 10, cells := 0, slots := 0, locals := 245 }) O [.ref (sk_ad O k), .ref (sk_ad O a)] M (fun M' => M' = (ml_l M k a m)) := by
  refine sk_mv (by decide) ⟨rfl, rfl⟩ hO (Nat.le_of_ble_eq_true rfl) (fun X A Q C ret => ?_)
  show sk_W l X O A Q 3 0 0 M 0 [(0, .ref (sk_ad O k)), (1, .ref (sk_ad O a))] []
  refine k_iconst C (0) dX8_reckonAll_0 (by decide) ?_
  refine k_istoren C [1, 2, 0] [(0, .ref (sk_ad O k)), (1, .ref (sk_ad O a)), (2, .int (0))] dX8_reckonAll_1 (by decide) rfl ?_
  have L2 : ∀ i, i ≤ m → sk_W l X O A Q 3 0 0 (ml_l M k a i) 2 [(0, .ref (sk_ad O k)), (1, .ref (sk_ad O a)), (2, .int (nI i))] [] := by
    refine sk_loop m (fun i hi2 ih2 => ?_)
    refine k_iloadn C 2 dX8_reckonAll_2 rfl ?_
    refine k_aloadn C 1 dX8_reckonAll_3 rfl ?_
    refine k_iconst C (0) dX8_reckonAll_4 (by decide) ?_
    refine k_ialdn C 0 ha (rfl : ((0) : Int32) = nI 0) (by omega) dX8_reckonAll_5 ?_
    refine k_top (M a 0) (by rw [ml_l_f (by omega) (by omega) _]) ?_
    refine k_cge C 37 dX8_reckonAll_6 (by decide) (fun c6_1 => ?_) (fun c6_1 => ?_)
    ·
      have nc6_1 : m ≤ i := (sk_eI (a := m) (b := i) hm rfl (by omega) (by omega)).mp c6_1
      obtain rfl : m = i := (by omega)
      exact ret _ _ _ dX8_reckonAll_37 (by exact rfl)
    ·
      have nc6_1 : ¬ (m ≤ i) := fun h => c6_1 ((sk_eI (a := m) (b := i) hm rfl (by omega) (by omega)).mpr h)
      obtain ⟨N, hN12, hN, hNp⟩ := hmj i (by omega)
      have hc : mo_c (M a) i = N := (by show (M a _).toNatClampNeg = N; rw [hN, nI_clamp (by omega)])
      rw [← hc] at hN12 hN hNp
      refine k_aloadn C 0 dX8_reckonAll_9 rfl ?_
      refine k_getr C (j := 19) (k' := k + 14) kcl_X8 fl_X8_50 hk.1 (by decide) rfl dX8_reckonAll_10 ?_
      refine k_iloadn C 2 dX8_reckonAll_13 rfl ?_
      refine k_aloadn C 0 dX8_reckonAll_14 rfl ?_
      refine k_aloadn C 1 dX8_reckonAll_15 rfl ?_
      refine k_iloadn C 2 dX8_reckonAll_16 rfl ?_
      refine k_vi C (as := [.ref (sk_ad O a), .int (nI i)]) yvX8_reckon viX8_reckon ml_X8_146 (m_X8_reckon l C.2.2.2.1 (ml_l M k a i) (k := k) (hk := hk) (a := a) (ha := ha) (s := i) (xs := nI i) (hxs := rfl) (N := mo_c (M a) i) (hs := (by omega)) (hN12 := hN12) (hN := (by rw [ml_l_f (by omega) (by omega) _]; exact hN)) (hp := (by rw [ml_l_f (by omega) (by omega) _]; exact hNp)) (hap := hap)) hk.1 rfl rfl rfl (Nat.le_of_ble_eq_true rfl) (by decide) dX8_reckonAll_17 (fun x17_2 M17_2 h17_2 => ?_)
      rw [h17_2.1, h17_2.2]
      refine k_top (mo_to (M a) i (mo_c (M a) i)) (by rw [ml_l_f (by omega) (by omega) _]) ?_
      refine k_iast C i hk.2.2.2.2.2.2.2.2.2.2.2.2.2.2.1 rfl (by omega) dX8_reckonAll_20 ?_
      refine k_aloadn C 0 dX8_reckonAll_21 rfl ?_
      refine k_getr C (j := 20) (k' := k + 15) kcl_X8 fl_X8_53 hk.1 (by decide) rfl dX8_reckonAll_22 ?_
      refine k_iloadn C 2 dX8_reckonAll_25 rfl ?_
      refine k_aloadn C 0 dX8_reckonAll_26 rfl ?_
      refine k_geti C (j := 16) kcl_X8 fl_X8_129 hk.1 (by decide) rfl dX8_reckonAll_27 ?_
      refine k_top ((mk_m (ml_l M k a i) k a i (mo_c (M a) i)) k 16) (by rw [sk_ne (by omega)]) ?_
      refine k_top (mo_S (M a) i) (by rw [mk_m, sk_ne (by omega), mk_l_t, ml_l_f (by omega) (by omega) _]) ?_
      refine k_iast C i hk.2.2.2.2.2.2.2.2.2.2.2.2.2.2.2 rfl (by omega) dX8_reckonAll_30 ?_
      refine k_iinc C 2 (nI (i + 1)) [1, 2, 0] [(0, .ref (sk_ad O k)), (1, .ref (sk_ad O a)), (2, .int (nI (i + 1)))] dX8_reckonAll_31 rfl (nI_add _ _) (by decide) rfl ?_
      refine k_goto C 2 dX8_reckonAll_34 (by decide) ?_
      exact ih2 (by omega)
  exact L2 0 (Nat.zero_le _)

set_option maxHeartbeats 4000000 in
set_option maxRecDepth 100000 in
theorem m_X8_place (l : Launch) {O : sk_O} (hO : sk_inj O) (M : sk_M) (k : Nat) (hk : sk_isM O k) (a : Nat) (ha : sk_is O a (0, 938, sk_no)) (s : Nat) (xs : Int32) (hxs : xs = nI s) (m : Nat) (hs : s < 4) (hm4 : m ≤ 4) (hm : M a 0 = nI m) : sk_Mi l yX8_place (sk_w yX8_place cX8_place 6 (some .int)) ({ frames := 0, cells := 0, slots := 0, locals := 0 }) O [.ref (sk_ad O k), .ref (sk_ad O a), .int xs] M (fun r M' => r = (nI (mp_c (M (k + 14)) (M (k + 15)) s m)) ∧ M' = M) := by
  refine sk_mi (by decide) ⟨rfl, rfl⟩ hO (Nat.le_of_ble_eq_true rfl) (fun X A Q C ret => ?_)
  show sk_W l X O A Q 6 0 0 M 0 [(0, .ref (sk_ad O k)), (1, .ref (sk_ad O a)), (2, .int xs)] []
  refine k_iconst C (0) dX8_place_0 (by decide) ?_
  refine k_istoren C [1, 2, 3, 0] [(0, .ref (sk_ad O k)), (1, .ref (sk_ad O a)), (2, .int xs), (3, .int (0))] dX8_place_1 (by decide) rfl ?_
  refine k_iconst C (0) dX8_place_2 (by decide) ?_
  refine k_istore C [1, 2, 3, 4, 0] [(0, .ref (sk_ad O k)), (1, .ref (sk_ad O a)), (2, .int xs), (3, .int (0)), (4, .int (0))] dX8_place_3 (by decide) rfl ?_
  have L5 : ∀ i, i ≤ m → sk_W l X O A Q 6 0 0 M 5 [(0, .ref (sk_ad O k)), (1, .ref (sk_ad O a)), (2, .int xs), (3, .int (nI (mp_c (M (k + 14)) (M (k + 15)) s i))), (4, .int (nI i))] [] := by
    refine sk_loop m (fun i hi5 ih5 => ?_)
    refine k_iload C 4 dX8_place_5 rfl ?_
    refine k_aloadn C 1 dX8_place_7 rfl ?_
    refine k_iconst C (0) dX8_place_8 (by decide) ?_
    refine k_ialdn C 0 ha (rfl : ((0) : Int32) = nI 0) (by omega) dX8_place_9 ?_
    refine k_cge C 109 dX8_place_10 (by decide) (fun c10_1 => ?_) (fun c10_1 => ?_)
    ·
      have nc10_1 : m ≤ i := (sk_eI (a := m) (b := i) hm rfl (by omega) (by omega)).mp c10_1
      refine k_iloadn C 3 dX8_place_109 rfl ?_
      exact ret _ _ _ _ dX8_place_110 rfl (by obtain rfl : i = m := (by omega); exact ⟨rfl, rfl⟩)
    ·
      have nc10_1 : ¬ (m ≤ i) := fun h => c10_1 ((sk_eI (a := m) (b := i) hm rfl (by omega) (by omega)).mpr h)
      refine k_aloadn C 0 dX8_place_13 rfl ?_
      refine k_getr C (j := 19) (k' := k + 14) kcl_X8 fl_X8_50 hk.1 (by decide) rfl dX8_place_14 ?_
      refine k_iload C 4 dX8_place_17 rfl ?_
      refine k_ialdn C i hk.2.2.2.2.2.2.2.2.2.2.2.2.2.2.1 rfl (by omega) dX8_place_19 ?_
      refine k_aloadn C 0 dX8_place_20 rfl ?_
      refine k_getr C (j := 19) (k' := k + 14) kcl_X8 fl_X8_50 hk.1 (by decide) rfl dX8_place_21 ?_
      refine k_iloadn C 2 dX8_place_24 rfl ?_
      refine k_ialdn C s hk.2.2.2.2.2.2.2.2.2.2.2.2.2.2.1 hxs (by omega) dX8_place_25 ?_
      have J88 : sk_W l X O A Q 6 0 0 M 88 [(0, .ref (sk_ad O k)), (1, .ref (sk_ad O a)), (2, .int xs), (3, .int (nI (mp_c (M (k + 14)) (M (k + 15)) s i))), (4, .int (nI i))] [.int (if mp_a (M (k + 14)) (M (k + 15)) i s then 1 else 0)] := by
        refine k_istore C [1, 2, 3, 4, 5, 0] [(0, .ref (sk_ad O k)), (1, .ref (sk_ad O a)), (2, .int xs), (3, .int (nI (mp_c (M (k + 14)) (M (k + 15)) s i))), (4, .int (nI i)), (5, .int (if mp_a (M (k + 14)) (M (k + 15)) i s then 1 else 0))] dX8_place_88 (by decide) rfl ?_
        refine k_iloadn C 3 dX8_place_90 rfl ?_
        refine k_iload C 5 dX8_place_91 rfl ?_
        refine k_zeq C 100 dX8_place_93 (by decide) (fun c93_2 => ?_) (fun c93_2 => ?_)
        ·
          have nc93_2 : ¬ (mp_a (M (k + 14)) (M (k + 15)) i s) := sk_b1.mp c93_2
          refine k_iconst C (0) dX8_place_100 (by decide) ?_
          refine k_iadd C dX8_place_101 ?_
          refine k_top (nI (mp_c (M (k + 14)) (M (k + 15)) s (i + 1))) (in_n rfl rfl nc93_2) ?_
          refine k_istoren C [1, 2, 3, 0, 4, 5] [(0, .ref (sk_ad O k)), (1, .ref (sk_ad O a)), (2, .int xs), (3, .int (nI (mp_c (M (k + 14)) (M (k + 15)) s (i + 1)))), (4, .int (nI i)), (5, .int (if mp_a (M (k + 14)) (M (k + 15)) i s then 1 else 0))] dX8_place_102 (by decide) rfl ?_
          refine k_iinc C 4 (nI (i + 1)) [1, 2, 3, 4, 0, 5] [(0, .ref (sk_ad O k)), (1, .ref (sk_ad O a)), (2, .int xs), (3, .int (nI (mp_c (M (k + 14)) (M (k + 15)) s (i + 1)))), (4, .int (nI (i + 1))), (5, .int (if mp_a (M (k + 14)) (M (k + 15)) i s then 1 else 0))] dX8_place_103 rfl (nI_add _ _) (by decide) rfl ?_
          refine k_goto C 5 dX8_place_106 (by decide) ?_
          refine k_sub [0, 1, 2, 3, 4] (lv' := [(0, .ref (sk_ad O k)), (1, .ref (sk_ad O a)), (2, .int xs), (3, .int (nI (mp_c (M (k + 14)) (M (k + 15)) s (i + 1)))), (4, .int (nI (i + 1)))]) rfl ?_
          exact ih5 (by omega)
        ·
          have nc93_2 : mp_a (M (k + 14)) (M (k + 15)) i s := Classical.byContradiction (fun h => c93_2 (sk_b1.mpr h))
          refine k_iconst C (1) dX8_place_96 (by decide) ?_
          refine k_goto C 101 dX8_place_97 (by decide) ?_
          refine k_iadd C dX8_place_101 ?_
          refine k_top (nI (mp_c (M (k + 14)) (M (k + 15)) s (i + 1))) (in_y rfl rfl nc93_2) ?_
          refine k_istoren C [1, 2, 3, 0, 4, 5] [(0, .ref (sk_ad O k)), (1, .ref (sk_ad O a)), (2, .int xs), (3, .int (nI (mp_c (M (k + 14)) (M (k + 15)) s (i + 1)))), (4, .int (nI i)), (5, .int (if mp_a (M (k + 14)) (M (k + 15)) i s then 1 else 0))] dX8_place_102 (by decide) rfl ?_
          refine k_iinc C 4 (nI (i + 1)) [1, 2, 3, 4, 0, 5] [(0, .ref (sk_ad O k)), (1, .ref (sk_ad O a)), (2, .int xs), (3, .int (nI (mp_c (M (k + 14)) (M (k + 15)) s (i + 1)))), (4, .int (nI (i + 1))), (5, .int (if mp_a (M (k + 14)) (M (k + 15)) i s then 1 else 0))] dX8_place_103 rfl (nI_add _ _) (by decide) rfl ?_
          refine k_goto C 5 dX8_place_106 (by decide) ?_
          refine k_sub [0, 1, 2, 3, 4] (lv' := [(0, .ref (sk_ad O k)), (1, .ref (sk_ad O a)), (2, .int xs), (3, .int (nI (mp_c (M (k + 14)) (M (k + 15)) s (i + 1)))), (4, .int (nI (i + 1)))]) rfl ?_
          exact ih5 (by omega)
      refine k_cgt C 83 dX8_place_26 (by decide) (fun c26_3 => ?_) (fun c26_3 => ?_)
      ·
        refine k_iconst C (1) dX8_place_83 (by decide) ?_
        refine k_goto C 88 dX8_place_84 (by decide) ?_
        exact k_eq rfl rfl rfl (by rw [if_pos (show mp_a (M (k + 14)) (M (k + 15)) i s from Or.inl c26_3)]) J88
      ·
        refine k_aloadn C 0 dX8_place_29 rfl ?_
        refine k_getr C (j := 19) (k' := k + 14) kcl_X8 fl_X8_50 hk.1 (by decide) rfl dX8_place_30 ?_
        refine k_iload C 4 dX8_place_33 rfl ?_
        refine k_ialdn C i hk.2.2.2.2.2.2.2.2.2.2.2.2.2.2.1 rfl (by omega) dX8_place_35 ?_
        refine k_aloadn C 0 dX8_place_36 rfl ?_
        refine k_getr C (j := 19) (k' := k + 14) kcl_X8 fl_X8_50 hk.1 (by decide) rfl dX8_place_37 ?_
        refine k_iloadn C 2 dX8_place_40 rfl ?_
        refine k_ialdn C s hk.2.2.2.2.2.2.2.2.2.2.2.2.2.2.1 hxs (by omega) dX8_place_41 ?_
        refine k_cne C 87 dX8_place_42 (by decide) (fun c42_4 => ?_) (fun c42_4 => ?_)
        ·
          refine k_iconst C (0) dX8_place_87 (by decide) ?_
          exact k_eq rfl rfl rfl (by rw [if_neg (show ¬ mp_a (M (k + 14)) (M (k + 15)) i s from fun h => h.elim c26_3 (fun z => c42_4 z.1))]) J88
        ·
          refine k_aloadn C 0 dX8_place_45 rfl ?_
          refine k_getr C (j := 20) (k' := k + 15) kcl_X8 fl_X8_53 hk.1 (by decide) rfl dX8_place_46 ?_
          refine k_iload C 4 dX8_place_49 rfl ?_
          refine k_ialdn C i hk.2.2.2.2.2.2.2.2.2.2.2.2.2.2.2 rfl (by omega) dX8_place_51 ?_
          refine k_aloadn C 0 dX8_place_52 rfl ?_
          refine k_getr C (j := 20) (k' := k + 15) kcl_X8 fl_X8_53 hk.1 (by decide) rfl dX8_place_53 ?_
          refine k_iloadn C 2 dX8_place_56 rfl ?_
          refine k_ialdn C s hk.2.2.2.2.2.2.2.2.2.2.2.2.2.2.2 hxs (by omega) dX8_place_57 ?_
          refine k_cgt C 83 dX8_place_58 (by decide) (fun c58_5 => ?_) (fun c58_5 => ?_)
          ·
            refine k_iconst C (1) dX8_place_83 (by decide) ?_
            refine k_goto C 88 dX8_place_84 (by decide) ?_
            exact k_eq rfl rfl rfl (by rw [if_pos (show mp_a (M (k + 14)) (M (k + 15)) i s from Or.inr ⟨c42_4, Or.inl c58_5⟩)]) J88
          ·
            refine k_aloadn C 0 dX8_place_61 rfl ?_
            refine k_getr C (j := 20) (k' := k + 15) kcl_X8 fl_X8_53 hk.1 (by decide) rfl dX8_place_62 ?_
            refine k_iload C 4 dX8_place_65 rfl ?_
            refine k_ialdn C i hk.2.2.2.2.2.2.2.2.2.2.2.2.2.2.2 rfl (by omega) dX8_place_67 ?_
            refine k_aloadn C 0 dX8_place_68 rfl ?_
            refine k_getr C (j := 20) (k' := k + 15) kcl_X8 fl_X8_53 hk.1 (by decide) rfl dX8_place_69 ?_
            refine k_iloadn C 2 dX8_place_72 rfl ?_
            refine k_ialdn C s hk.2.2.2.2.2.2.2.2.2.2.2.2.2.2.2 hxs (by omega) dX8_place_73 ?_
            refine k_cne C 87 dX8_place_74 (by decide) (fun c74_6 => ?_) (fun c74_6 => ?_)
            ·
              refine k_iconst C (0) dX8_place_87 (by decide) ?_
              exact k_eq rfl rfl rfl (by rw [if_neg (show ¬ mp_a (M (k + 14)) (M (k + 15)) i s from fun h => h.elim c26_3 (fun z => z.2.elim c58_5 (fun y => c74_6 y.1)))]) J88
            ·
              refine k_iload C 4 dX8_place_77 rfl ?_
              refine k_iloadn C 2 dX8_place_79 rfl ?_
              refine k_cge C 87 dX8_place_80 (by decide) (fun c80_7 => ?_) (fun c80_7 => ?_)
              ·
                have nc80_7 : s ≤ i := (sk_eI (a := s) (b := i) hxs rfl (by omega) (by omega)).mp c80_7
                refine k_iconst C (0) dX8_place_87 (by decide) ?_
                exact k_eq rfl rfl rfl (by rw [if_neg (show ¬ mp_a (M (k + 14)) (M (k + 15)) i s from fun h => h.elim c26_3 (fun z => z.2.elim c58_5 (fun y => absurd y.2 (by omega))))]) J88
              ·
                have nc80_7 : ¬ (s ≤ i) := fun h => c80_7 ((sk_eI (a := s) (b := i) hxs rfl (by omega) (by omega)).mpr h)
                refine k_iconst C (1) dX8_place_83 (by decide) ?_
                refine k_goto C 88 dX8_place_84 (by decide) ?_
                exact k_eq rfl rfl rfl (by rw [if_pos (show mp_a (M (k + 14)) (M (k + 15)) i s from Or.inr ⟨c42_4, Or.inr ⟨c74_6, by omega⟩⟩)]) J88
  exact L5 0 (Nat.zero_le _)

set_option maxHeartbeats 4000000 in
set_option maxRecDepth 100000 in
theorem m_X8_first (l : Launch) {O : sk_O} (hO : sk_inj O) (M : sk_M) (k : Nat) (hk : sk_isM O k) (a : Nat) (ha : sk_is O a (0, 938, sk_no)) (m : Nat) (hm4 : m ≤ 4) (hm : M a 0 = nI m) (hmj : ∀ s, s < m → mo_wp (M a) s) (hap : k < a ∧ a < k + 8) : sk_Mi l yX8_first (sk_w yX8_first cX8_first 3 (some .int)) ({ frames := 11, cells := 0, slots := 0, locals := 267 }) O [.ref (sk_ad O k), .ref (sk_ad O a)] M (fun r M' => mp_q (ml_l M k a m (k + 14)) (ml_l M k a m (k + 15)) m r ∧ M' = ml_l M k a m) := by
  refine sk_mi (by decide) ⟨rfl, rfl⟩ hO (Nat.le_of_ble_eq_true rfl) (fun X A Q C ret => ?_)
  show sk_W l X O A Q 3 0 0 M 0 [(0, .ref (sk_ad O k)), (1, .ref (sk_ad O a))] []
  refine k_aloadn C 0 dX8_first_0 rfl ?_
  refine k_aloadn C 1 dX8_first_1 rfl ?_
  refine k_vv C (as := [.ref (sk_ad O a)]) yvX8_reckonAll viX8_reckonAll ml_X8_149 (m_X8_reckonAll l C.2.2.2.1 M (k := k) (hk := hk) (a := a) (ha := ha) (m := m) (hm4 := hm4) (hm := hm) (hmj := hmj) (hap := hap)) hk.1 rfl rfl rfl (Nat.le_of_ble_eq_true rfl) (by decide) dX8_first_2 (fun M2_1 h2_1 => ?_)
  rw [h2_1]
  refine k_iconst C (0) dX8_first_5 (by decide) ?_
  refine k_istoren C [1, 2, 0] [(0, .ref (sk_ad O k)), (1, .ref (sk_ad O a)), (2, .int (0))] dX8_first_6 (by decide) rfl ?_
  have L7 : ∀ i, i ≤ m → (∀ j, j < i → ¬ mp_c (ml_l M k a m (k + 14)) (ml_l M k a m (k + 15)) j m = 0) → sk_W l X O A Q 3 0 0 (ml_l M k a m) 7 [(0, .ref (sk_ad O k)), (1, .ref (sk_ad O a)), (2, .int (nI i))] [] := by
    refine sk_loop m (fun i hi7 ih7 => ?_)
    intro hno
    have hcl := mp_c_le (ml_l M k a m (k + 14)) (ml_l M k a m (k + 15)) i m
    refine k_iloadn C 2 dX8_first_7 rfl ?_
    refine k_aloadn C 1 dX8_first_8 rfl ?_
    refine k_iconst C (0) dX8_first_9 (by decide) ?_
    refine k_ialdn C 0 ha (rfl : ((0) : Int32) = nI 0) (by omega) dX8_first_10 ?_
    refine k_top (M a 0) (by rw [ml_l_f (by omega) (by omega) _]) ?_
    refine k_cge C 31 dX8_first_11 (by decide) (fun c11_2 => ?_) (fun c11_2 => ?_)
    ·
      have nc11_2 : m ≤ i := (sk_eI (a := m) (b := i) hm rfl (by omega) (by omega)).mp c11_2
      obtain rfl : m = i := (by omega)
      refine k_iconst C (-1) dX8_first_31 (by decide) ?_
      exact ret _ _ _ _ dX8_first_32 rfl (by exact ⟨Or.inr ⟨hno, rfl⟩, rfl⟩)
    ·
      have nc11_2 : ¬ (m ≤ i) := fun h => c11_2 ((sk_eI (a := m) (b := i) hm rfl (by omega) (by omega)).mpr h)
      refine k_aloadn C 0 dX8_first_14 rfl ?_
      refine k_aloadn C 1 dX8_first_15 rfl ?_
      refine k_iloadn C 2 dX8_first_16 rfl ?_
      refine k_vi C (as := [.ref (sk_ad O a), .int (nI i)]) yvX8_place viX8_place ml_X8_153 (m_X8_place l C.2.2.2.1 (ml_l M k a m) (k := k) (hk := hk) (a := a) (ha := ha) (s := i) (xs := nI i) (hxs := rfl) (m := m) (hs := (by omega)) (hm4 := hm4) (hm := (by rw [ml_l_f (by omega) (by omega) _]; exact hm))) hk.1 rfl rfl rfl (Nat.le_of_ble_eq_true rfl) (by decide) dX8_first_17 (fun x17_3 M17_3 h17_3 => ?_)
      rw [h17_3.1, h17_3.2]
      refine k_zne C 25 dX8_first_20 (by decide) (fun c20_4 => ?_) (fun c20_4 => ?_)
      ·
        have nc20_4 : ¬ ((mp_c ((ml_l M k a m) (k + 14)) ((ml_l M k a m) (k + 15)) i m) = 0) := fun h => c20_4 ((sk_qI (a := (mp_c ((ml_l M k a m) (k + 14)) ((ml_l M k a m) (k + 15)) i m)) (b := 0) rfl (rfl : ((0) : Int32) = nI 0) (by omega) (by omega)).mpr h)
        refine k_iinc C 2 (nI (i + 1)) [1, 2, 0] [(0, .ref (sk_ad O k)), (1, .ref (sk_ad O a)), (2, .int (nI (i + 1)))] dX8_first_25 rfl (nI_add _ _) (by decide) rfl ?_
        refine k_goto C 7 dX8_first_28 (by decide) ?_
        exact ih7 (by omega) (fun j hj => by
          rcases Nat.lt_succ_iff_lt_or_eq.mp hj with h | h
          · exact hno j h
          · rw [h]
            exact nc20_4)
      ·
        have nc20_4 : (mp_c ((ml_l M k a m) (k + 14)) ((ml_l M k a m) (k + 15)) i m) = 0 := (sk_qI (a := (mp_c ((ml_l M k a m) (k + 14)) ((ml_l M k a m) (k + 15)) i m)) (b := 0) rfl (rfl : ((0) : Int32) = nI 0) (by omega) (by omega)).mp c20_4
        refine k_iloadn C 2 dX8_first_23 rfl ?_
        exact ret _ _ _ _ dX8_first_24 rfl (by exact ⟨Or.inl ⟨i, by omega, nc20_4, hno, rfl⟩, rfl⟩)
  exact L7 0 (Nat.zero_le _) (fun j hj => absurd hj (Nat.not_lt_zero _))

set_option maxHeartbeats 4000000 in
set_option maxRecDepth 100000 in
theorem m_X8_sum (l : Launch) {O : sk_O} (hO : sk_inj O) (M : sk_M) (a : Nat) (ha : sk_is O a (0, 938, sk_no)) (s : Nat) (xs : Int32) (hxs : xs = nI s) (w : Nat) (xw : Int32) (hxw : xw = nI w) (N : Nat) (hs : s < 4) (hN12 : N ≤ 12) (hN : M a (6 + 233 * s) = nI N) (hw18 : w < 18) : sk_Mi l yX8_sum (sk_w yX8_sum cX8_sum 5 (some .int)) ({ frames := 1, cells := 0, slots := 0, locals := 21 }) O [.ref (sk_ad O a), .int xs, .int xw] M (fun r M' => r = (sk_sum (fun e => M a (23 + 233 * s + 18 * e + w)) N) ∧ M' = M) := by
  refine sk_mi (by decide) ⟨rfl, rfl⟩ hO (Nat.le_of_ble_eq_true rfl) (fun X A Q C ret => ?_)
  show sk_W l X O A Q 5 0 0 M 0 [(0, .ref (sk_ad O a)), (1, .int xs), (2, .int xw)] []
  refine k_iconst C (0) dX8_sum_0 (by decide) ?_
  refine k_istoren C [1, 2, 3, 0] [(0, .ref (sk_ad O a)), (1, .int xs), (2, .int xw), (3, .int (0))] dX8_sum_1 (by decide) rfl ?_
  refine k_iconst C (0) dX8_sum_2 (by decide) ?_
  refine k_istore C [1, 2, 3, 4, 0] [(0, .ref (sk_ad O a)), (1, .int xs), (2, .int xw), (3, .int (0)), (4, .int (0))] dX8_sum_3 (by decide) rfl ?_
  have L5 : ∀ i, i ≤ N → sk_W l X O A Q 5 0 0 M 5 [(0, .ref (sk_ad O a)), (1, .int xs), (2, .int xw), (3, .int (sk_sum (fun e => M a (23 + 233 * s + 18 * e + w)) i)), (4, .int (nI i))] [] := by
    refine sk_loop N (fun i hi5 ih5 => ?_)
    refine k_iload C 4 dX8_sum_5 rfl ?_
    refine k_aloadn C 0 dX8_sum_7 rfl ?_
    refine k_iloadn C 1 dX8_sum_8 rfl ?_
    refine k_si C (as := [.int xs]) yvX8_skaterAt vsX8_skaterAt ml_X8_72 (m_X8_skaterAt l C.2.2.2.1 M (s := s) (xs := xs) (hxs := hxs)) rfl rfl (Nat.le_of_ble_eq_true rfl) (by decide) dX8_sum_9 (fun x9_1 M9_1 h9_1 => ?_)
    rw [h9_1.1, h9_1.2]
    refine k_iconst C (0) dX8_sum_12 (by decide) ?_
    refine k_iadd C dX8_sum_13 ?_
    refine k_ialdn C (6 + 233 * s) ha (sk_nadd (b := 0) rfl (rfl : ((0) : Int32) = nI 0)) (by omega) dX8_sum_14 ?_
    refine k_cge C 37 dX8_sum_15 (by decide) (fun c15_2 => ?_) (fun c15_2 => ?_)
    ·
      have nc15_2 : N ≤ i := (sk_eI (a := N) (b := i) hN rfl (by omega) (by omega)).mp c15_2
      refine k_iloadn C 3 dX8_sum_37 rfl ?_
      exact ret _ _ _ _ dX8_sum_38 rfl (by obtain rfl : i = N := (by omega); exact ⟨rfl, rfl⟩)
    ·
      have nc15_2 : ¬ (N ≤ i) := fun h => c15_2 ((sk_eI (a := N) (b := i) hN rfl (by omega) (by omega)).mpr h)
      refine k_iloadn C 3 dX8_sum_18 rfl ?_
      refine k_aloadn C 0 dX8_sum_19 rfl ?_
      refine k_iloadn C 1 dX8_sum_20 rfl ?_
      refine k_iload C 4 dX8_sum_21 rfl ?_
      refine k_si C (as := [.int xs, .int (nI i)]) yvX8_elementAt vsX8_elementAt ml_X8_60 (m_X8_elementAt l C.2.2.2.1 M (s := s) (xs := xs) (hxs := hxs) (e := i) (xe := nI i) (hxe := rfl)) rfl rfl (Nat.le_of_ble_eq_true rfl) (by decide) dX8_sum_23 (fun x23_3 M23_3 h23_3 => ?_)
      rw [h23_3.1, h23_3.2]
      refine k_iloadn C 2 dX8_sum_26 rfl ?_
      refine k_iadd C dX8_sum_27 ?_
      refine k_ialdn C (23 + 233 * s + 18 * i + w) ha (sk_nadd rfl hxw) (by omega) dX8_sum_28 ?_
      refine k_iadd C dX8_sum_29 ?_
      refine k_istoren C [1, 2, 3, 0, 4] [(0, .ref (sk_ad O a)), (1, .int xs), (2, .int xw), (3, .int ((sk_sum (fun e => M a (23 + 233 * s + 18 * e + w)) i) + (M a (23 + 233 * s + 18 * i + w)))), (4, .int (nI i))] dX8_sum_30 (by decide) rfl ?_
      refine k_iinc C 4 (nI (i + 1)) [1, 2, 3, 4, 0] [(0, .ref (sk_ad O a)), (1, .int xs), (2, .int xw), (3, .int ((sk_sum (fun e => M a (23 + 233 * s + 18 * e + w)) i) + (M a (23 + 233 * s + 18 * i + w)))), (4, .int (nI (i + 1)))] dX8_sum_31 rfl (nI_add _ _) (by decide) rfl ?_
      refine k_goto C 5 dX8_sum_34 (by decide) ?_
      exact ih5 (by omega)
  exact L5 0 (Nat.zero_le _)

set_option maxHeartbeats 4000000 in
set_option maxRecDepth 100000 in
theorem m_X8_sumOfAll (l : Launch) {O : sk_O} (hO : sk_inj O) (M : sk_M) (a : Nat) (ha : sk_is O a (0, 938, sk_no)) (w : Nat) (xw : Int32) (hxw : xw = nI w) (m : Nat) (hm4 : m ≤ 4) (hm : M a 0 = nI m) (hmj : ∀ s, s < m → mo_wp (M a) s) (hw18 : w < 18) : sk_Mi l yX8_sumOfAll (sk_w yX8_sumOfAll cX8_sumOfAll 4 (some .int)) ({ frames := 2, cells := 0, slots := 0, locals := 45 }) O [.ref (sk_ad O a), .int xw] M (fun r M' => r = (sk_sum (fun s => sk_sum (fun e => M a (23 + 233 * s + 18 * e + w)) (mo_c (M a) s)) m) ∧ M' = M) := by
  refine sk_mi (by decide) ⟨rfl, rfl⟩ hO (Nat.le_of_ble_eq_true rfl) (fun X A Q C ret => ?_)
  show sk_W l X O A Q 4 0 0 M 0 [(0, .ref (sk_ad O a)), (1, .int xw)] []
  refine k_iconst C (0) dX8_sumOfAll_0 (by decide) ?_
  refine k_istoren C [1, 2, 0] [(0, .ref (sk_ad O a)), (1, .int xw), (2, .int (0))] dX8_sumOfAll_1 (by decide) rfl ?_
  refine k_iconst C (0) dX8_sumOfAll_2 (by decide) ?_
  refine k_istoren C [1, 2, 3, 0] [(0, .ref (sk_ad O a)), (1, .int xw), (2, .int (0)), (3, .int (0))] dX8_sumOfAll_3 (by decide) rfl ?_
  have L4 : ∀ i, i ≤ m → sk_W l X O A Q 4 0 0 M 4 [(0, .ref (sk_ad O a)), (1, .int xw), (2, .int (sk_sum (fun s => sk_sum (fun e => M a (23 + 233 * s + 18 * e + w)) (mo_c (M a) s)) i)), (3, .int (nI i))] [] := by
    refine sk_loop m (fun i hi4 ih4 => ?_)
    refine k_iloadn C 3 dX8_sumOfAll_4 rfl ?_
    refine k_aloadn C 0 dX8_sumOfAll_5 rfl ?_
    refine k_iconst C (0) dX8_sumOfAll_6 (by decide) ?_
    refine k_ialdn C 0 ha (rfl : ((0) : Int32) = nI 0) (by omega) dX8_sumOfAll_7 ?_
    refine k_cge C 26 dX8_sumOfAll_8 (by decide) (fun c8_1 => ?_) (fun c8_1 => ?_)
    ·
      have nc8_1 : m ≤ i := (sk_eI (a := m) (b := i) hm rfl (by omega) (by omega)).mp c8_1
      refine k_iloadn C 2 dX8_sumOfAll_26 rfl ?_
      exact ret _ _ _ _ dX8_sumOfAll_27 rfl (by obtain rfl : i = m := (by omega); exact ⟨rfl, rfl⟩)
    ·
      have nc8_1 : ¬ (m ≤ i) := fun h => c8_1 ((sk_eI (a := m) (b := i) hm rfl (by omega) (by omega)).mpr h)
      obtain ⟨N, hN12, hN, hNp⟩ := hmj i (by omega)
      have hc : mo_c (M a) i = N := (by show (M a _).toNatClampNeg = N; rw [hN, nI_clamp (by omega)])
      rw [← hc] at hN12 hN hNp
      refine k_iloadn C 2 dX8_sumOfAll_11 rfl ?_
      refine k_aloadn C 0 dX8_sumOfAll_12 rfl ?_
      refine k_iloadn C 3 dX8_sumOfAll_13 rfl ?_
      refine k_iloadn C 1 dX8_sumOfAll_14 rfl ?_
      refine k_si C (as := [.ref (sk_ad O a), .int (nI i), .int xw]) yvX8_sum vsX8_sum ml_X8_156 (m_X8_sum l C.2.2.2.1 M (a := a) (ha := ha) (s := i) (xs := nI i) (hxs := rfl) (w := w) (xw := xw) (hxw := hxw) (N := mo_c (M a) i) (hs := (by omega)) (hN12 := hN12) (hN := hN) (hw18 := hw18)) rfl rfl (Nat.le_of_ble_eq_true rfl) (by decide) dX8_sumOfAll_15 (fun x15_2 M15_2 h15_2 => ?_)
      rw [h15_2.1, h15_2.2]
      refine k_iadd C dX8_sumOfAll_18 ?_
      refine k_istoren C [1, 2, 0, 3] [(0, .ref (sk_ad O a)), (1, .int xw), (2, .int ((sk_sum (fun s => sk_sum (fun e => M a (23 + 233 * s + 18 * e + w)) (mo_c (M a) s)) i) + (sk_sum (fun e => M a (23 + 233 * i + 18 * e + w)) (mo_c (M a) i)))), (3, .int (nI i))] dX8_sumOfAll_19 (by decide) rfl ?_
      refine k_iinc C 3 (nI (i + 1)) [1, 2, 3, 0] [(0, .ref (sk_ad O a)), (1, .int xw), (2, .int ((sk_sum (fun s => sk_sum (fun e => M a (23 + 233 * s + 18 * e + w)) (mo_c (M a) s)) i) + (sk_sum (fun e => M a (23 + 233 * i + 18 * e + w)) (mo_c (M a) i)))), (3, .int (nI (i + 1)))] dX8_sumOfAll_20 rfl (nI_add _ _) (by decide) rfl ?_
      refine k_goto C 4 dX8_sumOfAll_23 (by decide) ?_
      exact ih4 (by omega)
  exact L4 0 (Nat.zero_le _)

