/-! The model: turns, simulations (wb_ rows: from kit/laws/BITS.to-paste) -/
theorem wb_tb (n : Nat) : (lN n).toBitVec = BitVec.ofNat 64 n := rfl
theorem wb_inj {a b : Int64} (h : a.toBitVec = b.toBitVec) : a = b := Int64.toBitVec_inj.mp h
theorem wb_tn {n : Nat} (h : n < 2 ^ 64) : (lN n).toBitVec.toNat = n := by rw [wb_tb, BitVec.toNat_ofNat, Nat.mod_eq_of_lt h]
theorem wb_of (x : Int64) : ∃ n, n < 2 ^ 64 ∧ x = lN n := ⟨x.toBitVec.toNat, x.toBitVec.isLt, wb_inj (by rw [wb_tb]; simp)⟩
theorem wb_cu : ∀ k, k < 64 → ((nI k).toInt64.toUInt64 &&& Int64.toUInt64 63) = UInt64.ofNat k := by decide +kernel
theorem wb_shr {n k : Nat} (hn : n < 2 ^ 64) (hk : k < 64) : ((lN n).toUInt64 >>> ((nI k).toInt64.toUInt64 &&& Int64.toUInt64 63)).toInt64 = lN (n / 2 ^ k) := by
  rw [wb_cu k hk]
  apply wb_inj
  apply BitVec.eq_of_toNat_eq
  show ((lN n).toUInt64 >>> UInt64.ofNat k).toNat = (BitVec.ofNat 64 _).toNat
  have h1 : (UInt64.ofNat k).toNat = k := by
    show (BitVec.ofNat 64 k).toNat = k
    rw [BitVec.toNat_ofNat, Nat.mod_eq_of_lt (by omega)]
  have h2 : (lN n).toUInt64.toNat = n := wb_tn hn
  rw [UInt64.toNat_shiftRight, h1, h2, Nat.mod_eq_of_lt hk, Nat.shiftRight_eq_div_pow, BitVec.toNat_ofNat, Nat.mod_eq_of_lt (Nat.lt_of_le_of_lt (Nat.div_le_self _ _) hn)]
theorem si_r_n (x : Int64) : ¬ si_r x < 0 := by
  obtain ⟨n, hn, rfl⟩ := wb_of x
  have h := wb_shr (n := n) (k := 33) hn (by decide)
  unfold si_r
  rw [show (33 : Int32) = nI 33 from rfl, h, lN_i]
  have h2 : n / 2 ^ 33 < 2 ^ 31 := Nat.div_lt_of_lt_mul (by omega)
  exact nI_pos h2
theorem sk_rmx {r x y : Int32} {a b : Nat} (hr : ¬ r < 0) (hx : x = nI a) (hy : y = nI b) (ha : 0 < a ∧ a < 2 ^ 31) (hb : 0 < b ∧ b < 2 ^ 31) : sk_rm (r / x) y = nI (sk_rm (r / x) y).toNatClampNeg ∧ (sk_rm (r / x) y).toNatClampNeg < b := by
  obtain ⟨n, h1, rfl⟩ := nI_of hr
  have e : sk_rm (nI n / x) y = nI (n / a % b) := sk_nrem (sk_ndiv rfl hx h1 ha) hy (Nat.lt_of_le_of_lt (Nat.div_le_self _ _) h1) hb
  have h3 : n / a % b < b := Nat.mod_lt _ hb.1
  rw [e, nI_clamp (by omega)]
  exact ⟨rfl, h3⟩
theorem sk_nmr {M : sk_M} {k a : Nat} {f : Nat → Int32} (h : a ≠ k) : sk_mr M k f a = M a := by funext b; exact sk_nr h
theorem sk_mrr {M : sk_M} {k : Nat} {f : Nat → Int32} : sk_mr M k f k = f := by funext b; simp [sk_mr]
theorem sk_mr2 {M : sk_M} {k : Nat} {f g : Nat → Int32} : sk_mr (sk_mr M k f) k g = sk_mr M k g := by
  funext a b
  by_cases h : a = k
  · subst h; rw [sk_mrr, sk_mrr]
  · rw [sk_nmr h, sk_nmr h, sk_nmr h]
theorem sk_mri {M : sk_M} {k : Nat} : M = sk_mr M k (M k) := by
  funext a b
  by_cases h : a = k
  · subst h; rw [sk_mrr]
  · rw [sk_nmr h]
theorem sk_mre {M N : sk_M} {k : Nat} {f : Nat → Int32} (h : ∀ a, a ≠ k → N a = M a) (g : N k = f) : N = sk_mr M k f := by
  funext a b
  by_cases q : a = k
  · subst q; rw [sk_mrr, g]
  · rw [sk_nmr q, h a q]
theorem my_m_r {M : sk_M} {a q : Nat} {v b d : Int32} : my_m M a q v b d 5 = sk_mr M a (my_w (M a) q v b d 5) := sk_mre (fun x h => my_m_f h 5) (my_m_w 5)
theorem sk_msr2 {M : sk_M} {a j : Nat} {v : Int32} : sk_ms M a j v = sk_mr M a (mu_u (M a) j v) := sk_mre (fun x h => sk_nf h) sk_msu
theorem mc_mr {M : sk_M} {a b : Nat} : mc_m M a b 0 0 938 = sk_mr M b (mu_c (M a) (M b)) := sk_mre (fun x h => mc_m_f h) mc_mu
theorem mo_e1 {e : Nat} (h : nI e = 0) (he : e < 100) : e = 0 := (nI_eq (b := 0) (by omega) (by omega)).mp h
def mt_r (t : Nat → Int32) (r : Int32) : Nat → Int32 :=
  if sk_rm r 8 < 3 then (if mo_he t (x_s1 r) (x_e1 r) then my_w t (23 + 233 * (x_s1 r).toNatClampNeg + 18 * (x_e1 r).toNatClampNeg + 11) (sk_rm (r / 512) 161051) 11 5 5 else t)
  else if sk_rm r 8 = 3 then (if mo_hs t (x_s1 r) then my_w t (6 + 233 * (x_s1 r).toNatClampNeg + 2 + 5 * (sk_rm (r / 32) 3).toNatClampNeg) (sk_rm (r / 128) 115856201) 41 0 5 else t)
  else if sk_rm r 8 < 6 then (if mo_wc t (x_s1 r) (x_e1 r) (sk_rm (r / 512) 3) (sk_rm (r / 2048) 4) = 0 then mu_u t (25 + 233 * (x_s1 r).toNatClampNeg + 18 * (x_e1 r).toNatClampNeg + 3 * (sk_rm (r / 512) 3).toNatClampNeg + 2) (sk_rm (r / 2048) 4) else t)
  else if sk_rm r 8 = 6 then (if mo_he t (x_s1 r) (x_e1 r) then mu_u t (23 + 233 * (x_s1 r).toNatClampNeg + 18 * (x_e1 r).toNatClampNeg + 16) (if sk_rm (r / 512) 2 = 0 then 1 else 0) else t)
  else (if mo_hs t (x_s1 r) then mu_u t (6 + 233 * (x_s1 r).toNatClampNeg + 1) (sk_rm (r / 32) 10) else t)
theorem pl_a {q s e : Nat} (he : e < 12) : 6 + 233 * q < 23 + 233 * s + 18 * e ∨ 23 + 233 * s + 18 * e + 18 ≤ 6 + 233 * q := by rcases Nat.lt_or_ge s q with h | h <;> omega
theorem pl_b {q z s e : Nat} (hz : z < 12) (he : e < 12) : (q = s ∧ z = e) ∨ 23 + 233 * q + 18 * z + 18 ≤ 23 + 233 * s + 18 * e ∨ 23 + 233 * s + 18 * e + 18 ≤ 23 + 233 * q + 18 * z := by
  rcases Nat.lt_trichotomy q s with h | h | h
  · omega
  · subst h
    rcases Nat.lt_trichotomy z e with g | g | g <;> omega
  · omega
theorem pl_c {q s : Nat} : 6 + 233 * q < 8 + 233 * s ∨ 23 + 233 * s ≤ 6 + 233 * q := by rcases Nat.lt_or_ge s q with h | h <;> omega
theorem pl_d {q z s : Nat} (hz : z < 12) : 23 + 233 * q + 18 * z + 18 ≤ 6 + 233 * s ∨ 23 + 233 * s ≤ 23 + 233 * q + 18 * z := by rcases Nat.lt_or_ge q s with h | h <;> omega
/-- the counts of a row -/
def mo_wm (t : Nat → Int32) (m : Nat) : Prop := t 0 = nI m ∧ ∀ s, s < m → mo_wp t s
theorem mo_wm.c {t t' : Nat → Int32} {m : Nat} (h0 : t' 0 = t 0) (h1 : ∀ s, s < m → t' (6 + 233 * s) = t (6 + 233 * s)) (h2 : ∀ s e, s < m → e < 12 → t' (23 + 233 * s + 18 * e + 1) = t (23 + 233 * s + 18 * e + 1)) (h : mo_wm t m) : mo_wm t' m :=
  ⟨by rw [h0]; exact h.1, fun s hs => mo_wpc (h1 s hs) (fun e he => h2 s e hs he) (h.2 s hs)⟩
theorem mo_wm.sx {t : Nat → Int32} {m : Nat} {s : Int32} (h : mo_wm t m) (hm4 : m ≤ 4) (g : mo_hs t s) : s.toNatClampNeg < m := (sk_ix g h.1 (by omega)).2
theorem mo_wm.ex {t : Nat → Int32} {m : Nat} {s e : Int32} (h : mo_wm t m) (hm4 : m ≤ 4) (g : mo_he t s e) : s.toNatClampNeg < m ∧ e.toNatClampNeg < 12 := by
  have h1 := h.sx hm4 g.1
  obtain ⟨N, h2, h3, -⟩ := h.2 _ h1
  exact ⟨h1, Nat.lt_of_lt_of_le (sk_ix g.2 h3 (by omega)).2 h2⟩
theorem mo_wm.px {t : Nat → Int32} {m : Nat} {s e p : Int32} (h : mo_wm t m) (hm4 : m ≤ 4) (g : mo_hp t s e p) : s.toNatClampNeg < m ∧ e.toNatClampNeg < 12 ∧ p.toNatClampNeg < 3 := by
  have h1 := h.sx hm4 g.1.1
  obtain ⟨N, h2, h3, h4⟩ := h.2 _ h1
  have h5 := (sk_ix g.1.2 h3 (by omega)).2
  obtain ⟨q, h6, h7⟩ := h4 _ h5
  exact ⟨h1, Nat.lt_of_lt_of_le h5 h2, Nat.lt_of_lt_of_le (sk_ix g.2 h7 (by omega)).2 h6⟩
theorem mo_wm.k {t : Nat → Int32} {m s e : Nat} {v b d : Int32} (h : mo_wm t m) (hm4 : m ≤ 4) (hs : s < 4) (he : e < 12) : mo_wm (my_w t (23 + 233 * s + 18 * e + 11) v b d 5) m :=
  mo_wm.c (my_w_n (by omega) 5) (fun q hq => my_w_n (by have := pl_a (q := q) (s := s) he; omega) 5) (fun q z hq hz => my_w_n (by have := pl_b (q := q) (s := s) hz he; omega) 5) h
theorem mo_wm.o {t : Nat → Int32} {m s j : Nat} {v b d : Int32} (h : mo_wm t m) (hm4 : m ≤ 4) (hs : s < 4) (hj : j < 3) : mo_wm (my_w t (6 + 233 * s + 2 + 5 * j) v b d 5) m :=
  mo_wm.c (my_w_n (by omega) 5) (fun q hq => my_w_n (by have := @pl_c q s; omega) 5) (fun q z hq hz => my_w_n (by have := pl_d (q := q) (s := s) hz; omega) 5) h
theorem mo_wm.u {t : Nat → Int32} {m j : Nat} {v : Int32} (h : mo_wm t m) (h0 : j ≠ 0) (h1 : ∀ s, s < m → 6 + 233 * s ≠ j) (h2 : ∀ s e, s < m → e < 12 → 23 + 233 * s + 18 * e + 1 ≠ j) : mo_wm (mu_u t j v) m :=
  mo_wm.c (mu_n (Ne.symm h0)) (fun q hq => mu_n (h1 q hq)) (fun q z hq hz => mu_n (h2 q z hq hz)) h
theorem mo_wm.t {t : Nat → Int32} {m : Nat} {r : Int32} (h : mo_wm t m) (hm4 : m ≤ 4) (hr : ¬ r < 0) : mo_wm (mt_r t r) m := by
  have hj := (sk_rmx hr (x := 32) (y := 3) (a := 32) (b := 3) rfl rfl (by omega) (by omega)).2
  unfold mt_r
  split
  · split
    · have g := h.ex hm4 (by assumption); exact h.k hm4 (by omega) (by omega)
    · exact h
  · split
    · split
      · have g := h.sx hm4 (by assumption); exact h.o hm4 (by omega) (by omega)
      · exact h
    · split
      · split
        · have g := h.px hm4 (x_ck00 (by assumption)); exact h.u (by omega) (fun q hq => by have := pl_a (q := q) (s := (x_s1 r).toNatClampNeg) g.2.1; omega) (fun q z hq hz => by have := pl_b (q := q) (s := (x_s1 r).toNatClampNeg) hz g.2.1; omega)
        · exact h
      · split
        · split
          · have g := h.ex hm4 (by assumption); exact h.u (by omega) (fun q hq => by have := pl_a (q := q) (s := (x_s1 r).toNatClampNeg) g.2; omega) (fun q z hq hz => by have := pl_b (q := q) (s := (x_s1 r).toNatClampNeg) hz g.2; omega)
          · exact h
        · split
          · have g := h.sx hm4 (by assumption); exact h.u (by omega) (fun q hq => by omega) (fun q z hq hz => by have := pl_d (q := q) (s := (x_s1 r).toNatClampNeg) hz; omega)
          · exact h
def mt_s (t : Nat → Int32) (x : Int64) : Nat → Nat → Int32
  | 0 => t
  | i + 1 => mt_r (mt_s t x i) (si_r (si_x x (i + 1)))
theorem mo_wm.s {t : Nat → Int32} {m : Nat} {x : Int64} (h : mo_wm t m) (hm4 : m ≤ 4) : ∀ i, mo_wm (mt_s t x i) m
  | 0 => h
  | i + 1 => (mo_wm.s h hm4 i).t hm4 (si_r_n _)
theorem mo_wm.w {r t : Nat → Int32} {m : Nat} (h : mo_wm r m) (hm4 : m ≤ 4) : mo_wm (mu_c r t) m :=
  mo_wm.c (mu_cl (by omega)) (fun q hq => mu_cl (by omega)) (fun q z hq hz => mu_cl (by omega)) h
def mq_l (N : sk_M) (k : Nat) (T : Nat → Int32) : Nat → sk_M
  | 0 => N
  | i + 1 => mk_m (mq_l N k T i) k (k + 3) i (mo_c T i)
theorem mq_l_f {N : sk_M} {k x : Nat} {T : Nat → Int32} (h : x < k + 8 ∨ k + 14 ≤ x) (h2 : x ≠ k) (i : Nat) : mq_l N k T i x = N x := by
  induction i with
  | zero => rfl
  | succ i ih => unfold mq_l; rw [mk_m_f h h2, ih]
theorem mo_g.mq {k : Nat} {T : Nat → Int32} {M N : sk_M} (g : mo_g k M N) : ∀ i, mo_g k M (mq_l N k T i)
  | 0 => g
  | i + 1 => mo_g.mk (mo_g.mq g i)
theorem mo_g.mr {k : Nat} {f : Nat → Int32} {M N : sk_M} (h : mo_g k M N) : mo_g k M (sk_mr N (k + 3) f) := ⟨by rw [sk_nmr (by omega)]; exact h.1, fun x h1 => by rw [sk_nmr (by omega)]; exact h.2.1 x h1, by rw [sk_nmr (by omega)]; exact h.2.2.1, by rw [sk_nmr (by omega)]; exact h.2.2.2⟩
set_option maxHeartbeats 4000000 in
set_option maxRecDepth 100000 in
theorem m_X8_turn (l : Launch) {O : sk_O} (hO : sk_inj O) (M : sk_M) (k : Nat) (hk : sk_isM O k) (r : Int32) (hr : ¬ r < 0) (m : Nat) (hm4 : m ≤ 4) (hm : M (k + 3) 0 = nI m) (hmj : ∀ s, s < m → mo_wp (M (k + 3)) s) : sk_Mv l yX8_turn (sk_w yX8_turn cX8_turn 5 none) ({ frames := 5, cells := 0, slots := 0, locals := 115 }) O [.ref (sk_ad O k), .int r] M (fun M' => M' = (sk_mr M (k + 3) (mt_r (M (k + 3)) r))) := by
  refine sk_mv (by decide) ⟨rfl, rfl⟩ hO (Nat.le_of_ble_eq_true rfl) (fun X A Q C ret => ?_)
  show sk_W l X O A Q 5 0 0 M 0 [(0, .ref (sk_ad O k)), (1, .int r)] []
  have hw : mo_wf (M (k + 3)) := ⟨m, hm4, hm, hmj⟩
  obtain ⟨jx, jb⟩ := sk_rmx hr (x := 32) (y := 3) (a := 32) (b := 3) rfl rfl (by omega) (by omega)
  refine k_iloadn C 1 dX8_turn_0 rfl ?_
  refine k_bipush C (8) dX8_turn_1 (by decide) ?_
  refine k_idiv C dX8_turn_3 (by decide) ?_
  refine k_iconst C (4) dX8_turn_4 (by decide) ?_
  refine k_irem C dX8_turn_5 (by decide) ?_
  refine k_top (x_s1 r) rfl ?_
  refine k_istoren C [1, 2, 0] [(0, .ref (sk_ad O k)), (1, .int r), (2, .int (x_s1 r))] dX8_turn_6 (by decide) rfl ?_
  refine k_iloadn C 1 dX8_turn_7 rfl ?_
  refine k_bipush C (32) dX8_turn_8 (by decide) ?_
  refine k_idiv C dX8_turn_10 (by decide) ?_
  refine k_bipush C (12) dX8_turn_11 (by decide) ?_
  refine k_irem C dX8_turn_13 (by decide) ?_
  refine k_top (x_e1 r) rfl ?_
  refine k_istoren C [1, 2, 3, 0] [(0, .ref (sk_ad O k)), (1, .int r), (2, .int (x_s1 r)), (3, .int (x_e1 r))] dX8_turn_14 (by decide) rfl ?_
  refine k_iloadn C 1 dX8_turn_15 rfl ?_
  refine k_bipush C (8) dX8_turn_16 (by decide) ?_
  refine k_irem C dX8_turn_18 (by decide) ?_
  refine k_top (sk_rm r 8) rfl ?_
  refine k_istore C [1, 2, 3, 4, 0] [(0, .ref (sk_ad O k)), (1, .int r), (2, .int (x_s1 r)), (3, .int (x_e1 r)), (4, .int (sk_rm r 8))] dX8_turn_19 (by decide) rfl ?_
  refine k_iload C 4 dX8_turn_21 rfl ?_
  refine k_iconst C (3) dX8_turn_23 (by decide) ?_
  refine k_cge C 69 dX8_turn_24 (by decide) (fun c24_1 => ?_) (fun c24_1 => ?_)
  ·
    refine k_iload C 4 dX8_turn_69 rfl ?_
    refine k_iconst C (3) dX8_turn_71 (by decide) ?_
    refine k_cne C 123 dX8_turn_72 (by decide) (fun c72_2 => ?_) (fun c72_2 => ?_)
    ·
      refine k_iload C 4 dX8_turn_123 rfl ?_
      refine k_bipush C (6) dX8_turn_125 (by decide) ?_
      refine k_cge C 183 dX8_turn_127 (by decide) (fun c127_3 => ?_) (fun c127_3 => ?_)
      ·
        refine k_iload C 4 dX8_turn_183 rfl ?_
        refine k_bipush C (6) dX8_turn_185 (by decide) ?_
        refine k_cne C 233 dX8_turn_187 (by decide) (fun c187_4 => ?_) (fun c187_4 => ?_)
        ·
          refine k_aloadn C 0 dX8_turn_233 rfl ?_
          refine k_getr C (j := 4) (k' := k + 3) kcl_X8 fl_X8_16 hk.1 (by decide) rfl dX8_turn_234 ?_
          refine k_iloadn C 2 dX8_turn_237 rfl ?_
          refine k_si C (as := [.ref (sk_ad O (k + 3)), .int (x_s1 r)]) yvX8_isSkater vsX8_isSkater ml_X8_68 (m_X8_isSkater l C.2.2.2.1 M (a := k + 3) (ha := hk.2.2.2.1) (s := x_s1 r) (hw := hw)) rfl rfl (Nat.le_of_ble_eq_true rfl) (by decide) dX8_turn_238 (fun x238_5 M238_5 h238_5 => ?_)
          rw [h238_5.1, h238_5.2]
          refine k_zeq C 262 dX8_turn_241 (by decide) (fun c241_6 => ?_) (fun c241_6 => ?_)
          ·
            have nc241_6 : ¬ (mo_hs (M (k + 3)) (x_s1 r)) := sk_b1.mp c241_6
            exact ret _ _ _ dX8_turn_262 (by rw [mt_r, if_neg (show ¬ sk_rm r 8 < 3 from Int32.not_lt.mpr c24_1), if_neg (show ¬ sk_rm r 8 = 3 from c72_2), if_neg (show ¬ sk_rm r 8 < 6 from Int32.not_lt.mpr c127_3), if_neg (show ¬ sk_rm r 8 = 6 from c187_4), if_neg nc241_6]; exact sk_mri)
          ·
            have nc241_6 : mo_hs (M (k + 3)) (x_s1 r) := Classical.byContradiction (fun h => c241_6 (sk_b1.mpr h))
            obtain ⟨ix, ib⟩ := sk_ix nc241_6 hm (by omega)
            refine k_aloadn C 0 dX8_turn_244 rfl ?_
            refine k_getr C (j := 4) (k' := k + 3) kcl_X8 fl_X8_16 hk.1 (by decide) rfl dX8_turn_245 ?_
            refine k_iloadn C 2 dX8_turn_248 rfl ?_
            refine k_si C (as := [.int (x_s1 r)]) yvX8_skaterAt vsX8_skaterAt ml_X8_72 (m_X8_skaterAt l C.2.2.2.1 M (s := (x_s1 r).toNatClampNeg) (xs := x_s1 r) (hxs := ix)) rfl rfl (Nat.le_of_ble_eq_true rfl) (by decide) dX8_turn_249 (fun x249_7 M249_7 h249_7 => ?_)
            rw [h249_7.1, h249_7.2]
            refine k_iconst C (1) dX8_turn_252 (by decide) ?_
            refine k_iadd C dX8_turn_253 ?_
            refine k_iloadn C 1 dX8_turn_254 rfl ?_
            refine k_bipush C (32) dX8_turn_255 (by decide) ?_
            refine k_idiv C dX8_turn_257 (by decide) ?_
            refine k_bipush C (10) dX8_turn_258 (by decide) ?_
            refine k_irem C dX8_turn_260 (by decide) ?_
            refine k_top (sk_rm (r / 32) 10) rfl ?_
            refine k_iast C (6 + 233 * ((x_s1 r).toNatClampNeg) + 1) hk.2.2.2.1 (sk_nadd rfl (rfl : ((1) : Int32) = nI 1)) (by omega) dX8_turn_261 ?_
            exact ret _ _ _ dX8_turn_262 (by rw [mt_r, if_neg (show ¬ sk_rm r 8 < 3 from Int32.not_lt.mpr c24_1), if_neg (show ¬ sk_rm r 8 = 3 from c72_2), if_neg (show ¬ sk_rm r 8 < 6 from Int32.not_lt.mpr c127_3), if_neg (show ¬ sk_rm r 8 = 6 from c187_4), if_pos nc241_6]; exact sk_msr2)
        ·
          refine k_aloadn C 0 dX8_turn_190 rfl ?_
          refine k_getr C (j := 4) (k' := k + 3) kcl_X8 fl_X8_16 hk.1 (by decide) rfl dX8_turn_191 ?_
          refine k_iloadn C 2 dX8_turn_194 rfl ?_
          refine k_iloadn C 3 dX8_turn_195 rfl ?_
          refine k_si C (as := [.ref (sk_ad O (k + 3)), .int (x_s1 r), .int (x_e1 r)]) yvX8_isElement vsX8_isElement ml_X8_76 (m_X8_isElement l C.2.2.2.1 M (a := k + 3) (ha := hk.2.2.2.1) (s := x_s1 r) (e := x_e1 r) (hw := hw)) rfl rfl (Nat.le_of_ble_eq_true rfl) (by decide) dX8_turn_196 (fun x196_8 M196_8 h196_8 => ?_)
          rw [h196_8.1, h196_8.2]
          refine k_zeq C 262 dX8_turn_199 (by decide) (fun c199_9 => ?_) (fun c199_9 => ?_)
          ·
            have nc199_9 : ¬ (mo_he (M (k + 3)) (x_s1 r) (x_e1 r)) := sk_b1.mp c199_9
            exact ret _ _ _ dX8_turn_262 (by rw [mt_r, if_neg (show ¬ sk_rm r 8 < 3 from Int32.not_lt.mpr c24_1), if_neg (show ¬ sk_rm r 8 = 3 from c72_2), if_neg (show ¬ sk_rm r 8 < 6 from Int32.not_lt.mpr c127_3), if_pos (show sk_rm r 8 = 6 from c187_4), if_neg nc199_9]; exact sk_mri)
          ·
            have nc199_9 : mo_he (M (k + 3)) (x_s1 r) (x_e1 r) := Classical.byContradiction (fun h => c199_9 (sk_b1.mpr h))
            obtain ⟨ix, ib⟩ := sk_ix nc199_9.1 hm (by omega)
            obtain ⟨N, hN12, hN, hNp⟩ := id (hmj _ ib)
            obtain ⟨ex, eb⟩ := sk_ix nc199_9.2 hN (by omega)
            refine k_aloadn C 0 dX8_turn_202 rfl ?_
            refine k_getr C (j := 4) (k' := k + 3) kcl_X8 fl_X8_16 hk.1 (by decide) rfl dX8_turn_203 ?_
            refine k_iloadn C 2 dX8_turn_206 rfl ?_
            refine k_iloadn C 3 dX8_turn_207 rfl ?_
            refine k_si C (as := [.int (x_s1 r), .int (x_e1 r)]) yvX8_elementAt vsX8_elementAt ml_X8_60 (m_X8_elementAt l C.2.2.2.1 M (s := (x_s1 r).toNatClampNeg) (xs := x_s1 r) (hxs := ix) (e := (x_e1 r).toNatClampNeg) (xe := x_e1 r) (hxe := ex)) rfl rfl (Nat.le_of_ble_eq_true rfl) (by decide) dX8_turn_208 (fun x208_10 M208_10 h208_10 => ?_)
            rw [h208_10.1, h208_10.2]
            refine k_bipush C (16) dX8_turn_211 (by decide) ?_
            refine k_iadd C dX8_turn_213 ?_
            refine k_iloadn C 1 dX8_turn_214 rfl ?_
            refine k_sipush C (512) dX8_turn_215 (by decide) ?_
            refine k_idiv C dX8_turn_218 (by decide) ?_
            refine k_iconst C (2) dX8_turn_219 (by decide) ?_
            refine k_irem C dX8_turn_220 (by decide) ?_
            refine k_top (sk_rm (r / 512) 2) rfl ?_
            have J229 : sk_W l X O A Q 5 0 0 M 229 [(0, .ref (sk_ad O k)), (1, .int r), (2, .int (x_s1 r)), (3, .int (x_e1 r)), (4, .int (sk_rm r 8))] [.int (if sk_rm (r / 512) 2 = 0 then 1 else 0), .int ((nI (23 + 233 * ((x_s1 r).toNatClampNeg) + 18 * ((x_e1 r).toNatClampNeg))) + (16)), .ref (sk_ad O (k + 3))] := by
              refine k_iast C (23 + 233 * ((x_s1 r).toNatClampNeg) + 18 * ((x_e1 r).toNatClampNeg) + 16) hk.2.2.2.1 (sk_nadd rfl (rfl : ((16) : Int32) = nI 16)) (by omega) dX8_turn_229 ?_
              refine k_goto C 262 dX8_turn_230 (by decide) ?_
              exact ret _ _ _ dX8_turn_262 (by rw [mt_r, if_neg (show ¬ sk_rm r 8 < 3 from Int32.not_lt.mpr c24_1), if_neg (show ¬ sk_rm r 8 = 3 from c72_2), if_neg (show ¬ sk_rm r 8 < 6 from Int32.not_lt.mpr c127_3), if_pos (show sk_rm r 8 = 6 from c187_4), if_pos nc199_9]; exact sk_msr2)
            refine k_zne C 228 dX8_turn_221 (by decide) (fun c221_11 => ?_) (fun c221_11 => ?_)
            ·
              refine k_iconst C (0) dX8_turn_228 (by decide) ?_
              exact k_eq rfl rfl rfl (by rw [if_neg c221_11]) J229
            ·
              refine k_iconst C (1) dX8_turn_224 (by decide) ?_
              refine k_goto C 229 dX8_turn_225 (by decide) ?_
              exact k_eq rfl rfl rfl (by rw [if_pos c221_11]) J229
      ·
        refine k_aloadn C 0 dX8_turn_130 rfl ?_
        refine k_getr C (j := 4) (k' := k + 3) kcl_X8 fl_X8_16 hk.1 (by decide) rfl dX8_turn_131 ?_
        refine k_iloadn C 2 dX8_turn_134 rfl ?_
        refine k_iloadn C 3 dX8_turn_135 rfl ?_
        refine k_iloadn C 1 dX8_turn_136 rfl ?_
        refine k_sipush C (512) dX8_turn_137 (by decide) ?_
        refine k_idiv C dX8_turn_140 (by decide) ?_
        refine k_iconst C (3) dX8_turn_141 (by decide) ?_
        refine k_irem C dX8_turn_142 (by decide) ?_
        refine k_top (sk_rm (r / 512) 3) rfl ?_
        refine k_iloadn C 1 dX8_turn_143 rfl ?_
        refine k_sipush C (2048) dX8_turn_144 (by decide) ?_
        refine k_idiv C dX8_turn_147 (by decide) ?_
        refine k_iconst C (4) dX8_turn_148 (by decide) ?_
        refine k_irem C dX8_turn_149 (by decide) ?_
        refine k_top (sk_rm (r / 2048) 4) rfl ?_
        refine k_si C (as := [.ref (sk_ad O (k + 3)), .int (x_s1 r), .int (x_e1 r), .int (sk_rm (r / 512) 3), .int (sk_rm (r / 2048) 4)]) yvX8_whyNotCall vsX8_whyNotCall ml_X8_240 (m_X8_whyNotCall l C.2.2.2.1 M (a := k + 3) (ha := hk.2.2.2.1) (s := x_s1 r) (e := x_e1 r) (p := sk_rm (r / 512) 3) (v := sk_rm (r / 2048) 4) (hw := hw)) rfl rfl (Nat.le_of_ble_eq_true rfl) (by decide) dX8_turn_150 (fun x150_12 M150_12 h150_12 => ?_)
        rw [h150_12.1, h150_12.2]
        refine k_zne C 262 dX8_turn_153 (by decide) (fun c153_13 => ?_) (fun c153_13 => ?_)
        ·
          exact ret _ _ _ dX8_turn_262 (by rw [mt_r, if_neg (show ¬ sk_rm r 8 < 3 from Int32.not_lt.mpr c24_1), if_neg (show ¬ sk_rm r 8 = 3 from c72_2), if_pos (show sk_rm r 8 < 6 from Int32.not_le.mp c127_3), if_neg (fun h => c153_13 (congrArg nI h))]; exact sk_mri)
        ·
          have he0 : mo_wc (M (k + 3)) (x_s1 r) (x_e1 r) (sk_rm (r / 512) 3) (sk_rm (r / 2048) 4) = 0 := mo_e1 c153_13 (er3_le2 _ _ _)
          have hcc := x_ck00 he0
          obtain ⟨ix, ib⟩ := sk_ix hcc.1.1 hm (by omega)
          obtain ⟨N, hN12, hN, hNp⟩ := id (hmj _ ib)
          obtain ⟨ex, eb⟩ := sk_ix hcc.1.2 hN (by omega)
          obtain ⟨np, hnp, hpp⟩ := hNp _ eb
          obtain ⟨px, pb⟩ := sk_ix hcc.2 hpp (by omega)
          refine k_aloadn C 0 dX8_turn_156 rfl ?_
          refine k_getr C (j := 4) (k' := k + 3) kcl_X8 fl_X8_16 hk.1 (by decide) rfl dX8_turn_157 ?_
          refine k_iloadn C 2 dX8_turn_160 rfl ?_
          refine k_iloadn C 3 dX8_turn_161 rfl ?_
          refine k_iloadn C 1 dX8_turn_162 rfl ?_
          refine k_sipush C (512) dX8_turn_163 (by decide) ?_
          refine k_idiv C dX8_turn_166 (by decide) ?_
          refine k_iconst C (3) dX8_turn_167 (by decide) ?_
          refine k_irem C dX8_turn_168 (by decide) ?_
          refine k_top (sk_rm (r / 512) 3) rfl ?_
          refine k_iloadn C 1 dX8_turn_169 rfl ?_
          refine k_sipush C (2048) dX8_turn_170 (by decide) ?_
          refine k_idiv C dX8_turn_173 (by decide) ?_
          refine k_iconst C (4) dX8_turn_174 (by decide) ?_
          refine k_irem C dX8_turn_175 (by decide) ?_
          refine k_top (sk_rm (r / 2048) 4) rfl ?_
          refine k_si C (as := [.ref (sk_ad O (k + 3)), .int (x_s1 r), .int (x_e1 r), .int (sk_rm (r / 512) 3), .int (sk_rm (r / 2048) 4)]) yvX8_callOn vsX8_callOn ml_X8_244 (m_X8_callOn l C.2.2.2.1 M (a := k + 3) (ha := hk.2.2.2.1) (s := (x_s1 r).toNatClampNeg) (xs := x_s1 r) (hxs := ix) (e := (x_e1 r).toNatClampNeg) (xe := x_e1 r) (hxe := ex) (p := (sk_rm (r / 512) 3).toNatClampNeg) (xp := sk_rm (r / 512) 3) (hxp := px) (v := sk_rm (r / 2048) 4) (hs := (by omega)) (he := (by omega)) (hp := (by omega))) rfl rfl (Nat.le_of_ble_eq_true rfl) (by decide) dX8_turn_176 (fun x176_14 M176_14 h176_14 => ?_)
          rw [h176_14.1, h176_14.2]
          refine k_pop C dX8_turn_179 rfl ?_
          refine k_goto C 262 dX8_turn_180 (by decide) ?_
          exact ret _ _ _ dX8_turn_262 (by rw [mt_r, if_neg (show ¬ sk_rm r 8 < 3 from Int32.not_lt.mpr c24_1), if_neg (show ¬ sk_rm r 8 = 3 from c72_2), if_pos (show sk_rm r 8 < 6 from Int32.not_le.mp c127_3), if_pos he0]; exact sk_msr2)
    ·
      refine k_aloadn C 0 dX8_turn_75 rfl ?_
      refine k_getr C (j := 4) (k' := k + 3) kcl_X8 fl_X8_16 hk.1 (by decide) rfl dX8_turn_76 ?_
      refine k_iloadn C 2 dX8_turn_79 rfl ?_
      refine k_si C (as := [.ref (sk_ad O (k + 3)), .int (x_s1 r)]) yvX8_isSkater vsX8_isSkater ml_X8_68 (m_X8_isSkater l C.2.2.2.1 M (a := k + 3) (ha := hk.2.2.2.1) (s := x_s1 r) (hw := hw)) rfl rfl (Nat.le_of_ble_eq_true rfl) (by decide) dX8_turn_80 (fun x80_15 M80_15 h80_15 => ?_)
      rw [h80_15.1, h80_15.2]
      refine k_zeq C 262 dX8_turn_83 (by decide) (fun c83_16 => ?_) (fun c83_16 => ?_)
      ·
        have nc83_16 : ¬ (mo_hs (M (k + 3)) (x_s1 r)) := sk_b1.mp c83_16
        exact ret _ _ _ dX8_turn_262 (by rw [mt_r, if_neg (show ¬ sk_rm r 8 < 3 from Int32.not_lt.mpr c24_1), if_pos (show sk_rm r 8 = 3 from c72_2), if_neg nc83_16]; exact sk_mri)
      ·
        have nc83_16 : mo_hs (M (k + 3)) (x_s1 r) := Classical.byContradiction (fun h => c83_16 (sk_b1.mpr h))
        obtain ⟨ix, ib⟩ := sk_ix nc83_16 hm (by omega)
        refine k_aloadn C 0 dX8_turn_86 rfl ?_
        refine k_getr C (j := 4) (k' := k + 3) kcl_X8 fl_X8_16 hk.1 (by decide) rfl dX8_turn_87 ?_
        refine k_iloadn C 2 dX8_turn_90 rfl ?_
        refine k_si C (as := [.int (x_s1 r)]) yvX8_skaterAt vsX8_skaterAt ml_X8_72 (m_X8_skaterAt l C.2.2.2.1 M (s := (x_s1 r).toNatClampNeg) (xs := x_s1 r) (hxs := ix)) rfl rfl (Nat.le_of_ble_eq_true rfl) (by decide) dX8_turn_91 (fun x91_17 M91_17 h91_17 => ?_)
        rw [h91_17.1, h91_17.2]
        refine k_iconst C (2) dX8_turn_94 (by decide) ?_
        refine k_iadd C dX8_turn_95 ?_
        refine k_iconst C (5) dX8_turn_96 (by decide) ?_
        refine k_iloadn C 1 dX8_turn_97 rfl ?_
        refine k_bipush C (32) dX8_turn_98 (by decide) ?_
        refine k_idiv C dX8_turn_100 (by decide) ?_
        refine k_iconst C (3) dX8_turn_101 (by decide) ?_
        refine k_irem C dX8_turn_102 (by decide) ?_
        refine k_top (sk_rm (r / 32) 3) rfl ?_
        refine k_imul C dX8_turn_103 ?_
        refine k_iadd C dX8_turn_104 ?_
        refine k_iloadn C 1 dX8_turn_105 rfl ?_
        refine k_sipush C (128) dX8_turn_106 (by decide) ?_
        refine k_idiv C dX8_turn_109 (by decide) ?_
        refine k_ldcw C kc_X8_268 dX8_turn_110 ?_
        refine k_irem C dX8_turn_113 (by decide) ?_
        refine k_top (sk_rm (r / 128) 115856201) rfl ?_
        refine k_bipush C (41) dX8_turn_114 (by decide) ?_
        refine k_iconst C (0) dX8_turn_116 (by decide) ?_
        refine k_sv C (as := [.ref (sk_ad O (k + 3)), .int (((nI (6 + 233 * ((x_s1 r).toNatClampNeg))) + (2)) + ((5) * (sk_rm (r / 32) 3))), .int (sk_rm (r / 128) 115856201), .int (41), .int (0)]) yvX8_layMarks vsX8_layMarks ml_X8_230 (m_X8_layMarks l C.2.2.2.1 M (a := k + 3) (ha := hk.2.2.2.1) (q := 6 + 233 * ((x_s1 r).toNatClampNeg) + 2 + 5 * ((sk_rm (r / 32) 3).toNatClampNeg)) (xq := ((nI (6 + 233 * ((x_s1 r).toNatClampNeg))) + (2)) + ((5) * (sk_rm (r / 32) 3))) (hxq := (sk_nadd (sk_nadd rfl (rfl : ((2) : Int32) = nI 2)) (sk_nmul (rfl : ((5) : Int32) = nI 5) jx))) (v := sk_rm (r / 128) 115856201) (b := (41)) (d := (0)) (hq := (by omega)) (hb := (by decide))) rfl rfl (Nat.le_of_ble_eq_true rfl) (by decide) dX8_turn_117 (fun M117_18 h117_18 => ?_)
        rw [h117_18]
        refine k_goto C 262 dX8_turn_120 (by decide) ?_
        exact ret _ _ _ dX8_turn_262 (by rw [mt_r, if_neg (show ¬ sk_rm r 8 < 3 from Int32.not_lt.mpr c24_1), if_pos (show sk_rm r 8 = 3 from c72_2), if_pos nc83_16]; exact my_m_r)
  ·
    refine k_aloadn C 0 dX8_turn_27 rfl ?_
    refine k_getr C (j := 4) (k' := k + 3) kcl_X8 fl_X8_16 hk.1 (by decide) rfl dX8_turn_28 ?_
    refine k_iloadn C 2 dX8_turn_31 rfl ?_
    refine k_iloadn C 3 dX8_turn_32 rfl ?_
    refine k_si C (as := [.ref (sk_ad O (k + 3)), .int (x_s1 r), .int (x_e1 r)]) yvX8_isElement vsX8_isElement ml_X8_76 (m_X8_isElement l C.2.2.2.1 M (a := k + 3) (ha := hk.2.2.2.1) (s := x_s1 r) (e := x_e1 r) (hw := hw)) rfl rfl (Nat.le_of_ble_eq_true rfl) (by decide) dX8_turn_33 (fun x33_19 M33_19 h33_19 => ?_)
    rw [h33_19.1, h33_19.2]
    refine k_zeq C 262 dX8_turn_36 (by decide) (fun c36_20 => ?_) (fun c36_20 => ?_)
    ·
      have nc36_20 : ¬ (mo_he (M (k + 3)) (x_s1 r) (x_e1 r)) := sk_b1.mp c36_20
      exact ret _ _ _ dX8_turn_262 (by rw [mt_r, if_pos (show sk_rm r 8 < 3 from Int32.not_le.mp c24_1), if_neg nc36_20]; exact sk_mri)
    ·
      have nc36_20 : mo_he (M (k + 3)) (x_s1 r) (x_e1 r) := Classical.byContradiction (fun h => c36_20 (sk_b1.mpr h))
      obtain ⟨ix, ib⟩ := sk_ix nc36_20.1 hm (by omega)
      obtain ⟨N, hN12, hN, hNp⟩ := id (hmj _ ib)
      obtain ⟨ex, eb⟩ := sk_ix nc36_20.2 hN (by omega)
      refine k_aloadn C 0 dX8_turn_39 rfl ?_
      refine k_getr C (j := 4) (k' := k + 3) kcl_X8 fl_X8_16 hk.1 (by decide) rfl dX8_turn_40 ?_
      refine k_iloadn C 2 dX8_turn_43 rfl ?_
      refine k_iloadn C 3 dX8_turn_44 rfl ?_
      refine k_si C (as := [.int (x_s1 r), .int (x_e1 r)]) yvX8_elementAt vsX8_elementAt ml_X8_60 (m_X8_elementAt l C.2.2.2.1 M (s := (x_s1 r).toNatClampNeg) (xs := x_s1 r) (hxs := ix) (e := (x_e1 r).toNatClampNeg) (xe := x_e1 r) (hxe := ex)) rfl rfl (Nat.le_of_ble_eq_true rfl) (by decide) dX8_turn_45 (fun x45_21 M45_21 h45_21 => ?_)
      rw [h45_21.1, h45_21.2]
      refine k_bipush C (11) dX8_turn_48 (by decide) ?_
      refine k_iadd C dX8_turn_50 ?_
      refine k_iloadn C 1 dX8_turn_51 rfl ?_
      refine k_sipush C (512) dX8_turn_52 (by decide) ?_
      refine k_idiv C dX8_turn_55 (by decide) ?_
      refine k_ldcw C kc_X8_267 dX8_turn_56 ?_
      refine k_irem C dX8_turn_59 (by decide) ?_
      refine k_top (sk_rm (r / 512) 161051) rfl ?_
      refine k_bipush C (11) dX8_turn_60 (by decide) ?_
      refine k_iconst C (5) dX8_turn_62 (by decide) ?_
      refine k_sv C (as := [.ref (sk_ad O (k + 3)), .int ((nI (23 + 233 * ((x_s1 r).toNatClampNeg) + 18 * ((x_e1 r).toNatClampNeg))) + (11)), .int (sk_rm (r / 512) 161051), .int (11), .int (5)]) yvX8_layMarks vsX8_layMarks ml_X8_230 (m_X8_layMarks l C.2.2.2.1 M (a := k + 3) (ha := hk.2.2.2.1) (q := 23 + 233 * ((x_s1 r).toNatClampNeg) + 18 * ((x_e1 r).toNatClampNeg) + 11) (xq := (nI (23 + 233 * ((x_s1 r).toNatClampNeg) + 18 * ((x_e1 r).toNatClampNeg))) + (11)) (hxq := (sk_nadd rfl (rfl : ((11) : Int32) = nI 11))) (v := sk_rm (r / 512) 161051) (b := (11)) (d := (5)) (hq := (by omega)) (hb := (by decide))) rfl rfl (Nat.le_of_ble_eq_true rfl) (by decide) dX8_turn_63 (fun M63_22 h63_22 => ?_)
      rw [h63_22]
      refine k_goto C 262 dX8_turn_66 (by decide) ?_
      exact ret _ _ _ dX8_turn_262 (by rw [mt_r, if_pos (show sk_rm r 8 < 3 from Int32.not_le.mp c24_1), if_pos nc36_20]; exact my_m_r)

set_option maxHeartbeats 4000000 in
set_option maxRecDepth 100000 in
theorem m_X8_simulate (l : Launch) {O : sk_O} (hO : sk_inj O) (M : sk_M) (k : Nat) (hk : sk_isM O k) (x : Int64) (v : Int32) (m : Nat) (hm4 : m ≤ 4) (hm : M (k + 2) 0 = nI m) (hmj : ∀ s, s < m → mo_wp (M (k + 2)) s) : sk_Mi l yX8_simulate (sk_w yX8_simulate cX8_simulate 8 (some .int)) ({ frames := 10, cells := 0, slots := 0, locals := 245 }) O [.ref (sk_ad O k), .long x, .int v] M (mo_z M k (er_1 (¬ v < 1 ∧ ¬ 60 < v)) (sk_sum (mo_T (mt_s (mu_c (M (k + 2)) (M (k + 3))) x v.toNatClampNeg)) m)) := by
  refine sk_mi (by decide) ⟨rfl, rfl⟩ hO (Nat.le_of_ble_eq_true rfl) (fun X A Q C ret => ?_)
  show sk_W l X O A Q 8 0 0 M 0 [(0, .ref (sk_ad O k)), (1, .long x), (3, .int v)] []
  have hTw := fun i => mo_wm.s (x := x) (mo_wm.w (t := M (k + 3)) (show mo_wm (M (k + 2)) m from ⟨hm, hmj⟩) hm4) hm4 i
  refine k_aloadn C 0 dX8_simulate_0 rfl ?_
  refine k_iloadn C 2 dX8_simulate_1 rfl ?_
  refine k_i2l C dX8_simulate_2 ?_
  refine k_lconst C (1) dX8_simulate_3 (by decide) ?_
  refine k_ldcl C kc_X8_269 dX8_simulate_4 ?_
  refine k_si C (as := [.long v.toInt64, .long (1), .long (60)]) yvX8_in vsX8_in ml_X8_64 (m_X8_in l C.2.2.2.1 M (v := v.toInt64) (p := (1)) (q := (60))) rfl rfl (Nat.le_of_ble_eq_true rfl) (by decide) dX8_simulate_7 (fun x7_1 M7_1 h7_1 => ?_)
  rw [h7_1.1, h7_1.2]
  refine k_zeq C 17 dX8_simulate_10 (by decide) (fun c10_2 => ?_) (fun c10_2 => ?_)
  ·
    have nc10_2 : ¬ (¬ v.toInt64 < (1) ∧ ¬ (60) < v.toInt64) := sk_b1.mp c10_2
    refine k_iconst C (1) dX8_simulate_17 (by decide) ?_
    refine k_vi C (as := [.int (1)]) yvX8_refused viX8_refused ml_X8_164 (m_X8_refused l C.2.2.2.1 M (k := k) (x := (1)) (hk := hk)) hk.1 rfl rfl rfl (Nat.le_of_ble_eq_true rfl) (by decide) dX8_simulate_18 (fun x18_3 M18_3 h18_3 => ?_)
    rw [h18_3.1, h18_3.2]
    refine k_top (1) (by decide) ?_
    refine k_zeq C 26 dX8_simulate_21 (by decide) (fun c21_4 => ?_) (fun c21_4 => ?_)
    ·
      exact absurd c21_4 (by decide)
    ·
      refine k_iconst C (0) dX8_simulate_24 (by decide) ?_
      exact ret _ _ _ _ dX8_simulate_25 rfl (by exact mo_z1 (i := 1) (er1n (fun h => nc10_2 ((in_k v 1 60 rfl rfl).mpr h))) (by decide))
  ·
    have nc10_2 : ¬ v.toInt64 < (1) ∧ ¬ (60) < v.toInt64 := Classical.byContradiction (fun h => c10_2 (sk_b1.mpr h))
    obtain ⟨v1, v2⟩ := ((in_k v 1 60 rfl rfl).mp nc10_2)
    obtain ⟨vx, vb⟩ := sk_ix (x := v) (y := 61) (m := 61) ⟨fun h => v1 (Int32.lt_of_lt_of_le h (by decide)), fun h => v2 (Int32.lt_of_lt_of_le (by decide) h)⟩ rfl (by omega)
    refine k_iconst C (0) dX8_simulate_13 (by decide) ?_
    refine k_goto C 18 dX8_simulate_14 (by decide) ?_
    refine k_vi C (as := [.int (0)]) yvX8_refused viX8_refused ml_X8_164 (m_X8_refused l C.2.2.2.1 M (k := k) (x := (0)) (hk := hk)) hk.1 rfl rfl rfl (Nat.le_of_ble_eq_true rfl) (by decide) dX8_simulate_18 (fun x18_5 M18_5 h18_5 => ?_)
    rw [h18_5.1, h18_5.2]
    refine k_top (0) (by decide) ?_
    refine k_zeq C 26 dX8_simulate_21 (by decide) (fun c21_6 => ?_) (fun c21_6 => ?_)
    ·
      refine k_aloadn C 0 dX8_simulate_26 rfl ?_
      refine k_getr C (j := 3) (k' := k + 2) kcl_X8 fl_X8_13 hk.1 (by decide) rfl dX8_simulate_27 ?_
      refine k_iconst C (0) dX8_simulate_30 (by decide) ?_
      refine k_aloadn C 0 dX8_simulate_31 rfl ?_
      refine k_getr C (j := 4) (k' := k + 3) kcl_X8 fl_X8_16 hk.1 (by decide) rfl dX8_simulate_32 ?_
      refine k_iconst C (0) dX8_simulate_35 (by decide) ?_
      refine k_sv C (as := [.ref (sk_ad O (k + 2)), .int (0), .ref (sk_ad O (k + 3)), .int (0)]) yvX8_copyState vsX8_copyState ml_X8_221 (m_X8_copyState l C.2.2.2.1 (sk_ms M k 0 (0)) (a := k + 2) (b := k + 3) (za := 938) (zb := 938) (ha := hk.2.2.1) (hb := hk.2.2.2.1) (p := 0) (xp := (0)) (hxp := (rfl : ((0) : Int32) = nI 0)) (q := 0) (xq := (0)) (hxq := (rfl : ((0) : Int32) = nI 0)) (hza := (by omega)) (hzb := (by omega)) (hz2 := (by omega)) (hz3 := (by omega)) (hab := (by omega))) rfl rfl (Nat.le_of_ble_eq_true rfl) (by decide) dX8_simulate_36 (fun M36_7 h36_7 => ?_)
      rw [h36_7]
      refine k_lloadn C 1 dX8_simulate_39 rfl ?_
      refine k_lstore C [1, 2, 3, 0] [(0, .ref (sk_ad O k)), (1, .long x), (3, .int v), (4, .long x)] dX8_simulate_40 (by decide) rfl ?_
      refine k_iconst C (0) dX8_simulate_42 (by decide) ?_
      refine k_istore C [1, 2, 3, 4, 0] [(0, .ref (sk_ad O k)), (1, .long x), (3, .int v), (4, .long x), (6, .int (0))] dX8_simulate_43 (by decide) rfl ?_
      have L45 : ∀ i, i ≤ v.toNatClampNeg → sk_W l X O A Q 8 0 0 (sk_mr (sk_ms M k 0 (0)) (k + 3) (mt_s (mu_c (M (k + 2)) (M (k + 3))) x i)) 45 [(0, .ref (sk_ad O k)), (1, .long x), (3, .int v), (4, .long (si_x x i)), (6, .int (nI i))] [] := by
        refine sk_loop v.toNatClampNeg (fun i hi45 ih45 => ?_)
        refine k_iload C 4 dX8_simulate_45 rfl ?_
        refine k_iloadn C 2 dX8_simulate_47 rfl ?_
        refine k_cge C 79 dX8_simulate_48 (by decide) (fun c48_8 => ?_) (fun c48_8 => ?_)
        ·
          have nc48_8 : v.toNatClampNeg ≤ i := (sk_eI (a := v.toNatClampNeg) (b := i) vx rfl (by omega) (by omega)).mp c48_8
          obtain rfl : v.toNatClampNeg = i := (by omega)
          refine k_iconst C (0) dX8_simulate_79 (by decide) ?_
          refine k_istore C [1, 2, 3, 4, 0] [(0, .ref (sk_ad O k)), (1, .long x), (3, .int v), (4, .long (si_x x v.toNatClampNeg)), (6, .int (0))] dX8_simulate_80 (by decide) rfl ?_
          refine k_iconst C (0) dX8_simulate_82 (by decide) ?_
          refine k_istore C [1, 2, 3, 4, 5, 0] [(0, .ref (sk_ad O k)), (1, .long x), (3, .int v), (4, .long (si_x x v.toNatClampNeg)), (6, .int (0)), (7, .int (0))] dX8_simulate_83 (by decide) rfl ?_
          have L85 : ∀ j, j ≤ m → sk_W l X O A Q 8 0 0 (mq_l (sk_mr (sk_ms M k 0 (0)) (k + 3) (mt_s (mu_c (M (k + 2)) (M (k + 3))) x v.toNatClampNeg)) k (mt_s (mu_c (M (k + 2)) (M (k + 3))) x v.toNatClampNeg) j) 85 [(0, .ref (sk_ad O k)), (1, .long x), (3, .int v), (4, .long (si_x x v.toNatClampNeg)), (6, .int (sk_sum (mo_T (mt_s (mu_c (M (k + 2)) (M (k + 3))) x v.toNatClampNeg)) j)), (7, .int (nI j))] [] := by
            refine sk_loop m (fun j hi85 ih85 => ?_)
            refine k_iload C 5 dX8_simulate_85 rfl ?_
            refine k_aloadn C 0 dX8_simulate_87 rfl ?_
            refine k_getr C (j := 4) (k' := k + 3) kcl_X8 fl_X8_16 hk.1 (by decide) rfl dX8_simulate_88 ?_
            refine k_iconst C (0) dX8_simulate_91 (by decide) ?_
            refine k_ialdn C 0 hk.2.2.2.1 (rfl : ((0) : Int32) = nI 0) (by omega) dX8_simulate_92 ?_
            refine k_top ((sk_mr (sk_ms M k 0 (0)) (k + 3) (mt_s (mu_c (M (k + 2)) (M (k + 3))) x v.toNatClampNeg)) (k + 3) 0) (by rw [mq_l_f (by omega) (by omega) _]) ?_
            refine k_cge C 117 dX8_simulate_93 (by decide) (fun c93_9 => ?_) (fun c93_9 => ?_)
            ·
              have nc93_9 : m ≤ j := (sk_eI (a := m) (b := j) (by rw [sk_mrr]; exact (hTw _).1) rfl (by omega) (by omega)).mp c93_9
              obtain rfl : m = j := (by omega)
              refine k_iload C 4 dX8_simulate_117 rfl ?_
              exact ret _ _ _ _ dX8_simulate_119 rfl (by exact mo_z0 (er1p ((in_k v 1 60 rfl rfl).mp nc10_2)) rfl (mo_g.mq (mo_g.mr mo_g.r) _))
            ·
              have nc93_9 : ¬ (m ≤ j) := fun h => c93_9 ((sk_eI (a := m) (b := j) (by rw [sk_mrr]; exact (hTw _).1) rfl (by omega) (by omega)).mpr h)
              obtain ⟨N, hN12, hN, hNp⟩ := id ((hTw v.toNatClampNeg).2 j (by omega))
              have hcN : mo_c (mt_s (mu_c (M (k + 2)) (M (k + 3))) x v.toNatClampNeg) j = N := (by show ((mt_s (mu_c (M (k + 2)) (M (k + 3))) x v.toNatClampNeg) _).toNatClampNeg = N; rw [hN, nI_clamp (by omega)])
              rw [← hcN] at hN12 hN hNp
              refine k_iload C 4 dX8_simulate_96 rfl ?_
              refine k_aloadn C 0 dX8_simulate_98 rfl ?_
              refine k_aloadn C 0 dX8_simulate_99 rfl ?_
              refine k_getr C (j := 4) (k' := k + 3) kcl_X8 fl_X8_16 hk.1 (by decide) rfl dX8_simulate_100 ?_
              refine k_iload C 5 dX8_simulate_103 rfl ?_
              refine k_vi C (as := [.ref (sk_ad O (k + 3)), .int (nI j)]) yvX8_reckon viX8_reckon ml_X8_146 (m_X8_reckon l C.2.2.2.1 (mq_l (sk_mr (sk_ms M k 0 (0)) (k + 3) (mt_s (mu_c (M (k + 2)) (M (k + 3))) x v.toNatClampNeg)) k (mt_s (mu_c (M (k + 2)) (M (k + 3))) x v.toNatClampNeg) j) (k := k) (hk := hk) (a := k + 3) (ha := hk.2.2.2.1) (s := j) (xs := nI j) (hxs := rfl) (N := mo_c (mt_s (mu_c (M (k + 2)) (M (k + 3))) x v.toNatClampNeg) j) (hs := (by omega)) (hN12 := hN12) (hN := (by rw [mq_l_f (by omega) (by omega) _, sk_mrr]; exact hN)) (hp := (by rw [mq_l_f (by omega) (by omega) _, sk_mrr]; exact hNp)) (hap := (by omega))) hk.1 rfl rfl rfl (Nat.le_of_ble_eq_true rfl) (by decide) dX8_simulate_105 (fun x105_10 M105_10 h105_10 => ?_)
              rw [h105_10.1, h105_10.2]
              refine k_top (mo_to ((sk_mr (sk_ms M k 0 (0)) (k + 3) (mt_s (mu_c (M (k + 2)) (M (k + 3))) x v.toNatClampNeg)) (k + 3)) j (mo_c (mt_s (mu_c (M (k + 2)) (M (k + 3))) x v.toNatClampNeg) j)) (by rw [mq_l_f (by omega) (by omega) _]) ?_
              refine k_top (mo_T (mt_s (mu_c (M (k + 2)) (M (k + 3))) x v.toNatClampNeg) j) (by rw [sk_mrr]) ?_
              refine k_iadd C dX8_simulate_108 ?_
              refine k_istore C [1, 2, 3, 4, 0, 5] [(0, .ref (sk_ad O k)), (1, .long x), (3, .int v), (4, .long (si_x x v.toNatClampNeg)), (6, .int ((sk_sum (mo_T (mt_s (mu_c (M (k + 2)) (M (k + 3))) x v.toNatClampNeg)) j) + (mo_T (mt_s (mu_c (M (k + 2)) (M (k + 3))) x v.toNatClampNeg) j))), (7, .int (nI j))] dX8_simulate_109 (by decide) rfl ?_
              refine k_iinc C 5 (nI (j + 1)) [1, 2, 3, 4, 5, 0] [(0, .ref (sk_ad O k)), (1, .long x), (3, .int v), (4, .long (si_x x v.toNatClampNeg)), (6, .int ((sk_sum (mo_T (mt_s (mu_c (M (k + 2)) (M (k + 3))) x v.toNatClampNeg)) j) + (mo_T (mt_s (mu_c (M (k + 2)) (M (k + 3))) x v.toNatClampNeg) j))), (7, .int (nI (j + 1)))] dX8_simulate_111 rfl (nI_add _ _) (by decide) rfl ?_
              refine k_goto C 85 dX8_simulate_114 (by decide) ?_
              exact ih85 (by omega)
          exact L85 0 (Nat.zero_le _)
        ·
          have nc48_8 : ¬ (v.toNatClampNeg ≤ i) := fun h => c48_8 ((sk_eI (a := v.toNatClampNeg) (b := i) vx rfl (by omega) (by omega)).mpr h)
          refine k_lload C 3 dX8_simulate_51 rfl ?_
          refine k_ldcl C kc_X8_271 dX8_simulate_53 ?_
          refine k_lmul C dX8_simulate_56 ?_
          refine k_ldcl C kc_X8_273 dX8_simulate_57 ?_
          refine k_ladd C dX8_simulate_60 ?_
          refine k_topl (si_x x (i + 1)) rfl ?_
          refine k_lstore C [1, 2, 3, 0, 4] [(0, .ref (sk_ad O k)), (1, .long x), (3, .int v), (4, .long (si_x x (i + 1))), (6, .int (nI i))] dX8_simulate_61 (by decide) rfl ?_
          refine k_aloadn C 0 dX8_simulate_63 rfl ?_
          refine k_lload C 3 dX8_simulate_64 rfl ?_
          refine k_bipush C (33) dX8_simulate_66 (by decide) ?_
          refine k_lushr C dX8_simulate_68 ?_
          refine k_l2i C dX8_simulate_69 ?_
          refine k_top (si_r (si_x x (i + 1))) rfl ?_
          refine k_vv C (as := [.int (si_r (si_x x (i + 1)))]) yvX8_turn viX8_turn ml_X8_275 (m_X8_turn l C.2.2.2.1 (sk_mr (sk_ms M k 0 (0)) (k + 3) (mt_s (mu_c (M (k + 2)) (M (k + 3))) x i)) (k := k) (r := si_r (si_x x (i + 1))) (hk := hk) (hr := (si_r_n _)) (m := m) (hm4 := hm4) (hm := (by rw [sk_mrr]; exact (hTw i).1)) (hmj := (by rw [sk_mrr]; exact (hTw i).2))) hk.1 rfl rfl rfl (Nat.le_of_ble_eq_true rfl) (by decide) dX8_simulate_70 (fun M70_11 h70_11 => ?_)
          rw [h70_11]
          refine k_iinc C 4 (nI (i + 1)) [1, 2, 3, 4, 0] [(0, .ref (sk_ad O k)), (1, .long x), (3, .int v), (4, .long (si_x x (i + 1))), (6, .int (nI (i + 1)))] dX8_simulate_73 rfl (nI_add _ _) (by decide) rfl ?_
          refine k_goto C 45 dX8_simulate_76 (by decide) ?_
          refine k_eq (by rw [sk_mrr, sk_mr2]; rfl) rfl rfl rfl (ih45 (by omega))
      refine k_eq (by rw [mc_mr, sk_nf (by omega), sk_nf (by omega)]; rfl) rfl rfl rfl (L45 0 (Nat.zero_le _))
    ·
      exact absurd c21_6 (by decide)

