/-! The model: places, counts, reasons -/
theorem in_c {x y : Int32} {m : Nat} (hy : y = nI m) (hm : m < 2 ^ 31) : (¬ x.toInt64 < (0 : Int64) ∧ ¬ (y - 1).toInt64 < x.toInt64) ↔ (¬ x < 0 ∧ ¬ y ≤ x) := by
  have h1 : (nI m).toInt = m := Int32.toInt_ofNat_of_lt hm
  have h2 : (y - 1).toInt = (m : Int) - 1 := by
    rw [hy, Int32.toInt_sub, h1]
    exact Int.bmod_eq_of_le (by simp; omega) (by simp; omega)
  rw [Int64.lt_iff_toInt_lt, Int64.lt_iff_toInt_lt, Int32.toInt_toInt64, Int32.toInt_toInt64, h2, Int32.lt_iff_toInt_lt, Int32.le_iff_toInt_le, hy, h1]
  show (¬ x.toInt < 0 ∧ ¬ (m : Int) - 1 < x.toInt) ↔ (¬ x.toInt < 0 ∧ ¬ (m : Int) ≤ x.toInt)
  omega
theorem in_k (x lo hi : Int32) {l2 h2 : Int64} (e1 : l2 = lo.toInt64) (e2 : h2 = hi.toInt64) : (¬ x.toInt64 < l2 ∧ ¬ h2 < x.toInt64) ↔ (¬ x < lo ∧ ¬ hi < x) := by
  rw [e1, e2, Int64.lt_iff_toInt_lt, Int64.lt_iff_toInt_lt, Int32.toInt_toInt64, Int32.toInt_toInt64, Int32.toInt_toInt64, Int32.lt_iff_toInt_lt, Int32.lt_iff_toInt_lt]
theorem in_y {P : Prop} [Decidable P] {a : Nat} {x y : Int32} (hx : x = nI a) (hy : y = 1) (h : P) : x + y = nI (a + if P then 1 else 0) := by rw [if_pos h, hx, hy]; exact nI_add _ 1
theorem in_n {P : Prop} [Decidable P] {a : Nat} {x y : Int32} (hx : x = nI a) (hy : y = 0) (h : ¬ P) : x + y = nI (a + if P then 1 else 0) := by rw [if_neg h, hx, hy]; exact nI_add _ 0
abbrev mo_hs (r : Nat → Int32) (s : Int32) : Prop := ¬ s < 0 ∧ ¬ r 0 ≤ s
abbrev mo_he (r : Nat → Int32) (s e : Int32) : Prop := mo_hs r s ∧ ¬ e < 0 ∧ ¬ r (6 + 233 * s.toNatClampNeg) ≤ e
abbrev mo_hp (r : Nat → Int32) (s e p : Int32) : Prop := mo_he r s e ∧ ¬ p < 0 ∧ ¬ r (23 + 233 * s.toNatClampNeg + 18 * e.toNatClampNeg + 1) ≤ p
def mo_pp (r : Nat → Int32) (s n : Nat) : Prop := ∀ e, e < n → ∃ p : Nat, p ≤ 3 ∧ r (23 + 233 * s + 18 * e + 1) = nI p
def mo_wp (r : Nat → Int32) (s : Nat) : Prop := ∃ N : Nat, N ≤ 12 ∧ r (6 + 233 * s) = nI N ∧ mo_pp r s N
def mo_wf (r : Nat → Int32) : Prop := ∃ m : Nat, m ≤ 4 ∧ r 0 = nI m ∧ ∀ s, s < m → mo_wp r s
abbrev mo_ty (r : Nat → Int32) (s e : Nat) : Int32 := r (23 + 233 * s + 18 * e)
abbrev mo_np (r : Nat → Int32) (s e : Nat) : Int32 := r (23 + 233 * s + 18 * e + 1)
abbrev mo_kd (r : Nat → Int32) (s e k : Nat) : Int32 := r (25 + 233 * s + 18 * e + 3 * k)
abbrev mo_tu (r : Nat → Int32) (s e k : Nat) : Int32 := r (25 + 233 * s + 18 * e + 3 * k + 1)
abbrev mo_ca (r : Nat → Int32) (s e k : Nat) : Int32 := r (25 + 233 * s + 18 * e + 3 * k + 2)
def mo_ct (r : Nat → Int32) (s : Nat) (ty : Int32) : Nat → Nat
  | 0 => 0
  | i + 1 => mo_ct r s ty i + if mo_ty r s i = ty then 1 else 0
theorem mo_ct_le (r : Nat → Int32) (s : Nat) (ty : Int32) (n : Nat) : mo_ct r s ty n ≤ n := by
  induction n with
  | zero => exact Nat.le_refl _
  | succ n ih => unfold mo_ct; split <;> omega
def mo_mo (r : Nat → Int32) (ty : Int32) : Int32 := if ty = 0 then r 3 else if ty = 1 then r 4 else 1
abbrev mo_tm (r : Nat → Int32) (s e : Nat) : Prop := ¬ nI (mo_ct r s (mo_ty r s e) (e + 1)) ≤ mo_mo r (mo_ty r s e)
abbrev mo_ch (r : Nat → Int32) (s e : Nat) : Prop := ¬ mo_np r s e ≤ 1
def mo_cc (r : Nat → Int32) (s : Nat) : Nat → Nat
  | 0 => 0
  | i + 1 => mo_cc r s i + if mo_ch r s i ∧ ¬ mo_tm r s i then 1 else 0
theorem mo_cc_le (r : Nat → Int32) (s n : Nat) : mo_cc r s n ≤ n := by
  induction n with
  | zero => exact Nat.le_refl _
  | succ n ih => unfold mo_cc; split <;> omega
abbrev mo_cm (r : Nat → Int32) (s e : Nat) : Prop := mo_ch r s e ∧ ¬ nI (mo_cc r s (e + 1)) ≤ r 2
abbrev mo_lg (r : Nat → Int32) (s e : Nat) : Prop := mo_np r s e = 3 ∧ ¬ mo_tm r s e ∧ ¬ mo_cm r s e
/-- how many of the first are long and count -/
def mo_wn (r : Nat → Int32) (s : Nat) : Nat → Nat
  | 0 => 0
  | i + 1 => mo_wn r s i + if mo_lg r s i then 1 else 0
theorem mo_wn_0 {r : Nat → Int32} {s : Nat} {n i : Nat} (hi : i < n) (h : mo_lg r s i) : ¬ mo_wn r s n = 0 := by
  induction n with
  | zero => omega
  | succ n ih =>
    show ¬ (mo_wn r s n + if mo_lg r s n then 1 else 0) = 0
    by_cases q : i = n
    · subst q; rw [if_pos h]; omega
    · have := ih (by omega); omega
def mo_bp (r : Nat → Int32) (s e k : Nat) : Int32 := if mo_tm r s e then 5 else if 0 < k ∧ mo_cm r s e then 3 else if k = 2 ∧ ¬ mo_wn r s e = 0 then 4 else 0
abbrev mo_al (r : Nat → Int32) (s e k i j : Nat) : Prop := mo_ty r s i = 0 ∧ mo_kd r s i j = mo_kd r s e k ∧ mo_tu r s i j = mo_tu r s e k ∧ mo_bp r s i j = 0
def mo_bs (r : Nat → Int32) (s e k i j : Nat) (z : Nat × Int32) : Nat × Int32 := if (i < e ∨ j < k) ∧ mo_al r s e k i j then (z.1 + 1, if ¬ z.2 = 0 ∧ mo_np r s i = 1 then 1 else 0) else z
def mo_bj (r : Nat → Int32) (s e k i : Nat) (z : Nat × Int32) : Nat → Nat × Int32
  | 0 => z
  | j + 1 => mo_bs r s e k i j (mo_bj r s e k i z j)
abbrev mo_n (r : Nat → Int32) (s e : Nat) : Nat := (mo_np r s e).toNatClampNeg
def mo_bo (r : Nat → Int32) (s e k : Nat) : Nat → Nat × Int32
  | 0 => (0, if mo_np r s e = 1 then 1 else 0)
  | i + 1 => mo_bj r s e k i (mo_bo r s e k i) (mo_n r s i)
def mo_br (r : Nat → Int32) (s e k : Nat) : Int32 := if ¬ mo_ty r s e = 0 ∨ mo_tu r s e k < 3 then 0 else if 1 < (mo_bo r s e k (e + 1)).1 then 2 else if (mo_bo r s e k (e + 1)).1 = 1 ∧ ¬ (mo_bo r s e k (e + 1)).2 = 0 then 1 else 0
theorem mo_bj_le (r : Nat → Int32) (s e k i : Nat) (z : Nat × Int32) (n : Nat) : (mo_bj r s e k i z n).1 ≤ z.1 + n := by
  induction n with
  | zero => exact Nat.le_refl _
  | succ n ih =>
    show (mo_bs r s e k i n (mo_bj r s e k i z n)).1 ≤ _
    unfold mo_bs
    split
    · show (mo_bj r s e k i z n).1 + 1 ≤ _; omega
    · omega
theorem mo_bo_le {r : Nat → Int32} {s e k n : Nat} (hp : mo_pp r s n) : ∀ i, i ≤ n → (mo_bo r s e k i).1 ≤ 3 * i
  | 0, _ => Nat.le_refl _
  | i + 1, hi => by
    have h1 := mo_bo_le (e := e) (k := k) hp i (by omega)
    have h2 := mo_bj_le r s e k i (mo_bo r s e k i) (mo_n r s i)
    obtain ⟨p, hp3, hpp⟩ := hp i (by omega)
    have h3 : mo_n r s i = p := by show (r _).toNatClampNeg = p; rw [hpp, nI_clamp (by omega)]
    show (mo_bj r s e k i (mo_bo r s e k i) (mo_n r s i)).1 ≤ _
    omega
theorem mo_bz {r : Nat → Int32} {s e k i j : Nat} {z : Nat × Int32} (h : (i < e ∨ j < k) ∧ mo_al r s e k i j) : mo_bs r s e k i j z = (z.1 + 1, if ¬ z.2 = 0 ∧ mo_np r s i = 1 then 1 else 0) := if_pos h
theorem mo_bw {r : Nat → Int32} {s e k i j : Nat} {z : Nat × Int32} (h : ¬ ((i < e ∨ j < k) ∧ mo_al r s e k i j)) : mo_bs r s e k i j z = z := if_neg h
def mo_k1 (k : Int32) : Int32 := if k = 0 ∨ k = 1 then 40 else if k = 2 ∨ k = 3 then 50 else if k = 4 then 60 else 110
def mo_k2 (k : Int32) : Int32 := if k = 0 ∨ k = 1 then 130 else if k = 2 then 170 else if k = 3 then 180 else if k = 4 then 210 else 330
def mo_k3 (k : Int32) : Int32 := if k = 0 then 420 else if k = 1 then 430 else if k = 2 then 490 else if k = 3 then 530 else if k = 4 then 590 else 800
def mo_k4 (k : Int32) : Int32 := if k = 0 then 950 else if k = 1 then 970 else if k = 2 then 1050 else if k = 3 then 1100 else if k = 4 then 1150 else 1250
def mo_ok (k t : Int32) : Int32 := if t = 1 then mo_k1 k else if t = 2 then mo_k2 k else if t = 3 then mo_k3 k else if t = 4 then mo_k4 k else 0
def mo_oj (k t c : Int32) : Int32 := if c = 2 then mo_ok k (t - 1) else if c = 0 then mo_ok k t else sc_pc (mo_ok k t) 80
def mo_ol (ty lv : Int32) : Int32 := if ty = 1 then (if lv = 0 then 120 else if lv = 1 then 150 else if lv = 2 then 190 else if lv = 3 then 240 else 300) else (if lv = 0 then 150 else if lv = 1 then 180 else if lv = 2 then 260 else if lv = 3 then 330 else 390)
def mo_gd (v : Int32) : Int32 := if v < 0 then -((15 - v) / 30) else (v + 15) / 30
/-- five marks from q on, without the greatest and the least: sums, greatest, least -/
def mo_k5 (r : Nat → Int32) (q : Nat) : Nat → Int32 × Int32 × Int32
  | 0 => (0, r q, r q)
  | k + 1 => ((mo_k5 r q k).1 + r (q + k), (if (mo_k5 r q k).2.1 < r (q + k) then r (q + k) else (mo_k5 r q k).2.1), (if r (q + k) < (mo_k5 r q k).2.2 then r (q + k) else (mo_k5 r q k).2.2))
def mo_ke (r : Nat → Int32) (q : Nat) : Int32 := (mo_k5 r q 5).1 - (mo_k5 r q 5).2.1 - (mo_k5 r q 5).2.2
def mo_oc (r : Nat → Int32) (s k : Nat) : Int32 := (50 * mo_ke r (6 + 233 * s + 2 + 5 * k) + 3) / 6
set_option maxHeartbeats 4000000 in
set_option maxRecDepth 100000 in
theorem m_X8_in (l : Launch) {O : sk_O} (hO : sk_inj O) (M : sk_M) (v p q : Int64) : sk_Mi l yX8_in (sk_w yX8_in cX8_in 6 (some .boolean)) ({ frames := 0, cells := 0, slots := 0, locals := 0 }) O [.long v, .long p, .long q] M (fun r M' => r = (if ¬ v < p ∧ ¬ q < v then 1 else 0) ∧ M' = M) := by
  refine sk_mi (by decide) ⟨rfl, rfl⟩ hO (Nat.le_of_ble_eq_true rfl) (fun X A Q C ret => ?_)
  show sk_W l X O A Q 6 0 0 M 0 [(0, .long v), (2, .long p), (4, .long q)] []
  refine k_lloadn C 0 dX8_in_0 rfl ?_
  refine k_lloadn C 1 dX8_in_1 rfl ?_
  refine k_lcmp C dX8_in_2 ?_
  refine k_zlt C 17 dX8_in_3 (by decide) (fun c3_1 => ?_) (fun c3_1 => ?_)
  ·
    refine k_iconst C (0) dX8_in_17 (by decide) ?_
    exact ret _ _ _ _ dX8_in_18 rfl (by exact ⟨(if_neg (fun h => h.1 ((lg_cmp_lt _ _).mp c3_1))).symm, rfl⟩)
  ·
    refine k_lloadn C 0 dX8_in_6 rfl ?_
    refine k_lload C 2 dX8_in_7 rfl ?_
    refine k_lcmp C dX8_in_9 ?_
    refine k_zgt C 17 dX8_in_10 (by decide) (fun c10_2 => ?_) (fun c10_2 => ?_)
    ·
      refine k_iconst C (0) dX8_in_17 (by decide) ?_
      exact ret _ _ _ _ dX8_in_18 rfl (by exact ⟨(if_neg (fun h => h.2 ((lg_cmp_gt _ _).mp c10_2))).symm, rfl⟩)
    ·
      refine k_iconst C (1) dX8_in_13 (by decide) ?_
      refine k_goto C 18 dX8_in_14 (by decide) ?_
      exact ret _ _ _ _ dX8_in_18 rfl (by exact ⟨(if_pos ⟨fun h => c3_1 ((lg_cmp_lt _ _).mpr h), fun h => c10_2 ((lg_cmp_gt _ _).mpr h)⟩).symm, rfl⟩)

set_option maxHeartbeats 4000000 in
set_option maxRecDepth 100000 in
theorem m_X8_skaterAt (l : Launch) {O : sk_O} (hO : sk_inj O) (M : sk_M) (s : Nat) (xs : Int32) (hxs : xs = nI s) : sk_Mi l yX8_skaterAt (sk_w yX8_skaterAt cX8_skaterAt 1 (some .int)) ({ frames := 0, cells := 0, slots := 0, locals := 0 }) O [.int xs] M (fun r M' => r = (nI (6 + 233 * s)) ∧ M' = M) := by
  refine sk_mi (by decide) ⟨rfl, rfl⟩ hO (Nat.le_of_ble_eq_true rfl) (fun X A Q C ret => ?_)
  show sk_W l X O A Q 1 0 0 M 0 [(0, .int xs)] []
  refine k_bipush C (6) dX8_skaterAt_0 (by decide) ?_
  refine k_sipush C (233) dX8_skaterAt_2 (by decide) ?_
  refine k_iloadn C 0 dX8_skaterAt_5 rfl ?_
  refine k_imul C dX8_skaterAt_6 ?_
  refine k_iadd C dX8_skaterAt_7 ?_
  exact ret _ _ _ _ dX8_skaterAt_8 rfl (by exact ⟨sk_nadd rfl (sk_nmul rfl hxs), rfl⟩)

set_option maxHeartbeats 4000000 in
set_option maxRecDepth 100000 in
theorem m_X8_elementAt (l : Launch) {O : sk_O} (hO : sk_inj O) (M : sk_M) (s : Nat) (xs : Int32) (hxs : xs = nI s) (e : Nat) (xe : Int32) (hxe : xe = nI e) : sk_Mi l yX8_elementAt (sk_w yX8_elementAt cX8_elementAt 2 (some .int)) ({ frames := 0, cells := 0, slots := 0, locals := 0 }) O [.int xs, .int xe] M (fun r M' => r = (nI (23 + 233 * s + 18 * e)) ∧ M' = M) := by
  refine sk_mi (by decide) ⟨rfl, rfl⟩ hO (Nat.le_of_ble_eq_true rfl) (fun X A Q C ret => ?_)
  show sk_W l X O A Q 2 0 0 M 0 [(0, .int xs), (1, .int xe)] []
  refine k_bipush C (6) dX8_elementAt_0 (by decide) ?_
  refine k_sipush C (233) dX8_elementAt_2 (by decide) ?_
  refine k_iloadn C 0 dX8_elementAt_5 rfl ?_
  refine k_imul C dX8_elementAt_6 ?_
  refine k_iadd C dX8_elementAt_7 ?_
  refine k_bipush C (17) dX8_elementAt_8 (by decide) ?_
  refine k_iadd C dX8_elementAt_10 ?_
  refine k_bipush C (18) dX8_elementAt_11 (by decide) ?_
  refine k_iloadn C 1 dX8_elementAt_13 rfl ?_
  refine k_imul C dX8_elementAt_14 ?_
  refine k_iadd C dX8_elementAt_15 ?_
  exact ret _ _ _ _ dX8_elementAt_16 rfl (by exact ⟨(sk_nadd (a := 6 + 233 * s + 17) (b := 18 * e) (sk_nadd (a := 6 + 233 * s) (b := 17) (sk_nadd (a := 6) (b := 233 * s) rfl (sk_nmul (a := 233) (b := s) rfl hxs)) rfl) (sk_nmul (a := 18) (b := e) rfl hxe)).trans (congrArg nI (by omega)), rfl⟩)

set_option maxHeartbeats 4000000 in
set_option maxRecDepth 100000 in
theorem m_X8_partAt (l : Launch) {O : sk_O} (hO : sk_inj O) (M : sk_M) (s : Nat) (xs : Int32) (hxs : xs = nI s) (e : Nat) (xe : Int32) (hxe : xe = nI e) (k : Nat) (xk : Int32) (hxk : xk = nI k) : sk_Mi l yX8_partAt (sk_w yX8_partAt cX8_partAt 3 (some .int)) ({ frames := 1, cells := 0, slots := 0, locals := 21 }) O [.int xs, .int xe, .int xk] M (fun r M' => r = (nI (25 + 233 * s + 18 * e + 3 * k)) ∧ M' = M) := by
  refine sk_mi (by decide) ⟨rfl, rfl⟩ hO (Nat.le_of_ble_eq_true rfl) (fun X A Q C ret => ?_)
  show sk_W l X O A Q 3 0 0 M 0 [(0, .int xs), (1, .int xe), (2, .int xk)] []
  refine k_iloadn C 0 dX8_partAt_0 rfl ?_
  refine k_iloadn C 1 dX8_partAt_1 rfl ?_
  refine k_si C (as := [.int xs, .int xe]) yvX8_elementAt vsX8_elementAt ml_X8_60 (m_X8_elementAt l C.2.2.2.1 M (s := s) (xs := xs) (hxs := hxs) (e := e) (xe := xe) (hxe := hxe)) rfl rfl (Nat.le_of_ble_eq_true rfl) (by decide) dX8_partAt_2 (fun x2_1 M2_1 h2_1 => ?_)
  rw [h2_1.1, h2_1.2]
  refine k_iconst C (2) dX8_partAt_5 (by decide) ?_
  refine k_iadd C dX8_partAt_6 ?_
  refine k_iconst C (3) dX8_partAt_7 (by decide) ?_
  refine k_iloadn C 2 dX8_partAt_8 rfl ?_
  refine k_imul C dX8_partAt_9 ?_
  refine k_iadd C dX8_partAt_10 ?_
  exact ret _ _ _ _ dX8_partAt_11 rfl (by exact ⟨(sk_nadd (a := 23 + 233 * s + 18 * e + 2) (b := 3 * k) (sk_nadd (a := 23 + 233 * s + 18 * e) (b := 2) rfl rfl) (sk_nmul (a := 3) (b := k) rfl hxk)).trans (congrArg nI (by omega)), rfl⟩)

set_option maxHeartbeats 4000000 in
set_option maxRecDepth 100000 in
theorem m_X8_isSkater (l : Launch) {O : sk_O} (hO : sk_inj O) (M : sk_M) (a : Nat) (ha : sk_is O a (0, 938, sk_no)) (s : Int32) (hw : mo_wf (M a)) : sk_Mi l yX8_isSkater (sk_w yX8_isSkater cX8_isSkater 2 (some .boolean)) ({ frames := 1, cells := 0, slots := 0, locals := 25 }) O [.ref (sk_ad O a), .int s] M (fun r M' => r = (if mo_hs (M a) s then 1 else 0) ∧ M' = M) := by
  refine sk_mi (by decide) ⟨rfl, rfl⟩ hO (Nat.le_of_ble_eq_true rfl) (fun X A Q C ret => ?_)
  show sk_W l X O A Q 2 0 0 M 0 [(0, .ref (sk_ad O a)), (1, .int s)] []
  obtain ⟨m, hm4, hm, hmj⟩ := id hw
  refine k_iloadn C 1 dX8_isSkater_0 rfl ?_
  refine k_i2l C dX8_isSkater_1 ?_
  refine k_lconst C (0) dX8_isSkater_2 (by decide) ?_
  refine k_aloadn C 0 dX8_isSkater_3 rfl ?_
  refine k_iconst C (0) dX8_isSkater_4 (by decide) ?_
  refine k_ialdn C 0 ha (rfl : ((0) : Int32) = nI 0) (by omega) dX8_isSkater_5 ?_
  refine k_iconst C (1) dX8_isSkater_6 (by decide) ?_
  refine k_isub C dX8_isSkater_7 ?_
  refine k_i2l C dX8_isSkater_8 ?_
  refine k_si C (as := [.long s.toInt64, .long (0), .long (((M a 0) - (1)).toInt64)]) yvX8_in vsX8_in ml_X8_64 (m_X8_in l C.2.2.2.1 M (v := s.toInt64) (p := (0)) (q := ((M a 0) - (1)).toInt64)) rfl rfl (Nat.le_of_ble_eq_true rfl) (by decide) dX8_isSkater_9 (fun x9_1 M9_1 h9_1 => ?_)
  rw [h9_1.1, h9_1.2]
  exact ret _ _ _ _ dX8_isSkater_12 (sk_nz _) (by exact ⟨sk_ic (in_c hm (by omega)), rfl⟩)

set_option maxHeartbeats 4000000 in
set_option maxRecDepth 100000 in
theorem m_X8_isElement (l : Launch) {O : sk_O} (hO : sk_inj O) (M : sk_M) (a : Nat) (ha : sk_is O a (0, 938, sk_no)) (s e : Int32) (hw : mo_wf (M a)) : sk_Mi l yX8_isElement (sk_w yX8_isElement cX8_isElement 3 (some .boolean)) ({ frames := 2, cells := 0, slots := 0, locals := 46 }) O [.ref (sk_ad O a), .int s, .int e] M (fun r M' => r = (if mo_he (M a) s e then 1 else 0) ∧ M' = M) := by
  refine sk_mi (by decide) ⟨rfl, rfl⟩ hO (Nat.le_of_ble_eq_true rfl) (fun X A Q C ret => ?_)
  show sk_W l X O A Q 3 0 0 M 0 [(0, .ref (sk_ad O a)), (1, .int s), (2, .int e)] []
  obtain ⟨m, hm4, hm, hmj⟩ := id hw
  refine k_aloadn C 0 dX8_isElement_0 rfl ?_
  refine k_iloadn C 1 dX8_isElement_1 rfl ?_
  refine k_si C (as := [.ref (sk_ad O a), .int s]) yvX8_isSkater vsX8_isSkater ml_X8_68 (m_X8_isSkater l C.2.2.2.1 M (a := a) (ha := ha) (s := s) (hw := hw)) rfl rfl (Nat.le_of_ble_eq_true rfl) (by decide) dX8_isElement_2 (fun x2_1 M2_1 h2_1 => ?_)
  rw [h2_1.1, h2_1.2]
  refine k_zeq C 32 dX8_isElement_5 (by decide) (fun c5_2 => ?_) (fun c5_2 => ?_)
  ·
    have nc5_2 : ¬ (mo_hs (M a) s) := sk_b1.mp c5_2
    refine k_iconst C (0) dX8_isElement_32 (by decide) ?_
    exact ret _ _ _ _ dX8_isElement_33 rfl (by exact ⟨(if_neg (fun h => nc5_2 h.1)).symm, rfl⟩)
  ·
    have nc5_2 : mo_hs (M a) s := Classical.byContradiction (fun h => c5_2 (sk_b1.mpr h))
    obtain ⟨ix, ib⟩ := sk_ix nc5_2 hm (by omega)
    obtain ⟨N, hN12, hN, hNp⟩ := id (hmj _ ib)
    refine k_iloadn C 2 dX8_isElement_8 rfl ?_
    refine k_i2l C dX8_isElement_9 ?_
    refine k_lconst C (0) dX8_isElement_10 (by decide) ?_
    refine k_aloadn C 0 dX8_isElement_11 rfl ?_
    refine k_iloadn C 1 dX8_isElement_12 rfl ?_
    refine k_si C (as := [.int s]) yvX8_skaterAt vsX8_skaterAt ml_X8_72 (m_X8_skaterAt l C.2.2.2.1 M (s := s.toNatClampNeg) (xs := s) (hxs := ix)) rfl rfl (Nat.le_of_ble_eq_true rfl) (by decide) dX8_isElement_13 (fun x13_3 M13_3 h13_3 => ?_)
    rw [h13_3.1, h13_3.2]
    refine k_iconst C (0) dX8_isElement_16 (by decide) ?_
    refine k_iadd C dX8_isElement_17 ?_
    refine k_ialdn C (6 + 233 * s.toNatClampNeg) ha (sk_nadd (b := 0) rfl (rfl : ((0) : Int32) = nI 0)) (by omega) dX8_isElement_18 ?_
    refine k_iconst C (1) dX8_isElement_19 (by decide) ?_
    refine k_isub C dX8_isElement_20 ?_
    refine k_i2l C dX8_isElement_21 ?_
    refine k_si C (as := [.long e.toInt64, .long (0), .long (((M a (6 + 233 * s.toNatClampNeg)) - (1)).toInt64)]) yvX8_in vsX8_in ml_X8_64 (m_X8_in l C.2.2.2.1 M (v := e.toInt64) (p := (0)) (q := ((M a (6 + 233 * s.toNatClampNeg)) - (1)).toInt64)) rfl rfl (Nat.le_of_ble_eq_true rfl) (by decide) dX8_isElement_22 (fun x22_4 M22_4 h22_4 => ?_)
    rw [h22_4.1, h22_4.2]
    refine k_zeq C 32 dX8_isElement_25 (by decide) (fun c25_5 => ?_) (fun c25_5 => ?_)
    ·
      have nc25_5 : ¬ (¬ e.toInt64 < (0) ∧ ¬ (((M a (6 + 233 * s.toNatClampNeg)) - (1)).toInt64) < e.toInt64) := sk_b1.mp c25_5
      refine k_iconst C (0) dX8_isElement_32 (by decide) ?_
      exact ret _ _ _ _ dX8_isElement_33 rfl (by exact ⟨(if_neg (fun h => nc25_5 ((in_c hN (by omega)).mpr h.2))).symm, rfl⟩)
    ·
      have nc25_5 : ¬ e.toInt64 < (0) ∧ ¬ (((M a (6 + 233 * s.toNatClampNeg)) - (1)).toInt64) < e.toInt64 := Classical.byContradiction (fun h => c25_5 (sk_b1.mpr h))
      refine k_iconst C (1) dX8_isElement_28 (by decide) ?_
      refine k_goto C 33 dX8_isElement_29 (by decide) ?_
      exact ret _ _ _ _ dX8_isElement_33 rfl (by exact ⟨(if_pos ⟨nc5_2, (in_c hN (by omega)).mp nc25_5⟩).symm, rfl⟩)

set_option maxHeartbeats 4000000 in
set_option maxRecDepth 100000 in
theorem m_X8_isPart (l : Launch) {O : sk_O} (hO : sk_inj O) (M : sk_M) (a : Nat) (ha : sk_is O a (0, 938, sk_no)) (s e p : Int32) (hw : mo_wf (M a)) : sk_Mi l yX8_isPart (sk_w yX8_isPart cX8_isPart 4 (some .boolean)) ({ frames := 3, cells := 0, slots := 0, locals := 68 }) O [.ref (sk_ad O a), .int s, .int e, .int p] M (fun r M' => r = (if mo_hp (M a) s e p then 1 else 0) ∧ M' = M) := by
  refine sk_mi (by decide) ⟨rfl, rfl⟩ hO (Nat.le_of_ble_eq_true rfl) (fun X A Q C ret => ?_)
  show sk_W l X O A Q 4 0 0 M 0 [(0, .ref (sk_ad O a)), (1, .int s), (2, .int e), (3, .int p)] []
  obtain ⟨m, hm4, hm, hmj⟩ := id hw
  refine k_aloadn C 0 dX8_isPart_0 rfl ?_
  refine k_iloadn C 1 dX8_isPart_1 rfl ?_
  refine k_iloadn C 2 dX8_isPart_2 rfl ?_
  refine k_si C (as := [.ref (sk_ad O a), .int s, .int e]) yvX8_isElement vsX8_isElement ml_X8_76 (m_X8_isElement l C.2.2.2.1 M (a := a) (ha := ha) (s := s) (e := e) (hw := hw)) rfl rfl (Nat.le_of_ble_eq_true rfl) (by decide) dX8_isPart_3 (fun x3_1 M3_1 h3_1 => ?_)
  rw [h3_1.1, h3_1.2]
  refine k_zeq C 34 dX8_isPart_6 (by decide) (fun c6_2 => ?_) (fun c6_2 => ?_)
  ·
    have nc6_2 : ¬ (mo_he (M a) s e) := sk_b1.mp c6_2
    refine k_iconst C (0) dX8_isPart_34 (by decide) ?_
    exact ret _ _ _ _ dX8_isPart_35 rfl (by exact ⟨(if_neg (fun h => nc6_2 h.1)).symm, rfl⟩)
  ·
    have nc6_2 : mo_he (M a) s e := Classical.byContradiction (fun h => c6_2 (sk_b1.mpr h))
    obtain ⟨ix, ib⟩ := sk_ix nc6_2.1 hm (by omega)
    obtain ⟨N, hN12, hN, hNp⟩ := id (hmj _ ib)
    obtain ⟨ex, eb⟩ := sk_ix nc6_2.2 hN (by omega)
    obtain ⟨np, hnp, hpp⟩ := hNp _ eb
    refine k_iloadn C 3 dX8_isPart_9 rfl ?_
    refine k_i2l C dX8_isPart_10 ?_
    refine k_lconst C (0) dX8_isPart_11 (by decide) ?_
    refine k_aloadn C 0 dX8_isPart_12 rfl ?_
    refine k_iloadn C 1 dX8_isPart_13 rfl ?_
    refine k_iloadn C 2 dX8_isPart_14 rfl ?_
    refine k_si C (as := [.int s, .int e]) yvX8_elementAt vsX8_elementAt ml_X8_60 (m_X8_elementAt l C.2.2.2.1 M (s := s.toNatClampNeg) (xs := s) (hxs := ix) (e := e.toNatClampNeg) (xe := e) (hxe := ex)) rfl rfl (Nat.le_of_ble_eq_true rfl) (by decide) dX8_isPart_15 (fun x15_3 M15_3 h15_3 => ?_)
    rw [h15_3.1, h15_3.2]
    refine k_iconst C (1) dX8_isPart_18 (by decide) ?_
    refine k_iadd C dX8_isPart_19 ?_
    refine k_ialdn C (23 + 233 * s.toNatClampNeg + 18 * e.toNatClampNeg + 1) ha (sk_nadd rfl (rfl : ((1) : Int32) = nI 1)) (by omega) dX8_isPart_20 ?_
    refine k_iconst C (1) dX8_isPart_21 (by decide) ?_
    refine k_isub C dX8_isPart_22 ?_
    refine k_i2l C dX8_isPart_23 ?_
    refine k_si C (as := [.long p.toInt64, .long (0), .long (((M a (23 + 233 * s.toNatClampNeg + 18 * e.toNatClampNeg + 1)) - (1)).toInt64)]) yvX8_in vsX8_in ml_X8_64 (m_X8_in l C.2.2.2.1 M (v := p.toInt64) (p := (0)) (q := ((M a (23 + 233 * s.toNatClampNeg + 18 * e.toNatClampNeg + 1)) - (1)).toInt64)) rfl rfl (Nat.le_of_ble_eq_true rfl) (by decide) dX8_isPart_24 (fun x24_4 M24_4 h24_4 => ?_)
    rw [h24_4.1, h24_4.2]
    refine k_zeq C 34 dX8_isPart_27 (by decide) (fun c27_5 => ?_) (fun c27_5 => ?_)
    ·
      have nc27_5 : ¬ (¬ p.toInt64 < (0) ∧ ¬ (((M a (23 + 233 * s.toNatClampNeg + 18 * e.toNatClampNeg + 1)) - (1)).toInt64) < p.toInt64) := sk_b1.mp c27_5
      refine k_iconst C (0) dX8_isPart_34 (by decide) ?_
      exact ret _ _ _ _ dX8_isPart_35 rfl (by exact ⟨(if_neg (fun h => nc27_5 ((in_c hpp (by omega)).mpr h.2))).symm, rfl⟩)
    ·
      have nc27_5 : ¬ p.toInt64 < (0) ∧ ¬ (((M a (23 + 233 * s.toNatClampNeg + 18 * e.toNatClampNeg + 1)) - (1)).toInt64) < p.toInt64 := Classical.byContradiction (fun h => c27_5 (sk_b1.mpr h))
      refine k_iconst C (1) dX8_isPart_30 (by decide) ?_
      refine k_goto C 35 dX8_isPart_31 (by decide) ?_
      exact ret _ _ _ _ dX8_isPart_35 rfl (by exact ⟨(if_pos ⟨nc6_2, (in_c hpp (by omega)).mp nc27_5⟩).symm, rfl⟩)

set_option maxHeartbeats 4000000 in
set_option maxRecDepth 100000 in
theorem m_X8_percent (l : Launch) {O : sk_O} (hO : sk_inj O) (M : sk_M) (x y : Int32) : sk_Mi l yX8_percent (sk_w yX8_percent cX8_percent 2 (some .int)) ({ frames := 0, cells := 0, slots := 0, locals := 0 }) O [.int x, .int y] M (fun r M' => r = (sc_pc x y) ∧ M' = M) := by
  refine sk_mi (by decide) ⟨rfl, rfl⟩ hO (Nat.le_of_ble_eq_true rfl) (fun X A Q C ret => ?_)
  show sk_W l X O A Q 2 0 0 M 0 [(0, .int x), (1, .int y)] []
  refine k_iloadn C 0 dX8_percent_0 rfl ?_
  refine k_iloadn C 1 dX8_percent_1 rfl ?_
  refine k_imul C dX8_percent_2 ?_
  refine k_bipush C (50) dX8_percent_3 (by decide) ?_
  refine k_iadd C dX8_percent_5 ?_
  refine k_bipush C (100) dX8_percent_6 (by decide) ?_
  refine k_idiv C dX8_percent_8 (by decide) ?_
  exact ret _ _ _ _ dX8_percent_9 rfl (by exact ⟨rfl, rfl⟩)

set_option maxHeartbeats 4000000 in
set_option maxRecDepth 100000 in
theorem m_X8_ofKind (l : Launch) {O : sk_O} (hO : sk_inj O) (M : sk_M) (k t : Int32) : sk_Mi l yX8_ofKind (sk_w yX8_ofKind cX8_ofKind 6 (some .int)) ({ frames := 0, cells := 0, slots := 0, locals := 0 }) O [.int k, .int t] M (fun r M' => r = (mo_ok k t) ∧ M' = M) := by
  refine sk_mi (by decide) ⟨rfl, rfl⟩ hO (Nat.le_of_ble_eq_true rfl) (fun X A Q C ret => ?_)
  show sk_W l X O A Q 6 0 0 M 0 [(0, .int k), (1, .int t)] []
  refine k_iloadn C 0 dX8_ofKind_0 rfl ?_
  have J41 : sk_W l X O A Q 6 0 0 M 41 [(0, .int k), (1, .int t)] [.int (mo_k1 k)] := by
    refine k_istoren C [1, 2, 0] [(0, .int k), (1, .int t), (2, .int (mo_k1 k))] dX8_ofKind_41 (by decide) rfl ?_
    refine k_iloadn C 0 dX8_ofKind_42 rfl ?_
    have J93 : sk_W l X O A Q 6 0 0 M 93 [(0, .int k), (1, .int t), (2, .int (mo_k1 k))] [.int (mo_k2 k)] := by
      refine k_istoren C [1, 2, 3, 0] [(0, .int k), (1, .int t), (2, .int (mo_k1 k)), (3, .int (mo_k2 k))] dX8_ofKind_93 (by decide) rfl ?_
      refine k_iloadn C 0 dX8_ofKind_94 rfl ?_
      have J151 : sk_W l X O A Q 6 0 0 M 151 [(0, .int k), (1, .int t), (2, .int (mo_k1 k)), (3, .int (mo_k2 k))] [.int (mo_k3 k)] := by
        refine k_istore C [1, 2, 3, 4, 0] [(0, .int k), (1, .int t), (2, .int (mo_k1 k)), (3, .int (mo_k2 k)), (4, .int (mo_k3 k))] dX8_ofKind_151 (by decide) rfl ?_
        refine k_iloadn C 0 dX8_ofKind_153 rfl ?_
        have J210 : sk_W l X O A Q 6 0 0 M 210 [(0, .int k), (1, .int t), (2, .int (mo_k1 k)), (3, .int (mo_k2 k)), (4, .int (mo_k3 k))] [.int (mo_k4 k)] := by
          refine k_istore C [1, 2, 3, 4, 5, 0] [(0, .int k), (1, .int t), (2, .int (mo_k1 k)), (3, .int (mo_k2 k)), (4, .int (mo_k3 k)), (5, .int (mo_k4 k))] dX8_ofKind_210 (by decide) rfl ?_
          refine k_iloadn C 1 dX8_ofKind_212 rfl ?_
          refine k_iconst C (1) dX8_ofKind_213 (by decide) ?_
          refine k_cne C 221 dX8_ofKind_214 (by decide) (fun c214_1 => ?_) (fun c214_1 => ?_)
          ·
            refine k_iloadn C 1 dX8_ofKind_221 rfl ?_
            refine k_iconst C (2) dX8_ofKind_222 (by decide) ?_
            refine k_cne C 230 dX8_ofKind_223 (by decide) (fun c223_2 => ?_) (fun c223_2 => ?_)
            ·
              refine k_iloadn C 1 dX8_ofKind_230 rfl ?_
              refine k_iconst C (3) dX8_ofKind_231 (by decide) ?_
              refine k_cne C 240 dX8_ofKind_232 (by decide) (fun c232_3 => ?_) (fun c232_3 => ?_)
              ·
                refine k_iloadn C 1 dX8_ofKind_240 rfl ?_
                refine k_iconst C (4) dX8_ofKind_241 (by decide) ?_
                refine k_cne C 250 dX8_ofKind_242 (by decide) (fun c242_4 => ?_) (fun c242_4 => ?_)
                ·
                  refine k_iconst C (0) dX8_ofKind_250 (by decide) ?_
                  exact ret _ _ _ _ dX8_ofKind_251 rfl (by exact ⟨by simp [mo_ok, c214_1, c223_2, c232_3, c242_4], rfl⟩)
                ·
                  refine k_iload C 5 dX8_ofKind_245 rfl ?_
                  refine k_goto C 251 dX8_ofKind_247 (by decide) ?_
                  exact ret _ _ _ _ dX8_ofKind_251 rfl (by exact ⟨by simp [mo_ok, c214_1, c223_2, c232_3, c242_4], rfl⟩)
              ·
                refine k_iload C 4 dX8_ofKind_235 rfl ?_
                refine k_goto C 251 dX8_ofKind_237 (by decide) ?_
                exact ret _ _ _ _ dX8_ofKind_251 rfl (by exact ⟨by simp [mo_ok, c214_1, c223_2, c232_3], rfl⟩)
            ·
              refine k_iloadn C 3 dX8_ofKind_226 rfl ?_
              refine k_goto C 251 dX8_ofKind_227 (by decide) ?_
              exact ret _ _ _ _ dX8_ofKind_251 rfl (by exact ⟨by simp [mo_ok, c214_1, c223_2], rfl⟩)
          ·
            refine k_iloadn C 2 dX8_ofKind_217 rfl ?_
            refine k_goto C 251 dX8_ofKind_218 (by decide) ?_
            exact ret _ _ _ _ dX8_ofKind_251 rfl (by exact ⟨by simp [mo_ok, c214_1], rfl⟩)
        refine k_zne C 163 dX8_ofKind_154 (by decide) (fun c154_5 => ?_) (fun c154_5 => ?_)
        ·
          refine k_iloadn C 0 dX8_ofKind_163 rfl ?_
          refine k_iconst C (1) dX8_ofKind_164 (by decide) ?_
          refine k_cne C 174 dX8_ofKind_165 (by decide) (fun c165_6 => ?_) (fun c165_6 => ?_)
          ·
            refine k_iloadn C 0 dX8_ofKind_174 rfl ?_
            refine k_iconst C (2) dX8_ofKind_175 (by decide) ?_
            refine k_cne C 185 dX8_ofKind_176 (by decide) (fun c176_7 => ?_) (fun c176_7 => ?_)
            ·
              refine k_iloadn C 0 dX8_ofKind_185 rfl ?_
              refine k_iconst C (3) dX8_ofKind_186 (by decide) ?_
              refine k_cne C 196 dX8_ofKind_187 (by decide) (fun c187_8 => ?_) (fun c187_8 => ?_)
              ·
                refine k_iloadn C 0 dX8_ofKind_196 rfl ?_
                refine k_iconst C (4) dX8_ofKind_197 (by decide) ?_
                refine k_cne C 207 dX8_ofKind_198 (by decide) (fun c198_9 => ?_) (fun c198_9 => ?_)
                ·
                  refine k_sipush C (1250) dX8_ofKind_207 (by decide) ?_
                  exact k_eq rfl rfl rfl (by simp [mo_k4, c154_5, c165_6, c176_7, c187_8, c198_9]) J210
                ·
                  refine k_sipush C (1150) dX8_ofKind_201 (by decide) ?_
                  refine k_goto C 210 dX8_ofKind_204 (by decide) ?_
                  exact k_eq rfl rfl rfl (by simp [mo_k4, c154_5, c165_6, c176_7, c187_8, c198_9]) J210
              ·
                refine k_sipush C (1100) dX8_ofKind_190 (by decide) ?_
                refine k_goto C 210 dX8_ofKind_193 (by decide) ?_
                exact k_eq rfl rfl rfl (by simp [mo_k4, c154_5, c165_6, c176_7, c187_8]) J210
            ·
              refine k_sipush C (1050) dX8_ofKind_179 (by decide) ?_
              refine k_goto C 210 dX8_ofKind_182 (by decide) ?_
              exact k_eq rfl rfl rfl (by simp [mo_k4, c154_5, c165_6, c176_7]) J210
          ·
            refine k_sipush C (970) dX8_ofKind_168 (by decide) ?_
            refine k_goto C 210 dX8_ofKind_171 (by decide) ?_
            exact k_eq rfl rfl rfl (by simp [mo_k4, c154_5, c165_6]) J210
        ·
          refine k_sipush C (950) dX8_ofKind_157 (by decide) ?_
          refine k_goto C 210 dX8_ofKind_160 (by decide) ?_
          exact k_eq rfl rfl rfl (by simp [mo_k4, c154_5]) J210
      refine k_zne C 104 dX8_ofKind_95 (by decide) (fun c95_10 => ?_) (fun c95_10 => ?_)
      ·
        refine k_iloadn C 0 dX8_ofKind_104 rfl ?_
        refine k_iconst C (1) dX8_ofKind_105 (by decide) ?_
        refine k_cne C 115 dX8_ofKind_106 (by decide) (fun c106_11 => ?_) (fun c106_11 => ?_)
        ·
          refine k_iloadn C 0 dX8_ofKind_115 rfl ?_
          refine k_iconst C (2) dX8_ofKind_116 (by decide) ?_
          refine k_cne C 126 dX8_ofKind_117 (by decide) (fun c117_12 => ?_) (fun c117_12 => ?_)
          ·
            refine k_iloadn C 0 dX8_ofKind_126 rfl ?_
            refine k_iconst C (3) dX8_ofKind_127 (by decide) ?_
            refine k_cne C 137 dX8_ofKind_128 (by decide) (fun c128_13 => ?_) (fun c128_13 => ?_)
            ·
              refine k_iloadn C 0 dX8_ofKind_137 rfl ?_
              refine k_iconst C (4) dX8_ofKind_138 (by decide) ?_
              refine k_cne C 148 dX8_ofKind_139 (by decide) (fun c139_14 => ?_) (fun c139_14 => ?_)
              ·
                refine k_sipush C (800) dX8_ofKind_148 (by decide) ?_
                exact k_eq rfl rfl rfl (by simp [mo_k3, c95_10, c106_11, c117_12, c128_13, c139_14]) J151
              ·
                refine k_sipush C (590) dX8_ofKind_142 (by decide) ?_
                refine k_goto C 151 dX8_ofKind_145 (by decide) ?_
                exact k_eq rfl rfl rfl (by simp [mo_k3, c95_10, c106_11, c117_12, c128_13, c139_14]) J151
            ·
              refine k_sipush C (530) dX8_ofKind_131 (by decide) ?_
              refine k_goto C 151 dX8_ofKind_134 (by decide) ?_
              exact k_eq rfl rfl rfl (by simp [mo_k3, c95_10, c106_11, c117_12, c128_13]) J151
          ·
            refine k_sipush C (490) dX8_ofKind_120 (by decide) ?_
            refine k_goto C 151 dX8_ofKind_123 (by decide) ?_
            exact k_eq rfl rfl rfl (by simp [mo_k3, c95_10, c106_11, c117_12]) J151
        ·
          refine k_sipush C (430) dX8_ofKind_109 (by decide) ?_
          refine k_goto C 151 dX8_ofKind_112 (by decide) ?_
          exact k_eq rfl rfl rfl (by simp [mo_k3, c95_10, c106_11]) J151
      ·
        refine k_sipush C (420) dX8_ofKind_98 (by decide) ?_
        refine k_goto C 151 dX8_ofKind_101 (by decide) ?_
        exact k_eq rfl rfl rfl (by simp [mo_k3, c95_10]) J151
    refine k_zeq C 51 dX8_ofKind_43 (by decide) (fun c43_15 => ?_) (fun c43_15 => ?_)
    ·
      refine k_sipush C (130) dX8_ofKind_51 (by decide) ?_
      refine k_goto C 93 dX8_ofKind_54 (by decide) ?_
      exact k_eq rfl rfl rfl (by simp [mo_k2, c43_15]) J93
    ·
      refine k_iloadn C 0 dX8_ofKind_46 rfl ?_
      refine k_iconst C (1) dX8_ofKind_47 (by decide) ?_
      refine k_cne C 57 dX8_ofKind_48 (by decide) (fun c48_16 => ?_) (fun c48_16 => ?_)
      ·
        refine k_iloadn C 0 dX8_ofKind_57 rfl ?_
        refine k_iconst C (2) dX8_ofKind_58 (by decide) ?_
        refine k_cne C 68 dX8_ofKind_59 (by decide) (fun c59_17 => ?_) (fun c59_17 => ?_)
        ·
          refine k_iloadn C 0 dX8_ofKind_68 rfl ?_
          refine k_iconst C (3) dX8_ofKind_69 (by decide) ?_
          refine k_cne C 79 dX8_ofKind_70 (by decide) (fun c70_18 => ?_) (fun c70_18 => ?_)
          ·
            refine k_iloadn C 0 dX8_ofKind_79 rfl ?_
            refine k_iconst C (4) dX8_ofKind_80 (by decide) ?_
            refine k_cne C 90 dX8_ofKind_81 (by decide) (fun c81_19 => ?_) (fun c81_19 => ?_)
            ·
              refine k_sipush C (330) dX8_ofKind_90 (by decide) ?_
              exact k_eq rfl rfl rfl (by simp [mo_k2, c43_15, c48_16, c59_17, c70_18, c81_19]) J93
            ·
              refine k_sipush C (210) dX8_ofKind_84 (by decide) ?_
              refine k_goto C 93 dX8_ofKind_87 (by decide) ?_
              exact k_eq rfl rfl rfl (by simp [mo_k2, c43_15, c48_16, c59_17, c70_18, c81_19]) J93
          ·
            refine k_sipush C (180) dX8_ofKind_73 (by decide) ?_
            refine k_goto C 93 dX8_ofKind_76 (by decide) ?_
            exact k_eq rfl rfl rfl (by simp [mo_k2, c43_15, c48_16, c59_17, c70_18]) J93
        ·
          refine k_sipush C (170) dX8_ofKind_62 (by decide) ?_
          refine k_goto C 93 dX8_ofKind_65 (by decide) ?_
          exact k_eq rfl rfl rfl (by simp [mo_k2, c43_15, c48_16, c59_17]) J93
      ·
        refine k_sipush C (130) dX8_ofKind_51 (by decide) ?_
        refine k_goto C 93 dX8_ofKind_54 (by decide) ?_
        exact k_eq rfl rfl rfl (by simp [mo_k2, c43_15, c48_16]) J93
  refine k_zeq C 9 dX8_ofKind_1 (by decide) (fun c1_20 => ?_) (fun c1_20 => ?_)
  ·
    refine k_bipush C (40) dX8_ofKind_9 (by decide) ?_
    refine k_goto C 41 dX8_ofKind_11 (by decide) ?_
    exact k_eq rfl rfl rfl (by simp [mo_k1, c1_20]) J41
  ·
    refine k_iloadn C 0 dX8_ofKind_4 rfl ?_
    refine k_iconst C (1) dX8_ofKind_5 (by decide) ?_
    refine k_cne C 14 dX8_ofKind_6 (by decide) (fun c6_21 => ?_) (fun c6_21 => ?_)
    ·
      refine k_iloadn C 0 dX8_ofKind_14 rfl ?_
      refine k_iconst C (2) dX8_ofKind_15 (by decide) ?_
      refine k_ceq C 24 dX8_ofKind_16 (by decide) (fun c16_22 => ?_) (fun c16_22 => ?_)
      ·
        refine k_bipush C (50) dX8_ofKind_24 (by decide) ?_
        refine k_goto C 41 dX8_ofKind_26 (by decide) ?_
        exact k_eq rfl rfl rfl (by simp [mo_k1, c1_20, c6_21, c16_22]) J41
      ·
        refine k_iloadn C 0 dX8_ofKind_19 rfl ?_
        refine k_iconst C (3) dX8_ofKind_20 (by decide) ?_
        refine k_cne C 29 dX8_ofKind_21 (by decide) (fun c21_23 => ?_) (fun c21_23 => ?_)
        ·
          refine k_iloadn C 0 dX8_ofKind_29 rfl ?_
          refine k_iconst C (4) dX8_ofKind_30 (by decide) ?_
          refine k_cne C 39 dX8_ofKind_31 (by decide) (fun c31_24 => ?_) (fun c31_24 => ?_)
          ·
            refine k_bipush C (110) dX8_ofKind_39 (by decide) ?_
            exact k_eq rfl rfl rfl (by simp [mo_k1, c1_20, c6_21, c16_22, c21_23, c31_24]) J41
          ·
            refine k_bipush C (60) dX8_ofKind_34 (by decide) ?_
            refine k_goto C 41 dX8_ofKind_36 (by decide) ?_
            exact k_eq rfl rfl rfl (by simp [mo_k1, c1_20, c6_21, c16_22, c21_23, c31_24]) J41
        ·
          refine k_bipush C (50) dX8_ofKind_24 (by decide) ?_
          refine k_goto C 41 dX8_ofKind_26 (by decide) ?_
          exact k_eq rfl rfl rfl (by simp [mo_k1, c1_20, c6_21, c16_22, c21_23]) J41
    ·
      refine k_bipush C (40) dX8_ofKind_9 (by decide) ?_
      refine k_goto C 41 dX8_ofKind_11 (by decide) ?_
      exact k_eq rfl rfl rfl (by simp [mo_k1, c1_20, c6_21]) J41

