/-! The model: places, counts, reasons -/
theorem in_c {x y : Int32} {m : Nat} (hy : y = nI m) (hm : m < 2 ^ 31) : (¬ x.toInt64 < (0 : Int64) ∧ ¬ (y - 1).toInt64 < x.toInt64) ↔ (¬ x < 0 ∧ ¬ y ≤ x) := by
  have h1 : (nI m).toInt = m := Int32.toInt_ofNat_of_lt hm
  have h2 : (y - 1).toInt = (m : Int) - 1 := by
    rw [hy, Int32.toInt_sub, h1]
    exact Int.bmod_eq_of_le (by simp; omega) (by simp; omega)
  rw [Int64.lt_iff_toInt_lt, Int64.lt_iff_toInt_lt, Int32.toInt_toInt64, Int32.toInt_toInt64, h2, Int32.lt_iff_toInt_lt, Int32.le_iff_toInt_le, hy, h1]
  show (¬ x.toInt < 0 ∧ ¬ (m : Int) - 1 < x.toInt) ↔ (¬ x.toInt < 0 ∧ ¬ (m : Int) ≤ x.toInt)
  omega
theorem in_k (x lo hi : Int32) {l2 h2 : Int64} (e1 : l2 = lo.toInt64) (e2 : h2 = hi.toInt64) : (¬ x.toInt64 < l2 ∧ ¬ h2 < x.toInt64) ↔ (¬ x < lo ∧ ¬ hi < x) := by
  rw [e1, e2, Int64.lt_iff_toInt_lt, Int64.lt_iff_toInt_lt, Int32.toInt_toInt64, Int32.toInt_toInt64, Int32.toInt_toInt64, Int32.lt_iff_toInt_lt, Int32.lt_iff_toInt_lt]
theorem in_y {P : Prop} [Decidable P] {a : Nat} {x y : Int32} (hx : x = nI a) (hy : y = 1) (h : P) : x + y = nI (a + if P then 1 else 0) := by rw [if_pos h, hx, hy]; exact nI_add _ 1
theorem in_n {P : Prop} [Decidable P] {a : Nat} {x y : Int32} (hx : x = nI a) (hy : y = 0) (h : ¬ P) : x + y = nI (a + if P then 1 else 0) := by rw [if_neg h, hx, hy]; exact nI_add _ 0
abbrev mo_hs (r : Nat → Int32) (s : Int32) : Prop := ¬ s < 0 ∧ ¬ r 0 ≤ s
abbrev mo_he (r : Nat → Int32) (s e : Int32) : Prop := mo_hs r s ∧ ¬ e < 0 ∧ ¬ r (6 + 233 * s.toNatClampNeg) ≤ e
abbrev mo_hp (r : Nat → Int32) (s e p : Int32) : Prop := mo_he r s e ∧ ¬ p < 0 ∧ ¬ r (23 + 233 * s.toNatClampNeg + 18 * e.toNatClampNeg + 1) ≤ p
def mo_pp (r : Nat → Int32) (s n : Nat) : Prop := ∀ e, e < n → ∃ p : Nat, p ≤ 3 ∧ r (23 + 233 * s + 18 * e + 1) = nI p
def mo_wp (r : Nat → Int32) (s : Nat) : Prop := ∃ N : Nat, N ≤ 12 ∧ r (6 + 233 * s) = nI N ∧ mo_pp r s N
def mo_wf (r : Nat → Int32) : Prop := ∃ m : Nat, m ≤ 4 ∧ r 0 = nI m ∧ ∀ s, s < m → mo_wp r s
abbrev mo_ty (r : Nat → Int32) (s e : Nat) : Int32 := r (23 + 233 * s + 18 * e)
abbrev mo_np (r : Nat → Int32) (s e : Nat) : Int32 := r (23 + 233 * s + 18 * e + 1)
abbrev mo_kd (r : Nat → Int32) (s e k : Nat) : Int32 := r (25 + 233 * s + 18 * e + 3 * k)
abbrev mo_tu (r : Nat → Int32) (s e k : Nat) : Int32 := r (25 + 233 * s + 18 * e + 3 * k + 1)
abbrev mo_ca (r : Nat → Int32) (s e k : Nat) : Int32 := r (25 + 233 * s + 18 * e + 3 * k + 2)
def mo_ct (r : Nat → Int32) (s : Nat) (ty : Int32) : Nat → Nat
  | 0 => 0
  | i + 1 => mo_ct r s ty i + if mo_ty r s i = ty then 1 else 0
theorem mo_ct_le (r : Nat → Int32) (s : Nat) (ty : Int32) (n : Nat) : mo_ct r s ty n ≤ n := by
  induction n with
  | zero => exact Nat.le_refl _
  | succ n ih => unfold mo_ct; split <;> omega
def mo_mo (r : Nat → Int32) (ty : Int32) : Int32 := if ty = 0 then r 3 else if ty = 1 then r 4 else 1
abbrev mo_tm (r : Nat → Int32) (s e : Nat) : Prop := ¬ nI (mo_ct r s (mo_ty r s e) (e + 1)) ≤ mo_mo r (mo_ty r s e)
abbrev mo_ch (r : Nat → Int32) (s e : Nat) : Prop := ¬ mo_np r s e ≤ 1
def mo_cc (r : Nat → Int32) (s : Nat) : Nat → Nat
  | 0 => 0
  | i + 1 => mo_cc r s i + if mo_ch r s i ∧ ¬ mo_tm r s i then 1 else 0
theorem mo_cc_le (r : Nat → Int32) (s n : Nat) : mo_cc r s n ≤ n := by
  induction n with
  | zero => exact Nat.le_refl _
  | succ n ih => unfold mo_cc; split <;> omega
abbrev mo_cm (r : Nat → Int32) (s e : Nat) : Prop := mo_ch r s e ∧ ¬ nI (mo_cc r s (e + 1)) ≤ r 2
abbrev mo_lg (r : Nat → Int32) (s e : Nat) : Prop := mo_np r s e = 3 ∧ ¬ mo_tm r s e ∧ ¬ mo_cm r s e
/-- how many of the first are long and count -/
def mo_wn (r : Nat → Int32) (s : Nat) : Nat → Nat
  | 0 => 0
  | i + 1 => mo_wn r s i + if mo_lg r s i then 1 else 0
theorem mo_wn_0 {r : Nat → Int32} {s : Nat} {n i : Nat} (hi : i < n) (h : mo_lg r s i) : ¬ mo_wn r s n = 0 := by
  induction n with
  | zero => omega
  | succ n ih =>
    show ¬ (mo_wn r s n + if mo_lg r s n then 1 else 0) = 0
    by_cases q : i = n
    · subst q; rw [if_pos h]; omega
    · have := ih (by omega); omega
def mo_bp (r : Nat → Int32) (s e k : Nat) : Int32 := if mo_tm r s e then 5 else if 0 < k ∧ mo_cm r s e then 3 else if k = 2 ∧ ¬ mo_wn r s e = 0 then 4 else 0
abbrev mo_al (r : Nat → Int32) (s e k i j : Nat) : Prop := mo_ty r s i = 0 ∧ mo_kd r s i j = mo_kd r s e k ∧ mo_tu r s i j = mo_tu r s e k ∧ mo_bp r s i j = 0
def mo_bs (r : Nat → Int32) (s e k i j : Nat) (z : Nat × Int32) : Nat × Int32 := if (i < e ∨ j < k) ∧ mo_al r s e k i j then (z.1 + 1, if ¬ z.2 = 0 ∧ mo_np r s i = 1 then 1 else 0) else z
def mo_bj (r : Nat → Int32) (s e k i : Nat) (z : Nat × Int32) : Nat → Nat × Int32
  | 0 => z
  | j + 1 => mo_bs r s e k i j (mo_bj r s e k i z j)
abbrev mo_n (r : Nat → Int32) (s e : Nat) : Nat := (mo_np r s e).toNatClampNeg
def mo_bo (r : Nat → Int32) (s e k : Nat) : Nat → Nat × Int32
  | 0 => (0, if mo_np r s e = 1 then 1 else 0)
  | i + 1 => mo_bj r s e k i (mo_bo r s e k i) (mo_n r s i)
def mo_br (r : Nat → Int32) (s e k : Nat) : Int32 := if ¬ mo_ty r s e = 0 ∨ mo_tu r s e k < 3 then 0 else if 1 < (mo_bo r s e k (e + 1)).1 then 2 else if (mo_bo r s e k (e + 1)).1 = 1 ∧ ¬ (mo_bo r s e k (e + 1)).2 = 0 then 1 else 0
theorem mo_bj_le (r : Nat → Int32) (s e k i : Nat) (z : Nat × Int32) (n : Nat) : (mo_bj r s e k i z n).1 ≤ z.1 + n := by
  induction n with
  | zero => exact Nat.le_refl _
  | succ n ih =>
    show (mo_bs r s e k i n (mo_bj r s e k i z n)).1 ≤ _
    unfold mo_bs
    split
    · show (mo_bj r s e k i z n).1 + 1 ≤ _; omega
    · omega
theorem mo_bo_le {r : Nat → Int32} {s e k n : Nat} (hp : mo_pp r s n) : ∀ i, i ≤ n → (mo_bo r s e k i).1 ≤ 3 * i
  | 0, _ => Nat.le_refl _
  | i + 1, hi => by
    have h1 := mo_bo_le (e := e) (k := k) hp i (by omega)
    have h2 := mo_bj_le r s e k i (mo_bo r s e k i) (mo_n r s i)
    obtain ⟨p, hp3, hpp⟩ := hp i (by omega)
    have h3 : mo_n r s i = p := by show (r _).toNatClampNeg = p; rw [hpp, nI_clamp (by omega)]
    show (mo_bj r s e k i (mo_bo r s e k i) (mo_n r s i)).1 ≤ _
    omega
theorem mo_bz {r : Nat → Int32} {s e k i j : Nat} {z : Nat × Int32} (h : (i < e ∨ j < k) ∧ mo_al r s e k i j) : mo_bs r s e k i j z = (z.1 + 1, if ¬ z.2 = 0 ∧ mo_np r s i = 1 then 1 else 0) := if_pos h
theorem mo_bw {r : Nat → Int32} {s e k i j : Nat} {z : Nat × Int32} (h : ¬ ((i < e ∨ j < k) ∧ mo_al r s e k i j)) : mo_bs r s e k i j z = z := if_neg h
def mo_k1 (k : Int32) : Int32 := if k = 0 ∨ k = 1 then 40 else if k = 2 ∨ k = 3 then 50 else if k = 4 then 60 else 110
def mo_k2 (k : Int32) : Int32 := if k = 0 ∨ k = 1 then 130 else if k = 2 then 170 else if k = 3 then 180 else if k = 4 then 210 else 330
def mo_k3 (k : Int32) : Int32 := if k = 0 then 420 else if k = 1 then 430 else if k = 2 then 490 else if k = 3 then 530 else if k = 4 then 590 else 800
def mo_k4 (k : Int32) : Int32 := if k = 0 then 950 else if k = 1 then 970 else if k = 2 then 1050 else if k = 3 then 1100 else if k = 4 then 1150 else 1250
def mo_ok (k t : Int32) : Int32 := if t = 1 then mo_k1 k else if t = 2 then mo_k2 k else if t = 3 then mo_k3 k else if t = 4 then mo_k4 k else 0
def mo_oj (k t c : Int32) : Int32 := if c = 2 then mo_ok k (t - 1) else if c = 0 then mo_ok k t else sc_pc (mo_ok k t) 80
def mo_ol (ty lv : Int32) : Int32 := if ty = 1 then (if lv = 0 then 120 else if lv = 1 then 150 else if lv = 2 then 190 else if lv = 3 then 240 else 300) else (if lv = 0 then 150 else if lv = 1 then 180 else if lv = 2 then 260 else if lv = 3 then 330 else 390)
def mo_gd (v : Int32) : Int32 := if v < 0 then -((15 - v) / 30) else (v + 15) / 30
/-- five marks from q on, without the greatest and the least: sums, greatest, least -/
def mo_k5 (r : Nat → Int32) (q : Nat) : Nat → Int32 × Int32 × Int32
  | 0 => (0, r q, r q)
  | k + 1 => ((mo_k5 r q k).1 + r (q + k), (if (mo_k5 r q k).2.1 < r (q + k) then r (q + k) else (mo_k5 r q k).2.1), (if r (q + k) < (mo_k5 r q k).2.2 then r (q + k) else (mo_k5 r q k).2.2))
def mo_ke (r : Nat → Int32) (q : Nat) : Int32 := (mo_k5 r q 5).1 - (mo_k5 r q 5).2.1 - (mo_k5 r q 5).2.2
def mo_oc (r : Nat → Int32) (s k : Nat) : Int32 := (50 * mo_ke r (6 + 233 * s + 2 + 5 * k) + 3) / 6
/-! The model: worth of parts, counts, reasons -/
theorem mo_km {r : Nat → Int32} {q i : Nat} (h : (mo_k5 r q i).2.1 < r (q + i)) : r (q + i) = (mo_k5 r q (i + 1)).2.1 := (if_pos h).symm
theorem mo_kn {r : Nat → Int32} {q i : Nat} (h : r (q + i) ≤ (mo_k5 r q i).2.1) : (mo_k5 r q i).2.1 = (mo_k5 r q (i + 1)).2.1 := (if_neg (Int32.not_lt.mpr h)).symm
theorem mo_lm {r : Nat → Int32} {q i : Nat} (h : r (q + i) < (mo_k5 r q i).2.2) : r (q + i) = (mo_k5 r q (i + 1)).2.2 := (if_pos h).symm
theorem mo_ln {r : Nat → Int32} {q i : Nat} (h : (mo_k5 r q i).2.2 ≤ r (q + i)) : (mo_k5 r q i).2.2 = (mo_k5 r q (i + 1)).2.2 := (if_neg (Int32.not_lt.mpr h)).symm
theorem mo_wz {r : Nat → Int32} {s i : Nat} (h : mo_wn r s i = 0) (q : ¬ mo_lg r s i) : mo_wn r s (i + 1) = 0 := by
  show mo_wn r s i + (if mo_lg r s i then 1 else 0) = 0
  rw [if_neg q, h]
theorem mo_nn {r : Nat → Int32} {s n i : Nat} (h : mo_pp r s n) (hi : i < n) : r (23 + 233 * s + 18 * i + 1) = nI (mo_n r s i) ∧ mo_n r s i ≤ 3 := by
  obtain ⟨p, hp3, hpp⟩ := h i hi
  have h3 : mo_n r s i = p := by show (r _).toNatClampNeg = p; rw [hpp, nI_clamp (by omega)]
  rw [h3]
  exact ⟨hpp, hp3⟩
/-! The model: weighing, reckoning, places -/
def mo_wy (r : Nat → Int32) (s e k : Nat) : Int32 := if mo_bp r s e k = 0 then mo_br r s e k else mo_bp r s e k
def mo_v0 (r : Nat → Int32) (s e k : Nat) : Int32 := if mo_ty r s e = 0 then mo_oj (mo_kd r s e k) (mo_tu r s e k) (mo_ca r s e k) else mo_ol (mo_ty r s e) (mo_tu r s e k)
def mo_v (r : Nat → Int32) (s e k : Nat) : Int32 := if mo_wy r s e k = 0 then mo_v0 r s e k else if mo_wy r s e k = 1 then sc_pc (mo_v0 r s e k) 70 else 0
def mo_sb (r : Nat → Int32) (s e : Nat) : Nat → Int32
  | 0 => 0
  | k + 1 => mo_sb r s e k + mo_v r s e k
def mo_sm (r : Nat → Int32) (s e : Nat) : Nat → Int32
  | 0 => 0
  | k + 1 => if mo_sm r s e k < mo_v r s e k then mo_v r s e k else mo_sm r s e k
theorem mo_sy {r : Nat → Int32} {s e k : Nat} (h : mo_sm r s e k < mo_v r s e k) : mo_v r s e k = mo_sm r s e (k + 1) := (if_pos h).symm
theorem mo_sz {r : Nat → Int32} {s e k : Nat} (h : mo_v r s e k ≤ mo_sm r s e k) : mo_sm r s e k = mo_sm r s e (k + 1) := (if_neg (Int32.not_lt.mpr h)).symm
abbrev mo_bn (r : Nat → Int32) (s e : Nat) : Prop := mo_ty r s e = 0 ∧ ¬ nI (2 * e) < r (6 + 233 * s) ∧ ¬ mo_tm r s e
def mo_ba (r : Nat → Int32) (s e : Nat) : Int32 := if mo_bn r s e then sc_pc (mo_sb r s e (mo_n r s e)) (100 + r 5) else mo_sb r s e (mo_n r s e)
def mo_gr (r : Nat → Int32) (s e : Nat) : Int32 := mo_gd (mo_ke r (23 + 233 * s + 18 * e + 11) * mo_sm r s e (mo_n r s e))
def mw_l (M : sk_M) (k a s e : Nat) : Nat → sk_M
  | 0 => M
  | j + 1 => sk_ms (sk_ms (mw_l M k a s e j) (k + 8) (3 * e + j) (mo_v (M a) s e j)) (k + 9) (3 * e + j) (mo_wy (M a) s e j)
theorem mw_l_f {M : sk_M} {k a s e x : Nat} (h : x < k + 8 ∨ k + 10 ≤ x) (j : Nat) : mw_l M k a s e j x = M x := by
  induction j with
  | zero => rfl
  | succ j ih =>
    unfold mw_l
    rw [sk_nf (by omega), sk_nf (by omega), ih]
def mw_m (M : sk_M) (k a s e : Nat) : sk_M := sk_ms (sk_ms (sk_ms (sk_ms (mw_l M k a s e (mo_n (M a) s e)) (k + 13) e (if mo_bn (M a) s e then 1 else 0)) (k + 10) e (mo_ba (M a) s e)) (k + 11) e (mo_ke (M a) (23 + 233 * s + 18 * e + 11))) (k + 12) e (mo_gr (M a) s e)
theorem mw_m_f {M : sk_M} {k a s e x : Nat} (h : x < k + 8 ∨ k + 14 ≤ x) : mw_m M k a s e x = M x := by
  unfold mw_m
  rw [sk_nf (by omega), sk_nf (by omega), sk_nf (by omega), sk_nf (by omega), mw_l_f (by omega)]
theorem mw_m_b {M : sk_M} {k a s e : Nat} : mw_m M k a s e (k + 10) e = mo_ba (M a) s e := by
  unfold mw_m
  rw [sk_ne (by omega), sk_ne (by omega), sk_sm]
theorem mw_m_g {M : sk_M} {k a s e : Nat} : mw_m M k a s e (k + 12) e = mo_gr (M a) s e := by
  unfold mw_m
  rw [sk_sm]
def mo_te (r : Nat → Int32) (s : Nat) : Nat → Int32
  | 0 => 0
  | e + 1 => mo_te r s e + (mo_ba r s e + mo_gr r s e)
def mo_of (r : Nat → Int32) (s : Nat) : Nat → Int32
  | 0 => 100 * r (6 + 233 * s + 1)
  | e + 1 => mo_of r s e + 100 * r (23 + 233 * s + 18 * e + 16)
def mo_cp (r : Nat → Int32) (s : Nat) : Int32 := sc_pc (mo_oc r s 0 + mo_oc r s 1 + mo_oc r s 2) (r 1)
def mo_to (r : Nat → Int32) (s n : Nat) : Int32 := mo_te r s n + mo_cp r s - mo_of r s n
def mk_l (M : sk_M) (k a s : Nat) : Nat → sk_M
  | 0 => sk_ms (sk_ms M k 16 0) k 18 (100 * M a (6 + 233 * s + 1))
  | e + 1 => sk_ms (sk_ms (mw_m (mk_l M k a s e) k a s e) k 16 (mo_te (M a) s (e + 1))) k 18 (mo_of (M a) s (e + 1))
theorem mk_l_f {M : sk_M} {k a s x : Nat} (h : x < k + 8 ∨ k + 14 ≤ x) (h2 : x ≠ k) (j : Nat) : mk_l M k a s j x = M x := by
  induction j with
  | zero => unfold mk_l; rw [sk_nf h2, sk_nf h2]
  | succ j ih =>
    unfold mk_l
    rw [sk_nf h2, sk_nf h2, mw_m_f h, ih]
theorem mk_l_t {M : sk_M} {k a s : Nat} (j : Nat) : mk_l M k a s j k 16 = mo_te (M a) s j := by
  cases j with
  | zero => unfold mk_l; rw [sk_ne (by omega), sk_sm]; rfl
  | succ j => unfold mk_l; rw [sk_ne (by omega), sk_sm]
theorem mk_l_o {M : sk_M} {k a s : Nat} (j : Nat) : mk_l M k a s j k 18 = mo_of (M a) s j := by
  cases j with
  | zero => unfold mk_l; rw [sk_sm]; rfl
  | succ j => unfold mk_l; rw [sk_sm]
def mk_m (M : sk_M) (k a s n : Nat) : sk_M := sk_ms (mk_l M k a s n) k 17 (mo_cp (M a) s)
theorem mk_m_f {M : sk_M} {k a s n x : Nat} (h : x < k + 8 ∨ k + 14 ≤ x) (h2 : x ≠ k) : mk_m M k a s n x = M x := by
  unfold mk_m
  rw [sk_nf h2, mk_l_f h h2]
abbrev mo_c (r : Nat → Int32) (s : Nat) : Nat := (r (6 + 233 * s)).toNatClampNeg
abbrev mo_T (r : Nat → Int32) (s : Nat) : Int32 := mo_to r s (mo_c r s)
abbrev mo_S (r : Nat → Int32) (s : Nat) : Int32 := mo_te r s (mo_c r s)
def ml_l (M : sk_M) (k a : Nat) : Nat → sk_M
  | 0 => M
  | s + 1 => sk_ms (sk_ms (mk_m (ml_l M k a s) k a s (mo_c (M a) s)) (k + 14) s (mo_T (M a) s)) (k + 15) s (mo_S (M a) s)
theorem ml_l_f {M : sk_M} {k a x : Nat} (h : x < k + 8 ∨ k + 16 ≤ x) (h2 : x ≠ k) (s : Nat) : ml_l M k a s x = M x := by
  induction s with
  | zero => rfl
  | succ s ih =>
    unfold ml_l
    rw [sk_nf (by omega), sk_nf (by omega), mk_m_f (by omega) h2, ih]
theorem ml_l_T {M : sk_M} {k a i : Nat} : ∀ s, i < s → ml_l M k a s (k + 14) i = mo_T (M a) i ∧ ml_l M k a s (k + 15) i = mo_S (M a) i
  | 0, h => absurd h (Nat.not_lt_zero _)
  | s + 1, h => by
    unfold ml_l
    by_cases q : i = s
    · subst q
      exact ⟨by rw [sk_ne (by omega), sk_sm], by rw [sk_sm]⟩
    · have := ml_l_T (M := M) (k := k) (a := a) (i := i) s (by omega)
      rw [sk_ne (by omega), sk_ne (by omega), sk_ne (by omega), sk_ne (by omega), mk_m_f (by omega) (by omega), mk_m_f (by omega) (by omega)]
      exact this
abbrev mp_a (T S : Nat → Int32) (a b : Nat) : Prop := T b < T a ∨ (T a = T b ∧ (S b < S a ∨ (S a = S b ∧ a < b)))
def mp_c (T S : Nat → Int32) (s : Nat) : Nat → Nat
  | 0 => 0
  | i + 1 => mp_c T S s i + if mp_a T S i s then 1 else 0
theorem mp_c_le (T S : Nat → Int32) (s n : Nat) : mp_c T S s n ≤ n := by
  induction n with
  | zero => exact Nat.le_refl _
  | succ n ih => unfold mp_c; split <;> omega
def mp_q (T S : Nat → Int32) (m : Nat) (r : Int32) : Prop := (∃ i, i < m ∧ mp_c T S i m = 0 ∧ (∀ j, j < i → ¬ mp_c T S j m = 0) ∧ r = nI i) ∨ ((∀ j, j < m → ¬ mp_c T S j m = 0) ∧ r = -1)
/-! The model: copies, marks, calls, the diary -/
def mc_m (M : sk_M) (a b p q n : Nat) : sk_M := sk_mr M b (fun j => if q ≤ j ∧ j < q + n then M a (p + (j - q)) else M b j)
theorem mc_m_f {M : sk_M} {a b p q n x : Nat} (h : x ≠ b) : mc_m M a b p q n x = M x := by funext y; exact sk_nr h
theorem mc_m_v {M : sk_M} {a b p q n y : Nat} : mc_m M a b p q n b y = if q ≤ y ∧ y < q + n then M a (p + (y - q)) else M b y := by simp [mc_m, sk_mr]
theorem mc_m_0 {M : sk_M} {a b p q : Nat} : mc_m M a b p q 0 = M := by
  funext x y
  by_cases h : x = b
  · subst h; rw [mc_m_v, if_neg (by omega)]
  · rw [mc_m_f h]
theorem mc_m_s {M : sk_M} {a b p q n : Nat} : sk_ms (mc_m M a b p q n) b (q + n) (M a (p + n)) = mc_m M a b p q (n + 1) := by
  funext x y
  by_cases h : x = b
  · subst h
    rw [mc_m_v]
    by_cases g : y = q + n
    · subst g
      rw [sk_sm, if_pos (by omega), Nat.add_sub_cancel_left]
    · rw [sk_ne (Or.inr g), mc_m_v]
      by_cases z : q ≤ y ∧ y < q + n
      · rw [if_pos z, if_pos (by omega)]
      · rw [if_neg z, if_neg (by omega)]
  · rw [sk_ne (Or.inl h), mc_m_f h, mc_m_f h]
def my_v (v b : Int32) : Nat → Int32
  | 0 => v
  | n + 1 => my_v v b n / b
def my_m (M : sk_M) (a q : Nat) (v b d : Int32) : Nat → sk_M
  | 0 => M
  | n + 1 => sk_ms (my_m M a q v b d n) a (q + (4 - n)) (sk_rm (my_v v b n) b - d)
theorem my_m_f {M : sk_M} {a q x : Nat} {v b d : Int32} (h : x ≠ a) (n : Nat) : my_m M a q v b d n x = M x := by
  induction n with
  | zero => rfl
  | succ n ih => unfold my_m; rw [sk_nf h, ih]
def mo_dn : Nat → Int32
  | 0 => 4
  | n + 1 => mo_dn n + (-1)
theorem mo_dn_c : ∀ n, n < 6 → (mo_dn n < 0 ↔ 5 ≤ n) := by decide
theorem mo_dn_n : ∀ n, n < 5 → mo_dn n = nI (4 - n) := by decide
abbrev mo_wc (r : Nat → Int32) (s e p v : Int32) : Nat := er_3 (mo_hp r s e p) (¬ v < 0 ∧ ¬ 3 < v) (r (23 + 233 * s.toNatClampNeg + 18 * e.toNatClampNeg) = 0 ∧ (¬ v = 3 ∨ r (25 + 233 * s.toNatClampNeg + 18 * e.toNatClampNeg + 3 * p.toNatClampNeg) = 3 ∨ r (25 + 233 * s.toNatClampNeg + 18 * e.toNatClampNeg + 3 * p.toNatClampNeg) = 4))
theorem er3_le {P Q R : Prop} [Decidable P] [Decidable Q] [Decidable R] : er_3 P Q R ≤ 3 := by
  unfold er_3
  split
  · split
    · split <;> omega
    · omega
  · omega
def md_l (M : sk_M) (k i : Nat) : sk_M := sk_mr M (k + 4) (fun j => if j < i then M (k + 4) (j + 938) else M (k + 4) j)
theorem md_l_f {M : sk_M} {k i x : Nat} (h : x ≠ k + 4) : md_l M k i x = M x := by funext y; exact sk_nr h
theorem md_l_v {M : sk_M} {k i y : Nat} : md_l M k i (k + 4) y = if y < i then M (k + 4) (y + 938) else M (k + 4) y := by simp [md_l, sk_mr]
theorem md_l_0 {M : sk_M} {k : Nat} : md_l M k 0 = M := by
  funext x y
  by_cases h : x = k + 4
  · subst h; rw [md_l_v, if_neg (by omega)]
  · rw [md_l_f h]
theorem md_l_s {M : sk_M} {k i : Nat} : sk_ms (md_l M k i) (k + 4) i (M (k + 4) (i + 938)) = md_l M k (i + 1) := by
  funext x y
  by_cases h : x = k + 4
  · subst h
    rw [md_l_v]
    by_cases g : y = i
    · subst g
      rw [sk_sm, if_pos (by omega)]
    · rw [sk_ne (Or.inr g), md_l_v]
      by_cases z : y < i
      · rw [if_pos z, if_pos (by omega)]
      · rw [if_neg z, if_neg (by omega)]
  · rw [sk_ne (Or.inl h), md_l_f h, md_l_f h]
def mr_0 (M : sk_M) (k c : Nat) : sk_M := if c = 14 then sk_ms (md_l M k 12194) k 6 (nI 13) else M
def mr_c (c : Nat) : Nat := if c = 14 then 13 else c
theorem mr_c_le {c : Nat} (h : c ≤ 14) : mr_c c ≤ 13 := by unfold mr_c; split <;> omega
theorem mr_0_6 {M : sk_M} {k c : Nat} (h : M k 6 = nI c) : mr_0 M k c k 6 = nI (mr_c c) := by
  unfold mr_0 mr_c
  split
  · exact sk_sm
  · exact h
theorem mr_0_f {M : sk_M} {k c x : Nat} (h : x ≠ k) (h2 : x ≠ k + 4) : mr_0 M k c x = M x := by
  unfold mr_0
  split
  · rw [sk_nf h, md_l_f h2]
  · rfl
theorem mr_0_k {M : sk_M} {k c y : Nat} (h : y ≠ 6) : mr_0 M k c k y = M k y := by
  unfold mr_0
  split
  · rw [sk_ne (Or.inr h), md_l_f (by omega)]
  · rfl
def mr_m (M : sk_M) (k c : Nat) : sk_M := sk_ms (mc_m (mr_0 M k c) (k + 2) (k + 4) 0 (938 * mr_c c) 938) k 6 (mr_0 M k c k 6 + 1)
theorem mr_m_f {M : sk_M} {k c x : Nat} (h : x ≠ k) (h2 : x ≠ k + 4) : mr_m M k c x = M x := by
  unfold mr_m
  rw [sk_nf h, mc_m_f h2, mr_0_f h h2]
theorem mo_fi (w v : Int32) : st_fi w v ↔ (¬ w < 0 ∧ ¬ 4 < w) ∧ ¬ v < (if w = 0 then 50 else 0) ∧ ¬ (if w = 0 then 300 else if w = 2 then 12 else if w = 4 then 30 else 5) < v := by
  have e0 : w = 0 ↔ w.toInt = 0 := Int32.toInt_inj.symm
  have e1 : w = 1 ↔ w.toInt = 1 := Int32.toInt_inj.symm
  have e2 : w = 2 ↔ w.toInt = 2 := Int32.toInt_inj.symm
  have e3 : w = 3 ↔ w.toInt = 3 := Int32.toInt_inj.symm
  have e4 : w = 4 ↔ w.toInt = 4 := Int32.toInt_inj.symm
  have l0 : w < 0 ↔ w.toInt < 0 := Int32.lt_iff_toInt_lt
  have l4 : 4 < w ↔ 4 < w.toInt := Int32.lt_iff_toInt_lt
  have a0 : v < 0 ↔ v.toInt < 0 := Int32.lt_iff_toInt_lt
  have a50 : v < 50 ↔ v.toInt < 50 := Int32.lt_iff_toInt_lt
  have b5 : 5 < v ↔ 5 < v.toInt := Int32.lt_iff_toInt_lt
  have b12 : 12 < v ↔ 12 < v.toInt := Int32.lt_iff_toInt_lt
  have b30 : 30 < v ↔ 30 < v.toInt := Int32.lt_iff_toInt_lt
  have b300 : 300 < v ↔ 300 < v.toInt := Int32.lt_iff_toInt_lt
  unfold st_fi
  rw [← Int32.not_lt (a := 300), ← Int32.not_lt (a := 5), ← Int32.not_lt (a := 12), ← Int32.not_lt (a := 30)]
  by_cases h0 : w = 0
  · rw [if_pos h0, if_pos h0]; simp only [e0, e1, e2, e3, e4, l0, l4, a0, a50, b5, b12, b30, b300]; rw [e0] at h0; omega
  · rw [if_neg h0, if_neg h0]
    by_cases h2 : w = 2
    · rw [if_pos h2]; simp only [e0, e1, e2, e3, e4, l0, l4, a0, a50, b5, b12, b30, b300]; rw [e2] at h2; omega
    · rw [if_neg h2]
      by_cases h4 : w = 4
      · rw [if_pos h4]; simp only [e0, e1, e2, e3, e4, l0, l4, a0, a50, b5, b12, b30, b300]; rw [e4] at h4; omega
      · rw [if_neg h4]; simp only [e0, e1, e2, e3, e4, l0, l4, a0, a50, b5, b12, b30, b300]; rw [e0] at h0; rw [e2] at h2; rw [e4] at h4; omega
/-! The model: its reader, against the pure one -/
def mt_f (k : Nat) (M M' : sk_M) : Prop := (∀ a, a ≠ k + 7 → a ≠ k → M' a = M a) ∧ ∀ y, y ≠ 21 → M' k y = M k y
theorem mt_f.r {k : Nat} {M : sk_M} : mt_f k M M := ⟨fun _ _ _ => rfl, fun _ _ => rfl⟩
theorem mt_f.t {k : Nat} {M N P : sk_M} (h : mt_f k M N) (g : mt_f k N P) : mt_f k M P := ⟨fun a h1 h2 => (g.1 a h1 h2).trans (h.1 a h1 h2), fun y h1 => (g.2 y h1).trans (h.2 y h1)⟩
theorem mt_f.s {k : Nat} {M N : sk_M} {v : Int32} (h : mt_f k M N) : mt_f k M (sk_ms N k 21 v) := ⟨fun a h1 h2 => by rw [sk_nf h2]; exact h.1 a h1 h2, fun y h1 => by rw [sk_ne (Or.inr h1)]; exact h.2 y h1⟩
theorem mt_f.w {k j : Nat} {M N : sk_M} {v : Int32} (h : mt_f k M N) : mt_f k M (sk_ms N (k + 7) j v) := ⟨fun a h1 h2 => by rw [sk_nf h1]; exact h.1 a h1 h2, fun y h1 => by rw [sk_ne (by omega)]; exact h.2 y h1⟩
theorem tx_r {S : Nat → Int32} {n : Nat} (h : ∀ i, i < n → ¬ S i < 0 ∧ ¬ 255 < S i) (b : Nat) : ¬ tx S n b < -1 ∧ ¬ 255 < tx S n b := by
  unfold tx
  split
  · have h2 := h b (by assumption)
    exact ⟨fun q => h2.1 (Int32.lt_trans q (by decide)), h2.2⟩
  · decide
theorem dg_lo {x : Int32} (h : ¬ x < -1 ∧ ¬ 255 < x) : (x - 48).toInt = x.toInt - 48 := by
  have h1 : ¬ x.toInt < -1 := fun q => h.1 (Int32.lt_iff_toInt_lt.mpr q)
  have h2 : ¬ 255 < x.toInt := fun q => h.2 (Int32.lt_iff_toInt_lt.mpr q)
  rw [Int32.toInt_sub, show (48 : Int32).toInt = 48 from rfl]
  exact Int.bmod_eq_of_le (by simp; omega) (by simp; omega)
theorem dg_j {x : Int32} (h : ¬ x < -1 ∧ ¬ 255 < x) : (¬ x.toInt64 < (49 : Int64) ∧ ¬ (52 : Int64) < x.toInt64) ↔ ¬ (x - 48 < 1 ∨ 4 < x - 48) := by
  rw [in_k x 49 52 (l2 := 49) (h2 := 52) rfl rfl, Int32.lt_iff_toInt_lt, Int32.lt_iff_toInt_lt, Int32.lt_iff_toInt_lt, Int32.lt_iff_toInt_lt, dg_lo h]
  show (¬ x.toInt < 49 ∧ ¬ 52 < x.toInt) ↔ ¬ (x.toInt - 48 < 1 ∨ 4 < x.toInt - 48)
  omega
theorem dg_l {x : Int32} (h : ¬ x < -1 ∧ ¬ 255 < x) : (¬ x.toInt64 < (48 : Int64) ∧ ¬ (52 : Int64) < x.toInt64) ↔ ¬ (x - 48 < 0 ∨ 4 < x - 48) := by
  rw [in_k x 48 52 (l2 := 48) (h2 := 52) rfl rfl, Int32.lt_iff_toInt_lt, Int32.lt_iff_toInt_lt, Int32.lt_iff_toInt_lt, Int32.lt_iff_toInt_lt, dg_lo h]
  show (¬ x.toInt < 48 ∧ ¬ 52 < x.toInt) ↔ ¬ (x.toInt - 48 < 0 ∨ 4 < x.toInt - 48)
  omega
def ps_q (k b : Nat) (P : Prop) (M : sk_M) (r : Int32) (M' : sk_M) : Prop := (P ∧ r = 1 ∧ M' = sk_ms M k 21 (nI (b + 1))) ∨ (¬ P ∧ r = 0 ∧ M = M')
def mj_q (k q : Nat) (s : Nat → Int32) (b : Nat) (M : sk_M) (r : Int32) (M' : sk_M) : Prop :=
  (∃ x, tj s b = .inl x ∧ r = 0 ∧ M' k 21 = nI x ∧ mt_f k M M') ∨ ∃ x j, tj s b = .inr (x, j) ∧ r = 1 ∧ M' k 21 = nI x ∧ mt_f k M M' ∧ ∀ y, M' (k + 7) y = if y = q then j.1 else if y = q + 1 then j.2.1 else if y = q + 2 then j.2.2 else M (k + 7) y
theorem rj_0 {M : sk_M} {k q b : Nat} {s : Nat → Int32} (h1 : ¬ (s b - 48 < 1 ∨ 4 < s b - 48)) (h2 : ¬ tk (s (b + 1)) = -1) (h3 : tc (s (b + 2)) (tk (s (b + 1))) = 0) : mj_q k q s b M 1 (sk_ms (sk_ms (sk_ms (sk_ms (sk_ms M (k + 7) (q + 1) (s b - 48)) k 21 (nI (b + 1))) k 21 (nI (b + 2))) (k + 7) q (tk (s (b + 1)))) (k + 7) (q + 2) 0) := by
  refine Or.inr ⟨b + 2, (tk (s (b + 1)), s b - 48, 0), by rw [tj, if_neg h1, if_neg h2, if_pos h3, h3], rfl, ?_, mt_f.w (mt_f.w (mt_f.s (mt_f.s (mt_f.w mt_f.r)))), fun y => ?_⟩
  · rw [sk_ne (by omega), sk_ne (by omega), sk_sm]
  · by_cases e1 : y = q
    · subst e1; rw [if_pos rfl, sk_ne (by omega), sk_sm]
    · rw [if_neg e1]
      by_cases e2 : y = q + 1
      · subst e2; rw [if_pos rfl, sk_ne (by omega), sk_ne (by omega), sk_ne (by omega), sk_ne (by omega), sk_sm]
      · rw [if_neg e2]
        by_cases e3 : y = q + 2
        · subst e3; rw [if_pos rfl, sk_sm]
        · rw [if_neg e3, sk_ne (by omega), sk_ne (by omega), sk_ne (by omega), sk_ne (by omega), sk_ne (by omega)]
theorem rj_1 {M : sk_M} {k q b : Nat} {s : Nat → Int32} {c : Int32} (h1 : ¬ (s b - 48 < 1 ∨ 4 < s b - 48)) (h2 : ¬ tk (s (b + 1)) = -1) (h3 : tc (s (b + 2)) (tk (s (b + 1))) = c) (hc : ¬ c = 0) : mj_q k q s b M 1 (sk_ms (sk_ms (sk_ms (sk_ms (sk_ms (sk_ms M (k + 7) (q + 1) (s b - 48)) k 21 (nI (b + 1))) k 21 (nI (b + 2))) (k + 7) q (tk (s (b + 1)))) k 21 (nI (b + 2 + 1))) (k + 7) (q + 2) c) := by
  refine Or.inr ⟨b + 3, (tk (s (b + 1)), s b - 48, c), by rw [tj, if_neg h1, if_neg h2, h3, if_neg hc], rfl, ?_, mt_f.w (mt_f.s (mt_f.w (mt_f.s (mt_f.s (mt_f.w mt_f.r))))), fun y => ?_⟩
  · rw [sk_ne (by omega), sk_sm]
  · by_cases e1 : y = q
    · subst e1; rw [if_pos rfl, sk_ne (by omega), sk_ne (by omega), sk_sm]
    · rw [if_neg e1]
      by_cases e2 : y = q + 1
      · subst e2; rw [if_pos rfl, sk_ne (by omega), sk_ne (by omega), sk_ne (by omega), sk_ne (by omega), sk_ne (by omega), sk_sm]
      · rw [if_neg e2]
        by_cases e3 : y = q + 2
        · subst e3; rw [if_pos rfl, sk_sm]
        · rw [if_neg e3, sk_ne (by omega), sk_ne (by omega), sk_ne (by omega), sk_ne (by omega), sk_ne (by omega), sk_ne (by omega)]
def mo_pj (T : Nat → Int32) (z : Nat) (j : sk_J) : Prop := T z = j.1 ∧ T (z + 1) = j.2.1 ∧ T (z + 2) = j.2.2
def mo_pe (T : Nat → Int32) (q : Nat) (el : sk_E) : Prop := T q = el.1 ∧ T (q + 1) = nI el.2.length ∧ el.2.length ≤ 3 ∧ ∀ (p : Nat) (j : sk_J), el.2[p]? = some j → mo_pj T (q + 2 + 3 * p) j
def me_q (k q : Nat) (s : Nat → Int32) (b : Nat) (M : sk_M) (r : Int32) (M' : sk_M) : Prop :=
  (∃ x, te s b = .inl x ∧ r = 0 ∧ M' k 21 = nI x ∧ mt_f k M M') ∨ ∃ x el, te s b = .inr (x, el) ∧ r = 1 ∧ M' k 21 = nI x ∧ mt_f k M M' ∧ mo_pe (M' (k + 7)) q el ∧ ∀ y, (y < q ∨ q + 11 ≤ y) → M' (k + 7) y = M (k + 7) y
theorem el_lf {M : sk_M} {k q b : Nat} {s : Nat → Int32} {ty : Int32} (h : te s b = tlv s ty b) (h1 : s (b + 1) - 48 < 0 ∨ 4 < s (b + 1) - 48) : me_q k q s b M 0 (sk_ms (sk_ms M k 21 (nI (b + 1))) (k + 7) q ty) :=
  Or.inl ⟨b + 1, by rw [h, tlv, if_pos h1], rfl, by rw [sk_ne (by omega), sk_sm], mt_f.w (mt_f.s mt_f.r)⟩
theorem el_lv {M : sk_M} {k q b : Nat} {s : Nat → Int32} {ty : Int32} (h : te s b = tlv s ty b) (h1 : ¬ (s (b + 1) - 48 < 0 ∨ 4 < s (b + 1) - 48)) (hz : ∀ y, q ≤ y → y < q + 18 → M (k + 7) y = 0) : me_q k q s b M 1 (sk_ms (sk_ms (sk_ms (sk_ms (sk_ms (sk_ms M k 21 (nI (b + 1))) (k + 7) q ty) (k + 7) (q + 1) 1) (k + 7) (q + 2) (-1)) (k + 7) (q + 2 + 1) (s (b + 1) - 48)) k 21 (nI (b + 2))) := by
  refine Or.inr ⟨b + 2, (ty, [(-1, s (b + 1) - 48, 0)]), by rw [h, tlv, if_neg h1], rfl, sk_sm, mt_f.s (mt_f.w (mt_f.w (mt_f.w (mt_f.w (mt_f.s mt_f.r))))), ⟨?_, ?_, by simp, fun p j hp => ?_⟩, fun y hy => ?_⟩
  · rw [sk_ne (by omega), sk_ne (by omega), sk_ne (by omega), sk_ne (by omega), sk_sm]
  · rw [sk_ne (by omega), sk_ne (by omega), sk_ne (by omega), sk_sm]; rfl
  · have hp0 : p = 0 := by
      have := (List.getElem?_eq_some_iff.mp hp).1
      simp at this
      omega
    subst hp0
    cases hp
    refine ⟨?_, ?_, ?_⟩
    · show _ = (-1 : Int32)
      rw [sk_ne (by omega), sk_ne (by omega), show q + 2 + 3 * 0 = q + 2 from by omega, sk_sm]
    · rw [sk_ne (by omega), show q + 2 + 3 * 0 + 1 = q + 2 + 1 from by omega, sk_sm]
    · rw [sk_ne (by omega), sk_ne (by omega), sk_ne (by omega), sk_ne (by omega), sk_ne (by omega), sk_ne (by omega)]
      exact hz _ (by omega) (by omega)
  · rw [sk_ne (by omega), sk_ne (by omega), sk_ne (by omega), sk_ne (by omega), sk_ne (by omega), sk_ne (by omega)]
/-- a chain so far -/
def mc_c (k q : Nat) (M : sk_M) (i : Nat) (N : sk_M) (js : List sk_J) : Prop := js.length = i ∧ N (k + 7) q = 0 ∧ N (k + 7) (q + 1) = nI i ∧ (∀ (p : Nat) (j : sk_J), js[p]? = some j → mo_pj (N (k + 7)) (q + 2 + 3 * p) j) ∧ ∀ y, (y < q ∨ q + 11 ≤ y) → N (k + 7) y = M (k + 7) y
theorem mc_c.k {k q i : Nat} {M N : sk_M} {js : List sk_J} {v : Int32} (h : mc_c k q M i N js) : mc_c k q M i (sk_ms N k 21 v) js := by
  unfold mc_c
  rw [sk_nf (show k + 7 ≠ k from by omega)]
  exact h
theorem mc_c.s {k q i : Nat} {M N P : sk_M} {js : List sk_J} {w : sk_J} (h : mc_c k q M i N js) (hi : i < 3) (hP : ∀ y, P (k + 7) y = if y = q + 2 + 3 * i then w.1 else if y = q + 2 + 3 * i + 1 then w.2.1 else if y = q + 2 + 3 * i + 2 then w.2.2 else N (k + 7) y) : mc_c k q M (i + 1) (sk_ms P (k + 7) (q + 1) (nI (i + 1))) (js ++ [w]) := by
  obtain ⟨h1, h2, h3, h4, h5⟩ := h
  have hP0 : ∀ y, (y < q + 2 + 3 * i ∨ q + 5 + 3 * i ≤ y) → P (k + 7) y = N (k + 7) y := fun y hy => by rw [hP, if_neg (by omega), if_neg (by omega), if_neg (by omega)]
  refine ⟨by simp [h1], ?_, sk_sm, fun p j hp => ?_, fun y hy => ?_⟩
  · rw [sk_ne (by omega), hP0 _ (by omega)]; exact h2
  · by_cases hp2 : p < js.length
    · have h9 : js[p]? = some j := by rw [← hp]; exact (List.getElem?_append_left hp2).symm
      obtain ⟨g1, g2, g3⟩ := h4 p j h9
      refine ⟨?_, ?_, ?_⟩
      · rw [sk_ne (by omega), hP0 _ (by omega)]; exact g1
      · rw [sk_ne (by omega), hP0 _ (by omega)]; exact g2
      · rw [sk_ne (by omega), hP0 _ (by omega)]; exact g3
    · have h0 : p = js.length := by
        have := (List.getElem?_eq_some_iff.mp hp).1
        simp at this
        omega
      subst h0
      have h9 : j = w := by
        have : (js ++ [w])[js.length]? = some w := by rw [List.getElem?_append_right (Nat.le_refl _), Nat.sub_self]; rfl
        exact Option.some.inj (hp.symm.trans this)
      subst h9
      subst h1
      refine ⟨?_, ?_, ?_⟩
      · rw [sk_ne (by omega), hP, if_pos rfl]
      · rw [sk_ne (by omega), hP, if_neg (by omega), if_pos rfl]
      · rw [sk_ne (by omega), hP, if_neg (by omega), if_neg (by omega), if_pos rfl]
  · rw [sk_ne (by omega), hP0 _ (by omega)]; exact h5 y hy
/-- a whole text so far -/
def mx_c (k i : Nat) (N : sk_M) (L : List sk_E) : Prop := L.length = i ∧ N (k + 7) 0 = nI i ∧ (∀ (e : Nat) (el : sk_E), L[e]? = some el → mo_pe (N (k + 7)) (17 + 18 * e) el ∧ ∀ y, 11 ≤ y → y < 18 → N (k + 7) (17 + 18 * e + y) = 0) ∧ ∀ y, 17 + 18 * i ≤ y → y < 233 → N (k + 7) y = 0
theorem mx_c.k {k i : Nat} {N : sk_M} {L : List sk_E} {v : Int32} (h : mx_c k i N L) : mx_c k i (sk_ms N k 21 v) L := by
  unfold mx_c
  rw [sk_nf (show k + 7 ≠ k from by omega)]
  exact h
theorem mo_pe.c {T T' : Nat → Int32} {q : Nat} {el : sk_E} (h : ∀ y, q ≤ y → y < q + 11 → T' y = T y) (g : mo_pe T q el) : mo_pe T' q el := by
  obtain ⟨g1, g2, g3, g4⟩ := g
  refine ⟨by rw [h _ (by omega) (by omega)]; exact g1, by rw [h _ (by omega) (by omega)]; exact g2, g3, fun p j hp => ?_⟩
  obtain ⟨a1, a2, a3⟩ := g4 p j hp
  have hl := (List.getElem?_eq_some_iff.mp hp).1
  exact ⟨by rw [h _ (by omega) (by omega)]; exact a1, by rw [h _ (by omega) (by omega)]; exact a2, by rw [h _ (by omega) (by omega)]; exact a3⟩
theorem mx_c.s {k i : Nat} {N P : sk_M} {L : List sk_E} {el : sk_E} (h : mx_c k i N L) (hi : i < 12) (hP : mo_pe (P (k + 7)) (17 + 18 * i) el) (hf : ∀ y, (y < 17 + 18 * i ∨ 17 + 18 * i + 11 ≤ y) → P (k + 7) y = N (k + 7) y) : mx_c k (i + 1) (sk_ms P (k + 7) 0 (nI (i + 1))) (L ++ [el]) := by
  obtain ⟨h1, h2, h3, h4⟩ := h
  refine ⟨by simp [h1], sk_sm, fun e x he => ?_, fun y g1 g2 => ?_⟩
  · by_cases hl : e < L.length
    · obtain ⟨g1, g2⟩ := h3 e x (by rw [← he]; exact (List.getElem?_append_left hl).symm)
      exact ⟨mo_pe.c (fun y z1 z2 => by rw [sk_ne (by omega), hf _ (by omega)]) g1, fun y z1 z2 => by rw [sk_ne (by omega), hf _ (by omega)]; exact g2 y z1 z2⟩
    · have h0 : e = L.length := by
        have := (List.getElem?_eq_some_iff.mp he).1
        simp at this
        omega
      subst h0
      have h9 : x = el := by
        have : (L ++ [el])[L.length]? = some el := by rw [List.getElem?_append_right (Nat.le_refl _), Nat.sub_self]; rfl
        exact Option.some.inj (he.symm.trans this)
      subst h9
      subst h1
      exact ⟨mo_pe.c (fun y z1 z2 => sk_ne (by omega)) hP, fun y z1 z2 => by rw [sk_ne (by omega), hf _ (by omega)]; exact h4 _ (by omega) (by omega)⟩
  · rw [sk_ne (by omega), hf _ (by omega)]; exact h4 y (by omega) g2
theorem tx_n {S : Nat → Int32} {n a : Nat} (h : ¬ tx S n a = -1) : a < n := by
  refine Classical.byContradiction (fun q => h ?_)
  rw [tx, if_neg q]
theorem tj_n {S : Nat → Int32} {n b x : Nat} {j : sk_J} (h : tj (tx S n) b = .inr (x, j)) : x ≤ n := by
  unfold tj at h
  split at h
  · cases h
  · split at h
    · cases h
    · rename_i h2
      have h3 : b + 1 < n := tx_n (fun q => h2 (by rw [q]; decide))
      cases h
      split
      · omega
      · rename_i h4
        have h5 : b + 2 < n := tx_n (fun q => h4 (by rw [q]; rfl))
        omega
theorem tcl_nn {S : Nat → Int32} {n : Nat} : ∀ (k b : Nat) (js : List sk_J) (x : Nat) (js' : List sk_J), tcl (tx S n) (k + 1) b js = .inr (x, js') → x ≤ n
  | k, b, js, x, js', h => by
    cases q : tj (tx S n) b with
    | inl y => rw [tcl_e q] at h; cases h
    | inr y =>
      obtain ⟨x9, w⟩ := y
      by_cases c : tx S n x9 = 43 ∧ 0 < k
      · rw [tcl_y q c] at h
        obtain ⟨k2, rfl⟩ : ∃ z, k = z + 1 := ⟨k - 1, by omega⟩
        exact tcl_nn k2 _ _ _ _ h
      · rw [tcl_n q c] at h
        cases h
        exact tj_n q
theorem te_n {S : Nat → Int32} {n b x : Nat} {el : sk_E} (hS : ∀ i, i < n → ¬ S i < 0 ∧ ¬ 255 < S i) (h : te (tx S n) b = .inr (x, el)) : x ≤ n := by
  have key : ∀ ty, tlv (tx S n) ty b = .inr (x, el) → x ≤ n := by
    intro ty h
    unfold tlv at h
    split at h
    · cases h
    · rename_i h2
      cases h
      have h3 : b + 1 < n := tx_n (fun q => h2 (by rw [q]; decide))
      omega
  unfold te at h
  split at h
  · exact key _ h
  · split at h
    · exact key _ h
    · unfold tch at h
      split at h
      · cases h
      · cases h
        rename_i q
        exact tcl_nn 2 _ _ _ _ q
def mx_h (T : Nat → Int32) (L : List sk_E) : Prop := T 0 = nI L.length ∧ ∀ (e : Nat) (el : sk_E), L[e]? = some el → mo_pe T (17 + 18 * e) el ∧ ∀ y, 11 ≤ y → y < 18 → T (17 + 18 * e + y) = 0
def mx_q (k n : Nat) (s : Nat → Int32) (M : sk_M) (r : Int32) (M' : sk_M) : Prop := (∃ x, tt s n = .inl x ∧ r = nI x ∧ mt_f k M M') ∨ ∃ L, tt s n = .inr L ∧ r = -1 ∧ L.length ≤ 12 ∧ mt_f k M M' ∧ mx_h (M' (k + 7)) L
/-- the chain's walk -/
def mi_c (k q : Nat) (s : Nat → Int32) (b : Nat) (M : sk_M) (i : Nat) (N : sk_M) (x : Nat) (js : List sk_J) (mo : Int32) : Prop :=
  mc_c k q M i N js ∧ N k 21 = nI x ∧ mt_f k M N ∧ x ≤ b + 4 * i ∧ ((mo = 1 ∧ i < 3 ∧ tcl s 3 b [] = tcl s (3 - i) x js) ∨ (mo = 0 ∧ tcl s 3 b [] = .inr (x, js)))
def mi_x (k n : Nat) (s : Nat → Int32) (M : sk_M) (i : Nat) (N : sk_M) (b : Nat) (L : List sk_E) (mo : Int32) : Prop :=
  mx_c k i N L ∧ N k 21 = nI b ∧ mt_f k M N ∧ b ≤ 25 * i ∧ b ≤ n ∧ ((mo = 1 ∧ i < 12 ∧ tt s n = tel s n (12 - i) b L) ∨ (mo = 0 ∧ tt s n = if b = n then .inr L else .inl b))
/-! The model: elements, whole texts -/
theorem mi_0 {M : sk_M} {k q b : Nat} {s : Nat → Int32} (hb : M k 21 = nI b) (hz : ∀ y, q ≤ y → y < q + 18 → M (k + 7) y = 0) : mi_c k q s b M 0 (sk_ms M (k + 7) q 0) b [] 1 := by
  refine ⟨⟨rfl, sk_sm, ?_, fun p j h => by simp at h, fun y h => sk_ne (by omega)⟩, ?_, mt_f.w mt_f.r, by omega, Or.inl ⟨rfl, by omega, rfl⟩⟩
  · rw [sk_ne (by omega)]; exact hz _ (by omega) (by omega)
  · rw [sk_ne (by omega)]; exact hb
theorem mi_x0 {M : sk_M} {k n : Nat} {s : Nat → Int32} : mi_x k n s M 0 (sk_ms (sk_fm M (k + 7) 0 233) k 21 0) 0 [] 1 := by
  refine ⟨⟨rfl, ?_, fun e el h => by simp at h, fun y h1 h2 => ?_⟩, sk_sm, ⟨fun a h1 h2 => ?_, fun y h1 => ?_⟩, by omega, by omega, Or.inl ⟨rfl, by omega, rfl⟩⟩
  · rw [sk_ne (by omega)]; simp [sk_fm, sk_mr]; rfl
  · rw [sk_ne (by omega)]; simp [sk_fm, sk_mr]; omega
  · rw [sk_nf h2]; funext y; exact sk_nr h1
  · rw [sk_ne (Or.inr h1)]; exact sk_nr (by omega)
/-! The model: what a call that asks leaves as it was -/
def mo_fr (k : Nat) (M M' : sk_M) : Prop := (∀ a, (a < k ∨ k + 16 ≤ a ∨ (k < a ∧ a ≠ k + 3 ∧ a < k + 7)) → M' a = M a) ∧ M' k 2 = M k 2 ∧ M' k 6 = M k 6
def mo_g (k : Nat) (M M' : sk_M) : Prop := M' k 0 = M k 0 ∧ mo_fr k M M'
theorem mo_g.r {k : Nat} {M : sk_M} : mo_g k M M := ⟨rfl, fun _ _ => rfl, rfl, rfl⟩
theorem mo_g.t {k : Nat} {M N P : sk_M} (h : mo_g k M N) (g : mo_g k N P) : mo_g k M P := ⟨g.1.trans h.1, fun a h1 => (g.2.1 a h1).trans (h.2.1 a h1), g.2.2.1.trans h.2.2.1, g.2.2.2.trans h.2.2.2⟩
theorem mo_g.f {k j : Nat} {M N : sk_M} {v : Int32} (hj : j ≠ 0 ∧ j ≠ 2 ∧ j ≠ 6) (h : mo_g k M N) : mo_g k M (sk_ms N k j v) := ⟨by rw [sk_ne (by omega)]; exact h.1, fun a h1 => by rw [sk_nf (by omega)]; exact h.2.1 a h1, by rw [sk_ne (by omega)]; exact h.2.2.1, by rw [sk_ne (by omega)]; exact h.2.2.2⟩
theorem mo_g.w {k a j : Nat} {M N : sk_M} {v : Int32} (ha : a = k + 3 ∨ (k + 7 ≤ a ∧ a < k + 16)) (h : mo_g k M N) : mo_g k M (sk_ms N a j v) := ⟨by rw [sk_ne (by omega)]; exact h.1, fun x h1 => by rw [sk_nf (by omega)]; exact h.2.1 x h1, by rw [sk_ne (by omega)]; exact h.2.2.1, by rw [sk_ne (by omega)]; exact h.2.2.2⟩
theorem mo_g.c {k a b p q n : Nat} {M N : sk_M} (hb : b = k + 3) (h : mo_g k M N) : mo_g k M (mc_m N a b p q n) := ⟨by rw [mc_m_f (by omega)]; exact h.1, fun x h1 => by rw [mc_m_f (by omega)]; exact h.2.1 x h1, by rw [mc_m_f (by omega)]; exact h.2.2.1, by rw [mc_m_f (by omega)]; exact h.2.2.2⟩
theorem mo_g.mw {k a s e : Nat} {M N : sk_M} (h : mo_g k M N) : mo_g k M (mw_m N k a s e) := ⟨by rw [mw_m_f (by omega)]; exact h.1, fun x h1 => by rw [mw_m_f (by omega)]; exact h.2.1 x h1, by rw [mw_m_f (by omega)]; exact h.2.2.1, by rw [mw_m_f (by omega)]; exact h.2.2.2⟩
theorem mo_g.ml {k a s : Nat} {M N : sk_M} (h : mo_g k M N) : ∀ j, mo_g k M (mk_l N k a s j)
  | 0 => mo_g.f (by omega) (mo_g.f (by omega) h)
  | j + 1 => mo_g.f (by omega) (mo_g.f (by omega) (mo_g.mw (mo_g.ml h j)))
theorem mo_g.mk {k a s n : Nat} {M N : sk_M} (h : mo_g k M N) : mo_g k M (mk_m N k a s n) := mo_g.f (by omega) (mo_g.ml h n)
theorem mo_g.ma {k a : Nat} {M N : sk_M} (h : mo_g k M N) : ∀ s, mo_g k M (ml_l N k a s)
  | 0 => h
  | s + 1 => mo_g.w (by omega) (mo_g.w (by omega) (mo_g.mk (mo_g.ma h s)))
theorem mo_g.x {k : Nat} {M N P : sk_M} (h : mo_g k M N) (g : mt_f k N P) : mo_g k M P := ⟨(g.2 _ (by omega)).trans h.1, fun a h1 => (g.1 a (by omega) (by omega)).trans (h.2.1 a h1), (g.2 _ (by omega)).trans h.2.2.1, (g.2 _ (by omega)).trans h.2.2.2⟩
/-- a call that asks: refused, or its answer -/
def mo_z (M : sk_M) (k er : Nat) (A r : Int32) (M' : sk_M) : Prop := r = (if er = 0 then A else 0) ∧ M' k 0 = nI er ∧ mo_fr k M M'
theorem mo_z0 {M M' : sk_M} {k er : Nat} {A r : Int32} (h : er = 0) (hr : r = A) (g : mo_g k (sk_ms M k 0 0) M') : mo_z M k er A r M' :=
  ⟨by rw [if_pos h]; exact hr, by rw [g.1, sk_sm, h]; rfl, fun a h1 => by rw [g.2.1 a h1, sk_nf (by omega)], by rw [g.2.2.1, sk_ne (by omega)], by rw [g.2.2.2, sk_ne (by omega)]⟩
theorem mo_z1 {M : sk_M} {k er i : Nat} {A : Int32} (h : er = i) (hi : i ≠ 0) : mo_z M k er A 0 (sk_ms M k 0 (nI i)) :=
  ⟨by rw [if_neg (by omega)], by rw [sk_sm, h], fun a h1 => sk_nf (by omega), sk_ne (by omega), sk_ne (by omega)⟩
theorem mo_ix {w hi : Int32} {m : Nat} (h : ¬ w < 0 ∧ ¬ hi < w) (hh : hi = nI m) (hm : m + 1 < 2 ^ 31) : w = nI w.toNatClampNeg ∧ w.toNatClampNeg < m + 1 := by
  refine sk_ix (y := nI (m + 1)) ⟨h.1, fun q => ?_⟩ rfl hm
  obtain ⟨j, h1, rfl⟩ := nI_of h.1
  rw [nI_leI hm h1] at q
  apply h.2
  rw [hh, nI_ltI (by omega) h1]
  omega
theorem mp_a_t {T S : Nat → Int32} {a b c : Nat} (h : mp_a T S a b) (g : mp_a T S b c) : mp_a T S a c := by
  unfold mp_a at *
  simp only [Int32.lt_iff_toInt_lt, ← Int32.toInt_inj] at *
  omega
theorem mp_a_i {T S : Nat → Int32} {a : Nat} : ¬ mp_a T S a a := by
  unfold mp_a
  simp only [Int32.lt_iff_toInt_lt]
  omega
theorem mp_a_o {T S : Nat → Int32} {a b : Nat} (h : a ≠ b) (g : ¬ mp_a T S a b) : mp_a T S b a := by
  unfold mp_a at *
  simp only [Int32.lt_iff_toInt_lt, ← Int32.toInt_inj] at *
  omega
theorem mp_c_0 {T S : Nat → Int32} {s n : Nat} : mp_c T S s n = 0 ↔ ∀ j, j < n → ¬ mp_a T S j s := by
  induction n with
  | zero => exact ⟨fun _ j h => absurd h (Nat.not_lt_zero _), fun _ => rfl⟩
  | succ n ih =>
    show mp_c T S s n + (if mp_a T S n s then 1 else 0) = 0 ↔ _
    constructor
    · intro h j hj
      by_cases q : mp_a T S n s
      · rw [if_pos q] at h; omega
      · rw [if_neg q] at h
        by_cases e : j = n
        · rw [e]; exact q
        · exact ih.mp (by omega) j (by omega)
    · intro h
      rw [if_neg (h n (by omega)), ih.mpr (fun j hj => h j (by omega))]
def mo_w (T S : Nat → Int32) : Nat → Nat
  | 0 => 0
  | i + 1 => if mp_a T S i (mo_w T S i) then i else mo_w T S i
theorem mo_w_lt {T S : Nat → Int32} : ∀ n, 0 < n → mo_w T S n < n
  | 0, h => absurd h (Nat.lt_irrefl _)
  | 1, _ => by unfold mo_w; split <;> first | omega | exact Nat.zero_lt_one
  | n + 2, _ => by
    have := mo_w_lt (T := T) (S := S) (n + 1) (by omega)
    unfold mo_w
    split <;> omega
theorem mo_w_0 {T S : Nat → Int32} : ∀ n, ∀ j, j < n → ¬ mp_a T S j (mo_w T S n)
  | 0, j, h => absurd h (Nat.not_lt_zero _)
  | n + 1, j, h => by
    have ih := mo_w_0 (T := T) (S := S) n
    unfold mo_w
    split
    · rename_i q
      intro g
      by_cases e : j = n
      · subst e; exact mp_a_i g
      · exact ih j (by omega) (mp_a_t g q)
    · rename_i q
      by_cases e : j = n
      · subst e; exact q
      · exact ih j (by omega)
theorem mo_w_u {T S : Nat → Int32} {n i : Nat} (hi : i < n) (h : mp_c T S i n = 0) : i = mo_w T S n := by
  refine Classical.byContradiction (fun q => ?_)
  have h1 := mp_c_0.mp h
  have h2 := mo_w_0 (T := T) (S := S) n
  exact h2 i hi (mp_a_o (Ne.symm q) (h1 _ (mo_w_lt n (by omega))))
theorem mp_w {T S : Nat → Int32} {m : Nat} {r : Int32} (h : mp_q T S m r) : r = if m = 0 then -1 else nI (mo_w T S m) := by
  rcases h with ⟨i, h1, h2, h3, h4⟩ | ⟨h1, h2⟩
  · rw [if_neg (by omega), h4, mo_w_u h1 h2]
  · by_cases e : m = 0
    · rw [if_pos e, h2]
    · exact absurd (mp_c_0.mpr (mo_w_0 m)) (h1 _ (mo_w_lt m (by omega)))
theorem mp_a_c {T S T' S' : Nat → Int32} {a b : Nat} (h1 : T a = T' a ∧ S a = S' a) (h2 : T b = T' b ∧ S b = S' b) : mp_a T S a b ↔ mp_a T' S' a b := by
  unfold mp_a
  rw [h1.1, h1.2, h2.1, h2.2]
theorem mp_c_c {T S T' S' : Nat → Int32} {s n : Nat} (h : ∀ i, i < n → T i = T' i ∧ S i = S' i) (hs : T s = T' s ∧ S s = S' s) : mp_c T S s n = mp_c T' S' s n := by
  induction n with
  | zero => rfl
  | succ n ih =>
    have e := mp_a_c (h n (by omega)) hs
    show mp_c T S s n + (if mp_a T S n s then 1 else 0) = mp_c T' S' s n + (if mp_a T' S' n s then 1 else 0)
    rw [ih (fun i hi => h i (by omega))]
    by_cases q : mp_a T S n s
    · rw [if_pos q, if_pos (e.mp q)]
    · rw [if_neg q, if_neg (fun z => q (e.mpr z))]
theorem mo_w_c {T S T' S' : Nat → Int32} : ∀ n, (∀ i, i < n → T i = T' i ∧ S i = S' i) → mo_w T S n = mo_w T' S' n
  | 0, _ => rfl
  | 1, h => by
    show (if mp_a T S 0 0 then 0 else 0) = (if mp_a T' S' 0 0 then 0 else 0)
    split <;> split <;> rfl
  | n + 2, h => by
    have ih := mo_w_c (T := T) (S := S) (T' := T') (S' := S') (n + 1) (fun i hi => h i (by omega))
    have hl := mo_w_lt (T := T) (S := S) (n + 1) (by omega)
    have e := mp_a_c (h (n + 1) (by omega)) (h (mo_w T S (n + 1)) (by omega))
    show (if mp_a T S (n + 1) (mo_w T S (n + 1)) then n + 1 else mo_w T S (n + 1)) = (if mp_a T' S' (n + 1) (mo_w T' S' (n + 1)) then n + 1 else mo_w T' S' (n + 1))
    rw [← ih]
    by_cases q : mp_a T S (n + 1) (mo_w T S (n + 1))
    · rw [if_pos q, if_pos (e.mp q)]
    · rw [if_neg q, if_neg (fun z => q (e.mpr z))]
abbrev mo_pl (r : Nat → Int32) (s m : Nat) : Nat := mp_c (mo_T r) (mo_S r) s m
theorem ml_pl {M : sk_M} {k a s m : Nat} (hs : s < m) : mp_c (ml_l M k a m (k + 14)) (ml_l M k a m (k + 15)) s m = mo_pl (M a) s m := mp_c_c (fun i hi => ml_l_T m hi) (ml_l_T m hs)
def mo_fv (r : Nat → Int32) (m : Nat) : Int32 := if m = 0 then -1 else nI (mo_w (mo_T r) (mo_S r) m)
theorem ml_fv {M : sk_M} {k a m : Nat} {x : Int32} (h : mp_q (ml_l M k a m (k + 14)) (ml_l M k a m (k + 15)) m x) : x = mo_fv (M a) m := by
  rw [mp_w h, mo_fv, mo_w_c m (fun i hi => ml_l_T m hi)]
def mo_sk (r : Nat → Int32) (s m : Nat) (w : Int32) : Int32 :=
  if w = 0 then r (6 + 233 * s) else if w = 1 then mo_S r s else if w = 2 then mo_cp r s else if w = 3 then mo_of r s (mo_c r s) else if w = 4 then mo_T r s else if w = 5 then nI (mo_pl r s m)
  else if w = 6 then sk_sum (fun e => r (23 + 233 * s + 18 * e + 16)) (mo_c r s) else sk_sum (fun e => r (23 + 233 * s + 18 * e + 17)) (mo_c r s)
def mo_el (r : Nat → Int32) (s e : Nat) (w : Int32) : Int32 :=
  if w = 0 then mo_ty r s e else if w = 1 then mo_np r s e else if w = 2 then mo_ba r s e else if w = 3 then mo_ke r (23 + 233 * s + 18 * e + 11) else if w = 4 then mo_gr r s e else if w = 5 then mo_ba r s e + mo_gr r s e
  else if w = 6 then r (23 + 233 * s + 18 * e + 16) else if w = 7 then r (23 + 233 * s + 18 * e + 17) else if mo_bn r s e then 1 else 0
def mo_pa (r : Nat → Int32) (s e p : Nat) (w : Int32) : Int32 := if w < 3 then r (25 + 233 * s + 18 * e + 3 * p + w.toNatClampNeg) else if w = 3 then mo_v r s e p else mo_wy r s e p
theorem mw_l_v {M : sk_M} {k a s e p : Nat} : ∀ n, p < n → mw_l M k a s e n (k + 8) (3 * e + p) = mo_v (M a) s e p ∧ mw_l M k a s e n (k + 9) (3 * e + p) = mo_wy (M a) s e p
  | 0, h => absurd h (Nat.not_lt_zero _)
  | n + 1, h => by
    unfold mw_l
    by_cases q : p = n
    · subst q
      exact ⟨by rw [sk_ne (by omega), sk_sm], by rw [sk_sm]⟩
    · have := mw_l_v (M := M) (k := k) (a := a) (s := s) (e := e) (p := p) n (by omega)
      rw [sk_ne (by omega), sk_ne (by omega), sk_ne (by omega), sk_ne (by omega)]
      exact this
theorem mw_l_u {M : sk_M} {k a s e b y : Nat} (h : y < 3 * e) : ∀ n, mw_l M k a s e n b y = M b y
  | 0 => rfl
  | n + 1 => by
    unfold mw_l
    rw [sk_ne (by omega), sk_ne (by omega), mw_l_u h n]
theorem mw_m_v {M : sk_M} {k a s e p : Nat} (h : p < mo_n (M a) s e) : mw_m M k a s e (k + 8) (3 * e + p) = mo_v (M a) s e p ∧ mw_m M k a s e (k + 9) (3 * e + p) = mo_wy (M a) s e p := by
  unfold mw_m
  rw [sk_ne (by omega), sk_ne (by omega), sk_ne (by omega), sk_ne (by omega), sk_ne (by omega), sk_ne (by omega), sk_ne (by omega), sk_ne (by omega)]
  exact mw_l_v _ h
theorem mw_m_k {M : sk_M} {k a s e : Nat} : mw_m M k a s e (k + 11) e = mo_ke (M a) (23 + 233 * s + 18 * e + 11) := by
  unfold mw_m
  rw [sk_ne (by omega), sk_sm]
theorem mw_m_n {M : sk_M} {k a s e : Nat} : mw_m M k a s e (k + 13) e = if mo_bn (M a) s e then 1 else 0 := by
  unfold mw_m
  rw [sk_ne (by omega), sk_ne (by omega), sk_ne (by omega), sk_sm]
theorem mk_l_y {M : sk_M} {k a s N : Nat} (hka : k < a ∧ a < k + 8) (hp : mo_pp (M a) s N) : ∀ n, n ≤ N → ∀ e p, e < n → p < mo_n (M a) s e → mk_l M k a s n (k + 9) (3 * e + p) = mo_wy (M a) s e p
  | 0, _, e, p, h, _ => absurd h (Nat.not_lt_zero _)
  | n + 1, hn, e, p, h, h2 => by
    have e0 : mk_l M k a s n a = M a := mk_l_f (by omega) (by omega) n
    unfold mk_l
    rw [sk_ne (by omega), sk_ne (by omega)]
    by_cases q : e = n
    · subst q
      have := (mw_m_v (M := mk_l M k a s e) (k := k) (a := a) (s := s) (e := e) (p := p) (by rw [e0]; exact h2)).2
      rw [this, e0]
    · have h3 := (mo_nn hp (i := e) (by omega)).2
      unfold mw_m
      rw [sk_ne (by omega), sk_ne (by omega), sk_ne (by omega), sk_ne (by omega), mw_l_u (by omega)]
      exact mk_l_y hka hp n (by omega) e p (by omega) h2
/-! The model: calls that ask -/
theorem mk_m_t {M : sk_M} {k a s n : Nat} : mk_m M k a s n k 16 = mo_te (M a) s n := by rw [mk_m, sk_ne (by omega), mk_l_t]
theorem mk_m_o {M : sk_M} {k a s n : Nat} : mk_m M k a s n k 18 = mo_of (M a) s n := by rw [mk_m, sk_ne (by omega), mk_l_o]
theorem mk_m_c {M : sk_M} {k a s n : Nat} : mk_m M k a s n k 17 = mo_cp (M a) s := by rw [mk_m, sk_sm]
theorem mk_m_y {M : sk_M} {k a s N e p : Nat} (hka : k < a ∧ a < k + 8) (hp : mo_pp (M a) s N) (he : e < N) (h2 : p < mo_n (M a) s e) : mk_m M k a s N (k + 9) (3 * e + p) = mo_wy (M a) s e p := by
  rw [mk_m, sk_ne (by omega), mk_l_y hka hp N (Nat.le_refl _) e p he h2]
def mj_l (M : sk_M) (k : Nat) : Nat → sk_M
  | 0 => sk_ms M k 0 0
  | i + 1 => mk_m (mj_l M k i) k (k + 2) i (mo_c (M (k + 2)) i)
theorem mj_l_f {M : sk_M} {k x : Nat} (h : x < k + 8 ∨ k + 14 ≤ x) (h2 : x ≠ k) (i : Nat) : mj_l M k i x = M x := by
  induction i with
  | zero => exact sk_nf h2
  | succ i ih => unfold mj_l; rw [mk_m_f h h2, ih]
theorem mo_g.mj {k : Nat} {M : sk_M} : ∀ i, mo_g k (sk_ms M k 0 0) (mj_l M k i)
  | 0 => mo_g.r
  | i + 1 => mo_g.mk (mo_g.mj i)
def mo_lp (r : Nat → Int32) (s e : Nat) : Nat → Nat
  | 0 => 0
  | p + 1 => mo_lp r s e p + if 0 < mo_wy r s e p then 1 else 0
def mo_lq (r : Nat → Int32) (s : Nat) : Nat → Nat
  | 0 => 0
  | e + 1 => mo_lq r s e + mo_lp r s e (mo_n r s e)
def mo_la (r : Nat → Int32) : Nat → Nat
  | 0 => 0
  | s + 1 => mo_la r s + mo_lq r s (mo_c r s)
def mo_ab (r : Nat → Int32) (m : Nat) (w : Int32) : Int32 :=
  if w = 0 then r 0 else if w = 1 then sk_sum (fun s => sk_sum (fun e => r (23 + 233 * s + 18 * e + 17)) (mo_c r s)) m else if w = 2 then sk_sum (fun s => sk_sum (fun e => r (23 + 233 * s + 18 * e + 16)) (mo_c r s)) m
  else if w = 3 then sk_sum (fun s => r (6 + 233 * s)) m else if w = 4 then mo_fv r m else nI (mo_la r m)
def mn_l (N : sk_M) (k s : Nat) (t u h z : Int32) : Nat → sk_M
  | 0 => N
  | i + 1 => sk_ms (sk_ms (mn_l N k s t u h z i) (k + 14) s (t - h + mo_gd (nd_k i * z))) (k + 15) s (u - h + mo_gd (nd_k i * z))
theorem mn_l_f {N : sk_M} {k s a : Nat} {t u h z : Int32} (ha : a < k + 14 ∨ k + 16 ≤ a) (i : Nat) : mn_l N k s t u h z i a = N a := by
  induction i with
  | zero => rfl
  | succ i ih => unfold mn_l; rw [sk_nf (by omega), sk_nf (by omega), ih]
theorem mn_l_o {N : sk_M} {k s q a : Nat} {t u h z : Int32} (hq : q ≠ s) (i : Nat) : mn_l N k s t u h z i a q = N a q := by
  induction i with
  | zero => rfl
  | succ i ih => unfold mn_l; rw [sk_ne (Or.inr hq), sk_ne (Or.inr hq), ih]
theorem mo_g.mn {k s : Nat} {t u h z : Int32} {M N : sk_M} (g : mo_g k M N) : ∀ i, mo_g k M (mn_l N k s t u h z i)
  | 0 => g
  | i + 1 => mo_g.w (by omega) (mo_g.w (by omega) (mo_g.mn g i))
def mn_T (r : Nat → Int32) (s e i q : Nat) : Int32 := if q = s then mo_T r s - mo_gr r s e + mo_gd (nd_k i * mo_sm r s e (mo_n r s e)) else mo_T r q
def mn_S (r : Nat → Int32) (s e i q : Nat) : Int32 := if q = s then mo_S r s - mo_gr r s e + mo_gd (nd_k i * mo_sm r s e (mo_n r s e)) else mo_S r q
def mo_nd (r : Nat → Int32) (s e m i : Nat) : Nat := mp_c (mn_T r s e i) (mn_S r s e i) s m
theorem mn_pl {N : sk_M} {r : Nat → Int32} {k s e m i : Nat} (hs : s < m) (hN : ∀ q, q < m → N (k + 14) q = mo_T r q ∧ N (k + 15) q = mo_S r q) : mp_c (mn_l N k s (mo_T r s) (mo_S r s) (mo_gr r s e) (mo_sm r s e (mo_n r s e)) (i + 1) (k + 14)) (mn_l N k s (mo_T r s) (mo_S r s) (mo_gr r s e) (mo_sm r s e (mo_n r s e)) (i + 1) (k + 15)) s m = mo_nd r s e m i := by
  have key : ∀ q, q < m → mn_l N k s (mo_T r s) (mo_S r s) (mo_gr r s e) (mo_sm r s e (mo_n r s e)) (i + 1) (k + 14) q = mn_T r s e i q ∧ mn_l N k s (mo_T r s) (mo_S r s) (mo_gr r s e) (mo_sm r s e (mo_n r s e)) (i + 1) (k + 15) q = mn_S r s e i q := by
    intro q hq
    unfold mn_T mn_S
    by_cases h : q = s
    · subst h
      rw [if_pos rfl, if_pos rfl]
      unfold mn_l
      exact ⟨by rw [sk_ne (by omega), sk_sm], by rw [sk_sm]⟩
    · rw [if_neg h, if_neg h, mn_l_o h, mn_l_o h]
      exact hN q hq
  exact mp_c_c key (key s hs)
def mo_nq (r : Nat → Int32) (s e m : Nat) (x : Int32) : Prop := (∃ i, i < 31 ∧ (∀ j, j < i → ¬ mo_nd r s e m j = 0) ∧ mo_nd r s e m i = 0 ∧ x = 100 + nd_k i) ∨ ((∀ j, j < 31 → ¬ mo_nd r s e m j = 0) ∧ x = -1)
def mo_nz (M : sk_M) (k : Nat) (s e : Int32) (m : Nat) (x : Int32) (M' : sk_M) : Prop := (¬ mo_he (M (k + 2)) s e ∧ x = 0 ∧ M' = sk_ms M k 0 (nI 1)) ∨ (mo_he (M (k + 2)) s e ∧ mo_nq (M (k + 2)) s.toNatClampNeg e.toNatClampNeg m x ∧ M' k 0 = 0 ∧ mo_fr k M M')
theorem mo_gz {k : Nat} {M M' : sk_M} (g : mo_g k (sk_ms M k 0 0) M') : M' k 0 = 0 ∧ mo_fr k M M' :=
  ⟨by rw [g.1, sk_sm], fun a h1 => by rw [g.2.1 a h1, sk_nf (by omega)], by rw [g.2.2.1, sk_ne (by omega)], by rw [g.2.2.2, sk_ne (by omega)]⟩
/-! The model: what would be -/
def mu_u (r : Nat → Int32) (j : Nat) (v : Int32) : Nat → Int32 := fun y => if y = j then v else r y
theorem sk_msu {M : sk_M} {a j : Nat} {v : Int32} : sk_ms M a j v a = mu_u (M a) j v := by
  funext y
  unfold sk_ms mu_u
  by_cases h : y = j
  · rw [if_pos ⟨rfl, h⟩, if_pos h]
  · rw [if_neg (fun q => h q.2), if_neg h]
theorem mu_n {r : Nat → Int32} {j y : Nat} {v : Int32} (h : y ≠ j) : mu_u r j v y = r y := if_neg h
theorem mu_y {r : Nat → Int32} {j : Nat} {v : Int32} : mu_u r j v j = v := if_pos rfl
/-- the trial row behind a copy -/
def mu_c (r t : Nat → Int32) : Nat → Int32 := fun y => if y < 938 then r y else t y
theorem mc_mu {M : sk_M} {a b : Nat} : mc_m M a b 0 0 938 b = mu_c (M a) (M b) := by
  funext y
  rw [mc_m_v]
  unfold mu_c
  by_cases h : y < 938
  · rw [if_pos (by omega), if_pos h, Nat.sub_zero, Nat.zero_add]
  · rw [if_neg (by omega), if_neg h]
theorem mu_cl {r t : Nat → Int32} {y : Nat} (h : y < 938) : mu_c r t y = r y := if_pos h
theorem mo_ppc {r r' : Nat → Int32} {s n : Nat} (h : ∀ e, e < n → r' (23 + 233 * s + 18 * e + 1) = r (23 + 233 * s + 18 * e + 1)) (g : mo_pp r s n) : mo_pp r' s n := fun e he => by
  rw [h e he]; exact g e he
theorem mo_wpc {r r' : Nat → Int32} {s : Nat} (h0 : r' (6 + 233 * s) = r (6 + 233 * s)) (h : ∀ e, e < 12 → r' (23 + 233 * s + 18 * e + 1) = r (23 + 233 * s + 18 * e + 1)) (g : mo_wp r s) : mo_wp r' s := by
  obtain ⟨N, h1, h2, h3⟩ := g
  exact ⟨N, h1, by rw [h0]; exact h2, mo_ppc (fun e he => h e (by omega)) h3⟩
theorem mo_wcp {r t : Nat → Int32} {s : Nat} (hs : s < 4) (g : mo_wp r s) : mo_wp (mu_c r t) s := mo_wpc (mu_cl (by omega)) (fun e he => mu_cl (by omega)) g
def mo_zc (M : sk_M) (k : Nat) (s e p v : Int32) : Int32 := mo_T (mu_u (mu_c (M (k + 2)) (M (k + 3))) (25 + 233 * s.toNatClampNeg + 18 * e.toNatClampNeg + 3 * p.toNatClampNeg + 2) v) s.toNatClampNeg
theorem mo_cu {r : Nat → Int32} {s j : Nat} {v : Int32} (h : 6 + 233 * s ≠ j) : mo_c (mu_u r j v) s = mo_c r s := by show (mu_u r j v _).toNatClampNeg = _; rw [mu_n h]
theorem mo_cc0 {r t : Nat → Int32} {s : Nat} (h : s < 4) : mo_c (mu_c r t) s = mo_c r s := by show (mu_c r t _).toNatClampNeg = _; rw [mu_cl (by omega)]
theorem mo_e0 {e : Nat} (h : ¬ (0 : Int32) < nI e) (he : e < 100) : e = 0 := by
  refine Classical.byContradiction (fun q => h ?_)
  exact (nI_ltI (a := 0) (by omega) (by omega)).mpr (by omega)
abbrev mb_S : Type := sk_M × Int32 × Int32 × Int32
def mb_1 (N : sk_M) (k x y : Nat) : Nat → sk_M
  | 0 => mc_m N (k + 2) (k + 3) 0 0 938
  | n + 1 => sk_ms (sk_ms (mb_1 N k x y n) (k + 3) (x + n) (N (k + 2) (y + n))) (k + 3) (y + n) (N (k + 2) (x + n))
theorem mb_1_f {N : sk_M} {k x y a : Nat} (h : a ≠ k + 3) (n : Nat) : mb_1 N k x y n a = N a := by
  induction n with
  | zero => exact mc_m_f h
  | succ n ih => unfold mb_1; rw [sk_nf h, sk_nf h, ih]
theorem mb_1_v {N : sk_M} {k x y q : Nat} (hxy : x + 18 ≤ y) (hq : q < 938) : ∀ n, n ≤ 18 → mb_1 N k x y n (k + 3) q = if x ≤ q ∧ q < x + n then N (k + 2) (y + (q - x)) else if y ≤ q ∧ q < y + n then N (k + 2) (x + (q - y)) else N (k + 2) q
  | 0, _ => by
    rw [if_neg (by omega), if_neg (by omega)]
    show mc_m _ _ _ _ _ _ _ _ = _
    rw [mc_mu, mu_cl hq]
  | n + 1, hn => by
    unfold mb_1
    by_cases h1 : q = y + n
    · subst h1
      rw [sk_sm, if_neg (by omega), if_pos (by omega), Nat.add_sub_cancel_left]
    · rw [sk_ne (Or.inr h1)]
      by_cases h2 : q = x + n
      · subst h2
        rw [sk_sm, if_pos (by omega), Nat.add_sub_cancel_left]
      · rw [sk_ne (Or.inr h2), mb_1_v hxy hq n (by omega)]
        by_cases h3 : x ≤ q ∧ q < x + n
        · rw [if_pos h3, if_pos (by omega)]
        · rw [if_neg h3, if_neg (by omega : ¬ (x ≤ q ∧ q < x + (n + 1)))]
          by_cases h4 : y ≤ q ∧ q < y + n
          · rw [if_pos h4, if_pos (by omega)]
          · rw [if_neg h4, if_neg (by omega)]
theorem mo_g.b1 {k x y : Nat} {M N : sk_M} (g : mo_g k M N) : ∀ n, mo_g k M (mb_1 N k x y n)
  | 0 => mo_g.c rfl g
  | n + 1 => mo_g.w (by omega) (mo_g.w (by omega) (mo_g.b1 g n))
abbrev mb_t (N : sk_M) (k s i j : Nat) : sk_M := mb_1 N k (23 + 233 * s + 18 * i) (23 + 233 * s + 18 * j) 18
def mb_v (N : sk_M) (k s c i j : Nat) : Int32 := mo_to (mb_t N k s i j (k + 3)) s c
def mb_m (N : sk_M) (k s c i j : Nat) : sk_M := mk_m (mb_t N k s i j) k (k + 3) s c
def mb_s (k s c i j : Nat) (z : mb_S) : mb_S := if z.2.2.1 = -1 ∨ z.2.1 < mb_v z.1 k s c i j then (mb_m z.1 k s c i j, mb_v z.1 k s c i j, nI i, nI j) else (mb_m z.1 k s c i j, z.2.1, z.2.2.1, z.2.2.2)
def mb_j (k s c i : Nat) (z : mb_S) : Nat → mb_S
  | 0 => z
  | d + 1 => mb_s k s c i (i + 1 + d) (mb_j k s c i z d)
def mb_o (k s c : Nat) (z : mb_S) : Nat → mb_S
  | 0 => z
  | i + 1 => mb_j k s c i (mb_o k s c z i) (c - (i + 1))
abbrev mb_z (M : sk_M) (k : Nat) : mb_S := (sk_ms M k 0 0, 0, -1, -1)
theorem mb_s1 {k s c i j : Nat} {z : mb_S} : (mb_s k s c i j z).1 = mb_m z.1 k s c i j := by unfold mb_s; split <;> rfl
theorem mb_m_f {N : sk_M} {k s c i j a : Nat} (h : a < k + 8 ∨ k + 14 ≤ a) (h2 : a ≠ k) (h3 : a ≠ k + 3) : mb_m N k s c i j a = N a := by
  unfold mb_m
  rw [mk_m_f h h2]
  exact mb_1_f h3 18
theorem mb_j_f {k s c i a : Nat} {z : mb_S} (h : a < k + 8 ∨ k + 14 ≤ a) (h2 : a ≠ k) (h3 : a ≠ k + 3) : ∀ d, (mb_j k s c i z d).1 a = z.1 a
  | 0 => rfl
  | d + 1 => by
    show (mb_s k s c i (i + 1 + d) (mb_j k s c i z d)).1 a = _
    rw [mb_s1, mb_m_f h h2 h3, mb_j_f h h2 h3 d]
theorem mb_o_f {k s c a : Nat} {z : mb_S} (h : a < k + 8 ∨ k + 14 ≤ a) (h2 : a ≠ k) (h3 : a ≠ k + 3) : ∀ i, (mb_o k s c z i).1 a = z.1 a
  | 0 => rfl
  | i + 1 => by
    show (mb_j k s c i (mb_o k s c z i) (c - (i + 1))).1 a = _
    rw [mb_j_f h h2 h3, mb_o_f h h2 h3 i]
theorem mo_g.bj {k s c i : Nat} {M : sk_M} {z : mb_S} (g : mo_g k M z.1) : ∀ d, mo_g k M (mb_j k s c i z d).1
  | 0 => g
  | d + 1 => by
    show mo_g k M (mb_s k s c i (i + 1 + d) (mb_j k s c i z d)).1
    rw [mb_s1]
    exact mo_g.mk (mo_g.b1 (mo_g.bj g d) 18)
theorem mo_g.bo {k s c : Nat} {M : sk_M} {z : mb_S} (g : mo_g k M z.1) : ∀ i, mo_g k M (mb_o k s c z i).1
  | 0 => g
  | i + 1 => mo_g.bj (mo_g.bo g i) _
def mb_a (z : mb_S) (w : Int32) : Int32 := if z.2.2.1 = -1 then -1 else if w = 0 then z.2.1 else if w = 1 then z.2.2.1 else z.2.2.2
theorem mb_y {z : mb_S} {k s c i j : Nat} (h : z.2.2.1 = -1 ∨ z.2.1 < mb_v z.1 k s c i j) : mb_s k s c i j z = (mb_m z.1 k s c i j, mb_v z.1 k s c i j, nI i, nI j) := if_pos h
theorem mb_n {z : mb_S} {k s c i j : Nat} (h : ¬ z.2.2.1 = -1) (h2 : mb_v z.1 k s c i j ≤ z.2.1) : mb_s k s c i j z = (mb_m z.1 k s c i j, z.2.1, z.2.2.1, z.2.2.2) := if_neg (fun q => q.elim h (fun r => absurd h2 (Int32.not_le.mpr r)))
theorem mb_1s {N : sk_M} {r : Nat → Int32} {k x y n : Nat} (h : N (k + 2) = r) : mb_1 N k x y (n + 1) = sk_ms (sk_ms (mb_1 N k x y n) (k + 3) (x + n) (r (y + n))) (k + 3) (y + n) (r (x + n)) := by subst h; rfl
theorem mb_oz {M : sk_M} {k s c a : Nat} (h : a < k + 8 ∨ k + 14 ≤ a) (h2 : a ≠ k) (h3 : a ≠ k + 3) (i : Nat) : (mb_o k s c (mb_z M k) i).1 a = sk_ms M k 0 0 a := mb_o_f h h2 h3 i
theorem mb_wp {N : sk_M} {r : Nat → Int32} {k s c i j : Nat} (hr : N (k + 2) = r) (hs : s < 4) (hc : c ≤ 12) (hi : i < j) (hj : j < c) (h0 : r (6 + 233 * s) = nI c) (hp : mo_pp r s c) : mb_t N k s i j (k + 3) (6 + 233 * s) = nI c ∧ mo_pp (mb_t N k s i j (k + 3)) s c := by
  unfold mb_t
  refine ⟨by rw [mb_1_v (by omega) (by omega) 18 (by omega), if_neg (by omega), if_neg (by omega), hr, h0], fun e he => ?_⟩
  rw [mb_1_v (by omega) (by omega) 18 (by omega), hr]
  by_cases h1 : e = i
  · subst h1
    rw [if_pos (by omega), show 23 + 233 * s + 18 * j + (23 + 233 * s + 18 * e + 1 - (23 + 233 * s + 18 * e)) = 23 + 233 * s + 18 * j + 1 from by omega]
    exact hp j hj
  · rw [if_neg (by omega)]
    by_cases h2 : e = j
    · subst h2
      rw [if_pos (by omega), show 23 + 233 * s + 18 * i + (23 + 233 * s + 18 * e + 1 - (23 + 233 * s + 18 * e)) = 23 + 233 * s + 18 * i + 1 from by omega]
      exact hp i (by omega)
    · rw [if_neg (by omega)]
      exact hp e he
def mr_r (N : sk_M) (k q : Nat) : Nat → sk_M
  | 0 => mc_m N (k + 2) (k + 3) 0 0 938
  | n + 1 => sk_ms (mr_r N k q n) (k + 3) (q + n) (N (k + 7) (17 + n))
theorem mr_r_f {N : sk_M} {k q a : Nat} (h : a ≠ k + 3) (n : Nat) : mr_r N k q n a = N a := by
  induction n with
  | zero => exact mc_m_f h
  | succ n ih => unfold mr_r; rw [sk_nf h, ih]
theorem mr_rs {N : sk_M} {T : Nat → Int32} {k q n : Nat} (h : N (k + 7) = T) : mr_r N k q (n + 1) = sk_ms (mr_r N k q n) (k + 3) (q + n) (T (17 + n)) := by subst h; rfl
theorem mr_r_v {N : sk_M} {k q y : Nat} (hy : y < 938) : ∀ n, mr_r N k q n (k + 3) y = if q ≤ y ∧ y < q + n then N (k + 7) (17 + (y - q)) else N (k + 2) y
  | 0 => by
    rw [if_neg (by omega)]
    show mc_m _ _ _ _ _ _ _ _ = _
    rw [mc_mu, mu_cl hy]
  | n + 1 => by
    unfold mr_r
    by_cases h1 : y = q + n
    · subst h1
      rw [sk_sm, if_pos (by omega), Nat.add_sub_cancel_left]
    · rw [sk_ne (Or.inr h1), mr_r_v hy n]
      by_cases h3 : q ≤ y ∧ y < q + n
      · rw [if_pos h3, if_pos (by omega)]
      · rw [if_neg h3, if_neg (by omega)]
theorem mo_g.rr {k q : Nat} {M N : sk_M} (g : mo_g k M N) : ∀ n, mo_g k M (mr_r N k q n)
  | 0 => mo_g.c rfl g
  | n + 1 => mo_g.w (by omega) (mo_g.rr g n)
/-- another element: refused, or what it would be -/
def mo_rz (M : sk_M) (k n : Nat) (s e : Int32) (x : Int32) (M' : sk_M) : Prop :=
  (¬ mo_he (M (k + 2)) s e ∧ x = 0 ∧ M' k 0 = 1 ∧ mo_fr k M M') ∨ (mo_he (M (k + 2)) s e ∧ ((∃ z, tt (tx (M (k + 1)) n) n = .inl z) ∨ ∃ L, tt (tx (M (k + 1)) n) n = .inr L ∧ ¬ L.length = 1) ∧ x = 0 ∧ M' k 0 = 2 ∧ mo_fr k M M') ∨
  (mo_he (M (k + 2)) s e ∧ ∃ L T R, tt (tx (M (k + 1)) n) n = .inr L ∧ L.length = 1 ∧ mx_h T L ∧ (∀ y, y < 938 → R y = if 23 + 233 * s.toNatClampNeg + 18 * e.toNatClampNeg ≤ y ∧ y < 23 + 233 * s.toNatClampNeg + 18 * e.toNatClampNeg + 18 then T (17 + (y - (23 + 233 * s.toNatClampNeg + 18 * e.toNatClampNeg))) else M (k + 2) y) ∧ x = mo_to R s.toNatClampNeg (mo_c (M (k + 2)) s.toNatClampNeg) ∧ M' k 0 = 0 ∧ mo_fr k M M')
theorem mo_g3 {k j : Nat} {M N : sk_M} {v : Int32} (g : mo_g k M N) (hj : v = nI j) : sk_ms N k 0 v k 0 = nI j ∧ mo_fr k M (sk_ms N k 0 v) :=
  ⟨by rw [sk_sm, hj], fun a h1 => by rw [sk_nf (by omega)]; exact g.2.1 a h1, by rw [sk_ne (by omega)]; exact g.2.2.1, by rw [sk_ne (by omega)]; exact g.2.2.2⟩
theorem mo_fr.t {k : Nat} {M N P : sk_M} (h : mo_fr k M N) (g : mo_fr k N P) : mo_fr k M P := ⟨fun a h1 => (g.1 a h1).trans (h.1 a h1), g.2.1.trans h.2.1, g.2.2.trans h.2.2⟩
theorem x_ck00 {P Q R : Prop} [Decidable P] [Decidable Q] [Decidable R] (h : er_3 P Q R = 0) : P := by
  refine Classical.byContradiction (fun q => ?_)
  rw [er_3, if_neg q] at h
  exact absurd h (by decide)
theorem mo_zw {M : sk_M} {k er : Nat} {A : Int32} (h : (0 : Int32) < nI er) (he : er < 100) : mo_z M k er A 0 (sk_ms M k 0 (nI er)) :=
  mo_z1 (i := er) rfl (by intro q; subst q; exact absurd h (by decide))
theorem er3_le2 (P Q R : Prop) [Decidable P] [Decidable Q] [Decidable R] : er_3 P Q R < 100 := Nat.lt_of_le_of_lt er3_le (by decide)
theorem mo_g9 {k : Nat} {M N M' : sk_M} (h : mt_f k M N) (g : mo_g k (sk_ms N k 0 0) M') : M' k 0 = 0 ∧ mo_fr k M M' :=
  ⟨by rw [g.1, sk_sm], fun a h1 => by rw [g.2.1 a h1, sk_nf (by omega)]; exact h.1 a (by omega) (by omega), by rw [g.2.2.1, sk_ne (by omega)]; exact h.2 _ (by omega), by rw [g.2.2.2, sk_ne (by omega)]; exact h.2 _ (by omega)⟩
/-! The model: actions -/
def mr_d (r d : Nat → Int32) (c : Nat) : Nat → Int32 := fun y => if 938 * mr_c c ≤ y ∧ y < 938 * mr_c c + 938 then r (y - 938 * mr_c c) else if c = 14 ∧ y < 12194 then d (y + 938) else d y
theorem mr_m_4 {M : sk_M} {k c : Nat} : mr_m M k c (k + 4) = mr_d (M (k + 2)) (M (k + 4)) c := by
  funext y
  unfold mr_m mr_d
  rw [sk_nf (by omega), mc_m_v]
  by_cases h : 938 * mr_c c ≤ y ∧ y < 938 * mr_c c + 938
  · rw [if_pos h, if_pos h, mr_0_f (by omega) (by omega), Nat.zero_add]
  · rw [if_neg h, if_neg h]
    unfold mr_0
    by_cases h2 : c = 14
    · rw [if_pos h2, sk_ne (by omega), md_l_v]
      by_cases h3 : y < 12194
      · rw [if_pos h3, if_pos ⟨h2, h3⟩]
      · rw [if_neg h3, if_neg (fun q => h3 q.2)]
    · rw [if_neg h2, if_neg (fun q => h2 q.1)]
theorem mr_m_6 {M : sk_M} {k c : Nat} (h : M k 6 = nI c) : mr_m M k c k 6 = nI (mr_c c + 1) := by
  unfold mr_m
  rw [sk_sm, mr_0_6 h]
  exact nI_add _ 1
theorem mr_m_k {M : sk_M} {k c y : Nat} (h : y ≠ 6) : mr_m M k c k y = M k y := by
  unfold mr_m
  rw [sk_ne (Or.inr h), mc_m_f (by omega), mr_0_k h]
/-- what an action leaves behind: the row R is now, the diary has one more -/
def mo_h (k c : Nat) (M M' : sk_M) (R : Nat → Int32) : Prop := M' (k + 2) = R ∧ M' k 6 = nI (mr_c c + 1) ∧ M' (k + 4) = mr_d (M (k + 2)) (M (k + 4)) c ∧ M' k 2 = M k 2 ∧ ∀ a, (a < k ∨ k + 16 ≤ a ∨ a = k + 1 ∨ a = k + 5 ∨ a = k + 6) → M' a = M a
def mo_a (M : sk_M) (k c er : Nat) (A : Int32) (R : Nat → Int32) (r : Int32) (M' : sk_M) : Prop := (er = 0 ∧ r = A ∧ M' k 0 = 0 ∧ mo_h k c M M' R) ∨ (¬ er = 0 ∧ r = 0 ∧ M' = sk_ms M k 0 (nI er))
theorem mo_hk {M N M' : sk_M} {R : Nat → Int32} {k c : Nat} (hf : mt_f k M N) (hc : N k 6 = nI c) (h1 : ∀ x, x ≠ k + 2 → M' x = mr_m (sk_ms N k 0 0) k c x) (h2 : M' (k + 2) = R) : M' k 0 = 0 ∧ mo_h k c M M' R := by
  refine ⟨by rw [h1 _ (by omega), mr_m_k (by omega), sk_sm], h2, by rw [h1 _ (by omega), mr_m_6 (by rw [sk_ne (by omega)]; exact hc)], ?_, by rw [h1 _ (by omega), mr_m_k (by omega), sk_ne (by omega), hf.2 _ (by omega)], fun a ha => ?_⟩
  · rw [h1 _ (by omega), mr_m_4, sk_nf (by omega), sk_nf (by omega), hf.1 _ (by omega) (by omega), hf.1 _ (by omega) (by omega)]
  · rw [h1 _ (by omega), mr_m_f (by omega) (by omega), sk_nf (by omega), hf.1 _ (by omega) (by omega)]
theorem mo_ak {M M' : sk_M} {R : Nat → Int32} {k c er : Nat} {A r : Int32} (her : er = 0) (hc : M k 6 = nI c) (hA : r = A) (h1 : ∀ x, x ≠ k + 2 → M' x = mr_m (sk_ms M k 0 0) k c x) (h2 : M' (k + 2) = R) : mo_a M k c er A R r M' :=
  Or.inl ⟨her, hA, mo_hk mt_f.r hc h1 h2⟩
theorem mo_an {M : sk_M} {R : Nat → Int32} {k c er i : Nat} {A : Int32} (h : er = i) (hi : i ≠ 0) : mo_a M k c er A R 0 (sk_ms M k 0 (nI i)) := Or.inr ⟨by omega, rfl, by rw [h]⟩
theorem mo_aw {M : sk_M} {R : Nat → Int32} {k c er : Nat} {A : Int32} (h : (0 : Int32) < nI er) : mo_a M k c er A R 0 (sk_ms M k 0 (nI er)) := mo_an (i := er) rfl (by intro q; subst q; exact absurd h (by decide))
def my_w (r : Nat → Int32) (q : Nat) (v b d : Int32) : Nat → Nat → Int32
  | 0 => r
  | n + 1 => mu_u (my_w r q v b d n) (q + (4 - n)) (sk_rm (my_v v b n) b - d)
theorem my_m_w {M : sk_M} {a q : Nat} {v b d : Int32} : ∀ n, my_m M a q v b d n a = my_w (M a) q v b d n
  | 0 => rfl
  | n + 1 => by
    unfold my_m my_w
    rw [sk_msu, my_m_w n]
theorem my_w_n {r : Nat → Int32} {q y : Nat} {v b d : Int32} (h : y < q ∨ q + 5 ≤ y) : ∀ n, my_w r q v b d n y = r y
  | 0 => rfl
  | n + 1 => by
    unfold my_w
    rw [mu_n (by omega), my_w_n h n]
def mz_l (N : sk_M) (a q i : Nat) : sk_M := sk_mr N a (fun y => if q ≤ y ∧ y < q + i then 0 else N a y)
theorem mz_l_f {N : sk_M} {a q i x : Nat} (h : x ≠ a) : mz_l N a q i x = N x := by funext y; exact sk_nr h
theorem mz_l_v {N : sk_M} {a q i y : Nat} : mz_l N a q i a y = if q ≤ y ∧ y < q + i then 0 else N a y := by simp [mz_l, sk_mr]
theorem mz_l_0 {N : sk_M} {a q : Nat} : mz_l N a q 0 = N := by
  funext x y
  by_cases h : x = a
  · subst h; rw [mz_l_v, if_neg (by omega)]
  · rw [mz_l_f h]
theorem mz_l_s {N : sk_M} {a q i : Nat} : sk_ms (mz_l N a q i) a (q + i) 0 = mz_l N a q (i + 1) := by
  funext x y
  by_cases h : x = a
  · subst h
    rw [mz_l_v]
    by_cases g : y = q + i
    · subst g
      rw [sk_sm, if_pos (by omega)]
    · rw [sk_ne (Or.inr g), mz_l_v]
      by_cases z : q ≤ y ∧ y < q + i
      · rw [if_pos z, if_pos (by omega)]
      · rw [if_neg z, if_neg (by omega)]
  · rw [sk_ne (Or.inl h), mz_l_f h, mz_l_f h]
def mz_r (r : Nat → Int32) (q i : Nat) : Nat → Int32 := fun y => if q ≤ y ∧ y < q + i then 0 else r y
theorem mz_lr {N : sk_M} {a q i : Nat} : mz_l N a q i a = mz_r (N a) q i := by funext y; exact mz_l_v
theorem mc_mv0 {M : sk_M} {a b p : Nat} : mc_m M a b p 0 938 b 0 = M a p := by rw [mc_m_v, if_pos (by omega)]; rfl
def mo_q (M : sk_M) (k er : Nat) (A : Int32) (B : sk_M) (r : Int32) (M' : sk_M) : Prop := (er = 0 ∧ r = A ∧ M' = B) ∨ (¬ er = 0 ∧ r = 0 ∧ M' = sk_ms M k 0 (nI er))
theorem mo_qn {M B : sk_M} {k er i : Nat} {A : Int32} (h : er = i) (hi : i ≠ 0) : mo_q M k er A B 0 (sk_ms M k 0 (nI i)) := Or.inr ⟨by omega, rfl, by rw [h]⟩
def pr_l (N : sk_M) (k q : Nat) : Nat → sk_M
  | 0 => sk_ms N (k + 2) q (N (k + 7) 0)
  | n + 1 => sk_ms (pr_l N k q n) (k + 2) (q + (17 + n)) (N (k + 7) (17 + n))
theorem pr_l_f {N : sk_M} {k q a : Nat} (h : a ≠ k + 2) (n : Nat) : pr_l N k q n a = N a := by
  induction n with
  | zero => exact sk_nf h
  | succ n ih => unfold pr_l; rw [sk_nf h, ih]
theorem pr_l_s {N : sk_M} {T : Nat → Int32} {k q n : Nat} (h : N (k + 7) = T) : pr_l N k q (n + 1) = sk_ms (pr_l N k q n) (k + 2) (q + (17 + n)) (T (17 + n)) := by subst h; rfl
theorem pr_l_0 {N : sk_M} {T : Nat → Int32} {k q : Nat} (h : N (k + 7) = T) : pr_l N k q 0 = sk_ms N (k + 2) q (T 0) := by subst h; rfl
theorem pr_l_v {N : sk_M} {k q y : Nat} : ∀ n, pr_l N k q n (k + 2) y = if y = q then N (k + 7) 0 else if q + 17 ≤ y ∧ y < q + 17 + n then N (k + 7) (y - q) else N (k + 2) y
  | 0 => by
    unfold pr_l
    by_cases h : y = q
    · subst h; rw [sk_sm, if_pos rfl]
    · rw [sk_ne (Or.inr h), if_neg h, if_neg (by omega)]
  | n + 1 => by
    unfold pr_l
    by_cases h1 : y = q + (17 + n)
    · subst h1
      rw [sk_sm, if_neg (by omega), if_pos (by omega), Nat.add_sub_cancel_left]
    · rw [sk_ne (Or.inr h1), pr_l_v n]
      by_cases h2 : y = q
      · rw [if_pos h2, if_pos h2]
      · rw [if_neg h2, if_neg h2]
        by_cases h3 : q + 17 ≤ y ∧ y < q + 17 + n
        · rw [if_pos h3, if_pos (by omega)]
        · rw [if_neg h3, if_neg (by omega)]
def mo_pz (M : sk_M) (k n c : Nat) (s : Int32) (x : Int32) (M' : sk_M) : Prop :=
  (¬ mo_hs (M (k + 2)) s ∧ x = 0 ∧ M' k 0 = 1 ∧ mo_fr k M M') ∨ (mo_hs (M (k + 2)) s ∧ (∃ z, tt (tx (M (k + 1)) n) n = .inl z) ∧ x = 0 ∧ M' k 0 = 2 ∧ mo_fr k M M') ∨
  (mo_hs (M (k + 2)) s ∧ ∃ L T R, tt (tx (M (k + 1)) n) n = .inr L ∧ L.length ≤ 12 ∧ mx_h T L ∧ x = nI L.length ∧ (∀ y, R y = if y = 6 + 233 * s.toNatClampNeg then T 0 else if 6 + 233 * s.toNatClampNeg + 17 ≤ y ∧ y < 6 + 233 * s.toNatClampNeg + 17 + 216 then T (y - (6 + 233 * s.toNatClampNeg)) else M (k + 2) y) ∧ M' k 0 = 0 ∧ mo_h k c M M' R)
/-! The model: turns, simulations (wb_ rows: from kit/laws/BITS.to-paste) -/
theorem wb_tb (n : Nat) : (lN n).toBitVec = BitVec.ofNat 64 n := rfl
theorem wb_inj {a b : Int64} (h : a.toBitVec = b.toBitVec) : a = b := Int64.toBitVec_inj.mp h
theorem wb_tn {n : Nat} (h : n < 2 ^ 64) : (lN n).toBitVec.toNat = n := by rw [wb_tb, BitVec.toNat_ofNat, Nat.mod_eq_of_lt h]
theorem wb_of (x : Int64) : ∃ n, n < 2 ^ 64 ∧ x = lN n := ⟨x.toBitVec.toNat, x.toBitVec.isLt, wb_inj (by rw [wb_tb]; simp)⟩
theorem wb_cu : ∀ k, k < 64 → ((nI k).toInt64.toUInt64 &&& Int64.toUInt64 63) = UInt64.ofNat k := by decide +kernel
theorem wb_shr {n k : Nat} (hn : n < 2 ^ 64) (hk : k < 64) : ((lN n).toUInt64 >>> ((nI k).toInt64.toUInt64 &&& Int64.toUInt64 63)).toInt64 = lN (n / 2 ^ k) := by
  rw [wb_cu k hk]
  apply wb_inj
  apply BitVec.eq_of_toNat_eq
  show ((lN n).toUInt64 >>> UInt64.ofNat k).toNat = (BitVec.ofNat 64 _).toNat
  have h1 : (UInt64.ofNat k).toNat = k := by
    show (BitVec.ofNat 64 k).toNat = k
    rw [BitVec.toNat_ofNat, Nat.mod_eq_of_lt (by omega)]
  have h2 : (lN n).toUInt64.toNat = n := wb_tn hn
  rw [UInt64.toNat_shiftRight, h1, h2, Nat.mod_eq_of_lt hk, Nat.shiftRight_eq_div_pow, BitVec.toNat_ofNat, Nat.mod_eq_of_lt (Nat.lt_of_le_of_lt (Nat.div_le_self _ _) hn)]
theorem si_r_n (x : Int64) : ¬ si_r x < 0 := by
  obtain ⟨n, hn, rfl⟩ := wb_of x
  have h := wb_shr (n := n) (k := 33) hn (by decide)
  unfold si_r
  rw [show (33 : Int32) = nI 33 from rfl, h, lN_i]
  have h2 : n / 2 ^ 33 < 2 ^ 31 := Nat.div_lt_of_lt_mul (by omega)
  exact nI_pos h2
theorem sk_rmx {r x y : Int32} {a b : Nat} (hr : ¬ r < 0) (hx : x = nI a) (hy : y = nI b) (ha : 0 < a ∧ a < 2 ^ 31) (hb : 0 < b ∧ b < 2 ^ 31) : sk_rm (r / x) y = nI (sk_rm (r / x) y).toNatClampNeg ∧ (sk_rm (r / x) y).toNatClampNeg < b := by
  obtain ⟨n, h1, rfl⟩ := nI_of hr
  have e : sk_rm (nI n / x) y = nI (n / a % b) := sk_nrem (sk_ndiv rfl hx h1 ha) hy (Nat.lt_of_le_of_lt (Nat.div_le_self _ _) h1) hb
  have h3 : n / a % b < b := Nat.mod_lt _ hb.1
  rw [e, nI_clamp (by omega)]
  exact ⟨rfl, h3⟩
theorem sk_nmr {M : sk_M} {k a : Nat} {f : Nat → Int32} (h : a ≠ k) : sk_mr M k f a = M a := by funext b; exact sk_nr h
theorem sk_mrr {M : sk_M} {k : Nat} {f : Nat → Int32} : sk_mr M k f k = f := by funext b; simp [sk_mr]
theorem sk_mr2 {M : sk_M} {k : Nat} {f g : Nat → Int32} : sk_mr (sk_mr M k f) k g = sk_mr M k g := by
  funext a b
  by_cases h : a = k
  · subst h; rw [sk_mrr, sk_mrr]
  · rw [sk_nmr h, sk_nmr h, sk_nmr h]
theorem sk_mri {M : sk_M} {k : Nat} : M = sk_mr M k (M k) := by
  funext a b
  by_cases h : a = k
  · subst h; rw [sk_mrr]
  · rw [sk_nmr h]
theorem sk_mre {M N : sk_M} {k : Nat} {f : Nat → Int32} (h : ∀ a, a ≠ k → N a = M a) (g : N k = f) : N = sk_mr M k f := by
  funext a b
  by_cases q : a = k
  · subst q; rw [sk_mrr, g]
  · rw [sk_nmr q, h a q]
theorem my_m_r {M : sk_M} {a q : Nat} {v b d : Int32} : my_m M a q v b d 5 = sk_mr M a (my_w (M a) q v b d 5) := sk_mre (fun x h => my_m_f h 5) (my_m_w 5)
theorem sk_msr2 {M : sk_M} {a j : Nat} {v : Int32} : sk_ms M a j v = sk_mr M a (mu_u (M a) j v) := sk_mre (fun x h => sk_nf h) sk_msu
theorem mc_mr {M : sk_M} {a b : Nat} : mc_m M a b 0 0 938 = sk_mr M b (mu_c (M a) (M b)) := sk_mre (fun x h => mc_m_f h) mc_mu
theorem mo_e1 {e : Nat} (h : nI e = 0) (he : e < 100) : e = 0 := (nI_eq (b := 0) (by omega) (by omega)).mp h
def mt_r (t : Nat → Int32) (r : Int32) : Nat → Int32 :=
  if sk_rm r 8 < 3 then (if mo_he t (x_s1 r) (x_e1 r) then my_w t (23 + 233 * (x_s1 r).toNatClampNeg + 18 * (x_e1 r).toNatClampNeg + 11) (sk_rm (r / 512) 161051) 11 5 5 else t)
  else if sk_rm r 8 = 3 then (if mo_hs t (x_s1 r) then my_w t (6 + 233 * (x_s1 r).toNatClampNeg + 2 + 5 * (sk_rm (r / 32) 3).toNatClampNeg) (sk_rm (r / 128) 115856201) 41 0 5 else t)
  else if sk_rm r 8 < 6 then (if mo_wc t (x_s1 r) (x_e1 r) (sk_rm (r / 512) 3) (sk_rm (r / 2048) 4) = 0 then mu_u t (25 + 233 * (x_s1 r).toNatClampNeg + 18 * (x_e1 r).toNatClampNeg + 3 * (sk_rm (r / 512) 3).toNatClampNeg + 2) (sk_rm (r / 2048) 4) else t)
  else if sk_rm r 8 = 6 then (if mo_he t (x_s1 r) (x_e1 r) then mu_u t (23 + 233 * (x_s1 r).toNatClampNeg + 18 * (x_e1 r).toNatClampNeg + 16) (if sk_rm (r / 512) 2 = 0 then 1 else 0) else t)
  else (if mo_hs t (x_s1 r) then mu_u t (6 + 233 * (x_s1 r).toNatClampNeg + 1) (sk_rm (r / 32) 10) else t)
theorem pl_a {q s e : Nat} (he : e < 12) : 6 + 233 * q < 23 + 233 * s + 18 * e ∨ 23 + 233 * s + 18 * e + 18 ≤ 6 + 233 * q := by rcases Nat.lt_or_ge s q with h | h <;> omega
theorem pl_b {q z s e : Nat} (hz : z < 12) (he : e < 12) : (q = s ∧ z = e) ∨ 23 + 233 * q + 18 * z + 18 ≤ 23 + 233 * s + 18 * e ∨ 23 + 233 * s + 18 * e + 18 ≤ 23 + 233 * q + 18 * z := by
  rcases Nat.lt_trichotomy q s with h | h | h
  · omega
  · subst h
    rcases Nat.lt_trichotomy z e with g | g | g <;> omega
  · omega
theorem pl_c {q s : Nat} : 6 + 233 * q < 8 + 233 * s ∨ 23 + 233 * s ≤ 6 + 233 * q := by rcases Nat.lt_or_ge s q with h | h <;> omega
theorem pl_d {q z s : Nat} (hz : z < 12) : 23 + 233 * q + 18 * z + 18 ≤ 6 + 233 * s ∨ 23 + 233 * s ≤ 23 + 233 * q + 18 * z := by rcases Nat.lt_or_ge q s with h | h <;> omega
/-- the counts of a row -/
def mo_wm (t : Nat → Int32) (m : Nat) : Prop := t 0 = nI m ∧ ∀ s, s < m → mo_wp t s
theorem mo_wm.c {t t' : Nat → Int32} {m : Nat} (h0 : t' 0 = t 0) (h1 : ∀ s, s < m → t' (6 + 233 * s) = t (6 + 233 * s)) (h2 : ∀ s e, s < m → e < 12 → t' (23 + 233 * s + 18 * e + 1) = t (23 + 233 * s + 18 * e + 1)) (h : mo_wm t m) : mo_wm t' m :=
  ⟨by rw [h0]; exact h.1, fun s hs => mo_wpc (h1 s hs) (fun e he => h2 s e hs he) (h.2 s hs)⟩
theorem mo_wm.sx {t : Nat → Int32} {m : Nat} {s : Int32} (h : mo_wm t m) (hm4 : m ≤ 4) (g : mo_hs t s) : s.toNatClampNeg < m := (sk_ix g h.1 (by omega)).2
theorem mo_wm.ex {t : Nat → Int32} {m : Nat} {s e : Int32} (h : mo_wm t m) (hm4 : m ≤ 4) (g : mo_he t s e) : s.toNatClampNeg < m ∧ e.toNatClampNeg < 12 := by
  have h1 := h.sx hm4 g.1
  obtain ⟨N, h2, h3, -⟩ := h.2 _ h1
  exact ⟨h1, Nat.lt_of_lt_of_le (sk_ix g.2 h3 (by omega)).2 h2⟩
theorem mo_wm.px {t : Nat → Int32} {m : Nat} {s e p : Int32} (h : mo_wm t m) (hm4 : m ≤ 4) (g : mo_hp t s e p) : s.toNatClampNeg < m ∧ e.toNatClampNeg < 12 ∧ p.toNatClampNeg < 3 := by
  have h1 := h.sx hm4 g.1.1
  obtain ⟨N, h2, h3, h4⟩ := h.2 _ h1
  have h5 := (sk_ix g.1.2 h3 (by omega)).2
  obtain ⟨q, h6, h7⟩ := h4 _ h5
  exact ⟨h1, Nat.lt_of_lt_of_le h5 h2, Nat.lt_of_lt_of_le (sk_ix g.2 h7 (by omega)).2 h6⟩
theorem mo_wm.k {t : Nat → Int32} {m s e : Nat} {v b d : Int32} (h : mo_wm t m) (hm4 : m ≤ 4) (hs : s < 4) (he : e < 12) : mo_wm (my_w t (23 + 233 * s + 18 * e + 11) v b d 5) m :=
  mo_wm.c (my_w_n (by omega) 5) (fun q hq => my_w_n (by have := pl_a (q := q) (s := s) he; omega) 5) (fun q z hq hz => my_w_n (by have := pl_b (q := q) (s := s) hz he; omega) 5) h
theorem mo_wm.o {t : Nat → Int32} {m s j : Nat} {v b d : Int32} (h : mo_wm t m) (hm4 : m ≤ 4) (hs : s < 4) (hj : j < 3) : mo_wm (my_w t (6 + 233 * s + 2 + 5 * j) v b d 5) m :=
  mo_wm.c (my_w_n (by omega) 5) (fun q hq => my_w_n (by have := @pl_c q s; omega) 5) (fun q z hq hz => my_w_n (by have := pl_d (q := q) (s := s) hz; omega) 5) h
theorem mo_wm.u {t : Nat → Int32} {m j : Nat} {v : Int32} (h : mo_wm t m) (h0 : j ≠ 0) (h1 : ∀ s, s < m → 6 + 233 * s ≠ j) (h2 : ∀ s e, s < m → e < 12 → 23 + 233 * s + 18 * e + 1 ≠ j) : mo_wm (mu_u t j v) m :=
  mo_wm.c (mu_n (Ne.symm h0)) (fun q hq => mu_n (h1 q hq)) (fun q z hq hz => mu_n (h2 q z hq hz)) h
theorem mo_wm.t {t : Nat → Int32} {m : Nat} {r : Int32} (h : mo_wm t m) (hm4 : m ≤ 4) (hr : ¬ r < 0) : mo_wm (mt_r t r) m := by
  have hj := (sk_rmx hr (x := 32) (y := 3) (a := 32) (b := 3) rfl rfl (by omega) (by omega)).2
  unfold mt_r
  split
  · split
    · have g := h.ex hm4 (by assumption); exact h.k hm4 (by omega) (by omega)
    · exact h
  · split
    · split
      · have g := h.sx hm4 (by assumption); exact h.o hm4 (by omega) (by omega)
      · exact h
    · split
      · split
        · have g := h.px hm4 (x_ck00 (by assumption)); exact h.u (by omega) (fun q hq => by have := pl_a (q := q) (s := (x_s1 r).toNatClampNeg) g.2.1; omega) (fun q z hq hz => by have := pl_b (q := q) (s := (x_s1 r).toNatClampNeg) hz g.2.1; omega)
        · exact h
      · split
        · split
          · have g := h.ex hm4 (by assumption); exact h.u (by omega) (fun q hq => by have := pl_a (q := q) (s := (x_s1 r).toNatClampNeg) g.2; omega) (fun q z hq hz => by have := pl_b (q := q) (s := (x_s1 r).toNatClampNeg) hz g.2; omega)
          · exact h
        · split
          · have g := h.sx hm4 (by assumption); exact h.u (by omega) (fun q hq => by omega) (fun q z hq hz => by have := pl_d (q := q) (s := (x_s1 r).toNatClampNeg) hz; omega)
          · exact h
def mt_s (t : Nat → Int32) (x : Int64) : Nat → Nat → Int32
  | 0 => t
  | i + 1 => mt_r (mt_s t x i) (si_r (si_x x (i + 1)))
theorem mo_wm.s {t : Nat → Int32} {m : Nat} {x : Int64} (h : mo_wm t m) (hm4 : m ≤ 4) : ∀ i, mo_wm (mt_s t x i) m
  | 0 => h
  | i + 1 => (mo_wm.s h hm4 i).t hm4 (si_r_n _)
theorem mo_wm.w {r t : Nat → Int32} {m : Nat} (h : mo_wm r m) (hm4 : m ≤ 4) : mo_wm (mu_c r t) m :=
  mo_wm.c (mu_cl (by omega)) (fun q hq => mu_cl (by omega)) (fun q z hq hz => mu_cl (by omega)) h
def mq_l (N : sk_M) (k : Nat) (T : Nat → Int32) : Nat → sk_M
  | 0 => N
  | i + 1 => mk_m (mq_l N k T i) k (k + 3) i (mo_c T i)
theorem mq_l_f {N : sk_M} {k x : Nat} {T : Nat → Int32} (h : x < k + 8 ∨ k + 14 ≤ x) (h2 : x ≠ k) (i : Nat) : mq_l N k T i x = N x := by
  induction i with
  | zero => rfl
  | succ i ih => unfold mq_l; rw [mk_m_f h h2, ih]
theorem mo_g.mq {k : Nat} {T : Nat → Int32} {M N : sk_M} (g : mo_g k M N) : ∀ i, mo_g k M (mq_l N k T i)
  | 0 => g
  | i + 1 => mo_g.mk (mo_g.mq g i)
theorem mo_g.mr {k : Nat} {f : Nat → Int32} {M N : sk_M} (h : mo_g k M N) : mo_g k M (sk_mr N (k + 3) f) := ⟨by rw [sk_nmr (by omega)]; exact h.1, fun x h1 => by rw [sk_nmr (by omega)]; exact h.2.1 x h1, by rw [sk_nmr (by omega)]; exact h.2.2.1, by rw [sk_nmr (by omega)]; exact h.2.2.2⟩
/-! The model: commands, scripts -/
def mc_v (t : Nat → Int32) (m : Nat) (o a b c d : Int32) : Int32 :=
  if o = 1 ∨ o = 3 then (if 1 < d then 0 else if mo_he t a (10 * b + c) then 1 else 0)
  else if o = 2 then (if mo_wc t a b c d = 0 then (if t (25 + 233 * a.toNatClampNeg + 18 * b.toNatClampNeg + 3 * c.toNatClampNeg + 2) < 0 then 0 else 1) else 0)
  else if o = 4 then (if 0 < 10 * b + c then 0 else if mo_hs t a then 1 else 0)
  else if o = 5 then (if st_fi a (100 * b + 10 * c + d) then 1 else 0)
  else if o = 6 then (if 0 < 10 * b + c then 0 else if mo_hs t a then (if nI (mo_pl t a.toNatClampNeg m) = d then 1 else 0) else 0)
  else if o = 7 then (if mo_hs t a then (if mo_T t a.toNatClampNeg < 10 * (100 * b + 10 * c + d) then 0 else 1) else 0)
  else if o = 8 then (if mo_hp t a b c then (if mo_wy t a.toNatClampNeg b.toNatClampNeg c.toNatClampNeg = d then 1 else 0) else 0)
  else if o = 9 then (if a = 0 then (if d = 0 then (if 10 * b + c < sk_sum (fun s => sk_sum (fun e => t (23 + 233 * s + 18 * e + 17)) (mo_c t s)) m then 0 else 1) else 0) else 0) else 0
def mc_t (t : Nat → Int32) (o a b c d : Int32) : Nat → Int32 :=
  if o = 1 ∨ o = 3 then (if 1 < d then t else if mo_he t a (10 * b + c) then mu_u t (23 + 233 * a.toNatClampNeg + 18 * (10 * b + c).toNatClampNeg + (if o = 1 then 16 else 17)) d else t)
  else if o = 2 then (if mo_wc t a b c d = 0 then mu_u t (25 + 233 * a.toNatClampNeg + 18 * b.toNatClampNeg + 3 * c.toNatClampNeg + 2) d else t)
  else if o = 4 then (if 0 < 10 * b + c then t else if mo_hs t a then mu_u t (6 + 233 * a.toNatClampNeg + 1) d else t)
  else if o = 5 then (if st_fi a (100 * b + 10 * c + d) then mu_u t (1 + a.toNatClampNeg) (100 * b + 10 * c + d) else t) else t
theorem mo_wm.mc {t : Nat → Int32} {m : Nat} {o a b c d : Int32} (h : mo_wm t m) (hm4 : m ≤ 4) : mo_wm (mc_t t o a b c d) m := by
  unfold mc_t
  split
  · split
    · exact h
    · split
      · have g := h.ex hm4 (by assumption)
        have h16 : 16 ≤ (if o = 1 then 16 else 17) ∧ (if o = 1 then 16 else 17) ≤ 17 := by split <;> omega
        exact h.u (by omega) (fun q hq => by have := pl_a (q := q) (s := a.toNatClampNeg) g.2; omega) (fun q z hq hz => by have := pl_b (q := q) (s := a.toNatClampNeg) hz g.2; omega)
      · exact h
  · split
    · split
      · have g := h.px hm4 (x_ck00 (by assumption))
        exact h.u (by omega) (fun q hq => by have := pl_a (q := q) (s := a.toNatClampNeg) g.2.1; omega) (fun q z hq hz => by have := pl_b (q := q) (s := a.toNatClampNeg) hz g.2.1; omega)
      · exact h
    · split
      · split
        · exact h
        · split
          · have g := h.sx hm4 (by assumption)
            exact h.u (by omega) (fun q hq => by omega) (fun q z hq hz => by have := pl_d (q := q) (s := a.toNatClampNeg) hz; omega)
          · exact h
      · split
        · split
          · have g := (st_fiw (by assumption)).2
            exact h.u (by omega) (fun q hq => by omega) (fun q z hq hz => by omega)
          · exact h
        · exact h
def rn_p : Nat → Int64
  | 0 => 1
  | i + 1 => rn_p i * 100000
def rn_q (y : Int64) : Nat → Int64
  | 0 => y
  | i + 1 => rn_q y i / 100000
theorem rn_nz : ∀ n, 1 ≤ n → n < 4 → ∀ q, q < n → ¬ rn_q (rn_p n) (q + 1) = 0 := by
  intro n h1 h2
  rcases (show n = 1 ∨ n = 2 ∨ n = 3 by omega) with rfl | rfl | rfl <;> decide
def rw_g (n : Nat) (x : Int64) (q : Nat) : Int32 := rs_g (x / rn_q (rn_p n) (q + 1))
def rw_l (t : Nat → Int32) (n : Nat) (x : Int64) : Nat → Nat → Int32
  | 0 => t
  | q + 1 => mc_t (rw_l t n x q) (rw_g n x q / 10000) (sk_rm (rw_g n x q / 1000) 10) (sk_rm (rw_g n x q / 100) 10) (sk_rm (rw_g n x q / 10) 10) (sk_rm (rw_g n x q) 10)
def rw_v (t : Nat → Int32) (m n : Nat) (x : Int64) (q : Nat) : Int32 := mc_v (rw_l t n x q) m (rw_g n x q / 10000) (sk_rm (rw_g n x q / 1000) 10) (sk_rm (rw_g n x q / 100) 10) (sk_rm (rw_g n x q / 10) 10) (sk_rm (rw_g n x q) 10)
theorem mo_wm.rw {t : Nat → Int32} {m n : Nat} {x : Int64} (h : mo_wm t m) (hm4 : m ≤ 4) : ∀ q, mo_wm (rw_l t n x q) m
  | 0 => h
  | q + 1 => (mo_wm.rw h hm4 q).mc hm4
abbrev rn_k (v : Int32) (x : Int64) : Prop := (¬ v < 1 ∧ ¬ 3 < v) ∧ ¬ x < 0 ∧ ¬ rn_p v.toNatClampNeg - 1 < x
def mo_rq (M : sk_M) (k m : Nat) (v : Int32) (x : Int64) (r : Int32) (M' : sk_M) : Prop := (¬ rn_k v x ∧ r = 0 ∧ M' = sk_ms M k 0 (nI 1)) ∨
  (rn_k v x ∧ ((∃ q, q < v.toNatClampNeg ∧ (∀ j, j < q → ¬ rw_v (mu_c (M (k + 2)) (M (k + 3))) m v.toNatClampNeg x j = 0) ∧ rw_v (mu_c (M (k + 2)) (M (k + 3))) m v.toNatClampNeg x q = 0 ∧ r = nI q) ∨ ((∀ j, j < v.toNatClampNeg → ¬ rw_v (mu_c (M (k + 2)) (M (k + 3))) m v.toNatClampNeg x j = 0) ∧ r = -1)) ∧ M' k 0 = 0 ∧ mo_fr k M M')
