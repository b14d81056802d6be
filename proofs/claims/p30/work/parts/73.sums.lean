/-! What holds of a row: parts, grades, bonus, sums -/
theorem tA {x y : Int32} (h : -2000000000 ≤ x.toInt + y.toInt ∧ x.toInt + y.toInt ≤ 2000000000) : (x + y).toInt = x.toInt + y.toInt := by
  rw [Int32.toInt_add, Int.bmod_eq_of_le (by simp; omega) (by simp; omega)]
theorem tS {x y : Int32} (h : -2000000000 ≤ x.toInt - y.toInt ∧ x.toInt - y.toInt ≤ 2000000000) : (x - y).toInt = x.toInt - y.toInt := by
  rw [Int32.toInt_sub, Int.bmod_eq_of_le (by simp; omega) (by simp; omega)]
theorem tM {x y : Int32} (h : -2000000000 ≤ x.toInt * y.toInt ∧ x.toInt * y.toInt ≤ 2000000000) : (x * y).toInt = x.toInt * y.toInt := by
  rw [Int32.toInt_mul, Int.bmod_eq_of_le (by simp; omega) (by simp; omega)]
theorem nT {n : Nat} (h : n < 2147483648) : (nI n).toInt = n := Int32.toInt_ofNat_of_lt h
theorem tD {x : Int32} (h : 0 ≤ x.toInt) : (x / 30).toInt = x.toInt / 30 := by
  obtain ⟨n, hn, rfl⟩ := nI_of (x := x) (by rw [Int32.lt_iff_toInt_lt]; show ¬ x.toInt < 0; omega)
  rw [show (30 : Int32) = nI 30 from rfl, sk_ndiv (a := n) (b := 30) rfl rfl hn (by decide), nT (by omega), nT (by omega)]
  omega
theorem tN {x : Int32} (h : -2000000000 ≤ x.toInt ∧ x.toInt ≤ 2000000000) : (-x).toInt = -x.toInt := by
  rw [Int32.toInt_neg, Int.bmod_eq_of_le (by simp; omega) (by simp; omega)]
theorem gd_t {v : Int32} (h : -100000 ≤ v.toInt ∧ v.toInt ≤ 100000) : (mo_gd v).toInt = if v.toInt < 0 then -((15 - v.toInt) / 30) else (v.toInt + 15) / 30 := by
  unfold mo_gd
  have e0 : (0 : Int32).toInt = 0 := rfl
  have e15 : (15 : Int32).toInt = 15 := rfl
  by_cases q : v < 0
  · have q2 := q
    rw [Int32.lt_iff_toInt_lt, e0] at q2
    have e1 : (15 - v).toInt = 15 - v.toInt := by rw [tS (by rw [e15]; omega), e15]
    have e2 : ((15 - v) / 30).toInt = (15 - v.toInt) / 30 := by rw [tD (by rw [e1]; omega), e1]
    rw [if_pos q, if_pos q2, tN (by rw [e2]; omega), e2]
  · have q2 := q
    rw [Int32.lt_iff_toInt_lt, e0] at q2
    have e1 : (v + 15).toInt = v.toInt + 15 := by rw [tA (by rw [e15]; omega), e15]
    rw [if_neg q, if_neg q2, tD (by rw [e1]; omega), e1]
/-- an element's kernel, and what its parts are -/
def el (r : Nat → Int32) (s e : Nat) : Prop := rl_y r s e (mo_n r s e) ∧ ∃ j : Nat, j ≤ 30 ∧ mo_ke r (23 + 233 * s + 18 * e + 11) = nI j - 15
theorem rl_C.el {M : sk_M} {k s e : Nat} {S : rl_T} (C : rl_C M k S) (hs : s < S.m) (he : e < mo_c S.r s) : el S.r s e := by
  obtain ⟨r1, rk, ⟨j, hj, ej⟩, rf, rv, p, hp3, r2, r3, ry, r6⟩ := (C.1.2.2.2.2 s hs).E he
  have e2 : mo_n S.r s e = p := by show (mo_np S.r s e).toNatClampNeg = p; rw [r3, nI_clamp (by omega)]
  exact ⟨by rw [e2]; exact ry, j, hj, rk.symm.trans ej⟩
theorem wy_n {r : Nat → Int32} {s e p : Nat} : ∃ y : Nat, y ≤ 5 ∧ mo_wy r s e p = nI y ∧ (2 ≤ y → mo_v r s e p = 0) ∧ (y = 1 → 2 < mo_tu r s e p) := by
  have hv : ∀ y : Nat, 2 ≤ y → y ≤ 5 → mo_wy r s e p = nI y → mo_v r s e p = 0 := fun y h1 h2 h3 => by
    have n0 : ¬ mo_wy r s e p = 0 := by rw [h3]; intro z; have := (nI_eq (b := 0) (by omega) (by omega)).mp z; omega
    have n1 : ¬ mo_wy r s e p = 1 := by rw [h3]; intro z; have := (nI_eq (b := 1) (by omega) (by omega)).mp z; omega
    unfold mo_v
    rw [if_neg n0, if_neg n1]
  have big : ∀ y : Nat, 2 ≤ y → y ≤ 5 → mo_wy r s e p = nI y → ∃ y : Nat, y ≤ 5 ∧ mo_wy r s e p = nI y ∧ (2 ≤ y → mo_v r s e p = 0) ∧ (y = 1 → 2 < mo_tu r s e p) := fun y h1 h2 h3 => ⟨y, h2, h3, fun _ => hv y h1 h2 h3, fun z => by omega⟩
  by_cases b0 : mo_bp r s e p = 0
  · have e1 : mo_wy r s e p = mo_br r s e p := if_pos b0
    by_cases c1 : ¬ mo_ty r s e = 0 ∨ mo_tu r s e p < 3
    · have e2 : mo_wy r s e p = nI 0 := by rw [e1]; exact if_pos c1
      exact ⟨0, by omega, e2, fun z => by omega, fun z => by omega⟩
    · by_cases c2 : 1 < (mo_bo r s e p (e + 1)).1
      · exact big 2 (by omega) (by omega) (by rw [e1]; unfold mo_br; rw [if_neg c1, if_pos c2]; rfl)
      · by_cases c3 : (mo_bo r s e p (e + 1)).1 = 1 ∧ ¬ (mo_bo r s e p (e + 1)).2 = 0
        · refine ⟨1, by omega, by rw [e1]; unfold mo_br; rw [if_neg c1, if_neg c2, if_pos c3]; rfl, fun z => by omega, fun _ => ?_⟩
          have c4 : ¬ mo_tu r s e p < 3 := fun z => c1 (Or.inr z)
          have e3 : (3 : Int32).toInt = 3 := rfl
          have e4 : (2 : Int32).toInt = 2 := rfl
          rw [Int32.lt_iff_toInt_lt, e3] at c4
          rw [Int32.lt_iff_toInt_lt, e4]
          omega
        · exact ⟨0, by omega, by rw [e1]; unfold mo_br; rw [if_neg c1, if_neg c2, if_neg c3]; rfl, fun z => by omega, fun z => by omega⟩
  · have e1 : mo_wy r s e p = mo_bp r s e p := if_neg b0
    unfold mo_bp at e1 b0
    by_cases c1 : mo_tm r s e
    · exact big 5 (by omega) (by omega) (by rw [e1, if_pos c1]; rfl)
    · rw [if_neg c1] at e1 b0
      by_cases c2 : 0 < p ∧ mo_cm r s e
      · exact big 3 (by omega) (by omega) (by rw [e1, if_pos c2]; rfl)
      · rw [if_neg c2] at e1 b0
        by_cases c3 : p = 2 ∧ ¬ mo_wn r s e = 0
        · exact big 4 (by omega) (by omega) (by rw [e1, if_pos c3]; rfl)
        · rw [if_neg c3] at b0
          exact absurd rfl b0
/-- the product of kernel and best part -/
theorem kt_b {j t : Nat} (hj : j ≤ 30) (ht : t ≤ 1250) : ((nI j - 15) * nI t).toInt = ((j : Int) - 15) * (t : Int) ∧ -18750 ≤ ((j : Int) - 15) * (t : Int) ∧ ((j : Int) - 15) * (t : Int) ≤ 18750 := by
  have e15 : (15 : Int32).toInt = 15 := rfl
  have ej : (nI j - 15).toInt = (j : Int) - 15 := by rw [tS (by rw [nT (by omega), e15]; omega), nT (by omega), e15]
  have b : -18750 ≤ ((j : Int) - 15) * (t : Int) ∧ ((j : Int) - 15) * (t : Int) ≤ 18750 := by
    have h1 : (15 - (j : Int)) * (t : Int) ≤ 15 * (t : Int) := Int.mul_le_mul_of_nonneg_right (by omega) (by omega)
    have h2 : ((j : Int) - 15) * (t : Int) ≤ 15 * (t : Int) := Int.mul_le_mul_of_nonneg_right (by omega) (by omega)
    have h3 : (15 - (j : Int)) * (t : Int) = -(((j : Int) - 15) * (t : Int)) := by rw [← Int.neg_mul]; congr 1; omega
    omega
  refine ⟨?_, b⟩
  rw [tM (by rw [ej, nT (by omega)]; omega), ej, nT (by omega)]
theorem gr_n {r : Nat → Int32} {s e : Nat} (h : el r s e) : ∃ j t : Nat, j ≤ 30 ∧ t ≤ 1250 ∧ mo_ke r (23 + 233 * s + 18 * e + 11) = nI j - 15 ∧ mo_sm r s e (mo_n r s e) = nI t := by
  obtain ⟨hy, j, hj, ej⟩ := h
  obtain ⟨t, ht, et⟩ := rl_sm hy _ (Nat.le_refl _)
  exact ⟨j, t, hj, ht, ej, et⟩
theorem gr_b {r : Nat → Int32} {s e : Nat} (h : el r s e) : -626 ≤ (mo_gr r s e).toInt ∧ (mo_gr r s e).toInt ≤ 626 ∧ ¬ 15 < 30 * mo_gr r s e - mo_ke r (23 + 233 * s + 18 * e + 11) * mo_sm r s e (mo_n r s e) ∧ ¬ 15 < mo_ke r (23 + 233 * s + 18 * e + 11) * mo_sm r s e (mo_n r s e) - 30 * mo_gr r s e := by
  obtain ⟨j, t, hj, ht, ej, et⟩ := gr_n h
  obtain ⟨b1, b2, b3⟩ := kt_b hj ht
  unfold mo_gr
  rw [ej, et]
  generalize (nI j - 15) * nI t = v at b1
  rw [← b1] at b2 b3
  have g := gd_t (v := v) (by omega)
  have e15 : (15 : Int32).toInt = 15 := rfl
  have e30 : (30 : Int32).toInt = 30 := rfl
  have gb : -626 ≤ (mo_gd v).toInt ∧ (mo_gd v).toInt ≤ 626 := by rw [g]; split <;> omega
  have m30 : (30 * mo_gd v).toInt = 30 * (mo_gd v).toInt := by rw [tM (by rw [e30]; omega), e30]
  refine ⟨gb.1, gb.2, ?_, ?_⟩
  · rw [Int32.lt_iff_toInt_lt, e15, tS (by rw [m30]; omega), m30, g]
    split <;> omega
  · rw [Int32.lt_iff_toInt_lt, e15, tS (by rw [m30]; omega), m30, g]
    split <;> omega
theorem ke_b {r : Nat → Int32} {s e : Nat} (h : el r s e) : ¬ mo_ke r (23 + 233 * s + 18 * e + 11) < -15 ∧ ¬ 15 < mo_ke r (23 + 233 * s + 18 * e + 11) := by
  obtain ⟨j, t, hj, ht, ej, et⟩ := gr_n h
  have e15 : (15 : Int32).toInt = 15 := rfl
  have em : (-15 : Int32).toInt = -15 := rfl
  have e1 : (nI j - 15).toInt = (j : Int) - 15 := by rw [tS (by rw [nT (by omega), e15]; omega), nT (by omega), e15]
  rw [ej, Int32.lt_iff_toInt_lt, Int32.lt_iff_toInt_lt, e1, e15, em]
  omega
theorem sb_n {r : Nat → Int32} {s e p : Nat} (h : rl_y r s e p) : ∀ q, q ≤ p → ∃ b : Nat, b ≤ 1250 * q ∧ mo_sb r s e q = nI b
  | 0, _ => ⟨0, by omega, rfl⟩
  | q + 1, hq => by
    obtain ⟨b, hb, eb⟩ := sb_n h q (by omega)
    obtain ⟨x, hx, ex⟩ := rl_v h (q := q) (by omega)
    refine ⟨b + x, by omega, ?_⟩
    show mo_sb r s e q + mo_v r s e q = _
    rw [eb, ex, nI_add]
/-- the settings, points, components and falls of a row -/
def iv (r : Nat → Int32) (m : Nat) : Prop := m ≤ 4 ∧ r 0 = nI m ∧ (∀ j, j < 5 → st_fi (nI j) (r (1 + j))) ∧ ∀ s, s < m → mo_c r s ≤ 12 ∧ (∃ p : Nat, p ≤ 9 ∧ r (6 + 233 * s + 1) = nI p) ∧ (∀ j, j < 3 → ∃ c : Nat, c ≤ 1000 ∧ mo_oc r s j = nI c) ∧ ∀ e, e < mo_c r s → ∃ f : Nat, f ≤ 1 ∧ r (23 + 233 * s + 18 * e + 16) = nI f
theorem fi_4 {v : Int32} (h : st_fi (nI 4) v) : ∃ u : Nat, u ≤ 30 ∧ v = nI u := by
  rcases h with ⟨z, -⟩ | ⟨z | z, -⟩ | ⟨z, -⟩ | ⟨-, h1, h2⟩
  · exact absurd z (by decide)
  · exact absurd z (by decide)
  · exact absurd z (by decide)
  · exact absurd z (by decide)
  · obtain ⟨u, hu, rfl⟩ := nI_of h1
    rw [show (30 : Int32) = nI 30 from rfl, nI_leI (by omega) (by omega)] at h2
    exact ⟨u, h2, rfl⟩
theorem fi_0 {v : Int32} (h : st_fi (nI 0) v) : ∃ u : Nat, u ≤ 300 ∧ v = nI u := by
  rcases h with ⟨-, h1, h2⟩ | ⟨z | z, -⟩ | ⟨z, -⟩ | ⟨z, -⟩
  · have h3 : ¬ v < 0 := fun z => h1 (Int32.lt_trans z (by decide))
    obtain ⟨u, hu, rfl⟩ := nI_of h3
    rw [show (300 : Int32) = nI 300 from rfl, nI_leI (by omega) (by omega)] at h2
    exact ⟨u, h2, rfl⟩
  · exact absurd z (by decide)
  · exact absurd z (by decide)
  · exact absurd z (by decide)
  · exact absurd z (by decide)
theorem pc_n {x y : Nat} (hx : x ≤ 4000) (hy : y ≤ 400) : sc_pc (nI x) (nI y) = nI ((x * y + 50) / 100) := by
  have hb : x * y ≤ 4000 * 400 := Nat.mul_le_mul hx hy
  unfold sc_pc
  exact sk_ndiv (a := x * y + 50) (b := 100) (sk_nadd (a := x * y) (b := 50) (sk_nmul rfl rfl) rfl) rfl (by omega) (by decide)
theorem ba_n {r : Nat → Int32} {m s e : Nat} (h : el r s e) (h3 : mo_n r s e ≤ 3) (hi : iv r m) : ∃ b c : Nat, mo_sb r s e (mo_n r s e) = nI b ∧ mo_ba r s e = nI c ∧ c ≤ 6000 ∧ b ≤ 3750 ∧ b ≤ c ∧ (¬ mo_bn r s e → c = b) := by
  obtain ⟨b, hb, eb⟩ := sb_n h.1 _ (Nat.le_refl _)
  have hb2 : b ≤ 3750 := Nat.le_trans hb (by omega)
  obtain ⟨u, hu, eu⟩ := fi_4 (hi.2.2.1 4 (by omega))
  have hu2 : r 5 = nI u := eu
  unfold mo_ba
  by_cases q : mo_bn r s e
  · rw [if_pos q, eb, hu2, show (100 : Int32) + nI u = nI (100 + u) from sk_nadd (a := 100) (b := u) rfl rfl, pc_n (by omega) (by omega)]
    have h1 : b * 100 ≤ b * (100 + u) := Nat.mul_le_mul_left b (by omega)
    have h2 : b * (100 + u) ≤ 3750 * 130 := Nat.mul_le_mul hb2 (by omega)
    exact ⟨b, _, rfl, rfl, by omega, hb2, by omega, fun z => absurd q z⟩
  · rw [if_neg q, eb]
    exact ⟨b, b, rfl, rfl, by omega, hb2, Nat.le_refl _, fun _ => rfl⟩
theorem te_b {r : Nat → Int32} {m s c : Nat} (hc : c ≤ 12) (h : ∀ e, e < c → el r s e ∧ mo_n r s e ≤ 3) (hi : iv r m) : ∀ e, e ≤ c → -(7000 * (e : Int)) ≤ (mo_te r s e).toInt ∧ (mo_te r s e).toInt ≤ 7000 * (e : Int)
  | 0, _ => by
    show -(7000 * ((0 : Nat) : Int)) ≤ (0 : Int32).toInt ∧ (0 : Int32).toInt ≤ 7000 * ((0 : Nat) : Int)
    decide
  | e + 1, he => by
    obtain ⟨i1, i2⟩ := te_b hc h hi e (by omega)
    obtain ⟨h1, h2⟩ := h e (by omega)
    obtain ⟨b, x, -, ex, hx, -, -, -⟩ := ba_n h1 h2 hi
    obtain ⟨g1, g2, -, -⟩ := gr_b h1
    have exT : (mo_ba r s e).toInt = x := by rw [ex, nT (by omega)]
    have e1 : (mo_ba r s e + mo_gr r s e).toInt = (mo_ba r s e).toInt + (mo_gr r s e).toInt := tA (by rw [exT]; omega)
    show -(7000 * ((e + 1 : Nat) : Int)) ≤ (mo_te r s e + (mo_ba r s e + mo_gr r s e)).toInt ∧ (mo_te r s e + (mo_ba r s e + mo_gr r s e)).toInt ≤ 7000 * ((e + 1 : Nat) : Int)
    rw [tA (by rw [e1, exT]; omega), e1, exT]
    omega
theorem of_n {r : Nat → Int32} {s p c : Nat} (hp : r (6 + 233 * s + 1) = nI p) (h : ∀ e, e < c → ∃ f : Nat, f ≤ 1 ∧ r (23 + 233 * s + 18 * e + 16) = nI f) : ∀ e, e ≤ c → ∃ f : Nat, f ≤ e ∧ sk_sum (fun z => r (23 + 233 * s + 18 * z + 16)) e = nI f ∧ mo_of r s e = nI (100 * p + 100 * f)
  | 0, _ => ⟨0, Nat.le_refl _, rfl, by
    show 100 * r (6 + 233 * s + 1) = _
    rw [hp]
    exact sk_nmul (a := 100) (b := p) rfl rfl⟩
  | e + 1, he => by
    obtain ⟨f, hf, e1, e2⟩ := of_n hp h e (by omega)
    obtain ⟨g, hg, e3⟩ := h e (by omega)
    refine ⟨f + g, by omega, ?_, ?_⟩
    · show sk_sum (fun z => r (23 + 233 * s + 18 * z + 16)) e + r (23 + 233 * s + 18 * e + 16) = _
      rw [e1, e3, nI_add]
    · show mo_of r s e + 100 * r (23 + 233 * s + 18 * e + 16) = _
      rw [e2, e3, show (100 : Int32) * nI g = nI (100 * g) from sk_nmul (a := 100) (b := g) rfl rfl, nI_add]
      congr 1
      omega
theorem cp_n {r : Nat → Int32} {m s : Nat} (hi : iv r m) (hs : s < m) : ∃ c : Nat, c ≤ 10000 ∧ mo_cp r s = nI c := by
  obtain ⟨u, hu, eu⟩ := fi_0 (hi.2.2.1 0 (by omega))
  have hu2 : r 1 = nI u := eu
  obtain ⟨-, -, ho, -⟩ := hi.2.2.2 s hs
  obtain ⟨a, ha, ea⟩ := ho 0 (by omega)
  obtain ⟨b, hb, eb⟩ := ho 1 (by omega)
  obtain ⟨c, hc, ec⟩ := ho 2 (by omega)
  unfold mo_cp
  rw [ea, eb, ec, nI_add, nI_add, hu2, pc_n (by omega) (by omega)]
  have h2 : (a + b + c) * u ≤ 3000 * 300 := Nat.mul_le_mul (by omega) hu
  exact ⟨_, by omega, rfl⟩
/-- a row whose elements are known: what its skaters' numbers are -/
def gd (r : Nat → Int32) (m : Nat) : Prop := iv r m ∧ ∀ s, s < m → ∀ e, e < mo_c r s → el r s e ∧ mo_n r s e ≤ 3
theorem rl_C.gd {M : sk_M} {k : Nat} {S : rl_T} (C : rl_C M k S) (hi : iv S.r S.m) : gd S.r S.m :=
  ⟨hi, fun s hs e he => ⟨C.el hs he, ((C.so.2.2 s hs).2.2 e he).2⟩⟩
theorem T_b {r : Nat → Int32} {m s : Nat} (h : gd r m) (hs : s < m) : (-100000 ≤ (mo_T r s).toInt ∧ (mo_T r s).toInt ≤ 100000) ∧ -100000 ≤ (mo_S r s).toInt ∧ (mo_S r s).toInt ≤ 100000 := by
  obtain ⟨hc12, ⟨p, hp, ep⟩, -, hf⟩ := h.1.2.2.2 s hs
  obtain ⟨t1, t2⟩ := te_b hc12 (h.2 s hs) h.1 _ (Nat.le_refl _)
  obtain ⟨c, hc, ec⟩ := cp_n h.1 hs
  obtain ⟨f, hf2, -, ef⟩ := of_n ep hf _ (Nat.le_refl _)
  have ecT : (mo_cp r s).toInt = c := by rw [ec, nT (by omega)]
  have efT : (mo_of r s (mo_c r s)).toInt = ((100 * p + 100 * f : Nat) : Int) := by rw [ef, nT (by omega)]
  have e1 : (mo_te r s (mo_c r s) + mo_cp r s).toInt = (mo_te r s (mo_c r s)).toInt + c := by rw [tA (by rw [ecT]; omega), ecT]
  refine ⟨?_, ?_, ?_⟩
  · show -100000 ≤ (mo_te r s (mo_c r s) + mo_cp r s - mo_of r s (mo_c r s)).toInt ∧ (mo_te r s (mo_c r s) + mo_cp r s - mo_of r s (mo_c r s)).toInt ≤ 100000
    rw [tS (by rw [e1, efT]; omega), e1, efT]
    omega
  · show -100000 ≤ (mo_te r s (mo_c r s)).toInt
    omega
  · show (mo_te r s (mo_c r s)).toInt ≤ 100000
    omega
