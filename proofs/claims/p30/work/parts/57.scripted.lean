/-! The two sides: scripts -/
theorem l_of {x : Int64} (h : ¬ x < 0) : ∃ n, n < 2 ^ 63 ∧ x = lN n := by
  have h1 : ¬ x.toInt < 0 := fun z => h (Int64.lt_iff_toInt_lt.mpr z)
  have h2 := Int64.toInt_lt x
  have h3 : x.toInt.toNat < 2 ^ 63 := by omega
  refine ⟨x.toInt.toNat, h3, Int64.toInt_inj.mp ?_⟩
  rw [show (lN x.toInt.toNat).toInt = ((x.toInt.toNat : Nat) : Int) from lg_ofNat_toInt h3]
  omega
theorem l_lt {a b : Nat} (ha : a < 2 ^ 63) (hb : b < 2 ^ 63) : lN a < lN b ↔ a < b := by
  rw [Int64.lt_iff_toInt_lt, show (lN a).toInt = (a : Int) from lg_ofNat_toInt ha, show (lN b).toInt = (b : Int) from lg_ofNat_toInt hb]
  omega
theorem l_eq {a b : Nat} (ha : a < 2 ^ 63) (hb : b < 2 ^ 63) : lN a = lN b ↔ a = b := by
  rw [← Int64.toInt_inj, show (lN a).toInt = (a : Int) from lg_ofNat_toInt ha, show (lN b).toInt = (b : Int) from lg_ofNat_toInt hb]
  omega
theorem gb_n {X : Nat} (h : X < 2 ^ 63) : ∀ i, gb_l (lN X) i = lN (X / 100000 ^ i)
  | 0 => by show lN X = _; rw [Nat.pow_zero, Nat.div_one]
  | i + 1 => by
    show gb_l (lN X) i / 100000 = _
    rw [gb_n h i, show (100000 : Int64) = lN 100000 from rfl, pk_lDiv (Nat.lt_of_le_of_lt (Nat.div_le_self _ _) h) (by decide) (by decide), Nat.div_div_eq_div_mul, Nat.pow_succ]
theorem rs_gn {Y : Nat} (h : Y < 2 ^ 63) : rs_g (lN Y) = nI (Y % 100000) := by
  unfold rs_g
  rw [show (100000 : Int64) = lN 100000 from rfl, pk_lRem h (by decide) (by decide), lN_i]
theorem rn_e : ∀ n, 1 ≤ n → n < 4 → ∀ q, q < n → rn_q (rn_p n) (q + 1) = lN (100000 ^ (n - 1 - q)) := by
  intro n h1 h2
  rcases (show n = 1 ∨ n = 2 ∨ n = 3 by omega) with rfl | rfl | rfl <;> decide
theorem rn_s : ∀ n, 1 ≤ n → n < 4 → rn_p n - 1 = lN (100000 ^ n - 1) ∧ 100000 ^ n < 2 ^ 63 := by
  intro n h1 h2
  rcases (show n = 1 ∨ n = 2 ∨ n = 3 by omega) with rfl | rfl | rfl <;> decide
theorem rn_d : ∀ n, 1 ≤ n → n < 4 → ∀ q, q < n → 100000 ^ (n - 1 - q) < 2 ^ 63 ∧ 0 < 100000 ^ (n - 1 - q) := by
  intro n h1 h2
  rcases (show n = 1 ∨ n = 2 ∨ n = 3 by omega) with rfl | rfl | rfl <;> decide
/-- the two sides cut the same commands out -/
theorem rw_ge {n q X : Nat} (h : X < 2 ^ 63) (h1 : 1 ≤ n) (h2 : n < 4) (hq : q < n) : rs_g (gb_l (lN X) (n - 1 - q)) = nI (X / 100000 ^ (n - 1 - q) % 100000) ∧ rw_g n (lN X) q = nI (X / 100000 ^ (n - 1 - q) % 100000) := by
  obtain ⟨d1, d2⟩ := rn_d n h1 h2 q hq
  have h3 : X / 100000 ^ (n - 1 - q) < 2 ^ 63 := Nat.lt_of_le_of_lt (Nat.div_le_self _ _) h
  refine ⟨by rw [gb_n h, rs_gn h3], ?_⟩
  unfold rw_g
  rw [rn_e n h1 h2 q hq, pk_lDiv h d2 d1, rs_gn h3]
theorem rs_rn {v : Int32} {x : Int64} : rs_k v x ↔ rn_k v x := by
  have key : (¬ v < 1 ∧ ¬ 3 < v) → ¬ x < 0 → (gb_l x v.toNatClampNeg = 0 ↔ ¬ rn_p v.toNatClampNeg - 1 < x) := by
    intro hv hx
    obtain ⟨X, hX, rfl⟩ := l_of hx
    have h1 : ¬ v < 0 := fun z => hv.1 (by
      simp only [Int32.lt_iff_toInt_lt] at *
      have e0 : (0 : Int32).toInt = 0 := rfl
      have e1 : (1 : Int32).toInt = 1 := rfl
      omega)
    obtain ⟨b1, b2⟩ := mo_ix (w := v) (hi := 3) (m := 3) ⟨h1, hv.2⟩ rfl (by decide)
    have b3 : 1 ≤ v.toNatClampNeg := Classical.byContradiction (fun z => hv.1 (by rw [b1, show v.toNatClampNeg = 0 from by omega]; decide))
    obtain ⟨s1, s2⟩ := rn_s _ b3 b2
    have h5 : 0 < 100000 ^ v.toNatClampNeg := Nat.pos_of_ne_zero (fun z => by
      have := Nat.pow_pos (n := v.toNatClampNeg) (show 0 < 100000 by decide)
      omega)
    rw [gb_n hX, s1, l_lt (by omega) hX, show (0 : Int64) = lN 0 from rfl, l_eq (Nat.lt_of_le_of_lt (Nat.div_le_self _ _) hX) (by decide), Nat.div_eq_zero_iff]
    omega
  constructor
  · rintro ⟨a, b, c, d⟩
    exact ⟨⟨a, Int32.not_lt.mpr b⟩, c, (key ⟨a, Int32.not_lt.mpr b⟩ c).mp d⟩
  · rintro ⟨⟨a, b⟩, c, d⟩
    exact ⟨a, Int32.not_lt.mp b, c, (key ⟨a, b⟩ c).mpr d⟩
theorem v_1 {P : Prop} [Decidable P] : ¬ (if P then (1 : Int32) else 0) = 0 ↔ P := by
  by_cases h : P
  · rw [if_pos h]; exact ⟨fun _ => h, fun _ => by decide⟩
  · rw [if_neg h]; exact ⟨fun z => absurd rfl z, fun z => absurd z h⟩
theorem v_n {P : Prop} [Decidable P] {x : Int32} : ¬ (if P then 0 else x) = 0 ↔ ¬ P ∧ ¬ x = 0 := by
  by_cases h : P
  · rw [if_pos h]; exact ⟨fun z => absurd rfl z, fun z => absurd h z.1⟩
  · rw [if_neg h]; exact ⟨fun z => ⟨h, z⟩, fun z => z.2⟩
theorem v_p {P : Prop} [Decidable P] {x : Int32} : ¬ (if P then x else 0) = 0 ↔ P ∧ ¬ x = 0 := by
  by_cases h : P
  · rw [if_pos h]; exact ⟨fun z => ⟨h, z⟩, fun z => z.2⟩
  · rw [if_neg h]; exact ⟨fun z => absurd rfl z, fun z => absurd z.1 h⟩
theorem v_0 : ∀ z, z < 100 → (nI z = 0 ↔ ¬ 0 < nI z) := by decide +kernel
theorem v_2 {b c : Nat} (hb : b < 10) (hc : c < 10) : 10 * nI b + nI c = 0 ↔ ¬ 0 < 10 * nI b + nI c := by
  have e : 10 * nI b + nI c = nI (10 * b + c) := sk_nadd (sk_nmul rfl rfl) rfl
  rw [e]
  exact v_0 _ (by omega)
theorem v_10 : ¬ (1 : Int32) = 0 := by decide
/-- the first five commands, on both sides -/
theorem w_ac {N : sk_M} {k m o a b c d : Nat} {t : Nat → Int32} (R : rl_s N (k + 751) t m) (e0 : N (k + 750) 0 = nI o) (e1 : N (k + 750) 1 = nI a) (e2 : N (k + 750) 2 = nI b) (e3 : N (k + 750) 3 = nI c) (e4 : N (k + 750) 4 = nI d) (hb : b < 10) (hc : c < 10) (ho : o ≤ 5) :
    rl_s (ac_m N (k + 750) (k + 751)) (k + 751) (mc_t t (nI o) (nI a) (nI b) (nI c) (nI d)) m ∧ (ac_p N (k + 750) (k + 751) ↔ ¬ mc_v t m (nI o) (nI a) (nI b) (nI c) (nI d) = 0) ∧ rl_k k N (ac_m N (k + 750) (k + 751)) := by
  have h4 := R.1
  have fr : ∀ {s : Int32} {d j : Nat} {v : Int32}, mo_hs t s → d < 10 → rl_k k N (sk_ms N (st_pg (k + 751) s + d) j v) := fun {s d j v} h hd => by
    have := (R.hx h).2
    exact rl_k.ms (by unfold st_pg; omega)
  have fi : ∀ {P : Prop} [Decidable P] {N' : sk_M}, (P → rl_k k N N') → rl_k k N (if P then N' else N) := fun {P} _ {N'} h => by
    by_cases q : P
    · rw [if_pos q]; exact h q
    · rw [if_neg q]; exact rl_k.r
  unfold ac_m ac_p mc_t mc_v
  rw [e0]
  rcases (show o = 0 ∨ o = 1 ∨ o = 2 ∨ o = 3 ∨ o = 4 ∨ o = 5 by omega) with rfl | rfl | rfl | rfl | rfl | rfl
  · simp only [show ¬ nI 0 = 1 by decide, show ¬ nI 0 = 2 by decide, show ¬ nI 0 = 3 by decide, show ¬ nI 0 = 4 by decide, show ¬ nI 0 = 5 by decide, show ¬ nI 0 = 6 by decide, show ¬ nI 0 = 7 by decide, show ¬ nI 0 = 8 by decide, show ¬ nI 0 = 9 by decide, if_false, or_false, not_true]
    exact ⟨R, trivial, rl_k.r⟩
  · simp only [if_pos (show nI 1 = 1 by decide), if_pos (show nI 1 = 1 ∨ nI 1 = 3 by decide), cm_2, e1, e2, e3, e4]
    refine ⟨?_, ?_, ?_⟩
    · by_cases q : 1 < nI d
      · rw [if_pos q, if_pos q]; exact R
      · rw [if_neg q, if_neg q]; exact u_if R.he R (fun h => u_fall R h)
    · rw [v_n, v_1, R.he]
    · by_cases q : 1 < nI d
      · rw [if_pos q]; exact rl_k.r
      · rw [if_neg q]; exact fi (fun h => fr (R.he.mp h).1 (by decide))
  · simp only [if_neg (show ¬ nI 2 = 1 by decide), if_neg (show ¬ (nI 2 = 1 ∨ nI 2 = 3) by decide), if_pos (show nI 2 = 2 by decide), e1, e2, e3, e4]
    refine ⟨u_if (u_cc R) R (fun h => u_call R h), ?_, fi (fun h => fr ((ck_0 ((u_cc R).mp h)).1.1.1) (by decide))⟩
    rw [v_p, v_n, u_cc R]
    refine ⟨fun h => ⟨h, fun z => ?_, v_10⟩, fun h => h.1⟩
    obtain ⟨hp, -, hty⟩ := ck_0 h
    obtain ⟨-, -, -, -, -, p, hp3, r2, r3, ry, r6⟩ := R.E hp.1
    have hpx := (R.px hp).2
    have e5 : mo_n t (nI a).toNatClampNeg (nI b).toNatClampNeg = p := by show (mo_np t _ _).toNatClampNeg = p; rw [r3, nI_clamp (by omega)]
    rcases ry with ⟨-, y2⟩ | ⟨y1, -, -⟩
    · obtain ⟨a', t', c', ha, ht, ht4, hc', ek, et, ec⟩ := y2 _ (by rw [← e5]; exact hpx)
      have ec2 : t (25 + 233 * (nI a).toNatClampNeg + 18 * (nI b).toNatClampNeg + 3 * (nI c).toNatClampNeg + 2) = nI c' := ec
      rw [ec2] at z
      exact nI_pos (by omega) z
    · rw [hty] at y1; exact absurd y1 (by decide)
  · simp only [if_neg (show ¬ nI 3 = 1 by decide), if_neg (show ¬ nI 3 = 2 by decide), if_pos (show nI 3 = 1 ∨ nI 3 = 3 by decide), if_pos (show nI 3 = 3 by decide), cm_2, e1, e2, e3, e4]
    refine ⟨?_, ?_, ?_⟩
    · by_cases q : 1 < nI d
      · rw [if_pos q, if_pos q]; exact R
      · rw [if_neg q, if_neg q]; exact u_if R.he R (fun h => u_rev R h)
    · rw [v_n, v_1, R.he]
    · by_cases q : 1 < nI d
      · rw [if_pos q]; exact rl_k.r
      · rw [if_neg q]; exact fi (fun h => fr (R.he.mp h).1 (by decide))
  · simp only [if_neg (show ¬ nI 4 = 1 by decide), if_neg (show ¬ nI 4 = 2 by decide), if_neg (show ¬ (nI 4 = 1 ∨ nI 4 = 3) by decide), if_neg (show ¬ nI 4 = 3 by decide), if_pos (show nI 4 = 4 by decide), cm_2, e1, e2, e3, e4]
    refine ⟨?_, ?_, ?_⟩
    · by_cases q : 0 < 10 * nI b + nI c
      · rw [if_pos (fun z => (v_2 hb hc).mp z q), if_pos q]; exact R
      · rw [if_neg (fun z => z ((v_2 hb hc).mpr q)), if_neg q]; exact u_if R.hs R (fun h => u_pen R h)
    · rw [v_n, v_1, R.hs, v_2 hb hc]
    · by_cases q : 0 < 10 * nI b + nI c
      · rw [if_pos (fun z => (v_2 hb hc).mp z q)]; exact rl_k.r
      · rw [if_neg (fun z => z ((v_2 hb hc).mpr q))]; exact fi (fun h => fr (d := 0) (R.hs.mp h) (by decide))
  · simp only [if_neg (show ¬ nI 5 = 1 by decide), if_neg (show ¬ nI 5 = 2 by decide), if_neg (show ¬ (nI 5 = 1 ∨ nI 5 = 3) by decide), if_neg (show ¬ nI 5 = 3 by decide), if_neg (show ¬ nI 5 = 4 by decide), if_pos (show nI 5 = 5 by decide), cm_3, e1, e2, e3, e4]
    refine ⟨u_if Iff.rfl R (fun h => u_set R h), v_1.symm, fi (fun h => rl_k.ms (by omega))⟩
theorem hd_s_c {N : sk_M} {k : Nat} (h : k + 750 < k + 751) : hd_s N k (k + 750) = N (k + 750) ∧ hd_r N k (k + 750) = N (k + 750) := ⟨sc_ra_f (by omega), sd_rk_f (by omega) (by omega)⟩
/-- the last four -/
theorem w_hd {N : sk_M} {k m o a b c d : Nat} {t : Nat → Int32} (R : rl_s N (k + 751) t m) (e0 : N (k + 750) 0 = nI o) (e1 : N (k + 750) 1 = nI a) (e2 : N (k + 750) 2 = nI b) (e3 : N (k + 750) 3 = nI c) (e4 : N (k + 750) 4 = nI d) (hb : b < 10) (hc : c < 10) (ho : 5 < o ∧ o < 10) :
    rl_s (hd_m N k) (k + 751) (mc_t t (nI o) (nI a) (nI b) (nI c) (nI d)) m ∧ (hd_p N k ↔ ¬ mc_v t m (nI o) (nI a) (nI b) (nI c) (nI d) = 0) ∧ rl_k k N (hd_m N k) := by
  have h4 := R.1
  have kr : rl_k k N (hd_r N k) := rl_k.rk (by omega) (by omega)
  have ks : rl_k k N (hd_s N k) := rl_k.ra (by omega)
  have km : rl_k k N (hd_m N k) := by
    unfold hd_m
    split; exact rl_k.r
    split; exact rl_k.r
    split; exact kr
    exact ks
  have Rs : rl_s (hd_s N k) (k + 751) t m := R.c (fun x x1 x2 => sc_ra_f (by omega))
  have Rr : rl_s (hd_r N k) (k + 751) t m := R.c (fun x x1 x2 => sd_rk_f (by omega) (by omega))
  have Rm : rl_s (hd_m N k) (k + 751) t m := by
    unfold hd_m
    split; exact R
    split; exact R
    split; exact Rr
    exact Rs
  obtain ⟨es, er⟩ := hd_s_c (N := N) (k := k) (by omega)
  have W : mo_hs t (nI a) → cw (hd_s N k) (k + 738) t (nI a).toNatClampNeg := fun h => by
    have hx := (R.hx h).2
    unfold hd_s
    rw [e1]
    exact rl_ra (by omega) (by unfold st_pg; omega) R.2.2.2.1 (R.P h)
  refine ⟨?_, ?_, km⟩
  · unfold mc_t
    rw [if_neg (show ¬ (nI o = 1 ∨ nI o = 3) from fun z => by rcases z with z | z <;> (rcases (show o = 6 ∨ o = 7 ∨ o = 8 ∨ o = 9 by omega) with rfl | rfl | rfl | rfl <;> exact absurd z (by decide))), if_neg (show ¬ nI o = 2 from fun z => by rcases (show o = 6 ∨ o = 7 ∨ o = 8 ∨ o = 9 by omega) with rfl | rfl | rfl | rfl <;> exact absurd z (by decide)), if_neg (show ¬ nI o = 4 from fun z => by rcases (show o = 6 ∨ o = 7 ∨ o = 8 ∨ o = 9 by omega) with rfl | rfl | rfl | rfl <;> exact absurd z (by decide)), if_neg (show ¬ nI o = 5 from fun z => by rcases (show o = 6 ∨ o = 7 ∨ o = 8 ∨ o = 9 by omega) with rfl | rfl | rfl | rfl <;> exact absurd z (by decide))]
    exact Rm
  · unfold hd_p mc_v
    rw [e0]
    rcases (show o = 6 ∨ o = 7 ∨ o = 8 ∨ o = 9 by omega) with rfl | rfl | rfl | rfl
    · simp only [if_neg (show ¬ nI 6 = 9 by decide), if_neg (show ¬ (nI 6 = 1 ∨ nI 6 = 3) by decide), if_neg (show ¬ nI 6 = 2 by decide), if_neg (show ¬ nI 6 = 4 by decide), if_neg (show ¬ nI 6 = 5 by decide), if_pos (show nI 6 = 6 by decide), cm_2, er, e1, e2, e3, e4]
      by_cases h : mo_hs t (nI a)
      · rw [if_neg (fun z => z (R.hs.mpr h)), v_n, v_p, v_1, R.n, v_2 hb hc]
        have := rk_pl (k := k + 747) (c := k + 738) (by omega) (by omega) (by omega) R (R.hx h).2
        unfold hd_r
        rw [this]
        exact ⟨fun z => ⟨z.1, h, z.2⟩, fun z => ⟨z.1, z.2.2⟩⟩
      · rw [if_pos (fun z => h (R.hs.mp z)), v_n, v_p]
        exact ⟨fun z => absurd z (fun z => z), fun z => absurd z.2.1 h⟩
    · simp only [if_neg (show ¬ nI 7 = 9 by decide), if_neg (show ¬ nI 7 = 6 by decide), if_neg (show ¬ (nI 7 = 1 ∨ nI 7 = 3) by decide), if_neg (show ¬ nI 7 = 2 by decide), if_neg (show ¬ nI 7 = 4 by decide), if_neg (show ¬ nI 7 = 5 by decide), if_pos (show nI 7 = 7 by decide), cm_3, es, e0, e1, e2, e3, e4]
      by_cases h : mo_hs t (nI a)
      · rw [if_neg (fun z => z (R.hs.mpr h)), v_p, v_n, (W h).2.2.2.2.1]
        exact ⟨fun z => ⟨h, z, v_10⟩, fun z => z.2.1⟩
      · rw [if_pos (fun z => h (R.hs.mp z)), v_p]
        exact ⟨fun z => absurd z (fun z => z), fun z => absurd z.1 h⟩
    · simp only [if_neg (show ¬ nI 8 = 9 by decide), if_neg (show ¬ nI 8 = 6 by decide), if_neg (show ¬ (nI 8 = 1 ∨ nI 8 = 3) by decide), if_neg (show ¬ nI 8 = 2 by decide), if_neg (show ¬ nI 8 = 4 by decide), if_neg (show ¬ nI 8 = 5 by decide), if_neg (show ¬ nI 8 = 7 by decide), if_pos (show nI 8 = 8 by decide), es, e0, e1, e2, e3, e4]
      by_cases h : mo_hs t (nI a)
      · rw [if_neg (fun z => z (R.hs.mpr h)), v_p, v_1, Rs.hp]
        constructor
        · intro z
          have := (W h).2.2.2.2.2.2 _ _ (R.ex z.1.1).2 (R.px z.1).2
          exact ⟨z.1, this.2.symm.trans z.2⟩
        · intro z
          have := (W h).2.2.2.2.2.2 _ _ (R.ex z.1.1).2 (R.px z.1).2
          exact ⟨z.1, this.2.trans z.2⟩
      · rw [if_pos (fun z => h (R.hs.mp z)), v_p]
        exact ⟨fun z => absurd z (fun z => z), fun z => absurd z.1.1.1 h⟩
    · simp only [if_pos (show nI 9 = 9 by decide), if_neg (show ¬ (nI 9 = 1 ∨ nI 9 = 3) by decide), if_neg (show ¬ nI 9 = 2 by decide), if_neg (show ¬ nI 9 = 4 by decide), if_neg (show ¬ nI 9 = 5 by decide), if_neg (show ¬ nI 9 = 6 by decide), if_neg (show ¬ nI 9 = 7 by decide), if_neg (show ¬ nI 9 = 8 by decide), cm_2, e1, e2, e3, e4]
      rw [v_p, v_p, v_n, show st_rv N (k + 751) = _ from sums_e (Or.inr ⟨rfl, rfl⟩) R]
      exact ⟨fun z => ⟨z.1, z.2.1, z.2.2, v_10⟩, fun z => ⟨z.1, z.2.1, z.2.2.1⟩⟩
