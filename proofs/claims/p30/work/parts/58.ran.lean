/-! The two sides: a whole script -/
theorem cm_d {M : sk_M} {k : Nat} {g : Int32} : cm_read M k g k 0 = g / 10000 ∧ cm_read M k g k 1 = sk_rm (g / 1000) 10 ∧ cm_read M k g k 2 = sk_rm (g / 100) 10 ∧ cm_read M k g k 3 = sk_rm (g / 10) 10 ∧ cm_read M k g k 4 = sk_rm g 10 := by
  unfold cm_read
  refine ⟨?_, ?_, ?_, ?_, sk_sm⟩
  · rw [sk_ne (by omega), sk_ne (by omega), sk_ne (by omega), sk_ne (by omega), sk_sm]
  · rw [sk_ne (by omega), sk_ne (by omega), sk_ne (by omega), sk_sm]
  · rw [sk_ne (by omega), sk_ne (by omega), sk_sm]
  · rw [sk_ne (by omega), sk_sm]
theorem cm_k {M : sk_M} {k : Nat} {g : Int32} : rl_k k M (cm_read M (k + 750) g) := fun a ha => cm_read_f (by omega)
theorem w_dg {G : Nat} (h : G < 100000) : nI G / 10000 = nI (G / 10000) ∧ sk_rm (nI G / 1000) 10 = nI (G / 1000 % 10) ∧ sk_rm (nI G / 100) 10 = nI (G / 100 % 10) ∧ sk_rm (nI G / 10) 10 = nI (G / 10 % 10) ∧ sk_rm (nI G) 10 = nI (G % 10) := by
  have d : ∀ {x : Int32} {b : Nat}, x = nI b → 0 < b → b < 2 ^ 31 → nI G / x = nI (G / b) := fun hx h0 hb => sk_ndiv rfl hx (by omega) ⟨h0, hb⟩
  have l : ∀ b, G / b < 2 ^ 31 := fun b => Nat.lt_of_le_of_lt (Nat.div_le_self _ _) (by omega)
  refine ⟨d rfl (by decide) (by decide), ?_, ?_, ?_, ?_⟩
  · exact sk_nrem (d rfl (by decide) (by decide)) (rfl : (10 : Int32) = nI 10) (l 1000) (by decide)
  · exact sk_nrem (d rfl (by decide) (by decide)) (rfl : (10 : Int32) = nI 10) (l 100) (by decide)
  · exact sk_nrem (d rfl (by decide) (by decide)) (rfl : (10 : Int32) = nI 10) (l 10) (by decide)
  · exact sk_nrem rfl (rfl : (10 : Int32) = nI 10) (by omega) (by decide)
set_option maxRecDepth 100000 in
theorem w_st {N : sk_M} {k m G : Nat} {t : Nat → Int32} (R : rl_s N (k + 751) t m) (hG : G < 100000) :
    rl_s (rs_s k N (nI G)) (k + 751) (mc_t t (nI G / 10000) (sk_rm (nI G / 1000) 10) (sk_rm (nI G / 100) 10) (sk_rm (nI G / 10) 10) (sk_rm (nI G) 10)) m ∧
    (¬ rs_v k N (nI G) = 0 ↔ ¬ mc_v t m (nI G / 10000) (sk_rm (nI G / 1000) 10) (sk_rm (nI G / 100) 10) (sk_rm (nI G / 10) 10) (sk_rm (nI G) 10) = 0) ∧ rl_k k N (rs_s k N (nI G)) := by
  obtain ⟨c0, c1, c2, c3, c4⟩ := cm_d (M := N) (k := k + 750) (g := nI G)
  obtain ⟨d0, d1, d2, d3, d4⟩ := w_dg hG
  have R2 : rl_s (cm_read N (k + 750) (nI G)) (k + 751) t m := R.c (fun a a1 a2 => cm_read_f (by omega))
  have hlt : (5 : Int32) < cm_read N (k + 750) (nI G) (k + 750) 0 ↔ 5 < G / 10000 := by
    rw [c0, d0]
    exact nI_ltI (a := 5) (by decide) (by omega)
  have et : mc_t t (nI G / 10000) (sk_rm (nI G / 1000) 10) (sk_rm (nI G / 100) 10) (sk_rm (nI G / 10) 10) (sk_rm (nI G) 10) = mc_t t (nI (G / 10000)) (nI (G / 1000 % 10)) (nI (G / 100 % 10)) (nI (G / 10 % 10)) (nI (G % 10)) := by rw [d0, d1, d2, d3, d4]
  have ev : mc_v t m (nI G / 10000) (sk_rm (nI G / 1000) 10) (sk_rm (nI G / 100) 10) (sk_rm (nI G / 10) 10) (sk_rm (nI G) 10) = mc_v t m (nI (G / 10000)) (nI (G / 1000 % 10)) (nI (G / 100 % 10)) (nI (G / 10 % 10)) (nI (G % 10)) := by rw [d0, d1, d2, d3, d4]
  unfold rs_s rs_v
  by_cases q : 5 < G / 10000
  · obtain ⟨w1, w2, w3⟩ := w_hd R2 (c0.trans d0) (c1.trans d1) (c2.trans d2) (c3.trans d3) (c4.trans d4) (Nat.mod_lt _ (by decide)) (Nat.mod_lt _ (by decide)) ⟨q, by omega⟩
    refine ⟨?_, ?_, ?_⟩
    · rw [if_pos (hlt.mpr q), et]; exact w1
    · rw [if_pos (hlt.mpr q), ev, v_1]; exact w2
    · rw [if_pos (hlt.mpr q)]; exact cm_k.t w3
  · obtain ⟨w1, w2, w3⟩ := w_ac R2 (c0.trans d0) (c1.trans d1) (c2.trans d2) (c3.trans d3) (c4.trans d4) (Nat.mod_lt _ (by decide)) (Nat.mod_lt _ (by decide)) (by omega)
    refine ⟨?_, ?_, ?_⟩
    · rw [if_neg (fun z => q (hlt.mp z)), et]; exact w1
    · rw [if_neg (fun z => q (hlt.mp z)), ev, v_1]; exact w2
    · rw [if_neg (fun z => q (hlt.mp z))]; exact cm_k.t w3
theorem w_rl {M : sk_M} {k m n X : Nat} {r t : Nat → Int32} (R : rl_s M (k + 1) r m) (hX : X < 2 ^ 63) (h1 : 1 ≤ n) (h4 : n < 4) : ∀ i, i ≤ n → rl_s (rs_l M k n (lN X) i) (k + 751) (rw_l (mu_c r t) n (lN X) i) m ∧ rl_k k M (rs_l M k n (lN X) i)
  | 0, _ => ⟨(R.f (k := k + 751) (by omega)).r (fun y hy => mu_cl hy), rl_k.cs R.wf (by omega)⟩
  | i + 1, hi => by
    obtain ⟨a1, a2⟩ := w_rl (t := t) R hX h1 h4 i (by omega)
    obtain ⟨g1, g2⟩ := rw_ge hX h1 h4 (show i < n by omega)
    have hG : X / 100000 ^ (n - 1 - i) % 100000 < 100000 := Nat.mod_lt _ (by decide)
    obtain ⟨s1, s2, s3⟩ := w_st a1 hG
    show rl_s (rs_s k (rs_l M k n (lN X) i) (rs_g (gb_l (lN X) (n - 1 - i)))) _ (mc_t (rw_l (mu_c r t) n (lN X) i) (rw_g n (lN X) i / 10000) (sk_rm (rw_g n (lN X) i / 1000) 10) (sk_rm (rw_g n (lN X) i / 100) 10) (sk_rm (rw_g n (lN X) i / 10) 10) (sk_rm (rw_g n (lN X) i) 10)) m ∧ rl_k k M (rs_s k (rs_l M k n (lN X) i) (rs_g (gb_l (lN X) (n - 1 - i))))
    rw [g1, g2]
    exact ⟨s1, a2.t s3⟩
theorem w_ra {M : sk_M} {k m n X i : Nat} {r t : Nat → Int32} (R : rl_s M (k + 1) r m) (hX : X < 2 ^ 63) (h1 : 1 ≤ n) (h4 : n < 4) (hi : i < n) : rs_a M k n (lN X) i ↔ ¬ rw_v (mu_c r t) m n (lN X) i = 0 := by
  obtain ⟨a1, a2⟩ := w_rl (t := t) R hX h1 h4 i (by omega)
  obtain ⟨g1, g2⟩ := rw_ge hX h1 h4 hi
  have hG : X / 100000 ^ (n - 1 - i) % 100000 < 100000 := Nat.mod_lt _ (by decide)
  obtain ⟨s1, s2, s3⟩ := w_st a1 hG
  unfold rs_a rw_v
  rw [g1, g2]
  exact s2
set_option maxRecDepth 100000 in
theorem q_rs {M M' : sk_M} {k m : Nat} {v : Int32} {x : Int64} {r t : Nat → Int32} {a b : Int32} (R : rl_s M (k + 1) r m) (h : rs_q M k v x a M')
    (g : (∃ q, q < v.toNatClampNeg ∧ (∀ j, j < q → ¬ rw_v (mu_c r t) m v.toNatClampNeg x j = 0) ∧ rw_v (mu_c r t) m v.toNatClampNeg x q = 0 ∧ b = nI q) ∨ ((∀ j, j < v.toNatClampNeg → ¬ rw_v (mu_c r t) m v.toNatClampNeg x j = 0) ∧ b = -1)) : a = b ∧ rl_k k M M' := by
  obtain ⟨hk, h⟩ := h
  obtain ⟨hv1, hv3, hx, -⟩ := hk
  obtain ⟨X, hX, rfl⟩ := l_of hx
  have h1 : ¬ v < 0 := fun z => hv1 (by
    simp only [Int32.lt_iff_toInt_lt] at *
    have e0 : (0 : Int32).toInt = 0 := rfl
    have e1 : (1 : Int32).toInt = 1 := rfl
    omega)
  obtain ⟨b1, b2⟩ := mo_ix (w := v) (hi := 3) (m := 3) ⟨h1, Int32.not_lt.mpr hv3⟩ rfl (by decide)
  have b3 : 1 ≤ v.toNatClampNeg := Classical.byContradiction (fun z => hv1 (by rw [b1, show v.toNatClampNeg = 0 from by omega]; decide))
  have A : ∀ i, i < v.toNatClampNeg → (rs_a M k v.toNatClampNeg (lN X) i ↔ ¬ rw_v (mu_c r t) m v.toNatClampNeg (lN X) i = 0) := fun i hi => w_ra R hX b3 b2 hi
  have K : ∀ i, i ≤ v.toNatClampNeg → rl_k k M (rs_l M k v.toNatClampNeg (lN X) i) := fun i hi => (w_rl (t := t) R hX b3 b2 i hi).2
  rcases h with ⟨i, hi, p1, p2, p3, p4⟩ | ⟨p1, p2, p3⟩
  · subst p4
    refine ⟨?_, K _ (by omega)⟩
    rcases g with ⟨q, hq, g1, g2, g3⟩ | ⟨g1, g2⟩
    · rw [p3, g3]
      congr 1
      rcases Nat.lt_trichotomy i q with w | w | w
      · exact absurd ((A i hi).mpr (g1 i w)) p2
      · exact w
      · exact absurd g2 ((A q hq).mp (p1 q w))
    · exact absurd ((A i hi).mpr (g1 i hi)) p2
  · subst p3
    refine ⟨?_, K _ (Nat.le_refl _)⟩
    rcases g with ⟨q, hq, g1, g2, g3⟩ | ⟨g1, g2⟩
    · exact absurd g2 ((A q hq).mp (p1 q hq))
    · rw [p2, g2]
