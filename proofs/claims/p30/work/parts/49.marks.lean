/-! The two sides: five marks -/
abbrev oI (i : Int) : Int32 := Int32.ofInt i
theorem oI_t {i : Int} (h : -1000 ≤ i ∧ i ≤ 1000) : (oI i).toInt = i := by
  rw [Int32.toInt_ofInt]
  exact Int.bmod_eq_of_le (by simp; omega) (by simp; omega)
theorem oI_n (n : Nat) : nI n = oI (n : Int) := by
  apply Int32.toBitVec_inj.mp
  show BitVec.ofNat 32 n = BitVec.ofInt 32 (n : Int)
  exact (BitVec.ofInt_natCast 32 n).symm
theorem oI_a (a b : Int) : oI a + oI b = oI (a + b) := (Int32.ofInt_add a b).symm
theorem oI_s (a b : Int) : oI a - oI b = oI (a - b) := by rw [oI, oI, oI, Int32.ofInt_sub]
theorem oI_mn {a b : Int} (ha : -1000 ≤ a ∧ a ≤ 1000) (hb : -1000 ≤ b ∧ b ≤ 1000) : sk_mn (oI a) (oI b) = oI (min a b) := by
  unfold sk_mn
  by_cases h : oI b < oI a
  · rw [if_pos h]
    rw [Int32.lt_iff_toInt_lt, oI_t ha, oI_t hb] at h
    rw [show min a b = b from by omega]
  · rw [if_neg h]
    rw [Int32.lt_iff_toInt_lt, oI_t ha, oI_t hb] at h
    rw [show min a b = a from by omega]
theorem oI_mx {a b : Int} (ha : -1000 ≤ a ∧ a ≤ 1000) (hb : -1000 ≤ b ∧ b ≤ 1000) : sk_mx (oI a) (oI b) = oI (max a b) := by
  unfold sk_mx
  by_cases h : oI a < oI b
  · rw [if_pos h]
    rw [Int32.lt_iff_toInt_lt, oI_t ha, oI_t hb] at h
    rw [show max a b = b from by omega]
  · rw [if_neg h]
    rw [Int32.lt_iff_toInt_lt, oI_t ha, oI_t hb] at h
    rw [show max a b = a from by omega]
theorem mx_2 {x y : Int} : ∃ z, max x y = z ∧ x ≤ z ∧ y ≤ z ∧ (z = x ∨ z = y) := ⟨_, rfl, Int.le_max_left _ _, Int.le_max_right _ _, (Int.le_total x y).elim (fun h => Or.inr (Int.max_eq_right h)) (fun h => Or.inl (Int.max_eq_left h))⟩
theorem mn_2 {x y : Int} : ∃ z, min x y = z ∧ z ≤ x ∧ z ≤ y ∧ (z = x ∨ z = y) := ⟨_, rfl, Int.min_le_left _ _, Int.min_le_right _ _, (Int.le_total x y).elim (fun h => Or.inl (Int.min_eq_left h)) (fun h => Or.inr (Int.min_eq_right h))⟩
theorem mx_5 (a b c d e : Int) : ∃ X, max (max (max a b) (max c d)) e = X ∧ (a ≤ X ∧ b ≤ X ∧ c ≤ X ∧ d ≤ X ∧ e ≤ X) ∧ (X = a ∨ X = b ∨ X = c ∨ X = d ∨ X = e) := by
  obtain ⟨p, hp, p1, p2, p3⟩ := @mx_2 a b
  obtain ⟨q, hq, q1, q2, q3⟩ := @mx_2 c d
  obtain ⟨u, hu, u1, u2, u3⟩ := @mx_2 p q
  obtain ⟨X, hX, x1, x2, x3⟩ := @mx_2 u e
  rw [hp, hq, hu, hX]
  refine ⟨X, rfl, ⟨Int.le_trans p1 (Int.le_trans u1 x1), Int.le_trans p2 (Int.le_trans u1 x1), Int.le_trans q1 (Int.le_trans u2 x1), Int.le_trans q2 (Int.le_trans u2 x1), x2⟩, ?_⟩
  rcases x3 with rfl | rfl
  · rcases u3 with rfl | rfl
    · rcases p3 with rfl | rfl <;> simp
    · rcases q3 with rfl | rfl <;> simp
  · simp
theorem mn_5 (a b c d e : Int) : ∃ X, min (min (min a b) (min c d)) e = X ∧ (X ≤ a ∧ X ≤ b ∧ X ≤ c ∧ X ≤ d ∧ X ≤ e) ∧ (X = a ∨ X = b ∨ X = c ∨ X = d ∨ X = e) := by
  obtain ⟨p, hp, p1, p2, p3⟩ := @mn_2 a b
  obtain ⟨q, hq, q1, q2, q3⟩ := @mn_2 c d
  obtain ⟨u, hu, u1, u2, u3⟩ := @mn_2 p q
  obtain ⟨X, hX, x1, x2, x3⟩ := @mn_2 u e
  rw [hp, hq, hu, hX]
  refine ⟨X, rfl, ⟨Int.le_trans x1 (Int.le_trans u1 p1), Int.le_trans x1 (Int.le_trans u1 p2), Int.le_trans x1 (Int.le_trans u2 q1), Int.le_trans x1 (Int.le_trans u2 q2), x2⟩, ?_⟩
  rcases x3 with rfl | rfl
  · rcases u3 with rfl | rfl
    · rcases p3 with rfl | rfl <;> simp
    · rcases q3 with rfl | rfl <;> simp
  · simp
theorem mx_4 (a b c d e : Int) : ∃ X, max (max (max (max a b) c) d) e = X ∧ (a ≤ X ∧ b ≤ X ∧ c ≤ X ∧ d ≤ X ∧ e ≤ X) ∧ (X = a ∨ X = b ∨ X = c ∨ X = d ∨ X = e) := by
  obtain ⟨p, hp, p1, p2, p3⟩ := @mx_2 a b
  obtain ⟨q, hq, q1, q2, q3⟩ := @mx_2 p c
  obtain ⟨u, hu, u1, u2, u3⟩ := @mx_2 q d
  obtain ⟨X, hX, x1, x2, x3⟩ := @mx_2 u e
  rw [hp, hq, hu, hX]
  refine ⟨X, rfl, ⟨Int.le_trans p1 (Int.le_trans q1 (Int.le_trans u1 x1)), Int.le_trans p2 (Int.le_trans q1 (Int.le_trans u1 x1)), Int.le_trans q2 (Int.le_trans u1 x1), Int.le_trans u2 x1, x2⟩, ?_⟩
  rcases x3 with rfl | rfl
  · rcases u3 with rfl | rfl
    · rcases q3 with rfl | rfl
      · rcases p3 with rfl | rfl <;> simp
      · simp
    · simp
  · simp
theorem mn_4 (a b c d e : Int) : ∃ X, min (min (min (min a b) c) d) e = X ∧ (X ≤ a ∧ X ≤ b ∧ X ≤ c ∧ X ≤ d ∧ X ≤ e) ∧ (X = a ∨ X = b ∨ X = c ∨ X = d ∨ X = e) := by
  obtain ⟨p, hp, p1, p2, p3⟩ := @mn_2 a b
  obtain ⟨q, hq, q1, q2, q3⟩ := @mn_2 p c
  obtain ⟨u, hu, u1, u2, u3⟩ := @mn_2 q d
  obtain ⟨X, hX, x1, x2, x3⟩ := @mn_2 u e
  rw [hp, hq, hu, hX]
  refine ⟨X, rfl, ⟨Int.le_trans x1 (Int.le_trans u1 (Int.le_trans q1 p1)), Int.le_trans x1 (Int.le_trans u1 (Int.le_trans q1 p2)), Int.le_trans x1 (Int.le_trans u1 q2), Int.le_trans x1 u2, x2⟩, ?_⟩
  rcases x3 with rfl | rfl
  · rcases u3 with rfl | rfl
    · rcases q3 with rfl | rfl
      · rcases p3 with rfl | rfl <;> simp
      · simp
    · simp
  · simp
theorem mx_r {x y lo hi : Int} (hx : lo ≤ x ∧ x ≤ hi) (hy : lo ≤ y ∧ y ≤ hi) : lo ≤ max x y ∧ max x y ≤ hi := ⟨Int.le_trans hx.1 (Int.le_max_left _ _), Int.max_le.mpr ⟨hx.2, hy.2⟩⟩
theorem mn_r {x y lo hi : Int} (hx : lo ≤ x ∧ x ≤ hi) (hy : lo ≤ y ∧ y ≤ hi) : lo ≤ min x y ∧ min x y ≤ hi := ⟨Int.le_min.mpr ⟨hx.1, hy.1⟩, Int.le_trans (Int.min_le_left _ _) hx.2⟩
/-- three of five -/
def t3 (a b c d e : Int) : Int := a + b + c + d + e - min (min (min a b) (min c d)) e - max (max (max a b) (max c d)) e
theorem t3_x {a b c d e : Int} (ha : 0 ≤ a ∧ a ≤ 100) (hb : 0 ≤ b ∧ b ≤ 100) (hc : 0 ≤ c ∧ c ≤ 100) (hd : 0 ≤ d ∧ d ≤ 100) (he : 0 ≤ e ∧ e ≤ 100) : x_t3 (oI a) (oI b) (oI c) (oI d) (oI e) = oI (t3 a b c d e) := by
  unfold x_t3 t3
  have w : ∀ x : Int, 0 ≤ x ∧ x ≤ 100 → -1000 ≤ x ∧ x ≤ 1000 := fun x h => by omega
  have n1 := mn_r ha hb
  have n2 := mn_r hc hd
  have n3 := mn_r n1 n2
  have x1 := mx_r ha hb
  have x2 := mx_r hc hd
  have x3 := mx_r x1 x2
  rw [oI_mn (w _ ha) (w _ hb), oI_mn (w _ hc) (w _ hd), oI_mn (w _ n1) (w _ n2), oI_mn (w _ n3) (w _ he), oI_mx (w _ ha) (w _ hb), oI_mx (w _ hc) (w _ hd), oI_mx (w _ x1) (w _ x2), oI_mx (w _ x3) (w _ he)]
  rw [oI_a, oI_a, oI_a, oI_a, oI_s, oI_s]
theorem t3_k {a b c d e z : Int} {r : Nat → Int32} {q : Nat} (ha : 0 ≤ a ∧ a ≤ 100) (hb : 0 ≤ b ∧ b ≤ 100) (hc : 0 ≤ c ∧ c ≤ 100) (hd : 0 ≤ d ∧ d ≤ 100) (he : 0 ≤ e ∧ e ≤ 100) (hz : 0 ≤ z ∧ z ≤ 100)
    (h0 : r q = oI (e - z)) (h1 : r (q + 1) = oI (d - z)) (h2 : r (q + 2) = oI (c - z)) (h3 : r (q + 3) = oI (b - z)) (h4 : r (q + 4) = oI (a - z)) : mo_ke r q = oI (t3 a b c d e - 3 * z) := by
  have hmx : ∀ x y : Int, -1000 ≤ x ∧ x ≤ 1000 → -1000 ≤ y ∧ y ≤ 1000 → (if oI x < oI y then oI y else oI x) = oI (max x y) := fun x y hx hy => oI_mx hx hy
  have hmn : ∀ x y : Int, -1000 ≤ x ∧ x ≤ 1000 → -1000 ≤ y ∧ y ≤ 1000 → (if oI y < oI x then oI y else oI x) = oI (min x y) := fun x y hx hy => oI_mn hx hy
  obtain ⟨A, hA⟩ : ∃ A, A = a - z := ⟨_, rfl⟩
  obtain ⟨B, hB⟩ : ∃ B, B = b - z := ⟨_, rfl⟩
  obtain ⟨C, hC⟩ : ∃ C, C = c - z := ⟨_, rfl⟩
  obtain ⟨D, hD⟩ : ∃ D, D = d - z := ⟨_, rfl⟩
  obtain ⟨E, hE⟩ : ∃ E, E = e - z := ⟨_, rfl⟩
  have wA : -1000 ≤ A ∧ A ≤ 1000 := by omega
  have wB : -1000 ≤ B ∧ B ≤ 1000 := by omega
  have wC : -1000 ≤ C ∧ C ≤ 1000 := by omega
  have wD : -1000 ≤ D ∧ D ≤ 1000 := by omega
  have wE : -1000 ≤ E ∧ E ≤ 1000 := by omega
  have x1 := mx_r wE wD
  have x2 := mx_r x1 wC
  have x3 := mx_r x2 wB
  have n1 := mn_r wE wD
  have n2 := mn_r n1 wC
  have n3 := mn_r n2 wB
  rw [← hA] at h4; rw [← hB] at h3; rw [← hC] at h2; rw [← hD] at h1; rw [← hE] at h0
  have k1 : mo_k5 r q 1 = (oI E, oI E, oI E) := by
    show ((0 : Int32) + r (q + 0), (if r q < r (q + 0) then r (q + 0) else r q), (if r (q + 0) < r q then r (q + 0) else r q)) = _
    rw [Nat.add_zero, h0, Int32.zero_add, if_neg Int32.lt_irrefl]
  have k2 : mo_k5 r q 2 = (oI (E + D), oI (max E D), oI (min E D)) := by
    show ((mo_k5 r q 1).1 + r (q + 1), (if (mo_k5 r q 1).2.1 < r (q + 1) then r (q + 1) else (mo_k5 r q 1).2.1), (if r (q + 1) < (mo_k5 r q 1).2.2 then r (q + 1) else (mo_k5 r q 1).2.2)) = _
    rw [k1, h1]
    show (oI E + oI D, (if oI E < oI D then oI D else oI E), (if oI D < oI E then oI D else oI E)) = _
    rw [oI_a, hmx E D wE wD, hmn E D wE wD]
  have k3 : mo_k5 r q 3 = (oI (E + D + C), oI (max (max E D) C), oI (min (min E D) C)) := by
    show ((mo_k5 r q 2).1 + r (q + 2), (if (mo_k5 r q 2).2.1 < r (q + 2) then r (q + 2) else (mo_k5 r q 2).2.1), (if r (q + 2) < (mo_k5 r q 2).2.2 then r (q + 2) else (mo_k5 r q 2).2.2)) = _
    rw [k2, h2]
    show (oI (E + D) + oI C, (if oI (max E D) < oI C then oI C else oI (max E D)), (if oI C < oI (min E D) then oI C else oI (min E D))) = _
    rw [oI_a, hmx (max E D) C x1 wC, hmn (min E D) C n1 wC]
  have k4 : mo_k5 r q 4 = (oI (E + D + C + B), oI (max (max (max E D) C) B), oI (min (min (min E D) C) B)) := by
    show ((mo_k5 r q 3).1 + r (q + 3), (if (mo_k5 r q 3).2.1 < r (q + 3) then r (q + 3) else (mo_k5 r q 3).2.1), (if r (q + 3) < (mo_k5 r q 3).2.2 then r (q + 3) else (mo_k5 r q 3).2.2)) = _
    rw [k3, h3]
    show (oI (E + D + C) + oI B, (if oI (max (max E D) C) < oI B then oI B else oI (max (max E D) C)), (if oI B < oI (min (min E D) C) then oI B else oI (min (min E D) C))) = _
    rw [oI_a, hmx (max (max E D) C) B x2 wB, hmn (min (min E D) C) B n2 wB]
  have k5 : mo_k5 r q 5 = (oI (E + D + C + B + A), oI (max (max (max (max E D) C) B) A), oI (min (min (min (min E D) C) B) A)) := by
    show ((mo_k5 r q 4).1 + r (q + 4), (if (mo_k5 r q 4).2.1 < r (q + 4) then r (q + 4) else (mo_k5 r q 4).2.1), (if r (q + 4) < (mo_k5 r q 4).2.2 then r (q + 4) else (mo_k5 r q 4).2.2)) = _
    rw [k4, h4]
    show (oI (E + D + C + B) + oI A, (if oI (max (max (max E D) C) B) < oI A then oI A else oI (max (max (max E D) C) B)), (if oI A < oI (min (min (min E D) C) B) then oI A else oI (min (min (min E D) C) B))) = _
    rw [oI_a, hmx (max (max (max E D) C) B) A x3 wA, hmn (min (min (min E D) C) B) A n3 wA]
  unfold mo_ke
  rw [k5]
  show oI (E + D + C + B + A) - oI (max (max (max (max E D) C) B) A) - oI (min (min (min (min E D) C) B) A) = _
  rw [oI_s, oI_s]
  congr 1
  obtain ⟨X, hX, f1, f1'⟩ := mx_4 E D C B A
  obtain ⟨N, hN, f2, f2'⟩ := mn_4 E D C B A
  obtain ⟨X2, hX2, f3, f3'⟩ := mx_5 a b c d e
  obtain ⟨N2, hN2, f4, f4'⟩ := mn_5 a b c d e
  unfold t3
  rw [hX, hN, hX2, hN2]
  clear hX hN hX2 hN2 x1 x2 x3 n1 n2 n3 k1 k2 k3 k4 k5 hmx hmn
  have g1 : X = X2 - z := by clear f2 f2' f4 f4'; omega
  have g2 : N = N2 - z := by clear f1 f1' f3 f3'; omega
  clear f1 f1' f2 f2' f3 f3' f4 f4'
  omega
theorem t3_r {a b c d e t : Int} (ha : 0 ≤ a ∧ a ≤ t) (hb : 0 ≤ b ∧ b ≤ t) (hc : 0 ≤ c ∧ c ≤ t) (hd : 0 ≤ d ∧ d ≤ t) (he : 0 ≤ e ∧ e ≤ t) : 0 ≤ t3 a b c d e ∧ t3 a b c d e ≤ 3 * t := by
  unfold t3
  obtain ⟨X, hX, f3, f3'⟩ := mx_5 a b c d e
  obtain ⟨N, hN, f4, f4'⟩ := mn_5 a b c d e
  rw [hX, hN]
  clear hX hN
  have h1 : N ≤ a ∧ a ≤ X := ⟨f4.1, f3.1⟩
  rcases f3' with h | h | h | h | h <;> rcases f4' with g | g | g | g | g <;> omega
/-- five digits in a row -/
theorem my_5 {r : Nat → Int32} {q n b : Nat} {z : Nat} (hn : n < 2 ^ 31) (hb : 0 < b ∧ b < 2 ^ 31) :
    my_w r q (nI n) (nI b) (nI z) 5 q = oI ((n / b / b / b / b % b : Nat) - (z : Int)) ∧ my_w r q (nI n) (nI b) (nI z) 5 (q + 1) = oI ((n / b / b / b % b : Nat) - (z : Int)) ∧ my_w r q (nI n) (nI b) (nI z) 5 (q + 2) = oI ((n / b / b % b : Nat) - (z : Int)) ∧ my_w r q (nI n) (nI b) (nI z) 5 (q + 3) = oI ((n / b % b : Nat) - (z : Int)) ∧ my_w r q (nI n) (nI b) (nI z) 5 (q + 4) = oI ((n % b : Nat) - (z : Int)) := by
  have dv : ∀ x : Nat, x < 2 ^ 31 → x / b < 2 ^ 31 := fun x hx => Nat.lt_of_le_of_lt (Nat.div_le_self _ _) hx
  have v1 : my_v (nI n) (nI b) 1 = nI (n / b) := sk_ndiv rfl rfl hn hb
  have v2 : my_v (nI n) (nI b) 2 = nI (n / b / b) := sk_ndiv v1 rfl (dv _ hn) hb
  have v3 : my_v (nI n) (nI b) 3 = nI (n / b / b / b) := sk_ndiv v2 rfl (dv _ (dv _ hn)) hb
  have v4 : my_v (nI n) (nI b) 4 = nI (n / b / b / b / b) := sk_ndiv v3 rfl (dv _ (dv _ (dv _ hn))) hb
  have cell : ∀ x : Nat, x < 2 ^ 31 → sk_rm (nI x) (nI b) - nI z = oI ((x % b : Nat) - (z : Int)) := fun x hx => by
    rw [show sk_rm (nI x) (nI b) = nI (x % b) from sk_nrem rfl rfl hx hb, oI_n, oI_n, oI_s]
  have w : ∀ i, i < 5 → ∀ y, y = q + (4 - i) → my_w r q (nI n) (nI b) (nI z) 5 y = sk_rm (my_v (nI n) (nI b) i) (nI b) - nI z := by
    intro i hi y hy
    have s4 : my_w r q (nI n) (nI b) (nI z) 5 = mu_u (my_w r q (nI n) (nI b) (nI z) 4) (q + 0) (sk_rm (my_v (nI n) (nI b) 4) (nI b) - nI z) := rfl
    have s3 : my_w r q (nI n) (nI b) (nI z) 4 = mu_u (my_w r q (nI n) (nI b) (nI z) 3) (q + 1) (sk_rm (my_v (nI n) (nI b) 3) (nI b) - nI z) := rfl
    have s2 : my_w r q (nI n) (nI b) (nI z) 3 = mu_u (my_w r q (nI n) (nI b) (nI z) 2) (q + 2) (sk_rm (my_v (nI n) (nI b) 2) (nI b) - nI z) := rfl
    have s1 : my_w r q (nI n) (nI b) (nI z) 2 = mu_u (my_w r q (nI n) (nI b) (nI z) 1) (q + 3) (sk_rm (my_v (nI n) (nI b) 1) (nI b) - nI z) := rfl
    have s0 : my_w r q (nI n) (nI b) (nI z) 1 = mu_u (my_w r q (nI n) (nI b) (nI z) 0) (q + 4) (sk_rm (my_v (nI n) (nI b) 0) (nI b) - nI z) := rfl
    subst hy
    rcases (show i = 0 ∨ i = 1 ∨ i = 2 ∨ i = 3 ∨ i = 4 by omega) with rfl | rfl | rfl | rfl | rfl
    · rw [s4, mu_n (by omega), s3, mu_n (by omega), s2, mu_n (by omega), s1, mu_n (by omega), s0]; exact mu_y
    · rw [s4, mu_n (by omega), s3, mu_n (by omega), s2, mu_n (by omega), s1]; exact mu_y
    · rw [s4, mu_n (by omega), s3, mu_n (by omega), s2]; exact mu_y
    · rw [s4, mu_n (by omega), s3]; exact mu_y
    · rw [s4]; exact mu_y
  refine ⟨?_, ?_, ?_, ?_, ?_⟩
  · rw [w 4 (by omega) q (by omega), v4]; exact cell _ (dv _ (dv _ (dv _ (dv _ hn))))
  · rw [w 3 (by omega) _ (by omega), v3]; exact cell _ (dv _ (dv _ (dv _ hn)))
  · rw [w 2 (by omega) _ (by omega), v2]; exact cell _ (dv _ (dv _ hn))
  · rw [w 1 (by omega) _ (by omega), v1]; exact cell _ (dv _ hn)
  · rw [w 0 (by omega) _ (by omega)]; exact cell _ hn
theorem kn_e {r : Nat → Int32} {q : Nat} {m : Int32} (h : ¬ m < 0 ∧ ¬ 161050 < m) : x_kn m = mo_ke (my_w r q m 11 5 5) q ∧ ∃ j : Nat, j ≤ 30 ∧ x_kn m = nI j - 15 := by
  obtain ⟨hm, hn⟩ := mo_ix (m := 161050) h rfl (by omega)
  obtain ⟨n, en⟩ : ∃ n, n = m.toNatClampNeg := ⟨_, rfl⟩
  rw [← en] at hm hn
  clear en
  subst hm
  obtain ⟨c0, c1, c2, c3, c4⟩ := my_5 (r := r) (q := q) (n := n) (b := 11) (z := 5) (by omega) (by omega)
  have e1 : sk_rm (nI n) 11 = oI ((n % 11 : Nat) : Int) := by rw [← oI_n]; exact sk_nrem (b := 11) rfl rfl (by omega) (by omega)
  have e2 : sk_rm (nI n / 11) 11 = oI ((n / 11 % 11 : Nat) : Int) := by rw [← oI_n]; exact sk_nrem (b := 11) (sk_ndiv (b := 11) rfl rfl (by omega) (by omega)) rfl (by omega) (by omega)
  have e3 : sk_rm (nI n / 121) 11 = oI ((n / 121 % 11 : Nat) : Int) := by rw [← oI_n]; exact sk_nrem (b := 11) (sk_ndiv (b := 121) rfl rfl (by omega) (by omega)) rfl (by omega) (by omega)
  have e4 : sk_rm (nI n / 1331) 11 = oI ((n / 1331 % 11 : Nat) : Int) := by rw [← oI_n]; exact sk_nrem (b := 11) (sk_ndiv (b := 1331) rfl rfl (by omega) (by omega)) rfl (by omega) (by omega)
  have e5 : nI n / 14641 = oI ((n / 14641 : Nat) : Int) := by rw [← oI_n]; exact sk_ndiv (b := 14641) rfl rfl (by omega) (by omega)
  have key : x_kn (nI n) = oI (t3 (n % 11 : Nat) (n / 11 % 11 : Nat) (n / 121 % 11 : Nat) (n / 1331 % 11 : Nat) (n / 14641 : Nat) - 15) := by
    unfold x_kn
    rw [e1, e2, e3, e4, e5, t3_x (by omega) (by omega) (by omega) (by omega) (by omega), show (15 : Int32) = oI 15 from rfl, oI_s]
  refine ⟨?_, ?_⟩
  · rw [key]
    refine (t3_k (z := 5) (by omega) (by omega) (by omega) (by omega) (by omega) (by omega) ?_ ?_ ?_ c3 c4).symm
    · refine c0.trans (congrArg oI ?_)
      rw [show n / 11 / 11 / 11 / 11 % 11 = n / 14641 from by omega]
      rfl
    · refine c1.trans (congrArg oI ?_)
      rw [show n / 11 / 11 / 11 % 11 = n / 1331 % 11 from by omega]
      rfl
    · refine c2.trans (congrArg oI ?_)
      rw [show n / 11 / 11 % 11 = n / 121 % 11 from by omega]
      rfl
  · have hr := t3_r (a := (n % 11 : Nat)) (b := (n / 11 % 11 : Nat)) (c := (n / 121 % 11 : Nat)) (d := (n / 1331 % 11 : Nat)) (e := (n / 14641 : Nat)) (t := 10) (by omega) (by omega) (by omega) (by omega) (by omega)
    obtain ⟨j, hj⟩ := Int.eq_ofNat_of_zero_le hr.1
    rw [hj] at hr key
    exact ⟨j, by omega, by rw [key, oI_n, show (15 : Int32) = oI 15 from rfl, oI_s]⟩
theorem cn_e {r : Nat → Int32} {s j : Nat} {m : Int32} (h : ¬ m < 0 ∧ ¬ 115856200 < m) : x_cn m = mo_oc (my_w r (6 + 233 * s + 2 + 5 * j) m 41 0 5) s j := by
  obtain ⟨hm, hn⟩ := mo_ix (m := 115856200) h rfl (by omega)
  obtain ⟨n, en⟩ : ∃ n, n = m.toNatClampNeg := ⟨_, rfl⟩
  rw [← en] at hm hn
  clear en
  subst hm
  obtain ⟨c0, c1, c2, c3, c4⟩ := my_5 (r := r) (q := 6 + 233 * s + 2 + 5 * j) (n := n) (b := 41) (z := 0) (by omega) (by omega)
  have e1 : sk_rm (nI n) 41 = oI ((n % 41 : Nat) : Int) := by rw [← oI_n]; exact sk_nrem (b := 41) rfl rfl (by omega) (by omega)
  have e2 : sk_rm (nI n / 41) 41 = oI ((n / 41 % 41 : Nat) : Int) := by rw [← oI_n]; exact sk_nrem (b := 41) (sk_ndiv (b := 41) rfl rfl (by omega) (by omega)) rfl (by omega) (by omega)
  have e3 : sk_rm (nI n / 1681) 41 = oI ((n / 1681 % 41 : Nat) : Int) := by rw [← oI_n]; exact sk_nrem (b := 41) (sk_ndiv (b := 1681) rfl rfl (by omega) (by omega)) rfl (by omega) (by omega)
  have e4 : sk_rm (nI n / 68921) 41 = oI ((n / 68921 % 41 : Nat) : Int) := by rw [← oI_n]; exact sk_nrem (b := 41) (sk_ndiv (b := 68921) rfl rfl (by omega) (by omega)) rfl (by omega) (by omega)
  have e5 : nI n / 2825761 = oI ((n / 2825761 : Nat) : Int) := by rw [← oI_n]; exact sk_ndiv (b := 2825761) rfl rfl (by omega) (by omega)
  have hr := t3_r (a := (n % 41 : Nat)) (b := (n / 41 % 41 : Nat)) (c := (n / 1681 % 41 : Nat)) (d := (n / 68921 % 41 : Nat)) (e := (n / 2825761 : Nat)) (t := 40) (by omega) (by omega) (by omega) (by omega) (by omega)
  have hk : mo_ke (my_w r (6 + 233 * s + 2 + 5 * j) (nI n) 41 0 5) (6 + 233 * s + 2 + 5 * j) = oI (t3 (n % 41 : Nat) (n / 41 % 41 : Nat) (n / 1681 % 41 : Nat) (n / 68921 % 41 : Nat) (n / 2825761 : Nat) - 3 * 0) := by
    refine t3_k (z := 0) (by omega) (by omega) (by omega) (by omega) (by omega) (by omega) ?_ ?_ ?_ c3 c4
    · refine c0.trans (congrArg oI ?_)
      rw [show n / 41 / 41 / 41 / 41 % 41 = n / 2825761 from by omega]
      rfl
    · refine c1.trans (congrArg oI ?_)
      rw [show n / 41 / 41 / 41 % 41 = n / 68921 % 41 from by omega]
      rfl
    · refine c2.trans (congrArg oI ?_)
      rw [show n / 41 / 41 % 41 = n / 1681 % 41 from by omega]
      rfl
  obtain ⟨t, ht⟩ := Int.eq_ofNat_of_zero_le hr.1
  unfold x_cn mo_oc
  rw [hk, e1, e2, e3, e4, e5, t3_x (by omega) (by omega) (by omega) (by omega) (by omega), ht, show ((t : Int) - 3 * 0) = (t : Int) from by omega, ← oI_n]
  have ht2 : t ≤ 120 := by omega
  have l1 : (nI t * 25 + 1) / 3 = nI ((t * 25 + 1) / 3) := sk_ndiv (sk_nadd (sk_nmul rfl rfl) rfl) rfl (by omega) (by decide)
  have l2 : (50 * nI t + 3) / 6 = nI ((50 * t + 3) / 6) := sk_ndiv (sk_nadd (sk_nmul rfl rfl) rfl) rfl (by omega) (by decide)
  rw [l1, l2]
  congr 1
  omega
