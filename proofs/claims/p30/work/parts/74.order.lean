/-! What holds of a row: places, who is first, exchanges, what is needed -/
/-- the places told in bits -/
def pls (T S : Nat → Int32) (m : Nat) : Nat → Nat
  | 0 => 0
  | s + 1 => pls T S m s + 2 ^ mp_c T S s m
theorem mp_a_n {T S : Nat → Int32} {a b : Nat} (h : mp_a T S a b) : ¬ mp_a T S b a := fun g => mp_a_i (mp_a_t h g)
/-- one more skater: those ahead of whom he is go one back -/
theorem mp_c_s {T S : Nat → Int32} {s m : Nat} : mp_c T S s (m + 1) = mp_c T S s m + if mp_a T S m s then 1 else 0 := rfl
theorem mp_c_lt {T S : Nat → Int32} {s m : Nat} (hs : s < m) : mp_c T S s m < m := by
  have key : ∀ n, (s < n → mp_c T S s n < n) ∧ mp_c T S s n ≤ n := by
    intro n
    induction n with
    | zero => exact ⟨fun z => absurd z (Nat.not_lt_zero _), Nat.le_refl _⟩
    | succ n ih =>
      rw [mp_c_s]
      by_cases q : n = s
      · subst q
        rw [if_neg mp_a_i]
        omega
      · refine ⟨fun z => ?_, ?_⟩
        · have := ih.1 (by omega)
          split <;> omega
        · split <;> omega
  exact (key m).1 hs
theorem mp_c_m {T S : Nat → Int32} {a b : Nat} (h : mp_a T S a b) : ∀ m, mp_c T S a m ≤ mp_c T S b m ∧ (a < m → mp_c T S a m < mp_c T S b m)
  | 0 => ⟨Nat.le_refl _, fun z => absurd z (Nat.not_lt_zero _)⟩
  | m + 1 => by
    obtain ⟨i1, i2⟩ := mp_c_m h m
    rw [mp_c_s, mp_c_s]
    by_cases q : mp_a T S m a
    · rw [if_pos q, if_pos (mp_a_t q h)]
      exact ⟨by omega, fun z => by
        by_cases e : a = m
        · subst e; exact absurd q mp_a_i
        · have := i2 (by omega); omega⟩
    · rw [if_neg q]
      by_cases e : a = m
      · subst e
        rw [if_pos h]
        exact ⟨by omega, fun _ => by omega⟩
      · refine ⟨by omega, fun z => ?_⟩
        have := i2 (by omega)
        omega
theorem mp_c_i {T S : Nat → Int32} {a b m : Nat} (ha : a < m) (hb : b < m) (h : a ≠ b) : mp_c T S a m ≠ mp_c T S b m := by
  by_cases q : mp_a T S a b
  · have := (mp_c_m q m).2 ha; omega
  · have := (mp_c_m (mp_a_o h q) m).2 hb; omega
theorem pls_4 {T S : Nat → Int32} {m : Nat} (hm : m ≤ 4) : pls T S m m = 2 ^ m - 1 := by
  have hl : ∀ s, s < m → mp_c T S s m < m := fun s hs => mp_c_lt hs
  have hi : ∀ a b, a < m → b < m → a ≠ b → mp_c T S a m ≠ mp_c T S b m := fun a b ha hb => mp_c_i ha hb
  rcases (show m = 0 ∨ m = 1 ∨ m = 2 ∨ m = 3 ∨ m = 4 by omega) with rfl | rfl | rfl | rfl | rfl
  · rfl
  · have h0 := hl 0 (by omega)
    unfold pls pls
    rw [show mp_c T S 0 1 = 0 by omega]
  · have h0 := hl 0 (by omega)
    have h1 := hl 1 (by omega)
    have h01 := hi 0 1 (by omega) (by omega) (by omega)
    unfold pls pls pls
    rcases (show (mp_c T S 0 2 = 0 ∧ mp_c T S 1 2 = 1) ∨ (mp_c T S 0 2 = 1 ∧ mp_c T S 1 2 = 0) by omega) with ⟨a, b⟩ | ⟨a, b⟩ <;> rw [a, b]
  · have h0 := hl 0 (by omega)
    have h1 := hl 1 (by omega)
    have h2 := hl 2 (by omega)
    have h01 := hi 0 1 (by omega) (by omega) (by omega)
    have h02 := hi 0 2 (by omega) (by omega) (by omega)
    have h12 := hi 1 2 (by omega) (by omega) (by omega)
    unfold pls pls pls pls
    generalize mp_c T S 0 3 = x at *
    generalize mp_c T S 1 3 = y at *
    generalize mp_c T S 2 3 = z at *
    have key : ∀ x, x < 3 → ∀ y, y < 3 → ∀ z, z < 3 → (x = y ∨ x = z ∨ y = z ∨ 0 + 2 ^ x + 2 ^ y + 2 ^ z = 2 ^ 3 - 1) := by decide
    rcases key x h0 y h1 z h2 with w | w | w | w
    · exact absurd w h01
    · exact absurd w h02
    · exact absurd w h12
    · exact w
  · have h0 := hl 0 (by omega)
    have h1 := hl 1 (by omega)
    have h2 := hl 2 (by omega)
    have h3 := hl 3 (by omega)
    have h01 := hi 0 1 (by omega) (by omega) (by omega)
    have h02 := hi 0 2 (by omega) (by omega) (by omega)
    have h03 := hi 0 3 (by omega) (by omega) (by omega)
    have h12 := hi 1 2 (by omega) (by omega) (by omega)
    have h13 := hi 1 3 (by omega) (by omega) (by omega)
    have h23 := hi 2 3 (by omega) (by omega) (by omega)
    unfold pls pls pls pls pls
    generalize mp_c T S 0 4 = x at *
    generalize mp_c T S 1 4 = y at *
    generalize mp_c T S 2 4 = z at *
    generalize mp_c T S 3 4 = u at *
    rcases (show x = 0 ∨ x = 1 ∨ x = 2 ∨ x = 3 by omega) with e | e | e | e
    · have key : ∀ y, y < 4 → ∀ z, z < 4 → ∀ u, u < 4 → (0 = y ∨ 0 = z ∨ 0 = u ∨ y = z ∨ y = u ∨ z = u ∨ 0 + 2 ^ 0 + 2 ^ y + 2 ^ z + 2 ^ u = 2 ^ 4 - 1) := by decide
      subst e
      rcases key y h1 z h2 u h3 with w | w | w | w | w | w | w
      · exact absurd w h01
      · exact absurd w h02
      · exact absurd w h03
      · exact absurd w h12
      · exact absurd w h13
      · exact absurd w h23
      · exact w
    · have key : ∀ y, y < 4 → ∀ z, z < 4 → ∀ u, u < 4 → (1 = y ∨ 1 = z ∨ 1 = u ∨ y = z ∨ y = u ∨ z = u ∨ 0 + 2 ^ 1 + 2 ^ y + 2 ^ z + 2 ^ u = 2 ^ 4 - 1) := by decide
      subst e
      rcases key y h1 z h2 u h3 with w | w | w | w | w | w | w
      · exact absurd w h01
      · exact absurd w h02
      · exact absurd w h03
      · exact absurd w h12
      · exact absurd w h13
      · exact absurd w h23
      · exact w
    · have key : ∀ y, y < 4 → ∀ z, z < 4 → ∀ u, u < 4 → (2 = y ∨ 2 = z ∨ 2 = u ∨ y = z ∨ y = u ∨ z = u ∨ 0 + 2 ^ 2 + 2 ^ y + 2 ^ z + 2 ^ u = 2 ^ 4 - 1) := by decide
      subst e
      rcases key y h1 z h2 u h3 with w | w | w | w | w | w | w
      · exact absurd w h01
      · exact absurd w h02
      · exact absurd w h03
      · exact absurd w h12
      · exact absurd w h13
      · exact absurd w h23
      · exact w
    · have key : ∀ y, y < 4 → ∀ z, z < 4 → ∀ u, u < 4 → (3 = y ∨ 3 = z ∨ 3 = u ∨ y = z ∨ y = u ∨ z = u ∨ 0 + 2 ^ 3 + 2 ^ y + 2 ^ z + 2 ^ u = 2 ^ 4 - 1) := by decide
      subst e
      rcases key y h1 z h2 u h3 with w | w | w | w | w | w | w
      · exact absurd w h01
      · exact absurd w h02
      · exact absurd w h03
      · exact absurd w h12
      · exact absurd w h13
      · exact absurd w h23
      · exact w
theorem pls_b {T S : Nat → Int32} {m : Nat} (hm : m ≤ 4) : ∀ s, s ≤ m → pls T S m s ≤ 8 * s
  | 0, _ => Nat.le_refl _
  | s + 1, hs => by
    have ih := pls_b (T := T) (S := S) hm s (by omega)
    have h1 := mp_c_lt (T := T) (S := S) (s := s) (m := m) (by omega)
    have h2 : 2 ^ mp_c T S s m ≤ 2 ^ 3 := Nat.pow_le_pow_right (by omega) (by omega)
    show pls T S m s + 2 ^ mp_c T S s m ≤ _
    omega
/-- who is first among those looked at -/
def bst (T S : Nat → Int32) (m s : Nat) : Int32 := if mo_w T S m < s then nI (mo_w T S m) else -1
theorem pl_0 {T S : Nat → Int32} {m s : Nat} (hs : s < m) : mp_c T S s m = 0 ↔ s = mo_w T S m :=
  ⟨fun h => mo_w_u hs h, fun h => by rw [h]; exact mp_c_0.mpr (mo_w_0 m)⟩
theorem bst_s {T S : Nat → Int32} {m s : Nat} (hs : s < m) : bst T S m (s + 1) = if mp_c T S s m = 0 then nI s else bst T S m s := by
  have hp := pl_0 (T := T) (S := S) hs
  unfold bst
  by_cases q : s = mo_w T S m
  · rw [if_pos (hp.mpr q), if_pos (by omega), ← q]
  · rw [if_neg (fun z => q (hp.mp z))]
    by_cases w : mo_w T S m < s
    · rw [if_pos w, if_pos (by omega)]
    · rw [if_neg w, if_neg (by omega)]
theorem bst_m {r : Nat → Int32} {m : Nat} : bst (mo_T r) (mo_S r) m m = mo_fv r m := by
  unfold bst mo_fv
  by_cases q : m = 0
  · subst q; rfl
  · rw [if_pos (mo_w_lt m (by omega)), if_neg q]
theorem bh_0 {r : Nat → Int32} {m s : Nat} (h : gd r m) (hs : s < m) : ¬ mo_T r (mo_w (mo_T r) (mo_S r) m) - mo_T r s < 0 := by
  have hw := mo_w_lt (T := mo_T r) (S := mo_S r) m (by omega)
  have h0 := mo_w_0 (T := mo_T r) (S := mo_S r) m s hs
  have b1 := (T_b h hw).1
  have b2 := (T_b h hs).1
  have h1 : ¬ mo_T r (mo_w (mo_T r) (mo_S r) m) < mo_T r s := fun z => h0 (Or.inl z)
  rw [Int32.lt_iff_toInt_lt] at h1
  have e0 : (0 : Int32).toInt = 0 := rfl
  rw [Int32.lt_iff_toInt_lt, tS (by omega), e0]
  omega
/-- bestSwap -/
def zbs_k (c : Nat) (z : mb_S) : Prop := z.2.2.1 = -1 ∧ z.2.2.2 = -1 ∨ ∃ i j : Nat, i < j ∧ j < c ∧ z.2.2.1 = nI i ∧ z.2.2.2 = nI j
theorem nI_m1 {n : Nat} (h : n < 1000) : ¬ nI n = -1 := fun z => by
  have h1 := congrArg Int32.toInt z
  rw [nT (by omega)] at h1
  have e : (-1 : Int32).toInt = -1 := rfl
  omega
theorem zbs_ks {s c i j : Nat} {z : mb_S} (hij : i < j) (hj : j < c) (h : zbs_k c z) : zbs_k c (mb_s 0 s c i j z) ∧ (z.2.2.1 = -1 → mb_s 0 s c i j z = (mb_m z.1 0 s c i j, mb_v z.1 0 s c i j, nI i, nI j)) := by
  refine ⟨?_, fun q => mb_y (Or.inl q)⟩
  unfold mb_s
  split
  · exact Or.inr ⟨i, j, hij, hj, rfl, rfl⟩
  · exact h
theorem zbs_kj {s c i : Nat} {z : mb_S} (h : zbs_k c z) : ∀ d, d ≤ c - (i + 1) → zbs_k c (mb_j 0 s c i z d)
  | 0, _ => h
  | d + 1, hd => (zbs_ks (by omega) (by omega) (zbs_kj h d (by omega))).1
theorem zbs_ko {s c : Nat} {z : mb_S} (h : zbs_k c z) : ∀ i, i ≤ c → zbs_k c (mb_o 0 s c z i)
  | 0, _ => h
  | i + 1, hi => zbs_kj (zbs_ko h i (by omega)) _ (Nat.le_refl _)
/-- once there is a pair there stays one -/
theorem zbs_n {s c i j : Nat} {z : mb_S} (hi : i < 1000) (h : ¬ z.2.2.1 = -1) : ¬ (mb_s 0 s c i j z).2.2.1 = -1 := by
  unfold mb_s
  split
  · exact nI_m1 hi
  · exact h
theorem zbs_nj {s c i : Nat} {z : mb_S} (hi : i < 1000) (h : ¬ z.2.2.1 = -1) : ∀ d, ¬ (mb_j 0 s c i z d).2.2.1 = -1
  | 0 => h
  | d + 1 => zbs_n hi (zbs_nj hi h d)
theorem zbs_nj1 {s c i : Nat} {z : mb_S} (hi : i < 1000) : ∀ d, ¬ (mb_j 0 s c i z (d + 1)).2.2.1 = -1
  | 0 => by
    show ¬ (mb_s 0 s c i (i + 1 + 0) z).2.2.1 = -1
    by_cases q : z.2.2.1 = -1
    · rw [mb_y (Or.inl q)]; exact nI_m1 hi
    · exact zbs_n hi q
  | d + 1 => zbs_n hi (zbs_nj1 hi d)
theorem zbs_no {s c : Nat} {z : mb_S} (h2 : 2 ≤ c) (hc : c < 1000) : ∀ i, i < c → ¬ (mb_o 0 s c z (i + 1)).2.2.1 = -1
  | 0, _ => by
    obtain ⟨d, hd⟩ : ∃ d, c - (0 + 1) = d + 1 := ⟨c - 2, by omega⟩
    show ¬ (mb_j 0 s c 0 (mb_o 0 s c z 0) (c - (0 + 1))).2.2.1 = -1
    rw [hd]
    exact zbs_nj1 (by omega) d
  | i + 1, hi => zbs_nj (by omega) (zbs_no h2 hc i (by omega)) _
theorem zbs_0 {s c : Nat} {z : mb_S} (h : c < 2) : mb_o 0 s c z c = z := by
  rcases (show c = 0 ∨ c = 1 by omega) with rfl | rfl <;> rfl
theorem a_bs_n {r : Nat → Int32} {s : Nat} (w : Int32) (h : mo_c r s < 2) : a_bs r s w = -1 := by
  unfold a_bs
  rw [zbs_0 h]
  exact if_pos rfl
theorem a_bs_y {r : Nat → Int32} {s : Nat} (h : 2 ≤ mo_c r s) (h12 : mo_c r s ≤ 12) : ∃ i j : Nat, i < j ∧ j < mo_c r s ∧ a_bs r s 1 = nI i ∧ a_bs r s 2 = nI j := by
  have hk : zbs_k (mo_c r s) (mb_z (fun _ => r) 0) := Or.inl ⟨rfl, rfl⟩
  have h1 := zbs_ko (s := s) hk (mo_c r s) (Nat.le_refl _)
  have h2 : ¬ (mb_o 0 s (mo_c r s) (mb_z (fun _ => r) 0) (mo_c r s)).2.2.1 = -1 := by
    have := zbs_no (s := s) (z := mb_z (fun _ => r) 0) h (by omega) (mo_c r s - 1) (by omega)
    rw [show mo_c r s - 1 + 1 = mo_c r s from by omega] at this
    exact this
  rcases h1 with ⟨z, -⟩ | ⟨i, j, hij, hj, e1, e2⟩
  · exact absurd z h2
  · refine ⟨i, j, hij, hj, ?_, ?_⟩
    · unfold a_bs mb_a
      rw [if_neg h2, if_neg (by decide), if_pos rfl, e1]
    · unfold a_bs mb_a
      rw [if_neg h2, if_neg (by decide), if_neg (by decide), e2]
/-- needs: the grades grow with the kernels -/
theorem gd_m {i i' t : Nat} (h : i ≤ i') (hi : i' ≤ 30) (ht : t ≤ 1250) : (mo_gd ((nI i - 15) * nI t)).toInt ≤ (mo_gd ((nI i' - 15) * nI t)).toInt ∧ -626 ≤ (mo_gd ((nI i - 15) * nI t)).toInt ∧ (mo_gd ((nI i - 15) * nI t)).toInt ≤ 626 := by
  obtain ⟨b1, b2, b3⟩ := kt_b (j := i) (t := t) (by omega) ht
  obtain ⟨c1, c2, c3⟩ := kt_b (j := i') (t := t) hi ht
  have hm : ((i : Int) - 15) * (t : Int) ≤ ((i' : Int) - 15) * (t : Int) := Int.mul_le_mul_of_nonneg_right (by omega) (by omega)
  rw [← b1] at b2 b3 hm
  rw [← c1] at c2 c3 hm
  rw [gd_t (by omega), gd_t (by omega)]
  refine ⟨?_, ?_, ?_⟩
  · split <;> split <;> omega
  · split <;> omega
  · split <;> omega
theorem nd_m {r : Nat → Int32} {m s e i i' : Nat} (h : gd r m) (hs : s < m) (he : e < mo_c r s) (hii : i ≤ i') (hi : i' < 31) (h0 : mo_nd r s e m i = 0) : mo_nd r s e m i' = 0 := by
  obtain ⟨hel, h3⟩ := h.2 s hs e he
  obtain ⟨j, t, hj, ht, ej, et⟩ := gr_n hel
  obtain ⟨g1, g2, -, -⟩ := gr_b hel
  obtain ⟨⟨t1, t2⟩, s1, s2⟩ := T_b h hs
  obtain ⟨m1, m2, m3⟩ := gd_m hii (by omega) ht
  obtain ⟨-, n2, n3⟩ := gd_m (Nat.le_refl i') (by omega) ht
  have eT : ∀ x, x < 31 → mn_T r s e x s = mo_T r s - mo_gr r s e + mo_gd ((nI x - 15) * nI t) ∧ mn_S r s e x s = mo_S r s - mo_gr r s e + mo_gd ((nI x - 15) * nI t) := fun x hx => by
    rw [(mn_c s).1, (mn_c s).2, if_pos rfl, if_pos rfl, nd_k_n x hx, et]
    exact ⟨rfl, rfl⟩
  obtain ⟨a1, a2⟩ := eT i (by omega)
  obtain ⟨c1, c2⟩ := eT i' hi
  have k1 : (mo_T r s - mo_gr r s e).toInt = (mo_T r s).toInt - (mo_gr r s e).toInt := tS (by omega)
  have k2 : (mo_S r s - mo_gr r s e).toInt = (mo_S r s).toInt - (mo_gr r s e).toInt := tS (by omega)
  have A : (mn_T r s e i s).toInt = (mo_T r s).toInt - (mo_gr r s e).toInt + (mo_gd ((nI i - 15) * nI t)).toInt := by rw [a1, tA (by rw [k1]; omega), k1]
  have B : (mn_S r s e i s).toInt = (mo_S r s).toInt - (mo_gr r s e).toInt + (mo_gd ((nI i - 15) * nI t)).toInt := by rw [a2, tA (by rw [k2]; omega), k2]
  have A' : (mn_T r s e i' s).toInt = (mo_T r s).toInt - (mo_gr r s e).toInt + (mo_gd ((nI i' - 15) * nI t)).toInt := by rw [c1, tA (by rw [k1]; omega), k1]
  have B' : (mn_S r s e i' s).toInt = (mo_S r s).toInt - (mo_gr r s e).toInt + (mo_gd ((nI i' - 15) * nI t)).toInt := by rw [c2, tA (by rw [k2]; omega), k2]
  unfold mo_nd at h0 ⊢
  rw [mp_c_0] at h0 ⊢
  intro q hq
  have hq0 := h0 q hq
  by_cases w : q = s
  · subst w; exact mp_a_i
  · have e1 : ∀ x, mn_T r s e x q = mo_T r q ∧ mn_S r s e x q = mo_S r q := fun x => by
      rw [(mn_c q).1, (mn_c q).2, if_neg w, if_neg w]
      exact ⟨rfl, rfl⟩
    unfold mp_a at hq0 ⊢
    rw [(e1 i).1, (e1 i).2] at hq0
    rw [(e1 i').1, (e1 i').2]
    simp only [Int32.lt_iff_toInt_lt, ← Int32.toInt_inj] at hq0 ⊢
    rw [A, B] at hq0
    rw [A', B']
    omega
theorem nd_j {r : Nat → Int32} {m s e j : Nat} (hj : j < 31) (ej : mo_ke r (23 + 233 * s + 18 * e + 11) = nI j - 15) : mo_nd r s e m j = mo_pl r s m := by
  have hg : mo_gr r s e = mo_gd (nd_k j * mo_sm r s e (mo_n r s e)) := by
    unfold mo_gr
    rw [ej, nd_k_n j hj]
  have key : ∀ q, mn_T r s e j q = mo_T r q ∧ mn_S r s e j q = mo_S r q := fun q => by
    rw [(mn_c q).1, (mn_c q).2, ← hg]
    by_cases w : q = s
    · subst w
      rw [if_pos rfl, if_pos rfl, Int32.sub_add_cancel, Int32.sub_add_cancel]
      exact ⟨rfl, rfl⟩
    · rw [if_neg w, if_neg w]
      exact ⟨rfl, rfl⟩
  exact mp_c_c (fun q _ => key q) (key s)
/-- needs, told by the kernel that stands: none, or from 85 to 115 and reached just when the place is 0 -/
theorem nq_h {r : Nat → Int32} {m s e : Nat} {x : Int32} (h : gd r m) (hs : s < m) (he : e < mo_c r s) (hx : mo_nq r s e m x) : ∃ j : Nat, j ≤ 30 ∧ mo_ke r (23 + 233 * s + 18 * e + 11) = nI j - 15 ∧ ((x = -1 ∧ ¬ mo_pl r s m = 0) ∨ ∃ i : Nat, i ≤ 30 ∧ x = nI (85 + i) ∧ (mo_pl r s m = 0 ↔ i ≤ j)) := by
  obtain ⟨j, t, hj, ht, ej, et⟩ := gr_n (h.2 s hs e he).1
  have hn := nd_j (m := m) (by omega) ej
  refine ⟨j, hj, ej, ?_⟩
  rcases hx with ⟨i, i1, i2, i3, i4⟩ | ⟨i1, i2⟩
  · refine Or.inr ⟨i, by omega, ?_, ?_⟩
    · rw [i4, nd_k_n i i1]
      exact (by decide : ∀ i, i < 31 → (100 : Int32) + (nI i - 15) = nI (85 + i)) i i1
    · rw [← hn]
      constructor
      · intro z
        exact Classical.byContradiction (fun w => i2 j (by omega) z)
      · intro z
        exact nd_m h hs he z (by omega) i3
  · exact Or.inl ⟨i2, fun z => i1 j (by omega) (hn.trans z)⟩
theorem now_j : ∀ j, j ≤ 30 → (100 : Int32) + (nI j - 15) = nI (85 + j) := fun j hj => (by decide : ∀ j, j < 31 → (100 : Int32) + (nI j - 15) = nI (85 + j)) j (by omega)
