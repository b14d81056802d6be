/-! The two sides: a program of the class at g, the model's row r with the skater s -/
def rl_y (r : Nat → Int32) (s e p : Nat) : Prop := (mo_ty r s e = 0 ∧ ∀ q, q < p → ∃ a t c : Nat, a < 6 ∧ 1 ≤ t ∧ t ≤ 4 ∧ c ≤ 3 ∧ mo_kd r s e q = nI a ∧ mo_tu r s e q = nI t ∧ mo_ca r s e q = nI c) ∨ ((mo_ty r s e = 1 ∨ mo_ty r s e = 2) ∧ p ≤ 1 ∧ ∀ q, q < p → ∃ t : Nat, t ≤ 4 ∧ mo_tu r s e q = nI t)
def rl_e (M : sk_M) (g : Nat) (r : Nat → Int32) (s e : Nat) : Prop :=
  M (g + 1) e = mo_ty r s e ∧ M (g + 3) e = mo_ke r (23 + 233 * s + 18 * e + 11) ∧ (∃ j : Nat, j ≤ 30 ∧ M (g + 3) e = nI j - 15) ∧ M (g + 4) e = r (23 + 233 * s + 18 * e + 16) ∧ M (g + 5) e = r (23 + 233 * s + 18 * e + 17) ∧
  ∃ p : Nat, p ≤ 3 ∧ M (g + 2) e = nI p ∧ mo_np r s e = nI p ∧ rl_y r s e p ∧ ∀ q, q < p → M (g + 6) (3 * e + q) = mo_kd r s e q ∧ M (g + 7) (3 * e + q) = mo_tu r s e q ∧ M (g + 8) (3 * e + q) = mo_ca r s e q
def rl_p (M : sk_M) (g : Nat) (r : Nat → Int32) (s : Nat) : Prop :=
  ∃ n : Nat, n ≤ 12 ∧ M g 9 = nI n ∧ r (6 + 233 * s) = nI n ∧ M g 10 = r (6 + 233 * s + 1) ∧ (∀ j, j < 3 → M (g + 9) j = mo_oc r s j) ∧ ∀ e, e < n → rl_e M g r s e
-- worth of parts
theorem rl_w0 : ∀ a, a < 6 → ∀ t, t < 5 → ∀ c, c < 4 → 1 ≤ t → sc_pw 0 (nI a) (nI t) (nI c) = mo_oj (nI a) (nI t) (nI c) := by decide +kernel
theorem rl_w1 : ∀ t, t < 5 → sc_wr 1 (nI t) = mo_ol 1 (nI t) := by decide +kernel
theorem rl_w2 : ∀ t, t < 5 → sc_wr 2 (nI t) = mo_ol 2 (nI t) := by decide +kernel
theorem rl_b0 : ∀ a, a < 6 → ∀ t, t < 5 → ∀ c, c < 4 → 1 ≤ t → mo_oj (nI a) (nI t) (nI c) = nI (mo_oj (nI a) (nI t) (nI c)).toNatClampNeg ∧ (mo_oj (nI a) (nI t) (nI c)).toNatClampNeg ≤ 1250 := by decide +kernel
theorem rl_b1 : ∀ t, t < 5 → (mo_ol 1 (nI t) = nI (mo_ol 1 (nI t)).toNatClampNeg ∧ (mo_ol 1 (nI t)).toNatClampNeg ≤ 1250) ∧ (mo_ol 2 (nI t) = nI (mo_ol 2 (nI t)).toNatClampNeg ∧ (mo_ol 2 (nI t)).toNatClampNeg ≤ 1250) := by decide +kernel
theorem rl_v0 {r : Nat → Int32} {s e p q : Nat} (h : rl_y r s e p) (hq : q < p) : sc_pw (mo_ty r s e) (mo_kd r s e q) (mo_tu r s e q) (mo_ca r s e q) = mo_v0 r s e q ∧ ∃ x : Nat, x ≤ 1250 ∧ mo_v0 r s e q = nI x := by
  rcases h with ⟨h1, h2⟩ | ⟨h1, -, h2⟩
  · obtain ⟨a, t, c, ha, ht, ht4, hc, e1, e2, e3⟩ := h2 q hq
    have hb := rl_b0 a ha t (by omega) c (by omega) ht
    unfold mo_v0
    rw [if_pos h1, h1, e1, e2, e3]
    exact ⟨rl_w0 a ha t (by omega) c (by omega) ht, _, hb.2, hb.1⟩
  · obtain ⟨t, ht, e2⟩ := h2 q hq
    have hb := rl_b1 t (by omega)
    unfold mo_v0
    rcases h1 with h1 | h1
    · rw [if_neg (by rw [h1]; decide), h1, e2, sc_pw, if_pos rfl]
      exact ⟨rl_w1 t (by omega), _, hb.1.2, hb.1.1⟩
    · rw [if_neg (by rw [h1]; decide), h1, e2, sc_pw, if_neg (by decide), if_pos rfl]
      exact ⟨rl_w2 t (by omega), _, hb.2.2, hb.2.1⟩
theorem rl_pc {x y : Nat} (hx : x ≤ 1250) (hy : y ≤ 100) : sc_pc (nI x) (nI y) = nI ((x * y + 50) / 100) := by
  have h1 : x * y ≤ 1250 * 100 := Nat.mul_le_mul hx hy
  unfold sc_pc
  exact sk_ndiv (sk_nadd (sk_nmul rfl rfl) rfl) rfl (by omega) (by decide)
theorem rl_v {r : Nat → Int32} {s e p q : Nat} (h : rl_y r s e p) (hq : q < p) : ∃ x : Nat, x ≤ 1250 ∧ mo_v r s e q = nI x := by
  obtain ⟨x, hx, ex⟩ := (rl_v0 h hq).2
  unfold mo_v
  split
  · exact ⟨x, hx, ex⟩
  · split
    · rw [ex, show (70 : Int32) = nI 70 from rfl, rl_pc hx (by decide)]
      exact ⟨_, by omega, rfl⟩
    · exact ⟨0, by decide, rfl⟩
theorem rl_sm {r : Nat → Int32} {s e p : Nat} (h : rl_y r s e p) : ∀ q, q ≤ p → ∃ x : Nat, x ≤ 1250 ∧ mo_sm r s e q = nI x
  | 0, _ => ⟨0, by decide, rfl⟩
  | q + 1, hq => by
    unfold mo_sm
    split
    · exact rl_v h hq
    · exact rl_sm h q (by omega)
theorem rl_gr {j t : Nat} (hj : j ≤ 30) (ht : t ≤ 1250) : sc_gr (nI j - 15) (nI t) = mo_gd ((nI j - 15) * nI t) := by
  by_cases h : j < 15
  · have e : nI j - 15 = -nI (15 - j) := by
      have h3 : nI j + nI (15 - j) = 15 := by rw [nI_add, show j + (15 - j) = 15 from by omega]; rfl
      rw [← h3, ← Int32.sub_sub, Int32.sub_self, Int32.zero_sub]
    have hneg : -nI (15 - j) < 0 := by
      obtain ⟨d, hd, rfl⟩ : ∃ d, d < 15 ∧ j = 14 - d := ⟨14 - j, by omega, by omega⟩
      exact (by decide : ∀ d, d < 15 → -nI (15 - (14 - d)) < 0) d hd
    have e2 : -nI (15 - j) * nI t = -nI ((15 - j) * t) := by rw [Int32.neg_mul, pk_mul]
    have hb : (15 - j) * t ≤ 15 * 1250 := Nat.mul_le_mul (by omega) ht
    have e3 : (15 : Int32) - -nI ((15 - j) * t) = nI ((15 - j) * t + 15) := by
      rw [Int32.sub_neg, Int32.add_comm]
      exact nI_add _ 15
    unfold sc_gr mo_gd
    rw [e, if_pos hneg, if_neg (Int32.not_le.mpr hneg), e2, Int32.zero_sub, Int32.neg_neg, pk_mul]
    by_cases h0 : (15 - j) * t = 0
    · rw [h0]; decide
    · have hn2 : -nI ((15 - j) * t) < 0 := by
        rw [Int32.lt_iff_toInt_lt, Int32.toInt_neg]
        have h5 : (nI ((15 - j) * t)).toInt = ((15 - j) * t : Nat) := Int32.toInt_ofNat_of_lt (by omega)
        rw [h5]
        show Int.bmod (-((15 - j) * t : Nat)) _ < 0
        rw [Int.bmod_eq_of_le (by simp; omega) (by simp; omega)]
        omega
      rw [if_pos hn2, e3]
      congr 2
      exact nI_add _ 15
  · have e : nI j - 15 = nI (j - 15) := sk_nsub (b := 15) rfl rfl (by omega)
    have hp : ¬ nI (j - 15) < 0 := nI_pos (by omega)
    have hb : (j - 15) * t ≤ 15 * 1250 := Nat.mul_le_mul (by omega) ht
    unfold sc_gr mo_gd
    rw [e, if_neg hp, if_pos (Int32.not_lt.mp hp), pk_mul, if_neg (nI_pos (by omega))]
-- how often a jump was done
abbrev rc_k (r : Nat → Int32) (s : Nat) (a b : Int32) (i j : Nat) : Prop := mo_ty r s i = 0 ∧ mo_kd r s i j = a ∧ mo_tu r s i j = b ∧ mo_bp r s i j = 0
def rc_p (r : Nat → Int32) (s : Nat) (a b : Int32) (i : Nat) : Nat → Nat
  | 0 => 0
  | j + 1 => rc_p r s a b i j + if rc_k r s a b i j then 1 else 0
def rb_p (r : Nat → Int32) (s : Nat) (a b : Int32) (i : Nat) : Nat → Nat
  | 0 => 0
  | j + 1 => rb_p r s a b i j + if rc_k r s a b i j ∧ ¬ mo_np r s i = 1 then 1 else 0
def rc_e (r : Nat → Int32) (s : Nat) (a b : Int32) : Nat → Nat
  | 0 => 0
  | i + 1 => rc_e r s a b i + rc_p r s a b i (mo_n r s i)
def rb_e (r : Nat → Int32) (s : Nat) (a b : Int32) : Nat → Nat
  | 0 => 0
  | i + 1 => rb_e r s a b i + rb_p r s a b i (mo_n r s i)
theorem rb_p_le (r : Nat → Int32) (s : Nat) (a b : Int32) (i : Nat) : ∀ n, rb_p r s a b i n ≤ rc_p r s a b i n ∧ rc_p r s a b i n ≤ n
  | 0 => ⟨Nat.le_refl _, Nat.le_refl _⟩
  | n + 1 => by
    have h := rb_p_le r s a b i n
    unfold rb_p rc_p
    by_cases q : rc_k r s a b i n
    · rw [if_pos q]
      split <;> omega
    · rw [if_neg q, if_neg (fun z => q z.1)]
      omega
theorem rb_e_le (r : Nat → Int32) (s : Nat) (a b : Int32) : ∀ n, rb_e r s a b n ≤ rc_e r s a b n
  | 0 => Nat.le_refl _
  | n + 1 => by
    have h := rb_e_le r s a b n
    have h2 := (rb_p_le r s a b n (mo_n r s n)).1
    unfold rb_e rc_e
    omega
theorem rc_e_le {r : Nat → Int32} {s : Nat} {a b : Int32} {n : Nat} (hp : mo_pp r s n) : ∀ i, i ≤ n → rc_e r s a b i ≤ 3 * i
  | 0, _ => Nat.le_refl _
  | i + 1, hi => by
    have h := rc_e_le (a := a) (b := b) hp i (by omega)
    have h2 := (rb_p_le r s a b i (mo_n r s i)).2
    have h3 := (mo_nn hp (i := i) (by omega)).2
    unfold rc_e
    omega
theorem rb_j {r : Nat → Int32} {s e k i : Nat} {z : Nat × Int32} (hi : i < e) : ∀ n, (mo_bj r s e k i z n).1 = z.1 + rc_p r s (mo_kd r s e k) (mo_tu r s e k) i n ∧ (¬ (mo_bj r s e k i z n).2 = 0 ↔ ¬ z.2 = 0 ∧ rb_p r s (mo_kd r s e k) (mo_tu r s e k) i n = 0)
  | 0 => ⟨rfl, fun h => ⟨h, rfl⟩, fun h => h.1⟩
  | n + 1 => by
    obtain ⟨h1, h2⟩ := rb_j (r := r) (s := s) (k := k) (z := z) hi n
    show (mo_bs r s e k i n (mo_bj r s e k i z n)).1 = z.1 + (rc_p r s (mo_kd r s e k) (mo_tu r s e k) i n + if rc_k r s (mo_kd r s e k) (mo_tu r s e k) i n then 1 else 0) ∧ (¬ (mo_bs r s e k i n (mo_bj r s e k i z n)).2 = 0 ↔ ¬ z.2 = 0 ∧ (rb_p r s (mo_kd r s e k) (mo_tu r s e k) i n + if rc_k r s (mo_kd r s e k) (mo_tu r s e k) i n ∧ ¬ mo_np r s i = 1 then 1 else 0) = 0)
    by_cases q : mo_al r s e k i n
    · rw [mo_bz ⟨Or.inl hi, q⟩, if_pos (show rc_k r s (mo_kd r s e k) (mo_tu r s e k) i n from q)]
      refine ⟨by show (mo_bj r s e k i z n).1 + 1 = _; omega, ?_⟩
      show (¬ (if ¬ (mo_bj r s e k i z n).2 = 0 ∧ mo_np r s i = 1 then (1 : Int32) else 0) = 0 ↔ _)
      by_cases w : mo_np r s i = 1
      · rw [if_neg (show ¬ (rc_k r s (mo_kd r s e k) (mo_tu r s e k) i n ∧ ¬ mo_np r s i = 1) from fun x => x.2 w), Nat.add_zero, ← h2]
        by_cases y : (mo_bj r s e k i z n).2 = 0
        · rw [if_neg (fun x => x.1 y)]; exact ⟨fun x => absurd rfl x, fun x => absurd y x⟩
        · rw [if_pos ⟨y, w⟩]; exact ⟨fun _ => y, fun _ => by decide⟩
      · rw [if_pos (show rc_k r s (mo_kd r s e k) (mo_tu r s e k) i n ∧ ¬ mo_np r s i = 1 from ⟨q, w⟩), if_neg (fun x => w x.2)]
        exact ⟨fun x => absurd rfl x, fun x => absurd x.2 (by omega)⟩
    · rw [mo_bw (fun x => q x.2), if_neg (show ¬ rc_k r s (mo_kd r s e k) (mo_tu r s e k) i n from q), if_neg (show ¬ (rc_k r s (mo_kd r s e k) (mo_tu r s e k) i n ∧ ¬ mo_np r s i = 1) from fun x => q x.1), Nat.add_zero, Nat.add_zero]
      exact ⟨h1, h2⟩
theorem rb_l {r : Nat → Int32} {s e k : Nat} {z : Nat × Int32} : ∀ n, (n ≤ k → (mo_bj r s e k e z n).1 = z.1 + rc_p r s (mo_kd r s e k) (mo_tu r s e k) e n ∧ (¬ (mo_bj r s e k e z n).2 = 0 ↔ ¬ z.2 = 0 ∧ rb_p r s (mo_kd r s e k) (mo_tu r s e k) e n = 0)) ∧ (k ≤ n → mo_bj r s e k e z n = mo_bj r s e k e z k)
  | 0 => ⟨fun _ => ⟨rfl, fun h => ⟨h, rfl⟩, fun h => h.1⟩, fun h => by rw [show k = 0 from by omega]⟩
  | n + 1 => by
    obtain ⟨h1, h2⟩ := rb_l (r := r) (s := s) (e := e) (k := k) (z := z) n
    refine ⟨fun hn => ?_, fun hn => ?_⟩
    · obtain ⟨h3, h4⟩ := h1 (by omega)
      show (mo_bs r s e k e n (mo_bj r s e k e z n)).1 = z.1 + (rc_p r s (mo_kd r s e k) (mo_tu r s e k) e n + if rc_k r s (mo_kd r s e k) (mo_tu r s e k) e n then 1 else 0) ∧ (¬ (mo_bs r s e k e n (mo_bj r s e k e z n)).2 = 0 ↔ ¬ z.2 = 0 ∧ (rb_p r s (mo_kd r s e k) (mo_tu r s e k) e n + if rc_k r s (mo_kd r s e k) (mo_tu r s e k) e n ∧ ¬ mo_np r s e = 1 then 1 else 0) = 0)
      by_cases q : mo_al r s e k e n
      · rw [mo_bz ⟨Or.inr hn, q⟩, if_pos (show rc_k r s (mo_kd r s e k) (mo_tu r s e k) e n from q)]
        refine ⟨by show (mo_bj r s e k e z n).1 + 1 = _; omega, ?_⟩
        show (¬ (if ¬ (mo_bj r s e k e z n).2 = 0 ∧ mo_np r s e = 1 then (1 : Int32) else 0) = 0 ↔ _)
        by_cases w : mo_np r s e = 1
        · rw [if_neg (show ¬ (rc_k r s (mo_kd r s e k) (mo_tu r s e k) e n ∧ ¬ mo_np r s e = 1) from fun x => x.2 w), Nat.add_zero, ← h4]
          by_cases y : (mo_bj r s e k e z n).2 = 0
          · rw [if_neg (fun x => x.1 y)]; exact ⟨fun x => absurd rfl x, fun x => absurd y x⟩
          · rw [if_pos ⟨y, w⟩]; exact ⟨fun _ => y, fun _ => by decide⟩
        · rw [if_pos (show rc_k r s (mo_kd r s e k) (mo_tu r s e k) e n ∧ ¬ mo_np r s e = 1 from ⟨q, w⟩), if_neg (fun x => w x.2)]
          exact ⟨fun x => absurd rfl x, fun x => absurd x.2 (by omega)⟩
      · rw [mo_bw (fun x => q x.2), if_neg (show ¬ rc_k r s (mo_kd r s e k) (mo_tu r s e k) e n from q), if_neg (show ¬ (rc_k r s (mo_kd r s e k) (mo_tu r s e k) e n ∧ ¬ mo_np r s e = 1) from fun x => q x.1), Nat.add_zero, Nat.add_zero]
        exact ⟨h3, h4⟩
    · by_cases q : k = n + 1
      · rw [q]
      · rw [← h2 (by omega)]
        show mo_bs r s e k e n (mo_bj r s e k e z n) = _
        exact mo_bw (fun x => x.1.elim (fun y => by omega) (fun y => by omega))
theorem rb_o {r : Nat → Int32} {s e k : Nat} : ∀ i, i ≤ e → (mo_bo r s e k i).1 = rc_e r s (mo_kd r s e k) (mo_tu r s e k) i ∧ (¬ (mo_bo r s e k i).2 = 0 ↔ mo_np r s e = 1 ∧ rb_e r s (mo_kd r s e k) (mo_tu r s e k) i = 0)
  | 0, _ => by
    refine ⟨rfl, ?_⟩
    show (¬ (if mo_np r s e = 1 then (1 : Int32) else 0) = 0 ↔ _)
    by_cases w : mo_np r s e = 1
    · rw [if_pos w]; exact ⟨fun _ => ⟨w, rfl⟩, fun _ => by decide⟩
    · rw [if_neg w]; exact ⟨fun x => absurd rfl x, fun x => absurd x.1 w⟩
  | i + 1, hi => by
    obtain ⟨h1, h2⟩ := rb_o (r := r) (s := s) (e := e) (k := k) i (by omega)
    obtain ⟨h3, h4⟩ := rb_j (r := r) (s := s) (k := k) (z := mo_bo r s e k i) (show i < e by omega) (mo_n r s i)
    show (mo_bj r s e k i (mo_bo r s e k i) (mo_n r s i)).1 = rc_e r s (mo_kd r s e k) (mo_tu r s e k) i + rc_p r s (mo_kd r s e k) (mo_tu r s e k) i (mo_n r s i) ∧ (¬ (mo_bj r s e k i (mo_bo r s e k i) (mo_n r s i)).2 = 0 ↔ mo_np r s e = 1 ∧ rb_e r s (mo_kd r s e k) (mo_tu r s e k) i + rb_p r s (mo_kd r s e k) (mo_tu r s e k) i (mo_n r s i) = 0)
    refine ⟨by rw [h3, h1], ?_⟩
    rw [h4, h2]
    constructor
    · intro x; exact ⟨x.1.1, by omega⟩
    · intro x; exact ⟨⟨x.1, by omega⟩, by omega⟩
theorem rb_r {r : Nat → Int32} {s e k : Nat} (hk : k ≤ mo_n r s e) : mo_br r s e k = if ¬ mo_ty r s e = 0 ∨ mo_tu r s e k < 3 then 0 else if 1 < rc_e r s (mo_kd r s e k) (mo_tu r s e k) e + rc_p r s (mo_kd r s e k) (mo_tu r s e k) e k then 2 else if rc_e r s (mo_kd r s e k) (mo_tu r s e k) e + rc_p r s (mo_kd r s e k) (mo_tu r s e k) e k = 1 ∧ (mo_np r s e = 1 ∧ rb_e r s (mo_kd r s e k) (mo_tu r s e k) e + rb_p r s (mo_kd r s e k) (mo_tu r s e k) e k = 0) then 1 else 0 := by
  obtain ⟨h1, h2⟩ := rb_o (r := r) (s := s) (e := e) (k := k) e (Nat.le_refl _)
  have h3 := (rb_l (r := r) (s := s) (e := e) (k := k) (z := mo_bo r s e k e) (mo_n r s e)).2 hk
  obtain ⟨h4, h5⟩ := (rb_l (r := r) (s := s) (e := e) (k := k) (z := mo_bo r s e k e) k).1 (Nat.le_refl _)
  have e1 : (mo_bo r s e k (e + 1)).1 = rc_e r s (mo_kd r s e k) (mo_tu r s e k) e + rc_p r s (mo_kd r s e k) (mo_tu r s e k) e k := by
    show (mo_bj r s e k e (mo_bo r s e k e) (mo_n r s e)).1 = _
    rw [h3, h4, h1]
  have e2 : ¬ (mo_bo r s e k (e + 1)).2 = 0 ↔ mo_np r s e = 1 ∧ rb_e r s (mo_kd r s e k) (mo_tu r s e k) e + rb_p r s (mo_kd r s e k) (mo_tu r s e k) e k = 0 := by
    show ¬ (mo_bj r s e k e (mo_bo r s e k e) (mo_n r s e)).2 = 0 ↔ _
    rw [h3, h5, h2]
    constructor
    · intro x; exact ⟨x.1.1, by omega⟩
    · intro x; exact ⟨⟨x.1, by omega⟩, by omega⟩
  unfold mo_br
  rw [e1]
  by_cases A : ¬ mo_ty r s e = 0 ∨ mo_tu r s e k < 3
  · rw [if_pos A, if_pos A]
  · rw [if_neg A, if_neg A]
    by_cases B : 1 < rc_e r s (mo_kd r s e k) (mo_tu r s e k) e + rc_p r s (mo_kd r s e k) (mo_tu r s e k) e k
    · rw [if_pos B, if_pos B]
    · rw [if_neg B, if_neg B]
      by_cases q : rc_e r s (mo_kd r s e k) (mo_tu r s e k) e + rc_p r s (mo_kd r s e k) (mo_tu r s e k) e k = 1 ∧ ¬ (mo_bo r s e k (e + 1)).2 = 0
      · rw [if_pos q, if_pos ⟨q.1, e2.mp q.2⟩]
      · rw [if_neg q, if_neg (fun z => q ⟨z.1, e2.mpr z.2⟩)]
