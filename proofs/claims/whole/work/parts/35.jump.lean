/-! The model: its reader, against the pure one -/
def mt_f (k : Nat) (M M' : sk_M) : Prop := (∀ a, a ≠ k + 7 → a ≠ k → M' a = M a) ∧ ∀ y, y ≠ 21 → M' k y = M k y
theorem mt_f.r {k : Nat} {M : sk_M} : mt_f k M M := ⟨fun _ _ _ => rfl, fun _ _ => rfl⟩
theorem mt_f.t {k : Nat} {M N P : sk_M} (h : mt_f k M N) (g : mt_f k N P) : mt_f k M P := ⟨fun a h1 h2 => (g.1 a h1 h2).trans (h.1 a h1 h2), fun y h1 => (g.2 y h1).trans (h.2 y h1)⟩
theorem mt_f.s {k : Nat} {M N : sk_M} {v : Int32} (h : mt_f k M N) : mt_f k M (sk_ms N k 21 v) := ⟨fun a h1 h2 => by rw [sk_nf h2]; exact h.1 a h1 h2, fun y h1 => by rw [sk_ne (Or.inr h1)]; exact h.2 y h1⟩
theorem mt_f.w {k j : Nat} {M N : sk_M} {v : Int32} (h : mt_f k M N) : mt_f k M (sk_ms N (k + 7) j v) := ⟨fun a h1 h2 => by rw [sk_nf h1]; exact h.1 a h1 h2, fun y h1 => by rw [sk_ne (by omega)]; exact h.2 y h1⟩
theorem tx_r {S : Nat → Int32} {n : Nat} (h : ∀ i, i < n → ¬ S i < 0 ∧ ¬ 255 < S i) (b : Nat) : ¬ tx S n b < -1 ∧ ¬ 255 < tx S n b := by
  unfold tx
  split
  · have h2 := h b (by assumption)
    exact ⟨fun q => h2.1 (Int32.lt_trans q (by decide)), h2.2⟩
  · decide
theorem dg_lo {x : Int32} (h : ¬ x < -1 ∧ ¬ 255 < x) : (x - 48).toInt = x.toInt - 48 := by
  have h1 : ¬ x.toInt < -1 := fun q => h.1 (Int32.lt_iff_toInt_lt.mpr q)
  have h2 : ¬ 255 < x.toInt := fun q => h.2 (Int32.lt_iff_toInt_lt.mpr q)
  rw [Int32.toInt_sub, show (48 : Int32).toInt = 48 from rfl]
  exact Int.bmod_eq_of_le (by simp; omega) (by simp; omega)
theorem dg_j {x : Int32} (h : ¬ x < -1 ∧ ¬ 255 < x) : (¬ x.toInt64 < (49 : Int64) ∧ ¬ (52 : Int64) < x.toInt64) ↔ ¬ (x - 48 < 1 ∨ 4 < x - 48) := by
  rw [in_k x 49 52 (l2 := 49) (h2 := 52) rfl rfl, Int32.lt_iff_toInt_lt, Int32.lt_iff_toInt_lt, Int32.lt_iff_toInt_lt, Int32.lt_iff_toInt_lt, dg_lo h]
  show (¬ x.toInt < 49 ∧ ¬ 52 < x.toInt) ↔ ¬ (x.toInt - 48 < 1 ∨ 4 < x.toInt - 48)
  omega
theorem dg_l {x : Int32} (h : ¬ x < -1 ∧ ¬ 255 < x) : (¬ x.toInt64 < (48 : Int64) ∧ ¬ (52 : Int64) < x.toInt64) ↔ ¬ (x - 48 < 0 ∨ 4 < x - 48) := by
  rw [in_k x 48 52 (l2 := 48) (h2 := 52) rfl rfl, Int32.lt_iff_toInt_lt, Int32.lt_iff_toInt_lt, Int32.lt_iff_toInt_lt, Int32.lt_iff_toInt_lt, dg_lo h]
  show (¬ x.toInt < 48 ∧ ¬ 52 < x.toInt) ↔ ¬ (x.toInt - 48 < 0 ∨ 4 < x.toInt - 48)
  omega
def ps_q (k b : Nat) (P : Prop) (M : sk_M) (r : Int32) (M' : sk_M) : Prop := (P ∧ r = 1 ∧ M' = sk_ms M k 21 (nI (b + 1))) ∨ (¬ P ∧ r = 0 ∧ M = M')
def mj_q (k q : Nat) (s : Nat → Int32) (b : Nat) (M : sk_M) (r : Int32) (M' : sk_M) : Prop :=
  (∃ x, tj s b = .inl x ∧ r = 0 ∧ M' k 21 = nI x ∧ mt_f k M M') ∨ ∃ x j, tj s b = .inr (x, j) ∧ r = 1 ∧ M' k 21 = nI x ∧ mt_f k M M' ∧ ∀ y, M' (k + 7) y = if y = q then j.1 else if y = q + 1 then j.2.1 else if y = q + 2 then j.2.2 else M (k + 7) y
theorem rj_0 {M : sk_M} {k q b : Nat} {s : Nat → Int32} (h1 : ¬ (s b - 48 < 1 ∨ 4 < s b - 48)) (h2 : ¬ tk (s (b + 1)) = -1) (h3 : tc (s (b + 2)) (tk (s (b + 1))) = 0) : mj_q k q s b M 1 (sk_ms (sk_ms (sk_ms (sk_ms (sk_ms M (k + 7) (q + 1) (s b - 48)) k 21 (nI (b + 1))) k 21 (nI (b + 2))) (k + 7) q (tk (s (b + 1)))) (k + 7) (q + 2) 0) := by
  refine Or.inr ⟨b + 2, (tk (s (b + 1)), s b - 48, 0), by rw [tj, if_neg h1, if_neg h2, if_pos h3, h3], rfl, ?_, mt_f.w (mt_f.w (mt_f.s (mt_f.s (mt_f.w mt_f.r)))), fun y => ?_⟩
  · rw [sk_ne (by omega), sk_ne (by omega), sk_sm]
  · by_cases e1 : y = q
    · subst e1; rw [if_pos rfl, sk_ne (by omega), sk_sm]
    · rw [if_neg e1]
      by_cases e2 : y = q + 1
      · subst e2; rw [if_pos rfl, sk_ne (by omega), sk_ne (by omega), sk_ne (by omega), sk_ne (by omega), sk_sm]
      · rw [if_neg e2]
        by_cases e3 : y = q + 2
        · subst e3; rw [if_pos rfl, sk_sm]
        · rw [if_neg e3, sk_ne (by omega), sk_ne (by omega), sk_ne (by omega), sk_ne (by omega), sk_ne (by omega)]
theorem rj_1 {M : sk_M} {k q b : Nat} {s : Nat → Int32} {c : Int32} (h1 : ¬ (s b - 48 < 1 ∨ 4 < s b - 48)) (h2 : ¬ tk (s (b + 1)) = -1) (h3 : tc (s (b + 2)) (tk (s (b + 1))) = c) (hc : ¬ c = 0) : mj_q k q s b M 1 (sk_ms (sk_ms (sk_ms (sk_ms (sk_ms (sk_ms M (k + 7) (q + 1) (s b - 48)) k 21 (nI (b + 1))) k 21 (nI (b + 2))) (k + 7) q (tk (s (b + 1)))) k 21 (nI (b + 2 + 1))) (k + 7) (q + 2) c) := by
  refine Or.inr ⟨b + 3, (tk (s (b + 1)), s b - 48, c), by rw [tj, if_neg h1, if_neg h2, h3, if_neg hc], rfl, ?_, mt_f.w (mt_f.s (mt_f.w (mt_f.s (mt_f.s (mt_f.w mt_f.r))))), fun y => ?_⟩
  · rw [sk_ne (by omega), sk_sm]
  · by_cases e1 : y = q
    · subst e1; rw [if_pos rfl, sk_ne (by omega), sk_ne (by omega), sk_sm]
    · rw [if_neg e1]
      by_cases e2 : y = q + 1
      · subst e2; rw [if_pos rfl, sk_ne (by omega), sk_ne (by omega), sk_ne (by omega), sk_ne (by omega), sk_ne (by omega), sk_sm]
      · rw [if_neg e2]
        by_cases e3 : y = q + 2
        · subst e3; rw [if_pos rfl, sk_sm]
        · rw [if_neg e3, sk_ne (by omega), sk_ne (by omega), sk_ne (by omega), sk_ne (by omega), sk_ne (by omega), sk_ne (by omega)]
def mo_pj (T : Nat → Int32) (z : Nat) (j : sk_J) : Prop := T z = j.1 ∧ T (z + 1) = j.2.1 ∧ T (z + 2) = j.2.2
def mo_pe (T : Nat → Int32) (q : Nat) (el : sk_E) : Prop := T q = el.1 ∧ T (q + 1) = nI el.2.length ∧ el.2.length ≤ 3 ∧ ∀ (p : Nat) (j : sk_J), el.2[p]? = some j → mo_pj T (q + 2 + 3 * p) j
def me_q (k q : Nat) (s : Nat → Int32) (b : Nat) (M : sk_M) (r : Int32) (M' : sk_M) : Prop :=
  (∃ x, te s b = .inl x ∧ r = 0 ∧ M' k 21 = nI x ∧ mt_f k M M') ∨ ∃ x el, te s b = .inr (x, el) ∧ r = 1 ∧ M' k 21 = nI x ∧ mt_f k M M' ∧ mo_pe (M' (k + 7)) q el ∧ ∀ y, (y < q ∨ q + 11 ≤ y) → M' (k + 7) y = M (k + 7) y
theorem el_lf {M : sk_M} {k q b : Nat} {s : Nat → Int32} {ty : Int32} (h : te s b = tlv s ty b) (h1 : s (b + 1) - 48 < 0 ∨ 4 < s (b + 1) - 48) : me_q k q s b M 0 (sk_ms (sk_ms M k 21 (nI (b + 1))) (k + 7) q ty) :=
  Or.inl ⟨b + 1, by rw [h, tlv, if_pos h1], rfl, by rw [sk_ne (by omega), sk_sm], mt_f.w (mt_f.s mt_f.r)⟩
theorem el_lv {M : sk_M} {k q b : Nat} {s : Nat → Int32} {ty : Int32} (h : te s b = tlv s ty b) (h1 : ¬ (s (b + 1) - 48 < 0 ∨ 4 < s (b + 1) - 48)) (hz : ∀ y, q ≤ y → y < q + 18 → M (k + 7) y = 0) : me_q k q s b M 1 (sk_ms (sk_ms (sk_ms (sk_ms (sk_ms (sk_ms M k 21 (nI (b + 1))) (k + 7) q ty) (k + 7) (q + 1) 1) (k + 7) (q + 2) (-1)) (k + 7) (q + 2 + 1) (s (b + 1) - 48)) k 21 (nI (b + 2))) := by
  refine Or.inr ⟨b + 2, (ty, [(-1, s (b + 1) - 48, 0)]), by rw [h, tlv, if_neg h1], rfl, sk_sm, mt_f.s (mt_f.w (mt_f.w (mt_f.w (mt_f.w (mt_f.s mt_f.r))))), ⟨?_, ?_, by simp, fun p j hp => ?_⟩, fun y hy => ?_⟩
  · rw [sk_ne (by omega), sk_ne (by omega), sk_ne (by omega), sk_ne (by omega), sk_sm]
  · rw [sk_ne (by omega), sk_ne (by omega), sk_ne (by omega), sk_sm]; rfl
  · have hp0 : p = 0 := by
      have := (List.getElem?_eq_some_iff.mp hp).1
      simp at this
      omega
    subst hp0
    cases hp
    refine ⟨?_, ?_, ?_⟩
    · show _ = (-1 : Int32)
      rw [sk_ne (by omega), sk_ne (by omega), show q + 2 + 3 * 0 = q + 2 from by omega, sk_sm]
    · rw [sk_ne (by omega), show q + 2 + 3 * 0 + 1 = q + 2 + 1 from by omega, sk_sm]
    · rw [sk_ne (by omega), sk_ne (by omega), sk_ne (by omega), sk_ne (by omega), sk_ne (by omega), sk_ne (by omega)]
      exact hz _ (by omega) (by omega)
  · rw [sk_ne (by omega), sk_ne (by omega), sk_ne (by omega), sk_ne (by omega), sk_ne (by omega), sk_ne (by omega)]
/-- a chain so far -/
def mc_c (k q : Nat) (M : sk_M) (i : Nat) (N : sk_M) (js : List sk_J) : Prop := js.length = i ∧ N (k + 7) q = 0 ∧ N (k + 7) (q + 1) = nI i ∧ (∀ (p : Nat) (j : sk_J), js[p]? = some j → mo_pj (N (k + 7)) (q + 2 + 3 * p) j) ∧ ∀ y, (y < q ∨ q + 11 ≤ y) → N (k + 7) y = M (k + 7) y
theorem mc_c.k {k q i : Nat} {M N : sk_M} {js : List sk_J} {v : Int32} (h : mc_c k q M i N js) : mc_c k q M i (sk_ms N k 21 v) js := by
  unfold mc_c
  rw [sk_nf (show k + 7 ≠ k from by omega)]
  exact h
theorem mc_c.s {k q i : Nat} {M N P : sk_M} {js : List sk_J} {w : sk_J} (h : mc_c k q M i N js) (hi : i < 3) (hP : ∀ y, P (k + 7) y = if y = q + 2 + 3 * i then w.1 else if y = q + 2 + 3 * i + 1 then w.2.1 else if y = q + 2 + 3 * i + 2 then w.2.2 else N (k + 7) y) : mc_c k q M (i + 1) (sk_ms P (k + 7) (q + 1) (nI (i + 1))) (js ++ [w]) := by
  obtain ⟨h1, h2, h3, h4, h5⟩ := h
  have hP0 : ∀ y, (y < q + 2 + 3 * i ∨ q + 5 + 3 * i ≤ y) → P (k + 7) y = N (k + 7) y := fun y hy => by rw [hP, if_neg (by omega), if_neg (by omega), if_neg (by omega)]
  refine ⟨by simp [h1], ?_, sk_sm, fun p j hp => ?_, fun y hy => ?_⟩
  · rw [sk_ne (by omega), hP0 _ (by omega)]; exact h2
  · by_cases hp2 : p < js.length
    · have h9 : js[p]? = some j := by rw [← hp]; exact (List.getElem?_append_left hp2).symm
      obtain ⟨g1, g2, g3⟩ := h4 p j h9
      refine ⟨?_, ?_, ?_⟩
      · rw [sk_ne (by omega), hP0 _ (by omega)]; exact g1
      · rw [sk_ne (by omega), hP0 _ (by omega)]; exact g2
      · rw [sk_ne (by omega), hP0 _ (by omega)]; exact g3
    · have h0 : p = js.length := by
        have := (List.getElem?_eq_some_iff.mp hp).1
        simp at this
        omega
      subst h0
      have h9 : j = w := by
        have : (js ++ [w])[js.length]? = some w := by rw [List.getElem?_append_right (Nat.le_refl _), Nat.sub_self]; rfl
        exact Option.some.inj (hp.symm.trans this)
      subst h9
      subst h1
      refine ⟨?_, ?_, ?_⟩
      · rw [sk_ne (by omega), hP, if_pos rfl]
      · rw [sk_ne (by omega), hP, if_neg (by omega), if_pos rfl]
      · rw [sk_ne (by omega), hP, if_neg (by omega), if_neg (by omega), if_pos rfl]
  · rw [sk_ne (by omega), hP0 _ (by omega)]; exact h5 y hy
/-- a whole text so far -/
def mx_c (k i : Nat) (N : sk_M) (L : List sk_E) : Prop := L.length = i ∧ N (k + 7) 0 = nI i ∧ (∀ (e : Nat) (el : sk_E), L[e]? = some el → mo_pe (N (k + 7)) (17 + 18 * e) el ∧ ∀ y, 11 ≤ y → y < 18 → N (k + 7) (17 + 18 * e + y) = 0) ∧ ∀ y, 17 + 18 * i ≤ y → y < 233 → N (k + 7) y = 0
theorem mx_c.k {k i : Nat} {N : sk_M} {L : List sk_E} {v : Int32} (h : mx_c k i N L) : mx_c k i (sk_ms N k 21 v) L := by
  unfold mx_c
  rw [sk_nf (show k + 7 ≠ k from by omega)]
  exact h
theorem mo_pe.c {T T' : Nat → Int32} {q : Nat} {el : sk_E} (h : ∀ y, q ≤ y → y < q + 11 → T' y = T y) (g : mo_pe T q el) : mo_pe T' q el := by
  obtain ⟨g1, g2, g3, g4⟩ := g
  refine ⟨by rw [h _ (by omega) (by omega)]; exact g1, by rw [h _ (by omega) (by omega)]; exact g2, g3, fun p j hp => ?_⟩
  obtain ⟨a1, a2, a3⟩ := g4 p j hp
  have hl := (List.getElem?_eq_some_iff.mp hp).1
  exact ⟨by rw [h _ (by omega) (by omega)]; exact a1, by rw [h _ (by omega) (by omega)]; exact a2, by rw [h _ (by omega) (by omega)]; exact a3⟩
theorem mx_c.s {k i : Nat} {N P : sk_M} {L : List sk_E} {el : sk_E} (h : mx_c k i N L) (hi : i < 12) (hP : mo_pe (P (k + 7)) (17 + 18 * i) el) (hf : ∀ y, (y < 17 + 18 * i ∨ 17 + 18 * i + 11 ≤ y) → P (k + 7) y = N (k + 7) y) : mx_c k (i + 1) (sk_ms P (k + 7) 0 (nI (i + 1))) (L ++ [el]) := by
  obtain ⟨h1, h2, h3, h4⟩ := h
  refine ⟨by simp [h1], sk_sm, fun e x he => ?_, fun y g1 g2 => ?_⟩
  · by_cases hl : e < L.length
    · obtain ⟨g1, g2⟩ := h3 e x (by rw [← he]; exact (List.getElem?_append_left hl).symm)
      exact ⟨mo_pe.c (fun y z1 z2 => by rw [sk_ne (by omega), hf _ (by omega)]) g1, fun y z1 z2 => by rw [sk_ne (by omega), hf _ (by omega)]; exact g2 y z1 z2⟩
    · have h0 : e = L.length := by
        have := (List.getElem?_eq_some_iff.mp he).1
        simp at this
        omega
      subst h0
      have h9 : x = el := by
        have : (L ++ [el])[L.length]? = some el := by rw [List.getElem?_append_right (Nat.le_refl _), Nat.sub_self]; rfl
        exact Option.some.inj (he.symm.trans this)
      subst h9
      subst h1
      exact ⟨mo_pe.c (fun y z1 z2 => sk_ne (by omega)) hP, fun y z1 z2 => by rw [sk_ne (by omega), hf _ (by omega)]; exact h4 _ (by omega) (by omega)⟩
  · rw [sk_ne (by omega), hf _ (by omega)]; exact h4 y (by omega) g2
theorem tx_n {S : Nat → Int32} {n a : Nat} (h : ¬ tx S n a = -1) : a < n := by
  refine Classical.byContradiction (fun q => h ?_)
  rw [tx, if_neg q]
theorem tj_n {S : Nat → Int32} {n b x : Nat} {j : sk_J} (h : tj (tx S n) b = .inr (x, j)) : x ≤ n := by
  unfold tj at h
  split at h
  · cases h
  · split at h
    · cases h
    · rename_i h2
      have h3 : b + 1 < n := tx_n (fun q => h2 (by rw [q]; decide))
      cases h
      split
      · omega
      · rename_i h4
        have h5 : b + 2 < n := tx_n (fun q => h4 (by rw [q]; rfl))
        omega
theorem tcl_nn {S : Nat → Int32} {n : Nat} : ∀ (k b : Nat) (js : List sk_J) (x : Nat) (js' : List sk_J), tcl (tx S n) (k + 1) b js = .inr (x, js') → x ≤ n
  | k, b, js, x, js', h => by
    cases q : tj (tx S n) b with
    | inl y => rw [tcl_e q] at h; cases h
    | inr y =>
      obtain ⟨x9, w⟩ := y
      by_cases c : tx S n x9 = 43 ∧ 0 < k
      · rw [tcl_y q c] at h
        obtain ⟨k2, rfl⟩ : ∃ z, k = z + 1 := ⟨k - 1, by omega⟩
        exact tcl_nn k2 _ _ _ _ h
      · rw [tcl_n q c] at h
        cases h
        exact tj_n q
theorem te_n {S : Nat → Int32} {n b x : Nat} {el : sk_E} (hS : ∀ i, i < n → ¬ S i < 0 ∧ ¬ 255 < S i) (h : te (tx S n) b = .inr (x, el)) : x ≤ n := by
  have key : ∀ ty, tlv (tx S n) ty b = .inr (x, el) → x ≤ n := by
    intro ty h
    unfold tlv at h
    split at h
    · cases h
    · rename_i h2
      cases h
      have h3 : b + 1 < n := tx_n (fun q => h2 (by rw [q]; decide))
      omega
  unfold te at h
  split at h
  · exact key _ h
  · split at h
    · exact key _ h
    · unfold tch at h
      split at h
      · cases h
      · cases h
        rename_i q
        exact tcl_nn 2 _ _ _ _ q
def mx_h (T : Nat → Int32) (L : List sk_E) : Prop := T 0 = nI L.length ∧ ∀ (e : Nat) (el : sk_E), L[e]? = some el → mo_pe T (17 + 18 * e) el ∧ ∀ y, 11 ≤ y → y < 18 → T (17 + 18 * e + y) = 0
def mx_q (k n : Nat) (s : Nat → Int32) (M : sk_M) (r : Int32) (M' : sk_M) : Prop := (∃ x, tt s n = .inl x ∧ r = nI x ∧ mt_f k M M') ∨ ∃ L, tt s n = .inr L ∧ r = -1 ∧ L.length ≤ 12 ∧ mt_f k M M' ∧ mx_h (M' (k + 7)) L
/-- the chain's walk -/
def mi_c (k q : Nat) (s : Nat → Int32) (b : Nat) (M : sk_M) (i : Nat) (N : sk_M) (x : Nat) (js : List sk_J) (mo : Int32) : Prop :=
  mc_c k q M i N js ∧ N k 21 = nI x ∧ mt_f k M N ∧ x ≤ b + 4 * i ∧ ((mo = 1 ∧ i < 3 ∧ tcl s 3 b [] = tcl s (3 - i) x js) ∨ (mo = 0 ∧ tcl s 3 b [] = .inr (x, js)))
def mi_x (k n : Nat) (s : Nat → Int32) (M : sk_M) (i : Nat) (N : sk_M) (b : Nat) (L : List sk_E) (mo : Int32) : Prop :=
  mx_c k i N L ∧ N k 21 = nI b ∧ mt_f k M N ∧ b ≤ 25 * i ∧ b ≤ n ∧ ((mo = 1 ∧ i < 12 ∧ tt s n = tel s n (12 - i) b L) ∨ (mo = 0 ∧ tt s n = if b = n then .inr L else .inl b))
set_option maxHeartbeats 4000000 in
set_option maxRecDepth 100000 in
theorem m_X8_here (l : Launch) {O : sk_O} (hO : sk_inj O) (M : sk_M) (k n b : Nat) (S : Nat → Int32) (hk : sk_isM O k) (hS : M (k + 1) = S) (hn : M k 2 = nI n) (hb : M k 21 = nI b) (hn2 : n ≤ 120) (hb2 : b ≤ 1000) : sk_Mi l yX8_here (sk_w yX8_here cX8_here 1 (some .int)) ({ frames := 0, cells := 0, slots := 0, locals := 0 }) O [.ref (sk_ad O k)] M (fun r M' => r = (tx S n b) ∧ M' = M) := by
  refine sk_mi (by decide) ⟨rfl, rfl⟩ hO (Nat.le_of_ble_eq_true rfl) (fun X A Q C ret => ?_)
  show sk_W l X O A Q 1 0 0 M 0 [(0, .ref (sk_ad O k))] []
  refine k_aloadn C 0 dX8_here_0 rfl ?_
  refine k_geti C (j := 21) kcl_X8 fl_X8_168 hk.1 (by decide) rfl dX8_here_1 ?_
  refine k_aloadn C 0 dX8_here_4 rfl ?_
  refine k_geti C (j := 2) kcl_X8 fl_X8_161 hk.1 (by decide) rfl dX8_here_5 ?_
  refine k_cge C 23 dX8_here_8 (by decide) (fun c8_1 => ?_) (fun c8_1 => ?_)
  ·
    have nc8_1 : n ≤ b := (sk_eI (a := n) (b := b) hn hb (by omega) (by omega)).mp c8_1
    refine k_iconst C (-1) dX8_here_23 (by decide) ?_
    exact ret _ _ _ _ dX8_here_24 rfl (by first | exact ⟨by rw [tx, if_pos (by omega), ← hS], rfl⟩ | exact ⟨by rw [tx, if_neg (by omega)], rfl⟩)
  ·
    have nc8_1 : ¬ (n ≤ b) := fun h => c8_1 ((sk_eI (a := n) (b := b) hn hb (by omega) (by omega)).mpr h)
    refine k_aloadn C 0 dX8_here_11 rfl ?_
    refine k_getr C (j := 1) (k' := k + 1) kcl_X8 fl_X8_7 hk.1 (by decide) rfl dX8_here_12 ?_
    refine k_aloadn C 0 dX8_here_15 rfl ?_
    refine k_geti C (j := 21) kcl_X8 fl_X8_168 hk.1 (by decide) rfl dX8_here_16 ?_
    refine k_ialdn C b hk.2.1 hb (by omega) dX8_here_19 ?_
    refine k_goto C 24 dX8_here_20 (by decide) ?_
    exact ret _ _ _ _ dX8_here_24 rfl (by first | exact ⟨by rw [tx, if_pos (by omega), ← hS], rfl⟩ | exact ⟨by rw [tx, if_neg (by omega)], rfl⟩)

set_option maxHeartbeats 4000000 in
set_option maxRecDepth 100000 in
theorem m_X8_passes (l : Launch) {O : sk_O} (hO : sk_inj O) (M : sk_M) (k n b : Nat) (S : Nat → Int32) (hk : sk_isM O k) (hS : M (k + 1) = S) (hn : M k 2 = nI n) (hb : M k 21 = nI b) (hn2 : n ≤ 120) (hb2 : b ≤ 1000) (c : Int32) : sk_Mi l yX8_passes (sk_w yX8_passes cX8_passes 2 (some .boolean)) ({ frames := 1, cells := 0, slots := 0, locals := 20 }) O [.ref (sk_ad O k), .int c] M (ps_q k b (tx S n b = c) M) := by
  refine sk_mi (by decide) ⟨rfl, rfl⟩ hO (Nat.le_of_ble_eq_true rfl) (fun X A Q C ret => ?_)
  show sk_W l X O A Q 2 0 0 M 0 [(0, .ref (sk_ad O k)), (1, .int c)] []
  refine k_aloadn C 0 dX8_passes_0 rfl ?_
  refine k_vi C (as := []) yvX8_here viX8_here ml_X8_171 (m_X8_here l C.2.2.2.1 M (k := k) (n := n) (b := b) (S := S) (hk := hk) (hS := hS) (hn := hn) (hb := hb) (hn2 := hn2) (hb2 := (by omega))) hk.1 rfl rfl rfl (Nat.le_of_ble_eq_true rfl) (by decide) dX8_passes_1 (fun x1_1 M1_1 h1_1 => ?_)
  rw [h1_1.1, h1_1.2]
  refine k_iloadn C 1 dX8_passes_4 rfl ?_
  refine k_ceq C 10 dX8_passes_5 (by decide) (fun c5_2 => ?_) (fun c5_2 => ?_)
  ·
    refine k_aloadn C 0 dX8_passes_10 rfl ?_
    refine k_dup C dX8_passes_11 rfl ?_
    refine k_geti C (j := 21) kcl_X8 fl_X8_168 hk.1 (by decide) rfl dX8_passes_12 ?_
    refine k_iconst C (1) dX8_passes_15 (by decide) ?_
    refine k_iadd C dX8_passes_16 ?_
    refine k_top (nI (b + 1)) (sk_nadd (b := 1) hb rfl) ?_
    refine k_puti C (j := 21) (ty := .int) tyX8 kcl_X8 tyX8_ok nmX8 fl_X8_168 hk.1 (by decide) rfl rfl (by decide +kernel) rfl rfl dX8_passes_17 ?_
    refine k_iconst C (1) dX8_passes_20 (by decide) ?_
    exact ret _ _ _ _ dX8_passes_21 rfl (by exact Or.inl ⟨c5_2, rfl, rfl⟩)
  ·
    refine k_iconst C (0) dX8_passes_8 (by decide) ?_
    exact ret _ _ _ _ dX8_passes_9 rfl (by exact Or.inr ⟨c5_2, rfl, rfl⟩)

set_option maxHeartbeats 4000000 in
set_option maxRecDepth 100000 in
theorem m_X8_kindOf (l : Launch) {O : sk_O} (hO : sk_inj O) (M : sk_M) (c : Int32) : sk_Mi l yX8_kindOf (sk_w yX8_kindOf cX8_kindOf 1 (some .int)) ({ frames := 0, cells := 0, slots := 0, locals := 0 }) O [.int c] M (fun r M' => r = (tk c) ∧ M' = M) := by
  refine sk_mi (by decide) ⟨rfl, rfl⟩ hO (Nat.le_of_ble_eq_true rfl) (fun X A Q C ret => ?_)
  show sk_W l X O A Q 1 0 0 M 0 [(0, .int c)] []
  refine k_iloadn C 0 dX8_kindOf_0 rfl ?_
  refine k_bipush C (84) dX8_kindOf_1 (by decide) ?_
  refine k_cne C 10 dX8_kindOf_3 (by decide) (fun c3_1 => ?_) (fun c3_1 => ?_)
  ·
    refine k_iloadn C 0 dX8_kindOf_10 rfl ?_
    refine k_bipush C (83) dX8_kindOf_11 (by decide) ?_
    refine k_cne C 20 dX8_kindOf_13 (by decide) (fun c13_2 => ?_) (fun c13_2 => ?_)
    ·
      refine k_iloadn C 0 dX8_kindOf_20 rfl ?_
      refine k_bipush C (79) dX8_kindOf_21 (by decide) ?_
      refine k_cne C 30 dX8_kindOf_23 (by decide) (fun c23_3 => ?_) (fun c23_3 => ?_)
      ·
        refine k_iloadn C 0 dX8_kindOf_30 rfl ?_
        refine k_bipush C (70) dX8_kindOf_31 (by decide) ?_
        refine k_cne C 40 dX8_kindOf_33 (by decide) (fun c33_4 => ?_) (fun c33_4 => ?_)
        ·
          refine k_iloadn C 0 dX8_kindOf_40 rfl ?_
          refine k_bipush C (90) dX8_kindOf_41 (by decide) ?_
          refine k_cne C 50 dX8_kindOf_43 (by decide) (fun c43_5 => ?_) (fun c43_5 => ?_)
          ·
            refine k_iloadn C 0 dX8_kindOf_50 rfl ?_
            refine k_bipush C (65) dX8_kindOf_51 (by decide) ?_
            refine k_cne C 60 dX8_kindOf_53 (by decide) (fun c53_6 => ?_) (fun c53_6 => ?_)
            ·
              refine k_iconst C (-1) dX8_kindOf_60 (by decide) ?_
              exact ret _ _ _ _ dX8_kindOf_61 rfl (by simp [tk, *])
            ·
              refine k_iconst C (5) dX8_kindOf_56 (by decide) ?_
              refine k_goto C 61 dX8_kindOf_57 (by decide) ?_
              exact ret _ _ _ _ dX8_kindOf_61 rfl (by simp [tk, *])
          ·
            refine k_iconst C (4) dX8_kindOf_46 (by decide) ?_
            refine k_goto C 61 dX8_kindOf_47 (by decide) ?_
            exact ret _ _ _ _ dX8_kindOf_61 rfl (by simp [tk, *])
        ·
          refine k_iconst C (3) dX8_kindOf_36 (by decide) ?_
          refine k_goto C 61 dX8_kindOf_37 (by decide) ?_
          exact ret _ _ _ _ dX8_kindOf_61 rfl (by simp [tk, *])
      ·
        refine k_iconst C (2) dX8_kindOf_26 (by decide) ?_
        refine k_goto C 61 dX8_kindOf_27 (by decide) ?_
        exact ret _ _ _ _ dX8_kindOf_61 rfl (by simp [tk, *])
    ·
      refine k_iconst C (1) dX8_kindOf_16 (by decide) ?_
      refine k_goto C 61 dX8_kindOf_17 (by decide) ?_
      exact ret _ _ _ _ dX8_kindOf_61 rfl (by simp [tk, *])
  ·
    refine k_iconst C (0) dX8_kindOf_6 (by decide) ?_
    refine k_goto C 61 dX8_kindOf_7 (by decide) ?_
    exact ret _ _ _ _ dX8_kindOf_61 rfl (by simp [tk, *])

set_option maxHeartbeats 4000000 in
set_option maxRecDepth 100000 in
theorem m_X8_readJump (l : Launch) {O : sk_O} (hO : sk_inj O) (M : sk_M) (k n b : Nat) (S : Nat → Int32) (hk : sk_isM O k) (hS : M (k + 1) = S) (hn : M k 2 = nI n) (hb : M k 21 = nI b) (hn2 : n ≤ 120) (hb2 : b ≤ 900) (hr : ∀ i, i < n → ¬ S i < 0 ∧ ¬ 255 < S i) (q : Nat) (xq : Int32) (hxq : xq = nI q) (hq : q + 3 ≤ 233) : sk_Mi l yX8_readJump (sk_w yX8_readJump cX8_readJump 3 (some .boolean)) ({ frames := 2, cells := 0, slots := 0, locals := 41 }) O [.ref (sk_ad O k), .int xq] M (mj_q k q (tx S n) b M) := by
  refine sk_mi (by decide) ⟨rfl, rfl⟩ hO (Nat.le_of_ble_eq_true rfl) (fun X A Q C ret => ?_)
  show sk_W l X O A Q 3 0 0 M 0 [(0, .ref (sk_ad O k)), (1, .int xq)] []
  refine k_aloadn C 0 dX8_readJump_0 rfl ?_
  refine k_vi C (as := []) yvX8_here viX8_here ml_X8_171 (m_X8_here l C.2.2.2.1 M (k := k) (n := n) (b := b) (S := S) (hk := hk) (hS := hS) (hn := hn) (hb := hb) (hn2 := hn2) (hb2 := (by omega))) hk.1 rfl rfl rfl (Nat.le_of_ble_eq_true rfl) (by decide) dX8_readJump_1 (fun x1_1 M1_1 h1_1 => ?_)
  rw [h1_1.1, h1_1.2]
  refine k_i2l C dX8_readJump_4 ?_
  refine k_ldcl C kc_X8_175 dX8_readJump_5 ?_
  refine k_ldcl C kc_X8_177 dX8_readJump_8 ?_
  refine k_si C (as := [.long ((tx S n b).toInt64), .long (49), .long (52)]) yvX8_in vsX8_in ml_X8_64 (m_X8_in l C.2.2.2.1 M (v := (tx S n b).toInt64) (p := (49)) (q := (52))) rfl rfl (Nat.le_of_ble_eq_true rfl) (by decide) dX8_readJump_11 (fun x11_2 M11_2 h11_2 => ?_)
  rw [h11_2.1, h11_2.2]
  refine k_zne C 19 dX8_readJump_14 (by decide) (fun c14_3 => ?_) (fun c14_3 => ?_)
  ·
    have nc14_3 : ¬ ((tx S n b).toInt64) < (49) ∧ ¬ (52) < ((tx S n b).toInt64) := Classical.byContradiction (fun h => c14_3 (sk_b1.mpr h))
    refine k_aloadn C 0 dX8_readJump_19 rfl ?_
    refine k_getr C (j := 9) (k' := k + 7) kcl_X8 fl_X8_29 hk.1 (by decide) rfl dX8_readJump_20 ?_
    refine k_iloadn C 1 dX8_readJump_23 rfl ?_
    refine k_iconst C (1) dX8_readJump_24 (by decide) ?_
    refine k_iadd C dX8_readJump_25 ?_
    refine k_aloadn C 0 dX8_readJump_26 rfl ?_
    refine k_vi C (as := []) yvX8_here viX8_here ml_X8_171 (m_X8_here l C.2.2.2.1 M (k := k) (n := n) (b := b) (S := S) (hk := hk) (hS := hS) (hn := hn) (hb := hb) (hn2 := hn2) (hb2 := (by omega))) hk.1 rfl rfl rfl (Nat.le_of_ble_eq_true rfl) (by decide) dX8_readJump_27 (fun x27_4 M27_4 h27_4 => ?_)
    rw [h27_4.1, h27_4.2]
    refine k_bipush C (48) dX8_readJump_30 (by decide) ?_
    refine k_isub C dX8_readJump_32 ?_
    refine k_iast C (q + 1) hk.2.2.2.2.2.2.2.1 (sk_nadd hxq (rfl : ((1) : Int32) = nI 1)) (by omega) dX8_readJump_33 ?_
    refine k_aloadn C 0 dX8_readJump_34 rfl ?_
    refine k_dup C dX8_readJump_35 rfl ?_
    refine k_geti C (j := 21) kcl_X8 fl_X8_168 hk.1 (by decide) rfl dX8_readJump_36 ?_
    refine k_top (M k 21) (by rw [sk_ne (by omega)]) ?_
    refine k_iconst C (1) dX8_readJump_39 (by decide) ?_
    refine k_iadd C dX8_readJump_40 ?_
    refine k_top (nI (b + 1)) (sk_nadd (b := 1) hb rfl) ?_
    refine k_puti C (j := 21) (ty := .int) tyX8 kcl_X8 tyX8_ok nmX8 fl_X8_168 hk.1 (by decide) rfl rfl (by decide +kernel) rfl rfl dX8_readJump_41 ?_
    refine k_aloadn C 0 dX8_readJump_44 rfl ?_
    refine k_vi C (as := []) yvX8_here viX8_here ml_X8_171 (m_X8_here l C.2.2.2.1 (sk_ms (sk_ms M (k + 7) (q + 1) ((tx S n b) - (48))) k 21 (nI (b + 1))) (k := k) (n := n) (b := b + 1) (S := S) (hk := hk) (hS := (by rw [sk_nf (by omega), sk_nf (by omega)]; exact hS)) (hn := (by rw [sk_ne (by omega), sk_ne (by omega)]; exact hn)) (hb := sk_sm) (hn2 := hn2) (hb2 := (by omega))) hk.1 rfl rfl rfl (Nat.le_of_ble_eq_true rfl) (by decide) dX8_readJump_45 (fun x45_5 M45_5 h45_5 => ?_)
    rw [h45_5.1, h45_5.2]
    refine k_si C (as := [.int (tx S n (b + 1))]) yvX8_kindOf vsX8_kindOf ml_X8_179 (m_X8_kindOf l C.2.2.2.1 (sk_ms (sk_ms M (k + 7) (q + 1) ((tx S n b) - (48))) k 21 (nI (b + 1))) (c := tx S n (b + 1))) rfl rfl (Nat.le_of_ble_eq_true rfl) (by decide) dX8_readJump_48 (fun x48_6 M48_6 h48_6 => ?_)
    rw [h48_6.1, h48_6.2]
    refine k_istoren C [1, 2, 0] [(0, .ref (sk_ad O k)), (1, .int xq), (2, .int (tk (tx S n (b + 1))))] dX8_readJump_51 (by decide) rfl ?_
    refine k_iloadn C 2 dX8_readJump_52 rfl ?_
    refine k_iconst C (-1) dX8_readJump_53 (by decide) ?_
    refine k_cne C 59 dX8_readJump_54 (by decide) (fun c54_7 => ?_) (fun c54_7 => ?_)
    ·
      refine k_aloadn C 0 dX8_readJump_59 rfl ?_
      refine k_dup C dX8_readJump_60 rfl ?_
      refine k_geti C (j := 21) kcl_X8 fl_X8_168 hk.1 (by decide) rfl dX8_readJump_61 ?_
      refine k_top (nI (b + 1)) (by rw [sk_sm]) ?_
      refine k_iconst C (1) dX8_readJump_64 (by decide) ?_
      refine k_iadd C dX8_readJump_65 ?_
      refine k_top (nI (b + 2)) (sk_nadd (b := 1) (a := b + 1) rfl rfl) ?_
      refine k_puti C (j := 21) (ty := .int) tyX8 kcl_X8 tyX8_ok nmX8 fl_X8_168 hk.1 (by decide) rfl rfl (by decide +kernel) rfl rfl dX8_readJump_66 ?_
      refine k_aloadn C 0 dX8_readJump_69 rfl ?_
      refine k_getr C (j := 9) (k' := k + 7) kcl_X8 fl_X8_29 hk.1 (by decide) rfl dX8_readJump_70 ?_
      refine k_iloadn C 1 dX8_readJump_73 rfl ?_
      refine k_iloadn C 2 dX8_readJump_74 rfl ?_
      refine k_iast C q hk.2.2.2.2.2.2.2.1 hxq (by omega) dX8_readJump_75 ?_
      refine k_aloadn C 0 dX8_readJump_76 rfl ?_
      refine k_getr C (j := 9) (k' := k + 7) kcl_X8 fl_X8_29 hk.1 (by decide) rfl dX8_readJump_77 ?_
      refine k_iloadn C 1 dX8_readJump_80 rfl ?_
      refine k_iconst C (2) dX8_readJump_81 (by decide) ?_
      refine k_iadd C dX8_readJump_82 ?_
      refine k_aloadn C 0 dX8_readJump_83 rfl ?_
      refine k_bipush C (60) dX8_readJump_84 (by decide) ?_
      refine k_vi C (as := [.int (60)]) yvX8_passes viX8_passes ml_X8_182 (m_X8_passes l C.2.2.2.1 (sk_ms (sk_ms (sk_ms (sk_ms M (k + 7) (q + 1) ((tx S n b) - (48))) k 21 (nI (b + 1))) k 21 (nI (b + 2))) (k + 7) q (tk (tx S n (b + 1)))) (k := k) (n := n) (b := b + 2) (S := S) (hk := hk) (hS := (by rw [sk_nf (by omega), sk_nf (by omega), sk_nf (by omega), sk_nf (by omega)]; exact hS)) (hn := (by rw [sk_ne (by omega), sk_ne (by omega), sk_ne (by omega), sk_ne (by omega)]; exact hn)) (hb := (by rw [sk_ne (by omega)]; exact sk_sm)) (hn2 := hn2) (hb2 := (by omega)) (c := (60))) hk.1 rfl rfl rfl (Nat.le_of_ble_eq_true rfl) (by decide) dX8_readJump_86 (fun x86_8 M86_8 h86_8 => ?_)
      rcases h86_8 with ⟨q86, rfl, rfl⟩ | ⟨q86, rfl, rfl⟩
      ·
        refine k_zeq C 96 dX8_readJump_89 (by decide) (fun c89_9 => ?_) (fun c89_9 => ?_)
        ·
          exact absurd c89_9 (by decide)
        ·
          refine k_iconst C (1) dX8_readJump_92 (by decide) ?_
          refine k_goto C 130 dX8_readJump_93 (by decide) ?_
          refine k_iast C (q + 2) hk.2.2.2.2.2.2.2.1 (sk_nadd hxq (rfl : ((2) : Int32) = nI 2)) (by omega) dX8_readJump_130 ?_
          refine k_iconst C (1) dX8_readJump_131 (by decide) ?_
          exact ret _ _ _ _ dX8_readJump_132 rfl (by exact rj_1 (s := tx S n) ((dg_j (tx_r hr b)).mp nc14_3) c54_7 (by simp [tc, q86]) (by decide))
      ·
        refine k_zeq C 96 dX8_readJump_89 (by decide) (fun c89_10 => ?_) (fun c89_10 => ?_)
        ·
          refine k_aloadn C 0 dX8_readJump_96 rfl ?_
          refine k_bipush C (33) dX8_readJump_97 (by decide) ?_
          refine k_vi C (as := [.int (33)]) yvX8_passes viX8_passes ml_X8_182 (m_X8_passes l C.2.2.2.1 (sk_ms (sk_ms (sk_ms (sk_ms M (k + 7) (q + 1) ((tx S n b) - (48))) k 21 (nI (b + 1))) k 21 (nI (b + 2))) (k + 7) q (tk (tx S n (b + 1)))) (k := k) (n := n) (b := b + 2) (S := S) (hk := hk) (hS := (by rw [sk_nf (by omega), sk_nf (by omega), sk_nf (by omega), sk_nf (by omega)]; exact hS)) (hn := (by rw [sk_ne (by omega), sk_ne (by omega), sk_ne (by omega), sk_ne (by omega)]; exact hn)) (hb := (by rw [sk_ne (by omega)]; exact sk_sm)) (hn2 := hn2) (hb2 := (by omega)) (c := (33))) hk.1 rfl rfl rfl (Nat.le_of_ble_eq_true rfl) (by decide) dX8_readJump_99 (fun x99_11 M99_11 h99_11 => ?_)
          rcases h99_11 with ⟨q102, rfl, rfl⟩ | ⟨q102, rfl, rfl⟩
          ·
            refine k_zeq C 109 dX8_readJump_102 (by decide) (fun c102_12 => ?_) (fun c102_12 => ?_)
            ·
              exact absurd c102_12 (by decide)
            ·
              refine k_iconst C (2) dX8_readJump_105 (by decide) ?_
              refine k_goto C 130 dX8_readJump_106 (by decide) ?_
              refine k_iast C (q + 2) hk.2.2.2.2.2.2.2.1 (sk_nadd hxq (rfl : ((2) : Int32) = nI 2)) (by omega) dX8_readJump_130 ?_
              refine k_iconst C (1) dX8_readJump_131 (by decide) ?_
              exact ret _ _ _ _ dX8_readJump_132 rfl (by exact rj_1 (s := tx S n) ((dg_j (tx_r hr b)).mp nc14_3) c54_7 (by simp [tc, q86, q102]) (by decide))
          ·
            refine k_zeq C 109 dX8_readJump_102 (by decide) (fun c102_13 => ?_) (fun c102_13 => ?_)
            ·
              refine k_iloadn C 2 dX8_readJump_109 rfl ?_
              refine k_si C (as := [.int (tk (tx S n (b + 1)))]) yvX8_hasEdge vsX8_hasEdge ml_X8_185 (m_X8_hasEdge l C.2.2.2.1 (sk_ms (sk_ms (sk_ms (sk_ms M (k + 7) (q + 1) ((tx S n b) - (48))) k 21 (nI (b + 1))) k 21 (nI (b + 2))) (k + 7) q (tk (tx S n (b + 1)))) (x := tk (tx S n (b + 1)))) rfl rfl (Nat.le_of_ble_eq_true rfl) (by decide) dX8_readJump_110 (fun x110_14 M110_14 h110_14 => ?_)
              rw [h110_14.1, h110_14.2]
              refine k_zeq C 129 dX8_readJump_113 (by decide) (fun c113_15 => ?_) (fun c113_15 => ?_)
              ·
                have nc113_15 : ¬ ((tk (tx S n (b + 1))) = 3 ∨ (tk (tx S n (b + 1))) = 4) := sk_b1.mp c113_15
                refine k_iconst C (0) dX8_readJump_129 (by decide) ?_
                refine k_iast C (q + 2) hk.2.2.2.2.2.2.2.1 (sk_nadd hxq (rfl : ((2) : Int32) = nI 2)) (by omega) dX8_readJump_130 ?_
                refine k_iconst C (1) dX8_readJump_131 (by decide) ?_
                exact ret _ _ _ _ dX8_readJump_132 rfl (by exact rj_0 (s := tx S n) ((dg_j (tx_r hr b)).mp nc14_3) c54_7 (by rw [tc, if_neg q86, if_neg q102, if_neg nc113_15]; exact ite_self _))
              ·
                have nc113_15 : (tk (tx S n (b + 1))) = 3 ∨ (tk (tx S n (b + 1))) = 4 := Classical.byContradiction (fun h => c113_15 (sk_b1.mpr h))
                refine k_aloadn C 0 dX8_readJump_116 rfl ?_
                refine k_bipush C (101) dX8_readJump_117 (by decide) ?_
                refine k_vi C (as := [.int (101)]) yvX8_passes viX8_passes ml_X8_182 (m_X8_passes l C.2.2.2.1 (sk_ms (sk_ms (sk_ms (sk_ms M (k + 7) (q + 1) ((tx S n b) - (48))) k 21 (nI (b + 1))) k 21 (nI (b + 2))) (k + 7) q (tk (tx S n (b + 1)))) (k := k) (n := n) (b := b + 2) (S := S) (hk := hk) (hS := (by rw [sk_nf (by omega), sk_nf (by omega), sk_nf (by omega), sk_nf (by omega)]; exact hS)) (hn := (by rw [sk_ne (by omega), sk_ne (by omega), sk_ne (by omega), sk_ne (by omega)]; exact hn)) (hb := (by rw [sk_ne (by omega)]; exact sk_sm)) (hn2 := hn2) (hb2 := (by omega)) (c := (101))) hk.1 rfl rfl rfl (Nat.le_of_ble_eq_true rfl) (by decide) dX8_readJump_119 (fun x119_16 M119_16 h119_16 => ?_)
                rcases h119_16 with ⟨q122, rfl, rfl⟩ | ⟨q122, rfl, rfl⟩
                ·
                  refine k_zeq C 129 dX8_readJump_122 (by decide) (fun c122_17 => ?_) (fun c122_17 => ?_)
                  ·
                    exact absurd c122_17 (by decide)
                  ·
                    refine k_iconst C (3) dX8_readJump_125 (by decide) ?_
                    refine k_goto C 130 dX8_readJump_126 (by decide) ?_
                    refine k_iast C (q + 2) hk.2.2.2.2.2.2.2.1 (sk_nadd hxq (rfl : ((2) : Int32) = nI 2)) (by omega) dX8_readJump_130 ?_
                    refine k_iconst C (1) dX8_readJump_131 (by decide) ?_
                    exact ret _ _ _ _ dX8_readJump_132 rfl (by exact rj_1 (s := tx S n) ((dg_j (tx_r hr b)).mp nc14_3) c54_7 (by rw [tc, if_neg q86, if_neg q102, if_pos q122, if_pos nc113_15]) (by decide))
                ·
                  refine k_zeq C 129 dX8_readJump_122 (by decide) (fun c122_18 => ?_) (fun c122_18 => ?_)
                  ·
                    refine k_iconst C (0) dX8_readJump_129 (by decide) ?_
                    refine k_iast C (q + 2) hk.2.2.2.2.2.2.2.1 (sk_nadd hxq (rfl : ((2) : Int32) = nI 2)) (by omega) dX8_readJump_130 ?_
                    refine k_iconst C (1) dX8_readJump_131 (by decide) ?_
                    exact ret _ _ _ _ dX8_readJump_132 rfl (by exact rj_0 (s := tx S n) ((dg_j (tx_r hr b)).mp nc14_3) c54_7 (by rw [tc, if_neg q86, if_neg q102, if_neg q122]))
                  ·
                    exact absurd c122_18 (by decide)
            ·
              exact absurd c102_13 (by decide)
        ·
          exact absurd c89_10 (by decide)
    ·
      refine k_iconst C (0) dX8_readJump_57 (by decide) ?_
      exact ret _ _ _ _ dX8_readJump_58 rfl (by exact Or.inl ⟨b + 1, by rw [tj, if_neg ((dg_j (tx_r hr b)).mp nc14_3), if_pos c54_7], rfl, sk_sm, mt_f.s (mt_f.w mt_f.r)⟩)
  ·
    have nc14_3 : ¬ (¬ ((tx S n b).toInt64) < (49) ∧ ¬ (52) < ((tx S n b).toInt64)) := sk_b1.mp c14_3
    refine k_iconst C (0) dX8_readJump_17 (by decide) ?_
    exact ret _ _ _ _ dX8_readJump_18 rfl (by exact Or.inl ⟨b, by rw [tj, if_pos (Classical.byContradiction (fun h => nc14_3 ((dg_j (tx_r hr b)).mpr h)))], rfl, hb, mt_f.r⟩)

