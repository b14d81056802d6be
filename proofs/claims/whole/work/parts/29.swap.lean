/-! SkateSheet: the best exchange -/
abbrev bs_S : Type := sk_M × Int32 × Int32 × Int32
def bs_t (N : sk_M) (k : Nat) : Int32 := N (k + 738) 14 + N (k + 738) 15 - N (k + 738) 16
def bs_s (k g i j : Nat) (z : bs_S) : bs_S := if z.2.2.1 = -1 ∨ z.2.1 < bs_t (x_sm z.1 k g i j) k then (x_sm z.1 k g i j, bs_t (x_sm z.1 k g i j) k, nI i, nI j) else (x_sm z.1 k g i j, z.2.1, z.2.2.1, z.2.2.2)
def bs_j (k g i : Nat) (z : bs_S) : Nat → bs_S
  | 0 => z
  | d + 1 => bs_s k g i (i + 1 + d) (bs_j k g i z d)
def bs_o (k g n : Nat) (z : bs_S) : Nat → bs_S
  | 0 => z
  | i + 1 => bs_j k g i (bs_o k g n z i) (n - (i + 1))
/-- what stays: the draft is a program, all else but scoring is as it was -/
def bs_w (M : sk_M) (k : Nat) (N : sk_M) : Prop := pg_wf N (k + 794) ∧ ∀ a, (a < k + 738 ∨ k + 747 ≤ a) → (a < k + 794 ∨ k + 804 ≤ a) → N a = M a
theorem x_sm_f {M : sk_M} {k g i j a : Nat} (h : a < k + 738 ∨ k + 747 ≤ a) (h2 : a < k + 794 ∨ k + 804 ≤ a) : x_sm M k g i j a = M a := by
  unfold x_sm x_sw
  rw [pg_te_f (by omega), pg_te_f (by omega), sc_ra_f (by omega), pg_te_f (by omega), pg_te_f (by omega)]
theorem bs_w1 {M N : sk_M} {k g i j : Nat} (hap : g + 10 ≤ k + 738) (hg : pg_wf M g) (hi : ∃ p : Nat, p ≤ 3 ∧ M (g + 2) i = nI p) (hj : ∃ p : Nat, p ≤ 3 ∧ M (g + 2) j = nI p) (h : bs_w M k N) : pg_wf (pg_te (pg_te N (k + 794) i g j) (k + 794) j g i) (k + 794) := by
  have h2 : N (g + 2) = M (g + 2) := h.2 _ (by omega) (by omega)
  refine pg_wf_te (by omega) ?_ (pg_wf_te (by omega) ?_ h.1)
  · rw [pg_te_f (by omega), h2]; exact hi
  · rw [h2]; exact hj
theorem bs_w2 {M N : sk_M} {k g i j : Nat} (hap : g + 10 ≤ k + 738) (hg : pg_wf M g) (hi : ∃ p : Nat, p ≤ 3 ∧ M (g + 2) i = nI p) (hj : ∃ p : Nat, p ≤ 3 ∧ M (g + 2) j = nI p) (h : bs_w M k N) : bs_w M k (x_sm N k g i j) := by
  have h2 : N (g + 2) = M (g + 2) := h.2 _ (by omega) (by omega)
  refine ⟨?_, fun a h3 h4 => by rw [x_sm_f h3 h4]; exact h.2 a h3 h4⟩
  unfold x_sm
  have h5 := bs_w1 hap hg hi hj h
  have h6 : pg_wf (x_sw N k g i j) (k + 794) := pg_wf_c (sc_ra_f (by omega)) (sc_ra_f (by omega)) h5
  have h7 : x_sw N k g i j (g + 2) = M (g + 2) := by
    unfold x_sw
    rw [sc_ra_f (by omega), pg_te_f (by omega), pg_te_f (by omega), h2]
  refine pg_wf_te (by omega) ?_ (pg_wf_te (by omega) ?_ h6)
  · rw [pg_te_f (by omega), h7]; exact hj
  · rw [h7]; exact hi
theorem bs_w3 {M : sk_M} {k g i j : Nat} {z : bs_S} (hap : g + 10 ≤ k + 738) (hg : pg_wf M g) (hi : ∃ p : Nat, p ≤ 3 ∧ M (g + 2) i = nI p) (hj : ∃ p : Nat, p ≤ 3 ∧ M (g + 2) j = nI p) (h : bs_w M k z.1) : bs_w M k (bs_s k g i j z).1 := by
  unfold bs_s
  split <;> exact bs_w2 hap hg hi hj h
theorem bs_w4 {M : sk_M} {k g i n : Nat} {z : bs_S} (hap : g + 10 ≤ k + 738) (hg : pg_wf M g) (hp : ∀ e, e < n → ∃ p : Nat, p ≤ 3 ∧ M (g + 2) e = nI p) (hi : i < n) (h : bs_w M k z.1) : ∀ d, d ≤ n - (i + 1) → bs_w M k (bs_j k g i z d).1
  | 0, _ => h
  | d + 1, hd => bs_w3 hap hg (hp i hi) (hp _ (by omega)) (bs_w4 hap hg hp hi h d (by omega))
theorem bs_w5 {M : sk_M} {k g n : Nat} {z : bs_S} (hap : g + 10 ≤ k + 738) (hg : pg_wf M g) (hp : ∀ e, e < n → ∃ p : Nat, p ≤ 3 ∧ M (g + 2) e = nI p) (h : bs_w M k z.1) : ∀ i, i ≤ n → bs_w M k (bs_o k g n z i).1
  | 0, _ => h
  | i + 1, hi => bs_w4 hap hg hp (by omega) (bs_w5 hap hg hp h i (by omega)) _ (Nat.le_refl _)
