/-! The two sides: places -/
theorem rk_e {M : sk_M} {k f c m : Nat} {r : Nat → Int32} (hkf : k + 3 ≤ f ∨ f + 43 ≤ k) (hcf : c + 9 ≤ f ∨ f + 43 ≤ c) (hkc : k + 3 ≤ c ∨ c + 9 ≤ k) (R : rl_s M f r m) : ∀ s, s ≤ m → ∀ i, i < s → rk_l M k f c s (k + 1) i = mo_T r i ∧ rk_l M k f c s (k + 2) i = mo_S r i
  | 0, _, i, h => absurd h (Nat.not_lt_zero _)
  | s + 1, hs, i, hi => by
    have h4 := R.1
    have W := rl_ra (M := rk_l M k f c s) (c := c) (g := f + 3 + 10 * s) (u := f + 2) (s := s) (r := r) (by omega) (by omega) (fun j hj => by rw [rk_l_f (by omega) (by omega)]; exact R.2.2.2.1 j hj) ((R.2.2.2.2 s (by omega)).c (fun x hx => rk_l_f (by omega) (by omega) _))
    unfold rk_l
    by_cases q : i = s
    · subst q
      refine ⟨?_, ?_⟩
      · rw [sk_ne (by omega), sk_sm]; exact W.2.2.2.2.1
      · rw [sk_sm]; exact W.2.1
    · have ih := rk_e hkf hcf hkc R s (by omega) i (by omega)
      rw [sk_ne (by omega), sk_ne (by omega), sk_ne (by omega), sk_ne (by omega), sc_ra_f (by omega), sc_ra_f (by omega)]
      exact ih
theorem ah_a {N : sk_M} {k a b : Nat} : sd_ah N k a b ↔ mp_a (N (k + 1)) (N (k + 2)) a b := by
  unfold sd_ah mp_a
  by_cases h : N (k + 1) a = N (k + 1) b
  · rw [if_pos h]
    by_cases g : N (k + 2) a = N (k + 2) b
    · rw [if_pos g]
      exact ⟨fun z => Or.inr ⟨h, Or.inr ⟨g, z⟩⟩, fun z => z.elim (fun w => by rw [h] at w; exact absurd w Int32.lt_irrefl) (fun w => w.2.elim (fun v => by rw [g] at v; exact absurd v Int32.lt_irrefl) (fun v => v.2))⟩
    · rw [if_neg g]
      exact ⟨fun z => Or.inr ⟨h, Or.inl z⟩, fun z => z.elim (fun w => by rw [h] at w; exact absurd w Int32.lt_irrefl) (fun w => w.2.elim (fun v => v) (fun v => absurd v.1 g))⟩
  · rw [if_neg h]
    exact ⟨fun z => Or.inl z, fun z => z.elim (fun w => w) (fun w => absurd w.1 h)⟩
theorem cn_c {N : sk_M} {k s : Nat} : ∀ n, sd_cn N k s n = mp_c (N (k + 1)) (N (k + 2)) s n
  | 0 => rfl
  | n + 1 => by
    unfold sd_cn mp_c
    rw [cn_c n]
    by_cases h : n = s
    · rw [if_neg (fun z => z.1 h), if_neg (by rw [h]; exact mp_a_i)]
    · by_cases g : mp_a (N (k + 1)) (N (k + 2)) n s
      · rw [if_pos ⟨h, ah_a.mpr g⟩, if_pos g]
      · rw [if_neg (fun z => g (ah_a.mp z.2)), if_neg g]
theorem fn_w {N : sk_M} {k : Nat} : ∀ n, sd_fn N k n = mo_w (N (k + 1)) (N (k + 2)) n
  | 0 => rfl
  | n + 1 => by
    unfold sd_fn mo_w
    rw [fn_w n]
    by_cases g : mp_a (N (k + 1)) (N (k + 2)) n (mo_w (N (k + 1)) (N (k + 2)) n)
    · rw [if_pos (ah_a.mpr g), if_pos g]
    · rw [if_neg (fun z => g (ah_a.mp z)), if_neg g]
theorem rk_pl {M : sk_M} {k f c m s : Nat} {r : Nat → Int32} (hkf : k + 3 ≤ f ∨ f + 43 ≤ k) (hcf : c + 9 ≤ f ∨ f + 43 ≤ c) (hkc : k + 3 ≤ c ∨ c + 9 ≤ k) (R : rl_s M f r m) (hs : s < m) : sd_cn (sd_rk M k f c) k s m = mo_pl r s m := by
  have h := rk_e hkf hcf hkc R m (Nat.le_refl _)
  rw [cn_c]
  unfold sd_rk
  rw [R.n]
  exact mp_c_c h (h s hs)
theorem rk_fv {M : sk_M} {k f c m : Nat} {r : Nat → Int32} (hkf : k + 3 ≤ f ∨ f + 43 ≤ k) (hcf : c + 9 ≤ f ∨ f + 43 ≤ c) (hkc : k + 3 ≤ c ∨ c + 9 ≤ k) (R : rl_s M f r m) : sd_fv (sd_rk M k f c) k m = mo_fv r m ∧ sd_fn (sd_rk M k f c) k m = mo_w (mo_T r) (mo_S r) m := by
  have h := rk_e hkf hcf hkc R m (Nat.le_refl _)
  have e : sd_fn (sd_rk M k f c) k m = mo_w (mo_T r) (mo_S r) m := by
    rw [fn_w]
    unfold sd_rk
    rw [R.n]
    exact mo_w_c m h
  refine ⟨?_, e⟩
  unfold sd_fv mo_fv
  rw [e]
theorem rk_T {M : sk_M} {k f c m s : Nat} {r : Nat → Int32} (hkf : k + 3 ≤ f ∨ f + 43 ≤ k) (hcf : c + 9 ≤ f ∨ f + 43 ≤ c) (hkc : k + 3 ≤ c ∨ c + 9 ≤ k) (R : rl_s M f r m) (hs : s < m) : sd_rk M k f c (k + 1) s = mo_T r s ∧ sd_rk M k f c (k + 2) s = mo_S r s := by
  unfold sd_rk
  rw [R.n]
  exact rk_e hkf hcf hkc R m (Nat.le_refl _) s hs
/-- one element changes -/
theorem rl_p.el {M N : sk_M} {g s e : Nat} {r r' : Nat → Int32} (R : rl_p M g r s) (h0 : ∀ j, N g j = M g j) (h9 : ∀ j, N (g + 9) j = M (g + 9) j) (h1 : ∀ x z, 1 ≤ x → x ≤ 5 → z ≠ e → N (g + x) z = M (g + x) z) (h6 : ∀ x y, 6 ≤ x → x ≤ 8 → (y < 3 * e ∨ 3 * e + 3 ≤ y) → N (g + x) y = M (g + x) y)
    (hr : ∀ y, (y < 23 + 233 * s + 18 * e ∨ 23 + 233 * s + 18 * e + 18 ≤ y) → r' y = r y) (hE : e < mo_c r s → rl_e N g r' s e) : rl_p N g r' s := by
  have hc12 := R.n.2.2.1
  by_cases hin : e < 12
  · obtain ⟨n, hn, h9', hr9, h10, hc, hR⟩ := id R
    refine ⟨n, hn, by rw [h0]; exact h9', by rw [hr _ (by omega)]; exact hr9, by rw [h0, hr _ (by omega)]; exact h10, fun j hj => by rw [h9, mo_oc_c (fun i hi => hr _ (by omega))]; exact hc j hj, fun z hz => ?_⟩
    by_cases q : z = e
    · subst q
      exact hE (by have e2 : mo_c r s = n := by { show (r _).toNatClampNeg = n; rw [hr9, nI_clamp (by omega)] }; omega)
    · exact ((hR z hz).r (fun y a b => hr y (by rcases Nat.lt_or_ge z e with w | w <;> omega))).m (by omega) (fun x a b => h1 x z a b q) (fun x y a b hy => h6 x _ a b (by rcases Nat.lt_or_ge z e with w | w <;> omega))
  · obtain ⟨n, hn, h9', hr9, h10, hc, hR⟩ := id R
    refine ⟨n, hn, by rw [h0]; exact h9', by rw [hr _ (by omega)]; exact hr9, by rw [h0, hr _ (by omega)]; exact h10, fun j hj => by rw [h9, mo_oc_c (fun i hi => hr _ (by omega))]; exact hc j hj, fun z hz => ?_⟩
    exact ((hR z hz).r (fun y a b => hr y (by omega))).m (by omega) (fun x a b => h1 x z a b (by omega)) (fun x y a b hy => h6 x _ a b (by omega))
theorem rl_p.call {M : sk_M} {g s e p v : Nat} {r : Nat → Int32} (R : rl_p M g r s) (he : e < mo_c r s) (hp : p < mo_n r s e) (hv : v ≤ 3) (hy : mo_ty r s e = 0) : rl_p (sk_ms M (g + 8) (3 * e + p) (nI v)) g (mu_u r (25 + 233 * s + 18 * e + 3 * p + 2) (nI v)) s := by
  have hn := (R.E he).n
  refine R.el (e := e) (fun j => sk_ne (by omega)) (fun j => sk_ne (by omega)) (fun x z _ _ _ => sk_ne (by omega)) (fun x y _ _ hy => sk_ne (by omega)) (fun y hy => mu_n (by omega)) (fun _ => ?_)
  obtain ⟨r1, rk, rj, rf, rv, q, hp3, r2, r3, ry, r6⟩ := R.E he
  have e2 : mo_n r s e = q := by show (mo_np r s e).toNatClampNeg = q; rw [r3, nI_clamp (by omega)]
  have hkd : ∀ z, z < 3 → mo_kd (mu_u r (25 + 233 * s + 18 * e + 3 * p + 2) (nI v)) s e z = mo_kd r s e z := fun z hz => mu_n (by omega)
  have htu : ∀ z, z < 3 → mo_tu (mu_u r (25 + 233 * s + 18 * e + 3 * p + 2) (nI v)) s e z = mo_tu r s e z := fun z hz => mu_n (by omega)
  have hca : ∀ z, z ≠ p → mo_ca (mu_u r (25 + 233 * s + 18 * e + 3 * p + 2) (nI v)) s e z = mo_ca r s e z := fun z hz => mu_n (by omega)
  have hcp : mo_ca (mu_u r (25 + 233 * s + 18 * e + 3 * p + 2) (nI v)) s e p = nI v := mu_y
  have hty : mo_ty (mu_u r (25 + 233 * s + 18 * e + 3 * p + 2) (nI v)) s e = mo_ty r s e := mu_n (by omega)
  refine ⟨by rw [sk_ne (by omega), hty]; exact r1, by rw [sk_ne (by omega), rk]; exact (mo_k5_c (fun i hi => mu_n (by omega))).symm, by rw [sk_ne (by omega)]; exact rj, by rw [sk_ne (by omega), mu_n (by omega)]; exact rf, by rw [sk_ne (by omega), mu_n (by omega)]; exact rv, q, hp3, by rw [sk_ne (by omega)]; exact r2, (mu_n (by omega)).trans r3, ?_, fun z hz => ?_⟩
  · refine Or.inl ⟨by rw [hty]; exact hy, fun z hz => ?_⟩
    rcases ry with ⟨-, y2⟩ | ⟨y1, -, -⟩
    · obtain ⟨a, t, ca, ha, ht, ht4, hc, ek, et, ec⟩ := y2 z hz
      by_cases w : z = p
      · subst w
        exact ⟨a, t, v, ha, ht, ht4, hv, by rw [hkd z (by omega)]; exact ek, by rw [htu z (by omega)]; exact et, hcp⟩
      · exact ⟨a, t, ca, ha, ht, ht4, hc, by rw [hkd z (by omega)]; exact ek, by rw [htu z (by omega)]; exact et, by rw [hca z w]; exact ec⟩
    · rw [hy] at y1; exact absurd y1 (by decide)
  · obtain ⟨z6, z7, z8⟩ := r6 z hz
    refine ⟨by rw [sk_ne (by omega), hkd z (by omega)]; exact z6, by rw [sk_ne (by omega), htu z (by omega)]; exact z7, ?_⟩
    by_cases w : z = p
    · subst w; rw [sk_sm, hcp]
    · rw [sk_ne (by omega), hca z w]; exact z8
theorem rl_p.cell {M : sk_M} {g s e x d : Nat} {v : Int32} {r : Nat → Int32} (hx : (x = 4 ∧ d = 16) ∨ (x = 5 ∧ d = 17)) (R : rl_p M g r s) : rl_p (sk_ms M (g + x) e v) g (mu_u r (23 + 233 * s + 18 * e + d) v) s := by
  refine R.el (e := e) (fun j => sk_ne (by omega)) (fun j => sk_ne (by omega)) (fun y z _ _ _ => sk_ne (by omega)) (fun y z _ _ _ => sk_ne (by omega)) (fun y hy => mu_n (by omega)) (fun he => ?_)
  obtain ⟨r1, rk, rj, rf, rv, q, hp3, r2, r3, ry, r6⟩ := R.E he
  have hk : ∀ y, y < 11 → mu_u r (23 + 233 * s + 18 * e + d) v (23 + 233 * s + 18 * e + y) = r (23 + 233 * s + 18 * e + y) := fun y hy => mu_n (by omega)
  have hcells : ∀ z, z < 3 → mo_kd (mu_u r (23 + 233 * s + 18 * e + d) v) s e z = mo_kd r s e z ∧ mo_tu (mu_u r (23 + 233 * s + 18 * e + d) v) s e z = mo_tu r s e z ∧ mo_ca (mu_u r (23 + 233 * s + 18 * e + d) v) s e z = mo_ca r s e z := fun z hz => ⟨mu_n (by omega), mu_n (by omega), mu_n (by omega)⟩
  have hty : mo_ty (mu_u r (23 + 233 * s + 18 * e + d) v) s e = mo_ty r s e := mu_n (by omega)
  refine ⟨by rw [sk_ne (by omega), hty]; exact r1, by rw [sk_ne (by omega), rk]; exact (mo_k5_c (fun i hi => mu_n (by omega))).symm, by rw [sk_ne (by omega)]; exact rj, ?_, ?_, q, hp3, by rw [sk_ne (by omega)]; exact r2, (mu_n (by omega)).trans r3, ?_, fun z hz => ?_⟩
  · rcases hx with ⟨rfl, rfl⟩ | ⟨rfl, rfl⟩
    · rw [sk_sm, mu_y]
    · rw [sk_ne (by omega), mu_n (by omega)]; exact rf
  · rcases hx with ⟨rfl, rfl⟩ | ⟨rfl, rfl⟩
    · rw [sk_ne (by omega), mu_n (by omega)]; exact rv
    · rw [sk_sm, mu_y]
  · unfold rl_y
    rw [hty]
    rcases ry with ⟨y1, y2⟩ | ⟨y1, y2, y3⟩
    · refine Or.inl ⟨y1, fun z hz => ?_⟩
      rw [(hcells z (by omega)).1, (hcells z (by omega)).2.1, (hcells z (by omega)).2.2]; exact y2 z hz
    · refine Or.inr ⟨y1, y2, fun z hz => ?_⟩
      rw [(hcells z (by omega)).2.1]; exact y3 z hz
  · rw [sk_ne (by omega), sk_ne (by omega), sk_ne (by omega), (hcells z (by omega)).1, (hcells z (by omega)).2.1, (hcells z (by omega)).2.2]
    exact r6 z hz
theorem rl_p.kern {M : sk_M} {g s e : Nat} {v w : Int32} {r : Nat → Int32} (hv : v = mo_ke (my_w r (23 + 233 * s + 18 * e + 11) w 11 5 5) (23 + 233 * s + 18 * e + 11)) (hj : ∃ j : Nat, j ≤ 30 ∧ v = nI j - 15) (R : rl_p M g r s) : rl_p (sk_ms M (g + 3) e v) g (my_w r (23 + 233 * s + 18 * e + 11) w 11 5 5) s := by
  refine R.el (e := e) (fun j => sk_ne (by omega)) (fun j => sk_ne (by omega)) (fun y z _ _ _ => sk_ne (by omega)) (fun y z _ _ _ => sk_ne (by omega)) (fun y hy => my_w_n (by omega) 5) (fun he => ?_)
  obtain ⟨r1, rk, rj, rf, rv, q, hp3, r2, r3, ry, r6⟩ := R.E he
  have hcells : ∀ z, z < 3 → mo_kd (my_w r (23 + 233 * s + 18 * e + 11) w 11 5 5) s e z = mo_kd r s e z ∧ mo_tu (my_w r (23 + 233 * s + 18 * e + 11) w 11 5 5) s e z = mo_tu r s e z ∧ mo_ca (my_w r (23 + 233 * s + 18 * e + 11) w 11 5 5) s e z = mo_ca r s e z := fun z hz => ⟨my_w_n (by omega) 5, my_w_n (by omega) 5, my_w_n (by omega) 5⟩
  have hty : mo_ty (my_w r (23 + 233 * s + 18 * e + 11) w 11 5 5) s e = mo_ty r s e := my_w_n (by omega) 5
  refine ⟨by rw [sk_ne (by omega), hty]; exact r1, by rw [sk_sm]; exact hv, by rw [sk_sm]; exact hj, by rw [sk_ne (by omega), my_w_n (by omega) 5]; exact rf, by rw [sk_ne (by omega), my_w_n (by omega) 5]; exact rv, q, hp3, by rw [sk_ne (by omega)]; exact r2, (my_w_n (by omega) 5).trans r3, ?_, fun z hz => ?_⟩
  · unfold rl_y
    rw [hty]
    rcases ry with ⟨y1, y2⟩ | ⟨y1, y2, y3⟩
    · refine Or.inl ⟨y1, fun z hz => ?_⟩
      rw [(hcells z (by omega)).1, (hcells z (by omega)).2.1, (hcells z (by omega)).2.2]; exact y2 z hz
    · refine Or.inr ⟨y1, y2, fun z hz => ?_⟩
      rw [(hcells z (by omega)).2.1]; exact y3 z hz
  · rw [sk_ne (by omega), sk_ne (by omega), sk_ne (by omega), (hcells z (by omega)).1, (hcells z (by omega)).2.1, (hcells z (by omega)).2.2]
    exact r6 z hz
theorem rl_p.comp {M : sk_M} {g s j : Nat} {v w : Int32} {r : Nat → Int32} (hj : j < 3) (hv : v = mo_oc (my_w r (6 + 233 * s + 2 + 5 * j) w 41 0 5) s j) (R : rl_p M g r s) : rl_p (sk_ms M (g + 9) j v) g (my_w r (6 + 233 * s + 2 + 5 * j) w 41 0 5) s := by
  obtain ⟨n, hn, h9, hr, h10, hc, hR⟩ := R
  refine ⟨n, hn, by rw [sk_ne (by omega)]; exact h9, by rw [my_w_n (by omega) 5]; exact hr, by rw [sk_ne (by omega), my_w_n (by omega) 5]; exact h10, fun i hi => ?_, fun e he => ((hR e he).r (fun y a b => my_w_n (by omega) 5)).m (by omega) (fun x a b => sk_ne (by omega)) (fun x q a b c => sk_ne (by omega))⟩
  · by_cases q : i = j
    · subst q; rw [sk_sm]; exact hv
    · rw [sk_ne (Or.inr q), mo_oc_c (r := r) (fun z hz => my_w_n (by rcases Nat.lt_or_ge i j with w | w <;> omega) 5)]
      exact hc i hi
theorem rl_p.pts {M : sk_M} {g s : Nat} {v : Int32} {r : Nat → Int32} (R : rl_p M g r s) : rl_p (sk_ms M g 10 v) g (mu_u r (6 + 233 * s + 1) v) s := by
  obtain ⟨n, hn, h9, hr, h10, hc, hR⟩ := R
  exact ⟨n, hn, by rw [sk_ne (by omega)]; exact h9, by rw [mu_n (by omega)]; exact hr, by rw [sk_sm, mu_y], fun i hi => by rw [sk_ne (by omega), mo_oc_c (fun z hz => mu_n (by omega))]; exact hc i hi, fun e he => ((hR e he).r (fun y a b => mu_n (by omega))).m (by omega) (fun x a b => sk_ne (by omega)) (fun x q a b c => sk_ne (by omega))⟩
