/-! The two sides: what is asked -/
theorem ll_e {M : sk_M} {k m : Nat} {r : Nat → Int32} (R : rl_s M (k + 1) r m) {s : Nat} (hs : s < m) : x_ll M k (s + 1) (k + 738) 13 = nI (mo_lq r s (mo_c r s)) := by
  have h4 := R.1
  show sc_ra (x_ll M k s) (k + 738) (k + 1 + 3 + 10 * s) (k + 3) (k + 738) 13 = _
  exact (rl_ra (by omega) (by omega) (fun j hj => by rw [x_ll_f (by omega)]; exact R.2.2.2.1 j hj) ((R.2.2.2.2 s hs).c (fun x hx => x_ll_f (by omega) s))).1
theorem ll_s {f : Nat → Int32} {r : Nat → Int32} : ∀ m, (∀ s, s < m → f s = nI (mo_lq r s (mo_c r s))) → sk_sum f m = nI (mo_la r m)
  | 0, _ => rfl
  | m + 1, h => by
    show sk_sum f m + f m = nI (mo_la r m + mo_lq r m (mo_c r m))
    rw [ll_s m (fun s hs => h s (by omega)), h m (by omega), nI_add]
theorem sums_e {M : sk_M} {f x d m : Nat} {r : Nat → Int32} (hx : (x = 4 ∧ d = 16) ∨ (x = 5 ∧ d = 17)) (R : rl_s M f r m) : sk_sum (fun j => sk_sum (M (f + 3 + 10 * j + x)) (pg_n M (f + 3 + 10 * j))) (st_n M f) = sk_sum (fun s => sk_sum (fun e => r (23 + 233 * s + 18 * e + d)) (mo_c r s)) m := by
  rw [R.n]
  refine sum_c m (fun s hs => ?_)
  have P := R.2.2.2.2 s hs
  show sk_sum (M (f + 3 + 10 * s + x)) (pg_n M (f + 3 + 10 * s)) = sk_sum (fun e => r (23 + 233 * s + 18 * e + d)) (mo_c r s)
  rw [P.n.1]
  refine sum_c _ (fun e he => ?_)
  have E := P.E he
  rcases hx with ⟨rfl, rfl⟩ | ⟨rfl, rfl⟩
  · exact E.2.2.2.1
  · exact E.2.2.2.2.1
theorem sum1_e {M : sk_M} {g s x d : Nat} {r : Nat → Int32} (hx : (x = 4 ∧ d = 16) ∨ (x = 5 ∧ d = 17)) (P : rl_p M g r s) : sk_sum (M (g + x)) (pg_n M g) = sk_sum (fun e => r (23 + 233 * s + 18 * e + d)) (mo_c r s) := by
  rw [P.n.1]
  refine sum_c _ (fun e he => ?_)
  have E := P.E he
  rcases hx with ⟨rfl, rfl⟩ | ⟨rfl, rfl⟩
  · exact E.2.2.2.1
  · exact E.2.2.2.2.1
theorem q_ab {M : sk_M} {k m : Nat} {r : Nat → Int32} {w : Int32} (R : rl_s M (k + 1) r m) : x_ab M k w = mo_ab r m w := by
  have h4 := R.1
  unfold x_ab mo_ab
  by_cases w0 : w = 0
  · rw [if_pos w0, if_pos w0, R.2.1, R.2.2.1]
  · rw [if_neg w0, if_neg w0]
    by_cases w1 : w = 1
    · rw [if_pos w1, if_pos w1]; exact sums_e (Or.inr ⟨rfl, rfl⟩) R
    · rw [if_neg w1, if_neg w1]
      by_cases w2 : w = 2
      · rw [if_pos w2, if_pos w2]; exact sums_e (Or.inl ⟨rfl, rfl⟩) R
      · rw [if_neg w2, if_neg w2]
        by_cases w3 : w = 3
        · rw [if_pos w3, if_pos w3, R.n]; exact sum_c m (fun s hs => (R.2.2.2.2 s hs).n.2.1)
        · rw [if_neg w3, if_neg w3]
          by_cases w4 : w = 4
          · rw [if_pos w4, if_pos w4, R.n]; exact (rk_fv (by omega) (by omega) (by omega) R).1
          · rw [if_neg w4, if_neg w4, R.n]; exact ll_s m (fun s hs => ll_e R hs)
theorem R_w {M : sk_M} {k m : Nat} {s : Int32} {r : Nat → Int32} (R : rl_s M (k + 1) r m) (h : mo_hs r s) : cw (x_R M k (st_pg (k + 1) s)) (k + 738) r s.toNatClampNeg := by
  have h4 := R.1
  have hx := (R.hx h).2
  exact rl_ra (by omega) (by unfold st_pg; omega) R.2.2.2.1 (R.P h)
theorem x_R_R {M : sk_M} {k g m : Nat} {r : Nat → Int32} (R : rl_s M (k + 1) r m) : rl_s (x_R M k g) (k + 1) r m := R.c (fun a h1 h2 => x_R_f (by omega))
theorem q_sk {M : sk_M} {k m : Nat} {s w : Int32} {r : Nat → Int32} (R : rl_s M (k + 1) r m) (h : mo_hs r s) : x_sk M k s w = mo_sk r s.toNatClampNeg m w := by
  have h4 := R.1
  have hx := (R.hx h).2
  have W := R_w R h
  have P := R.P h
  have P2 : rl_p (x_R M k (st_pg (k + 1) s)) (st_pg (k + 1) s) r s.toNatClampNeg := P.c (fun x hx => x_R_f (by unfold st_pg; omega))
  unfold x_sk mo_sk
  by_cases w0 : w = 0
  · rw [if_pos w0, if_pos w0]; exact P2.n.2.1
  · rw [if_neg w0, if_neg w0]
    by_cases w1 : w = 1
    · rw [if_pos w1, if_pos w1]; exact W.2.1
    · rw [if_neg w1, if_neg w1]
      by_cases w2 : w = 2
      · rw [if_pos w2, if_pos w2]; exact W.2.2.1
      · rw [if_neg w2, if_neg w2]
        by_cases w3 : w = 3
        · rw [if_pos w3, if_pos w3]; exact W.2.2.2.1
        · rw [if_neg w3, if_neg w3]
          by_cases w4 : w = 4
          · rw [if_pos w4, if_pos w4]; exact W.2.2.2.2.1
          · rw [if_neg w4, if_neg w4]
            by_cases w5 : w = 5
            · rw [if_pos w5, if_pos w5, R.n]
              exact congrArg nI (rk_pl (by omega) (by omega) (by omega) (x_R_R R) hx)
            · rw [if_neg w5, if_neg w5]
              by_cases w6 : w = 6
              · rw [if_pos w6, if_pos w6]; exact sum1_e (Or.inl ⟨rfl, rfl⟩) P2
              · rw [if_neg w6, if_neg w6]; exact sum1_e (Or.inr ⟨rfl, rfl⟩) P2
theorem q_el {M : sk_M} {k m : Nat} {s e w : Int32} {r : Nat → Int32} (R : rl_s M (k + 1) r m) (h : mo_he r s e) : x_el M k s e w = mo_el r s.toNatClampNeg e.toNatClampNeg w := by
  have h4 := R.1
  have hx := (R.hx h.1).2
  have hex := (R.ex h).2
  have W := (R_w R h.1).2.2.2.2.2.1 _ hex
  have E := R.E h
  have f : ∀ x, x < 10 → x_R M k (st_pg (k + 1) s) (st_pg (k + 1) s + x) = M (st_pg (k + 1) s + x) := fun x hx => x_R_f (by unfold st_pg; omega)
  unfold x_el mo_el
  by_cases w0 : w = 0
  · rw [if_pos w0, if_pos w0, f 1 (by omega)]; exact E.1
  · rw [if_neg w0, if_neg w0]
    by_cases w1 : w = 1
    · rw [if_pos w1, if_pos w1, f 2 (by omega)]; exact E.n.1
    · rw [if_neg w1, if_neg w1]
      by_cases w2 : w = 2
      · rw [if_pos w2, if_pos w2]; exact W.1
      · rw [if_neg w2, if_neg w2]
        by_cases w3 : w = 3
        · rw [if_pos w3, if_pos w3, f 3 (by omega)]; exact E.2.1
        · rw [if_neg w3, if_neg w3]
          by_cases w4 : w = 4
          · rw [if_pos w4, if_pos w4]; exact W.2.2.1
          · rw [if_neg w4, if_neg w4]
            by_cases w5 : w = 5
            · rw [if_pos w5, if_pos w5]
              show x_R M k (st_pg (k + 1) s) (k + 738 + 3) _ + x_R M k (st_pg (k + 1) s) (k + 738 + 5) _ = _
              rw [W.1, W.2.2.1]
            · rw [if_neg w5, if_neg w5]
              by_cases w6 : w = 6
              · rw [if_pos w6, if_pos w6, f 4 (by omega)]; exact E.2.2.2.1
              · rw [if_neg w6, if_neg w6]
                by_cases w7 : w = 7
                · rw [if_pos w7, if_pos w7, f 5 (by omega)]; exact E.2.2.2.2.1
                · rw [if_neg w7, if_neg w7]; exact W.2.2.2
theorem w_04 {w : Int32} (h : ¬ w < 0 ∧ ¬ 4 < w) : w = 0 ∨ w = 1 ∨ w = 2 ∨ w = 3 ∨ w = 4 := by
  have h1 : ¬ w.toInt < 0 := fun z => h.1 (Int32.lt_iff_toInt_lt.mpr z)
  have h2 : ¬ 4 < w.toInt := fun z => h.2 (Int32.lt_iff_toInt_lt.mpr z)
  rcases (show w.toInt = 0 ∨ w.toInt = 1 ∨ w.toInt = 2 ∨ w.toInt = 3 ∨ w.toInt = 4 by omega) with z | z | z | z | z
  · exact Or.inl (Int32.toInt_inj.mp z)
  · exact Or.inr (Or.inl (Int32.toInt_inj.mp z))
  · exact Or.inr (Or.inr (Or.inl (Int32.toInt_inj.mp z)))
  · exact Or.inr (Or.inr (Or.inr (Or.inl (Int32.toInt_inj.mp z))))
  · exact Or.inr (Or.inr (Or.inr (Or.inr (Int32.toInt_inj.mp z))))
theorem q_pa {M : sk_M} {k m : Nat} {s e p w : Int32} {r : Nat → Int32} (R : rl_s M (k + 1) r m) (h : mo_hp r s e p) (hw : ¬ w < 0 ∧ ¬ 4 < w) : x_pa M k s e p w = mo_pa r s.toNatClampNeg e.toNatClampNeg p.toNatClampNeg w := by
  have h4 := R.1
  have hex := (R.ex h.1).2
  have hpx := (R.px h).2
  have W := (R_w R h.1.1).2.2.2.2.2.2 _ _ hex hpx
  have E := (R.E h.1).q hpx
  unfold x_pa mo_pa
  rcases w_04 hw with rfl | rfl | rfl | rfl | rfl
  · rw [if_pos rfl, if_pos (by decide)]; exact E.1
  · rw [if_neg (by decide), if_pos rfl, if_pos (by decide)]; exact E.2.1
  · rw [if_neg (by decide), if_neg (by decide), if_pos rfl, if_pos (by decide)]; exact E.2.2
  · rw [if_neg (by decide), if_neg (by decide), if_neg (by decide), if_pos rfl, if_neg (by decide), if_pos rfl]; exact W.1
  · rw [if_neg (by decide), if_neg (by decide), if_neg (by decide), if_neg (by decide), if_neg (by decide), if_neg (by decide)]; exact W.2
theorem q_be {M : sk_M} {k m : Nat} {s : Int32} {r : Nat → Int32} (R : rl_s M (k + 1) r m) (h : mo_hs r s) : x_be M k s = mo_T r (mo_w (mo_T r) (mo_S r) m) - mo_T r s.toNatClampNeg := by
  have h4 := R.1
  have hx := (R.hx h).2
  have F := rk_fv (k := k + 747) (c := k + 738) (by omega) (by omega) (by omega) R
  have hl := mo_w_lt (T := mo_T r) (S := mo_S r) m (by omega)
  unfold x_be x_RK
  rw [R.n, F.1, F.2, mo_fv, if_neg (show ¬ m = 0 from by omega), if_neg (sk_nm1 (by omega))]
  show sd_rk M (k + 747) (k + 1) (k + 738) (k + 747 + 1) _ - sd_rk M (k + 747) (k + 1) (k + 738) (k + 747 + 1) _ = _
  rw [(rk_T (by omega) (by omega) (by omega) R hl).1, (rk_T (by omega) (by omega) (by omega) R hx).1]
theorem ck_0 {r : Nat → Int32} {s e p v : Int32} (h : mo_wc r s e p v = 0) : mo_hp r s e p ∧ (∃ n : Nat, n ≤ 3 ∧ v = nI n) ∧ mo_ty r s.toNatClampNeg e.toNatClampNeg = 0 := by
  have h1 := x_ck00 h
  unfold mo_wc er_3 at h
  rw [if_pos h1] at h
  by_cases h2 : ¬ v < 0 ∧ ¬ 3 < v
  · rw [if_pos h2] at h
    by_cases h3 : r (23 + 233 * s.toNatClampNeg + 18 * e.toNatClampNeg) = 0 ∧ (¬ v = 3 ∨ r (25 + 233 * s.toNatClampNeg + 18 * e.toNatClampNeg + 3 * p.toNatClampNeg) = 3 ∨ r (25 + 233 * s.toNatClampNeg + 18 * e.toNatClampNeg + 3 * p.toNatClampNeg) = 4)
    · obtain ⟨e1, e2⟩ := mo_ix (m := 3) h2 rfl (by omega)
      exact ⟨h1, ⟨_, by omega, e1⟩, h3.1⟩
    · rw [if_neg h3] at h; exact absurd h (by decide)
  · rw [if_neg h2] at h; exact absurd h (by decide)
theorem q_ic {M : sk_M} {k m : Nat} {s e p v : Int32} {r t : Nat → Int32} (R : rl_s M (k + 1) r m) (h : mo_wc r s e p v = 0) : x_ic M k s e p v (k + 738) 14 + x_ic M k s e p v (k + 738) 15 - x_ic M k s e p v (k + 738) 16 = mo_T (mu_u (mu_c r t) (25 + 233 * s.toNatClampNeg + 18 * e.toNatClampNeg + 3 * p.toNatClampNeg + 2) v) s.toNatClampNeg := by
  have h4 := R.1
  obtain ⟨hp, ⟨n, hn, rfl⟩, hty⟩ := ck_0 h
  have hx := (R.hx hp.1.1).2
  have P := R.P hp.1.1
  have hex := (R.ex hp.1).2
  have hpx := (R.px hp).2
  have P2 : rl_p (pg_cf M (k + 794) (st_pg (k + 1) s)) (k + 794) (mu_c r t) s.toNatClampNeg := (P.m (pg_cf_v (by unfold st_pg; omega))).r (fun y h1 h2 => mu_cl (by omega))
  have ec : mo_c (mu_c r t) s.toNatClampNeg = mo_c r s.toNatClampNeg := mo_cc0 (by omega)
  have hc12 := P.n.2.2.1
  have P3 := P2.call (p := p.toNatClampNeg) (v := n) (e := e.toNatClampNeg) (by rw [ec]; exact hex) (by
    have e9 : mo_n (mu_c r t) s.toNatClampNeg e.toNatClampNeg = mo_n r s.toNatClampNeg e.toNatClampNeg := by show (mu_c r t _).toNatClampNeg = _; rw [mu_cl (by omega)]
    rw [e9]; exact hpx) hn (by show mu_c r t _ = 0; rw [mu_cl (by omega)]; exact hty)
  unfold x_ic
  refine (rl_ra (M := sk_ms (pg_cf M (k + 794) (st_pg (k + 1) s)) (k + 794 + 8) (3 * e.toNatClampNeg + p.toNatClampNeg) (nI n)) (by omega) (by omega) (fun j hj => ?_) P3).2.2.2.2.1
  rw [sk_nf (by omega), pg_cf_f (by omega), mu_n (by omega), mu_cl (by omega)]
  exact R.2.2.2.1 j hj
