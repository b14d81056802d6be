/-! The two sides: turns -/
theorem u_mark {M : sk_M} {f m : Nat} {r : Nat → Int32} {s e v : Int32} (R : rl_s M f r m) (h : mo_he r s e) (hv : ¬ v < 0 ∧ ¬ 161050 < v) : rl_s (sk_ms M (st_pg f s + 3) e.toNatClampNeg (x_kn v)) f (my_w r (23 + 233 * s.toNatClampNeg + 18 * e.toNatClampNeg + 11) v 11 5 5) m := by
  have hk := kn_e (r := r) (q := 23 + 233 * s.toNatClampNeg + 18 * e.toNatClampNeg + 11) hv
  have hb := t_hb R h
  exact R.pm (d := 3) h.1 (by decide) ((R.P h.1).kern hk.1 hk.2) (fun y hy => my_w_n (by omega) 5)
theorem u_comp {M : sk_M} {f m j : Nat} {r : Nat → Int32} {s v : Int32} (R : rl_s M f r m) (h : mo_hs r s) (hj : j < 3) (hv : ¬ v < 0 ∧ ¬ 115856200 < v) : rl_s (sk_ms M (st_pg f s + 9) j (x_cn v)) f (my_w r (6 + 233 * s.toNatClampNeg + 2 + 5 * j) v 41 0 5) m :=
  R.pm (d := 9) h (by decide) ((R.P h).comp hj (cn_e hv)) (fun y hy => my_w_n (by omega) 5)
theorem u_pen {M : sk_M} {f m : Nat} {r : Nat → Int32} {s v : Int32} (R : rl_s M f r m) (h : mo_hs r s) : rl_s (sk_ms M (st_pg f s) 10 v) f (mu_u r (6 + 233 * s.toNatClampNeg + 1) v) m :=
  R.pm (d := 0) h (by decide) (R.P h).pts (fun y hy => mu_n (by omega))
theorem u_fall {M : sk_M} {f m : Nat} {r : Nat → Int32} {s e v : Int32} (R : rl_s M f r m) (h : mo_he r s e) : rl_s (sk_ms M (st_pg f s + 4) e.toNatClampNeg v) f (mu_u r (23 + 233 * s.toNatClampNeg + 18 * e.toNatClampNeg + 16) v) m := by
  have hb := t_hb R h
  exact R.pm (d := 4) h.1 (by decide) ((R.P h.1).cell (Or.inl ⟨rfl, rfl⟩)) (fun y hy => mu_n (by omega))
theorem u_rev {M : sk_M} {f m : Nat} {r : Nat → Int32} {s e v : Int32} (R : rl_s M f r m) (h : mo_he r s e) : rl_s (sk_ms M (st_pg f s + 5) e.toNatClampNeg v) f (mu_u r (23 + 233 * s.toNatClampNeg + 18 * e.toNatClampNeg + 17) v) m := by
  have hb := t_hb R h
  exact R.pm (d := 5) h.1 (by decide) ((R.P h.1).cell (Or.inr ⟨rfl, rfl⟩)) (fun y hy => mu_n (by omega))
theorem u_call {M : sk_M} {f m : Nat} {r : Nat → Int32} {s e p v : Int32} (R : rl_s M f r m) (h : mo_wc r s e p v = 0) : rl_s (sk_ms M (st_pg f s + 8) (3 * e.toNatClampNeg + p.toNatClampNeg) v) f (mu_u r (25 + 233 * s.toNatClampNeg + 18 * e.toNatClampNeg + 3 * p.toNatClampNeg + 2) v) m := by
  obtain ⟨hp, ⟨n, hn, rfl⟩, hty⟩ := ck_0 h
  have hb := t_hb R hp.1
  have hpx := (R.px hp).2
  have h3 := (R.E hp.1).n.2.2
  exact R.pm (d := 8) hp.1.1 (by decide) ((R.P hp.1.1).call (R.ex hp.1).2 hpx hn hty) (fun y hy => mu_n (by omega))
theorem u_set {M : sk_M} {f m : Nat} {r : Nat → Int32} {w v : Int32} (R : rl_s M f r m) (h : st_fi w v) : rl_s (sk_ms M (f + 2) w.toNatClampNeg v) f (mu_u r (1 + w.toNatClampNeg) v) m := by
  have hw := (st_fiw h).2
  obtain ⟨h4, h2, h0, hu, hp⟩ := R
  refine ⟨h4, by rw [sk_ne (by omega)]; exact h2, by rw [mu_n (by omega)]; exact h0, fun j hj => ?_, fun z hz => ((hp z hz).c (fun x hx => sk_nf (by omega))).r (fun y a b => mu_n (by omega))⟩
  by_cases q : j = w.toNatClampNeg
  · subst q; rw [sk_sm, mu_y]
  · rw [sk_ne (Or.inr q), mu_n (by omega)]; exact hu j hj
theorem u_cc {M : sk_M} {f m : Nat} {r : Nat → Int32} {s e p v : Int32} (R : rl_s M f r m) : st_cc M f s e p v ↔ mo_wc r s e p v = 0 :=
  ⟨fun z => R.ck.symm.trans (er3p z.1 ⟨z.2.1, z.2.2.1⟩ z.2.2.2), fun z => x_ck0 (R.ck.trans z)⟩
theorem u_if {P P' : Prop} [Decidable P] [Decidable P'] {M N : sk_M} {f m : Nat} {r r' : Nat → Int32} (e : P ↔ P') (R : rl_s M f r m) (h : P' → rl_s N f r' m) : rl_s (if P then N else M) f (if P' then r' else r) m := by
  by_cases q : P'
  · rw [if_pos (e.mpr q), if_pos q]; exact h q
  · rw [if_neg (fun z => q (e.mp z)), if_neg q]; exact R
theorem u_rm {r x : Int32} {a b : Nat} (hr : ¬ r < 0) (hx : x = nI a) (ha : 0 < a ∧ a < 2 ^ 31) (hb : b + 1 < 2 ^ 31) : ¬ sk_rm (r / x) (nI (b + 1)) < 0 ∧ ¬ nI b < sk_rm (r / x) (nI (b + 1)) ∧ (sk_rm (r / x) (nI (b + 1))).toNatClampNeg < b + 1 ∧ ¬ nI (b + 1) ≤ sk_rm (r / x) (nI (b + 1)) := by
  obtain ⟨h1, h2⟩ := sk_rmx (r := r) (x := x) (y := nI (b + 1)) (a := a) (b := b + 1) hr hx rfl ha ⟨by omega, hb⟩
  refine ⟨?_, ?_, h2, ?_⟩
  · rw [h1]; exact nI_pos (by omega)
  · rw [h1, nI_ltI (by omega) (by omega)]; omega
  · rw [h1, nI_leI (by omega) (by omega)]; omega
theorem u_tt {M : sk_M} {t m : Nat} {r : Nat → Int32} {x : Int32} (R : rl_s M t r m) (hx : ¬ x < 0) : rl_s (x_tt M t x) t (mt_r r x) m := by
  obtain ⟨a, h1, h2⟩ := nI_of hx
  have e : sk_rm x 8 = nI (a % 8) := sk_nrem h2 (rfl : (8 : Int32) = nI 8) h1 (by decide)
  have h8 : a % 8 < 8 := Nat.mod_lt _ (by decide)
  have k1 := u_rm (a := 512) (b := 161050) hx rfl (by decide) (by decide)
  have k2 := u_rm (a := 32) (b := 2) hx rfl (by decide) (by decide)
  have k3 := u_rm (a := 128) (b := 115856200) hx rfl (by decide) (by decide)
  have mk : rl_s (if st_he M t (x_s1 x) (x_e1 x) then sk_ms M (st_pg t (x_s1 x) + 3) (x_e1 x).toNatClampNeg (x_kn (sk_rm (x / 512) 161051)) else M) t (if mo_he r (x_s1 x) (x_e1 x) then my_w r (23 + 233 * (x_s1 x).toNatClampNeg + 18 * (x_e1 x).toNatClampNeg + 11) (sk_rm (x / 512) 161051) 11 5 5 else r) m := u_if R.he R (fun h => u_mark R h ⟨k1.1, k1.2.1⟩)
  have cl : rl_s (if st_cc M t (x_s1 x) (x_e1 x) (sk_rm (x / 512) 3) (sk_rm (x / 2048) 4) then sk_ms M (st_pg t (x_s1 x) + 8) (3 * (x_e1 x).toNatClampNeg + (sk_rm (x / 512) 3).toNatClampNeg) (sk_rm (x / 2048) 4) else M) t (if mo_wc r (x_s1 x) (x_e1 x) (sk_rm (x / 512) 3) (sk_rm (x / 2048) 4) = 0 then mu_u r (25 + 233 * (x_s1 x).toNatClampNeg + 18 * (x_e1 x).toNatClampNeg + 3 * (sk_rm (x / 512) 3).toNatClampNeg + 2) (sk_rm (x / 2048) 4) else r) m := u_if (u_cc R) R (fun h => u_call R h)
  unfold x_tt mt_r
  rw [e]
  rcases (show a % 8 = 0 ∨ a % 8 = 1 ∨ a % 8 = 2 ∨ a % 8 = 3 ∨ a % 8 = 4 ∨ a % 8 = 5 ∨ a % 8 = 6 ∨ a % 8 = 7 by omega) with q | q | q | q | q | q | q | q <;> rw [q]
  · rw [if_neg (show ¬ nI 0 = 3 by decide), if_neg (show ¬ (nI 0 = 4 ∨ nI 0 = 5) by decide), if_neg (show ¬ nI 0 = 6 by decide), if_neg (show ¬ nI 0 = 7 by decide), if_pos (show nI 0 < 3 by decide)]
    exact mk
  · rw [if_neg (show ¬ nI 1 = 3 by decide), if_neg (show ¬ (nI 1 = 4 ∨ nI 1 = 5) by decide), if_neg (show ¬ nI 1 = 6 by decide), if_neg (show ¬ nI 1 = 7 by decide), if_pos (show nI 1 < 3 by decide)]
    exact mk
  · rw [if_neg (show ¬ nI 2 = 3 by decide), if_neg (show ¬ (nI 2 = 4 ∨ nI 2 = 5) by decide), if_neg (show ¬ nI 2 = 6 by decide), if_neg (show ¬ nI 2 = 7 by decide), if_pos (show nI 2 < 3 by decide)]
    exact mk
  · rw [if_pos (show nI 3 = 3 by decide), if_neg (show ¬ nI 3 < 3 by decide), if_pos (show nI 3 = 3 by decide)]
    refine u_if ⟨fun z => R.hs.mp z.1, fun z => ⟨R.hs.mpr z, k2.1, k2.2.2.2⟩⟩ R (fun h => u_comp R h k2.2.2.1 ⟨k3.1, k3.2.1⟩)
  · rw [if_neg (show ¬ nI 4 = 3 by decide), if_pos (show nI 4 = 4 ∨ nI 4 = 5 by decide), if_neg (show ¬ nI 4 < 3 by decide), if_neg (show ¬ nI 4 = 3 by decide), if_pos (show nI 4 < 6 by decide)]
    exact cl
  · rw [if_neg (show ¬ nI 5 = 3 by decide), if_pos (show nI 5 = 4 ∨ nI 5 = 5 by decide), if_neg (show ¬ nI 5 < 3 by decide), if_neg (show ¬ nI 5 = 3 by decide), if_pos (show nI 5 < 6 by decide)]
    exact cl
  · rw [if_neg (show ¬ nI 6 = 3 by decide), if_neg (show ¬ (nI 6 = 4 ∨ nI 6 = 5) by decide), if_pos (show nI 6 = 6 by decide), if_neg (show ¬ nI 6 < 3 by decide), if_neg (show ¬ nI 6 = 3 by decide), if_neg (show ¬ nI 6 < 6 by decide), if_pos (show nI 6 = 6 by decide)]
    exact u_if R.he R (fun h => u_fall R h)
  · rw [if_neg (show ¬ nI 7 = 3 by decide), if_neg (show ¬ (nI 7 = 4 ∨ nI 7 = 5) by decide), if_neg (show ¬ nI 7 = 6 by decide), if_pos (show nI 7 = 7 by decide), if_neg (show ¬ nI 7 < 3 by decide), if_neg (show ¬ nI 7 = 3 by decide), if_neg (show ¬ nI 7 < 6 by decide), if_neg (show ¬ nI 7 = 6 by decide)]
    exact u_if R.hs R (fun h => u_pen R h)
theorem si_s {M : sk_M} {k m : Nat} {r t : Nat → Int32} {x : Int64} (R : rl_s M (k + 1) r m) : ∀ i, rl_s (si_m M k x i) (k + 751) (mt_s (mu_c r t) x i) m
  | 0 => (R.f (k := k + 751) (by omega)).r (fun y hy => mu_cl hy)
  | i + 1 => u_tt (si_s R i) (si_r_n _)
theorem q_si {M : sk_M} {k m : Nat} {r t : Nat → Int32} {x : Int64} (R : rl_s M (k + 1) r m) (i : Nat) : sk_sum (si_e M k x i (k + 748)) (st_n (si_m M k x i) (k + 751)) = sk_sum (mo_T (mt_s (mu_c r t) x i)) m := by
  have R2 := si_s (t := t) (x := x) R i
  rw [R2.n]
  exact sum_c m (fun s hs => (rk_T (k := k + 747) (c := k + 738) (by omega) (by omega) (by omega) R2 hs).1)
