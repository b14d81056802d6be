/-! The two sides: what is done -/
theorem rl_p.v10 {M : sk_M} {g s : Nat} {r : Nat → Int32} (R : rl_p M g r s) : M g 10 = r (6 + 233 * s + 1) := by
  obtain ⟨n, hn, h9, hr, h10, hc, hR⟩ := R
  exact h10
theorem pg_cl_f {M : sk_M} {k a : Nat} (h : a < k ∨ k + 10 ≤ a) : pg_cl M k a = M a := by
  funext y
  unfold pg_cl sk_fm
  rw [sk_nr (by omega), sk_ne (by omega), sk_ne (by omega)]
theorem pg_cl_0 {M : sk_M} {k : Nat} : pg_cl M k k 9 = 0 ∧ pg_cl M k k 10 = 0 ∧ ∀ j, j < 3 → pg_cl M k (k + 9) j = 0 := by
  unfold pg_cl sk_fm
  refine ⟨by rw [sk_nr (by omega), sk_ne (by omega), sk_sm], by rw [sk_nr (by omega), sk_sm], fun j hj => ?_⟩
  simp [sk_mr, hj]
theorem t_hb {r : Nat → Int32} {M : sk_M} {f m : Nat} {s e : Int32} (R : rl_s M f r m) (h : mo_he r s e) : s.toNatClampNeg < 4 ∧ e.toNatClampNeg < 12 := by
  have h1 := R.1
  have h2 := (R.hx h.1).2
  have h3 := (R.ex h).2
  have h4 := (R.P h.1).n.2.2.1
  omega
theorem t_mark {M : sk_M} {k o : Nat} {S : rl_T} {s e v : Int32} (C : rl_C M k S) (H : rl_H M k o S.c S.d) (h : mo_he S.r s e) (hv : ¬ v < 0 ∧ ¬ 161050 < v) :
    rl_C (if st_he (x_re M k o S.c) (k + 1) s e then sk_ms (x_re M k o S.c) (st_pg (k + 1) s + 3) e.toNatClampNeg (x_kn v) else x_re M k o S.c) k (S.ac (my_w S.r (23 + 233 * s.toNatClampNeg + 18 * e.toNatClampNeg + 11) v 11 5 5) S.m) ∧ x_kn v = mo_ke (my_w S.r (23 + 233 * s.toNatClampNeg + 18 * e.toNatClampNeg + 11) v 11 5 5) (23 + 233 * s.toNatClampNeg + 18 * e.toNatClampNeg + 11) := by
  obtain ⟨N, -⟩ := C.re H
  have hk := kn_e (r := S.r) (q := 23 + 233 * s.toNatClampNeg + 18 * e.toNatClampNeg + 11) hv
  have hb := t_hb N h
  rw [if_pos (N.he.mpr h)]
  exact ⟨C.ac H (N.pm (d := 3) h.1 (by decide) ((N.P h.1).kern hk.1 hk.2) (fun y hy => my_w_n (by omega) 5)) (fun a a1 a2 => sk_nf (by unfold st_pg; omega)), hk.1⟩
theorem t_3 {j : Int32} (h : ¬ j < 0 ∧ ¬ 3 ≤ j) : j.toNatClampNeg < 3 := (sk_ix (y := 3) (m := 3) h rfl (by decide)).2
theorem t_comp {M : sk_M} {k o : Nat} {S : rl_T} {s j v : Int32} (C : rl_C M k S) (H : rl_H M k o S.c S.d) (h : mo_hs S.r s) (hj : ¬ j < 0 ∧ ¬ 3 ≤ j) (hv : ¬ v < 0 ∧ ¬ 115856200 < v) :
    rl_C (if st_hs (x_re M k o S.c) (k + 1) s ∧ ¬ j < 0 ∧ ¬ 3 ≤ j then sk_ms (x_re M k o S.c) (st_pg (k + 1) s + 9) j.toNatClampNeg (x_cn v) else x_re M k o S.c) k (S.ac (my_w S.r (6 + 233 * s.toNatClampNeg + 2 + 5 * j.toNatClampNeg) v 41 0 5) S.m) ∧ x_cn v = mo_oc (my_w S.r (6 + 233 * s.toNatClampNeg + 2 + 5 * j.toNatClampNeg) v 41 0 5) s.toNatClampNeg j.toNatClampNeg := by
  obtain ⟨N, -⟩ := C.re H
  have hk := cn_e (r := S.r) (s := s.toNatClampNeg) (j := j.toNatClampNeg) hv
  have hj3 := t_3 hj
  have hx := (N.hx h).2
  have h4 := N.1
  rw [if_pos ⟨N.hs.mpr h, hj⟩]
  exact ⟨C.ac H (N.pm (d := 9) h (by decide) ((N.P h).comp hj3 hk) (fun y hy => my_w_n (by omega) 5)) (fun a a1 a2 => sk_nf (by unfold st_pg; omega)), hk⟩
theorem t_pen {M : sk_M} {k o : Nat} {S : rl_T} {s v : Int32} (C : rl_C M k S) (H : rl_H M k o S.c S.d) (h : mo_hs S.r s) :
    rl_C (if st_hs (x_re M k o S.c) (k + 1) s then sk_ms (x_re M k o S.c) (st_pg (k + 1) s) 10 v else x_re M k o S.c) k (S.ac (mu_u S.r (6 + 233 * s.toNatClampNeg + 1) v) S.m) ∧ x_re M k o S.c (st_pg (k + 1) s) 10 = S.r (6 + 233 * s.toNatClampNeg + 1) := by
  obtain ⟨N, -⟩ := C.re H
  have hx := (N.hx h).2
  have h4 := N.1
  rw [if_pos (N.hs.mpr h)]
  exact ⟨C.ac H (N.pm (d := 0) h (by decide) (N.P h).pts (fun y hy => mu_n (by omega))) (fun a a1 a2 => sk_nf (by unfold st_pg; omega)), (N.P h).v10⟩
theorem t_rev {M : sk_M} {k o : Nat} {S : rl_T} {s e v : Int32} (C : rl_C M k S) (H : rl_H M k o S.c S.d) (h : mo_he S.r s e) :
    rl_C (if st_he (x_re M k o S.c) (k + 1) s e then sk_ms (x_re M k o S.c) (st_pg (k + 1) s + 5) e.toNatClampNeg v else x_re M k o S.c) k (S.ac (mu_u S.r (23 + 233 * s.toNatClampNeg + 18 * e.toNatClampNeg + 17) v) S.m) ∧
    st_rv (if st_he (x_re M k o S.c) (k + 1) s e then sk_ms (x_re M k o S.c) (st_pg (k + 1) s + 5) e.toNatClampNeg v else x_re M k o S.c) (k + 1) = sk_sum (fun q => sk_sum (fun z => (mu_u S.r (23 + 233 * s.toNatClampNeg + 18 * e.toNatClampNeg + 17) v) (23 + 233 * q + 18 * z + 17)) (mo_c (mu_u S.r (23 + 233 * s.toNatClampNeg + 18 * e.toNatClampNeg + 17) v) q)) S.m := by
  obtain ⟨N, -⟩ := C.re H
  have hb := t_hb N h
  rw [if_pos (N.he.mpr h)]
  have N2 : rl_s (sk_ms (x_re M k o S.c) (st_pg (k + 1) s + 5) e.toNatClampNeg v) (k + 1) (mu_u S.r (23 + 233 * s.toNatClampNeg + 18 * e.toNatClampNeg + 17) v) S.m := N.pm (d := 5) h.1 (by decide) ((N.P h.1).cell (Or.inr ⟨rfl, rfl⟩)) (fun y hy => mu_n (by omega))
  exact ⟨C.ac H N2 (fun a a1 a2 => sk_nf (by unfold st_pg; omega)), sums_e (Or.inr ⟨rfl, rfl⟩) N2⟩
theorem t_fall {M : sk_M} {k o : Nat} {S : rl_T} {s e v : Int32} (C : rl_C M k S) (H : rl_H M k o S.c S.d) (h : mo_he S.r s e) :
    rl_C (if st_he (x_re M k o S.c) (k + 1) s e then sk_ms (x_re M k o S.c) (st_pg (k + 1) s + 4) e.toNatClampNeg v else x_re M k o S.c) k (S.ac (mu_u S.r (23 + 233 * s.toNatClampNeg + 18 * e.toNatClampNeg + 16) v) S.m) ∧
    sk_sum ((if st_he (x_re M k o S.c) (k + 1) s e then sk_ms (x_re M k o S.c) (st_pg (k + 1) s + 4) e.toNatClampNeg v else x_re M k o S.c) (st_pg (k + 1) s + 4)) (pg_n (if st_he (x_re M k o S.c) (k + 1) s e then sk_ms (x_re M k o S.c) (st_pg (k + 1) s + 4) e.toNatClampNeg v else x_re M k o S.c) (st_pg (k + 1) s)) = sk_sum (fun z => (mu_u S.r (23 + 233 * s.toNatClampNeg + 18 * e.toNatClampNeg + 16) v) (23 + 233 * s.toNatClampNeg + 18 * z + 16)) (mo_c S.r s.toNatClampNeg) := by
  obtain ⟨N, -⟩ := C.re H
  have hb := t_hb N h
  rw [if_pos (N.he.mpr h)]
  have P2 := (N.P h.1).cell (e := e.toNatClampNeg) (v := v) (Or.inl ⟨rfl, rfl⟩)
  have N2 : rl_s (sk_ms (x_re M k o S.c) (st_pg (k + 1) s + 4) e.toNatClampNeg v) (k + 1) (mu_u S.r (23 + 233 * s.toNatClampNeg + 18 * e.toNatClampNeg + 16) v) S.m := N.pm (d := 4) h.1 (by decide) P2 (fun y hy => mu_n (by omega))
  refine ⟨C.ac H N2 (fun a a1 a2 => sk_nf (by unfold st_pg; omega)), ?_⟩
  have e1 : mo_c S.r s.toNatClampNeg = mo_c (mu_u S.r (23 + 233 * s.toNatClampNeg + 18 * e.toNatClampNeg + 16) v) s.toNatClampNeg := by
    show _ = (mu_u _ _ _ _).toNatClampNeg
    rw [mu_n (by omega)]
  rw [e1]
  exact sum1_e (Or.inl ⟨rfl, rfl⟩) P2
theorem t_call {M : sk_M} {k o : Nat} {S : rl_T} {s e p v : Int32} (C : rl_C M k S) (H : rl_H M k o S.c S.d) (h : mo_wc S.r s e p v = 0) :
    rl_C (if st_cc (x_re M k o S.c) (k + 1) s e p v then sk_ms (x_re M k o S.c) (st_pg (k + 1) s + 8) (3 * e.toNatClampNeg + p.toNatClampNeg) v else x_re M k o S.c) k (S.ac (mu_u S.r (25 + 233 * s.toNatClampNeg + 18 * e.toNatClampNeg + 3 * p.toNatClampNeg + 2) v) S.m) ∧
    x_re M k o S.c (st_pg (k + 1) s + 8) (3 * e.toNatClampNeg + p.toNatClampNeg) = S.r (25 + 233 * s.toNatClampNeg + 18 * e.toNatClampNeg + 3 * p.toNatClampNeg + 2) := by
  obtain ⟨N, -⟩ := C.re H
  have hcc := x_ck0 (N.ck.trans h)
  obtain ⟨hp, ⟨n, hn, rfl⟩, hty⟩ := ck_0 h
  have hb := t_hb N hp.1
  have hpx := (N.px hp).2
  have hE := N.E hp.1
  have h3 := hE.n.2.2
  rw [if_pos hcc]
  exact ⟨C.ac H (N.pm (d := 8) hp.1.1 (by decide) ((N.P hp.1.1).call (N.ex hp.1).2 hpx hn hty) (fun y hy => mu_n (by omega))) (fun a a1 a2 => sk_nf (by unfold st_pg; omega)), (hE.q hpx).2.2⟩
theorem t_sett {M : sk_M} {k o : Nat} {S : rl_T} {w v : Int32} (C : rl_C M k S) (H : rl_H M k o S.c S.d) (h : st_fi w v) :
    rl_C (if st_fi w v then sk_ms (x_re M k o S.c) (k + 1 + 2) w.toNatClampNeg v else x_re M k o S.c) k (S.ac (mu_u S.r (1 + w.toNatClampNeg) v) S.m) ∧ x_re M k o S.c (k + 3) w.toNatClampNeg = S.r (1 + w.toNatClampNeg) := by
  obtain ⟨N, -⟩ := C.re H
  have hw := (st_fiw h).2
  rw [if_pos h]
  refine ⟨C.ac H ?_ (fun a a1 a2 => sk_nf (by omega)), N.2.2.2.1 _ hw⟩
  obtain ⟨h4, h2, h0, hu, hp⟩ := N
  refine ⟨h4, by rw [sk_ne (by omega)]; exact h2, by rw [mu_n (by omega)]; exact h0, fun j hj => ?_, fun z hz => ((hp z hz).c (fun x hx => sk_nf (by omega))).r (fun y a b => mu_n (by omega))⟩
  by_cases q : j = w.toNatClampNeg
  · subst q; rw [sk_sm, mu_y]
  · rw [sk_ne (Or.inr q), mu_n (by omega)]; exact hu j hj
theorem t_add {M : sk_M} {k o : Nat} {S : rl_T} (C : rl_C M k S) (H : rl_H M k o S.c S.d) (h : S.m < 4) :
    rl_C (x_ad M k o S.c S.m) k (S.ac (mu_u (mz_r S.r (6 + 233 * S.m) 233) 0 (nI (S.m + 1))) (S.m + 1)) := by
  obtain ⟨N, -⟩ := C.re H
  have fr : ∀ a, (a < k + 4 + 10 * S.m ∨ k + 14 + 10 * S.m ≤ a) → a ≠ k + 1 → x_ad M k o S.c S.m a = x_re M k o S.c a := fun a h1 h2 => by
    unfold x_ad
    rw [sk_nf h2, pg_cl_f (by omega)]
  refine C.ac H ?_ (fun a a1 a2 => fr a (by omega) (by omega))
  obtain ⟨h4, h2, h0, hu, hp⟩ := N
  have hz : ∀ y, y ≠ 0 → (y < 6 + 233 * S.m ∨ 6 + 233 * S.m + 233 ≤ y) → mu_u (mz_r S.r (6 + 233 * S.m) 233) 0 (nI (S.m + 1)) y = S.r y := fun y y0 y1 => by
    rw [mu_n y0]; unfold mz_r; rw [if_neg (by omega)]
  have hz0 : ∀ y, 6 + 233 * S.m ≤ y → y < 6 + 233 * S.m + 233 → mu_u (mz_r S.r (6 + 233 * S.m) 233) 0 (nI (S.m + 1)) y = 0 := fun y y0 y1 => by
    rw [mu_n (by omega)]; unfold mz_r; rw [if_pos ⟨y0, y1⟩]
  refine ⟨by omega, ?_, mu_y, fun j hj => ?_, fun z hz1 => ?_⟩
  · unfold x_ad
    rw [sk_sm]
    exact nI_add _ 1
  · rw [fr _ (by omega) (by omega), hz _ (by omega) (by omega)]; exact hu j hj
  · by_cases q : z = S.m
    · subst q
      have e1 : ∀ x j, x < 10 → x_ad M k o S.c S.m (k + 1 + 3 + 10 * S.m + x) j = pg_cl (x_re M k o S.c) (k + 1 + 3 + 10 * S.m) (k + 1 + 3 + 10 * S.m + x) j := fun x j hx => by
        unfold x_ad
        rw [sk_ne (by omega)]
      have hc0 := pg_cl_0 (M := x_re M k o S.c) (k := k + 1 + 3 + 10 * S.m)
      refine ⟨0, by decide, (e1 0 9 (by decide)).trans hc0.1, (hz0 _ (by omega) (by omega)), ((e1 0 10 (by decide)).trans hc0.2.1).trans (hz0 _ (by omega) (by omega)).symm, fun j hj => ?_, fun e he => absurd he (Nat.not_lt_zero _)⟩
      rw [e1 9 j (by decide), hc0.2.2 j hj, mo_oc_c (r := fun _ => 0) (fun i hi => hz0 _ (by omega) (by omega))]
      unfold mo_oc
      rw [ke_0 (fun _ _ => rfl)]
      decide
    · exact ((hp z (by omega)).c (fun x hx => fr _ (by omega) (by omega))).r (fun y a b => hz y (by omega) (by omega))
/-- what was taken back -/
theorem t_undo {M : sk_M} {k o : Nat} {S : rl_T} (C : rl_C M k S) (H : rl_H M k o S.c S.d) (h : 0 < S.c) : ∃ m, ∀ R d : Nat → Int32, (∀ y, y < 938 → R y = S.d (938 * (S.c - 1) + y)) → (∀ y, y < 938 * (S.c - 1) → d y = S.d y) →
    rl_C (if 0 < S.c then hs_tb M (k + 44) (k + 1) o S.c else M) k (rl_mk R d S.q S.v S.t m (S.c - 1) S.n) ∧ (if 0 < S.c then hs_tb M (k + 44) (k + 1) o S.c else M) (k + 44) 2 = nI (S.c - 1) := by
  obtain ⟨H2, ⟨m, R2⟩, fr⟩ := H.tb h
  refine ⟨m, fun R d hR hd => ?_⟩
  rw [if_pos h]
  refine ⟨⟨R2.r (fun y hy => hR y hy), ⟨o, ?_⟩, C.2.2.1.f (fun a a1 a2 => fr a (by omega) (by omega)), C.2.2.2.f (by rw [fr _ (by omega) (by omega)]) (fr _ (by omega) (by omega))⟩, H2.2.2.1⟩
  obtain ⟨a1, a2, a3, a4, a5⟩ := H2
  refine ⟨a1, a2, a3, a4, fun i hi => ?_⟩
  have hi2 : i < S.c - 1 := hi
  obtain ⟨m', R'⟩ := a5 i hi
  exact ⟨m', R'.r (fun y hy => hd _ (by omega))⟩
theorem t_2 {j : Int32} (h : ¬ j < 0 ∧ ¬ 2 ≤ j) : j.toNatClampNeg < 2 := (sk_ix (y := 2) (m := 2) h rfl (by decide)).2
theorem t_save {M : sk_M} {k : Nat} {S : rl_T} {j : Int32} (C : rl_C M k S) (h : ¬ j < 0 ∧ ¬ 2 ≤ j) (q : Nat → Int32) (hq : ∀ y, q y = if 938 * j.toNatClampNeg ≤ y ∧ y < 938 * j.toNatClampNeg + 938 then S.r (y - 938 * j.toNatClampNeg) else S.q y) :
    rl_C (sk_ms (st_cf M (k + 649 + 43 * j.toNatClampNeg) (k + 1)) (k + 735) j.toNatClampNeg 1) k (rl_mk S.r S.d q (mu_u S.v j.toNatClampNeg 1) S.t S.m S.c S.n) ∧ sk_ms (st_cf M (k + 649 + 43 * j.toNatClampNeg) (k + 1)) (k + 735) j.toNatClampNeg 1 (k + 1) 2 = S.r 0 := by
  have hj := t_2 h
  have fr : ∀ a, (a < k + 649 + 43 * j.toNatClampNeg ∨ k + 649 + 43 * j.toNatClampNeg + 43 ≤ a) → a ≠ k + 735 → sk_ms (st_cf M (k + 649 + 43 * j.toNatClampNeg) (k + 1)) (k + 735) j.toNatClampNeg 1 a = M a := fun a h1 h2 => by
    rw [sk_nf h2, st_cf_f C.1.wf h1]
  refine ⟨⟨C.1.c (fun a a1 a2 => fr a (by omega) (by omega)), C.2.1.imp (fun _ H => H.f (fun a a1 a2 => fr a (by omega) (by omega))), fun i hi => ?_, C.2.2.2.f (by rw [fr _ (by omega) (by omega)]) (fr _ (by omega) (by omega))⟩, by rw [fr _ (by omega) (by omega), C.1.2.1]; exact C.1.2.2.1.symm⟩
  by_cases w : i = j.toNatClampNeg
  · subst w
    refine ⟨by rw [sk_sm]; exact mu_y.symm, Or.inr ⟨S.m, ?_⟩⟩
    refine (((C.1.f (k := k + 649 + 43 * j.toNatClampNeg) (by omega)).c (fun a a1 a2 => sk_nf (by omega))).r (fun y hy => ?_))
    show q _ = _
    rw [hq, if_pos (by omega), Nat.add_sub_cancel_left]
  · obtain ⟨h1, h2⟩ := C.2.2.1 i hi
    have ev : mu_u S.v j.toNatClampNeg 1 i = S.v i := mu_n w
    refine ⟨by rw [sk_ne (Or.inr w), st_cf_f C.1.wf (by omega)]; exact h1.trans ev.symm, ?_⟩
    rcases h2 with h2 | ⟨m, R⟩
    · exact Or.inl (ev.trans h2)
    · refine Or.inr ⟨m, (R.c (fun a a1 a2 => fr a (by omega) (by omega))).r (fun y hy => ?_)⟩
      show q _ = _
      rw [hq, if_neg (by omega)]
theorem t_rest {M : sk_M} {k : Nat} {S : rl_T} {j : Int32} (C : rl_C M k S) (h : ¬ j < 0 ∧ ¬ 2 ≤ j) (hv : ¬ M (k + 735) j.toNatClampNeg = 0) : ∃ m, ∀ R : Nat → Int32, (∀ y, y < 938 → R y = S.q (938 * j.toNatClampNeg + y)) →
    rl_C (sk_ms (st_cf M (k + 1) (k + 649 + 43 * j.toNatClampNeg)) (k + 44) 2 0) k (rl_mk R S.d S.q S.v S.t m 0 S.n) ∧ sk_ms (st_cf M (k + 1) (k + 649 + 43 * j.toNatClampNeg)) (k + 44) 2 0 (k + 1) 2 = S.q (938 * j.toNatClampNeg) := by
  have hj := t_2 h
  obtain ⟨v1, v2⟩ := C.2.2.1 _ hj
  obtain ⟨m, Rj⟩ := v2.resolve_left (fun z => hv (v1.trans z))
  have fr : ∀ a, (a < k + 1 ∨ k + 44 ≤ a) → a ≠ k + 44 → sk_ms (st_cf M (k + 1) (k + 649 + 43 * j.toNatClampNeg)) (k + 44) 2 0 a = M a := fun a h1 h2 => by
    rw [sk_nf h2, st_cf_f Rj.wf (by omega)]
  have R1 := (Rj.f (k := k + 1) (by omega)).c (N := sk_ms (st_cf M (k + 1) (k + 649 + 43 * j.toNatClampNeg)) (k + 44) 2 0) (fun a a1 a2 => sk_nf (by omega))
  obtain ⟨o, H1, H2, H3, H4, H5⟩ := C.2.1
  refine ⟨m, fun R hR => ⟨⟨R1.r hR, ⟨o, H1, ?_, sk_sm, Nat.zero_le _, fun i hi => absurd hi (Nat.not_lt_zero _)⟩, C.2.2.1.f (fun a a1 a2 => fr a (by omega) (by omega)), C.2.2.2.f (by rw [fr _ (by omega) (by omega)]) (fr _ (by omega) (by omega))⟩, ?_⟩⟩
  · rw [sk_ne (by omega), st_cf_f Rj.wf (by omega)]; exact H2
  · rw [R1.2.1]; exact R1.2.2.1.symm
theorem t_app {M : sk_M} {k : Nat} {S : rl_T} {v : Int32} (C : rl_C M k S) (h : ¬ v < 0 ∧ ¬ 255 < v) (hn : S.n < 120) (t : Nat → Int32) (ht : t = mu_u S.t S.n v) :
    rl_C (sk_ms (sk_ms M (k + 736 + 1) S.n v) (k + 736) 1 (M (k + 736) 1 + 1)) k (rl_mk S.r S.d S.q S.v t S.m S.c (S.n + 1)) := by
  have fr : ∀ a, (a < k + 736 ∨ k + 738 ≤ a) → sk_ms (sk_ms M (k + 736 + 1) S.n v) (k + 736) 1 (M (k + 736) 1 + 1) a = M a := fun a h1 => by rw [sk_nf (by omega), sk_nf (by omega)]
  obtain ⟨X1, X2, X3⟩ := C.2.2.2
  refine ⟨C.1.c (fun a a1 a2 => fr a (by omega)), C.2.1.imp (fun _ H => H.f (fun a a1 a2 => fr a (by omega))), C.2.2.1.f (fun a a1 a2 => fr a (by omega)), hn, ?_, fun i hi => ?_⟩
  · rw [sk_sm, X2]; exact nI_add _ 1
  · have hi2 : i < S.n + 1 := hi
    show _ = t i ∧ ¬ t i < 0 ∧ ¬ 255 < t i
    rw [sk_ne (by omega), ht]
    by_cases w : i = S.n
    · subst w
      rw [mu_y]
      exact ⟨sk_sm, h⟩
    · rw [mu_n w, sk_ne (Or.inr w)]
      exact X3 i (by omega)
theorem t_clr {M : sk_M} {k : Nat} {S : rl_T} (C : rl_C M k S) : rl_C (sk_ms M (k + 736) 1 0) k (rl_mk S.r S.d S.q S.v S.t S.m S.c 0) :=
  ⟨C.1.c (fun a a1 a2 => sk_nf (by omega)), C.2.1.imp (fun _ H => H.f (fun a a1 a2 => sk_nf (by omega))), C.2.2.1.f (fun a a1 a2 => sk_nf (by omega)), Nat.zero_le _, sk_sm, fun i hi => absurd hi (Nat.not_lt_zero _)⟩
