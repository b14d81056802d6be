/-! The two sides: a program's worth -/
theorem re_tm_e {N : sk_M} {c g u s e : Nat} {r : Nat → Int32} (h1 : N (g + 1) e = mo_ty r s e) (hy : mo_ty r s e = 0 ∨ mo_ty r s e = 1 ∨ mo_ty r s e = 2) (hu2 : N u 2 = r 3) (hu3 : N u 3 = r 4) (h8 : N c 8 = nI (mo_ct r s 0 e)) (h9 : N c 9 = nI (mo_ct r s 1 e)) (h10 : N c 10 = nI (mo_ct r s 2 e)) :
    re_tm N c g u e = if mo_tm r s e then 1 else 0 := by
  unfold re_tm
  rw [h1]
  exact sk_ic (cp_e hy hu2 hu3 h8 h9 h10)
theorem ch_e {r : Nat → Int32} {s e p : Nat} (h : mo_np r s e = nI p) (hp : p ≤ 3) : mo_ch r s e ↔ 1 < p := by
  show ¬ mo_np r s e ≤ 1 ↔ _
  rw [h, show (1 : Int32) = nI 1 from rfl, nI_leI (by omega) (by omega)]
  omega
theorem re_a_e {N : sk_M} {c g u s e p : Nat} {r : Nat → Int32} (h1 : N (g + 1) e = mo_ty r s e) (hy : mo_ty r s e = 0 ∨ mo_ty r s e = 1 ∨ mo_ty r s e = 2) (htm : re_tm N c g u e = if mo_tm r s e then 1 else 0) (h8 : N c 8 = nI (mo_ct r s 0 e)) (h9 : N c 9 = nI (mo_ct r s 1 e)) (h10 : N c 10 = nI (mo_ct r s 2 e)) (h11 : N c 11 = nI (mo_cc r s e)) (hp : mo_np r s e = nI p) (hp3 : p ≤ 3) :
    re_a N c g u e p c 8 = nI (mo_ct r s 0 (e + 1)) ∧ re_a N c g u e p c 9 = nI (mo_ct r s 1 (e + 1)) ∧ re_a N c g u e p c 10 = nI (mo_ct r s 2 (e + 1)) ∧ re_a N c g u e p c 11 = nI (mo_cc r s (e + 1)) ∧ ∀ a j, (a ≠ c ∨ (j ≠ 8 ∧ j ≠ 9 ∧ j ≠ 10 ∧ j ≠ 11)) → re_a N c g u e p a j = N a j := by
  obtain ⟨g8, g9, g10, gf⟩ := cm_e (c := c) (N := N) (s := s) (e := e) (r := r) (ty := mo_ty r s e) rfl hy h8 h9 h10
  have ecc : mo_cc r s (e + 1) = mo_cc r s e + if mo_ch r s e ∧ ¬ mo_tm r s e then 1 else 0 := rfl
  unfold re_a
  rw [h1, htm, ecc]
  by_cases q : mo_ch r s e ∧ ¬ mo_tm r s e
  · have q2 : 1 < p ∧ (if mo_tm r s e then (1 : Int32) else 0) = 0 := ⟨(ch_e hp hp3).mp q.1, if_neg q.2⟩
    rw [if_pos q2, if_pos q]
    refine ⟨by rw [sk_ne (by omega)]; exact g8, by rw [sk_ne (by omega)]; exact g9, by rw [sk_ne (by omega)]; exact g10, ?_, fun a j h => by rw [sk_ne (by omega)]; exact gf a j (by omega)⟩
    rw [sk_sm, gf c 11 (by omega), h11]
    exact nI_add _ 1
  · have q2 : ¬ (1 < p ∧ (if mo_tm r s e then (1 : Int32) else 0) = 0) := fun z => q ⟨(ch_e hp hp3).mpr z.1, fun w => by rw [if_pos w] at z; exact absurd z.2 (by decide)⟩
    rw [if_neg q2, if_neg q]
    exact ⟨g8, g9, g10, by rw [gf c 11 (by omega), h11]; rfl, fun a j h => gf a j (by omega)⟩
theorem re_ct_e {N : sk_M} {c g u s e p : Nat} {r : Nat → Int32} (h11 : re_a N c g u e p c 11 = nI (mo_cc r s (e + 1))) (hu : re_a N c g u e p u 1 = r 2) (hp : mo_np r s e = nI p) (hp3 : p ≤ 3) : re_ct N c g u e p = if mo_cm r s e then 1 else 0 := by
  unfold re_ct
  rw [h11, hu]
  refine sk_ic ?_
  show _ ↔ mo_ch r s e ∧ _
  rw [ch_e hp hp3]
theorem rl_e.c {M N : sk_M} {g s e : Nat} {r : Nat → Int32} (h : ∀ x, x < 10 → N (g + x) = M (g + x)) (R : rl_e M g r s e) : rl_e N g r s e := by
  unfold rl_e
  rw [h 1 (by omega), h 2 (by omega), h 3 (by omega), h 4 (by omega), h 5 (by omega), h 6 (by omega), h 7 (by omega), h 8 (by omega)]
  exact R
theorem cv_es {M N : sk_M} {c g u s e n : Nat} {r : Nat → Int32} (hap : u < c ∨ c + 9 ≤ u) (hap2 : g + 10 ≤ c ∨ c + 9 ≤ g) (hu : ∀ j, j < 5 → M u j = r (1 + j)) (hp : mo_pp r s n) (he : e < n) (hn : n ≤ 12) (h9 : M g 9 = nI n) (hr9 : r (6 + 233 * s) = nI n) (hR : rl_e M g r s e) (h : cv_e M N c r s e) :
    cv_e M (sk_ms (sk_ms (re_m N c g u e (pg_p M g e)) c 14 (re_m N c g u e (pg_p M g e) c 14 + (re_m N c g u e (pg_p M g e) (c + 3) e + re_m N c g u e (pg_p M g e) (c + 5) e))) c 16 (re_m N c g u e (pg_p M g e) c 16 + 100 * re_m N c g u e (pg_p M g e) (g + 4) e)) c r s (e + 1) := by
  obtain ⟨k0, k8, k9, k10, k11, k12, ki, k13, k14, k16, kr, kw⟩ := h
  have f : ∀ x, x < 10 → N (g + x) = M (g + x) := fun x hx => k0 _ (by omega)
  have f0 : N g = M g := k0 _ (by omega)
  have RN : rl_e N g r s e := hR.c f
  obtain ⟨r1, rk, rj, rf, rv, p, hp3, r2, r3, ry, r6⟩ := id hR
  have hpn : mo_n r s e = p := by show (mo_np r s e).toNatClampNeg = p; rw [r3, nI_clamp (by omega)]
  have hpp : pg_p M g e = p := by unfold pg_p; rw [r2, nI_clamp (by omega)]
  rw [hpp]
  have hu2 : N u 2 = r 3 := by rw [k0 _ hap]; exact hu 2 (by omega)
  have hu3 : N u 3 = r 4 := by rw [k0 _ hap]; exact hu 3 (by omega)
  have n1 : N (g + 1) e = mo_ty r s e := by rw [f 1 (by omega)]; exact r1
  have htm := re_tm_e (N := N) (c := c) (g := g) (u := u) n1 (rl_yt ry) hu2 hu3 k8 k9 k10
  obtain ⟨a8, a9, a10, a11, af⟩ := re_a_e (u := u) (p := p) n1 (rl_yt ry) htm k8 k9 k10 k11 r3 hp3
  have hct := re_ct_e (N := N) (c := c) (g := g) (u := u) (p := p) a11 (by rw [af _ _ (by omega), k0 _ hap]; exact hu 1 (by omega)) r3 hp3
  have fa : ∀ a, a ≠ c → re_a N c g u e p a = N a := fun a ha => by funext j; exact af a j (Or.inl ha)
  have RA : rl_e (re_a N c g u e p) g r s e := RN.c (fun x hx => fa _ (by omega))
  obtain ⟨q0, qj, q13, qi, q3, q12, qw, qs, qt⟩ := cv_ql (c := c) (tm := re_tm N c g u e) (ct := re_ct N c g u e p) (ty := N (g + 1) e) (M0 := re_a N c g u e p) hap2 hp he hn RA htm hct (by rw [af _ _ (by omega)]; exact k12) n1 (by rw [af _ _ (by omega)]; exact k13) (cv_i.c (fa _ (by omega)) (fa _ (by omega)) ki) p (by omega)
  have eL : re_L N c g u e p p = re_l c g e (N (g + 1) e) (re_tm N c g u e) (re_ct N c g u e p) (re_a N c g u e p) p := rfl
  rw [← eL] at q0 qj q13 qi q3 q12 qw qs qt
  have F : ∀ a, (a < c ∨ c + 9 ≤ a) → (re_L N c g u e p p).1 a = M a := fun a ha => by rw [q0 a ha, fa a (by omega), k0 a ha]
  have hh9 : re_h N c g u e p g 9 = nI n := by unfold re_h; rw [sk_ne (by omega), F g (by omega), h9]
  have hhu : re_h N c g u e p u 4 = r 5 := by unfold re_h; rw [sk_ne (by omega), F u hap, hu 4 (by omega)]
  have hbn : re_hb N c g u e p = if mo_bn r s e then 1 else 0 := by
    unfold re_hb
    rw [hh9, n1, htm]
    refine sk_ic ?_
    show _ ↔ mo_ty r s e = 0 ∧ ¬ nI (2 * e) < r (6 + 233 * s) ∧ ¬ mo_tm r s e
    rw [hr9, show (2 : Int32) * nI e = nI (2 * e) from sk_nmul (a := 2) rfl rfl]
    by_cases T : mo_tm r s e
    · rw [if_pos T]; exact ⟨fun z => absurd z.2.1 (by decide), fun z => absurd T z.2.2⟩
    · rw [if_neg T]; exact ⟨fun z => ⟨z.1, z.2.2, T⟩, fun z => ⟨z.1, rfl, z.2.1⟩⟩
  have hb : re_b N c g u e p = mo_ba r s e := by
    unfold re_b mo_ba
    rw [hbn, qs, hhu, hpn]
    by_cases B : mo_bn r s e
    · rw [if_pos B, if_neg (by decide), if_pos B]
    · rw [if_neg B, if_pos rfl, if_neg B]
  have hgr : sc_gr (re_3 N c g u e p (g + 3) e) (re_L N c g u e p p).2.2 = mo_gr r s e := by
    obtain ⟨j, hj, ej⟩ := rj
    have e3 : re_3 N c g u e p (g + 3) e = M (g + 3) e := by unfold re_3 re_h; rw [sk_ne (by omega), sk_ne (by omega), sk_ne (by omega), sk_ne (by omega), F _ (by omega)]
    obtain ⟨t, ht, et⟩ := rl_sm ry p (Nat.le_refl _)
    unfold mo_gr
    rw [e3, qt, hpn, ← rk, ej, et, rl_gr hj ht]
  -- the memory behind the element
  have m_f : ∀ a, (a < c ∨ c + 9 ≤ a) → re_m N c g u e p a = M a := fun a ha => by rw [re_m_f ha, k0 a ha]
  have m_c : ∀ j, j ≠ 12 → re_m N c g u e p c j = (re_L N c g u e p p).1 c j := fun j hj => by unfold re_m re_3 re_h; rw [sk_ne (by omega), sk_ne (by omega), sk_ne (by omega), sk_ne (by omega), sk_ne (by omega)]
  have m_3 : ∀ x, re_m N c g u e p (c + 3) x = if x = e then mo_ba r s e else N (c + 3) x := fun x => by
    unfold re_m re_3 re_h
    by_cases z : x = e
    · subst z; rw [if_pos rfl, sk_ne (by omega), sk_ne (by omega), sk_ne (by omega), sk_sm, hb]
    · rw [if_neg z, sk_ne (by omega), sk_ne (by omega), sk_ne (by omega), sk_ne (by omega), sk_ne (by omega), q3 _ (by omega) (by omega), fa _ (by omega)]
  have m_4 : ∀ x, re_m N c g u e p (c + 4) x = if x = e then mo_sm r s e p else N (c + 4) x := fun x => by
    unfold re_m re_3 re_h
    by_cases z : x = e
    · subst z; rw [if_pos rfl, sk_ne (by omega), sk_sm, qt]
    · rw [if_neg z, sk_ne (by omega), sk_ne (by omega), sk_ne (by omega), sk_ne (by omega), sk_ne (by omega), q3 _ (by omega) (by omega), fa _ (by omega)]
  have m_5 : ∀ x, re_m N c g u e p (c + 5) x = if x = e then mo_gr r s e else N (c + 5) x := fun x => by
    unfold re_m
    by_cases z : x = e
    · subst z; rw [if_pos rfl, sk_sm, hgr]
    · unfold re_3 re_h
      rw [if_neg z, sk_ne (by omega), sk_ne (by omega), sk_ne (by omega), sk_ne (by omega), sk_ne (by omega), q3 _ (by omega) (by omega), fa _ (by omega)]
  have m_6 : ∀ x, re_m N c g u e p (c + 6) x = if x = e then (if mo_bn r s e then 1 else 0) else N (c + 6) x := fun x => by
    unfold re_m re_3 re_h
    by_cases z : x = e
    · subst z
      rw [if_pos rfl, sk_ne (by omega), sk_ne (by omega), sk_sm, hbn]
      by_cases B : mo_bn r s x
      · rw [if_pos B]; rfl
      · rw [if_neg B]; rfl
    · rw [if_neg z, sk_ne (by omega), sk_ne (by omega), sk_ne (by omega), sk_ne (by omega), sk_ne (by omega), q3 _ (by omega) (by omega), fa _ (by omega)]
  have m_o : ∀ a, (a ≠ c ∧ a ≠ c + 3 ∧ a ≠ c + 4 ∧ a ≠ c + 5 ∧ a ≠ c + 6) → re_m N c g u e p a = (re_L N c g u e p p).1 a := fun a ha => by unfold re_m re_3 re_h; rw [sk_nf (by omega), sk_nf (by omega), sk_nf (by omega), sk_nf (by omega), sk_nf (by omega)]
  have m_12 : re_m N c g u e p c 12 = 0 ↔ mo_wn r s (e + 1) = 0 := by
    have ew : mo_wn r s (e + 1) = mo_wn r s e + if mo_lg r s e then 1 else 0 := rfl
    unfold re_m re_3 re_h
    rw [sk_ne (by omega), sk_ne (by omega), sk_ne (by omega), sk_ne (by omega), sk_sm, htm, hct, qj _ (by omega), af _ _ (by omega), ew, sk_b1]
    have e3 : mo_np r s e = 3 ↔ p = 3 := by rw [r3, show (3 : Int32) = nI 3 from rfl, nI_eq (by omega) (by omega)]
    by_cases G : mo_lg r s e
    · rw [if_pos G]
      refine ⟨fun z => absurd (Or.inr ⟨e3.mp G.1, if_neg G.2.1, if_neg G.2.2⟩) z, fun z => by omega⟩
    · rw [if_neg G]
      show _ ↔ mo_wn r s e = 0
      rw [← k12]
      constructor
      · intro z; exact Classical.byContradiction (fun w => z (Or.inl w))
      · intro z w
        rcases w with w | ⟨w1, w2, w3⟩
        · exact w z
        · refine G ⟨e3.mpr w1, fun y => ?_, fun y => ?_⟩
          · rw [if_pos y] at w2; exact absurd w2 (by decide)
          · rw [if_pos y] at w3; exact absurd w3 (by decide)
  refine ⟨fun a ha => by rw [sk_nf (by omega), sk_nf (by omega), m_f a ha], ?_, ?_, ?_, ?_, ?_, ?_, ?_, ?_, ?_, fun x hx => ?_, fun x j hx hj => ?_⟩
  · rw [sk_ne (by omega), sk_ne (by omega), m_c _ (by omega), qj _ (by omega), a8]
  · rw [sk_ne (by omega), sk_ne (by omega), m_c _ (by omega), qj _ (by omega), a9]
  · rw [sk_ne (by omega), sk_ne (by omega), m_c _ (by omega), qj _ (by omega), a10]
  · rw [sk_ne (by omega), sk_ne (by omega), m_c _ (by omega), qj _ (by omega), a11]
  · rw [sk_ne (by omega), sk_ne (by omega)]; exact m_12
  · have hi : cv_i (re_L N c g u e p p).1 c r s (e + 1) 0 := by
      intro a b ha hb2
      obtain ⟨z1, z2⟩ := qi a b ha hb2
      have eD : rc_D r s (nI a) (nI (b + 3)) (e + 1) 0 = rc_D r s (nI a) (nI (b + 3)) e p := by show rc_e _ _ _ _ e + rc_p _ _ _ _ e (mo_n r s e) + 0 = _; rw [hpn, Nat.add_zero]
      have eB : rb_D r s (nI a) (nI (b + 3)) (e + 1) 0 = rb_D r s (nI a) (nI (b + 3)) e p := by show rb_e _ _ _ _ e + rb_p _ _ _ _ e (mo_n r s e) + 0 = _; rw [hpn, Nat.add_zero]
      rw [eD, eB]
      exact ⟨z1, z2⟩
    exact cv_i.c (by rw [sk_nf (by omega), sk_nf (by omega), m_o _ (by omega)]) (by rw [sk_nf (by omega), sk_nf (by omega), m_o _ (by omega)]) hi
  · rw [sk_ne (by omega), sk_ne (by omega), m_c _ (by omega), q13]
    show _ = nI (mo_lq r s e + mo_lp r s e (mo_n r s e))
    rw [hpn]
  · rw [sk_ne (by omega), sk_sm, m_c _ (by omega), qj _ (by omega), af _ _ (by omega), k14, m_3, if_pos rfl, m_5, if_pos rfl]
    rfl
  · rw [sk_sm, m_c _ (by omega), qj _ (by omega), af _ _ (by omega), k16, m_f _ (by omega), rf]
    rfl
  · rw [sk_ne (by omega), sk_ne (by omega), sk_ne (by omega), sk_ne (by omega), sk_ne (by omega), sk_ne (by omega), sk_ne (by omega), sk_ne (by omega), m_3, m_4, m_5, m_6]
    by_cases z : x = e
    · subst z
      rw [if_pos rfl, if_pos rfl, if_pos rfl, if_pos rfl, hpn]
      exact ⟨rfl, rfl, rfl, rfl⟩
    · rw [if_neg z, if_neg z, if_neg z, if_neg z]
      exact kr x (by omega)
  · rw [sk_ne (by omega), sk_ne (by omega), sk_ne (by omega), sk_ne (by omega), m_o _ (by omega), m_o _ (by omega)]
    by_cases z : x = e
    · subst z; exact qw j (by omega)
    · have h3 := (mo_nn hp (i := x) (by omega)).2
      obtain ⟨y1, y2⟩ := q12 (3 * x + j) (by omega)
      rw [y1, y2, fa _ (by omega), fa _ (by omega)]
      exact kw x j (by omega) hj
theorem cv_l {M : sk_M} {c g u s n : Nat} {r : Nat → Int32} (hap : u < c ∨ c + 9 ≤ u) (hap2 : g + 10 ≤ c ∨ c + 9 ≤ g) (hu : ∀ j, j < 5 → M u j = r (1 + j)) (hp : mo_pp r s n) (hn : n ≤ 12) (h9 : M g 9 = nI n) (hr9 : r (6 + 233 * s) = nI n) (hR : ∀ e, e < n → rl_e M g r s e) : ∀ e, e ≤ n → cv_e M (ra_l M c g u e) c r s e
  | 0, _ => by
    unfold ra_l sc_so
    refine ⟨fun a ha => ?_, ?_, ?_, ?_, ?_, ?_, ?_, ?_, ?_, ?_, fun x hx => absurd hx (Nat.not_lt_zero _), fun x j hx => absurd hx (Nat.not_lt_zero _)⟩
    · rw [sk_nf (by omega), sk_nf (by omega), sk_nf (by omega), sk_nf (by omega), sk_nf (by omega), sk_nf (by omega), sk_nf (by omega), sk_nf (by omega)]
      funext b
      exact sk_nr (by omega)
    · rw [sk_ne (by omega), sk_ne (by omega), sk_ne (by omega), sk_ne (by omega), sk_ne (by omega), sk_ne (by omega), sk_ne (by omega), sk_sm]; rfl
    · rw [sk_ne (by omega), sk_ne (by omega), sk_ne (by omega), sk_ne (by omega), sk_ne (by omega), sk_ne (by omega), sk_sm]; rfl
    · rw [sk_ne (by omega), sk_ne (by omega), sk_ne (by omega), sk_ne (by omega), sk_ne (by omega), sk_sm]; rfl
    · rw [sk_ne (by omega), sk_ne (by omega), sk_ne (by omega), sk_ne (by omega), sk_sm]; rfl
    · rw [sk_ne (by omega), sk_ne (by omega), sk_ne (by omega), sk_sm]; exact ⟨fun _ => rfl, fun _ => rfl⟩
    · intro a b ha hb
      refine ⟨?_, fun z => absurd z (by show ¬ (0 + 0 = 1); omega)⟩
      rw [sk_ne (by omega), sk_ne (by omega), sk_ne (by omega), sk_ne (by omega), sk_ne (by omega), sk_ne (by omega), sk_ne (by omega), sk_ne (by omega)]
      unfold sk_fm sk_mr
      rw [if_pos rfl]
      show (if 2 * a + b < 12 then (0 : Int32) else _) = _
      rw [if_pos (by omega)]
      rfl
    · rw [sk_ne (by omega), sk_ne (by omega), sk_sm]; rfl
    · rw [sk_ne (by omega), sk_sm]; rfl
    · rw [sk_sm]; rfl
  | e + 1, he => cv_es hap hap2 hu hp (by omega) hn h9 hr9 (hR e (by omega)) (cv_l hap hap2 hu hp hn h9 hr9 hR e (by omega))
/-- what a rated program is worth, on both sides -/
def cw (N : sk_M) (c : Nat) (r : Nat → Int32) (s : Nat) : Prop := N c 13 = nI (mo_lq r s (mo_c r s)) ∧ N c 14 = mo_S r s ∧ N c 15 = mo_cp r s ∧ N c 16 = mo_of r s (mo_c r s) ∧ N c 14 + N c 15 - N c 16 = mo_T r s ∧
  (∀ x, x < mo_c r s → N (c + 3) x = mo_ba r s x ∧ N (c + 4) x = mo_sm r s x (mo_n r s x) ∧ N (c + 5) x = mo_gr r s x ∧ N (c + 6) x = if mo_bn r s x then 1 else 0) ∧
  ∀ x j, x < mo_c r s → j < mo_n r s x → N (c + 1) (3 * x + j) = mo_v r s x j ∧ N (c + 2) (3 * x + j) = mo_wy r s x j
theorem rl_p.pp {M : sk_M} {g s : Nat} {r : Nat → Int32} (h : rl_p M g r s) : mo_wp r s := by
  obtain ⟨n, hn, h9, hr, -, -, hR⟩ := h
  refine ⟨n, hn, hr, fun e he => ?_⟩
  obtain ⟨-, -, -, -, -, p, hp3, -, r3, -, -⟩ := hR e he
  exact ⟨p, hp3, r3⟩
theorem rl_ra {M : sk_M} {c g u s : Nat} {r : Nat → Int32} (hap : u < c ∨ c + 9 ≤ u) (hap2 : g + 10 ≤ c ∨ c + 9 ≤ g) (hu : ∀ j, j < 5 → M u j = r (1 + j)) (h : rl_p M g r s) : cw (sc_ra M c g u) c r s := by
  have hw := h.pp
  obtain ⟨n, hn, h9, hr, h10, hc, hR⟩ := h
  obtain ⟨n2, hn2, hr2, hpp⟩ := hw
  have e2 : n2 = n := (nI_eq (by omega) (by omega)).mp (hr2.symm.trans hr)
  subst e2
  have hmc : mo_c r s = n2 := by show (r _).toNatClampNeg = n2; rw [hr, nI_clamp (by omega)]
  have hpg : pg_n M g = n2 := by unfold pg_n; rw [h9, nI_clamp (by omega)]
  obtain ⟨k0, -, -, -, -, -, -, k13, k14, k16, kr, kw⟩ := cv_l (c := c) hap hap2 hu hpp hn h9 hr hR n2 (Nat.le_refl _)
  have e14 : sc_ra M c g u c 14 = mo_S r s := by unfold sc_ra ra_e; rw [hpg, sk_ne (by omega), sk_ne (by omega), k14]; show _ = mo_te r s (mo_c r s); rw [hmc]
  have e15 : sc_ra M c g u c 15 = mo_cp r s := by
    unfold sc_ra ra_e mo_cp
    rw [hpg, sk_sm, k0 _ (by omega), k0 _ hap, hu 0 (by omega)]
    show sc_pc (0 + M (g + 9) 0 + M (g + 9) 1 + M (g + 9) 2) _ = _
    rw [hc 0 (by omega), hc 1 (by omega), hc 2 (by omega), Int32.zero_add]
  have e16 : sc_ra M c g u c 16 = mo_of r s (mo_c r s) := by
    unfold sc_ra ra_e
    rw [hpg, sk_ne (by omega), sk_sm, k16, k0 _ (by omega), h10, hmc, of_s]
  unfold cw
  refine ⟨?_, e14, e15, e16, by rw [e14, e15, e16]; rfl, fun x hx => ?_, fun x j hx hj => ?_⟩
  · unfold sc_ra ra_e
    rw [hpg, sk_ne (by omega), sk_ne (by omega), k13, hmc]
  · rw [hmc] at hx
    unfold sc_ra ra_e
    rw [hpg, sk_ne (by omega), sk_ne (by omega), sk_ne (by omega), sk_ne (by omega), sk_ne (by omega), sk_ne (by omega), sk_ne (by omega), sk_ne (by omega)]
    exact kr x hx
  · rw [hmc] at hx
    unfold sc_ra ra_e
    rw [hpg, sk_ne (by omega), sk_ne (by omega), sk_ne (by omega), sk_ne (by omega)]
    exact kw x j hx hj
