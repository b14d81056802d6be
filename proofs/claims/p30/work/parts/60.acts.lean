/-! The two sides: one call on each, actions -/
theorem rl_o.ms {k a j : Nat} {M N : sk_M} {v : Int32} (g : rl_o k M N) (h : k ≤ a ∧ a < k + 804) : rl_o k M (sk_ms N a j v) := fun x hx => by rw [sk_nf (by omega)]; exact g x hx
theorem rl_o.if {P : Prop} [Decidable P] {k : Nat} {M N N' : sk_M} (h : rl_o k M N) (g : rl_o k M N') : rl_o k M (if P then N' else N) := by
  by_cases q : P
  · rw [if_pos q]; exact g
  · rw [if_neg q]; exact h
theorem re_o {M : sk_M} {k o : Nat} {S : rl_T} (C : rl_C M k S) (H : rl_H M k o S.c S.d) : rl_o k M (x_re M k o S.c) := fun a ha => (C.re H).2 a (by omega)
theorem re_mm {M : sk_M} {k o d j : Nat} {S : rl_T} {s v : Int32} {P : Prop} [Decidable P] (C : rl_C M k S) (H : rl_H M k o S.c S.d) (h : mo_hs S.r s) (hd : d < 10) : rl_o k M (if P then sk_ms (x_re M k o S.c) (st_pg (k + 1) s + d) j v else x_re M k o S.c) := by
  have hx := (C.1.hx h).2
  have h4 := C.1.1
  exact (re_o C H).if ((re_o C H).ms (by unfold st_pg; omega))
theorem s_10 {M M1 M2 : sk_M} {k w x o : Nat} {s e v r r2 : Int32} {S : rl_T} (C : rl_C M k S) (D : rl_D M w S) (ap : rl_ap k w) (H : rl_H M k o S.c S.d) (h : wx (er_2 (st_he M (k + 1) s e) (¬ v < 0 ∧ ¬ 161050 < v)) (x_kn v) (if st_he (x_re M k o S.c) (k + 1) s e then sk_ms (x_re M k o S.c) (st_pg (k + 1) s + 3) e.toNatClampNeg (x_kn v) else x_re M k o S.c) M x r M1) (g : mo_a M1 w S.c (er_2 (mo_he (M1 (w + 2)) s e) (¬ v < 0 ∧ ¬ 161050 < v)) (mo_ke (my_w (M1 (w + 2)) (23 + 233 * s.toNatClampNeg + 18 * e.toNatClampNeg + 11) v 11 5 5) (23 + 233 * s.toNatClampNeg + 18 * e.toNatClampNeg + 11)) (my_w (M1 (w + 2)) (23 + 233 * s.toNatClampNeg + 18 * e.toNatClampNeg + 11) v 11 5 5) r2 M2) : s_ok M2 k w x r r2 := by
  have D1 := D.o ap (h.o (fun z => re_mm C H (C.1.he.mp (er2z z).1).1 (by decide)))
  rw [D1.1] at g
  exact s_act C D1 ap h g (er2_c C.1.he.symm (fun _ => Iff.rfl)) (fun z => t_mark C H (C.1.he.mp (er2z z).1) (er2z z).2)
theorem s_11 {M M1 M2 : sk_M} {k w x o : Nat} {s j v r r2 : Int32} {S : rl_T} (C : rl_C M k S) (D : rl_D M w S) (ap : rl_ap k w) (H : rl_H M k o S.c S.d) (h : wx (er_2 (st_hs M (k + 1) s ∧ ¬ j < 0 ∧ ¬ 3 ≤ j) (¬ v < 0 ∧ ¬ 115856200 < v)) (x_cn v) (if st_hs (x_re M k o S.c) (k + 1) s ∧ ¬ j < 0 ∧ ¬ 3 ≤ j then sk_ms (x_re M k o S.c) (st_pg (k + 1) s + 9) j.toNatClampNeg (x_cn v) else x_re M k o S.c) M x r M1) (g : mo_a M1 w S.c (er_2 (mo_hs (M1 (w + 2)) s ∧ ¬ j < 0 ∧ ¬ 2 < j) (¬ v < 0 ∧ ¬ 115856200 < v)) (mo_oc (my_w (M1 (w + 2)) (6 + 233 * s.toNatClampNeg + 2 + 5 * j.toNatClampNeg) v 41 0 5) s.toNatClampNeg j.toNatClampNeg) (my_w (M1 (w + 2)) (6 + 233 * s.toNatClampNeg + 2 + 5 * j.toNatClampNeg) v 41 0 5) r2 M2) : s_ok M2 k w x r r2 := by
  have D1 := D.o ap (h.o (fun z => re_mm C H (C.1.hs.mp (er2z z).1.1) (by decide)))
  rw [D1.1] at g
  exact s_act C D1 ap h g (er2_c (and_congr C.1.hs.symm (and_congr Iff.rfl (i_3 rfl j).symm)) (fun _ => Iff.rfl)) (fun z => t_comp C H (C.1.hs.mp (er2z z).1.1) (er2z z).1.2 (er2z z).2)
theorem s_12 {M M1 M2 : sk_M} {k w x o : Nat} {s e p v r r2 : Int32} {S : rl_T} (C : rl_C M k S) (D : rl_D M w S) (ap : rl_ap k w) (H : rl_H M k o S.c S.d) (h : wx (x_ck M (k + 1) s e p v) (x_re M k o S.c (st_pg (k + 1) s + 8) (3 * e.toNatClampNeg + p.toNatClampNeg)) (if st_cc (x_re M k o S.c) (k + 1) s e p v then sk_ms (x_re M k o S.c) (st_pg (k + 1) s + 8) (3 * e.toNatClampNeg + p.toNatClampNeg) v else x_re M k o S.c) M x r M1) (g : mo_a M1 w S.c (mo_wc (M1 (w + 2)) s e p v) (M1 (w + 2) (25 + 233 * s.toNatClampNeg + 18 * e.toNatClampNeg + 3 * p.toNatClampNeg + 2)) (mu_u (M1 (w + 2)) (25 + 233 * s.toNatClampNeg + 18 * e.toNatClampNeg + 3 * p.toNatClampNeg + 2) v) r2 M2) : s_ok M2 k w x r r2 := by
  have D1 := D.o ap (h.o (fun z => re_mm C H (ck_0 (C.1.ck.symm.trans z)).1.1.1 (by decide)))
  rw [D1.1] at g
  exact s_act C D1 ap h g C.1.ck.symm (fun z => t_call C H (C.1.ck.symm.trans z))
theorem s_13 {M M1 M2 : sk_M} {k w x o : Nat} {s e b r r2 : Int32} {S : rl_T} (C : rl_C M k S) (D : rl_D M w S) (ap : rl_ap k w) (H : rl_H M k o S.c S.d) (h : wx (er_1 (st_he M (k + 1) s e)) (st_rv (if st_he (x_re M k o S.c) (k + 1) s e then sk_ms (x_re M k o S.c) (st_pg (k + 1) s + 5) e.toNatClampNeg (if b = 0 then 0 else 1) else x_re M k o S.c) (k + 1)) (if st_he (x_re M k o S.c) (k + 1) s e then sk_ms (x_re M k o S.c) (st_pg (k + 1) s + 5) e.toNatClampNeg (if b = 0 then 0 else 1) else x_re M k o S.c) M x r M1) (g : mo_a M1 w S.c (er_1 (mo_he (M1 (w + 2)) s e)) (sk_sum (fun q => sk_sum (fun z => (mu_u (M1 (w + 2)) (23 + 233 * s.toNatClampNeg + 18 * e.toNatClampNeg + 17) (if b = 0 then 0 else 1)) (23 + 233 * q + 18 * z + 17)) (mo_c (mu_u (M1 (w + 2)) (23 + 233 * s.toNatClampNeg + 18 * e.toNatClampNeg + 17) (if b = 0 then 0 else 1)) q)) S.m) (mu_u (M1 (w + 2)) (23 + 233 * s.toNatClampNeg + 18 * e.toNatClampNeg + 17) (if b = 0 then 0 else 1)) r2 M2) : s_ok M2 k w x r r2 := by
  have D1 := D.o ap (h.o (fun z => re_mm C H (C.1.he.mp (er1z z)).1 (by decide)))
  rw [D1.1] at g
  exact s_act C D1 ap h g (er1_c C.1.he.symm) (fun z => t_rev C H (C.1.he.mp (er1z z)))
theorem s_14 {M M1 M2 : sk_M} {k w x o : Nat} {s e b r r2 : Int32} {S : rl_T} (C : rl_C M k S) (D : rl_D M w S) (ap : rl_ap k w) (H : rl_H M k o S.c S.d) (h : wx (er_1 (st_he M (k + 1) s e)) (sk_sum ((if st_he (x_re M k o S.c) (k + 1) s e then sk_ms (x_re M k o S.c) (st_pg (k + 1) s + 4) e.toNatClampNeg (if b = 0 then 0 else 1) else x_re M k o S.c) (st_pg (k + 1) s + 4)) (pg_n (if st_he (x_re M k o S.c) (k + 1) s e then sk_ms (x_re M k o S.c) (st_pg (k + 1) s + 4) e.toNatClampNeg (if b = 0 then 0 else 1) else x_re M k o S.c) (st_pg (k + 1) s))) (if st_he (x_re M k o S.c) (k + 1) s e then sk_ms (x_re M k o S.c) (st_pg (k + 1) s + 4) e.toNatClampNeg (if b = 0 then 0 else 1) else x_re M k o S.c) M x r M1) (g : mo_a M1 w S.c (er_1 (mo_he (M1 (w + 2)) s e)) (sk_sum (fun z => (mu_u (M1 (w + 2)) (23 + 233 * s.toNatClampNeg + 18 * e.toNatClampNeg + 16) (if b = 0 then 0 else 1)) (23 + 233 * s.toNatClampNeg + 18 * z + 16)) (mo_c (M1 (w + 2)) s.toNatClampNeg)) (mu_u (M1 (w + 2)) (23 + 233 * s.toNatClampNeg + 18 * e.toNatClampNeg + 16) (if b = 0 then 0 else 1)) r2 M2) : s_ok M2 k w x r r2 := by
  have D1 := D.o ap (h.o (fun z => re_mm C H (C.1.he.mp (er1z z)).1 (by decide)))
  rw [D1.1] at g
  exact s_act C D1 ap h g (er1_c C.1.he.symm) (fun z => t_fall C H (C.1.he.mp (er1z z)))
theorem s_15 {M M1 M2 : sk_M} {k w x o : Nat} {s v r r2 : Int32} {S : rl_T} (C : rl_C M k S) (D : rl_D M w S) (ap : rl_ap k w) (H : rl_H M k o S.c S.d) (h : wx (er_2 (st_hs M (k + 1) s) (¬ v < 0 ∧ ¬ 9 < v)) (x_re M k o S.c (st_pg (k + 1) s) 10) (if st_hs (x_re M k o S.c) (k + 1) s then sk_ms (x_re M k o S.c) (st_pg (k + 1) s) 10 v else x_re M k o S.c) M x r M1) (g : mo_a M1 w S.c (er_2 (mo_hs (M1 (w + 2)) s) (¬ v < 0 ∧ ¬ 9 < v)) (M1 (w + 2) (6 + 233 * s.toNatClampNeg + 1)) (mu_u (M1 (w + 2)) (6 + 233 * s.toNatClampNeg + 1) v) r2 M2) : s_ok M2 k w x r r2 := by
  have D1 := D.o ap (h.o (fun z => re_mm (d := 0) C H (C.1.hs.mp (er2z z).1) (by decide)))
  rw [D1.1] at g
  exact s_act C D1 ap h g (er2_c C.1.hs.symm (fun _ => Iff.rfl)) (fun z => t_pen C H (C.1.hs.mp (er2z z).1))
theorem s_16 {M M1 M2 : sk_M} {k w x o : Nat} {a v r r2 : Int32} {S : rl_T} (C : rl_C M k S) (D : rl_D M w S) (ap : rl_ap k w) (H : rl_H M k o S.c S.d) (h : wx (er_1 (st_fi a v)) (x_re M k o S.c (k + 3) a.toNatClampNeg) (if st_fi a v then sk_ms (x_re M k o S.c) (k + 1 + 2) a.toNatClampNeg v else x_re M k o S.c) M x r M1) (g : mo_a M1 w S.c (er_1 (st_fi a v)) (M1 (w + 2) (1 + a.toNatClampNeg)) (mu_u (M1 (w + 2)) (1 + a.toNatClampNeg) v) r2 M2) : s_ok M2 k w x r r2 := by
  have D1 := D.o ap (h.o (fun z => (re_o C H).if ((re_o C H).ms (by omega))))
  rw [D1.1] at g
  exact s_act C D1 ap h g rfl (fun z => t_sett C H (er1z z))
theorem ad_o {M : sk_M} {k o : Nat} {S : rl_T} (C : rl_C M k S) (H : rl_H M k o S.c S.d) (h : S.m < 4) : rl_o k M (x_ad M k o S.c S.m) := fun a ha => by
  unfold x_ad
  rw [sk_nf (by omega), pg_cl_f (by omega)]
  exact re_o C H a ha
theorem s_8 {M M1 M2 : sk_M} {k w x o : Nat} {r r2 : Int32} {S : rl_T} (C : rl_C M k S) (D : rl_D M w S) (ap : rl_ap k w) (H : rl_H M k o S.c S.d) (h : wx (er_1 (S.m < 4)) (nI S.m) (x_ad M k o S.c S.m) M x r M1) (g : mo_a M1 w S.c (er_1 (S.m < 4)) (nI S.m) (mu_u (mz_r (M1 (w + 2)) (6 + 233 * S.m) 233) 0 (nI (S.m + 1))) r2 M2) : s_ok M2 k w x r r2 := by
  have D1 := D.o ap (h.o (fun z => ad_o C H (er1z z)))
  rw [D1.1] at g
  exact s_act C D1 ap h g rfl (fun z => ⟨t_add C H (er1z z), rfl⟩)
/-- the model's own end, given whole -/
theorem s_q {M M1 M2 : sk_M} {k w x er er' : Nat} {A A' r r2 : Int32} {B B' : sk_M} {S : rl_T} (C : rl_C M k S) (D : rl_D M1 w S) (ap : rl_ap k w) (h : wx er A B M x r M1) (g : mo_q M1 w er' A' B' r2 M2) (he : er' = er) (hi : rl_i w M1 B') (h0 : B' w 0 = 0) (hC : er = 0 → ∃ S', rl_C B k S' ∧ rl_D B' w S' ∧ A = A') : s_ok M2 k w x r r2 := by
  subst he
  obtain ⟨hx, h⟩ := h
  rcases g with ⟨g0, g1, g2⟩ | ⟨g0, g1, g2⟩
  · rcases h with ⟨-, h1, h2⟩ | ⟨z, -⟩
    · subst h2
      subst g2
      obtain ⟨S', c1, c2, c3⟩ := hC g0
      exact ⟨by rw [hx, g0]; exact h0, fun _ => by rw [h1, g1, c3], S', c1.f (rl_fr.w ap hi), c2⟩
    · exact absurd g0 z
  · rcases h with ⟨z, -⟩ | ⟨-, h1⟩
    · exact absurd z g0
    · subst h1
      subst g2
      exact ⟨by rw [sk_sm, hx], fun z => absurd (hx.symm.trans z) g0, S, C.f (rl_fr.w ap mo_fr.e.i), D.f mo_fr.e⟩
theorem s_0 {M M1 M2 : sk_M} {k w x : Nat} {v r r2 : Int32} {S : rl_T} (C : rl_C M k S) (D : rl_D M w S) (ap : rl_ap k w) (h : wx (er_2 (¬ v < 0 ∧ ¬ 255 < v) (S.n < 120)) (nI (S.n + 1)) (sk_ms (sk_ms M (k + 736 + 1) S.n v) (k + 736) 1 (M (k + 736) 1 + 1)) M x r M1) (g : mo_q M1 w (er_2 (¬ v < 0 ∧ ¬ 255 < v) (S.n < 120)) (nI (S.n + 1)) (sk_ms (sk_ms (sk_ms M1 w 0 0) (w + 1) S.n v) w 2 (nI (S.n + 1))) r2 M2) : s_ok M2 k w x r r2 := by
  have D1 := D.o ap (h.o (fun z => ((show rl_o k M M from fun _ _ => rfl).ms (by omega)).ms (by omega)))
  refine s_q C D1 ap h g rfl (fun a ha => by rw [sk_nf (by omega), sk_nf (by omega), sk_nf (by omega)]) (by rw [sk_ne (by omega), sk_ne (by omega), sk_sm]) (fun z => ⟨_, t_app C (er2z z).1 (er2z z).2 _ rfl, ?_, rfl⟩)
  obtain ⟨d1, d2, d3, d4, d5, d6, d7⟩ := D1
  refine ⟨?_, ?_, ?_, ?_, ?_, sk_sm, ?_⟩
  · rw [sk_nf (by omega), sk_nf (by omega), sk_nf (by omega)]; exact d1
  · rw [sk_ne (by omega), sk_ne (by omega), sk_ne (by omega)]; exact d2
  · rw [sk_nf (by omega), sk_nf (by omega), sk_nf (by omega)]; exact d3
  · rw [sk_nf (by omega), sk_nf (by omega), sk_nf (by omega)]; exact d4
  · rw [sk_nf (by omega), sk_nf (by omega), sk_nf (by omega)]; exact d5
  · rw [sk_nf (by omega), sk_msu, sk_nf (by omega), d7]; rfl
theorem s_17 {M M1 M2 : sk_M} {k w x o : Nat} {r r2 : Int32} {S : rl_T} (C : rl_C M k S) (D : rl_D M w S) (ap : rl_ap k w) (H : rl_H M k o S.c S.d) (h : wx (er_1 (0 < S.c)) ((if 0 < S.c then hs_tb M (k + 44) (k + 1) o S.c else M) (k + 44) 2) (if 0 < S.c then hs_tb M (k + 44) (k + 1) o S.c else M) M x r M1) (g : mo_q M1 w (er_1 (0 < S.c)) (nI (S.c - 1)) (mc_m (sk_ms (sk_ms M1 w 0 0) w 6 (nI (S.c - 1))) (w + 4) (w + 2) (938 * (S.c - 1)) 0 938) r2 M2) : s_ok M2 k w x r r2 := by
  have D1 := D.o ap (h.o (fun z => by
    rw [if_pos (er1z z)]
    exact fun a ha => (H.tb (er1z z)).2.2 a (by omega) (by omega)))
  refine s_q C D1 ap h g rfl (fun a ha => by rw [mc_m_f (by omega), sk_nf (by omega), sk_nf (by omega)]) (by rw [mc_m_f (by omega), sk_ne (by omega), sk_sm]) (fun z => ?_)
  obtain ⟨m, hm⟩ := t_undo C H (er1z z)
  obtain ⟨d1, d2, d3, d4, d5, d6, d7⟩ := D1
  have e4 : ∀ y, sk_ms (sk_ms M1 w 0 0) w 6 (nI (S.c - 1)) (w + 4) y = S.d y := fun y => by rw [sk_ne (by omega), sk_ne (by omega), d3]
  obtain ⟨c1, c2⟩ := hm (mc_m (sk_ms (sk_ms M1 w 0 0) w 6 (nI (S.c - 1))) (w + 4) (w + 2) (938 * (S.c - 1)) 0 938 (w + 2)) S.d (fun y hy => by rw [mc_m_v, if_pos (by omega), e4]; rfl) (fun y hy => rfl)
  refine ⟨_, c1, ⟨rfl, ?_, ?_, ?_, ?_, ?_, ?_⟩, c2⟩
  · rw [mc_m_f (by omega), sk_sm]; rfl
  · rw [mc_m_f (by omega)]; exact funext e4
  · rw [mc_m_f (by omega), sk_nf (by omega), sk_nf (by omega)]; exact d4
  · rw [mc_m_f (by omega), sk_nf (by omega), sk_nf (by omega)]; exact d5
  · rw [mc_m_f (by omega), sk_ne (by omega), sk_ne (by omega)]; exact d6
  · rw [mc_m_f (by omega), sk_nf (by omega), sk_nf (by omega)]; exact d7
theorem i_2 {j : Int32} : (¬ j < 0 ∧ ¬ 2 ≤ j) ↔ (¬ j < 0 ∧ ¬ 1 < j) := and_congr Iff.rfl (i_3 rfl j)
theorem s_25 {M M1 M2 : sk_M} {k w x : Nat} {j r r2 : Int32} {S : rl_T} (C : rl_C M k S) (D : rl_D M w S) (ap : rl_ap k w) (h : wx (er_1 (¬ j < 0 ∧ ¬ 2 ≤ j)) (sk_ms (st_cf M (k + 649 + 43 * j.toNatClampNeg) (k + 1)) (k + 735) j.toNatClampNeg 1 (k + 1) 2) (sk_ms (st_cf M (k + 649 + 43 * j.toNatClampNeg) (k + 1)) (k + 735) j.toNatClampNeg 1) M x r M1) (g : mo_q M1 w (er_1 (¬ j < 0 ∧ ¬ 1 < j)) (M1 (w + 2) 0) (sk_ms (mc_m (sk_ms M1 w 0 0) (w + 2) (w + 5) 0 (938 * j.toNatClampNeg) 938) (w + 6) j.toNatClampNeg 1) r2 M2) : s_ok M2 k w x r r2 := by
  have D1 := D.o ap (h.o (fun z => by
    have hj := t_2 (er1z z)
    exact fun a ha => by rw [sk_nf (by omega), st_cf_f C.1.wf (by omega)]))
  refine s_q C D1 ap h g (er1_c i_2.symm) (fun a ha => by rw [sk_nf (by omega), mc_m_f (by omega), sk_nf (by omega)]) (by rw [sk_ne (by omega), mc_m_f (by omega), sk_sm]) (fun z => ?_)
  obtain ⟨d1, d2, d3, d4, d5, d6, d7⟩ := D1
  obtain ⟨c1, c2⟩ := t_save C (er1z z) (mc_m (sk_ms M1 w 0 0) (w + 2) (w + 5) 0 (938 * j.toNatClampNeg) 938 (w + 5)) (fun y => by rw [mc_m_v, Nat.zero_add, sk_nf (by omega), sk_nf (by omega), d1, d4])
  refine ⟨_, c1, ⟨?_, ?_, ?_, ?_, ?_, ?_, ?_⟩, by rw [c2, d1]⟩
  · rw [sk_nf (by omega), mc_m_f (by omega), sk_nf (by omega)]; exact d1
  · rw [sk_ne (by omega), mc_m_f (by omega), sk_ne (by omega)]; exact d2
  · rw [sk_nf (by omega), mc_m_f (by omega), sk_nf (by omega)]; exact d3
  · rw [sk_nf (by omega)]; rfl
  · rw [sk_msu, mc_m_f (by omega), sk_nf (by omega), d5]; rfl
  · rw [sk_ne (by omega), mc_m_f (by omega), sk_ne (by omega)]; exact d6
  · rw [sk_nf (by omega), mc_m_f (by omega), sk_nf (by omega)]; exact d7
theorem s_26 {M M1 M2 : sk_M} {k w x : Nat} {j r r2 : Int32} {S : rl_T} (C : rl_C M k S) (D : rl_D M w S) (ap : rl_ap k w) (h : wx (er_2 (¬ j < 0 ∧ ¬ 2 ≤ j) (¬ M (k + 735) j.toNatClampNeg = 0)) (sk_ms (st_cf M (k + 1) (k + 649 + 43 * j.toNatClampNeg)) (k + 44) 2 0 (k + 1) 2) (sk_ms (st_cf M (k + 1) (k + 649 + 43 * j.toNatClampNeg)) (k + 44) 2 0) M x r M1) (g : mo_q M1 w (er_2 (¬ j < 0 ∧ ¬ 1 < j) (¬ M1 (w + 6) j.toNatClampNeg = 0)) (M1 (w + 5) (938 * j.toNatClampNeg)) (sk_ms (mc_m (sk_ms M1 w 0 0) (w + 5) (w + 2) (938 * j.toNatClampNeg) 0 938) w 6 0) r2 M2) : s_ok M2 k w x r r2 := by
  have D1 := D.o ap (h.o (fun z => by
    obtain ⟨z1, z2⟩ := er2z z
    have hj := t_2 z1
    obtain ⟨v1, v2⟩ := C.2.2.1 _ hj
    obtain ⟨m, Rj⟩ := v2.resolve_left (fun q => z2 (v1.trans q))
    exact fun a ha => by rw [sk_nf (by omega), st_cf_f Rj.wf (by omega)]))
  have he : er_2 (¬ j < 0 ∧ ¬ 1 < j) (¬ M1 (w + 6) j.toNatClampNeg = 0) = er_2 (¬ j < 0 ∧ ¬ 2 ≤ j) (¬ M (k + 735) j.toNatClampNeg = 0) := er2_c i_2.symm (fun z => by rw [D1.2.2.2.2.1, (C.2.2.1 _ (t_2 z)).1])
  refine s_q C D1 ap h g he (fun a ha => by rw [sk_nf (by omega), mc_m_f (by omega), sk_nf (by omega)]) (by rw [sk_ne (by omega), mc_m_f (by omega), sk_sm]) (fun z => ?_)
  obtain ⟨m, hm⟩ := t_rest C (er2z z).1 (er2z z).2
  obtain ⟨d1, d2, d3, d4, d5, d6, d7⟩ := D1
  obtain ⟨c1, c2⟩ := hm (mc_m (sk_ms M1 w 0 0) (w + 5) (w + 2) (938 * j.toNatClampNeg) 0 938 (w + 2)) (fun y hy => by rw [mc_m_v, if_pos (by omega), sk_nf (by omega), d4, Nat.sub_zero])
  refine ⟨_, c1, ⟨?_, ?_, ?_, ?_, ?_, ?_, ?_⟩, by rw [c2, d4]⟩
  · rw [sk_nf (by omega)]; rfl
  · rw [sk_sm]; rfl
  · rw [sk_nf (by omega), mc_m_f (by omega), sk_nf (by omega)]; exact d3
  · rw [sk_nf (by omega), mc_m_f (by omega), sk_nf (by omega)]; exact d4
  · rw [sk_nf (by omega), mc_m_f (by omega), sk_nf (by omega)]; exact d5
  · rw [sk_ne (by omega), mc_m_f (by omega), sk_ne (by omega)]; exact d6
  · rw [sk_nf (by omega), mc_m_f (by omega), sk_nf (by omega)]; exact d7
