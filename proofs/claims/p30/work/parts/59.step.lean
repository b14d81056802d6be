/-! The two sides: one call on each -/
theorem er1z {P : Prop} [Decidable P] (h : er_1 P = 0) : P := Classical.byContradiction (fun q => by rw [er1n q] at h; omega)
theorem er2z {P Q : Prop} [Decidable P] [Decidable Q] (h : er_2 P Q = 0) : P ∧ Q := by
  by_cases p : P
  · by_cases q : Q
    · exact ⟨p, q⟩
    · rw [er2m p q] at h; omega
  · rw [er2n p] at h; omega
/-- what a call that may throw leaves: the exception's number, or the answer -/
def wx (er : Nat) (A : Int32) (B M : sk_M) (x : Nat) (r : Int32) (M' : sk_M) : Prop := x = er ∧ ((er = 0 ∧ r = A ∧ M' = B) ∨ (¬ er = 0 ∧ M' = M))
def s_ok (M2 : sk_M) (k w x : Nat) (r r2 : Int32) : Prop := M2 w 0 = nI x ∧ (x = 0 → r = r2) ∧ ∃ S, rl_C M2 k S ∧ rl_D M2 w S
/-- the objects' numbers are apart -/
def rl_ap (k w : Nat) : Prop := k + 804 ≤ w ∨ w + 16 ≤ k
def rl_o (k : Nat) (M N : sk_M) : Prop := ∀ a, (a < k ∨ k + 804 ≤ a) → N a = M a
def rl_i (w : Nat) (M N : sk_M) : Prop := ∀ a, (a < w ∨ w + 16 ≤ a) → N a = M a
theorem rl_k.o {k : Nat} {M N : sk_M} (h : rl_k k M N) : rl_o k M N := fun a ha => h a (by omega)
theorem rl_fr.w {k w : Nat} {M N : sk_M} (ap : rl_ap k w) (h : rl_i w M N) : rl_fr k M N := by
  unfold rl_ap at ap
  exact ⟨fun a a1 a2 => h a (by omega), by rw [h _ (by omega)], h _ (by omega)⟩
theorem rl_D.o {M N : sk_M} {k w : Nat} {S : rl_T} (D : rl_D M w S) (ap : rl_ap k w) (h : rl_o k M N) : rl_D N w S := by
  unfold rl_ap at ap
  have e : ∀ a, w ≤ a → a < w + 16 → N a = M a := fun a a1 a2 => h a (by omega)
  obtain ⟨d1, d2, d3, d4, d5, d6, d7⟩ := D
  exact ⟨by rw [e _ (by omega) (by omega)]; exact d1, by rw [e _ (by omega) (by omega)]; exact d2, by rw [e _ (by omega) (by omega)]; exact d3, by rw [e _ (by omega) (by omega)]; exact d4, by rw [e _ (by omega) (by omega)]; exact d5, by rw [e _ (by omega) (by omega)]; exact d6, by rw [e _ (by omega) (by omega)]; exact d7⟩
theorem mo_fr.i {w : Nat} {M N : sk_M} (h : mo_fr w M N) : rl_i w M N := fun a ha => h.1 a (by omega)
theorem mo_fr.e {w : Nat} {M : sk_M} {v : Int32} : mo_fr w M (sk_ms M w 0 v) := ⟨fun a ha => sk_nf (by omega), sk_ne (by omega), sk_ne (by omega)⟩
/-- what the model's contracts ask for -/
theorem rl_D.h {M M1 : sk_M} {k w : Nat} {S : rl_T} (C : rl_C M k S) (D : rl_D M1 w S) : S.m ≤ 4 ∧ M1 (w + 2) 0 = nI S.m ∧ (∀ s, s < S.m → mo_wp (M1 (w + 2)) s) ∧ M1 w 6 = nI S.c ∧ S.c ≤ 14 ∧ M1 w 2 = nI S.n ∧ S.n ≤ 120 ∧ ∀ i, i < S.n → ¬ M1 (w + 1) i < 0 ∧ ¬ 255 < M1 (w + 1) i := by
  obtain ⟨d1, d2, d3, d4, d5, d6, d7⟩ := D
  obtain ⟨o, H⟩ := C.2.1
  exact ⟨C.1.1, by rw [d1]; exact C.1.2.2.1, by rw [d1]; exact C.1.mm, d2, H.2.2.2.1, d6, C.2.2.2.1, fun i hi => by rw [d7]; exact (C.2.2.2.2.2 i hi).2⟩
theorem wx.k {er k x : Nat} {A r : Int32} {B M M1 : sk_M} (h : wx er A B M x r M1) (hB : er = 0 → rl_k k M B) : rl_k k M M1 := by
  rcases h.2 with ⟨h0, -, e⟩ | ⟨-, e⟩
  · rw [e]; exact hB h0
  · rw [e]; exact rl_k.r
theorem wx.o {er k x : Nat} {A r : Int32} {B M M1 : sk_M} (h : wx er A B M x r M1) (hB : er = 0 → rl_o k M B) : rl_o k M M1 := by
  rcases h.2 with ⟨h0, -, e⟩ | ⟨-, e⟩
  · rw [e]; exact hB h0
  · rw [e]; exact fun _ _ => rfl
theorem s_ask {M M1 M2 : sk_M} {k w x er er' : Nat} {A A' r r2 : Int32} {B : sk_M} {S : rl_T} (C : rl_C M k S) (D : rl_D M1 w S) (ap : rl_ap k w) (h : wx er A B M x r M1) (hB : er = 0 → rl_k k M B) (g : mo_z M1 w er' A' r2 M2) (he : er' = er) (hA : er = 0 → A = A') : s_ok M2 k w x r r2 := by
  refine ⟨g.2.1.trans (by rw [he, h.1]), fun hx => ?_, S, (C.f (rl_fr.o (h.k hB))).f (rl_fr.w ap g.2.2.i), D.f g.2.2⟩
  have h0 : er = 0 := h.1.symm.trans hx
  rcases h.2 with ⟨-, e, -⟩ | ⟨z, -⟩
  · rw [e, hA h0, g.1, if_pos (he.trans h0)]
  · exact absurd h0 z
theorem s_act {M M1 M2 : sk_M} {k w x er er' m : Nat} {A A' r r2 : Int32} {B : sk_M} {S : rl_T} {R : Nat → Int32} (C : rl_C M k S) (D : rl_D M1 w S) (ap : rl_ap k w) (h : wx er A B M x r M1) (g : mo_a M1 w S.c er' A' R r2 M2) (he : er' = er) (hC : er = 0 → rl_C B k (S.ac R m) ∧ A = A') : s_ok M2 k w x r r2 := by
  subst he
  obtain ⟨hx, h⟩ := h
  rcases g with ⟨g0, g1, g2, g3⟩ | ⟨g0, g1, g2⟩
  · rcases h with ⟨-, h1, h2⟩ | ⟨z, -⟩
    · subst h2
      exact ⟨by rw [hx, g0]; exact g2, fun _ => by rw [h1, g1, (hC g0).2], _, (hC g0).1.f (rl_fr.w ap (fun a ha => g3.2.2.2.2 a (by omega))), D.ac g3⟩
    · exact absurd g0 z
  · rcases h with ⟨z, -⟩ | ⟨-, h1⟩
    · exact absurd z g0
    · subst h1
      subst g2
      exact ⟨by rw [sk_sm, hx], fun z => absurd (hx.symm.trans z) g0, S, C.f (rl_fr.w ap mo_fr.e.i), D.f mo_fr.e⟩
theorem i_3 {a b : Int32} (h : a.toInt = b.toInt + 1) (j : Int32) : ¬ a ≤ j ↔ ¬ b < j := by
  rw [Int32.le_iff_toInt_le, Int32.lt_iff_toInt_lt]
  omega
theorem tx_e {M : sk_M} {k n : Nat} {t : Nat → Int32} (X : rl_X M k t n) : tx (M (k + 737)) n = tx t n := by
  funext a
  unfold tx
  by_cases h : a < n
  · rw [if_pos h, if_pos h]; exact (X.2.2 a h).1
  · rw [if_neg h, if_neg h]
theorem s_3 {M M1 M2 : sk_M} {k w x : Nat} {v r r2 : Int32} {S : rl_T} (C : rl_C M k S) (D : rl_D M w S) (ap : rl_ap k w) (h : wx (er_1 (¬ v < 0 ∧ ¬ 5 < v)) (x_ab M k v) (x_am M k v) M x r M1) (g : mo_z M1 w (er_1 (¬ v < 0 ∧ ¬ 5 < v)) (mo_ab (M1 (w + 2)) S.m v) r2 M2) : s_ok M2 k w x r r2 := by
  have D1 := D.o ap (h.k (fun _ => x_am_k)).o
  rw [D1.1] at g
  exact s_ask C D1 ap h (fun _ => x_am_k) g rfl (fun _ => q_ab C.1)
theorem s_4 {M M1 M2 : sk_M} {k w x : Nat} {s v r r2 : Int32} {S : rl_T} (C : rl_C M k S) (D : rl_D M w S) (ap : rl_ap k w) (h : wx (er_2 (st_hs M (k + 1) s) (¬ v < 0 ∧ ¬ 7 < v)) (x_sk M k s v) (if v = 5 then x_RK (x_R M k (st_pg (k + 1) s)) k else x_R M k (st_pg (k + 1) s)) M x r M1) (g : mo_z M1 w (er_2 (mo_hs (M1 (w + 2)) s) (¬ v < 0 ∧ ¬ 7 < v)) (mo_sk (M1 (w + 2)) s.toNatClampNeg S.m v) r2 M2) : s_ok M2 k w x r r2 := by
  have hB : rl_k k M (if v = 5 then x_RK (x_R M k (st_pg (k + 1) s)) k else x_R M k (st_pg (k + 1) s)) := by
    split
    · exact x_R_k.t x_RK_k
    · exact x_R_k
  have D1 := D.o ap (h.k (fun _ => hB)).o
  rw [D1.1] at g
  exact s_ask C D1 ap h (fun _ => hB) g (er2_c C.1.hs.symm (fun _ => Iff.rfl)) (fun z => q_sk C.1 (C.1.hs.mp (er2z z).1))
theorem s_5 {M M1 M2 : sk_M} {k w x : Nat} {s e v r r2 : Int32} {S : rl_T} (C : rl_C M k S) (D : rl_D M w S) (ap : rl_ap k w) (h : wx (er_2 (st_he M (k + 1) s e) (¬ v < 0 ∧ ¬ 8 < v)) (x_el M k s e v) (x_R M k (st_pg (k + 1) s)) M x r M1) (g : mo_z M1 w (er_2 (mo_he (M1 (w + 2)) s e) (¬ v < 0 ∧ ¬ 8 < v)) (mo_el (M1 (w + 2)) s.toNatClampNeg e.toNatClampNeg v) r2 M2) : s_ok M2 k w x r r2 := by
  have D1 := D.o ap (h.k (fun _ => x_R_k)).o
  rw [D1.1] at g
  exact s_ask C D1 ap h (fun _ => x_R_k) g (er2_c C.1.he.symm (fun _ => Iff.rfl)) (fun z => q_el C.1 (C.1.he.mp (er2z z).1))
theorem s_6 {M M1 M2 : sk_M} {k w x : Nat} {s e p v r r2 : Int32} {S : rl_T} (C : rl_C M k S) (D : rl_D M w S) (ap : rl_ap k w) (h : wx (er_2 (st_hp M (k + 1) s e p) (¬ v < 0 ∧ ¬ 4 < v)) (x_pa M k s e p v) (x_pm M k s v) M x r M1) (g : mo_z M1 w (er_2 (mo_hp (M1 (w + 2)) s e p) (¬ v < 0 ∧ ¬ 4 < v)) (mo_pa (M1 (w + 2)) s.toNatClampNeg e.toNatClampNeg p.toNatClampNeg v) r2 M2) : s_ok M2 k w x r r2 := by
  have D1 := D.o ap (h.k (fun _ => x_pm_k)).o
  rw [D1.1] at g
  exact s_ask C D1 ap h (fun _ => x_pm_k) g (er2_c C.1.hp.symm (fun _ => Iff.rfl)) (fun z => q_pa C.1 (C.1.hp.mp (er2z z).1) (er2z z).2)
theorem i_5 {j : Int32} : (¬ j < 0 ∧ ¬ 5 ≤ j) ↔ (¬ j < 0 ∧ ¬ 4 < j) := and_congr Iff.rfl (i_3 rfl j)
theorem s_7 {M M1 M2 : sk_M} {k w x : Nat} {v r r2 : Int32} {S : rl_T} (C : rl_C M k S) (D : rl_D M w S) (ap : rl_ap k w) (h : wx (er_1 (¬ v < 0 ∧ ¬ 5 ≤ v)) (M (k + 3) v.toNatClampNeg) M M x r M1) (g : mo_z M1 w (er_1 (¬ v < 0 ∧ ¬ 4 < v)) (M1 (w + 2) (1 + v.toNatClampNeg)) r2 M2) : s_ok M2 k w x r r2 := by
  have D1 := D.o ap (h.k (fun _ => rl_k.r)).o
  rw [D1.1] at g
  exact s_ask C D1 ap h (fun _ => rl_k.r) g (er1_c i_5.symm) (fun z => C.1.2.2.2.1 _ (sk_ix (y := 5) (m := 5) (er1z z) rfl (by decide)).2)
theorem s_18 {M M1 M2 : sk_M} {k w x : Nat} {s e p v r r2 : Int32} {S : rl_T} (C : rl_C M k S) (D : rl_D M w S) (ap : rl_ap k w) (h : wx (x_ck M (k + 1) s e p v) (x_ic M k s e p v (k + 738) 14 + x_ic M k s e p v (k + 738) 15 - x_ic M k s e p v (k + 738) 16) (x_ic M k s e p v) M x r M1) (g : mo_z M1 w (mo_wc (M1 (w + 2)) s e p v) (mo_zc M1 w s e p v) r2 M2) : s_ok M2 k w x r r2 := by
  have D1 := D.o ap (h.k (fun _ => x_ic_k)).o
  unfold mo_zc at g
  rw [D1.1] at g
  exact s_ask C D1 ap h (fun _ => x_ic_k) g C.1.ck.symm (fun z => q_ic C.1 (C.1.ck.symm.trans z))
theorem s_20 {M M1 M2 : sk_M} {k w x : Nat} {s v r r2 : Int32} {S : rl_T} (C : rl_C M k S) (D : rl_D M w S) (ap : rl_ap k w) (h : wx (er_2 (st_hs M (k + 1) s) (¬ v < 0 ∧ ¬ 2 < v)) (bs_a (bs_o k (st_pg (k + 1) s) (pg_n M (st_pg (k + 1) s)) (bs_z M k (st_pg (k + 1) s)) (pg_n M (st_pg (k + 1) s))) v) ((bs_o k (st_pg (k + 1) s) (pg_n M (st_pg (k + 1) s)) (bs_z M k (st_pg (k + 1) s)) (pg_n M (st_pg (k + 1) s))).1) M x r M1) (g : mo_z M1 w (er_2 (mo_hs (M1 (w + 2)) s) (¬ v < 0 ∧ ¬ 2 < v)) (mb_a (mb_o w s.toNatClampNeg (mo_c (M1 (w + 2)) s.toNatClampNeg) (mb_z M1 w) (mo_c (M1 (w + 2)) s.toNatClampNeg)) v) r2 M2) : s_ok M2 k w x r r2 := by
  have hB : er_2 (st_hs M (k + 1) s) (¬ v < 0 ∧ ¬ 2 < v) = 0 → rl_k k M ((bs_o k (st_pg (k + 1) s) (pg_n M (st_pg (k + 1) s)) (bs_z M k (st_pg (k + 1) s)) (pg_n M (st_pg (k + 1) s))).1) := fun z => by
    have hs := C.1.hs.mp (er2z z).1
    have hx := (C.1.hx hs).2
    have h4 := C.1.1
    exact bs_k (s := s) (by unfold st_pg; omega) (C.1.P hs).wf
  have D1 := D.o ap (h.k hB).o
  exact s_ask C D1 ap h hB g (er2_c (by rw [D1.1]; exact C.1.hs.symm) (fun _ => Iff.rfl)) (fun z => q_bs C.1 (C.1.hs.mp (er2z z).1) D1.1)
theorem s_22 {M M1 M2 : sk_M} {k w x : Nat} {s r r2 : Int32} {S : rl_T} (C : rl_C M k S) (D : rl_D M w S) (ap : rl_ap k w) (h : wx (er_1 (st_hs M (k + 1) s)) (x_be M k s) (x_RK M k) M x r M1) (g : mo_z M1 w (er_1 (mo_hs (M1 (w + 2)) s)) (mo_T (M1 (w + 2)) (mo_w (mo_T (M1 (w + 2))) (mo_S (M1 (w + 2))) S.m) - mo_T (M1 (w + 2)) s.toNatClampNeg) r2 M2) : s_ok M2 k w x r r2 := by
  have D1 := D.o ap (h.k (fun _ => x_RK_k)).o
  rw [D1.1] at g
  exact s_ask C D1 ap h (fun _ => x_RK_k) g (er1_c C.1.hs.symm) (fun z => q_be C.1 (C.1.hs.mp (er1z z)))
theorem s_24 {M M1 M2 : sk_M} {k w x : Nat} {y : Int64} {v r r2 : Int32} {S : rl_T} (C : rl_C M k S) (D : rl_D M w S) (ap : rl_ap k w) (h : wx (er_1 (¬ v < 1 ∧ ¬ 60 < v)) (sk_sum (si_e M k y v.toNatClampNeg (k + 748)) (st_n (si_m M k y v.toNatClampNeg) (k + 751))) (si_e M k y v.toNatClampNeg) M x r M1) (g : mo_z M1 w (er_1 (¬ v < 1 ∧ ¬ 60 < v)) (sk_sum (mo_T (mt_s (mu_c (M1 (w + 2)) (M1 (w + 3))) y v.toNatClampNeg)) S.m) r2 M2) : s_ok M2 k w x r r2 := by
  have hB := si_e_k (x := y) C.1.wf v.toNatClampNeg
  have D1 := D.o ap (h.k (fun _ => hB)).o
  rw [D1.1] at g
  exact s_ask C D1 ap h (fun _ => hB) g rfl (fun _ => q_si C.1 _)
