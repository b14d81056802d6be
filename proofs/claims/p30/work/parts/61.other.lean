/-! The two sides: one call on each, the others -/
/-- what a guarded call leaves: the answer and 0, or the exception's place among those it is guarded against -/
def wv (ns : List String) (post : Int32 → sk_M → Prop) (xpost : String → sk_M → Prop) (x : Nat) (r : Int32) (M' : sk_M) : Prop := (x = 0 ∧ post r M') ∨ ∃ (i : Nat) (E : String), ns[i]? = some E ∧ x = i + 1 ∧ xpost E M'
theorem wv1 {e1 : String} {er x : Nat} {A r : Int32} {B M M' : sk_M} (h : wv [e1] (fun r M' => er = 0 ∧ r = A ∧ M' = B) (fun E M' => (er = 1 ∧ E = e1) ∧ M' = M) x r M') : wx er A B M x r M' := by
  rcases h with ⟨h1, h2, h3, h4⟩ | ⟨i, E, h1, h2, ⟨h3, h5⟩, h4⟩
  · exact ⟨h1.trans h2.symm, Or.inl ⟨h2, h3, h4⟩⟩
  · match i with
    | 0 => exact ⟨h2.trans h3.symm, Or.inr ⟨by omega, h4⟩⟩
    | i + 1 => simp at h1
theorem wv2 {e1 e2 : String} {er x : Nat} {A r : Int32} {B M M' : sk_M} (ne : e1 ≠ e2) (h : wv [e1, e2] (fun r M' => er = 0 ∧ r = A ∧ M' = B) (fun E M' => (er = 1 ∧ E = e1 ∨ er = 2 ∧ E = e2) ∧ M' = M) x r M') : wx er A B M x r M' := by
  rcases h with ⟨h1, h2, h3, h4⟩ | ⟨i, E, h1, h2, h3, h4⟩
  · exact ⟨h1.trans h2.symm, Or.inl ⟨h2, h3, h4⟩⟩
  · match i with
    | 0 =>
      have h5 : e1 = E := Option.some.inj h1
      rcases h3 with ⟨a, b⟩ | ⟨a, b⟩
      · exact ⟨h2.trans a.symm, Or.inr ⟨by omega, h4⟩⟩
      · exact absurd (h5.trans b) ne
    | 1 =>
      have h5 : e2 = E := Option.some.inj h1
      rcases h3 with ⟨a, b⟩ | ⟨a, b⟩
      · exact absurd (h5.trans b) ne.symm
      · exact ⟨h2.trans a.symm, Or.inr ⟨by omega, h4⟩⟩
    | i + 2 => simp at h1
theorem wv3 {e1 e2 e3 : String} {er x : Nat} {A r : Int32} {B M M' : sk_M} (n1 : e1 ≠ e2) (n2 : e1 ≠ e3) (n3 : e2 ≠ e3) (h : wv [e1, e2, e3] (fun r M' => er = 0 ∧ r = A ∧ M' = B) (fun E M' => (er = 1 ∧ E = e1 ∨ er = 2 ∧ E = e2 ∨ er = 3 ∧ E = e3) ∧ M' = M) x r M') : wx er A B M x r M' := by
  rcases h with ⟨h1, h2, h3, h4⟩ | ⟨i, E, h1, h2, h3, h4⟩
  · exact ⟨h1.trans h2.symm, Or.inl ⟨h2, h3, h4⟩⟩
  · match i with
    | 0 =>
      have h5 : e1 = E := Option.some.inj h1
      rcases h3 with ⟨a, b⟩ | ⟨a, b⟩ | ⟨a, b⟩
      · exact ⟨h2.trans a.symm, Or.inr ⟨by omega, h4⟩⟩
      · exact absurd (h5.trans b) n1
      · exact absurd (h5.trans b) n2
    | 1 =>
      have h5 : e2 = E := Option.some.inj h1
      rcases h3 with ⟨a, b⟩ | ⟨a, b⟩ | ⟨a, b⟩
      · exact absurd (h5.trans b) n1.symm
      · exact ⟨h2.trans a.symm, Or.inr ⟨by omega, h4⟩⟩
      · exact absurd (h5.trans b) n3
    | 2 =>
      have h5 : e3 = E := Option.some.inj h1
      rcases h3 with ⟨a, b⟩ | ⟨a, b⟩ | ⟨a, b⟩
      · exact absurd (h5.trans b) n2.symm
      · exact absurd (h5.trans b) n3.symm
      · exact ⟨h2.trans a.symm, Or.inr ⟨by omega, h4⟩⟩
    | i + 3 => simp at h1
/-- taking back when there is nothing changes nothing -/
theorem wvu {e1 : String} {c x : Nat} {A r : Int32} {B M M' : sk_M} (h : wv [e1] (fun r M' => er_1 (0 < c) = 0 ∧ r = A ∧ M' = if 0 < c then B else M) (fun E M' => (er_1 (0 < c) = 1 ∧ E = e1) ∧ M' = if 0 < c then B else M) x r M') : wx (er_1 (0 < c)) A (if 0 < c then B else M) M x r M' := by
  rcases h with ⟨h1, h2, h3, h4⟩ | ⟨i, E, h1, h2, ⟨h3, h5⟩, h4⟩
  · exact ⟨h1.trans h2.symm, Or.inl ⟨h2, h3, h4⟩⟩
  · match i with
    | 0 =>
      refine ⟨h2.trans h3.symm, Or.inr ⟨by omega, ?_⟩⟩
      rw [if_neg (fun z => by rw [er1p z] at h3; omega)] at h4
      exact h4
    | i + 1 => simp at h1
/-- two names, two cases -/
theorem wv_2 {e1 e2 : String} {x : Nat} {r : Int32} {M' : sk_M} {post : Int32 → sk_M → Prop} {xpost : String → sk_M → Prop} (h : wv [e1, e2] post xpost x r M') : (x = 0 ∧ post r M') ∨ (x = 1 ∧ xpost e1 M') ∨ (x = 2 ∧ xpost e2 M') := by
  rcases h with h | ⟨i, E, h1, h2, h3⟩
  · exact Or.inl h
  · match i with
    | 0 => exact Or.inr (Or.inl ⟨h2, (Option.some.inj h1 : e1 = E) ▸ h3⟩)
    | 1 => exact Or.inr (Or.inr ⟨h2, (Option.some.inj h1 : e2 = E) ▸ h3⟩)
    | i + 2 => simp at h1
theorem wv_1 {e1 : String} {x : Nat} {r : Int32} {M' : sk_M} {post : Int32 → sk_M → Prop} {xpost : String → sk_M → Prop} (h : wv [e1] post xpost x r M') : (x = 0 ∧ post r M') ∨ (x = 1 ∧ xpost e1 M') := by
  rcases h with h | ⟨i, E, h1, h2, h3⟩
  · exact Or.inl h
  · match i with
    | 0 => exact Or.inr ⟨h2, (Option.some.inj h1 : e1 = E) ▸ h3⟩
    | i + 1 => simp at h1
theorem io_is : ¬ "java/lang/IndexOutOfBoundsException" = "java/lang/IllegalStateException" := by decide
theorem rl_o.s {k : Nat} {M N : sk_M} (h : sk_fr (k + 736) (k + 794) M N) : rl_o k M N := fun a ha => h.1 a (by omega) (by omega)
theorem s_9 {M M1 M2 : sk_M} {k w x o : Nat} {s r r2 : Int32} {S : rl_T} (C : rl_C M k S) (D : rl_D M w S) (ap : rl_ap k w) (H : rl_H M k o S.c S.d) (h : wv ["java/lang/IndexOutOfBoundsException", "java/lang/IllegalStateException"] (x_pp M k S.n o S.c s) (x_px M k S.n s) x r M1) (g : mo_pz M1 w S.n S.c s r2 M2) : s_ok M2 k w x r r2 := by
  have ok_e : ∀ {y : Nat}, x = y → ¬ y = 0 → rl_C M1 k S → rl_D M1 w S → M2 w 0 = nI y → mo_fr w M1 M2 → s_ok M2 k w x r r2 := fun hx hy c d e f => ⟨by rw [hx]; exact e, fun z => absurd (hx.symm.trans z) hy, S, c.f (rl_fr.w ap f.i), d.f f⟩
  have tx1 := tx_e C.2.2.2
  rcases wv_2 h with ⟨hx, L, N1, h1, h2, h3, h4, h5, h6, h7⟩ | ⟨hx, h1⟩ | ⟨hx, h1⟩
  · have hs := C.1.hs.mp h1
    have hl := (C.1.hx hs).2
    have hm4 := C.1.1
    have C1 : rl_C N1 k S := C.f (rl_fr.s h5)
    have H1 : rl_H N1 k o S.c S.d := H.f (fun a a1 a2 => h5.1 _ (by omega) (by omega))
    have D1 : rl_D M1 w S := D.o ap (fun a ha => by
      rw [h7, pg_ce_f (by unfold st_pg; omega), re_o C1 H1 a ha]
      exact h5.1 a (by omega) (by omega))
    rw [tx1] at h2
    unfold mo_pz at g
    rw [D1.1, D1.2.2.2.2.2.2] at g
    rcases g with ⟨g1, -⟩ | ⟨-, ⟨z, g1⟩, -⟩ | ⟨-, L', T, R, g1, g2, g3, g4, g5, g6, g7⟩
    · exact absurd hs g1
    · rw [h2] at g1; cases g1
    · rw [h2] at g1
      have eL : L = L' := Sum.inr.inj g1
      subst eL
      have c := t_prog (S := S) (M := M) (M1 := N1) (R := R) C H hs h5 h3 g3 (tt_ok h2) h4 g5
      subst h7
      exact ⟨by rw [hx]; exact g6, fun _ => by rw [h6, g4], _, c.f (rl_fr.w ap (fun a ha => g7.2.2.2.2 a (by omega))), D1.ac g7⟩
  · rcases h1 with ⟨-, h2, h3⟩ | ⟨e, -⟩
    · subst h3
      unfold mo_pz at g
      rw [D.1] at g
      rcases g with ⟨g1, g2, g3, g4⟩ | ⟨g1, -⟩ | ⟨g1, -⟩
      · exact ok_e hx (by omega) C D g3 g4
      · exact absurd (C.1.hs.mpr g1) h2
      · exact absurd (C.1.hs.mpr g1) h2
    · exact absurd e io_is
  · rcases h1 with ⟨e, -⟩ | ⟨-, h2, ⟨z, h3⟩, h4⟩
    · exact absurd e.symm io_is
    · have hs := C.1.hs.mp h2
      have D1 : rl_D M1 w S := D.o ap (rl_o.s h4)
      rw [tx1] at h3
      unfold mo_pz at g
      rw [D1.1, D1.2.2.2.2.2.2] at g
      rcases g with ⟨g1, -⟩ | ⟨-, -, -, g1, g2⟩ | ⟨-, L', T, R, g1, -⟩
      · exact absurd hs g1
      · exact ok_e hx (by omega) (C.f (rl_fr.s h4)) D1 g1 g2
      · rw [h3] at g1; cases g1
theorem s_19 {M M1 M2 : sk_M} {k w x : Nat} {s e r r2 : Int32} {S : rl_T} (C : rl_C M k S) (D : rl_D M w S) (ap : rl_ap k w) (h : wv ["java/lang/IndexOutOfBoundsException", "java/lang/IllegalStateException"] (x_rp M k S.n s e) (x_rx M k S.n s e) x r M1) (g : mo_rz M1 w S.n s e r2 M2) : s_ok M2 k w x r r2 := by
  have ok_e : ∀ {y : Nat}, x = y → (y = 0 → r = r2) → rl_C M1 k S → rl_D M1 w S → M2 w 0 = nI y → mo_fr w M1 M2 → s_ok M2 k w x r r2 := fun hx hy c d e f => ⟨by rw [hx]; exact e, fun z => hy (hx.symm.trans z), S, c.f (rl_fr.w ap f.i), d.f f⟩
  have tx1 := tx_e C.2.2.2
  rcases wv_2 h with ⟨hx, L, N1, h1, h2, h3, h4, h5, h6, h7⟩ | ⟨hx, h1⟩ | ⟨hx, h1⟩
  · have he := C.1.he.mp h1
    have hs4 : s.toNatClampNeg < 4 := (t_hb C.1 he).1
    have K : rl_k k N1 M1 := by rw [h7]; exact x_ir_k hs4
    have D1 : rl_D M1 w S := D.o ap (fun a ha => (K.o a ha).trans (rl_o.s h5 a ha))
    rw [tx1] at h2
    unfold mo_rz at g
    rw [D1.1, D1.2.2.2.2.2.2] at g
    rcases g with ⟨g1, -⟩ | ⟨-, g1, -⟩ | ⟨-, L', T, R, g1, g2, g3, g4, g5, g6, g7⟩
    · exact absurd he g1
    · rcases g1 with ⟨z, g1⟩ | ⟨L', g1, g2⟩
      · rw [h2] at g1; cases g1
      · rw [h2] at g1
        exact absurd ((Sum.inr.inj g1 : L = L') ▸ h3) g2
    · rw [h2] at g1
      have eL : L = L' := Sum.inr.inj g1
      subst eL
      exact ok_e hx (fun _ => by rw [h6, g5]; exact q_ir C.1 he h5 h4 h3 g3 (tt_ok h2) g4) ((C.f (rl_fr.s h5)).f (rl_fr.o K)) D1 g6 g7
  · rcases h1 with ⟨-, h2, h3⟩ | ⟨e', -⟩
    · subst h3
      unfold mo_rz at g
      rw [D.1] at g
      rcases g with ⟨g1, g2, g3, g4⟩ | ⟨g1, -⟩ | ⟨g1, -⟩
      · exact ok_e hx (by omega) C D g3 g4
      · exact absurd (C.1.he.mpr g1) h2
      · exact absurd (C.1.he.mpr g1) h2
    · exact absurd e' io_is
  · rcases h1 with ⟨e', -⟩ | ⟨-, h2, h3, h4⟩
    · exact absurd e'.symm io_is
    · have he := C.1.he.mp h2
      have D1 : rl_D M1 w S := D.o ap (rl_o.s h4)
      rw [tx1] at h3
      unfold mo_rz at g
      rw [D1.1, D1.2.2.2.2.2.2] at g
      rcases g with ⟨g1, -⟩ | ⟨-, -, -, g1, g2⟩ | ⟨-, L', T, R, g1, g2, -⟩
      · exact absurd he g1
      · exact ok_e hx (by omega) (C.f (rl_fr.s h4)) D1 g1 g2
      · rcases h3 with ⟨z, h3⟩ | ⟨L, h3, h5⟩
        · rw [h3] at g1; cases g1
        · rw [h3] at g1
          exact absurd ((Sum.inr.inj g1 : L = L').symm ▸ g2) h5
theorem s_21 {M M1 M2 : sk_M} {k w x : Nat} {s e r r2 : Int32} {S : rl_T} (C : rl_C M k S) (D : rl_D M w S) (ap : rl_ap k w) (h : wv ["java/lang/IndexOutOfBoundsException"] (nd_q M k s e) (fun E M' => E = "java/lang/IndexOutOfBoundsException" ∧ ¬ st_he M (k + 1) s e ∧ M' = M) x r M1) (g : mo_nz M1 w s e S.m r2 M2) : s_ok M2 k w x r r2 := by
  rcases wv_1 h with ⟨hx, h1, h2⟩ | ⟨hx, -, h1, h2⟩
  · have he := C.1.he.mp h1
    have K : rl_k k M M1 := by
      rcases h2 with ⟨i, -, -, -, -, e'⟩ | ⟨-, -, e'⟩ <;> rw [e']
      · exact nd_l_k _
      · exact nd_l_k _
    have D1 := D.o ap K.o
    unfold mo_nz at g
    rw [D1.1] at g
    rcases g with ⟨g1, -⟩ | ⟨-, g1, g2, g3⟩
    · exact absurd he g1
    · refine ⟨by rw [hx]; exact g2, fun _ => ?_, S, (C.f (rl_fr.o K)).f (rl_fr.w ap g3.i), D1.f g3⟩
      have E : ∀ i, i < 31 → nd_n M k s e i = mo_nd S.r s.toNatClampNeg e.toNatClampNeg S.m i := fun i hi => q_nd C.1 he hi
      rcases h2 with ⟨i, i1, i2, i3, i4, -⟩ | ⟨i1, i2, -⟩
      · rcases g1 with ⟨j, j1, j2, j3, j4⟩ | ⟨j1, j2⟩
        · have : i = j := by
            rcases Nat.lt_trichotomy i j with q | q | q
            · exact absurd ((E i i1).symm.trans i3) (j2 i q)
            · exact q
            · exact absurd ((E j j1).trans j3) (i2 j q)
          rw [i4, j4, this]
        · exact absurd ((E i i1).symm.trans i3) (j1 i i1)
      · rcases g1 with ⟨j, j1, j2, j3, j4⟩ | ⟨j1, j2⟩
        · exact absurd ((E j j1).trans j3) (i1 j j1)
        · rw [i2, j2]
  · subst h2
    unfold mo_nz at g
    rw [D.1] at g
    rcases g with ⟨g1, g2, g3⟩ | ⟨g1, -⟩
    · subst g3
      exact ⟨by rw [sk_sm, hx], fun z => absurd (hx.symm.trans z) (by omega), S, C.f (rl_fr.w ap mo_fr.e.i), D.f mo_fr.e⟩
    · exact absurd (C.1.he.mpr g1) h1
theorem w_k {M M' : sk_M} {k m : Nat} {v : Int32} {x : Int64} {r : Nat → Int32} {a : Int32} (R : rl_s M (k + 1) r m) (h : rs_q M k v x a M') : rl_k k M M' := by
  obtain ⟨hk, h⟩ := h
  have hk2 : rn_k v x := rs_rn.mp hk
  obtain ⟨hv1, hv3, hx, -⟩ := hk
  obtain ⟨X, hX, rfl⟩ := l_of hx
  have h1 : ¬ v < 0 := fun z => hv1 (by
    simp only [Int32.lt_iff_toInt_lt] at *
    have e0 : (0 : Int32).toInt = 0 := rfl
    have e1 : (1 : Int32).toInt = 1 := rfl
    omega)
  obtain ⟨b1, b2⟩ := mo_ix (w := v) (hi := 3) (m := 3) ⟨h1, Int32.not_lt.mpr hv3⟩ rfl (by decide)
  have b3 : 1 ≤ v.toNatClampNeg := Classical.byContradiction (fun z => hv1 (by rw [b1, show v.toNatClampNeg = 0 from by omega]; decide))
  rcases h with ⟨i, hi, p1, p2, p3, p4⟩ | ⟨p1, p2, p3⟩
  · rw [p4]; exact (w_rl (t := r) R hX b3 b2 _ (by omega)).2
  · rw [p3]; exact (w_rl (t := r) R hX b3 b2 _ (Nat.le_refl _)).2
theorem s_23 {M M1 M2 : sk_M} {k w x : Nat} {v r r2 : Int32} {y : Int64} {S : rl_T} (C : rl_C M k S) (D : rl_D M w S) (ap : rl_ap k w) (h : wv ["java/lang/IllegalArgumentException"] (rs_q M k v y) (fun E M' => E = "java/lang/IllegalArgumentException" ∧ ¬ rs_k v y ∧ M' = M) x r M1) (g : mo_rq M1 w S.m v y r2 M2) : s_ok M2 k w x r r2 := by
  rcases wv_1 h with ⟨hx, h1⟩ | ⟨hx, -, h1, h2⟩
  · have hk : rn_k v y := rs_rn.mp h1.1
    rcases g with ⟨g1, -⟩ | ⟨-, g1, g2, g3⟩
    · exact absurd hk g1
    · have K := w_k C.1 h1
      have D1 := D.o ap K.o
      rw [D1.1] at g1
      exact ⟨by rw [hx]; exact g2, fun _ => (q_rs C.1 h1 g1).1, S, (C.f (rl_fr.o K)).f (rl_fr.w ap g3.i), D1.f g3⟩
  · subst h2
    rcases g with ⟨g1, g2, g3⟩ | ⟨g1, -⟩
    · subst g3
      exact ⟨by rw [sk_sm, hx], fun z => absurd (hx.symm.trans z) (by omega), S, C.f (rl_fr.w ap mo_fr.e.i), D.f mo_fr.e⟩
    · exact absurd (rs_rn.mpr g1) h1
/-- without an exception: the answers alike, and the two sides still -/
def s_eq (M2 : sk_M) (k w : Nat) (r r2 : Int32) : Prop := r = r2 ∧ ∃ S, rl_C M2 k S ∧ rl_D M2 w S
theorem s_1 {M M1 M2 : sk_M} {k w : Nat} {r r2 : Int32} {S : rl_T} (C : rl_C M k S) (D : rl_D M w S) (ap : rl_ap k w) (h : r = M (k + 736) 1 ∧ M1 = sk_ms M (k + 736) 1 0) (g : r2 = M1 w 2 ∧ M2 = sk_ms (sk_ms M1 w 0 0) w 2 0) : s_eq M2 k w r r2 := by
  obtain ⟨h1, h2⟩ := h
  obtain ⟨g1, g2⟩ := g
  have D1 : rl_D M1 w S := D.o ap (by rw [h2]; exact (show rl_o k M M from fun _ _ => rfl).ms (by omega))
  have C1 := t_clr C
  rw [← h2] at C1
  obtain ⟨d1, d2, d3, d4, d5, d6, d7⟩ := D1
  have f : ∀ a, a ≠ w → M2 a = M1 a := fun a ha => by rw [g2, sk_nf ha, sk_nf ha]
  refine ⟨by rw [h1, g1, C.2.2.2.2.1, d6], _, C1.f (rl_fr.w ap (fun a ha => f a (by omega))), ?_, ?_, ?_, ?_, ?_, ?_, ?_⟩
  · rw [f _ (by omega)]; exact d1
  · rw [g2, sk_ne (by omega), sk_ne (by omega)]; exact d2
  · rw [f _ (by omega)]; exact d3
  · rw [f _ (by omega)]; exact d4
  · rw [f _ (by omega)]; exact d5
  · rw [g2, sk_sm]; rfl
  · rw [f _ (by omega)]; exact d7
theorem s_2 {M M1 M2 : sk_M} {k w : Nat} {r r2 : Int32} {S : rl_T} (C : rl_C M k S) (D : rl_D M w S) (ap : rl_ap k w) (h : tt_q (M (k + 737)) S.n (k + 736) (k + 794) M r M1) (g : mx_q w S.n (tx (M1 (w + 1)) S.n) (sk_ms M1 w 0 0) r2 M2) : s_eq M2 k w r r2 := by
  have tx1 := tx_e C.2.2.2
  have F : sk_fr (k + 736) (k + 794) M M1 := by
    rcases h with ⟨_, _, _, h⟩ | ⟨_, _, _, _, _, h⟩ <;> exact h
  have D1 := D.o ap (rl_o.s F)
  have G : mt_f w (sk_ms M1 w 0 0) M2 := by
    rcases g with ⟨_, _, _, h⟩ | ⟨_, _, _, _, h, _⟩ <;> exact h
  have G2 : mo_fr w M1 M2 := ⟨fun a ha => by rw [G.1 a (by omega) (by omega), sk_nf (by omega)], by rw [G.2 2 (by decide), sk_ne (by omega)], by rw [G.2 6 (by decide), sk_ne (by omega)]⟩
  refine ⟨?_, S, (C.f (rl_fr.s F)).f (rl_fr.w ap G2.i), D1.f G2⟩
  rw [D1.2.2.2.2.2.2] at g
  unfold tt_q at h
  rw [tx1] at h
  rcases h with ⟨x, h1, h2, -⟩ | ⟨L, h1, h2, -⟩
  · rcases g with ⟨y, g1, g2, -⟩ | ⟨L, g1, -⟩
    · rw [h1] at g1
      rw [h2, g2, (Sum.inl.inj g1 : x = y)]
    · rw [h1] at g1; cases g1
  · rcases g with ⟨y, g1, -⟩ | ⟨L', g1, g2, -⟩
    · rw [h1] at g1; cases g1
    · rw [h2, g2]
