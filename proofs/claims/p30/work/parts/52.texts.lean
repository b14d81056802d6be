/-! The two sides: what is needed, what is read -/
theorem nd_k_n : ∀ i, i < 31 → nd_k i = nI i - 15 := by decide
theorem mn_c {r : Nat → Int32} {s e i : Nat} (q : Nat) : mn_T r s e i q = (if q = s then mo_T r s - mo_gr r s e + mo_gd (nd_k i * mo_sm r s e (mo_n r s e)) else mo_T r q) ∧ mn_S r s e i q = (if q = s then mo_S r s - mo_gr r s e + mo_gd (nd_k i * mo_sm r s e (mo_n r s e)) else mo_S r q) := ⟨rfl, rfl⟩
theorem q_nd {M : sk_M} {k m : Nat} {s e : Int32} {r : Nat → Int32} (R : rl_s M (k + 1) r m) (h : mo_he r s e) {i : Nat} (hi : i < 31) : nd_n M k s e i = mo_nd r s.toNatClampNeg e.toNatClampNeg m i := by
  have h4 := R.1
  have hx := (R.hx h.1).2
  have hex := (R.ex h).2
  have R2 : rl_s (x_RK M k) (k + 1) r m := R.c (fun a h1 h2 => x_RK_f (by omega))
  have W : cw (nd_R M k s) (k + 738) r s.toNatClampNeg := R_w R2 h.1
  have We := W.2.2.2.2.2.1 _ hex
  have E := R.E h
  have eg : nd_g M k s e i = mo_gd (nd_k i * mo_sm r s.toNatClampNeg e.toNatClampNeg (mo_n r s.toNatClampNeg e.toNatClampNeg)) := by
    have hy : rl_y r s.toNatClampNeg e.toNatClampNeg (mo_n r s.toNatClampNeg e.toNatClampNeg) := by
      obtain ⟨-, -, -, -, -, p, hp3, r2, r3, ry, -⟩ := E
      have e2 : mo_n r s.toNatClampNeg e.toNatClampNeg = p := by show (mo_np r s.toNatClampNeg e.toNatClampNeg).toNatClampNeg = p; rw [r3, nI_clamp (by omega)]
      rw [e2]; exact ry
    obtain ⟨t, ht, et⟩ := rl_sm hy _ (Nat.le_refl _)
    unfold nd_g
    show sc_gr (nd_k i) (nd_R M k s (k + 738 + 4) e.toNatClampNeg) = _
    rw [We.2.1, et, nd_k_n i hi, rl_gr (by omega) ht]
  have eo : nd_o M k s e = mo_T r s.toNatClampNeg - mo_gr r s.toNatClampNeg e.toNatClampNeg := by
    unfold nd_o
    rw [W.2.2.2.2.1]
    show mo_T r s.toNatClampNeg - nd_R M k s (k + 738 + 5) e.toNatClampNeg = _
    rw [We.2.2.1]
  have et : nd_t M k s e = mo_S r s.toNatClampNeg - mo_gr r s.toNatClampNeg e.toNatClampNeg := by
    unfold nd_t
    rw [W.2.1]
    show mo_S r s.toNatClampNeg - nd_R M k s (k + 738 + 5) e.toNatClampNeg = _
    rw [We.2.2.1]
  have keep : ∀ a q n, q ≠ s.toNatClampNeg → nd_l M k s e n a q = nd_R M k s a q := by
    intro a q n hq
    induction n with
    | zero => rfl
    | succ n ih => unfold nd_l; rw [sk_ne (Or.inr hq), sk_ne (Or.inr hq), ih]
  have key : ∀ q, q < m → nd_l M k s e (i + 1) (k + 747 + 1) q = mn_T r s.toNatClampNeg e.toNatClampNeg i q ∧ nd_l M k s e (i + 1) (k + 747 + 2) q = mn_S r s.toNatClampNeg e.toNatClampNeg i q := by
    intro q hq
    rw [(mn_c q).1, (mn_c q).2]
    by_cases w : q = s.toNatClampNeg
    · subst w
      rw [if_pos rfl, if_pos rfl]
      unfold nd_l
      refine ⟨?_, ?_⟩
      · rw [sk_ne (by omega), sk_sm, eo, eg]
      · rw [sk_sm, et, eg]
    · rw [if_neg w, if_neg w, keep _ _ _ w, keep _ _ _ w]
      have T := rk_T (k := k + 747) (c := k + 738) (by omega) (by omega) (by omega) R hq
      unfold nd_R
      rw [sc_ra_f (by omega), sc_ra_f (by omega)]
      exact T
  unfold nd_n mo_nd
  rw [R.n, cn_c]
  exact mp_c_c key (key _ hx)
-- what a text gives
def el_ok (el : sk_E) : Prop := (el.1 = 0 ∧ ∀ j ∈ el.2, ∃ a t c : Nat, a < 6 ∧ 1 ≤ t ∧ t ≤ 4 ∧ c ≤ 3 ∧ j.1 = nI a ∧ j.2.1 = nI t ∧ j.2.2 = nI c) ∨ ((el.1 = 1 ∨ el.1 = 2) ∧ el.2.length ≤ 1 ∧ ∀ j ∈ el.2, ∃ t : Nat, t ≤ 4 ∧ j.2.1 = nI t)
theorem tk_ok {c : Int32} (h : ¬ tk c = -1) : ∃ a : Nat, a < 6 ∧ tk c = nI a := by
  unfold tk at *
  split
  · exact ⟨0, by decide, rfl⟩
  · split
    · exact ⟨1, by decide, rfl⟩
    · split
      · exact ⟨2, by decide, rfl⟩
      · split
        · exact ⟨3, by decide, rfl⟩
        · split
          · exact ⟨4, by decide, rfl⟩
          · split
            · exact ⟨5, by decide, rfl⟩
            · simp_all
theorem tc_ok (c k : Int32) : ∃ a : Nat, a ≤ 3 ∧ tc c k = nI a := by
  unfold tc
  split
  · exact ⟨1, by decide, rfl⟩
  · split
    · exact ⟨2, by decide, rfl⟩
    · split
      · split
        · exact ⟨3, by decide, rfl⟩
        · exact ⟨0, by decide, rfl⟩
      · exact ⟨0, by decide, rfl⟩
theorem dg_ok {x lo : Int32} {l : Nat} (hl : lo = nI l) (hl2 : l ≤ 4) (h : ¬ (x < lo ∨ 4 < x)) : ∃ t : Nat, l ≤ t ∧ t ≤ 4 ∧ x = nI t := by
  have h0 : ¬ x < 0 := fun z => h (Or.inl (by rw [hl]; exact Int32.lt_of_lt_of_le z (by rw [show (0 : Int32) = nI 0 from rfl, nI_leI (by omega) (by omega)]; omega)))
  obtain ⟨j, h1, rfl⟩ := nI_of h0
  have h2 : ¬ nI j < nI l := fun z => h (Or.inl (by rw [hl]; exact z))
  have h3 : ¬ (4 : Int32) < nI j := fun z => h (Or.inr z)
  rw [nI_ltI h1 (by omega)] at h2
  rw [show (4 : Int32) = nI 4 from rfl, nI_ltI (by omega) h1] at h3
  exact ⟨j, by omega, by omega, rfl⟩
theorem tj_ok {s : Nat → Int32} {a x : Nat} {j : sk_J} (h : tj s a = .inr (x, j)) : ∃ u t c : Nat, u < 6 ∧ 1 ≤ t ∧ t ≤ 4 ∧ c ≤ 3 ∧ j.1 = nI u ∧ j.2.1 = nI t ∧ j.2.2 = nI c := by
  unfold tj at h
  split at h
  · cases h
  · rename_i h1
    split at h
    · cases h
    · rename_i h2
      cases h
      obtain ⟨u, hu, eu⟩ := tk_ok h2
      obtain ⟨c, hc, ec⟩ := tc_ok (s (a + 2)) (tk (s (a + 1)))
      obtain ⟨t, ht, ht4, et⟩ := dg_ok (l := 1) rfl (by omega) h1
      exact ⟨u, t, c, hu, ht, ht4, hc, eu, et, ec⟩
theorem tcl_ok {s : Nat → Int32} : ∀ (k a : Nat) (js : List sk_J) (x : Nat) (js' : List sk_J), tcl s k a js = .inr (x, js') → (∀ j ∈ js, ∃ u t c : Nat, u < 6 ∧ 1 ≤ t ∧ t ≤ 4 ∧ c ≤ 3 ∧ j.1 = nI u ∧ j.2.1 = nI t ∧ j.2.2 = nI c) → ∀ j ∈ js', ∃ u t c : Nat, u < 6 ∧ 1 ≤ t ∧ t ≤ 4 ∧ c ≤ 3 ∧ j.1 = nI u ∧ j.2.1 = nI t ∧ j.2.2 = nI c
  | 0, a, js, x, js', h, g => by cases h; exact g
  | k + 1, a, js, x, js', h, g => by
    cases q : tj s a with
    | inl y => rw [tcl_e q] at h; cases h
    | inr y =>
      obtain ⟨b, w⟩ := y
      have g2 : ∀ j ∈ js ++ [w], ∃ u t c : Nat, u < 6 ∧ 1 ≤ t ∧ t ≤ 4 ∧ c ≤ 3 ∧ j.1 = nI u ∧ j.2.1 = nI t ∧ j.2.2 = nI c := fun j hj => by
        rcases List.mem_append.mp hj with z | z
        · exact g j z
        · rw [List.mem_singleton] at z; subst z; exact tj_ok q
      by_cases c : s b = 43 ∧ 0 < k
      · rw [tcl_y q c] at h
        exact tcl_ok k _ _ _ _ h g2
      · rw [tcl_n q c] at h
        cases h
        exact g2
theorem te_ok {s : Nat → Int32} {a x : Nat} {el : sk_E} (h : te s a = .inr (x, el)) : el_ok el := by
  have key : ∀ ty : Int32, (ty = 1 ∨ ty = 2) → tlv s ty a = .inr (x, el) → el_ok el := by
    intro ty hty h
    unfold tlv at h
    split at h
    · cases h
    · rename_i h1
      cases h
      obtain ⟨t, ht, ht4, et⟩ := dg_ok (l := 0) rfl (by omega) h1
      refine Or.inr ⟨hty, by simp, fun j hj => ?_⟩
      rw [List.mem_singleton] at hj
      subst hj
      exact ⟨t, ht4, et⟩
  unfold te at h
  split at h
  · exact key 1 (Or.inl rfl) h
  · split at h
    · exact key 2 (Or.inr rfl) h
    · unfold tch at h
      split at h
      · cases h
      · rename_i q
        cases h
        exact Or.inl ⟨rfl, tcl_ok _ _ _ _ _ q (fun j hj => by cases hj)⟩
theorem tel_ok {s : Nat → Int32} {n : Nat} : ∀ (k a : Nat) (L L' : List sk_E), tel s n k a L = .inr L' → (∀ el ∈ L, el_ok el) → ∀ el ∈ L', el_ok el
  | 0, a, L, L', h, g => by
    unfold tel at h
    split at h
    · cases h; exact g
    · cases h
  | k + 1, a, L, L', h, g => by
    cases q : te s a with
    | inl y => rw [tel_e q] at h; cases h
    | inr y =>
      obtain ⟨b, el⟩ := y
      have g2 : ∀ z ∈ L ++ [el], el_ok z := fun z hz => by
        rcases List.mem_append.mp hz with w | w
        · exact g z w
        · rw [List.mem_singleton] at w; subst w; exact te_ok q
      by_cases c : s b = 59 ∧ 0 < k
      · rw [tel_y q c] at h
        exact tel_ok k _ _ _ h g2
      · rw [tel_n q c] at h
        split at h
        · cases h; exact g2
        · cases h
theorem tt_ok {s : Nat → Int32} {n : Nat} {L : List sk_E} (h : tt s n = .inr L) : ∀ el ∈ L, el_ok el := tel_ok _ _ _ _ h (fun el hel => by cases hel)
theorem ke_0 {r : Nat → Int32} {q : Nat} (h : ∀ i, i < 5 → r (q + i) = 0) : mo_ke r q = 0 := by
  have e : mo_ke r q = mo_ke (fun _ => 0) 0 := mo_k5_c (r := fun _ => 0) (q := 0) h
  rw [e]
  decide
/-- a read program, on both sides: the typed row stands as that of a skater 0 -/
theorem tx_rl {M : sk_M} {g : Nat} {T : Nat → Int32} {L : List sk_E} (hL : sk_ph M g L) (hT : mx_h T L) (ok : ∀ el ∈ L, el_ok el) {e : Nat} (he : e < L.length) : rl_e M g (fun y => T (y - 6)) 0 e := by
  obtain ⟨el, hel⟩ : ∃ el, L[e]? = some el := ⟨L[e], by simp [he]⟩
  obtain ⟨p1, p2, p3, p4, p5, p6, p7⟩ := hL.2 e el hel
  obtain ⟨⟨t1, t2, t3, t4⟩, t5⟩ := hT.2 e el hel
  have ho := ok el (List.mem_of_getElem? hel)
  have eT : ∀ y, y < 18 → (fun y => T (y - 6)) (23 + 233 * 0 + 18 * e + y) = T (17 + 18 * e + y) := fun y hy => by show T _ = _; congr 1; omega
  have cell : ∀ q j, el.2[q]? = some j → mo_kd (fun y => T (y - 6)) 0 e q = j.1 ∧ mo_tu (fun y => T (y - 6)) 0 e q = j.2.1 ∧ mo_ca (fun y => T (y - 6)) 0 e q = j.2.2 := fun q j hj => by
    obtain ⟨a1, a2, a3⟩ := t4 q j hj
    refine ⟨?_, ?_, ?_⟩
    · show T _ = _; rw [show 25 + 233 * 0 + 18 * e + 3 * q - 6 = 17 + 18 * e + 2 + 3 * q from by omega]; exact a1
    · show T _ = _; rw [show 25 + 233 * 0 + 18 * e + 3 * q + 1 - 6 = 17 + 18 * e + 2 + 3 * q + 1 from by omega]; exact a2
    · show T _ = _; rw [show 25 + 233 * 0 + 18 * e + 3 * q + 2 - 6 = 17 + 18 * e + 2 + 3 * q + 2 from by omega]; exact a3
  have hty : mo_ty (fun y => T (y - 6)) 0 e = el.1 := (eT 0 (by omega)).trans t1
  refine ⟨by rw [hty]; exact p1, ?_, ⟨15, by omega, by rw [p4]; rfl⟩, ?_, ?_, el.2.length, p3, p2, (eT 1 (by omega)).trans t2, ?_, fun q hq => ?_⟩
  · rw [p4]
    exact (ke_0 (fun i hi => by show T (23 + 233 * 0 + 18 * e + 11 + i - 6) = 0; rw [show 23 + 233 * 0 + 18 * e + 11 + i - 6 = 17 + 18 * e + (11 + i) from by omega]; exact t5 _ (by omega) (by omega))).symm
  · rw [p5, eT 16 (by omega)]; exact (t5 16 (by omega) (by omega)).symm
  · rw [p6, eT 17 (by omega)]; exact (t5 17 (by omega) (by omega)).symm
  · unfold rl_y
    rw [hty]
    rcases ho with ⟨o1, o2⟩ | ⟨o1, o2, o3⟩
    · refine Or.inl ⟨o1, fun q hq => ?_⟩
      have hj : el.2[q]? = some el.2[q] := by simp [hq]
      obtain ⟨u, t, c, hu, ht, ht4, hc, e1, e2, e3⟩ := o2 el.2[q] (List.getElem_mem hq)
      obtain ⟨c1, c2, c3⟩ := cell q _ hj
      exact ⟨u, t, c, hu, ht, ht4, hc, by rw [c1]; exact e1, by rw [c2]; exact e2, by rw [c3]; exact e3⟩
    · refine Or.inr ⟨o1, o2, fun q hq => ?_⟩
      have hj : el.2[q]? = some el.2[q] := by simp [hq]
      obtain ⟨t, ht4, e2⟩ := o3 el.2[q] (List.getElem_mem hq)
      obtain ⟨c1, c2, c3⟩ := cell q _ hj
      exact ⟨t, ht4, by rw [c2]; exact e2⟩
  · have hj : el.2[q]? = some el.2[q] := by simp [hq]
    obtain ⟨c1, c2, c3⟩ := cell q _ hj
    obtain ⟨d1, d2, d3⟩ := p7 q _ hj
    exact ⟨by rw [c1]; exact d1, by rw [c2]; exact d2, by rw [c3]; exact d3⟩
/-- an element replaced by the one that was read -/
theorem q_ir {M M1 : sk_M} {k m : Nat} {s e : Int32} {r T r' : Nat → Int32} {L : List sk_E} (R : rl_s M (k + 1) r m) (h : mo_he r s e) (hf : sk_fr (k + 736) (k + 794) M M1) (hL : sk_ph M1 (k + 794) L) (h1 : L.length = 1) (hT : mx_h T L) (ok : ∀ el ∈ L, el_ok el)
    (hr : ∀ y, y < 938 → r' y = if 23 + 233 * s.toNatClampNeg + 18 * e.toNatClampNeg ≤ y ∧ y < 23 + 233 * s.toNatClampNeg + 18 * e.toNatClampNeg + 18 then T (17 + (y - (23 + 233 * s.toNatClampNeg + 18 * e.toNatClampNeg))) else r y) :
    x_ir M1 k s e (k + 738) 14 + x_ir M1 k s e (k + 738) 15 - x_ir M1 k s e (k + 738) 16 = mo_to r' s.toNatClampNeg (mo_c r s.toNatClampNeg) := by
  have h4 := R.1
  have hx := (R.hx h.1).2
  have hex := (R.ex h).2
  have R1 : rl_s M1 (k + 1) r m := R.c (fun a a1 a2 => hf.1 _ (by omega) (by omega))
  have P := R1.P h.1
  have hc12 := P.n.2.2.1
  have P2 : rl_p (pg_cf M1 (st_pg (k + 751) s) (st_pg (k + 1) s)) (st_pg (k + 751) s) r s.toNatClampNeg := P.m (pg_cf_v (by unfold st_pg; omega))
  obtain ⟨v1, v2, v3, v4⟩ := pg_te_v (M := pg_cf M1 (st_pg (k + 751) s) (st_pg (k + 1) s)) (k := st_pg (k + 751) s) (e := e.toNatClampNeg) (f := k + 794) (i := 0) (by unfold st_pg; omega)
  have E0 := tx_rl hL hT ok (e := 0) (by omega)
  have fd : ∀ x, x < 10 → pg_cf M1 (st_pg (k + 751) s) (st_pg (k + 1) s) (k + 794 + x) = M1 (k + 794 + x) := fun x hx => pg_cf_f (by unfold st_pg; omega)
  have P3 : rl_p (pg_te (pg_cf M1 (st_pg (k + 751) s) (st_pg (k + 1) s)) (st_pg (k + 751) s) e.toNatClampNeg (k + 794) 0) (st_pg (k + 751) s) r' s.toNatClampNeg := by
    obtain ⟨n, hn, h9, hr9, h10, hc, hR⟩ := id P2
    have e2 : mo_c r s.toNatClampNeg = n := by show (r _).toNatClampNeg = n; rw [hr9, nI_clamp (by omega)]
    refine ⟨n, hn, by rw [v1]; exact h9, by rw [hr _ (by omega), if_neg (by omega)]; exact hr9, by rw [v1, hr _ (by omega), if_neg (by omega)]; exact h10, fun j hj => ?_, fun z hz => ?_⟩
    · rw [v2, mo_oc_c (r := r) (fun i hi => by rw [hr _ (by omega), if_neg (by omega)])]
      exact hc j hj
    · by_cases q : z = e.toNatClampNeg
      · subst q
        refine E0.mv (fun x a b => ?_) (fun x y a b hy => ?_) (fun y hy => ?_)
        · rw [v3 x _ a b, if_pos rfl, fd x (by omega)]
        · rw [v4 x _ a b, if_pos (by omega), fd x (by omega), Nat.add_sub_cancel_left]
        · rw [hr _ (by omega), if_pos (by omega), Nat.add_sub_cancel_left]
          show T _ = T _
          congr 1
          omega
      · refine (hR z hz).mv (fun x a b => ?_) (fun x y a b hy => ?_) (fun y hy => ?_)
        · rw [v3 x _ a b, if_neg q]
        · rw [v4 x _ a b, if_neg (by omega)]
        · rw [hr _ (by omega), if_neg (by omega)]
  have ec : mo_c r' s.toNatClampNeg = mo_c r s.toNatClampNeg := by show (r' _).toNatClampNeg = _; rw [hr _ (by omega), if_neg (by omega)]
  have W := rl_ra (M := pg_te (pg_cf M1 (st_pg (k + 751) s) (st_pg (k + 1) s)) (st_pg (k + 751) s) e.toNatClampNeg (k + 794) 0) (c := k + 738) (g := st_pg (k + 751) s) (u := k + 3) (by omega) (by unfold st_pg; omega) (fun j hj => by rw [pg_te_f (by unfold st_pg; omega), pg_cf_f (by unfold st_pg; omega), hr _ (by omega), if_neg (by omega)]; exact R1.2.2.2.1 j hj) P3
  rw [← ec]
  exact W.2.2.2.2.1
