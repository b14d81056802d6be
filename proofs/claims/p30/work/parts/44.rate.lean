/-! The two sides: what the class counts part by part is what the model counts anew -/
abbrev rc_D (r : Nat → Int32) (s : Nat) (a b : Int32) (e q : Nat) : Nat := rc_e r s a b e + rc_p r s a b e q
abbrev rb_D (r : Nat → Int32) (s : Nat) (a b : Int32) (e q : Nat) : Nat := rb_e r s a b e + rb_p r s a b e q
def cv_i (N : sk_M) (c : Nat) (r : Nat → Int32) (s e q : Nat) : Prop := ∀ a b : Nat, a < 6 → b < 2 → N (c + 7) (2 * a + b) = nI (rc_D r s (nI a) (nI (b + 3)) e q) ∧ (rc_D r s (nI a) (nI (b + 3)) e q = 1 → (N (c + 8) (2 * a + b) = 1 ↔ rb_D r s (nI a) (nI (b + 3)) e q = 0))
theorem cv_i.c {N P : sk_M} {c s e q : Nat} {r : Nat → Int32} (h7 : P (c + 7) = N (c + 7)) (h8 : P (c + 8) = N (c + 8)) (h : cv_i N c r s e q) : cv_i P c r s e q := by
  unfold cv_i
  rw [h7, h8]
  exact h
theorem rc_n {r : Nat → Int32} {s e q : Nat} {a b : Int32} (h : ¬ rc_k r s a b e q) : rc_p r s a b e (q + 1) = rc_p r s a b e q ∧ rb_p r s a b e (q + 1) = rb_p r s a b e q := by
  refine ⟨?_, ?_⟩
  · show rc_p r s a b e q + (if rc_k r s a b e q then 1 else 0) = _
    rw [if_neg h, Nat.add_zero]
  · show rb_p r s a b e q + (if rc_k r s a b e q ∧ ¬ mo_np r s e = 1 then 1 else 0) = _
    rw [if_neg (fun z => h z.1), Nat.add_zero]
theorem rc_y {r : Nat → Int32} {s e q : Nat} {a b : Int32} (h : rc_k r s a b e q) : rc_p r s a b e (q + 1) = rc_p r s a b e q + 1 ∧ rb_p r s a b e (q + 1) = rb_p r s a b e q + if mo_np r s e = 1 then 0 else 1 := by
  refine ⟨?_, ?_⟩
  · show rc_p r s a b e q + (if rc_k r s a b e q then 1 else 0) = _
    rw [if_pos h]
  · show rb_p r s a b e q + (if rc_k r s a b e q ∧ ¬ mo_np r s e = 1 then 1 else 0) = _
    by_cases w : mo_np r s e = 1
    · rw [if_neg (fun z => z.2 w), if_pos w]
    · rw [if_pos ⟨h, w⟩, if_neg w]
theorem cv_1 {N : sk_M} {c s e q : Nat} {r : Nat → Int32} (hb : ∀ a b : Int32, b = nI 3 ∨ b = nI 4 → ¬ rc_k r s a b e q) (h : cv_i N c r s e q) : cv_i N c r s e (q + 1) := by
  intro a b ha hb2
  have hn := rc_n (hb (nI a) (nI (b + 3)) (by rcases (show b = 0 ∨ b = 1 by omega) with rfl | rfl <;> simp))
  unfold rc_D rb_D
  rw [hn.1, hn.2]
  exact h a b ha hb2
theorem sc_rm_g {N : sk_M} {c x : Nat} {kd ro al : Int32} (h7 : x ≠ c + 7) (h8 : x ≠ c + 8) : sc_rm N c kd ro al x = N x := by
  unfold sc_rm
  split
  · rfl
  · split
    · rw [sk_nf h8, sk_nf h7]
    · rw [sk_nf h7]
theorem sc_om_g {N : sk_M} {c g e q x : Nat} {tm ct : Int32} (h7 : x ≠ c + 7) (h8 : x ≠ c + 8) : sc_om N c g e q tm ct x = N x := by
  unfold sc_om
  split
  · rfl
  · split
    · rfl
    · split
      · rfl
      · split
        · rfl
        · exact sc_rm_g h7 h8
theorem cv_2 {N : sk_M} {c s e q n a0 t0 : Nat} {r : Nat → Int32} (hp : mo_pp r s n) (he : e < n) (hn : n ≤ 12) (hq : q < mo_n r s e) (h : cv_i N c r s e q) (hb : mo_bp r s e q = 0) (hy : mo_ty r s e = 0) (ha : a0 < 6) (ht : 1 ≤ t0) (ht4 : t0 ≤ 4) (ek : mo_kd r s e q = nI a0) (et : mo_tu r s e q = nI t0) :
    sc_rv N c (nI a0) (nI t0) (if mo_np r s e = 1 then 1 else 0) = mo_br r s e q ∧ cv_i (sc_rm N c (nI a0) (nI t0) (if mo_np r s e = 1 then 1 else 0)) c r s e (q + 1) := by
  by_cases h3 : t0 < 3
  · have hc : nI t0 < 3 := (nI_ltI (b := 3) (by omega) (by omega)).mpr h3
    refine ⟨?_, ?_⟩
    · rw [sc_rv, if_pos (Or.inl hc), rb_r (by omega), if_pos (Or.inr (by rw [et]; exact hc))]
    · rw [sc_rm, if_pos (Or.inl hc)]
      refine cv_1 (fun a b hb3 hk => ?_) h
      have e9 := hk.2.2.1
      rw [et] at e9
      rcases hb3 with rfl | rfl
      · have := (nI_eq (by omega) (by omega)).mp e9; omega
      · have := (nI_eq (by omega) (by omega)).mp e9; omega
  · obtain ⟨b0, hb2, rfl⟩ : ∃ b0, b0 < 2 ∧ t0 = b0 + 3 := ⟨t0 - 3, by omega, by omega⟩
    have hix : sc_ix (nI a0) (nI (b0 + 3)) = nI (2 * a0 + b0) := (sk_nsub (a := 2 * a0 + (b0 + 3)) (b := 3) (sk_nadd (a := 2 * a0) (b := b0 + 3) (sk_nmul (a := 2) rfl rfl) rfl) rfl (by omega)).trans (congrArg nI (by omega))
    have hc0 : ¬ (nI (b0 + 3) < 3 ∨ sc_ix (nI a0) (nI (b0 + 3)) < 0 ∨ 12 ≤ sc_ix (nI a0) (nI (b0 + 3))) := by
      rw [hix]
      rintro (z | z | z)
      · have := (nI_ltI (a := b0 + 3) (b := 3) (by omega) (by omega)).mp z; omega
      · exact nI_pos (by omega) z
      · have := (nI_leI (a := 12) (b := 2 * a0 + b0) (by omega) (by omega)).mp z; omega
    have hcl : (sc_ix (nI a0) (nI (b0 + 3))).toNatClampNeg = 2 * a0 + b0 := by rw [hix, nI_clamp (by omega)]
    obtain ⟨g7, g8⟩ := h a0 b0 ha hb2
    have hkk : rc_k r s (nI a0) (nI (b0 + 3)) e q := ⟨hy, ek, et, hb⟩
    obtain ⟨y1, y2⟩ := rc_y hkk
    have hle := rb_e_le r s (nI a0) (nI (b0 + 3)) e
    have hle2 := rb_p_le r s (nI a0) (nI (b0 + 3)) e q
    have hb36 := rc_e_le (a := nI a0) (b := nI (b0 + 3)) hp e (by omega)
    have hq3 := (mo_nn hp he).2
    have hD : rc_D r s (nI a0) (nI (b0 + 3)) e q ≤ 40 := by show rc_e _ _ _ _ _ + rc_p _ _ _ _ _ _ ≤ 40; omega
    refine ⟨?_, ?_⟩
    · rw [sc_rv, if_neg hc0, hcl, g7, rb_r (by omega), ek, et, if_neg (show ¬ (¬ mo_ty r s e = 0 ∨ nI (b0 + 3) < 3) from fun z => z.elim (fun w => w hy) (fun w => hc0 (Or.inl w)))]
      by_cases d0 : rc_D r s (nI a0) (nI (b0 + 3)) e q = 0
      · rw [if_pos (show nI (rc_D r s (nI a0) (nI (b0 + 3)) e q) = 0 from by rw [d0]; rfl), if_neg (show ¬ 1 < rc_D r s (nI a0) (nI (b0 + 3)) e q from by omega), if_neg (show ¬ (rc_D r s (nI a0) (nI (b0 + 3)) e q = 1 ∧ _) from fun z => by omega)]
      · rw [if_neg (show ¬ nI (rc_D r s (nI a0) (nI (b0 + 3)) e q) = 0 from fun z => d0 ((nI_eq (b := 0) (by omega) (by omega)).mp z))]
        by_cases d1 : 1 < rc_D r s (nI a0) (nI (b0 + 3)) e q
        · rw [if_pos (show 1 < nI (rc_D r s (nI a0) (nI (b0 + 3)) e q) from (nI_ltI (a := 1) (by omega) (by omega)).mpr d1), if_pos d1]
        · rw [if_neg (show ¬ 1 < nI (rc_D r s (nI a0) (nI (b0 + 3)) e q) from fun z => d1 ((nI_ltI (a := 1) (by omega) (by omega)).mp z)), if_neg d1]
          have d2 : rc_D r s (nI a0) (nI (b0 + 3)) e q = 1 := by omega
          have g9 := g8 d2
          by_cases w : mo_np r s e = 1
          · rw [if_pos w]
            by_cases v : N (c + 8) (2 * a0 + b0) = 1
            · rw [if_pos ⟨by decide, v⟩, if_pos ⟨d2, w, g9.mp v⟩]
            · rw [if_neg (fun z => v z.2), if_neg (fun z => v (g9.mpr z.2.2))]
          · rw [if_neg w, if_neg (fun z => z.1 rfl), if_neg (fun z => w z.2.1)]
    · intro a b ha2 hb3
      by_cases hab : a = a0 ∧ b = b0
      · obtain ⟨rfl, rfl⟩ := hab
        have eD : rc_D r s (nI a) (nI (b + 3)) e (q + 1) = rc_D r s (nI a) (nI (b + 3)) e q + 1 := by show rc_e _ _ _ _ _ + rc_p _ _ _ _ _ _ = rc_e _ _ _ _ _ + rc_p _ _ _ _ _ _ + 1; omega
        have eB : rb_D r s (nI a) (nI (b + 3)) e (q + 1) = rb_D r s (nI a) (nI (b + 3)) e q + if mo_np r s e = 1 then 0 else 1 := by show rb_e _ _ _ _ _ + rb_p _ _ _ _ _ _ = rb_e _ _ _ _ _ + rb_p _ _ _ _ _ _ + _; omega
        rw [eD, eB, sc_rm, if_neg hc0, hcl, g7]
        by_cases d0 : rc_D r s (nI a) (nI (b + 3)) e q = 0
        · rw [if_pos (show nI (rc_D r s (nI a) (nI (b + 3)) e q) = 0 from by rw [d0]; rfl)]
          refine ⟨?_, fun _ => ?_⟩
          · rw [sk_ne (by omega), sk_sm, d0]; rfl
          · rw [sk_sm]
            have hb0 : rb_D r s (nI a) (nI (b + 3)) e q = 0 := by show rb_e _ _ _ _ _ + rb_p _ _ _ _ _ _ = 0; have : rc_e r s (nI a) (nI (b + 3)) e + rc_p r s (nI a) (nI (b + 3)) e q = 0 := d0; omega
            rw [hb0]
            by_cases w : mo_np r s e = 1
            · rw [if_pos w, if_pos w, if_neg (by decide)]; exact ⟨fun _ => rfl, fun _ => rfl⟩
            · rw [if_neg w, if_neg w, if_pos rfl]; exact ⟨fun z => absurd z (by decide), fun z => absurd z (by omega)⟩
        · rw [if_neg (show ¬ nI (rc_D r s (nI a) (nI (b + 3)) e q) = 0 from fun z => d0 ((nI_eq (b := 0) (by omega) (by omega)).mp z))]
          refine ⟨?_, fun z => absurd z (by omega)⟩
          rw [sk_sm]
          exact nI_add _ 1
      · have hk : ¬ rc_k r s (nI a) (nI (b + 3)) e q := fun z => by
          have e8 := z.2.1
          have e9 := z.2.2.1
          rw [ek] at e8
          rw [et] at e9
          have := (nI_eq (by omega) (by omega)).mp e8
          have := (nI_eq (by omega) (by omega)).mp e9
          omega
        obtain ⟨n1, n2⟩ := rc_n hk
        have hx : 2 * a + b ≠ 2 * a0 + b0 := by omega
        have e7 : sc_rm N c (nI a0) (nI (b0 + 3)) (if mo_np r s e = 1 then 1 else 0) (c + 7) (2 * a + b) = N (c + 7) (2 * a + b) := by
          rw [sc_rm, if_neg hc0, hcl]
          split
          · rw [sk_ne (by omega), sk_ne (by omega)]
          · rw [sk_ne (by omega)]
        have e8 : sc_rm N c (nI a0) (nI (b0 + 3)) (if mo_np r s e = 1 then 1 else 0) (c + 8) (2 * a + b) = N (c + 8) (2 * a + b) := by
          rw [sc_rm, if_neg hc0, hcl]
          split
          · rw [sk_ne (by omega), sk_ne (by omega)]
          · rw [sk_ne (by omega)]
        unfold rc_D rb_D
        rw [n1, n2, e7, e8]
        exact h a b ha2 hb3
/-- the reason of a part -/
theorem cv_o {N : sk_M} {c g s e q n : Nat} {r : Nat → Int32} {tm ct : Int32} (hp : mo_pp r s n) (he : e < n) (hn : n ≤ 12) (hq : q < mo_n r s e) (h : cv_i N c r s e q) (hy : rl_y r s e (mo_n r s e))
    (h1 : N (g + 1) e = mo_ty r s e) (h2 : N (g + 2) e = mo_np r s e) (h6 : N (g + 6) (3 * e + q) = mo_kd r s e q) (h7 : N (g + 7) (3 * e + q) = mo_tu r s e q) (htm : tm = if mo_tm r s e then 1 else 0) (hct : ct = if mo_cm r s e then 1 else 0) (h12 : N c 12 = 0 ↔ mo_wn r s e = 0) :
    sc_ov N c g e q tm ct = mo_wy r s e q ∧ cv_i (sc_om N c g e q tm ct) c r s e (q + 1) := by
  have hno : mo_bp r s e q ≠ 0 → cv_i N c r s e (q + 1) := fun z => cv_1 (fun a b _ k => z k.2.2.2) h
  by_cases T : mo_tm r s e
  · have eb : mo_bp r s e q = 5 := by rw [mo_bp, if_pos T]
    have et : ¬ tm = 0 := by rw [htm, if_pos T]; decide
    rw [sc_ov, sc_om, if_pos et, if_pos et, mo_wy, eb]
    exact ⟨rfl, hno (by rw [eb]; decide)⟩
  · have et : ¬ ¬ tm = 0 := by rw [htm, if_neg T]; decide
    rw [sc_ov, sc_om, if_neg et, if_neg et]
    by_cases Cq : 0 < q ∧ mo_cm r s e
    · have eb : mo_bp r s e q = 3 := by rw [mo_bp, if_neg T, if_pos Cq]
      have ec : ¬ ct = 0 ∧ 0 < q := ⟨by rw [hct, if_pos Cq.2]; decide, Cq.1⟩
      rw [if_pos ec, if_pos ec, mo_wy, eb]
      exact ⟨rfl, hno (by rw [eb]; decide)⟩
    · have ec : ¬ (¬ ct = 0 ∧ 0 < q) := fun z => Cq ⟨z.2, Classical.byContradiction (fun w => z.1 (by rw [hct, if_neg w]))⟩
      rw [if_neg ec, if_neg ec]
      by_cases W : q = 2 ∧ ¬ mo_wn r s e = 0
      · have eb : mo_bp r s e q = 4 := by rw [mo_bp, if_neg T, if_neg Cq, if_pos W]
        have ew : ¬ N c 12 = 0 ∧ q = 2 := ⟨fun z => W.2 (h12.mp z), W.1⟩
        rw [if_pos ew, if_pos ew, mo_wy, eb]
        exact ⟨rfl, hno (by rw [eb]; decide)⟩
      · have eb : mo_bp r s e q = 0 := by rw [mo_bp, if_neg T, if_neg Cq, if_neg W]
        have ew : ¬ (¬ N c 12 = 0 ∧ q = 2) := fun z => W ⟨z.2, fun w => z.1 (h12.mpr w)⟩
        rw [if_neg ew, if_neg ew, mo_wy, if_pos eb, h1]
        by_cases y0 : mo_ty r s e = 0
        · rw [if_neg (show ¬ ¬ mo_ty r s e = 0 from fun z => z y0), if_neg (show ¬ ¬ mo_ty r s e = 0 from fun z => z y0), h2, h6, h7]
          rcases hy with ⟨-, hy2⟩ | ⟨hy2, -, -⟩
          · obtain ⟨a, t, ca, ha, ht, ht4, -, ek, et2, -⟩ := hy2 q hq
            rw [ek, et2]
            exact cv_2 hp he hn hq h eb y0 ha ht ht4 ek et2
          · rw [y0] at hy2
            exact absurd hy2 (by decide)
        · rw [if_pos y0, if_pos y0]
          refine ⟨?_, cv_1 (fun a b _ k => y0 k.1) h⟩
          rw [mo_br, if_pos (Or.inl y0)]
