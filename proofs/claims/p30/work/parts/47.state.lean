/-! The two sides: states -/
theorem sum_c {f g : Nat → Int32} : ∀ n, (∀ i, i < n → f i = g i) → sk_sum f n = sk_sum g n
  | 0, _ => rfl
  | n + 1, h => by
    show sk_sum f n + f n = sk_sum g n + g n
    rw [sum_c n (fun i hi => h i (by omega)), h n (by omega)]
theorem mo_k5_c {r r' : Nat → Int32} {q q' : Nat} (h : ∀ i, i < 5 → r' (q' + i) = r (q + i)) : mo_ke r' q' = mo_ke r q := by
  have e0 : r' q' = r q := h 0 (by omega)
  have key : ∀ n, n ≤ 5 → mo_k5 r' q' n = mo_k5 r q n := by
    intro n
    induction n with
    | zero => intro _; unfold mo_k5; rw [e0]
    | succ n ih => intro hn; unfold mo_k5; rw [ih (by omega), h n (by omega)]
  unfold mo_ke
  rw [key 5 (by omega)]
theorem rl_e.r {M : sk_M} {g s e : Nat} {r r' : Nat → Int32} (h : ∀ y, 23 + 233 * s + 18 * e ≤ y → y < 23 + 233 * s + 18 * e + 18 → r' y = r y) (R : rl_e M g r s e) : rl_e M g r' s e := by
  obtain ⟨r1, rk, rj, rf, rv, p, hp3, r2, r3, ry, r6⟩ := R
  have hk : ∀ q, q < p → mo_kd r' s e q = mo_kd r s e q ∧ mo_tu r' s e q = mo_tu r s e q ∧ mo_ca r' s e q = mo_ca r s e q := fun q hq => ⟨h _ (by omega) (by omega), h _ (by omega) (by omega), h _ (by omega) (by omega)⟩
  have ht : mo_ty r' s e = mo_ty r s e := h _ (by omega) (by omega)
  refine ⟨by rw [ht]; exact r1, by rw [rk]; exact (mo_k5_c (fun i hi => h _ (by omega) (by omega))).symm, rj, by rw [h _ (by omega) (by omega)]; exact rf, by rw [h _ (by omega) (by omega)]; exact rv, p, hp3, r2, (h _ (by omega) (by omega)).trans r3, ?_, fun q hq => ?_⟩
  · unfold rl_y
    rw [ht]
    rcases ry with ⟨y1, y2⟩ | ⟨y1, y2, y3⟩
    · refine Or.inl ⟨y1, fun q hq => ?_⟩
      rw [(hk q hq).1, (hk q hq).2.1, (hk q hq).2.2]
      exact y2 q hq
    · refine Or.inr ⟨y1, y2, fun q hq => ?_⟩
      rw [(hk q hq).2.1]
      exact y3 q hq
  · rw [(hk q hq).1, (hk q hq).2.1, (hk q hq).2.2]
    exact r6 q hq
theorem mo_oc_c {r r' : Nat → Int32} {s j : Nat} (h : ∀ i, i < 5 → r' (6 + 233 * s + 2 + 5 * j + i) = r (6 + 233 * s + 2 + 5 * j + i)) : mo_oc r' s j = mo_oc r s j := by
  unfold mo_oc
  rw [mo_k5_c h]
theorem rl_p.c {M N : sk_M} {g s : Nat} {r : Nat → Int32} (h : ∀ x, x < 10 → N (g + x) = M (g + x)) (R : rl_p M g r s) : rl_p N g r s := by
  obtain ⟨n, hn, h9, hr, h10, hc, hR⟩ := R
  have h0 : N g = M g := h 0 (by omega)
  exact ⟨n, hn, by rw [h0]; exact h9, hr, by rw [h0]; exact h10, fun j hj => by rw [h 9 (by omega)]; exact hc j hj, fun e he => (hR e he).c h⟩
theorem rl_p.r {M : sk_M} {g s : Nat} {r r' : Nat → Int32} (h : ∀ y, 6 + 233 * s ≤ y → y < 239 + 233 * s → r' y = r y) (R : rl_p M g r s) : rl_p M g r' s := by
  obtain ⟨n, hn, h9, hr, h10, hc, hR⟩ := R
  exact ⟨n, hn, h9, by rw [h _ (by omega) (by omega)]; exact hr, by rw [h _ (by omega) (by omega)]; exact h10, fun j hj => by rw [mo_oc_c (fun i hi => h _ (by omega) (by omega))]; exact hc j hj, fun e he => (hR e he).r (fun y h1 h2 => h y (by omega) (by omega))⟩
def rl_s (M : sk_M) (f : Nat) (r : Nat → Int32) (m : Nat) : Prop := m ≤ 4 ∧ M f 2 = nI m ∧ r 0 = nI m ∧ (∀ j, j < 5 → M (f + 2) j = r (1 + j)) ∧ ∀ s, s < m → rl_p M (f + 3 + 10 * s) r s
theorem rl_s.c {M N : sk_M} {f m : Nat} {r : Nat → Int32} (h : ∀ a, f ≤ a → a < f + 43 → N a = M a) (R : rl_s M f r m) : rl_s N f r m := by
  obtain ⟨h4, h2, h0, hu, hp⟩ := R
  exact ⟨h4, by rw [h _ (by omega) (by omega)]; exact h2, h0, fun j hj => by rw [h _ (by omega) (by omega)]; exact hu j hj, fun s hs => (hp s hs).c (fun x hx => h _ (by omega) (by omega))⟩
theorem rl_s.r {M : sk_M} {f m : Nat} {r r' : Nat → Int32} (h : ∀ y, y < 938 → r' y = r y) (R : rl_s M f r m) : rl_s M f r' m := by
  obtain ⟨h4, h2, h0, hu, hp⟩ := R
  exact ⟨h4, h2, by rw [h _ (by omega)]; exact h0, fun j hj => by rw [h _ (by omega)]; exact hu j hj, fun s hs => (hp s hs).r (fun y h1 h2 => h y (by omega))⟩
theorem rl_p.wf {M : sk_M} {g s : Nat} {r : Nat → Int32} (R : rl_p M g r s) : pg_wf M g := by
  obtain ⟨n, hn, h9, -, -, -, hR⟩ := R
  refine ⟨n, hn, h9, fun e he => ?_⟩
  obtain ⟨-, -, -, -, -, p, hp3, r2, -, -, -⟩ := hR e he
  exact ⟨p, hp3, r2⟩
theorem rl_s.wf {M : sk_M} {f m : Nat} {r : Nat → Int32} (R : rl_s M f r m) : st_wf M f := ⟨m, R.1, R.2.1, fun j hj => (R.2.2.2.2 j hj).wf⟩
theorem rl_s.mm {M : sk_M} {f m : Nat} {r : Nat → Int32} (R : rl_s M f r m) : ∀ s, s < m → mo_wp r s := fun s hs => (R.2.2.2.2 s hs).pp
theorem rl_s.n {M : sk_M} {f m : Nat} {r : Nat → Int32} (R : rl_s M f r m) : st_n M f = m := by
  have := R.1
  unfold st_n
  rw [R.2.1, nI_clamp (by omega)]
theorem rl_p.n {M : sk_M} {g s : Nat} {r : Nat → Int32} (R : rl_p M g r s) : pg_n M g = mo_c r s ∧ M g 9 = r (6 + 233 * s) ∧ mo_c r s ≤ 12 ∧ M g 9 = nI (mo_c r s) := by
  obtain ⟨n, hn, h9, hr, -, -, -⟩ := R
  have e1 : pg_n M g = n := by unfold pg_n; rw [h9, nI_clamp (by omega)]
  have e2 : mo_c r s = n := by show (r _).toNatClampNeg = n; rw [hr, nI_clamp (by omega)]
  exact ⟨by rw [e1, e2], by rw [h9, hr], by omega, by rw [e2]; exact h9⟩
theorem rl_s.hs {M : sk_M} {f m : Nat} {r : Nat → Int32} {s : Int32} (R : rl_s M f r m) : st_hs M f s ↔ mo_hs r s := by
  show (¬ s < 0 ∧ ¬ M f 2 ≤ s) ↔ (¬ s < 0 ∧ ¬ r 0 ≤ s)
  rw [R.2.1, R.2.2.1]
theorem rl_s.hx {M : sk_M} {f m : Nat} {r : Nat → Int32} {s : Int32} (R : rl_s M f r m) (h : mo_hs r s) : s = nI s.toNatClampNeg ∧ s.toNatClampNeg < m := sk_ix h R.2.2.1 (by have := R.1; omega)
theorem rl_s.P {M : sk_M} {f m : Nat} {r : Nat → Int32} {s : Int32} (R : rl_s M f r m) (h : mo_hs r s) : rl_p M (st_pg f s) r s.toNatClampNeg := R.2.2.2.2 _ (R.hx h).2
theorem rl_s.he {M : sk_M} {f m : Nat} {r : Nat → Int32} {s e : Int32} (R : rl_s M f r m) : st_he M f s e ↔ mo_he r s e := by
  constructor
  · intro h
    have h1 := R.hs.mp h.1
    refine ⟨h1, h.2.1, ?_⟩
    rw [← (R.P h1).n.2.1]
    exact h.2.2
  · intro h
    refine ⟨R.hs.mpr h.1, h.2.1, ?_⟩
    rw [(R.P h.1).n.2.1]
    exact h.2.2
theorem rl_s.ex {M : sk_M} {f m : Nat} {r : Nat → Int32} {s e : Int32} (R : rl_s M f r m) (h : mo_he r s e) : e = nI e.toNatClampNeg ∧ e.toNatClampNeg < mo_c r s.toNatClampNeg := by
  have hn := (R.P h.1).n
  refine sk_ix (y := r (6 + 233 * s.toNatClampNeg)) h.2 (hn.2.1.symm.trans hn.2.2.2) (by omega)
theorem rl_p.E {M : sk_M} {g s e : Nat} {r : Nat → Int32} (R : rl_p M g r s) (he : e < mo_c r s) : rl_e M g r s e := by
  obtain ⟨n, hn, h9, hr, -, -, hR⟩ := R
  have e2 : mo_c r s = n := by show (r _).toNatClampNeg = n; rw [hr, nI_clamp (by omega)]
  exact hR e (by omega)
theorem rl_s.E {M : sk_M} {f m : Nat} {r : Nat → Int32} {s e : Int32} (R : rl_s M f r m) (h : mo_he r s e) : rl_e M (st_pg f s) r s.toNatClampNeg e.toNatClampNeg := (R.P h.1).E (R.ex h).2
theorem rl_e.n {M : sk_M} {g s e : Nat} {r : Nat → Int32} (R : rl_e M g r s e) : M (g + 2) e = mo_np r s e ∧ mo_np r s e = nI (mo_n r s e) ∧ mo_n r s e ≤ 3 := by
  obtain ⟨-, -, -, -, -, p, hp3, r2, r3, -, -⟩ := R
  have e2 : mo_n r s e = p := by show (mo_np r s e).toNatClampNeg = p; rw [r3, nI_clamp (by omega)]
  rw [e2]
  exact ⟨by rw [r2, r3], r3, hp3⟩
theorem rl_s.hp {M : sk_M} {f m : Nat} {r : Nat → Int32} {s e p : Int32} (R : rl_s M f r m) : st_hp M f s e p ↔ mo_hp r s e p := by
  constructor
  · intro h
    have h1 := R.he.mp h.1
    refine ⟨h1, h.2.1, ?_⟩
    rw [show r (23 + 233 * s.toNatClampNeg + 18 * e.toNatClampNeg + 1) = _ from (R.E h1).n.1.symm]
    exact h.2.2
  · intro h
    refine ⟨R.he.mpr h.1, h.2.1, ?_⟩
    rw [(R.E h.1).n.1]
    exact h.2.2
theorem rl_s.px {M : sk_M} {f m : Nat} {r : Nat → Int32} {s e p : Int32} (R : rl_s M f r m) (h : mo_hp r s e p) : p = nI p.toNatClampNeg ∧ p.toNatClampNeg < mo_n r s.toNatClampNeg e.toNatClampNeg := by
  have hn := (R.E h.1).n
  exact sk_ix (y := r (23 + 233 * s.toNatClampNeg + 18 * e.toNatClampNeg + 1)) h.2 hn.2.1 (by omega)
theorem rl_e.q {M : sk_M} {g s e q : Nat} {r : Nat → Int32} (R : rl_e M g r s e) (hq : q < mo_n r s e) : M (g + 6) (3 * e + q) = mo_kd r s e q ∧ M (g + 7) (3 * e + q) = mo_tu r s e q ∧ M (g + 8) (3 * e + q) = mo_ca r s e q := by
  obtain ⟨-, -, -, -, -, p, hp3, r2, r3, -, r6⟩ := R
  have e2 : mo_n r s e = p := by show (mo_np r s e).toNatClampNeg = p; rw [r3, nI_clamp (by omega)]
  exact r6 q (by omega)
theorem er1_c {P P' : Prop} [Decidable P] [Decidable P'] (h : P ↔ P') : er_1 P = er_1 P' := by
  unfold er_1
  by_cases q : P
  · rw [if_pos q, if_pos (h.mp q)]
  · rw [if_neg q, if_neg (fun z => q (h.mpr z))]
theorem er2_c {P P' Q Q' : Prop} [Decidable P] [Decidable P'] [Decidable Q] [Decidable Q'] (h : P ↔ P') (g : P' → (Q ↔ Q')) : er_2 P Q = er_2 P' Q' := by
  unfold er_2
  by_cases q : P
  · rw [if_pos q, if_pos (h.mp q)]
    by_cases w : Q
    · rw [if_pos w, if_pos ((g (h.mp q)).mp w)]
    · rw [if_neg w, if_neg (fun z => w ((g (h.mp q)).mpr z))]
  · rw [if_neg q, if_neg (fun z => q (h.mpr z))]
theorem er3_c {P P' Q Q' R R' : Prop} [Decidable P] [Decidable P'] [Decidable Q] [Decidable Q'] [Decidable R] [Decidable R'] (h : P ↔ P') (g : Q ↔ Q') (k : P' → (R ↔ R')) : er_3 P Q R = er_3 P' Q' R' := by
  unfold er_3
  by_cases q : P
  · rw [if_pos q, if_pos (h.mp q)]
    by_cases w : Q
    · rw [if_pos w, if_pos (g.mp w)]
      by_cases v : R
      · rw [if_pos v, if_pos ((k (h.mp q)).mp v)]
      · rw [if_neg v, if_neg (fun z => v ((k (h.mp q)).mpr z))]
    · rw [if_neg w, if_neg (fun z => w (g.mpr z))]
  · rw [if_neg q, if_neg (fun z => q (h.mpr z))]
theorem rl_s.ck {M : sk_M} {f m : Nat} {r : Nat → Int32} {s e p v : Int32} (R : rl_s M f r m) : x_ck M f s e p v = mo_wc r s e p v := by
  refine er3_c R.hp Iff.rfl (fun h => ?_)
  have hE := R.E h.1
  have hq := hE.q (R.px h).2
  rw [hE.1, hq.1]
/-- a program and its copy -/
theorem pg_cf_v {M : sk_M} {k f : Nat} (h : k + 10 ≤ f ∨ f + 10 ≤ k) : pg_cf M k f k 9 = M f 9 ∧ pg_cf M k f k 10 = M f 10 ∧ (∀ x e, 1 ≤ x → x ≤ 5 → e < 12 → pg_cf M k f (k + x) e = M (f + x) e) ∧ (∀ x y, 6 ≤ x → x ≤ 8 → y < 36 → pg_cf M k f (k + x) y = M (f + x) y) ∧ ∀ j, j < 3 → pg_cf M k f (k + 9) j = M (f + 9) j := by
  refine ⟨pg_cf_9 (by omega), ?_, fun x e h1 h2 he => ?_, fun x y h1 h2 hy => ?_, fun j hj => ?_⟩
  · unfold pg_cf
    rw [sk_sa, sk_nc (by omega), pg_ce_f (by omega)]
  · unfold pg_cf pg_ce
    rw [sk_nm (by omega), sk_nc (by omega), sk_nc (by omega), sk_nc (by omega), sk_nc (by omega)]
    rcases (show x = 1 ∨ x = 2 ∨ x = 3 ∨ x = 4 ∨ x = 5 by omega) with rfl | rfl | rfl | rfl | rfl
    · rw [sk_nc (by omega), sk_nc (by omega), sk_nc (by omega), sk_nc (by omega), sk_ci he, sk_nm (by omega)]
    · rw [sk_nc (by omega), sk_nc (by omega), sk_nc (by omega), sk_ci he, sk_nc (by omega), sk_nm (by omega)]
    · rw [sk_nc (by omega), sk_nc (by omega), sk_ci he, sk_nc (by omega), sk_nc (by omega), sk_nm (by omega)]
    · rw [sk_nc (by omega), sk_ci he, sk_nc (by omega), sk_nc (by omega), sk_nc (by omega), sk_nm (by omega)]
    · rw [sk_ci he, sk_nc (by omega), sk_nc (by omega), sk_nc (by omega), sk_nc (by omega), sk_nm (by omega)]
  · unfold pg_cf pg_ce
    rw [sk_nm (by omega), sk_nc (by omega)]
    rcases (show x = 6 ∨ x = 7 ∨ x = 8 by omega) with rfl | rfl | rfl
    · rw [sk_nc (by omega), sk_nc (by omega), sk_ci hy, sk_nc (by omega), sk_nc (by omega), sk_nc (by omega), sk_nc (by omega), sk_nc (by omega), sk_nm (by omega)]
    · rw [sk_nc (by omega), sk_ci hy, sk_nc (by omega), sk_nc (by omega), sk_nc (by omega), sk_nc (by omega), sk_nc (by omega), sk_nc (by omega), sk_nm (by omega)]
    · rw [sk_ci hy, sk_nc (by omega), sk_nc (by omega), sk_nc (by omega), sk_nc (by omega), sk_nc (by omega), sk_nc (by omega), sk_nc (by omega), sk_nm (by omega)]
  · unfold pg_cf
    rw [sk_nm (by omega), sk_ci hj, pg_ce_f (by omega)]
/-- the same program at another number -/
def pg_eq (M : sk_M) (f : Nat) (N : sk_M) (k : Nat) : Prop := N k 9 = M f 9 ∧ N k 10 = M f 10 ∧ (∀ x e, 1 ≤ x → x ≤ 5 → e < 12 → N (k + x) e = M (f + x) e) ∧ (∀ x y, 6 ≤ x → x ≤ 8 → y < 36 → N (k + x) y = M (f + x) y) ∧ ∀ j, j < 3 → N (k + 9) j = M (f + 9) j
theorem rl_e.m {M N : sk_M} {f k s e : Nat} {r : Nat → Int32} (he : e < 12) (h1 : ∀ x, 1 ≤ x → x ≤ 5 → N (k + x) e = M (f + x) e) (h2 : ∀ x q, 6 ≤ x → x ≤ 8 → q < 3 → N (k + x) (3 * e + q) = M (f + x) (3 * e + q)) (R : rl_e M f r s e) : rl_e N k r s e := by
  obtain ⟨r1, rk, rj, rf, rv, p, hp3, r2, r3, ry, r6⟩ := R
  unfold rl_e
  rw [h1 1 (by omega) (by omega), h1 2 (by omega) (by omega), h1 3 (by omega) (by omega), h1 4 (by omega) (by omega), h1 5 (by omega) (by omega)]
  refine ⟨r1, rk, rj, rf, rv, p, hp3, r2, r3, ry, fun q hq => ?_⟩
  rw [h2 6 q (by omega) (by omega) (by omega), h2 7 q (by omega) (by omega) (by omega), h2 8 q (by omega) (by omega) (by omega)]
  exact r6 q hq
theorem rl_p.m {M N : sk_M} {f k s : Nat} {r : Nat → Int32} (h : pg_eq M f N k) (R : rl_p M f r s) : rl_p N k r s := by
  obtain ⟨n, hn, h9, hr, h10, hc, hR⟩ := R
  obtain ⟨e9, e10, e5, e8, e3⟩ := h
  exact ⟨n, hn, by rw [e9]; exact h9, hr, by rw [e10]; exact h10, fun j hj => by rw [e3 j hj]; exact hc j hj, fun e he => (hR e he).m (by omega) (fun x h1 h2 => e5 x e h1 h2 (by omega)) (fun x q h1 h2 hq => e8 x _ h1 h2 (by omega))⟩
theorem st_cl_e {M : sk_M} {k f : Nat} (hap : k + 43 ≤ f ∨ f + 43 ≤ k) : ∀ (n j : Nat), n ≤ 4 → j < n → pg_eq M (f + 3 + 10 * j) (st_cl M k f n) (k + 3 + 10 * j)
  | 0, j, _, h => absurd h (by omega)
  | n + 1, j, hn, h => by
    by_cases hj : j = n
    · subst hj
      obtain ⟨a1, a2, a3, a4, a5⟩ := pg_cf_v (M := st_cl M k f j) (k := k + 3 + 10 * j) (f := f + 3 + 10 * j) (by omega)
      refine ⟨?_, ?_, fun x e h1 h2 he => ?_, fun x y h1 h2 hy => ?_, fun i hi => ?_⟩
      · exact a1.trans (by rw [st_cl_f _ (by omega) (by omega)])
      · exact a2.trans (by rw [st_cl_f _ (by omega) (by omega)])
      · exact (a3 x e h1 h2 he).trans (by rw [st_cl_f _ (by omega) (by omega)])
      · exact (a4 x y h1 h2 hy).trans (by rw [st_cl_f _ (by omega) (by omega)])
      · exact (a5 i hi).trans (by rw [st_cl_f _ (by omega) (by omega)])
    · obtain ⟨a1, a2, a3, a4, a5⟩ := st_cl_e (M := M) hap n j (by omega) (by omega)
      have e : ∀ x, x < 10 → st_cl M k f (n + 1) (k + 3 + 10 * j + x) = st_cl M k f n (k + 3 + 10 * j + x) := fun x hx => by
        show pg_cf _ _ _ _ = _
        exact pg_cf_f (by omega)
      have e0 : st_cl M k f (n + 1) (k + 3 + 10 * j) = st_cl M k f n (k + 3 + 10 * j) := e 0 (by omega)
      exact ⟨by rw [e0]; exact a1, by rw [e0]; exact a2, fun x y h1 h2 hy => by rw [e x (by omega)]; exact a3 x y h1 h2 hy, fun x y h1 h2 hy => by rw [e x (by omega)]; exact a4 x y h1 h2 hy, fun i hi => by rw [e 9 (by omega)]; exact a5 i hi⟩
theorem pg_eq.t {M N P : sk_M} {f k g : Nat} (h : pg_eq M f N k) (e : ∀ x, x < 10 → P (k + x) = N (k + x)) : pg_eq M f P k := by
  obtain ⟨a1, a2, a3, a4, a5⟩ := h
  have e0 : P k = N k := e 0 (by omega)
  exact ⟨by rw [e0]; exact a1, by rw [e0]; exact a2, fun x y h1 h2 hy => by rw [e x (by omega)]; exact a3 x y h1 h2 hy, fun x y h1 h2 hy => by rw [e x (by omega)]; exact a4 x y h1 h2 hy, fun i hi => by rw [e 9 (by omega)]; exact a5 i hi⟩
theorem rl_s.f {M : sk_M} {k f m : Nat} {r : Nat → Int32} (hap : k + 43 ≤ f ∨ f + 43 ≤ k) (R : rl_s M f r m) : rl_s (st_cf M k f) k r m := by
  have hn := R.n
  obtain ⟨h4, h2, h0, hu, hp⟩ := R
  refine ⟨h4, ?_, h0, fun j hj => ?_, fun s hs => ?_⟩
  · unfold st_cf; rw [sk_nc (by omega), st_cl_2, h2]
  · unfold st_cf; rw [sk_ci hj, st_cl_f _ (by omega) (by omega)]; exact hu j hj
  · have e := st_cl_e (M := M) hap m s h4 hs
    refine (hp s hs).m (pg_eq.t (g := 0) e (fun x hx => ?_))
    unfold st_cf
    rw [hn, sk_ncf (by omega)]
