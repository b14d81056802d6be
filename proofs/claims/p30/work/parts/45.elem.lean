/-! The two sides: an element -/
def cv_q (M0 N : sk_M) (c : Nat) (r : Nat → Int32) (s e q : Nat) (sum top : Int32) : Prop :=
  (∀ a, (a < c ∨ c + 9 ≤ a) → N a = M0 a) ∧ (∀ j, j ≠ 13 → N c j = M0 c j) ∧ N c 13 = nI (mo_lq r s e + mo_lp r s e q) ∧ cv_i N c r s e q ∧ (∀ a, c + 3 ≤ a → a < c + 7 → N a = M0 a) ∧
  (∀ y, y < 3 * e → N (c + 1) y = M0 (c + 1) y ∧ N (c + 2) y = M0 (c + 2) y) ∧ (∀ j, j < q → N (c + 1) (3 * e + j) = mo_v r s e j ∧ N (c + 2) (3 * e + j) = mo_wy r s e j) ∧ sum = mo_sb r s e q ∧ top = mo_sm r s e q
theorem wy_rng {r : Nat → Int32} {s e q : Nat} : mo_wy r s e q = 0 ∨ mo_wy r s e q = 1 ∨ (1 < mo_wy r s e q ∧ ¬ mo_wy r s e q = 0 ∧ ¬ mo_wy r s e q = 1 ∧ 0 < mo_wy r s e q) := by
  have hb : mo_bp r s e q = 0 ∨ mo_bp r s e q = 3 ∨ mo_bp r s e q = 4 ∨ mo_bp r s e q = 5 := by
    unfold mo_bp
    split
    · simp
    · split
      · simp
      · split <;> simp
  have hr : mo_br r s e q = 0 ∨ mo_br r s e q = 1 ∨ mo_br r s e q = 2 := by
    unfold mo_br
    split
    · simp
    · split
      · simp
      · split <;> simp
  unfold mo_wy
  rcases hb with h | h | h | h
  · rw [if_pos h]
    rcases hr with g | g | g <;> rw [g] <;> decide
  · rw [if_neg (by rw [h]; decide), h]; decide
  · rw [if_neg (by rw [h]; decide), h]; decide
  · rw [if_neg (by rw [h]; decide), h]; decide
theorem cv_qs {M0 N : sk_M} {c g s e q n : Nat} {r : Nat → Int32} {tm ct ty sum top : Int32} (hap2 : g + 10 ≤ c ∨ c + 9 ≤ g) (hp : mo_pp r s n) (he : e < n) (hn : n ≤ 12) (hq : q < mo_n r s e) (hR : rl_e M0 g r s e)
    (htm : tm = if mo_tm r s e then 1 else 0) (hct : ct = if mo_cm r s e then 1 else 0) (h12 : M0 c 12 = 0 ↔ mo_wn r s e = 0) (hty : ty = mo_ty r s e) (h : cv_q M0 N c r s e q sum top) :
    cv_q M0 (re_s N c g e q ty tm ct) c r s e (q + 1) (sum + re_v N c g e q ty tm ct) (if top < re_v N c g e q ty tm ct then re_v N c g e q ty tm ct else top) := by
  obtain ⟨k1, k2, k3, k4, k5, k6, k7, k8, k9⟩ := h
  obtain ⟨r1, -, -, -, -, p, hp3, r2, r3, ry, r6⟩ := hR
  have hpn : mo_n r s e = p := by show (mo_np r s e).toNatClampNeg = p; rw [r3, nI_clamp (by omega)]
  rw [hpn] at hq
  obtain ⟨q6, q7, q8⟩ := r6 q hq
  have f : ∀ x, x < 10 → N (g + x) = M0 (g + x) := fun x hx => k1 _ (by omega)
  obtain ⟨o1, o2⟩ := cv_o (N := N) (c := c) (g := g) (q := q) (tm := tm) (ct := ct) hp he hn (by omega) k4 (by rw [hpn]; exact ry) (by rw [f 1 (by omega)]; exact r1) (by rw [f 2 (by omega), r2, r3]) (by rw [f 6 (by omega)]; exact q6) (by rw [f 7 (by omega)]; exact q7) htm hct (by rw [k2 _ (by omega)]; exact h12)
  have fo : ∀ x, x < 10 → sc_om N c g e q tm ct (g + x) = M0 (g + x) := fun x hx => by rw [sc_om_g (by omega) (by omega), f x hx]
  have hv : re_v N c g e q ty tm ct = mo_v r s e q := by
    unfold re_v re_w
    rw [o1, fo 6 (by omega), fo 7 (by omega), fo 8 (by omega), q6, q7, q8, hty, (rl_v0 ry hq).1, mo_v]
    rcases wy_rng (r := r) (s := s) (e := e) (q := q) with w | w | w
    · rw [w, if_neg (by decide), if_neg (by decide), if_pos rfl]
    · rw [w, if_pos rfl, if_neg (by decide), if_neg (by decide), if_pos rfl]
    · rw [if_neg w.2.2.1, if_pos w.1, if_neg w.2.1, if_neg w.2.2.1]
  rw [hv]
  unfold re_s
  rw [hv, o1]
  refine ⟨fun a ha => ?_, fun j hj => ?_, ?_, ?_, fun a h1 h2 => ?_, fun y hy => ?_, fun j hj => ?_, by rw [k8]; rfl, by rw [k9]; rfl⟩
  · rw [sk_nf (by omega), sk_nf (by omega), sk_nf (by omega), sc_om_g (by omega) (by omega), k1 a ha]
  · rw [sk_ne (by omega), sk_ne (by omega), sk_ne (by omega), sc_om_g (by omega) (by omega), k2 j hj]
  · rw [sk_sm, sc_om_g (by omega) (by omega), k3]
    show _ = nI (mo_lq r s e + (mo_lp r s e q + if 0 < mo_wy r s e q then 1 else 0))
    rw [← Nat.add_assoc]
    rcases wy_rng (r := r) (s := s) (e := e) (q := q) with w | w | w
    · rw [w, if_pos rfl, if_neg (by decide)]; exact nI_add _ 0
    · rw [w, if_neg (by decide), if_pos (by decide)]; exact nI_add _ 1
    · rw [if_neg w.2.1, if_pos w.2.2.2]; exact nI_add _ 1
  · exact cv_i.c (by rw [sk_nf (by omega), sk_nf (by omega), sk_nf (by omega)]) (by rw [sk_nf (by omega), sk_nf (by omega), sk_nf (by omega)]) o2
  · rw [sk_nf (by omega), sk_nf (by omega), sk_nf (by omega), sc_om_g (by omega) (by omega), k5 a h1 h2]
  · rw [sk_ne (by omega), sk_ne (by omega), sk_ne (by omega), sk_ne (by omega), sk_ne (by omega), sk_ne (by omega), sc_om_g (by omega) (by omega), sc_om_g (by omega) (by omega)]
    exact k6 y hy
  · by_cases z : j = q
    · subst z
      exact ⟨by rw [sk_ne (by omega), sk_ne (by omega), sk_sm], by rw [sk_ne (by omega), sk_sm]⟩
    · rw [sk_ne (by omega), sk_ne (by omega), sk_ne (by omega), sk_ne (by omega), sk_ne (by omega), sk_ne (by omega), sc_om_g (by omega) (by omega), sc_om_g (by omega) (by omega)]
      exact k7 j (by omega)
theorem cv_ql {M0 : sk_M} {c g s e n : Nat} {r : Nat → Int32} {tm ct ty : Int32} (hap2 : g + 10 ≤ c ∨ c + 9 ≤ g) (hp : mo_pp r s n) (he : e < n) (hn : n ≤ 12) (hR : rl_e M0 g r s e)
    (htm : tm = if mo_tm r s e then 1 else 0) (hct : ct = if mo_cm r s e then 1 else 0) (h12 : M0 c 12 = 0 ↔ mo_wn r s e = 0) (hty : ty = mo_ty r s e) (h13 : M0 c 13 = nI (mo_lq r s e)) (hi : cv_i M0 c r s e 0) :
    ∀ q, q ≤ mo_n r s e → cv_q M0 (re_l c g e ty tm ct M0 q).1 c r s e q (re_l c g e ty tm ct M0 q).2.1 (re_l c g e ty tm ct M0 q).2.2
  | 0, _ => ⟨fun _ _ => rfl, fun _ _ => rfl, h13, hi, fun _ _ _ => rfl, fun _ _ => ⟨rfl, rfl⟩, fun j hj => absurd hj (Nat.not_lt_zero _), rfl, rfl⟩
  | q + 1, hq => cv_qs hap2 hp he hn hq hR htm hct h12 hty (cv_ql hap2 hp he hn hR htm hct h12 hty h13 hi q (by omega))
/-- between elements -/
def of_e (r : Nat → Int32) (s : Nat) : Nat → Int32
  | 0 => 0
  | e + 1 => of_e r s e + 100 * r (23 + 233 * s + 18 * e + 16)
theorem of_s {r : Nat → Int32} {s : Nat} : ∀ n, mo_of r s n = of_e r s n + 100 * r (6 + 233 * s + 1)
  | 0 => by
    unfold mo_of of_e
    rw [Int32.zero_add]
  | n + 1 => by
    unfold mo_of of_e
    rw [of_s n, Int32.add_assoc, Int32.add_assoc, Int32.add_comm (100 * r (6 + 233 * s + 1))]
def cv_e (M N : sk_M) (c : Nat) (r : Nat → Int32) (s e : Nat) : Prop :=
  (∀ a, (a < c ∨ c + 9 ≤ a) → N a = M a) ∧ N c 8 = nI (mo_ct r s 0 e) ∧ N c 9 = nI (mo_ct r s 1 e) ∧ N c 10 = nI (mo_ct r s 2 e) ∧ N c 11 = nI (mo_cc r s e) ∧ (N c 12 = 0 ↔ mo_wn r s e = 0) ∧ cv_i N c r s e 0 ∧ N c 13 = nI (mo_lq r s e) ∧ N c 14 = mo_te r s e ∧ N c 16 = of_e r s e ∧
  (∀ x, x < e → N (c + 3) x = mo_ba r s x ∧ N (c + 4) x = mo_sm r s x (mo_n r s x) ∧ N (c + 5) x = mo_gr r s x ∧ N (c + 6) x = if mo_bn r s x then 1 else 0) ∧
  ∀ x j, x < e → j < mo_n r s x → N (c + 1) (3 * x + j) = mo_v r s x j ∧ N (c + 2) (3 * x + j) = mo_wy r s x j
theorem ct_s {r : Nat → Int32} {s e : Nat} {ty : Int32} : mo_ct r s ty (e + 1) = mo_ct r s ty e + if mo_ty r s e = ty then 1 else 0 := rfl
theorem cm_e {N : sk_M} {c s e : Nat} {r : Nat → Int32} {ty : Int32} (hty : ty = mo_ty r s e) (hy : ty = 0 ∨ ty = 1 ∨ ty = 2) (h8 : N c 8 = nI (mo_ct r s 0 e)) (h9 : N c 9 = nI (mo_ct r s 1 e)) (h10 : N c 10 = nI (mo_ct r s 2 e)) :
    sc_cm N c ty c 8 = nI (mo_ct r s 0 (e + 1)) ∧ sc_cm N c ty c 9 = nI (mo_ct r s 1 (e + 1)) ∧ sc_cm N c ty c 10 = nI (mo_ct r s 2 (e + 1)) ∧ (∀ a j, (a ≠ c ∨ (j ≠ 8 ∧ j ≠ 9 ∧ j ≠ 10)) → sc_cm N c ty a j = N a j) := by
  have x0 : ∀ a : Nat, nI a = nI (a + 0) := fun a => rfl
  rw [ct_s, ct_s, ct_s, ← hty]
  unfold sc_cm
  rcases hy with q | q | q
  · rw [if_pos q, if_pos q, if_neg (by rw [q]; decide), if_neg (by rw [q]; decide)]
    exact ⟨by rw [sk_sm, h8]; exact nI_add _ 1, by rw [sk_ne (by omega)]; exact h9, by rw [sk_ne (by omega)]; exact h10, fun a j h => sk_ne (by omega)⟩
  · rw [if_neg (by rw [q]; decide), if_pos q, if_neg (by rw [q]; decide), if_pos q, if_neg (by rw [q]; decide)]
    exact ⟨by rw [sk_ne (by omega)]; exact h8, by rw [sk_sm, h9]; exact nI_add _ 1, by rw [sk_ne (by omega)]; exact h10, fun a j h => sk_ne (by omega)⟩
  · rw [if_neg (by rw [q]; decide), if_neg (by rw [q]; decide), if_neg (by rw [q]; decide), if_neg (by rw [q]; decide), if_pos q]
    exact ⟨by rw [sk_ne (by omega)]; exact h8, by rw [sk_ne (by omega)]; exact h9, by rw [sk_sm, h10]; exact nI_add _ 1, fun a j h => sk_ne (by omega)⟩
theorem rl_yt {r : Nat → Int32} {s e p : Nat} (h : rl_y r s e p) : mo_ty r s e = 0 ∨ mo_ty r s e = 1 ∨ mo_ty r s e = 2 := by
  rcases h with ⟨h, -⟩ | ⟨h | h, -, -⟩
  · exact Or.inl h
  · exact Or.inr (Or.inl h)
  · exact Or.inr (Or.inr h)
theorem cp_e {N : sk_M} {c u s e : Nat} {r : Nat → Int32} (hy : mo_ty r s e = 0 ∨ mo_ty r s e = 1 ∨ mo_ty r s e = 2) (hu2 : N u 2 = r 3) (hu3 : N u 3 = r 4) (h8 : N c 8 = nI (mo_ct r s 0 e)) (h9 : N c 9 = nI (mo_ct r s 1 e)) (h10 : N c 10 = nI (mo_ct r s 2 e)) :
    sc_cp N c u (mo_ty r s e) ↔ mo_tm r s e := by
  have e1 : ∀ ty, mo_ty r s e = ty → nI (mo_ct r s ty e) + 1 = nI (mo_ct r s ty (e + 1)) := fun ty h => by
    rw [ct_s, if_pos h]; exact nI_add _ 1
  unfold sc_cp mo_tm mo_mo
  rcases hy with q | q | q
  · rw [if_pos q, if_pos q, h8, e1 0 q, hu2, q]
  · have q0 : ¬ mo_ty r s e = 0 := by rw [q]; decide
    rw [if_neg q0, if_pos q, if_neg q0, if_pos q, h9, e1 1 q, hu3, q]
  · have q0 : ¬ mo_ty r s e = 0 := by rw [q]; decide
    have q1 : ¬ mo_ty r s e = 1 := by rw [q]; decide
    rw [if_neg q0, if_neg q1, if_neg q0, if_neg q1, h10, e1 2 q, q]
