/-! The model: what would be -/
def mu_u (r : Nat → Int32) (j : Nat) (v : Int32) : Nat → Int32 := fun y => if y = j then v else r y
theorem sk_msu {M : sk_M} {a j : Nat} {v : Int32} : sk_ms M a j v a = mu_u (M a) j v := by
  funext y
  unfold sk_ms mu_u
  by_cases h : y = j
  · rw [if_pos ⟨rfl, h⟩, if_pos h]
  · rw [if_neg (fun q => h q.2), if_neg h]
theorem mu_n {r : Nat → Int32} {j y : Nat} {v : Int32} (h : y ≠ j) : mu_u r j v y = r y := if_neg h
theorem mu_y {r : Nat → Int32} {j : Nat} {v : Int32} : mu_u r j v j = v := if_pos rfl
/-- the trial row behind a copy -/
def mu_c (r t : Nat → Int32) : Nat → Int32 := fun y => if y < 938 then r y else t y
theorem mc_mu {M : sk_M} {a b : Nat} : mc_m M a b 0 0 938 b = mu_c (M a) (M b) := by
  funext y
  rw [mc_m_v]
  unfold mu_c
  by_cases h : y < 938
  · rw [if_pos (by omega), if_pos h, Nat.sub_zero, Nat.zero_add]
  · rw [if_neg (by omega), if_neg h]
theorem mu_cl {r t : Nat → Int32} {y : Nat} (h : y < 938) : mu_c r t y = r y := if_pos h
theorem mo_ppc {r r' : Nat → Int32} {s n : Nat} (h : ∀ e, e < n → r' (23 + 233 * s + 18 * e + 1) = r (23 + 233 * s + 18 * e + 1)) (g : mo_pp r s n) : mo_pp r' s n := fun e he => by
  rw [h e he]; exact g e he
theorem mo_wpc {r r' : Nat → Int32} {s : Nat} (h0 : r' (6 + 233 * s) = r (6 + 233 * s)) (h : ∀ e, e < 12 → r' (23 + 233 * s + 18 * e + 1) = r (23 + 233 * s + 18 * e + 1)) (g : mo_wp r s) : mo_wp r' s := by
  obtain ⟨N, h1, h2, h3⟩ := g
  exact ⟨N, h1, by rw [h0]; exact h2, mo_ppc (fun e he => h e (by omega)) h3⟩
theorem mo_wcp {r t : Nat → Int32} {s : Nat} (hs : s < 4) (g : mo_wp r s) : mo_wp (mu_c r t) s := mo_wpc (mu_cl (by omega)) (fun e he => mu_cl (by omega)) g
def mo_zc (M : sk_M) (k : Nat) (s e p v : Int32) : Int32 := mo_T (mu_u (mu_c (M (k + 2)) (M (k + 3))) (25 + 233 * s.toNatClampNeg + 18 * e.toNatClampNeg + 3 * p.toNatClampNeg + 2) v) s.toNatClampNeg
theorem mo_cu {r : Nat → Int32} {s j : Nat} {v : Int32} (h : 6 + 233 * s ≠ j) : mo_c (mu_u r j v) s = mo_c r s := by show (mu_u r j v _).toNatClampNeg = _; rw [mu_n h]
theorem mo_cc0 {r t : Nat → Int32} {s : Nat} (h : s < 4) : mo_c (mu_c r t) s = mo_c r s := by show (mu_c r t _).toNatClampNeg = _; rw [mu_cl (by omega)]
theorem mo_e0 {e : Nat} (h : ¬ (0 : Int32) < nI e) (he : e < 100) : e = 0 := by
  refine Classical.byContradiction (fun q => h ?_)
  exact (nI_ltI (a := 0) (by omega) (by omega)).mpr (by omega)
abbrev mb_S : Type := sk_M × Int32 × Int32 × Int32
def mb_1 (N : sk_M) (k x y : Nat) : Nat → sk_M
  | 0 => mc_m N (k + 2) (k + 3) 0 0 938
  | n + 1 => sk_ms (sk_ms (mb_1 N k x y n) (k + 3) (x + n) (N (k + 2) (y + n))) (k + 3) (y + n) (N (k + 2) (x + n))
theorem mb_1_f {N : sk_M} {k x y a : Nat} (h : a ≠ k + 3) (n : Nat) : mb_1 N k x y n a = N a := by
  induction n with
  | zero => exact mc_m_f h
  | succ n ih => unfold mb_1; rw [sk_nf h, sk_nf h, ih]
theorem mb_1_v {N : sk_M} {k x y q : Nat} (hxy : x + 18 ≤ y) (hq : q < 938) : ∀ n, n ≤ 18 → mb_1 N k x y n (k + 3) q = if x ≤ q ∧ q < x + n then N (k + 2) (y + (q - x)) else if y ≤ q ∧ q < y + n then N (k + 2) (x + (q - y)) else N (k + 2) q
  | 0, _ => by
    rw [if_neg (by omega), if_neg (by omega)]
    show mc_m _ _ _ _ _ _ _ _ = _
    rw [mc_mu, mu_cl hq]
  | n + 1, hn => by
    unfold mb_1
    by_cases h1 : q = y + n
    · subst h1
      rw [sk_sm, if_neg (by omega), if_pos (by omega), Nat.add_sub_cancel_left]
    · rw [sk_ne (Or.inr h1)]
      by_cases h2 : q = x + n
      · subst h2
        rw [sk_sm, if_pos (by omega), Nat.add_sub_cancel_left]
      · rw [sk_ne (Or.inr h2), mb_1_v hxy hq n (by omega)]
        by_cases h3 : x ≤ q ∧ q < x + n
        · rw [if_pos h3, if_pos (by omega)]
        · rw [if_neg h3, if_neg (by omega : ¬ (x ≤ q ∧ q < x + (n + 1)))]
          by_cases h4 : y ≤ q ∧ q < y + n
          · rw [if_pos h4, if_pos (by omega)]
          · rw [if_neg h4, if_neg (by omega)]
theorem mo_g.b1 {k x y : Nat} {M N : sk_M} (g : mo_g k M N) : ∀ n, mo_g k M (mb_1 N k x y n)
  | 0 => mo_g.c rfl g
  | n + 1 => mo_g.w (by omega) (mo_g.w (by omega) (mo_g.b1 g n))
abbrev mb_t (N : sk_M) (k s i j : Nat) : sk_M := mb_1 N k (23 + 233 * s + 18 * i) (23 + 233 * s + 18 * j) 18
def mb_v (N : sk_M) (k s c i j : Nat) : Int32 := mo_to (mb_t N k s i j (k + 3)) s c
def mb_m (N : sk_M) (k s c i j : Nat) : sk_M := mk_m (mb_t N k s i j) k (k + 3) s c
def mb_s (k s c i j : Nat) (z : mb_S) : mb_S := if z.2.2.1 = -1 ∨ z.2.1 < mb_v z.1 k s c i j then (mb_m z.1 k s c i j, mb_v z.1 k s c i j, nI i, nI j) else (mb_m z.1 k s c i j, z.2.1, z.2.2.1, z.2.2.2)
def mb_j (k s c i : Nat) (z : mb_S) : Nat → mb_S
  | 0 => z
  | d + 1 => mb_s k s c i (i + 1 + d) (mb_j k s c i z d)
def mb_o (k s c : Nat) (z : mb_S) : Nat → mb_S
  | 0 => z
  | i + 1 => mb_j k s c i (mb_o k s c z i) (c - (i + 1))
abbrev mb_z (M : sk_M) (k : Nat) : mb_S := (sk_ms M k 0 0, 0, -1, -1)
theorem mb_s1 {k s c i j : Nat} {z : mb_S} : (mb_s k s c i j z).1 = mb_m z.1 k s c i j := by unfold mb_s; split <;> rfl
theorem mb_m_f {N : sk_M} {k s c i j a : Nat} (h : a < k + 8 ∨ k + 14 ≤ a) (h2 : a ≠ k) (h3 : a ≠ k + 3) : mb_m N k s c i j a = N a := by
  unfold mb_m
  rw [mk_m_f h h2]
  exact mb_1_f h3 18
theorem mb_j_f {k s c i a : Nat} {z : mb_S} (h : a < k + 8 ∨ k + 14 ≤ a) (h2 : a ≠ k) (h3 : a ≠ k + 3) : ∀ d, (mb_j k s c i z d).1 a = z.1 a
  | 0 => rfl
  | d + 1 => by
    show (mb_s k s c i (i + 1 + d) (mb_j k s c i z d)).1 a = _
    rw [mb_s1, mb_m_f h h2 h3, mb_j_f h h2 h3 d]
theorem mb_o_f {k s c a : Nat} {z : mb_S} (h : a < k + 8 ∨ k + 14 ≤ a) (h2 : a ≠ k) (h3 : a ≠ k + 3) : ∀ i, (mb_o k s c z i).1 a = z.1 a
  | 0 => rfl
  | i + 1 => by
    show (mb_j k s c i (mb_o k s c z i) (c - (i + 1))).1 a = _
    rw [mb_j_f h h2 h3, mb_o_f h h2 h3 i]
theorem mo_g.bj {k s c i : Nat} {M : sk_M} {z : mb_S} (g : mo_g k M z.1) : ∀ d, mo_g k M (mb_j k s c i z d).1
  | 0 => g
  | d + 1 => by
    show mo_g k M (mb_s k s c i (i + 1 + d) (mb_j k s c i z d)).1
    rw [mb_s1]
    exact mo_g.mk (mo_g.b1 (mo_g.bj g d) 18)
theorem mo_g.bo {k s c : Nat} {M : sk_M} {z : mb_S} (g : mo_g k M z.1) : ∀ i, mo_g k M (mb_o k s c z i).1
  | 0 => g
  | i + 1 => mo_g.bj (mo_g.bo g i) _
def mb_a (z : mb_S) (w : Int32) : Int32 := if z.2.2.1 = -1 then -1 else if w = 0 then z.2.1 else if w = 1 then z.2.2.1 else z.2.2.2
theorem mb_y {z : mb_S} {k s c i j : Nat} (h : z.2.2.1 = -1 ∨ z.2.1 < mb_v z.1 k s c i j) : mb_s k s c i j z = (mb_m z.1 k s c i j, mb_v z.1 k s c i j, nI i, nI j) := if_pos h
theorem mb_n {z : mb_S} {k s c i j : Nat} (h : ¬ z.2.2.1 = -1) (h2 : mb_v z.1 k s c i j ≤ z.2.1) : mb_s k s c i j z = (mb_m z.1 k s c i j, z.2.1, z.2.2.1, z.2.2.2) := if_neg (fun q => q.elim h (fun r => absurd h2 (Int32.not_le.mpr r)))
theorem mb_1s {N : sk_M} {r : Nat → Int32} {k x y n : Nat} (h : N (k + 2) = r) : mb_1 N k x y (n + 1) = sk_ms (sk_ms (mb_1 N k x y n) (k + 3) (x + n) (r (y + n))) (k + 3) (y + n) (r (x + n)) := by subst h; rfl
theorem mb_oz {M : sk_M} {k s c a : Nat} (h : a < k + 8 ∨ k + 14 ≤ a) (h2 : a ≠ k) (h3 : a ≠ k + 3) (i : Nat) : (mb_o k s c (mb_z M k) i).1 a = sk_ms M k 0 0 a := mb_o_f h h2 h3 i
theorem mb_wp {N : sk_M} {r : Nat → Int32} {k s c i j : Nat} (hr : N (k + 2) = r) (hs : s < 4) (hc : c ≤ 12) (hi : i < j) (hj : j < c) (h0 : r (6 + 233 * s) = nI c) (hp : mo_pp r s c) : mb_t N k s i j (k + 3) (6 + 233 * s) = nI c ∧ mo_pp (mb_t N k s i j (k + 3)) s c := by
  unfold mb_t
  refine ⟨by rw [mb_1_v (by omega) (by omega) 18 (by omega), if_neg (by omega), if_neg (by omega), hr, h0], fun e he => ?_⟩
  rw [mb_1_v (by omega) (by omega) 18 (by omega), hr]
  by_cases h1 : e = i
  · subst h1
    rw [if_pos (by omega), show 23 + 233 * s + 18 * j + (23 + 233 * s + 18 * e + 1 - (23 + 233 * s + 18 * e)) = 23 + 233 * s + 18 * j + 1 from by omega]
    exact hp j hj
  · rw [if_neg (by omega)]
    by_cases h2 : e = j
    · subst h2
      rw [if_pos (by omega), show 23 + 233 * s + 18 * i + (23 + 233 * s + 18 * e + 1 - (23 + 233 * s + 18 * e)) = 23 + 233 * s + 18 * i + 1 from by omega]
      exact hp i (by omega)
    · rw [if_neg (by omega)]
      exact hp e he
def mr_r (N : sk_M) (k q : Nat) : Nat → sk_M
  | 0 => mc_m N (k + 2) (k + 3) 0 0 938
  | n + 1 => sk_ms (mr_r N k q n) (k + 3) (q + n) (N (k + 7) (17 + n))
theorem mr_r_f {N : sk_M} {k q a : Nat} (h : a ≠ k + 3) (n : Nat) : mr_r N k q n a = N a := by
  induction n with
  | zero => exact mc_m_f h
  | succ n ih => unfold mr_r; rw [sk_nf h, ih]
theorem mr_rs {N : sk_M} {T : Nat → Int32} {k q n : Nat} (h : N (k + 7) = T) : mr_r N k q (n + 1) = sk_ms (mr_r N k q n) (k + 3) (q + n) (T (17 + n)) := by subst h; rfl
theorem mr_r_v {N : sk_M} {k q y : Nat} (hy : y < 938) : ∀ n, mr_r N k q n (k + 3) y = if q ≤ y ∧ y < q + n then N (k + 7) (17 + (y - q)) else N (k + 2) y
  | 0 => by
    rw [if_neg (by omega)]
    show mc_m _ _ _ _ _ _ _ _ = _
    rw [mc_mu, mu_cl hy]
  | n + 1 => by
    unfold mr_r
    by_cases h1 : y = q + n
    · subst h1
      rw [sk_sm, if_pos (by omega), Nat.add_sub_cancel_left]
    · rw [sk_ne (Or.inr h1), mr_r_v hy n]
      by_cases h3 : q ≤ y ∧ y < q + n
      · rw [if_pos h3, if_pos (by omega)]
      · rw [if_neg h3, if_neg (by omega)]
theorem mo_g.rr {k q : Nat} {M N : sk_M} (g : mo_g k M N) : ∀ n, mo_g k M (mr_r N k q n)
  | 0 => mo_g.c rfl g
  | n + 1 => mo_g.w (by omega) (mo_g.rr g n)
/-- another element: refused, or what it would be -/
def mo_rz (M : sk_M) (k n : Nat) (s e : Int32) (x : Int32) (M' : sk_M) : Prop :=
  (¬ mo_he (M (k + 2)) s e ∧ x = 0 ∧ M' k 0 = 1 ∧ mo_fr k M M') ∨ (mo_he (M (k + 2)) s e ∧ ((∃ z, tt (tx (M (k + 1)) n) n = .inl z) ∨ ∃ L, tt (tx (M (k + 1)) n) n = .inr L ∧ ¬ L.length = 1) ∧ x = 0 ∧ M' k 0 = 2 ∧ mo_fr k M M') ∨
  (mo_he (M (k + 2)) s e ∧ ∃ L T R, tt (tx (M (k + 1)) n) n = .inr L ∧ L.length = 1 ∧ mx_h T L ∧ (∀ y, y < 938 → R y = if 23 + 233 * s.toNatClampNeg + 18 * e.toNatClampNeg ≤ y ∧ y < 23 + 233 * s.toNatClampNeg + 18 * e.toNatClampNeg + 18 then T (17 + (y - (23 + 233 * s.toNatClampNeg + 18 * e.toNatClampNeg))) else M (k + 2) y) ∧ x = mo_to R s.toNatClampNeg (mo_c (M (k + 2)) s.toNatClampNeg) ∧ M' k 0 = 0 ∧ mo_fr k M M')
theorem mo_g3 {k j : Nat} {M N : sk_M} {v : Int32} (g : mo_g k M N) (hj : v = nI j) : sk_ms N k 0 v k 0 = nI j ∧ mo_fr k M (sk_ms N k 0 v) :=
  ⟨by rw [sk_sm, hj], fun a h1 => by rw [sk_nf (by omega)]; exact g.2.1 a h1, by rw [sk_ne (by omega)]; exact g.2.2.1, by rw [sk_ne (by omega)]; exact g.2.2.2⟩
theorem mo_fr.t {k : Nat} {M N P : sk_M} (h : mo_fr k M N) (g : mo_fr k N P) : mo_fr k M P := ⟨fun a h1 => (g.1 a h1).trans (h.1 a h1), g.2.1.trans h.2.1, g.2.2.trans h.2.2⟩
theorem x_ck00 {P Q R : Prop} [Decidable P] [Decidable Q] [Decidable R] (h : er_3 P Q R = 0) : P := by
  refine Classical.byContradiction (fun q => ?_)
  rw [er_3, if_neg q] at h
  exact absurd h (by decide)
theorem mo_zw {M : sk_M} {k er : Nat} {A : Int32} (h : (0 : Int32) < nI er) (he : er < 100) : mo_z M k er A 0 (sk_ms M k 0 (nI er)) :=
  mo_z1 (i := er) rfl (by intro q; subst q; exact absurd h (by decide))
theorem er3_le2 (P Q R : Prop) [Decidable P] [Decidable Q] [Decidable R] : er_3 P Q R < 100 := Nat.lt_of_le_of_lt er3_le (by decide)
set_option maxHeartbeats 4000000 in
set_option maxRecDepth 100000 in
theorem m_X8_ifCalled (l : Launch) {O : sk_O} (hO : sk_inj O) (M : sk_M) (k : Nat) (hk : sk_isM O k) (s e p v : Int32) (m : Nat) (hm4 : m ≤ 4) (hm : M (k + 2) 0 = nI m) (hmj : ∀ s, s < m → mo_wp (M (k + 2)) s) : sk_Mi l yX8_ifCalled (sk_w yX8_ifCalled cX8_ifCalled 5 (some .int)) ({ frames := 10, cells := 0, slots := 0, locals := 245 }) O [.ref (sk_ad O k), .int s, .int e, .int p, .int v] M (mo_z M k (mo_wc (M (k + 2)) s e p v) (mo_zc M k s e p v)) := by
  refine sk_mi (by decide) ⟨rfl, rfl⟩ hO (Nat.le_of_ble_eq_true rfl) (fun X A Q C ret => ?_)
  show sk_W l X O A Q 5 0 0 M 0 [(0, .ref (sk_ad O k)), (1, .int s), (2, .int e), (3, .int p), (4, .int v)] []
  have hw : mo_wf (M (k + 2)) := ⟨m, hm4, hm, hmj⟩
  refine k_aloadn C 0 dX8_ifCalled_0 rfl ?_
  refine k_aloadn C 0 dX8_ifCalled_1 rfl ?_
  refine k_getr C (j := 3) (k' := k + 2) kcl_X8 fl_X8_13 hk.1 (by decide) rfl dX8_ifCalled_2 ?_
  refine k_iloadn C 1 dX8_ifCalled_5 rfl ?_
  refine k_iloadn C 2 dX8_ifCalled_6 rfl ?_
  refine k_iloadn C 3 dX8_ifCalled_7 rfl ?_
  refine k_iload C 4 dX8_ifCalled_8 rfl ?_
  refine k_si C (as := [.ref (sk_ad O (k + 2)), .int s, .int e, .int p, .int v]) yvX8_whyNotCall vsX8_whyNotCall ml_X8_240 (m_X8_whyNotCall l C.2.2.2.1 M (a := k + 2) (ha := hk.2.2.1) (s := s) (e := e) (p := p) (v := v) (hw := hw)) rfl rfl (Nat.le_of_ble_eq_true rfl) (by decide) dX8_ifCalled_10 (fun x10_1 M10_1 h10_1 => ?_)
  rw [h10_1.1, h10_1.2]
  refine k_vi C (as := [.int (nI (mo_wc (M (k + 2)) s e p v))]) yvX8_refused viX8_refused ml_X8_164 (m_X8_refused l C.2.2.2.1 M (k := k) (x := nI (mo_wc (M (k + 2)) s e p v)) (hk := hk)) hk.1 rfl rfl rfl (Nat.le_of_ble_eq_true rfl) (by decide) dX8_ifCalled_13 (fun x13_2 M13_2 h13_2 => ?_)
  rw [h13_2.1, h13_2.2]
  refine k_zeq C 21 dX8_ifCalled_16 (by decide) (fun c16_3 => ?_) (fun c16_3 => ?_)
  ·
    have nc16_3 : ¬ (0 < (nI (mo_wc (M (k + 2)) s e p v))) := sk_b1.mp c16_3
    have he0 : mo_wc (M (k + 2)) s e p v = 0 := mo_e0 nc16_3 (by have := er3_le (P := mo_hp (M (k + 2)) s e p) (Q := ¬ v < 0 ∧ ¬ 3 < v) (R := M (k + 2) (23 + 233 * s.toNatClampNeg + 18 * e.toNatClampNeg) = 0 ∧ (¬ v = 3 ∨ M (k + 2) (25 + 233 * s.toNatClampNeg + 18 * e.toNatClampNeg + 3 * p.toNatClampNeg) = 3 ∨ M (k + 2) (25 + 233 * s.toNatClampNeg + 18 * e.toNatClampNeg + 3 * p.toNatClampNeg) = 4)); exact Nat.lt_of_le_of_lt this (by decide))
    have hcc := x_ck00 he0
    obtain ⟨ix, ib⟩ := sk_ix hcc.1.1 hm (by omega)
    obtain ⟨N, hN12, hN, hNp⟩ := id (hmj _ ib)
    have hcN : mo_c (M (k + 2)) s.toNatClampNeg = N := (by show (M (k + 2) _).toNatClampNeg = N; rw [hN, nI_clamp (by omega)])
    rw [← hcN] at hN12 hN hNp
    obtain ⟨ex, eb⟩ := sk_ix hcc.1.2 hN (by omega)
    obtain ⟨hpe, hpe3⟩ := mo_nn hNp eb
    obtain ⟨px, pb⟩ := sk_ix hcc.2 hpe (by omega)
    refine k_eq (M' := sk_ms M k 0 (0)) (by rw [he0]; rfl) rfl rfl rfl ?_
    refine k_aloadn C 0 dX8_ifCalled_21 rfl ?_
    refine k_getr C (j := 3) (k' := k + 2) kcl_X8 fl_X8_13 hk.1 (by decide) rfl dX8_ifCalled_22 ?_
    refine k_iconst C (0) dX8_ifCalled_25 (by decide) ?_
    refine k_aloadn C 0 dX8_ifCalled_26 rfl ?_
    refine k_getr C (j := 4) (k' := k + 3) kcl_X8 fl_X8_16 hk.1 (by decide) rfl dX8_ifCalled_27 ?_
    refine k_iconst C (0) dX8_ifCalled_30 (by decide) ?_
    refine k_sv C (as := [.ref (sk_ad O (k + 2)), .int (0), .ref (sk_ad O (k + 3)), .int (0)]) yvX8_copyState vsX8_copyState ml_X8_221 (m_X8_copyState l C.2.2.2.1 (sk_ms M k 0 (0)) (a := k + 2) (b := k + 3) (za := 938) (zb := 938) (ha := hk.2.2.1) (hb := hk.2.2.2.1) (p := 0) (xp := (0)) (hxp := (rfl : ((0) : Int32) = nI 0)) (q := 0) (xq := (0)) (hxq := (rfl : ((0) : Int32) = nI 0)) (hza := (by omega)) (hzb := (by omega)) (hz2 := (by omega)) (hz3 := (by omega)) (hab := (by omega))) rfl rfl (Nat.le_of_ble_eq_true rfl) (by decide) dX8_ifCalled_31 (fun M31_4 h31_4 => ?_)
    rw [h31_4]
    refine k_aloadn C 0 dX8_ifCalled_34 rfl ?_
    refine k_getr C (j := 4) (k' := k + 3) kcl_X8 fl_X8_16 hk.1 (by decide) rfl dX8_ifCalled_35 ?_
    refine k_iloadn C 1 dX8_ifCalled_38 rfl ?_
    refine k_iloadn C 2 dX8_ifCalled_39 rfl ?_
    refine k_iloadn C 3 dX8_ifCalled_40 rfl ?_
    refine k_iload C 4 dX8_ifCalled_41 rfl ?_
    refine k_si C (as := [.ref (sk_ad O (k + 3)), .int s, .int e, .int p, .int v]) yvX8_callOn vsX8_callOn ml_X8_244 (m_X8_callOn l C.2.2.2.1 (mc_m (sk_ms M k 0 (0)) (k + 2) (k + 3) 0 0 938) (a := k + 3) (ha := hk.2.2.2.1) (s := s.toNatClampNeg) (xs := s) (hxs := ix) (e := e.toNatClampNeg) (xe := e) (hxe := ex) (p := p.toNatClampNeg) (xp := p) (hxp := px) (v := v) (hs := (by omega)) (he := (by omega)) (hp := (by omega))) rfl rfl (Nat.le_of_ble_eq_true rfl) (by decide) dX8_ifCalled_43 (fun x43_5 M43_5 h43_5 => ?_)
    rw [h43_5.1, h43_5.2]
    refine k_pop C dX8_ifCalled_46 rfl ?_
    refine k_aloadn C 0 dX8_ifCalled_47 rfl ?_
    refine k_aloadn C 0 dX8_ifCalled_48 rfl ?_
    refine k_getr C (j := 4) (k' := k + 3) kcl_X8 fl_X8_16 hk.1 (by decide) rfl dX8_ifCalled_49 ?_
    refine k_iloadn C 1 dX8_ifCalled_52 rfl ?_
    refine k_vi C (as := [.ref (sk_ad O (k + 3)), .int s]) yvX8_reckon viX8_reckon ml_X8_146 (m_X8_reckon l C.2.2.2.1 (sk_ms (mc_m (sk_ms M k 0 (0)) (k + 2) (k + 3) 0 0 938) (k + 3) (25 + 233 * s.toNatClampNeg + 18 * e.toNatClampNeg + 3 * p.toNatClampNeg + 2) v) (k := k) (hk := hk) (a := k + 3) (ha := hk.2.2.2.1) (s := s.toNatClampNeg) (xs := s) (hxs := ix) (N := mo_c (M (k + 2)) s.toNatClampNeg) (hs := (by omega)) (hN12 := hN12) (hN := (by rw [sk_msu, mu_n (by omega), mc_mu, mu_cl (by omega), sk_nf (by omega)]; exact hN)) (hp := (by rw [sk_msu, mc_mu, sk_nf (by omega), sk_nf (by omega)]; exact mo_ppc (fun q hq => by rw [mu_n (by omega), mu_cl (by omega)]) hNp)) (hap := (by omega))) hk.1 rfl rfl rfl (Nat.le_of_ble_eq_true rfl) (by decide) dX8_ifCalled_53 (fun x53_6 M53_6 h53_6 => ?_)
    rw [h53_6.1, h53_6.2]
    exact ret _ _ _ _ dX8_ifCalled_56 rfl (by exact mo_z0 he0 (by rw [mo_zc, mo_T, mo_cu (by omega), mo_cc0 (by omega), sk_msu, mc_mu, sk_nf (by omega), sk_nf (by omega)]) (mo_g.mk (mo_g.w (by omega) (mo_g.c rfl mo_g.r))))
  ·
    have nc16_3 : 0 < (nI (mo_wc (M (k + 2)) s e p v)) := Classical.byContradiction (fun h => c16_3 (sk_b1.mpr h))
    refine k_iconst C (0) dX8_ifCalled_19 (by decide) ?_
    exact ret _ _ _ _ dX8_ifCalled_20 rfl (by exact mo_zw nc16_3 (er3_le2 _ _ _))

set_option maxHeartbeats 4000000 in
set_option maxRecDepth 100000 in
theorem m_X8_bestSwap (l : Launch) {O : sk_O} (hO : sk_inj O) (M : sk_M) (k : Nat) (hk : sk_isM O k) (s w : Int32) (m : Nat) (hm4 : m ≤ 4) (hm : M (k + 2) 0 = nI m) (hmj : ∀ s, s < m → mo_wp (M (k + 2)) s) : sk_Mi l yX8_bestSwap (sk_w yX8_bestSwap cX8_bestSwap 9 (some .int)) ({ frames := 10, cells := 0, slots := 0, locals := 245 }) O [.ref (sk_ad O k), .int s, .int w] M (mo_z M k (er_2 (mo_hs (M (k + 2)) s) (¬ w < 0 ∧ ¬ 2 < w)) (mb_a (mb_o k s.toNatClampNeg (mo_c (M (k + 2)) s.toNatClampNeg) (mb_z M k) (mo_c (M (k + 2)) s.toNatClampNeg)) w)) := by
  refine sk_mi (by decide) ⟨rfl, rfl⟩ hO (Nat.le_of_ble_eq_true rfl) (fun X A Q C ret => ?_)
  show sk_W l X O A Q 9 0 0 M 0 [(0, .ref (sk_ad O k)), (1, .int s), (2, .int w)] []
  have hw : mo_wf (M (k + 2)) := ⟨m, hm4, hm, hmj⟩
  refine k_aloadn C 0 dX8_bestSwap_0 rfl ?_
  refine k_aloadn C 0 dX8_bestSwap_1 rfl ?_
  refine k_getr C (j := 3) (k' := k + 2) kcl_X8 fl_X8_13 hk.1 (by decide) rfl dX8_bestSwap_2 ?_
  refine k_iloadn C 1 dX8_bestSwap_5 rfl ?_
  refine k_si C (as := [.ref (sk_ad O (k + 2)), .int s]) yvX8_isSkater vsX8_isSkater ml_X8_68 (m_X8_isSkater l C.2.2.2.1 M (a := k + 2) (ha := hk.2.2.1) (s := s) (hw := hw)) rfl rfl (Nat.le_of_ble_eq_true rfl) (by decide) dX8_bestSwap_6 (fun x6_1 M6_1 h6_1 => ?_)
  rw [h6_1.1, h6_1.2]
  refine k_zne C 16 dX8_bestSwap_9 (by decide) (fun c9_2 => ?_) (fun c9_2 => ?_)
  ·
    have nc9_2 : mo_hs (M (k + 2)) s := Classical.byContradiction (fun h => c9_2 (sk_b1.mpr h))
    obtain ⟨ix, ib⟩ := sk_ix nc9_2 hm (by omega)
    obtain ⟨N, hN12, hN, hNp⟩ := id (hmj _ ib)
    have hcN : mo_c (M (k + 2)) s.toNatClampNeg = N := (by show (M (k + 2) _).toNatClampNeg = N; rw [hN, nI_clamp (by omega)])
    rw [← hcN] at hN12 hN hNp
    refine k_iloadn C 2 dX8_bestSwap_16 rfl ?_
    refine k_i2l C dX8_bestSwap_17 ?_
    refine k_lconst C (0) dX8_bestSwap_18 (by decide) ?_
    refine k_ldcl C kc_X8_234 dX8_bestSwap_19 ?_
    refine k_si C (as := [.long w.toInt64, .long (0), .long (2)]) yvX8_in vsX8_in ml_X8_64 (m_X8_in l C.2.2.2.1 M (v := w.toInt64) (p := (0)) (q := (2))) rfl rfl (Nat.le_of_ble_eq_true rfl) (by decide) dX8_bestSwap_22 (fun x22_3 M22_3 h22_3 => ?_)
    rw [h22_3.1, h22_3.2]
    refine k_zeq C 32 dX8_bestSwap_25 (by decide) (fun c25_4 => ?_) (fun c25_4 => ?_)
    ·
      have nc25_4 : ¬ (¬ w.toInt64 < (0) ∧ ¬ (2) < w.toInt64) := sk_b1.mp c25_4
      refine k_iconst C (2) dX8_bestSwap_32 (by decide) ?_
      refine k_vi C (as := [.int (2)]) yvX8_refused viX8_refused ml_X8_164 (m_X8_refused l C.2.2.2.1 M (k := k) (x := (2)) (hk := hk)) hk.1 rfl rfl rfl (Nat.le_of_ble_eq_true rfl) (by decide) dX8_bestSwap_33 (fun x33_5 M33_5 h33_5 => ?_)
      rw [h33_5.1, h33_5.2]
      refine k_top (1) (by decide) ?_
      refine k_zeq C 41 dX8_bestSwap_36 (by decide) (fun c36_6 => ?_) (fun c36_6 => ?_)
      ·
        exact absurd c36_6 (by decide)
      ·
        refine k_iconst C (0) dX8_bestSwap_39 (by decide) ?_
        exact ret _ _ _ _ dX8_bestSwap_40 rfl (by exact mo_z1 (i := 2) (er2m nc9_2 (fun h => nc25_4 ((in_k w 0 2 rfl rfl).mpr h))) (by decide))
    ·
      have nc25_4 : ¬ w.toInt64 < (0) ∧ ¬ (2) < w.toInt64 := Classical.byContradiction (fun h => c25_4 (sk_b1.mpr h))
      refine k_iconst C (0) dX8_bestSwap_28 (by decide) ?_
      refine k_goto C 33 dX8_bestSwap_29 (by decide) ?_
      refine k_vi C (as := [.int (0)]) yvX8_refused viX8_refused ml_X8_164 (m_X8_refused l C.2.2.2.1 M (k := k) (x := (0)) (hk := hk)) hk.1 rfl rfl rfl (Nat.le_of_ble_eq_true rfl) (by decide) dX8_bestSwap_33 (fun x33_7 M33_7 h33_7 => ?_)
      rw [h33_7.1, h33_7.2]
      refine k_top (0) (by decide) ?_
      refine k_zeq C 41 dX8_bestSwap_36 (by decide) (fun c36_8 => ?_) (fun c36_8 => ?_)
      ·
        refine k_iconst C (-1) dX8_bestSwap_41 (by decide) ?_
        refine k_istoren C [1, 2, 3, 0] [(0, .ref (sk_ad O k)), (1, .int s), (2, .int w), (3, .int (-1))] dX8_bestSwap_42 (by decide) rfl ?_
        refine k_iconst C (-1) dX8_bestSwap_43 (by decide) ?_
        refine k_istore C [1, 2, 3, 4, 0] [(0, .ref (sk_ad O k)), (1, .int s), (2, .int w), (3, .int (-1)), (4, .int (-1))] dX8_bestSwap_44 (by decide) rfl ?_
        refine k_iconst C (0) dX8_bestSwap_46 (by decide) ?_
        refine k_istore C [1, 2, 3, 4, 5, 0] [(0, .ref (sk_ad O k)), (1, .int s), (2, .int w), (3, .int (-1)), (4, .int (-1)), (5, .int (0))] dX8_bestSwap_47 (by decide) rfl ?_
        refine k_iconst C (0) dX8_bestSwap_49 (by decide) ?_
        refine k_istore C [1, 2, 3, 4, 5, 6, 0] [(0, .ref (sk_ad O k)), (1, .int s), (2, .int w), (3, .int (-1)), (4, .int (-1)), (5, .int (0)), (6, .int (0))] dX8_bestSwap_50 (by decide) rfl ?_
        have L52 : ∀ i, i ≤ mo_c (M (k + 2)) s.toNatClampNeg → sk_W l X O A Q 9 0 0 ((mb_o k s.toNatClampNeg (mo_c (M (k + 2)) s.toNatClampNeg) (mb_z M k) i).1) 52 [(0, .ref (sk_ad O k)), (1, .int s), (2, .int w), (3, .int ((mb_o k s.toNatClampNeg (mo_c (M (k + 2)) s.toNatClampNeg) (mb_z M k) i).2.2.1)), (4, .int ((mb_o k s.toNatClampNeg (mo_c (M (k + 2)) s.toNatClampNeg) (mb_z M k) i).2.2.2)), (5, .int ((mb_o k s.toNatClampNeg (mo_c (M (k + 2)) s.toNatClampNeg) (mb_z M k) i).2.1)), (6, .int (nI i))] [] := by
          refine sk_loop (mo_c (M (k + 2)) s.toNatClampNeg) (fun i hi52 ih52 => ?_)
          refine k_iload C 6 dX8_bestSwap_52 rfl ?_
          refine k_aloadn C 0 dX8_bestSwap_54 rfl ?_
          refine k_getr C (j := 3) (k' := k + 2) kcl_X8 fl_X8_13 hk.1 (by decide) rfl dX8_bestSwap_55 ?_
          refine k_iloadn C 1 dX8_bestSwap_58 rfl ?_
          refine k_si C (as := [.int s]) yvX8_skaterAt vsX8_skaterAt ml_X8_72 (m_X8_skaterAt l C.2.2.2.1 ((mb_o k s.toNatClampNeg (mo_c (M (k + 2)) s.toNatClampNeg) (mb_z M k) i).1) (s := s.toNatClampNeg) (xs := s) (hxs := ix)) rfl rfl (Nat.le_of_ble_eq_true rfl) (by decide) dX8_bestSwap_59 (fun x59_9 M59_9 h59_9 => ?_)
          rw [h59_9.1, h59_9.2]
          refine k_iconst C (0) dX8_bestSwap_62 (by decide) ?_
          refine k_iadd C dX8_bestSwap_63 ?_
          refine k_ialdn C (6 + 233 * s.toNatClampNeg) hk.2.2.1 (sk_nadd (b := 0) rfl (rfl : ((0) : Int32) = nI 0)) (by omega) dX8_bestSwap_64 ?_
          refine k_top (M (k + 2) (6 + 233 * s.toNatClampNeg)) (by rw [mb_oz (by omega) (by omega) (by omega) _, sk_ne (by omega)]) ?_
          refine k_cge C 221 dX8_bestSwap_65 (by decide) (fun c65_10 => ?_) (fun c65_10 => ?_)
          ·
            have nc65_10 : mo_c (M (k + 2)) s.toNatClampNeg ≤ i := (sk_eI (a := mo_c (M (k + 2)) s.toNatClampNeg) (b := i) hN rfl (by omega) (by omega)).mp c65_10
            obtain rfl : mo_c (M (k + 2)) s.toNatClampNeg = i := (by omega)
            refine k_iloadn C 3 dX8_bestSwap_221 rfl ?_
            refine k_iconst C (-1) dX8_bestSwap_222 (by decide) ?_
            refine k_cne C 230 dX8_bestSwap_223 (by decide) (fun c223_11 => ?_) (fun c223_11 => ?_)
            ·
              refine k_iloadn C 2 dX8_bestSwap_230 rfl ?_
              refine k_zne C 239 dX8_bestSwap_231 (by decide) (fun c231_12 => ?_) (fun c231_12 => ?_)
              ·
                refine k_iloadn C 2 dX8_bestSwap_239 rfl ?_
                refine k_iconst C (1) dX8_bestSwap_240 (by decide) ?_
                refine k_cne C 248 dX8_bestSwap_241 (by decide) (fun c241_13 => ?_) (fun c241_13 => ?_)
                ·
                  refine k_iload C 4 dX8_bestSwap_248 rfl ?_
                  exact ret _ _ _ _ dX8_bestSwap_250 rfl (by exact mo_z0 (er2p nc9_2 ((in_k w 0 2 rfl rfl).mp nc25_4)) (by rw [mb_a, if_neg c223_11, if_neg c231_12, if_neg c241_13]) (mo_g.bo (show mo_g k (sk_ms M k 0 (0)) (mb_z M k).1 from mo_g.r) _))
                ·
                  refine k_iloadn C 3 dX8_bestSwap_244 rfl ?_
                  refine k_goto C 250 dX8_bestSwap_245 (by decide) ?_
                  exact ret _ _ _ _ dX8_bestSwap_250 rfl (by exact mo_z0 (er2p nc9_2 ((in_k w 0 2 rfl rfl).mp nc25_4)) (by rw [mb_a, if_neg c223_11, if_neg c231_12, if_pos c241_13]) (mo_g.bo (show mo_g k (sk_ms M k 0 (0)) (mb_z M k).1 from mo_g.r) _))
              ·
                refine k_iload C 5 dX8_bestSwap_234 rfl ?_
                refine k_goto C 250 dX8_bestSwap_236 (by decide) ?_
                exact ret _ _ _ _ dX8_bestSwap_250 rfl (by exact mo_z0 (er2p nc9_2 ((in_k w 0 2 rfl rfl).mp nc25_4)) (by rw [mb_a, if_neg c223_11, if_pos c231_12]) (mo_g.bo (show mo_g k (sk_ms M k 0 (0)) (mb_z M k).1 from mo_g.r) _))
            ·
              refine k_iconst C (-1) dX8_bestSwap_226 (by decide) ?_
              refine k_goto C 250 dX8_bestSwap_227 (by decide) ?_
              exact ret _ _ _ _ dX8_bestSwap_250 rfl (by exact mo_z0 (er2p nc9_2 ((in_k w 0 2 rfl rfl).mp nc25_4)) (by rw [mb_a, if_pos c223_11]) (mo_g.bo (show mo_g k (sk_ms M k 0 (0)) (mb_z M k).1 from mo_g.r) _))
          ·
            have nc65_10 : ¬ (mo_c (M (k + 2)) s.toNatClampNeg ≤ i) := fun h => c65_10 ((sk_eI (a := mo_c (M (k + 2)) s.toNatClampNeg) (b := i) hN rfl (by omega) (by omega)).mpr h)
            refine k_iload C 6 dX8_bestSwap_68 rfl ?_
            refine k_iconst C (1) dX8_bestSwap_70 (by decide) ?_
            refine k_iadd C dX8_bestSwap_71 ?_
            refine k_top (nI (i + 1)) (sk_nadd (b := 1) rfl rfl) ?_
            refine k_istore C [1, 2, 3, 4, 5, 6, 7, 0] [(0, .ref (sk_ad O k)), (1, .int s), (2, .int w), (3, .int ((mb_o k s.toNatClampNeg (mo_c (M (k + 2)) s.toNatClampNeg) (mb_z M k) i).2.2.1)), (4, .int ((mb_o k s.toNatClampNeg (mo_c (M (k + 2)) s.toNatClampNeg) (mb_z M k) i).2.2.2)), (5, .int ((mb_o k s.toNatClampNeg (mo_c (M (k + 2)) s.toNatClampNeg) (mb_z M k) i).2.1)), (6, .int (nI i)), (7, .int (nI (i + 1)))] dX8_bestSwap_72 (by decide) rfl ?_
            have L74 : ∀ d, d ≤ mo_c (M (k + 2)) s.toNatClampNeg - (i + 1) → sk_W l X O A Q 9 0 0 ((mb_j k s.toNatClampNeg (mo_c (M (k + 2)) s.toNatClampNeg) i (mb_o k s.toNatClampNeg (mo_c (M (k + 2)) s.toNatClampNeg) (mb_z M k) i) d).1) 74 [(0, .ref (sk_ad O k)), (1, .int s), (2, .int w), (3, .int ((mb_j k s.toNatClampNeg (mo_c (M (k + 2)) s.toNatClampNeg) i (mb_o k s.toNatClampNeg (mo_c (M (k + 2)) s.toNatClampNeg) (mb_z M k) i) d).2.2.1)), (4, .int ((mb_j k s.toNatClampNeg (mo_c (M (k + 2)) s.toNatClampNeg) i (mb_o k s.toNatClampNeg (mo_c (M (k + 2)) s.toNatClampNeg) (mb_z M k) i) d).2.2.2)), (5, .int ((mb_j k s.toNatClampNeg (mo_c (M (k + 2)) s.toNatClampNeg) i (mb_o k s.toNatClampNeg (mo_c (M (k + 2)) s.toNatClampNeg) (mb_z M k) i) d).2.1)), (6, .int (nI i)), (7, .int (nI (i + 1 + d)))] [] := by
              refine sk_loop (mo_c (M (k + 2)) s.toNatClampNeg - (i + 1)) (fun d hi74 ih74 => ?_)
              refine k_iload C 7 dX8_bestSwap_74 rfl ?_
              refine k_aloadn C 0 dX8_bestSwap_76 rfl ?_
              refine k_getr C (j := 3) (k' := k + 2) kcl_X8 fl_X8_13 hk.1 (by decide) rfl dX8_bestSwap_77 ?_
              refine k_iloadn C 1 dX8_bestSwap_80 rfl ?_
              refine k_si C (as := [.int s]) yvX8_skaterAt vsX8_skaterAt ml_X8_72 (m_X8_skaterAt l C.2.2.2.1 ((mb_j k s.toNatClampNeg (mo_c (M (k + 2)) s.toNatClampNeg) i (mb_o k s.toNatClampNeg (mo_c (M (k + 2)) s.toNatClampNeg) (mb_z M k) i) d).1) (s := s.toNatClampNeg) (xs := s) (hxs := ix)) rfl rfl (Nat.le_of_ble_eq_true rfl) (by decide) dX8_bestSwap_81 (fun x81_14 M81_14 h81_14 => ?_)
              rw [h81_14.1, h81_14.2]
              refine k_iconst C (0) dX8_bestSwap_84 (by decide) ?_
              refine k_iadd C dX8_bestSwap_85 ?_
              refine k_ialdn C (6 + 233 * s.toNatClampNeg) hk.2.2.1 (sk_nadd (b := 0) rfl (rfl : ((0) : Int32) = nI 0)) (by omega) dX8_bestSwap_86 ?_
              refine k_top (M (k + 2) (6 + 233 * s.toNatClampNeg)) (by rw [mb_j_f (by omega) (by omega) (by omega) _, mb_oz (by omega) (by omega) (by omega) _, sk_ne (by omega)]) ?_
              refine k_cge C 215 dX8_bestSwap_87 (by decide) (fun c87_15 => ?_) (fun c87_15 => ?_)
              ·
                have nc87_15 : mo_c (M (k + 2)) s.toNatClampNeg ≤ i + 1 + d := (sk_eI (a := mo_c (M (k + 2)) s.toNatClampNeg) (b := i + 1 + d) hN rfl (by omega) (by omega)).mp c87_15
                obtain rfl : d = mo_c (M (k + 2)) s.toNatClampNeg - (i + 1) := (by omega)
                refine k_iinc C 6 (nI (i + 1)) [1, 2, 3, 4, 5, 6, 0, 7] [(0, .ref (sk_ad O k)), (1, .int s), (2, .int w), (3, .int ((mb_j k s.toNatClampNeg (mo_c (M (k + 2)) s.toNatClampNeg) i (mb_o k s.toNatClampNeg (mo_c (M (k + 2)) s.toNatClampNeg) (mb_z M k) i) (mo_c (M (k + 2)) s.toNatClampNeg - (i + 1))).2.2.1)), (4, .int ((mb_j k s.toNatClampNeg (mo_c (M (k + 2)) s.toNatClampNeg) i (mb_o k s.toNatClampNeg (mo_c (M (k + 2)) s.toNatClampNeg) (mb_z M k) i) (mo_c (M (k + 2)) s.toNatClampNeg - (i + 1))).2.2.2)), (5, .int ((mb_j k s.toNatClampNeg (mo_c (M (k + 2)) s.toNatClampNeg) i (mb_o k s.toNatClampNeg (mo_c (M (k + 2)) s.toNatClampNeg) (mb_z M k) i) (mo_c (M (k + 2)) s.toNatClampNeg - (i + 1))).2.1)), (6, .int (nI (i + 1))), (7, .int (nI (i + 1 + (mo_c (M (k + 2)) s.toNatClampNeg - (i + 1)))))] dX8_bestSwap_215 rfl (nI_add _ _) (by decide) rfl ?_
                refine k_goto C 52 dX8_bestSwap_218 (by decide) ?_
                refine k_sub [0, 1, 2, 3, 4, 5, 6] (lv' := [(0, .ref (sk_ad O k)), (1, .int s), (2, .int w), (3, .int ((mb_j k s.toNatClampNeg (mo_c (M (k + 2)) s.toNatClampNeg) i (mb_o k s.toNatClampNeg (mo_c (M (k + 2)) s.toNatClampNeg) (mb_z M k) i) (mo_c (M (k + 2)) s.toNatClampNeg - (i + 1))).2.2.1)), (4, .int ((mb_j k s.toNatClampNeg (mo_c (M (k + 2)) s.toNatClampNeg) i (mb_o k s.toNatClampNeg (mo_c (M (k + 2)) s.toNatClampNeg) (mb_z M k) i) (mo_c (M (k + 2)) s.toNatClampNeg - (i + 1))).2.2.2)), (5, .int ((mb_j k s.toNatClampNeg (mo_c (M (k + 2)) s.toNatClampNeg) i (mb_o k s.toNatClampNeg (mo_c (M (k + 2)) s.toNatClampNeg) (mb_z M k) i) (mo_c (M (k + 2)) s.toNatClampNeg - (i + 1))).2.1)), (6, .int (nI (i + 1)))]) rfl ?_
                exact ih52 (by omega)
              ·
                have nc87_15 : ¬ (mo_c (M (k + 2)) s.toNatClampNeg ≤ i + 1 + d) := fun h => c87_15 ((sk_eI (a := mo_c (M (k + 2)) s.toNatClampNeg) (b := i + 1 + d) hN rfl (by omega) (by omega)).mpr h)
                refine k_aloadn C 0 dX8_bestSwap_90 rfl ?_
                refine k_getr C (j := 3) (k' := k + 2) kcl_X8 fl_X8_13 hk.1 (by decide) rfl dX8_bestSwap_91 ?_
                refine k_iconst C (0) dX8_bestSwap_94 (by decide) ?_
                refine k_aloadn C 0 dX8_bestSwap_95 rfl ?_
                refine k_getr C (j := 4) (k' := k + 3) kcl_X8 fl_X8_16 hk.1 (by decide) rfl dX8_bestSwap_96 ?_
                refine k_iconst C (0) dX8_bestSwap_99 (by decide) ?_
                refine k_sv C (as := [.ref (sk_ad O (k + 2)), .int (0), .ref (sk_ad O (k + 3)), .int (0)]) yvX8_copyState vsX8_copyState ml_X8_221 (m_X8_copyState l C.2.2.2.1 ((mb_j k s.toNatClampNeg (mo_c (M (k + 2)) s.toNatClampNeg) i (mb_o k s.toNatClampNeg (mo_c (M (k + 2)) s.toNatClampNeg) (mb_z M k) i) d).1) (a := k + 2) (b := k + 3) (za := 938) (zb := 938) (ha := hk.2.2.1) (hb := hk.2.2.2.1) (p := 0) (xp := (0)) (hxp := (rfl : ((0) : Int32) = nI 0)) (q := 0) (xq := (0)) (hxq := (rfl : ((0) : Int32) = nI 0)) (hza := (by omega)) (hzb := (by omega)) (hz2 := (by omega)) (hz3 := (by omega)) (hab := (by omega))) rfl rfl (Nat.le_of_ble_eq_true rfl) (by decide) dX8_bestSwap_100 (fun M100_16 h100_16 => ?_)
                rw [h100_16]
                refine k_iconst C (0) dX8_bestSwap_103 (by decide) ?_
                refine k_istore C [1, 2, 3, 4, 5, 6, 7, 8, 0] [(0, .ref (sk_ad O k)), (1, .int s), (2, .int w), (3, .int ((mb_j k s.toNatClampNeg (mo_c (M (k + 2)) s.toNatClampNeg) i (mb_o k s.toNatClampNeg (mo_c (M (k + 2)) s.toNatClampNeg) (mb_z M k) i) d).2.2.1)), (4, .int ((mb_j k s.toNatClampNeg (mo_c (M (k + 2)) s.toNatClampNeg) i (mb_o k s.toNatClampNeg (mo_c (M (k + 2)) s.toNatClampNeg) (mb_z M k) i) d).2.2.2)), (5, .int ((mb_j k s.toNatClampNeg (mo_c (M (k + 2)) s.toNatClampNeg) i (mb_o k s.toNatClampNeg (mo_c (M (k + 2)) s.toNatClampNeg) (mb_z M k) i) d).2.1)), (6, .int (nI i)), (7, .int (nI (i + 1 + d))), (8, .int (0))] dX8_bestSwap_104 (by decide) rfl ?_
                have L106 : ∀ n, n ≤ 18 → sk_W l X O A Q 9 0 0 (mb_1 (mb_j k s.toNatClampNeg (mo_c (M (k + 2)) s.toNatClampNeg) i (mb_o k s.toNatClampNeg (mo_c (M (k + 2)) s.toNatClampNeg) (mb_z M k) i) d).1 k (23 + 233 * s.toNatClampNeg + 18 * i) (23 + 233 * s.toNatClampNeg + 18 * (i + 1 + d)) n) 106 [(0, .ref (sk_ad O k)), (1, .int s), (2, .int w), (3, .int ((mb_j k s.toNatClampNeg (mo_c (M (k + 2)) s.toNatClampNeg) i (mb_o k s.toNatClampNeg (mo_c (M (k + 2)) s.toNatClampNeg) (mb_z M k) i) d).2.2.1)), (4, .int ((mb_j k s.toNatClampNeg (mo_c (M (k + 2)) s.toNatClampNeg) i (mb_o k s.toNatClampNeg (mo_c (M (k + 2)) s.toNatClampNeg) (mb_z M k) i) d).2.2.2)), (5, .int ((mb_j k s.toNatClampNeg (mo_c (M (k + 2)) s.toNatClampNeg) i (mb_o k s.toNatClampNeg (mo_c (M (k + 2)) s.toNatClampNeg) (mb_z M k) i) d).2.1)), (6, .int (nI i)), (7, .int (nI (i + 1 + d))), (8, .int (nI n))] [] := by
                  refine sk_loop 18 (fun n hi106 ih106 => ?_)
                  refine k_iload C 8 dX8_bestSwap_106 rfl ?_
                  refine k_bipush C (18) dX8_bestSwap_108 (by decide) ?_
                  refine k_cge C 175 dX8_bestSwap_110 (by decide) (fun c110_17 => ?_) (fun c110_17 => ?_)
                  ·
                    have nc110_17 : 18 ≤ n := (sk_eI (a := 18) (b := n) (rfl : ((18) : Int32) = nI 18) rfl (by omega) (by omega)).mp c110_17
                    obtain rfl : n = 18 := (by omega)
                    refine k_aloadn C 0 dX8_bestSwap_175 rfl ?_
                    refine k_aloadn C 0 dX8_bestSwap_176 rfl ?_
                    refine k_getr C (j := 4) (k' := k + 3) kcl_X8 fl_X8_16 hk.1 (by decide) rfl dX8_bestSwap_177 ?_
                    refine k_iloadn C 1 dX8_bestSwap_180 rfl ?_
                    refine k_vi C (as := [.ref (sk_ad O (k + 3)), .int s]) yvX8_reckon viX8_reckon ml_X8_146 (m_X8_reckon l C.2.2.2.1 (mb_1 (mb_j k s.toNatClampNeg (mo_c (M (k + 2)) s.toNatClampNeg) i (mb_o k s.toNatClampNeg (mo_c (M (k + 2)) s.toNatClampNeg) (mb_z M k) i) d).1 k (23 + 233 * s.toNatClampNeg + 18 * i) (23 + 233 * s.toNatClampNeg + 18 * (i + 1 + d)) 18) (k := k) (hk := hk) (a := k + 3) (ha := hk.2.2.2.1) (s := s.toNatClampNeg) (xs := s) (hxs := ix) (N := mo_c (M (k + 2)) s.toNatClampNeg) (hs := (by omega)) (hN12 := hN12) (hN := (mb_wp (i := i) (j := i + 1 + d) (N := (mb_j k s.toNatClampNeg (mo_c (M (k + 2)) s.toNatClampNeg) i (mb_o k s.toNatClampNeg (mo_c (M (k + 2)) s.toNatClampNeg) (mb_z M k) i) d).1) (r := M (k + 2)) (by rw [mb_j_f (by omega) (by omega) (by omega) _, mb_oz (by omega) (by omega) (by omega) _]; exact sk_nf (by omega)) (by omega) hN12 (by omega) (by omega) hN hNp).1) (hp := (mb_wp (i := i) (j := i + 1 + d) (N := (mb_j k s.toNatClampNeg (mo_c (M (k + 2)) s.toNatClampNeg) i (mb_o k s.toNatClampNeg (mo_c (M (k + 2)) s.toNatClampNeg) (mb_z M k) i) d).1) (r := M (k + 2)) (by rw [mb_j_f (by omega) (by omega) (by omega) _, mb_oz (by omega) (by omega) (by omega) _]; exact sk_nf (by omega)) (by omega) hN12 (by omega) (by omega) hN hNp).2) (hap := (by omega))) hk.1 rfl rfl rfl (Nat.le_of_ble_eq_true rfl) (by decide) dX8_bestSwap_181 (fun x181_18 M181_18 h181_18 => ?_)
                    rw [h181_18.1, h181_18.2]
                    refine k_top (mb_v (mb_j k s.toNatClampNeg (mo_c (M (k + 2)) s.toNatClampNeg) i (mb_o k s.toNatClampNeg (mo_c (M (k + 2)) s.toNatClampNeg) (mb_z M k) i) d).1 k s.toNatClampNeg (mo_c (M (k + 2)) s.toNatClampNeg) i (i + 1 + d)) rfl ?_
                    refine k_istore C [1, 2, 3, 4, 5, 6, 7, 8, 0] [(0, .ref (sk_ad O k)), (1, .int s), (2, .int w), (3, .int ((mb_j k s.toNatClampNeg (mo_c (M (k + 2)) s.toNatClampNeg) i (mb_o k s.toNatClampNeg (mo_c (M (k + 2)) s.toNatClampNeg) (mb_z M k) i) d).2.2.1)), (4, .int ((mb_j k s.toNatClampNeg (mo_c (M (k + 2)) s.toNatClampNeg) i (mb_o k s.toNatClampNeg (mo_c (M (k + 2)) s.toNatClampNeg) (mb_z M k) i) d).2.2.2)), (5, .int ((mb_j k s.toNatClampNeg (mo_c (M (k + 2)) s.toNatClampNeg) i (mb_o k s.toNatClampNeg (mo_c (M (k + 2)) s.toNatClampNeg) (mb_z M k) i) d).2.1)), (6, .int (nI i)), (7, .int (nI (i + 1 + d))), (8, .int (mb_v (mb_j k s.toNatClampNeg (mo_c (M (k + 2)) s.toNatClampNeg) i (mb_o k s.toNatClampNeg (mo_c (M (k + 2)) s.toNatClampNeg) (mb_z M k) i) d).1 k s.toNatClampNeg (mo_c (M (k + 2)) s.toNatClampNeg) i (i + 1 + d)))] dX8_bestSwap_184 (by decide) rfl ?_
                    refine k_iloadn C 3 dX8_bestSwap_186 rfl ?_
                    refine k_iconst C (-1) dX8_bestSwap_187 (by decide) ?_
                    have J209 : sk_W l X O A Q 9 0 0 ((mb_s k s.toNatClampNeg (mo_c (M (k + 2)) s.toNatClampNeg) i (i + 1 + d) (mb_j k s.toNatClampNeg (mo_c (M (k + 2)) s.toNatClampNeg) i (mb_o k s.toNatClampNeg (mo_c (M (k + 2)) s.toNatClampNeg) (mb_z M k) i) d)).1) 209 [(0, .ref (sk_ad O k)), (1, .int s), (2, .int w), (3, .int ((mb_s k s.toNatClampNeg (mo_c (M (k + 2)) s.toNatClampNeg) i (i + 1 + d) (mb_j k s.toNatClampNeg (mo_c (M (k + 2)) s.toNatClampNeg) i (mb_o k s.toNatClampNeg (mo_c (M (k + 2)) s.toNatClampNeg) (mb_z M k) i) d)).2.2.1)), (4, .int ((mb_s k s.toNatClampNeg (mo_c (M (k + 2)) s.toNatClampNeg) i (i + 1 + d) (mb_j k s.toNatClampNeg (mo_c (M (k + 2)) s.toNatClampNeg) i (mb_o k s.toNatClampNeg (mo_c (M (k + 2)) s.toNatClampNeg) (mb_z M k) i) d)).2.2.2)), (5, .int ((mb_s k s.toNatClampNeg (mo_c (M (k + 2)) s.toNatClampNeg) i (i + 1 + d) (mb_j k s.toNatClampNeg (mo_c (M (k + 2)) s.toNatClampNeg) i (mb_o k s.toNatClampNeg (mo_c (M (k + 2)) s.toNatClampNeg) (mb_z M k) i) d)).2.1)), (6, .int (nI i)), (7, .int (nI (i + 1 + d)))] [] := by
                      refine k_iinc C 7 (nI (i + 1 + d + 1)) [1, 2, 3, 4, 5, 6, 7, 0] [(0, .ref (sk_ad O k)), (1, .int s), (2, .int w), (3, .int ((mb_s k s.toNatClampNeg (mo_c (M (k + 2)) s.toNatClampNeg) i (i + 1 + d) (mb_j k s.toNatClampNeg (mo_c (M (k + 2)) s.toNatClampNeg) i (mb_o k s.toNatClampNeg (mo_c (M (k + 2)) s.toNatClampNeg) (mb_z M k) i) d)).2.2.1)), (4, .int ((mb_s k s.toNatClampNeg (mo_c (M (k + 2)) s.toNatClampNeg) i (i + 1 + d) (mb_j k s.toNatClampNeg (mo_c (M (k + 2)) s.toNatClampNeg) i (mb_o k s.toNatClampNeg (mo_c (M (k + 2)) s.toNatClampNeg) (mb_z M k) i) d)).2.2.2)), (5, .int ((mb_s k s.toNatClampNeg (mo_c (M (k + 2)) s.toNatClampNeg) i (i + 1 + d) (mb_j k s.toNatClampNeg (mo_c (M (k + 2)) s.toNatClampNeg) i (mb_o k s.toNatClampNeg (mo_c (M (k + 2)) s.toNatClampNeg) (mb_z M k) i) d)).2.1)), (6, .int (nI i)), (7, .int (nI (i + 1 + d + 1)))] dX8_bestSwap_209 rfl (nI_add _ _) (by decide) rfl ?_
                      refine k_goto C 74 dX8_bestSwap_212 (by decide) ?_
                      exact ih74 (by omega)
                    refine k_ceq C 198 dX8_bestSwap_188 (by decide) (fun c188_19 => ?_) (fun c188_19 => ?_)
                    ·
                      refine k_iload C 6 dX8_bestSwap_198 rfl ?_
                      refine k_istoren C [1, 2, 3, 0, 4, 5, 6, 7, 8] [(0, .ref (sk_ad O k)), (1, .int s), (2, .int w), (3, .int (nI i)), (4, .int ((mb_j k s.toNatClampNeg (mo_c (M (k + 2)) s.toNatClampNeg) i (mb_o k s.toNatClampNeg (mo_c (M (k + 2)) s.toNatClampNeg) (mb_z M k) i) d).2.2.2)), (5, .int ((mb_j k s.toNatClampNeg (mo_c (M (k + 2)) s.toNatClampNeg) i (mb_o k s.toNatClampNeg (mo_c (M (k + 2)) s.toNatClampNeg) (mb_z M k) i) d).2.1)), (6, .int (nI i)), (7, .int (nI (i + 1 + d))), (8, .int (mb_v (mb_j k s.toNatClampNeg (mo_c (M (k + 2)) s.toNatClampNeg) i (mb_o k s.toNatClampNeg (mo_c (M (k + 2)) s.toNatClampNeg) (mb_z M k) i) d).1 k s.toNatClampNeg (mo_c (M (k + 2)) s.toNatClampNeg) i (i + 1 + d)))] dX8_bestSwap_200 (by decide) rfl ?_
                      refine k_iload C 7 dX8_bestSwap_201 rfl ?_
                      refine k_istore C [1, 2, 3, 4, 0, 5, 6, 7, 8] [(0, .ref (sk_ad O k)), (1, .int s), (2, .int w), (3, .int (nI i)), (4, .int (nI (i + 1 + d))), (5, .int ((mb_j k s.toNatClampNeg (mo_c (M (k + 2)) s.toNatClampNeg) i (mb_o k s.toNatClampNeg (mo_c (M (k + 2)) s.toNatClampNeg) (mb_z M k) i) d).2.1)), (6, .int (nI i)), (7, .int (nI (i + 1 + d))), (8, .int (mb_v (mb_j k s.toNatClampNeg (mo_c (M (k + 2)) s.toNatClampNeg) i (mb_o k s.toNatClampNeg (mo_c (M (k + 2)) s.toNatClampNeg) (mb_z M k) i) d).1 k s.toNatClampNeg (mo_c (M (k + 2)) s.toNatClampNeg) i (i + 1 + d)))] dX8_bestSwap_203 (by decide) rfl ?_
                      refine k_iload C 8 dX8_bestSwap_205 rfl ?_
                      refine k_istore C [1, 2, 3, 4, 5, 0, 6, 7, 8] [(0, .ref (sk_ad O k)), (1, .int s), (2, .int w), (3, .int (nI i)), (4, .int (nI (i + 1 + d))), (5, .int (mb_v (mb_j k s.toNatClampNeg (mo_c (M (k + 2)) s.toNatClampNeg) i (mb_o k s.toNatClampNeg (mo_c (M (k + 2)) s.toNatClampNeg) (mb_z M k) i) d).1 k s.toNatClampNeg (mo_c (M (k + 2)) s.toNatClampNeg) i (i + 1 + d))), (6, .int (nI i)), (7, .int (nI (i + 1 + d))), (8, .int (mb_v (mb_j k s.toNatClampNeg (mo_c (M (k + 2)) s.toNatClampNeg) i (mb_o k s.toNatClampNeg (mo_c (M (k + 2)) s.toNatClampNeg) (mb_z M k) i) d).1 k s.toNatClampNeg (mo_c (M (k + 2)) s.toNatClampNeg) i (i + 1 + d)))] dX8_bestSwap_207 (by decide) rfl ?_
                      refine k_sub [0, 1, 2, 3, 4, 5, 6, 7] (lv' := [(0, .ref (sk_ad O k)), (1, .int s), (2, .int w), (3, .int (nI i)), (4, .int (nI (i + 1 + d))), (5, .int (mb_v (mb_j k s.toNatClampNeg (mo_c (M (k + 2)) s.toNatClampNeg) i (mb_o k s.toNatClampNeg (mo_c (M (k + 2)) s.toNatClampNeg) (mb_z M k) i) d).1 k s.toNatClampNeg (mo_c (M (k + 2)) s.toNatClampNeg) i (i + 1 + d))), (6, .int (nI i)), (7, .int (nI (i + 1 + d)))]) rfl ?_
                      refine k_eq (by rw [mb_y (Or.inl c188_19)]; rfl) rfl (by rw [mb_y (Or.inl c188_19)]) rfl J209
                    ·
                      refine k_iload C 8 dX8_bestSwap_191 rfl ?_
                      refine k_iload C 5 dX8_bestSwap_193 rfl ?_
                      refine k_cle C 209 dX8_bestSwap_195 (by decide) (fun c195_20 => ?_) (fun c195_20 => ?_)
                      ·
                        refine k_sub [0, 1, 2, 3, 4, 5, 6, 7] (lv' := [(0, .ref (sk_ad O k)), (1, .int s), (2, .int w), (3, .int ((mb_j k s.toNatClampNeg (mo_c (M (k + 2)) s.toNatClampNeg) i (mb_o k s.toNatClampNeg (mo_c (M (k + 2)) s.toNatClampNeg) (mb_z M k) i) d).2.2.1)), (4, .int ((mb_j k s.toNatClampNeg (mo_c (M (k + 2)) s.toNatClampNeg) i (mb_o k s.toNatClampNeg (mo_c (M (k + 2)) s.toNatClampNeg) (mb_z M k) i) d).2.2.2)), (5, .int ((mb_j k s.toNatClampNeg (mo_c (M (k + 2)) s.toNatClampNeg) i (mb_o k s.toNatClampNeg (mo_c (M (k + 2)) s.toNatClampNeg) (mb_z M k) i) d).2.1)), (6, .int (nI i)), (7, .int (nI (i + 1 + d)))]) rfl ?_
                        refine k_eq (by rw [mb_n c188_19 c195_20]; rfl) rfl (by rw [mb_n c188_19 c195_20]) rfl J209
                      ·
                        refine k_iload C 6 dX8_bestSwap_198 rfl ?_
                        refine k_istoren C [1, 2, 3, 0, 4, 5, 6, 7, 8] [(0, .ref (sk_ad O k)), (1, .int s), (2, .int w), (3, .int (nI i)), (4, .int ((mb_j k s.toNatClampNeg (mo_c (M (k + 2)) s.toNatClampNeg) i (mb_o k s.toNatClampNeg (mo_c (M (k + 2)) s.toNatClampNeg) (mb_z M k) i) d).2.2.2)), (5, .int ((mb_j k s.toNatClampNeg (mo_c (M (k + 2)) s.toNatClampNeg) i (mb_o k s.toNatClampNeg (mo_c (M (k + 2)) s.toNatClampNeg) (mb_z M k) i) d).2.1)), (6, .int (nI i)), (7, .int (nI (i + 1 + d))), (8, .int (mb_v (mb_j k s.toNatClampNeg (mo_c (M (k + 2)) s.toNatClampNeg) i (mb_o k s.toNatClampNeg (mo_c (M (k + 2)) s.toNatClampNeg) (mb_z M k) i) d).1 k s.toNatClampNeg (mo_c (M (k + 2)) s.toNatClampNeg) i (i + 1 + d)))] dX8_bestSwap_200 (by decide) rfl ?_
                        refine k_iload C 7 dX8_bestSwap_201 rfl ?_
                        refine k_istore C [1, 2, 3, 4, 0, 5, 6, 7, 8] [(0, .ref (sk_ad O k)), (1, .int s), (2, .int w), (3, .int (nI i)), (4, .int (nI (i + 1 + d))), (5, .int ((mb_j k s.toNatClampNeg (mo_c (M (k + 2)) s.toNatClampNeg) i (mb_o k s.toNatClampNeg (mo_c (M (k + 2)) s.toNatClampNeg) (mb_z M k) i) d).2.1)), (6, .int (nI i)), (7, .int (nI (i + 1 + d))), (8, .int (mb_v (mb_j k s.toNatClampNeg (mo_c (M (k + 2)) s.toNatClampNeg) i (mb_o k s.toNatClampNeg (mo_c (M (k + 2)) s.toNatClampNeg) (mb_z M k) i) d).1 k s.toNatClampNeg (mo_c (M (k + 2)) s.toNatClampNeg) i (i + 1 + d)))] dX8_bestSwap_203 (by decide) rfl ?_
                        refine k_iload C 8 dX8_bestSwap_205 rfl ?_
                        refine k_istore C [1, 2, 3, 4, 5, 0, 6, 7, 8] [(0, .ref (sk_ad O k)), (1, .int s), (2, .int w), (3, .int (nI i)), (4, .int (nI (i + 1 + d))), (5, .int (mb_v (mb_j k s.toNatClampNeg (mo_c (M (k + 2)) s.toNatClampNeg) i (mb_o k s.toNatClampNeg (mo_c (M (k + 2)) s.toNatClampNeg) (mb_z M k) i) d).1 k s.toNatClampNeg (mo_c (M (k + 2)) s.toNatClampNeg) i (i + 1 + d))), (6, .int (nI i)), (7, .int (nI (i + 1 + d))), (8, .int (mb_v (mb_j k s.toNatClampNeg (mo_c (M (k + 2)) s.toNatClampNeg) i (mb_o k s.toNatClampNeg (mo_c (M (k + 2)) s.toNatClampNeg) (mb_z M k) i) d).1 k s.toNatClampNeg (mo_c (M (k + 2)) s.toNatClampNeg) i (i + 1 + d)))] dX8_bestSwap_207 (by decide) rfl ?_
                        refine k_sub [0, 1, 2, 3, 4, 5, 6, 7] (lv' := [(0, .ref (sk_ad O k)), (1, .int s), (2, .int w), (3, .int (nI i)), (4, .int (nI (i + 1 + d))), (5, .int (mb_v (mb_j k s.toNatClampNeg (mo_c (M (k + 2)) s.toNatClampNeg) i (mb_o k s.toNatClampNeg (mo_c (M (k + 2)) s.toNatClampNeg) (mb_z M k) i) d).1 k s.toNatClampNeg (mo_c (M (k + 2)) s.toNatClampNeg) i (i + 1 + d))), (6, .int (nI i)), (7, .int (nI (i + 1 + d)))]) rfl ?_
                        refine k_eq (by rw [mb_y (Or.inr (Int32.not_le.mp c195_20))]; rfl) rfl (by rw [mb_y (Or.inr (Int32.not_le.mp c195_20))]) rfl J209
                  ·
                    have nc110_17 : ¬ (18 ≤ n) := fun h => c110_17 ((sk_eI (a := 18) (b := n) (rfl : ((18) : Int32) = nI 18) rfl (by omega) (by omega)).mpr h)
                    refine k_aloadn C 0 dX8_bestSwap_113 rfl ?_
                    refine k_getr C (j := 4) (k' := k + 3) kcl_X8 fl_X8_16 hk.1 (by decide) rfl dX8_bestSwap_114 ?_
                    refine k_iloadn C 1 dX8_bestSwap_117 rfl ?_
                    refine k_iload C 6 dX8_bestSwap_118 rfl ?_
                    refine k_si C (as := [.int s, .int (nI i)]) yvX8_elementAt vsX8_elementAt ml_X8_60 (m_X8_elementAt l C.2.2.2.1 (mb_1 (mb_j k s.toNatClampNeg (mo_c (M (k + 2)) s.toNatClampNeg) i (mb_o k s.toNatClampNeg (mo_c (M (k + 2)) s.toNatClampNeg) (mb_z M k) i) d).1 k (23 + 233 * s.toNatClampNeg + 18 * i) (23 + 233 * s.toNatClampNeg + 18 * (i + 1 + d)) n) (s := s.toNatClampNeg) (xs := s) (hxs := ix) (e := i) (xe := nI i) (hxe := rfl)) rfl rfl (Nat.le_of_ble_eq_true rfl) (by decide) dX8_bestSwap_120 (fun x120_21 M120_21 h120_21 => ?_)
                    rw [h120_21.1, h120_21.2]
                    refine k_iload C 8 dX8_bestSwap_123 rfl ?_
                    refine k_iadd C dX8_bestSwap_125 ?_
                    refine k_aloadn C 0 dX8_bestSwap_126 rfl ?_
                    refine k_getr C (j := 3) (k' := k + 2) kcl_X8 fl_X8_13 hk.1 (by decide) rfl dX8_bestSwap_127 ?_
                    refine k_iloadn C 1 dX8_bestSwap_130 rfl ?_
                    refine k_iload C 7 dX8_bestSwap_131 rfl ?_
                    refine k_si C (as := [.int s, .int (nI (i + 1 + d))]) yvX8_elementAt vsX8_elementAt ml_X8_60 (m_X8_elementAt l C.2.2.2.1 (mb_1 (mb_j k s.toNatClampNeg (mo_c (M (k + 2)) s.toNatClampNeg) i (mb_o k s.toNatClampNeg (mo_c (M (k + 2)) s.toNatClampNeg) (mb_z M k) i) d).1 k (23 + 233 * s.toNatClampNeg + 18 * i) (23 + 233 * s.toNatClampNeg + 18 * (i + 1 + d)) n) (s := s.toNatClampNeg) (xs := s) (hxs := ix) (e := i + 1 + d) (xe := nI (i + 1 + d)) (hxe := rfl)) rfl rfl (Nat.le_of_ble_eq_true rfl) (by decide) dX8_bestSwap_133 (fun x133_22 M133_22 h133_22 => ?_)
                    rw [h133_22.1, h133_22.2]
                    refine k_iload C 8 dX8_bestSwap_136 rfl ?_
                    refine k_iadd C dX8_bestSwap_138 ?_
                    refine k_ialdn C (23 + 233 * s.toNatClampNeg + 18 * (i + 1 + d) + n) hk.2.2.1 (sk_nadd rfl rfl) (by omega) dX8_bestSwap_139 ?_
                    refine k_top (M (k + 2) (23 + 233 * s.toNatClampNeg + 18 * (i + 1 + d) + n)) (by rw [mb_1_f (by omega) _, mb_j_f (by omega) (by omega) (by omega) _, mb_oz (by omega) (by omega) (by omega) _, sk_ne (by omega)]) ?_
                    refine k_iast C (23 + 233 * s.toNatClampNeg + 18 * i + n) hk.2.2.2.1 (sk_nadd rfl rfl) (by omega) dX8_bestSwap_140 ?_
                    refine k_aloadn C 0 dX8_bestSwap_141 rfl ?_
                    refine k_getr C (j := 4) (k' := k + 3) kcl_X8 fl_X8_16 hk.1 (by decide) rfl dX8_bestSwap_142 ?_
                    refine k_iloadn C 1 dX8_bestSwap_145 rfl ?_
                    refine k_iload C 7 dX8_bestSwap_146 rfl ?_
                    refine k_si C (as := [.int s, .int (nI (i + 1 + d))]) yvX8_elementAt vsX8_elementAt ml_X8_60 (m_X8_elementAt l C.2.2.2.1 (sk_ms (mb_1 (mb_j k s.toNatClampNeg (mo_c (M (k + 2)) s.toNatClampNeg) i (mb_o k s.toNatClampNeg (mo_c (M (k + 2)) s.toNatClampNeg) (mb_z M k) i) d).1 k (23 + 233 * s.toNatClampNeg + 18 * i) (23 + 233 * s.toNatClampNeg + 18 * (i + 1 + d)) n) (k + 3) (23 + 233 * s.toNatClampNeg + 18 * i + n) (M (k + 2) (23 + 233 * s.toNatClampNeg + 18 * (i + 1 + d) + n))) (s := s.toNatClampNeg) (xs := s) (hxs := ix) (e := i + 1 + d) (xe := nI (i + 1 + d)) (hxe := rfl)) rfl rfl (Nat.le_of_ble_eq_true rfl) (by decide) dX8_bestSwap_148 (fun x148_23 M148_23 h148_23 => ?_)
                    rw [h148_23.1, h148_23.2]
                    refine k_iload C 8 dX8_bestSwap_151 rfl ?_
                    refine k_iadd C dX8_bestSwap_153 ?_
                    refine k_aloadn C 0 dX8_bestSwap_154 rfl ?_
                    refine k_getr C (j := 3) (k' := k + 2) kcl_X8 fl_X8_13 hk.1 (by decide) rfl dX8_bestSwap_155 ?_
                    refine k_iloadn C 1 dX8_bestSwap_158 rfl ?_
                    refine k_iload C 6 dX8_bestSwap_159 rfl ?_
                    refine k_si C (as := [.int s, .int (nI i)]) yvX8_elementAt vsX8_elementAt ml_X8_60 (m_X8_elementAt l C.2.2.2.1 (sk_ms (mb_1 (mb_j k s.toNatClampNeg (mo_c (M (k + 2)) s.toNatClampNeg) i (mb_o k s.toNatClampNeg (mo_c (M (k + 2)) s.toNatClampNeg) (mb_z M k) i) d).1 k (23 + 233 * s.toNatClampNeg + 18 * i) (23 + 233 * s.toNatClampNeg + 18 * (i + 1 + d)) n) (k + 3) (23 + 233 * s.toNatClampNeg + 18 * i + n) (M (k + 2) (23 + 233 * s.toNatClampNeg + 18 * (i + 1 + d) + n))) (s := s.toNatClampNeg) (xs := s) (hxs := ix) (e := i) (xe := nI i) (hxe := rfl)) rfl rfl (Nat.le_of_ble_eq_true rfl) (by decide) dX8_bestSwap_161 (fun x161_24 M161_24 h161_24 => ?_)
                    rw [h161_24.1, h161_24.2]
                    refine k_iload C 8 dX8_bestSwap_164 rfl ?_
                    refine k_iadd C dX8_bestSwap_166 ?_
                    refine k_ialdn C (23 + 233 * s.toNatClampNeg + 18 * i + n) hk.2.2.1 (sk_nadd rfl rfl) (by omega) dX8_bestSwap_167 ?_
                    refine k_top (M (k + 2) (23 + 233 * s.toNatClampNeg + 18 * i + n)) (by rw [sk_ne (by omega), mb_1_f (by omega) _, mb_j_f (by omega) (by omega) (by omega) _, mb_oz (by omega) (by omega) (by omega) _, sk_ne (by omega)]) ?_
                    refine k_iast C (23 + 233 * s.toNatClampNeg + 18 * (i + 1 + d) + n) hk.2.2.2.1 (sk_nadd rfl rfl) (by omega) dX8_bestSwap_168 ?_
                    refine k_iinc C 8 (nI (n + 1)) [1, 2, 3, 4, 5, 6, 7, 8, 0] [(0, .ref (sk_ad O k)), (1, .int s), (2, .int w), (3, .int ((mb_j k s.toNatClampNeg (mo_c (M (k + 2)) s.toNatClampNeg) i (mb_o k s.toNatClampNeg (mo_c (M (k + 2)) s.toNatClampNeg) (mb_z M k) i) d).2.2.1)), (4, .int ((mb_j k s.toNatClampNeg (mo_c (M (k + 2)) s.toNatClampNeg) i (mb_o k s.toNatClampNeg (mo_c (M (k + 2)) s.toNatClampNeg) (mb_z M k) i) d).2.2.2)), (5, .int ((mb_j k s.toNatClampNeg (mo_c (M (k + 2)) s.toNatClampNeg) i (mb_o k s.toNatClampNeg (mo_c (M (k + 2)) s.toNatClampNeg) (mb_z M k) i) d).2.1)), (6, .int (nI i)), (7, .int (nI (i + 1 + d))), (8, .int (nI (n + 1)))] dX8_bestSwap_169 rfl (nI_add _ _) (by decide) rfl ?_
                    refine k_goto C 106 dX8_bestSwap_172 (by decide) ?_
                    refine k_eq (mb_1s (by rw [mb_j_f (by omega) (by omega) (by omega) _, mb_oz (by omega) (by omega) (by omega) _]; exact sk_nf (by omega))).symm rfl rfl rfl (ih106 (by omega))
                exact L106 0 (Nat.zero_le _)
            exact L74 0 (Nat.zero_le _)
        exact L52 0 (Nat.zero_le _)
      ·
        exact absurd c36_8 (by decide)
  ·
    have nc9_2 : ¬ (mo_hs (M (k + 2)) s) := sk_b1.mp c9_2
    refine k_iconst C (1) dX8_bestSwap_12 (by decide) ?_
    refine k_goto C 33 dX8_bestSwap_13 (by decide) ?_
    refine k_vi C (as := [.int (1)]) yvX8_refused viX8_refused ml_X8_164 (m_X8_refused l C.2.2.2.1 M (k := k) (x := (1)) (hk := hk)) hk.1 rfl rfl rfl (Nat.le_of_ble_eq_true rfl) (by decide) dX8_bestSwap_33 (fun x33_25 M33_25 h33_25 => ?_)
    rw [h33_25.1, h33_25.2]
    refine k_top (1) (by decide) ?_
    refine k_zeq C 41 dX8_bestSwap_36 (by decide) (fun c36_26 => ?_) (fun c36_26 => ?_)
    ·
      exact absurd c36_26 (by decide)
    ·
      refine k_iconst C (0) dX8_bestSwap_39 (by decide) ?_
      exact ret _ _ _ _ dX8_bestSwap_40 rfl (by exact mo_z1 (i := 1) (er2n nc9_2) (by decide))

theorem mo_g9 {k : Nat} {M N M' : sk_M} (h : mt_f k M N) (g : mo_g k (sk_ms N k 0 0) M') : M' k 0 = 0 ∧ mo_fr k M M' :=
  ⟨by rw [g.1, sk_sm], fun a h1 => by rw [g.2.1 a h1, sk_nf (by omega)]; exact h.1 a (by omega) (by omega), by rw [g.2.2.1, sk_ne (by omega)]; exact h.2 _ (by omega), by rw [g.2.2.2, sk_ne (by omega)]; exact h.2 _ (by omega)⟩
set_option maxHeartbeats 4000000 in
set_option maxRecDepth 100000 in
theorem m_X8_ifReplaced (l : Launch) {O : sk_O} (hO : sk_inj O) (M : sk_M) (k : Nat) (hk : sk_isM O k) (s e : Int32) (n : Nat) (hn : M k 2 = nI n) (hn2 : n ≤ 120) (hr : ∀ i, i < n → ¬ M (k + 1) i < 0 ∧ ¬ 255 < M (k + 1) i) (m : Nat) (hm4 : m ≤ 4) (hm : M (k + 2) 0 = nI m) (hmj : ∀ s, s < m → mo_wp (M (k + 2)) s) : sk_Mi l yX8_ifReplaced (sk_w yX8_ifReplaced cX8_ifReplaced 4 (some .int)) ({ frames := 10, cells := 0, slots := 0, locals := 245 }) O [.ref (sk_ad O k), .int s, .int e] M (mo_rz M k n s e) := by
  refine sk_mi (by decide) ⟨rfl, rfl⟩ hO (Nat.le_of_ble_eq_true rfl) (fun X A Q C ret => ?_)
  show sk_W l X O A Q 4 0 0 M 0 [(0, .ref (sk_ad O k)), (1, .int s), (2, .int e)] []
  have hw : mo_wf (M (k + 2)) := ⟨m, hm4, hm, hmj⟩
  refine k_aloadn C 0 dX8_ifReplaced_0 rfl ?_
  refine k_aloadn C 0 dX8_ifReplaced_1 rfl ?_
  refine k_getr C (j := 3) (k' := k + 2) kcl_X8 fl_X8_13 hk.1 (by decide) rfl dX8_ifReplaced_2 ?_
  refine k_iloadn C 1 dX8_ifReplaced_5 rfl ?_
  refine k_iloadn C 2 dX8_ifReplaced_6 rfl ?_
  refine k_si C (as := [.ref (sk_ad O (k + 2)), .int s, .int e]) yvX8_isElement vsX8_isElement ml_X8_76 (m_X8_isElement l C.2.2.2.1 M (a := k + 2) (ha := hk.2.2.1) (s := s) (e := e) (hw := hw)) rfl rfl (Nat.le_of_ble_eq_true rfl) (by decide) dX8_ifReplaced_7 (fun x7_1 M7_1 h7_1 => ?_)
  rw [h7_1.1, h7_1.2]
  refine k_zne C 17 dX8_ifReplaced_10 (by decide) (fun c10_2 => ?_) (fun c10_2 => ?_)
  ·
    have nc10_2 : mo_he (M (k + 2)) s e := Classical.byContradiction (fun h => c10_2 (sk_b1.mpr h))
    obtain ⟨ix, ib⟩ := sk_ix nc10_2.1 hm (by omega)
    obtain ⟨N, hN12, hN, hNp⟩ := id (hmj _ ib)
    have hcN : mo_c (M (k + 2)) s.toNatClampNeg = N := (by show (M (k + 2) _).toNatClampNeg = N; rw [hN, nI_clamp (by omega)])
    rw [← hcN] at hN12 hN hNp
    obtain ⟨ex, eb⟩ := sk_ix nc10_2.2 hN (by omega)
    obtain ⟨hpe, hpe3⟩ := mo_nn hNp eb
    refine k_aloadn C 0 dX8_ifReplaced_17 rfl ?_
    refine k_vi C (as := []) yvX8_readText viX8_readText ml_X8_196 (m_X8_readText l C.2.2.2.1 M (k := k) (n := n) (S := M (k + 1)) (hk := hk) (hS := rfl) (hn := hn) (hn2 := hn2) (hr := hr)) hk.1 rfl rfl rfl (Nat.le_of_ble_eq_true rfl) (by decide) dX8_ifReplaced_18 (fun x18_3 M18_3 h18_3 => ?_)
    obtain ⟨M9, rfl⟩ : ∃ z, z = M18_3 := ⟨_, rfl⟩
    rcases h18_3 with ⟨x9, q1, rfl, q3⟩ | ⟨L, q1, rfl, q3, q4, q5⟩
    ·
      have hx9 := tt_el q1
      refine k_iconst C (-1) dX8_ifReplaced_21 (by decide) ?_
      refine k_cne C 39 dX8_ifReplaced_22 (by decide) (fun c22_4 => ?_) (fun c22_4 => ?_)
      ·
        refine k_iconst C (2) dX8_ifReplaced_39 (by decide) ?_
        refine k_vi C (as := [.int (2)]) yvX8_refused viX8_refused ml_X8_164 (m_X8_refused l C.2.2.2.1 M9 (k := k) (x := (2)) (hk := hk)) hk.1 rfl rfl rfl (Nat.le_of_ble_eq_true rfl) (by decide) dX8_ifReplaced_40 (fun x40_5 M40_5 h40_5 => ?_)
        rw [h40_5.1, h40_5.2]
        refine k_top (1) (by decide) ?_
        refine k_zeq C 48 dX8_ifReplaced_43 (by decide) (fun c43_6 => ?_) (fun c43_6 => ?_)
        ·
          exact absurd c43_6 (by decide)
        ·
          refine k_iconst C (0) dX8_ifReplaced_46 (by decide) ?_
          exact ret _ _ _ _ dX8_ifReplaced_47 rfl (by exact Or.inr (Or.inl ⟨nc10_2, Or.inl ⟨x9, q1⟩, rfl, mo_g3 (mo_g.x mo_g.r q3) rfl⟩))
      ·
        exact absurd c22_4 (sk_nm1 (by omega)) --done
    ·
      refine k_iconst C (-1) dX8_ifReplaced_21 (by decide) ?_
      refine k_cne C 39 dX8_ifReplaced_22 (by decide) (fun c22_7 => ?_) (fun c22_7 => ?_)
      ·
        exact absurd c22_7 (by decide)
      ·
        refine k_aloadn C 0 dX8_ifReplaced_25 rfl ?_
        refine k_getr C (j := 9) (k' := k + 7) kcl_X8 fl_X8_29 hk.1 (by decide) rfl dX8_ifReplaced_26 ?_
        refine k_iconst C (0) dX8_ifReplaced_29 (by decide) ?_
        refine k_ialdn C 0 hk.2.2.2.2.2.2.2.1 (rfl : ((0) : Int32) = nI 0) (by omega) dX8_ifReplaced_30 ?_
        refine k_iconst C (1) dX8_ifReplaced_31 (by decide) ?_
        refine k_cne C 39 dX8_ifReplaced_32 (by decide) (fun c32_8 => ?_) (fun c32_8 => ?_)
        ·
          have nc32_8 : ¬ (L.length = 1) := fun h => c32_8 ((sk_qI (a := L.length) (b := 1) q5.1 (rfl : ((1) : Int32) = nI 1) (by omega) (by omega)).mpr h)
          refine k_iconst C (2) dX8_ifReplaced_39 (by decide) ?_
          refine k_vi C (as := [.int (2)]) yvX8_refused viX8_refused ml_X8_164 (m_X8_refused l C.2.2.2.1 M9 (k := k) (x := (2)) (hk := hk)) hk.1 rfl rfl rfl (Nat.le_of_ble_eq_true rfl) (by decide) dX8_ifReplaced_40 (fun x40_9 M40_9 h40_9 => ?_)
          rw [h40_9.1, h40_9.2]
          refine k_top (1) (by decide) ?_
          refine k_zeq C 48 dX8_ifReplaced_43 (by decide) (fun c43_10 => ?_) (fun c43_10 => ?_)
          ·
            exact absurd c43_10 (by decide)
          ·
            refine k_iconst C (0) dX8_ifReplaced_46 (by decide) ?_
            exact ret _ _ _ _ dX8_ifReplaced_47 rfl (by exact Or.inr (Or.inl ⟨nc10_2, Or.inr ⟨L, q1, by omega⟩, rfl, mo_g3 (mo_g.x mo_g.r q4) rfl⟩))
        ·
          have nc32_8 : L.length = 1 := (sk_qI (a := L.length) (b := 1) q5.1 (rfl : ((1) : Int32) = nI 1) (by omega) (by omega)).mp c32_8
          have hL1 : L.length = 1 := (by omega)
          have e2 : M9 (k + 2) = M (k + 2) := q4.1 _ (by omega) (by omega)
          refine k_iconst C (0) dX8_ifReplaced_35 (by decide) ?_
          refine k_goto C 40 dX8_ifReplaced_36 (by decide) ?_
          refine k_vi C (as := [.int (0)]) yvX8_refused viX8_refused ml_X8_164 (m_X8_refused l C.2.2.2.1 M9 (k := k) (x := (0)) (hk := hk)) hk.1 rfl rfl rfl (Nat.le_of_ble_eq_true rfl) (by decide) dX8_ifReplaced_40 (fun x40_11 M40_11 h40_11 => ?_)
          rw [h40_11.1, h40_11.2]
          refine k_top (0) (by decide) ?_
          refine k_zeq C 48 dX8_ifReplaced_43 (by decide) (fun c43_12 => ?_) (fun c43_12 => ?_)
          ·
            refine k_aloadn C 0 dX8_ifReplaced_48 rfl ?_
            refine k_getr C (j := 3) (k' := k + 2) kcl_X8 fl_X8_13 hk.1 (by decide) rfl dX8_ifReplaced_49 ?_
            refine k_iconst C (0) dX8_ifReplaced_52 (by decide) ?_
            refine k_aloadn C 0 dX8_ifReplaced_53 rfl ?_
            refine k_getr C (j := 4) (k' := k + 3) kcl_X8 fl_X8_16 hk.1 (by decide) rfl dX8_ifReplaced_54 ?_
            refine k_iconst C (0) dX8_ifReplaced_57 (by decide) ?_
            refine k_sv C (as := [.ref (sk_ad O (k + 2)), .int (0), .ref (sk_ad O (k + 3)), .int (0)]) yvX8_copyState vsX8_copyState ml_X8_221 (m_X8_copyState l C.2.2.2.1 (sk_ms M9 k 0 (0)) (a := k + 2) (b := k + 3) (za := 938) (zb := 938) (ha := hk.2.2.1) (hb := hk.2.2.2.1) (p := 0) (xp := (0)) (hxp := (rfl : ((0) : Int32) = nI 0)) (q := 0) (xq := (0)) (hxq := (rfl : ((0) : Int32) = nI 0)) (hza := (by omega)) (hzb := (by omega)) (hz2 := (by omega)) (hz3 := (by omega)) (hab := (by omega))) rfl rfl (Nat.le_of_ble_eq_true rfl) (by decide) dX8_ifReplaced_58 (fun M58_13 h58_13 => ?_)
            rw [h58_13]
            refine k_iconst C (0) dX8_ifReplaced_61 (by decide) ?_
            refine k_istoren C [1, 2, 3, 0] [(0, .ref (sk_ad O k)), (1, .int s), (2, .int e), (3, .int (0))] dX8_ifReplaced_62 (by decide) rfl ?_
            have L63 : ∀ n9, n9 ≤ 18 → sk_W l X O A Q 4 0 0 (mr_r (sk_ms M9 k 0 (0)) k (23 + 233 * s.toNatClampNeg + 18 * e.toNatClampNeg) n9) 63 [(0, .ref (sk_ad O k)), (1, .int s), (2, .int e), (3, .int (nI n9))] [] := by
              refine sk_loop 18 (fun n9 hi63 ih63 => ?_)
              refine k_iloadn C 3 dX8_ifReplaced_63 rfl ?_
              refine k_bipush C (18) dX8_ifReplaced_64 (by decide) ?_
              refine k_cge C 96 dX8_ifReplaced_66 (by decide) (fun c66_14 => ?_) (fun c66_14 => ?_)
              ·
                have nc66_14 : 18 ≤ n9 := (sk_eI (a := 18) (b := n9) (rfl : ((18) : Int32) = nI 18) rfl (by omega) (by omega)).mp c66_14
                obtain rfl : n9 = 18 := (by omega)
                have hRv : ∀ y, y < 938 → (mr_r (sk_ms M9 k 0 (0)) k (23 + 233 * s.toNatClampNeg + 18 * e.toNatClampNeg) 18) (k + 3) y = if 23 + 233 * s.toNatClampNeg + 18 * e.toNatClampNeg ≤ y ∧ y < 23 + 233 * s.toNatClampNeg + 18 * e.toNatClampNeg + 18 then M9 (k + 7) (17 + (y - (23 + 233 * s.toNatClampNeg + 18 * e.toNatClampNeg))) else M (k + 2) y := fun y hy => by rw [mr_r_v hy, sk_nf (by omega), sk_nf (by omega), e2]
                have hT1 : ∃ p : Nat, p ≤ 3 ∧ M9 (k + 7) 18 = nI p := by
                  obtain ⟨el, z1⟩ : ∃ el, L[0]? = some el := ⟨L[0], by simp [hL1]⟩
                  obtain ⟨z2, z3⟩ := q5.2 0 el z1
                  exact ⟨_, z2.2.2.1, z2.2.1⟩
                refine k_aloadn C 0 dX8_ifReplaced_96 rfl ?_
                refine k_aloadn C 0 dX8_ifReplaced_97 rfl ?_
                refine k_getr C (j := 4) (k' := k + 3) kcl_X8 fl_X8_16 hk.1 (by decide) rfl dX8_ifReplaced_98 ?_
                refine k_iloadn C 1 dX8_ifReplaced_101 rfl ?_
                refine k_vi C (as := [.ref (sk_ad O (k + 3)), .int s]) yvX8_reckon viX8_reckon ml_X8_146 (m_X8_reckon l C.2.2.2.1 (mr_r (sk_ms M9 k 0 (0)) k (23 + 233 * s.toNatClampNeg + 18 * e.toNatClampNeg) 18) (k := k) (hk := hk) (a := k + 3) (ha := hk.2.2.2.1) (s := s.toNatClampNeg) (xs := s) (hxs := ix) (N := mo_c (M (k + 2)) s.toNatClampNeg) (hs := (by omega)) (hN12 := hN12) (hN := (by rw [hRv _ (by omega), if_neg (by omega)]; exact hN)) (hp := (by
  intro q hq
  rw [hRv _ (by omega)]
  by_cases h9 : q = e.toNatClampNeg
  · rw [if_pos (by omega), show 17 + (23 + 233 * s.toNatClampNeg + 18 * q + 1 - (23 + 233 * s.toNatClampNeg + 18 * e.toNatClampNeg)) = 18 from by omega]; exact hT1
  · rw [if_neg (by omega)]; exact hNp q hq)) (hap := (by omega))) hk.1 rfl rfl rfl (Nat.le_of_ble_eq_true rfl) (by decide) dX8_ifReplaced_102 (fun x102_15 M102_15 h102_15 => ?_)
                rw [h102_15.1, h102_15.2]
                exact ret _ _ _ _ dX8_ifReplaced_105 rfl (by exact Or.inr (Or.inr ⟨nc10_2, L, M9 (k + 7), _, q1, hL1, q5, hRv, rfl, mo_g9 q4 (mo_g.mk (mo_g.rr mo_g.r _))⟩))
              ·
                have nc66_14 : ¬ (18 ≤ n9) := fun h => c66_14 ((sk_eI (a := 18) (b := n9) (rfl : ((18) : Int32) = nI 18) rfl (by omega) (by omega)).mpr h)
                refine k_aloadn C 0 dX8_ifReplaced_69 rfl ?_
                refine k_getr C (j := 4) (k' := k + 3) kcl_X8 fl_X8_16 hk.1 (by decide) rfl dX8_ifReplaced_70 ?_
                refine k_iloadn C 1 dX8_ifReplaced_73 rfl ?_
                refine k_iloadn C 2 dX8_ifReplaced_74 rfl ?_
                refine k_si C (as := [.int s, .int e]) yvX8_elementAt vsX8_elementAt ml_X8_60 (m_X8_elementAt l C.2.2.2.1 (mr_r (sk_ms M9 k 0 (0)) k (23 + 233 * s.toNatClampNeg + 18 * e.toNatClampNeg) n9) (s := s.toNatClampNeg) (xs := s) (hxs := ix) (e := e.toNatClampNeg) (xe := e) (hxe := ex)) rfl rfl (Nat.le_of_ble_eq_true rfl) (by decide) dX8_ifReplaced_75 (fun x75_16 M75_16 h75_16 => ?_)
                rw [h75_16.1, h75_16.2]
                refine k_iloadn C 3 dX8_ifReplaced_78 rfl ?_
                refine k_iadd C dX8_ifReplaced_79 ?_
                refine k_aloadn C 0 dX8_ifReplaced_80 rfl ?_
                refine k_getr C (j := 9) (k' := k + 7) kcl_X8 fl_X8_29 hk.1 (by decide) rfl dX8_ifReplaced_81 ?_
                refine k_bipush C (17) dX8_ifReplaced_84 (by decide) ?_
                refine k_iloadn C 3 dX8_ifReplaced_86 rfl ?_
                refine k_iadd C dX8_ifReplaced_87 ?_
                refine k_ialdn C (17 + n9) hk.2.2.2.2.2.2.2.1 (sk_nadd (rfl : ((17) : Int32) = nI 17) rfl) (by omega) dX8_ifReplaced_88 ?_
                refine k_top (M9 (k + 7) (17 + n9)) (by rw [mr_r_f (by omega) _, sk_ne (by omega)]) ?_
                refine k_iast C (23 + 233 * s.toNatClampNeg + 18 * e.toNatClampNeg + n9) hk.2.2.2.1 (sk_nadd rfl rfl) (by omega) dX8_ifReplaced_89 ?_
                refine k_iinc C 3 (nI (n9 + 1)) [1, 2, 3, 0] [(0, .ref (sk_ad O k)), (1, .int s), (2, .int e), (3, .int (nI (n9 + 1)))] dX8_ifReplaced_90 rfl (nI_add _ _) (by decide) rfl ?_
                refine k_goto C 63 dX8_ifReplaced_93 (by decide) ?_
                refine k_eq (mr_rs (sk_nf (by omega))).symm rfl rfl rfl (ih63 (by omega))
            exact L63 0 (Nat.zero_le _)
          ·
            exact absurd c43_12 (by decide)
  ·
    have nc10_2 : ¬ (mo_he (M (k + 2)) s e) := sk_b1.mp c10_2
    refine k_iconst C (1) dX8_ifReplaced_13 (by decide) ?_
    refine k_goto C 40 dX8_ifReplaced_14 (by decide) ?_
    refine k_vi C (as := [.int (1)]) yvX8_refused viX8_refused ml_X8_164 (m_X8_refused l C.2.2.2.1 M (k := k) (x := (1)) (hk := hk)) hk.1 rfl rfl rfl (Nat.le_of_ble_eq_true rfl) (by decide) dX8_ifReplaced_40 (fun x40_17 M40_17 h40_17 => ?_)
    rw [h40_17.1, h40_17.2]
    refine k_top (1) (by decide) ?_
    refine k_zeq C 48 dX8_ifReplaced_43 (by decide) (fun c43_18 => ?_) (fun c43_18 => ?_)
    ·
      exact absurd c43_18 (by decide)
    ·
      refine k_iconst C (0) dX8_ifReplaced_46 (by decide) ?_
      exact ret _ _ _ _ dX8_ifReplaced_47 rfl (by exact Or.inl ⟨nc10_2, rfl, mo_g3 mo_g.r rfl⟩)

