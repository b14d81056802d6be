/-! The two sides: what would be -/
theorem rl_e.mv {M N : sk_M} {g k s e s' e' : Nat} {r r' : Nat → Int32} (R : rl_e M g r s e) (h1 : ∀ x, 1 ≤ x → x ≤ 5 → N (k + x) e' = M (g + x) e) (h6 : ∀ x q, 6 ≤ x → x ≤ 8 → q < 3 → N (k + x) (3 * e' + q) = M (g + x) (3 * e + q)) (hr : ∀ y, y < 18 → r' (23 + 233 * s' + 18 * e' + y) = r (23 + 233 * s + 18 * e + y)) : rl_e N k r' s' e' := by
  obtain ⟨r1, rk, rj, rf, rv, p, hp3, r2, r3, ry, r6⟩ := R
  have hty : mo_ty r' s' e' = mo_ty r s e := hr 0 (by omega)
  have hc : ∀ q, q < 3 → mo_kd r' s' e' q = mo_kd r s e q ∧ mo_tu r' s' e' q = mo_tu r s e q ∧ mo_ca r' s' e' q = mo_ca r s e q := fun q hq => by
    refine ⟨?_, ?_, ?_⟩
    · have := hr (2 + 3 * q) (by omega)
      rw [show 23 + 233 * s' + 18 * e' + (2 + 3 * q) = 25 + 233 * s' + 18 * e' + 3 * q from by omega, show 23 + 233 * s + 18 * e + (2 + 3 * q) = 25 + 233 * s + 18 * e + 3 * q from by omega] at this
      exact this
    · have := hr (2 + 3 * q + 1) (by omega)
      rw [show 23 + 233 * s' + 18 * e' + (2 + 3 * q + 1) = 25 + 233 * s' + 18 * e' + 3 * q + 1 from by omega, show 23 + 233 * s + 18 * e + (2 + 3 * q + 1) = 25 + 233 * s + 18 * e + 3 * q + 1 from by omega] at this
      exact this
    · have := hr (2 + 3 * q + 2) (by omega)
      rw [show 23 + 233 * s' + 18 * e' + (2 + 3 * q + 2) = 25 + 233 * s' + 18 * e' + 3 * q + 2 from by omega, show 23 + 233 * s + 18 * e + (2 + 3 * q + 2) = 25 + 233 * s + 18 * e + 3 * q + 2 from by omega] at this
      exact this
  refine ⟨by rw [h1 1 (by omega) (by omega), hty]; exact r1, ?_, by rw [h1 3 (by omega) (by omega)]; exact rj, by rw [h1 4 (by omega) (by omega), hr 16 (by omega)]; exact rf, by rw [h1 5 (by omega) (by omega), hr 17 (by omega)]; exact rv, p, hp3, by rw [h1 2 (by omega) (by omega)]; exact r2, (hr 1 (by omega)).trans r3, ?_, fun q hq => ?_⟩
  · rw [h1 3 (by omega) (by omega), rk]
    exact (mo_k5_c (fun i hi => by have := hr (11 + i) (by omega); rw [← Nat.add_assoc, ← Nat.add_assoc] at this; exact this)).symm
  · unfold rl_y
    rw [hty]
    rcases ry with ⟨y1, y2⟩ | ⟨y1, y2, y3⟩
    · refine Or.inl ⟨y1, fun z hz => ?_⟩
      rw [(hc z (by omega)).1, (hc z (by omega)).2.1, (hc z (by omega)).2.2]; exact y2 z hz
    · refine Or.inr ⟨y1, y2, fun z hz => ?_⟩
      rw [(hc z (by omega)).2.1]; exact y3 z hz
  · rw [h6 6 q (by omega) (by omega) (by omega), h6 7 q (by omega) (by omega) (by omega), h6 8 q (by omega) (by omega) (by omega), (hc q (by omega)).1, (hc q (by omega)).2.1, (hc q (by omega)).2.2]
    exact r6 q hq
/-- one element taken from elsewhere -/
theorem pg_tl_v {M : sk_M} {k e f i : Nat} (h : k + 10 ≤ f ∨ f + 10 ≤ k) : ∀ n, n ≤ 3 → ∀ x y, 6 ≤ x → x ≤ 8 → pg_tl M k e f i n (k + x) y = if 3 * e ≤ y ∧ y < 3 * e + n then M (f + x) (3 * i + (y - 3 * e)) else M (k + x) y
  | 0, _, x, y, _, _ => by rw [if_neg (by omega)]; rfl
  | n + 1, hn, x, y, h1, h2 => by
    have ih := pg_tl_v (M := M) (e := e) (i := i) h n (by omega)
    have ff : ∀ z, z < 10 → pg_tl M k e f i n (f + z) = M (f + z) := fun z hz => pg_tl_f (by omega) n
    unfold pg_tl
    by_cases q : y = 3 * e + n
    · subst q
      rw [if_pos (by omega), Nat.add_sub_cancel_left]
      rcases (show x = 6 ∨ x = 7 ∨ x = 8 by omega) with rfl | rfl | rfl
      · rw [sk_nm (by omega), sk_nm (by omega), sk_sa, ff 6 (by omega)]
      · rw [sk_nm (by omega), sk_sa, sk_nm (by omega), ff 7 (by omega)]
      · rw [sk_sa, sk_nm (by omega), sk_nm (by omega), ff 8 (by omega)]
    · rw [sk_nm (by omega), sk_nm (by omega), sk_nm (by omega), ih x y h1 h2]
      by_cases w : 3 * e ≤ y ∧ y < 3 * e + n
      · rw [if_pos w, if_pos (by omega)]
      · rw [if_neg w, if_neg (by omega)]
theorem pg_te_v {M : sk_M} {k e f i : Nat} (h : k + 10 ≤ f ∨ f + 10 ≤ k) : (∀ j, pg_te M k e f i k j = M k j) ∧ (∀ j, pg_te M k e f i (k + 9) j = M (k + 9) j) ∧ (∀ x y, 1 ≤ x → x ≤ 5 → pg_te M k e f i (k + x) y = if y = e then M (f + x) i else M (k + x) y) ∧ ∀ x y, 6 ≤ x → x ≤ 8 → pg_te M k e f i (k + x) y = if 3 * e ≤ y ∧ y < 3 * e + 3 then M (f + x) (3 * i + (y - 3 * e)) else M (k + x) y := by
  have t0 : ∀ x y, x = 0 ∨ 6 ≤ x → pg_t0 M k e f i (k + x) y = M (k + x) y := fun x y hx => by
    unfold pg_t0
    rw [sk_nm (by omega), sk_nm (by omega), sk_nm (by omega), sk_nm (by omega), sk_nm (by omega)]
  have f0 : ∀ z, z < 10 → pg_t0 M k e f i (f + z) = M (f + z) := fun z hz => by
    unfold pg_t0
    rw [sk_nmf (by omega), sk_nmf (by omega), sk_nmf (by omega), sk_nmf (by omega), sk_nmf (by omega)]
  refine ⟨fun j => ?_, fun j => ?_, fun x y h1 h2 => ?_, fun x y h1 h2 => ?_⟩
  · unfold pg_te; rw [pg_tl_x (by omega)]; exact t0 0 j (Or.inl rfl)
  · unfold pg_te; rw [pg_tl_x (by omega)]; exact t0 9 j (Or.inr (by omega))
  · unfold pg_te
    rw [pg_tl_x (by omega)]
    unfold pg_t0
    by_cases q : y = e
    · subst q
      rw [if_pos rfl]
      rcases (show x = 1 ∨ x = 2 ∨ x = 3 ∨ x = 4 ∨ x = 5 by omega) with rfl | rfl | rfl | rfl | rfl
      · rw [sk_nm (by omega), sk_nm (by omega), sk_nm (by omega), sk_nm (by omega), sk_sa]
      · rw [sk_nm (by omega), sk_nm (by omega), sk_nm (by omega), sk_sa, sk_nm (by omega)]
      · rw [sk_nm (by omega), sk_nm (by omega), sk_sa, sk_nm (by omega), sk_nm (by omega)]
      · rw [sk_nm (by omega), sk_sa, sk_nm (by omega), sk_nm (by omega), sk_nm (by omega)]
      · rw [sk_sa, sk_nm (by omega), sk_nm (by omega), sk_nm (by omega), sk_nm (by omega)]
    · rw [if_neg q, sk_nm (by omega), sk_nm (by omega), sk_nm (by omega), sk_nm (by omega), sk_nm (by omega)]
  · unfold pg_te
    rw [pg_tl_v h 3 (Nat.le_refl _) x y h1 h2, t0 x y (by omega), f0 x (by omega)]
-- exchanges
/-- the draft is the program -/
def bs_D (M : sk_M) (k g : Nat) (N : sk_M) : Prop := (∀ a, (a < k + 738 ∨ k + 747 ≤ a) → (a < k + 794 ∨ k + 804 ≤ a) → N a = M a) ∧ pg_eq M g N (k + 794)
theorem te2_v {N : sk_M} {k g i j : Nat} (hap : g + 10 ≤ k + 738) (hij : i < j) : (∀ y, pg_te (pg_te N (k + 794) i g j) (k + 794) j g i (k + 794) y = N (k + 794) y) ∧ (∀ y, pg_te (pg_te N (k + 794) i g j) (k + 794) j g i (k + 794 + 9) y = N (k + 794 + 9) y) ∧
    (∀ x y, 1 ≤ x → x ≤ 5 → pg_te (pg_te N (k + 794) i g j) (k + 794) j g i (k + 794 + x) y = if y = j then N (g + x) i else if y = i then N (g + x) j else N (k + 794 + x) y) ∧
    ∀ x y, 6 ≤ x → x ≤ 8 → pg_te (pg_te N (k + 794) i g j) (k + 794) j g i (k + 794 + x) y = if 3 * j ≤ y ∧ y < 3 * j + 3 then N (g + x) (3 * i + (y - 3 * j)) else if 3 * i ≤ y ∧ y < 3 * i + 3 then N (g + x) (3 * j + (y - 3 * i)) else N (k + 794 + x) y := by
  obtain ⟨a1, a2, a3, a4⟩ := pg_te_v (M := N) (k := k + 794) (e := i) (f := g) (i := j) (by omega)
  obtain ⟨b1, b2, b3, b4⟩ := pg_te_v (M := pg_te N (k + 794) i g j) (k := k + 794) (e := j) (f := g) (i := i) (by omega)
  refine ⟨fun y => by rw [b1, a1], fun y => by rw [b2, a2], fun x y h1 h2 => ?_, fun x y h1 h2 => ?_⟩
  · rw [b3 x y h1 h2, a3 x y h1 h2, pg_te_f (by omega)]
  · rw [b4 x y h1 h2, a4 x y h1 h2, pg_te_f (by omega)]
theorem bs_Ds {M N : sk_M} {k g i j : Nat} (hap : g + 10 ≤ k + 738) (hij : i < j) (hj : j < 12) (h : bs_D M k g N) : bs_D M k g (x_sm N k g i j) := by
  obtain ⟨h0, e9, e10, e5, e8, e3⟩ := h
  refine ⟨fun a h1 h2 => by rw [x_sm_f h1 h2]; exact h0 a h1 h2, ?_⟩
  obtain ⟨c1, c2, c3, c4⟩ := te2_v (N := N) (k := k) hap hij
  have hs : ∀ a, (a < k + 738 ∨ k + 747 ≤ a) → x_sw N k g i j a = pg_te (pg_te N (k + 794) i g j) (k + 794) j g i a := fun a ha => sc_ra_f (by omega)
  have hg : ∀ x, x < 10 → x_sw N k g i j (g + x) = M (g + x) := fun x hx => by rw [hs _ (by omega), pg_te_f (by omega), pg_te_f (by omega), h0 _ (by omega) (by omega)]
  obtain ⟨a1, a2, a3, a4⟩ := pg_te_v (M := x_sw N k g i j) (k := k + 794) (e := i) (f := g) (i := i) (by omega)
  obtain ⟨b1, b2, b3, b4⟩ := pg_te_v (M := pg_te (x_sw N k g i j) (k + 794) i g i) (k := k + 794) (e := j) (f := g) (i := j) (by omega)
  refine ⟨?_, ?_, fun x y h1 h2 hy => ?_, fun x y h1 h2 hy => ?_, fun y hy => ?_⟩
  · show pg_te (pg_te (x_sw N k g i j) (k + 794) i g i) (k + 794) j g j (k + 794) 9 = _
    rw [b1, a1, hs _ (by omega), c1]; exact e9
  · show pg_te (pg_te (x_sw N k g i j) (k + 794) i g i) (k + 794) j g j (k + 794) 10 = _
    rw [b1, a1, hs _ (by omega), c1]; exact e10
  · show pg_te (pg_te (x_sw N k g i j) (k + 794) i g i) (k + 794) j g j (k + 794 + x) y = _
    rw [b3 x y h1 h2, a3 x y h1 h2, pg_te_f (by omega), hg x (by omega)]
    by_cases q : y = j
    · rw [if_pos q, q]
    · rw [if_neg q]
      by_cases w : y = i
      · rw [if_pos w, w]
      · rw [if_neg w, hs _ (by omega), c3 x y h1 h2, if_neg q, if_neg w]; exact e5 x y h1 h2 hy
  · show pg_te (pg_te (x_sw N k g i j) (k + 794) i g i) (k + 794) j g j (k + 794 + x) y = _
    rw [b4 x y h1 h2, a4 x y h1 h2, pg_te_f (by omega), hg x (by omega)]
    by_cases q : 3 * j ≤ y ∧ y < 3 * j + 3
    · rw [if_pos q, show 3 * j + (y - 3 * j) = y from by omega]
    · rw [if_neg q]
      by_cases w : 3 * i ≤ y ∧ y < 3 * i + 3
      · rw [if_pos w, show 3 * i + (y - 3 * i) = y from by omega]
      · rw [if_neg w, hs _ (by omega), c4 x y h1 h2, if_neg q, if_neg w]; exact e8 x y h1 h2 hy
  · show pg_te (pg_te (x_sw N k g i j) (k + 794) i g i) (k + 794) j g j (k + 794 + 9) y = _
    rw [b2, a2, hs _ (by omega), c2]; exact e3 y hy
theorem bs_te {M N N' : sk_M} {k g i j km s m : Nat} {r : Nat → Int32} (hap : g + 10 ≤ k + 738) (hg : k + 4 ≤ g) (hij : i < j) (hs4 : s < 4) (hu : ∀ x, x < 5 → M (k + 3) x = r (1 + x)) (P : rl_p M g r s) (hj : j < mo_c r s) (h : bs_D M k g N) (hr : N' (km + 2) = r) : bs_t (x_sm N k g i j) k = mb_v N' km s (mo_c r s) i j := by
  have hc12 := P.n.2.2.1
  obtain ⟨h0, e9, e10, e5, e8, e3⟩ := h
  obtain ⟨c1, c2, c3, c4⟩ := te2_v (N := N) (k := k) hap hij
  have hNg : ∀ x, x < 10 → N (g + x) = M (g + x) := fun x hx => h0 _ (by omega) (by omega)
  have hv : ∀ y, y < 938 → mb_t N' km s i j (km + 3) y = if 23 + 233 * s + 18 * i ≤ y ∧ y < 23 + 233 * s + 18 * i + 18 then r (23 + 233 * s + 18 * j + (y - (23 + 233 * s + 18 * i))) else if 23 + 233 * s + 18 * j ≤ y ∧ y < 23 + 233 * s + 18 * j + 18 then r (23 + 233 * s + 18 * i + (y - (23 + 233 * s + 18 * j))) else r y := fun y hy => by
    unfold mb_t
    rw [mb_1_v (by omega) hy 18 (by omega), hr]
  have hP : rl_p (pg_te (pg_te N (k + 794) i g j) (k + 794) j g i) (k + 794) (mb_t N' km s i j (km + 3)) s := by
    obtain ⟨n, hn, h9, hr9, h10, hc, hR⟩ := id P
    have e2 : mo_c r s = n := by show (r _).toNatClampNeg = n; rw [hr9, nI_clamp (by omega)]
    refine ⟨n, hn, by rw [c1, e9]; exact h9, by rw [hv _ (by omega), if_neg (by omega), if_neg (by omega)]; exact hr9, by rw [c1, e10, hv _ (by omega), if_neg (by omega), if_neg (by omega)]; exact h10, fun x hx => ?_, fun e he => ?_⟩
    · rw [c2, e3 x hx, mo_oc_c (r := r) (fun z hz => by rw [hv _ (by omega), if_neg (by omega), if_neg (by omega)])]
      exact hc x hx
    · by_cases q : e = j
      · subst q
        refine (hR i (by omega)).mv (fun x a b => ?_) (fun x y a b hy => ?_) (fun y hy => ?_)
        · rw [c3 x _ a b, if_pos rfl, hNg x (by omega)]
        · rw [c4 x _ a b, if_pos (by omega), hNg x (by omega), Nat.add_sub_cancel_left]
        · rw [hv _ (by omega), if_neg (by omega), if_pos (by omega), Nat.add_sub_cancel_left]
      · by_cases w : e = i
        · subst w
          refine (hR j (by omega)).mv (fun x a b => ?_) (fun x y a b hy => ?_) (fun y hy => ?_)
          · rw [c3 x _ a b, if_neg q, if_pos rfl, hNg x (by omega)]
          · rw [c4 x _ a b, if_neg (by omega), if_pos (by omega), hNg x (by omega), Nat.add_sub_cancel_left]
          · rw [hv _ (by omega), if_pos (by omega), Nat.add_sub_cancel_left]
        · refine (hR e he).mv (fun x a b => ?_) (fun x y a b hy => ?_) (fun y hy => ?_)
          · rw [c3 x _ a b, if_neg q, if_neg w]; exact e5 x e a b (by omega)
          · rw [c4 x _ a b, if_neg (by omega), if_neg (by omega)]; exact e8 x _ a b (by omega)
          · rw [hv _ (by omega), if_neg (by omega), if_neg (by omega)]
  have W := rl_ra (M := pg_te (pg_te N (k + 794) i g j) (k + 794) j g i) (c := k + 738) (g := k + 794) (u := k + 3) (by omega) (by omega) (fun x hx => by rw [pg_te_f (by omega), pg_te_f (by omega), h0 _ (by omega) (by omega), hv _ (by omega), if_neg (by omega), if_neg (by omega)]; exact hu x hx) hP
  have ec : mo_c (mb_t N' km s i j (km + 3)) s = mo_c r s := by show (mb_t N' km s i j (km + 3) _).toNatClampNeg = _; rw [hv _ (by omega), if_neg (by omega), if_neg (by omega)]
  have ex : ∀ y, x_sm N k g i j (k + 738) y = x_sw N k g i j (k + 738) y := fun y => by unfold x_sm; rw [pg_te_f (by omega), pg_te_f (by omega)]
  unfold bs_t mb_v
  rw [ex, ex, ex, ← ec]
  exact W.2.2.2.2.1
theorem bs_st {k g i j km s c : Nat} {z z' : bs_S} (ht : bs_t (x_sm z.1 k g i j) k = mb_v z'.1 km s c i j) (h : z.2 = z'.2) : (bs_s k g i j z).2 = (mb_s km s c i j z').2 := by
  unfold bs_s mb_s
  rw [ht, h]
  split <;> rfl
theorem bs_s1 {k g i j : Nat} {z : bs_S} : (bs_s k g i j z).1 = x_sm z.1 k g i j := by unfold bs_s; split <;> rfl
theorem bs_je {M : sk_M} {k g i km s : Nat} {r : Nat → Int32} {z z' : bs_S} (hap : g + 10 ≤ k + 738) (hg : k + 4 ≤ g) (hs4 : s < 4) (hu : ∀ x, x < 5 → M (k + 3) x = r (1 + x)) (P : rl_p M g r s) (hi : i < mo_c r s) (hz : bs_D M k g z.1) (hz' : z'.1 (km + 2) = r) (h : z.2 = z'.2) : ∀ d, d ≤ mo_c r s - (i + 1) → bs_D M k g (bs_j k g i z d).1 ∧ (mb_j km s (mo_c r s) i z' d).1 (km + 2) = r ∧ (bs_j k g i z d).2 = (mb_j km s (mo_c r s) i z' d).2
  | 0, _ => ⟨hz, hz', h⟩
  | d + 1, hd => by
    have hc12 := P.n.2.2.1
    obtain ⟨i1, i2, i3⟩ := bs_je hap hg hs4 hu P hi hz hz' h d (by omega)
    refine ⟨?_, ?_, ?_⟩
    · show bs_D M k g (bs_s k g i (i + 1 + d) (bs_j k g i z d)).1
      rw [bs_s1]; exact bs_Ds hap (by omega) (by omega) i1
    · show (mb_s km s (mo_c r s) i (i + 1 + d) (mb_j km s (mo_c r s) i z' d)).1 (km + 2) = r
      rw [mb_s1, mb_m_f (by omega) (by omega) (by omega)]; exact i2
    · exact bs_st (bs_te hap hg (by omega) hs4 hu P (by omega) i1 i2 (m := 0)) i3
theorem bs_oe {M : sk_M} {k g km s : Nat} {r : Nat → Int32} {z z' : bs_S} (hap : g + 10 ≤ k + 738) (hg : k + 4 ≤ g) (hs4 : s < 4) (hu : ∀ x, x < 5 → M (k + 3) x = r (1 + x)) (P : rl_p M g r s) (hz : bs_D M k g z.1) (hz' : z'.1 (km + 2) = r) (h : z.2 = z'.2) : ∀ i, i ≤ mo_c r s → bs_D M k g (bs_o k g (mo_c r s) z i).1 ∧ (mb_o km s (mo_c r s) z' i).1 (km + 2) = r ∧ (bs_o k g (mo_c r s) z i).2 = (mb_o km s (mo_c r s) z' i).2
  | 0, _ => ⟨hz, hz', h⟩
  | i + 1, hi => by
    obtain ⟨i1, i2, i3⟩ := bs_oe hap hg hs4 hu P hz hz' h i (by omega)
    exact bs_je hap hg hs4 hu P (by omega) i1 i2 i3 _ (Nat.le_refl _)
set_option maxRecDepth 100000 in
theorem q_bs {M M' : sk_M} {k km m : Nat} {s w : Int32} {r : Nat → Int32} (R : rl_s M (k + 1) r m) (h : mo_hs r s) (hr : M' (km + 2) = r) : bs_a (bs_o k (st_pg (k + 1) s) (pg_n M (st_pg (k + 1) s)) (bs_z M k (st_pg (k + 1) s)) (pg_n M (st_pg (k + 1) s))) w = mb_a (mb_o km s.toNatClampNeg (mo_c (M' (km + 2)) s.toNatClampNeg) (mb_z M' km) (mo_c (M' (km + 2)) s.toNatClampNeg)) w := by
  have h4 := R.1
  have hx := (R.hx h).2
  have P := R.P h
  have hap : st_pg (k + 1) s + 10 ≤ k + 738 := by unfold st_pg; omega
  rw [hr, P.n.1]
  have hD : bs_D M k (st_pg (k + 1) s) (bs_z M k (st_pg (k + 1) s)).1 := ⟨fun a h1 h2 => pg_cf_f (by omega), pg_cf_v (by omega)⟩
  have hr2 : (mb_z M' km).1 (km + 2) = r := by show sk_ms M' km 0 0 (km + 2) = r; rw [sk_nf (by omega), hr]
  have he : (bs_z M k (st_pg (k + 1) s)).2 = (mb_z M' km).2 := rfl
  have hg4 : k + 4 ≤ st_pg (k + 1) s := by unfold st_pg; omega
  have H := bs_oe hap hg4 (show s.toNatClampNeg < 4 by omega) R.2.2.2.1 P hD hr2 he (mo_c r s.toNatClampNeg) (Nat.le_refl _)
  unfold bs_a mb_a
  rw [H.2.2]
