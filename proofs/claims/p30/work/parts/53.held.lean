/-! The two sides: what is held -/
theorem rl_s.up {M N : sk_M} {f m s : Nat} {r r' : Nat → Int32} (R : rl_s M f r m) (hs : s < m) (P : rl_p N (f + 3 + 10 * s) r' s) (hM : ∀ a, (a < f + 3 + 10 * s ∨ f + 3 + 10 * s + 10 ≤ a) → N a = M a) (hr : ∀ y, (y < 6 + 233 * s ∨ 239 + 233 * s ≤ y) → r' y = r y) : rl_s N f r' m := by
  obtain ⟨h4, h2, h0, hu, hp⟩ := R
  refine ⟨h4, by rw [hM _ (by omega)]; exact h2, by rw [hr _ (by omega)]; exact h0, fun j hj => by rw [hM _ (by omega), hr _ (by omega)]; exact hu j hj, fun z hz => ?_⟩
  by_cases q : z = s
  · subst q; exact P
  · exact ((hp z hz).c (fun x hx => hM _ (by rcases Nat.lt_or_ge z s with w | w <;> omega))).r (fun y a b => hr y (by rcases Nat.lt_or_ge z s with w | w <;> omega))
theorem rl_s.pm {M : sk_M} {f m d j : Nat} {s v : Int32} {r r' : Nat → Int32} (R : rl_s M f r m) (h : mo_hs r s) (hd : d < 10) (P : rl_p (sk_ms M (st_pg f s + d) j v) (st_pg f s) r' s.toNatClampNeg) (hr : ∀ y, (y < 6 + 233 * s.toNatClampNeg ∨ 239 + 233 * s.toNatClampNeg ≤ y) → r' y = r y) : rl_s (sk_ms M (st_pg f s + d) j v) f r' m :=
  R.up (R.hx h).2 P (fun a ha => sk_nf (by unfold st_pg; omega)) hr
def rl_H (M : sk_M) (k o c : Nat) (d : Nat → Int32) : Prop := o < 14 ∧ M (k + 44) 1 = nI o ∧ M (k + 44) 2 = nI c ∧ c ≤ 14 ∧ ∀ i, i < c → ∃ m, rl_s M (hs_at (k + 44) ((o + i) % 14)) (fun y => d (938 * i + y)) m
theorem rl_H.f {M N : sk_M} {k o c : Nat} {d : Nat → Int32} (h : ∀ a, k + 44 ≤ a → a < k + 648 → N a = M a) (H : rl_H M k o c d) : rl_H N k o c d := by
  obtain ⟨ho14, ho, hc, hc14, hr⟩ := H
  refine ⟨ho14, by rw [h _ (by omega) (by omega)]; exact ho, by rw [h _ (by omega) (by omega)]; exact hc, hc14, fun i hi => ?_⟩
  obtain ⟨m, R⟩ := hr i hi
  have h14 : (o + i) % 14 < 14 := Nat.mod_lt _ (by decide)
  exact ⟨m, R.c (fun a a1 a2 => h a (by unfold hs_at at a1; omega) (by unfold hs_at at a2; omega))⟩
theorem mr_cc (c : Nat) : hs_c c = mr_c c := rfl
theorem rl_H.re {M : sk_M} {k o c m : Nat} {r d : Nat → Int32} (R : rl_s M (k + 1) r m) (H : rl_H M k o c d) : rl_H (x_re M k o c) k (hs_o o c) (mr_c c + 1) (mr_d r d c) := by
  obtain ⟨ho14, ho, hc, hc14, hr⟩ := H
  have hoo : hs_o o c < 14 := by unfold hs_o; split <;> omega
  have hcc : mr_c c < 14 := by unfold mr_c; split <;> omega
  have he : (hs_o o c + hs_c c) % 14 < 14 := Nat.mod_lt _ (by decide)
  have R0 : rl_s (hs_m0 M (k + 44) o c) (k + 1) r m := R.c (fun a a1 a2 => hs_m0_f (by omega))
  have fr : ∀ a, (a < hs_at (k + 44) ((hs_o o c + hs_c c) % 14) ∨ hs_at (k + 44) ((hs_o o c + hs_c c) % 14) + 43 ≤ a) → a ≠ k + 44 → x_re M k o c a = M a := fun a h1 h2 => by
    show sk_ms _ _ _ _ a = _
    rw [sk_nf h2, st_cf_f R0.wf h1, hs_m0_f h2]
  refine ⟨hoo, ?_, sk_sm, by omega, fun i hi => ?_⟩
  · show sk_ms _ _ _ _ (k + 44) 1 = _
    rw [sk_ne (by omega), st_cf_f R0.wf (by unfold hs_at; omega)]
    exact hs_m0_1 ho
  · by_cases q : i = mr_c c
    · subst q
      refine ⟨m, ?_⟩
      have R1 := R0.f (k := hs_at (k + 44) ((hs_o o c + hs_c c) % 14)) (by unfold hs_at; omega)
      refine (R1.c (N := x_re M k o c) (fun a a1 a2 => sk_nf (by unfold hs_at at a1; omega))).r (fun y hy => ?_)
      show mr_d r d c (938 * mr_c c + y) = r y
      unfold mr_d
      rw [if_pos (by omega), Nat.add_sub_cancel_left]
    · have hne : (hs_o o c + i) % 14 ≠ (hs_o o c + hs_c c) % 14 := by
        rw [mr_cc]
        omega
      have hl : (hs_o o c + i) % 14 < 14 := Nat.mod_lt _ (by decide)
      have old : ∃ m, rl_s M (hs_at (k + 44) ((hs_o o c + i) % 14)) (fun y => mr_d r d c (938 * i + y)) m := by
        by_cases h14 : c = 14
        · have e13 : mr_c c = 13 := by unfold mr_c; rw [if_pos h14]
          obtain ⟨m', R'⟩ := hr (i + 1) (by omega)
          have eo : (hs_o o c + i) % 14 = (o + (i + 1)) % 14 := by unfold hs_o; rw [if_pos h14]; omega
          rw [eo]
          refine ⟨m', R'.r (fun y hy => ?_)⟩
          show mr_d r d c (938 * i + y) = d (938 * (i + 1) + y)
          unfold mr_d
          rw [e13, if_neg (by omega), if_pos ⟨h14, by omega⟩]
          congr 1
          omega
        · have e13 : mr_c c = c := by unfold mr_c; rw [if_neg h14]
          obtain ⟨m', R'⟩ := hr i (by omega)
          have eo : hs_o o c = o := by unfold hs_o; rw [if_neg h14]
          rw [eo]
          refine ⟨m', R'.r (fun y hy => ?_)⟩
          show mr_d r d c (938 * i + y) = d (938 * i + y)
          unfold mr_d
          rw [e13, if_neg (by omega), if_neg (fun z => h14 z.1)]
      obtain ⟨m', R'⟩ := old
      exact ⟨m', R'.c (fun a a1 a2 => fr a (by unfold hs_at at *; rcases Nat.lt_or_gt_of_ne hne with w | w <;> omega) (by unfold hs_at at a1; omega))⟩
theorem rl_H.tb {M : sk_M} {k o c : Nat} {d : Nat → Int32} (H : rl_H M k o c d) (h : 0 < c) : rl_H (hs_tb M (k + 44) (k + 1) o c) k o (c - 1) d ∧ (∃ m, rl_s (hs_tb M (k + 44) (k + 1) o c) (k + 1) (fun y => d (938 * (c - 1) + y)) m) ∧ ∀ a, (a < k + 1 ∨ k + 44 ≤ a) → a ≠ k + 44 → hs_tb M (k + 44) (k + 1) o c a = M a := by
  obtain ⟨ho14, ho, hc, hc14, hr⟩ := H
  obtain ⟨m, R⟩ := hr (c - 1) (by omega)
  have hl : (o + (c - 1)) % 14 < 14 := Nat.mod_lt _ (by decide)
  have R0 : rl_s (sk_ms M (k + 44) 2 (nI (c - 1))) (hs_at (k + 44) ((o + (c - 1)) % 14)) (fun y => d (938 * (c - 1) + y)) m := R.c (fun a a1 a2 => sk_nf (by unfold hs_at at a1; omega))
  have fr : ∀ a, (a < k + 1 ∨ k + 44 ≤ a) → hs_tb M (k + 44) (k + 1) o c a = sk_ms M (k + 44) 2 (nI (c - 1)) a := fun a h1 => st_cf_f R0.wf (by omega)
  refine ⟨⟨ho14, by rw [fr _ (by omega), sk_ne (by omega)]; exact ho, by rw [fr _ (by omega), sk_sm], by omega, fun i hi => ?_⟩, ⟨m, R0.f (by unfold hs_at; omega)⟩, fun a h1 h2 => by rw [fr _ h1, sk_nf h2]⟩
  obtain ⟨m', R'⟩ := hr i (by omega)
  exact ⟨m', R'.c (fun a a1 a2 => by rw [fr a (by unfold hs_at at a1; omega), sk_nf (by unfold hs_at at a1; omega)])⟩
/-- the class's one state of affairs, and the model's -/
def rl_T : Type := (Nat → Int32) × (Nat → Int32) × (Nat → Int32) × (Nat → Int32) × (Nat → Int32) × Nat × Nat × Nat
def rl_T.r (S : rl_T) : Nat → Int32 := S.1
def rl_T.d (S : rl_T) : Nat → Int32 := S.2.1
def rl_T.q (S : rl_T) : Nat → Int32 := S.2.2.1
def rl_T.v (S : rl_T) : Nat → Int32 := S.2.2.2.1
def rl_T.t (S : rl_T) : Nat → Int32 := S.2.2.2.2.1
def rl_T.m (S : rl_T) : Nat := S.2.2.2.2.2.1
def rl_T.c (S : rl_T) : Nat := S.2.2.2.2.2.2.1
def rl_T.n (S : rl_T) : Nat := S.2.2.2.2.2.2.2
def rl_mk (r d q v t : Nat → Int32) (m c n : Nat) : rl_T := (r, d, q, v, t, m, c, n)
def rl_V (M : sk_M) (k : Nat) (q v : Nat → Int32) : Prop := ∀ j, j < 2 → M (k + 735) j = v j ∧ (v j = 0 ∨ ∃ m, rl_s M (k + 649 + 43 * j) (fun y => q (938 * j + y)) m)
def rl_X (M : sk_M) (k : Nat) (t : Nat → Int32) (n : Nat) : Prop := n ≤ 120 ∧ M (k + 736) 1 = nI n ∧ ∀ i, i < n → M (k + 737) i = t i ∧ ¬ t i < 0 ∧ ¬ 255 < t i
def rl_C (M : sk_M) (k : Nat) (S : rl_T) : Prop := rl_s M (k + 1) S.r S.m ∧ (∃ o, rl_H M k o S.c S.d) ∧ rl_V M k S.q S.v ∧ rl_X M k S.t S.n
def rl_D (M : sk_M) (w : Nat) (S : rl_T) : Prop := M (w + 2) = S.r ∧ M w 6 = nI S.c ∧ M (w + 4) = S.d ∧ M (w + 5) = S.q ∧ M (w + 6) = S.v ∧ M w 2 = nI S.n ∧ M (w + 1) = S.t
theorem rl_V.f {M N : sk_M} {k : Nat} {q v : Nat → Int32} (h : ∀ a, k + 649 ≤ a → a < k + 736 → N a = M a) (V : rl_V M k q v) : rl_V N k q v := fun j hj => by
  obtain ⟨h1, h2⟩ := V j hj
  refine ⟨by rw [h _ (by omega) (by omega)]; exact h1, h2.imp_right (fun ⟨m, R⟩ => ⟨m, R.c (fun a a1 a2 => h a (by omega) (by omega))⟩)⟩
theorem rl_X.f {M N : sk_M} {k n : Nat} {t : Nat → Int32} (h1 : N (k + 736) 1 = M (k + 736) 1) (h2 : N (k + 737) = M (k + 737)) (X : rl_X M k t n) : rl_X N k t n := ⟨X.1, by rw [h1]; exact X.2.1, fun i hi => by rw [h2]; exact X.2.2 i hi⟩
/-- nothing held was touched -/
def rl_fr (k : Nat) (M N : sk_M) : Prop := (∀ a, k + 1 ≤ a → a < k + 736 → N a = M a) ∧ N (k + 736) 1 = M (k + 736) 1 ∧ N (k + 737) = M (k + 737)
theorem rl_C.f {M N : sk_M} {k : Nat} {S : rl_T} (h : rl_fr k M N) (C : rl_C M k S) : rl_C N k S :=
  ⟨C.1.c (fun a a1 a2 => h.1 a a1 (by omega)), C.2.1.imp (fun _ H => H.f (fun a a1 a2 => h.1 a (by omega) (by omega))), C.2.2.1.f (fun a a1 a2 => h.1 a (by omega) (by omega)), C.2.2.2.f h.2.1 h.2.2⟩
/-- an action: what was is remembered, and now another row stands -/
def rl_T.ac (S : rl_T) (R : Nat → Int32) (m : Nat) : rl_T := rl_mk R (mr_d S.r S.d S.c) S.q S.v S.t m (mr_c S.c + 1) S.n
theorem rl_C.re {M : sk_M} {k o : Nat} {S : rl_T} (C : rl_C M k S) (H : rl_H M k o S.c S.d) : rl_s (x_re M k o S.c) (k + 1) S.r S.m ∧ ∀ a, (a < k + 44 ∨ k + 648 ≤ a) → x_re M k o S.c a = M a := by
  have fr : ∀ a, (a < k + 44 ∨ k + 648 ≤ a) → x_re M k o S.c a = M a := fun a h => hs_re_f H.1 H.2.2.2.1 C.1.wf (by omega) (by omega)
  exact ⟨C.1.c (fun a a1 a2 => fr a (by omega)), fr⟩
theorem rl_C.ac {M N : sk_M} {k o m : Nat} {S : rl_T} {R : Nat → Int32} (C : rl_C M k S) (H : rl_H M k o S.c S.d) (h : rl_s N (k + 1) R m) (hf : ∀ a, k + 44 ≤ a → a < k + 738 → N a = x_re M k o S.c a) : rl_C N k (S.ac R m) := by
  obtain ⟨-, fr⟩ := C.re H
  refine ⟨h, ⟨_, (H.re C.1).f (fun a a1 a2 => hf a a1 (by omega))⟩, C.2.2.1.f (fun a a1 a2 => by rw [hf a (by omega) (by omega), fr a (by omega)]), C.2.2.2.f (by rw [hf _ (by omega) (by omega), fr _ (by omega)]) (by rw [hf _ (by omega) (by omega), fr _ (by omega)])⟩
theorem rl_D.ac {M N : sk_M} {w m : Nat} {S : rl_T} {R : Nat → Int32} (D : rl_D M w S) (h : mo_h w S.c M N R) : rl_D N w (S.ac R m) := by
  obtain ⟨d1, d2, d3, d4, d5, d6, d7⟩ := D
  obtain ⟨h1, h2, h3, h4, h5⟩ := h
  exact ⟨h1, h2, by rw [h3, d1, d3]; rfl, by rw [h5 _ (by omega)]; exact d4, by rw [h5 _ (by omega)]; exact d5, by rw [h4]; exact d6, by rw [h5 _ (by omega)]; exact d7⟩
theorem rl_D.f {M N : sk_M} {w : Nat} {S : rl_T} (D : rl_D M w S) (h : mo_fr w M N) : rl_D N w S := by
  obtain ⟨d1, d2, d3, d4, d5, d6, d7⟩ := D
  obtain ⟨h1, h2, h3⟩ := h
  exact ⟨by rw [h1 _ (by omega)]; exact d1, by rw [h3]; exact d2, by rw [h1 _ (by omega)]; exact d3, by rw [h1 _ (by omega)]; exact d4, by rw [h1 _ (by omega)]; exact d5, by rw [h2]; exact d6, by rw [h1 _ (by omega)]; exact d7⟩
