/-! The two sides: programs read, and what calls leave alone -/
theorem pg_ce_v {M : sk_M} {k f : Nat} (h : k + 10 ≤ f ∨ f + 10 ≤ k) : pg_ce M k f k 10 = M k 10 ∧ (∀ j, pg_ce M k f (k + 9) j = M (k + 9) j) ∧ (∀ x e, 1 ≤ x → x ≤ 5 → e < 12 → pg_ce M k f (k + x) e = M (f + x) e) ∧ (∀ x y, 6 ≤ x → x ≤ 8 → y < 36 → pg_ce M k f (k + x) y = M (f + x) y) := by
  refine ⟨?_, fun j => ?_, fun x e h1 h2 he => ?_, fun x y h1 h2 hy => ?_⟩
  · unfold pg_ce
    rw [sk_nc (by omega), sk_nc (by omega), sk_nc (by omega), sk_nc (by omega), sk_nc (by omega), sk_nc (by omega), sk_nc (by omega), sk_nc (by omega), sk_nm (by omega)]
  · unfold pg_ce
    rw [sk_nc (by omega), sk_nc (by omega), sk_nc (by omega), sk_nc (by omega), sk_nc (by omega), sk_nc (by omega), sk_nc (by omega), sk_nc (by omega), sk_nm (by omega)]
  · unfold pg_ce
    rw [sk_nc (by omega), sk_nc (by omega), sk_nc (by omega)]
    rcases (show x = 1 ∨ x = 2 ∨ x = 3 ∨ x = 4 ∨ x = 5 by omega) with rfl | rfl | rfl | rfl | rfl
    · rw [sk_nc (by omega), sk_nc (by omega), sk_nc (by omega), sk_nc (by omega), sk_ci he, sk_nm (by omega)]
    · rw [sk_nc (by omega), sk_nc (by omega), sk_nc (by omega), sk_ci he, sk_nc (by omega), sk_nm (by omega)]
    · rw [sk_nc (by omega), sk_nc (by omega), sk_ci he, sk_nc (by omega), sk_nc (by omega), sk_nm (by omega)]
    · rw [sk_nc (by omega), sk_ci he, sk_nc (by omega), sk_nc (by omega), sk_nc (by omega), sk_nm (by omega)]
    · rw [sk_ci he, sk_nc (by omega), sk_nc (by omega), sk_nc (by omega), sk_nc (by omega), sk_nm (by omega)]
  · unfold pg_ce
    rcases (show x = 6 ∨ x = 7 ∨ x = 8 by omega) with rfl | rfl | rfl
    · rw [sk_nc (by omega), sk_nc (by omega), sk_ci hy, sk_nc (by omega), sk_nc (by omega), sk_nc (by omega), sk_nc (by omega), sk_nc (by omega), sk_nm (by omega)]
    · rw [sk_nc (by omega), sk_ci hy, sk_nc (by omega), sk_nc (by omega), sk_nc (by omega), sk_nc (by omega), sk_nc (by omega), sk_nc (by omega), sk_nm (by omega)]
    · rw [sk_ci hy, sk_nc (by omega), sk_nc (by omega), sk_nc (by omega), sk_nc (by omega), sk_nc (by omega), sk_nc (by omega), sk_nc (by omega), sk_nm (by omega)]
theorem rl_fr.s {k : Nat} {M N : sk_M} (h : sk_fr (k + 736) (k + 794) M N) : rl_fr k M N := ⟨fun a a1 a2 => h.1 a (by omega) (by omega), h.2, h.1 _ (by omega) (by omega)⟩
theorem rl_fr.o {k : Nat} {M N : sk_M} (h : ∀ a, (a < k + 738 ∨ k + 804 ≤ a) → N a = M a) : rl_fr k M N := ⟨fun a a1 a2 => h a (by omega), by rw [h _ (by omega)], h _ (by omega)⟩
theorem t_prog {M M1 : sk_M} {k o : Nat} {S : rl_T} {s : Int32} {L : List sk_E} {T R : Nat → Int32} (C : rl_C M k S) (H : rl_H M k o S.c S.d) (h : mo_hs S.r s) (hf : sk_fr (k + 736) (k + 794) M M1) (hL : sk_ph M1 (k + 794) L) (hT : mx_h T L) (ok : ∀ el ∈ L, el_ok el) (h12 : L.length ≤ 12)
    (hR : ∀ y, R y = if y = 6 + 233 * s.toNatClampNeg then T 0 else if 6 + 233 * s.toNatClampNeg + 17 ≤ y ∧ y < 6 + 233 * s.toNatClampNeg + 17 + 216 then T (y - (6 + 233 * s.toNatClampNeg)) else S.r y) :
    rl_C (pg_ce (x_re M1 k o S.c) (st_pg (k + 1) s) (k + 794)) k (S.ac R S.m) := by
  have C1 : rl_C M1 k S := C.f (rl_fr.s hf)
  have H1 : rl_H M1 k o S.c S.d := H.f (fun a a1 a2 => hf.1 _ (by omega) (by omega))
  obtain ⟨N, fr⟩ := C1.re H1
  have hx := (N.hx h).2
  have h4 := N.1
  refine C1.ac H1 ?_ (fun a a1 a2 => pg_ce_f (by unfold st_pg; omega))
  refine N.up hx ?_ (fun a ha => pg_ce_f (by unfold st_pg; omega)) (fun y hy => by rw [hR, if_neg (by omega), if_neg (by omega)])
  obtain ⟨v10, v9, v5, v8⟩ := pg_ce_v (M := x_re M1 k o S.c) (k := st_pg (k + 1) s) (f := k + 794) (by unfold st_pg; omega)
  obtain ⟨n0, -, -, -, b10, b9, -⟩ := N.P h
  refine ⟨L.length, h12, ?_, ?_, ?_, fun j hj => ?_, fun e he => ?_⟩
  · show pg_ce _ (st_pg (k + 1) s) _ (st_pg (k + 1) s) 9 = _
    rw [pg_ce_9 (by unfold st_pg; omega), fr _ (by omega)]; exact hL.1
  · rw [hR, if_pos rfl]; exact hT.1
  · rw [hR, if_neg (by omega), if_neg (by omega)]; exact v10.trans b10
  · rw [mo_oc_c (r := S.r) (fun i hi => by rw [hR, if_neg (by omega), if_neg (by omega)])]; exact (v9 j).trans (b9 j hj)
  · refine (tx_rl hL hT ok he).mv (fun x a b => ?_) (fun x q a b hq => ?_) (fun y hy => ?_)
    · refine (v5 x e a b (by omega)).trans ?_
      rw [fr _ (by omega)]
    · refine (v8 x _ a b (by omega)).trans ?_
      rw [fr _ (by omega)]
    · rw [hR, if_neg (by omega), if_pos (by omega)]
      show T _ = T _
      congr 1
      omega
/-- only what calls scribble on -/
def rl_k (k : Nat) (M N : sk_M) : Prop := ∀ a, (a < k + 738 ∨ k + 804 ≤ a) → N a = M a
theorem rl_k.r {k : Nat} {M : sk_M} : rl_k k M M := fun _ _ => rfl
theorem rl_k.t {k : Nat} {M N P : sk_M} (h : rl_k k M N) (g : rl_k k N P) : rl_k k M P := fun a ha => (g a ha).trans (h a ha)
theorem rl_k.ms {k a j : Nat} {M : sk_M} {v : Int32} (h : k + 738 ≤ a ∧ a < k + 804) : rl_k k M (sk_ms M a j v) := fun x hx => sk_nf (by omega)
theorem rl_k.ra {k c g u : Nat} {M : sk_M} (h : k + 738 ≤ c ∧ c + 9 ≤ k + 804) : rl_k k M (sc_ra M c g u) := fun x hx => sc_ra_f (by omega)
theorem rl_k.rk {k a f c : Nat} {M : sk_M} (h : k + 738 ≤ c ∧ c + 9 ≤ k + 804) (h2 : k + 738 ≤ a ∧ a + 3 ≤ k + 804) : rl_k k M (sd_rk M a f c) := fun x hx => sd_rk_f (by omega) (by omega)
theorem rl_k.cp {k f g : Nat} {M : sk_M} (h : k + 738 ≤ f ∧ f + 10 ≤ k + 804) : rl_k k M (pg_cf M f g) := fun x hx => pg_cf_f (by omega)
theorem rl_k.te {k f g i j : Nat} {M : sk_M} (h : k + 738 ≤ f ∧ f + 10 ≤ k + 804) : rl_k k M (pg_te M f i g j) := fun x hx => pg_te_f (by omega)
theorem rl_k.cs {k f g : Nat} {M : sk_M} (hw : st_wf M g) (h : k + 738 ≤ f ∧ f + 43 ≤ k + 804) : rl_k k M (st_cf M f g) := fun x hx => st_cf_f hw (by omega)
theorem x_R_k {M : sk_M} {k g : Nat} : rl_k k M (x_R M k g) := rl_k.ra (by omega)
theorem x_RK_k {M : sk_M} {k : Nat} : rl_k k M (x_RK M k) := rl_k.rk (by omega) (by omega)
theorem x_ll_k {M : sk_M} {k : Nat} (n : Nat) : rl_k k M (x_ll M k n) := fun a ha => x_ll_f (by omega) n
theorem x_pm_k {M : sk_M} {k : Nat} {s w : Int32} : rl_k k M (x_pm M k s w) := by
  unfold x_pm
  split; exact rl_k.r
  split; exact rl_k.r
  split; exact rl_k.r
  exact x_R_k
theorem x_am_k {M : sk_M} {k : Nat} {w : Int32} : rl_k k M (x_am M k w) := by
  unfold x_am
  split; exact rl_k.r
  split; exact rl_k.r
  split; exact rl_k.r
  split; exact rl_k.r
  split; exact x_RK_k
  exact x_ll_k _
theorem x_ic_k {M : sk_M} {k : Nat} {s e p v : Int32} : rl_k k M (x_ic M k s e p v) := ((rl_k.cp (by omega)).t (rl_k.ms (by omega))).t (rl_k.ra (by omega))
theorem x_ir_k {M : sk_M} {k : Nat} {s e : Int32} (h : s.toNatClampNeg < 4) : rl_k k M (x_ir M k s e) := ((rl_k.cp (by unfold st_pg; omega)).t (rl_k.te (by unfold st_pg; omega))).t (rl_k.ra (by omega))
theorem nd_l_k {M : sk_M} {k : Nat} {s e : Int32} (i : Nat) : rl_k k M (nd_l M k s e i) := fun a ha => by
  rw [nd_l_f (by omega) (by omega)]
  exact (x_RK_k.t (rl_k.ra (by omega))) a ha
theorem bs_k {M : sk_M} {k : Nat} {s : Int32} {g : Nat} (hap : g + 10 ≤ k + 738) (hg : pg_wf M g) : rl_k k M (bs_o k g (pg_n M g) (bs_z M k g) (pg_n M g)).1 := by
  obtain ⟨n, hn, h9, hp⟩ := id hg
  have e : pg_n M g = n := by unfold pg_n; rw [h9, nI_clamp (by omega)]
  rw [e]
  have h := bs_w5 (n := n) (z := bs_z M k g) hap hg hp (bs_w0 hap hg) n (Nat.le_refl _)
  exact fun a ha => h.2 a (by omega) (by omega)
theorem x_tt_k {M : sk_M} {k : Nat} {r : Int32} (hw : st_wf M (k + 751)) : rl_k k M (x_tt M (k + 751) r) := fun a ha => x_tt_f (by omega) hw
theorem si_k {M : sk_M} {k : Nat} {x : Int64} (hw : st_wf M (k + 1)) : ∀ i, rl_k k M (si_m M k x i)
  | 0 => rl_k.cs hw (by omega)
  | i + 1 => (si_k hw i).t (x_tt_k (si_wf hw i))
theorem si_e_k {M : sk_M} {k : Nat} {x : Int64} (hw : st_wf M (k + 1)) (i : Nat) : rl_k k M (si_e M k x i) := (si_k hw i).t (rl_k.rk (by omega) (by omega))
