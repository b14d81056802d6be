/-! The law: what holds in a sheet (printed by p4.py) -/
theorem k_ishl {l : Launch} {X : sk_X} {cc : ByteArray} {nL : Nat} {own : String} {rm : Room} {O : sk_O} {A : Nat → Prop} {Q : State → Prop} {kc ks : Nat} {M : sk_M} {pc : Nat} {lv : List (Nat × Value)} {st : List Value} (C : sk_C X cc nL own rm O A) {x y : Int32} (d : decode cc pc = .ok (.ishl, 1)) (K : sk_W l X O A Q nL kc ks M (pc + 1) lv (.int (x <<< (y &&& 31)) :: st)) : sk_W l X O A Q nL kc ks M pc lv (.int y :: .int x :: st) :=
  fun H locs ls hP hS hl => lv_ishl C.1.1 C.1.2.1 d (K H locs ls hP hS hl)
def sk_acc (a : Int32) (f : Nat → Int32) : Nat → Int32
  | 0 => a
  | n + 1 => sk_acc a f n + f n
theorem sk_acc_e {a : Int32} {f : Nat → Int32} : ∀ n, sk_acc a f n = a + sk_sum f n
  | 0 => (Int32.add_zero a).symm
  | n + 1 => by
    show sk_acc a f n + f n = a + (sk_sum f n + f n)
    rw [sk_acc_e n, Int32.add_assoc]
abbrev h_rv (r : Nat → Int32) (s : Nat) : Nat → Int32 := fun e => r (23 + 233 * s + 18 * e + 17)
abbrev h_fl (r : Nat → Int32) (s : Nat) : Nat → Int32 := fun e => r (23 + 233 * s + 18 * e + 16)
abbrev h_R (r : Nat → Int32) : Nat → Int32 := fun s => sk_sum (h_rv r s) (mo_c r s)
abbrev h_F (r : Nat → Int32) : Nat → Int32 := fun s => sk_sum (h_fl r s) (mo_c r s)
abbrev h_N (r : Nat → Int32) : Nat → Int32 := fun s => r (6 + 233 * s)
theorem shl_n : ∀ p, p < 5 → (1 : Int32) <<< (nI p &&& 31) = nI (2 ^ p) := by decide
theorem shl_m : ∀ p, p < 5 → (1 : Int32) <<< (nI p &&& 31) - 1 = nI (2 ^ p - 1) := by decide
theorem e_at {S : rl_T} (h0 : so S) {s e : Nat} (hs : s < S.m) (he : e < mo_c S.r s) {v x e1 e2 e3 : Int32} (hv : ¬ v < 0 ∧ ¬ 8 < v) {k : Nat} {M M2 : sk_M} (h : x = cx (er_2 (mo_he S.r (nI s) (nI e)) (¬ v < 0 ∧ ¬ 8 < v)) (mo_el S.r (nI s).toNatClampNeg (nI e).toNatClampNeg v) e1 e2 e3 ∧ rl_J k M S M2) : x = mo_el S.r s e v ∧ rl_J k M S M2 := by
  have h4 := h0.1
  have h12 := (h0.2.2 s hs).2.1
  rw [cx0 (er2p ((h0.he hs (by omega)).mpr he) hv), nI_clamp (by omega), nI_clamp (by omega)] at h
  exact h
theorem s_at {S : rl_T} (h0 : so S) {s : Nat} (hs : s < S.m) {v x e1 e2 e3 : Int32} (hv : ¬ v < 0 ∧ ¬ 7 < v) {k : Nat} {M M2 : sk_M} (h : x = cx (er_2 (mo_hs S.r (nI s)) (¬ v < 0 ∧ ¬ 7 < v)) (mo_sk S.r (nI s).toNatClampNeg S.m v) e1 e2 e3 ∧ rl_J k M S M2) : x = mo_sk S.r s S.m v ∧ rl_J k M S M2 := by
  have h4 := h0.1
  rw [cx0 (er2p ((h0.hs (by omega)).mpr hs) hv), nI_clamp (by omega)] at h
  exact h
theorem p_at {S : rl_T} (h0 : so S) {s e p : Nat} (hs : s < S.m) (he : e < mo_c S.r s) (hp : p < mo_n S.r s e) {v x e1 e2 e3 : Int32} (hv : ¬ v < 0 ∧ ¬ 4 < v) {k : Nat} {M M2 : sk_M} (h : x = cx (er_2 (mo_hp S.r (nI s) (nI e) (nI p)) (¬ v < 0 ∧ ¬ 4 < v)) (mo_pa S.r (nI s).toNatClampNeg (nI e).toNatClampNeg (nI p).toNatClampNeg v) e1 e2 e3 ∧ rl_J k M S M2) : x = mo_pa S.r s e p v ∧ rl_J k M S M2 := by
  have h4 := h0.1
  have h12 := (h0.2.2 s hs).2.1
  have h3 := ((h0.2.2 s hs).2.2 e he).2
  rw [cx0 (er2p ((h0.hp hs he (by omega)).mpr hp) hv), nI_clamp (by omega), nI_clamp (by omega), nI_clamp (by omega)] at h
  exact h
theorem b_at {S : rl_T} (h0 : so S) {s : Nat} (hs : s < S.m) {x e1 e2 e3 : Int32} {k : Nat} {M M2 : sk_M} (h : x = cx (er_1 (mo_hs S.r (nI s))) (mo_T S.r (mo_w (mo_T S.r) (mo_S S.r) S.m) - mo_T S.r (nI s).toNatClampNeg) e1 e2 e3 ∧ rl_J k M S M2) : x = mo_T S.r (mo_w (mo_T S.r) (mo_S S.r) S.m) - mo_T S.r s ∧ rl_J k M S M2 := by
  have h4 := h0.1
  rw [cx0 (er1p ((h0.hs (by omega)).mpr hs)), nI_clamp (by omega)] at h
  exact h
theorem w_at {S : rl_T} (h0 : so S) {s : Nat} (hs : s < S.m) {v x e1 e2 e3 : Int32} (hv : ¬ v < 0 ∧ ¬ 2 < v) {k : Nat} {M M2 : sk_M} (h : x = cx (er_2 (mo_hs S.r (nI s)) (¬ v < 0 ∧ ¬ 2 < v)) (a_bs S.r (nI s).toNatClampNeg v) e1 e2 e3 ∧ rl_J k M S M2) : x = a_bs S.r s v ∧ rl_J k M S M2 := by
  have h4 := h0.1
  rw [cx0 (er2p ((h0.hs (by omega)).mpr hs) hv), nI_clamp (by omega)] at h
  exact h
theorem n_at {S : rl_T} (h0 : so S) {s e : Nat} (hs : s < S.m) (he : e < mo_c S.r s) {x : Int32} {k : Nat} {M M2 : sk_M} (h : a_nd S (nI s) (nI e) x ∧ rl_J k M S M2) : mo_nq S.r s e S.m x ∧ rl_J k M S M2 := by
  have h4 := h0.1
  have h12 := (h0.2.2 s hs).2.1
  refine ⟨?_, h.2⟩
  rcases h.1 with ⟨z, -⟩ | ⟨-, z⟩
  · exact absurd ((h0.he hs (by omega)).mpr he) z
  · rw [nI_clamp (by omega), nI_clamp (by omega)] at z
    exact z
theorem el_0 {r : Nat → Int32} {s e : Nat} : mo_el r s e 0 = mo_ty r s e := rfl
theorem el_1 {r : Nat → Int32} {s e : Nat} : mo_el r s e 1 = mo_np r s e := rfl
theorem el_2 {r : Nat → Int32} {s e : Nat} : mo_el r s e 2 = mo_ba r s e := rfl
theorem el_3 {r : Nat → Int32} {s e : Nat} : mo_el r s e 3 = mo_ke r (23 + 233 * s + 18 * e + 11) := rfl
theorem el_4 {r : Nat → Int32} {s e : Nat} : mo_el r s e 4 = mo_gr r s e := rfl
theorem el_5 {r : Nat → Int32} {s e : Nat} : mo_el r s e 5 = mo_ba r s e + mo_gr r s e := rfl
theorem el_6 {r : Nat → Int32} {s e : Nat} : mo_el r s e 6 = h_fl r s e := rfl
theorem el_7 {r : Nat → Int32} {s e : Nat} : mo_el r s e 7 = h_rv r s e := rfl
theorem el_8 {r : Nat → Int32} {s e : Nat} : mo_el r s e 8 = if mo_bn r s e then 1 else 0 := rfl
theorem sk_0 {r : Nat → Int32} {s m : Nat} : mo_sk r s m 0 = r (6 + 233 * s) := rfl
theorem sk_1 {r : Nat → Int32} {s m : Nat} : mo_sk r s m 1 = mo_S r s := rfl
theorem sk_2 {r : Nat → Int32} {s m : Nat} : mo_sk r s m 2 = mo_cp r s := rfl
theorem sk_3 {r : Nat → Int32} {s m : Nat} : mo_sk r s m 3 = mo_of r s (mo_c r s) := rfl
theorem sk_4 {r : Nat → Int32} {s m : Nat} : mo_sk r s m 4 = mo_T r s := rfl
theorem sk_5 {r : Nat → Int32} {s m : Nat} : mo_sk r s m 5 = nI (mo_pl r s m) := rfl
theorem sk_6 {r : Nat → Int32} {s m : Nat} : mo_sk r s m 6 = sk_sum (h_fl r s) (mo_c r s) := rfl
theorem pa_1 {r : Nat → Int32} {s e p : Nat} : mo_pa r s e p 1 = mo_tu r s e p := rfl
theorem pa_3 {r : Nat → Int32} {s e p : Nat} : mo_pa r s e p 3 = mo_v r s e p := rfl
theorem pa_4 {r : Nat → Int32} {s e p : Nat} : mo_pa r s e p 4 = mo_wy r s e p := rfl
theorem ab_1 {r : Nat → Int32} {m : Nat} : mo_ab r m 1 = sk_sum (h_R r) m := rfl
theorem ab_2 {r : Nat → Int32} {m : Nat} : mo_ab r m 2 = sk_sum (h_F r) m := rfl
theorem ab_3 {r : Nat → Int32} {m : Nat} : mo_ab r m 3 = sk_sum (h_N r) m := rfl
theorem ab_4 {r : Nat → Int32} {m : Nat} : mo_ab r m 4 = mo_fv r m := rfl
theorem ab_5 {r : Nat → Int32} {m : Nat} : mo_ab r m 5 = nI (mo_la r m) := rfl
set_option maxHeartbeats 8000000 in
set_option maxRecDepth 100000 in
theorem w_holds (l : Launch) {O : sk_O} (hO : sk_inj O) (hst : l.stackTraces = false) {M : sk_M} {k : Nat} {S : rl_T} (C0 : rl_C M k S) (hk : sk_isX O k) (hiv : iv S.r S.m) {w : Nat} (hw : w < 2147483648) : sk_K l yL_holds (sk_w yL_holds cL_holds 21 (some .boolean)) ({ frames := 9, cells := 1025, slots := 6150, locals := 217 }) O [.ref (sk_ad O k), .int (nI w)] M 1025 (fun x M2 => x = 1 ∧ rl_J k M S M2) := by
  have s0 := C0.so
  have hg := C0.gd hiv
  have h4 := s0.1
  have hJ : rl_J k M S M := rl_J.r C0
  refine sk_ki (by decide) ⟨rfl, rfl⟩ hO (Nat.le_of_ble_eq_true rfl) (fun X A Q C hSr hNx ret => ?_)
  show sk_W l X O A Q 21 0 (6 * 0) M 0 [(0, .ref (sk_ad O k)), (1, .int (nI w))] []
  refine k_aloadn C 0 dL_holds_0 rfl ?_
  refine k_iconst C 1 dL_holds_1 (by decide) ?_
  refine k_iconst C 0 dL_holds_2 (by decide) ?_
  refine k_iconst C 0 dL_holds_3 (by decide) ?_
  refine k_iconst C 0 dL_holds_4 (by decide) ?_
  refine k_ks C hSr hNx (1) (as := [.ref (sk_ad O k), .int 1, .int 0, .int 0, .int 0]) yvL_call vsL_call ml_L_163 (q_About l hO hst hJ.1 hk 0 0 0) rfl rfl (Nat.le_of_ble_eq_true rfl) ⟨⟨by decide, by decide⟩, by omega, by show 1 ≤ 1025; omega, by show 6 * (1) ≤ 6150; omega⟩ dL_holds_5 (fun x M1 h => ?_)
  obtain ⟨hx, hj⟩ := ax0 h (er1p ⟨by decide, by decide⟩)
  replace hx : x = nI S.m := hx.trans s0.2.1
  subst hx
  replace hJ := hJ.t hj
  clear hj
  refine k_istoren C [1, 2, 0] [(0, .ref (sk_ad O k)), (1, .int (nI w)), (2, .int (nI S.m))] dL_holds_8 (by decide) rfl ?_
  refine k_iconst C (-1) dL_holds_9 (by decide) ?_
  refine k_istoren C [1, 2, 3, 0] [(0, .ref (sk_ad O k)), (1, .int (nI w)), (2, .int (nI S.m)), (3, .int (-1))] dL_holds_10 (by decide) rfl ?_
  refine k_iconst C 0 dL_holds_11 (by decide) ?_
  refine k_istore C [1, 2, 3, 4, 0] [(0, .ref (sk_ad O k)), (1, .int (nI w)), (2, .int (nI S.m)), (3, .int (-1)), (4, .int 0)] dL_holds_12 (by decide) rfl ?_
  refine k_iconst C 0 dL_holds_14 (by decide) ?_
  refine k_istore C [1, 2, 3, 4, 5, 0] [(0, .ref (sk_ad O k)), (1, .int (nI w)), (2, .int (nI S.m)), (3, .int (-1)), (4, .int 0), (5, .int 0)] dL_holds_15 (by decide) rfl ?_
  refine k_iconst C 0 dL_holds_17 (by decide) ?_
  refine k_istore C [1, 2, 3, 4, 5, 6, 0] [(0, .ref (sk_ad O k)), (1, .int (nI w)), (2, .int (nI S.m)), (3, .int (-1)), (4, .int 0), (5, .int 0), (6, .int 0)] dL_holds_18 (by decide) rfl ?_
  refine k_iconst C 0 dL_holds_20 (by decide) ?_
  refine k_istore C [1, 2, 3, 4, 5, 6, 7, 0] [(0, .ref (sk_ad O k)), (1, .int (nI w)), (2, .int (nI S.m)), (3, .int (-1)), (4, .int 0), (5, .int 0), (6, .int 0), (7, .int 0)] dL_holds_21 (by decide) rfl ?_
  refine k_iconst C 0 dL_holds_23 (by decide) ?_
  refine k_istore C [1, 2, 3, 4, 5, 6, 7, 8, 0] [(0, .ref (sk_ad O k)), (1, .int (nI w)), (2, .int (nI S.m)), (3, .int (-1)), (4, .int 0), (5, .int 0), (6, .int 0), (7, .int 0), (8, .int 0)] dL_holds_24 (by decide) rfl ?_
  refine k_iconst C 1 dL_holds_26 (by decide) ?_
  refine k_istore C [1, 2, 3, 4, 5, 6, 7, 8, 9, 0] [(0, .ref (sk_ad O k)), (1, .int (nI w)), (2, .int (nI S.m)), (3, .int (-1)), (4, .int 0), (5, .int 0), (6, .int 0), (7, .int 0), (8, .int 0), (9, .int 1)] dL_holds_27 (by decide) rfl ?_
  refine k_iconst C 0 dL_holds_29 (by decide) ?_
  refine k_istore C [1, 2, 3, 4, 5, 6, 7, 8, 9, 10, 0] [(0, .ref (sk_ad O k)), (1, .int (nI w)), (2, .int (nI S.m)), (3, .int (-1)), (4, .int 0), (5, .int 0), (6, .int 0), (7, .int 0), (8, .int 0), (9, .int 1), (10, .int 0)] dL_holds_30 (by decide) rfl ?_
  have F618 : ∀ N : sk_M, rl_J k M S N → sk_W l X O A Q 21 (1 + 250 * S.m) (6 * (1 + 250 * S.m)) N 615 [(0, .ref (sk_ad O k)), (1, .int (nI w)), (2, .int (nI S.m)), (3, .int (bst (mo_T S.r) (mo_S S.r) S.m S.m)), (4, .int (sk_sum (h_R S.r) S.m)), (5, .int (sk_sum (h_F S.r) S.m)), (6, .int (sk_sum (h_N S.r) S.m)), (7, .int (nI (mo_la S.r S.m))), (8, .int (nI (pls (mo_T S.r) (mo_S S.r) S.m S.m))), (9, .int 1), (10, .int (nI S.m))] [] := by
    intro N hJ
    refine k_widen (k := 1001) (n := 6 * 1001) (by omega) (by omega) ?_
    have F682 : ∀ N : sk_M, rl_J k M S N → sk_W l X O A Q 21 1013 (6 * 1013) N 682 [(0, .ref (sk_ad O k)), (1, .int (nI w)), (2, .int (nI S.m)), (3, .int (bst (mo_T S.r) (mo_S S.r) S.m S.m)), (4, .int (sk_sum (h_R S.r) S.m)), (5, .int (sk_sum (h_F S.r) S.m)), (6, .int (sk_sum (h_N S.r) S.m)), (7, .int (nI (mo_la S.r S.m))), (8, .int (nI (pls (mo_T S.r) (mo_S S.r) S.m S.m))), (9, .int 1), (10, .int (nI S.m))] [] := by
      intro N hJ
      refine k_iload C 9 dL_holds_682 rfl ?_
      refine k_zeq C 765 dL_holds_684 (by decide) (fun e0 => absurd e0 (by decide)) (fun _ => ?_)
      refine k_iload C 8 dL_holds_687 rfl ?_
      refine k_iconst C 1 dL_holds_689 (by decide) ?_
      refine k_iloadn C 2 dL_holds_690 rfl ?_
      refine k_ishl C dL_holds_691 ?_
      refine k_iconst C 1 dL_holds_692 (by decide) ?_
      refine k_isub C dL_holds_693 ?_
      refine k_cne C 765 dL_holds_694 (by decide) (fun e0 => absurd (by rw [shl_m _ (by omega), pls_4 h4]) e0) (fun _ => ?_)
      refine k_aloadn C 0 dL_holds_697 rfl ?_
      refine k_iconst C 1 dL_holds_698 (by decide) ?_
      refine k_iconst C 1 dL_holds_699 (by decide) ?_
      refine k_iconst C 0 dL_holds_700 (by decide) ?_
      refine k_iconst C 0 dL_holds_701 (by decide) ?_
      refine k_ks C hSr hNx (1014) (as := [.ref (sk_ad O k), .int 1, .int 1, .int 0, .int 0]) yvL_call vsL_call ml_L_163 (q_About l hO hst hJ.1 hk 1 0 0) rfl rfl (Nat.le_of_ble_eq_true rfl) ⟨⟨by decide, by decide⟩, by omega, by show 1014 ≤ 1025; omega, by show 6 * (1014) ≤ 6150; omega⟩ dL_holds_702 (fun x M2 h => ?_)
      obtain ⟨hx, hj⟩ := ax0 h (er1p ⟨by decide, by decide⟩)
      rw [ab_1] at hx
      subst hx
      replace hJ := hJ.t hj
      clear hj
      refine k_iload C 4 dL_holds_705 rfl ?_
      refine k_cne C 765 dL_holds_707 (by decide) (fun e0 => absurd rfl e0) (fun _ => ?_)
      refine k_aloadn C 0 dL_holds_710 rfl ?_
      refine k_iconst C 1 dL_holds_711 (by decide) ?_
      refine k_iconst C 2 dL_holds_712 (by decide) ?_
      refine k_iconst C 0 dL_holds_713 (by decide) ?_
      refine k_iconst C 0 dL_holds_714 (by decide) ?_
      refine k_ks C hSr hNx (1015) (as := [.ref (sk_ad O k), .int 1, .int 2, .int 0, .int 0]) yvL_call vsL_call ml_L_163 (q_About l hO hst hJ.1 hk 2 0 0) rfl rfl (Nat.le_of_ble_eq_true rfl) ⟨⟨by decide, by decide⟩, by omega, by show 1015 ≤ 1025; omega, by show 6 * (1015) ≤ 6150; omega⟩ dL_holds_715 (fun x M3 h => ?_)
      obtain ⟨hx, hj⟩ := ax0 h (er1p ⟨by decide, by decide⟩)
      rw [ab_2] at hx
      subst hx
      replace hJ := hJ.t hj
      clear hj
      refine k_iload C 5 dL_holds_718 rfl ?_
      refine k_cne C 765 dL_holds_720 (by decide) (fun e0 => absurd rfl e0) (fun _ => ?_)
      refine k_aloadn C 0 dL_holds_723 rfl ?_
      refine k_iconst C 1 dL_holds_724 (by decide) ?_
      refine k_iconst C 3 dL_holds_725 (by decide) ?_
      refine k_iconst C 0 dL_holds_726 (by decide) ?_
      refine k_iconst C 0 dL_holds_727 (by decide) ?_
      refine k_ks C hSr hNx (1016) (as := [.ref (sk_ad O k), .int 1, .int 3, .int 0, .int 0]) yvL_call vsL_call ml_L_163 (q_About l hO hst hJ.1 hk 3 0 0) rfl rfl (Nat.le_of_ble_eq_true rfl) ⟨⟨by decide, by decide⟩, by omega, by show 1016 ≤ 1025; omega, by show 6 * (1016) ≤ 6150; omega⟩ dL_holds_728 (fun x M4 h => ?_)
      obtain ⟨hx, hj⟩ := ax0 h (er1p ⟨by decide, by decide⟩)
      rw [ab_3] at hx
      subst hx
      replace hJ := hJ.t hj
      clear hj
      refine k_iload C 6 dL_holds_731 rfl ?_
      refine k_cne C 765 dL_holds_733 (by decide) (fun e0 => absurd rfl e0) (fun _ => ?_)
      refine k_aloadn C 0 dL_holds_736 rfl ?_
      refine k_iconst C 1 dL_holds_737 (by decide) ?_
      refine k_iconst C 4 dL_holds_738 (by decide) ?_
      refine k_iconst C 0 dL_holds_739 (by decide) ?_
      refine k_iconst C 0 dL_holds_740 (by decide) ?_
      refine k_ks C hSr hNx (1017) (as := [.ref (sk_ad O k), .int 1, .int 4, .int 0, .int 0]) yvL_call vsL_call ml_L_163 (q_About l hO hst hJ.1 hk 4 0 0) rfl rfl (Nat.le_of_ble_eq_true rfl) ⟨⟨by decide, by decide⟩, by omega, by show 1017 ≤ 1025; omega, by show 6 * (1017) ≤ 6150; omega⟩ dL_holds_741 (fun x M5 h => ?_)
      obtain ⟨hx, hj⟩ := ax0 h (er1p ⟨by decide, by decide⟩)
      rw [ab_4] at hx
      subst hx
      replace hJ := hJ.t hj
      clear hj
      refine k_iloadn C 3 dL_holds_744 rfl ?_
      refine k_cne C 765 dL_holds_745 (by decide) (fun e0 => absurd bst_m.symm e0) (fun _ => ?_)
      refine k_aloadn C 0 dL_holds_748 rfl ?_
      refine k_iconst C 1 dL_holds_749 (by decide) ?_
      refine k_iconst C 5 dL_holds_750 (by decide) ?_
      refine k_iconst C 0 dL_holds_751 (by decide) ?_
      refine k_iconst C 0 dL_holds_752 (by decide) ?_
      refine k_ks C hSr hNx (1018) (as := [.ref (sk_ad O k), .int 1, .int 5, .int 0, .int 0]) yvL_call vsL_call ml_L_163 (q_About l hO hst hJ.1 hk 5 0 0) rfl rfl (Nat.le_of_ble_eq_true rfl) ⟨⟨by decide, by decide⟩, by omega, by show 1018 ≤ 1025; omega, by show 6 * (1018) ≤ 6150; omega⟩ dL_holds_753 (fun x M6 h => ?_)
      obtain ⟨hx, hj⟩ := ax0 h (er1p ⟨by decide, by decide⟩)
      rw [ab_5] at hx
      subst hx
      replace hJ := hJ.t hj
      clear hj
      refine k_iload C 7 dL_holds_756 rfl ?_
      refine k_cne C 765 dL_holds_758 (by decide) (fun e0 => absurd rfl e0) (fun _ => ?_)
      refine k_iconst C 1 dL_holds_761 (by decide) ?_
      refine k_goto C 766 dL_holds_762 (by decide) ?_
      refine k_istore C [1, 2, 3, 4, 5, 6, 7, 8, 9, 0, 10] [(0, .ref (sk_ad O k)), (1, .int (nI w)), (2, .int (nI S.m)), (3, .int (bst (mo_T S.r) (mo_S S.r) S.m S.m)), (4, .int (sk_sum (h_R S.r) S.m)), (5, .int (sk_sum (h_F S.r) S.m)), (6, .int (sk_sum (h_N S.r) S.m)), (7, .int (nI (mo_la S.r S.m))), (8, .int (nI (pls (mo_T S.r) (mo_S S.r) S.m S.m))), (9, .int 1), (10, .int (nI S.m))] dL_holds_766 (by decide) rfl ?_
      refine k_iloadn C 2 dL_holds_768 rfl ?_
      refine k_zeq C 777 dL_holds_769 (by decide) (fun hv => ?_) (fun hv => ?_)
      · skip
        refine k_iload C 9 dL_holds_777 rfl ?_
        exact ret _ _ _ _ _ (by decide) dL_holds_779 rfl ⟨rfl, hJ⟩
      · skip
        have hm0 : 0 < S.m := Nat.pos_of_ne_zero (fun z => hv (by rw [z]; rfl))
        refine k_iload C 9 dL_holds_772 rfl ?_
        refine k_zne C 780 dL_holds_774 (by decide) (fun _ => ?_) (fun e0 => absurd e0 (by decide))
        refine k_iloadn C 1 dL_holds_780 rfl ?_
        refine k_iloadn C 2 dL_holds_781 rfl ?_
        refine k_irem C dL_holds_782 hv ?_
        refine k_top (nI (w % S.m)) (sk_nrem (a := w) (b := S.m) rfl rfl (by omega) ⟨hm0, by omega⟩) ?_
        have hs : w % S.m < S.m := Nat.mod_lt _ hm0
        generalize w % S.m = s at hs ⊢
        have hc12 := (s0.2.2 s hs).2.1
        refine k_istore C [1, 2, 3, 4, 5, 6, 7, 8, 9, 10, 0] [(0, .ref (sk_ad O k)), (1, .int (nI w)), (2, .int (nI S.m)), (3, .int (bst (mo_T S.r) (mo_S S.r) S.m S.m)), (4, .int (sk_sum (h_R S.r) S.m)), (5, .int (sk_sum (h_F S.r) S.m)), (6, .int (sk_sum (h_N S.r) S.m)), (7, .int (nI (mo_la S.r S.m))), (8, .int (nI (pls (mo_T S.r) (mo_S S.r) S.m S.m))), (9, .int 1), (10, .int (nI s))] dL_holds_783 (by decide) rfl ?_
        refine k_aloadn C 0 dL_holds_785 rfl ?_
        refine k_iconst C 2 dL_holds_786 (by decide) ?_
        refine k_iload C 10 dL_holds_787 rfl ?_
        refine k_iconst C 0 dL_holds_789 (by decide) ?_
        refine k_iconst C 0 dL_holds_790 (by decide) ?_
        refine k_ks C hSr hNx (1019) (as := [.ref (sk_ad O k), .int 2, .int (nI s), .int 0, .int 0]) yvL_call vsL_call ml_L_163 (q_Skater l hO hst hJ.1 hk (nI s) 0 0) rfl rfl (Nat.le_of_ble_eq_true rfl) ⟨⟨by decide, by decide⟩, by omega, by show 1019 ≤ 1025; omega, by show 6 * (1019) ≤ 6150; omega⟩ dL_holds_791 (fun x M7 h => ?_)
        obtain ⟨hx, hj⟩ := s_at s0 hs (by decide) h
        rw [sk_0, (s0.2.2 _ hs).1] at hx
        subst hx
        replace hJ := hJ.t hj
        clear hj
        refine k_istore C [1, 2, 3, 4, 5, 6, 7, 8, 9, 10, 11, 0] [(0, .ref (sk_ad O k)), (1, .int (nI w)), (2, .int (nI S.m)), (3, .int (bst (mo_T S.r) (mo_S S.r) S.m S.m)), (4, .int (sk_sum (h_R S.r) S.m)), (5, .int (sk_sum (h_F S.r) S.m)), (6, .int (sk_sum (h_N S.r) S.m)), (7, .int (nI (mo_la S.r S.m))), (8, .int (nI (pls (mo_T S.r) (mo_S S.r) S.m S.m))), (9, .int 1), (10, .int (nI s)), (11, .int (nI (mo_c S.r s)))] dL_holds_794 (by decide) rfl ?_
        refine k_aloadn C 0 dL_holds_796 rfl ?_
        refine k_bipush C 13 dL_holds_797 (by decide) ?_
        refine k_iload C 10 dL_holds_799 rfl ?_
        refine k_iconst C 1 dL_holds_801 (by decide) ?_
        refine k_iconst C 0 dL_holds_802 (by decide) ?_
        refine k_ks C hSr hNx (1020) (as := [.ref (sk_ad O k), .int 13, .int (nI s), .int 1, .int 0]) yvL_call vsL_call ml_L_163 (q_Swap l hO hst hJ.1 hk (nI s) 1 0) rfl rfl (Nat.le_of_ble_eq_true rfl) ⟨⟨by decide, by decide⟩, by omega, by show 1020 ≤ 1025; omega, by show 6 * (1020) ≤ 6150; omega⟩ dL_holds_803 (fun x M8 h => ?_)
        obtain ⟨hx, hj⟩ := w_at s0 hs (by decide) h
        subst hx
        replace hJ := hJ.t hj
        clear hj
        refine k_istore C [1, 2, 3, 4, 5, 6, 7, 8, 9, 10, 11, 12, 0] [(0, .ref (sk_ad O k)), (1, .int (nI w)), (2, .int (nI S.m)), (3, .int (bst (mo_T S.r) (mo_S S.r) S.m S.m)), (4, .int (sk_sum (h_R S.r) S.m)), (5, .int (sk_sum (h_F S.r) S.m)), (6, .int (sk_sum (h_N S.r) S.m)), (7, .int (nI (mo_la S.r S.m))), (8, .int (nI (pls (mo_T S.r) (mo_S S.r) S.m S.m))), (9, .int 1), (10, .int (nI s)), (11, .int (nI (mo_c S.r s))), (12, .int (a_bs S.r s 1))] dL_holds_806 (by decide) rfl ?_
        refine k_aloadn C 0 dL_holds_808 rfl ?_
        refine k_bipush C 13 dL_holds_809 (by decide) ?_
        refine k_iload C 10 dL_holds_811 rfl ?_
        refine k_iconst C 2 dL_holds_813 (by decide) ?_
        refine k_iconst C 0 dL_holds_814 (by decide) ?_
        refine k_ks C hSr hNx (1021) (as := [.ref (sk_ad O k), .int 13, .int (nI s), .int 2, .int 0]) yvL_call vsL_call ml_L_163 (q_Swap l hO hst hJ.1 hk (nI s) 2 0) rfl rfl (Nat.le_of_ble_eq_true rfl) ⟨⟨by decide, by decide⟩, by omega, by show 1021 ≤ 1025; omega, by show 6 * (1021) ≤ 6150; omega⟩ dL_holds_815 (fun x M9 h => ?_)
        obtain ⟨hx, hj⟩ := w_at s0 hs (by decide) h
        subst hx
        replace hJ := hJ.t hj
        clear hj
        refine k_istore C [1, 2, 3, 4, 5, 6, 7, 8, 9, 10, 11, 12, 13, 0] [(0, .ref (sk_ad O k)), (1, .int (nI w)), (2, .int (nI S.m)), (3, .int (bst (mo_T S.r) (mo_S S.r) S.m S.m)), (4, .int (sk_sum (h_R S.r) S.m)), (5, .int (sk_sum (h_F S.r) S.m)), (6, .int (sk_sum (h_N S.r) S.m)), (7, .int (nI (mo_la S.r S.m))), (8, .int (nI (pls (mo_T S.r) (mo_S S.r) S.m S.m))), (9, .int 1), (10, .int (nI s)), (11, .int (nI (mo_c S.r s))), (12, .int (a_bs S.r s 1)), (13, .int (a_bs S.r s 2))] dL_holds_818 (by decide) rfl ?_
        refine k_iload C 11 dL_holds_820 rfl ?_
        refine k_iconst C 2 dL_holds_822 (by decide) ?_
        have J884 : ∀ N : sk_M, rl_J k M S N → sk_W l X O A Q 21 1022 (6 * 1022) N 884 [(0, .ref (sk_ad O k)), (1, .int (nI w)), (2, .int (nI S.m)), (3, .int (bst (mo_T S.r) (mo_S S.r) S.m S.m)), (4, .int (sk_sum (h_R S.r) S.m)), (5, .int (sk_sum (h_F S.r) S.m)), (6, .int (sk_sum (h_N S.r) S.m)), (7, .int (nI (mo_la S.r S.m))), (8, .int (nI (pls (mo_T S.r) (mo_S S.r) S.m S.m))), (9, .int 1), (10, .int (nI s)), (11, .int (nI (mo_c S.r s))), (12, .int (a_bs S.r s 1)), (13, .int (a_bs S.r s 2))] [.int 1] := by
          intro N hJ
          refine k_istore C [1, 2, 3, 4, 5, 6, 7, 8, 9, 0, 10, 11, 12, 13] [(0, .ref (sk_ad O k)), (1, .int (nI w)), (2, .int (nI S.m)), (3, .int (bst (mo_T S.r) (mo_S S.r) S.m S.m)), (4, .int (sk_sum (h_R S.r) S.m)), (5, .int (sk_sum (h_F S.r) S.m)), (6, .int (sk_sum (h_N S.r) S.m)), (7, .int (nI (mo_la S.r S.m))), (8, .int (nI (pls (mo_T S.r) (mo_S S.r) S.m S.m))), (9, .int 1), (10, .int (nI s)), (11, .int (nI (mo_c S.r s))), (12, .int (a_bs S.r s 1)), (13, .int (a_bs S.r s 2))] dL_holds_884 (by decide) rfl ?_
          refine k_iload C 11 dL_holds_886 rfl ?_
          refine k_zeq C 896 dL_holds_888 (by decide) (fun hv2 => ?_) (fun hv2 => ?_)
          · skip
            refine k_iload C 9 dL_holds_896 rfl ?_
            exact ret _ _ _ _ _ (by decide) dL_holds_898 rfl ⟨rfl, hJ⟩
          · skip
            have hc0 : 0 < mo_c S.r s := Nat.pos_of_ne_zero (fun z => hv2 (by rw [z]; rfl))
            refine k_iload C 9 dL_holds_891 rfl ?_
            refine k_zne C 899 dL_holds_893 (by decide) (fun _ => ?_) (fun e0 => absurd e0 (by decide))
            refine k_iloadn C 1 dL_holds_899 rfl ?_
            refine k_iconst C 4 dL_holds_900 (by decide) ?_
            refine k_idiv C dL_holds_901 (by decide) ?_
            refine k_top (nI (w / 4)) (sk_ndiv (a := w) (b := 4) rfl rfl (by omega) (by decide)) ?_
            refine k_iload C 11 dL_holds_902 rfl ?_
            refine k_irem C dL_holds_904 hv2 ?_
            refine k_top (nI (w / 4 % mo_c S.r s)) (sk_nrem (a := w / 4) (b := mo_c S.r s) rfl rfl (by omega) ⟨hc0, by omega⟩) ?_
            have he : w / 4 % mo_c S.r s < mo_c S.r s := Nat.mod_lt _ hc0
            generalize w / 4 % mo_c S.r s = e at he ⊢
            refine k_istore C [1, 2, 3, 4, 5, 6, 7, 8, 9, 10, 11, 12, 13, 14, 0] [(0, .ref (sk_ad O k)), (1, .int (nI w)), (2, .int (nI S.m)), (3, .int (bst (mo_T S.r) (mo_S S.r) S.m S.m)), (4, .int (sk_sum (h_R S.r) S.m)), (5, .int (sk_sum (h_F S.r) S.m)), (6, .int (sk_sum (h_N S.r) S.m)), (7, .int (nI (mo_la S.r S.m))), (8, .int (nI (pls (mo_T S.r) (mo_S S.r) S.m S.m))), (9, .int 1), (10, .int (nI s)), (11, .int (nI (mo_c S.r s))), (12, .int (a_bs S.r s 1)), (13, .int (a_bs S.r s 2)), (14, .int (nI e))] dL_holds_905 (by decide) rfl ?_
            refine k_aloadn C 0 dL_holds_907 rfl ?_
            refine k_bipush C 14 dL_holds_908 (by decide) ?_
            refine k_iload C 10 dL_holds_910 rfl ?_
            refine k_iload C 14 dL_holds_912 rfl ?_
            refine k_iconst C 0 dL_holds_914 (by decide) ?_
            refine k_ks C hSr hNx (1023) (as := [.ref (sk_ad O k), .int 14, .int (nI s), .int (nI e), .int 0]) yvL_call vsL_call ml_L_163 (q_Needs l hO hst hJ.1 hk (nI s) (nI e) 0) rfl rfl (Nat.le_of_ble_eq_true rfl) ⟨⟨by decide, by decide⟩, by omega, by show 1023 ≤ 1025; omega, by show 6 * (1023) ≤ 6150; omega⟩ dL_holds_915 (fun x M10 h => ?_)
            obtain ⟨hnq, hj⟩ := n_at s0 hs he h
            replace hJ := hJ.t hj
            clear hj
            obtain ⟨j, hj30, ej, hq⟩ := nq_h hg hs he hnq
            have hpl : mo_pl S.r s S.m < S.m := mp_c_lt hs
            rcases hq with ⟨rfl, hq⟩ | ⟨i, hi30, rfl, hq⟩
            · skip
              refine k_istore C [1, 2, 3, 4, 5, 6, 7, 8, 9, 10, 11, 12, 13, 14, 15, 0] [(0, .ref (sk_ad O k)), (1, .int (nI w)), (2, .int (nI S.m)), (3, .int (bst (mo_T S.r) (mo_S S.r) S.m S.m)), (4, .int (sk_sum (h_R S.r) S.m)), (5, .int (sk_sum (h_F S.r) S.m)), (6, .int (sk_sum (h_N S.r) S.m)), (7, .int (nI (mo_la S.r S.m))), (8, .int (nI (pls (mo_T S.r) (mo_S S.r) S.m S.m))), (9, .int 1), (10, .int (nI s)), (11, .int (nI (mo_c S.r s))), (12, .int (a_bs S.r s 1)), (13, .int (a_bs S.r s 2)), (14, .int (nI e)), (15, .int (-1))] dL_holds_918 (by decide) rfl ?_
              refine k_bipush C 100 dL_holds_920 (by decide) ?_
              refine k_aloadn C 0 dL_holds_922 rfl ?_
              refine k_iconst C 3 dL_holds_923 (by decide) ?_
              refine k_iload C 10 dL_holds_924 rfl ?_
              refine k_iload C 14 dL_holds_926 rfl ?_
              refine k_iconst C 3 dL_holds_928 (by decide) ?_
              refine k_ks C hSr hNx (1024) (as := [.ref (sk_ad O k), .int 3, .int (nI s), .int (nI e), .int 3]) yvL_call vsL_call ml_L_163 (q_Element l hO hst hJ.1 hk (nI s) (nI e) 3) rfl rfl (Nat.le_of_ble_eq_true rfl) ⟨⟨by decide, by decide⟩, by omega, by show 1024 ≤ 1025; omega, by show 6 * (1024) ≤ 6150; omega⟩ dL_holds_929 (fun x M11 h => ?_)
              obtain ⟨hx, hj⟩ := e_at s0 hs he (by decide) h
              rw [el_3] at hx
              subst hx
              replace hJ := hJ.t hj
              clear hj
              refine k_iadd C dL_holds_932 ?_
              refine k_top (nI (85 + j)) (by rw [ej]; exact now_j j hj30) ?_
              refine k_istore C [1, 2, 3, 4, 5, 6, 7, 8, 9, 10, 11, 12, 13, 14, 15, 16, 0] [(0, .ref (sk_ad O k)), (1, .int (nI w)), (2, .int (nI S.m)), (3, .int (bst (mo_T S.r) (mo_S S.r) S.m S.m)), (4, .int (sk_sum (h_R S.r) S.m)), (5, .int (sk_sum (h_F S.r) S.m)), (6, .int (sk_sum (h_N S.r) S.m)), (7, .int (nI (mo_la S.r S.m))), (8, .int (nI (pls (mo_T S.r) (mo_S S.r) S.m S.m))), (9, .int 1), (10, .int (nI s)), (11, .int (nI (mo_c S.r s))), (12, .int (a_bs S.r s 1)), (13, .int (a_bs S.r s 2)), (14, .int (nI e)), (15, .int (-1)), (16, .int (nI (85 + j)))] dL_holds_933 (by decide) rfl ?_
              refine k_iload C 15 dL_holds_935 rfl ?_
              refine k_iconst C (-1) dL_holds_937 (by decide) ?_
              refine k_cne C 961 dL_holds_938 (by decide) (fun e0 => absurd rfl e0) (fun _ => ?_)
              refine k_aloadn C 0 dL_holds_941 rfl ?_
              refine k_iconst C 2 dL_holds_942 (by decide) ?_
              refine k_iload C 10 dL_holds_943 rfl ?_
              refine k_iconst C 5 dL_holds_945 (by decide) ?_
              refine k_iconst C 0 dL_holds_946 (by decide) ?_
              refine k_ks C hSr hNx (1025) (as := [.ref (sk_ad O k), .int 2, .int (nI s), .int 5, .int 0]) yvL_call vsL_call ml_L_163 (q_Skater l hO hst hJ.1 hk (nI s) 5 0) rfl rfl (Nat.le_of_ble_eq_true rfl) ⟨⟨by decide, by decide⟩, by omega, by show 1025 ≤ 1025; omega, by show 6 * (1025) ≤ 6150; omega⟩ dL_holds_947 (fun x M12 h => ?_)
              obtain ⟨hx, hj⟩ := s_at s0 hs (by decide) h
              rw [sk_5] at hx
              subst hx
              replace hJ := hJ.t hj
              clear hj
              refine k_zle C 957 dL_holds_950 (by decide) (fun e0 => absurd e0 (by rw [show (0 : Int32) = nI 0 from rfl, nI_leI (by omega) (by omega)]; have : ¬ mo_pl S.r s S.m = 0 := hq; omega)) (fun _ => ?_)
              refine k_iconst C 1 dL_holds_953 (by decide) ?_
              refine k_goto C 1012 dL_holds_954 (by decide) ?_
              exact ret _ _ _ _ _ (by decide) dL_holds_1012 rfl ⟨rfl, hJ⟩
            · skip
              refine k_istore C [1, 2, 3, 4, 5, 6, 7, 8, 9, 10, 11, 12, 13, 14, 15, 0] [(0, .ref (sk_ad O k)), (1, .int (nI w)), (2, .int (nI S.m)), (3, .int (bst (mo_T S.r) (mo_S S.r) S.m S.m)), (4, .int (sk_sum (h_R S.r) S.m)), (5, .int (sk_sum (h_F S.r) S.m)), (6, .int (sk_sum (h_N S.r) S.m)), (7, .int (nI (mo_la S.r S.m))), (8, .int (nI (pls (mo_T S.r) (mo_S S.r) S.m S.m))), (9, .int 1), (10, .int (nI s)), (11, .int (nI (mo_c S.r s))), (12, .int (a_bs S.r s 1)), (13, .int (a_bs S.r s 2)), (14, .int (nI e)), (15, .int (nI (85 + i)))] dL_holds_918 (by decide) rfl ?_
              refine k_bipush C 100 dL_holds_920 (by decide) ?_
              refine k_aloadn C 0 dL_holds_922 rfl ?_
              refine k_iconst C 3 dL_holds_923 (by decide) ?_
              refine k_iload C 10 dL_holds_924 rfl ?_
              refine k_iload C 14 dL_holds_926 rfl ?_
              refine k_iconst C 3 dL_holds_928 (by decide) ?_
              refine k_ks C hSr hNx (1024) (as := [.ref (sk_ad O k), .int 3, .int (nI s), .int (nI e), .int 3]) yvL_call vsL_call ml_L_163 (q_Element l hO hst hJ.1 hk (nI s) (nI e) 3) rfl rfl (Nat.le_of_ble_eq_true rfl) ⟨⟨by decide, by decide⟩, by omega, by show 1024 ≤ 1025; omega, by show 6 * (1024) ≤ 6150; omega⟩ dL_holds_929 (fun x M13 h => ?_)
              obtain ⟨hx, hj⟩ := e_at s0 hs he (by decide) h
              rw [el_3] at hx
              subst hx
              replace hJ := hJ.t hj
              clear hj
              refine k_iadd C dL_holds_932 ?_
              refine k_top (nI (85 + j)) (by rw [ej]; exact now_j j hj30) ?_
              refine k_istore C [1, 2, 3, 4, 5, 6, 7, 8, 9, 10, 11, 12, 13, 14, 15, 16, 0] [(0, .ref (sk_ad O k)), (1, .int (nI w)), (2, .int (nI S.m)), (3, .int (bst (mo_T S.r) (mo_S S.r) S.m S.m)), (4, .int (sk_sum (h_R S.r) S.m)), (5, .int (sk_sum (h_F S.r) S.m)), (6, .int (sk_sum (h_N S.r) S.m)), (7, .int (nI (mo_la S.r S.m))), (8, .int (nI (pls (mo_T S.r) (mo_S S.r) S.m S.m))), (9, .int 1), (10, .int (nI s)), (11, .int (nI (mo_c S.r s))), (12, .int (a_bs S.r s 1)), (13, .int (a_bs S.r s 2)), (14, .int (nI e)), (15, .int (nI (85 + i))), (16, .int (nI (85 + j)))] dL_holds_933 (by decide) rfl ?_
              refine k_iload C 15 dL_holds_935 rfl ?_
              refine k_iconst C (-1) dL_holds_937 (by decide) ?_
              refine k_cne C 961 dL_holds_938 (by decide) (fun _ => ?_) (fun e0 => absurd e0 (nI_m1 (by omega)))
              refine k_iload C 15 dL_holds_961 rfl ?_
              refine k_bipush C 85 dL_holds_963 (by decide) ?_
              refine k_clt C 1011 dL_holds_965 (by decide) (fun e0 => absurd e0 (by rw [show (85 : Int32) = nI 85 from rfl, nI_ltI (by omega) (by omega)]; omega)) (fun _ => ?_)
              refine k_iload C 15 dL_holds_968 rfl ?_
              refine k_bipush C 115 dL_holds_970 (by decide) ?_
              refine k_cgt C 1011 dL_holds_972 (by decide) (fun e0 => absurd e0 (by rw [show (115 : Int32) = nI 115 from rfl, nI_ltI (by omega) (by omega)]; omega)) (fun _ => ?_)
              refine k_aloadn C 0 dL_holds_975 rfl ?_
              refine k_iconst C 2 dL_holds_976 (by decide) ?_
              refine k_iload C 10 dL_holds_977 rfl ?_
              refine k_iconst C 5 dL_holds_979 (by decide) ?_
              refine k_iconst C 0 dL_holds_980 (by decide) ?_
              refine k_ks C hSr hNx (1025) (as := [.ref (sk_ad O k), .int 2, .int (nI s), .int 5, .int 0]) yvL_call vsL_call ml_L_163 (q_Skater l hO hst hJ.1 hk (nI s) 5 0) rfl rfl (Nat.le_of_ble_eq_true rfl) ⟨⟨by decide, by decide⟩, by omega, by show 1025 ≤ 1025; omega, by show 6 * (1025) ≤ 6150; omega⟩ dL_holds_981 (fun x M14 h => ?_)
              obtain ⟨hx, hj⟩ := s_at s0 hs (by decide) h
              rw [sk_5] at hx
              subst hx
              replace hJ := hJ.t hj
              clear hj
              have J992 : ∀ v : Int32, v = (if mo_pl S.r s S.m = 0 then 1 else 0) → sk_W l X O A Q 21 1025 (6 * 1025) M14 992 [(0, .ref (sk_ad O k)), (1, .int (nI w)), (2, .int (nI S.m)), (3, .int (bst (mo_T S.r) (mo_S S.r) S.m S.m)), (4, .int (sk_sum (h_R S.r) S.m)), (5, .int (sk_sum (h_F S.r) S.m)), (6, .int (sk_sum (h_N S.r) S.m)), (7, .int (nI (mo_la S.r S.m))), (8, .int (nI (pls (mo_T S.r) (mo_S S.r) S.m S.m))), (9, .int 1), (10, .int (nI s)), (11, .int (nI (mo_c S.r s))), (12, .int (a_bs S.r s 1)), (13, .int (a_bs S.r s 2)), (14, .int (nI e)), (15, .int (nI (85 + i))), (16, .int (nI (85 + j)))] [.int v] := by
                intro v hvv
                refine k_iload C 15 dL_holds_992 rfl ?_
                refine k_iload C 16 dL_holds_994 rfl ?_
                refine k_cgt C 1003 dL_holds_996 (by decide) (fun hv3 => ?_) (fun hv3 => ?_)
                · skip
                  rw [nI_ltI (by omega) (by omega)] at hv3
                  refine k_iconst C 0 dL_holds_1003 (by decide) ?_
                  refine k_cne C 1011 dL_holds_1004 (by decide) (fun e0 => absurd (by rw [hvv, if_neg (fun z => by have := hq.mp z; omega)]) e0) (fun _ => ?_)
                  refine k_iconst C 1 dL_holds_1007 (by decide) ?_
                  refine k_goto C 1012 dL_holds_1008 (by decide) ?_
                  exact ret _ _ _ _ _ (by decide) dL_holds_1012 rfl ⟨rfl, hJ⟩
                · skip
                  rw [nI_ltI (by omega) (by omega)] at hv3
                  refine k_iconst C 1 dL_holds_999 (by decide) ?_
                  refine k_goto C 1004 dL_holds_1000 (by decide) ?_
                  refine k_cne C 1011 dL_holds_1004 (by decide) (fun e0 => absurd (by rw [hvv, if_pos (hq.mpr (by omega))]) e0) (fun _ => ?_)
                  refine k_iconst C 1 dL_holds_1007 (by decide) ?_
                  refine k_goto C 1012 dL_holds_1008 (by decide) ?_
                  exact ret _ _ _ _ _ (by decide) dL_holds_1012 rfl ⟨rfl, hJ⟩
              refine k_zne C 991 dL_holds_984 (by decide) (fun hv4 => ?_) (fun hv4 => ?_)
              · skip
                refine k_iconst C 0 dL_holds_991 (by decide) ?_
                exact J992 _ (if_neg (fun z => hv4 (by rw [show mo_pl S.r s S.m = 0 from z]; rfl))).symm
              · skip
                refine k_iconst C 1 dL_holds_987 (by decide) ?_
                refine k_goto C 992 dL_holds_988 (by decide) ?_
                exact J992 _ (if_pos ((nI_eq (b := 0) (by omega) (by omega)).mp hv4)).symm
        refine k_cge C 860 dL_holds_823 (by decide) (fun hv1 => ?_) (fun hv1 => ?_)
        · skip
          rw [show (2 : Int32) = nI 2 from rfl, nI_leI (by omega) (by omega)] at hv1
          obtain ⟨i, j, hij, hjc, e1, e2⟩ := a_bs_y hv1 hc12
          refine k_iload C 12 dL_holds_860 rfl ?_
          refine k_zlt C 883 dL_holds_862 (by decide) (fun e0 => absurd e0 (by rw [e1]; exact nI_pos (by omega))) (fun _ => ?_)
          refine k_iload C 12 dL_holds_865 rfl ?_
          refine k_iload C 13 dL_holds_867 rfl ?_
          refine k_cge C 883 dL_holds_869 (by decide) (fun e0 => absurd e0 (by rw [e1, e2, nI_leI (by omega) (by omega)]; omega)) (fun _ => ?_)
          refine k_iload C 13 dL_holds_872 rfl ?_
          refine k_iload C 11 dL_holds_874 rfl ?_
          refine k_cge C 883 dL_holds_876 (by decide) (fun e0 => absurd e0 (by rw [e2, nI_leI (by omega) (by omega)]; omega)) (fun _ => ?_)
          refine k_iconst C 1 dL_holds_879 (by decide) ?_
          refine k_goto C 884 dL_holds_880 (by decide) ?_
          exact k_widen (by omega) (by omega) (J884 _ hJ)
        · skip
          rw [show (2 : Int32) = nI 2 from rfl, nI_leI (by omega) (by omega)] at hv1
          have hb := fun v : Int32 => a_bs_n (r := S.r) (s := s) v (by omega)
          refine k_iload C 12 dL_holds_826 rfl ?_
          refine k_iconst C (-1) dL_holds_828 (by decide) ?_
          refine k_cne C 856 dL_holds_829 (by decide) (fun e0 => absurd (hb _) e0) (fun _ => ?_)
          refine k_iload C 13 dL_holds_832 rfl ?_
          refine k_iconst C (-1) dL_holds_834 (by decide) ?_
          refine k_cne C 856 dL_holds_835 (by decide) (fun e0 => absurd (hb _) e0) (fun _ => ?_)
          refine k_aloadn C 0 dL_holds_838 rfl ?_
          refine k_bipush C 13 dL_holds_839 (by decide) ?_
          refine k_iload C 10 dL_holds_841 rfl ?_
          refine k_iconst C 0 dL_holds_843 (by decide) ?_
          refine k_iconst C 0 dL_holds_844 (by decide) ?_
          refine k_ks C hSr hNx (1022) (as := [.ref (sk_ad O k), .int 13, .int (nI s), .int 0, .int 0]) yvL_call vsL_call ml_L_163 (q_Swap l hO hst hJ.1 hk (nI s) 0 0) rfl rfl (Nat.le_of_ble_eq_true rfl) ⟨⟨by decide, by decide⟩, by omega, by show 1022 ≤ 1025; omega, by show 6 * (1022) ≤ 6150; omega⟩ dL_holds_845 (fun x M15 h => ?_)
          obtain ⟨hx, hj⟩ := w_at s0 hs (by decide) h
          subst hx
          replace hJ := hJ.t hj
          clear hj
          refine k_iconst C (-1) dL_holds_848 (by decide) ?_
          refine k_cne C 856 dL_holds_849 (by decide) (fun e0 => absurd (hb _) e0) (fun _ => ?_)
          refine k_iconst C 1 dL_holds_852 (by decide) ?_
          refine k_goto C 884 dL_holds_853 (by decide) ?_
          exact k_widen (by omega) (by omega) (J884 _ hJ)
    have L618 : ∀ (d s : Nat) (N : sk_M), s + d = S.m → rl_J k M S N → sk_W l X O A Q 21 (1001 + 3 * s) (6 * (1001 + 3 * s)) N 618 [(0, .ref (sk_ad O k)), (1, .int (nI w)), (2, .int (nI S.m)), (3, .int (bst (mo_T S.r) (mo_S S.r) S.m S.m)), (4, .int (sk_sum (h_R S.r) S.m)), (5, .int (sk_sum (h_F S.r) S.m)), (6, .int (sk_sum (h_N S.r) S.m)), (7, .int (nI (mo_la S.r S.m))), (8, .int (nI (pls (mo_T S.r) (mo_S S.r) S.m S.m))), (9, .int 1), (10, .int (nI s))] [] := by
      intro d
      induction d with
      | zero =>
        intro s N hd hJ
        obtain rfl : s = S.m := by omega
        refine k_iload C 10 dL_holds_618 rfl ?_
        refine k_iloadn C 2 dL_holds_620 rfl ?_
        refine k_cge C 682 dL_holds_621 (by decide) (fun _ => ?_) (fun e0 => absurd (Int32.le_refl _) e0)
        exact k_widen (by omega) (by omega) (F682 N hJ)
      | succ d ih =>
        intro s N hd hJ
        have hs : s < S.m := by omega
        have hwl := mo_w_lt (T := mo_T S.r) (S := mo_S S.r) S.m (by omega)
        have hbw : bst (mo_T S.r) (mo_S S.r) S.m S.m = nI (mo_w (mo_T S.r) (mo_S S.r) S.m) := if_pos hwl
        rw [hbw] at ih ⊢
        refine k_iload C 10 dL_holds_618 rfl ?_
        refine k_iloadn C 2 dL_holds_620 rfl ?_
        refine k_cge C 682 dL_holds_621 (by decide) (fun e0 => absurd e0 (by rw [nI_leI (by omega) (by omega)]; omega)) (fun _ => ?_)
        refine k_iload C 9 dL_holds_624 rfl ?_
        refine k_zeq C 682 dL_holds_626 (by decide) (fun e0 => absurd e0 (by decide)) (fun _ => ?_)
        refine k_aloadn C 0 dL_holds_629 rfl ?_
        refine k_bipush C 15 dL_holds_630 (by decide) ?_
        refine k_iload C 10 dL_holds_632 rfl ?_
        refine k_iconst C 0 dL_holds_634 (by decide) ?_
        refine k_iconst C 0 dL_holds_635 (by decide) ?_
        refine k_ks C hSr hNx (1001 + 3 * s + 1) (as := [.ref (sk_ad O k), .int 15, .int (nI s), .int 0, .int 0]) yvL_call vsL_call ml_L_163 (q_Behind l hO hst hJ.1 hk (nI s) 0 0) rfl rfl (Nat.le_of_ble_eq_true rfl) ⟨⟨by decide, by decide⟩, by omega, by show 1001 + 3 * s + 1 ≤ 1025; omega, by show 6 * (1001 + 3 * s + 1) ≤ 6150; omega⟩ dL_holds_636 (fun x M16 h => ?_)
        obtain ⟨hx, hj⟩ := b_at s0 hs h
        subst hx
        replace hJ := hJ.t hj
        clear hj
        refine k_istore C [1, 2, 3, 4, 5, 6, 7, 8, 9, 10, 11, 0] [(0, .ref (sk_ad O k)), (1, .int (nI w)), (2, .int (nI S.m)), (3, .int (nI (mo_w (mo_T S.r) (mo_S S.r) S.m))), (4, .int (sk_sum (h_R S.r) S.m)), (5, .int (sk_sum (h_F S.r) S.m)), (6, .int (sk_sum (h_N S.r) S.m)), (7, .int (nI (mo_la S.r S.m))), (8, .int (nI (pls (mo_T S.r) (mo_S S.r) S.m S.m))), (9, .int 1), (10, .int (nI s)), (11, .int (mo_T S.r (mo_w (mo_T S.r) (mo_S S.r) S.m) - mo_T S.r s))] dL_holds_639 (by decide) rfl ?_
        refine k_iload C 11 dL_holds_641 rfl ?_
        refine k_zlt C 673 dL_holds_643 (by decide) (fun e0 => absurd e0 (bh_0 hg hs)) (fun _ => ?_)
        refine k_iload C 11 dL_holds_646 rfl ?_
        refine k_aloadn C 0 dL_holds_648 rfl ?_
        refine k_iconst C 2 dL_holds_649 (by decide) ?_
        refine k_iloadn C 3 dL_holds_650 rfl ?_
        refine k_iconst C 4 dL_holds_651 (by decide) ?_
        refine k_iconst C 0 dL_holds_652 (by decide) ?_
        refine k_ks C hSr hNx (1001 + 3 * s + 2) (as := [.ref (sk_ad O k), .int 2, .int (nI (mo_w (mo_T S.r) (mo_S S.r) S.m)), .int 4, .int 0]) yvL_call vsL_call ml_L_163 (q_Skater l hO hst hJ.1 hk (nI (mo_w (mo_T S.r) (mo_S S.r) S.m)) 4 0) rfl rfl (Nat.le_of_ble_eq_true rfl) ⟨⟨by decide, by decide⟩, by omega, by show 1001 + 3 * s + 2 ≤ 1025; omega, by show 6 * (1001 + 3 * s + 2) ≤ 6150; omega⟩ dL_holds_653 (fun x M17 h => ?_)
        obtain ⟨hx, hj⟩ := s_at s0 hwl (by decide) h
        rw [sk_4] at hx
        subst hx
        replace hJ := hJ.t hj
        clear hj
        refine k_aloadn C 0 dL_holds_656 rfl ?_
        refine k_iconst C 2 dL_holds_657 (by decide) ?_
        refine k_iload C 10 dL_holds_658 rfl ?_
        refine k_iconst C 4 dL_holds_660 (by decide) ?_
        refine k_iconst C 0 dL_holds_661 (by decide) ?_
        refine k_ks C hSr hNx (1001 + 3 * s + 3) (as := [.ref (sk_ad O k), .int 2, .int (nI s), .int 4, .int 0]) yvL_call vsL_call ml_L_163 (q_Skater l hO hst hJ.1 hk (nI s) 4 0) rfl rfl (Nat.le_of_ble_eq_true rfl) ⟨⟨by decide, by decide⟩, by omega, by show 1001 + 3 * s + 3 ≤ 1025; omega, by show 6 * (1001 + 3 * s + 3) ≤ 6150; omega⟩ dL_holds_662 (fun x M18 h => ?_)
        obtain ⟨hx, hj⟩ := s_at s0 hs (by decide) h
        rw [sk_4] at hx
        subst hx
        replace hJ := hJ.t hj
        clear hj
        refine k_isub C dL_holds_665 ?_
        refine k_cne C 673 dL_holds_666 (by decide) (fun e0 => absurd rfl e0) (fun _ => ?_)
        refine k_iconst C 1 dL_holds_669 (by decide) ?_
        refine k_goto C 674 dL_holds_670 (by decide) ?_
        refine k_istore C [1, 2, 3, 4, 5, 6, 7, 8, 9, 0, 10, 11] [(0, .ref (sk_ad O k)), (1, .int (nI w)), (2, .int (nI S.m)), (3, .int (nI (mo_w (mo_T S.r) (mo_S S.r) S.m))), (4, .int (sk_sum (h_R S.r) S.m)), (5, .int (sk_sum (h_F S.r) S.m)), (6, .int (sk_sum (h_N S.r) S.m)), (7, .int (nI (mo_la S.r S.m))), (8, .int (nI (pls (mo_T S.r) (mo_S S.r) S.m S.m))), (9, .int 1), (10, .int (nI s)), (11, .int (mo_T S.r (mo_w (mo_T S.r) (mo_S S.r) S.m) - mo_T S.r s))] dL_holds_674 (by decide) rfl ?_
        refine k_iinc C 10 (nI (s + 1)) [1, 2, 3, 4, 5, 6, 7, 8, 9, 10, 0, 11] [(0, .ref (sk_ad O k)), (1, .int (nI w)), (2, .int (nI S.m)), (3, .int (nI (mo_w (mo_T S.r) (mo_S S.r) S.m))), (4, .int (sk_sum (h_R S.r) S.m)), (5, .int (sk_sum (h_F S.r) S.m)), (6, .int (sk_sum (h_N S.r) S.m)), (7, .int (nI (mo_la S.r S.m))), (8, .int (nI (pls (mo_T S.r) (mo_S S.r) S.m S.m))), (9, .int 1), (10, .int (nI (s + 1))), (11, .int (mo_T S.r (mo_w (mo_T S.r) (mo_S S.r) S.m) - mo_T S.r s))] dL_holds_676 rfl (nI_add _ 1) (by decide) rfl ?_
        refine k_goto C 618 dL_holds_679 (by decide) ?_
        refine k_sub [0, 1, 2, 3, 4, 5, 6, 7, 8, 9, 10] (lv' := [(0, .ref (sk_ad O k)), (1, .int (nI w)), (2, .int (nI S.m)), (3, .int (nI (mo_w (mo_T S.r) (mo_S S.r) S.m))), (4, .int (sk_sum (h_R S.r) S.m)), (5, .int (sk_sum (h_F S.r) S.m)), (6, .int (sk_sum (h_N S.r) S.m)), (7, .int (nI (mo_la S.r S.m))), (8, .int (nI (pls (mo_T S.r) (mo_S S.r) S.m S.m))), (9, .int 1), (10, .int (nI (s + 1)))]) rfl ?_
        exact ih (s + 1) _ (by omega) hJ
    refine k_iconst C 0 dL_holds_615 (by decide) ?_
    refine k_istore C [1, 2, 3, 4, 5, 6, 7, 8, 9, 10, 0] [(0, .ref (sk_ad O k)), (1, .int (nI w)), (2, .int (nI S.m)), (3, .int (bst (mo_T S.r) (mo_S S.r) S.m S.m)), (4, .int (sk_sum (h_R S.r) S.m)), (5, .int (sk_sum (h_F S.r) S.m)), (6, .int (sk_sum (h_N S.r) S.m)), (7, .int (nI (mo_la S.r S.m))), (8, .int (nI (pls (mo_T S.r) (mo_S S.r) S.m S.m))), (9, .int 1), (10, .int 0)] dL_holds_616 (by decide) rfl ?_
    exact L618 S.m 0 N (by omega) hJ
  have L32 : ∀ (d s : Nat) (N : sk_M), s + d = S.m → rl_J k M S N → sk_W l X O A Q 21 (1 + 250 * s) (6 * (1 + 250 * s)) N 32 [(0, .ref (sk_ad O k)), (1, .int (nI w)), (2, .int (nI S.m)), (3, .int (bst (mo_T S.r) (mo_S S.r) S.m s)), (4, .int (sk_sum (h_R S.r) s)), (5, .int (sk_sum (h_F S.r) s)), (6, .int (sk_sum (h_N S.r) s)), (7, .int (nI (mo_la S.r s))), (8, .int (nI (pls (mo_T S.r) (mo_S S.r) S.m s))), (9, .int 1), (10, .int (nI s))] [] := by
    intro d
    induction d with
    | zero =>
      intro s N hd hJ
      obtain rfl : s = S.m := by omega
      refine k_iload C 10 dL_holds_32 rfl ?_
      refine k_iloadn C 2 dL_holds_34 rfl ?_
      refine k_cge C 615 dL_holds_35 (by decide) (fun _ => ?_) (fun e0 => absurd (Int32.le_refl _) e0)
      exact F618 N hJ
    | succ d ih =>
      intro s N hd hJ
      have hs : s < S.m := by omega
      have hc12 := (s0.2.2 s hs).2.1
      refine k_iload C 10 dL_holds_32 rfl ?_
      refine k_iloadn C 2 dL_holds_34 rfl ?_
      refine k_cge C 615 dL_holds_35 (by decide) (fun e0 => absurd e0 (by rw [nI_leI (by omega) (by omega)]; omega)) (fun _ => ?_)
      refine k_iload C 9 dL_holds_38 rfl ?_
      refine k_zeq C 615 dL_holds_40 (by decide) (fun e0 => absurd e0 (by decide)) (fun _ => ?_)
      refine k_aloadn C 0 dL_holds_43 rfl ?_
      refine k_iconst C 2 dL_holds_44 (by decide) ?_
      refine k_iload C 10 dL_holds_45 rfl ?_
      refine k_iconst C 0 dL_holds_47 (by decide) ?_
      refine k_iconst C 0 dL_holds_48 (by decide) ?_
      refine k_ks C hSr hNx (1 + 250 * s + 1) (as := [.ref (sk_ad O k), .int 2, .int (nI s), .int 0, .int 0]) yvL_call vsL_call ml_L_163 (q_Skater l hO hst hJ.1 hk (nI s) 0 0) rfl rfl (Nat.le_of_ble_eq_true rfl) ⟨⟨by decide, by decide⟩, by omega, by show 1 + 250 * s + 1 ≤ 1025; omega, by show 6 * (1 + 250 * s + 1) ≤ 6150; omega⟩ dL_holds_49 (fun x M19 h => ?_)
      obtain ⟨hx, hj⟩ := s_at s0 hs (by decide) h
      rw [sk_0, (s0.2.2 _ hs).1] at hx
      subst hx
      replace hJ := hJ.t hj
      clear hj
      refine k_istore C [1, 2, 3, 4, 5, 6, 7, 8, 9, 10, 11, 0] [(0, .ref (sk_ad O k)), (1, .int (nI w)), (2, .int (nI S.m)), (3, .int (bst (mo_T S.r) (mo_S S.r) S.m s)), (4, .int (sk_sum (h_R S.r) s)), (5, .int (sk_sum (h_F S.r) s)), (6, .int (sk_sum (h_N S.r) s)), (7, .int (nI (mo_la S.r s))), (8, .int (nI (pls (mo_T S.r) (mo_S S.r) S.m s))), (9, .int 1), (10, .int (nI s)), (11, .int (nI (mo_c S.r s)))] dL_holds_52 (by decide) rfl ?_
      refine k_iconst C 0 dL_holds_54 (by decide) ?_
      refine k_istore C [1, 2, 3, 4, 5, 6, 7, 8, 9, 10, 11, 12, 0] [(0, .ref (sk_ad O k)), (1, .int (nI w)), (2, .int (nI S.m)), (3, .int (bst (mo_T S.r) (mo_S S.r) S.m s)), (4, .int (sk_sum (h_R S.r) s)), (5, .int (sk_sum (h_F S.r) s)), (6, .int (sk_sum (h_N S.r) s)), (7, .int (nI (mo_la S.r s))), (8, .int (nI (pls (mo_T S.r) (mo_S S.r) S.m s))), (9, .int 1), (10, .int (nI s)), (11, .int (nI (mo_c S.r s))), (12, .int 0)] dL_holds_55 (by decide) rfl ?_
      refine k_iconst C 0 dL_holds_57 (by decide) ?_
      refine k_istore C [1, 2, 3, 4, 5, 6, 7, 8, 9, 10, 11, 12, 13, 0] [(0, .ref (sk_ad O k)), (1, .int (nI w)), (2, .int (nI S.m)), (3, .int (bst (mo_T S.r) (mo_S S.r) S.m s)), (4, .int (sk_sum (h_R S.r) s)), (5, .int (sk_sum (h_F S.r) s)), (6, .int (sk_sum (h_N S.r) s)), (7, .int (nI (mo_la S.r s))), (8, .int (nI (pls (mo_T S.r) (mo_S S.r) S.m s))), (9, .int 1), (10, .int (nI s)), (11, .int (nI (mo_c S.r s))), (12, .int 0), (13, .int 0)] dL_holds_58 (by decide) rfl ?_
      refine k_iconst C 0 dL_holds_60 (by decide) ?_
      refine k_istore C [1, 2, 3, 4, 5, 6, 7, 8, 9, 10, 11, 12, 13, 14, 0] [(0, .ref (sk_ad O k)), (1, .int (nI w)), (2, .int (nI S.m)), (3, .int (bst (mo_T S.r) (mo_S S.r) S.m s)), (4, .int (sk_sum (h_R S.r) s)), (5, .int (sk_sum (h_F S.r) s)), (6, .int (sk_sum (h_N S.r) s)), (7, .int (nI (mo_la S.r s))), (8, .int (nI (pls (mo_T S.r) (mo_S S.r) S.m s))), (9, .int 1), (10, .int (nI s)), (11, .int (nI (mo_c S.r s))), (12, .int 0), (13, .int 0), (14, .int 0)] dL_holds_61 (by decide) rfl ?_
      have F468 : ∀ N : sk_M, rl_J k M S N → sk_W l X O A Q 21 (1 + 250 * s + 1 + 20 * mo_c S.r s) (6 * (1 + 250 * s + 1 + 20 * mo_c S.r s)) N 468 [(0, .ref (sk_ad O k)), (1, .int (nI w)), (2, .int (nI S.m)), (3, .int (bst (mo_T S.r) (mo_S S.r) S.m s)), (4, .int (sk_acc (sk_sum (h_R S.r) s) (h_rv S.r s) (mo_c S.r s))), (5, .int (sk_sum (h_F S.r) s)), (6, .int (sk_sum (h_N S.r) s)), (7, .int (nI (mo_la S.r s + mo_lq S.r s (mo_c S.r s)))), (8, .int (nI (pls (mo_T S.r) (mo_S S.r) S.m s))), (9, .int 1), (10, .int (nI s)), (11, .int (nI (mo_c S.r s))), (12, .int (mo_te S.r s (mo_c S.r s))), (13, .int (sk_sum (h_fl S.r s) (mo_c S.r s))), (14, .int (nI (mo_c S.r s)))] [] := by
        intro N hJ
        refine k_widen (k := 1 + 250 * s + 241) (n := 6 * (1 + 250 * s + 241)) (by omega) (by omega) ?_
        rw [show sk_acc (sk_sum (h_R S.r) s) (h_rv S.r s) (mo_c S.r s) = sk_sum (h_R S.r) (s + 1) from sk_acc_e _]
        show sk_W l X O A Q 21 (1 + 250 * s + 241) (6 * (1 + 250 * s + 241)) N 468 [(0, .ref (sk_ad O k)), (1, .int (nI w)), (2, .int (nI S.m)), (3, .int (bst (mo_T S.r) (mo_S S.r) S.m s)), (4, .int (sk_sum (h_R S.r) (s + 1))), (5, .int (sk_sum (h_F S.r) s)), (6, .int (sk_sum (h_N S.r) s)), (7, .int (nI (mo_la S.r (s + 1)))), (8, .int (nI (pls (mo_T S.r) (mo_S S.r) S.m s))), (9, .int 1), (10, .int (nI s)), (11, .int (nI (mo_c S.r s))), (12, .int (mo_te S.r s (mo_c S.r s))), (13, .int (sk_sum (h_fl S.r s) (mo_c S.r s))), (14, .int (nI (mo_c S.r s)))] []
        refine k_iload C 6 dL_holds_468 rfl ?_
        refine k_iload C 11 dL_holds_470 rfl ?_
        refine k_iadd C dL_holds_472 ?_
        refine k_top (sk_sum (h_N S.r) (s + 1)) (by show _ = sk_sum (h_N S.r) s + S.r (6 + 233 * s); rw [(s0.2.2 s hs).1]) ?_
        refine k_istore C [1, 2, 3, 4, 5, 6, 0, 7, 8, 9, 10, 11, 12, 13, 14] [(0, .ref (sk_ad O k)), (1, .int (nI w)), (2, .int (nI S.m)), (3, .int (bst (mo_T S.r) (mo_S S.r) S.m s)), (4, .int (sk_sum (h_R S.r) (s + 1))), (5, .int (sk_sum (h_F S.r) s)), (6, .int (sk_sum (h_N S.r) (s + 1))), (7, .int (nI (mo_la S.r (s + 1)))), (8, .int (nI (pls (mo_T S.r) (mo_S S.r) S.m s))), (9, .int 1), (10, .int (nI s)), (11, .int (nI (mo_c S.r s))), (12, .int (mo_te S.r s (mo_c S.r s))), (13, .int (sk_sum (h_fl S.r s) (mo_c S.r s))), (14, .int (nI (mo_c S.r s)))] dL_holds_473 (by decide) rfl ?_
        refine k_iload C 5 dL_holds_475 rfl ?_
        refine k_iload C 13 dL_holds_477 rfl ?_
        refine k_iadd C dL_holds_479 ?_
        refine k_top (sk_sum (h_F S.r) (s + 1)) (rfl) ?_
        refine k_istore C [1, 2, 3, 4, 5, 0, 6, 7, 8, 9, 10, 11, 12, 13, 14] [(0, .ref (sk_ad O k)), (1, .int (nI w)), (2, .int (nI S.m)), (3, .int (bst (mo_T S.r) (mo_S S.r) S.m s)), (4, .int (sk_sum (h_R S.r) (s + 1))), (5, .int (sk_sum (h_F S.r) (s + 1))), (6, .int (sk_sum (h_N S.r) (s + 1))), (7, .int (nI (mo_la S.r (s + 1)))), (8, .int (nI (pls (mo_T S.r) (mo_S S.r) S.m s))), (9, .int 1), (10, .int (nI s)), (11, .int (nI (mo_c S.r s))), (12, .int (mo_te S.r s (mo_c S.r s))), (13, .int (sk_sum (h_fl S.r s) (mo_c S.r s))), (14, .int (nI (mo_c S.r s)))] dL_holds_480 (by decide) rfl ?_
        refine k_iload C 8 dL_holds_482 rfl ?_
        refine k_iconst C 1 dL_holds_484 (by decide) ?_
        refine k_aloadn C 0 dL_holds_485 rfl ?_
        refine k_iconst C 2 dL_holds_486 (by decide) ?_
        refine k_iload C 10 dL_holds_487 rfl ?_
        refine k_iconst C 5 dL_holds_489 (by decide) ?_
        refine k_iconst C 0 dL_holds_490 (by decide) ?_
        refine k_ks C hSr hNx (1 + 250 * s + 241 + 1) (as := [.ref (sk_ad O k), .int 2, .int (nI s), .int 5, .int 0]) yvL_call vsL_call ml_L_163 (q_Skater l hO hst hJ.1 hk (nI s) 5 0) rfl rfl (Nat.le_of_ble_eq_true rfl) ⟨⟨by decide, by decide⟩, by omega, by show 1 + 250 * s + 241 + 1 ≤ 1025; omega, by show 6 * (1 + 250 * s + 241 + 1) ≤ 6150; omega⟩ dL_holds_491 (fun x M20 h => ?_)
        obtain ⟨hx, hj⟩ := s_at s0 hs (by decide) h
        rw [sk_5] at hx
        subst hx
        replace hJ := hJ.t hj
        clear hj
        refine k_ishl C dL_holds_494 ?_
        refine k_iadd C dL_holds_495 ?_
        refine k_top (nI (pls (mo_T S.r) (mo_S S.r) S.m (s + 1))) (by rw [shl_n _ (by have : mo_pl S.r s S.m < S.m := mp_c_lt hs; omega), nI_add]; rfl) ?_
        refine k_istore C [1, 2, 3, 4, 5, 6, 7, 8, 0, 9, 10, 11, 12, 13, 14] [(0, .ref (sk_ad O k)), (1, .int (nI w)), (2, .int (nI S.m)), (3, .int (bst (mo_T S.r) (mo_S S.r) S.m s)), (4, .int (sk_sum (h_R S.r) (s + 1))), (5, .int (sk_sum (h_F S.r) (s + 1))), (6, .int (sk_sum (h_N S.r) (s + 1))), (7, .int (nI (mo_la S.r (s + 1)))), (8, .int (nI (pls (mo_T S.r) (mo_S S.r) S.m (s + 1)))), (9, .int 1), (10, .int (nI s)), (11, .int (nI (mo_c S.r s))), (12, .int (mo_te S.r s (mo_c S.r s))), (13, .int (sk_sum (h_fl S.r s) (mo_c S.r s))), (14, .int (nI (mo_c S.r s)))] dL_holds_496 (by decide) rfl ?_
        refine k_aloadn C 0 dL_holds_498 rfl ?_
        refine k_iconst C 2 dL_holds_499 (by decide) ?_
        refine k_iload C 10 dL_holds_500 rfl ?_
        refine k_iconst C 5 dL_holds_502 (by decide) ?_
        refine k_iconst C 0 dL_holds_503 (by decide) ?_
        refine k_ks C hSr hNx (1 + 250 * s + 241 + 2) (as := [.ref (sk_ad O k), .int 2, .int (nI s), .int 5, .int 0]) yvL_call vsL_call ml_L_163 (q_Skater l hO hst hJ.1 hk (nI s) 5 0) rfl rfl (Nat.le_of_ble_eq_true rfl) ⟨⟨by decide, by decide⟩, by omega, by show 1 + 250 * s + 241 + 2 ≤ 1025; omega, by show 6 * (1 + 250 * s + 241 + 2) ≤ 6150; omega⟩ dL_holds_504 (fun x M21 h => ?_)
        obtain ⟨hx, hj⟩ := s_at s0 hs (by decide) h
        rw [sk_5] at hx
        subst hx
        replace hJ := hJ.t hj
        clear hj
        have J516 : sk_W l X O A Q 21 (1 + 250 * s + 241 + 2) (6 * (1 + 250 * s + 241 + 2)) M21 516 [(0, .ref (sk_ad O k)), (1, .int (nI w)), (2, .int (nI S.m)), (3, .int (bst (mo_T S.r) (mo_S S.r) S.m s)), (4, .int (sk_sum (h_R S.r) (s + 1))), (5, .int (sk_sum (h_F S.r) (s + 1))), (6, .int (sk_sum (h_N S.r) (s + 1))), (7, .int (nI (mo_la S.r (s + 1)))), (8, .int (nI (pls (mo_T S.r) (mo_S S.r) S.m (s + 1)))), (9, .int 1), (10, .int (nI s)), (11, .int (nI (mo_c S.r s))), (12, .int (mo_te S.r s (mo_c S.r s))), (13, .int (sk_sum (h_fl S.r s) (mo_c S.r s))), (14, .int (nI (mo_c S.r s)))] [.int (bst (mo_T S.r) (mo_S S.r) S.m (s + 1))] := by
          refine k_istoren C [1, 2, 3, 0, 4, 5, 6, 7, 8, 9, 10, 11, 12, 13, 14] [(0, .ref (sk_ad O k)), (1, .int (nI w)), (2, .int (nI S.m)), (3, .int (bst (mo_T S.r) (mo_S S.r) S.m (s + 1))), (4, .int (sk_sum (h_R S.r) (s + 1))), (5, .int (sk_sum (h_F S.r) (s + 1))), (6, .int (sk_sum (h_N S.r) (s + 1))), (7, .int (nI (mo_la S.r (s + 1)))), (8, .int (nI (pls (mo_T S.r) (mo_S S.r) S.m (s + 1)))), (9, .int 1), (10, .int (nI s)), (11, .int (nI (mo_c S.r s))), (12, .int (mo_te S.r s (mo_c S.r s))), (13, .int (sk_sum (h_fl S.r s) (mo_c S.r s))), (14, .int (nI (mo_c S.r s)))] dL_holds_516 (by decide) rfl ?_
          refine k_iload C 9 dL_holds_517 rfl ?_
          refine k_zeq C 606 dL_holds_519 (by decide) (fun e0 => absurd e0 (by decide)) (fun _ => ?_)
          refine k_aloadn C 0 dL_holds_522 rfl ?_
          refine k_iconst C 2 dL_holds_523 (by decide) ?_
          refine k_iload C 10 dL_holds_524 rfl ?_
          refine k_iconst C 1 dL_holds_526 (by decide) ?_
          refine k_iconst C 0 dL_holds_527 (by decide) ?_
          refine k_ks C hSr hNx (1 + 250 * s + 241 + 3) (as := [.ref (sk_ad O k), .int 2, .int (nI s), .int 1, .int 0]) yvL_call vsL_call ml_L_163 (q_Skater l hO hst hJ.1 hk (nI s) 1 0) rfl rfl (Nat.le_of_ble_eq_true rfl) ⟨⟨by decide, by decide⟩, by omega, by show 1 + 250 * s + 241 + 3 ≤ 1025; omega, by show 6 * (1 + 250 * s + 241 + 3) ≤ 6150; omega⟩ dL_holds_528 (fun x M22 h => ?_)
          obtain ⟨hx, hj⟩ := s_at s0 hs (by decide) h
          rw [sk_1] at hx
          subst hx
          replace hJ := hJ.t hj
          clear hj
          refine k_iload C 12 dL_holds_531 rfl ?_
          refine k_cne C 606 dL_holds_533 (by decide) (fun e0 => absurd rfl e0) (fun _ => ?_)
          refine k_aloadn C 0 dL_holds_536 rfl ?_
          refine k_iconst C 2 dL_holds_537 (by decide) ?_
          refine k_iload C 10 dL_holds_538 rfl ?_
          refine k_bipush C 6 dL_holds_540 (by decide) ?_
          refine k_iconst C 0 dL_holds_542 (by decide) ?_
          refine k_ks C hSr hNx (1 + 250 * s + 241 + 4) (as := [.ref (sk_ad O k), .int 2, .int (nI s), .int 6, .int 0]) yvL_call vsL_call ml_L_163 (q_Skater l hO hst hJ.1 hk (nI s) 6 0) rfl rfl (Nat.le_of_ble_eq_true rfl) ⟨⟨by decide, by decide⟩, by omega, by show 1 + 250 * s + 241 + 4 ≤ 1025; omega, by show 6 * (1 + 250 * s + 241 + 4) ≤ 6150; omega⟩ dL_holds_543 (fun x M23 h => ?_)
          obtain ⟨hx, hj⟩ := s_at s0 hs (by decide) h
          rw [sk_6] at hx
          subst hx
          replace hJ := hJ.t hj
          clear hj
          refine k_iload C 13 dL_holds_546 rfl ?_
          refine k_cne C 606 dL_holds_548 (by decide) (fun e0 => absurd rfl e0) (fun _ => ?_)
          refine k_aloadn C 0 dL_holds_551 rfl ?_
          refine k_iconst C 2 dL_holds_552 (by decide) ?_
          refine k_iload C 10 dL_holds_553 rfl ?_
          refine k_iconst C 3 dL_holds_555 (by decide) ?_
          refine k_iconst C 0 dL_holds_556 (by decide) ?_
          refine k_ks C hSr hNx (1 + 250 * s + 241 + 5) (as := [.ref (sk_ad O k), .int 2, .int (nI s), .int 3, .int 0]) yvL_call vsL_call ml_L_163 (q_Skater l hO hst hJ.1 hk (nI s) 3 0) rfl rfl (Nat.le_of_ble_eq_true rfl) ⟨⟨by decide, by decide⟩, by omega, by show 1 + 250 * s + 241 + 5 ≤ 1025; omega, by show 6 * (1 + 250 * s + 241 + 5) ≤ 6150; omega⟩ dL_holds_557 (fun x M24 h => ?_)
          obtain ⟨hx, hj⟩ := s_at s0 hs (by decide) h
          rw [sk_3] at hx
          subst hx
          replace hJ := hJ.t hj
          clear hj
          refine k_bipush C 100 dL_holds_560 (by decide) ?_
          refine k_iload C 13 dL_holds_562 rfl ?_
          refine k_imul C dL_holds_564 ?_
          obtain ⟨hcc, ⟨pp, hp9, ep⟩, -, hff⟩ := hg.1.2.2.2 s hs
          obtain ⟨ff, hf12, ef1, ef2⟩ := of_n ep hff _ (Nat.le_refl _)
          refine k_clt C 606 dL_holds_565 (by decide) (fun e0 => absurd e0 (by rw [ef2, show sk_sum (h_fl S.r s) (mo_c S.r s) = nI ff from ef1, show (100 : Int32) * nI ff = nI (100 * ff) from sk_nmul (a := 100) rfl rfl, nI_ltI (by omega) (by omega)]; omega)) (fun _ => ?_)
          refine k_aloadn C 0 dL_holds_568 rfl ?_
          refine k_iconst C 2 dL_holds_569 (by decide) ?_
          refine k_iload C 10 dL_holds_570 rfl ?_
          refine k_iconst C 4 dL_holds_572 (by decide) ?_
          refine k_iconst C 0 dL_holds_573 (by decide) ?_
          refine k_ks C hSr hNx (1 + 250 * s + 241 + 6) (as := [.ref (sk_ad O k), .int 2, .int (nI s), .int 4, .int 0]) yvL_call vsL_call ml_L_163 (q_Skater l hO hst hJ.1 hk (nI s) 4 0) rfl rfl (Nat.le_of_ble_eq_true rfl) ⟨⟨by decide, by decide⟩, by omega, by show 1 + 250 * s + 241 + 6 ≤ 1025; omega, by show 6 * (1 + 250 * s + 241 + 6) ≤ 6150; omega⟩ dL_holds_574 (fun x M25 h => ?_)
          obtain ⟨hx, hj⟩ := s_at s0 hs (by decide) h
          rw [sk_4] at hx
          subst hx
          replace hJ := hJ.t hj
          clear hj
          refine k_iload C 12 dL_holds_577 rfl ?_
          refine k_aloadn C 0 dL_holds_579 rfl ?_
          refine k_iconst C 2 dL_holds_580 (by decide) ?_
          refine k_iload C 10 dL_holds_581 rfl ?_
          refine k_iconst C 2 dL_holds_583 (by decide) ?_
          refine k_iconst C 0 dL_holds_584 (by decide) ?_
          refine k_ks C hSr hNx (1 + 250 * s + 241 + 7) (as := [.ref (sk_ad O k), .int 2, .int (nI s), .int 2, .int 0]) yvL_call vsL_call ml_L_163 (q_Skater l hO hst hJ.1 hk (nI s) 2 0) rfl rfl (Nat.le_of_ble_eq_true rfl) ⟨⟨by decide, by decide⟩, by omega, by show 1 + 250 * s + 241 + 7 ≤ 1025; omega, by show 6 * (1 + 250 * s + 241 + 7) ≤ 6150; omega⟩ dL_holds_585 (fun x M26 h => ?_)
          obtain ⟨hx, hj⟩ := s_at s0 hs (by decide) h
          rw [sk_2] at hx
          subst hx
          replace hJ := hJ.t hj
          clear hj
          refine k_iadd C dL_holds_588 ?_
          refine k_aloadn C 0 dL_holds_589 rfl ?_
          refine k_iconst C 2 dL_holds_590 (by decide) ?_
          refine k_iload C 10 dL_holds_591 rfl ?_
          refine k_iconst C 3 dL_holds_593 (by decide) ?_
          refine k_iconst C 0 dL_holds_594 (by decide) ?_
          refine k_ks C hSr hNx (1 + 250 * s + 241 + 8) (as := [.ref (sk_ad O k), .int 2, .int (nI s), .int 3, .int 0]) yvL_call vsL_call ml_L_163 (q_Skater l hO hst hJ.1 hk (nI s) 3 0) rfl rfl (Nat.le_of_ble_eq_true rfl) ⟨⟨by decide, by decide⟩, by omega, by show 1 + 250 * s + 241 + 8 ≤ 1025; omega, by show 6 * (1 + 250 * s + 241 + 8) ≤ 6150; omega⟩ dL_holds_595 (fun x M27 h => ?_)
          obtain ⟨hx, hj⟩ := s_at s0 hs (by decide) h
          rw [sk_3] at hx
          subst hx
          replace hJ := hJ.t hj
          clear hj
          refine k_isub C dL_holds_598 ?_
          refine k_cne C 606 dL_holds_599 (by decide) (fun e0 => absurd rfl e0) (fun _ => ?_)
          refine k_iconst C 1 dL_holds_602 (by decide) ?_
          refine k_goto C 607 dL_holds_603 (by decide) ?_
          refine k_istore C [1, 2, 3, 4, 5, 6, 7, 8, 9, 0, 10, 11, 12, 13, 14] [(0, .ref (sk_ad O k)), (1, .int (nI w)), (2, .int (nI S.m)), (3, .int (bst (mo_T S.r) (mo_S S.r) S.m (s + 1))), (4, .int (sk_sum (h_R S.r) (s + 1))), (5, .int (sk_sum (h_F S.r) (s + 1))), (6, .int (sk_sum (h_N S.r) (s + 1))), (7, .int (nI (mo_la S.r (s + 1)))), (8, .int (nI (pls (mo_T S.r) (mo_S S.r) S.m (s + 1)))), (9, .int 1), (10, .int (nI s)), (11, .int (nI (mo_c S.r s))), (12, .int (mo_te S.r s (mo_c S.r s))), (13, .int (sk_sum (h_fl S.r s) (mo_c S.r s))), (14, .int (nI (mo_c S.r s)))] dL_holds_607 (by decide) rfl ?_
          refine k_iinc C 10 (nI (s + 1)) [1, 2, 3, 4, 5, 6, 7, 8, 9, 10, 0, 11, 12, 13, 14] [(0, .ref (sk_ad O k)), (1, .int (nI w)), (2, .int (nI S.m)), (3, .int (bst (mo_T S.r) (mo_S S.r) S.m (s + 1))), (4, .int (sk_sum (h_R S.r) (s + 1))), (5, .int (sk_sum (h_F S.r) (s + 1))), (6, .int (sk_sum (h_N S.r) (s + 1))), (7, .int (nI (mo_la S.r (s + 1)))), (8, .int (nI (pls (mo_T S.r) (mo_S S.r) S.m (s + 1)))), (9, .int 1), (10, .int (nI (s + 1))), (11, .int (nI (mo_c S.r s))), (12, .int (mo_te S.r s (mo_c S.r s))), (13, .int (sk_sum (h_fl S.r s) (mo_c S.r s))), (14, .int (nI (mo_c S.r s)))] dL_holds_609 rfl (nI_add _ 1) (by decide) rfl ?_
          refine k_goto C 32 dL_holds_612 (by decide) ?_
          refine k_sub [0, 1, 2, 3, 4, 5, 6, 7, 8, 9, 10] (lv' := [(0, .ref (sk_ad O k)), (1, .int (nI w)), (2, .int (nI S.m)), (3, .int (bst (mo_T S.r) (mo_S S.r) S.m (s + 1))), (4, .int (sk_sum (h_R S.r) (s + 1))), (5, .int (sk_sum (h_F S.r) (s + 1))), (6, .int (sk_sum (h_N S.r) (s + 1))), (7, .int (nI (mo_la S.r (s + 1)))), (8, .int (nI (pls (mo_T S.r) (mo_S S.r) S.m (s + 1)))), (9, .int 1), (10, .int (nI (s + 1)))]) rfl ?_
          exact k_widen (by omega) (by omega) (ih (s + 1) _ (by omega) hJ)
        have hpl : mo_pl S.r s S.m < S.m := mp_c_lt hs
        refine k_zne C 515 dL_holds_507 (by decide) (fun hv => ?_) (fun hv => ?_)
        · skip
          refine k_iloadn C 3 dL_holds_515 rfl ?_
          rw [bst_s hs, if_neg (fun z => hv (by rw [show mo_pl S.r s S.m = 0 from z]; rfl))] at J516
          exact J516
        · skip
          refine k_iload C 10 dL_holds_510 rfl ?_
          refine k_goto C 516 dL_holds_512 (by decide) ?_
          rw [bst_s hs, if_pos ((nI_eq (b := 0) (by omega) (by omega)).mp hv)] at J516
          exact J516
      have L63 : ∀ (d e : Nat) (N : sk_M), e + d = mo_c S.r s → rl_J k M S N → sk_W l X O A Q 21 (1 + 250 * s + 1 + 20 * e) (6 * (1 + 250 * s + 1 + 20 * e)) N 63 [(0, .ref (sk_ad O k)), (1, .int (nI w)), (2, .int (nI S.m)), (3, .int (bst (mo_T S.r) (mo_S S.r) S.m s)), (4, .int (sk_acc (sk_sum (h_R S.r) s) (h_rv S.r s) e)), (5, .int (sk_sum (h_F S.r) s)), (6, .int (sk_sum (h_N S.r) s)), (7, .int (nI (mo_la S.r s + mo_lq S.r s e))), (8, .int (nI (pls (mo_T S.r) (mo_S S.r) S.m s))), (9, .int 1), (10, .int (nI s)), (11, .int (nI (mo_c S.r s))), (12, .int (mo_te S.r s e)), (13, .int (sk_sum (h_fl S.r s) e)), (14, .int (nI e))] [] := by
        intro d2
        induction d2 with
        | zero =>
          intro e N hd2 hJ
          obtain rfl : e = mo_c S.r s := by omega
          refine k_iload C 14 dL_holds_63 rfl ?_
          refine k_iload C 11 dL_holds_65 rfl ?_
          refine k_cge C 468 dL_holds_67 (by decide) (fun _ => ?_) (fun e0 => absurd (Int32.le_refl _) e0)
          exact F468 N hJ
        | succ d2 ih2 =>
          intro e N hd2 hJ
          have he : e < mo_c S.r s := by omega
          obtain ⟨hel, hn3⟩ := hg.2 s hs e he
          refine k_iload C 14 dL_holds_63 rfl ?_
          refine k_iload C 11 dL_holds_65 rfl ?_
          refine k_cge C 468 dL_holds_67 (by decide) (fun e0 => absurd e0 (by rw [nI_leI (by omega) (by omega)]; omega)) (fun _ => ?_)
          refine k_iload C 9 dL_holds_70 rfl ?_
          refine k_zeq C 468 dL_holds_72 (by decide) (fun e0 => absurd e0 (by decide)) (fun _ => ?_)
          refine k_aloadn C 0 dL_holds_75 rfl ?_
          refine k_iconst C 3 dL_holds_76 (by decide) ?_
          refine k_iload C 10 dL_holds_77 rfl ?_
          refine k_iload C 14 dL_holds_79 rfl ?_
          refine k_iconst C 1 dL_holds_81 (by decide) ?_
          refine k_ks C hSr hNx (1 + 250 * s + 1 + 20 * e + 1) (as := [.ref (sk_ad O k), .int 3, .int (nI s), .int (nI e), .int 1]) yvL_call vsL_call ml_L_163 (q_Element l hO hst hJ.1 hk (nI s) (nI e) 1) rfl rfl (Nat.le_of_ble_eq_true rfl) ⟨⟨by decide, by decide⟩, by omega, by show 1 + 250 * s + 1 + 20 * e + 1 ≤ 1025; omega, by show 6 * (1 + 250 * s + 1 + 20 * e + 1) ≤ 6150; omega⟩ dL_holds_82 (fun x M28 h => ?_)
          obtain ⟨hx, hj⟩ := e_at s0 hs he (by decide) h
          rw [el_1, ((s0.2.2 _ hs).2.2 _ he).1] at hx
          subst hx
          replace hJ := hJ.t hj
          clear hj
          refine k_istore C [1, 2, 3, 4, 5, 6, 7, 8, 9, 10, 11, 12, 13, 14, 15, 0] [(0, .ref (sk_ad O k)), (1, .int (nI w)), (2, .int (nI S.m)), (3, .int (bst (mo_T S.r) (mo_S S.r) S.m s)), (4, .int (sk_acc (sk_sum (h_R S.r) s) (h_rv S.r s) e)), (5, .int (sk_sum (h_F S.r) s)), (6, .int (sk_sum (h_N S.r) s)), (7, .int (nI (mo_la S.r s + mo_lq S.r s e))), (8, .int (nI (pls (mo_T S.r) (mo_S S.r) S.m s))), (9, .int 1), (10, .int (nI s)), (11, .int (nI (mo_c S.r s))), (12, .int (mo_te S.r s e)), (13, .int (sk_sum (h_fl S.r s) e)), (14, .int (nI e)), (15, .int (nI (mo_n S.r s e)))] dL_holds_85 (by decide) rfl ?_
          refine k_iconst C 0 dL_holds_87 (by decide) ?_
          refine k_istore C [1, 2, 3, 4, 5, 6, 7, 8, 9, 10, 11, 12, 13, 14, 15, 16, 0] [(0, .ref (sk_ad O k)), (1, .int (nI w)), (2, .int (nI S.m)), (3, .int (bst (mo_T S.r) (mo_S S.r) S.m s)), (4, .int (sk_acc (sk_sum (h_R S.r) s) (h_rv S.r s) e)), (5, .int (sk_sum (h_F S.r) s)), (6, .int (sk_sum (h_N S.r) s)), (7, .int (nI (mo_la S.r s + mo_lq S.r s e))), (8, .int (nI (pls (mo_T S.r) (mo_S S.r) S.m s))), (9, .int 1), (10, .int (nI s)), (11, .int (nI (mo_c S.r s))), (12, .int (mo_te S.r s e)), (13, .int (sk_sum (h_fl S.r s) e)), (14, .int (nI e)), (15, .int (nI (mo_n S.r s e))), (16, .int 0)] dL_holds_88 (by decide) rfl ?_
          refine k_iconst C 0 dL_holds_90 (by decide) ?_
          refine k_istore C [1, 2, 3, 4, 5, 6, 7, 8, 9, 10, 11, 12, 13, 14, 15, 16, 17, 0] [(0, .ref (sk_ad O k)), (1, .int (nI w)), (2, .int (nI S.m)), (3, .int (bst (mo_T S.r) (mo_S S.r) S.m s)), (4, .int (sk_acc (sk_sum (h_R S.r) s) (h_rv S.r s) e)), (5, .int (sk_sum (h_F S.r) s)), (6, .int (sk_sum (h_N S.r) s)), (7, .int (nI (mo_la S.r s + mo_lq S.r s e))), (8, .int (nI (pls (mo_T S.r) (mo_S S.r) S.m s))), (9, .int 1), (10, .int (nI s)), (11, .int (nI (mo_c S.r s))), (12, .int (mo_te S.r s e)), (13, .int (sk_sum (h_fl S.r s) e)), (14, .int (nI e)), (15, .int (nI (mo_n S.r s e))), (16, .int 0), (17, .int 0)] dL_holds_91 (by decide) rfl ?_
          refine k_iconst C 0 dL_holds_93 (by decide) ?_
          refine k_istore C [1, 2, 3, 4, 5, 6, 7, 8, 9, 10, 11, 12, 13, 14, 15, 16, 17, 18, 0] [(0, .ref (sk_ad O k)), (1, .int (nI w)), (2, .int (nI S.m)), (3, .int (bst (mo_T S.r) (mo_S S.r) S.m s)), (4, .int (sk_acc (sk_sum (h_R S.r) s) (h_rv S.r s) e)), (5, .int (sk_sum (h_F S.r) s)), (6, .int (sk_sum (h_N S.r) s)), (7, .int (nI (mo_la S.r s + mo_lq S.r s e))), (8, .int (nI (pls (mo_T S.r) (mo_S S.r) S.m s))), (9, .int 1), (10, .int (nI s)), (11, .int (nI (mo_c S.r s))), (12, .int (mo_te S.r s e)), (13, .int (sk_sum (h_fl S.r s) e)), (14, .int (nI e)), (15, .int (nI (mo_n S.r s e))), (16, .int 0), (17, .int 0), (18, .int 0)] dL_holds_94 (by decide) rfl ?_
          have F233 : ∀ N : sk_M, rl_J k M S N → sk_W l X O A Q 21 (1 + 250 * s + 1 + 20 * e + 1 + 3 * mo_n S.r s e) (6 * (1 + 250 * s + 1 + 20 * e + 1 + 3 * mo_n S.r s e)) N 233 [(0, .ref (sk_ad O k)), (1, .int (nI w)), (2, .int (nI S.m)), (3, .int (bst (mo_T S.r) (mo_S S.r) S.m s)), (4, .int (sk_acc (sk_sum (h_R S.r) s) (h_rv S.r s) e)), (5, .int (sk_sum (h_F S.r) s)), (6, .int (sk_sum (h_N S.r) s)), (7, .int (nI (mo_la S.r s + mo_lq S.r s e + mo_lp S.r s e (mo_n S.r s e)))), (8, .int (nI (pls (mo_T S.r) (mo_S S.r) S.m s))), (9, .int 1), (10, .int (nI s)), (11, .int (nI (mo_c S.r s))), (12, .int (mo_te S.r s e)), (13, .int (sk_sum (h_fl S.r s) e)), (14, .int (nI e)), (15, .int (nI (mo_n S.r s e))), (16, .int (mo_sb S.r s e (mo_n S.r s e))), (17, .int (mo_sm S.r s e (mo_n S.r s e))), (18, .int (nI (mo_n S.r s e)))] [] := by
            intro N hJ
            refine k_widen (k := 1 + 250 * s + 1 + 20 * e + 10) (n := 6 * (1 + 250 * s + 1 + 20 * e + 10)) (by omega) (by omega) ?_
            obtain ⟨gb, gc, egb, egc, hgc, hgb, hbc, hnb⟩ := ba_n hel hn3 hg.1
            have hgr := gr_b hel
            have hke := ke_b hel
            rw [show mo_la S.r s + mo_lq S.r s e + mo_lp S.r s e (mo_n S.r s e) = mo_la S.r s + mo_lq S.r s (e + 1) from Nat.add_assoc _ _ _]
            refine k_aloadn C 0 dL_holds_233 rfl ?_
            refine k_iconst C 3 dL_holds_234 (by decide) ?_
            refine k_iload C 10 dL_holds_235 rfl ?_
            refine k_iload C 14 dL_holds_237 rfl ?_
            refine k_iconst C 3 dL_holds_239 (by decide) ?_
            refine k_ks C hSr hNx (1 + 250 * s + 1 + 20 * e + 10 + 1) (as := [.ref (sk_ad O k), .int 3, .int (nI s), .int (nI e), .int 3]) yvL_call vsL_call ml_L_163 (q_Element l hO hst hJ.1 hk (nI s) (nI e) 3) rfl rfl (Nat.le_of_ble_eq_true rfl) ⟨⟨by decide, by decide⟩, by omega, by show 1 + 250 * s + 1 + 20 * e + 10 + 1 ≤ 1025; omega, by show 6 * (1 + 250 * s + 1 + 20 * e + 10 + 1) ≤ 6150; omega⟩ dL_holds_240 (fun x M29 h => ?_)
            obtain ⟨hx, hj⟩ := e_at s0 hs he (by decide) h
            rw [el_3] at hx
            subst hx
            replace hJ := hJ.t hj
            clear hj
            refine k_istore C [1, 2, 3, 4, 5, 6, 7, 8, 9, 10, 11, 12, 13, 14, 15, 16, 17, 18, 0] [(0, .ref (sk_ad O k)), (1, .int (nI w)), (2, .int (nI S.m)), (3, .int (bst (mo_T S.r) (mo_S S.r) S.m s)), (4, .int (sk_acc (sk_sum (h_R S.r) s) (h_rv S.r s) e)), (5, .int (sk_sum (h_F S.r) s)), (6, .int (sk_sum (h_N S.r) s)), (7, .int (nI (mo_la S.r s + mo_lq S.r s (e + 1)))), (8, .int (nI (pls (mo_T S.r) (mo_S S.r) S.m s))), (9, .int 1), (10, .int (nI s)), (11, .int (nI (mo_c S.r s))), (12, .int (mo_te S.r s e)), (13, .int (sk_sum (h_fl S.r s) e)), (14, .int (nI e)), (15, .int (nI (mo_n S.r s e))), (16, .int (mo_sb S.r s e (mo_n S.r s e))), (17, .int (mo_sm S.r s e (mo_n S.r s e))), (18, .int (mo_ke S.r (23 + 233 * s + 18 * e + 11)))] dL_holds_243 (by decide) rfl ?_
            refine k_aloadn C 0 dL_holds_245 rfl ?_
            refine k_iconst C 3 dL_holds_246 (by decide) ?_
            refine k_iload C 10 dL_holds_247 rfl ?_
            refine k_iload C 14 dL_holds_249 rfl ?_
            refine k_iconst C 4 dL_holds_251 (by decide) ?_
            refine k_ks C hSr hNx (1 + 250 * s + 1 + 20 * e + 10 + 2) (as := [.ref (sk_ad O k), .int 3, .int (nI s), .int (nI e), .int 4]) yvL_call vsL_call ml_L_163 (q_Element l hO hst hJ.1 hk (nI s) (nI e) 4) rfl rfl (Nat.le_of_ble_eq_true rfl) ⟨⟨by decide, by decide⟩, by omega, by show 1 + 250 * s + 1 + 20 * e + 10 + 2 ≤ 1025; omega, by show 6 * (1 + 250 * s + 1 + 20 * e + 10 + 2) ≤ 6150; omega⟩ dL_holds_252 (fun x M30 h => ?_)
            obtain ⟨hx, hj⟩ := e_at s0 hs he (by decide) h
            rw [el_4] at hx
            subst hx
            replace hJ := hJ.t hj
            clear hj
            refine k_istore C [1, 2, 3, 4, 5, 6, 7, 8, 9, 10, 11, 12, 13, 14, 15, 16, 17, 18, 19, 0] [(0, .ref (sk_ad O k)), (1, .int (nI w)), (2, .int (nI S.m)), (3, .int (bst (mo_T S.r) (mo_S S.r) S.m s)), (4, .int (sk_acc (sk_sum (h_R S.r) s) (h_rv S.r s) e)), (5, .int (sk_sum (h_F S.r) s)), (6, .int (sk_sum (h_N S.r) s)), (7, .int (nI (mo_la S.r s + mo_lq S.r s (e + 1)))), (8, .int (nI (pls (mo_T S.r) (mo_S S.r) S.m s))), (9, .int 1), (10, .int (nI s)), (11, .int (nI (mo_c S.r s))), (12, .int (mo_te S.r s e)), (13, .int (sk_sum (h_fl S.r s) e)), (14, .int (nI e)), (15, .int (nI (mo_n S.r s e))), (16, .int (mo_sb S.r s e (mo_n S.r s e))), (17, .int (mo_sm S.r s e (mo_n S.r s e))), (18, .int (mo_ke S.r (23 + 233 * s + 18 * e + 11))), (19, .int (mo_gr S.r s e))] dL_holds_255 (by decide) rfl ?_
            refine k_aloadn C 0 dL_holds_257 rfl ?_
            refine k_iconst C 3 dL_holds_258 (by decide) ?_
            refine k_iload C 10 dL_holds_259 rfl ?_
            refine k_iload C 14 dL_holds_261 rfl ?_
            refine k_bipush C 8 dL_holds_263 (by decide) ?_
            refine k_ks C hSr hNx (1 + 250 * s + 1 + 20 * e + 10 + 3) (as := [.ref (sk_ad O k), .int 3, .int (nI s), .int (nI e), .int 8]) yvL_call vsL_call ml_L_163 (q_Element l hO hst hJ.1 hk (nI s) (nI e) 8) rfl rfl (Nat.le_of_ble_eq_true rfl) ⟨⟨by decide, by decide⟩, by omega, by show 1 + 250 * s + 1 + 20 * e + 10 + 3 ≤ 1025; omega, by show 6 * (1 + 250 * s + 1 + 20 * e + 10 + 3) ≤ 6150; omega⟩ dL_holds_265 (fun x M31 h => ?_)
            obtain ⟨hx, hj⟩ := e_at s0 hs he (by decide) h
            rw [el_8] at hx
            subst hx
            replace hJ := hJ.t hj
            clear hj
            refine k_istore C [1, 2, 3, 4, 5, 6, 7, 8, 9, 10, 11, 12, 13, 14, 15, 16, 17, 18, 19, 20, 0] [(0, .ref (sk_ad O k)), (1, .int (nI w)), (2, .int (nI S.m)), (3, .int (bst (mo_T S.r) (mo_S S.r) S.m s)), (4, .int (sk_acc (sk_sum (h_R S.r) s) (h_rv S.r s) e)), (5, .int (sk_sum (h_F S.r) s)), (6, .int (sk_sum (h_N S.r) s)), (7, .int (nI (mo_la S.r s + mo_lq S.r s (e + 1)))), (8, .int (nI (pls (mo_T S.r) (mo_S S.r) S.m s))), (9, .int 1), (10, .int (nI s)), (11, .int (nI (mo_c S.r s))), (12, .int (mo_te S.r s e)), (13, .int (sk_sum (h_fl S.r s) e)), (14, .int (nI e)), (15, .int (nI (mo_n S.r s e))), (16, .int (mo_sb S.r s e (mo_n S.r s e))), (17, .int (mo_sm S.r s e (mo_n S.r s e))), (18, .int (mo_ke S.r (23 + 233 * s + 18 * e + 11))), (19, .int (mo_gr S.r s e)), (20, .int (if mo_bn S.r s e then 1 else 0))] dL_holds_268 (by decide) rfl ?_
            refine k_iload C 12 dL_holds_270 rfl ?_
            refine k_aloadn C 0 dL_holds_272 rfl ?_
            refine k_iconst C 3 dL_holds_273 (by decide) ?_
            refine k_iload C 10 dL_holds_274 rfl ?_
            refine k_iload C 14 dL_holds_276 rfl ?_
            refine k_iconst C 5 dL_holds_278 (by decide) ?_
            refine k_ks C hSr hNx (1 + 250 * s + 1 + 20 * e + 10 + 4) (as := [.ref (sk_ad O k), .int 3, .int (nI s), .int (nI e), .int 5]) yvL_call vsL_call ml_L_163 (q_Element l hO hst hJ.1 hk (nI s) (nI e) 5) rfl rfl (Nat.le_of_ble_eq_true rfl) ⟨⟨by decide, by decide⟩, by omega, by show 1 + 250 * s + 1 + 20 * e + 10 + 4 ≤ 1025; omega, by show 6 * (1 + 250 * s + 1 + 20 * e + 10 + 4) ≤ 6150; omega⟩ dL_holds_279 (fun x M32 h => ?_)
            obtain ⟨hx, hj⟩ := e_at s0 hs he (by decide) h
            rw [el_5] at hx
            subst hx
            replace hJ := hJ.t hj
            clear hj
            refine k_iadd C dL_holds_282 ?_
            refine k_top (mo_te S.r s (e + 1)) (rfl) ?_
            refine k_istore C [1, 2, 3, 4, 5, 6, 7, 8, 9, 10, 11, 12, 0, 13, 14, 15, 16, 17, 18, 19, 20] [(0, .ref (sk_ad O k)), (1, .int (nI w)), (2, .int (nI S.m)), (3, .int (bst (mo_T S.r) (mo_S S.r) S.m s)), (4, .int (sk_acc (sk_sum (h_R S.r) s) (h_rv S.r s) e)), (5, .int (sk_sum (h_F S.r) s)), (6, .int (sk_sum (h_N S.r) s)), (7, .int (nI (mo_la S.r s + mo_lq S.r s (e + 1)))), (8, .int (nI (pls (mo_T S.r) (mo_S S.r) S.m s))), (9, .int 1), (10, .int (nI s)), (11, .int (nI (mo_c S.r s))), (12, .int (mo_te S.r s (e + 1))), (13, .int (sk_sum (h_fl S.r s) e)), (14, .int (nI e)), (15, .int (nI (mo_n S.r s e))), (16, .int (mo_sb S.r s e (mo_n S.r s e))), (17, .int (mo_sm S.r s e (mo_n S.r s e))), (18, .int (mo_ke S.r (23 + 233 * s + 18 * e + 11))), (19, .int (mo_gr S.r s e)), (20, .int (if mo_bn S.r s e then 1 else 0))] dL_holds_283 (by decide) rfl ?_
            refine k_iload C 13 dL_holds_285 rfl ?_
            refine k_aloadn C 0 dL_holds_287 rfl ?_
            refine k_iconst C 3 dL_holds_288 (by decide) ?_
            refine k_iload C 10 dL_holds_289 rfl ?_
            refine k_iload C 14 dL_holds_291 rfl ?_
            refine k_bipush C 6 dL_holds_293 (by decide) ?_
            refine k_ks C hSr hNx (1 + 250 * s + 1 + 20 * e + 10 + 5) (as := [.ref (sk_ad O k), .int 3, .int (nI s), .int (nI e), .int 6]) yvL_call vsL_call ml_L_163 (q_Element l hO hst hJ.1 hk (nI s) (nI e) 6) rfl rfl (Nat.le_of_ble_eq_true rfl) ⟨⟨by decide, by decide⟩, by omega, by show 1 + 250 * s + 1 + 20 * e + 10 + 5 ≤ 1025; omega, by show 6 * (1 + 250 * s + 1 + 20 * e + 10 + 5) ≤ 6150; omega⟩ dL_holds_295 (fun x M33 h => ?_)
            obtain ⟨hx, hj⟩ := e_at s0 hs he (by decide) h
            rw [el_6] at hx
            subst hx
            replace hJ := hJ.t hj
            clear hj
            refine k_iadd C dL_holds_298 ?_
            refine k_top (sk_sum (h_fl S.r s) (e + 1)) (rfl) ?_
            refine k_istore C [1, 2, 3, 4, 5, 6, 7, 8, 9, 10, 11, 12, 13, 0, 14, 15, 16, 17, 18, 19, 20] [(0, .ref (sk_ad O k)), (1, .int (nI w)), (2, .int (nI S.m)), (3, .int (bst (mo_T S.r) (mo_S S.r) S.m s)), (4, .int (sk_acc (sk_sum (h_R S.r) s) (h_rv S.r s) e)), (5, .int (sk_sum (h_F S.r) s)), (6, .int (sk_sum (h_N S.r) s)), (7, .int (nI (mo_la S.r s + mo_lq S.r s (e + 1)))), (8, .int (nI (pls (mo_T S.r) (mo_S S.r) S.m s))), (9, .int 1), (10, .int (nI s)), (11, .int (nI (mo_c S.r s))), (12, .int (mo_te S.r s (e + 1))), (13, .int (sk_sum (h_fl S.r s) (e + 1))), (14, .int (nI e)), (15, .int (nI (mo_n S.r s e))), (16, .int (mo_sb S.r s e (mo_n S.r s e))), (17, .int (mo_sm S.r s e (mo_n S.r s e))), (18, .int (mo_ke S.r (23 + 233 * s + 18 * e + 11))), (19, .int (mo_gr S.r s e)), (20, .int (if mo_bn S.r s e then 1 else 0))] dL_holds_299 (by decide) rfl ?_
            refine k_iload C 4 dL_holds_301 rfl ?_
            refine k_aloadn C 0 dL_holds_303 rfl ?_
            refine k_iconst C 3 dL_holds_304 (by decide) ?_
            refine k_iload C 10 dL_holds_305 rfl ?_
            refine k_iload C 14 dL_holds_307 rfl ?_
            refine k_bipush C 7 dL_holds_309 (by decide) ?_
            refine k_ks C hSr hNx (1 + 250 * s + 1 + 20 * e + 10 + 6) (as := [.ref (sk_ad O k), .int 3, .int (nI s), .int (nI e), .int 7]) yvL_call vsL_call ml_L_163 (q_Element l hO hst hJ.1 hk (nI s) (nI e) 7) rfl rfl (Nat.le_of_ble_eq_true rfl) ⟨⟨by decide, by decide⟩, by omega, by show 1 + 250 * s + 1 + 20 * e + 10 + 6 ≤ 1025; omega, by show 6 * (1 + 250 * s + 1 + 20 * e + 10 + 6) ≤ 6150; omega⟩ dL_holds_311 (fun x M34 h => ?_)
            obtain ⟨hx, hj⟩ := e_at s0 hs he (by decide) h
            rw [el_7] at hx
            subst hx
            replace hJ := hJ.t hj
            clear hj
            refine k_iadd C dL_holds_314 ?_
            refine k_top (sk_acc (sk_sum (h_R S.r) s) (h_rv S.r s) (e + 1)) (rfl) ?_
            refine k_istore C [1, 2, 3, 4, 0, 5, 6, 7, 8, 9, 10, 11, 12, 13, 14, 15, 16, 17, 18, 19, 20] [(0, .ref (sk_ad O k)), (1, .int (nI w)), (2, .int (nI S.m)), (3, .int (bst (mo_T S.r) (mo_S S.r) S.m s)), (4, .int (sk_acc (sk_sum (h_R S.r) s) (h_rv S.r s) (e + 1))), (5, .int (sk_sum (h_F S.r) s)), (6, .int (sk_sum (h_N S.r) s)), (7, .int (nI (mo_la S.r s + mo_lq S.r s (e + 1)))), (8, .int (nI (pls (mo_T S.r) (mo_S S.r) S.m s))), (9, .int 1), (10, .int (nI s)), (11, .int (nI (mo_c S.r s))), (12, .int (mo_te S.r s (e + 1))), (13, .int (sk_sum (h_fl S.r s) (e + 1))), (14, .int (nI e)), (15, .int (nI (mo_n S.r s e))), (16, .int (mo_sb S.r s e (mo_n S.r s e))), (17, .int (mo_sm S.r s e (mo_n S.r s e))), (18, .int (mo_ke S.r (23 + 233 * s + 18 * e + 11))), (19, .int (mo_gr S.r s e)), (20, .int (if mo_bn S.r s e then 1 else 0))] dL_holds_315 (by decide) rfl ?_
            refine k_iload C 9 dL_holds_317 rfl ?_
            refine k_zeq C 459 dL_holds_319 (by decide) (fun e0 => absurd e0 (by decide)) (fun _ => ?_)
            refine k_iload C 18 dL_holds_322 rfl ?_
            refine k_bipush C (-15) dL_holds_324 (by decide) ?_
            refine k_clt C 459 dL_holds_326 (by decide) (fun e0 => absurd e0 hke.1) (fun _ => ?_)
            refine k_iload C 18 dL_holds_329 rfl ?_
            refine k_bipush C 15 dL_holds_331 (by decide) ?_
            refine k_cgt C 459 dL_holds_333 (by decide) (fun e0 => absurd e0 hke.2) (fun _ => ?_)
            refine k_bipush C 30 dL_holds_336 (by decide) ?_
            refine k_iload C 19 dL_holds_338 rfl ?_
            refine k_imul C dL_holds_340 ?_
            refine k_iload C 18 dL_holds_341 rfl ?_
            refine k_iload C 17 dL_holds_343 rfl ?_
            refine k_imul C dL_holds_345 ?_
            refine k_isub C dL_holds_346 ?_
            refine k_bipush C 15 dL_holds_347 (by decide) ?_
            refine k_cgt C 459 dL_holds_349 (by decide) (fun e0 => absurd e0 hgr.2.2.1) (fun _ => ?_)
            refine k_iload C 18 dL_holds_352 rfl ?_
            refine k_iload C 17 dL_holds_354 rfl ?_
            refine k_imul C dL_holds_356 ?_
            refine k_bipush C 30 dL_holds_357 (by decide) ?_
            refine k_iload C 19 dL_holds_359 rfl ?_
            refine k_imul C dL_holds_361 ?_
            refine k_isub C dL_holds_362 ?_
            refine k_bipush C 15 dL_holds_363 (by decide) ?_
            refine k_cgt C 459 dL_holds_365 (by decide) (fun e0 => absurd e0 hgr.2.2.2) (fun _ => ?_)
            refine k_iload C 20 dL_holds_368 rfl ?_
            refine k_iconst C 1 dL_holds_370 (by decide) ?_
            have J429 : ∀ N : sk_M, rl_J k M S N → sk_W l X O A Q 21 (1 + 250 * s + 1 + 20 * e + 10 + 8) (6 * (1 + 250 * s + 1 + 20 * e + 10 + 8)) N 429 [(0, .ref (sk_ad O k)), (1, .int (nI w)), (2, .int (nI S.m)), (3, .int (bst (mo_T S.r) (mo_S S.r) S.m s)), (4, .int (sk_acc (sk_sum (h_R S.r) s) (h_rv S.r s) (e + 1))), (5, .int (sk_sum (h_F S.r) s)), (6, .int (sk_sum (h_N S.r) s)), (7, .int (nI (mo_la S.r s + mo_lq S.r s (e + 1)))), (8, .int (nI (pls (mo_T S.r) (mo_S S.r) S.m s))), (9, .int 1), (10, .int (nI s)), (11, .int (nI (mo_c S.r s))), (12, .int (mo_te S.r s (e + 1))), (13, .int (sk_sum (h_fl S.r s) (e + 1))), (14, .int (nI e)), (15, .int (nI (mo_n S.r s e))), (16, .int (mo_sb S.r s e (mo_n S.r s e))), (17, .int (mo_sm S.r s e (mo_n S.r s e))), (18, .int (mo_ke S.r (23 + 233 * s + 18 * e + 11))), (19, .int (mo_gr S.r s e)), (20, .int (if mo_bn S.r s e then 1 else 0))] [] := by
              intro N hJ
              refine k_aloadn C 0 dL_holds_429 rfl ?_
              refine k_iconst C 3 dL_holds_430 (by decide) ?_
              refine k_iload C 10 dL_holds_431 rfl ?_
              refine k_iload C 14 dL_holds_433 rfl ?_
              refine k_iconst C 5 dL_holds_435 (by decide) ?_
              refine k_ks C hSr hNx (1 + 250 * s + 1 + 20 * e + 10 + 8 + 1) (as := [.ref (sk_ad O k), .int 3, .int (nI s), .int (nI e), .int 5]) yvL_call vsL_call ml_L_163 (q_Element l hO hst hJ.1 hk (nI s) (nI e) 5) rfl rfl (Nat.le_of_ble_eq_true rfl) ⟨⟨by decide, by decide⟩, by omega, by show 1 + 250 * s + 1 + 20 * e + 10 + 8 + 1 ≤ 1025; omega, by show 6 * (1 + 250 * s + 1 + 20 * e + 10 + 8 + 1) ≤ 6150; omega⟩ dL_holds_436 (fun x M35 h => ?_)
              obtain ⟨hx, hj⟩ := e_at s0 hs he (by decide) h
              rw [el_5] at hx
              subst hx
              replace hJ := hJ.t hj
              clear hj
              refine k_aloadn C 0 dL_holds_439 rfl ?_
              refine k_iconst C 3 dL_holds_440 (by decide) ?_
              refine k_iload C 10 dL_holds_441 rfl ?_
              refine k_iload C 14 dL_holds_443 rfl ?_
              refine k_iconst C 2 dL_holds_445 (by decide) ?_
              refine k_ks C hSr hNx (1 + 250 * s + 1 + 20 * e + 10 + 8 + 2) (as := [.ref (sk_ad O k), .int 3, .int (nI s), .int (nI e), .int 2]) yvL_call vsL_call ml_L_163 (q_Element l hO hst hJ.1 hk (nI s) (nI e) 2) rfl rfl (Nat.le_of_ble_eq_true rfl) ⟨⟨by decide, by decide⟩, by omega, by show 1 + 250 * s + 1 + 20 * e + 10 + 8 + 2 ≤ 1025; omega, by show 6 * (1 + 250 * s + 1 + 20 * e + 10 + 8 + 2) ≤ 6150; omega⟩ dL_holds_446 (fun x M36 h => ?_)
              obtain ⟨hx, hj⟩ := e_at s0 hs he (by decide) h
              rw [el_2] at hx
              subst hx
              replace hJ := hJ.t hj
              clear hj
              refine k_iload C 19 dL_holds_449 rfl ?_
              refine k_iadd C dL_holds_451 ?_
              refine k_cne C 459 dL_holds_452 (by decide) (fun e0 => absurd rfl e0) (fun _ => ?_)
              refine k_iconst C 1 dL_holds_455 (by decide) ?_
              refine k_goto C 460 dL_holds_456 (by decide) ?_
              refine k_istore C [1, 2, 3, 4, 5, 6, 7, 8, 9, 0, 10, 11, 12, 13, 14, 15, 16, 17, 18, 19, 20] [(0, .ref (sk_ad O k)), (1, .int (nI w)), (2, .int (nI S.m)), (3, .int (bst (mo_T S.r) (mo_S S.r) S.m s)), (4, .int (sk_acc (sk_sum (h_R S.r) s) (h_rv S.r s) (e + 1))), (5, .int (sk_sum (h_F S.r) s)), (6, .int (sk_sum (h_N S.r) s)), (7, .int (nI (mo_la S.r s + mo_lq S.r s (e + 1)))), (8, .int (nI (pls (mo_T S.r) (mo_S S.r) S.m s))), (9, .int 1), (10, .int (nI s)), (11, .int (nI (mo_c S.r s))), (12, .int (mo_te S.r s (e + 1))), (13, .int (sk_sum (h_fl S.r s) (e + 1))), (14, .int (nI e)), (15, .int (nI (mo_n S.r s e))), (16, .int (mo_sb S.r s e (mo_n S.r s e))), (17, .int (mo_sm S.r s e (mo_n S.r s e))), (18, .int (mo_ke S.r (23 + 233 * s + 18 * e + 11))), (19, .int (mo_gr S.r s e)), (20, .int (if mo_bn S.r s e then 1 else 0))] dL_holds_460 (by decide) rfl ?_
              refine k_iinc C 14 (nI (e + 1)) [1, 2, 3, 4, 5, 6, 7, 8, 9, 10, 11, 12, 13, 14, 0, 15, 16, 17, 18, 19, 20] [(0, .ref (sk_ad O k)), (1, .int (nI w)), (2, .int (nI S.m)), (3, .int (bst (mo_T S.r) (mo_S S.r) S.m s)), (4, .int (sk_acc (sk_sum (h_R S.r) s) (h_rv S.r s) (e + 1))), (5, .int (sk_sum (h_F S.r) s)), (6, .int (sk_sum (h_N S.r) s)), (7, .int (nI (mo_la S.r s + mo_lq S.r s (e + 1)))), (8, .int (nI (pls (mo_T S.r) (mo_S S.r) S.m s))), (9, .int 1), (10, .int (nI s)), (11, .int (nI (mo_c S.r s))), (12, .int (mo_te S.r s (e + 1))), (13, .int (sk_sum (h_fl S.r s) (e + 1))), (14, .int (nI (e + 1))), (15, .int (nI (mo_n S.r s e))), (16, .int (mo_sb S.r s e (mo_n S.r s e))), (17, .int (mo_sm S.r s e (mo_n S.r s e))), (18, .int (mo_ke S.r (23 + 233 * s + 18 * e + 11))), (19, .int (mo_gr S.r s e)), (20, .int (if mo_bn S.r s e then 1 else 0))] dL_holds_462 rfl (nI_add _ 1) (by decide) rfl ?_
              refine k_goto C 63 dL_holds_465 (by decide) ?_
              refine k_sub [0, 1, 2, 3, 4, 5, 6, 7, 8, 9, 10, 11, 12, 13, 14] (lv' := [(0, .ref (sk_ad O k)), (1, .int (nI w)), (2, .int (nI S.m)), (3, .int (bst (mo_T S.r) (mo_S S.r) S.m s)), (4, .int (sk_acc (sk_sum (h_R S.r) s) (h_rv S.r s) (e + 1))), (5, .int (sk_sum (h_F S.r) s)), (6, .int (sk_sum (h_N S.r) s)), (7, .int (nI (mo_la S.r s + mo_lq S.r s (e + 1)))), (8, .int (nI (pls (mo_T S.r) (mo_S S.r) S.m s))), (9, .int 1), (10, .int (nI s)), (11, .int (nI (mo_c S.r s))), (12, .int (mo_te S.r s (e + 1))), (13, .int (sk_sum (h_fl S.r s) (e + 1))), (14, .int (nI (e + 1)))]) rfl ?_
              exact k_widen (by omega) (by omega) (ih2 (e + 1) _ (by omega) hJ)
            refine k_cne C 414 dL_holds_371 (by decide) (fun hv => ?_) (fun hv => ?_)
            · skip
              have hb : ¬ mo_bn S.r s e := fun z => hv (if_pos z)
              refine k_aloadn C 0 dL_holds_414 rfl ?_
              refine k_iconst C 3 dL_holds_415 (by decide) ?_
              refine k_iload C 10 dL_holds_416 rfl ?_
              refine k_iload C 14 dL_holds_418 rfl ?_
              refine k_iconst C 2 dL_holds_420 (by decide) ?_
              refine k_ks C hSr hNx (1 + 250 * s + 1 + 20 * e + 10 + 7) (as := [.ref (sk_ad O k), .int 3, .int (nI s), .int (nI e), .int 2]) yvL_call vsL_call ml_L_163 (q_Element l hO hst hJ.1 hk (nI s) (nI e) 2) rfl rfl (Nat.le_of_ble_eq_true rfl) ⟨⟨by decide, by decide⟩, by omega, by show 1 + 250 * s + 1 + 20 * e + 10 + 7 ≤ 1025; omega, by show 6 * (1 + 250 * s + 1 + 20 * e + 10 + 7) ≤ 6150; omega⟩ dL_holds_421 (fun x M37 h => ?_)
              obtain ⟨hx, hj⟩ := e_at s0 hs he (by decide) h
              rw [el_2] at hx
              subst hx
              replace hJ := hJ.t hj
              clear hj
              refine k_iload C 16 dL_holds_424 rfl ?_
              refine k_cne C 459 dL_holds_426 (by decide) (fun e0 => absurd (by rw [egc, egb, hnb hb]) e0) (fun _ => ?_)
              exact k_widen (by omega) (by omega) (J429 _ hJ)
            · skip
              have hb : mo_bn S.r s e := Classical.byContradiction (fun z => by rw [if_neg z] at hv; exact absurd hv (by decide))
              refine k_aloadn C 0 dL_holds_374 rfl ?_
              refine k_iconst C 3 dL_holds_375 (by decide) ?_
              refine k_iload C 10 dL_holds_376 rfl ?_
              refine k_iload C 14 dL_holds_378 rfl ?_
              refine k_iconst C 2 dL_holds_380 (by decide) ?_
              refine k_ks C hSr hNx (1 + 250 * s + 1 + 20 * e + 10 + 7) (as := [.ref (sk_ad O k), .int 3, .int (nI s), .int (nI e), .int 2]) yvL_call vsL_call ml_L_163 (q_Element l hO hst hJ.1 hk (nI s) (nI e) 2) rfl rfl (Nat.le_of_ble_eq_true rfl) ⟨⟨by decide, by decide⟩, by omega, by show 1 + 250 * s + 1 + 20 * e + 10 + 7 ≤ 1025; omega, by show 6 * (1 + 250 * s + 1 + 20 * e + 10 + 7) ≤ 6150; omega⟩ dL_holds_381 (fun x M38 h => ?_)
              obtain ⟨hx, hj⟩ := e_at s0 hs he (by decide) h
              rw [el_2] at hx
              subst hx
              replace hJ := hJ.t hj
              clear hj
              refine k_iload C 16 dL_holds_384 rfl ?_
              refine k_clt C 459 dL_holds_386 (by decide) (fun e0 => absurd e0 (by rw [egc, egb, nI_ltI (by omega) (by omega)]; omega)) (fun _ => ?_)
              refine k_aloadn C 0 dL_holds_389 rfl ?_
              refine k_iconst C 3 dL_holds_390 (by decide) ?_
              refine k_iload C 10 dL_holds_391 rfl ?_
              refine k_iload C 14 dL_holds_393 rfl ?_
              refine k_iconst C 0 dL_holds_395 (by decide) ?_
              refine k_ks C hSr hNx (1 + 250 * s + 1 + 20 * e + 10 + 8) (as := [.ref (sk_ad O k), .int 3, .int (nI s), .int (nI e), .int 0]) yvL_call vsL_call ml_L_163 (q_Element l hO hst hJ.1 hk (nI s) (nI e) 0) rfl rfl (Nat.le_of_ble_eq_true rfl) ⟨⟨by decide, by decide⟩, by omega, by show 1 + 250 * s + 1 + 20 * e + 10 + 8 ≤ 1025; omega, by show 6 * (1 + 250 * s + 1 + 20 * e + 10 + 8) ≤ 6150; omega⟩ dL_holds_396 (fun x M39 h => ?_)
              obtain ⟨hx, hj⟩ := e_at s0 hs he (by decide) h
              rw [el_0] at hx
              subst hx
              replace hJ := hJ.t hj
              clear hj
              refine k_zne C 459 dL_holds_399 (by decide) (fun e0 => absurd hb.1 e0) (fun _ => ?_)
              refine k_iconst C 2 dL_holds_402 (by decide) ?_
              refine k_iload C 14 dL_holds_403 rfl ?_
              refine k_imul C dL_holds_405 ?_
              refine k_top (nI (2 * e)) (sk_nmul (a := 2) (b := e) rfl rfl) ?_
              refine k_iload C 11 dL_holds_406 rfl ?_
              refine k_clt C 459 dL_holds_408 (by decide) (fun e0 => absurd e0 (by have := hb.2.1; rw [(s0.2.2 s hs).1] at this; exact this)) (fun _ => ?_)
              refine k_goto C 429 dL_holds_411 (by decide) ?_
              exact k_widen (by omega) (by omega) (J429 _ hJ)
          have L96 : ∀ (d p : Nat) (N : sk_M), p + d = mo_n S.r s e → rl_J k M S N → sk_W l X O A Q 21 (1 + 250 * s + 1 + 20 * e + 1 + 3 * p) (6 * (1 + 250 * s + 1 + 20 * e + 1 + 3 * p)) N 96 [(0, .ref (sk_ad O k)), (1, .int (nI w)), (2, .int (nI S.m)), (3, .int (bst (mo_T S.r) (mo_S S.r) S.m s)), (4, .int (sk_acc (sk_sum (h_R S.r) s) (h_rv S.r s) e)), (5, .int (sk_sum (h_F S.r) s)), (6, .int (sk_sum (h_N S.r) s)), (7, .int (nI (mo_la S.r s + mo_lq S.r s e + mo_lp S.r s e p))), (8, .int (nI (pls (mo_T S.r) (mo_S S.r) S.m s))), (9, .int 1), (10, .int (nI s)), (11, .int (nI (mo_c S.r s))), (12, .int (mo_te S.r s e)), (13, .int (sk_sum (h_fl S.r s) e)), (14, .int (nI e)), (15, .int (nI (mo_n S.r s e))), (16, .int (mo_sb S.r s e p)), (17, .int (mo_sm S.r s e p)), (18, .int (nI p))] [] := by
            intro d3
            induction d3 with
            | zero =>
              intro p N hd3 hJ
              obtain rfl : p = mo_n S.r s e := by omega
              refine k_iload C 18 dL_holds_96 rfl ?_
              refine k_iload C 15 dL_holds_98 rfl ?_
              refine k_cge C 233 dL_holds_100 (by decide) (fun _ => ?_) (fun e0 => absurd (Int32.le_refl _) e0)
              exact F233 N hJ
            | succ d3 ih3 =>
              intro p N hd3 hJ
              have hp : p < mo_n S.r s e := by omega
              obtain ⟨pt, hpt, ept⟩ := rl_v hel.1 hp
              obtain ⟨py, hpy, epy, hpy2, hpy1⟩ := wy_n (r := S.r) (s := s) (e := e) (p := p)
              refine k_iload C 18 dL_holds_96 rfl ?_
              refine k_iload C 15 dL_holds_98 rfl ?_
              refine k_cge C 233 dL_holds_100 (by decide) (fun e0 => absurd e0 (by rw [nI_leI (by omega) (by omega)]; omega)) (fun _ => ?_)
              refine k_iload C 9 dL_holds_103 rfl ?_
              refine k_zeq C 233 dL_holds_105 (by decide) (fun e0 => absurd e0 (by decide)) (fun _ => ?_)
              refine k_aloadn C 0 dL_holds_108 rfl ?_
              refine k_iload C 10 dL_holds_109 rfl ?_
              refine k_iload C 14 dL_holds_111 rfl ?_
              refine k_iload C 18 dL_holds_113 rfl ?_
              refine k_iconst C 3 dL_holds_115 (by decide) ?_
              refine k_kg C hSr hNx (1 + 250 * s + 1 + 20 * e + 1 + 3 * p + 1) (as := [.ref (sk_ad O k), .int (nI s), .int (nI e), .int (nI p), .int 3]) yg_tryPart ml_L_166 (t_tryPart l hO hst hJ.1 hk (nI s) (nI e) (nI p) 3) rfl rfl (Nat.le_of_ble_eq_true rfl) ⟨⟨by decide, by decide⟩, by omega, by show 1 + 250 * s + 1 + 20 * e + 1 + 3 * p + 1 ≤ 1025; omega, by show 6 * (1 + 250 * s + 1 + 20 * e + 1 + 3 * p + 1) ≤ 6150; omega⟩ dL_holds_116 (fun x M40 h => ?_)
              obtain ⟨hx, hj⟩ := p_at s0 hs he hp (by decide) h
              rw [pa_3] at hx
              subst hx
              replace hJ := hJ.t hj
              clear hj
              refine k_istore C [1, 2, 3, 4, 5, 6, 7, 8, 9, 10, 11, 12, 13, 14, 15, 16, 17, 18, 19, 0] [(0, .ref (sk_ad O k)), (1, .int (nI w)), (2, .int (nI S.m)), (3, .int (bst (mo_T S.r) (mo_S S.r) S.m s)), (4, .int (sk_acc (sk_sum (h_R S.r) s) (h_rv S.r s) e)), (5, .int (sk_sum (h_F S.r) s)), (6, .int (sk_sum (h_N S.r) s)), (7, .int (nI (mo_la S.r s + mo_lq S.r s e + mo_lp S.r s e p))), (8, .int (nI (pls (mo_T S.r) (mo_S S.r) S.m s))), (9, .int 1), (10, .int (nI s)), (11, .int (nI (mo_c S.r s))), (12, .int (mo_te S.r s e)), (13, .int (sk_sum (h_fl S.r s) e)), (14, .int (nI e)), (15, .int (nI (mo_n S.r s e))), (16, .int (mo_sb S.r s e p)), (17, .int (mo_sm S.r s e p)), (18, .int (nI p)), (19, .int (mo_v S.r s e p))] dL_holds_119 (by decide) rfl ?_
              refine k_aloadn C 0 dL_holds_121 rfl ?_
              refine k_iload C 10 dL_holds_122 rfl ?_
              refine k_iload C 14 dL_holds_124 rfl ?_
              refine k_iload C 18 dL_holds_126 rfl ?_
              refine k_iconst C 4 dL_holds_128 (by decide) ?_
              refine k_kg C hSr hNx (1 + 250 * s + 1 + 20 * e + 1 + 3 * p + 2) (as := [.ref (sk_ad O k), .int (nI s), .int (nI e), .int (nI p), .int 4]) yg_tryPart ml_L_166 (t_tryPart l hO hst hJ.1 hk (nI s) (nI e) (nI p) 4) rfl rfl (Nat.le_of_ble_eq_true rfl) ⟨⟨by decide, by decide⟩, by omega, by show 1 + 250 * s + 1 + 20 * e + 1 + 3 * p + 2 ≤ 1025; omega, by show 6 * (1 + 250 * s + 1 + 20 * e + 1 + 3 * p + 2) ≤ 6150; omega⟩ dL_holds_129 (fun x M41 h => ?_)
              obtain ⟨hx, hj⟩ := p_at s0 hs he hp (by decide) h
              rw [pa_4] at hx
              subst hx
              replace hJ := hJ.t hj
              clear hj
              refine k_istore C [1, 2, 3, 4, 5, 6, 7, 8, 9, 10, 11, 12, 13, 14, 15, 16, 17, 18, 19, 20, 0] [(0, .ref (sk_ad O k)), (1, .int (nI w)), (2, .int (nI S.m)), (3, .int (bst (mo_T S.r) (mo_S S.r) S.m s)), (4, .int (sk_acc (sk_sum (h_R S.r) s) (h_rv S.r s) e)), (5, .int (sk_sum (h_F S.r) s)), (6, .int (sk_sum (h_N S.r) s)), (7, .int (nI (mo_la S.r s + mo_lq S.r s e + mo_lp S.r s e p))), (8, .int (nI (pls (mo_T S.r) (mo_S S.r) S.m s))), (9, .int 1), (10, .int (nI s)), (11, .int (nI (mo_c S.r s))), (12, .int (mo_te S.r s e)), (13, .int (sk_sum (h_fl S.r s) e)), (14, .int (nI e)), (15, .int (nI (mo_n S.r s e))), (16, .int (mo_sb S.r s e p)), (17, .int (mo_sm S.r s e p)), (18, .int (nI p)), (19, .int (mo_v S.r s e p)), (20, .int (mo_wy S.r s e p))] dL_holds_132 (by decide) rfl ?_
              refine k_iload C 16 dL_holds_134 rfl ?_
              refine k_iload C 19 dL_holds_136 rfl ?_
              refine k_iadd C dL_holds_138 ?_
              refine k_top (mo_sb S.r s e (p + 1)) (rfl) ?_
              refine k_istore C [1, 2, 3, 4, 5, 6, 7, 8, 9, 10, 11, 12, 13, 14, 15, 16, 0, 17, 18, 19, 20] [(0, .ref (sk_ad O k)), (1, .int (nI w)), (2, .int (nI S.m)), (3, .int (bst (mo_T S.r) (mo_S S.r) S.m s)), (4, .int (sk_acc (sk_sum (h_R S.r) s) (h_rv S.r s) e)), (5, .int (sk_sum (h_F S.r) s)), (6, .int (sk_sum (h_N S.r) s)), (7, .int (nI (mo_la S.r s + mo_lq S.r s e + mo_lp S.r s e p))), (8, .int (nI (pls (mo_T S.r) (mo_S S.r) S.m s))), (9, .int 1), (10, .int (nI s)), (11, .int (nI (mo_c S.r s))), (12, .int (mo_te S.r s e)), (13, .int (sk_sum (h_fl S.r s) e)), (14, .int (nI e)), (15, .int (nI (mo_n S.r s e))), (16, .int (mo_sb S.r s e (p + 1))), (17, .int (mo_sm S.r s e p)), (18, .int (nI p)), (19, .int (mo_v S.r s e p)), (20, .int (mo_wy S.r s e p))] dL_holds_139 (by decide) rfl ?_
              refine k_iload C 19 dL_holds_141 rfl ?_
              refine k_iload C 17 dL_holds_143 rfl ?_
              have J155 : sk_W l X O A Q 21 (1 + 250 * s + 1 + 20 * e + 1 + 3 * p + 2) (6 * (1 + 250 * s + 1 + 20 * e + 1 + 3 * p + 2)) M41 155 [(0, .ref (sk_ad O k)), (1, .int (nI w)), (2, .int (nI S.m)), (3, .int (bst (mo_T S.r) (mo_S S.r) S.m s)), (4, .int (sk_acc (sk_sum (h_R S.r) s) (h_rv S.r s) e)), (5, .int (sk_sum (h_F S.r) s)), (6, .int (sk_sum (h_N S.r) s)), (7, .int (nI (mo_la S.r s + mo_lq S.r s e + mo_lp S.r s e p))), (8, .int (nI (pls (mo_T S.r) (mo_S S.r) S.m s))), (9, .int 1), (10, .int (nI s)), (11, .int (nI (mo_c S.r s))), (12, .int (mo_te S.r s e)), (13, .int (sk_sum (h_fl S.r s) e)), (14, .int (nI e)), (15, .int (nI (mo_n S.r s e))), (16, .int (mo_sb S.r s e (p + 1))), (17, .int (mo_sm S.r s e p)), (18, .int (nI p)), (19, .int (mo_v S.r s e p)), (20, .int (mo_wy S.r s e p))] [.int (mo_sm S.r s e (p + 1))] := by
                refine k_istore C [1, 2, 3, 4, 5, 6, 7, 8, 9, 10, 11, 12, 13, 14, 15, 16, 17, 0, 18, 19, 20] [(0, .ref (sk_ad O k)), (1, .int (nI w)), (2, .int (nI S.m)), (3, .int (bst (mo_T S.r) (mo_S S.r) S.m s)), (4, .int (sk_acc (sk_sum (h_R S.r) s) (h_rv S.r s) e)), (5, .int (sk_sum (h_F S.r) s)), (6, .int (sk_sum (h_N S.r) s)), (7, .int (nI (mo_la S.r s + mo_lq S.r s e + mo_lp S.r s e p))), (8, .int (nI (pls (mo_T S.r) (mo_S S.r) S.m s))), (9, .int 1), (10, .int (nI s)), (11, .int (nI (mo_c S.r s))), (12, .int (mo_te S.r s e)), (13, .int (sk_sum (h_fl S.r s) e)), (14, .int (nI e)), (15, .int (nI (mo_n S.r s e))), (16, .int (mo_sb S.r s e (p + 1))), (17, .int (mo_sm S.r s e (p + 1))), (18, .int (nI p)), (19, .int (mo_v S.r s e p)), (20, .int (mo_wy S.r s e p))] dL_holds_155 (by decide) rfl ?_
                refine k_iload C 7 dL_holds_157 rfl ?_
                refine k_iload C 20 dL_holds_159 rfl ?_
                have J170 : sk_W l X O A Q 21 (1 + 250 * s + 1 + 20 * e + 1 + 3 * p + 2) (6 * (1 + 250 * s + 1 + 20 * e + 1 + 3 * p + 2)) M41 170 [(0, .ref (sk_ad O k)), (1, .int (nI w)), (2, .int (nI S.m)), (3, .int (bst (mo_T S.r) (mo_S S.r) S.m s)), (4, .int (sk_acc (sk_sum (h_R S.r) s) (h_rv S.r s) e)), (5, .int (sk_sum (h_F S.r) s)), (6, .int (sk_sum (h_N S.r) s)), (7, .int (nI (mo_la S.r s + mo_lq S.r s e + mo_lp S.r s e p))), (8, .int (nI (pls (mo_T S.r) (mo_S S.r) S.m s))), (9, .int 1), (10, .int (nI s)), (11, .int (nI (mo_c S.r s))), (12, .int (mo_te S.r s e)), (13, .int (sk_sum (h_fl S.r s) e)), (14, .int (nI e)), (15, .int (nI (mo_n S.r s e))), (16, .int (mo_sb S.r s e (p + 1))), (17, .int (mo_sm S.r s e (p + 1))), (18, .int (nI p)), (19, .int (mo_v S.r s e p)), (20, .int (mo_wy S.r s e p))] [.int (nI (mo_la S.r s + mo_lq S.r s e + mo_lp S.r s e (p + 1)))] := by
                  refine k_istore C [1, 2, 3, 4, 5, 6, 7, 0, 8, 9, 10, 11, 12, 13, 14, 15, 16, 17, 18, 19, 20] [(0, .ref (sk_ad O k)), (1, .int (nI w)), (2, .int (nI S.m)), (3, .int (bst (mo_T S.r) (mo_S S.r) S.m s)), (4, .int (sk_acc (sk_sum (h_R S.r) s) (h_rv S.r s) e)), (5, .int (sk_sum (h_F S.r) s)), (6, .int (sk_sum (h_N S.r) s)), (7, .int (nI (mo_la S.r s + mo_lq S.r s e + mo_lp S.r s e (p + 1)))), (8, .int (nI (pls (mo_T S.r) (mo_S S.r) S.m s))), (9, .int 1), (10, .int (nI s)), (11, .int (nI (mo_c S.r s))), (12, .int (mo_te S.r s e)), (13, .int (sk_sum (h_fl S.r s) e)), (14, .int (nI e)), (15, .int (nI (mo_n S.r s e))), (16, .int (mo_sb S.r s e (p + 1))), (17, .int (mo_sm S.r s e (p + 1))), (18, .int (nI p)), (19, .int (mo_v S.r s e p)), (20, .int (mo_wy S.r s e p))] dL_holds_170 (by decide) rfl ?_
                  refine k_iload C 19 dL_holds_172 rfl ?_
                  refine k_zlt C 224 dL_holds_174 (by decide) (fun e0 => absurd e0 (by rw [ept]; exact nI_pos (by omega))) (fun _ => ?_)
                  refine k_iload C 20 dL_holds_177 rfl ?_
                  refine k_zlt C 224 dL_holds_179 (by decide) (fun e0 => absurd e0 (by rw [epy]; exact nI_pos (by omega))) (fun _ => ?_)
                  refine k_iload C 20 dL_holds_182 rfl ?_
                  refine k_iconst C 5 dL_holds_184 (by decide) ?_
                  refine k_cgt C 224 dL_holds_185 (by decide) (fun e0 => absurd e0 (by rw [epy, show (5 : Int32) = nI 5 from rfl, nI_ltI (by omega) (by omega)]; omega)) (fun _ => ?_)
                  refine k_iload C 20 dL_holds_188 rfl ?_
                  refine k_iconst C 2 dL_holds_190 (by decide) ?_
                  have J220 : ∀ N : sk_M, rl_J k M S N → sk_W l X O A Q 21 (1 + 250 * s + 1 + 20 * e + 1 + 3 * p + 3) (6 * (1 + 250 * s + 1 + 20 * e + 1 + 3 * p + 3)) N 220 [(0, .ref (sk_ad O k)), (1, .int (nI w)), (2, .int (nI S.m)), (3, .int (bst (mo_T S.r) (mo_S S.r) S.m s)), (4, .int (sk_acc (sk_sum (h_R S.r) s) (h_rv S.r s) e)), (5, .int (sk_sum (h_F S.r) s)), (6, .int (sk_sum (h_N S.r) s)), (7, .int (nI (mo_la S.r s + mo_lq S.r s e + mo_lp S.r s e (p + 1)))), (8, .int (nI (pls (mo_T S.r) (mo_S S.r) S.m s))), (9, .int 1), (10, .int (nI s)), (11, .int (nI (mo_c S.r s))), (12, .int (mo_te S.r s e)), (13, .int (sk_sum (h_fl S.r s) e)), (14, .int (nI e)), (15, .int (nI (mo_n S.r s e))), (16, .int (mo_sb S.r s e (p + 1))), (17, .int (mo_sm S.r s e (p + 1))), (18, .int (nI p)), (19, .int (mo_v S.r s e p)), (20, .int (mo_wy S.r s e p))] [] := by
                    intro N hJ
                    refine k_iconst C 1 dL_holds_220 (by decide) ?_
                    refine k_goto C 225 dL_holds_221 (by decide) ?_
                    refine k_istore C [1, 2, 3, 4, 5, 6, 7, 8, 9, 0, 10, 11, 12, 13, 14, 15, 16, 17, 18, 19, 20] [(0, .ref (sk_ad O k)), (1, .int (nI w)), (2, .int (nI S.m)), (3, .int (bst (mo_T S.r) (mo_S S.r) S.m s)), (4, .int (sk_acc (sk_sum (h_R S.r) s) (h_rv S.r s) e)), (5, .int (sk_sum (h_F S.r) s)), (6, .int (sk_sum (h_N S.r) s)), (7, .int (nI (mo_la S.r s + mo_lq S.r s e + mo_lp S.r s e (p + 1)))), (8, .int (nI (pls (mo_T S.r) (mo_S S.r) S.m s))), (9, .int 1), (10, .int (nI s)), (11, .int (nI (mo_c S.r s))), (12, .int (mo_te S.r s e)), (13, .int (sk_sum (h_fl S.r s) e)), (14, .int (nI e)), (15, .int (nI (mo_n S.r s e))), (16, .int (mo_sb S.r s e (p + 1))), (17, .int (mo_sm S.r s e (p + 1))), (18, .int (nI p)), (19, .int (mo_v S.r s e p)), (20, .int (mo_wy S.r s e p))] dL_holds_225 (by decide) rfl ?_
                    refine k_iinc C 18 (nI (p + 1)) [1, 2, 3, 4, 5, 6, 7, 8, 9, 10, 11, 12, 13, 14, 15, 16, 17, 18, 0, 19, 20] [(0, .ref (sk_ad O k)), (1, .int (nI w)), (2, .int (nI S.m)), (3, .int (bst (mo_T S.r) (mo_S S.r) S.m s)), (4, .int (sk_acc (sk_sum (h_R S.r) s) (h_rv S.r s) e)), (5, .int (sk_sum (h_F S.r) s)), (6, .int (sk_sum (h_N S.r) s)), (7, .int (nI (mo_la S.r s + mo_lq S.r s e + mo_lp S.r s e (p + 1)))), (8, .int (nI (pls (mo_T S.r) (mo_S S.r) S.m s))), (9, .int 1), (10, .int (nI s)), (11, .int (nI (mo_c S.r s))), (12, .int (mo_te S.r s e)), (13, .int (sk_sum (h_fl S.r s) e)), (14, .int (nI e)), (15, .int (nI (mo_n S.r s e))), (16, .int (mo_sb S.r s e (p + 1))), (17, .int (mo_sm S.r s e (p + 1))), (18, .int (nI (p + 1))), (19, .int (mo_v S.r s e p)), (20, .int (mo_wy S.r s e p))] dL_holds_227 rfl (nI_add _ 1) (by decide) rfl ?_
                    refine k_goto C 96 dL_holds_230 (by decide) ?_
                    refine k_sub [0, 1, 2, 3, 4, 5, 6, 7, 8, 9, 10, 11, 12, 13, 14, 15, 16, 17, 18] (lv' := [(0, .ref (sk_ad O k)), (1, .int (nI w)), (2, .int (nI S.m)), (3, .int (bst (mo_T S.r) (mo_S S.r) S.m s)), (4, .int (sk_acc (sk_sum (h_R S.r) s) (h_rv S.r s) e)), (5, .int (sk_sum (h_F S.r) s)), (6, .int (sk_sum (h_N S.r) s)), (7, .int (nI (mo_la S.r s + mo_lq S.r s e + mo_lp S.r s e (p + 1)))), (8, .int (nI (pls (mo_T S.r) (mo_S S.r) S.m s))), (9, .int 1), (10, .int (nI s)), (11, .int (nI (mo_c S.r s))), (12, .int (mo_te S.r s e)), (13, .int (sk_sum (h_fl S.r s) e)), (14, .int (nI e)), (15, .int (nI (mo_n S.r s e))), (16, .int (mo_sb S.r s e (p + 1))), (17, .int (mo_sm S.r s e (p + 1))), (18, .int (nI (p + 1)))]) rfl ?_
                    exact k_widen (by omega) (by omega) (ih3 (p + 1) _ (by omega) hJ)
                  have J199 : sk_W l X O A Q 21 (1 + 250 * s + 1 + 20 * e + 1 + 3 * p + 2) (6 * (1 + 250 * s + 1 + 20 * e + 1 + 3 * p + 2)) M41 199 [(0, .ref (sk_ad O k)), (1, .int (nI w)), (2, .int (nI S.m)), (3, .int (bst (mo_T S.r) (mo_S S.r) S.m s)), (4, .int (sk_acc (sk_sum (h_R S.r) s) (h_rv S.r s) e)), (5, .int (sk_sum (h_F S.r) s)), (6, .int (sk_sum (h_N S.r) s)), (7, .int (nI (mo_la S.r s + mo_lq S.r s e + mo_lp S.r s e (p + 1)))), (8, .int (nI (pls (mo_T S.r) (mo_S S.r) S.m s))), (9, .int 1), (10, .int (nI s)), (11, .int (nI (mo_c S.r s))), (12, .int (mo_te S.r s e)), (13, .int (sk_sum (h_fl S.r s) e)), (14, .int (nI e)), (15, .int (nI (mo_n S.r s e))), (16, .int (mo_sb S.r s e (p + 1))), (17, .int (mo_sm S.r s e (p + 1))), (18, .int (nI p)), (19, .int (mo_v S.r s e p)), (20, .int (mo_wy S.r s e p))] [] := by
                    refine k_iload C 20 dL_holds_199 rfl ?_
                    refine k_iconst C 1 dL_holds_201 (by decide) ?_
                    refine k_cne C 220 dL_holds_202 (by decide) (fun hv => k_widen (by omega) (by omega) (J220 _ hJ)) (fun hv => ?_)
                    have hpy3 := hpy1 ((nI_eq (b := 1) (by omega) (by omega)).mp (epy.symm.trans hv))
                    refine k_aloadn C 0 dL_holds_205 rfl ?_
                    refine k_iload C 10 dL_holds_206 rfl ?_
                    refine k_iload C 14 dL_holds_208 rfl ?_
                    refine k_iload C 18 dL_holds_210 rfl ?_
                    refine k_iconst C 1 dL_holds_212 (by decide) ?_
                    refine k_kg C hSr hNx (1 + 250 * s + 1 + 20 * e + 1 + 3 * p + 3) (as := [.ref (sk_ad O k), .int (nI s), .int (nI e), .int (nI p), .int 1]) yg_tryPart ml_L_166 (t_tryPart l hO hst hJ.1 hk (nI s) (nI e) (nI p) 1) rfl rfl (Nat.le_of_ble_eq_true rfl) ⟨⟨by decide, by decide⟩, by omega, by show 1 + 250 * s + 1 + 20 * e + 1 + 3 * p + 3 ≤ 1025; omega, by show 6 * (1 + 250 * s + 1 + 20 * e + 1 + 3 * p + 3) ≤ 6150; omega⟩ dL_holds_213 (fun x M42 h => ?_)
                    obtain ⟨hx, hj⟩ := p_at s0 hs he hp (by decide) h
                    rw [pa_1] at hx
                    subst hx
                    replace hJ := hJ.t hj
                    clear hj
                    refine k_iconst C 2 dL_holds_216 (by decide) ?_
                    refine k_cle C 224 dL_holds_217 (by decide) (fun e0 => absurd e0 (Int32.not_le.mpr hpy3)) (fun _ => ?_)
                    exact J220 _ hJ
                  refine k_clt C 199 dL_holds_191 (by decide) (fun _ => J199) (fun hv => ?_)
                  rw [epy, show (2 : Int32) = nI 2 from rfl, nI_ltI (by omega) (by omega)] at hv
                  refine k_iload C 19 dL_holds_194 rfl ?_
                  refine k_zne C 224 dL_holds_196 (by decide) (fun e0 => absurd (hpy2 (by omega)) e0) (fun _ => ?_)
                  exact J199
                have elp : mo_la S.r s + mo_lq S.r s e + mo_lp S.r s e (p + 1) = mo_la S.r s + mo_lq S.r s e + mo_lp S.r s e p + if 0 < mo_wy S.r s e p then 1 else 0 := (Nat.add_assoc _ _ _).symm
                rw [elp] at J170
                refine k_zle C 168 dL_holds_161 (by decide) (fun hv => ?_) (fun hv => ?_)
                · skip
                  refine k_iconst C 0 dL_holds_168 (by decide) ?_
                  refine k_iadd C dL_holds_169 ?_
                  exact k_top _ (in_n rfl rfl (Int32.not_lt.mpr hv)) J170
                · skip
                  refine k_iconst C 1 dL_holds_164 (by decide) ?_
                  refine k_goto C 169 dL_holds_165 (by decide) ?_
                  refine k_iadd C dL_holds_169 ?_
                  exact k_top _ (in_y rfl rfl (Int32.not_le.mp hv)) J170
              refine k_cle C 153 dL_holds_145 (by decide) (fun hv => ?_) (fun hv => ?_)
              · skip
                refine k_iload C 17 dL_holds_153 rfl ?_
                exact k_top _ (mo_sz hv) J155
              · skip
                refine k_iload C 19 dL_holds_148 rfl ?_
                refine k_goto C 155 dL_holds_150 (by decide) ?_
                exact k_top _ (mo_sy (Int32.not_le.mp hv)) J155
          exact L96 (mo_n S.r s e) 0 _ (by omega) hJ
      exact L63 (mo_c S.r s) 0 _ (by omega) hJ
  exact L32 S.m 0 _ (by omega) hJ
