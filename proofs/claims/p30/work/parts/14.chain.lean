/-! Text: chains, elements -/
theorem pg_sp_r {M : sk_M} {g e p a : Nat} {x y z : Int32} (h : a < g + 2 ∨ g + 9 ≤ a) : pg_sp M g e p x y z a = M a := by funext b; exact pg_sp_x (by omega)
theorem pg_se_r {M : sk_M} {g e a : Nat} {x : Int32} (h : a < g ∨ g + 10 ≤ a) : pg_se M g e x a = M a := by funext b; exact pg_se_x (by omega)
theorem ph_last {M : sk_M} {g : Nat} {L : List sk_E} {el : sk_E} (h : sk_ph M g (L ++ [el])) : sk_pe M g L.length el := h.2 L.length el (by rw [List.getElem?_append_right (Nat.le_refl _), Nat.sub_self]; rfl)
theorem tj_le {s : Nat → Int32} {a x : Nat} {j : sk_J} (h : tj s a = .inr (x, j)) : x ≤ a + 3 ∧ a + 2 ≤ x := by
  unfold tj at h
  split at h
  · cases h
  · split at h
    · cases h
    · cases h
      split <;> omega
theorem tj_el {s : Nat → Int32} {a x : Nat} (h : tj s a = .inl x) : x ≤ a + 1 ∧ a ≤ x := by
  unfold tj at h
  split at h
  · cases h; omega
  · split at h
    · cases h; omega
    · cases h
theorem tcl_e {s : Nat → Int32} {b x : Nat} {js : List sk_J} (h : tj s b = .inl x) (k : Nat) : tcl s (k + 1) b js = .inl x := by rw [tcl, h]
theorem tcl_y {s : Nat → Int32} {b x : Nat} {js : List sk_J} {j : sk_J} (h : tj s b = .inr (x, j)) {k : Nat} (c : s x = 43 ∧ 0 < k) : tcl s (k + 1) b js = tcl s k (x + 1) (js ++ [j]) := by
  rw [tcl, h]
  exact if_pos c
theorem tcl_n {s : Nat → Int32} {b x : Nat} {js : List sk_J} {j : sk_J} (h : tj s b = .inr (x, j)) {k : Nat} (c : ¬ (s x = 43 ∧ 0 < k)) : tcl s (k + 1) b js = .inr (x, js ++ [j]) := by
  rw [tcl, h]
  exact if_neg c
theorem fr_1 {t g : Nat} {M N : sk_M} {v : Int32} (h : sk_fr t g M N) : sk_fr t g M (sk_ms N t 2 v) :=
  ⟨fun a h1 h2 => by rw [sk_nf h2]; exact h.1 a h1 h2, by rw [sk_ne (by omega)]; exact h.2⟩
theorem fr_2 {t g e p : Nat} {M N : sk_M} {x y z : Int32} (h : sk_fr t g M N) (hap : t + 1 < g ∨ g + 9 < t) : sk_fr t g M (pg_sp N g e p x y z) :=
  ⟨fun a h1 h2 => by rw [pg_sp_r (by omega)]; exact h.1 a h1 h2, by rw [pg_sp_r (by omega)]; exact h.2⟩
theorem fr_3 {t g e : Nat} {M N : sk_M} {x : Int32} (h : sk_fr t g M N) (hap : t + 1 < g ∨ g + 9 < t) : sk_fr t g M (pg_se N g e x) :=
  ⟨fun a h1 h2 => by rw [pg_se_r (by omega)]; exact h.1 a h1 h2, by rw [pg_se_r (by omega)]; exact h.2⟩
theorem fr_0 {t g : Nat} {M : sk_M} : sk_fr t g M M := ⟨fun _ _ _ => rfl, rfl⟩
theorem te_qz {t g : Nat} {M M' : sk_M} {L : List sk_E} {R : Nat ⊕ (Nat × sk_E)} {r : Int32} (h : te_q t g M L R r M') : narrow .boolean (.int r) = .int r := by
  rcases h with ⟨x, -, rfl, -⟩ | ⟨b, el, -, rfl, -⟩ <;> rfl
def tci (S : Nat → Int32) (n a t g : Nat) (M : sk_M) (L : List sk_E) (i : Nat) (N : sk_M) (b : Nat) (js : List sk_J) (mo : Int32) : Prop :=
  js.length = i ∧ sk_ph N g (L ++ [(0, js)]) ∧ N t 2 = nI b ∧ sk_fr t g M N ∧ b ≤ a + 4 * i ∧ ((mo = 1 ∧ i < 3 ∧ tcl (tx S n) 3 a [] = tcl (tx S n) (3 - i) b js) ∨ (mo = 0 ∧ tcl (tx S n) 3 a [] = .inr (b, js)))
set_option maxHeartbeats 4000000 in
set_option maxRecDepth 100000 in
theorem m_X6_readChain (l : Launch) {O : sk_O} (hO : sk_inj O) (M : sk_M) (t n a g : Nat) (S : Nat → Int32) (L : List sk_E) (ht : sk_isT O t) (hS : M (t + 1) = S) (hn : M t 1 = nI n) (ha : M t 2 = nI a) (hn2 : n ≤ 120) (ha2 : a ≤ 800) (hg : sk_isP O g) (hL : sk_ph M g L) (hL2 : L.length < 12) (hap : t + 1 < g ∨ g + 9 < t) : sk_Mi l yX6_readChain (sk_w yX6_readChain cX6_readChain 4 (some .boolean)) ({ frames := 3, cells := 0, slots := 0, locals := 65 }) O [.ref (sk_ad O t), .ref (sk_ad O g)] M (te_q t g M L (tch (tx S n) a)) := by
  refine sk_mi (by decide) ⟨rfl, rfl⟩ hO (Nat.le_of_ble_eq_true rfl) (fun X A Q C ret => ?_)
  show sk_W l X O A Q 4 0 0 M 0 [(0, .ref (sk_ad O t)), (1, .ref (sk_ad O g))] []
  refine k_aloadn C 1 dX6_readChain_0 rfl ?_
  refine k_iconst C (0) dX6_readChain_1 (by decide) ?_
  refine k_vv C (as := [.int (0)]) yvX2_startElement viX2_startElement ml_X6_46 (m_X2_startElement l C.2.2.2.1 M (k := g) (N := L.length) (t := (0)) (hk := hg) (hN := hL.1) (hN2 := hL2)) hg.1 rfl rfl rfl (Nat.le_of_ble_eq_true rfl) (by decide) dX6_readChain_2 (fun M2_1 h2_1 => ?_)
  rw [h2_1]
  refine k_iconst C (1) dX6_readChain_5 (by decide) ?_
  refine k_istoren C [1, 2, 0] [(0, .ref (sk_ad O t)), (1, .ref (sk_ad O g)), (2, .int (1))] dX6_readChain_6 (by decide) rfl ?_
  refine k_iconst C (1) dX6_readChain_7 (by decide) ?_
  refine k_istoren C [1, 2, 3, 0] [(0, .ref (sk_ad O t)), (1, .ref (sk_ad O g)), (2, .int (1)), (3, .int (1))] dX6_readChain_8 (by decide) rfl ?_
  have L9 : ∀ i, i ≤ 3 → ∀ (N : sk_M) (b : Nat) (js : List sk_J) (mo : Int32), tci S n a t g M L i N b js mo → sk_W l X O A Q 4 0 0 N 9 [(0, .ref (sk_ad O t)), (1, .ref (sk_ad O g)), (2, .int mo), (3, .int (nI (i + 1)))] [] := by
    refine sk_loop 3 (fun i hi9 ih9 => ?_)
    intro N b js mo hI
    obtain ⟨j1, j2, j3, j4, j5, j6⟩ := hI
    have hS2 : N (t + 1) = S := (j4.1 _ (by omega) (by omega)).trans hS
    have hn3 : N t 1 = nI n := j4.2.trans hn
    refine k_iloadn C 3 dX6_readChain_9 rfl ?_
    refine k_iconst C (3) dX6_readChain_10 (by decide) ?_
    refine k_cgt C 72 dX6_readChain_11 (by decide) (fun c11_2 => ?_) (fun c11_2 => ?_)
    ·
      have nc11_2 : 3 < i + 1 := (sk_lI (a := 3) (b := i + 1) (rfl : ((3) : Int32) = nI 3) rfl (by omega) (by omega)).mp c11_2
      refine k_iconst C (1) dX6_readChain_72 (by decide) ?_
      exact ret _ _ _ _ dX6_readChain_73 rfl (by exact Or.inr ⟨b, (0, js), by rw [tch, (j6.resolve_left (fun h => absurd h.2.1 (by omega))).2], rfl, j3, j2, j4⟩)
    ·
      have nc11_2 : ¬ (3 < i + 1) := fun h => c11_2 ((sk_lI (a := 3) (b := i + 1) (rfl : ((3) : Int32) = nI 3) rfl (by omega) (by omega)).mpr h)
      refine k_iloadn C 2 dX6_readChain_14 rfl ?_
      refine k_zeq C 72 dX6_readChain_15 (by decide) (fun c15_3 => ?_) (fun c15_3 => ?_)
      ·
        refine k_iconst C (1) dX6_readChain_72 (by decide) ?_
        exact ret _ _ _ _ dX6_readChain_73 rfl (by exact Or.inr ⟨b, (0, js), by rw [tch, (j6.resolve_left (fun h => by rw [h.1] at c15_3; exact absurd c15_3 (by decide))).2], rfl, j3, j2, j4⟩)
      ·
        obtain ⟨j7, j8, j9⟩ := j6.resolve_right (fun h => c15_3 h.1)
        refine k_aloadn C 0 dX6_readChain_18 rfl ?_
        refine k_aloadn C 1 dX6_readChain_19 rfl ?_
        refine k_vi C (as := [.ref (sk_ad O g)]) yvX6_readJump viX6_readJump ml_X6_54 (m_X6_readJump l C.2.2.2.1 N (t := t) (n := n) (a := b) (g := g) (e := L.length) (p := js.length) (S := S) (ht := ht) (hS := hS2) (hn := hn3) (ha := j3) (hn2 := hn2) (ha2 := (by omega)) (hg := hg) (hN := (by rw [j2.1]; simp)) (he := hL2) (hp := (ph_last j2).2.1) (hp3 := (by omega)) (hap := hap)) ht.1 rfl rfl rfl (Nat.le_of_ble_eq_true rfl) (by decide) dX6_readChain_20 (fun x20_4 M20_4 h20_4 => ?_)
        rcases h20_4 with ⟨x9, q1, rfl, rfl⟩ | ⟨x9, w9, q1, rfl, rfl⟩
        ·
          refine k_zne C 28 dX6_readChain_23 (by decide) (fun c23_5 => ?_) (fun c23_5 => ?_)
          ·
            exact absurd c23_5 (by decide)
          ·
            refine k_iconst C (0) dX6_readChain_26 (by decide) ?_
            exact ret _ _ _ _ dX6_readChain_27 rfl (by exact Or.inl ⟨x9, by rw [tch, j9, show 3 - i = (2 - i) + 1 from by omega, tcl_e q1], rfl, by rw [sk_sm], fr_1 j4⟩)
        ·
          have hx9 := tj_le q1
          refine k_zne C 28 dX6_readChain_23 (by decide) (fun c23_6 => ?_) (fun c23_6 => ?_)
          ·
            refine k_aloadn C 0 dX6_readChain_28 rfl ?_
            refine k_vi C (as := []) yvX6_sign viX6_sign ml_X6_35 (m_X6_sign l C.2.2.2.1 (pg_sp (sk_ms N t 2 (nI x9)) g L.length js.length w9.1 w9.2.1 w9.2.2) (t := t) (n := n) (a := x9) (S := S) (ht := ht) (hS := (by rw [pg_sp_r (by omega), sk_nf (by omega)]; exact hS2)) (hn := (by rw [pg_sp_r (by omega), sk_ne (by omega)]; exact hn3)) (ha := (by rw [pg_sp_r (by omega), sk_sm])) (hn2 := hn2) (ha2 := (by omega))) ht.1 rfl rfl rfl (Nat.le_of_ble_eq_true rfl) (by decide) dX6_readChain_29 (fun x29_7 M29_7 h29_7 => ?_)
            rw [h29_7.1, h29_7.2]
            refine k_bipush C (43) dX6_readChain_32 (by decide) ?_
            refine k_cne C 46 dX6_readChain_34 (by decide) (fun c34_8 => ?_) (fun c34_8 => ?_)
            ·
              refine k_iconst C (0) dX6_readChain_46 (by decide) ?_
              refine k_istoren C [1, 2, 0, 3] [(0, .ref (sk_ad O t)), (1, .ref (sk_ad O g)), (2, .int (0)), (3, .int (nI (i + 1)))] dX6_readChain_47 (by decide) rfl ?_
              refine k_aloadn C 0 dX6_readChain_48 rfl ?_
              refine k_dup C dX6_readChain_49 rfl ?_
              refine k_geti C (j := 2) kcl_X6 fl_X6_23 ht.1 (by decide) rfl dX6_readChain_50 ?_
              refine k_iloadn C 2 dX6_readChain_53 rfl ?_
              refine k_zeq C 61 dX6_readChain_54 (by decide) (fun c54_9 => ?_) (fun c54_9 => ?_)
              ·
                refine k_iconst C (0) dX6_readChain_61 (by decide) ?_
                refine k_iadd C dX6_readChain_62 ?_
                refine k_puti C (j := 2) (ty := .int) tyX6 kcl_X6 tyX6_ok nmX6 fl_X6_23 ht.1 (by decide) rfl rfl (by decide +kernel) rfl rfl dX6_readChain_63 ?_
                refine k_iinc C 3 (nI (i + 1 + 1)) [1, 2, 3, 0] [(0, .ref (sk_ad O t)), (1, .ref (sk_ad O g)), (2, .int (0)), (3, .int (nI (i + 1 + 1)))] dX6_readChain_66 rfl (nI_add _ _) (by decide) rfl ?_
                refine k_goto C 9 dX6_readChain_69 (by decide) ?_
                exact ih9 (by omega) _ x9 (js ++ [w9]) _ ⟨by simp [j1], ph_at (ph_sp (ph_at j2 (by omega)) (by omega)) (by omega), by rw [sk_sm, pg_sp_r (by omega), sk_sm]; exact nI_add _ 0, fr_1 (fr_2 (fr_1 j4) hap), by omega, Or.inr ⟨rfl, by rw [j9, show 3 - i = (2 - i) + 1 from by omega, tcl_n q1 (show ¬ (tx S n x9 = 43 ∧ 0 < 2 - i) from fun h => c34_8 h.1)]⟩⟩
              ·
                exact absurd c54_9 (by decide)
            ·
              refine k_iloadn C 3 dX6_readChain_37 rfl ?_
              refine k_iconst C (3) dX6_readChain_38 (by decide) ?_
              refine k_cge C 46 dX6_readChain_39 (by decide) (fun c39_10 => ?_) (fun c39_10 => ?_)
              ·
                have nc39_10 : 3 ≤ i + 1 := (sk_eI (a := 3) (b := i + 1) (rfl : ((3) : Int32) = nI 3) rfl (by omega) (by omega)).mp c39_10
                refine k_iconst C (0) dX6_readChain_46 (by decide) ?_
                refine k_istoren C [1, 2, 0, 3] [(0, .ref (sk_ad O t)), (1, .ref (sk_ad O g)), (2, .int (0)), (3, .int (nI (i + 1)))] dX6_readChain_47 (by decide) rfl ?_
                refine k_aloadn C 0 dX6_readChain_48 rfl ?_
                refine k_dup C dX6_readChain_49 rfl ?_
                refine k_geti C (j := 2) kcl_X6 fl_X6_23 ht.1 (by decide) rfl dX6_readChain_50 ?_
                refine k_iloadn C 2 dX6_readChain_53 rfl ?_
                refine k_zeq C 61 dX6_readChain_54 (by decide) (fun c54_11 => ?_) (fun c54_11 => ?_)
                ·
                  refine k_iconst C (0) dX6_readChain_61 (by decide) ?_
                  refine k_iadd C dX6_readChain_62 ?_
                  refine k_puti C (j := 2) (ty := .int) tyX6 kcl_X6 tyX6_ok nmX6 fl_X6_23 ht.1 (by decide) rfl rfl (by decide +kernel) rfl rfl dX6_readChain_63 ?_
                  refine k_iinc C 3 (nI (i + 1 + 1)) [1, 2, 3, 0] [(0, .ref (sk_ad O t)), (1, .ref (sk_ad O g)), (2, .int (0)), (3, .int (nI (i + 1 + 1)))] dX6_readChain_66 rfl (nI_add _ _) (by decide) rfl ?_
                  refine k_goto C 9 dX6_readChain_69 (by decide) ?_
                  exact ih9 (by omega) _ x9 (js ++ [w9]) _ ⟨by simp [j1], ph_at (ph_sp (ph_at j2 (by omega)) (by omega)) (by omega), by rw [sk_sm, pg_sp_r (by omega), sk_sm]; exact nI_add _ 0, fr_1 (fr_2 (fr_1 j4) hap), by omega, Or.inr ⟨rfl, by rw [j9, show 3 - i = (2 - i) + 1 from by omega, tcl_n q1 (show ¬ (tx S n x9 = 43 ∧ 0 < 2 - i) from fun h => absurd h.2 (by omega))]⟩⟩
                ·
                  exact absurd c54_11 (by decide)
              ·
                have nc39_10 : ¬ (3 ≤ i + 1) := fun h => c39_10 ((sk_eI (a := 3) (b := i + 1) (rfl : ((3) : Int32) = nI 3) rfl (by omega) (by omega)).mpr h)
                refine k_iconst C (1) dX6_readChain_42 (by decide) ?_
                refine k_goto C 47 dX6_readChain_43 (by decide) ?_
                refine k_istoren C [1, 2, 0, 3] [(0, .ref (sk_ad O t)), (1, .ref (sk_ad O g)), (2, .int (1)), (3, .int (nI (i + 1)))] dX6_readChain_47 (by decide) rfl ?_
                refine k_aloadn C 0 dX6_readChain_48 rfl ?_
                refine k_dup C dX6_readChain_49 rfl ?_
                refine k_geti C (j := 2) kcl_X6 fl_X6_23 ht.1 (by decide) rfl dX6_readChain_50 ?_
                refine k_iloadn C 2 dX6_readChain_53 rfl ?_
                refine k_zeq C 61 dX6_readChain_54 (by decide) (fun c54_12 => ?_) (fun c54_12 => ?_)
                ·
                  exact absurd c54_12 (by decide)
                ·
                  refine k_iconst C (1) dX6_readChain_57 (by decide) ?_
                  refine k_goto C 62 dX6_readChain_58 (by decide) ?_
                  refine k_iadd C dX6_readChain_62 ?_
                  refine k_puti C (j := 2) (ty := .int) tyX6 kcl_X6 tyX6_ok nmX6 fl_X6_23 ht.1 (by decide) rfl rfl (by decide +kernel) rfl rfl dX6_readChain_63 ?_
                  refine k_iinc C 3 (nI (i + 1 + 1)) [1, 2, 3, 0] [(0, .ref (sk_ad O t)), (1, .ref (sk_ad O g)), (2, .int (1)), (3, .int (nI (i + 1 + 1)))] dX6_readChain_66 rfl (nI_add _ _) (by decide) rfl ?_
                  refine k_goto C 9 dX6_readChain_69 (by decide) ?_
                  exact ih9 (by omega) _ (x9 + 1) (js ++ [w9]) _ ⟨by simp [j1], ph_at (ph_sp (ph_at j2 (by omega)) (by omega)) (by omega), by rw [sk_sm, pg_sp_r (by omega), sk_sm]; exact nI_add _ 1, fr_1 (fr_2 (fr_1 j4) hap), by omega, Or.inl ⟨rfl, by omega, by rw [j9, show 3 - i = (2 - i) + 1 from by omega, tcl_y q1 ⟨c34_8, by omega⟩, show 3 - (i + 1) = 2 - i from by omega]⟩⟩
          ·
            exact absurd c23_6 (by decide)
  exact L9 0 (Nat.zero_le _) _ a [] 1 ⟨rfl, ph_se hL, (by rw [pg_se_r (by omega)]; exact ha), fr_3 fr_0 hap, by omega, Or.inl ⟨rfl, by omega, rfl⟩⟩

set_option maxHeartbeats 4000000 in
set_option maxRecDepth 100000 in
theorem m_X6_readElement (l : Launch) {O : sk_O} (hO : sk_inj O) (M : sk_M) (t n a g : Nat) (S : Nat → Int32) (L : List sk_E) (ht : sk_isT O t) (hS : M (t + 1) = S) (hn : M t 1 = nI n) (ha : M t 2 = nI a) (hn2 : n ≤ 120) (ha2 : a ≤ 800) (hg : sk_isP O g) (hL : sk_ph M g L) (hL2 : L.length < 12) (hap : t + 1 < g ∨ g + 9 < t) : sk_Mi l yX6_readElement (sk_w yX6_readElement cX6_readElement 2 (some .boolean)) ({ frames := 4, cells := 0, slots := 0, locals := 88 }) O [.ref (sk_ad O t), .ref (sk_ad O g)] M (te_q t g M L (te (tx S n) a)) := by
  refine sk_mi (by decide) ⟨rfl, rfl⟩ hO (Nat.le_of_ble_eq_true rfl) (fun X A Q C ret => ?_)
  show sk_W l X O A Q 2 0 0 M 0 [(0, .ref (sk_ad O t)), (1, .ref (sk_ad O g))] []
  refine k_aloadn C 0 dX6_readElement_0 rfl ?_
  refine k_vi C (as := []) yvX6_sign viX6_sign ml_X6_35 (m_X6_sign l C.2.2.2.1 M (t := t) (n := n) (a := a) (S := S) (ht := ht) (hS := hS) (hn := hn) (ha := ha) (hn2 := hn2) (ha2 := (by omega))) ht.1 rfl rfl rfl (Nat.le_of_ble_eq_true rfl) (by decide) dX6_readElement_1 (fun x1_1 M1_1 h1_1 => ?_)
  rw [h1_1.1, h1_1.2]
  refine k_bipush C (112) dX6_readElement_4 (by decide) ?_
  refine k_cne C 16 dX6_readElement_6 (by decide) (fun c6_2 => ?_) (fun c6_2 => ?_)
  ·
    refine k_aloadn C 0 dX6_readElement_16 rfl ?_
    refine k_vi C (as := []) yvX6_sign viX6_sign ml_X6_35 (m_X6_sign l C.2.2.2.1 M (t := t) (n := n) (a := a) (S := S) (ht := ht) (hS := hS) (hn := hn) (ha := ha) (hn2 := hn2) (ha2 := (by omega))) ht.1 rfl rfl rfl (Nat.le_of_ble_eq_true rfl) (by decide) dX6_readElement_17 (fun x17_3 M17_3 h17_3 => ?_)
    rw [h17_3.1, h17_3.2]
    refine k_bipush C (115) dX6_readElement_20 (by decide) ?_
    refine k_cne C 32 dX6_readElement_22 (by decide) (fun c22_4 => ?_) (fun c22_4 => ?_)
    ·
      refine k_aloadn C 0 dX6_readElement_32 rfl ?_
      refine k_aloadn C 1 dX6_readElement_33 rfl ?_
      refine k_vi C (as := [.ref (sk_ad O g)]) yvX6_readChain viX6_readChain ml_X6_43 (m_X6_readChain l C.2.2.2.1 M (t := t) (n := n) (a := a) (g := g) (S := S) (L := L) (ht := ht) (hS := hS) (hn := hn) (ha := ha) (hn2 := hn2) (ha2 := ha2) (hg := hg) (hL := hL) (hL2 := hL2) (hap := hap)) ht.1 rfl rfl rfl (Nat.le_of_ble_eq_true rfl) (by decide) dX6_readElement_34 (fun x34_5 M34_5 h34_5 => ?_)
      exact ret _ _ _ _ dX6_readElement_37 (te_qz h34_5) (by rw [te, if_neg c6_2, if_neg c22_4]; exact h34_5)
    ·
      refine k_aloadn C 0 dX6_readElement_25 rfl ?_
      refine k_aloadn C 1 dX6_readElement_26 rfl ?_
      refine k_iconst C (2) dX6_readElement_27 (by decide) ?_
      refine k_vi C (as := [.ref (sk_ad O g), .int (2)]) yvX6_readLevel viX6_readLevel ml_X6_39 (m_X6_readLevel l C.2.2.2.1 M (t := t) (n := n) (a := a) (g := g) (S := S) (L := L) (ht := ht) (hS := hS) (hn := hn) (ha := ha) (hn2 := hn2) (ha2 := ha2) (hg := hg) (hL := hL) (hL2 := hL2) (hap := hap) (ty := (2))) ht.1 rfl rfl rfl (Nat.le_of_ble_eq_true rfl) (by decide) dX6_readElement_28 (fun x28_6 M28_6 h28_6 => ?_)
      exact ret _ _ _ _ dX6_readElement_31 (te_qz h28_6) (by rw [te, if_neg c6_2, if_pos c22_4]; exact h28_6)
  ·
    refine k_aloadn C 0 dX6_readElement_9 rfl ?_
    refine k_aloadn C 1 dX6_readElement_10 rfl ?_
    refine k_iconst C (1) dX6_readElement_11 (by decide) ?_
    refine k_vi C (as := [.ref (sk_ad O g), .int (1)]) yvX6_readLevel viX6_readLevel ml_X6_39 (m_X6_readLevel l C.2.2.2.1 M (t := t) (n := n) (a := a) (g := g) (S := S) (L := L) (ht := ht) (hS := hS) (hn := hn) (ha := ha) (hn2 := hn2) (ha2 := ha2) (hg := hg) (hL := hL) (hL2 := hL2) (hap := hap) (ty := (1))) ht.1 rfl rfl rfl (Nat.le_of_ble_eq_true rfl) (by decide) dX6_readElement_12 (fun x12_7 M12_7 h12_7 => ?_)
    exact ret _ _ _ _ dX6_readElement_15 (te_qz h12_7) (by rw [te, if_pos c6_2]; exact h12_7)
