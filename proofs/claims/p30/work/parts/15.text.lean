/-! Text: whole texts -/
def tel (s : Nat → Int32) (n : Nat) : Nat → Nat → List sk_E → Nat ⊕ List sk_E
  | 0, a, L => if a = n then .inr L else .inl a
  | k + 1, a, L => match te s a with
    | .inl x => .inl x
    | .inr (b, el) => if s b = 59 ∧ 0 < k then tel s n k (b + 1) (L ++ [el]) else if b = n then .inr (L ++ [el]) else .inl b
def tt (s : Nat → Int32) (n : Nat) : Nat ⊕ List sk_E := tel s n 12 0 []
theorem tcl_le {s : Nat → Int32} : ∀ (k a : Nat) (js : List sk_J) (b : Nat) (js' : List sk_J), tcl s k a js = .inr (b, js') → b ≤ a + 4 * k
  | 0, a, js, b, js', h => by cases h; omega
  | k + 1, a, js, b, js', h => by
    cases q : tj s a with
    | inl x => rw [tcl_e q] at h; cases h
    | inr y =>
      obtain ⟨x, j⟩ := y
      have hx := (tj_le q).1
      by_cases c : s x = 43 ∧ 0 < k
      · rw [tcl_y q c] at h
        have := tcl_le k _ _ _ _ h
        omega
      · rw [tcl_n q c] at h
        cases h
        omega
theorem te_le {s : Nat → Int32} {a b : Nat} {el : sk_E} (h : te s a = .inr (b, el)) : b ≤ a + 12 := by
  unfold te tlv tch at h
  split at h
  · split at h
    · cases h
    · cases h; omega
  · split at h
    · split at h
      · cases h
      · cases h; omega
    · split at h
      · cases h
      · cases h
        have := tcl_le _ _ _ _ _ (by assumption)
        omega
theorem tel_e {s : Nat → Int32} {n b x : Nat} {L : List sk_E} (h : te s b = .inl x) (k : Nat) : tel s n (k + 1) b L = .inl x := by rw [tel, h]
theorem tel_y {s : Nat → Int32} {n b x : Nat} {L : List sk_E} {el : sk_E} (h : te s b = .inr (x, el)) {k : Nat} (c : s x = 59 ∧ 0 < k) : tel s n (k + 1) b L = tel s n k (x + 1) (L ++ [el]) := by
  rw [tel, h]
  exact if_pos c
theorem tel_n {s : Nat → Int32} {n b x : Nat} {L : List sk_E} {el : sk_E} (h : te s b = .inr (x, el)) {k : Nat} (c : ¬ (s x = 59 ∧ 0 < k)) : tel s n (k + 1) b L = if x = n then .inr (L ++ [el]) else .inl x := by
  rw [tel, h]
  exact if_neg c
theorem fr_t {t g : Nat} {M N P : sk_M} (h : sk_fr t g M N) (h2 : sk_fr t g N P) : sk_fr t g M P := ⟨fun a h3 h4 => (h2.1 a h3 h4).trans (h.1 a h3 h4), h2.2.trans h.2⟩
def tti (S : Nat → Int32) (n t g : Nat) (M : sk_M) (i : Nat) (N : sk_M) (b : Nat) (L : List sk_E) (mo : Int32) : Prop :=
  L.length = i ∧ sk_ph N g L ∧ N t 2 = nI b ∧ sk_fr t g M N ∧ b ≤ 25 * i ∧ ((mo = 1 ∧ i < 12 ∧ tt (tx S n) n = tel (tx S n) n (12 - i) b L) ∨ (mo = 0 ∧ tt (tx S n) n = if b = n then .inr L else .inl b))
def tt_q (S : Nat → Int32) (n t g : Nat) (M : sk_M) (r : Int32) (M' : sk_M) : Prop := (∃ x, tt (tx S n) n = .inl x ∧ r = nI x ∧ sk_fr t g M M') ∨ ∃ L, tt (tx S n) n = .inr L ∧ r = -1 ∧ sk_ph M' g L ∧ L.length ≤ 12 ∧ sk_fr t g M M'
set_option maxHeartbeats 4000000 in
set_option maxRecDepth 100000 in
theorem m_X6_readInto (l : Launch) {O : sk_O} (hO : sk_inj O) (M : sk_M) (t n g : Nat) (S : Nat → Int32) (ht : sk_isT O t) (hS : M (t + 1) = S) (hn : M t 1 = nI n) (hn2 : n ≤ 120) (hg : sk_isP O g) (hap : t + 1 < g ∨ g + 9 < t) : sk_Mi l yX6_readInto (sk_w yX6_readInto cX6_readInto 4 (some .int)) ({ frames := 5, cells := 0, slots := 0, locals := 109 }) O [.ref (sk_ad O t), .ref (sk_ad O g)] M (tt_q S n t g M) := by
  refine sk_mi (by decide) ⟨rfl, rfl⟩ hO (Nat.le_of_ble_eq_true rfl) (fun X A Q C ret => ?_)
  show sk_W l X O A Q 4 0 0 M 0 [(0, .ref (sk_ad O t)), (1, .ref (sk_ad O g))] []
  refine k_aloadn C 1 dX6_readInto_0 rfl ?_
  refine k_iconst C (0) dX6_readInto_1 (by decide) ?_
  refine k_puti C (j := 9) (ty := .int) tyX2 kcl_X2 tyX2_ok nmX2 fl_X6_26 hg.1 (by decide) rfl rfl (by decide +kernel) rfl rfl dX6_readInto_2 ?_
  refine k_aloadn C 0 dX6_readInto_5 rfl ?_
  refine k_iconst C (0) dX6_readInto_6 (by decide) ?_
  refine k_puti C (j := 2) (ty := .int) tyX6 kcl_X6 tyX6_ok nmX6 fl_X6_23 ht.1 (by decide) rfl rfl (by decide +kernel) rfl rfl dX6_readInto_7 ?_
  refine k_iconst C (1) dX6_readInto_10 (by decide) ?_
  refine k_istoren C [1, 2, 0] [(0, .ref (sk_ad O t)), (1, .ref (sk_ad O g)), (2, .int (1))] dX6_readInto_11 (by decide) rfl ?_
  refine k_iconst C (1) dX6_readInto_12 (by decide) ?_
  refine k_istoren C [1, 2, 3, 0] [(0, .ref (sk_ad O t)), (1, .ref (sk_ad O g)), (2, .int (1)), (3, .int (1))] dX6_readInto_13 (by decide) rfl ?_
  have L14 : ∀ i, i ≤ 12 → ∀ (N : sk_M) (b : Nat) (L : List sk_E) (mo : Int32), tti S n t g M i N b L mo → sk_W l X O A Q 4 0 0 N 14 [(0, .ref (sk_ad O t)), (1, .ref (sk_ad O g)), (2, .int mo), (3, .int (nI (i + 1)))] [] := by
    refine sk_loop 12 (fun i hi14 ih14 => ?_)
    intro N b L mo hI
    obtain ⟨j1, j2, j3, j4, j5, j6⟩ := hI
    have hS2 : N (t + 1) = S := (j4.1 _ (by omega) (by omega)).trans hS
    have hn3 : N t 1 = nI n := j4.2.trans hn
    refine k_iloadn C 3 dX6_readInto_14 rfl ?_
    refine k_bipush C (12) dX6_readInto_15 (by decide) ?_
    refine k_cgt C 82 dX6_readInto_17 (by decide) (fun c17_1 => ?_) (fun c17_1 => ?_)
    ·
      have nc17_1 : 12 < i + 1 := (sk_lI (a := 12) (b := i + 1) (rfl : ((12) : Int32) = nI 12) rfl (by omega) (by omega)).mp c17_1
      refine k_aloadn C 0 dX6_readInto_82 rfl ?_
      refine k_geti C (j := 2) kcl_X6 fl_X6_23 ht.1 (by decide) rfl dX6_readInto_83 ?_
      refine k_aloadn C 0 dX6_readInto_86 rfl ?_
      refine k_geti C (j := 1) kcl_X6 fl_X6_15 ht.1 (by decide) rfl dX6_readInto_87 ?_
      refine k_cne C 97 dX6_readInto_90 (by decide) (fun c90_2 => ?_) (fun c90_2 => ?_)
      ·
        have nc90_2 : ¬ (b = n) := fun h => c90_2 ((sk_qI (a := b) (b := n) j3 hn3 (by omega) (by omega)).mpr h)
        refine k_aloadn C 0 dX6_readInto_97 rfl ?_
        refine k_geti C (j := 2) kcl_X6 fl_X6_23 ht.1 (by decide) rfl dX6_readInto_98 ?_
        exact ret _ _ _ _ dX6_readInto_101 rfl (by exact Or.inl ⟨b, by rw [(j6.resolve_left (fun h => absurd h.2.1 (by omega))).2, if_neg (show ¬ b = n from by omega)], j3, j4⟩)
      ·
        have nc90_2 : b = n := (sk_qI (a := b) (b := n) j3 hn3 (by omega) (by omega)).mp c90_2
        refine k_iconst C (-1) dX6_readInto_93 (by decide) ?_
        refine k_goto C 101 dX6_readInto_94 (by decide) ?_
        exact ret _ _ _ _ dX6_readInto_101 rfl (by exact Or.inr ⟨L, by rw [(j6.resolve_left (fun h => absurd h.2.1 (by omega))).2, if_pos (show b = n from by omega)], rfl, j2, by omega, j4⟩)
    ·
      have nc17_1 : ¬ (12 < i + 1) := fun h => c17_1 ((sk_lI (a := 12) (b := i + 1) (rfl : ((12) : Int32) = nI 12) rfl (by omega) (by omega)).mpr h)
      refine k_iloadn C 2 dX6_readInto_20 rfl ?_
      refine k_zeq C 82 dX6_readInto_21 (by decide) (fun c21_3 => ?_) (fun c21_3 => ?_)
      ·
        refine k_aloadn C 0 dX6_readInto_82 rfl ?_
        refine k_geti C (j := 2) kcl_X6 fl_X6_23 ht.1 (by decide) rfl dX6_readInto_83 ?_
        refine k_aloadn C 0 dX6_readInto_86 rfl ?_
        refine k_geti C (j := 1) kcl_X6 fl_X6_15 ht.1 (by decide) rfl dX6_readInto_87 ?_
        refine k_cne C 97 dX6_readInto_90 (by decide) (fun c90_4 => ?_) (fun c90_4 => ?_)
        ·
          have nc90_4 : ¬ (b = n) := fun h => c90_4 ((sk_qI (a := b) (b := n) j3 hn3 (by omega) (by omega)).mpr h)
          refine k_aloadn C 0 dX6_readInto_97 rfl ?_
          refine k_geti C (j := 2) kcl_X6 fl_X6_23 ht.1 (by decide) rfl dX6_readInto_98 ?_
          exact ret _ _ _ _ dX6_readInto_101 rfl (by exact Or.inl ⟨b, by rw [(j6.resolve_left (fun h => by rw [h.1] at c21_3; exact absurd c21_3 (by decide))).2, if_neg (show ¬ b = n from by omega)], j3, j4⟩)
        ·
          have nc90_4 : b = n := (sk_qI (a := b) (b := n) j3 hn3 (by omega) (by omega)).mp c90_4
          refine k_iconst C (-1) dX6_readInto_93 (by decide) ?_
          refine k_goto C 101 dX6_readInto_94 (by decide) ?_
          exact ret _ _ _ _ dX6_readInto_101 rfl (by exact Or.inr ⟨L, by rw [(j6.resolve_left (fun h => by rw [h.1] at c21_3; exact absurd c21_3 (by decide))).2, if_pos (show b = n from by omega)], rfl, j2, by omega, j4⟩)
      ·
        obtain ⟨j7, j8, j9⟩ := j6.resolve_right (fun h => c21_3 h.1)
        refine k_aloadn C 0 dX6_readInto_24 rfl ?_
        refine k_aloadn C 1 dX6_readInto_25 rfl ?_
        refine k_vi C (as := [.ref (sk_ad O g)]) yvX6_readElement viX6_readElement ml_X6_31 (m_X6_readElement l C.2.2.2.1 N (t := t) (n := n) (a := b) (g := g) (S := S) (L := L) (ht := ht) (hS := hS2) (hn := hn3) (ha := j3) (hn2 := hn2) (ha2 := (by omega)) (hg := hg) (hL := j2) (hL2 := (by omega)) (hap := hap)) ht.1 rfl rfl rfl (Nat.le_of_ble_eq_true rfl) (by decide) dX6_readInto_26 (fun x26_5 M26_5 h26_5 => ?_)
        obtain ⟨M9, rfl⟩ : ∃ z, z = M26_5 := ⟨_, rfl⟩
        rcases h26_5 with ⟨x9, q1, rfl, q3, q5⟩ | ⟨x9, w9, q1, rfl, q3, q4, q5⟩
        ·
          refine k_zne C 37 dX6_readInto_29 (by decide) (fun c29_6 => ?_) (fun c29_6 => ?_)
          ·
            exact absurd c29_6 (by decide)
          ·
            refine k_aloadn C 0 dX6_readInto_32 rfl ?_
            refine k_geti C (j := 2) kcl_X6 fl_X6_23 ht.1 (by decide) rfl dX6_readInto_33 ?_
            exact ret _ _ _ _ dX6_readInto_36 rfl (by exact Or.inl ⟨x9, by rw [j9, show 12 - i = (11 - i) + 1 from by omega, tel_e q1], q3, fr_t j4 q5⟩)
        ·
          have hx9 := te_le q1
          refine k_zne C 37 dX6_readInto_29 (by decide) (fun c29_7 => ?_) (fun c29_7 => ?_)
          ·
            refine k_aloadn C 0 dX6_readInto_37 rfl ?_
            refine k_vi C (as := []) yvX6_sign viX6_sign ml_X6_35 (m_X6_sign l C.2.2.2.1 M9 (t := t) (n := n) (a := x9) (S := S) (ht := ht) (hS := ((q5.1 _ (by omega) (by omega)).trans hS2)) (hn := (q5.2.trans hn3)) (ha := q3) (hn2 := hn2) (ha2 := (by omega))) ht.1 rfl rfl rfl (Nat.le_of_ble_eq_true rfl) (by decide) dX6_readInto_38 (fun x38_8 M38_8 h38_8 => ?_)
            rw [h38_8.1, h38_8.2]
            refine k_bipush C (59) dX6_readInto_41 (by decide) ?_
            refine k_cne C 56 dX6_readInto_43 (by decide) (fun c43_9 => ?_) (fun c43_9 => ?_)
            ·
              refine k_iconst C (0) dX6_readInto_56 (by decide) ?_
              refine k_istoren C [1, 2, 0, 3] [(0, .ref (sk_ad O t)), (1, .ref (sk_ad O g)), (2, .int (0)), (3, .int (nI (i + 1)))] dX6_readInto_57 (by decide) rfl ?_
              refine k_aloadn C 0 dX6_readInto_58 rfl ?_
              refine k_dup C dX6_readInto_59 rfl ?_
              refine k_geti C (j := 2) kcl_X6 fl_X6_23 ht.1 (by decide) rfl dX6_readInto_60 ?_
              refine k_iloadn C 2 dX6_readInto_63 rfl ?_
              refine k_zeq C 71 dX6_readInto_64 (by decide) (fun c64_10 => ?_) (fun c64_10 => ?_)
              ·
                refine k_iconst C (0) dX6_readInto_71 (by decide) ?_
                refine k_iadd C dX6_readInto_72 ?_
                refine k_puti C (j := 2) (ty := .int) tyX6 kcl_X6 tyX6_ok nmX6 fl_X6_23 ht.1 (by decide) rfl rfl (by decide +kernel) rfl rfl dX6_readInto_73 ?_
                refine k_iinc C 3 (nI (i + 1 + 1)) [1, 2, 3, 0] [(0, .ref (sk_ad O t)), (1, .ref (sk_ad O g)), (2, .int (0)), (3, .int (nI (i + 1 + 1)))] dX6_readInto_76 rfl (nI_add _ _) (by decide) rfl ?_
                refine k_goto C 14 dX6_readInto_79 (by decide) ?_
                exact ih14 (by omega) _ x9 (L ++ [w9]) _ ⟨by simp [j1], ph_at q4 (by omega), by rw [sk_sm, q3]; exact nI_add _ 0, fr_1 (fr_t j4 q5), by omega, Or.inr ⟨rfl, by rw [j9, show 12 - i = (11 - i) + 1 from by omega, tel_n q1 (show ¬ (tx S n x9 = 59 ∧ 0 < 11 - i) from fun h => c43_9 h.1)]⟩⟩
              ·
                exact absurd c64_10 (by decide)
            ·
              refine k_iloadn C 3 dX6_readInto_46 rfl ?_
              refine k_bipush C (12) dX6_readInto_47 (by decide) ?_
              refine k_cge C 56 dX6_readInto_49 (by decide) (fun c49_11 => ?_) (fun c49_11 => ?_)
              ·
                have nc49_11 : 12 ≤ i + 1 := (sk_eI (a := 12) (b := i + 1) (rfl : ((12) : Int32) = nI 12) rfl (by omega) (by omega)).mp c49_11
                refine k_iconst C (0) dX6_readInto_56 (by decide) ?_
                refine k_istoren C [1, 2, 0, 3] [(0, .ref (sk_ad O t)), (1, .ref (sk_ad O g)), (2, .int (0)), (3, .int (nI (i + 1)))] dX6_readInto_57 (by decide) rfl ?_
                refine k_aloadn C 0 dX6_readInto_58 rfl ?_
                refine k_dup C dX6_readInto_59 rfl ?_
                refine k_geti C (j := 2) kcl_X6 fl_X6_23 ht.1 (by decide) rfl dX6_readInto_60 ?_
                refine k_iloadn C 2 dX6_readInto_63 rfl ?_
                refine k_zeq C 71 dX6_readInto_64 (by decide) (fun c64_12 => ?_) (fun c64_12 => ?_)
                ·
                  refine k_iconst C (0) dX6_readInto_71 (by decide) ?_
                  refine k_iadd C dX6_readInto_72 ?_
                  refine k_puti C (j := 2) (ty := .int) tyX6 kcl_X6 tyX6_ok nmX6 fl_X6_23 ht.1 (by decide) rfl rfl (by decide +kernel) rfl rfl dX6_readInto_73 ?_
                  refine k_iinc C 3 (nI (i + 1 + 1)) [1, 2, 3, 0] [(0, .ref (sk_ad O t)), (1, .ref (sk_ad O g)), (2, .int (0)), (3, .int (nI (i + 1 + 1)))] dX6_readInto_76 rfl (nI_add _ _) (by decide) rfl ?_
                  refine k_goto C 14 dX6_readInto_79 (by decide) ?_
                  exact ih14 (by omega) _ x9 (L ++ [w9]) _ ⟨by simp [j1], ph_at q4 (by omega), by rw [sk_sm, q3]; exact nI_add _ 0, fr_1 (fr_t j4 q5), by omega, Or.inr ⟨rfl, by rw [j9, show 12 - i = (11 - i) + 1 from by omega, tel_n q1 (show ¬ (tx S n x9 = 59 ∧ 0 < 11 - i) from fun h => absurd h.2 (by omega))]⟩⟩
                ·
                  exact absurd c64_12 (by decide)
              ·
                have nc49_11 : ¬ (12 ≤ i + 1) := fun h => c49_11 ((sk_eI (a := 12) (b := i + 1) (rfl : ((12) : Int32) = nI 12) rfl (by omega) (by omega)).mpr h)
                refine k_iconst C (1) dX6_readInto_52 (by decide) ?_
                refine k_goto C 57 dX6_readInto_53 (by decide) ?_
                refine k_istoren C [1, 2, 0, 3] [(0, .ref (sk_ad O t)), (1, .ref (sk_ad O g)), (2, .int (1)), (3, .int (nI (i + 1)))] dX6_readInto_57 (by decide) rfl ?_
                refine k_aloadn C 0 dX6_readInto_58 rfl ?_
                refine k_dup C dX6_readInto_59 rfl ?_
                refine k_geti C (j := 2) kcl_X6 fl_X6_23 ht.1 (by decide) rfl dX6_readInto_60 ?_
                refine k_iloadn C 2 dX6_readInto_63 rfl ?_
                refine k_zeq C 71 dX6_readInto_64 (by decide) (fun c64_13 => ?_) (fun c64_13 => ?_)
                ·
                  exact absurd c64_13 (by decide)
                ·
                  refine k_iconst C (1) dX6_readInto_67 (by decide) ?_
                  refine k_goto C 72 dX6_readInto_68 (by decide) ?_
                  refine k_iadd C dX6_readInto_72 ?_
                  refine k_puti C (j := 2) (ty := .int) tyX6 kcl_X6 tyX6_ok nmX6 fl_X6_23 ht.1 (by decide) rfl rfl (by decide +kernel) rfl rfl dX6_readInto_73 ?_
                  refine k_iinc C 3 (nI (i + 1 + 1)) [1, 2, 3, 0] [(0, .ref (sk_ad O t)), (1, .ref (sk_ad O g)), (2, .int (1)), (3, .int (nI (i + 1 + 1)))] dX6_readInto_76 rfl (nI_add _ _) (by decide) rfl ?_
                  refine k_goto C 14 dX6_readInto_79 (by decide) ?_
                  exact ih14 (by omega) _ (x9 + 1) (L ++ [w9]) _ ⟨by simp [j1], ph_at q4 (by omega), by rw [sk_sm, q3]; exact nI_add _ 1, fr_1 (fr_t j4 q5), by omega, Or.inl ⟨rfl, by omega, by rw [j9, show 12 - i = (11 - i) + 1 from by omega, tel_y q1 ⟨c43_9, by omega⟩, show 12 - (i + 1) = 11 - i from by omega]⟩⟩
          ·
            exact absurd c29_7 (by decide)
  exact L14 0 (Nat.zero_le _) _ 0 [] 1 ⟨rfl, ph_at ⟨sk_sm, fun e el h => by simp at h⟩ (by omega), sk_sm, ⟨fun a h1 h2 => by rw [sk_nf h2, sk_nf (by omega)], by rw [sk_ne (by omega), sk_ne (by omega)]⟩, by omega, Or.inl ⟨rfl, by omega, rfl⟩⟩
