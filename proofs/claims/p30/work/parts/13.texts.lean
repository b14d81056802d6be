/-! Text: elements, whole texts -/
abbrev sk_E : Type := Int32 × List sk_J
def sk_pe (M : sk_M) (g e : Nat) (el : sk_E) : Prop := M (g + 1) e = el.1 ∧ M (g + 2) e = nI el.2.length ∧ el.2.length ≤ 3 ∧ M (g + 3) e = 0 ∧ M (g + 4) e = 0 ∧ M (g + 5) e = 0 ∧ ∀ (p : Nat) (j : sk_J), el.2[p]? = some j → M (g + 6) (3 * e + p) = j.1 ∧ M (g + 7) (3 * e + p) = j.2.1 ∧ M (g + 8) (3 * e + p) = j.2.2
/-- the program at g holds the list -/
def sk_ph (M : sk_M) (g : Nat) (L : List sk_E) : Prop := M g 9 = nI L.length ∧ ∀ (e : Nat) (el : sk_E), L[e]? = some el → sk_pe M g e el
def sk_fr (t g : Nat) (M M' : sk_M) : Prop := (∀ a, (a < g ∨ g + 10 ≤ a) → a ≠ t → M' a = M a) ∧ M' t 1 = M t 1
theorem sk_pe_c {M M' : sk_M} {g e : Nat} {el : sk_E} (h : ∀ a b, g + 1 ≤ a → a ≤ g + 5 → b = e → M' a b = M a b) (h2 : ∀ a b, g + 6 ≤ a → a ≤ g + 8 → 3 * e ≤ b → b < 3 * e + el.2.length → M' a b = M a b) (q : sk_pe M g e el) : sk_pe M' g e el := by
  obtain ⟨q1, q2, q3, q4, q5, q6, q7⟩ := q
  refine ⟨?_, ?_, q3, ?_, ?_, ?_, fun p j hp => ?_⟩
  · rw [h _ _ (by omega) (by omega) rfl]; exact q1
  · rw [h _ _ (by omega) (by omega) rfl]; exact q2
  · rw [h _ _ (by omega) (by omega) rfl]; exact q4
  · rw [h _ _ (by omega) (by omega) rfl]; exact q5
  · rw [h _ _ (by omega) (by omega) rfl]; exact q6
  · have hl : p < el.2.length := (List.getElem?_eq_some_iff.mp hp).1
    rw [h2 _ _ (by omega) (by omega) (by omega) (by omega), h2 _ _ (by omega) (by omega) (by omega) (by omega), h2 _ _ (by omega) (by omega) (by omega) (by omega)]
    exact q7 p j hp
theorem pg_se_x {M : sk_M} {g N a b : Nat} {ty : Int32} (h : (a < g ∨ g + 10 ≤ a) ∨ (a = g ∧ b ≠ 9) ∨ (g + 1 ≤ a ∧ a ≤ g + 5 ∧ b ≠ N) ∨ g + 6 ≤ a) : pg_se M g N ty a b = M a b := by
  unfold pg_se
  rw [sk_ne (by omega), sk_ne (by omega), sk_ne (by omega), sk_ne (by omega), sk_ne (by omega), sk_ne (by omega)]
theorem pg_sp_x {M : sk_M} {g e p a b : Nat} {x y z : Int32} (h : a < g + 2 ∨ g + 9 ≤ a ∨ (g + 2 ≤ a ∧ a ≤ g + 5 ∧ (b ≠ e ∨ a ≠ g + 2)) ∨ (g + 6 ≤ a ∧ b ≠ 3 * e + p)) : pg_sp M g e p x y z a b = M a b := by
  unfold pg_sp
  rw [sk_ne (by omega), sk_ne (by omega), sk_ne (by omega), sk_ne (by omega)]
theorem ph_len {M : sk_M} {g : Nat} {L : List sk_E} (h : sk_ph M g L) {e : Nat} (he : e < L.length) : ∃ el, L[e]? = some el ∧ sk_pe M g e el := ⟨L[e], by simp [he], h.2 e _ (by simp [he])⟩
theorem ph_se {M : sk_M} {g : Nat} {L : List sk_E} {ty : Int32} (h : sk_ph M g L) : sk_ph (pg_se M g L.length ty) g (L ++ [(ty, [])]) := by
  refine ⟨?_, fun e el he => ?_⟩
  · rw [pg_se, sk_sm, h.1, List.length_append]
    exact nI_add _ 1
  · by_cases hl : e < L.length
    · rw [List.getElem?_append_left hl] at he
      exact sk_pe_c (fun a b h1 h2 h3 => pg_se_x (by omega)) (fun a b h1 h2 h3 h4 => pg_se_x (by omega)) (h.2 e el he)
    · have h0 : e = L.length := by
        have := (List.getElem?_eq_some_iff.mp he).1
        rw [List.length_append] at this
        simp at this
        omega
      subst h0
      rw [List.getElem?_append_right (Nat.le_refl _), Nat.sub_self] at he
      cases he
      refine ⟨?_, ?_, by simp, ?_, ?_, ?_, fun p j hp => by simp at hp⟩
      · unfold pg_se; rw [sk_ne (by omega), sk_ne (by omega), sk_ne (by omega), sk_ne (by omega), sk_ne (by omega), sk_sm]
      · unfold pg_se; rw [sk_ne (by omega), sk_ne (by omega), sk_ne (by omega), sk_ne (by omega), sk_sm]; rfl
      · unfold pg_se; rw [sk_ne (by omega), sk_ne (by omega), sk_ne (by omega), sk_sm]
      · unfold pg_se; rw [sk_ne (by omega), sk_ne (by omega), sk_sm]
      · unfold pg_se; rw [sk_ne (by omega), sk_sm]
theorem ph_sp {M : sk_M} {g : Nat} {L : List sk_E} {ty : Int32} {js : List sk_J} {j : sk_J} (h : sk_ph M g (L ++ [(ty, js)])) (hj : js.length < 3) : sk_ph (pg_sp M g L.length js.length j.1 j.2.1 j.2.2) g (L ++ [(ty, js ++ [j])]) := by
  have hlast : sk_pe M g L.length (ty, js) := h.2 L.length (ty, js) (by rw [List.getElem?_append_right (Nat.le_refl _), Nat.sub_self]; rfl)
  refine ⟨?_, fun e el he => ?_⟩
  · rw [pg_sp_x (by omega), h.1]
    simp
  · by_cases hl : e < L.length
    · rw [List.getElem?_append_left hl] at he
      have h5 := h.2 e el (by rw [List.getElem?_append_left hl]; exact he)
      have h6 := h5.2.2.1
      exact sk_pe_c (fun a b h1 h2 h3 => pg_sp_x (by omega)) (fun a b h1 h2 h3 h4 => pg_sp_x (by omega)) h5
    · have h0 : e = L.length := by
        have := (List.getElem?_eq_some_iff.mp he).1
        rw [List.length_append] at this
        simp at this
        omega
      subst h0
      rw [List.getElem?_append_right (Nat.le_refl _), Nat.sub_self] at he
      cases he
      obtain ⟨q1, q2, q3, q4, q5, q6, q7⟩ := hlast
      refine ⟨?_, ?_, by simp; omega, ?_, ?_, ?_, fun p x hp => ?_⟩
      · rw [pg_sp_x (by omega)]; exact q1
      · unfold pg_sp; rw [sk_sm, q2, List.length_append]; exact nI_add _ 1
      · rw [pg_sp_x (by omega)]; exact q4
      · rw [pg_sp_x (by omega)]; exact q5
      · rw [pg_sp_x (by omega)]; exact q6
      · by_cases hp2 : p < js.length
        · have h9 : js[p]? = some x := by rw [← hp]; exact (List.getElem?_append_left hp2).symm
          rw [pg_sp_x (by omega), pg_sp_x (by omega), pg_sp_x (by omega)]
          exact q7 p x h9
        · have h0 : p = js.length := by
            have := (List.getElem?_eq_some_iff.mp hp).1
            simp at this
            omega
          subst h0
          have h9 : x = j := by
            have : (js ++ [j])[js.length]? = some j := by rw [List.getElem?_append_right (Nat.le_refl _), Nat.sub_self]; rfl
            exact Option.some.inj (hp.symm.trans this)
          subst h9
          refine ⟨?_, ?_, ?_⟩
          · unfold pg_sp; rw [sk_ne (by omega), sk_ne (by omega), sk_ne (by omega), sk_sm]
          · unfold pg_sp; rw [sk_ne (by omega), sk_ne (by omega), sk_sm]
          · unfold pg_sp; rw [sk_ne (by omega), sk_sm]
theorem ph_at {M : sk_M} {t g j : Nat} {v : Int32} {L : List sk_E} (h : sk_ph M g L) (hap : t < g ∨ g + 10 ≤ t) : sk_ph (sk_ms M t j v) g L :=
  ⟨by rw [sk_ne (by omega)]; exact h.1, fun e el he => sk_pe_c (fun a b h1 h2 h3 => sk_ne (by omega)) (fun a b h1 h2 h3 h4 => sk_ne (by omega)) (h.2 e el he)⟩
theorem tlv_fin {M : sk_M} {t g : Nat} {L : List sk_E} {ty lev x y : Int32} (hL : sk_ph M g L) (hap : t + 1 < g ∨ g + 9 < t) : pg_sp (pg_se (sk_ms (sk_ms M t 2 x) t 2 y) g L.length ty) g L.length 0 (-1) lev 0 t 2 = y ∧ sk_ph (pg_sp (pg_se (sk_ms (sk_ms M t 2 x) t 2 y) g L.length ty) g L.length 0 (-1) lev 0) g (L ++ [(ty, [(-1, lev, 0)])]) ∧ sk_fr t g M (pg_sp (pg_se (sk_ms (sk_ms M t 2 x) t 2 y) g L.length ty) g L.length 0 (-1) lev 0) := by
  have h0 : ∀ a b : Nat, (a < g ∨ g + 10 ≤ a) → pg_sp (pg_se (sk_ms (sk_ms M t 2 x) t 2 y) g L.length ty) g L.length 0 (-1) lev 0 a b = sk_ms (sk_ms M t 2 x) t 2 y a b := by
    intro a b h
    rw [pg_sp_x (by omega), pg_se_x (by omega)]
  refine ⟨?_, ?_, ?_, ?_⟩
  · rw [h0 _ _ (by omega), sk_sm]
  · exact ph_sp (js := []) (j := (-1, lev, 0)) (ph_se (ph_at (ph_at hL (by omega)) (by omega))) (by decide)
  · intro a h1 h2
    funext b
    rw [h0 a b h1, sk_ne (Or.inl h2), sk_ne (Or.inl h2)]
  · rw [h0 _ _ (by omega), sk_ne (by omega), sk_ne (by omega)]
def tlv (s : Nat → Int32) (ty : Int32) (a : Nat) : Nat ⊕ (Nat × sk_E) := if s (a + 1) - 48 < 0 ∨ 4 < s (a + 1) - 48 then .inl (a + 1) else .inr (a + 2, (ty, [(-1, s (a + 1) - 48, 0)]))
def tcl (s : Nat → Int32) : Nat → Nat → List sk_J → Nat ⊕ (Nat × List sk_J)
  | 0, a, js => .inr (a, js)
  | k + 1, a, js => match tj s a with
    | .inl x => .inl x
    | .inr (b, j) => if s b = 43 ∧ 0 < k then tcl s k (b + 1) (js ++ [j]) else .inr (b, js ++ [j])
def tch (s : Nat → Int32) (a : Nat) : Nat ⊕ (Nat × sk_E) := match tcl s 3 a [] with
  | .inl x => .inl x
  | .inr (b, js) => .inr (b, (0, js))
def te (s : Nat → Int32) (a : Nat) : Nat ⊕ (Nat × sk_E) := if s a = 112 then tlv s 1 a else if s a = 115 then tlv s 2 a else tch s a
def te_q (t g : Nat) (M : sk_M) (L : List sk_E) (R : Nat ⊕ (Nat × sk_E)) (r : Int32) (M' : sk_M) : Prop := (∃ x, R = .inl x ∧ r = 0 ∧ M' t 2 = nI x ∧ sk_fr t g M M') ∨ ∃ b el, R = .inr (b, el) ∧ r = 1 ∧ M' t 2 = nI b ∧ sk_ph M' g (L ++ [el]) ∧ sk_fr t g M M'
set_option maxHeartbeats 4000000 in
set_option maxRecDepth 100000 in
theorem m_X6_readLevel (l : Launch) {O : sk_O} (hO : sk_inj O) (M : sk_M) (ty : Int32) (t n a g : Nat) (S : Nat → Int32) (L : List sk_E) (ht : sk_isT O t) (hS : M (t + 1) = S) (hn : M t 1 = nI n) (ha : M t 2 = nI a) (hn2 : n ≤ 120) (ha2 : a ≤ 800) (hg : sk_isP O g) (hL : sk_ph M g L) (hL2 : L.length < 12) (hap : t + 1 < g ∨ g + 9 < t) : sk_Mi l yX6_readLevel (sk_w yX6_readLevel cX6_readLevel 4 (some .boolean)) ({ frames := 1, cells := 0, slots := 0, locals := 25 }) O [.ref (sk_ad O t), .ref (sk_ad O g), .int ty] M (te_q t g M L (tlv (tx S n) ty a)) := by
  refine sk_mi (by decide) ⟨rfl, rfl⟩ hO (Nat.le_of_ble_eq_true rfl) (fun X A Q C ret => ?_)
  show sk_W l X O A Q 4 0 0 M 0 [(0, .ref (sk_ad O t)), (1, .ref (sk_ad O g)), (2, .int ty)] []
  refine k_aloadn C 0 dX6_readLevel_0 rfl ?_
  refine k_dup C dX6_readLevel_1 rfl ?_
  refine k_geti C (j := 2) kcl_X6 fl_X6_23 ht.1 (by decide) rfl dX6_readLevel_2 ?_
  refine k_iconst C (1) dX6_readLevel_5 (by decide) ?_
  refine k_iadd C dX6_readLevel_6 ?_
  refine k_puti C (j := 2) (ty := .int) tyX6 kcl_X6 tyX6_ok nmX6 fl_X6_23 ht.1 (by decide) rfl rfl (by decide +kernel) rfl rfl dX6_readLevel_7 ?_
  refine k_aloadn C 0 dX6_readLevel_10 rfl ?_
  refine k_vi C (as := []) yvX6_sign viX6_sign ml_X6_35 (m_X6_sign l C.2.2.2.1 (sk_ms M t 2 ((M t 2) + (1))) (t := t) (n := n) (a := a + 1) (S := S) (ht := ht) (hS := (by rw [sk_nf (by omega)]; exact hS)) (hn := (by rw [sk_ne (by omega)]; exact hn)) (ha := (by rw [sk_sm]; exact sk_nadd ha (rfl : ((1) : Int32) = nI 1))) (hn2 := hn2) (ha2 := (by omega))) ht.1 rfl rfl rfl (Nat.le_of_ble_eq_true rfl) (by decide) dX6_readLevel_11 (fun x11_1 M11_1 h11_1 => ?_)
  rw [h11_1.1, h11_1.2]
  refine k_bipush C (48) dX6_readLevel_14 (by decide) ?_
  refine k_isub C dX6_readLevel_16 ?_
  refine k_istoren C [1, 2, 3, 0] [(0, .ref (sk_ad O t)), (1, .ref (sk_ad O g)), (2, .int ty), (3, .int ((tx S n (a + 1)) - (48)))] dX6_readLevel_17 (by decide) rfl ?_
  refine k_iloadn C 3 dX6_readLevel_18 rfl ?_
  refine k_zlt C 27 dX6_readLevel_19 (by decide) (fun c19_2 => ?_) (fun c19_2 => ?_)
  ·
    refine k_iconst C (0) dX6_readLevel_27 (by decide) ?_
    exact ret _ _ _ _ dX6_readLevel_28 rfl (by exact Or.inl ⟨a + 1, by rw [tlv, if_pos (Or.inl c19_2)], rfl, by rw [sk_sm]; exact sk_nadd ha (rfl : (1 : Int32) = nI 1), fun b h1 h2 => sk_nf h2, sk_ne (by omega)⟩)
  ·
    refine k_iloadn C 3 dX6_readLevel_22 rfl ?_
    refine k_iconst C (4) dX6_readLevel_23 (by decide) ?_
    refine k_cle C 29 dX6_readLevel_24 (by decide) (fun c24_3 => ?_) (fun c24_3 => ?_)
    ·
      refine k_aloadn C 0 dX6_readLevel_29 rfl ?_
      refine k_dup C dX6_readLevel_30 rfl ?_
      refine k_geti C (j := 2) kcl_X6 fl_X6_23 ht.1 (by decide) rfl dX6_readLevel_31 ?_
      refine k_top ((M t 2) + (1)) (by rw [sk_sm]) ?_
      refine k_iconst C (1) dX6_readLevel_34 (by decide) ?_
      refine k_iadd C dX6_readLevel_35 ?_
      refine k_puti C (j := 2) (ty := .int) tyX6 kcl_X6 tyX6_ok nmX6 fl_X6_23 ht.1 (by decide) rfl rfl (by decide +kernel) rfl rfl dX6_readLevel_36 ?_
      refine k_aloadn C 1 dX6_readLevel_39 rfl ?_
      refine k_iloadn C 2 dX6_readLevel_40 rfl ?_
      refine k_vv C (as := [.int ty]) yvX2_startElement viX2_startElement ml_X6_46 (m_X2_startElement l C.2.2.2.1 (sk_ms (sk_ms M t 2 ((M t 2) + (1))) t 2 (((M t 2) + (1)) + (1))) (k := g) (N := L.length) (t := ty) (hk := hg) (hN := (by rw [sk_ne (by omega), sk_ne (by omega)]; exact hL.1)) (hN2 := hL2)) hg.1 rfl rfl rfl (Nat.le_of_ble_eq_true rfl) (by decide) dX6_readLevel_41 (fun M41_4 h41_4 => ?_)
      rw [h41_4]
      refine k_aloadn C 1 dX6_readLevel_44 rfl ?_
      refine k_iconst C (-1) dX6_readLevel_45 (by decide) ?_
      refine k_iloadn C 3 dX6_readLevel_46 rfl ?_
      refine k_iconst C (0) dX6_readLevel_47 (by decide) ?_
      refine k_vv C (as := [.int (-1), .int ((tx S n (a + 1)) - (48)), .int (0)]) yvX2_startPart viX2_startPart ml_X6_50 (m_X2_startPart l C.2.2.2.1 (pg_se (sk_ms (sk_ms M t 2 ((M t 2) + (1))) t 2 (((M t 2) + (1)) + (1))) g L.length ty) (k := g) (e := L.length) (p := 0) (a := (-1)) (b := (tx S n (a + 1)) - (48)) (c := (0)) (hk := hg) (hN := (by rw [(ph_se (ty := ty) (ph_at (ph_at hL (by omega)) (by omega))).1]; simp)) (hN2 := hL2) (hp := (by unfold pg_se; rw [sk_ne (by omega), sk_ne (by omega), sk_ne (by omega), sk_ne (by omega), sk_sm]; rfl)) (hp3 := (by decide))) hg.1 rfl rfl rfl (Nat.le_of_ble_eq_true rfl) (by decide) dX6_readLevel_48 (fun M48_5 h48_5 => ?_)
      rw [h48_5]
      refine k_iconst C (1) dX6_readLevel_51 (by decide) ?_
      refine ret _ _ _ _ dX6_readLevel_52 rfl ?_
      obtain ⟨q1, q2, q3⟩ := tlv_fin (ty := ty) (lev := tx S n (a + 1) - 48) (x := M t 2 + 1) (y := M t 2 + 1 + 1) hL hap
      exact Or.inr ⟨a + 2, _, (by rw [tlv, if_neg (show ¬ (tx S n (a + 1) - 48 < 0 ∨ 4 < tx S n (a + 1) - 48) from fun h => h.elim c19_2 (fun z => absurd c24_3 (Int32.not_le.mpr z)))]), rfl, q1.trans (sk_nadd (b := 1) (sk_nadd (b := 1) ha rfl) rfl), q2, q3⟩
    ·
      refine k_iconst C (0) dX6_readLevel_27 (by decide) ?_
      exact ret _ _ _ _ dX6_readLevel_28 rfl (by exact Or.inl ⟨a + 1, by rw [tlv, if_pos (Or.inr (Int32.not_le.mp c24_3))], rfl, by rw [sk_sm]; exact sk_nadd ha (rfl : (1 : Int32) = nI 1), fun b h1 h2 => sk_nf h2, sk_ne (by omega)⟩)
