/-! The law: a program is typed (printed by p2.py) -/
theorem np {n : Nat} (h : n < 1000) : ¬ nI (n + 1) ≤ 0 := fun z => by
  rw [show (0 : Int32) = nI 0 from rfl, nI_leI (by omega) (by omega)] at z
  omega
def ty_s (k h : Nat) (T : rl_T) : rl_T := if k = 0 then T else a_ap T (if h < 3 then 43 else 59)
def ty_k (d : Nat) : Int32 := if d = 0 then 84 else if d = 1 then 83 else if d = 2 then 79 else if d = 3 then 70 else if d = 4 then 90 else 65
def ty_b (h d t : Nat) (T : rl_T) : rl_T := if h = 5 then a_ap (a_ap (a_ap T (nI (48 + t))) (ty_k d)) 60 else a_ap (a_ap T (nI (48 + t))) (ty_k d)
def ty_1 (k h d t : Nat) (T : rl_T) : rl_T := if h = 7 ∨ h = 6 then a_ap (a_ap (ty_s k h T) (if h = 7 then 112 else 115)) (nI (48 + t)) else ty_b h d t (ty_s k h T)
def ty_n (S : rl_T) (w : Nat) : Nat → rl_T × Nat
  | 0 => (a_cl S, w)
  | i + 1 => (ty_1 i ((ty_n S w i).2 % 8) ((ty_n S w i).2 / 8 % 6) (1 + (ty_n S w i).2 / 48 % 4) (ty_n S w i).1, (ty_n S w i).2 / 3 + 7 * i)
theorem ty_s_n {k h : Nat} {T : rl_T} : (ty_s k h T).n ≤ T.n + 1 := by
  unfold ty_s
  split
  · omega
  · exact Nat.le_refl _
theorem ty_1_n {k h d t : Nat} {T : rl_T} : (ty_1 k h d t T).n ≤ T.n + 4 := by
  have h1 := ty_s_n (k := k) (h := h) (T := T)
  unfold ty_1
  split
  · show (ty_s k h T).n + 1 + 1 ≤ _
    omega
  · unfold ty_b
    split
    · show (ty_s k h T).n + 1 + 1 + 1 ≤ _
      omega
    · show (ty_s k h T).n + 1 + 1 ≤ _
      omega
theorem ty_n_n {S : rl_T} {w : Nat} (hw : w < 2147483648) : ∀ i, i ≤ 5 → (ty_n S w i).1.n ≤ 4 * i ∧ (ty_n S w i).2 < 2147483648
  | 0, _ => ⟨Nat.le_refl _, hw⟩
  | i + 1, hi => by
    have ih := ty_n_n (S := S) hw i (by omega)
    refine ⟨Nat.le_trans ty_1_n (by omega), ?_⟩
    show (ty_n S w i).2 / 3 + 7 * i < _
    omega
theorem ap_ok {x : Int32} {k : Nat} {M M2 : sk_M} {T : rl_T} {v : Int32} (h : x = cx (er_2 (¬ v < 0 ∧ ¬ 255 < v) (T.n < 120)) (nI (T.n + 1)) (-9999002) (-9999003) 0 ∧ rl_J k M (cs (er_2 (¬ v < 0 ∧ ¬ 255 < v) (T.n < 120)) (a_ap T v) T) M2) (hv : ¬ v < 0 ∧ ¬ 255 < v) (hn : T.n < 120) : x = nI (T.n + 1) ∧ rl_J k M (a_ap T v) M2 := cx0' h (er2p hv hn)
theorem ty_sv {h : Nat} : ¬ (if h < 3 then (43 : Int32) else 59) < 0 ∧ ¬ 255 < (if h < 3 then (43 : Int32) else 59) := by split <;> decide
theorem ty_pv {h : Nat} : ¬ (if h = 7 then (112 : Int32) else 115) < 0 ∧ ¬ 255 < (if h = 7 then (112 : Int32) else 115) := by split <;> decide
theorem ty_kv {d : Nat} : ¬ ty_k d < 0 ∧ ¬ 255 < ty_k d := by
  unfold ty_k
  split
  · decide
  · split
    · decide
    · split
      · decide
      · split
        · decide
        · split <;> decide
set_option maxHeartbeats 4000000 in
set_option maxRecDepth 100000 in
theorem w_type (l : Launch) {O : sk_O} (hO : sk_inj O) (hst : l.stackTraces = false) {M : sk_M} {k : Nat} {S : rl_T} (C0 : rl_C M k S) (hk : sk_isX O k) {w : Nat} (hw : w < 2147483648) : sk_K l yL_type (sk_w yL_type cL_type 8 (some .boolean)) ({ frames := 9, cells := 20, slots := 120, locals := 217 }) O [.ref (sk_ad O k), .int (nI w)] M 20 (fun x M2 => x = 1 ∧ rl_J k M (ty_n S w 5).1 M2) := by
  refine sk_ki (by decide) ⟨rfl, rfl⟩ hO (Nat.le_of_ble_eq_true rfl) (fun X A Q C hSr hNx ret => ?_)
  show sk_W l X O A Q 8 0 (6 * 0) M 0 [(0, .ref (sk_ad O k)), (1, .int (nI w))] []
  refine k_aloadn C 0 dL_type_0 rfl ?_
  refine k_vi C (as := []) yvX7_clearText viX7_clearText ml_L_193 (m_X7_clearText l hO M (k := k) (hk := hk)) hk.1 rfl rfl rfl (Nat.le_of_ble_eq_true rfl) ⟨⟨by decide, by decide⟩, by decide, by decide⟩ dL_type_1 (fun r M1 h => ?_)
  obtain ⟨hx, hJ⟩ := c_clear C0 h
  subst hx
  refine k_zlt C 11 dL_type_4 (by decide) (fun e => absurd e (nI_pos (by have := C0.2.2.2.1; omega))) (fun _ => ?_)
  refine k_iconst C 1 dL_type_7 (by decide) ?_
  refine k_goto C 12 dL_type_8 (by decide) ?_
  refine k_istoren C [1, 2, 0] [(0, .ref (sk_ad O k)), (1, .int (nI w)), (2, .int 1)] dL_type_12 (by decide) rfl ?_
  refine k_iloadn C 1 dL_type_13 rfl ?_
  refine k_istoren C [1, 2, 3, 0] [(0, .ref (sk_ad O k)), (1, .int (nI w)), (2, .int 1), (3, .int (nI w))] dL_type_14 (by decide) rfl ?_
  refine k_iconst C 0 dL_type_15 (by decide) ?_
  refine k_istore C [1, 2, 3, 4, 0] [(0, .ref (sk_ad O k)), (1, .int (nI w)), (2, .int 1), (3, .int (nI w)), (4, .int 0)] dL_type_16 (by decide) rfl ?_
  have L18 : ∀ (d i : Nat) (N : sk_M), i + d = 5 → rl_J k M (ty_n S w i).1 N → sk_W l X O A Q 8 (4 * i) (6 * (4 * i)) N 18 [(0, .ref (sk_ad O k)), (1, .int (nI w)), (2, .int 1), (3, .int (nI ((ty_n S w i).2))), (4, .int (nI i))] [] := by
    intro d
    induction d with
    | zero =>
      intro i N hi hJ
      obtain ⟨hn, hl⟩ := ty_n_n (S := S) hw i (by omega)
      obtain rfl : i = 5 := by omega
      refine k_iload C 4 dL_type_18 rfl ?_
      refine k_iconst C 5 dL_type_20 (by decide) ?_
      refine k_cge C 278 dL_type_21 (by decide) (fun _ => ?_) (fun e => absurd (show (5 : Int32) ≤ nI 5 from by decide) e)
      refine k_iloadn C 2 dL_type_278 rfl ?_
      exact ret _ _ _ _ _ (by decide) dL_type_279 rfl ⟨rfl, hJ⟩
    | succ d ih =>
      intro i N hi hJ
      obtain ⟨hn, hl⟩ := ty_n_n (S := S) hw i (by omega)
      have es : ty_n S w (i + 1) = (ty_1 i ((ty_n S w i).2 % 8) ((ty_n S w i).2 / 8 % 6) (1 + (ty_n S w i).2 / 48 % 4) (ty_n S w i).1, (ty_n S w i).2 / 3 + 7 * i) := rfl
      have ih2 := ih (i + 1)
      rw [es] at ih2
      generalize hT : (ty_n S w i).1 = T at hn hJ ih2
      generalize hz : (ty_n S w i).2 = z at hl ih2
      clear hT hz es
      show sk_W l X O A Q 8 (4 * i) (6 * (4 * i)) N 18 [(0, .ref (sk_ad O k)), (1, .int (nI w)), (2, .int 1), (3, .int (nI z)), (4, .int (nI i))] []
      refine k_iload C 4 dL_type_18 rfl ?_
      refine k_iconst C 5 dL_type_20 (by decide) ?_
      refine k_cge C 278 dL_type_21 (by decide) (fun e => absurd e (by rw [show (5 : Int32) = nI 5 from rfl, nI_leI (by omega) (by omega)]; omega)) (fun _ => ?_)
      refine k_iloadn C 2 dL_type_24 rfl ?_
      refine k_zeq C 278 dL_type_25 (by decide) (fun e => absurd e (by decide)) (fun _ => ?_)
      refine k_iloadn C 3 dL_type_28 rfl ?_
      refine k_bipush C 8 dL_type_29 (by decide) ?_
      refine k_irem C dL_type_31 (by decide) ?_
      refine k_top (nI (z % 8)) (sk_nrem (a := z) (b := 8) rfl rfl (by omega) (by decide)) ?_
      refine k_istore C [1, 2, 3, 4, 5, 0] [(0, .ref (sk_ad O k)), (1, .int (nI w)), (2, .int 1), (3, .int (nI z)), (4, .int (nI i)), (5, .int (nI (z % 8)))] dL_type_32 (by decide) rfl ?_
      refine k_iloadn C 3 dL_type_34 rfl ?_
      refine k_bipush C 8 dL_type_35 (by decide) ?_
      refine k_idiv C dL_type_37 (by decide) ?_
      refine k_top (nI (z / 8)) (sk_ndiv (a := z) (b := 8) rfl rfl (by omega) (by decide)) ?_
      refine k_bipush C 6 dL_type_38 (by decide) ?_
      refine k_irem C dL_type_40 (by decide) ?_
      refine k_top (nI ((z / 8) % 6)) (sk_nrem (a := z / 8) (b := 6) rfl rfl (by omega) (by decide)) ?_
      refine k_istore C [1, 2, 3, 4, 5, 6, 0] [(0, .ref (sk_ad O k)), (1, .int (nI w)), (2, .int 1), (3, .int (nI z)), (4, .int (nI i)), (5, .int (nI (z % 8))), (6, .int (nI ((z / 8) % 6)))] dL_type_41 (by decide) rfl ?_
      refine k_iconst C 1 dL_type_43 (by decide) ?_
      refine k_iloadn C 3 dL_type_44 rfl ?_
      refine k_bipush C 48 dL_type_45 (by decide) ?_
      refine k_idiv C dL_type_47 (by decide) ?_
      refine k_top (nI (z / 48)) (sk_ndiv (a := z) (b := 48) rfl rfl (by omega) (by decide)) ?_
      refine k_iconst C 4 dL_type_48 (by decide) ?_
      refine k_irem C dL_type_49 (by decide) ?_
      refine k_top (nI ((z / 48) % 4)) (sk_nrem (a := z / 48) (b := 4) rfl rfl (by omega) (by decide)) ?_
      refine k_iadd C dL_type_50 ?_
      refine k_top (nI (1 + ((z / 48) % 4))) (sk_nadd (a := 1) (b := (z / 48) % 4) rfl rfl) ?_
      refine k_istore C [1, 2, 3, 4, 5, 6, 7, 0] [(0, .ref (sk_ad O k)), (1, .int (nI w)), (2, .int 1), (3, .int (nI z)), (4, .int (nI i)), (5, .int (nI (z % 8))), (6, .int (nI ((z / 8) % 6))), (7, .int (nI (1 + ((z / 48) % 4))))] dL_type_51 (by decide) rfl ?_
      refine k_iloadn C 3 dL_type_53 rfl ?_
      refine k_iconst C 3 dL_type_54 (by decide) ?_
      refine k_idiv C dL_type_55 (by decide) ?_
      refine k_top (nI (z / 3)) (sk_ndiv (a := z) (b := 3) rfl rfl (by omega) (by decide)) ?_
      refine k_bipush C 7 dL_type_56 (by decide) ?_
      refine k_iload C 4 dL_type_58 rfl ?_
      refine k_imul C dL_type_60 ?_
      refine k_top (nI (7 * i)) (sk_nmul (a := 7) (b := i) rfl rfl) ?_
      refine k_iadd C dL_type_61 ?_
      refine k_top (nI ((z / 3) + (7 * i))) (sk_nadd (a := z / 3) (b := 7 * i) rfl rfl) ?_
      refine k_istoren C [1, 2, 3, 0, 4, 5, 6, 7] [(0, .ref (sk_ad O k)), (1, .int (nI w)), (2, .int 1), (3, .int (nI ((z / 3) + (7 * i)))), (4, .int (nI i)), (5, .int (nI (z % 8))), (6, .int (nI ((z / 8) % 6))), (7, .int (nI (1 + ((z / 48) % 4))))] dL_type_62 (by decide) rfl ?_
      have hh8 : z % 8 < 8 := Nat.mod_lt _ (by decide)
      have hd6 : z / 8 % 6 < 6 := Nat.mod_lt _ (by decide)
      have ht4 : z / 48 % 4 < 4 := Nat.mod_lt _ (by decide)
      generalize hhe : z % 8 = h at ih2 hh8 ⊢
      generalize hqe : z / 8 % 6 = q at ih2 hd6 ⊢
      generalize hte : z / 48 % 4 = t at ih2 ht4 ⊢
      clear hhe hqe hte
      have E : ∀ (N2 : sk_M) (kc : Nat), kc ≤ 4 * i + 4 → rl_J k M (ty_1 i h q (1 + t) T) N2 → sk_W l X O A Q 8 kc (6 * kc) N2 272 [(0, .ref (sk_ad O k)), (1, .int (nI w)), (2, .int 1), (3, .int (nI ((z / 3) + (7 * i)))), (4, .int (nI i)), (5, .int (nI h)), (6, .int (nI q)), (7, .int (nI (1 + t)))] [] := by
        intro N2 kc hkc hJ2
        refine k_widen (k := 4 * (i + 1)) (n := 6 * (4 * (i + 1))) (by omega) (by omega) ?_
        refine k_iinc C 4 (nI (i + 1)) [1, 2, 3, 4, 0, 5, 6, 7] [(0, .ref (sk_ad O k)), (1, .int (nI w)), (2, .int 1), (3, .int (nI ((z / 3) + (7 * i)))), (4, .int (nI (i + 1))), (5, .int (nI h)), (6, .int (nI q)), (7, .int (nI (1 + t)))] dL_type_272 rfl (nI_add _ 1) (by decide) rfl ?_
        refine k_goto C 18 dL_type_275 (by decide) ?_
        refine k_sub [0, 1, 2, 3, 4] (lv' := [(0, .ref (sk_ad O k)), (1, .int (nI w)), (2, .int 1), (3, .int (nI ((z / 3) + (7 * i)))), (4, .int (nI (i + 1)))]) rfl ?_
        exact ih2 N2 (by omega) hJ2
      have J96 : ∀ (N2 : sk_M), rl_J k M (ty_s i h T) N2 → sk_W l X O A Q 8 (4 * i + 1) (6 * (4 * i + 1)) N2 96 [(0, .ref (sk_ad O k)), (1, .int (nI w)), (2, .int 1), (3, .int (nI ((z / 3) + (7 * i)))), (4, .int (nI i)), (5, .int (nI h)), (6, .int (nI q)), (7, .int (nI (1 + t)))] [.int 1] := by
        intro N2 hJ
        have hs := ty_s_n (k := i) (h := h) (T := T)
        have e1 : ty_1 i h q (1 + t) T = if h = 7 ∨ h = 6 then a_ap (a_ap (ty_s i h T) (if h = 7 then 112 else 115)) (nI (48 + (1 + t))) else ty_b h q (1 + t) (ty_s i h T) := rfl
        rw [e1] at E
        generalize ty_s i h T = U at hJ hs E
        refine k_istoren C [1, 2, 0, 3, 4, 5, 6, 7] [(0, .ref (sk_ad O k)), (1, .int (nI w)), (2, .int 1), (3, .int (nI ((z / 3) + (7 * i)))), (4, .int (nI i)), (5, .int (nI h)), (6, .int (nI q)), (7, .int (nI (1 + t)))] dL_type_96 (by decide) rfl ?_
        have J111 : (h = 7 ∨ h = 6) → sk_W l X O A Q 8 (4 * i + 1) (6 * (4 * i + 1)) N2 111 [(0, .ref (sk_ad O k)), (1, .int (nI w)), (2, .int 1), (3, .int (nI ((z / 3) + (7 * i)))), (4, .int (nI i)), (5, .int (nI h)), (6, .int (nI q)), (7, .int (nI (1 + t)))] [] := by
          intro h67
          rw [if_pos h67] at E
          refine k_iloadn C 2 dL_type_111 rfl ?_
          refine k_zeq C 158 dL_type_112 (by decide) (fun e => absurd e (by decide)) (fun _ => ?_)
          refine k_aloadn C 0 dL_type_115 rfl ?_
          refine k_iconst C 0 dL_type_116 (by decide) ?_
          have J131 : ∀ v : Int32, v = (if h = 7 then 112 else 115) → sk_W l X O A Q 8 (4 * i + 1) (6 * (4 * i + 1)) N2 131 [(0, .ref (sk_ad O k)), (1, .int (nI w)), (2, .int 1), (3, .int (nI ((z / 3) + (7 * i)))), (4, .int (nI i)), (5, .int (nI h)), (6, .int (nI q)), (7, .int (nI (1 + t)))] [.int v, .int 0, .ref (sk_ad O k)] := by
            intro v hv
            refine k_iconst C 0 dL_type_131 (by decide) ?_
            refine k_iconst C 0 dL_type_132 (by decide) ?_
            refine k_ks C hSr hNx (4 * i + 2) (as := [.ref (sk_ad O k), .int 0, .int v, .int 0, .int 0]) yvL_call vsL_call ml_L_163 (q_Append l hO hst hJ.1 hk v 0 0) rfl rfl (Nat.le_of_ble_eq_true rfl) ⟨⟨by decide, by decide⟩, by omega, by show 4 * i + 2 ≤ 20; omega, by show 6 * (4 * i + 2) ≤ 120; omega⟩ dL_type_133 (fun x M2 hq9 => ?_)
            obtain ⟨hx, hj⟩ := ap_ok hq9 (by rw [hv]; exact ty_pv) (by omega)
            subst hx
            replace hJ := hJ.t hj
            clear hj
            refine k_zle C 158 dL_type_136 (by decide) (fun e => absurd e (np (by omega))) (fun _ => ?_)
            refine k_aloadn C 0 dL_type_139 rfl ?_
            refine k_iconst C 0 dL_type_140 (by decide) ?_
            refine k_bipush C 48 dL_type_141 (by decide) ?_
            refine k_iload C 7 dL_type_143 rfl ?_
            refine k_iadd C dL_type_145 ?_
            refine k_top (nI (48 + (1 + t))) (sk_nadd (a := 48) (b := 1 + t) rfl rfl) ?_
            refine k_iconst C 0 dL_type_146 (by decide) ?_
            refine k_iconst C 0 dL_type_147 (by decide) ?_
            subst hv
            refine k_ks C hSr hNx (4 * i + 3) (as := [.ref (sk_ad O k), .int 0, .int (nI (48 + (1 + t))), .int 0, .int 0]) yvL_call vsL_call ml_L_163 (q_Append l hO hst hJ.1 hk (nI (48 + (1 + t))) 0 0) rfl rfl (Nat.le_of_ble_eq_true rfl) ⟨⟨by decide, by decide⟩, by omega, by show 4 * i + 3 ≤ 20; omega, by show 6 * (4 * i + 3) ≤ 120; omega⟩ dL_type_148 (fun x M3 hq9 => ?_)
            obtain ⟨hx, hj⟩ := ap_ok hq9 (wb (h := 255) rfl (by omega) (by omega)) (by show U.n + 1 < 120; omega)
            subst hx
            replace hJ := hJ.t hj
            clear hj
            refine k_zle C 158 dL_type_151 (by decide) (fun e => absurd e (np (by show U.n + 1 < 1000; omega))) (fun _ => ?_)
            refine k_iconst C 1 dL_type_154 (by decide) ?_
            refine k_goto C 159 dL_type_155 (by decide) ?_
            refine k_istoren C [1, 2, 0, 3, 4, 5, 6, 7] [(0, .ref (sk_ad O k)), (1, .int (nI w)), (2, .int 1), (3, .int (nI ((z / 3) + (7 * i)))), (4, .int (nI i)), (5, .int (nI h)), (6, .int (nI q)), (7, .int (nI (1 + t)))] dL_type_159 (by decide) rfl ?_
            refine k_goto C 272 dL_type_160 (by decide) ?_
            exact E _ _ (by omega) hJ
          refine k_iload C 5 dL_type_117 rfl ?_
          refine k_bipush C 7 dL_type_119 (by decide) ?_
          refine k_cne C 129 dL_type_121 (by decide) (fun hv => ?_) (fun hv => ?_)
          · skip
            refine k_bipush C 115 dL_type_129 (by decide) ?_
            exact J131 _ (if_neg (fun z => hv (by rw [z]; rfl))).symm
          · skip
            refine k_bipush C 112 dL_type_124 (by decide) ?_
            refine k_goto C 131 dL_type_126 (by decide) ?_
            exact J131 _ (if_pos ((nI_eq (b := 7) (by omega) (by omega)).mp hv)).symm
        have J163 : ¬ (h = 7 ∨ h = 6) → sk_W l X O A Q 8 (4 * i + 1) (6 * (4 * i + 1)) N2 163 [(0, .ref (sk_ad O k)), (1, .int (nI w)), (2, .int 1), (3, .int (nI ((z / 3) + (7 * i)))), (4, .int (nI i)), (5, .int (nI h)), (6, .int (nI q)), (7, .int (nI (1 + t)))] [] := by
          intro h67
          rw [if_neg h67] at E
          refine k_iloadn C 2 dL_type_163 rfl ?_
          refine k_zeq C 270 dL_type_164 (by decide) (fun e => absurd e (by decide)) (fun _ => ?_)
          refine k_aloadn C 0 dL_type_167 rfl ?_
          refine k_iconst C 0 dL_type_168 (by decide) ?_
          refine k_bipush C 48 dL_type_169 (by decide) ?_
          refine k_iload C 7 dL_type_171 rfl ?_
          refine k_iadd C dL_type_173 ?_
          refine k_top (nI (48 + (1 + t))) (sk_nadd (a := 48) (b := 1 + t) rfl rfl) ?_
          refine k_iconst C 0 dL_type_174 (by decide) ?_
          refine k_iconst C 0 dL_type_175 (by decide) ?_
          refine k_ks C hSr hNx (4 * i + 2) (as := [.ref (sk_ad O k), .int 0, .int (nI (48 + (1 + t))), .int 0, .int 0]) yvL_call vsL_call ml_L_163 (q_Append l hO hst hJ.1 hk (nI (48 + (1 + t))) 0 0) rfl rfl (Nat.le_of_ble_eq_true rfl) ⟨⟨by decide, by decide⟩, by omega, by show 4 * i + 2 ≤ 20; omega, by show 6 * (4 * i + 2) ≤ 120; omega⟩ dL_type_176 (fun x M4 hq9 => ?_)
          obtain ⟨hx, hj⟩ := ap_ok hq9 (wb (h := 255) rfl (by omega) (by omega)) (by omega)
          subst hx
          replace hJ := hJ.t hj
          clear hj
          refine k_zle C 270 dL_type_179 (by decide) (fun e => absurd e (np (by omega))) (fun _ => ?_)
          refine k_aloadn C 0 dL_type_182 rfl ?_
          refine k_iconst C 0 dL_type_183 (by decide) ?_
          have J240 : ∀ v : Int32, v = ty_k q → sk_W l X O A Q 8 (4 * i + 2) (6 * (4 * i + 2)) M4 240 [(0, .ref (sk_ad O k)), (1, .int (nI w)), (2, .int 1), (3, .int (nI ((z / 3) + (7 * i)))), (4, .int (nI i)), (5, .int (nI h)), (6, .int (nI q)), (7, .int (nI (1 + t)))] [.int v, .int 0, .ref (sk_ad O k)] := by
            intro v hv
            refine k_iconst C 0 dL_type_240 (by decide) ?_
            refine k_iconst C 0 dL_type_241 (by decide) ?_
            refine k_ks C hSr hNx (4 * i + 3) (as := [.ref (sk_ad O k), .int 0, .int v, .int 0, .int 0]) yvL_call vsL_call ml_L_163 (q_Append l hO hst hJ.1 hk v 0 0) rfl rfl (Nat.le_of_ble_eq_true rfl) ⟨⟨by decide, by decide⟩, by omega, by show 4 * i + 3 ≤ 20; omega, by show 6 * (4 * i + 3) ≤ 120; omega⟩ dL_type_242 (fun x M5 hq9 => ?_)
            obtain ⟨hx, hj⟩ := ap_ok hq9 (by rw [hv]; exact ty_kv) (by show U.n + 1 < 120; omega)
            subst hx
            replace hJ := hJ.t hj
            clear hj
            refine k_zle C 270 dL_type_245 (by decide) (fun e => absurd e (np (by show U.n + 1 < 1000; omega))) (fun _ => ?_)
            refine k_iload C 5 dL_type_248 rfl ?_
            refine k_iconst C 5 dL_type_250 (by decide) ?_
            subst hv
            unfold ty_b at E
            refine k_cne C 266 dL_type_251 (by decide) (fun hv => ?_) (fun hv => ?_)
            · skip
              rw [if_neg (fun z => hv (by rw [z]; rfl))] at E
              refine k_iconst C 1 dL_type_266 (by decide) ?_
              refine k_goto C 271 dL_type_267 (by decide) ?_
              refine k_istoren C [1, 2, 0, 3, 4, 5, 6, 7] [(0, .ref (sk_ad O k)), (1, .int (nI w)), (2, .int 1), (3, .int (nI ((z / 3) + (7 * i)))), (4, .int (nI i)), (5, .int (nI h)), (6, .int (nI q)), (7, .int (nI (1 + t)))] dL_type_271 (by decide) rfl ?_
              exact E _ _ (by omega) hJ
            · skip
              rw [if_pos ((nI_eq (b := 5) (by omega) (by omega)).mp hv)] at E
              refine k_aloadn C 0 dL_type_254 rfl ?_
              refine k_iconst C 0 dL_type_255 (by decide) ?_
              refine k_bipush C 60 dL_type_256 (by decide) ?_
              refine k_iconst C 0 dL_type_258 (by decide) ?_
              refine k_iconst C 0 dL_type_259 (by decide) ?_
              refine k_ks C hSr hNx (4 * i + 4) (as := [.ref (sk_ad O k), .int 0, .int 60, .int 0, .int 0]) yvL_call vsL_call ml_L_163 (q_Append l hO hst hJ.1 hk 60 0 0) rfl rfl (Nat.le_of_ble_eq_true rfl) ⟨⟨by decide, by decide⟩, by omega, by show 4 * i + 4 ≤ 20; omega, by show 6 * (4 * i + 4) ≤ 120; omega⟩ dL_type_260 (fun x M6 hq9 => ?_)
              obtain ⟨hx, hj⟩ := ap_ok hq9 (by decide) (by show U.n + 1 + 1 < 120; omega)
              subst hx
              replace hJ := hJ.t hj
              clear hj
              refine k_zle C 270 dL_type_263 (by decide) (fun e => absurd e (np (by show U.n + 1 + 1 < 1000; omega))) (fun _ => ?_)
              refine k_iconst C 1 dL_type_266 (by decide) ?_
              refine k_goto C 271 dL_type_267 (by decide) ?_
              refine k_istoren C [1, 2, 0, 3, 4, 5, 6, 7] [(0, .ref (sk_ad O k)), (1, .int (nI w)), (2, .int 1), (3, .int (nI ((z / 3) + (7 * i)))), (4, .int (nI i)), (5, .int (nI h)), (6, .int (nI q)), (7, .int (nI (1 + t)))] dL_type_271 (by decide) rfl ?_
              exact E _ _ (by omega) hJ
          refine k_iload C 6 dL_type_184 rfl ?_
          refine k_zne C 194 dL_type_186 (by decide) (fun hv0 => ?_) (fun hv0 => ?_)
          · skip
            refine k_iload C 6 dL_type_194 rfl ?_
            refine k_iconst C 1 dL_type_196 (by decide) ?_
            refine k_cne C 205 dL_type_197 (by decide) (fun hv1 => ?_) (fun hv1 => ?_)
            · skip
              refine k_iload C 6 dL_type_205 rfl ?_
              refine k_iconst C 2 dL_type_207 (by decide) ?_
              refine k_cne C 216 dL_type_208 (by decide) (fun hv2 => ?_) (fun hv2 => ?_)
              · skip
                refine k_iload C 6 dL_type_216 rfl ?_
                refine k_iconst C 3 dL_type_218 (by decide) ?_
                refine k_cne C 227 dL_type_219 (by decide) (fun hv3 => ?_) (fun hv3 => ?_)
                · skip
                  refine k_iload C 6 dL_type_227 rfl ?_
                  refine k_iconst C 4 dL_type_229 (by decide) ?_
                  refine k_cne C 238 dL_type_230 (by decide) (fun hv4 => ?_) (fun hv4 => ?_)
                  · skip
                    refine k_bipush C 65 dL_type_238 (by decide) ?_
                    exact J240 _ (by unfold ty_k; rw [if_neg (fun z => hv0 (by rw [z]; rfl)), if_neg (fun z => hv1 (by rw [z]; rfl)), if_neg (fun z => hv2 (by rw [z]; rfl)), if_neg (fun z => hv3 (by rw [z]; rfl)), if_neg (fun z => hv4 (by rw [z]; rfl))])
                  · skip
                    refine k_bipush C 90 dL_type_233 (by decide) ?_
                    refine k_goto C 240 dL_type_235 (by decide) ?_
                    exact J240 _ (by unfold ty_k; rw [if_neg (fun z => hv0 (by rw [z]; rfl)), if_neg (fun z => hv1 (by rw [z]; rfl)), if_neg (fun z => hv2 (by rw [z]; rfl)), if_neg (fun z => hv3 (by rw [z]; rfl)), if_pos ((nI_eq (b := 4) (by omega) (by omega)).mp hv4)])
                · skip
                  refine k_bipush C 70 dL_type_222 (by decide) ?_
                  refine k_goto C 240 dL_type_224 (by decide) ?_
                  exact J240 _ (by unfold ty_k; rw [if_neg (fun z => hv0 (by rw [z]; rfl)), if_neg (fun z => hv1 (by rw [z]; rfl)), if_neg (fun z => hv2 (by rw [z]; rfl)), if_pos ((nI_eq (b := 3) (by omega) (by omega)).mp hv3)])
              · skip
                refine k_bipush C 79 dL_type_211 (by decide) ?_
                refine k_goto C 240 dL_type_213 (by decide) ?_
                exact J240 _ (by unfold ty_k; rw [if_neg (fun z => hv0 (by rw [z]; rfl)), if_neg (fun z => hv1 (by rw [z]; rfl)), if_pos ((nI_eq (b := 2) (by omega) (by omega)).mp hv2)])
            · skip
              refine k_bipush C 83 dL_type_200 (by decide) ?_
              refine k_goto C 240 dL_type_202 (by decide) ?_
              exact J240 _ (by unfold ty_k; rw [if_neg (fun z => hv0 (by rw [z]; rfl)), if_pos ((nI_eq (b := 1) (by omega) (by omega)).mp hv1)])
          · skip
            refine k_bipush C 84 dL_type_189 (by decide) ?_
            refine k_goto C 240 dL_type_191 (by decide) ?_
            exact J240 _ (by unfold ty_k; rw [if_pos ((nI_eq (b := 0) (by omega) (by omega)).mp hv0)])
        refine k_iload C 5 dL_type_97 rfl ?_
        refine k_bipush C 7 dL_type_99 (by decide) ?_
        refine k_ceq C 111 dL_type_101 (by decide) (fun hv => J111 (Or.inl ((nI_eq (b := 7) (by omega) (by omega)).mp hv))) (fun hv => ?_)
        refine k_iload C 5 dL_type_104 rfl ?_
        refine k_bipush C 6 dL_type_106 (by decide) ?_
        exact k_cne C 163 dL_type_108 (by decide) (fun hw2 => J163 (fun z => z.elim (fun z => hv (by rw [z]; rfl)) (fun z => hw2 (by rw [z]; rfl)))) (fun hw2 => J111 (Or.inr ((nI_eq (b := 6) (by omega) (by omega)).mp hw2)))
      refine k_iload C 4 dL_type_63 rfl ?_
      refine k_zeq C 91 dL_type_65 (by decide) (fun hv => ?_) (fun hv => ?_)
      · skip
        have i0 : i = 0 := (nI_eq (b := 0) (by omega) (by omega)).mp hv
        refine k_iconst C 1 dL_type_91 (by decide) ?_
        refine k_goto C 96 dL_type_92 (by decide) ?_
        refine k_widen (k := 4 * i + 1) (n := 6 * (4 * i + 1)) (by omega) (by omega) (J96 _ ?_)
        unfold ty_s
        rw [if_pos i0]
        exact hJ
      · skip
        have i0 : ¬ i = 0 := fun z => hv (by rw [z]; rfl)
        refine k_aloadn C 0 dL_type_68 rfl ?_
        refine k_iconst C 0 dL_type_69 (by decide) ?_
        refine k_iload C 5 dL_type_70 rfl ?_
        refine k_iconst C 3 dL_type_72 (by decide) ?_
        have J83 : ∀ v : Int32, v = (if h < 3 then 43 else 59) → sk_W l X O A Q 8 (4 * i) (6 * (4 * i)) N 83 [(0, .ref (sk_ad O k)), (1, .int (nI w)), (2, .int 1), (3, .int (nI ((z / 3) + (7 * i)))), (4, .int (nI i)), (5, .int (nI h)), (6, .int (nI q)), (7, .int (nI (1 + t)))] [.int v, .int 0, .ref (sk_ad O k)] := by
          intro v hv
          refine k_iconst C 0 dL_type_83 (by decide) ?_
          refine k_iconst C 0 dL_type_84 (by decide) ?_
          refine k_ks C hSr hNx (4 * i + 1) (as := [.ref (sk_ad O k), .int 0, .int v, .int 0, .int 0]) yvL_call vsL_call ml_L_163 (q_Append l hO hst hJ.1 hk v 0 0) rfl rfl (Nat.le_of_ble_eq_true rfl) ⟨⟨by decide, by decide⟩, by omega, by show 4 * i + 1 ≤ 20; omega, by show 6 * (4 * i + 1) ≤ 120; omega⟩ dL_type_85 (fun x M7 hq9 => ?_)
          obtain ⟨hx, hj⟩ := ap_ok hq9 (by rw [hv]; exact ty_sv) (by omega)
          subst hx
          replace hJ := hJ.t hj
          clear hj
          refine k_zle C 95 dL_type_88 (by decide) (fun e => absurd e (np (by omega))) (fun _ => ?_)
          refine k_iconst C 1 dL_type_91 (by decide) ?_
          refine k_goto C 96 dL_type_92 (by decide) ?_
          refine J96 _ ?_
          unfold ty_s
          rw [if_neg i0, ← hv]
          exact hJ
        refine k_cge C 81 dL_type_73 (by decide) (fun hv => ?_) (fun hv => ?_)
        · skip
          refine k_bipush C 59 dL_type_81 (by decide) ?_
          exact J83 _ (if_neg (by rw [show (3 : Int32) = nI 3 from rfl, nI_leI (by omega) (by omega)] at hv; omega)).symm
        · skip
          refine k_bipush C 43 dL_type_76 (by decide) ?_
          refine k_goto C 83 dL_type_78 (by decide) ?_
          exact J83 _ (if_pos (by rw [show (3 : Int32) = nI 3 from rfl, nI_leI (by omega) (by omega)] at hv; omega)).symm
  exact L18 5 0 M1 rfl hJ
