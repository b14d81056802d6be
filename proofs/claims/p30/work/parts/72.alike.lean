/-! The law: two sheets that hold the same are alike (printed by p3.py) -/
set_option maxHeartbeats 4000000 in
set_option maxRecDepth 100000 in
theorem w_alike (l : Launch) {O : sk_O} (hO : sk_inj O) (hst : l.stackTraces = false) {M : sk_M} {k j : Nat} {S : rl_T} (C1 : rl_C M k S) (C2 : rl_C M j S) (ap : k + 804 ≤ j ∨ j + 804 ≤ k) (hk : sk_isX O k) (hkj : sk_isX O j) {w : Nat} (hw : w < 2147483648) : sk_K l yL_alike (sk_w yL_alike cL_alike 6 (some .boolean)) ({ frames := 9, cells := 170, slots := 1020, locals := 217 }) O [.ref (sk_ad O k), .ref (sk_ad O j), .int (nI w)] M 170 (fun x M2 => x = 1 ∧ rl_C M2 k S ∧ rl_C M2 j S) := by
  refine sk_ki (by decide) ⟨rfl, rfl⟩ hO (Nat.le_of_ble_eq_true rfl) (fun X A Q C hSr hNx ret => ?_)
  show sk_W l X O A Q 6 0 (6 * 0) M 0 [(0, .ref (sk_ad O k)), (1, .ref (sk_ad O j)), (2, .int (nI w))] []
  refine k_aloadn C 0 dL_alike_0 rfl ?_
  refine k_iloadn C 2 dL_alike_1 rfl ?_
  refine k_i2l C dL_alike_2 ?_
  refine k_iconst C 1 dL_alike_3 (by decide) ?_
  refine k_iloadn C 2 dL_alike_4 rfl ?_
  refine k_bipush C 40 dL_alike_5 (by decide) ?_
  refine k_irem C dL_alike_7 (by decide) ?_
  refine k_top (nI (w % 40)) (sk_nrem (a := w) (b := 40) rfl rfl (by omega) (by decide)) ?_
  refine k_iadd C dL_alike_8 ?_
  refine k_top (nI (1 + (w % 40))) (sk_nadd (a := 1) (b := w % 40) rfl rfl) ?_
  refine k_kg C hSr hNx (1) (as := [.ref (sk_ad O k), .long ((nI w).toInt64), .int (nI (1 + (w % 40)))]) yg_trySimulate ml_L_189 (t_trySimulate l hO hst C1 hk ((nI w).toInt64) (nI (1 + (w % 40)))) rfl rfl (Nat.le_of_ble_eq_true rfl) ⟨⟨by decide, by decide⟩, by decide, by decide, by decide⟩ dL_alike_9 (fun x M1 h => ?_)
  obtain ⟨hx, hj⟩ := h
  subst hx
  replace C2 := hj.x ap C2
  replace C1 := hj.1
  clear hj
  refine k_aloadn C 1 dL_alike_12 rfl ?_
  refine k_iloadn C 2 dL_alike_13 rfl ?_
  refine k_i2l C dL_alike_14 ?_
  refine k_iconst C 1 dL_alike_15 (by decide) ?_
  refine k_iloadn C 2 dL_alike_16 rfl ?_
  refine k_bipush C 40 dL_alike_17 (by decide) ?_
  refine k_irem C dL_alike_19 (by decide) ?_
  refine k_top (nI (w % 40)) (sk_nrem (a := w) (b := 40) rfl rfl (by omega) (by decide)) ?_
  refine k_iadd C dL_alike_20 ?_
  refine k_top (nI (1 + (w % 40))) (sk_nadd (a := 1) (b := w % 40) rfl rfl) ?_
  refine k_kg C hSr hNx (2) (as := [.ref (sk_ad O j), .long ((nI w).toInt64), .int (nI (1 + (w % 40)))]) yg_trySimulate ml_L_189 (t_trySimulate l hO hst C2 hkj ((nI w).toInt64) (nI (1 + (w % 40)))) rfl rfl (Nat.le_of_ble_eq_true rfl) ⟨⟨by decide, by decide⟩, by decide, by decide, by decide⟩ dL_alike_21 (fun x M2 h => ?_)
  obtain ⟨hx, hj⟩ := h
  subst hx
  replace C1 := hj.x ap.symm C1
  replace C2 := hj.1
  clear hj
  refine k_cne C 42 dL_alike_24 (by decide) (fun e => absurd rfl e) (fun _ => ?_)
  refine k_aloadn C 0 dL_alike_27 rfl ?_
  refine k_vi C (as := []) yvX7_errorPosition viX7_errorPosition ml_L_197 (m_X7_errorPosition l hO M2 (k := k) (n := S.n) (hk := hk) (hn := C1.2.2.2.2.1) (hn2 := C1.2.2.2.1)) hk.1 rfl rfl rfl (Nat.le_of_ble_eq_true rfl) ⟨⟨by decide, by decide⟩, by decide, by decide⟩ dL_alike_28 (fun r M3 h => ?_)
  obtain ⟨hx, hj⟩ := c_error C1 h
  subst hx
  replace C2 := hj.x ap C2
  replace C1 := hj.1
  clear hj
  refine k_aloadn C 1 dL_alike_31 rfl ?_
  refine k_vi C (as := []) yvX7_errorPosition viX7_errorPosition ml_L_197 (m_X7_errorPosition l hO M3 (k := j) (n := S.n) (hk := hkj) (hn := C2.2.2.2.2.1) (hn2 := C2.2.2.2.1)) hkj.1 rfl rfl rfl (Nat.le_of_ble_eq_true rfl) ⟨⟨by decide, by decide⟩, by decide, by decide⟩ dL_alike_32 (fun r M4 h => ?_)
  obtain ⟨hx, hj⟩ := c_error C2 h
  subst hx
  replace C1 := hj.x ap.symm C1
  replace C2 := hj.1
  clear hj
  refine k_cne C 42 dL_alike_35 (by decide) (fun e => absurd rfl e) (fun _ => ?_)
  refine k_iconst C 1 dL_alike_38 (by decide) ?_
  refine k_goto C 43 dL_alike_39 (by decide) ?_
  refine k_istoren C [1, 2, 3, 0] [(0, .ref (sk_ad O k)), (1, .ref (sk_ad O j)), (2, .int (nI w)), (3, .int 1)] dL_alike_43 (by decide) rfl ?_
  refine k_iconst C 0 dL_alike_44 (by decide) ?_
  refine k_istore C [1, 2, 3, 4, 0] [(0, .ref (sk_ad O k)), (1, .ref (sk_ad O j)), (2, .int (nI w)), (3, .int 1), (4, .int 0)] dL_alike_45 (by decide) rfl ?_
  have L47 : ∀ (d i : Nat) (N : sk_M), i + d = 6 → rl_C N k S → rl_C N j S → sk_W l X O A Q 6 (2 + 28 * i) (6 * (2 + 28 * i)) N 47 [(0, .ref (sk_ad O k)), (1, .ref (sk_ad O j)), (2, .int (nI w)), (3, .int 1), (4, .int (nI i))] [] := by
    intro d
    induction d with
    | zero =>
      intro i N hi C1 C2
      obtain rfl : i = 6 := by omega
      refine k_iload C 4 dL_alike_47 rfl ?_
      refine k_bipush C 6 dL_alike_49 (by decide) ?_
      refine k_cge C 220 dL_alike_51 (by decide) (fun _ => ?_) (fun e => absurd (show (6 : Int32) ≤ nI 6 from by decide) e)
      refine k_iloadn C 3 dL_alike_220 rfl ?_
      exact ret _ _ _ _ _ (by decide) dL_alike_221 rfl ⟨rfl, C1, C2⟩
    | succ d ih =>
      intro i N hi C1 C2
      refine k_iload C 4 dL_alike_47 rfl ?_
      refine k_bipush C 6 dL_alike_49 (by decide) ?_
      refine k_cge C 220 dL_alike_51 (by decide) (fun e => absurd e (by rw [show (6 : Int32) = nI 6 from rfl, nI_leI (by omega) (by omega)]; omega)) (fun _ => ?_)
      refine k_iloadn C 3 dL_alike_54 rfl ?_
      refine k_zeq C 220 dL_alike_55 (by decide) (fun e => absurd e (by decide)) (fun _ => ?_)
      refine k_aloadn C 0 dL_alike_58 rfl ?_
      refine k_iconst C 1 dL_alike_59 (by decide) ?_
      refine k_iload C 4 dL_alike_60 rfl ?_
      refine k_iconst C 0 dL_alike_62 (by decide) ?_
      refine k_iconst C 0 dL_alike_63 (by decide) ?_
      refine k_ks C hSr hNx (2 + 28 * i + 1) (as := [.ref (sk_ad O k), .int 1, .int (nI i), .int 0, .int 0]) yvL_call vsL_call ml_L_163 (q_About l hO hst C1 hk (nI i) 0 0) rfl rfl (Nat.le_of_ble_eq_true rfl) ⟨⟨by decide, by decide⟩, by omega, Nat.le_trans (Nat.add_le_add_left (by decide : _ ≤ 28) _) (by show 2 + 28 * i + 28 ≤ 170; omega), Nat.le_trans (Nat.mul_le_mul_left 6 (Nat.add_le_add_left (by decide : _ ≤ 28) _)) (by show 6 * (2 + 28 * i + 28) ≤ 1020; omega)⟩ dL_alike_64 (fun x M5 h => ?_)
      obtain ⟨hx, hj⟩ := h
      subst hx
      replace C2 := hj.x ap C2
      replace C1 := hj.1
      clear hj
      refine k_aloadn C 1 dL_alike_67 rfl ?_
      refine k_iconst C 1 dL_alike_68 (by decide) ?_
      refine k_iload C 4 dL_alike_69 rfl ?_
      refine k_iconst C 0 dL_alike_71 (by decide) ?_
      refine k_iconst C 0 dL_alike_72 (by decide) ?_
      refine k_ks C hSr hNx (2 + 28 * i + 2) (as := [.ref (sk_ad O j), .int 1, .int (nI i), .int 0, .int 0]) yvL_call vsL_call ml_L_163 (q_About l hO hst C2 hkj (nI i) 0 0) rfl rfl (Nat.le_of_ble_eq_true rfl) ⟨⟨by decide, by decide⟩, by omega, Nat.le_trans (Nat.add_le_add_left (by decide : _ ≤ 28) _) (by show 2 + 28 * i + 28 ≤ 170; omega), Nat.le_trans (Nat.mul_le_mul_left 6 (Nat.add_le_add_left (by decide : _ ≤ 28) _)) (by show 6 * (2 + 28 * i + 28) ≤ 1020; omega)⟩ dL_alike_73 (fun x M6 h => ?_)
      obtain ⟨hx, hj⟩ := h
      subst hx
      replace C1 := hj.x ap.symm C1
      replace C2 := hj.1
      clear hj
      refine k_cne C 104 dL_alike_76 (by decide) (fun e => absurd rfl e) (fun _ => ?_)
      refine k_aloadn C 0 dL_alike_79 rfl ?_
      refine k_iconst C 4 dL_alike_80 (by decide) ?_
      refine k_iload C 4 dL_alike_81 rfl ?_
      refine k_iconst C 0 dL_alike_83 (by decide) ?_
      refine k_iconst C 0 dL_alike_84 (by decide) ?_
      refine k_ks C hSr hNx (2 + 28 * i + 3) (as := [.ref (sk_ad O k), .int 4, .int (nI i), .int 0, .int 0]) yvL_call vsL_call ml_L_163 (q_Setting l hO hst C1 hk (nI i) 0 0) rfl rfl (Nat.le_of_ble_eq_true rfl) ⟨⟨by decide, by decide⟩, by omega, Nat.le_trans (Nat.add_le_add_left (by decide : _ ≤ 28) _) (by show 2 + 28 * i + 28 ≤ 170; omega), Nat.le_trans (Nat.mul_le_mul_left 6 (Nat.add_le_add_left (by decide : _ ≤ 28) _)) (by show 6 * (2 + 28 * i + 28) ≤ 1020; omega)⟩ dL_alike_85 (fun x M7 h => ?_)
      obtain ⟨hx, hj⟩ := h
      subst hx
      replace C2 := hj.x ap C2
      replace C1 := hj.1
      clear hj
      refine k_aloadn C 1 dL_alike_88 rfl ?_
      refine k_iconst C 4 dL_alike_89 (by decide) ?_
      refine k_iload C 4 dL_alike_90 rfl ?_
      refine k_iconst C 0 dL_alike_92 (by decide) ?_
      refine k_iconst C 0 dL_alike_93 (by decide) ?_
      refine k_ks C hSr hNx (2 + 28 * i + 4) (as := [.ref (sk_ad O j), .int 4, .int (nI i), .int 0, .int 0]) yvL_call vsL_call ml_L_163 (q_Setting l hO hst C2 hkj (nI i) 0 0) rfl rfl (Nat.le_of_ble_eq_true rfl) ⟨⟨by decide, by decide⟩, by omega, Nat.le_trans (Nat.add_le_add_left (by decide : _ ≤ 28) _) (by show 2 + 28 * i + 28 ≤ 170; omega), Nat.le_trans (Nat.mul_le_mul_left 6 (Nat.add_le_add_left (by decide : _ ≤ 28) _)) (by show 6 * (2 + 28 * i + 28) ≤ 1020; omega)⟩ dL_alike_94 (fun x M8 h => ?_)
      obtain ⟨hx, hj⟩ := h
      subst hx
      replace C1 := hj.x ap.symm C1
      replace C2 := hj.1
      clear hj
      refine k_cne C 104 dL_alike_97 (by decide) (fun e => absurd rfl e) (fun _ => ?_)
      refine k_iconst C 1 dL_alike_100 (by decide) ?_
      refine k_goto C 105 dL_alike_101 (by decide) ?_
      refine k_istoren C [1, 2, 3, 0, 4] [(0, .ref (sk_ad O k)), (1, .ref (sk_ad O j)), (2, .int (nI w)), (3, .int 1), (4, .int (nI i))] dL_alike_105 (by decide) rfl ?_
      refine k_iconst C 0 dL_alike_106 (by decide) ?_
      refine k_istore C [1, 2, 3, 4, 5, 0] [(0, .ref (sk_ad O k)), (1, .ref (sk_ad O j)), (2, .int (nI w)), (3, .int 1), (4, .int (nI i)), (5, .int 0)] dL_alike_107 (by decide) rfl ?_
      have L109 : ∀ (d p : Nat) (N : sk_M), p + d = 4 → rl_C N k S → rl_C N j S → sk_W l X O A Q 6 (2 + 28 * i + 4 + 6 * p) (6 * (2 + 28 * i + 4 + 6 * p)) N 109 [(0, .ref (sk_ad O k)), (1, .ref (sk_ad O j)), (2, .int (nI w)), (3, .int 1), (4, .int (nI i)), (5, .int (nI p))] [] := by
        intro d2
        induction d2 with
        | zero =>
          intro p N hp C1 C2
          obtain rfl : p = 4 := by omega
          refine k_iload C 5 dL_alike_109 rfl ?_
          refine k_iconst C 4 dL_alike_111 (by decide) ?_
          refine k_cge C 214 dL_alike_112 (by decide) (fun _ => ?_) (fun e => absurd (show (4 : Int32) ≤ nI 4 from by decide) e)
          refine k_iinc C 4 (nI (i + 1)) [1, 2, 3, 4, 0, 5] [(0, .ref (sk_ad O k)), (1, .ref (sk_ad O j)), (2, .int (nI w)), (3, .int 1), (4, .int (nI (i + 1))), (5, .int (nI 4))] dL_alike_214 rfl (nI_add _ 1) (by decide) rfl ?_
          refine k_goto C 47 dL_alike_217 (by decide) ?_
          refine k_sub [0, 1, 2, 3, 4] (lv' := [(0, .ref (sk_ad O k)), (1, .ref (sk_ad O j)), (2, .int (nI w)), (3, .int 1), (4, .int (nI (i + 1)))]) rfl ?_
          exact k_widen (by omega) (by omega) (ih (i + 1) N (by omega) C1 C2)
        | succ d2 ih2 =>
          intro p N hp C1 C2
          refine k_iload C 5 dL_alike_109 rfl ?_
          refine k_iconst C 4 dL_alike_111 (by decide) ?_
          refine k_cge C 214 dL_alike_112 (by decide) (fun e => absurd e (by rw [show (4 : Int32) = nI 4 from rfl, nI_leI (by omega) (by omega)]; omega)) (fun _ => ?_)
          refine k_iloadn C 3 dL_alike_115 rfl ?_
          refine k_zeq C 214 dL_alike_116 (by decide) (fun e => absurd e (by decide)) (fun _ => ?_)
          refine k_aloadn C 0 dL_alike_119 rfl ?_
          refine k_iconst C 2 dL_alike_120 (by decide) ?_
          refine k_iload C 5 dL_alike_121 rfl ?_
          refine k_iload C 4 dL_alike_123 rfl ?_
          refine k_iconst C 0 dL_alike_125 (by decide) ?_
          refine k_ks C hSr hNx (2 + 28 * i + 4 + 6 * p + 1) (as := [.ref (sk_ad O k), .int 2, .int (nI p), .int (nI i), .int 0]) yvL_call vsL_call ml_L_163 (q_Skater l hO hst C1 hk (nI p) (nI i) 0) rfl rfl (Nat.le_of_ble_eq_true rfl) ⟨⟨by decide, by decide⟩, by omega, Nat.le_trans (Nat.add_le_add_left (by decide : _ ≤ 6) _) (by show 2 + 28 * i + 4 + 6 * p + 6 ≤ 170; omega), Nat.le_trans (Nat.mul_le_mul_left 6 (Nat.add_le_add_left (by decide : _ ≤ 6) _)) (by show 6 * (2 + 28 * i + 4 + 6 * p + 6) ≤ 1020; omega)⟩ dL_alike_126 (fun x M9 h => ?_)
          obtain ⟨hx, hj⟩ := h
          subst hx
          replace C2 := hj.x ap C2
          replace C1 := hj.1
          clear hj
          refine k_aloadn C 1 dL_alike_129 rfl ?_
          refine k_iconst C 2 dL_alike_130 (by decide) ?_
          refine k_iload C 5 dL_alike_131 rfl ?_
          refine k_iload C 4 dL_alike_133 rfl ?_
          refine k_iconst C 0 dL_alike_135 (by decide) ?_
          refine k_ks C hSr hNx (2 + 28 * i + 4 + 6 * p + 2) (as := [.ref (sk_ad O j), .int 2, .int (nI p), .int (nI i), .int 0]) yvL_call vsL_call ml_L_163 (q_Skater l hO hst C2 hkj (nI p) (nI i) 0) rfl rfl (Nat.le_of_ble_eq_true rfl) ⟨⟨by decide, by decide⟩, by omega, Nat.le_trans (Nat.add_le_add_left (by decide : _ ≤ 6) _) (by show 2 + 28 * i + 4 + 6 * p + 6 ≤ 170; omega), Nat.le_trans (Nat.mul_le_mul_left 6 (Nat.add_le_add_left (by decide : _ ≤ 6) _)) (by show 6 * (2 + 28 * i + 4 + 6 * p + 6) ≤ 1020; omega)⟩ dL_alike_136 (fun x M10 h => ?_)
          obtain ⟨hx, hj⟩ := h
          subst hx
          replace C1 := hj.x ap.symm C1
          replace C2 := hj.1
          clear hj
          refine k_cne C 206 dL_alike_139 (by decide) (fun e => absurd rfl e) (fun _ => ?_)
          refine k_aloadn C 0 dL_alike_142 rfl ?_
          refine k_iconst C 3 dL_alike_143 (by decide) ?_
          refine k_iload C 5 dL_alike_144 rfl ?_
          refine k_iload C 4 dL_alike_146 rfl ?_
          refine k_iloadn C 2 dL_alike_148 rfl ?_
          refine k_bipush C 9 dL_alike_149 (by decide) ?_
          refine k_irem C dL_alike_151 (by decide) ?_
          refine k_top (nI (w % 9)) (sk_nrem (a := w) (b := 9) rfl rfl (by omega) (by decide)) ?_
          refine k_ks C hSr hNx (2 + 28 * i + 4 + 6 * p + 3) (as := [.ref (sk_ad O k), .int 3, .int (nI p), .int (nI i), .int (nI (w % 9))]) yvL_call vsL_call ml_L_163 (q_Element l hO hst C1 hk (nI p) (nI i) (nI (w % 9))) rfl rfl (Nat.le_of_ble_eq_true rfl) ⟨⟨by decide, by decide⟩, by omega, Nat.le_trans (Nat.add_le_add_left (by decide : _ ≤ 6) _) (by show 2 + 28 * i + 4 + 6 * p + 6 ≤ 170; omega), Nat.le_trans (Nat.mul_le_mul_left 6 (Nat.add_le_add_left (by decide : _ ≤ 6) _)) (by show 6 * (2 + 28 * i + 4 + 6 * p + 6) ≤ 1020; omega)⟩ dL_alike_152 (fun x M11 h => ?_)
          obtain ⟨hx, hj⟩ := h
          subst hx
          replace C2 := hj.x ap C2
          replace C1 := hj.1
          clear hj
          refine k_aloadn C 1 dL_alike_155 rfl ?_
          refine k_iconst C 3 dL_alike_156 (by decide) ?_
          refine k_iload C 5 dL_alike_157 rfl ?_
          refine k_iload C 4 dL_alike_159 rfl ?_
          refine k_iloadn C 2 dL_alike_161 rfl ?_
          refine k_bipush C 9 dL_alike_162 (by decide) ?_
          refine k_irem C dL_alike_164 (by decide) ?_
          refine k_top (nI (w % 9)) (sk_nrem (a := w) (b := 9) rfl rfl (by omega) (by decide)) ?_
          refine k_ks C hSr hNx (2 + 28 * i + 4 + 6 * p + 4) (as := [.ref (sk_ad O j), .int 3, .int (nI p), .int (nI i), .int (nI (w % 9))]) yvL_call vsL_call ml_L_163 (q_Element l hO hst C2 hkj (nI p) (nI i) (nI (w % 9))) rfl rfl (Nat.le_of_ble_eq_true rfl) ⟨⟨by decide, by decide⟩, by omega, Nat.le_trans (Nat.add_le_add_left (by decide : _ ≤ 6) _) (by show 2 + 28 * i + 4 + 6 * p + 6 ≤ 170; omega), Nat.le_trans (Nat.mul_le_mul_left 6 (Nat.add_le_add_left (by decide : _ ≤ 6) _)) (by show 6 * (2 + 28 * i + 4 + 6 * p + 6) ≤ 1020; omega)⟩ dL_alike_165 (fun x M12 h => ?_)
          obtain ⟨hx, hj⟩ := h
          subst hx
          replace C1 := hj.x ap.symm C1
          replace C2 := hj.1
          clear hj
          refine k_cne C 206 dL_alike_168 (by decide) (fun e => absurd rfl e) (fun _ => ?_)
          refine k_aloadn C 0 dL_alike_171 rfl ?_
          refine k_iload C 5 dL_alike_172 rfl ?_
          refine k_iload C 4 dL_alike_174 rfl ?_
          refine k_iloadn C 2 dL_alike_176 rfl ?_
          refine k_iconst C 3 dL_alike_177 (by decide) ?_
          refine k_irem C dL_alike_178 (by decide) ?_
          refine k_top (nI (w % 3)) (sk_nrem (a := w) (b := 3) rfl rfl (by omega) (by decide)) ?_
          refine k_iloadn C 2 dL_alike_179 rfl ?_
          refine k_iconst C 5 dL_alike_180 (by decide) ?_
          refine k_irem C dL_alike_181 (by decide) ?_
          refine k_top (nI (w % 5)) (sk_nrem (a := w) (b := 5) rfl rfl (by omega) (by decide)) ?_
          refine k_kg C hSr hNx (2 + 28 * i + 4 + 6 * p + 5) (as := [.ref (sk_ad O k), .int (nI p), .int (nI i), .int (nI (w % 3)), .int (nI (w % 5))]) yg_tryPart ml_L_166 (t_tryPart l hO hst C1 hk (nI p) (nI i) (nI (w % 3)) (nI (w % 5))) rfl rfl (Nat.le_of_ble_eq_true rfl) ⟨⟨by decide, by decide⟩, by omega, Nat.le_trans (Nat.add_le_add_left (by decide : _ ≤ 6) _) (by show 2 + 28 * i + 4 + 6 * p + 6 ≤ 170; omega), Nat.le_trans (Nat.mul_le_mul_left 6 (Nat.add_le_add_left (by decide : _ ≤ 6) _)) (by show 6 * (2 + 28 * i + 4 + 6 * p + 6) ≤ 1020; omega)⟩ dL_alike_182 (fun x M13 h => ?_)
          obtain ⟨hx, hj⟩ := h
          subst hx
          replace C2 := hj.x ap C2
          replace C1 := hj.1
          clear hj
          refine k_aloadn C 1 dL_alike_185 rfl ?_
          refine k_iload C 5 dL_alike_186 rfl ?_
          refine k_iload C 4 dL_alike_188 rfl ?_
          refine k_iloadn C 2 dL_alike_190 rfl ?_
          refine k_iconst C 3 dL_alike_191 (by decide) ?_
          refine k_irem C dL_alike_192 (by decide) ?_
          refine k_top (nI (w % 3)) (sk_nrem (a := w) (b := 3) rfl rfl (by omega) (by decide)) ?_
          refine k_iloadn C 2 dL_alike_193 rfl ?_
          refine k_iconst C 5 dL_alike_194 (by decide) ?_
          refine k_irem C dL_alike_195 (by decide) ?_
          refine k_top (nI (w % 5)) (sk_nrem (a := w) (b := 5) rfl rfl (by omega) (by decide)) ?_
          refine k_kg C hSr hNx (2 + 28 * i + 4 + 6 * p + 6) (as := [.ref (sk_ad O j), .int (nI p), .int (nI i), .int (nI (w % 3)), .int (nI (w % 5))]) yg_tryPart ml_L_166 (t_tryPart l hO hst C2 hkj (nI p) (nI i) (nI (w % 3)) (nI (w % 5))) rfl rfl (Nat.le_of_ble_eq_true rfl) ⟨⟨by decide, by decide⟩, by omega, Nat.le_trans (Nat.add_le_add_left (by decide : _ ≤ 6) _) (by show 2 + 28 * i + 4 + 6 * p + 6 ≤ 170; omega), Nat.le_trans (Nat.mul_le_mul_left 6 (Nat.add_le_add_left (by decide : _ ≤ 6) _)) (by show 6 * (2 + 28 * i + 4 + 6 * p + 6) ≤ 1020; omega)⟩ dL_alike_196 (fun x M14 h => ?_)
          obtain ⟨hx, hj⟩ := h
          subst hx
          replace C1 := hj.x ap.symm C1
          replace C2 := hj.1
          clear hj
          refine k_cne C 206 dL_alike_199 (by decide) (fun e => absurd rfl e) (fun _ => ?_)
          refine k_iconst C 1 dL_alike_202 (by decide) ?_
          refine k_goto C 207 dL_alike_203 (by decide) ?_
          refine k_istoren C [1, 2, 3, 0, 4, 5] [(0, .ref (sk_ad O k)), (1, .ref (sk_ad O j)), (2, .int (nI w)), (3, .int 1), (4, .int (nI i)), (5, .int (nI p))] dL_alike_207 (by decide) rfl ?_
          refine k_iinc C 5 (nI (p + 1)) [1, 2, 3, 4, 5, 0] [(0, .ref (sk_ad O k)), (1, .ref (sk_ad O j)), (2, .int (nI w)), (3, .int 1), (4, .int (nI i)), (5, .int (nI (p + 1)))] dL_alike_208 rfl (nI_add _ 1) (by decide) rfl ?_
          refine k_goto C 109 dL_alike_211 (by decide) ?_
          exact k_widen (by omega) (by omega) (ih2 (p + 1) _ (by omega) C1 C2)
      exact k_widen (by omega) (by omega) (L109 4 0 _ rfl C1 C2)
  exact L47 6 0 _ rfl C1 C2
