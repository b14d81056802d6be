/-! The law: calls that are refused (printed by p1.py) -/
theorem fi_n1 {a n : Nat} (h : 300 < n) (h2 : n < 100000) : ¬ st_fi (nI a) (nI n) := fun z => by
  have k : ∀ c : Nat, c ≤ 300 → ¬ nI n ≤ nI c := fun c hc w => by rw [nI_leI (by omega) (by omega)] at w; omega
  rcases z with ⟨-, -, w⟩ | ⟨-, -, w⟩ | ⟨-, -, w⟩ | ⟨-, -, w⟩
  · exact k 300 (by omega) w
  · exact k 5 (by omega) w
  · exact k 12 (by omega) w
  · exact k 30 (by omega) w
theorem fi_n2 {a : Nat} {v : Int32} (h : 4 < a) (h2 : a < 100000) : ¬ st_fi (nI a) v := fun z => by
  have k : ∀ c : Nat, c ≤ 4 → ¬ nI a = nI c := fun c hc w => by rw [nI_eq (by omega) (by omega)] at w; omega
  rcases z with ⟨w, -⟩ | ⟨w | w, -⟩ | ⟨w, -⟩ | ⟨w, -⟩
  · exact k 0 (by omega) w
  · exact k 1 (by omega) w
  · exact k 3 (by omega) w
  · exact k 2 (by omega) w
  · exact k 4 (by omega) w
theorem ub1 {n : Nat} (h : 60 < n) (h2 : n < 100000) : ¬ (¬ nI n < 1 ∧ ¬ 60 < nI n) := fun z => z.2 ((nI_ltI (a := 60) (by omega) (by omega)).mpr h)
theorem rs_k1 {X : Nat} (h : X < 100000) : ¬ rs_k 1 (100000 + (nI X).toInt64) := fun z => by
  have h1 := (rs_rn.mp z).2.2
  refine h1 ?_
  have e1 : (nI X).toInt = X := Int32.toInt_ofNat_of_lt (by omega)
  have e2 : (rn_p (1 : Int32).toNatClampNeg - 1).toInt = 99999 := by decide
  have e3 : (100000 : Int64).toInt = 100000 := rfl
  rw [Int64.lt_iff_toInt_lt, e2, Int64.toInt_add, Int32.toInt_toInt64, e1, e3, Int.bmod_eq_of_le (by simp; omega) (by simp; omega)]
  omega
set_option maxHeartbeats 4000000 in
set_option maxRecDepth 100000 in
theorem w_refuses (l : Launch) {O : sk_O} (hO : sk_inj O) (hst : l.stackTraces = false) {M : sk_M} {k : Nat} {S : rl_T} (C0 : rl_C M k S) (hk : sk_isX O k) {w : Nat} (hX : w < 100000) (hm : 1 ≤ S.m) : sk_K l yL_refuses (sk_w yL_refuses cL_refuses 3 (some .boolean)) ({ frames := 9, cells := 31, slots := 186, locals := 217 }) O [.ref (sk_ad O k), .int (nI w)] M 31 (fun x M2 => x = 1 ∧ rl_J k M S M2) := by
  have s0 := C0.so
  have h4 := s0.1
  have hs0 : mo_hs S.r 0 := (s0.hs (f := 0) (by omega)).mpr (by omega)
  have hsf : ¬ mo_hs S.r (nI (S.m + w % 50)) := fun z => by
    have := (s0.hs (by omega)).mp z
    omega
  have he12 : ¬ mo_he S.r 0 (nI (12 + w % 9)) := s0.h12 (by omega) (by omega)
  have hef : ¬ mo_he S.r (nI (S.m + w % 50)) 0 := fun z => hsf z.1
  have hJ : rl_J k M S M := rl_J.r C0
  refine sk_ki (by decide) ⟨rfl, rfl⟩ hO (Nat.le_of_ble_eq_true rfl) (fun X A Q C hSr hNx ret => ?_)
  show sk_W l X O A Q 3 0 (6 * 0) M 0 [(0, .ref (sk_ad O k)), (1, .int (nI w))] []
  refine k_aloadn C 0 dL_refuses_0 rfl ?_
  refine k_iconst C 1 dL_refuses_1 (by decide) ?_
  refine k_iconst C 0 dL_refuses_2 (by decide) ?_
  refine k_iconst C 0 dL_refuses_3 (by decide) ?_
  refine k_iconst C 0 dL_refuses_4 (by decide) ?_
  refine k_ks C hSr hNx (1) (as := [.ref (sk_ad O k), .int 1, .int 0, .int 0, .int 0]) yvL_call vsL_call ml_L_163 (q_About l hO hst hJ.1 hk 0 0 0) rfl rfl (Nat.le_of_ble_eq_true rfl) ⟨⟨by decide, by decide⟩, by decide, by decide, by decide⟩ dL_refuses_5 (fun x M1 h => ?_)
  obtain ⟨hx, hj⟩ := ax0 h (er1p ⟨by decide, by decide⟩)
  replace hx : x = nI S.m := hx.trans s0.2.1
  subst hx
  replace hJ := hJ.t hj
  clear hj
  refine k_iloadn C 1 dL_refuses_8 rfl ?_
  refine k_bipush C 50 dL_refuses_9 (by decide) ?_
  refine k_irem C dL_refuses_11 (by decide) ?_
  refine k_top (nI (w % 50)) (sk_nrem (a := w) (b := 50) rfl rfl (by omega) (by decide)) ?_
  refine k_iadd C dL_refuses_12 ?_
  refine k_top (nI (S.m + (w % 50))) (sk_nadd (a := S.m) (b := w % 50) rfl rfl) ?_
  refine k_istoren C [1, 2, 0] [(0, .ref (sk_ad O k)), (1, .int (nI w)), (2, .int (nI (S.m + (w % 50))))] dL_refuses_13 (by decide) rfl ?_
  refine k_aloadn C 0 dL_refuses_14 rfl ?_
  refine k_iconst C 0 dL_refuses_15 (by decide) ?_
  refine k_iloadn C 1 dL_refuses_16 rfl ?_
  refine k_iconst C 2 dL_refuses_17 (by decide) ?_
  refine k_irem C dL_refuses_18 (by decide) ?_
  refine k_top (nI (w % 2)) (sk_nrem (a := w) (b := 2) rfl rfl (by omega) (by decide)) ?_
  have J39 : ∀ v : Int32, ¬ (¬ v < 0 ∧ ¬ 255 < v) → sk_W l X O A Q 3 1 (6 * 1) M1 39 [(0, .ref (sk_ad O k)), (1, .int (nI w)), (2, .int (nI (S.m + (w % 50))))] [.int v, .int 0, .ref (sk_ad O k)] := by
    intro v hv
    refine k_iconst C 0 dL_refuses_39 (by decide) ?_
    refine k_iconst C 0 dL_refuses_40 (by decide) ?_
    refine k_ks C hSr hNx (2) (as := [.ref (sk_ad O k), .int 0, .int v, .int 0, .int 0]) yvL_call vsL_call ml_L_163 (q_Append l hO hst hJ.1 hk v 0 0) rfl rfl (Nat.le_of_ble_eq_true rfl) ⟨⟨by decide, by decide⟩, by decide, by decide, by decide⟩ dL_refuses_41 (fun x M2 h => ?_)
    obtain ⟨hx, hj⟩ : _ ∧ rl_J k _ S _ := cx1' h (er2n hv)
    subst hx
    replace hJ := hJ.t hj
    clear hj
    refine k_ldc C kc_L_18 dL_refuses_44 ?_
    refine k_cne C 561 dL_refuses_46 (by decide) (fun e => absurd rfl e) (fun _ => ?_)
    refine k_aloadn C 0 dL_refuses_49 rfl ?_
    refine k_iconst C 1 dL_refuses_50 (by decide) ?_
    refine k_bipush C 6 dL_refuses_51 (by decide) ?_
    refine k_iloadn C 1 dL_refuses_53 rfl ?_
    refine k_bipush C 50 dL_refuses_54 (by decide) ?_
    refine k_irem C dL_refuses_56 (by decide) ?_
    refine k_top (nI (w % 50)) (sk_nrem (a := w) (b := 50) rfl rfl (by omega) (by decide)) ?_
    refine k_iadd C dL_refuses_57 ?_
    refine k_top (nI (6 + (w % 50))) (sk_nadd (a := 6) (b := w % 50) rfl rfl) ?_
    refine k_iconst C 0 dL_refuses_58 (by decide) ?_
    refine k_iconst C 0 dL_refuses_59 (by decide) ?_
    refine k_ks C hSr hNx (3) (as := [.ref (sk_ad O k), .int 1, .int (nI (6 + (w % 50))), .int 0, .int 0]) yvL_call vsL_call ml_L_163 (q_About l hO hst hJ.1 hk (nI (6 + (w % 50))) 0 0) rfl rfl (Nat.le_of_ble_eq_true rfl) ⟨⟨by decide, by decide⟩, by decide, by decide, by decide⟩ dL_refuses_60 (fun x M3 h => ?_)
    obtain ⟨hx, hj⟩ : _ ∧ rl_J k _ S _ := ax1 h (er1n (ub (h := 5) rfl (by omega) (by omega)))
    subst hx
    replace hJ := hJ.t hj
    clear hj
    refine k_ldc C kc_L_18 dL_refuses_63 ?_
    refine k_cne C 561 dL_refuses_65 (by decide) (fun e => absurd rfl e) (fun _ => ?_)
    refine k_aloadn C 0 dL_refuses_68 rfl ?_
    refine k_iconst C 2 dL_refuses_69 (by decide) ?_
    refine k_iloadn C 2 dL_refuses_70 rfl ?_
    refine k_bipush C 9 dL_refuses_71 (by decide) ?_
    refine k_iconst C 0 dL_refuses_73 (by decide) ?_
    refine k_ks C hSr hNx (4) (as := [.ref (sk_ad O k), .int 2, .int (nI (S.m + (w % 50))), .int 9, .int 0]) yvL_call vsL_call ml_L_163 (q_Skater l hO hst hJ.1 hk (nI (S.m + (w % 50))) 9 0) rfl rfl (Nat.le_of_ble_eq_true rfl) ⟨⟨by decide, by decide⟩, by decide, by decide, by decide⟩ dL_refuses_74 (fun x M4 h => ?_)
    obtain ⟨hx, hj⟩ : _ ∧ rl_J k _ S _ := ax1 h (er2n hsf)
    subst hx
    replace hJ := hJ.t hj
    clear hj
    refine k_ldc C kc_L_15 dL_refuses_77 ?_
    refine k_cne C 561 dL_refuses_79 (by decide) (fun e => absurd rfl e) (fun _ => ?_)
    refine k_aloadn C 0 dL_refuses_82 rfl ?_
    refine k_iconst C 2 dL_refuses_83 (by decide) ?_
    refine k_iconst C 0 dL_refuses_84 (by decide) ?_
    refine k_bipush C 8 dL_refuses_85 (by decide) ?_
    refine k_iloadn C 1 dL_refuses_87 rfl ?_
    refine k_bipush C 9 dL_refuses_88 (by decide) ?_
    refine k_irem C dL_refuses_90 (by decide) ?_
    refine k_top (nI (w % 9)) (sk_nrem (a := w) (b := 9) rfl rfl (by omega) (by decide)) ?_
    refine k_iadd C dL_refuses_91 ?_
    refine k_top (nI (8 + (w % 9))) (sk_nadd (a := 8) (b := w % 9) rfl rfl) ?_
    refine k_iconst C 0 dL_refuses_92 (by decide) ?_
    refine k_ks C hSr hNx (5) (as := [.ref (sk_ad O k), .int 2, .int 0, .int (nI (8 + (w % 9))), .int 0]) yvL_call vsL_call ml_L_163 (q_Skater l hO hst hJ.1 hk 0 (nI (8 + (w % 9))) 0) rfl rfl (Nat.le_of_ble_eq_true rfl) ⟨⟨by decide, by decide⟩, by decide, by decide, by decide⟩ dL_refuses_93 (fun x M5 h => ?_)
    obtain ⟨hx, hj⟩ : _ ∧ rl_J k _ S _ := ax2 h (er2m hs0 (ub (h := 7) rfl (by omega) (by omega)))
    subst hx
    replace hJ := hJ.t hj
    clear hj
    refine k_ldc C kc_L_18 dL_refuses_96 ?_
    refine k_cne C 561 dL_refuses_98 (by decide) (fun e => absurd rfl e) (fun _ => ?_)
    refine k_aloadn C 0 dL_refuses_101 rfl ?_
    refine k_iconst C 3 dL_refuses_102 (by decide) ?_
    refine k_iconst C 0 dL_refuses_103 (by decide) ?_
    refine k_bipush C 12 dL_refuses_104 (by decide) ?_
    refine k_iloadn C 1 dL_refuses_106 rfl ?_
    refine k_bipush C 9 dL_refuses_107 (by decide) ?_
    refine k_irem C dL_refuses_109 (by decide) ?_
    refine k_top (nI (w % 9)) (sk_nrem (a := w) (b := 9) rfl rfl (by omega) (by decide)) ?_
    refine k_iadd C dL_refuses_110 ?_
    refine k_top (nI (12 + (w % 9))) (sk_nadd (a := 12) (b := w % 9) rfl rfl) ?_
    refine k_bipush C 9 dL_refuses_111 (by decide) ?_
    refine k_ks C hSr hNx (6) (as := [.ref (sk_ad O k), .int 3, .int 0, .int (nI (12 + (w % 9))), .int 9]) yvL_call vsL_call ml_L_163 (q_Element l hO hst hJ.1 hk 0 (nI (12 + (w % 9))) 9) rfl rfl (Nat.le_of_ble_eq_true rfl) ⟨⟨by decide, by decide⟩, by decide, by decide, by decide⟩ dL_refuses_113 (fun x M6 h => ?_)
    obtain ⟨hx, hj⟩ : _ ∧ rl_J k _ S _ := ax1 h (er2n he12)
    subst hx
    replace hJ := hJ.t hj
    clear hj
    refine k_ldc C kc_L_15 dL_refuses_116 ?_
    refine k_cne C 561 dL_refuses_118 (by decide) (fun e => absurd rfl e) (fun _ => ?_)
    refine k_aloadn C 0 dL_refuses_121 rfl ?_
    refine k_iconst C 3 dL_refuses_122 (by decide) ?_
    refine k_iloadn C 2 dL_refuses_123 rfl ?_
    refine k_iconst C 0 dL_refuses_124 (by decide) ?_
    refine k_bipush C 9 dL_refuses_125 (by decide) ?_
    refine k_ks C hSr hNx (7) (as := [.ref (sk_ad O k), .int 3, .int (nI (S.m + (w % 50))), .int 0, .int 9]) yvL_call vsL_call ml_L_163 (q_Element l hO hst hJ.1 hk (nI (S.m + (w % 50))) 0 9) rfl rfl (Nat.le_of_ble_eq_true rfl) ⟨⟨by decide, by decide⟩, by decide, by decide, by decide⟩ dL_refuses_127 (fun x M7 h => ?_)
    obtain ⟨hx, hj⟩ : _ ∧ rl_J k _ S _ := ax1 h (er2n hef)
    subst hx
    replace hJ := hJ.t hj
    clear hj
    refine k_ldc C kc_L_15 dL_refuses_130 ?_
    refine k_cne C 561 dL_refuses_132 (by decide) (fun e => absurd rfl e) (fun _ => ?_)
    refine k_aloadn C 0 dL_refuses_135 rfl ?_
    refine k_iconst C 0 dL_refuses_136 (by decide) ?_
    refine k_iloadn C 1 dL_refuses_137 rfl ?_
    refine k_bipush C 12 dL_refuses_138 (by decide) ?_
    refine k_irem C dL_refuses_140 (by decide) ?_
    refine k_top (nI (w % 12)) (sk_nrem (a := w) (b := 12) rfl rfl (by omega) (by decide)) ?_
    refine k_iconst C 3 dL_refuses_141 (by decide) ?_
    refine k_iloadn C 1 dL_refuses_142 rfl ?_
    refine k_bipush C 9 dL_refuses_143 (by decide) ?_
    refine k_irem C dL_refuses_145 (by decide) ?_
    refine k_top (nI (w % 9)) (sk_nrem (a := w) (b := 9) rfl rfl (by omega) (by decide)) ?_
    refine k_iadd C dL_refuses_146 ?_
    refine k_top (nI (3 + (w % 9))) (sk_nadd (a := 3) (b := w % 9) rfl rfl) ?_
    refine k_bipush C 9 dL_refuses_147 (by decide) ?_
    refine k_kg C hSr hNx (8) (as := [.ref (sk_ad O k), .int 0, .int (nI (w % 12)), .int (nI (3 + (w % 9))), .int 9]) yg_tryPart ml_L_166 (t_tryPart l hO hst hJ.1 hk 0 (nI (w % 12)) (nI (3 + (w % 9))) 9) rfl rfl (Nat.le_of_ble_eq_true rfl) ⟨⟨by decide, by decide⟩, by decide, by decide, by decide⟩ dL_refuses_149 (fun x M8 h => ?_)
    obtain ⟨hx, hj⟩ : _ ∧ rl_J k _ S _ := ax1 h (er2n (s0.h3 (by omega) (by omega) (by omega)))
    subst hx
    replace hJ := hJ.t hj
    clear hj
    refine k_ldc C kc_L_15 dL_refuses_152 ?_
    refine k_cne C 561 dL_refuses_154 (by decide) (fun e => absurd rfl e) (fun _ => ?_)
    refine k_aloadn C 0 dL_refuses_157 rfl ?_
    refine k_iconst C 4 dL_refuses_158 (by decide) ?_
    refine k_iconst C 5 dL_refuses_159 (by decide) ?_
    refine k_iloadn C 1 dL_refuses_160 rfl ?_
    refine k_bipush C 9 dL_refuses_161 (by decide) ?_
    refine k_irem C dL_refuses_163 (by decide) ?_
    refine k_top (nI (w % 9)) (sk_nrem (a := w) (b := 9) rfl rfl (by omega) (by decide)) ?_
    refine k_iadd C dL_refuses_164 ?_
    refine k_top (nI (5 + (w % 9))) (sk_nadd (a := 5) (b := w % 9) rfl rfl) ?_
    refine k_iconst C 0 dL_refuses_165 (by decide) ?_
    refine k_iconst C 0 dL_refuses_166 (by decide) ?_
    refine k_ks C hSr hNx (9) (as := [.ref (sk_ad O k), .int 4, .int (nI (5 + (w % 9))), .int 0, .int 0]) yvL_call vsL_call ml_L_163 (q_Setting l hO hst hJ.1 hk (nI (5 + (w % 9))) 0 0) rfl rfl (Nat.le_of_ble_eq_true rfl) ⟨⟨by decide, by decide⟩, by decide, by decide, by decide⟩ dL_refuses_167 (fun x M9 h => ?_)
    obtain ⟨hx, hj⟩ : _ ∧ rl_J k _ S _ := ax1 h (er1n (ul (h := 5) rfl (by omega) (by omega)))
    subst hx
    replace hJ := hJ.t hj
    clear hj
    refine k_ldc C kc_L_18 dL_refuses_170 ?_
    refine k_cne C 561 dL_refuses_172 (by decide) (fun e => absurd rfl e) (fun _ => ?_)
    refine k_aloadn C 0 dL_refuses_175 rfl ?_
    refine k_bipush C 6 dL_refuses_176 (by decide) ?_
    refine k_iloadn C 2 dL_refuses_178 rfl ?_
    refine k_iconst C 0 dL_refuses_179 (by decide) ?_
    refine k_iconst C 0 dL_refuses_180 (by decide) ?_
    refine k_ks C hSr hNx (10) (as := [.ref (sk_ad O k), .int 6, .int (nI (S.m + (w % 50))), .int 0, .int 0]) yvL_call vsL_call ml_L_163 (q_Program l hO hst hJ.1 hk (nI (S.m + (w % 50))) 0 0) rfl rfl (Nat.le_of_ble_eq_true rfl) ⟨⟨by decide, by decide⟩, by decide, by decide, by decide⟩ dL_refuses_181 (fun x M10 h => ?_)
    obtain ⟨hx, hj⟩ : _ ∧ rl_J k _ S _ := cx1' h (er2n hsf)
    subst hx
    replace hJ := hJ.t hj
    clear hj
    refine k_ldc C kc_L_15 dL_refuses_184 ?_
    refine k_cne C 561 dL_refuses_186 (by decide) (fun e => absurd rfl e) (fun _ => ?_)
    refine k_aloadn C 0 dL_refuses_189 rfl ?_
    refine k_bipush C 7 dL_refuses_190 (by decide) ?_
    refine k_iconst C 0 dL_refuses_192 (by decide) ?_
    refine k_bipush C 12 dL_refuses_193 (by decide) ?_
    refine k_iloadn C 1 dL_refuses_195 rfl ?_
    refine k_bipush C 9 dL_refuses_196 (by decide) ?_
    refine k_irem C dL_refuses_198 (by decide) ?_
    refine k_top (nI (w % 9)) (sk_nrem (a := w) (b := 9) rfl rfl (by omega) (by decide)) ?_
    refine k_iadd C dL_refuses_199 ?_
    refine k_top (nI (12 + (w % 9))) (sk_nadd (a := 12) (b := w % 9) rfl rfl) ?_
    refine k_iconst C (-1) dL_refuses_200 (by decide) ?_
    refine k_ks C hSr hNx (11) (as := [.ref (sk_ad O k), .int 7, .int 0, .int (nI (12 + (w % 9))), .int (-1)]) yvL_call vsL_call ml_L_163 (q_Mark l hO hst hJ.1 hk 0 (nI (12 + (w % 9))) (-1)) rfl rfl (Nat.le_of_ble_eq_true rfl) ⟨⟨by decide, by decide⟩, by decide, by decide, by decide⟩ dL_refuses_201 (fun x M11 h => ?_)
    obtain ⟨hx, hj⟩ : _ ∧ rl_J k _ S _ := cx1' h (er2n he12)
    subst hx
    replace hJ := hJ.t hj
    clear hj
    refine k_ldc C kc_L_15 dL_refuses_204 ?_
    refine k_cne C 561 dL_refuses_206 (by decide) (fun e => absurd rfl e) (fun _ => ?_)
    refine k_aloadn C 0 dL_refuses_209 rfl ?_
    refine k_bipush C 8 dL_refuses_210 (by decide) ?_
    refine k_iconst C 0 dL_refuses_212 (by decide) ?_
    refine k_iconst C 3 dL_refuses_213 (by decide) ?_
    refine k_iloadn C 1 dL_refuses_214 rfl ?_
    refine k_bipush C 9 dL_refuses_215 (by decide) ?_
    refine k_irem C dL_refuses_217 (by decide) ?_
    refine k_top (nI (w % 9)) (sk_nrem (a := w) (b := 9) rfl rfl (by omega) (by decide)) ?_
    refine k_iadd C dL_refuses_218 ?_
    refine k_top (nI (3 + (w % 9))) (sk_nadd (a := 3) (b := w % 9) rfl rfl) ?_
    refine k_iconst C (-1) dL_refuses_219 (by decide) ?_
    refine k_ks C hSr hNx (12) (as := [.ref (sk_ad O k), .int 8, .int 0, .int (nI (3 + (w % 9))), .int (-1)]) yvL_call vsL_call ml_L_163 (q_Component l hO hst hJ.1 hk 0 (nI (3 + (w % 9))) (-1)) rfl rfl (Nat.le_of_ble_eq_true rfl) ⟨⟨by decide, by decide⟩, by decide, by decide, by decide⟩ dL_refuses_220 (fun x M12 h => ?_)
    obtain ⟨hx, hj⟩ : _ ∧ rl_J k _ S _ := cx1' h (er2n (fun z => ul (h := 3) rfl (by omega) (by omega) z.2))
    subst hx
    replace hJ := hJ.t hj
    clear hj
    refine k_ldc C kc_L_15 dL_refuses_223 ?_
    refine k_cne C 561 dL_refuses_225 (by decide) (fun e => absurd rfl e) (fun _ => ?_)
    refine k_aloadn C 0 dL_refuses_228 rfl ?_
    refine k_bipush C 8 dL_refuses_229 (by decide) ?_
    refine k_iconst C 0 dL_refuses_231 (by decide) ?_
    refine k_iloadn C 1 dL_refuses_232 rfl ?_
    refine k_iconst C 3 dL_refuses_233 (by decide) ?_
    refine k_irem C dL_refuses_234 (by decide) ?_
    refine k_top (nI (w % 3)) (sk_nrem (a := w) (b := 3) rfl rfl (by omega) (by decide)) ?_
    refine k_ldc C kc_L_169 dL_refuses_235 ?_
    refine k_iloadn C 1 dL_refuses_237 rfl ?_
    refine k_iadd C dL_refuses_238 ?_
    refine k_top (nI (115856201 + w)) (sk_nadd (a := 115856201) (b := w) rfl rfl) ?_
    refine k_ks C hSr hNx (13) (as := [.ref (sk_ad O k), .int 8, .int 0, .int (nI (w % 3)), .int (nI (115856201 + w))]) yvL_call vsL_call ml_L_163 (q_Component l hO hst hJ.1 hk 0 (nI (w % 3)) (nI (115856201 + w))) rfl rfl (Nat.le_of_ble_eq_true rfl) ⟨⟨by decide, by decide⟩, by decide, by decide, by decide⟩ dL_refuses_239 (fun x M13 h => ?_)
    obtain ⟨hx, hj⟩ : _ ∧ rl_J k _ S _ := cx2' h (er2m ⟨hs0, wl (h := 3) rfl (by omega) (by omega)⟩ (ub (h := 115856200) rfl (by omega) (by omega)))
    subst hx
    replace hJ := hJ.t hj
    clear hj
    refine k_ldc C kc_L_18 dL_refuses_242 ?_
    refine k_cne C 561 dL_refuses_244 (by decide) (fun e => absurd rfl e) (fun _ => ?_)
    refine k_aloadn C 0 dL_refuses_247 rfl ?_
    refine k_iconst C 0 dL_refuses_248 (by decide) ?_
    refine k_iloadn C 1 dL_refuses_249 rfl ?_
    refine k_bipush C 12 dL_refuses_250 (by decide) ?_
    refine k_irem C dL_refuses_252 (by decide) ?_
    refine k_top (nI (w % 12)) (sk_nrem (a := w) (b := 12) rfl rfl (by omega) (by decide)) ?_
    refine k_iconst C 3 dL_refuses_253 (by decide) ?_
    refine k_bipush C 9 dL_refuses_254 (by decide) ?_
    refine k_kg C hSr hNx (14) (as := [.ref (sk_ad O k), .int 0, .int (nI (w % 12)), .int 3, .int 9]) yg_tryCall ml_L_170 (t_tryCall l hO hst hJ.1 hk 0 (nI (w % 12)) 3 9) rfl rfl (Nat.le_of_ble_eq_true rfl) ⟨⟨by decide, by decide⟩, by decide, by decide, by decide⟩ dL_refuses_256 (fun x M14 h => ?_)
    obtain ⟨hx, hj⟩ : _ ∧ rl_J k _ S _ := cx1' h (er3n (s0.h3 (p := 3) (by omega) (by omega) (by omega)))
    subst hx
    replace hJ := hJ.t hj
    clear hj
    refine k_ldc C kc_L_15 dL_refuses_259 ?_
    refine k_cne C 561 dL_refuses_261 (by decide) (fun e => absurd rfl e) (fun _ => ?_)
    refine k_aloadn C 0 dL_refuses_264 rfl ?_
    refine k_iloadn C 2 dL_refuses_265 rfl ?_
    refine k_iconst C 0 dL_refuses_266 (by decide) ?_
    refine k_iconst C 0 dL_refuses_267 (by decide) ?_
    refine k_bipush C 9 dL_refuses_268 (by decide) ?_
    refine k_kg C hSr hNx (15) (as := [.ref (sk_ad O k), .int (nI (S.m + (w % 50))), .int 0, .int 0, .int 9]) yg_tryIfCalled ml_L_173 (t_tryIfCalled l hO hst hJ.1 hk (nI (S.m + (w % 50))) 0 0 9) rfl rfl (Nat.le_of_ble_eq_true rfl) ⟨⟨by decide, by decide⟩, by decide, by decide, by decide⟩ dL_refuses_270 (fun x M15 h => ?_)
    obtain ⟨hx, hj⟩ : _ ∧ rl_J k _ S _ := ax1 h (er3n (fun z => hef z.1))
    subst hx
    replace hJ := hJ.t hj
    clear hj
    refine k_ldc C kc_L_15 dL_refuses_273 ?_
    refine k_cne C 561 dL_refuses_275 (by decide) (fun e => absurd rfl e) (fun _ => ?_)
    refine k_aloadn C 0 dL_refuses_278 rfl ?_
    refine k_iconst C 0 dL_refuses_279 (by decide) ?_
    refine k_bipush C 12 dL_refuses_280 (by decide) ?_
    refine k_iloadn C 1 dL_refuses_282 rfl ?_
    refine k_bipush C 9 dL_refuses_283 (by decide) ?_
    refine k_irem C dL_refuses_285 (by decide) ?_
    refine k_top (nI (w % 9)) (sk_nrem (a := w) (b := 9) rfl rfl (by omega) (by decide)) ?_
    refine k_iadd C dL_refuses_286 ?_
    refine k_top (nI (12 + (w % 9))) (sk_nadd (a := 12) (b := w % 9) rfl rfl) ?_
    refine k_iconst C 1 dL_refuses_287 (by decide) ?_
    refine k_kg C hSr hNx (16) (as := [.ref (sk_ad O k), .int 0, .int (nI (12 + (w % 9))), .int 1]) yg_tryReview ml_L_176 (t_tryReview l hO hst hJ.1 hk 0 (nI (12 + (w % 9))) 1) rfl rfl (Nat.le_of_ble_eq_true rfl) ⟨⟨by decide, by decide⟩, by decide, by decide, by decide⟩ dL_refuses_288 (fun x M16 h => ?_)
    obtain ⟨hx, hj⟩ : _ ∧ rl_J k _ S _ := cx1' h (er1n he12)
    subst hx
    replace hJ := hJ.t hj
    clear hj
    refine k_ldc C kc_L_15 dL_refuses_291 ?_
    refine k_cne C 561 dL_refuses_293 (by decide) (fun e => absurd rfl e) (fun _ => ?_)
    refine k_aloadn C 0 dL_refuses_296 rfl ?_
    refine k_iloadn C 2 dL_refuses_297 rfl ?_
    refine k_iconst C 0 dL_refuses_298 (by decide) ?_
    refine k_iconst C 1 dL_refuses_299 (by decide) ?_
    refine k_kg C hSr hNx (17) (as := [.ref (sk_ad O k), .int (nI (S.m + (w % 50))), .int 0, .int 1]) yg_tryFall ml_L_180 (t_tryFall l hO hst hJ.1 hk (nI (S.m + (w % 50))) 0 1) rfl rfl (Nat.le_of_ble_eq_true rfl) ⟨⟨by decide, by decide⟩, by decide, by decide, by decide⟩ dL_refuses_300 (fun x M17 h => ?_)
    obtain ⟨hx, hj⟩ : _ ∧ rl_J k _ S _ := cx1' h (er1n hef)
    subst hx
    replace hJ := hJ.t hj
    clear hj
    refine k_ldc C kc_L_15 dL_refuses_303 ?_
    refine k_cne C 561 dL_refuses_305 (by decide) (fun e => absurd rfl e) (fun _ => ?_)
    refine k_aloadn C 0 dL_refuses_308 rfl ?_
    refine k_bipush C 9 dL_refuses_309 (by decide) ?_
    refine k_iloadn C 2 dL_refuses_311 rfl ?_
    refine k_bipush C 10 dL_refuses_312 (by decide) ?_
    refine k_iconst C 0 dL_refuses_314 (by decide) ?_
    refine k_ks C hSr hNx (18) (as := [.ref (sk_ad O k), .int 9, .int (nI (S.m + (w % 50))), .int 10, .int 0]) yvL_call vsL_call ml_L_163 (q_Penalty l hO hst hJ.1 hk (nI (S.m + (w % 50))) 10 0) rfl rfl (Nat.le_of_ble_eq_true rfl) ⟨⟨by decide, by decide⟩, by decide, by decide, by decide⟩ dL_refuses_315 (fun x M18 h => ?_)
    obtain ⟨hx, hj⟩ : _ ∧ rl_J k _ S _ := cx1' h (er2n hsf)
    subst hx
    replace hJ := hJ.t hj
    clear hj
    refine k_ldc C kc_L_15 dL_refuses_318 ?_
    refine k_cne C 561 dL_refuses_320 (by decide) (fun e => absurd rfl e) (fun _ => ?_)
    refine k_aloadn C 0 dL_refuses_323 rfl ?_
    refine k_bipush C 9 dL_refuses_324 (by decide) ?_
    refine k_iconst C 0 dL_refuses_326 (by decide) ?_
    refine k_bipush C 10 dL_refuses_327 (by decide) ?_
    refine k_iloadn C 1 dL_refuses_329 rfl ?_
    refine k_bipush C 9 dL_refuses_330 (by decide) ?_
    refine k_irem C dL_refuses_332 (by decide) ?_
    refine k_top (nI (w % 9)) (sk_nrem (a := w) (b := 9) rfl rfl (by omega) (by decide)) ?_
    refine k_iadd C dL_refuses_333 ?_
    refine k_top (nI (10 + (w % 9))) (sk_nadd (a := 10) (b := w % 9) rfl rfl) ?_
    refine k_iconst C 0 dL_refuses_334 (by decide) ?_
    refine k_ks C hSr hNx (19) (as := [.ref (sk_ad O k), .int 9, .int 0, .int (nI (10 + (w % 9))), .int 0]) yvL_call vsL_call ml_L_163 (q_Penalty l hO hst hJ.1 hk 0 (nI (10 + (w % 9))) 0) rfl rfl (Nat.le_of_ble_eq_true rfl) ⟨⟨by decide, by decide⟩, by decide, by decide, by decide⟩ dL_refuses_335 (fun x M19 h => ?_)
    obtain ⟨hx, hj⟩ : _ ∧ rl_J k _ S _ := cx2' h (er2m hs0 (ub (h := 9) rfl (by omega) (by omega)))
    subst hx
    replace hJ := hJ.t hj
    clear hj
    refine k_ldc C kc_L_18 dL_refuses_338 ?_
    refine k_cne C 561 dL_refuses_340 (by decide) (fun e => absurd rfl e) (fun _ => ?_)
    refine k_aloadn C 0 dL_refuses_343 rfl ?_
    refine k_bipush C 10 dL_refuses_344 (by decide) ?_
    refine k_iloadn C 1 dL_refuses_346 rfl ?_
    refine k_iconst C 5 dL_refuses_347 (by decide) ?_
    refine k_irem C dL_refuses_348 (by decide) ?_
    refine k_top (nI (w % 5)) (sk_nrem (a := w) (b := 5) rfl rfl (by omega) (by decide)) ?_
    refine k_sipush C 301 dL_refuses_349 (by decide) ?_
    refine k_iloadn C 1 dL_refuses_352 rfl ?_
    refine k_bipush C 9 dL_refuses_353 (by decide) ?_
    refine k_irem C dL_refuses_355 (by decide) ?_
    refine k_top (nI (w % 9)) (sk_nrem (a := w) (b := 9) rfl rfl (by omega) (by decide)) ?_
    refine k_iadd C dL_refuses_356 ?_
    refine k_top (nI (301 + (w % 9))) (sk_nadd (a := 301) (b := w % 9) rfl rfl) ?_
    refine k_iconst C 0 dL_refuses_357 (by decide) ?_
    refine k_ks C hSr hNx (20) (as := [.ref (sk_ad O k), .int 10, .int (nI (w % 5)), .int (nI (301 + (w % 9))), .int 0]) yvL_call vsL_call ml_L_163 (q_Lay l hO hst hJ.1 hk (nI (w % 5)) (nI (301 + (w % 9))) 0) rfl rfl (Nat.le_of_ble_eq_true rfl) ⟨⟨by decide, by decide⟩, by decide, by decide, by decide⟩ dL_refuses_358 (fun x M20 h => ?_)
    obtain ⟨hx, hj⟩ : _ ∧ rl_J k _ S _ := cx1' h (er1n (fi_n1 (by omega) (by omega)))
    subst hx
    replace hJ := hJ.t hj
    clear hj
    refine k_ldc C kc_L_18 dL_refuses_361 ?_
    refine k_cne C 561 dL_refuses_363 (by decide) (fun e => absurd rfl e) (fun _ => ?_)
    refine k_aloadn C 0 dL_refuses_366 rfl ?_
    refine k_bipush C 10 dL_refuses_367 (by decide) ?_
    refine k_iconst C 5 dL_refuses_369 (by decide) ?_
    refine k_iloadn C 1 dL_refuses_370 rfl ?_
    refine k_bipush C 9 dL_refuses_371 (by decide) ?_
    refine k_irem C dL_refuses_373 (by decide) ?_
    refine k_top (nI (w % 9)) (sk_nrem (a := w) (b := 9) rfl rfl (by omega) (by decide)) ?_
    refine k_iadd C dL_refuses_374 ?_
    refine k_top (nI (5 + (w % 9))) (sk_nadd (a := 5) (b := w % 9) rfl rfl) ?_
    refine k_bipush C 50 dL_refuses_375 (by decide) ?_
    refine k_iconst C 0 dL_refuses_377 (by decide) ?_
    refine k_ks C hSr hNx (21) (as := [.ref (sk_ad O k), .int 10, .int (nI (5 + (w % 9))), .int 50, .int 0]) yvL_call vsL_call ml_L_163 (q_Lay l hO hst hJ.1 hk (nI (5 + (w % 9))) 50 0) rfl rfl (Nat.le_of_ble_eq_true rfl) ⟨⟨by decide, by decide⟩, by decide, by decide, by decide⟩ dL_refuses_378 (fun x M21 h => ?_)
    obtain ⟨hx, hj⟩ : _ ∧ rl_J k _ S _ := cx1' h (er1n (fi_n2 (by omega) (by omega)))
    subst hx
    replace hJ := hJ.t hj
    clear hj
    refine k_ldc C kc_L_18 dL_refuses_381 ?_
    refine k_cne C 561 dL_refuses_383 (by decide) (fun e => absurd rfl e) (fun _ => ?_)
    refine k_aloadn C 0 dL_refuses_386 rfl ?_
    refine k_bipush C 12 dL_refuses_387 (by decide) ?_
    refine k_iconst C 0 dL_refuses_389 (by decide) ?_
    refine k_bipush C 12 dL_refuses_390 (by decide) ?_
    refine k_iloadn C 1 dL_refuses_392 rfl ?_
    refine k_bipush C 9 dL_refuses_393 (by decide) ?_
    refine k_irem C dL_refuses_395 (by decide) ?_
    refine k_top (nI (w % 9)) (sk_nrem (a := w) (b := 9) rfl rfl (by omega) (by decide)) ?_
    refine k_iadd C dL_refuses_396 ?_
    refine k_top (nI (12 + (w % 9))) (sk_nadd (a := 12) (b := w % 9) rfl rfl) ?_
    refine k_iconst C 0 dL_refuses_397 (by decide) ?_
    refine k_ks C hSr hNx (22) (as := [.ref (sk_ad O k), .int 12, .int 0, .int (nI (12 + (w % 9))), .int 0]) yvL_call vsL_call ml_L_163 (q_Replaced l hO hst hJ.1 hk 0 (nI (12 + (w % 9))) 0 he12) rfl rfl (Nat.le_of_ble_eq_true rfl) ⟨⟨by decide, by decide⟩, by decide, by decide, by decide⟩ dL_refuses_398 (fun x M22 h => ?_)
    obtain ⟨hx, hj⟩ : _ ∧ rl_J k _ S _ := h
    subst hx
    replace hJ := hJ.t hj
    clear hj
    refine k_ldc C kc_L_15 dL_refuses_401 ?_
    refine k_cne C 561 dL_refuses_403 (by decide) (fun e => absurd rfl e) (fun _ => ?_)
    refine k_aloadn C 0 dL_refuses_406 rfl ?_
    refine k_bipush C 13 dL_refuses_407 (by decide) ?_
    refine k_iloadn C 2 dL_refuses_409 rfl ?_
    refine k_bipush C 9 dL_refuses_410 (by decide) ?_
    refine k_iconst C 0 dL_refuses_412 (by decide) ?_
    refine k_ks C hSr hNx (23) (as := [.ref (sk_ad O k), .int 13, .int (nI (S.m + (w % 50))), .int 9, .int 0]) yvL_call vsL_call ml_L_163 (q_Swap l hO hst hJ.1 hk (nI (S.m + (w % 50))) 9 0) rfl rfl (Nat.le_of_ble_eq_true rfl) ⟨⟨by decide, by decide⟩, by decide, by decide, by decide⟩ dL_refuses_413 (fun x M23 h => ?_)
    obtain ⟨hx, hj⟩ : _ ∧ rl_J k _ S _ := ax1 h (er2n hsf)
    subst hx
    replace hJ := hJ.t hj
    clear hj
    refine k_ldc C kc_L_15 dL_refuses_416 ?_
    refine k_cne C 561 dL_refuses_418 (by decide) (fun e => absurd rfl e) (fun _ => ?_)
    refine k_aloadn C 0 dL_refuses_421 rfl ?_
    refine k_bipush C 13 dL_refuses_422 (by decide) ?_
    refine k_iconst C 0 dL_refuses_424 (by decide) ?_
    refine k_iconst C 3 dL_refuses_425 (by decide) ?_
    refine k_iloadn C 1 dL_refuses_426 rfl ?_
    refine k_bipush C 9 dL_refuses_427 (by decide) ?_
    refine k_irem C dL_refuses_429 (by decide) ?_
    refine k_top (nI (w % 9)) (sk_nrem (a := w) (b := 9) rfl rfl (by omega) (by decide)) ?_
    refine k_iadd C dL_refuses_430 ?_
    refine k_top (nI (3 + (w % 9))) (sk_nadd (a := 3) (b := w % 9) rfl rfl) ?_
    refine k_iconst C 0 dL_refuses_431 (by decide) ?_
    refine k_ks C hSr hNx (24) (as := [.ref (sk_ad O k), .int 13, .int 0, .int (nI (3 + (w % 9))), .int 0]) yvL_call vsL_call ml_L_163 (q_Swap l hO hst hJ.1 hk 0 (nI (3 + (w % 9))) 0) rfl rfl (Nat.le_of_ble_eq_true rfl) ⟨⟨by decide, by decide⟩, by decide, by decide, by decide⟩ dL_refuses_432 (fun x M24 h => ?_)
    obtain ⟨hx, hj⟩ : _ ∧ rl_J k _ S _ := ax2 h (er2m hs0 (ub (h := 2) rfl (by omega) (by omega)))
    subst hx
    replace hJ := hJ.t hj
    clear hj
    refine k_ldc C kc_L_18 dL_refuses_435 ?_
    refine k_cne C 561 dL_refuses_437 (by decide) (fun e => absurd rfl e) (fun _ => ?_)
    refine k_aloadn C 0 dL_refuses_440 rfl ?_
    refine k_bipush C 14 dL_refuses_441 (by decide) ?_
    refine k_iconst C 0 dL_refuses_443 (by decide) ?_
    refine k_bipush C 12 dL_refuses_444 (by decide) ?_
    refine k_iloadn C 1 dL_refuses_446 rfl ?_
    refine k_bipush C 9 dL_refuses_447 (by decide) ?_
    refine k_irem C dL_refuses_449 (by decide) ?_
    refine k_top (nI (w % 9)) (sk_nrem (a := w) (b := 9) rfl rfl (by omega) (by decide)) ?_
    refine k_iadd C dL_refuses_450 ?_
    refine k_top (nI (12 + (w % 9))) (sk_nadd (a := 12) (b := w % 9) rfl rfl) ?_
    refine k_iconst C 0 dL_refuses_451 (by decide) ?_
    refine k_ks C hSr hNx (25) (as := [.ref (sk_ad O k), .int 14, .int 0, .int (nI (12 + (w % 9))), .int 0]) yvL_call vsL_call ml_L_163 (q_Needs l hO hst hJ.1 hk 0 (nI (12 + (w % 9))) 0) rfl rfl (Nat.le_of_ble_eq_true rfl) ⟨⟨by decide, by decide⟩, by decide, by decide, by decide⟩ dL_refuses_452 (fun x M25 h => ?_)
    obtain ⟨hx, hj⟩ : _ ∧ rl_J k _ S _ := ⟨h.1.elim (fun z => z.2) (fun z => absurd z.1 he12), h.2⟩
    subst hx
    replace hJ := hJ.t hj
    clear hj
    refine k_ldc C kc_L_15 dL_refuses_455 ?_
    refine k_cne C 561 dL_refuses_457 (by decide) (fun e => absurd rfl e) (fun _ => ?_)
    refine k_aloadn C 0 dL_refuses_460 rfl ?_
    refine k_bipush C 15 dL_refuses_461 (by decide) ?_
    refine k_iloadn C 2 dL_refuses_463 rfl ?_
    refine k_iconst C 0 dL_refuses_464 (by decide) ?_
    refine k_iconst C 0 dL_refuses_465 (by decide) ?_
    refine k_ks C hSr hNx (26) (as := [.ref (sk_ad O k), .int 15, .int (nI (S.m + (w % 50))), .int 0, .int 0]) yvL_call vsL_call ml_L_163 (q_Behind l hO hst hJ.1 hk (nI (S.m + (w % 50))) 0 0) rfl rfl (Nat.le_of_ble_eq_true rfl) ⟨⟨by decide, by decide⟩, by decide, by decide, by decide⟩ dL_refuses_466 (fun x M26 h => ?_)
    obtain ⟨hx, hj⟩ : _ ∧ rl_J k _ S _ := ax1 h (er1n hsf)
    subst hx
    replace hJ := hJ.t hj
    clear hj
    refine k_ldc C kc_L_15 dL_refuses_469 ?_
    refine k_cne C 561 dL_refuses_471 (by decide) (fun e => absurd rfl e) (fun _ => ?_)
    refine k_aloadn C 0 dL_refuses_474 rfl ?_
    refine k_bipush C 16 dL_refuses_475 (by decide) ?_
    refine k_iconst C 2 dL_refuses_477 (by decide) ?_
    refine k_iloadn C 1 dL_refuses_478 rfl ?_
    refine k_bipush C 50 dL_refuses_479 (by decide) ?_
    refine k_irem C dL_refuses_481 (by decide) ?_
    refine k_top (nI (w % 50)) (sk_nrem (a := w) (b := 50) rfl rfl (by omega) (by decide)) ?_
    refine k_iadd C dL_refuses_482 ?_
    refine k_top (nI (2 + (w % 50))) (sk_nadd (a := 2) (b := w % 50) rfl rfl) ?_
    refine k_iconst C 0 dL_refuses_483 (by decide) ?_
    refine k_iconst C 0 dL_refuses_484 (by decide) ?_
    refine k_ks C hSr hNx (27) (as := [.ref (sk_ad O k), .int 16, .int (nI (2 + (w % 50))), .int 0, .int 0]) yvL_call vsL_call ml_L_163 (q_Keep l hO hst hJ.1 hk (nI (2 + (w % 50))) 0 0) rfl rfl (Nat.le_of_ble_eq_true rfl) ⟨⟨by decide, by decide⟩, by decide, by decide, by decide⟩ dL_refuses_485 (fun x M27 h => ?_)
    obtain ⟨hx, hj⟩ : _ ∧ rl_J k _ S _ := cx1' h (er1n (ul (h := 2) rfl (by omega) (by omega)))
    subst hx
    replace hJ := hJ.t hj
    clear hj
    refine k_ldc C kc_L_15 dL_refuses_488 ?_
    refine k_cne C 561 dL_refuses_490 (by decide) (fun e => absurd rfl e) (fun _ => ?_)
    refine k_aloadn C 0 dL_refuses_493 rfl ?_
    refine k_bipush C 17 dL_refuses_494 (by decide) ?_
    refine k_iconst C (-1) dL_refuses_496 (by decide) ?_
    refine k_iloadn C 1 dL_refuses_497 rfl ?_
    refine k_bipush C 9 dL_refuses_498 (by decide) ?_
    refine k_irem C dL_refuses_500 (by decide) ?_
    refine k_top (nI (w % 9)) (sk_nrem (a := w) (b := 9) rfl rfl (by omega) (by decide)) ?_
    refine k_isub C dL_refuses_501 ?_
    refine k_iconst C 0 dL_refuses_502 (by decide) ?_
    refine k_iconst C 0 dL_refuses_503 (by decide) ?_
    refine k_ks C hSr hNx (28) (as := [.ref (sk_ad O k), .int 17, .int ((-1) - (nI (w % 9))), .int 0, .int 0]) yvL_call vsL_call ml_L_163 (q_Back l hO hst hJ.1 hk ((-1) - (nI (w % 9))) 0 0) rfl rfl (Nat.le_of_ble_eq_true rfl) ⟨⟨by decide, by decide⟩, by decide, by decide, by decide⟩ dL_refuses_504 (fun x M28 h => ?_)
    obtain ⟨hx, hj⟩ : _ ∧ rl_J k _ S _ := cx1' h (er2n (fun z => z.1 (un (by omega))))
    subst hx
    replace hJ := hJ.t hj
    clear hj
    refine k_ldc C kc_L_15 dL_refuses_507 ?_
    refine k_cne C 561 dL_refuses_509 (by decide) (fun e => absurd rfl e) (fun _ => ?_)
    refine k_aloadn C 0 dL_refuses_512 rfl ?_
    refine k_iconst C 0 dL_refuses_513 (by decide) ?_
    refine k_lconst C 0 dL_refuses_514 (by decide) ?_
    refine k_kg C hSr hNx (29) (as := [.ref (sk_ad O k), .int 0, .long 0]) yg_tryScript ml_L_183 (t_tryScript l hO hst hJ.1 hk 0 0 (fun z => z.1 (by decide))) rfl rfl (Nat.le_of_ble_eq_true rfl) ⟨⟨by decide, by decide⟩, by decide, by decide, by decide⟩ dL_refuses_515 (fun x M29 h => ?_)
    obtain ⟨hx, hj⟩ : _ ∧ rl_J k _ S _ := h
    subst hx
    replace hJ := hJ.t hj
    clear hj
    refine k_ldc C kc_L_18 dL_refuses_518 ?_
    refine k_cne C 561 dL_refuses_520 (by decide) (fun e => absurd rfl e) (fun _ => ?_)
    refine k_aloadn C 0 dL_refuses_523 rfl ?_
    refine k_iconst C 1 dL_refuses_524 (by decide) ?_
    refine k_ldcl C kc_L_187 dL_refuses_525 ?_
    refine k_iloadn C 1 dL_refuses_528 rfl ?_
    refine k_i2l C dL_refuses_529 ?_
    refine k_ladd C dL_refuses_530 ?_
    refine k_kg C hSr hNx (30) (as := [.ref (sk_ad O k), .int 1, .long (100000 + ((nI w).toInt64))]) yg_tryScript ml_L_183 (t_tryScript l hO hst hJ.1 hk 1 (100000 + ((nI w).toInt64)) (rs_k1 hX)) rfl rfl (Nat.le_of_ble_eq_true rfl) ⟨⟨by decide, by decide⟩, by decide, by decide, by decide⟩ dL_refuses_531 (fun x M30 h => ?_)
    obtain ⟨hx, hj⟩ : _ ∧ rl_J k _ S _ := h
    subst hx
    replace hJ := hJ.t hj
    clear hj
    refine k_ldc C kc_L_18 dL_refuses_534 ?_
    refine k_cne C 561 dL_refuses_536 (by decide) (fun e => absurd rfl e) (fun _ => ?_)
    refine k_aloadn C 0 dL_refuses_539 rfl ?_
    refine k_iloadn C 1 dL_refuses_540 rfl ?_
    refine k_i2l C dL_refuses_541 ?_
    refine k_bipush C 61 dL_refuses_542 (by decide) ?_
    refine k_iloadn C 1 dL_refuses_544 rfl ?_
    refine k_bipush C 9 dL_refuses_545 (by decide) ?_
    refine k_irem C dL_refuses_547 (by decide) ?_
    refine k_top (nI (w % 9)) (sk_nrem (a := w) (b := 9) rfl rfl (by omega) (by decide)) ?_
    refine k_iadd C dL_refuses_548 ?_
    refine k_top (nI (61 + (w % 9))) (sk_nadd (a := 61) (b := w % 9) rfl rfl) ?_
    refine k_kg C hSr hNx (31) (as := [.ref (sk_ad O k), .long ((nI w).toInt64), .int (nI (61 + (w % 9)))]) yg_trySimulate ml_L_189 (t_trySimulate l hO hst hJ.1 hk ((nI w).toInt64) (nI (61 + (w % 9)))) rfl rfl (Nat.le_of_ble_eq_true rfl) ⟨⟨by decide, by decide⟩, by decide, by decide, by decide⟩ dL_refuses_549 (fun x M31 h => ?_)
    obtain ⟨hx, hj⟩ : _ ∧ rl_J k _ S _ := ax1 h (er1n (fun z => ub1 (by omega) (by omega) z))
    subst hx
    replace hJ := hJ.t hj
    clear hj
    refine k_ldc C kc_L_18 dL_refuses_552 ?_
    refine k_cne C 561 dL_refuses_554 (by decide) (fun e => absurd rfl e) (fun _ => ?_)
    refine k_iconst C 1 dL_refuses_557 (by decide) ?_
    refine k_goto C 562 dL_refuses_558 (by decide) ?_
    exact ret _ _ _ _ _ (by decide) dL_refuses_562 rfl ⟨rfl, hJ⟩
  refine k_zne C 31 dL_refuses_19 (by decide) (fun _ => ?_) (fun _ => ?_)
  · skip
    refine k_sipush C 256 dL_refuses_31 (by decide) ?_
    refine k_iloadn C 1 dL_refuses_34 rfl ?_
    refine k_bipush C 9 dL_refuses_35 (by decide) ?_
    refine k_irem C dL_refuses_37 (by decide) ?_
    refine k_top (nI (w % 9)) (sk_nrem (a := w) (b := 9) rfl rfl (by omega) (by decide)) ?_
    refine k_iadd C dL_refuses_38 ?_
    refine k_top (nI (256 + (w % 9))) (sk_nadd (a := 256) (b := w % 9) rfl rfl) ?_
    exact J39 _ (ub (n := 256 + w % 9) (h := 255) rfl (by omega) (by omega))
  · skip
    refine k_iconst C (-1) dL_refuses_22 (by decide) ?_
    refine k_iloadn C 1 dL_refuses_23 rfl ?_
    refine k_bipush C 9 dL_refuses_24 (by decide) ?_
    refine k_irem C dL_refuses_26 (by decide) ?_
    refine k_top (nI (w % 9)) (sk_nrem (a := w) (b := 9) rfl rfl (by omega) (by decide)) ?_
    refine k_isub C dL_refuses_27 ?_
    refine k_goto C 39 dL_refuses_28 (by decide) ?_
    exact J39 _ (fun z => z.1 (un (n := w % 9) (by omega)))
