/-! The law: something is done (printed by p3.py) -/
def act_A (S : rl_T) (w : Nat) (z : Nat) : Int32 × rl_T := match z with
  | 0 => (cx (er_2 (mo_hs S.r (nI (w / 16 % 4))) (a_ok S = true)) (nI (a_L S).length) (-9999001) (-9999003) 0, (cs (er_2 (mo_hs S.r (nI (w / 16 % 4))) (a_ok S = true)) (a_pr S (nI (w / 16 % 4))) S))
  | 1 => (cx (er_2 (mo_hs S.r (nI (w / 16 % 4))) (a_ok S = true)) (nI (a_L S).length) (-9999001) (-9999003) 0, (cs (er_2 (mo_hs S.r (nI (w / 16 % 4))) (a_ok S = true)) (a_pr S (nI (w / 16 % 4))) S))
  | 2 => (cx (er_1 (S.m < 4)) (nI S.m) (-9999003) 0 0, (cs (er_1 (S.m < 4)) (a_ad S) S))
  | 3 => (cx (er_2 (mo_he S.r (nI (w / 16 % 4)) (nI (w / 64 % 6))) (¬ (nI (w / 400 % 161051)) < 0 ∧ ¬ 161050 < (nI (w / 400 % 161051)))) (x_kn (nI (w / 400 % 161051))) (-9999001) (-9999002) 0, (cs (er_2 (mo_he S.r (nI (w / 16 % 4)) (nI (w / 64 % 6))) (¬ (nI (w / 400 % 161051)) < 0 ∧ ¬ 161050 < (nI (w / 400 % 161051)))) (a_mk S (nI (w / 16 % 4)) (nI (w / 64 % 6)) (nI (w / 400 % 161051))) S))
  | 4 => (cx (er_2 (mo_he S.r (nI (w / 16 % 4)) (nI (w / 64 % 6))) (¬ (nI (w / 400 % 161051)) < 0 ∧ ¬ 161050 < (nI (w / 400 % 161051)))) (x_kn (nI (w / 400 % 161051))) (-9999001) (-9999002) 0, (cs (er_2 (mo_he S.r (nI (w / 16 % 4)) (nI (w / 64 % 6))) (¬ (nI (w / 400 % 161051)) < 0 ∧ ¬ 161050 < (nI (w / 400 % 161051)))) (a_mk S (nI (w / 16 % 4)) (nI (w / 64 % 6)) (nI (w / 400 % 161051))) S))
  | 5 => (cx (er_2 (mo_he S.r (nI (w / 16 % 4)) (nI (w / 64 % 6))) (¬ (nI (w / 400 % 161051)) < 0 ∧ ¬ 161050 < (nI (w / 400 % 161051)))) (x_kn (nI (w / 400 % 161051))) (-9999001) (-9999002) 0, (cs (er_2 (mo_he S.r (nI (w / 16 % 4)) (nI (w / 64 % 6))) (¬ (nI (w / 400 % 161051)) < 0 ∧ ¬ 161050 < (nI (w / 400 % 161051)))) (a_mk S (nI (w / 16 % 4)) (nI (w / 64 % 6)) (nI (w / 400 % 161051))) S))
  | 6 => (cx (er_2 (mo_hs S.r (nI (w / 16 % 4)) ∧ ¬ (nI (w / 64 % 6 % 3)) < 0 ∧ ¬ 3 ≤ (nI (w / 64 % 6 % 3))) (¬ (nI (w / 11 % 115856201)) < 0 ∧ ¬ 115856200 < (nI (w / 11 % 115856201)))) (x_cn (nI (w / 11 % 115856201))) (-9999001) (-9999002) 0, (cs (er_2 (mo_hs S.r (nI (w / 16 % 4)) ∧ ¬ (nI (w / 64 % 6 % 3)) < 0 ∧ ¬ 3 ≤ (nI (w / 64 % 6 % 3))) (¬ (nI (w / 11 % 115856201)) < 0 ∧ ¬ 115856200 < (nI (w / 11 % 115856201)))) (a_co S (nI (w / 16 % 4)) (nI (w / 64 % 6 % 3)) (nI (w / 11 % 115856201))) S))
  | 7 => (cx (mo_wc S.r (nI (w / 16 % 4)) (nI (w / 64 % 6)) (nI (w / 400 % 3)) (nI (w / 1200 % 4))) (S.r (25 + 233 * (nI (w / 16 % 4)).toNatClampNeg + 18 * (nI (w / 64 % 6)).toNatClampNeg + 3 * (nI (w / 400 % 3)).toNatClampNeg + 2)) (-9999001) (-9999002) (-9999003), (cs (mo_wc S.r (nI (w / 16 % 4)) (nI (w / 64 % 6)) (nI (w / 400 % 3)) (nI (w / 1200 % 4))) (a_ca S (nI (w / 16 % 4)) (nI (w / 64 % 6)) (nI (w / 400 % 3)) (nI (w / 1200 % 4))) S))
  | 8 => (cx (mo_wc S.r (nI (w / 16 % 4)) (nI (w / 64 % 6)) (nI (w / 400 % 3)) (nI (w / 1200 % 4))) (S.r (25 + 233 * (nI (w / 16 % 4)).toNatClampNeg + 18 * (nI (w / 64 % 6)).toNatClampNeg + 3 * (nI (w / 400 % 3)).toNatClampNeg + 2)) (-9999001) (-9999002) (-9999003), (cs (mo_wc S.r (nI (w / 16 % 4)) (nI (w / 64 % 6)) (nI (w / 400 % 3)) (nI (w / 1200 % 4))) (a_ca S (nI (w / 16 % 4)) (nI (w / 64 % 6)) (nI (w / 400 % 3)) (nI (w / 1200 % 4))) S))
  | 9 => (cx (er_1 (mo_he S.r (nI (w / 16 % 4)) (nI (w / 64 % 6)))) (a_sr S.r S.m (nI (w / 16 % 4)).toNatClampNeg (nI (w / 64 % 6)).toNatClampNeg (if w / 400 % 2 = 0 then 1 else 0)) (-9999001) 0 0, (cs (er_1 (mo_he S.r (nI (w / 16 % 4)) (nI (w / 64 % 6)))) (a_rv S (nI (w / 16 % 4)) (nI (w / 64 % 6)) (if w / 400 % 2 = 0 then 1 else 0)) S))
  | 10 => (cx (er_1 (mo_he S.r (nI (w / 16 % 4)) (nI (w / 64 % 6)))) (a_sf S.r (nI (w / 16 % 4)).toNatClampNeg (nI (w / 64 % 6)).toNatClampNeg (if w / 400 % 2 = 0 then 1 else 0)) (-9999001) 0 0, (cs (er_1 (mo_he S.r (nI (w / 16 % 4)) (nI (w / 64 % 6)))) (a_fl S (nI (w / 16 % 4)) (nI (w / 64 % 6)) (if w / 400 % 2 = 0 then 1 else 0)) S))
  | 11 => (cx (er_2 (mo_hs S.r (nI (w / 16 % 4))) (¬ (nI (w / 64 % 6)) < 0 ∧ ¬ 9 < (nI (w / 64 % 6)))) (S.r (6 + 233 * (nI (w / 16 % 4)).toNatClampNeg + 1)) (-9999001) (-9999002) 0, (cs (er_2 (mo_hs S.r (nI (w / 16 % 4))) (¬ (nI (w / 64 % 6)) < 0 ∧ ¬ 9 < (nI (w / 64 % 6)))) (a_pe S (nI (w / 16 % 4)) (nI (w / 64 % 6))) S))
  | 12 => (cx (er_1 (st_fi (nI (w / 16 % 5)) (if w / 16 % 5 = 0 then nI (50 + w / 80 % 251) else nI (w / 80 % 6)))) (S.r (1 + (nI (w / 16 % 5)).toNatClampNeg)) (-9999002) 0 0, (cs (er_1 (st_fi (nI (w / 16 % 5)) (if w / 16 % 5 = 0 then nI (50 + w / 80 % 251) else nI (w / 80 % 6)))) (a_se S (nI (w / 16 % 5)) (if w / 16 % 5 = 0 then nI (50 + w / 80 % 251) else nI (w / 80 % 6))) S))
  | 13 => if S.m < 2 then (-1, S) else (cx (er_1 (0 < S.c)) (nI (S.c - 1)) (-9999003) 0 0, (cs (er_1 (0 < S.c)) (a_un S) S))
  | 14 => (cx (er_1 (¬ (nI (w / 16 % 4 % 2)) < 0 ∧ ¬ 2 ≤ (nI (w / 16 % 4 % 2)))) (S.r 0) (-9999001) 0 0, (cs (er_1 (¬ (nI (w / 16 % 4 % 2)) < 0 ∧ ¬ 2 ≤ (nI (w / 16 % 4 % 2)))) (a_sv S (nI (w / 16 % 4 % 2))) S))
  | _ => (cx (er_2 (¬ (nI (w / 16 % 4 % 2)) < 0 ∧ ¬ 2 ≤ (nI (w / 16 % 4 % 2))) (¬ S.v (nI (w / 16 % 4 % 2)).toNatClampNeg = 0)) (S.q (938 * (nI (w / 16 % 4 % 2)).toNatClampNeg)) (-9999001) (-9999003) 0, (cs (er_2 (¬ (nI (w / 16 % 4 % 2)) < 0 ∧ ¬ 2 ≤ (nI (w / 16 % 4 % 2))) (¬ S.v (nI (w / 16 % 4 % 2)).toNatClampNeg = 0)) (a_rs S (nI (w / 16 % 4 % 2))) S))
set_option maxHeartbeats 4000000 in
set_option maxRecDepth 100000 in
theorem w_act (l : Launch) {O : sk_O} (hO : sk_inj O) (hst : l.stackTraces = false) {M : sk_M} {k : Nat} {S : rl_T} (C0 : rl_C M k S) (hk : sk_isX O k) {w : Nat} (hw : w < 2147483648) : sk_K l yL_act (sk_w yL_act cL_act 4 (some .int)) ({ frames := 9, cells := 2, slots := 12, locals := 217 }) O [.ref (sk_ad O k), .int (nI w)] M 2 (fun x M2 => x = (act_A S w (w % 16)).1 ∧ rl_J k M (act_A S w (w % 16)).2 M2) := by
  have hJ : rl_J k M S M := rl_J.r C0
  refine sk_ki (by decide) ⟨rfl, rfl⟩ hO (Nat.le_of_ble_eq_true rfl) (fun X A Q C hSr hNx ret => ?_)
  show sk_W l X O A Q 4 0 (6 * 0) M 0 [(0, .ref (sk_ad O k)), (1, .int (nI w))] []
  refine k_iloadn C 1 dL_act_0 rfl ?_
  refine k_bipush C 16 dL_act_1 (by decide) ?_
  refine k_idiv C dL_act_3 (by decide) ?_
  refine k_top (nI (w / 16)) (sk_ndiv (a := w) (b := 16) rfl rfl (by omega) (by decide)) ?_
  refine k_iconst C 4 dL_act_4 (by decide) ?_
  refine k_irem C dL_act_5 (by decide) ?_
  refine k_top (nI ((w / 16) % 4)) (sk_nrem (a := w / 16) (b := 4) rfl rfl (by omega) (by decide)) ?_
  refine k_istoren C [1, 2, 0] [(0, .ref (sk_ad O k)), (1, .int (nI w)), (2, .int (nI ((w / 16) % 4)))] dL_act_6 (by decide) rfl ?_
  refine k_iloadn C 1 dL_act_7 rfl ?_
  refine k_bipush C 64 dL_act_8 (by decide) ?_
  refine k_idiv C dL_act_10 (by decide) ?_
  refine k_top (nI (w / 64)) (sk_ndiv (a := w) (b := 64) rfl rfl (by omega) (by decide)) ?_
  refine k_bipush C 6 dL_act_11 (by decide) ?_
  refine k_irem C dL_act_13 (by decide) ?_
  refine k_top (nI ((w / 64) % 6)) (sk_nrem (a := w / 64) (b := 6) rfl rfl (by omega) (by decide)) ?_
  refine k_istoren C [1, 2, 3, 0] [(0, .ref (sk_ad O k)), (1, .int (nI w)), (2, .int (nI ((w / 16) % 4))), (3, .int (nI ((w / 64) % 6)))] dL_act_14 (by decide) rfl ?_
  refine k_iloadn C 1 dL_act_15 rfl ?_
  refine k_bipush C 16 dL_act_16 (by decide) ?_
  refine k_irem C dL_act_18 (by decide) ?_
  refine k_top (nI (w % 16)) (sk_nrem (a := w) (b := 16) rfl rfl (by omega) (by decide)) ?_
  have hz : w % 16 < 16 := Nat.mod_lt _ (by decide)
  rcases (show w % 16 = 0 ∨ w % 16 = 1 ∨ w % 16 = 2 ∨ w % 16 = 3 ∨ w % 16 = 4 ∨ w % 16 = 5 ∨ w % 16 = 6 ∨ w % 16 = 7 ∨ w % 16 = 8 ∨ w % 16 = 9 ∨ w % 16 = 10 ∨ w % 16 = 11 ∨ w % 16 = 12 ∨ w % 16 = 13 ∨ w % 16 = 14 ∨ w % 16 = 15 by omega) with hz | hz | hz | hz | hz | hz | hz | hz | hz | hz | hz | hz | hz | hz | hz | hz
  · rw [hz] at ret ⊢
    refine k_tin C 92 73 dL_act_19 ⟨⟨by decide, by decide⟩, rfl⟩ (by decide) ?_
    refine k_aloadn C 0 dL_act_92 rfl ?_
    refine k_bipush C 6 dL_act_93 (by decide) ?_
    refine k_iloadn C 2 dL_act_95 rfl ?_
    refine k_iconst C 0 dL_act_96 (by decide) ?_
    refine k_iconst C 0 dL_act_97 (by decide) ?_
    refine k_ks C hSr hNx (2) (as := [.ref (sk_ad O k), .int 6, .int (nI ((w / 16) % 4)), .int 0, .int 0]) yvL_call vsL_call ml_L_163 (q_Program l hO hst hJ.1 hk (nI ((w / 16) % 4)) 0 0) rfl rfl (Nat.le_of_ble_eq_true rfl) ⟨⟨by decide, by decide⟩, by decide, by decide, by decide⟩ dL_act_98 (fun x M1 h => ?_)
    exact ret _ _ _ _ _ (by decide) dL_act_101 rfl h
  · rw [hz] at ret ⊢
    refine k_tin C 92 73 dL_act_19 ⟨⟨by decide, by decide⟩, rfl⟩ (by decide) ?_
    refine k_aloadn C 0 dL_act_92 rfl ?_
    refine k_bipush C 6 dL_act_93 (by decide) ?_
    refine k_iloadn C 2 dL_act_95 rfl ?_
    refine k_iconst C 0 dL_act_96 (by decide) ?_
    refine k_iconst C 0 dL_act_97 (by decide) ?_
    refine k_ks C hSr hNx (2) (as := [.ref (sk_ad O k), .int 6, .int (nI ((w / 16) % 4)), .int 0, .int 0]) yvL_call vsL_call ml_L_163 (q_Program l hO hst hJ.1 hk (nI ((w / 16) % 4)) 0 0) rfl rfl (Nat.le_of_ble_eq_true rfl) ⟨⟨by decide, by decide⟩, by decide, by decide, by decide⟩ dL_act_98 (fun x M1 h => ?_)
    exact ret _ _ _ _ _ (by decide) dL_act_101 rfl h
  · rw [hz] at ret ⊢
    refine k_tin C 102 83 dL_act_19 ⟨⟨by decide, by decide⟩, rfl⟩ (by decide) ?_
    refine k_aloadn C 0 dL_act_102 rfl ?_
    refine k_iconst C 5 dL_act_103 (by decide) ?_
    refine k_iconst C 0 dL_act_104 (by decide) ?_
    refine k_iconst C 0 dL_act_105 (by decide) ?_
    refine k_iconst C 0 dL_act_106 (by decide) ?_
    refine k_ks C hSr hNx (2) (as := [.ref (sk_ad O k), .int 5, .int 0, .int 0, .int 0]) yvL_call vsL_call ml_L_163 (q_Add l hO hst hJ.1 hk 0 0 0) rfl rfl (Nat.le_of_ble_eq_true rfl) ⟨⟨by decide, by decide⟩, by decide, by decide, by decide⟩ dL_act_107 (fun x M1 h => ?_)
    exact ret _ _ _ _ _ (by decide) dL_act_110 rfl h
  · rw [hz] at ret ⊢
    refine k_tin C 111 92 dL_act_19 ⟨⟨by decide, by decide⟩, rfl⟩ (by decide) ?_
    refine k_aloadn C 0 dL_act_111 rfl ?_
    refine k_bipush C 7 dL_act_112 (by decide) ?_
    refine k_iloadn C 2 dL_act_114 rfl ?_
    refine k_iloadn C 3 dL_act_115 rfl ?_
    refine k_iloadn C 1 dL_act_116 rfl ?_
    refine k_sipush C 400 dL_act_117 (by decide) ?_
    refine k_idiv C dL_act_120 (by decide) ?_
    refine k_top (nI (w / 400)) (sk_ndiv (a := w) (b := 400) rfl rfl (by omega) (by decide)) ?_
    refine k_ldc C kc_L_196 dL_act_121 ?_
    refine k_irem C dL_act_123 (by decide) ?_
    refine k_top (nI ((w / 400) % 161051)) (sk_nrem (a := w / 400) (b := 161051) rfl rfl (by omega) (by decide)) ?_
    refine k_ks C hSr hNx (2) (as := [.ref (sk_ad O k), .int 7, .int (nI ((w / 16) % 4)), .int (nI ((w / 64) % 6)), .int (nI ((w / 400) % 161051))]) yvL_call vsL_call ml_L_163 (q_Mark l hO hst hJ.1 hk (nI ((w / 16) % 4)) (nI ((w / 64) % 6)) (nI ((w / 400) % 161051))) rfl rfl (Nat.le_of_ble_eq_true rfl) ⟨⟨by decide, by decide⟩, by decide, by decide, by decide⟩ dL_act_124 (fun x M1 h => ?_)
    exact ret _ _ _ _ _ (by decide) dL_act_127 rfl h
  · rw [hz] at ret ⊢
    refine k_tin C 111 92 dL_act_19 ⟨⟨by decide, by decide⟩, rfl⟩ (by decide) ?_
    refine k_aloadn C 0 dL_act_111 rfl ?_
    refine k_bipush C 7 dL_act_112 (by decide) ?_
    refine k_iloadn C 2 dL_act_114 rfl ?_
    refine k_iloadn C 3 dL_act_115 rfl ?_
    refine k_iloadn C 1 dL_act_116 rfl ?_
    refine k_sipush C 400 dL_act_117 (by decide) ?_
    refine k_idiv C dL_act_120 (by decide) ?_
    refine k_top (nI (w / 400)) (sk_ndiv (a := w) (b := 400) rfl rfl (by omega) (by decide)) ?_
    refine k_ldc C kc_L_196 dL_act_121 ?_
    refine k_irem C dL_act_123 (by decide) ?_
    refine k_top (nI ((w / 400) % 161051)) (sk_nrem (a := w / 400) (b := 161051) rfl rfl (by omega) (by decide)) ?_
    refine k_ks C hSr hNx (2) (as := [.ref (sk_ad O k), .int 7, .int (nI ((w / 16) % 4)), .int (nI ((w / 64) % 6)), .int (nI ((w / 400) % 161051))]) yvL_call vsL_call ml_L_163 (q_Mark l hO hst hJ.1 hk (nI ((w / 16) % 4)) (nI ((w / 64) % 6)) (nI ((w / 400) % 161051))) rfl rfl (Nat.le_of_ble_eq_true rfl) ⟨⟨by decide, by decide⟩, by decide, by decide, by decide⟩ dL_act_124 (fun x M1 h => ?_)
    exact ret _ _ _ _ _ (by decide) dL_act_127 rfl h
  · rw [hz] at ret ⊢
    refine k_tin C 111 92 dL_act_19 ⟨⟨by decide, by decide⟩, rfl⟩ (by decide) ?_
    refine k_aloadn C 0 dL_act_111 rfl ?_
    refine k_bipush C 7 dL_act_112 (by decide) ?_
    refine k_iloadn C 2 dL_act_114 rfl ?_
    refine k_iloadn C 3 dL_act_115 rfl ?_
    refine k_iloadn C 1 dL_act_116 rfl ?_
    refine k_sipush C 400 dL_act_117 (by decide) ?_
    refine k_idiv C dL_act_120 (by decide) ?_
    refine k_top (nI (w / 400)) (sk_ndiv (a := w) (b := 400) rfl rfl (by omega) (by decide)) ?_
    refine k_ldc C kc_L_196 dL_act_121 ?_
    refine k_irem C dL_act_123 (by decide) ?_
    refine k_top (nI ((w / 400) % 161051)) (sk_nrem (a := w / 400) (b := 161051) rfl rfl (by omega) (by decide)) ?_
    refine k_ks C hSr hNx (2) (as := [.ref (sk_ad O k), .int 7, .int (nI ((w / 16) % 4)), .int (nI ((w / 64) % 6)), .int (nI ((w / 400) % 161051))]) yvL_call vsL_call ml_L_163 (q_Mark l hO hst hJ.1 hk (nI ((w / 16) % 4)) (nI ((w / 64) % 6)) (nI ((w / 400) % 161051))) rfl rfl (Nat.le_of_ble_eq_true rfl) ⟨⟨by decide, by decide⟩, by decide, by decide, by decide⟩ dL_act_124 (fun x M1 h => ?_)
    exact ret _ _ _ _ _ (by decide) dL_act_127 rfl h
  · rw [hz] at ret ⊢
    refine k_tin C 128 109 dL_act_19 ⟨⟨by decide, by decide⟩, rfl⟩ (by decide) ?_
    refine k_aloadn C 0 dL_act_128 rfl ?_
    refine k_bipush C 8 dL_act_129 (by decide) ?_
    refine k_iloadn C 2 dL_act_131 rfl ?_
    refine k_iloadn C 3 dL_act_132 rfl ?_
    refine k_iconst C 3 dL_act_133 (by decide) ?_
    refine k_irem C dL_act_134 (by decide) ?_
    refine k_top (nI (((w / 64) % 6) % 3)) (sk_nrem (a := (w / 64) % 6) (b := 3) rfl rfl (by omega) (by decide)) ?_
    refine k_iloadn C 1 dL_act_135 rfl ?_
    refine k_bipush C 11 dL_act_136 (by decide) ?_
    refine k_idiv C dL_act_138 (by decide) ?_
    refine k_top (nI (w / 11)) (sk_ndiv (a := w) (b := 11) rfl rfl (by omega) (by decide)) ?_
    refine k_ldc C kc_L_169 dL_act_139 ?_
    refine k_irem C dL_act_141 (by decide) ?_
    refine k_top (nI ((w / 11) % 115856201)) (sk_nrem (a := w / 11) (b := 115856201) rfl rfl (by omega) (by decide)) ?_
    refine k_ks C hSr hNx (2) (as := [.ref (sk_ad O k), .int 8, .int (nI ((w / 16) % 4)), .int (nI (((w / 64) % 6) % 3)), .int (nI ((w / 11) % 115856201))]) yvL_call vsL_call ml_L_163 (q_Component l hO hst hJ.1 hk (nI ((w / 16) % 4)) (nI (((w / 64) % 6) % 3)) (nI ((w / 11) % 115856201))) rfl rfl (Nat.le_of_ble_eq_true rfl) ⟨⟨by decide, by decide⟩, by decide, by decide, by decide⟩ dL_act_142 (fun x M1 h => ?_)
    exact ret _ _ _ _ _ (by decide) dL_act_145 rfl h
  · rw [hz] at ret ⊢
    refine k_tin C 146 127 dL_act_19 ⟨⟨by decide, by decide⟩, rfl⟩ (by decide) ?_
    refine k_aloadn C 0 dL_act_146 rfl ?_
    refine k_iloadn C 2 dL_act_147 rfl ?_
    refine k_iloadn C 3 dL_act_148 rfl ?_
    refine k_iloadn C 1 dL_act_149 rfl ?_
    refine k_sipush C 400 dL_act_150 (by decide) ?_
    refine k_idiv C dL_act_153 (by decide) ?_
    refine k_top (nI (w / 400)) (sk_ndiv (a := w) (b := 400) rfl rfl (by omega) (by decide)) ?_
    refine k_iconst C 3 dL_act_154 (by decide) ?_
    refine k_irem C dL_act_155 (by decide) ?_
    refine k_top (nI ((w / 400) % 3)) (sk_nrem (a := w / 400) (b := 3) rfl rfl (by omega) (by decide)) ?_
    refine k_iloadn C 1 dL_act_156 rfl ?_
    refine k_sipush C 1200 dL_act_157 (by decide) ?_
    refine k_idiv C dL_act_160 (by decide) ?_
    refine k_top (nI (w / 1200)) (sk_ndiv (a := w) (b := 1200) rfl rfl (by omega) (by decide)) ?_
    refine k_iconst C 4 dL_act_161 (by decide) ?_
    refine k_irem C dL_act_162 (by decide) ?_
    refine k_top (nI ((w / 1200) % 4)) (sk_nrem (a := w / 1200) (b := 4) rfl rfl (by omega) (by decide)) ?_
    refine k_kg C hSr hNx (2) (as := [.ref (sk_ad O k), .int (nI ((w / 16) % 4)), .int (nI ((w / 64) % 6)), .int (nI ((w / 400) % 3)), .int (nI ((w / 1200) % 4))]) yg_tryCall ml_L_170 (t_tryCall l hO hst hJ.1 hk (nI ((w / 16) % 4)) (nI ((w / 64) % 6)) (nI ((w / 400) % 3)) (nI ((w / 1200) % 4))) rfl rfl (Nat.le_of_ble_eq_true rfl) ⟨⟨by decide, by decide⟩, by decide, by decide, by decide⟩ dL_act_163 (fun x M1 h => ?_)
    exact ret _ _ _ _ _ (by decide) dL_act_166 rfl h
  · rw [hz] at ret ⊢
    refine k_tin C 146 127 dL_act_19 ⟨⟨by decide, by decide⟩, rfl⟩ (by decide) ?_
    refine k_aloadn C 0 dL_act_146 rfl ?_
    refine k_iloadn C 2 dL_act_147 rfl ?_
    refine k_iloadn C 3 dL_act_148 rfl ?_
    refine k_iloadn C 1 dL_act_149 rfl ?_
    refine k_sipush C 400 dL_act_150 (by decide) ?_
    refine k_idiv C dL_act_153 (by decide) ?_
    refine k_top (nI (w / 400)) (sk_ndiv (a := w) (b := 400) rfl rfl (by omega) (by decide)) ?_
    refine k_iconst C 3 dL_act_154 (by decide) ?_
    refine k_irem C dL_act_155 (by decide) ?_
    refine k_top (nI ((w / 400) % 3)) (sk_nrem (a := w / 400) (b := 3) rfl rfl (by omega) (by decide)) ?_
    refine k_iloadn C 1 dL_act_156 rfl ?_
    refine k_sipush C 1200 dL_act_157 (by decide) ?_
    refine k_idiv C dL_act_160 (by decide) ?_
    refine k_top (nI (w / 1200)) (sk_ndiv (a := w) (b := 1200) rfl rfl (by omega) (by decide)) ?_
    refine k_iconst C 4 dL_act_161 (by decide) ?_
    refine k_irem C dL_act_162 (by decide) ?_
    refine k_top (nI ((w / 1200) % 4)) (sk_nrem (a := w / 1200) (b := 4) rfl rfl (by omega) (by decide)) ?_
    refine k_kg C hSr hNx (2) (as := [.ref (sk_ad O k), .int (nI ((w / 16) % 4)), .int (nI ((w / 64) % 6)), .int (nI ((w / 400) % 3)), .int (nI ((w / 1200) % 4))]) yg_tryCall ml_L_170 (t_tryCall l hO hst hJ.1 hk (nI ((w / 16) % 4)) (nI ((w / 64) % 6)) (nI ((w / 400) % 3)) (nI ((w / 1200) % 4))) rfl rfl (Nat.le_of_ble_eq_true rfl) ⟨⟨by decide, by decide⟩, by decide, by decide, by decide⟩ dL_act_163 (fun x M1 h => ?_)
    exact ret _ _ _ _ _ (by decide) dL_act_166 rfl h
  · rw [hz] at ret ⊢
    refine k_tin C 167 148 dL_act_19 ⟨⟨by decide, by decide⟩, rfl⟩ (by decide) ?_
    refine k_aloadn C 0 dL_act_167 rfl ?_
    refine k_iloadn C 2 dL_act_168 rfl ?_
    refine k_iloadn C 3 dL_act_169 rfl ?_
    refine k_iloadn C 1 dL_act_170 rfl ?_
    refine k_sipush C 400 dL_act_171 (by decide) ?_
    refine k_idiv C dL_act_174 (by decide) ?_
    refine k_top (nI (w / 400)) (sk_ndiv (a := w) (b := 400) rfl rfl (by omega) (by decide)) ?_
    refine k_iconst C 2 dL_act_175 (by decide) ?_
    refine k_irem C dL_act_176 (by decide) ?_
    refine k_top (nI ((w / 400) % 2)) (sk_nrem (a := w / 400) (b := 2) rfl rfl (by omega) (by decide)) ?_
    have J : ∀ v : Int32, v = (if w / 400 % 2 = 0 then 1 else 0) → sk_W l X O A Q 4 0 (6 * 0) M 185 [(0, .ref (sk_ad O k)), (1, .int (nI w)), (2, .int (nI ((w / 16) % 4))), (3, .int (nI ((w / 64) % 6)))] [.int v, .int (nI ((w / 64) % 6)), .int (nI ((w / 16) % 4)), .ref (sk_ad O k)] := by
      intro v hv
      refine k_kg C hSr hNx (2) (as := [.ref (sk_ad O k), .int (nI ((w / 16) % 4)), .int (nI ((w / 64) % 6)), .int v]) yg_tryReview ml_L_176 (t_tryReview l hO hst hJ.1 hk (nI ((w / 16) % 4)) (nI ((w / 64) % 6)) v) rfl rfl (Nat.le_of_ble_eq_true rfl) ⟨⟨by decide, by decide⟩, by decide, by decide, by decide⟩ dL_act_185 (fun x M1 h => ?_)
      subst hv
      exact ret _ _ _ _ _ (by decide) dL_act_188 rfl h
    refine k_zne C 184 dL_act_177 (by decide) (fun hv => ?_) (fun hv => ?_)
    · skip
      refine k_iconst C 0 dL_act_184 (by decide) ?_
      exact J _ (if_neg (fun z => hv (by rw [z]; rfl))).symm
    · skip
      refine k_iconst C 1 dL_act_180 (by decide) ?_
      refine k_goto C 185 dL_act_181 (by decide) ?_
      exact J _ (if_pos ((nI_eq (b := 0) (by omega) (by omega)).mp hv)).symm
  · rw [hz] at ret ⊢
    refine k_tin C 189 170 dL_act_19 ⟨⟨by decide, by decide⟩, rfl⟩ (by decide) ?_
    refine k_aloadn C 0 dL_act_189 rfl ?_
    refine k_iloadn C 2 dL_act_190 rfl ?_
    refine k_iloadn C 3 dL_act_191 rfl ?_
    refine k_iloadn C 1 dL_act_192 rfl ?_
    refine k_sipush C 400 dL_act_193 (by decide) ?_
    refine k_idiv C dL_act_196 (by decide) ?_
    refine k_top (nI (w / 400)) (sk_ndiv (a := w) (b := 400) rfl rfl (by omega) (by decide)) ?_
    refine k_iconst C 2 dL_act_197 (by decide) ?_
    refine k_irem C dL_act_198 (by decide) ?_
    refine k_top (nI ((w / 400) % 2)) (sk_nrem (a := w / 400) (b := 2) rfl rfl (by omega) (by decide)) ?_
    have J : ∀ v : Int32, v = (if w / 400 % 2 = 0 then 1 else 0) → sk_W l X O A Q 4 0 (6 * 0) M 207 [(0, .ref (sk_ad O k)), (1, .int (nI w)), (2, .int (nI ((w / 16) % 4))), (3, .int (nI ((w / 64) % 6)))] [.int v, .int (nI ((w / 64) % 6)), .int (nI ((w / 16) % 4)), .ref (sk_ad O k)] := by
      intro v hv
      refine k_kg C hSr hNx (2) (as := [.ref (sk_ad O k), .int (nI ((w / 16) % 4)), .int (nI ((w / 64) % 6)), .int v]) yg_tryFall ml_L_180 (t_tryFall l hO hst hJ.1 hk (nI ((w / 16) % 4)) (nI ((w / 64) % 6)) v) rfl rfl (Nat.le_of_ble_eq_true rfl) ⟨⟨by decide, by decide⟩, by decide, by decide, by decide⟩ dL_act_207 (fun x M1 h => ?_)
      subst hv
      exact ret _ _ _ _ _ (by decide) dL_act_210 rfl h
    refine k_zne C 206 dL_act_199 (by decide) (fun hv => ?_) (fun hv => ?_)
    · skip
      refine k_iconst C 0 dL_act_206 (by decide) ?_
      exact J _ (if_neg (fun z => hv (by rw [z]; rfl))).symm
    · skip
      refine k_iconst C 1 dL_act_202 (by decide) ?_
      refine k_goto C 207 dL_act_203 (by decide) ?_
      exact J _ (if_pos ((nI_eq (b := 0) (by omega) (by omega)).mp hv)).symm
  · rw [hz] at ret ⊢
    refine k_tin C 211 192 dL_act_19 ⟨⟨by decide, by decide⟩, rfl⟩ (by decide) ?_
    refine k_aloadn C 0 dL_act_211 rfl ?_
    refine k_bipush C 9 dL_act_212 (by decide) ?_
    refine k_iloadn C 2 dL_act_214 rfl ?_
    refine k_iloadn C 3 dL_act_215 rfl ?_
    refine k_iconst C 0 dL_act_216 (by decide) ?_
    refine k_ks C hSr hNx (2) (as := [.ref (sk_ad O k), .int 9, .int (nI ((w / 16) % 4)), .int (nI ((w / 64) % 6)), .int 0]) yvL_call vsL_call ml_L_163 (q_Penalty l hO hst hJ.1 hk (nI ((w / 16) % 4)) (nI ((w / 64) % 6)) 0) rfl rfl (Nat.le_of_ble_eq_true rfl) ⟨⟨by decide, by decide⟩, by decide, by decide, by decide⟩ dL_act_217 (fun x M1 h => ?_)
    exact ret _ _ _ _ _ (by decide) dL_act_220 rfl h
  · rw [hz] at ret ⊢
    refine k_tin C 221 202 dL_act_19 ⟨⟨by decide, by decide⟩, rfl⟩ (by decide) ?_
    refine k_aloadn C 0 dL_act_221 rfl ?_
    refine k_bipush C 10 dL_act_222 (by decide) ?_
    refine k_iloadn C 1 dL_act_224 rfl ?_
    refine k_bipush C 16 dL_act_225 (by decide) ?_
    refine k_idiv C dL_act_227 (by decide) ?_
    refine k_top (nI (w / 16)) (sk_ndiv (a := w) (b := 16) rfl rfl (by omega) (by decide)) ?_
    refine k_iconst C 5 dL_act_228 (by decide) ?_
    refine k_irem C dL_act_229 (by decide) ?_
    refine k_top (nI ((w / 16) % 5)) (sk_nrem (a := w / 16) (b := 5) rfl rfl (by omega) (by decide)) ?_
    refine k_iloadn C 1 dL_act_230 rfl ?_
    refine k_bipush C 16 dL_act_231 (by decide) ?_
    refine k_idiv C dL_act_233 (by decide) ?_
    refine k_top (nI (w / 16)) (sk_ndiv (a := w) (b := 16) rfl rfl (by omega) (by decide)) ?_
    refine k_iconst C 5 dL_act_234 (by decide) ?_
    refine k_irem C dL_act_235 (by decide) ?_
    refine k_top (nI ((w / 16) % 5)) (sk_nrem (a := w / 16) (b := 5) rfl rfl (by omega) (by decide)) ?_
    have J : ∀ v : Int32, v = (if w / 16 % 5 = 0 then nI (50 + w / 80 % 251) else nI (w / 80 % 6)) → sk_W l X O A Q 4 0 (6 * 0) M 260 [(0, .ref (sk_ad O k)), (1, .int (nI w)), (2, .int (nI ((w / 16) % 4))), (3, .int (nI ((w / 64) % 6)))] [.int v, .int (nI ((w / 16) % 5)), .int 10, .ref (sk_ad O k)] := by
      intro v hv
      refine k_iconst C 0 dL_act_260 (by decide) ?_
      refine k_ks C hSr hNx (2) (as := [.ref (sk_ad O k), .int 10, .int (nI ((w / 16) % 5)), .int v, .int 0]) yvL_call vsL_call ml_L_163 (q_Lay l hO hst hJ.1 hk (nI ((w / 16) % 5)) v 0) rfl rfl (Nat.le_of_ble_eq_true rfl) ⟨⟨by decide, by decide⟩, by decide, by decide, by decide⟩ dL_act_261 (fun x M1 h => ?_)
      subst hv
      exact ret _ _ _ _ _ (by decide) dL_act_264 rfl h
    refine k_zne C 253 dL_act_236 (by decide) (fun hv => ?_) (fun hv => ?_)
    · skip
      refine k_iloadn C 1 dL_act_253 rfl ?_
      refine k_bipush C 80 dL_act_254 (by decide) ?_
      refine k_idiv C dL_act_256 (by decide) ?_
      refine k_top (nI (w / 80)) (sk_ndiv (a := w) (b := 80) rfl rfl (by omega) (by decide)) ?_
      refine k_bipush C 6 dL_act_257 (by decide) ?_
      refine k_irem C dL_act_259 (by decide) ?_
      refine k_top (nI ((w / 80) % 6)) (sk_nrem (a := w / 80) (b := 6) rfl rfl (by omega) (by decide)) ?_
      exact J _ (if_neg (fun z => hv (by rw [z]; rfl))).symm
    · skip
      refine k_bipush C 50 dL_act_239 (by decide) ?_
      refine k_iloadn C 1 dL_act_241 rfl ?_
      refine k_bipush C 80 dL_act_242 (by decide) ?_
      refine k_idiv C dL_act_244 (by decide) ?_
      refine k_top (nI (w / 80)) (sk_ndiv (a := w) (b := 80) rfl rfl (by omega) (by decide)) ?_
      refine k_sipush C 251 dL_act_245 (by decide) ?_
      refine k_irem C dL_act_248 (by decide) ?_
      refine k_top (nI ((w / 80) % 251)) (sk_nrem (a := w / 80) (b := 251) rfl rfl (by omega) (by decide)) ?_
      refine k_iadd C dL_act_249 ?_
      refine k_top (nI (50 + ((w / 80) % 251))) (sk_nadd (a := 50) (b := (w / 80) % 251) rfl rfl) ?_
      refine k_goto C 260 dL_act_250 (by decide) ?_
      exact J _ (if_pos ((nI_eq (b := 0) (by omega) (by omega)).mp hv)).symm
  · rw [hz] at ret ⊢
    refine k_tin C 265 246 dL_act_19 ⟨⟨by decide, by decide⟩, rfl⟩ (by decide) ?_
    refine k_aloadn C 0 dL_act_265 rfl ?_
    refine k_iconst C 1 dL_act_266 (by decide) ?_
    refine k_iconst C 0 dL_act_267 (by decide) ?_
    refine k_iconst C 0 dL_act_268 (by decide) ?_
    refine k_iconst C 0 dL_act_269 (by decide) ?_
    refine k_ks C hSr hNx (1) (as := [.ref (sk_ad O k), .int 1, .int 0, .int 0, .int 0]) yvL_call vsL_call ml_L_163 (q_About l hO hst hJ.1 hk 0 0 0) rfl rfl (Nat.le_of_ble_eq_true rfl) ⟨⟨by decide, by decide⟩, by decide, by decide, by decide⟩ dL_act_270 (fun x M1 h => ?_)
    obtain ⟨hx, hj⟩ := ax0 h (er1p ⟨by decide, by decide⟩)
    replace hx : x = nI S.m := hx.trans C0.so.2.1
    subst hx
    replace hJ := hJ.t hj
    clear hj
    have h4 := C0.so.1
    refine k_iconst C 2 dL_act_273 (by decide) ?_
    have e13 : act_A S w 13 = if S.m < 2 then (-1, S) else (cx (er_1 (0 < S.c)) (nI (S.c - 1)) (-9999003) 0 0, (cs (er_1 (0 < S.c)) (a_un S) S)) := rfl
    rw [e13] at ret
    refine k_cge C 281 dL_act_274 (by decide) (fun hv => ?_) (fun hv => ?_)
    · skip
      rw [show (2 : Int32) = nI 2 from rfl, nI_leI (by omega) (by omega)] at hv
      rw [if_neg (show ¬ S.m < 2 by omega)] at ret
      refine k_aloadn C 0 dL_act_281 rfl ?_
      refine k_bipush C 11 dL_act_282 (by decide) ?_
      refine k_iconst C 0 dL_act_284 (by decide) ?_
      refine k_iconst C 0 dL_act_285 (by decide) ?_
      refine k_iconst C 0 dL_act_286 (by decide) ?_
      refine k_ks C hSr hNx (2) (as := [.ref (sk_ad O k), .int 11, .int 0, .int 0, .int 0]) yvL_call vsL_call ml_L_163 (q_Undo l hO hst hJ.1 hk 0 0 0) rfl rfl (Nat.le_of_ble_eq_true rfl) ⟨⟨by decide, by decide⟩, by decide, by decide, by decide⟩ dL_act_287 (fun x M2 h => ?_)
      exact ret _ _ _ _ _ (by decide) dL_act_290 rfl ⟨h.1, hJ.t h.2⟩
    · skip
      rw [show (2 : Int32) = nI 2 from rfl, nI_leI (by omega) (by omega)] at hv
      rw [if_pos (show S.m < 2 by omega)] at ret
      refine k_iconst C (-1) dL_act_277 (by decide) ?_
      refine k_goto C 290 dL_act_278 (by decide) ?_
      exact ret _ _ _ _ _ (by decide) dL_act_290 rfl ⟨rfl, hJ⟩
  · rw [hz] at ret ⊢
    refine k_tin C 291 272 dL_act_19 ⟨⟨by decide, by decide⟩, rfl⟩ (by decide) ?_
    refine k_aloadn C 0 dL_act_291 rfl ?_
    refine k_bipush C 16 dL_act_292 (by decide) ?_
    refine k_iloadn C 2 dL_act_294 rfl ?_
    refine k_iconst C 2 dL_act_295 (by decide) ?_
    refine k_irem C dL_act_296 (by decide) ?_
    refine k_top (nI (((w / 16) % 4) % 2)) (sk_nrem (a := (w / 16) % 4) (b := 2) rfl rfl (by omega) (by decide)) ?_
    refine k_iconst C 0 dL_act_297 (by decide) ?_
    refine k_iconst C 0 dL_act_298 (by decide) ?_
    refine k_ks C hSr hNx (2) (as := [.ref (sk_ad O k), .int 16, .int (nI (((w / 16) % 4) % 2)), .int 0, .int 0]) yvL_call vsL_call ml_L_163 (q_Keep l hO hst hJ.1 hk (nI (((w / 16) % 4) % 2)) 0 0) rfl rfl (Nat.le_of_ble_eq_true rfl) ⟨⟨by decide, by decide⟩, by decide, by decide, by decide⟩ dL_act_299 (fun x M1 h => ?_)
    exact ret _ _ _ _ _ (by decide) dL_act_302 rfl h
  · rw [hz] at ret ⊢
    refine k_tout C 303 dL_act_19 (Or.inr (by decide)) (by decide) ?_
    refine k_aloadn C 0 dL_act_303 rfl ?_
    refine k_bipush C 17 dL_act_304 (by decide) ?_
    refine k_iloadn C 2 dL_act_306 rfl ?_
    refine k_iconst C 2 dL_act_307 (by decide) ?_
    refine k_irem C dL_act_308 (by decide) ?_
    refine k_top (nI (((w / 16) % 4) % 2)) (sk_nrem (a := (w / 16) % 4) (b := 2) rfl rfl (by omega) (by decide)) ?_
    refine k_iconst C 0 dL_act_309 (by decide) ?_
    refine k_iconst C 0 dL_act_310 (by decide) ?_
    refine k_ks C hSr hNx (2) (as := [.ref (sk_ad O k), .int 17, .int (nI (((w / 16) % 4) % 2)), .int 0, .int 0]) yvL_call vsL_call ml_L_163 (q_Back l hO hst hJ.1 hk (nI (((w / 16) % 4) % 2)) 0 0) rfl rfl (Nat.le_of_ble_eq_true rfl) ⟨⟨by decide, by decide⟩, by decide, by decide, by decide⟩ dL_act_311 (fun x M1 h => ?_)
    exact ret _ _ _ _ _ (by decide) dL_act_314 rfl h
