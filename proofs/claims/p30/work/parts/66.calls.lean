/-! The law: its method call, case by case (printed by l3.py) -/
set_option maxRecDepth 100000 in
theorem q_Append (l : Launch) {O : sk_O} (hO : sk_inj O) (hst : l.stackTraces = false) {M : sk_M} {k : Nat} {S : rl_T} (C : rl_C M k S) (hk : sk_isX O k) (v : Int32) (z0 : Int32) (z1 : Int32) : sk_K l yL_call (sk_w yL_call cL_call 5 (some .int)) ({ frames := 8, cells := 1, slots := 6, locals := 193 }) O [.ref (sk_ad O k), .int 0, .int v, .int z0, .int z1] M 1 (fun x M2 => x = cx (er_2 (¬ v < 0 ∧ ¬ 255 < v) (S.n < 120)) (nI (S.n + 1)) (-9999002) (-9999003) 0 ∧ rl_J k M (cs (er_2 (¬ v < 0 ∧ ¬ 255 < v) (S.n < 120)) (a_ap S v) S) M2) := by
  refine sk_ki (by decide) ⟨rfl, rfl⟩ hO (Nat.le_of_ble_eq_true rfl) (fun X A Q Cc hSr hNx ret => ?_)
  show sk_W l X O A Q 5 0 (6 * 0) M 0 [(0, .ref (sk_ad O k)), (1, .int 0), (2, .int v), (3, .int z0), (4, .int z1)] []
  refine k_iloadn Cc 1 dL_call_0 rfl ?_
  refine k_tin Cc 84 83 dL_call_1 ⟨⟨by decide, by decide⟩, rfl⟩ (by decide) ?_
  refine k_aloadn Cc 0 dL_call_84 rfl ?_
  refine k_iloadn Cc 2 dL_call_85 rfl ?_
  refine k_kg Cc hSr hNx 1 (as := [.ref (sk_ad O k), .int v]) yg_tryAppend ml_L_101 (t_tryAppend l hO hst C hk v) rfl rfl (Nat.le_of_ble_eq_true rfl) ⟨⟨by decide, by decide⟩, by decide, by decide, by decide⟩ dL_call_86 (fun x M2 h => ?_)
  exact ret _ _ _ _ _ (by decide) dL_call_89 rfl h
set_option maxRecDepth 100000 in
theorem q_About (l : Launch) {O : sk_O} (hO : sk_inj O) (hst : l.stackTraces = false) {M : sk_M} {k : Nat} {S : rl_T} (C : rl_C M k S) (hk : sk_isX O k) (v : Int32) (z0 : Int32) (z1 : Int32) : sk_K l yL_call (sk_w yL_call cL_call 5 (some .int)) ({ frames := 8, cells := 1, slots := 6, locals := 193 }) O [.ref (sk_ad O k), .int 1, .int v, .int z0, .int z1] M 1 (fun x M2 => x = cx (er_1 (¬ v < 0 ∧ ¬ 5 < v)) (mo_ab S.r S.m v) (-9999002) 0 0 ∧ rl_J k M S M2) := by
  refine sk_ki (by decide) ⟨rfl, rfl⟩ hO (Nat.le_of_ble_eq_true rfl) (fun X A Q Cc hSr hNx ret => ?_)
  show sk_W l X O A Q 5 0 (6 * 0) M 0 [(0, .ref (sk_ad O k)), (1, .int 1), (2, .int v), (3, .int z0), (4, .int z1)] []
  refine k_iloadn Cc 1 dL_call_0 rfl ?_
  refine k_tin Cc 90 89 dL_call_1 ⟨⟨by decide, by decide⟩, rfl⟩ (by decide) ?_
  refine k_aloadn Cc 0 dL_call_90 rfl ?_
  refine k_iloadn Cc 2 dL_call_91 rfl ?_
  refine k_kg Cc hSr hNx 1 (as := [.ref (sk_ad O k), .int v]) yg_tryAbout ml_L_107 (t_tryAbout l hO hst C hk v) rfl rfl (Nat.le_of_ble_eq_true rfl) ⟨⟨by decide, by decide⟩, by decide, by decide, by decide⟩ dL_call_92 (fun x M2 h => ?_)
  exact ret _ _ _ _ _ (by decide) dL_call_95 rfl h
set_option maxRecDepth 100000 in
theorem q_Skater (l : Launch) {O : sk_O} (hO : sk_inj O) (hst : l.stackTraces = false) {M : sk_M} {k : Nat} {S : rl_T} (C : rl_C M k S) (hk : sk_isX O k) (s : Int32) (v : Int32) (z0 : Int32) : sk_K l yL_call (sk_w yL_call cL_call 5 (some .int)) ({ frames := 8, cells := 1, slots := 6, locals := 193 }) O [.ref (sk_ad O k), .int 2, .int s, .int v, .int z0] M 1 (fun x M2 => x = cx (er_2 (mo_hs S.r s) (¬ v < 0 ∧ ¬ 7 < v)) (mo_sk S.r s.toNatClampNeg S.m v) (-9999001) (-9999002) 0 ∧ rl_J k M S M2) := by
  refine sk_ki (by decide) ⟨rfl, rfl⟩ hO (Nat.le_of_ble_eq_true rfl) (fun X A Q Cc hSr hNx ret => ?_)
  show sk_W l X O A Q 5 0 (6 * 0) M 0 [(0, .ref (sk_ad O k)), (1, .int 2), (2, .int s), (3, .int v), (4, .int z0)] []
  refine k_iloadn Cc 1 dL_call_0 rfl ?_
  refine k_tin Cc 96 95 dL_call_1 ⟨⟨by decide, by decide⟩, rfl⟩ (by decide) ?_
  refine k_aloadn Cc 0 dL_call_96 rfl ?_
  refine k_iloadn Cc 2 dL_call_97 rfl ?_
  refine k_iloadn Cc 3 dL_call_98 rfl ?_
  refine k_kg Cc hSr hNx 1 (as := [.ref (sk_ad O k), .int s, .int v]) yg_trySkater ml_L_110 (t_trySkater l hO hst C hk s v) rfl rfl (Nat.le_of_ble_eq_true rfl) ⟨⟨by decide, by decide⟩, by decide, by decide, by decide⟩ dL_call_99 (fun x M2 h => ?_)
  exact ret _ _ _ _ _ (by decide) dL_call_102 rfl h
set_option maxRecDepth 100000 in
theorem q_Element (l : Launch) {O : sk_O} (hO : sk_inj O) (hst : l.stackTraces = false) {M : sk_M} {k : Nat} {S : rl_T} (C : rl_C M k S) (hk : sk_isX O k) (s : Int32) (e : Int32) (v : Int32) : sk_K l yL_call (sk_w yL_call cL_call 5 (some .int)) ({ frames := 8, cells := 1, slots := 6, locals := 193 }) O [.ref (sk_ad O k), .int 3, .int s, .int e, .int v] M 1 (fun x M2 => x = cx (er_2 (mo_he S.r s e) (¬ v < 0 ∧ ¬ 8 < v)) (mo_el S.r s.toNatClampNeg e.toNatClampNeg v) (-9999001) (-9999002) 0 ∧ rl_J k M S M2) := by
  refine sk_ki (by decide) ⟨rfl, rfl⟩ hO (Nat.le_of_ble_eq_true rfl) (fun X A Q Cc hSr hNx ret => ?_)
  show sk_W l X O A Q 5 0 (6 * 0) M 0 [(0, .ref (sk_ad O k)), (1, .int 3), (2, .int s), (3, .int e), (4, .int v)] []
  refine k_iloadn Cc 1 dL_call_0 rfl ?_
  refine k_tin Cc 103 102 dL_call_1 ⟨⟨by decide, by decide⟩, rfl⟩ (by decide) ?_
  refine k_aloadn Cc 0 dL_call_103 rfl ?_
  refine k_iloadn Cc 2 dL_call_104 rfl ?_
  refine k_iloadn Cc 3 dL_call_105 rfl ?_
  refine k_iload Cc 4 dL_call_106 rfl ?_
  refine k_kg Cc hSr hNx 1 (as := [.ref (sk_ad O k), .int s, .int e, .int v]) yg_tryElement ml_L_114 (t_tryElement l hO hst C hk s e v) rfl rfl (Nat.le_of_ble_eq_true rfl) ⟨⟨by decide, by decide⟩, by decide, by decide, by decide⟩ dL_call_108 (fun x M2 h => ?_)
  exact ret _ _ _ _ _ (by decide) dL_call_111 rfl h
set_option maxRecDepth 100000 in
theorem q_Setting (l : Launch) {O : sk_O} (hO : sk_inj O) (hst : l.stackTraces = false) {M : sk_M} {k : Nat} {S : rl_T} (C : rl_C M k S) (hk : sk_isX O k) (v : Int32) (z0 : Int32) (z1 : Int32) : sk_K l yL_call (sk_w yL_call cL_call 5 (some .int)) ({ frames := 8, cells := 1, slots := 6, locals := 193 }) O [.ref (sk_ad O k), .int 4, .int v, .int z0, .int z1] M 1 (fun x M2 => x = cx (er_1 (¬ v < 0 ∧ ¬ 5 ≤ v)) (S.r (1 + v.toNatClampNeg)) (-9999002) 0 0 ∧ rl_J k M S M2) := by
  refine sk_ki (by decide) ⟨rfl, rfl⟩ hO (Nat.le_of_ble_eq_true rfl) (fun X A Q Cc hSr hNx ret => ?_)
  show sk_W l X O A Q 5 0 (6 * 0) M 0 [(0, .ref (sk_ad O k)), (1, .int 4), (2, .int v), (3, .int z0), (4, .int z1)] []
  refine k_iloadn Cc 1 dL_call_0 rfl ?_
  refine k_tin Cc 112 111 dL_call_1 ⟨⟨by decide, by decide⟩, rfl⟩ (by decide) ?_
  refine k_aloadn Cc 0 dL_call_112 rfl ?_
  refine k_iloadn Cc 2 dL_call_113 rfl ?_
  refine k_kg Cc hSr hNx 1 (as := [.ref (sk_ad O k), .int v]) yg_trySetting ml_L_118 (t_trySetting l hO hst C hk v) rfl rfl (Nat.le_of_ble_eq_true rfl) ⟨⟨by decide, by decide⟩, by decide, by decide, by decide⟩ dL_call_114 (fun x M2 h => ?_)
  exact ret _ _ _ _ _ (by decide) dL_call_117 rfl h
set_option maxRecDepth 100000 in
theorem q_Add (l : Launch) {O : sk_O} (hO : sk_inj O) (hst : l.stackTraces = false) {M : sk_M} {k : Nat} {S : rl_T} (C : rl_C M k S) (hk : sk_isX O k) (z0 : Int32) (z1 : Int32) (z2 : Int32) : sk_K l yL_call (sk_w yL_call cL_call 5 (some .int)) ({ frames := 8, cells := 1, slots := 6, locals := 193 }) O [.ref (sk_ad O k), .int 5, .int z0, .int z1, .int z2] M 1 (fun x M2 => x = cx (er_1 (S.m < 4)) (nI S.m) (-9999003) 0 0 ∧ rl_J k M (cs (er_1 (S.m < 4)) (a_ad S) S) M2) := by
  refine sk_ki (by decide) ⟨rfl, rfl⟩ hO (Nat.le_of_ble_eq_true rfl) (fun X A Q Cc hSr hNx ret => ?_)
  show sk_W l X O A Q 5 0 (6 * 0) M 0 [(0, .ref (sk_ad O k)), (1, .int 5), (2, .int z0), (3, .int z1), (4, .int z2)] []
  refine k_iloadn Cc 1 dL_call_0 rfl ?_
  refine k_tin Cc 118 117 dL_call_1 ⟨⟨by decide, by decide⟩, rfl⟩ (by decide) ?_
  refine k_aloadn Cc 0 dL_call_118 rfl ?_
  refine k_kg Cc hSr hNx 1 (as := [.ref (sk_ad O k)]) yg_tryAdd ml_L_121 (t_tryAdd l hO hst C hk ) rfl rfl (Nat.le_of_ble_eq_true rfl) ⟨⟨by decide, by decide⟩, by decide, by decide, by decide⟩ dL_call_119 (fun x M2 h => ?_)
  exact ret _ _ _ _ _ (by decide) dL_call_122 rfl h
set_option maxRecDepth 100000 in
theorem q_Program (l : Launch) {O : sk_O} (hO : sk_inj O) (hst : l.stackTraces = false) {M : sk_M} {k : Nat} {S : rl_T} (C : rl_C M k S) (hk : sk_isX O k) (s : Int32) (z0 : Int32) (z1 : Int32) : sk_K l yL_call (sk_w yL_call cL_call 5 (some .int)) ({ frames := 8, cells := 1, slots := 6, locals := 193 }) O [.ref (sk_ad O k), .int 6, .int s, .int z0, .int z1] M 1 (fun x M2 => x = cx (er_2 (mo_hs S.r s) (a_ok S = true)) (nI (a_L S).length) (-9999001) (-9999003) 0 ∧ rl_J k M (cs (er_2 (mo_hs S.r s) (a_ok S = true)) (a_pr S s) S) M2) := by
  refine sk_ki (by decide) ⟨rfl, rfl⟩ hO (Nat.le_of_ble_eq_true rfl) (fun X A Q Cc hSr hNx ret => ?_)
  show sk_W l X O A Q 5 0 (6 * 0) M 0 [(0, .ref (sk_ad O k)), (1, .int 6), (2, .int s), (3, .int z0), (4, .int z1)] []
  refine k_iloadn Cc 1 dL_call_0 rfl ?_
  refine k_tin Cc 123 122 dL_call_1 ⟨⟨by decide, by decide⟩, rfl⟩ (by decide) ?_
  refine k_aloadn Cc 0 dL_call_123 rfl ?_
  refine k_iloadn Cc 2 dL_call_124 rfl ?_
  refine k_kg Cc hSr hNx 1 (as := [.ref (sk_ad O k), .int s]) yg_tryProgram ml_L_125 (t_tryProgram l hO hst C hk s) rfl rfl (Nat.le_of_ble_eq_true rfl) ⟨⟨by decide, by decide⟩, by decide, by decide, by decide⟩ dL_call_125 (fun x M2 h => ?_)
  exact ret _ _ _ _ _ (by decide) dL_call_128 rfl h
set_option maxRecDepth 100000 in
theorem q_Mark (l : Launch) {O : sk_O} (hO : sk_inj O) (hst : l.stackTraces = false) {M : sk_M} {k : Nat} {S : rl_T} (C : rl_C M k S) (hk : sk_isX O k) (s : Int32) (e : Int32) (v : Int32) : sk_K l yL_call (sk_w yL_call cL_call 5 (some .int)) ({ frames := 8, cells := 1, slots := 6, locals := 193 }) O [.ref (sk_ad O k), .int 7, .int s, .int e, .int v] M 1 (fun x M2 => x = cx (er_2 (mo_he S.r s e) (¬ v < 0 ∧ ¬ 161050 < v)) (x_kn v) (-9999001) (-9999002) 0 ∧ rl_J k M (cs (er_2 (mo_he S.r s e) (¬ v < 0 ∧ ¬ 161050 < v)) (a_mk S s e v) S) M2) := by
  refine sk_ki (by decide) ⟨rfl, rfl⟩ hO (Nat.le_of_ble_eq_true rfl) (fun X A Q Cc hSr hNx ret => ?_)
  show sk_W l X O A Q 5 0 (6 * 0) M 0 [(0, .ref (sk_ad O k)), (1, .int 7), (2, .int s), (3, .int e), (4, .int v)] []
  refine k_iloadn Cc 1 dL_call_0 rfl ?_
  refine k_tin Cc 129 128 dL_call_1 ⟨⟨by decide, by decide⟩, rfl⟩ (by decide) ?_
  refine k_aloadn Cc 0 dL_call_129 rfl ?_
  refine k_iloadn Cc 2 dL_call_130 rfl ?_
  refine k_iloadn Cc 3 dL_call_131 rfl ?_
  refine k_iload Cc 4 dL_call_132 rfl ?_
  refine k_kg Cc hSr hNx 1 (as := [.ref (sk_ad O k), .int s, .int e, .int v]) yg_tryMark ml_L_128 (t_tryMark l hO hst C hk s e v) rfl rfl (Nat.le_of_ble_eq_true rfl) ⟨⟨by decide, by decide⟩, by decide, by decide, by decide⟩ dL_call_134 (fun x M2 h => ?_)
  exact ret _ _ _ _ _ (by decide) dL_call_137 rfl h
set_option maxRecDepth 100000 in
theorem q_Component (l : Launch) {O : sk_O} (hO : sk_inj O) (hst : l.stackTraces = false) {M : sk_M} {k : Nat} {S : rl_T} (C : rl_C M k S) (hk : sk_isX O k) (s : Int32) (j : Int32) (v : Int32) : sk_K l yL_call (sk_w yL_call cL_call 5 (some .int)) ({ frames := 8, cells := 1, slots := 6, locals := 193 }) O [.ref (sk_ad O k), .int 8, .int s, .int j, .int v] M 1 (fun x M2 => x = cx (er_2 (mo_hs S.r s ∧ ¬ j < 0 ∧ ¬ 3 ≤ j) (¬ v < 0 ∧ ¬ 115856200 < v)) (x_cn v) (-9999001) (-9999002) 0 ∧ rl_J k M (cs (er_2 (mo_hs S.r s ∧ ¬ j < 0 ∧ ¬ 3 ≤ j) (¬ v < 0 ∧ ¬ 115856200 < v)) (a_co S s j v) S) M2) := by
  refine sk_ki (by decide) ⟨rfl, rfl⟩ hO (Nat.le_of_ble_eq_true rfl) (fun X A Q Cc hSr hNx ret => ?_)
  show sk_W l X O A Q 5 0 (6 * 0) M 0 [(0, .ref (sk_ad O k)), (1, .int 8), (2, .int s), (3, .int j), (4, .int v)] []
  refine k_iloadn Cc 1 dL_call_0 rfl ?_
  refine k_tin Cc 138 137 dL_call_1 ⟨⟨by decide, by decide⟩, rfl⟩ (by decide) ?_
  refine k_aloadn Cc 0 dL_call_138 rfl ?_
  refine k_iloadn Cc 2 dL_call_139 rfl ?_
  refine k_iloadn Cc 3 dL_call_140 rfl ?_
  refine k_iload Cc 4 dL_call_141 rfl ?_
  refine k_kg Cc hSr hNx 1 (as := [.ref (sk_ad O k), .int s, .int j, .int v]) yg_tryComponent ml_L_131 (t_tryComponent l hO hst C hk s j v) rfl rfl (Nat.le_of_ble_eq_true rfl) ⟨⟨by decide, by decide⟩, by decide, by decide, by decide⟩ dL_call_143 (fun x M2 h => ?_)
  exact ret _ _ _ _ _ (by decide) dL_call_146 rfl h
set_option maxRecDepth 100000 in
theorem q_Penalty (l : Launch) {O : sk_O} (hO : sk_inj O) (hst : l.stackTraces = false) {M : sk_M} {k : Nat} {S : rl_T} (C : rl_C M k S) (hk : sk_isX O k) (s : Int32) (v : Int32) (z0 : Int32) : sk_K l yL_call (sk_w yL_call cL_call 5 (some .int)) ({ frames := 8, cells := 1, slots := 6, locals := 193 }) O [.ref (sk_ad O k), .int 9, .int s, .int v, .int z0] M 1 (fun x M2 => x = cx (er_2 (mo_hs S.r s) (¬ v < 0 ∧ ¬ 9 < v)) (S.r (6 + 233 * s.toNatClampNeg + 1)) (-9999001) (-9999002) 0 ∧ rl_J k M (cs (er_2 (mo_hs S.r s) (¬ v < 0 ∧ ¬ 9 < v)) (a_pe S s v) S) M2) := by
  refine sk_ki (by decide) ⟨rfl, rfl⟩ hO (Nat.le_of_ble_eq_true rfl) (fun X A Q Cc hSr hNx ret => ?_)
  show sk_W l X O A Q 5 0 (6 * 0) M 0 [(0, .ref (sk_ad O k)), (1, .int 9), (2, .int s), (3, .int v), (4, .int z0)] []
  refine k_iloadn Cc 1 dL_call_0 rfl ?_
  refine k_tin Cc 147 146 dL_call_1 ⟨⟨by decide, by decide⟩, rfl⟩ (by decide) ?_
  refine k_aloadn Cc 0 dL_call_147 rfl ?_
  refine k_iloadn Cc 2 dL_call_148 rfl ?_
  refine k_iloadn Cc 3 dL_call_149 rfl ?_
  refine k_kg Cc hSr hNx 1 (as := [.ref (sk_ad O k), .int s, .int v]) yg_tryPenalty ml_L_134 (t_tryPenalty l hO hst C hk s v) rfl rfl (Nat.le_of_ble_eq_true rfl) ⟨⟨by decide, by decide⟩, by decide, by decide, by decide⟩ dL_call_150 (fun x M2 h => ?_)
  exact ret _ _ _ _ _ (by decide) dL_call_153 rfl h
set_option maxRecDepth 100000 in
theorem q_Lay (l : Launch) {O : sk_O} (hO : sk_inj O) (hst : l.stackTraces = false) {M : sk_M} {k : Nat} {S : rl_T} (C : rl_C M k S) (hk : sk_isX O k) (a : Int32) (v : Int32) (z0 : Int32) : sk_K l yL_call (sk_w yL_call cL_call 5 (some .int)) ({ frames := 8, cells := 1, slots := 6, locals := 193 }) O [.ref (sk_ad O k), .int 10, .int a, .int v, .int z0] M 1 (fun x M2 => x = cx (er_1 (st_fi a v)) (S.r (1 + a.toNatClampNeg)) (-9999002) 0 0 ∧ rl_J k M (cs (er_1 (st_fi a v)) (a_se S a v) S) M2) := by
  refine sk_ki (by decide) ⟨rfl, rfl⟩ hO (Nat.le_of_ble_eq_true rfl) (fun X A Q Cc hSr hNx ret => ?_)
  show sk_W l X O A Q 5 0 (6 * 0) M 0 [(0, .ref (sk_ad O k)), (1, .int 10), (2, .int a), (3, .int v), (4, .int z0)] []
  refine k_iloadn Cc 1 dL_call_0 rfl ?_
  refine k_tin Cc 154 153 dL_call_1 ⟨⟨by decide, by decide⟩, rfl⟩ (by decide) ?_
  refine k_aloadn Cc 0 dL_call_154 rfl ?_
  refine k_iloadn Cc 2 dL_call_155 rfl ?_
  refine k_iloadn Cc 3 dL_call_156 rfl ?_
  refine k_kg Cc hSr hNx 1 (as := [.ref (sk_ad O k), .int a, .int v]) yg_tryLay ml_L_137 (t_tryLay l hO hst C hk a v) rfl rfl (Nat.le_of_ble_eq_true rfl) ⟨⟨by decide, by decide⟩, by decide, by decide, by decide⟩ dL_call_157 (fun x M2 h => ?_)
  exact ret _ _ _ _ _ (by decide) dL_call_160 rfl h
set_option maxRecDepth 100000 in
theorem q_Undo (l : Launch) {O : sk_O} (hO : sk_inj O) (hst : l.stackTraces = false) {M : sk_M} {k : Nat} {S : rl_T} (C : rl_C M k S) (hk : sk_isX O k) (z0 : Int32) (z1 : Int32) (z2 : Int32) : sk_K l yL_call (sk_w yL_call cL_call 5 (some .int)) ({ frames := 8, cells := 1, slots := 6, locals := 193 }) O [.ref (sk_ad O k), .int 11, .int z0, .int z1, .int z2] M 1 (fun x M2 => x = cx (er_1 (0 < S.c)) (nI (S.c - 1)) (-9999003) 0 0 ∧ rl_J k M (cs (er_1 (0 < S.c)) (a_un S) S) M2) := by
  refine sk_ki (by decide) ⟨rfl, rfl⟩ hO (Nat.le_of_ble_eq_true rfl) (fun X A Q Cc hSr hNx ret => ?_)
  show sk_W l X O A Q 5 0 (6 * 0) M 0 [(0, .ref (sk_ad O k)), (1, .int 11), (2, .int z0), (3, .int z1), (4, .int z2)] []
  refine k_iloadn Cc 1 dL_call_0 rfl ?_
  refine k_tin Cc 161 160 dL_call_1 ⟨⟨by decide, by decide⟩, rfl⟩ (by decide) ?_
  refine k_aloadn Cc 0 dL_call_161 rfl ?_
  refine k_kg Cc hSr hNx 1 (as := [.ref (sk_ad O k)]) yg_tryUndo ml_L_140 (t_tryUndo l hO hst C hk ) rfl rfl (Nat.le_of_ble_eq_true rfl) ⟨⟨by decide, by decide⟩, by decide, by decide, by decide⟩ dL_call_162 (fun x M2 h => ?_)
  exact ret _ _ _ _ _ (by decide) dL_call_165 rfl h
set_option maxRecDepth 100000 in
theorem q_Replaced (l : Launch) {O : sk_O} (hO : sk_inj O) (hst : l.stackTraces = false) {M : sk_M} {k : Nat} {S : rl_T} (C : rl_C M k S) (hk : sk_isX O k) (s : Int32) (e : Int32) (z0 : Int32) (hr : ¬ mo_he S.r s e) : sk_K l yL_call (sk_w yL_call cL_call 5 (some .int)) ({ frames := 8, cells := 1, slots := 6, locals := 193 }) O [.ref (sk_ad O k), .int 12, .int s, .int e, .int z0] M 1 (fun x M2 => x = -9999001 ∧ rl_J k M S M2) := by
  refine sk_ki (by decide) ⟨rfl, rfl⟩ hO (Nat.le_of_ble_eq_true rfl) (fun X A Q Cc hSr hNx ret => ?_)
  show sk_W l X O A Q 5 0 (6 * 0) M 0 [(0, .ref (sk_ad O k)), (1, .int 12), (2, .int s), (3, .int e), (4, .int z0)] []
  refine k_iloadn Cc 1 dL_call_0 rfl ?_
  refine k_tin Cc 166 165 dL_call_1 ⟨⟨by decide, by decide⟩, rfl⟩ (by decide) ?_
  refine k_aloadn Cc 0 dL_call_166 rfl ?_
  refine k_iloadn Cc 2 dL_call_167 rfl ?_
  refine k_iloadn Cc 3 dL_call_168 rfl ?_
  refine k_kg Cc hSr hNx 1 (as := [.ref (sk_ad O k), .int s, .int e]) yg_tryReplaced ml_L_143 (t_tryReplaced l hO hst C hk s e hr) rfl rfl (Nat.le_of_ble_eq_true rfl) ⟨⟨by decide, by decide⟩, by decide, by decide, by decide⟩ dL_call_169 (fun x M2 h => ?_)
  exact ret _ _ _ _ _ (by decide) dL_call_172 rfl h
set_option maxRecDepth 100000 in
theorem q_Swap (l : Launch) {O : sk_O} (hO : sk_inj O) (hst : l.stackTraces = false) {M : sk_M} {k : Nat} {S : rl_T} (C : rl_C M k S) (hk : sk_isX O k) (s : Int32) (v : Int32) (z0 : Int32) : sk_K l yL_call (sk_w yL_call cL_call 5 (some .int)) ({ frames := 8, cells := 1, slots := 6, locals := 193 }) O [.ref (sk_ad O k), .int 13, .int s, .int v, .int z0] M 1 (fun x M2 => x = cx (er_2 (mo_hs S.r s) (¬ v < 0 ∧ ¬ 2 < v)) (a_bs S.r s.toNatClampNeg v) (-9999001) (-9999002) 0 ∧ rl_J k M S M2) := by
  refine sk_ki (by decide) ⟨rfl, rfl⟩ hO (Nat.le_of_ble_eq_true rfl) (fun X A Q Cc hSr hNx ret => ?_)
  show sk_W l X O A Q 5 0 (6 * 0) M 0 [(0, .ref (sk_ad O k)), (1, .int 13), (2, .int s), (3, .int v), (4, .int z0)] []
  refine k_iloadn Cc 1 dL_call_0 rfl ?_
  refine k_tin Cc 173 172 dL_call_1 ⟨⟨by decide, by decide⟩, rfl⟩ (by decide) ?_
  refine k_aloadn Cc 0 dL_call_173 rfl ?_
  refine k_iloadn Cc 2 dL_call_174 rfl ?_
  refine k_iloadn Cc 3 dL_call_175 rfl ?_
  refine k_kg Cc hSr hNx 1 (as := [.ref (sk_ad O k), .int s, .int v]) yg_trySwap ml_L_146 (t_trySwap l hO hst C hk s v) rfl rfl (Nat.le_of_ble_eq_true rfl) ⟨⟨by decide, by decide⟩, by decide, by decide, by decide⟩ dL_call_176 (fun x M2 h => ?_)
  exact ret _ _ _ _ _ (by decide) dL_call_179 rfl h
set_option maxRecDepth 100000 in
theorem q_Needs (l : Launch) {O : sk_O} (hO : sk_inj O) (hst : l.stackTraces = false) {M : sk_M} {k : Nat} {S : rl_T} (C : rl_C M k S) (hk : sk_isX O k) (s : Int32) (e : Int32) (z0 : Int32) : sk_K l yL_call (sk_w yL_call cL_call 5 (some .int)) ({ frames := 8, cells := 1, slots := 6, locals := 193 }) O [.ref (sk_ad O k), .int 14, .int s, .int e, .int z0] M 1 (fun x M2 => a_nd S s e x ∧ rl_J k M S M2) := by
  refine sk_ki (by decide) ⟨rfl, rfl⟩ hO (Nat.le_of_ble_eq_true rfl) (fun X A Q Cc hSr hNx ret => ?_)
  show sk_W l X O A Q 5 0 (6 * 0) M 0 [(0, .ref (sk_ad O k)), (1, .int 14), (2, .int s), (3, .int e), (4, .int z0)] []
  refine k_iloadn Cc 1 dL_call_0 rfl ?_
  refine k_tin Cc 180 179 dL_call_1 ⟨⟨by decide, by decide⟩, rfl⟩ (by decide) ?_
  refine k_aloadn Cc 0 dL_call_180 rfl ?_
  refine k_iloadn Cc 2 dL_call_181 rfl ?_
  refine k_iloadn Cc 3 dL_call_182 rfl ?_
  refine k_kg Cc hSr hNx 1 (as := [.ref (sk_ad O k), .int s, .int e]) yg_tryNeeds ml_L_149 (t_tryNeeds l hO hst C hk s e) rfl rfl (Nat.le_of_ble_eq_true rfl) ⟨⟨by decide, by decide⟩, by decide, by decide, by decide⟩ dL_call_183 (fun x M2 h => ?_)
  exact ret _ _ _ _ _ (by decide) dL_call_186 rfl h
set_option maxRecDepth 100000 in
theorem q_Behind (l : Launch) {O : sk_O} (hO : sk_inj O) (hst : l.stackTraces = false) {M : sk_M} {k : Nat} {S : rl_T} (C : rl_C M k S) (hk : sk_isX O k) (s : Int32) (z0 : Int32) (z1 : Int32) : sk_K l yL_call (sk_w yL_call cL_call 5 (some .int)) ({ frames := 8, cells := 1, slots := 6, locals := 193 }) O [.ref (sk_ad O k), .int 15, .int s, .int z0, .int z1] M 1 (fun x M2 => x = cx (er_1 (mo_hs S.r s)) (mo_T S.r (mo_w (mo_T S.r) (mo_S S.r) S.m) - mo_T S.r s.toNatClampNeg) (-9999001) 0 0 ∧ rl_J k M S M2) := by
  refine sk_ki (by decide) ⟨rfl, rfl⟩ hO (Nat.le_of_ble_eq_true rfl) (fun X A Q Cc hSr hNx ret => ?_)
  show sk_W l X O A Q 5 0 (6 * 0) M 0 [(0, .ref (sk_ad O k)), (1, .int 15), (2, .int s), (3, .int z0), (4, .int z1)] []
  refine k_iloadn Cc 1 dL_call_0 rfl ?_
  refine k_tin Cc 187 186 dL_call_1 ⟨⟨by decide, by decide⟩, rfl⟩ (by decide) ?_
  refine k_aloadn Cc 0 dL_call_187 rfl ?_
  refine k_iloadn Cc 2 dL_call_188 rfl ?_
  refine k_kg Cc hSr hNx 1 (as := [.ref (sk_ad O k), .int s]) yg_tryBehind ml_L_152 (t_tryBehind l hO hst C hk s) rfl rfl (Nat.le_of_ble_eq_true rfl) ⟨⟨by decide, by decide⟩, by decide, by decide, by decide⟩ dL_call_189 (fun x M2 h => ?_)
  exact ret _ _ _ _ _ (by decide) dL_call_192 rfl h
set_option maxRecDepth 100000 in
theorem q_Keep (l : Launch) {O : sk_O} (hO : sk_inj O) (hst : l.stackTraces = false) {M : sk_M} {k : Nat} {S : rl_T} (C : rl_C M k S) (hk : sk_isX O k) (j : Int32) (z0 : Int32) (z1 : Int32) : sk_K l yL_call (sk_w yL_call cL_call 5 (some .int)) ({ frames := 8, cells := 1, slots := 6, locals := 193 }) O [.ref (sk_ad O k), .int 16, .int j, .int z0, .int z1] M 1 (fun x M2 => x = cx (er_1 (¬ j < 0 ∧ ¬ 2 ≤ j)) (S.r 0) (-9999001) 0 0 ∧ rl_J k M (cs (er_1 (¬ j < 0 ∧ ¬ 2 ≤ j)) (a_sv S j) S) M2) := by
  refine sk_ki (by decide) ⟨rfl, rfl⟩ hO (Nat.le_of_ble_eq_true rfl) (fun X A Q Cc hSr hNx ret => ?_)
  show sk_W l X O A Q 5 0 (6 * 0) M 0 [(0, .ref (sk_ad O k)), (1, .int 16), (2, .int j), (3, .int z0), (4, .int z1)] []
  refine k_iloadn Cc 1 dL_call_0 rfl ?_
  refine k_tin Cc 193 192 dL_call_1 ⟨⟨by decide, by decide⟩, rfl⟩ (by decide) ?_
  refine k_aloadn Cc 0 dL_call_193 rfl ?_
  refine k_iloadn Cc 2 dL_call_194 rfl ?_
  refine k_kg Cc hSr hNx 1 (as := [.ref (sk_ad O k), .int j]) yg_tryKeep ml_L_155 (t_tryKeep l hO hst C hk j) rfl rfl (Nat.le_of_ble_eq_true rfl) ⟨⟨by decide, by decide⟩, by decide, by decide, by decide⟩ dL_call_195 (fun x M2 h => ?_)
  exact ret _ _ _ _ _ (by decide) dL_call_198 rfl h
set_option maxRecDepth 100000 in
theorem q_Back (l : Launch) {O : sk_O} (hO : sk_inj O) (hst : l.stackTraces = false) {M : sk_M} {k : Nat} {S : rl_T} (C : rl_C M k S) (hk : sk_isX O k) (j : Int32) (z0 : Int32) (z1 : Int32) : sk_K l yL_call (sk_w yL_call cL_call 5 (some .int)) ({ frames := 8, cells := 1, slots := 6, locals := 193 }) O [.ref (sk_ad O k), .int 17, .int j, .int z0, .int z1] M 1 (fun x M2 => x = cx (er_2 (¬ j < 0 ∧ ¬ 2 ≤ j) (¬ S.v j.toNatClampNeg = 0)) (S.q (938 * j.toNatClampNeg)) (-9999001) (-9999003) 0 ∧ rl_J k M (cs (er_2 (¬ j < 0 ∧ ¬ 2 ≤ j) (¬ S.v j.toNatClampNeg = 0)) (a_rs S j) S) M2) := by
  refine sk_ki (by decide) ⟨rfl, rfl⟩ hO (Nat.le_of_ble_eq_true rfl) (fun X A Q Cc hSr hNx ret => ?_)
  show sk_W l X O A Q 5 0 (6 * 0) M 0 [(0, .ref (sk_ad O k)), (1, .int 17), (2, .int j), (3, .int z0), (4, .int z1)] []
  refine k_iloadn Cc 1 dL_call_0 rfl ?_
  refine k_tout Cc 199 dL_call_1 (Or.inr (by decide)) (by decide) ?_
  refine k_aloadn Cc 0 dL_call_199 rfl ?_
  refine k_iloadn Cc 2 dL_call_200 rfl ?_
  refine k_kg Cc hSr hNx 1 (as := [.ref (sk_ad O k), .int j]) yg_tryBack ml_L_158 (t_tryBack l hO hst C hk j) rfl rfl (Nat.le_of_ble_eq_true rfl) ⟨⟨by decide, by decide⟩, by decide, by decide, by decide⟩ dL_call_201 (fun x M2 h => ?_)
  exact ret _ _ _ _ _ (by decide) dL_call_204 rfl h
