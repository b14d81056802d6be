/-! The law: its guarded calls, told by what the sheet holds (printed by l3.py) -/
theorem sk_K.mono {l : Launch} {y : MethodName} {ws : List Cond} {rm : Room} {O : sk_O} {as : List Value} {M : sk_M} {nc : Nat} {post post2 : Int32 → sk_M → Prop} (h : sk_K l y ws rm O as M nc post) (g : ∀ r M2, post r M2 → post2 r M2) : sk_K l y ws rm O as M nc post2 := by
  refine ⟨h.1, h.2.1, fun sz p e ha hc hk s m args below hf hap hP hK => ?_⟩
  obtain ⟨n, o, h1, h2, h3, ⟨⟨r, u, e1, e2, e3⟩, e4⟩, L⟩ := h.2.2 sz p e ha hc hk s m args below hf hap hP hK
  exact ⟨n, o, h1, h2, h3, ⟨⟨r, u, e1, g r u e2, e3⟩, e4⟩, L⟩
theorem t_tryPart (l : Launch) {O : sk_O} (hO : sk_inj O) (hst : l.stackTraces = false) {M : sk_M} {k : Nat} {S : rl_T} (C : rl_C M k S) (hk : sk_isX O k) (s : Int32) (e : Int32) (p : Int32) (v : Int32) : sk_K l yL_tryPart (Cond.codeWith yL_tryPart cL_tryPart 6 (some .int) [(0, 9, 10, 13), (0, 9, 15, 16)] :: sk_tb) ({ frames := 7, cells := 1, slots := 6, locals := 134 }) O [.ref (sk_ad O k), .int s, .int e, .int p, .int v] M 1 (fun x M2 => x = cx (er_2 (mo_hp S.r s e p) (¬ v < 0 ∧ ¬ 4 < v)) (mo_pa S.r s.toNatClampNeg e.toNatClampNeg p.toNatClampNeg v) (-9999001) (-9999002) 0 ∧ rl_J k M S M2) := by
  obtain ⟨o, H⟩ := C.2.1
  refine (g_L_tryPart l hO M (k := k) (s := s) (e := e) (p := p) (w := v) (hk := hk) (hw := C.1.wf) (hst := hst)).mono (fun x M2 h => ?_)
  obtain ⟨n, r, hw, hx⟩ := h
  exact c_part C (wv2 (by decide) hw) hx
theorem t_tryCall (l : Launch) {O : sk_O} (hO : sk_inj O) (hst : l.stackTraces = false) {M : sk_M} {k : Nat} {S : rl_T} (C : rl_C M k S) (hk : sk_isX O k) (s : Int32) (e : Int32) (p : Int32) (v : Int32) : sk_K l yL_tryCall (Cond.codeWith yL_tryCall cL_tryCall 6 (some .int) [(0, 9, 10, 13), (0, 9, 15, 16), (0, 9, 20, 22)] :: sk_tb) ({ frames := 8, cells := 1, slots := 6, locals := 170 }) O [.ref (sk_ad O k), .int s, .int e, .int p, .int v] M 1 (fun x M2 => x = cx (mo_wc S.r s e p v) (S.r (25 + 233 * s.toNatClampNeg + 18 * e.toNatClampNeg + 3 * p.toNatClampNeg + 2)) (-9999001) (-9999002) (-9999003) ∧ rl_J k M (cs (mo_wc S.r s e p v) (a_ca S s e p v) S) M2) := by
  obtain ⟨o, H⟩ := C.2.1
  refine (g_L_tryCall l hO M (k := k) (s := s) (e := e) (p := p) (v := v) (hk := hk) (o := o) (c := S.c) (ho := H.2.1) (hc := H.2.2.1) (ho14 := H.1) (hc14 := H.2.2.2.1) (hw := C.1.wf) (hst := hst)).mono (fun x M2 h => ?_)
  obtain ⟨n, r, hw, hx⟩ := h
  exact c_call C H (wv3 (by decide) (by decide) (by decide) hw) hx
theorem t_tryIfCalled (l : Launch) {O : sk_O} (hO : sk_inj O) (hst : l.stackTraces = false) {M : sk_M} {k : Nat} {S : rl_T} (C : rl_C M k S) (hk : sk_isX O k) (s : Int32) (e : Int32) (p : Int32) (v : Int32) : sk_K l yL_tryIfCalled (Cond.codeWith yL_tryIfCalled cL_tryIfCalled 6 (some .int) [(0, 9, 10, 13), (0, 9, 15, 16), (0, 9, 20, 22)] :: sk_tb) ({ frames := 8, cells := 1, slots := 6, locals := 132 }) O [.ref (sk_ad O k), .int s, .int e, .int p, .int v] M 1 (fun x M2 => x = cx (mo_wc S.r s e p v) (mo_T (mu_u S.r (25 + 233 * s.toNatClampNeg + 18 * e.toNatClampNeg + 3 * p.toNatClampNeg + 2) v) s.toNatClampNeg) (-9999001) (-9999002) (-9999003) ∧ rl_J k M S M2) := by
  obtain ⟨o, H⟩ := C.2.1
  refine (g_L_tryIfCalled l hO M (k := k) (s := s) (e := e) (p := p) (v := v) (hk := hk) (hw := C.1.wf) (hst := hst)).mono (fun x M2 h => ?_)
  obtain ⟨n, r, hw, hx⟩ := h
  exact c_ifCalled C (wv3 (by decide) (by decide) (by decide) hw) hx
theorem t_tryReview (l : Launch) {O : sk_O} (hO : sk_inj O) (hst : l.stackTraces = false) {M : sk_M} {k : Nat} {S : rl_T} (C : rl_C M k S) (hk : sk_isX O k) (s : Int32) (e : Int32) (b : Int32) : sk_K l yL_tryReview (Cond.codeWith yL_tryReview cL_tryReview 5 (some .int) [(0, 7, 8, 13)] :: sk_tb) ({ frames := 7, cells := 1, slots := 6, locals := 168 }) O [.ref (sk_ad O k), .int s, .int e, .int b] M 1 (fun x M2 => x = cx (er_1 (mo_he S.r s e)) (a_sr S.r S.m s.toNatClampNeg e.toNatClampNeg b) (-9999001) 0 0 ∧ rl_J k M (cs (er_1 (mo_he S.r s e)) (a_rv S s e b) S) M2) := by
  obtain ⟨o, H⟩ := C.2.1
  refine (g_L_tryReview l hO M (k := k) (s := s) (e := e) (b := b) (hk := hk) (o := o) (c := S.c) (ho := H.2.1) (hc := H.2.2.1) (ho14 := H.1) (hc14 := H.2.2.2.1) (hw := C.1.wf) (hst := hst)).mono (fun x M2 h => ?_)
  obtain ⟨n, r, hw, hx⟩ := h
  exact c_review C H (wv1 hw) hx
theorem t_tryFall (l : Launch) {O : sk_O} (hO : sk_inj O) (hst : l.stackTraces = false) {M : sk_M} {k : Nat} {S : rl_T} (C : rl_C M k S) (hk : sk_isX O k) (s : Int32) (e : Int32) (b : Int32) : sk_K l yL_tryFall (Cond.codeWith yL_tryFall cL_tryFall 5 (some .int) [(0, 7, 8, 13)] :: sk_tb) ({ frames := 7, cells := 1, slots := 6, locals := 168 }) O [.ref (sk_ad O k), .int s, .int e, .int b] M 1 (fun x M2 => x = cx (er_1 (mo_he S.r s e)) (a_sf S.r s.toNatClampNeg e.toNatClampNeg b) (-9999001) 0 0 ∧ rl_J k M (cs (er_1 (mo_he S.r s e)) (a_fl S s e b) S) M2) := by
  obtain ⟨o, H⟩ := C.2.1
  refine (g_L_tryFall l hO M (k := k) (s := s) (e := e) (b := b) (hk := hk) (o := o) (c := S.c) (ho := H.2.1) (hc := H.2.2.1) (ho14 := H.1) (hc14 := H.2.2.2.1) (hw := C.1.wf) (hst := hst)).mono (fun x M2 h => ?_)
  obtain ⟨n, r, hw, hx⟩ := h
  exact c_fall C H (wv1 hw) hx
theorem t_tryScript (l : Launch) {O : sk_O} (hO : sk_inj O) (hst : l.stackTraces = false) {M : sk_M} {k : Nat} {S : rl_T} (C : rl_C M k S) (hk : sk_isX O k) (v : Int32) (y : Int64) (hr : ¬ rs_k v y) : sk_K l yL_tryScript (Cond.codeWith yL_tryScript cL_tryScript 5 (some .int) [(0, 6, 7, 16)] :: sk_tb) ({ frames := 7, cells := 1, slots := 6, locals := 179 }) O [.ref (sk_ad O k), .int v, .long y] M 1 (fun x M2 => x = -9999002 ∧ rl_J k M S M2) := by
  obtain ⟨o, H⟩ := C.2.1
  refine (g_L_tryScript l hO M (k := k) (v := v) (x := y) (hk := hk) (hw := C.1.wf) (hst := hst)).mono (fun x M2 h => ?_)
  obtain ⟨n, r, hw, hx⟩ := h
  exact c_runScript C hw hx hr
theorem t_trySimulate (l : Launch) {O : sk_O} (hO : sk_inj O) (hst : l.stackTraces = false) {M : sk_M} {k : Nat} {S : rl_T} (C : rl_C M k S) (hk : sk_isX O k) (y : Int64) (v : Int32) : sk_K l yL_trySimulate (Cond.codeWith yL_trySimulate cL_trySimulate 5 (some .int) [(0, 6, 7, 16)] :: sk_tb) ({ frames := 7, cells := 1, slots := 6, locals := 158 }) O [.ref (sk_ad O k), .long y, .int v] M 1 (fun x M2 => x = cx (er_1 (¬ v < 1 ∧ ¬ 60 < v)) (sk_sum (mo_T (mt_s (mu_c S.r S.r) y v.toNatClampNeg)) S.m) (-9999002) 0 0 ∧ rl_J k M S M2) := by
  obtain ⟨o, H⟩ := C.2.1
  refine (g_L_trySimulate l hO M (k := k) (x := y) (v := v) (hk := hk) (hw := C.1.wf) (hst := hst)).mono (fun x M2 h => ?_)
  obtain ⟨n, r, hw, hx⟩ := h
  exact c_simulate C (wv1 hw) hx
theorem t_tryAppend (l : Launch) {O : sk_O} (hO : sk_inj O) (hst : l.stackTraces = false) {M : sk_M} {k : Nat} {S : rl_T} (C : rl_C M k S) (hk : sk_isX O k) (v : Int32) : sk_K l yL_tryAppend (Cond.codeWith yL_tryAppend cL_tryAppend 3 (some .int) [(0, 5, 6, 16), (0, 5, 10, 22)] :: sk_tb) ({ frames := 7, cells := 1, slots := 6, locals := 103 }) O [.ref (sk_ad O k), .int v] M 1 (fun x M2 => x = cx (er_2 (¬ v < 0 ∧ ¬ 255 < v) (S.n < 120)) (nI (S.n + 1)) (-9999002) (-9999003) 0 ∧ rl_J k M (cs (er_2 (¬ v < 0 ∧ ¬ 255 < v) (S.n < 120)) (a_ap S v) S) M2) := by
  obtain ⟨o, H⟩ := C.2.1
  refine (g_L_tryAppend l hO M (k := k) (c := v) (hk := hk) (n := S.n) (hn := C.2.2.2.2.1) (hn2 := C.2.2.2.1) (hst := hst)).mono (fun x M2 h => ?_)
  obtain ⟨n, r, hw, hx⟩ := h
  exact c_append C (wv2 (by decide) hw) hx
theorem t_tryAbout (l : Launch) {O : sk_O} (hO : sk_inj O) (hst : l.stackTraces = false) {M : sk_M} {k : Nat} {S : rl_T} (C : rl_C M k S) (hk : sk_isX O k) (v : Int32) : sk_K l yL_tryAbout (Cond.codeWith yL_tryAbout cL_tryAbout 3 (some .int) [(0, 5, 6, 16)] :: sk_tb) ({ frames := 7, cells := 1, slots := 6, locals := 152 }) O [.ref (sk_ad O k), .int v] M 1 (fun x M2 => x = cx (er_1 (¬ v < 0 ∧ ¬ 5 < v)) (mo_ab S.r S.m v) (-9999002) 0 0 ∧ rl_J k M S M2) := by
  obtain ⟨o, H⟩ := C.2.1
  refine (g_L_tryAbout l hO M (k := k) (w := v) (hk := hk) (hw := C.1.wf) (hst := hst)).mono (fun x M2 h => ?_)
  obtain ⟨n, r, hw, hx⟩ := h
  exact c_about C (wv1 hw) hx
theorem t_trySkater (l : Launch) {O : sk_O} (hO : sk_inj O) (hst : l.stackTraces = false) {M : sk_M} {k : Nat} {S : rl_T} (C : rl_C M k S) (hk : sk_isX O k) (s : Int32) (v : Int32) : sk_K l yL_trySkater (Cond.codeWith yL_trySkater cL_trySkater 4 (some .int) [(0, 6, 7, 13), (0, 6, 11, 16)] :: sk_tb) ({ frames := 7, cells := 1, slots := 6, locals := 154 }) O [.ref (sk_ad O k), .int s, .int v] M 1 (fun x M2 => x = cx (er_2 (mo_hs S.r s) (¬ v < 0 ∧ ¬ 7 < v)) (mo_sk S.r s.toNatClampNeg S.m v) (-9999001) (-9999002) 0 ∧ rl_J k M S M2) := by
  obtain ⟨o, H⟩ := C.2.1
  refine (g_L_trySkater l hO M (k := k) (s := s) (w := v) (hk := hk) (hw := C.1.wf) (hst := hst)).mono (fun x M2 h => ?_)
  obtain ⟨n, r, hw, hx⟩ := h
  exact c_skater C (wv2 (by decide) hw) hx
theorem t_tryElement (l : Launch) {O : sk_O} (hO : sk_inj O) (hst : l.stackTraces = false) {M : sk_M} {k : Nat} {S : rl_T} (C : rl_C M k S) (hk : sk_isX O k) (s : Int32) (e : Int32) (v : Int32) : sk_K l yL_tryElement (Cond.codeWith yL_tryElement cL_tryElement 5 (some .int) [(0, 7, 8, 13), (0, 7, 13, 16)] :: sk_tb) ({ frames := 7, cells := 1, slots := 6, locals := 132 }) O [.ref (sk_ad O k), .int s, .int e, .int v] M 1 (fun x M2 => x = cx (er_2 (mo_he S.r s e) (¬ v < 0 ∧ ¬ 8 < v)) (mo_el S.r s.toNatClampNeg e.toNatClampNeg v) (-9999001) (-9999002) 0 ∧ rl_J k M S M2) := by
  obtain ⟨o, H⟩ := C.2.1
  refine (g_L_tryElement l hO M (k := k) (s := s) (e := e) (w := v) (hk := hk) (hw := C.1.wf) (hst := hst)).mono (fun x M2 h => ?_)
  obtain ⟨n, r, hw, hx⟩ := h
  exact c_element C (wv2 (by decide) hw) hx
theorem t_trySetting (l : Launch) {O : sk_O} (hO : sk_inj O) (hst : l.stackTraces = false) {M : sk_M} {k : Nat} {S : rl_T} (C : rl_C M k S) (hk : sk_isX O k) (v : Int32) : sk_K l yL_trySetting (Cond.codeWith yL_trySetting cL_trySetting 3 (some .int) [(0, 5, 6, 16)] :: sk_tb) ({ frames := 7, cells := 1, slots := 6, locals := 103 }) O [.ref (sk_ad O k), .int v] M 1 (fun x M2 => x = cx (er_1 (¬ v < 0 ∧ ¬ 5 ≤ v)) (S.r (1 + v.toNatClampNeg)) (-9999002) 0 0 ∧ rl_J k M S M2) := by
  obtain ⟨o, H⟩ := C.2.1
  refine (g_L_trySetting l hO M (k := k) (w := v) (hk := hk) (hst := hst)).mono (fun x M2 h => ?_)
  obtain ⟨n, r, hw, hx⟩ := h
  exact c_setting C (wv1 hw) hx
theorem t_tryAdd (l : Launch) {O : sk_O} (hO : sk_inj O) (hst : l.stackTraces = false) {M : sk_M} {k : Nat} {S : rl_T} (C : rl_C M k S) (hk : sk_isX O k)  : sk_K l yL_tryAdd (Cond.codeWith yL_tryAdd cL_tryAdd 2 (some .int) [(0, 4, 5, 22)] :: sk_tb) ({ frames := 7, cells := 1, slots := 6, locals := 166 }) O [.ref (sk_ad O k)] M 1 (fun x M2 => x = cx (er_1 (S.m < 4)) (nI S.m) (-9999003) 0 0 ∧ rl_J k M (cs (er_1 (S.m < 4)) (a_ad S) S) M2) := by
  obtain ⟨o, H⟩ := C.2.1
  refine (g_L_tryAdd l hO M (k := k) (m := S.m) (hk := hk) (hm := C.1.2.1) (hm4 := C.1.1) (o := o) (c := S.c) (ho := H.2.1) (hc := H.2.2.1) (ho14 := H.1) (hc14 := H.2.2.2.1) (hw := C.1.wf) (hst := hst)).mono (fun x M2 h => ?_)
  obtain ⟨n, r, hw, hx⟩ := h
  exact c_add C H (wv1 hw) hx
theorem t_tryProgram (l : Launch) {O : sk_O} (hO : sk_inj O) (hst : l.stackTraces = false) {M : sk_M} {k : Nat} {S : rl_T} (C : rl_C M k S) (hk : sk_isX O k) (s : Int32) : sk_K l yL_tryProgram (Cond.codeWith yL_tryProgram cL_tryProgram 3 (some .int) [(0, 5, 6, 13), (0, 5, 10, 22)] :: sk_tb) ({ frames := 7, cells := 1, slots := 6, locals := 167 }) O [.ref (sk_ad O k), .int s] M 1 (fun x M2 => x = cx (er_2 (mo_hs S.r s) (a_ok S = true)) (nI (a_L S).length) (-9999001) (-9999003) 0 ∧ rl_J k M (cs (er_2 (mo_hs S.r s) (a_ok S = true)) (a_pr S s) S) M2) := by
  obtain ⟨o, H⟩ := C.2.1
  refine (g_L_tryProgram l hO M (k := k) (n := S.n) (s := s) (hk := hk) (hn := C.2.2.2.2.1) (hn2 := C.2.2.2.1) (o := o) (c := S.c) (ho := H.2.1) (hc := H.2.2.1) (ho14 := H.1) (hc14 := H.2.2.2.1) (hw := C.1.wf) (hst := hst)).mono (fun x M2 h => ?_)
  obtain ⟨n, r, hw, hx⟩ := h
  exact c_program C H hw hx
theorem t_tryMark (l : Launch) {O : sk_O} (hO : sk_inj O) (hst : l.stackTraces = false) {M : sk_M} {k : Nat} {S : rl_T} (C : rl_C M k S) (hk : sk_isX O k) (s : Int32) (e : Int32) (v : Int32) : sk_K l yL_tryMark (Cond.codeWith yL_tryMark cL_tryMark 5 (some .int) [(0, 7, 8, 13), (0, 7, 13, 16)] :: sk_tb) ({ frames := 7, cells := 1, slots := 6, locals := 169 }) O [.ref (sk_ad O k), .int s, .int e, .int v] M 1 (fun x M2 => x = cx (er_2 (mo_he S.r s e) (¬ v < 0 ∧ ¬ 161050 < v)) (x_kn v) (-9999001) (-9999002) 0 ∧ rl_J k M (cs (er_2 (mo_he S.r s e) (¬ v < 0 ∧ ¬ 161050 < v)) (a_mk S s e v) S) M2) := by
  obtain ⟨o, H⟩ := C.2.1
  refine (g_L_tryMark l hO M (k := k) (s := s) (e := e) (v := v) (hk := hk) (o := o) (c := S.c) (ho := H.2.1) (hc := H.2.2.1) (ho14 := H.1) (hc14 := H.2.2.2.1) (hw := C.1.wf) (hst := hst)).mono (fun x M2 h => ?_)
  obtain ⟨n, r, hw, hx⟩ := h
  exact c_mark C H (wv2 (by decide) hw) hx
theorem t_tryComponent (l : Launch) {O : sk_O} (hO : sk_inj O) (hst : l.stackTraces = false) {M : sk_M} {k : Nat} {S : rl_T} (C : rl_C M k S) (hk : sk_isX O k) (s : Int32) (j : Int32) (v : Int32) : sk_K l yL_tryComponent (Cond.codeWith yL_tryComponent cL_tryComponent 5 (some .int) [(0, 7, 8, 13), (0, 7, 13, 16)] :: sk_tb) ({ frames := 7, cells := 1, slots := 6, locals := 169 }) O [.ref (sk_ad O k), .int s, .int j, .int v] M 1 (fun x M2 => x = cx (er_2 (mo_hs S.r s ∧ ¬ j < 0 ∧ ¬ 3 ≤ j) (¬ v < 0 ∧ ¬ 115856200 < v)) (x_cn v) (-9999001) (-9999002) 0 ∧ rl_J k M (cs (er_2 (mo_hs S.r s ∧ ¬ j < 0 ∧ ¬ 3 ≤ j) (¬ v < 0 ∧ ¬ 115856200 < v)) (a_co S s j v) S) M2) := by
  obtain ⟨o, H⟩ := C.2.1
  refine (g_L_tryComponent l hO M (k := k) (s := s) (j := j) (v := v) (hk := hk) (o := o) (c := S.c) (ho := H.2.1) (hc := H.2.2.1) (ho14 := H.1) (hc14 := H.2.2.2.1) (hw := C.1.wf) (hst := hst)).mono (fun x M2 h => ?_)
  obtain ⟨n, r, hw, hx⟩ := h
  exact c_component C H (wv2 (by decide) hw) hx
theorem t_tryPenalty (l : Launch) {O : sk_O} (hO : sk_inj O) (hst : l.stackTraces = false) {M : sk_M} {k : Nat} {S : rl_T} (C : rl_C M k S) (hk : sk_isX O k) (s : Int32) (v : Int32) : sk_K l yL_tryPenalty (Cond.codeWith yL_tryPenalty cL_tryPenalty 4 (some .int) [(0, 6, 7, 13), (0, 6, 11, 16)] :: sk_tb) ({ frames := 7, cells := 1, slots := 6, locals := 168 }) O [.ref (sk_ad O k), .int s, .int v] M 1 (fun x M2 => x = cx (er_2 (mo_hs S.r s) (¬ v < 0 ∧ ¬ 9 < v)) (S.r (6 + 233 * s.toNatClampNeg + 1)) (-9999001) (-9999002) 0 ∧ rl_J k M (cs (er_2 (mo_hs S.r s) (¬ v < 0 ∧ ¬ 9 < v)) (a_pe S s v) S) M2) := by
  obtain ⟨o, H⟩ := C.2.1
  refine (g_L_tryPenalty l hO M (k := k) (s := s) (v := v) (hk := hk) (o := o) (c := S.c) (ho := H.2.1) (hc := H.2.2.1) (ho14 := H.1) (hc14 := H.2.2.2.1) (hw := C.1.wf) (hst := hst)).mono (fun x M2 h => ?_)
  obtain ⟨n, r, hw, hx⟩ := h
  exact c_penalty C H (wv2 (by decide) hw) hx
theorem t_tryLay (l : Launch) {O : sk_O} (hO : sk_inj O) (hst : l.stackTraces = false) {M : sk_M} {k : Nat} {S : rl_T} (C : rl_C M k S) (hk : sk_isX O k) (a : Int32) (v : Int32) : sk_K l yL_tryLay (Cond.codeWith yL_tryLay cL_tryLay 4 (some .int) [(0, 6, 7, 16)] :: sk_tb) ({ frames := 7, cells := 1, slots := 6, locals := 168 }) O [.ref (sk_ad O k), .int a, .int v] M 1 (fun x M2 => x = cx (er_1 (st_fi a v)) (S.r (1 + a.toNatClampNeg)) (-9999002) 0 0 ∧ rl_J k M (cs (er_1 (st_fi a v)) (a_se S a v) S) M2) := by
  obtain ⟨o, H⟩ := C.2.1
  refine (g_L_tryLay l hO M (k := k) (w := a) (v := v) (hk := hk) (o := o) (c := S.c) (ho := H.2.1) (hc := H.2.2.1) (ho14 := H.1) (hc14 := H.2.2.2.1) (hw := C.1.wf) (hst := hst)).mono (fun x M2 h => ?_)
  obtain ⟨n, r, hw, hx⟩ := h
  exact c_set C H (wv1 hw) hx
theorem t_tryUndo (l : Launch) {O : sk_O} (hO : sk_inj O) (hst : l.stackTraces = false) {M : sk_M} {k : Nat} {S : rl_T} (C : rl_C M k S) (hk : sk_isX O k)  : sk_K l yL_tryUndo (Cond.codeWith yL_tryUndo cL_tryUndo 2 (some .int) [(0, 4, 5, 22)] :: sk_tb) ({ frames := 7, cells := 1, slots := 6, locals := 165 }) O [.ref (sk_ad O k)] M 1 (fun x M2 => x = cx (er_1 (0 < S.c)) (nI (S.c - 1)) (-9999003) 0 0 ∧ rl_J k M (cs (er_1 (0 < S.c)) (a_un S) S) M2) := by
  obtain ⟨o, H⟩ := C.2.1
  have hwb : S.c = 0 ∨ st_wf M (hs_at (k + 44) ((o + (S.c - 1)) % 14)) := by
    by_cases z : S.c = 0
    · exact Or.inl z
    · obtain ⟨m, R⟩ := H.2.2.2.2 (S.c - 1) (by omega)
      exact Or.inr R.wf
  refine (g_L_tryUndo l hO M (k := k) (hk := hk) (o := o) (c := S.c) (ho := H.2.1) (hc := H.2.2.1) (ho14 := H.1) (hc14 := H.2.2.2.1) (hwb := hwb) (hst := hst)).mono (fun x M2 h => ?_)
  obtain ⟨n, r, hw, hx⟩ := h
  exact c_undo C H (wvu hw) hx
theorem t_tryReplaced (l : Launch) {O : sk_O} (hO : sk_inj O) (hst : l.stackTraces = false) {M : sk_M} {k : Nat} {S : rl_T} (C : rl_C M k S) (hk : sk_isX O k) (s : Int32) (e : Int32) (hr : ¬ mo_he S.r s e) : sk_K l yL_tryReplaced (Cond.codeWith yL_tryReplaced cL_tryReplaced 4 (some .int) [(0, 6, 7, 13), (0, 6, 11, 22)] :: sk_tb) ({ frames := 7, cells := 1, slots := 6, locals := 155 }) O [.ref (sk_ad O k), .int s, .int e] M 1 (fun x M2 => x = -9999001 ∧ rl_J k M S M2) := by
  obtain ⟨o, H⟩ := C.2.1
  refine (g_L_tryReplaced l hO M (k := k) (n := S.n) (s := s) (e := e) (hk := hk) (hn := C.2.2.2.2.1) (hn2 := C.2.2.2.1) (hw := C.1.wf) (hst := hst)).mono (fun x M2 h => ?_)
  obtain ⟨n, r, hw, hx⟩ := h
  exact c_ifReplaced C hw hx hr
theorem t_trySwap (l : Launch) {O : sk_O} (hO : sk_inj O) (hst : l.stackTraces = false) {M : sk_M} {k : Nat} {S : rl_T} (C : rl_C M k S) (hk : sk_isX O k) (s : Int32) (v : Int32) : sk_K l yL_trySwap (Cond.codeWith yL_trySwap cL_trySwap 4 (some .int) [(0, 6, 7, 13), (0, 6, 11, 16)] :: sk_tb) ({ frames := 7, cells := 1, slots := 6, locals := 160 }) O [.ref (sk_ad O k), .int s, .int v] M 1 (fun x M2 => x = cx (er_2 (mo_hs S.r s) (¬ v < 0 ∧ ¬ 2 < v)) (a_bs S.r s.toNatClampNeg v) (-9999001) (-9999002) 0 ∧ rl_J k M S M2) := by
  obtain ⟨o, H⟩ := C.2.1
  refine (g_L_trySwap l hO M (k := k) (s := s) (w := v) (hk := hk) (hw := C.1.wf) (hst := hst)).mono (fun x M2 h => ?_)
  obtain ⟨n, r, hw, hx⟩ := h
  exact c_bestSwap C (wv2 (by decide) hw) hx
theorem t_tryNeeds (l : Launch) {O : sk_O} (hO : sk_inj O) (hst : l.stackTraces = false) {M : sk_M} {k : Nat} {S : rl_T} (C : rl_C M k S) (hk : sk_isX O k) (s : Int32) (e : Int32) : sk_K l yL_tryNeeds (Cond.codeWith yL_tryNeeds cL_tryNeeds 4 (some .int) [(0, 6, 7, 13)] :: sk_tb) ({ frames := 7, cells := 1, slots := 6, locals := 158 }) O [.ref (sk_ad O k), .int s, .int e] M 1 (fun x M2 => a_nd S s e x ∧ rl_J k M S M2) := by
  obtain ⟨o, H⟩ := C.2.1
  refine (g_L_tryNeeds l hO M (k := k) (s := s) (e := e) (hk := hk) (hw := C.1.wf) (hst := hst)).mono (fun x M2 h => ?_)
  obtain ⟨n, r, hw, hx⟩ := h
  exact c_needs C hw hx
theorem t_tryBehind (l : Launch) {O : sk_O} (hO : sk_inj O) (hst : l.stackTraces = false) {M : sk_M} {k : Nat} {S : rl_T} (C : rl_C M k S) (hk : sk_isX O k) (s : Int32) : sk_K l yL_tryBehind (Cond.codeWith yL_tryBehind cL_tryBehind 3 (some .int) [(0, 5, 6, 13)] :: sk_tb) ({ frames := 7, cells := 1, slots := 6, locals := 153 }) O [.ref (sk_ad O k), .int s] M 1 (fun x M2 => x = cx (er_1 (mo_hs S.r s)) (mo_T S.r (mo_w (mo_T S.r) (mo_S S.r) S.m) - mo_T S.r s.toNatClampNeg) (-9999001) 0 0 ∧ rl_J k M S M2) := by
  obtain ⟨o, H⟩ := C.2.1
  refine (g_L_tryBehind l hO M (k := k) (s := s) (hk := hk) (hw := C.1.wf) (hst := hst)).mono (fun x M2 h => ?_)
  obtain ⟨n, r, hw, hx⟩ := h
  exact c_behind C (wv1 hw) hx
theorem t_tryKeep (l : Launch) {O : sk_O} (hO : sk_inj O) (hst : l.stackTraces = false) {M : sk_M} {k : Nat} {S : rl_T} (C : rl_C M k S) (hk : sk_isX O k) (j : Int32) : sk_K l yL_tryKeep (Cond.codeWith yL_tryKeep cL_tryKeep 3 (some .int) [(0, 5, 6, 13)] :: sk_tb) ({ frames := 7, cells := 1, slots := 6, locals := 145 }) O [.ref (sk_ad O k), .int j] M 1 (fun x M2 => x = cx (er_1 (¬ j < 0 ∧ ¬ 2 ≤ j)) (S.r 0) (-9999001) 0 0 ∧ rl_J k M (cs (er_1 (¬ j < 0 ∧ ¬ 2 ≤ j)) (a_sv S j) S) M2) := by
  obtain ⟨o, H⟩ := C.2.1
  refine (g_L_tryKeep l hO M (k := k) (j := j) (hk := hk) (hw := C.1.wf) (hst := hst)).mono (fun x M2 h => ?_)
  obtain ⟨n, r, hw, hx⟩ := h
  exact c_save C (wv1 hw) hx
theorem t_tryBack (l : Launch) {O : sk_O} (hO : sk_inj O) (hst : l.stackTraces = false) {M : sk_M} {k : Nat} {S : rl_T} (C : rl_C M k S) (hk : sk_isX O k) (j : Int32) : sk_K l yL_tryBack (Cond.codeWith yL_tryBack cL_tryBack 3 (some .int) [(0, 5, 6, 13), (0, 5, 10, 22)] :: sk_tb) ({ frames := 7, cells := 1, slots := 6, locals := 145 }) O [.ref (sk_ad O k), .int j] M 1 (fun x M2 => x = cx (er_2 (¬ j < 0 ∧ ¬ 2 ≤ j) (¬ S.v j.toNatClampNeg = 0)) (S.q (938 * j.toNatClampNeg)) (-9999001) (-9999003) 0 ∧ rl_J k M (cs (er_2 (¬ j < 0 ∧ ¬ 2 ≤ j) (¬ S.v j.toNatClampNeg = 0)) (a_rs S j) S) M2) := by
  obtain ⟨o, H⟩ := C.2.1
  have hwj : ¬ j < 0 → ¬ 2 ≤ j → M (k + 735) j.toNatClampNeg = 0 ∨ st_wf M (k + 649 + 43 * j.toNatClampNeg) := fun z1 z2 => by
    obtain ⟨v1, v2⟩ := C.2.2.1 _ (t_2 ⟨z1, z2⟩)
    exact v2.imp (fun z => v1.trans z) (fun ⟨m, R⟩ => R.wf)
  refine (g_L_tryBack l hO M (k := k) (j := j) (hk := hk) (hwj := hwj) (hst := hst)).mono (fun x M2 h => ?_)
  obtain ⟨n, r, hw, hx⟩ := h
  exact c_restore C (wv2 (by decide) hw) hx
