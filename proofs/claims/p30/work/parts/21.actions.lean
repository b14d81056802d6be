/-! SkateSheet: further actions -/
theorem st_wf_d {M M' : sk_M} {f : Nat} (h0 : M' f = M f) (h : ∀ j, j < 4 → M' (f + 3 + 10 * j) = M (f + 3 + 10 * j) ∧ M' (f + 3 + 10 * j + 2) = M (f + 3 + 10 * j + 2)) (hw : st_wf M f) : st_wf M' f := by
  obtain ⟨m, hm4, hm, hj⟩ := hw
  exact ⟨m, hm4, by rw [h0]; exact hm, fun j hj4 => pg_wf_c (h j (by omega)).1 (h j (by omega)).2 (hj j hj4)⟩
theorem st_wf_m {M : sk_M} {f n d j : Nat} {v : Int32} (hd : d ≠ 0 ∧ d ≠ 2 ∧ d < 10) (hw : st_wf M f) : st_wf (sk_ms M (f + 3 + 10 * n + d) j v) f :=
  st_wf_d (sk_nf (by omega)) (fun i _ => ⟨sk_nf (by omega), sk_nf (by omega)⟩) hw
theorem st_wf_i {M N : sk_M} {f : Nat} {P : Prop} [Decidable P] (h1 : st_wf N f) (h2 : st_wf M f) : st_wf (if P then N else M) f := by split <;> assumption
theorem sk_Sr.same {u U : State} (hv : U.vm = u.vm) (h : sk_Sr u) : sk_Sr U := by
  refine ⟨fun q hq => ?_, fun w hw => ?_⟩
  · obtain ⟨a, ha⟩ := h.1 q hq
    exact ⟨a, vk_R.same hv ha⟩
  · have hk := sk_ng_ok w hw
    rw [Bool.and_eq_true] at hk
    exact va_tabs (u := u) (U := U) hk.2 hv.symm (h.2 w hw)
theorem sk_blindX {O : sk_O} {M : sk_M} {sz : Nat} {as : List Value} : FrameBlind (sk_Px O M sz as) := by
  intro a U g mk q
  obtain ⟨q0, q1, ⟨qP, qK⟩, qZ, qS⟩ := q
  exact ⟨q0, q1, ⟨qP, va_K.moved (u := U) (U := U.calling g mk a) (Vm.Alike.refl U.vm) qK⟩, qZ.go (u := U) (U := U.calling g mk a) (Vm.Alike.refl U.vm) (fun _ _ _ => rfl) (fun _ h => h), sk_Sr.same (u := U) (U := U.calling g mk a) rfl qS⟩
theorem k_xv {l : Launch} {X : sk_X} {cc : ByteArray} {nL : Nat} {own : String} {rm : Room} {O : sk_O} {A : Nat → Prop} {Q : State → Prop} {kc ks : Nat} {M : sk_M} {pc : Nat} {lv : List (Nat × Value)} {st : List Value} (C : sk_C X cc nL own rm O A) (hSr : sk_Sr (sk_s X)) {y : MethodName} {ccY : ByteArray} {maxL idx n k ci N : Nat} {rmY : Room} {r : Nat → Option Nat} {as st0 : List Value} {post : sk_M → Prop} {xpost : String → sk_M → Prop} (hy : sk_yv y ccY maxL none n) (hv : Cond.instanceMethod y ∈ sk_tb ∧ Cond.selects y.cls y y ∈ sk_tb) (hl : Cond.methodLink own idx y ∈ sk_tb) (hM : sk_Xv l y (sk_w y ccY maxL none) rmY O (.ref (sk_ad O k) :: as) M post xpost) (ho : sk_is O k (ci + 4, N, r)) (hcl : (vwCl[ci]?).map (fun q => q.1) = some y.cls) (hn : as.length = n) (hst : st0 = as.reverse ++ .ref (sk_ad O k) :: st) (hcat : (st.map fun v => v.category).sum ≤ 8) (hR : (rmY.frames + 1 ≤ rm.frames ∧ 8 + (maxL + 11) + rmY.locals ≤ rm.locals) ∧ kc + 1 ≤ rm.cells ∧ ks + 6 ≤ rm.slots) (d : decode cc pc = .ok (.invokevirtual idx, 3)) (KX : ∀ (E : String) (M' : sk_M), xpost E M' → sk_V l X O A Q nL (kc + 1) (ks + 6) M' pc lv st E) (K : ∀ (M' : sk_M), post M' → sk_W l X O A Q nL (kc + 1) (ks + 6) M' (pc + 3) lv st) : sk_W l X O A Q nL kc ks M pc lv st0 := by
  intro H locs ls hP hS hl0
  have hF := sk_Ax C.2.2.2.2.1 C.2.2.2.2.2.1 hS.1
  refine vx_callv (vx_runV (C := y.cls) (As := as) (rest := st) C.1 (hM.2.2 H.size) ⟨sk_cb C hy hl ⟨hM.1, hM.2.1⟩ hR.1, C.1.2.2.2.2 _ hv.1, C.1.2.2.2.2 _ hv.2⟩ ⟨sk_blindX, sk_rcv C hP ho hcl, fun U hU hW => ⟨(sk_pre C hP hS U hU hW).1, (sk_pre (as := .ref (sk_ad O k) :: as) C hP hS U hU hW).2.1, (sk_pre (as := .ref (sk_ad O k) :: as) C hP hS U hU hW).2.2.1, (sk_pre (as := .ref (sk_ad O k) :: as) C hP hS U hU hW).2.2.2, hSr.warm hW⟩⟩ rfl hn hl0.1 hst (lv_room hcat) d ⟨by rw [C.2.1]; exact hR.2.1, by rw [C.2.1]; exact hR.2.2⟩) hS (fun q _ h => hF q h) hF (fun q _ h => hF q h) (fun E ce q9 u t H1 locs1 ht hvm hpx hBX hz hk hS1 hq hvn hcls => ?_) (fun u t H1 locs1 ht hvm hw hB hz1 hk1 hS1 => ?_)
  · exact KX E u hBX.1 H1 locs1 ls ce q9 (by rw [← ht]; exact hBX.2.1) hS1 hl0 hq hvn hcls
  · exact K u hw H1 locs1 ls (by rw [← ht]; exact hB.1) hS1 hl0
abbrev x_ck (M : sk_M) (t : Nat) (s e p v : Int32) : Nat := er_3 (st_hp M t s e p) (¬ v < 0 ∧ ¬ 3 < v) (M (st_pg t s + 1) e.toNatClampNeg = 0 ∧ (¬ v = 3 ∨ M (st_pg t s + 6) (3 * e.toNatClampNeg + p.toNatClampNeg) = 3 ∨ M (st_pg t s + 6) (3 * e.toNatClampNeg + p.toNatClampNeg) = 4))
set_option maxHeartbeats 4000000 in
set_option maxRecDepth 100000 in
theorem m_X7_review (l : Launch) {O : sk_O} (hO : sk_inj O) (M : sk_M) (k : Nat) (s e b : Int32) (hk : sk_isX O k) (o c : Nat) (ho : M (k + 44) 1 = nI o) (hc : M (k + 44) 2 = nI c) (ho14 : o < 14) (hc14 : c ≤ 14) (hw : st_wf M (k + 1)) (hst : l.stackTraces = false) : sk_Xi l yX7_review (sk_w yX7_review cX7_review 4 (some .int)) ({ frames := 6, cells := 1, slots := 6, locals := 145 }) O [.ref (sk_ad O k), .int s, .int e, .int b] M (fun r M' => (er_1 (st_he M (k + 1) s e)) = 0 ∧ r = (st_rv (if st_he (x_re M k o c) (k + 1) s e then sk_ms (x_re M k o c) (st_pg (k + 1) s + 5) e.toNatClampNeg (if b = 0 then 0 else 1) else x_re M k o c) (k + 1)) ∧ M' = (if st_he (x_re M k o c) (k + 1) s e then sk_ms (x_re M k o c) (st_pg (k + 1) s + 5) e.toNatClampNeg (if b = 0 then 0 else 1) else x_re M k o c)) (fun E M' => ((er_1 (st_he M (k + 1) s e)) = 1 ∧ E = "java/lang/IndexOutOfBoundsException") ∧ M' = M) := by
  refine sk_xi hst (by decide) rfl ⟨rfl, rfl⟩ hO (Nat.le_of_ble_eq_true rfl) (fun X A Q C hSr ret thr out => ?_)
  show sk_W l X O A Q 4 0 0 M 0 [(0, .ref (sk_ad O k)), (1, .int s), (2, .int e), (3, .int b)] []
  have hw2 : st_wf (x_re M k o c) (k + 1) := st_wf_c (fun a h1 h2 => hs_re_f ho14 hc14 hw (by omega) (by omega)) hw
  obtain ⟨m, hm4, hm, hmj⟩ := id hw
  refine k_aloadn C 0 dX7_review_0 rfl ?_
  refine k_getr C (j := 0) (k' := k + 1) kcl_X7 fl_X7_10 hk.1 (by decide) rfl dX7_review_1 ?_
  refine k_iloadn C 1 dX7_review_4 rfl ?_
  refine k_iloadn C 2 dX7_review_5 rfl ?_
  refine k_vi C (as := [.int s, .int e]) yvX5_hasElement viX5_hasElement ml_X7_166 (m_X5_hasElement l C.2.2.2.1 M (k := k + 1) (hk := hk.2.1) (hw := hw) (s := s) (e := e)) hk.2.1.1 rfl rfl rfl (Nat.le_of_ble_eq_true rfl) (by decide) dX7_review_6 (fun x6_1 M6_1 h6_1 => ?_)
  rw [h6_1.1, h6_1.2]
  refine k_zne C 22 dX7_review_9 (by decide) (fun c9_2 => ?_) (fun c9_2 => ?_)
  ·
    have nc9_2 : st_he M (k + 1) s e := Classical.byContradiction (fun h => c9_2 (sk_b1.mpr h))
    obtain ⟨ix, ib⟩ := sk_ix nc9_2.1 hm (by omega)
    refine k_aloadn C 0 dX7_review_22 rfl ?_
    refine k_getr C (j := 1) (k' := k + 44) kcl_X7 fl_X7_19 hk.1 (by decide) rfl dX7_review_23 ?_
    refine k_aloadn C 0 dX7_review_26 rfl ?_
    refine k_getr C (j := 0) (k' := k + 1) kcl_X7 fl_X7_10 hk.1 (by decide) rfl dX7_review_27 ?_
    refine k_vv C (as := [.ref (sk_ad O (k + 1))]) yvX1_remember viX1_remember ml_X7_223 (m_X1_remember l C.2.2.2.1 M (h := k + 44) (f := k + 1) (o := o) (c := c) (hh := hk.2.2.1) (hf := hk.2.1) (ho := ho) (hc := hc) (ho14 := ho14) (hc14 := hc14) (hw := hw) (hap := (by omega))) hk.2.2.1.1 rfl rfl rfl (Nat.le_of_ble_eq_true rfl) (by decide) dX7_review_30 (fun M30_3 h30_3 => ?_)
    rw [h30_3]
    refine k_aloadn C 0 dX7_review_33 rfl ?_
    refine k_getr C (j := 0) (k' := k + 1) kcl_X7 fl_X7_10 hk.1 (by decide) rfl dX7_review_34 ?_
    refine k_iloadn C 1 dX7_review_37 rfl ?_
    refine k_iloadn C 2 dX7_review_38 rfl ?_
    refine k_iloadn C 3 dX7_review_39 rfl ?_
    have J48 : sk_W l X O A Q 4 0 0 (x_re M k o c) 48 [(0, .ref (sk_ad O k)), (1, .int s), (2, .int e), (3, .int b)] [.int (if b = 0 then 0 else 1), .int e, .int s, .ref (sk_ad O (k + 1))] := by
      refine k_vi C (as := [.int s, .int e, .int (if b = 0 then 0 else 1)]) yvX5_putReview viX5_putReview ml_X7_265 (m_X5_putReview l C.2.2.2.1 (x_re M k o c) (k := k + 1) (hk := hk.2.1) (hw := hw2) (s := s) (e := e) (v := if b = 0 then 0 else 1)) hk.2.1.1 rfl rfl rfl (Nat.le_of_ble_eq_true rfl) (by decide) dX7_review_48 (fun x48_4 M48_4 h48_4 => ?_)
      rw [h48_4.1, h48_4.2]
      refine k_pop C dX7_review_51 rfl ?_
      refine k_aloadn C 0 dX7_review_52 rfl ?_
      refine k_getr C (j := 0) (k' := k + 1) kcl_X7 fl_X7_10 hk.1 (by decide) rfl dX7_review_53 ?_
      refine k_vi C (as := []) yvX5_reviewed viX5_reviewed ml_X7_102 (m_X5_reviewed l C.2.2.2.1 (if st_he (x_re M k o c) (k + 1) s e then sk_ms (x_re M k o c) (st_pg (k + 1) s + 5) e.toNatClampNeg (if b = 0 then 0 else 1) else (x_re M k o c)) (k := k + 1) (hk := hk.2.1) (hw := (st_wf_i (st_wf_m (by decide) hw2) hw2))) hk.2.1.1 rfl rfl rfl (Nat.le_of_ble_eq_true rfl) (by decide) dX7_review_56 (fun x56_5 M56_5 h56_5 => ?_)
      rw [h56_5.1, h56_5.2]
      refine ret _ _ _ _ _ _ (by decide) (by decide) dX7_review_59 rfl ?_
      exact ⟨er1p nc9_2, rfl, rfl⟩
    refine k_zeq C 47 dX7_review_40 (by decide) (fun c40_6 => ?_) (fun c40_6 => ?_)
    ·
      refine k_iconst C (0) dX7_review_47 (by decide) ?_
      exact k_eq rfl rfl rfl (by rw [if_pos c40_6]) J48
    ·
      refine k_iconst C (1) dX7_review_43 (by decide) ?_
      refine k_goto C 48 dX7_review_44 (by decide) ?_
      exact k_eq rfl rfl rfl (by rw [if_neg c40_6]) J48
  ·
    have nc9_2 : ¬ (st_he M (k + 1) s e) := sk_b1.mp c9_2
    refine thr "java/lang/IndexOutOfBoundsException" "no such skater or element" 126 170 130 _ _ _ xw_IndexOutOfBoundsException (by decide +kernel) (by decide) dX7_review_12 dX7_review_15 (Or.inl ⟨dX7_review_16, dX7_review_18, dX7_review_21⟩) ?_
    refine ⟨⟨?_, rfl⟩, rfl⟩
    exact er1n nc9_2

set_option maxHeartbeats 4000000 in
set_option maxRecDepth 100000 in
theorem m_X7_fall (l : Launch) {O : sk_O} (hO : sk_inj O) (M : sk_M) (k : Nat) (s e b : Int32) (hk : sk_isX O k) (o c : Nat) (ho : M (k + 44) 1 = nI o) (hc : M (k + 44) 2 = nI c) (ho14 : o < 14) (hc14 : c ≤ 14) (hw : st_wf M (k + 1)) (hst : l.stackTraces = false) : sk_Xi l yX7_fall (sk_w yX7_fall cX7_fall 4 (some .int)) ({ frames := 6, cells := 1, slots := 6, locals := 145 }) O [.ref (sk_ad O k), .int s, .int e, .int b] M (fun r M' => (er_1 (st_he M (k + 1) s e)) = 0 ∧ r = (sk_sum ((if st_he (x_re M k o c) (k + 1) s e then sk_ms (x_re M k o c) (st_pg (k + 1) s + 4) e.toNatClampNeg (if b = 0 then 0 else 1) else x_re M k o c) (st_pg (k + 1) s + 4)) (pg_n (if st_he (x_re M k o c) (k + 1) s e then sk_ms (x_re M k o c) (st_pg (k + 1) s + 4) e.toNatClampNeg (if b = 0 then 0 else 1) else x_re M k o c) (st_pg (k + 1) s))) ∧ M' = (if st_he (x_re M k o c) (k + 1) s e then sk_ms (x_re M k o c) (st_pg (k + 1) s + 4) e.toNatClampNeg (if b = 0 then 0 else 1) else x_re M k o c)) (fun E M' => ((er_1 (st_he M (k + 1) s e)) = 1 ∧ E = "java/lang/IndexOutOfBoundsException") ∧ M' = M) := by
  refine sk_xi hst (by decide) rfl ⟨rfl, rfl⟩ hO (Nat.le_of_ble_eq_true rfl) (fun X A Q C hSr ret thr out => ?_)
  show sk_W l X O A Q 4 0 0 M 0 [(0, .ref (sk_ad O k)), (1, .int s), (2, .int e), (3, .int b)] []
  have hw2 : st_wf (x_re M k o c) (k + 1) := st_wf_c (fun a h1 h2 => hs_re_f ho14 hc14 hw (by omega) (by omega)) hw
  obtain ⟨m, hm4, hm, hmj⟩ := id hw
  refine k_aloadn C 0 dX7_fall_0 rfl ?_
  refine k_getr C (j := 0) (k' := k + 1) kcl_X7 fl_X7_10 hk.1 (by decide) rfl dX7_fall_1 ?_
  refine k_iloadn C 1 dX7_fall_4 rfl ?_
  refine k_iloadn C 2 dX7_fall_5 rfl ?_
  refine k_vi C (as := [.int s, .int e]) yvX5_hasElement viX5_hasElement ml_X7_166 (m_X5_hasElement l C.2.2.2.1 M (k := k + 1) (hk := hk.2.1) (hw := hw) (s := s) (e := e)) hk.2.1.1 rfl rfl rfl (Nat.le_of_ble_eq_true rfl) (by decide) dX7_fall_6 (fun x6_1 M6_1 h6_1 => ?_)
  rw [h6_1.1, h6_1.2]
  refine k_zne C 22 dX7_fall_9 (by decide) (fun c9_2 => ?_) (fun c9_2 => ?_)
  ·
    have nc9_2 : st_he M (k + 1) s e := Classical.byContradiction (fun h => c9_2 (sk_b1.mpr h))
    obtain ⟨ix, ib⟩ := sk_ix nc9_2.1 hm (by omega)
    refine k_aloadn C 0 dX7_fall_22 rfl ?_
    refine k_getr C (j := 1) (k' := k + 44) kcl_X7 fl_X7_19 hk.1 (by decide) rfl dX7_fall_23 ?_
    refine k_aloadn C 0 dX7_fall_26 rfl ?_
    refine k_getr C (j := 0) (k' := k + 1) kcl_X7 fl_X7_10 hk.1 (by decide) rfl dX7_fall_27 ?_
    refine k_vv C (as := [.ref (sk_ad O (k + 1))]) yvX1_remember viX1_remember ml_X7_223 (m_X1_remember l C.2.2.2.1 M (h := k + 44) (f := k + 1) (o := o) (c := c) (hh := hk.2.2.1) (hf := hk.2.1) (ho := ho) (hc := hc) (ho14 := ho14) (hc14 := hc14) (hw := hw) (hap := (by omega))) hk.2.2.1.1 rfl rfl rfl (Nat.le_of_ble_eq_true rfl) (by decide) dX7_fall_30 (fun M30_3 h30_3 => ?_)
    rw [h30_3]
    refine k_aloadn C 0 dX7_fall_33 rfl ?_
    refine k_getr C (j := 0) (k' := k + 1) kcl_X7 fl_X7_10 hk.1 (by decide) rfl dX7_fall_34 ?_
    refine k_iloadn C 1 dX7_fall_37 rfl ?_
    refine k_iloadn C 2 dX7_fall_38 rfl ?_
    refine k_iloadn C 3 dX7_fall_39 rfl ?_
    have J48 : sk_W l X O A Q 4 0 0 (x_re M k o c) 48 [(0, .ref (sk_ad O k)), (1, .int s), (2, .int e), (3, .int b)] [.int (if b = 0 then 0 else 1), .int e, .int s, .ref (sk_ad O (k + 1))] := by
      refine k_vi C (as := [.int s, .int e, .int (if b = 0 then 0 else 1)]) yvX5_putFall viX5_putFall ml_X7_268 (m_X5_putFall l C.2.2.2.1 (x_re M k o c) (k := k + 1) (hk := hk.2.1) (hw := hw2) (s := s) (e := e) (v := if b = 0 then 0 else 1)) hk.2.1.1 rfl rfl rfl (Nat.le_of_ble_eq_true rfl) (by decide) dX7_fall_48 (fun x48_4 M48_4 h48_4 => ?_)
      rw [h48_4.1, h48_4.2]
      refine k_pop C dX7_fall_51 rfl ?_
      refine k_aloadn C 0 dX7_fall_52 rfl ?_
      refine k_getr C (j := 0) (k' := k + 1) kcl_X7 fl_X7_10 hk.1 (by decide) rfl dX7_fall_53 ?_
      refine k_getr C (j := 0) (k' := k + 2) kcl_X5 fl_X7_133 hk.2.1.1 (by decide) rfl dX7_fall_56 ?_
      refine k_iloadn C 1 dX7_fall_59 rfl ?_
      refine k_aald C (k' := k + 1 + 3 + 10 * s.toNatClampNeg) s.toNatClampNeg ((hk.2.1.2.1).1) (by decide) ix (by omega) rfl dX7_fall_60 ?_
      obtain ⟨m2, hm24, hm2, hwj⟩ : st_wf (if st_he (x_re M k o c) (k + 1) s e then sk_ms (x_re M k o c) (st_pg (k + 1) s + 4) e.toNatClampNeg (if b = 0 then 0 else 1) else x_re M k o c) (k + 1) := (st_wf_i (st_wf_m (by decide) hw2) hw2)
      have ib2 : s.toNatClampNeg < m2 := by
        have h5 : (if st_he (x_re M k o c) (k + 1) s e then sk_ms (x_re M k o c) (st_pg (k + 1) s + 4) e.toNatClampNeg (if b = 0 then 0 else 1) else x_re M k o c) (k + 1) 2 = nI m := by
          split
          · rw [sk_ne (by unfold st_pg; omega), x_re, hs_re_f ho14 hc14 hw (by omega) (by omega)]; exact hm
          · rw [x_re, hs_re_f ho14 hc14 hw (by omega) (by omega)]; exact hm
        rw [h5] at hm2
        have := (nI_eq (by omega) (by omega)).mp hm2
        omega
      refine k_vi C (as := []) yvX2_fallen viX2_fallen ml_X7_164 (m_X2_fallen l C.2.2.2.1 (if st_he (x_re M k o c) (k + 1) s e then sk_ms (x_re M k o c) (st_pg (k + 1) s + 4) e.toNatClampNeg (if b = 0 then 0 else 1) else (x_re M k o c)) (k := k + 1 + 3 + 10 * s.toNatClampNeg) (hk := (hk.2.1.2.1).2 s.toNatClampNeg (by omega)) (hw := (hwj _ ib2))) ((hk.2.1.2.1).2 s.toNatClampNeg (by omega)).1 rfl rfl rfl (Nat.le_of_ble_eq_true rfl) (by decide) dX7_fall_61 (fun x61_5 M61_5 h61_5 => ?_)
      rw [h61_5.1, h61_5.2]
      refine ret _ _ _ _ _ _ (by decide) (by decide) dX7_fall_64 rfl ?_
      exact ⟨er1p nc9_2, rfl, rfl⟩
    refine k_zeq C 47 dX7_fall_40 (by decide) (fun c40_6 => ?_) (fun c40_6 => ?_)
    ·
      refine k_iconst C (0) dX7_fall_47 (by decide) ?_
      exact k_eq rfl rfl rfl (by rw [if_pos c40_6]) J48
    ·
      refine k_iconst C (1) dX7_fall_43 (by decide) ?_
      refine k_goto C 48 dX7_fall_44 (by decide) ?_
      exact k_eq rfl rfl rfl (by rw [if_neg c40_6]) J48
  ·
    have nc9_2 : ¬ (st_he M (k + 1) s e) := sk_b1.mp c9_2
    refine thr "java/lang/IndexOutOfBoundsException" "no such skater or element" 126 170 130 _ _ _ xw_IndexOutOfBoundsException (by decide +kernel) (by decide) dX7_fall_12 dX7_fall_15 (Or.inl ⟨dX7_fall_16, dX7_fall_18, dX7_fall_21⟩) ?_
    refine ⟨⟨?_, rfl⟩, rfl⟩
    exact er1n nc9_2

set_option maxHeartbeats 4000000 in
set_option maxRecDepth 100000 in
theorem m_X7_component (l : Launch) {O : sk_O} (hO : sk_inj O) (M : sk_M) (k : Nat) (s j v : Int32) (hk : sk_isX O k) (o c : Nat) (ho : M (k + 44) 1 = nI o) (hc : M (k + 44) 2 = nI c) (ho14 : o < 14) (hc14 : c ≤ 14) (hw : st_wf M (k + 1)) (hst : l.stackTraces = false) : sk_Xi l yX7_component (sk_w yX7_component cX7_component 5 (some .int)) ({ frames := 6, cells := 1, slots := 6, locals := 145 }) O [.ref (sk_ad O k), .int s, .int j, .int v] M (fun r M' => (er_2 (st_hs M (k + 1) s ∧ ¬ j < 0 ∧ ¬ 3 ≤ j) (¬ v < 0 ∧ ¬ 115856200 < v)) = 0 ∧ r = (x_cn v) ∧ M' = (if st_hs (x_re M k o c) (k + 1) s ∧ ¬ j < 0 ∧ ¬ 3 ≤ j then sk_ms (x_re M k o c) (st_pg (k + 1) s + 9) j.toNatClampNeg (x_cn v) else x_re M k o c)) (fun E M' => ((er_2 (st_hs M (k + 1) s ∧ ¬ j < 0 ∧ ¬ 3 ≤ j) (¬ v < 0 ∧ ¬ 115856200 < v)) = 1 ∧ E = "java/lang/IndexOutOfBoundsException" ∨ (er_2 (st_hs M (k + 1) s ∧ ¬ j < 0 ∧ ¬ 3 ≤ j) (¬ v < 0 ∧ ¬ 115856200 < v)) = 2 ∧ E = "java/lang/IllegalArgumentException") ∧ M' = M) := by
  refine sk_xi hst (by decide) rfl ⟨rfl, rfl⟩ hO (Nat.le_of_ble_eq_true rfl) (fun X A Q C hSr ret thr out => ?_)
  show sk_W l X O A Q 5 0 0 M 0 [(0, .ref (sk_ad O k)), (1, .int s), (2, .int j), (3, .int v)] []
  have hw2 : st_wf (x_re M k o c) (k + 1) := st_wf_c (fun a h1 h2 => hs_re_f ho14 hc14 hw (by omega) (by omega)) hw
  refine k_aloadn C 0 dX7_component_0 rfl ?_
  refine k_getr C (j := 0) (k' := k + 1) kcl_X7 fl_X7_10 hk.1 (by decide) rfl dX7_component_1 ?_
  refine k_iloadn C 1 dX7_component_4 rfl ?_
  refine k_vi C (as := [.int s]) yvX5_hasSkater viX5_hasSkater ml_X7_122 (m_X5_hasSkater l C.2.2.2.1 M (k := k + 1) (hk := hk.2.1) (s := s)) hk.2.1.1 rfl rfl rfl (Nat.le_of_ble_eq_true rfl) (by decide) dX7_component_5 (fun x5_1 M5_1 h5_1 => ?_)
  rw [h5_1.1, h5_1.2]
  refine k_zeq C 20 dX7_component_8 (by decide) (fun c8_2 => ?_) (fun c8_2 => ?_)
  ·
    have nc8_2 : ¬ (st_hs M (k + 1) s) := sk_b1.mp c8_2
    refine thr "java/lang/IndexOutOfBoundsException" "no such skater or component" 126 246 130 _ _ _ xw_IndexOutOfBoundsException (by decide +kernel) (by decide) dX7_component_20 dX7_component_23 (Or.inl ⟨dX7_component_24, dX7_component_26, dX7_component_29⟩) ?_
    refine ⟨Or.inl ⟨?_, rfl⟩, rfl⟩
    exact er2n (fun h => nc8_2 h.1)
  ·
    have nc8_2 : st_hs M (k + 1) s := Classical.byContradiction (fun h => c8_2 (sk_b1.mpr h))
    refine k_iloadn C 2 dX7_component_11 rfl ?_
    refine k_zlt C 20 dX7_component_12 (by decide) (fun c12_3 => ?_) (fun c12_3 => ?_)
    ·
      refine thr "java/lang/IndexOutOfBoundsException" "no such skater or component" 126 246 130 _ _ _ xw_IndexOutOfBoundsException (by decide +kernel) (by decide) dX7_component_20 dX7_component_23 (Or.inl ⟨dX7_component_24, dX7_component_26, dX7_component_29⟩) ?_
      refine ⟨Or.inl ⟨?_, rfl⟩, rfl⟩
      exact er2n (fun h => h.2.1 c12_3)
    ·
      refine k_iloadn C 2 dX7_component_15 rfl ?_
      refine k_iconst C (3) dX7_component_16 (by decide) ?_
      refine k_clt C 30 dX7_component_17 (by decide) (fun c17_4 => ?_) (fun c17_4 => ?_)
      ·
        refine k_iloadn C 3 dX7_component_30 rfl ?_
        refine k_zlt C 40 dX7_component_31 (by decide) (fun c31_5 => ?_) (fun c31_5 => ?_)
        ·
          refine thr "java/lang/IllegalArgumentException" "marks is not 0 to 115856200" 69 249 73 _ _ _ xw_IllegalArgumentException (by decide +kernel) (by decide) dX7_component_40 dX7_component_43 (Or.inl ⟨dX7_component_44, dX7_component_46, dX7_component_49⟩) ?_
          refine ⟨Or.inr (⟨?_, rfl⟩), rfl⟩
          exact er2m ⟨nc8_2, c12_3, Int32.not_le.mpr c17_4⟩ (fun h => h.1 c31_5)
        ·
          refine k_iloadn C 3 dX7_component_34 rfl ?_
          refine k_ldc C kc_X7_248 dX7_component_35 ?_
          refine k_cle C 50 dX7_component_37 (by decide) (fun c37_6 => ?_) (fun c37_6 => ?_)
          ·
            refine k_aloadn C 0 dX7_component_50 rfl ?_
            refine k_getr C (j := 1) (k' := k + 44) kcl_X7 fl_X7_19 hk.1 (by decide) rfl dX7_component_51 ?_
            refine k_aloadn C 0 dX7_component_54 rfl ?_
            refine k_getr C (j := 0) (k' := k + 1) kcl_X7 fl_X7_10 hk.1 (by decide) rfl dX7_component_55 ?_
            refine k_vv C (as := [.ref (sk_ad O (k + 1))]) yvX1_remember viX1_remember ml_X7_223 (m_X1_remember l C.2.2.2.1 M (h := k + 44) (f := k + 1) (o := o) (c := c) (hh := hk.2.2.1) (hf := hk.2.1) (ho := ho) (hc := hc) (ho14 := ho14) (hc14 := hc14) (hw := hw) (hap := (by omega))) hk.2.2.1.1 rfl rfl rfl (Nat.le_of_ble_eq_true rfl) (by decide) dX7_component_58 (fun M58_7 h58_7 => ?_)
            rw [h58_7]
            refine k_iloadn C 3 dX7_component_61 rfl ?_
            refine k_si C (as := [.int v]) yvX7_componentOf vsX7_componentOf ml_X7_251 (m_X7_componentOf l C.2.2.2.1 (x_re M k o c) (m := v)) rfl rfl (Nat.le_of_ble_eq_true rfl) (by decide) dX7_component_62 (fun x62_8 M62_8 h62_8 => ?_)
            rw [h62_8.1, h62_8.2]
            refine k_istore C [1, 2, 3, 4, 0] [(0, .ref (sk_ad O k)), (1, .int s), (2, .int j), (3, .int v), (4, .int (x_cn v))] dX7_component_65 (by decide) rfl ?_
            refine k_aloadn C 0 dX7_component_67 rfl ?_
            refine k_getr C (j := 0) (k' := k + 1) kcl_X7 fl_X7_10 hk.1 (by decide) rfl dX7_component_68 ?_
            refine k_iloadn C 1 dX7_component_71 rfl ?_
            refine k_iloadn C 2 dX7_component_72 rfl ?_
            refine k_iload C 4 dX7_component_73 rfl ?_
            refine k_vv C (as := [.int s, .int j, .int (x_cn v)]) yvX5_putComponent viX5_putComponent ml_X7_254 (m_X5_putComponent l C.2.2.2.1 (x_re M k o c) (k := k + 1) (hk := hk.2.1) (hw := hw2) (s := s) (c := j) (v := x_cn v)) hk.2.1.1 rfl rfl rfl (Nat.le_of_ble_eq_true rfl) (by decide) dX7_component_75 (fun M75_9 h75_9 => ?_)
            rw [h75_9]
            refine k_iload C 4 dX7_component_78 rfl ?_
            refine ret _ _ _ _ _ _ (by decide) (by decide) dX7_component_80 rfl ?_
            exact ⟨er2p ⟨nc8_2, c12_3, Int32.not_le.mpr c17_4⟩ ⟨c31_5, Int32.not_lt.mpr c37_6⟩, rfl, rfl⟩
          ·
            refine thr "java/lang/IllegalArgumentException" "marks is not 0 to 115856200" 69 249 73 _ _ _ xw_IllegalArgumentException (by decide +kernel) (by decide) dX7_component_40 dX7_component_43 (Or.inl ⟨dX7_component_44, dX7_component_46, dX7_component_49⟩) ?_
            refine ⟨Or.inr (⟨?_, rfl⟩), rfl⟩
            exact er2m ⟨nc8_2, c12_3, Int32.not_le.mpr c17_4⟩ (fun h => h.2 (Int32.not_le.mp c37_6))
      ·
        refine thr "java/lang/IndexOutOfBoundsException" "no such skater or component" 126 246 130 _ _ _ xw_IndexOutOfBoundsException (by decide +kernel) (by decide) dX7_component_20 dX7_component_23 (Or.inl ⟨dX7_component_24, dX7_component_26, dX7_component_29⟩) ?_
        refine ⟨Or.inl ⟨?_, rfl⟩, rfl⟩
        exact er2n (fun h => h.2.2 (Int32.not_lt.mp c17_4))

set_option maxHeartbeats 4000000 in
set_option maxRecDepth 100000 in
theorem m_X7_set (l : Launch) {O : sk_O} (hO : sk_inj O) (M : sk_M) (k : Nat) (w v : Int32) (hk : sk_isX O k) (o c : Nat) (ho : M (k + 44) 1 = nI o) (hc : M (k + 44) 2 = nI c) (ho14 : o < 14) (hc14 : c ≤ 14) (hw : st_wf M (k + 1)) (hst : l.stackTraces = false) : sk_Xi l yX7_set (sk_w yX7_set cX7_set 4 (some .int)) ({ frames := 6, cells := 1, slots := 6, locals := 145 }) O [.ref (sk_ad O k), .int w, .int v] M (fun r M' => (er_1 (st_fi w v)) = 0 ∧ r = (x_re M k o c (k + 3) w.toNatClampNeg) ∧ M' = (if st_fi w v then sk_ms (x_re M k o c) (k + 1 + 2) w.toNatClampNeg v else x_re M k o c)) (fun E M' => ((er_1 (st_fi w v)) = 1 ∧ E = "java/lang/IllegalArgumentException") ∧ M' = M) := by
  refine sk_xi hst (by decide) rfl ⟨rfl, rfl⟩ hO (Nat.le_of_ble_eq_true rfl) (fun X A Q C hSr ret thr out => ?_)
  show sk_W l X O A Q 4 0 0 M 0 [(0, .ref (sk_ad O k)), (1, .int w), (2, .int v)] []
  have hw2 : st_wf (x_re M k o c) (k + 1) := st_wf_c (fun a h1 h2 => hs_re_f ho14 hc14 hw (by omega) (by omega)) hw
  refine k_iloadn C 1 dX7_set_0 rfl ?_
  refine k_iloadn C 2 dX7_set_1 rfl ?_
  refine k_si C (as := [.int w, .int v]) yvX5_settingFits vsX5_settingFits ml_X7_279 (m_X5_settingFits l C.2.2.2.1 M (w := w) (v := v)) rfl rfl (Nat.le_of_ble_eq_true rfl) (by decide) dX7_set_2 (fun x2_1 M2_1 h2_1 => ?_)
  rw [h2_1.1, h2_1.2]
  refine k_zne C 19 dX7_set_5 (by decide) (fun c5_2 => ?_) (fun c5_2 => ?_)
  ·
    have nc5_2 : st_fi w v := Classical.byContradiction (fun h => c5_2 (sk_b1.mpr h))
    refine k_aloadn C 0 dX7_set_19 rfl ?_
    refine k_getr C (j := 1) (k' := k + 44) kcl_X7 fl_X7_19 hk.1 (by decide) rfl dX7_set_20 ?_
    refine k_aloadn C 0 dX7_set_23 rfl ?_
    refine k_getr C (j := 0) (k' := k + 1) kcl_X7 fl_X7_10 hk.1 (by decide) rfl dX7_set_24 ?_
    refine k_vv C (as := [.ref (sk_ad O (k + 1))]) yvX1_remember viX1_remember ml_X7_223 (m_X1_remember l C.2.2.2.1 M (h := k + 44) (f := k + 1) (o := o) (c := c) (hh := hk.2.2.1) (hf := hk.2.1) (ho := ho) (hc := hc) (ho14 := ho14) (hc14 := hc14) (hw := hw) (hap := (by omega))) hk.2.2.1.1 rfl rfl rfl (Nat.le_of_ble_eq_true rfl) (by decide) dX7_set_27 (fun M27_3 h27_3 => ?_)
    rw [h27_3]
    refine k_aloadn C 0 dX7_set_30 rfl ?_
    refine k_getr C (j := 0) (k' := k + 1) kcl_X7 fl_X7_10 hk.1 (by decide) rfl dX7_set_31 ?_
    refine k_getr C (j := 1) (k' := k + 3) kcl_X5 fl_X7_137 hk.2.1.1 (by decide) rfl dX7_set_34 ?_
    refine k_iloadn C 1 dX7_set_37 rfl ?_
    refine k_ialdn C w.toNatClampNeg hk.2.1.2.2 (st_fiw nc5_2).1 ⟨(st_fiw nc5_2).2, by omega⟩ dX7_set_38 ?_
    refine k_istoren C [1, 2, 3, 0] [(0, .ref (sk_ad O k)), (1, .int w), (2, .int v), (3, .int ((x_re M k o c) (k + 3) w.toNatClampNeg))] dX7_set_39 (by decide) rfl ?_
    refine k_aloadn C 0 dX7_set_40 rfl ?_
    refine k_getr C (j := 0) (k' := k + 1) kcl_X7 fl_X7_10 hk.1 (by decide) rfl dX7_set_41 ?_
    refine k_iloadn C 1 dX7_set_44 rfl ?_
    refine k_iloadn C 2 dX7_set_45 rfl ?_
    refine k_vi C (as := [.int w, .int v]) yvX5_putSetting viX5_putSetting ml_X7_284 (m_X5_putSetting l C.2.2.2.1 (x_re M k o c) (k := k + 1) (hk := hk.2.1) (w := w) (v := v)) hk.2.1.1 rfl rfl rfl (Nat.le_of_ble_eq_true rfl) (by decide) dX7_set_46 (fun x46_4 M46_4 h46_4 => ?_)
    rw [h46_4.1, h46_4.2]
    refine k_pop C dX7_set_49 rfl ?_
    refine k_iloadn C 3 dX7_set_50 rfl ?_
    refine ret _ _ _ _ _ _ (by decide) (by decide) dX7_set_51 rfl ?_
    exact ⟨er1p nc5_2, rfl, rfl⟩
  ·
    have nc5_2 : ¬ (st_fi w v) := sk_b1.mp c5_2
    refine thr "java/lang/IllegalArgumentException" "what or v is out of range" 69 282 73 _ _ _ xw_IllegalArgumentException (by decide +kernel) (by decide) dX7_set_8 dX7_set_11 (Or.inr ⟨dX7_set_12, dX7_set_15, dX7_set_18⟩) ?_
    refine ⟨⟨?_, rfl⟩, rfl⟩
    exact er1n nc5_2
