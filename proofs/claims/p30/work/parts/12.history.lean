/-! History: contracts -/
theorem st_cl_f {M : sk_M} {k f a : Nat} (n : Nat) (hn : n ≤ 4) (h : a < k ∨ k + 43 ≤ a) : st_cl M k f n a = M a := by
  induction n with
  | zero => exact sk_nmf (by omega)
  | succ n ih =>
    show pg_cf _ _ _ a = _
    rw [pg_cf_f (by omega), ih (by omega)]
theorem st_cf_f {M : sk_M} {k f a : Nat} (hw : st_wf M f) (h : a < k ∨ k + 43 ≤ a) : st_cf M k f a = M a := by
  obtain ⟨m, hm4, hm, -⟩ := hw
  unfold st_cf
  rw [sk_ncf (by omega), st_cl_f _ (by rw [st_n, hm, nI_clamp (by omega)]; exact hm4) h]
theorem st_wf_c {M M' : sk_M} {f : Nat} (h : ∀ a, f ≤ a → a < f + 43 → M' a = M a) (hw : st_wf M f) : st_wf M' f := by
  obtain ⟨m, hm4, hm, hj⟩ := hw
  exact ⟨m, hm4, by rw [h f (by omega) (by omega)]; exact hm, fun j hj4 => pg_wf_c (h _ (by omega) (by omega)) (h _ (by omega) (by omega)) (hj j hj4)⟩
def hs_m0 (M : sk_M) (h o c : Nat) : sk_M := if c = 14 then sk_ms (sk_ms M h 1 (nI ((o + 1) % 14))) h 2 (nI 13) else M
def hs_o (o c : Nat) : Nat := if c = 14 then (o + 1) % 14 else o
def hs_c (c : Nat) : Nat := if c = 14 then 13 else c
theorem hs_m0_1 {M : sk_M} {h o c : Nat} (ho : M h 1 = nI o) : hs_m0 M h o c h 1 = nI (hs_o o c) := by
  unfold hs_m0 hs_o
  split
  · rw [sk_ne (by omega), sk_sm]
  · exact ho
theorem hs_m0_2 {M : sk_M} {h o c : Nat} (hc : M h 2 = nI c) : hs_m0 M h o c h 2 = nI (hs_c c) := by
  unfold hs_m0 hs_c
  split
  · rw [sk_sm]
  · exact hc
theorem hs_m0_f {M : sk_M} {h o c a : Nat} (q : a ≠ h) : hs_m0 M h o c a = M a := by
  unfold hs_m0
  split
  · rw [sk_nf q, sk_nf q]
  · rfl
abbrev hs_at (h i : Nat) : Nat := h + 2 + 43 * i
def hs_re (M : sk_M) (h f o c : Nat) : sk_M := sk_ms (st_cf (hs_m0 M h o c) (hs_at h ((hs_o o c + hs_c c) % 14)) f) h 2 (nI (hs_c c + 1))
def hs_tb (M : sk_M) (h f o c : Nat) : sk_M := st_cf (sk_ms M h 2 (nI (c - 1))) f (hs_at h ((o + (c - 1)) % 14))
set_option maxHeartbeats 4000000 in
set_option maxRecDepth 100000 in
theorem m_X1_remember (l : Launch) {O : sk_O} (hO : sk_inj O) (M : sk_M) (h f o c : Nat) (hh : sk_isH O h) (hf : sk_isS O f) (ho : M h 1 = nI o) (hc : M h 2 = nI c) (ho14 : o < 14) (hc14 : c ≤ 14) (hw : st_wf M f) (hap : h + 604 ≤ f ∨ f + 43 ≤ h) : sk_Mv l yX1_remember (sk_w yX1_remember cX1_remember 2 none) ({ frames := 4, cells := 0, slots := 0, locals := 124 }) O [.ref (sk_ad O h), .ref (sk_ad O f)] M (fun M' => M' = (hs_re M h f o c)) := by
  refine sk_mv (by decide) ⟨rfl, rfl⟩ hO (Nat.le_of_ble_eq_true rfl) (fun X A Q C ret => ?_)
  show sk_W l X O A Q 2 0 0 M 0 [(0, .ref (sk_ad O h)), (1, .ref (sk_ad O f))] []
  have hoo : hs_o o c < 14 := by unfold hs_o; split <;> omega
  have hcc : hs_c c < 14 := by unfold hs_c; split <;> omega
  have hw2 : st_wf (hs_m0 M h o c) f := st_wf_c (fun a h1 h2 => hs_m0_f (by omega)) hw
  refine k_aloadn C 0 dX1_remember_0 rfl ?_
  refine k_geti C (j := 2) kcl_X1 fl_X1_16 hh.1 (by decide) rfl dX1_remember_1 ?_
  refine k_bipush C (14) dX1_remember_4 (by decide) ?_
  have J32 : sk_W l X O A Q 2 0 0 (hs_m0 M h o c) 32 [(0, .ref (sk_ad O h)), (1, .ref (sk_ad O f))] [] := by
    refine k_aloadn C 0 dX1_remember_32 rfl ?_
    refine k_getr C (j := 0) (k' := h + 1) kcl_X1 fl_X1_11 hh.1 (by decide) rfl dX1_remember_33 ?_
    refine k_aloadn C 0 dX1_remember_36 rfl ?_
    refine k_geti C (j := 1) kcl_X1 fl_X1_20 hh.1 (by decide) rfl dX1_remember_37 ?_
    refine k_aloadn C 0 dX1_remember_40 rfl ?_
    refine k_geti C (j := 2) kcl_X1 fl_X1_16 hh.1 (by decide) rfl dX1_remember_41 ?_
    refine k_iadd C dX1_remember_44 ?_
    refine k_bipush C (14) dX1_remember_45 (by decide) ?_
    refine k_irem C dX1_remember_47 (by decide) ?_
    refine k_top (nI ((hs_o o c + hs_c c) % 14)) (sk_nrem (a := hs_o o c + hs_c c) (b := 14) (sk_nadd (hs_m0_1 ho) (hs_m0_2 hc)) (rfl : ((14) : Int32) = nI 14) (by omega) (by decide)) ?_
    refine k_aald C (k' := h + 2 + 43 * ((hs_o o c + hs_c c) % 14)) ((hs_o o c + hs_c c) % 14) ((hh.2).1) (by decide) rfl (by omega) rfl dX1_remember_48 ?_
    refine k_aloadn C 1 dX1_remember_49 rfl ?_
    refine k_vv C (as := [.ref (sk_ad O f)]) yvX5_copyFrom viX5_copyFrom ml_X1_23 (m_X5_copyFrom l C.2.2.2.1 (hs_m0 M h o c) (k := h + 2 + 43 * ((hs_o o c + hs_c c) % 14)) (f := f) (hk := (hh.2).2 ((hs_o o c + hs_c c) % 14) (by omega)) (hf := hf) (hw := hw2)) ((hh.2).2 ((hs_o o c + hs_c c) % 14) (by omega)).1 rfl rfl rfl (Nat.le_of_ble_eq_true rfl) (by decide) dX1_remember_50 (fun M50_1 h50_1 => ?_)
    rw [h50_1]
    refine k_aloadn C 0 dX1_remember_53 rfl ?_
    refine k_dup C dX1_remember_54 rfl ?_
    refine k_geti C (j := 2) kcl_X1 fl_X1_16 hh.1 (by decide) rfl dX1_remember_55 ?_
    refine k_iconst C (1) dX1_remember_58 (by decide) ?_
    refine k_iadd C dX1_remember_59 ?_
    refine k_top (nI (hs_c c + 1)) (sk_nadd (by rw [st_cf_f hw2 (by omega)]; exact hs_m0_2 hc) (rfl : ((1) : Int32) = nI 1)) ?_
    refine k_puti C (j := 2) (ty := .int) tyX1 kcl_X1 tyX1_ok nmX1 fl_X1_16 hh.1 (by decide) rfl rfl (by decide +kernel) rfl rfl dX1_remember_60 ?_
    exact ret _ _ _ dX1_remember_63 (by exact rfl)
  refine k_cne C 32 dX1_remember_6 (by decide) (fun c6_2 => ?_) (fun c6_2 => ?_)
  ·
    have nc6_2 : ¬ (c = 14) := fun h => c6_2 ((sk_qI (a := c) (b := 14) hc (rfl : ((14) : Int32) = nI 14) (by omega) (by omega)).mpr h)
    exact k_eq (by rw [hs_m0, if_neg nc6_2]) rfl rfl rfl J32
  ·
    have nc6_2 : c = 14 := (sk_qI (a := c) (b := 14) hc (rfl : ((14) : Int32) = nI 14) (by omega) (by omega)).mp c6_2
    refine k_aloadn C 0 dX1_remember_9 rfl ?_
    refine k_aloadn C 0 dX1_remember_10 rfl ?_
    refine k_geti C (j := 1) kcl_X1 fl_X1_20 hh.1 (by decide) rfl dX1_remember_11 ?_
    refine k_iconst C (1) dX1_remember_14 (by decide) ?_
    refine k_iadd C dX1_remember_15 ?_
    refine k_bipush C (14) dX1_remember_16 (by decide) ?_
    refine k_irem C dX1_remember_18 (by decide) ?_
    refine k_top (nI ((o + 1) % 14)) (sk_nrem (a := o + 1) (b := 14) (sk_nadd ho (rfl : ((1) : Int32) = nI 1)) (rfl : ((14) : Int32) = nI 14) (by omega) (by decide)) ?_
    refine k_puti C (j := 1) (ty := .int) tyX1 kcl_X1 tyX1_ok nmX1 fl_X1_20 hh.1 (by decide) rfl rfl (by decide +kernel) rfl rfl dX1_remember_19 ?_
    refine k_aloadn C 0 dX1_remember_22 rfl ?_
    refine k_dup C dX1_remember_23 rfl ?_
    refine k_geti C (j := 2) kcl_X1 fl_X1_16 hh.1 (by decide) rfl dX1_remember_24 ?_
    refine k_top (M h 2) (by rw [sk_ne (by omega)]) ?_
    refine k_iconst C (1) dX1_remember_27 (by decide) ?_
    refine k_isub C dX1_remember_28 ?_
    refine k_top (nI 13) (sk_nsub (a := 14) (b := 1) (by rw [hc, nc6_2]) rfl (by omega)) ?_
    refine k_puti C (j := 2) (ty := .int) tyX1 kcl_X1 tyX1_ok nmX1 fl_X1_16 hh.1 (by decide) rfl rfl (by decide +kernel) rfl rfl dX1_remember_29 ?_
    exact k_eq (by rw [hs_m0, if_pos nc6_2]) rfl rfl rfl J32

set_option maxHeartbeats 4000000 in
set_option maxRecDepth 100000 in
theorem m_X1_takeBack (l : Launch) {O : sk_O} (hO : sk_inj O) (M : sk_M) (h f o c : Nat) (hh : sk_isH O h) (hf : sk_isS O f) (ho : M h 1 = nI o) (hc : M h 2 = nI c) (ho14 : o < 14) (hc14 : c ≤ 14) (hw : c = 0 ∨ st_wf M (hs_at h ((o + (c - 1)) % 14))) : sk_Mi l yX1_takeBack (sk_w yX1_takeBack cX1_takeBack 2 (some .boolean)) ({ frames := 4, cells := 0, slots := 0, locals := 124 }) O [.ref (sk_ad O h), .ref (sk_ad O f)] M (fun r M' => r = (if 0 < c then 1 else 0) ∧ M' = (if 0 < c then hs_tb M h f o c else M)) := by
  refine sk_mi (by decide) ⟨rfl, rfl⟩ hO (Nat.le_of_ble_eq_true rfl) (fun X A Q C ret => ?_)
  show sk_W l X O A Q 2 0 0 M 0 [(0, .ref (sk_ad O h)), (1, .ref (sk_ad O f))] []
  refine k_aloadn C 0 dX1_takeBack_0 rfl ?_
  refine k_geti C (j := 2) kcl_X1 fl_X1_16 hh.1 (by decide) rfl dX1_takeBack_1 ?_
  refine k_zgt C 9 dX1_takeBack_4 (by decide) (fun c4_1 => ?_) (fun c4_1 => ?_)
  ·
    have nc4_1 : 0 < c := (sk_lI (a := 0) (b := c) (rfl : ((0) : Int32) = nI 0) hc (by omega) (by omega)).mp c4_1
    have hw2 : st_wf (sk_ms M h 2 (nI (c - 1))) (hs_at h ((o + (c - 1)) % 14)) := st_wf_c (fun a h1 h2 => sk_nf (by have h3 : hs_at h ((o + (c - 1)) % 14) ≤ a := h1; unfold hs_at at h3; omega)) (hw.resolve_left (by omega))
    refine k_aloadn C 0 dX1_takeBack_9 rfl ?_
    refine k_dup C dX1_takeBack_10 rfl ?_
    refine k_geti C (j := 2) kcl_X1 fl_X1_16 hh.1 (by decide) rfl dX1_takeBack_11 ?_
    refine k_iconst C (1) dX1_takeBack_14 (by decide) ?_
    refine k_isub C dX1_takeBack_15 ?_
    refine k_top (nI (c - 1)) (sk_nsub (a := c) (b := 1) hc rfl (by omega)) ?_
    refine k_puti C (j := 2) (ty := .int) tyX1 kcl_X1 tyX1_ok nmX1 fl_X1_16 hh.1 (by decide) rfl rfl (by decide +kernel) rfl rfl dX1_takeBack_16 ?_
    refine k_aloadn C 1 dX1_takeBack_19 rfl ?_
    refine k_aloadn C 0 dX1_takeBack_20 rfl ?_
    refine k_getr C (j := 0) (k' := h + 1) kcl_X1 fl_X1_11 hh.1 (by decide) rfl dX1_takeBack_21 ?_
    refine k_aloadn C 0 dX1_takeBack_24 rfl ?_
    refine k_geti C (j := 1) kcl_X1 fl_X1_20 hh.1 (by decide) rfl dX1_takeBack_25 ?_
    refine k_top (M h 1) (by rw [sk_ne (by omega)]) ?_
    refine k_aloadn C 0 dX1_takeBack_28 rfl ?_
    refine k_geti C (j := 2) kcl_X1 fl_X1_16 hh.1 (by decide) rfl dX1_takeBack_29 ?_
    refine k_top (nI (c - 1)) (by rw [sk_sm]) ?_
    refine k_iadd C dX1_takeBack_32 ?_
    refine k_bipush C (14) dX1_takeBack_33 (by decide) ?_
    refine k_irem C dX1_takeBack_35 (by decide) ?_
    refine k_top (nI ((o + (c - 1)) % 14)) (sk_nrem (a := o + (c - 1)) (b := 14) (sk_nadd ho rfl) (rfl : ((14) : Int32) = nI 14) (by omega) (by decide)) ?_
    refine k_aald C (k' := h + 2 + 43 * ((o + (c - 1)) % 14)) ((o + (c - 1)) % 14) ((hh.2).1) (by decide) rfl (by omega) rfl dX1_takeBack_36 ?_
    refine k_vv C (as := [.ref (sk_ad O (h + 2 + 43 * ((o + (c - 1)) % 14)))]) yvX5_copyFrom viX5_copyFrom ml_X1_23 (m_X5_copyFrom l C.2.2.2.1 (sk_ms M h 2 (nI (c - 1))) (k := f) (f := h + 2 + 43 * ((o + (c - 1)) % 14)) (hk := hf) (hf := (hh.2).2 ((o + (c - 1)) % 14) (by omega)) (hw := hw2)) hf.1 rfl rfl rfl (Nat.le_of_ble_eq_true rfl) (by decide) dX1_takeBack_37 (fun M37_2 h37_2 => ?_)
    rw [h37_2]
    refine k_iconst C (1) dX1_takeBack_40 (by decide) ?_
    exact ret _ _ _ _ dX1_takeBack_41 rfl (by exact ⟨(if_pos nc4_1).symm, (if_pos nc4_1).symm⟩)
  ·
    have nc4_1 : ¬ (0 < c) := fun h => c4_1 ((sk_lI (a := 0) (b := c) (rfl : ((0) : Int32) = nI 0) hc (by omega) (by omega)).mpr h)
    refine k_iconst C (0) dX1_takeBack_7 (by decide) ?_
    exact ret _ _ _ _ dX1_takeBack_8 rfl (by exact ⟨(if_neg nc4_1).symm, (if_neg nc4_1).symm⟩)

set_option maxHeartbeats 4000000 in
set_option maxRecDepth 100000 in
theorem m_X1_forget (l : Launch) {O : sk_O} (hO : sk_inj O) (M : sk_M) (h : Nat) (hh : sk_isH O h) : sk_Mv l yX1_forget (sk_w yX1_forget cX1_forget 1 none) ({ frames := 0, cells := 0, slots := 0, locals := 0 }) O [.ref (sk_ad O h)] M (fun M' => M' = (sk_ms M h 2 0)) := by
  refine sk_mv (by decide) ⟨rfl, rfl⟩ hO (Nat.le_of_ble_eq_true rfl) (fun X A Q C ret => ?_)
  show sk_W l X O A Q 1 0 0 M 0 [(0, .ref (sk_ad O h))] []
  refine k_aloadn C 0 dX1_forget_0 rfl ?_
  refine k_iconst C (0) dX1_forget_1 (by decide) ?_
  refine k_puti C (j := 2) (ty := .int) tyX1 kcl_X1 tyX1_ok nmX1 fl_X1_16 hh.1 (by decide) rfl rfl (by decide +kernel) rfl rfl dX1_forget_2 ?_
  exact ret _ _ _ dX1_forget_5 (by exact rfl)
