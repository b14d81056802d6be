/-! The start: what the Statement gives of the machine (printed by l8.py) -/
def lw_gv : List Cond := flatC (Jvm.Cond.and given_1 narrow_1)
theorem lw_gs {args : Array Value} {s : State} (h : (Jvm.Cond.and given_1 narrow_1).before args s = true) : ∀ w ∈ lw_gv, w.before args s = true := flat_of_before _ h
theorem ls_UNASSIGNED_STACK : Cond.laysStatic "java/lang/Throwable" "UNASSIGNED_STACK" "[Ljava/lang/StackTraceElement;" ∈ lw_tbl := List.mem_of_getElem? (i := 370) (by decide +kernel)
theorem ls_SUPPRESSED_SENTINEL : Cond.laysStatic "java/lang/Throwable" "SUPPRESSED_SENTINEL" "Ljava/util/List;" ∈ lw_tbl := List.mem_of_getElem? (i := 372) (by decide +kernel)
theorem ls_SPIN_WORTHS : Cond.laysStatic "SkateSheet$Scoring" "SPIN_WORTHS" "[I" ∈ lw_tbl := List.mem_of_getElem? (i := 458) (by decide +kernel)
theorem ls_STEP_WORTHS : Cond.laysStatic "SkateSheet$Scoring" "STEP_WORTHS" "[I" ∈ lw_tbl := List.mem_of_getElem? (i := 463) (by decide +kernel)
theorem ls_JUMP_WORTHS : Cond.laysStatic "SkateSheet$Scoring" "JUMP_WORTHS" "[I" ∈ lw_tbl := List.mem_of_getElem? (i := 465) (by decide +kernel)
theorem li_sc : Cond.initialized "SkateSheet$Scoring" ∈ lw_tbl := List.mem_of_getElem? (i := 24) (by decide +kernel)
theorem li_th : Cond.initialized "java/lang/Throwable" ∈ lw_tbl := List.mem_of_getElem? (i := 27) (by decide +kernel)
set_option maxRecDepth 100000 in
theorem gv_0 : Cond.arrayOf (.static "SkateSheet$Scoring" "JUMP_WORTHS" "[I") .int ∈ lw_gv ∧ Cond.eq (.length (.static "SkateSheet$Scoring" "JUMP_WORTHS" "[I")) (.int 24) ∈ lw_gv := ⟨by decide +kernel, by decide +kernel⟩
set_option maxRecDepth 100000 in
theorem ge_0 : ∀ j, j < 24 → Cond.eq (.elem (.static "SkateSheet$Scoring" "JUMP_WORTHS" "[I") (.int (Int32.ofNat j))) (.int ((sk_row 0).getD j 0)) ∈ lw_gv := by decide +kernel
set_option maxRecDepth 100000 in
theorem gv_1 : Cond.arrayOf (.static "SkateSheet$Scoring" "SPIN_WORTHS" "[I") .int ∈ lw_gv ∧ Cond.eq (.length (.static "SkateSheet$Scoring" "SPIN_WORTHS" "[I")) (.int 5) ∈ lw_gv := ⟨by decide +kernel, by decide +kernel⟩
set_option maxRecDepth 100000 in
theorem ge_1 : ∀ j, j < 5 → Cond.eq (.elem (.static "SkateSheet$Scoring" "SPIN_WORTHS" "[I") (.int (Int32.ofNat j))) (.int ((sk_row 1).getD j 0)) ∈ lw_gv := by decide +kernel
set_option maxRecDepth 100000 in
theorem gv_2 : Cond.arrayOf (.static "SkateSheet$Scoring" "STEP_WORTHS" "[I") .int ∈ lw_gv ∧ Cond.eq (.length (.static "SkateSheet$Scoring" "STEP_WORTHS" "[I")) (.int 5) ∈ lw_gv := ⟨by decide +kernel, by decide +kernel⟩
set_option maxRecDepth 100000 in
theorem ge_2 : ∀ j, j < 5 → Cond.eq (.elem (.static "SkateSheet$Scoring" "STEP_WORTHS" "[I") (.int (Int32.ofNat j))) (.int ((sk_row 2).getD j 0)) ∈ lw_gv := by decide +kernel
set_option maxRecDepth 100000 in
theorem gv_th : Cond.isRef (.static "java/lang/Throwable" "UNASSIGNED_STACK" "[Ljava/lang/StackTraceElement;") ∈ lw_gv ∧ Cond.isRef (.static "java/lang/Throwable" "SUPPRESSED_SENTINEL" "Ljava/util/List;") ∈ lw_gv := ⟨by decide +kernel, by decide +kernel⟩
set_option maxRecDepth 100000 in
theorem gv_nc : ∀ x ∈ sk_en, ∀ y ∈ sk_en, x ≠ y → Cond.not (.castable x y) ∈ lw_gv := by decide +kernel
set_option maxRecDepth 100000 in
theorem gv_st : ∀ q ∈ sk_strs, Cond.exactly (.string q.1 q.2.1) "java/lang/String" ∈ lw_gv := by decide +kernel
set_option maxRecDepth 100000 in
theorem lt_st : ∀ q ∈ sk_strs, Cond.stringRef q.1 q.2.1 q.2.2 ∈ lw_tbl := by decide +kernel
theorem lw_Nx {args : Array Value} {s : State} (h : (Jvm.Cond.and given_1 narrow_1).before args s = true) (hts : ∀ w ∈ lw_tbl, w.before args s = true) : sk_Nx s := by
  refine ⟨fun x hx y hy ne => va_Nc.of (lw_gs h _ (gv_nc x hx y hy ne)), fun w hw => ?_⟩
  have hk := sk_cst_ok w hw
  rw [Bool.and_eq_true] at hk
  exact va_tabs hk.2 rfl (hts w (sk_cst_in w hw))
theorem lw_Sr {args : Array Value} {s : State} (h : (Jvm.Cond.and given_1 narrow_1).before args s = true) (hts : ∀ w ∈ lw_tbl, w.before args s = true) : sk_Sr s := by
  refine ⟨fun q hq => ?_, fun w hw => ?_⟩
  · obtain ⟨a, ha⟩ : ∃ a, (Term.string q.1 q.2.1).eval args s none [] s = some (.ref a) := by
      have h1 := lw_gs h _ (gv_st q hq)
      cases hv : (Term.string q.1 q.2.1).eval args s none [] s with
      | none => simp [Cond.before, Cond.holds, Cond.value, hv] at h1
      | some v =>
        cases v with
        | ref a => exact ⟨a, rfl⟩
        | null => cases hc : s.vm.findClass "java/lang/String" <;> simp [Cond.before, Cond.holds, Cond.value, hv, hc] at h1
        | _ => simp [Cond.before, Cond.holds, Cond.value, hv] at h1
    exact ⟨a, vk_R.of (A := args) (hts _ (lt_st q hq)) ha⟩
  · have hk := sk_ng_ok w hw
    rw [Bool.and_eq_true] at hk
    exact va_tabs hk.2 rfl (hts w (sk_ng_in w hw))
theorem lw_Zs {args : Array Value} {s : State} (h : (Jvm.Cond.and given_1 narrow_1).before args s = true) (hts : ∀ w ∈ lw_tbl, w.before args s = true) : ∃ st : Nat → Nat, ∀ (G : va_G) (B : Nat) (cy : Nat → ClassId), sk_Zs (sk_O0 G B cy st) (fun q => s.heap.size ≤ q) s s.heap := by
  have hA : ∀ a : Nat, a < s.heap.size → ¬ s.heap.size ≤ a := fun a h1 h2 => by omega
  have hg := lw_gs h
  obtain ⟨t0, e0, T0⟩ := va_Tof (tm := .static "SkateSheet$Scoring" "JUMP_WORTHS" "[I") (N := 24) (f := fun j => .int ((sk_row 0).getD j 0)) (A := fun q => s.heap.size ≤ q) (by decide) (hg _ gv_0.1) (va_eqt (hg _ gv_0.2)) (fun j hj => va_eqt (hg _ (ge_0 j hj))) hA
  obtain ⟨t1, e1, T1⟩ := va_Tof (tm := .static "SkateSheet$Scoring" "SPIN_WORTHS" "[I") (N := 5) (f := fun j => .int ((sk_row 1).getD j 0)) (A := fun q => s.heap.size ≤ q) (by decide) (hg _ gv_1.1) (va_eqt (hg _ gv_1.2)) (fun j hj => va_eqt (hg _ (ge_1 j hj))) hA
  obtain ⟨t2, e2, T2⟩ := va_Tof (tm := .static "SkateSheet$Scoring" "STEP_WORTHS" "[I") (N := 5) (f := fun j => .int ((sk_row 2).getD j 0)) (A := fun q => s.heap.size ≤ q) (by decide) (hg _ gv_2.1) (va_eqt (hg _ gv_2.2)) (fun j hj => va_eqt (hg _ (ge_2 j hj))) hA
  refine ⟨fun z => match z with | 0 => t0 | 1 => t1 | _ => t2, fun G B cy => ⟨fun z hz => ?_, vx_Zqof (hts _ ls_UNASSIGNED_STACK) (hts _ li_th) (hg _ gv_th.1) hA, vx_Zqof (hts _ ls_SUPPRESSED_SENTINEL) (hts _ li_th) (hg _ gv_th.2) hA⟩⟩
  match z with
  | 0 => exact ⟨va_Zof (hts _ ls_JUMP_WORTHS) (hts _ li_sc) e0 hA, T0⟩
  | 1 => exact ⟨va_Zof (hts _ ls_SPIN_WORTHS) (hts _ li_sc) e1 hA, T1⟩
  | 2 => exact ⟨va_Zof (hts _ ls_STEP_WORTHS) (hts _ li_sc) e2 hA, T2⟩
  | z + 3 => omega
