/-! The start: classes and array classes, as the tables have them -/
theorem lw_arr {args : Array Value} {s : State} {ty : FieldType} (hn : ∀ C, ty ≠ .object C) (h : (Cond.arrayClass ty).before args s = true) : ∃ c : ClassId, ArrOfT s c ty ∧ va_RA s c ty := by
  obtain ⟨c, k, comp, h1, h2, h3⟩ := Cond.arrayClass_spec (first := s) (o := none) (idx := []) h
  refine ⟨c, fun N z => ⟨(fun k h => by cases h), k, h2, comp, h3⟩, ?_⟩
  unfold va_RA
  split
  · rename_i C
    exact absurd rfl (hn C)
  · exact h1
theorem lw_ovr {args : Array Value} {s : State} {C : String} (h : (Cond.arrayOver (.object C)).before args s = true) : ∃ c : ClassId, ArrOfT s c (.object C) ∧ va_RA s c (.object C) := by
  obtain ⟨comp, c, k, h1, h2, h3, h4, h5⟩ := Cond.arrayOver_spec (first := s) (o := none) (idx := []) h
  exact ⟨c, fun N z => ⟨(fun k h => by cases h), k, h3, comp, h4⟩, k, comp, h3, h4, h1, h5⟩
theorem lw_cls {args : Array Value} {s : State} (hts : ∀ w ∈ sk_tb, w.before args s = true) (c : Nat) : ∃ p : ClassId × (Nat → Nat), ∀ q : vw_C, vwCl[c]? = some q → u_Kn s q.1 q.2.1 q.2.2 p.1 p.2 := by
  have one : ∀ {C : String} {T : u_T} {N ci : Nat}, sk_cl ci (C, T, N) → Cond.instantiable C N ∈ sk_tb → ∃ p : ClassId × (Nat → Nat), ∀ q : vw_C, some (C, T, N) = some q → u_Kn s q.1 q.2.1 q.2.2 p.1 p.2 := fun kcl hn => by
    obtain ⟨cC, iS, h⟩ := u_known hts kcl.2 (hts _ hn)
    exact ⟨(cC, iS), fun q hq => by cases hq; exact h⟩
  match c with
  | 0 => exact one kcl_X0 nw_X0
  | 1 => exact one kcl_X1 nw_X1
  | 2 => exact one kcl_X2 nw_X2
  | 3 => exact one kcl_X3 nw_X3
  | 4 => exact one kcl_X4 nw_X4
  | 5 => exact one kcl_X5 nw_X5
  | 6 => exact one kcl_X6 nw_X6
  | 7 => exact one kcl_X7 nw_X7
  | n + 8 =>
    obtain ⟨cC, iS, h⟩ := u_known hts kcl_X0.2 (hts _ nw_X0)
    exact ⟨(cC, iS), fun q hq => by cases hq⟩
theorem lw_K {args : Array Value} {s : State} (hts : ∀ w ∈ lw_tbl, w.before args s = true) : ∃ (G : va_G) (cy : Nat → ClassId), (∀ (B : Nat) (st : Nat → Nat), va_K G vwCl (sk_ty (sk_O0 G B cy st)) s) ∧ sk_ao s := by
  have htb : ∀ w ∈ sk_tb, w.before args s = true := fun w h => hts w (List.mem_filter.mp h).1
  obtain ⟨f, hf⟩ := Classical.skolem.mp (lw_cls htb)
  obtain ⟨c0, a0, r0⟩ := lw_arr (ty := .int) (fun C h => by cases h) (htb _ arc_int)
  obtain ⟨c1, a1, r1⟩ := lw_arr (ty := .boolean) (fun C h => by cases h) (htb _ arc_boolean)
  have o2 := hts (.arrayOver (.object "SkateSheet$Program")) (List.mem_of_getElem? (i := 51) (by decide +kernel))
  have o3 := hts (.arrayOver (.object "SkateSheet$State")) (List.mem_of_getElem? (i := 144) (by decide +kernel))
  obtain ⟨c2, a2, r2⟩ := lw_ovr o2
  obtain ⟨c3, a3, r3⟩ := lw_ovr o3
  refine ⟨(fun c => (f c).1, fun c => (f c).2), fun z => match z with | 0 => c0 | 1 => c1 | 2 => c2 | _ => c3, fun B st => ⟨fun c q hq => hf c q hq, fun k q hk => ?_⟩, ?_⟩
  · match k with
    | 0 => cases hk; exact ⟨a0, r0⟩
    | 1 => cases hk; exact ⟨a1, r1⟩
    | 2 => cases hk; exact ⟨a2, r2⟩
    | 3 => cases hk; exact ⟨a3, r3⟩
    | k + 4 => cases hk
  · exact ⟨va_AO.of o2, va_AO.of o3⟩
