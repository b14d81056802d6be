/-! methods that throw: their contracts, how they are entered and left -/
def sk_strs : List (String × Nat × String) := [(RX7, 202, "no such skater, element or part"), (RX7, 204, "what is not 0 to 4"), (RX7, 364, "call is not 0 to 3"), (RX7, 369, "the part does not take the call"), (RX7, 71, "c is not 0 to 255"), (RX7, 82, "the text is full"), (RX7, 97, "what is not 0 to 5"), (RX7, 128, "no such skater"), (RX7, 131, "what is not 0 to 7"), (RX7, 170, "no such skater or element"), (RX7, 172, "what is not 0 to 8"), (RX7, 221, "there are 4 skaters"), (RX7, 230, "the text is not a program"), (RX7, 237, "marks is not 0 to 161050"), (RX7, 246, "no such skater or component"), (RX7, 249, "marks is not 0 to 115856200"), (RX7, 271, "points is not 0 to 9"), (RX7, 282, "what or v is out of range"), (RX7, 291, "no state is remembered"), (RX7, 299, "the text is not a program of one element"), (RX7, 305, "what is not 0 to 2"), (RX7, 357, "no such save slot"), (RX7, 359, "nothing has been saved in the slot"), (RX7, 324, "n is not 1 to 3"), (RX7, 330, "script is negative or has too many digits"), (RX7, 348, "m is not 1 to 60")]
def sk_nm2 : List String := ["java/lang/RuntimeException", "java/lang/Exception"]
/-- the words of a throw that are not good ones -/
def sk_ng : List Cond := (vx_atS RX7 73 "java/lang/IllegalArgumentException" sk_nm2 ++ (vx_atS RX7 84 "java/lang/IllegalStateException" sk_nm2 ++ vx_atS RX7 130 "java/lang/IndexOutOfBoundsException" sk_nm2)).filter (fun w => !goodWord w)
theorem sk_ng_ok : ∀ w ∈ sk_ng, (w.keepsFace && w.onTables) = true := by decide +kernel
theorem sk_ng_in : ∀ w ∈ sk_ng, w ∈ lw_tbl := by decide +kernel
def sk_Sr (U : State) : Prop := (∀ q ∈ sk_strs, ∃ a, vk_R q.1 q.2.1 q.2.2 a U) ∧ ∀ w ∈ sk_ng, w.before #[] U = true
theorem sk_Sr.warm {s U : State} (h : sk_Sr s) (hW : s.WarmedH U.vm) : sk_Sr U := by
  refine ⟨fun q hq => ?_, fun w hw => ?_⟩
  · obtain ⟨a, ha⟩ := h.1 q hq
    exact ⟨a, vk_R.warm hW ha⟩
  · have hk := sk_ng_ok w hw
    rw [Bool.and_eq_true] at hk
    have h1 : w.before #[] (s.setVm U.vm) = true := Cond.before_shiftedFace (State.Shifted.of_warmed hW) _ hk.1 (h.2 w hw)
    exact va_tabs (u := s.setVm U.vm) (U := U) hk.2 rfl h1
def sk_xw (ik ic : Nat) (cls : String) : Prop := Bundle.fit cls = true ∧ Cond.classLink RX7 ik cls ∈ sk_tb ∧ Cond.initialized cls ∈ sk_tb ∧ (∀ w ∈ (vx_atS RX7 ic cls sk_nm2).filter goodWord, w ∈ sk_tb) ∧ ∀ w ∈ (vx_atS RX7 ic cls sk_nm2).filter (fun w => !goodWord w), w ∈ sk_ng
set_option maxRecDepth 100000 in
theorem xw_IndexOutOfBoundsException : sk_xw 126 130 "java/lang/IndexOutOfBoundsException" := ⟨by decide +kernel, by decide +kernel, by decide +kernel, fun w h => List.mem_filter.mpr ⟨(by decide +kernel : ∀ w ∈ (vx_atS RX7 130 "java/lang/IndexOutOfBoundsException" sk_nm2).filter goodWord, w ∈ lw_tbl) w h, (List.mem_filter.mp h).2⟩, by decide +kernel⟩
set_option maxRecDepth 100000 in
theorem xw_IllegalArgumentException : sk_xw 69 73 "java/lang/IllegalArgumentException" := ⟨by decide +kernel, by decide +kernel, by decide +kernel, fun w h => List.mem_filter.mpr ⟨(by decide +kernel : ∀ w ∈ (vx_atS RX7 73 "java/lang/IllegalArgumentException" sk_nm2).filter goodWord, w ∈ lw_tbl) w h, (List.mem_filter.mp h).2⟩, by decide +kernel⟩
set_option maxRecDepth 100000 in
theorem xw_IllegalStateException : sk_xw 80 84 "java/lang/IllegalStateException" := ⟨by decide +kernel, by decide +kernel, by decide +kernel, fun w h => List.mem_filter.mpr ⟨(by decide +kernel : ∀ w ∈ (vx_atS RX7 84 "java/lang/IllegalStateException" sk_nm2).filter goodWord, w ∈ lw_tbl) w h, (List.mem_filter.mp h).2⟩, by decide +kernel⟩
def sk_Px (O : sk_O) (M : sk_M) (sz : Nat) (as : List Value) : Array Value → State → Prop := va_Pc as (fun U => U.heap.size = sz ∧ sk_B O M U ∧ sk_Zs O (sk_A O sz) U U.heap ∧ sk_Sr U)
def sk_XC (O : sk_O) (sz : Nat) (xpost : String → sk_M → Prop) : String → State → State → Prop := vx_X (fun _ : sk_M => True) (fun E M' t => xpost E M' ∧ sk_B O M' t) (sk_A O sz)
def sk_Xi (l : Launch) (y : MethodName) (ws : List Cond) (rm : Room) (O : sk_O) (as : List Value) (M : sk_M) (post : Int32 → sk_M → Prop) (xpost : String → sk_M → Prop) : Prop :=
  rm.cells = 1 ∧ rm.slots = 6 ∧ ∀ sz, vx_Met l y ws rm (sk_Px O M sz as) (va_Qi post (sk_B O) (sk_A O sz)) (sk_XC O sz xpost) 1 6 (sk_A O sz)
def sk_Xv (l : Launch) (y : MethodName) (ws : List Cond) (rm : Room) (O : sk_O) (as : List Value) (M : sk_M) (post : sk_M → Prop) (xpost : String → sk_M → Prop) : Prop :=
  rm.cells = 1 ∧ rm.slots = 6 ∧ ∀ sz, vx_Met l y ws rm (sk_Px O M sz as) (va_Qv post (sk_B O) (sk_A O sz)) (sk_XC O sz xpost) 1 6 (sk_A O sz)
/-- an exception is under way at pc -/
def sk_V (l : Launch) (X : sk_X) (O : sk_O) (A : Nat → Prop) (Q : State → Prop) (nL kc ks : Nat) (M : sk_M) (pc : Nat) (lv : List (Nat × Value)) (st : List Value) (E : String) : Prop :=
  ∀ (H : Heap) (locs : List Loc) (ls : Array Slot) (ce : Cell) (q : Addr), va_P O.1 vwCl (sk_ws O M) H → va_S A (sk_s X).heap H locs → lv_has ls nL lv → H[q]? = some ce → ce.vm = .none → (sk_s X).vm.findClass E = some ce.cls →
    vx_W X.1 l X.2.1 X.2.2.1 (sk_s X) X.2.2.2.2.1 X.2.2.2.2.2.1 X.2.2.2.2.2.2.1 X.2.2.2.2.2.2.2.1 X.2.2.2.2.2.2.2.2 H locs kc ks Q (F0 X.2.2.2.2.1 pc ls st) q
def sk_thr (l : Launch) (X : sk_X) (cc : ByteArray) (rm : Room) (O : sk_O) (A : Nat → Prop) (Q : State → Prop) (nL : Nat) (xpost : String → sk_M → Prop) : Prop :=
  ∀ (cls text : String) (ik is ic : Nat) (M' : sk_M) (pc : Nat) (lv : List (Nat × Value)), sk_xw ik ic cls → (RX7, is, text) ∈ sk_strs → (5 < rm.frames ∧ 82 ≤ rm.locals) → decode cc pc = .ok (.new ik, 3) → decode cc (pc + 3) = .ok (.dup, 1) →
    ((decode cc (pc + 4) = .ok (.ldc is, 2) ∧ decode cc (pc + 6) = .ok (.invokespecial ic, 3) ∧ decode cc (pc + 9) = .ok (.athrow, 1)) ∨ (decode cc (pc + 4) = .ok (.ldc_w is, 3) ∧ decode cc (pc + 7) = .ok (.invokespecial ic, 3) ∧ decode cc (pc + 10) = .ok (.athrow, 1))) → xpost cls M' → sk_W l X O A Q nL 0 0 M' pc lv []
theorem sk_xthr {l : Launch} {p : Program} {e : Env} {y : MethodName} {ws : List Cond} {rm : Room} {cc : ByteArray} {maxL : Nat} {ret : Option FieldType} {s : State} {m : MethodId} {args : Array Value} {below : List Frame} {meth : Method} {c : Code} {s₁ : State} {O : sk_O} {sz : Nat} {xpost : String → sk_M → Prop} {Qc : Array Value → State → Outcome → State → Prop}
    (hl : l.stackTraces = false) (hrm : rm.cells = 1 ∧ rm.slots = 6) (B : BodyLoose p l y (headSpec ws rm) cc maxL ret e s m args below meth c s₁) (hml : c.maxLocals = maxL) (hex : ∀ x ∈ c.exceptionTable.toList, False) (hSr : sk_Sr s)
    (C : sk_C (p, e, (headSpec ws rm).room, s, m, args, below, meth, c) cc maxL RX7 rm O (sk_A O sz)) : sk_thr l (p, e, (headSpec ws rm).room, s, m, args, below, meth, c) cc rm O (sk_A O sz) (vx_MQ below Qc (sk_XC O sz xpost) args s 1 6 (sk_A O sz)) maxL xpost := by
  intro cls text ik is ic M' pc lv hw htx hR d0 d3 d hxp H locs ls hP hS hl0
  obtain ⟨sa, hsa⟩ := hSr.1 _ htx
  have hts := C.1.2.2.2.2
  have hat : ∀ w ∈ vx_atS RX7 ic cls sk_nm2, w.before args s = true := vx_hat (fun w h => hts w (hw.2.2.2.1 w h)) hw.2.2.2.2 (fun w h => by
    have hk := sk_ng_ok w h
    rw [Bool.and_eq_true] at hk
    exact va_tabs hk.2 rfl (hSr.2 w h))
  have hg : ∀ w ∈ Cond.classLink RX7 ik cls :: Cond.initialized cls :: vx_atS RX7 ic cls sk_nm2, vx_ot w = true := by
    intro w h
    have hm : w ∈ sk_tb ∨ w ∈ sk_ng := by
      rcases List.mem_cons.mp h with rfl | h
      · exact Or.inl hw.2.1
      · rcases List.mem_cons.mp h with rfl | h
        · exact Or.inl hw.2.2.1
        · by_cases g : goodWord w = true
          · exact Or.inl (hw.2.2.2.1 w (List.mem_filter.mpr ⟨h, g⟩))
          · exact Or.inr (hw.2.2.2.2 w (List.mem_filter.mpr ⟨h, by simpa using g⟩))
    rcases hm with hm | hm
    · simp [vx_ot, sk_good w hm]
    · have hk := sk_ng_ok w hm
      rw [Bool.and_eq_true] at hk
      simp [vx_ot, hk.2]
  have hx : ∀ t : State, s.vm.Alike t.vm → H.size ≤ t.heap.size → (∀ q : Nat, q < H.size → t.heap[q]? = H[q]?) → sk_XC O sz xpost cls s t := fun t hvm hz hq =>
    ⟨M', trivial, ⟨hxp, va_P.kept hP (fun k q hk => hq q.1 (hP k q hk).lt), va_K.moved hvm C.2.2.1⟩, Nat.le_trans hS.1 hz, fun q h1 h2 => by rw [hq q (Nat.lt_of_lt_of_le h1 hS.1)]; exact hS.2.1 q h1 h2⟩
  have hfr : sk_nm2.length + 3 < (headSpec ws rm).room.frames := hR.1
  have hlo : 0 + (13 * (sk_nm2.length + 1) + 43) ≤ (headSpec ws rm).room.locals := by have := hR.2; exact this
  have hce : 0 + 1 ≤ (headSpec ws rm).room.cells := by rw [show (headSpec ws rm).room.cells = 1 from hrm.1]; decide
  have hsl : 0 + 6 ≤ (headSpec ws rm).room.slots := by rw [show (headSpec ws rm).room.slots = 6 from hrm.2]; decide
  rcases d with ⟨d4, d6, d9⟩ | ⟨d4, d6, d9⟩
  · exact vx_throwS B.exec B.bytes hl C.1.2.2.2.1 hw.1 (by decide +kernel) (hts _ hw.2.1) (hts _ hw.2.2.1) hsa hat hg C.2.2.2.2.2.2.2.1 C.2.2.2.2.2.2.2.2 hS (hl0.1.trans hml.symm) d0 d3 d4 d6 d9 (fun x h => (hex x h).elim) hfr hlo hce hsl B.notSynchronized hx hS.2.2 (by decide) (by decide)
  · exact vx_throwSW B.exec B.bytes hl C.1.2.2.2.1 hw.1 (by decide +kernel) (hts _ hw.2.1) (hts _ hw.2.2.1) hsa hat hg C.2.2.2.2.2.2.2.1 C.2.2.2.2.2.2.2.2 hS (hl0.1.trans hml.symm) d0 d3 d4 d6 d9 (fun x h => (hex x h).elim) hfr hlo hce hsl B.notSynchronized hx hS.2.2 (by decide) (by decide)
theorem sk_xi {l : Launch} {y : MethodName} {cc : ByteArray} {maxL : Nat} {rm : Room} {O : sk_O} {as : List Value} {M : sk_M} {post : Int32 → sk_M → Prop} {xpost : String → sk_M → Prop} {ty : FieldType} (hl : l.stackTraces = false) (hy : plainName y.cls = true) (hcl : y.cls = RX7) (hrm : rm.cells = 1 ∧ rm.slots = 6) (hi : sk_inj O) (hlen : (lg_sl as).length ≤ maxL)
    (body : ∀ (X : sk_X) (A : Nat → Prop) (Q : State → Prop), sk_C X cc maxL RX7 rm O A → sk_Sr (sk_s X) →
      (∀ (r : Int32) (M' : sk_M) (pc : Nat) (lv : List (Nat × Value)) (kc ks : Nat), kc ≤ 1 → ks ≤ 6 → decode cc pc = .ok (.ireturn, 1) → narrow ty (.int r) = .int r → post r M' → sk_W l X O A Q maxL kc ks M' pc lv [.int r]) →
      sk_thr l X cc rm O A Q maxL xpost →
      (∀ (E : String) (M' : sk_M) (pc : Nat) (lv : List (Nat × Value)) (st : List Value), xpost E M' → sk_V l X O A Q maxL 1 6 M' pc lv st E) →
      sk_W l X O A Q maxL 0 0 M 0 (lv_args 0 as) []) : sk_Xi l y (sk_w y cc maxL (some ty)) rm O as M post xpost := by
  refine ⟨hrm.1, hrm.2, fun sz => ?_⟩
  refine vx_ofW (cc := cc) (maxL := maxL) (ret := some ty) hy rfl ?_
  intro p e s m args below meth c s₁ B hml hex hv
  obtain ⟨h1, h2, hB, hZ, hSr⟩ := hv
  obtain ⟨rfl, hsz, hP, C⟩ := sk_ent rfl hi B hml ⟨h1, h2, hB, hZ⟩
  rw [hcl] at C
  rw [lg_entry_eq]
  refine body (p, e, (headSpec (sk_w y cc maxL (some ty)) rm).room, s, m, as.toArray, below, meth, c) (sk_A O sz) _ C hSr (fun r M' pc lv kc ks hk1 hk2 d hn hp => ?_) (sk_xthr hl hrm B hml hex hSr C) (fun E M' pc lv st hxp => ?_) s.heap [] _ hP va_S.rf (lv_entry as hlen)
  · intro H locs ls hP hS hl0
    exact vx_ret (W.widen hk1 hk2 (W.zret (ty := ty) B.exec B.bytes B.returns hn (fun t ht hW => ⟨⟨r, M', rfl, hp, by rw [ht]; exact hP, va_K.moved hW.alike C.2.2.1⟩, hS.F ht⟩) hS.2.2 d B.notSynchronized))
  · intro H locs ls ce q hP hS hl0 hq hv hc
    exact vx_outP C.1.2.2.2.1 B.notSynchronized (fun z h => (hex z h).elim) hq hv hc (fun t ht hvm => ⟨M', trivial, ⟨hxp, by rw [ht]; exact hP, va_K.moved hvm C.2.2.1⟩, hS.F ht⟩) hS.2.2 (by decide) (by decide)
theorem sk_xv {l : Launch} {y : MethodName} {cc : ByteArray} {maxL : Nat} {rm : Room} {O : sk_O} {as : List Value} {M : sk_M} {post : sk_M → Prop} {xpost : String → sk_M → Prop} (hl : l.stackTraces = false) (hy : plainName y.cls = true) (hcl : y.cls = RX7) (hrm : rm.cells = 1 ∧ rm.slots = 6) (hi : sk_inj O) (hlen : (lg_sl as).length ≤ maxL)
    (body : ∀ (X : sk_X) (A : Nat → Prop) (Q : State → Prop), sk_C X cc maxL RX7 rm O A → sk_Sr (sk_s X) →
      (∀ (M' : sk_M) (pc : Nat) (lv : List (Nat × Value)) (kc ks : Nat), kc ≤ 1 → ks ≤ 6 → decode cc pc = .ok (.return_, 1) → post M' → sk_W l X O A Q maxL kc ks M' pc lv []) →
      sk_thr l X cc rm O A Q maxL xpost →
      (∀ (E : String) (M' : sk_M) (pc : Nat) (lv : List (Nat × Value)) (st : List Value), xpost E M' → sk_V l X O A Q maxL 1 6 M' pc lv st E) →
      sk_W l X O A Q maxL 0 0 M 0 (lv_args 0 as) []) : sk_Xv l y (sk_w y cc maxL none) rm O as M post xpost := by
  refine ⟨hrm.1, hrm.2, fun sz => ?_⟩
  refine vx_ofW (cc := cc) (maxL := maxL) (ret := none) hy rfl ?_
  intro p e s m args below meth c s₁ B hml hex hv
  obtain ⟨h1, h2, hB, hZ, hSr⟩ := hv
  obtain ⟨rfl, hsz, hP, C⟩ := sk_ent rfl hi B hml ⟨h1, h2, hB, hZ⟩
  rw [hcl] at C
  rw [lg_entry_eq]
  refine body (p, e, (headSpec (sk_w y cc maxL none) rm).room, s, m, as.toArray, below, meth, c) (sk_A O sz) _ C hSr (fun M' pc lv kc ks hk1 hk2 d hp => ?_) (sk_xthr hl hrm B hml hex hSr C) (fun E M' pc lv st hxp => ?_) s.heap [] _ hP va_S.rf (lv_entry as hlen)
  · intro H locs ls hP hS hl0
    exact vx_ret (W.widen hk1 hk2 (W.vret B.exec B.bytes B.returns (fun t ht hW => ⟨⟨M', rfl, hp, by rw [ht]; exact hP, va_K.moved hW.alike C.2.2.1⟩, hS.F ht⟩) hS.2.2 d B.notSynchronized))
  · intro H locs ls ce q hP hS hl0 hq hv hc
    exact vx_outP C.1.2.2.2.1 B.notSynchronized (fun z h => (hex z h).elim) hq hv hc (fun t ht hvm => ⟨M', trivial, ⟨hxp, by rw [ht]; exact hP, va_K.moved hvm C.2.2.1⟩, hS.F ht⟩) hS.2.2 (by decide) (by decide)
