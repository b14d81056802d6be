/-! The law's guarded calls: contracts, entry, call -/
def sk_BL (O : sk_O) (a : Nat) (cL : ClassId) (u : sk_M × Int64) (t : State) : Prop := va_P O.1 vwCl (sk_ws O u.1) t.heap ∧ va_at O.1 vwCl (a, sk_lc cL u.2) t.heap ∧ va_K O.1 vwCl (sk_ty O) t ∧ va_K O.1 vwCl [(cL, .long)] t
def sk_AL (O : sk_O) (a sz : Nat) : Nat → Prop := fun q => sk_A O sz q ∨ q = a
def sk_PL (O : sk_O) (M : sk_M) (a : Nat) (cL : ClassId) (v : Int64) (sz : Nat) (as : List Value) : Array Value → State → Prop := va_Pc as (fun U => U.heap.size = sz ∧ sk_BL O a cL (M, v) U ∧ (∀ k, k < sk_n O → sk_ad O k ≠ a) ∧ sk_Zs O (sk_AL O a sz) U U.heap ∧ sk_Sr U ∧ sk_Nx U)
def sk_G (l : Launch) (y : MethodName) (ws : List Cond) (rm : Room) (O : sk_O) (a : Nat) (cL : ClassId) (as : List Value) (M : sk_M) (v : Int64) (post : Int32 → sk_M × Int64 → Prop) : Prop :=
  rm.cells = 1 ∧ rm.slots = 6 ∧ ∀ sz, Met l y ws rm (sk_PL O M a cL v sz as) (va_Qi post (sk_BL O a cL) (sk_AL O a sz)) 1 6 (sk_AL O a sz)
theorem sk_blindL {O : sk_O} {M : sk_M} {a : Nat} {cL : ClassId} {v : Int64} {sz : Nat} {as : List Value} : FrameBlind (sk_PL O M a cL v sz as) := by
  intro ar U g mk q
  obtain ⟨q0, q1, ⟨qP, qa, qK, qL⟩, qn, qZ, qS, qN⟩ := q
  exact ⟨q0, q1, ⟨qP, qa, va_K.moved (u := U) (U := U.calling g mk ar) (Vm.Alike.refl U.vm) qK, va_K.moved (u := U) (U := U.calling g mk ar) (Vm.Alike.refl U.vm) qL⟩, qn, qZ.go (u := U) (U := U.calling g mk ar) (Vm.Alike.refl U.vm) (fun _ _ _ => rfl) (fun _ h => h), sk_Sr.same (u := U) (U := U.calling g mk ar) rfl qS, sk_Nx.same (u := U) (U := U.calling g mk ar) rfl qN⟩
theorem sk_gi {l : Launch} {y : MethodName} {cc : ByteArray} {maxL : Nat} {rm : Room} {O : sk_O} {a : Nat} {cL : ClassId} {as : List Value} {M : sk_M} {v : Int64} {post : Int32 → sk_M × Int64 → Prop} {hh : List (Nat × Nat × Nat × Nat)} (hy : plainName y.cls = true) (hrm : rm.cells = 1 ∧ rm.slots = 6) (hi : sk_inj O) (hlen : (lg_sl as).length ≤ maxL)
    (body : ∀ (X : sk_X) (A : Nat → Prop) (Q : State → Prop), sk_C X cc maxL y.cls rm O A → sk_LC X O A a cL → sk_Sr (sk_s X) → sk_Nx (sk_s X) → X.2.2.2.2.2.2.2.2.exceptionTable.toList = tableOf hh →
      (∀ (r : Int32) (M' : sk_M) (v' : Int64) (pc : Nat) (lv : List (Nat × Value)) (kc ks : Nat), kc ≤ 1 → ks ≤ 6 → decode cc pc = .ok (.ireturn, 1) → post r (M', v') → sk_L l X O A Q a cL v' maxL kc ks M' pc lv [.int r]) →
      sk_L l X O A Q a cL v maxL 0 0 M 0 (lv_args 0 as) []) : sk_G l y (Cond.codeWith y cc maxL (some .int) hh :: sk_tb) rm O a cL as M v post := by
  refine ⟨hrm.1, hrm.2, fun sz => ?_⟩
  refine va_MetW (cc := cc) (maxL := maxL) (ret := some .int) (hh := hh) (ws' := sk_tb) hy rfl ?_
  intro p e s m args below meth c s₁ B hml hv
  obtain ⟨rfl, h2, ⟨hP, ha, hK, hKL⟩, hn, hZ, hSr, hNx⟩ := hv
  have hts0 := atoms_spec (ws := Cond.codeWith y cc maxL (some .int) hh :: sk_tb) B.pre
  have C : sk_C (p, e, (headSpec (Cond.codeWith y cc maxL (some .int) hh :: sk_tb) rm).room, s, m, as.toArray, below, meth, c) cc maxL y.cls rm O (sk_AL O a sz) :=
    ⟨⟨B.exec, B.bytes, hml, findClass_of_methodNamed B.named, fun w hw => hts0 w (List.mem_cons_of_mem _ hw)⟩, rfl, hK, hi, fun k hk => Or.inl (Or.inl ⟨k, hk, rfl⟩), fun q hq => Or.inl (Or.inr (by rw [← h2]; exact hq)), hZ⟩
  have hlocks := B.notSynchronized
  rw [lg_entry_eq]
  refine body (p, e, (headSpec (Cond.codeWith y cc maxL (some .int) hh :: sk_tb) rm).room, s, m, as.toArray, below, meth, c) (sk_AL O a sz) _ C ⟨hn, Or.inr rfl, hKL⟩ hSr hNx (vx_table (x := y) B (hts0 _ List.mem_cons_self)) (fun r M' v' pc lv kc ks hk1 hk2 d hp => ?_) s.heap [] _ hP ha va_S.rf (lv_entry as hlen)
  intro H locs ls hP1 ha1 hS hl
  exact W.widen hk1 hk2 (W.zret (ty := .int) B.exec B.bytes B.returns rfl (fun t ht hW => ⟨⟨r, (M', v'), rfl, hp, by rw [ht]; exact hP1, by rw [ht]; exact ha1, va_K.moved hW.alike hK, va_K.moved hW.alike hKL⟩, hS.F ht⟩) hS.2.2 d hlocks)
/-- a guarded method as the law calls it -/
def sk_yg (y : MethodName) (cc : ByteArray) (maxL : Nat) (hh : List (Nat × Nat × Nat × Nat)) (n : Nat) : Prop := Cond.codeWith y cc maxL (some .int) hh ∈ sk_tb ∧ Cond.initialized y.cls ∈ sk_tb ∧ (y.cls ≠ "java/lang/invoke/MethodHandle" ∧ y.cls ≠ "java/lang/invoke/VarHandle") ∧ (parseMethodDescriptor y.desc).map (fun d => d.parameters.length) = some n ∧ Cond.static y ∈ sk_tb
section SKG
variable {l : Launch} {X : sk_X} {cc : ByteArray} {nL : Nat} {own : String} {rm : Room} {O : sk_O} {A : Nat → Prop} {Q : State → Prop} {a : Nat} {cL : ClassId} {v0 : Int64} {kc ks : Nat} {M : sk_M} {pc : Nat} {lv : List (Nat × Value)} {st : List Value}
theorem l_gi (C : sk_C X cc nL own rm O A) (L : sk_LC X O A a cL) (hSr : sk_Sr (sk_s X)) (hNx : sk_Nx (sk_s X)) {y : MethodName} {ccY : ByteArray} {maxL idx n : Nat} {hh : List (Nat × Nat × Nat × Nat)} {rmY : Room} {as st0 : List Value} {post : Int32 → sk_M × Int64 → Prop} (hy : sk_yg y ccY maxL hh n) (hl : Cond.methodLink own idx y ∈ sk_tb) (hM : sk_G l y (Cond.codeWith y ccY maxL (some .int) hh :: sk_tb) rmY O a cL as M v0 post) (hn : as.length = n) (hst : st0 = as.reverse ++ st) (hcat : (st.map fun v => v.category).sum ≤ 8) (hR : (rmY.frames + 1 ≤ rm.frames ∧ 8 + (maxL + 11) + rmY.locals ≤ rm.locals) ∧ kc + 1 ≤ rm.cells ∧ ks + 6 ≤ rm.slots) (d : decode cc pc = .ok (.invokestatic idx, 3)) (K : ∀ (x : Int32) (M' : sk_M) (v' : Int64), post x (M', v') → sk_L l X O A Q a cL v' nL (kc + 1) (ks + 6) M' (pc + 3) lv (.int x :: st)) : sk_L l X O A Q a cL v0 nL kc ks M pc lv st0 := by
  intro H locs ls hP ha hS hl0
  have hF0 := sk_Ax C.2.2.2.2.1 C.2.2.2.2.2.1 hS.1
  have hF : ∀ q, sk_AL O a H.size q → A q := fun q h => h.elim (hF0 q) (fun e => by rw [e]; exact L.2.1)
  have hts := C.1.2.2.2.2
  have hw : ∀ w ∈ sk_tb, ∀ (a' : Array Value) (U : State), (sk_s X).WarmedH U.vm → w.before a' U = true := fun w h a' U hW => word_at hW (good_of_word (sk_good w h)) (hts w h)
  have cw : vx_CSW X.2.2.1 (sk_s X) X.2.2.2.2.2.1 own idx y ccY maxL (some .int) hh (Cond.codeWith y ccY maxL (some .int) hh :: sk_tb) rmY 1 6 n := by
    refine ⟨⟨hM.1, hM.2.1, by rw [C.2.1]; exact hR.1.1, by rw [C.2.1]; exact hR.1.2, fun w h => ?_, List.mem_cons_self⟩, hts _ hy.1, hts _ hy.2.1, hy.2.2.1, fun sig hs => ?_, hts _ hl, hts _ hy.2.2.2.2⟩
    · rcases List.mem_cons.mp h with rfl | h
      · exact hw _ hy.1
      · exact hw _ h
    · have h := hy.2.2.2.1
      rw [hs] at h
      exact (Option.some.inj h).symm
  refine va_calli (vx_runSW (As := as) (rest := st) C.1 (hM.2.2 H.size) cw ⟨sk_blindL, fun U hU hW => ⟨rfl, by rw [hU], ⟨by rw [hU]; exact hP, by rw [hU]; exact ha, va_K.moved hW.alike C.2.2.1, va_K.moved hW.alike L.2.2⟩, L.1, C.2.2.2.2.2.2.go hW.alike (fun q h1 h2 => by rw [hU]; exact hS.2.1 q h1 h2) hF, hSr.warm hW, hNx.warm hW⟩⟩ rfl hn hl0.1 hst (lv_room hcat) d ⟨by rw [C.2.1]; exact hR.2.1, by rw [C.2.1]; exact hR.2.2⟩) hS (fun q _ h => hF q h) hF (fun x u t H1 locs1 ht hvm hw1 hB hz1 hk1 hS1 => ?_)
  exact K x u.1 u.2 hw1 H1 locs1 ls (by rw [← ht]; exact hB.1) (by rw [← ht]; exact hB.2.1) hS1 hl0
end SKG
/-- what a guarded call leaves: its answer's number, and the answer in the cell -/
def sk_gq (ns : List String) (post : Int32 → sk_M → Prop) (xpost : String → sk_M → Prop) (x : Int32) (u : sk_M × Int64) : Prop := ∃ (n : Nat) (r : Int32), x = nI n ∧ n ≤ 3 ∧ wv ns post xpost n r u.1 ∧ (n = 0 → u.2 = r.toInt64)
