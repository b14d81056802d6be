/-! The law's methods: contracts that give up to nc cells to exceptions; how they are entered and called; a call that is caught -/
/-- the exceptions that the class throws are none of each other's -/
def sk_en : List String := ["java/lang/IndexOutOfBoundsException", "java/lang/IllegalArgumentException", "java/lang/IllegalStateException"]
def sk_cst : List Cond := sk_en.map (fun x => Cond.castable x x)
theorem sk_cst_ok : ∀ w ∈ sk_cst, (w.keepsFace && w.onTables) = true := by decide +kernel
theorem sk_cst_in : ∀ w ∈ sk_cst, w ∈ lw_tbl := by decide +kernel
def sk_Nx (U : State) : Prop := (∀ x ∈ sk_en, ∀ y ∈ sk_en, x ≠ y → va_Nc x y U) ∧ ∀ w ∈ sk_cst, w.before #[] U = true
theorem sk_Nx.warm {s U : State} (h : sk_Nx s) (hW : s.WarmedH U.vm) : sk_Nx U := by
  refine ⟨fun x hx y hy ne => va_Nc.moved hW.alike (h.1 x hx y hy ne), fun w hw => ?_⟩
  have hk := sk_cst_ok w hw
  rw [Bool.and_eq_true] at hk
  have h1 : w.before #[] (s.setVm U.vm) = true := Cond.before_shiftedFace (State.Shifted.of_warmed hW) _ hk.1 (h.2 w hw)
  exact va_tabs (u := s.setVm U.vm) (U := U) hk.2 rfl h1
theorem sk_Nx.same {u U : State} (hv : U.vm = u.vm) (h : sk_Nx u) : sk_Nx U := by
  refine ⟨fun x hx y hy ne => va_Nc.moved (by rw [hv]; exact Vm.Alike.refl u.vm) (h.1 x hx y hy ne), fun w hw => ?_⟩
  have hk := sk_cst_ok w hw
  rw [Bool.and_eq_true] at hk
  exact va_tabs (u := u) (U := U) hk.2 hv.symm (h.2 w hw)
def sk_PK (O : sk_O) (M : sk_M) (sz : Nat) (as : List Value) : Array Value → State → Prop := va_Pc as (fun U => U.heap.size = sz ∧ sk_B O M U ∧ sk_Zs O (sk_A O sz) U U.heap ∧ sk_Sr U ∧ sk_Nx U)
/-- a contract of the law's methods: nc cells of 6 slots at most go to exceptions -/
def sk_K (l : Launch) (y : MethodName) (ws : List Cond) (rm : Room) (O : sk_O) (as : List Value) (M : sk_M) (nc : Nat) (post : Int32 → sk_M → Prop) : Prop :=
  rm.cells = nc ∧ rm.slots = 6 * nc ∧ ∀ sz, Met l y ws rm (sk_PK O M sz as) (va_Qi post (sk_B O) (sk_A O sz)) nc (6 * nc) (sk_A O sz)
theorem sk_blindK {O : sk_O} {M : sk_M} {sz : Nat} {as : List Value} : FrameBlind (sk_PK O M sz as) := by
  intro ar U g mk q
  obtain ⟨q0, q1, ⟨qP, qK⟩, qZ, qS, qN⟩ := q
  exact ⟨q0, q1, ⟨qP, va_K.moved (u := U) (U := U.calling g mk ar) (Vm.Alike.refl U.vm) qK⟩, qZ.go (u := U) (U := U.calling g mk ar) (Vm.Alike.refl U.vm) (fun _ _ _ => rfl) (fun _ h => h), sk_Sr.same (u := U) (U := U.calling g mk ar) rfl qS, sk_Nx.same (u := U) (U := U.calling g mk ar) rfl qN⟩
section SKG
variable {l : Launch} {X : sk_X} {cc : ByteArray} {nL : Nat} {own : String} {rm : Room} {O : sk_O} {A : Nat → Prop} {Q : State → Prop} {kc ks : Nat} {M : sk_M} {pc : Nat} {lv : List (Nat × Value)} {st : List Value}
theorem k_widen {k n : Nat} (h1 : kc ≤ k) (h2 : ks ≤ n) (K : sk_W l X O A Q nL k n M pc lv st) : sk_W l X O A Q nL kc ks M pc lv st :=
  fun H locs ls hP hS hl => W.widen h1 h2 (K H locs ls hP hS hl)
theorem k_xi (C : sk_C X cc nL own rm O A) (hSr : sk_Sr (sk_s X)) {y : MethodName} {ccY : ByteArray} {maxL idx n k ci N : Nat} {ret : FieldType} {rmY : Room} {r : Nat → Option Nat} {as st0 : List Value} {post : Int32 → sk_M → Prop} {xpost : String → sk_M → Prop} (hy : sk_yv y ccY maxL (some ret) n) (hv : Cond.instanceMethod y ∈ sk_tb ∧ Cond.selects y.cls y y ∈ sk_tb) (hl : Cond.methodLink own idx y ∈ sk_tb) (hM : sk_Xi l y (sk_w y ccY maxL (some ret)) rmY O (.ref (sk_ad O k) :: as) M post xpost) (ho : sk_is O k (ci + 4, N, r)) (hcl : (vwCl[ci]?).map (fun q => q.1) = some y.cls) (hn : as.length = n) (hst : st0 = as.reverse ++ .ref (sk_ad O k) :: st) (hcat : (st.map fun v => v.category).sum ≤ 8) (hR : (rmY.frames + 1 ≤ rm.frames ∧ 8 + (maxL + 11) + rmY.locals ≤ rm.locals) ∧ kc + 1 ≤ rm.cells ∧ ks + 6 ≤ rm.slots) (d : decode cc pc = .ok (.invokevirtual idx, 3)) (KX : ∀ (E : String) (M' : sk_M), xpost E M' → sk_V l X O A Q nL (kc + 1) (ks + 6) M' pc lv st E) (K : ∀ (x : Int32) (M' : sk_M), post x M' → sk_W l X O A Q nL (kc + 1) (ks + 6) M' (pc + 3) lv (.int x :: st)) : sk_W l X O A Q nL kc ks M pc lv st0 := by
  intro H locs ls hP hS hl0
  have hF := sk_Ax C.2.2.2.2.1 C.2.2.2.2.2.1 hS.1
  refine vx_calli (vx_runV (C := y.cls) (As := as) (rest := st) C.1 (hM.2.2 H.size) ⟨sk_cb C hy hl ⟨hM.1, hM.2.1⟩ hR.1, C.1.2.2.2.2 _ hv.1, C.1.2.2.2.2 _ hv.2⟩ ⟨sk_blindX, sk_rcv C hP ho hcl, fun U hU hW => ⟨(sk_pre (as := .ref (sk_ad O k) :: as) C hP hS U hU hW).1, (sk_pre (as := .ref (sk_ad O k) :: as) C hP hS U hU hW).2.1, (sk_pre (as := .ref (sk_ad O k) :: as) C hP hS U hU hW).2.2.1, (sk_pre (as := .ref (sk_ad O k) :: as) C hP hS U hU hW).2.2.2, hSr.warm hW⟩⟩ rfl hn hl0.1 hst (lv_room hcat) d ⟨by rw [C.2.1]; exact hR.2.1, by rw [C.2.1]; exact hR.2.2⟩) hS (fun q _ h => hF q h) hF (fun q _ h => hF q h) (fun E ce q9 u t H1 locs1 ht hvm hpx hBX hz hk hS1 hq hvn hcls => ?_) (fun x u t H1 locs1 ht hvm hw hB hz1 hk1 hS1 => ?_)
  · exact KX E u hBX.1 H1 locs1 ls ce q9 (by rw [← ht]; exact hBX.2.1) hS1 hl0 hq hvn hcls
  · exact K x u hw H1 locs1 ls (by rw [← ht]; exact hB.1) hS1 hl0
theorem k_catch (C : sk_C X cc nL own rm O A) (hNx : sk_Nx (sk_s X)) {hh : List (Nat × Nat × Nat × Nat)} (htab : X.2.2.2.2.2.2.2.2.exceptionTable.toList = tableOf hh) {E : String} (hE : E ∈ sk_en) (i : Nat) {p0 p1 hp ct : Nat} (hi : hh[i]? = some (p0, p1, hp, ct)) (hpass : ∀ z ∈ hh.take i, z.2.2.2 ≠ 0 ∧ ∃ nm, Cond.classLink own z.2.2.2 nm ∈ sk_tb ∧ nm ∈ sk_en ∧ E ≠ nm) (hcov : p0 ≤ pc ∧ pc < p1) (hct : ct ≠ 0) (hlink : Cond.classLink own ct E ∈ sk_tb) (K : ∀ q : Nat, sk_W l X O A Q nL kc ks M hp lv [.ref q]) : sk_V l X O A Q nL kc ks M pc lv st E := by
  intro H locs ls ce q hP hS hl hq hv hc
  have hlt : i < hh.length := (List.getElem?_eq_some_iff.mp hi).1
  have hsp : hh = hh.take i ++ (p0, p1, hp, ct) :: hh.drop (i + 1) := by
    have e : hh[i] = (p0, p1, hp, ct) := (List.getElem?_eq_some_iff.mp hi).2
    rw [← e, ← List.drop_eq_getElem_cons hlt, List.take_append_drop]
  have htb : tableOf hh = tableOf (hh.take i) ++ (⟨p0, p1, hp, ct⟩ : ExceptionTableEntry) :: tableOf (hh.drop (i + 1)) := by
    have h := congrArg tableOf hsp
    refine h.trans ?_
    unfold tableOf
    rw [List.map_append, List.map_cons]
  refine vx_catch (name := E) C.1.2.2.2.1 (tableOf (hh.take i)) ⟨p0, p1, hp, ct⟩ (tableOf (hh.drop (i + 1))) (htab.trans htb) (fun z hz => ?_) ?_ hct (C.1.2.2.2.2 _ hlink) (va_tabs (by have hk := sk_cst_ok _ (List.mem_map.mpr ⟨E, hE, rfl⟩); rw [Bool.and_eq_true] at hk; exact hk.2) rfl (hNx.2 _ (List.mem_map.mpr ⟨E, hE, rfl⟩))) hq hv hc (K q H locs ls hP hS hl)
  · obtain ⟨y, hy, rfl⟩ := List.mem_map.mp hz
    obtain ⟨h0, nm, h1, h2, h3⟩ := hpass y hy
    exact Or.inr ⟨h0, nm, C.1.2.2.2.2 _ h1, hNx.1 E hE nm h2 h3⟩
  · simp [covers, hcov.1, hcov.2]
/-- a method of the law as the law calls it: guarded (with its table), or not -/
def sk_yg (y : MethodName) (cc : ByteArray) (maxL : Nat) (hh : List (Nat × Nat × Nat × Nat)) (n : Nat) : Prop := Cond.codeWith y cc maxL (some .int) hh ∈ sk_tb ∧ Cond.initialized y.cls ∈ sk_tb ∧ (y.cls ≠ "java/lang/invoke/MethodHandle" ∧ y.cls ≠ "java/lang/invoke/VarHandle") ∧ (parseMethodDescriptor y.desc).map (fun d => d.parameters.length) = some n ∧ Cond.static y ∈ sk_tb
theorem sk_preK (C : sk_C X cc nL own rm O A) (hSr : sk_Sr (sk_s X)) (hNx : sk_Nx (sk_s X)) {H : Heap} {locs : List Loc} (hP : va_P O.1 vwCl (sk_ws O M) H) (hS : va_S A (sk_s X).heap H locs) {as : List Value} (U : State) (hU : U.heap = H) (hW : (sk_s X).WarmedH U.vm) : sk_PK O M H.size as as.toArray U :=
  ⟨rfl, by rw [hU], ⟨by rw [hU]; exact hP, va_K.moved hW.alike C.2.2.1⟩, C.2.2.2.2.2.2.go hW.alike (fun a h1 h2 => by rw [hU]; exact hS.2.1 a h1 h2) (sk_Ax C.2.2.2.2.1 C.2.2.2.2.2.1 hS.1), hSr.warm hW, hNx.warm hW⟩
theorem k_kg (C : sk_C X cc nL own rm O A) (hSr : sk_Sr (sk_s X)) (hNx : sk_Nx (sk_s X)) (kn : Nat) {nc : Nat} {y : MethodName} {ccY : ByteArray} {maxL idx n : Nat} {hh : List (Nat × Nat × Nat × Nat)} {rmY : Room} {as st0 : List Value} {post : Int32 → sk_M → Prop} (hy : sk_yg y ccY maxL hh n) (hl : Cond.methodLink own idx y ∈ sk_tb) (hM : sk_K l y (Cond.codeWith y ccY maxL (some .int) hh :: sk_tb) rmY O as M nc post) (hn : as.length = n) (hst : st0 = as.reverse ++ st) (hcat : (st.map fun v => v.category).sum ≤ 8) (hR : (rmY.frames + 1 ≤ rm.frames ∧ 8 + (maxL + 11) + rmY.locals ≤ rm.locals) ∧ kc + nc ≤ kn ∧ kn ≤ rm.cells ∧ 6 * kn ≤ rm.slots) (d : decode cc pc = .ok (.invokestatic idx, 3)) (K : ∀ (x : Int32) (M' : sk_M), post x M' → sk_W l X O A Q nL kn (6 * kn) M' (pc + 3) lv (.int x :: st)) : sk_W l X O A Q nL kc (6 * kc) M pc lv st0 := by
  intro H locs ls hP hS hl0
  have hF := sk_Ax C.2.2.2.2.1 C.2.2.2.2.2.1 hS.1
  have hts := C.1.2.2.2.2
  have hw : ∀ w ∈ sk_tb, ∀ (a' : Array Value) (U : State), (sk_s X).WarmedH U.vm → w.before a' U = true := fun w h a' U hW => word_at hW (good_of_word (sk_good w h)) (hts w h)
  have cw : vx_CSW X.2.2.1 (sk_s X) X.2.2.2.2.2.1 own idx y ccY maxL (some .int) hh (Cond.codeWith y ccY maxL (some .int) hh :: sk_tb) rmY nc (6 * nc) n := by
    refine ⟨⟨hM.1, hM.2.1, by rw [C.2.1]; exact hR.1.1, by rw [C.2.1]; exact hR.1.2, fun w h => ?_, List.mem_cons_self⟩, hts _ hy.1, hts _ hy.2.1, hy.2.2.1, fun sig hs => ?_, hts _ hl, hts _ hy.2.2.2.2⟩
    · rcases List.mem_cons.mp h with rfl | h
      · exact hw _ hy.1
      · exact hw _ h
    · have h := hy.2.2.2.1
      rw [hs] at h
      exact (Option.some.inj h).symm
  refine va_calli (vx_runSW (As := as) (rest := st) C.1 (hM.2.2 H.size) cw ⟨sk_blindK, fun U hU hW => sk_preK C hSr hNx hP hS U hU hW⟩ rfl hn hl0.1 hst (lv_room hcat) d ⟨by rw [C.2.1]; exact Nat.le_trans hR.2.1 hR.2.2.1, by rw [C.2.1]; refine Nat.le_trans ?_ hR.2.2.2; rw [← Nat.mul_add]; exact Nat.mul_le_mul_left 6 hR.2.1⟩) hS (fun q _ h => hF q h) hF (fun x u t H1 locs1 ht hvm hw1 hB hz1 hk1 hS1 => ?_)
  exact W.widen hR.2.1 (by rw [← Nat.mul_add]; exact Nat.mul_le_mul_left 6 hR.2.1) (K x u hw1 H1 locs1 ls (by rw [← ht]; exact hB.1) hS1 hl0)
theorem k_ks (C : sk_C X cc nL own rm O A) (hSr : sk_Sr (sk_s X)) (hNx : sk_Nx (sk_s X)) (kn : Nat) {nc : Nat} {y : MethodName} {ccY : ByteArray} {maxL idx n : Nat} {ret : FieldType} {rmY : Room} {as st0 : List Value} {post : Int32 → sk_M → Prop} (hy : sk_yv y ccY maxL (some ret) n) (hv : Cond.static y ∈ sk_tb) (hl : Cond.methodLink own idx y ∈ sk_tb) (hM : sk_K l y (sk_w y ccY maxL (some ret)) rmY O as M nc post) (hn : as.length = n) (hst : st0 = as.reverse ++ st) (hcat : (st.map fun v => v.category).sum ≤ 8) (hR : (rmY.frames + 1 ≤ rm.frames ∧ 8 + (maxL + 11) + rmY.locals ≤ rm.locals) ∧ kc + nc ≤ kn ∧ kn ≤ rm.cells ∧ 6 * kn ≤ rm.slots) (d : decode cc pc = .ok (.invokestatic idx, 3)) (K : ∀ (x : Int32) (M' : sk_M), post x M' → sk_W l X O A Q nL kn (6 * kn) M' (pc + 3) lv (.int x :: st)) : sk_W l X O A Q nL kc (6 * kc) M pc lv st0 := by
  intro H locs ls hP hS hl0
  have hF := sk_Ax C.2.2.2.2.1 C.2.2.2.2.2.1 hS.1
  refine va_calli (va_runS (As := as) (rest := st) C.1 (hM.2.2 H.size) ⟨sk_cb C hy hl ⟨hM.1, hM.2.1⟩ hR.1, C.1.2.2.2.2 _ hv⟩ ⟨sk_blindK, fun U hU hW => sk_preK C hSr hNx hP hS U hU hW⟩ rfl hn hl0.1 hst (lv_room hcat) d ⟨by rw [C.2.1]; exact Nat.le_trans hR.2.1 hR.2.2.1, by rw [C.2.1]; refine Nat.le_trans ?_ hR.2.2.2; rw [← Nat.mul_add]; exact Nat.mul_le_mul_left 6 hR.2.1⟩) hS (fun q _ h => hF q h) hF (fun x u t H1 locs1 ht hvm hw1 hB hz1 hk1 hS1 => ?_)
  exact W.widen hR.2.1 (by rw [← Nat.mul_add]; exact Nat.mul_le_mul_left 6 hR.2.1) (K x u hw1 H1 locs1 ls (by rw [← ht]; exact hB.1) hS1 hl0)
end SKG
/-- entry: a guarded method, and one that is not -/
theorem sk_kh {l : Launch} {y : MethodName} {cc : ByteArray} {maxL nc : Nat} {rm : Room} {O : sk_O} {as : List Value} {M : sk_M} {post : Int32 → sk_M → Prop} {hh : List (Nat × Nat × Nat × Nat)} (hy : plainName y.cls = true) (hrm : rm.cells = nc ∧ rm.slots = 6 * nc) (hi : sk_inj O) (hlen : (lg_sl as).length ≤ maxL)
    (body : ∀ (X : sk_X) (A : Nat → Prop) (Q : State → Prop), sk_C X cc maxL y.cls rm O A → sk_Sr (sk_s X) → sk_Nx (sk_s X) → X.2.2.2.2.2.2.2.2.exceptionTable.toList = tableOf hh →
      (∀ (r : Int32) (M' : sk_M) (pc : Nat) (lv : List (Nat × Value)) (kc ks : Nat), kc ≤ nc → ks ≤ 6 * nc → decode cc pc = .ok (.ireturn, 1) → post r M' → sk_W l X O A Q maxL kc ks M' pc lv [.int r]) →
      sk_W l X O A Q maxL 0 0 M 0 (lv_args 0 as) []) : sk_K l y (Cond.codeWith y cc maxL (some .int) hh :: sk_tb) rm O as M nc post := by
  refine ⟨hrm.1, hrm.2, fun sz => ?_⟩
  refine va_MetW (cc := cc) (maxL := maxL) (ret := some .int) (hh := hh) (ws' := sk_tb) hy rfl ?_
  intro p e s m args below meth c s₁ B hml hv
  obtain ⟨rfl, h2, ⟨hP, hK⟩, hZ, hSr, hNx⟩ := hv
  have hts0 := atoms_spec (ws := Cond.codeWith y cc maxL (some .int) hh :: sk_tb) B.pre
  have C : sk_C (p, e, (headSpec (Cond.codeWith y cc maxL (some .int) hh :: sk_tb) rm).room, s, m, as.toArray, below, meth, c) cc maxL y.cls rm O (sk_A O sz) :=
    ⟨⟨B.exec, B.bytes, hml, findClass_of_methodNamed B.named, fun w hw => hts0 w (List.mem_cons_of_mem _ hw)⟩, rfl, hK, hi, fun k hk => Or.inl ⟨k, hk, rfl⟩, fun q hq => Or.inr (by rw [← h2]; exact hq), hZ⟩
  have hlocks := B.notSynchronized
  rw [lg_entry_eq]
  refine body (p, e, (headSpec (Cond.codeWith y cc maxL (some .int) hh :: sk_tb) rm).room, s, m, as.toArray, below, meth, c) (sk_A O sz) _ C hSr hNx (vx_table (x := y) B (hts0 _ List.mem_cons_self)) (fun r M' pc lv kc ks hk1 hk2 d hp => ?_) s.heap [] _ hP va_S.rf (lv_entry as hlen)
  intro H locs ls hP1 hS hl
  exact W.widen hk1 hk2 (W.zret (ty := .int) B.exec B.bytes B.returns rfl (fun t ht hW => ⟨⟨r, M', rfl, hp, by rw [ht]; exact hP1, va_K.moved hW.alike hK⟩, hS.F ht⟩) hS.2.2 d hlocks)
theorem sk_ki {l : Launch} {y : MethodName} {cc : ByteArray} {maxL nc : Nat} {rm : Room} {O : sk_O} {as : List Value} {M : sk_M} {post : Int32 → sk_M → Prop} {ty : FieldType} (hy : plainName y.cls = true) (hrm : rm.cells = nc ∧ rm.slots = 6 * nc) (hi : sk_inj O) (hlen : (lg_sl as).length ≤ maxL)
    (body : ∀ (X : sk_X) (A : Nat → Prop) (Q : State → Prop), sk_C X cc maxL y.cls rm O A → sk_Sr (sk_s X) → sk_Nx (sk_s X) →
      (∀ (r : Int32) (M' : sk_M) (pc : Nat) (lv : List (Nat × Value)) (kc : Nat), kc ≤ nc → decode cc pc = .ok (.ireturn, 1) → narrow ty (.int r) = .int r → post r M' → sk_W l X O A Q maxL kc (6 * kc) M' pc lv [.int r]) →
      sk_W l X O A Q maxL 0 (6 * 0) M 0 (lv_args 0 as) []) : sk_K l y (sk_w y cc maxL (some ty)) rm O as M nc post := by
  refine ⟨hrm.1, hrm.2, fun sz => ?_⟩
  refine Met.ofW (cc := cc) (maxL := maxL) (ret := some ty) hy rfl ?_
  intro p e s m args below meth c s₁ B hml hv
  obtain ⟨h1, h2, hB, hZ, hSr, hNx⟩ := hv
  obtain ⟨rfl, hsz, hP, C⟩ := sk_ent rfl hi B hml ⟨h1, h2, hB, hZ⟩
  rw [lg_entry_eq]
  have hlocks := B.notSynchronized
  refine body (p, e, (headSpec (sk_w y cc maxL (some ty)) rm).room, s, m, as.toArray, below, meth, c) (sk_A O sz) _ C hSr hNx (fun r M' pc lv kc hk d hn hp => ?_) s.heap [] _ hP va_S.rf (lv_entry as hlen)
  intro H locs ls hP hS hl
  exact W.widen hk (Nat.mul_le_mul_left 6 hk) (W.zret (ty := ty) B.exec B.bytes B.returns hn (fun t ht hW => ⟨⟨r, M', rfl, hp, by rw [ht]; exact hP, va_K.moved hW.alike C.2.2.1⟩, hS.F ht⟩) hS.2.2 d hlocks)
/-- what a guarded call answers: the answer, or the number of what was caught -/
def sk_gq (ns : List String) (vs : List Int32) (post : Int32 → sk_M → Prop) (xpost : String → sk_M → Prop) (x : Int32) (M' : sk_M) : Prop := ∃ (n : Nat) (r : Int32), wv ns post xpost n r M' ∧ x = if n = 0 then r else vs.getD (n - 1) 0
