/-! What is being made: new objects, stores, constructors' contracts -/
section SKZ
variable {l : Launch} {X : sk_X} {cc : ByteArray} {nL : Nat} {own : String} {rm : Room} {O : sk_O} {A : Nat → Prop} {Q : State → Prop} {b : Nat} {E : Nat → va_E} {kc ks t pc : Nat} {lv : List (Nat × Value)} {st : List Value}
theorem y_new (C : sk_YC X cc nL own rm O A b) {C' : String} {T : u_T} {N ci index : Nat} (kcl : sk_cl ci (C', T, N)) (ty : Nat → FieldType) (hty : ∀ k, k < N → parseFieldDescriptor (T k).2.2.1 = some (ty k)) {fs : List Value} (hfs : ∀ j, j < N → defaultValue (ty j) = vp_V fs j) (hcl : Cond.classLink own index C' ∈ sk_tb) (hinst : Cond.instantiable C' N ∈ sk_tb) (hini : Cond.initialized C' ∈ sk_tb) (hR : kc + 1 ≤ rm.cells ∧ ks + N ≤ rm.slots) (d : decode cc pc = .ok (.new index, 3)) (K : sk_Y l X O A Q b (sk_eu E t (.inr (ci, fs))) nL (kc + 1) (ks + N) (t + 1) (pc + 3) lv (.ref (b + t) :: st)) : sk_Y l X O A Q b E nL kc ks t pc lv st := by
  intro H locs ls hz hP hS hl
  have hts := C.1.2.2.2.2
  have hKn := C.2.2.1.1 ci _ kcl.1
  refine W.newcK C.1.1 C.1.2.1 C.1.2.2.2.1 (hts _ hcl) (hts _ hinst) (hts _ hini) rfl d (by rw [C.2.1]; exact hR.1) (by rw [C.2.1]; exact hR.2) hKn.2.1 rfl fun H1 kC hkC e1 z1 o1 => ?_
  rw [hP.1]
  exact K H1 locs ls trivial (yp_push hP z1 o1 ⟨_, kcl.1, (u_born ty hts kcl.2 hKn hkC e1 hty).to hfs⟩) (hS.up z1 o1) hl
theorem y_newq (C : sk_YC X cc nL own rm O A b) {C' : String} {index : Nat} (hcl : Cond.classLink own index C' ∈ sk_tb) (hover : va_AO C' (sk_s X)) (z : Nat) (hc : ∀ cA, (sk_s X).vm.findClass ("[" ++ (FieldType.object C').toString) = some cA → cA = sk_cy O z) {n : Int32} {N : Nat} (hn : ¬ n < 0) (hN : n.toNatClampNeg = N) (hbt : N * 4 ≤ 536870912) (hR : kc + 1 ≤ rm.cells ∧ ks + N ≤ rm.slots) (d : decode cc pc = .ok (.anewarray index, 3)) (K : sk_Y l X O A Q b (sk_eu E t (.inl (sk_cy O z, N, .inr (.inr (.inr (.inr (fun _ => none))))))) nL (kc + 1) (ks + N) (t + 1) (pc + 3) lv (.ref (b + t) :: st)) : sk_Y l X O A Q b E nL kc ks t pc lv (.int n :: st) := by
  intro H locs ls hz hP hS hl
  subst hN
  refine W.anew C.1.1 C.1.2.1 C.1.2.2.2.1 (C.1.2.2.2.2 _ hcl) (va_AO.use hover) rfl d rfl hn hbt (by rw [C.2.1]; exact hR.1) (by rw [C.2.1]; exact hR.2) fun cA kA comp f1 f2 f3 f4 => ?_
  generalize hH1 : H.push ({ cls := cA, slots := Array.replicate n.toNatClampNeg .null, vm := .none } : Cell) = H1
  have z1 : H1.size = H.size + 1 := by rw [← hH1, Array.size_push]
  have o1 : ∀ q : Nat, q < H.size → H1[q]? = H[q]? := fun q hq => by rw [← hH1, Array.getElem?_push, if_neg (Nat.ne_of_lt hq)]
  have e1 : H1[H.size]? = some (arrV cA n.toNatClampNeg (fun _ => .null)) := by rw [← hH1, Array.getElem?_push_size, ← arrV_new]
  rw [hP.1]
  refine K H1 locs ls trivial (yp_push hP z1 o1 ?_) (hS.up z1 o1) hl
  show H1[H.size]? = some (vp_cell _ _)
  rw [← hc cA f1, vp_cell_q, e1]
  rfl
theorem y_get (C : sk_YC X cc nL own rm O A b) {C' : String} {T : u_T} {N ci k j index : Nat} (kcl : sk_cl ci (C', T, N)) {fs : List Value} (hk : k < t) (he : E k = .inr (ci, fs)) (hj : j < N) (hlink : Cond.fieldLink own index (T j).1 (T j).2.1 (T j).2.2.1 ∈ sk_tb) {v : Value} (hv : fs[j]? = some v) (d : decode cc pc = .ok (.getfield index, 3)) (K : sk_Y l X O A Q b E nL kc ks t (pc + 3) lv (v :: st)) : sk_Y l X O A Q b E nL kc ks t pc lv (.ref (b + k) :: st) := by
  intro H locs ls hz hP hS hl
  exact va_get C.1.1 C.1.2.1 C.1.2.2.2.2 kcl.2 C.1.2.2.2.1 C.2.2.1 (yp_P hP) k (by rw [yw_at hk, he]) kcl.1 j hj (C.1.2.2.2.2 _ hlink) (fun _ h => h) hv d (K H locs ls hz hP hS hl)
theorem y_iast (C : sk_YC X cc nL own rm O A b) {k N : Nat} {f : Nat → Int32} (hk : k < t) (he : E k = .inl (sk_cy O 0, N, .inl f)) {i x : Int32} (j : Nat) (hi : i = nI j) (hj : j < N) (hN : N < 2 ^ 31) (d : decode cc pc = .ok (.iastore, 1)) (K : sk_Y l X O A Q b (sk_eu E k (.inl (sk_cy O 0, N, .inl (upd f j x)))) nL kc ks t (pc + 1) lv st) : sk_Y l X O A Q b E nL kc ks t pc lv (.int x :: .int i :: .ref (b + k) :: st) := by
  intro H locs ls hz hP hS hl
  subst hi
  have hc : (nI j).toNatClampNeg = j := nI_clamp (by omega)
  have hin : vp_in (nI j) N := fun z => z.elim (nI_pos (by omega)) (fun z => by rw [hc] at z; omega)
  have h0 := hP.2 k hk
  rw [he] at h0
  refine W.iast C.1.1 C.1.2.1 h0 ((C.2.2.1.2 0 _ rfl).1 N (fun j => .int (f j))) (fun q => by cases q) (by show ¬ (nI j < 0 ∨ (arrV _ _ _).slots.size ≤ _); rw [arrV_size]; exact hin) rfl rfl d fun H1 e z oq => ?_
  refine K H1 _ ls trivial (yp_set hP z oq ?_) (hS.put z oq (C.2.2.2.1 _ (Nat.le_add_right _ _))) hl
  show H1[b + k]? = some (vp_cell _ _)
  rw [e, vp_cell_i, vp_cell_i, arrV_store, hc]
  congr 2
  funext q
  by_cases hq : q = j
  · subst hq
    simp [updV, upd]
  · simp [updV, upd, hq]
theorem y_aast (C : sk_YC X cc nL own rm O A b) {k v z ci N : Nat} {r : vw_C} {vs : List Value} {f : Nat → Option Nat} (hk : k < t) (he : E k = .inl (sk_cy O z, N, .inr (.inr (.inr (.inr f))))) (hz0 : (sk_ty O)[z]? = some (sk_cy O z, .object r.1)) (hv : v < t) (hev : E v = .inr (ci, vs)) (hc0 : vwCl[ci]? = some r) {i : Int32} (j : Nat) (hi : i = nI j) (hj : j < N) (hN : N < 2 ^ 31) (d : decode cc pc = .ok (.aastore, 1)) (K : sk_Y l X O A Q b (sk_eu E k (.inl (sk_cy O z, N, .inr (.inr (.inr (.inr (va_up f j (some (b + v)))))))) ) nL kc ks t (pc + 1) lv st) : sk_Y l X O A Q b E nL kc ks t pc lv (.ref (b + v) :: .int i :: .ref (b + k) :: st) := by
  intro H locs ls hz hP hS hl
  subst hi
  have hc : (nI j).toNatClampNeg = j := nI_clamp (by omega)
  have h0 := hP.2 k hk
  rw [he] at h0
  have h1 := hP.2 v hv
  rw [hev] at h1
  obtain ⟨r', hr', cellV, g1, g2, g3, -⟩ := h1
  have hcls := (C.2.2.1.1 ci r hc0).2
  obtain ⟨kA, comp, k1, k2, k3, -⟩ := (C.2.2.1.2 z _ hz0).2
  have hcomp : comp = O.1.1 ci := Option.some.inj (k3.symm.trans hcls.1)
  subst hcomp
  obtain ⟨kC, hkC, -⟩ := hcls.2
  refine W.aast C.1.1 C.1.2.1 h0 (fun q h => by cases h) (fun h => by cases h) k1 k2 rfl hkC ⟨nI_pos (by omega), by show (nI j).toNatClampNeg < (arrV _ _ _).slots.size; rw [arrV_size, hc]; exact hj⟩ g1 (fun q h => by rw [g3] at h; cases h) (by rw [g2]; exact hkC) (by rw [g2]; exact va_assign hcls) rfl rfl d fun H1 e z oq => ?_
  refine K H1 _ ls trivial (yp_set hP z oq ?_) (hS.put z oq (C.2.2.2.1 _ (Nat.le_add_right _ _))) hl
  show H1[b + k]? = some (vp_cell _ _)
  rw [e, vp_cell_q, vp_cell_q, arrV_store, hc]
  congr 2
  funext q
  by_cases hq : q = j
  · subst hq
    simp [updV, va_up, va_rf]
  · simp [updV, va_up, hq]
theorem y_obj (C : sk_YC X cc nL own rm O A b) {a0 idx : Nat} (hml : Cond.methodLink own idx objectInit ∈ sk_tb) (hi : Cond.instanceMethod objectInit ∈ sk_tb) (hco : Cond.code objectInit ⟨#[0xb1]⟩ 1 none ∈ sk_tb) (hR : 1 ≤ rm.frames ∧ 12 ≤ rm.locals) (d : decode cc pc = .ok (.invokespecial idx, 3)) (K : sk_Y l X O A Q b E nL kc ks t (pc + 3) lv []) : sk_Y l X O A Q b E nL kc ks t pc lv [.ref a0] := by
  intro H locs ls hz hP hS hl
  refine W.objInit C.1.1 C.1.2.1 C.1.2.2.2.1 (C.1.2.2.2.2 _ hml) (C.1.2.2.2.2 _ hi) (C.1.2.2.2.2 _ hco) rfl (by rw [C.1.2.2.1]; exact hl.1) rfl d (by rw [C.2.1]; exact hR.1) (by rw [C.2.1]; exact hR.2) ?_
  exact W.eq (g2 := F0 X.2.2.2.2.1 (pc + 3) ls []) rfl (K H locs ls hz hP hS hl)
end SKZ
/-- a constructor: from the objects E, t of them, to the objects E', t' of them -/
def sk_jp (O : sk_O) (b : Nat) (E : Nat → va_E) (t : Nat) (U : State) : Prop := sk_yp O.1 b E t U.heap ∧ va_K O.1 vwCl (sk_ty O) U ∧ sk_ao U
def sk_mk (l : Launch) (y : MethodName) (ws : List Cond) (rm : Room) (O : sk_O) (b k : Nat) (E : Nat → va_E) (t : Nat) (E' : Nat → va_E) (t' : Nat) : Prop :=
  Met l y ws rm (va_Pc [.ref (b + k)] (sk_jp O b E t)) (va_Qv (fun _ : Unit => True) (fun _ T => sk_jp O b E' t' T) (fun q => b ≤ q)) rm.cells rm.slots (fun q => b ≤ q)
theorem sk_blindC {O : sk_O} {b k t : Nat} {E : Nat → va_E} : FrameBlind (va_Pc [.ref (b + k)] (sk_jp O b E t)) := by
  intro ar U g mk q
  obtain ⟨q0, q1, q2, q3⟩ := q
  exact ⟨q0, q1, va_K.moved (u := U) (U := U.calling g mk ar) (Vm.Alike.refl U.vm) q2, sk_ao.moved (u := U) (U := U.calling g mk ar) (Vm.Alike.refl U.vm) q3⟩
theorem sk_ji {l : Launch} {y : MethodName} {cc : ByteArray} {maxL : Nat} {rm : Room} {O : sk_O} {b k t t' : Nat} {E E' : Nat → va_E} (hy : plainName y.cls = true) (hin : y.name = "<init>") (hlen : 1 ≤ maxL)
    (body : ∀ (X : sk_X) (A : Nat → Prop) (Q : State → Prop), sk_YC X cc maxL y.cls rm O A b → X.2.2.2.2.2.2.2.1.name = "<init>" →
      (∀ (E2 : Nat → va_E) (pc : Nat) (lv : List (Nat × Value)) (kc ks : Nat), kc ≤ rm.cells → ks ≤ rm.slots → (∀ i, i < t' → E2 i = E' i) → decode cc pc = .ok (.return_, 1) → sk_Y l X O A Q b E2 maxL kc ks t' pc lv []) →
      sk_Y l X O A Q b E maxL 0 0 t 0 [(0, .ref (b + k))] []) : sk_mk l y (sk_w y cc maxL none) rm O b k E t E' t' := by
  refine Met.ofW (cc := cc) (maxL := maxL) (ret := none) hy rfl ?_
  intro p e s m args below meth c s₁ B hml hv
  obtain ⟨rfl, hP, hK, hao⟩ := hv
  have hts0 := atoms_spec (ws := sk_w y cc maxL none) B.pre
  have C : sk_YC (p, e, (headSpec (sk_w y cc maxL none) rm).room, s, m, ([.ref (b + k)] : List Value).toArray, below, meth, c) cc maxL y.cls rm O (fun q => b ≤ q) b :=
    ⟨⟨B.exec, B.bytes, hml, findClass_of_methodNamed B.named, fun w hw => hts0 w (List.mem_cons_of_mem _ hw)⟩, rfl, hK, fun _ h => h, by show b ≤ s.heap.size; rw [hP.1]; omega, hao⟩
  have hnm : meth.name = "<init>" := (name_of_methodNamed B.named B.method).1.trans hin
  rw [lg_entry_eq]
  refine body (p, e, (headSpec (sk_w y cc maxL none) rm).room, s, m, ([.ref (b + k)] : List Value).toArray, below, meth, c) (fun q => b ≤ q) _ C hnm (fun E2 pc lv kc ks h1 h2 hE d => ?_) s.heap [] _ trivial hP va_S.rf (lv_entry ([.ref (b + k)]) hlen)
  intro H locs ls hz hP1 hS hl
  exact W.widen h1 h2 (W.vret B.exec B.bytes B.returns (fun T ht hW => ⟨⟨(), rfl, trivial, ⟨by rw [ht]; exact hP1.1, fun i hi => by rw [ht, ← hE i hi]; exact hP1.2 i hi⟩, va_K.moved hW.alike hK, hao.moved hW.alike⟩, hS.F ht⟩) hS.2.2 d)
section SKZ2
variable {l : Launch} {X : sk_X} {cc : ByteArray} {nL : Nat} {own : String} {rm : Room} {O : sk_O} {A : Nat → Prop} {Q : State → Prop} {b : Nat} {E : Nat → va_E} {kc ks t pc : Nat} {lv : List (Nat × Value)} {st : List Value}
theorem y_ctor (C : sk_YC X cc nL own rm O A b) {y : MethodName} {ccY : ByteArray} {maxL idx k t' : Nat} {rmY : Room} {E' : Nat → va_E} (hy : sk_yv y ccY maxL none 0) (hin : y.name = "<init>") (hv : Cond.instanceMethod y ∈ sk_tb) (hl : Cond.methodLink own idx y ∈ sk_tb) (hM : sk_mk l y (sk_w y ccY maxL none) rmY O b k E t E' t') (hcat : (st.map fun v => v.category).sum ≤ 8) (hR : (rmY.frames + 1 ≤ rm.frames ∧ 8 + (maxL + 11) + rmY.locals ≤ rm.locals) ∧ kc + rmY.cells ≤ rm.cells ∧ ks + rmY.slots ≤ rm.slots) (d : decode cc pc = .ok (.invokespecial idx, 3)) (K : sk_Y l X O A Q b E' nL (kc + rmY.cells) (ks + rmY.slots) t' (pc + 3) lv st) : sk_Y l X O A Q b E nL kc ks t pc lv (.ref (b + k) :: st) := by
  intro H locs ls hz hP hS hl0
  have hts := C.1.2.2.2.2
  have hw : ∀ w ∈ sk_tb, ∀ (a' : Array Value) (U : State), (sk_s X).WarmedH U.vm → w.before a' U = true := fun w h a' U hW => word_at hW (good_of_word (sk_good w h)) (hts w h)
  have cb : CallB X.2.2.1 (sk_s X) X.2.2.2.2.2.1 own idx y ccY maxL none (sk_w y ccY maxL none) rmY rmY.cells rmY.slots 0 := by
    refine ⟨rfl, rfl, by rw [C.2.1]; exact hR.1.1, by rw [C.2.1]; exact hR.1.2, fun w h => ?_, List.mem_cons_self, hts _ hy.1, hts _ hy.2.1, hy.2.2.1, ?_, hts _ hl⟩
    · rcases List.mem_cons.mp h with rfl | h
      · exact hw _ hy.1
      · exact hw _ h
    · intro sig hs
      have h := hy.2.2.2
      rw [hs] at h
      exact (Option.some.inj h).symm
  refine va_callv (va_runI (As := []) (rest := st) C.1 hM ⟨cb, hin, hts _ hv⟩ ⟨sk_blindC, fun U hU hW => ⟨rfl, ⟨by rw [hU]; exact hP.1, fun i hi => by rw [hU]; exact hP.2 i hi⟩, va_K.moved hW.alike C.2.2.1, C.2.2.2.2.2.moved hW.alike⟩⟩ rfl rfl hl0.1 rfl (lv_room hcat) d ⟨by rw [C.2.1]; exact hR.2.1, by rw [C.2.1]; exact hR.2.2⟩) hS (fun q _ h => C.2.2.2.1 q h) (fun q h => C.2.2.2.1 q h) (fun u T H1 locs1 ht hvm hw1 hB hz1 hk1 hS1 => ?_)
  exact K H1 locs1 ls trivial (by rw [← ht]; exact hB.1) hS1 hl0
end SKZ2
