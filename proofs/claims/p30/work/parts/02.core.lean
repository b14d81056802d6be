/-! THE CORE: the world as numbered objects over a pure memory; the judgement sk_W over it; its rows -/
abbrev sk_M : Type := Nat → Nat → Int32
def sk_ms (M : sk_M) (k j : Nat) (v : Int32) : sk_M := fun a b => if a = k ∧ b = j then v else M a b
def sk_mr (M : sk_M) (k : Nat) (f : Nat → Int32) : sk_M := fun a b => if a = k then f b else M a b
abbrev sk_S : Type := Nat × Nat × (Nat → Option Nat)
abbrev sk_O : Type := va_G × (Nat → Nat) × (Nat → sk_S) × Nat × (Nat → ClassId) × (Nat → Nat)
abbrev sk_ad (O : sk_O) : Nat → Nat := O.2.1
abbrev sk_sh (O : sk_O) : Nat → sk_S := O.2.2.1
abbrev sk_n (O : sk_O) : Nat := O.2.2.2.1
abbrev sk_cy (O : sk_O) : Nat → ClassId := O.2.2.2.2.1
abbrev sk_st (O : sk_O) : Nat → Nat := O.2.2.2.2.2
abbrev sk_ty (O : sk_O) : List (ClassId × FieldType) := [(sk_cy O 0, .int), (sk_cy O 1, .boolean), (sk_cy O 2, .object "SkateSheet$Program"), (sk_cy O 3, .object "SkateSheet$State")]
def sk_fv (ad : Nat → Nat) (r : Nat → Option Nat) (f : Nat → Int32) (j : Nat) : Value := match r j with
  | some q => .ref (ad q)
  | none => .int (f j)
def sk_el (ad : Nat → Nat) (cy : Nat → ClassId) (S : sk_S) (f : Nat → Int32) : va_E := match S.1 with
  | 0 => .inl (cy 0, S.2.1, .inl f)
  | 1 => .inl (cy 1, S.2.1, .inl f)
  | 2 => .inl (cy 2, S.2.1, .inr (.inr (.inr (.inr (fun j => (S.2.2 j).map ad)))))
  | 3 => .inl (cy 3, S.2.1, .inr (.inr (.inr (.inr (fun j => (S.2.2 j).map ad)))))
  | c + 4 => .inr (c, (List.range S.2.1).map (sk_fv ad S.2.2 f))
def sk_ws (O : sk_O) (M : sk_M) : va_W := (List.range (sk_n O)).map (fun k => (sk_ad O k, sk_el (sk_ad O) (sk_cy O) (sk_sh O k) (M k)))
def sk_inj (O : sk_O) : Prop := ∀ i j : Nat, i < sk_n O → j < sk_n O → sk_ad O i = sk_ad O j → i = j
def sk_A (O : sk_O) (sz : Nat) : Nat → Prop := fun q => (∃ k, k < sk_n O ∧ q = sk_ad O k) ∨ sz ≤ q
theorem sk_at {O : sk_O} {M : sk_M} {k : Nat} (h : k < sk_n O) : (sk_ws O M)[k]? = some (sk_ad O k, sk_el (sk_ad O) (sk_cy O) (sk_sh O k) (M k)) := by
  simp [sk_ws, h]
theorem sk_len {O : sk_O} {M : sk_M} : (sk_ws O M).length = sk_n O := by simp [sk_ws]
theorem sk_get {O : sk_O} {M : sk_M} {k : Nat} {q : Nat × va_E} (h : (sk_ws O M)[k]? = some q) : k < sk_n O ∧ q = (sk_ad O k, sk_el (sk_ad O) (sk_cy O) (sk_sh O k) (M k)) := by
  have hk : k < sk_n O := by
    have := (List.getElem?_eq_some_iff.mp h).1
    rwa [sk_len] at this
  rw [sk_at hk] at h
  exact ⟨hk, (Option.some.inj h).symm⟩
theorem sk_set {O : sk_O} {M M' : sk_M} {k : Nat} {e : va_E} (hk : k < sk_n O) (he : sk_el (sk_ad O) (sk_cy O) (sk_sh O k) (M' k) = e) (ho : ∀ a, a ≠ k → M' a = M a) : (sk_ws O M).set k (sk_ad O k, e) = sk_ws O M' := by
  apply List.ext_getElem?
  intro i
  by_cases hi : i = k
  · subst hi
    rw [List.getElem?_set_self (by rw [sk_len]; exact hk), sk_at hk, he]
  · rw [List.getElem?_set_ne (Ne.symm hi)]
    by_cases hl : i < sk_n O
    · rw [sk_at hl, sk_at hl, ho i hi]
    · rw [List.getElem?_eq_none (by rw [sk_len]; omega), List.getElem?_eq_none (by rw [sk_len]; omega)]
theorem sk_vD {O : sk_O} {M : sk_M} {A : Nat → Prop} (hi : sk_inj O) (hA : ∀ k, k < sk_n O → A (sk_ad O k)) : va_D A (sk_ws O M) := by
  refine ⟨fun i j p q h1 h2 h3 => ?_, fun k q h => ?_⟩
  · obtain ⟨a1, rfl⟩ := sk_get h1
    obtain ⟨a2, rfl⟩ := sk_get h2
    exact hi i j a1 a2 h3
  · obtain ⟨a1, rfl⟩ := sk_get h
    exact hA k a1
/-- the static rows and what a throw needs -/
def sk_jw : List Int32 := [40, 130, 420, 950, 40, 130, 430, 970, 50, 170, 490, 1050, 50, 180, 530, 1100, 60, 210, 590, 1150, 110, 330, 800, 1250]
def sk_pw : List Int32 := [120, 150, 190, 240, 300]
def sk_tw : List Int32 := [150, 180, 260, 330, 390]
def sk_row (z : Nat) : List Int32 := match z with
  | 0 => sk_jw
  | 1 => sk_pw
  | _ => sk_tw
def sk_rnm (z : Nat) : String := match z with
  | 0 => "JUMP_WORTHS"
  | 1 => "SPIN_WORTHS"
  | _ => "STEP_WORTHS"
def sk_Zr (O : sk_O) (A : Nat → Prop) (U : State) (H : Heap) (z : Nat) : Prop := va_Z "SkateSheet$Scoring" (sk_rnm z) "[I" (.ref (sk_st O z)) A U H ∧ va_T .int (sk_st O z) (sk_row z).length (fun j => .int ((sk_row z).getD j 0)) A U H
def sk_Zs (O : sk_O) (A : Nat → Prop) (U : State) (H : Heap) : Prop := (∀ z, z < 3 → sk_Zr O A U H z) ∧ vx_Zq Bundle.tN "UNASSIGNED_STACK" Bundle.steD A U H ∧ vx_Zq Bundle.tN "SUPPRESSED_SENTINEL" Bundle.listD A U H
theorem va_T.narrow9 {ty : FieldType} {t N : Nat} {f : Nat → Value} {A B : Nat → Prop} {U : State} {H : Heap} (h : va_T ty t N f A U H) (hAB : ∀ q, B q → A q) : va_T ty t N f B U H := by
  obtain ⟨cell, h1, h2, h3, h4, h5, h6, h7⟩ := h
  exact ⟨cell, h1, h2, h3, h4, h5, h6, fun h => h7 (hAB _ h)⟩
theorem va_Z.narrow9 {C n d : String} {v : Value} {A B : Nat → Prop} {U : State} {H : Heap} (h : va_Z C n d v A U H) (hAB : ∀ q, B q → A q) : va_Z C n d v B U H := by
  obtain ⟨cf, kf, fi, f, a, cell, h1, h2, h3, h4, h5, h6, h7, h8⟩ := h
  exact ⟨cf, kf, fi, f, a, cell, h1, h2, h3, h4, h5, h6, h7, fun h => h8 (hAB _ h)⟩
theorem sk_Zs.go {O : sk_O} {A B : Nat → Prop} {u U : State} {H H1 : Heap} (h : sk_Zs O A u H) (hvm : u.vm.Alike U.vm) (hq : ∀ a : Nat, a < H.size → ¬ A a → H1[a]? = H[a]?) (hAB : ∀ q, B q → A q) : sk_Zs O B U H1 :=
  ⟨fun z hz => ⟨va_Z.narrow9 (va_Z.moved hvm (va_Z.kept (h.1 z hz).1 hq)) hAB, va_T.narrow9 (va_T.moved hvm (va_T.kept (h.1 z hz).2 hq)) hAB⟩,
   vx_Zq.narrow (vx_Zq.moved hvm (vx_Zq.kept h.2.1 hq)) hAB, vx_Zq.narrow (vx_Zq.moved hvm (vx_Zq.kept h.2.2 hq)) hAB⟩
/-- the words that every method has -/
def sk_tb : List Cond := lw_tbl.filter goodWord
theorem sk_good : ∀ w ∈ sk_tb, goodWord w = true := fun w h => (List.mem_filter.mp h).2
theorem sk_wd {w : Cond} (i : Nat) (h : lw_tbl[i]? = some w) (hg : goodWord w = true) : w ∈ sk_tb := List.mem_filter.mpr ⟨List.mem_of_getElem? h, hg⟩
abbrev sk_w (y : MethodName) (cc : ByteArray) (maxL : Nat) (ret : Option FieldType) : List Cond := Cond.code y cc maxL ret :: sk_tb
/-- where the machine stands -/
abbrev sk_X : Type := Program × Env × Room × State × MethodId × Array Value × List Frame × Method × Code
abbrev sk_s (X : sk_X) : State := X.2.2.2.1
def sk_W (l : Launch) (X : sk_X) (O : sk_O) (A : Nat → Prop) (Q : State → Prop) (nL kc ks : Nat) (M : sk_M) (pc : Nat) (lv : List (Nat × Value)) (st : List Value) : Prop :=
  ∀ (H : Heap) (locs : List Loc) (ls : Array Slot), va_P O.1 vwCl (sk_ws O M) H → va_S A (sk_s X).heap H locs → lv_has ls nL lv →
    W X.1 l X.2.1 X.2.2.1 (sk_s X) X.2.2.2.2.1 X.2.2.2.2.2.1 X.2.2.2.2.2.2.1 X.2.2.2.2.2.2.2.1 X.2.2.2.2.2.2.2.2 H locs kc ks Q (F0 X.2.2.2.2.1 pc ls st)
def sk_C (X : sk_X) (cc : ByteArray) (nL : Nat) (own : String) (rm : Room) (O : sk_O) (A : Nat → Prop) : Prop :=
  CallFix X.1 X.2.2.2.2.1 X.2.2.2.2.2.2.2.2 cc nL (sk_s X) X.2.2.2.2.2.1 sk_tb own ∧ X.2.2.1 = rm ∧ va_K O.1 vwCl (sk_ty O) (sk_s X) ∧ sk_inj O ∧ (∀ k, k < sk_n O → A (sk_ad O k)) ∧ (∀ q, (sk_s X).heap.size ≤ q → A q) ∧ sk_Zs O A (sk_s X) (sk_s X).heap
def sk_B (O : sk_O) (M : sk_M) (t : State) : Prop := va_P O.1 vwCl (sk_ws O M) t.heap ∧ va_K O.1 vwCl (sk_ty O) t
def sk_Pc (O : sk_O) (M : sk_M) (sz : Nat) (as : List Value) : Array Value → State → Prop := va_Pc as (fun U => U.heap.size = sz ∧ sk_B O M U ∧ sk_Zs O (sk_A O sz) U U.heap)
/-- contracts: from memory M with the arguments as; an int, a long, nothing -/
def sk_Mi (l : Launch) (y : MethodName) (ws : List Cond) (rm : Room) (O : sk_O) (as : List Value) (M : sk_M) (post : Int32 → sk_M → Prop) : Prop :=
  rm.cells = 0 ∧ rm.slots = 0 ∧ ∀ sz, Met l y ws rm (sk_Pc O M sz as) (va_Qi post (sk_B O) (sk_A O sz)) 0 0 (sk_A O sz)
def sk_Ml (l : Launch) (y : MethodName) (ws : List Cond) (rm : Room) (O : sk_O) (as : List Value) (M : sk_M) (post : Int64 → sk_M → Prop) : Prop :=
  rm.cells = 0 ∧ rm.slots = 0 ∧ ∀ sz, Met l y ws rm (sk_Pc O M sz as) (va_Ql post (sk_B O) (sk_A O sz)) 0 0 (sk_A O sz)
def sk_Mv (l : Launch) (y : MethodName) (ws : List Cond) (rm : Room) (O : sk_O) (as : List Value) (M : sk_M) (post : sk_M → Prop) : Prop :=
  rm.cells = 0 ∧ rm.slots = 0 ∧ ∀ sz, Met l y ws rm (sk_Pc O M sz as) (va_Qv post (sk_B O) (sk_A O sz)) 0 0 (sk_A O sz)
theorem sk_blind {O : sk_O} {M : sk_M} {sz : Nat} {as : List Value} : FrameBlind (sk_Pc O M sz as) := by
  intro a U g mk q
  obtain ⟨q0, q1, ⟨qP, qK⟩, qZ⟩ := q
  exact ⟨q0, q1, ⟨qP, va_K.moved (u := U) (U := U.calling g mk a) (Vm.Alike.refl U.vm) qK⟩, qZ.go (u := U) (U := U.calling g mk a) (Vm.Alike.refl U.vm) (fun _ _ _ => rfl) (fun _ h => h)⟩
theorem sk_Ax {O : sk_O} {A : Nat → Prop} {sz z : Nat} (hA : ∀ k, k < sk_n O → A (sk_ad O k)) (hn : ∀ q, sz ≤ q → A q) (h : sz ≤ z) : ∀ q, sk_A O z q → A q := by
  intro q hq
  rcases hq with ⟨k, hk, rfl⟩ | hq
  · exact hA k hk
  · exact hn q (Nat.le_trans h hq)
theorem sk_ent {l : Launch} {p : Program} {e : Env} {y : MethodName} {ws : List Cond} {rm : Room} {cc : ByteArray} {maxL : Nat} {ret : Option FieldType} {s : State} {m : MethodId} {args : Array Value} {below : List Frame} {meth : Method} {c : Code} {s₁ : State} {O : sk_O} {M : sk_M} {sz : Nat} {as : List Value}
    (hws : ws = sk_w y cc maxL ret) (hi : sk_inj O) (B : BodyLoose p l y (headSpec ws rm) cc maxL ret e s m args below meth c s₁) (hml : c.maxLocals = maxL) (hv : sk_Pc O M sz as args s) :
    args = as.toArray ∧ s.heap.size = sz ∧ va_P O.1 vwCl (sk_ws O M) s.heap ∧ sk_C (p, e, (headSpec ws rm).room, s, m, args, below, meth, c) cc maxL y.cls rm O (sk_A O sz) := by
  obtain ⟨h1, h2, ⟨hP, hK⟩, hZ⟩ := hv
  have hts0 := atoms_spec (ws := ws) B.pre
  refine ⟨h1, h2, hP, ⟨B.exec, B.bytes, hml, findClass_of_methodNamed B.named, fun w hw => hts0 w (by rw [hws]; exact List.mem_cons_of_mem _ hw)⟩, rfl, hK, hi, fun k hk => Or.inl ⟨k, hk, rfl⟩, fun q hq => Or.inr (by rw [← h2]; exact hq), hZ⟩
theorem sk_mi {l : Launch} {y : MethodName} {cc : ByteArray} {maxL : Nat} {rm : Room} {O : sk_O} {as : List Value} {M : sk_M} {post : Int32 → sk_M → Prop} {ty : FieldType} (hy : plainName y.cls = true) (hrm : rm.cells = 0 ∧ rm.slots = 0) (hi : sk_inj O) (hlen : (lg_sl as).length ≤ maxL)
    (body : ∀ (X : sk_X) (A : Nat → Prop) (Q : State → Prop), sk_C X cc maxL y.cls rm O A →
      (∀ (r : Int32) (M' : sk_M) (pc : Nat) (lv : List (Nat × Value)), decode cc pc = .ok (.ireturn, 1) → narrow ty (.int r) = .int r → post r M' → sk_W l X O A Q maxL 0 0 M' pc lv [.int r]) →
      sk_W l X O A Q maxL 0 0 M 0 (lv_args 0 as) []) : sk_Mi l y (sk_w y cc maxL (some ty)) rm O as M post := by
  refine ⟨hrm.1, hrm.2, fun sz => ?_⟩
  refine Met.ofW (cc := cc) (maxL := maxL) (ret := some ty) hy rfl ?_
  intro p e s m args below meth c s₁ B hml hv
  obtain ⟨rfl, hsz, hP, C⟩ := sk_ent rfl hi B hml hv
  rw [lg_entry_eq]
  have hlocks := B.notSynchronized
  refine body (p, e, (headSpec (sk_w y cc maxL (some ty)) rm).room, s, m, as.toArray, below, meth, c) (sk_A O sz) _ C (fun r M' pc lv d hn hp => ?_) s.heap [] _ hP va_S.rf (lv_entry as hlen)
  intro H locs ls hP hS hl
  exact W.zret (ty := ty) B.exec B.bytes B.returns hn (fun t ht hW => ⟨⟨r, M', rfl, hp, by rw [ht]; exact hP, va_K.moved hW.alike C.2.2.1⟩, hS.F ht⟩) hS.2.2 d hlocks
theorem sk_ml {l : Launch} {y : MethodName} {cc : ByteArray} {maxL : Nat} {rm : Room} {O : sk_O} {as : List Value} {M : sk_M} {post : Int64 → sk_M → Prop} (hy : plainName y.cls = true) (hrm : rm.cells = 0 ∧ rm.slots = 0) (hi : sk_inj O) (hlen : (lg_sl as).length ≤ maxL)
    (body : ∀ (X : sk_X) (A : Nat → Prop) (Q : State → Prop), sk_C X cc maxL y.cls rm O A →
      (∀ (r : Int64) (M' : sk_M) (pc : Nat) (lv : List (Nat × Value)), decode cc pc = .ok (.lreturn, 1) → post r M' → sk_W l X O A Q maxL 0 0 M' pc lv [.long r]) →
      sk_W l X O A Q maxL 0 0 M 0 (lv_args 0 as) []) : sk_Ml l y (sk_w y cc maxL (some .long)) rm O as M post := by
  refine ⟨hrm.1, hrm.2, fun sz => ?_⟩
  refine Met.ofW (cc := cc) (maxL := maxL) (ret := some .long) hy rfl ?_
  intro p e s m args below meth c s₁ B hml hv
  obtain ⟨rfl, hsz, hP, C⟩ := sk_ent rfl hi B hml hv
  rw [lg_entry_eq]
  have hlocks := B.notSynchronized
  refine body (p, e, (headSpec (sk_w y cc maxL (some .long)) rm).room, s, m, as.toArray, below, meth, c) (sk_A O sz) _ C (fun r M' pc lv d hp => ?_) s.heap [] _ hP va_S.rf (lv_entry as hlen)
  intro H locs ls hP hS hl
  exact W.lret B.exec B.bytes B.returns (fun t ht hW => ⟨⟨r, M', rfl, hp, by rw [ht]; exact hP, va_K.moved hW.alike C.2.2.1⟩, hS.F ht⟩) hS.2.2 d hlocks
theorem sk_mv {l : Launch} {y : MethodName} {cc : ByteArray} {maxL : Nat} {rm : Room} {O : sk_O} {as : List Value} {M : sk_M} {post : sk_M → Prop} (hy : plainName y.cls = true) (hrm : rm.cells = 0 ∧ rm.slots = 0) (hi : sk_inj O) (hlen : (lg_sl as).length ≤ maxL)
    (body : ∀ (X : sk_X) (A : Nat → Prop) (Q : State → Prop), sk_C X cc maxL y.cls rm O A →
      (∀ (M' : sk_M) (pc : Nat) (lv : List (Nat × Value)), decode cc pc = .ok (.return_, 1) → post M' → sk_W l X O A Q maxL 0 0 M' pc lv []) →
      sk_W l X O A Q maxL 0 0 M 0 (lv_args 0 as) []) : sk_Mv l y (sk_w y cc maxL none) rm O as M post := by
  refine ⟨hrm.1, hrm.2, fun sz => ?_⟩
  refine Met.ofW (cc := cc) (maxL := maxL) (ret := none) hy rfl ?_
  intro p e s m args below meth c s₁ B hml hv
  obtain ⟨rfl, hsz, hP, C⟩ := sk_ent rfl hi B hml hv
  rw [lg_entry_eq]
  have hlocks := B.notSynchronized
  refine body (p, e, (headSpec (sk_w y cc maxL none) rm).room, s, m, as.toArray, below, meth, c) (sk_A O sz) _ C (fun M' pc lv d hp => ?_) s.heap [] _ hP va_S.rf (lv_entry as hlen)
  intro H locs ls hP hS hl
  exact W.vret B.exec B.bytes B.returns (fun t ht hW => ⟨⟨M', rfl, hp, by rw [ht]; exact hP, va_K.moved hW.alike C.2.2.1⟩, hS.F ht⟩) hS.2.2 d hlocks
