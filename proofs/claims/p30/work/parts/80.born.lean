/-! What is being made: objects in the order of their numbers (printed by l5.py out of part 03, but for what stands below) -/
def sk_yw (b : Nat) (E : Nat → va_E) (t : Nat) : va_W := (List.range t).map (fun i => (b + i, E i))
def sk_eu (E : Nat → va_E) (k : Nat) (x : va_E) : Nat → va_E := fun i => if i = k then x else E i
theorem eu_y {E : Nat → va_E} {k : Nat} {x : va_E} : sk_eu E k x k = x := if_pos rfl
theorem eu_n {E : Nat → va_E} {k i : Nat} {x : va_E} (h : i ≠ k) : sk_eu E k x i = E i := if_neg h
theorem yw_at {b t k : Nat} {E : Nat → va_E} (h : k < t) : (sk_yw b E t)[k]? = some (b + k, E k) := by simp [sk_yw, h]
theorem yw_len {b t : Nat} {E : Nat → va_E} : (sk_yw b E t).length = t := by simp [sk_yw]
theorem yw_get {b t k : Nat} {E : Nat → va_E} {q : Nat × va_E} (h : (sk_yw b E t)[k]? = some q) : k < t ∧ q = (b + k, E k) := by
  have hk : k < t := by
    have := (List.getElem?_eq_some_iff.mp h).1
    rwa [yw_len] at this
  rw [yw_at hk] at h
  exact ⟨hk, (Option.some.inj h).symm⟩
/-- every object made so far stands as E says -/
def sk_yp (D : va_G) (b : Nat) (E : Nat → va_E) (t : Nat) (H : Heap) : Prop := H.size = b + t ∧ ∀ k, k < t → va_at D vwCl (b + k, E k) H
theorem yp_P {D : va_G} {b t : Nat} {E : Nat → va_E} {H : Heap} (h : sk_yp D b E t H) : va_P D vwCl (sk_yw b E t) H := fun k q hk => by
  obtain ⟨h1, rfl⟩ := yw_get hk
  exact h.2 k h1
theorem yw_D {b t : Nat} {E : Nat → va_E} {A : Nat → Prop} (hA : ∀ q, b ≤ q → A q) : va_D A (sk_yw b E t) := by
  refine ⟨fun i j p q h1 h2 h3 => ?_, fun k q h => ?_⟩
  · obtain ⟨-, rfl⟩ := yw_get h1
    obtain ⟨-, rfl⟩ := yw_get h2
    have h4 : b + i = b + j := h3
    omega
  · obtain ⟨-, rfl⟩ := yw_get h
    exact hA _ (Nat.le_add_right _ _)
def sk_Y (l : Launch) (X : sk_X) (O : sk_O) (A : Nat → Prop) (Q : State → Prop) (b : Nat) (E : Nat → va_E) (nL kc ks t pc : Nat) (lv : List (Nat × Value)) (st : List Value) : Prop :=
  ∀ (H : Heap) (locs : List Loc) (ls : Array Slot), True → sk_yp O.1 b E t H → va_S A (sk_s X).heap H locs → lv_has ls nL lv →
    W X.1 l X.2.1 X.2.2.1 (sk_s X) X.2.2.2.2.1 X.2.2.2.2.2.1 X.2.2.2.2.2.2.1 X.2.2.2.2.2.2.2.1 X.2.2.2.2.2.2.2.2 H locs kc ks Q (F0 X.2.2.2.2.1 pc ls st)
def sk_ao (U : State) : Prop := va_AO "SkateSheet$Program" U ∧ va_AO "SkateSheet$State" U
theorem sk_ao.moved {u U : State} (hvm : u.vm.Alike U.vm) (h : sk_ao u) : sk_ao U := ⟨va_AO.moved hvm h.1, va_AO.moved hvm h.2⟩
def sk_YC (X : sk_X) (cc : ByteArray) (nL : Nat) (own : String) (rm : Room) (O : sk_O) (A : Nat → Prop) (b : Nat) : Prop :=
  CallFix X.1 X.2.2.2.2.1 X.2.2.2.2.2.2.2.2 cc nL (sk_s X) X.2.2.2.2.2.1 sk_tb own ∧ X.2.2.1 = rm ∧ va_K O.1 vwCl (sk_ty O) (sk_s X) ∧ (∀ q, b ≤ q → A q) ∧ b ≤ (sk_s X).heap.size ∧ sk_ao (sk_s X)
section SKY
variable {l : Launch} {X : sk_X} {cc : ByteArray} {nL : Nat} {own : String} {rm : Room} {O : sk_O} {A : Nat → Prop} {Q : State → Prop} {b : Nat} {E : Nat → va_E} {kc ks t pc : Nat} {lv : List (Nat × Value)} {st : List Value}
theorem y_iload (C : sk_YC X cc nL own rm O A b) (q : Nat) {i : Nat} {x : Int32} (d : decode cc pc = .ok (.iload i, 2)) (h : lv[q]? = some (i, .int x)) (K : sk_Y l X O A Q b E nL kc ks t (pc + 2) lv (.int x :: st)) : sk_Y l X O A Q b E nL kc ks t pc lv st :=
  fun H locs ls hz hP hS hl => lv_iload C.1.1 C.1.2.1 d (lv_at hl q h) (K H locs ls hz hP hS hl)
theorem y_iloadn (C : sk_YC X cc nL own rm O A b) (q : Nat) {k : Fin 4} {x : Int32} (d : decode cc pc = .ok (.iload_n k, 1)) (h : lv[q]? = some ((k : Nat), .int x)) (K : sk_Y l X O A Q b E nL kc ks t (pc + 1) lv (.int x :: st)) : sk_Y l X O A Q b E nL kc ks t pc lv st :=
  fun H locs ls hz hP hS hl => lv_iload_n C.1.1 C.1.2.1 d rfl (lv_at hl q h) (K H locs ls hz hP hS hl)
theorem y_aload (C : sk_YC X cc nL own rm O A b) (q : Nat) {i : Nat} {x : Nat} (d : decode cc pc = .ok (.aload i, 2)) (h : lv[q]? = some (i, .ref x)) (K : sk_Y l X O A Q b E nL kc ks t (pc + 2) lv (.ref x :: st)) : sk_Y l X O A Q b E nL kc ks t pc lv st :=
  fun H locs ls hz hP hS hl => lv_aload C.1.1 C.1.2.1 d (lv_at hl q h) (K H locs ls hz hP hS hl)
theorem y_aloadn (C : sk_YC X cc nL own rm O A b) (q : Nat) {k : Fin 4} {x : Nat} (d : decode cc pc = .ok (.aload_n k, 1)) (h : lv[q]? = some ((k : Nat), .ref x)) (K : sk_Y l X O A Q b E nL kc ks t (pc + 1) lv (.ref x :: st)) : sk_Y l X O A Q b E nL kc ks t pc lv st :=
  fun H locs ls hz hP hS hl => lv_aload_n C.1.1 C.1.2.1 d rfl (lv_at hl q h) (K H locs ls hz hP hS hl)
theorem y_istoren (C : sk_YC X cc nL own rm O A b) (is : List Nat) (lv' : List (Nat × Value)) {k : Fin 4} {x : Int32} (d : decode cc pc = .ok (.istore_n k, 1)) (hn : (k : Nat) < nL) (h : lv_pick (sk_li (k : Nat) (.int x) lv) is = lv') (K : sk_Y l X O A Q b E nL kc ks t (pc + 1) lv' st) : sk_Y l X O A Q b E nL kc ks t pc lv (.int x :: st) :=
  fun H locs ls hz hP hS hl => lv_istore_n C.1.1 C.1.2.1 d rfl hl hn rfl (fun ls' hl' => K H locs ls' hz hP hS (lv_sub hl' is h))
theorem y_iinc (C : sk_YC X cc nL own rm O A b) (q : Nat) (v : Int32) (is : List Nat) (lv' : List (Nat × Value)) {i : Nat} {n : Int} {x : Int32} (d : decode cc pc = .ok (.iinc i n, 3)) (h0 : lv[q]? = some (i, .int x)) (hv : x + Int32.ofInt n = v) (hn : i < nL) (h : lv_pick (sk_li i (.int v) lv) is = lv') (K : sk_Y l X O A Q b E nL kc ks t (pc + 3) lv' st) : sk_Y l X O A Q b E nL kc ks t pc lv st :=
  fun H locs ls hz hP hS hl => lv_iinc C.1.1 C.1.2.1 d hl h0 hv hn rfl (fun ls' hl' => K H locs ls' hz hP hS (lv_sub hl' is h))
theorem y_iconst (C : sk_YC X cc nL own rm O A b) (v : Int32) {n : Int} (d : decode cc pc = .ok (.iconst n, 1)) (hv : Int32.ofInt n = v) (K : sk_Y l X O A Q b E nL kc ks t (pc + 1) lv (.int v :: st)) : sk_Y l X O A Q b E nL kc ks t pc lv st :=
  fun H locs ls hz hP hS hl => lv_iconst C.1.1 C.1.2.1 d hv (K H locs ls hz hP hS hl)
theorem y_bipush (C : sk_YC X cc nL own rm O A b) (v : Int32) {n : Int} (d : decode cc pc = .ok (.bipush n, 2)) (hv : (Int8.ofInt n).toInt32 = v) (K : sk_Y l X O A Q b E nL kc ks t (pc + 2) lv (.int v :: st)) : sk_Y l X O A Q b E nL kc ks t pc lv st :=
  fun H locs ls hz hP hS hl => lv_bipush C.1.1 C.1.2.1 d hv (K H locs ls hz hP hS hl)
theorem y_sipush (C : sk_YC X cc nL own rm O A b) (v : Int32) {n : Int} (d : decode cc pc = .ok (.sipush n, 3)) (hv : (Int16.ofInt n).toInt32 = v) (K : sk_Y l X O A Q b E nL kc ks t (pc + 3) lv (.int v :: st)) : sk_Y l X O A Q b E nL kc ks t pc lv st :=
  fun H locs ls hz hP hS hl => lv_sipush C.1.1 C.1.2.1 d hv (K H locs ls hz hP hS hl)
theorem y_dup (C : sk_YC X cc nL own rm O A b) {v : Value} (d : decode cc pc = .ok (.dup, 1)) (h : v.category = 1) (K : sk_Y l X O A Q b E nL kc ks t (pc + 1) lv (v :: v :: st)) : sk_Y l X O A Q b E nL kc ks t pc lv (v :: st) :=
  fun H locs ls hz hP hS hl => lv_dup C.1.1 C.1.2.1 d h (K H locs ls hz hP hS hl)
theorem y_goto (C : sk_YC X cc nL own rm O A b) (tgt : Nat) {off : Int} (d : decode cc pc = .ok (.goto off, 3)) (ht : (pc : Int) + off = (tgt : Int)) (K : sk_Y l X O A Q b E nL kc ks t tgt lv st) : sk_Y l X O A Q b E nL kc ks t pc lv st :=
  fun H locs ls hz hP hS hl => lv_goto C.1.1 C.1.2.1 d ht (K H locs ls hz hP hS hl)
theorem y_cge (C : sk_YC X cc nL own rm O A b) (tgt : Nat) {off : Int} {x y : Int32} (d : decode cc pc = .ok (.if_icmp .ge off, 3)) (ht : (pc : Int) + off = (tgt : Int)) (K1 : y ≤ x → sk_Y l X O A Q b E nL kc ks t tgt lv st) (K2 : ¬ y ≤ x → sk_Y l X O A Q b E nL kc ks t (pc + 3) lv st) : sk_Y l X O A Q b E nL kc ks t pc lv (.int y :: .int x :: st) :=
  fun H locs ls hz hP hS hl => lv_icmp_ge C.1.1 C.1.2.1 d ht (fun h => K1 h H locs ls hz hP hS hl) (fun h => K2 h H locs ls hz hP hS hl)
theorem y_eq {E' : Nat → va_E} (h : ∀ i, i < t → E' i = E i) (K : sk_Y l X O A Q b E' nL kc ks t pc lv st) : sk_Y l X O A Q b E nL kc ks t pc lv st :=
  fun H locs ls hz hP hS hl => K H locs ls hz ⟨hP.1, fun k hk => by rw [h k hk]; exact hP.2 k hk⟩ hS hl
theorem y_widen {k n : Nat} (h1 : kc ≤ k) (h2 : ks ≤ n) (K : sk_Y l X O A Q b E nL k n t pc lv st) : sk_Y l X O A Q b E nL kc ks t pc lv st :=
  fun H locs ls hz hP hS hl => W.widen h1 h2 (K H locs ls hz hP hS hl)
/-- one more cell -/
theorem yp_push {D : va_G} {x : va_E} {H H1 : Heap} (h : sk_yp D b E t H) (z : H1.size = H.size + 1) (o : ∀ q, q < H.size → H1[q]? = H[q]?) (e : va_at D vwCl (H.size, x) H1) : sk_yp D b (sk_eu E t x) (t + 1) H1 := by
  refine ⟨by rw [z, h.1]; omega, fun k hk => ?_⟩
  by_cases q : k = t
  · subst q
    rw [eu_y, ← h.1]
    exact e
  · rw [eu_n q]
    have h1 := h.2 k (by omega)
    exact va_at.kept h1 (o _ (by rw [h.1]; show b + k < b + t; omega))
theorem yp_set {D : va_G} {x : va_E} {k : Nat} {H H1 : Heap} (h : sk_yp D b E t H) (z : H1.size = H.size) (o : ∀ q, q ≠ b + k → H1[q]? = H[q]?) (e : va_at D vwCl (b + k, x) H1) : sk_yp D b (sk_eu E k x) t H1 := by
  refine ⟨by rw [z, h.1], fun j hj => ?_⟩
  by_cases q : j = k
  · subst q
    rw [eu_y]
    exact e
  · rw [eu_n q]
    exact va_at.kept (h.2 j hj) (o _ (by show b + j ≠ b + k; omega))
theorem va_S.up {H0 H H1 : Heap} {locs : List Loc} (hS : va_S A H0 H locs) (z : H1.size = H.size + 1) (o : ∀ q, q < H.size → H1[q]? = H[q]?) : va_S A H0 H1 locs :=
  ⟨Nat.le_trans hS.1 (by omega), fun x h1 h2 => (o x (Nat.lt_of_lt_of_le h1 hS.1)).trans (hS.2.1 x h1 h2), hS.2.2⟩
theorem y_newa (C : sk_YC X cc nL own rm O A b) {atype : ArrayType} {ty : FieldType} (hty : newarray.typeOf atype = ty) (harr : Cond.arrayClass ty ∈ sk_tb) (z : Nat) (hc : ∀ cA, (sk_s X).vm.findClass ("[" ++ ty.toString) = some cA → cA = sk_cy O z) {n : Int32} {N : Nat} (hd : defaultValue ty = .int 0) (hn : ¬ n < 0) (hN : n.toNatClampNeg = N) (hb : N * componentBytes ty ≤ 536870912) (hR : kc + 1 ≤ rm.cells ∧ ks + N ≤ rm.slots) (d : decode cc pc = .ok (.newarray atype, 2)) (K : sk_Y l X O A Q b (sk_eu E t (.inl (sk_cy O z, N, .inl (fun _ => 0)))) nL (kc + 1) (ks + N) (t + 1) (pc + 2) lv (.ref (b + t) :: st)) : sk_Y l X O A Q b E nL kc ks t pc lv (.int n :: st) := by
  intro H locs ls hz hP hS hl
  subst hty
  refine va_newaK C.1.1 C.1.2.1 (C.1.2.2.2.2 _ harr) rfl d rfl hn hN hb (by rw [C.2.1]; exact hR.1) (by rw [C.2.1]; exact hR.2) rfl fun H1 cA e1 z1 o1 hAr hNm => ?_
  rw [hP.1]
  refine K H1 locs ls trivial (yp_push hP z1 o1 ?_) (hS.up z1 o1) hl
  show H1[H.size]? = some (vp_cell _ _)
  rw [← hc cA hNm, vp_cell_i, e1, hd]
theorem y_put (C : sk_YC X cc nL own rm O A b) {C' : String} {T : u_T} {N ci k j index : Nat} (kcl : sk_cl ci (C', T, N)) (ty0 : Nat → FieldType) (hty : ∀ k, k < N → parseFieldDescriptor (T k).2.2.1 = some (ty0 k)) (hnm : ∀ a, a < N → ∀ b, b < N → a ≠ b → (T a).2.1 ≠ (T b).2.1) {fs : List Value} (hk : k < t) (he : E k = .inr (ci, fs)) (hj : j < N) (hlink : Cond.fieldLink own index (T j).1 (T j).2.1 (T j).2.2.1 ∈ sk_tb) (hfin : (T j).2.2.2 = true) (hin2 : X.2.2.2.2.2.2.2.1.name = "<init>") (hdecl : (T j).1 = own) {ty : FieldType} {v : Value} (hd : parseFieldDescriptor (T j).2.2.1 = some ty) (hn : narrow ty v = v) (hfit : fits ty v = true) (hl0 : j < fs.length) (d : decode cc pc = .ok (.putfield index, 3)) (K : sk_Y l X O A Q b (sk_eu E k (.inr (ci, fs.set j v))) nL kc ks t (pc + 3) lv st) : sk_Y l X O A Q b E nL kc ks t pc lv (v :: .ref (b + k) :: st) := by
  intro H locs ls hz hP hS hl
  have hts := C.1.2.2.2.2
  have hap := va_apart (own := own) hts kcl.2 ty0 hty hnm C.2.2.1 kcl.1
  have h0 := hP.2 k hk
  rw [he] at h0
  obtain ⟨r, h1, cell, q1, q2, q3, q4⟩ := h0
  have hr : r = (C', T, N) := Option.some.inj (h1.symm.trans kcl.1)
  subst hr
  obtain ⟨hS1, hfc, kC, hkC, hkind⟩ := C.2.2.1.1 ci _ kcl.1
  obtain ⟨cf, kf, fi, f, hi, hsl⟩ := hS1 j hj
  have hlay := hts _ (kcl.2 _ (u_in_lay hj))
  unfold u_lay at hlay
  rw [if_pos hfin] at hlay
  have hst := (u_facts hfc hkC (u_lays hts kcl.2 hj) hi).1
  have hcf : X.2.2.2.2.1.cls = cf := by
    obtain ⟨_, _, c', _, _, _, -, -, hf', -, -, -, hown2, -⟩ := Cond.laysFinal_spec hlay
    have e1 : c' = cf := by have := hi.symm.trans hf'; simp at this; exact this.1.symm
    rw [hdecl] at hown2
    rw [← e1]; exact Option.some.inj (C.1.2.2.2.1.symm.trans hown2)
  have h6 := u_fits hfc hkC hkind (Or.inr hlay) hi hd hn hfit
  refine W.putFinK C.1.1 C.1.2.1 C.1.2.2.2.1 (hts _ hlink) hi hst hcf hin2 (by rw [q2]; exact h6) q1 q3 (by rw [hsl]; exact k2_hasslot (q4 j hj)) rfl rfl d fun H' e1 e2 e3 => ?_
  rw [hsl] at e1 ⊢
  exact K H' _ ls trivial (yp_set hP e2 e3 ⟨_, kcl.1, t_OB.to (V := updV (vp_V fs) j v) ⟨_, e1, q2, q3, t_set q4 hap hj v⟩ (fun i _ => vp_updV_set hl0 v i)⟩) (hS.put e2 e3 (C.2.2.2.1 _ (Nat.le_add_right _ _))) hl
end SKY
