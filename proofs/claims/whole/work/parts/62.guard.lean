/-! The law: its long[1] beside the world (printed by l1.py out of part 03, but for what stands below) -/
def sk_lc (cL : ClassId) (v : Int64) : va_E := .inl (cL, 1, .inr (.inl (fun _ => v)))
def sk_L (l : Launch) (X : sk_X) (O : sk_O) (A : Nat → Prop) (Q : State → Prop) (a : Nat) (cL : ClassId) (v0 : Int64) (nL kc ks : Nat) (M : sk_M) (pc : Nat) (lv : List (Nat × Value)) (st : List Value) : Prop :=
  ∀ (H : Heap) (locs : List Loc) (ls : Array Slot), va_P O.1 vwCl (sk_ws O M) H → va_at O.1 vwCl (a, sk_lc cL v0) H → va_S A (sk_s X).heap H locs → lv_has ls nL lv →
    W X.1 l X.2.1 X.2.2.1 (sk_s X) X.2.2.2.2.1 X.2.2.2.2.2.1 X.2.2.2.2.2.2.1 X.2.2.2.2.2.2.2.1 X.2.2.2.2.2.2.2.2 H locs kc ks Q (F0 X.2.2.2.2.1 pc ls st)
def sk_LV (l : Launch) (X : sk_X) (O : sk_O) (A : Nat → Prop) (Q : State → Prop) (a : Nat) (cL : ClassId) (v0 : Int64) (nL kc ks : Nat) (M : sk_M) (pc : Nat) (lv : List (Nat × Value)) (st : List Value) (E : String) : Prop :=
  ∀ (H : Heap) (locs : List Loc) (ls : Array Slot) (ce : Cell) (q : Addr), va_P O.1 vwCl (sk_ws O M) H → va_at O.1 vwCl (a, sk_lc cL v0) H → va_S A (sk_s X).heap H locs → lv_has ls nL lv → H[q]? = some ce → ce.vm = .none → (sk_s X).vm.findClass E = some ce.cls →
    vx_W X.1 l X.2.1 X.2.2.1 (sk_s X) X.2.2.2.2.1 X.2.2.2.2.2.1 X.2.2.2.2.2.2.1 X.2.2.2.2.2.2.2.1 X.2.2.2.2.2.2.2.2 H locs kc ks Q (F0 X.2.2.2.2.1 pc ls st) q
def sk_LC (X : sk_X) (O : sk_O) (A : Nat → Prop) (a : Nat) (cL : ClassId) : Prop := (∀ k, k < sk_n O → sk_ad O k ≠ a) ∧ A a ∧ va_K O.1 vwCl [(cL, .long)] (sk_s X)
section SKL
variable {l : Launch} {X : sk_X} {cc : ByteArray} {nL : Nat} {own : String} {rm : Room} {O : sk_O} {A : Nat → Prop} {Q : State → Prop} {a : Nat} {cL : ClassId} {v0 : Int64} {kc ks : Nat} {M : sk_M} {pc : Nat} {lv : List (Nat × Value)} {st : List Value}
theorem l_iload (C : sk_C X cc nL own rm O A) (q : Nat) {i : Nat} {x : Int32} (d : decode cc pc = .ok (.iload i, 2)) (h : lv[q]? = some (i, .int x)) (K : sk_L l X O A Q a cL v0 nL kc ks M (pc + 2) lv (.int x :: st)) : sk_L l X O A Q a cL v0 nL kc ks M pc lv st :=
  fun H locs ls hP ha hS hl => lv_iload C.1.1 C.1.2.1 d (lv_at hl q h) (K H locs ls hP ha hS hl)
theorem l_iloadn (C : sk_C X cc nL own rm O A) (q : Nat) {k : Fin 4} {x : Int32} (d : decode cc pc = .ok (.iload_n k, 1)) (h : lv[q]? = some ((k : Nat), .int x)) (K : sk_L l X O A Q a cL v0 nL kc ks M (pc + 1) lv (.int x :: st)) : sk_L l X O A Q a cL v0 nL kc ks M pc lv st :=
  fun H locs ls hP ha hS hl => lv_iload_n C.1.1 C.1.2.1 d rfl (lv_at hl q h) (K H locs ls hP ha hS hl)
theorem l_aload (C : sk_C X cc nL own rm O A) (q : Nat) {i : Nat} {x : Nat} (d : decode cc pc = .ok (.aload i, 2)) (h : lv[q]? = some (i, .ref x)) (K : sk_L l X O A Q a cL v0 nL kc ks M (pc + 2) lv (.ref x :: st)) : sk_L l X O A Q a cL v0 nL kc ks M pc lv st :=
  fun H locs ls hP ha hS hl => lv_aload C.1.1 C.1.2.1 d (lv_at hl q h) (K H locs ls hP ha hS hl)
theorem l_aloadn (C : sk_C X cc nL own rm O A) (q : Nat) {k : Fin 4} {x : Nat} (d : decode cc pc = .ok (.aload_n k, 1)) (h : lv[q]? = some ((k : Nat), .ref x)) (K : sk_L l X O A Q a cL v0 nL kc ks M (pc + 1) lv (.ref x :: st)) : sk_L l X O A Q a cL v0 nL kc ks M pc lv st :=
  fun H locs ls hP ha hS hl => lv_aload_n C.1.1 C.1.2.1 d rfl (lv_at hl q h) (K H locs ls hP ha hS hl)
theorem l_lload (C : sk_C X cc nL own rm O A) (q : Nat) {i : Nat} {x : Int64} (d : decode cc pc = .ok (.lload i, 2)) (h : lv[q]? = some (i, .long x)) (K : sk_L l X O A Q a cL v0 nL kc ks M (pc + 2) lv (.long x :: st)) : sk_L l X O A Q a cL v0 nL kc ks M pc lv st :=
  fun H locs ls hP ha hS hl => lv_lload C.1.1 C.1.2.1 d (lv_at hl q h) (K H locs ls hP ha hS hl)
theorem l_lloadn (C : sk_C X cc nL own rm O A) (q : Nat) {k : Fin 4} {x : Int64} (d : decode cc pc = .ok (.lload_n k, 1)) (h : lv[q]? = some ((k : Nat), .long x)) (K : sk_L l X O A Q a cL v0 nL kc ks M (pc + 1) lv (.long x :: st)) : sk_L l X O A Q a cL v0 nL kc ks M pc lv st :=
  fun H locs ls hP ha hS hl => lv_lload_n C.1.1 C.1.2.1 d rfl (lv_at hl q h) (K H locs ls hP ha hS hl)
theorem l_istore (C : sk_C X cc nL own rm O A) (is : List Nat) (lv' : List (Nat × Value)) {i : Nat} {x : Int32} (d : decode cc pc = .ok (.istore i, 2)) (hn : i < nL) (h : lv_pick (sk_li i (.int x) lv) is = lv') (K : sk_L l X O A Q a cL v0 nL kc ks M (pc + 2) lv' st) : sk_L l X O A Q a cL v0 nL kc ks M pc lv (.int x :: st) :=
  fun H locs ls hP ha hS hl => lv_istore C.1.1 C.1.2.1 d hl hn rfl (fun ls' hl' => K H locs ls' hP ha hS (lv_sub hl' is h))
theorem l_istoren (C : sk_C X cc nL own rm O A) (is : List Nat) (lv' : List (Nat × Value)) {k : Fin 4} {x : Int32} (d : decode cc pc = .ok (.istore_n k, 1)) (hn : (k : Nat) < nL) (h : lv_pick (sk_li (k : Nat) (.int x) lv) is = lv') (K : sk_L l X O A Q a cL v0 nL kc ks M (pc + 1) lv' st) : sk_L l X O A Q a cL v0 nL kc ks M pc lv (.int x :: st) :=
  fun H locs ls hP ha hS hl => lv_istore_n C.1.1 C.1.2.1 d rfl hl hn rfl (fun ls' hl' => K H locs ls' hP ha hS (lv_sub hl' is h))
theorem l_astore (C : sk_C X cc nL own rm O A) (is : List Nat) (lv' : List (Nat × Value)) {i : Nat} {x : Nat} (d : decode cc pc = .ok (.astore i, 2)) (hn : i < nL) (h : lv_pick (sk_li i (.ref x) lv) is = lv') (K : sk_L l X O A Q a cL v0 nL kc ks M (pc + 2) lv' st) : sk_L l X O A Q a cL v0 nL kc ks M pc lv (.ref x :: st) :=
  fun H locs ls hP ha hS hl => lv_astore C.1.1 C.1.2.1 d hl hn rfl (fun ls' hl' => K H locs ls' hP ha hS (lv_sub hl' is h))
theorem l_astoren (C : sk_C X cc nL own rm O A) (is : List Nat) (lv' : List (Nat × Value)) {k : Fin 4} {x : Nat} (d : decode cc pc = .ok (.astore_n k, 1)) (hn : (k : Nat) < nL) (h : lv_pick (sk_li (k : Nat) (.ref x) lv) is = lv') (K : sk_L l X O A Q a cL v0 nL kc ks M (pc + 1) lv' st) : sk_L l X O A Q a cL v0 nL kc ks M pc lv (.ref x :: st) :=
  fun H locs ls hP ha hS hl => lv_astore_n C.1.1 C.1.2.1 d rfl hl hn rfl (fun ls' hl' => K H locs ls' hP ha hS (lv_sub hl' is h))
theorem l_lstore (C : sk_C X cc nL own rm O A) (is : List Nat) (lv' : List (Nat × Value)) {i : Nat} {x : Int64} (d : decode cc pc = .ok (.lstore i, 2)) (hn : i + 1 < nL) (h : lv_pick (sk_ll i (.long x) lv) is = lv') (K : sk_L l X O A Q a cL v0 nL kc ks M (pc + 2) lv' st) : sk_L l X O A Q a cL v0 nL kc ks M pc lv (.long x :: st) :=
  fun H locs ls hP ha hS hl => lv_lstore C.1.1 C.1.2.1 d hl hn rfl (fun ls' hl' => K H locs ls' hP ha hS (lv_sub hl' is h))
theorem l_lstoren (C : sk_C X cc nL own rm O A) (is : List Nat) (lv' : List (Nat × Value)) {k : Fin 4} {x : Int64} (d : decode cc pc = .ok (.lstore_n k, 1)) (hn : (k : Nat) + 1 < nL) (h : lv_pick (sk_ll (k : Nat) (.long x) lv) is = lv') (K : sk_L l X O A Q a cL v0 nL kc ks M (pc + 1) lv' st) : sk_L l X O A Q a cL v0 nL kc ks M pc lv (.long x :: st) :=
  fun H locs ls hP ha hS hl => lv_lstore_n C.1.1 C.1.2.1 d rfl hl hn rfl (fun ls' hl' => K H locs ls' hP ha hS (lv_sub hl' is h))
theorem l_iinc (C : sk_C X cc nL own rm O A) (q : Nat) (v : Int32) (is : List Nat) (lv' : List (Nat × Value)) {i : Nat} {n : Int} {x : Int32} (d : decode cc pc = .ok (.iinc i n, 3)) (h0 : lv[q]? = some (i, .int x)) (hv : x + Int32.ofInt n = v) (hn : i < nL) (h : lv_pick (sk_li i (.int v) lv) is = lv') (K : sk_L l X O A Q a cL v0 nL kc ks M (pc + 3) lv' st) : sk_L l X O A Q a cL v0 nL kc ks M pc lv st :=
  fun H locs ls hP ha hS hl => lv_iinc C.1.1 C.1.2.1 d hl h0 hv hn rfl (fun ls' hl' => K H locs ls' hP ha hS (lv_sub hl' is h))
theorem l_iconst (C : sk_C X cc nL own rm O A) (v : Int32) {n : Int} (d : decode cc pc = .ok (.iconst n, 1)) (hv : Int32.ofInt n = v) (K : sk_L l X O A Q a cL v0 nL kc ks M (pc + 1) lv (.int v :: st)) : sk_L l X O A Q a cL v0 nL kc ks M pc lv st :=
  fun H locs ls hP ha hS hl => lv_iconst C.1.1 C.1.2.1 d hv (K H locs ls hP ha hS hl)
theorem l_bipush (C : sk_C X cc nL own rm O A) (v : Int32) {n : Int} (d : decode cc pc = .ok (.bipush n, 2)) (hv : (Int8.ofInt n).toInt32 = v) (K : sk_L l X O A Q a cL v0 nL kc ks M (pc + 2) lv (.int v :: st)) : sk_L l X O A Q a cL v0 nL kc ks M pc lv st :=
  fun H locs ls hP ha hS hl => lv_bipush C.1.1 C.1.2.1 d hv (K H locs ls hP ha hS hl)
theorem l_sipush (C : sk_C X cc nL own rm O A) (v : Int32) {n : Int} (d : decode cc pc = .ok (.sipush n, 3)) (hv : (Int16.ofInt n).toInt32 = v) (K : sk_L l X O A Q a cL v0 nL kc ks M (pc + 3) lv (.int v :: st)) : sk_L l X O A Q a cL v0 nL kc ks M pc lv st :=
  fun H locs ls hP ha hS hl => lv_sipush C.1.1 C.1.2.1 d hv (K H locs ls hP ha hS hl)
theorem l_lconst (C : sk_C X cc nL own rm O A) (v : Int64) {n : Fin 2} (d : decode cc pc = .ok (.lconst n, 1)) (hv : Int64.ofNat (n : Nat) = v) (K : sk_L l X O A Q a cL v0 nL kc ks M (pc + 1) lv (.long v :: st)) : sk_L l X O A Q a cL v0 nL kc ks M pc lv st :=
  fun H locs ls hP ha hS hl => lv_lconst C.1.1 C.1.2.1 d hv (K H locs ls hP ha hS hl)
theorem l_ldc (C : sk_C X cc nL own rm O A) {v : Int32} {idx : Nat} (hc : Cond.constant own idx v ∈ sk_tb) (d : decode cc pc = .ok (.ldc idx, 2)) (K : sk_L l X O A Q a cL v0 nL kc ks M (pc + 2) lv (.int v :: st)) : sk_L l X O A Q a cL v0 nL kc ks M pc lv st :=
  fun H locs ls hP ha hS hl => lv_ldc C.1.1 C.1.2.1 C.1.2.2.2.1 (C.1.2.2.2.2 _ hc) d (K H locs ls hP ha hS hl)
theorem l_ldcl (C : sk_C X cc nL own rm O A) {v : Int64} {idx : Nat} (hc : Cond.constantLong own idx v ∈ sk_tb) (d : decode cc pc = .ok (.ldc2_w idx, 3)) (K : sk_L l X O A Q a cL v0 nL kc ks M (pc + 3) lv (.long v :: st)) : sk_L l X O A Q a cL v0 nL kc ks M pc lv st :=
  fun H locs ls hP ha hS hl => lv_ldc2 C.1.1 C.1.2.1 C.1.2.2.2.1 (C.1.2.2.2.2 _ hc) d (K H locs ls hP ha hS hl)
theorem l_iadd (C : sk_C X cc nL own rm O A) {x y : Int32} (d : decode cc pc = .ok (.iadd, 1)) (K : sk_L l X O A Q a cL v0 nL kc ks M (pc + 1) lv (.int (x + y) :: st)) : sk_L l X O A Q a cL v0 nL kc ks M pc lv (.int y :: .int x :: st) :=
  fun H locs ls hP ha hS hl => lv_iadd C.1.1 C.1.2.1 d (K H locs ls hP ha hS hl)
theorem l_isub (C : sk_C X cc nL own rm O A) {x y : Int32} (d : decode cc pc = .ok (.isub, 1)) (K : sk_L l X O A Q a cL v0 nL kc ks M (pc + 1) lv (.int (x - y) :: st)) : sk_L l X O A Q a cL v0 nL kc ks M pc lv (.int y :: .int x :: st) :=
  fun H locs ls hP ha hS hl => lv_isub C.1.1 C.1.2.1 d (K H locs ls hP ha hS hl)
theorem l_imul (C : sk_C X cc nL own rm O A) {x y : Int32} (d : decode cc pc = .ok (.imul, 1)) (K : sk_L l X O A Q a cL v0 nL kc ks M (pc + 1) lv (.int (x * y) :: st)) : sk_L l X O A Q a cL v0 nL kc ks M pc lv (.int y :: .int x :: st) :=
  fun H locs ls hP ha hS hl => lv_imul C.1.1 C.1.2.1 d (K H locs ls hP ha hS hl)
theorem l_idiv (C : sk_C X cc nL own rm O A) {x y : Int32} (d : decode cc pc = .ok (.idiv, 1)) (hne : ¬ y = 0) (K : sk_L l X O A Q a cL v0 nL kc ks M (pc + 1) lv (.int (x / y) :: st)) : sk_L l X O A Q a cL v0 nL kc ks M pc lv (.int y :: .int x :: st) :=
  fun H locs ls hP ha hS hl => lv_idiv C.1.1 C.1.2.1 d hne (K H locs ls hP ha hS hl)
theorem l_irem (C : sk_C X cc nL own rm O A) {x y : Int32} (d : decode cc pc = .ok (.irem, 1)) (hne : ¬ y = 0) (K : sk_L l X O A Q a cL v0 nL kc ks M (pc + 1) lv (.int (x - x / y * y) :: st)) : sk_L l X O A Q a cL v0 nL kc ks M pc lv (.int y :: .int x :: st) :=
  fun H locs ls hP ha hS hl => lv_irem C.1.1 C.1.2.1 d hne (K H locs ls hP ha hS hl)
theorem l_iand (C : sk_C X cc nL own rm O A) {x y : Int32} (d : decode cc pc = .ok (.iand, 1)) (K : sk_L l X O A Q a cL v0 nL kc ks M (pc + 1) lv (.int (x &&& y) :: st)) : sk_L l X O A Q a cL v0 nL kc ks M pc lv (.int y :: .int x :: st) :=
  fun H locs ls hP ha hS hl => lv_iand C.1.1 C.1.2.1 d (K H locs ls hP ha hS hl)
theorem l_ineg (C : sk_C X cc nL own rm O A) {x : Int32} (d : decode cc pc = .ok (.ineg, 1)) (K : sk_L l X O A Q a cL v0 nL kc ks M (pc + 1) lv (.int (-x) :: st)) : sk_L l X O A Q a cL v0 nL kc ks M pc lv (.int x :: st) :=
  fun H locs ls hP ha hS hl => lv_ineg C.1.1 C.1.2.1 d (K H locs ls hP ha hS hl)
theorem l_ladd (C : sk_C X cc nL own rm O A) {x y : Int64} (d : decode cc pc = .ok (.ladd, 1)) (K : sk_L l X O A Q a cL v0 nL kc ks M (pc + 1) lv (.long (x + y) :: st)) : sk_L l X O A Q a cL v0 nL kc ks M pc lv (.long y :: .long x :: st) :=
  fun H locs ls hP ha hS hl => lv_ladd C.1.1 C.1.2.1 d (K H locs ls hP ha hS hl)
theorem l_lsub (C : sk_C X cc nL own rm O A) {x y : Int64} (d : decode cc pc = .ok (.lsub, 1)) (K : sk_L l X O A Q a cL v0 nL kc ks M (pc + 1) lv (.long (x - y) :: st)) : sk_L l X O A Q a cL v0 nL kc ks M pc lv (.long y :: .long x :: st) :=
  fun H locs ls hP ha hS hl => lv_lsub C.1.1 C.1.2.1 d (K H locs ls hP ha hS hl)
theorem l_lmul (C : sk_C X cc nL own rm O A) {x y : Int64} (d : decode cc pc = .ok (.lmul, 1)) (K : sk_L l X O A Q a cL v0 nL kc ks M (pc + 1) lv (.long (x * y) :: st)) : sk_L l X O A Q a cL v0 nL kc ks M pc lv (.long y :: .long x :: st) :=
  fun H locs ls hP ha hS hl => lv_lmul C.1.1 C.1.2.1 d (K H locs ls hP ha hS hl)
theorem l_ldiv (C : sk_C X cc nL own rm O A) {x y : Int64} (d : decode cc pc = .ok (.ldiv, 1)) (hne : ¬ y = 0) (K : sk_L l X O A Q a cL v0 nL kc ks M (pc + 1) lv (.long (x / y) :: st)) : sk_L l X O A Q a cL v0 nL kc ks M pc lv (.long y :: .long x :: st) :=
  fun H locs ls hP ha hS hl => lv_ldiv C.1.1 C.1.2.1 d hne (K H locs ls hP ha hS hl)
theorem l_lrem (C : sk_C X cc nL own rm O A) {x y : Int64} (d : decode cc pc = .ok (.lrem, 1)) (hne : ¬ y = 0) (K : sk_L l X O A Q a cL v0 nL kc ks M (pc + 1) lv (.long (x - x / y * y) :: st)) : sk_L l X O A Q a cL v0 nL kc ks M pc lv (.long y :: .long x :: st) :=
  fun H locs ls hP ha hS hl => lv_lrem C.1.1 C.1.2.1 d hne (K H locs ls hP ha hS hl)
theorem l_i2l (C : sk_C X cc nL own rm O A) {x : Int32} (d : decode cc pc = .ok (.i2l, 1)) (K : sk_L l X O A Q a cL v0 nL kc ks M (pc + 1) lv (.long x.toInt64 :: st)) : sk_L l X O A Q a cL v0 nL kc ks M pc lv (.int x :: st) :=
  fun H locs ls hP ha hS hl => lv_i2l C.1.1 C.1.2.1 d rfl (K H locs ls hP ha hS hl)
theorem l_l2i (C : sk_C X cc nL own rm O A) {x : Int64} (d : decode cc pc = .ok (.l2i, 1)) (K : sk_L l X O A Q a cL v0 nL kc ks M (pc + 1) lv (.int x.toInt32 :: st)) : sk_L l X O A Q a cL v0 nL kc ks M pc lv (.long x :: st) :=
  fun H locs ls hP ha hS hl => lv_l2i C.1.1 C.1.2.1 d rfl (K H locs ls hP ha hS hl)
theorem l_lushr (C : sk_C X cc nL own rm O A) {x : Int64} {y : Int32} (d : decode cc pc = .ok (.lushr, 1)) (K : sk_L l X O A Q a cL v0 nL kc ks M (pc + 1) lv (.long ((x.toUInt64 >>> (y.toInt64.toUInt64 &&& Int64.toUInt64 63)).toInt64) :: st)) : sk_L l X O A Q a cL v0 nL kc ks M pc lv (.int y :: .long x :: st) :=
  fun H locs ls hP ha hS hl => lv_lushr C.1.1 C.1.2.1 d rfl (K H locs ls hP ha hS hl)
theorem l_lcmp (C : sk_C X cc nL own rm O A) {x y : Int64} (d : decode cc pc = .ok (.lcmp, 1)) (K : sk_L l X O A Q a cL v0 nL kc ks M (pc + 1) lv (.int (lg_cmp x y) :: st)) : sk_L l X O A Q a cL v0 nL kc ks M pc lv (.long y :: .long x :: st) :=
  fun H locs ls hP ha hS hl => W.lcmp C.1.1 C.1.2.1 d (K H locs ls hP ha hS hl)
theorem l_dup2 (C : sk_C X cc nL own rm O A) {u v : Value} (d : decode cc pc = .ok (.dup2, 1)) (h : v.category = 1) (h2 : u.category = 1) (K : sk_L l X O A Q a cL v0 nL kc ks M (pc + 1) lv (v :: u :: v :: u :: st)) : sk_L l X O A Q a cL v0 nL kc ks M pc lv (v :: u :: st) :=
  fun H locs ls hP ha hS hl => lv_dup2_11 C.1.1 C.1.2.1 d h h2 (K H locs ls hP ha hS hl)
theorem l_ldcw (C : sk_C X cc nL own rm O A) {v : Int32} {idx : Nat} (hc : Cond.constant own idx v ∈ sk_tb) (d : decode cc pc = .ok (.ldc_w idx, 3)) (K : sk_L l X O A Q a cL v0 nL kc ks M (pc + 3) lv (.int v :: st)) : sk_L l X O A Q a cL v0 nL kc ks M pc lv st :=
  fun H locs ls hP ha hS hl => lv_ldcw C.1.1 C.1.2.1 C.1.2.2.2.1 (C.1.2.2.2.2 _ hc) d (K H locs ls hP ha hS hl)
theorem l_dup (C : sk_C X cc nL own rm O A) {v : Value} (d : decode cc pc = .ok (.dup, 1)) (h : v.category = 1) (K : sk_L l X O A Q a cL v0 nL kc ks M (pc + 1) lv (v :: v :: st)) : sk_L l X O A Q a cL v0 nL kc ks M pc lv (v :: st) :=
  fun H locs ls hP ha hS hl => lv_dup C.1.1 C.1.2.1 d h (K H locs ls hP ha hS hl)
theorem l_pop (C : sk_C X cc nL own rm O A) {v : Value} (d : decode cc pc = .ok (.pop, 1)) (h : v.category = 1) (K : sk_L l X O A Q a cL v0 nL kc ks M (pc + 1) lv st) : sk_L l X O A Q a cL v0 nL kc ks M pc lv (v :: st) :=
  fun H locs ls hP ha hS hl => lv_pop C.1.1 C.1.2.1 d h (K H locs ls hP ha hS hl)
theorem l_goto (C : sk_C X cc nL own rm O A) (tgt : Nat) {off : Int} (d : decode cc pc = .ok (.goto off, 3)) (ht : (pc : Int) + off = (tgt : Int)) (K : sk_L l X O A Q a cL v0 nL kc ks M tgt lv st) : sk_L l X O A Q a cL v0 nL kc ks M pc lv st :=
  fun H locs ls hP ha hS hl => lv_goto C.1.1 C.1.2.1 d ht (K H locs ls hP ha hS hl)
theorem l_ceq (C : sk_C X cc nL own rm O A) (tgt : Nat) {off : Int} {x y : Int32} (d : decode cc pc = .ok (.if_icmp .eq off, 3)) (ht : (pc : Int) + off = (tgt : Int)) (K1 : x = y → sk_L l X O A Q a cL v0 nL kc ks M tgt lv st) (K2 : ¬ x = y → sk_L l X O A Q a cL v0 nL kc ks M (pc + 3) lv st) : sk_L l X O A Q a cL v0 nL kc ks M pc lv (.int y :: .int x :: st) :=
  fun H locs ls hP ha hS hl => lv_icmp_eq C.1.1 C.1.2.1 d ht (fun h => K1 h H locs ls hP ha hS hl) (fun h => K2 h H locs ls hP ha hS hl)
theorem l_cne (C : sk_C X cc nL own rm O A) (tgt : Nat) {off : Int} {x y : Int32} (d : decode cc pc = .ok (.if_icmp .ne off, 3)) (ht : (pc : Int) + off = (tgt : Int)) (K1 : ¬ x = y → sk_L l X O A Q a cL v0 nL kc ks M tgt lv st) (K2 : x = y → sk_L l X O A Q a cL v0 nL kc ks M (pc + 3) lv st) : sk_L l X O A Q a cL v0 nL kc ks M pc lv (.int y :: .int x :: st) :=
  fun H locs ls hP ha hS hl => lv_icmp_ne C.1.1 C.1.2.1 d ht (fun h => K1 h H locs ls hP ha hS hl) (fun h => K2 h H locs ls hP ha hS hl)
theorem l_cge (C : sk_C X cc nL own rm O A) (tgt : Nat) {off : Int} {x y : Int32} (d : decode cc pc = .ok (.if_icmp .ge off, 3)) (ht : (pc : Int) + off = (tgt : Int)) (K1 : y ≤ x → sk_L l X O A Q a cL v0 nL kc ks M tgt lv st) (K2 : ¬ y ≤ x → sk_L l X O A Q a cL v0 nL kc ks M (pc + 3) lv st) : sk_L l X O A Q a cL v0 nL kc ks M pc lv (.int y :: .int x :: st) :=
  fun H locs ls hP ha hS hl => lv_icmp_ge C.1.1 C.1.2.1 d ht (fun h => K1 h H locs ls hP ha hS hl) (fun h => K2 h H locs ls hP ha hS hl)
theorem l_cgt (C : sk_C X cc nL own rm O A) (tgt : Nat) {off : Int} {x y : Int32} (d : decode cc pc = .ok (.if_icmp .gt off, 3)) (ht : (pc : Int) + off = (tgt : Int)) (K1 : y < x → sk_L l X O A Q a cL v0 nL kc ks M tgt lv st) (K2 : ¬ y < x → sk_L l X O A Q a cL v0 nL kc ks M (pc + 3) lv st) : sk_L l X O A Q a cL v0 nL kc ks M pc lv (.int y :: .int x :: st) :=
  fun H locs ls hP ha hS hl => lv_icmp_gt C.1.1 C.1.2.1 d ht (fun h => K1 h H locs ls hP ha hS hl) (fun h => K2 h H locs ls hP ha hS hl)
theorem l_cle (C : sk_C X cc nL own rm O A) (tgt : Nat) {off : Int} {x y : Int32} (d : decode cc pc = .ok (.if_icmp .le off, 3)) (ht : (pc : Int) + off = (tgt : Int)) (K1 : x ≤ y → sk_L l X O A Q a cL v0 nL kc ks M tgt lv st) (K2 : ¬ x ≤ y → sk_L l X O A Q a cL v0 nL kc ks M (pc + 3) lv st) : sk_L l X O A Q a cL v0 nL kc ks M pc lv (.int y :: .int x :: st) :=
  fun H locs ls hP ha hS hl => lv_icmp_le C.1.1 C.1.2.1 d ht (fun h => K1 h H locs ls hP ha hS hl) (fun h => K2 h H locs ls hP ha hS hl)
theorem l_clt (C : sk_C X cc nL own rm O A) (tgt : Nat) {off : Int} {x y : Int32} (d : decode cc pc = .ok (.if_icmp .lt off, 3)) (ht : (pc : Int) + off = (tgt : Int)) (K1 : x < y → sk_L l X O A Q a cL v0 nL kc ks M tgt lv st) (K2 : ¬ x < y → sk_L l X O A Q a cL v0 nL kc ks M (pc + 3) lv st) : sk_L l X O A Q a cL v0 nL kc ks M pc lv (.int y :: .int x :: st) :=
  fun H locs ls hP ha hS hl => lv_icmp_lt C.1.1 C.1.2.1 d ht (fun h => K1 h H locs ls hP ha hS hl) (fun h => K2 h H locs ls hP ha hS hl)
theorem l_zeq (C : sk_C X cc nL own rm O A) (tgt : Nat) {off : Int} {x : Int32} (d : decode cc pc = .ok (.ifCond .eq off, 3)) (ht : (pc : Int) + off = (tgt : Int)) (K1 : x = 0 → sk_L l X O A Q a cL v0 nL kc ks M tgt lv st) (K2 : ¬ x = 0 → sk_L l X O A Q a cL v0 nL kc ks M (pc + 3) lv st) : sk_L l X O A Q a cL v0 nL kc ks M pc lv (.int x :: st) :=
  fun H locs ls hP ha hS hl => lv_if_eq C.1.1 C.1.2.1 d ht (fun h => K1 h H locs ls hP ha hS hl) (fun h => K2 h H locs ls hP ha hS hl)
theorem l_zne (C : sk_C X cc nL own rm O A) (tgt : Nat) {off : Int} {x : Int32} (d : decode cc pc = .ok (.ifCond .ne off, 3)) (ht : (pc : Int) + off = (tgt : Int)) (K1 : ¬ x = 0 → sk_L l X O A Q a cL v0 nL kc ks M tgt lv st) (K2 : x = 0 → sk_L l X O A Q a cL v0 nL kc ks M (pc + 3) lv st) : sk_L l X O A Q a cL v0 nL kc ks M pc lv (.int x :: st) :=
  fun H locs ls hP ha hS hl => lv_if_ne C.1.1 C.1.2.1 d ht (fun h => K1 h H locs ls hP ha hS hl) (fun h => K2 h H locs ls hP ha hS hl)
theorem l_zlt (C : sk_C X cc nL own rm O A) (tgt : Nat) {off : Int} {x : Int32} (d : decode cc pc = .ok (.ifCond .lt off, 3)) (ht : (pc : Int) + off = (tgt : Int)) (K1 : x < 0 → sk_L l X O A Q a cL v0 nL kc ks M tgt lv st) (K2 : ¬ x < 0 → sk_L l X O A Q a cL v0 nL kc ks M (pc + 3) lv st) : sk_L l X O A Q a cL v0 nL kc ks M pc lv (.int x :: st) :=
  fun H locs ls hP ha hS hl => lv_if_lt C.1.1 C.1.2.1 d ht (fun h => K1 h H locs ls hP ha hS hl) (fun h => K2 h H locs ls hP ha hS hl)
theorem l_zge (C : sk_C X cc nL own rm O A) (tgt : Nat) {off : Int} {x : Int32} (d : decode cc pc = .ok (.ifCond .ge off, 3)) (ht : (pc : Int) + off = (tgt : Int)) (K1 : 0 ≤ x → sk_L l X O A Q a cL v0 nL kc ks M tgt lv st) (K2 : ¬ 0 ≤ x → sk_L l X O A Q a cL v0 nL kc ks M (pc + 3) lv st) : sk_L l X O A Q a cL v0 nL kc ks M pc lv (.int x :: st) :=
  fun H locs ls hP ha hS hl => lv_if_ge C.1.1 C.1.2.1 d ht (fun h => K1 h H locs ls hP ha hS hl) (fun h => K2 h H locs ls hP ha hS hl)
theorem l_zgt (C : sk_C X cc nL own rm O A) (tgt : Nat) {off : Int} {x : Int32} (d : decode cc pc = .ok (.ifCond .gt off, 3)) (ht : (pc : Int) + off = (tgt : Int)) (K1 : 0 < x → sk_L l X O A Q a cL v0 nL kc ks M tgt lv st) (K2 : ¬ 0 < x → sk_L l X O A Q a cL v0 nL kc ks M (pc + 3) lv st) : sk_L l X O A Q a cL v0 nL kc ks M pc lv (.int x :: st) :=
  fun H locs ls hP ha hS hl => lv_if_gt C.1.1 C.1.2.1 d ht (fun h => K1 h H locs ls hP ha hS hl) (fun h => K2 h H locs ls hP ha hS hl)
theorem l_zle (C : sk_C X cc nL own rm O A) (tgt : Nat) {off : Int} {x : Int32} (d : decode cc pc = .ok (.ifCond .le off, 3)) (ht : (pc : Int) + off = (tgt : Int)) (K1 : x ≤ 0 → sk_L l X O A Q a cL v0 nL kc ks M tgt lv st) (K2 : ¬ x ≤ 0 → sk_L l X O A Q a cL v0 nL kc ks M (pc + 3) lv st) : sk_L l X O A Q a cL v0 nL kc ks M pc lv (.int x :: st) :=
  fun H locs ls hP ha hS hl => lv_if_le C.1.1 C.1.2.1 d ht (fun h => K1 h H locs ls hP ha hS hl) (fun h => K2 h H locs ls hP ha hS hl)
theorem l_tin (C : sk_C X cc nL own rm O A) (tgt : Nat) {dflt lo hi : Int} {offs : Array Int} {len : Nat} {x : Int32} (off : Int) (d : decode cc pc = .ok (.tableswitch dflt lo hi offs, len)) (h : (¬ x.toInt < lo ∧ ¬ hi < x.toInt) ∧ offs[(x.toInt - lo).toNat]? = some off) (ht : (pc : Int) + off = (tgt : Int)) (K : sk_L l X O A Q a cL v0 nL kc ks M tgt lv st) : sk_L l X O A Q a cL v0 nL kc ks M pc lv (.int x :: st) :=
  fun H locs ls hP ha hS hl => lv_tableIn C.1.1 C.1.2.1 d h.1.1 h.1.2 h.2 ht (K H locs ls hP ha hS hl)
theorem l_tout (C : sk_C X cc nL own rm O A) (tgt : Nat) {dflt lo hi : Int} {offs : Array Int} {len : Nat} {x : Int32} (d : decode cc pc = .ok (.tableswitch dflt lo hi offs, len)) (h : x.toInt < lo ∨ hi < x.toInt) (ht : (pc : Int) + dflt = (tgt : Int)) (K : sk_L l X O A Q a cL v0 nL kc ks M tgt lv st) : sk_L l X O A Q a cL v0 nL kc ks M pc lv (.int x :: st) :=
  fun H locs ls hP ha hS hl => lv_tableOut C.1.1 C.1.2.1 d h ht (K H locs ls hP ha hS hl)
theorem l_widen {k n : Nat} (h1 : kc ≤ k) (h2 : ks ≤ n) (K : sk_L l X O A Q a cL v0 nL k n M pc lv st) : sk_L l X O A Q a cL v0 nL kc ks M pc lv st :=
  fun H locs ls hP ha hS hl => W.widen h1 h2 (K H locs ls hP ha hS hl)
theorem va_one {D : va_G} {cl : List vw_C} {q : Nat × va_E} {H : Heap} (h : va_at D cl q H) : va_P D cl [q] H := fun k x hk => by
  match k with
  | 0 => cases hk; exact h
  | k + 1 => cases hk
theorem l_wP {H : Heap} (hP : va_P O.1 vwCl (sk_ws O M) H) (ha : va_at O.1 vwCl (a, sk_lc cL v0) H) : va_P O.1 vwCl (sk_ws O M ++ [(a, sk_lc cL v0)]) H := hP.app (va_one ha)
theorem l_wD (C : sk_C X cc nL own rm O A) (L : sk_LC X O A a cL) : va_D A (sk_ws O M ++ [(a, sk_lc cL v0)]) := by
  refine va_D.app (sk_vD C.2.2.2.1 C.2.2.2.2.1) ⟨fun i j p q h1 h2 h3 => ?_, fun k q hk => ?_⟩ (fun i j p q h1 h2 h3 => ?_)
  · match i, j with
    | 0, 0 => rfl
    | 0, j + 1 => cases h2
    | i + 1, _ => cases h1
  · match k with
    | 0 => cases hk; exact L.2.1
    | k + 1 => cases hk
  · obtain ⟨k1, rfl⟩ := sk_get h1
    match j with
    | 0 => cases h2; exact L.1 _ k1 h3
    | j + 1 => cases h2
theorem l_at : (sk_ws O M ++ [(a, sk_lc cL v0)])[sk_n O]? = some (a, sk_lc cL v0) := by
  rw [List.getElem?_append_right (by rw [sk_len]; exact Nat.le_refl _), sk_len, Nat.sub_self]
  rfl
theorem arrV_1 {c : ClassId} {f g : Nat → Value} (h : f 0 = g 0) : arrV c 1 f = arrV c 1 g := by
  unfold arrV
  congr 1
  apply Array.ext
  · simp
  · intro i h1 h2
    have : i = 0 := by simp at h1; exact h1
    subst this
    simp [h]
theorem l_last (C : sk_C X cc nL own rm O A) (L : sk_LC X O A a cL) {x : Int64} (d : decode cc pc = .ok (.lastore, 1)) (K : sk_L l X O A Q a cL x nL kc ks M (pc + 1) lv st) : sk_L l X O A Q a cL v0 nL kc ks M pc lv (.long x :: .int 0 :: .ref a :: st) := by
  intro H locs ls hP ha hS hl
  refine va_last C.1.1 C.1.2.1 (C.2.2.1.app L.2.2) (l_wP hP ha) (l_wD C L) hS (sk_n O) 4 l_at rfl (by unfold vp_in; decide) d (fun H1 locs1 hP1 hD1 hS1 => ?_)
  have hlen : (sk_ws O M).length = sk_n O := sk_len
  refine K H1 locs1 ls (fun k q hk => hP1 k q ?_) ?_ hS1 hl
  · have hk1 : k < sk_n O := (sk_get hk).1
    rw [List.getElem?_set_ne (by omega), List.getElem?_append_left (by omega)]
    exact hk
  · have h := hP1 (sk_n O) _ (List.getElem?_set_self (by simp [hlen]))
    have e : vp_cell cL (1, .inr (.inl (vp_updL (fun _ => v0) (0 : Int32).toNatClampNeg x))) = vp_cell cL (1, .inr (.inl (fun _ => x))) := by
      rw [vp_cell_l, vp_cell_l]
      exact arrV_1 (by rfl)
    show H1[a]? = some (vp_cell cL (1, .inr (.inl (fun _ => x))))
    rw [← e]
    exact h
theorem l_lald (C : sk_C X cc nL own rm O A) (L : sk_LC X O A a cL) (d : decode cc pc = .ok (.laload, 1)) (K : sk_L l X O A Q a cL v0 nL kc ks M (pc + 1) lv (.long v0 :: st)) : sk_L l X O A Q a cL v0 nL kc ks M pc lv (.int 0 :: .ref a :: st) :=
  fun H locs ls hP ha hS hl => va_lald C.1.1 C.1.2.1 (C.2.2.1.app L.2.2) (l_wP hP ha) (sk_n O) 4 l_at rfl (by unfold vp_in; decide) d (K H locs ls hP ha hS hl)
/-- the cell is no object of the world, and was there before the call -/
theorem l_out (L : sk_LC X O A a cL) {H H1 : Heap} (ha : va_at O.1 vwCl (a, sk_lc cL v0) H) (hk : ∀ q : Nat, q < H.size → ¬ sk_A O H.size q → H1[q]? = H[q]?) : va_at O.1 vwCl (a, sk_lc cL v0) H1 := by
  have h : H[a]? = some (vp_cell cL (1, .inr (.inl (fun _ => v0)))) := ha
  have hlt : a < H.size := (Array.getElem?_eq_some_iff.mp h).1
  show H1[a]? = some (vp_cell cL (1, .inr (.inl (fun _ => v0))))
  rw [hk a hlt (fun z => by
    rcases z with ⟨k, h1, h2⟩ | z
    · exact L.1 k h1 h2.symm
    · omega)]
  exact h
theorem l_vi (C : sk_C X cc nL own rm O A) (L : sk_LC X O A a cL) {y : MethodName} {ccY : ByteArray} {maxL idx n k ci N : Nat} {ret : FieldType} {rmY : Room} {r : Nat → Option Nat} {as st0 : List Value} {post : Int32 → sk_M → Prop} (hy : sk_yv y ccY maxL (some ret) n) (hv : Cond.instanceMethod y ∈ sk_tb ∧ Cond.selects y.cls y y ∈ sk_tb) (hl : Cond.methodLink own idx y ∈ sk_tb) (hM : sk_Mi l y (sk_w y ccY maxL (some ret)) rmY O (.ref (sk_ad O k) :: as) M post) (ho : sk_is O k (ci + 4, N, r)) (hcl : (vwCl[ci]?).map (fun q => q.1) = some y.cls) (hn : as.length = n) (hst : st0 = as.reverse ++ .ref (sk_ad O k) :: st) (hcat : (st.map fun v => v.category).sum ≤ 8) (hR : (rmY.frames + 1 ≤ rm.frames ∧ 8 + (maxL + 11) + rmY.locals ≤ rm.locals) ∧ kc ≤ rm.cells ∧ ks ≤ rm.slots) (d : decode cc pc = .ok (.invokevirtual idx, 3)) (K : ∀ (x : Int32) (M' : sk_M), post x M' → sk_L l X O A Q a cL v0 nL kc ks M' (pc + 3) lv (.int x :: st)) : sk_L l X O A Q a cL v0 nL kc ks M pc lv st0 := by
  intro H locs ls hP ha hS hl0
  have hF := sk_Ax C.2.2.2.2.1 C.2.2.2.2.2.1 hS.1
  refine va_calli (va_runV (C := y.cls) (As := as) (rest := st) C.1 (hM.2.2 H.size) ⟨sk_cb C hy hl ⟨hM.1, hM.2.1⟩ hR.1, C.1.2.2.2.2 _ hv.1, C.1.2.2.2.2 _ hv.2⟩ ⟨sk_blind, sk_rcv C hP ho hcl, fun U hU hW => sk_pre C hP hS U hU hW⟩ rfl hn hl0.1 hst (lv_room hcat) d ⟨by rw [C.2.1]; exact hR.2.1, by rw [C.2.1]; exact hR.2.2⟩) hS (fun q _ h => hF q h) hF (fun x u t H1 locs1 ht hvm hw hB hz1 hk1 hS1 => ?_)
  exact K x u hw H1 locs1 ls (by rw [← ht]; exact hB.1) (l_out L ha hk1) hS1 hl0
theorem l_xi (C : sk_C X cc nL own rm O A) (L : sk_LC X O A a cL) (hSr : sk_Sr (sk_s X)) {y : MethodName} {ccY : ByteArray} {maxL idx n k ci N : Nat} {ret : FieldType} {rmY : Room} {r : Nat → Option Nat} {as st0 : List Value} {post : Int32 → sk_M → Prop} {xpost : String → sk_M → Prop} (hy : sk_yv y ccY maxL (some ret) n) (hv : Cond.instanceMethod y ∈ sk_tb ∧ Cond.selects y.cls y y ∈ sk_tb) (hl : Cond.methodLink own idx y ∈ sk_tb) (hM : sk_Xi l y (sk_w y ccY maxL (some ret)) rmY O (.ref (sk_ad O k) :: as) M post xpost) (ho : sk_is O k (ci + 4, N, r)) (hcl : (vwCl[ci]?).map (fun q => q.1) = some y.cls) (hn : as.length = n) (hst : st0 = as.reverse ++ .ref (sk_ad O k) :: st) (hcat : (st.map fun v => v.category).sum ≤ 8) (hR : (rmY.frames + 1 ≤ rm.frames ∧ 8 + (maxL + 11) + rmY.locals ≤ rm.locals) ∧ kc + 1 ≤ rm.cells ∧ ks + 6 ≤ rm.slots) (d : decode cc pc = .ok (.invokevirtual idx, 3)) (KX : ∀ (E : String) (M' : sk_M), xpost E M' → sk_LV l X O A Q a cL v0 nL (kc + 1) (ks + 6) M' pc lv st E) (K : ∀ (x : Int32) (M' : sk_M), post x M' → sk_L l X O A Q a cL v0 nL (kc + 1) (ks + 6) M' (pc + 3) lv (.int x :: st)) : sk_L l X O A Q a cL v0 nL kc ks M pc lv st0 := by
  intro H locs ls hP ha hS hl0
  have hF := sk_Ax C.2.2.2.2.1 C.2.2.2.2.2.1 hS.1
  refine vx_calli (vx_runV (C := y.cls) (As := as) (rest := st) C.1 (hM.2.2 H.size) ⟨sk_cb C hy hl ⟨hM.1, hM.2.1⟩ hR.1, C.1.2.2.2.2 _ hv.1, C.1.2.2.2.2 _ hv.2⟩ ⟨sk_blindX, sk_rcv C hP ho hcl, fun U hU hW => ⟨(sk_pre (as := .ref (sk_ad O k) :: as) C hP hS U hU hW).1, (sk_pre (as := .ref (sk_ad O k) :: as) C hP hS U hU hW).2.1, (sk_pre (as := .ref (sk_ad O k) :: as) C hP hS U hU hW).2.2.1, (sk_pre (as := .ref (sk_ad O k) :: as) C hP hS U hU hW).2.2.2, hSr.warm hW⟩⟩ rfl hn hl0.1 hst (lv_room hcat) d ⟨by rw [C.2.1]; exact hR.2.1, by rw [C.2.1]; exact hR.2.2⟩) hS (fun q _ h => hF q h) hF (fun q _ h => hF q h) (fun E ce q9 u t H1 locs1 ht hvm hpx hBX hz hk hS1 hq hvn hcls => ?_) (fun x u t H1 locs1 ht hvm hw hB hz1 hk1 hS1 => ?_)
  · exact KX E u hBX.1 H1 locs1 ls ce q9 (by rw [← ht]; exact hBX.2.1) (l_out L ha hk) hS1 hl0 hq hvn hcls
  · exact K x u hw H1 locs1 ls (by rw [← ht]; exact hB.1) (l_out L ha hk1) hS1 hl0
/-- the exceptions that the class throws are none of each other's -/
def sk_en : List String := ["java/lang/IndexOutOfBoundsException", "java/lang/IllegalArgumentException", "java/lang/IllegalStateException"]
def sk_cst : List Cond := sk_en.map (fun x => Cond.castable x x)
theorem sk_cst_ok : ∀ w ∈ sk_cst, (w.keepsFace && w.onTables) = true := by decide +kernel
theorem sk_cst_in : ∀ w ∈ sk_cst, w ∈ lw_tbl := by decide +kernel
def sk_Nx (U : State) : Prop := (∀ x ∈ sk_en, ∀ y ∈ sk_en, x ≠ y → va_Nc x y U) ∧ ∀ w ∈ sk_cst, w.before #[] U = true
theorem sk_Nx.warm {s U : State} (h : sk_Nx s) (hW : s.WarmedH U.vm) : sk_Nx U := by
  refine ⟨fun x hx y hy ne => va_Nc.moved hW.alike (h.1 x hx y hy ne), fun w hw => ?_⟩
  have hk := sk_cst_ok w hw
  rw [Bool.and_eq_true] at hk
  have h1 : w.before #[] (s.setVm U.vm) = true := Cond.before_shiftedFace (State.Shifted.of_warmed hW) _ hk.1 (h.2 w hw)
  exact va_tabs (u := s.setVm U.vm) (U := U) hk.2 rfl h1
theorem sk_Nx.same {u U : State} (hv : U.vm = u.vm) (h : sk_Nx u) : sk_Nx U := by
  refine ⟨fun x hx y hy ne => va_Nc.moved (by rw [hv]; exact Vm.Alike.refl u.vm) (h.1 x hx y hy ne), fun w hw => ?_⟩
  have hk := sk_cst_ok w hw
  rw [Bool.and_eq_true] at hk
  exact va_tabs (u := u) (U := U) hk.2 hv.symm (h.2 w hw)
theorem l_catch (C : sk_C X cc nL own rm O A) (hNx : sk_Nx (sk_s X)) {hh : List (Nat × Nat × Nat × Nat)} (htab : X.2.2.2.2.2.2.2.2.exceptionTable.toList = tableOf hh) {E : String} (hE : E ∈ sk_en) (i : Nat) {p0 p1 hp ct : Nat} (hi : hh[i]? = some (p0, p1, hp, ct)) (hpass : ∀ z ∈ hh.take i, z.2.2.2 ≠ 0 ∧ ∃ nm, Cond.classLink own z.2.2.2 nm ∈ sk_tb ∧ nm ∈ sk_en ∧ E ≠ nm) (hcov : p0 ≤ pc ∧ pc < p1) (hct : ct ≠ 0) (hlink : Cond.classLink own ct E ∈ sk_tb) (K : ∀ q : Nat, sk_L l X O A Q a cL v0 nL kc ks M hp lv [.ref q]) : sk_LV l X O A Q a cL v0 nL kc ks M pc lv st E := by
  intro H locs ls ce q hP ha hS hl hq hv hc
  have hlt : i < hh.length := (List.getElem?_eq_some_iff.mp hi).1
  have hsp : hh = hh.take i ++ (p0, p1, hp, ct) :: hh.drop (i + 1) := by
    have e : hh[i] = (p0, p1, hp, ct) := (List.getElem?_eq_some_iff.mp hi).2
    rw [← e, ← List.drop_eq_getElem_cons hlt, List.take_append_drop]
  have htb : tableOf hh = tableOf (hh.take i) ++ (⟨p0, p1, hp, ct⟩ : ExceptionTableEntry) :: tableOf (hh.drop (i + 1)) := by
    have h := congrArg tableOf hsp
    refine h.trans ?_
    unfold tableOf
    rw [List.map_append, List.map_cons]
  refine vx_catch (name := E) C.1.2.2.2.1 (tableOf (hh.take i)) ⟨p0, p1, hp, ct⟩ (tableOf (hh.drop (i + 1))) (htab.trans htb) (fun z hz => ?_) ?_ hct (C.1.2.2.2.2 _ hlink) (va_tabs (by have hk := sk_cst_ok _ (List.mem_map.mpr ⟨E, hE, rfl⟩); rw [Bool.and_eq_true] at hk; exact hk.2) rfl (hNx.2 _ (List.mem_map.mpr ⟨E, hE, rfl⟩))) hq hv hc (K q H locs ls hP ha hS hl)
  · obtain ⟨y, hy, rfl⟩ := List.mem_map.mp hz
    obtain ⟨h0, nm, h1, h2, h3⟩ := hpass y hy
    exact Or.inr ⟨h0, nm, C.1.2.2.2.2 _ h1, hNx.1 E hE nm h2 h3⟩
  · simp [covers, hcov.1, hcov.2]
end SKL
