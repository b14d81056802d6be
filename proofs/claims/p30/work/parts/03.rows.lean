/-! THE ROWS of sk_W: one an instruction -/
def sk_cp (M : sk_M) (a b n : Nat) : sk_M := sk_mr M b (fun j => if j < n then M a j else M b j)
def sk_mo (M : sk_M) (f b k a : Nat) : sk_M := sk_ms M k a (M f b)
theorem sk_ne {M : sk_M} {k j a b : Nat} {v : Int32} (h : a ≠ k ∨ b ≠ j) : sk_ms M k j v a b = M a b := by
  unfold sk_ms
  exact if_neg (fun q => h.elim (fun z => z q.1) (fun z => z q.2))
theorem sk_sm {M : sk_M} {k j : Nat} {v : Int32} : sk_ms M k j v k j = v := by simp [sk_ms]
theorem sk_nr {M : sk_M} {k a b : Nat} {f : Nat → Int32} (h : a ≠ k) : sk_mr M k f a b = M a b := by simp [sk_mr, h]
theorem sk_nc {M : sk_M} {k a b f n : Nat} (h : a ≠ k) : sk_cp M f k n a b = M a b := by simp [sk_cp, sk_mr, h]
theorem sk_ci {M : sk_M} {k b f n : Nat} (h : b < n) : sk_cp M f k n k b = M f b := by simp [sk_cp, sk_mr, h]
theorem sk_nm {M : sk_M} {f b k a x y : Nat} (h : x ≠ k ∨ y ≠ a) : sk_mo M f b k a x y = M x y := sk_ne h
theorem sk_sa {M : sk_M} {f b k a : Nat} : sk_mo M f b k a k a = M f b := sk_sm
theorem sk_nf {M : sk_M} {k j a : Nat} {v : Int32} (h : a ≠ k) : sk_ms M k j v a = M a := by funext b; exact sk_ne (Or.inl h)
theorem sk_nmf {M : sk_M} {f b k a x : Nat} (h : x ≠ k) : sk_mo M f b k a x = M x := by funext y; exact sk_ne (Or.inl h)
theorem sk_ncf {M : sk_M} {k a f n : Nat} (h : a ≠ k) : sk_cp M f k n a = M a := by funext y; exact sk_nc h
theorem sk_mm {M : sk_M} {k j : Nat} {v w : Int32} : sk_ms (sk_ms M k j v) k j w = sk_ms M k j w := by
  funext a b
  unfold sk_ms
  by_cases h : a = k ∧ b = j
  · rw [if_pos h, if_pos h]
  · rw [if_neg h, if_neg h, if_neg h]
theorem sk_b1 {p : Prop} [Decidable p] : (if p then (1 : Int32) else 0) = 0 ↔ ¬ p := by by_cases h : p <;> simp [h]
section SKR
variable {l : Launch} {X : sk_X} {cc : ByteArray} {nL : Nat} {own : String} {rm : Room} {O : sk_O} {A : Nat → Prop} {Q : State → Prop} {kc ks : Nat} {M : sk_M} {pc : Nat} {lv : List (Nat × Value)} {st : List Value}
theorem k_iload (C : sk_C X cc nL own rm O A) (q : Nat) {i : Nat} {x : Int32} (d : decode cc pc = .ok (.iload i, 2)) (h : lv[q]? = some (i, .int x)) (K : sk_W l X O A Q nL kc ks M (pc + 2) lv (.int x :: st)) : sk_W l X O A Q nL kc ks M pc lv st :=
  fun H locs ls hP hS hl => lv_iload C.1.1 C.1.2.1 d (lv_at hl q h) (K H locs ls hP hS hl)
theorem k_iloadn (C : sk_C X cc nL own rm O A) (q : Nat) {k : Fin 4} {x : Int32} (d : decode cc pc = .ok (.iload_n k, 1)) (h : lv[q]? = some ((k : Nat), .int x)) (K : sk_W l X O A Q nL kc ks M (pc + 1) lv (.int x :: st)) : sk_W l X O A Q nL kc ks M pc lv st :=
  fun H locs ls hP hS hl => lv_iload_n C.1.1 C.1.2.1 d rfl (lv_at hl q h) (K H locs ls hP hS hl)
theorem k_aload (C : sk_C X cc nL own rm O A) (q : Nat) {i : Nat} {x : Nat} (d : decode cc pc = .ok (.aload i, 2)) (h : lv[q]? = some (i, .ref x)) (K : sk_W l X O A Q nL kc ks M (pc + 2) lv (.ref x :: st)) : sk_W l X O A Q nL kc ks M pc lv st :=
  fun H locs ls hP hS hl => lv_aload C.1.1 C.1.2.1 d (lv_at hl q h) (K H locs ls hP hS hl)
theorem k_aloadn (C : sk_C X cc nL own rm O A) (q : Nat) {k : Fin 4} {x : Nat} (d : decode cc pc = .ok (.aload_n k, 1)) (h : lv[q]? = some ((k : Nat), .ref x)) (K : sk_W l X O A Q nL kc ks M (pc + 1) lv (.ref x :: st)) : sk_W l X O A Q nL kc ks M pc lv st :=
  fun H locs ls hP hS hl => lv_aload_n C.1.1 C.1.2.1 d rfl (lv_at hl q h) (K H locs ls hP hS hl)
theorem k_lload (C : sk_C X cc nL own rm O A) (q : Nat) {i : Nat} {x : Int64} (d : decode cc pc = .ok (.lload i, 2)) (h : lv[q]? = some (i, .long x)) (K : sk_W l X O A Q nL kc ks M (pc + 2) lv (.long x :: st)) : sk_W l X O A Q nL kc ks M pc lv st :=
  fun H locs ls hP hS hl => lv_lload C.1.1 C.1.2.1 d (lv_at hl q h) (K H locs ls hP hS hl)
theorem k_lloadn (C : sk_C X cc nL own rm O A) (q : Nat) {k : Fin 4} {x : Int64} (d : decode cc pc = .ok (.lload_n k, 1)) (h : lv[q]? = some ((k : Nat), .long x)) (K : sk_W l X O A Q nL kc ks M (pc + 1) lv (.long x :: st)) : sk_W l X O A Q nL kc ks M pc lv st :=
  fun H locs ls hP hS hl => lv_lload_n C.1.1 C.1.2.1 d rfl (lv_at hl q h) (K H locs ls hP hS hl)
def sk_li (i : Nat) (v : Value) (lv : List (Nat × Value)) : List (Nat × Value) := (i, v) :: lv.filter (fun q => !(q.1 == i) && !(q.1 + 1 == i && q.2.category == 2))
def sk_ll (i : Nat) (v : Value) (lv : List (Nat × Value)) : List (Nat × Value) := (i, v) :: lv.filter (fun q => !(q.1 == i) && (!(q.1 == i + 1) && !(q.1 + 1 == i && q.2.category == 2)))
theorem k_istore (C : sk_C X cc nL own rm O A) (is : List Nat) (lv' : List (Nat × Value)) {i : Nat} {x : Int32} (d : decode cc pc = .ok (.istore i, 2)) (hn : i < nL) (h : lv_pick (sk_li i (.int x) lv) is = lv') (K : sk_W l X O A Q nL kc ks M (pc + 2) lv' st) : sk_W l X O A Q nL kc ks M pc lv (.int x :: st) :=
  fun H locs ls hP hS hl => lv_istore C.1.1 C.1.2.1 d hl hn rfl (fun ls' hl' => K H locs ls' hP hS (lv_sub hl' is h))
theorem k_istoren (C : sk_C X cc nL own rm O A) (is : List Nat) (lv' : List (Nat × Value)) {k : Fin 4} {x : Int32} (d : decode cc pc = .ok (.istore_n k, 1)) (hn : (k : Nat) < nL) (h : lv_pick (sk_li (k : Nat) (.int x) lv) is = lv') (K : sk_W l X O A Q nL kc ks M (pc + 1) lv' st) : sk_W l X O A Q nL kc ks M pc lv (.int x :: st) :=
  fun H locs ls hP hS hl => lv_istore_n C.1.1 C.1.2.1 d rfl hl hn rfl (fun ls' hl' => K H locs ls' hP hS (lv_sub hl' is h))
theorem k_astore (C : sk_C X cc nL own rm O A) (is : List Nat) (lv' : List (Nat × Value)) {i : Nat} {x : Nat} (d : decode cc pc = .ok (.astore i, 2)) (hn : i < nL) (h : lv_pick (sk_li i (.ref x) lv) is = lv') (K : sk_W l X O A Q nL kc ks M (pc + 2) lv' st) : sk_W l X O A Q nL kc ks M pc lv (.ref x :: st) :=
  fun H locs ls hP hS hl => lv_astore C.1.1 C.1.2.1 d hl hn rfl (fun ls' hl' => K H locs ls' hP hS (lv_sub hl' is h))
theorem k_astoren (C : sk_C X cc nL own rm O A) (is : List Nat) (lv' : List (Nat × Value)) {k : Fin 4} {x : Nat} (d : decode cc pc = .ok (.astore_n k, 1)) (hn : (k : Nat) < nL) (h : lv_pick (sk_li (k : Nat) (.ref x) lv) is = lv') (K : sk_W l X O A Q nL kc ks M (pc + 1) lv' st) : sk_W l X O A Q nL kc ks M pc lv (.ref x :: st) :=
  fun H locs ls hP hS hl => lv_astore_n C.1.1 C.1.2.1 d rfl hl hn rfl (fun ls' hl' => K H locs ls' hP hS (lv_sub hl' is h))
theorem k_lstore (C : sk_C X cc nL own rm O A) (is : List Nat) (lv' : List (Nat × Value)) {i : Nat} {x : Int64} (d : decode cc pc = .ok (.lstore i, 2)) (hn : i + 1 < nL) (h : lv_pick (sk_ll i (.long x) lv) is = lv') (K : sk_W l X O A Q nL kc ks M (pc + 2) lv' st) : sk_W l X O A Q nL kc ks M pc lv (.long x :: st) :=
  fun H locs ls hP hS hl => lv_lstore C.1.1 C.1.2.1 d hl hn rfl (fun ls' hl' => K H locs ls' hP hS (lv_sub hl' is h))
theorem k_lstoren (C : sk_C X cc nL own rm O A) (is : List Nat) (lv' : List (Nat × Value)) {k : Fin 4} {x : Int64} (d : decode cc pc = .ok (.lstore_n k, 1)) (hn : (k : Nat) + 1 < nL) (h : lv_pick (sk_ll (k : Nat) (.long x) lv) is = lv') (K : sk_W l X O A Q nL kc ks M (pc + 1) lv' st) : sk_W l X O A Q nL kc ks M pc lv (.long x :: st) :=
  fun H locs ls hP hS hl => lv_lstore_n C.1.1 C.1.2.1 d rfl hl hn rfl (fun ls' hl' => K H locs ls' hP hS (lv_sub hl' is h))
theorem k_iinc (C : sk_C X cc nL own rm O A) (q : Nat) (v : Int32) (is : List Nat) (lv' : List (Nat × Value)) {i : Nat} {n : Int} {x : Int32} (d : decode cc pc = .ok (.iinc i n, 3)) (h0 : lv[q]? = some (i, .int x)) (hv : x + Int32.ofInt n = v) (hn : i < nL) (h : lv_pick (sk_li i (.int v) lv) is = lv') (K : sk_W l X O A Q nL kc ks M (pc + 3) lv' st) : sk_W l X O A Q nL kc ks M pc lv st :=
  fun H locs ls hP hS hl => lv_iinc C.1.1 C.1.2.1 d hl h0 hv hn rfl (fun ls' hl' => K H locs ls' hP hS (lv_sub hl' is h))
theorem k_iconst (C : sk_C X cc nL own rm O A) (v : Int32) {n : Int} (d : decode cc pc = .ok (.iconst n, 1)) (hv : Int32.ofInt n = v) (K : sk_W l X O A Q nL kc ks M (pc + 1) lv (.int v :: st)) : sk_W l X O A Q nL kc ks M pc lv st :=
  fun H locs ls hP hS hl => lv_iconst C.1.1 C.1.2.1 d hv (K H locs ls hP hS hl)
theorem k_bipush (C : sk_C X cc nL own rm O A) (v : Int32) {n : Int} (d : decode cc pc = .ok (.bipush n, 2)) (hv : (Int8.ofInt n).toInt32 = v) (K : sk_W l X O A Q nL kc ks M (pc + 2) lv (.int v :: st)) : sk_W l X O A Q nL kc ks M pc lv st :=
  fun H locs ls hP hS hl => lv_bipush C.1.1 C.1.2.1 d hv (K H locs ls hP hS hl)
theorem k_sipush (C : sk_C X cc nL own rm O A) (v : Int32) {n : Int} (d : decode cc pc = .ok (.sipush n, 3)) (hv : (Int16.ofInt n).toInt32 = v) (K : sk_W l X O A Q nL kc ks M (pc + 3) lv (.int v :: st)) : sk_W l X O A Q nL kc ks M pc lv st :=
  fun H locs ls hP hS hl => lv_sipush C.1.1 C.1.2.1 d hv (K H locs ls hP hS hl)
theorem k_lconst (C : sk_C X cc nL own rm O A) (v : Int64) {n : Fin 2} (d : decode cc pc = .ok (.lconst n, 1)) (hv : Int64.ofNat (n : Nat) = v) (K : sk_W l X O A Q nL kc ks M (pc + 1) lv (.long v :: st)) : sk_W l X O A Q nL kc ks M pc lv st :=
  fun H locs ls hP hS hl => lv_lconst C.1.1 C.1.2.1 d hv (K H locs ls hP hS hl)
theorem k_ldc (C : sk_C X cc nL own rm O A) {v : Int32} {idx : Nat} (hc : Cond.constant own idx v ∈ sk_tb) (d : decode cc pc = .ok (.ldc idx, 2)) (K : sk_W l X O A Q nL kc ks M (pc + 2) lv (.int v :: st)) : sk_W l X O A Q nL kc ks M pc lv st :=
  fun H locs ls hP hS hl => lv_ldc C.1.1 C.1.2.1 C.1.2.2.2.1 (C.1.2.2.2.2 _ hc) d (K H locs ls hP hS hl)
theorem k_ldcl (C : sk_C X cc nL own rm O A) {v : Int64} {idx : Nat} (hc : Cond.constantLong own idx v ∈ sk_tb) (d : decode cc pc = .ok (.ldc2_w idx, 3)) (K : sk_W l X O A Q nL kc ks M (pc + 3) lv (.long v :: st)) : sk_W l X O A Q nL kc ks M pc lv st :=
  fun H locs ls hP hS hl => lv_ldc2 C.1.1 C.1.2.1 C.1.2.2.2.1 (C.1.2.2.2.2 _ hc) d (K H locs ls hP hS hl)
theorem k_iadd (C : sk_C X cc nL own rm O A) {x y : Int32} (d : decode cc pc = .ok (.iadd, 1)) (K : sk_W l X O A Q nL kc ks M (pc + 1) lv (.int (x + y) :: st)) : sk_W l X O A Q nL kc ks M pc lv (.int y :: .int x :: st) :=
  fun H locs ls hP hS hl => lv_iadd C.1.1 C.1.2.1 d (K H locs ls hP hS hl)
theorem k_isub (C : sk_C X cc nL own rm O A) {x y : Int32} (d : decode cc pc = .ok (.isub, 1)) (K : sk_W l X O A Q nL kc ks M (pc + 1) lv (.int (x - y) :: st)) : sk_W l X O A Q nL kc ks M pc lv (.int y :: .int x :: st) :=
  fun H locs ls hP hS hl => lv_isub C.1.1 C.1.2.1 d (K H locs ls hP hS hl)
theorem k_imul (C : sk_C X cc nL own rm O A) {x y : Int32} (d : decode cc pc = .ok (.imul, 1)) (K : sk_W l X O A Q nL kc ks M (pc + 1) lv (.int (x * y) :: st)) : sk_W l X O A Q nL kc ks M pc lv (.int y :: .int x :: st) :=
  fun H locs ls hP hS hl => lv_imul C.1.1 C.1.2.1 d (K H locs ls hP hS hl)
theorem k_idiv (C : sk_C X cc nL own rm O A) {x y : Int32} (d : decode cc pc = .ok (.idiv, 1)) (hne : ¬ y = 0) (K : sk_W l X O A Q nL kc ks M (pc + 1) lv (.int (x / y) :: st)) : sk_W l X O A Q nL kc ks M pc lv (.int y :: .int x :: st) :=
  fun H locs ls hP hS hl => lv_idiv C.1.1 C.1.2.1 d hne (K H locs ls hP hS hl)
theorem k_irem (C : sk_C X cc nL own rm O A) {x y : Int32} (d : decode cc pc = .ok (.irem, 1)) (hne : ¬ y = 0) (K : sk_W l X O A Q nL kc ks M (pc + 1) lv (.int (x - x / y * y) :: st)) : sk_W l X O A Q nL kc ks M pc lv (.int y :: .int x :: st) :=
  fun H locs ls hP hS hl => lv_irem C.1.1 C.1.2.1 d hne (K H locs ls hP hS hl)
theorem k_iand (C : sk_C X cc nL own rm O A) {x y : Int32} (d : decode cc pc = .ok (.iand, 1)) (K : sk_W l X O A Q nL kc ks M (pc + 1) lv (.int (x &&& y) :: st)) : sk_W l X O A Q nL kc ks M pc lv (.int y :: .int x :: st) :=
  fun H locs ls hP hS hl => lv_iand C.1.1 C.1.2.1 d (K H locs ls hP hS hl)
theorem k_ineg (C : sk_C X cc nL own rm O A) {x : Int32} (d : decode cc pc = .ok (.ineg, 1)) (K : sk_W l X O A Q nL kc ks M (pc + 1) lv (.int (-x) :: st)) : sk_W l X O A Q nL kc ks M pc lv (.int x :: st) :=
  fun H locs ls hP hS hl => lv_ineg C.1.1 C.1.2.1 d (K H locs ls hP hS hl)
theorem k_ladd (C : sk_C X cc nL own rm O A) {x y : Int64} (d : decode cc pc = .ok (.ladd, 1)) (K : sk_W l X O A Q nL kc ks M (pc + 1) lv (.long (x + y) :: st)) : sk_W l X O A Q nL kc ks M pc lv (.long y :: .long x :: st) :=
  fun H locs ls hP hS hl => lv_ladd C.1.1 C.1.2.1 d (K H locs ls hP hS hl)
theorem k_lsub (C : sk_C X cc nL own rm O A) {x y : Int64} (d : decode cc pc = .ok (.lsub, 1)) (K : sk_W l X O A Q nL kc ks M (pc + 1) lv (.long (x - y) :: st)) : sk_W l X O A Q nL kc ks M pc lv (.long y :: .long x :: st) :=
  fun H locs ls hP hS hl => lv_lsub C.1.1 C.1.2.1 d (K H locs ls hP hS hl)
theorem k_lmul (C : sk_C X cc nL own rm O A) {x y : Int64} (d : decode cc pc = .ok (.lmul, 1)) (K : sk_W l X O A Q nL kc ks M (pc + 1) lv (.long (x * y) :: st)) : sk_W l X O A Q nL kc ks M pc lv (.long y :: .long x :: st) :=
  fun H locs ls hP hS hl => lv_lmul C.1.1 C.1.2.1 d (K H locs ls hP hS hl)
theorem k_ldiv (C : sk_C X cc nL own rm O A) {x y : Int64} (d : decode cc pc = .ok (.ldiv, 1)) (hne : ¬ y = 0) (K : sk_W l X O A Q nL kc ks M (pc + 1) lv (.long (x / y) :: st)) : sk_W l X O A Q nL kc ks M pc lv (.long y :: .long x :: st) :=
  fun H locs ls hP hS hl => lv_ldiv C.1.1 C.1.2.1 d hne (K H locs ls hP hS hl)
theorem k_lrem (C : sk_C X cc nL own rm O A) {x y : Int64} (d : decode cc pc = .ok (.lrem, 1)) (hne : ¬ y = 0) (K : sk_W l X O A Q nL kc ks M (pc + 1) lv (.long (x - x / y * y) :: st)) : sk_W l X O A Q nL kc ks M pc lv (.long y :: .long x :: st) :=
  fun H locs ls hP hS hl => lv_lrem C.1.1 C.1.2.1 d hne (K H locs ls hP hS hl)
theorem k_i2l (C : sk_C X cc nL own rm O A) {x : Int32} (d : decode cc pc = .ok (.i2l, 1)) (K : sk_W l X O A Q nL kc ks M (pc + 1) lv (.long x.toInt64 :: st)) : sk_W l X O A Q nL kc ks M pc lv (.int x :: st) :=
  fun H locs ls hP hS hl => lv_i2l C.1.1 C.1.2.1 d rfl (K H locs ls hP hS hl)
theorem k_l2i (C : sk_C X cc nL own rm O A) {x : Int64} (d : decode cc pc = .ok (.l2i, 1)) (K : sk_W l X O A Q nL kc ks M (pc + 1) lv (.int x.toInt32 :: st)) : sk_W l X O A Q nL kc ks M pc lv (.long x :: st) :=
  fun H locs ls hP hS hl => lv_l2i C.1.1 C.1.2.1 d rfl (K H locs ls hP hS hl)
theorem k_lushr (C : sk_C X cc nL own rm O A) {x : Int64} {y : Int32} (d : decode cc pc = .ok (.lushr, 1)) (K : sk_W l X O A Q nL kc ks M (pc + 1) lv (.long ((x.toUInt64 >>> (y.toInt64.toUInt64 &&& Int64.toUInt64 63)).toInt64) :: st)) : sk_W l X O A Q nL kc ks M pc lv (.int y :: .long x :: st) :=
  fun H locs ls hP hS hl => lv_lushr C.1.1 C.1.2.1 d rfl (K H locs ls hP hS hl)
theorem k_lcmp (C : sk_C X cc nL own rm O A) {x y : Int64} (d : decode cc pc = .ok (.lcmp, 1)) (K : sk_W l X O A Q nL kc ks M (pc + 1) lv (.int (lg_cmp x y) :: st)) : sk_W l X O A Q nL kc ks M pc lv (.long y :: .long x :: st) :=
  fun H locs ls hP hS hl => W.lcmp C.1.1 C.1.2.1 d (K H locs ls hP hS hl)
theorem k_dup2 (C : sk_C X cc nL own rm O A) {u v : Value} (d : decode cc pc = .ok (.dup2, 1)) (h : v.category = 1) (h2 : u.category = 1) (K : sk_W l X O A Q nL kc ks M (pc + 1) lv (v :: u :: v :: u :: st)) : sk_W l X O A Q nL kc ks M pc lv (v :: u :: st) :=
  fun H locs ls hP hS hl => lv_dup2_11 C.1.1 C.1.2.1 d h h2 (K H locs ls hP hS hl)
theorem k_ldcw (C : sk_C X cc nL own rm O A) {v : Int32} {idx : Nat} (hc : Cond.constant own idx v ∈ sk_tb) (d : decode cc pc = .ok (.ldc_w idx, 3)) (K : sk_W l X O A Q nL kc ks M (pc + 3) lv (.int v :: st)) : sk_W l X O A Q nL kc ks M pc lv st :=
  fun H locs ls hP hS hl => lv_ldcw C.1.1 C.1.2.1 C.1.2.2.2.1 (C.1.2.2.2.2 _ hc) d (K H locs ls hP hS hl)
theorem k_dup (C : sk_C X cc nL own rm O A) {v : Value} (d : decode cc pc = .ok (.dup, 1)) (h : v.category = 1) (K : sk_W l X O A Q nL kc ks M (pc + 1) lv (v :: v :: st)) : sk_W l X O A Q nL kc ks M pc lv (v :: st) :=
  fun H locs ls hP hS hl => lv_dup C.1.1 C.1.2.1 d h (K H locs ls hP hS hl)
theorem k_pop (C : sk_C X cc nL own rm O A) {v : Value} (d : decode cc pc = .ok (.pop, 1)) (h : v.category = 1) (K : sk_W l X O A Q nL kc ks M (pc + 1) lv st) : sk_W l X O A Q nL kc ks M pc lv (v :: st) :=
  fun H locs ls hP hS hl => lv_pop C.1.1 C.1.2.1 d h (K H locs ls hP hS hl)
theorem k_goto (C : sk_C X cc nL own rm O A) (tgt : Nat) {off : Int} (d : decode cc pc = .ok (.goto off, 3)) (ht : (pc : Int) + off = (tgt : Int)) (K : sk_W l X O A Q nL kc ks M tgt lv st) : sk_W l X O A Q nL kc ks M pc lv st :=
  fun H locs ls hP hS hl => lv_goto C.1.1 C.1.2.1 d ht (K H locs ls hP hS hl)
theorem k_ceq (C : sk_C X cc nL own rm O A) (tgt : Nat) {off : Int} {x y : Int32} (d : decode cc pc = .ok (.if_icmp .eq off, 3)) (ht : (pc : Int) + off = (tgt : Int)) (K1 : x = y → sk_W l X O A Q nL kc ks M tgt lv st) (K2 : ¬ x = y → sk_W l X O A Q nL kc ks M (pc + 3) lv st) : sk_W l X O A Q nL kc ks M pc lv (.int y :: .int x :: st) :=
  fun H locs ls hP hS hl => lv_icmp_eq C.1.1 C.1.2.1 d ht (fun h => K1 h H locs ls hP hS hl) (fun h => K2 h H locs ls hP hS hl)
theorem k_cne (C : sk_C X cc nL own rm O A) (tgt : Nat) {off : Int} {x y : Int32} (d : decode cc pc = .ok (.if_icmp .ne off, 3)) (ht : (pc : Int) + off = (tgt : Int)) (K1 : ¬ x = y → sk_W l X O A Q nL kc ks M tgt lv st) (K2 : x = y → sk_W l X O A Q nL kc ks M (pc + 3) lv st) : sk_W l X O A Q nL kc ks M pc lv (.int y :: .int x :: st) :=
  fun H locs ls hP hS hl => lv_icmp_ne C.1.1 C.1.2.1 d ht (fun h => K1 h H locs ls hP hS hl) (fun h => K2 h H locs ls hP hS hl)
theorem k_cge (C : sk_C X cc nL own rm O A) (tgt : Nat) {off : Int} {x y : Int32} (d : decode cc pc = .ok (.if_icmp .ge off, 3)) (ht : (pc : Int) + off = (tgt : Int)) (K1 : y ≤ x → sk_W l X O A Q nL kc ks M tgt lv st) (K2 : ¬ y ≤ x → sk_W l X O A Q nL kc ks M (pc + 3) lv st) : sk_W l X O A Q nL kc ks M pc lv (.int y :: .int x :: st) :=
  fun H locs ls hP hS hl => lv_icmp_ge C.1.1 C.1.2.1 d ht (fun h => K1 h H locs ls hP hS hl) (fun h => K2 h H locs ls hP hS hl)
theorem k_cgt (C : sk_C X cc nL own rm O A) (tgt : Nat) {off : Int} {x y : Int32} (d : decode cc pc = .ok (.if_icmp .gt off, 3)) (ht : (pc : Int) + off = (tgt : Int)) (K1 : y < x → sk_W l X O A Q nL kc ks M tgt lv st) (K2 : ¬ y < x → sk_W l X O A Q nL kc ks M (pc + 3) lv st) : sk_W l X O A Q nL kc ks M pc lv (.int y :: .int x :: st) :=
  fun H locs ls hP hS hl => lv_icmp_gt C.1.1 C.1.2.1 d ht (fun h => K1 h H locs ls hP hS hl) (fun h => K2 h H locs ls hP hS hl)
theorem k_cle (C : sk_C X cc nL own rm O A) (tgt : Nat) {off : Int} {x y : Int32} (d : decode cc pc = .ok (.if_icmp .le off, 3)) (ht : (pc : Int) + off = (tgt : Int)) (K1 : x ≤ y → sk_W l X O A Q nL kc ks M tgt lv st) (K2 : ¬ x ≤ y → sk_W l X O A Q nL kc ks M (pc + 3) lv st) : sk_W l X O A Q nL kc ks M pc lv (.int y :: .int x :: st) :=
  fun H locs ls hP hS hl => lv_icmp_le C.1.1 C.1.2.1 d ht (fun h => K1 h H locs ls hP hS hl) (fun h => K2 h H locs ls hP hS hl)
theorem k_clt (C : sk_C X cc nL own rm O A) (tgt : Nat) {off : Int} {x y : Int32} (d : decode cc pc = .ok (.if_icmp .lt off, 3)) (ht : (pc : Int) + off = (tgt : Int)) (K1 : x < y → sk_W l X O A Q nL kc ks M tgt lv st) (K2 : ¬ x < y → sk_W l X O A Q nL kc ks M (pc + 3) lv st) : sk_W l X O A Q nL kc ks M pc lv (.int y :: .int x :: st) :=
  fun H locs ls hP hS hl => lv_icmp_lt C.1.1 C.1.2.1 d ht (fun h => K1 h H locs ls hP hS hl) (fun h => K2 h H locs ls hP hS hl)
theorem k_zeq (C : sk_C X cc nL own rm O A) (tgt : Nat) {off : Int} {x : Int32} (d : decode cc pc = .ok (.ifCond .eq off, 3)) (ht : (pc : Int) + off = (tgt : Int)) (K1 : x = 0 → sk_W l X O A Q nL kc ks M tgt lv st) (K2 : ¬ x = 0 → sk_W l X O A Q nL kc ks M (pc + 3) lv st) : sk_W l X O A Q nL kc ks M pc lv (.int x :: st) :=
  fun H locs ls hP hS hl => lv_if_eq C.1.1 C.1.2.1 d ht (fun h => K1 h H locs ls hP hS hl) (fun h => K2 h H locs ls hP hS hl)
theorem k_zne (C : sk_C X cc nL own rm O A) (tgt : Nat) {off : Int} {x : Int32} (d : decode cc pc = .ok (.ifCond .ne off, 3)) (ht : (pc : Int) + off = (tgt : Int)) (K1 : ¬ x = 0 → sk_W l X O A Q nL kc ks M tgt lv st) (K2 : x = 0 → sk_W l X O A Q nL kc ks M (pc + 3) lv st) : sk_W l X O A Q nL kc ks M pc lv (.int x :: st) :=
  fun H locs ls hP hS hl => lv_if_ne C.1.1 C.1.2.1 d ht (fun h => K1 h H locs ls hP hS hl) (fun h => K2 h H locs ls hP hS hl)
theorem k_zlt (C : sk_C X cc nL own rm O A) (tgt : Nat) {off : Int} {x : Int32} (d : decode cc pc = .ok (.ifCond .lt off, 3)) (ht : (pc : Int) + off = (tgt : Int)) (K1 : x < 0 → sk_W l X O A Q nL kc ks M tgt lv st) (K2 : ¬ x < 0 → sk_W l X O A Q nL kc ks M (pc + 3) lv st) : sk_W l X O A Q nL kc ks M pc lv (.int x :: st) :=
  fun H locs ls hP hS hl => lv_if_lt C.1.1 C.1.2.1 d ht (fun h => K1 h H locs ls hP hS hl) (fun h => K2 h H locs ls hP hS hl)
theorem k_zge (C : sk_C X cc nL own rm O A) (tgt : Nat) {off : Int} {x : Int32} (d : decode cc pc = .ok (.ifCond .ge off, 3)) (ht : (pc : Int) + off = (tgt : Int)) (K1 : 0 ≤ x → sk_W l X O A Q nL kc ks M tgt lv st) (K2 : ¬ 0 ≤ x → sk_W l X O A Q nL kc ks M (pc + 3) lv st) : sk_W l X O A Q nL kc ks M pc lv (.int x :: st) :=
  fun H locs ls hP hS hl => lv_if_ge C.1.1 C.1.2.1 d ht (fun h => K1 h H locs ls hP hS hl) (fun h => K2 h H locs ls hP hS hl)
theorem k_zgt (C : sk_C X cc nL own rm O A) (tgt : Nat) {off : Int} {x : Int32} (d : decode cc pc = .ok (.ifCond .gt off, 3)) (ht : (pc : Int) + off = (tgt : Int)) (K1 : 0 < x → sk_W l X O A Q nL kc ks M tgt lv st) (K2 : ¬ 0 < x → sk_W l X O A Q nL kc ks M (pc + 3) lv st) : sk_W l X O A Q nL kc ks M pc lv (.int x :: st) :=
  fun H locs ls hP hS hl => lv_if_gt C.1.1 C.1.2.1 d ht (fun h => K1 h H locs ls hP hS hl) (fun h => K2 h H locs ls hP hS hl)
theorem k_zle (C : sk_C X cc nL own rm O A) (tgt : Nat) {off : Int} {x : Int32} (d : decode cc pc = .ok (.ifCond .le off, 3)) (ht : (pc : Int) + off = (tgt : Int)) (K1 : x ≤ 0 → sk_W l X O A Q nL kc ks M tgt lv st) (K2 : ¬ x ≤ 0 → sk_W l X O A Q nL kc ks M (pc + 3) lv st) : sk_W l X O A Q nL kc ks M pc lv (.int x :: st) :=
  fun H locs ls hP hS hl => lv_if_le C.1.1 C.1.2.1 d ht (fun h => K1 h H locs ls hP hS hl) (fun h => K2 h H locs ls hP hS hl)
theorem k_tin (C : sk_C X cc nL own rm O A) (tgt : Nat) {dflt lo hi : Int} {offs : Array Int} {len : Nat} {x : Int32} (off : Int) (d : decode cc pc = .ok (.tableswitch dflt lo hi offs, len)) (h : (¬ x.toInt < lo ∧ ¬ hi < x.toInt) ∧ offs[(x.toInt - lo).toNat]? = some off) (ht : (pc : Int) + off = (tgt : Int)) (K : sk_W l X O A Q nL kc ks M tgt lv st) : sk_W l X O A Q nL kc ks M pc lv (.int x :: st) :=
  fun H locs ls hP hS hl => lv_tableIn C.1.1 C.1.2.1 d h.1.1 h.1.2 h.2 ht (K H locs ls hP hS hl)
theorem k_tout (C : sk_C X cc nL own rm O A) (tgt : Nat) {dflt lo hi : Int} {offs : Array Int} {len : Nat} {x : Int32} (d : decode cc pc = .ok (.tableswitch dflt lo hi offs, len)) (h : x.toInt < lo ∨ hi < x.toInt) (ht : (pc : Int) + dflt = (tgt : Int)) (K : sk_W l X O A Q nL kc ks M tgt lv st) : sk_W l X O A Q nL kc ks M pc lv (.int x :: st) :=
  fun H locs ls hP hS hl => lv_tableOut C.1.1 C.1.2.1 d h ht (K H locs ls hP hS hl)
theorem k_look (C : sk_C X cc nL own rm O A) (tgt : Nat) {dflt : Int} {ps : Array (Int × Int)} {len : Nat} {x : Int32} (off : Int) (d : decode cc pc = .ok (.lookupswitch dflt ps, len)) (hp : (ps.toList.zip (ps.toList.drop 1)).all (fun (a, next) => a.1 < next.1) = true) (ho : Op.lookupswitch.offset ps.toList dflt x.toInt = off) (ht : (pc : Int) + off = (tgt : Int)) (K : sk_W l X O A Q nL kc ks M tgt lv st) : sk_W l X O A Q nL kc ks M pc lv (.int x :: st) :=
  fun H locs ls hP hS hl => lv_lookup C.1.1 C.1.2.1 d hp ho ht (K H locs ls hP hS hl)
/-- another name for the state, equal to it -/
theorem k_eq {M' : sk_M} {pc' : Nat} {lv' : List (Nat × Value)} {st' : List Value} (hM : M = M') (hp : pc = pc') (hl : lv = lv') (hs : st = st') (K : sk_W l X O A Q nL kc ks M' pc' lv' st') : sk_W l X O A Q nL kc ks M pc lv st := by
  subst hM; subst hp; subst hl; subst hs; exact K
theorem k_top (v : Int32) {x : Int32} (h : x = v) (K : sk_W l X O A Q nL kc ks M pc lv (.int v :: st)) : sk_W l X O A Q nL kc ks M pc lv (.int x :: st) := h ▸ K
/-- fewer locals -/
theorem k_sub (is : List Nat) {lv' : List (Nat × Value)} (h : lv_pick lv is = lv') (K : sk_W l X O A Q nL kc ks M pc lv' st) : sk_W l X O A Q nL kc ks M pc lv st :=
  fun H locs ls hP hS hl => K H locs ls hP hS (lv_sub hl is h)
-- fields and arrays
def sk_is (O : sk_O) (k : Nat) (S : sk_S) : Prop := k < sk_n O ∧ sk_sh O k = S
theorem sk_fat {ad : Nat → Nat} {r : Nat → Option Nat} {f : Nat → Int32} {N j : Nat} (hj : j < N) : ((List.range N).map (sk_fv ad r f))[j]? = some (sk_fv ad r f j) := by simp [hj]
theorem k_geti (C : sk_C X cc nL own rm O A) {idx ci k j : Nat} {q : vw_C} {r : Nat → Option Nat} (hq : sk_cl ci q) (hlink : Cond.fieldLink own idx (q.2.1 j).1 (q.2.1 j).2.1 (q.2.1 j).2.2.1 ∈ sk_tb) (h : sk_is O k (ci + 4, q.2.2, r)) (hj : j < q.2.2) (hr : r j = none) (d : decode cc pc = .ok (.getfield idx, 3)) (K : sk_W l X O A Q nL kc ks M (pc + 3) lv (.int (M k j) :: st)) : sk_W l X O A Q nL kc ks M pc lv (.ref (sk_ad O k) :: st) := by
  intro H locs ls hP hS hl
  have he := sk_at (O := O) (M := M) h.1
  rw [h.2] at he
  exact va_get (D := O.1) (C := q.1) (T := q.2.1) (N := q.2.2) C.1.1 C.1.2.1 C.1.2.2.2.2 hq.2 C.1.2.2.2.1 C.2.2.1 hP k he hq.1 j hj (C.1.2.2.2.2 _ hlink) (fun _ h9 => h9) (by rw [sk_fat hj]; show some (sk_fv _ r _ j) = _; rw [sk_fv, hr]) d (K H locs ls hP hS hl)
theorem k_getr (C : sk_C X cc nL own rm O A) {idx ci k j k' : Nat} {q : vw_C} {r : Nat → Option Nat} (hq : sk_cl ci q) (hlink : Cond.fieldLink own idx (q.2.1 j).1 (q.2.1 j).2.1 (q.2.1 j).2.2.1 ∈ sk_tb) (h : sk_is O k (ci + 4, q.2.2, r)) (hj : j < q.2.2) (hr : r j = some k') (d : decode cc pc = .ok (.getfield idx, 3)) (K : sk_W l X O A Q nL kc ks M (pc + 3) lv (.ref (sk_ad O k') :: st)) : sk_W l X O A Q nL kc ks M pc lv (.ref (sk_ad O k) :: st) := by
  intro H locs ls hP hS hl
  have he := sk_at (O := O) (M := M) h.1
  rw [h.2] at he
  exact va_get (D := O.1) (C := q.1) (T := q.2.1) (N := q.2.2) C.1.1 C.1.2.1 C.1.2.2.2.2 hq.2 C.1.2.2.2.1 C.2.2.1 hP k he hq.1 j hj (C.1.2.2.2.2 _ hlink) (fun _ h9 => h9) (by rw [sk_fat hj]; show some (sk_fv _ r _ j) = _; rw [sk_fv, hr]) d (K H locs ls hP hS hl)
theorem k_puti (C : sk_C X cc nL own rm O A) {idx ci k j : Nat} {q : vw_C} {r : Nat → Option Nat} {v : Int32} {ty : FieldType} (ty0 : Nat → FieldType) (hq : sk_cl ci q) (hty : ∀ k, k < q.2.2 → parseFieldDescriptor (q.2.1 k).2.2.1 = some (ty0 k)) (hnm : ∀ a, a < q.2.2 → ∀ b, b < q.2.2 → a ≠ b → (q.2.1 a).2.1 ≠ (q.2.1 b).2.1) (hlink : Cond.fieldLink own idx (q.2.1 j).1 (q.2.1 j).2.1 (q.2.1 j).2.2.1 ∈ sk_tb) (h : sk_is O k (ci + 4, q.2.2, r)) (hj : j < q.2.2) (hr : r j = none) (hfin : (q.2.1 j).2.2.2 = false) (hd : parseFieldDescriptor (q.2.1 j).2.2.1 = some ty) (hn : narrow ty (.int v) = .int v) (hfit : fits ty (.int v) = true) (d : decode cc pc = .ok (.putfield idx, 3)) (K : sk_W l X O A Q nL kc ks (sk_ms M k j v) (pc + 3) lv st) : sk_W l X O A Q nL kc ks M pc lv (.int v :: .ref (sk_ad O k) :: st) := by
  intro H locs ls hP hS hl
  have he := sk_at (O := O) (M := M) h.1
  have hs : sk_el (sk_ad O) (sk_cy O) (sk_sh O k) (sk_ms M k j v k) = .inr (ci, ((List.range q.2.2).map (sk_fv (sk_ad O) r (M k))).set j (.int v)) := by
    rw [h.2]
    show Sum.inr (ci, (List.range q.2.2).map (sk_fv (sk_ad O) r (sk_ms M k j v k))) = _
    congr 2
    apply List.ext_getElem?
    intro i
    by_cases hi : i = j
    · subst hi
      rw [List.getElem?_set_self (by simp [hj]), sk_fat hj, sk_fv, hr]
      simp [sk_ms]
    · rw [List.getElem?_set_ne (Ne.symm hi)]
      by_cases hN : i < q.2.2
      · rw [sk_fat hN, sk_fat hN]
        simp only [sk_fv, sk_ms, hi, and_false, if_false]
      · rw [List.getElem?_eq_none (by simp; omega), List.getElem?_eq_none (by simp; omega)]
  have hset := sk_set (O := O) (M := M) (M' := sk_ms M k j v) h.1 hs (fun a ha => by funext b; simp [sk_ms, ha])
  rw [h.2] at he
  refine va_put (D := O.1) (C := q.1) (T := q.2.1) (N := q.2.2) C.1.1 C.1.2.1 C.1.2.2.2.2 hq.2 ty0 hty hnm C.1.2.2.2.1 C.2.2.1 hP (sk_vD C.2.2.2.1 C.2.2.2.2.1) hS k he hq.1 j hj (C.1.2.2.2.2 _ hlink) (fun _ h9 => h9) hfin hd hn hfit (by simp [hj]) d (fun H1 locs1 hP1 hD1 hS1 => ?_)
  rw [hset] at hP1
  exact K H1 locs1 ls hP1 hS1 hl
theorem k_iald (C : sk_C X cc nL own rm O A) {k z : Nat} {r : Nat → Option Nat} {i : Int32} (h : sk_is O k (0, z, r)) (hin : vp_in i z) (d : decode cc pc = .ok (.iaload, 1)) (K : sk_W l X O A Q nL kc ks M (pc + 1) lv (.int (M k i.toNatClampNeg) :: st)) : sk_W l X O A Q nL kc ks M pc lv (.int i :: .ref (sk_ad O k) :: st) := by
  intro H locs ls hP hS hl
  have he := sk_at (O := O) (M := M) h.1
  rw [h.2] at he
  exact va_iald C.1.1 C.1.2.1 C.2.2.1 hP k 0 he rfl hin d (K H locs ls hP hS hl)
theorem k_zald (C : sk_C X cc nL own rm O A) {k z : Nat} {r : Nat → Option Nat} {i : Int32} (h : sk_is O k (1, z, r)) (hin : vp_in i z) (d : decode cc pc = .ok (.baload, 1)) (K : sk_W l X O A Q nL kc ks M (pc + 1) lv (.int (M k i.toNatClampNeg) :: st)) : sk_W l X O A Q nL kc ks M pc lv (.int i :: .ref (sk_ad O k) :: st) := by
  intro H locs ls hP hS hl
  have he := sk_at (O := O) (M := M) h.1
  rw [h.2] at he
  exact va_zald C.1.1 C.1.2.1 C.2.2.1 hP k 1 he rfl hin d (K H locs ls hP hS hl)
theorem k_ialdn (C : sk_C X cc nL own rm O A) {k z : Nat} {r : Nat → Option Nat} {i : Int32} (n : Nat) (h : sk_is O k (0, z, r)) (hi : i = nI n) (hin : n < z ∧ z < 2 ^ 31) (d : decode cc pc = .ok (.iaload, 1)) (K : sk_W l X O A Q nL kc ks M (pc + 1) lv (.int (M k n) :: st)) : sk_W l X O A Q nL kc ks M pc lv (.int i :: .ref (sk_ad O k) :: st) := by
  subst hi
  refine k_iald C h (vp_in_nI hin.1 hin.2) d ?_
  rw [nI_clamp (Nat.lt_trans hin.1 hin.2)]
  exact K
theorem k_zaldn (C : sk_C X cc nL own rm O A) {k z : Nat} {r : Nat → Option Nat} {i : Int32} (n : Nat) (h : sk_is O k (1, z, r)) (hi : i = nI n) (hin : n < z ∧ z < 2 ^ 31) (d : decode cc pc = .ok (.baload, 1)) (K : sk_W l X O A Q nL kc ks M (pc + 1) lv (.int (M k n) :: st)) : sk_W l X O A Q nL kc ks M pc lv (.int i :: .ref (sk_ad O k) :: st) := by
  subst hi
  refine k_zald C h (vp_in_nI hin.1 hin.2) d ?_
  rw [nI_clamp (Nat.lt_trans hin.1 hin.2)]
  exact K
theorem k_aald (C : sk_C X cc nL own rm O A) {k z t k' : Nat} {r : Nat → Option Nat} {i : Int32} (n : Nat) (h : sk_is O k (t, z, r)) (ht : t = 2 ∨ t = 3) (hi : i = nI n) (hin : n < z ∧ z < 2 ^ 31) (hr : r n = some k') (d : decode cc pc = .ok (.aaload, 1)) (K : sk_W l X O A Q nL kc ks M (pc + 1) lv (.ref (sk_ad O k') :: st)) : sk_W l X O A Q nL kc ks M pc lv (.int i :: .ref (sk_ad O k) :: st) := by
  intro H locs ls hP hS hl
  subst hi
  have he := sk_at (O := O) (M := M) h.1
  rw [h.2] at he
  rcases ht with rfl | rfl
  · refine va_aldq C.1.1 C.1.2.1 C.2.2.1 hP k 2 he rfl (vp_in_nI hin.1 hin.2) d ?_
    rw [nI_clamp (Nat.lt_trans hin.1 hin.2)]
    show W _ _ _ _ _ _ _ _ _ _ _ _ _ _ _ (F0 _ _ _ (va_rf ((r n).map _) :: _))
    rw [hr]
    exact K H locs ls hP hS hl
  · refine va_aldq C.1.1 C.1.2.1 C.2.2.1 hP k 3 he rfl (vp_in_nI hin.1 hin.2) d ?_
    rw [nI_clamp (Nat.lt_trans hin.1 hin.2)]
    show W _ _ _ _ _ _ _ _ _ _ _ _ _ _ _ (F0 _ _ _ (va_rf ((r n).map _) :: _))
    rw [hr]
    exact K H locs ls hP hS hl
theorem sk_up {O : sk_O} {M : sk_M} {k z t : Nat} {r : Nat → Option Nat} (h : sk_is O k (t, z, r)) (f : Nat → Int32) (e : va_E) (he : sk_el (sk_ad O) (sk_cy O) (t, z, r) f = e) : (sk_ws O M).set k (sk_ad O k, e) = sk_ws O (sk_mr M k f) := by
  refine sk_set h.1 ?_ (fun a ha => by funext b; simp [sk_mr, ha])
  rw [h.2, ← he]
  congr 1
  funext b
  simp [sk_mr]
theorem sk_msr (M : sk_M) (k j : Nat) (v : Int32) : sk_ms M k j v = sk_mr M k (upd (M k) j v) := by
  funext a b
  by_cases ha : a = k
  · subst ha; simp [sk_ms, sk_mr, upd]
  · simp [sk_ms, sk_mr, ha]
theorem k_iast (C : sk_C X cc nL own rm O A) {k z : Nat} {r : Nat → Option Nat} {i x : Int32} (n : Nat) (h : sk_is O k (0, z, r)) (hi : i = nI n) (hin : n < z ∧ z < 2 ^ 31) (d : decode cc pc = .ok (.iastore, 1)) (K : sk_W l X O A Q nL kc ks (sk_ms M k n x) (pc + 1) lv st) : sk_W l X O A Q nL kc ks M pc lv (.int x :: .int i :: .ref (sk_ad O k) :: st) := by
  intro H locs ls hP hS hl
  subst hi
  have he := sk_at (O := O) (M := M) h.1
  rw [h.2] at he
  refine va_iast (D := O.1) C.1.1 C.1.2.1 C.2.2.1 hP (sk_vD C.2.2.2.1 C.2.2.2.2.1) hS k 0 he rfl (vp_in_nI hin.1 hin.2) d (fun H1 locs1 hP1 hD1 hS1 => ?_)
  have hP2 : va_P O.1 vwCl ((sk_ws O M).set k (sk_ad O k, .inl (sk_cy O 0, z, .inl (upd (M k) n x)))) H1 := by
    rw [nI_clamp (Nat.lt_trans hin.1 hin.2)] at hP1
    exact hP1
  rw [sk_up h (upd (M k) n x) (.inl (sk_cy O 0, z, .inl (upd (M k) n x))) rfl, ← sk_msr] at hP2
  exact K H1 locs1 ls hP2 hS1 hl
theorem k_zast (C : sk_C X cc nL own rm O A) {k z : Nat} {r : Nat → Option Nat} {i x : Int32} (n : Nat) (h : sk_is O k (1, z, r)) (hi : i = nI n) (hin : n < z ∧ z < 2 ^ 31) (hx : vp_nar .boolean x = x) (d : decode cc pc = .ok (.bastore, 1)) (K : sk_W l X O A Q nL kc ks (sk_ms M k n x) (pc + 1) lv st) : sk_W l X O A Q nL kc ks M pc lv (.int x :: .int i :: .ref (sk_ad O k) :: st) := by
  intro H locs ls hP hS hl
  subst hi
  have he := sk_at (O := O) (M := M) h.1
  rw [h.2] at he
  refine va_zast (D := O.1) C.1.1 C.1.2.1 C.2.2.1 hP (sk_vD C.2.2.2.1 C.2.2.2.2.1) hS k 1 he rfl (vp_in_nI hin.1 hin.2) d (fun H1 locs1 hP1 hD1 hS1 => ?_)
  have hP2 : va_P O.1 vwCl ((sk_ws O M).set k (sk_ad O k, .inl (sk_cy O 1, z, .inl (upd (M k) n x)))) H1 := by
    rw [nI_clamp (Nat.lt_trans hin.1 hin.2), hx] at hP1
    exact hP1
  rw [sk_up h (upd (M k) n x) (.inl (sk_cy O 1, z, .inl (upd (M k) n x))) rfl, ← sk_msr] at hP2
  exact K H1 locs1 ls hP2 hS1 hl
theorem k_copy (C : sk_C X cc nL own rm O A) {idx k0 k1 z0 z1 : Nat} {r0 r1 : Nat → Option Nat} (n : Nat) (hlink : Cond.methodLink own idx arraycopyName ∈ sk_tb) (hnat : Cond.native arraycopyName ∈ sk_tb) (hstat : Cond.static arraycopyName ∈ sk_tb) (hini : Cond.initialized "java/lang/System" ∈ sk_tb) (h0 : sk_is O k0 (0, z0, r0)) (h1 : sk_is O k1 (0, z1, r1)) {x sp dp : Int32} (hx : x = nI n) (hsp : sp = 0) (hdp : dp = 0) (hn : n ≤ z0 ∧ n ≤ z1 ∧ n < 2 ^ 31) (hR : 1 ≤ rm.frames ∧ (st.map fun v => v.category).sum + (nativeFrameWords "java/lang/System" "arraycopy" 5 + 11) ≤ rm.locals) (d : decode cc pc = .ok (.invokestatic idx, 3)) (K : sk_W l X O A Q nL kc ks (sk_cp M k0 k1 n) (pc + 3) lv st) : sk_W l X O A Q nL kc ks M pc lv (.int x :: .int dp :: .ref (sk_ad O k1) :: .int sp :: .ref (sk_ad O k0) :: st) := by
  intro H locs ls hP hS hl
  subst hx; subst hsp; subst hdp
  have he0 := sk_at (O := O) (M := M) h0.1
  have he1 := sk_at (O := O) (M := M) h1.1
  rw [h0.2] at he0
  rw [h1.2] at he1
  have hcl : (nI n).toNatClampNeg = n := nI_clamp hn.2.2
  refine va_copyi (D := O.1) C.1.1 C.1.2.1 (C.1.2.2.1.trans hl.1.symm) C.1.2.2.2.1 (C.1.2.2.2.2 _ hlink) (C.1.2.2.2.2 _ hnat) (C.1.2.2.2.2 _ hstat) (C.1.2.2.2.2 _ hini) C.2.2.1 hP (sk_vD C.2.2.2.1 C.2.2.2.2.1) hS k0 k1 0 0 he0 he1 rfl rfl rfl (by decide) (by decide) (nI_pos hn.2.2) ?_ ?_ (fun i _ => rfl) (by rw [C.2.1]; exact hR.1) (by rw [C.2.1]; exact hR.2) d (fun H1 locs1 hP1 hD1 hS1 => ?_)
  · rw [hcl]; show 0 + n ≤ z0; omega
  · rw [hcl]; show 0 + n ≤ z1; omega
  · have hP2 : va_P O.1 vwCl ((sk_ws O M).set k1 (sk_ad O k1, .inl (sk_cy O 0, z1, .inl (va_cpy (M k0) (M k1) 0 0 n)))) H1 := by
      rw [hcl] at hP1
      exact hP1
    rw [sk_up h1 (va_cpy (M k0) (M k1) 0 0 n) (.inl (sk_cy O 0, z1, .inl (va_cpy (M k0) (M k1) 0 0 n))) rfl] at hP2
    have hf : va_cpy (M k0) (M k1) 0 0 n = fun j => if j < n then M k0 j else M k1 j := by
      funext j
      simp [va_cpy]
    rw [hf] at hP2
    exact K H1 locs1 ls hP2 hS1 hl
theorem k_max (C : sk_C X cc nL own rm O A) {idx : Nat} {x y : Int32} (hlink : Cond.methodLink own idx Lib.Math.max.name ∈ sk_tb) (hstat : Cond.static Lib.Math.max.name ∈ sk_tb) (hini : Cond.initialized "java/lang/Math" ∈ sk_tb) (hcode : Cond.code Lib.Math.max.name Lib.Math.max.code 2 (some .int) ∈ sk_tb) (hR : 1 ≤ rm.frames ∧ (st.map fun v => v.category).sum + 13 ≤ rm.locals ∧ kc ≤ rm.cells ∧ ks ≤ rm.slots) (d : decode cc pc = .ok (.invokestatic idx, 3)) (K : sk_W l X O A Q nL kc ks M (pc + 3) lv (.int (if x < y then y else x) :: st)) : sk_W l X O A Q nL kc ks M pc lv (.int y :: .int x :: st) :=
  fun H locs ls hP hS hl => va_mmax C.1.1 C.1.2.1 (C.1.2.2.1.trans hl.1.symm) C.1.2.2.2.1 (C.1.2.2.2.2 _ hlink) (C.1.2.2.2.2 _ hstat) (C.1.2.2.2.2 _ hini) (C.1.2.2.2.2 _ hcode) (by rw [C.2.1]; exact hR.1) (by rw [C.2.1]; exact hR.2.1) (by rw [C.2.1]; exact hR.2.2.1) (by rw [C.2.1]; exact hR.2.2.2) d (K H locs ls hP hS hl)
theorem k_min (C : sk_C X cc nL own rm O A) {idx : Nat} {x y : Int32} (hlink : Cond.methodLink own idx Lib.Math.min.name ∈ sk_tb) (hstat : Cond.static Lib.Math.min.name ∈ sk_tb) (hini : Cond.initialized "java/lang/Math" ∈ sk_tb) (hcode : Cond.code Lib.Math.min.name Lib.Math.min.code 2 (some .int) ∈ sk_tb) (hR : 1 ≤ rm.frames ∧ (st.map fun v => v.category).sum + 13 ≤ rm.locals ∧ kc ≤ rm.cells ∧ ks ≤ rm.slots) (d : decode cc pc = .ok (.invokestatic idx, 3)) (K : sk_W l X O A Q nL kc ks M (pc + 3) lv (.int (if y < x then y else x) :: st)) : sk_W l X O A Q nL kc ks M pc lv (.int y :: .int x :: st) :=
  fun H locs ls hP hS hl => va_mmin C.1.1 C.1.2.1 (C.1.2.2.1.trans hl.1.symm) C.1.2.2.2.1 (C.1.2.2.2.2 _ hlink) (C.1.2.2.2.2 _ hstat) (C.1.2.2.2.2 _ hini) (C.1.2.2.2.2 _ hcode) (by rw [C.2.1]; exact hR.1) (by rw [C.2.1]; exact hR.2.1) (by rw [C.2.1]; exact hR.2.2.1) (by rw [C.2.1]; exact hR.2.2.2) d (K H locs ls hP hS hl)
theorem k_abs (C : sk_C X cc nL own rm O A) {idx : Nat} {x : Int32} (hlink : Cond.methodLink own idx Lib.Math.abs.name ∈ sk_tb) (hstat : Cond.static Lib.Math.abs.name ∈ sk_tb) (hini : Cond.initialized "java/lang/Math" ∈ sk_tb) (hcode : Cond.code Lib.Math.abs.name Lib.Math.abs.code 1 (some .int) ∈ sk_tb) (hR : 1 ≤ rm.frames ∧ (st.map fun v => v.category).sum + 13 ≤ rm.locals ∧ kc ≤ rm.cells ∧ ks ≤ rm.slots) (d : decode cc pc = .ok (.invokestatic idx, 3)) (K : sk_W l X O A Q nL kc ks M (pc + 3) lv (.int (if 0 ≤ x then x else 0 - x) :: st)) : sk_W l X O A Q nL kc ks M pc lv (.int x :: st) :=
  fun H locs ls hP hS hl => va_mabs C.1.1 C.1.2.1 (C.1.2.2.1.trans hl.1.symm) C.1.2.2.2.1 (C.1.2.2.2.2 _ hlink) (C.1.2.2.2.2 _ hstat) (C.1.2.2.2.2 _ hini) (C.1.2.2.2.2 _ hcode) (by rw [C.2.1]; exact hR.1) (by rw [C.2.1]; exact hR.2.1) (by rw [C.2.1]; exact hR.2.2.1) (by rw [C.2.1]; exact hR.2.2.2) d (K H locs ls hP hS hl)
-- the static rows
theorem k_gets (C : sk_C X cc nL own rm O A) (z : Nat) (hz : z < 3) {idx : Nat} (hlink : Cond.fieldLink own idx "SkateSheet$Scoring" (sk_rnm z) "[I" ∈ sk_tb) (d : decode cc pc = .ok (.getstatic idx, 3)) (K : sk_W l X O A Q nL kc ks M (pc + 3) lv (.ref (sk_st O z) :: st)) : sk_W l X O A Q nL kc ks M pc lv st :=
  fun H locs ls hP hS hl => va_gets C.1.1 C.1.2.1 (C.2.2.2.2.2.2.1 z hz).1 hS C.1.2.2.2.1 (C.1.2.2.2.2 _ hlink) (fun _ h => h) d (K H locs ls hP hS hl)
theorem k_slen (C : sk_C X cc nL own rm O A) (z : Nat) (hz : z < 3) (d : decode cc pc = .ok (.arraylength, 1)) (K : sk_W l X O A Q nL kc ks M (pc + 1) lv (.int (nI (sk_row z).length) :: st)) : sk_W l X O A Q nL kc ks M pc lv (.ref (sk_st O z) :: st) :=
  fun H locs ls hP hS hl => va_tlen C.1.1 C.1.2.1 (C.2.2.2.2.2.2.1 z hz).2 hS rfl d (K H locs ls hP hS hl)
theorem k_sald (C : sk_C X cc nL own rm O A) (z n : Nat) (hz : z < 3) {i : Int32} (hi : i = nI n) (hn : n < (sk_row z).length) (d : decode cc pc = .ok (.iaload, 1)) (K : sk_W l X O A Q nL kc ks M (pc + 1) lv (.int ((sk_row z).getD n 0) :: st)) : sk_W l X O A Q nL kc ks M pc lv (.int i :: .ref (sk_st O z) :: st) := by
  intro H locs ls hP hS hl
  subst hi
  have h24 : (sk_row z).length ≤ 24 := by
    match z with
    | 0 => exact Nat.le_of_ble_eq_true rfl
    | 1 => exact Nat.le_of_ble_eq_true rfl
    | z + 2 => exact Nat.le_of_ble_eq_true rfl
  refine va_ti C.1.1 C.1.2.1 (C.2.2.2.2.2.2.1 z hz).2 hS (vp_in_nI hn (Nat.lt_of_le_of_lt h24 (by decide))) rfl d ?_
  rw [nI_clamp (Nat.lt_of_lt_of_le hn (Nat.le_trans h24 (by decide)))]
  exact K H locs ls hP hS hl
-- calls
theorem sk_cb (C : sk_C X cc nL own rm O A) {y : MethodName} {ccY : ByteArray} {maxL idx n : Nat} {ret : Option FieldType} {rmY : Room} {mc ms : Nat} (hy : sk_yv y ccY maxL ret n) (hl : Cond.methodLink own idx y ∈ sk_tb) (hc : rmY.cells = mc ∧ rmY.slots = ms) (hR : rmY.frames + 1 ≤ rm.frames ∧ 8 + (maxL + 11) + rmY.locals ≤ rm.locals) : CallB X.2.2.1 (sk_s X) X.2.2.2.2.2.1 own idx y ccY maxL ret (sk_w y ccY maxL ret) rmY mc ms n := by
  have hts := C.1.2.2.2.2
  have hw : ∀ w ∈ sk_tb, ∀ (a' : Array Value) (U : State), (sk_s X).WarmedH U.vm → w.before a' U = true := fun w h a' U hW => word_at hW (good_of_word (sk_good w h)) (hts w h)
  refine ⟨hc.1, hc.2, by rw [C.2.1]; exact hR.1, by rw [C.2.1]; exact hR.2, fun w h => ?_, List.mem_cons_self, hts _ hy.1, hts _ hy.2.1, hy.2.2.1, ?_, hts _ hl⟩
  · rcases List.mem_cons.mp h with rfl | h
    · exact hw _ hy.1
    · exact hw _ h
  · intro sig hs
    have h := hy.2.2.2
    rw [hs] at h
    exact (Option.some.inj h).symm
theorem sk_pre (C : sk_C X cc nL own rm O A) {H : Heap} {locs : List Loc} (hP : va_P O.1 vwCl (sk_ws O M) H) (hS : va_S A (sk_s X).heap H locs) {as : List Value} (U : State) (hU : U.heap = H) (hW : (sk_s X).WarmedH U.vm) : sk_Pc O M H.size as as.toArray U :=
  ⟨rfl, by rw [hU], ⟨by rw [hU]; exact hP, va_K.moved hW.alike C.2.2.1⟩, C.2.2.2.2.2.2.go hW.alike (fun a h1 h2 => by rw [hU]; exact hS.2.1 a h1 h2) (sk_Ax C.2.2.2.2.1 C.2.2.2.2.2.1 hS.1)⟩
theorem sk_rcv (C : sk_C X cc nL own rm O A) {H : Heap} (hP : va_P O.1 vwCl (sk_ws O M) H) {k ci N : Nat} {r : Nat → Option Nat} {y : MethodName} (ho : sk_is O k (ci + 4, N, r)) (hcl : (vwCl[ci]?).map (fun q => q.1) = some y.cls) : ∃ cellB : Cell, H[sk_ad O k]? = some cellB ∧ cellB.vm.isStatics = false ∧ (sk_s X).vm.findClass y.cls = some cellB.cls := by
  have he := sk_at (O := O) (M := M) ho.1
  rw [ho.2] at he
  cases hq : vwCl[ci]? with
  | none => rw [hq] at hcl; cases hcl
  | some q =>
    rw [hq] at hcl
    have hcl : q.1 = y.cls := Option.some.inj hcl
    have hr := va_recv C.2.2.1 hP hq he
    rw [hcl] at hr
    exact hr
theorem k_vi (C : sk_C X cc nL own rm O A) {y : MethodName} {ccY : ByteArray} {maxL idx n k ci N : Nat} {ret : FieldType} {rmY : Room} {r : Nat → Option Nat} {as st0 : List Value} {post : Int32 → sk_M → Prop} (hy : sk_yv y ccY maxL (some ret) n) (hv : Cond.instanceMethod y ∈ sk_tb ∧ Cond.selects y.cls y y ∈ sk_tb) (hl : Cond.methodLink own idx y ∈ sk_tb) (hM : sk_Mi l y (sk_w y ccY maxL (some ret)) rmY O (.ref (sk_ad O k) :: as) M post) (ho : sk_is O k (ci + 4, N, r)) (hcl : (vwCl[ci]?).map (fun q => q.1) = some y.cls) (hn : as.length = n) (hst : st0 = as.reverse ++ .ref (sk_ad O k) :: st) (hcat : (st.map fun v => v.category).sum ≤ 8) (hR : (rmY.frames + 1 ≤ rm.frames ∧ 8 + (maxL + 11) + rmY.locals ≤ rm.locals) ∧ kc ≤ rm.cells ∧ ks ≤ rm.slots) (d : decode cc pc = .ok (.invokevirtual idx, 3)) (K : ∀ (x : Int32) (M' : sk_M), post x M' → sk_W l X O A Q nL kc ks M' (pc + 3) lv (.int x :: st)) : sk_W l X O A Q nL kc ks M pc lv st0 := by
  intro H locs ls hP hS hl0
  have hF := sk_Ax C.2.2.2.2.1 C.2.2.2.2.2.1 hS.1
  refine va_calli (va_runV (C := y.cls) (As := as) (rest := st) C.1 (hM.2.2 H.size) ⟨sk_cb C hy hl ⟨hM.1, hM.2.1⟩ hR.1, C.1.2.2.2.2 _ hv.1, C.1.2.2.2.2 _ hv.2⟩ ⟨sk_blind, sk_rcv C hP ho hcl, fun U hU hW => sk_pre C hP hS U hU hW⟩ rfl hn hl0.1 hst (lv_room hcat) d ⟨by rw [C.2.1]; exact hR.2.1, by rw [C.2.1]; exact hR.2.2⟩) hS (fun q _ h => hF q h) hF (fun x u t H1 locs1 ht hvm hw hB hz1 hk1 hS1 => ?_)
  exact K x u hw H1 locs1 ls (by rw [← ht]; exact hB.1) hS1 hl0
theorem k_vv (C : sk_C X cc nL own rm O A) {y : MethodName} {ccY : ByteArray} {maxL idx n k ci N : Nat} {rmY : Room} {r : Nat → Option Nat} {as st0 : List Value} {post : sk_M → Prop} (hy : sk_yv y ccY maxL none n) (hv : Cond.instanceMethod y ∈ sk_tb ∧ Cond.selects y.cls y y ∈ sk_tb) (hl : Cond.methodLink own idx y ∈ sk_tb) (hM : sk_Mv l y (sk_w y ccY maxL none) rmY O (.ref (sk_ad O k) :: as) M post) (ho : sk_is O k (ci + 4, N, r)) (hcl : (vwCl[ci]?).map (fun q => q.1) = some y.cls) (hn : as.length = n) (hst : st0 = as.reverse ++ .ref (sk_ad O k) :: st) (hcat : (st.map fun v => v.category).sum ≤ 8) (hR : (rmY.frames + 1 ≤ rm.frames ∧ 8 + (maxL + 11) + rmY.locals ≤ rm.locals) ∧ kc ≤ rm.cells ∧ ks ≤ rm.slots) (d : decode cc pc = .ok (.invokevirtual idx, 3)) (K : ∀ (M' : sk_M), post M' → sk_W l X O A Q nL kc ks M' (pc + 3) lv st) : sk_W l X O A Q nL kc ks M pc lv st0 := by
  intro H locs ls hP hS hl0
  have hF := sk_Ax C.2.2.2.2.1 C.2.2.2.2.2.1 hS.1
  refine va_callv (va_runV (C := y.cls) (As := as) (rest := st) C.1 (hM.2.2 H.size) ⟨sk_cb C hy hl ⟨hM.1, hM.2.1⟩ hR.1, C.1.2.2.2.2 _ hv.1, C.1.2.2.2.2 _ hv.2⟩ ⟨sk_blind, sk_rcv C hP ho hcl, fun U hU hW => sk_pre C hP hS U hU hW⟩ rfl hn hl0.1 hst (lv_room hcat) d ⟨by rw [C.2.1]; exact hR.2.1, by rw [C.2.1]; exact hR.2.2⟩) hS (fun q _ h => hF q h) hF (fun u t H1 locs1 ht hvm hw hB hz1 hk1 hS1 => ?_)
  exact K u hw H1 locs1 ls (by rw [← ht]; exact hB.1) hS1 hl0
theorem k_si (C : sk_C X cc nL own rm O A) {y : MethodName} {ccY : ByteArray} {maxL idx n : Nat} {ret : FieldType} {rmY : Room} {as st0 : List Value} {post : Int32 → sk_M → Prop} (hy : sk_yv y ccY maxL (some ret) n) (hv : Cond.static y ∈ sk_tb) (hl : Cond.methodLink own idx y ∈ sk_tb) (hM : sk_Mi l y (sk_w y ccY maxL (some ret)) rmY O as M post) (hn : as.length = n) (hst : st0 = as.reverse ++ st) (hcat : (st.map fun v => v.category).sum ≤ 8) (hR : (rmY.frames + 1 ≤ rm.frames ∧ 8 + (maxL + 11) + rmY.locals ≤ rm.locals) ∧ kc ≤ rm.cells ∧ ks ≤ rm.slots) (d : decode cc pc = .ok (.invokestatic idx, 3)) (K : ∀ (x : Int32) (M' : sk_M), post x M' → sk_W l X O A Q nL kc ks M' (pc + 3) lv (.int x :: st)) : sk_W l X O A Q nL kc ks M pc lv st0 := by
  intro H locs ls hP hS hl0
  have hF := sk_Ax C.2.2.2.2.1 C.2.2.2.2.2.1 hS.1
  refine va_calli (va_runS (As := as) (rest := st) C.1 (hM.2.2 H.size) ⟨sk_cb C hy hl ⟨hM.1, hM.2.1⟩ hR.1, C.1.2.2.2.2 _ hv⟩ ⟨sk_blind, fun U hU hW => sk_pre C hP hS U hU hW⟩ rfl hn hl0.1 hst (lv_room hcat) d ⟨by rw [C.2.1]; exact hR.2.1, by rw [C.2.1]; exact hR.2.2⟩) hS (fun q _ h => hF q h) hF (fun x u t H1 locs1 ht hvm hw hB hz1 hk1 hS1 => ?_)
  exact K x u hw H1 locs1 ls (by rw [← ht]; exact hB.1) hS1 hl0
theorem k_sl (C : sk_C X cc nL own rm O A) {y : MethodName} {ccY : ByteArray} {maxL idx n : Nat} {rmY : Room} {as st0 : List Value} {post : Int64 → sk_M → Prop} (hy : sk_yv y ccY maxL (some .long) n) (hv : Cond.static y ∈ sk_tb) (hl : Cond.methodLink own idx y ∈ sk_tb) (hM : sk_Ml l y (sk_w y ccY maxL (some .long)) rmY O as M post) (hn : as.length = n) (hst : st0 = as.reverse ++ st) (hcat : (st.map fun v => v.category).sum ≤ 8) (hR : (rmY.frames + 1 ≤ rm.frames ∧ 8 + (maxL + 11) + rmY.locals ≤ rm.locals) ∧ kc ≤ rm.cells ∧ ks ≤ rm.slots) (d : decode cc pc = .ok (.invokestatic idx, 3)) (K : ∀ (x : Int64) (M' : sk_M), post x M' → sk_W l X O A Q nL kc ks M' (pc + 3) lv (.long x :: st)) : sk_W l X O A Q nL kc ks M pc lv st0 := by
  intro H locs ls hP hS hl0
  have hF := sk_Ax C.2.2.2.2.1 C.2.2.2.2.2.1 hS.1
  refine va_calll (va_runS (As := as) (rest := st) C.1 (hM.2.2 H.size) ⟨sk_cb C hy hl ⟨hM.1, hM.2.1⟩ hR.1, C.1.2.2.2.2 _ hv⟩ ⟨sk_blind, fun U hU hW => sk_pre C hP hS U hU hW⟩ rfl hn hl0.1 hst (lv_room hcat) d ⟨by rw [C.2.1]; exact hR.2.1, by rw [C.2.1]; exact hR.2.2⟩) hS (fun q _ h => hF q h) hF (fun x u t H1 locs1 ht hvm hw hB hz1 hk1 hS1 => ?_)
  exact K x u hw H1 locs1 ls (by rw [← ht]; exact hB.1) hS1 hl0
theorem k_sv (C : sk_C X cc nL own rm O A) {y : MethodName} {ccY : ByteArray} {maxL idx n : Nat} {rmY : Room} {as st0 : List Value} {post : sk_M → Prop} (hy : sk_yv y ccY maxL none n) (hv : Cond.static y ∈ sk_tb) (hl : Cond.methodLink own idx y ∈ sk_tb) (hM : sk_Mv l y (sk_w y ccY maxL none) rmY O as M post) (hn : as.length = n) (hst : st0 = as.reverse ++ st) (hcat : (st.map fun v => v.category).sum ≤ 8) (hR : (rmY.frames + 1 ≤ rm.frames ∧ 8 + (maxL + 11) + rmY.locals ≤ rm.locals) ∧ kc ≤ rm.cells ∧ ks ≤ rm.slots) (d : decode cc pc = .ok (.invokestatic idx, 3)) (K : ∀ (M' : sk_M), post M' → sk_W l X O A Q nL kc ks M' (pc + 3) lv st) : sk_W l X O A Q nL kc ks M pc lv st0 := by
  intro H locs ls hP hS hl0
  have hF := sk_Ax C.2.2.2.2.1 C.2.2.2.2.2.1 hS.1
  refine va_callv (va_runS (As := as) (rest := st) C.1 (hM.2.2 H.size) ⟨sk_cb C hy hl ⟨hM.1, hM.2.1⟩ hR.1, C.1.2.2.2.2 _ hv⟩ ⟨sk_blind, fun U hU hW => sk_pre C hP hS U hU hW⟩ rfl hn hl0.1 hst (lv_room hcat) d ⟨by rw [C.2.1]; exact hR.2.1, by rw [C.2.1]; exact hR.2.2⟩) hS (fun q _ h => hF q h) hF (fun u t H1 locs1 ht hvm hw hB hz1 hk1 hS1 => ?_)
  exact K u hw H1 locs1 ls (by rw [← ht]; exact hB.1) hS1 hl0
end SKR
