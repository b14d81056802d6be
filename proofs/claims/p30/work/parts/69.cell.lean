/-! The law: its script's numbers (cell), and what was thrown (thrown) -/
def cl_v (L : Nat) (xs : Nat → Int32) (j : Nat) : Int32 := (if j < L then xs j else 15518701 * (nI j + 3) + 10909) &&& 2147483647
theorem cl_n (L : Nat) (xs : Nat → Int32) (j : Nat) : ∃ n, n < 2147483648 ∧ cl_v L xs j = nI n := by
  unfold cl_v
  generalize (if j < L then xs j else 15518701 * (nI j + 3) + 10909) = x
  refine ⟨(x &&& 2147483647).toBitVec.toNat, ?_, Int32.toBitVec_inj.mp ?_⟩
  · have h : (x &&& 2147483647).toBitVec = x.toBitVec &&& (2147483647 : Int32).toBitVec := rfl
    rw [h, BitVec.toNat_and]
    have h2 : (2147483647 : Int32).toBitVec.toNat = 2147483647 := by decide
    rw [h2]
    exact Nat.lt_of_le_of_lt Nat.and_le_right (by omega)
  · show (x &&& 2147483647).toBitVec = BitVec.ofNat 32 _
    simp
def sk_PE (O : sk_O) (M : sk_M) (sz b L : Nat) (xs : Nat → Int32) (as : List Value) : Array Value → State → Prop := va_Pc as (fun U => U.heap.size = sz ∧ sk_B O M U ∧ sk_Zs O (sk_A O sz) U U.heap ∧ va_X b L xs U U.heap ∧ b < sz ∧ ¬ sk_A O sz b)
theorem sk_blindE {O : sk_O} {M : sk_M} {sz b L : Nat} {xs : Nat → Int32} {as : List Value} : FrameBlind (sk_PE O M sz b L xs as) := by
  intro ar U g mk q
  obtain ⟨q0, q1, ⟨qP, qK⟩, qZ, qX, q2⟩ := q
  exact ⟨q0, q1, ⟨qP, va_K.moved (u := U) (U := U.calling g mk ar) (Vm.Alike.refl U.vm) qK⟩, qZ.go (u := U) (U := U.calling g mk ar) (Vm.Alike.refl U.vm) (fun _ _ _ => rfl) (fun _ h => h), va_X.moved (u := U) (U := U.calling g mk ar) (Vm.Alike.refl U.vm) qX, q2⟩
def sk_SX (X : sk_X) (A : Nat → Prop) (b L : Nat) (xs : Nat → Int32) : Prop := va_X b L xs (sk_s X) (sk_s X).heap ∧ b < (sk_s X).heap.size ∧ ¬ A b
section
variable {l : Launch} {X : sk_X} {cc : ByteArray} {nL : Nat} {own : String} {rm : Room} {O : sk_O} {A : Nat → Prop} {Q : State → Prop} {kc ks : Nat} {M : sk_M} {pc : Nat} {lv : List (Nat × Value)} {st : List Value}
theorem k_xald (C : sk_C X cc nL own rm O A) {b L : Nat} {xs : Nat → Int32} (hX : sk_SX X A b L xs) {j : Nat} (hj : j < L) (h31 : j < 2147483648) (d : decode cc pc = .ok (.iaload, 1)) (K : sk_W l X O A Q nL kc ks M (pc + 1) lv (.int (xs j) :: st)) : sk_W l X O A Q nL kc ks M pc lv (.int (nI j) :: .ref b :: st) := by
  intro H locs ls hP hS hl
  have hc : (nI j).toNatClampNeg = j := nI_clamp h31
  refine va_sld C.1.1 C.1.2.1 hX.1 hX.2.1 hX.2.2 hS (by
    intro z
    rcases z with z | z
    · exact nI_pos h31 z
    · rw [hc] at z; omega) d ?_
  rw [hc]
  exact K H locs ls hP hS hl
theorem k_xlen (C : sk_C X cc nL own rm O A) {b L : Nat} {xs : Nat → Int32} (hX : sk_SX X A b L xs) (d : decode cc pc = .ok (.arraylength, 1)) (K : sk_W l X O A Q nL kc ks M (pc + 1) lv (.int (nI L) :: st)) : sk_W l X O A Q nL kc ks M pc lv (.ref b :: st) :=
  fun H locs ls hP hS hl => va_slen C.1.1 C.1.2.1 hX.1 hX.2.1 hX.2.2 hS d (K H locs ls hP hS hl)
end
set_option maxRecDepth 100000 in
theorem m_cell (l : Launch) {O : sk_O} (hO : sk_inj O) (M : sk_M) {b L j sz : Nat} {xs : Nat → Int32} (hL : L ≤ 260) (hj : j < 1000) : Met l yL_cell (sk_w yL_cell cL_cell 2 (some .int)) ({ frames := 0, cells := 0, slots := 0, locals := 0 }) (sk_PE O M sz b L xs [.ref b, .int (nI j)]) (va_Qi (fun r M2 => r = cl_v L xs j ∧ M2 = M) (sk_B O) (sk_A O sz)) 0 0 (sk_A O sz) := by
  refine Met.ofW (cc := cL_cell) (maxL := 2) (ret := some .int) (by decide) rfl ?_
  intro p e s m args below meth c s₁ B hml hv
  obtain ⟨h1, h2, hB, hZ, hX, hb, hA⟩ := hv
  obtain ⟨rfl, hsz, hP, C⟩ := sk_ent rfl hO B hml ⟨h1, h2, hB, hZ⟩
  rw [lg_entry_eq]
  have hlocks := B.notSynchronized
  have hSX : sk_SX (p, e, (headSpec (sk_w yL_cell cL_cell 2 (some .int)) ({ frames := 0, cells := 0, slots := 0, locals := 0 })).room, s, m, ([.ref b, .int (nI j)] : List Value).toArray, below, meth, c) (sk_A O sz) b L xs := ⟨hX, by show b < s.heap.size; omega, hA⟩
  have body : ∀ Q : State → Prop, (∀ (r : Int32) (lv : List (Nat × Value)), r = cl_v L xs j → sk_W l (p, e, (headSpec (sk_w yL_cell cL_cell 2 (some .int)) ({ frames := 0, cells := 0, slots := 0, locals := 0 })).room, s, m, ([.ref b, .int (nI j)] : List Value).toArray, below, meth, c) O (sk_A O sz) Q 2 0 0 M 25 lv [.int r]) → sk_W l (p, e, (headSpec (sk_w yL_cell cL_cell 2 (some .int)) ({ frames := 0, cells := 0, slots := 0, locals := 0 })).room, s, m, ([.ref b, .int (nI j)] : List Value).toArray, below, meth, c) O (sk_A O sz) Q 2 0 0 M 0 [(0, .ref b), (1, .int (nI j))] [] := by
    intro Q rt
    have fin : ∀ x : Int32, x = (if j < L then xs j else 15518701 * (nI j + 3) + 10909) → sk_W l (p, e, (headSpec (sk_w yL_cell cL_cell 2 (some .int)) ({ frames := 0, cells := 0, slots := 0, locals := 0 })).room, s, m, ([.ref b, .int (nI j)] : List Value).toArray, below, meth, c) O (sk_A O sz) Q 2 0 0 M 22 [(0, .ref b), (1, .int (nI j))] [.int x] := fun x hx => by
      refine k_ldc C kc_L_162 dL_cell_22 ?_
      refine k_iand C dL_cell_24 ?_
      exact rt _ _ (by rw [hx]; rfl)
    refine k_iloadn C 1 dL_cell_0 rfl ?_
    refine k_aloadn C 0 dL_cell_1 rfl ?_
    refine k_xlen C hSX dL_cell_2 ?_
    refine k_cge C 12 dL_cell_3 (by decide) (fun z => ?_) (fun z => ?_)
    · rw [nI_leI (by omega) (by omega)] at z
      refine k_ldc C kc_L_161 dL_cell_12 ?_
      refine k_iloadn C 1 dL_cell_14 rfl ?_
      refine k_iconst C 3 dL_cell_15 (by decide) ?_
      refine k_iadd C dL_cell_16 ?_
      refine k_imul C dL_cell_17 ?_
      refine k_sipush C 10909 dL_cell_18 (by decide) ?_
      refine k_iadd C dL_cell_21 ?_
      exact fin _ (by rw [if_neg (by omega)])
    · rw [nI_leI (by omega) (by omega)] at z
      refine k_aloadn C 0 dL_cell_6 rfl ?_
      refine k_iloadn C 1 dL_cell_7 rfl ?_
      refine k_xald C hSX (j := j) (by omega) (by omega) dL_cell_8 ?_
      refine k_goto C 22 dL_cell_9 (by decide) ?_
      exact fin _ (by rw [if_pos (by omega)])
  refine body _ (fun r lv hr H locs ls hP hS hl => ?_) s.heap [] _ hP va_S.rf (lv_entry [.ref b, .int (nI j)] (Nat.le_of_ble_eq_true rfl))
  exact W.zret (ty := .int) B.exec B.bytes B.returns rfl (fun t ht hW => ⟨⟨r, M, rfl, ⟨hr, rfl⟩, by rw [ht]; exact hP, va_K.moved hW.alike C.2.2.1⟩, hS.F ht⟩) hS.2.2 dL_cell_25 hlocks
section
variable {l : Launch} {X : sk_X} {cc : ByteArray} {nL : Nat} {rm : Room} {O : sk_O} {A : Nat → Prop} {Q : State → Prop} {kc ks : Nat} {M : sk_M} {pc : Nat} {lv : List (Nat × Value)} {st : List Value}
theorem k_cell (C : sk_C X cc nL RL rm O A) (hO : sk_inj O) {b L j : Nat} {xs : Nat → Int32} (hX : sk_SX X A b L xs) (hL : L ≤ 260) (hj : j < 1000) (hbk : ∀ k, k < sk_n O → sk_ad O k ≠ b) (hcat : (st.map fun v => v.category).sum ≤ 8) (hR : (0 + 1 ≤ rm.frames ∧ 8 + (2 + 11) + 0 ≤ rm.locals) ∧ kc ≤ rm.cells ∧ ks ≤ rm.slots) (d : decode cc pc = .ok (.invokestatic 201, 3)) (K : sk_W l X O A Q nL kc ks M (pc + 3) lv (.int (cl_v L xs j) :: st)) : sk_W l X O A Q nL kc ks M pc lv (.int (nI j) :: .ref b :: st) := by
  intro H locs ls hP hS hl0
  have hF := sk_Ax C.2.2.2.2.1 C.2.2.2.2.2.1 hS.1
  have hbs : b < H.size := Nat.lt_of_lt_of_le hX.2.1 hS.1
  refine va_calli (va_runS (As := [.ref b, .int (nI j)]) (rest := st) C.1 (m_cell l hO M (b := b) (L := L) (j := j) (sz := H.size) (xs := xs) hL hj) ⟨sk_cb C yvL_cell ml_L_201 ⟨rfl, rfl⟩ hR.1, C.1.2.2.2.2 _ vsL_cell⟩ ⟨sk_blindE, fun U hU hW => ⟨(sk_pre (as := [.ref b, .int (nI j)]) C hP hS U hU hW).1, (sk_pre (as := [.ref b, .int (nI j)]) C hP hS U hU hW).2.1, (sk_pre (as := [.ref b, .int (nI j)]) C hP hS U hU hW).2.2.1, (sk_pre (as := [.ref b, .int (nI j)]) C hP hS U hU hW).2.2.2, va_X.moved hW.alike (va_X.kept hX.1 (by rw [hU]; exact hS.2.1 b hX.2.1 hX.2.2)), hbs, fun z => z.elim (fun ⟨k, h1, h2⟩ => hbk k h1 h2.symm) (fun z => absurd hbs (Nat.not_lt.mpr z))⟩⟩ rfl rfl hl0.1 rfl (lv_room hcat) d ⟨by rw [C.2.1]; exact hR.2.1, by rw [C.2.1]; exact hR.2.2⟩) hS (fun q _ h => hF q h) hF (fun x u t H1 locs1 ht hvm hw hB hz1 hk1 hS1 => ?_)
  obtain ⟨rfl, rfl⟩ := hw
  exact K H1 locs1 ls (by rw [← ht]; exact hB.1) hS1 hl0
end
def th (v : Int32) : Prop := v = -9999001 ∨ v = -9999002 ∨ v = -9999003
theorem m_thrown (l : Launch) {O : sk_O} (hO : sk_inj O) (M : sk_M) (v : Int32) : sk_Mi l yL_thrown (sk_w yL_thrown cL_thrown 1 (some .boolean)) ({ frames := 0, cells := 0, slots := 0, locals := 0 }) O [.int v] M (fun r M2 => (r = 1 ∧ th v ∨ r = 0 ∧ ¬ th v) ∧ M2 = M) := by
  refine sk_mi (by decide) ⟨rfl, rfl⟩ hO (Nat.le_of_ble_eq_true rfl) (fun X A Q C ret => ?_)
  show sk_W l X O A Q 1 0 0 M 0 [(0, .int v)] []
  have y : th v → sk_W l X O A Q 1 0 0 M 18 [(0, .int v)] [] := fun h => by
    refine k_iconst C 1 dL_thrown_18 (by decide) ?_
    refine k_goto C 23 dL_thrown_19 (by decide) ?_
    exact ret _ _ _ _ dL_thrown_23 rfl ⟨Or.inl ⟨rfl, h⟩, rfl⟩
  refine k_iloadn C 0 dL_thrown_0 rfl ?_
  refine k_ldc C kc_L_15 dL_thrown_1 ?_
  refine k_ceq C 18 dL_thrown_3 (by decide) (fun e => y (Or.inl e)) (fun e1 => ?_)
  refine k_iloadn C 0 dL_thrown_6 rfl ?_
  refine k_ldc C kc_L_18 dL_thrown_7 ?_
  refine k_ceq C 18 dL_thrown_9 (by decide) (fun e => y (Or.inr (Or.inl e))) (fun e2 => ?_)
  refine k_iloadn C 0 dL_thrown_12 rfl ?_
  refine k_ldc C kc_L_24 dL_thrown_13 ?_
  refine k_cne C 22 dL_thrown_15 (by decide) (fun e3 => ?_) (fun e => y (Or.inr (Or.inr e)))
  refine k_iconst C 0 dL_thrown_22 (by decide) ?_
  exact ret _ _ _ _ dL_thrown_23 rfl ⟨Or.inr ⟨rfl, fun z => z.elim e1 (fun z => z.elim e2 e3)⟩, rfl⟩
