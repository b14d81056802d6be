/-! small facts that the walks use -/
theorem sk_loop {P : Nat → Prop} (N : Nat) (h : ∀ i, i ≤ N → (i < N → P (i + 1)) → P i) : ∀ i, i ≤ N → P i := by
  have key : ∀ d i, i + d = N → P i := by
    intro d
    induction d with
    | zero => intro i hi; exact h i (by omega) (fun hlt => absurd hlt (by omega))
    | succ d ih => intro i hi; exact h i (by omega) (fun _ => ih (i + 1) (by omega))
  intro i hi
  exact key (N - i) i (by omega)
theorem sk_nadd {x y : Int32} {a b : Nat} (hx : x = nI a) (hy : y = nI b) : x + y = nI (a + b) := by rw [hx, hy, nI_add]
theorem sk_nmul {x y : Int32} {a b : Nat} (hx : x = nI a) (hy : y = nI b) : x * y = nI (a * b) := by rw [hx, hy, pk_mul]
theorem sk_nsub {x y : Int32} {a b : Nat} (hx : x = nI a) (hy : y = nI b) (h : b ≤ a) : x - y = nI (a - b) := by rw [hx, hy, pk_sub h]
theorem sk_nrem {x y : Int32} {a b : Nat} (hx : x = nI a) (hy : y = nI b) (ha : a < 2 ^ 31) (h0 : 0 < b ∧ b < 2 ^ 31) : x - x / y * y = nI (a % b) := by rw [hx, hy]; exact pk_rem ha h0.1 h0.2
theorem sk_ndiv {x y : Int32} {a b : Nat} (hx : x = nI a) (hy : y = nI b) (ha : a < 2 ^ 31) (h0 : 0 < b ∧ b < 2 ^ 31) : x / y = nI (a / b) := by rw [hx, hy]; exact pk_div ha h0.1 h0.2
theorem sk_dec {x : Int32} {a : Nat} (hx : x = nI a) (h : 1 ≤ a) : x + Int32.ofInt (-1) = nI (a - 1) := by
  obtain ⟨b, rfl⟩ : ∃ b, a = b + 1 := ⟨a - 1, by omega⟩
  rw [hx]
  exact pk_m1 b
theorem sk_toI {x y : Int32} (h : x.toInt = y.toInt) : x = y := by
  exact Int32.toInt_inj.mp h
theorem sk_qI {x y : Int32} {a b : Nat} (hx : x = nI a) (hy : y = nI b) (ha : a < 2 ^ 31) (hb : b < 2 ^ 31) : x = y ↔ a = b := by rw [hx, hy]; exact nI_eq ha hb
theorem sk_lI {x y : Int32} {a b : Nat} (hx : x = nI a) (hy : y = nI b) (ha : a < 2 ^ 31) (hb : b < 2 ^ 31) : x < y ↔ a < b := by rw [hx, hy]; exact nI_ltI ha hb
theorem sk_eI {x y : Int32} {a b : Nat} (hx : x = nI a) (hy : y = nI b) (ha : a < 2 ^ 31) (hb : b < 2 ^ 31) : x ≤ y ↔ a ≤ b := by rw [hx, hy]; exact nI_leI ha hb
theorem sk_lk : ∀ (ps : List (Int × Int)) (df x : Int), (∀ q ∈ ps, ¬ x = q.1) → Op.lookupswitch.offset ps df x = df
  | [], _, _, _ => rfl
  | (a, o) :: r, df, x, h => by
    rw [Op.lookupswitch.offset_cons, if_neg (fun e => h (a, o) List.mem_cons_self e.symm)]
    exact sk_lk r df x (fun q hq => h q (List.mem_cons_of_mem _ hq))
section SKS
variable {l : Launch} {X : sk_X} {cc : ByteArray} {nL : Nat} {own : String} {rm : Room} {O : sk_O} {A : Nat → Prop} {Q : State → Prop} {kc ks : Nat} {M : sk_M} {pc : Nat} {lv : List (Nat × Value)} {st : List Value}
theorem k_alen (C : sk_C X cc nL own rm O A) {k z : Nat} {r : Nat → Option Nat} (h : sk_is O k (0, z, r)) (d : decode cc pc = .ok (.arraylength, 1)) (K : sk_W l X O A Q nL kc ks M (pc + 1) lv (.int (nI z) :: st)) : sk_W l X O A Q nL kc ks M pc lv (.ref (sk_ad O k) :: st) := by
  intro H locs ls hP hS hl
  have he := sk_at (O := O) (M := M) h.1
  rw [h.2] at he
  exact va_alen C.1.1 C.1.2.1 C.2.2.1 hP k 0 he (ty := .int) rfl rfl d (K H locs ls hP hS hl)
end SKS
def sk_fm (M : sk_M) (k : Nat) (v : Int32) (i : Nat) : sk_M := sk_mr M k (fun j => if j < i then v else M k j)
theorem sk_fm_0 {M : sk_M} {k : Nat} {v : Int32} : sk_fm M k v 0 = M := by
  funext a b
  unfold sk_fm sk_mr
  by_cases h : a = k
  · rw [if_pos h, h]; exact if_neg (Nat.not_lt_zero b)
  · rw [if_neg h]
theorem sk_fm_s {M : sk_M} {k : Nat} {v : Int32} {i : Nat} : sk_ms (sk_fm M k v i) k i v = sk_fm M k v (i + 1) := by
  funext a b
  unfold sk_fm sk_ms sk_mr
  by_cases h : a = k
  · subst h
    by_cases q : b = i
    · subst q; simp
    · have : (b < i + 1) = (b < i) := by rw [Nat.lt_succ_iff_lt_or_eq]; simp [q]
      simp [q, this]
  · simp [h]
/-! LAYOUT: which numbers the objects of a kind have -/
def sk_no : Nat → Option Nat := fun _ => none
def sk_isCr (k : Nat) : Nat → Option Nat := fun j => match j with
  | _ => none
def sk_isC (O : sk_O) (k : Nat) : Prop := sk_is O k (0 + 4, 5, sk_isCr k)
def sk_isPr (k : Nat) : Nat → Option Nat := fun j => match j with
  | 0 => some (k + 1)
  | 1 => some (k + 2)
  | 2 => some (k + 3)
  | 3 => some (k + 4)
  | 4 => some (k + 5)
  | 5 => some (k + 6)
  | 6 => some (k + 7)
  | 7 => some (k + 8)
  | 8 => some (k + 9)
  | _ => none
def sk_isP (O : sk_O) (k : Nat) : Prop := sk_is O k (2 + 4, 11, sk_isPr k) ∧ sk_is O (k + 1) (0, 12, sk_no) ∧ sk_is O (k + 2) (0, 12, sk_no) ∧ sk_is O (k + 3) (0, 12, sk_no) ∧ sk_is O (k + 4) (0, 12, sk_no) ∧ sk_is O (k + 5) (0, 12, sk_no) ∧ sk_is O (k + 6) (0, 36, sk_no) ∧ sk_is O (k + 7) (0, 36, sk_no) ∧ sk_is O (k + 8) (0, 36, sk_no) ∧ sk_is O (k + 9) (0, 3, sk_no)
def sk_isTr (k : Nat) : Nat → Option Nat := fun j => match j with
  | 0 => some (k + 1)
  | _ => none
def sk_isT (O : sk_O) (k : Nat) : Prop := sk_is O k (6 + 4, 3, sk_isTr k) ∧ sk_is O (k + 1) (0, 120, sk_no)
def sk_isKr (k : Nat) : Nat → Option Nat := fun j => match j with
  | 0 => some (k + 1)
  | 1 => some (k + 2)
  | 2 => some (k + 3)
  | 3 => some (k + 4)
  | 4 => some (k + 5)
  | 5 => some (k + 6)
  | 6 => some (k + 7)
  | 7 => some (k + 8)
  | _ => none
def sk_isK (O : sk_O) (k : Nat) : Prop := sk_is O k (3 + 4, 17, sk_isKr k) ∧ sk_is O (k + 1) (0, 36, sk_no) ∧ sk_is O (k + 2) (0, 36, sk_no) ∧ sk_is O (k + 3) (0, 12, sk_no) ∧ sk_is O (k + 4) (0, 12, sk_no) ∧ sk_is O (k + 5) (0, 12, sk_no) ∧ sk_is O (k + 6) (0, 12, sk_no) ∧ sk_is O (k + 7) (0, 12, sk_no) ∧ sk_is O (k + 8) (0, 12, sk_no)
def sk_isDr (k : Nat) : Nat → Option Nat := fun j => match j with
  | 0 => some (k + 1)
  | 1 => some (k + 2)
  | _ => none
def sk_isD (O : sk_O) (k : Nat) : Prop := sk_is O k (4 + 4, 3, sk_isDr k) ∧ sk_is O (k + 1) (0, 4, sk_no) ∧ sk_is O (k + 2) (0, 4, sk_no)
def sk_isSr (k : Nat) : Nat → Option Nat := fun j => match j with
  | 0 => some (k + 1)
  | 1 => some (k + 2)
  | _ => none
def sk_isS_programs (k : Nat) : Nat → Option Nat := fun j => some (k + 3 + 10 * j)
def sk_isS (O : sk_O) (k : Nat) : Prop := sk_is O k (5 + 4, 3, sk_isSr k) ∧ (sk_is O (k + 1) (2, 4, sk_isS_programs k) ∧ ∀ j, j < 4 → sk_isP O (k + 3 + 10 * j)) ∧ sk_is O (k + 2) (0, 5, sk_no)
def sk_isHr (k : Nat) : Nat → Option Nat := fun j => match j with
  | 0 => some (k + 1)
  | _ => none
def sk_isH_ring (k : Nat) : Nat → Option Nat := fun j => some (k + 2 + 43 * j)
def sk_isH (O : sk_O) (k : Nat) : Prop := sk_is O k (1 + 4, 3, sk_isHr k) ∧ (sk_is O (k + 1) (3, 14, sk_isH_ring k) ∧ ∀ j, j < 14 → sk_isS O (k + 2 + 43 * j))
def sk_isXr (k : Nat) : Nat → Option Nat := fun j => match j with
  | 0 => some (k + 1)
  | 1 => some (k + 44)
  | 2 => some (k + 648)
  | 3 => some (k + 735)
  | 4 => some (k + 736)
  | 5 => some (k + 738)
  | 6 => some (k + 747)
  | 7 => some (k + 750)
  | 8 => some (k + 751)
  | 9 => some (k + 794)
  | _ => none
def sk_isX_slots (k : Nat) : Nat → Option Nat := fun j => some (k + 649 + 43 * j)
def sk_isX (O : sk_O) (k : Nat) : Prop := sk_is O k (7 + 4, 10, sk_isXr k) ∧ sk_isS O (k + 1) ∧ sk_isH O (k + 44) ∧ (sk_is O (k + 648) (3, 2, sk_isX_slots k) ∧ ∀ j, j < 2 → sk_isS O (k + 649 + 43 * j)) ∧ sk_is O (k + 735) (1, 2, sk_no) ∧ sk_isT O (k + 736) ∧ sk_isK O (k + 738) ∧ sk_isD O (k + 747) ∧ sk_isC O (k + 750) ∧ sk_isS O (k + 751) ∧ sk_isP O (k + 794)
def sk_isMr (k : Nat) : Nat → Option Nat := fun j => match j with
  | 1 => some (k + 1)
  | 3 => some (k + 2)
  | 4 => some (k + 3)
  | 5 => some (k + 4)
  | 7 => some (k + 5)
  | 8 => some (k + 6)
  | 9 => some (k + 7)
  | 10 => some (k + 8)
  | 11 => some (k + 9)
  | 12 => some (k + 10)
  | 13 => some (k + 11)
  | 14 => some (k + 12)
  | 15 => some (k + 13)
  | 19 => some (k + 14)
  | 20 => some (k + 15)
  | _ => none
def sk_isM (O : sk_O) (k : Nat) : Prop := sk_is O k (8 + 4, 22, sk_isMr k) ∧ sk_is O (k + 1) (0, 120, sk_no) ∧ sk_is O (k + 2) (0, 938, sk_no) ∧ sk_is O (k + 3) (0, 938, sk_no) ∧ sk_is O (k + 4) (0, 13132, sk_no) ∧ sk_is O (k + 5) (0, 1876, sk_no) ∧ sk_is O (k + 6) (1, 2, sk_no) ∧ sk_is O (k + 7) (0, 233, sk_no) ∧ sk_is O (k + 8) (0, 36, sk_no) ∧ sk_is O (k + 9) (0, 36, sk_no) ∧ sk_is O (k + 10) (0, 12, sk_no) ∧ sk_is O (k + 11) (0, 12, sk_no) ∧ sk_is O (k + 12) (0, 12, sk_no) ∧ sk_is O (k + 13) (0, 12, sk_no) ∧ sk_is O (k + 14) (0, 4, sk_no) ∧ sk_is O (k + 15) (0, 4, sk_no)
