/-! The start: the model's layout -/
def sh_M (k i : Nat) : sk_S := if i = 0 then (8 + 4, 22, sk_isMr k) else if i = 1 then (0, 120, sk_no) else if i < 4 then (0, 938, sk_no) else if i = 4 then (0, 13132, sk_no) else if i = 5 then (0, 1876, sk_no) else if i = 6 then (1, 2, sk_no) else if i = 7 then (0, 233, sk_no) else if i < 10 then (0, 36, sk_no) else if i < 14 then (0, 12, sk_no) else (0, 4, sk_no)
theorem isM_of {O : sk_O} {k : Nat} (h : ∀ i, i < 16 → sk_sh O (k + i) = sh_M k i) (hn : k + 16 ≤ sk_n O) : sk_isM O k :=
  ⟨⟨by omega, h 0 (by decide)⟩, ⟨by omega, h 1 (by decide)⟩, ⟨by omega, h 2 (by decide)⟩, ⟨by omega, h 3 (by decide)⟩, ⟨by omega, h 4 (by decide)⟩, ⟨by omega, h 5 (by decide)⟩, ⟨by omega, h 6 (by decide)⟩, ⟨by omega, h 7 (by decide)⟩, ⟨by omega, h 8 (by decide)⟩, ⟨by omega, h 9 (by decide)⟩, ⟨by omega, h 10 (by decide)⟩, ⟨by omega, h 11 (by decide)⟩, ⟨by omega, h 12 (by decide)⟩, ⟨by omega, h 13 (by decide)⟩, ⟨by omega, h 14 (by decide)⟩, ⟨by omega, h 15 (by decide)⟩⟩
def sh_0 (q : Nat) : sk_S := if q < 804 then sh_X 0 q else sh_M 804 (q - 804)
/-- the objects of the law: 804 of the sheet, 16 of the model, from the address B on -/
def sk_O0 (G : va_G) (B : Nat) (cy : Nat → ClassId) (st : Nat → Nat) : sk_O := (G, fun i => B + i, sh_0, 820, cy, st)
theorem O0_X {G : va_G} {B : Nat} {cy : Nat → ClassId} {st : Nat → Nat} : sk_isX (sk_O0 G B cy st) 0 := isX_of (fun i hi => by
  show sh_0 (0 + i) = _
  unfold sh_0
  rw [if_pos (by omega), Nat.zero_add]) (by show 0 + 804 ≤ 820; omega)
theorem O0_M {G : va_G} {B : Nat} {cy : Nat → ClassId} {st : Nat → Nat} : sk_isM (sk_O0 G B cy st) 804 := isM_of (fun i hi => by
  show sh_0 (804 + i) = _
  unfold sh_0
  rw [if_neg (by omega), Nat.add_sub_cancel_left]) (by show 804 + 16 ≤ 820; omega)
theorem O0_inj {G : va_G} {B : Nat} {cy : Nat → ClassId} {st : Nat → Nat} : sk_inj (sk_O0 G B cy st) := fun i j hi hj h => by
  have h1 : B + i = B + j := h
  omega
theorem O0_ad {G : va_G} {B : Nat} {cy : Nat → ClassId} {st : Nat → Nat} (i : Nat) : sk_ad (sk_O0 G B cy st) i = B + i := rfl
