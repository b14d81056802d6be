/-! The start: the memory of two sheets, the layout -/
def sk_M0 : sk_M := fun a => if (a % 804 = 3 ∨ (48 ≤ a % 804 ∧ a % 804 < 648 ∧ (a % 804 - 48) % 43 = 0) ∨ a % 804 = 651 ∨ a % 804 = 694 ∨ a % 804 = 753) then sk_s0 else fun _ => 0
theorem M0_0 {a i : Nat} (k : Nat) (hk : k = 0 ∨ k = 804) (ha : a = k + i) (hi : i < 804) (g : ¬ (i = 3 ∨ (48 ≤ i ∧ i < 648 ∧ (i - 48) % 43 = 0) ∨ i = 651 ∨ i = 694 ∨ i = 753)) : sk_M0 a = fun _ => 0 := by
  have e : a % 804 = i := by rcases hk with rfl | rfl <;> omega
  unfold sk_M0
  rw [e, if_neg g]
theorem M0_s {a i : Nat} (k : Nat) (hk : k = 0 ∨ k = 804) (ha : a = k + i) (hi : i < 804) (g : i = 3 ∨ (48 ≤ i ∧ i < 648 ∧ (i - 48) % 43 = 0) ∨ i = 651 ∨ i = 694 ∨ i = 753) : sk_M0 a = sk_s0 := by
  have e : a % 804 = i := by rcases hk with rfl | rfl <;> omega
  unfold sk_M0
  rw [e, if_pos g]
theorem M0_z {k a : Nat} (hk : k = 0 ∨ k = 804) (h1 : k ≤ a) (h2 : a < k + 804) (g : ¬ (a = k + 3 ∨ (k + 48 ≤ a ∧ a < k + 648 ∧ (a - k - 48) % 43 = 0) ∨ a = k + 651 ∨ a = k + 694 ∨ a = k + 753)) : sk_M0 a = fun _ => 0 :=
  M0_0 (i := a - k) k hk (by omega) (by omega) (by omega)
theorem M0_y {k a : Nat} (hk : k = 0 ∨ k = 804) (h1 : k ≤ a) (h2 : a < k + 804) (g : a = k + 3 ∨ (k + 48 ≤ a ∧ a < k + 648 ∧ (a - k - 48) % 43 = 0) ∨ a = k + 651 ∨ a = k + 694 ∨ a = k + 753) : sk_M0 a = sk_s0 :=
  M0_s (i := a - k) k hk (by omega) (by omega) (by omega)
theorem M0_X {k : Nat} (hk : k = 0 ∨ k = 804) : sk_mX sk_M0 k := by
  refine ⟨⟨fun i h1 h2 h3 => M0_z hk (by omega) (by omega) (by omega), M0_y hk (by omega) (by omega) (by omega)⟩, M0_z hk (by omega) (by omega) (by omega), fun j hj => ⟨fun i h1 h2 h3 => M0_z hk (by omega) (by omega) (by omega), M0_y hk (by omega) (by omega) (by omega)⟩, fun j hj => ⟨fun i h1 h2 h3 => M0_z hk (by omega) (by omega) (by omega), M0_y hk (by omega) (by omega) (by omega)⟩, fun i h1 h2 => M0_z hk (by omega) (by omega) (by omega), ⟨fun i h1 h2 h3 => M0_z hk (by omega) (by omega) (by omega), M0_y hk (by omega) (by omega) (by omega)⟩, fun i h1 h2 => M0_z hk (by omega) (by omega) (by omega)⟩
def sk_m8 : Nat → Int32 := upd (upd (upd (upd (upd (fun _ => 0) 1 100) 2 3) 3 7) 4 3) 5 10
def sk_S0 : rl_T := rl_mk sk_m8 (fun _ => 0) (fun _ => 0) (fun _ => 0) (fun _ => 0) 0 0 0
theorem s0_v : ∀ j, j < 5 → sk_s0 j = sk_m8 (1 + j) := by
  intro j hj
  rcases (show j = 0 ∨ j = 1 ∨ j = 2 ∨ j = 3 ∨ j = 4 by omega) with rfl | rfl | rfl | rfl | rfl <;> rfl
theorem S0_C {k : Nat} (hk : k = 0 ∨ k = 804) : rl_C sk_M0 k sk_S0 := by
  refine ⟨⟨by decide, by rw [M0_z hk (by omega) (by omega) (by omega)]; rfl, rfl, fun j hj => ?_, fun s hs => absurd hs (Nat.not_lt_zero _)⟩, ⟨0, by decide, by rw [M0_z hk (by omega) (by omega) (by omega)]; rfl, by rw [M0_z hk (by omega) (by omega) (by omega)]; rfl, Nat.zero_le _, fun i hi => absurd hi (Nat.not_lt_zero _)⟩, fun j hj => ?_, Nat.zero_le _, by rw [M0_z hk (by omega) (by omega) (by omega)]; rfl, fun i hi => absurd hi (Nat.not_lt_zero _)⟩
  · rw [M0_y hk (by omega) (by omega) (by omega)]
    exact s0_v j hj
  · refine ⟨?_, Or.inl rfl⟩
    rw [M0_z hk (a := k + 735) (by omega) (by omega) (by omega)]
    rfl
theorem S0_iw : iw sk_S0 := by
  refine ⟨⟨by decide, rfl, fun j hj => ?_, fun s hs => absurd hs (Nat.not_lt_zero _)⟩, fun i hi => absurd hi (Nat.not_lt_zero _), fun j hj => Or.inl rfl⟩
  show st_fi (nI j) (sk_m8 (1 + j))
  rcases (show j = 0 ∨ j = 1 ∨ j = 2 ∨ j = 3 ∨ j = 4 by omega) with rfl | rfl | rfl | rfl | rfl <;> decide
-- the layout
def sh_P (k i : Nat) : sk_S := if i = 0 then (2 + 4, 11, sk_isPr k) else if i < 6 then (0, 12, sk_no) else if i < 9 then (0, 36, sk_no) else (0, 3, sk_no)
def sh_S (k i : Nat) : sk_S := if i = 0 then (5 + 4, 3, sk_isSr k) else if i = 1 then (2, 4, sk_isS_programs k) else if i = 2 then (0, 5, sk_no) else sh_P (k + 3 + 10 * ((i - 3) / 10)) ((i - 3) % 10)
def sh_H (k i : Nat) : sk_S := if i = 0 then (1 + 4, 3, sk_isHr k) else if i = 1 then (3, 14, sk_isH_ring k) else sh_S (k + 2 + 43 * ((i - 2) / 43)) ((i - 2) % 43)
def sh_b (k i : Nat) : sk_S := if i = 735 then (1, 2, sk_no) else if i = 736 then (6 + 4, 3, sk_isTr (k + 736)) else if i = 737 then (0, 120, sk_no) else if i = 738 then (3 + 4, 17, sk_isKr (k + 738)) else if i < 741 then (0, 36, sk_no) else if i < 747 then (0, 12, sk_no) else if i = 747 then (4 + 4, 3, sk_isDr (k + 747)) else if i < 750 then (0, 4, sk_no) else (0 + 4, 5, sk_isCr (k + 750))
def sh_X (k i : Nat) : sk_S := if i = 0 then (7 + 4, 10, sk_isXr k) else if i < 44 then sh_S (k + 1) (i - 1) else if i < 648 then sh_H (k + 44) (i - 44) else if i = 648 then (3, 2, sk_isX_slots k) else if i < 735 then sh_S (k + 649 + 43 * ((i - 649) / 43)) ((i - 649) % 43) else if i < 751 then sh_b k i else if i < 794 then sh_S (k + 751) (i - 751) else sh_P (k + 794) (i - 794)
theorem isP_of {O : sk_O} {k : Nat} (h : ∀ i, i < 10 → sk_sh O (k + i) = sh_P k i) (hn : k + 10 ≤ sk_n O) : sk_isP O k :=
  ⟨⟨by omega, h 0 (by decide)⟩, ⟨by omega, h 1 (by decide)⟩, ⟨by omega, h 2 (by decide)⟩, ⟨by omega, h 3 (by decide)⟩, ⟨by omega, h 4 (by decide)⟩, ⟨by omega, h 5 (by decide)⟩, ⟨by omega, h 6 (by decide)⟩, ⟨by omega, h 7 (by decide)⟩, ⟨by omega, h 8 (by decide)⟩, ⟨by omega, h 9 (by decide)⟩⟩
theorem isS_of {O : sk_O} {k : Nat} (h : ∀ i, i < 43 → sk_sh O (k + i) = sh_S k i) (hn : k + 43 ≤ sk_n O) : sk_isS O k := by
  refine ⟨⟨by omega, h 0 (by decide)⟩, ⟨⟨by omega, h 1 (by decide)⟩, fun j hj => isP_of (fun i hi => ?_) (by omega)⟩, ⟨by omega, h 2 (by decide)⟩⟩
  have e := h (3 + 10 * j + i) (by omega)
  rw [show k + 3 + 10 * j + i = k + (3 + 10 * j + i) from by omega, e]
  unfold sh_S
  rw [if_neg (by omega), if_neg (by omega), if_neg (by omega), show (3 + 10 * j + i - 3) / 10 = j from by omega, show (3 + 10 * j + i - 3) % 10 = i from by omega]
theorem isH_of {O : sk_O} {k : Nat} (h : ∀ i, i < 604 → sk_sh O (k + i) = sh_H k i) (hn : k + 604 ≤ sk_n O) : sk_isH O k := by
  refine ⟨⟨by omega, h 0 (by decide)⟩, ⟨by omega, h 1 (by decide)⟩, fun j hj => isS_of (fun i hi => ?_) (by omega)⟩
  have e := h (2 + 43 * j + i) (by omega)
  rw [show k + 2 + 43 * j + i = k + (2 + 43 * j + i) from by omega, e]
  unfold sh_H
  rw [if_neg (by omega), if_neg (by omega), show (2 + 43 * j + i - 2) / 43 = j from by omega, show (2 + 43 * j + i - 2) % 43 = i from by omega]
theorem isX_of {O : sk_O} {k : Nat} (h : ∀ i, i < 804 → sk_sh O (k + i) = sh_X k i) (hn : k + 804 ≤ sk_n O) : sk_isX O k := by
  have hb : ∀ i, 735 ≤ i → i < 751 → sk_sh O (k + i) = sh_b k i := fun i h1 h2 => by
    rw [h i (by omega)]
    unfold sh_X
    rw [if_neg (by omega), if_neg (by omega), if_neg (by omega), if_neg (by omega), if_neg (by omega), if_pos h2]
  refine ⟨⟨by omega, h 0 (by decide)⟩, isS_of (fun i hi => ?_) (by omega), isH_of (fun i hi => ?_) (by omega), ⟨⟨by omega, ?_⟩, fun j hj => isS_of (fun i hi => ?_) (by omega)⟩, ⟨by omega, hb 735 (by decide) (by decide)⟩, ⟨⟨by omega, hb 736 (by decide) (by decide)⟩, ⟨by omega, hb 737 (by decide) (by decide)⟩⟩,
    ⟨⟨by omega, hb 738 (by decide) (by decide)⟩, ⟨by omega, hb 739 (by decide) (by decide)⟩, ⟨by omega, hb 740 (by decide) (by decide)⟩, ⟨by omega, hb 741 (by decide) (by decide)⟩, ⟨by omega, hb 742 (by decide) (by decide)⟩, ⟨by omega, hb 743 (by decide) (by decide)⟩, ⟨by omega, hb 744 (by decide) (by decide)⟩, ⟨by omega, hb 745 (by decide) (by decide)⟩, ⟨by omega, hb 746 (by decide) (by decide)⟩⟩,
    ⟨⟨by omega, hb 747 (by decide) (by decide)⟩, ⟨by omega, hb 748 (by decide) (by decide)⟩, ⟨by omega, hb 749 (by decide) (by decide)⟩⟩, ⟨by omega, hb 750 (by decide) (by decide)⟩, isS_of (fun i hi => ?_) (by omega), isP_of (fun i hi => ?_) (by omega)⟩
  · have e := h (1 + i) (by omega)
    rw [show k + 1 + i = k + (1 + i) from by omega, e]
    unfold sh_X
    rw [if_neg (by omega), if_pos (by omega), show 1 + i - 1 = i from by omega]
  · have e := h (44 + i) (by omega)
    rw [show k + 44 + i = k + (44 + i) from by omega, e]
    unfold sh_X
    rw [if_neg (by omega), if_neg (by omega), if_pos (by omega), show 44 + i - 44 = i from by omega]
  · rw [h 648 (by decide)]
    rfl
  · have e := h (649 + 43 * j + i) (by omega)
    rw [show k + 649 + 43 * j + i = k + (649 + 43 * j + i) from by omega, e]
    unfold sh_X
    rw [if_neg (by omega), if_neg (by omega), if_neg (by omega), if_neg (by omega), if_pos (by omega), show (649 + 43 * j + i - 649) / 43 = j from by omega, show (649 + 43 * j + i - 649) % 43 = i from by omega]
  · have e := h (751 + i) (by omega)
    rw [show k + 751 + i = k + (751 + i) from by omega, e]
    unfold sh_X
    rw [if_neg (by omega), if_neg (by omega), if_neg (by omega), if_neg (by omega), if_neg (by omega), if_neg (by omega), if_pos (by omega), show 751 + i - 751 = i from by omega]
  · have e := h (794 + i) (by omega)
    rw [show k + 794 + i = k + (794 + i) from by omega, e]
    unfold sh_X
    rw [if_neg (by omega), if_neg (by omega), if_neg (by omega), if_neg (by omega), if_neg (by omega), if_neg (by omega), if_neg (by omega), show 794 + i - 794 = i from by omega]
def sh_0 (q : Nat) : sk_S := if q < 804 then sh_X 0 q else sh_X 804 (q - 804)
/-- the objects of the law: 804 of each sheet, from the address B on -/
def sk_O0 (G : va_G) (B : Nat) (cy : Nat → ClassId) (st : Nat → Nat) : sk_O := (G, fun i => B + i, sh_0, 1608, cy, st)
theorem O0_X {G : va_G} {B : Nat} {cy : Nat → ClassId} {st : Nat → Nat} : sk_isX (sk_O0 G B cy st) 0 := isX_of (fun i hi => by
  show sh_0 (0 + i) = _
  unfold sh_0
  rw [if_pos (by omega), Nat.zero_add]) (by show 0 + 804 ≤ 1608; omega)
theorem O0_Y {G : va_G} {B : Nat} {cy : Nat → ClassId} {st : Nat → Nat} : sk_isX (sk_O0 G B cy st) 804 := isX_of (fun i hi => by
  show sh_0 (804 + i) = _
  unfold sh_0
  rw [if_neg (by omega), Nat.add_sub_cancel_left]) (by show 804 + 804 ≤ 1608; omega)
theorem O0_inj {G : va_G} {B : Nat} {cy : Nat → ClassId} {st : Nat → Nat} : sk_inj (sk_O0 G B cy st) := fun i j hi hj h => by
  have h1 : B + i = B + j := h
  omega
theorem O0_ad {G : va_G} {B : Nat} {cy : Nat → ClassId} {st : Nat → Nat} (i : Nat) : sk_ad (sk_O0 G B cy st) i = B + i := rfl
