/-! Numbers, and which skaters, elements and parts there are -/
theorem ub {n h : Nat} {H : Int32} (hH : H = nI h) (hn : n < 2147483648) (hh : h < n) : ¬ (¬ nI n < 0 ∧ ¬ H < nI n) := fun z => z.2 (by rw [hH, nI_ltI (by omega) (by omega)]; exact hh)
theorem ul {n h : Nat} {H : Int32} (hH : H = nI h) (hn : n < 2147483648) (hh : h ≤ n) : ¬ (¬ nI n < 0 ∧ ¬ H ≤ nI n) := fun z => z.2 (by rw [hH, nI_leI (by omega) (by omega)]; exact hh)
theorem wb {n h : Nat} {H : Int32} (hH : H = nI h) (hn : h < 2147483648) (hh : n ≤ h) : ¬ nI n < 0 ∧ ¬ H < nI n := ⟨nI_pos (by omega), by rw [hH, nI_ltI (by omega) (by omega)]; omega⟩
theorem wl {n h : Nat} {H : Int32} (hH : H = nI h) (hn : h < 2147483648) (hh : n < h) : ¬ nI n < 0 ∧ ¬ H ≤ nI n := ⟨nI_pos (by omega), by rw [hH, nI_leI (by omega) (by omega)]; omega⟩
theorem un {n : Nat} (hn : n < 1000) : (-1 : Int32) - nI n < 0 := by
  have h1 : (nI n).toInt = n := Int32.toInt_ofNat_of_lt (by omega)
  have h2 : (-1 : Int32).toInt = -1 := rfl
  rw [Int32.lt_iff_toInt_lt, Int32.toInt_sub, h1, h2, Int.bmod_eq_of_le (by simp; omega) (by simp; omega)]
  show (-1 : Int) - n < 0
  omega
/-- what is held, in numbers -/
def so (S : rl_T) : Prop := S.m ≤ 4 ∧ S.r 0 = nI S.m ∧ ∀ s, s < S.m → S.r (6 + 233 * s) = nI (mo_c S.r s) ∧ mo_c S.r s ≤ 12 ∧ ∀ e, e < mo_c S.r s → mo_np S.r s e = nI (mo_n S.r s e) ∧ mo_n S.r s e ≤ 3
theorem rl_C.so {M : sk_M} {k : Nat} {S : rl_T} (C : rl_C M k S) : so S := by
  have R := C.1
  refine ⟨R.1, R.2.2.1, fun s hs => ?_⟩
  have P := R.2.2.2.2 s hs
  have hn := P.n
  exact ⟨hn.2.1.symm.trans hn.2.2.2, hn.2.2.1, fun e he => (P.E he).n.2⟩
theorem so.hs {S : rl_T} (h : so S) {f : Nat} (hf : f < 2147483648) : mo_hs S.r (nI f) ↔ f < S.m := by
  show (¬ nI f < 0 ∧ ¬ S.r 0 ≤ nI f) ↔ _
  have h4 := h.1
  rw [h.2.1, nI_leI (by omega) (by omega)]
  exact ⟨fun z => by omega, fun z => ⟨nI_pos (by omega), by omega⟩⟩
theorem so.he {S : rl_T} (h : so S) {s e : Nat} (hs : s < S.m) (he : e < 2147483648) : mo_he S.r (nI s) (nI e) ↔ e < mo_c S.r s := by
  have h4 := h.1
  obtain ⟨h1, h2, -⟩ := h.2.2 s hs
  show (mo_hs S.r (nI s) ∧ ¬ nI e < 0 ∧ ¬ S.r (6 + 233 * (nI s).toNatClampNeg) ≤ nI e) ↔ _
  rw [h.hs (by omega), nI_clamp (by omega), h1, nI_leI (by omega) (by omega)]
  exact ⟨fun z => by omega, fun z => ⟨hs, nI_pos (by omega), by omega⟩⟩
theorem so.hp {S : rl_T} (h : so S) {s e p : Nat} (hs : s < S.m) (he : e < mo_c S.r s) (hp : p < 2147483648) : mo_hp S.r (nI s) (nI e) (nI p) ↔ p < mo_n S.r s e := by
  have h4 := h.1
  obtain ⟨h1, h2, h3⟩ := h.2.2 s hs
  obtain ⟨h5, h6⟩ := h3 e he
  show (mo_he S.r (nI s) (nI e) ∧ ¬ nI p < 0 ∧ ¬ S.r (23 + 233 * (nI s).toNatClampNeg + 18 * (nI e).toNatClampNeg + 1) ≤ nI p) ↔ _
  rw [h.he hs (by omega), nI_clamp (by omega), nI_clamp (by omega), show S.r (23 + 233 * s + 18 * e + 1) = nI (mo_n S.r s e) from h5, nI_leI (by omega) (by omega)]
  exact ⟨fun z => by omega, fun z => ⟨he, nI_pos (by omega), by omega⟩⟩
theorem so.h12 {S : rl_T} (h : so S) {e : Nat} (he : 12 ≤ e) (he2 : e < 2147483648) : ¬ mo_he S.r 0 (nI e) := fun z => by
  have h0 : (0 : Int32) = nI 0 := rfl
  rw [h0] at z
  have hs := (h.hs (by omega)).mp z.1
  have h1 := (h.he hs he2).mp z
  have h2 := (h.2.2 0 hs).2.1
  omega
theorem so.h3 {S : rl_T} (h : so S) {e p : Nat} (hp : 3 ≤ p) (hp2 : p < 2147483648) (he2 : e < 2147483648) : ¬ mo_hp S.r 0 (nI e) (nI p) := fun z => by
  have h0 : (0 : Int32) = nI 0 := rfl
  rw [h0] at z
  have hs := (h.hs (by omega)).mp z.1.1
  have he := (h.he hs he2).mp z.1
  have h1 := (h.hp hs he hp2).mp z
  have h2 := ((h.2.2 0 hs).2.2 e he).2
  omega
theorem cx1' {er : Nat} {A e1 e2 e3 x : Int32} {k : Nat} {M M2 : sk_M} {S S' : rl_T} (h : x = cx er A e1 e2 e3 ∧ rl_J k M (cs er S' S) M2) (he : er = 1) : x = e1 ∧ rl_J k M S M2 := by
  rw [cx1 he, csn (by omega)] at h
  exact h
theorem cx2' {er : Nat} {A e1 e2 e3 x : Int32} {k : Nat} {M M2 : sk_M} {S S' : rl_T} (h : x = cx er A e1 e2 e3 ∧ rl_J k M (cs er S' S) M2) (he : er = 2) : x = e2 ∧ rl_J k M S M2 := by
  rw [cx2 he, csn (by omega)] at h
  exact h
theorem ax1 {er : Nat} {A e1 e2 e3 x : Int32} {k : Nat} {M M2 : sk_M} {S : rl_T} (h : x = cx er A e1 e2 e3 ∧ rl_J k M S M2) (he : er = 1) : x = e1 ∧ rl_J k M S M2 := by
  rw [cx1 he] at h
  exact h
theorem ax2 {er : Nat} {A e1 e2 e3 x : Int32} {k : Nat} {M M2 : sk_M} {S : rl_T} (h : x = cx er A e1 e2 e3 ∧ rl_J k M S M2) (he : er = 2) : x = e2 ∧ rl_J k M S M2 := by
  rw [cx2 he] at h
  exact h
theorem ax0 {er : Nat} {A e1 e2 e3 x : Int32} {k : Nat} {M M2 : sk_M} {S : rl_T} (h : x = cx er A e1 e2 e3 ∧ rl_J k M S M2) (he : er = 0) : x = A ∧ rl_J k M S M2 := by
  rw [cx0 he] at h
  exact h
theorem cx0' {er : Nat} {A e1 e2 e3 x : Int32} {k : Nat} {M M2 : sk_M} {S S' : rl_T} (h : x = cx er A e1 e2 e3 ∧ rl_J k M (cs er S' S) M2) (he : er = 0) : x = A ∧ rl_J k M S' M2 := by
  rw [cx0 he, cs0 he] at h
  exact h
