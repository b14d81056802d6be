/-! The model: what a call that asks leaves as it was -/
def mo_fr (k : Nat) (M M' : sk_M) : Prop := (∀ a, (a < k ∨ k + 16 ≤ a ∨ (k < a ∧ a ≠ k + 3 ∧ a < k + 7)) → M' a = M a) ∧ M' k 2 = M k 2 ∧ M' k 6 = M k 6
def mo_g (k : Nat) (M M' : sk_M) : Prop := M' k 0 = M k 0 ∧ mo_fr k M M'
theorem mo_g.r {k : Nat} {M : sk_M} : mo_g k M M := ⟨rfl, fun _ _ => rfl, rfl, rfl⟩
theorem mo_g.t {k : Nat} {M N P : sk_M} (h : mo_g k M N) (g : mo_g k N P) : mo_g k M P := ⟨g.1.trans h.1, fun a h1 => (g.2.1 a h1).trans (h.2.1 a h1), g.2.2.1.trans h.2.2.1, g.2.2.2.trans h.2.2.2⟩
theorem mo_g.f {k j : Nat} {M N : sk_M} {v : Int32} (hj : j ≠ 0 ∧ j ≠ 2 ∧ j ≠ 6) (h : mo_g k M N) : mo_g k M (sk_ms N k j v) := ⟨by rw [sk_ne (by omega)]; exact h.1, fun a h1 => by rw [sk_nf (by omega)]; exact h.2.1 a h1, by rw [sk_ne (by omega)]; exact h.2.2.1, by rw [sk_ne (by omega)]; exact h.2.2.2⟩
theorem mo_g.w {k a j : Nat} {M N : sk_M} {v : Int32} (ha : a = k + 3 ∨ (k + 7 ≤ a ∧ a < k + 16)) (h : mo_g k M N) : mo_g k M (sk_ms N a j v) := ⟨by rw [sk_ne (by omega)]; exact h.1, fun x h1 => by rw [sk_nf (by omega)]; exact h.2.1 x h1, by rw [sk_ne (by omega)]; exact h.2.2.1, by rw [sk_ne (by omega)]; exact h.2.2.2⟩
theorem mo_g.c {k a b p q n : Nat} {M N : sk_M} (hb : b = k + 3) (h : mo_g k M N) : mo_g k M (mc_m N a b p q n) := ⟨by rw [mc_m_f (by omega)]; exact h.1, fun x h1 => by rw [mc_m_f (by omega)]; exact h.2.1 x h1, by rw [mc_m_f (by omega)]; exact h.2.2.1, by rw [mc_m_f (by omega)]; exact h.2.2.2⟩
theorem mo_g.mw {k a s e : Nat} {M N : sk_M} (h : mo_g k M N) : mo_g k M (mw_m N k a s e) := ⟨by rw [mw_m_f (by omega)]; exact h.1, fun x h1 => by rw [mw_m_f (by omega)]; exact h.2.1 x h1, by rw [mw_m_f (by omega)]; exact h.2.2.1, by rw [mw_m_f (by omega)]; exact h.2.2.2⟩
theorem mo_g.ml {k a s : Nat} {M N : sk_M} (h : mo_g k M N) : ∀ j, mo_g k M (mk_l N k a s j)
  | 0 => mo_g.f (by omega) (mo_g.f (by omega) h)
  | j + 1 => mo_g.f (by omega) (mo_g.f (by omega) (mo_g.mw (mo_g.ml h j)))
theorem mo_g.mk {k a s n : Nat} {M N : sk_M} (h : mo_g k M N) : mo_g k M (mk_m N k a s n) := mo_g.f (by omega) (mo_g.ml h n)
theorem mo_g.ma {k a : Nat} {M N : sk_M} (h : mo_g k M N) : ∀ s, mo_g k M (ml_l N k a s)
  | 0 => h
  | s + 1 => mo_g.w (by omega) (mo_g.w (by omega) (mo_g.mk (mo_g.ma h s)))
theorem mo_g.x {k : Nat} {M N P : sk_M} (h : mo_g k M N) (g : mt_f k N P) : mo_g k M P := ⟨(g.2 _ (by omega)).trans h.1, fun a h1 => (g.1 a (by omega) (by omega)).trans (h.2.1 a h1), (g.2 _ (by omega)).trans h.2.2.1, (g.2 _ (by omega)).trans h.2.2.2⟩
/-- a call that asks: refused, or its answer -/
def mo_z (M : sk_M) (k er : Nat) (A r : Int32) (M' : sk_M) : Prop := r = (if er = 0 then A else 0) ∧ M' k 0 = nI er ∧ mo_fr k M M'
theorem mo_z0 {M M' : sk_M} {k er : Nat} {A r : Int32} (h : er = 0) (hr : r = A) (g : mo_g k (sk_ms M k 0 0) M') : mo_z M k er A r M' :=
  ⟨by rw [if_pos h]; exact hr, by rw [g.1, sk_sm, h]; rfl, fun a h1 => by rw [g.2.1 a h1, sk_nf (by omega)], by rw [g.2.2.1, sk_ne (by omega)], by rw [g.2.2.2, sk_ne (by omega)]⟩
theorem mo_z1 {M : sk_M} {k er i : Nat} {A : Int32} (h : er = i) (hi : i ≠ 0) : mo_z M k er A 0 (sk_ms M k 0 (nI i)) :=
  ⟨by rw [if_neg (by omega)], by rw [sk_sm, h], fun a h1 => sk_nf (by omega), sk_ne (by omega), sk_ne (by omega)⟩
theorem mo_ix {w hi : Int32} {m : Nat} (h : ¬ w < 0 ∧ ¬ hi < w) (hh : hi = nI m) (hm : m + 1 < 2 ^ 31) : w = nI w.toNatClampNeg ∧ w.toNatClampNeg < m + 1 := by
  refine sk_ix (y := nI (m + 1)) ⟨h.1, fun q => ?_⟩ rfl hm
  obtain ⟨j, h1, rfl⟩ := nI_of h.1
  rw [nI_leI hm h1] at q
  apply h.2
  rw [hh, nI_ltI (by omega) h1]
  omega
theorem mp_a_t {T S : Nat → Int32} {a b c : Nat} (h : mp_a T S a b) (g : mp_a T S b c) : mp_a T S a c := by
  unfold mp_a at *
  simp only [Int32.lt_iff_toInt_lt, ← Int32.toInt_inj] at *
  omega
theorem mp_a_i {T S : Nat → Int32} {a : Nat} : ¬ mp_a T S a a := by
  unfold mp_a
  simp only [Int32.lt_iff_toInt_lt]
  omega
theorem mp_a_o {T S : Nat → Int32} {a b : Nat} (h : a ≠ b) (g : ¬ mp_a T S a b) : mp_a T S b a := by
  unfold mp_a at *
  simp only [Int32.lt_iff_toInt_lt, ← Int32.toInt_inj] at *
  omega
theorem mp_c_0 {T S : Nat → Int32} {s n : Nat} : mp_c T S s n = 0 ↔ ∀ j, j < n → ¬ mp_a T S j s := by
  induction n with
  | zero => exact ⟨fun _ j h => absurd h (Nat.not_lt_zero _), fun _ => rfl⟩
  | succ n ih =>
    show mp_c T S s n + (if mp_a T S n s then 1 else 0) = 0 ↔ _
    constructor
    · intro h j hj
      by_cases q : mp_a T S n s
      · rw [if_pos q] at h; omega
      · rw [if_neg q] at h
        by_cases e : j = n
        · rw [e]; exact q
        · exact ih.mp (by omega) j (by omega)
    · intro h
      rw [if_neg (h n (by omega)), ih.mpr (fun j hj => h j (by omega))]
def mo_w (T S : Nat → Int32) : Nat → Nat
  | 0 => 0
  | i + 1 => if mp_a T S i (mo_w T S i) then i else mo_w T S i
theorem mo_w_lt {T S : Nat → Int32} : ∀ n, 0 < n → mo_w T S n < n
  | 0, h => absurd h (Nat.lt_irrefl _)
  | 1, _ => by unfold mo_w; split <;> first | omega | exact Nat.zero_lt_one
  | n + 2, _ => by
    have := mo_w_lt (T := T) (S := S) (n + 1) (by omega)
    unfold mo_w
    split <;> omega
theorem mo_w_0 {T S : Nat → Int32} : ∀ n, ∀ j, j < n → ¬ mp_a T S j (mo_w T S n)
  | 0, j, h => absurd h (Nat.not_lt_zero _)
  | n + 1, j, h => by
    have ih := mo_w_0 (T := T) (S := S) n
    unfold mo_w
    split
    · rename_i q
      intro g
      by_cases e : j = n
      · subst e; exact mp_a_i g
      · exact ih j (by omega) (mp_a_t g q)
    · rename_i q
      by_cases e : j = n
      · subst e; exact q
      · exact ih j (by omega)
theorem mo_w_u {T S : Nat → Int32} {n i : Nat} (hi : i < n) (h : mp_c T S i n = 0) : i = mo_w T S n := by
  refine Classical.byContradiction (fun q => ?_)
  have h1 := mp_c_0.mp h
  have h2 := mo_w_0 (T := T) (S := S) n
  exact h2 i hi (mp_a_o (Ne.symm q) (h1 _ (mo_w_lt n (by omega))))
theorem mp_w {T S : Nat → Int32} {m : Nat} {r : Int32} (h : mp_q T S m r) : r = if m = 0 then -1 else nI (mo_w T S m) := by
  rcases h with ⟨i, h1, h2, h3, h4⟩ | ⟨h1, h2⟩
  · rw [if_neg (by omega), h4, mo_w_u h1 h2]
  · by_cases e : m = 0
    · rw [if_pos e, h2]
    · exact absurd (mp_c_0.mpr (mo_w_0 m)) (h1 _ (mo_w_lt m (by omega)))
theorem mp_a_c {T S T' S' : Nat → Int32} {a b : Nat} (h1 : T a = T' a ∧ S a = S' a) (h2 : T b = T' b ∧ S b = S' b) : mp_a T S a b ↔ mp_a T' S' a b := by
  unfold mp_a
  rw [h1.1, h1.2, h2.1, h2.2]
theorem mp_c_c {T S T' S' : Nat → Int32} {s n : Nat} (h : ∀ i, i < n → T i = T' i ∧ S i = S' i) (hs : T s = T' s ∧ S s = S' s) : mp_c T S s n = mp_c T' S' s n := by
  induction n with
  | zero => rfl
  | succ n ih =>
    have e := mp_a_c (h n (by omega)) hs
    show mp_c T S s n + (if mp_a T S n s then 1 else 0) = mp_c T' S' s n + (if mp_a T' S' n s then 1 else 0)
    rw [ih (fun i hi => h i (by omega))]
    by_cases q : mp_a T S n s
    · rw [if_pos q, if_pos (e.mp q)]
    · rw [if_neg q, if_neg (fun z => q (e.mpr z))]
theorem mo_w_c {T S T' S' : Nat → Int32} : ∀ n, (∀ i, i < n → T i = T' i ∧ S i = S' i) → mo_w T S n = mo_w T' S' n
  | 0, _ => rfl
  | 1, h => by
    show (if mp_a T S 0 0 then 0 else 0) = (if mp_a T' S' 0 0 then 0 else 0)
    split <;> split <;> rfl
  | n + 2, h => by
    have ih := mo_w_c (T := T) (S := S) (T' := T') (S' := S') (n + 1) (fun i hi => h i (by omega))
    have hl := mo_w_lt (T := T) (S := S) (n + 1) (by omega)
    have e := mp_a_c (h (n + 1) (by omega)) (h (mo_w T S (n + 1)) (by omega))
    show (if mp_a T S (n + 1) (mo_w T S (n + 1)) then n + 1 else mo_w T S (n + 1)) = (if mp_a T' S' (n + 1) (mo_w T' S' (n + 1)) then n + 1 else mo_w T' S' (n + 1))
    rw [← ih]
    by_cases q : mp_a T S (n + 1) (mo_w T S (n + 1))
    · rw [if_pos q, if_pos (e.mp q)]
    · rw [if_neg q, if_neg (fun z => q (e.mpr z))]
abbrev mo_pl (r : Nat → Int32) (s m : Nat) : Nat := mp_c (mo_T r) (mo_S r) s m
theorem ml_pl {M : sk_M} {k a s m : Nat} (hs : s < m) : mp_c (ml_l M k a m (k + 14)) (ml_l M k a m (k + 15)) s m = mo_pl (M a) s m := mp_c_c (fun i hi => ml_l_T m hi) (ml_l_T m hs)
def mo_fv (r : Nat → Int32) (m : Nat) : Int32 := if m = 0 then -1 else nI (mo_w (mo_T r) (mo_S r) m)
theorem ml_fv {M : sk_M} {k a m : Nat} {x : Int32} (h : mp_q (ml_l M k a m (k + 14)) (ml_l M k a m (k + 15)) m x) : x = mo_fv (M a) m := by
  rw [mp_w h, mo_fv, mo_w_c m (fun i hi => ml_l_T m hi)]
def mo_sk (r : Nat → Int32) (s m : Nat) (w : Int32) : Int32 :=
  if w = 0 then r (6 + 233 * s) else if w = 1 then mo_S r s else if w = 2 then mo_cp r s else if w = 3 then mo_of r s (mo_c r s) else if w = 4 then mo_T r s else if w = 5 then nI (mo_pl r s m)
  else if w = 6 then sk_sum (fun e => r (23 + 233 * s + 18 * e + 16)) (mo_c r s) else sk_sum (fun e => r (23 + 233 * s + 18 * e + 17)) (mo_c r s)
def mo_el (r : Nat → Int32) (s e : Nat) (w : Int32) : Int32 :=
  if w = 0 then mo_ty r s e else if w = 1 then mo_np r s e else if w = 2 then mo_ba r s e else if w = 3 then mo_ke r (23 + 233 * s + 18 * e + 11) else if w = 4 then mo_gr r s e else if w = 5 then mo_ba r s e + mo_gr r s e
  else if w = 6 then r (23 + 233 * s + 18 * e + 16) else if w = 7 then r (23 + 233 * s + 18 * e + 17) else if mo_bn r s e then 1 else 0
def mo_pa (r : Nat → Int32) (s e p : Nat) (w : Int32) : Int32 := if w < 3 then r (25 + 233 * s + 18 * e + 3 * p + w.toNatClampNeg) else if w = 3 then mo_v r s e p else mo_wy r s e p
theorem mw_l_v {M : sk_M} {k a s e p : Nat} : ∀ n, p < n → mw_l M k a s e n (k + 8) (3 * e + p) = mo_v (M a) s e p ∧ mw_l M k a s e n (k + 9) (3 * e + p) = mo_wy (M a) s e p
  | 0, h => absurd h (Nat.not_lt_zero _)
  | n + 1, h => by
    unfold mw_l
    by_cases q : p = n
    · subst q
      exact ⟨by rw [sk_ne (by omega), sk_sm], by rw [sk_sm]⟩
    · have := mw_l_v (M := M) (k := k) (a := a) (s := s) (e := e) (p := p) n (by omega)
      rw [sk_ne (by omega), sk_ne (by omega), sk_ne (by omega), sk_ne (by omega)]
      exact this
theorem mw_l_u {M : sk_M} {k a s e b y : Nat} (h : y < 3 * e) : ∀ n, mw_l M k a s e n b y = M b y
  | 0 => rfl
  | n + 1 => by
    unfold mw_l
    rw [sk_ne (by omega), sk_ne (by omega), mw_l_u h n]
theorem mw_m_v {M : sk_M} {k a s e p : Nat} (h : p < mo_n (M a) s e) : mw_m M k a s e (k + 8) (3 * e + p) = mo_v (M a) s e p ∧ mw_m M k a s e (k + 9) (3 * e + p) = mo_wy (M a) s e p := by
  unfold mw_m
  rw [sk_ne (by omega), sk_ne (by omega), sk_ne (by omega), sk_ne (by omega), sk_ne (by omega), sk_ne (by omega), sk_ne (by omega), sk_ne (by omega)]
  exact mw_l_v _ h
theorem mw_m_k {M : sk_M} {k a s e : Nat} : mw_m M k a s e (k + 11) e = mo_ke (M a) (23 + 233 * s + 18 * e + 11) := by
  unfold mw_m
  rw [sk_ne (by omega), sk_sm]
theorem mw_m_n {M : sk_M} {k a s e : Nat} : mw_m M k a s e (k + 13) e = if mo_bn (M a) s e then 1 else 0 := by
  unfold mw_m
  rw [sk_ne (by omega), sk_ne (by omega), sk_ne (by omega), sk_sm]
theorem mk_l_y {M : sk_M} {k a s N : Nat} (hka : k < a ∧ a < k + 8) (hp : mo_pp (M a) s N) : ∀ n, n ≤ N → ∀ e p, e < n → p < mo_n (M a) s e → mk_l M k a s n (k + 9) (3 * e + p) = mo_wy (M a) s e p
  | 0, _, e, p, h, _ => absurd h (Nat.not_lt_zero _)
  | n + 1, hn, e, p, h, h2 => by
    have e0 : mk_l M k a s n a = M a := mk_l_f (by omega) (by omega) n
    unfold mk_l
    rw [sk_ne (by omega), sk_ne (by omega)]
    by_cases q : e = n
    · subst q
      have := (mw_m_v (M := mk_l M k a s e) (k := k) (a := a) (s := s) (e := e) (p := p) (by rw [e0]; exact h2)).2
      rw [this, e0]
    · have h3 := (mo_nn hp (i := e) (by omega)).2
      unfold mw_m
      rw [sk_ne (by omega), sk_ne (by omega), sk_ne (by omega), sk_ne (by omega), mw_l_u (by omega)]
      exact mk_l_y hka hp n (by omega) e p (by omega) h2
