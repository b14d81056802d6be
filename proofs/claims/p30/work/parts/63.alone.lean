/-! One sheet: what a call answers and what it leaves, out of what is held alone -/
def cx (er : Nat) (A e1 e2 e3 : Int32) : Int32 := if er = 0 then A else if er = 1 then e1 else if er = 2 then e2 else e3
def cs (er : Nat) (S' S : rl_T) : rl_T := if er = 0 then S' else S
theorem cx0 {er : Nat} {A e1 e2 e3 : Int32} (h : er = 0) : cx er A e1 e2 e3 = A := if_pos h
theorem cx1 {er : Nat} {A e1 e2 e3 : Int32} (h : er = 1) : cx er A e1 e2 e3 = e1 := by subst h; rfl
theorem cx2 {er : Nat} {A e1 e2 e3 : Int32} (h : er = 2) : cx er A e1 e2 e3 = e2 := by subst h; rfl
theorem cx3 {er : Nat} {A e1 e2 e3 : Int32} (h : er = 3) : cx er A e1 e2 e3 = e3 := by subst h; rfl
theorem cs0 {er : Nat} {S' S : rl_T} (h : er = 0) : cs er S' S = S' := if_pos h
theorem csn {er : Nat} {S' S : rl_T} (h : ¬ er = 0) : cs er S' S = S := if_neg h
/-- from M on only the sheet k has changed, and it holds S now -/
def rl_J (k : Nat) (M : sk_M) (S : rl_T) (N : sk_M) : Prop := rl_C N k S ∧ rl_o k M N
theorem rl_o.r {k : Nat} {M : sk_M} : rl_o k M M := fun _ _ => rfl
theorem rl_o.t {k : Nat} {M N P : sk_M} (h : rl_o k M N) (g : rl_o k N P) : rl_o k M P := fun a ha => (g a ha).trans (h a ha)
theorem rl_J.r {k : Nat} {M : sk_M} {S : rl_T} (C : rl_C M k S) : rl_J k M S M := ⟨C, rl_o.r⟩
theorem rl_J.t {k : Nat} {M N P : sk_M} {S T : rl_T} (h : rl_J k M S N) (g : rl_J k N T P) : rl_J k M T P := ⟨g.1, h.2.t g.2⟩
theorem rl_J.x {k w : Nat} {M N : sk_M} {S T : rl_T} (h : rl_J k M S N) (ap : k + 804 ≤ w ∨ w + 804 ≤ k) (C : rl_C M w T) : rl_C N w T :=
  C.f ⟨fun a a1 a2 => h.2 a (by omega), by rw [h.2 _ (by omega)], h.2 _ (by omega)⟩
theorem gx {er n : Nat} {A r x : Int32} {vs : List Int32} (hn : n = er) (h3 : er ≤ 3) (hx : x = if n = 0 then r else vs.getD (n - 1) 0) (hA : er = 0 → r = A) : x = cx er A (vs.getD 0 0) (vs.getD 1 0) (vs.getD 2 0) := by
  subst hn
  rcases (show n = 0 ∨ n = 1 ∨ n = 2 ∨ n = 3 by omega) with h | h | h | h
  · rw [hx, if_pos h, cx0 h, hA h]
  · subst h; rw [hx]; rfl
  · subst h; rw [hx]; rfl
  · subst h; rw [hx]; rfl
theorem er1_le {P : Prop} [Decidable P] : er_1 P ≤ 3 := by unfold er_1; split <;> omega
theorem er2_le {P Q : Prop} [Decidable P] [Decidable Q] : er_2 P Q ≤ 3 := by
  unfold er_2
  split
  · split <;> omega
  · omega
theorem c_ask {M M1 : sk_M} {k n er er' : Nat} {A A' r x : Int32} {B : sk_M} {S : rl_T} {vs : List Int32} (C : rl_C M k S) (h : wx er A B M n r M1) (hx : x = if n = 0 then r else vs.getD (n - 1) 0) (h3 : er ≤ 3) (hB : er = 0 → rl_k k M B) (he : er' = er) (hA : er = 0 → A = A') : x = cx er' A' (vs.getD 0 0) (vs.getD 1 0) (vs.getD 2 0) ∧ rl_J k M S M1 := by
  subst he
  refine ⟨gx h.1 h3 hx (fun z => ?_), C.f (rl_fr.o (h.k hB)), (h.k hB).o⟩
  rcases h.2 with ⟨-, e, -⟩ | ⟨e, -⟩
  · rw [e, hA z]
  · exact absurd z e
theorem c_act {M M1 : sk_M} {k n er er' : Nat} {A A' r x : Int32} {B : sk_M} {S S' : rl_T} {vs : List Int32} (C : rl_C M k S) (h : wx er A B M n r M1) (hx : x = if n = 0 then r else vs.getD (n - 1) 0) (h3 : er ≤ 3) (ho : er = 0 → rl_o k M B) (he : er' = er) (hC : er = 0 → rl_C B k S' ∧ A = A') : x = cx er' A' (vs.getD 0 0) (vs.getD 1 0) (vs.getD 2 0) ∧ rl_J k M (cs er' S' S) M1 := by
  subst he
  refine ⟨gx h.1 h3 hx (fun z => ?_), ?_, h.o ho⟩
  · rcases h.2 with ⟨-, e, -⟩ | ⟨e, -⟩
    · rw [e, (hC z).2]
    · exact absurd z e
  · rcases h.2 with ⟨z, -, e⟩ | ⟨z, e⟩
    · rw [cs0 z, e]; exact (hC z).1
    · rw [csn z, e]; exact C
/-- what actions leave -/
def a_ad (S : rl_T) : rl_T := S.ac (mu_u (mz_r S.r (6 + 233 * S.m) 233) 0 (nI (S.m + 1))) (S.m + 1)
def a_mk (S : rl_T) (s e v : Int32) : rl_T := S.ac (my_w S.r (23 + 233 * s.toNatClampNeg + 18 * e.toNatClampNeg + 11) v 11 5 5) S.m
def a_co (S : rl_T) (s j v : Int32) : rl_T := S.ac (my_w S.r (6 + 233 * s.toNatClampNeg + 2 + 5 * j.toNatClampNeg) v 41 0 5) S.m
def a_ca (S : rl_T) (s e p v : Int32) : rl_T := S.ac (mu_u S.r (25 + 233 * s.toNatClampNeg + 18 * e.toNatClampNeg + 3 * p.toNatClampNeg + 2) v) S.m
def a_rv (S : rl_T) (s e b : Int32) : rl_T := S.ac (mu_u S.r (23 + 233 * s.toNatClampNeg + 18 * e.toNatClampNeg + 17) (if b = 0 then 0 else 1)) S.m
def a_fl (S : rl_T) (s e b : Int32) : rl_T := S.ac (mu_u S.r (23 + 233 * s.toNatClampNeg + 18 * e.toNatClampNeg + 16) (if b = 0 then 0 else 1)) S.m
def a_pe (S : rl_T) (s v : Int32) : rl_T := S.ac (mu_u S.r (6 + 233 * s.toNatClampNeg + 1) v) S.m
def a_se (S : rl_T) (w v : Int32) : rl_T := S.ac (mu_u S.r (1 + w.toNatClampNeg) v) S.m
def a_un (S : rl_T) : rl_T := rl_mk (fun y => if y < 938 then S.d (938 * (S.c - 1) + y) else S.r y) S.d S.q S.v S.t ((S.d (938 * (S.c - 1))).toNatClampNeg) (S.c - 1) S.n
def a_sv (S : rl_T) (j : Int32) : rl_T := rl_mk S.r S.d (fun y => if 938 * j.toNatClampNeg ≤ y ∧ y < 938 * j.toNatClampNeg + 938 then S.r (y - 938 * j.toNatClampNeg) else S.q y) (mu_u S.v j.toNatClampNeg 1) S.t S.m S.c S.n
def a_rs (S : rl_T) (j : Int32) : rl_T := rl_mk (fun y => S.q (938 * j.toNatClampNeg + y)) S.d S.q S.v S.t ((S.q (938 * j.toNatClampNeg)).toNatClampNeg) 0 S.n
def a_ap (S : rl_T) (v : Int32) : rl_T := rl_mk S.r S.d S.q S.v (mu_u S.t S.n v) S.m S.c (S.n + 1)
def a_cl (S : rl_T) : rl_T := rl_mk S.r S.d S.q S.v S.t S.m S.c 0
/-- what a text gives, as a row: the number of elements, then 18 places an element from 17 on -/
def pr_j (js : List sk_J) (y : Nat) : Int32 := match js[y / 3]? with
  | none => 0
  | some j => if y % 3 = 0 then j.1 else if y % 3 = 1 then j.2.1 else j.2.2
def pr_e (el : sk_E) (y : Nat) : Int32 := if y = 0 then el.1 else if y = 1 then nI el.2.length else if y < 11 then pr_j el.2 (y - 2) else 0
def pr_T (L : List sk_E) (y : Nat) : Int32 := if y = 0 then nI L.length else match L[(y - 17) / 18]? with
  | none => 0
  | some el => if 17 ≤ y then pr_e el ((y - 17) % 18) else 0
theorem pr_T_h {L : List sk_E} (h3 : ∀ el ∈ L, el.2.length ≤ 3) : mx_h (pr_T L) L := by
  refine ⟨if_pos rfl, fun e el he => ?_⟩
  have hl : el.2.length ≤ 3 := h3 el (List.mem_of_getElem? he)
  have cell : ∀ y, y < 18 → pr_T L (17 + 18 * e + y) = pr_e el y := fun y hy => by
    unfold pr_T
    rw [if_neg (by omega), show (17 + 18 * e + y - 17) / 18 = e from by omega, he]
    show (if 17 ≤ 17 + 18 * e + y then pr_e el ((17 + 18 * e + y - 17) % 18) else 0) = _
    rw [if_pos (by omega), show (17 + 18 * e + y - 17) % 18 = y from by omega]
  refine ⟨⟨?_, ?_, hl, fun p j hp => ?_⟩, fun y h1 h2 => ?_⟩
  · exact cell 0 (by omega)
  · rw [cell 1 (by omega)]; rfl
  · have hp3 : p < 3 := by
      have := (List.getElem?_eq_some_iff.mp hp).1
      omega
    have cj : ∀ i, i < 3 → pr_T L (17 + 18 * e + 2 + 3 * p + i) = if i = 0 then j.1 else if i = 1 then j.2.1 else j.2.2 := fun i hi => by
      rw [show 17 + 18 * e + 2 + 3 * p + i = 17 + 18 * e + (2 + 3 * p + i) from by omega, cell _ (by omega)]
      unfold pr_e
      rw [if_neg (by omega), if_neg (by omega), if_pos (by omega)]
      unfold pr_j
      rw [show (2 + 3 * p + i - 2) / 3 = p from by omega, hp]
      show (if (2 + 3 * p + i - 2) % 3 = 0 then j.1 else if (2 + 3 * p + i - 2) % 3 = 1 then j.2.1 else j.2.2) = _
      rw [show (2 + 3 * p + i - 2) % 3 = i from by omega]
    exact ⟨cj 0 (by omega), cj 1 (by omega), cj 2 (by omega)⟩
  · rw [cell y h2]
    unfold pr_e
    rw [if_neg (by omega), if_neg (by omega), if_neg (by omega)]
def pr_R (r : Nat → Int32) (s : Nat) (L : List sk_E) : Nat → Int32 := fun y => if y = 6 + 233 * s then pr_T L 0 else if 6 + 233 * s + 17 ≤ y ∧ y < 6 + 233 * s + 17 + 216 then pr_T L (y - (6 + 233 * s)) else r y
def a_tx (S : rl_T) : Nat ⊕ List sk_E := tt (tx S.t S.n) S.n
def a_L (S : rl_T) : List sk_E := match a_tx S with
  | .inl _ => []
  | .inr L => L
def a_ok (S : rl_T) : Bool := (a_tx S).isRight
def a_ep (S : rl_T) : Int32 := match a_tx S with
  | .inl x => nI x
  | .inr _ => -1
def a_pr (S : rl_T) (s : Int32) : rl_T := S.ac (pr_R S.r s.toNatClampNeg (a_L S)) S.m
/-- a call that asks -/
theorem c_about {M M1 : sk_M} {k n : Nat} {v r x : Int32} {S : rl_T} {vs : List Int32} (C : rl_C M k S) (h : wx (er_1 (¬ v < 0 ∧ ¬ 5 < v)) (x_ab M k v) (x_am M k v) M n r M1) (hx : x = if n = 0 then r else vs.getD (n - 1) 0) : x = cx (er_1 (¬ v < 0 ∧ ¬ 5 < v)) (mo_ab S.r S.m v) (vs.getD 0 0) (vs.getD 1 0) (vs.getD 2 0) ∧ rl_J k M S M1 :=
  c_ask C h hx er1_le (fun _ => x_am_k) rfl (fun _ => q_ab C.1)
theorem c_skater {M M1 : sk_M} {k n : Nat} {s v r x : Int32} {S : rl_T} {vs : List Int32} (C : rl_C M k S) (h : wx (er_2 (st_hs M (k + 1) s) (¬ v < 0 ∧ ¬ 7 < v)) (x_sk M k s v) (if v = 5 then x_RK (x_R M k (st_pg (k + 1) s)) k else x_R M k (st_pg (k + 1) s)) M n r M1) (hx : x = if n = 0 then r else vs.getD (n - 1) 0) : x = cx (er_2 (mo_hs S.r s) (¬ v < 0 ∧ ¬ 7 < v)) (mo_sk S.r s.toNatClampNeg S.m v) (vs.getD 0 0) (vs.getD 1 0) (vs.getD 2 0) ∧ rl_J k M S M1 := by
  have hB : rl_k k M (if v = 5 then x_RK (x_R M k (st_pg (k + 1) s)) k else x_R M k (st_pg (k + 1) s)) := by
    split
    · exact x_R_k.t x_RK_k
    · exact x_R_k
  exact c_ask C h hx er2_le (fun _ => hB) (er2_c C.1.hs.symm (fun _ => Iff.rfl)) (fun z => q_sk C.1 (C.1.hs.mp (er2z z).1))
theorem c_element {M M1 : sk_M} {k n : Nat} {s e v r x : Int32} {S : rl_T} {vs : List Int32} (C : rl_C M k S) (h : wx (er_2 (st_he M (k + 1) s e) (¬ v < 0 ∧ ¬ 8 < v)) (x_el M k s e v) (x_R M k (st_pg (k + 1) s)) M n r M1) (hx : x = if n = 0 then r else vs.getD (n - 1) 0) : x = cx (er_2 (mo_he S.r s e) (¬ v < 0 ∧ ¬ 8 < v)) (mo_el S.r s.toNatClampNeg e.toNatClampNeg v) (vs.getD 0 0) (vs.getD 1 0) (vs.getD 2 0) ∧ rl_J k M S M1 :=
  c_ask C h hx er2_le (fun _ => x_R_k) (er2_c C.1.he.symm (fun _ => Iff.rfl)) (fun z => q_el C.1 (C.1.he.mp (er2z z).1))
theorem c_part {M M1 : sk_M} {k n : Nat} {s e p v r x : Int32} {S : rl_T} {vs : List Int32} (C : rl_C M k S) (h : wx (er_2 (st_hp M (k + 1) s e p) (¬ v < 0 ∧ ¬ 4 < v)) (x_pa M k s e p v) (x_pm M k s v) M n r M1) (hx : x = if n = 0 then r else vs.getD (n - 1) 0) : x = cx (er_2 (mo_hp S.r s e p) (¬ v < 0 ∧ ¬ 4 < v)) (mo_pa S.r s.toNatClampNeg e.toNatClampNeg p.toNatClampNeg v) (vs.getD 0 0) (vs.getD 1 0) (vs.getD 2 0) ∧ rl_J k M S M1 :=
  c_ask C h hx er2_le (fun _ => x_pm_k) (er2_c C.1.hp.symm (fun _ => Iff.rfl)) (fun z => q_pa C.1 (C.1.hp.mp (er2z z).1) (er2z z).2)
theorem c_setting {M M1 : sk_M} {k n : Nat} {v r x : Int32} {S : rl_T} {vs : List Int32} (C : rl_C M k S) (h : wx (er_1 (¬ v < 0 ∧ ¬ 5 ≤ v)) (M (k + 3) v.toNatClampNeg) M M n r M1) (hx : x = if n = 0 then r else vs.getD (n - 1) 0) : x = cx (er_1 (¬ v < 0 ∧ ¬ 5 ≤ v)) (S.r (1 + v.toNatClampNeg)) (vs.getD 0 0) (vs.getD 1 0) (vs.getD 2 0) ∧ rl_J k M S M1 :=
  c_ask C h hx er1_le (fun _ => rl_k.r) rfl (fun z => C.1.2.2.2.1 _ (sk_ix (y := 5) (m := 5) (er1z z) rfl (by decide)).2)
theorem c_ifCalled {M M1 : sk_M} {k n : Nat} {s e p v r x : Int32} {S : rl_T} {vs : List Int32} (C : rl_C M k S) (h : wx (x_ck M (k + 1) s e p v) (x_ic M k s e p v (k + 738) 14 + x_ic M k s e p v (k + 738) 15 - x_ic M k s e p v (k + 738) 16) (x_ic M k s e p v) M n r M1) (hx : x = if n = 0 then r else vs.getD (n - 1) 0) : x = cx (mo_wc S.r s e p v) (mo_T (mu_u S.r (25 + 233 * s.toNatClampNeg + 18 * e.toNatClampNeg + 3 * p.toNatClampNeg + 2) v) s.toNatClampNeg) (vs.getD 0 0) (vs.getD 1 0) (vs.getD 2 0) ∧ rl_J k M S M1 := by
  have e0 : mu_c S.r S.r = S.r := by
    funext y
    unfold mu_c
    split <;> rfl
  refine c_ask C h hx (by rw [C.1.ck]; exact er3_le) (fun _ => x_ic_k) C.1.ck.symm (fun z => ?_)
  have h2 := q_ic (t := S.r) C.1 (C.1.ck.symm.trans z)
  rw [e0] at h2
  exact h2
/-- the exchanges that bestSwap looks at, out of the row alone -/
def a_bs (r : Nat → Int32) (s : Nat) (w : Int32) : Int32 := mb_a (mb_o 0 s (mo_c r s) (mb_z (fun _ => r) 0) (mo_c r s)) w
theorem c_bestSwap {M M1 : sk_M} {k n : Nat} {s v r x : Int32} {S : rl_T} {vs : List Int32} (C : rl_C M k S) (h : wx (er_2 (st_hs M (k + 1) s) (¬ v < 0 ∧ ¬ 2 < v)) (bs_a (bs_o k (st_pg (k + 1) s) (pg_n M (st_pg (k + 1) s)) (bs_z M k (st_pg (k + 1) s)) (pg_n M (st_pg (k + 1) s))) v) ((bs_o k (st_pg (k + 1) s) (pg_n M (st_pg (k + 1) s)) (bs_z M k (st_pg (k + 1) s)) (pg_n M (st_pg (k + 1) s))).1) M n r M1) (hx : x = if n = 0 then r else vs.getD (n - 1) 0) : x = cx (er_2 (mo_hs S.r s) (¬ v < 0 ∧ ¬ 2 < v)) (a_bs S.r s.toNatClampNeg v) (vs.getD 0 0) (vs.getD 1 0) (vs.getD 2 0) ∧ rl_J k M S M1 := by
  refine c_ask C h hx er2_le (fun z => ?_) (er2_c C.1.hs.symm (fun _ => Iff.rfl)) (fun z => q_bs (M' := fun _ => S.r) (km := 0) C.1 (C.1.hs.mp (er2z z).1) rfl)
  have hs := C.1.hs.mp (er2z z).1
  have hx := (C.1.hx hs).2
  have h4 := C.1.1
  exact bs_k (s := s) (by unfold st_pg; omega) (C.1.P hs).wf
theorem c_behind {M M1 : sk_M} {k n : Nat} {s r x : Int32} {S : rl_T} {vs : List Int32} (C : rl_C M k S) (h : wx (er_1 (st_hs M (k + 1) s)) (x_be M k s) (x_RK M k) M n r M1) (hx : x = if n = 0 then r else vs.getD (n - 1) 0) : x = cx (er_1 (mo_hs S.r s)) (mo_T S.r (mo_w (mo_T S.r) (mo_S S.r) S.m) - mo_T S.r s.toNatClampNeg) (vs.getD 0 0) (vs.getD 1 0) (vs.getD 2 0) ∧ rl_J k M S M1 :=
  c_ask C h hx er1_le (fun _ => x_RK_k) (er1_c C.1.hs.symm) (fun z => q_be C.1 (C.1.hs.mp (er1z z)))
theorem c_simulate {M M1 : sk_M} {k n : Nat} {y : Int64} {v r x : Int32} {S : rl_T} {vs : List Int32} (C : rl_C M k S) (h : wx (er_1 (¬ v < 1 ∧ ¬ 60 < v)) (sk_sum (si_e M k y v.toNatClampNeg (k + 748)) (st_n (si_m M k y v.toNatClampNeg) (k + 751))) (si_e M k y v.toNatClampNeg) M n r M1) (hx : x = if n = 0 then r else vs.getD (n - 1) 0) : x = cx (er_1 (¬ v < 1 ∧ ¬ 60 < v)) (sk_sum (mo_T (mt_s (mu_c S.r S.r) y v.toNatClampNeg)) S.m) (vs.getD 0 0) (vs.getD 1 0) (vs.getD 2 0) ∧ rl_J k M S M1 := by
  have hB := si_e_k (x := y) C.1.wf v.toNatClampNeg
  exact c_ask C h hx er1_le (fun _ => hB) rfl (fun _ => q_si C.1 _)
/-- needs: what it answers is told, not reckoned -/
def a_nd (S : rl_T) (s e x : Int32) : Prop := (¬ mo_he S.r s e ∧ x = -9999001) ∨ (mo_he S.r s e ∧ mo_nq S.r s.toNatClampNeg e.toNatClampNeg S.m x)
theorem c_needs {M M1 : sk_M} {k n : Nat} {s e r x : Int32} {S : rl_T} (C : rl_C M k S) (h : wv ["java/lang/IndexOutOfBoundsException"] (nd_q M k s e) (fun E M' => E = "java/lang/IndexOutOfBoundsException" ∧ ¬ st_he M (k + 1) s e ∧ M' = M) n r M1) (hx : x = if n = 0 then r else [-9999001].getD (n - 1) 0) : a_nd S s e x ∧ rl_J k M S M1 := by
  rcases wv_1 h with ⟨hn, h1, h2⟩ | ⟨hn, -, h1, h2⟩
  · have he := C.1.he.mp h1
    have K : rl_k k M M1 := by
      rcases h2 with ⟨i, -, -, -, -, e'⟩ | ⟨-, -, e'⟩ <;> rw [e']
      · exact nd_l_k _
      · exact nd_l_k _
    have E : ∀ i, i < 31 → nd_n M k s e i = mo_nd S.r s.toNatClampNeg e.toNatClampNeg S.m i := fun i hi => q_nd C.1 he hi
    rw [if_pos hn] at hx
    refine ⟨Or.inr ⟨he, ?_⟩, C.f (rl_fr.o K), K.o⟩
    rw [hx]
    rcases h2 with ⟨i, i1, i2, i3, i4, -⟩ | ⟨i1, i2, -⟩
    · exact Or.inl ⟨i, i1, fun j hj => by rw [← E j (by omega)]; exact i2 j hj, by rw [← E i i1]; exact i3, i4⟩
    · exact Or.inr ⟨fun j hj => by rw [← E j hj]; exact i1 j hj, i2⟩
  · subst h2
    subst hn
    exact ⟨Or.inl ⟨fun z => h1 (C.1.he.mpr z), hx⟩, rl_J.r C⟩
theorem c_runScript {M M1 : sk_M} {k n : Nat} {v r x : Int32} {y : Int64} {S : rl_T} (C : rl_C M k S) (h : wv ["java/lang/IllegalArgumentException"] (rs_q M k v y) (fun E M' => E = "java/lang/IllegalArgumentException" ∧ ¬ rs_k v y ∧ M' = M) n r M1) (hx : x = if n = 0 then r else [-9999002].getD (n - 1) 0) (hk : ¬ rs_k v y) : x = -9999002 ∧ rl_J k M S M1 := by
  rcases wv_1 h with ⟨hn, h1⟩ | ⟨hn, -, h1, h2⟩
  · exact absurd h1.1 hk
  · subst h2
    subst hn
    exact ⟨hx, rl_J.r C⟩
theorem c_ifReplaced {M M1 : sk_M} {k n : Nat} {s e r x : Int32} {S : rl_T} (C : rl_C M k S) (h : wv ["java/lang/IndexOutOfBoundsException", "java/lang/IllegalStateException"] (x_rp M k S.n s e) (x_rx M k S.n s e) n r M1) (hx : x = if n = 0 then r else [-9999001, -9999003].getD (n - 1) 0) (hk : ¬ mo_he S.r s e) : x = -9999001 ∧ rl_J k M S M1 := by
  rcases wv_2 h with ⟨hn, L, N1, h1, -⟩ | ⟨hn, h1⟩ | ⟨hn, h1⟩
  · exact absurd (C.1.he.mp h1) hk
  · rcases h1 with ⟨-, -, h3⟩ | ⟨e', -⟩
    · subst h3
      subst hn
      exact ⟨hx, rl_J.r C⟩
    · exact absurd e' io_is
  · rcases h1 with ⟨e', -⟩ | ⟨-, h2, -⟩
    · exact absurd e'.symm io_is
    · exact absurd (C.1.he.mp h2) hk
/-- a call that acts -/
theorem c_add {M M1 : sk_M} {k n o : Nat} {r x : Int32} {S : rl_T} {vs : List Int32} (C : rl_C M k S) (H : rl_H M k o S.c S.d) (h : wx (er_1 (S.m < 4)) (nI S.m) (x_ad M k o S.c S.m) M n r M1) (hx : x = if n = 0 then r else vs.getD (n - 1) 0) : x = cx (er_1 (S.m < 4)) (nI S.m) (vs.getD 0 0) (vs.getD 1 0) (vs.getD 2 0) ∧ rl_J k M (cs (er_1 (S.m < 4)) (a_ad S) S) M1 :=
  c_act C h hx er1_le (fun z => ad_o C H (er1z z)) rfl (fun z => ⟨t_add C H (er1z z), rfl⟩)
theorem c_mark {M M1 : sk_M} {k n o : Nat} {s e v r x : Int32} {S : rl_T} {vs : List Int32} (C : rl_C M k S) (H : rl_H M k o S.c S.d) (h : wx (er_2 (st_he M (k + 1) s e) (¬ v < 0 ∧ ¬ 161050 < v)) (x_kn v) (if st_he (x_re M k o S.c) (k + 1) s e then sk_ms (x_re M k o S.c) (st_pg (k + 1) s + 3) e.toNatClampNeg (x_kn v) else x_re M k o S.c) M n r M1) (hx : x = if n = 0 then r else vs.getD (n - 1) 0) : x = cx (er_2 (mo_he S.r s e) (¬ v < 0 ∧ ¬ 161050 < v)) (x_kn v) (vs.getD 0 0) (vs.getD 1 0) (vs.getD 2 0) ∧ rl_J k M (cs (er_2 (mo_he S.r s e) (¬ v < 0 ∧ ¬ 161050 < v)) (a_mk S s e v) S) M1 :=
  c_act C h hx er2_le (fun z => re_mm C H (C.1.he.mp (er2z z).1).1 (by decide)) (er2_c C.1.he.symm (fun _ => Iff.rfl)) (fun z => ⟨(t_mark C H (C.1.he.mp (er2z z).1) (er2z z).2).1, rfl⟩)
theorem c_component {M M1 : sk_M} {k n o : Nat} {s j v r x : Int32} {S : rl_T} {vs : List Int32} (C : rl_C M k S) (H : rl_H M k o S.c S.d) (h : wx (er_2 (st_hs M (k + 1) s ∧ ¬ j < 0 ∧ ¬ 3 ≤ j) (¬ v < 0 ∧ ¬ 115856200 < v)) (x_cn v) (if st_hs (x_re M k o S.c) (k + 1) s ∧ ¬ j < 0 ∧ ¬ 3 ≤ j then sk_ms (x_re M k o S.c) (st_pg (k + 1) s + 9) j.toNatClampNeg (x_cn v) else x_re M k o S.c) M n r M1) (hx : x = if n = 0 then r else vs.getD (n - 1) 0) : x = cx (er_2 (mo_hs S.r s ∧ ¬ j < 0 ∧ ¬ 3 ≤ j) (¬ v < 0 ∧ ¬ 115856200 < v)) (x_cn v) (vs.getD 0 0) (vs.getD 1 0) (vs.getD 2 0) ∧ rl_J k M (cs (er_2 (mo_hs S.r s ∧ ¬ j < 0 ∧ ¬ 3 ≤ j) (¬ v < 0 ∧ ¬ 115856200 < v)) (a_co S s j v) S) M1 :=
  c_act C h hx er2_le (fun z => re_mm C H (C.1.hs.mp (er2z z).1.1) (by decide)) (er2_c (and_congr C.1.hs.symm Iff.rfl) (fun _ => Iff.rfl)) (fun z => ⟨(t_comp C H (C.1.hs.mp (er2z z).1.1) (er2z z).1.2 (er2z z).2).1, rfl⟩)
theorem c_call {M M1 : sk_M} {k n o : Nat} {s e p v r x : Int32} {S : rl_T} {vs : List Int32} (C : rl_C M k S) (H : rl_H M k o S.c S.d) (h : wx (x_ck M (k + 1) s e p v) (x_re M k o S.c (st_pg (k + 1) s + 8) (3 * e.toNatClampNeg + p.toNatClampNeg)) (if st_cc (x_re M k o S.c) (k + 1) s e p v then sk_ms (x_re M k o S.c) (st_pg (k + 1) s + 8) (3 * e.toNatClampNeg + p.toNatClampNeg) v else x_re M k o S.c) M n r M1) (hx : x = if n = 0 then r else vs.getD (n - 1) 0) : x = cx (mo_wc S.r s e p v) (S.r (25 + 233 * s.toNatClampNeg + 18 * e.toNatClampNeg + 3 * p.toNatClampNeg + 2)) (vs.getD 0 0) (vs.getD 1 0) (vs.getD 2 0) ∧ rl_J k M (cs (mo_wc S.r s e p v) (a_ca S s e p v) S) M1 :=
  c_act C h hx (by rw [C.1.ck]; exact er3_le) (fun z => re_mm C H (ck_0 (C.1.ck.symm.trans z)).1.1.1 (by decide)) C.1.ck.symm (fun z => t_call C H (C.1.ck.symm.trans z))
def a_sr (r : Nat → Int32) (m s e : Nat) (b : Int32) : Int32 := sk_sum (fun q => sk_sum (fun z => (mu_u r (23 + 233 * s + 18 * e + 17) (if b = 0 then 0 else 1)) (23 + 233 * q + 18 * z + 17)) (mo_c (mu_u r (23 + 233 * s + 18 * e + 17) (if b = 0 then 0 else 1)) q)) m
def a_sf (r : Nat → Int32) (s e : Nat) (b : Int32) : Int32 := sk_sum (fun z => (mu_u r (23 + 233 * s + 18 * e + 16) (if b = 0 then 0 else 1)) (23 + 233 * s + 18 * z + 16)) (mo_c r s)
theorem c_review {M M1 : sk_M} {k n o : Nat} {s e b r x : Int32} {S : rl_T} {vs : List Int32} (C : rl_C M k S) (H : rl_H M k o S.c S.d) (h : wx (er_1 (st_he M (k + 1) s e)) (st_rv (if st_he (x_re M k o S.c) (k + 1) s e then sk_ms (x_re M k o S.c) (st_pg (k + 1) s + 5) e.toNatClampNeg (if b = 0 then 0 else 1) else x_re M k o S.c) (k + 1)) (if st_he (x_re M k o S.c) (k + 1) s e then sk_ms (x_re M k o S.c) (st_pg (k + 1) s + 5) e.toNatClampNeg (if b = 0 then 0 else 1) else x_re M k o S.c) M n r M1) (hx : x = if n = 0 then r else vs.getD (n - 1) 0) : x = cx (er_1 (mo_he S.r s e)) (a_sr S.r S.m s.toNatClampNeg e.toNatClampNeg b) (vs.getD 0 0) (vs.getD 1 0) (vs.getD 2 0) ∧ rl_J k M (cs (er_1 (mo_he S.r s e)) (a_rv S s e b) S) M1 :=
  c_act C h hx er1_le (fun z => re_mm C H (C.1.he.mp (er1z z)).1 (by decide)) (er1_c C.1.he.symm) (fun z => t_rev C H (C.1.he.mp (er1z z)))
theorem c_fall {M M1 : sk_M} {k n o : Nat} {s e b r x : Int32} {S : rl_T} {vs : List Int32} (C : rl_C M k S) (H : rl_H M k o S.c S.d) (h : wx (er_1 (st_he M (k + 1) s e)) (sk_sum ((if st_he (x_re M k o S.c) (k + 1) s e then sk_ms (x_re M k o S.c) (st_pg (k + 1) s + 4) e.toNatClampNeg (if b = 0 then 0 else 1) else x_re M k o S.c) (st_pg (k + 1) s + 4)) (pg_n (if st_he (x_re M k o S.c) (k + 1) s e then sk_ms (x_re M k o S.c) (st_pg (k + 1) s + 4) e.toNatClampNeg (if b = 0 then 0 else 1) else x_re M k o S.c) (st_pg (k + 1) s))) (if st_he (x_re M k o S.c) (k + 1) s e then sk_ms (x_re M k o S.c) (st_pg (k + 1) s + 4) e.toNatClampNeg (if b = 0 then 0 else 1) else x_re M k o S.c) M n r M1) (hx : x = if n = 0 then r else vs.getD (n - 1) 0) : x = cx (er_1 (mo_he S.r s e)) (a_sf S.r s.toNatClampNeg e.toNatClampNeg b) (vs.getD 0 0) (vs.getD 1 0) (vs.getD 2 0) ∧ rl_J k M (cs (er_1 (mo_he S.r s e)) (a_fl S s e b) S) M1 :=
  c_act C h hx er1_le (fun z => re_mm C H (C.1.he.mp (er1z z)).1 (by decide)) (er1_c C.1.he.symm) (fun z => t_fall C H (C.1.he.mp (er1z z)))
theorem c_penalty {M M1 : sk_M} {k n o : Nat} {s v r x : Int32} {S : rl_T} {vs : List Int32} (C : rl_C M k S) (H : rl_H M k o S.c S.d) (h : wx (er_2 (st_hs M (k + 1) s) (¬ v < 0 ∧ ¬ 9 < v)) (x_re M k o S.c (st_pg (k + 1) s) 10) (if st_hs (x_re M k o S.c) (k + 1) s then sk_ms (x_re M k o S.c) (st_pg (k + 1) s) 10 v else x_re M k o S.c) M n r M1) (hx : x = if n = 0 then r else vs.getD (n - 1) 0) : x = cx (er_2 (mo_hs S.r s) (¬ v < 0 ∧ ¬ 9 < v)) (S.r (6 + 233 * s.toNatClampNeg + 1)) (vs.getD 0 0) (vs.getD 1 0) (vs.getD 2 0) ∧ rl_J k M (cs (er_2 (mo_hs S.r s) (¬ v < 0 ∧ ¬ 9 < v)) (a_pe S s v) S) M1 :=
  c_act C h hx er2_le (fun z => re_mm (d := 0) C H (C.1.hs.mp (er2z z).1) (by decide)) (er2_c C.1.hs.symm (fun _ => Iff.rfl)) (fun z => t_pen C H (C.1.hs.mp (er2z z).1))
theorem c_set {M M1 : sk_M} {k n o : Nat} {a v r x : Int32} {S : rl_T} {vs : List Int32} (C : rl_C M k S) (H : rl_H M k o S.c S.d) (h : wx (er_1 (st_fi a v)) (x_re M k o S.c (k + 3) a.toNatClampNeg) (if st_fi a v then sk_ms (x_re M k o S.c) (k + 1 + 2) a.toNatClampNeg v else x_re M k o S.c) M n r M1) (hx : x = if n = 0 then r else vs.getD (n - 1) 0) : x = cx (er_1 (st_fi a v)) (S.r (1 + a.toNatClampNeg)) (vs.getD 0 0) (vs.getD 1 0) (vs.getD 2 0) ∧ rl_J k M (cs (er_1 (st_fi a v)) (a_se S a v) S) M1 :=
  c_act C h hx er1_le (fun z => (re_o C H).if ((re_o C H).ms (by omega))) rfl (fun z => t_sett C H (er1z z))
theorem c_append {M M1 : sk_M} {k n : Nat} {v r x : Int32} {S : rl_T} {vs : List Int32} (C : rl_C M k S) (h : wx (er_2 (¬ v < 0 ∧ ¬ 255 < v) (S.n < 120)) (nI (S.n + 1)) (sk_ms (sk_ms M (k + 736 + 1) S.n v) (k + 736) 1 (M (k + 736) 1 + 1)) M n r M1) (hx : x = if n = 0 then r else vs.getD (n - 1) 0) : x = cx (er_2 (¬ v < 0 ∧ ¬ 255 < v) (S.n < 120)) (nI (S.n + 1)) (vs.getD 0 0) (vs.getD 1 0) (vs.getD 2 0) ∧ rl_J k M (cs (er_2 (¬ v < 0 ∧ ¬ 255 < v) (S.n < 120)) (a_ap S v) S) M1 :=
  c_act C h hx er2_le (fun z => (rl_o.r.ms (by omega)).ms (by omega)) rfl (fun z => ⟨t_app C (er2z z).1 (er2z z).2 _ rfl, rfl⟩)
theorem c_undo {M M1 : sk_M} {k n o : Nat} {r x : Int32} {S : rl_T} {vs : List Int32} (C : rl_C M k S) (H : rl_H M k o S.c S.d) (h : wx (er_1 (0 < S.c)) ((if 0 < S.c then hs_tb M (k + 44) (k + 1) o S.c else M) (k + 44) 2) (if 0 < S.c then hs_tb M (k + 44) (k + 1) o S.c else M) M n r M1) (hx : x = if n = 0 then r else vs.getD (n - 1) 0) : x = cx (er_1 (0 < S.c)) (nI (S.c - 1)) (vs.getD 0 0) (vs.getD 1 0) (vs.getD 2 0) ∧ rl_J k M (cs (er_1 (0 < S.c)) (a_un S) S) M1 := by
  refine c_act C h hx er1_le (fun z => ?_) rfl (fun z => ?_)
  · rw [if_pos (er1z z)]
    exact fun a ha => (H.tb (er1z z)).2.2 a (by omega) (by omega)
  · obtain ⟨m, hm⟩ := t_undo C H (er1z z)
    obtain ⟨c1, c2⟩ := hm (fun y => if y < 938 then S.d (938 * (S.c - 1) + y) else S.r y) S.d (fun y hy => if_pos hy) (fun y hy => rfl)
    have h4 : m ≤ 4 := c1.1.1
    have h0 : S.d (938 * (S.c - 1)) = nI m := c1.1.2.2.1
    have em : m = (S.d (938 * (S.c - 1))).toNatClampNeg := by rw [h0, nI_clamp (by omega)]
    refine ⟨?_, c2⟩
    unfold a_un
    rw [← em]
    exact c1
theorem c_save {M M1 : sk_M} {k n : Nat} {j r x : Int32} {S : rl_T} {vs : List Int32} (C : rl_C M k S) (h : wx (er_1 (¬ j < 0 ∧ ¬ 2 ≤ j)) (sk_ms (st_cf M (k + 649 + 43 * j.toNatClampNeg) (k + 1)) (k + 735) j.toNatClampNeg 1 (k + 1) 2) (sk_ms (st_cf M (k + 649 + 43 * j.toNatClampNeg) (k + 1)) (k + 735) j.toNatClampNeg 1) M n r M1) (hx : x = if n = 0 then r else vs.getD (n - 1) 0) : x = cx (er_1 (¬ j < 0 ∧ ¬ 2 ≤ j)) (S.r 0) (vs.getD 0 0) (vs.getD 1 0) (vs.getD 2 0) ∧ rl_J k M (cs (er_1 (¬ j < 0 ∧ ¬ 2 ≤ j)) (a_sv S j) S) M1 := by
  refine c_act C h hx er1_le (fun z => ?_) rfl (fun z => t_save C (er1z z) _ (fun y => rfl))
  have hj := t_2 (er1z z)
  exact fun a ha => by rw [sk_nf (by omega), st_cf_f C.1.wf (by omega)]
theorem c_restore {M M1 : sk_M} {k n : Nat} {j r x : Int32} {S : rl_T} {vs : List Int32} (C : rl_C M k S) (h : wx (er_2 (¬ j < 0 ∧ ¬ 2 ≤ j) (¬ M (k + 735) j.toNatClampNeg = 0)) (sk_ms (st_cf M (k + 1) (k + 649 + 43 * j.toNatClampNeg)) (k + 44) 2 0 (k + 1) 2) (sk_ms (st_cf M (k + 1) (k + 649 + 43 * j.toNatClampNeg)) (k + 44) 2 0) M n r M1) (hx : x = if n = 0 then r else vs.getD (n - 1) 0) : x = cx (er_2 (¬ j < 0 ∧ ¬ 2 ≤ j) (¬ S.v j.toNatClampNeg = 0)) (S.q (938 * j.toNatClampNeg)) (vs.getD 0 0) (vs.getD 1 0) (vs.getD 2 0) ∧ rl_J k M (cs (er_2 (¬ j < 0 ∧ ¬ 2 ≤ j) (¬ S.v j.toNatClampNeg = 0)) (a_rs S j) S) M1 := by
  refine c_act C h hx er2_le (fun z => ?_) (er2_c Iff.rfl (fun z => by rw [(C.2.2.1 _ (t_2 z)).1])) (fun z => ?_)
  · obtain ⟨z1, z2⟩ := er2z z
    have hj := t_2 z1
    obtain ⟨v1, v2⟩ := C.2.2.1 _ hj
    obtain ⟨m, Rj⟩ := v2.resolve_left (fun q => z2 (v1.trans q))
    exact fun a ha => by rw [sk_nf (by omega), st_cf_f Rj.wf (by omega)]
  · obtain ⟨m, hm⟩ := t_rest C (er2z z).1 (er2z z).2
    obtain ⟨c1, c2⟩ := hm (fun y => S.q (938 * j.toNatClampNeg + y)) (fun y hy => rfl)
    have h4 : m ≤ 4 := c1.1.1
    have h0 : S.q (938 * j.toNatClampNeg) = nI m := c1.1.2.2.1
    have em : m = (S.q (938 * j.toNatClampNeg)).toNatClampNeg := by rw [h0, nI_clamp (by omega)]
    refine ⟨?_, c2⟩
    unfold a_rs
    rw [← em]
    exact c1
theorem c_program {M M1 : sk_M} {k n o : Nat} {s r x : Int32} {S : rl_T} (C : rl_C M k S) (H : rl_H M k o S.c S.d) (h : wv ["java/lang/IndexOutOfBoundsException", "java/lang/IllegalStateException"] (x_pp M k S.n o S.c s) (x_px M k S.n s) n r M1) (hx : x = if n = 0 then r else [-9999001, -9999003].getD (n - 1) 0) : x = cx (er_2 (mo_hs S.r s) (a_ok S = true)) (nI (a_L S).length) (-9999001) (-9999003) 0 ∧ rl_J k M (cs (er_2 (mo_hs S.r s) (a_ok S = true)) (a_pr S s) S) M1 := by
  have tx1 := tx_e C.2.2.2
  rcases wv_2 h with ⟨hn, L, N1, h1, h2, h3, h4, h5, h6, h7⟩ | ⟨hn, h1⟩ | ⟨hn, h1⟩
  · have hs := C.1.hs.mp h1
    have hl := (C.1.hx hs).2
    have hm4 := C.1.1
    have C1 : rl_C N1 k S := C.f (rl_fr.s h5)
    have H1 : rl_H N1 k o S.c S.d := H.f (fun a a1 a2 => h5.1 _ (by omega) (by omega))
    rw [tx1] at h2
    have hL : a_tx S = .inr L := h2
    have e1 : a_L S = L := by unfold a_L; rw [hL]
    have e2 : a_ok S = true := by unfold a_ok; rw [hL]; rfl
    have e0 := er2p hs e2
    rw [cx0 e0, cs0 e0]
    rw [if_pos hn] at hx
    refine ⟨by rw [hx, h6, e1], ?_, fun a ha => by
      rw [h7, pg_ce_f (by unfold st_pg; omega), re_o C1 H1 a ha]
      exact h5.1 a (by omega) (by omega)⟩
    rw [h7]
    have k1 : ∀ el ∈ L, el_ok el := tt_ok hL
    have k2 : ∀ el ∈ L, el.2.length ≤ 3 := fun el hel => by
      obtain ⟨i, hi⟩ := List.getElem?_of_mem hel
      exact (h3.2 i el hi).2.2.1
    have c := t_prog (S := S) (M := M) (M1 := N1) (R := pr_R S.r s.toNatClampNeg L) C H hs h5 h3 (pr_T_h k2) k1 h4 (fun y => rfl)
    unfold a_pr
    rw [e1]
    exact c
  · rcases h1 with ⟨-, h2, h3⟩ | ⟨e, -⟩
    · subst h3
      subst hn
      have e0 : er_2 (mo_hs S.r s) (a_ok S = true) = 1 := er2n (fun z => h2 (C.1.hs.mpr z))
      rw [cx1 e0, csn (by omega)]
      exact ⟨hx, rl_J.r C⟩
    · exact absurd e io_is
  · rcases h1 with ⟨e, -⟩ | ⟨-, h2, ⟨z, h3⟩, h4⟩
    · exact absurd e.symm io_is
    · subst hn
      rw [tx1] at h3
      have hL : a_tx S = .inl z := h3
      have e0 : er_2 (mo_hs S.r s) (a_ok S = true) = 2 := er2m (C.1.hs.mp h2) (by unfold a_ok; rw [hL]; exact Bool.false_ne_true)
      rw [cx2 e0, csn (by omega)]
      exact ⟨hx, C.f (rl_fr.s h4), rl_o.s h4⟩
theorem c_clear {M M1 : sk_M} {k : Nat} {r : Int32} {S : rl_T} (C : rl_C M k S) (h : r = M (k + 736) 1 ∧ M1 = sk_ms M (k + 736) 1 0) : r = nI S.n ∧ rl_J k M (a_cl S) M1 := by
  obtain ⟨h1, h2⟩ := h
  subst h2
  exact ⟨h1.trans C.2.2.2.2.1, t_clr C, rl_o.r.ms (by omega)⟩
theorem c_error {M M1 : sk_M} {k : Nat} {r : Int32} {S : rl_T} (C : rl_C M k S) (h : tt_q (M (k + 737)) S.n (k + 736) (k + 794) M r M1) : r = a_ep S ∧ rl_J k M S M1 := by
  have F : sk_fr (k + 736) (k + 794) M M1 := by
    rcases h with ⟨_, _, _, h⟩ | ⟨_, _, _, _, _, h⟩ <;> exact h
  refine ⟨?_, C.f (rl_fr.s F), rl_o.s F⟩
  unfold tt_q at h
  rw [tx_e C.2.2.2] at h
  unfold a_ep a_tx
  rcases h with ⟨x, h1, h2, -⟩ | ⟨L, h1, h2, -⟩
  · rw [h1]; exact h2
  · rw [h1]; exact h2
