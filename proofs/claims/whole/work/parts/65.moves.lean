/-! The law: rows for its walk; what a guarded call leaves of the model (printed by l3.py) -/
section SKM
variable {l : Launch} {X : sk_X} {cc : ByteArray} {nL : Nat} {own : String} {rm : Room} {O : sk_O} {A : Nat → Prop} {Q : State → Prop} {a : Nat} {cL : ClassId} {v0 : Int64} {kc ks : Nat} {M : sk_M} {pc : Nat} {lv : List (Nat × Value)} {st : List Value}
def lw_X (X : sk_X) (A : Nat → Prop) (b n : Nat) (xs : Nat → Int32) : Prop := va_X b n xs (sk_s X) (sk_s X).heap ∧ b < (sk_s X).heap.size ∧ ¬ A b ∧ n ≤ 2560
theorem l_sald (C : sk_C X cc nL own rm O A) {b n : Nat} {xs : Nat → Int32} (hX : lw_X X A b n xs) (j : Nat) {x : Int32} (hx : x = nI j) (hj : j < n) (d : decode cc pc = .ok (.iaload, 1)) (K : sk_L l X O A Q a cL v0 nL kc ks M (pc + 1) lv (.int (xs j) :: st)) : sk_L l X O A Q a cL v0 nL kc ks M pc lv (.int x :: .ref b :: st) := by
  intro H locs ls hP ha hS hl
  subst hx
  have h31 : j < 2 ^ 31 := by have := hX.2.2.2; omega
  have hc : (nI j).toNatClampNeg = j := nI_clamp h31
  refine va_sld C.1.1 C.1.2.1 hX.1 hX.2.1 hX.2.2.1 hS (by
    intro z
    rcases z with z | z
    · exact nI_pos h31 z
    · rw [hc] at z; omega) d ?_
  rw [hc]
  exact K H locs ls hP ha hS hl
theorem l_slen (C : sk_C X cc nL own rm O A) {b n : Nat} {xs : Nat → Int32} (hX : lw_X X A b n xs) (d : decode cc pc = .ok (.arraylength, 1)) (K : sk_L l X O A Q a cL v0 nL kc ks M (pc + 1) lv (.int (nI n) :: st)) : sk_L l X O A Q a cL v0 nL kc ks M pc lv (.ref b :: st) :=
  fun H locs ls hP ha hS hl => va_slen C.1.1 C.1.2.1 hX.1 hX.2.1 hX.2.2.1 hS d (K H locs ls hP ha hS hl)
theorem l_lshl (C : sk_C X cc nL own rm O A) {x : Int64} {y : Int32} (d : decode cc pc = .ok (.lshl, 1)) (K : sk_L l X O A Q a cL v0 nL kc ks M (pc + 1) lv (.long (x <<< (y.toInt64 &&& 63)) :: st)) : sk_L l X O A Q a cL v0 nL kc ks M pc lv (.int y :: .long x :: st) :=
  fun H locs ls hP ha hS hl => lv_lshl C.1.1 C.1.2.1 d rfl (K H locs ls hP ha hS hl)
theorem l_land (C : sk_C X cc nL own rm O A) {x y : Int64} (d : decode cc pc = .ok (.land, 1)) (K : sk_L l X O A Q a cL v0 nL kc ks M (pc + 1) lv (.long (x &&& y) :: st)) : sk_L l X O A Q a cL v0 nL kc ks M pc lv (.long y :: .long x :: st) :=
  fun H locs ls hP ha hS hl => lv_land C.1.1 C.1.2.1 d (K H locs ls hP ha hS hl)
theorem l_lor (C : sk_C X cc nL own rm O A) {x y : Int64} (d : decode cc pc = .ok (.lor, 1)) (K : sk_L l X O A Q a cL v0 nL kc ks M (pc + 1) lv (.long (x ||| y) :: st)) : sk_L l X O A Q a cL v0 nL kc ks M pc lv (.long y :: .long x :: st) :=
  fun H locs ls hP ha hS hl => lv_lor C.1.1 C.1.2.1 d (K H locs ls hP ha hS hl)
theorem l_ldc2w (C : sk_C X cc nL own rm O A) {v : Int64} {idx : Nat} (hc : Cond.constantLong own idx v ∈ sk_tb) (d : decode cc pc = .ok (.ldc2_w idx, 3)) (K : sk_L l X O A Q a cL v0 nL kc ks M (pc + 3) lv (.long v :: st)) : sk_L l X O A Q a cL v0 nL kc ks M pc lv st :=
  fun H locs ls hP ha hS hl => lv_ldc2 C.1.1 C.1.2.1 C.1.2.2.2.1 (C.1.2.2.2.2 _ hc) d (K H locs ls hP ha hS hl)
theorem l_drop (is : List Nat) (lv' : List (Nat × Value)) (h : lv_pick lv is = lv') (K : sk_L l X O A Q a cL v0 nL kc ks M pc lv' st) : sk_L l X O A Q a cL v0 nL kc ks M pc lv st :=
  fun H locs ls hP ha hS hl => K H locs ls hP ha hS (lv_sub hl is h)
theorem l_bool (C : sk_C X cc nL own rm O A) {x : Int32} (t1 t2 : Nat) (d1 : decode cc pc = .ok (.ifCond .eq 7, 3)) (d2 : decode cc (pc + 3) = .ok (.iconst 1, 1)) (d3 : decode cc (pc + 3 + 1) = .ok (.goto 4, 3)) (e1 : (pc : Int) + 7 = (t1 : Int)) (d4 : decode cc t1 = .ok (.iconst 0, 1)) (e2 : ((pc + 3 + 1 : Nat) : Int) + 4 = (t2 : Int)) (e3 : t1 + 1 = t2) (K : sk_L l X O A Q a cL v0 nL kc ks M t2 lv (.int (if x = 0 then 0 else 1) :: st)) : sk_L l X O A Q a cL v0 nL kc ks M pc lv (.int x :: st) := by
  refine l_zeq C t1 d1 e1 (fun h => ?_) (fun h => ?_)
  · refine l_iconst C 0 d4 (by decide) ?_
    rw [e3]
    rw [if_pos h] at K
    exact K
  · refine l_iconst C 1 d2 (by decide) ?_
    refine l_goto C t2 d3 e2 ?_
    rw [if_neg h] at K
    exact K
end SKM
theorem lg_same (x : Int64) : lg_cmp x x = 0 := by
  unfold lg_cmp
  simp [Int64.lt_irrefl]
theorem d_3 {M M1 : sk_M} {k w x : Nat} {v r : Int32} {S : rl_T} (C : rl_C M k S) (D : rl_D M w S) (ap : rl_ap k w) (h : wx (er_1 (¬ v < 0 ∧ ¬ 5 < v)) (x_ab M k v) (x_am M k v) M x r M1) : rl_D M1 w S := by
  have D1 := D.o ap (h.k (fun _ => x_am_k)).o
  exact D1
theorem d_4 {M M1 : sk_M} {k w x : Nat} {s v r : Int32} {S : rl_T} (C : rl_C M k S) (D : rl_D M w S) (ap : rl_ap k w) (h : wx (er_2 (st_hs M (k + 1) s) (¬ v < 0 ∧ ¬ 7 < v)) (x_sk M k s v) (if v = 5 then x_RK (x_R M k (st_pg (k + 1) s)) k else x_R M k (st_pg (k + 1) s)) M x r M1) : rl_D M1 w S := by
  have hB : rl_k k M (if v = 5 then x_RK (x_R M k (st_pg (k + 1) s)) k else x_R M k (st_pg (k + 1) s)) := by
    split
    · exact x_R_k.t x_RK_k
    · exact x_R_k
  have D1 := D.o ap (h.k (fun _ => hB)).o
  exact D1
theorem d_5 {M M1 : sk_M} {k w x : Nat} {s e v r : Int32} {S : rl_T} (C : rl_C M k S) (D : rl_D M w S) (ap : rl_ap k w) (h : wx (er_2 (st_he M (k + 1) s e) (¬ v < 0 ∧ ¬ 8 < v)) (x_el M k s e v) (x_R M k (st_pg (k + 1) s)) M x r M1) : rl_D M1 w S := by
  have D1 := D.o ap (h.k (fun _ => x_R_k)).o
  exact D1
theorem d_6 {M M1 : sk_M} {k w x : Nat} {s e p v r : Int32} {S : rl_T} (C : rl_C M k S) (D : rl_D M w S) (ap : rl_ap k w) (h : wx (er_2 (st_hp M (k + 1) s e p) (¬ v < 0 ∧ ¬ 4 < v)) (x_pa M k s e p v) (x_pm M k s v) M x r M1) : rl_D M1 w S := by
  have D1 := D.o ap (h.k (fun _ => x_pm_k)).o
  exact D1
theorem d_7 {M M1 : sk_M} {k w x : Nat} {v r : Int32} {S : rl_T} (C : rl_C M k S) (D : rl_D M w S) (ap : rl_ap k w) (h : wx (er_1 (¬ v < 0 ∧ ¬ 5 ≤ v)) (M (k + 3) v.toNatClampNeg) M M x r M1) : rl_D M1 w S := by
  have D1 := D.o ap (h.k (fun _ => rl_k.r)).o
  exact D1
theorem d_18 {M M1 : sk_M} {k w x : Nat} {s e p v r : Int32} {S : rl_T} (C : rl_C M k S) (D : rl_D M w S) (ap : rl_ap k w) (h : wx (x_ck M (k + 1) s e p v) (x_ic M k s e p v (k + 738) 14 + x_ic M k s e p v (k + 738) 15 - x_ic M k s e p v (k + 738) 16) (x_ic M k s e p v) M x r M1) : rl_D M1 w S := by
  have D1 := D.o ap (h.k (fun _ => x_ic_k)).o
  exact D1
theorem d_20 {M M1 : sk_M} {k w x : Nat} {s v r : Int32} {S : rl_T} (C : rl_C M k S) (D : rl_D M w S) (ap : rl_ap k w) (h : wx (er_2 (st_hs M (k + 1) s) (¬ v < 0 ∧ ¬ 2 < v)) (bs_a (bs_o k (st_pg (k + 1) s) (pg_n M (st_pg (k + 1) s)) (bs_z M k (st_pg (k + 1) s)) (pg_n M (st_pg (k + 1) s))) v) ((bs_o k (st_pg (k + 1) s) (pg_n M (st_pg (k + 1) s)) (bs_z M k (st_pg (k + 1) s)) (pg_n M (st_pg (k + 1) s))).1) M x r M1) : rl_D M1 w S := by
  have hB : er_2 (st_hs M (k + 1) s) (¬ v < 0 ∧ ¬ 2 < v) = 0 → rl_k k M ((bs_o k (st_pg (k + 1) s) (pg_n M (st_pg (k + 1) s)) (bs_z M k (st_pg (k + 1) s)) (pg_n M (st_pg (k + 1) s))).1) := fun z => by
    have hs := C.1.hs.mp (er2z z).1
    have hx := (C.1.hx hs).2
    have h4 := C.1.1
    exact bs_k (s := s) (by unfold st_pg; omega) (C.1.P hs).wf
  have D1 := D.o ap (h.k hB).o
  exact D1
theorem d_22 {M M1 : sk_M} {k w x : Nat} {s r : Int32} {S : rl_T} (C : rl_C M k S) (D : rl_D M w S) (ap : rl_ap k w) (h : wx (er_1 (st_hs M (k + 1) s)) (x_be M k s) (x_RK M k) M x r M1) : rl_D M1 w S := by
  have D1 := D.o ap (h.k (fun _ => x_RK_k)).o
  exact D1
theorem d_24 {M M1 : sk_M} {k w x : Nat} {y : Int64} {v r : Int32} {S : rl_T} (C : rl_C M k S) (D : rl_D M w S) (ap : rl_ap k w) (h : wx (er_1 (¬ v < 1 ∧ ¬ 60 < v)) (sk_sum (si_e M k y v.toNatClampNeg (k + 748)) (st_n (si_m M k y v.toNatClampNeg) (k + 751))) (si_e M k y v.toNatClampNeg) M x r M1) : rl_D M1 w S := by
  have hB := si_e_k (x := y) C.1.wf v.toNatClampNeg
  have D1 := D.o ap (h.k (fun _ => hB)).o
  exact D1
theorem d_10 {M M1 : sk_M} {k w x o : Nat} {s e v r : Int32} {S : rl_T} (C : rl_C M k S) (D : rl_D M w S) (ap : rl_ap k w) (H : rl_H M k o S.c S.d) (h : wx (er_2 (st_he M (k + 1) s e) (¬ v < 0 ∧ ¬ 161050 < v)) (x_kn v) (if st_he (x_re M k o S.c) (k + 1) s e then sk_ms (x_re M k o S.c) (st_pg (k + 1) s + 3) e.toNatClampNeg (x_kn v) else x_re M k o S.c) M x r M1) : rl_D M1 w S := by
  have D1 := D.o ap (h.o (fun z => re_mm C H (C.1.he.mp (er2z z).1).1 (by decide)))
  exact D1
theorem d_11 {M M1 : sk_M} {k w x o : Nat} {s j v r : Int32} {S : rl_T} (C : rl_C M k S) (D : rl_D M w S) (ap : rl_ap k w) (H : rl_H M k o S.c S.d) (h : wx (er_2 (st_hs M (k + 1) s ∧ ¬ j < 0 ∧ ¬ 3 ≤ j) (¬ v < 0 ∧ ¬ 115856200 < v)) (x_cn v) (if st_hs (x_re M k o S.c) (k + 1) s ∧ ¬ j < 0 ∧ ¬ 3 ≤ j then sk_ms (x_re M k o S.c) (st_pg (k + 1) s + 9) j.toNatClampNeg (x_cn v) else x_re M k o S.c) M x r M1) : rl_D M1 w S := by
  have D1 := D.o ap (h.o (fun z => re_mm C H (C.1.hs.mp (er2z z).1.1) (by decide)))
  exact D1
theorem d_12 {M M1 : sk_M} {k w x o : Nat} {s e p v r : Int32} {S : rl_T} (C : rl_C M k S) (D : rl_D M w S) (ap : rl_ap k w) (H : rl_H M k o S.c S.d) (h : wx (x_ck M (k + 1) s e p v) (x_re M k o S.c (st_pg (k + 1) s + 8) (3 * e.toNatClampNeg + p.toNatClampNeg)) (if st_cc (x_re M k o S.c) (k + 1) s e p v then sk_ms (x_re M k o S.c) (st_pg (k + 1) s + 8) (3 * e.toNatClampNeg + p.toNatClampNeg) v else x_re M k o S.c) M x r M1) : rl_D M1 w S := by
  have D1 := D.o ap (h.o (fun z => re_mm C H (ck_0 (C.1.ck.symm.trans z)).1.1.1 (by decide)))
  exact D1
theorem d_13 {M M1 : sk_M} {k w x o : Nat} {s e b r : Int32} {S : rl_T} (C : rl_C M k S) (D : rl_D M w S) (ap : rl_ap k w) (H : rl_H M k o S.c S.d) (h : wx (er_1 (st_he M (k + 1) s e)) (st_rv (if st_he (x_re M k o S.c) (k + 1) s e then sk_ms (x_re M k o S.c) (st_pg (k + 1) s + 5) e.toNatClampNeg (if b = 0 then 0 else 1) else x_re M k o S.c) (k + 1)) (if st_he (x_re M k o S.c) (k + 1) s e then sk_ms (x_re M k o S.c) (st_pg (k + 1) s + 5) e.toNatClampNeg (if b = 0 then 0 else 1) else x_re M k o S.c) M x r M1) : rl_D M1 w S := by
  have D1 := D.o ap (h.o (fun z => re_mm C H (C.1.he.mp (er1z z)).1 (by decide)))
  exact D1
theorem d_14 {M M1 : sk_M} {k w x o : Nat} {s e b r : Int32} {S : rl_T} (C : rl_C M k S) (D : rl_D M w S) (ap : rl_ap k w) (H : rl_H M k o S.c S.d) (h : wx (er_1 (st_he M (k + 1) s e)) (sk_sum ((if st_he (x_re M k o S.c) (k + 1) s e then sk_ms (x_re M k o S.c) (st_pg (k + 1) s + 4) e.toNatClampNeg (if b = 0 then 0 else 1) else x_re M k o S.c) (st_pg (k + 1) s + 4)) (pg_n (if st_he (x_re M k o S.c) (k + 1) s e then sk_ms (x_re M k o S.c) (st_pg (k + 1) s + 4) e.toNatClampNeg (if b = 0 then 0 else 1) else x_re M k o S.c) (st_pg (k + 1) s))) (if st_he (x_re M k o S.c) (k + 1) s e then sk_ms (x_re M k o S.c) (st_pg (k + 1) s + 4) e.toNatClampNeg (if b = 0 then 0 else 1) else x_re M k o S.c) M x r M1) : rl_D M1 w S := by
  have D1 := D.o ap (h.o (fun z => re_mm C H (C.1.he.mp (er1z z)).1 (by decide)))
  exact D1
theorem d_15 {M M1 : sk_M} {k w x o : Nat} {s v r : Int32} {S : rl_T} (C : rl_C M k S) (D : rl_D M w S) (ap : rl_ap k w) (H : rl_H M k o S.c S.d) (h : wx (er_2 (st_hs M (k + 1) s) (¬ v < 0 ∧ ¬ 9 < v)) (x_re M k o S.c (st_pg (k + 1) s) 10) (if st_hs (x_re M k o S.c) (k + 1) s then sk_ms (x_re M k o S.c) (st_pg (k + 1) s) 10 v else x_re M k o S.c) M x r M1) : rl_D M1 w S := by
  have D1 := D.o ap (h.o (fun z => re_mm (d := 0) C H (C.1.hs.mp (er2z z).1) (by decide)))
  exact D1
theorem d_16 {M M1 : sk_M} {k w x o : Nat} {a v r : Int32} {S : rl_T} (C : rl_C M k S) (D : rl_D M w S) (ap : rl_ap k w) (H : rl_H M k o S.c S.d) (h : wx (er_1 (st_fi a v)) (x_re M k o S.c (k + 3) a.toNatClampNeg) (if st_fi a v then sk_ms (x_re M k o S.c) (k + 1 + 2) a.toNatClampNeg v else x_re M k o S.c) M x r M1) : rl_D M1 w S := by
  have D1 := D.o ap (h.o (fun z => (re_o C H).if ((re_o C H).ms (by omega))))
  exact D1
theorem d_8 {M M1 : sk_M} {k w x o : Nat} {r : Int32} {S : rl_T} (C : rl_C M k S) (D : rl_D M w S) (ap : rl_ap k w) (H : rl_H M k o S.c S.d) (h : wx (er_1 (S.m < 4)) (nI S.m) (x_ad M k o S.c S.m) M x r M1) : rl_D M1 w S := by
  have D1 := D.o ap (h.o (fun z => ad_o C H (er1z z)))
  exact D1
theorem d_0 {M M1 : sk_M} {k w x : Nat} {v r : Int32} {S : rl_T} (C : rl_C M k S) (D : rl_D M w S) (ap : rl_ap k w) (h : wx (er_2 (¬ v < 0 ∧ ¬ 255 < v) (S.n < 120)) (nI (S.n + 1)) (sk_ms (sk_ms M (k + 736 + 1) S.n v) (k + 736) 1 (M (k + 736) 1 + 1)) M x r M1) : rl_D M1 w S := by
  have D1 := D.o ap (h.o (fun z => ((show rl_o k M M from fun _ _ => rfl).ms (by omega)).ms (by omega)))
  exact D1
theorem d_17 {M M1 : sk_M} {k w x o : Nat} {r : Int32} {S : rl_T} (C : rl_C M k S) (D : rl_D M w S) (ap : rl_ap k w) (H : rl_H M k o S.c S.d) (h : wx (er_1 (0 < S.c)) ((if 0 < S.c then hs_tb M (k + 44) (k + 1) o S.c else M) (k + 44) 2) (if 0 < S.c then hs_tb M (k + 44) (k + 1) o S.c else M) M x r M1) : rl_D M1 w S := by
  have D1 := D.o ap (h.o (fun z => by
    rw [if_pos (er1z z)]
    exact fun a ha => (H.tb (er1z z)).2.2 a (by omega) (by omega)))
  exact D1
theorem d_25 {M M1 : sk_M} {k w x : Nat} {j r : Int32} {S : rl_T} (C : rl_C M k S) (D : rl_D M w S) (ap : rl_ap k w) (h : wx (er_1 (¬ j < 0 ∧ ¬ 2 ≤ j)) (sk_ms (st_cf M (k + 649 + 43 * j.toNatClampNeg) (k + 1)) (k + 735) j.toNatClampNeg 1 (k + 1) 2) (sk_ms (st_cf M (k + 649 + 43 * j.toNatClampNeg) (k + 1)) (k + 735) j.toNatClampNeg 1) M x r M1) : rl_D M1 w S := by
  have D1 := D.o ap (h.o (fun z => by
    have hj := t_2 (er1z z)
    exact fun a ha => by rw [sk_nf (by omega), st_cf_f C.1.wf (by omega)]))
  exact D1
theorem d_26 {M M1 : sk_M} {k w x : Nat} {j r : Int32} {S : rl_T} (C : rl_C M k S) (D : rl_D M w S) (ap : rl_ap k w) (h : wx (er_2 (¬ j < 0 ∧ ¬ 2 ≤ j) (¬ M (k + 735) j.toNatClampNeg = 0)) (sk_ms (st_cf M (k + 1) (k + 649 + 43 * j.toNatClampNeg)) (k + 44) 2 0 (k + 1) 2) (sk_ms (st_cf M (k + 1) (k + 649 + 43 * j.toNatClampNeg)) (k + 44) 2 0) M x r M1) : rl_D M1 w S := by
  have D1 := D.o ap (h.o (fun z => by
    obtain ⟨z1, z2⟩ := er2z z
    have hj := t_2 z1
    obtain ⟨v1, v2⟩ := C.2.2.1 _ hj
    obtain ⟨m, Rj⟩ := v2.resolve_left (fun q => z2 (v1.trans q))
    exact fun a ha => by rw [sk_nf (by omega), st_cf_f Rj.wf (by omega)]))
  exact D1
theorem d_9 {M M1 : sk_M} {k w x o : Nat} {s r : Int32} {S : rl_T} (C : rl_C M k S) (D : rl_D M w S) (ap : rl_ap k w) (H : rl_H M k o S.c S.d) (h : wv ["java/lang/IndexOutOfBoundsException", "java/lang/IllegalStateException"] (x_pp M k S.n o S.c s) (x_px M k S.n s) x r M1) : rl_D M1 w S := by
  have hp : ∀ E, x_px M k S.n s E M1 → rl_o k M M1 := fun E q => by
    rcases q with ⟨-, -, q⟩ | ⟨-, -, -, q⟩
    · rw [q]; exact fun _ _ => rfl
    · exact rl_o.s q
  rcases wv_2 h with ⟨hx, L, N1, h1, h2, h3, h4, h5, h6, h7⟩ | ⟨hx, h1⟩ | ⟨hx, h1⟩
  · have hs := C.1.hs.mp h1
    have hl := (C.1.hx hs).2
    have hm4 := C.1.1
    have C1 : rl_C N1 k S := C.f (rl_fr.s h5)
    have H1 : rl_H N1 k o S.c S.d := H.f (fun a a1 a2 => h5.1 _ (by omega) (by omega))
    exact D.o ap (fun a ha => by
      rw [h7, pg_ce_f (by unfold st_pg; omega), re_o C1 H1 a ha]
      exact h5.1 a (by omega) (by omega))
  · exact D.o ap (hp _ h1)
  · exact D.o ap (hp _ h1)
theorem d_19 {M M1 : sk_M} {k w x : Nat} {s e r : Int32} {S : rl_T} (C : rl_C M k S) (D : rl_D M w S) (ap : rl_ap k w) (h : wv ["java/lang/IndexOutOfBoundsException", "java/lang/IllegalStateException"] (x_rp M k S.n s e) (x_rx M k S.n s e) x r M1) : rl_D M1 w S := by
  have hp : ∀ E, x_rx M k S.n s e E M1 → rl_o k M M1 := fun E q => by
    rcases q with ⟨-, -, q⟩ | ⟨-, -, -, q⟩
    · rw [q]; exact fun _ _ => rfl
    · exact rl_o.s q
  rcases wv_2 h with ⟨hx, L, N1, h1, h2, h3, h4, h5, h6, h7⟩ | ⟨hx, h1⟩ | ⟨hx, h1⟩
  · have he := C.1.he.mp h1
    have hs4 : s.toNatClampNeg < 4 := (t_hb C.1 he).1
    have K : rl_k k N1 M1 := by rw [h7]; exact x_ir_k hs4
    exact D.o ap (fun a ha => (K.o a ha).trans (rl_o.s h5 a ha))
  · exact D.o ap (hp _ h1)
  · exact D.o ap (hp _ h1)
theorem d_21 {M M1 : sk_M} {k w x : Nat} {s e r : Int32} {S : rl_T} (C : rl_C M k S) (D : rl_D M w S) (ap : rl_ap k w) (h : wv ["java/lang/IndexOutOfBoundsException"] (nd_q M k s e) (fun E M' => E = "java/lang/IndexOutOfBoundsException" ∧ ¬ st_he M (k + 1) s e ∧ M' = M) x r M1) : rl_D M1 w S := by
  rcases wv_1 h with ⟨hx, h1, h2⟩ | ⟨hx, -, h1, h2⟩
  · have K : rl_k k M M1 := by
      rcases h2 with ⟨i, -, -, -, -, e'⟩ | ⟨-, -, e'⟩ <;> rw [e']
      · exact nd_l_k _
      · exact nd_l_k _
    exact D.o ap K.o
  · rw [h2]; exact D
theorem d_23 {M M1 : sk_M} {k w x : Nat} {v r : Int32} {y : Int64} {S : rl_T} (C : rl_C M k S) (D : rl_D M w S) (ap : rl_ap k w) (h : wv ["java/lang/IllegalArgumentException"] (rs_q M k v y) (fun E M' => E = "java/lang/IllegalArgumentException" ∧ ¬ rs_k v y ∧ M' = M) x r M1) : rl_D M1 w S := by
  rcases wv_1 h with ⟨hx, h1⟩ | ⟨hx, -, h1, h2⟩
  · exact D.o ap (w_k C.1 h1).o
  · rw [h2]; exact D
theorem d_2 {M M1 : sk_M} {k w : Nat} {r : Int32} {S : rl_T} (D : rl_D M w S) (ap : rl_ap k w) (h : tt_q (M (k + 737)) S.n (k + 736) (k + 794) M r M1) : rl_D M1 w S := by
  have F : sk_fr (k + 736) (k + 794) M M1 := by
    rcases h with ⟨_, _, _, h⟩ | ⟨_, _, _, _, _, h⟩ <;> exact h
  exact D.o ap (rl_o.s F)
