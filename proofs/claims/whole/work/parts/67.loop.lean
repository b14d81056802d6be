/-! The law: its loop -/
theorem lw_lt {n i : Nat} (hn : n ≤ 2560) (hi : i ≤ 2570) : nI n - 5 < nI i ↔ n < i + 5 := by
  rw [Int32.lt_iff_toInt_lt, Int32.toInt_sub]
  have e1 : (nI n).toInt = (n : Int) := Int32.toInt_ofNat_of_lt (by omega)
  have e2 : (nI i).toInt = (i : Int) := Int32.toInt_ofNat_of_lt (by omega)
  have e3 : (5 : Int32).toInt = 5 := rfl
  rw [e1, e2, e3, Int.bmod_eq_of_le (by simp; omega) (by simp; omega)]
  omega
theorem lw_and (x : Int32) : ∃ z, z < 32 ∧ x &&& 31 = nI z := by
  refine ⟨(x &&& 31).toBitVec.toNat, ?_, Int32.toBitVec_inj.mp ?_⟩
  · have h : (x &&& 31).toBitVec = x.toBitVec &&& (31 : Int32).toBitVec := rfl
    rw [h, BitVec.toNat_and]
    exact Nat.lt_of_le_of_lt Nat.and_le_right (by decide)
  · show (x &&& 31).toBitVec = BitVec.ofNat 32 _
    simp
set_option maxRecDepth 100000 in
theorem lw_loop {l : Launch} {X : sk_X} {O : sk_O} {A : Nat → Prop} {Q : State → Prop} {a k w b n : Nat} {cA : ClassId} {xs : Nat → Int32} (B : lw_B l X O A a k w b n cA xs) (fin : ∀ (kc ks : Nat) (M : sk_M) (v : Int64) (i : Nat), kc ≤ 600000 → ks ≤ 7000000 → sk_L l X O A Q a cA v 7 kc ks M 1988 (lw_lv O a k w b i) []) :
    ∀ (f i kc ks : Nat) (M : sk_M) (v : Int64) (S : rl_T), n < i + 5 + 5 * f → i ≤ n + 5 → kc ≤ 1000 + i → ks ≤ 100000 + 2 * i → rl_C M k S → rl_D M w S → sk_L l X O A Q a cA v 7 kc ks M 23 (lw_lv O a k w b i) [] := by
  obtain ⟨C, L, hSr, hNx, hO, hst, hX, hkx, hkm, ap⟩ := id B
  have hn := hX.2.2.2
  intro f
  induction f with
  | zero =>
    intro i kc ks M v S hf hi hkc hks Cr D
    refine l_iload C 4 dL_law_23 rfl ?_
    refine l_aloadn C 0 dL_law_25 rfl ?_
    refine l_slen C hX dL_law_26 ?_
    refine l_iconst C 5 dL_law_27 (by decide) ?_
    refine l_isub C dL_law_28 ?_
    exact l_cgt C 1988 dL_law_29 (by decide) (fun _ => fin _ _ _ _ _ (by omega) (by omega)) (fun e => absurd ((lw_lt hn (by omega)).mpr (by omega)) e)
  | succ f ih =>
    intro i kc ks M v S hf hi hkc hks Cr D
    refine l_iload C 4 dL_law_23 rfl ?_
    refine l_aloadn C 0 dL_law_25 rfl ?_
    refine l_slen C hX dL_law_26 ?_
    refine l_iconst C 5 dL_law_27 (by decide) ?_
    refine l_isub C dL_law_28 ?_
    refine l_cgt C 1988 dL_law_29 (by decide) (fun _ => fin _ _ _ _ _ (by omega) (by omega)) (fun e => ?_)
    have hi5 : i + 5 ≤ n := Nat.le_of_not_lt (fun z => e ((lw_lt hn (by omega)).mpr z))
    have E : lw_E l X O A Q a cA k w b i kc ks := by
      intro kc' ks' M' v' S' h1 h2 c d
      refine l_iinc C 4 (nI (i + 5)) [1, 2, 3, 4, 0] (lw_lv O a k w b (i + 5)) dL_law_1982 rfl (nI_add i 5) (by decide) rfl ?_
      exact l_goto C 23 dL_law_1985 (by decide) (ih (i + 5) kc' ks' M' v' S' (by omega) (by omega) (by omega) (by omega) c d)
    refine l_aloadn C 0 dL_law_32 rfl ?_
    refine l_iload C 4 dL_law_33 rfl ?_
    refine l_sald C hX i rfl (by omega) dL_law_35 ?_
    refine l_bipush C 31 dL_law_36 (by decide) ?_
    refine l_iand C dL_law_38 ?_
    obtain ⟨z, hz, ez⟩ := lw_and (xs i)
    rw [ez]
    have h1 : kc ≤ 600000 := by omega
    have h2 : ks ≤ 7000000 := by omega
    rcases (show z = 0 ∨ z = 1 ∨ z = 2 ∨ z = 3 ∨ z = 4 ∨ z = 5 ∨ z = 6 ∨ z = 7 ∨ z = 8 ∨ z = 9 ∨ z = 10 ∨ z = 11 ∨ z = 12 ∨ z = 13 ∨ z = 14 ∨ z = 15 ∨ z = 16 ∨ z = 17 ∨ z = 18 ∨ z = 19 ∨ z = 20 ∨ z = 21 ∨ z = 22 ∨ z = 23 ∨ z = 24 ∨ z = 25 ∨ z = 26 ∨ z = 27 ∨ z = 28 ∨ z = 29 ∨ z = 30 ∨ z = 31 by omega) with rfl | rfl | rfl | rfl | rfl | rfl | rfl | rfl | rfl | rfl | rfl | rfl | rfl | rfl | rfl | rfl | rfl | rfl | rfl | rfl | rfl | rfl | rfl | rfl | rfl | rfl | rfl | rfl | rfl | rfl | rfl | rfl
    · exact l_tin C 160 121 dL_law_39 ⟨⟨by decide, by decide⟩, rfl⟩ (by decide) (lc_0 B hi5 h1 h2 Cr D E)
    · exact l_tin C 216 177 dL_law_39 ⟨⟨by decide, by decide⟩, rfl⟩ (by decide) (lc_1 B hi5 h1 h2 Cr D E)
    · exact l_tin C 229 190 dL_law_39 ⟨⟨by decide, by decide⟩, rfl⟩ (by decide) (lc_2 B hi5 h1 h2 Cr D E)
    · exact l_tin C 242 203 dL_law_39 ⟨⟨by decide, by decide⟩, rfl⟩ (by decide) (lc_3 B hi5 h1 h2 Cr D E)
    · exact l_tin C 298 259 dL_law_39 ⟨⟨by decide, by decide⟩, rfl⟩ (by decide) (lc_4 B hi5 h1 h2 Cr D E)
    · exact l_tin C 366 327 dL_law_39 ⟨⟨by decide, by decide⟩, rfl⟩ (by decide) (lc_5 B hi5 h1 h2 Cr D E)
    · exact l_tin C 446 407 dL_law_39 ⟨⟨by decide, by decide⟩, rfl⟩ (by decide) (lc_6 B hi5 h1 h2 Cr D E)
    · exact l_tin C 538 499 dL_law_39 ⟨⟨by decide, by decide⟩, rfl⟩ (by decide) (lc_7 B hi5 h1 h2 Cr D E)
    · exact l_tin C 594 555 dL_law_39 ⟨⟨by decide, by decide⟩, rfl⟩ (by decide) (lc_8 B hi5 h1 h2 Cr D E)
    · exact l_tin C 638 599 dL_law_39 ⟨⟨by decide, by decide⟩, rfl⟩ (by decide) (lc_9 B hi5 h1 h2 Cr D E)
    · exact l_tin C 694 655 dL_law_39 ⟨⟨by decide, by decide⟩, rfl⟩ (by decide) (lc_10 B hi5 h1 h2 Cr D E)
    · exact l_tin C 774 735 dL_law_39 ⟨⟨by decide, by decide⟩, rfl⟩ (by decide) (lc_11 B hi5 h1 h2 Cr D E)
    · exact l_tin C 854 815 dL_law_39 ⟨⟨by decide, by decide⟩, rfl⟩ (by decide) (lc_12 B hi5 h1 h2 Cr D E)
    · exact l_tin C 946 907 dL_law_39 ⟨⟨by decide, by decide⟩, rfl⟩ (by decide) (lc_13 B hi5 h1 h2 Cr D E)
    · exact l_tin C 1042 1003 dL_law_39 ⟨⟨by decide, by decide⟩, rfl⟩ (by decide) (lc_14 B hi5 h1 h2 Cr D E)
    · exact l_tin C 1138 1099 dL_law_39 ⟨⟨by decide, by decide⟩, rfl⟩ (by decide) (lc_15 B hi5 h1 h2 Cr D E)
    · exact l_tin C 1206 1167 dL_law_39 ⟨⟨by decide, by decide⟩, rfl⟩ (by decide) (lc_16 B hi5 h1 h2 Cr D E)
    · exact l_tin C 1274 1235 dL_law_39 ⟨⟨by decide, by decide⟩, rfl⟩ (by decide) (lc_17 B hi5 h1 h2 Cr D E)
    · exact l_tin C 1318 1279 dL_law_39 ⟨⟨by decide, by decide⟩, rfl⟩ (by decide) (lc_18 B hi5 h1 h2 Cr D E)
    · exact l_tin C 1410 1371 dL_law_39 ⟨⟨by decide, by decide⟩, rfl⟩ (by decide) (lc_19 B hi5 h1 h2 Cr D E)
    · exact l_tin C 1478 1439 dL_law_39 ⟨⟨by decide, by decide⟩, rfl⟩ (by decide) (lc_20 B hi5 h1 h2 Cr D E)
    · exact l_tin C 1546 1507 dL_law_39 ⟨⟨by decide, by decide⟩, rfl⟩ (by decide) (lc_21 B hi5 h1 h2 Cr D E)
    · exact l_tin C 1614 1575 dL_law_39 ⟨⟨by decide, by decide⟩, rfl⟩ (by decide) (lc_22 B hi5 h1 h2 Cr D E)
    · exact l_tin C 1670 1631 dL_law_39 ⟨⟨by decide, by decide⟩, rfl⟩ (by decide) (lc_23 B hi5 h1 h2 Cr D E)
    · exact l_tin C 1770 1731 dL_law_39 ⟨⟨by decide, by decide⟩, rfl⟩ (by decide) (lc_24 B hi5 h1 h2 Cr D E)
    · exact l_tin C 1870 1831 dL_law_39 ⟨⟨by decide, by decide⟩, rfl⟩ (by decide) (lc_25 B hi5 h1 h2 Cr D E)
    · exact l_tin C 1926 1887 dL_law_39 ⟨⟨by decide, by decide⟩, rfl⟩ (by decide) (lc_26 B hi5 h1 h2 Cr D E)
    · exact l_tout C 1982 dL_law_39 (Or.inr (by decide)) (by decide) (E _ _ _ _ _ (by omega) (by omega) Cr D)
    · exact l_tout C 1982 dL_law_39 (Or.inr (by decide)) (by decide) (E _ _ _ _ _ (by omega) (by omega) Cr D)
    · exact l_tout C 1982 dL_law_39 (Or.inr (by decide)) (by decide) (E _ _ _ _ _ (by omega) (by omega) Cr D)
    · exact l_tout C 1982 dL_law_39 (Or.inr (by decide)) (by decide) (E _ _ _ _ _ (by omega) (by omega) Cr D)
    · exact l_tout C 1982 dL_law_39 (Or.inr (by decide)) (by decide) (E _ _ _ _ _ (by omega) (by omega) Cr D)
