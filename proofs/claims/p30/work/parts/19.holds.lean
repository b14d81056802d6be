/-! SkateSheet: conditions of a script -/
theorem sd_rk_2 {M : sk_M} {k f c : Nat} (h : k < c ∨ c + 9 ≤ k) : sd_rk M k f c k 2 = M f 2 := by
  rw [sd_rk, rk_l_2 h, sk_sa]
abbrev st_rv (M : sk_M) (t : Nat) : Int32 := sk_sum (fun j => sk_sum (M (t + 3 + 10 * j + 5)) (pg_n M (t + 3 + 10 * j))) (st_n M t)
def hd_r (M : sk_M) (k : Nat) : sk_M := sd_rk M (k + 747) (k + 751) (k + 738)
def hd_s (M : sk_M) (k : Nat) : sk_M := sc_ra M (k + 738) (st_pg (k + 751) (M (k + 750) 1)) (k + 753)
abbrev hd_p (M : sk_M) (k : Nat) : Prop :=
  if M (k + 750) 0 = 9 then (M (k + 750) 1 = 0 ∧ M (k + 750) 4 = 0 ∧ ¬ cm_2 M (k + 750) < st_rv M (k + 751))
  else if ¬ st_hs M (k + 751) (M (k + 750) 1) then False
  else if M (k + 750) 0 = 6 then (cm_2 (hd_r M k) (k + 750) = 0 ∧ nI (sd_cn (hd_r M k) (k + 747) (M (k + 750) 1).toNatClampNeg (st_n M (k + 751))) = hd_r M k (k + 750) 4)
  else if hd_s M k (k + 750) 0 = 7 then ¬ hd_s M k (k + 738) 14 + hd_s M k (k + 738) 15 - hd_s M k (k + 738) 16 < 10 * cm_3 (hd_s M k) (k + 750)
  else (st_hp (hd_s M k) (k + 751) (M (k + 750) 1) (hd_s M k (k + 750) 2) (hd_s M k (k + 750) 3) ∧ hd_s M k (k + 740) (3 * (hd_s M k (k + 750) 2).toNatClampNeg + (hd_s M k (k + 750) 3).toNatClampNeg) = hd_s M k (k + 750) 4)
def hd_m (M : sk_M) (k : Nat) : sk_M :=
  if M (k + 750) 0 = 9 then M else if ¬ st_hs M (k + 751) (M (k + 750) 1) then M else if M (k + 750) 0 = 6 then hd_r M k else hd_s M k
set_option maxHeartbeats 4000000 in
set_option maxRecDepth 100000 in
theorem m_X7_holds (l : Launch) {O : sk_O} (hO : sk_inj O) (M : sk_M) (k : Nat) (hk : sk_isX O k) (hw : st_wf M (k + 751)) : sk_Mi l yX7_holds (sk_w yX7_holds cX7_holds 4 (some .boolean)) ({ frames := 5, cells := 0, slots := 0, locals := 131 }) O [.ref (sk_ad O k)] M (fun r M' => r = (if hd_p M k then 1 else 0) ∧ M' = (hd_m M k)) := by
  refine sk_mi (by decide) ⟨rfl, rfl⟩ hO (Nat.le_of_ble_eq_true rfl) (fun X A Q C ret => ?_)
  show sk_W l X O A Q 4 0 0 M 0 [(0, .ref (sk_ad O k))] []
  have hw0 := hw
  obtain ⟨m, hm4, hm, hmj⟩ := hw
  have hw2 : st_wf (hd_s M k) (k + 751) := st_wf_c (fun a h1 h2 => sc_ra_f (by omega)) hw0
  refine k_aloadn C 0 dX7_holds_0 rfl ?_
  refine k_getr C (j := 7) (k' := k + 750) kcl_X7 fl_X7_55 hk.1 (by decide) rfl dX7_holds_1 ?_
  refine k_geti C (j := 1) kcl_X0 fl_X7_374 hk.2.2.2.2.2.2.2.2.1 (by decide) rfl dX7_holds_4 ?_
  refine k_istoren C [1, 0] [(0, .ref (sk_ad O k)), (1, .int (M (k + 750) 1))] dX7_holds_7 (by decide) rfl ?_
  refine k_aloadn C 0 dX7_holds_8 rfl ?_
  refine k_getr C (j := 7) (k' := k + 750) kcl_X7 fl_X7_55 hk.1 (by decide) rfl dX7_holds_9 ?_
  refine k_geti C (j := 0) kcl_X0 fl_X7_339 hk.2.2.2.2.2.2.2.2.1 (by decide) rfl dX7_holds_12 ?_
  refine k_bipush C (9) dX7_holds_15 (by decide) ?_
  refine k_cne C 57 dX7_holds_17 (by decide) (fun c17_1 => ?_) (fun c17_1 => ?_)
  ·
    refine k_aloadn C 0 dX7_holds_57 rfl ?_
    refine k_getr C (j := 8) (k' := k + 751) kcl_X7 fl_X7_59 hk.1 (by decide) rfl dX7_holds_58 ?_
    refine k_iloadn C 1 dX7_holds_61 rfl ?_
    refine k_vi C (as := [.int (M (k + 750) 1)]) yvX5_hasSkater viX5_hasSkater ml_X7_122 (m_X5_hasSkater l C.2.2.2.1 M (k := k + 751) (hk := hk.2.2.2.2.2.2.2.2.2.1) (s := M (k + 750) 1)) hk.2.2.2.2.2.2.2.2.2.1.1 rfl rfl rfl (Nat.le_of_ble_eq_true rfl) (by decide) dX7_holds_62 (fun x62_2 M62_2 h62_2 => ?_)
    rw [h62_2.1, h62_2.2]
    refine k_zne C 70 dX7_holds_65 (by decide) (fun c65_3 => ?_) (fun c65_3 => ?_)
    ·
      have nc65_3 : st_hs M (k + 751) (M (k + 750) 1) := Classical.byContradiction (fun h => c65_3 (sk_b1.mpr h))
      obtain ⟨ix, ib⟩ := sk_ix nc65_3 hm (by omega)
      refine k_aloadn C 0 dX7_holds_70 rfl ?_
      refine k_getr C (j := 7) (k' := k + 750) kcl_X7 fl_X7_55 hk.1 (by decide) rfl dX7_holds_71 ?_
      refine k_geti C (j := 0) kcl_X0 fl_X7_339 hk.2.2.2.2.2.2.2.2.1 (by decide) rfl dX7_holds_74 ?_
      refine k_bipush C (6) dX7_holds_77 (by decide) ?_
      refine k_cne C 131 dX7_holds_79 (by decide) (fun c79_4 => ?_) (fun c79_4 => ?_)
      ·
        refine k_aloadn C 0 dX7_holds_131 rfl ?_
        refine k_getr C (j := 5) (k' := k + 738) kcl_X7 fl_X7_41 hk.1 (by decide) rfl dX7_holds_132 ?_
        refine k_aloadn C 0 dX7_holds_135 rfl ?_
        refine k_getr C (j := 8) (k' := k + 751) kcl_X7 fl_X7_59 hk.1 (by decide) rfl dX7_holds_136 ?_
        refine k_getr C (j := 0) (k' := k + 752) kcl_X5 fl_X7_133 hk.2.2.2.2.2.2.2.2.2.1.1 (by decide) rfl dX7_holds_139 ?_
        refine k_iloadn C 1 dX7_holds_142 rfl ?_
        refine k_aald C (k' := k + 751 + 3 + 10 * ((M (k + 750) 1).toNatClampNeg)) ((M (k + 750) 1).toNatClampNeg) ((hk.2.2.2.2.2.2.2.2.2.1.2.1).1) (by decide) ix (by omega) rfl dX7_holds_143 ?_
        refine k_aloadn C 0 dX7_holds_144 rfl ?_
        refine k_getr C (j := 8) (k' := k + 751) kcl_X7 fl_X7_59 hk.1 (by decide) rfl dX7_holds_145 ?_
        refine k_getr C (j := 1) (k' := k + 753) kcl_X5 fl_X7_137 hk.2.2.2.2.2.2.2.2.2.1.1 (by decide) rfl dX7_holds_148 ?_
        refine k_vv C (as := [.ref (sk_ad O (k + 751 + 3 + 10 * ((M (k + 750) 1).toNatClampNeg))), .ref (sk_ad O (k + 753))]) yvX3_rate viX3_rate ml_X7_141 (m_X3_rate l C.2.2.2.1 M (k := k + 738) (g := k + 751 + 3 + 10 * ((M (k + 750) 1).toNatClampNeg)) (u := k + 753) (hk := hk.2.2.2.2.2.2.1) (hg := (hk.2.2.2.2.2.2.2.2.2.1.2.1).2 ((M (k + 750) 1).toNatClampNeg) (by omega)) (hu := hk.2.2.2.2.2.2.2.2.2.1.2.2) (hw := (hmj _ ib)) (hap := (by omega)) (hap2 := (by omega))) hk.2.2.2.2.2.2.1.1 rfl rfl rfl (Nat.le_of_ble_eq_true rfl) (by decide) dX7_holds_151 (fun M151_5 h151_5 => ?_)
        rw [h151_5]
        refine k_aloadn C 0 dX7_holds_154 rfl ?_
        refine k_getr C (j := 7) (k' := k + 750) kcl_X7 fl_X7_55 hk.1 (by decide) rfl dX7_holds_155 ?_
        refine k_geti C (j := 0) kcl_X0 fl_X7_339 hk.2.2.2.2.2.2.2.2.1 (by decide) rfl dX7_holds_158 ?_
        refine k_bipush C (7) dX7_holds_161 (by decide) ?_
        refine k_cne C 192 dX7_holds_163 (by decide) (fun c163_6 => ?_) (fun c163_6 => ?_)
        ·
          refine k_aloadn C 0 dX7_holds_192 rfl ?_
          refine k_getr C (j := 7) (k' := k + 750) kcl_X7 fl_X7_55 hk.1 (by decide) rfl dX7_holds_193 ?_
          refine k_geti C (j := 2) kcl_X0 fl_X7_383 hk.2.2.2.2.2.2.2.2.1 (by decide) rfl dX7_holds_196 ?_
          refine k_istoren C [1, 2, 0] [(0, .ref (sk_ad O k)), (1, .int (M (k + 750) 1)), (2, .int ((hd_s M k) (k + 750) 2))] dX7_holds_199 (by decide) rfl ?_
          refine k_aloadn C 0 dX7_holds_200 rfl ?_
          refine k_getr C (j := 7) (k' := k + 750) kcl_X7 fl_X7_55 hk.1 (by decide) rfl dX7_holds_201 ?_
          refine k_geti C (j := 3) kcl_X0 fl_X7_386 hk.2.2.2.2.2.2.2.2.1 (by decide) rfl dX7_holds_204 ?_
          refine k_istoren C [1, 2, 3, 0] [(0, .ref (sk_ad O k)), (1, .int (M (k + 750) 1)), (2, .int ((hd_s M k) (k + 750) 2)), (3, .int ((hd_s M k) (k + 750) 3))] dX7_holds_207 (by decide) rfl ?_
          refine k_aloadn C 0 dX7_holds_208 rfl ?_
          refine k_getr C (j := 8) (k' := k + 751) kcl_X7 fl_X7_59 hk.1 (by decide) rfl dX7_holds_209 ?_
          refine k_iloadn C 1 dX7_holds_212 rfl ?_
          refine k_iloadn C 2 dX7_holds_213 rfl ?_
          refine k_iloadn C 3 dX7_holds_214 rfl ?_
          refine k_vi C (as := [.int (M (k + 750) 1), .int ((hd_s M k) (k + 750) 2), .int ((hd_s M k) (k + 750) 3)]) yvX5_hasPart viX5_hasPart ml_X7_198 (m_X5_hasPart l C.2.2.2.1 (hd_s M k) (k := k + 751) (hk := hk.2.2.2.2.2.2.2.2.2.1) (hw := hw2) (s := M (k + 750) 1) (e := (hd_s M k) (k + 750) 2) (p := (hd_s M k) (k + 750) 3)) hk.2.2.2.2.2.2.2.2.2.1.1 rfl rfl rfl (Nat.le_of_ble_eq_true rfl) (by decide) dX7_holds_215 (fun x215_7 M215_7 h215_7 => ?_)
          rw [h215_7.1, h215_7.2]
          refine k_zeq C 248 dX7_holds_218 (by decide) (fun c218_8 => ?_) (fun c218_8 => ?_)
          ·
            have nc218_8 : ¬ (st_hp (hd_s M k) (k + 751) (M (k + 750) 1) ((hd_s M k) (k + 750) 2) ((hd_s M k) (k + 750) 3)) := sk_b1.mp c218_8
            refine k_iconst C (0) dX7_holds_248 (by decide) ?_
            exact ret _ _ _ _ dX7_holds_249 rfl (by exact ⟨(if_neg (by rw [hd_p, if_neg (show ¬ (M (k + 750) 0 = 9) from c17_1), if_neg (show ¬ (¬ st_hs M (k + 751) (M (k + 750) 1)) from fun h => h nc65_3), if_neg (show ¬ (M (k + 750) 0 = 6) from c79_4), if_neg (show ¬ (hd_s M k (k + 750) 0 = 7) from c163_6)]; exact fun h => nc218_8 h.1)).symm, by rw [hd_m, if_neg (show ¬ (M (k + 750) 0 = 9) from c17_1), if_neg (show ¬ (¬ st_hs M (k + 751) (M (k + 750) 1)) from fun h => h nc65_3), if_neg (show ¬ (M (k + 750) 0 = 6) from c79_4)]⟩)
          ·
            have nc218_8 : st_hp (hd_s M k) (k + 751) (M (k + 750) 1) ((hd_s M k) (k + 750) 2) ((hd_s M k) (k + 750) 3) := Classical.byContradiction (fun h => c218_8 (sk_b1.mpr h))
            obtain ⟨m2, hm24, hm2, hmj2⟩ := hw2
            obtain ⟨ix2, ib2⟩ := sk_ix nc218_8.1.1 hm2 (by omega)
            obtain ⟨N2, hN12, hN2, hNp2⟩ := hmj2 _ ib2
            obtain ⟨ex, eb⟩ := sk_ix nc218_8.1.2 hN2 (by omega)
            obtain ⟨np, hnp, hpp⟩ := hNp2 _ eb
            obtain ⟨px, pb⟩ := sk_ix nc218_8.2 hpp (by omega)
            refine k_aloadn C 0 dX7_holds_221 rfl ?_
            refine k_getr C (j := 5) (k' := k + 738) kcl_X7 fl_X7_41 hk.1 (by decide) rfl dX7_holds_222 ?_
            refine k_getr C (j := 1) (k' := k + 740) kcl_X3 fl_X7_218 hk.2.2.2.2.2.2.1.1 (by decide) rfl dX7_holds_225 ?_
            refine k_iconst C (3) dX7_holds_228 (by decide) ?_
            refine k_iloadn C 2 dX7_holds_229 rfl ?_
            refine k_imul C dX7_holds_230 ?_
            refine k_iloadn C 3 dX7_holds_231 rfl ?_
            refine k_iadd C dX7_holds_232 ?_
            refine k_ialdn C (3 * (hd_s M k (k + 750) 2).toNatClampNeg + (hd_s M k (k + 750) 3).toNatClampNeg) hk.2.2.2.2.2.2.1.2.2.1 (sk_nadd (sk_nmul (a := 3) rfl ex) px) (by omega) dX7_holds_233 ?_
            refine k_aloadn C 0 dX7_holds_234 rfl ?_
            refine k_getr C (j := 7) (k' := k + 750) kcl_X7 fl_X7_55 hk.1 (by decide) rfl dX7_holds_235 ?_
            refine k_geti C (j := 4) kcl_X0 fl_X7_377 hk.2.2.2.2.2.2.2.2.1 (by decide) rfl dX7_holds_238 ?_
            refine k_cne C 248 dX7_holds_241 (by decide) (fun c241_9 => ?_) (fun c241_9 => ?_)
            ·
              refine k_iconst C (0) dX7_holds_248 (by decide) ?_
              exact ret _ _ _ _ dX7_holds_249 rfl (by exact ⟨(if_neg (by rw [hd_p, if_neg (show ¬ (M (k + 750) 0 = 9) from c17_1), if_neg (show ¬ (¬ st_hs M (k + 751) (M (k + 750) 1)) from fun h => h nc65_3), if_neg (show ¬ (M (k + 750) 0 = 6) from c79_4), if_neg (show ¬ (hd_s M k (k + 750) 0 = 7) from c163_6)]; exact fun h => c241_9 h.2)).symm, by rw [hd_m, if_neg (show ¬ (M (k + 750) 0 = 9) from c17_1), if_neg (show ¬ (¬ st_hs M (k + 751) (M (k + 750) 1)) from fun h => h nc65_3), if_neg (show ¬ (M (k + 750) 0 = 6) from c79_4)]⟩)
            ·
              refine k_iconst C (1) dX7_holds_244 (by decide) ?_
              refine k_goto C 249 dX7_holds_245 (by decide) ?_
              exact ret _ _ _ _ dX7_holds_249 rfl (by exact ⟨(if_pos (by rw [hd_p, if_neg (show ¬ (M (k + 750) 0 = 9) from c17_1), if_neg (show ¬ (¬ st_hs M (k + 751) (M (k + 750) 1)) from fun h => h nc65_3), if_neg (show ¬ (M (k + 750) 0 = 6) from c79_4), if_neg (show ¬ (hd_s M k (k + 750) 0 = 7) from c163_6)]; exact ⟨nc218_8, c241_9⟩)).symm, by rw [hd_m, if_neg (show ¬ (M (k + 750) 0 = 9) from c17_1), if_neg (show ¬ (¬ st_hs M (k + 751) (M (k + 750) 1)) from fun h => h nc65_3), if_neg (show ¬ (M (k + 750) 0 = 6) from c79_4)]⟩)
        ·
          refine k_aloadn C 0 dX7_holds_166 rfl ?_
          refine k_getr C (j := 5) (k' := k + 738) kcl_X7 fl_X7_41 hk.1 (by decide) rfl dX7_holds_167 ?_
          refine k_vi C (as := []) yvX3_total viX3_total ml_X7_157 (m_X3_total l C.2.2.2.1 (hd_s M k) (k := k + 738) (hk := hk.2.2.2.2.2.2.1)) hk.2.2.2.2.2.2.1.1 rfl rfl rfl (Nat.le_of_ble_eq_true rfl) (by decide) dX7_holds_170 (fun x170_10 M170_10 h170_10 => ?_)
          rw [h170_10.1, h170_10.2]
          refine k_bipush C (10) dX7_holds_173 (by decide) ?_
          refine k_aloadn C 0 dX7_holds_175 rfl ?_
          refine k_getr C (j := 7) (k' := k + 750) kcl_X7 fl_X7_55 hk.1 (by decide) rfl dX7_holds_176 ?_
          refine k_vi C (as := []) yvX0_lastThree viX0_lastThree ml_X7_389 (m_X0_lastThree l C.2.2.2.1 (hd_s M k) (k := k + 750) (hk := hk.2.2.2.2.2.2.2.2.1)) hk.2.2.2.2.2.2.2.2.1 rfl rfl rfl (Nat.le_of_ble_eq_true rfl) (by decide) dX7_holds_179 (fun x179_11 M179_11 h179_11 => ?_)
          rw [h179_11.1, h179_11.2]
          refine k_imul C dX7_holds_182 ?_
          refine k_clt C 190 dX7_holds_183 (by decide) (fun c183_12 => ?_) (fun c183_12 => ?_)
          ·
            refine k_iconst C (0) dX7_holds_190 (by decide) ?_
            exact ret _ _ _ _ dX7_holds_191 rfl (by exact ⟨(if_neg (by rw [hd_p, if_neg (show ¬ (M (k + 750) 0 = 9) from c17_1), if_neg (show ¬ (¬ st_hs M (k + 751) (M (k + 750) 1)) from fun h => h nc65_3), if_neg (show ¬ (M (k + 750) 0 = 6) from c79_4), if_pos (show hd_s M k (k + 750) 0 = 7 from c163_6)]; exact fun h => h c183_12)).symm, by rw [hd_m, if_neg (show ¬ (M (k + 750) 0 = 9) from c17_1), if_neg (show ¬ (¬ st_hs M (k + 751) (M (k + 750) 1)) from fun h => h nc65_3), if_neg (show ¬ (M (k + 750) 0 = 6) from c79_4)]⟩)
          ·
            refine k_iconst C (1) dX7_holds_186 (by decide) ?_
            refine k_goto C 191 dX7_holds_187 (by decide) ?_
            exact ret _ _ _ _ dX7_holds_191 rfl (by exact ⟨(if_pos (by rw [hd_p, if_neg (show ¬ (M (k + 750) 0 = 9) from c17_1), if_neg (show ¬ (¬ st_hs M (k + 751) (M (k + 750) 1)) from fun h => h nc65_3), if_neg (show ¬ (M (k + 750) 0 = 6) from c79_4), if_pos (show hd_s M k (k + 750) 0 = 7 from c163_6)]; exact c183_12)).symm, by rw [hd_m, if_neg (show ¬ (M (k + 750) 0 = 9) from c17_1), if_neg (show ¬ (¬ st_hs M (k + 751) (M (k + 750) 1)) from fun h => h nc65_3), if_neg (show ¬ (M (k + 750) 0 = 6) from c79_4)]⟩)
      ·
        refine k_aloadn C 0 dX7_holds_82 rfl ?_
        refine k_getr C (j := 6) (k' := k + 747) kcl_X7 fl_X7_48 hk.1 (by decide) rfl dX7_holds_83 ?_
        refine k_aloadn C 0 dX7_holds_86 rfl ?_
        refine k_getr C (j := 8) (k' := k + 751) kcl_X7 fl_X7_59 hk.1 (by decide) rfl dX7_holds_87 ?_
        refine k_aloadn C 0 dX7_holds_90 rfl ?_
        refine k_getr C (j := 5) (k' := k + 738) kcl_X7 fl_X7_41 hk.1 (by decide) rfl dX7_holds_91 ?_
        refine k_vv C (as := [.ref (sk_ad O (k + 751)), .ref (sk_ad O (k + 738))]) yvX4_rank viX4_rank ml_X7_112 (m_X4_rank l C.2.2.2.1 M (k := k + 747) (f := k + 751) (c := k + 738) (hk := hk.2.2.2.2.2.2.2.1) (hf := hk.2.2.2.2.2.2.2.2.2.1) (hc := hk.2.2.2.2.2.2.1) (hw := hw0) (hkf := (by omega)) (hcf := (by omega)) (hkc := (by omega))) hk.2.2.2.2.2.2.2.1.1 rfl rfl rfl (Nat.le_of_ble_eq_true rfl) (by decide) dX7_holds_94 (fun M94_13 h94_13 => ?_)
        rw [h94_13]
        refine k_aloadn C 0 dX7_holds_97 rfl ?_
        refine k_getr C (j := 7) (k' := k + 750) kcl_X7 fl_X7_55 hk.1 (by decide) rfl dX7_holds_98 ?_
        refine k_vi C (as := []) yvX0_middleTwo viX0_middleTwo ml_X7_380 (m_X0_middleTwo l C.2.2.2.1 (hd_r M k) (k := k + 750) (hk := hk.2.2.2.2.2.2.2.2.1)) hk.2.2.2.2.2.2.2.2.1 rfl rfl rfl (Nat.le_of_ble_eq_true rfl) (by decide) dX7_holds_101 (fun x101_14 M101_14 h101_14 => ?_)
        rw [h101_14.1, h101_14.2]
        refine k_zne C 129 dX7_holds_104 (by decide) (fun c104_15 => ?_) (fun c104_15 => ?_)
        ·
          refine k_iconst C (0) dX7_holds_129 (by decide) ?_
          exact ret _ _ _ _ dX7_holds_130 rfl (by exact ⟨(if_neg (by rw [hd_p, if_neg (show ¬ (M (k + 750) 0 = 9) from c17_1), if_neg (show ¬ (¬ st_hs M (k + 751) (M (k + 750) 1)) from fun h => h nc65_3), if_pos (show M (k + 750) 0 = 6 from c79_4)]; exact fun h => c104_15 h.1)).symm, by rw [hd_m, if_neg (show ¬ (M (k + 750) 0 = 9) from c17_1), if_neg (show ¬ (¬ st_hs M (k + 751) (M (k + 750) 1)) from fun h => h nc65_3), if_pos (show M (k + 750) 0 = 6 from c79_4)]⟩)
        ·
          refine k_aloadn C 0 dX7_holds_107 rfl ?_
          refine k_getr C (j := 6) (k' := k + 747) kcl_X7 fl_X7_48 hk.1 (by decide) rfl dX7_holds_108 ?_
          refine k_iloadn C 1 dX7_holds_111 rfl ?_
          refine k_top (nI (M (k + 750) 1).toNatClampNeg) ix ?_
          refine k_vi C (as := [.int (nI (M (k + 750) 1).toNatClampNeg)]) yvX4_place viX4_place ml_X7_160 (m_X4_place l C.2.2.2.1 (hd_r M k) (k := k + 747) (q := (M (k + 750) 1).toNatClampNeg) (m := st_n M (k + 751)) (hk := hk.2.2.2.2.2.2.2.1) (hm := (by rw [hd_r, sd_rk_2 (by omega), st_n, hm, nI_clamp (by omega)])) (hm4 := (by rw [st_n, hm, nI_clamp (by omega)]; exact hm4)) (hq := (by omega))) hk.2.2.2.2.2.2.2.1.1 rfl rfl rfl (Nat.le_of_ble_eq_true rfl) (by decide) dX7_holds_112 (fun x112_16 M112_16 h112_16 => ?_)
          rw [h112_16.1, h112_16.2]
          refine k_aloadn C 0 dX7_holds_115 rfl ?_
          refine k_getr C (j := 7) (k' := k + 750) kcl_X7 fl_X7_55 hk.1 (by decide) rfl dX7_holds_116 ?_
          refine k_geti C (j := 4) kcl_X0 fl_X7_377 hk.2.2.2.2.2.2.2.2.1 (by decide) rfl dX7_holds_119 ?_
          refine k_cne C 129 dX7_holds_122 (by decide) (fun c122_17 => ?_) (fun c122_17 => ?_)
          ·
            refine k_iconst C (0) dX7_holds_129 (by decide) ?_
            exact ret _ _ _ _ dX7_holds_130 rfl (by exact ⟨(if_neg (by rw [hd_p, if_neg (show ¬ (M (k + 750) 0 = 9) from c17_1), if_neg (show ¬ (¬ st_hs M (k + 751) (M (k + 750) 1)) from fun h => h nc65_3), if_pos (show M (k + 750) 0 = 6 from c79_4)]; exact fun h => c122_17 h.2)).symm, by rw [hd_m, if_neg (show ¬ (M (k + 750) 0 = 9) from c17_1), if_neg (show ¬ (¬ st_hs M (k + 751) (M (k + 750) 1)) from fun h => h nc65_3), if_pos (show M (k + 750) 0 = 6 from c79_4)]⟩)
          ·
            refine k_iconst C (1) dX7_holds_125 (by decide) ?_
            refine k_goto C 130 dX7_holds_126 (by decide) ?_
            exact ret _ _ _ _ dX7_holds_130 rfl (by exact ⟨(if_pos (by rw [hd_p, if_neg (show ¬ (M (k + 750) 0 = 9) from c17_1), if_neg (show ¬ (¬ st_hs M (k + 751) (M (k + 750) 1)) from fun h => h nc65_3), if_pos (show M (k + 750) 0 = 6 from c79_4)]; exact ⟨c104_15, c122_17⟩)).symm, by rw [hd_m, if_neg (show ¬ (M (k + 750) 0 = 9) from c17_1), if_neg (show ¬ (¬ st_hs M (k + 751) (M (k + 750) 1)) from fun h => h nc65_3), if_pos (show M (k + 750) 0 = 6 from c79_4)]⟩)
    ·
      have nc65_3 : ¬ (st_hs M (k + 751) (M (k + 750) 1)) := sk_b1.mp c65_3
      refine k_iconst C (0) dX7_holds_68 (by decide) ?_
      exact ret _ _ _ _ dX7_holds_69 rfl (by exact ⟨(if_neg (by rw [hd_p, if_neg (show ¬ (M (k + 750) 0 = 9) from c17_1), if_pos (show ¬ st_hs M (k + 751) (M (k + 750) 1) from nc65_3)]; exact id)).symm, by rw [hd_m, if_neg (show ¬ (M (k + 750) 0 = 9) from c17_1), if_pos (show ¬ st_hs M (k + 751) (M (k + 750) 1) from nc65_3)]⟩)
  ·
    refine k_iloadn C 1 dX7_holds_20 rfl ?_
    refine k_zne C 55 dX7_holds_21 (by decide) (fun c21_18 => ?_) (fun c21_18 => ?_)
    ·
      refine k_iconst C (0) dX7_holds_55 (by decide) ?_
      exact ret _ _ _ _ dX7_holds_56 rfl (by exact ⟨(if_neg (by rw [hd_p, if_pos (show M (k + 750) 0 = 9 from c17_1)]; exact fun h => c21_18 h.1)).symm, by rw [hd_m, if_pos (show M (k + 750) 0 = 9 from c17_1)]⟩)
    ·
      refine k_aloadn C 0 dX7_holds_24 rfl ?_
      refine k_getr C (j := 7) (k' := k + 750) kcl_X7 fl_X7_55 hk.1 (by decide) rfl dX7_holds_25 ?_
      refine k_geti C (j := 4) kcl_X0 fl_X7_377 hk.2.2.2.2.2.2.2.2.1 (by decide) rfl dX7_holds_28 ?_
      refine k_zne C 55 dX7_holds_31 (by decide) (fun c31_19 => ?_) (fun c31_19 => ?_)
      ·
        refine k_iconst C (0) dX7_holds_55 (by decide) ?_
        exact ret _ _ _ _ dX7_holds_56 rfl (by exact ⟨(if_neg (by rw [hd_p, if_pos (show M (k + 750) 0 = 9 from c17_1)]; exact fun h => c31_19 h.2.1)).symm, by rw [hd_m, if_pos (show M (k + 750) 0 = 9 from c17_1)]⟩)
      ·
        refine k_aloadn C 0 dX7_holds_34 rfl ?_
        refine k_getr C (j := 8) (k' := k + 751) kcl_X7 fl_X7_59 hk.1 (by decide) rfl dX7_holds_35 ?_
        refine k_vi C (as := []) yvX5_reviewed viX5_reviewed ml_X7_102 (m_X5_reviewed l C.2.2.2.1 M (k := k + 751) (hk := hk.2.2.2.2.2.2.2.2.2.1) (hw := hw0)) hk.2.2.2.2.2.2.2.2.2.1.1 rfl rfl rfl (Nat.le_of_ble_eq_true rfl) (by decide) dX7_holds_38 (fun x38_20 M38_20 h38_20 => ?_)
        rw [h38_20.1, h38_20.2]
        refine k_aloadn C 0 dX7_holds_41 rfl ?_
        refine k_getr C (j := 7) (k' := k + 750) kcl_X7 fl_X7_55 hk.1 (by decide) rfl dX7_holds_42 ?_
        refine k_vi C (as := []) yvX0_middleTwo viX0_middleTwo ml_X7_380 (m_X0_middleTwo l C.2.2.2.1 M (k := k + 750) (hk := hk.2.2.2.2.2.2.2.2.1)) hk.2.2.2.2.2.2.2.2.1 rfl rfl rfl (Nat.le_of_ble_eq_true rfl) (by decide) dX7_holds_45 (fun x45_21 M45_21 h45_21 => ?_)
        rw [h45_21.1, h45_21.2]
        refine k_cgt C 55 dX7_holds_48 (by decide) (fun c48_22 => ?_) (fun c48_22 => ?_)
        ·
          refine k_iconst C (0) dX7_holds_55 (by decide) ?_
          exact ret _ _ _ _ dX7_holds_56 rfl (by exact ⟨(if_neg (by rw [hd_p, if_pos (show M (k + 750) 0 = 9 from c17_1)]; exact fun h => h.2.2 c48_22)).symm, by rw [hd_m, if_pos (show M (k + 750) 0 = 9 from c17_1)]⟩)
        ·
          refine k_iconst C (1) dX7_holds_51 (by decide) ?_
          refine k_goto C 56 dX7_holds_52 (by decide) ?_
          exact ret _ _ _ _ dX7_holds_56 rfl (by exact ⟨(if_pos (by rw [hd_p, if_pos (show M (k + 750) 0 = 9 from c17_1)]; exact ⟨c21_18, c31_19, c48_22⟩)).symm, by rw [hd_m, if_pos (show M (k + 750) 0 = 9 from c17_1)]⟩)
