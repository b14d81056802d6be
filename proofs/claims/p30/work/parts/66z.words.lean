set_option maxRecDepth 1000000 in
set_option maxHeartbeats 4000000 in
theorem yvL_holds : sk_yv yL_holds cL_holds 21 (some .boolean) 2 := ⟨sk_wd 945 rfl (by decide +kernel), ini_SkateSheetLaw, by decide +kernel, by decide +kernel⟩
