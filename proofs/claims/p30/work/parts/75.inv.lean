/-! What stays true of a sheet while things are done in it -/
theorem iv.cc {r R : Nat → Int32} {m : Nat} (h0 : R 0 = r 0) (h1 : ∀ j, j < 5 → R (1 + j) = r (1 + j)) (h2 : ∀ s, s < m → R (6 + 233 * s) = r (6 + 233 * s)) (h3 : ∀ s, s < m → R (6 + 233 * s + 1) = r (6 + 233 * s + 1)) (h4 : ∀ s, s < m → ∀ y, y < 15 → R (6 + 233 * s + 2 + y) = r (6 + 233 * s + 2 + y)) (h5 : ∀ s, s < m → ∀ e, e < 12 → R (23 + 233 * s + 18 * e + 16) = r (23 + 233 * s + 18 * e + 16)) (h : iv r m) : iv R m := by
  obtain ⟨a1, a2, a3, a4⟩ := h
  refine ⟨a1, by rw [h0]; exact a2, fun j hj => by rw [h1 j hj]; exact a3 j hj, fun s hs => ?_⟩
  obtain ⟨b1, b2, b3, b4⟩ := a4 s hs
  have ec : mo_c R s = mo_c r s := by show (R _).toNatClampNeg = _; rw [h2 s hs]
  refine ⟨by rw [ec]; exact b1, by rw [h3 s hs]; exact b2, fun j hj => ?_, fun e he => ?_⟩
  · rw [mo_oc_c (r := r) (fun i hi => by rw [Nat.add_assoc (6 + 233 * s + 2), h4 s hs (5 * j + i) (by omega)])]
    exact b3 j hj
  · rw [ec] at he
    rw [h5 s hs e (by omega)]
    exact b4 e he
theorem iv.c {r R : Nat → Int32} {m : Nat} (hR : ∀ y, y < 938 → R y = r y) (h : iv r m) : iv R m := by
  have h4 := h.1
  exact h.cc (hR _ (by omega)) (fun j hj => hR _ (by omega)) (fun s hs => hR _ (by omega)) (fun s hs => hR _ (by omega)) (fun s hs y hy => hR _ (by omega)) (fun s hs e he => hR _ (by omega))
def hv (S : rl_T) (i : Nat) : Nat := (S.d (938 * i)).toNatClampNeg
def sv (S : rl_T) (j : Nat) : Nat := (S.q (938 * j)).toNatClampNeg
def iw (S : rl_T) : Prop := iv S.r S.m ∧ (∀ i, i < S.c → iv (fun y => S.d (938 * i + y)) (hv S i) ∧ (if i + 1 < S.c then hv S (i + 1) else S.m) ≤ hv S i + 1) ∧ ∀ j, j < 2 → S.v j = 0 ∨ (iv (fun y => S.q (938 * j + y)) (sv S j) ∧ 1 ≤ sv S j)
def inv (S : rl_T) : Prop := iw S ∧ 1 ≤ S.m
theorem iw.ac {S : rl_T} {R : Nat → Int32} {m : Nat} (h : iw S) (hc : S.c ≤ 14) (hR : iv R m) (hm : m ≤ S.m + 1) : iw (S.ac R m) := by
  obtain ⟨h1, h2, h3⟩ := h
  have hmc : mr_c S.c < 14 := by unfold mr_c; split <;> omega
  have er0 : (S.r 0).toNatClampNeg = S.m := by rw [h1.2.1, nI_clamp (by have := h1.1; omega)]
  have row : ∀ i y, y < 938 → i ≤ mr_c S.c → mr_d S.r S.d S.c (938 * i + y) = if i = mr_c S.c then S.r y else if S.c = 14 then S.d (938 * (i + 1) + y) else S.d (938 * i + y) := by
    intro i y hy hi
    unfold mr_d
    by_cases q : i = mr_c S.c
    · rw [if_pos q, if_pos (by omega), q, Nat.add_sub_cancel_left]
    · rw [if_neg q, if_neg (by omega)]
      by_cases w : S.c = 14
      · have e13 : mr_c S.c = 13 := by unfold mr_c; rw [if_pos w]
        rw [if_pos w, if_pos ⟨w, by omega⟩]
        congr 1
        omega
      · rw [if_neg w, if_neg (fun z => w z.1)]
  have ehv : ∀ i, i ≤ mr_c S.c → hv (S.ac R m) i = if i = mr_c S.c then S.m else if S.c = 14 then hv S (i + 1) else hv S i := by
    intro i hi
    show (mr_d S.r S.d S.c (938 * i + 0)).toNatClampNeg = _
    rw [row i 0 (by omega) hi]
    by_cases q : i = mr_c S.c
    · rw [if_pos q, if_pos q, er0]
    · rw [if_neg q, if_neg q]
      by_cases w : S.c = 14
      · rw [if_pos w, if_pos w]; rfl
      · rw [if_neg w, if_neg w]; rfl
  refine ⟨hR, fun i hi => ?_, h3⟩
  have hi2 : i < mr_c S.c + 1 := hi
  have hcc : (S.ac R m).c = mr_c S.c + 1 := rfl
  have hmm : (S.ac R m).m = m := rfl
  rw [hcc, hmm, ehv i (by omega)]
  by_cases q : i = mr_c S.c
  · rw [if_pos q, if_neg (by omega)]
    exact ⟨h1.c (fun y hy => by show mr_d S.r S.d S.c (938 * i + y) = _; rw [row i y hy (by omega), if_pos q]), hm⟩
  · rw [if_neg q, if_pos (show i + 1 < mr_c S.c + 1 by omega), ehv (i + 1) (by omega)]
    by_cases w : S.c = 14
    · have e13 : mr_c S.c = 13 := by unfold mr_c; rw [if_pos w]
      obtain ⟨g1, g2⟩ := h2 (i + 1) (by omega)
      rw [if_pos w, if_pos w]
      refine ⟨g1.c (fun y hy => by show mr_d S.r S.d S.c (938 * i + y) = _; rw [row i y hy (by omega), if_neg q, if_pos w]), ?_⟩
      by_cases z : i + 1 = mr_c S.c
      · rw [if_pos z]; rw [if_neg (by omega)] at g2; exact g2
      · rw [if_neg z]; rw [if_pos (by omega)] at g2; exact g2
    · have ec : mr_c S.c = S.c := by unfold mr_c; rw [if_neg w]
      obtain ⟨g1, g2⟩ := h2 i (by omega)
      rw [if_neg w, if_neg w]
      refine ⟨g1.c (fun y hy => by show mr_d S.r S.d S.c (938 * i + y) = _; rw [row i y hy (by omega), if_neg q, if_neg w]), ?_⟩
      by_cases z : i + 1 = mr_c S.c
      · rw [if_pos z]; rw [if_neg (by omega)] at g2; exact g2
      · rw [if_neg z]; rw [if_pos (by omega)] at g2; exact g2
theorem rl_C.c14 {M : sk_M} {k : Nat} {S : rl_T} (C : rl_C M k S) : S.c ≤ 14 := by
  obtain ⟨o, H⟩ := C.2.1
  exact H.2.2.2.1
theorem inv.ac {S : rl_T} {R : Nat → Int32} (h : inv S) (hc : S.c ≤ 14) (hR : iv R S.m) : inv (S.ac R S.m) := ⟨h.1.ac hc hR (by omega), h.2⟩
theorem inv.cs {S S' : rl_T} {er : Nat} (h : inv S) (g : er = 0 → inv S') : inv (cs er S' S) := by
  by_cases q : er = 0
  · rw [cs0 q]; exact g q
  · rw [csn q]; exact h
theorem iv_mk {r : Nat → Int32} {m s e : Nat} {v : Int32} (h : iv r m) (he : e < 12) : iv (my_w r (23 + 233 * s + 18 * e + 11) v 11 5 5) m :=
  h.cc (my_w_n (by omega) 5) (fun j hj => my_w_n (by omega) 5) (fun q hq => my_w_n (by rcases Nat.lt_trichotomy q s with w | w | w <;> omega) 5) (fun q hq => my_w_n (by rcases Nat.lt_trichotomy q s with w | w | w <;> omega) 5) (fun q hq y hy => my_w_n (by rcases Nat.lt_trichotomy q s with w | w | w <;> omega) 5) (fun q hq z hz => my_w_n (by rcases Nat.lt_trichotomy q s with w | w | w <;> rcases Nat.lt_trichotomy z e with u | u | u <;> omega) 5)
theorem iv_mu {r : Nat → Int32} {m s e d : Nat} {v : Int32} (h : iv r m) (he : e < 12) (hd : d < 18) (hd2 : d ≠ 16) : iv (mu_u r (23 + 233 * s + 18 * e + d) v) m :=
  h.cc (mu_n (by omega)) (fun j hj => mu_n (by omega)) (fun q hq => mu_n (by rcases Nat.lt_trichotomy q s with w | w | w <;> omega)) (fun q hq => mu_n (by rcases Nat.lt_trichotomy q s with w | w | w <;> omega)) (fun q hq y hy => mu_n (by rcases Nat.lt_trichotomy q s with w | w | w <;> omega)) (fun q hq z hz => mu_n (by rcases Nat.lt_trichotomy q s with w | w | w <;> rcases Nat.lt_trichotomy z e with u | u | u <;> omega))
theorem iv_fl {r : Nat → Int32} {m s e f : Nat} (h : iv r m) (he : e < 12) (hf : f ≤ 1) : iv (mu_u r (23 + 233 * s + 18 * e + 16) (nI f)) m := by
  obtain ⟨a1, a2, a3, a4⟩ := h
  refine ⟨a1, by rw [mu_n (by omega)]; exact a2, fun j hj => by rw [mu_n (by omega)]; exact a3 j hj, fun q hq => ?_⟩
  obtain ⟨b1, b2, b3, b4⟩ := a4 q hq
  have ec : mo_c (mu_u r (23 + 233 * s + 18 * e + 16) (nI f)) q = mo_c r q := by show (mu_u _ _ _ _).toNatClampNeg = _; rw [mu_n (by rcases Nat.lt_trichotomy q s with w | w | w <;> omega)]
  refine ⟨by rw [ec]; exact b1, by rw [mu_n (by rcases Nat.lt_trichotomy q s with w | w | w <;> omega)]; exact b2, fun j hj => ?_, fun z hz => ?_⟩
  · rw [mo_oc_c (r := r) (fun i hi => mu_n (by rcases Nat.lt_trichotomy q s with w | w | w <;> omega))]
    exact b3 j hj
  · rw [ec] at hz
    by_cases w : q = s ∧ z = e
    · obtain ⟨rfl, rfl⟩ := w
      rw [mu_y]
      exact ⟨f, hf, rfl⟩
    · rw [mu_n (by rcases Nat.lt_trichotomy q s with u | u | u <;> rcases Nat.lt_trichotomy z e with x | x | x <;> omega)]
      exact b4 z hz
theorem iv_pe {r : Nat → Int32} {m s p : Nat} (h : iv r m) (hp : p ≤ 9) : iv (mu_u r (6 + 233 * s + 1) (nI p)) m := by
  obtain ⟨a1, a2, a3, a4⟩ := h
  refine ⟨a1, by rw [mu_n (by omega)]; exact a2, fun j hj => by rw [mu_n (by omega)]; exact a3 j hj, fun q hq => ?_⟩
  obtain ⟨b1, b2, b3, b4⟩ := a4 q hq
  have ec : mo_c (mu_u r (6 + 233 * s + 1) (nI p)) q = mo_c r q := by show (mu_u _ _ _ _).toNatClampNeg = _; rw [mu_n (by rcases Nat.lt_trichotomy q s with w | w | w <;> omega)]
  refine ⟨by rw [ec]; exact b1, ?_, fun j hj => ?_, fun z hz => ?_⟩
  · by_cases w : q = s
    · subst w
      rw [mu_y]
      exact ⟨p, hp, rfl⟩
    · rw [mu_n (by omega)]; exact b2
  · rw [mo_oc_c (r := r) (fun i hi => mu_n (by rcases Nat.lt_trichotomy q s with w | w | w <;> omega))]
    exact b3 j hj
  · rw [ec] at hz
    rw [mu_n (by rcases Nat.lt_trichotomy q s with w | w | w <;> omega)]
    exact b4 z hz
theorem iv_se {r : Nat → Int32} {m w : Nat} {v : Int32} (h : iv r m) (hw : w < 5) (hf : st_fi (nI w) v) : iv (mu_u r (1 + w) v) m := by
  obtain ⟨a1, a2, a3, a4⟩ := h
  refine ⟨a1, by rw [mu_n (by omega)]; exact a2, fun j hj => ?_, fun q hq => ?_⟩
  · by_cases z : j = w
    · subst z
      rw [mu_y]; exact hf
    · rw [mu_n (by omega)]; exact a3 j hj
  · obtain ⟨b1, b2, b3, b4⟩ := a4 q hq
    have ec : mo_c (mu_u r (1 + w) v) q = mo_c r q := by show (mu_u _ _ _ _).toNatClampNeg = _; rw [mu_n (by omega)]
    refine ⟨by rw [ec]; exact b1, by rw [mu_n (by omega)]; exact b2, fun j hj => ?_, fun z hz => ?_⟩
    · rw [mo_oc_c (r := r) (fun i hi => mu_n (by omega))]
      exact b3 j hj
    · rw [ec] at hz
      rw [mu_n (by omega)]
      exact b4 z hz
theorem cn_b {v : Int32} (h : ¬ v < 0 ∧ ¬ 115856200 < v) : ∃ c : Nat, c ≤ 1000 ∧ x_cn v = nI c := by
  obtain ⟨hm, hn⟩ := mo_ix (m := 115856200) h rfl (by omega)
  obtain ⟨n, en⟩ : ∃ n, n = v.toNatClampNeg := ⟨_, rfl⟩
  rw [← en] at hm hn
  clear en
  subst hm
  have e1 : sk_rm (nI n) 41 = oI ((n % 41 : Nat) : Int) := by rw [← oI_n]; exact sk_nrem (b := 41) rfl rfl (by omega) (by omega)
  have e2 : sk_rm (nI n / 41) 41 = oI ((n / 41 % 41 : Nat) : Int) := by rw [← oI_n]; exact sk_nrem (b := 41) (sk_ndiv (b := 41) rfl rfl (by omega) (by omega)) rfl (by omega) (by omega)
  have e3 : sk_rm (nI n / 1681) 41 = oI ((n / 1681 % 41 : Nat) : Int) := by rw [← oI_n]; exact sk_nrem (b := 41) (sk_ndiv (b := 1681) rfl rfl (by omega) (by omega)) rfl (by omega) (by omega)
  have e4 : sk_rm (nI n / 68921) 41 = oI ((n / 68921 % 41 : Nat) : Int) := by rw [← oI_n]; exact sk_nrem (b := 41) (sk_ndiv (b := 68921) rfl rfl (by omega) (by omega)) rfl (by omega) (by omega)
  have e5 : nI n / 2825761 = oI ((n / 2825761 : Nat) : Int) := by rw [← oI_n]; exact sk_ndiv (b := 2825761) rfl rfl (by omega) (by omega)
  have hr := t3_r (a := (n % 41 : Nat)) (b := (n / 41 % 41 : Nat)) (c := (n / 1681 % 41 : Nat)) (d := (n / 68921 % 41 : Nat)) (e := (n / 2825761 : Nat)) (t := 40) (by omega) (by omega) (by omega) (by omega) (by omega)
  unfold x_cn
  rw [e1, e2, e3, e4, e5, t3_x (by omega) (by omega) (by omega) (by omega) (by omega)]
  generalize t3 (n % 41 : Nat) (n / 41 % 41 : Nat) (n / 1681 % 41 : Nat) (n / 68921 % 41 : Nat) (n / 2825761 : Nat) = z at hr
  obtain ⟨q, rfl⟩ : ∃ q : Nat, z = (q : Int) := ⟨z.toNat, by omega⟩
  rw [← oI_n]
  refine ⟨(q * 25 + 1) / 3, by omega, ?_⟩
  exact sk_ndiv (a := q * 25 + 1) (b := 3) (sk_nadd (a := q * 25) (b := 1) (sk_nmul (a := q) (b := 25) rfl rfl) rfl) rfl (by omega) (by decide)
theorem iv_co {r : Nat → Int32} {m s j : Nat} {v : Int32} (h : iv r m) (hj : j < 3) (hv : ¬ v < 0 ∧ ¬ 115856200 < v) : iv (my_w r (6 + 233 * s + 2 + 5 * j) v 41 0 5) m := by
  obtain ⟨a1, a2, a3, a4⟩ := h
  refine ⟨a1, by rw [my_w_n (by omega) 5]; exact a2, fun i hi => by rw [my_w_n (by omega) 5]; exact a3 i hi, fun q hq => ?_⟩
  obtain ⟨b1, b2, b3, b4⟩ := a4 q hq
  have ec : mo_c (my_w r (6 + 233 * s + 2 + 5 * j) v 41 0 5) q = mo_c r q := by show (my_w _ _ _ _ _ _ _).toNatClampNeg = _; rw [my_w_n (by rcases Nat.lt_trichotomy q s with w | w | w <;> omega) 5]
  refine ⟨by rw [ec]; exact b1, by rw [my_w_n (by rcases Nat.lt_trichotomy q s with w | w | w <;> omega) 5]; exact b2, fun i hi => ?_, fun z hz => ?_⟩
  · by_cases w : q = s ∧ i = j
    · obtain ⟨rfl, rfl⟩ := w
      obtain ⟨c, hc, ecn⟩ := cn_b hv
      exact ⟨c, hc, (cn_e hv).symm.trans ecn⟩
    · rw [mo_oc_c (r := r) (fun y hy => my_w_n (by rcases Nat.lt_trichotomy q s with u | u | u <;> rcases Nat.lt_trichotomy i j with x | x | x <;> omega) 5)]
      exact b3 i hi
  · rw [ec] at hz
    rw [my_w_n (by rcases Nat.lt_trichotomy q s with w | w | w <;> omega) 5]
    exact b4 z hz
theorem iv_ad {r : Nat → Int32} {m : Nat} (h : iv r m) (hm : m < 4) : iv (mu_u (mz_r r (6 + 233 * m) 233) 0 (nI (m + 1))) (m + 1) := by
  obtain ⟨a1, a2, a3, a4⟩ := h
  have hz : ∀ y, y ≠ 0 → (y < 6 + 233 * m ∨ 6 + 233 * m + 233 ≤ y) → mu_u (mz_r r (6 + 233 * m) 233) 0 (nI (m + 1)) y = r y := fun y y0 y1 => by
    rw [mu_n y0]; unfold mz_r; rw [if_neg (by omega)]
  have hz0 : ∀ y, 6 + 233 * m ≤ y → y < 6 + 233 * m + 233 → mu_u (mz_r r (6 + 233 * m) 233) 0 (nI (m + 1)) y = 0 := fun y y0 y1 => by
    rw [mu_n (by omega)]; unfold mz_r; rw [if_pos ⟨y0, y1⟩]
  refine ⟨by omega, mu_y, fun j hj => by rw [hz _ (by omega) (by omega)]; exact a3 j hj, fun q hq => ?_⟩
  by_cases w : q = m
  · subst w
    have ec : mo_c (mu_u (mz_r r (6 + 233 * q) 233) 0 (nI (q + 1))) q = 0 := by show (mu_u _ _ _ _).toNatClampNeg = _; rw [hz0 _ (by omega) (by omega)]; rfl
    refine ⟨by omega, ⟨0, by omega, hz0 _ (by omega) (by omega)⟩, fun j hj => ⟨0, by omega, ?_⟩, fun e he => by omega⟩
    rw [mo_oc_c (r := fun _ => 0) (fun i hi => hz0 _ (by omega) (by omega))]
    unfold mo_oc
    rw [ke_0 (fun _ _ => rfl)]
    decide
  · obtain ⟨b1, b2, b3, b4⟩ := a4 q (by omega)
    have ec : mo_c (mu_u (mz_r r (6 + 233 * m) 233) 0 (nI (m + 1))) q = mo_c r q := by show (mu_u _ _ _ _).toNatClampNeg = _; rw [hz _ (by omega) (by omega)]
    refine ⟨by rw [ec]; exact b1, by rw [hz _ (by omega) (by omega)]; exact b2, fun j hj => ?_, fun e he => ?_⟩
    · rw [mo_oc_c (r := r) (fun i hi => hz _ (by omega) (by omega))]
      exact b3 j hj
    · rw [ec] at he
      rw [hz _ (by omega) (by omega)]
      exact b4 e he
theorem iv_pr {r : Nat → Int32} {m s : Nat} {L : List sk_E} (h : iv r m) (hL : L.length ≤ 12) : iv (pr_R r s L) m := by
  obtain ⟨a1, a2, a3, a4⟩ := h
  have ho : ∀ y, y ≠ 6 + 233 * s → (y < 6 + 233 * s + 17 ∨ 6 + 233 * s + 17 + 216 ≤ y) → pr_R r s L y = r y := fun y h1 h2 => by
    unfold pr_R
    rw [if_neg h1, if_neg (by omega)]
  refine ⟨a1, by rw [ho _ (by omega) (by omega)]; exact a2, fun j hj => by rw [ho _ (by omega) (by omega)]; exact a3 j hj, fun q hq => ?_⟩
  obtain ⟨b1, b2, b3, b4⟩ := a4 q hq
  have h2 : ∃ p : Nat, p ≤ 9 ∧ pr_R r s L (6 + 233 * q + 1) = nI p := by rw [ho _ (by rcases Nat.lt_trichotomy q s with w | w | w <;> omega) (by rcases Nat.lt_trichotomy q s with w | w | w <;> omega)]; exact b2
  have h3 : ∀ j, j < 3 → ∃ c : Nat, c ≤ 1000 ∧ mo_oc (pr_R r s L) q j = nI c := fun j hj => by
    rw [mo_oc_c (r := r) (fun i hi => ho _ (by rcases Nat.lt_trichotomy q s with w | w | w <;> omega) (by rcases Nat.lt_trichotomy q s with w | w | w <;> omega))]
    exact b3 j hj
  by_cases w : q = s
  · subst w
    have ec : mo_c (pr_R r q L) q = L.length := by
      show (pr_R r q L _).toNatClampNeg = _
      unfold pr_R pr_T
      rw [if_pos rfl, if_pos rfl, nI_clamp (by omega)]
    refine ⟨by omega, h2, h3, fun e he => ⟨0, by omega, ?_⟩⟩
    rw [ec] at he
    unfold pr_R
    rw [if_neg (by omega), if_pos (by omega), show 23 + 233 * q + 18 * e + 16 - (6 + 233 * q) = 17 + 18 * e + 16 from by omega]
    unfold pr_T
    rw [if_neg (by omega), show (17 + 18 * e + 16 - 17) / 18 = e from by omega]
    have hg : L[e]? = some L[e] := by simp [he]
    rw [hg]
    show (if 17 ≤ 17 + 18 * e + 16 then pr_e L[e] ((17 + 18 * e + 16 - 17) % 18) else 0) = _
    rw [if_pos (by omega), show (17 + 18 * e + 16 - 17) % 18 = 16 from by omega]
    rfl
  · have ec : mo_c (pr_R r s L) q = mo_c r q := by show (pr_R _ _ _ _).toNatClampNeg = _; rw [ho _ (by omega) (by rcases Nat.lt_trichotomy q s with u | u | u <;> omega)]
    refine ⟨by rw [ec]; exact b1, h2, h3, fun e he => ?_⟩
    rw [ec] at he
    rw [ho _ (by rcases Nat.lt_trichotomy q s with u | u | u <;> omega) (by rcases Nat.lt_trichotomy q s with u | u | u <;> omega)]
    exact b4 e he
/-- the numbers of those who are asked for -/
theorem so.ex {S : rl_T} (h : so S) {s e : Int32} (g : mo_he S.r s e) : s.toNatClampNeg < S.m ∧ e.toNatClampNeg < 12 := by
  have h1 := (sk_ix g.1 h.2.1 (by have := h.1; omega)).2
  obtain ⟨e1, e2, -⟩ := h.2.2 _ h1
  exact ⟨h1, Nat.lt_of_lt_of_le (sk_ix g.2 e1 (by omega)).2 e2⟩
theorem a_un_iw {S : rl_T} (h : iw S) (hc : 0 < S.c) (h2 : 2 ≤ S.m) : inv (a_un S) := by
  obtain ⟨h1, h3, h4⟩ := h
  obtain ⟨g1, g2⟩ := h3 (S.c - 1) (by omega)
  rw [if_neg (by omega)] at g2
  have em : (a_un S).m = hv S (S.c - 1) := rfl
  refine ⟨⟨?_, fun i hi => ?_, h4⟩, by rw [em]; omega⟩
  · exact g1.c (fun y hy => if_pos hy)
  · have hi2 : i < S.c - 1 := hi
    obtain ⟨k1, k2⟩ := h3 i (by omega)
    refine ⟨k1, ?_⟩
    rw [if_pos (by omega)] at k2
    have ec : (a_un S).c = S.c - 1 := rfl
    rw [ec, em]
    by_cases q : i + 1 < S.c - 1
    · rw [if_pos q]; exact k2
    · rw [if_neg q, show S.c - 1 = i + 1 from by omega]; exact k2
theorem a_sv_iw {S : rl_T} {j : Int32} (h : inv S) (hj : ¬ j < 0 ∧ ¬ 2 ≤ j) : inv (a_sv S j) := by
  obtain ⟨⟨h1, h3, h4⟩, hm⟩ := h
  have hj2 := t_2 hj
  refine ⟨⟨h1, h3, fun i hi => ?_⟩, hm⟩
  by_cases q : i = j.toNatClampNeg
  · refine Or.inr ?_
    have e : ∀ y, y < 938 → (a_sv S j).q (938 * i + y) = S.r y := fun y hy => by
      show (if 938 * j.toNatClampNeg ≤ 938 * i + y ∧ 938 * i + y < 938 * j.toNatClampNeg + 938 then S.r (938 * i + y - 938 * j.toNatClampNeg) else S.q (938 * i + y)) = _
      rw [if_pos (by omega), q, Nat.add_sub_cancel_left]
    have em : sv (a_sv S j) i = S.m := by
      show ((a_sv S j).q (938 * i + 0)).toNatClampNeg = _
      rw [e 0 (by omega), h1.2.1, nI_clamp (by have := h1.1; omega)]
    rw [em]
    exact ⟨h1.c e, hm⟩
  · have ev : (a_sv S j).v i = S.v i := mu_n q
    have e : ∀ y, y < 938 → (a_sv S j).q (938 * i + y) = S.q (938 * i + y) := fun y hy => by
      show (if 938 * j.toNatClampNeg ≤ 938 * i + y ∧ 938 * i + y < 938 * j.toNatClampNeg + 938 then S.r (938 * i + y - 938 * j.toNatClampNeg) else S.q (938 * i + y)) = _
      rw [if_neg (by omega)]
    have em : sv (a_sv S j) i = sv S i := by
      show ((a_sv S j).q (938 * i + 0)).toNatClampNeg = (S.q (938 * i + 0)).toNatClampNeg
      rw [e 0 (by omega)]
    rw [ev, em]
    exact (h4 i hi).imp_right (fun ⟨z1, z2⟩ => ⟨z1.c e, z2⟩)
theorem a_rs_iw {S : rl_T} {j : Int32} (h : iw S) (hj : ¬ j < 0 ∧ ¬ 2 ≤ j) (hv : ¬ S.v j.toNatClampNeg = 0) : inv (a_rs S j) := by
  obtain ⟨z1, z2⟩ := (h.2.2 _ (t_2 hj)).resolve_left hv
  exact ⟨⟨z1, fun i hi => absurd hi (Nat.not_lt_zero _), h.2.2⟩, z2⟩
theorem tel_12 {s : Nat → Int32} {n : Nat} : ∀ (k a : Nat) (L L' : List sk_E), tel s n k a L = .inr L' → L'.length ≤ L.length + k
  | 0, a, L, L', h => by
    unfold tel at h
    split at h
    · cases h; omega
    · cases h
  | k + 1, a, L, L', h => by
    unfold tel at h
    split at h
    · cases h
    · split at h
      · have := tel_12 k _ _ _ h
        simp at this
        omega
      · split at h
        · cases h
          simp
        · cases h
theorem a_L_12 (S : rl_T) : (a_L S).length ≤ 12 := by
  unfold a_L
  cases q : a_tx S with
  | inl x => exact Nat.zero_le _
  | inr L =>
    have := tel_12 12 0 [] L q
    simpa using this
theorem b01 (b : Int32) : ∃ f : Nat, f ≤ 1 ∧ (if b = 0 then (0 : Int32) else 1) = nI f := by
  split
  · exact ⟨0, by omega, rfl⟩
  · exact ⟨1, by omega, rfl⟩
/-- what is done keeps it -/
theorem inv_ad {S : rl_T} (h : iw S) (hc : S.c ≤ 14) (hm : S.m < 4) : inv (a_ad S) := ⟨h.ac hc (iv_ad h.1 hm) (Nat.le_refl _), Nat.succ_pos _⟩
theorem inv_ca {S : rl_T} (h : inv S) (h0 : so S) (hc : S.c ≤ 14) {s e p v : Int32} (g : mo_wc S.r s e p v = 0) : inv (a_ca S s e p v) := by
  obtain ⟨hp, -, -⟩ := ck_0 g
  have hx := h0.ex hp.1
  have hs := (sk_ix hp.1.1 h0.2.1 (by have := h0.1; omega)).2
  obtain ⟨e1, e2, e3⟩ := h0.2.2 _ hs
  have he := (sk_ix hp.1.2 e1 (by omega)).2
  obtain ⟨f1, f2⟩ := e3 _ he
  have hp3 := (sk_ix hp.2 f1 (by omega)).2
  refine h.ac hc ?_
  have e9 : 25 + 233 * s.toNatClampNeg + 18 * e.toNatClampNeg + 3 * p.toNatClampNeg + 2 = 23 + 233 * s.toNatClampNeg + 18 * e.toNatClampNeg + (3 * p.toNatClampNeg + 4) := by omega
  rw [e9]
  exact iv_mu h.1.1 hx.2 (by omega) (by omega)
theorem inv_act {S : rl_T} (h : inv S) (h0 : so S) (hc : S.c ≤ 14) {w : Nat} (hw : w < 2147483648) : ∀ z, z < 16 → inv (act_A S w z).2 := by
  have hpr : ∀ s : Int32, inv (cs (er_2 (mo_hs S.r s) (a_ok S = true)) (a_pr S s) S) := fun s => h.cs (fun _ => h.ac hc (iv_pr h.1.1 (a_L_12 S)))
  have hmk : ∀ s e v : Int32, inv (cs (er_2 (mo_he S.r s e) (¬ v < 0 ∧ ¬ 161050 < v)) (a_mk S s e v) S) := fun s e v => h.cs (fun z => h.ac hc (iv_mk h.1.1 (h0.ex (er2z z).1).2))
  have hca : ∀ s e p v : Int32, inv (cs (mo_wc S.r s e p v) (a_ca S s e p v) S) := fun s e p v => h.cs (fun z => inv_ca h h0 hc z)
  intro z hz
  rcases (show z = 0 ∨ z = 1 ∨ z = 2 ∨ z = 3 ∨ z = 4 ∨ z = 5 ∨ z = 6 ∨ z = 7 ∨ z = 8 ∨ z = 9 ∨ z = 10 ∨ z = 11 ∨ z = 12 ∨ z = 13 ∨ z = 14 ∨ z = 15 by omega) with rfl | rfl | rfl | rfl | rfl | rfl | rfl | rfl | rfl | rfl | rfl | rfl | rfl | rfl | rfl | rfl
  · exact hpr _
  · exact hpr _
  · exact h.cs (fun z => inv_ad h.1 hc (er1z z))
  · exact hmk _ _ _
  · exact hmk _ _ _
  · exact hmk _ _ _
  · exact h.cs (fun z => h.ac hc (iv_co h.1.1 (t_3 (er2z z).1.2) (er2z z).2))
  · exact hca _ _ _ _
  · exact hca _ _ _ _
  · exact h.cs (fun z => h.ac hc (iv_mu h.1.1 (h0.ex (er1z z)).2 (by omega) (by omega)))
  · refine h.cs (fun z => h.ac hc ?_)
    obtain ⟨f, hf, ef⟩ := b01 (if w / 400 % 2 = 0 then 1 else 0)
    rw [ef]
    exact iv_fl h.1.1 (h0.ex (er1z z)).2 hf
  · refine h.cs (fun z => h.ac hc ?_)
    obtain ⟨e1, e2⟩ := mo_ix (m := 9) (er2z z).2 rfl (by omega)
    rw [e1]
    exact iv_pe h.1.1 (by omega)
  · refine h.cs (fun z => h.ac hc ?_)
    have e1 := st_fiw (er1z z)
    have hf := er1z z
    rw [e1.1] at hf
    exact iv_se h.1.1 e1.2 hf
  · show inv (if S.m < 2 then _ else _ : Int32 × rl_T).2
    by_cases q : S.m < 2
    · rw [if_pos q]; exact h
    · rw [if_neg q]
      exact h.cs (fun z => a_un_iw h.1 (er1z z) (by omega))
  · exact h.cs (fun z => a_sv_iw h (er1z z))
  · exact h.cs (fun z => a_rs_iw h.1 (er2z z).1 (er2z z).2)
/-- typing keeps it -/
theorem iw_ap {S : rl_T} {v : Int32} (h : iw S) : iw (a_ap S v) := h
theorem iw_ty {S : rl_T} {w : Nat} (h : iw S) : ∀ i, iw (ty_n S w i).1 ∧ (ty_n S w i).1.m = S.m
  | 0 => ⟨h, rfl⟩
  | i + 1 => by
    obtain ⟨i1, i2⟩ := iw_ty (w := w) h i
    have hs : ∀ k h2 T, iw T → iw (ty_s k h2 T) ∧ (ty_s k h2 T).m = T.m := fun k h2 T hT => by
      unfold ty_s
      split
      · exact ⟨hT, rfl⟩
      · exact ⟨hT, rfl⟩
    have h1 : ∀ k h2 d t T, iw T → iw (ty_1 k h2 d t T) ∧ (ty_1 k h2 d t T).m = T.m := fun k h2 d t T hT => by
      obtain ⟨k1, k2⟩ := hs k h2 T hT
      unfold ty_1
      split
      · exact ⟨k1, k2⟩
      · unfold ty_b
        split
        · exact ⟨k1, k2⟩
        · exact ⟨k1, k2⟩
    obtain ⟨j1, j2⟩ := h1 i ((ty_n S w i).2 % 8) ((ty_n S w i).2 / 8 % 6) (1 + (ty_n S w i).2 / 48 % 4) _ i1
    exact ⟨j1, j2.trans i2⟩
/-- a call and its taking back -/
theorem un_ca {S : rl_T} {R : Nat → Int32} (h0 : so S) (hR : ∀ y, 938 ≤ y → R y = S.r y) : (a_un (S.ac R S.m)).r = S.r ∧ (a_un (S.ac R S.m)).m = S.m := by
  have e : ∀ y, y < 938 → mr_d S.r S.d S.c (938 * (mr_c S.c + 1 - 1) + y) = S.r y := fun y hy => by
    unfold mr_d
    rw [Nat.add_sub_cancel, if_pos (by omega), Nat.add_sub_cancel_left]
  refine ⟨?_, ?_⟩
  · funext y
    show (if y < 938 then mr_d S.r S.d S.c (938 * (mr_c S.c + 1 - 1) + y) else R y) = _
    by_cases q : y < 938
    · rw [if_pos q]; exact e y q
    · rw [if_neg q]; exact hR y (by omega)
  · show (mr_d S.r S.d S.c (938 * (mr_c S.c + 1 - 1) + 0)).toNatClampNeg = _
    rw [e 0 (by omega), h0.2.1, nI_clamp (by have := h0.1; omega)]
/-- taken back, whatever was there holds still: the row is the one before -/
theorem a_un_ca {S : rl_T} (h : inv S) (h0 : so S) (hc : S.c ≤ 14) {R : Nat → Int32} (hR : ∀ y, 938 ≤ y → R y = S.r y) (hi : iv R S.m) : inv (a_un (S.ac R S.m)) := by
  obtain ⟨⟨h1, h3, h4⟩, hm⟩ := h
  have hac := iw.ac ⟨h1, h3, h4⟩ hc hi (Nat.le_succ _)
  obtain ⟨e1, e2⟩ := un_ca h0 hR
  refine ⟨⟨by rw [e1, e2]; exact h1, fun i hi2 => ?_, h4⟩, by rw [e2]; exact hm⟩
  have hi3 : i < mr_c S.c + 1 - 1 := hi2
  obtain ⟨k1, k2⟩ := hac.2.1 i (by show i < mr_c S.c + 1; omega)
  refine ⟨k1, ?_⟩
  have ec : (a_un (S.ac R S.m)).c = mr_c S.c + 1 - 1 := rfl
  have ec2 : (S.ac R S.m).c = mr_c S.c + 1 := rfl
  rw [ec2, if_pos (by omega)] at k2
  rw [ec]
  by_cases q : i + 1 < mr_c S.c + 1 - 1
  · rw [if_pos q]; exact k2
  · rw [if_neg q]
    have e3 : (a_un (S.ac R S.m)).m = hv (S.ac R S.m) (i + 1) := by
      show (mr_d S.r S.d S.c (938 * (mr_c S.c + 1 - 1))).toNatClampNeg = (mr_d S.r S.d S.c (938 * (i + 1))).toNatClampNeg
      rw [show mr_c S.c + 1 - 1 = i + 1 from by omega]
    rw [e3]
    exact k2
