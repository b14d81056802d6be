/-! THE CLAIM OUT OF ONE WALK OF THE LAW'S BODY. Your part is whole_start (and what it stands on); all else here is the same for every law, but numbers. -/
def R_law : String := "SkateSheetLaw"
def lw_P (b : Addr) (xs : List Int32) (args : Array Value) (s : State) : Prop := args = #[.ref b] ∧ s.IntsAt b xs ∧ xs.length ≤ 260 ∧ (Jvm.Cond.and given_1 narrow_1).before args s = true
def lw_Q (_ : Array Value) (s : State) (o : Outcome) (t : State) : Prop := o = .returned (some (.int 1)) ∧ Framed s o t [] 760519 6820068
def lw_Z (below : List Frame) (a : Array Value) (s : State) : State → Prop := fun t => ∃ o, t.status = .running ∧ Ended t below o ∧ lw_Q a s o t
/-- the law's own end, with 1 on the stack, nothing written that was there before, its room as the claim has it -/
theorem lw_ret {p : Program} {l : Launch} {e : Env} {s : State} {m : MethodId} {below : List Frame} {meth : Method} {c : Code} {b : Nat} (hx : p.tables.exec = Jvm.exec) (hb : c.code = code) (hr : meth.sig.returnType = ret) (hlocks : meth.locks = false) {pc : Nat} {H : Heap} {ls : Array Slot} (hdg : decode code pc = .ok (.ireturn, 1)) : W p l e room_1 s m #[Value.ref b] below meth c H [] 760519 6820068 (lw_Z below #[Value.ref b] s) (F0 m pc ls [.int 1]) := by
  intro T hT X
  obtain ⟨fs, hret, hrun, hended, hW, hframe⟩ := X.leave (v := some (.int 1)) (hlocks := hlocks) (fun h => by rw [hr] at h; cases h)
  have hmeth' : T.vm.method? m = some meth := X.method'
  refine ⟨T.setFrames fs, ?_, .returned (some (.int 1)), hrun, hended, rfl, ⟨_, rfl⟩, hW, hframe⟩
  jvm_step X.here [X.here.top, hx, hb, hdg, hmeth', hr, ret, narrow_b1]
  (try refine ⟨rfl, ?_⟩); (try refine ⟨rfl, ?_⟩)
  first | (intro acts; rw [hret _ acts rfl rfl rfl]) | rw [hret _ _ rfl rfl rfl]
  exact Steps.refl _
/-- what holds at the law's entry: the machine, the code, the tables' words (any of lw_tbl by 'hts w (by decide +kernel)'), the script of L ints xs at the cell b, what the Statement gives of the start (any of its parts by flat_of_before) -/
def lw_At (p : Program) (s : State) (m : MethodId) (meth : Method) (c : Code) (b L : Nat) (xs : Nat → Int32) : Prop :=
  p.tables.exec = Jvm.exec ∧ c.code = code ∧ meth.sig.returnType = ret ∧ c.maxLocals = 16 ∧ s.vm.findClass R_law = some m.cls ∧ (∀ w ∈ lw_tbl, w.before #[Value.ref b] s = true) ∧ va_X b L xs s s.heap ∧ b < s.heap.size ∧ meth.locks = false ∧ (Jvm.Cond.and given_1 narrow_1).before #[Value.ref b] s = true
/-! The start: the walk to the loops -/
section
variable {l : Launch} {X : sk_X} {cc : ByteArray} {nL : Nat} {own : String} {rm : Room} {O : sk_O} {A : Nat → Prop} {Q : State → Prop} {b : Nat} {E : Nat → va_E} {kc ks t pc : Nat} {lv : List (Nat × Value)} {st : List Value}
theorem y_astoren (C : sk_YC X cc nL own rm O A b) (is : List Nat) (lv' : List (Nat × Value)) {k : Fin 4} {x : Nat} (d : decode cc pc = .ok (.astore_n k, 1)) (hn : (k : Nat) < nL) (h : lv_pick (sk_li (k : Nat) (.ref x) lv) is = lv') (K : sk_Y l X O A Q b E nL kc ks t (pc + 1) lv' st) : sk_Y l X O A Q b E nL kc ks t pc lv (.ref x :: st) :=
  fun H locs ls hz hP hS hl => lv_astore_n C.1.1 C.1.2.1 d rfl hl hn rfl (fun ls' hl' => K H locs ls' hz hP hS (lv_sub hl' is h))
end
theorem fs7_ok : ∀ j, j < 10 → defaultValue (tyX7 j) = vp_V fsX7 j := fun j hj => by
  rcases (show j = 0 ∨ j = 1 ∨ j = 2 ∨ j = 3 ∨ j = 4 ∨ j = 5 ∨ j = 6 ∨ j = 7 ∨ j = 8 ∨ j = 9 by omega) with rfl | rfl | rfl | rfl | rfl | rfl | rfl | rfl | rfl | rfl <;> rfl
set_option maxHeartbeats 4000000 in
set_option maxRecDepth 100000 in
theorem whole_start {p : Program} {e : Env} {s : State} {m : MethodId} {below : List Frame} {meth : Method} {c : Code} (l : Launch) (hflags : l.flags = flags0) {b L : Nat} {xs : Nat → Int32} (hL : L ≤ 260) (C0 : lw_At p s m meth c b L xs) : W p l e room_1 s m #[Value.ref b] below meth c s.heap [] 0 0 (lw_Z below #[Value.ref b] s) (entryFrame m ([Value.ref b] : List Value).toArray 16) := by
  obtain ⟨hx, hcode, hret, hml, hown, hts, hX, hbl, hlocks, hgv⟩ := C0
  obtain ⟨G, cy, hK, hao⟩ := lw_K hts
  obtain ⟨st, hZ⟩ := lw_Zs hgv hts
  have hSr := lw_Sr hgv hts
  have hNx := lw_Nx hgv hts
  have hst : l.stackTraces = false := by
    unfold Launch.stackTraces
    rw [hflags]
    decide
  have htb : ∀ w ∈ sk_tb, w.before #[Value.ref b] s = true := fun w hw => hts w (List.mem_filter.mp hw).1
  have C : sk_C (p, e, room_1, s, m, #[Value.ref b], below, meth, c) cL_law 16 RL room_1 (sk_O0 G s.heap.size cy st) (fun q => s.heap.size ≤ q) := ⟨⟨hx, hcode, hml, hown, htb⟩, rfl, hK _ _, O0_inj, fun k hk => Nat.le_add_right _ _, fun q hq => hq, hZ _ _ _⟩
  have Y : sk_YC (p, e, room_1, s, m, #[Value.ref b], below, meth, c) cL_law 16 RL room_1 (sk_O0 G s.heap.size cy st) (fun q => s.heap.size ≤ q) s.heap.size := ⟨C.1, rfl, hK _ _, fun _ h => h, Nat.le_refl _, hao⟩
  have B : lw_B l (p, e, room_1, s, m, #[Value.ref b], below, meth, c) (sk_O0 G s.heap.size cy st) (fun q => s.heap.size ≤ q) b L xs := ⟨C, hSr, hNx, O0_inj, hst, ⟨hX, hbl, fun h => by have h1 : s.heap.size ≤ b := h; omega⟩, hL, fun k hk e9 => by
    have h2 : s.heap.size + k = b := e9
    omega, O0_X, O0_Y⟩
  have fin : ∀ (kc : Nat) (M : sk_M) (lv : List (Nat × Value)), kc ≤ 700000 → sk_W l (p, e, room_1, s, m, #[Value.ref b], below, meth, c) (sk_O0 G s.heap.size cy st) (fun q => s.heap.size ≤ q) (lw_Z below #[Value.ref b] s) 16 kc (6 * kc) M 531 lv [.int 1] := by
    intro kc M lv h1 H locs ls hP hS hl
    refine va_forget (fun q hq => hS.2.2 q hq) ?_
    refine W.widen (k := 760519) (n := 6820068) (by omega) (by omega) ?_
    exact lw_ret hx hcode hret hlocks dL_law_531
  have start : sk_Y l (p, e, room_1, s, m, #[Value.ref b], below, meth, c) (sk_O0 G s.heap.size cy st) (fun q => s.heap.size ≤ q) (lw_Z below #[Value.ref b] s) s.heap.size (fun _ => .inr (0, [])) 16 0 0 0 0 [(0, .ref b)] [] := by
    refine y_new Y kcl_X7 tyX7 tyX7_ok (fs := fsX7) fs7_ok cll_L_8 nw_X7 ini_SkateSheet ⟨Nat.le_of_ble_eq_true rfl, Nat.le_of_ble_eq_true rfl⟩ dL_law_0 ?_
    refine y_dup Y dL_law_3 rfl ?_
    refine y_ctor Y yvX7_init rfl vjX7_init ml_L_200 (j_X7 l O0_ad sk_M0 0 _ O0_X (M0_X (Or.inl rfl)) eu_y) (Nat.le_of_ble_eq_true rfl) ⟨⟨Nat.le_of_ble_eq_true rfl, Nat.le_of_ble_eq_true rfl⟩, Nat.le_of_ble_eq_true rfl, Nat.le_of_ble_eq_true rfl⟩ dL_law_4 ?_
    refine y_astoren Y [1, 0] [(0, .ref b), (1, .ref (s.heap.size + 0))] dL_law_7 (by decide) rfl ?_
    refine y_new Y kcl_X7 tyX7 tyX7_ok (fs := fsX7) fs7_ok cll_L_8 nw_X7 ini_SkateSheet ⟨Nat.le_of_ble_eq_true rfl, Nat.le_of_ble_eq_true rfl⟩ dL_law_8 ?_
    refine y_dup Y dL_law_11 rfl ?_
    refine y_ctor Y (k := 804) yvX7_init rfl vjX7_init ml_L_200 (j_X7 l O0_ad sk_M0 804 _ O0_Y (M0_X (Or.inr rfl)) eu_y) (Nat.le_of_ble_eq_true rfl) ⟨⟨Nat.le_of_ble_eq_true rfl, Nat.le_of_ble_eq_true rfl⟩, Nat.le_of_ble_eq_true rfl, Nat.le_of_ble_eq_true rfl⟩ dL_law_12 ?_
    refine y_astoren Y [1, 2, 0] [(0, .ref b), (1, .ref (s.heap.size + 0)), (2, .ref (s.heap.size + 804))] dL_law_15 (by decide) rfl ?_
    refine y_eq (E' := fun i => sk_el (sk_ad (sk_O0 G s.heap.size cy st)) (sk_cy (sk_O0 G s.heap.size cy st)) (sk_sh (sk_O0 G s.heap.size cy st) i) (sk_M0 i)) (fun i hi => ?_) ?_
    · have hi2 : i < 1608 := hi
      by_cases q : i < 804
      · rw [ef_lt (Or.inl q), eu_n (show i ≠ 0 + 804 by omega), ef_in ⟨Nat.zero_le _, by omega⟩]
      · rw [ef_in ⟨by omega, by omega⟩]
    · intro H locs ls hz hP hS hl
      have hsz : H.size = s.heap.size + 1608 := hP.1
      have K : sk_W l (p, e, room_1, s, m, #[Value.ref b], below, meth, c) (sk_O0 G s.heap.size cy st) (fun q => s.heap.size ≤ q) (lw_Z below #[Value.ref b] s) 16 5000 (6 * 5000) sk_M0 16 [(0, .ref b), (1, .ref (s.heap.size + 0)), (2, .ref (s.heap.size + 804))] [] := by
        refine k_iconst C 1 dL_law_16 (by decide) ?_
        refine k_istoren C [1, 2, 3, 0] [(0, .ref b), (1, .ref (s.heap.size + 0)), (2, .ref (s.heap.size + 804)), (3, .int 1)] dL_law_17 (by decide) rfl ?_
        refine k_iconst C 0 dL_law_18 (by decide) ?_
        refine k_istore C [1, 2, 3, 4, 0] [(0, .ref b), (1, .ref (s.heap.size + 0)), (2, .ref (s.heap.size + 804)), (3, .int 1), (4, .int (nI 0))] dL_law_19 (by decide) rfl ?_
        exact lw_begin B fin 2 0 sk_M0 sk_S0 rfl (S0_C (Or.inl rfl)) (S0_C (Or.inr rfl)) S0_iw rfl
      have KW := K H locs ls (fun k q hk => by
        obtain ⟨h1, rfl⟩ := sk_get hk
        exact hP.2 k h1) hS hl
      exact W.widen (Nat.le_of_ble_eq_true rfl) (Nat.le_of_ble_eq_true rfl) KW
  rw [lg_entry_eq]
  exact start s.heap [] _ trivial ⟨rfl, fun k hk => absurd hk (Nat.not_lt_zero _)⟩ va_S.rf (lv_entry [.ref b] (Nat.le_of_ble_eq_true rfl))
set_option maxHeartbeats 4000000 in
theorem lw_walk (l : Launch) (hflags : l.flags = flags0) (b : Addr) (xs : List Int32) : MetFree l x (headSpec (Jvm.Cond.code x code maxLocals ret :: tables_1) room_1) (lw_P b xs) (fun _ _ _ _ _ => True) lw_Q := by
  refine MetFree.of_bodyS (code := code) (maxLocals := maxLocals) (ret := ret) (by decide) ?_ ?_
  · intro args s m h hn
    obtain ⟨meth, c, h1, h2, h3, h4, h5, h6, -, -⟩ := Cond.code_spec hn (atoms_spec (ws := Jvm.Cond.code x code maxLocals ret :: tables_1) h _ List.mem_cons_self)
    exact ⟨meth, c, h1, h2, h3, h4, h5, h6⟩
  · intro p e s m args below meth c s₁ B hml0 hP _
    obtain ⟨rfl, hx, hbd, hgv⟩ := hP
    obtain ⟨scr, harrAt, hlist, hof, hsmall⟩ := hx
    obtain ⟨hcb, hkn, -, -⟩ := State.arrayAt?_spec harrAt
    have hown : s.vm.findClass R_law = some m.cls := findClass_of_methodNamed B.named
    have hts0 : ∀ c ∈ (Jvm.Cond.code x code maxLocals ret :: tables_1), c.before #[Value.ref b] s = true := atoms_spec (ws := Jvm.Cond.code x code maxLocals ret :: tables_1) B.pre
    have hts : ∀ w ∈ lw_tbl, w.before #[Value.ref b] s = true := k2_hts_sels lw_privs (fun w hw => hts0 w (List.mem_cons_of_mem _ hw)) lw_privs_ok
    have hml : c.maxLocals = 16 := B.maxLocals_eq (hts0 _ List.mem_cons_self)
    have X₀ : Stand p l e room_1 s m #[Value.ref b] below meth c s₁ [] 0 0 := Stand.of_body B
    have hh0 : s₁.heap = s.heap := by rw [B.state]; rfl
    have hsz : scr.slots.size = xs.length := by rw [← Array.length_toList, hlist, List.length_map]
    have hval : ∀ j : Nat, j < xs.length → scr.slots[j]? = some (.int (xs.getD j 0)) := fun j hj => by
      rw [← Array.getElem?_toList, hlist]
      simp [hj]
    have hbl : b < s.heap.size := (Array.getElem?_eq_some_iff.mp hcb).1
    have hX : va_X b xs.length (fun j => xs.getD j 0) s s.heap := ⟨scr, hcb, hof, hkn, hsz, hval⟩
    have K : W p l e room_1 s m #[Value.ref b] below meth c s₁.heap [] 0 0 (lw_Z below #[Value.ref b] s) (entryFrame m ([Value.ref b] : List Value).toArray 16) := by
      rw [hh0]
      exact whole_start l hflags hbd ⟨B.exec, B.bytes, B.returns, hml, hown, hts, hX, hbl, B.notSynchronized, hgv⟩
    obtain ⟨t, a1, o, b1, b2, b3⟩ := K s₁ rfl X₀
    exact ⟨t, o, a1, b1, b2, b3⟩
theorem lw_pre_spec {args : Array Value} {s : State} (h : (Jvm.Cond.and given_1 narrow_1).before args s = true) (hr : rest_1_c.before args s = true) : ∃ (b : Addr) (xs : List Int32), lw_P b xs args s := by
  have hs := flat_of_before _ h
  have hq := flat_of_before _ hr
  have hc : (Cond.count 1).before args s = true := hs _ (by decide +kernel)
  have harr : (Cond.arrayOf (.arg 0) .int).before args s = true := hs _ (by decide +kernel)
  have hle : (Cond.le (.length (.arg 0)) (.int 260)).before args s = true := hs _ (by decide +kernel)
  have hlen : (Cond.isInt (.length (.arg 0))).before args s = true := hq _ (by decide +kernel)
  have hall : (Cond.all (.arg 0) (.isInt (.elem (.arg 0) (.index 0)))).before args s = true := hq _ (by decide +kernel)
  obtain ⟨b, xs, hb, hx⟩ := State.ints_of_pre rfl harr hlen hall
  have hsm : xs.length < 2 ^ 31 := hx.choose_spec.2.2.2
  have hev : (Term.length (.arg 0)).eval args s none [] s = some (.int xs.length.toInt32) := hx.length_eval hb
  have hv := Cond.le_ints hev (show (Term.int 260).eval args s none [] s = some (.int 260) from rfl)
  have hd : xs.length.toInt32 ≤ 260 := by
    simpa [Cond.before, Cond.holds, hv] using hle
  have hN : xs.length ≤ 260 := (Int32.ofNat_le_ofNat hsm (by decide)).mp (show Int32.ofNat xs.length ≤ Int32.ofNat 260 from hd)
  exact ⟨b, xs, Cond.one_arg hc (show args[0]? = some (.ref b) from hb), hx, hN, h⟩
theorem lw_comes (l : Launch) (hflags : l.flags = flags0) : Comes l x (Jvm.Cond.code x code maxLocals ret :: tables_1) room_1 (fun tb e args s => Calls_1 tb e args s ∧ rest_1 tb e args s ∧ Pre_1 tb e args s)
    (fun _ _ args s o t => lw_Q args s o t) := by
  intro p e ha hc hk s m args below hf hfit hheap happ hpre
  obtain ⟨b, xs, hP⟩ := lw_pre_spec hpre.2.2 hpre.2.1
  obtain ⟨k, o, h1, h2, h3, hQ⟩ := lw_walk l hflags b xs p e ha hc hk s m args below hf ((Spec.applies_iff_loose hf).mp happ).1 hP trivial
  exact ⟨k, o, h1, h2, h3, hQ⟩
theorem lw_frame {s t : State} {o : Outcome} {args : Array Value} (h : Framed s o t [] 760519 6820068) :
    Framed s o t (fieldLocs frame_1_writes args s ++ arrayLocs frame_1_arrays args s ++ staticLocs frame_1_statics s) 760519 6820068 := h
theorem lw_limb (L : Cond) (hL : ∀ (args : Array Value) (s t : State), L.after args s (.returned (some (.int 1))) t = true) :
    ArmFor flags0 classFile x code maxLocals ret World_1 tables_1 room_1 Calls_1 rest_1 Pre_1
      (fun tb e a s o t => postC L tb e a s o t ∧ Framed s o t (fieldLocs frame_1_writes a s ++ arrayLocs frame_1_arrays a s ++ staticLocs frame_1_statics s) 760519 6820068) := by
  intro l hflags _ _ p e ha hc hk s m args below hf hfit hheap happ hpre
  obtain ⟨k, o, h1, h2, h3, rfl, hF⟩ := lw_comes l hflags p e ha hc hk s m args below hf hfit hheap happ hpre
  exact ⟨k, _, h1, h2, h3, hL args s _, lw_frame hF⟩
theorem i_vc : Claimed_1_1 ∧ Claimed_1_2 := ⟨lw_limb limb_1_1 (fun args s t => by simp [limb_1_1, Cond.after, Cond.holds, Cond.value]), lw_limb limb_1_2 (fun args s t => Cond.after_iff.mpr (by
  first | (rw [show limb_1_2 = Cond.eq .result (.int 1) from rfl, Cond.eq_ints (x := 1) (y := 1) rfl rfl]; simp; done) | (simp [limb_1_2, Cond.value, Term.eval]; done)))⟩
