section
-- ===== PART A: goes FIRST, ahead of the names: the tables' words, and 'selects' of the private methods out of them =====
/-- a private method of a class that the tables say can be made, by its rows of tables_1 -/
def lw_okq (q : MethodName × Nat) : Prop := (q.1.cls ≠ "java/lang/invoke/MethodHandle" ∧ q.1.cls ≠ "java/lang/invoke/VarHandle") ∧ Cond.instantiable q.1.cls q.2 ∈ tables_1 ∧ Cond.privateMethod q.1 ∈ tables_1 ∧ Cond.instanceMethod q.1 ∈ tables_1
theorem lw_p0 : lw_okq (⟨"SkateSheet$Text", "readElement", "(LSkateSheet$Program;)Z"⟩, 3) := ⟨⟨by decide +kernel, by decide +kernel⟩, List.mem_of_getElem? (i := 141) (by decide +kernel), List.mem_of_getElem? (i := 318) (by decide +kernel), List.mem_of_getElem? (i := 319) (by decide +kernel)⟩
theorem lw_p1 : lw_okq (⟨"SkateSheet$Text", "sign", "()I"⟩, 3) := ⟨⟨by decide +kernel, by decide +kernel⟩, List.mem_of_getElem? (i := 141) (by decide +kernel), List.mem_of_getElem? (i := 322) (by decide +kernel), List.mem_of_getElem? (i := 323) (by decide +kernel)⟩
theorem lw_p2 : lw_okq (⟨"SkateSheet$Text", "readLevel", "(LSkateSheet$Program;I)Z"⟩, 3) := ⟨⟨by decide +kernel, by decide +kernel⟩, List.mem_of_getElem? (i := 141) (by decide +kernel), List.mem_of_getElem? (i := 326) (by decide +kernel), List.mem_of_getElem? (i := 327) (by decide +kernel)⟩
theorem lw_p3 : lw_okq (⟨"SkateSheet$Text", "readChain", "(LSkateSheet$Program;)Z"⟩, 3) := ⟨⟨by decide +kernel, by decide +kernel⟩, List.mem_of_getElem? (i := 141) (by decide +kernel), List.mem_of_getElem? (i := 338) (by decide +kernel), List.mem_of_getElem? (i := 339) (by decide +kernel)⟩
theorem lw_p4 : lw_okq (⟨"SkateSheet$Text", "readJump", "(LSkateSheet$Program;)Z"⟩, 3) := ⟨⟨by decide +kernel, by decide +kernel⟩, List.mem_of_getElem? (i := 141) (by decide +kernel), List.mem_of_getElem? (i := 342) (by decide +kernel), List.mem_of_getElem? (i := 343) (by decide +kernel)⟩
theorem lw_p5 : lw_okq (⟨"java/lang/Throwable", "fillInStackTrace", "(I)Ljava/lang/Throwable;"⟩, 6) := ⟨⟨by decide +kernel, by decide +kernel⟩, List.mem_of_getElem? (i := 402) (by decide +kernel), List.mem_of_getElem? (i := 400) (by decide +kernel), List.mem_of_getElem? (i := 401) (by decide +kernel)⟩
theorem lw_p6 : lw_okq (⟨"SkateSheet$Scoring", "startOver", "()V"⟩, 17) := ⟨⟨by decide +kernel, by decide +kernel⟩, List.mem_of_getElem? (i := 159) (by decide +kernel), List.mem_of_getElem? (i := 493) (by decide +kernel), List.mem_of_getElem? (i := 494) (by decide +kernel)⟩
theorem lw_p7 : lw_okq (⟨"SkateSheet$Scoring", "rateElement", "(LSkateSheet$Program;I[I)V"⟩, 17) := ⟨⟨by decide +kernel, by decide +kernel⟩, List.mem_of_getElem? (i := 159) (by decide +kernel), List.mem_of_getElem? (i := 500) (by decide +kernel), List.mem_of_getElem? (i := 501) (by decide +kernel)⟩
theorem lw_p8 : lw_okq (⟨"SkateSheet$Scoring", "countsTooMany", "(I[I)Z"⟩, 17) := ⟨⟨by decide +kernel, by decide +kernel⟩, List.mem_of_getElem? (i := 159) (by decide +kernel), List.mem_of_getElem? (i := 504) (by decide +kernel), List.mem_of_getElem? (i := 505) (by decide +kernel)⟩
theorem lw_p9 : lw_okq (⟨"SkateSheet$Scoring", "reasonOf", "(LSkateSheet$Program;IIZZ)I"⟩, 17) := ⟨⟨by decide +kernel, by decide +kernel⟩, List.mem_of_getElem? (i := 159) (by decide +kernel), List.mem_of_getElem? (i := 508) (by decide +kernel), List.mem_of_getElem? (i := 509) (by decide +kernel)⟩
theorem lw_p10 : lw_okq (⟨"SkateSheet$Scoring", "repeatReason", "(IIZ)I"⟩, 17) := ⟨⟨by decide +kernel, by decide +kernel⟩, List.mem_of_getElem? (i := 159) (by decide +kernel), List.mem_of_getElem? (i := 512) (by decide +kernel), List.mem_of_getElem? (i := 513) (by decide +kernel)⟩
theorem lw_p11 : lw_okq (⟨"SkateSheet$Standing", "isAhead", "(II)Z"⟩, 3) := ⟨⟨by decide +kernel, by decide +kernel⟩, List.mem_of_getElem? (i := 228) (by decide +kernel), List.mem_of_getElem? (i := 548) (by decide +kernel), List.mem_of_getElem? (i := 549) (by decide +kernel)⟩
theorem lw_p12 : lw_okq (⟨"SkateSheet", "lesserParts", "()I"⟩, 10) := ⟨⟨by decide +kernel, by decide +kernel⟩, List.mem_of_getElem? (i := 20) (by decide +kernel), List.mem_of_getElem? (i := 552) (by decide +kernel), List.mem_of_getElem? (i := 553) (by decide +kernel)⟩
theorem lw_p13 : lw_okq (⟨"SkateSheet", "checkCall", "(IIII)V"⟩, 10) := ⟨⟨by decide +kernel, by decide +kernel⟩, List.mem_of_getElem? (i := 20) (by decide +kernel), List.mem_of_getElem? (i := 719) (by decide +kernel), List.mem_of_getElem? (i := 720) (by decide +kernel)⟩
theorem lw_p14 : lw_okq (⟨"SkateSheet", "totalOfSwap", "(LSkateSheet$Program;II)I"⟩, 10) := ⟨⟨by decide +kernel, by decide +kernel⟩, List.mem_of_getElem? (i := 20) (by decide +kernel), List.mem_of_getElem? (i := 826) (by decide +kernel), List.mem_of_getElem? (i := 827) (by decide +kernel)⟩
theorem lw_p15 : lw_okq (⟨"SkateSheet", "acts", "()Z"⟩, 10) := ⟨⟨by decide +kernel, by decide +kernel⟩, List.mem_of_getElem? (i := 20) (by decide +kernel), List.mem_of_getElem? (i := 864) (by decide +kernel), List.mem_of_getElem? (i := 865) (by decide +kernel)⟩
def lw_privs_1 : List (MethodName × Nat) := [(⟨"SkateSheet$Text", "readElement", "(LSkateSheet$Program;)Z"⟩, 3), (⟨"SkateSheet$Text", "sign", "()I"⟩, 3), (⟨"SkateSheet$Text", "readLevel", "(LSkateSheet$Program;I)Z"⟩, 3), (⟨"SkateSheet$Text", "readChain", "(LSkateSheet$Program;)Z"⟩, 3), (⟨"SkateSheet$Text", "readJump", "(LSkateSheet$Program;)Z"⟩, 3), (⟨"java/lang/Throwable", "fillInStackTrace", "(I)Ljava/lang/Throwable;"⟩, 6), (⟨"SkateSheet$Scoring", "startOver", "()V"⟩, 17), (⟨"SkateSheet$Scoring", "rateElement", "(LSkateSheet$Program;I[I)V"⟩, 17), (⟨"SkateSheet$Scoring", "countsTooMany", "(I[I)Z"⟩, 17), (⟨"SkateSheet$Scoring", "reasonOf", "(LSkateSheet$Program;IIZZ)I"⟩, 17), (⟨"SkateSheet$Scoring", "repeatReason", "(IIZ)I"⟩, 17), (⟨"SkateSheet$Standing", "isAhead", "(II)Z"⟩, 3), (⟨"SkateSheet", "lesserParts", "()I"⟩, 10), (⟨"SkateSheet", "checkCall", "(IIII)V"⟩, 10), (⟨"SkateSheet", "totalOfSwap", "(LSkateSheet$Program;II)I"⟩, 10), (⟨"SkateSheet", "acts", "()Z"⟩, 10)]
theorem lw_r1 : ∀ q ∈ lw_privs_1, lw_okq q := List.forall_mem_cons.mpr ⟨lw_p0, List.forall_mem_cons.mpr ⟨lw_p1, List.forall_mem_cons.mpr ⟨lw_p2, List.forall_mem_cons.mpr ⟨lw_p3, List.forall_mem_cons.mpr ⟨lw_p4, List.forall_mem_cons.mpr ⟨lw_p5, List.forall_mem_cons.mpr ⟨lw_p6, List.forall_mem_cons.mpr ⟨lw_p7, List.forall_mem_cons.mpr ⟨lw_p8, List.forall_mem_cons.mpr ⟨lw_p9, List.forall_mem_cons.mpr ⟨lw_p10, List.forall_mem_cons.mpr ⟨lw_p11, List.forall_mem_cons.mpr ⟨lw_p12, List.forall_mem_cons.mpr ⟨lw_p13, List.forall_mem_cons.mpr ⟨lw_p14, List.forall_mem_cons.mpr ⟨lw_p15, fun _ h => absurd h List.not_mem_nil⟩⟩⟩⟩⟩⟩⟩⟩⟩⟩⟩⟩⟩⟩⟩⟩
theorem lw_p16 : lw_okq (⟨"SkateSheet", "holds", "()Z"⟩, 10) := ⟨⟨by decide +kernel, by decide +kernel⟩, List.mem_of_getElem? (i := 20) (by decide +kernel), List.mem_of_getElem? (i := 876) (by decide +kernel), List.mem_of_getElem? (i := 877) (by decide +kernel)⟩
theorem lw_p17 : lw_okq (⟨"SkateSheet", "takeTurn", "(I)V"⟩, 10) := ⟨⟨by decide +kernel, by decide +kernel⟩, List.mem_of_getElem? (i := 20) (by decide +kernel), List.mem_of_getElem? (i := 890) (by decide +kernel), List.mem_of_getElem? (i := 891) (by decide +kernel)⟩
theorem lw_p18 : lw_okq (⟨"SkateSheetModel", "refused", "(I)Z"⟩, 22) := ⟨⟨by decide +kernel, by decide +kernel⟩, List.mem_of_getElem? (i := 916) (by decide +kernel), List.mem_of_getElem? (i := 1001) (by decide +kernel), List.mem_of_getElem? (i := 1002) (by decide +kernel)⟩
theorem lw_p19 : lw_okq (⟨"SkateSheetModel", "readText", "()I"⟩, 22) := ⟨⟨by decide +kernel, by decide +kernel⟩, List.mem_of_getElem? (i := 916) (by decide +kernel), List.mem_of_getElem? (i := 1013) (by decide +kernel), List.mem_of_getElem? (i := 1014) (by decide +kernel)⟩
theorem lw_p20 : lw_okq (⟨"SkateSheetModel", "readElement", "(I)Z"⟩, 22) := ⟨⟨by decide +kernel, by decide +kernel⟩, List.mem_of_getElem? (i := 916) (by decide +kernel), List.mem_of_getElem? (i := 1017) (by decide +kernel), List.mem_of_getElem? (i := 1018) (by decide +kernel)⟩
theorem lw_p21 : lw_okq (⟨"SkateSheetModel", "passes", "(I)Z"⟩, 22) := ⟨⟨by decide +kernel, by decide +kernel⟩, List.mem_of_getElem? (i := 916) (by decide +kernel), List.mem_of_getElem? (i := 1021) (by decide +kernel), List.mem_of_getElem? (i := 1022) (by decide +kernel)⟩
theorem lw_p22 : lw_okq (⟨"SkateSheetModel", "here", "()I"⟩, 22) := ⟨⟨by decide +kernel, by decide +kernel⟩, List.mem_of_getElem? (i := 916) (by decide +kernel), List.mem_of_getElem? (i := 1025) (by decide +kernel), List.mem_of_getElem? (i := 1026) (by decide +kernel)⟩
theorem lw_p23 : lw_okq (⟨"SkateSheetModel", "readJump", "(I)Z"⟩, 22) := ⟨⟨by decide +kernel, by decide +kernel⟩, List.mem_of_getElem? (i := 916) (by decide +kernel), List.mem_of_getElem? (i := 1031) (by decide +kernel), List.mem_of_getElem? (i := 1032) (by decide +kernel)⟩
theorem lw_p24 : lw_okq (⟨"SkateSheetModel", "reckon", "([II)I"⟩, 22) := ⟨⟨by decide +kernel, by decide +kernel⟩, List.mem_of_getElem? (i := 916) (by decide +kernel), List.mem_of_getElem? (i := 1050) (by decide +kernel), List.mem_of_getElem? (i := 1051) (by decide +kernel)⟩
theorem lw_p25 : lw_okq (⟨"SkateSheetModel", "weigh", "([III)V"⟩, 22) := ⟨⟨by decide +kernel, by decide +kernel⟩, List.mem_of_getElem? (i := 916) (by decide +kernel), List.mem_of_getElem? (i := 1054) (by decide +kernel), List.mem_of_getElem? (i := 1055) (by decide +kernel)⟩
theorem lw_p26 : lw_okq (⟨"SkateSheetModel", "first", "([I)I"⟩, 22) := ⟨⟨by decide +kernel, by decide +kernel⟩, List.mem_of_getElem? (i := 916) (by decide +kernel), List.mem_of_getElem? (i := 1115) (by decide +kernel), List.mem_of_getElem? (i := 1116) (by decide +kernel)⟩
theorem lw_p27 : lw_okq (⟨"SkateSheetModel", "reckonAll", "([I)V"⟩, 22) := ⟨⟨by decide +kernel, by decide +kernel⟩, List.mem_of_getElem? (i := 916) (by decide +kernel), List.mem_of_getElem? (i := 1119) (by decide +kernel), List.mem_of_getElem? (i := 1120) (by decide +kernel)⟩
theorem lw_p28 : lw_okq (⟨"SkateSheetModel", "place", "([II)I"⟩, 22) := ⟨⟨by decide +kernel, by decide +kernel⟩, List.mem_of_getElem? (i := 916) (by decide +kernel), List.mem_of_getElem? (i := 1123) (by decide +kernel), List.mem_of_getElem? (i := 1124) (by decide +kernel)⟩
theorem lw_p29 : lw_okq (⟨"SkateSheetModel", "remember", "()V"⟩, 22) := ⟨⟨by decide +kernel, by decide +kernel⟩, List.mem_of_getElem? (i := 916) (by decide +kernel), List.mem_of_getElem? (i := 1159) (by decide +kernel), List.mem_of_getElem? (i := 1160) (by decide +kernel)⟩
theorem lw_p30 : lw_okq (⟨"SkateSheetModel", "command", "(IIIII)Z"⟩, 22) := ⟨⟨by decide +kernel, by decide +kernel⟩, List.mem_of_getElem? (i := 916) (by decide +kernel), List.mem_of_getElem? (i := 1248) (by decide +kernel), List.mem_of_getElem? (i := 1249) (by decide +kernel)⟩
theorem lw_p31 : lw_okq (⟨"SkateSheetModel", "turn", "(I)V"⟩, 22) := ⟨⟨by decide +kernel, by decide +kernel⟩, List.mem_of_getElem? (i := 916) (by decide +kernel), List.mem_of_getElem? (i := 1259) (by decide +kernel), List.mem_of_getElem? (i := 1260) (by decide +kernel)⟩
def lw_privs_2 : List (MethodName × Nat) := [(⟨"SkateSheet", "holds", "()Z"⟩, 10), (⟨"SkateSheet", "takeTurn", "(I)V"⟩, 10), (⟨"SkateSheetModel", "refused", "(I)Z"⟩, 22), (⟨"SkateSheetModel", "readText", "()I"⟩, 22), (⟨"SkateSheetModel", "readElement", "(I)Z"⟩, 22), (⟨"SkateSheetModel", "passes", "(I)Z"⟩, 22), (⟨"SkateSheetModel", "here", "()I"⟩, 22), (⟨"SkateSheetModel", "readJump", "(I)Z"⟩, 22), (⟨"SkateSheetModel", "reckon", "([II)I"⟩, 22), (⟨"SkateSheetModel", "weigh", "([III)V"⟩, 22), (⟨"SkateSheetModel", "first", "([I)I"⟩, 22), (⟨"SkateSheetModel", "reckonAll", "([I)V"⟩, 22), (⟨"SkateSheetModel", "place", "([II)I"⟩, 22), (⟨"SkateSheetModel", "remember", "()V"⟩, 22), (⟨"SkateSheetModel", "command", "(IIIII)Z"⟩, 22), (⟨"SkateSheetModel", "turn", "(I)V"⟩, 22)]
theorem lw_r2 : ∀ q ∈ lw_privs_2, lw_okq q := List.forall_mem_cons.mpr ⟨lw_p16, List.forall_mem_cons.mpr ⟨lw_p17, List.forall_mem_cons.mpr ⟨lw_p18, List.forall_mem_cons.mpr ⟨lw_p19, List.forall_mem_cons.mpr ⟨lw_p20, List.forall_mem_cons.mpr ⟨lw_p21, List.forall_mem_cons.mpr ⟨lw_p22, List.forall_mem_cons.mpr ⟨lw_p23, List.forall_mem_cons.mpr ⟨lw_p24, List.forall_mem_cons.mpr ⟨lw_p25, List.forall_mem_cons.mpr ⟨lw_p26, List.forall_mem_cons.mpr ⟨lw_p27, List.forall_mem_cons.mpr ⟨lw_p28, List.forall_mem_cons.mpr ⟨lw_p29, List.forall_mem_cons.mpr ⟨lw_p30, List.forall_mem_cons.mpr ⟨lw_p31, fun _ h => absurd h List.not_mem_nil⟩⟩⟩⟩⟩⟩⟩⟩⟩⟩⟩⟩⟩⟩⟩⟩
def lw_privs : List (MethodName × Nat) := lw_privs_1 ++ (lw_privs_2)
def lw_tbl : List Cond := k2_sels lw_privs ++ tables_1
theorem lw_privs_ok : ∀ q ∈ lw_privs, lw_okq q := by
  show ∀ q ∈ lw_privs_1 ++ (lw_privs_2), lw_okq q
  exact List.forall_mem_append.mpr ⟨lw_r1, lw_r2⟩
-- ===== end of PART A; then your names; then what follows =====
end
section
/-! ===== BEGIN words of one list among another's, by their places ===== -/
theorem goodIn_r {big : List Cond} (ws : List Cond) (ps : List Nat) (hp : ws = ps.filterMap (fun i => big[i]?)) (h : ws.all goodWord = true) : GoodIn big ws := by
  intro w hw
  have h1 := List.all_eq_true.mp h w hw
  rw [hp] at hw
  obtain ⟨i, -, hi⟩ := List.mem_filterMap.mp hw
  have hm : w ∈ big := by first | exact List.mem_of_getElem? hi | exact List.getElem?_mem hi
  exact ⟨hm, good_of_word h1⟩
theorem goodIn_app {big a b : List Cond} (ha : GoodIn big a) (hb : GoodIn big b) : GoodIn big (a ++ b) := fun w h => (List.mem_append.mp h).elim (ha w) (hb w)
theorem goodIn_ca {big a b : List Cond} {c : Cond} (ha : GoodIn big (c :: a)) (hb : GoodIn big b) : GoodIn big (c :: (a ++ b)) := fun w h => (List.mem_cons.mp h).elim (fun e => ha w (List.mem_cons.mpr (Or.inl e))) (fun h => (List.mem_append.mp h).elim (fun h => ha w (List.mem_cons.mpr (Or.inr h))) (hb w))
theorem goodIn_sub {big ws : List Cond} (hm : ∀ w ∈ ws, w ∈ big) (h : ws.all goodWord = true) : GoodIn big ws := fun w hw => ⟨hm w hw, good_of_word (List.all_eq_true.mp h w hw)⟩
/-! ===== END ===== -/

/-! ===== BEGIN exceptions that leave a method, and their catching by the caller (launches without stack traces) ===== -/
section VXA
/-! The laws vx_back, vx_callV, vx_callS, vx_callSW, vx_throw0, vx_throwS follow proofs of the library, with one case more: JvmDerived/Free/Laws.lean (Back.of_free), Shelf42/LK1.lean (callV, callS), Shelf/KitTraced.lean (throwNew0V, throwNewS). -/
/-- where a method has thrown q: the class by its name, the cell, what was written, the world -/
def vx_T (XC : String → State → State → Prop) (st : State) (q : Addr) (t : State) (mc ms : Nat) (free : Addr → Prop) : Prop :=
  ∃ (E : String) (ce : Cell) (L : List Loc), XC E st t ∧ t.heap[q]? = some ce ∧ ce.vm = .none ∧ st.vm.findClass E = some ce.cls ∧ st.WarmedH t.vm ∧ st.sameButNew ({ t with vm := st.vm } : State) L mc ms ∧ ∀ z ∈ L, free z.base
def vx_Q (Qc : Array Value → State → Outcome → State → Prop) (XC : String → State → State → Prop) (mc ms : Nat) (free : Addr → Prop) : Array Value → State → Outcome → State → Prop := fun a st o t =>
  (Qc a st o t ∧ ∃ L, FrameEnd st o t L mc ms ∧ ∀ q ∈ L, free q.base) ∨ ∃ q, o = .threw q ∧ vx_T XC st q t mc ms free
/-- a callee that returns or throws -/
def vx_Met (l : Launch) (y : MethodName) (ws : List Cond) (rm : Room) (Pc : Array Value → State → Prop) (Qc : Array Value → State → Outcome → State → Prop) (XC : String → State → State → Prop) (mc ms : Nat) (free : Addr → Prop) : Prop :=
  MetFree l y (headSpec ws rm) Pc (fun _ _ _ _ _ => True) (vx_Q Qc XC mc ms free)
def vx_Post (XC : String → State → State → Prop) (mc ms : Nat) (free : Addr → Prop) : Pt → Array Value → Addr → Pt → Prop := fun A a q B =>
  ∃ (g : JFrame) (mk : MethodId) (t : State) (L : List Loc) (E : String) (ce : Cell), B.U.heap = t.heap ∧ B.U.vm = t.vm ∧ XC E (A.U.calling g mk a) t ∧ t.heap[q]? = some ce ∧ ce.vm = .none ∧ A.U.vm.findClass E = some ce.cls ∧ B.locs = A.locs ++ L ∧ (∀ z ∈ L, free z.base) ∧ B.cells = A.cells + mc ∧ B.slots = A.slots + ms
def vx_Back (l : Launch) (R : Room) (p : Program) (e : Env) (below : List Frame) (s : State) (sargs : Array Value) (y : MethodName) (len W9 : Nat)
    (Pre : Pt → Array Value → Prop) (Post : Pt → Array Value → Option Value → Pt → Prop) (PostX : Pt → Array Value → Addr → Pt → Prop) : Prop :=
  ∀ (m : MethodId) (meth : Method) (c : Code) (A : Pt) (g : JFrame) (ig : Instr) (mk : MethodId) (a : Array Value),
    Stand p l e R s m sargs below meth c A.U A.locs A.cells A.slots → g.method = m → g.locals.size = c.maxLocals → decode c.code g.pc = .ok (ig, len) →
    2 * g.monitorRoom + (g.stack.map fun v => v.category).sum ≤ W9 → A.U.methodNamed? y = some mk → Pre A a →
    (∃ (v : Option Value) (B : Pt), Stand p l e R s m sargs below meth c B.U B.locs B.cells B.slots ∧ Post A a v B ∧
      Steps p.tables e below (doInvoke e (A.U.setTop g) [] mk a).1 (B.U.setTop { g with pc := g.pc + len, stack := v.toList ++ g.stack })) ∨
    (∃ (q : Addr) (B : Pt), Stand p l e R s m sargs below meth c B.U B.locs B.cells B.slots ∧ PostX A a q B ∧
      Steps p.tables e below (doInvoke e (A.U.setTop g) [] mk a).1 ((B.U.setTop g).pushFrame (.throwing q)))
section Payer
variable {l : Launch} {R : Room} {p : Program} {e : Env} {below : List Frame} {s : State} {sargs : Array Value} {y : MethodName} {len W9 : Nat}
theorem vx_back {ws : List Cond} {rm : Room} {Pc : Array Value → State → Prop} {Qc : Array Value → State → Outcome → State → Prop} {XC : String → State → State → Prop} {mc ms : Nat} {free : Addr → Prop} {bytes : ByteArray} {maxL : Nat} {ret : Option FieldType}
    (hM : vx_Met l y ws rm Pc Qc XC mc ms free) (hblind : FrameBlind Pc) (hrc : rm.cells = mc) (hrs : rm.slots = ms)
    (hframes : rm.frames + 1 ≤ R.frames) (hlocals : W9 + (maxL + 11) + rm.locals ≤ R.locals)
    (hws : ∀ w ∈ ws, ∀ a' U, s.WarmedH U.vm → w.before a' U = true) (hcode : Cond.code y bytes maxL ret ∈ ws) (hinit : ∀ a' U, s.WarmedH U.vm → (Cond.initialized y.cls).before a' U = true) :
    vx_Back l R p e below s sargs y len W9 (PreOf R mc ms Pc) (PostOf Qc mc ms free) (vx_Post XC mc ms free) := by
  intro m meth c A g ig mk a X hg hsize hdg hW hn hp
  have h1 : (headSpec ws rm).pre.before a A.U = true := atoms_intro fun w hw => hws w hw _ _ X.warmed
  have h2 : (Cond.code y bytes maxL ret).before a A.U = true := hws _ hcode _ _ X.warmed
  have h3 : (Cond.initialized y.cls).before a A.U = true := hinit _ _ X.warmed
  have h4 : A.cells + (headSpec ws rm).room.cells ≤ R.cells := by rw [show (headSpec ws rm).room.cells = mc from hrc]; exact hp.1
  have h5 : A.slots + (headSpec ws rm).room.slots ≤ R.slots := by rw [show (headSpec ws rm).room.slots = ms from hrs]; exact hp.2.1
  have hPc : Pc a (A.U.calling g mk a) := hblind _ _ _ _ hp.2.2
  obtain ⟨U, Ls, c0, s0⟩ := A
  dsimp only [Pt.U, Pt.locs, Pt.cells, Pt.slots] at h1 h2 h3 h4 h5 X hn hPc ⊢
  obtain ⟨methY, cY, hmY, hcY, -, hlY, -, -, -, -⟩ := Cond.code_spec hn h2
  obtain ⟨kY, hkY, -⟩ := className_of_methodNamed hn
  have hinitY : kY.init = .initialized := Cond.initialized_spec (findClass_of_methodNamed hn) hkY h3
  have h : At U g.method c below := by rw [hg]; exact X.here
  have hlocals9 : W9 + (maxL + 11) + (headSpec ws rm).room.locals ≤ R.locals := hlocals
  have happ : (headSpec ws rm).appliesLoose y e.platform (U.calling g mk a) = true :=
    Spec.appliesLoose_calling (g := g) h hdg hn hkY hinitY
      (X.room_calling (g := g) (R' := (headSpec ws rm).room) hsize hmY hcY hframes (by rw [hlY]; omega) h4 h5) h1
  obtain ⟨mid, hmid⟩ := h.above
  have hfr : (U.setTop g).frames = (.java g :: mid) ++ below := by rw [State.frames_setTop' g h.top, hmid]; rfl
  obtain ⟨o, s₂, hsteps, -, hend, hq⟩ := Steps.callFree hM p X.admits X.cas X.clock (acts := []) hfr happ hPc trivial
  have hq' : vx_Q Qc XC mc ms free a (U.calling g mk a) o s₂ := hq
  rw [State.frames_setTop' g h.top] at hend
  obtain ⟨g₀, hg0⟩ := Option.isSome_iff_exists.mp h.top
  obtain ⟨r, hr⟩ := State.topJava?_eq_some.mp hg0
  have hr' : (({ U with heap := s₂.heap, slotsUsed := s₂.slotsUsed } : State).setVm s₂.vm).frames = .java g₀ :: r := hr
  rcases hq' with ⟨hqc, L, hfe, hL⟩ | ⟨q, rfl, E, ce, L, hx, hce, hcv, hcl, hW₂, hsm, hL⟩
  · obtain ⟨⟨v, rfl⟩, hW₂, e2, q2, q3, q4, q5, q6⟩ := id hfe
    have e3 : s₂ = ({ (U.calling g mk a).setFrames s₂.frames with heap := s₂.heap, slotsUsed := s₂.slotsUsed } : State).setVm s₂.vm := by
      have : s₂ = ({ s₂ with vm := (U.calling g mk a).vm } : State).setVm s₂.vm := rfl
      rw [e2] at this
      exact this
    obtain ⟨c₂, i₂, len₂, hc₂, hd₂, hf₂⟩ := hend
    have hW' : U.WarmedH s₂.vm := hW₂
    have hcc : c₂ = c := by
      have h1 : s₂.code? g.method = U.code? g.method := by
        rw [State.code?_eq, State.code?_eq, hW'.alike.method?]
      exact Option.some.inj (hc₂.symm.trans (h1.trans h.code))
    subst hcc
    have hlen : len₂ = len := by rw [hdg] at hd₂; cases hd₂; rfl
    subst hlen
    have hs₂ : s₂ = (({ U with heap := s₂.heap, slotsUsed := s₂.slotsUsed } : State).setVm s₂.vm).setTop { g with pc := g.pc + len₂, stack := v.toList ++ g.stack } := by
      refine e3.trans ?_
      rw [hf₂, State.calling_eq h.top, State.setFrames_setFrames, State.setTop_of_frames _ hr', hr]
      rfl
    have hsame : U.sameButNew ({ U with heap := s₂.heap, slotsUsed := s₂.slotsUsed } : State) L mc ms := by
      refine ⟨?_, q2, q3, q4, q5, q6⟩
      obtain ⟨t, ht, -⟩ := State.frames_cons hr
      show ({ U with heap := s₂.heap, slotsUsed := s₂.slotsUsed } : State) = { U.setFrames U.frames with heap := s₂.heap, slotsUsed := s₂.slotsUsed }
      rw [State.setFrames_self ht]
    subst hg
    refine Or.inl ⟨v, ⟨(({ U with heap := s₂.heap, slotsUsed := s₂.slotsUsed } : State).setVm s₂.vm), Ls ++ L, c0 + mc, s0 + ms⟩,
      ⟨X.admits, X.cas, X.clock, X.frames, X.room, X.hears, X.method, X.code, (X.here.setHeapUsed s₂.heap s₂.slotsUsed).setVm hW'.alike, X.tail, State.WarmedH.trans X.warmed hW', X.limits, X.bytes, X.same.trans (hsame.setVm s.vm)⟩,
      ⟨g, mk, s₂, L, rfl, rfl, hqc, rfl, hL, rfl, rfl⟩, ?_⟩
    show Steps p.tables e below _ ((({ U with heap := s₂.heap, slotsUsed := s₂.slotsUsed } : State).setVm s₂.vm).setTop { g with pc := g.pc + len₂, stack := v.toList ++ g.stack })
    rw [← hs₂]
    exact hsteps
  · obtain ⟨e2, q2, q3, q4, q5, q6⟩ := id hsm
    have e3 : s₂ = ({ (U.calling g mk a).setFrames s₂.frames with heap := s₂.heap, slotsUsed := s₂.slotsUsed } : State).setVm s₂.vm := by
      have : s₂ = ({ s₂ with vm := (U.calling g mk a).vm } : State).setVm s₂.vm := rfl
      rw [e2] at this
      exact this
    have hf₂ : s₂.frames = .throwing q :: .java g :: U.frames.tail := hend
    have hW' : U.WarmedH s₂.vm := hW₂
    have hs₂ : s₂ = ((({ U with heap := s₂.heap, slotsUsed := s₂.slotsUsed } : State).setVm s₂.vm).setTop g).pushFrame (.throwing q) := by
      refine e3.trans ?_
      rw [hf₂, State.calling_eq h.top, State.setFrames_setFrames, State.pushFrame, State.frames_setTop _ hr', State.setTop_of_frames _ hr', State.setFrames_setFrames, hr]
      rfl
    have hsame : U.sameButNew ({ U with heap := s₂.heap, slotsUsed := s₂.slotsUsed } : State) L mc ms := by
      refine ⟨?_, q2, q3, q4, q5, q6⟩
      obtain ⟨t, ht, -⟩ := State.frames_cons hr
      show ({ U with heap := s₂.heap, slotsUsed := s₂.slotsUsed } : State) = { U.setFrames U.frames with heap := s₂.heap, slotsUsed := s₂.slotsUsed }
      rw [State.setFrames_self ht]
    subst hg
    refine Or.inr ⟨q, ⟨(({ U with heap := s₂.heap, slotsUsed := s₂.slotsUsed } : State).setVm s₂.vm), Ls ++ L, c0 + mc, s0 + ms⟩,
      ⟨X.admits, X.cas, X.clock, X.frames, X.room, X.hears, X.method, X.code, (X.here.setHeapUsed s₂.heap s₂.slotsUsed).setVm hW'.alike, X.tail, State.WarmedH.trans X.warmed hW', X.limits, X.bytes, X.same.trans (hsame.setVm s.vm)⟩,
      ⟨g, mk, s₂, L, E, ce, rfl, rfl, hx, hce, hcv, hcl, rfl, hL, rfl, rfl⟩, ?_⟩
    show Steps p.tables e below _ (((({ U with heap := s₂.heap, slotsUsed := s₂.slotsUsed } : State).setVm s₂.vm).setTop g).pushFrame (.throwing q))
    rw [← hs₂]
    exact hsteps
end Payer
section Calls
variable {p : Program} {l : Launch} {e : Env} {R : Room} {s : State} {m : MethodId} {args : Array Value} {below : List Frame} {meth : Method} {c : Code} {T : State} {locs : List Loc} {cells slots : Nat}
theorem vx_callV (X : Stand p l e R s m args below meth c T locs cells slots) (hexec : p.tables.exec = Jvm.exec) {own C : String} {index : Nat} {y : MethodName} {bytes : ByteArray} {maxL : Nat} {ret : Option FieldType}
    (hown : s.vm.findClass own = some m.cls) (hlink : (Cond.methodLink own index y).before args s = true) (hinst : (Cond.instanceMethod y).before args s = true) (hsel : (Cond.selects C y y).before args s = true)
    (hcode : (Cond.code y bytes maxL ret).before args s = true) (hy : y.cls ≠ "java/lang/invoke/MethodHandle" ∧ y.cls ≠ "java/lang/invoke/VarHandle")
    {W9 : Nat} {Pre : Pt → Array Value → Prop} {Post : Pt → Array Value → Option Value → Pt → Prop} {PostX : Pt → Array Value → Addr → Pt → Prop} (hK : vx_Back l R p e below s args y 3 W9 Pre Post PostX)
    {b : Addr} {cellB : Cell} (hcell : T.heap[b]? = some cellB) (hobj : cellB.vm.isStatics = false) (hcls : s.vm.findClass C = some cellB.cls)
    {g : JFrame} (hg : g.method = m) (hsize : g.locals.size = c.maxLocals) {argsL rest : List Value} (hlen : ∀ sig, parseMethodDescriptor y.desc = some sig → argsL.length = sig.parameters.length)
    (hstack : g.stack = argsL.reverse ++ .ref b :: rest) (hW : 2 * g.monitorRoom + (rest.map fun v => v.category).sum ≤ W9) (hdg : decode c.code g.pc = .ok (.invokevirtual index, 3))
    (hpre : ∀ vm₁, s.WarmedH vm₁ → Pre ⟨T.setVm vm₁, locs, cells, slots⟩ (Value.ref b :: argsL).toArray) :
    (∃ (v : Option Value) (vm₁ : Vm) (B : Pt), s.WarmedH vm₁ ∧ Stand p l e R s m args below meth c B.U B.locs B.cells B.slots ∧ Post ⟨T.setVm vm₁, locs, cells, slots⟩ (Value.ref b :: argsL).toArray v B ∧
      ∀ target, Steps p.tables e below (B.U.setTop { g with pc := g.pc + 3, stack := v.toList ++ rest }) target → Steps p.tables e below (T.setTop g) target) ∨
    (∃ (q : Addr) (vm₁ : Vm) (B : Pt), s.WarmedH vm₁ ∧ Stand p l e R s m args below meth c B.U B.locs B.cells B.slots ∧ PostX ⟨T.setVm vm₁, locs, cells, slots⟩ (Value.ref b :: argsL).toArray q B ∧
      Steps p.tables e below (T.setTop g) ((B.U.setTop { g with stack := rest }).pushFrame (.throwing q))) := by
  obtain ⟨mk, methM, hnamed, hmethM, hstM, habM⟩ := Cond.instanceMethod_spec hinst
  obtain ⟨methM', cM, hmethM', -, -, -, -, -, -, hsigM⟩ := Cond.code_spec hnamed hcode
  cases hmethM.symm.trans hmethM'
  obtain ⟨c2, r2, m2, q1, q2, q3, q4, kP, hkP, hkPi⟩ := Cond.selects_spec hsel
  cases hcls.symm.trans q1
  cases (State.methodFound?_of_named hnamed hy).symm.trans q2
  cases hnamed.symm.trans q3
  have hselP : selectMethod e.platform s.vm cellB.cls mk = .method mk := by rw [Launch.admits_selectMethod X.admits]; exact q4
  obtain ⟨vm₁, X₁, hstep₁⟩ := X.invokevirtual hexec hown hlink hnamed hmethM hstM hkP hkPi hy (a := b) (cell := cellB) hcell
    (fun z h => by rw [h] at hobj; cases hobj) hselP hmethM habM hkP hkPi (g := g) hg (argsL := argsL) (rest := rest) (hlen _ hsigM) hstack hdg
  rcases hK m meth c ⟨T.setVm vm₁, locs, cells, slots⟩ { g with stack := rest } (.invokevirtual index) mk (Value.ref b :: argsL).toArray X₁ hg hsize hdg hW (X₁.named hnamed) (hpre vm₁ X₁.warmed) with ⟨v, B, X', hpost, hsteps⟩ | ⟨q, B, X', hpost, hsteps⟩
  · exact Or.inl ⟨v, vm₁, B, X₁.warmed, X', hpost, fun target h => hstep₁ _ fun acts => by rw [doInvoke_state]; exact hsteps.trans h⟩
  · exact Or.inr ⟨q, vm₁, B, X₁.warmed, X', hpost, hstep₁ _ fun acts => by rw [doInvoke_state]; exact hsteps⟩
theorem vx_callS (X : Stand p l e R s m args below meth c T locs cells slots) (hexec : p.tables.exec = Jvm.exec) {own : String} {index : Nat} {y : MethodName} {bytes : ByteArray} {maxL : Nat} {ret : Option FieldType}
    (hown : s.vm.findClass own = some m.cls) (hlink : (Cond.methodLink own index y).before args s = true) (hstat : (Cond.static y).before args s = true) (hinit : (Cond.initialized y.cls).before args s = true)
    (hcode : (Cond.code y bytes maxL ret).before args s = true) (hy : y.cls ≠ "java/lang/invoke/MethodHandle" ∧ y.cls ≠ "java/lang/invoke/VarHandle")
    {W9 : Nat} {Pre : Pt → Array Value → Prop} {Post : Pt → Array Value → Option Value → Pt → Prop} {PostX : Pt → Array Value → Addr → Pt → Prop} (hK : vx_Back l R p e below s args y 3 W9 Pre Post PostX)
    {g : JFrame} (hg : g.method = m) (hsize : g.locals.size = c.maxLocals) {argsL rest : List Value} (hlen : ∀ sig, parseMethodDescriptor y.desc = some sig → argsL.length = sig.parameters.length)
    (hstack : g.stack = argsL.reverse ++ rest) (hW : 2 * g.monitorRoom + (rest.map fun v => v.category).sum ≤ W9) (hdg : decode c.code g.pc = .ok (.invokestatic index, 3))
    (hpre : ∀ vm₁, s.WarmedH vm₁ → Pre ⟨T.setVm vm₁, locs, cells, slots⟩ argsL.toArray) :
    (∃ (v : Option Value) (vm₁ : Vm) (B : Pt), s.WarmedH vm₁ ∧ Stand p l e R s m args below meth c B.U B.locs B.cells B.slots ∧ Post ⟨T.setVm vm₁, locs, cells, slots⟩ argsL.toArray v B ∧
      ∀ target, Steps p.tables e below (B.U.setTop { g with pc := g.pc + 3, stack := v.toList ++ rest }) target → Steps p.tables e below (T.setTop g) target) ∨
    (∃ (q : Addr) (vm₁ : Vm) (B : Pt), s.WarmedH vm₁ ∧ Stand p l e R s m args below meth c B.U B.locs B.cells B.slots ∧ PostX ⟨T.setVm vm₁, locs, cells, slots⟩ argsL.toArray q B ∧
      Steps p.tables e below (T.setTop g) ((B.U.setTop { g with stack := rest }).pushFrame (.throwing q))) := by
  obtain ⟨mk, hnamed⟩ := Cond.code_named hcode
  obtain ⟨methM, cM, hmethM, -, -, -, -, -, -, hsigM⟩ := Cond.code_spec hnamed hcode
  have hstatic : methM.isStatic = true := Cond.static_spec hnamed hmethM hstat
  obtain ⟨kP, hkP, -⟩ := className_of_methodNamed hnamed
  have hinitP : kP.init = .initialized := Cond.initialized_spec (findClass_of_methodNamed hnamed) hkP hinit
  obtain ⟨vm₁, X₁, hstep₁⟩ := X.invokestatic hexec hown hlink hnamed hmethM hstatic hkP hinitP hy (g := g) hg (argsL := argsL) (rest := rest) (hlen _ hsigM) hstack hdg
  rcases hK m meth c ⟨T.setVm vm₁, locs, cells, slots⟩ { g with stack := rest } (.invokestatic index) mk argsL.toArray X₁ hg hsize hdg hW (X₁.named hnamed) (hpre vm₁ X₁.warmed) with ⟨v, B, X', hpost, hsteps⟩ | ⟨q, B, X', hpost, hsteps⟩
  · exact Or.inl ⟨v, vm₁, B, X₁.warmed, X', hpost, fun target h => hstep₁ _ fun acts => by rw [doInvoke_state]; exact hsteps.trans h⟩
  · exact Or.inr ⟨q, vm₁, B, X₁.warmed, X', hpost, hstep₁ _ fun acts => by rw [doInvoke_state]; exact hsteps⟩
end Calls
theorem vx_cls {s : State} {T : State} {vm₁ : Vm} {E : String} {k : ClassId} (hW : s.WarmedH vm₁) (h : (T.setVm vm₁).vm.findClass E = some k) : s.vm.findClass E = some k := by
  have h1 : vm₁.findClass E = some k := h
  rw [hW.alike.findClass] at h1
  exact h1
/-- the method's frame g, with q thrown over it -/
def vx_W (p : Program) (l : Launch) (e : Env) (R : Room) (s : State) (m : MethodId) (args : Array Value) (below : List Frame) (meth : Method) (c : Code) (H : Heap) (locs : List Loc) (cells slots : Nat) (Q : State → Prop) (g : JFrame) (q : Addr) : Prop :=
  ∀ T : State, T.heap = H → Stand p l e R s m args below meth c T locs cells slots → ∃ t, Steps p.tables e below ((T.setTop g).pushFrame (.throwing q)) t ∧ Q t
def vx_Run (p : Program) (l : Launch) (e : Env) (R : Room) (s : State) (m : MethodId) (args : Array Value) (below : List Frame) (meth : Method) (c : Code) (H : Heap) (locs : List Loc) (cells slots mc ms : Nat) (g : JFrame) (rest : List Value) (Qa : State → Outcome → State → Prop) (XC : String → State → State → Prop) (free : Addr → Prop) : Prop :=
  ∀ T : State, T.heap = H → Stand p l e R s m args below meth c T locs cells slots →
    (∃ (v : Option Value) (st₀ t T' : State) (L : List Loc), st₀.heap = H ∧ Stand p l e R s m args below meth c T' (locs ++ L) (cells + mc) (slots + ms) ∧ (∀ q ∈ L, free q.base) ∧ T'.heap = t.heap ∧ T'.vm = t.vm ∧ Qa st₀ (.returned v) t ∧
      Goes p e below T g T' { g with pc := g.pc + 3, stack := v.toList ++ rest }) ∨
    (∃ (q : Addr) (st₀ t T' : State) (L : List Loc) (E : String) (ce : Cell), st₀.heap = H ∧ Stand p l e R s m args below meth c T' (locs ++ L) (cells + mc) (slots + ms) ∧ (∀ z ∈ L, free z.base) ∧ T'.heap = t.heap ∧ T'.vm = t.vm ∧ XC E st₀ t ∧ t.heap[q]? = some ce ∧ ce.vm = .none ∧ s.vm.findClass E = some ce.cls ∧
      Steps p.tables e below (T.setTop g) ((T'.setTop { g with stack := rest }).pushFrame (.throwing q)))
def vx_X {S : Type} (px : S → Prop) (B : String → S → State → Prop) (A : Nat → Prop) : String → State → State → Prop := fun E st t => ∃ u : S, px u ∧ B E u t ∧ va_F A st t
section Runs
variable {p : Program} {l : Launch} {e : Env} {R : Room} {s : State} {m : MethodId} {args : Array Value} {below : List Frame} {meth : Method} {c : Code} {H : Heap} {locs : List Loc} {cells slots : Nat}
variable {y : MethodName} {bytes cc : ByteArray} {maxL nL mc ms n index : Nat} {ret : Option FieldType} {ws : List Cond} {rm : Room} {Pc : Array Value → State → Prop} {Qc : Array Value → State → Outcome → State → Prop} {XC : String → State → State → Prop} {free : Addr → Prop} {Ts : List Cond} {own C : String} {b : Addr} {As rest : List Value} {g : JFrame}
theorem vx_callBack (cb : CallB R s args own index y bytes maxL ret ws rm mc ms n) (hM : vx_Met l y ws rm Pc Qc XC mc ms free) (hbl : FrameBlind Pc) : vx_Back l R p e below s args y 3 8 (PreOf R mc ms Pc) (PostOf Qc mc ms free) (vx_Post XC mc ms free) := by
  obtain ⟨hrc, hrs, hfr, hlo, hws, hcw, -, hini, -⟩ := cb
  exact vx_back (bytes := bytes) (maxL := maxL) (ret := ret) hM hbl hrc hrs hfr hlo hws hcw (fun a' U hW => word_at hW (Or.inl (by first | rfl | simp [Cond.onTables, Cond.keeps, Cond.steady])) hini)
theorem vx_runV (S : CallFix p m c cc nL s args Ts own) (hM : vx_Met l y ws rm Pc Qc XC mc ms free) (cw : CallW R s args own C index y bytes maxL ret ws rm mc ms n) (hp : PreV s H C b Pc As)
    (hg : g.method = m) (hn : As.length = n) (hsize : g.locals.size = nL) (hstack : g.stack = As.reverse ++ .ref b :: rest) (hW : 2 * g.monitorRoom + (rest.map fun v => v.category).sum ≤ 8) (hdg : decode cc g.pc = .ok (.invokevirtual index, 3)) (hf : cells + mc ≤ R.cells ∧ slots + ms ≤ R.slots) :
    vx_Run p l e R s m args below meth c H locs cells slots mc ms g rest (Qc (Value.ref b :: As).toArray) XC free := by
  have hK : vx_Back l R p e below s args y 3 8 (PreOf R mc ms Pc) (PostOf Qc mc ms free) (vx_Post XC mc ms free) := vx_callBack cw.1 hM hp.1
  obtain ⟨⟨-, -, -, -, -, -, hcode, -, hy, hlen, hl⟩, hin, hse⟩ := cw
  obtain ⟨hx, hb, hml, ho, -⟩ := S
  obtain ⟨-, ⟨cellB, hcB, hoB, hclB⟩, hPc⟩ := hp
  intro T hT X
  rcases vx_callV X hx (C := C) (bytes := bytes) (maxL := maxL) (ret := ret) ho hl hin hse hcode hy hK (by rw [hT]; exact hcB) hoB hclB hg (hsize.trans hml.symm) (argsL := As) (rest := rest) (fun sig h => hn.trans (hlen sig h)) hstack hW (by rw [hb]; exact hdg)
    (fun vm₁ hW₁ => ⟨hf.1, hf.2, hPc (T.setVm vm₁) hT hW₁⟩) with ⟨v, vm₁, ⟨U', l2, c2, s2⟩, hW₁, X', ⟨g', mk, t, L, e1, e2, hq, h1, hL, h2, h3⟩, st⟩ | ⟨q, vm₁, ⟨U', l2, c2, s2⟩, hW₁, X', ⟨g', mk, t, L, E, ce, e1, e2, hq, hce, hcv, hcl, h1, hL, h2, h3⟩, st⟩
  · dsimp only [Pt.U, Pt.locs, Pt.cells, Pt.slots] at X' e1 e2 h1 h2 h3 st
    subst h1; subst h2; subst h3
    exact Or.inl ⟨v, (T.setVm vm₁).calling g' mk (Value.ref b :: As).toArray, t, U', L, hT, X', hL, e1, e2, hq, st⟩
  · dsimp only [Pt.U, Pt.locs, Pt.cells, Pt.slots] at X' e1 e2 h1 h2 h3 st hcl
    subst h1; subst h2; subst h3
    exact Or.inr ⟨q, (T.setVm vm₁).calling g' mk (Value.ref b :: As).toArray, t, U', L, E, ce, hT, X', hL, e1, e2, hq, hce, hcv, vx_cls hW₁ hcl, st⟩
theorem vx_runS (S : CallFix p m c cc nL s args Ts own) (hM : vx_Met l y ws rm Pc Qc XC mc ms free) (cw : CallB R s args own index y bytes maxL ret ws rm mc ms n ∧ (Cond.static y).before args s = true) (hp : PreS s H Pc As)
    (hg : g.method = m) (hn : As.length = n) (hsize : g.locals.size = nL) (hstack : g.stack = As.reverse ++ rest) (hW : 2 * g.monitorRoom + (rest.map fun v => v.category).sum ≤ 8) (hdg : decode cc g.pc = .ok (.invokestatic index, 3)) (hf : cells + mc ≤ R.cells ∧ slots + ms ≤ R.slots) :
    vx_Run p l e R s m args below meth c H locs cells slots mc ms g rest (Qc As.toArray) XC free := by
  have hK : vx_Back l R p e below s args y 3 8 (PreOf R mc ms Pc) (PostOf Qc mc ms free) (vx_Post XC mc ms free) := vx_callBack cw.1 hM hp.1
  obtain ⟨⟨-, -, -, -, -, -, hcode, hini, hy, hlen, hl⟩, hstt⟩ := cw
  obtain ⟨hx, hb, hml, ho, -⟩ := S
  intro T hT X
  rcases vx_callS X hx (bytes := bytes) (maxL := maxL) (ret := ret) ho hl hstt hini hcode hy hK hg (hsize.trans hml.symm) (argsL := As) (rest := rest) (fun sig h => hn.trans (hlen sig h)) hstack hW (by rw [hb]; exact hdg)
    (fun vm₁ hW₁ => ⟨hf.1, hf.2, hp.2 (T.setVm vm₁) hT hW₁⟩) with ⟨v, vm₁, ⟨U', l2, c2, s2⟩, hW₁, X', ⟨g', mk, t, L, e1, e2, hq, h1, hL, h2, h3⟩, st⟩ | ⟨q, vm₁, ⟨U', l2, c2, s2⟩, hW₁, X', ⟨g', mk, t, L, E, ce, e1, e2, hq, hce, hcv, hcl, h1, hL, h2, h3⟩, st⟩
  · dsimp only [Pt.U, Pt.locs, Pt.cells, Pt.slots] at X' e1 e2 h1 h2 h3 st
    subst h1; subst h2; subst h3
    exact Or.inl ⟨v, (T.setVm vm₁).calling g' mk As.toArray, t, U', L, hT, X', hL, e1, e2, hq, st⟩
  · dsimp only [Pt.U, Pt.locs, Pt.cells, Pt.slots] at X' e1 e2 h1 h2 h3 st hcl
    subst h1; subst h2; subst h3
    exact Or.inr ⟨q, (T.setVm vm₁).calling g' mk As.toArray, t, U', L, E, ce, hT, X', hL, e1, e2, hq, hce, hcv, vx_cls hW₁ hcl, st⟩
end Runs
section Rows
variable {p : Program} {l : Launch} {e : Env} {R : Room} {s : State} {m : MethodId} {args : Array Value} {below : List Frame} {meth : Method} {c : Code} {H : Heap} {locs : List Loc} {cells slots : Nat} {Q : State → Prop}
variable {mc ms : Nat} {free : Addr → Prop} {A0 A1 : Nat → Prop} {H0 : Heap} {a : Array Value} {pc : Nat} {ls : Array Slot} {st0 rest : List Value}
theorem vx_keep {st₀ t T' : State} {L : List Loc} (h0 : st₀.heap = H) (e1 : T'.heap = t.heap) (hS : va_S A0 H0 H locs) (hA : ∀ q, q < H.size → A1 q → A0 q) (hf : ∀ q, free q → A0 q) (hL : ∀ q ∈ L, free q.base) (hF : va_F A1 st₀ t) :
    H.size ≤ T'.heap.size ∧ (∀ q : Nat, q < H.size → ¬ A1 q → T'.heap[q]? = H[q]?) ∧ va_S A0 H0 T'.heap (locs ++ L) := by
  obtain ⟨hz, hk⟩ := hF
  rw [h0] at hz hk
  exact ⟨by rw [e1]; exact hz, fun q h1 h2 => by rw [e1]; exact hk q h1 h2,
    ⟨Nat.le_trans hS.1 (by rw [e1]; exact hz), fun q h1 h2 => by rw [e1, hk q (Nat.lt_of_lt_of_le h1 hS.1) (fun z => h2 (hA q (Nat.lt_of_lt_of_le h1 hS.1) z))]; exact hS.2.1 q h1 h2, fun q hq => by
      rcases List.mem_append.mp hq with h | h
      · exact hS.2.2 q h
      · exact hf _ (hL q h)⟩⟩
theorem vx_calli {S SX : Type} {post : Int32 → S → Prop} {px : SX → Prop} {B : S → State → Prop} {BX : String → SX → State → Prop} {AX : Nat → Prop} (hr : vx_Run p l e R s m args below meth c H locs cells slots mc ms (F0 m pc ls st0) rest (va_Qi post B A1 a) (vx_X px BX AX) free) (hS : va_S A0 H0 H locs) (hA : ∀ q, q < H.size → A1 q → A0 q) (hf : ∀ q, free q → A0 q) (hAX : ∀ q, q < H.size → AX q → A0 q)
    (kx : ∀ (E : String) (ce : Cell) (q9 : Addr) (u : SX) (t : State) (H1 : Heap) (locs1 : List Loc), t.heap = H1 → s.vm.Alike t.vm → px u → BX E u t → H.size ≤ H1.size → (∀ q : Nat, q < H.size → ¬ AX q → H1[q]? = H[q]?) → va_S A0 H0 H1 locs1 → H1[q9]? = some ce → ce.vm = .none → s.vm.findClass E = some ce.cls → vx_W p l e R s m args below meth c H1 locs1 (cells + mc) (slots + ms) Q (F0 m pc ls rest) q9)
    (kk : ∀ (r : Int32) (u : S) (t : State) (H1 : Heap) (locs1 : List Loc), t.heap = H1 → s.vm.Alike t.vm → post r u → B u t → H.size ≤ H1.size → (∀ q : Nat, q < H.size → ¬ A1 q → H1[q]? = H[q]?) → va_S A0 H0 H1 locs1 → W p l e R s m args below meth c H1 locs1 (cells + mc) (slots + ms) Q (F0 m (pc + 3) ls (.int r :: rest))) : W p l e R s m args below meth c H locs cells slots Q (F0 m pc ls st0) := by
  intro T hT X
  rcases hr T hT X with ⟨v, st₀, t, T', L, h0, X', hL, e1, e2, ⟨⟨r, u, hv, hp, hb⟩, hF⟩, st⟩ | ⟨q, st₀, t, T', L, E, ce, h0, X', hL, e1, e2, ⟨u, hp, hb, hF⟩, hce, hcv, hcl, st⟩
  · cases hv
    obtain ⟨k1, k2, k3⟩ := vx_keep h0 e1 hS hA hf hL hF
    obtain ⟨t2, a1, b1⟩ := kk r u t T'.heap (locs ++ L) e1.symm (by rw [← e2]; exact X'.warmed.alike) hp hb k1 k2 k3 T' rfl X'
    exact ⟨t2, st t2 a1, b1⟩
  · obtain ⟨k1, k2, k3⟩ := vx_keep h0 e1 hS hAX hf hL hF
    obtain ⟨t2, a1, b1⟩ := kx E ce q u t T'.heap (locs ++ L) e1.symm (by rw [← e2]; exact X'.warmed.alike) hp hb k1 k2 k3 (by rw [e1]; exact hce) hcv hcl T' rfl X'
    exact ⟨t2, st.trans a1, b1⟩
theorem vx_calll {S SX : Type} {post : Int64 → S → Prop} {px : SX → Prop} {B : S → State → Prop} {BX : String → SX → State → Prop} {AX : Nat → Prop} (hr : vx_Run p l e R s m args below meth c H locs cells slots mc ms (F0 m pc ls st0) rest (va_Ql post B A1 a) (vx_X px BX AX) free) (hS : va_S A0 H0 H locs) (hA : ∀ q, q < H.size → A1 q → A0 q) (hf : ∀ q, free q → A0 q) (hAX : ∀ q, q < H.size → AX q → A0 q)
    (kx : ∀ (E : String) (ce : Cell) (q9 : Addr) (u : SX) (t : State) (H1 : Heap) (locs1 : List Loc), t.heap = H1 → s.vm.Alike t.vm → px u → BX E u t → H.size ≤ H1.size → (∀ q : Nat, q < H.size → ¬ AX q → H1[q]? = H[q]?) → va_S A0 H0 H1 locs1 → H1[q9]? = some ce → ce.vm = .none → s.vm.findClass E = some ce.cls → vx_W p l e R s m args below meth c H1 locs1 (cells + mc) (slots + ms) Q (F0 m pc ls rest) q9)
    (kk : ∀ (r : Int64) (u : S) (t : State) (H1 : Heap) (locs1 : List Loc), t.heap = H1 → s.vm.Alike t.vm → post r u → B u t → H.size ≤ H1.size → (∀ q : Nat, q < H.size → ¬ A1 q → H1[q]? = H[q]?) → va_S A0 H0 H1 locs1 → W p l e R s m args below meth c H1 locs1 (cells + mc) (slots + ms) Q (F0 m (pc + 3) ls (.long r :: rest))) : W p l e R s m args below meth c H locs cells slots Q (F0 m pc ls st0) := by
  intro T hT X
  rcases hr T hT X with ⟨v, st₀, t, T', L, h0, X', hL, e1, e2, ⟨⟨r, u, hv, hp, hb⟩, hF⟩, st⟩ | ⟨q, st₀, t, T', L, E, ce, h0, X', hL, e1, e2, ⟨u, hp, hb, hF⟩, hce, hcv, hcl, st⟩
  · cases hv
    obtain ⟨k1, k2, k3⟩ := vx_keep h0 e1 hS hA hf hL hF
    obtain ⟨t2, a1, b1⟩ := kk r u t T'.heap (locs ++ L) e1.symm (by rw [← e2]; exact X'.warmed.alike) hp hb k1 k2 k3 T' rfl X'
    exact ⟨t2, st t2 a1, b1⟩
  · obtain ⟨k1, k2, k3⟩ := vx_keep h0 e1 hS hAX hf hL hF
    obtain ⟨t2, a1, b1⟩ := kx E ce q u t T'.heap (locs ++ L) e1.symm (by rw [← e2]; exact X'.warmed.alike) hp hb k1 k2 k3 (by rw [e1]; exact hce) hcv hcl T' rfl X'
    exact ⟨t2, st.trans a1, b1⟩
theorem vx_callf {S SX : Type} {post : UInt32 → S → Prop} {px : SX → Prop} {B : S → State → Prop} {BX : String → SX → State → Prop} {AX : Nat → Prop} (hr : vx_Run p l e R s m args below meth c H locs cells slots mc ms (F0 m pc ls st0) rest (va_Qf post B A1 a) (vx_X px BX AX) free) (hS : va_S A0 H0 H locs) (hA : ∀ q, q < H.size → A1 q → A0 q) (hf : ∀ q, free q → A0 q) (hAX : ∀ q, q < H.size → AX q → A0 q)
    (kx : ∀ (E : String) (ce : Cell) (q9 : Addr) (u : SX) (t : State) (H1 : Heap) (locs1 : List Loc), t.heap = H1 → s.vm.Alike t.vm → px u → BX E u t → H.size ≤ H1.size → (∀ q : Nat, q < H.size → ¬ AX q → H1[q]? = H[q]?) → va_S A0 H0 H1 locs1 → H1[q9]? = some ce → ce.vm = .none → s.vm.findClass E = some ce.cls → vx_W p l e R s m args below meth c H1 locs1 (cells + mc) (slots + ms) Q (F0 m pc ls rest) q9)
    (kk : ∀ (r : UInt32) (u : S) (t : State) (H1 : Heap) (locs1 : List Loc), t.heap = H1 → s.vm.Alike t.vm → post r u → B u t → H.size ≤ H1.size → (∀ q : Nat, q < H.size → ¬ A1 q → H1[q]? = H[q]?) → va_S A0 H0 H1 locs1 → W p l e R s m args below meth c H1 locs1 (cells + mc) (slots + ms) Q (F0 m (pc + 3) ls (.float r :: rest))) : W p l e R s m args below meth c H locs cells slots Q (F0 m pc ls st0) := by
  intro T hT X
  rcases hr T hT X with ⟨v, st₀, t, T', L, h0, X', hL, e1, e2, ⟨⟨r, u, hv, hp, hb⟩, hF⟩, st⟩ | ⟨q, st₀, t, T', L, E, ce, h0, X', hL, e1, e2, ⟨u, hp, hb, hF⟩, hce, hcv, hcl, st⟩
  · cases hv
    obtain ⟨k1, k2, k3⟩ := vx_keep h0 e1 hS hA hf hL hF
    obtain ⟨t2, a1, b1⟩ := kk r u t T'.heap (locs ++ L) e1.symm (by rw [← e2]; exact X'.warmed.alike) hp hb k1 k2 k3 T' rfl X'
    exact ⟨t2, st t2 a1, b1⟩
  · obtain ⟨k1, k2, k3⟩ := vx_keep h0 e1 hS hAX hf hL hF
    obtain ⟨t2, a1, b1⟩ := kx E ce q u t T'.heap (locs ++ L) e1.symm (by rw [← e2]; exact X'.warmed.alike) hp hb k1 k2 k3 (by rw [e1]; exact hce) hcv hcl T' rfl X'
    exact ⟨t2, st.trans a1, b1⟩
theorem vx_calld {S SX : Type} {post : UInt64 → S → Prop} {px : SX → Prop} {B : S → State → Prop} {BX : String → SX → State → Prop} {AX : Nat → Prop} (hr : vx_Run p l e R s m args below meth c H locs cells slots mc ms (F0 m pc ls st0) rest (va_Qd post B A1 a) (vx_X px BX AX) free) (hS : va_S A0 H0 H locs) (hA : ∀ q, q < H.size → A1 q → A0 q) (hf : ∀ q, free q → A0 q) (hAX : ∀ q, q < H.size → AX q → A0 q)
    (kx : ∀ (E : String) (ce : Cell) (q9 : Addr) (u : SX) (t : State) (H1 : Heap) (locs1 : List Loc), t.heap = H1 → s.vm.Alike t.vm → px u → BX E u t → H.size ≤ H1.size → (∀ q : Nat, q < H.size → ¬ AX q → H1[q]? = H[q]?) → va_S A0 H0 H1 locs1 → H1[q9]? = some ce → ce.vm = .none → s.vm.findClass E = some ce.cls → vx_W p l e R s m args below meth c H1 locs1 (cells + mc) (slots + ms) Q (F0 m pc ls rest) q9)
    (kk : ∀ (r : UInt64) (u : S) (t : State) (H1 : Heap) (locs1 : List Loc), t.heap = H1 → s.vm.Alike t.vm → post r u → B u t → H.size ≤ H1.size → (∀ q : Nat, q < H.size → ¬ A1 q → H1[q]? = H[q]?) → va_S A0 H0 H1 locs1 → W p l e R s m args below meth c H1 locs1 (cells + mc) (slots + ms) Q (F0 m (pc + 3) ls (.double r :: rest))) : W p l e R s m args below meth c H locs cells slots Q (F0 m pc ls st0) := by
  intro T hT X
  rcases hr T hT X with ⟨v, st₀, t, T', L, h0, X', hL, e1, e2, ⟨⟨r, u, hv, hp, hb⟩, hF⟩, st⟩ | ⟨q, st₀, t, T', L, E, ce, h0, X', hL, e1, e2, ⟨u, hp, hb, hF⟩, hce, hcv, hcl, st⟩
  · cases hv
    obtain ⟨k1, k2, k3⟩ := vx_keep h0 e1 hS hA hf hL hF
    obtain ⟨t2, a1, b1⟩ := kk r u t T'.heap (locs ++ L) e1.symm (by rw [← e2]; exact X'.warmed.alike) hp hb k1 k2 k3 T' rfl X'
    exact ⟨t2, st t2 a1, b1⟩
  · obtain ⟨k1, k2, k3⟩ := vx_keep h0 e1 hS hAX hf hL hF
    obtain ⟨t2, a1, b1⟩ := kx E ce q u t T'.heap (locs ++ L) e1.symm (by rw [← e2]; exact X'.warmed.alike) hp hb k1 k2 k3 (by rw [e1]; exact hce) hcv hcl T' rfl X'
    exact ⟨t2, st.trans a1, b1⟩
theorem vx_callv {S SX : Type} {post : S → Prop} {px : SX → Prop} {B : S → State → Prop} {BX : String → SX → State → Prop} {AX : Nat → Prop} (hr : vx_Run p l e R s m args below meth c H locs cells slots mc ms (F0 m pc ls st0) rest (va_Qv post B A1 a) (vx_X px BX AX) free) (hS : va_S A0 H0 H locs) (hA : ∀ q, q < H.size → A1 q → A0 q) (hf : ∀ q, free q → A0 q) (hAX : ∀ q, q < H.size → AX q → A0 q)
    (kx : ∀ (E : String) (ce : Cell) (q9 : Addr) (u : SX) (t : State) (H1 : Heap) (locs1 : List Loc), t.heap = H1 → s.vm.Alike t.vm → px u → BX E u t → H.size ≤ H1.size → (∀ q : Nat, q < H.size → ¬ AX q → H1[q]? = H[q]?) → va_S A0 H0 H1 locs1 → H1[q9]? = some ce → ce.vm = .none → s.vm.findClass E = some ce.cls → vx_W p l e R s m args below meth c H1 locs1 (cells + mc) (slots + ms) Q (F0 m pc ls rest) q9)
    (kk : ∀ (u : S) (t : State) (H1 : Heap) (locs1 : List Loc), t.heap = H1 → s.vm.Alike t.vm → post u → B u t → H.size ≤ H1.size → (∀ q : Nat, q < H.size → ¬ A1 q → H1[q]? = H[q]?) → va_S A0 H0 H1 locs1 → W p l e R s m args below meth c H1 locs1 (cells + mc) (slots + ms) Q (F0 m (pc + 3) ls (rest))) : W p l e R s m args below meth c H locs cells slots Q (F0 m pc ls st0) := by
  intro T hT X
  rcases hr T hT X with ⟨v, st₀, t, T', L, h0, X', hL, e1, e2, ⟨⟨u, hv, hp, hb⟩, hF⟩, st⟩ | ⟨q, st₀, t, T', L, E, ce, h0, X', hL, e1, e2, ⟨u, hp, hb, hF⟩, hce, hcv, hcl, st⟩
  · cases hv
    obtain ⟨k1, k2, k3⟩ := vx_keep h0 e1 hS hA hf hL hF
    obtain ⟨t2, a1, b1⟩ := kk u t T'.heap (locs ++ L) e1.symm (by rw [← e2]; exact X'.warmed.alike) hp hb k1 k2 k3 T' rfl X'
    exact ⟨t2, st t2 a1, b1⟩
  · obtain ⟨k1, k2, k3⟩ := vx_keep h0 e1 hS hAX hf hL hF
    obtain ⟨t2, a1, b1⟩ := kx E ce q u t T'.heap (locs ++ L) e1.symm (by rw [← e2]; exact X'.warmed.alike) hp hb k1 k2 k3 (by rw [e1]; exact hce) hcv hcl T' rfl X'
    exact ⟨t2, st.trans a1, b1⟩
/-- caught by the row x of this method's table; the rows ahead don't take it -/
theorem vx_catch {own name : String} {E : String} {ce : Cell} {q : Addr} (hown : s.vm.findClass own = some m.cls) (pre : List ExceptionTableEntry) (x : ExceptionTableEntry) (suf : List ExceptionTableEntry) (hsplit : c.exceptionTable.toList = pre ++ x :: suf)
    (hpass : ∀ z ∈ pre, covers z pc = false ∨ (z.catchType ≠ 0 ∧ ∃ nm : String, (Cond.classLink own z.catchType nm).before args s = true ∧ va_Nc E nm s)) (hx : covers x pc = true) (h0 : x.catchType ≠ 0)
    (hlink : (Cond.classLink own x.catchType name).before args s = true) (hcast : (Cond.castable E name).before args s = true) (hcell : H[q]? = some ce) (hv : ce.vm = .none) (hcl : s.vm.findClass E = some ce.cls)
    (kk : W p l e R s m args below meth c H locs cells slots Q (F0 m x.handlerPc ls [.ref q])) : vx_W p l e R s m args below meth c H locs cells slots Q (F0 m pc ls rest) q := by
  intro T hT X
  have hpl : e.platform.magicAccessors = ({} : Platform).magicAccessors := by rw [X.admits.platform]
  obtain ⟨c3, c4, hc3, hc4, hasg⟩ := Cond.castable_spec hcast
  cases Option.some.inj (hc3.symm.trans hcl)
  obtain ⟨c5, hc5, hcl5⟩ := Cond.classLink_spec hown hlink e.platform hpl
  cases Option.some.inj (hc4.symm.trans hc5)
  obtain ⟨vm', X', st⟩ := X.thenCaughtThrough q (g := F0 m pc ls rest) rfl (Steps.refl _) (by rw [hT]; exact hcell) (by rw [hv]; rfl) (by obtain ⟨k9, h9, -⟩ := Vm.findClass_spec hcl; exact ⟨k9, h9⟩) pre x suf hsplit
    (fun z hz => by
      rcases hpass z hz with h | ⟨hz0, nm, hl1, hn1⟩
      · exact Or.inl h
      · obtain ⟨c6, hc6, hcl6⟩ := Cond.classLink_spec hown hl1 e.platform hpl
        obtain ⟨a8, b8, h1, h2, h3⟩ := hn1
        cases Option.some.inj (h1.symm.trans hcl)
        cases Option.some.inj (h2.symm.trans hc6)
        exact Or.inr ⟨hz0, _, hcl6, h3⟩) hx (Or.inr ⟨h0, c4, hcl5, hasg⟩)
  obtain ⟨t, a1, b1⟩ := kk (T.setVm vm') hT X'
  exact ⟨t, st.trans a1, b1⟩
end Rows
section Ends
variable {p : Program} {l : Launch} {e : Env} {R : Room} {s : State} {m : MethodId} {args : Array Value} {below : List Frame} {meth : Method} {c : Code} {H : Heap} {locs : List Loc} {cells slots : Nat} {Q : State → Prop}
variable {mc ms : Nat} {free : Addr → Prop} {A0 A1 : Nat → Prop} {H0 : Heap} {a : Array Value} {ls : Array Slot} {st0 rest : List Value}
variable {Qc : Array Value → State → Outcome → State → Prop} {XC : String → State → State → Prop}
/-- what a body that may throw owes at its end -/
def vx_MQ (below : List Frame) (Qc : Array Value → State → Outcome → State → Prop) (XC : String → State → State → Prop) (a : Array Value) (s : State) (mc ms : Nat) (free : Addr → Prop) : State → Prop := fun t =>
  ∃ o, t.status = .running ∧ Ended t below o ∧ vx_Q Qc XC mc ms free a s o t
theorem vx_ret {g : JFrame} {mc ms : Nat} (k : W p l e R s m args below meth c H locs cells slots (MQ below Qc args s mc ms free) g) : W p l e R s m args below meth c H locs cells slots (vx_MQ below Qc XC args s mc ms free) g := by
  intro T hT X
  obtain ⟨t, a1, o, b1, b2, b3, b4⟩ := k T hT X
  exact ⟨t, a1, o, b1, b2, Or.inl ⟨b3, b4⟩⟩
/-- not caught here: it goes on to the caller -/
theorem vx_widen {g : JFrame} {q : Addr} {k n : Nat} (h1 : cells ≤ k) (h2 : slots ≤ n) (kk : vx_W p l e R s m args below meth c H locs k n Q g q) : vx_W p l e R s m args below meth c H locs cells slots Q g q := fun T hT X => kk T hT (stand_widen X h1 h2)
theorem vx_out {pc : Nat} {E : String} {ce : Cell} {q : Addr} {mc ms : Nat} (hout : ∀ x ∈ c.exceptionTable.toList, covers x pc = false) (hlocks : meth.locks = false) (hcell : H[q]? = some ce) (hv : ce.vm = .none) (hcl : s.vm.findClass E = some ce.cls)
    (hx : ∀ t : State, t.heap = H → s.vm.Alike t.vm → XC E s t) (hf : ∀ z ∈ locs, free z.base) (hc : cells ≤ mc) (hs : slots ≤ ms) :
    vx_W p l e R s m args below meth c H locs cells slots (vx_MQ below Qc XC args s mc ms free) (F0 m pc ls rest) q := by
  intro T hT X
  obtain ⟨st1, hrun, hend, hW, hsm⟩ := X.leaveThrown q (g := F0 m pc ls rest) rfl rfl rfl hout hlocks
  have hcell9 : (T.setFrames (.throwing q :: below)).heap[q]? = some ce := by
    show T.heap[q]? = some ce
    rw [hT]; exact hcell
  exact ⟨_, st1, .threw q, hrun, hend, Or.inr ⟨q, rfl, E, ce, locs, hx _ hT hW.alike, hcell9, hv, hcl, hW, hsm.mono hc hs, hf⟩⟩
theorem vx_frame {U : State} {k n : Nat} (h : s.sameButNew ({ U with vm := s.vm } : State) locs k n) : s.heap.size ≤ U.heap.size ∧ ∀ q : Nat, q < s.heap.size → (∀ z ∈ locs, z.base ≠ q) → U.heap[q]? = s.heap[q]? := by
  obtain ⟨-, h2, -, -, -, h6⟩ := h
  refine ⟨h2, fun q hq hz => ?_⟩
  obtain ⟨c9, e1, e2, e3, e4⟩ := h6 q _ (Array.getElem?_eq_getElem hq)
  have hs : c9.slots = (s.heap[q]).slots := Array.ext_getElem? fun i => e4 i fun hm => hz _ hm rfl
  have h9 : c9 = s.heap[q] := by
    rw [hs] at e2
    exact e2
  have e5 : U.heap[q]? = some c9 := e1
  rw [e5, h9, Array.getElem?_eq_getElem hq]
/-- the words of a throw but the four that speak of the heap -/
def vx_no (w : Cond) : Bool := decide (w ≠ .isRef (.static Bundle.tN "UNASSIGNED_STACK" Bundle.steD)) && decide (w ≠ .isRef (.static Bundle.tN "SUPPRESSED_SENTINEL" Bundle.listD)) && decide (w ≠ .laysStatic Bundle.tN "UNASSIGNED_STACK" Bundle.steD) && decide (w ≠ .laysStatic Bundle.tN "SUPPRESSED_SENTINEL" Bundle.listD)
def vx_at0 (own : String) (ic : Nat) (X : String) (names : List String) : List Cond := (Bundle.ownAtoms0 own ic X names).filter vx_no
def vx_atS (own : String) (ic : Nat) (X : String) (names : List String) : List Cond := (Bundle.ownAtoms own ic X names).filter vx_no
/-- a word that the tables alone decide, or a good one -/
def vx_ot (w : Cond) : Bool := w.onTables || goodWord w
theorem vx_ot_at {args a' : Array Value} {s U : State} {w : Cond} (hW : s.WarmedH U.vm) (hvm : s.vm = U.vm) (hg : vx_ot w = true) (h : w.before args s = true) : w.before a' U = true := by
  simp only [vx_ot, Bool.or_eq_true] at hg
  rcases hg with hg | hg
  · exact va_tabs hg hvm h
  · exact word_at hW (good_of_word hg) h
/-- a list's words: the good ones out of the method's own list, the others by premises of their own -/
theorem vx_hat {args : Array Value} {s : State} {L B : List Cond} (h1 : ∀ w ∈ L.filter goodWord, w.before args s = true) (h2 : ∀ w ∈ L.filter (fun w => !goodWord w), w ∈ B) (h3 : ∀ w ∈ B, w.before args s = true) : ∀ w ∈ L, w.before args s = true := by
  intro w hw
  by_cases g : goodWord w = true
  · exact h1 w (List.mem_filter.mpr ⟨hw, g⟩)
  · refine h3 w (h2 w (List.mem_filter.mpr ⟨hw, ?_⟩))
    show (!goodWord w) = true
    cases hgw : goodWord w
    · rfl
    · exact absurd hgw g
theorem vx_c {args : Array Value} {s : State} {w : Cond} {B : List Cond} (h : w.before args s = true) (t : ∀ w ∈ B, w.before args s = true) : ∀ w' ∈ w :: B, w'.before args s = true := fun w' h' => (List.mem_cons.mp h').elim (fun e => by rw [e]; exact h) (t w')
theorem vx_n {args : Array Value} {s : State} : ∀ w ∈ ([] : List Cond), w.before args s = true := fun _ h => nomatch h
theorem vx_own {args : Array Value} {s : State} {L : List Cond} (h1 : ∀ w ∈ L.filter vx_no, w.before args s = true)
    (hU : (Cond.isRef (.static Bundle.tN "UNASSIGNED_STACK" Bundle.steD)).before args s = true) (hN : (Cond.isRef (.static Bundle.tN "SUPPRESSED_SENTINEL" Bundle.listD)).before args s = true)
    (lU : (Cond.laysStatic Bundle.tN "UNASSIGNED_STACK" Bundle.steD).before args s = true) (lN : (Cond.laysStatic Bundle.tN "SUPPRESSED_SENTINEL" Bundle.listD).before args s = true) : ∀ w ∈ L, w.before args s = true := by
  intro w hw
  by_cases e1 : w = .isRef (.static Bundle.tN "UNASSIGNED_STACK" Bundle.steD)
  · rw [e1]; exact hU
  · by_cases e2 : w = .isRef (.static Bundle.tN "SUPPRESSED_SENTINEL" Bundle.listD)
    · rw [e2]; exact hN
    · by_cases e3 : w = .laysStatic Bundle.tN "UNASSIGNED_STACK" Bundle.steD
      · rw [e3]; exact lU
      · by_cases e4 : w = .laysStatic Bundle.tN "SUPPRESSED_SENTINEL" Bundle.listD
        · rw [e4]; exact lN
        · exact h1 w (List.mem_filter.mpr ⟨hw, by unfold vx_no; rw [decide_eq_true e1, decide_eq_true e2, decide_eq_true e3, decide_eq_true e4]; rfl⟩)
/-- where a static field lies, its class's statics cell in H -/
def vx_L (C n d : String) (A : Nat → Prop) (U : State) (H : Heap) : Prop := ∃ (c : ClassId) (k : Class) (i : Nat) (f : Field) (a : Nat) (cell : Cell), U.vm.findClass C = some c ∧ U.fieldFound? C n d = some (c, k, i, f) ∧ f.isStatic = true ∧ k.statics = some a ∧ H[a]? = some cell ∧ cell.vm.isStatics = true ∧ cell.cls = c ∧ f.slot < cell.slots.size ∧ k.staticTypes[f.slot]? = some f.type ∧ ¬ A a
theorem vx_L.moved {C n d : String} {A : Nat → Prop} {u U : State} {H : Heap} (hvm : u.vm.Alike U.vm) (h : vx_L C n d A u H) : vx_L C n d A U H := by
  obtain ⟨c, k, i, f, a, cell, h1, h2, h3, h4, h5, h6, h7, h8, h9, h10⟩ := h
  obtain ⟨k', hi', he⟩ := State.fieldFound?_setVm hvm h2
  exact ⟨c, k', i, f, a, cell, by rw [hvm.findClass]; exact h1, hi', h3, by rw [he]; exact h4, h5, h6, h7, h8, by rw [he]; exact h9, h10⟩
theorem vx_L.kept {C n d : String} {A : Nat → Prop} {U : State} {H H1 : Heap} (h : vx_L C n d A U H) (hq : ∀ a : Nat, a < H.size → ¬ A a → H1[a]? = H[a]?) : vx_L C n d A U H1 := by
  obtain ⟨c, k, i, f, a, cell, h1, h2, h3, h4, h5, h6, h7, h8, h9, h10⟩ := h
  exact ⟨c, k, i, f, a, cell, h1, h2, h3, h4, by rw [hq a (Array.getElem?_eq_some_iff.mp h5).1 h10]; exact h5, h6, h7, h8, h9, h10⟩
theorem vx_L.narrow {C n d : String} {A B : Nat → Prop} {U : State} {H : Heap} (h : vx_L C n d A U H) (hAB : ∀ q, B q → A q) : vx_L C n d B U H := by
  obtain ⟨c, k, i, f, a, cell, h1, h2, h3, h4, h5, h6, h7, h8, h9, h10⟩ := h
  exact ⟨c, k, i, f, a, cell, h1, h2, h3, h4, h5, h6, h7, h8, h9, fun z => h10 (hAB _ z)⟩
theorem vx_L.word {C n d : String} {A : Nat → Prop} {s : State} {args : Array Value} (h : vx_L C n d A s s.heap) : (Cond.laysStatic C n d).before args s = true := by
  obtain ⟨c, k, i, f, a, cell, h1, h2, h3, h4, h5, h6, h7, h8, h9, -⟩ := h
  show (Cond.laysStatic C n d).holds args s none s [] = true
  exact Cond.laysStatic_of h1 h2 h3 h4 h5 h6 h7 h8 h9
/-- .. and what it holds: null or some reference -/
def vx_Zq (C n d : String) (A : Nat → Prop) (U : State) (H : Heap) : Prop := va_Zq C n d A U H ∧ vx_L C n d A U H
theorem vx_Zq.moved {C n d : String} {A : Nat → Prop} {u U : State} {H : Heap} (hvm : u.vm.Alike U.vm) (h : vx_Zq C n d A u H) : vx_Zq C n d A U H := ⟨va_Zq.moved hvm h.1, vx_L.moved hvm h.2⟩
theorem vx_Zq.kept {C n d : String} {A : Nat → Prop} {U : State} {H H1 : Heap} (h : vx_Zq C n d A U H) (hq : ∀ a : Nat, a < H.size → ¬ A a → H1[a]? = H[a]?) : vx_Zq C n d A U H1 := ⟨va_Zq.kept h.1 hq, vx_L.kept h.2 hq⟩
theorem vx_Zq.narrow {C n d : String} {A B : Nat → Prop} {U : State} {H : Heap} (h : vx_Zq C n d A U H) (hAB : ∀ q, B q → A q) : vx_Zq C n d B U H := ⟨va_Zq.narrow h.1 hAB, vx_L.narrow h.2 hAB⟩
theorem vx_Zqof {args : Array Value} {s : State} {C n d : String} {A : Nat → Prop} (hl : (Cond.laysStatic C n d).before args s = true) (hini : (Cond.initialized C).before args s = true) (h : (Cond.isRef (.static C n d)).before args s = true) (hA : ∀ a : Nat, a < s.heap.size → ¬ A a) : vx_Zq C n d A s s.heap := by
  refine ⟨va_Zqof hl hini h hA, ?_⟩
  obtain ⟨c, k, i, f, a, cell, h1, h2, h3, h4, h5, h6, h7, h8, h9⟩ := Cond.laysStatic_spec hl
  exact ⟨c, k, i, f, a, cell, h1, h2, h3, h4, h5, h6, h7, h8, h9, hA a (Array.getElem?_eq_some_iff.mp h5).1⟩
theorem vx_isRef {C n d : String} {v : Value} {A : Nat → Prop} {s : State} {args : Array Value} (h : va_Z C n d v A s s.heap) (hv : v.isRef = true) : (Cond.isRef (.static C n d)).before args s = true := by
  obtain ⟨cf, kf, fi, f, a, cell, h1, h2, h3, h4, h5, h6, h7, -⟩ := h
  have he : (Term.static C n d).eval args s none [] s = some v := by
    simp [Term.eval, State.fieldNamed?, h1, h2, h4, h5, h6, h7]
  simp only [Cond.before, Cond.holds, Cond.value, he]
  cases v <;> simp_all [Value.isRef]
theorem vx_isRefq {C n d : String} {A : Nat → Prop} {s : State} {args : Array Value} (h : va_Zq C n d A s s.heap) : (Cond.isRef (.static C n d)).before args s = true := by
  rcases h with h | ⟨t, h⟩
  · exact vx_isRef h rfl
  · exact vx_isRef h rfl
/-- the same frame, seen from here: as if the method were called anew in this heap -/
theorem vx_rebase {T : State} (X : Stand p l e R s m args below meth c T locs cells slots) {R' : Room} (hf : R'.frames ≤ R.frames) (hl : R'.locals ≤ R.locals) (hc : cells + R'.cells ≤ R.cells) (hs : slots + R'.slots ≤ R.slots) :
    Stand p l e R' ((T.setVm s.vm).setFrames (.invoking m args :: below)) m args below meth c T [] 0 0 := by
  have htop : (T.setVm s.vm).topJava?.isSome := X.here.top
  have hF : ((T.setVm s.vm).setFrames (.invoking m args :: below)).frames = .invoking m args :: below := State.frames_setFrames _ (State.cur_lt_of_top htop)
  obtain ⟨g₀, hg0⟩ := Option.isSome_iff_exists.mp htop
  obtain ⟨r, hr⟩ := State.topJava?_eq_some.mp hg0
  have hl9 : e.platform.stackLimits (T.setVm s.vm).me = e.platform.stackLimits s.me := X.limits
  have hb9 : (T.setVm s.vm).me.stackBytes = s.me.stackBytes := X.bytes
  refine ⟨X.admits, X.cas, X.clock, hF, ?_, X.hears, X.method, X.code, X.here, X.tail, X.warmed, ?_, ?_, ?_⟩
  · have h := X.room
    have hU : ((T.setVm s.vm).setFrames (.invoking m args :: below)).localsInUse = s.localsInUse := by
      rw [State.localsInUse_invoking hF (meth := meth) (c := c) X.method X.code, State.localsInUse_invoking X.frames X.method X.code]
    simp only [State.hasRoom, Bool.and_eq_true, decide_eq_true_eq] at h ⊢
    obtain ⟨⟨⟨⟨h1, h2, h3, h4, h5, h6⟩, h7⟩, h8⟩, h9⟩ := h
    rw [X.frames, List.length_cons] at h2 h3
    have q1 := X.heapSize
    have q2 := X.used
    simp only [hF, hU, List.length_cons, State.stackLimits_setFrames, State.stackBytes_setFrames, hl9, hb9]
    refine ⟨⟨⟨⟨by omega, by omega, by omega, by omega, by omega, h6⟩, ?_⟩, ?_⟩, X.book⟩
    · show T.heap.size + R'.cells ≤ e.platform.maxCells
      omega
    · show T.slotsUsed + R'.slots ≤ e.platform.maxSlots
      omega
  · rw [State.stackLimits_setFrames]; rfl
  · rw [State.stackBytes_setFrames]; rfl
  · refine ⟨?_, Nat.le_refl _, Nat.le_refl _, ?_, ?_, fun a c9 h9 => ⟨c9, h9, rfl, rfl, fun _ _ => rfl⟩⟩
    · obtain ⟨t, ht, -⟩ := State.frames_cons hr
      show T.setVm s.vm = { ((T.setVm s.vm).setFrames (.invoking m args :: below)).setFrames (T.setVm s.vm).frames with heap := T.heap, slotsUsed := T.slotsUsed }
      rw [State.setFrames_setFrames, State.setFrames_self ht]
      rfl
    · show T.slotsUsed = T.slotsUsed + ((T.heap.toList.drop T.heap.size).map (·.slots.size)).sum
      rw [List.drop_eq_nil_of_le (Nat.le_of_eq Array.length_toList)]
      rfl
    · show ((T.heap.toList.drop T.heap.size).map (·.slots.size)).sum ≤ 0
      rw [List.drop_eq_nil_of_le (Nat.le_of_eq Array.length_toList)]
      exact Nat.le_refl _
/-- 'throw new E()': new; dup; invokespecial; athrow -/
theorem vx_throw0 {cc : ByteArray} {pc : Nat} (hexec : p.tables.exec = Jvm.exec) (hb : c.code = cc) (hl : l.stackTraces = false) {own cls : String} {names : List String} {ik ic mc ms : Nat} {A : Nat → Prop}
    (hown : s.vm.findClass own = some m.cls) (hcls : Bundle.fit cls = true) (hnames : ∀ n ∈ names, Bundle.fit n = true)
    (hk : (Cond.classLink own ik cls).before args s = true) (hini : (Cond.initialized cls).before args s = true) (hat : ∀ w ∈ vx_at0 own ic cls names, w.before args s = true)
    (hgood : ∀ w ∈ Cond.classLink own ik cls :: Cond.initialized cls :: vx_at0 own ic cls names, vx_ot w = true)
    (hU : vx_Zq Bundle.tN "UNASSIGNED_STACK" Bundle.steD A s s.heap) (hN : vx_Zq Bundle.tN "SUPPRESSED_SENTINEL" Bundle.listD A s s.heap) (hS : va_S A s.heap H locs) (hsize : ls.size = c.maxLocals)
    (d0 : decode cc pc = .ok (.new ik, 3)) (d3 : decode cc (pc + 3) = .ok (.dup, 1)) (d4 : decode cc (pc + 4) = .ok (.invokespecial ic, 3)) (d7 : decode cc (pc + 7) = .ok (.athrow, 1))
    (hout : ∀ x ∈ c.exceptionTable.toList, covers x (pc + 7) = false)
    (hRframes : names.length + 3 < R.frames) (hRlocals : (rest.map fun v => v.category).sum + (13 * (names.length + 1) + 42) ≤ R.locals) (hRcells : cells + 1 ≤ R.cells) (hRslots : slots + 6 ≤ R.slots) (hlocks : meth.locks = false)
    (hx : ∀ t : State, s.vm.Alike t.vm → H.size ≤ t.heap.size → (∀ q : Nat, q < H.size → t.heap[q]? = H[q]?) → XC cls s t)
    (hf : ∀ z ∈ locs, free z.base) (hc : cells + 1 ≤ mc) (hs : slots + 6 ≤ ms) :
    W p l e R s m args below meth c H locs cells slots (vx_MQ below Qc XC args s mc ms free) (F0 m pc ls rest) := by
  intro T hT X
  have htr : e.platform.stackTraces = false := (show e.platform.stackTraces = l.stackTraces by rw [X.admits.platform]).trans hl
  have Y := vx_rebase X (R' := { frames := R.frames, locals := R.locals, cells := 1, slots := 6 }) (Nat.le_refl _) (Nat.le_refl _) hRcells hRslots
  obtain ⟨s', hA⟩ : ∃ z, z = (T.setVm s.vm).setFrames (.invoking m args :: below) := ⟨_, rfl⟩
  rw [← hA] at Y
  have hvm : s'.vm = s.vm := by rw [hA]; rfl
  have hhp : s'.heap = H := by rw [hA]; exact hT
  have hW0 : s.WarmedH s'.vm := by rw [hvm]; exact State.WarmedH.refl s
  have hat' : ∀ w ∈ vx_at0 own ic cls names, w.before args s' = true := fun w hw => vx_ot_at hW0 hvm.symm (hgood w (List.mem_cons_of_mem _ (List.mem_cons_of_mem _ hw))) (hat w hw)
  have hk' : (Cond.classLink own ik cls).before args s' = true := vx_ot_at hW0 hvm.symm (hgood _ List.mem_cons_self) hk
  have hini' : (Cond.initialized cls).before args s' = true := vx_ot_at hW0 hvm.symm (hgood _ (List.mem_cons_of_mem _ List.mem_cons_self)) hini
  have hU' : vx_Zq Bundle.tN "UNASSIGNED_STACK" Bundle.steD A s' s'.heap := by rw [hhp]; exact vx_Zq.moved hW0.alike (hU.kept hS.2.1)
  have hN' : vx_Zq Bundle.tN "SUPPRESSED_SENTINEL" Bundle.listD A s' s'.heap := by rw [hhp]; exact vx_Zq.moved hW0.alike (hN.kept hS.2.1)
  have h : ∀ w ∈ Bundle.ownAtoms0 own ic cls names, w.before args s' = true := vx_own hat' (vx_isRefq hU'.1) (vx_isRefq hN'.1) hU'.2.word hN'.2.word
  have hown' : s'.vm.findClass own = some m.cls := by rw [hvm]; exact hown
  have hins : (Cond.instantiable cls 6).before args s' = true := h _ (by simp [Bundle.ownAtoms0])
  obtain ⟨vm₁, cX, kX, hfX, hkX, -, -, X₁, st1⟩ := Y.newCold hexec (own := own) (C := cls) (index := ik) (n := 6) hown' hk' hins hini'
    (g := F0 m pc ls rest) rfl (by rw [hb]; exact d0) (Nat.le_refl _) (Nat.le_refl _)
  generalize hT1 : (T.setVm vm₁).pushCell { cls := cX, slots := kX.instanceTypes.map defaultValue, vm := .none } = T1 at X₁ st1
  have hcat : (Value.ref T.heap.size).category = 1 := rfl
  have hcellA : T1.heap[T.heap.size]? = some (freshCell cX kX) := by rw [← hT1]; exact State.heap_pushCell_size _ _
  have d3' : decode c.code (pc + 3) = .ok (.dup, 1) := by rw [hb]; exact d3
  obtain ⟨U, hsteps, hrun, hend, hW, hsame, ce, hce, hO⟩ := X₁.ctorThrow0 hexec htr (own := own) (cls := cls) (names := names) (ic := ic) hown' hcls hnames h (fun x hx => nomatch hx) hfX hkX hcellA (by rw [hhp, hT]; exact Nat.le_refl _)
    (g := { method := m, pc := pc + 4, locals := ls, stack := .ref T.heap.size :: .ref T.heap.size :: rest, locked := none }) rfl hsize rfl rfl (rest := rest) rfl
    (by rw [hb]; exact d4) (by rw [hb]; exact d7) hout hRframes (by simp only [List.map_cons, List.sum_cons, hcat]; omega) hlocks
  obtain ⟨f1, f2⟩ := vx_frame hsame
  rw [hhp] at f1 f2
  have hWs : s.WarmedH U.vm := State.WarmedH.trans hW0 hW
  have hcl : s.vm.findClass cls = some ce.cls := by
    have h9 := hO.cls
    rw [hvm] at h9
    exact h9
  have hall : s.sameButNew ({ U with vm := s.vm } : State) locs mc ms := by
    subst hA
    obtain ⟨e1, e2⟩ := hsame
    rw [State.setFrames_setFrames] at e1
    have h2 : (T.setVm s.vm).sameButNew ({ U with vm := s.vm } : State) [] (0 + 1) (0 + 6) := ⟨e1, e2⟩
    have h3 := X.same.trans h2
    rw [List.append_nil] at h3
    exact h3.mono hc hs
  refine ⟨U, ?_, .threw T.heap.size, hrun, hend, Or.inr ⟨T.heap.size, rfl, cls, ce, locs, hx U hWs.alike f1 (fun q hq => f2 q hq (fun z hz => nomatch hz)), hce, hO.vm, hcl, hWs, hall, hf⟩⟩
  refine st1 _ ?_
  show Steps p.tables e below (T1.setTop { method := m, pc := pc + 3, locals := ls, stack := .ref T.heap.size :: rest, locked := none }) _
  jvm_step X₁.here [X₁.here.top, hexec, d3', Value.category]
  exact hsteps
/-- 'throw new E("text")': new; dup; ldc; invokespecial; athrow -/
theorem vx_throwS {cc : ByteArray} {pc : Nat} (hexec : p.tables.exec = Jvm.exec) (hb : c.code = cc) (hl : l.stackTraces = false) {own cls text : String} {names : List String} {ik is ic mc ms sa : Nat} {A : Nat → Prop}
    (hown : s.vm.findClass own = some m.cls) (hcls : Bundle.fit cls = true) (hnames : ∀ n ∈ names, Bundle.fit n = true)
    (hk : (Cond.classLink own ik cls).before args s = true) (hini : (Cond.initialized cls).before args s = true) (hstr : vk_R own is text sa s) (hat : ∀ w ∈ vx_atS own ic cls names, w.before args s = true)
    (hgood : ∀ w ∈ Cond.classLink own ik cls :: Cond.initialized cls :: vx_atS own ic cls names, vx_ot w = true)
    (hU : vx_Zq Bundle.tN "UNASSIGNED_STACK" Bundle.steD A s s.heap) (hN : vx_Zq Bundle.tN "SUPPRESSED_SENTINEL" Bundle.listD A s s.heap) (hS : va_S A s.heap H locs) (hsize : ls.size = c.maxLocals)
    (d0 : decode cc pc = .ok (.new ik, 3)) (d3 : decode cc (pc + 3) = .ok (.dup, 1)) (d4 : decode cc (pc + 4) = .ok (.ldc is, 2)) (d6 : decode cc (pc + 6) = .ok (.invokespecial ic, 3)) (d9 : decode cc (pc + 9) = .ok (.athrow, 1))
    (hout : ∀ x ∈ c.exceptionTable.toList, covers x (pc + 9) = false)
    (hRframes : names.length + 3 < R.frames) (hRlocals : (rest.map fun v => v.category).sum + (13 * (names.length + 1) + 43) ≤ R.locals) (hRcells : cells + 1 ≤ R.cells) (hRslots : slots + 6 ≤ R.slots) (hlocks : meth.locks = false)
    (hx : ∀ t : State, s.vm.Alike t.vm → H.size ≤ t.heap.size → (∀ q : Nat, q < H.size → t.heap[q]? = H[q]?) → XC cls s t)
    (hf : ∀ z ∈ locs, free z.base) (hc : cells + 1 ≤ mc) (hs : slots + 6 ≤ ms) :
    W p l e R s m args below meth c H locs cells slots (vx_MQ below Qc XC args s mc ms free) (F0 m pc ls rest) := by
  intro T hT X
  have htr : e.platform.stackTraces = false := (show e.platform.stackTraces = l.stackTraces by rw [X.admits.platform]).trans hl
  have Y := vx_rebase X (R' := { frames := R.frames, locals := R.locals, cells := 1, slots := 6 }) (Nat.le_refl _) (Nat.le_refl _) hRcells hRslots
  obtain ⟨s', hA⟩ : ∃ z, z = (T.setVm s.vm).setFrames (.invoking m args :: below) := ⟨_, rfl⟩
  rw [← hA] at Y
  have hvm : s'.vm = s.vm := by rw [hA]; rfl
  have hhp : s'.heap = H := by rw [hA]; exact hT
  have hW0 : s.WarmedH s'.vm := by rw [hvm]; exact State.WarmedH.refl s
  have hat' : ∀ w ∈ vx_atS own ic cls names, w.before args s' = true := fun w hw => vx_ot_at hW0 hvm.symm (hgood w (List.mem_cons_of_mem _ (List.mem_cons_of_mem _ hw))) (hat w hw)
  have hk' : (Cond.classLink own ik cls).before args s' = true := vx_ot_at hW0 hvm.symm (hgood _ List.mem_cons_self) hk
  have hini' : (Cond.initialized cls).before args s' = true := vx_ot_at hW0 hvm.symm (hgood _ (List.mem_cons_of_mem _ List.mem_cons_self)) hini
  have hU' : vx_Zq Bundle.tN "UNASSIGNED_STACK" Bundle.steD A s' s'.heap := by rw [hhp]; exact vx_Zq.moved hW0.alike (hU.kept hS.2.1)
  have hN' : vx_Zq Bundle.tN "SUPPRESSED_SENTINEL" Bundle.listD A s' s'.heap := by rw [hhp]; exact vx_Zq.moved hW0.alike (hN.kept hS.2.1)
  have h : ∀ w ∈ Bundle.ownAtoms own ic cls names, w.before args s' = true := vx_own hat' (vx_isRefq hU'.1) (vx_isRefq hN'.1) hU'.2.word hN'.2.word
  have hown' : s'.vm.findClass own = some m.cls := by rw [hvm]; exact hown
  have hins : (Cond.instantiable cls 6).before args s' = true := h _ (by simp [Bundle.ownAtoms])
  obtain ⟨vm₁, cX, kX, hfX, hkX, -, -, X₁, st1⟩ := Y.newCold hexec (own := own) (C := cls) (index := ik) (n := 6) hown' hk' hins hini'
    (g := F0 m pc ls rest) rfl (by rw [hb]; exact d0) (Nat.le_refl _) (Nat.le_refl _)
  generalize hT1 : (T.setVm vm₁).pushCell { cls := cX, slots := kX.instanceTypes.map defaultValue, vm := .none } = T1 at X₁ st1
  have hcat : (Value.ref T.heap.size).category = 1 := rfl
  have hcellA : T1.heap[T.heap.size]? = some (freshCell cX kX) := by rw [← hT1]; exact State.heap_pushCell_size _ _
  have d3' : decode c.code (pc + 3) = .ok (.dup, 1) := by rw [hb]; exact d3
  have d4' : decode c.code (pc + 4) = .ok (.ldc is, 2) := by rw [hb]; exact d4
  have hstr' : vk_R own is text sa s' := vk_R.warm hW0 hstr
  obtain ⟨U, hsteps, hrun, hend, hW, hsame, ce, hce, hO⟩ := X₁.ctorThrowS hexec htr (own := own) (cls := cls) (names := names) (ic := ic) hown' hcls hnames h (fun x hx => nomatch hx) hfX hkX hcellA (by rw [hhp, hT]; exact Nat.le_refl _) (msg := .ref sa) rfl
    (g := { method := m, pc := pc + 6, locals := ls, stack := .ref sa :: .ref T.heap.size :: .ref T.heap.size :: rest, locked := none }) rfl hsize rfl rfl (rest := rest) rfl
    (by rw [hb]; exact d6) (by rw [hb]; exact d9) hout hRframes (by simp only [List.map_cons, List.sum_cons, hcat]; omega) hlocks
  obtain ⟨f1, f2⟩ := vx_frame hsame
  rw [hhp] at f1 f2
  have hWs : s.WarmedH U.vm := State.WarmedH.trans hW0 hW
  have hcl : s.vm.findClass cls = some ce.cls := by
    have h9 := hO.cls
    rw [hvm] at h9
    exact h9
  have hall : s.sameButNew ({ U with vm := s.vm } : State) locs mc ms := by
    subst hA
    obtain ⟨e1, e2⟩ := hsame
    rw [State.setFrames_setFrames] at e1
    have h2 : (T.setVm s.vm).sameButNew ({ U with vm := s.vm } : State) [] (0 + 1) (0 + 6) := ⟨e1, e2⟩
    have h3 := X.same.trans h2
    rw [List.append_nil] at h3
    exact h3.mono hc hs
  refine ⟨U, ?_, .threw T.heap.size, hrun, hend, Or.inr ⟨T.heap.size, rfl, cls, ce, locs, hx U hWs.alike f1 (fun q hq => f2 q hq (fun z hz => nomatch hz)), hce, hO.vm, hcl, hWs, hall, hf⟩⟩
  refine st1 _ ?_
  show Steps p.tables e below (T1.setTop { method := m, pc := pc + 3, locals := ls, stack := .ref T.heap.size :: rest, locked := none }) _
  jvm_step X₁.here [X₁.here.top, hexec, d3', Value.category]
  exact X₁.ldcString hexec (own := own) (text := text) (index := is) (a := sa) hown' hstr'.1 hstr'.2
    (g := { method := m, pc := pc + 4, locals := ls, stack := .ref T.heap.size :: .ref T.heap.size :: rest, locked := none }) rfl d4' _ hsteps
/-- 'throw new E("text")', the text by a wide index -/
theorem vx_throwSW {cc : ByteArray} {pc : Nat} (hexec : p.tables.exec = Jvm.exec) (hb : c.code = cc) (hl : l.stackTraces = false) {own cls text : String} {names : List String} {ik is ic mc ms sa : Nat} {A : Nat → Prop}
    (hown : s.vm.findClass own = some m.cls) (hcls : Bundle.fit cls = true) (hnames : ∀ n ∈ names, Bundle.fit n = true)
    (hk : (Cond.classLink own ik cls).before args s = true) (hini : (Cond.initialized cls).before args s = true) (hstr : vk_R own is text sa s) (hat : ∀ w ∈ vx_atS own ic cls names, w.before args s = true)
    (hgood : ∀ w ∈ Cond.classLink own ik cls :: Cond.initialized cls :: vx_atS own ic cls names, vx_ot w = true)
    (hU : vx_Zq Bundle.tN "UNASSIGNED_STACK" Bundle.steD A s s.heap) (hN : vx_Zq Bundle.tN "SUPPRESSED_SENTINEL" Bundle.listD A s s.heap) (hS : va_S A s.heap H locs) (hsize : ls.size = c.maxLocals)
    (d0 : decode cc pc = .ok (.new ik, 3)) (d3 : decode cc (pc + 3) = .ok (.dup, 1)) (d4 : decode cc (pc + 4) = .ok (.ldc_w is, 3)) (d7 : decode cc (pc + 7) = .ok (.invokespecial ic, 3)) (d10 : decode cc (pc + 10) = .ok (.athrow, 1))
    (hout : ∀ x ∈ c.exceptionTable.toList, covers x (pc + 10) = false)
    (hRframes : names.length + 3 < R.frames) (hRlocals : (rest.map fun v => v.category).sum + (13 * (names.length + 1) + 43) ≤ R.locals) (hRcells : cells + 1 ≤ R.cells) (hRslots : slots + 6 ≤ R.slots) (hlocks : meth.locks = false)
    (hx : ∀ t : State, s.vm.Alike t.vm → H.size ≤ t.heap.size → (∀ q : Nat, q < H.size → t.heap[q]? = H[q]?) → XC cls s t)
    (hf : ∀ z ∈ locs, free z.base) (hc : cells + 1 ≤ mc) (hs : slots + 6 ≤ ms) :
    W p l e R s m args below meth c H locs cells slots (vx_MQ below Qc XC args s mc ms free) (F0 m pc ls rest) := by
  intro T hT X
  have htr : e.platform.stackTraces = false := (show e.platform.stackTraces = l.stackTraces by rw [X.admits.platform]).trans hl
  have Y := vx_rebase X (R' := { frames := R.frames, locals := R.locals, cells := 1, slots := 6 }) (Nat.le_refl _) (Nat.le_refl _) hRcells hRslots
  obtain ⟨s', hA⟩ : ∃ z, z = (T.setVm s.vm).setFrames (.invoking m args :: below) := ⟨_, rfl⟩
  rw [← hA] at Y
  have hvm : s'.vm = s.vm := by rw [hA]; rfl
  have hhp : s'.heap = H := by rw [hA]; exact hT
  have hW0 : s.WarmedH s'.vm := by rw [hvm]; exact State.WarmedH.refl s
  have hat' : ∀ w ∈ vx_atS own ic cls names, w.before args s' = true := fun w hw => vx_ot_at hW0 hvm.symm (hgood w (List.mem_cons_of_mem _ (List.mem_cons_of_mem _ hw))) (hat w hw)
  have hk' : (Cond.classLink own ik cls).before args s' = true := vx_ot_at hW0 hvm.symm (hgood _ List.mem_cons_self) hk
  have hini' : (Cond.initialized cls).before args s' = true := vx_ot_at hW0 hvm.symm (hgood _ (List.mem_cons_of_mem _ List.mem_cons_self)) hini
  have hU' : vx_Zq Bundle.tN "UNASSIGNED_STACK" Bundle.steD A s' s'.heap := by rw [hhp]; exact vx_Zq.moved hW0.alike (hU.kept hS.2.1)
  have hN' : vx_Zq Bundle.tN "SUPPRESSED_SENTINEL" Bundle.listD A s' s'.heap := by rw [hhp]; exact vx_Zq.moved hW0.alike (hN.kept hS.2.1)
  have h : ∀ w ∈ Bundle.ownAtoms own ic cls names, w.before args s' = true := vx_own hat' (vx_isRefq hU'.1) (vx_isRefq hN'.1) hU'.2.word hN'.2.word
  have hown' : s'.vm.findClass own = some m.cls := by rw [hvm]; exact hown
  have hins : (Cond.instantiable cls 6).before args s' = true := h _ (by simp [Bundle.ownAtoms])
  obtain ⟨vm₁, cX, kX, hfX, hkX, -, -, X₁, st1⟩ := Y.newCold hexec (own := own) (C := cls) (index := ik) (n := 6) hown' hk' hins hini'
    (g := F0 m pc ls rest) rfl (by rw [hb]; exact d0) (Nat.le_refl _) (Nat.le_refl _)
  generalize hT1 : (T.setVm vm₁).pushCell { cls := cX, slots := kX.instanceTypes.map defaultValue, vm := .none } = T1 at X₁ st1
  have hcat : (Value.ref T.heap.size).category = 1 := rfl
  have hcellA : T1.heap[T.heap.size]? = some (freshCell cX kX) := by rw [← hT1]; exact State.heap_pushCell_size _ _
  have d3' : decode c.code (pc + 3) = .ok (.dup, 1) := by rw [hb]; exact d3
  have d4' : decode c.code (pc + 4) = .ok (.ldc_w is, 3) := by rw [hb]; exact d4
  have hstr' : vk_R own is text sa s' := vk_R.warm hW0 hstr
  obtain ⟨U, hsteps, hrun, hend, hW, hsame, ce, hce, hO⟩ := X₁.ctorThrowS hexec htr (own := own) (cls := cls) (names := names) (ic := ic) hown' hcls hnames h (fun x hx => nomatch hx) hfX hkX hcellA (by rw [hhp, hT]; exact Nat.le_refl _) (msg := .ref sa) rfl
    (g := { method := m, pc := pc + 7, locals := ls, stack := .ref sa :: .ref T.heap.size :: .ref T.heap.size :: rest, locked := none }) rfl hsize rfl rfl (rest := rest) rfl
    (by rw [hb]; exact d7) (by rw [hb]; exact d10) hout hRframes (by simp only [List.map_cons, List.sum_cons, hcat]; omega) hlocks
  obtain ⟨f1, f2⟩ := vx_frame hsame
  rw [hhp] at f1 f2
  have hWs : s.WarmedH U.vm := State.WarmedH.trans hW0 hW
  have hcl : s.vm.findClass cls = some ce.cls := by
    have h9 := hO.cls
    rw [hvm] at h9
    exact h9
  have hall : s.sameButNew ({ U with vm := s.vm } : State) locs mc ms := by
    subst hA
    obtain ⟨e1, e2⟩ := hsame
    rw [State.setFrames_setFrames] at e1
    have h2 : (T.setVm s.vm).sameButNew ({ U with vm := s.vm } : State) [] (0 + 1) (0 + 6) := ⟨e1, e2⟩
    have h3 := X.same.trans h2
    rw [List.append_nil] at h3
    exact h3.mono hc hs
  refine ⟨U, ?_, .threw T.heap.size, hrun, hend, Or.inr ⟨T.heap.size, rfl, cls, ce, locs, hx U hWs.alike f1 (fun q hq => f2 q hq (fun z hz => nomatch hz)), hce, hO.vm, hcl, hWs, hall, hf⟩⟩
  refine st1 _ ?_
  show Steps p.tables e below (T1.setTop { method := m, pc := pc + 3, locals := ls, stack := .ref T.heap.size :: rest, locked := none }) _
  jvm_step X₁.here [X₁.here.top, hexec, d3', Value.category]
  exact X₁.ldcStringW hexec (own := own) (text := text) (index := is) (a := sa) hown' hstr'.1 hstr'.2
    (g := { method := m, pc := pc + 4, locals := ls, stack := .ref T.heap.size :: .ref T.heap.size :: rest, locked := none }) rfl d4' _ hsteps
end Ends
section Bodies
variable {l : Launch}
theorem vx_ofW {y : MethodName} {ws ws' : List Cond} {rm : Room} {Pc : Array Value → State → Prop} {Qc : Array Value → State → Outcome → State → Prop} {XC : String → State → State → Prop} {mc ms : Nat} {free : Addr → Prop} {cc : ByteArray} {maxL : Nat} {ret : Option FieldType}
    (hy : plainName y.cls = true) (hw : ws = Cond.code y cc maxL ret :: ws')
    (body : ∀ p e s m args below meth c s₁, BodyLoose p l y (headSpec ws rm) cc maxL ret e s m args below meth c s₁ → c.maxLocals = maxL → (∀ x ∈ c.exceptionTable.toList, False) → Pc args s →
      W p l e (headSpec ws rm).room s m args below meth c s.heap [] 0 0 (vx_MQ below Qc XC args s mc ms free) (entryFrame m args maxL)) : vx_Met l y ws rm Pc Qc XC mc ms free := by
  refine MetFree.of_bodyS (code := cc) (maxLocals := maxL) (ret := ret) hy ?_ ?_
  · intro args s m h hn
    obtain ⟨meth, c, h1, h2, h3, h4, h5, h6, -, -⟩ := Cond.code_spec hn (atoms_spec (ws := ws) h _ (by rw [hw]; exact List.mem_cons_self))
    exact ⟨meth, c, h1, h2, h3, h4, h5, h6⟩
  · intro p e s m args below meth c s₁ B hml hP _
    have hh0 : s₁.heap = s.heap := by rw [B.state]; rfl
    have ht : ∀ x ∈ c.exceptionTable.toList, False := by
      obtain ⟨meth9, c9, h1, h2, -, -, -, -, h7, -⟩ := Cond.code_spec B.named (atoms_spec (ws := ws) B.pre _ (by rw [hw]; exact List.mem_cons_self))
      cases Option.some.inj (h1.symm.trans B.method)
      cases Option.some.inj (h2.symm.trans (Stand.of_body B).code)
      intro x hx
      rw [Array.isEmpty_iff.mp h7] at hx
      cases hx
    obtain ⟨t, a1, o, b1, b2, b3⟩ := body p e s m args below meth c s₁ B hml ht hP s₁ hh0 (Stand.of_body B)
    exact ⟨t, o, a1, b1, b2, b3⟩
/-- the table of a body with handlers -/
theorem vx_table {p : Program} {x y : MethodName} {S : Spec} {cc bytes : ByteArray} {maxL maxL' : Nat} {ret ret' : Option FieldType} {e : Env} {s s₁ : State} {m : MethodId} {args : Array Value} {below : List Frame} {meth : Method} {c : Code} {hh : List (Nat × Nat × Nat × Nat)}
    (B : BodyLoose p l y S cc maxL ret e s m args below meth c s₁) (h : (Cond.codeWith y bytes maxL' ret' hh).before args s = true) : c.exceptionTable.toList = tableOf hh := by
  obtain ⟨m9, meth9, c9, hn9, h1, h2, -, -, h6, -⟩ := Cond.codeWith_spec h
  cases Option.some.inj (hn9.symm.trans B.named)
  cases Option.some.inj (h1.symm.trans B.method)
  cases Option.some.inj (h2.symm.trans (Stand.of_body B).code)
  rw [← h6, table_eq]
end Bodies
end VXA
/-! ===== END ===== -/
/-! ===== BEGIN a static call of a method with an exception table ===== -/
section VXS
variable {p : Program} {l : Launch} {e : Env} {R : Room} {s : State} {m : MethodId} {args : Array Value} {below : List Frame} {meth : Method} {c : Code} {T : State} {H : Heap} {locs : List Loc} {cells slots : Nat}
abbrev vx_CSW (R : Room) (s : State) (args : Array Value) (own : String) (index : Nat) (y : MethodName) (bytes : ByteArray) (maxL : Nat) (ret : Option FieldType) (hh : List (Nat × Nat × Nat × Nat)) (ws : List Cond) (rm : Room) (mc ms n : Nat) : Prop :=
  (rm.cells = mc ∧ rm.slots = ms ∧ rm.frames + 1 ≤ R.frames ∧ 8 + (maxL + 11) + rm.locals ≤ R.locals ∧ (∀ w ∈ ws, ∀ (a' : Array Value) (U : State), s.WarmedH U.vm → w.before a' U = true) ∧ Cond.codeWith y bytes maxL ret hh ∈ ws) ∧
  (Cond.codeWith y bytes maxL ret hh).before args s = true ∧ (Cond.initialized y.cls).before args s = true ∧ (y.cls ≠ "java/lang/invoke/MethodHandle" ∧ y.cls ≠ "java/lang/invoke/VarHandle") ∧
  (∀ sig, parseMethodDescriptor y.desc = some sig → n = sig.parameters.length) ∧ (Cond.methodLink own index y).before args s = true ∧ (Cond.static y).before args s = true
theorem vx_cwSW {own : String} {index maxL mc ms : Nat} {y : MethodName} {bytes : ByteArray} {ret : Option FieldType} {hh : List (Nat × Nat × Nat × Nat)} {Ts ws ws' : List Cond} {rm : Room} (n : Nat) (ht : ∀ w ∈ Ts, w.before args s = true) (hT : GoodIn Ts (va_wsS own index y ws)) (hw : ws = Cond.codeWith y bytes maxL ret hh :: ws') (hrc : rm.cells = mc) (hrs : rm.slots = ms)
    (hd : y.cls ≠ "java/lang/invoke/MethodHandle" ∧ y.cls ≠ "java/lang/invoke/VarHandle" ∧ (parseMethodDescriptor y.desc).map (fun d => d.parameters.length) = some n) (hR : rm.frames + 1 ≤ R.frames ∧ 8 + (maxL + 11) + rm.locals ≤ R.locals) :
    vx_CSW R s args own index y bytes maxL ret hh ws rm mc ms n := by
  have ok : ∀ w ∈ va_wsS own index y ws, w.before args s = true := fun w h => ht w (hT w h).1
  have hG : GoodIn Ts ws := fun w h => hT w (by unfold va_wsS; exact List.mem_append_right _ h)
  have hc : Cond.codeWith y bytes maxL ret hh ∈ ws := by rw [hw]; exact List.mem_cons_self
  refine ⟨⟨hrc, hrs, hR.1, hR.2, pay_in ht hG, hc⟩, ht _ (hG _ hc).1, ok _ (by simp [va_wsS]), ⟨hd.1, hd.2.1⟩, fun sig h => ?_, ok _ (by simp [va_wsS]), ok _ (by simp [va_wsS])⟩
  have h2 := hd.2.2
  rw [h] at h2
  exact (Option.some.inj h2).symm
theorem vx_callSW (X : Stand p l e R s m args below meth c T locs cells slots) (hexec : p.tables.exec = Jvm.exec) {own : String} {index : Nat} {y : MethodName} {bytes : ByteArray} {maxL : Nat} {ret : Option FieldType} {hh : List (Nat × Nat × Nat × Nat)}
    (hown : s.vm.findClass own = some m.cls) (hlink : (Cond.methodLink own index y).before args s = true) (hstat : (Cond.static y).before args s = true) (hinit : (Cond.initialized y.cls).before args s = true)
    (hcode : (Cond.codeWith y bytes maxL ret hh).before args s = true) (hy : y.cls ≠ "java/lang/invoke/MethodHandle" ∧ y.cls ≠ "java/lang/invoke/VarHandle")
    {W9 : Nat} {Pre : Pt → Array Value → Prop} {Post : Pt → Array Value → Option Value → Pt → Prop} (hK : Back l R p e below s args y 3 W9 Pre Post)
    {g : JFrame} (hg : g.method = m) (hsize : g.locals.size = c.maxLocals) {argsL rest : List Value} (hlen : ∀ sig, parseMethodDescriptor y.desc = some sig → argsL.length = sig.parameters.length)
    (hstack : g.stack = argsL.reverse ++ rest) (hW : 2 * g.monitorRoom + (rest.map fun v => v.category).sum ≤ W9) (hdg : decode c.code g.pc = .ok (.invokestatic index, 3))
    (hpre : ∀ vm₁, s.WarmedH vm₁ → Pre ⟨T.setVm vm₁, locs, cells, slots⟩ argsL.toArray) :
    ∃ (v : Option Value) (vm₁ : Vm) (B : Pt), s.WarmedH vm₁ ∧ Stand p l e R s m args below meth c B.U B.locs B.cells B.slots ∧ Post ⟨T.setVm vm₁, locs, cells, slots⟩ argsL.toArray v B ∧
      ∀ target, Steps p.tables e below (B.U.setTop { g with pc := g.pc + 3, stack := v.toList ++ rest }) target → Steps p.tables e below (T.setTop g) target := by
  obtain ⟨mk, methM, cM, hnamed, hmethM, -, -, -, -, -, -, hsigM⟩ := Cond.codeWith_spec hcode
  have hstatic : methM.isStatic = true := Cond.static_spec hnamed hmethM hstat
  obtain ⟨kP, hkP, -⟩ := className_of_methodNamed hnamed
  have hinitP : kP.init = .initialized := Cond.initialized_spec (findClass_of_methodNamed hnamed) hkP hinit
  obtain ⟨vm₁, X₁, hstep₁⟩ := X.invokestatic hexec hown hlink hnamed hmethM hstatic hkP hinitP hy (g := g) hg (argsL := argsL) (rest := rest) (hlen _ hsigM) hstack hdg
  obtain ⟨v, B, X', hpost, hsteps⟩ := hK m meth c ⟨T.setVm vm₁, locs, cells, slots⟩ { g with stack := rest } (.invokestatic index) mk argsL.toArray X₁ hg hsize hdg hW (X₁.named hnamed) (hpre vm₁ X₁.warmed)
  exact ⟨v, vm₁, B, X₁.warmed, X', hpost, fun target h => hstep₁ _ fun acts => by rw [doInvoke_state]; exact hsteps.trans h⟩
theorem vx_runSW {y : MethodName} {bytes cc : ByteArray} {maxL nL mc ms n index : Nat} {ret : Option FieldType} {hh : List (Nat × Nat × Nat × Nat)} {ws : List Cond} {rm : Room} {Pc : Array Value → State → Prop} {Qc : Array Value → State → Outcome → State → Prop} {free : Addr → Prop} {Ts : List Cond} {own : String} {As rest : List Value} {g : JFrame}
    (S : CallFix p m c cc nL s args Ts own) (hM : Met l y ws rm Pc Qc mc ms free) (cw : vx_CSW R s args own index y bytes maxL ret hh ws rm mc ms n) (hp : PreS s H Pc As)
    (hg : g.method = m) (hn : As.length = n) (hsize : g.locals.size = nL) (hstack : g.stack = As.reverse ++ rest) (hW : 2 * g.monitorRoom + (rest.map fun v => v.category).sum ≤ 8) (hdg : decode cc g.pc = .ok (.invokestatic index, 3)) (hf : cells + mc ≤ R.cells ∧ slots + ms ≤ R.slots) :
    va_Run p l e R s m args below meth c H locs cells slots mc ms g rest (Qc As.toArray) (free) := by
  obtain ⟨⟨hrc, hrs, hfr, hlo, hws, hcw⟩, hcode, hini, hy, hlen, hl, hstt⟩ := cw
  have hK : Back l R p e below s args y 3 8 (PreOf R mc ms Pc) (PostOf Qc mc ms free) := va_backW (hh := hh) (bytes := bytes) (maxL := maxL) (ret := ret) hM hp.1 hrc hrs hfr hlo hws hcw (fun a' U hW => word_at hW (Or.inl (by first | rfl | simp [Cond.onTables, Cond.keeps, Cond.steady])) hini)
  obtain ⟨hx, hb, hml, ho, -⟩ := S
  intro T hT X
  obtain ⟨v, vm₁, ⟨U', l2, c2, s2⟩, hW₁, X', ⟨g', mk, t, L, e1, e2, hq, h1, hL, h2, h3⟩, st⟩ := vx_callSW X hx (hh := hh) (bytes := bytes) (maxL := maxL) (ret := ret) ho hl hstt hini hcode hy hK hg (hsize.trans hml.symm) (argsL := As) (rest := rest) (fun sig h => hn.trans (hlen sig h)) hstack hW (by rw [hb]; exact hdg)
    (fun vm₁ hW₁ => ⟨hf.1, hf.2, hp.2 (T.setVm vm₁) hT hW₁⟩)
  dsimp only [Pt.U, Pt.locs, Pt.cells, Pt.slots] at X' e1 e2 h1 h2 h3 st
  subst h1; subst h2; subst h3
  exact ⟨v, (T.setVm vm₁).calling g' mk As.toArray, t, U', L, hT, X', hL, e1, e2, hq, st⟩
/-- not caught here, past rows that name other classes: it goes on to the caller -/
theorem vx_outP {p : Program} {l : Launch} {e : Env} {R : Room} {s : State} {m : MethodId} {args : Array Value} {below : List Frame} {meth : Method} {c : Code} {H : Heap} {locs : List Loc} {cells slots : Nat} {free : Addr → Prop} {ls : Array Slot} {rest : List Value} {Qc : Array Value → State → Outcome → State → Prop} {XC : String → State → State → Prop}
    {pc : Nat} {own E : String} {ce : Cell} {q : Addr} {mc ms : Nat} (hown : s.vm.findClass own = some m.cls) (hlocks : meth.locks = false)
    (hpass : ∀ z ∈ c.exceptionTable.toList, covers z pc = false ∨ (z.catchType ≠ 0 ∧ ∃ nm : String, (Cond.classLink own z.catchType nm).before args s = true ∧ va_Nc E nm s)) (hcell : H[q]? = some ce) (hv : ce.vm = .none) (hcl : s.vm.findClass E = some ce.cls)
    (hx : ∀ t : State, t.heap = H → s.vm.Alike t.vm → XC E s t) (hf : ∀ z ∈ locs, free z.base) (hc : cells ≤ mc) (hs : slots ≤ ms) :
    vx_W p l e R s m args below meth c H locs cells slots (vx_MQ below Qc XC args s mc ms free) (F0 m pc ls rest) q := by
  intro T hT X
  have hpl : e.platform.magicAccessors = ({} : Platform).magicAccessors := by rw [X.admits.platform]
  obtain ⟨vm', hW', X', st⟩ := X.outThrough hlocks q (g := F0 m pc ls rest) rfl rfl rfl (cell := ce) (by rw [hT]; exact hcell) (by rw [hv]; rfl)
    (by obtain ⟨k9, h9, -⟩ := Vm.findClass_spec hcl; exact ⟨k9, h9⟩) (fun z hz => by
      rcases hpass z hz with h | ⟨hz0, nm, hl1, hn1⟩
      · exact Or.inl h
      · obtain ⟨c6, hc6, hcl6⟩ := Cond.classLink_spec hown hl1 e.platform hpl
        obtain ⟨a8, b8, h1, h2, h3⟩ := hn1
        cases Option.some.inj (h1.symm.trans hcl)
        cases Option.some.inj (h2.symm.trans hc6)
        exact Or.inr ⟨hz0, _, hcl6, h3⟩)
  obtain ⟨g₀, hfr⟩ := X'.frames_eq
  have hcell9 : ((T.setVm vm').setFrames (.throwing q :: below)).heap[q]? = some ce := by
    show T.heap[q]? = some ce
    rw [hT]; exact hcell
  have hend : Ended ((T.setVm vm').setFrames (.throwing q :: below)) below (.threw q) := State.frames_setFrames _ (State.cur_lt_of_frames hfr)
  refine ⟨(T.setVm vm').setFrames (.throwing q :: below), ?_, .threw q, X'.here.running, hend, Or.inr ⟨q, rfl, E, ce, locs, hx _ hT (X'.ends _).1.alike, hcell9, hv, hcl, (X'.ends _).1, (X'.ends _).2.mono hc hs, hf⟩⟩
  rw [X.pushThrowing_eq]
  exact st
/-- a thing of a world lies in the heap -/
theorem vx_lt {D : va_G} {cl : List vw_C} {ws : va_W} {H1 : Heap} (h : va_P D cl ws H1) {k : Nat} {q : Nat × va_E} (hk : ws[k]? = some q) : q.1 < H1.size := (h k q hk).lt
end VXS
/-! ===== END ===== -/
/-! ===== BEGIN methods with a table of their own: called by a name, returning or throwing ===== -/
section VXH
/-! vx_backW, vx_callVX, vx_callSX, vx_callVW, vx_runVW, vx_runVX, vx_runSX, vx_ofWH follow the same proofs as their sisters above (Free/Laws.lean, Shelf42/LK1.lean); vx_outP calls Shelf42/NT130.lean (outThrough). -/
section
variable {l : Launch} {R : Room} {p : Program} {e : Env} {below : List Frame} {s : State} {sargs : Array Value} {y : MethodName} {len W9 : Nat}
theorem vx_backW {ws : List Cond} {rm : Room} {Pc : Array Value → State → Prop} {Qc : Array Value → State → Outcome → State → Prop} {XC : String → State → State → Prop} {mc ms : Nat} {free : Addr → Prop} {bytes : ByteArray} {maxL : Nat} {ret : Option FieldType} {hh : List (Nat × Nat × Nat × Nat)}
    (hM : vx_Met l y ws rm Pc Qc XC mc ms free) (hblind : FrameBlind Pc) (hrc : rm.cells = mc) (hrs : rm.slots = ms)
    (hframes : rm.frames + 1 ≤ R.frames) (hlocals : W9 + (maxL + 11) + rm.locals ≤ R.locals)
    (hws : ∀ w ∈ ws, ∀ a' U, s.WarmedH U.vm → w.before a' U = true) (hcode : Cond.codeWith y bytes maxL ret hh ∈ ws) (hinit : ∀ a' U, s.WarmedH U.vm → (Cond.initialized y.cls).before a' U = true) :
    vx_Back l R p e below s sargs y len W9 (PreOf R mc ms Pc) (PostOf Qc mc ms free) (vx_Post XC mc ms free) := by
  intro m meth c A g ig mk a X hg hsize hdg hW hn hp
  have h1 : (headSpec ws rm).pre.before a A.U = true := atoms_intro fun w hw => hws w hw _ _ X.warmed
  have h2 : (Cond.codeWith y bytes maxL ret hh).before a A.U = true := hws _ hcode _ _ X.warmed
  have h3 : (Cond.initialized y.cls).before a A.U = true := hinit _ _ X.warmed
  have h4 : A.cells + (headSpec ws rm).room.cells ≤ R.cells := by rw [show (headSpec ws rm).room.cells = mc from hrc]; exact hp.1
  have h5 : A.slots + (headSpec ws rm).room.slots ≤ R.slots := by rw [show (headSpec ws rm).room.slots = ms from hrs]; exact hp.2.1
  have hPc : Pc a (A.U.calling g mk a) := hblind _ _ _ _ hp.2.2
  obtain ⟨U, Ls, c0, s0⟩ := A
  dsimp only [Pt.U, Pt.locs, Pt.cells, Pt.slots] at h1 h2 h3 h4 h5 X hn hPc ⊢
  obtain ⟨m9, methY, cY, hn9, hmY, hcY, -, hlY, -⟩ := Cond.codeWith_spec h2
  cases Option.some.inj (hn9.symm.trans hn)
  obtain ⟨kY, hkY, -⟩ := className_of_methodNamed hn
  have hinitY : kY.init = .initialized := Cond.initialized_spec (findClass_of_methodNamed hn) hkY h3
  have h : At U g.method c below := by rw [hg]; exact X.here
  have hlocals9 : W9 + (maxL + 11) + (headSpec ws rm).room.locals ≤ R.locals := hlocals
  have happ : (headSpec ws rm).appliesLoose y e.platform (U.calling g mk a) = true :=
    Spec.appliesLoose_calling (g := g) h hdg hn hkY hinitY
      (X.room_calling (g := g) (R' := (headSpec ws rm).room) hsize hmY hcY hframes (by rw [hlY]; omega) h4 h5) h1
  obtain ⟨mid, hmid⟩ := h.above
  have hfr : (U.setTop g).frames = (.java g :: mid) ++ below := by rw [State.frames_setTop' g h.top, hmid]; rfl
  obtain ⟨o, s₂, hsteps, -, hend, hq⟩ := Steps.callFree hM p X.admits X.cas X.clock (acts := []) hfr happ hPc trivial
  have hq' : vx_Q Qc XC mc ms free a (U.calling g mk a) o s₂ := hq
  rw [State.frames_setTop' g h.top] at hend
  obtain ⟨g₀, hg0⟩ := Option.isSome_iff_exists.mp h.top
  obtain ⟨r, hr⟩ := State.topJava?_eq_some.mp hg0
  have hr' : (({ U with heap := s₂.heap, slotsUsed := s₂.slotsUsed } : State).setVm s₂.vm).frames = .java g₀ :: r := hr
  rcases hq' with ⟨hqc, L, hfe, hL⟩ | ⟨q, rfl, E, ce, L, hx, hce, hcv, hcl, hW₂, hsm, hL⟩
  · obtain ⟨⟨v, rfl⟩, hW₂, e2, q2, q3, q4, q5, q6⟩ := id hfe
    have e3 : s₂ = ({ (U.calling g mk a).setFrames s₂.frames with heap := s₂.heap, slotsUsed := s₂.slotsUsed } : State).setVm s₂.vm := by
      have : s₂ = ({ s₂ with vm := (U.calling g mk a).vm } : State).setVm s₂.vm := rfl
      rw [e2] at this
      exact this
    obtain ⟨c₂, i₂, len₂, hc₂, hd₂, hf₂⟩ := hend
    have hW' : U.WarmedH s₂.vm := hW₂
    have hcc : c₂ = c := by
      have h1 : s₂.code? g.method = U.code? g.method := by
        rw [State.code?_eq, State.code?_eq, hW'.alike.method?]
      exact Option.some.inj (hc₂.symm.trans (h1.trans h.code))
    subst hcc
    have hlen : len₂ = len := by rw [hdg] at hd₂; cases hd₂; rfl
    subst hlen
    have hs₂ : s₂ = (({ U with heap := s₂.heap, slotsUsed := s₂.slotsUsed } : State).setVm s₂.vm).setTop { g with pc := g.pc + len₂, stack := v.toList ++ g.stack } := by
      refine e3.trans ?_
      rw [hf₂, State.calling_eq h.top, State.setFrames_setFrames, State.setTop_of_frames _ hr', hr]
      rfl
    have hsame : U.sameButNew ({ U with heap := s₂.heap, slotsUsed := s₂.slotsUsed } : State) L mc ms := by
      refine ⟨?_, q2, q3, q4, q5, q6⟩
      obtain ⟨t, ht, -⟩ := State.frames_cons hr
      show ({ U with heap := s₂.heap, slotsUsed := s₂.slotsUsed } : State) = { U.setFrames U.frames with heap := s₂.heap, slotsUsed := s₂.slotsUsed }
      rw [State.setFrames_self ht]
    subst hg
    refine Or.inl ⟨v, ⟨(({ U with heap := s₂.heap, slotsUsed := s₂.slotsUsed } : State).setVm s₂.vm), Ls ++ L, c0 + mc, s0 + ms⟩,
      ⟨X.admits, X.cas, X.clock, X.frames, X.room, X.hears, X.method, X.code, (X.here.setHeapUsed s₂.heap s₂.slotsUsed).setVm hW'.alike, X.tail, State.WarmedH.trans X.warmed hW', X.limits, X.bytes, X.same.trans (hsame.setVm s.vm)⟩,
      ⟨g, mk, s₂, L, rfl, rfl, hqc, rfl, hL, rfl, rfl⟩, ?_⟩
    show Steps p.tables e below _ ((({ U with heap := s₂.heap, slotsUsed := s₂.slotsUsed } : State).setVm s₂.vm).setTop { g with pc := g.pc + len₂, stack := v.toList ++ g.stack })
    rw [← hs₂]
    exact hsteps
  · obtain ⟨e2, q2, q3, q4, q5, q6⟩ := id hsm
    have e3 : s₂ = ({ (U.calling g mk a).setFrames s₂.frames with heap := s₂.heap, slotsUsed := s₂.slotsUsed } : State).setVm s₂.vm := by
      have : s₂ = ({ s₂ with vm := (U.calling g mk a).vm } : State).setVm s₂.vm := rfl
      rw [e2] at this
      exact this
    have hf₂ : s₂.frames = .throwing q :: .java g :: U.frames.tail := hend
    have hW' : U.WarmedH s₂.vm := hW₂
    have hs₂ : s₂ = ((({ U with heap := s₂.heap, slotsUsed := s₂.slotsUsed } : State).setVm s₂.vm).setTop g).pushFrame (.throwing q) := by
      refine e3.trans ?_
      rw [hf₂, State.calling_eq h.top, State.setFrames_setFrames, State.pushFrame, State.frames_setTop _ hr', State.setTop_of_frames _ hr', State.setFrames_setFrames, hr]
      rfl
    have hsame : U.sameButNew ({ U with heap := s₂.heap, slotsUsed := s₂.slotsUsed } : State) L mc ms := by
      refine ⟨?_, q2, q3, q4, q5, q6⟩
      obtain ⟨t, ht, -⟩ := State.frames_cons hr
      show ({ U with heap := s₂.heap, slotsUsed := s₂.slotsUsed } : State) = { U.setFrames U.frames with heap := s₂.heap, slotsUsed := s₂.slotsUsed }
      rw [State.setFrames_self ht]
    subst hg
    refine Or.inr ⟨q, ⟨(({ U with heap := s₂.heap, slotsUsed := s₂.slotsUsed } : State).setVm s₂.vm), Ls ++ L, c0 + mc, s0 + ms⟩,
      ⟨X.admits, X.cas, X.clock, X.frames, X.room, X.hears, X.method, X.code, (X.here.setHeapUsed s₂.heap s₂.slotsUsed).setVm hW'.alike, X.tail, State.WarmedH.trans X.warmed hW', X.limits, X.bytes, X.same.trans (hsame.setVm s.vm)⟩,
      ⟨g, mk, s₂, L, E, ce, rfl, rfl, hx, hce, hcv, hcl, rfl, hL, rfl, rfl⟩, ?_⟩
    show Steps p.tables e below _ (((({ U with heap := s₂.heap, slotsUsed := s₂.slotsUsed } : State).setVm s₂.vm).setTop g).pushFrame (.throwing q))
    rw [← hs₂]
    exact hsteps
end
variable {p : Program} {l : Launch} {e : Env} {R : Room} {s : State} {m : MethodId} {args : Array Value} {below : List Frame} {meth : Method} {c : Code} {T : State} {H : Heap} {locs : List Loc} {cells slots : Nat}
theorem vx_callVX (X : Stand p l e R s m args below meth c T locs cells slots) (hexec : p.tables.exec = Jvm.exec) {own C : String} {index : Nat} {y : MethodName} {bytes : ByteArray} {maxL : Nat} {ret : Option FieldType} {hh : List (Nat × Nat × Nat × Nat)}
    (hown : s.vm.findClass own = some m.cls) (hlink : (Cond.methodLink own index y).before args s = true) (hinst : (Cond.instanceMethod y).before args s = true) (hsel : (Cond.selects C y y).before args s = true)
    (hcode : (Cond.codeWith y bytes maxL ret hh).before args s = true) (hy : y.cls ≠ "java/lang/invoke/MethodHandle" ∧ y.cls ≠ "java/lang/invoke/VarHandle")
    {W9 : Nat} {Pre : Pt → Array Value → Prop} {Post : Pt → Array Value → Option Value → Pt → Prop} {PostX : Pt → Array Value → Addr → Pt → Prop} (hK : vx_Back l R p e below s args y 3 W9 Pre Post PostX)
    {b : Addr} {cellB : Cell} (hcell : T.heap[b]? = some cellB) (hobj : cellB.vm.isStatics = false) (hcls : s.vm.findClass C = some cellB.cls)
    {g : JFrame} (hg : g.method = m) (hsize : g.locals.size = c.maxLocals) {argsL rest : List Value} (hlen : ∀ sig, parseMethodDescriptor y.desc = some sig → argsL.length = sig.parameters.length)
    (hstack : g.stack = argsL.reverse ++ .ref b :: rest) (hW : 2 * g.monitorRoom + (rest.map fun v => v.category).sum ≤ W9) (hdg : decode c.code g.pc = .ok (.invokevirtual index, 3))
    (hpre : ∀ vm₁, s.WarmedH vm₁ → Pre ⟨T.setVm vm₁, locs, cells, slots⟩ (Value.ref b :: argsL).toArray) :
    (∃ (v : Option Value) (vm₁ : Vm) (B : Pt), s.WarmedH vm₁ ∧ Stand p l e R s m args below meth c B.U B.locs B.cells B.slots ∧ Post ⟨T.setVm vm₁, locs, cells, slots⟩ (Value.ref b :: argsL).toArray v B ∧
      ∀ target, Steps p.tables e below (B.U.setTop { g with pc := g.pc + 3, stack := v.toList ++ rest }) target → Steps p.tables e below (T.setTop g) target) ∨
    (∃ (q : Addr) (vm₁ : Vm) (B : Pt), s.WarmedH vm₁ ∧ Stand p l e R s m args below meth c B.U B.locs B.cells B.slots ∧ PostX ⟨T.setVm vm₁, locs, cells, slots⟩ (Value.ref b :: argsL).toArray q B ∧
      Steps p.tables e below (T.setTop g) ((B.U.setTop { g with stack := rest }).pushFrame (.throwing q))) := by
  obtain ⟨mk, methM, hnamed, hmethM, hstM, habM⟩ := Cond.instanceMethod_spec hinst
  obtain ⟨m8, methM', cM, hn8, hmethM', -, -, -, -, -, -, hsigM⟩ := Cond.codeWith_spec hcode
  cases Option.some.inj (hn8.symm.trans hnamed)
  cases hmethM.symm.trans hmethM'
  obtain ⟨c2, r2, m2, q1, q2, q3, q4, kP, hkP, hkPi⟩ := Cond.selects_spec hsel
  cases hcls.symm.trans q1
  cases (State.methodFound?_of_named hnamed hy).symm.trans q2
  cases hnamed.symm.trans q3
  have hselP : selectMethod e.platform s.vm cellB.cls mk = .method mk := by rw [Launch.admits_selectMethod X.admits]; exact q4
  obtain ⟨vm₁, X₁, hstep₁⟩ := X.invokevirtual hexec hown hlink hnamed hmethM hstM hkP hkPi hy (a := b) (cell := cellB) hcell
    (fun z h => by rw [h] at hobj; cases hobj) hselP hmethM habM hkP hkPi (g := g) hg (argsL := argsL) (rest := rest) (hlen _ hsigM) hstack hdg
  rcases hK m meth c ⟨T.setVm vm₁, locs, cells, slots⟩ { g with stack := rest } (.invokevirtual index) mk (Value.ref b :: argsL).toArray X₁ hg hsize hdg hW (X₁.named hnamed) (hpre vm₁ X₁.warmed) with ⟨v, B, X', hpost, hsteps⟩ | ⟨q, B, X', hpost, hsteps⟩
  · exact Or.inl ⟨v, vm₁, B, X₁.warmed, X', hpost, fun target h => hstep₁ _ fun acts => by rw [doInvoke_state]; exact hsteps.trans h⟩
  · exact Or.inr ⟨q, vm₁, B, X₁.warmed, X', hpost, hstep₁ _ fun acts => by rw [doInvoke_state]; exact hsteps⟩
theorem vx_callSX (X : Stand p l e R s m args below meth c T locs cells slots) (hexec : p.tables.exec = Jvm.exec) {own : String} {index : Nat} {y : MethodName} {bytes : ByteArray} {maxL : Nat} {ret : Option FieldType} {hh : List (Nat × Nat × Nat × Nat)}
    (hown : s.vm.findClass own = some m.cls) (hlink : (Cond.methodLink own index y).before args s = true) (hstat : (Cond.static y).before args s = true) (hinit : (Cond.initialized y.cls).before args s = true)
    (hcode : (Cond.codeWith y bytes maxL ret hh).before args s = true) (hy : y.cls ≠ "java/lang/invoke/MethodHandle" ∧ y.cls ≠ "java/lang/invoke/VarHandle")
    {W9 : Nat} {Pre : Pt → Array Value → Prop} {Post : Pt → Array Value → Option Value → Pt → Prop} {PostX : Pt → Array Value → Addr → Pt → Prop} (hK : vx_Back l R p e below s args y 3 W9 Pre Post PostX)
    {g : JFrame} (hg : g.method = m) (hsize : g.locals.size = c.maxLocals) {argsL rest : List Value} (hlen : ∀ sig, parseMethodDescriptor y.desc = some sig → argsL.length = sig.parameters.length)
    (hstack : g.stack = argsL.reverse ++ rest) (hW : 2 * g.monitorRoom + (rest.map fun v => v.category).sum ≤ W9) (hdg : decode c.code g.pc = .ok (.invokestatic index, 3))
    (hpre : ∀ vm₁, s.WarmedH vm₁ → Pre ⟨T.setVm vm₁, locs, cells, slots⟩ argsL.toArray) :
    (∃ (v : Option Value) (vm₁ : Vm) (B : Pt), s.WarmedH vm₁ ∧ Stand p l e R s m args below meth c B.U B.locs B.cells B.slots ∧ Post ⟨T.setVm vm₁, locs, cells, slots⟩ argsL.toArray v B ∧
      ∀ target, Steps p.tables e below (B.U.setTop { g with pc := g.pc + 3, stack := v.toList ++ rest }) target → Steps p.tables e below (T.setTop g) target) ∨
    (∃ (q : Addr) (vm₁ : Vm) (B : Pt), s.WarmedH vm₁ ∧ Stand p l e R s m args below meth c B.U B.locs B.cells B.slots ∧ PostX ⟨T.setVm vm₁, locs, cells, slots⟩ argsL.toArray q B ∧
      Steps p.tables e below (T.setTop g) ((B.U.setTop { g with stack := rest }).pushFrame (.throwing q))) := by
  obtain ⟨mk, methM, cM, hnamed, hmethM, -, -, -, -, -, -, hsigM⟩ := Cond.codeWith_spec hcode
  have hstatic : methM.isStatic = true := Cond.static_spec hnamed hmethM hstat
  obtain ⟨kP, hkP, -⟩ := className_of_methodNamed hnamed
  have hinitP : kP.init = .initialized := Cond.initialized_spec (findClass_of_methodNamed hnamed) hkP hinit
  obtain ⟨vm₁, X₁, hstep₁⟩ := X.invokestatic hexec hown hlink hnamed hmethM hstatic hkP hinitP hy (g := g) hg (argsL := argsL) (rest := rest) (hlen _ hsigM) hstack hdg
  rcases hK m meth c ⟨T.setVm vm₁, locs, cells, slots⟩ { g with stack := rest } (.invokestatic index) mk argsL.toArray X₁ hg hsize hdg hW (X₁.named hnamed) (hpre vm₁ X₁.warmed) with ⟨v, B, X', hpost, hsteps⟩ | ⟨q, B, X', hpost, hsteps⟩
  · exact Or.inl ⟨v, vm₁, B, X₁.warmed, X', hpost, fun target h => hstep₁ _ fun acts => by rw [doInvoke_state]; exact hsteps.trans h⟩
  · exact Or.inr ⟨q, vm₁, B, X₁.warmed, X', hpost, hstep₁ _ fun acts => by rw [doInvoke_state]; exact hsteps⟩
theorem vx_callVW (X : Stand p l e R s m args below meth c T locs cells slots) (hexec : p.tables.exec = Jvm.exec) {own C : String} {index : Nat} {y : MethodName} {bytes : ByteArray} {maxL : Nat} {ret : Option FieldType} {hh : List (Nat × Nat × Nat × Nat)}
    (hown : s.vm.findClass own = some m.cls) (hlink : (Cond.methodLink own index y).before args s = true) (hinst : (Cond.instanceMethod y).before args s = true) (hsel : (Cond.selects C y y).before args s = true)
    (hcode : (Cond.codeWith y bytes maxL ret hh).before args s = true) (hy : y.cls ≠ "java/lang/invoke/MethodHandle" ∧ y.cls ≠ "java/lang/invoke/VarHandle")
    {W9 : Nat} {Pre : Pt → Array Value → Prop} {Post : Pt → Array Value → Option Value → Pt → Prop} (hK : Back l R p e below s args y 3 W9 Pre Post)
    {b : Addr} {cellB : Cell} (hcell : T.heap[b]? = some cellB) (hobj : cellB.vm.isStatics = false) (hcls : s.vm.findClass C = some cellB.cls)
    {g : JFrame} (hg : g.method = m) (hsize : g.locals.size = c.maxLocals) {argsL rest : List Value} (hlen : ∀ sig, parseMethodDescriptor y.desc = some sig → argsL.length = sig.parameters.length)
    (hstack : g.stack = argsL.reverse ++ .ref b :: rest) (hW : 2 * g.monitorRoom + (rest.map fun v => v.category).sum ≤ W9) (hdg : decode c.code g.pc = .ok (.invokevirtual index, 3))
    (hpre : ∀ vm₁, s.WarmedH vm₁ → Pre ⟨T.setVm vm₁, locs, cells, slots⟩ (Value.ref b :: argsL).toArray) :
    ∃ (v : Option Value) (vm₁ : Vm) (B : Pt), s.WarmedH vm₁ ∧ Stand p l e R s m args below meth c B.U B.locs B.cells B.slots ∧ Post ⟨T.setVm vm₁, locs, cells, slots⟩ (Value.ref b :: argsL).toArray v B ∧
      ∀ target, Steps p.tables e below (B.U.setTop { g with pc := g.pc + 3, stack := v.toList ++ rest }) target → Steps p.tables e below (T.setTop g) target := by
  obtain ⟨mk, methM, hnamed, hmethM, hstM, habM⟩ := Cond.instanceMethod_spec hinst
  obtain ⟨m8, methM', cM, hn8, hmethM', -, -, -, -, -, -, hsigM⟩ := Cond.codeWith_spec hcode
  cases Option.some.inj (hn8.symm.trans hnamed)
  cases hmethM.symm.trans hmethM'
  obtain ⟨c2, r2, m2, q1, q2, q3, q4, kP, hkP, hkPi⟩ := Cond.selects_spec hsel
  cases hcls.symm.trans q1
  cases (State.methodFound?_of_named hnamed hy).symm.trans q2
  cases hnamed.symm.trans q3
  have hselP : selectMethod e.platform s.vm cellB.cls mk = .method mk := by rw [Launch.admits_selectMethod X.admits]; exact q4
  obtain ⟨vm₁, X₁, hstep₁⟩ := X.invokevirtual hexec hown hlink hnamed hmethM hstM hkP hkPi hy (a := b) (cell := cellB) hcell
    (fun z h => by rw [h] at hobj; cases hobj) hselP hmethM habM hkP hkPi (g := g) hg (argsL := argsL) (rest := rest) (hlen _ hsigM) hstack hdg
  obtain ⟨v, B, X', hpost, hsteps⟩ := hK m meth c ⟨T.setVm vm₁, locs, cells, slots⟩ { g with stack := rest } (.invokevirtual index) mk (Value.ref b :: argsL).toArray X₁ hg hsize hdg hW (X₁.named hnamed) (hpre vm₁ X₁.warmed)
  exact ⟨v, vm₁, B, X₁.warmed, X', hpost, fun target h => hstep₁ _ fun acts => by rw [doInvoke_state]; exact hsteps.trans h⟩
abbrev vx_CVW (R : Room) (s : State) (args : Array Value) (own C : String) (index : Nat) (y : MethodName) (bytes : ByteArray) (maxL : Nat) (ret : Option FieldType) (hh : List (Nat × Nat × Nat × Nat)) (ws : List Cond) (rm : Room) (mc ms n : Nat) : Prop :=
  (rm.cells = mc ∧ rm.slots = ms ∧ rm.frames + 1 ≤ R.frames ∧ 8 + (maxL + 11) + rm.locals ≤ R.locals ∧ (∀ w ∈ ws, ∀ (a' : Array Value) (U : State), s.WarmedH U.vm → w.before a' U = true) ∧ Cond.codeWith y bytes maxL ret hh ∈ ws) ∧
  (Cond.codeWith y bytes maxL ret hh).before args s = true ∧ (Cond.initialized y.cls).before args s = true ∧ (y.cls ≠ "java/lang/invoke/MethodHandle" ∧ y.cls ≠ "java/lang/invoke/VarHandle") ∧
  (∀ sig, parseMethodDescriptor y.desc = some sig → n = sig.parameters.length) ∧ (Cond.methodLink own index y).before args s = true ∧ (Cond.instanceMethod y).before args s = true ∧ (Cond.selects C y y).before args s = true
theorem vx_cwVW {own C : String} {index maxL mc ms : Nat} {y : MethodName} {bytes : ByteArray} {ret : Option FieldType} {hh : List (Nat × Nat × Nat × Nat)} {Ts ws ws' : List Cond} {rm : Room} (n : Nat) (ht : ∀ w ∈ Ts, w.before args s = true) (hT : GoodIn Ts (wsV own index C y ws)) (hw : ws = Cond.codeWith y bytes maxL ret hh :: ws') (hrc : rm.cells = mc) (hrs : rm.slots = ms)
    (hd : y.cls = C ∧ y.cls ≠ "java/lang/invoke/MethodHandle" ∧ y.cls ≠ "java/lang/invoke/VarHandle" ∧ (parseMethodDescriptor y.desc).map (fun d => d.parameters.length) = some n) (hR : rm.frames + 1 ≤ R.frames ∧ 8 + (maxL + 11) + rm.locals ≤ R.locals) :
    vx_CVW R s args own C index y bytes maxL ret hh ws rm mc ms n := by
  obtain ⟨hC, hd⟩ := hd
  subst hC
  have ok : ∀ w ∈ wsV own index y.cls y ws, w.before args s = true := fun w h => ht w (hT w h).1
  have hG : GoodIn Ts ws := fun w h => hT w (by unfold wsV; exact List.mem_append_right _ h)
  have hc : Cond.codeWith y bytes maxL ret hh ∈ ws := by rw [hw]; exact List.mem_cons_self
  refine ⟨⟨hrc, hrs, hR.1, hR.2, pay_in ht hG, hc⟩, ht _ (hG _ hc).1, ok _ (by simp [wsV]), ⟨hd.1, hd.2.1⟩, fun sig h => ?_, ok _ (by simp [wsV]), ok _ (by simp [wsV]), ok _ (by simp [wsV])⟩
  have h2 := hd.2.2
  rw [h] at h2
  exact (Option.some.inj h2).symm
theorem vx_runVW {y : MethodName} {bytes cc : ByteArray} {maxL nL mc ms n index : Nat} {ret : Option FieldType} {hh : List (Nat × Nat × Nat × Nat)} {ws : List Cond} {rm : Room} {Pc : Array Value → State → Prop} {Qc : Array Value → State → Outcome → State → Prop} {free : Addr → Prop} {Ts : List Cond} {own C : String} {b : Addr} {As rest : List Value} {g : JFrame}
    (S : CallFix p m c cc nL s args Ts own) (hM : Met l y ws rm Pc Qc mc ms free) (cw : vx_CVW R s args own C index y bytes maxL ret hh ws rm mc ms n) (hp : PreV s H C b Pc As)
    (hg : g.method = m) (hn : As.length = n) (hsize : g.locals.size = nL) (hstack : g.stack = As.reverse ++ .ref b :: rest) (hW : 2 * g.monitorRoom + (rest.map fun v => v.category).sum ≤ 8) (hdg : decode cc g.pc = .ok (.invokevirtual index, 3)) (hf : cells + mc ≤ R.cells ∧ slots + ms ≤ R.slots) :
    va_Run p l e R s m args below meth c H locs cells slots mc ms g rest (Qc (Value.ref b :: As).toArray) free := by
  obtain ⟨⟨hrc, hrs, hfr, hlo, hws, hcw⟩, hcode, hini, hy, hlen, hl, hin, hse⟩ := cw
  have hK : Back l R p e below s args y 3 8 (PreOf R mc ms Pc) (PostOf Qc mc ms free) := va_backW (hh := hh) (bytes := bytes) (maxL := maxL) (ret := ret) hM hp.1 hrc hrs hfr hlo hws hcw (fun a' U hW => word_at hW (Or.inl (by first | rfl | simp [Cond.onTables, Cond.keeps, Cond.steady])) hini)
  obtain ⟨hx, hb, hml, ho, -⟩ := S
  obtain ⟨-, ⟨cellB, hcB, hoB, hclB⟩, hPc⟩ := hp
  intro T hT X
  obtain ⟨v, vm₁, ⟨U', l2, c2, s2⟩, hW₁, X', ⟨g', mk, t, L, e1, e2, hq, h1, hL, h2, h3⟩, st⟩ := vx_callVW X hx (C := C) (hh := hh) (bytes := bytes) (maxL := maxL) (ret := ret) ho hl hin hse hcode hy hK (by rw [hT]; exact hcB) hoB hclB hg (hsize.trans hml.symm) (argsL := As) (rest := rest) (fun sig h => hn.trans (hlen sig h)) hstack hW (by rw [hb]; exact hdg)
    (fun vm₁ hW₁ => ⟨hf.1, hf.2, hPc (T.setVm vm₁) hT hW₁⟩)
  dsimp only [Pt.U, Pt.locs, Pt.cells, Pt.slots] at X' e1 e2 h1 h2 h3 st
  subst h1; subst h2; subst h3
  exact ⟨v, (T.setVm vm₁).calling g' mk (Value.ref b :: As).toArray, t, U', L, hT, X', hL, e1, e2, hq, st⟩
section
variable {y : MethodName} {bytes cc : ByteArray} {maxL nL mc ms n index : Nat} {ret : Option FieldType} {ws : List Cond} {rm : Room} {Pc : Array Value → State → Prop} {Qc : Array Value → State → Outcome → State → Prop} {XC : String → State → State → Prop} {free : Addr → Prop} {Ts : List Cond} {own C : String} {b : Addr} {As rest : List Value} {g : JFrame}
theorem vx_runVX {hh : List (Nat × Nat × Nat × Nat)} (S : CallFix p m c cc nL s args Ts own) (hM : vx_Met l y ws rm Pc Qc XC mc ms free) (cw : vx_CVW R s args own C index y bytes maxL ret hh ws rm mc ms n) (hp : PreV s H C b Pc As)
    (hg : g.method = m) (hn : As.length = n) (hsize : g.locals.size = nL) (hstack : g.stack = As.reverse ++ .ref b :: rest) (hW : 2 * g.monitorRoom + (rest.map fun v => v.category).sum ≤ 8) (hdg : decode cc g.pc = .ok (.invokevirtual index, 3)) (hf : cells + mc ≤ R.cells ∧ slots + ms ≤ R.slots) :
    vx_Run p l e R s m args below meth c H locs cells slots mc ms g rest (Qc (Value.ref b :: As).toArray) XC free := by
  obtain ⟨⟨hrc, hrs, hfr, hlo, hws, hcw⟩, hcode, hini, hy, hlen, hl, hin, hse⟩ := cw
  have hK : vx_Back l R p e below s args y 3 8 (PreOf R mc ms Pc) (PostOf Qc mc ms free) (vx_Post XC mc ms free) := vx_backW (hh := hh) (bytes := bytes) (maxL := maxL) (ret := ret) hM hp.1 hrc hrs hfr hlo hws hcw (fun a' U hW => word_at hW (Or.inl (by first | rfl | simp [Cond.onTables, Cond.keeps, Cond.steady])) hini)
  obtain ⟨hx, hb, hml, ho, -⟩ := S
  obtain ⟨-, ⟨cellB, hcB, hoB, hclB⟩, hPc⟩ := hp
  intro T hT X
  rcases vx_callVX X hx (C := C) (hh := hh) (bytes := bytes) (maxL := maxL) (ret := ret) ho hl hin hse hcode hy hK (by rw [hT]; exact hcB) hoB hclB hg (hsize.trans hml.symm) (argsL := As) (rest := rest) (fun sig h => hn.trans (hlen sig h)) hstack hW (by rw [hb]; exact hdg)
    (fun vm₁ hW₁ => ⟨hf.1, hf.2, hPc (T.setVm vm₁) hT hW₁⟩) with ⟨v, vm₁, ⟨U', l2, c2, s2⟩, hW₁, X', ⟨g', mk, t, L, e1, e2, hq, h1, hL, h2, h3⟩, st⟩ | ⟨q, vm₁, ⟨U', l2, c2, s2⟩, hW₁, X', ⟨g', mk, t, L, E, ce, e1, e2, hq, hce, hcv, hcl, h1, hL, h2, h3⟩, st⟩
  · dsimp only [Pt.U, Pt.locs, Pt.cells, Pt.slots] at X' e1 e2 h1 h2 h3 st
    subst h1; subst h2; subst h3
    exact Or.inl ⟨v, (T.setVm vm₁).calling g' mk (Value.ref b :: As).toArray, t, U', L, hT, X', hL, e1, e2, hq, st⟩
  · dsimp only [Pt.U, Pt.locs, Pt.cells, Pt.slots] at X' e1 e2 h1 h2 h3 st hcl
    subst h1; subst h2; subst h3
    exact Or.inr ⟨q, (T.setVm vm₁).calling g' mk (Value.ref b :: As).toArray, t, U', L, E, ce, hT, X', hL, e1, e2, hq, hce, hcv, vx_cls hW₁ hcl, st⟩
theorem vx_runSX {hh : List (Nat × Nat × Nat × Nat)} (S : CallFix p m c cc nL s args Ts own) (hM : vx_Met l y ws rm Pc Qc XC mc ms free) (cw : vx_CSW R s args own index y bytes maxL ret hh ws rm mc ms n) (hp : PreS s H Pc As)
    (hg : g.method = m) (hn : As.length = n) (hsize : g.locals.size = nL) (hstack : g.stack = As.reverse ++ rest) (hW : 2 * g.monitorRoom + (rest.map fun v => v.category).sum ≤ 8) (hdg : decode cc g.pc = .ok (.invokestatic index, 3)) (hf : cells + mc ≤ R.cells ∧ slots + ms ≤ R.slots) :
    vx_Run p l e R s m args below meth c H locs cells slots mc ms g rest (Qc As.toArray) XC free := by
  obtain ⟨⟨hrc, hrs, hfr, hlo, hws, hcw⟩, hcode, hini, hy, hlen, hl, hstt⟩ := cw
  have hK : vx_Back l R p e below s args y 3 8 (PreOf R mc ms Pc) (PostOf Qc mc ms free) (vx_Post XC mc ms free) := vx_backW (hh := hh) (bytes := bytes) (maxL := maxL) (ret := ret) hM hp.1 hrc hrs hfr hlo hws hcw (fun a' U hW => word_at hW (Or.inl (by first | rfl | simp [Cond.onTables, Cond.keeps, Cond.steady])) hini)
  obtain ⟨hx, hb, hml, ho, -⟩ := S
  intro T hT X
  rcases vx_callSX X hx (hh := hh) (bytes := bytes) (maxL := maxL) (ret := ret) ho hl hstt hini hcode hy hK hg (hsize.trans hml.symm) (argsL := As) (rest := rest) (fun sig h => hn.trans (hlen sig h)) hstack hW (by rw [hb]; exact hdg)
    (fun vm₁ hW₁ => ⟨hf.1, hf.2, hp.2 (T.setVm vm₁) hT hW₁⟩) with ⟨v, vm₁, ⟨U', l2, c2, s2⟩, hW₁, X', ⟨g', mk, t, L, e1, e2, hq, h1, hL, h2, h3⟩, st⟩ | ⟨q, vm₁, ⟨U', l2, c2, s2⟩, hW₁, X', ⟨g', mk, t, L, E, ce, e1, e2, hq, hce, hcv, hcl, h1, hL, h2, h3⟩, st⟩
  · dsimp only [Pt.U, Pt.locs, Pt.cells, Pt.slots] at X' e1 e2 h1 h2 h3 st
    subst h1; subst h2; subst h3
    exact Or.inl ⟨v, (T.setVm vm₁).calling g' mk As.toArray, t, U', L, hT, X', hL, e1, e2, hq, st⟩
  · dsimp only [Pt.U, Pt.locs, Pt.cells, Pt.slots] at X' e1 e2 h1 h2 h3 st hcl
    subst h1; subst h2; subst h3
    exact Or.inr ⟨q, (T.setVm vm₁).calling g' mk As.toArray, t, U', L, E, ce, hT, X', hL, e1, e2, hq, hce, hcv, vx_cls hW₁ hcl, st⟩
end
end VXH
theorem vx_ofWH {l : Launch} {y : MethodName} {ws ws' : List Cond} {rm : Room} {Pc : Array Value → State → Prop} {Qc : Array Value → State → Outcome → State → Prop} {XC : String → State → State → Prop} {mc ms : Nat} {free : Addr → Prop} {cc : ByteArray} {maxL : Nat} {ret : Option FieldType} {hh : List (Nat × Nat × Nat × Nat)}
    (hy : plainName y.cls = true) (hw : ws = Cond.codeWith y cc maxL ret hh :: ws')
    (body : ∀ p e s m args below meth c s₁, BodyLoose p l y (headSpec ws rm) cc maxL ret e s m args below meth c s₁ → c.maxLocals = maxL → Pc args s →
      W p l e (headSpec ws rm).room s m args below meth c s.heap [] 0 0 (vx_MQ below Qc XC args s mc ms free) (entryFrame m args maxL)) : vx_Met l y ws rm Pc Qc XC mc ms free := by
  refine MetFree.of_bodyS (code := cc) (maxLocals := maxL) (ret := ret) hy ?_ ?_
  · intro args s m h hn
    obtain ⟨m9, meth, c, hn9, h1, h2, h3, h4, -, h5, h6, -⟩ := Cond.codeWith_spec (atoms_spec (ws := ws) h _ (by rw [hw]; exact List.mem_cons_self))
    cases hn.symm.trans hn9
    exact ⟨meth, c, h1, h2, h3, h4, h5, h6⟩
  · intro p e s m args below meth c s₁ B hml hP _
    have hh0 : s₁.heap = s.heap := by rw [B.state]; rfl
    obtain ⟨t, a1, o, b1, b2, b3⟩ := body p e s m args below meth c s₁ B hml hP s₁ hh0 (Stand.of_body B)
    exact ⟨t, o, a1, b1, b2, b3⟩
/-! ===== END ===== -/
end
section
/-! ===== BEGIN printed: names, fields, word lists, decode rows ===== -/
def RX0 : String := "SkateSheet$Command"
def TX0 : u_T := fun k => match k with
  | 0 => ("SkateSheet$Command", "verb", "I", false)
  | 1 => ("SkateSheet$Command", "second", "I", false)
  | 2 => ("SkateSheet$Command", "third", "I", false)
  | 3 => ("SkateSheet$Command", "fourth", "I", false)
  | _ => ("SkateSheet$Command", "fifth", "I", false)
def tyX0 : Nat → FieldType := fun k => match k with
  | 0 => .int
  | 1 => .int
  | 2 => .int
  | 3 => .int
  | _ => .int
abbrev wsX00 : List Cond := u_ws RX0 TX0 5
theorem nmX0 : ∀ a, a < 5 → ∀ b, b < 5 → a ≠ b → (TX0 a).2.1 ≠ (TX0 b).2.1 := by decide +kernel
theorem tyX0_ok : ∀ k, k < 5 → parseFieldDescriptor (TX0 k).2.2.1 = some (tyX0 k) := by decide +kernel
abbrev cX0_init : ByteArray := prog_2_method_1_code
def yX0_init : MethodName := ⟨RX0, "<init>", "()V"⟩
abbrev cX0_read : ByteArray := prog_2_method_2_code
def yX0_read : MethodName := ⟨RX0, "read", "(I)V"⟩
abbrev cX0_groupsBefore : ByteArray := prog_2_method_3_code
def yX0_groupsBefore : MethodName := ⟨RX0, "groupsBefore", "(IJ)J"⟩
abbrev cX0_middleTwo : ByteArray := prog_2_method_4_code
def yX0_middleTwo : MethodName := ⟨RX0, "middleTwo", "()I"⟩
abbrev cX0_lastThree : ByteArray := prog_2_method_5_code
def yX0_lastThree : MethodName := ⟨RX0, "lastThree", "()I"⟩
def RX1 : String := "SkateSheet$History"
def TX1 : u_T := fun k => match k with
  | 0 => ("SkateSheet$History", "ring", "[LSkateSheet$State;", true)
  | 1 => ("SkateSheet$History", "oldest", "I", false)
  | _ => ("SkateSheet$History", "count", "I", false)
def tyX1 : Nat → FieldType := fun k => match k with
  | 0 => .array (.object "SkateSheet$State")
  | 1 => .int
  | _ => .int
abbrev wsX10 : List Cond := u_ws RX1 TX1 3
theorem nmX1 : ∀ a, a < 3 → ∀ b, b < 3 → a ≠ b → (TX1 a).2.1 ≠ (TX1 b).2.1 := by decide +kernel
theorem tyX1_ok : ∀ k, k < 3 → parseFieldDescriptor (TX1 k).2.2.1 = some (tyX1 k) := by decide +kernel
abbrev cX1_init : ByteArray := prog_3_method_1_code
def yX1_init : MethodName := ⟨RX1, "<init>", "()V"⟩
abbrev cX1_remember : ByteArray := prog_3_method_2_code
def yX1_remember : MethodName := ⟨RX1, "remember", "(LSkateSheet$State;)V"⟩
abbrev cX1_takeBack : ByteArray := prog_3_method_3_code
def yX1_takeBack : MethodName := ⟨RX1, "takeBack", "(LSkateSheet$State;)Z"⟩
abbrev cX1_forget : ByteArray := prog_3_method_4_code
def yX1_forget : MethodName := ⟨RX1, "forget", "()V"⟩
def RX2 : String := "SkateSheet$Program"
def TX2 : u_T := fun k => match k with
  | 0 => ("SkateSheet$Program", "types", "[I", true)
  | 1 => ("SkateSheet$Program", "parts", "[I", true)
  | 2 => ("SkateSheet$Program", "kernels", "[I", true)
  | 3 => ("SkateSheet$Program", "falls", "[I", true)
  | 4 => ("SkateSheet$Program", "reviews", "[I", true)
  | 5 => ("SkateSheet$Program", "kinds", "[I", true)
  | 6 => ("SkateSheet$Program", "turns", "[I", true)
  | 7 => ("SkateSheet$Program", "calls", "[I", true)
  | 8 => ("SkateSheet$Program", "components", "[I", true)
  | 9 => ("SkateSheet$Program", "elements", "I", false)
  | _ => ("SkateSheet$Program", "points", "I", false)
def tyX2 : Nat → FieldType := fun k => match k with
  | 0 => .array .int
  | 1 => .array .int
  | 2 => .array .int
  | 3 => .array .int
  | 4 => .array .int
  | 5 => .array .int
  | 6 => .array .int
  | 7 => .array .int
  | 8 => .array .int
  | 9 => .int
  | _ => .int
abbrev wsX20 : List Cond := u_ws RX2 TX2 11
theorem nmX2 : ∀ a, a < 11 → ∀ b, b < 11 → a ≠ b → (TX2 a).2.1 ≠ (TX2 b).2.1 := by decide +kernel
theorem tyX2_ok : ∀ k, k < 11 → parseFieldDescriptor (TX2 k).2.2.1 = some (tyX2 k) := by decide +kernel
abbrev cX2_init : ByteArray := prog_4_method_1_code
def yX2_init : MethodName := ⟨RX2, "<init>", "()V"⟩
abbrev cX2_clear : ByteArray := prog_4_method_2_code
def yX2_clear : MethodName := ⟨RX2, "clear", "()V"⟩
abbrev cX2_startElement : ByteArray := prog_4_method_3_code
def yX2_startElement : MethodName := ⟨RX2, "startElement", "(I)V"⟩
abbrev cX2_startPart : ByteArray := prog_4_method_4_code
def yX2_startPart : MethodName := ⟨RX2, "startPart", "(III)V"⟩
abbrev cX2_copyFrom : ByteArray := prog_4_method_5_code
def yX2_copyFrom : MethodName := ⟨RX2, "copyFrom", "(LSkateSheet$Program;)V"⟩
abbrev cX2_copyElements : ByteArray := prog_4_method_6_code
def yX2_copyElements : MethodName := ⟨RX2, "copyElements", "(LSkateSheet$Program;)V"⟩
abbrev cX2_takeElement : ByteArray := prog_4_method_7_code
def yX2_takeElement : MethodName := ⟨RX2, "takeElement", "(ILSkateSheet$Program;I)V"⟩
abbrev cX2_takesCall : ByteArray := prog_4_method_8_code
def yX2_takesCall : MethodName := ⟨RX2, "takesCall", "(III)Z"⟩
abbrev cX2_hasEdge : ByteArray := prog_4_method_9_code
def yX2_hasEdge : MethodName := ⟨RX2, "hasEdge", "(I)Z"⟩
abbrev cX2_fallen : ByteArray := prog_4_method_10_code
def yX2_fallen : MethodName := ⟨RX2, "fallen", "()I"⟩
abbrev cX2_reviewed : ByteArray := prog_4_method_11_code
def yX2_reviewed : MethodName := ⟨RX2, "reviewed", "()I"⟩
def RX3 : String := "SkateSheet$Scoring"
def TX3 : u_T := fun k => match k with
  | 0 => ("SkateSheet$Scoring", "worths", "[I", true)
  | 1 => ("SkateSheet$Scoring", "reasons", "[I", true)
  | 2 => ("SkateSheet$Scoring", "bases", "[I", true)
  | 3 => ("SkateSheet$Scoring", "tops", "[I", true)
  | 4 => ("SkateSheet$Scoring", "grades", "[I", true)
  | 5 => ("SkateSheet$Scoring", "bonuses", "[I", true)
  | 6 => ("SkateSheet$Scoring", "done", "[I", true)
  | 7 => ("SkateSheet$Scoring", "alone", "[I", true)
  | 8 => ("SkateSheet$Scoring", "jumpElements", "I", false)
  | 9 => ("SkateSheet$Scoring", "spins", "I", false)
  | 10 => ("SkateSheet$Scoring", "steps", "I", false)
  | 11 => ("SkateSheet$Scoring", "chains", "I", false)
  | 12 => ("SkateSheet$Scoring", "hadThree", "Z", false)
  | 13 => ("SkateSheet$Scoring", "lesser", "I", false)
  | 14 => ("SkateSheet$Scoring", "technical", "I", false)
  | 15 => ("SkateSheet$Scoring", "components", "I", false)
  | _ => ("SkateSheet$Scoring", "takenOff", "I", false)
def tyX3 : Nat → FieldType := fun k => match k with
  | 0 => .array .int
  | 1 => .array .int
  | 2 => .array .int
  | 3 => .array .int
  | 4 => .array .int
  | 5 => .array .int
  | 6 => .array .int
  | 7 => .array .int
  | 8 => .int
  | 9 => .int
  | 10 => .int
  | 11 => .int
  | 12 => .boolean
  | 13 => .int
  | 14 => .int
  | 15 => .int
  | _ => .int
abbrev wsX30 : List Cond := u_ws RX3 TX3 17
theorem nmX3 : ∀ a, a < 17 → ∀ b, b < 17 → a ≠ b → (TX3 a).2.1 ≠ (TX3 b).2.1 := by decide +kernel
theorem tyX3_ok : ∀ k, k < 17 → parseFieldDescriptor (TX3 k).2.2.1 = some (tyX3 k) := by decide +kernel
abbrev cX3_init : ByteArray := prog_5_method_1_code
def yX3_init : MethodName := ⟨RX3, "<init>", "()V"⟩
abbrev cX3_startOver : ByteArray := prog_5_method_2_code
def yX3_startOver : MethodName := ⟨RX3, "startOver", "()V"⟩
abbrev cX3_rate : ByteArray := prog_5_method_3_code
def yX3_rate : MethodName := ⟨RX3, "rate", "(LSkateSheet$Program;[I)V"⟩
abbrev cX3_total : ByteArray := prog_5_method_4_code
def yX3_total : MethodName := ⟨RX3, "total", "()I"⟩
abbrev cX3_rateElement : ByteArray := prog_5_method_5_code
def yX3_rateElement : MethodName := ⟨RX3, "rateElement", "(LSkateSheet$Program;I[I)V"⟩
abbrev cX3_countsTooMany : ByteArray := prog_5_method_6_code
def yX3_countsTooMany : MethodName := ⟨RX3, "countsTooMany", "(I[I)Z"⟩
abbrev cX3_reasonOf : ByteArray := prog_5_method_7_code
def yX3_reasonOf : MethodName := ⟨RX3, "reasonOf", "(LSkateSheet$Program;IIZZ)I"⟩
abbrev cX3_repeatReason : ByteArray := prog_5_method_8_code
def yX3_repeatReason : MethodName := ⟨RX3, "repeatReason", "(IIZ)I"⟩
abbrev cX3_partWorth : ByteArray := prog_5_method_9_code
def yX3_partWorth : MethodName := ⟨RX3, "partWorth", "(IIII)I"⟩
abbrev cX3_worthAt : ByteArray := prog_5_method_10_code
def yX3_worthAt : MethodName := ⟨RX3, "worthAt", "([II)I"⟩
abbrev cX3_percent : ByteArray := prog_5_method_11_code
def yX3_percent : MethodName := ⟨RX3, "percent", "(II)I"⟩
abbrev cX3_gradeOf : ByteArray := prog_5_method_12_code
def yX3_gradeOf : MethodName := ⟨RX3, "gradeOf", "(II)I"⟩
def RX4 : String := "SkateSheet$Standing"
def TX4 : u_T := fun k => match k with
  | 0 => ("SkateSheet$Standing", "totals", "[I", true)
  | 1 => ("SkateSheet$Standing", "technicals", "[I", true)
  | _ => ("SkateSheet$Standing", "skaters", "I", false)
def tyX4 : Nat → FieldType := fun k => match k with
  | 0 => .array .int
  | 1 => .array .int
  | _ => .int
abbrev wsX40 : List Cond := u_ws RX4 TX4 3
theorem nmX4 : ∀ a, a < 3 → ∀ b, b < 3 → a ≠ b → (TX4 a).2.1 ≠ (TX4 b).2.1 := by decide +kernel
theorem tyX4_ok : ∀ k, k < 3 → parseFieldDescriptor (TX4 k).2.2.1 = some (tyX4 k) := by decide +kernel
abbrev cX4_init : ByteArray := prog_6_method_1_code
def yX4_init : MethodName := ⟨RX4, "<init>", "()V"⟩
abbrev cX4_rank : ByteArray := prog_6_method_2_code
def yX4_rank : MethodName := ⟨RX4, "rank", "(LSkateSheet$State;LSkateSheet$Scoring;)V"⟩
abbrev cX4_isAhead : ByteArray := prog_6_method_3_code
def yX4_isAhead : MethodName := ⟨RX4, "isAhead", "(II)Z"⟩
abbrev cX4_place : ByteArray := prog_6_method_4_code
def yX4_place : MethodName := ⟨RX4, "place", "(I)I"⟩
abbrev cX4_first : ByteArray := prog_6_method_5_code
def yX4_first : MethodName := ⟨RX4, "first", "()I"⟩
def RX5 : String := "SkateSheet$State"
def TX5 : u_T := fun k => match k with
  | 0 => ("SkateSheet$State", "programs", "[LSkateSheet$Program;", true)
  | 1 => ("SkateSheet$State", "settings", "[I", true)
  | _ => ("SkateSheet$State", "skaters", "I", false)
def tyX5 : Nat → FieldType := fun k => match k with
  | 0 => .array (.object "SkateSheet$Program")
  | 1 => .array .int
  | _ => .int
abbrev wsX50 : List Cond := u_ws RX5 TX5 3
theorem nmX5 : ∀ a, a < 3 → ∀ b, b < 3 → a ≠ b → (TX5 a).2.1 ≠ (TX5 b).2.1 := by decide +kernel
theorem tyX5_ok : ∀ k, k < 3 → parseFieldDescriptor (TX5 k).2.2.1 = some (tyX5 k) := by decide +kernel
abbrev cX5_init : ByteArray := prog_7_method_1_code
def yX5_init : MethodName := ⟨RX5, "<init>", "()V"⟩
abbrev cX5_copyFrom : ByteArray := prog_7_method_2_code
def yX5_copyFrom : MethodName := ⟨RX5, "copyFrom", "(LSkateSheet$State;)V"⟩
abbrev cX5_hasSkater : ByteArray := prog_7_method_3_code
def yX5_hasSkater : MethodName := ⟨RX5, "hasSkater", "(I)Z"⟩
abbrev cX5_hasElement : ByteArray := prog_7_method_4_code
def yX5_hasElement : MethodName := ⟨RX5, "hasElement", "(II)Z"⟩
abbrev cX5_hasPart : ByteArray := prog_7_method_5_code
def yX5_hasPart : MethodName := ⟨RX5, "hasPart", "(III)Z"⟩
abbrev cX5_settingFits : ByteArray := prog_7_method_6_code
def yX5_settingFits : MethodName := ⟨RX5, "settingFits", "(II)Z"⟩
abbrev cX5_reviewed : ByteArray := prog_7_method_7_code
def yX5_reviewed : MethodName := ⟨RX5, "reviewed", "()I"⟩
abbrev cX5_fallen : ByteArray := prog_7_method_8_code
def yX5_fallen : MethodName := ⟨RX5, "fallen", "()I"⟩
abbrev cX5_allElements : ByteArray := prog_7_method_9_code
def yX5_allElements : MethodName := ⟨RX5, "allElements", "()I"⟩
abbrev cX5_putFall : ByteArray := prog_7_method_10_code
def yX5_putFall : MethodName := ⟨RX5, "putFall", "(III)Z"⟩
abbrev cX5_putReview : ByteArray := prog_7_method_11_code
def yX5_putReview : MethodName := ⟨RX5, "putReview", "(III)Z"⟩
abbrev cX5_putKernel : ByteArray := prog_7_method_12_code
def yX5_putKernel : MethodName := ⟨RX5, "putKernel", "(III)V"⟩
abbrev cX5_putCall : ByteArray := prog_7_method_13_code
def yX5_putCall : MethodName := ⟨RX5, "putCall", "(IIII)Z"⟩
abbrev cX5_putComponent : ByteArray := prog_7_method_14_code
def yX5_putComponent : MethodName := ⟨RX5, "putComponent", "(III)V"⟩
abbrev cX5_putPoints : ByteArray := prog_7_method_15_code
def yX5_putPoints : MethodName := ⟨RX5, "putPoints", "(II)Z"⟩
abbrev cX5_putSetting : ByteArray := prog_7_method_16_code
def yX5_putSetting : MethodName := ⟨RX5, "putSetting", "(II)Z"⟩
def RX6 : String := "SkateSheet$Text"
def TX6 : u_T := fun k => match k with
  | 0 => ("SkateSheet$Text", "signs", "[I", true)
  | 1 => ("SkateSheet$Text", "length", "I", false)
  | _ => ("SkateSheet$Text", "at", "I", false)
def tyX6 : Nat → FieldType := fun k => match k with
  | 0 => .array .int
  | 1 => .int
  | _ => .int
abbrev wsX60 : List Cond := u_ws RX6 TX6 3
theorem nmX6 : ∀ a, a < 3 → ∀ b, b < 3 → a ≠ b → (TX6 a).2.1 ≠ (TX6 b).2.1 := by decide +kernel
theorem tyX6_ok : ∀ k, k < 3 → parseFieldDescriptor (TX6 k).2.2.1 = some (tyX6 k) := by decide +kernel
abbrev cX6_init : ByteArray := prog_8_method_1_code
def yX6_init : MethodName := ⟨RX6, "<init>", "()V"⟩
abbrev cX6_isFull : ByteArray := prog_8_method_2_code
def yX6_isFull : MethodName := ⟨RX6, "isFull", "()Z"⟩
abbrev cX6_put : ByteArray := prog_8_method_3_code
def yX6_put : MethodName := ⟨RX6, "put", "(I)V"⟩
abbrev cX6_sign : ByteArray := prog_8_method_4_code
def yX6_sign : MethodName := ⟨RX6, "sign", "()I"⟩
abbrev cX6_readInto : ByteArray := prog_8_method_5_code
def yX6_readInto : MethodName := ⟨RX6, "readInto", "(LSkateSheet$Program;)I"⟩
abbrev cX6_readElement : ByteArray := prog_8_method_6_code
def yX6_readElement : MethodName := ⟨RX6, "readElement", "(LSkateSheet$Program;)Z"⟩
abbrev cX6_readLevel : ByteArray := prog_8_method_7_code
def yX6_readLevel : MethodName := ⟨RX6, "readLevel", "(LSkateSheet$Program;I)Z"⟩
abbrev cX6_readChain : ByteArray := prog_8_method_8_code
def yX6_readChain : MethodName := ⟨RX6, "readChain", "(LSkateSheet$Program;)Z"⟩
abbrev cX6_readJump : ByteArray := prog_8_method_9_code
def yX6_readJump : MethodName := ⟨RX6, "readJump", "(LSkateSheet$Program;)Z"⟩
abbrev cX6_kindOf : ByteArray := prog_8_method_10_code
def yX6_kindOf : MethodName := ⟨RX6, "kindOf", "(I)I"⟩
abbrev cX6_callOf : ByteArray := prog_8_method_11_code
def yX6_callOf : MethodName := ⟨RX6, "callOf", "(II)I"⟩
def RX7 : String := "SkateSheet"
def TX7 : u_T := fun k => match k with
  | 0 => ("SkateSheet", "state", "LSkateSheet$State;", true)
  | 1 => ("SkateSheet", "history", "LSkateSheet$History;", true)
  | 2 => ("SkateSheet", "slots", "[LSkateSheet$State;", true)
  | 3 => ("SkateSheet", "saved", "[Z", true)
  | 4 => ("SkateSheet", "text", "LSkateSheet$Text;", true)
  | 5 => ("SkateSheet", "scoring", "LSkateSheet$Scoring;", true)
  | 6 => ("SkateSheet", "standing", "LSkateSheet$Standing;", true)
  | 7 => ("SkateSheet", "command", "LSkateSheet$Command;", true)
  | 8 => ("SkateSheet", "trial", "LSkateSheet$State;", true)
  | _ => ("SkateSheet", "draft", "LSkateSheet$Program;", true)
def tyX7 : Nat → FieldType := fun k => match k with
  | 0 => .object "SkateSheet$State"
  | 1 => .object "SkateSheet$History"
  | 2 => .array (.object "SkateSheet$State")
  | 3 => .array .boolean
  | 4 => .object "SkateSheet$Text"
  | 5 => .object "SkateSheet$Scoring"
  | 6 => .object "SkateSheet$Standing"
  | 7 => .object "SkateSheet$Command"
  | 8 => .object "SkateSheet$State"
  | _ => .object "SkateSheet$Program"
abbrev wsX70 : List Cond := u_ws RX7 TX7 10
theorem nmX7 : ∀ a, a < 10 → ∀ b, b < 10 → a ≠ b → (TX7 a).2.1 ≠ (TX7 b).2.1 := by decide +kernel
theorem tyX7_ok : ∀ k, k < 10 → parseFieldDescriptor (TX7 k).2.2.1 = some (tyX7 k) := by decide +kernel
abbrev cX7_init : ByteArray := prog_1_method_1_code
def yX7_init : MethodName := ⟨RX7, "<init>", "()V"⟩
abbrev cX7_append : ByteArray := prog_1_method_2_code
def yX7_append : MethodName := ⟨RX7, "append", "(I)I"⟩
abbrev cX7_clearText : ByteArray := prog_1_method_3_code
def yX7_clearText : MethodName := ⟨RX7, "clearText", "()I"⟩
abbrev cX7_errorPosition : ByteArray := prog_1_method_4_code
def yX7_errorPosition : MethodName := ⟨RX7, "errorPosition", "()I"⟩
abbrev cX7_about : ByteArray := prog_1_method_5_code
def yX7_about : MethodName := ⟨RX7, "about", "(I)I"⟩
abbrev cX7_skater : ByteArray := prog_1_method_6_code
def yX7_skater : MethodName := ⟨RX7, "skater", "(II)I"⟩
abbrev cX7_element : ByteArray := prog_1_method_7_code
def yX7_element : MethodName := ⟨RX7, "element", "(III)I"⟩
abbrev cX7_part : ByteArray := prog_1_method_8_code
def yX7_part : MethodName := ⟨RX7, "part", "(IIII)I"⟩
abbrev cX7_setting : ByteArray := prog_1_method_9_code
def yX7_setting : MethodName := ⟨RX7, "setting", "(I)I"⟩
abbrev cX7_add : ByteArray := prog_1_method_10_code
def yX7_add : MethodName := ⟨RX7, "add", "()I"⟩
abbrev cX7_program : ByteArray := prog_1_method_11_code
def yX7_program : MethodName := ⟨RX7, "program", "(I)I"⟩
abbrev cX7_mark : ByteArray := prog_1_method_12_code
def yX7_mark : MethodName := ⟨RX7, "mark", "(III)I"⟩
abbrev cX7_component : ByteArray := prog_1_method_13_code
def yX7_component : MethodName := ⟨RX7, "component", "(III)I"⟩
abbrev cX7_call : ByteArray := prog_1_method_14_code
def yX7_call : MethodName := ⟨RX7, "call", "(IIII)I"⟩
abbrev cX7_review : ByteArray := prog_1_method_15_code
def yX7_review : MethodName := ⟨RX7, "review", "(IIZ)I"⟩
abbrev cX7_fall : ByteArray := prog_1_method_16_code
def yX7_fall : MethodName := ⟨RX7, "fall", "(IIZ)I"⟩
abbrev cX7_penalty : ByteArray := prog_1_method_17_code
def yX7_penalty : MethodName := ⟨RX7, "penalty", "(II)I"⟩
abbrev cX7_set : ByteArray := prog_1_method_18_code
def yX7_set : MethodName := ⟨RX7, "set", "(II)I"⟩
abbrev cX7_undo : ByteArray := prog_1_method_19_code
def yX7_undo : MethodName := ⟨RX7, "undo", "()I"⟩
abbrev cX7_ifCalled : ByteArray := prog_1_method_20_code
def yX7_ifCalled : MethodName := ⟨RX7, "ifCalled", "(IIII)I"⟩
abbrev cX7_ifReplaced : ByteArray := prog_1_method_21_code
def yX7_ifReplaced : MethodName := ⟨RX7, "ifReplaced", "(II)I"⟩
abbrev cX7_bestSwap : ByteArray := prog_1_method_22_code
def yX7_bestSwap : MethodName := ⟨RX7, "bestSwap", "(II)I"⟩
abbrev cX7_needs : ByteArray := prog_1_method_23_code
def yX7_needs : MethodName := ⟨RX7, "needs", "(II)I"⟩
abbrev cX7_behind : ByteArray := prog_1_method_24_code
def yX7_behind : MethodName := ⟨RX7, "behind", "(I)I"⟩
abbrev cX7_runScript : ByteArray := prog_1_method_25_code
def yX7_runScript : MethodName := ⟨RX7, "runScript", "(IJ)I"⟩
abbrev cX7_simulate : ByteArray := prog_1_method_26_code
def yX7_simulate : MethodName := ⟨RX7, "simulate", "(JI)I"⟩
abbrev cX7_save : ByteArray := prog_1_method_27_code
def yX7_save : MethodName := ⟨RX7, "save", "(I)I"⟩
abbrev cX7_restore : ByteArray := prog_1_method_28_code
def yX7_restore : MethodName := ⟨RX7, "restore", "(I)I"⟩
abbrev cX7_checkCall : ByteArray := prog_1_method_29_code
def yX7_checkCall : MethodName := ⟨RX7, "checkCall", "(IIII)V"⟩
abbrev cX7_lesserParts : ByteArray := prog_1_method_30_code
def yX7_lesserParts : MethodName := ⟨RX7, "lesserParts", "()I"⟩
abbrev cX7_totalOfSwap : ByteArray := prog_1_method_31_code
def yX7_totalOfSwap : MethodName := ⟨RX7, "totalOfSwap", "(LSkateSheet$Program;II)I"⟩
abbrev cX7_acts : ByteArray := prog_1_method_32_code
def yX7_acts : MethodName := ⟨RX7, "acts", "()Z"⟩
abbrev cX7_holds : ByteArray := prog_1_method_33_code
def yX7_holds : MethodName := ⟨RX7, "holds", "()Z"⟩
abbrev cX7_takeTurn : ByteArray := prog_1_method_34_code
def yX7_takeTurn : MethodName := ⟨RX7, "takeTurn", "(I)V"⟩
abbrev cX7_kernelOf : ByteArray := prog_1_method_35_code
def yX7_kernelOf : MethodName := ⟨RX7, "kernelOf", "(I)I"⟩
abbrev cX7_componentOf : ByteArray := prog_1_method_36_code
def yX7_componentOf : MethodName := ⟨RX7, "componentOf", "(I)I"⟩
abbrev cX7_threeOf : ByteArray := prog_1_method_37_code
def yX7_threeOf : MethodName := ⟨RX7, "threeOf", "(IIIII)I"⟩
def RX8 : String := "SkateSheetModel"
def TX8 : u_T := fun k => match k with
  | 0 => ("SkateSheetModel", "refusal", "I", false)
  | 1 => ("SkateSheetModel", "text", "[I", true)
  | 2 => ("SkateSheetModel", "size", "I", false)
  | 3 => ("SkateSheetModel", "now", "[I", true)
  | 4 => ("SkateSheetModel", "trial", "[I", true)
  | 5 => ("SkateSheetModel", "diary", "[I", true)
  | 6 => ("SkateSheetModel", "acts", "I", false)
  | 7 => ("SkateSheetModel", "kept", "[I", true)
  | 8 => ("SkateSheetModel", "isKept", "[Z", true)
  | 9 => ("SkateSheetModel", "typed", "[I", true)
  | 10 => ("SkateSheetModel", "worth", "[I", true)
  | 11 => ("SkateSheetModel", "reasons", "[I", true)
  | 12 => ("SkateSheetModel", "bases", "[I", true)
  | 13 => ("SkateSheetModel", "kernels", "[I", true)
  | 14 => ("SkateSheetModel", "grades", "[I", true)
  | 15 => ("SkateSheetModel", "bonuses", "[I", true)
  | 16 => ("SkateSheetModel", "technical", "I", false)
  | 17 => ("SkateSheetModel", "components", "I", false)
  | 18 => ("SkateSheetModel", "off", "I", false)
  | 19 => ("SkateSheetModel", "totals", "[I", true)
  | 20 => ("SkateSheetModel", "scores", "[I", true)
  | _ => ("SkateSheetModel", "spot", "I", false)
def tyX8 : Nat → FieldType := fun k => match k with
  | 0 => .int
  | 1 => .array .int
  | 2 => .int
  | 3 => .array .int
  | 4 => .array .int
  | 5 => .array .int
  | 6 => .int
  | 7 => .array .int
  | 8 => .array .boolean
  | 9 => .array .int
  | 10 => .array .int
  | 11 => .array .int
  | 12 => .array .int
  | 13 => .array .int
  | 14 => .array .int
  | 15 => .array .int
  | 16 => .int
  | 17 => .int
  | 18 => .int
  | 19 => .array .int
  | 20 => .array .int
  | _ => .int
abbrev wsX80 : List Cond := u_ws RX8 TX8 22
theorem nmX8 : ∀ a, a < 22 → ∀ b, b < 22 → a ≠ b → (TX8 a).2.1 ≠ (TX8 b).2.1 := by decide +kernel
theorem tyX8_ok : ∀ k, k < 22 → parseFieldDescriptor (TX8 k).2.2.1 = some (tyX8 k) := by decide +kernel
abbrev cX8_init : ByteArray := prog_10_method_1_code
def yX8_init : MethodName := ⟨RX8, "<init>", "()V"⟩
abbrev cX8_thrown : ByteArray := prog_10_method_2_code
def yX8_thrown : MethodName := ⟨RX8, "thrown", "()I"⟩
abbrev cX8_refused : ByteArray := prog_10_method_3_code
def yX8_refused : MethodName := ⟨RX8, "refused", "(I)Z"⟩
abbrev cX8_in : ByteArray := prog_10_method_4_code
def yX8_in : MethodName := ⟨RX8, "in", "(JJJ)Z"⟩
abbrev cX8_copyState : ByteArray := prog_10_method_5_code
def yX8_copyState : MethodName := ⟨RX8, "copyState", "([II[II)V"⟩
abbrev cX8_skaterAt : ByteArray := prog_10_method_6_code
def yX8_skaterAt : MethodName := ⟨RX8, "skaterAt", "(I)I"⟩
abbrev cX8_elementAt : ByteArray := prog_10_method_7_code
def yX8_elementAt : MethodName := ⟨RX8, "elementAt", "(II)I"⟩
abbrev cX8_partAt : ByteArray := prog_10_method_8_code
def yX8_partAt : MethodName := ⟨RX8, "partAt", "(III)I"⟩
abbrev cX8_isSkater : ByteArray := prog_10_method_9_code
def yX8_isSkater : MethodName := ⟨RX8, "isSkater", "([II)Z"⟩
abbrev cX8_isElement : ByteArray := prog_10_method_10_code
def yX8_isElement : MethodName := ⟨RX8, "isElement", "([III)Z"⟩
abbrev cX8_isPart : ByteArray := prog_10_method_11_code
def yX8_isPart : MethodName := ⟨RX8, "isPart", "([IIII)Z"⟩
abbrev cX8_ofKind : ByteArray := prog_10_method_12_code
def yX8_ofKind : MethodName := ⟨RX8, "ofKind", "(II)I"⟩
abbrev cX8_percent : ByteArray := prog_10_method_13_code
def yX8_percent : MethodName := ⟨RX8, "percent", "(II)I"⟩
abbrev cX8_ofJump : ByteArray := prog_10_method_14_code
def yX8_ofJump : MethodName := ⟨RX8, "ofJump", "(III)I"⟩
abbrev cX8_ofLevel : ByteArray := prog_10_method_15_code
def yX8_ofLevel : MethodName := ⟨RX8, "ofLevel", "(II)I"⟩
abbrev cX8_upTo : ByteArray := prog_10_method_16_code
def yX8_upTo : MethodName := ⟨RX8, "upTo", "([IIII)I"⟩
abbrev cX8_isTooMany : ByteArray := prog_10_method_17_code
def yX8_isTooMany : MethodName := ⟨RX8, "isTooMany", "([III)Z"⟩
abbrev cX8_isChain : ByteArray := prog_10_method_18_code
def yX8_isChain : MethodName := ⟨RX8, "isChain", "([III)Z"⟩
abbrev cX8_isChainTooMany : ByteArray := prog_10_method_19_code
def yX8_isChainTooMany : MethodName := ⟨RX8, "isChainTooMany", "([III)Z"⟩
abbrev cX8_wasLong : ByteArray := prog_10_method_20_code
def yX8_wasLong : MethodName := ⟨RX8, "wasLong", "([III)Z"⟩
abbrev cX8_byPlace : ByteArray := prog_10_method_21_code
def yX8_byPlace : MethodName := ⟨RX8, "byPlace", "([IIII)I"⟩
abbrev cX8_isAlike : ByteArray := prog_10_method_22_code
def yX8_isAlike : MethodName := ⟨RX8, "isAlike", "([IIIIII)Z"⟩
abbrev cX8_byRepeat : ByteArray := prog_10_method_23_code
def yX8_byRepeat : MethodName := ⟨RX8, "byRepeat", "([IIII)I"⟩
abbrev cX8_kernel : ByteArray := prog_10_method_24_code
def yX8_kernel : MethodName := ⟨RX8, "kernel", "([II)I"⟩
abbrev cX8_ofComponent : ByteArray := prog_10_method_25_code
def yX8_ofComponent : MethodName := ⟨RX8, "ofComponent", "([III)I"⟩
abbrev cX8_weigh : ByteArray := prog_10_method_26_code
def yX8_weigh : MethodName := ⟨RX8, "weigh", "([III)V"⟩
abbrev cX8_graded : ByteArray := prog_10_method_27_code
def yX8_graded : MethodName := ⟨RX8, "graded", "(I)I"⟩
abbrev cX8_reckon : ByteArray := prog_10_method_28_code
def yX8_reckon : MethodName := ⟨RX8, "reckon", "([II)I"⟩
abbrev cX8_reckonAll : ByteArray := prog_10_method_29_code
def yX8_reckonAll : MethodName := ⟨RX8, "reckonAll", "([I)V"⟩
abbrev cX8_place : ByteArray := prog_10_method_30_code
def yX8_place : MethodName := ⟨RX8, "place", "([II)I"⟩
abbrev cX8_first : ByteArray := prog_10_method_31_code
def yX8_first : MethodName := ⟨RX8, "first", "([I)I"⟩
abbrev cX8_sum : ByteArray := prog_10_method_32_code
def yX8_sum : MethodName := ⟨RX8, "sum", "([III)I"⟩
abbrev cX8_sumOfAll : ByteArray := prog_10_method_33_code
def yX8_sumOfAll : MethodName := ⟨RX8, "sumOfAll", "([II)I"⟩
abbrev cX8_append : ByteArray := prog_10_method_34_code
def yX8_append : MethodName := ⟨RX8, "append", "(I)I"⟩
abbrev cX8_clearText : ByteArray := prog_10_method_35_code
def yX8_clearText : MethodName := ⟨RX8, "clearText", "()I"⟩
abbrev cX8_here : ByteArray := prog_10_method_36_code
def yX8_here : MethodName := ⟨RX8, "here", "()I"⟩
abbrev cX8_passes : ByteArray := prog_10_method_37_code
def yX8_passes : MethodName := ⟨RX8, "passes", "(I)Z"⟩
abbrev cX8_kindOf : ByteArray := prog_10_method_38_code
def yX8_kindOf : MethodName := ⟨RX8, "kindOf", "(I)I"⟩
abbrev cX8_hasEdge : ByteArray := prog_10_method_39_code
def yX8_hasEdge : MethodName := ⟨RX8, "hasEdge", "(I)Z"⟩
abbrev cX8_readJump : ByteArray := prog_10_method_40_code
def yX8_readJump : MethodName := ⟨RX8, "readJump", "(I)Z"⟩
abbrev cX8_readElement : ByteArray := prog_10_method_41_code
def yX8_readElement : MethodName := ⟨RX8, "readElement", "(I)Z"⟩
abbrev cX8_readText : ByteArray := prog_10_method_42_code
def yX8_readText : MethodName := ⟨RX8, "readText", "()I"⟩
abbrev cX8_errorPosition : ByteArray := prog_10_method_43_code
def yX8_errorPosition : MethodName := ⟨RX8, "errorPosition", "()I"⟩
abbrev cX8_about : ByteArray := prog_10_method_44_code
def yX8_about : MethodName := ⟨RX8, "about", "(I)I"⟩
abbrev cX8_skater : ByteArray := prog_10_method_45_code
def yX8_skater : MethodName := ⟨RX8, "skater", "(II)I"⟩
abbrev cX8_element : ByteArray := prog_10_method_46_code
def yX8_element : MethodName := ⟨RX8, "element", "(III)I"⟩
abbrev cX8_part : ByteArray := prog_10_method_47_code
def yX8_part : MethodName := ⟨RX8, "part", "(IIII)I"⟩
abbrev cX8_setting : ByteArray := prog_10_method_48_code
def yX8_setting : MethodName := ⟨RX8, "setting", "(I)I"⟩
abbrev cX8_remember : ByteArray := prog_10_method_49_code
def yX8_remember : MethodName := ⟨RX8, "remember", "()V"⟩
abbrev cX8_add : ByteArray := prog_10_method_50_code
def yX8_add : MethodName := ⟨RX8, "add", "()I"⟩
abbrev cX8_program : ByteArray := prog_10_method_51_code
def yX8_program : MethodName := ⟨RX8, "program", "(I)I"⟩
abbrev cX8_layMarks : ByteArray := prog_10_method_52_code
def yX8_layMarks : MethodName := ⟨RX8, "layMarks", "([IIIII)V"⟩
abbrev cX8_mark : ByteArray := prog_10_method_53_code
def yX8_mark : MethodName := ⟨RX8, "mark", "(III)I"⟩
abbrev cX8_component : ByteArray := prog_10_method_54_code
def yX8_component : MethodName := ⟨RX8, "component", "(III)I"⟩
abbrev cX8_whyNotCall : ByteArray := prog_10_method_55_code
def yX8_whyNotCall : MethodName := ⟨RX8, "whyNotCall", "([IIIII)I"⟩
abbrev cX8_callOn : ByteArray := prog_10_method_56_code
def yX8_callOn : MethodName := ⟨RX8, "callOn", "([IIIII)I"⟩
abbrev cX8_call : ByteArray := prog_10_method_57_code
def yX8_call : MethodName := ⟨RX8, "call", "(IIII)I"⟩
abbrev cX8_review : ByteArray := prog_10_method_58_code
def yX8_review : MethodName := ⟨RX8, "review", "(IIZ)I"⟩
abbrev cX8_fall : ByteArray := prog_10_method_59_code
def yX8_fall : MethodName := ⟨RX8, "fall", "(IIZ)I"⟩
abbrev cX8_penalty : ByteArray := prog_10_method_60_code
def yX8_penalty : MethodName := ⟨RX8, "penalty", "(II)I"⟩
abbrev cX8_isSetting : ByteArray := prog_10_method_61_code
def yX8_isSetting : MethodName := ⟨RX8, "isSetting", "(II)Z"⟩
abbrev cX8_set : ByteArray := prog_10_method_62_code
def yX8_set : MethodName := ⟨RX8, "set", "(II)I"⟩
abbrev cX8_undo : ByteArray := prog_10_method_63_code
def yX8_undo : MethodName := ⟨RX8, "undo", "()I"⟩
abbrev cX8_ifCalled : ByteArray := prog_10_method_64_code
def yX8_ifCalled : MethodName := ⟨RX8, "ifCalled", "(IIII)I"⟩
abbrev cX8_ifReplaced : ByteArray := prog_10_method_65_code
def yX8_ifReplaced : MethodName := ⟨RX8, "ifReplaced", "(II)I"⟩
abbrev cX8_bestSwap : ByteArray := prog_10_method_66_code
def yX8_bestSwap : MethodName := ⟨RX8, "bestSwap", "(II)I"⟩
abbrev cX8_needs : ByteArray := prog_10_method_67_code
def yX8_needs : MethodName := ⟨RX8, "needs", "(II)I"⟩
abbrev cX8_behind : ByteArray := prog_10_method_68_code
def yX8_behind : MethodName := ⟨RX8, "behind", "(I)I"⟩
abbrev cX8_command : ByteArray := prog_10_method_69_code
def yX8_command : MethodName := ⟨RX8, "command", "(IIIII)Z"⟩
abbrev cX8_runScript : ByteArray := prog_10_method_70_code
def yX8_runScript : MethodName := ⟨RX8, "runScript", "(IJ)I"⟩
abbrev cX8_turn : ByteArray := prog_10_method_71_code
def yX8_turn : MethodName := ⟨RX8, "turn", "(I)V"⟩
abbrev cX8_simulate : ByteArray := prog_10_method_72_code
def yX8_simulate : MethodName := ⟨RX8, "simulate", "(JI)I"⟩
abbrev cX8_save : ByteArray := prog_10_method_73_code
def yX8_save : MethodName := ⟨RX8, "save", "(I)I"⟩
abbrev cX8_restore : ByteArray := prog_10_method_74_code
def yX8_restore : MethodName := ⟨RX8, "restore", "(I)I"⟩
def RJx145de : String := "java/io/Serializable"
def TJx145de : u_T := fun k => match k with
  | _ => ("", "", "", false)
def tyJx145de : Nat → FieldType := fun k => match k with
  | _ => .int
abbrev wsJx145de0 : List Cond := u_ws RJx145de TJx145de 0
theorem nmJx145de : ∀ a, a < 0 → ∀ b, b < 0 → a ≠ b → (TJx145de a).2.1 ≠ (TJx145de b).2.1 := by decide +kernel
theorem tyJx145de_ok : ∀ k, k < 0 → parseFieldDescriptor (TJx145de k).2.2.1 = some (tyJx145de k) := by decide +kernel
def RJ9 : String := "java/lang/Math"
def TJ9 : u_T := fun k => match k with
  | _ => ("", "", "", false)
def tyJ9 : Nat → FieldType := fun k => match k with
  | _ => .int
abbrev wsJ90 : List Cond := u_ws RJ9 TJ9 0
theorem nmJ9 : ∀ a, a < 0 → ∀ b, b < 0 → a ≠ b → (TJ9 a).2.1 ≠ (TJ9 b).2.1 := by decide +kernel
theorem tyJ9_ok : ∀ k, k < 0 → parseFieldDescriptor (TJ9 k).2.2.1 = some (tyJ9 k) := by decide +kernel
abbrev cJ9_abs_0f7a4 : ByteArray := prog_15_method_59_code
def yJ9_abs_0f7a4 : MethodName := ⟨RJ9, "abs", "(I)I"⟩
abbrev cJ9_max_7cf53 : ByteArray := prog_15_method_65_code
def yJ9_max_7cf53 : MethodName := ⟨RJ9, "max", "(II)I"⟩
abbrev cJ9_min_7cf53 : ByteArray := prog_15_method_69_code
def yJ9_min_7cf53 : MethodName := ⟨RJ9, "min", "(II)I"⟩
def RJ0 : String := "java/lang/String"
def TJ0 : u_T := fun k => match k with
  | _ => ("", "", "", false)
def tyJ0 : Nat → FieldType := fun k => match k with
  | _ => .int
abbrev wsJ00 : List Cond := u_ws RJ0 TJ0 0
theorem nmJ0 : ∀ a, a < 0 → ∀ b, b < 0 → a ≠ b → (TJ0 a).2.1 ≠ (TJ0 b).2.1 := by decide +kernel
theorem tyJ0_ok : ∀ k, k < 0 → parseFieldDescriptor (TJ0 k).2.2.1 = some (tyJ0 k) := by decide +kernel
def RJ10 : String := "java/lang/System"
def TJ10 : u_T := fun k => match k with
  | _ => ("", "", "", false)
def tyJ10 : Nat → FieldType := fun k => match k with
  | _ => .int
abbrev wsJ100 : List Cond := u_ws RJ10 TJ10 0
theorem nmJ10 : ∀ a, a < 0 → ∀ b, b < 0 → a ≠ b → (TJ10 a).2.1 ≠ (TJ10 b).2.1 := by decide +kernel
theorem tyJ10_ok : ∀ k, k < 0 → parseFieldDescriptor (TJ10 k).2.2.1 = some (tyJ10 k) := by decide +kernel
def RJ7 : String := "java/util/Arrays"
def TJ7 : u_T := fun k => match k with
  | _ => ("", "", "", false)
def tyJ7 : Nat → FieldType := fun k => match k with
  | _ => .int
abbrev wsJ70 : List Cond := u_ws RJ7 TJ7 0
theorem nmJ7 : ∀ a, a < 0 → ∀ b, b < 0 → a ≠ b → (TJ7 a).2.1 ≠ (TJ7 b).2.1 := by decide +kernel
theorem tyJ7_ok : ∀ k, k < 0 → parseFieldDescriptor (TJ7 k).2.2.1 = some (tyJ7 k) := by decide +kernel
abbrev cJ7_fill_53178 : ByteArray := prog_20_method_103_code
def yJ7_fill_53178 : MethodName := ⟨RJ7, "fill", "([II)V"⟩
def RL : String := "SkateSheetLaw"
abbrev cL_append : ByteArray := method_3_code
def yL_append : MethodName := ⟨RL, "append", "(LSkateSheet;I[J)I"⟩
abbrev cL_about : ByteArray := method_4_code
def yL_about : MethodName := ⟨RL, "about", "(LSkateSheet;I[J)I"⟩
abbrev cL_skater : ByteArray := method_5_code
def yL_skater : MethodName := ⟨RL, "skater", "(LSkateSheet;II[J)I"⟩
abbrev cL_element : ByteArray := method_6_code
def yL_element : MethodName := ⟨RL, "element", "(LSkateSheet;III[J)I"⟩
abbrev cL_part : ByteArray := method_7_code
def yL_part : MethodName := ⟨RL, "part", "(LSkateSheet;IIII[J)I"⟩
abbrev cL_setting : ByteArray := method_8_code
def yL_setting : MethodName := ⟨RL, "setting", "(LSkateSheet;I[J)I"⟩
abbrev cL_add : ByteArray := method_9_code
def yL_add : MethodName := ⟨RL, "add", "(LSkateSheet;[J)I"⟩
abbrev cL_program : ByteArray := method_10_code
def yL_program : MethodName := ⟨RL, "program", "(LSkateSheet;I[J)I"⟩
abbrev cL_mark : ByteArray := method_11_code
def yL_mark : MethodName := ⟨RL, "mark", "(LSkateSheet;III[J)I"⟩
abbrev cL_component : ByteArray := method_12_code
def yL_component : MethodName := ⟨RL, "component", "(LSkateSheet;III[J)I"⟩
abbrev cL_call : ByteArray := method_13_code
def yL_call : MethodName := ⟨RL, "call", "(LSkateSheet;IIII[J)I"⟩
abbrev cL_review : ByteArray := method_14_code
def yL_review : MethodName := ⟨RL, "review", "(LSkateSheet;IIZ[J)I"⟩
abbrev cL_fall : ByteArray := method_15_code
def yL_fall : MethodName := ⟨RL, "fall", "(LSkateSheet;IIZ[J)I"⟩
abbrev cL_penalty : ByteArray := method_16_code
def yL_penalty : MethodName := ⟨RL, "penalty", "(LSkateSheet;II[J)I"⟩
abbrev cL_set : ByteArray := method_17_code
def yL_set : MethodName := ⟨RL, "set", "(LSkateSheet;II[J)I"⟩
abbrev cL_undo : ByteArray := method_18_code
def yL_undo : MethodName := ⟨RL, "undo", "(LSkateSheet;[J)I"⟩
abbrev cL_ifCalled : ByteArray := method_19_code
def yL_ifCalled : MethodName := ⟨RL, "ifCalled", "(LSkateSheet;IIII[J)I"⟩
abbrev cL_ifReplaced : ByteArray := method_20_code
def yL_ifReplaced : MethodName := ⟨RL, "ifReplaced", "(LSkateSheet;II[J)I"⟩
abbrev cL_bestSwap : ByteArray := method_21_code
def yL_bestSwap : MethodName := ⟨RL, "bestSwap", "(LSkateSheet;II[J)I"⟩
abbrev cL_needs : ByteArray := method_22_code
def yL_needs : MethodName := ⟨RL, "needs", "(LSkateSheet;II[J)I"⟩
abbrev cL_behind : ByteArray := method_23_code
def yL_behind : MethodName := ⟨RL, "behind", "(LSkateSheet;I[J)I"⟩
abbrev cL_runScript : ByteArray := method_24_code
def yL_runScript : MethodName := ⟨RL, "runScript", "(LSkateSheet;IJ[J)I"⟩
abbrev cL_simulate : ByteArray := method_25_code
def yL_simulate : MethodName := ⟨RL, "simulate", "(LSkateSheet;JI[J)I"⟩
abbrev cL_save : ByteArray := method_26_code
def yL_save : MethodName := ⟨RL, "save", "(LSkateSheet;I[J)I"⟩
abbrev cL_restore : ByteArray := method_27_code
def yL_restore : MethodName := ⟨RL, "restore", "(LSkateSheet;I[J)I"⟩
abbrev cL_law : ByteArray := code
def yL_law : MethodName := ⟨RL, "law", "([I)Z"⟩
abbrev vwCl : List vw_C := [(RX0, TX0, 5), (RX1, TX1, 3), (RX2, TX2, 11), (RX3, TX3, 17), (RX4, TX4, 3), (RX5, TX5, 3), (RX6, TX6, 3), (RX7, TX7, 10), (RX8, TX8, 22)]
end
section
theorem dX0_init_0 : decode cX0_init 0 = .ok (.aload_n 0, 1) := by decide +kernel
theorem dX0_init_1 : decode cX0_init 1 = .ok (.invokespecial 1, 3) := by decide +kernel
theorem dX0_init_4 : decode cX0_init 4 = .ok (.return_, 1) := by decide +kernel
theorem dX0_read_0 : decode cX0_read 0 = .ok (.aload_n 0, 1) := by decide +kernel
theorem dX0_read_1 : decode cX0_read 1 = .ok (.iload_n 1, 1) := by decide +kernel
theorem dX0_read_2 : decode cX0_read 2 = .ok (.sipush 10000, 3) := by decide +kernel
theorem dX0_read_5 : decode cX0_read 5 = .ok (.idiv, 1) := by decide +kernel
theorem dX0_read_6 : decode cX0_read 6 = .ok (.putfield 7, 3) := by decide +kernel
theorem dX0_read_9 : decode cX0_read 9 = .ok (.aload_n 0, 1) := by decide +kernel
theorem dX0_read_10 : decode cX0_read 10 = .ok (.iload_n 1, 1) := by decide +kernel
theorem dX0_read_11 : decode cX0_read 11 = .ok (.sipush 1000, 3) := by decide +kernel
theorem dX0_read_14 : decode cX0_read 14 = .ok (.idiv, 1) := by decide +kernel
theorem dX0_read_15 : decode cX0_read 15 = .ok (.bipush 10, 2) := by decide +kernel
theorem dX0_read_17 : decode cX0_read 17 = .ok (.irem, 1) := by decide +kernel
theorem dX0_read_18 : decode cX0_read 18 = .ok (.putfield 13, 3) := by decide +kernel
theorem dX0_read_21 : decode cX0_read 21 = .ok (.aload_n 0, 1) := by decide +kernel
theorem dX0_read_22 : decode cX0_read 22 = .ok (.iload_n 1, 1) := by decide +kernel
theorem dX0_read_23 : decode cX0_read 23 = .ok (.bipush 100, 2) := by decide +kernel
theorem dX0_read_25 : decode cX0_read 25 = .ok (.idiv, 1) := by decide +kernel
theorem dX0_read_26 : decode cX0_read 26 = .ok (.bipush 10, 2) := by decide +kernel
theorem dX0_read_28 : decode cX0_read 28 = .ok (.irem, 1) := by decide +kernel
theorem dX0_read_29 : decode cX0_read 29 = .ok (.putfield 16, 3) := by decide +kernel
theorem dX0_read_32 : decode cX0_read 32 = .ok (.aload_n 0, 1) := by decide +kernel
theorem dX0_read_33 : decode cX0_read 33 = .ok (.iload_n 1, 1) := by decide +kernel
theorem dX0_read_34 : decode cX0_read 34 = .ok (.bipush 10, 2) := by decide +kernel
theorem dX0_read_36 : decode cX0_read 36 = .ok (.idiv, 1) := by decide +kernel
theorem dX0_read_37 : decode cX0_read 37 = .ok (.bipush 10, 2) := by decide +kernel
theorem dX0_read_39 : decode cX0_read 39 = .ok (.irem, 1) := by decide +kernel
theorem dX0_read_40 : decode cX0_read 40 = .ok (.putfield 19, 3) := by decide +kernel
theorem dX0_read_43 : decode cX0_read 43 = .ok (.aload_n 0, 1) := by decide +kernel
theorem dX0_read_44 : decode cX0_read 44 = .ok (.iload_n 1, 1) := by decide +kernel
theorem dX0_read_45 : decode cX0_read 45 = .ok (.bipush 10, 2) := by decide +kernel
theorem dX0_read_47 : decode cX0_read 47 = .ok (.irem, 1) := by decide +kernel
theorem dX0_read_48 : decode cX0_read 48 = .ok (.putfield 22, 3) := by decide +kernel
theorem dX0_read_51 : decode cX0_read 51 = .ok (.return_, 1) := by decide +kernel
theorem dX0_groupsBefore_0 : decode cX0_groupsBefore 0 = .ok (.lload_n 1, 1) := by decide +kernel
theorem dX0_groupsBefore_1 : decode cX0_groupsBefore 1 = .ok (.lstore_n 3, 1) := by decide +kernel
theorem dX0_groupsBefore_2 : decode cX0_groupsBefore 2 = .ok (.iconst 0, 1) := by decide +kernel
theorem dX0_groupsBefore_3 : decode cX0_groupsBefore 3 = .ok (.istore 5, 2) := by decide +kernel
theorem dX0_groupsBefore_5 : decode cX0_groupsBefore 5 = .ok (.iload 5, 2) := by decide +kernel
theorem dX0_groupsBefore_7 : decode cX0_groupsBefore 7 = .ok (.iload_n 0, 1) := by decide +kernel
theorem dX0_groupsBefore_8 : decode cX0_groupsBefore 8 = .ok (.if_icmp .ge 15, 3) := by decide +kernel
theorem dX0_groupsBefore_11 : decode cX0_groupsBefore 11 = .ok (.lload_n 3, 1) := by decide +kernel
theorem dX0_groupsBefore_12 : decode cX0_groupsBefore 12 = .ok (.ldc2_w 25, 3) := by decide +kernel
theorem dX0_groupsBefore_15 : decode cX0_groupsBefore 15 = .ok (.ldiv, 1) := by decide +kernel
theorem dX0_groupsBefore_16 : decode cX0_groupsBefore 16 = .ok (.lstore_n 3, 1) := by decide +kernel
theorem dX0_groupsBefore_17 : decode cX0_groupsBefore 17 = .ok (.iinc 5 1, 3) := by decide +kernel
theorem dX0_groupsBefore_20 : decode cX0_groupsBefore 20 = .ok (.goto (-15), 3) := by decide +kernel
theorem dX0_groupsBefore_23 : decode cX0_groupsBefore 23 = .ok (.lload_n 3, 1) := by decide +kernel
theorem dX0_groupsBefore_24 : decode cX0_groupsBefore 24 = .ok (.lreturn, 1) := by decide +kernel
theorem dX0_middleTwo_0 : decode cX0_middleTwo 0 = .ok (.bipush 10, 2) := by decide +kernel
theorem dX0_middleTwo_2 : decode cX0_middleTwo 2 = .ok (.aload_n 0, 1) := by decide +kernel
theorem dX0_middleTwo_3 : decode cX0_middleTwo 3 = .ok (.getfield 16, 3) := by decide +kernel
theorem dX0_middleTwo_6 : decode cX0_middleTwo 6 = .ok (.imul, 1) := by decide +kernel
theorem dX0_middleTwo_7 : decode cX0_middleTwo 7 = .ok (.aload_n 0, 1) := by decide +kernel
theorem dX0_middleTwo_8 : decode cX0_middleTwo 8 = .ok (.getfield 19, 3) := by decide +kernel
theorem dX0_middleTwo_11 : decode cX0_middleTwo 11 = .ok (.iadd, 1) := by decide +kernel
theorem dX0_middleTwo_12 : decode cX0_middleTwo 12 = .ok (.ireturn, 1) := by decide +kernel
theorem dX0_lastThree_0 : decode cX0_lastThree 0 = .ok (.bipush 100, 2) := by decide +kernel
theorem dX0_lastThree_2 : decode cX0_lastThree 2 = .ok (.aload_n 0, 1) := by decide +kernel
theorem dX0_lastThree_3 : decode cX0_lastThree 3 = .ok (.getfield 16, 3) := by decide +kernel
theorem dX0_lastThree_6 : decode cX0_lastThree 6 = .ok (.imul, 1) := by decide +kernel
theorem dX0_lastThree_7 : decode cX0_lastThree 7 = .ok (.bipush 10, 2) := by decide +kernel
theorem dX0_lastThree_9 : decode cX0_lastThree 9 = .ok (.aload_n 0, 1) := by decide +kernel
theorem dX0_lastThree_10 : decode cX0_lastThree 10 = .ok (.getfield 19, 3) := by decide +kernel
theorem dX0_lastThree_13 : decode cX0_lastThree 13 = .ok (.imul, 1) := by decide +kernel
theorem dX0_lastThree_14 : decode cX0_lastThree 14 = .ok (.iadd, 1) := by decide +kernel
theorem dX0_lastThree_15 : decode cX0_lastThree 15 = .ok (.aload_n 0, 1) := by decide +kernel
theorem dX0_lastThree_16 : decode cX0_lastThree 16 = .ok (.getfield 22, 3) := by decide +kernel
theorem dX0_lastThree_19 : decode cX0_lastThree 19 = .ok (.iadd, 1) := by decide +kernel
theorem dX0_lastThree_20 : decode cX0_lastThree 20 = .ok (.ireturn, 1) := by decide +kernel
theorem dX1_init_0 : decode cX1_init 0 = .ok (.aload_n 0, 1) := by decide +kernel
theorem dX1_init_1 : decode cX1_init 1 = .ok (.invokespecial 1, 3) := by decide +kernel
theorem dX1_init_4 : decode cX1_init 4 = .ok (.aload_n 0, 1) := by decide +kernel
theorem dX1_init_5 : decode cX1_init 5 = .ok (.bipush 14, 2) := by decide +kernel
theorem dX1_init_7 : decode cX1_init 7 = .ok (.anewarray 9, 3) := by decide +kernel
theorem dX1_init_10 : decode cX1_init 10 = .ok (.putfield 11, 3) := by decide +kernel
theorem dX1_init_13 : decode cX1_init 13 = .ok (.iconst 0, 1) := by decide +kernel
theorem dX1_init_14 : decode cX1_init 14 = .ok (.istore_n 1, 1) := by decide +kernel
theorem dX1_init_15 : decode cX1_init 15 = .ok (.iload_n 1, 1) := by decide +kernel
theorem dX1_init_16 : decode cX1_init 16 = .ok (.bipush 14, 2) := by decide +kernel
theorem dX1_init_18 : decode cX1_init 18 = .ok (.if_icmp .ge 22, 3) := by decide +kernel
theorem dX1_init_21 : decode cX1_init 21 = .ok (.aload_n 0, 1) := by decide +kernel
theorem dX1_init_22 : decode cX1_init 22 = .ok (.getfield 11, 3) := by decide +kernel
theorem dX1_init_25 : decode cX1_init 25 = .ok (.iload_n 1, 1) := by decide +kernel
theorem dX1_init_26 : decode cX1_init 26 = .ok (.new 9, 3) := by decide +kernel
theorem dX1_init_29 : decode cX1_init 29 = .ok (.dup, 1) := by decide +kernel
theorem dX1_init_30 : decode cX1_init 30 = .ok (.invokespecial 15, 3) := by decide +kernel
theorem dX1_init_33 : decode cX1_init 33 = .ok (.aastore, 1) := by decide +kernel
theorem dX1_init_34 : decode cX1_init 34 = .ok (.iinc 1 1, 3) := by decide +kernel
theorem dX1_init_37 : decode cX1_init 37 = .ok (.goto (-22), 3) := by decide +kernel
theorem dX1_init_40 : decode cX1_init 40 = .ok (.return_, 1) := by decide +kernel
theorem dX1_remember_0 : decode cX1_remember 0 = .ok (.aload_n 0, 1) := by decide +kernel
theorem dX1_remember_1 : decode cX1_remember 1 = .ok (.getfield 16, 3) := by decide +kernel
theorem dX1_remember_4 : decode cX1_remember 4 = .ok (.bipush 14, 2) := by decide +kernel
theorem dX1_remember_6 : decode cX1_remember 6 = .ok (.if_icmp .ne 26, 3) := by decide +kernel
theorem dX1_remember_9 : decode cX1_remember 9 = .ok (.aload_n 0, 1) := by decide +kernel
theorem dX1_remember_10 : decode cX1_remember 10 = .ok (.aload_n 0, 1) := by decide +kernel
theorem dX1_remember_11 : decode cX1_remember 11 = .ok (.getfield 20, 3) := by decide +kernel
theorem dX1_remember_14 : decode cX1_remember 14 = .ok (.iconst 1, 1) := by decide +kernel
theorem dX1_remember_15 : decode cX1_remember 15 = .ok (.iadd, 1) := by decide +kernel
theorem dX1_remember_16 : decode cX1_remember 16 = .ok (.bipush 14, 2) := by decide +kernel
theorem dX1_remember_18 : decode cX1_remember 18 = .ok (.irem, 1) := by decide +kernel
theorem dX1_remember_19 : decode cX1_remember 19 = .ok (.putfield 20, 3) := by decide +kernel
theorem dX1_remember_22 : decode cX1_remember 22 = .ok (.aload_n 0, 1) := by decide +kernel
theorem dX1_remember_23 : decode cX1_remember 23 = .ok (.dup, 1) := by decide +kernel
theorem dX1_remember_24 : decode cX1_remember 24 = .ok (.getfield 16, 3) := by decide +kernel
theorem dX1_remember_27 : decode cX1_remember 27 = .ok (.iconst 1, 1) := by decide +kernel
theorem dX1_remember_28 : decode cX1_remember 28 = .ok (.isub, 1) := by decide +kernel
theorem dX1_remember_29 : decode cX1_remember 29 = .ok (.putfield 16, 3) := by decide +kernel
theorem dX1_remember_32 : decode cX1_remember 32 = .ok (.aload_n 0, 1) := by decide +kernel
theorem dX1_remember_33 : decode cX1_remember 33 = .ok (.getfield 11, 3) := by decide +kernel
theorem dX1_remember_36 : decode cX1_remember 36 = .ok (.aload_n 0, 1) := by decide +kernel
theorem dX1_remember_37 : decode cX1_remember 37 = .ok (.getfield 20, 3) := by decide +kernel
theorem dX1_remember_40 : decode cX1_remember 40 = .ok (.aload_n 0, 1) := by decide +kernel
theorem dX1_remember_41 : decode cX1_remember 41 = .ok (.getfield 16, 3) := by decide +kernel
theorem dX1_remember_44 : decode cX1_remember 44 = .ok (.iadd, 1) := by decide +kernel
theorem dX1_remember_45 : decode cX1_remember 45 = .ok (.bipush 14, 2) := by decide +kernel
theorem dX1_remember_47 : decode cX1_remember 47 = .ok (.irem, 1) := by decide +kernel
theorem dX1_remember_48 : decode cX1_remember 48 = .ok (.aaload, 1) := by decide +kernel
theorem dX1_remember_49 : decode cX1_remember 49 = .ok (.aload_n 1, 1) := by decide +kernel
theorem dX1_remember_50 : decode cX1_remember 50 = .ok (.invokevirtual 23, 3) := by decide +kernel
theorem dX1_remember_53 : decode cX1_remember 53 = .ok (.aload_n 0, 1) := by decide +kernel
theorem dX1_remember_54 : decode cX1_remember 54 = .ok (.dup, 1) := by decide +kernel
theorem dX1_remember_55 : decode cX1_remember 55 = .ok (.getfield 16, 3) := by decide +kernel
theorem dX1_remember_58 : decode cX1_remember 58 = .ok (.iconst 1, 1) := by decide +kernel
theorem dX1_remember_59 : decode cX1_remember 59 = .ok (.iadd, 1) := by decide +kernel
theorem dX1_remember_60 : decode cX1_remember 60 = .ok (.putfield 16, 3) := by decide +kernel
theorem dX1_remember_63 : decode cX1_remember 63 = .ok (.return_, 1) := by decide +kernel
theorem dX1_takeBack_0 : decode cX1_takeBack 0 = .ok (.aload_n 0, 1) := by decide +kernel
theorem dX1_takeBack_1 : decode cX1_takeBack 1 = .ok (.getfield 16, 3) := by decide +kernel
theorem dX1_takeBack_4 : decode cX1_takeBack 4 = .ok (.ifCond .gt 5, 3) := by decide +kernel
theorem dX1_takeBack_7 : decode cX1_takeBack 7 = .ok (.iconst 0, 1) := by decide +kernel
theorem dX1_takeBack_8 : decode cX1_takeBack 8 = .ok (.ireturn, 1) := by decide +kernel
theorem dX1_takeBack_9 : decode cX1_takeBack 9 = .ok (.aload_n 0, 1) := by decide +kernel
theorem dX1_takeBack_10 : decode cX1_takeBack 10 = .ok (.dup, 1) := by decide +kernel
theorem dX1_takeBack_11 : decode cX1_takeBack 11 = .ok (.getfield 16, 3) := by decide +kernel
theorem dX1_takeBack_14 : decode cX1_takeBack 14 = .ok (.iconst 1, 1) := by decide +kernel
theorem dX1_takeBack_15 : decode cX1_takeBack 15 = .ok (.isub, 1) := by decide +kernel
theorem dX1_takeBack_16 : decode cX1_takeBack 16 = .ok (.putfield 16, 3) := by decide +kernel
theorem dX1_takeBack_19 : decode cX1_takeBack 19 = .ok (.aload_n 1, 1) := by decide +kernel
theorem dX1_takeBack_20 : decode cX1_takeBack 20 = .ok (.aload_n 0, 1) := by decide +kernel
theorem dX1_takeBack_21 : decode cX1_takeBack 21 = .ok (.getfield 11, 3) := by decide +kernel
theorem dX1_takeBack_24 : decode cX1_takeBack 24 = .ok (.aload_n 0, 1) := by decide +kernel
theorem dX1_takeBack_25 : decode cX1_takeBack 25 = .ok (.getfield 20, 3) := by decide +kernel
theorem dX1_takeBack_28 : decode cX1_takeBack 28 = .ok (.aload_n 0, 1) := by decide +kernel
theorem dX1_takeBack_29 : decode cX1_takeBack 29 = .ok (.getfield 16, 3) := by decide +kernel
theorem dX1_takeBack_32 : decode cX1_takeBack 32 = .ok (.iadd, 1) := by decide +kernel
theorem dX1_takeBack_33 : decode cX1_takeBack 33 = .ok (.bipush 14, 2) := by decide +kernel
theorem dX1_takeBack_35 : decode cX1_takeBack 35 = .ok (.irem, 1) := by decide +kernel
theorem dX1_takeBack_36 : decode cX1_takeBack 36 = .ok (.aaload, 1) := by decide +kernel
theorem dX1_takeBack_37 : decode cX1_takeBack 37 = .ok (.invokevirtual 23, 3) := by decide +kernel
theorem dX1_takeBack_40 : decode cX1_takeBack 40 = .ok (.iconst 1, 1) := by decide +kernel
theorem dX1_takeBack_41 : decode cX1_takeBack 41 = .ok (.ireturn, 1) := by decide +kernel
theorem dX1_forget_0 : decode cX1_forget 0 = .ok (.aload_n 0, 1) := by decide +kernel
theorem dX1_forget_1 : decode cX1_forget 1 = .ok (.iconst 0, 1) := by decide +kernel
theorem dX1_forget_2 : decode cX1_forget 2 = .ok (.putfield 16, 3) := by decide +kernel
theorem dX1_forget_5 : decode cX1_forget 5 = .ok (.return_, 1) := by decide +kernel
theorem dX2_init_0 : decode cX2_init 0 = .ok (.aload_n 0, 1) := by decide +kernel
theorem dX2_init_1 : decode cX2_init 1 = .ok (.invokespecial 3, 3) := by decide +kernel
theorem dX2_init_4 : decode cX2_init 4 = .ok (.aload_n 0, 1) := by decide +kernel
theorem dX2_init_5 : decode cX2_init 5 = .ok (.bipush 12, 2) := by decide +kernel
theorem dX2_init_7 : decode cX2_init 7 = .ok (.newarray .int, 2) := by decide +kernel
theorem dX2_init_9 : decode cX2_init 9 = .ok (.putfield 9, 3) := by decide +kernel
theorem dX2_init_12 : decode cX2_init 12 = .ok (.aload_n 0, 1) := by decide +kernel
theorem dX2_init_13 : decode cX2_init 13 = .ok (.bipush 12, 2) := by decide +kernel
theorem dX2_init_15 : decode cX2_init 15 = .ok (.newarray .int, 2) := by decide +kernel
theorem dX2_init_17 : decode cX2_init 17 = .ok (.putfield 15, 3) := by decide +kernel
theorem dX2_init_20 : decode cX2_init 20 = .ok (.aload_n 0, 1) := by decide +kernel
theorem dX2_init_21 : decode cX2_init 21 = .ok (.bipush 12, 2) := by decide +kernel
theorem dX2_init_23 : decode cX2_init 23 = .ok (.newarray .int, 2) := by decide +kernel
theorem dX2_init_25 : decode cX2_init 25 = .ok (.putfield 18, 3) := by decide +kernel
theorem dX2_init_28 : decode cX2_init 28 = .ok (.aload_n 0, 1) := by decide +kernel
theorem dX2_init_29 : decode cX2_init 29 = .ok (.bipush 12, 2) := by decide +kernel
theorem dX2_init_31 : decode cX2_init 31 = .ok (.newarray .int, 2) := by decide +kernel
theorem dX2_init_33 : decode cX2_init 33 = .ok (.putfield 21, 3) := by decide +kernel
theorem dX2_init_36 : decode cX2_init 36 = .ok (.aload_n 0, 1) := by decide +kernel
theorem dX2_init_37 : decode cX2_init 37 = .ok (.bipush 12, 2) := by decide +kernel
theorem dX2_init_39 : decode cX2_init 39 = .ok (.newarray .int, 2) := by decide +kernel
theorem dX2_init_41 : decode cX2_init 41 = .ok (.putfield 24, 3) := by decide +kernel
theorem dX2_init_44 : decode cX2_init 44 = .ok (.aload_n 0, 1) := by decide +kernel
theorem dX2_init_45 : decode cX2_init 45 = .ok (.bipush 36, 2) := by decide +kernel
theorem dX2_init_47 : decode cX2_init 47 = .ok (.newarray .int, 2) := by decide +kernel
theorem dX2_init_49 : decode cX2_init 49 = .ok (.putfield 27, 3) := by decide +kernel
theorem dX2_init_52 : decode cX2_init 52 = .ok (.aload_n 0, 1) := by decide +kernel
theorem dX2_init_53 : decode cX2_init 53 = .ok (.bipush 36, 2) := by decide +kernel
theorem dX2_init_55 : decode cX2_init 55 = .ok (.newarray .int, 2) := by decide +kernel
theorem dX2_init_57 : decode cX2_init 57 = .ok (.putfield 30, 3) := by decide +kernel
theorem dX2_init_60 : decode cX2_init 60 = .ok (.aload_n 0, 1) := by decide +kernel
theorem dX2_init_61 : decode cX2_init 61 = .ok (.bipush 36, 2) := by decide +kernel
theorem dX2_init_63 : decode cX2_init 63 = .ok (.newarray .int, 2) := by decide +kernel
theorem dX2_init_65 : decode cX2_init 65 = .ok (.putfield 33, 3) := by decide +kernel
theorem dX2_init_68 : decode cX2_init 68 = .ok (.aload_n 0, 1) := by decide +kernel
theorem dX2_init_69 : decode cX2_init 69 = .ok (.iconst 3, 1) := by decide +kernel
theorem dX2_init_70 : decode cX2_init 70 = .ok (.newarray .int, 2) := by decide +kernel
theorem dX2_init_72 : decode cX2_init 72 = .ok (.putfield 36, 3) := by decide +kernel
theorem dX2_init_75 : decode cX2_init 75 = .ok (.return_, 1) := by decide +kernel
theorem dX2_clear_0 : decode cX2_clear 0 = .ok (.aload_n 0, 1) := by decide +kernel
theorem dX2_clear_1 : decode cX2_clear 1 = .ok (.iconst 0, 1) := by decide +kernel
theorem dX2_clear_2 : decode cX2_clear 2 = .ok (.putfield 39, 3) := by decide +kernel
theorem dX2_clear_5 : decode cX2_clear 5 = .ok (.aload_n 0, 1) := by decide +kernel
theorem dX2_clear_6 : decode cX2_clear 6 = .ok (.iconst 0, 1) := by decide +kernel
theorem dX2_clear_7 : decode cX2_clear 7 = .ok (.putfield 43, 3) := by decide +kernel
theorem dX2_clear_10 : decode cX2_clear 10 = .ok (.aload_n 0, 1) := by decide +kernel
theorem dX2_clear_11 : decode cX2_clear 11 = .ok (.getfield 36, 3) := by decide +kernel
theorem dX2_clear_14 : decode cX2_clear 14 = .ok (.iconst 0, 1) := by decide +kernel
theorem dX2_clear_15 : decode cX2_clear 15 = .ok (.invokestatic 46, 3) := by decide +kernel
theorem dX2_clear_18 : decode cX2_clear 18 = .ok (.return_, 1) := by decide +kernel
theorem dX2_startElement_0 : decode cX2_startElement 0 = .ok (.aload_n 0, 1) := by decide +kernel
theorem dX2_startElement_1 : decode cX2_startElement 1 = .ok (.getfield 39, 3) := by decide +kernel
theorem dX2_startElement_4 : decode cX2_startElement 4 = .ok (.bipush 12, 2) := by decide +kernel
theorem dX2_startElement_6 : decode cX2_startElement 6 = .ok (.if_icmp .ge 63, 3) := by decide +kernel
theorem dX2_startElement_9 : decode cX2_startElement 9 = .ok (.aload_n 0, 1) := by decide +kernel
theorem dX2_startElement_10 : decode cX2_startElement 10 = .ok (.getfield 9, 3) := by decide +kernel
theorem dX2_startElement_13 : decode cX2_startElement 13 = .ok (.aload_n 0, 1) := by decide +kernel
theorem dX2_startElement_14 : decode cX2_startElement 14 = .ok (.getfield 39, 3) := by decide +kernel
theorem dX2_startElement_17 : decode cX2_startElement 17 = .ok (.iload_n 1, 1) := by decide +kernel
theorem dX2_startElement_18 : decode cX2_startElement 18 = .ok (.iastore, 1) := by decide +kernel
theorem dX2_startElement_19 : decode cX2_startElement 19 = .ok (.aload_n 0, 1) := by decide +kernel
theorem dX2_startElement_20 : decode cX2_startElement 20 = .ok (.getfield 15, 3) := by decide +kernel
theorem dX2_startElement_23 : decode cX2_startElement 23 = .ok (.aload_n 0, 1) := by decide +kernel
theorem dX2_startElement_24 : decode cX2_startElement 24 = .ok (.getfield 39, 3) := by decide +kernel
theorem dX2_startElement_27 : decode cX2_startElement 27 = .ok (.iconst 0, 1) := by decide +kernel
theorem dX2_startElement_28 : decode cX2_startElement 28 = .ok (.iastore, 1) := by decide +kernel
theorem dX2_startElement_29 : decode cX2_startElement 29 = .ok (.aload_n 0, 1) := by decide +kernel
theorem dX2_startElement_30 : decode cX2_startElement 30 = .ok (.getfield 18, 3) := by decide +kernel
theorem dX2_startElement_33 : decode cX2_startElement 33 = .ok (.aload_n 0, 1) := by decide +kernel
theorem dX2_startElement_34 : decode cX2_startElement 34 = .ok (.getfield 39, 3) := by decide +kernel
theorem dX2_startElement_37 : decode cX2_startElement 37 = .ok (.iconst 0, 1) := by decide +kernel
theorem dX2_startElement_38 : decode cX2_startElement 38 = .ok (.iastore, 1) := by decide +kernel
theorem dX2_startElement_39 : decode cX2_startElement 39 = .ok (.aload_n 0, 1) := by decide +kernel
theorem dX2_startElement_40 : decode cX2_startElement 40 = .ok (.getfield 21, 3) := by decide +kernel
theorem dX2_startElement_43 : decode cX2_startElement 43 = .ok (.aload_n 0, 1) := by decide +kernel
theorem dX2_startElement_44 : decode cX2_startElement 44 = .ok (.getfield 39, 3) := by decide +kernel
theorem dX2_startElement_47 : decode cX2_startElement 47 = .ok (.iconst 0, 1) := by decide +kernel
theorem dX2_startElement_48 : decode cX2_startElement 48 = .ok (.iastore, 1) := by decide +kernel
theorem dX2_startElement_49 : decode cX2_startElement 49 = .ok (.aload_n 0, 1) := by decide +kernel
theorem dX2_startElement_50 : decode cX2_startElement 50 = .ok (.getfield 24, 3) := by decide +kernel
theorem dX2_startElement_53 : decode cX2_startElement 53 = .ok (.aload_n 0, 1) := by decide +kernel
theorem dX2_startElement_54 : decode cX2_startElement 54 = .ok (.getfield 39, 3) := by decide +kernel
theorem dX2_startElement_57 : decode cX2_startElement 57 = .ok (.iconst 0, 1) := by decide +kernel
theorem dX2_startElement_58 : decode cX2_startElement 58 = .ok (.iastore, 1) := by decide +kernel
theorem dX2_startElement_59 : decode cX2_startElement 59 = .ok (.aload_n 0, 1) := by decide +kernel
theorem dX2_startElement_60 : decode cX2_startElement 60 = .ok (.dup, 1) := by decide +kernel
theorem dX2_startElement_61 : decode cX2_startElement 61 = .ok (.getfield 39, 3) := by decide +kernel
theorem dX2_startElement_64 : decode cX2_startElement 64 = .ok (.iconst 1, 1) := by decide +kernel
theorem dX2_startElement_65 : decode cX2_startElement 65 = .ok (.iadd, 1) := by decide +kernel
theorem dX2_startElement_66 : decode cX2_startElement 66 = .ok (.putfield 39, 3) := by decide +kernel
theorem dX2_startElement_69 : decode cX2_startElement 69 = .ok (.return_, 1) := by decide +kernel
theorem dX2_startPart_0 : decode cX2_startPart 0 = .ok (.aload_n 0, 1) := by decide +kernel
theorem dX2_startPart_1 : decode cX2_startPart 1 = .ok (.getfield 39, 3) := by decide +kernel
theorem dX2_startPart_4 : decode cX2_startPart 4 = .ok (.iconst 1, 1) := by decide +kernel
theorem dX2_startPart_5 : decode cX2_startPart 5 = .ok (.isub, 1) := by decide +kernel
theorem dX2_startPart_6 : decode cX2_startPart 6 = .ok (.istore 4, 2) := by decide +kernel
theorem dX2_startPart_8 : decode cX2_startPart 8 = .ok (.iload 4, 2) := by decide +kernel
theorem dX2_startPart_10 : decode cX2_startPart 10 = .ok (.ifCond .lt 63, 3) := by decide +kernel
theorem dX2_startPart_13 : decode cX2_startPart 13 = .ok (.aload_n 0, 1) := by decide +kernel
theorem dX2_startPart_14 : decode cX2_startPart 14 = .ok (.getfield 15, 3) := by decide +kernel
theorem dX2_startPart_17 : decode cX2_startPart 17 = .ok (.iload 4, 2) := by decide +kernel
theorem dX2_startPart_19 : decode cX2_startPart 19 = .ok (.iaload, 1) := by decide +kernel
theorem dX2_startPart_20 : decode cX2_startPart 20 = .ok (.iconst 3, 1) := by decide +kernel
theorem dX2_startPart_21 : decode cX2_startPart 21 = .ok (.if_icmp .ge 52, 3) := by decide +kernel
theorem dX2_startPart_24 : decode cX2_startPart 24 = .ok (.iconst 3, 1) := by decide +kernel
theorem dX2_startPart_25 : decode cX2_startPart 25 = .ok (.iload 4, 2) := by decide +kernel
theorem dX2_startPart_27 : decode cX2_startPart 27 = .ok (.imul, 1) := by decide +kernel
theorem dX2_startPart_28 : decode cX2_startPart 28 = .ok (.aload_n 0, 1) := by decide +kernel
theorem dX2_startPart_29 : decode cX2_startPart 29 = .ok (.getfield 15, 3) := by decide +kernel
theorem dX2_startPart_32 : decode cX2_startPart 32 = .ok (.iload 4, 2) := by decide +kernel
theorem dX2_startPart_34 : decode cX2_startPart 34 = .ok (.iaload, 1) := by decide +kernel
theorem dX2_startPart_35 : decode cX2_startPart 35 = .ok (.iadd, 1) := by decide +kernel
theorem dX2_startPart_36 : decode cX2_startPart 36 = .ok (.istore 5, 2) := by decide +kernel
theorem dX2_startPart_38 : decode cX2_startPart 38 = .ok (.aload_n 0, 1) := by decide +kernel
theorem dX2_startPart_39 : decode cX2_startPart 39 = .ok (.getfield 27, 3) := by decide +kernel
theorem dX2_startPart_42 : decode cX2_startPart 42 = .ok (.iload 5, 2) := by decide +kernel
theorem dX2_startPart_44 : decode cX2_startPart 44 = .ok (.iload_n 1, 1) := by decide +kernel
theorem dX2_startPart_45 : decode cX2_startPart 45 = .ok (.iastore, 1) := by decide +kernel
theorem dX2_startPart_46 : decode cX2_startPart 46 = .ok (.aload_n 0, 1) := by decide +kernel
theorem dX2_startPart_47 : decode cX2_startPart 47 = .ok (.getfield 30, 3) := by decide +kernel
theorem dX2_startPart_50 : decode cX2_startPart 50 = .ok (.iload 5, 2) := by decide +kernel
theorem dX2_startPart_52 : decode cX2_startPart 52 = .ok (.iload_n 2, 1) := by decide +kernel
theorem dX2_startPart_53 : decode cX2_startPart 53 = .ok (.iastore, 1) := by decide +kernel
theorem dX2_startPart_54 : decode cX2_startPart 54 = .ok (.aload_n 0, 1) := by decide +kernel
theorem dX2_startPart_55 : decode cX2_startPart 55 = .ok (.getfield 33, 3) := by decide +kernel
theorem dX2_startPart_58 : decode cX2_startPart 58 = .ok (.iload 5, 2) := by decide +kernel
theorem dX2_startPart_60 : decode cX2_startPart 60 = .ok (.iload_n 3, 1) := by decide +kernel
theorem dX2_startPart_61 : decode cX2_startPart 61 = .ok (.iastore, 1) := by decide +kernel
theorem dX2_startPart_62 : decode cX2_startPart 62 = .ok (.aload_n 0, 1) := by decide +kernel
theorem dX2_startPart_63 : decode cX2_startPart 63 = .ok (.getfield 15, 3) := by decide +kernel
theorem dX2_startPart_66 : decode cX2_startPart 66 = .ok (.iload 4, 2) := by decide +kernel
theorem dX2_startPart_68 : decode cX2_startPart 68 = .ok (.dup2, 1) := by decide +kernel
theorem dX2_startPart_69 : decode cX2_startPart 69 = .ok (.iaload, 1) := by decide +kernel
theorem dX2_startPart_70 : decode cX2_startPart 70 = .ok (.iconst 1, 1) := by decide +kernel
theorem dX2_startPart_71 : decode cX2_startPart 71 = .ok (.iadd, 1) := by decide +kernel
theorem dX2_startPart_72 : decode cX2_startPart 72 = .ok (.iastore, 1) := by decide +kernel
theorem dX2_startPart_73 : decode cX2_startPart 73 = .ok (.return_, 1) := by decide +kernel
theorem dX2_copyFrom_0 : decode cX2_copyFrom 0 = .ok (.aload_n 0, 1) := by decide +kernel
theorem dX2_copyFrom_1 : decode cX2_copyFrom 1 = .ok (.aload_n 1, 1) := by decide +kernel
theorem dX2_copyFrom_2 : decode cX2_copyFrom 2 = .ok (.invokevirtual 52, 3) := by decide +kernel
theorem dX2_copyFrom_5 : decode cX2_copyFrom 5 = .ok (.aload_n 1, 1) := by decide +kernel
theorem dX2_copyFrom_6 : decode cX2_copyFrom 6 = .ok (.getfield 36, 3) := by decide +kernel
theorem dX2_copyFrom_9 : decode cX2_copyFrom 9 = .ok (.iconst 0, 1) := by decide +kernel
theorem dX2_copyFrom_10 : decode cX2_copyFrom 10 = .ok (.aload_n 0, 1) := by decide +kernel
theorem dX2_copyFrom_11 : decode cX2_copyFrom 11 = .ok (.getfield 36, 3) := by decide +kernel
theorem dX2_copyFrom_14 : decode cX2_copyFrom 14 = .ok (.iconst 0, 1) := by decide +kernel
theorem dX2_copyFrom_15 : decode cX2_copyFrom 15 = .ok (.iconst 3, 1) := by decide +kernel
theorem dX2_copyFrom_16 : decode cX2_copyFrom 16 = .ok (.invokestatic 56, 3) := by decide +kernel
theorem dX2_copyFrom_19 : decode cX2_copyFrom 19 = .ok (.aload_n 0, 1) := by decide +kernel
theorem dX2_copyFrom_20 : decode cX2_copyFrom 20 = .ok (.aload_n 1, 1) := by decide +kernel
theorem dX2_copyFrom_21 : decode cX2_copyFrom 21 = .ok (.getfield 43, 3) := by decide +kernel
theorem dX2_copyFrom_24 : decode cX2_copyFrom 24 = .ok (.putfield 43, 3) := by decide +kernel
theorem dX2_copyFrom_27 : decode cX2_copyFrom 27 = .ok (.return_, 1) := by decide +kernel
theorem dX2_copyElements_0 : decode cX2_copyElements 0 = .ok (.aload_n 0, 1) := by decide +kernel
theorem dX2_copyElements_1 : decode cX2_copyElements 1 = .ok (.aload_n 1, 1) := by decide +kernel
theorem dX2_copyElements_2 : decode cX2_copyElements 2 = .ok (.getfield 39, 3) := by decide +kernel
theorem dX2_copyElements_5 : decode cX2_copyElements 5 = .ok (.putfield 39, 3) := by decide +kernel
theorem dX2_copyElements_8 : decode cX2_copyElements 8 = .ok (.aload_n 1, 1) := by decide +kernel
theorem dX2_copyElements_9 : decode cX2_copyElements 9 = .ok (.getfield 9, 3) := by decide +kernel
theorem dX2_copyElements_12 : decode cX2_copyElements 12 = .ok (.iconst 0, 1) := by decide +kernel
theorem dX2_copyElements_13 : decode cX2_copyElements 13 = .ok (.aload_n 0, 1) := by decide +kernel
theorem dX2_copyElements_14 : decode cX2_copyElements 14 = .ok (.getfield 9, 3) := by decide +kernel
theorem dX2_copyElements_17 : decode cX2_copyElements 17 = .ok (.iconst 0, 1) := by decide +kernel
theorem dX2_copyElements_18 : decode cX2_copyElements 18 = .ok (.bipush 12, 2) := by decide +kernel
theorem dX2_copyElements_20 : decode cX2_copyElements 20 = .ok (.invokestatic 56, 3) := by decide +kernel
theorem dX2_copyElements_23 : decode cX2_copyElements 23 = .ok (.aload_n 1, 1) := by decide +kernel
theorem dX2_copyElements_24 : decode cX2_copyElements 24 = .ok (.getfield 15, 3) := by decide +kernel
theorem dX2_copyElements_27 : decode cX2_copyElements 27 = .ok (.iconst 0, 1) := by decide +kernel
theorem dX2_copyElements_28 : decode cX2_copyElements 28 = .ok (.aload_n 0, 1) := by decide +kernel
theorem dX2_copyElements_29 : decode cX2_copyElements 29 = .ok (.getfield 15, 3) := by decide +kernel
theorem dX2_copyElements_32 : decode cX2_copyElements 32 = .ok (.iconst 0, 1) := by decide +kernel
theorem dX2_copyElements_33 : decode cX2_copyElements 33 = .ok (.bipush 12, 2) := by decide +kernel
theorem dX2_copyElements_35 : decode cX2_copyElements 35 = .ok (.invokestatic 56, 3) := by decide +kernel
theorem dX2_copyElements_38 : decode cX2_copyElements 38 = .ok (.aload_n 1, 1) := by decide +kernel
theorem dX2_copyElements_39 : decode cX2_copyElements 39 = .ok (.getfield 18, 3) := by decide +kernel
theorem dX2_copyElements_42 : decode cX2_copyElements 42 = .ok (.iconst 0, 1) := by decide +kernel
theorem dX2_copyElements_43 : decode cX2_copyElements 43 = .ok (.aload_n 0, 1) := by decide +kernel
theorem dX2_copyElements_44 : decode cX2_copyElements 44 = .ok (.getfield 18, 3) := by decide +kernel
theorem dX2_copyElements_47 : decode cX2_copyElements 47 = .ok (.iconst 0, 1) := by decide +kernel
theorem dX2_copyElements_48 : decode cX2_copyElements 48 = .ok (.bipush 12, 2) := by decide +kernel
theorem dX2_copyElements_50 : decode cX2_copyElements 50 = .ok (.invokestatic 56, 3) := by decide +kernel
theorem dX2_copyElements_53 : decode cX2_copyElements 53 = .ok (.aload_n 1, 1) := by decide +kernel
theorem dX2_copyElements_54 : decode cX2_copyElements 54 = .ok (.getfield 21, 3) := by decide +kernel
theorem dX2_copyElements_57 : decode cX2_copyElements 57 = .ok (.iconst 0, 1) := by decide +kernel
theorem dX2_copyElements_58 : decode cX2_copyElements 58 = .ok (.aload_n 0, 1) := by decide +kernel
theorem dX2_copyElements_59 : decode cX2_copyElements 59 = .ok (.getfield 21, 3) := by decide +kernel
theorem dX2_copyElements_62 : decode cX2_copyElements 62 = .ok (.iconst 0, 1) := by decide +kernel
theorem dX2_copyElements_63 : decode cX2_copyElements 63 = .ok (.bipush 12, 2) := by decide +kernel
theorem dX2_copyElements_65 : decode cX2_copyElements 65 = .ok (.invokestatic 56, 3) := by decide +kernel
theorem dX2_copyElements_68 : decode cX2_copyElements 68 = .ok (.aload_n 1, 1) := by decide +kernel
theorem dX2_copyElements_69 : decode cX2_copyElements 69 = .ok (.getfield 24, 3) := by decide +kernel
theorem dX2_copyElements_72 : decode cX2_copyElements 72 = .ok (.iconst 0, 1) := by decide +kernel
theorem dX2_copyElements_73 : decode cX2_copyElements 73 = .ok (.aload_n 0, 1) := by decide +kernel
theorem dX2_copyElements_74 : decode cX2_copyElements 74 = .ok (.getfield 24, 3) := by decide +kernel
theorem dX2_copyElements_77 : decode cX2_copyElements 77 = .ok (.iconst 0, 1) := by decide +kernel
theorem dX2_copyElements_78 : decode cX2_copyElements 78 = .ok (.bipush 12, 2) := by decide +kernel
theorem dX2_copyElements_80 : decode cX2_copyElements 80 = .ok (.invokestatic 56, 3) := by decide +kernel
theorem dX2_copyElements_83 : decode cX2_copyElements 83 = .ok (.aload_n 1, 1) := by decide +kernel
theorem dX2_copyElements_84 : decode cX2_copyElements 84 = .ok (.getfield 27, 3) := by decide +kernel
theorem dX2_copyElements_87 : decode cX2_copyElements 87 = .ok (.iconst 0, 1) := by decide +kernel
theorem dX2_copyElements_88 : decode cX2_copyElements 88 = .ok (.aload_n 0, 1) := by decide +kernel
theorem dX2_copyElements_89 : decode cX2_copyElements 89 = .ok (.getfield 27, 3) := by decide +kernel
theorem dX2_copyElements_92 : decode cX2_copyElements 92 = .ok (.iconst 0, 1) := by decide +kernel
theorem dX2_copyElements_93 : decode cX2_copyElements 93 = .ok (.bipush 36, 2) := by decide +kernel
theorem dX2_copyElements_95 : decode cX2_copyElements 95 = .ok (.invokestatic 56, 3) := by decide +kernel
theorem dX2_copyElements_98 : decode cX2_copyElements 98 = .ok (.aload_n 1, 1) := by decide +kernel
theorem dX2_copyElements_99 : decode cX2_copyElements 99 = .ok (.getfield 30, 3) := by decide +kernel
theorem dX2_copyElements_102 : decode cX2_copyElements 102 = .ok (.iconst 0, 1) := by decide +kernel
theorem dX2_copyElements_103 : decode cX2_copyElements 103 = .ok (.aload_n 0, 1) := by decide +kernel
theorem dX2_copyElements_104 : decode cX2_copyElements 104 = .ok (.getfield 30, 3) := by decide +kernel
theorem dX2_copyElements_107 : decode cX2_copyElements 107 = .ok (.iconst 0, 1) := by decide +kernel
theorem dX2_copyElements_108 : decode cX2_copyElements 108 = .ok (.bipush 36, 2) := by decide +kernel
theorem dX2_copyElements_110 : decode cX2_copyElements 110 = .ok (.invokestatic 56, 3) := by decide +kernel
theorem dX2_copyElements_113 : decode cX2_copyElements 113 = .ok (.aload_n 1, 1) := by decide +kernel
theorem dX2_copyElements_114 : decode cX2_copyElements 114 = .ok (.getfield 33, 3) := by decide +kernel
theorem dX2_copyElements_117 : decode cX2_copyElements 117 = .ok (.iconst 0, 1) := by decide +kernel
theorem dX2_copyElements_118 : decode cX2_copyElements 118 = .ok (.aload_n 0, 1) := by decide +kernel
theorem dX2_copyElements_119 : decode cX2_copyElements 119 = .ok (.getfield 33, 3) := by decide +kernel
theorem dX2_copyElements_122 : decode cX2_copyElements 122 = .ok (.iconst 0, 1) := by decide +kernel
theorem dX2_copyElements_123 : decode cX2_copyElements 123 = .ok (.bipush 36, 2) := by decide +kernel
theorem dX2_copyElements_125 : decode cX2_copyElements 125 = .ok (.invokestatic 56, 3) := by decide +kernel
theorem dX2_copyElements_128 : decode cX2_copyElements 128 = .ok (.return_, 1) := by decide +kernel
theorem dX2_takeElement_0 : decode cX2_takeElement 0 = .ok (.aload_n 0, 1) := by decide +kernel
theorem dX2_takeElement_1 : decode cX2_takeElement 1 = .ok (.getfield 9, 3) := by decide +kernel
theorem dX2_takeElement_4 : decode cX2_takeElement 4 = .ok (.iload_n 1, 1) := by decide +kernel
theorem dX2_takeElement_5 : decode cX2_takeElement 5 = .ok (.aload_n 2, 1) := by decide +kernel
theorem dX2_takeElement_6 : decode cX2_takeElement 6 = .ok (.getfield 9, 3) := by decide +kernel
theorem dX2_takeElement_9 : decode cX2_takeElement 9 = .ok (.iload_n 3, 1) := by decide +kernel
theorem dX2_takeElement_10 : decode cX2_takeElement 10 = .ok (.iaload, 1) := by decide +kernel
theorem dX2_takeElement_11 : decode cX2_takeElement 11 = .ok (.iastore, 1) := by decide +kernel
theorem dX2_takeElement_12 : decode cX2_takeElement 12 = .ok (.aload_n 0, 1) := by decide +kernel
theorem dX2_takeElement_13 : decode cX2_takeElement 13 = .ok (.getfield 15, 3) := by decide +kernel
theorem dX2_takeElement_16 : decode cX2_takeElement 16 = .ok (.iload_n 1, 1) := by decide +kernel
theorem dX2_takeElement_17 : decode cX2_takeElement 17 = .ok (.aload_n 2, 1) := by decide +kernel
theorem dX2_takeElement_18 : decode cX2_takeElement 18 = .ok (.getfield 15, 3) := by decide +kernel
theorem dX2_takeElement_21 : decode cX2_takeElement 21 = .ok (.iload_n 3, 1) := by decide +kernel
theorem dX2_takeElement_22 : decode cX2_takeElement 22 = .ok (.iaload, 1) := by decide +kernel
theorem dX2_takeElement_23 : decode cX2_takeElement 23 = .ok (.iastore, 1) := by decide +kernel
theorem dX2_takeElement_24 : decode cX2_takeElement 24 = .ok (.aload_n 0, 1) := by decide +kernel
theorem dX2_takeElement_25 : decode cX2_takeElement 25 = .ok (.getfield 18, 3) := by decide +kernel
theorem dX2_takeElement_28 : decode cX2_takeElement 28 = .ok (.iload_n 1, 1) := by decide +kernel
theorem dX2_takeElement_29 : decode cX2_takeElement 29 = .ok (.aload_n 2, 1) := by decide +kernel
theorem dX2_takeElement_30 : decode cX2_takeElement 30 = .ok (.getfield 18, 3) := by decide +kernel
theorem dX2_takeElement_33 : decode cX2_takeElement 33 = .ok (.iload_n 3, 1) := by decide +kernel
theorem dX2_takeElement_34 : decode cX2_takeElement 34 = .ok (.iaload, 1) := by decide +kernel
theorem dX2_takeElement_35 : decode cX2_takeElement 35 = .ok (.iastore, 1) := by decide +kernel
theorem dX2_takeElement_36 : decode cX2_takeElement 36 = .ok (.aload_n 0, 1) := by decide +kernel
theorem dX2_takeElement_37 : decode cX2_takeElement 37 = .ok (.getfield 21, 3) := by decide +kernel
theorem dX2_takeElement_40 : decode cX2_takeElement 40 = .ok (.iload_n 1, 1) := by decide +kernel
theorem dX2_takeElement_41 : decode cX2_takeElement 41 = .ok (.aload_n 2, 1) := by decide +kernel
theorem dX2_takeElement_42 : decode cX2_takeElement 42 = .ok (.getfield 21, 3) := by decide +kernel
theorem dX2_takeElement_45 : decode cX2_takeElement 45 = .ok (.iload_n 3, 1) := by decide +kernel
theorem dX2_takeElement_46 : decode cX2_takeElement 46 = .ok (.iaload, 1) := by decide +kernel
theorem dX2_takeElement_47 : decode cX2_takeElement 47 = .ok (.iastore, 1) := by decide +kernel
theorem dX2_takeElement_48 : decode cX2_takeElement 48 = .ok (.aload_n 0, 1) := by decide +kernel
theorem dX2_takeElement_49 : decode cX2_takeElement 49 = .ok (.getfield 24, 3) := by decide +kernel
theorem dX2_takeElement_52 : decode cX2_takeElement 52 = .ok (.iload_n 1, 1) := by decide +kernel
theorem dX2_takeElement_53 : decode cX2_takeElement 53 = .ok (.aload_n 2, 1) := by decide +kernel
theorem dX2_takeElement_54 : decode cX2_takeElement 54 = .ok (.getfield 24, 3) := by decide +kernel
theorem dX2_takeElement_57 : decode cX2_takeElement 57 = .ok (.iload_n 3, 1) := by decide +kernel
theorem dX2_takeElement_58 : decode cX2_takeElement 58 = .ok (.iaload, 1) := by decide +kernel
theorem dX2_takeElement_59 : decode cX2_takeElement 59 = .ok (.iastore, 1) := by decide +kernel
theorem dX2_takeElement_60 : decode cX2_takeElement 60 = .ok (.iconst 0, 1) := by decide +kernel
theorem dX2_takeElement_61 : decode cX2_takeElement 61 = .ok (.istore 4, 2) := by decide +kernel
theorem dX2_takeElement_63 : decode cX2_takeElement 63 = .ok (.iload 4, 2) := by decide +kernel
theorem dX2_takeElement_65 : decode cX2_takeElement 65 = .ok (.iconst 3, 1) := by decide +kernel
theorem dX2_takeElement_66 : decode cX2_takeElement 66 = .ok (.if_icmp .ge 75, 3) := by decide +kernel
theorem dX2_takeElement_69 : decode cX2_takeElement 69 = .ok (.aload_n 0, 1) := by decide +kernel
theorem dX2_takeElement_70 : decode cX2_takeElement 70 = .ok (.getfield 27, 3) := by decide +kernel
theorem dX2_takeElement_73 : decode cX2_takeElement 73 = .ok (.iconst 3, 1) := by decide +kernel
theorem dX2_takeElement_74 : decode cX2_takeElement 74 = .ok (.iload_n 1, 1) := by decide +kernel
theorem dX2_takeElement_75 : decode cX2_takeElement 75 = .ok (.imul, 1) := by decide +kernel
theorem dX2_takeElement_76 : decode cX2_takeElement 76 = .ok (.iload 4, 2) := by decide +kernel
theorem dX2_takeElement_78 : decode cX2_takeElement 78 = .ok (.iadd, 1) := by decide +kernel
theorem dX2_takeElement_79 : decode cX2_takeElement 79 = .ok (.aload_n 2, 1) := by decide +kernel
theorem dX2_takeElement_80 : decode cX2_takeElement 80 = .ok (.getfield 27, 3) := by decide +kernel
theorem dX2_takeElement_83 : decode cX2_takeElement 83 = .ok (.iconst 3, 1) := by decide +kernel
theorem dX2_takeElement_84 : decode cX2_takeElement 84 = .ok (.iload_n 3, 1) := by decide +kernel
theorem dX2_takeElement_85 : decode cX2_takeElement 85 = .ok (.imul, 1) := by decide +kernel
theorem dX2_takeElement_86 : decode cX2_takeElement 86 = .ok (.iload 4, 2) := by decide +kernel
theorem dX2_takeElement_88 : decode cX2_takeElement 88 = .ok (.iadd, 1) := by decide +kernel
theorem dX2_takeElement_89 : decode cX2_takeElement 89 = .ok (.iaload, 1) := by decide +kernel
theorem dX2_takeElement_90 : decode cX2_takeElement 90 = .ok (.iastore, 1) := by decide +kernel
theorem dX2_takeElement_91 : decode cX2_takeElement 91 = .ok (.aload_n 0, 1) := by decide +kernel
theorem dX2_takeElement_92 : decode cX2_takeElement 92 = .ok (.getfield 30, 3) := by decide +kernel
theorem dX2_takeElement_95 : decode cX2_takeElement 95 = .ok (.iconst 3, 1) := by decide +kernel
theorem dX2_takeElement_96 : decode cX2_takeElement 96 = .ok (.iload_n 1, 1) := by decide +kernel
theorem dX2_takeElement_97 : decode cX2_takeElement 97 = .ok (.imul, 1) := by decide +kernel
theorem dX2_takeElement_98 : decode cX2_takeElement 98 = .ok (.iload 4, 2) := by decide +kernel
theorem dX2_takeElement_100 : decode cX2_takeElement 100 = .ok (.iadd, 1) := by decide +kernel
theorem dX2_takeElement_101 : decode cX2_takeElement 101 = .ok (.aload_n 2, 1) := by decide +kernel
theorem dX2_takeElement_102 : decode cX2_takeElement 102 = .ok (.getfield 30, 3) := by decide +kernel
theorem dX2_takeElement_105 : decode cX2_takeElement 105 = .ok (.iconst 3, 1) := by decide +kernel
theorem dX2_takeElement_106 : decode cX2_takeElement 106 = .ok (.iload_n 3, 1) := by decide +kernel
theorem dX2_takeElement_107 : decode cX2_takeElement 107 = .ok (.imul, 1) := by decide +kernel
theorem dX2_takeElement_108 : decode cX2_takeElement 108 = .ok (.iload 4, 2) := by decide +kernel
theorem dX2_takeElement_110 : decode cX2_takeElement 110 = .ok (.iadd, 1) := by decide +kernel
theorem dX2_takeElement_111 : decode cX2_takeElement 111 = .ok (.iaload, 1) := by decide +kernel
theorem dX2_takeElement_112 : decode cX2_takeElement 112 = .ok (.iastore, 1) := by decide +kernel
theorem dX2_takeElement_113 : decode cX2_takeElement 113 = .ok (.aload_n 0, 1) := by decide +kernel
theorem dX2_takeElement_114 : decode cX2_takeElement 114 = .ok (.getfield 33, 3) := by decide +kernel
theorem dX2_takeElement_117 : decode cX2_takeElement 117 = .ok (.iconst 3, 1) := by decide +kernel
theorem dX2_takeElement_118 : decode cX2_takeElement 118 = .ok (.iload_n 1, 1) := by decide +kernel
theorem dX2_takeElement_119 : decode cX2_takeElement 119 = .ok (.imul, 1) := by decide +kernel
theorem dX2_takeElement_120 : decode cX2_takeElement 120 = .ok (.iload 4, 2) := by decide +kernel
theorem dX2_takeElement_122 : decode cX2_takeElement 122 = .ok (.iadd, 1) := by decide +kernel
theorem dX2_takeElement_123 : decode cX2_takeElement 123 = .ok (.aload_n 2, 1) := by decide +kernel
theorem dX2_takeElement_124 : decode cX2_takeElement 124 = .ok (.getfield 33, 3) := by decide +kernel
theorem dX2_takeElement_127 : decode cX2_takeElement 127 = .ok (.iconst 3, 1) := by decide +kernel
theorem dX2_takeElement_128 : decode cX2_takeElement 128 = .ok (.iload_n 3, 1) := by decide +kernel
theorem dX2_takeElement_129 : decode cX2_takeElement 129 = .ok (.imul, 1) := by decide +kernel
theorem dX2_takeElement_130 : decode cX2_takeElement 130 = .ok (.iload 4, 2) := by decide +kernel
theorem dX2_takeElement_132 : decode cX2_takeElement 132 = .ok (.iadd, 1) := by decide +kernel
theorem dX2_takeElement_133 : decode cX2_takeElement 133 = .ok (.iaload, 1) := by decide +kernel
theorem dX2_takeElement_134 : decode cX2_takeElement 134 = .ok (.iastore, 1) := by decide +kernel
theorem dX2_takeElement_135 : decode cX2_takeElement 135 = .ok (.iinc 4 1, 3) := by decide +kernel
theorem dX2_takeElement_138 : decode cX2_takeElement 138 = .ok (.goto (-75), 3) := by decide +kernel
theorem dX2_takeElement_141 : decode cX2_takeElement 141 = .ok (.return_, 1) := by decide +kernel
theorem dX2_takesCall_0 : decode cX2_takesCall 0 = .ok (.aload_n 0, 1) := by decide +kernel
theorem dX2_takesCall_1 : decode cX2_takesCall 1 = .ok (.getfield 9, 3) := by decide +kernel
theorem dX2_takesCall_4 : decode cX2_takesCall 4 = .ok (.iload_n 1, 1) := by decide +kernel
theorem dX2_takesCall_5 : decode cX2_takesCall 5 = .ok (.iaload, 1) := by decide +kernel
theorem dX2_takesCall_6 : decode cX2_takesCall 6 = .ok (.ifCond .eq 5, 3) := by decide +kernel
theorem dX2_takesCall_9 : decode cX2_takesCall 9 = .ok (.iconst 0, 1) := by decide +kernel
theorem dX2_takesCall_10 : decode cX2_takesCall 10 = .ok (.ireturn, 1) := by decide +kernel
theorem dX2_takesCall_11 : decode cX2_takesCall 11 = .ok (.iload_n 3, 1) := by decide +kernel
theorem dX2_takesCall_12 : decode cX2_takesCall 12 = .ok (.iconst 3, 1) := by decide +kernel
theorem dX2_takesCall_13 : decode cX2_takesCall 13 = .ok (.if_icmp .ne 19, 3) := by decide +kernel
theorem dX2_takesCall_16 : decode cX2_takesCall 16 = .ok (.aload_n 0, 1) := by decide +kernel
theorem dX2_takesCall_17 : decode cX2_takesCall 17 = .ok (.getfield 27, 3) := by decide +kernel
theorem dX2_takesCall_20 : decode cX2_takesCall 20 = .ok (.iconst 3, 1) := by decide +kernel
theorem dX2_takesCall_21 : decode cX2_takesCall 21 = .ok (.iload_n 1, 1) := by decide +kernel
theorem dX2_takesCall_22 : decode cX2_takesCall 22 = .ok (.imul, 1) := by decide +kernel
theorem dX2_takesCall_23 : decode cX2_takesCall 23 = .ok (.iload_n 2, 1) := by decide +kernel
theorem dX2_takesCall_24 : decode cX2_takesCall 24 = .ok (.iadd, 1) := by decide +kernel
theorem dX2_takesCall_25 : decode cX2_takesCall 25 = .ok (.iaload, 1) := by decide +kernel
theorem dX2_takesCall_26 : decode cX2_takesCall 26 = .ok (.invokestatic 62, 3) := by decide +kernel
theorem dX2_takesCall_29 : decode cX2_takesCall 29 = .ok (.ifCond .eq 7, 3) := by decide +kernel
theorem dX2_takesCall_32 : decode cX2_takesCall 32 = .ok (.iconst 1, 1) := by decide +kernel
theorem dX2_takesCall_33 : decode cX2_takesCall 33 = .ok (.goto 4, 3) := by decide +kernel
theorem dX2_takesCall_36 : decode cX2_takesCall 36 = .ok (.iconst 0, 1) := by decide +kernel
theorem dX2_takesCall_37 : decode cX2_takesCall 37 = .ok (.ireturn, 1) := by decide +kernel
theorem dX2_hasEdge_0 : decode cX2_hasEdge 0 = .ok (.iload_n 0, 1) := by decide +kernel
theorem dX2_hasEdge_1 : decode cX2_hasEdge 1 = .ok (.iconst 3, 1) := by decide +kernel
theorem dX2_hasEdge_2 : decode cX2_hasEdge 2 = .ok (.if_icmp .eq 8, 3) := by decide +kernel
theorem dX2_hasEdge_5 : decode cX2_hasEdge 5 = .ok (.iload_n 0, 1) := by decide +kernel
theorem dX2_hasEdge_6 : decode cX2_hasEdge 6 = .ok (.iconst 4, 1) := by decide +kernel
theorem dX2_hasEdge_7 : decode cX2_hasEdge 7 = .ok (.if_icmp .ne 7, 3) := by decide +kernel
theorem dX2_hasEdge_10 : decode cX2_hasEdge 10 = .ok (.iconst 1, 1) := by decide +kernel
theorem dX2_hasEdge_11 : decode cX2_hasEdge 11 = .ok (.goto 4, 3) := by decide +kernel
theorem dX2_hasEdge_14 : decode cX2_hasEdge 14 = .ok (.iconst 0, 1) := by decide +kernel
theorem dX2_hasEdge_15 : decode cX2_hasEdge 15 = .ok (.ireturn, 1) := by decide +kernel
theorem dX2_fallen_0 : decode cX2_fallen 0 = .ok (.iconst 0, 1) := by decide +kernel
theorem dX2_fallen_1 : decode cX2_fallen 1 = .ok (.istore_n 1, 1) := by decide +kernel
theorem dX2_fallen_2 : decode cX2_fallen 2 = .ok (.iconst 0, 1) := by decide +kernel
theorem dX2_fallen_3 : decode cX2_fallen 3 = .ok (.istore_n 2, 1) := by decide +kernel
theorem dX2_fallen_4 : decode cX2_fallen 4 = .ok (.iload_n 2, 1) := by decide +kernel
theorem dX2_fallen_5 : decode cX2_fallen 5 = .ok (.aload_n 0, 1) := by decide +kernel
theorem dX2_fallen_6 : decode cX2_fallen 6 = .ok (.getfield 39, 3) := by decide +kernel
theorem dX2_fallen_9 : decode cX2_fallen 9 = .ok (.if_icmp .ge 18, 3) := by decide +kernel
theorem dX2_fallen_12 : decode cX2_fallen 12 = .ok (.iload_n 1, 1) := by decide +kernel
theorem dX2_fallen_13 : decode cX2_fallen 13 = .ok (.aload_n 0, 1) := by decide +kernel
theorem dX2_fallen_14 : decode cX2_fallen 14 = .ok (.getfield 21, 3) := by decide +kernel
theorem dX2_fallen_17 : decode cX2_fallen 17 = .ok (.iload_n 2, 1) := by decide +kernel
theorem dX2_fallen_18 : decode cX2_fallen 18 = .ok (.iaload, 1) := by decide +kernel
theorem dX2_fallen_19 : decode cX2_fallen 19 = .ok (.iadd, 1) := by decide +kernel
theorem dX2_fallen_20 : decode cX2_fallen 20 = .ok (.istore_n 1, 1) := by decide +kernel
theorem dX2_fallen_21 : decode cX2_fallen 21 = .ok (.iinc 2 1, 3) := by decide +kernel
theorem dX2_fallen_24 : decode cX2_fallen 24 = .ok (.goto (-20), 3) := by decide +kernel
theorem dX2_fallen_27 : decode cX2_fallen 27 = .ok (.iload_n 1, 1) := by decide +kernel
theorem dX2_fallen_28 : decode cX2_fallen 28 = .ok (.ireturn, 1) := by decide +kernel
theorem dX2_reviewed_0 : decode cX2_reviewed 0 = .ok (.iconst 0, 1) := by decide +kernel
theorem dX2_reviewed_1 : decode cX2_reviewed 1 = .ok (.istore_n 1, 1) := by decide +kernel
theorem dX2_reviewed_2 : decode cX2_reviewed 2 = .ok (.iconst 0, 1) := by decide +kernel
theorem dX2_reviewed_3 : decode cX2_reviewed 3 = .ok (.istore_n 2, 1) := by decide +kernel
theorem dX2_reviewed_4 : decode cX2_reviewed 4 = .ok (.iload_n 2, 1) := by decide +kernel
theorem dX2_reviewed_5 : decode cX2_reviewed 5 = .ok (.aload_n 0, 1) := by decide +kernel
theorem dX2_reviewed_6 : decode cX2_reviewed 6 = .ok (.getfield 39, 3) := by decide +kernel
theorem dX2_reviewed_9 : decode cX2_reviewed 9 = .ok (.if_icmp .ge 18, 3) := by decide +kernel
theorem dX2_reviewed_12 : decode cX2_reviewed 12 = .ok (.iload_n 1, 1) := by decide +kernel
theorem dX2_reviewed_13 : decode cX2_reviewed 13 = .ok (.aload_n 0, 1) := by decide +kernel
theorem dX2_reviewed_14 : decode cX2_reviewed 14 = .ok (.getfield 24, 3) := by decide +kernel
theorem dX2_reviewed_17 : decode cX2_reviewed 17 = .ok (.iload_n 2, 1) := by decide +kernel
theorem dX2_reviewed_18 : decode cX2_reviewed 18 = .ok (.iaload, 1) := by decide +kernel
theorem dX2_reviewed_19 : decode cX2_reviewed 19 = .ok (.iadd, 1) := by decide +kernel
theorem dX2_reviewed_20 : decode cX2_reviewed 20 = .ok (.istore_n 1, 1) := by decide +kernel
theorem dX2_reviewed_21 : decode cX2_reviewed 21 = .ok (.iinc 2 1, 3) := by decide +kernel
theorem dX2_reviewed_24 : decode cX2_reviewed 24 = .ok (.goto (-20), 3) := by decide +kernel
theorem dX2_reviewed_27 : decode cX2_reviewed 27 = .ok (.iload_n 1, 1) := by decide +kernel
theorem dX2_reviewed_28 : decode cX2_reviewed 28 = .ok (.ireturn, 1) := by decide +kernel
theorem dX3_init_0 : decode cX3_init 0 = .ok (.aload_n 0, 1) := by decide +kernel
theorem dX3_init_1 : decode cX3_init 1 = .ok (.invokespecial 3, 3) := by decide +kernel
theorem dX3_init_4 : decode cX3_init 4 = .ok (.aload_n 0, 1) := by decide +kernel
theorem dX3_init_5 : decode cX3_init 5 = .ok (.bipush 36, 2) := by decide +kernel
theorem dX3_init_7 : decode cX3_init 7 = .ok (.newarray .int, 2) := by decide +kernel
theorem dX3_init_9 : decode cX3_init 9 = .ok (.putfield 9, 3) := by decide +kernel
theorem dX3_init_12 : decode cX3_init 12 = .ok (.aload_n 0, 1) := by decide +kernel
theorem dX3_init_13 : decode cX3_init 13 = .ok (.bipush 36, 2) := by decide +kernel
theorem dX3_init_15 : decode cX3_init 15 = .ok (.newarray .int, 2) := by decide +kernel
theorem dX3_init_17 : decode cX3_init 17 = .ok (.putfield 15, 3) := by decide +kernel
theorem dX3_init_20 : decode cX3_init 20 = .ok (.aload_n 0, 1) := by decide +kernel
theorem dX3_init_21 : decode cX3_init 21 = .ok (.bipush 12, 2) := by decide +kernel
theorem dX3_init_23 : decode cX3_init 23 = .ok (.newarray .int, 2) := by decide +kernel
theorem dX3_init_25 : decode cX3_init 25 = .ok (.putfield 18, 3) := by decide +kernel
theorem dX3_init_28 : decode cX3_init 28 = .ok (.aload_n 0, 1) := by decide +kernel
theorem dX3_init_29 : decode cX3_init 29 = .ok (.bipush 12, 2) := by decide +kernel
theorem dX3_init_31 : decode cX3_init 31 = .ok (.newarray .int, 2) := by decide +kernel
theorem dX3_init_33 : decode cX3_init 33 = .ok (.putfield 21, 3) := by decide +kernel
theorem dX3_init_36 : decode cX3_init 36 = .ok (.aload_n 0, 1) := by decide +kernel
theorem dX3_init_37 : decode cX3_init 37 = .ok (.bipush 12, 2) := by decide +kernel
theorem dX3_init_39 : decode cX3_init 39 = .ok (.newarray .int, 2) := by decide +kernel
theorem dX3_init_41 : decode cX3_init 41 = .ok (.putfield 24, 3) := by decide +kernel
theorem dX3_init_44 : decode cX3_init 44 = .ok (.aload_n 0, 1) := by decide +kernel
theorem dX3_init_45 : decode cX3_init 45 = .ok (.bipush 12, 2) := by decide +kernel
theorem dX3_init_47 : decode cX3_init 47 = .ok (.newarray .int, 2) := by decide +kernel
theorem dX3_init_49 : decode cX3_init 49 = .ok (.putfield 27, 3) := by decide +kernel
theorem dX3_init_52 : decode cX3_init 52 = .ok (.aload_n 0, 1) := by decide +kernel
theorem dX3_init_53 : decode cX3_init 53 = .ok (.bipush 12, 2) := by decide +kernel
theorem dX3_init_55 : decode cX3_init 55 = .ok (.newarray .int, 2) := by decide +kernel
theorem dX3_init_57 : decode cX3_init 57 = .ok (.putfield 30, 3) := by decide +kernel
theorem dX3_init_60 : decode cX3_init 60 = .ok (.aload_n 0, 1) := by decide +kernel
theorem dX3_init_61 : decode cX3_init 61 = .ok (.bipush 12, 2) := by decide +kernel
theorem dX3_init_63 : decode cX3_init 63 = .ok (.newarray .int, 2) := by decide +kernel
theorem dX3_init_65 : decode cX3_init 65 = .ok (.putfield 33, 3) := by decide +kernel
theorem dX3_init_68 : decode cX3_init 68 = .ok (.return_, 1) := by decide +kernel
theorem dX3_startOver_0 : decode cX3_startOver 0 = .ok (.aload_n 0, 1) := by decide +kernel
theorem dX3_startOver_1 : decode cX3_startOver 1 = .ok (.getfield 30, 3) := by decide +kernel
theorem dX3_startOver_4 : decode cX3_startOver 4 = .ok (.iconst 0, 1) := by decide +kernel
theorem dX3_startOver_5 : decode cX3_startOver 5 = .ok (.invokestatic 36, 3) := by decide +kernel
theorem dX3_startOver_8 : decode cX3_startOver 8 = .ok (.aload_n 0, 1) := by decide +kernel
theorem dX3_startOver_9 : decode cX3_startOver 9 = .ok (.iconst 0, 1) := by decide +kernel
theorem dX3_startOver_10 : decode cX3_startOver 10 = .ok (.putfield 42, 3) := by decide +kernel
theorem dX3_startOver_13 : decode cX3_startOver 13 = .ok (.aload_n 0, 1) := by decide +kernel
theorem dX3_startOver_14 : decode cX3_startOver 14 = .ok (.iconst 0, 1) := by decide +kernel
theorem dX3_startOver_15 : decode cX3_startOver 15 = .ok (.putfield 46, 3) := by decide +kernel
theorem dX3_startOver_18 : decode cX3_startOver 18 = .ok (.aload_n 0, 1) := by decide +kernel
theorem dX3_startOver_19 : decode cX3_startOver 19 = .ok (.iconst 0, 1) := by decide +kernel
theorem dX3_startOver_20 : decode cX3_startOver 20 = .ok (.putfield 49, 3) := by decide +kernel
theorem dX3_startOver_23 : decode cX3_startOver 23 = .ok (.aload_n 0, 1) := by decide +kernel
theorem dX3_startOver_24 : decode cX3_startOver 24 = .ok (.iconst 0, 1) := by decide +kernel
theorem dX3_startOver_25 : decode cX3_startOver 25 = .ok (.putfield 52, 3) := by decide +kernel
theorem dX3_startOver_28 : decode cX3_startOver 28 = .ok (.aload_n 0, 1) := by decide +kernel
theorem dX3_startOver_29 : decode cX3_startOver 29 = .ok (.iconst 0, 1) := by decide +kernel
theorem dX3_startOver_30 : decode cX3_startOver 30 = .ok (.putfield 55, 3) := by decide +kernel
theorem dX3_startOver_33 : decode cX3_startOver 33 = .ok (.aload_n 0, 1) := by decide +kernel
theorem dX3_startOver_34 : decode cX3_startOver 34 = .ok (.iconst 0, 1) := by decide +kernel
theorem dX3_startOver_35 : decode cX3_startOver 35 = .ok (.putfield 59, 3) := by decide +kernel
theorem dX3_startOver_38 : decode cX3_startOver 38 = .ok (.aload_n 0, 1) := by decide +kernel
theorem dX3_startOver_39 : decode cX3_startOver 39 = .ok (.iconst 0, 1) := by decide +kernel
theorem dX3_startOver_40 : decode cX3_startOver 40 = .ok (.putfield 62, 3) := by decide +kernel
theorem dX3_startOver_43 : decode cX3_startOver 43 = .ok (.aload_n 0, 1) := by decide +kernel
theorem dX3_startOver_44 : decode cX3_startOver 44 = .ok (.iconst 0, 1) := by decide +kernel
theorem dX3_startOver_45 : decode cX3_startOver 45 = .ok (.putfield 65, 3) := by decide +kernel
theorem dX3_startOver_48 : decode cX3_startOver 48 = .ok (.return_, 1) := by decide +kernel
theorem dX3_rate_0 : decode cX3_rate 0 = .ok (.aload_n 0, 1) := by decide +kernel
theorem dX3_rate_1 : decode cX3_rate 1 = .ok (.invokevirtual 68, 3) := by decide +kernel
theorem dX3_rate_4 : decode cX3_rate 4 = .ok (.iconst 0, 1) := by decide +kernel
theorem dX3_rate_5 : decode cX3_rate 5 = .ok (.istore_n 3, 1) := by decide +kernel
theorem dX3_rate_6 : decode cX3_rate 6 = .ok (.iload_n 3, 1) := by decide +kernel
theorem dX3_rate_7 : decode cX3_rate 7 = .ok (.aload_n 1, 1) := by decide +kernel
theorem dX3_rate_8 : decode cX3_rate 8 = .ok (.getfield 71, 3) := by decide +kernel
theorem dX3_rate_11 : decode cX3_rate 11 = .ok (.if_icmp .ge 56, 3) := by decide +kernel
theorem dX3_rate_14 : decode cX3_rate 14 = .ok (.aload_n 0, 1) := by decide +kernel
theorem dX3_rate_15 : decode cX3_rate 15 = .ok (.aload_n 1, 1) := by decide +kernel
theorem dX3_rate_16 : decode cX3_rate 16 = .ok (.iload_n 3, 1) := by decide +kernel
theorem dX3_rate_17 : decode cX3_rate 17 = .ok (.aload_n 2, 1) := by decide +kernel
theorem dX3_rate_18 : decode cX3_rate 18 = .ok (.invokevirtual 76, 3) := by decide +kernel
theorem dX3_rate_21 : decode cX3_rate 21 = .ok (.aload_n 0, 1) := by decide +kernel
theorem dX3_rate_22 : decode cX3_rate 22 = .ok (.dup, 1) := by decide +kernel
theorem dX3_rate_23 : decode cX3_rate 23 = .ok (.getfield 62, 3) := by decide +kernel
theorem dX3_rate_26 : decode cX3_rate 26 = .ok (.aload_n 0, 1) := by decide +kernel
theorem dX3_rate_27 : decode cX3_rate 27 = .ok (.getfield 18, 3) := by decide +kernel
theorem dX3_rate_30 : decode cX3_rate 30 = .ok (.iload_n 3, 1) := by decide +kernel
theorem dX3_rate_31 : decode cX3_rate 31 = .ok (.iaload, 1) := by decide +kernel
theorem dX3_rate_32 : decode cX3_rate 32 = .ok (.aload_n 0, 1) := by decide +kernel
theorem dX3_rate_33 : decode cX3_rate 33 = .ok (.getfield 24, 3) := by decide +kernel
theorem dX3_rate_36 : decode cX3_rate 36 = .ok (.iload_n 3, 1) := by decide +kernel
theorem dX3_rate_37 : decode cX3_rate 37 = .ok (.iaload, 1) := by decide +kernel
theorem dX3_rate_38 : decode cX3_rate 38 = .ok (.iadd, 1) := by decide +kernel
theorem dX3_rate_39 : decode cX3_rate 39 = .ok (.iadd, 1) := by decide +kernel
theorem dX3_rate_40 : decode cX3_rate 40 = .ok (.putfield 62, 3) := by decide +kernel
theorem dX3_rate_43 : decode cX3_rate 43 = .ok (.aload_n 0, 1) := by decide +kernel
theorem dX3_rate_44 : decode cX3_rate 44 = .ok (.dup, 1) := by decide +kernel
theorem dX3_rate_45 : decode cX3_rate 45 = .ok (.getfield 65, 3) := by decide +kernel
theorem dX3_rate_48 : decode cX3_rate 48 = .ok (.bipush 100, 2) := by decide +kernel
theorem dX3_rate_50 : decode cX3_rate 50 = .ok (.aload_n 1, 1) := by decide +kernel
theorem dX3_rate_51 : decode cX3_rate 51 = .ok (.getfield 80, 3) := by decide +kernel
theorem dX3_rate_54 : decode cX3_rate 54 = .ok (.iload_n 3, 1) := by decide +kernel
theorem dX3_rate_55 : decode cX3_rate 55 = .ok (.iaload, 1) := by decide +kernel
theorem dX3_rate_56 : decode cX3_rate 56 = .ok (.imul, 1) := by decide +kernel
theorem dX3_rate_57 : decode cX3_rate 57 = .ok (.iadd, 1) := by decide +kernel
theorem dX3_rate_58 : decode cX3_rate 58 = .ok (.putfield 65, 3) := by decide +kernel
theorem dX3_rate_61 : decode cX3_rate 61 = .ok (.iinc 3 1, 3) := by decide +kernel
theorem dX3_rate_64 : decode cX3_rate 64 = .ok (.goto (-58), 3) := by decide +kernel
theorem dX3_rate_67 : decode cX3_rate 67 = .ok (.aload_n 0, 1) := by decide +kernel
theorem dX3_rate_68 : decode cX3_rate 68 = .ok (.dup, 1) := by decide +kernel
theorem dX3_rate_69 : decode cX3_rate 69 = .ok (.getfield 65, 3) := by decide +kernel
theorem dX3_rate_72 : decode cX3_rate 72 = .ok (.bipush 100, 2) := by decide +kernel
theorem dX3_rate_74 : decode cX3_rate 74 = .ok (.aload_n 1, 1) := by decide +kernel
theorem dX3_rate_75 : decode cX3_rate 75 = .ok (.getfield 83, 3) := by decide +kernel
theorem dX3_rate_78 : decode cX3_rate 78 = .ok (.imul, 1) := by decide +kernel
theorem dX3_rate_79 : decode cX3_rate 79 = .ok (.iadd, 1) := by decide +kernel
theorem dX3_rate_80 : decode cX3_rate 80 = .ok (.putfield 65, 3) := by decide +kernel
theorem dX3_rate_83 : decode cX3_rate 83 = .ok (.iconst 0, 1) := by decide +kernel
theorem dX3_rate_84 : decode cX3_rate 84 = .ok (.istore_n 3, 1) := by decide +kernel
theorem dX3_rate_85 : decode cX3_rate 85 = .ok (.iconst 0, 1) := by decide +kernel
theorem dX3_rate_86 : decode cX3_rate 86 = .ok (.istore 4, 2) := by decide +kernel
theorem dX3_rate_88 : decode cX3_rate 88 = .ok (.iload 4, 2) := by decide +kernel
theorem dX3_rate_90 : decode cX3_rate 90 = .ok (.iconst 3, 1) := by decide +kernel
theorem dX3_rate_91 : decode cX3_rate 91 = .ok (.if_icmp .ge 19, 3) := by decide +kernel
theorem dX3_rate_94 : decode cX3_rate 94 = .ok (.iload_n 3, 1) := by decide +kernel
theorem dX3_rate_95 : decode cX3_rate 95 = .ok (.aload_n 1, 1) := by decide +kernel
theorem dX3_rate_96 : decode cX3_rate 96 = .ok (.getfield 86, 3) := by decide +kernel
theorem dX3_rate_99 : decode cX3_rate 99 = .ok (.iload 4, 2) := by decide +kernel
theorem dX3_rate_101 : decode cX3_rate 101 = .ok (.iaload, 1) := by decide +kernel
theorem dX3_rate_102 : decode cX3_rate 102 = .ok (.iadd, 1) := by decide +kernel
theorem dX3_rate_103 : decode cX3_rate 103 = .ok (.istore_n 3, 1) := by decide +kernel
theorem dX3_rate_104 : decode cX3_rate 104 = .ok (.iinc 4 1, 3) := by decide +kernel
theorem dX3_rate_107 : decode cX3_rate 107 = .ok (.goto (-19), 3) := by decide +kernel
theorem dX3_rate_110 : decode cX3_rate 110 = .ok (.aload_n 0, 1) := by decide +kernel
theorem dX3_rate_111 : decode cX3_rate 111 = .ok (.iload_n 3, 1) := by decide +kernel
theorem dX3_rate_112 : decode cX3_rate 112 = .ok (.aload_n 2, 1) := by decide +kernel
theorem dX3_rate_113 : decode cX3_rate 113 = .ok (.iconst 0, 1) := by decide +kernel
theorem dX3_rate_114 : decode cX3_rate 114 = .ok (.iaload, 1) := by decide +kernel
theorem dX3_rate_115 : decode cX3_rate 115 = .ok (.invokestatic 89, 3) := by decide +kernel
theorem dX3_rate_118 : decode cX3_rate 118 = .ok (.putfield 93, 3) := by decide +kernel
theorem dX3_rate_121 : decode cX3_rate 121 = .ok (.return_, 1) := by decide +kernel
theorem dX3_total_0 : decode cX3_total 0 = .ok (.aload_n 0, 1) := by decide +kernel
theorem dX3_total_1 : decode cX3_total 1 = .ok (.getfield 62, 3) := by decide +kernel
theorem dX3_total_4 : decode cX3_total 4 = .ok (.aload_n 0, 1) := by decide +kernel
theorem dX3_total_5 : decode cX3_total 5 = .ok (.getfield 93, 3) := by decide +kernel
theorem dX3_total_8 : decode cX3_total 8 = .ok (.iadd, 1) := by decide +kernel
theorem dX3_total_9 : decode cX3_total 9 = .ok (.aload_n 0, 1) := by decide +kernel
theorem dX3_total_10 : decode cX3_total 10 = .ok (.getfield 65, 3) := by decide +kernel
theorem dX3_total_13 : decode cX3_total 13 = .ok (.isub, 1) := by decide +kernel
theorem dX3_total_14 : decode cX3_total 14 = .ok (.ireturn, 1) := by decide +kernel
theorem dX3_rateElement_0 : decode cX3_rateElement 0 = .ok (.aload_n 1, 1) := by decide +kernel
theorem dX3_rateElement_1 : decode cX3_rateElement 1 = .ok (.getfield 95, 3) := by decide +kernel
theorem dX3_rateElement_4 : decode cX3_rateElement 4 = .ok (.iload_n 2, 1) := by decide +kernel
theorem dX3_rateElement_5 : decode cX3_rateElement 5 = .ok (.iaload, 1) := by decide +kernel
theorem dX3_rateElement_6 : decode cX3_rateElement 6 = .ok (.istore 4, 2) := by decide +kernel
theorem dX3_rateElement_8 : decode cX3_rateElement 8 = .ok (.aload_n 1, 1) := by decide +kernel
theorem dX3_rateElement_9 : decode cX3_rateElement 9 = .ok (.getfield 98, 3) := by decide +kernel
theorem dX3_rateElement_12 : decode cX3_rateElement 12 = .ok (.iload_n 2, 1) := by decide +kernel
theorem dX3_rateElement_13 : decode cX3_rateElement 13 = .ok (.iaload, 1) := by decide +kernel
theorem dX3_rateElement_14 : decode cX3_rateElement 14 = .ok (.istore 5, 2) := by decide +kernel
theorem dX3_rateElement_16 : decode cX3_rateElement 16 = .ok (.aload_n 0, 1) := by decide +kernel
theorem dX3_rateElement_17 : decode cX3_rateElement 17 = .ok (.iload 4, 2) := by decide +kernel
theorem dX3_rateElement_19 : decode cX3_rateElement 19 = .ok (.aload_n 3, 1) := by decide +kernel
theorem dX3_rateElement_20 : decode cX3_rateElement 20 = .ok (.invokevirtual 101, 3) := by decide +kernel
theorem dX3_rateElement_23 : decode cX3_rateElement 23 = .ok (.istore 6, 2) := by decide +kernel
theorem dX3_rateElement_25 : decode cX3_rateElement 25 = .ok (.iload 5, 2) := by decide +kernel
theorem dX3_rateElement_27 : decode cX3_rateElement 27 = .ok (.iconst 1, 1) := by decide +kernel
theorem dX3_rateElement_28 : decode cX3_rateElement 28 = .ok (.if_icmp .le 18, 3) := by decide +kernel
theorem dX3_rateElement_31 : decode cX3_rateElement 31 = .ok (.iload 6, 2) := by decide +kernel
theorem dX3_rateElement_33 : decode cX3_rateElement 33 = .ok (.ifCond .ne 13, 3) := by decide +kernel
theorem dX3_rateElement_36 : decode cX3_rateElement 36 = .ok (.aload_n 0, 1) := by decide +kernel
theorem dX3_rateElement_37 : decode cX3_rateElement 37 = .ok (.dup, 1) := by decide +kernel
theorem dX3_rateElement_38 : decode cX3_rateElement 38 = .ok (.getfield 52, 3) := by decide +kernel
theorem dX3_rateElement_41 : decode cX3_rateElement 41 = .ok (.iconst 1, 1) := by decide +kernel
theorem dX3_rateElement_42 : decode cX3_rateElement 42 = .ok (.iadd, 1) := by decide +kernel
theorem dX3_rateElement_43 : decode cX3_rateElement 43 = .ok (.putfield 52, 3) := by decide +kernel
theorem dX3_rateElement_46 : decode cX3_rateElement 46 = .ok (.iload 5, 2) := by decide +kernel
theorem dX3_rateElement_48 : decode cX3_rateElement 48 = .ok (.iconst 1, 1) := by decide +kernel
theorem dX3_rateElement_49 : decode cX3_rateElement 49 = .ok (.if_icmp .le 17, 3) := by decide +kernel
theorem dX3_rateElement_52 : decode cX3_rateElement 52 = .ok (.aload_n 0, 1) := by decide +kernel
theorem dX3_rateElement_53 : decode cX3_rateElement 53 = .ok (.getfield 52, 3) := by decide +kernel
theorem dX3_rateElement_56 : decode cX3_rateElement 56 = .ok (.aload_n 3, 1) := by decide +kernel
theorem dX3_rateElement_57 : decode cX3_rateElement 57 = .ok (.iconst 1, 1) := by decide +kernel
theorem dX3_rateElement_58 : decode cX3_rateElement 58 = .ok (.iaload, 1) := by decide +kernel
theorem dX3_rateElement_59 : decode cX3_rateElement 59 = .ok (.if_icmp .le 7, 3) := by decide +kernel
theorem dX3_rateElement_62 : decode cX3_rateElement 62 = .ok (.iconst 1, 1) := by decide +kernel
theorem dX3_rateElement_63 : decode cX3_rateElement 63 = .ok (.goto 4, 3) := by decide +kernel
theorem dX3_rateElement_66 : decode cX3_rateElement 66 = .ok (.iconst 0, 1) := by decide +kernel
theorem dX3_rateElement_67 : decode cX3_rateElement 67 = .ok (.istore 7, 2) := by decide +kernel
theorem dX3_rateElement_69 : decode cX3_rateElement 69 = .ok (.iconst 0, 1) := by decide +kernel
theorem dX3_rateElement_70 : decode cX3_rateElement 70 = .ok (.istore 8, 2) := by decide +kernel
theorem dX3_rateElement_72 : decode cX3_rateElement 72 = .ok (.iconst 0, 1) := by decide +kernel
theorem dX3_rateElement_73 : decode cX3_rateElement 73 = .ok (.istore 9, 2) := by decide +kernel
theorem dX3_rateElement_75 : decode cX3_rateElement 75 = .ok (.iconst 0, 1) := by decide +kernel
theorem dX3_rateElement_76 : decode cX3_rateElement 76 = .ok (.istore 10, 2) := by decide +kernel
theorem dX3_rateElement_78 : decode cX3_rateElement 78 = .ok (.iload 10, 2) := by decide +kernel
theorem dX3_rateElement_80 : decode cX3_rateElement 80 = .ok (.iload 5, 2) := by decide +kernel
theorem dX3_rateElement_82 : decode cX3_rateElement 82 = .ok (.if_icmp .ge 148, 3) := by decide +kernel
theorem dX3_rateElement_85 : decode cX3_rateElement 85 = .ok (.iconst 3, 1) := by decide +kernel
theorem dX3_rateElement_86 : decode cX3_rateElement 86 = .ok (.iload_n 2, 1) := by decide +kernel
theorem dX3_rateElement_87 : decode cX3_rateElement 87 = .ok (.imul, 1) := by decide +kernel
theorem dX3_rateElement_88 : decode cX3_rateElement 88 = .ok (.iload 10, 2) := by decide +kernel
theorem dX3_rateElement_90 : decode cX3_rateElement 90 = .ok (.iadd, 1) := by decide +kernel
theorem dX3_rateElement_91 : decode cX3_rateElement 91 = .ok (.istore 11, 2) := by decide +kernel
theorem dX3_rateElement_93 : decode cX3_rateElement 93 = .ok (.aload_n 0, 1) := by decide +kernel
theorem dX3_rateElement_94 : decode cX3_rateElement 94 = .ok (.aload_n 1, 1) := by decide +kernel
theorem dX3_rateElement_95 : decode cX3_rateElement 95 = .ok (.iload_n 2, 1) := by decide +kernel
theorem dX3_rateElement_96 : decode cX3_rateElement 96 = .ok (.iload 10, 2) := by decide +kernel
theorem dX3_rateElement_98 : decode cX3_rateElement 98 = .ok (.iload 6, 2) := by decide +kernel
theorem dX3_rateElement_100 : decode cX3_rateElement 100 = .ok (.iload 7, 2) := by decide +kernel
theorem dX3_rateElement_102 : decode cX3_rateElement 102 = .ok (.invokevirtual 105, 3) := by decide +kernel
theorem dX3_rateElement_105 : decode cX3_rateElement 105 = .ok (.istore 12, 2) := by decide +kernel
theorem dX3_rateElement_107 : decode cX3_rateElement 107 = .ok (.iload 12, 2) := by decide +kernel
theorem dX3_rateElement_109 : decode cX3_rateElement 109 = .ok (.iconst 1, 1) := by decide +kernel
theorem dX3_rateElement_110 : decode cX3_rateElement 110 = .ok (.if_icmp .le 7, 3) := by decide +kernel
theorem dX3_rateElement_113 : decode cX3_rateElement 113 = .ok (.iconst 0, 1) := by decide +kernel
theorem dX3_rateElement_114 : decode cX3_rateElement 114 = .ok (.goto 29, 3) := by decide +kernel
theorem dX3_rateElement_117 : decode cX3_rateElement 117 = .ok (.iload 4, 2) := by decide +kernel
theorem dX3_rateElement_119 : decode cX3_rateElement 119 = .ok (.aload_n 1, 1) := by decide +kernel
theorem dX3_rateElement_120 : decode cX3_rateElement 120 = .ok (.getfield 109, 3) := by decide +kernel
theorem dX3_rateElement_123 : decode cX3_rateElement 123 = .ok (.iload 11, 2) := by decide +kernel
theorem dX3_rateElement_125 : decode cX3_rateElement 125 = .ok (.iaload, 1) := by decide +kernel
theorem dX3_rateElement_126 : decode cX3_rateElement 126 = .ok (.aload_n 1, 1) := by decide +kernel
theorem dX3_rateElement_127 : decode cX3_rateElement 127 = .ok (.getfield 112, 3) := by decide +kernel
theorem dX3_rateElement_130 : decode cX3_rateElement 130 = .ok (.iload 11, 2) := by decide +kernel
theorem dX3_rateElement_132 : decode cX3_rateElement 132 = .ok (.iaload, 1) := by decide +kernel
theorem dX3_rateElement_133 : decode cX3_rateElement 133 = .ok (.aload_n 1, 1) := by decide +kernel
theorem dX3_rateElement_134 : decode cX3_rateElement 134 = .ok (.getfield 115, 3) := by decide +kernel
theorem dX3_rateElement_137 : decode cX3_rateElement 137 = .ok (.iload 11, 2) := by decide +kernel
theorem dX3_rateElement_139 : decode cX3_rateElement 139 = .ok (.iaload, 1) := by decide +kernel
theorem dX3_rateElement_140 : decode cX3_rateElement 140 = .ok (.invokestatic 118, 3) := by decide +kernel
theorem dX3_rateElement_143 : decode cX3_rateElement 143 = .ok (.istore 13, 2) := by decide +kernel
theorem dX3_rateElement_145 : decode cX3_rateElement 145 = .ok (.aload_n 0, 1) := by decide +kernel
theorem dX3_rateElement_146 : decode cX3_rateElement 146 = .ok (.getfield 9, 3) := by decide +kernel
theorem dX3_rateElement_149 : decode cX3_rateElement 149 = .ok (.iload 11, 2) := by decide +kernel
theorem dX3_rateElement_151 : decode cX3_rateElement 151 = .ok (.iload 12, 2) := by decide +kernel
theorem dX3_rateElement_153 : decode cX3_rateElement 153 = .ok (.iconst 1, 1) := by decide +kernel
theorem dX3_rateElement_154 : decode cX3_rateElement 154 = .ok (.if_icmp .ne 13, 3) := by decide +kernel
theorem dX3_rateElement_157 : decode cX3_rateElement 157 = .ok (.iload 13, 2) := by decide +kernel
theorem dX3_rateElement_159 : decode cX3_rateElement 159 = .ok (.bipush 70, 2) := by decide +kernel
theorem dX3_rateElement_161 : decode cX3_rateElement 161 = .ok (.invokestatic 89, 3) := by decide +kernel
theorem dX3_rateElement_164 : decode cX3_rateElement 164 = .ok (.goto 5, 3) := by decide +kernel
theorem dX3_rateElement_167 : decode cX3_rateElement 167 = .ok (.iload 13, 2) := by decide +kernel
theorem dX3_rateElement_169 : decode cX3_rateElement 169 = .ok (.iastore, 1) := by decide +kernel
theorem dX3_rateElement_170 : decode cX3_rateElement 170 = .ok (.aload_n 0, 1) := by decide +kernel
theorem dX3_rateElement_171 : decode cX3_rateElement 171 = .ok (.getfield 15, 3) := by decide +kernel
theorem dX3_rateElement_174 : decode cX3_rateElement 174 = .ok (.iload 11, 2) := by decide +kernel
theorem dX3_rateElement_176 : decode cX3_rateElement 176 = .ok (.iload 12, 2) := by decide +kernel
theorem dX3_rateElement_178 : decode cX3_rateElement 178 = .ok (.iastore, 1) := by decide +kernel
theorem dX3_rateElement_179 : decode cX3_rateElement 179 = .ok (.aload_n 0, 1) := by decide +kernel
theorem dX3_rateElement_180 : decode cX3_rateElement 180 = .ok (.dup, 1) := by decide +kernel
theorem dX3_rateElement_181 : decode cX3_rateElement 181 = .ok (.getfield 59, 3) := by decide +kernel
theorem dX3_rateElement_184 : decode cX3_rateElement 184 = .ok (.iload 12, 2) := by decide +kernel
theorem dX3_rateElement_186 : decode cX3_rateElement 186 = .ok (.ifCond .eq 7, 3) := by decide +kernel
theorem dX3_rateElement_189 : decode cX3_rateElement 189 = .ok (.iconst 1, 1) := by decide +kernel
theorem dX3_rateElement_190 : decode cX3_rateElement 190 = .ok (.goto 4, 3) := by decide +kernel
theorem dX3_rateElement_193 : decode cX3_rateElement 193 = .ok (.iconst 0, 1) := by decide +kernel
theorem dX3_rateElement_194 : decode cX3_rateElement 194 = .ok (.iadd, 1) := by decide +kernel
theorem dX3_rateElement_195 : decode cX3_rateElement 195 = .ok (.putfield 59, 3) := by decide +kernel
theorem dX3_rateElement_198 : decode cX3_rateElement 198 = .ok (.iload 8, 2) := by decide +kernel
theorem dX3_rateElement_200 : decode cX3_rateElement 200 = .ok (.aload_n 0, 1) := by decide +kernel
theorem dX3_rateElement_201 : decode cX3_rateElement 201 = .ok (.getfield 9, 3) := by decide +kernel
theorem dX3_rateElement_204 : decode cX3_rateElement 204 = .ok (.iload 11, 2) := by decide +kernel
theorem dX3_rateElement_206 : decode cX3_rateElement 206 = .ok (.iaload, 1) := by decide +kernel
theorem dX3_rateElement_207 : decode cX3_rateElement 207 = .ok (.iadd, 1) := by decide +kernel
theorem dX3_rateElement_208 : decode cX3_rateElement 208 = .ok (.istore 8, 2) := by decide +kernel
theorem dX3_rateElement_210 : decode cX3_rateElement 210 = .ok (.iload 9, 2) := by decide +kernel
theorem dX3_rateElement_212 : decode cX3_rateElement 212 = .ok (.aload_n 0, 1) := by decide +kernel
theorem dX3_rateElement_213 : decode cX3_rateElement 213 = .ok (.getfield 9, 3) := by decide +kernel
theorem dX3_rateElement_216 : decode cX3_rateElement 216 = .ok (.iload 11, 2) := by decide +kernel
theorem dX3_rateElement_218 : decode cX3_rateElement 218 = .ok (.iaload, 1) := by decide +kernel
theorem dX3_rateElement_219 : decode cX3_rateElement 219 = .ok (.invokestatic 122, 3) := by decide +kernel
theorem dX3_rateElement_222 : decode cX3_rateElement 222 = .ok (.istore 9, 2) := by decide +kernel
theorem dX3_rateElement_224 : decode cX3_rateElement 224 = .ok (.iinc 10 1, 3) := by decide +kernel
theorem dX3_rateElement_227 : decode cX3_rateElement 227 = .ok (.goto (-149), 3) := by decide +kernel
theorem dX3_rateElement_230 : decode cX3_rateElement 230 = .ok (.aload_n 0, 1) := by decide +kernel
theorem dX3_rateElement_231 : decode cX3_rateElement 231 = .ok (.aload_n 0, 1) := by decide +kernel
theorem dX3_rateElement_232 : decode cX3_rateElement 232 = .ok (.getfield 55, 3) := by decide +kernel
theorem dX3_rateElement_235 : decode cX3_rateElement 235 = .ok (.ifCond .ne 19, 3) := by decide +kernel
theorem dX3_rateElement_238 : decode cX3_rateElement 238 = .ok (.iload 5, 2) := by decide +kernel
theorem dX3_rateElement_240 : decode cX3_rateElement 240 = .ok (.iconst 3, 1) := by decide +kernel
theorem dX3_rateElement_241 : decode cX3_rateElement 241 = .ok (.if_icmp .ne 17, 3) := by decide +kernel
theorem dX3_rateElement_244 : decode cX3_rateElement 244 = .ok (.iload 6, 2) := by decide +kernel
theorem dX3_rateElement_246 : decode cX3_rateElement 246 = .ok (.ifCond .ne 12, 3) := by decide +kernel
theorem dX3_rateElement_249 : decode cX3_rateElement 249 = .ok (.iload 7, 2) := by decide +kernel
theorem dX3_rateElement_251 : decode cX3_rateElement 251 = .ok (.ifCond .ne 7, 3) := by decide +kernel
theorem dX3_rateElement_254 : decode cX3_rateElement 254 = .ok (.iconst 1, 1) := by decide +kernel
theorem dX3_rateElement_255 : decode cX3_rateElement 255 = .ok (.goto 4, 3) := by decide +kernel
theorem dX3_rateElement_258 : decode cX3_rateElement 258 = .ok (.iconst 0, 1) := by decide +kernel
theorem dX3_rateElement_259 : decode cX3_rateElement 259 = .ok (.putfield 55, 3) := by decide +kernel
theorem dX3_rateElement_262 : decode cX3_rateElement 262 = .ok (.iload 4, 2) := by decide +kernel
theorem dX3_rateElement_264 : decode cX3_rateElement 264 = .ok (.ifCond .ne 22, 3) := by decide +kernel
theorem dX3_rateElement_267 : decode cX3_rateElement 267 = .ok (.iload 6, 2) := by decide +kernel
theorem dX3_rateElement_269 : decode cX3_rateElement 269 = .ok (.ifCond .ne 17, 3) := by decide +kernel
theorem dX3_rateElement_272 : decode cX3_rateElement 272 = .ok (.iconst 2, 1) := by decide +kernel
theorem dX3_rateElement_273 : decode cX3_rateElement 273 = .ok (.iload_n 2, 1) := by decide +kernel
theorem dX3_rateElement_274 : decode cX3_rateElement 274 = .ok (.imul, 1) := by decide +kernel
theorem dX3_rateElement_275 : decode cX3_rateElement 275 = .ok (.aload_n 1, 1) := by decide +kernel
theorem dX3_rateElement_276 : decode cX3_rateElement 276 = .ok (.getfield 71, 3) := by decide +kernel
theorem dX3_rateElement_279 : decode cX3_rateElement 279 = .ok (.if_icmp .lt 7, 3) := by decide +kernel
theorem dX3_rateElement_282 : decode cX3_rateElement 282 = .ok (.iconst 1, 1) := by decide +kernel
theorem dX3_rateElement_283 : decode cX3_rateElement 283 = .ok (.goto 4, 3) := by decide +kernel
theorem dX3_rateElement_286 : decode cX3_rateElement 286 = .ok (.iconst 0, 1) := by decide +kernel
theorem dX3_rateElement_287 : decode cX3_rateElement 287 = .ok (.istore 10, 2) := by decide +kernel
theorem dX3_rateElement_289 : decode cX3_rateElement 289 = .ok (.aload_n 0, 1) := by decide +kernel
theorem dX3_rateElement_290 : decode cX3_rateElement 290 = .ok (.getfield 18, 3) := by decide +kernel
theorem dX3_rateElement_293 : decode cX3_rateElement 293 = .ok (.iload_n 2, 1) := by decide +kernel
theorem dX3_rateElement_294 : decode cX3_rateElement 294 = .ok (.iload 10, 2) := by decide +kernel
theorem dX3_rateElement_296 : decode cX3_rateElement 296 = .ok (.ifCond .eq 17, 3) := by decide +kernel
theorem dX3_rateElement_299 : decode cX3_rateElement 299 = .ok (.iload 8, 2) := by decide +kernel
theorem dX3_rateElement_301 : decode cX3_rateElement 301 = .ok (.bipush 100, 2) := by decide +kernel
theorem dX3_rateElement_303 : decode cX3_rateElement 303 = .ok (.aload_n 3, 1) := by decide +kernel
theorem dX3_rateElement_304 : decode cX3_rateElement 304 = .ok (.iconst 4, 1) := by decide +kernel
theorem dX3_rateElement_305 : decode cX3_rateElement 305 = .ok (.iaload, 1) := by decide +kernel
theorem dX3_rateElement_306 : decode cX3_rateElement 306 = .ok (.iadd, 1) := by decide +kernel
theorem dX3_rateElement_307 : decode cX3_rateElement 307 = .ok (.invokestatic 89, 3) := by decide +kernel
theorem dX3_rateElement_310 : decode cX3_rateElement 310 = .ok (.goto 5, 3) := by decide +kernel
theorem dX3_rateElement_313 : decode cX3_rateElement 313 = .ok (.iload 8, 2) := by decide +kernel
theorem dX3_rateElement_315 : decode cX3_rateElement 315 = .ok (.iastore, 1) := by decide +kernel
theorem dX3_rateElement_316 : decode cX3_rateElement 316 = .ok (.aload_n 0, 1) := by decide +kernel
theorem dX3_rateElement_317 : decode cX3_rateElement 317 = .ok (.getfield 27, 3) := by decide +kernel
theorem dX3_rateElement_320 : decode cX3_rateElement 320 = .ok (.iload_n 2, 1) := by decide +kernel
theorem dX3_rateElement_321 : decode cX3_rateElement 321 = .ok (.iload 10, 2) := by decide +kernel
theorem dX3_rateElement_323 : decode cX3_rateElement 323 = .ok (.ifCond .eq 7, 3) := by decide +kernel
theorem dX3_rateElement_326 : decode cX3_rateElement 326 = .ok (.iconst 1, 1) := by decide +kernel
theorem dX3_rateElement_327 : decode cX3_rateElement 327 = .ok (.goto 4, 3) := by decide +kernel
theorem dX3_rateElement_330 : decode cX3_rateElement 330 = .ok (.iconst 0, 1) := by decide +kernel
theorem dX3_rateElement_331 : decode cX3_rateElement 331 = .ok (.iastore, 1) := by decide +kernel
theorem dX3_rateElement_332 : decode cX3_rateElement 332 = .ok (.aload_n 0, 1) := by decide +kernel
theorem dX3_rateElement_333 : decode cX3_rateElement 333 = .ok (.getfield 21, 3) := by decide +kernel
theorem dX3_rateElement_336 : decode cX3_rateElement 336 = .ok (.iload_n 2, 1) := by decide +kernel
theorem dX3_rateElement_337 : decode cX3_rateElement 337 = .ok (.iload 9, 2) := by decide +kernel
theorem dX3_rateElement_339 : decode cX3_rateElement 339 = .ok (.iastore, 1) := by decide +kernel
theorem dX3_rateElement_340 : decode cX3_rateElement 340 = .ok (.aload_n 0, 1) := by decide +kernel
theorem dX3_rateElement_341 : decode cX3_rateElement 341 = .ok (.getfield 24, 3) := by decide +kernel
theorem dX3_rateElement_344 : decode cX3_rateElement 344 = .ok (.iload_n 2, 1) := by decide +kernel
theorem dX3_rateElement_345 : decode cX3_rateElement 345 = .ok (.aload_n 1, 1) := by decide +kernel
theorem dX3_rateElement_346 : decode cX3_rateElement 346 = .ok (.getfield 127, 3) := by decide +kernel
theorem dX3_rateElement_349 : decode cX3_rateElement 349 = .ok (.iload_n 2, 1) := by decide +kernel
theorem dX3_rateElement_350 : decode cX3_rateElement 350 = .ok (.iaload, 1) := by decide +kernel
theorem dX3_rateElement_351 : decode cX3_rateElement 351 = .ok (.iload 9, 2) := by decide +kernel
theorem dX3_rateElement_353 : decode cX3_rateElement 353 = .ok (.invokestatic 130, 3) := by decide +kernel
theorem dX3_rateElement_356 : decode cX3_rateElement 356 = .ok (.iastore, 1) := by decide +kernel
theorem dX3_rateElement_357 : decode cX3_rateElement 357 = .ok (.return_, 1) := by decide +kernel
theorem dX3_countsTooMany_0 : decode cX3_countsTooMany 0 = .ok (.iload_n 1, 1) := by decide +kernel
theorem dX3_countsTooMany_1 : decode cX3_countsTooMany 1 = .ok (.ifCond .ne 29, 3) := by decide +kernel
theorem dX3_countsTooMany_4 : decode cX3_countsTooMany 4 = .ok (.aload_n 0, 1) := by decide +kernel
theorem dX3_countsTooMany_5 : decode cX3_countsTooMany 5 = .ok (.dup, 1) := by decide +kernel
theorem dX3_countsTooMany_6 : decode cX3_countsTooMany 6 = .ok (.getfield 42, 3) := by decide +kernel
theorem dX3_countsTooMany_9 : decode cX3_countsTooMany 9 = .ok (.iconst 1, 1) := by decide +kernel
theorem dX3_countsTooMany_10 : decode cX3_countsTooMany 10 = .ok (.iadd, 1) := by decide +kernel
theorem dX3_countsTooMany_11 : decode cX3_countsTooMany 11 = .ok (.putfield 42, 3) := by decide +kernel
theorem dX3_countsTooMany_14 : decode cX3_countsTooMany 14 = .ok (.aload_n 0, 1) := by decide +kernel
theorem dX3_countsTooMany_15 : decode cX3_countsTooMany 15 = .ok (.getfield 42, 3) := by decide +kernel
theorem dX3_countsTooMany_18 : decode cX3_countsTooMany 18 = .ok (.aload_n 2, 1) := by decide +kernel
theorem dX3_countsTooMany_19 : decode cX3_countsTooMany 19 = .ok (.iconst 2, 1) := by decide +kernel
theorem dX3_countsTooMany_20 : decode cX3_countsTooMany 20 = .ok (.iaload, 1) := by decide +kernel
theorem dX3_countsTooMany_21 : decode cX3_countsTooMany 21 = .ok (.if_icmp .le 7, 3) := by decide +kernel
theorem dX3_countsTooMany_24 : decode cX3_countsTooMany 24 = .ok (.iconst 1, 1) := by decide +kernel
theorem dX3_countsTooMany_25 : decode cX3_countsTooMany 25 = .ok (.goto 4, 3) := by decide +kernel
theorem dX3_countsTooMany_28 : decode cX3_countsTooMany 28 = .ok (.iconst 0, 1) := by decide +kernel
theorem dX3_countsTooMany_29 : decode cX3_countsTooMany 29 = .ok (.ireturn, 1) := by decide +kernel
theorem dX3_countsTooMany_30 : decode cX3_countsTooMany 30 = .ok (.iload_n 1, 1) := by decide +kernel
theorem dX3_countsTooMany_31 : decode cX3_countsTooMany 31 = .ok (.iconst 1, 1) := by decide +kernel
theorem dX3_countsTooMany_32 : decode cX3_countsTooMany 32 = .ok (.if_icmp .ne 29, 3) := by decide +kernel
theorem dX3_countsTooMany_35 : decode cX3_countsTooMany 35 = .ok (.aload_n 0, 1) := by decide +kernel
theorem dX3_countsTooMany_36 : decode cX3_countsTooMany 36 = .ok (.dup, 1) := by decide +kernel
theorem dX3_countsTooMany_37 : decode cX3_countsTooMany 37 = .ok (.getfield 46, 3) := by decide +kernel
theorem dX3_countsTooMany_40 : decode cX3_countsTooMany 40 = .ok (.iconst 1, 1) := by decide +kernel
theorem dX3_countsTooMany_41 : decode cX3_countsTooMany 41 = .ok (.iadd, 1) := by decide +kernel
theorem dX3_countsTooMany_42 : decode cX3_countsTooMany 42 = .ok (.putfield 46, 3) := by decide +kernel
theorem dX3_countsTooMany_45 : decode cX3_countsTooMany 45 = .ok (.aload_n 0, 1) := by decide +kernel
theorem dX3_countsTooMany_46 : decode cX3_countsTooMany 46 = .ok (.getfield 46, 3) := by decide +kernel
theorem dX3_countsTooMany_49 : decode cX3_countsTooMany 49 = .ok (.aload_n 2, 1) := by decide +kernel
theorem dX3_countsTooMany_50 : decode cX3_countsTooMany 50 = .ok (.iconst 3, 1) := by decide +kernel
theorem dX3_countsTooMany_51 : decode cX3_countsTooMany 51 = .ok (.iaload, 1) := by decide +kernel
theorem dX3_countsTooMany_52 : decode cX3_countsTooMany 52 = .ok (.if_icmp .le 7, 3) := by decide +kernel
theorem dX3_countsTooMany_55 : decode cX3_countsTooMany 55 = .ok (.iconst 1, 1) := by decide +kernel
theorem dX3_countsTooMany_56 : decode cX3_countsTooMany 56 = .ok (.goto 4, 3) := by decide +kernel
theorem dX3_countsTooMany_59 : decode cX3_countsTooMany 59 = .ok (.iconst 0, 1) := by decide +kernel
theorem dX3_countsTooMany_60 : decode cX3_countsTooMany 60 = .ok (.ireturn, 1) := by decide +kernel
theorem dX3_countsTooMany_61 : decode cX3_countsTooMany 61 = .ok (.aload_n 0, 1) := by decide +kernel
theorem dX3_countsTooMany_62 : decode cX3_countsTooMany 62 = .ok (.dup, 1) := by decide +kernel
theorem dX3_countsTooMany_63 : decode cX3_countsTooMany 63 = .ok (.getfield 49, 3) := by decide +kernel
theorem dX3_countsTooMany_66 : decode cX3_countsTooMany 66 = .ok (.iconst 1, 1) := by decide +kernel
theorem dX3_countsTooMany_67 : decode cX3_countsTooMany 67 = .ok (.iadd, 1) := by decide +kernel
theorem dX3_countsTooMany_68 : decode cX3_countsTooMany 68 = .ok (.putfield 49, 3) := by decide +kernel
theorem dX3_countsTooMany_71 : decode cX3_countsTooMany 71 = .ok (.aload_n 0, 1) := by decide +kernel
theorem dX3_countsTooMany_72 : decode cX3_countsTooMany 72 = .ok (.getfield 49, 3) := by decide +kernel
theorem dX3_countsTooMany_75 : decode cX3_countsTooMany 75 = .ok (.iconst 1, 1) := by decide +kernel
theorem dX3_countsTooMany_76 : decode cX3_countsTooMany 76 = .ok (.if_icmp .le 7, 3) := by decide +kernel
theorem dX3_countsTooMany_79 : decode cX3_countsTooMany 79 = .ok (.iconst 1, 1) := by decide +kernel
theorem dX3_countsTooMany_80 : decode cX3_countsTooMany 80 = .ok (.goto 4, 3) := by decide +kernel
theorem dX3_countsTooMany_83 : decode cX3_countsTooMany 83 = .ok (.iconst 0, 1) := by decide +kernel
theorem dX3_countsTooMany_84 : decode cX3_countsTooMany 84 = .ok (.ireturn, 1) := by decide +kernel
theorem dX3_reasonOf_0 : decode cX3_reasonOf 0 = .ok (.iload 4, 2) := by decide +kernel
theorem dX3_reasonOf_2 : decode cX3_reasonOf 2 = .ok (.ifCond .eq 5, 3) := by decide +kernel
theorem dX3_reasonOf_5 : decode cX3_reasonOf 5 = .ok (.iconst 5, 1) := by decide +kernel
theorem dX3_reasonOf_6 : decode cX3_reasonOf 6 = .ok (.ireturn, 1) := by decide +kernel
theorem dX3_reasonOf_7 : decode cX3_reasonOf 7 = .ok (.iload 5, 2) := by decide +kernel
theorem dX3_reasonOf_9 : decode cX3_reasonOf 9 = .ok (.ifCond .eq 9, 3) := by decide +kernel
theorem dX3_reasonOf_12 : decode cX3_reasonOf 12 = .ok (.iload_n 3, 1) := by decide +kernel
theorem dX3_reasonOf_13 : decode cX3_reasonOf 13 = .ok (.ifCond .le 5, 3) := by decide +kernel
theorem dX3_reasonOf_16 : decode cX3_reasonOf 16 = .ok (.iconst 3, 1) := by decide +kernel
theorem dX3_reasonOf_17 : decode cX3_reasonOf 17 = .ok (.ireturn, 1) := by decide +kernel
theorem dX3_reasonOf_18 : decode cX3_reasonOf 18 = .ok (.aload_n 0, 1) := by decide +kernel
theorem dX3_reasonOf_19 : decode cX3_reasonOf 19 = .ok (.getfield 55, 3) := by decide +kernel
theorem dX3_reasonOf_22 : decode cX3_reasonOf 22 = .ok (.ifCond .eq 10, 3) := by decide +kernel
theorem dX3_reasonOf_25 : decode cX3_reasonOf 25 = .ok (.iload_n 3, 1) := by decide +kernel
theorem dX3_reasonOf_26 : decode cX3_reasonOf 26 = .ok (.iconst 2, 1) := by decide +kernel
theorem dX3_reasonOf_27 : decode cX3_reasonOf 27 = .ok (.if_icmp .ne 5, 3) := by decide +kernel
theorem dX3_reasonOf_30 : decode cX3_reasonOf 30 = .ok (.iconst 4, 1) := by decide +kernel
theorem dX3_reasonOf_31 : decode cX3_reasonOf 31 = .ok (.ireturn, 1) := by decide +kernel
theorem dX3_reasonOf_32 : decode cX3_reasonOf 32 = .ok (.aload_n 1, 1) := by decide +kernel
theorem dX3_reasonOf_33 : decode cX3_reasonOf 33 = .ok (.getfield 95, 3) := by decide +kernel
theorem dX3_reasonOf_36 : decode cX3_reasonOf 36 = .ok (.iload_n 2, 1) := by decide +kernel
theorem dX3_reasonOf_37 : decode cX3_reasonOf 37 = .ok (.iaload, 1) := by decide +kernel
theorem dX3_reasonOf_38 : decode cX3_reasonOf 38 = .ok (.ifCond .eq 5, 3) := by decide +kernel
theorem dX3_reasonOf_41 : decode cX3_reasonOf 41 = .ok (.iconst 0, 1) := by decide +kernel
theorem dX3_reasonOf_42 : decode cX3_reasonOf 42 = .ok (.ireturn, 1) := by decide +kernel
theorem dX3_reasonOf_43 : decode cX3_reasonOf 43 = .ok (.iconst 3, 1) := by decide +kernel
theorem dX3_reasonOf_44 : decode cX3_reasonOf 44 = .ok (.iload_n 2, 1) := by decide +kernel
theorem dX3_reasonOf_45 : decode cX3_reasonOf 45 = .ok (.imul, 1) := by decide +kernel
theorem dX3_reasonOf_46 : decode cX3_reasonOf 46 = .ok (.iload_n 3, 1) := by decide +kernel
theorem dX3_reasonOf_47 : decode cX3_reasonOf 47 = .ok (.iadd, 1) := by decide +kernel
theorem dX3_reasonOf_48 : decode cX3_reasonOf 48 = .ok (.istore 6, 2) := by decide +kernel
theorem dX3_reasonOf_50 : decode cX3_reasonOf 50 = .ok (.aload_n 0, 1) := by decide +kernel
theorem dX3_reasonOf_51 : decode cX3_reasonOf 51 = .ok (.aload_n 1, 1) := by decide +kernel
theorem dX3_reasonOf_52 : decode cX3_reasonOf 52 = .ok (.getfield 109, 3) := by decide +kernel
theorem dX3_reasonOf_55 : decode cX3_reasonOf 55 = .ok (.iload 6, 2) := by decide +kernel
theorem dX3_reasonOf_57 : decode cX3_reasonOf 57 = .ok (.iaload, 1) := by decide +kernel
theorem dX3_reasonOf_58 : decode cX3_reasonOf 58 = .ok (.aload_n 1, 1) := by decide +kernel
theorem dX3_reasonOf_59 : decode cX3_reasonOf 59 = .ok (.getfield 112, 3) := by decide +kernel
theorem dX3_reasonOf_62 : decode cX3_reasonOf 62 = .ok (.iload 6, 2) := by decide +kernel
theorem dX3_reasonOf_64 : decode cX3_reasonOf 64 = .ok (.iaload, 1) := by decide +kernel
theorem dX3_reasonOf_65 : decode cX3_reasonOf 65 = .ok (.aload_n 1, 1) := by decide +kernel
theorem dX3_reasonOf_66 : decode cX3_reasonOf 66 = .ok (.getfield 98, 3) := by decide +kernel
theorem dX3_reasonOf_69 : decode cX3_reasonOf 69 = .ok (.iload_n 2, 1) := by decide +kernel
theorem dX3_reasonOf_70 : decode cX3_reasonOf 70 = .ok (.iaload, 1) := by decide +kernel
theorem dX3_reasonOf_71 : decode cX3_reasonOf 71 = .ok (.iconst 1, 1) := by decide +kernel
theorem dX3_reasonOf_72 : decode cX3_reasonOf 72 = .ok (.if_icmp .ne 7, 3) := by decide +kernel
theorem dX3_reasonOf_75 : decode cX3_reasonOf 75 = .ok (.iconst 1, 1) := by decide +kernel
theorem dX3_reasonOf_76 : decode cX3_reasonOf 76 = .ok (.goto 4, 3) := by decide +kernel
theorem dX3_reasonOf_79 : decode cX3_reasonOf 79 = .ok (.iconst 0, 1) := by decide +kernel
theorem dX3_reasonOf_80 : decode cX3_reasonOf 80 = .ok (.invokevirtual 133, 3) := by decide +kernel
theorem dX3_reasonOf_83 : decode cX3_reasonOf 83 = .ok (.ireturn, 1) := by decide +kernel
theorem dX3_repeatReason_0 : decode cX3_repeatReason 0 = .ok (.iconst 2, 1) := by decide +kernel
theorem dX3_repeatReason_1 : decode cX3_repeatReason 1 = .ok (.iload_n 1, 1) := by decide +kernel
theorem dX3_repeatReason_2 : decode cX3_repeatReason 2 = .ok (.imul, 1) := by decide +kernel
theorem dX3_repeatReason_3 : decode cX3_repeatReason 3 = .ok (.iload_n 2, 1) := by decide +kernel
theorem dX3_repeatReason_4 : decode cX3_repeatReason 4 = .ok (.iadd, 1) := by decide +kernel
theorem dX3_repeatReason_5 : decode cX3_repeatReason 5 = .ok (.iconst 3, 1) := by decide +kernel
theorem dX3_repeatReason_6 : decode cX3_repeatReason 6 = .ok (.isub, 1) := by decide +kernel
theorem dX3_repeatReason_7 : decode cX3_repeatReason 7 = .ok (.istore 4, 2) := by decide +kernel
theorem dX3_repeatReason_9 : decode cX3_repeatReason 9 = .ok (.iload_n 2, 1) := by decide +kernel
theorem dX3_repeatReason_10 : decode cX3_repeatReason 10 = .ok (.iconst 3, 1) := by decide +kernel
theorem dX3_repeatReason_11 : decode cX3_repeatReason 11 = .ok (.if_icmp .lt 15, 3) := by decide +kernel
theorem dX3_repeatReason_14 : decode cX3_repeatReason 14 = .ok (.iload 4, 2) := by decide +kernel
theorem dX3_repeatReason_16 : decode cX3_repeatReason 16 = .ok (.ifCond .lt 10, 3) := by decide +kernel
theorem dX3_repeatReason_19 : decode cX3_repeatReason 19 = .ok (.iload 4, 2) := by decide +kernel
theorem dX3_repeatReason_21 : decode cX3_repeatReason 21 = .ok (.bipush 12, 2) := by decide +kernel
theorem dX3_repeatReason_23 : decode cX3_repeatReason 23 = .ok (.if_icmp .lt 5, 3) := by decide +kernel
theorem dX3_repeatReason_26 : decode cX3_repeatReason 26 = .ok (.iconst 0, 1) := by decide +kernel
theorem dX3_repeatReason_27 : decode cX3_repeatReason 27 = .ok (.ireturn, 1) := by decide +kernel
theorem dX3_repeatReason_28 : decode cX3_repeatReason 28 = .ok (.aload_n 0, 1) := by decide +kernel
theorem dX3_repeatReason_29 : decode cX3_repeatReason 29 = .ok (.getfield 30, 3) := by decide +kernel
theorem dX3_repeatReason_32 : decode cX3_repeatReason 32 = .ok (.iload 4, 2) := by decide +kernel
theorem dX3_repeatReason_34 : decode cX3_repeatReason 34 = .ok (.iaload, 1) := by decide +kernel
theorem dX3_repeatReason_35 : decode cX3_repeatReason 35 = .ok (.istore 5, 2) := by decide +kernel
theorem dX3_repeatReason_37 : decode cX3_repeatReason 37 = .ok (.aload_n 0, 1) := by decide +kernel
theorem dX3_repeatReason_38 : decode cX3_repeatReason 38 = .ok (.getfield 30, 3) := by decide +kernel
theorem dX3_repeatReason_41 : decode cX3_repeatReason 41 = .ok (.iload 4, 2) := by decide +kernel
theorem dX3_repeatReason_43 : decode cX3_repeatReason 43 = .ok (.iload 5, 2) := by decide +kernel
theorem dX3_repeatReason_45 : decode cX3_repeatReason 45 = .ok (.iconst 1, 1) := by decide +kernel
theorem dX3_repeatReason_46 : decode cX3_repeatReason 46 = .ok (.iadd, 1) := by decide +kernel
theorem dX3_repeatReason_47 : decode cX3_repeatReason 47 = .ok (.iastore, 1) := by decide +kernel
theorem dX3_repeatReason_48 : decode cX3_repeatReason 48 = .ok (.iload 5, 2) := by decide +kernel
theorem dX3_repeatReason_50 : decode cX3_repeatReason 50 = .ok (.ifCond .ne 21, 3) := by decide +kernel
theorem dX3_repeatReason_53 : decode cX3_repeatReason 53 = .ok (.aload_n 0, 1) := by decide +kernel
theorem dX3_repeatReason_54 : decode cX3_repeatReason 54 = .ok (.getfield 33, 3) := by decide +kernel
theorem dX3_repeatReason_57 : decode cX3_repeatReason 57 = .ok (.iload 4, 2) := by decide +kernel
theorem dX3_repeatReason_59 : decode cX3_repeatReason 59 = .ok (.iload_n 3, 1) := by decide +kernel
theorem dX3_repeatReason_60 : decode cX3_repeatReason 60 = .ok (.ifCond .eq 7, 3) := by decide +kernel
theorem dX3_repeatReason_63 : decode cX3_repeatReason 63 = .ok (.iconst 1, 1) := by decide +kernel
theorem dX3_repeatReason_64 : decode cX3_repeatReason 64 = .ok (.goto 4, 3) := by decide +kernel
theorem dX3_repeatReason_67 : decode cX3_repeatReason 67 = .ok (.iconst 0, 1) := by decide +kernel
theorem dX3_repeatReason_68 : decode cX3_repeatReason 68 = .ok (.iastore, 1) := by decide +kernel
theorem dX3_repeatReason_69 : decode cX3_repeatReason 69 = .ok (.iconst 0, 1) := by decide +kernel
theorem dX3_repeatReason_70 : decode cX3_repeatReason 70 = .ok (.ireturn, 1) := by decide +kernel
theorem dX3_repeatReason_71 : decode cX3_repeatReason 71 = .ok (.iload 5, 2) := by decide +kernel
theorem dX3_repeatReason_73 : decode cX3_repeatReason 73 = .ok (.iconst 1, 1) := by decide +kernel
theorem dX3_repeatReason_74 : decode cX3_repeatReason 74 = .ok (.if_icmp .le 5, 3) := by decide +kernel
theorem dX3_repeatReason_77 : decode cX3_repeatReason 77 = .ok (.iconst 2, 1) := by decide +kernel
theorem dX3_repeatReason_78 : decode cX3_repeatReason 78 = .ok (.ireturn, 1) := by decide +kernel
theorem dX3_repeatReason_79 : decode cX3_repeatReason 79 = .ok (.iload_n 3, 1) := by decide +kernel
theorem dX3_repeatReason_80 : decode cX3_repeatReason 80 = .ok (.ifCond .eq 18, 3) := by decide +kernel
theorem dX3_repeatReason_83 : decode cX3_repeatReason 83 = .ok (.aload_n 0, 1) := by decide +kernel
theorem dX3_repeatReason_84 : decode cX3_repeatReason 84 = .ok (.getfield 33, 3) := by decide +kernel
theorem dX3_repeatReason_87 : decode cX3_repeatReason 87 = .ok (.iload 4, 2) := by decide +kernel
theorem dX3_repeatReason_89 : decode cX3_repeatReason 89 = .ok (.iaload, 1) := by decide +kernel
theorem dX3_repeatReason_90 : decode cX3_repeatReason 90 = .ok (.iconst 1, 1) := by decide +kernel
theorem dX3_repeatReason_91 : decode cX3_repeatReason 91 = .ok (.if_icmp .ne 7, 3) := by decide +kernel
theorem dX3_repeatReason_94 : decode cX3_repeatReason 94 = .ok (.iconst 1, 1) := by decide +kernel
theorem dX3_repeatReason_95 : decode cX3_repeatReason 95 = .ok (.goto 4, 3) := by decide +kernel
theorem dX3_repeatReason_98 : decode cX3_repeatReason 98 = .ok (.iconst 0, 1) := by decide +kernel
theorem dX3_repeatReason_99 : decode cX3_repeatReason 99 = .ok (.ireturn, 1) := by decide +kernel
theorem dX3_partWorth_0 : decode cX3_partWorth 0 = .ok (.iload_n 0, 1) := by decide +kernel
theorem dX3_partWorth_1 : decode cX3_partWorth 1 = .ok (.iconst 1, 1) := by decide +kernel
theorem dX3_partWorth_2 : decode cX3_partWorth 2 = .ok (.if_icmp .ne 11, 3) := by decide +kernel
theorem dX3_partWorth_5 : decode cX3_partWorth 5 = .ok (.getstatic 137, 3) := by decide +kernel
theorem dX3_partWorth_8 : decode cX3_partWorth 8 = .ok (.iload_n 2, 1) := by decide +kernel
theorem dX3_partWorth_9 : decode cX3_partWorth 9 = .ok (.invokestatic 140, 3) := by decide +kernel
theorem dX3_partWorth_12 : decode cX3_partWorth 12 = .ok (.ireturn, 1) := by decide +kernel
theorem dX3_partWorth_13 : decode cX3_partWorth 13 = .ok (.iload_n 0, 1) := by decide +kernel
theorem dX3_partWorth_14 : decode cX3_partWorth 14 = .ok (.iconst 2, 1) := by decide +kernel
theorem dX3_partWorth_15 : decode cX3_partWorth 15 = .ok (.if_icmp .ne 11, 3) := by decide +kernel
theorem dX3_partWorth_18 : decode cX3_partWorth 18 = .ok (.getstatic 144, 3) := by decide +kernel
theorem dX3_partWorth_21 : decode cX3_partWorth 21 = .ok (.iload_n 2, 1) := by decide +kernel
theorem dX3_partWorth_22 : decode cX3_partWorth 22 = .ok (.invokestatic 140, 3) := by decide +kernel
theorem dX3_partWorth_25 : decode cX3_partWorth 25 = .ok (.ireturn, 1) := by decide +kernel
theorem dX3_partWorth_26 : decode cX3_partWorth 26 = .ok (.iload_n 3, 1) := by decide +kernel
theorem dX3_partWorth_27 : decode cX3_partWorth 27 = .ok (.iconst 2, 1) := by decide +kernel
theorem dX3_partWorth_28 : decode cX3_partWorth 28 = .ok (.if_icmp .ne 9, 3) := by decide +kernel
theorem dX3_partWorth_31 : decode cX3_partWorth 31 = .ok (.iload_n 2, 1) := by decide +kernel
theorem dX3_partWorth_32 : decode cX3_partWorth 32 = .ok (.iconst 1, 1) := by decide +kernel
theorem dX3_partWorth_33 : decode cX3_partWorth 33 = .ok (.isub, 1) := by decide +kernel
theorem dX3_partWorth_34 : decode cX3_partWorth 34 = .ok (.goto 4, 3) := by decide +kernel
theorem dX3_partWorth_37 : decode cX3_partWorth 37 = .ok (.iload_n 2, 1) := by decide +kernel
theorem dX3_partWorth_38 : decode cX3_partWorth 38 = .ok (.istore 4, 2) := by decide +kernel
theorem dX3_partWorth_40 : decode cX3_partWorth 40 = .ok (.iload 4, 2) := by decide +kernel
theorem dX3_partWorth_42 : decode cX3_partWorth 42 = .ok (.iconst 1, 1) := by decide +kernel
theorem dX3_partWorth_43 : decode cX3_partWorth 43 = .ok (.if_icmp .ge 7, 3) := by decide +kernel
theorem dX3_partWorth_46 : decode cX3_partWorth 46 = .ok (.iconst 0, 1) := by decide +kernel
theorem dX3_partWorth_47 : decode cX3_partWorth 47 = .ok (.goto 17, 3) := by decide +kernel
theorem dX3_partWorth_50 : decode cX3_partWorth 50 = .ok (.getstatic 147, 3) := by decide +kernel
theorem dX3_partWorth_53 : decode cX3_partWorth 53 = .ok (.iconst 4, 1) := by decide +kernel
theorem dX3_partWorth_54 : decode cX3_partWorth 54 = .ok (.iload_n 1, 1) := by decide +kernel
theorem dX3_partWorth_55 : decode cX3_partWorth 55 = .ok (.imul, 1) := by decide +kernel
theorem dX3_partWorth_56 : decode cX3_partWorth 56 = .ok (.iload 4, 2) := by decide +kernel
theorem dX3_partWorth_58 : decode cX3_partWorth 58 = .ok (.iadd, 1) := by decide +kernel
theorem dX3_partWorth_59 : decode cX3_partWorth 59 = .ok (.iconst 1, 1) := by decide +kernel
theorem dX3_partWorth_60 : decode cX3_partWorth 60 = .ok (.isub, 1) := by decide +kernel
theorem dX3_partWorth_61 : decode cX3_partWorth 61 = .ok (.invokestatic 140, 3) := by decide +kernel
theorem dX3_partWorth_64 : decode cX3_partWorth 64 = .ok (.istore 5, 2) := by decide +kernel
theorem dX3_partWorth_66 : decode cX3_partWorth 66 = .ok (.iload_n 3, 1) := by decide +kernel
theorem dX3_partWorth_67 : decode cX3_partWorth 67 = .ok (.iconst 1, 1) := by decide +kernel
theorem dX3_partWorth_68 : decode cX3_partWorth 68 = .ok (.if_icmp .eq 8, 3) := by decide +kernel
theorem dX3_partWorth_71 : decode cX3_partWorth 71 = .ok (.iload_n 3, 1) := by decide +kernel
theorem dX3_partWorth_72 : decode cX3_partWorth 72 = .ok (.iconst 3, 1) := by decide +kernel
theorem dX3_partWorth_73 : decode cX3_partWorth 73 = .ok (.if_icmp .ne 13, 3) := by decide +kernel
theorem dX3_partWorth_76 : decode cX3_partWorth 76 = .ok (.iload 5, 2) := by decide +kernel
theorem dX3_partWorth_78 : decode cX3_partWorth 78 = .ok (.bipush 80, 2) := by decide +kernel
theorem dX3_partWorth_80 : decode cX3_partWorth 80 = .ok (.invokestatic 89, 3) := by decide +kernel
theorem dX3_partWorth_83 : decode cX3_partWorth 83 = .ok (.goto 5, 3) := by decide +kernel
theorem dX3_partWorth_86 : decode cX3_partWorth 86 = .ok (.iload 5, 2) := by decide +kernel
theorem dX3_partWorth_88 : decode cX3_partWorth 88 = .ok (.ireturn, 1) := by decide +kernel
theorem dX3_worthAt_0 : decode cX3_worthAt 0 = .ok (.iload_n 1, 1) := by decide +kernel
theorem dX3_worthAt_1 : decode cX3_worthAt 1 = .ok (.ifCond .lt 15, 3) := by decide +kernel
theorem dX3_worthAt_4 : decode cX3_worthAt 4 = .ok (.iload_n 1, 1) := by decide +kernel
theorem dX3_worthAt_5 : decode cX3_worthAt 5 = .ok (.aload_n 0, 1) := by decide +kernel
theorem dX3_worthAt_6 : decode cX3_worthAt 6 = .ok (.arraylength, 1) := by decide +kernel
theorem dX3_worthAt_7 : decode cX3_worthAt 7 = .ok (.if_icmp .ge 9, 3) := by decide +kernel
theorem dX3_worthAt_10 : decode cX3_worthAt 10 = .ok (.aload_n 0, 1) := by decide +kernel
theorem dX3_worthAt_11 : decode cX3_worthAt 11 = .ok (.iload_n 1, 1) := by decide +kernel
theorem dX3_worthAt_12 : decode cX3_worthAt 12 = .ok (.iaload, 1) := by decide +kernel
theorem dX3_worthAt_13 : decode cX3_worthAt 13 = .ok (.goto 4, 3) := by decide +kernel
theorem dX3_worthAt_16 : decode cX3_worthAt 16 = .ok (.iconst 0, 1) := by decide +kernel
theorem dX3_worthAt_17 : decode cX3_worthAt 17 = .ok (.ireturn, 1) := by decide +kernel
theorem dX3_percent_0 : decode cX3_percent 0 = .ok (.iload_n 0, 1) := by decide +kernel
theorem dX3_percent_1 : decode cX3_percent 1 = .ok (.iload_n 1, 1) := by decide +kernel
theorem dX3_percent_2 : decode cX3_percent 2 = .ok (.imul, 1) := by decide +kernel
theorem dX3_percent_3 : decode cX3_percent 3 = .ok (.bipush 50, 2) := by decide +kernel
theorem dX3_percent_5 : decode cX3_percent 5 = .ok (.iadd, 1) := by decide +kernel
theorem dX3_percent_6 : decode cX3_percent 6 = .ok (.bipush 100, 2) := by decide +kernel
theorem dX3_percent_8 : decode cX3_percent 8 = .ok (.idiv, 1) := by decide +kernel
theorem dX3_percent_9 : decode cX3_percent 9 = .ok (.ireturn, 1) := by decide +kernel
theorem dX3_gradeOf_0 : decode cX3_gradeOf 0 = .ok (.iload_n 0, 1) := by decide +kernel
theorem dX3_gradeOf_1 : decode cX3_gradeOf 1 = .ok (.invokestatic 150, 3) := by decide +kernel
theorem dX3_gradeOf_4 : decode cX3_gradeOf 4 = .ok (.iload_n 1, 1) := by decide +kernel
theorem dX3_gradeOf_5 : decode cX3_gradeOf 5 = .ok (.imul, 1) := by decide +kernel
theorem dX3_gradeOf_6 : decode cX3_gradeOf 6 = .ok (.bipush 15, 2) := by decide +kernel
theorem dX3_gradeOf_8 : decode cX3_gradeOf 8 = .ok (.iadd, 1) := by decide +kernel
theorem dX3_gradeOf_9 : decode cX3_gradeOf 9 = .ok (.bipush 30, 2) := by decide +kernel
theorem dX3_gradeOf_11 : decode cX3_gradeOf 11 = .ok (.idiv, 1) := by decide +kernel
theorem dX3_gradeOf_12 : decode cX3_gradeOf 12 = .ok (.istore_n 2, 1) := by decide +kernel
theorem dX3_gradeOf_13 : decode cX3_gradeOf 13 = .ok (.iload_n 0, 1) := by decide +kernel
theorem dX3_gradeOf_14 : decode cX3_gradeOf 14 = .ok (.ifCond .ge 8, 3) := by decide +kernel
theorem dX3_gradeOf_17 : decode cX3_gradeOf 17 = .ok (.iload_n 2, 1) := by decide +kernel
theorem dX3_gradeOf_18 : decode cX3_gradeOf 18 = .ok (.ineg, 1) := by decide +kernel
theorem dX3_gradeOf_19 : decode cX3_gradeOf 19 = .ok (.goto 4, 3) := by decide +kernel
theorem dX3_gradeOf_22 : decode cX3_gradeOf 22 = .ok (.iload_n 2, 1) := by decide +kernel
theorem dX3_gradeOf_23 : decode cX3_gradeOf 23 = .ok (.ireturn, 1) := by decide +kernel
theorem dX4_init_0 : decode cX4_init 0 = .ok (.aload_n 0, 1) := by decide +kernel
theorem dX4_init_1 : decode cX4_init 1 = .ok (.invokespecial 3, 3) := by decide +kernel
theorem dX4_init_4 : decode cX4_init 4 = .ok (.aload_n 0, 1) := by decide +kernel
theorem dX4_init_5 : decode cX4_init 5 = .ok (.iconst 4, 1) := by decide +kernel
theorem dX4_init_6 : decode cX4_init 6 = .ok (.newarray .int, 2) := by decide +kernel
theorem dX4_init_8 : decode cX4_init 8 = .ok (.putfield 9, 3) := by decide +kernel
theorem dX4_init_11 : decode cX4_init 11 = .ok (.aload_n 0, 1) := by decide +kernel
theorem dX4_init_12 : decode cX4_init 12 = .ok (.iconst 4, 1) := by decide +kernel
theorem dX4_init_13 : decode cX4_init 13 = .ok (.newarray .int, 2) := by decide +kernel
theorem dX4_init_15 : decode cX4_init 15 = .ok (.putfield 15, 3) := by decide +kernel
theorem dX4_init_18 : decode cX4_init 18 = .ok (.return_, 1) := by decide +kernel
theorem dX4_rank_0 : decode cX4_rank 0 = .ok (.aload_n 0, 1) := by decide +kernel
theorem dX4_rank_1 : decode cX4_rank 1 = .ok (.aload_n 1, 1) := by decide +kernel
theorem dX4_rank_2 : decode cX4_rank 2 = .ok (.getfield 18, 3) := by decide +kernel
theorem dX4_rank_5 : decode cX4_rank 5 = .ok (.putfield 24, 3) := by decide +kernel
theorem dX4_rank_8 : decode cX4_rank 8 = .ok (.iconst 0, 1) := by decide +kernel
theorem dX4_rank_9 : decode cX4_rank 9 = .ok (.istore_n 3, 1) := by decide +kernel
theorem dX4_rank_10 : decode cX4_rank 10 = .ok (.iload_n 3, 1) := by decide +kernel
theorem dX4_rank_11 : decode cX4_rank 11 = .ok (.aload_n 0, 1) := by decide +kernel
theorem dX4_rank_12 : decode cX4_rank 12 = .ok (.getfield 24, 3) := by decide +kernel
theorem dX4_rank_15 : decode cX4_rank 15 = .ok (.if_icmp .ge 43, 3) := by decide +kernel
theorem dX4_rank_18 : decode cX4_rank 18 = .ok (.aload_n 2, 1) := by decide +kernel
theorem dX4_rank_19 : decode cX4_rank 19 = .ok (.aload_n 1, 1) := by decide +kernel
theorem dX4_rank_20 : decode cX4_rank 20 = .ok (.getfield 25, 3) := by decide +kernel
theorem dX4_rank_23 : decode cX4_rank 23 = .ok (.iload_n 3, 1) := by decide +kernel
theorem dX4_rank_24 : decode cX4_rank 24 = .ok (.aaload, 1) := by decide +kernel
theorem dX4_rank_25 : decode cX4_rank 25 = .ok (.aload_n 1, 1) := by decide +kernel
theorem dX4_rank_26 : decode cX4_rank 26 = .ok (.getfield 29, 3) := by decide +kernel
theorem dX4_rank_29 : decode cX4_rank 29 = .ok (.invokevirtual 32, 3) := by decide +kernel
theorem dX4_rank_32 : decode cX4_rank 32 = .ok (.aload_n 0, 1) := by decide +kernel
theorem dX4_rank_33 : decode cX4_rank 33 = .ok (.getfield 9, 3) := by decide +kernel
theorem dX4_rank_36 : decode cX4_rank 36 = .ok (.iload_n 3, 1) := by decide +kernel
theorem dX4_rank_37 : decode cX4_rank 37 = .ok (.aload_n 2, 1) := by decide +kernel
theorem dX4_rank_38 : decode cX4_rank 38 = .ok (.invokevirtual 38, 3) := by decide +kernel
theorem dX4_rank_41 : decode cX4_rank 41 = .ok (.iastore, 1) := by decide +kernel
theorem dX4_rank_42 : decode cX4_rank 42 = .ok (.aload_n 0, 1) := by decide +kernel
theorem dX4_rank_43 : decode cX4_rank 43 = .ok (.getfield 15, 3) := by decide +kernel
theorem dX4_rank_46 : decode cX4_rank 46 = .ok (.iload_n 3, 1) := by decide +kernel
theorem dX4_rank_47 : decode cX4_rank 47 = .ok (.aload_n 2, 1) := by decide +kernel
theorem dX4_rank_48 : decode cX4_rank 48 = .ok (.getfield 42, 3) := by decide +kernel
theorem dX4_rank_51 : decode cX4_rank 51 = .ok (.iastore, 1) := by decide +kernel
theorem dX4_rank_52 : decode cX4_rank 52 = .ok (.iinc 3 1, 3) := by decide +kernel
theorem dX4_rank_55 : decode cX4_rank 55 = .ok (.goto (-45), 3) := by decide +kernel
theorem dX4_rank_58 : decode cX4_rank 58 = .ok (.return_, 1) := by decide +kernel
theorem dX4_isAhead_0 : decode cX4_isAhead 0 = .ok (.aload_n 0, 1) := by decide +kernel
theorem dX4_isAhead_1 : decode cX4_isAhead 1 = .ok (.getfield 9, 3) := by decide +kernel
theorem dX4_isAhead_4 : decode cX4_isAhead 4 = .ok (.iload_n 1, 1) := by decide +kernel
theorem dX4_isAhead_5 : decode cX4_isAhead 5 = .ok (.iaload, 1) := by decide +kernel
theorem dX4_isAhead_6 : decode cX4_isAhead 6 = .ok (.aload_n 0, 1) := by decide +kernel
theorem dX4_isAhead_7 : decode cX4_isAhead 7 = .ok (.getfield 9, 3) := by decide +kernel
theorem dX4_isAhead_10 : decode cX4_isAhead 10 = .ok (.iload_n 2, 1) := by decide +kernel
theorem dX4_isAhead_11 : decode cX4_isAhead 11 = .ok (.iaload, 1) := by decide +kernel
theorem dX4_isAhead_12 : decode cX4_isAhead 12 = .ok (.if_icmp .eq 24, 3) := by decide +kernel
theorem dX4_isAhead_15 : decode cX4_isAhead 15 = .ok (.aload_n 0, 1) := by decide +kernel
theorem dX4_isAhead_16 : decode cX4_isAhead 16 = .ok (.getfield 9, 3) := by decide +kernel
theorem dX4_isAhead_19 : decode cX4_isAhead 19 = .ok (.iload_n 1, 1) := by decide +kernel
theorem dX4_isAhead_20 : decode cX4_isAhead 20 = .ok (.iaload, 1) := by decide +kernel
theorem dX4_isAhead_21 : decode cX4_isAhead 21 = .ok (.aload_n 0, 1) := by decide +kernel
theorem dX4_isAhead_22 : decode cX4_isAhead 22 = .ok (.getfield 9, 3) := by decide +kernel
theorem dX4_isAhead_25 : decode cX4_isAhead 25 = .ok (.iload_n 2, 1) := by decide +kernel
theorem dX4_isAhead_26 : decode cX4_isAhead 26 = .ok (.iaload, 1) := by decide +kernel
theorem dX4_isAhead_27 : decode cX4_isAhead 27 = .ok (.if_icmp .le 7, 3) := by decide +kernel
theorem dX4_isAhead_30 : decode cX4_isAhead 30 = .ok (.iconst 1, 1) := by decide +kernel
theorem dX4_isAhead_31 : decode cX4_isAhead 31 = .ok (.goto 4, 3) := by decide +kernel
theorem dX4_isAhead_34 : decode cX4_isAhead 34 = .ok (.iconst 0, 1) := by decide +kernel
theorem dX4_isAhead_35 : decode cX4_isAhead 35 = .ok (.ireturn, 1) := by decide +kernel
theorem dX4_isAhead_36 : decode cX4_isAhead 36 = .ok (.aload_n 0, 1) := by decide +kernel
theorem dX4_isAhead_37 : decode cX4_isAhead 37 = .ok (.getfield 15, 3) := by decide +kernel
theorem dX4_isAhead_40 : decode cX4_isAhead 40 = .ok (.iload_n 1, 1) := by decide +kernel
theorem dX4_isAhead_41 : decode cX4_isAhead 41 = .ok (.iaload, 1) := by decide +kernel
theorem dX4_isAhead_42 : decode cX4_isAhead 42 = .ok (.aload_n 0, 1) := by decide +kernel
theorem dX4_isAhead_43 : decode cX4_isAhead 43 = .ok (.getfield 15, 3) := by decide +kernel
theorem dX4_isAhead_46 : decode cX4_isAhead 46 = .ok (.iload_n 2, 1) := by decide +kernel
theorem dX4_isAhead_47 : decode cX4_isAhead 47 = .ok (.iaload, 1) := by decide +kernel
theorem dX4_isAhead_48 : decode cX4_isAhead 48 = .ok (.if_icmp .eq 24, 3) := by decide +kernel
theorem dX4_isAhead_51 : decode cX4_isAhead 51 = .ok (.aload_n 0, 1) := by decide +kernel
theorem dX4_isAhead_52 : decode cX4_isAhead 52 = .ok (.getfield 15, 3) := by decide +kernel
theorem dX4_isAhead_55 : decode cX4_isAhead 55 = .ok (.iload_n 1, 1) := by decide +kernel
theorem dX4_isAhead_56 : decode cX4_isAhead 56 = .ok (.iaload, 1) := by decide +kernel
theorem dX4_isAhead_57 : decode cX4_isAhead 57 = .ok (.aload_n 0, 1) := by decide +kernel
theorem dX4_isAhead_58 : decode cX4_isAhead 58 = .ok (.getfield 15, 3) := by decide +kernel
theorem dX4_isAhead_61 : decode cX4_isAhead 61 = .ok (.iload_n 2, 1) := by decide +kernel
theorem dX4_isAhead_62 : decode cX4_isAhead 62 = .ok (.iaload, 1) := by decide +kernel
theorem dX4_isAhead_63 : decode cX4_isAhead 63 = .ok (.if_icmp .le 7, 3) := by decide +kernel
theorem dX4_isAhead_66 : decode cX4_isAhead 66 = .ok (.iconst 1, 1) := by decide +kernel
theorem dX4_isAhead_67 : decode cX4_isAhead 67 = .ok (.goto 4, 3) := by decide +kernel
theorem dX4_isAhead_70 : decode cX4_isAhead 70 = .ok (.iconst 0, 1) := by decide +kernel
theorem dX4_isAhead_71 : decode cX4_isAhead 71 = .ok (.ireturn, 1) := by decide +kernel
theorem dX4_isAhead_72 : decode cX4_isAhead 72 = .ok (.iload_n 1, 1) := by decide +kernel
theorem dX4_isAhead_73 : decode cX4_isAhead 73 = .ok (.iload_n 2, 1) := by decide +kernel
theorem dX4_isAhead_74 : decode cX4_isAhead 74 = .ok (.if_icmp .ge 7, 3) := by decide +kernel
theorem dX4_isAhead_77 : decode cX4_isAhead 77 = .ok (.iconst 1, 1) := by decide +kernel
theorem dX4_isAhead_78 : decode cX4_isAhead 78 = .ok (.goto 4, 3) := by decide +kernel
theorem dX4_isAhead_81 : decode cX4_isAhead 81 = .ok (.iconst 0, 1) := by decide +kernel
theorem dX4_isAhead_82 : decode cX4_isAhead 82 = .ok (.ireturn, 1) := by decide +kernel
theorem dX4_place_0 : decode cX4_place 0 = .ok (.iconst 0, 1) := by decide +kernel
theorem dX4_place_1 : decode cX4_place 1 = .ok (.istore_n 2, 1) := by decide +kernel
theorem dX4_place_2 : decode cX4_place 2 = .ok (.iconst 0, 1) := by decide +kernel
theorem dX4_place_3 : decode cX4_place 3 = .ok (.istore_n 3, 1) := by decide +kernel
theorem dX4_place_4 : decode cX4_place 4 = .ok (.iload_n 3, 1) := by decide +kernel
theorem dX4_place_5 : decode cX4_place 5 = .ok (.aload_n 0, 1) := by decide +kernel
theorem dX4_place_6 : decode cX4_place 6 = .ok (.getfield 24, 3) := by decide +kernel
theorem dX4_place_9 : decode cX4_place 9 = .ok (.if_icmp .ge 26, 3) := by decide +kernel
theorem dX4_place_12 : decode cX4_place 12 = .ok (.iload_n 3, 1) := by decide +kernel
theorem dX4_place_13 : decode cX4_place 13 = .ok (.iload_n 1, 1) := by decide +kernel
theorem dX4_place_14 : decode cX4_place 14 = .ok (.if_icmp .eq 15, 3) := by decide +kernel
theorem dX4_place_17 : decode cX4_place 17 = .ok (.aload_n 0, 1) := by decide +kernel
theorem dX4_place_18 : decode cX4_place 18 = .ok (.iload_n 3, 1) := by decide +kernel
theorem dX4_place_19 : decode cX4_place 19 = .ok (.iload_n 1, 1) := by decide +kernel
theorem dX4_place_20 : decode cX4_place 20 = .ok (.invokevirtual 45, 3) := by decide +kernel
theorem dX4_place_23 : decode cX4_place 23 = .ok (.ifCond .eq 6, 3) := by decide +kernel
theorem dX4_place_26 : decode cX4_place 26 = .ok (.iinc 2 1, 3) := by decide +kernel
theorem dX4_place_29 : decode cX4_place 29 = .ok (.iinc 3 1, 3) := by decide +kernel
theorem dX4_place_32 : decode cX4_place 32 = .ok (.goto (-28), 3) := by decide +kernel
theorem dX4_place_35 : decode cX4_place 35 = .ok (.iload_n 2, 1) := by decide +kernel
theorem dX4_place_36 : decode cX4_place 36 = .ok (.ireturn, 1) := by decide +kernel
theorem dX4_first_0 : decode cX4_first 0 = .ok (.iconst (-1), 1) := by decide +kernel
theorem dX4_first_1 : decode cX4_first 1 = .ok (.istore_n 1, 1) := by decide +kernel
theorem dX4_first_2 : decode cX4_first 2 = .ok (.iconst 0, 1) := by decide +kernel
theorem dX4_first_3 : decode cX4_first 3 = .ok (.istore_n 2, 1) := by decide +kernel
theorem dX4_first_4 : decode cX4_first 4 = .ok (.iload_n 2, 1) := by decide +kernel
theorem dX4_first_5 : decode cX4_first 5 = .ok (.aload_n 0, 1) := by decide +kernel
theorem dX4_first_6 : decode cX4_first 6 = .ok (.getfield 24, 3) := by decide +kernel
theorem dX4_first_9 : decode cX4_first 9 = .ok (.if_icmp .ge 25, 3) := by decide +kernel
theorem dX4_first_12 : decode cX4_first 12 = .ok (.iload_n 1, 1) := by decide +kernel
theorem dX4_first_13 : decode cX4_first 13 = .ok (.iconst (-1), 1) := by decide +kernel
theorem dX4_first_14 : decode cX4_first 14 = .ok (.if_icmp .eq 12, 3) := by decide +kernel
theorem dX4_first_17 : decode cX4_first 17 = .ok (.aload_n 0, 1) := by decide +kernel
theorem dX4_first_18 : decode cX4_first 18 = .ok (.iload_n 2, 1) := by decide +kernel
theorem dX4_first_19 : decode cX4_first 19 = .ok (.iload_n 1, 1) := by decide +kernel
theorem dX4_first_20 : decode cX4_first 20 = .ok (.invokevirtual 45, 3) := by decide +kernel
theorem dX4_first_23 : decode cX4_first 23 = .ok (.ifCond .eq 5, 3) := by decide +kernel
theorem dX4_first_26 : decode cX4_first 26 = .ok (.iload_n 2, 1) := by decide +kernel
theorem dX4_first_27 : decode cX4_first 27 = .ok (.istore_n 1, 1) := by decide +kernel
theorem dX4_first_28 : decode cX4_first 28 = .ok (.iinc 2 1, 3) := by decide +kernel
theorem dX4_first_31 : decode cX4_first 31 = .ok (.goto (-27), 3) := by decide +kernel
theorem dX4_first_34 : decode cX4_first 34 = .ok (.iload_n 1, 1) := by decide +kernel
theorem dX4_first_35 : decode cX4_first 35 = .ok (.ireturn, 1) := by decide +kernel
theorem dX5_init_0 : decode cX5_init 0 = .ok (.aload_n 0, 1) := by decide +kernel
theorem dX5_init_1 : decode cX5_init 1 = .ok (.invokespecial 3, 3) := by decide +kernel
theorem dX5_init_4 : decode cX5_init 4 = .ok (.aload_n 0, 1) := by decide +kernel
theorem dX5_init_5 : decode cX5_init 5 = .ok (.iconst 4, 1) := by decide +kernel
theorem dX5_init_6 : decode cX5_init 6 = .ok (.anewarray 9, 3) := by decide +kernel
theorem dX5_init_9 : decode cX5_init 9 = .ok (.putfield 11, 3) := by decide +kernel
theorem dX5_init_12 : decode cX5_init 12 = .ok (.aload_n 0, 1) := by decide +kernel
theorem dX5_init_13 : decode cX5_init 13 = .ok (.iconst 5, 1) := by decide +kernel
theorem dX5_init_14 : decode cX5_init 14 = .ok (.newarray .int, 2) := by decide +kernel
theorem dX5_init_16 : decode cX5_init 16 = .ok (.dup, 1) := by decide +kernel
theorem dX5_init_17 : decode cX5_init 17 = .ok (.iconst 0, 1) := by decide +kernel
theorem dX5_init_18 : decode cX5_init 18 = .ok (.bipush 100, 2) := by decide +kernel
theorem dX5_init_20 : decode cX5_init 20 = .ok (.iastore, 1) := by decide +kernel
theorem dX5_init_21 : decode cX5_init 21 = .ok (.dup, 1) := by decide +kernel
theorem dX5_init_22 : decode cX5_init 22 = .ok (.iconst 1, 1) := by decide +kernel
theorem dX5_init_23 : decode cX5_init 23 = .ok (.iconst 3, 1) := by decide +kernel
theorem dX5_init_24 : decode cX5_init 24 = .ok (.iastore, 1) := by decide +kernel
theorem dX5_init_25 : decode cX5_init 25 = .ok (.dup, 1) := by decide +kernel
theorem dX5_init_26 : decode cX5_init 26 = .ok (.iconst 2, 1) := by decide +kernel
theorem dX5_init_27 : decode cX5_init 27 = .ok (.bipush 7, 2) := by decide +kernel
theorem dX5_init_29 : decode cX5_init 29 = .ok (.iastore, 1) := by decide +kernel
theorem dX5_init_30 : decode cX5_init 30 = .ok (.dup, 1) := by decide +kernel
theorem dX5_init_31 : decode cX5_init 31 = .ok (.iconst 3, 1) := by decide +kernel
theorem dX5_init_32 : decode cX5_init 32 = .ok (.iconst 3, 1) := by decide +kernel
theorem dX5_init_33 : decode cX5_init 33 = .ok (.iastore, 1) := by decide +kernel
theorem dX5_init_34 : decode cX5_init 34 = .ok (.dup, 1) := by decide +kernel
theorem dX5_init_35 : decode cX5_init 35 = .ok (.iconst 4, 1) := by decide +kernel
theorem dX5_init_36 : decode cX5_init 36 = .ok (.bipush 10, 2) := by decide +kernel
theorem dX5_init_38 : decode cX5_init 38 = .ok (.iastore, 1) := by decide +kernel
theorem dX5_init_39 : decode cX5_init 39 = .ok (.putfield 17, 3) := by decide +kernel
theorem dX5_init_42 : decode cX5_init 42 = .ok (.iconst 0, 1) := by decide +kernel
theorem dX5_init_43 : decode cX5_init 43 = .ok (.istore_n 1, 1) := by decide +kernel
theorem dX5_init_44 : decode cX5_init 44 = .ok (.iload_n 1, 1) := by decide +kernel
theorem dX5_init_45 : decode cX5_init 45 = .ok (.iconst 4, 1) := by decide +kernel
theorem dX5_init_46 : decode cX5_init 46 = .ok (.if_icmp .ge 22, 3) := by decide +kernel
theorem dX5_init_49 : decode cX5_init 49 = .ok (.aload_n 0, 1) := by decide +kernel
theorem dX5_init_50 : decode cX5_init 50 = .ok (.getfield 11, 3) := by decide +kernel
theorem dX5_init_53 : decode cX5_init 53 = .ok (.iload_n 1, 1) := by decide +kernel
theorem dX5_init_54 : decode cX5_init 54 = .ok (.new 9, 3) := by decide +kernel
theorem dX5_init_57 : decode cX5_init 57 = .ok (.dup, 1) := by decide +kernel
theorem dX5_init_58 : decode cX5_init 58 = .ok (.invokespecial 21, 3) := by decide +kernel
theorem dX5_init_61 : decode cX5_init 61 = .ok (.aastore, 1) := by decide +kernel
theorem dX5_init_62 : decode cX5_init 62 = .ok (.iinc 1 1, 3) := by decide +kernel
theorem dX5_init_65 : decode cX5_init 65 = .ok (.goto (-21), 3) := by decide +kernel
theorem dX5_init_68 : decode cX5_init 68 = .ok (.return_, 1) := by decide +kernel
theorem dX5_copyFrom_0 : decode cX5_copyFrom 0 = .ok (.aload_n 0, 1) := by decide +kernel
theorem dX5_copyFrom_1 : decode cX5_copyFrom 1 = .ok (.aload_n 1, 1) := by decide +kernel
theorem dX5_copyFrom_2 : decode cX5_copyFrom 2 = .ok (.getfield 22, 3) := by decide +kernel
theorem dX5_copyFrom_5 : decode cX5_copyFrom 5 = .ok (.putfield 22, 3) := by decide +kernel
theorem dX5_copyFrom_8 : decode cX5_copyFrom 8 = .ok (.iconst 0, 1) := by decide +kernel
theorem dX5_copyFrom_9 : decode cX5_copyFrom 9 = .ok (.istore_n 2, 1) := by decide +kernel
theorem dX5_copyFrom_10 : decode cX5_copyFrom 10 = .ok (.iload_n 2, 1) := by decide +kernel
theorem dX5_copyFrom_11 : decode cX5_copyFrom 11 = .ok (.aload_n 0, 1) := by decide +kernel
theorem dX5_copyFrom_12 : decode cX5_copyFrom 12 = .ok (.getfield 22, 3) := by decide +kernel
theorem dX5_copyFrom_15 : decode cX5_copyFrom 15 = .ok (.if_icmp .ge 24, 3) := by decide +kernel
theorem dX5_copyFrom_18 : decode cX5_copyFrom 18 = .ok (.aload_n 0, 1) := by decide +kernel
theorem dX5_copyFrom_19 : decode cX5_copyFrom 19 = .ok (.getfield 11, 3) := by decide +kernel
theorem dX5_copyFrom_22 : decode cX5_copyFrom 22 = .ok (.iload_n 2, 1) := by decide +kernel
theorem dX5_copyFrom_23 : decode cX5_copyFrom 23 = .ok (.aaload, 1) := by decide +kernel
theorem dX5_copyFrom_24 : decode cX5_copyFrom 24 = .ok (.aload_n 1, 1) := by decide +kernel
theorem dX5_copyFrom_25 : decode cX5_copyFrom 25 = .ok (.getfield 11, 3) := by decide +kernel
theorem dX5_copyFrom_28 : decode cX5_copyFrom 28 = .ok (.iload_n 2, 1) := by decide +kernel
theorem dX5_copyFrom_29 : decode cX5_copyFrom 29 = .ok (.aaload, 1) := by decide +kernel
theorem dX5_copyFrom_30 : decode cX5_copyFrom 30 = .ok (.invokevirtual 26, 3) := by decide +kernel
theorem dX5_copyFrom_33 : decode cX5_copyFrom 33 = .ok (.iinc 2 1, 3) := by decide +kernel
theorem dX5_copyFrom_36 : decode cX5_copyFrom 36 = .ok (.goto (-26), 3) := by decide +kernel
theorem dX5_copyFrom_39 : decode cX5_copyFrom 39 = .ok (.aload_n 1, 1) := by decide +kernel
theorem dX5_copyFrom_40 : decode cX5_copyFrom 40 = .ok (.getfield 17, 3) := by decide +kernel
theorem dX5_copyFrom_43 : decode cX5_copyFrom 43 = .ok (.iconst 0, 1) := by decide +kernel
theorem dX5_copyFrom_44 : decode cX5_copyFrom 44 = .ok (.aload_n 0, 1) := by decide +kernel
theorem dX5_copyFrom_45 : decode cX5_copyFrom 45 = .ok (.getfield 17, 3) := by decide +kernel
theorem dX5_copyFrom_48 : decode cX5_copyFrom 48 = .ok (.iconst 0, 1) := by decide +kernel
theorem dX5_copyFrom_49 : decode cX5_copyFrom 49 = .ok (.iconst 5, 1) := by decide +kernel
theorem dX5_copyFrom_50 : decode cX5_copyFrom 50 = .ok (.invokestatic 30, 3) := by decide +kernel
theorem dX5_copyFrom_53 : decode cX5_copyFrom 53 = .ok (.return_, 1) := by decide +kernel
theorem dX5_hasSkater_0 : decode cX5_hasSkater 0 = .ok (.iload_n 1, 1) := by decide +kernel
theorem dX5_hasSkater_1 : decode cX5_hasSkater 1 = .ok (.ifCond .lt 15, 3) := by decide +kernel
theorem dX5_hasSkater_4 : decode cX5_hasSkater 4 = .ok (.iload_n 1, 1) := by decide +kernel
theorem dX5_hasSkater_5 : decode cX5_hasSkater 5 = .ok (.aload_n 0, 1) := by decide +kernel
theorem dX5_hasSkater_6 : decode cX5_hasSkater 6 = .ok (.getfield 22, 3) := by decide +kernel
theorem dX5_hasSkater_9 : decode cX5_hasSkater 9 = .ok (.if_icmp .ge 7, 3) := by decide +kernel
theorem dX5_hasSkater_12 : decode cX5_hasSkater 12 = .ok (.iconst 1, 1) := by decide +kernel
theorem dX5_hasSkater_13 : decode cX5_hasSkater 13 = .ok (.goto 4, 3) := by decide +kernel
theorem dX5_hasSkater_16 : decode cX5_hasSkater 16 = .ok (.iconst 0, 1) := by decide +kernel
theorem dX5_hasSkater_17 : decode cX5_hasSkater 17 = .ok (.ireturn, 1) := by decide +kernel
theorem dX5_hasElement_0 : decode cX5_hasElement 0 = .ok (.aload_n 0, 1) := by decide +kernel
theorem dX5_hasElement_1 : decode cX5_hasElement 1 = .ok (.iload_n 1, 1) := by decide +kernel
theorem dX5_hasElement_2 : decode cX5_hasElement 2 = .ok (.invokevirtual 36, 3) := by decide +kernel
theorem dX5_hasElement_5 : decode cX5_hasElement 5 = .ok (.ifCond .eq 24, 3) := by decide +kernel
theorem dX5_hasElement_8 : decode cX5_hasElement 8 = .ok (.iload_n 2, 1) := by decide +kernel
theorem dX5_hasElement_9 : decode cX5_hasElement 9 = .ok (.ifCond .lt 20, 3) := by decide +kernel
theorem dX5_hasElement_12 : decode cX5_hasElement 12 = .ok (.iload_n 2, 1) := by decide +kernel
theorem dX5_hasElement_13 : decode cX5_hasElement 13 = .ok (.aload_n 0, 1) := by decide +kernel
theorem dX5_hasElement_14 : decode cX5_hasElement 14 = .ok (.getfield 11, 3) := by decide +kernel
theorem dX5_hasElement_17 : decode cX5_hasElement 17 = .ok (.iload_n 1, 1) := by decide +kernel
theorem dX5_hasElement_18 : decode cX5_hasElement 18 = .ok (.aaload, 1) := by decide +kernel
theorem dX5_hasElement_19 : decode cX5_hasElement 19 = .ok (.getfield 40, 3) := by decide +kernel
theorem dX5_hasElement_22 : decode cX5_hasElement 22 = .ok (.if_icmp .ge 7, 3) := by decide +kernel
theorem dX5_hasElement_25 : decode cX5_hasElement 25 = .ok (.iconst 1, 1) := by decide +kernel
theorem dX5_hasElement_26 : decode cX5_hasElement 26 = .ok (.goto 4, 3) := by decide +kernel
theorem dX5_hasElement_29 : decode cX5_hasElement 29 = .ok (.iconst 0, 1) := by decide +kernel
theorem dX5_hasElement_30 : decode cX5_hasElement 30 = .ok (.ireturn, 1) := by decide +kernel
theorem dX5_hasPart_0 : decode cX5_hasPart 0 = .ok (.aload_n 0, 1) := by decide +kernel
theorem dX5_hasPart_1 : decode cX5_hasPart 1 = .ok (.iload_n 1, 1) := by decide +kernel
theorem dX5_hasPart_2 : decode cX5_hasPart 2 = .ok (.iload_n 2, 1) := by decide +kernel
theorem dX5_hasPart_3 : decode cX5_hasPart 3 = .ok (.invokevirtual 43, 3) := by decide +kernel
theorem dX5_hasPart_6 : decode cX5_hasPart 6 = .ok (.ifCond .eq 26, 3) := by decide +kernel
theorem dX5_hasPart_9 : decode cX5_hasPart 9 = .ok (.iload_n 3, 1) := by decide +kernel
theorem dX5_hasPart_10 : decode cX5_hasPart 10 = .ok (.ifCond .lt 22, 3) := by decide +kernel
theorem dX5_hasPart_13 : decode cX5_hasPart 13 = .ok (.iload_n 3, 1) := by decide +kernel
theorem dX5_hasPart_14 : decode cX5_hasPart 14 = .ok (.aload_n 0, 1) := by decide +kernel
theorem dX5_hasPart_15 : decode cX5_hasPart 15 = .ok (.getfield 11, 3) := by decide +kernel
theorem dX5_hasPart_18 : decode cX5_hasPart 18 = .ok (.iload_n 1, 1) := by decide +kernel
theorem dX5_hasPart_19 : decode cX5_hasPart 19 = .ok (.aaload, 1) := by decide +kernel
theorem dX5_hasPart_20 : decode cX5_hasPart 20 = .ok (.getfield 47, 3) := by decide +kernel
theorem dX5_hasPart_23 : decode cX5_hasPart 23 = .ok (.iload_n 2, 1) := by decide +kernel
theorem dX5_hasPart_24 : decode cX5_hasPart 24 = .ok (.iaload, 1) := by decide +kernel
theorem dX5_hasPart_25 : decode cX5_hasPart 25 = .ok (.if_icmp .ge 7, 3) := by decide +kernel
theorem dX5_hasPart_28 : decode cX5_hasPart 28 = .ok (.iconst 1, 1) := by decide +kernel
theorem dX5_hasPart_29 : decode cX5_hasPart 29 = .ok (.goto 4, 3) := by decide +kernel
theorem dX5_hasPart_32 : decode cX5_hasPart 32 = .ok (.iconst 0, 1) := by decide +kernel
theorem dX5_hasPart_33 : decode cX5_hasPart 33 = .ok (.ireturn, 1) := by decide +kernel
theorem dX5_settingFits_0 : decode cX5_settingFits 0 = .ok (.iload_n 0, 1) := by decide +kernel
theorem dX5_settingFits_1 : decode cX5_settingFits 1 = .ok (.tableswitch 101 0 4 #[35, 54, 69, 54, 85], 35) := by decide +kernel
theorem dX5_settingFits_36 : decode cX5_settingFits 36 = .ok (.iload_n 1, 1) := by decide +kernel
theorem dX5_settingFits_37 : decode cX5_settingFits 37 = .ok (.bipush 50, 2) := by decide +kernel
theorem dX5_settingFits_39 : decode cX5_settingFits 39 = .ok (.if_icmp .lt 14, 3) := by decide +kernel
theorem dX5_settingFits_42 : decode cX5_settingFits 42 = .ok (.iload_n 1, 1) := by decide +kernel
theorem dX5_settingFits_43 : decode cX5_settingFits 43 = .ok (.sipush 300, 3) := by decide +kernel
theorem dX5_settingFits_46 : decode cX5_settingFits 46 = .ok (.if_icmp .gt 7, 3) := by decide +kernel
theorem dX5_settingFits_49 : decode cX5_settingFits 49 = .ok (.iconst 1, 1) := by decide +kernel
theorem dX5_settingFits_50 : decode cX5_settingFits 50 = .ok (.goto 4, 3) := by decide +kernel
theorem dX5_settingFits_53 : decode cX5_settingFits 53 = .ok (.iconst 0, 1) := by decide +kernel
theorem dX5_settingFits_54 : decode cX5_settingFits 54 = .ok (.ireturn, 1) := by decide +kernel
theorem dX5_settingFits_55 : decode cX5_settingFits 55 = .ok (.iload_n 1, 1) := by decide +kernel
theorem dX5_settingFits_56 : decode cX5_settingFits 56 = .ok (.ifCond .lt 12, 3) := by decide +kernel
theorem dX5_settingFits_59 : decode cX5_settingFits 59 = .ok (.iload_n 1, 1) := by decide +kernel
theorem dX5_settingFits_60 : decode cX5_settingFits 60 = .ok (.iconst 5, 1) := by decide +kernel
theorem dX5_settingFits_61 : decode cX5_settingFits 61 = .ok (.if_icmp .gt 7, 3) := by decide +kernel
theorem dX5_settingFits_64 : decode cX5_settingFits 64 = .ok (.iconst 1, 1) := by decide +kernel
theorem dX5_settingFits_65 : decode cX5_settingFits 65 = .ok (.goto 4, 3) := by decide +kernel
theorem dX5_settingFits_68 : decode cX5_settingFits 68 = .ok (.iconst 0, 1) := by decide +kernel
theorem dX5_settingFits_69 : decode cX5_settingFits 69 = .ok (.ireturn, 1) := by decide +kernel
theorem dX5_settingFits_70 : decode cX5_settingFits 70 = .ok (.iload_n 1, 1) := by decide +kernel
theorem dX5_settingFits_71 : decode cX5_settingFits 71 = .ok (.ifCond .lt 13, 3) := by decide +kernel
theorem dX5_settingFits_74 : decode cX5_settingFits 74 = .ok (.iload_n 1, 1) := by decide +kernel
theorem dX5_settingFits_75 : decode cX5_settingFits 75 = .ok (.bipush 12, 2) := by decide +kernel
theorem dX5_settingFits_77 : decode cX5_settingFits 77 = .ok (.if_icmp .gt 7, 3) := by decide +kernel
theorem dX5_settingFits_80 : decode cX5_settingFits 80 = .ok (.iconst 1, 1) := by decide +kernel
theorem dX5_settingFits_81 : decode cX5_settingFits 81 = .ok (.goto 4, 3) := by decide +kernel
theorem dX5_settingFits_84 : decode cX5_settingFits 84 = .ok (.iconst 0, 1) := by decide +kernel
theorem dX5_settingFits_85 : decode cX5_settingFits 85 = .ok (.ireturn, 1) := by decide +kernel
theorem dX5_settingFits_86 : decode cX5_settingFits 86 = .ok (.iload_n 1, 1) := by decide +kernel
theorem dX5_settingFits_87 : decode cX5_settingFits 87 = .ok (.ifCond .lt 13, 3) := by decide +kernel
theorem dX5_settingFits_90 : decode cX5_settingFits 90 = .ok (.iload_n 1, 1) := by decide +kernel
theorem dX5_settingFits_91 : decode cX5_settingFits 91 = .ok (.bipush 30, 2) := by decide +kernel
theorem dX5_settingFits_93 : decode cX5_settingFits 93 = .ok (.if_icmp .gt 7, 3) := by decide +kernel
theorem dX5_settingFits_96 : decode cX5_settingFits 96 = .ok (.iconst 1, 1) := by decide +kernel
theorem dX5_settingFits_97 : decode cX5_settingFits 97 = .ok (.goto 4, 3) := by decide +kernel
theorem dX5_settingFits_100 : decode cX5_settingFits 100 = .ok (.iconst 0, 1) := by decide +kernel
theorem dX5_settingFits_101 : decode cX5_settingFits 101 = .ok (.ireturn, 1) := by decide +kernel
theorem dX5_settingFits_102 : decode cX5_settingFits 102 = .ok (.iconst 0, 1) := by decide +kernel
theorem dX5_settingFits_103 : decode cX5_settingFits 103 = .ok (.ireturn, 1) := by decide +kernel
theorem dX5_reviewed_0 : decode cX5_reviewed 0 = .ok (.iconst 0, 1) := by decide +kernel
theorem dX5_reviewed_1 : decode cX5_reviewed 1 = .ok (.istore_n 1, 1) := by decide +kernel
theorem dX5_reviewed_2 : decode cX5_reviewed 2 = .ok (.iconst 0, 1) := by decide +kernel
theorem dX5_reviewed_3 : decode cX5_reviewed 3 = .ok (.istore_n 2, 1) := by decide +kernel
theorem dX5_reviewed_4 : decode cX5_reviewed 4 = .ok (.iload_n 2, 1) := by decide +kernel
theorem dX5_reviewed_5 : decode cX5_reviewed 5 = .ok (.aload_n 0, 1) := by decide +kernel
theorem dX5_reviewed_6 : decode cX5_reviewed 6 = .ok (.getfield 22, 3) := by decide +kernel
theorem dX5_reviewed_9 : decode cX5_reviewed 9 = .ok (.if_icmp .ge 21, 3) := by decide +kernel
theorem dX5_reviewed_12 : decode cX5_reviewed 12 = .ok (.iload_n 1, 1) := by decide +kernel
theorem dX5_reviewed_13 : decode cX5_reviewed 13 = .ok (.aload_n 0, 1) := by decide +kernel
theorem dX5_reviewed_14 : decode cX5_reviewed 14 = .ok (.getfield 11, 3) := by decide +kernel
theorem dX5_reviewed_17 : decode cX5_reviewed 17 = .ok (.iload_n 2, 1) := by decide +kernel
theorem dX5_reviewed_18 : decode cX5_reviewed 18 = .ok (.aaload, 1) := by decide +kernel
theorem dX5_reviewed_19 : decode cX5_reviewed 19 = .ok (.invokevirtual 50, 3) := by decide +kernel
theorem dX5_reviewed_22 : decode cX5_reviewed 22 = .ok (.iadd, 1) := by decide +kernel
theorem dX5_reviewed_23 : decode cX5_reviewed 23 = .ok (.istore_n 1, 1) := by decide +kernel
theorem dX5_reviewed_24 : decode cX5_reviewed 24 = .ok (.iinc 2 1, 3) := by decide +kernel
theorem dX5_reviewed_27 : decode cX5_reviewed 27 = .ok (.goto (-23), 3) := by decide +kernel
theorem dX5_reviewed_30 : decode cX5_reviewed 30 = .ok (.iload_n 1, 1) := by decide +kernel
theorem dX5_reviewed_31 : decode cX5_reviewed 31 = .ok (.ireturn, 1) := by decide +kernel
theorem dX5_fallen_0 : decode cX5_fallen 0 = .ok (.iconst 0, 1) := by decide +kernel
theorem dX5_fallen_1 : decode cX5_fallen 1 = .ok (.istore_n 1, 1) := by decide +kernel
theorem dX5_fallen_2 : decode cX5_fallen 2 = .ok (.iconst 0, 1) := by decide +kernel
theorem dX5_fallen_3 : decode cX5_fallen 3 = .ok (.istore_n 2, 1) := by decide +kernel
theorem dX5_fallen_4 : decode cX5_fallen 4 = .ok (.iload_n 2, 1) := by decide +kernel
theorem dX5_fallen_5 : decode cX5_fallen 5 = .ok (.aload_n 0, 1) := by decide +kernel
theorem dX5_fallen_6 : decode cX5_fallen 6 = .ok (.getfield 22, 3) := by decide +kernel
theorem dX5_fallen_9 : decode cX5_fallen 9 = .ok (.if_icmp .ge 21, 3) := by decide +kernel
theorem dX5_fallen_12 : decode cX5_fallen 12 = .ok (.iload_n 1, 1) := by decide +kernel
theorem dX5_fallen_13 : decode cX5_fallen 13 = .ok (.aload_n 0, 1) := by decide +kernel
theorem dX5_fallen_14 : decode cX5_fallen 14 = .ok (.getfield 11, 3) := by decide +kernel
theorem dX5_fallen_17 : decode cX5_fallen 17 = .ok (.iload_n 2, 1) := by decide +kernel
theorem dX5_fallen_18 : decode cX5_fallen 18 = .ok (.aaload, 1) := by decide +kernel
theorem dX5_fallen_19 : decode cX5_fallen 19 = .ok (.invokevirtual 54, 3) := by decide +kernel
theorem dX5_fallen_22 : decode cX5_fallen 22 = .ok (.iadd, 1) := by decide +kernel
theorem dX5_fallen_23 : decode cX5_fallen 23 = .ok (.istore_n 1, 1) := by decide +kernel
theorem dX5_fallen_24 : decode cX5_fallen 24 = .ok (.iinc 2 1, 3) := by decide +kernel
theorem dX5_fallen_27 : decode cX5_fallen 27 = .ok (.goto (-23), 3) := by decide +kernel
theorem dX5_fallen_30 : decode cX5_fallen 30 = .ok (.iload_n 1, 1) := by decide +kernel
theorem dX5_fallen_31 : decode cX5_fallen 31 = .ok (.ireturn, 1) := by decide +kernel
theorem dX5_allElements_0 : decode cX5_allElements 0 = .ok (.iconst 0, 1) := by decide +kernel
theorem dX5_allElements_1 : decode cX5_allElements 1 = .ok (.istore_n 1, 1) := by decide +kernel
theorem dX5_allElements_2 : decode cX5_allElements 2 = .ok (.iconst 0, 1) := by decide +kernel
theorem dX5_allElements_3 : decode cX5_allElements 3 = .ok (.istore_n 2, 1) := by decide +kernel
theorem dX5_allElements_4 : decode cX5_allElements 4 = .ok (.iload_n 2, 1) := by decide +kernel
theorem dX5_allElements_5 : decode cX5_allElements 5 = .ok (.aload_n 0, 1) := by decide +kernel
theorem dX5_allElements_6 : decode cX5_allElements 6 = .ok (.getfield 22, 3) := by decide +kernel
theorem dX5_allElements_9 : decode cX5_allElements 9 = .ok (.if_icmp .ge 21, 3) := by decide +kernel
theorem dX5_allElements_12 : decode cX5_allElements 12 = .ok (.iload_n 1, 1) := by decide +kernel
theorem dX5_allElements_13 : decode cX5_allElements 13 = .ok (.aload_n 0, 1) := by decide +kernel
theorem dX5_allElements_14 : decode cX5_allElements 14 = .ok (.getfield 11, 3) := by decide +kernel
theorem dX5_allElements_17 : decode cX5_allElements 17 = .ok (.iload_n 2, 1) := by decide +kernel
theorem dX5_allElements_18 : decode cX5_allElements 18 = .ok (.aaload, 1) := by decide +kernel
theorem dX5_allElements_19 : decode cX5_allElements 19 = .ok (.getfield 40, 3) := by decide +kernel
theorem dX5_allElements_22 : decode cX5_allElements 22 = .ok (.iadd, 1) := by decide +kernel
theorem dX5_allElements_23 : decode cX5_allElements 23 = .ok (.istore_n 1, 1) := by decide +kernel
theorem dX5_allElements_24 : decode cX5_allElements 24 = .ok (.iinc 2 1, 3) := by decide +kernel
theorem dX5_allElements_27 : decode cX5_allElements 27 = .ok (.goto (-23), 3) := by decide +kernel
theorem dX5_allElements_30 : decode cX5_allElements 30 = .ok (.iload_n 1, 1) := by decide +kernel
theorem dX5_allElements_31 : decode cX5_allElements 31 = .ok (.ireturn, 1) := by decide +kernel
theorem dX5_putFall_0 : decode cX5_putFall 0 = .ok (.aload_n 0, 1) := by decide +kernel
theorem dX5_putFall_1 : decode cX5_putFall 1 = .ok (.iload_n 1, 1) := by decide +kernel
theorem dX5_putFall_2 : decode cX5_putFall 2 = .ok (.iload_n 2, 1) := by decide +kernel
theorem dX5_putFall_3 : decode cX5_putFall 3 = .ok (.invokevirtual 43, 3) := by decide +kernel
theorem dX5_putFall_6 : decode cX5_putFall 6 = .ok (.ifCond .ne 5, 3) := by decide +kernel
theorem dX5_putFall_9 : decode cX5_putFall 9 = .ok (.iconst 0, 1) := by decide +kernel
theorem dX5_putFall_10 : decode cX5_putFall 10 = .ok (.ireturn, 1) := by decide +kernel
theorem dX5_putFall_11 : decode cX5_putFall 11 = .ok (.aload_n 0, 1) := by decide +kernel
theorem dX5_putFall_12 : decode cX5_putFall 12 = .ok (.getfield 11, 3) := by decide +kernel
theorem dX5_putFall_15 : decode cX5_putFall 15 = .ok (.iload_n 1, 1) := by decide +kernel
theorem dX5_putFall_16 : decode cX5_putFall 16 = .ok (.aaload, 1) := by decide +kernel
theorem dX5_putFall_17 : decode cX5_putFall 17 = .ok (.getfield 57, 3) := by decide +kernel
theorem dX5_putFall_20 : decode cX5_putFall 20 = .ok (.iload_n 2, 1) := by decide +kernel
theorem dX5_putFall_21 : decode cX5_putFall 21 = .ok (.iload_n 3, 1) := by decide +kernel
theorem dX5_putFall_22 : decode cX5_putFall 22 = .ok (.iastore, 1) := by decide +kernel
theorem dX5_putFall_23 : decode cX5_putFall 23 = .ok (.iconst 1, 1) := by decide +kernel
theorem dX5_putFall_24 : decode cX5_putFall 24 = .ok (.ireturn, 1) := by decide +kernel
theorem dX5_putReview_0 : decode cX5_putReview 0 = .ok (.aload_n 0, 1) := by decide +kernel
theorem dX5_putReview_1 : decode cX5_putReview 1 = .ok (.iload_n 1, 1) := by decide +kernel
theorem dX5_putReview_2 : decode cX5_putReview 2 = .ok (.iload_n 2, 1) := by decide +kernel
theorem dX5_putReview_3 : decode cX5_putReview 3 = .ok (.invokevirtual 43, 3) := by decide +kernel
theorem dX5_putReview_6 : decode cX5_putReview 6 = .ok (.ifCond .ne 5, 3) := by decide +kernel
theorem dX5_putReview_9 : decode cX5_putReview 9 = .ok (.iconst 0, 1) := by decide +kernel
theorem dX5_putReview_10 : decode cX5_putReview 10 = .ok (.ireturn, 1) := by decide +kernel
theorem dX5_putReview_11 : decode cX5_putReview 11 = .ok (.aload_n 0, 1) := by decide +kernel
theorem dX5_putReview_12 : decode cX5_putReview 12 = .ok (.getfield 11, 3) := by decide +kernel
theorem dX5_putReview_15 : decode cX5_putReview 15 = .ok (.iload_n 1, 1) := by decide +kernel
theorem dX5_putReview_16 : decode cX5_putReview 16 = .ok (.aaload, 1) := by decide +kernel
theorem dX5_putReview_17 : decode cX5_putReview 17 = .ok (.getfield 60, 3) := by decide +kernel
theorem dX5_putReview_20 : decode cX5_putReview 20 = .ok (.iload_n 2, 1) := by decide +kernel
theorem dX5_putReview_21 : decode cX5_putReview 21 = .ok (.iload_n 3, 1) := by decide +kernel
theorem dX5_putReview_22 : decode cX5_putReview 22 = .ok (.iastore, 1) := by decide +kernel
theorem dX5_putReview_23 : decode cX5_putReview 23 = .ok (.iconst 1, 1) := by decide +kernel
theorem dX5_putReview_24 : decode cX5_putReview 24 = .ok (.ireturn, 1) := by decide +kernel
theorem dX5_putKernel_0 : decode cX5_putKernel 0 = .ok (.aload_n 0, 1) := by decide +kernel
theorem dX5_putKernel_1 : decode cX5_putKernel 1 = .ok (.iload_n 1, 1) := by decide +kernel
theorem dX5_putKernel_2 : decode cX5_putKernel 2 = .ok (.iload_n 2, 1) := by decide +kernel
theorem dX5_putKernel_3 : decode cX5_putKernel 3 = .ok (.invokevirtual 43, 3) := by decide +kernel
theorem dX5_putKernel_6 : decode cX5_putKernel 6 = .ok (.ifCond .eq 15, 3) := by decide +kernel
theorem dX5_putKernel_9 : decode cX5_putKernel 9 = .ok (.aload_n 0, 1) := by decide +kernel
theorem dX5_putKernel_10 : decode cX5_putKernel 10 = .ok (.getfield 11, 3) := by decide +kernel
theorem dX5_putKernel_13 : decode cX5_putKernel 13 = .ok (.iload_n 1, 1) := by decide +kernel
theorem dX5_putKernel_14 : decode cX5_putKernel 14 = .ok (.aaload, 1) := by decide +kernel
theorem dX5_putKernel_15 : decode cX5_putKernel 15 = .ok (.getfield 63, 3) := by decide +kernel
theorem dX5_putKernel_18 : decode cX5_putKernel 18 = .ok (.iload_n 2, 1) := by decide +kernel
theorem dX5_putKernel_19 : decode cX5_putKernel 19 = .ok (.iload_n 3, 1) := by decide +kernel
theorem dX5_putKernel_20 : decode cX5_putKernel 20 = .ok (.iastore, 1) := by decide +kernel
theorem dX5_putKernel_21 : decode cX5_putKernel 21 = .ok (.return_, 1) := by decide +kernel
theorem dX5_putCall_0 : decode cX5_putCall 0 = .ok (.aload_n 0, 1) := by decide +kernel
theorem dX5_putCall_1 : decode cX5_putCall 1 = .ok (.iload_n 1, 1) := by decide +kernel
theorem dX5_putCall_2 : decode cX5_putCall 2 = .ok (.iload_n 2, 1) := by decide +kernel
theorem dX5_putCall_3 : decode cX5_putCall 3 = .ok (.iload_n 3, 1) := by decide +kernel
theorem dX5_putCall_4 : decode cX5_putCall 4 = .ok (.invokevirtual 66, 3) := by decide +kernel
theorem dX5_putCall_7 : decode cX5_putCall 7 = .ok (.ifCond .eq 30, 3) := by decide +kernel
theorem dX5_putCall_10 : decode cX5_putCall 10 = .ok (.iload 4, 2) := by decide +kernel
theorem dX5_putCall_12 : decode cX5_putCall 12 = .ok (.ifCond .lt 25, 3) := by decide +kernel
theorem dX5_putCall_15 : decode cX5_putCall 15 = .ok (.iload 4, 2) := by decide +kernel
theorem dX5_putCall_17 : decode cX5_putCall 17 = .ok (.iconst 3, 1) := by decide +kernel
theorem dX5_putCall_18 : decode cX5_putCall 18 = .ok (.if_icmp .gt 19, 3) := by decide +kernel
theorem dX5_putCall_21 : decode cX5_putCall 21 = .ok (.aload_n 0, 1) := by decide +kernel
theorem dX5_putCall_22 : decode cX5_putCall 22 = .ok (.getfield 11, 3) := by decide +kernel
theorem dX5_putCall_25 : decode cX5_putCall 25 = .ok (.iload_n 1, 1) := by decide +kernel
theorem dX5_putCall_26 : decode cX5_putCall 26 = .ok (.aaload, 1) := by decide +kernel
theorem dX5_putCall_27 : decode cX5_putCall 27 = .ok (.iload_n 2, 1) := by decide +kernel
theorem dX5_putCall_28 : decode cX5_putCall 28 = .ok (.iload_n 3, 1) := by decide +kernel
theorem dX5_putCall_29 : decode cX5_putCall 29 = .ok (.iload 4, 2) := by decide +kernel
theorem dX5_putCall_31 : decode cX5_putCall 31 = .ok (.invokevirtual 70, 3) := by decide +kernel
theorem dX5_putCall_34 : decode cX5_putCall 34 = .ok (.ifCond .ne 5, 3) := by decide +kernel
theorem dX5_putCall_37 : decode cX5_putCall 37 = .ok (.iconst 0, 1) := by decide +kernel
theorem dX5_putCall_38 : decode cX5_putCall 38 = .ok (.ireturn, 1) := by decide +kernel
theorem dX5_putCall_39 : decode cX5_putCall 39 = .ok (.aload_n 0, 1) := by decide +kernel
theorem dX5_putCall_40 : decode cX5_putCall 40 = .ok (.getfield 11, 3) := by decide +kernel
theorem dX5_putCall_43 : decode cX5_putCall 43 = .ok (.iload_n 1, 1) := by decide +kernel
theorem dX5_putCall_44 : decode cX5_putCall 44 = .ok (.aaload, 1) := by decide +kernel
theorem dX5_putCall_45 : decode cX5_putCall 45 = .ok (.getfield 73, 3) := by decide +kernel
theorem dX5_putCall_48 : decode cX5_putCall 48 = .ok (.iconst 3, 1) := by decide +kernel
theorem dX5_putCall_49 : decode cX5_putCall 49 = .ok (.iload_n 2, 1) := by decide +kernel
theorem dX5_putCall_50 : decode cX5_putCall 50 = .ok (.imul, 1) := by decide +kernel
theorem dX5_putCall_51 : decode cX5_putCall 51 = .ok (.iload_n 3, 1) := by decide +kernel
theorem dX5_putCall_52 : decode cX5_putCall 52 = .ok (.iadd, 1) := by decide +kernel
theorem dX5_putCall_53 : decode cX5_putCall 53 = .ok (.iload 4, 2) := by decide +kernel
theorem dX5_putCall_55 : decode cX5_putCall 55 = .ok (.iastore, 1) := by decide +kernel
theorem dX5_putCall_56 : decode cX5_putCall 56 = .ok (.iconst 1, 1) := by decide +kernel
theorem dX5_putCall_57 : decode cX5_putCall 57 = .ok (.ireturn, 1) := by decide +kernel
theorem dX5_putComponent_0 : decode cX5_putComponent 0 = .ok (.aload_n 0, 1) := by decide +kernel
theorem dX5_putComponent_1 : decode cX5_putComponent 1 = .ok (.iload_n 1, 1) := by decide +kernel
theorem dX5_putComponent_2 : decode cX5_putComponent 2 = .ok (.invokevirtual 36, 3) := by decide +kernel
theorem dX5_putComponent_5 : decode cX5_putComponent 5 = .ok (.ifCond .eq 24, 3) := by decide +kernel
theorem dX5_putComponent_8 : decode cX5_putComponent 8 = .ok (.iload_n 2, 1) := by decide +kernel
theorem dX5_putComponent_9 : decode cX5_putComponent 9 = .ok (.ifCond .lt 20, 3) := by decide +kernel
theorem dX5_putComponent_12 : decode cX5_putComponent 12 = .ok (.iload_n 2, 1) := by decide +kernel
theorem dX5_putComponent_13 : decode cX5_putComponent 13 = .ok (.iconst 3, 1) := by decide +kernel
theorem dX5_putComponent_14 : decode cX5_putComponent 14 = .ok (.if_icmp .ge 15, 3) := by decide +kernel
theorem dX5_putComponent_17 : decode cX5_putComponent 17 = .ok (.aload_n 0, 1) := by decide +kernel
theorem dX5_putComponent_18 : decode cX5_putComponent 18 = .ok (.getfield 11, 3) := by decide +kernel
theorem dX5_putComponent_21 : decode cX5_putComponent 21 = .ok (.iload_n 1, 1) := by decide +kernel
theorem dX5_putComponent_22 : decode cX5_putComponent 22 = .ok (.aaload, 1) := by decide +kernel
theorem dX5_putComponent_23 : decode cX5_putComponent 23 = .ok (.getfield 76, 3) := by decide +kernel
theorem dX5_putComponent_26 : decode cX5_putComponent 26 = .ok (.iload_n 2, 1) := by decide +kernel
theorem dX5_putComponent_27 : decode cX5_putComponent 27 = .ok (.iload_n 3, 1) := by decide +kernel
theorem dX5_putComponent_28 : decode cX5_putComponent 28 = .ok (.iastore, 1) := by decide +kernel
theorem dX5_putComponent_29 : decode cX5_putComponent 29 = .ok (.return_, 1) := by decide +kernel
theorem dX5_putPoints_0 : decode cX5_putPoints 0 = .ok (.aload_n 0, 1) := by decide +kernel
theorem dX5_putPoints_1 : decode cX5_putPoints 1 = .ok (.iload_n 1, 1) := by decide +kernel
theorem dX5_putPoints_2 : decode cX5_putPoints 2 = .ok (.invokevirtual 36, 3) := by decide +kernel
theorem dX5_putPoints_5 : decode cX5_putPoints 5 = .ok (.ifCond .ne 5, 3) := by decide +kernel
theorem dX5_putPoints_8 : decode cX5_putPoints 8 = .ok (.iconst 0, 1) := by decide +kernel
theorem dX5_putPoints_9 : decode cX5_putPoints 9 = .ok (.ireturn, 1) := by decide +kernel
theorem dX5_putPoints_10 : decode cX5_putPoints 10 = .ok (.aload_n 0, 1) := by decide +kernel
theorem dX5_putPoints_11 : decode cX5_putPoints 11 = .ok (.getfield 11, 3) := by decide +kernel
theorem dX5_putPoints_14 : decode cX5_putPoints 14 = .ok (.iload_n 1, 1) := by decide +kernel
theorem dX5_putPoints_15 : decode cX5_putPoints 15 = .ok (.aaload, 1) := by decide +kernel
theorem dX5_putPoints_16 : decode cX5_putPoints 16 = .ok (.iload_n 2, 1) := by decide +kernel
theorem dX5_putPoints_17 : decode cX5_putPoints 17 = .ok (.putfield 79, 3) := by decide +kernel
theorem dX5_putPoints_20 : decode cX5_putPoints 20 = .ok (.iconst 1, 1) := by decide +kernel
theorem dX5_putPoints_21 : decode cX5_putPoints 21 = .ok (.ireturn, 1) := by decide +kernel
theorem dX5_putSetting_0 : decode cX5_putSetting 0 = .ok (.iload_n 1, 1) := by decide +kernel
theorem dX5_putSetting_1 : decode cX5_putSetting 1 = .ok (.iload_n 2, 1) := by decide +kernel
theorem dX5_putSetting_2 : decode cX5_putSetting 2 = .ok (.invokestatic 82, 3) := by decide +kernel
theorem dX5_putSetting_5 : decode cX5_putSetting 5 = .ok (.ifCond .ne 5, 3) := by decide +kernel
theorem dX5_putSetting_8 : decode cX5_putSetting 8 = .ok (.iconst 0, 1) := by decide +kernel
theorem dX5_putSetting_9 : decode cX5_putSetting 9 = .ok (.ireturn, 1) := by decide +kernel
theorem dX5_putSetting_10 : decode cX5_putSetting 10 = .ok (.aload_n 0, 1) := by decide +kernel
theorem dX5_putSetting_11 : decode cX5_putSetting 11 = .ok (.getfield 17, 3) := by decide +kernel
theorem dX5_putSetting_14 : decode cX5_putSetting 14 = .ok (.iload_n 1, 1) := by decide +kernel
theorem dX5_putSetting_15 : decode cX5_putSetting 15 = .ok (.iload_n 2, 1) := by decide +kernel
theorem dX5_putSetting_16 : decode cX5_putSetting 16 = .ok (.iastore, 1) := by decide +kernel
theorem dX5_putSetting_17 : decode cX5_putSetting 17 = .ok (.iconst 1, 1) := by decide +kernel
theorem dX5_putSetting_18 : decode cX5_putSetting 18 = .ok (.ireturn, 1) := by decide +kernel
theorem dX6_init_0 : decode cX6_init 0 = .ok (.aload_n 0, 1) := by decide +kernel
theorem dX6_init_1 : decode cX6_init 1 = .ok (.invokespecial 3, 3) := by decide +kernel
theorem dX6_init_4 : decode cX6_init 4 = .ok (.aload_n 0, 1) := by decide +kernel
theorem dX6_init_5 : decode cX6_init 5 = .ok (.bipush 120, 2) := by decide +kernel
theorem dX6_init_7 : decode cX6_init 7 = .ok (.newarray .int, 2) := by decide +kernel
theorem dX6_init_9 : decode cX6_init 9 = .ok (.putfield 11, 3) := by decide +kernel
theorem dX6_init_12 : decode cX6_init 12 = .ok (.return_, 1) := by decide +kernel
theorem dX6_isFull_0 : decode cX6_isFull 0 = .ok (.aload_n 0, 1) := by decide +kernel
theorem dX6_isFull_1 : decode cX6_isFull 1 = .ok (.getfield 15, 3) := by decide +kernel
theorem dX6_isFull_4 : decode cX6_isFull 4 = .ok (.bipush 120, 2) := by decide +kernel
theorem dX6_isFull_6 : decode cX6_isFull 6 = .ok (.if_icmp .lt 7, 3) := by decide +kernel
theorem dX6_isFull_9 : decode cX6_isFull 9 = .ok (.iconst 1, 1) := by decide +kernel
theorem dX6_isFull_10 : decode cX6_isFull 10 = .ok (.goto 4, 3) := by decide +kernel
theorem dX6_isFull_13 : decode cX6_isFull 13 = .ok (.iconst 0, 1) := by decide +kernel
theorem dX6_isFull_14 : decode cX6_isFull 14 = .ok (.ireturn, 1) := by decide +kernel
theorem dX6_put_0 : decode cX6_put 0 = .ok (.aload_n 0, 1) := by decide +kernel
theorem dX6_put_1 : decode cX6_put 1 = .ok (.invokevirtual 19, 3) := by decide +kernel
theorem dX6_put_4 : decode cX6_put 4 = .ok (.ifCond .ne 23, 3) := by decide +kernel
theorem dX6_put_7 : decode cX6_put 7 = .ok (.aload_n 0, 1) := by decide +kernel
theorem dX6_put_8 : decode cX6_put 8 = .ok (.getfield 11, 3) := by decide +kernel
theorem dX6_put_11 : decode cX6_put 11 = .ok (.aload_n 0, 1) := by decide +kernel
theorem dX6_put_12 : decode cX6_put 12 = .ok (.getfield 15, 3) := by decide +kernel
theorem dX6_put_15 : decode cX6_put 15 = .ok (.iload_n 1, 1) := by decide +kernel
theorem dX6_put_16 : decode cX6_put 16 = .ok (.iastore, 1) := by decide +kernel
theorem dX6_put_17 : decode cX6_put 17 = .ok (.aload_n 0, 1) := by decide +kernel
theorem dX6_put_18 : decode cX6_put 18 = .ok (.dup, 1) := by decide +kernel
theorem dX6_put_19 : decode cX6_put 19 = .ok (.getfield 15, 3) := by decide +kernel
theorem dX6_put_22 : decode cX6_put 22 = .ok (.iconst 1, 1) := by decide +kernel
theorem dX6_put_23 : decode cX6_put 23 = .ok (.iadd, 1) := by decide +kernel
theorem dX6_put_24 : decode cX6_put 24 = .ok (.putfield 15, 3) := by decide +kernel
theorem dX6_put_27 : decode cX6_put 27 = .ok (.return_, 1) := by decide +kernel
theorem dX6_sign_0 : decode cX6_sign 0 = .ok (.aload_n 0, 1) := by decide +kernel
theorem dX6_sign_1 : decode cX6_sign 1 = .ok (.getfield 23, 3) := by decide +kernel
theorem dX6_sign_4 : decode cX6_sign 4 = .ok (.aload_n 0, 1) := by decide +kernel
theorem dX6_sign_5 : decode cX6_sign 5 = .ok (.getfield 15, 3) := by decide +kernel
theorem dX6_sign_8 : decode cX6_sign 8 = .ok (.if_icmp .ge 15, 3) := by decide +kernel
theorem dX6_sign_11 : decode cX6_sign 11 = .ok (.aload_n 0, 1) := by decide +kernel
theorem dX6_sign_12 : decode cX6_sign 12 = .ok (.getfield 11, 3) := by decide +kernel
theorem dX6_sign_15 : decode cX6_sign 15 = .ok (.aload_n 0, 1) := by decide +kernel
theorem dX6_sign_16 : decode cX6_sign 16 = .ok (.getfield 23, 3) := by decide +kernel
theorem dX6_sign_19 : decode cX6_sign 19 = .ok (.iaload, 1) := by decide +kernel
theorem dX6_sign_20 : decode cX6_sign 20 = .ok (.goto 4, 3) := by decide +kernel
theorem dX6_sign_23 : decode cX6_sign 23 = .ok (.iconst (-1), 1) := by decide +kernel
theorem dX6_sign_24 : decode cX6_sign 24 = .ok (.ireturn, 1) := by decide +kernel
theorem dX6_readInto_0 : decode cX6_readInto 0 = .ok (.aload_n 1, 1) := by decide +kernel
theorem dX6_readInto_1 : decode cX6_readInto 1 = .ok (.iconst 0, 1) := by decide +kernel
theorem dX6_readInto_2 : decode cX6_readInto 2 = .ok (.putfield 26, 3) := by decide +kernel
theorem dX6_readInto_5 : decode cX6_readInto 5 = .ok (.aload_n 0, 1) := by decide +kernel
theorem dX6_readInto_6 : decode cX6_readInto 6 = .ok (.iconst 0, 1) := by decide +kernel
theorem dX6_readInto_7 : decode cX6_readInto 7 = .ok (.putfield 23, 3) := by decide +kernel
theorem dX6_readInto_10 : decode cX6_readInto 10 = .ok (.iconst 1, 1) := by decide +kernel
theorem dX6_readInto_11 : decode cX6_readInto 11 = .ok (.istore_n 2, 1) := by decide +kernel
theorem dX6_readInto_12 : decode cX6_readInto 12 = .ok (.iconst 1, 1) := by decide +kernel
theorem dX6_readInto_13 : decode cX6_readInto 13 = .ok (.istore_n 3, 1) := by decide +kernel
theorem dX6_readInto_14 : decode cX6_readInto 14 = .ok (.iload_n 3, 1) := by decide +kernel
theorem dX6_readInto_15 : decode cX6_readInto 15 = .ok (.bipush 12, 2) := by decide +kernel
theorem dX6_readInto_17 : decode cX6_readInto 17 = .ok (.if_icmp .gt 65, 3) := by decide +kernel
theorem dX6_readInto_20 : decode cX6_readInto 20 = .ok (.iload_n 2, 1) := by decide +kernel
theorem dX6_readInto_21 : decode cX6_readInto 21 = .ok (.ifCond .eq 61, 3) := by decide +kernel
theorem dX6_readInto_24 : decode cX6_readInto 24 = .ok (.aload_n 0, 1) := by decide +kernel
theorem dX6_readInto_25 : decode cX6_readInto 25 = .ok (.aload_n 1, 1) := by decide +kernel
theorem dX6_readInto_26 : decode cX6_readInto 26 = .ok (.invokevirtual 31, 3) := by decide +kernel
theorem dX6_readInto_29 : decode cX6_readInto 29 = .ok (.ifCond .ne 8, 3) := by decide +kernel
theorem dX6_readInto_32 : decode cX6_readInto 32 = .ok (.aload_n 0, 1) := by decide +kernel
theorem dX6_readInto_33 : decode cX6_readInto 33 = .ok (.getfield 23, 3) := by decide +kernel
theorem dX6_readInto_36 : decode cX6_readInto 36 = .ok (.ireturn, 1) := by decide +kernel
theorem dX6_readInto_37 : decode cX6_readInto 37 = .ok (.aload_n 0, 1) := by decide +kernel
theorem dX6_readInto_38 : decode cX6_readInto 38 = .ok (.invokevirtual 35, 3) := by decide +kernel
theorem dX6_readInto_41 : decode cX6_readInto 41 = .ok (.bipush 59, 2) := by decide +kernel
theorem dX6_readInto_43 : decode cX6_readInto 43 = .ok (.if_icmp .ne 13, 3) := by decide +kernel
theorem dX6_readInto_46 : decode cX6_readInto 46 = .ok (.iload_n 3, 1) := by decide +kernel
theorem dX6_readInto_47 : decode cX6_readInto 47 = .ok (.bipush 12, 2) := by decide +kernel
theorem dX6_readInto_49 : decode cX6_readInto 49 = .ok (.if_icmp .ge 7, 3) := by decide +kernel
theorem dX6_readInto_52 : decode cX6_readInto 52 = .ok (.iconst 1, 1) := by decide +kernel
theorem dX6_readInto_53 : decode cX6_readInto 53 = .ok (.goto 4, 3) := by decide +kernel
theorem dX6_readInto_56 : decode cX6_readInto 56 = .ok (.iconst 0, 1) := by decide +kernel
theorem dX6_readInto_57 : decode cX6_readInto 57 = .ok (.istore_n 2, 1) := by decide +kernel
theorem dX6_readInto_58 : decode cX6_readInto 58 = .ok (.aload_n 0, 1) := by decide +kernel
theorem dX6_readInto_59 : decode cX6_readInto 59 = .ok (.dup, 1) := by decide +kernel
theorem dX6_readInto_60 : decode cX6_readInto 60 = .ok (.getfield 23, 3) := by decide +kernel
theorem dX6_readInto_63 : decode cX6_readInto 63 = .ok (.iload_n 2, 1) := by decide +kernel
theorem dX6_readInto_64 : decode cX6_readInto 64 = .ok (.ifCond .eq 7, 3) := by decide +kernel
theorem dX6_readInto_67 : decode cX6_readInto 67 = .ok (.iconst 1, 1) := by decide +kernel
theorem dX6_readInto_68 : decode cX6_readInto 68 = .ok (.goto 4, 3) := by decide +kernel
theorem dX6_readInto_71 : decode cX6_readInto 71 = .ok (.iconst 0, 1) := by decide +kernel
theorem dX6_readInto_72 : decode cX6_readInto 72 = .ok (.iadd, 1) := by decide +kernel
theorem dX6_readInto_73 : decode cX6_readInto 73 = .ok (.putfield 23, 3) := by decide +kernel
theorem dX6_readInto_76 : decode cX6_readInto 76 = .ok (.iinc 3 1, 3) := by decide +kernel
theorem dX6_readInto_79 : decode cX6_readInto 79 = .ok (.goto (-65), 3) := by decide +kernel
theorem dX6_readInto_82 : decode cX6_readInto 82 = .ok (.aload_n 0, 1) := by decide +kernel
theorem dX6_readInto_83 : decode cX6_readInto 83 = .ok (.getfield 23, 3) := by decide +kernel
theorem dX6_readInto_86 : decode cX6_readInto 86 = .ok (.aload_n 0, 1) := by decide +kernel
theorem dX6_readInto_87 : decode cX6_readInto 87 = .ok (.getfield 15, 3) := by decide +kernel
theorem dX6_readInto_90 : decode cX6_readInto 90 = .ok (.if_icmp .ne 7, 3) := by decide +kernel
theorem dX6_readInto_93 : decode cX6_readInto 93 = .ok (.iconst (-1), 1) := by decide +kernel
theorem dX6_readInto_94 : decode cX6_readInto 94 = .ok (.goto 7, 3) := by decide +kernel
theorem dX6_readInto_97 : decode cX6_readInto 97 = .ok (.aload_n 0, 1) := by decide +kernel
theorem dX6_readInto_98 : decode cX6_readInto 98 = .ok (.getfield 23, 3) := by decide +kernel
theorem dX6_readInto_101 : decode cX6_readInto 101 = .ok (.ireturn, 1) := by decide +kernel
theorem dX6_readElement_0 : decode cX6_readElement 0 = .ok (.aload_n 0, 1) := by decide +kernel
theorem dX6_readElement_1 : decode cX6_readElement 1 = .ok (.invokevirtual 35, 3) := by decide +kernel
theorem dX6_readElement_4 : decode cX6_readElement 4 = .ok (.bipush 112, 2) := by decide +kernel
theorem dX6_readElement_6 : decode cX6_readElement 6 = .ok (.if_icmp .ne 10, 3) := by decide +kernel
theorem dX6_readElement_9 : decode cX6_readElement 9 = .ok (.aload_n 0, 1) := by decide +kernel
theorem dX6_readElement_10 : decode cX6_readElement 10 = .ok (.aload_n 1, 1) := by decide +kernel
theorem dX6_readElement_11 : decode cX6_readElement 11 = .ok (.iconst 1, 1) := by decide +kernel
theorem dX6_readElement_12 : decode cX6_readElement 12 = .ok (.invokevirtual 39, 3) := by decide +kernel
theorem dX6_readElement_15 : decode cX6_readElement 15 = .ok (.ireturn, 1) := by decide +kernel
theorem dX6_readElement_16 : decode cX6_readElement 16 = .ok (.aload_n 0, 1) := by decide +kernel
theorem dX6_readElement_17 : decode cX6_readElement 17 = .ok (.invokevirtual 35, 3) := by decide +kernel
theorem dX6_readElement_20 : decode cX6_readElement 20 = .ok (.bipush 115, 2) := by decide +kernel
theorem dX6_readElement_22 : decode cX6_readElement 22 = .ok (.if_icmp .ne 10, 3) := by decide +kernel
theorem dX6_readElement_25 : decode cX6_readElement 25 = .ok (.aload_n 0, 1) := by decide +kernel
theorem dX6_readElement_26 : decode cX6_readElement 26 = .ok (.aload_n 1, 1) := by decide +kernel
theorem dX6_readElement_27 : decode cX6_readElement 27 = .ok (.iconst 2, 1) := by decide +kernel
theorem dX6_readElement_28 : decode cX6_readElement 28 = .ok (.invokevirtual 39, 3) := by decide +kernel
theorem dX6_readElement_31 : decode cX6_readElement 31 = .ok (.ireturn, 1) := by decide +kernel
theorem dX6_readElement_32 : decode cX6_readElement 32 = .ok (.aload_n 0, 1) := by decide +kernel
theorem dX6_readElement_33 : decode cX6_readElement 33 = .ok (.aload_n 1, 1) := by decide +kernel
theorem dX6_readElement_34 : decode cX6_readElement 34 = .ok (.invokevirtual 43, 3) := by decide +kernel
theorem dX6_readElement_37 : decode cX6_readElement 37 = .ok (.ireturn, 1) := by decide +kernel
theorem dX6_readLevel_0 : decode cX6_readLevel 0 = .ok (.aload_n 0, 1) := by decide +kernel
theorem dX6_readLevel_1 : decode cX6_readLevel 1 = .ok (.dup, 1) := by decide +kernel
theorem dX6_readLevel_2 : decode cX6_readLevel 2 = .ok (.getfield 23, 3) := by decide +kernel
theorem dX6_readLevel_5 : decode cX6_readLevel 5 = .ok (.iconst 1, 1) := by decide +kernel
theorem dX6_readLevel_6 : decode cX6_readLevel 6 = .ok (.iadd, 1) := by decide +kernel
theorem dX6_readLevel_7 : decode cX6_readLevel 7 = .ok (.putfield 23, 3) := by decide +kernel
theorem dX6_readLevel_10 : decode cX6_readLevel 10 = .ok (.aload_n 0, 1) := by decide +kernel
theorem dX6_readLevel_11 : decode cX6_readLevel 11 = .ok (.invokevirtual 35, 3) := by decide +kernel
theorem dX6_readLevel_14 : decode cX6_readLevel 14 = .ok (.bipush 48, 2) := by decide +kernel
theorem dX6_readLevel_16 : decode cX6_readLevel 16 = .ok (.isub, 1) := by decide +kernel
theorem dX6_readLevel_17 : decode cX6_readLevel 17 = .ok (.istore_n 3, 1) := by decide +kernel
theorem dX6_readLevel_18 : decode cX6_readLevel 18 = .ok (.iload_n 3, 1) := by decide +kernel
theorem dX6_readLevel_19 : decode cX6_readLevel 19 = .ok (.ifCond .lt 8, 3) := by decide +kernel
theorem dX6_readLevel_22 : decode cX6_readLevel 22 = .ok (.iload_n 3, 1) := by decide +kernel
theorem dX6_readLevel_23 : decode cX6_readLevel 23 = .ok (.iconst 4, 1) := by decide +kernel
theorem dX6_readLevel_24 : decode cX6_readLevel 24 = .ok (.if_icmp .le 5, 3) := by decide +kernel
theorem dX6_readLevel_27 : decode cX6_readLevel 27 = .ok (.iconst 0, 1) := by decide +kernel
theorem dX6_readLevel_28 : decode cX6_readLevel 28 = .ok (.ireturn, 1) := by decide +kernel
theorem dX6_readLevel_29 : decode cX6_readLevel 29 = .ok (.aload_n 0, 1) := by decide +kernel
theorem dX6_readLevel_30 : decode cX6_readLevel 30 = .ok (.dup, 1) := by decide +kernel
theorem dX6_readLevel_31 : decode cX6_readLevel 31 = .ok (.getfield 23, 3) := by decide +kernel
theorem dX6_readLevel_34 : decode cX6_readLevel 34 = .ok (.iconst 1, 1) := by decide +kernel
theorem dX6_readLevel_35 : decode cX6_readLevel 35 = .ok (.iadd, 1) := by decide +kernel
theorem dX6_readLevel_36 : decode cX6_readLevel 36 = .ok (.putfield 23, 3) := by decide +kernel
theorem dX6_readLevel_39 : decode cX6_readLevel 39 = .ok (.aload_n 1, 1) := by decide +kernel
theorem dX6_readLevel_40 : decode cX6_readLevel 40 = .ok (.iload_n 2, 1) := by decide +kernel
theorem dX6_readLevel_41 : decode cX6_readLevel 41 = .ok (.invokevirtual 46, 3) := by decide +kernel
theorem dX6_readLevel_44 : decode cX6_readLevel 44 = .ok (.aload_n 1, 1) := by decide +kernel
theorem dX6_readLevel_45 : decode cX6_readLevel 45 = .ok (.iconst (-1), 1) := by decide +kernel
theorem dX6_readLevel_46 : decode cX6_readLevel 46 = .ok (.iload_n 3, 1) := by decide +kernel
theorem dX6_readLevel_47 : decode cX6_readLevel 47 = .ok (.iconst 0, 1) := by decide +kernel
theorem dX6_readLevel_48 : decode cX6_readLevel 48 = .ok (.invokevirtual 50, 3) := by decide +kernel
theorem dX6_readLevel_51 : decode cX6_readLevel 51 = .ok (.iconst 1, 1) := by decide +kernel
theorem dX6_readLevel_52 : decode cX6_readLevel 52 = .ok (.ireturn, 1) := by decide +kernel
theorem dX6_readChain_0 : decode cX6_readChain 0 = .ok (.aload_n 1, 1) := by decide +kernel
theorem dX6_readChain_1 : decode cX6_readChain 1 = .ok (.iconst 0, 1) := by decide +kernel
theorem dX6_readChain_2 : decode cX6_readChain 2 = .ok (.invokevirtual 46, 3) := by decide +kernel
theorem dX6_readChain_5 : decode cX6_readChain 5 = .ok (.iconst 1, 1) := by decide +kernel
theorem dX6_readChain_6 : decode cX6_readChain 6 = .ok (.istore_n 2, 1) := by decide +kernel
theorem dX6_readChain_7 : decode cX6_readChain 7 = .ok (.iconst 1, 1) := by decide +kernel
theorem dX6_readChain_8 : decode cX6_readChain 8 = .ok (.istore_n 3, 1) := by decide +kernel
theorem dX6_readChain_9 : decode cX6_readChain 9 = .ok (.iload_n 3, 1) := by decide +kernel
theorem dX6_readChain_10 : decode cX6_readChain 10 = .ok (.iconst 3, 1) := by decide +kernel
theorem dX6_readChain_11 : decode cX6_readChain 11 = .ok (.if_icmp .gt 61, 3) := by decide +kernel
theorem dX6_readChain_14 : decode cX6_readChain 14 = .ok (.iload_n 2, 1) := by decide +kernel
theorem dX6_readChain_15 : decode cX6_readChain 15 = .ok (.ifCond .eq 57, 3) := by decide +kernel
theorem dX6_readChain_18 : decode cX6_readChain 18 = .ok (.aload_n 0, 1) := by decide +kernel
theorem dX6_readChain_19 : decode cX6_readChain 19 = .ok (.aload_n 1, 1) := by decide +kernel
theorem dX6_readChain_20 : decode cX6_readChain 20 = .ok (.invokevirtual 54, 3) := by decide +kernel
theorem dX6_readChain_23 : decode cX6_readChain 23 = .ok (.ifCond .ne 5, 3) := by decide +kernel
theorem dX6_readChain_26 : decode cX6_readChain 26 = .ok (.iconst 0, 1) := by decide +kernel
theorem dX6_readChain_27 : decode cX6_readChain 27 = .ok (.ireturn, 1) := by decide +kernel
theorem dX6_readChain_28 : decode cX6_readChain 28 = .ok (.aload_n 0, 1) := by decide +kernel
theorem dX6_readChain_29 : decode cX6_readChain 29 = .ok (.invokevirtual 35, 3) := by decide +kernel
theorem dX6_readChain_32 : decode cX6_readChain 32 = .ok (.bipush 43, 2) := by decide +kernel
theorem dX6_readChain_34 : decode cX6_readChain 34 = .ok (.if_icmp .ne 12, 3) := by decide +kernel
theorem dX6_readChain_37 : decode cX6_readChain 37 = .ok (.iload_n 3, 1) := by decide +kernel
theorem dX6_readChain_38 : decode cX6_readChain 38 = .ok (.iconst 3, 1) := by decide +kernel
theorem dX6_readChain_39 : decode cX6_readChain 39 = .ok (.if_icmp .ge 7, 3) := by decide +kernel
theorem dX6_readChain_42 : decode cX6_readChain 42 = .ok (.iconst 1, 1) := by decide +kernel
theorem dX6_readChain_43 : decode cX6_readChain 43 = .ok (.goto 4, 3) := by decide +kernel
theorem dX6_readChain_46 : decode cX6_readChain 46 = .ok (.iconst 0, 1) := by decide +kernel
theorem dX6_readChain_47 : decode cX6_readChain 47 = .ok (.istore_n 2, 1) := by decide +kernel
theorem dX6_readChain_48 : decode cX6_readChain 48 = .ok (.aload_n 0, 1) := by decide +kernel
theorem dX6_readChain_49 : decode cX6_readChain 49 = .ok (.dup, 1) := by decide +kernel
theorem dX6_readChain_50 : decode cX6_readChain 50 = .ok (.getfield 23, 3) := by decide +kernel
theorem dX6_readChain_53 : decode cX6_readChain 53 = .ok (.iload_n 2, 1) := by decide +kernel
theorem dX6_readChain_54 : decode cX6_readChain 54 = .ok (.ifCond .eq 7, 3) := by decide +kernel
theorem dX6_readChain_57 : decode cX6_readChain 57 = .ok (.iconst 1, 1) := by decide +kernel
theorem dX6_readChain_58 : decode cX6_readChain 58 = .ok (.goto 4, 3) := by decide +kernel
theorem dX6_readChain_61 : decode cX6_readChain 61 = .ok (.iconst 0, 1) := by decide +kernel
theorem dX6_readChain_62 : decode cX6_readChain 62 = .ok (.iadd, 1) := by decide +kernel
theorem dX6_readChain_63 : decode cX6_readChain 63 = .ok (.putfield 23, 3) := by decide +kernel
theorem dX6_readChain_66 : decode cX6_readChain 66 = .ok (.iinc 3 1, 3) := by decide +kernel
theorem dX6_readChain_69 : decode cX6_readChain 69 = .ok (.goto (-60), 3) := by decide +kernel
theorem dX6_readChain_72 : decode cX6_readChain 72 = .ok (.iconst 1, 1) := by decide +kernel
theorem dX6_readChain_73 : decode cX6_readChain 73 = .ok (.ireturn, 1) := by decide +kernel
theorem dX6_readJump_0 : decode cX6_readJump 0 = .ok (.aload_n 0, 1) := by decide +kernel
theorem dX6_readJump_1 : decode cX6_readJump 1 = .ok (.invokevirtual 35, 3) := by decide +kernel
theorem dX6_readJump_4 : decode cX6_readJump 4 = .ok (.bipush 48, 2) := by decide +kernel
theorem dX6_readJump_6 : decode cX6_readJump 6 = .ok (.isub, 1) := by decide +kernel
theorem dX6_readJump_7 : decode cX6_readJump 7 = .ok (.istore_n 2, 1) := by decide +kernel
theorem dX6_readJump_8 : decode cX6_readJump 8 = .ok (.iload_n 2, 1) := by decide +kernel
theorem dX6_readJump_9 : decode cX6_readJump 9 = .ok (.iconst 1, 1) := by decide +kernel
theorem dX6_readJump_10 : decode cX6_readJump 10 = .ok (.if_icmp .lt 8, 3) := by decide +kernel
theorem dX6_readJump_13 : decode cX6_readJump 13 = .ok (.iload_n 2, 1) := by decide +kernel
theorem dX6_readJump_14 : decode cX6_readJump 14 = .ok (.iconst 4, 1) := by decide +kernel
theorem dX6_readJump_15 : decode cX6_readJump 15 = .ok (.if_icmp .le 5, 3) := by decide +kernel
theorem dX6_readJump_18 : decode cX6_readJump 18 = .ok (.iconst 0, 1) := by decide +kernel
theorem dX6_readJump_19 : decode cX6_readJump 19 = .ok (.ireturn, 1) := by decide +kernel
theorem dX6_readJump_20 : decode cX6_readJump 20 = .ok (.aload_n 0, 1) := by decide +kernel
theorem dX6_readJump_21 : decode cX6_readJump 21 = .ok (.dup, 1) := by decide +kernel
theorem dX6_readJump_22 : decode cX6_readJump 22 = .ok (.getfield 23, 3) := by decide +kernel
theorem dX6_readJump_25 : decode cX6_readJump 25 = .ok (.iconst 1, 1) := by decide +kernel
theorem dX6_readJump_26 : decode cX6_readJump 26 = .ok (.iadd, 1) := by decide +kernel
theorem dX6_readJump_27 : decode cX6_readJump 27 = .ok (.putfield 23, 3) := by decide +kernel
theorem dX6_readJump_30 : decode cX6_readJump 30 = .ok (.aload_n 0, 1) := by decide +kernel
theorem dX6_readJump_31 : decode cX6_readJump 31 = .ok (.invokevirtual 35, 3) := by decide +kernel
theorem dX6_readJump_34 : decode cX6_readJump 34 = .ok (.invokestatic 57, 3) := by decide +kernel
theorem dX6_readJump_37 : decode cX6_readJump 37 = .ok (.istore_n 3, 1) := by decide +kernel
theorem dX6_readJump_38 : decode cX6_readJump 38 = .ok (.iload_n 3, 1) := by decide +kernel
theorem dX6_readJump_39 : decode cX6_readJump 39 = .ok (.iconst (-1), 1) := by decide +kernel
theorem dX6_readJump_40 : decode cX6_readJump 40 = .ok (.if_icmp .ne 5, 3) := by decide +kernel
theorem dX6_readJump_43 : decode cX6_readJump 43 = .ok (.iconst 0, 1) := by decide +kernel
theorem dX6_readJump_44 : decode cX6_readJump 44 = .ok (.ireturn, 1) := by decide +kernel
theorem dX6_readJump_45 : decode cX6_readJump 45 = .ok (.aload_n 0, 1) := by decide +kernel
theorem dX6_readJump_46 : decode cX6_readJump 46 = .ok (.dup, 1) := by decide +kernel
theorem dX6_readJump_47 : decode cX6_readJump 47 = .ok (.getfield 23, 3) := by decide +kernel
theorem dX6_readJump_50 : decode cX6_readJump 50 = .ok (.iconst 1, 1) := by decide +kernel
theorem dX6_readJump_51 : decode cX6_readJump 51 = .ok (.iadd, 1) := by decide +kernel
theorem dX6_readJump_52 : decode cX6_readJump 52 = .ok (.putfield 23, 3) := by decide +kernel
theorem dX6_readJump_55 : decode cX6_readJump 55 = .ok (.aload_n 0, 1) := by decide +kernel
theorem dX6_readJump_56 : decode cX6_readJump 56 = .ok (.invokevirtual 35, 3) := by decide +kernel
theorem dX6_readJump_59 : decode cX6_readJump 59 = .ok (.iload_n 3, 1) := by decide +kernel
theorem dX6_readJump_60 : decode cX6_readJump 60 = .ok (.invokestatic 61, 3) := by decide +kernel
theorem dX6_readJump_63 : decode cX6_readJump 63 = .ok (.istore 4, 2) := by decide +kernel
theorem dX6_readJump_65 : decode cX6_readJump 65 = .ok (.aload_n 0, 1) := by decide +kernel
theorem dX6_readJump_66 : decode cX6_readJump 66 = .ok (.dup, 1) := by decide +kernel
theorem dX6_readJump_67 : decode cX6_readJump 67 = .ok (.getfield 23, 3) := by decide +kernel
theorem dX6_readJump_70 : decode cX6_readJump 70 = .ok (.iload 4, 2) := by decide +kernel
theorem dX6_readJump_72 : decode cX6_readJump 72 = .ok (.ifCond .eq 7, 3) := by decide +kernel
theorem dX6_readJump_75 : decode cX6_readJump 75 = .ok (.iconst 1, 1) := by decide +kernel
theorem dX6_readJump_76 : decode cX6_readJump 76 = .ok (.goto 4, 3) := by decide +kernel
theorem dX6_readJump_79 : decode cX6_readJump 79 = .ok (.iconst 0, 1) := by decide +kernel
theorem dX6_readJump_80 : decode cX6_readJump 80 = .ok (.iadd, 1) := by decide +kernel
theorem dX6_readJump_81 : decode cX6_readJump 81 = .ok (.putfield 23, 3) := by decide +kernel
theorem dX6_readJump_84 : decode cX6_readJump 84 = .ok (.aload_n 1, 1) := by decide +kernel
theorem dX6_readJump_85 : decode cX6_readJump 85 = .ok (.iload_n 3, 1) := by decide +kernel
theorem dX6_readJump_86 : decode cX6_readJump 86 = .ok (.iload_n 2, 1) := by decide +kernel
theorem dX6_readJump_87 : decode cX6_readJump 87 = .ok (.iload 4, 2) := by decide +kernel
theorem dX6_readJump_89 : decode cX6_readJump 89 = .ok (.invokevirtual 50, 3) := by decide +kernel
theorem dX6_readJump_92 : decode cX6_readJump 92 = .ok (.iconst 1, 1) := by decide +kernel
theorem dX6_readJump_93 : decode cX6_readJump 93 = .ok (.ireturn, 1) := by decide +kernel
theorem dX6_kindOf_0 : decode cX6_kindOf 0 = .ok (.iload_n 0, 1) := by decide +kernel
theorem dX6_kindOf_1 : decode cX6_kindOf 1 = .ok (.lookupswitch 71 #[(65, 69), (70, 65), (79, 63), (83, 61), (84, 59), (90, 67)], 59) := by decide +kernel
theorem dX6_kindOf_60 : decode cX6_kindOf 60 = .ok (.iconst 0, 1) := by decide +kernel
theorem dX6_kindOf_61 : decode cX6_kindOf 61 = .ok (.ireturn, 1) := by decide +kernel
theorem dX6_kindOf_62 : decode cX6_kindOf 62 = .ok (.iconst 1, 1) := by decide +kernel
theorem dX6_kindOf_63 : decode cX6_kindOf 63 = .ok (.ireturn, 1) := by decide +kernel
theorem dX6_kindOf_64 : decode cX6_kindOf 64 = .ok (.iconst 2, 1) := by decide +kernel
theorem dX6_kindOf_65 : decode cX6_kindOf 65 = .ok (.ireturn, 1) := by decide +kernel
theorem dX6_kindOf_66 : decode cX6_kindOf 66 = .ok (.iconst 3, 1) := by decide +kernel
theorem dX6_kindOf_67 : decode cX6_kindOf 67 = .ok (.ireturn, 1) := by decide +kernel
theorem dX6_kindOf_68 : decode cX6_kindOf 68 = .ok (.iconst 4, 1) := by decide +kernel
theorem dX6_kindOf_69 : decode cX6_kindOf 69 = .ok (.ireturn, 1) := by decide +kernel
theorem dX6_kindOf_70 : decode cX6_kindOf 70 = .ok (.iconst 5, 1) := by decide +kernel
theorem dX6_kindOf_71 : decode cX6_kindOf 71 = .ok (.ireturn, 1) := by decide +kernel
theorem dX6_kindOf_72 : decode cX6_kindOf 72 = .ok (.iconst (-1), 1) := by decide +kernel
theorem dX6_kindOf_73 : decode cX6_kindOf 73 = .ok (.ireturn, 1) := by decide +kernel
theorem dX6_callOf_0 : decode cX6_callOf 0 = .ok (.iload_n 0, 1) := by decide +kernel
theorem dX6_callOf_1 : decode cX6_callOf 1 = .ok (.lookupswitch 52 #[(33, 37), (60, 35), (101, 39)], 35) := by decide +kernel
theorem dX6_callOf_36 : decode cX6_callOf 36 = .ok (.iconst 1, 1) := by decide +kernel
theorem dX6_callOf_37 : decode cX6_callOf 37 = .ok (.ireturn, 1) := by decide +kernel
theorem dX6_callOf_38 : decode cX6_callOf 38 = .ok (.iconst 2, 1) := by decide +kernel
theorem dX6_callOf_39 : decode cX6_callOf 39 = .ok (.ireturn, 1) := by decide +kernel
theorem dX6_callOf_40 : decode cX6_callOf 40 = .ok (.iload_n 1, 1) := by decide +kernel
theorem dX6_callOf_41 : decode cX6_callOf 41 = .ok (.invokestatic 65, 3) := by decide +kernel
theorem dX6_callOf_44 : decode cX6_callOf 44 = .ok (.ifCond .eq 7, 3) := by decide +kernel
theorem dX6_callOf_47 : decode cX6_callOf 47 = .ok (.iconst 3, 1) := by decide +kernel
theorem dX6_callOf_48 : decode cX6_callOf 48 = .ok (.goto 4, 3) := by decide +kernel
theorem dX6_callOf_51 : decode cX6_callOf 51 = .ok (.iconst 0, 1) := by decide +kernel
theorem dX6_callOf_52 : decode cX6_callOf 52 = .ok (.ireturn, 1) := by decide +kernel
theorem dX6_callOf_53 : decode cX6_callOf 53 = .ok (.iconst 0, 1) := by decide +kernel
theorem dX6_callOf_54 : decode cX6_callOf 54 = .ok (.ireturn, 1) := by decide +kernel
theorem dX7_init_0 : decode cX7_init 0 = .ok (.aload_n 0, 1) := by decide +kernel
theorem dX7_init_1 : decode cX7_init 1 = .ok (.invokespecial 1, 3) := by decide +kernel
theorem dX7_init_4 : decode cX7_init 4 = .ok (.aload_n 0, 1) := by decide +kernel
theorem dX7_init_5 : decode cX7_init 5 = .ok (.new 7, 3) := by decide +kernel
theorem dX7_init_8 : decode cX7_init 8 = .ok (.dup, 1) := by decide +kernel
theorem dX7_init_9 : decode cX7_init 9 = .ok (.invokespecial 9, 3) := by decide +kernel
theorem dX7_init_12 : decode cX7_init 12 = .ok (.putfield 10, 3) := by decide +kernel
theorem dX7_init_15 : decode cX7_init 15 = .ok (.aload_n 0, 1) := by decide +kernel
theorem dX7_init_16 : decode cX7_init 16 = .ok (.new 16, 3) := by decide +kernel
theorem dX7_init_19 : decode cX7_init 19 = .ok (.dup, 1) := by decide +kernel
theorem dX7_init_20 : decode cX7_init 20 = .ok (.invokespecial 18, 3) := by decide +kernel
theorem dX7_init_23 : decode cX7_init 23 = .ok (.putfield 19, 3) := by decide +kernel
theorem dX7_init_26 : decode cX7_init 26 = .ok (.aload_n 0, 1) := by decide +kernel
theorem dX7_init_27 : decode cX7_init 27 = .ok (.iconst 2, 1) := by decide +kernel
theorem dX7_init_28 : decode cX7_init 28 = .ok (.anewarray 7, 3) := by decide +kernel
theorem dX7_init_31 : decode cX7_init 31 = .ok (.putfield 23, 3) := by decide +kernel
theorem dX7_init_34 : decode cX7_init 34 = .ok (.iconst 0, 1) := by decide +kernel
theorem dX7_init_35 : decode cX7_init 35 = .ok (.istore_n 1, 1) := by decide +kernel
theorem dX7_init_36 : decode cX7_init 36 = .ok (.iload_n 1, 1) := by decide +kernel
theorem dX7_init_37 : decode cX7_init 37 = .ok (.iconst 2, 1) := by decide +kernel
theorem dX7_init_38 : decode cX7_init 38 = .ok (.if_icmp .ge 22, 3) := by decide +kernel
theorem dX7_init_41 : decode cX7_init 41 = .ok (.aload_n 0, 1) := by decide +kernel
theorem dX7_init_42 : decode cX7_init 42 = .ok (.getfield 23, 3) := by decide +kernel
theorem dX7_init_45 : decode cX7_init 45 = .ok (.iload_n 1, 1) := by decide +kernel
theorem dX7_init_46 : decode cX7_init 46 = .ok (.new 7, 3) := by decide +kernel
theorem dX7_init_49 : decode cX7_init 49 = .ok (.dup, 1) := by decide +kernel
theorem dX7_init_50 : decode cX7_init 50 = .ok (.invokespecial 9, 3) := by decide +kernel
theorem dX7_init_53 : decode cX7_init 53 = .ok (.aastore, 1) := by decide +kernel
theorem dX7_init_54 : decode cX7_init 54 = .ok (.iinc 1 1, 3) := by decide +kernel
theorem dX7_init_57 : decode cX7_init 57 = .ok (.goto (-21), 3) := by decide +kernel
theorem dX7_init_60 : decode cX7_init 60 = .ok (.aload_n 0, 1) := by decide +kernel
theorem dX7_init_61 : decode cX7_init 61 = .ok (.iconst 2, 1) := by decide +kernel
theorem dX7_init_62 : decode cX7_init 62 = .ok (.newarray .boolean, 2) := by decide +kernel
theorem dX7_init_64 : decode cX7_init 64 = .ok (.putfield 27, 3) := by decide +kernel
theorem dX7_init_67 : decode cX7_init 67 = .ok (.aload_n 0, 1) := by decide +kernel
theorem dX7_init_68 : decode cX7_init 68 = .ok (.new 31, 3) := by decide +kernel
theorem dX7_init_71 : decode cX7_init 71 = .ok (.dup, 1) := by decide +kernel
theorem dX7_init_72 : decode cX7_init 72 = .ok (.invokespecial 33, 3) := by decide +kernel
theorem dX7_init_75 : decode cX7_init 75 = .ok (.putfield 34, 3) := by decide +kernel
theorem dX7_init_78 : decode cX7_init 78 = .ok (.aload_n 0, 1) := by decide +kernel
theorem dX7_init_79 : decode cX7_init 79 = .ok (.new 38, 3) := by decide +kernel
theorem dX7_init_82 : decode cX7_init 82 = .ok (.dup, 1) := by decide +kernel
theorem dX7_init_83 : decode cX7_init 83 = .ok (.invokespecial 40, 3) := by decide +kernel
theorem dX7_init_86 : decode cX7_init 86 = .ok (.putfield 41, 3) := by decide +kernel
theorem dX7_init_89 : decode cX7_init 89 = .ok (.aload_n 0, 1) := by decide +kernel
theorem dX7_init_90 : decode cX7_init 90 = .ok (.new 45, 3) := by decide +kernel
theorem dX7_init_93 : decode cX7_init 93 = .ok (.dup, 1) := by decide +kernel
theorem dX7_init_94 : decode cX7_init 94 = .ok (.invokespecial 47, 3) := by decide +kernel
theorem dX7_init_97 : decode cX7_init 97 = .ok (.putfield 48, 3) := by decide +kernel
theorem dX7_init_100 : decode cX7_init 100 = .ok (.aload_n 0, 1) := by decide +kernel
theorem dX7_init_101 : decode cX7_init 101 = .ok (.new 52, 3) := by decide +kernel
theorem dX7_init_104 : decode cX7_init 104 = .ok (.dup, 1) := by decide +kernel
theorem dX7_init_105 : decode cX7_init 105 = .ok (.invokespecial 54, 3) := by decide +kernel
theorem dX7_init_108 : decode cX7_init 108 = .ok (.putfield 55, 3) := by decide +kernel
theorem dX7_init_111 : decode cX7_init 111 = .ok (.aload_n 0, 1) := by decide +kernel
theorem dX7_init_112 : decode cX7_init 112 = .ok (.new 7, 3) := by decide +kernel
theorem dX7_init_115 : decode cX7_init 115 = .ok (.dup, 1) := by decide +kernel
theorem dX7_init_116 : decode cX7_init 116 = .ok (.invokespecial 9, 3) := by decide +kernel
theorem dX7_init_119 : decode cX7_init 119 = .ok (.putfield 59, 3) := by decide +kernel
theorem dX7_init_122 : decode cX7_init 122 = .ok (.aload_n 0, 1) := by decide +kernel
theorem dX7_init_123 : decode cX7_init 123 = .ok (.new 62, 3) := by decide +kernel
theorem dX7_init_126 : decode cX7_init 126 = .ok (.dup, 1) := by decide +kernel
theorem dX7_init_127 : decode cX7_init 127 = .ok (.invokespecial 64, 3) := by decide +kernel
theorem dX7_init_130 : decode cX7_init 130 = .ok (.putfield 65, 3) := by decide +kernel
theorem dX7_init_133 : decode cX7_init 133 = .ok (.return_, 1) := by decide +kernel
theorem dX7_append_0 : decode cX7_append 0 = .ok (.iload_n 1, 1) := by decide +kernel
theorem dX7_append_1 : decode cX7_append 1 = .ok (.ifCond .lt 10, 3) := by decide +kernel
theorem dX7_append_4 : decode cX7_append 4 = .ok (.iload_n 1, 1) := by decide +kernel
theorem dX7_append_5 : decode cX7_append 5 = .ok (.sipush 255, 3) := by decide +kernel
theorem dX7_append_8 : decode cX7_append 8 = .ok (.if_icmp .le 13, 3) := by decide +kernel
theorem dX7_append_11 : decode cX7_append 11 = .ok (.new 69, 3) := by decide +kernel
theorem dX7_append_14 : decode cX7_append 14 = .ok (.dup, 1) := by decide +kernel
theorem dX7_append_15 : decode cX7_append 15 = .ok (.ldc 71, 2) := by decide +kernel
theorem dX7_append_17 : decode cX7_append 17 = .ok (.invokespecial 73, 3) := by decide +kernel
theorem dX7_append_20 : decode cX7_append 20 = .ok (.athrow, 1) := by decide +kernel
theorem dX7_append_21 : decode cX7_append 21 = .ok (.aload_n 0, 1) := by decide +kernel
theorem dX7_append_22 : decode cX7_append 22 = .ok (.getfield 34, 3) := by decide +kernel
theorem dX7_append_25 : decode cX7_append 25 = .ok (.invokevirtual 76, 3) := by decide +kernel
theorem dX7_append_28 : decode cX7_append 28 = .ok (.ifCond .eq 13, 3) := by decide +kernel
theorem dX7_append_31 : decode cX7_append 31 = .ok (.new 80, 3) := by decide +kernel
theorem dX7_append_34 : decode cX7_append 34 = .ok (.dup, 1) := by decide +kernel
theorem dX7_append_35 : decode cX7_append 35 = .ok (.ldc 82, 2) := by decide +kernel
theorem dX7_append_37 : decode cX7_append 37 = .ok (.invokespecial 84, 3) := by decide +kernel
theorem dX7_append_40 : decode cX7_append 40 = .ok (.athrow, 1) := by decide +kernel
theorem dX7_append_41 : decode cX7_append 41 = .ok (.aload_n 0, 1) := by decide +kernel
theorem dX7_append_42 : decode cX7_append 42 = .ok (.getfield 34, 3) := by decide +kernel
theorem dX7_append_45 : decode cX7_append 45 = .ok (.iload_n 1, 1) := by decide +kernel
theorem dX7_append_46 : decode cX7_append 46 = .ok (.invokevirtual 85, 3) := by decide +kernel
theorem dX7_append_49 : decode cX7_append 49 = .ok (.aload_n 0, 1) := by decide +kernel
theorem dX7_append_50 : decode cX7_append 50 = .ok (.getfield 34, 3) := by decide +kernel
theorem dX7_append_53 : decode cX7_append 53 = .ok (.getfield 89, 3) := by decide +kernel
theorem dX7_append_56 : decode cX7_append 56 = .ok (.ireturn, 1) := by decide +kernel
theorem dX7_clearText_0 : decode cX7_clearText 0 = .ok (.aload_n 0, 1) := by decide +kernel
theorem dX7_clearText_1 : decode cX7_clearText 1 = .ok (.getfield 34, 3) := by decide +kernel
theorem dX7_clearText_4 : decode cX7_clearText 4 = .ok (.getfield 89, 3) := by decide +kernel
theorem dX7_clearText_7 : decode cX7_clearText 7 = .ok (.istore_n 1, 1) := by decide +kernel
theorem dX7_clearText_8 : decode cX7_clearText 8 = .ok (.aload_n 0, 1) := by decide +kernel
theorem dX7_clearText_9 : decode cX7_clearText 9 = .ok (.getfield 34, 3) := by decide +kernel
theorem dX7_clearText_12 : decode cX7_clearText 12 = .ok (.iconst 0, 1) := by decide +kernel
theorem dX7_clearText_13 : decode cX7_clearText 13 = .ok (.putfield 89, 3) := by decide +kernel
theorem dX7_clearText_16 : decode cX7_clearText 16 = .ok (.iload_n 1, 1) := by decide +kernel
theorem dX7_clearText_17 : decode cX7_clearText 17 = .ok (.ireturn, 1) := by decide +kernel
theorem dX7_errorPosition_0 : decode cX7_errorPosition 0 = .ok (.aload_n 0, 1) := by decide +kernel
theorem dX7_errorPosition_1 : decode cX7_errorPosition 1 = .ok (.getfield 34, 3) := by decide +kernel
theorem dX7_errorPosition_4 : decode cX7_errorPosition 4 = .ok (.aload_n 0, 1) := by decide +kernel
theorem dX7_errorPosition_5 : decode cX7_errorPosition 5 = .ok (.getfield 65, 3) := by decide +kernel
theorem dX7_errorPosition_8 : decode cX7_errorPosition 8 = .ok (.invokevirtual 93, 3) := by decide +kernel
theorem dX7_errorPosition_11 : decode cX7_errorPosition 11 = .ok (.ireturn, 1) := by decide +kernel
theorem dX7_about_0 : decode cX7_about 0 = .ok (.iload_n 1, 1) := by decide +kernel
theorem dX7_about_1 : decode cX7_about 1 = .ok (.ifCond .lt 8, 3) := by decide +kernel
theorem dX7_about_4 : decode cX7_about 4 = .ok (.iload_n 1, 1) := by decide +kernel
theorem dX7_about_5 : decode cX7_about 5 = .ok (.iconst 5, 1) := by decide +kernel
theorem dX7_about_6 : decode cX7_about 6 = .ok (.if_icmp .le 13, 3) := by decide +kernel
theorem dX7_about_9 : decode cX7_about 9 = .ok (.new 69, 3) := by decide +kernel
theorem dX7_about_12 : decode cX7_about 12 = .ok (.dup, 1) := by decide +kernel
theorem dX7_about_13 : decode cX7_about 13 = .ok (.ldc 97, 2) := by decide +kernel
theorem dX7_about_15 : decode cX7_about 15 = .ok (.invokespecial 73, 3) := by decide +kernel
theorem dX7_about_18 : decode cX7_about 18 = .ok (.athrow, 1) := by decide +kernel
theorem dX7_about_19 : decode cX7_about 19 = .ok (.iload_n 1, 1) := by decide +kernel
theorem dX7_about_20 : decode cX7_about 20 = .ok (.tableswitch 91 0 4 #[36, 44, 52, 60, 68], 36) := by decide +kernel
theorem dX7_about_56 : decode cX7_about 56 = .ok (.aload_n 0, 1) := by decide +kernel
theorem dX7_about_57 : decode cX7_about 57 = .ok (.getfield 10, 3) := by decide +kernel
theorem dX7_about_60 : decode cX7_about 60 = .ok (.getfield 99, 3) := by decide +kernel
theorem dX7_about_63 : decode cX7_about 63 = .ok (.ireturn, 1) := by decide +kernel
theorem dX7_about_64 : decode cX7_about 64 = .ok (.aload_n 0, 1) := by decide +kernel
theorem dX7_about_65 : decode cX7_about 65 = .ok (.getfield 10, 3) := by decide +kernel
theorem dX7_about_68 : decode cX7_about 68 = .ok (.invokevirtual 102, 3) := by decide +kernel
theorem dX7_about_71 : decode cX7_about 71 = .ok (.ireturn, 1) := by decide +kernel
theorem dX7_about_72 : decode cX7_about 72 = .ok (.aload_n 0, 1) := by decide +kernel
theorem dX7_about_73 : decode cX7_about 73 = .ok (.getfield 10, 3) := by decide +kernel
theorem dX7_about_76 : decode cX7_about 76 = .ok (.invokevirtual 106, 3) := by decide +kernel
theorem dX7_about_79 : decode cX7_about 79 = .ok (.ireturn, 1) := by decide +kernel
theorem dX7_about_80 : decode cX7_about 80 = .ok (.aload_n 0, 1) := by decide +kernel
theorem dX7_about_81 : decode cX7_about 81 = .ok (.getfield 10, 3) := by decide +kernel
theorem dX7_about_84 : decode cX7_about 84 = .ok (.invokevirtual 109, 3) := by decide +kernel
theorem dX7_about_87 : decode cX7_about 87 = .ok (.ireturn, 1) := by decide +kernel
theorem dX7_about_88 : decode cX7_about 88 = .ok (.aload_n 0, 1) := by decide +kernel
theorem dX7_about_89 : decode cX7_about 89 = .ok (.getfield 48, 3) := by decide +kernel
theorem dX7_about_92 : decode cX7_about 92 = .ok (.aload_n 0, 1) := by decide +kernel
theorem dX7_about_93 : decode cX7_about 93 = .ok (.getfield 10, 3) := by decide +kernel
theorem dX7_about_96 : decode cX7_about 96 = .ok (.aload_n 0, 1) := by decide +kernel
theorem dX7_about_97 : decode cX7_about 97 = .ok (.getfield 41, 3) := by decide +kernel
theorem dX7_about_100 : decode cX7_about 100 = .ok (.invokevirtual 112, 3) := by decide +kernel
theorem dX7_about_103 : decode cX7_about 103 = .ok (.aload_n 0, 1) := by decide +kernel
theorem dX7_about_104 : decode cX7_about 104 = .ok (.getfield 48, 3) := by decide +kernel
theorem dX7_about_107 : decode cX7_about 107 = .ok (.invokevirtual 116, 3) := by decide +kernel
theorem dX7_about_110 : decode cX7_about 110 = .ok (.ireturn, 1) := by decide +kernel
theorem dX7_about_111 : decode cX7_about 111 = .ok (.aload_n 0, 1) := by decide +kernel
theorem dX7_about_112 : decode cX7_about 112 = .ok (.invokevirtual 119, 3) := by decide +kernel
theorem dX7_about_115 : decode cX7_about 115 = .ok (.ireturn, 1) := by decide +kernel
theorem dX7_skater_0 : decode cX7_skater 0 = .ok (.aload_n 0, 1) := by decide +kernel
theorem dX7_skater_1 : decode cX7_skater 1 = .ok (.getfield 10, 3) := by decide +kernel
theorem dX7_skater_4 : decode cX7_skater 4 = .ok (.iload_n 1, 1) := by decide +kernel
theorem dX7_skater_5 : decode cX7_skater 5 = .ok (.invokevirtual 122, 3) := by decide +kernel
theorem dX7_skater_8 : decode cX7_skater 8 = .ok (.ifCond .ne 13, 3) := by decide +kernel
theorem dX7_skater_11 : decode cX7_skater 11 = .ok (.new 126, 3) := by decide +kernel
theorem dX7_skater_14 : decode cX7_skater 14 = .ok (.dup, 1) := by decide +kernel
theorem dX7_skater_15 : decode cX7_skater 15 = .ok (.ldc 128, 2) := by decide +kernel
theorem dX7_skater_17 : decode cX7_skater 17 = .ok (.invokespecial 130, 3) := by decide +kernel
theorem dX7_skater_20 : decode cX7_skater 20 = .ok (.athrow, 1) := by decide +kernel
theorem dX7_skater_21 : decode cX7_skater 21 = .ok (.iload_n 2, 1) := by decide +kernel
theorem dX7_skater_22 : decode cX7_skater 22 = .ok (.ifCond .lt 9, 3) := by decide +kernel
theorem dX7_skater_25 : decode cX7_skater 25 = .ok (.iload_n 2, 1) := by decide +kernel
theorem dX7_skater_26 : decode cX7_skater 26 = .ok (.bipush 7, 2) := by decide +kernel
theorem dX7_skater_28 : decode cX7_skater 28 = .ok (.if_icmp .le 13, 3) := by decide +kernel
theorem dX7_skater_31 : decode cX7_skater 31 = .ok (.new 69, 3) := by decide +kernel
theorem dX7_skater_34 : decode cX7_skater 34 = .ok (.dup, 1) := by decide +kernel
theorem dX7_skater_35 : decode cX7_skater 35 = .ok (.ldc 131, 2) := by decide +kernel
theorem dX7_skater_37 : decode cX7_skater 37 = .ok (.invokespecial 73, 3) := by decide +kernel
theorem dX7_skater_40 : decode cX7_skater 40 = .ok (.athrow, 1) := by decide +kernel
theorem dX7_skater_41 : decode cX7_skater 41 = .ok (.aload_n 0, 1) := by decide +kernel
theorem dX7_skater_42 : decode cX7_skater 42 = .ok (.getfield 10, 3) := by decide +kernel
theorem dX7_skater_45 : decode cX7_skater 45 = .ok (.getfield 133, 3) := by decide +kernel
theorem dX7_skater_48 : decode cX7_skater 48 = .ok (.iload_n 1, 1) := by decide +kernel
theorem dX7_skater_49 : decode cX7_skater 49 = .ok (.aaload, 1) := by decide +kernel
theorem dX7_skater_50 : decode cX7_skater 50 = .ok (.astore_n 3, 1) := by decide +kernel
theorem dX7_skater_51 : decode cX7_skater 51 = .ok (.aload_n 0, 1) := by decide +kernel
theorem dX7_skater_52 : decode cX7_skater 52 = .ok (.getfield 41, 3) := by decide +kernel
theorem dX7_skater_55 : decode cX7_skater 55 = .ok (.aload_n 3, 1) := by decide +kernel
theorem dX7_skater_56 : decode cX7_skater 56 = .ok (.aload_n 0, 1) := by decide +kernel
theorem dX7_skater_57 : decode cX7_skater 57 = .ok (.getfield 10, 3) := by decide +kernel
theorem dX7_skater_60 : decode cX7_skater 60 = .ok (.getfield 137, 3) := by decide +kernel
theorem dX7_skater_63 : decode cX7_skater 63 = .ok (.invokevirtual 141, 3) := by decide +kernel
theorem dX7_skater_66 : decode cX7_skater 66 = .ok (.iload_n 2, 1) := by decide +kernel
theorem dX7_skater_67 : decode cX7_skater 67 = .ok (.tableswitch 107 0 6 #[41, 46, 54, 62, 70, 78, 102], 41) := by decide +kernel
theorem dX7_skater_108 : decode cX7_skater 108 = .ok (.aload_n 3, 1) := by decide +kernel
theorem dX7_skater_109 : decode cX7_skater 109 = .ok (.getfield 145, 3) := by decide +kernel
theorem dX7_skater_112 : decode cX7_skater 112 = .ok (.ireturn, 1) := by decide +kernel
theorem dX7_skater_113 : decode cX7_skater 113 = .ok (.aload_n 0, 1) := by decide +kernel
theorem dX7_skater_114 : decode cX7_skater 114 = .ok (.getfield 41, 3) := by decide +kernel
theorem dX7_skater_117 : decode cX7_skater 117 = .ok (.getfield 148, 3) := by decide +kernel
theorem dX7_skater_120 : decode cX7_skater 120 = .ok (.ireturn, 1) := by decide +kernel
theorem dX7_skater_121 : decode cX7_skater 121 = .ok (.aload_n 0, 1) := by decide +kernel
theorem dX7_skater_122 : decode cX7_skater 122 = .ok (.getfield 41, 3) := by decide +kernel
theorem dX7_skater_125 : decode cX7_skater 125 = .ok (.getfield 151, 3) := by decide +kernel
theorem dX7_skater_128 : decode cX7_skater 128 = .ok (.ireturn, 1) := by decide +kernel
theorem dX7_skater_129 : decode cX7_skater 129 = .ok (.aload_n 0, 1) := by decide +kernel
theorem dX7_skater_130 : decode cX7_skater 130 = .ok (.getfield 41, 3) := by decide +kernel
theorem dX7_skater_133 : decode cX7_skater 133 = .ok (.getfield 154, 3) := by decide +kernel
theorem dX7_skater_136 : decode cX7_skater 136 = .ok (.ireturn, 1) := by decide +kernel
theorem dX7_skater_137 : decode cX7_skater 137 = .ok (.aload_n 0, 1) := by decide +kernel
theorem dX7_skater_138 : decode cX7_skater 138 = .ok (.getfield 41, 3) := by decide +kernel
theorem dX7_skater_141 : decode cX7_skater 141 = .ok (.invokevirtual 157, 3) := by decide +kernel
theorem dX7_skater_144 : decode cX7_skater 144 = .ok (.ireturn, 1) := by decide +kernel
theorem dX7_skater_145 : decode cX7_skater 145 = .ok (.aload_n 0, 1) := by decide +kernel
theorem dX7_skater_146 : decode cX7_skater 146 = .ok (.getfield 48, 3) := by decide +kernel
theorem dX7_skater_149 : decode cX7_skater 149 = .ok (.aload_n 0, 1) := by decide +kernel
theorem dX7_skater_150 : decode cX7_skater 150 = .ok (.getfield 10, 3) := by decide +kernel
theorem dX7_skater_153 : decode cX7_skater 153 = .ok (.aload_n 0, 1) := by decide +kernel
theorem dX7_skater_154 : decode cX7_skater 154 = .ok (.getfield 41, 3) := by decide +kernel
theorem dX7_skater_157 : decode cX7_skater 157 = .ok (.invokevirtual 112, 3) := by decide +kernel
theorem dX7_skater_160 : decode cX7_skater 160 = .ok (.aload_n 0, 1) := by decide +kernel
theorem dX7_skater_161 : decode cX7_skater 161 = .ok (.getfield 48, 3) := by decide +kernel
theorem dX7_skater_164 : decode cX7_skater 164 = .ok (.iload_n 1, 1) := by decide +kernel
theorem dX7_skater_165 : decode cX7_skater 165 = .ok (.invokevirtual 160, 3) := by decide +kernel
theorem dX7_skater_168 : decode cX7_skater 168 = .ok (.ireturn, 1) := by decide +kernel
theorem dX7_skater_169 : decode cX7_skater 169 = .ok (.aload_n 3, 1) := by decide +kernel
theorem dX7_skater_170 : decode cX7_skater 170 = .ok (.invokevirtual 164, 3) := by decide +kernel
theorem dX7_skater_173 : decode cX7_skater 173 = .ok (.ireturn, 1) := by decide +kernel
theorem dX7_skater_174 : decode cX7_skater 174 = .ok (.aload_n 3, 1) := by decide +kernel
theorem dX7_skater_175 : decode cX7_skater 175 = .ok (.invokevirtual 165, 3) := by decide +kernel
theorem dX7_skater_178 : decode cX7_skater 178 = .ok (.ireturn, 1) := by decide +kernel
theorem dX7_element_0 : decode cX7_element 0 = .ok (.aload_n 0, 1) := by decide +kernel
theorem dX7_element_1 : decode cX7_element 1 = .ok (.getfield 10, 3) := by decide +kernel
theorem dX7_element_4 : decode cX7_element 4 = .ok (.iload_n 1, 1) := by decide +kernel
theorem dX7_element_5 : decode cX7_element 5 = .ok (.iload_n 2, 1) := by decide +kernel
theorem dX7_element_6 : decode cX7_element 6 = .ok (.invokevirtual 166, 3) := by decide +kernel
theorem dX7_element_9 : decode cX7_element 9 = .ok (.ifCond .ne 13, 3) := by decide +kernel
theorem dX7_element_12 : decode cX7_element 12 = .ok (.new 126, 3) := by decide +kernel
theorem dX7_element_15 : decode cX7_element 15 = .ok (.dup, 1) := by decide +kernel
theorem dX7_element_16 : decode cX7_element 16 = .ok (.ldc 170, 2) := by decide +kernel
theorem dX7_element_18 : decode cX7_element 18 = .ok (.invokespecial 130, 3) := by decide +kernel
theorem dX7_element_21 : decode cX7_element 21 = .ok (.athrow, 1) := by decide +kernel
theorem dX7_element_22 : decode cX7_element 22 = .ok (.iload_n 3, 1) := by decide +kernel
theorem dX7_element_23 : decode cX7_element 23 = .ok (.ifCond .lt 9, 3) := by decide +kernel
theorem dX7_element_26 : decode cX7_element 26 = .ok (.iload_n 3, 1) := by decide +kernel
theorem dX7_element_27 : decode cX7_element 27 = .ok (.bipush 8, 2) := by decide +kernel
theorem dX7_element_29 : decode cX7_element 29 = .ok (.if_icmp .le 13, 3) := by decide +kernel
theorem dX7_element_32 : decode cX7_element 32 = .ok (.new 69, 3) := by decide +kernel
theorem dX7_element_35 : decode cX7_element 35 = .ok (.dup, 1) := by decide +kernel
theorem dX7_element_36 : decode cX7_element 36 = .ok (.ldc 172, 2) := by decide +kernel
theorem dX7_element_38 : decode cX7_element 38 = .ok (.invokespecial 73, 3) := by decide +kernel
theorem dX7_element_41 : decode cX7_element 41 = .ok (.athrow, 1) := by decide +kernel
theorem dX7_element_42 : decode cX7_element 42 = .ok (.aload_n 0, 1) := by decide +kernel
theorem dX7_element_43 : decode cX7_element 43 = .ok (.getfield 10, 3) := by decide +kernel
theorem dX7_element_46 : decode cX7_element 46 = .ok (.getfield 133, 3) := by decide +kernel
theorem dX7_element_49 : decode cX7_element 49 = .ok (.iload_n 1, 1) := by decide +kernel
theorem dX7_element_50 : decode cX7_element 50 = .ok (.aaload, 1) := by decide +kernel
theorem dX7_element_51 : decode cX7_element 51 = .ok (.astore 4, 2) := by decide +kernel
theorem dX7_element_53 : decode cX7_element 53 = .ok (.aload_n 0, 1) := by decide +kernel
theorem dX7_element_54 : decode cX7_element 54 = .ok (.getfield 41, 3) := by decide +kernel
theorem dX7_element_57 : decode cX7_element 57 = .ok (.aload 4, 2) := by decide +kernel
theorem dX7_element_59 : decode cX7_element 59 = .ok (.aload_n 0, 1) := by decide +kernel
theorem dX7_element_60 : decode cX7_element 60 = .ok (.getfield 10, 3) := by decide +kernel
theorem dX7_element_63 : decode cX7_element 63 = .ok (.getfield 137, 3) := by decide +kernel
theorem dX7_element_66 : decode cX7_element 66 = .ok (.invokevirtual 141, 3) := by decide +kernel
theorem dX7_element_69 : decode cX7_element 69 = .ok (.iload_n 3, 1) := by decide +kernel
theorem dX7_element_70 : decode cX7_element 70 = .ok (.tableswitch 126 0 7 #[46, 54, 62, 72, 80, 90, 110, 118], 46) := by decide +kernel
theorem dX7_element_116 : decode cX7_element 116 = .ok (.aload 4, 2) := by decide +kernel
theorem dX7_element_118 : decode cX7_element 118 = .ok (.getfield 174, 3) := by decide +kernel
theorem dX7_element_121 : decode cX7_element 121 = .ok (.iload_n 2, 1) := by decide +kernel
theorem dX7_element_122 : decode cX7_element 122 = .ok (.iaload, 1) := by decide +kernel
theorem dX7_element_123 : decode cX7_element 123 = .ok (.ireturn, 1) := by decide +kernel
theorem dX7_element_124 : decode cX7_element 124 = .ok (.aload 4, 2) := by decide +kernel
theorem dX7_element_126 : decode cX7_element 126 = .ok (.getfield 177, 3) := by decide +kernel
theorem dX7_element_129 : decode cX7_element 129 = .ok (.iload_n 2, 1) := by decide +kernel
theorem dX7_element_130 : decode cX7_element 130 = .ok (.iaload, 1) := by decide +kernel
theorem dX7_element_131 : decode cX7_element 131 = .ok (.ireturn, 1) := by decide +kernel
theorem dX7_element_132 : decode cX7_element 132 = .ok (.aload_n 0, 1) := by decide +kernel
theorem dX7_element_133 : decode cX7_element 133 = .ok (.getfield 41, 3) := by decide +kernel
theorem dX7_element_136 : decode cX7_element 136 = .ok (.getfield 180, 3) := by decide +kernel
theorem dX7_element_139 : decode cX7_element 139 = .ok (.iload_n 2, 1) := by decide +kernel
theorem dX7_element_140 : decode cX7_element 140 = .ok (.iaload, 1) := by decide +kernel
theorem dX7_element_141 : decode cX7_element 141 = .ok (.ireturn, 1) := by decide +kernel
theorem dX7_element_142 : decode cX7_element 142 = .ok (.aload 4, 2) := by decide +kernel
theorem dX7_element_144 : decode cX7_element 144 = .ok (.getfield 183, 3) := by decide +kernel
theorem dX7_element_147 : decode cX7_element 147 = .ok (.iload_n 2, 1) := by decide +kernel
theorem dX7_element_148 : decode cX7_element 148 = .ok (.iaload, 1) := by decide +kernel
theorem dX7_element_149 : decode cX7_element 149 = .ok (.ireturn, 1) := by decide +kernel
theorem dX7_element_150 : decode cX7_element 150 = .ok (.aload_n 0, 1) := by decide +kernel
theorem dX7_element_151 : decode cX7_element 151 = .ok (.getfield 41, 3) := by decide +kernel
theorem dX7_element_154 : decode cX7_element 154 = .ok (.getfield 186, 3) := by decide +kernel
theorem dX7_element_157 : decode cX7_element 157 = .ok (.iload_n 2, 1) := by decide +kernel
theorem dX7_element_158 : decode cX7_element 158 = .ok (.iaload, 1) := by decide +kernel
theorem dX7_element_159 : decode cX7_element 159 = .ok (.ireturn, 1) := by decide +kernel
theorem dX7_element_160 : decode cX7_element 160 = .ok (.aload_n 0, 1) := by decide +kernel
theorem dX7_element_161 : decode cX7_element 161 = .ok (.getfield 41, 3) := by decide +kernel
theorem dX7_element_164 : decode cX7_element 164 = .ok (.getfield 180, 3) := by decide +kernel
theorem dX7_element_167 : decode cX7_element 167 = .ok (.iload_n 2, 1) := by decide +kernel
end
section
theorem dX7_element_168 : decode cX7_element 168 = .ok (.iaload, 1) := by decide +kernel
theorem dX7_element_169 : decode cX7_element 169 = .ok (.aload_n 0, 1) := by decide +kernel
theorem dX7_element_170 : decode cX7_element 170 = .ok (.getfield 41, 3) := by decide +kernel
theorem dX7_element_173 : decode cX7_element 173 = .ok (.getfield 186, 3) := by decide +kernel
theorem dX7_element_176 : decode cX7_element 176 = .ok (.iload_n 2, 1) := by decide +kernel
theorem dX7_element_177 : decode cX7_element 177 = .ok (.iaload, 1) := by decide +kernel
theorem dX7_element_178 : decode cX7_element 178 = .ok (.iadd, 1) := by decide +kernel
theorem dX7_element_179 : decode cX7_element 179 = .ok (.ireturn, 1) := by decide +kernel
theorem dX7_element_180 : decode cX7_element 180 = .ok (.aload 4, 2) := by decide +kernel
theorem dX7_element_182 : decode cX7_element 182 = .ok (.getfield 189, 3) := by decide +kernel
theorem dX7_element_185 : decode cX7_element 185 = .ok (.iload_n 2, 1) := by decide +kernel
theorem dX7_element_186 : decode cX7_element 186 = .ok (.iaload, 1) := by decide +kernel
theorem dX7_element_187 : decode cX7_element 187 = .ok (.ireturn, 1) := by decide +kernel
theorem dX7_element_188 : decode cX7_element 188 = .ok (.aload 4, 2) := by decide +kernel
theorem dX7_element_190 : decode cX7_element 190 = .ok (.getfield 192, 3) := by decide +kernel
theorem dX7_element_193 : decode cX7_element 193 = .ok (.iload_n 2, 1) := by decide +kernel
theorem dX7_element_194 : decode cX7_element 194 = .ok (.iaload, 1) := by decide +kernel
theorem dX7_element_195 : decode cX7_element 195 = .ok (.ireturn, 1) := by decide +kernel
theorem dX7_element_196 : decode cX7_element 196 = .ok (.aload_n 0, 1) := by decide +kernel
theorem dX7_element_197 : decode cX7_element 197 = .ok (.getfield 41, 3) := by decide +kernel
theorem dX7_element_200 : decode cX7_element 200 = .ok (.getfield 195, 3) := by decide +kernel
theorem dX7_element_203 : decode cX7_element 203 = .ok (.iload_n 2, 1) := by decide +kernel
theorem dX7_element_204 : decode cX7_element 204 = .ok (.iaload, 1) := by decide +kernel
theorem dX7_element_205 : decode cX7_element 205 = .ok (.ireturn, 1) := by decide +kernel
theorem dX7_part_0 : decode cX7_part 0 = .ok (.aload_n 0, 1) := by decide +kernel
theorem dX7_part_1 : decode cX7_part 1 = .ok (.getfield 10, 3) := by decide +kernel
theorem dX7_part_4 : decode cX7_part 4 = .ok (.iload_n 1, 1) := by decide +kernel
theorem dX7_part_5 : decode cX7_part 5 = .ok (.iload_n 2, 1) := by decide +kernel
theorem dX7_part_6 : decode cX7_part 6 = .ok (.iload_n 3, 1) := by decide +kernel
theorem dX7_part_7 : decode cX7_part 7 = .ok (.invokevirtual 198, 3) := by decide +kernel
theorem dX7_part_10 : decode cX7_part 10 = .ok (.ifCond .ne 13, 3) := by decide +kernel
theorem dX7_part_13 : decode cX7_part 13 = .ok (.new 126, 3) := by decide +kernel
theorem dX7_part_16 : decode cX7_part 16 = .ok (.dup, 1) := by decide +kernel
theorem dX7_part_17 : decode cX7_part 17 = .ok (.ldc 202, 2) := by decide +kernel
theorem dX7_part_19 : decode cX7_part 19 = .ok (.invokespecial 130, 3) := by decide +kernel
theorem dX7_part_22 : decode cX7_part 22 = .ok (.athrow, 1) := by decide +kernel
theorem dX7_part_23 : decode cX7_part 23 = .ok (.iload 4, 2) := by decide +kernel
theorem dX7_part_25 : decode cX7_part 25 = .ok (.ifCond .lt 9, 3) := by decide +kernel
theorem dX7_part_28 : decode cX7_part 28 = .ok (.iload 4, 2) := by decide +kernel
theorem dX7_part_30 : decode cX7_part 30 = .ok (.iconst 4, 1) := by decide +kernel
theorem dX7_part_31 : decode cX7_part 31 = .ok (.if_icmp .le 13, 3) := by decide +kernel
theorem dX7_part_34 : decode cX7_part 34 = .ok (.new 69, 3) := by decide +kernel
theorem dX7_part_37 : decode cX7_part 37 = .ok (.dup, 1) := by decide +kernel
theorem dX7_part_38 : decode cX7_part 38 = .ok (.ldc 204, 2) := by decide +kernel
theorem dX7_part_40 : decode cX7_part 40 = .ok (.invokespecial 73, 3) := by decide +kernel
theorem dX7_part_43 : decode cX7_part 43 = .ok (.athrow, 1) := by decide +kernel
theorem dX7_part_44 : decode cX7_part 44 = .ok (.aload_n 0, 1) := by decide +kernel
theorem dX7_part_45 : decode cX7_part 45 = .ok (.getfield 10, 3) := by decide +kernel
theorem dX7_part_48 : decode cX7_part 48 = .ok (.getfield 133, 3) := by decide +kernel
theorem dX7_part_51 : decode cX7_part 51 = .ok (.iload_n 1, 1) := by decide +kernel
theorem dX7_part_52 : decode cX7_part 52 = .ok (.aaload, 1) := by decide +kernel
theorem dX7_part_53 : decode cX7_part 53 = .ok (.astore 5, 2) := by decide +kernel
theorem dX7_part_55 : decode cX7_part 55 = .ok (.iconst 3, 1) := by decide +kernel
theorem dX7_part_56 : decode cX7_part 56 = .ok (.iload_n 2, 1) := by decide +kernel
theorem dX7_part_57 : decode cX7_part 57 = .ok (.imul, 1) := by decide +kernel
theorem dX7_part_58 : decode cX7_part 58 = .ok (.iload_n 3, 1) := by decide +kernel
theorem dX7_part_59 : decode cX7_part 59 = .ok (.iadd, 1) := by decide +kernel
theorem dX7_part_60 : decode cX7_part 60 = .ok (.istore 6, 2) := by decide +kernel
theorem dX7_part_62 : decode cX7_part 62 = .ok (.iload 4, 2) := by decide +kernel
theorem dX7_part_64 : decode cX7_part 64 = .ok (.tableswitch 86 0 3 #[32, 41, 50, 59], 32) := by decide +kernel
theorem dX7_part_96 : decode cX7_part 96 = .ok (.aload 5, 2) := by decide +kernel
theorem dX7_part_98 : decode cX7_part 98 = .ok (.getfield 206, 3) := by decide +kernel
theorem dX7_part_101 : decode cX7_part 101 = .ok (.iload 6, 2) := by decide +kernel
theorem dX7_part_103 : decode cX7_part 103 = .ok (.iaload, 1) := by decide +kernel
theorem dX7_part_104 : decode cX7_part 104 = .ok (.ireturn, 1) := by decide +kernel
theorem dX7_part_105 : decode cX7_part 105 = .ok (.aload 5, 2) := by decide +kernel
theorem dX7_part_107 : decode cX7_part 107 = .ok (.getfield 209, 3) := by decide +kernel
theorem dX7_part_110 : decode cX7_part 110 = .ok (.iload 6, 2) := by decide +kernel
theorem dX7_part_112 : decode cX7_part 112 = .ok (.iaload, 1) := by decide +kernel
theorem dX7_part_113 : decode cX7_part 113 = .ok (.ireturn, 1) := by decide +kernel
theorem dX7_part_114 : decode cX7_part 114 = .ok (.aload 5, 2) := by decide +kernel
theorem dX7_part_116 : decode cX7_part 116 = .ok (.getfield 212, 3) := by decide +kernel
theorem dX7_part_119 : decode cX7_part 119 = .ok (.iload 6, 2) := by decide +kernel
theorem dX7_part_121 : decode cX7_part 121 = .ok (.iaload, 1) := by decide +kernel
theorem dX7_part_122 : decode cX7_part 122 = .ok (.ireturn, 1) := by decide +kernel
theorem dX7_part_123 : decode cX7_part 123 = .ok (.aload_n 0, 1) := by decide +kernel
theorem dX7_part_124 : decode cX7_part 124 = .ok (.getfield 41, 3) := by decide +kernel
theorem dX7_part_127 : decode cX7_part 127 = .ok (.aload 5, 2) := by decide +kernel
theorem dX7_part_129 : decode cX7_part 129 = .ok (.aload_n 0, 1) := by decide +kernel
theorem dX7_part_130 : decode cX7_part 130 = .ok (.getfield 10, 3) := by decide +kernel
theorem dX7_part_133 : decode cX7_part 133 = .ok (.getfield 137, 3) := by decide +kernel
theorem dX7_part_136 : decode cX7_part 136 = .ok (.invokevirtual 141, 3) := by decide +kernel
theorem dX7_part_139 : decode cX7_part 139 = .ok (.aload_n 0, 1) := by decide +kernel
theorem dX7_part_140 : decode cX7_part 140 = .ok (.getfield 41, 3) := by decide +kernel
theorem dX7_part_143 : decode cX7_part 143 = .ok (.getfield 215, 3) := by decide +kernel
theorem dX7_part_146 : decode cX7_part 146 = .ok (.iload 6, 2) := by decide +kernel
theorem dX7_part_148 : decode cX7_part 148 = .ok (.iaload, 1) := by decide +kernel
theorem dX7_part_149 : decode cX7_part 149 = .ok (.ireturn, 1) := by decide +kernel
theorem dX7_part_150 : decode cX7_part 150 = .ok (.aload_n 0, 1) := by decide +kernel
theorem dX7_part_151 : decode cX7_part 151 = .ok (.getfield 41, 3) := by decide +kernel
theorem dX7_part_154 : decode cX7_part 154 = .ok (.aload 5, 2) := by decide +kernel
theorem dX7_part_156 : decode cX7_part 156 = .ok (.aload_n 0, 1) := by decide +kernel
theorem dX7_part_157 : decode cX7_part 157 = .ok (.getfield 10, 3) := by decide +kernel
theorem dX7_part_160 : decode cX7_part 160 = .ok (.getfield 137, 3) := by decide +kernel
theorem dX7_part_163 : decode cX7_part 163 = .ok (.invokevirtual 141, 3) := by decide +kernel
theorem dX7_part_166 : decode cX7_part 166 = .ok (.aload_n 0, 1) := by decide +kernel
theorem dX7_part_167 : decode cX7_part 167 = .ok (.getfield 41, 3) := by decide +kernel
theorem dX7_part_170 : decode cX7_part 170 = .ok (.getfield 218, 3) := by decide +kernel
theorem dX7_part_173 : decode cX7_part 173 = .ok (.iload 6, 2) := by decide +kernel
theorem dX7_part_175 : decode cX7_part 175 = .ok (.iaload, 1) := by decide +kernel
theorem dX7_part_176 : decode cX7_part 176 = .ok (.ireturn, 1) := by decide +kernel
theorem dX7_setting_0 : decode cX7_setting 0 = .ok (.iload_n 1, 1) := by decide +kernel
theorem dX7_setting_1 : decode cX7_setting 1 = .ok (.ifCond .lt 8, 3) := by decide +kernel
theorem dX7_setting_4 : decode cX7_setting 4 = .ok (.iload_n 1, 1) := by decide +kernel
theorem dX7_setting_5 : decode cX7_setting 5 = .ok (.iconst 5, 1) := by decide +kernel
theorem dX7_setting_6 : decode cX7_setting 6 = .ok (.if_icmp .lt 13, 3) := by decide +kernel
theorem dX7_setting_9 : decode cX7_setting 9 = .ok (.new 69, 3) := by decide +kernel
theorem dX7_setting_12 : decode cX7_setting 12 = .ok (.dup, 1) := by decide +kernel
theorem dX7_setting_13 : decode cX7_setting 13 = .ok (.ldc 204, 2) := by decide +kernel
theorem dX7_setting_15 : decode cX7_setting 15 = .ok (.invokespecial 73, 3) := by decide +kernel
theorem dX7_setting_18 : decode cX7_setting 18 = .ok (.athrow, 1) := by decide +kernel
theorem dX7_setting_19 : decode cX7_setting 19 = .ok (.aload_n 0, 1) := by decide +kernel
theorem dX7_setting_20 : decode cX7_setting 20 = .ok (.getfield 10, 3) := by decide +kernel
theorem dX7_setting_23 : decode cX7_setting 23 = .ok (.getfield 137, 3) := by decide +kernel
theorem dX7_setting_26 : decode cX7_setting 26 = .ok (.iload_n 1, 1) := by decide +kernel
theorem dX7_setting_27 : decode cX7_setting 27 = .ok (.iaload, 1) := by decide +kernel
theorem dX7_setting_28 : decode cX7_setting 28 = .ok (.ireturn, 1) := by decide +kernel
theorem dX7_add_0 : decode cX7_add 0 = .ok (.aload_n 0, 1) := by decide +kernel
theorem dX7_add_1 : decode cX7_add 1 = .ok (.getfield 10, 3) := by decide +kernel
theorem dX7_add_4 : decode cX7_add 4 = .ok (.getfield 99, 3) := by decide +kernel
theorem dX7_add_7 : decode cX7_add 7 = .ok (.iconst 4, 1) := by decide +kernel
theorem dX7_add_8 : decode cX7_add 8 = .ok (.if_icmp .lt 13, 3) := by decide +kernel
theorem dX7_add_11 : decode cX7_add 11 = .ok (.new 80, 3) := by decide +kernel
theorem dX7_add_14 : decode cX7_add 14 = .ok (.dup, 1) := by decide +kernel
theorem dX7_add_15 : decode cX7_add 15 = .ok (.ldc 221, 2) := by decide +kernel
theorem dX7_add_17 : decode cX7_add 17 = .ok (.invokespecial 84, 3) := by decide +kernel
theorem dX7_add_20 : decode cX7_add 20 = .ok (.athrow, 1) := by decide +kernel
theorem dX7_add_21 : decode cX7_add 21 = .ok (.aload_n 0, 1) := by decide +kernel
theorem dX7_add_22 : decode cX7_add 22 = .ok (.getfield 19, 3) := by decide +kernel
theorem dX7_add_25 : decode cX7_add 25 = .ok (.aload_n 0, 1) := by decide +kernel
theorem dX7_add_26 : decode cX7_add 26 = .ok (.getfield 10, 3) := by decide +kernel
theorem dX7_add_29 : decode cX7_add 29 = .ok (.invokevirtual 223, 3) := by decide +kernel
theorem dX7_add_32 : decode cX7_add 32 = .ok (.aload_n 0, 1) := by decide +kernel
theorem dX7_add_33 : decode cX7_add 33 = .ok (.getfield 10, 3) := by decide +kernel
theorem dX7_add_36 : decode cX7_add 36 = .ok (.getfield 99, 3) := by decide +kernel
theorem dX7_add_39 : decode cX7_add 39 = .ok (.istore_n 1, 1) := by decide +kernel
theorem dX7_add_40 : decode cX7_add 40 = .ok (.aload_n 0, 1) := by decide +kernel
theorem dX7_add_41 : decode cX7_add 41 = .ok (.getfield 10, 3) := by decide +kernel
theorem dX7_add_44 : decode cX7_add 44 = .ok (.getfield 133, 3) := by decide +kernel
theorem dX7_add_47 : decode cX7_add 47 = .ok (.iload_n 1, 1) := by decide +kernel
theorem dX7_add_48 : decode cX7_add 48 = .ok (.aaload, 1) := by decide +kernel
theorem dX7_add_49 : decode cX7_add 49 = .ok (.invokevirtual 227, 3) := by decide +kernel
theorem dX7_add_52 : decode cX7_add 52 = .ok (.aload_n 0, 1) := by decide +kernel
theorem dX7_add_53 : decode cX7_add 53 = .ok (.getfield 10, 3) := by decide +kernel
theorem dX7_add_56 : decode cX7_add 56 = .ok (.iload_n 1, 1) := by decide +kernel
theorem dX7_add_57 : decode cX7_add 57 = .ok (.iconst 1, 1) := by decide +kernel
theorem dX7_add_58 : decode cX7_add 58 = .ok (.iadd, 1) := by decide +kernel
theorem dX7_add_59 : decode cX7_add 59 = .ok (.putfield 99, 3) := by decide +kernel
theorem dX7_add_62 : decode cX7_add 62 = .ok (.iload_n 1, 1) := by decide +kernel
theorem dX7_add_63 : decode cX7_add 63 = .ok (.ireturn, 1) := by decide +kernel
theorem dX7_program_0 : decode cX7_program 0 = .ok (.aload_n 0, 1) := by decide +kernel
theorem dX7_program_1 : decode cX7_program 1 = .ok (.getfield 10, 3) := by decide +kernel
theorem dX7_program_4 : decode cX7_program 4 = .ok (.iload_n 1, 1) := by decide +kernel
theorem dX7_program_5 : decode cX7_program 5 = .ok (.invokevirtual 122, 3) := by decide +kernel
theorem dX7_program_8 : decode cX7_program 8 = .ok (.ifCond .ne 13, 3) := by decide +kernel
theorem dX7_program_11 : decode cX7_program 11 = .ok (.new 126, 3) := by decide +kernel
theorem dX7_program_14 : decode cX7_program 14 = .ok (.dup, 1) := by decide +kernel
theorem dX7_program_15 : decode cX7_program 15 = .ok (.ldc 128, 2) := by decide +kernel
theorem dX7_program_17 : decode cX7_program 17 = .ok (.invokespecial 130, 3) := by decide +kernel
theorem dX7_program_20 : decode cX7_program 20 = .ok (.athrow, 1) := by decide +kernel
theorem dX7_program_21 : decode cX7_program 21 = .ok (.aload_n 0, 1) := by decide +kernel
theorem dX7_program_22 : decode cX7_program 22 = .ok (.getfield 34, 3) := by decide +kernel
theorem dX7_program_25 : decode cX7_program 25 = .ok (.aload_n 0, 1) := by decide +kernel
theorem dX7_program_26 : decode cX7_program 26 = .ok (.getfield 65, 3) := by decide +kernel
theorem dX7_program_29 : decode cX7_program 29 = .ok (.invokevirtual 93, 3) := by decide +kernel
theorem dX7_program_32 : decode cX7_program 32 = .ok (.iconst (-1), 1) := by decide +kernel
theorem dX7_program_33 : decode cX7_program 33 = .ok (.if_icmp .eq 13, 3) := by decide +kernel
theorem dX7_program_36 : decode cX7_program 36 = .ok (.new 80, 3) := by decide +kernel
theorem dX7_program_39 : decode cX7_program 39 = .ok (.dup, 1) := by decide +kernel
theorem dX7_program_40 : decode cX7_program 40 = .ok (.ldc 230, 2) := by decide +kernel
theorem dX7_program_42 : decode cX7_program 42 = .ok (.invokespecial 84, 3) := by decide +kernel
theorem dX7_program_45 : decode cX7_program 45 = .ok (.athrow, 1) := by decide +kernel
theorem dX7_program_46 : decode cX7_program 46 = .ok (.aload_n 0, 1) := by decide +kernel
theorem dX7_program_47 : decode cX7_program 47 = .ok (.getfield 19, 3) := by decide +kernel
theorem dX7_program_50 : decode cX7_program 50 = .ok (.aload_n 0, 1) := by decide +kernel
theorem dX7_program_51 : decode cX7_program 51 = .ok (.getfield 10, 3) := by decide +kernel
theorem dX7_program_54 : decode cX7_program 54 = .ok (.invokevirtual 223, 3) := by decide +kernel
theorem dX7_program_57 : decode cX7_program 57 = .ok (.aload_n 0, 1) := by decide +kernel
theorem dX7_program_58 : decode cX7_program 58 = .ok (.getfield 10, 3) := by decide +kernel
theorem dX7_program_61 : decode cX7_program 61 = .ok (.getfield 133, 3) := by decide +kernel
theorem dX7_program_64 : decode cX7_program 64 = .ok (.iload_n 1, 1) := by decide +kernel
theorem dX7_program_65 : decode cX7_program 65 = .ok (.aaload, 1) := by decide +kernel
theorem dX7_program_66 : decode cX7_program 66 = .ok (.astore_n 2, 1) := by decide +kernel
theorem dX7_program_67 : decode cX7_program 67 = .ok (.aload_n 2, 1) := by decide +kernel
theorem dX7_program_68 : decode cX7_program 68 = .ok (.aload_n 0, 1) := by decide +kernel
theorem dX7_program_69 : decode cX7_program 69 = .ok (.getfield 65, 3) := by decide +kernel
theorem dX7_program_72 : decode cX7_program 72 = .ok (.invokevirtual 232, 3) := by decide +kernel
theorem dX7_program_75 : decode cX7_program 75 = .ok (.aload_n 2, 1) := by decide +kernel
theorem dX7_program_76 : decode cX7_program 76 = .ok (.getfield 145, 3) := by decide +kernel
theorem dX7_program_79 : decode cX7_program 79 = .ok (.ireturn, 1) := by decide +kernel
theorem dX7_mark_0 : decode cX7_mark 0 = .ok (.aload_n 0, 1) := by decide +kernel
theorem dX7_mark_1 : decode cX7_mark 1 = .ok (.getfield 10, 3) := by decide +kernel
theorem dX7_mark_4 : decode cX7_mark 4 = .ok (.iload_n 1, 1) := by decide +kernel
theorem dX7_mark_5 : decode cX7_mark 5 = .ok (.iload_n 2, 1) := by decide +kernel
theorem dX7_mark_6 : decode cX7_mark 6 = .ok (.invokevirtual 166, 3) := by decide +kernel
theorem dX7_mark_9 : decode cX7_mark 9 = .ok (.ifCond .ne 13, 3) := by decide +kernel
theorem dX7_mark_12 : decode cX7_mark 12 = .ok (.new 126, 3) := by decide +kernel
theorem dX7_mark_15 : decode cX7_mark 15 = .ok (.dup, 1) := by decide +kernel
theorem dX7_mark_16 : decode cX7_mark 16 = .ok (.ldc 170, 2) := by decide +kernel
theorem dX7_mark_18 : decode cX7_mark 18 = .ok (.invokespecial 130, 3) := by decide +kernel
theorem dX7_mark_21 : decode cX7_mark 21 = .ok (.athrow, 1) := by decide +kernel
theorem dX7_mark_22 : decode cX7_mark 22 = .ok (.iload_n 3, 1) := by decide +kernel
theorem dX7_mark_23 : decode cX7_mark 23 = .ok (.ifCond .lt 9, 3) := by decide +kernel
theorem dX7_mark_26 : decode cX7_mark 26 = .ok (.iload_n 3, 1) := by decide +kernel
theorem dX7_mark_27 : decode cX7_mark 27 = .ok (.ldc 236, 2) := by decide +kernel
theorem dX7_mark_29 : decode cX7_mark 29 = .ok (.if_icmp .le 13, 3) := by decide +kernel
theorem dX7_mark_32 : decode cX7_mark 32 = .ok (.new 69, 3) := by decide +kernel
theorem dX7_mark_35 : decode cX7_mark 35 = .ok (.dup, 1) := by decide +kernel
theorem dX7_mark_36 : decode cX7_mark 36 = .ok (.ldc 237, 2) := by decide +kernel
theorem dX7_mark_38 : decode cX7_mark 38 = .ok (.invokespecial 73, 3) := by decide +kernel
theorem dX7_mark_41 : decode cX7_mark 41 = .ok (.athrow, 1) := by decide +kernel
theorem dX7_mark_42 : decode cX7_mark 42 = .ok (.aload_n 0, 1) := by decide +kernel
theorem dX7_mark_43 : decode cX7_mark 43 = .ok (.getfield 19, 3) := by decide +kernel
theorem dX7_mark_46 : decode cX7_mark 46 = .ok (.aload_n 0, 1) := by decide +kernel
theorem dX7_mark_47 : decode cX7_mark 47 = .ok (.getfield 10, 3) := by decide +kernel
theorem dX7_mark_50 : decode cX7_mark 50 = .ok (.invokevirtual 223, 3) := by decide +kernel
theorem dX7_mark_53 : decode cX7_mark 53 = .ok (.iload_n 3, 1) := by decide +kernel
theorem dX7_mark_54 : decode cX7_mark 54 = .ok (.invokestatic 239, 3) := by decide +kernel
theorem dX7_mark_57 : decode cX7_mark 57 = .ok (.istore 4, 2) := by decide +kernel
theorem dX7_mark_59 : decode cX7_mark 59 = .ok (.aload_n 0, 1) := by decide +kernel
theorem dX7_mark_60 : decode cX7_mark 60 = .ok (.getfield 10, 3) := by decide +kernel
theorem dX7_mark_63 : decode cX7_mark 63 = .ok (.iload_n 1, 1) := by decide +kernel
theorem dX7_mark_64 : decode cX7_mark 64 = .ok (.iload_n 2, 1) := by decide +kernel
theorem dX7_mark_65 : decode cX7_mark 65 = .ok (.iload 4, 2) := by decide +kernel
theorem dX7_mark_67 : decode cX7_mark 67 = .ok (.invokevirtual 242, 3) := by decide +kernel
theorem dX7_mark_70 : decode cX7_mark 70 = .ok (.iload 4, 2) := by decide +kernel
theorem dX7_mark_72 : decode cX7_mark 72 = .ok (.ireturn, 1) := by decide +kernel
theorem dX7_component_0 : decode cX7_component 0 = .ok (.aload_n 0, 1) := by decide +kernel
theorem dX7_component_1 : decode cX7_component 1 = .ok (.getfield 10, 3) := by decide +kernel
theorem dX7_component_4 : decode cX7_component 4 = .ok (.iload_n 1, 1) := by decide +kernel
theorem dX7_component_5 : decode cX7_component 5 = .ok (.invokevirtual 122, 3) := by decide +kernel
theorem dX7_component_8 : decode cX7_component 8 = .ok (.ifCond .eq 12, 3) := by decide +kernel
theorem dX7_component_11 : decode cX7_component 11 = .ok (.iload_n 2, 1) := by decide +kernel
theorem dX7_component_12 : decode cX7_component 12 = .ok (.ifCond .lt 8, 3) := by decide +kernel
theorem dX7_component_15 : decode cX7_component 15 = .ok (.iload_n 2, 1) := by decide +kernel
theorem dX7_component_16 : decode cX7_component 16 = .ok (.iconst 3, 1) := by decide +kernel
theorem dX7_component_17 : decode cX7_component 17 = .ok (.if_icmp .lt 13, 3) := by decide +kernel
theorem dX7_component_20 : decode cX7_component 20 = .ok (.new 126, 3) := by decide +kernel
theorem dX7_component_23 : decode cX7_component 23 = .ok (.dup, 1) := by decide +kernel
theorem dX7_component_24 : decode cX7_component 24 = .ok (.ldc 246, 2) := by decide +kernel
theorem dX7_component_26 : decode cX7_component 26 = .ok (.invokespecial 130, 3) := by decide +kernel
theorem dX7_component_29 : decode cX7_component 29 = .ok (.athrow, 1) := by decide +kernel
theorem dX7_component_30 : decode cX7_component 30 = .ok (.iload_n 3, 1) := by decide +kernel
theorem dX7_component_31 : decode cX7_component 31 = .ok (.ifCond .lt 9, 3) := by decide +kernel
theorem dX7_component_34 : decode cX7_component 34 = .ok (.iload_n 3, 1) := by decide +kernel
theorem dX7_component_35 : decode cX7_component 35 = .ok (.ldc 248, 2) := by decide +kernel
theorem dX7_component_37 : decode cX7_component 37 = .ok (.if_icmp .le 13, 3) := by decide +kernel
theorem dX7_component_40 : decode cX7_component 40 = .ok (.new 69, 3) := by decide +kernel
theorem dX7_component_43 : decode cX7_component 43 = .ok (.dup, 1) := by decide +kernel
theorem dX7_component_44 : decode cX7_component 44 = .ok (.ldc 249, 2) := by decide +kernel
theorem dX7_component_46 : decode cX7_component 46 = .ok (.invokespecial 73, 3) := by decide +kernel
theorem dX7_component_49 : decode cX7_component 49 = .ok (.athrow, 1) := by decide +kernel
theorem dX7_component_50 : decode cX7_component 50 = .ok (.aload_n 0, 1) := by decide +kernel
theorem dX7_component_51 : decode cX7_component 51 = .ok (.getfield 19, 3) := by decide +kernel
theorem dX7_component_54 : decode cX7_component 54 = .ok (.aload_n 0, 1) := by decide +kernel
theorem dX7_component_55 : decode cX7_component 55 = .ok (.getfield 10, 3) := by decide +kernel
theorem dX7_component_58 : decode cX7_component 58 = .ok (.invokevirtual 223, 3) := by decide +kernel
theorem dX7_component_61 : decode cX7_component 61 = .ok (.iload_n 3, 1) := by decide +kernel
theorem dX7_component_62 : decode cX7_component 62 = .ok (.invokestatic 251, 3) := by decide +kernel
theorem dX7_component_65 : decode cX7_component 65 = .ok (.istore 4, 2) := by decide +kernel
theorem dX7_component_67 : decode cX7_component 67 = .ok (.aload_n 0, 1) := by decide +kernel
theorem dX7_component_68 : decode cX7_component 68 = .ok (.getfield 10, 3) := by decide +kernel
theorem dX7_component_71 : decode cX7_component 71 = .ok (.iload_n 1, 1) := by decide +kernel
theorem dX7_component_72 : decode cX7_component 72 = .ok (.iload_n 2, 1) := by decide +kernel
theorem dX7_component_73 : decode cX7_component 73 = .ok (.iload 4, 2) := by decide +kernel
theorem dX7_component_75 : decode cX7_component 75 = .ok (.invokevirtual 254, 3) := by decide +kernel
theorem dX7_component_78 : decode cX7_component 78 = .ok (.iload 4, 2) := by decide +kernel
theorem dX7_component_80 : decode cX7_component 80 = .ok (.ireturn, 1) := by decide +kernel
theorem dX7_call_0 : decode cX7_call 0 = .ok (.aload_n 0, 1) := by decide +kernel
theorem dX7_call_1 : decode cX7_call 1 = .ok (.iload_n 1, 1) := by decide +kernel
theorem dX7_call_2 : decode cX7_call 2 = .ok (.iload_n 2, 1) := by decide +kernel
theorem dX7_call_3 : decode cX7_call 3 = .ok (.iload_n 3, 1) := by decide +kernel
theorem dX7_call_4 : decode cX7_call 4 = .ok (.iload 4, 2) := by decide +kernel
theorem dX7_call_6 : decode cX7_call 6 = .ok (.invokevirtual 257, 3) := by decide +kernel
theorem dX7_call_9 : decode cX7_call 9 = .ok (.aload_n 0, 1) := by decide +kernel
theorem dX7_call_10 : decode cX7_call 10 = .ok (.getfield 19, 3) := by decide +kernel
theorem dX7_call_13 : decode cX7_call 13 = .ok (.aload_n 0, 1) := by decide +kernel
theorem dX7_call_14 : decode cX7_call 14 = .ok (.getfield 10, 3) := by decide +kernel
theorem dX7_call_17 : decode cX7_call 17 = .ok (.invokevirtual 223, 3) := by decide +kernel
theorem dX7_call_20 : decode cX7_call 20 = .ok (.aload_n 0, 1) := by decide +kernel
theorem dX7_call_21 : decode cX7_call 21 = .ok (.getfield 10, 3) := by decide +kernel
theorem dX7_call_24 : decode cX7_call 24 = .ok (.getfield 133, 3) := by decide +kernel
theorem dX7_call_27 : decode cX7_call 27 = .ok (.iload_n 1, 1) := by decide +kernel
theorem dX7_call_28 : decode cX7_call 28 = .ok (.aaload, 1) := by decide +kernel
theorem dX7_call_29 : decode cX7_call 29 = .ok (.getfield 212, 3) := by decide +kernel
theorem dX7_call_32 : decode cX7_call 32 = .ok (.iconst 3, 1) := by decide +kernel
theorem dX7_call_33 : decode cX7_call 33 = .ok (.iload_n 2, 1) := by decide +kernel
theorem dX7_call_34 : decode cX7_call 34 = .ok (.imul, 1) := by decide +kernel
theorem dX7_call_35 : decode cX7_call 35 = .ok (.iload_n 3, 1) := by decide +kernel
theorem dX7_call_36 : decode cX7_call 36 = .ok (.iadd, 1) := by decide +kernel
theorem dX7_call_37 : decode cX7_call 37 = .ok (.iaload, 1) := by decide +kernel
theorem dX7_call_38 : decode cX7_call 38 = .ok (.istore 5, 2) := by decide +kernel
theorem dX7_call_40 : decode cX7_call 40 = .ok (.aload_n 0, 1) := by decide +kernel
theorem dX7_call_41 : decode cX7_call 41 = .ok (.getfield 10, 3) := by decide +kernel
theorem dX7_call_44 : decode cX7_call 44 = .ok (.iload_n 1, 1) := by decide +kernel
theorem dX7_call_45 : decode cX7_call 45 = .ok (.iload_n 2, 1) := by decide +kernel
theorem dX7_call_46 : decode cX7_call 46 = .ok (.iload_n 3, 1) := by decide +kernel
theorem dX7_call_47 : decode cX7_call 47 = .ok (.iload 4, 2) := by decide +kernel
theorem dX7_call_49 : decode cX7_call 49 = .ok (.invokevirtual 261, 3) := by decide +kernel
theorem dX7_call_52 : decode cX7_call 52 = .ok (.pop, 1) := by decide +kernel
theorem dX7_call_53 : decode cX7_call 53 = .ok (.iload 5, 2) := by decide +kernel
theorem dX7_call_55 : decode cX7_call 55 = .ok (.ireturn, 1) := by decide +kernel
theorem dX7_review_0 : decode cX7_review 0 = .ok (.aload_n 0, 1) := by decide +kernel
theorem dX7_review_1 : decode cX7_review 1 = .ok (.getfield 10, 3) := by decide +kernel
theorem dX7_review_4 : decode cX7_review 4 = .ok (.iload_n 1, 1) := by decide +kernel
theorem dX7_review_5 : decode cX7_review 5 = .ok (.iload_n 2, 1) := by decide +kernel
theorem dX7_review_6 : decode cX7_review 6 = .ok (.invokevirtual 166, 3) := by decide +kernel
theorem dX7_review_9 : decode cX7_review 9 = .ok (.ifCond .ne 13, 3) := by decide +kernel
theorem dX7_review_12 : decode cX7_review 12 = .ok (.new 126, 3) := by decide +kernel
theorem dX7_review_15 : decode cX7_review 15 = .ok (.dup, 1) := by decide +kernel
theorem dX7_review_16 : decode cX7_review 16 = .ok (.ldc 170, 2) := by decide +kernel
theorem dX7_review_18 : decode cX7_review 18 = .ok (.invokespecial 130, 3) := by decide +kernel
theorem dX7_review_21 : decode cX7_review 21 = .ok (.athrow, 1) := by decide +kernel
theorem dX7_review_22 : decode cX7_review 22 = .ok (.aload_n 0, 1) := by decide +kernel
theorem dX7_review_23 : decode cX7_review 23 = .ok (.getfield 19, 3) := by decide +kernel
theorem dX7_review_26 : decode cX7_review 26 = .ok (.aload_n 0, 1) := by decide +kernel
theorem dX7_review_27 : decode cX7_review 27 = .ok (.getfield 10, 3) := by decide +kernel
theorem dX7_review_30 : decode cX7_review 30 = .ok (.invokevirtual 223, 3) := by decide +kernel
theorem dX7_review_33 : decode cX7_review 33 = .ok (.aload_n 0, 1) := by decide +kernel
theorem dX7_review_34 : decode cX7_review 34 = .ok (.getfield 10, 3) := by decide +kernel
theorem dX7_review_37 : decode cX7_review 37 = .ok (.iload_n 1, 1) := by decide +kernel
theorem dX7_review_38 : decode cX7_review 38 = .ok (.iload_n 2, 1) := by decide +kernel
theorem dX7_review_39 : decode cX7_review 39 = .ok (.iload_n 3, 1) := by decide +kernel
theorem dX7_review_40 : decode cX7_review 40 = .ok (.ifCond .eq 7, 3) := by decide +kernel
theorem dX7_review_43 : decode cX7_review 43 = .ok (.iconst 1, 1) := by decide +kernel
theorem dX7_review_44 : decode cX7_review 44 = .ok (.goto 4, 3) := by decide +kernel
theorem dX7_review_47 : decode cX7_review 47 = .ok (.iconst 0, 1) := by decide +kernel
theorem dX7_review_48 : decode cX7_review 48 = .ok (.invokevirtual 265, 3) := by decide +kernel
theorem dX7_review_51 : decode cX7_review 51 = .ok (.pop, 1) := by decide +kernel
theorem dX7_review_52 : decode cX7_review 52 = .ok (.aload_n 0, 1) := by decide +kernel
theorem dX7_review_53 : decode cX7_review 53 = .ok (.getfield 10, 3) := by decide +kernel
theorem dX7_review_56 : decode cX7_review 56 = .ok (.invokevirtual 102, 3) := by decide +kernel
theorem dX7_review_59 : decode cX7_review 59 = .ok (.ireturn, 1) := by decide +kernel
theorem dX7_fall_0 : decode cX7_fall 0 = .ok (.aload_n 0, 1) := by decide +kernel
theorem dX7_fall_1 : decode cX7_fall 1 = .ok (.getfield 10, 3) := by decide +kernel
theorem dX7_fall_4 : decode cX7_fall 4 = .ok (.iload_n 1, 1) := by decide +kernel
theorem dX7_fall_5 : decode cX7_fall 5 = .ok (.iload_n 2, 1) := by decide +kernel
theorem dX7_fall_6 : decode cX7_fall 6 = .ok (.invokevirtual 166, 3) := by decide +kernel
theorem dX7_fall_9 : decode cX7_fall 9 = .ok (.ifCond .ne 13, 3) := by decide +kernel
theorem dX7_fall_12 : decode cX7_fall 12 = .ok (.new 126, 3) := by decide +kernel
theorem dX7_fall_15 : decode cX7_fall 15 = .ok (.dup, 1) := by decide +kernel
theorem dX7_fall_16 : decode cX7_fall 16 = .ok (.ldc 170, 2) := by decide +kernel
theorem dX7_fall_18 : decode cX7_fall 18 = .ok (.invokespecial 130, 3) := by decide +kernel
theorem dX7_fall_21 : decode cX7_fall 21 = .ok (.athrow, 1) := by decide +kernel
theorem dX7_fall_22 : decode cX7_fall 22 = .ok (.aload_n 0, 1) := by decide +kernel
theorem dX7_fall_23 : decode cX7_fall 23 = .ok (.getfield 19, 3) := by decide +kernel
theorem dX7_fall_26 : decode cX7_fall 26 = .ok (.aload_n 0, 1) := by decide +kernel
theorem dX7_fall_27 : decode cX7_fall 27 = .ok (.getfield 10, 3) := by decide +kernel
theorem dX7_fall_30 : decode cX7_fall 30 = .ok (.invokevirtual 223, 3) := by decide +kernel
theorem dX7_fall_33 : decode cX7_fall 33 = .ok (.aload_n 0, 1) := by decide +kernel
theorem dX7_fall_34 : decode cX7_fall 34 = .ok (.getfield 10, 3) := by decide +kernel
theorem dX7_fall_37 : decode cX7_fall 37 = .ok (.iload_n 1, 1) := by decide +kernel
theorem dX7_fall_38 : decode cX7_fall 38 = .ok (.iload_n 2, 1) := by decide +kernel
theorem dX7_fall_39 : decode cX7_fall 39 = .ok (.iload_n 3, 1) := by decide +kernel
theorem dX7_fall_40 : decode cX7_fall 40 = .ok (.ifCond .eq 7, 3) := by decide +kernel
theorem dX7_fall_43 : decode cX7_fall 43 = .ok (.iconst 1, 1) := by decide +kernel
theorem dX7_fall_44 : decode cX7_fall 44 = .ok (.goto 4, 3) := by decide +kernel
theorem dX7_fall_47 : decode cX7_fall 47 = .ok (.iconst 0, 1) := by decide +kernel
theorem dX7_fall_48 : decode cX7_fall 48 = .ok (.invokevirtual 268, 3) := by decide +kernel
theorem dX7_fall_51 : decode cX7_fall 51 = .ok (.pop, 1) := by decide +kernel
theorem dX7_fall_52 : decode cX7_fall 52 = .ok (.aload_n 0, 1) := by decide +kernel
theorem dX7_fall_53 : decode cX7_fall 53 = .ok (.getfield 10, 3) := by decide +kernel
theorem dX7_fall_56 : decode cX7_fall 56 = .ok (.getfield 133, 3) := by decide +kernel
theorem dX7_fall_59 : decode cX7_fall 59 = .ok (.iload_n 1, 1) := by decide +kernel
theorem dX7_fall_60 : decode cX7_fall 60 = .ok (.aaload, 1) := by decide +kernel
theorem dX7_fall_61 : decode cX7_fall 61 = .ok (.invokevirtual 164, 3) := by decide +kernel
theorem dX7_fall_64 : decode cX7_fall 64 = .ok (.ireturn, 1) := by decide +kernel
theorem dX7_penalty_0 : decode cX7_penalty 0 = .ok (.aload_n 0, 1) := by decide +kernel
theorem dX7_penalty_1 : decode cX7_penalty 1 = .ok (.getfield 10, 3) := by decide +kernel
theorem dX7_penalty_4 : decode cX7_penalty 4 = .ok (.iload_n 1, 1) := by decide +kernel
theorem dX7_penalty_5 : decode cX7_penalty 5 = .ok (.invokevirtual 122, 3) := by decide +kernel
theorem dX7_penalty_8 : decode cX7_penalty 8 = .ok (.ifCond .ne 13, 3) := by decide +kernel
theorem dX7_penalty_11 : decode cX7_penalty 11 = .ok (.new 126, 3) := by decide +kernel
theorem dX7_penalty_14 : decode cX7_penalty 14 = .ok (.dup, 1) := by decide +kernel
theorem dX7_penalty_15 : decode cX7_penalty 15 = .ok (.ldc 128, 2) := by decide +kernel
theorem dX7_penalty_17 : decode cX7_penalty 17 = .ok (.invokespecial 130, 3) := by decide +kernel
theorem dX7_penalty_20 : decode cX7_penalty 20 = .ok (.athrow, 1) := by decide +kernel
theorem dX7_penalty_21 : decode cX7_penalty 21 = .ok (.iload_n 2, 1) := by decide +kernel
theorem dX7_penalty_22 : decode cX7_penalty 22 = .ok (.ifCond .lt 9, 3) := by decide +kernel
theorem dX7_penalty_25 : decode cX7_penalty 25 = .ok (.iload_n 2, 1) := by decide +kernel
theorem dX7_penalty_26 : decode cX7_penalty 26 = .ok (.bipush 9, 2) := by decide +kernel
theorem dX7_penalty_28 : decode cX7_penalty 28 = .ok (.if_icmp .le 14, 3) := by decide +kernel
theorem dX7_penalty_31 : decode cX7_penalty 31 = .ok (.new 69, 3) := by decide +kernel
theorem dX7_penalty_34 : decode cX7_penalty 34 = .ok (.dup, 1) := by decide +kernel
theorem dX7_penalty_35 : decode cX7_penalty 35 = .ok (.ldc_w 271, 3) := by decide +kernel
theorem dX7_penalty_38 : decode cX7_penalty 38 = .ok (.invokespecial 73, 3) := by decide +kernel
theorem dX7_penalty_41 : decode cX7_penalty 41 = .ok (.athrow, 1) := by decide +kernel
theorem dX7_penalty_42 : decode cX7_penalty 42 = .ok (.aload_n 0, 1) := by decide +kernel
theorem dX7_penalty_43 : decode cX7_penalty 43 = .ok (.getfield 19, 3) := by decide +kernel
theorem dX7_penalty_46 : decode cX7_penalty 46 = .ok (.aload_n 0, 1) := by decide +kernel
theorem dX7_penalty_47 : decode cX7_penalty 47 = .ok (.getfield 10, 3) := by decide +kernel
theorem dX7_penalty_50 : decode cX7_penalty 50 = .ok (.invokevirtual 223, 3) := by decide +kernel
theorem dX7_penalty_53 : decode cX7_penalty 53 = .ok (.aload_n 0, 1) := by decide +kernel
theorem dX7_penalty_54 : decode cX7_penalty 54 = .ok (.getfield 10, 3) := by decide +kernel
theorem dX7_penalty_57 : decode cX7_penalty 57 = .ok (.getfield 133, 3) := by decide +kernel
theorem dX7_penalty_60 : decode cX7_penalty 60 = .ok (.iload_n 1, 1) := by decide +kernel
theorem dX7_penalty_61 : decode cX7_penalty 61 = .ok (.aaload, 1) := by decide +kernel
theorem dX7_penalty_62 : decode cX7_penalty 62 = .ok (.getfield 273, 3) := by decide +kernel
theorem dX7_penalty_65 : decode cX7_penalty 65 = .ok (.istore_n 3, 1) := by decide +kernel
theorem dX7_penalty_66 : decode cX7_penalty 66 = .ok (.aload_n 0, 1) := by decide +kernel
theorem dX7_penalty_67 : decode cX7_penalty 67 = .ok (.getfield 10, 3) := by decide +kernel
theorem dX7_penalty_70 : decode cX7_penalty 70 = .ok (.iload_n 1, 1) := by decide +kernel
theorem dX7_penalty_71 : decode cX7_penalty 71 = .ok (.iload_n 2, 1) := by decide +kernel
theorem dX7_penalty_72 : decode cX7_penalty 72 = .ok (.invokevirtual 276, 3) := by decide +kernel
theorem dX7_penalty_75 : decode cX7_penalty 75 = .ok (.pop, 1) := by decide +kernel
theorem dX7_penalty_76 : decode cX7_penalty 76 = .ok (.iload_n 3, 1) := by decide +kernel
theorem dX7_penalty_77 : decode cX7_penalty 77 = .ok (.ireturn, 1) := by decide +kernel
theorem dX7_set_0 : decode cX7_set 0 = .ok (.iload_n 1, 1) := by decide +kernel
theorem dX7_set_1 : decode cX7_set 1 = .ok (.iload_n 2, 1) := by decide +kernel
theorem dX7_set_2 : decode cX7_set 2 = .ok (.invokestatic 279, 3) := by decide +kernel
theorem dX7_set_5 : decode cX7_set 5 = .ok (.ifCond .ne 14, 3) := by decide +kernel
theorem dX7_set_8 : decode cX7_set 8 = .ok (.new 69, 3) := by decide +kernel
theorem dX7_set_11 : decode cX7_set 11 = .ok (.dup, 1) := by decide +kernel
theorem dX7_set_12 : decode cX7_set 12 = .ok (.ldc_w 282, 3) := by decide +kernel
theorem dX7_set_15 : decode cX7_set 15 = .ok (.invokespecial 73, 3) := by decide +kernel
theorem dX7_set_18 : decode cX7_set 18 = .ok (.athrow, 1) := by decide +kernel
theorem dX7_set_19 : decode cX7_set 19 = .ok (.aload_n 0, 1) := by decide +kernel
theorem dX7_set_20 : decode cX7_set 20 = .ok (.getfield 19, 3) := by decide +kernel
theorem dX7_set_23 : decode cX7_set 23 = .ok (.aload_n 0, 1) := by decide +kernel
theorem dX7_set_24 : decode cX7_set 24 = .ok (.getfield 10, 3) := by decide +kernel
theorem dX7_set_27 : decode cX7_set 27 = .ok (.invokevirtual 223, 3) := by decide +kernel
theorem dX7_set_30 : decode cX7_set 30 = .ok (.aload_n 0, 1) := by decide +kernel
theorem dX7_set_31 : decode cX7_set 31 = .ok (.getfield 10, 3) := by decide +kernel
theorem dX7_set_34 : decode cX7_set 34 = .ok (.getfield 137, 3) := by decide +kernel
theorem dX7_set_37 : decode cX7_set 37 = .ok (.iload_n 1, 1) := by decide +kernel
theorem dX7_set_38 : decode cX7_set 38 = .ok (.iaload, 1) := by decide +kernel
theorem dX7_set_39 : decode cX7_set 39 = .ok (.istore_n 3, 1) := by decide +kernel
theorem dX7_set_40 : decode cX7_set 40 = .ok (.aload_n 0, 1) := by decide +kernel
theorem dX7_set_41 : decode cX7_set 41 = .ok (.getfield 10, 3) := by decide +kernel
theorem dX7_set_44 : decode cX7_set 44 = .ok (.iload_n 1, 1) := by decide +kernel
theorem dX7_set_45 : decode cX7_set 45 = .ok (.iload_n 2, 1) := by decide +kernel
theorem dX7_set_46 : decode cX7_set 46 = .ok (.invokevirtual 284, 3) := by decide +kernel
theorem dX7_set_49 : decode cX7_set 49 = .ok (.pop, 1) := by decide +kernel
theorem dX7_set_50 : decode cX7_set 50 = .ok (.iload_n 3, 1) := by decide +kernel
theorem dX7_set_51 : decode cX7_set 51 = .ok (.ireturn, 1) := by decide +kernel
theorem dX7_undo_0 : decode cX7_undo 0 = .ok (.aload_n 0, 1) := by decide +kernel
theorem dX7_undo_1 : decode cX7_undo 1 = .ok (.getfield 19, 3) := by decide +kernel
theorem dX7_undo_4 : decode cX7_undo 4 = .ok (.aload_n 0, 1) := by decide +kernel
theorem dX7_undo_5 : decode cX7_undo 5 = .ok (.getfield 10, 3) := by decide +kernel
theorem dX7_undo_8 : decode cX7_undo 8 = .ok (.invokevirtual 287, 3) := by decide +kernel
theorem dX7_undo_11 : decode cX7_undo 11 = .ok (.ifCond .ne 14, 3) := by decide +kernel
theorem dX7_undo_14 : decode cX7_undo 14 = .ok (.new 80, 3) := by decide +kernel
theorem dX7_undo_17 : decode cX7_undo 17 = .ok (.dup, 1) := by decide +kernel
theorem dX7_undo_18 : decode cX7_undo 18 = .ok (.ldc_w 291, 3) := by decide +kernel
theorem dX7_undo_21 : decode cX7_undo 21 = .ok (.invokespecial 84, 3) := by decide +kernel
theorem dX7_undo_24 : decode cX7_undo 24 = .ok (.athrow, 1) := by decide +kernel
theorem dX7_undo_25 : decode cX7_undo 25 = .ok (.aload_n 0, 1) := by decide +kernel
theorem dX7_undo_26 : decode cX7_undo 26 = .ok (.getfield 19, 3) := by decide +kernel
theorem dX7_undo_29 : decode cX7_undo 29 = .ok (.getfield 293, 3) := by decide +kernel
theorem dX7_undo_32 : decode cX7_undo 32 = .ok (.ireturn, 1) := by decide +kernel
theorem dX7_ifCalled_0 : decode cX7_ifCalled 0 = .ok (.aload_n 0, 1) := by decide +kernel
theorem dX7_ifCalled_1 : decode cX7_ifCalled 1 = .ok (.iload_n 1, 1) := by decide +kernel
theorem dX7_ifCalled_2 : decode cX7_ifCalled 2 = .ok (.iload_n 2, 1) := by decide +kernel
theorem dX7_ifCalled_3 : decode cX7_ifCalled 3 = .ok (.iload_n 3, 1) := by decide +kernel
theorem dX7_ifCalled_4 : decode cX7_ifCalled 4 = .ok (.iload 4, 2) := by decide +kernel
theorem dX7_ifCalled_6 : decode cX7_ifCalled 6 = .ok (.invokevirtual 257, 3) := by decide +kernel
theorem dX7_ifCalled_9 : decode cX7_ifCalled 9 = .ok (.aload_n 0, 1) := by decide +kernel
theorem dX7_ifCalled_10 : decode cX7_ifCalled 10 = .ok (.getfield 65, 3) := by decide +kernel
theorem dX7_ifCalled_13 : decode cX7_ifCalled 13 = .ok (.aload_n 0, 1) := by decide +kernel
theorem dX7_ifCalled_14 : decode cX7_ifCalled 14 = .ok (.getfield 10, 3) := by decide +kernel
theorem dX7_ifCalled_17 : decode cX7_ifCalled 17 = .ok (.getfield 133, 3) := by decide +kernel
theorem dX7_ifCalled_20 : decode cX7_ifCalled 20 = .ok (.iload_n 1, 1) := by decide +kernel
theorem dX7_ifCalled_21 : decode cX7_ifCalled 21 = .ok (.aaload, 1) := by decide +kernel
theorem dX7_ifCalled_22 : decode cX7_ifCalled 22 = .ok (.invokevirtual 296, 3) := by decide +kernel
theorem dX7_ifCalled_25 : decode cX7_ifCalled 25 = .ok (.aload_n 0, 1) := by decide +kernel
theorem dX7_ifCalled_26 : decode cX7_ifCalled 26 = .ok (.getfield 65, 3) := by decide +kernel
theorem dX7_ifCalled_29 : decode cX7_ifCalled 29 = .ok (.getfield 212, 3) := by decide +kernel
theorem dX7_ifCalled_32 : decode cX7_ifCalled 32 = .ok (.iconst 3, 1) := by decide +kernel
theorem dX7_ifCalled_33 : decode cX7_ifCalled 33 = .ok (.iload_n 2, 1) := by decide +kernel
theorem dX7_ifCalled_34 : decode cX7_ifCalled 34 = .ok (.imul, 1) := by decide +kernel
theorem dX7_ifCalled_35 : decode cX7_ifCalled 35 = .ok (.iload_n 3, 1) := by decide +kernel
theorem dX7_ifCalled_36 : decode cX7_ifCalled 36 = .ok (.iadd, 1) := by decide +kernel
theorem dX7_ifCalled_37 : decode cX7_ifCalled 37 = .ok (.iload 4, 2) := by decide +kernel
theorem dX7_ifCalled_39 : decode cX7_ifCalled 39 = .ok (.iastore, 1) := by decide +kernel
theorem dX7_ifCalled_40 : decode cX7_ifCalled 40 = .ok (.aload_n 0, 1) := by decide +kernel
theorem dX7_ifCalled_41 : decode cX7_ifCalled 41 = .ok (.getfield 41, 3) := by decide +kernel
theorem dX7_ifCalled_44 : decode cX7_ifCalled 44 = .ok (.aload_n 0, 1) := by decide +kernel
theorem dX7_ifCalled_45 : decode cX7_ifCalled 45 = .ok (.getfield 65, 3) := by decide +kernel
theorem dX7_ifCalled_48 : decode cX7_ifCalled 48 = .ok (.aload_n 0, 1) := by decide +kernel
theorem dX7_ifCalled_49 : decode cX7_ifCalled 49 = .ok (.getfield 10, 3) := by decide +kernel
theorem dX7_ifCalled_52 : decode cX7_ifCalled 52 = .ok (.getfield 137, 3) := by decide +kernel
theorem dX7_ifCalled_55 : decode cX7_ifCalled 55 = .ok (.invokevirtual 141, 3) := by decide +kernel
theorem dX7_ifCalled_58 : decode cX7_ifCalled 58 = .ok (.aload_n 0, 1) := by decide +kernel
theorem dX7_ifCalled_59 : decode cX7_ifCalled 59 = .ok (.getfield 41, 3) := by decide +kernel
theorem dX7_ifCalled_62 : decode cX7_ifCalled 62 = .ok (.invokevirtual 157, 3) := by decide +kernel
theorem dX7_ifCalled_65 : decode cX7_ifCalled 65 = .ok (.ireturn, 1) := by decide +kernel
theorem dX7_ifReplaced_0 : decode cX7_ifReplaced 0 = .ok (.aload_n 0, 1) := by decide +kernel
theorem dX7_ifReplaced_1 : decode cX7_ifReplaced 1 = .ok (.getfield 10, 3) := by decide +kernel
theorem dX7_ifReplaced_4 : decode cX7_ifReplaced 4 = .ok (.iload_n 1, 1) := by decide +kernel
theorem dX7_ifReplaced_5 : decode cX7_ifReplaced 5 = .ok (.iload_n 2, 1) := by decide +kernel
theorem dX7_ifReplaced_6 : decode cX7_ifReplaced 6 = .ok (.invokevirtual 166, 3) := by decide +kernel
theorem dX7_ifReplaced_9 : decode cX7_ifReplaced 9 = .ok (.ifCond .ne 13, 3) := by decide +kernel
theorem dX7_ifReplaced_12 : decode cX7_ifReplaced 12 = .ok (.new 126, 3) := by decide +kernel
theorem dX7_ifReplaced_15 : decode cX7_ifReplaced 15 = .ok (.dup, 1) := by decide +kernel
theorem dX7_ifReplaced_16 : decode cX7_ifReplaced 16 = .ok (.ldc 170, 2) := by decide +kernel
theorem dX7_ifReplaced_18 : decode cX7_ifReplaced 18 = .ok (.invokespecial 130, 3) := by decide +kernel
theorem dX7_ifReplaced_21 : decode cX7_ifReplaced 21 = .ok (.athrow, 1) := by decide +kernel
theorem dX7_ifReplaced_22 : decode cX7_ifReplaced 22 = .ok (.aload_n 0, 1) := by decide +kernel
theorem dX7_ifReplaced_23 : decode cX7_ifReplaced 23 = .ok (.getfield 34, 3) := by decide +kernel
theorem dX7_ifReplaced_26 : decode cX7_ifReplaced 26 = .ok (.aload_n 0, 1) := by decide +kernel
theorem dX7_ifReplaced_27 : decode cX7_ifReplaced 27 = .ok (.getfield 65, 3) := by decide +kernel
theorem dX7_ifReplaced_30 : decode cX7_ifReplaced 30 = .ok (.invokevirtual 93, 3) := by decide +kernel
theorem dX7_ifReplaced_33 : decode cX7_ifReplaced 33 = .ok (.iconst (-1), 1) := by decide +kernel
theorem dX7_ifReplaced_34 : decode cX7_ifReplaced 34 = .ok (.if_icmp .ne 14, 3) := by decide +kernel
theorem dX7_ifReplaced_37 : decode cX7_ifReplaced 37 = .ok (.aload_n 0, 1) := by decide +kernel
theorem dX7_ifReplaced_38 : decode cX7_ifReplaced 38 = .ok (.getfield 65, 3) := by decide +kernel
theorem dX7_ifReplaced_41 : decode cX7_ifReplaced 41 = .ok (.getfield 145, 3) := by decide +kernel
theorem dX7_ifReplaced_44 : decode cX7_ifReplaced 44 = .ok (.iconst 1, 1) := by decide +kernel
theorem dX7_ifReplaced_45 : decode cX7_ifReplaced 45 = .ok (.if_icmp .eq 14, 3) := by decide +kernel
theorem dX7_ifReplaced_48 : decode cX7_ifReplaced 48 = .ok (.new 80, 3) := by decide +kernel
theorem dX7_ifReplaced_51 : decode cX7_ifReplaced 51 = .ok (.dup, 1) := by decide +kernel
theorem dX7_ifReplaced_52 : decode cX7_ifReplaced 52 = .ok (.ldc_w 299, 3) := by decide +kernel
theorem dX7_ifReplaced_55 : decode cX7_ifReplaced 55 = .ok (.invokespecial 84, 3) := by decide +kernel
theorem dX7_ifReplaced_58 : decode cX7_ifReplaced 58 = .ok (.athrow, 1) := by decide +kernel
theorem dX7_ifReplaced_59 : decode cX7_ifReplaced 59 = .ok (.aload_n 0, 1) := by decide +kernel
theorem dX7_ifReplaced_60 : decode cX7_ifReplaced 60 = .ok (.getfield 59, 3) := by decide +kernel
theorem dX7_ifReplaced_63 : decode cX7_ifReplaced 63 = .ok (.getfield 133, 3) := by decide +kernel
theorem dX7_ifReplaced_66 : decode cX7_ifReplaced 66 = .ok (.iload_n 1, 1) := by decide +kernel
theorem dX7_ifReplaced_67 : decode cX7_ifReplaced 67 = .ok (.aaload, 1) := by decide +kernel
theorem dX7_ifReplaced_68 : decode cX7_ifReplaced 68 = .ok (.astore_n 3, 1) := by decide +kernel
theorem dX7_ifReplaced_69 : decode cX7_ifReplaced 69 = .ok (.aload_n 3, 1) := by decide +kernel
theorem dX7_ifReplaced_70 : decode cX7_ifReplaced 70 = .ok (.aload_n 0, 1) := by decide +kernel
theorem dX7_ifReplaced_71 : decode cX7_ifReplaced 71 = .ok (.getfield 10, 3) := by decide +kernel
theorem dX7_ifReplaced_74 : decode cX7_ifReplaced 74 = .ok (.getfield 133, 3) := by decide +kernel
theorem dX7_ifReplaced_77 : decode cX7_ifReplaced 77 = .ok (.iload_n 1, 1) := by decide +kernel
theorem dX7_ifReplaced_78 : decode cX7_ifReplaced 78 = .ok (.aaload, 1) := by decide +kernel
theorem dX7_ifReplaced_79 : decode cX7_ifReplaced 79 = .ok (.invokevirtual 296, 3) := by decide +kernel
theorem dX7_ifReplaced_82 : decode cX7_ifReplaced 82 = .ok (.aload_n 3, 1) := by decide +kernel
theorem dX7_ifReplaced_83 : decode cX7_ifReplaced 83 = .ok (.iload_n 2, 1) := by decide +kernel
theorem dX7_ifReplaced_84 : decode cX7_ifReplaced 84 = .ok (.aload_n 0, 1) := by decide +kernel
theorem dX7_ifReplaced_85 : decode cX7_ifReplaced 85 = .ok (.getfield 65, 3) := by decide +kernel
theorem dX7_ifReplaced_88 : decode cX7_ifReplaced 88 = .ok (.iconst 0, 1) := by decide +kernel
theorem dX7_ifReplaced_89 : decode cX7_ifReplaced 89 = .ok (.invokevirtual 301, 3) := by decide +kernel
theorem dX7_ifReplaced_92 : decode cX7_ifReplaced 92 = .ok (.aload_n 0, 1) := by decide +kernel
theorem dX7_ifReplaced_93 : decode cX7_ifReplaced 93 = .ok (.getfield 41, 3) := by decide +kernel
theorem dX7_ifReplaced_96 : decode cX7_ifReplaced 96 = .ok (.aload_n 3, 1) := by decide +kernel
theorem dX7_ifReplaced_97 : decode cX7_ifReplaced 97 = .ok (.aload_n 0, 1) := by decide +kernel
theorem dX7_ifReplaced_98 : decode cX7_ifReplaced 98 = .ok (.getfield 10, 3) := by decide +kernel
theorem dX7_ifReplaced_101 : decode cX7_ifReplaced 101 = .ok (.getfield 137, 3) := by decide +kernel
theorem dX7_ifReplaced_104 : decode cX7_ifReplaced 104 = .ok (.invokevirtual 141, 3) := by decide +kernel
theorem dX7_ifReplaced_107 : decode cX7_ifReplaced 107 = .ok (.aload_n 0, 1) := by decide +kernel
theorem dX7_ifReplaced_108 : decode cX7_ifReplaced 108 = .ok (.getfield 41, 3) := by decide +kernel
theorem dX7_ifReplaced_111 : decode cX7_ifReplaced 111 = .ok (.invokevirtual 157, 3) := by decide +kernel
theorem dX7_ifReplaced_114 : decode cX7_ifReplaced 114 = .ok (.ireturn, 1) := by decide +kernel
theorem dX7_bestSwap_0 : decode cX7_bestSwap 0 = .ok (.aload_n 0, 1) := by decide +kernel
theorem dX7_bestSwap_1 : decode cX7_bestSwap 1 = .ok (.getfield 10, 3) := by decide +kernel
theorem dX7_bestSwap_4 : decode cX7_bestSwap 4 = .ok (.iload_n 1, 1) := by decide +kernel
theorem dX7_bestSwap_5 : decode cX7_bestSwap 5 = .ok (.invokevirtual 122, 3) := by decide +kernel
theorem dX7_bestSwap_8 : decode cX7_bestSwap 8 = .ok (.ifCond .ne 13, 3) := by decide +kernel
theorem dX7_bestSwap_11 : decode cX7_bestSwap 11 = .ok (.new 126, 3) := by decide +kernel
theorem dX7_bestSwap_14 : decode cX7_bestSwap 14 = .ok (.dup, 1) := by decide +kernel
theorem dX7_bestSwap_15 : decode cX7_bestSwap 15 = .ok (.ldc 128, 2) := by decide +kernel
theorem dX7_bestSwap_17 : decode cX7_bestSwap 17 = .ok (.invokespecial 130, 3) := by decide +kernel
theorem dX7_bestSwap_20 : decode cX7_bestSwap 20 = .ok (.athrow, 1) := by decide +kernel
theorem dX7_bestSwap_21 : decode cX7_bestSwap 21 = .ok (.iload_n 2, 1) := by decide +kernel
theorem dX7_bestSwap_22 : decode cX7_bestSwap 22 = .ok (.ifCond .lt 8, 3) := by decide +kernel
theorem dX7_bestSwap_25 : decode cX7_bestSwap 25 = .ok (.iload_n 2, 1) := by decide +kernel
theorem dX7_bestSwap_26 : decode cX7_bestSwap 26 = .ok (.iconst 2, 1) := by decide +kernel
theorem dX7_bestSwap_27 : decode cX7_bestSwap 27 = .ok (.if_icmp .le 14, 3) := by decide +kernel
theorem dX7_bestSwap_30 : decode cX7_bestSwap 30 = .ok (.new 69, 3) := by decide +kernel
theorem dX7_bestSwap_33 : decode cX7_bestSwap 33 = .ok (.dup, 1) := by decide +kernel
theorem dX7_bestSwap_34 : decode cX7_bestSwap 34 = .ok (.ldc_w 305, 3) := by decide +kernel
theorem dX7_bestSwap_37 : decode cX7_bestSwap 37 = .ok (.invokespecial 73, 3) := by decide +kernel
theorem dX7_bestSwap_40 : decode cX7_bestSwap 40 = .ok (.athrow, 1) := by decide +kernel
theorem dX7_bestSwap_41 : decode cX7_bestSwap 41 = .ok (.aload_n 0, 1) := by decide +kernel
theorem dX7_bestSwap_42 : decode cX7_bestSwap 42 = .ok (.getfield 10, 3) := by decide +kernel
theorem dX7_bestSwap_45 : decode cX7_bestSwap 45 = .ok (.getfield 133, 3) := by decide +kernel
theorem dX7_bestSwap_48 : decode cX7_bestSwap 48 = .ok (.iload_n 1, 1) := by decide +kernel
theorem dX7_bestSwap_49 : decode cX7_bestSwap 49 = .ok (.aaload, 1) := by decide +kernel
theorem dX7_bestSwap_50 : decode cX7_bestSwap 50 = .ok (.astore_n 3, 1) := by decide +kernel
theorem dX7_bestSwap_51 : decode cX7_bestSwap 51 = .ok (.aload_n 0, 1) := by decide +kernel
theorem dX7_bestSwap_52 : decode cX7_bestSwap 52 = .ok (.getfield 65, 3) := by decide +kernel
theorem dX7_bestSwap_55 : decode cX7_bestSwap 55 = .ok (.aload_n 3, 1) := by decide +kernel
theorem dX7_bestSwap_56 : decode cX7_bestSwap 56 = .ok (.invokevirtual 296, 3) := by decide +kernel
theorem dX7_bestSwap_59 : decode cX7_bestSwap 59 = .ok (.iconst 0, 1) := by decide +kernel
theorem dX7_bestSwap_60 : decode cX7_bestSwap 60 = .ok (.istore 4, 2) := by decide +kernel
theorem dX7_bestSwap_62 : decode cX7_bestSwap 62 = .ok (.iconst (-1), 1) := by decide +kernel
theorem dX7_bestSwap_63 : decode cX7_bestSwap 63 = .ok (.istore 5, 2) := by decide +kernel
theorem dX7_bestSwap_65 : decode cX7_bestSwap 65 = .ok (.iconst (-1), 1) := by decide +kernel
theorem dX7_bestSwap_66 : decode cX7_bestSwap 66 = .ok (.istore 6, 2) := by decide +kernel
theorem dX7_bestSwap_68 : decode cX7_bestSwap 68 = .ok (.iconst 0, 1) := by decide +kernel
theorem dX7_bestSwap_69 : decode cX7_bestSwap 69 = .ok (.istore 7, 2) := by decide +kernel
theorem dX7_bestSwap_71 : decode cX7_bestSwap 71 = .ok (.iload 7, 2) := by decide +kernel
theorem dX7_bestSwap_73 : decode cX7_bestSwap 73 = .ok (.aload_n 3, 1) := by decide +kernel
theorem dX7_bestSwap_74 : decode cX7_bestSwap 74 = .ok (.getfield 145, 3) := by decide +kernel
theorem dX7_bestSwap_77 : decode cX7_bestSwap 77 = .ok (.if_icmp .ge 66, 3) := by decide +kernel
theorem dX7_bestSwap_80 : decode cX7_bestSwap 80 = .ok (.iload 7, 2) := by decide +kernel
theorem dX7_bestSwap_82 : decode cX7_bestSwap 82 = .ok (.iconst 1, 1) := by decide +kernel
theorem dX7_bestSwap_83 : decode cX7_bestSwap 83 = .ok (.iadd, 1) := by decide +kernel
theorem dX7_bestSwap_84 : decode cX7_bestSwap 84 = .ok (.istore 8, 2) := by decide +kernel
theorem dX7_bestSwap_86 : decode cX7_bestSwap 86 = .ok (.iload 8, 2) := by decide +kernel
theorem dX7_bestSwap_88 : decode cX7_bestSwap 88 = .ok (.aload_n 3, 1) := by decide +kernel
theorem dX7_bestSwap_89 : decode cX7_bestSwap 89 = .ok (.getfield 145, 3) := by decide +kernel
theorem dX7_bestSwap_92 : decode cX7_bestSwap 92 = .ok (.if_icmp .ge 45, 3) := by decide +kernel
theorem dX7_bestSwap_95 : decode cX7_bestSwap 95 = .ok (.aload_n 0, 1) := by decide +kernel
theorem dX7_bestSwap_96 : decode cX7_bestSwap 96 = .ok (.aload_n 3, 1) := by decide +kernel
theorem dX7_bestSwap_97 : decode cX7_bestSwap 97 = .ok (.iload 7, 2) := by decide +kernel
theorem dX7_bestSwap_99 : decode cX7_bestSwap 99 = .ok (.iload 8, 2) := by decide +kernel
theorem dX7_bestSwap_101 : decode cX7_bestSwap 101 = .ok (.invokevirtual 307, 3) := by decide +kernel
theorem dX7_bestSwap_104 : decode cX7_bestSwap 104 = .ok (.istore 9, 2) := by decide +kernel
theorem dX7_bestSwap_106 : decode cX7_bestSwap 106 = .ok (.iload 5, 2) := by decide +kernel
theorem dX7_bestSwap_108 : decode cX7_bestSwap 108 = .ok (.iconst (-1), 1) := by decide +kernel
theorem dX7_bestSwap_109 : decode cX7_bestSwap 109 = .ok (.if_icmp .eq 10, 3) := by decide +kernel
theorem dX7_bestSwap_112 : decode cX7_bestSwap 112 = .ok (.iload 9, 2) := by decide +kernel
theorem dX7_bestSwap_114 : decode cX7_bestSwap 114 = .ok (.iload 4, 2) := by decide +kernel
theorem dX7_bestSwap_116 : decode cX7_bestSwap 116 = .ok (.if_icmp .le 15, 3) := by decide +kernel
theorem dX7_bestSwap_119 : decode cX7_bestSwap 119 = .ok (.iload 9, 2) := by decide +kernel
theorem dX7_bestSwap_121 : decode cX7_bestSwap 121 = .ok (.istore 4, 2) := by decide +kernel
theorem dX7_bestSwap_123 : decode cX7_bestSwap 123 = .ok (.iload 7, 2) := by decide +kernel
theorem dX7_bestSwap_125 : decode cX7_bestSwap 125 = .ok (.istore 5, 2) := by decide +kernel
theorem dX7_bestSwap_127 : decode cX7_bestSwap 127 = .ok (.iload 8, 2) := by decide +kernel
theorem dX7_bestSwap_129 : decode cX7_bestSwap 129 = .ok (.istore 6, 2) := by decide +kernel
theorem dX7_bestSwap_131 : decode cX7_bestSwap 131 = .ok (.iinc 8 1, 3) := by decide +kernel
theorem dX7_bestSwap_134 : decode cX7_bestSwap 134 = .ok (.goto (-48), 3) := by decide +kernel
theorem dX7_bestSwap_137 : decode cX7_bestSwap 137 = .ok (.iinc 7 1, 3) := by decide +kernel
theorem dX7_bestSwap_140 : decode cX7_bestSwap 140 = .ok (.goto (-69), 3) := by decide +kernel
theorem dX7_bestSwap_143 : decode cX7_bestSwap 143 = .ok (.iload 5, 2) := by decide +kernel
theorem dX7_bestSwap_145 : decode cX7_bestSwap 145 = .ok (.iconst (-1), 1) := by decide +kernel
theorem dX7_bestSwap_146 : decode cX7_bestSwap 146 = .ok (.if_icmp .ne 5, 3) := by decide +kernel
theorem dX7_bestSwap_149 : decode cX7_bestSwap 149 = .ok (.iconst (-1), 1) := by decide +kernel
theorem dX7_bestSwap_150 : decode cX7_bestSwap 150 = .ok (.ireturn, 1) := by decide +kernel
theorem dX7_bestSwap_151 : decode cX7_bestSwap 151 = .ok (.iload_n 2, 1) := by decide +kernel
theorem dX7_bestSwap_152 : decode cX7_bestSwap 152 = .ok (.ifCond .ne 8, 3) := by decide +kernel
theorem dX7_bestSwap_155 : decode cX7_bestSwap 155 = .ok (.iload 4, 2) := by decide +kernel
theorem dX7_bestSwap_157 : decode cX7_bestSwap 157 = .ok (.goto 15, 3) := by decide +kernel
theorem dX7_bestSwap_160 : decode cX7_bestSwap 160 = .ok (.iload_n 2, 1) := by decide +kernel
theorem dX7_bestSwap_161 : decode cX7_bestSwap 161 = .ok (.iconst 1, 1) := by decide +kernel
theorem dX7_bestSwap_162 : decode cX7_bestSwap 162 = .ok (.if_icmp .ne 8, 3) := by decide +kernel
theorem dX7_bestSwap_165 : decode cX7_bestSwap 165 = .ok (.iload 5, 2) := by decide +kernel
theorem dX7_bestSwap_167 : decode cX7_bestSwap 167 = .ok (.goto 5, 3) := by decide +kernel
theorem dX7_bestSwap_170 : decode cX7_bestSwap 170 = .ok (.iload 6, 2) := by decide +kernel
theorem dX7_bestSwap_172 : decode cX7_bestSwap 172 = .ok (.ireturn, 1) := by decide +kernel
theorem dX7_needs_0 : decode cX7_needs 0 = .ok (.aload_n 0, 1) := by decide +kernel
theorem dX7_needs_1 : decode cX7_needs 1 = .ok (.getfield 10, 3) := by decide +kernel
theorem dX7_needs_4 : decode cX7_needs 4 = .ok (.iload_n 1, 1) := by decide +kernel
theorem dX7_needs_5 : decode cX7_needs 5 = .ok (.iload_n 2, 1) := by decide +kernel
theorem dX7_needs_6 : decode cX7_needs 6 = .ok (.invokevirtual 166, 3) := by decide +kernel
theorem dX7_needs_9 : decode cX7_needs 9 = .ok (.ifCond .ne 13, 3) := by decide +kernel
theorem dX7_needs_12 : decode cX7_needs 12 = .ok (.new 126, 3) := by decide +kernel
theorem dX7_needs_15 : decode cX7_needs 15 = .ok (.dup, 1) := by decide +kernel
theorem dX7_needs_16 : decode cX7_needs 16 = .ok (.ldc 170, 2) := by decide +kernel
theorem dX7_needs_18 : decode cX7_needs 18 = .ok (.invokespecial 130, 3) := by decide +kernel
theorem dX7_needs_21 : decode cX7_needs 21 = .ok (.athrow, 1) := by decide +kernel
theorem dX7_needs_22 : decode cX7_needs 22 = .ok (.aload_n 0, 1) := by decide +kernel
theorem dX7_needs_23 : decode cX7_needs 23 = .ok (.getfield 48, 3) := by decide +kernel
theorem dX7_needs_26 : decode cX7_needs 26 = .ok (.aload_n 0, 1) := by decide +kernel
theorem dX7_needs_27 : decode cX7_needs 27 = .ok (.getfield 10, 3) := by decide +kernel
theorem dX7_needs_30 : decode cX7_needs 30 = .ok (.aload_n 0, 1) := by decide +kernel
theorem dX7_needs_31 : decode cX7_needs 31 = .ok (.getfield 41, 3) := by decide +kernel
theorem dX7_needs_34 : decode cX7_needs 34 = .ok (.invokevirtual 112, 3) := by decide +kernel
theorem dX7_needs_37 : decode cX7_needs 37 = .ok (.aload_n 0, 1) := by decide +kernel
theorem dX7_needs_38 : decode cX7_needs 38 = .ok (.getfield 41, 3) := by decide +kernel
theorem dX7_needs_41 : decode cX7_needs 41 = .ok (.aload_n 0, 1) := by decide +kernel
theorem dX7_needs_42 : decode cX7_needs 42 = .ok (.getfield 10, 3) := by decide +kernel
theorem dX7_needs_45 : decode cX7_needs 45 = .ok (.getfield 133, 3) := by decide +kernel
theorem dX7_needs_48 : decode cX7_needs 48 = .ok (.iload_n 1, 1) := by decide +kernel
theorem dX7_needs_49 : decode cX7_needs 49 = .ok (.aaload, 1) := by decide +kernel
theorem dX7_needs_50 : decode cX7_needs 50 = .ok (.aload_n 0, 1) := by decide +kernel
theorem dX7_needs_51 : decode cX7_needs 51 = .ok (.getfield 10, 3) := by decide +kernel
theorem dX7_needs_54 : decode cX7_needs 54 = .ok (.getfield 137, 3) := by decide +kernel
theorem dX7_needs_57 : decode cX7_needs 57 = .ok (.invokevirtual 141, 3) := by decide +kernel
theorem dX7_needs_60 : decode cX7_needs 60 = .ok (.aload_n 0, 1) := by decide +kernel
theorem dX7_needs_61 : decode cX7_needs 61 = .ok (.getfield 41, 3) := by decide +kernel
theorem dX7_needs_64 : decode cX7_needs 64 = .ok (.getfield 311, 3) := by decide +kernel
theorem dX7_needs_67 : decode cX7_needs 67 = .ok (.iload_n 2, 1) := by decide +kernel
theorem dX7_needs_68 : decode cX7_needs 68 = .ok (.iaload, 1) := by decide +kernel
theorem dX7_needs_69 : decode cX7_needs 69 = .ok (.istore_n 3, 1) := by decide +kernel
theorem dX7_needs_70 : decode cX7_needs 70 = .ok (.aload_n 0, 1) := by decide +kernel
theorem dX7_needs_71 : decode cX7_needs 71 = .ok (.getfield 41, 3) := by decide +kernel
theorem dX7_needs_74 : decode cX7_needs 74 = .ok (.getfield 148, 3) := by decide +kernel
theorem dX7_needs_77 : decode cX7_needs 77 = .ok (.aload_n 0, 1) := by decide +kernel
theorem dX7_needs_78 : decode cX7_needs 78 = .ok (.getfield 41, 3) := by decide +kernel
theorem dX7_needs_81 : decode cX7_needs 81 = .ok (.getfield 186, 3) := by decide +kernel
theorem dX7_needs_84 : decode cX7_needs 84 = .ok (.iload_n 2, 1) := by decide +kernel
theorem dX7_needs_85 : decode cX7_needs 85 = .ok (.iaload, 1) := by decide +kernel
theorem dX7_needs_86 : decode cX7_needs 86 = .ok (.isub, 1) := by decide +kernel
theorem dX7_needs_87 : decode cX7_needs 87 = .ok (.istore 4, 2) := by decide +kernel
theorem dX7_needs_89 : decode cX7_needs 89 = .ok (.aload_n 0, 1) := by decide +kernel
theorem dX7_needs_90 : decode cX7_needs 90 = .ok (.getfield 41, 3) := by decide +kernel
theorem dX7_needs_93 : decode cX7_needs 93 = .ok (.invokevirtual 157, 3) := by decide +kernel
theorem dX7_needs_96 : decode cX7_needs 96 = .ok (.aload_n 0, 1) := by decide +kernel
theorem dX7_needs_97 : decode cX7_needs 97 = .ok (.getfield 41, 3) := by decide +kernel
theorem dX7_needs_100 : decode cX7_needs 100 = .ok (.getfield 186, 3) := by decide +kernel
theorem dX7_needs_103 : decode cX7_needs 103 = .ok (.iload_n 2, 1) := by decide +kernel
theorem dX7_needs_104 : decode cX7_needs 104 = .ok (.iaload, 1) := by decide +kernel
theorem dX7_needs_105 : decode cX7_needs 105 = .ok (.isub, 1) := by decide +kernel
theorem dX7_needs_106 : decode cX7_needs 106 = .ok (.istore 5, 2) := by decide +kernel
theorem dX7_needs_108 : decode cX7_needs 108 = .ok (.bipush (-15), 2) := by decide +kernel
theorem dX7_needs_110 : decode cX7_needs 110 = .ok (.istore 6, 2) := by decide +kernel
theorem dX7_needs_112 : decode cX7_needs 112 = .ok (.iload 6, 2) := by decide +kernel
theorem dX7_needs_114 : decode cX7_needs 114 = .ok (.bipush 15, 2) := by decide +kernel
theorem dX7_needs_116 : decode cX7_needs 116 = .ok (.if_icmp .gt 62, 3) := by decide +kernel
theorem dX7_needs_119 : decode cX7_needs 119 = .ok (.iload 6, 2) := by decide +kernel
theorem dX7_needs_121 : decode cX7_needs 121 = .ok (.iload_n 3, 1) := by decide +kernel
theorem dX7_needs_122 : decode cX7_needs 122 = .ok (.invokestatic 314, 3) := by decide +kernel
theorem dX7_needs_125 : decode cX7_needs 125 = .ok (.istore 7, 2) := by decide +kernel
theorem dX7_needs_127 : decode cX7_needs 127 = .ok (.aload_n 0, 1) := by decide +kernel
theorem dX7_needs_128 : decode cX7_needs 128 = .ok (.getfield 48, 3) := by decide +kernel
theorem dX7_needs_131 : decode cX7_needs 131 = .ok (.getfield 318, 3) := by decide +kernel
theorem dX7_needs_134 : decode cX7_needs 134 = .ok (.iload_n 1, 1) := by decide +kernel
theorem dX7_needs_135 : decode cX7_needs 135 = .ok (.iload 5, 2) := by decide +kernel
theorem dX7_needs_137 : decode cX7_needs 137 = .ok (.iload 7, 2) := by decide +kernel
theorem dX7_needs_139 : decode cX7_needs 139 = .ok (.iadd, 1) := by decide +kernel
theorem dX7_needs_140 : decode cX7_needs 140 = .ok (.iastore, 1) := by decide +kernel
theorem dX7_needs_141 : decode cX7_needs 141 = .ok (.aload_n 0, 1) := by decide +kernel
theorem dX7_needs_142 : decode cX7_needs 142 = .ok (.getfield 48, 3) := by decide +kernel
theorem dX7_needs_145 : decode cX7_needs 145 = .ok (.getfield 321, 3) := by decide +kernel
theorem dX7_needs_148 : decode cX7_needs 148 = .ok (.iload_n 1, 1) := by decide +kernel
theorem dX7_needs_149 : decode cX7_needs 149 = .ok (.iload 4, 2) := by decide +kernel
theorem dX7_needs_151 : decode cX7_needs 151 = .ok (.iload 7, 2) := by decide +kernel
theorem dX7_needs_153 : decode cX7_needs 153 = .ok (.iadd, 1) := by decide +kernel
theorem dX7_needs_154 : decode cX7_needs 154 = .ok (.iastore, 1) := by decide +kernel
theorem dX7_needs_155 : decode cX7_needs 155 = .ok (.aload_n 0, 1) := by decide +kernel
theorem dX7_needs_156 : decode cX7_needs 156 = .ok (.getfield 48, 3) := by decide +kernel
theorem dX7_needs_159 : decode cX7_needs 159 = .ok (.iload_n 1, 1) := by decide +kernel
theorem dX7_needs_160 : decode cX7_needs 160 = .ok (.invokevirtual 160, 3) := by decide +kernel
theorem dX7_needs_163 : decode cX7_needs 163 = .ok (.ifCond .ne 9, 3) := by decide +kernel
theorem dX7_needs_166 : decode cX7_needs 166 = .ok (.bipush 100, 2) := by decide +kernel
theorem dX7_needs_168 : decode cX7_needs 168 = .ok (.iload 6, 2) := by decide +kernel
theorem dX7_needs_170 : decode cX7_needs 170 = .ok (.iadd, 1) := by decide +kernel
theorem dX7_needs_171 : decode cX7_needs 171 = .ok (.ireturn, 1) := by decide +kernel
theorem dX7_needs_172 : decode cX7_needs 172 = .ok (.iinc 6 1, 3) := by decide +kernel
theorem dX7_needs_175 : decode cX7_needs 175 = .ok (.goto (-63), 3) := by decide +kernel
theorem dX7_needs_178 : decode cX7_needs 178 = .ok (.iconst (-1), 1) := by decide +kernel
theorem dX7_needs_179 : decode cX7_needs 179 = .ok (.ireturn, 1) := by decide +kernel
theorem dX7_behind_0 : decode cX7_behind 0 = .ok (.aload_n 0, 1) := by decide +kernel
theorem dX7_behind_1 : decode cX7_behind 1 = .ok (.getfield 10, 3) := by decide +kernel
theorem dX7_behind_4 : decode cX7_behind 4 = .ok (.iload_n 1, 1) := by decide +kernel
theorem dX7_behind_5 : decode cX7_behind 5 = .ok (.invokevirtual 122, 3) := by decide +kernel
theorem dX7_behind_8 : decode cX7_behind 8 = .ok (.ifCond .ne 13, 3) := by decide +kernel
theorem dX7_behind_11 : decode cX7_behind 11 = .ok (.new 126, 3) := by decide +kernel
theorem dX7_behind_14 : decode cX7_behind 14 = .ok (.dup, 1) := by decide +kernel
theorem dX7_behind_15 : decode cX7_behind 15 = .ok (.ldc 128, 2) := by decide +kernel
theorem dX7_behind_17 : decode cX7_behind 17 = .ok (.invokespecial 130, 3) := by decide +kernel
theorem dX7_behind_20 : decode cX7_behind 20 = .ok (.athrow, 1) := by decide +kernel
theorem dX7_behind_21 : decode cX7_behind 21 = .ok (.aload_n 0, 1) := by decide +kernel
theorem dX7_behind_22 : decode cX7_behind 22 = .ok (.getfield 48, 3) := by decide +kernel
theorem dX7_behind_25 : decode cX7_behind 25 = .ok (.aload_n 0, 1) := by decide +kernel
theorem dX7_behind_26 : decode cX7_behind 26 = .ok (.getfield 10, 3) := by decide +kernel
theorem dX7_behind_29 : decode cX7_behind 29 = .ok (.aload_n 0, 1) := by decide +kernel
theorem dX7_behind_30 : decode cX7_behind 30 = .ok (.getfield 41, 3) := by decide +kernel
theorem dX7_behind_33 : decode cX7_behind 33 = .ok (.invokevirtual 112, 3) := by decide +kernel
theorem dX7_behind_36 : decode cX7_behind 36 = .ok (.aload_n 0, 1) := by decide +kernel
theorem dX7_behind_37 : decode cX7_behind 37 = .ok (.getfield 48, 3) := by decide +kernel
theorem dX7_behind_40 : decode cX7_behind 40 = .ok (.invokevirtual 116, 3) := by decide +kernel
theorem dX7_behind_43 : decode cX7_behind 43 = .ok (.istore_n 2, 1) := by decide +kernel
theorem dX7_behind_44 : decode cX7_behind 44 = .ok (.iload_n 2, 1) := by decide +kernel
theorem dX7_behind_45 : decode cX7_behind 45 = .ok (.iconst (-1), 1) := by decide +kernel
theorem dX7_behind_46 : decode cX7_behind 46 = .ok (.if_icmp .ne 7, 3) := by decide +kernel
theorem dX7_behind_49 : decode cX7_behind 49 = .ok (.iconst 0, 1) := by decide +kernel
theorem dX7_behind_50 : decode cX7_behind 50 = .ok (.goto 22, 3) := by decide +kernel
theorem dX7_behind_53 : decode cX7_behind 53 = .ok (.aload_n 0, 1) := by decide +kernel
theorem dX7_behind_54 : decode cX7_behind 54 = .ok (.getfield 48, 3) := by decide +kernel
theorem dX7_behind_57 : decode cX7_behind 57 = .ok (.getfield 318, 3) := by decide +kernel
theorem dX7_behind_60 : decode cX7_behind 60 = .ok (.iload_n 2, 1) := by decide +kernel
theorem dX7_behind_61 : decode cX7_behind 61 = .ok (.iaload, 1) := by decide +kernel
theorem dX7_behind_62 : decode cX7_behind 62 = .ok (.aload_n 0, 1) := by decide +kernel
theorem dX7_behind_63 : decode cX7_behind 63 = .ok (.getfield 48, 3) := by decide +kernel
theorem dX7_behind_66 : decode cX7_behind 66 = .ok (.getfield 318, 3) := by decide +kernel
theorem dX7_behind_69 : decode cX7_behind 69 = .ok (.iload_n 1, 1) := by decide +kernel
theorem dX7_behind_70 : decode cX7_behind 70 = .ok (.iaload, 1) := by decide +kernel
theorem dX7_behind_71 : decode cX7_behind 71 = .ok (.isub, 1) := by decide +kernel
theorem dX7_behind_72 : decode cX7_behind 72 = .ok (.ireturn, 1) := by decide +kernel
theorem dX7_runScript_0 : decode cX7_runScript 0 = .ok (.iload_n 1, 1) := by decide +kernel
theorem dX7_runScript_1 : decode cX7_runScript 1 = .ok (.iconst 1, 1) := by decide +kernel
theorem dX7_runScript_2 : decode cX7_runScript 2 = .ok (.if_icmp .lt 8, 3) := by decide +kernel
theorem dX7_runScript_5 : decode cX7_runScript 5 = .ok (.iload_n 1, 1) := by decide +kernel
theorem dX7_runScript_6 : decode cX7_runScript 6 = .ok (.iconst 3, 1) := by decide +kernel
theorem dX7_runScript_7 : decode cX7_runScript 7 = .ok (.if_icmp .le 14, 3) := by decide +kernel
theorem dX7_runScript_10 : decode cX7_runScript 10 = .ok (.new 69, 3) := by decide +kernel
theorem dX7_runScript_13 : decode cX7_runScript 13 = .ok (.dup, 1) := by decide +kernel
theorem dX7_runScript_14 : decode cX7_runScript 14 = .ok (.ldc_w 324, 3) := by decide +kernel
theorem dX7_runScript_17 : decode cX7_runScript 17 = .ok (.invokespecial 73, 3) := by decide +kernel
theorem dX7_runScript_20 : decode cX7_runScript 20 = .ok (.athrow, 1) := by decide +kernel
theorem dX7_runScript_21 : decode cX7_runScript 21 = .ok (.lload_n 2, 1) := by decide +kernel
theorem dX7_runScript_22 : decode cX7_runScript 22 = .ok (.lconst 0, 1) := by decide +kernel
theorem dX7_runScript_23 : decode cX7_runScript 23 = .ok (.lcmp, 1) := by decide +kernel
theorem dX7_runScript_24 : decode cX7_runScript 24 = .ok (.ifCond .lt 13, 3) := by decide +kernel
theorem dX7_runScript_27 : decode cX7_runScript 27 = .ok (.iload_n 1, 1) := by decide +kernel
theorem dX7_runScript_28 : decode cX7_runScript 28 = .ok (.lload_n 2, 1) := by decide +kernel
theorem dX7_runScript_29 : decode cX7_runScript 29 = .ok (.invokestatic 326, 3) := by decide +kernel
theorem dX7_runScript_32 : decode cX7_runScript 32 = .ok (.lconst 0, 1) := by decide +kernel
theorem dX7_runScript_33 : decode cX7_runScript 33 = .ok (.lcmp, 1) := by decide +kernel
theorem dX7_runScript_34 : decode cX7_runScript 34 = .ok (.ifCond .eq 14, 3) := by decide +kernel
theorem dX7_runScript_37 : decode cX7_runScript 37 = .ok (.new 69, 3) := by decide +kernel
theorem dX7_runScript_40 : decode cX7_runScript 40 = .ok (.dup, 1) := by decide +kernel
theorem dX7_runScript_41 : decode cX7_runScript 41 = .ok (.ldc_w 330, 3) := by decide +kernel
theorem dX7_runScript_44 : decode cX7_runScript 44 = .ok (.invokespecial 73, 3) := by decide +kernel
theorem dX7_runScript_47 : decode cX7_runScript 47 = .ok (.athrow, 1) := by decide +kernel
theorem dX7_runScript_48 : decode cX7_runScript 48 = .ok (.aload_n 0, 1) := by decide +kernel
theorem dX7_runScript_49 : decode cX7_runScript 49 = .ok (.getfield 59, 3) := by decide +kernel
theorem dX7_runScript_52 : decode cX7_runScript 52 = .ok (.aload_n 0, 1) := by decide +kernel
theorem dX7_runScript_53 : decode cX7_runScript 53 = .ok (.getfield 10, 3) := by decide +kernel
theorem dX7_runScript_56 : decode cX7_runScript 56 = .ok (.invokevirtual 332, 3) := by decide +kernel
theorem dX7_runScript_59 : decode cX7_runScript 59 = .ok (.iconst 0, 1) := by decide +kernel
theorem dX7_runScript_60 : decode cX7_runScript 60 = .ok (.istore 4, 2) := by decide +kernel
theorem dX7_runScript_62 : decode cX7_runScript 62 = .ok (.iload 4, 2) := by decide +kernel
theorem dX7_runScript_64 : decode cX7_runScript 64 = .ok (.iload_n 1, 1) := by decide +kernel
theorem dX7_runScript_65 : decode cX7_runScript 65 = .ok (.if_icmp .ge 63, 3) := by decide +kernel
theorem dX7_runScript_68 : decode cX7_runScript 68 = .ok (.aload_n 0, 1) := by decide +kernel
theorem dX7_runScript_69 : decode cX7_runScript 69 = .ok (.getfield 55, 3) := by decide +kernel
theorem dX7_runScript_72 : decode cX7_runScript 72 = .ok (.iload_n 1, 1) := by decide +kernel
theorem dX7_runScript_73 : decode cX7_runScript 73 = .ok (.iconst 1, 1) := by decide +kernel
theorem dX7_runScript_74 : decode cX7_runScript 74 = .ok (.isub, 1) := by decide +kernel
theorem dX7_runScript_75 : decode cX7_runScript 75 = .ok (.iload 4, 2) := by decide +kernel
theorem dX7_runScript_77 : decode cX7_runScript 77 = .ok (.isub, 1) := by decide +kernel
theorem dX7_runScript_78 : decode cX7_runScript 78 = .ok (.lload_n 2, 1) := by decide +kernel
theorem dX7_runScript_79 : decode cX7_runScript 79 = .ok (.invokestatic 326, 3) := by decide +kernel
theorem dX7_runScript_82 : decode cX7_runScript 82 = .ok (.ldc2_w 334, 3) := by decide +kernel
theorem dX7_runScript_85 : decode cX7_runScript 85 = .ok (.lrem, 1) := by decide +kernel
theorem dX7_runScript_86 : decode cX7_runScript 86 = .ok (.l2i, 1) := by decide +kernel
theorem dX7_runScript_87 : decode cX7_runScript 87 = .ok (.invokevirtual 336, 3) := by decide +kernel
theorem dX7_runScript_90 : decode cX7_runScript 90 = .ok (.aload_n 0, 1) := by decide +kernel
theorem dX7_runScript_91 : decode cX7_runScript 91 = .ok (.getfield 55, 3) := by decide +kernel
theorem dX7_runScript_94 : decode cX7_runScript 94 = .ok (.getfield 339, 3) := by decide +kernel
theorem dX7_runScript_97 : decode cX7_runScript 97 = .ok (.iconst 5, 1) := by decide +kernel
theorem dX7_runScript_98 : decode cX7_runScript 98 = .ok (.if_icmp .gt 10, 3) := by decide +kernel
theorem dX7_runScript_101 : decode cX7_runScript 101 = .ok (.aload_n 0, 1) := by decide +kernel
theorem dX7_runScript_102 : decode cX7_runScript 102 = .ok (.invokevirtual 342, 3) := by decide +kernel
theorem dX7_runScript_105 : decode cX7_runScript 105 = .ok (.goto 7, 3) := by decide +kernel
theorem dX7_runScript_108 : decode cX7_runScript 108 = .ok (.aload_n 0, 1) := by decide +kernel
theorem dX7_runScript_109 : decode cX7_runScript 109 = .ok (.invokevirtual 345, 3) := by decide +kernel
theorem dX7_runScript_112 : decode cX7_runScript 112 = .ok (.istore 5, 2) := by decide +kernel
theorem dX7_runScript_114 : decode cX7_runScript 114 = .ok (.iload 5, 2) := by decide +kernel
theorem dX7_runScript_116 : decode cX7_runScript 116 = .ok (.ifCond .ne 6, 3) := by decide +kernel
theorem dX7_runScript_119 : decode cX7_runScript 119 = .ok (.iload 4, 2) := by decide +kernel
theorem dX7_runScript_121 : decode cX7_runScript 121 = .ok (.ireturn, 1) := by decide +kernel
theorem dX7_runScript_122 : decode cX7_runScript 122 = .ok (.iinc 4 1, 3) := by decide +kernel
theorem dX7_runScript_125 : decode cX7_runScript 125 = .ok (.goto (-63), 3) := by decide +kernel
theorem dX7_runScript_128 : decode cX7_runScript 128 = .ok (.iconst (-1), 1) := by decide +kernel
theorem dX7_runScript_129 : decode cX7_runScript 129 = .ok (.ireturn, 1) := by decide +kernel
theorem dX7_simulate_0 : decode cX7_simulate 0 = .ok (.iload_n 3, 1) := by decide +kernel
theorem dX7_simulate_1 : decode cX7_simulate 1 = .ok (.iconst 1, 1) := by decide +kernel
theorem dX7_simulate_2 : decode cX7_simulate 2 = .ok (.if_icmp .lt 9, 3) := by decide +kernel
theorem dX7_simulate_5 : decode cX7_simulate 5 = .ok (.iload_n 3, 1) := by decide +kernel
theorem dX7_simulate_6 : decode cX7_simulate 6 = .ok (.bipush 60, 2) := by decide +kernel
theorem dX7_simulate_8 : decode cX7_simulate 8 = .ok (.if_icmp .le 14, 3) := by decide +kernel
theorem dX7_simulate_11 : decode cX7_simulate 11 = .ok (.new 69, 3) := by decide +kernel
theorem dX7_simulate_14 : decode cX7_simulate 14 = .ok (.dup, 1) := by decide +kernel
theorem dX7_simulate_15 : decode cX7_simulate 15 = .ok (.ldc_w 348, 3) := by decide +kernel
theorem dX7_simulate_18 : decode cX7_simulate 18 = .ok (.invokespecial 73, 3) := by decide +kernel
theorem dX7_simulate_21 : decode cX7_simulate 21 = .ok (.athrow, 1) := by decide +kernel
theorem dX7_simulate_22 : decode cX7_simulate 22 = .ok (.aload_n 0, 1) := by decide +kernel
theorem dX7_simulate_23 : decode cX7_simulate 23 = .ok (.getfield 59, 3) := by decide +kernel
theorem dX7_simulate_26 : decode cX7_simulate 26 = .ok (.aload_n 0, 1) := by decide +kernel
theorem dX7_simulate_27 : decode cX7_simulate 27 = .ok (.getfield 10, 3) := by decide +kernel
theorem dX7_simulate_30 : decode cX7_simulate 30 = .ok (.invokevirtual 332, 3) := by decide +kernel
theorem dX7_simulate_33 : decode cX7_simulate 33 = .ok (.lload_n 1, 1) := by decide +kernel
theorem dX7_simulate_34 : decode cX7_simulate 34 = .ok (.lstore 4, 2) := by decide +kernel
theorem dX7_simulate_36 : decode cX7_simulate 36 = .ok (.iconst 0, 1) := by decide +kernel
theorem dX7_simulate_37 : decode cX7_simulate 37 = .ok (.istore 6, 2) := by decide +kernel
theorem dX7_simulate_39 : decode cX7_simulate 39 = .ok (.iload 6, 2) := by decide +kernel
theorem dX7_simulate_41 : decode cX7_simulate 41 = .ok (.iload_n 3, 1) := by decide +kernel
theorem dX7_simulate_42 : decode cX7_simulate 42 = .ok (.if_icmp .ge 31, 3) := by decide +kernel
theorem dX7_simulate_45 : decode cX7_simulate 45 = .ok (.lload 4, 2) := by decide +kernel
theorem dX7_simulate_47 : decode cX7_simulate 47 = .ok (.ldc2_w 350, 3) := by decide +kernel
theorem dX7_simulate_50 : decode cX7_simulate 50 = .ok (.lmul, 1) := by decide +kernel
theorem dX7_simulate_51 : decode cX7_simulate 51 = .ok (.ldc2_w 352, 3) := by decide +kernel
theorem dX7_simulate_54 : decode cX7_simulate 54 = .ok (.ladd, 1) := by decide +kernel
theorem dX7_simulate_55 : decode cX7_simulate 55 = .ok (.lstore 4, 2) := by decide +kernel
theorem dX7_simulate_57 : decode cX7_simulate 57 = .ok (.aload_n 0, 1) := by decide +kernel
theorem dX7_simulate_58 : decode cX7_simulate 58 = .ok (.lload 4, 2) := by decide +kernel
theorem dX7_simulate_60 : decode cX7_simulate 60 = .ok (.bipush 33, 2) := by decide +kernel
theorem dX7_simulate_62 : decode cX7_simulate 62 = .ok (.lushr, 1) := by decide +kernel
theorem dX7_simulate_63 : decode cX7_simulate 63 = .ok (.l2i, 1) := by decide +kernel
theorem dX7_simulate_64 : decode cX7_simulate 64 = .ok (.invokevirtual 354, 3) := by decide +kernel
theorem dX7_simulate_67 : decode cX7_simulate 67 = .ok (.iinc 6 1, 3) := by decide +kernel
theorem dX7_simulate_70 : decode cX7_simulate 70 = .ok (.goto (-31), 3) := by decide +kernel
theorem dX7_simulate_73 : decode cX7_simulate 73 = .ok (.aload_n 0, 1) := by decide +kernel
theorem dX7_simulate_74 : decode cX7_simulate 74 = .ok (.getfield 48, 3) := by decide +kernel
theorem dX7_simulate_77 : decode cX7_simulate 77 = .ok (.aload_n 0, 1) := by decide +kernel
theorem dX7_simulate_78 : decode cX7_simulate 78 = .ok (.getfield 59, 3) := by decide +kernel
theorem dX7_simulate_81 : decode cX7_simulate 81 = .ok (.aload_n 0, 1) := by decide +kernel
theorem dX7_simulate_82 : decode cX7_simulate 82 = .ok (.getfield 41, 3) := by decide +kernel
theorem dX7_simulate_85 : decode cX7_simulate 85 = .ok (.invokevirtual 112, 3) := by decide +kernel
theorem dX7_simulate_88 : decode cX7_simulate 88 = .ok (.iconst 0, 1) := by decide +kernel
theorem dX7_simulate_89 : decode cX7_simulate 89 = .ok (.istore 6, 2) := by decide +kernel
theorem dX7_simulate_91 : decode cX7_simulate 91 = .ok (.iconst 0, 1) := by decide +kernel
theorem dX7_simulate_92 : decode cX7_simulate 92 = .ok (.istore 7, 2) := by decide +kernel
theorem dX7_simulate_94 : decode cX7_simulate 94 = .ok (.iload 7, 2) := by decide +kernel
theorem dX7_simulate_96 : decode cX7_simulate 96 = .ok (.aload_n 0, 1) := by decide +kernel
theorem dX7_simulate_97 : decode cX7_simulate 97 = .ok (.getfield 59, 3) := by decide +kernel
theorem dX7_simulate_100 : decode cX7_simulate 100 = .ok (.getfield 99, 3) := by decide +kernel
theorem dX7_simulate_103 : decode cX7_simulate 103 = .ok (.if_icmp .ge 24, 3) := by decide +kernel
theorem dX7_simulate_106 : decode cX7_simulate 106 = .ok (.iload 6, 2) := by decide +kernel
theorem dX7_simulate_108 : decode cX7_simulate 108 = .ok (.aload_n 0, 1) := by decide +kernel
theorem dX7_simulate_109 : decode cX7_simulate 109 = .ok (.getfield 48, 3) := by decide +kernel
theorem dX7_simulate_112 : decode cX7_simulate 112 = .ok (.getfield 318, 3) := by decide +kernel
theorem dX7_simulate_115 : decode cX7_simulate 115 = .ok (.iload 7, 2) := by decide +kernel
theorem dX7_simulate_117 : decode cX7_simulate 117 = .ok (.iaload, 1) := by decide +kernel
theorem dX7_simulate_118 : decode cX7_simulate 118 = .ok (.iadd, 1) := by decide +kernel
theorem dX7_simulate_119 : decode cX7_simulate 119 = .ok (.istore 6, 2) := by decide +kernel
theorem dX7_simulate_121 : decode cX7_simulate 121 = .ok (.iinc 7 1, 3) := by decide +kernel
theorem dX7_simulate_124 : decode cX7_simulate 124 = .ok (.goto (-30), 3) := by decide +kernel
theorem dX7_simulate_127 : decode cX7_simulate 127 = .ok (.iload 6, 2) := by decide +kernel
theorem dX7_simulate_129 : decode cX7_simulate 129 = .ok (.ireturn, 1) := by decide +kernel
theorem dX7_save_0 : decode cX7_save 0 = .ok (.iload_n 1, 1) := by decide +kernel
theorem dX7_save_1 : decode cX7_save 1 = .ok (.ifCond .lt 8, 3) := by decide +kernel
theorem dX7_save_4 : decode cX7_save 4 = .ok (.iload_n 1, 1) := by decide +kernel
theorem dX7_save_5 : decode cX7_save 5 = .ok (.iconst 2, 1) := by decide +kernel
theorem dX7_save_6 : decode cX7_save 6 = .ok (.if_icmp .lt 14, 3) := by decide +kernel
theorem dX7_save_9 : decode cX7_save 9 = .ok (.new 126, 3) := by decide +kernel
theorem dX7_save_12 : decode cX7_save 12 = .ok (.dup, 1) := by decide +kernel
theorem dX7_save_13 : decode cX7_save 13 = .ok (.ldc_w 357, 3) := by decide +kernel
theorem dX7_save_16 : decode cX7_save 16 = .ok (.invokespecial 130, 3) := by decide +kernel
theorem dX7_save_19 : decode cX7_save 19 = .ok (.athrow, 1) := by decide +kernel
theorem dX7_save_20 : decode cX7_save 20 = .ok (.aload_n 0, 1) := by decide +kernel
theorem dX7_save_21 : decode cX7_save 21 = .ok (.getfield 23, 3) := by decide +kernel
theorem dX7_save_24 : decode cX7_save 24 = .ok (.iload_n 1, 1) := by decide +kernel
theorem dX7_save_25 : decode cX7_save 25 = .ok (.aaload, 1) := by decide +kernel
theorem dX7_save_26 : decode cX7_save 26 = .ok (.aload_n 0, 1) := by decide +kernel
theorem dX7_save_27 : decode cX7_save 27 = .ok (.getfield 10, 3) := by decide +kernel
theorem dX7_save_30 : decode cX7_save 30 = .ok (.invokevirtual 332, 3) := by decide +kernel
theorem dX7_save_33 : decode cX7_save 33 = .ok (.aload_n 0, 1) := by decide +kernel
theorem dX7_save_34 : decode cX7_save 34 = .ok (.getfield 27, 3) := by decide +kernel
theorem dX7_save_37 : decode cX7_save 37 = .ok (.iload_n 1, 1) := by decide +kernel
theorem dX7_save_38 : decode cX7_save 38 = .ok (.iconst 1, 1) := by decide +kernel
theorem dX7_save_39 : decode cX7_save 39 = .ok (.bastore, 1) := by decide +kernel
theorem dX7_save_40 : decode cX7_save 40 = .ok (.aload_n 0, 1) := by decide +kernel
theorem dX7_save_41 : decode cX7_save 41 = .ok (.getfield 10, 3) := by decide +kernel
theorem dX7_save_44 : decode cX7_save 44 = .ok (.getfield 99, 3) := by decide +kernel
theorem dX7_save_47 : decode cX7_save 47 = .ok (.ireturn, 1) := by decide +kernel
theorem dX7_restore_0 : decode cX7_restore 0 = .ok (.iload_n 1, 1) := by decide +kernel
theorem dX7_restore_1 : decode cX7_restore 1 = .ok (.ifCond .lt 8, 3) := by decide +kernel
theorem dX7_restore_4 : decode cX7_restore 4 = .ok (.iload_n 1, 1) := by decide +kernel
theorem dX7_restore_5 : decode cX7_restore 5 = .ok (.iconst 2, 1) := by decide +kernel
theorem dX7_restore_6 : decode cX7_restore 6 = .ok (.if_icmp .lt 14, 3) := by decide +kernel
theorem dX7_restore_9 : decode cX7_restore 9 = .ok (.new 126, 3) := by decide +kernel
theorem dX7_restore_12 : decode cX7_restore 12 = .ok (.dup, 1) := by decide +kernel
theorem dX7_restore_13 : decode cX7_restore 13 = .ok (.ldc_w 357, 3) := by decide +kernel
theorem dX7_restore_16 : decode cX7_restore 16 = .ok (.invokespecial 130, 3) := by decide +kernel
theorem dX7_restore_19 : decode cX7_restore 19 = .ok (.athrow, 1) := by decide +kernel
theorem dX7_restore_20 : decode cX7_restore 20 = .ok (.aload_n 0, 1) := by decide +kernel
theorem dX7_restore_21 : decode cX7_restore 21 = .ok (.getfield 27, 3) := by decide +kernel
theorem dX7_restore_24 : decode cX7_restore 24 = .ok (.iload_n 1, 1) := by decide +kernel
theorem dX7_restore_25 : decode cX7_restore 25 = .ok (.baload, 1) := by decide +kernel
theorem dX7_restore_26 : decode cX7_restore 26 = .ok (.ifCond .ne 14, 3) := by decide +kernel
theorem dX7_restore_29 : decode cX7_restore 29 = .ok (.new 80, 3) := by decide +kernel
theorem dX7_restore_32 : decode cX7_restore 32 = .ok (.dup, 1) := by decide +kernel
theorem dX7_restore_33 : decode cX7_restore 33 = .ok (.ldc_w 359, 3) := by decide +kernel
theorem dX7_restore_36 : decode cX7_restore 36 = .ok (.invokespecial 84, 3) := by decide +kernel
theorem dX7_restore_39 : decode cX7_restore 39 = .ok (.athrow, 1) := by decide +kernel
theorem dX7_restore_40 : decode cX7_restore 40 = .ok (.aload_n 0, 1) := by decide +kernel
theorem dX7_restore_41 : decode cX7_restore 41 = .ok (.getfield 10, 3) := by decide +kernel
theorem dX7_restore_44 : decode cX7_restore 44 = .ok (.aload_n 0, 1) := by decide +kernel
theorem dX7_restore_45 : decode cX7_restore 45 = .ok (.getfield 23, 3) := by decide +kernel
theorem dX7_restore_48 : decode cX7_restore 48 = .ok (.iload_n 1, 1) := by decide +kernel
theorem dX7_restore_49 : decode cX7_restore 49 = .ok (.aaload, 1) := by decide +kernel
theorem dX7_restore_50 : decode cX7_restore 50 = .ok (.invokevirtual 332, 3) := by decide +kernel
theorem dX7_restore_53 : decode cX7_restore 53 = .ok (.aload_n 0, 1) := by decide +kernel
theorem dX7_restore_54 : decode cX7_restore 54 = .ok (.getfield 19, 3) := by decide +kernel
theorem dX7_restore_57 : decode cX7_restore 57 = .ok (.invokevirtual 361, 3) := by decide +kernel
theorem dX7_restore_60 : decode cX7_restore 60 = .ok (.aload_n 0, 1) := by decide +kernel
theorem dX7_restore_61 : decode cX7_restore 61 = .ok (.getfield 10, 3) := by decide +kernel
theorem dX7_restore_64 : decode cX7_restore 64 = .ok (.getfield 99, 3) := by decide +kernel
theorem dX7_restore_67 : decode cX7_restore 67 = .ok (.ireturn, 1) := by decide +kernel
theorem dX7_checkCall_0 : decode cX7_checkCall 0 = .ok (.aload_n 0, 1) := by decide +kernel
theorem dX7_checkCall_1 : decode cX7_checkCall 1 = .ok (.getfield 10, 3) := by decide +kernel
theorem dX7_checkCall_4 : decode cX7_checkCall 4 = .ok (.iload_n 1, 1) := by decide +kernel
theorem dX7_checkCall_5 : decode cX7_checkCall 5 = .ok (.iload_n 2, 1) := by decide +kernel
theorem dX7_checkCall_6 : decode cX7_checkCall 6 = .ok (.iload_n 3, 1) := by decide +kernel
theorem dX7_checkCall_7 : decode cX7_checkCall 7 = .ok (.invokevirtual 198, 3) := by decide +kernel
theorem dX7_checkCall_10 : decode cX7_checkCall 10 = .ok (.ifCond .ne 13, 3) := by decide +kernel
theorem dX7_checkCall_13 : decode cX7_checkCall 13 = .ok (.new 126, 3) := by decide +kernel
theorem dX7_checkCall_16 : decode cX7_checkCall 16 = .ok (.dup, 1) := by decide +kernel
theorem dX7_checkCall_17 : decode cX7_checkCall 17 = .ok (.ldc 202, 2) := by decide +kernel
theorem dX7_checkCall_19 : decode cX7_checkCall 19 = .ok (.invokespecial 130, 3) := by decide +kernel
theorem dX7_checkCall_22 : decode cX7_checkCall 22 = .ok (.athrow, 1) := by decide +kernel
theorem dX7_checkCall_23 : decode cX7_checkCall 23 = .ok (.iload 4, 2) := by decide +kernel
theorem dX7_checkCall_25 : decode cX7_checkCall 25 = .ok (.ifCond .lt 9, 3) := by decide +kernel
theorem dX7_checkCall_28 : decode cX7_checkCall 28 = .ok (.iload 4, 2) := by decide +kernel
theorem dX7_checkCall_30 : decode cX7_checkCall 30 = .ok (.iconst 3, 1) := by decide +kernel
theorem dX7_checkCall_31 : decode cX7_checkCall 31 = .ok (.if_icmp .le 14, 3) := by decide +kernel
theorem dX7_checkCall_34 : decode cX7_checkCall 34 = .ok (.new 69, 3) := by decide +kernel
theorem dX7_checkCall_37 : decode cX7_checkCall 37 = .ok (.dup, 1) := by decide +kernel
theorem dX7_checkCall_38 : decode cX7_checkCall 38 = .ok (.ldc_w 364, 3) := by decide +kernel
theorem dX7_checkCall_41 : decode cX7_checkCall 41 = .ok (.invokespecial 73, 3) := by decide +kernel
theorem dX7_checkCall_44 : decode cX7_checkCall 44 = .ok (.athrow, 1) := by decide +kernel
theorem dX7_checkCall_45 : decode cX7_checkCall 45 = .ok (.aload_n 0, 1) := by decide +kernel
theorem dX7_checkCall_46 : decode cX7_checkCall 46 = .ok (.getfield 10, 3) := by decide +kernel
theorem dX7_checkCall_49 : decode cX7_checkCall 49 = .ok (.getfield 133, 3) := by decide +kernel
theorem dX7_checkCall_52 : decode cX7_checkCall 52 = .ok (.iload_n 1, 1) := by decide +kernel
theorem dX7_checkCall_53 : decode cX7_checkCall 53 = .ok (.aaload, 1) := by decide +kernel
theorem dX7_checkCall_54 : decode cX7_checkCall 54 = .ok (.iload_n 2, 1) := by decide +kernel
theorem dX7_checkCall_55 : decode cX7_checkCall 55 = .ok (.iload_n 3, 1) := by decide +kernel
theorem dX7_checkCall_56 : decode cX7_checkCall 56 = .ok (.iload 4, 2) := by decide +kernel
theorem dX7_checkCall_58 : decode cX7_checkCall 58 = .ok (.invokevirtual 366, 3) := by decide +kernel
theorem dX7_checkCall_61 : decode cX7_checkCall 61 = .ok (.ifCond .ne 14, 3) := by decide +kernel
theorem dX7_checkCall_64 : decode cX7_checkCall 64 = .ok (.new 80, 3) := by decide +kernel
theorem dX7_checkCall_67 : decode cX7_checkCall 67 = .ok (.dup, 1) := by decide +kernel
theorem dX7_checkCall_68 : decode cX7_checkCall 68 = .ok (.ldc_w 369, 3) := by decide +kernel
theorem dX7_checkCall_71 : decode cX7_checkCall 71 = .ok (.invokespecial 84, 3) := by decide +kernel
theorem dX7_checkCall_74 : decode cX7_checkCall 74 = .ok (.athrow, 1) := by decide +kernel
theorem dX7_checkCall_75 : decode cX7_checkCall 75 = .ok (.return_, 1) := by decide +kernel
theorem dX7_lesserParts_0 : decode cX7_lesserParts 0 = .ok (.iconst 0, 1) := by decide +kernel
theorem dX7_lesserParts_1 : decode cX7_lesserParts 1 = .ok (.istore_n 1, 1) := by decide +kernel
theorem dX7_lesserParts_2 : decode cX7_lesserParts 2 = .ok (.iconst 0, 1) := by decide +kernel
theorem dX7_lesserParts_3 : decode cX7_lesserParts 3 = .ok (.istore_n 2, 1) := by decide +kernel
theorem dX7_lesserParts_4 : decode cX7_lesserParts 4 = .ok (.iload_n 2, 1) := by decide +kernel
theorem dX7_lesserParts_5 : decode cX7_lesserParts 5 = .ok (.aload_n 0, 1) := by decide +kernel
theorem dX7_lesserParts_6 : decode cX7_lesserParts 6 = .ok (.getfield 10, 3) := by decide +kernel
theorem dX7_lesserParts_9 : decode cX7_lesserParts 9 = .ok (.getfield 99, 3) := by decide +kernel
theorem dX7_lesserParts_12 : decode cX7_lesserParts 12 = .ok (.if_icmp .ge 42, 3) := by decide +kernel
theorem dX7_lesserParts_15 : decode cX7_lesserParts 15 = .ok (.aload_n 0, 1) := by decide +kernel
theorem dX7_lesserParts_16 : decode cX7_lesserParts 16 = .ok (.getfield 41, 3) := by decide +kernel
theorem dX7_lesserParts_19 : decode cX7_lesserParts 19 = .ok (.aload_n 0, 1) := by decide +kernel
theorem dX7_lesserParts_20 : decode cX7_lesserParts 20 = .ok (.getfield 10, 3) := by decide +kernel
theorem dX7_lesserParts_23 : decode cX7_lesserParts 23 = .ok (.getfield 133, 3) := by decide +kernel
theorem dX7_lesserParts_26 : decode cX7_lesserParts 26 = .ok (.iload_n 2, 1) := by decide +kernel
theorem dX7_lesserParts_27 : decode cX7_lesserParts 27 = .ok (.aaload, 1) := by decide +kernel
theorem dX7_lesserParts_28 : decode cX7_lesserParts 28 = .ok (.aload_n 0, 1) := by decide +kernel
theorem dX7_lesserParts_29 : decode cX7_lesserParts 29 = .ok (.getfield 10, 3) := by decide +kernel
theorem dX7_lesserParts_32 : decode cX7_lesserParts 32 = .ok (.getfield 137, 3) := by decide +kernel
theorem dX7_lesserParts_35 : decode cX7_lesserParts 35 = .ok (.invokevirtual 141, 3) := by decide +kernel
theorem dX7_lesserParts_38 : decode cX7_lesserParts 38 = .ok (.iload_n 1, 1) := by decide +kernel
theorem dX7_lesserParts_39 : decode cX7_lesserParts 39 = .ok (.aload_n 0, 1) := by decide +kernel
theorem dX7_lesserParts_40 : decode cX7_lesserParts 40 = .ok (.getfield 41, 3) := by decide +kernel
theorem dX7_lesserParts_43 : decode cX7_lesserParts 43 = .ok (.getfield 371, 3) := by decide +kernel
theorem dX7_lesserParts_46 : decode cX7_lesserParts 46 = .ok (.iadd, 1) := by decide +kernel
theorem dX7_lesserParts_47 : decode cX7_lesserParts 47 = .ok (.istore_n 1, 1) := by decide +kernel
theorem dX7_lesserParts_48 : decode cX7_lesserParts 48 = .ok (.iinc 2 1, 3) := by decide +kernel
theorem dX7_lesserParts_51 : decode cX7_lesserParts 51 = .ok (.goto (-47), 3) := by decide +kernel
theorem dX7_lesserParts_54 : decode cX7_lesserParts 54 = .ok (.iload_n 1, 1) := by decide +kernel
theorem dX7_lesserParts_55 : decode cX7_lesserParts 55 = .ok (.ireturn, 1) := by decide +kernel
theorem dX7_totalOfSwap_0 : decode cX7_totalOfSwap 0 = .ok (.aload_n 0, 1) := by decide +kernel
theorem dX7_totalOfSwap_1 : decode cX7_totalOfSwap 1 = .ok (.getfield 65, 3) := by decide +kernel
theorem dX7_totalOfSwap_4 : decode cX7_totalOfSwap 4 = .ok (.iload_n 2, 1) := by decide +kernel
theorem dX7_totalOfSwap_5 : decode cX7_totalOfSwap 5 = .ok (.aload_n 1, 1) := by decide +kernel
theorem dX7_totalOfSwap_6 : decode cX7_totalOfSwap 6 = .ok (.iload_n 3, 1) := by decide +kernel
theorem dX7_totalOfSwap_7 : decode cX7_totalOfSwap 7 = .ok (.invokevirtual 301, 3) := by decide +kernel
theorem dX7_totalOfSwap_10 : decode cX7_totalOfSwap 10 = .ok (.aload_n 0, 1) := by decide +kernel
theorem dX7_totalOfSwap_11 : decode cX7_totalOfSwap 11 = .ok (.getfield 65, 3) := by decide +kernel
theorem dX7_totalOfSwap_14 : decode cX7_totalOfSwap 14 = .ok (.iload_n 3, 1) := by decide +kernel
theorem dX7_totalOfSwap_15 : decode cX7_totalOfSwap 15 = .ok (.aload_n 1, 1) := by decide +kernel
theorem dX7_totalOfSwap_16 : decode cX7_totalOfSwap 16 = .ok (.iload_n 2, 1) := by decide +kernel
theorem dX7_totalOfSwap_17 : decode cX7_totalOfSwap 17 = .ok (.invokevirtual 301, 3) := by decide +kernel
theorem dX7_totalOfSwap_20 : decode cX7_totalOfSwap 20 = .ok (.aload_n 0, 1) := by decide +kernel
theorem dX7_totalOfSwap_21 : decode cX7_totalOfSwap 21 = .ok (.getfield 41, 3) := by decide +kernel
theorem dX7_totalOfSwap_24 : decode cX7_totalOfSwap 24 = .ok (.aload_n 0, 1) := by decide +kernel
theorem dX7_totalOfSwap_25 : decode cX7_totalOfSwap 25 = .ok (.getfield 65, 3) := by decide +kernel
theorem dX7_totalOfSwap_28 : decode cX7_totalOfSwap 28 = .ok (.aload_n 0, 1) := by decide +kernel
theorem dX7_totalOfSwap_29 : decode cX7_totalOfSwap 29 = .ok (.getfield 10, 3) := by decide +kernel
theorem dX7_totalOfSwap_32 : decode cX7_totalOfSwap 32 = .ok (.getfield 137, 3) := by decide +kernel
theorem dX7_totalOfSwap_35 : decode cX7_totalOfSwap 35 = .ok (.invokevirtual 141, 3) := by decide +kernel
theorem dX7_totalOfSwap_38 : decode cX7_totalOfSwap 38 = .ok (.aload_n 0, 1) := by decide +kernel
theorem dX7_totalOfSwap_39 : decode cX7_totalOfSwap 39 = .ok (.getfield 65, 3) := by decide +kernel
theorem dX7_totalOfSwap_42 : decode cX7_totalOfSwap 42 = .ok (.iload_n 2, 1) := by decide +kernel
theorem dX7_totalOfSwap_43 : decode cX7_totalOfSwap 43 = .ok (.aload_n 1, 1) := by decide +kernel
theorem dX7_totalOfSwap_44 : decode cX7_totalOfSwap 44 = .ok (.iload_n 2, 1) := by decide +kernel
theorem dX7_totalOfSwap_45 : decode cX7_totalOfSwap 45 = .ok (.invokevirtual 301, 3) := by decide +kernel
theorem dX7_totalOfSwap_48 : decode cX7_totalOfSwap 48 = .ok (.aload_n 0, 1) := by decide +kernel
theorem dX7_totalOfSwap_49 : decode cX7_totalOfSwap 49 = .ok (.getfield 65, 3) := by decide +kernel
theorem dX7_totalOfSwap_52 : decode cX7_totalOfSwap 52 = .ok (.iload_n 3, 1) := by decide +kernel
theorem dX7_totalOfSwap_53 : decode cX7_totalOfSwap 53 = .ok (.aload_n 1, 1) := by decide +kernel
theorem dX7_totalOfSwap_54 : decode cX7_totalOfSwap 54 = .ok (.iload_n 3, 1) := by decide +kernel
theorem dX7_totalOfSwap_55 : decode cX7_totalOfSwap 55 = .ok (.invokevirtual 301, 3) := by decide +kernel
theorem dX7_totalOfSwap_58 : decode cX7_totalOfSwap 58 = .ok (.aload_n 0, 1) := by decide +kernel
theorem dX7_totalOfSwap_59 : decode cX7_totalOfSwap 59 = .ok (.getfield 41, 3) := by decide +kernel
theorem dX7_totalOfSwap_62 : decode cX7_totalOfSwap 62 = .ok (.invokevirtual 157, 3) := by decide +kernel
theorem dX7_totalOfSwap_65 : decode cX7_totalOfSwap 65 = .ok (.ireturn, 1) := by decide +kernel
theorem dX7_acts_0 : decode cX7_acts 0 = .ok (.aload_n 0, 1) := by decide +kernel
theorem dX7_acts_1 : decode cX7_acts 1 = .ok (.getfield 55, 3) := by decide +kernel
theorem dX7_acts_4 : decode cX7_acts 4 = .ok (.getfield 374, 3) := by decide +kernel
theorem dX7_acts_7 : decode cX7_acts 7 = .ok (.istore_n 1, 1) := by decide +kernel
theorem dX7_acts_8 : decode cX7_acts 8 = .ok (.aload_n 0, 1) := by decide +kernel
theorem dX7_acts_9 : decode cX7_acts 9 = .ok (.getfield 55, 3) := by decide +kernel
theorem dX7_acts_12 : decode cX7_acts 12 = .ok (.getfield 377, 3) := by decide +kernel
theorem dX7_acts_15 : decode cX7_acts 15 = .ok (.istore_n 2, 1) := by decide +kernel
theorem dX7_acts_16 : decode cX7_acts 16 = .ok (.aload_n 0, 1) := by decide +kernel
theorem dX7_acts_17 : decode cX7_acts 17 = .ok (.getfield 55, 3) := by decide +kernel
theorem dX7_acts_20 : decode cX7_acts 20 = .ok (.getfield 339, 3) := by decide +kernel
theorem dX7_acts_23 : decode cX7_acts 23 = .ok (.tableswitch 167 1 5 #[33, 63, 87, 117, 145], 33) := by decide +kernel
theorem dX7_acts_56 : decode cX7_acts 56 = .ok (.iload_n 2, 1) := by decide +kernel
theorem dX7_acts_57 : decode cX7_acts 57 = .ok (.iconst 1, 1) := by decide +kernel
theorem dX7_acts_58 : decode cX7_acts 58 = .ok (.if_icmp .gt 26, 3) := by decide +kernel
theorem dX7_acts_61 : decode cX7_acts 61 = .ok (.aload_n 0, 1) := by decide +kernel
theorem dX7_acts_62 : decode cX7_acts 62 = .ok (.getfield 59, 3) := by decide +kernel
theorem dX7_acts_65 : decode cX7_acts 65 = .ok (.iload_n 1, 1) := by decide +kernel
theorem dX7_acts_66 : decode cX7_acts 66 = .ok (.aload_n 0, 1) := by decide +kernel
theorem dX7_acts_67 : decode cX7_acts 67 = .ok (.getfield 55, 3) := by decide +kernel
theorem dX7_acts_70 : decode cX7_acts 70 = .ok (.invokevirtual 380, 3) := by decide +kernel
theorem dX7_acts_73 : decode cX7_acts 73 = .ok (.iload_n 2, 1) := by decide +kernel
theorem dX7_acts_74 : decode cX7_acts 74 = .ok (.invokevirtual 268, 3) := by decide +kernel
theorem dX7_acts_77 : decode cX7_acts 77 = .ok (.ifCond .eq 7, 3) := by decide +kernel
theorem dX7_acts_80 : decode cX7_acts 80 = .ok (.iconst 1, 1) := by decide +kernel
theorem dX7_acts_81 : decode cX7_acts 81 = .ok (.goto 4, 3) := by decide +kernel
theorem dX7_acts_84 : decode cX7_acts 84 = .ok (.iconst 0, 1) := by decide +kernel
theorem dX7_acts_85 : decode cX7_acts 85 = .ok (.ireturn, 1) := by decide +kernel
theorem dX7_acts_86 : decode cX7_acts 86 = .ok (.aload_n 0, 1) := by decide +kernel
theorem dX7_acts_87 : decode cX7_acts 87 = .ok (.getfield 59, 3) := by decide +kernel
theorem dX7_acts_90 : decode cX7_acts 90 = .ok (.iload_n 1, 1) := by decide +kernel
theorem dX7_acts_91 : decode cX7_acts 91 = .ok (.aload_n 0, 1) := by decide +kernel
theorem dX7_acts_92 : decode cX7_acts 92 = .ok (.getfield 55, 3) := by decide +kernel
theorem dX7_acts_95 : decode cX7_acts 95 = .ok (.getfield 383, 3) := by decide +kernel
theorem dX7_acts_98 : decode cX7_acts 98 = .ok (.aload_n 0, 1) := by decide +kernel
theorem dX7_acts_99 : decode cX7_acts 99 = .ok (.getfield 55, 3) := by decide +kernel
theorem dX7_acts_102 : decode cX7_acts 102 = .ok (.getfield 386, 3) := by decide +kernel
theorem dX7_acts_105 : decode cX7_acts 105 = .ok (.iload_n 2, 1) := by decide +kernel
theorem dX7_acts_106 : decode cX7_acts 106 = .ok (.invokevirtual 261, 3) := by decide +kernel
theorem dX7_acts_109 : decode cX7_acts 109 = .ok (.ireturn, 1) := by decide +kernel
theorem dX7_acts_110 : decode cX7_acts 110 = .ok (.iload_n 2, 1) := by decide +kernel
theorem dX7_acts_111 : decode cX7_acts 111 = .ok (.iconst 1, 1) := by decide +kernel
theorem dX7_acts_112 : decode cX7_acts 112 = .ok (.if_icmp .gt 26, 3) := by decide +kernel
theorem dX7_acts_115 : decode cX7_acts 115 = .ok (.aload_n 0, 1) := by decide +kernel
theorem dX7_acts_116 : decode cX7_acts 116 = .ok (.getfield 59, 3) := by decide +kernel
theorem dX7_acts_119 : decode cX7_acts 119 = .ok (.iload_n 1, 1) := by decide +kernel
theorem dX7_acts_120 : decode cX7_acts 120 = .ok (.aload_n 0, 1) := by decide +kernel
theorem dX7_acts_121 : decode cX7_acts 121 = .ok (.getfield 55, 3) := by decide +kernel
theorem dX7_acts_124 : decode cX7_acts 124 = .ok (.invokevirtual 380, 3) := by decide +kernel
theorem dX7_acts_127 : decode cX7_acts 127 = .ok (.iload_n 2, 1) := by decide +kernel
theorem dX7_acts_128 : decode cX7_acts 128 = .ok (.invokevirtual 265, 3) := by decide +kernel
theorem dX7_acts_131 : decode cX7_acts 131 = .ok (.ifCond .eq 7, 3) := by decide +kernel
theorem dX7_acts_134 : decode cX7_acts 134 = .ok (.iconst 1, 1) := by decide +kernel
theorem dX7_acts_135 : decode cX7_acts 135 = .ok (.goto 4, 3) := by decide +kernel
theorem dX7_acts_138 : decode cX7_acts 138 = .ok (.iconst 0, 1) := by decide +kernel
theorem dX7_acts_139 : decode cX7_acts 139 = .ok (.ireturn, 1) := by decide +kernel
theorem dX7_acts_140 : decode cX7_acts 140 = .ok (.aload_n 0, 1) := by decide +kernel
theorem dX7_acts_141 : decode cX7_acts 141 = .ok (.getfield 55, 3) := by decide +kernel
theorem dX7_acts_144 : decode cX7_acts 144 = .ok (.invokevirtual 380, 3) := by decide +kernel
theorem dX7_acts_147 : decode cX7_acts 147 = .ok (.ifCond .ne 19, 3) := by decide +kernel
theorem dX7_acts_150 : decode cX7_acts 150 = .ok (.aload_n 0, 1) := by decide +kernel
theorem dX7_acts_151 : decode cX7_acts 151 = .ok (.getfield 59, 3) := by decide +kernel
theorem dX7_acts_154 : decode cX7_acts 154 = .ok (.iload_n 1, 1) := by decide +kernel
theorem dX7_acts_155 : decode cX7_acts 155 = .ok (.iload_n 2, 1) := by decide +kernel
theorem dX7_acts_156 : decode cX7_acts 156 = .ok (.invokevirtual 276, 3) := by decide +kernel
theorem dX7_acts_159 : decode cX7_acts 159 = .ok (.ifCond .eq 7, 3) := by decide +kernel
theorem dX7_acts_162 : decode cX7_acts 162 = .ok (.iconst 1, 1) := by decide +kernel
theorem dX7_acts_163 : decode cX7_acts 163 = .ok (.goto 4, 3) := by decide +kernel
theorem dX7_acts_166 : decode cX7_acts 166 = .ok (.iconst 0, 1) := by decide +kernel
theorem dX7_acts_167 : decode cX7_acts 167 = .ok (.ireturn, 1) := by decide +kernel
theorem dX7_acts_168 : decode cX7_acts 168 = .ok (.aload_n 0, 1) := by decide +kernel
theorem dX7_acts_169 : decode cX7_acts 169 = .ok (.getfield 59, 3) := by decide +kernel
theorem dX7_acts_172 : decode cX7_acts 172 = .ok (.aload_n 0, 1) := by decide +kernel
theorem dX7_acts_173 : decode cX7_acts 173 = .ok (.getfield 55, 3) := by decide +kernel
theorem dX7_acts_176 : decode cX7_acts 176 = .ok (.getfield 374, 3) := by decide +kernel
theorem dX7_acts_179 : decode cX7_acts 179 = .ok (.aload_n 0, 1) := by decide +kernel
theorem dX7_acts_180 : decode cX7_acts 180 = .ok (.getfield 55, 3) := by decide +kernel
theorem dX7_acts_183 : decode cX7_acts 183 = .ok (.invokevirtual 389, 3) := by decide +kernel
theorem dX7_acts_186 : decode cX7_acts 186 = .ok (.invokevirtual 284, 3) := by decide +kernel
theorem dX7_acts_189 : decode cX7_acts 189 = .ok (.ireturn, 1) := by decide +kernel
theorem dX7_acts_190 : decode cX7_acts 190 = .ok (.iconst 0, 1) := by decide +kernel
theorem dX7_acts_191 : decode cX7_acts 191 = .ok (.ireturn, 1) := by decide +kernel
theorem dX7_holds_0 : decode cX7_holds 0 = .ok (.aload_n 0, 1) := by decide +kernel
theorem dX7_holds_1 : decode cX7_holds 1 = .ok (.getfield 55, 3) := by decide +kernel
theorem dX7_holds_4 : decode cX7_holds 4 = .ok (.getfield 374, 3) := by decide +kernel
theorem dX7_holds_7 : decode cX7_holds 7 = .ok (.istore_n 1, 1) := by decide +kernel
theorem dX7_holds_8 : decode cX7_holds 8 = .ok (.aload_n 0, 1) := by decide +kernel
theorem dX7_holds_9 : decode cX7_holds 9 = .ok (.getfield 55, 3) := by decide +kernel
theorem dX7_holds_12 : decode cX7_holds 12 = .ok (.getfield 339, 3) := by decide +kernel
theorem dX7_holds_15 : decode cX7_holds 15 = .ok (.bipush 9, 2) := by decide +kernel
theorem dX7_holds_17 : decode cX7_holds 17 = .ok (.if_icmp .ne 40, 3) := by decide +kernel
theorem dX7_holds_20 : decode cX7_holds 20 = .ok (.iload_n 1, 1) := by decide +kernel
theorem dX7_holds_21 : decode cX7_holds 21 = .ok (.ifCond .ne 34, 3) := by decide +kernel
theorem dX7_holds_24 : decode cX7_holds 24 = .ok (.aload_n 0, 1) := by decide +kernel
theorem dX7_holds_25 : decode cX7_holds 25 = .ok (.getfield 55, 3) := by decide +kernel
theorem dX7_holds_28 : decode cX7_holds 28 = .ok (.getfield 377, 3) := by decide +kernel
theorem dX7_holds_31 : decode cX7_holds 31 = .ok (.ifCond .ne 24, 3) := by decide +kernel
theorem dX7_holds_34 : decode cX7_holds 34 = .ok (.aload_n 0, 1) := by decide +kernel
theorem dX7_holds_35 : decode cX7_holds 35 = .ok (.getfield 59, 3) := by decide +kernel
theorem dX7_holds_38 : decode cX7_holds 38 = .ok (.invokevirtual 102, 3) := by decide +kernel
theorem dX7_holds_41 : decode cX7_holds 41 = .ok (.aload_n 0, 1) := by decide +kernel
theorem dX7_holds_42 : decode cX7_holds 42 = .ok (.getfield 55, 3) := by decide +kernel
theorem dX7_holds_45 : decode cX7_holds 45 = .ok (.invokevirtual 380, 3) := by decide +kernel
theorem dX7_holds_48 : decode cX7_holds 48 = .ok (.if_icmp .gt 7, 3) := by decide +kernel
theorem dX7_holds_51 : decode cX7_holds 51 = .ok (.iconst 1, 1) := by decide +kernel
theorem dX7_holds_52 : decode cX7_holds 52 = .ok (.goto 4, 3) := by decide +kernel
theorem dX7_holds_55 : decode cX7_holds 55 = .ok (.iconst 0, 1) := by decide +kernel
theorem dX7_holds_56 : decode cX7_holds 56 = .ok (.ireturn, 1) := by decide +kernel
theorem dX7_holds_57 : decode cX7_holds 57 = .ok (.aload_n 0, 1) := by decide +kernel
theorem dX7_holds_58 : decode cX7_holds 58 = .ok (.getfield 59, 3) := by decide +kernel
theorem dX7_holds_61 : decode cX7_holds 61 = .ok (.iload_n 1, 1) := by decide +kernel
theorem dX7_holds_62 : decode cX7_holds 62 = .ok (.invokevirtual 122, 3) := by decide +kernel
theorem dX7_holds_65 : decode cX7_holds 65 = .ok (.ifCond .ne 5, 3) := by decide +kernel
theorem dX7_holds_68 : decode cX7_holds 68 = .ok (.iconst 0, 1) := by decide +kernel
theorem dX7_holds_69 : decode cX7_holds 69 = .ok (.ireturn, 1) := by decide +kernel
theorem dX7_holds_70 : decode cX7_holds 70 = .ok (.aload_n 0, 1) := by decide +kernel
theorem dX7_holds_71 : decode cX7_holds 71 = .ok (.getfield 55, 3) := by decide +kernel
theorem dX7_holds_74 : decode cX7_holds 74 = .ok (.getfield 339, 3) := by decide +kernel
theorem dX7_holds_77 : decode cX7_holds 77 = .ok (.bipush 6, 2) := by decide +kernel
theorem dX7_holds_79 : decode cX7_holds 79 = .ok (.if_icmp .ne 52, 3) := by decide +kernel
theorem dX7_holds_82 : decode cX7_holds 82 = .ok (.aload_n 0, 1) := by decide +kernel
theorem dX7_holds_83 : decode cX7_holds 83 = .ok (.getfield 48, 3) := by decide +kernel
theorem dX7_holds_86 : decode cX7_holds 86 = .ok (.aload_n 0, 1) := by decide +kernel
theorem dX7_holds_87 : decode cX7_holds 87 = .ok (.getfield 59, 3) := by decide +kernel
theorem dX7_holds_90 : decode cX7_holds 90 = .ok (.aload_n 0, 1) := by decide +kernel
theorem dX7_holds_91 : decode cX7_holds 91 = .ok (.getfield 41, 3) := by decide +kernel
theorem dX7_holds_94 : decode cX7_holds 94 = .ok (.invokevirtual 112, 3) := by decide +kernel
theorem dX7_holds_97 : decode cX7_holds 97 = .ok (.aload_n 0, 1) := by decide +kernel
theorem dX7_holds_98 : decode cX7_holds 98 = .ok (.getfield 55, 3) := by decide +kernel
theorem dX7_holds_101 : decode cX7_holds 101 = .ok (.invokevirtual 380, 3) := by decide +kernel
theorem dX7_holds_104 : decode cX7_holds 104 = .ok (.ifCond .ne 25, 3) := by decide +kernel
theorem dX7_holds_107 : decode cX7_holds 107 = .ok (.aload_n 0, 1) := by decide +kernel
theorem dX7_holds_108 : decode cX7_holds 108 = .ok (.getfield 48, 3) := by decide +kernel
theorem dX7_holds_111 : decode cX7_holds 111 = .ok (.iload_n 1, 1) := by decide +kernel
theorem dX7_holds_112 : decode cX7_holds 112 = .ok (.invokevirtual 160, 3) := by decide +kernel
theorem dX7_holds_115 : decode cX7_holds 115 = .ok (.aload_n 0, 1) := by decide +kernel
theorem dX7_holds_116 : decode cX7_holds 116 = .ok (.getfield 55, 3) := by decide +kernel
theorem dX7_holds_119 : decode cX7_holds 119 = .ok (.getfield 377, 3) := by decide +kernel
theorem dX7_holds_122 : decode cX7_holds 122 = .ok (.if_icmp .ne 7, 3) := by decide +kernel
theorem dX7_holds_125 : decode cX7_holds 125 = .ok (.iconst 1, 1) := by decide +kernel
theorem dX7_holds_126 : decode cX7_holds 126 = .ok (.goto 4, 3) := by decide +kernel
theorem dX7_holds_129 : decode cX7_holds 129 = .ok (.iconst 0, 1) := by decide +kernel
theorem dX7_holds_130 : decode cX7_holds 130 = .ok (.ireturn, 1) := by decide +kernel
theorem dX7_holds_131 : decode cX7_holds 131 = .ok (.aload_n 0, 1) := by decide +kernel
theorem dX7_holds_132 : decode cX7_holds 132 = .ok (.getfield 41, 3) := by decide +kernel
theorem dX7_holds_135 : decode cX7_holds 135 = .ok (.aload_n 0, 1) := by decide +kernel
theorem dX7_holds_136 : decode cX7_holds 136 = .ok (.getfield 59, 3) := by decide +kernel
theorem dX7_holds_139 : decode cX7_holds 139 = .ok (.getfield 133, 3) := by decide +kernel
theorem dX7_holds_142 : decode cX7_holds 142 = .ok (.iload_n 1, 1) := by decide +kernel
theorem dX7_holds_143 : decode cX7_holds 143 = .ok (.aaload, 1) := by decide +kernel
theorem dX7_holds_144 : decode cX7_holds 144 = .ok (.aload_n 0, 1) := by decide +kernel
theorem dX7_holds_145 : decode cX7_holds 145 = .ok (.getfield 59, 3) := by decide +kernel
theorem dX7_holds_148 : decode cX7_holds 148 = .ok (.getfield 137, 3) := by decide +kernel
theorem dX7_holds_151 : decode cX7_holds 151 = .ok (.invokevirtual 141, 3) := by decide +kernel
theorem dX7_holds_154 : decode cX7_holds 154 = .ok (.aload_n 0, 1) := by decide +kernel
theorem dX7_holds_155 : decode cX7_holds 155 = .ok (.getfield 55, 3) := by decide +kernel
theorem dX7_holds_158 : decode cX7_holds 158 = .ok (.getfield 339, 3) := by decide +kernel
theorem dX7_holds_161 : decode cX7_holds 161 = .ok (.bipush 7, 2) := by decide +kernel
theorem dX7_holds_163 : decode cX7_holds 163 = .ok (.if_icmp .ne 29, 3) := by decide +kernel
theorem dX7_holds_166 : decode cX7_holds 166 = .ok (.aload_n 0, 1) := by decide +kernel
theorem dX7_holds_167 : decode cX7_holds 167 = .ok (.getfield 41, 3) := by decide +kernel
theorem dX7_holds_170 : decode cX7_holds 170 = .ok (.invokevirtual 157, 3) := by decide +kernel
theorem dX7_holds_173 : decode cX7_holds 173 = .ok (.bipush 10, 2) := by decide +kernel
theorem dX7_holds_175 : decode cX7_holds 175 = .ok (.aload_n 0, 1) := by decide +kernel
theorem dX7_holds_176 : decode cX7_holds 176 = .ok (.getfield 55, 3) := by decide +kernel
theorem dX7_holds_179 : decode cX7_holds 179 = .ok (.invokevirtual 389, 3) := by decide +kernel
theorem dX7_holds_182 : decode cX7_holds 182 = .ok (.imul, 1) := by decide +kernel
theorem dX7_holds_183 : decode cX7_holds 183 = .ok (.if_icmp .lt 7, 3) := by decide +kernel
theorem dX7_holds_186 : decode cX7_holds 186 = .ok (.iconst 1, 1) := by decide +kernel
theorem dX7_holds_187 : decode cX7_holds 187 = .ok (.goto 4, 3) := by decide +kernel
theorem dX7_holds_190 : decode cX7_holds 190 = .ok (.iconst 0, 1) := by decide +kernel
theorem dX7_holds_191 : decode cX7_holds 191 = .ok (.ireturn, 1) := by decide +kernel
theorem dX7_holds_192 : decode cX7_holds 192 = .ok (.aload_n 0, 1) := by decide +kernel
theorem dX7_holds_193 : decode cX7_holds 193 = .ok (.getfield 55, 3) := by decide +kernel
theorem dX7_holds_196 : decode cX7_holds 196 = .ok (.getfield 383, 3) := by decide +kernel
theorem dX7_holds_199 : decode cX7_holds 199 = .ok (.istore_n 2, 1) := by decide +kernel
theorem dX7_holds_200 : decode cX7_holds 200 = .ok (.aload_n 0, 1) := by decide +kernel
theorem dX7_holds_201 : decode cX7_holds 201 = .ok (.getfield 55, 3) := by decide +kernel
theorem dX7_holds_204 : decode cX7_holds 204 = .ok (.getfield 386, 3) := by decide +kernel
theorem dX7_holds_207 : decode cX7_holds 207 = .ok (.istore_n 3, 1) := by decide +kernel
theorem dX7_holds_208 : decode cX7_holds 208 = .ok (.aload_n 0, 1) := by decide +kernel
theorem dX7_holds_209 : decode cX7_holds 209 = .ok (.getfield 59, 3) := by decide +kernel
theorem dX7_holds_212 : decode cX7_holds 212 = .ok (.iload_n 1, 1) := by decide +kernel
theorem dX7_holds_213 : decode cX7_holds 213 = .ok (.iload_n 2, 1) := by decide +kernel
theorem dX7_holds_214 : decode cX7_holds 214 = .ok (.iload_n 3, 1) := by decide +kernel
theorem dX7_holds_215 : decode cX7_holds 215 = .ok (.invokevirtual 198, 3) := by decide +kernel
theorem dX7_holds_218 : decode cX7_holds 218 = .ok (.ifCond .eq 30, 3) := by decide +kernel
theorem dX7_holds_221 : decode cX7_holds 221 = .ok (.aload_n 0, 1) := by decide +kernel
theorem dX7_holds_222 : decode cX7_holds 222 = .ok (.getfield 41, 3) := by decide +kernel
theorem dX7_holds_225 : decode cX7_holds 225 = .ok (.getfield 218, 3) := by decide +kernel
theorem dX7_holds_228 : decode cX7_holds 228 = .ok (.iconst 3, 1) := by decide +kernel
theorem dX7_holds_229 : decode cX7_holds 229 = .ok (.iload_n 2, 1) := by decide +kernel
theorem dX7_holds_230 : decode cX7_holds 230 = .ok (.imul, 1) := by decide +kernel
theorem dX7_holds_231 : decode cX7_holds 231 = .ok (.iload_n 3, 1) := by decide +kernel
theorem dX7_holds_232 : decode cX7_holds 232 = .ok (.iadd, 1) := by decide +kernel
theorem dX7_holds_233 : decode cX7_holds 233 = .ok (.iaload, 1) := by decide +kernel
theorem dX7_holds_234 : decode cX7_holds 234 = .ok (.aload_n 0, 1) := by decide +kernel
theorem dX7_holds_235 : decode cX7_holds 235 = .ok (.getfield 55, 3) := by decide +kernel
theorem dX7_holds_238 : decode cX7_holds 238 = .ok (.getfield 377, 3) := by decide +kernel
theorem dX7_holds_241 : decode cX7_holds 241 = .ok (.if_icmp .ne 7, 3) := by decide +kernel
theorem dX7_holds_244 : decode cX7_holds 244 = .ok (.iconst 1, 1) := by decide +kernel
theorem dX7_holds_245 : decode cX7_holds 245 = .ok (.goto 4, 3) := by decide +kernel
theorem dX7_holds_248 : decode cX7_holds 248 = .ok (.iconst 0, 1) := by decide +kernel
theorem dX7_holds_249 : decode cX7_holds 249 = .ok (.ireturn, 1) := by decide +kernel
theorem dX7_takeTurn_0 : decode cX7_takeTurn 0 = .ok (.iload_n 1, 1) := by decide +kernel
theorem dX7_takeTurn_1 : decode cX7_takeTurn 1 = .ok (.bipush 8, 2) := by decide +kernel
theorem dX7_takeTurn_3 : decode cX7_takeTurn 3 = .ok (.idiv, 1) := by decide +kernel
theorem dX7_takeTurn_4 : decode cX7_takeTurn 4 = .ok (.iconst 4, 1) := by decide +kernel
theorem dX7_takeTurn_5 : decode cX7_takeTurn 5 = .ok (.irem, 1) := by decide +kernel
theorem dX7_takeTurn_6 : decode cX7_takeTurn 6 = .ok (.istore_n 2, 1) := by decide +kernel
theorem dX7_takeTurn_7 : decode cX7_takeTurn 7 = .ok (.iload_n 1, 1) := by decide +kernel
theorem dX7_takeTurn_8 : decode cX7_takeTurn 8 = .ok (.bipush 32, 2) := by decide +kernel
theorem dX7_takeTurn_10 : decode cX7_takeTurn 10 = .ok (.idiv, 1) := by decide +kernel
theorem dX7_takeTurn_11 : decode cX7_takeTurn 11 = .ok (.bipush 12, 2) := by decide +kernel
theorem dX7_takeTurn_13 : decode cX7_takeTurn 13 = .ok (.irem, 1) := by decide +kernel
theorem dX7_takeTurn_14 : decode cX7_takeTurn 14 = .ok (.istore_n 3, 1) := by decide +kernel
theorem dX7_takeTurn_15 : decode cX7_takeTurn 15 = .ok (.iload_n 1, 1) := by decide +kernel
theorem dX7_takeTurn_16 : decode cX7_takeTurn 16 = .ok (.bipush 8, 2) := by decide +kernel
theorem dX7_takeTurn_18 : decode cX7_takeTurn 18 = .ok (.irem, 1) := by decide +kernel
theorem dX7_takeTurn_19 : decode cX7_takeTurn 19 = .ok (.tableswitch 136 3 7 #[33, 62, 62, 89, 117], 33) := by decide +kernel
theorem dX7_takeTurn_52 : decode cX7_takeTurn 52 = .ok (.aload_n 0, 1) := by decide +kernel
theorem dX7_takeTurn_53 : decode cX7_takeTurn 53 = .ok (.getfield 59, 3) := by decide +kernel
theorem dX7_takeTurn_56 : decode cX7_takeTurn 56 = .ok (.iload_n 2, 1) := by decide +kernel
theorem dX7_takeTurn_57 : decode cX7_takeTurn 57 = .ok (.iload_n 1, 1) := by decide +kernel
theorem dX7_takeTurn_58 : decode cX7_takeTurn 58 = .ok (.bipush 32, 2) := by decide +kernel
theorem dX7_takeTurn_60 : decode cX7_takeTurn 60 = .ok (.idiv, 1) := by decide +kernel
theorem dX7_takeTurn_61 : decode cX7_takeTurn 61 = .ok (.iconst 3, 1) := by decide +kernel
theorem dX7_takeTurn_62 : decode cX7_takeTurn 62 = .ok (.irem, 1) := by decide +kernel
theorem dX7_takeTurn_63 : decode cX7_takeTurn 63 = .ok (.iload_n 1, 1) := by decide +kernel
theorem dX7_takeTurn_64 : decode cX7_takeTurn 64 = .ok (.sipush 128, 3) := by decide +kernel
theorem dX7_takeTurn_67 : decode cX7_takeTurn 67 = .ok (.idiv, 1) := by decide +kernel
theorem dX7_takeTurn_68 : decode cX7_takeTurn 68 = .ok (.ldc_w 392, 3) := by decide +kernel
theorem dX7_takeTurn_71 : decode cX7_takeTurn 71 = .ok (.irem, 1) := by decide +kernel
theorem dX7_takeTurn_72 : decode cX7_takeTurn 72 = .ok (.invokestatic 251, 3) := by decide +kernel
theorem dX7_takeTurn_75 : decode cX7_takeTurn 75 = .ok (.invokevirtual 254, 3) := by decide +kernel
theorem dX7_takeTurn_78 : decode cX7_takeTurn 78 = .ok (.goto 98, 3) := by decide +kernel
theorem dX7_takeTurn_81 : decode cX7_takeTurn 81 = .ok (.aload_n 0, 1) := by decide +kernel
theorem dX7_takeTurn_82 : decode cX7_takeTurn 82 = .ok (.getfield 59, 3) := by decide +kernel
theorem dX7_takeTurn_85 : decode cX7_takeTurn 85 = .ok (.iload_n 2, 1) := by decide +kernel
theorem dX7_takeTurn_86 : decode cX7_takeTurn 86 = .ok (.iload_n 3, 1) := by decide +kernel
theorem dX7_takeTurn_87 : decode cX7_takeTurn 87 = .ok (.iload_n 1, 1) := by decide +kernel
theorem dX7_takeTurn_88 : decode cX7_takeTurn 88 = .ok (.sipush 512, 3) := by decide +kernel
theorem dX7_takeTurn_91 : decode cX7_takeTurn 91 = .ok (.idiv, 1) := by decide +kernel
theorem dX7_takeTurn_92 : decode cX7_takeTurn 92 = .ok (.iconst 3, 1) := by decide +kernel
theorem dX7_takeTurn_93 : decode cX7_takeTurn 93 = .ok (.irem, 1) := by decide +kernel
theorem dX7_takeTurn_94 : decode cX7_takeTurn 94 = .ok (.iload_n 1, 1) := by decide +kernel
theorem dX7_takeTurn_95 : decode cX7_takeTurn 95 = .ok (.sipush 2048, 3) := by decide +kernel
theorem dX7_takeTurn_98 : decode cX7_takeTurn 98 = .ok (.idiv, 1) := by decide +kernel
theorem dX7_takeTurn_99 : decode cX7_takeTurn 99 = .ok (.iconst 4, 1) := by decide +kernel
theorem dX7_takeTurn_100 : decode cX7_takeTurn 100 = .ok (.irem, 1) := by decide +kernel
theorem dX7_takeTurn_101 : decode cX7_takeTurn 101 = .ok (.invokevirtual 261, 3) := by decide +kernel
theorem dX7_takeTurn_104 : decode cX7_takeTurn 104 = .ok (.pop, 1) := by decide +kernel
theorem dX7_takeTurn_105 : decode cX7_takeTurn 105 = .ok (.goto 71, 3) := by decide +kernel
theorem dX7_takeTurn_108 : decode cX7_takeTurn 108 = .ok (.aload_n 0, 1) := by decide +kernel
theorem dX7_takeTurn_109 : decode cX7_takeTurn 109 = .ok (.getfield 59, 3) := by decide +kernel
theorem dX7_takeTurn_112 : decode cX7_takeTurn 112 = .ok (.iload_n 2, 1) := by decide +kernel
theorem dX7_takeTurn_113 : decode cX7_takeTurn 113 = .ok (.iload_n 3, 1) := by decide +kernel
theorem dX7_takeTurn_114 : decode cX7_takeTurn 114 = .ok (.iload_n 1, 1) := by decide +kernel
theorem dX7_takeTurn_115 : decode cX7_takeTurn 115 = .ok (.sipush 512, 3) := by decide +kernel
theorem dX7_takeTurn_118 : decode cX7_takeTurn 118 = .ok (.idiv, 1) := by decide +kernel
theorem dX7_takeTurn_119 : decode cX7_takeTurn 119 = .ok (.iconst 2, 1) := by decide +kernel
theorem dX7_takeTurn_120 : decode cX7_takeTurn 120 = .ok (.irem, 1) := by decide +kernel
theorem dX7_takeTurn_121 : decode cX7_takeTurn 121 = .ok (.ifCond .ne 7, 3) := by decide +kernel
theorem dX7_takeTurn_124 : decode cX7_takeTurn 124 = .ok (.iconst 1, 1) := by decide +kernel
theorem dX7_takeTurn_125 : decode cX7_takeTurn 125 = .ok (.goto 4, 3) := by decide +kernel
theorem dX7_takeTurn_128 : decode cX7_takeTurn 128 = .ok (.iconst 0, 1) := by decide +kernel
theorem dX7_takeTurn_129 : decode cX7_takeTurn 129 = .ok (.invokevirtual 268, 3) := by decide +kernel
theorem dX7_takeTurn_132 : decode cX7_takeTurn 132 = .ok (.pop, 1) := by decide +kernel
theorem dX7_takeTurn_133 : decode cX7_takeTurn 133 = .ok (.goto 43, 3) := by decide +kernel
theorem dX7_takeTurn_136 : decode cX7_takeTurn 136 = .ok (.aload_n 0, 1) := by decide +kernel
theorem dX7_takeTurn_137 : decode cX7_takeTurn 137 = .ok (.getfield 59, 3) := by decide +kernel
theorem dX7_takeTurn_140 : decode cX7_takeTurn 140 = .ok (.iload_n 2, 1) := by decide +kernel
theorem dX7_takeTurn_141 : decode cX7_takeTurn 141 = .ok (.iload_n 1, 1) := by decide +kernel
theorem dX7_takeTurn_142 : decode cX7_takeTurn 142 = .ok (.bipush 32, 2) := by decide +kernel
theorem dX7_takeTurn_144 : decode cX7_takeTurn 144 = .ok (.idiv, 1) := by decide +kernel
theorem dX7_takeTurn_145 : decode cX7_takeTurn 145 = .ok (.bipush 10, 2) := by decide +kernel
theorem dX7_takeTurn_147 : decode cX7_takeTurn 147 = .ok (.irem, 1) := by decide +kernel
theorem dX7_takeTurn_148 : decode cX7_takeTurn 148 = .ok (.invokevirtual 276, 3) := by decide +kernel
theorem dX7_takeTurn_151 : decode cX7_takeTurn 151 = .ok (.pop, 1) := by decide +kernel
theorem dX7_takeTurn_152 : decode cX7_takeTurn 152 = .ok (.goto 24, 3) := by decide +kernel
theorem dX7_takeTurn_155 : decode cX7_takeTurn 155 = .ok (.aload_n 0, 1) := by decide +kernel
theorem dX7_takeTurn_156 : decode cX7_takeTurn 156 = .ok (.getfield 59, 3) := by decide +kernel
theorem dX7_takeTurn_159 : decode cX7_takeTurn 159 = .ok (.iload_n 2, 1) := by decide +kernel
theorem dX7_takeTurn_160 : decode cX7_takeTurn 160 = .ok (.iload_n 3, 1) := by decide +kernel
theorem dX7_takeTurn_161 : decode cX7_takeTurn 161 = .ok (.iload_n 1, 1) := by decide +kernel
theorem dX7_takeTurn_162 : decode cX7_takeTurn 162 = .ok (.sipush 512, 3) := by decide +kernel
theorem dX7_takeTurn_165 : decode cX7_takeTurn 165 = .ok (.idiv, 1) := by decide +kernel
theorem dX7_takeTurn_166 : decode cX7_takeTurn 166 = .ok (.ldc_w 393, 3) := by decide +kernel
theorem dX7_takeTurn_169 : decode cX7_takeTurn 169 = .ok (.irem, 1) := by decide +kernel
theorem dX7_takeTurn_170 : decode cX7_takeTurn 170 = .ok (.invokestatic 239, 3) := by decide +kernel
theorem dX7_takeTurn_173 : decode cX7_takeTurn 173 = .ok (.invokevirtual 242, 3) := by decide +kernel
theorem dX7_takeTurn_176 : decode cX7_takeTurn 176 = .ok (.return_, 1) := by decide +kernel
theorem dX7_kernelOf_0 : decode cX7_kernelOf 0 = .ok (.iload_n 0, 1) := by decide +kernel
theorem dX7_kernelOf_1 : decode cX7_kernelOf 1 = .ok (.bipush 11, 2) := by decide +kernel
theorem dX7_kernelOf_3 : decode cX7_kernelOf 3 = .ok (.irem, 1) := by decide +kernel
theorem dX7_kernelOf_4 : decode cX7_kernelOf 4 = .ok (.iload_n 0, 1) := by decide +kernel
theorem dX7_kernelOf_5 : decode cX7_kernelOf 5 = .ok (.bipush 11, 2) := by decide +kernel
theorem dX7_kernelOf_7 : decode cX7_kernelOf 7 = .ok (.idiv, 1) := by decide +kernel
theorem dX7_kernelOf_8 : decode cX7_kernelOf 8 = .ok (.bipush 11, 2) := by decide +kernel
theorem dX7_kernelOf_10 : decode cX7_kernelOf 10 = .ok (.irem, 1) := by decide +kernel
theorem dX7_kernelOf_11 : decode cX7_kernelOf 11 = .ok (.iload_n 0, 1) := by decide +kernel
theorem dX7_kernelOf_12 : decode cX7_kernelOf 12 = .ok (.bipush 121, 2) := by decide +kernel
theorem dX7_kernelOf_14 : decode cX7_kernelOf 14 = .ok (.idiv, 1) := by decide +kernel
theorem dX7_kernelOf_15 : decode cX7_kernelOf 15 = .ok (.bipush 11, 2) := by decide +kernel
theorem dX7_kernelOf_17 : decode cX7_kernelOf 17 = .ok (.irem, 1) := by decide +kernel
theorem dX7_kernelOf_18 : decode cX7_kernelOf 18 = .ok (.iload_n 0, 1) := by decide +kernel
theorem dX7_kernelOf_19 : decode cX7_kernelOf 19 = .ok (.sipush 1331, 3) := by decide +kernel
theorem dX7_kernelOf_22 : decode cX7_kernelOf 22 = .ok (.idiv, 1) := by decide +kernel
theorem dX7_kernelOf_23 : decode cX7_kernelOf 23 = .ok (.bipush 11, 2) := by decide +kernel
theorem dX7_kernelOf_25 : decode cX7_kernelOf 25 = .ok (.irem, 1) := by decide +kernel
theorem dX7_kernelOf_26 : decode cX7_kernelOf 26 = .ok (.iload_n 0, 1) := by decide +kernel
theorem dX7_kernelOf_27 : decode cX7_kernelOf 27 = .ok (.sipush 14641, 3) := by decide +kernel
theorem dX7_kernelOf_30 : decode cX7_kernelOf 30 = .ok (.idiv, 1) := by decide +kernel
theorem dX7_kernelOf_31 : decode cX7_kernelOf 31 = .ok (.invokestatic 394, 3) := by decide +kernel
theorem dX7_kernelOf_34 : decode cX7_kernelOf 34 = .ok (.bipush 15, 2) := by decide +kernel
theorem dX7_kernelOf_36 : decode cX7_kernelOf 36 = .ok (.isub, 1) := by decide +kernel
theorem dX7_kernelOf_37 : decode cX7_kernelOf 37 = .ok (.ireturn, 1) := by decide +kernel
theorem dX7_componentOf_0 : decode cX7_componentOf 0 = .ok (.iload_n 0, 1) := by decide +kernel
theorem dX7_componentOf_1 : decode cX7_componentOf 1 = .ok (.bipush 41, 2) := by decide +kernel
theorem dX7_componentOf_3 : decode cX7_componentOf 3 = .ok (.irem, 1) := by decide +kernel
theorem dX7_componentOf_4 : decode cX7_componentOf 4 = .ok (.iload_n 0, 1) := by decide +kernel
theorem dX7_componentOf_5 : decode cX7_componentOf 5 = .ok (.bipush 41, 2) := by decide +kernel
theorem dX7_componentOf_7 : decode cX7_componentOf 7 = .ok (.idiv, 1) := by decide +kernel
theorem dX7_componentOf_8 : decode cX7_componentOf 8 = .ok (.bipush 41, 2) := by decide +kernel
theorem dX7_componentOf_10 : decode cX7_componentOf 10 = .ok (.irem, 1) := by decide +kernel
theorem dX7_componentOf_11 : decode cX7_componentOf 11 = .ok (.iload_n 0, 1) := by decide +kernel
theorem dX7_componentOf_12 : decode cX7_componentOf 12 = .ok (.sipush 1681, 3) := by decide +kernel
theorem dX7_componentOf_15 : decode cX7_componentOf 15 = .ok (.idiv, 1) := by decide +kernel
theorem dX7_componentOf_16 : decode cX7_componentOf 16 = .ok (.bipush 41, 2) := by decide +kernel
theorem dX7_componentOf_18 : decode cX7_componentOf 18 = .ok (.irem, 1) := by decide +kernel
theorem dX7_componentOf_19 : decode cX7_componentOf 19 = .ok (.iload_n 0, 1) := by decide +kernel
theorem dX7_componentOf_20 : decode cX7_componentOf 20 = .ok (.ldc_w 398, 3) := by decide +kernel
theorem dX7_componentOf_23 : decode cX7_componentOf 23 = .ok (.idiv, 1) := by decide +kernel
theorem dX7_componentOf_24 : decode cX7_componentOf 24 = .ok (.bipush 41, 2) := by decide +kernel
theorem dX7_componentOf_26 : decode cX7_componentOf 26 = .ok (.irem, 1) := by decide +kernel
theorem dX7_componentOf_27 : decode cX7_componentOf 27 = .ok (.iload_n 0, 1) := by decide +kernel
theorem dX7_componentOf_28 : decode cX7_componentOf 28 = .ok (.ldc_w 399, 3) := by decide +kernel
theorem dX7_componentOf_31 : decode cX7_componentOf 31 = .ok (.idiv, 1) := by decide +kernel
theorem dX7_componentOf_32 : decode cX7_componentOf 32 = .ok (.invokestatic 394, 3) := by decide +kernel
theorem dX7_componentOf_35 : decode cX7_componentOf 35 = .ok (.istore_n 1, 1) := by decide +kernel
theorem dX7_componentOf_36 : decode cX7_componentOf 36 = .ok (.iload_n 1, 1) := by decide +kernel
theorem dX7_componentOf_37 : decode cX7_componentOf 37 = .ok (.bipush 25, 2) := by decide +kernel
theorem dX7_componentOf_39 : decode cX7_componentOf 39 = .ok (.imul, 1) := by decide +kernel
theorem dX7_componentOf_40 : decode cX7_componentOf 40 = .ok (.iconst 1, 1) := by decide +kernel
theorem dX7_componentOf_41 : decode cX7_componentOf 41 = .ok (.iadd, 1) := by decide +kernel
theorem dX7_componentOf_42 : decode cX7_componentOf 42 = .ok (.iconst 3, 1) := by decide +kernel
theorem dX7_componentOf_43 : decode cX7_componentOf 43 = .ok (.idiv, 1) := by decide +kernel
theorem dX7_componentOf_44 : decode cX7_componentOf 44 = .ok (.ireturn, 1) := by decide +kernel
theorem dX7_threeOf_0 : decode cX7_threeOf 0 = .ok (.iload_n 0, 1) := by decide +kernel
theorem dX7_threeOf_1 : decode cX7_threeOf 1 = .ok (.iload_n 1, 1) := by decide +kernel
theorem dX7_threeOf_2 : decode cX7_threeOf 2 = .ok (.invokestatic 400, 3) := by decide +kernel
theorem dX7_threeOf_5 : decode cX7_threeOf 5 = .ok (.iload_n 2, 1) := by decide +kernel
theorem dX7_threeOf_6 : decode cX7_threeOf 6 = .ok (.iload_n 3, 1) := by decide +kernel
theorem dX7_threeOf_7 : decode cX7_threeOf 7 = .ok (.invokestatic 400, 3) := by decide +kernel
theorem dX7_threeOf_10 : decode cX7_threeOf 10 = .ok (.invokestatic 400, 3) := by decide +kernel
theorem dX7_threeOf_13 : decode cX7_threeOf 13 = .ok (.iload 4, 2) := by decide +kernel
theorem dX7_threeOf_15 : decode cX7_threeOf 15 = .ok (.invokestatic 400, 3) := by decide +kernel
theorem dX7_threeOf_18 : decode cX7_threeOf 18 = .ok (.istore 5, 2) := by decide +kernel
theorem dX7_threeOf_20 : decode cX7_threeOf 20 = .ok (.iload_n 0, 1) := by decide +kernel
theorem dX7_threeOf_21 : decode cX7_threeOf 21 = .ok (.iload_n 1, 1) := by decide +kernel
theorem dX7_threeOf_22 : decode cX7_threeOf 22 = .ok (.invokestatic 405, 3) := by decide +kernel
theorem dX7_threeOf_25 : decode cX7_threeOf 25 = .ok (.iload_n 2, 1) := by decide +kernel
theorem dX7_threeOf_26 : decode cX7_threeOf 26 = .ok (.iload_n 3, 1) := by decide +kernel
theorem dX7_threeOf_27 : decode cX7_threeOf 27 = .ok (.invokestatic 405, 3) := by decide +kernel
theorem dX7_threeOf_30 : decode cX7_threeOf 30 = .ok (.invokestatic 405, 3) := by decide +kernel
theorem dX7_threeOf_33 : decode cX7_threeOf 33 = .ok (.iload 4, 2) := by decide +kernel
theorem dX7_threeOf_35 : decode cX7_threeOf 35 = .ok (.invokestatic 405, 3) := by decide +kernel
theorem dX7_threeOf_38 : decode cX7_threeOf 38 = .ok (.istore 6, 2) := by decide +kernel
theorem dX7_threeOf_40 : decode cX7_threeOf 40 = .ok (.iload_n 0, 1) := by decide +kernel
theorem dX7_threeOf_41 : decode cX7_threeOf 41 = .ok (.iload_n 1, 1) := by decide +kernel
theorem dX7_threeOf_42 : decode cX7_threeOf 42 = .ok (.iadd, 1) := by decide +kernel
theorem dX7_threeOf_43 : decode cX7_threeOf 43 = .ok (.iload_n 2, 1) := by decide +kernel
theorem dX7_threeOf_44 : decode cX7_threeOf 44 = .ok (.iadd, 1) := by decide +kernel
theorem dX7_threeOf_45 : decode cX7_threeOf 45 = .ok (.iload_n 3, 1) := by decide +kernel
theorem dX7_threeOf_46 : decode cX7_threeOf 46 = .ok (.iadd, 1) := by decide +kernel
theorem dX7_threeOf_47 : decode cX7_threeOf 47 = .ok (.iload 4, 2) := by decide +kernel
theorem dX7_threeOf_49 : decode cX7_threeOf 49 = .ok (.iadd, 1) := by decide +kernel
theorem dX7_threeOf_50 : decode cX7_threeOf 50 = .ok (.iload 5, 2) := by decide +kernel
theorem dX7_threeOf_52 : decode cX7_threeOf 52 = .ok (.isub, 1) := by decide +kernel
theorem dX7_threeOf_53 : decode cX7_threeOf 53 = .ok (.iload 6, 2) := by decide +kernel
theorem dX7_threeOf_55 : decode cX7_threeOf 55 = .ok (.isub, 1) := by decide +kernel
theorem dX7_threeOf_56 : decode cX7_threeOf 56 = .ok (.ireturn, 1) := by decide +kernel
theorem dX8_init_0 : decode cX8_init 0 = .ok (.aload_n 0, 1) := by decide +kernel
theorem dX8_init_1 : decode cX8_init 1 = .ok (.invokespecial 1, 3) := by decide +kernel
theorem dX8_init_4 : decode cX8_init 4 = .ok (.aload_n 0, 1) := by decide +kernel
theorem dX8_init_5 : decode cX8_init 5 = .ok (.bipush 120, 2) := by decide +kernel
theorem dX8_init_7 : decode cX8_init 7 = .ok (.newarray .int, 2) := by decide +kernel
theorem dX8_init_9 : decode cX8_init 9 = .ok (.putfield 7, 3) := by decide +kernel
theorem dX8_init_12 : decode cX8_init 12 = .ok (.aload_n 0, 1) := by decide +kernel
theorem dX8_init_13 : decode cX8_init 13 = .ok (.sipush 938, 3) := by decide +kernel
theorem dX8_init_16 : decode cX8_init 16 = .ok (.newarray .int, 2) := by decide +kernel
theorem dX8_init_18 : decode cX8_init 18 = .ok (.putfield 13, 3) := by decide +kernel
theorem dX8_init_21 : decode cX8_init 21 = .ok (.aload_n 0, 1) := by decide +kernel
theorem dX8_init_22 : decode cX8_init 22 = .ok (.sipush 938, 3) := by decide +kernel
theorem dX8_init_25 : decode cX8_init 25 = .ok (.newarray .int, 2) := by decide +kernel
theorem dX8_init_27 : decode cX8_init 27 = .ok (.putfield 16, 3) := by decide +kernel
theorem dX8_init_30 : decode cX8_init 30 = .ok (.aload_n 0, 1) := by decide +kernel
theorem dX8_init_31 : decode cX8_init 31 = .ok (.sipush 13132, 3) := by decide +kernel
theorem dX8_init_34 : decode cX8_init 34 = .ok (.newarray .int, 2) := by decide +kernel
theorem dX8_init_36 : decode cX8_init 36 = .ok (.putfield 19, 3) := by decide +kernel
theorem dX8_init_39 : decode cX8_init 39 = .ok (.aload_n 0, 1) := by decide +kernel
theorem dX8_init_40 : decode cX8_init 40 = .ok (.sipush 1876, 3) := by decide +kernel
theorem dX8_init_43 : decode cX8_init 43 = .ok (.newarray .int, 2) := by decide +kernel
theorem dX8_init_45 : decode cX8_init 45 = .ok (.putfield 22, 3) := by decide +kernel
theorem dX8_init_48 : decode cX8_init 48 = .ok (.aload_n 0, 1) := by decide +kernel
theorem dX8_init_49 : decode cX8_init 49 = .ok (.iconst 2, 1) := by decide +kernel
theorem dX8_init_50 : decode cX8_init 50 = .ok (.newarray .boolean, 2) := by decide +kernel
theorem dX8_init_52 : decode cX8_init 52 = .ok (.putfield 25, 3) := by decide +kernel
theorem dX8_init_55 : decode cX8_init 55 = .ok (.aload_n 0, 1) := by decide +kernel
theorem dX8_init_56 : decode cX8_init 56 = .ok (.sipush 233, 3) := by decide +kernel
theorem dX8_init_59 : decode cX8_init 59 = .ok (.newarray .int, 2) := by decide +kernel
theorem dX8_init_61 : decode cX8_init 61 = .ok (.putfield 29, 3) := by decide +kernel
theorem dX8_init_64 : decode cX8_init 64 = .ok (.aload_n 0, 1) := by decide +kernel
theorem dX8_init_65 : decode cX8_init 65 = .ok (.bipush 36, 2) := by decide +kernel
theorem dX8_init_67 : decode cX8_init 67 = .ok (.newarray .int, 2) := by decide +kernel
theorem dX8_init_69 : decode cX8_init 69 = .ok (.putfield 32, 3) := by decide +kernel
theorem dX8_init_72 : decode cX8_init 72 = .ok (.aload_n 0, 1) := by decide +kernel
theorem dX8_init_73 : decode cX8_init 73 = .ok (.bipush 36, 2) := by decide +kernel
theorem dX8_init_75 : decode cX8_init 75 = .ok (.newarray .int, 2) := by decide +kernel
theorem dX8_init_77 : decode cX8_init 77 = .ok (.putfield 35, 3) := by decide +kernel
theorem dX8_init_80 : decode cX8_init 80 = .ok (.aload_n 0, 1) := by decide +kernel
theorem dX8_init_81 : decode cX8_init 81 = .ok (.bipush 12, 2) := by decide +kernel
theorem dX8_init_83 : decode cX8_init 83 = .ok (.newarray .int, 2) := by decide +kernel
theorem dX8_init_85 : decode cX8_init 85 = .ok (.putfield 38, 3) := by decide +kernel
theorem dX8_init_88 : decode cX8_init 88 = .ok (.aload_n 0, 1) := by decide +kernel
theorem dX8_init_89 : decode cX8_init 89 = .ok (.bipush 12, 2) := by decide +kernel
theorem dX8_init_91 : decode cX8_init 91 = .ok (.newarray .int, 2) := by decide +kernel
theorem dX8_init_93 : decode cX8_init 93 = .ok (.putfield 41, 3) := by decide +kernel
theorem dX8_init_96 : decode cX8_init 96 = .ok (.aload_n 0, 1) := by decide +kernel
theorem dX8_init_97 : decode cX8_init 97 = .ok (.bipush 12, 2) := by decide +kernel
theorem dX8_init_99 : decode cX8_init 99 = .ok (.newarray .int, 2) := by decide +kernel
theorem dX8_init_101 : decode cX8_init 101 = .ok (.putfield 44, 3) := by decide +kernel
theorem dX8_init_104 : decode cX8_init 104 = .ok (.aload_n 0, 1) := by decide +kernel
theorem dX8_init_105 : decode cX8_init 105 = .ok (.bipush 12, 2) := by decide +kernel
theorem dX8_init_107 : decode cX8_init 107 = .ok (.newarray .int, 2) := by decide +kernel
theorem dX8_init_109 : decode cX8_init 109 = .ok (.putfield 47, 3) := by decide +kernel
theorem dX8_init_112 : decode cX8_init 112 = .ok (.aload_n 0, 1) := by decide +kernel
theorem dX8_init_113 : decode cX8_init 113 = .ok (.iconst 4, 1) := by decide +kernel
theorem dX8_init_114 : decode cX8_init 114 = .ok (.newarray .int, 2) := by decide +kernel
theorem dX8_init_116 : decode cX8_init 116 = .ok (.putfield 50, 3) := by decide +kernel
theorem dX8_init_119 : decode cX8_init 119 = .ok (.aload_n 0, 1) := by decide +kernel
theorem dX8_init_120 : decode cX8_init 120 = .ok (.iconst 4, 1) := by decide +kernel
theorem dX8_init_121 : decode cX8_init 121 = .ok (.newarray .int, 2) := by decide +kernel
theorem dX8_init_123 : decode cX8_init 123 = .ok (.putfield 53, 3) := by decide +kernel
theorem dX8_init_126 : decode cX8_init 126 = .ok (.aload_n 0, 1) := by decide +kernel
theorem dX8_init_127 : decode cX8_init 127 = .ok (.getfield 13, 3) := by decide +kernel
theorem dX8_init_130 : decode cX8_init 130 = .ok (.iconst 1, 1) := by decide +kernel
theorem dX8_init_131 : decode cX8_init 131 = .ok (.bipush 100, 2) := by decide +kernel
theorem dX8_init_133 : decode cX8_init 133 = .ok (.iastore, 1) := by decide +kernel
theorem dX8_init_134 : decode cX8_init 134 = .ok (.aload_n 0, 1) := by decide +kernel
theorem dX8_init_135 : decode cX8_init 135 = .ok (.getfield 13, 3) := by decide +kernel
theorem dX8_init_138 : decode cX8_init 138 = .ok (.iconst 2, 1) := by decide +kernel
theorem dX8_init_139 : decode cX8_init 139 = .ok (.iconst 3, 1) := by decide +kernel
theorem dX8_init_140 : decode cX8_init 140 = .ok (.iastore, 1) := by decide +kernel
theorem dX8_init_141 : decode cX8_init 141 = .ok (.aload_n 0, 1) := by decide +kernel
theorem dX8_init_142 : decode cX8_init 142 = .ok (.getfield 13, 3) := by decide +kernel
theorem dX8_init_145 : decode cX8_init 145 = .ok (.iconst 3, 1) := by decide +kernel
theorem dX8_init_146 : decode cX8_init 146 = .ok (.bipush 7, 2) := by decide +kernel
theorem dX8_init_148 : decode cX8_init 148 = .ok (.iastore, 1) := by decide +kernel
theorem dX8_init_149 : decode cX8_init 149 = .ok (.aload_n 0, 1) := by decide +kernel
theorem dX8_init_150 : decode cX8_init 150 = .ok (.getfield 13, 3) := by decide +kernel
theorem dX8_init_153 : decode cX8_init 153 = .ok (.iconst 4, 1) := by decide +kernel
theorem dX8_init_154 : decode cX8_init 154 = .ok (.iconst 3, 1) := by decide +kernel
theorem dX8_init_155 : decode cX8_init 155 = .ok (.iastore, 1) := by decide +kernel
theorem dX8_init_156 : decode cX8_init 156 = .ok (.aload_n 0, 1) := by decide +kernel
theorem dX8_init_157 : decode cX8_init 157 = .ok (.getfield 13, 3) := by decide +kernel
theorem dX8_init_160 : decode cX8_init 160 = .ok (.iconst 5, 1) := by decide +kernel
theorem dX8_init_161 : decode cX8_init 161 = .ok (.bipush 10, 2) := by decide +kernel
theorem dX8_init_163 : decode cX8_init 163 = .ok (.iastore, 1) := by decide +kernel
theorem dX8_init_164 : decode cX8_init 164 = .ok (.return_, 1) := by decide +kernel
theorem dX8_thrown_0 : decode cX8_thrown 0 = .ok (.aload_n 0, 1) := by decide +kernel
theorem dX8_thrown_1 : decode cX8_thrown 1 = .ok (.getfield 56, 3) := by decide +kernel
theorem dX8_thrown_4 : decode cX8_thrown 4 = .ok (.ireturn, 1) := by decide +kernel
theorem dX8_refused_0 : decode cX8_refused 0 = .ok (.aload_n 0, 1) := by decide +kernel
theorem dX8_refused_1 : decode cX8_refused 1 = .ok (.iload_n 1, 1) := by decide +kernel
theorem dX8_refused_2 : decode cX8_refused 2 = .ok (.putfield 56, 3) := by decide +kernel
theorem dX8_refused_5 : decode cX8_refused 5 = .ok (.iload_n 1, 1) := by decide +kernel
theorem dX8_refused_6 : decode cX8_refused 6 = .ok (.ifCond .le 7, 3) := by decide +kernel
theorem dX8_refused_9 : decode cX8_refused 9 = .ok (.iconst 1, 1) := by decide +kernel
theorem dX8_refused_10 : decode cX8_refused 10 = .ok (.goto 4, 3) := by decide +kernel
theorem dX8_refused_13 : decode cX8_refused 13 = .ok (.iconst 0, 1) := by decide +kernel
theorem dX8_refused_14 : decode cX8_refused 14 = .ok (.ireturn, 1) := by decide +kernel
theorem dX8_in_0 : decode cX8_in 0 = .ok (.lload_n 0, 1) := by decide +kernel
theorem dX8_in_1 : decode cX8_in 1 = .ok (.lload_n 2, 1) := by decide +kernel
theorem dX8_in_2 : decode cX8_in 2 = .ok (.lcmp, 1) := by decide +kernel
theorem dX8_in_3 : decode cX8_in 3 = .ok (.ifCond .lt 14, 3) := by decide +kernel
theorem dX8_in_6 : decode cX8_in 6 = .ok (.lload_n 0, 1) := by decide +kernel
theorem dX8_in_7 : decode cX8_in 7 = .ok (.lload 4, 2) := by decide +kernel
theorem dX8_in_9 : decode cX8_in 9 = .ok (.lcmp, 1) := by decide +kernel
theorem dX8_in_10 : decode cX8_in 10 = .ok (.ifCond .gt 7, 3) := by decide +kernel
theorem dX8_in_13 : decode cX8_in 13 = .ok (.iconst 1, 1) := by decide +kernel
theorem dX8_in_14 : decode cX8_in 14 = .ok (.goto 4, 3) := by decide +kernel
theorem dX8_in_17 : decode cX8_in 17 = .ok (.iconst 0, 1) := by decide +kernel
theorem dX8_in_18 : decode cX8_in 18 = .ok (.ireturn, 1) := by decide +kernel
theorem dX8_copyState_0 : decode cX8_copyState 0 = .ok (.iconst 0, 1) := by decide +kernel
theorem dX8_copyState_1 : decode cX8_copyState 1 = .ok (.istore 4, 2) := by decide +kernel
theorem dX8_copyState_3 : decode cX8_copyState 3 = .ok (.iload 4, 2) := by decide +kernel
theorem dX8_copyState_5 : decode cX8_copyState 5 = .ok (.sipush 938, 3) := by decide +kernel
theorem dX8_copyState_8 : decode cX8_copyState 8 = .ok (.if_icmp .ge 21, 3) := by decide +kernel
theorem dX8_copyState_11 : decode cX8_copyState 11 = .ok (.aload_n 2, 1) := by decide +kernel
theorem dX8_copyState_12 : decode cX8_copyState 12 = .ok (.iload_n 3, 1) := by decide +kernel
theorem dX8_copyState_13 : decode cX8_copyState 13 = .ok (.iload 4, 2) := by decide +kernel
theorem dX8_copyState_15 : decode cX8_copyState 15 = .ok (.iadd, 1) := by decide +kernel
theorem dX8_copyState_16 : decode cX8_copyState 16 = .ok (.aload_n 0, 1) := by decide +kernel
theorem dX8_copyState_17 : decode cX8_copyState 17 = .ok (.iload_n 1, 1) := by decide +kernel
theorem dX8_copyState_18 : decode cX8_copyState 18 = .ok (.iload 4, 2) := by decide +kernel
theorem dX8_copyState_20 : decode cX8_copyState 20 = .ok (.iadd, 1) := by decide +kernel
theorem dX8_copyState_21 : decode cX8_copyState 21 = .ok (.iaload, 1) := by decide +kernel
theorem dX8_copyState_22 : decode cX8_copyState 22 = .ok (.iastore, 1) := by decide +kernel
theorem dX8_copyState_23 : decode cX8_copyState 23 = .ok (.iinc 4 1, 3) := by decide +kernel
theorem dX8_copyState_26 : decode cX8_copyState 26 = .ok (.goto (-23), 3) := by decide +kernel
theorem dX8_copyState_29 : decode cX8_copyState 29 = .ok (.return_, 1) := by decide +kernel
theorem dX8_skaterAt_0 : decode cX8_skaterAt 0 = .ok (.bipush 6, 2) := by decide +kernel
theorem dX8_skaterAt_2 : decode cX8_skaterAt 2 = .ok (.sipush 233, 3) := by decide +kernel
theorem dX8_skaterAt_5 : decode cX8_skaterAt 5 = .ok (.iload_n 0, 1) := by decide +kernel
theorem dX8_skaterAt_6 : decode cX8_skaterAt 6 = .ok (.imul, 1) := by decide +kernel
theorem dX8_skaterAt_7 : decode cX8_skaterAt 7 = .ok (.iadd, 1) := by decide +kernel
theorem dX8_skaterAt_8 : decode cX8_skaterAt 8 = .ok (.ireturn, 1) := by decide +kernel
theorem dX8_elementAt_0 : decode cX8_elementAt 0 = .ok (.bipush 6, 2) := by decide +kernel
theorem dX8_elementAt_2 : decode cX8_elementAt 2 = .ok (.sipush 233, 3) := by decide +kernel
theorem dX8_elementAt_5 : decode cX8_elementAt 5 = .ok (.iload_n 0, 1) := by decide +kernel
theorem dX8_elementAt_6 : decode cX8_elementAt 6 = .ok (.imul, 1) := by decide +kernel
theorem dX8_elementAt_7 : decode cX8_elementAt 7 = .ok (.iadd, 1) := by decide +kernel
theorem dX8_elementAt_8 : decode cX8_elementAt 8 = .ok (.bipush 17, 2) := by decide +kernel
theorem dX8_elementAt_10 : decode cX8_elementAt 10 = .ok (.iadd, 1) := by decide +kernel
theorem dX8_elementAt_11 : decode cX8_elementAt 11 = .ok (.bipush 18, 2) := by decide +kernel
theorem dX8_elementAt_13 : decode cX8_elementAt 13 = .ok (.iload_n 1, 1) := by decide +kernel
theorem dX8_elementAt_14 : decode cX8_elementAt 14 = .ok (.imul, 1) := by decide +kernel
theorem dX8_elementAt_15 : decode cX8_elementAt 15 = .ok (.iadd, 1) := by decide +kernel
theorem dX8_elementAt_16 : decode cX8_elementAt 16 = .ok (.ireturn, 1) := by decide +kernel
theorem dX8_partAt_0 : decode cX8_partAt 0 = .ok (.iload_n 0, 1) := by decide +kernel
theorem dX8_partAt_1 : decode cX8_partAt 1 = .ok (.iload_n 1, 1) := by decide +kernel
theorem dX8_partAt_2 : decode cX8_partAt 2 = .ok (.invokestatic 60, 3) := by decide +kernel
theorem dX8_partAt_5 : decode cX8_partAt 5 = .ok (.iconst 2, 1) := by decide +kernel
theorem dX8_partAt_6 : decode cX8_partAt 6 = .ok (.iadd, 1) := by decide +kernel
theorem dX8_partAt_7 : decode cX8_partAt 7 = .ok (.iconst 3, 1) := by decide +kernel
theorem dX8_partAt_8 : decode cX8_partAt 8 = .ok (.iload_n 2, 1) := by decide +kernel
theorem dX8_partAt_9 : decode cX8_partAt 9 = .ok (.imul, 1) := by decide +kernel
theorem dX8_partAt_10 : decode cX8_partAt 10 = .ok (.iadd, 1) := by decide +kernel
theorem dX8_partAt_11 : decode cX8_partAt 11 = .ok (.ireturn, 1) := by decide +kernel
theorem dX8_isSkater_0 : decode cX8_isSkater 0 = .ok (.iload_n 1, 1) := by decide +kernel
theorem dX8_isSkater_1 : decode cX8_isSkater 1 = .ok (.i2l, 1) := by decide +kernel
theorem dX8_isSkater_2 : decode cX8_isSkater 2 = .ok (.lconst 0, 1) := by decide +kernel
theorem dX8_isSkater_3 : decode cX8_isSkater 3 = .ok (.aload_n 0, 1) := by decide +kernel
theorem dX8_isSkater_4 : decode cX8_isSkater 4 = .ok (.iconst 0, 1) := by decide +kernel
theorem dX8_isSkater_5 : decode cX8_isSkater 5 = .ok (.iaload, 1) := by decide +kernel
theorem dX8_isSkater_6 : decode cX8_isSkater 6 = .ok (.iconst 1, 1) := by decide +kernel
theorem dX8_isSkater_7 : decode cX8_isSkater 7 = .ok (.isub, 1) := by decide +kernel
theorem dX8_isSkater_8 : decode cX8_isSkater 8 = .ok (.i2l, 1) := by decide +kernel
theorem dX8_isSkater_9 : decode cX8_isSkater 9 = .ok (.invokestatic 64, 3) := by decide +kernel
theorem dX8_isSkater_12 : decode cX8_isSkater 12 = .ok (.ireturn, 1) := by decide +kernel
theorem dX8_isElement_0 : decode cX8_isElement 0 = .ok (.aload_n 0, 1) := by decide +kernel
theorem dX8_isElement_1 : decode cX8_isElement 1 = .ok (.iload_n 1, 1) := by decide +kernel
theorem dX8_isElement_2 : decode cX8_isElement 2 = .ok (.invokestatic 68, 3) := by decide +kernel
theorem dX8_isElement_5 : decode cX8_isElement 5 = .ok (.ifCond .eq 27, 3) := by decide +kernel
theorem dX8_isElement_8 : decode cX8_isElement 8 = .ok (.iload_n 2, 1) := by decide +kernel
theorem dX8_isElement_9 : decode cX8_isElement 9 = .ok (.i2l, 1) := by decide +kernel
theorem dX8_isElement_10 : decode cX8_isElement 10 = .ok (.lconst 0, 1) := by decide +kernel
theorem dX8_isElement_11 : decode cX8_isElement 11 = .ok (.aload_n 0, 1) := by decide +kernel
theorem dX8_isElement_12 : decode cX8_isElement 12 = .ok (.iload_n 1, 1) := by decide +kernel
theorem dX8_isElement_13 : decode cX8_isElement 13 = .ok (.invokestatic 72, 3) := by decide +kernel
theorem dX8_isElement_16 : decode cX8_isElement 16 = .ok (.iconst 0, 1) := by decide +kernel
theorem dX8_isElement_17 : decode cX8_isElement 17 = .ok (.iadd, 1) := by decide +kernel
theorem dX8_isElement_18 : decode cX8_isElement 18 = .ok (.iaload, 1) := by decide +kernel
theorem dX8_isElement_19 : decode cX8_isElement 19 = .ok (.iconst 1, 1) := by decide +kernel
theorem dX8_isElement_20 : decode cX8_isElement 20 = .ok (.isub, 1) := by decide +kernel
theorem dX8_isElement_21 : decode cX8_isElement 21 = .ok (.i2l, 1) := by decide +kernel
theorem dX8_isElement_22 : decode cX8_isElement 22 = .ok (.invokestatic 64, 3) := by decide +kernel
theorem dX8_isElement_25 : decode cX8_isElement 25 = .ok (.ifCond .eq 7, 3) := by decide +kernel
theorem dX8_isElement_28 : decode cX8_isElement 28 = .ok (.iconst 1, 1) := by decide +kernel
theorem dX8_isElement_29 : decode cX8_isElement 29 = .ok (.goto 4, 3) := by decide +kernel
theorem dX8_isElement_32 : decode cX8_isElement 32 = .ok (.iconst 0, 1) := by decide +kernel
theorem dX8_isElement_33 : decode cX8_isElement 33 = .ok (.ireturn, 1) := by decide +kernel
theorem dX8_isPart_0 : decode cX8_isPart 0 = .ok (.aload_n 0, 1) := by decide +kernel
theorem dX8_isPart_1 : decode cX8_isPart 1 = .ok (.iload_n 1, 1) := by decide +kernel
theorem dX8_isPart_2 : decode cX8_isPart 2 = .ok (.iload_n 2, 1) := by decide +kernel
theorem dX8_isPart_3 : decode cX8_isPart 3 = .ok (.invokestatic 76, 3) := by decide +kernel
theorem dX8_isPart_6 : decode cX8_isPart 6 = .ok (.ifCond .eq 28, 3) := by decide +kernel
theorem dX8_isPart_9 : decode cX8_isPart 9 = .ok (.iload_n 3, 1) := by decide +kernel
theorem dX8_isPart_10 : decode cX8_isPart 10 = .ok (.i2l, 1) := by decide +kernel
theorem dX8_isPart_11 : decode cX8_isPart 11 = .ok (.lconst 0, 1) := by decide +kernel
theorem dX8_isPart_12 : decode cX8_isPart 12 = .ok (.aload_n 0, 1) := by decide +kernel
theorem dX8_isPart_13 : decode cX8_isPart 13 = .ok (.iload_n 1, 1) := by decide +kernel
theorem dX8_isPart_14 : decode cX8_isPart 14 = .ok (.iload_n 2, 1) := by decide +kernel
theorem dX8_isPart_15 : decode cX8_isPart 15 = .ok (.invokestatic 60, 3) := by decide +kernel
theorem dX8_isPart_18 : decode cX8_isPart 18 = .ok (.iconst 1, 1) := by decide +kernel
theorem dX8_isPart_19 : decode cX8_isPart 19 = .ok (.iadd, 1) := by decide +kernel
theorem dX8_isPart_20 : decode cX8_isPart 20 = .ok (.iaload, 1) := by decide +kernel
theorem dX8_isPart_21 : decode cX8_isPart 21 = .ok (.iconst 1, 1) := by decide +kernel
theorem dX8_isPart_22 : decode cX8_isPart 22 = .ok (.isub, 1) := by decide +kernel
theorem dX8_isPart_23 : decode cX8_isPart 23 = .ok (.i2l, 1) := by decide +kernel
theorem dX8_isPart_24 : decode cX8_isPart 24 = .ok (.invokestatic 64, 3) := by decide +kernel
theorem dX8_isPart_27 : decode cX8_isPart 27 = .ok (.ifCond .eq 7, 3) := by decide +kernel
theorem dX8_isPart_30 : decode cX8_isPart 30 = .ok (.iconst 1, 1) := by decide +kernel
theorem dX8_isPart_31 : decode cX8_isPart 31 = .ok (.goto 4, 3) := by decide +kernel
theorem dX8_isPart_34 : decode cX8_isPart 34 = .ok (.iconst 0, 1) := by decide +kernel
theorem dX8_isPart_35 : decode cX8_isPart 35 = .ok (.ireturn, 1) := by decide +kernel
theorem dX8_ofKind_0 : decode cX8_ofKind 0 = .ok (.iload_n 0, 1) := by decide +kernel
theorem dX8_ofKind_1 : decode cX8_ofKind 1 = .ok (.ifCond .eq 8, 3) := by decide +kernel
theorem dX8_ofKind_4 : decode cX8_ofKind 4 = .ok (.iload_n 0, 1) := by decide +kernel
theorem dX8_ofKind_5 : decode cX8_ofKind 5 = .ok (.iconst 1, 1) := by decide +kernel
theorem dX8_ofKind_6 : decode cX8_ofKind 6 = .ok (.if_icmp .ne 8, 3) := by decide +kernel
theorem dX8_ofKind_9 : decode cX8_ofKind 9 = .ok (.bipush 40, 2) := by decide +kernel
theorem dX8_ofKind_11 : decode cX8_ofKind 11 = .ok (.goto 30, 3) := by decide +kernel
theorem dX8_ofKind_14 : decode cX8_ofKind 14 = .ok (.iload_n 0, 1) := by decide +kernel
theorem dX8_ofKind_15 : decode cX8_ofKind 15 = .ok (.iconst 2, 1) := by decide +kernel
theorem dX8_ofKind_16 : decode cX8_ofKind 16 = .ok (.if_icmp .eq 8, 3) := by decide +kernel
theorem dX8_ofKind_19 : decode cX8_ofKind 19 = .ok (.iload_n 0, 1) := by decide +kernel
theorem dX8_ofKind_20 : decode cX8_ofKind 20 = .ok (.iconst 3, 1) := by decide +kernel
theorem dX8_ofKind_21 : decode cX8_ofKind 21 = .ok (.if_icmp .ne 8, 3) := by decide +kernel
theorem dX8_ofKind_24 : decode cX8_ofKind 24 = .ok (.bipush 50, 2) := by decide +kernel
theorem dX8_ofKind_26 : decode cX8_ofKind 26 = .ok (.goto 15, 3) := by decide +kernel
theorem dX8_ofKind_29 : decode cX8_ofKind 29 = .ok (.iload_n 0, 1) := by decide +kernel
theorem dX8_ofKind_30 : decode cX8_ofKind 30 = .ok (.iconst 4, 1) := by decide +kernel
theorem dX8_ofKind_31 : decode cX8_ofKind 31 = .ok (.if_icmp .ne 8, 3) := by decide +kernel
theorem dX8_ofKind_34 : decode cX8_ofKind 34 = .ok (.bipush 60, 2) := by decide +kernel
theorem dX8_ofKind_36 : decode cX8_ofKind 36 = .ok (.goto 5, 3) := by decide +kernel
theorem dX8_ofKind_39 : decode cX8_ofKind 39 = .ok (.bipush 110, 2) := by decide +kernel
theorem dX8_ofKind_41 : decode cX8_ofKind 41 = .ok (.istore_n 2, 1) := by decide +kernel
theorem dX8_ofKind_42 : decode cX8_ofKind 42 = .ok (.iload_n 0, 1) := by decide +kernel
theorem dX8_ofKind_43 : decode cX8_ofKind 43 = .ok (.ifCond .eq 8, 3) := by decide +kernel
theorem dX8_ofKind_46 : decode cX8_ofKind 46 = .ok (.iload_n 0, 1) := by decide +kernel
theorem dX8_ofKind_47 : decode cX8_ofKind 47 = .ok (.iconst 1, 1) := by decide +kernel
theorem dX8_ofKind_48 : decode cX8_ofKind 48 = .ok (.if_icmp .ne 9, 3) := by decide +kernel
theorem dX8_ofKind_51 : decode cX8_ofKind 51 = .ok (.sipush 130, 3) := by decide +kernel
theorem dX8_ofKind_54 : decode cX8_ofKind 54 = .ok (.goto 39, 3) := by decide +kernel
theorem dX8_ofKind_57 : decode cX8_ofKind 57 = .ok (.iload_n 0, 1) := by decide +kernel
theorem dX8_ofKind_58 : decode cX8_ofKind 58 = .ok (.iconst 2, 1) := by decide +kernel
theorem dX8_ofKind_59 : decode cX8_ofKind 59 = .ok (.if_icmp .ne 9, 3) := by decide +kernel
theorem dX8_ofKind_62 : decode cX8_ofKind 62 = .ok (.sipush 170, 3) := by decide +kernel
theorem dX8_ofKind_65 : decode cX8_ofKind 65 = .ok (.goto 28, 3) := by decide +kernel
theorem dX8_ofKind_68 : decode cX8_ofKind 68 = .ok (.iload_n 0, 1) := by decide +kernel
theorem dX8_ofKind_69 : decode cX8_ofKind 69 = .ok (.iconst 3, 1) := by decide +kernel
theorem dX8_ofKind_70 : decode cX8_ofKind 70 = .ok (.if_icmp .ne 9, 3) := by decide +kernel
theorem dX8_ofKind_73 : decode cX8_ofKind 73 = .ok (.sipush 180, 3) := by decide +kernel
theorem dX8_ofKind_76 : decode cX8_ofKind 76 = .ok (.goto 17, 3) := by decide +kernel
theorem dX8_ofKind_79 : decode cX8_ofKind 79 = .ok (.iload_n 0, 1) := by decide +kernel
theorem dX8_ofKind_80 : decode cX8_ofKind 80 = .ok (.iconst 4, 1) := by decide +kernel
theorem dX8_ofKind_81 : decode cX8_ofKind 81 = .ok (.if_icmp .ne 9, 3) := by decide +kernel
theorem dX8_ofKind_84 : decode cX8_ofKind 84 = .ok (.sipush 210, 3) := by decide +kernel
theorem dX8_ofKind_87 : decode cX8_ofKind 87 = .ok (.goto 6, 3) := by decide +kernel
theorem dX8_ofKind_90 : decode cX8_ofKind 90 = .ok (.sipush 330, 3) := by decide +kernel
theorem dX8_ofKind_93 : decode cX8_ofKind 93 = .ok (.istore_n 3, 1) := by decide +kernel
theorem dX8_ofKind_94 : decode cX8_ofKind 94 = .ok (.iload_n 0, 1) := by decide +kernel
theorem dX8_ofKind_95 : decode cX8_ofKind 95 = .ok (.ifCond .ne 9, 3) := by decide +kernel
theorem dX8_ofKind_98 : decode cX8_ofKind 98 = .ok (.sipush 420, 3) := by decide +kernel
theorem dX8_ofKind_101 : decode cX8_ofKind 101 = .ok (.goto 50, 3) := by decide +kernel
theorem dX8_ofKind_104 : decode cX8_ofKind 104 = .ok (.iload_n 0, 1) := by decide +kernel
theorem dX8_ofKind_105 : decode cX8_ofKind 105 = .ok (.iconst 1, 1) := by decide +kernel
theorem dX8_ofKind_106 : decode cX8_ofKind 106 = .ok (.if_icmp .ne 9, 3) := by decide +kernel
theorem dX8_ofKind_109 : decode cX8_ofKind 109 = .ok (.sipush 430, 3) := by decide +kernel
theorem dX8_ofKind_112 : decode cX8_ofKind 112 = .ok (.goto 39, 3) := by decide +kernel
theorem dX8_ofKind_115 : decode cX8_ofKind 115 = .ok (.iload_n 0, 1) := by decide +kernel
theorem dX8_ofKind_116 : decode cX8_ofKind 116 = .ok (.iconst 2, 1) := by decide +kernel
theorem dX8_ofKind_117 : decode cX8_ofKind 117 = .ok (.if_icmp .ne 9, 3) := by decide +kernel
theorem dX8_ofKind_120 : decode cX8_ofKind 120 = .ok (.sipush 490, 3) := by decide +kernel
theorem dX8_ofKind_123 : decode cX8_ofKind 123 = .ok (.goto 28, 3) := by decide +kernel
theorem dX8_ofKind_126 : decode cX8_ofKind 126 = .ok (.iload_n 0, 1) := by decide +kernel
theorem dX8_ofKind_127 : decode cX8_ofKind 127 = .ok (.iconst 3, 1) := by decide +kernel
theorem dX8_ofKind_128 : decode cX8_ofKind 128 = .ok (.if_icmp .ne 9, 3) := by decide +kernel
theorem dX8_ofKind_131 : decode cX8_ofKind 131 = .ok (.sipush 530, 3) := by decide +kernel
theorem dX8_ofKind_134 : decode cX8_ofKind 134 = .ok (.goto 17, 3) := by decide +kernel
theorem dX8_ofKind_137 : decode cX8_ofKind 137 = .ok (.iload_n 0, 1) := by decide +kernel
theorem dX8_ofKind_138 : decode cX8_ofKind 138 = .ok (.iconst 4, 1) := by decide +kernel
theorem dX8_ofKind_139 : decode cX8_ofKind 139 = .ok (.if_icmp .ne 9, 3) := by decide +kernel
theorem dX8_ofKind_142 : decode cX8_ofKind 142 = .ok (.sipush 590, 3) := by decide +kernel
theorem dX8_ofKind_145 : decode cX8_ofKind 145 = .ok (.goto 6, 3) := by decide +kernel
theorem dX8_ofKind_148 : decode cX8_ofKind 148 = .ok (.sipush 800, 3) := by decide +kernel
theorem dX8_ofKind_151 : decode cX8_ofKind 151 = .ok (.istore 4, 2) := by decide +kernel
theorem dX8_ofKind_153 : decode cX8_ofKind 153 = .ok (.iload_n 0, 1) := by decide +kernel
theorem dX8_ofKind_154 : decode cX8_ofKind 154 = .ok (.ifCond .ne 9, 3) := by decide +kernel
theorem dX8_ofKind_157 : decode cX8_ofKind 157 = .ok (.sipush 950, 3) := by decide +kernel
theorem dX8_ofKind_160 : decode cX8_ofKind 160 = .ok (.goto 50, 3) := by decide +kernel
theorem dX8_ofKind_163 : decode cX8_ofKind 163 = .ok (.iload_n 0, 1) := by decide +kernel
theorem dX8_ofKind_164 : decode cX8_ofKind 164 = .ok (.iconst 1, 1) := by decide +kernel
theorem dX8_ofKind_165 : decode cX8_ofKind 165 = .ok (.if_icmp .ne 9, 3) := by decide +kernel
theorem dX8_ofKind_168 : decode cX8_ofKind 168 = .ok (.sipush 970, 3) := by decide +kernel
theorem dX8_ofKind_171 : decode cX8_ofKind 171 = .ok (.goto 39, 3) := by decide +kernel
theorem dX8_ofKind_174 : decode cX8_ofKind 174 = .ok (.iload_n 0, 1) := by decide +kernel
theorem dX8_ofKind_175 : decode cX8_ofKind 175 = .ok (.iconst 2, 1) := by decide +kernel
theorem dX8_ofKind_176 : decode cX8_ofKind 176 = .ok (.if_icmp .ne 9, 3) := by decide +kernel
theorem dX8_ofKind_179 : decode cX8_ofKind 179 = .ok (.sipush 1050, 3) := by decide +kernel
theorem dX8_ofKind_182 : decode cX8_ofKind 182 = .ok (.goto 28, 3) := by decide +kernel
theorem dX8_ofKind_185 : decode cX8_ofKind 185 = .ok (.iload_n 0, 1) := by decide +kernel
theorem dX8_ofKind_186 : decode cX8_ofKind 186 = .ok (.iconst 3, 1) := by decide +kernel
theorem dX8_ofKind_187 : decode cX8_ofKind 187 = .ok (.if_icmp .ne 9, 3) := by decide +kernel
theorem dX8_ofKind_190 : decode cX8_ofKind 190 = .ok (.sipush 1100, 3) := by decide +kernel
theorem dX8_ofKind_193 : decode cX8_ofKind 193 = .ok (.goto 17, 3) := by decide +kernel
theorem dX8_ofKind_196 : decode cX8_ofKind 196 = .ok (.iload_n 0, 1) := by decide +kernel
theorem dX8_ofKind_197 : decode cX8_ofKind 197 = .ok (.iconst 4, 1) := by decide +kernel
theorem dX8_ofKind_198 : decode cX8_ofKind 198 = .ok (.if_icmp .ne 9, 3) := by decide +kernel
theorem dX8_ofKind_201 : decode cX8_ofKind 201 = .ok (.sipush 1150, 3) := by decide +kernel
theorem dX8_ofKind_204 : decode cX8_ofKind 204 = .ok (.goto 6, 3) := by decide +kernel
theorem dX8_ofKind_207 : decode cX8_ofKind 207 = .ok (.sipush 1250, 3) := by decide +kernel
theorem dX8_ofKind_210 : decode cX8_ofKind 210 = .ok (.istore 5, 2) := by decide +kernel
theorem dX8_ofKind_212 : decode cX8_ofKind 212 = .ok (.iload_n 1, 1) := by decide +kernel
theorem dX8_ofKind_213 : decode cX8_ofKind 213 = .ok (.iconst 1, 1) := by decide +kernel
theorem dX8_ofKind_214 : decode cX8_ofKind 214 = .ok (.if_icmp .ne 7, 3) := by decide +kernel
theorem dX8_ofKind_217 : decode cX8_ofKind 217 = .ok (.iload_n 2, 1) := by decide +kernel
theorem dX8_ofKind_218 : decode cX8_ofKind 218 = .ok (.goto 33, 3) := by decide +kernel
theorem dX8_ofKind_221 : decode cX8_ofKind 221 = .ok (.iload_n 1, 1) := by decide +kernel
theorem dX8_ofKind_222 : decode cX8_ofKind 222 = .ok (.iconst 2, 1) := by decide +kernel
theorem dX8_ofKind_223 : decode cX8_ofKind 223 = .ok (.if_icmp .ne 7, 3) := by decide +kernel
theorem dX8_ofKind_226 : decode cX8_ofKind 226 = .ok (.iload_n 3, 1) := by decide +kernel
theorem dX8_ofKind_227 : decode cX8_ofKind 227 = .ok (.goto 24, 3) := by decide +kernel
theorem dX8_ofKind_230 : decode cX8_ofKind 230 = .ok (.iload_n 1, 1) := by decide +kernel
theorem dX8_ofKind_231 : decode cX8_ofKind 231 = .ok (.iconst 3, 1) := by decide +kernel
theorem dX8_ofKind_232 : decode cX8_ofKind 232 = .ok (.if_icmp .ne 8, 3) := by decide +kernel
theorem dX8_ofKind_235 : decode cX8_ofKind 235 = .ok (.iload 4, 2) := by decide +kernel
theorem dX8_ofKind_237 : decode cX8_ofKind 237 = .ok (.goto 14, 3) := by decide +kernel
theorem dX8_ofKind_240 : decode cX8_ofKind 240 = .ok (.iload_n 1, 1) := by decide +kernel
theorem dX8_ofKind_241 : decode cX8_ofKind 241 = .ok (.iconst 4, 1) := by decide +kernel
theorem dX8_ofKind_242 : decode cX8_ofKind 242 = .ok (.if_icmp .ne 8, 3) := by decide +kernel
theorem dX8_ofKind_245 : decode cX8_ofKind 245 = .ok (.iload 5, 2) := by decide +kernel
theorem dX8_ofKind_247 : decode cX8_ofKind 247 = .ok (.goto 4, 3) := by decide +kernel
theorem dX8_ofKind_250 : decode cX8_ofKind 250 = .ok (.iconst 0, 1) := by decide +kernel
theorem dX8_ofKind_251 : decode cX8_ofKind 251 = .ok (.ireturn, 1) := by decide +kernel
theorem dX8_percent_0 : decode cX8_percent 0 = .ok (.iload_n 0, 1) := by decide +kernel
theorem dX8_percent_1 : decode cX8_percent 1 = .ok (.iload_n 1, 1) := by decide +kernel
theorem dX8_percent_2 : decode cX8_percent 2 = .ok (.imul, 1) := by decide +kernel
theorem dX8_percent_3 : decode cX8_percent 3 = .ok (.bipush 50, 2) := by decide +kernel
theorem dX8_percent_5 : decode cX8_percent 5 = .ok (.iadd, 1) := by decide +kernel
theorem dX8_percent_6 : decode cX8_percent 6 = .ok (.bipush 100, 2) := by decide +kernel
theorem dX8_percent_8 : decode cX8_percent 8 = .ok (.idiv, 1) := by decide +kernel
theorem dX8_percent_9 : decode cX8_percent 9 = .ok (.ireturn, 1) := by decide +kernel
theorem dX8_ofJump_0 : decode cX8_ofJump 0 = .ok (.iload_n 2, 1) := by decide +kernel
theorem dX8_ofJump_1 : decode cX8_ofJump 1 = .ok (.iconst 2, 1) := by decide +kernel
theorem dX8_ofJump_2 : decode cX8_ofJump 2 = .ok (.if_icmp .ne 11, 3) := by decide +kernel
theorem dX8_ofJump_5 : decode cX8_ofJump 5 = .ok (.iload_n 0, 1) := by decide +kernel
theorem dX8_ofJump_6 : decode cX8_ofJump 6 = .ok (.iload_n 1, 1) := by decide +kernel
theorem dX8_ofJump_7 : decode cX8_ofJump 7 = .ok (.iconst 1, 1) := by decide +kernel
theorem dX8_ofJump_8 : decode cX8_ofJump 8 = .ok (.isub, 1) := by decide +kernel
theorem dX8_ofJump_9 : decode cX8_ofJump 9 = .ok (.invokestatic 80, 3) := by decide +kernel
theorem dX8_ofJump_12 : decode cX8_ofJump 12 = .ok (.ireturn, 1) := by decide +kernel
theorem dX8_ofJump_13 : decode cX8_ofJump 13 = .ok (.iload_n 2, 1) := by decide +kernel
theorem dX8_ofJump_14 : decode cX8_ofJump 14 = .ok (.ifCond .ne 11, 3) := by decide +kernel
theorem dX8_ofJump_17 : decode cX8_ofJump 17 = .ok (.iload_n 0, 1) := by decide +kernel
theorem dX8_ofJump_18 : decode cX8_ofJump 18 = .ok (.iload_n 1, 1) := by decide +kernel
theorem dX8_ofJump_19 : decode cX8_ofJump 19 = .ok (.invokestatic 80, 3) := by decide +kernel
theorem dX8_ofJump_22 : decode cX8_ofJump 22 = .ok (.goto 13, 3) := by decide +kernel
theorem dX8_ofJump_25 : decode cX8_ofJump 25 = .ok (.iload_n 0, 1) := by decide +kernel
theorem dX8_ofJump_26 : decode cX8_ofJump 26 = .ok (.iload_n 1, 1) := by decide +kernel
theorem dX8_ofJump_27 : decode cX8_ofJump 27 = .ok (.invokestatic 80, 3) := by decide +kernel
theorem dX8_ofJump_30 : decode cX8_ofJump 30 = .ok (.bipush 80, 2) := by decide +kernel
theorem dX8_ofJump_32 : decode cX8_ofJump 32 = .ok (.invokestatic 83, 3) := by decide +kernel
theorem dX8_ofJump_35 : decode cX8_ofJump 35 = .ok (.ireturn, 1) := by decide +kernel
theorem dX8_ofLevel_0 : decode cX8_ofLevel 0 = .ok (.iload_n 0, 1) := by decide +kernel
theorem dX8_ofLevel_1 : decode cX8_ofLevel 1 = .ok (.iconst 1, 1) := by decide +kernel
theorem dX8_ofLevel_2 : decode cX8_ofLevel 2 = .ok (.if_icmp .ne 49, 3) := by decide +kernel
theorem dX8_ofLevel_5 : decode cX8_ofLevel 5 = .ok (.iload_n 1, 1) := by decide +kernel
theorem dX8_ofLevel_6 : decode cX8_ofLevel 6 = .ok (.ifCond .ne 8, 3) := by decide +kernel
theorem dX8_ofLevel_9 : decode cX8_ofLevel 9 = .ok (.bipush 120, 2) := by decide +kernel
theorem dX8_ofLevel_11 : decode cX8_ofLevel 11 = .ok (.goto 39, 3) := by decide +kernel
theorem dX8_ofLevel_14 : decode cX8_ofLevel 14 = .ok (.iload_n 1, 1) := by decide +kernel
theorem dX8_ofLevel_15 : decode cX8_ofLevel 15 = .ok (.iconst 1, 1) := by decide +kernel
theorem dX8_ofLevel_16 : decode cX8_ofLevel 16 = .ok (.if_icmp .ne 9, 3) := by decide +kernel
theorem dX8_ofLevel_19 : decode cX8_ofLevel 19 = .ok (.sipush 150, 3) := by decide +kernel
theorem dX8_ofLevel_22 : decode cX8_ofLevel 22 = .ok (.goto 28, 3) := by decide +kernel
theorem dX8_ofLevel_25 : decode cX8_ofLevel 25 = .ok (.iload_n 1, 1) := by decide +kernel
theorem dX8_ofLevel_26 : decode cX8_ofLevel 26 = .ok (.iconst 2, 1) := by decide +kernel
theorem dX8_ofLevel_27 : decode cX8_ofLevel 27 = .ok (.if_icmp .ne 9, 3) := by decide +kernel
theorem dX8_ofLevel_30 : decode cX8_ofLevel 30 = .ok (.sipush 190, 3) := by decide +kernel
theorem dX8_ofLevel_33 : decode cX8_ofLevel 33 = .ok (.goto 17, 3) := by decide +kernel
theorem dX8_ofLevel_36 : decode cX8_ofLevel 36 = .ok (.iload_n 1, 1) := by decide +kernel
theorem dX8_ofLevel_37 : decode cX8_ofLevel 37 = .ok (.iconst 3, 1) := by decide +kernel
theorem dX8_ofLevel_38 : decode cX8_ofLevel 38 = .ok (.if_icmp .ne 9, 3) := by decide +kernel
theorem dX8_ofLevel_41 : decode cX8_ofLevel 41 = .ok (.sipush 240, 3) := by decide +kernel
theorem dX8_ofLevel_44 : decode cX8_ofLevel 44 = .ok (.goto 6, 3) := by decide +kernel
theorem dX8_ofLevel_47 : decode cX8_ofLevel 47 = .ok (.sipush 300, 3) := by decide +kernel
theorem dX8_ofLevel_50 : decode cX8_ofLevel 50 = .ok (.ireturn, 1) := by decide +kernel
theorem dX8_ofLevel_51 : decode cX8_ofLevel 51 = .ok (.iload_n 1, 1) := by decide +kernel
theorem dX8_ofLevel_52 : decode cX8_ofLevel 52 = .ok (.ifCond .ne 9, 3) := by decide +kernel
theorem dX8_ofLevel_55 : decode cX8_ofLevel 55 = .ok (.sipush 150, 3) := by decide +kernel
theorem dX8_ofLevel_58 : decode cX8_ofLevel 58 = .ok (.goto 39, 3) := by decide +kernel
theorem dX8_ofLevel_61 : decode cX8_ofLevel 61 = .ok (.iload_n 1, 1) := by decide +kernel
theorem dX8_ofLevel_62 : decode cX8_ofLevel 62 = .ok (.iconst 1, 1) := by decide +kernel
theorem dX8_ofLevel_63 : decode cX8_ofLevel 63 = .ok (.if_icmp .ne 9, 3) := by decide +kernel
theorem dX8_ofLevel_66 : decode cX8_ofLevel 66 = .ok (.sipush 180, 3) := by decide +kernel
theorem dX8_ofLevel_69 : decode cX8_ofLevel 69 = .ok (.goto 28, 3) := by decide +kernel
theorem dX8_ofLevel_72 : decode cX8_ofLevel 72 = .ok (.iload_n 1, 1) := by decide +kernel
theorem dX8_ofLevel_73 : decode cX8_ofLevel 73 = .ok (.iconst 2, 1) := by decide +kernel
theorem dX8_ofLevel_74 : decode cX8_ofLevel 74 = .ok (.if_icmp .ne 9, 3) := by decide +kernel
theorem dX8_ofLevel_77 : decode cX8_ofLevel 77 = .ok (.sipush 260, 3) := by decide +kernel
theorem dX8_ofLevel_80 : decode cX8_ofLevel 80 = .ok (.goto 17, 3) := by decide +kernel
theorem dX8_ofLevel_83 : decode cX8_ofLevel 83 = .ok (.iload_n 1, 1) := by decide +kernel
theorem dX8_ofLevel_84 : decode cX8_ofLevel 84 = .ok (.iconst 3, 1) := by decide +kernel
theorem dX8_ofLevel_85 : decode cX8_ofLevel 85 = .ok (.if_icmp .ne 9, 3) := by decide +kernel
theorem dX8_ofLevel_88 : decode cX8_ofLevel 88 = .ok (.sipush 330, 3) := by decide +kernel
theorem dX8_ofLevel_91 : decode cX8_ofLevel 91 = .ok (.goto 6, 3) := by decide +kernel
theorem dX8_ofLevel_94 : decode cX8_ofLevel 94 = .ok (.sipush 390, 3) := by decide +kernel
theorem dX8_ofLevel_97 : decode cX8_ofLevel 97 = .ok (.ireturn, 1) := by decide +kernel
theorem dX8_upTo_0 : decode cX8_upTo 0 = .ok (.iconst 0, 1) := by decide +kernel
theorem dX8_upTo_1 : decode cX8_upTo 1 = .ok (.istore 4, 2) := by decide +kernel
theorem dX8_upTo_3 : decode cX8_upTo 3 = .ok (.iconst 0, 1) := by decide +kernel
theorem dX8_upTo_4 : decode cX8_upTo 4 = .ok (.istore 5, 2) := by decide +kernel
theorem dX8_upTo_6 : decode cX8_upTo 6 = .ok (.iload 5, 2) := by decide +kernel
theorem dX8_upTo_8 : decode cX8_upTo 8 = .ok (.iload_n 2, 1) := by decide +kernel
theorem dX8_upTo_9 : decode cX8_upTo 9 = .ok (.if_icmp .gt 33, 3) := by decide +kernel
theorem dX8_upTo_12 : decode cX8_upTo 12 = .ok (.iload 4, 2) := by decide +kernel
theorem dX8_upTo_14 : decode cX8_upTo 14 = .ok (.aload_n 0, 1) := by decide +kernel
theorem dX8_upTo_15 : decode cX8_upTo 15 = .ok (.iload_n 1, 1) := by decide +kernel
theorem dX8_upTo_16 : decode cX8_upTo 16 = .ok (.iload 5, 2) := by decide +kernel
theorem dX8_upTo_18 : decode cX8_upTo 18 = .ok (.invokestatic 60, 3) := by decide +kernel
theorem dX8_upTo_21 : decode cX8_upTo 21 = .ok (.iconst 0, 1) := by decide +kernel
theorem dX8_upTo_22 : decode cX8_upTo 22 = .ok (.iadd, 1) := by decide +kernel
theorem dX8_upTo_23 : decode cX8_upTo 23 = .ok (.iaload, 1) := by decide +kernel
theorem dX8_upTo_24 : decode cX8_upTo 24 = .ok (.iload_n 3, 1) := by decide +kernel
theorem dX8_upTo_25 : decode cX8_upTo 25 = .ok (.if_icmp .ne 7, 3) := by decide +kernel
theorem dX8_upTo_28 : decode cX8_upTo 28 = .ok (.iconst 1, 1) := by decide +kernel
theorem dX8_upTo_29 : decode cX8_upTo 29 = .ok (.goto 4, 3) := by decide +kernel
theorem dX8_upTo_32 : decode cX8_upTo 32 = .ok (.iconst 0, 1) := by decide +kernel
theorem dX8_upTo_33 : decode cX8_upTo 33 = .ok (.iadd, 1) := by decide +kernel
theorem dX8_upTo_34 : decode cX8_upTo 34 = .ok (.istore 4, 2) := by decide +kernel
theorem dX8_upTo_36 : decode cX8_upTo 36 = .ok (.iinc 5 1, 3) := by decide +kernel
theorem dX8_upTo_39 : decode cX8_upTo 39 = .ok (.goto (-33), 3) := by decide +kernel
theorem dX8_upTo_42 : decode cX8_upTo 42 = .ok (.iload 4, 2) := by decide +kernel
theorem dX8_upTo_44 : decode cX8_upTo 44 = .ok (.ireturn, 1) := by decide +kernel
theorem dX8_isTooMany_0 : decode cX8_isTooMany 0 = .ok (.aload_n 0, 1) := by decide +kernel
theorem dX8_isTooMany_1 : decode cX8_isTooMany 1 = .ok (.iload_n 1, 1) := by decide +kernel
theorem dX8_isTooMany_2 : decode cX8_isTooMany 2 = .ok (.iload_n 2, 1) := by decide +kernel
theorem dX8_isTooMany_3 : decode cX8_isTooMany 3 = .ok (.invokestatic 60, 3) := by decide +kernel
theorem dX8_isTooMany_6 : decode cX8_isTooMany 6 = .ok (.iconst 0, 1) := by decide +kernel
theorem dX8_isTooMany_7 : decode cX8_isTooMany 7 = .ok (.iadd, 1) := by decide +kernel
theorem dX8_isTooMany_8 : decode cX8_isTooMany 8 = .ok (.iaload, 1) := by decide +kernel
theorem dX8_isTooMany_9 : decode cX8_isTooMany 9 = .ok (.istore_n 3, 1) := by decide +kernel
theorem dX8_isTooMany_10 : decode cX8_isTooMany 10 = .ok (.iload_n 3, 1) := by decide +kernel
theorem dX8_isTooMany_11 : decode cX8_isTooMany 11 = .ok (.ifCond .ne 9, 3) := by decide +kernel
theorem dX8_isTooMany_14 : decode cX8_isTooMany 14 = .ok (.aload_n 0, 1) := by decide +kernel
theorem dX8_isTooMany_15 : decode cX8_isTooMany 15 = .ok (.iconst 3, 1) := by decide +kernel
theorem dX8_isTooMany_16 : decode cX8_isTooMany 16 = .ok (.iaload, 1) := by decide +kernel
theorem dX8_isTooMany_17 : decode cX8_isTooMany 17 = .ok (.goto 15, 3) := by decide +kernel
theorem dX8_isTooMany_20 : decode cX8_isTooMany 20 = .ok (.iload_n 3, 1) := by decide +kernel
theorem dX8_isTooMany_21 : decode cX8_isTooMany 21 = .ok (.iconst 1, 1) := by decide +kernel
theorem dX8_isTooMany_22 : decode cX8_isTooMany 22 = .ok (.if_icmp .ne 9, 3) := by decide +kernel
theorem dX8_isTooMany_25 : decode cX8_isTooMany 25 = .ok (.aload_n 0, 1) := by decide +kernel
theorem dX8_isTooMany_26 : decode cX8_isTooMany 26 = .ok (.iconst 4, 1) := by decide +kernel
theorem dX8_isTooMany_27 : decode cX8_isTooMany 27 = .ok (.iaload, 1) := by decide +kernel
theorem dX8_isTooMany_28 : decode cX8_isTooMany 28 = .ok (.goto 4, 3) := by decide +kernel
theorem dX8_isTooMany_31 : decode cX8_isTooMany 31 = .ok (.iconst 1, 1) := by decide +kernel
theorem dX8_isTooMany_32 : decode cX8_isTooMany 32 = .ok (.istore 4, 2) := by decide +kernel
theorem dX8_isTooMany_34 : decode cX8_isTooMany 34 = .ok (.aload_n 0, 1) := by decide +kernel
theorem dX8_isTooMany_35 : decode cX8_isTooMany 35 = .ok (.iload_n 1, 1) := by decide +kernel
theorem dX8_isTooMany_36 : decode cX8_isTooMany 36 = .ok (.iload_n 2, 1) := by decide +kernel
theorem dX8_isTooMany_37 : decode cX8_isTooMany 37 = .ok (.iload_n 3, 1) := by decide +kernel
theorem dX8_isTooMany_38 : decode cX8_isTooMany 38 = .ok (.invokestatic 86, 3) := by decide +kernel
theorem dX8_isTooMany_41 : decode cX8_isTooMany 41 = .ok (.iload 4, 2) := by decide +kernel
theorem dX8_isTooMany_43 : decode cX8_isTooMany 43 = .ok (.if_icmp .le 7, 3) := by decide +kernel
theorem dX8_isTooMany_46 : decode cX8_isTooMany 46 = .ok (.iconst 1, 1) := by decide +kernel
theorem dX8_isTooMany_47 : decode cX8_isTooMany 47 = .ok (.goto 4, 3) := by decide +kernel
theorem dX8_isTooMany_50 : decode cX8_isTooMany 50 = .ok (.iconst 0, 1) := by decide +kernel
theorem dX8_isTooMany_51 : decode cX8_isTooMany 51 = .ok (.ireturn, 1) := by decide +kernel
theorem dX8_isChain_0 : decode cX8_isChain 0 = .ok (.aload_n 0, 1) := by decide +kernel
theorem dX8_isChain_1 : decode cX8_isChain 1 = .ok (.iload_n 1, 1) := by decide +kernel
theorem dX8_isChain_2 : decode cX8_isChain 2 = .ok (.iload_n 2, 1) := by decide +kernel
theorem dX8_isChain_3 : decode cX8_isChain 3 = .ok (.invokestatic 60, 3) := by decide +kernel
theorem dX8_isChain_6 : decode cX8_isChain 6 = .ok (.iconst 1, 1) := by decide +kernel
theorem dX8_isChain_7 : decode cX8_isChain 7 = .ok (.iadd, 1) := by decide +kernel
theorem dX8_isChain_8 : decode cX8_isChain 8 = .ok (.iaload, 1) := by decide +kernel
theorem dX8_isChain_9 : decode cX8_isChain 9 = .ok (.iconst 1, 1) := by decide +kernel
theorem dX8_isChain_10 : decode cX8_isChain 10 = .ok (.if_icmp .le 7, 3) := by decide +kernel
theorem dX8_isChain_13 : decode cX8_isChain 13 = .ok (.iconst 1, 1) := by decide +kernel
theorem dX8_isChain_14 : decode cX8_isChain 14 = .ok (.goto 4, 3) := by decide +kernel
theorem dX8_isChain_17 : decode cX8_isChain 17 = .ok (.iconst 0, 1) := by decide +kernel
theorem dX8_isChain_18 : decode cX8_isChain 18 = .ok (.ireturn, 1) := by decide +kernel
theorem dX8_isChainTooMany_0 : decode cX8_isChainTooMany 0 = .ok (.iconst 0, 1) := by decide +kernel
theorem dX8_isChainTooMany_1 : decode cX8_isChainTooMany 1 = .ok (.istore_n 3, 1) := by decide +kernel
theorem dX8_isChainTooMany_2 : decode cX8_isChainTooMany 2 = .ok (.iconst 0, 1) := by decide +kernel
theorem dX8_isChainTooMany_3 : decode cX8_isChainTooMany 3 = .ok (.istore 4, 2) := by decide +kernel
theorem dX8_isChainTooMany_5 : decode cX8_isChainTooMany 5 = .ok (.iload 4, 2) := by decide +kernel
theorem dX8_isChainTooMany_7 : decode cX8_isChainTooMany 7 = .ok (.iload_n 2, 1) := by decide +kernel
theorem dX8_isChainTooMany_8 : decode cX8_isChainTooMany 8 = .ok (.if_icmp .gt 37, 3) := by decide +kernel
theorem dX8_isChainTooMany_11 : decode cX8_isChainTooMany 11 = .ok (.iload_n 3, 1) := by decide +kernel
theorem dX8_isChainTooMany_12 : decode cX8_isChainTooMany 12 = .ok (.aload_n 0, 1) := by decide +kernel
theorem dX8_isChainTooMany_13 : decode cX8_isChainTooMany 13 = .ok (.iload_n 1, 1) := by decide +kernel
theorem dX8_isChainTooMany_14 : decode cX8_isChainTooMany 14 = .ok (.iload 4, 2) := by decide +kernel
theorem dX8_isChainTooMany_16 : decode cX8_isChainTooMany 16 = .ok (.invokestatic 90, 3) := by decide +kernel
theorem dX8_isChainTooMany_19 : decode cX8_isChainTooMany 19 = .ok (.ifCond .eq 17, 3) := by decide +kernel
theorem dX8_isChainTooMany_22 : decode cX8_isChainTooMany 22 = .ok (.aload_n 0, 1) := by decide +kernel
theorem dX8_isChainTooMany_23 : decode cX8_isChainTooMany 23 = .ok (.iload_n 1, 1) := by decide +kernel
theorem dX8_isChainTooMany_24 : decode cX8_isChainTooMany 24 = .ok (.iload 4, 2) := by decide +kernel
theorem dX8_isChainTooMany_26 : decode cX8_isChainTooMany 26 = .ok (.invokestatic 93, 3) := by decide +kernel
theorem dX8_isChainTooMany_29 : decode cX8_isChainTooMany 29 = .ok (.ifCond .ne 7, 3) := by decide +kernel
theorem dX8_isChainTooMany_32 : decode cX8_isChainTooMany 32 = .ok (.iconst 1, 1) := by decide +kernel
theorem dX8_isChainTooMany_33 : decode cX8_isChainTooMany 33 = .ok (.goto 4, 3) := by decide +kernel
theorem dX8_isChainTooMany_36 : decode cX8_isChainTooMany 36 = .ok (.iconst 0, 1) := by decide +kernel
theorem dX8_isChainTooMany_37 : decode cX8_isChainTooMany 37 = .ok (.iadd, 1) := by decide +kernel
theorem dX8_isChainTooMany_38 : decode cX8_isChainTooMany 38 = .ok (.istore_n 3, 1) := by decide +kernel
theorem dX8_isChainTooMany_39 : decode cX8_isChainTooMany 39 = .ok (.iinc 4 1, 3) := by decide +kernel
theorem dX8_isChainTooMany_42 : decode cX8_isChainTooMany 42 = .ok (.goto (-37), 3) := by decide +kernel
theorem dX8_isChainTooMany_45 : decode cX8_isChainTooMany 45 = .ok (.aload_n 0, 1) := by decide +kernel
theorem dX8_isChainTooMany_46 : decode cX8_isChainTooMany 46 = .ok (.iload_n 1, 1) := by decide +kernel
theorem dX8_isChainTooMany_47 : decode cX8_isChainTooMany 47 = .ok (.iload_n 2, 1) := by decide +kernel
theorem dX8_isChainTooMany_48 : decode cX8_isChainTooMany 48 = .ok (.invokestatic 90, 3) := by decide +kernel
theorem dX8_isChainTooMany_51 : decode cX8_isChainTooMany 51 = .ok (.ifCond .eq 14, 3) := by decide +kernel
theorem dX8_isChainTooMany_54 : decode cX8_isChainTooMany 54 = .ok (.iload_n 3, 1) := by decide +kernel
theorem dX8_isChainTooMany_55 : decode cX8_isChainTooMany 55 = .ok (.aload_n 0, 1) := by decide +kernel
theorem dX8_isChainTooMany_56 : decode cX8_isChainTooMany 56 = .ok (.iconst 2, 1) := by decide +kernel
theorem dX8_isChainTooMany_57 : decode cX8_isChainTooMany 57 = .ok (.iaload, 1) := by decide +kernel
theorem dX8_isChainTooMany_58 : decode cX8_isChainTooMany 58 = .ok (.if_icmp .le 7, 3) := by decide +kernel
theorem dX8_isChainTooMany_61 : decode cX8_isChainTooMany 61 = .ok (.iconst 1, 1) := by decide +kernel
theorem dX8_isChainTooMany_62 : decode cX8_isChainTooMany 62 = .ok (.goto 4, 3) := by decide +kernel
theorem dX8_isChainTooMany_65 : decode cX8_isChainTooMany 65 = .ok (.iconst 0, 1) := by decide +kernel
theorem dX8_isChainTooMany_66 : decode cX8_isChainTooMany 66 = .ok (.ireturn, 1) := by decide +kernel
theorem dX8_wasLong_0 : decode cX8_wasLong 0 = .ok (.iconst 0, 1) := by decide +kernel
theorem dX8_wasLong_1 : decode cX8_wasLong 1 = .ok (.istore_n 3, 1) := by decide +kernel
theorem dX8_wasLong_2 : decode cX8_wasLong 2 = .ok (.iload_n 3, 1) := by decide +kernel
theorem dX8_wasLong_3 : decode cX8_wasLong 3 = .ok (.iload_n 2, 1) := by decide +kernel
theorem dX8_wasLong_4 : decode cX8_wasLong 4 = .ok (.if_icmp .ge 42, 3) := by decide +kernel
theorem dX8_wasLong_7 : decode cX8_wasLong 7 = .ok (.aload_n 0, 1) := by decide +kernel
theorem dX8_wasLong_8 : decode cX8_wasLong 8 = .ok (.iload_n 1, 1) := by decide +kernel
theorem dX8_wasLong_9 : decode cX8_wasLong 9 = .ok (.iload_n 3, 1) := by decide +kernel
theorem dX8_wasLong_10 : decode cX8_wasLong 10 = .ok (.invokestatic 60, 3) := by decide +kernel
theorem dX8_wasLong_13 : decode cX8_wasLong 13 = .ok (.iconst 1, 1) := by decide +kernel
theorem dX8_wasLong_14 : decode cX8_wasLong 14 = .ok (.iadd, 1) := by decide +kernel
theorem dX8_wasLong_15 : decode cX8_wasLong 15 = .ok (.iaload, 1) := by decide +kernel
theorem dX8_wasLong_16 : decode cX8_wasLong 16 = .ok (.iconst 3, 1) := by decide +kernel
theorem dX8_wasLong_17 : decode cX8_wasLong 17 = .ok (.if_icmp .ne 23, 3) := by decide +kernel
theorem dX8_wasLong_20 : decode cX8_wasLong 20 = .ok (.aload_n 0, 1) := by decide +kernel
theorem dX8_wasLong_21 : decode cX8_wasLong 21 = .ok (.iload_n 1, 1) := by decide +kernel
theorem dX8_wasLong_22 : decode cX8_wasLong 22 = .ok (.iload_n 3, 1) := by decide +kernel
theorem dX8_wasLong_23 : decode cX8_wasLong 23 = .ok (.invokestatic 93, 3) := by decide +kernel
theorem dX8_wasLong_26 : decode cX8_wasLong 26 = .ok (.ifCond .ne 14, 3) := by decide +kernel
theorem dX8_wasLong_29 : decode cX8_wasLong 29 = .ok (.aload_n 0, 1) := by decide +kernel
theorem dX8_wasLong_30 : decode cX8_wasLong 30 = .ok (.iload_n 1, 1) := by decide +kernel
theorem dX8_wasLong_31 : decode cX8_wasLong 31 = .ok (.iload_n 3, 1) := by decide +kernel
theorem dX8_wasLong_32 : decode cX8_wasLong 32 = .ok (.invokestatic 96, 3) := by decide +kernel
theorem dX8_wasLong_35 : decode cX8_wasLong 35 = .ok (.ifCond .ne 5, 3) := by decide +kernel
theorem dX8_wasLong_38 : decode cX8_wasLong 38 = .ok (.iconst 1, 1) := by decide +kernel
theorem dX8_wasLong_39 : decode cX8_wasLong 39 = .ok (.ireturn, 1) := by decide +kernel
theorem dX8_wasLong_40 : decode cX8_wasLong 40 = .ok (.iinc 3 1, 3) := by decide +kernel
theorem dX8_wasLong_43 : decode cX8_wasLong 43 = .ok (.goto (-41), 3) := by decide +kernel
theorem dX8_wasLong_46 : decode cX8_wasLong 46 = .ok (.iconst 0, 1) := by decide +kernel
theorem dX8_wasLong_47 : decode cX8_wasLong 47 = .ok (.ireturn, 1) := by decide +kernel
theorem dX8_byPlace_0 : decode cX8_byPlace 0 = .ok (.aload_n 0, 1) := by decide +kernel
theorem dX8_byPlace_1 : decode cX8_byPlace 1 = .ok (.iload_n 1, 1) := by decide +kernel
theorem dX8_byPlace_2 : decode cX8_byPlace 2 = .ok (.iload_n 2, 1) := by decide +kernel
theorem dX8_byPlace_3 : decode cX8_byPlace 3 = .ok (.invokestatic 93, 3) := by decide +kernel
theorem dX8_byPlace_6 : decode cX8_byPlace 6 = .ok (.ifCond .eq 5, 3) := by decide +kernel
theorem dX8_byPlace_9 : decode cX8_byPlace 9 = .ok (.iconst 5, 1) := by decide +kernel
theorem dX8_byPlace_10 : decode cX8_byPlace 10 = .ok (.ireturn, 1) := by decide +kernel
theorem dX8_byPlace_11 : decode cX8_byPlace 11 = .ok (.iload_n 3, 1) := by decide +kernel
theorem dX8_byPlace_12 : decode cX8_byPlace 12 = .ok (.ifCond .le 14, 3) := by decide +kernel
theorem dX8_byPlace_15 : decode cX8_byPlace 15 = .ok (.aload_n 0, 1) := by decide +kernel
theorem dX8_byPlace_16 : decode cX8_byPlace 16 = .ok (.iload_n 1, 1) := by decide +kernel
theorem dX8_byPlace_17 : decode cX8_byPlace 17 = .ok (.iload_n 2, 1) := by decide +kernel
theorem dX8_byPlace_18 : decode cX8_byPlace 18 = .ok (.invokestatic 96, 3) := by decide +kernel
theorem dX8_byPlace_21 : decode cX8_byPlace 21 = .ok (.ifCond .eq 5, 3) := by decide +kernel
theorem dX8_byPlace_24 : decode cX8_byPlace 24 = .ok (.iconst 3, 1) := by decide +kernel
theorem dX8_byPlace_25 : decode cX8_byPlace 25 = .ok (.ireturn, 1) := by decide +kernel
theorem dX8_byPlace_26 : decode cX8_byPlace 26 = .ok (.iload_n 3, 1) := by decide +kernel
theorem dX8_byPlace_27 : decode cX8_byPlace 27 = .ok (.iconst 2, 1) := by decide +kernel
theorem dX8_byPlace_28 : decode cX8_byPlace 28 = .ok (.if_icmp .ne 16, 3) := by decide +kernel
theorem dX8_byPlace_31 : decode cX8_byPlace 31 = .ok (.aload_n 0, 1) := by decide +kernel
theorem dX8_byPlace_32 : decode cX8_byPlace 32 = .ok (.iload_n 1, 1) := by decide +kernel
theorem dX8_byPlace_33 : decode cX8_byPlace 33 = .ok (.iload_n 2, 1) := by decide +kernel
theorem dX8_byPlace_34 : decode cX8_byPlace 34 = .ok (.invokestatic 99, 3) := by decide +kernel
theorem dX8_byPlace_37 : decode cX8_byPlace 37 = .ok (.ifCond .eq 7, 3) := by decide +kernel
theorem dX8_byPlace_40 : decode cX8_byPlace 40 = .ok (.iconst 4, 1) := by decide +kernel
theorem dX8_byPlace_41 : decode cX8_byPlace 41 = .ok (.goto 4, 3) := by decide +kernel
theorem dX8_byPlace_44 : decode cX8_byPlace 44 = .ok (.iconst 0, 1) := by decide +kernel
theorem dX8_byPlace_45 : decode cX8_byPlace 45 = .ok (.ireturn, 1) := by decide +kernel
theorem dX8_isAlike_0 : decode cX8_isAlike 0 = .ok (.aload_n 0, 1) := by decide +kernel
theorem dX8_isAlike_1 : decode cX8_isAlike 1 = .ok (.iload_n 1, 1) := by decide +kernel
theorem dX8_isAlike_2 : decode cX8_isAlike 2 = .ok (.iload 4, 2) := by decide +kernel
theorem dX8_isAlike_4 : decode cX8_isAlike 4 = .ok (.invokestatic 60, 3) := by decide +kernel
theorem dX8_isAlike_7 : decode cX8_isAlike 7 = .ok (.iconst 0, 1) := by decide +kernel
theorem dX8_isAlike_8 : decode cX8_isAlike 8 = .ok (.iadd, 1) := by decide +kernel
theorem dX8_isAlike_9 : decode cX8_isAlike 9 = .ok (.iaload, 1) := by decide +kernel
theorem dX8_isAlike_10 : decode cX8_isAlike 10 = .ok (.ifCond .ne 65, 3) := by decide +kernel
theorem dX8_isAlike_13 : decode cX8_isAlike 13 = .ok (.aload_n 0, 1) := by decide +kernel
theorem dX8_isAlike_14 : decode cX8_isAlike 14 = .ok (.iload_n 1, 1) := by decide +kernel
theorem dX8_isAlike_15 : decode cX8_isAlike 15 = .ok (.iload 4, 2) := by decide +kernel
theorem dX8_isAlike_17 : decode cX8_isAlike 17 = .ok (.iload 5, 2) := by decide +kernel
theorem dX8_isAlike_19 : decode cX8_isAlike 19 = .ok (.invokestatic 102, 3) := by decide +kernel
theorem dX8_isAlike_22 : decode cX8_isAlike 22 = .ok (.iaload, 1) := by decide +kernel
theorem dX8_isAlike_23 : decode cX8_isAlike 23 = .ok (.aload_n 0, 1) := by decide +kernel
theorem dX8_isAlike_24 : decode cX8_isAlike 24 = .ok (.iload_n 1, 1) := by decide +kernel
theorem dX8_isAlike_25 : decode cX8_isAlike 25 = .ok (.iload_n 2, 1) := by decide +kernel
theorem dX8_isAlike_26 : decode cX8_isAlike 26 = .ok (.iload_n 3, 1) := by decide +kernel
theorem dX8_isAlike_27 : decode cX8_isAlike 27 = .ok (.invokestatic 102, 3) := by decide +kernel
theorem dX8_isAlike_30 : decode cX8_isAlike 30 = .ok (.iaload, 1) := by decide +kernel
theorem dX8_isAlike_31 : decode cX8_isAlike 31 = .ok (.if_icmp .ne 44, 3) := by decide +kernel
theorem dX8_isAlike_34 : decode cX8_isAlike 34 = .ok (.aload_n 0, 1) := by decide +kernel
theorem dX8_isAlike_35 : decode cX8_isAlike 35 = .ok (.iload_n 1, 1) := by decide +kernel
theorem dX8_isAlike_36 : decode cX8_isAlike 36 = .ok (.iload 4, 2) := by decide +kernel
theorem dX8_isAlike_38 : decode cX8_isAlike 38 = .ok (.iload 5, 2) := by decide +kernel
theorem dX8_isAlike_40 : decode cX8_isAlike 40 = .ok (.invokestatic 102, 3) := by decide +kernel
theorem dX8_isAlike_43 : decode cX8_isAlike 43 = .ok (.iconst 1, 1) := by decide +kernel
theorem dX8_isAlike_44 : decode cX8_isAlike 44 = .ok (.iadd, 1) := by decide +kernel
theorem dX8_isAlike_45 : decode cX8_isAlike 45 = .ok (.iaload, 1) := by decide +kernel
theorem dX8_isAlike_46 : decode cX8_isAlike 46 = .ok (.aload_n 0, 1) := by decide +kernel
theorem dX8_isAlike_47 : decode cX8_isAlike 47 = .ok (.iload_n 1, 1) := by decide +kernel
theorem dX8_isAlike_48 : decode cX8_isAlike 48 = .ok (.iload_n 2, 1) := by decide +kernel
theorem dX8_isAlike_49 : decode cX8_isAlike 49 = .ok (.iload_n 3, 1) := by decide +kernel
theorem dX8_isAlike_50 : decode cX8_isAlike 50 = .ok (.invokestatic 102, 3) := by decide +kernel
theorem dX8_isAlike_53 : decode cX8_isAlike 53 = .ok (.iconst 1, 1) := by decide +kernel
theorem dX8_isAlike_54 : decode cX8_isAlike 54 = .ok (.iadd, 1) := by decide +kernel
theorem dX8_isAlike_55 : decode cX8_isAlike 55 = .ok (.iaload, 1) := by decide +kernel
theorem dX8_isAlike_56 : decode cX8_isAlike 56 = .ok (.if_icmp .ne 19, 3) := by decide +kernel
theorem dX8_isAlike_59 : decode cX8_isAlike 59 = .ok (.aload_n 0, 1) := by decide +kernel
theorem dX8_isAlike_60 : decode cX8_isAlike 60 = .ok (.iload_n 1, 1) := by decide +kernel
theorem dX8_isAlike_61 : decode cX8_isAlike 61 = .ok (.iload 4, 2) := by decide +kernel
theorem dX8_isAlike_63 : decode cX8_isAlike 63 = .ok (.iload 5, 2) := by decide +kernel
theorem dX8_isAlike_65 : decode cX8_isAlike 65 = .ok (.invokestatic 106, 3) := by decide +kernel
theorem dX8_isAlike_68 : decode cX8_isAlike 68 = .ok (.ifCond .ne 7, 3) := by decide +kernel
theorem dX8_isAlike_71 : decode cX8_isAlike 71 = .ok (.iconst 1, 1) := by decide +kernel
theorem dX8_isAlike_72 : decode cX8_isAlike 72 = .ok (.goto 4, 3) := by decide +kernel
theorem dX8_isAlike_75 : decode cX8_isAlike 75 = .ok (.iconst 0, 1) := by decide +kernel
theorem dX8_isAlike_76 : decode cX8_isAlike 76 = .ok (.ireturn, 1) := by decide +kernel
theorem dX8_byRepeat_0 : decode cX8_byRepeat 0 = .ok (.aload_n 0, 1) := by decide +kernel
theorem dX8_byRepeat_1 : decode cX8_byRepeat 1 = .ok (.iload_n 1, 1) := by decide +kernel
theorem dX8_byRepeat_2 : decode cX8_byRepeat 2 = .ok (.iload_n 2, 1) := by decide +kernel
theorem dX8_byRepeat_3 : decode cX8_byRepeat 3 = .ok (.invokestatic 60, 3) := by decide +kernel
theorem dX8_byRepeat_6 : decode cX8_byRepeat 6 = .ok (.iconst 0, 1) := by decide +kernel
theorem dX8_byRepeat_7 : decode cX8_byRepeat 7 = .ok (.iadd, 1) := by decide +kernel
theorem dX8_byRepeat_8 : decode cX8_byRepeat 8 = .ok (.iaload, 1) := by decide +kernel
theorem dX8_byRepeat_9 : decode cX8_byRepeat 9 = .ok (.ifCond .ne 17, 3) := by decide +kernel
theorem dX8_byRepeat_12 : decode cX8_byRepeat 12 = .ok (.aload_n 0, 1) := by decide +kernel
theorem dX8_byRepeat_13 : decode cX8_byRepeat 13 = .ok (.iload_n 1, 1) := by decide +kernel
theorem dX8_byRepeat_14 : decode cX8_byRepeat 14 = .ok (.iload_n 2, 1) := by decide +kernel
theorem dX8_byRepeat_15 : decode cX8_byRepeat 15 = .ok (.iload_n 3, 1) := by decide +kernel
theorem dX8_byRepeat_16 : decode cX8_byRepeat 16 = .ok (.invokestatic 102, 3) := by decide +kernel
theorem dX8_byRepeat_19 : decode cX8_byRepeat 19 = .ok (.iconst 1, 1) := by decide +kernel
theorem dX8_byRepeat_20 : decode cX8_byRepeat 20 = .ok (.iadd, 1) := by decide +kernel
theorem dX8_byRepeat_21 : decode cX8_byRepeat 21 = .ok (.iaload, 1) := by decide +kernel
theorem dX8_byRepeat_22 : decode cX8_byRepeat 22 = .ok (.iconst 3, 1) := by decide +kernel
theorem dX8_byRepeat_23 : decode cX8_byRepeat 23 = .ok (.if_icmp .ge 5, 3) := by decide +kernel
theorem dX8_byRepeat_26 : decode cX8_byRepeat 26 = .ok (.iconst 0, 1) := by decide +kernel
theorem dX8_byRepeat_27 : decode cX8_byRepeat 27 = .ok (.ireturn, 1) := by decide +kernel
theorem dX8_byRepeat_28 : decode cX8_byRepeat 28 = .ok (.iconst 0, 1) := by decide +kernel
theorem dX8_byRepeat_29 : decode cX8_byRepeat 29 = .ok (.istore 4, 2) := by decide +kernel
theorem dX8_byRepeat_31 : decode cX8_byRepeat 31 = .ok (.aload_n 0, 1) := by decide +kernel
theorem dX8_byRepeat_32 : decode cX8_byRepeat 32 = .ok (.iload_n 1, 1) := by decide +kernel
theorem dX8_byRepeat_33 : decode cX8_byRepeat 33 = .ok (.iload_n 2, 1) := by decide +kernel
theorem dX8_byRepeat_34 : decode cX8_byRepeat 34 = .ok (.invokestatic 60, 3) := by decide +kernel
theorem dX8_byRepeat_37 : decode cX8_byRepeat 37 = .ok (.iconst 1, 1) := by decide +kernel
theorem dX8_byRepeat_38 : decode cX8_byRepeat 38 = .ok (.iadd, 1) := by decide +kernel
theorem dX8_byRepeat_39 : decode cX8_byRepeat 39 = .ok (.iaload, 1) := by decide +kernel
theorem dX8_byRepeat_40 : decode cX8_byRepeat 40 = .ok (.iconst 1, 1) := by decide +kernel
theorem dX8_byRepeat_41 : decode cX8_byRepeat 41 = .ok (.if_icmp .ne 7, 3) := by decide +kernel
theorem dX8_byRepeat_44 : decode cX8_byRepeat 44 = .ok (.iconst 1, 1) := by decide +kernel
theorem dX8_byRepeat_45 : decode cX8_byRepeat 45 = .ok (.goto 4, 3) := by decide +kernel
theorem dX8_byRepeat_48 : decode cX8_byRepeat 48 = .ok (.iconst 0, 1) := by decide +kernel
theorem dX8_byRepeat_49 : decode cX8_byRepeat 49 = .ok (.istore 5, 2) := by decide +kernel
theorem dX8_byRepeat_51 : decode cX8_byRepeat 51 = .ok (.iconst 0, 1) := by decide +kernel
theorem dX8_byRepeat_52 : decode cX8_byRepeat 52 = .ok (.istore 6, 2) := by decide +kernel
theorem dX8_byRepeat_54 : decode cX8_byRepeat 54 = .ok (.iload 6, 2) := by decide +kernel
theorem dX8_byRepeat_56 : decode cX8_byRepeat 56 = .ok (.iload_n 2, 1) := by decide +kernel
theorem dX8_byRepeat_57 : decode cX8_byRepeat 57 = .ok (.if_icmp .gt 88, 3) := by decide +kernel
theorem dX8_byRepeat_60 : decode cX8_byRepeat 60 = .ok (.iconst 0, 1) := by decide +kernel
theorem dX8_byRepeat_61 : decode cX8_byRepeat 61 = .ok (.istore 7, 2) := by decide +kernel
theorem dX8_byRepeat_63 : decode cX8_byRepeat 63 = .ok (.iload 7, 2) := by decide +kernel
theorem dX8_byRepeat_65 : decode cX8_byRepeat 65 = .ok (.aload_n 0, 1) := by decide +kernel
theorem dX8_byRepeat_66 : decode cX8_byRepeat 66 = .ok (.iload_n 1, 1) := by decide +kernel
theorem dX8_byRepeat_67 : decode cX8_byRepeat 67 = .ok (.iload 6, 2) := by decide +kernel
theorem dX8_byRepeat_69 : decode cX8_byRepeat 69 = .ok (.invokestatic 60, 3) := by decide +kernel
theorem dX8_byRepeat_72 : decode cX8_byRepeat 72 = .ok (.iconst 1, 1) := by decide +kernel
theorem dX8_byRepeat_73 : decode cX8_byRepeat 73 = .ok (.iadd, 1) := by decide +kernel
theorem dX8_byRepeat_74 : decode cX8_byRepeat 74 = .ok (.iaload, 1) := by decide +kernel
theorem dX8_byRepeat_75 : decode cX8_byRepeat 75 = .ok (.if_icmp .ge 64, 3) := by decide +kernel
theorem dX8_byRepeat_78 : decode cX8_byRepeat 78 = .ok (.iload 6, 2) := by decide +kernel
theorem dX8_byRepeat_80 : decode cX8_byRepeat 80 = .ok (.iload_n 2, 1) := by decide +kernel
theorem dX8_byRepeat_81 : decode cX8_byRepeat 81 = .ok (.if_icmp .lt 9, 3) := by decide +kernel
theorem dX8_byRepeat_84 : decode cX8_byRepeat 84 = .ok (.iload 7, 2) := by decide +kernel
theorem dX8_byRepeat_86 : decode cX8_byRepeat 86 = .ok (.iload_n 3, 1) := by decide +kernel
theorem dX8_byRepeat_87 : decode cX8_byRepeat 87 = .ok (.if_icmp .ge 46, 3) := by decide +kernel
theorem dX8_byRepeat_90 : decode cX8_byRepeat 90 = .ok (.aload_n 0, 1) := by decide +kernel
theorem dX8_byRepeat_91 : decode cX8_byRepeat 91 = .ok (.iload_n 1, 1) := by decide +kernel
theorem dX8_byRepeat_92 : decode cX8_byRepeat 92 = .ok (.iload_n 2, 1) := by decide +kernel
theorem dX8_byRepeat_93 : decode cX8_byRepeat 93 = .ok (.iload_n 3, 1) := by decide +kernel
theorem dX8_byRepeat_94 : decode cX8_byRepeat 94 = .ok (.iload 6, 2) := by decide +kernel
theorem dX8_byRepeat_96 : decode cX8_byRepeat 96 = .ok (.iload 7, 2) := by decide +kernel
theorem dX8_byRepeat_98 : decode cX8_byRepeat 98 = .ok (.invokestatic 109, 3) := by decide +kernel
theorem dX8_byRepeat_101 : decode cX8_byRepeat 101 = .ok (.ifCond .eq 32, 3) := by decide +kernel
theorem dX8_byRepeat_104 : decode cX8_byRepeat 104 = .ok (.iinc 4 1, 3) := by decide +kernel
theorem dX8_byRepeat_107 : decode cX8_byRepeat 107 = .ok (.iload 5, 2) := by decide +kernel
theorem dX8_byRepeat_109 : decode cX8_byRepeat 109 = .ok (.ifCond .eq 21, 3) := by decide +kernel
theorem dX8_byRepeat_112 : decode cX8_byRepeat 112 = .ok (.aload_n 0, 1) := by decide +kernel
theorem dX8_byRepeat_113 : decode cX8_byRepeat 113 = .ok (.iload_n 1, 1) := by decide +kernel
theorem dX8_byRepeat_114 : decode cX8_byRepeat 114 = .ok (.iload 6, 2) := by decide +kernel
theorem dX8_byRepeat_116 : decode cX8_byRepeat 116 = .ok (.invokestatic 60, 3) := by decide +kernel
theorem dX8_byRepeat_119 : decode cX8_byRepeat 119 = .ok (.iconst 1, 1) := by decide +kernel
theorem dX8_byRepeat_120 : decode cX8_byRepeat 120 = .ok (.iadd, 1) := by decide +kernel
theorem dX8_byRepeat_121 : decode cX8_byRepeat 121 = .ok (.iaload, 1) := by decide +kernel
theorem dX8_byRepeat_122 : decode cX8_byRepeat 122 = .ok (.iconst 1, 1) := by decide +kernel
theorem dX8_byRepeat_123 : decode cX8_byRepeat 123 = .ok (.if_icmp .ne 7, 3) := by decide +kernel
theorem dX8_byRepeat_126 : decode cX8_byRepeat 126 = .ok (.iconst 1, 1) := by decide +kernel
theorem dX8_byRepeat_127 : decode cX8_byRepeat 127 = .ok (.goto 4, 3) := by decide +kernel
theorem dX8_byRepeat_130 : decode cX8_byRepeat 130 = .ok (.iconst 0, 1) := by decide +kernel
theorem dX8_byRepeat_131 : decode cX8_byRepeat 131 = .ok (.istore 5, 2) := by decide +kernel
theorem dX8_byRepeat_133 : decode cX8_byRepeat 133 = .ok (.iinc 7 1, 3) := by decide +kernel
theorem dX8_byRepeat_136 : decode cX8_byRepeat 136 = .ok (.goto (-73), 3) := by decide +kernel
theorem dX8_byRepeat_139 : decode cX8_byRepeat 139 = .ok (.iinc 6 1, 3) := by decide +kernel
theorem dX8_byRepeat_142 : decode cX8_byRepeat 142 = .ok (.goto (-88), 3) := by decide +kernel
theorem dX8_byRepeat_145 : decode cX8_byRepeat 145 = .ok (.iload 4, 2) := by decide +kernel
theorem dX8_byRepeat_147 : decode cX8_byRepeat 147 = .ok (.iconst 1, 1) := by decide +kernel
theorem dX8_byRepeat_148 : decode cX8_byRepeat 148 = .ok (.if_icmp .le 7, 3) := by decide +kernel
theorem dX8_byRepeat_151 : decode cX8_byRepeat 151 = .ok (.iconst 2, 1) := by decide +kernel
theorem dX8_byRepeat_152 : decode cX8_byRepeat 152 = .ok (.goto 19, 3) := by decide +kernel
theorem dX8_byRepeat_155 : decode cX8_byRepeat 155 = .ok (.iload 4, 2) := by decide +kernel
theorem dX8_byRepeat_157 : decode cX8_byRepeat 157 = .ok (.iconst 1, 1) := by decide +kernel
theorem dX8_byRepeat_158 : decode cX8_byRepeat 158 = .ok (.if_icmp .ne 12, 3) := by decide +kernel
theorem dX8_byRepeat_161 : decode cX8_byRepeat 161 = .ok (.iload 5, 2) := by decide +kernel
theorem dX8_byRepeat_163 : decode cX8_byRepeat 163 = .ok (.ifCond .eq 7, 3) := by decide +kernel
theorem dX8_byRepeat_166 : decode cX8_byRepeat 166 = .ok (.iconst 1, 1) := by decide +kernel
theorem dX8_byRepeat_167 : decode cX8_byRepeat 167 = .ok (.goto 4, 3) := by decide +kernel
theorem dX8_byRepeat_170 : decode cX8_byRepeat 170 = .ok (.iconst 0, 1) := by decide +kernel
theorem dX8_byRepeat_171 : decode cX8_byRepeat 171 = .ok (.ireturn, 1) := by decide +kernel
theorem dX8_kernel_0 : decode cX8_kernel 0 = .ok (.iconst 0, 1) := by decide +kernel
theorem dX8_kernel_1 : decode cX8_kernel 1 = .ok (.istore_n 2, 1) := by decide +kernel
theorem dX8_kernel_2 : decode cX8_kernel 2 = .ok (.aload_n 0, 1) := by decide +kernel
theorem dX8_kernel_3 : decode cX8_kernel 3 = .ok (.iload_n 1, 1) := by decide +kernel
theorem dX8_kernel_4 : decode cX8_kernel 4 = .ok (.iaload, 1) := by decide +kernel
theorem dX8_kernel_5 : decode cX8_kernel 5 = .ok (.istore_n 3, 1) := by decide +kernel
theorem dX8_kernel_6 : decode cX8_kernel 6 = .ok (.aload_n 0, 1) := by decide +kernel
theorem dX8_kernel_7 : decode cX8_kernel 7 = .ok (.iload_n 1, 1) := by decide +kernel
theorem dX8_kernel_8 : decode cX8_kernel 8 = .ok (.iaload, 1) := by decide +kernel
theorem dX8_kernel_9 : decode cX8_kernel 9 = .ok (.istore 4, 2) := by decide +kernel
theorem dX8_kernel_11 : decode cX8_kernel 11 = .ok (.iconst 0, 1) := by decide +kernel
theorem dX8_kernel_12 : decode cX8_kernel 12 = .ok (.istore 5, 2) := by decide +kernel
theorem dX8_kernel_14 : decode cX8_kernel 14 = .ok (.iload 5, 2) := by decide +kernel
theorem dX8_kernel_16 : decode cX8_kernel 16 = .ok (.iconst 5, 1) := by decide +kernel
theorem dX8_kernel_17 : decode cX8_kernel 17 = .ok (.if_icmp .ge 63, 3) := by decide +kernel
theorem dX8_kernel_20 : decode cX8_kernel 20 = .ok (.iload_n 2, 1) := by decide +kernel
theorem dX8_kernel_21 : decode cX8_kernel 21 = .ok (.aload_n 0, 1) := by decide +kernel
theorem dX8_kernel_22 : decode cX8_kernel 22 = .ok (.iload_n 1, 1) := by decide +kernel
theorem dX8_kernel_23 : decode cX8_kernel 23 = .ok (.iload 5, 2) := by decide +kernel
theorem dX8_kernel_25 : decode cX8_kernel 25 = .ok (.iadd, 1) := by decide +kernel
theorem dX8_kernel_26 : decode cX8_kernel 26 = .ok (.iaload, 1) := by decide +kernel
theorem dX8_kernel_27 : decode cX8_kernel 27 = .ok (.iadd, 1) := by decide +kernel
theorem dX8_kernel_28 : decode cX8_kernel 28 = .ok (.istore_n 2, 1) := by decide +kernel
theorem dX8_kernel_29 : decode cX8_kernel 29 = .ok (.aload_n 0, 1) := by decide +kernel
theorem dX8_kernel_30 : decode cX8_kernel 30 = .ok (.iload_n 1, 1) := by decide +kernel
theorem dX8_kernel_31 : decode cX8_kernel 31 = .ok (.iload 5, 2) := by decide +kernel
theorem dX8_kernel_33 : decode cX8_kernel 33 = .ok (.iadd, 1) := by decide +kernel
theorem dX8_kernel_34 : decode cX8_kernel 34 = .ok (.iaload, 1) := by decide +kernel
theorem dX8_kernel_35 : decode cX8_kernel 35 = .ok (.iload_n 3, 1) := by decide +kernel
theorem dX8_kernel_36 : decode cX8_kernel 36 = .ok (.if_icmp .le 12, 3) := by decide +kernel
theorem dX8_kernel_39 : decode cX8_kernel 39 = .ok (.aload_n 0, 1) := by decide +kernel
theorem dX8_kernel_40 : decode cX8_kernel 40 = .ok (.iload_n 1, 1) := by decide +kernel
end
section
theorem dX8_kernel_41 : decode cX8_kernel 41 = .ok (.iload 5, 2) := by decide +kernel
theorem dX8_kernel_43 : decode cX8_kernel 43 = .ok (.iadd, 1) := by decide +kernel
theorem dX8_kernel_44 : decode cX8_kernel 44 = .ok (.iaload, 1) := by decide +kernel
theorem dX8_kernel_45 : decode cX8_kernel 45 = .ok (.goto 4, 3) := by decide +kernel
theorem dX8_kernel_48 : decode cX8_kernel 48 = .ok (.iload_n 3, 1) := by decide +kernel
theorem dX8_kernel_49 : decode cX8_kernel 49 = .ok (.istore_n 3, 1) := by decide +kernel
theorem dX8_kernel_50 : decode cX8_kernel 50 = .ok (.aload_n 0, 1) := by decide +kernel
theorem dX8_kernel_51 : decode cX8_kernel 51 = .ok (.iload_n 1, 1) := by decide +kernel
theorem dX8_kernel_52 : decode cX8_kernel 52 = .ok (.iload 5, 2) := by decide +kernel
theorem dX8_kernel_54 : decode cX8_kernel 54 = .ok (.iadd, 1) := by decide +kernel
theorem dX8_kernel_55 : decode cX8_kernel 55 = .ok (.iaload, 1) := by decide +kernel
theorem dX8_kernel_56 : decode cX8_kernel 56 = .ok (.iload 4, 2) := by decide +kernel
theorem dX8_kernel_58 : decode cX8_kernel 58 = .ok (.if_icmp .ge 12, 3) := by decide +kernel
theorem dX8_kernel_61 : decode cX8_kernel 61 = .ok (.aload_n 0, 1) := by decide +kernel
theorem dX8_kernel_62 : decode cX8_kernel 62 = .ok (.iload_n 1, 1) := by decide +kernel
theorem dX8_kernel_63 : decode cX8_kernel 63 = .ok (.iload 5, 2) := by decide +kernel
theorem dX8_kernel_65 : decode cX8_kernel 65 = .ok (.iadd, 1) := by decide +kernel
theorem dX8_kernel_66 : decode cX8_kernel 66 = .ok (.iaload, 1) := by decide +kernel
theorem dX8_kernel_67 : decode cX8_kernel 67 = .ok (.goto 5, 3) := by decide +kernel
theorem dX8_kernel_70 : decode cX8_kernel 70 = .ok (.iload 4, 2) := by decide +kernel
theorem dX8_kernel_72 : decode cX8_kernel 72 = .ok (.istore 4, 2) := by decide +kernel
theorem dX8_kernel_74 : decode cX8_kernel 74 = .ok (.iinc 5 1, 3) := by decide +kernel
theorem dX8_kernel_77 : decode cX8_kernel 77 = .ok (.goto (-63), 3) := by decide +kernel
theorem dX8_kernel_80 : decode cX8_kernel 80 = .ok (.iload_n 2, 1) := by decide +kernel
theorem dX8_kernel_81 : decode cX8_kernel 81 = .ok (.iload_n 3, 1) := by decide +kernel
theorem dX8_kernel_82 : decode cX8_kernel 82 = .ok (.isub, 1) := by decide +kernel
theorem dX8_kernel_83 : decode cX8_kernel 83 = .ok (.iload 4, 2) := by decide +kernel
theorem dX8_kernel_85 : decode cX8_kernel 85 = .ok (.isub, 1) := by decide +kernel
theorem dX8_kernel_86 : decode cX8_kernel 86 = .ok (.ireturn, 1) := by decide +kernel
theorem dX8_ofComponent_0 : decode cX8_ofComponent 0 = .ok (.bipush 50, 2) := by decide +kernel
theorem dX8_ofComponent_2 : decode cX8_ofComponent 2 = .ok (.aload_n 0, 1) := by decide +kernel
theorem dX8_ofComponent_3 : decode cX8_ofComponent 3 = .ok (.iload_n 1, 1) := by decide +kernel
theorem dX8_ofComponent_4 : decode cX8_ofComponent 4 = .ok (.invokestatic 72, 3) := by decide +kernel
theorem dX8_ofComponent_7 : decode cX8_ofComponent 7 = .ok (.iconst 2, 1) := by decide +kernel
theorem dX8_ofComponent_8 : decode cX8_ofComponent 8 = .ok (.iadd, 1) := by decide +kernel
theorem dX8_ofComponent_9 : decode cX8_ofComponent 9 = .ok (.iconst 5, 1) := by decide +kernel
theorem dX8_ofComponent_10 : decode cX8_ofComponent 10 = .ok (.iload_n 2, 1) := by decide +kernel
theorem dX8_ofComponent_11 : decode cX8_ofComponent 11 = .ok (.imul, 1) := by decide +kernel
theorem dX8_ofComponent_12 : decode cX8_ofComponent 12 = .ok (.iadd, 1) := by decide +kernel
theorem dX8_ofComponent_13 : decode cX8_ofComponent 13 = .ok (.invokestatic 113, 3) := by decide +kernel
theorem dX8_ofComponent_16 : decode cX8_ofComponent 16 = .ok (.imul, 1) := by decide +kernel
theorem dX8_ofComponent_17 : decode cX8_ofComponent 17 = .ok (.iconst 3, 1) := by decide +kernel
theorem dX8_ofComponent_18 : decode cX8_ofComponent 18 = .ok (.iadd, 1) := by decide +kernel
theorem dX8_ofComponent_19 : decode cX8_ofComponent 19 = .ok (.bipush 6, 2) := by decide +kernel
theorem dX8_ofComponent_21 : decode cX8_ofComponent 21 = .ok (.idiv, 1) := by decide +kernel
theorem dX8_ofComponent_22 : decode cX8_ofComponent 22 = .ok (.ireturn, 1) := by decide +kernel
theorem dX8_weigh_0 : decode cX8_weigh 0 = .ok (.iload_n 2, 1) := by decide +kernel
theorem dX8_weigh_1 : decode cX8_weigh 1 = .ok (.iload_n 3, 1) := by decide +kernel
theorem dX8_weigh_2 : decode cX8_weigh 2 = .ok (.invokestatic 60, 3) := by decide +kernel
theorem dX8_weigh_5 : decode cX8_weigh 5 = .ok (.istore 4, 2) := by decide +kernel
theorem dX8_weigh_7 : decode cX8_weigh 7 = .ok (.iconst 0, 1) := by decide +kernel
theorem dX8_weigh_8 : decode cX8_weigh 8 = .ok (.istore 5, 2) := by decide +kernel
theorem dX8_weigh_10 : decode cX8_weigh 10 = .ok (.iconst 0, 1) := by decide +kernel
theorem dX8_weigh_11 : decode cX8_weigh 11 = .ok (.istore 6, 2) := by decide +kernel
theorem dX8_weigh_13 : decode cX8_weigh 13 = .ok (.iconst 0, 1) := by decide +kernel
theorem dX8_weigh_14 : decode cX8_weigh 14 = .ok (.istore 7, 2) := by decide +kernel
theorem dX8_weigh_16 : decode cX8_weigh 16 = .ok (.iload 7, 2) := by decide +kernel
theorem dX8_weigh_18 : decode cX8_weigh 18 = .ok (.aload_n 1, 1) := by decide +kernel
theorem dX8_weigh_19 : decode cX8_weigh 19 = .ok (.iload 4, 2) := by decide +kernel
theorem dX8_weigh_21 : decode cX8_weigh 21 = .ok (.iconst 1, 1) := by decide +kernel
theorem dX8_weigh_22 : decode cX8_weigh 22 = .ok (.iadd, 1) := by decide +kernel
theorem dX8_weigh_23 : decode cX8_weigh 23 = .ok (.iaload, 1) := by decide +kernel
theorem dX8_weigh_24 : decode cX8_weigh 24 = .ok (.if_icmp .ge 174, 3) := by decide +kernel
theorem dX8_weigh_27 : decode cX8_weigh 27 = .ok (.iload_n 2, 1) := by decide +kernel
theorem dX8_weigh_28 : decode cX8_weigh 28 = .ok (.iload_n 3, 1) := by decide +kernel
theorem dX8_weigh_29 : decode cX8_weigh 29 = .ok (.iload 7, 2) := by decide +kernel
theorem dX8_weigh_31 : decode cX8_weigh 31 = .ok (.invokestatic 102, 3) := by decide +kernel
theorem dX8_weigh_34 : decode cX8_weigh 34 = .ok (.istore 8, 2) := by decide +kernel
theorem dX8_weigh_36 : decode cX8_weigh 36 = .ok (.aload_n 1, 1) := by decide +kernel
theorem dX8_weigh_37 : decode cX8_weigh 37 = .ok (.iload 4, 2) := by decide +kernel
theorem dX8_weigh_39 : decode cX8_weigh 39 = .ok (.iconst 0, 1) := by decide +kernel
theorem dX8_weigh_40 : decode cX8_weigh 40 = .ok (.iadd, 1) := by decide +kernel
theorem dX8_weigh_41 : decode cX8_weigh 41 = .ok (.iaload, 1) := by decide +kernel
theorem dX8_weigh_42 : decode cX8_weigh 42 = .ok (.ifCond .ne 25, 3) := by decide +kernel
theorem dX8_weigh_45 : decode cX8_weigh 45 = .ok (.aload_n 1, 1) := by decide +kernel
theorem dX8_weigh_46 : decode cX8_weigh 46 = .ok (.iload 8, 2) := by decide +kernel
theorem dX8_weigh_48 : decode cX8_weigh 48 = .ok (.iaload, 1) := by decide +kernel
theorem dX8_weigh_49 : decode cX8_weigh 49 = .ok (.aload_n 1, 1) := by decide +kernel
theorem dX8_weigh_50 : decode cX8_weigh 50 = .ok (.iload 8, 2) := by decide +kernel
theorem dX8_weigh_52 : decode cX8_weigh 52 = .ok (.iconst 1, 1) := by decide +kernel
theorem dX8_weigh_53 : decode cX8_weigh 53 = .ok (.iadd, 1) := by decide +kernel
theorem dX8_weigh_54 : decode cX8_weigh 54 = .ok (.iaload, 1) := by decide +kernel
theorem dX8_weigh_55 : decode cX8_weigh 55 = .ok (.aload_n 1, 1) := by decide +kernel
theorem dX8_weigh_56 : decode cX8_weigh 56 = .ok (.iload 8, 2) := by decide +kernel
theorem dX8_weigh_58 : decode cX8_weigh 58 = .ok (.iconst 2, 1) := by decide +kernel
theorem dX8_weigh_59 : decode cX8_weigh 59 = .ok (.iadd, 1) := by decide +kernel
theorem dX8_weigh_60 : decode cX8_weigh 60 = .ok (.iaload, 1) := by decide +kernel
theorem dX8_weigh_61 : decode cX8_weigh 61 = .ok (.invokestatic 117, 3) := by decide +kernel
theorem dX8_weigh_64 : decode cX8_weigh 64 = .ok (.goto 18, 3) := by decide +kernel
theorem dX8_weigh_67 : decode cX8_weigh 67 = .ok (.aload_n 1, 1) := by decide +kernel
theorem dX8_weigh_68 : decode cX8_weigh 68 = .ok (.iload 4, 2) := by decide +kernel
theorem dX8_weigh_70 : decode cX8_weigh 70 = .ok (.iconst 0, 1) := by decide +kernel
theorem dX8_weigh_71 : decode cX8_weigh 71 = .ok (.iadd, 1) := by decide +kernel
theorem dX8_weigh_72 : decode cX8_weigh 72 = .ok (.iaload, 1) := by decide +kernel
theorem dX8_weigh_73 : decode cX8_weigh 73 = .ok (.aload_n 1, 1) := by decide +kernel
theorem dX8_weigh_74 : decode cX8_weigh 74 = .ok (.iload 8, 2) := by decide +kernel
theorem dX8_weigh_76 : decode cX8_weigh 76 = .ok (.iconst 1, 1) := by decide +kernel
theorem dX8_weigh_77 : decode cX8_weigh 77 = .ok (.iadd, 1) := by decide +kernel
theorem dX8_weigh_78 : decode cX8_weigh 78 = .ok (.iaload, 1) := by decide +kernel
theorem dX8_weigh_79 : decode cX8_weigh 79 = .ok (.invokestatic 120, 3) := by decide +kernel
theorem dX8_weigh_82 : decode cX8_weigh 82 = .ok (.istore 9, 2) := by decide +kernel
theorem dX8_weigh_84 : decode cX8_weigh 84 = .ok (.aload_n 1, 1) := by decide +kernel
theorem dX8_weigh_85 : decode cX8_weigh 85 = .ok (.iload_n 2, 1) := by decide +kernel
theorem dX8_weigh_86 : decode cX8_weigh 86 = .ok (.iload_n 3, 1) := by decide +kernel
theorem dX8_weigh_87 : decode cX8_weigh 87 = .ok (.iload 7, 2) := by decide +kernel
theorem dX8_weigh_89 : decode cX8_weigh 89 = .ok (.invokestatic 106, 3) := by decide +kernel
theorem dX8_weigh_92 : decode cX8_weigh 92 = .ok (.istore 10, 2) := by decide +kernel
theorem dX8_weigh_94 : decode cX8_weigh 94 = .ok (.iload 10, 2) := by decide +kernel
theorem dX8_weigh_96 : decode cX8_weigh 96 = .ok (.ifCond .ne 14, 3) := by decide +kernel
theorem dX8_weigh_99 : decode cX8_weigh 99 = .ok (.aload_n 1, 1) := by decide +kernel
theorem dX8_weigh_100 : decode cX8_weigh 100 = .ok (.iload_n 2, 1) := by decide +kernel
theorem dX8_weigh_101 : decode cX8_weigh 101 = .ok (.iload_n 3, 1) := by decide +kernel
theorem dX8_weigh_102 : decode cX8_weigh 102 = .ok (.iload 7, 2) := by decide +kernel
theorem dX8_weigh_104 : decode cX8_weigh 104 = .ok (.invokestatic 123, 3) := by decide +kernel
theorem dX8_weigh_107 : decode cX8_weigh 107 = .ok (.goto 5, 3) := by decide +kernel
theorem dX8_weigh_110 : decode cX8_weigh 110 = .ok (.iload 10, 2) := by decide +kernel
theorem dX8_weigh_112 : decode cX8_weigh 112 = .ok (.istore 10, 2) := by decide +kernel
theorem dX8_weigh_114 : decode cX8_weigh 114 = .ok (.iload 10, 2) := by decide +kernel
theorem dX8_weigh_116 : decode cX8_weigh 116 = .ok (.ifCond .ne 8, 3) := by decide +kernel
theorem dX8_weigh_119 : decode cX8_weigh 119 = .ok (.iload 9, 2) := by decide +kernel
theorem dX8_weigh_121 : decode cX8_weigh 121 = .ok (.goto 20, 3) := by decide +kernel
theorem dX8_weigh_124 : decode cX8_weigh 124 = .ok (.iload 10, 2) := by decide +kernel
theorem dX8_weigh_126 : decode cX8_weigh 126 = .ok (.iconst 1, 1) := by decide +kernel
theorem dX8_weigh_127 : decode cX8_weigh 127 = .ok (.if_icmp .ne 13, 3) := by decide +kernel
theorem dX8_weigh_130 : decode cX8_weigh 130 = .ok (.iload 9, 2) := by decide +kernel
theorem dX8_weigh_132 : decode cX8_weigh 132 = .ok (.bipush 70, 2) := by decide +kernel
theorem dX8_weigh_134 : decode cX8_weigh 134 = .ok (.invokestatic 83, 3) := by decide +kernel
theorem dX8_weigh_137 : decode cX8_weigh 137 = .ok (.goto 4, 3) := by decide +kernel
theorem dX8_weigh_140 : decode cX8_weigh 140 = .ok (.iconst 0, 1) := by decide +kernel
theorem dX8_weigh_141 : decode cX8_weigh 141 = .ok (.istore 9, 2) := by decide +kernel
theorem dX8_weigh_143 : decode cX8_weigh 143 = .ok (.aload_n 0, 1) := by decide +kernel
theorem dX8_weigh_144 : decode cX8_weigh 144 = .ok (.getfield 32, 3) := by decide +kernel
theorem dX8_weigh_147 : decode cX8_weigh 147 = .ok (.iconst 3, 1) := by decide +kernel
theorem dX8_weigh_148 : decode cX8_weigh 148 = .ok (.iload_n 3, 1) := by decide +kernel
theorem dX8_weigh_149 : decode cX8_weigh 149 = .ok (.imul, 1) := by decide +kernel
theorem dX8_weigh_150 : decode cX8_weigh 150 = .ok (.iload 7, 2) := by decide +kernel
theorem dX8_weigh_152 : decode cX8_weigh 152 = .ok (.iadd, 1) := by decide +kernel
theorem dX8_weigh_153 : decode cX8_weigh 153 = .ok (.iload 9, 2) := by decide +kernel
theorem dX8_weigh_155 : decode cX8_weigh 155 = .ok (.iastore, 1) := by decide +kernel
theorem dX8_weigh_156 : decode cX8_weigh 156 = .ok (.aload_n 0, 1) := by decide +kernel
theorem dX8_weigh_157 : decode cX8_weigh 157 = .ok (.getfield 35, 3) := by decide +kernel
theorem dX8_weigh_160 : decode cX8_weigh 160 = .ok (.iconst 3, 1) := by decide +kernel
theorem dX8_weigh_161 : decode cX8_weigh 161 = .ok (.iload_n 3, 1) := by decide +kernel
theorem dX8_weigh_162 : decode cX8_weigh 162 = .ok (.imul, 1) := by decide +kernel
theorem dX8_weigh_163 : decode cX8_weigh 163 = .ok (.iload 7, 2) := by decide +kernel
theorem dX8_weigh_165 : decode cX8_weigh 165 = .ok (.iadd, 1) := by decide +kernel
theorem dX8_weigh_166 : decode cX8_weigh 166 = .ok (.iload 10, 2) := by decide +kernel
theorem dX8_weigh_168 : decode cX8_weigh 168 = .ok (.iastore, 1) := by decide +kernel
theorem dX8_weigh_169 : decode cX8_weigh 169 = .ok (.iload 5, 2) := by decide +kernel
theorem dX8_weigh_171 : decode cX8_weigh 171 = .ok (.iload 9, 2) := by decide +kernel
theorem dX8_weigh_173 : decode cX8_weigh 173 = .ok (.iadd, 1) := by decide +kernel
theorem dX8_weigh_174 : decode cX8_weigh 174 = .ok (.istore 5, 2) := by decide +kernel
theorem dX8_weigh_176 : decode cX8_weigh 176 = .ok (.iload 9, 2) := by decide +kernel
theorem dX8_weigh_178 : decode cX8_weigh 178 = .ok (.iload 6, 2) := by decide +kernel
theorem dX8_weigh_180 : decode cX8_weigh 180 = .ok (.if_icmp .le 8, 3) := by decide +kernel
theorem dX8_weigh_183 : decode cX8_weigh 183 = .ok (.iload 9, 2) := by decide +kernel
theorem dX8_weigh_185 : decode cX8_weigh 185 = .ok (.goto 5, 3) := by decide +kernel
theorem dX8_weigh_188 : decode cX8_weigh 188 = .ok (.iload 6, 2) := by decide +kernel
theorem dX8_weigh_190 : decode cX8_weigh 190 = .ok (.istore 6, 2) := by decide +kernel
theorem dX8_weigh_192 : decode cX8_weigh 192 = .ok (.iinc 7 1, 3) := by decide +kernel
theorem dX8_weigh_195 : decode cX8_weigh 195 = .ok (.goto (-179), 3) := by decide +kernel
theorem dX8_weigh_198 : decode cX8_weigh 198 = .ok (.aload_n 1, 1) := by decide +kernel
theorem dX8_weigh_199 : decode cX8_weigh 199 = .ok (.iload 4, 2) := by decide +kernel
theorem dX8_weigh_201 : decode cX8_weigh 201 = .ok (.iconst 0, 1) := by decide +kernel
theorem dX8_weigh_202 : decode cX8_weigh 202 = .ok (.iadd, 1) := by decide +kernel
theorem dX8_weigh_203 : decode cX8_weigh 203 = .ok (.iaload, 1) := by decide +kernel
theorem dX8_weigh_204 : decode cX8_weigh 204 = .ok (.ifCond .ne 30, 3) := by decide +kernel
theorem dX8_weigh_207 : decode cX8_weigh 207 = .ok (.iconst 2, 1) := by decide +kernel
theorem dX8_weigh_208 : decode cX8_weigh 208 = .ok (.iload_n 3, 1) := by decide +kernel
theorem dX8_weigh_209 : decode cX8_weigh 209 = .ok (.imul, 1) := by decide +kernel
theorem dX8_weigh_210 : decode cX8_weigh 210 = .ok (.aload_n 1, 1) := by decide +kernel
theorem dX8_weigh_211 : decode cX8_weigh 211 = .ok (.iload_n 2, 1) := by decide +kernel
theorem dX8_weigh_212 : decode cX8_weigh 212 = .ok (.invokestatic 72, 3) := by decide +kernel
theorem dX8_weigh_215 : decode cX8_weigh 215 = .ok (.iconst 0, 1) := by decide +kernel
theorem dX8_weigh_216 : decode cX8_weigh 216 = .ok (.iadd, 1) := by decide +kernel
theorem dX8_weigh_217 : decode cX8_weigh 217 = .ok (.iaload, 1) := by decide +kernel
theorem dX8_weigh_218 : decode cX8_weigh 218 = .ok (.if_icmp .lt 16, 3) := by decide +kernel
theorem dX8_weigh_221 : decode cX8_weigh 221 = .ok (.aload_n 1, 1) := by decide +kernel
theorem dX8_weigh_222 : decode cX8_weigh 222 = .ok (.iload_n 2, 1) := by decide +kernel
theorem dX8_weigh_223 : decode cX8_weigh 223 = .ok (.iload_n 3, 1) := by decide +kernel
theorem dX8_weigh_224 : decode cX8_weigh 224 = .ok (.invokestatic 93, 3) := by decide +kernel
theorem dX8_weigh_227 : decode cX8_weigh 227 = .ok (.ifCond .ne 7, 3) := by decide +kernel
theorem dX8_weigh_230 : decode cX8_weigh 230 = .ok (.iconst 1, 1) := by decide +kernel
theorem dX8_weigh_231 : decode cX8_weigh 231 = .ok (.goto 4, 3) := by decide +kernel
theorem dX8_weigh_234 : decode cX8_weigh 234 = .ok (.iconst 0, 1) := by decide +kernel
theorem dX8_weigh_235 : decode cX8_weigh 235 = .ok (.istore 7, 2) := by decide +kernel
theorem dX8_weigh_237 : decode cX8_weigh 237 = .ok (.aload_n 0, 1) := by decide +kernel
theorem dX8_weigh_238 : decode cX8_weigh 238 = .ok (.getfield 47, 3) := by decide +kernel
theorem dX8_weigh_241 : decode cX8_weigh 241 = .ok (.iload_n 3, 1) := by decide +kernel
theorem dX8_weigh_242 : decode cX8_weigh 242 = .ok (.iload 7, 2) := by decide +kernel
theorem dX8_weigh_244 : decode cX8_weigh 244 = .ok (.ifCond .eq 7, 3) := by decide +kernel
theorem dX8_weigh_247 : decode cX8_weigh 247 = .ok (.iconst 1, 1) := by decide +kernel
theorem dX8_weigh_248 : decode cX8_weigh 248 = .ok (.goto 4, 3) := by decide +kernel
theorem dX8_weigh_251 : decode cX8_weigh 251 = .ok (.iconst 0, 1) := by decide +kernel
theorem dX8_weigh_252 : decode cX8_weigh 252 = .ok (.iastore, 1) := by decide +kernel
theorem dX8_weigh_253 : decode cX8_weigh 253 = .ok (.aload_n 0, 1) := by decide +kernel
theorem dX8_weigh_254 : decode cX8_weigh 254 = .ok (.getfield 38, 3) := by decide +kernel
theorem dX8_weigh_257 : decode cX8_weigh 257 = .ok (.iload_n 3, 1) := by decide +kernel
theorem dX8_weigh_258 : decode cX8_weigh 258 = .ok (.iload 7, 2) := by decide +kernel
theorem dX8_weigh_260 : decode cX8_weigh 260 = .ok (.ifCond .eq 17, 3) := by decide +kernel
theorem dX8_weigh_263 : decode cX8_weigh 263 = .ok (.iload 5, 2) := by decide +kernel
theorem dX8_weigh_265 : decode cX8_weigh 265 = .ok (.bipush 100, 2) := by decide +kernel
theorem dX8_weigh_267 : decode cX8_weigh 267 = .ok (.aload_n 1, 1) := by decide +kernel
theorem dX8_weigh_268 : decode cX8_weigh 268 = .ok (.iconst 5, 1) := by decide +kernel
theorem dX8_weigh_269 : decode cX8_weigh 269 = .ok (.iaload, 1) := by decide +kernel
theorem dX8_weigh_270 : decode cX8_weigh 270 = .ok (.iadd, 1) := by decide +kernel
theorem dX8_weigh_271 : decode cX8_weigh 271 = .ok (.invokestatic 83, 3) := by decide +kernel
theorem dX8_weigh_274 : decode cX8_weigh 274 = .ok (.goto 5, 3) := by decide +kernel
theorem dX8_weigh_277 : decode cX8_weigh 277 = .ok (.iload 5, 2) := by decide +kernel
theorem dX8_weigh_279 : decode cX8_weigh 279 = .ok (.iastore, 1) := by decide +kernel
theorem dX8_weigh_280 : decode cX8_weigh 280 = .ok (.aload_n 0, 1) := by decide +kernel
theorem dX8_weigh_281 : decode cX8_weigh 281 = .ok (.getfield 41, 3) := by decide +kernel
theorem dX8_weigh_284 : decode cX8_weigh 284 = .ok (.iload_n 3, 1) := by decide +kernel
theorem dX8_weigh_285 : decode cX8_weigh 285 = .ok (.aload_n 1, 1) := by decide +kernel
theorem dX8_weigh_286 : decode cX8_weigh 286 = .ok (.iload 4, 2) := by decide +kernel
theorem dX8_weigh_288 : decode cX8_weigh 288 = .ok (.bipush 11, 2) := by decide +kernel
theorem dX8_weigh_290 : decode cX8_weigh 290 = .ok (.iadd, 1) := by decide +kernel
theorem dX8_weigh_291 : decode cX8_weigh 291 = .ok (.invokestatic 113, 3) := by decide +kernel
theorem dX8_weigh_294 : decode cX8_weigh 294 = .ok (.iastore, 1) := by decide +kernel
theorem dX8_weigh_295 : decode cX8_weigh 295 = .ok (.aload_n 0, 1) := by decide +kernel
theorem dX8_weigh_296 : decode cX8_weigh 296 = .ok (.getfield 44, 3) := by decide +kernel
theorem dX8_weigh_299 : decode cX8_weigh 299 = .ok (.iload_n 3, 1) := by decide +kernel
theorem dX8_weigh_300 : decode cX8_weigh 300 = .ok (.aload_n 0, 1) := by decide +kernel
theorem dX8_weigh_301 : decode cX8_weigh 301 = .ok (.getfield 41, 3) := by decide +kernel
theorem dX8_weigh_304 : decode cX8_weigh 304 = .ok (.iload_n 3, 1) := by decide +kernel
theorem dX8_weigh_305 : decode cX8_weigh 305 = .ok (.iaload, 1) := by decide +kernel
theorem dX8_weigh_306 : decode cX8_weigh 306 = .ok (.iload 6, 2) := by decide +kernel
theorem dX8_weigh_308 : decode cX8_weigh 308 = .ok (.imul, 1) := by decide +kernel
theorem dX8_weigh_309 : decode cX8_weigh 309 = .ok (.invokestatic 126, 3) := by decide +kernel
theorem dX8_weigh_312 : decode cX8_weigh 312 = .ok (.iastore, 1) := by decide +kernel
theorem dX8_weigh_313 : decode cX8_weigh 313 = .ok (.return_, 1) := by decide +kernel
theorem dX8_graded_0 : decode cX8_graded 0 = .ok (.iload_n 0, 1) := by decide +kernel
theorem dX8_graded_1 : decode cX8_graded 1 = .ok (.ifCond .ge 14, 3) := by decide +kernel
theorem dX8_graded_4 : decode cX8_graded 4 = .ok (.bipush 15, 2) := by decide +kernel
theorem dX8_graded_6 : decode cX8_graded 6 = .ok (.iload_n 0, 1) := by decide +kernel
theorem dX8_graded_7 : decode cX8_graded 7 = .ok (.isub, 1) := by decide +kernel
theorem dX8_graded_8 : decode cX8_graded 8 = .ok (.bipush 30, 2) := by decide +kernel
theorem dX8_graded_10 : decode cX8_graded 10 = .ok (.idiv, 1) := by decide +kernel
theorem dX8_graded_11 : decode cX8_graded 11 = .ok (.ineg, 1) := by decide +kernel
theorem dX8_graded_12 : decode cX8_graded 12 = .ok (.goto 10, 3) := by decide +kernel
theorem dX8_graded_15 : decode cX8_graded 15 = .ok (.iload_n 0, 1) := by decide +kernel
theorem dX8_graded_16 : decode cX8_graded 16 = .ok (.bipush 15, 2) := by decide +kernel
theorem dX8_graded_18 : decode cX8_graded 18 = .ok (.iadd, 1) := by decide +kernel
theorem dX8_graded_19 : decode cX8_graded 19 = .ok (.bipush 30, 2) := by decide +kernel
theorem dX8_graded_21 : decode cX8_graded 21 = .ok (.idiv, 1) := by decide +kernel
theorem dX8_graded_22 : decode cX8_graded 22 = .ok (.ireturn, 1) := by decide +kernel
theorem dX8_reckon_0 : decode cX8_reckon 0 = .ok (.aload_n 0, 1) := by decide +kernel
theorem dX8_reckon_1 : decode cX8_reckon 1 = .ok (.iconst 0, 1) := by decide +kernel
theorem dX8_reckon_2 : decode cX8_reckon 2 = .ok (.putfield 129, 3) := by decide +kernel
theorem dX8_reckon_5 : decode cX8_reckon 5 = .ok (.aload_n 0, 1) := by decide +kernel
theorem dX8_reckon_6 : decode cX8_reckon 6 = .ok (.bipush 100, 2) := by decide +kernel
theorem dX8_reckon_8 : decode cX8_reckon 8 = .ok (.aload_n 1, 1) := by decide +kernel
theorem dX8_reckon_9 : decode cX8_reckon 9 = .ok (.iload_n 2, 1) := by decide +kernel
theorem dX8_reckon_10 : decode cX8_reckon 10 = .ok (.invokestatic 72, 3) := by decide +kernel
theorem dX8_reckon_13 : decode cX8_reckon 13 = .ok (.iconst 1, 1) := by decide +kernel
theorem dX8_reckon_14 : decode cX8_reckon 14 = .ok (.iadd, 1) := by decide +kernel
theorem dX8_reckon_15 : decode cX8_reckon 15 = .ok (.iaload, 1) := by decide +kernel
theorem dX8_reckon_16 : decode cX8_reckon 16 = .ok (.imul, 1) := by decide +kernel
theorem dX8_reckon_17 : decode cX8_reckon 17 = .ok (.putfield 132, 3) := by decide +kernel
theorem dX8_reckon_20 : decode cX8_reckon 20 = .ok (.iconst 0, 1) := by decide +kernel
theorem dX8_reckon_21 : decode cX8_reckon 21 = .ok (.istore_n 3, 1) := by decide +kernel
theorem dX8_reckon_22 : decode cX8_reckon 22 = .ok (.iload_n 3, 1) := by decide +kernel
theorem dX8_reckon_23 : decode cX8_reckon 23 = .ok (.aload_n 1, 1) := by decide +kernel
theorem dX8_reckon_24 : decode cX8_reckon 24 = .ok (.iload_n 2, 1) := by decide +kernel
theorem dX8_reckon_25 : decode cX8_reckon 25 = .ok (.invokestatic 72, 3) := by decide +kernel
theorem dX8_reckon_28 : decode cX8_reckon 28 = .ok (.iconst 0, 1) := by decide +kernel
theorem dX8_reckon_29 : decode cX8_reckon 29 = .ok (.iadd, 1) := by decide +kernel
theorem dX8_reckon_30 : decode cX8_reckon 30 = .ok (.iaload, 1) := by decide +kernel
theorem dX8_reckon_31 : decode cX8_reckon 31 = .ok (.if_icmp .ge 60, 3) := by decide +kernel
theorem dX8_reckon_34 : decode cX8_reckon 34 = .ok (.aload_n 0, 1) := by decide +kernel
theorem dX8_reckon_35 : decode cX8_reckon 35 = .ok (.aload_n 1, 1) := by decide +kernel
theorem dX8_reckon_36 : decode cX8_reckon 36 = .ok (.iload_n 2, 1) := by decide +kernel
theorem dX8_reckon_37 : decode cX8_reckon 37 = .ok (.iload_n 3, 1) := by decide +kernel
theorem dX8_reckon_38 : decode cX8_reckon 38 = .ok (.invokevirtual 135, 3) := by decide +kernel
theorem dX8_reckon_41 : decode cX8_reckon 41 = .ok (.aload_n 0, 1) := by decide +kernel
theorem dX8_reckon_42 : decode cX8_reckon 42 = .ok (.dup, 1) := by decide +kernel
theorem dX8_reckon_43 : decode cX8_reckon 43 = .ok (.getfield 129, 3) := by decide +kernel
theorem dX8_reckon_46 : decode cX8_reckon 46 = .ok (.aload_n 0, 1) := by decide +kernel
theorem dX8_reckon_47 : decode cX8_reckon 47 = .ok (.getfield 38, 3) := by decide +kernel
theorem dX8_reckon_50 : decode cX8_reckon 50 = .ok (.iload_n 3, 1) := by decide +kernel
theorem dX8_reckon_51 : decode cX8_reckon 51 = .ok (.iaload, 1) := by decide +kernel
theorem dX8_reckon_52 : decode cX8_reckon 52 = .ok (.aload_n 0, 1) := by decide +kernel
theorem dX8_reckon_53 : decode cX8_reckon 53 = .ok (.getfield 44, 3) := by decide +kernel
theorem dX8_reckon_56 : decode cX8_reckon 56 = .ok (.iload_n 3, 1) := by decide +kernel
theorem dX8_reckon_57 : decode cX8_reckon 57 = .ok (.iaload, 1) := by decide +kernel
theorem dX8_reckon_58 : decode cX8_reckon 58 = .ok (.iadd, 1) := by decide +kernel
theorem dX8_reckon_59 : decode cX8_reckon 59 = .ok (.iadd, 1) := by decide +kernel
theorem dX8_reckon_60 : decode cX8_reckon 60 = .ok (.putfield 129, 3) := by decide +kernel
theorem dX8_reckon_63 : decode cX8_reckon 63 = .ok (.aload_n 0, 1) := by decide +kernel
theorem dX8_reckon_64 : decode cX8_reckon 64 = .ok (.dup, 1) := by decide +kernel
theorem dX8_reckon_65 : decode cX8_reckon 65 = .ok (.getfield 132, 3) := by decide +kernel
theorem dX8_reckon_68 : decode cX8_reckon 68 = .ok (.bipush 100, 2) := by decide +kernel
theorem dX8_reckon_70 : decode cX8_reckon 70 = .ok (.aload_n 1, 1) := by decide +kernel
theorem dX8_reckon_71 : decode cX8_reckon 71 = .ok (.iload_n 2, 1) := by decide +kernel
theorem dX8_reckon_72 : decode cX8_reckon 72 = .ok (.iload_n 3, 1) := by decide +kernel
theorem dX8_reckon_73 : decode cX8_reckon 73 = .ok (.invokestatic 60, 3) := by decide +kernel
theorem dX8_reckon_76 : decode cX8_reckon 76 = .ok (.bipush 16, 2) := by decide +kernel
theorem dX8_reckon_78 : decode cX8_reckon 78 = .ok (.iadd, 1) := by decide +kernel
theorem dX8_reckon_79 : decode cX8_reckon 79 = .ok (.iaload, 1) := by decide +kernel
theorem dX8_reckon_80 : decode cX8_reckon 80 = .ok (.imul, 1) := by decide +kernel
theorem dX8_reckon_81 : decode cX8_reckon 81 = .ok (.iadd, 1) := by decide +kernel
theorem dX8_reckon_82 : decode cX8_reckon 82 = .ok (.putfield 132, 3) := by decide +kernel
theorem dX8_reckon_85 : decode cX8_reckon 85 = .ok (.iinc 3 1, 3) := by decide +kernel
theorem dX8_reckon_88 : decode cX8_reckon 88 = .ok (.goto (-66), 3) := by decide +kernel
theorem dX8_reckon_91 : decode cX8_reckon 91 = .ok (.aload_n 1, 1) := by decide +kernel
theorem dX8_reckon_92 : decode cX8_reckon 92 = .ok (.iload_n 2, 1) := by decide +kernel
theorem dX8_reckon_93 : decode cX8_reckon 93 = .ok (.iconst 0, 1) := by decide +kernel
theorem dX8_reckon_94 : decode cX8_reckon 94 = .ok (.invokestatic 139, 3) := by decide +kernel
theorem dX8_reckon_97 : decode cX8_reckon 97 = .ok (.aload_n 1, 1) := by decide +kernel
theorem dX8_reckon_98 : decode cX8_reckon 98 = .ok (.iload_n 2, 1) := by decide +kernel
theorem dX8_reckon_99 : decode cX8_reckon 99 = .ok (.iconst 1, 1) := by decide +kernel
theorem dX8_reckon_100 : decode cX8_reckon 100 = .ok (.invokestatic 139, 3) := by decide +kernel
theorem dX8_reckon_103 : decode cX8_reckon 103 = .ok (.iadd, 1) := by decide +kernel
theorem dX8_reckon_104 : decode cX8_reckon 104 = .ok (.aload_n 1, 1) := by decide +kernel
theorem dX8_reckon_105 : decode cX8_reckon 105 = .ok (.iload_n 2, 1) := by decide +kernel
theorem dX8_reckon_106 : decode cX8_reckon 106 = .ok (.iconst 2, 1) := by decide +kernel
theorem dX8_reckon_107 : decode cX8_reckon 107 = .ok (.invokestatic 139, 3) := by decide +kernel
theorem dX8_reckon_110 : decode cX8_reckon 110 = .ok (.iadd, 1) := by decide +kernel
theorem dX8_reckon_111 : decode cX8_reckon 111 = .ok (.istore_n 3, 1) := by decide +kernel
theorem dX8_reckon_112 : decode cX8_reckon 112 = .ok (.aload_n 0, 1) := by decide +kernel
theorem dX8_reckon_113 : decode cX8_reckon 113 = .ok (.iload_n 3, 1) := by decide +kernel
theorem dX8_reckon_114 : decode cX8_reckon 114 = .ok (.aload_n 1, 1) := by decide +kernel
theorem dX8_reckon_115 : decode cX8_reckon 115 = .ok (.iconst 1, 1) := by decide +kernel
theorem dX8_reckon_116 : decode cX8_reckon 116 = .ok (.iaload, 1) := by decide +kernel
theorem dX8_reckon_117 : decode cX8_reckon 117 = .ok (.invokestatic 83, 3) := by decide +kernel
theorem dX8_reckon_120 : decode cX8_reckon 120 = .ok (.putfield 143, 3) := by decide +kernel
theorem dX8_reckon_123 : decode cX8_reckon 123 = .ok (.aload_n 0, 1) := by decide +kernel
theorem dX8_reckon_124 : decode cX8_reckon 124 = .ok (.getfield 129, 3) := by decide +kernel
theorem dX8_reckon_127 : decode cX8_reckon 127 = .ok (.aload_n 0, 1) := by decide +kernel
theorem dX8_reckon_128 : decode cX8_reckon 128 = .ok (.getfield 143, 3) := by decide +kernel
theorem dX8_reckon_131 : decode cX8_reckon 131 = .ok (.iadd, 1) := by decide +kernel
theorem dX8_reckon_132 : decode cX8_reckon 132 = .ok (.aload_n 0, 1) := by decide +kernel
theorem dX8_reckon_133 : decode cX8_reckon 133 = .ok (.getfield 132, 3) := by decide +kernel
theorem dX8_reckon_136 : decode cX8_reckon 136 = .ok (.isub, 1) := by decide +kernel
theorem dX8_reckon_137 : decode cX8_reckon 137 = .ok (.ireturn, 1) := by decide +kernel
theorem dX8_reckonAll_0 : decode cX8_reckonAll 0 = .ok (.iconst 0, 1) := by decide +kernel
theorem dX8_reckonAll_1 : decode cX8_reckonAll 1 = .ok (.istore_n 2, 1) := by decide +kernel
theorem dX8_reckonAll_2 : decode cX8_reckonAll 2 = .ok (.iload_n 2, 1) := by decide +kernel
theorem dX8_reckonAll_3 : decode cX8_reckonAll 3 = .ok (.aload_n 1, 1) := by decide +kernel
theorem dX8_reckonAll_4 : decode cX8_reckonAll 4 = .ok (.iconst 0, 1) := by decide +kernel
theorem dX8_reckonAll_5 : decode cX8_reckonAll 5 = .ok (.iaload, 1) := by decide +kernel
theorem dX8_reckonAll_6 : decode cX8_reckonAll 6 = .ok (.if_icmp .ge 31, 3) := by decide +kernel
theorem dX8_reckonAll_9 : decode cX8_reckonAll 9 = .ok (.aload_n 0, 1) := by decide +kernel
theorem dX8_reckonAll_10 : decode cX8_reckonAll 10 = .ok (.getfield 50, 3) := by decide +kernel
theorem dX8_reckonAll_13 : decode cX8_reckonAll 13 = .ok (.iload_n 2, 1) := by decide +kernel
theorem dX8_reckonAll_14 : decode cX8_reckonAll 14 = .ok (.aload_n 0, 1) := by decide +kernel
theorem dX8_reckonAll_15 : decode cX8_reckonAll 15 = .ok (.aload_n 1, 1) := by decide +kernel
theorem dX8_reckonAll_16 : decode cX8_reckonAll 16 = .ok (.iload_n 2, 1) := by decide +kernel
theorem dX8_reckonAll_17 : decode cX8_reckonAll 17 = .ok (.invokevirtual 146, 3) := by decide +kernel
theorem dX8_reckonAll_20 : decode cX8_reckonAll 20 = .ok (.iastore, 1) := by decide +kernel
theorem dX8_reckonAll_21 : decode cX8_reckonAll 21 = .ok (.aload_n 0, 1) := by decide +kernel
theorem dX8_reckonAll_22 : decode cX8_reckonAll 22 = .ok (.getfield 53, 3) := by decide +kernel
theorem dX8_reckonAll_25 : decode cX8_reckonAll 25 = .ok (.iload_n 2, 1) := by decide +kernel
theorem dX8_reckonAll_26 : decode cX8_reckonAll 26 = .ok (.aload_n 0, 1) := by decide +kernel
theorem dX8_reckonAll_27 : decode cX8_reckonAll 27 = .ok (.getfield 129, 3) := by decide +kernel
theorem dX8_reckonAll_30 : decode cX8_reckonAll 30 = .ok (.iastore, 1) := by decide +kernel
theorem dX8_reckonAll_31 : decode cX8_reckonAll 31 = .ok (.iinc 2 1, 3) := by decide +kernel
theorem dX8_reckonAll_34 : decode cX8_reckonAll 34 = .ok (.goto (-32), 3) := by decide +kernel
theorem dX8_reckonAll_37 : decode cX8_reckonAll 37 = .ok (.return_, 1) := by decide +kernel
theorem dX8_place_0 : decode cX8_place 0 = .ok (.iconst 0, 1) := by decide +kernel
theorem dX8_place_1 : decode cX8_place 1 = .ok (.istore_n 3, 1) := by decide +kernel
theorem dX8_place_2 : decode cX8_place 2 = .ok (.iconst 0, 1) := by decide +kernel
theorem dX8_place_3 : decode cX8_place 3 = .ok (.istore 4, 2) := by decide +kernel
theorem dX8_place_5 : decode cX8_place 5 = .ok (.iload 4, 2) := by decide +kernel
theorem dX8_place_7 : decode cX8_place 7 = .ok (.aload_n 1, 1) := by decide +kernel
theorem dX8_place_8 : decode cX8_place 8 = .ok (.iconst 0, 1) := by decide +kernel
theorem dX8_place_9 : decode cX8_place 9 = .ok (.iaload, 1) := by decide +kernel
theorem dX8_place_10 : decode cX8_place 10 = .ok (.if_icmp .ge 99, 3) := by decide +kernel
theorem dX8_place_13 : decode cX8_place 13 = .ok (.aload_n 0, 1) := by decide +kernel
theorem dX8_place_14 : decode cX8_place 14 = .ok (.getfield 50, 3) := by decide +kernel
theorem dX8_place_17 : decode cX8_place 17 = .ok (.iload 4, 2) := by decide +kernel
theorem dX8_place_19 : decode cX8_place 19 = .ok (.iaload, 1) := by decide +kernel
theorem dX8_place_20 : decode cX8_place 20 = .ok (.aload_n 0, 1) := by decide +kernel
theorem dX8_place_21 : decode cX8_place 21 = .ok (.getfield 50, 3) := by decide +kernel
theorem dX8_place_24 : decode cX8_place 24 = .ok (.iload_n 2, 1) := by decide +kernel
theorem dX8_place_25 : decode cX8_place 25 = .ok (.iaload, 1) := by decide +kernel
theorem dX8_place_26 : decode cX8_place 26 = .ok (.if_icmp .gt 57, 3) := by decide +kernel
theorem dX8_place_29 : decode cX8_place 29 = .ok (.aload_n 0, 1) := by decide +kernel
theorem dX8_place_30 : decode cX8_place 30 = .ok (.getfield 50, 3) := by decide +kernel
theorem dX8_place_33 : decode cX8_place 33 = .ok (.iload 4, 2) := by decide +kernel
theorem dX8_place_35 : decode cX8_place 35 = .ok (.iaload, 1) := by decide +kernel
theorem dX8_place_36 : decode cX8_place 36 = .ok (.aload_n 0, 1) := by decide +kernel
theorem dX8_place_37 : decode cX8_place 37 = .ok (.getfield 50, 3) := by decide +kernel
theorem dX8_place_40 : decode cX8_place 40 = .ok (.iload_n 2, 1) := by decide +kernel
theorem dX8_place_41 : decode cX8_place 41 = .ok (.iaload, 1) := by decide +kernel
theorem dX8_place_42 : decode cX8_place 42 = .ok (.if_icmp .ne 45, 3) := by decide +kernel
theorem dX8_place_45 : decode cX8_place 45 = .ok (.aload_n 0, 1) := by decide +kernel
theorem dX8_place_46 : decode cX8_place 46 = .ok (.getfield 53, 3) := by decide +kernel
theorem dX8_place_49 : decode cX8_place 49 = .ok (.iload 4, 2) := by decide +kernel
theorem dX8_place_51 : decode cX8_place 51 = .ok (.iaload, 1) := by decide +kernel
theorem dX8_place_52 : decode cX8_place 52 = .ok (.aload_n 0, 1) := by decide +kernel
theorem dX8_place_53 : decode cX8_place 53 = .ok (.getfield 53, 3) := by decide +kernel
theorem dX8_place_56 : decode cX8_place 56 = .ok (.iload_n 2, 1) := by decide +kernel
theorem dX8_place_57 : decode cX8_place 57 = .ok (.iaload, 1) := by decide +kernel
theorem dX8_place_58 : decode cX8_place 58 = .ok (.if_icmp .gt 25, 3) := by decide +kernel
theorem dX8_place_61 : decode cX8_place 61 = .ok (.aload_n 0, 1) := by decide +kernel
theorem dX8_place_62 : decode cX8_place 62 = .ok (.getfield 53, 3) := by decide +kernel
theorem dX8_place_65 : decode cX8_place 65 = .ok (.iload 4, 2) := by decide +kernel
theorem dX8_place_67 : decode cX8_place 67 = .ok (.iaload, 1) := by decide +kernel
theorem dX8_place_68 : decode cX8_place 68 = .ok (.aload_n 0, 1) := by decide +kernel
theorem dX8_place_69 : decode cX8_place 69 = .ok (.getfield 53, 3) := by decide +kernel
theorem dX8_place_72 : decode cX8_place 72 = .ok (.iload_n 2, 1) := by decide +kernel
theorem dX8_place_73 : decode cX8_place 73 = .ok (.iaload, 1) := by decide +kernel
theorem dX8_place_74 : decode cX8_place 74 = .ok (.if_icmp .ne 13, 3) := by decide +kernel
theorem dX8_place_77 : decode cX8_place 77 = .ok (.iload 4, 2) := by decide +kernel
theorem dX8_place_79 : decode cX8_place 79 = .ok (.iload_n 2, 1) := by decide +kernel
theorem dX8_place_80 : decode cX8_place 80 = .ok (.if_icmp .ge 7, 3) := by decide +kernel
theorem dX8_place_83 : decode cX8_place 83 = .ok (.iconst 1, 1) := by decide +kernel
theorem dX8_place_84 : decode cX8_place 84 = .ok (.goto 4, 3) := by decide +kernel
theorem dX8_place_87 : decode cX8_place 87 = .ok (.iconst 0, 1) := by decide +kernel
theorem dX8_place_88 : decode cX8_place 88 = .ok (.istore 5, 2) := by decide +kernel
theorem dX8_place_90 : decode cX8_place 90 = .ok (.iload_n 3, 1) := by decide +kernel
theorem dX8_place_91 : decode cX8_place 91 = .ok (.iload 5, 2) := by decide +kernel
theorem dX8_place_93 : decode cX8_place 93 = .ok (.ifCond .eq 7, 3) := by decide +kernel
theorem dX8_place_96 : decode cX8_place 96 = .ok (.iconst 1, 1) := by decide +kernel
theorem dX8_place_97 : decode cX8_place 97 = .ok (.goto 4, 3) := by decide +kernel
theorem dX8_place_100 : decode cX8_place 100 = .ok (.iconst 0, 1) := by decide +kernel
theorem dX8_place_101 : decode cX8_place 101 = .ok (.iadd, 1) := by decide +kernel
theorem dX8_place_102 : decode cX8_place 102 = .ok (.istore_n 3, 1) := by decide +kernel
theorem dX8_place_103 : decode cX8_place 103 = .ok (.iinc 4 1, 3) := by decide +kernel
theorem dX8_place_106 : decode cX8_place 106 = .ok (.goto (-101), 3) := by decide +kernel
theorem dX8_place_109 : decode cX8_place 109 = .ok (.iload_n 3, 1) := by decide +kernel
theorem dX8_place_110 : decode cX8_place 110 = .ok (.ireturn, 1) := by decide +kernel
theorem dX8_first_0 : decode cX8_first 0 = .ok (.aload_n 0, 1) := by decide +kernel
theorem dX8_first_1 : decode cX8_first 1 = .ok (.aload_n 1, 1) := by decide +kernel
theorem dX8_first_2 : decode cX8_first 2 = .ok (.invokevirtual 149, 3) := by decide +kernel
theorem dX8_first_5 : decode cX8_first 5 = .ok (.iconst 0, 1) := by decide +kernel
theorem dX8_first_6 : decode cX8_first 6 = .ok (.istore_n 2, 1) := by decide +kernel
theorem dX8_first_7 : decode cX8_first 7 = .ok (.iload_n 2, 1) := by decide +kernel
theorem dX8_first_8 : decode cX8_first 8 = .ok (.aload_n 1, 1) := by decide +kernel
theorem dX8_first_9 : decode cX8_first 9 = .ok (.iconst 0, 1) := by decide +kernel
theorem dX8_first_10 : decode cX8_first 10 = .ok (.iaload, 1) := by decide +kernel
theorem dX8_first_11 : decode cX8_first 11 = .ok (.if_icmp .ge 20, 3) := by decide +kernel
theorem dX8_first_14 : decode cX8_first 14 = .ok (.aload_n 0, 1) := by decide +kernel
theorem dX8_first_15 : decode cX8_first 15 = .ok (.aload_n 1, 1) := by decide +kernel
theorem dX8_first_16 : decode cX8_first 16 = .ok (.iload_n 2, 1) := by decide +kernel
theorem dX8_first_17 : decode cX8_first 17 = .ok (.invokevirtual 153, 3) := by decide +kernel
theorem dX8_first_20 : decode cX8_first 20 = .ok (.ifCond .ne 5, 3) := by decide +kernel
theorem dX8_first_23 : decode cX8_first 23 = .ok (.iload_n 2, 1) := by decide +kernel
theorem dX8_first_24 : decode cX8_first 24 = .ok (.ireturn, 1) := by decide +kernel
theorem dX8_first_25 : decode cX8_first 25 = .ok (.iinc 2 1, 3) := by decide +kernel
theorem dX8_first_28 : decode cX8_first 28 = .ok (.goto (-21), 3) := by decide +kernel
theorem dX8_first_31 : decode cX8_first 31 = .ok (.iconst (-1), 1) := by decide +kernel
theorem dX8_first_32 : decode cX8_first 32 = .ok (.ireturn, 1) := by decide +kernel
theorem dX8_sum_0 : decode cX8_sum 0 = .ok (.iconst 0, 1) := by decide +kernel
theorem dX8_sum_1 : decode cX8_sum 1 = .ok (.istore_n 3, 1) := by decide +kernel
theorem dX8_sum_2 : decode cX8_sum 2 = .ok (.iconst 0, 1) := by decide +kernel
theorem dX8_sum_3 : decode cX8_sum 3 = .ok (.istore 4, 2) := by decide +kernel
theorem dX8_sum_5 : decode cX8_sum 5 = .ok (.iload 4, 2) := by decide +kernel
theorem dX8_sum_7 : decode cX8_sum 7 = .ok (.aload_n 0, 1) := by decide +kernel
theorem dX8_sum_8 : decode cX8_sum 8 = .ok (.iload_n 1, 1) := by decide +kernel
theorem dX8_sum_9 : decode cX8_sum 9 = .ok (.invokestatic 72, 3) := by decide +kernel
theorem dX8_sum_12 : decode cX8_sum 12 = .ok (.iconst 0, 1) := by decide +kernel
theorem dX8_sum_13 : decode cX8_sum 13 = .ok (.iadd, 1) := by decide +kernel
theorem dX8_sum_14 : decode cX8_sum 14 = .ok (.iaload, 1) := by decide +kernel
theorem dX8_sum_15 : decode cX8_sum 15 = .ok (.if_icmp .ge 22, 3) := by decide +kernel
theorem dX8_sum_18 : decode cX8_sum 18 = .ok (.iload_n 3, 1) := by decide +kernel
theorem dX8_sum_19 : decode cX8_sum 19 = .ok (.aload_n 0, 1) := by decide +kernel
theorem dX8_sum_20 : decode cX8_sum 20 = .ok (.iload_n 1, 1) := by decide +kernel
theorem dX8_sum_21 : decode cX8_sum 21 = .ok (.iload 4, 2) := by decide +kernel
theorem dX8_sum_23 : decode cX8_sum 23 = .ok (.invokestatic 60, 3) := by decide +kernel
theorem dX8_sum_26 : decode cX8_sum 26 = .ok (.iload_n 2, 1) := by decide +kernel
theorem dX8_sum_27 : decode cX8_sum 27 = .ok (.iadd, 1) := by decide +kernel
theorem dX8_sum_28 : decode cX8_sum 28 = .ok (.iaload, 1) := by decide +kernel
theorem dX8_sum_29 : decode cX8_sum 29 = .ok (.iadd, 1) := by decide +kernel
theorem dX8_sum_30 : decode cX8_sum 30 = .ok (.istore_n 3, 1) := by decide +kernel
theorem dX8_sum_31 : decode cX8_sum 31 = .ok (.iinc 4 1, 3) := by decide +kernel
theorem dX8_sum_34 : decode cX8_sum 34 = .ok (.goto (-29), 3) := by decide +kernel
theorem dX8_sum_37 : decode cX8_sum 37 = .ok (.iload_n 3, 1) := by decide +kernel
theorem dX8_sum_38 : decode cX8_sum 38 = .ok (.ireturn, 1) := by decide +kernel
theorem dX8_sumOfAll_0 : decode cX8_sumOfAll 0 = .ok (.iconst 0, 1) := by decide +kernel
theorem dX8_sumOfAll_1 : decode cX8_sumOfAll 1 = .ok (.istore_n 2, 1) := by decide +kernel
theorem dX8_sumOfAll_2 : decode cX8_sumOfAll 2 = .ok (.iconst 0, 1) := by decide +kernel
theorem dX8_sumOfAll_3 : decode cX8_sumOfAll 3 = .ok (.istore_n 3, 1) := by decide +kernel
theorem dX8_sumOfAll_4 : decode cX8_sumOfAll 4 = .ok (.iload_n 3, 1) := by decide +kernel
theorem dX8_sumOfAll_5 : decode cX8_sumOfAll 5 = .ok (.aload_n 0, 1) := by decide +kernel
theorem dX8_sumOfAll_6 : decode cX8_sumOfAll 6 = .ok (.iconst 0, 1) := by decide +kernel
theorem dX8_sumOfAll_7 : decode cX8_sumOfAll 7 = .ok (.iaload, 1) := by decide +kernel
theorem dX8_sumOfAll_8 : decode cX8_sumOfAll 8 = .ok (.if_icmp .ge 18, 3) := by decide +kernel
theorem dX8_sumOfAll_11 : decode cX8_sumOfAll 11 = .ok (.iload_n 2, 1) := by decide +kernel
theorem dX8_sumOfAll_12 : decode cX8_sumOfAll 12 = .ok (.aload_n 0, 1) := by decide +kernel
theorem dX8_sumOfAll_13 : decode cX8_sumOfAll 13 = .ok (.iload_n 3, 1) := by decide +kernel
theorem dX8_sumOfAll_14 : decode cX8_sumOfAll 14 = .ok (.iload_n 1, 1) := by decide +kernel
theorem dX8_sumOfAll_15 : decode cX8_sumOfAll 15 = .ok (.invokestatic 156, 3) := by decide +kernel
theorem dX8_sumOfAll_18 : decode cX8_sumOfAll 18 = .ok (.iadd, 1) := by decide +kernel
theorem dX8_sumOfAll_19 : decode cX8_sumOfAll 19 = .ok (.istore_n 2, 1) := by decide +kernel
theorem dX8_sumOfAll_20 : decode cX8_sumOfAll 20 = .ok (.iinc 3 1, 3) := by decide +kernel
theorem dX8_sumOfAll_23 : decode cX8_sumOfAll 23 = .ok (.goto (-19), 3) := by decide +kernel
theorem dX8_sumOfAll_26 : decode cX8_sumOfAll 26 = .ok (.iload_n 2, 1) := by decide +kernel
theorem dX8_sumOfAll_27 : decode cX8_sumOfAll 27 = .ok (.ireturn, 1) := by decide +kernel
theorem dX8_append_0 : decode cX8_append 0 = .ok (.aload_n 0, 1) := by decide +kernel
theorem dX8_append_1 : decode cX8_append 1 = .ok (.iload_n 1, 1) := by decide +kernel
theorem dX8_append_2 : decode cX8_append 2 = .ok (.i2l, 1) := by decide +kernel
theorem dX8_append_3 : decode cX8_append 3 = .ok (.lconst 0, 1) := by decide +kernel
theorem dX8_append_4 : decode cX8_append 4 = .ok (.ldc2_w 159, 3) := by decide +kernel
theorem dX8_append_7 : decode cX8_append 7 = .ok (.invokestatic 64, 3) := by decide +kernel
theorem dX8_append_10 : decode cX8_append 10 = .ok (.ifCond .ne 7, 3) := by decide +kernel
theorem dX8_append_13 : decode cX8_append 13 = .ok (.iconst 1, 1) := by decide +kernel
theorem dX8_append_14 : decode cX8_append 14 = .ok (.goto 17, 3) := by decide +kernel
theorem dX8_append_17 : decode cX8_append 17 = .ok (.aload_n 0, 1) := by decide +kernel
theorem dX8_append_18 : decode cX8_append 18 = .ok (.getfield 161, 3) := by decide +kernel
theorem dX8_append_21 : decode cX8_append 21 = .ok (.bipush 120, 2) := by decide +kernel
theorem dX8_append_23 : decode cX8_append 23 = .ok (.if_icmp .ne 7, 3) := by decide +kernel
theorem dX8_append_26 : decode cX8_append 26 = .ok (.iconst 2, 1) := by decide +kernel
theorem dX8_append_27 : decode cX8_append 27 = .ok (.goto 4, 3) := by decide +kernel
theorem dX8_append_30 : decode cX8_append 30 = .ok (.iconst 0, 1) := by decide +kernel
theorem dX8_append_31 : decode cX8_append 31 = .ok (.invokevirtual 164, 3) := by decide +kernel
theorem dX8_append_34 : decode cX8_append 34 = .ok (.ifCond .eq 5, 3) := by decide +kernel
theorem dX8_append_37 : decode cX8_append 37 = .ok (.iconst 0, 1) := by decide +kernel
theorem dX8_append_38 : decode cX8_append 38 = .ok (.ireturn, 1) := by decide +kernel
theorem dX8_append_39 : decode cX8_append 39 = .ok (.aload_n 0, 1) := by decide +kernel
theorem dX8_append_40 : decode cX8_append 40 = .ok (.getfield 7, 3) := by decide +kernel
theorem dX8_append_43 : decode cX8_append 43 = .ok (.aload_n 0, 1) := by decide +kernel
theorem dX8_append_44 : decode cX8_append 44 = .ok (.getfield 161, 3) := by decide +kernel
theorem dX8_append_47 : decode cX8_append 47 = .ok (.iload_n 1, 1) := by decide +kernel
theorem dX8_append_48 : decode cX8_append 48 = .ok (.iastore, 1) := by decide +kernel
theorem dX8_append_49 : decode cX8_append 49 = .ok (.aload_n 0, 1) := by decide +kernel
theorem dX8_append_50 : decode cX8_append 50 = .ok (.dup, 1) := by decide +kernel
theorem dX8_append_51 : decode cX8_append 51 = .ok (.getfield 161, 3) := by decide +kernel
theorem dX8_append_54 : decode cX8_append 54 = .ok (.iconst 1, 1) := by decide +kernel
theorem dX8_append_55 : decode cX8_append 55 = .ok (.iadd, 1) := by decide +kernel
theorem dX8_append_56 : decode cX8_append 56 = .ok (.putfield 161, 3) := by decide +kernel
theorem dX8_append_59 : decode cX8_append 59 = .ok (.aload_n 0, 1) := by decide +kernel
theorem dX8_append_60 : decode cX8_append 60 = .ok (.getfield 161, 3) := by decide +kernel
theorem dX8_append_63 : decode cX8_append 63 = .ok (.ireturn, 1) := by decide +kernel
theorem dX8_clearText_0 : decode cX8_clearText 0 = .ok (.aload_n 0, 1) := by decide +kernel
theorem dX8_clearText_1 : decode cX8_clearText 1 = .ok (.iconst 0, 1) := by decide +kernel
theorem dX8_clearText_2 : decode cX8_clearText 2 = .ok (.putfield 56, 3) := by decide +kernel
theorem dX8_clearText_5 : decode cX8_clearText 5 = .ok (.aload_n 0, 1) := by decide +kernel
theorem dX8_clearText_6 : decode cX8_clearText 6 = .ok (.getfield 161, 3) := by decide +kernel
theorem dX8_clearText_9 : decode cX8_clearText 9 = .ok (.istore_n 1, 1) := by decide +kernel
theorem dX8_clearText_10 : decode cX8_clearText 10 = .ok (.aload_n 0, 1) := by decide +kernel
theorem dX8_clearText_11 : decode cX8_clearText 11 = .ok (.iconst 0, 1) := by decide +kernel
theorem dX8_clearText_12 : decode cX8_clearText 12 = .ok (.putfield 161, 3) := by decide +kernel
theorem dX8_clearText_15 : decode cX8_clearText 15 = .ok (.iload_n 1, 1) := by decide +kernel
theorem dX8_clearText_16 : decode cX8_clearText 16 = .ok (.ireturn, 1) := by decide +kernel
theorem dX8_here_0 : decode cX8_here 0 = .ok (.aload_n 0, 1) := by decide +kernel
theorem dX8_here_1 : decode cX8_here 1 = .ok (.getfield 168, 3) := by decide +kernel
theorem dX8_here_4 : decode cX8_here 4 = .ok (.aload_n 0, 1) := by decide +kernel
theorem dX8_here_5 : decode cX8_here 5 = .ok (.getfield 161, 3) := by decide +kernel
theorem dX8_here_8 : decode cX8_here 8 = .ok (.if_icmp .ge 15, 3) := by decide +kernel
theorem dX8_here_11 : decode cX8_here 11 = .ok (.aload_n 0, 1) := by decide +kernel
theorem dX8_here_12 : decode cX8_here 12 = .ok (.getfield 7, 3) := by decide +kernel
theorem dX8_here_15 : decode cX8_here 15 = .ok (.aload_n 0, 1) := by decide +kernel
theorem dX8_here_16 : decode cX8_here 16 = .ok (.getfield 168, 3) := by decide +kernel
theorem dX8_here_19 : decode cX8_here 19 = .ok (.iaload, 1) := by decide +kernel
theorem dX8_here_20 : decode cX8_here 20 = .ok (.goto 4, 3) := by decide +kernel
theorem dX8_here_23 : decode cX8_here 23 = .ok (.iconst (-1), 1) := by decide +kernel
theorem dX8_here_24 : decode cX8_here 24 = .ok (.ireturn, 1) := by decide +kernel
theorem dX8_passes_0 : decode cX8_passes 0 = .ok (.aload_n 0, 1) := by decide +kernel
theorem dX8_passes_1 : decode cX8_passes 1 = .ok (.invokevirtual 171, 3) := by decide +kernel
theorem dX8_passes_4 : decode cX8_passes 4 = .ok (.iload_n 1, 1) := by decide +kernel
theorem dX8_passes_5 : decode cX8_passes 5 = .ok (.if_icmp .eq 5, 3) := by decide +kernel
theorem dX8_passes_8 : decode cX8_passes 8 = .ok (.iconst 0, 1) := by decide +kernel
theorem dX8_passes_9 : decode cX8_passes 9 = .ok (.ireturn, 1) := by decide +kernel
theorem dX8_passes_10 : decode cX8_passes 10 = .ok (.aload_n 0, 1) := by decide +kernel
theorem dX8_passes_11 : decode cX8_passes 11 = .ok (.dup, 1) := by decide +kernel
theorem dX8_passes_12 : decode cX8_passes 12 = .ok (.getfield 168, 3) := by decide +kernel
theorem dX8_passes_15 : decode cX8_passes 15 = .ok (.iconst 1, 1) := by decide +kernel
theorem dX8_passes_16 : decode cX8_passes 16 = .ok (.iadd, 1) := by decide +kernel
theorem dX8_passes_17 : decode cX8_passes 17 = .ok (.putfield 168, 3) := by decide +kernel
theorem dX8_passes_20 : decode cX8_passes 20 = .ok (.iconst 1, 1) := by decide +kernel
theorem dX8_passes_21 : decode cX8_passes 21 = .ok (.ireturn, 1) := by decide +kernel
theorem dX8_kindOf_0 : decode cX8_kindOf 0 = .ok (.iload_n 0, 1) := by decide +kernel
theorem dX8_kindOf_1 : decode cX8_kindOf 1 = .ok (.bipush 84, 2) := by decide +kernel
theorem dX8_kindOf_3 : decode cX8_kindOf 3 = .ok (.if_icmp .ne 7, 3) := by decide +kernel
theorem dX8_kindOf_6 : decode cX8_kindOf 6 = .ok (.iconst 0, 1) := by decide +kernel
theorem dX8_kindOf_7 : decode cX8_kindOf 7 = .ok (.goto 54, 3) := by decide +kernel
theorem dX8_kindOf_10 : decode cX8_kindOf 10 = .ok (.iload_n 0, 1) := by decide +kernel
theorem dX8_kindOf_11 : decode cX8_kindOf 11 = .ok (.bipush 83, 2) := by decide +kernel
theorem dX8_kindOf_13 : decode cX8_kindOf 13 = .ok (.if_icmp .ne 7, 3) := by decide +kernel
theorem dX8_kindOf_16 : decode cX8_kindOf 16 = .ok (.iconst 1, 1) := by decide +kernel
theorem dX8_kindOf_17 : decode cX8_kindOf 17 = .ok (.goto 44, 3) := by decide +kernel
theorem dX8_kindOf_20 : decode cX8_kindOf 20 = .ok (.iload_n 0, 1) := by decide +kernel
theorem dX8_kindOf_21 : decode cX8_kindOf 21 = .ok (.bipush 79, 2) := by decide +kernel
theorem dX8_kindOf_23 : decode cX8_kindOf 23 = .ok (.if_icmp .ne 7, 3) := by decide +kernel
theorem dX8_kindOf_26 : decode cX8_kindOf 26 = .ok (.iconst 2, 1) := by decide +kernel
theorem dX8_kindOf_27 : decode cX8_kindOf 27 = .ok (.goto 34, 3) := by decide +kernel
theorem dX8_kindOf_30 : decode cX8_kindOf 30 = .ok (.iload_n 0, 1) := by decide +kernel
theorem dX8_kindOf_31 : decode cX8_kindOf 31 = .ok (.bipush 70, 2) := by decide +kernel
theorem dX8_kindOf_33 : decode cX8_kindOf 33 = .ok (.if_icmp .ne 7, 3) := by decide +kernel
theorem dX8_kindOf_36 : decode cX8_kindOf 36 = .ok (.iconst 3, 1) := by decide +kernel
theorem dX8_kindOf_37 : decode cX8_kindOf 37 = .ok (.goto 24, 3) := by decide +kernel
theorem dX8_kindOf_40 : decode cX8_kindOf 40 = .ok (.iload_n 0, 1) := by decide +kernel
theorem dX8_kindOf_41 : decode cX8_kindOf 41 = .ok (.bipush 90, 2) := by decide +kernel
theorem dX8_kindOf_43 : decode cX8_kindOf 43 = .ok (.if_icmp .ne 7, 3) := by decide +kernel
theorem dX8_kindOf_46 : decode cX8_kindOf 46 = .ok (.iconst 4, 1) := by decide +kernel
theorem dX8_kindOf_47 : decode cX8_kindOf 47 = .ok (.goto 14, 3) := by decide +kernel
theorem dX8_kindOf_50 : decode cX8_kindOf 50 = .ok (.iload_n 0, 1) := by decide +kernel
theorem dX8_kindOf_51 : decode cX8_kindOf 51 = .ok (.bipush 65, 2) := by decide +kernel
theorem dX8_kindOf_53 : decode cX8_kindOf 53 = .ok (.if_icmp .ne 7, 3) := by decide +kernel
theorem dX8_kindOf_56 : decode cX8_kindOf 56 = .ok (.iconst 5, 1) := by decide +kernel
theorem dX8_kindOf_57 : decode cX8_kindOf 57 = .ok (.goto 4, 3) := by decide +kernel
theorem dX8_kindOf_60 : decode cX8_kindOf 60 = .ok (.iconst (-1), 1) := by decide +kernel
theorem dX8_kindOf_61 : decode cX8_kindOf 61 = .ok (.ireturn, 1) := by decide +kernel
theorem dX8_hasEdge_0 : decode cX8_hasEdge 0 = .ok (.iload_n 0, 1) := by decide +kernel
theorem dX8_hasEdge_1 : decode cX8_hasEdge 1 = .ok (.iconst 3, 1) := by decide +kernel
theorem dX8_hasEdge_2 : decode cX8_hasEdge 2 = .ok (.if_icmp .eq 8, 3) := by decide +kernel
theorem dX8_hasEdge_5 : decode cX8_hasEdge 5 = .ok (.iload_n 0, 1) := by decide +kernel
theorem dX8_hasEdge_6 : decode cX8_hasEdge 6 = .ok (.iconst 4, 1) := by decide +kernel
theorem dX8_hasEdge_7 : decode cX8_hasEdge 7 = .ok (.if_icmp .ne 7, 3) := by decide +kernel
theorem dX8_hasEdge_10 : decode cX8_hasEdge 10 = .ok (.iconst 1, 1) := by decide +kernel
theorem dX8_hasEdge_11 : decode cX8_hasEdge 11 = .ok (.goto 4, 3) := by decide +kernel
theorem dX8_hasEdge_14 : decode cX8_hasEdge 14 = .ok (.iconst 0, 1) := by decide +kernel
theorem dX8_hasEdge_15 : decode cX8_hasEdge 15 = .ok (.ireturn, 1) := by decide +kernel
theorem dX8_readJump_0 : decode cX8_readJump 0 = .ok (.aload_n 0, 1) := by decide +kernel
theorem dX8_readJump_1 : decode cX8_readJump 1 = .ok (.invokevirtual 171, 3) := by decide +kernel
theorem dX8_readJump_4 : decode cX8_readJump 4 = .ok (.i2l, 1) := by decide +kernel
theorem dX8_readJump_5 : decode cX8_readJump 5 = .ok (.ldc2_w 175, 3) := by decide +kernel
theorem dX8_readJump_8 : decode cX8_readJump 8 = .ok (.ldc2_w 177, 3) := by decide +kernel
theorem dX8_readJump_11 : decode cX8_readJump 11 = .ok (.invokestatic 64, 3) := by decide +kernel
theorem dX8_readJump_14 : decode cX8_readJump 14 = .ok (.ifCond .ne 5, 3) := by decide +kernel
theorem dX8_readJump_17 : decode cX8_readJump 17 = .ok (.iconst 0, 1) := by decide +kernel
theorem dX8_readJump_18 : decode cX8_readJump 18 = .ok (.ireturn, 1) := by decide +kernel
theorem dX8_readJump_19 : decode cX8_readJump 19 = .ok (.aload_n 0, 1) := by decide +kernel
theorem dX8_readJump_20 : decode cX8_readJump 20 = .ok (.getfield 29, 3) := by decide +kernel
theorem dX8_readJump_23 : decode cX8_readJump 23 = .ok (.iload_n 1, 1) := by decide +kernel
theorem dX8_readJump_24 : decode cX8_readJump 24 = .ok (.iconst 1, 1) := by decide +kernel
theorem dX8_readJump_25 : decode cX8_readJump 25 = .ok (.iadd, 1) := by decide +kernel
theorem dX8_readJump_26 : decode cX8_readJump 26 = .ok (.aload_n 0, 1) := by decide +kernel
theorem dX8_readJump_27 : decode cX8_readJump 27 = .ok (.invokevirtual 171, 3) := by decide +kernel
theorem dX8_readJump_30 : decode cX8_readJump 30 = .ok (.bipush 48, 2) := by decide +kernel
theorem dX8_readJump_32 : decode cX8_readJump 32 = .ok (.isub, 1) := by decide +kernel
theorem dX8_readJump_33 : decode cX8_readJump 33 = .ok (.iastore, 1) := by decide +kernel
theorem dX8_readJump_34 : decode cX8_readJump 34 = .ok (.aload_n 0, 1) := by decide +kernel
theorem dX8_readJump_35 : decode cX8_readJump 35 = .ok (.dup, 1) := by decide +kernel
theorem dX8_readJump_36 : decode cX8_readJump 36 = .ok (.getfield 168, 3) := by decide +kernel
theorem dX8_readJump_39 : decode cX8_readJump 39 = .ok (.iconst 1, 1) := by decide +kernel
theorem dX8_readJump_40 : decode cX8_readJump 40 = .ok (.iadd, 1) := by decide +kernel
theorem dX8_readJump_41 : decode cX8_readJump 41 = .ok (.putfield 168, 3) := by decide +kernel
theorem dX8_readJump_44 : decode cX8_readJump 44 = .ok (.aload_n 0, 1) := by decide +kernel
theorem dX8_readJump_45 : decode cX8_readJump 45 = .ok (.invokevirtual 171, 3) := by decide +kernel
theorem dX8_readJump_48 : decode cX8_readJump 48 = .ok (.invokestatic 179, 3) := by decide +kernel
theorem dX8_readJump_51 : decode cX8_readJump 51 = .ok (.istore_n 2, 1) := by decide +kernel
theorem dX8_readJump_52 : decode cX8_readJump 52 = .ok (.iload_n 2, 1) := by decide +kernel
theorem dX8_readJump_53 : decode cX8_readJump 53 = .ok (.iconst (-1), 1) := by decide +kernel
theorem dX8_readJump_54 : decode cX8_readJump 54 = .ok (.if_icmp .ne 5, 3) := by decide +kernel
theorem dX8_readJump_57 : decode cX8_readJump 57 = .ok (.iconst 0, 1) := by decide +kernel
theorem dX8_readJump_58 : decode cX8_readJump 58 = .ok (.ireturn, 1) := by decide +kernel
theorem dX8_readJump_59 : decode cX8_readJump 59 = .ok (.aload_n 0, 1) := by decide +kernel
theorem dX8_readJump_60 : decode cX8_readJump 60 = .ok (.dup, 1) := by decide +kernel
theorem dX8_readJump_61 : decode cX8_readJump 61 = .ok (.getfield 168, 3) := by decide +kernel
theorem dX8_readJump_64 : decode cX8_readJump 64 = .ok (.iconst 1, 1) := by decide +kernel
theorem dX8_readJump_65 : decode cX8_readJump 65 = .ok (.iadd, 1) := by decide +kernel
theorem dX8_readJump_66 : decode cX8_readJump 66 = .ok (.putfield 168, 3) := by decide +kernel
theorem dX8_readJump_69 : decode cX8_readJump 69 = .ok (.aload_n 0, 1) := by decide +kernel
theorem dX8_readJump_70 : decode cX8_readJump 70 = .ok (.getfield 29, 3) := by decide +kernel
theorem dX8_readJump_73 : decode cX8_readJump 73 = .ok (.iload_n 1, 1) := by decide +kernel
theorem dX8_readJump_74 : decode cX8_readJump 74 = .ok (.iload_n 2, 1) := by decide +kernel
theorem dX8_readJump_75 : decode cX8_readJump 75 = .ok (.iastore, 1) := by decide +kernel
theorem dX8_readJump_76 : decode cX8_readJump 76 = .ok (.aload_n 0, 1) := by decide +kernel
theorem dX8_readJump_77 : decode cX8_readJump 77 = .ok (.getfield 29, 3) := by decide +kernel
theorem dX8_readJump_80 : decode cX8_readJump 80 = .ok (.iload_n 1, 1) := by decide +kernel
theorem dX8_readJump_81 : decode cX8_readJump 81 = .ok (.iconst 2, 1) := by decide +kernel
theorem dX8_readJump_82 : decode cX8_readJump 82 = .ok (.iadd, 1) := by decide +kernel
theorem dX8_readJump_83 : decode cX8_readJump 83 = .ok (.aload_n 0, 1) := by decide +kernel
theorem dX8_readJump_84 : decode cX8_readJump 84 = .ok (.bipush 60, 2) := by decide +kernel
theorem dX8_readJump_86 : decode cX8_readJump 86 = .ok (.invokevirtual 182, 3) := by decide +kernel
theorem dX8_readJump_89 : decode cX8_readJump 89 = .ok (.ifCond .eq 7, 3) := by decide +kernel
theorem dX8_readJump_92 : decode cX8_readJump 92 = .ok (.iconst 1, 1) := by decide +kernel
theorem dX8_readJump_93 : decode cX8_readJump 93 = .ok (.goto 37, 3) := by decide +kernel
theorem dX8_readJump_96 : decode cX8_readJump 96 = .ok (.aload_n 0, 1) := by decide +kernel
theorem dX8_readJump_97 : decode cX8_readJump 97 = .ok (.bipush 33, 2) := by decide +kernel
theorem dX8_readJump_99 : decode cX8_readJump 99 = .ok (.invokevirtual 182, 3) := by decide +kernel
theorem dX8_readJump_102 : decode cX8_readJump 102 = .ok (.ifCond .eq 7, 3) := by decide +kernel
theorem dX8_readJump_105 : decode cX8_readJump 105 = .ok (.iconst 2, 1) := by decide +kernel
theorem dX8_readJump_106 : decode cX8_readJump 106 = .ok (.goto 24, 3) := by decide +kernel
theorem dX8_readJump_109 : decode cX8_readJump 109 = .ok (.iload_n 2, 1) := by decide +kernel
theorem dX8_readJump_110 : decode cX8_readJump 110 = .ok (.invokestatic 185, 3) := by decide +kernel
theorem dX8_readJump_113 : decode cX8_readJump 113 = .ok (.ifCond .eq 16, 3) := by decide +kernel
theorem dX8_readJump_116 : decode cX8_readJump 116 = .ok (.aload_n 0, 1) := by decide +kernel
theorem dX8_readJump_117 : decode cX8_readJump 117 = .ok (.bipush 101, 2) := by decide +kernel
theorem dX8_readJump_119 : decode cX8_readJump 119 = .ok (.invokevirtual 182, 3) := by decide +kernel
theorem dX8_readJump_122 : decode cX8_readJump 122 = .ok (.ifCond .eq 7, 3) := by decide +kernel
theorem dX8_readJump_125 : decode cX8_readJump 125 = .ok (.iconst 3, 1) := by decide +kernel
theorem dX8_readJump_126 : decode cX8_readJump 126 = .ok (.goto 4, 3) := by decide +kernel
theorem dX8_readJump_129 : decode cX8_readJump 129 = .ok (.iconst 0, 1) := by decide +kernel
theorem dX8_readJump_130 : decode cX8_readJump 130 = .ok (.iastore, 1) := by decide +kernel
theorem dX8_readJump_131 : decode cX8_readJump 131 = .ok (.iconst 1, 1) := by decide +kernel
theorem dX8_readJump_132 : decode cX8_readJump 132 = .ok (.ireturn, 1) := by decide +kernel
theorem dX8_readElement_0 : decode cX8_readElement 0 = .ok (.aload_n 0, 1) := by decide +kernel
theorem dX8_readElement_1 : decode cX8_readElement 1 = .ok (.bipush 112, 2) := by decide +kernel
theorem dX8_readElement_3 : decode cX8_readElement 3 = .ok (.invokevirtual 182, 3) := by decide +kernel
theorem dX8_readElement_6 : decode cX8_readElement 6 = .ok (.ifCond .eq 7, 3) := by decide +kernel
theorem dX8_readElement_9 : decode cX8_readElement 9 = .ok (.iconst 1, 1) := by decide +kernel
theorem dX8_readElement_10 : decode cX8_readElement 10 = .ok (.goto 17, 3) := by decide +kernel
theorem dX8_readElement_13 : decode cX8_readElement 13 = .ok (.aload_n 0, 1) := by decide +kernel
theorem dX8_readElement_14 : decode cX8_readElement 14 = .ok (.bipush 115, 2) := by decide +kernel
theorem dX8_readElement_16 : decode cX8_readElement 16 = .ok (.invokevirtual 182, 3) := by decide +kernel
theorem dX8_readElement_19 : decode cX8_readElement 19 = .ok (.ifCond .eq 7, 3) := by decide +kernel
theorem dX8_readElement_22 : decode cX8_readElement 22 = .ok (.iconst 2, 1) := by decide +kernel
theorem dX8_readElement_23 : decode cX8_readElement 23 = .ok (.goto 4, 3) := by decide +kernel
theorem dX8_readElement_26 : decode cX8_readElement 26 = .ok (.iconst 0, 1) := by decide +kernel
theorem dX8_readElement_27 : decode cX8_readElement 27 = .ok (.istore_n 2, 1) := by decide +kernel
theorem dX8_readElement_28 : decode cX8_readElement 28 = .ok (.aload_n 0, 1) := by decide +kernel
theorem dX8_readElement_29 : decode cX8_readElement 29 = .ok (.getfield 29, 3) := by decide +kernel
theorem dX8_readElement_32 : decode cX8_readElement 32 = .ok (.iload_n 1, 1) := by decide +kernel
theorem dX8_readElement_33 : decode cX8_readElement 33 = .ok (.iconst 0, 1) := by decide +kernel
theorem dX8_readElement_34 : decode cX8_readElement 34 = .ok (.iadd, 1) := by decide +kernel
theorem dX8_readElement_35 : decode cX8_readElement 35 = .ok (.iload_n 2, 1) := by decide +kernel
theorem dX8_readElement_36 : decode cX8_readElement 36 = .ok (.iastore, 1) := by decide +kernel
theorem dX8_readElement_37 : decode cX8_readElement 37 = .ok (.iload_n 2, 1) := by decide +kernel
theorem dX8_readElement_38 : decode cX8_readElement 38 = .ok (.ifCond .eq 69, 3) := by decide +kernel
theorem dX8_readElement_41 : decode cX8_readElement 41 = .ok (.aload_n 0, 1) := by decide +kernel
theorem dX8_readElement_42 : decode cX8_readElement 42 = .ok (.invokevirtual 171, 3) := by decide +kernel
theorem dX8_readElement_45 : decode cX8_readElement 45 = .ok (.i2l, 1) := by decide +kernel
theorem dX8_readElement_46 : decode cX8_readElement 46 = .ok (.ldc2_w 188, 3) := by decide +kernel
theorem dX8_readElement_49 : decode cX8_readElement 49 = .ok (.ldc2_w 177, 3) := by decide +kernel
theorem dX8_readElement_52 : decode cX8_readElement 52 = .ok (.invokestatic 64, 3) := by decide +kernel
theorem dX8_readElement_55 : decode cX8_readElement 55 = .ok (.ifCond .ne 5, 3) := by decide +kernel
theorem dX8_readElement_58 : decode cX8_readElement 58 = .ok (.iconst 0, 1) := by decide +kernel
theorem dX8_readElement_59 : decode cX8_readElement 59 = .ok (.ireturn, 1) := by decide +kernel
theorem dX8_readElement_60 : decode cX8_readElement 60 = .ok (.aload_n 0, 1) := by decide +kernel
theorem dX8_readElement_61 : decode cX8_readElement 61 = .ok (.getfield 29, 3) := by decide +kernel
theorem dX8_readElement_64 : decode cX8_readElement 64 = .ok (.iload_n 1, 1) := by decide +kernel
theorem dX8_readElement_65 : decode cX8_readElement 65 = .ok (.iconst 1, 1) := by decide +kernel
theorem dX8_readElement_66 : decode cX8_readElement 66 = .ok (.iadd, 1) := by decide +kernel
theorem dX8_readElement_67 : decode cX8_readElement 67 = .ok (.iconst 1, 1) := by decide +kernel
theorem dX8_readElement_68 : decode cX8_readElement 68 = .ok (.iastore, 1) := by decide +kernel
theorem dX8_readElement_69 : decode cX8_readElement 69 = .ok (.aload_n 0, 1) := by decide +kernel
theorem dX8_readElement_70 : decode cX8_readElement 70 = .ok (.getfield 29, 3) := by decide +kernel
theorem dX8_readElement_73 : decode cX8_readElement 73 = .ok (.iload_n 1, 1) := by decide +kernel
theorem dX8_readElement_74 : decode cX8_readElement 74 = .ok (.iconst 2, 1) := by decide +kernel
theorem dX8_readElement_75 : decode cX8_readElement 75 = .ok (.iadd, 1) := by decide +kernel
theorem dX8_readElement_76 : decode cX8_readElement 76 = .ok (.iconst (-1), 1) := by decide +kernel
theorem dX8_readElement_77 : decode cX8_readElement 77 = .ok (.iastore, 1) := by decide +kernel
theorem dX8_readElement_78 : decode cX8_readElement 78 = .ok (.aload_n 0, 1) := by decide +kernel
theorem dX8_readElement_79 : decode cX8_readElement 79 = .ok (.getfield 29, 3) := by decide +kernel
theorem dX8_readElement_82 : decode cX8_readElement 82 = .ok (.iload_n 1, 1) := by decide +kernel
theorem dX8_readElement_83 : decode cX8_readElement 83 = .ok (.iconst 2, 1) := by decide +kernel
theorem dX8_readElement_84 : decode cX8_readElement 84 = .ok (.iadd, 1) := by decide +kernel
theorem dX8_readElement_85 : decode cX8_readElement 85 = .ok (.iconst 1, 1) := by decide +kernel
theorem dX8_readElement_86 : decode cX8_readElement 86 = .ok (.iadd, 1) := by decide +kernel
theorem dX8_readElement_87 : decode cX8_readElement 87 = .ok (.aload_n 0, 1) := by decide +kernel
theorem dX8_readElement_88 : decode cX8_readElement 88 = .ok (.invokevirtual 171, 3) := by decide +kernel
theorem dX8_readElement_91 : decode cX8_readElement 91 = .ok (.bipush 48, 2) := by decide +kernel
theorem dX8_readElement_93 : decode cX8_readElement 93 = .ok (.isub, 1) := by decide +kernel
theorem dX8_readElement_94 : decode cX8_readElement 94 = .ok (.iastore, 1) := by decide +kernel
theorem dX8_readElement_95 : decode cX8_readElement 95 = .ok (.aload_n 0, 1) := by decide +kernel
theorem dX8_readElement_96 : decode cX8_readElement 96 = .ok (.dup, 1) := by decide +kernel
theorem dX8_readElement_97 : decode cX8_readElement 97 = .ok (.getfield 168, 3) := by decide +kernel
theorem dX8_readElement_100 : decode cX8_readElement 100 = .ok (.iconst 1, 1) := by decide +kernel
theorem dX8_readElement_101 : decode cX8_readElement 101 = .ok (.iadd, 1) := by decide +kernel
theorem dX8_readElement_102 : decode cX8_readElement 102 = .ok (.putfield 168, 3) := by decide +kernel
theorem dX8_readElement_105 : decode cX8_readElement 105 = .ok (.iconst 1, 1) := by decide +kernel
theorem dX8_readElement_106 : decode cX8_readElement 106 = .ok (.ireturn, 1) := by decide +kernel
theorem dX8_readElement_107 : decode cX8_readElement 107 = .ok (.iconst 1, 1) := by decide +kernel
theorem dX8_readElement_108 : decode cX8_readElement 108 = .ok (.istore_n 3, 1) := by decide +kernel
theorem dX8_readElement_109 : decode cX8_readElement 109 = .ok (.iload_n 3, 1) := by decide +kernel
theorem dX8_readElement_110 : decode cX8_readElement 110 = .ok (.ifCond .eq 68, 3) := by decide +kernel
theorem dX8_readElement_113 : decode cX8_readElement 113 = .ok (.aload_n 0, 1) := by decide +kernel
theorem dX8_readElement_114 : decode cX8_readElement 114 = .ok (.iload_n 1, 1) := by decide +kernel
theorem dX8_readElement_115 : decode cX8_readElement 115 = .ok (.iconst 2, 1) := by decide +kernel
theorem dX8_readElement_116 : decode cX8_readElement 116 = .ok (.iadd, 1) := by decide +kernel
theorem dX8_readElement_117 : decode cX8_readElement 117 = .ok (.iconst 3, 1) := by decide +kernel
theorem dX8_readElement_118 : decode cX8_readElement 118 = .ok (.aload_n 0, 1) := by decide +kernel
theorem dX8_readElement_119 : decode cX8_readElement 119 = .ok (.getfield 29, 3) := by decide +kernel
theorem dX8_readElement_122 : decode cX8_readElement 122 = .ok (.iload_n 1, 1) := by decide +kernel
theorem dX8_readElement_123 : decode cX8_readElement 123 = .ok (.iconst 1, 1) := by decide +kernel
theorem dX8_readElement_124 : decode cX8_readElement 124 = .ok (.iadd, 1) := by decide +kernel
theorem dX8_readElement_125 : decode cX8_readElement 125 = .ok (.iaload, 1) := by decide +kernel
theorem dX8_readElement_126 : decode cX8_readElement 126 = .ok (.imul, 1) := by decide +kernel
theorem dX8_readElement_127 : decode cX8_readElement 127 = .ok (.iadd, 1) := by decide +kernel
theorem dX8_readElement_128 : decode cX8_readElement 128 = .ok (.invokevirtual 190, 3) := by decide +kernel
theorem dX8_readElement_131 : decode cX8_readElement 131 = .ok (.ifCond .ne 5, 3) := by decide +kernel
theorem dX8_readElement_134 : decode cX8_readElement 134 = .ok (.iconst 0, 1) := by decide +kernel
theorem dX8_readElement_135 : decode cX8_readElement 135 = .ok (.ireturn, 1) := by decide +kernel
theorem dX8_readElement_136 : decode cX8_readElement 136 = .ok (.aload_n 0, 1) := by decide +kernel
theorem dX8_readElement_137 : decode cX8_readElement 137 = .ok (.getfield 29, 3) := by decide +kernel
theorem dX8_readElement_140 : decode cX8_readElement 140 = .ok (.iload_n 1, 1) := by decide +kernel
theorem dX8_readElement_141 : decode cX8_readElement 141 = .ok (.iconst 1, 1) := by decide +kernel
theorem dX8_readElement_142 : decode cX8_readElement 142 = .ok (.iadd, 1) := by decide +kernel
theorem dX8_readElement_143 : decode cX8_readElement 143 = .ok (.dup2, 1) := by decide +kernel
theorem dX8_readElement_144 : decode cX8_readElement 144 = .ok (.iaload, 1) := by decide +kernel
theorem dX8_readElement_145 : decode cX8_readElement 145 = .ok (.iconst 1, 1) := by decide +kernel
theorem dX8_readElement_146 : decode cX8_readElement 146 = .ok (.iadd, 1) := by decide +kernel
theorem dX8_readElement_147 : decode cX8_readElement 147 = .ok (.iastore, 1) := by decide +kernel
theorem dX8_readElement_148 : decode cX8_readElement 148 = .ok (.aload_n 0, 1) := by decide +kernel
theorem dX8_readElement_149 : decode cX8_readElement 149 = .ok (.getfield 29, 3) := by decide +kernel
theorem dX8_readElement_152 : decode cX8_readElement 152 = .ok (.iload_n 1, 1) := by decide +kernel
theorem dX8_readElement_153 : decode cX8_readElement 153 = .ok (.iconst 1, 1) := by decide +kernel
theorem dX8_readElement_154 : decode cX8_readElement 154 = .ok (.iadd, 1) := by decide +kernel
theorem dX8_readElement_155 : decode cX8_readElement 155 = .ok (.iaload, 1) := by decide +kernel
theorem dX8_readElement_156 : decode cX8_readElement 156 = .ok (.iconst 3, 1) := by decide +kernel
theorem dX8_readElement_157 : decode cX8_readElement 157 = .ok (.if_icmp .ge 16, 3) := by decide +kernel
theorem dX8_readElement_160 : decode cX8_readElement 160 = .ok (.aload_n 0, 1) := by decide +kernel
theorem dX8_readElement_161 : decode cX8_readElement 161 = .ok (.bipush 43, 2) := by decide +kernel
theorem dX8_readElement_163 : decode cX8_readElement 163 = .ok (.invokevirtual 182, 3) := by decide +kernel
theorem dX8_readElement_166 : decode cX8_readElement 166 = .ok (.ifCond .eq 7, 3) := by decide +kernel
theorem dX8_readElement_169 : decode cX8_readElement 169 = .ok (.iconst 1, 1) := by decide +kernel
theorem dX8_readElement_170 : decode cX8_readElement 170 = .ok (.goto 4, 3) := by decide +kernel
theorem dX8_readElement_173 : decode cX8_readElement 173 = .ok (.iconst 0, 1) := by decide +kernel
theorem dX8_readElement_174 : decode cX8_readElement 174 = .ok (.istore_n 3, 1) := by decide +kernel
theorem dX8_readElement_175 : decode cX8_readElement 175 = .ok (.goto (-66), 3) := by decide +kernel
theorem dX8_readElement_178 : decode cX8_readElement 178 = .ok (.iconst 1, 1) := by decide +kernel
theorem dX8_readElement_179 : decode cX8_readElement 179 = .ok (.ireturn, 1) := by decide +kernel
theorem dX8_readText_0 : decode cX8_readText 0 = .ok (.iconst 0, 1) := by decide +kernel
theorem dX8_readText_1 : decode cX8_readText 1 = .ok (.istore_n 1, 1) := by decide +kernel
theorem dX8_readText_2 : decode cX8_readText 2 = .ok (.iload_n 1, 1) := by decide +kernel
theorem dX8_readText_3 : decode cX8_readText 3 = .ok (.sipush 233, 3) := by decide +kernel
theorem dX8_readText_6 : decode cX8_readText 6 = .ok (.if_icmp .ge 16, 3) := by decide +kernel
theorem dX8_readText_9 : decode cX8_readText 9 = .ok (.aload_n 0, 1) := by decide +kernel
theorem dX8_readText_10 : decode cX8_readText 10 = .ok (.getfield 29, 3) := by decide +kernel
theorem dX8_readText_13 : decode cX8_readText 13 = .ok (.iload_n 1, 1) := by decide +kernel
theorem dX8_readText_14 : decode cX8_readText 14 = .ok (.iconst 0, 1) := by decide +kernel
theorem dX8_readText_15 : decode cX8_readText 15 = .ok (.iastore, 1) := by decide +kernel
theorem dX8_readText_16 : decode cX8_readText 16 = .ok (.iinc 1 1, 3) := by decide +kernel
theorem dX8_readText_19 : decode cX8_readText 19 = .ok (.goto (-17), 3) := by decide +kernel
theorem dX8_readText_22 : decode cX8_readText 22 = .ok (.aload_n 0, 1) := by decide +kernel
theorem dX8_readText_23 : decode cX8_readText 23 = .ok (.iconst 0, 1) := by decide +kernel
theorem dX8_readText_24 : decode cX8_readText 24 = .ok (.putfield 168, 3) := by decide +kernel
theorem dX8_readText_27 : decode cX8_readText 27 = .ok (.iconst 1, 1) := by decide +kernel
theorem dX8_readText_28 : decode cX8_readText 28 = .ok (.istore_n 1, 1) := by decide +kernel
theorem dX8_readText_29 : decode cX8_readText 29 = .ok (.iload_n 1, 1) := by decide +kernel
theorem dX8_readText_30 : decode cX8_readText 30 = .ok (.ifCond .eq 66, 3) := by decide +kernel
theorem dX8_readText_33 : decode cX8_readText 33 = .ok (.aload_n 0, 1) := by decide +kernel
theorem dX8_readText_34 : decode cX8_readText 34 = .ok (.bipush 17, 2) := by decide +kernel
theorem dX8_readText_36 : decode cX8_readText 36 = .ok (.bipush 18, 2) := by decide +kernel
theorem dX8_readText_38 : decode cX8_readText 38 = .ok (.aload_n 0, 1) := by decide +kernel
theorem dX8_readText_39 : decode cX8_readText 39 = .ok (.getfield 29, 3) := by decide +kernel
theorem dX8_readText_42 : decode cX8_readText 42 = .ok (.iconst 0, 1) := by decide +kernel
theorem dX8_readText_43 : decode cX8_readText 43 = .ok (.iaload, 1) := by decide +kernel
theorem dX8_readText_44 : decode cX8_readText 44 = .ok (.imul, 1) := by decide +kernel
theorem dX8_readText_45 : decode cX8_readText 45 = .ok (.iadd, 1) := by decide +kernel
theorem dX8_readText_46 : decode cX8_readText 46 = .ok (.invokevirtual 193, 3) := by decide +kernel
theorem dX8_readText_49 : decode cX8_readText 49 = .ok (.ifCond .ne 8, 3) := by decide +kernel
theorem dX8_readText_52 : decode cX8_readText 52 = .ok (.aload_n 0, 1) := by decide +kernel
theorem dX8_readText_53 : decode cX8_readText 53 = .ok (.getfield 168, 3) := by decide +kernel
theorem dX8_readText_56 : decode cX8_readText 56 = .ok (.ireturn, 1) := by decide +kernel
theorem dX8_readText_57 : decode cX8_readText 57 = .ok (.aload_n 0, 1) := by decide +kernel
theorem dX8_readText_58 : decode cX8_readText 58 = .ok (.getfield 29, 3) := by decide +kernel
theorem dX8_readText_61 : decode cX8_readText 61 = .ok (.iconst 0, 1) := by decide +kernel
theorem dX8_readText_62 : decode cX8_readText 62 = .ok (.dup2, 1) := by decide +kernel
theorem dX8_readText_63 : decode cX8_readText 63 = .ok (.iaload, 1) := by decide +kernel
theorem dX8_readText_64 : decode cX8_readText 64 = .ok (.iconst 1, 1) := by decide +kernel
theorem dX8_readText_65 : decode cX8_readText 65 = .ok (.iadd, 1) := by decide +kernel
theorem dX8_readText_66 : decode cX8_readText 66 = .ok (.iastore, 1) := by decide +kernel
theorem dX8_readText_67 : decode cX8_readText 67 = .ok (.aload_n 0, 1) := by decide +kernel
theorem dX8_readText_68 : decode cX8_readText 68 = .ok (.getfield 29, 3) := by decide +kernel
theorem dX8_readText_71 : decode cX8_readText 71 = .ok (.iconst 0, 1) := by decide +kernel
theorem dX8_readText_72 : decode cX8_readText 72 = .ok (.iaload, 1) := by decide +kernel
theorem dX8_readText_73 : decode cX8_readText 73 = .ok (.bipush 12, 2) := by decide +kernel
theorem dX8_readText_75 : decode cX8_readText 75 = .ok (.if_icmp .ge 16, 3) := by decide +kernel
theorem dX8_readText_78 : decode cX8_readText 78 = .ok (.aload_n 0, 1) := by decide +kernel
theorem dX8_readText_79 : decode cX8_readText 79 = .ok (.bipush 59, 2) := by decide +kernel
theorem dX8_readText_81 : decode cX8_readText 81 = .ok (.invokevirtual 182, 3) := by decide +kernel
theorem dX8_readText_84 : decode cX8_readText 84 = .ok (.ifCond .eq 7, 3) := by decide +kernel
theorem dX8_readText_87 : decode cX8_readText 87 = .ok (.iconst 1, 1) := by decide +kernel
theorem dX8_readText_88 : decode cX8_readText 88 = .ok (.goto 4, 3) := by decide +kernel
theorem dX8_readText_91 : decode cX8_readText 91 = .ok (.iconst 0, 1) := by decide +kernel
theorem dX8_readText_92 : decode cX8_readText 92 = .ok (.istore_n 1, 1) := by decide +kernel
theorem dX8_readText_93 : decode cX8_readText 93 = .ok (.goto (-64), 3) := by decide +kernel
theorem dX8_readText_96 : decode cX8_readText 96 = .ok (.aload_n 0, 1) := by decide +kernel
theorem dX8_readText_97 : decode cX8_readText 97 = .ok (.getfield 168, 3) := by decide +kernel
theorem dX8_readText_100 : decode cX8_readText 100 = .ok (.aload_n 0, 1) := by decide +kernel
theorem dX8_readText_101 : decode cX8_readText 101 = .ok (.getfield 161, 3) := by decide +kernel
theorem dX8_readText_104 : decode cX8_readText 104 = .ok (.if_icmp .ge 10, 3) := by decide +kernel
theorem dX8_readText_107 : decode cX8_readText 107 = .ok (.aload_n 0, 1) := by decide +kernel
theorem dX8_readText_108 : decode cX8_readText 108 = .ok (.getfield 168, 3) := by decide +kernel
theorem dX8_readText_111 : decode cX8_readText 111 = .ok (.goto 4, 3) := by decide +kernel
theorem dX8_readText_114 : decode cX8_readText 114 = .ok (.iconst (-1), 1) := by decide +kernel
theorem dX8_readText_115 : decode cX8_readText 115 = .ok (.ireturn, 1) := by decide +kernel
theorem dX8_errorPosition_0 : decode cX8_errorPosition 0 = .ok (.aload_n 0, 1) := by decide +kernel
theorem dX8_errorPosition_1 : decode cX8_errorPosition 1 = .ok (.iconst 0, 1) := by decide +kernel
theorem dX8_errorPosition_2 : decode cX8_errorPosition 2 = .ok (.putfield 56, 3) := by decide +kernel
theorem dX8_errorPosition_5 : decode cX8_errorPosition 5 = .ok (.aload_n 0, 1) := by decide +kernel
theorem dX8_errorPosition_6 : decode cX8_errorPosition 6 = .ok (.invokevirtual 196, 3) := by decide +kernel
theorem dX8_errorPosition_9 : decode cX8_errorPosition 9 = .ok (.ireturn, 1) := by decide +kernel
theorem dX8_about_0 : decode cX8_about 0 = .ok (.aload_n 0, 1) := by decide +kernel
theorem dX8_about_1 : decode cX8_about 1 = .ok (.iload_n 1, 1) := by decide +kernel
theorem dX8_about_2 : decode cX8_about 2 = .ok (.i2l, 1) := by decide +kernel
theorem dX8_about_3 : decode cX8_about 3 = .ok (.lconst 0, 1) := by decide +kernel
theorem dX8_about_4 : decode cX8_about 4 = .ok (.ldc2_w 199, 3) := by decide +kernel
theorem dX8_about_7 : decode cX8_about 7 = .ok (.invokestatic 64, 3) := by decide +kernel
theorem dX8_about_10 : decode cX8_about 10 = .ok (.ifCond .eq 7, 3) := by decide +kernel
theorem dX8_about_13 : decode cX8_about 13 = .ok (.iconst 0, 1) := by decide +kernel
theorem dX8_about_14 : decode cX8_about 14 = .ok (.goto 4, 3) := by decide +kernel
theorem dX8_about_17 : decode cX8_about 17 = .ok (.iconst 1, 1) := by decide +kernel
theorem dX8_about_18 : decode cX8_about 18 = .ok (.invokevirtual 164, 3) := by decide +kernel
theorem dX8_about_21 : decode cX8_about 21 = .ok (.ifCond .eq 5, 3) := by decide +kernel
theorem dX8_about_24 : decode cX8_about 24 = .ok (.iconst 0, 1) := by decide +kernel
theorem dX8_about_25 : decode cX8_about 25 = .ok (.ireturn, 1) := by decide +kernel
theorem dX8_about_26 : decode cX8_about 26 = .ok (.iconst 0, 1) := by decide +kernel
theorem dX8_about_27 : decode cX8_about 27 = .ok (.istore_n 2, 1) := by decide +kernel
theorem dX8_about_28 : decode cX8_about 28 = .ok (.iconst 0, 1) := by decide +kernel
theorem dX8_about_29 : decode cX8_about 29 = .ok (.istore_n 3, 1) := by decide +kernel
theorem dX8_about_30 : decode cX8_about 30 = .ok (.iconst 0, 1) := by decide +kernel
theorem dX8_about_31 : decode cX8_about 31 = .ok (.istore 4, 2) := by decide +kernel
theorem dX8_about_33 : decode cX8_about 33 = .ok (.iload 4, 2) := by decide +kernel
theorem dX8_about_35 : decode cX8_about 35 = .ok (.aload_n 0, 1) := by decide +kernel
theorem dX8_about_36 : decode cX8_about 36 = .ok (.getfield 13, 3) := by decide +kernel
theorem dX8_about_39 : decode cX8_about 39 = .ok (.iconst 0, 1) := by decide +kernel
theorem dX8_about_40 : decode cX8_about 40 = .ok (.iaload, 1) := by decide +kernel
theorem dX8_about_41 : decode cX8_about 41 = .ok (.if_icmp .ge 112, 3) := by decide +kernel
theorem dX8_about_44 : decode cX8_about 44 = .ok (.iload_n 2, 1) := by decide +kernel
theorem dX8_about_45 : decode cX8_about 45 = .ok (.aload_n 0, 1) := by decide +kernel
theorem dX8_about_46 : decode cX8_about 46 = .ok (.getfield 13, 3) := by decide +kernel
theorem dX8_about_49 : decode cX8_about 49 = .ok (.iload 4, 2) := by decide +kernel
theorem dX8_about_51 : decode cX8_about 51 = .ok (.invokestatic 72, 3) := by decide +kernel
theorem dX8_about_54 : decode cX8_about 54 = .ok (.iconst 0, 1) := by decide +kernel
theorem dX8_about_55 : decode cX8_about 55 = .ok (.iadd, 1) := by decide +kernel
theorem dX8_about_56 : decode cX8_about 56 = .ok (.iaload, 1) := by decide +kernel
theorem dX8_about_57 : decode cX8_about 57 = .ok (.iadd, 1) := by decide +kernel
theorem dX8_about_58 : decode cX8_about 58 = .ok (.istore_n 2, 1) := by decide +kernel
theorem dX8_about_59 : decode cX8_about 59 = .ok (.aload_n 0, 1) := by decide +kernel
theorem dX8_about_60 : decode cX8_about 60 = .ok (.aload_n 0, 1) := by decide +kernel
theorem dX8_about_61 : decode cX8_about 61 = .ok (.getfield 13, 3) := by decide +kernel
theorem dX8_about_64 : decode cX8_about 64 = .ok (.iload 4, 2) := by decide +kernel
theorem dX8_about_66 : decode cX8_about 66 = .ok (.invokevirtual 146, 3) := by decide +kernel
theorem dX8_about_69 : decode cX8_about 69 = .ok (.pop, 1) := by decide +kernel
theorem dX8_about_70 : decode cX8_about 70 = .ok (.iconst 0, 1) := by decide +kernel
theorem dX8_about_71 : decode cX8_about 71 = .ok (.istore 5, 2) := by decide +kernel
theorem dX8_about_73 : decode cX8_about 73 = .ok (.iload 5, 2) := by decide +kernel
theorem dX8_about_75 : decode cX8_about 75 = .ok (.aload_n 0, 1) := by decide +kernel
theorem dX8_about_76 : decode cX8_about 76 = .ok (.getfield 13, 3) := by decide +kernel
theorem dX8_about_79 : decode cX8_about 79 = .ok (.iload 4, 2) := by decide +kernel
theorem dX8_about_81 : decode cX8_about 81 = .ok (.invokestatic 72, 3) := by decide +kernel
theorem dX8_about_84 : decode cX8_about 84 = .ok (.iconst 0, 1) := by decide +kernel
theorem dX8_about_85 : decode cX8_about 85 = .ok (.iadd, 1) := by decide +kernel
theorem dX8_about_86 : decode cX8_about 86 = .ok (.iaload, 1) := by decide +kernel
theorem dX8_about_87 : decode cX8_about 87 = .ok (.if_icmp .ge 60, 3) := by decide +kernel
theorem dX8_about_90 : decode cX8_about 90 = .ok (.iconst 0, 1) := by decide +kernel
theorem dX8_about_91 : decode cX8_about 91 = .ok (.istore 6, 2) := by decide +kernel
theorem dX8_about_93 : decode cX8_about 93 = .ok (.iload 6, 2) := by decide +kernel
theorem dX8_about_95 : decode cX8_about 95 = .ok (.aload_n 0, 1) := by decide +kernel
theorem dX8_about_96 : decode cX8_about 96 = .ok (.getfield 13, 3) := by decide +kernel
theorem dX8_about_99 : decode cX8_about 99 = .ok (.iload 4, 2) := by decide +kernel
theorem dX8_about_101 : decode cX8_about 101 = .ok (.iload 5, 2) := by decide +kernel
theorem dX8_about_103 : decode cX8_about 103 = .ok (.invokestatic 60, 3) := by decide +kernel
theorem dX8_about_106 : decode cX8_about 106 = .ok (.iconst 1, 1) := by decide +kernel
theorem dX8_about_107 : decode cX8_about 107 = .ok (.iadd, 1) := by decide +kernel
theorem dX8_about_108 : decode cX8_about 108 = .ok (.iaload, 1) := by decide +kernel
theorem dX8_about_109 : decode cX8_about 109 = .ok (.if_icmp .ge 32, 3) := by decide +kernel
theorem dX8_about_112 : decode cX8_about 112 = .ok (.iload_n 3, 1) := by decide +kernel
theorem dX8_about_113 : decode cX8_about 113 = .ok (.aload_n 0, 1) := by decide +kernel
theorem dX8_about_114 : decode cX8_about 114 = .ok (.getfield 35, 3) := by decide +kernel
theorem dX8_about_117 : decode cX8_about 117 = .ok (.iconst 3, 1) := by decide +kernel
theorem dX8_about_118 : decode cX8_about 118 = .ok (.iload 5, 2) := by decide +kernel
theorem dX8_about_120 : decode cX8_about 120 = .ok (.imul, 1) := by decide +kernel
theorem dX8_about_121 : decode cX8_about 121 = .ok (.iload 6, 2) := by decide +kernel
theorem dX8_about_123 : decode cX8_about 123 = .ok (.iadd, 1) := by decide +kernel
theorem dX8_about_124 : decode cX8_about 124 = .ok (.iaload, 1) := by decide +kernel
theorem dX8_about_125 : decode cX8_about 125 = .ok (.ifCond .le 7, 3) := by decide +kernel
theorem dX8_about_128 : decode cX8_about 128 = .ok (.iconst 1, 1) := by decide +kernel
theorem dX8_about_129 : decode cX8_about 129 = .ok (.goto 4, 3) := by decide +kernel
theorem dX8_about_132 : decode cX8_about 132 = .ok (.iconst 0, 1) := by decide +kernel
theorem dX8_about_133 : decode cX8_about 133 = .ok (.iadd, 1) := by decide +kernel
theorem dX8_about_134 : decode cX8_about 134 = .ok (.istore_n 3, 1) := by decide +kernel
theorem dX8_about_135 : decode cX8_about 135 = .ok (.iinc 6 1, 3) := by decide +kernel
theorem dX8_about_138 : decode cX8_about 138 = .ok (.goto (-45), 3) := by decide +kernel
theorem dX8_about_141 : decode cX8_about 141 = .ok (.iinc 5 1, 3) := by decide +kernel
theorem dX8_about_144 : decode cX8_about 144 = .ok (.goto (-71), 3) := by decide +kernel
theorem dX8_about_147 : decode cX8_about 147 = .ok (.iinc 4 1, 3) := by decide +kernel
theorem dX8_about_150 : decode cX8_about 150 = .ok (.goto (-117), 3) := by decide +kernel
theorem dX8_about_153 : decode cX8_about 153 = .ok (.iload_n 1, 1) := by decide +kernel
theorem dX8_about_154 : decode cX8_about 154 = .ok (.tableswitch 72 0 4 #[34, 41, 51, 61, 63], 34) := by decide +kernel
theorem dX8_about_188 : decode cX8_about 188 = .ok (.aload_n 0, 1) := by decide +kernel
theorem dX8_about_189 : decode cX8_about 189 = .ok (.getfield 13, 3) := by decide +kernel
theorem dX8_about_192 : decode cX8_about 192 = .ok (.iconst 0, 1) := by decide +kernel
theorem dX8_about_193 : decode cX8_about 193 = .ok (.iaload, 1) := by decide +kernel
theorem dX8_about_194 : decode cX8_about 194 = .ok (.ireturn, 1) := by decide +kernel
theorem dX8_about_195 : decode cX8_about 195 = .ok (.aload_n 0, 1) := by decide +kernel
theorem dX8_about_196 : decode cX8_about 196 = .ok (.getfield 13, 3) := by decide +kernel
theorem dX8_about_199 : decode cX8_about 199 = .ok (.bipush 17, 2) := by decide +kernel
theorem dX8_about_201 : decode cX8_about 201 = .ok (.invokestatic 201, 3) := by decide +kernel
theorem dX8_about_204 : decode cX8_about 204 = .ok (.ireturn, 1) := by decide +kernel
theorem dX8_about_205 : decode cX8_about 205 = .ok (.aload_n 0, 1) := by decide +kernel
theorem dX8_about_206 : decode cX8_about 206 = .ok (.getfield 13, 3) := by decide +kernel
theorem dX8_about_209 : decode cX8_about 209 = .ok (.bipush 16, 2) := by decide +kernel
theorem dX8_about_211 : decode cX8_about 211 = .ok (.invokestatic 201, 3) := by decide +kernel
theorem dX8_about_214 : decode cX8_about 214 = .ok (.ireturn, 1) := by decide +kernel
theorem dX8_about_215 : decode cX8_about 215 = .ok (.iload_n 2, 1) := by decide +kernel
theorem dX8_about_216 : decode cX8_about 216 = .ok (.ireturn, 1) := by decide +kernel
theorem dX8_about_217 : decode cX8_about 217 = .ok (.aload_n 0, 1) := by decide +kernel
theorem dX8_about_218 : decode cX8_about 218 = .ok (.aload_n 0, 1) := by decide +kernel
theorem dX8_about_219 : decode cX8_about 219 = .ok (.getfield 13, 3) := by decide +kernel
theorem dX8_about_222 : decode cX8_about 222 = .ok (.invokevirtual 204, 3) := by decide +kernel
theorem dX8_about_225 : decode cX8_about 225 = .ok (.ireturn, 1) := by decide +kernel
theorem dX8_about_226 : decode cX8_about 226 = .ok (.iload_n 3, 1) := by decide +kernel
theorem dX8_about_227 : decode cX8_about 227 = .ok (.ireturn, 1) := by decide +kernel
theorem dX8_skater_0 : decode cX8_skater 0 = .ok (.aload_n 0, 1) := by decide +kernel
theorem dX8_skater_1 : decode cX8_skater 1 = .ok (.aload_n 0, 1) := by decide +kernel
theorem dX8_skater_2 : decode cX8_skater 2 = .ok (.getfield 13, 3) := by decide +kernel
theorem dX8_skater_5 : decode cX8_skater 5 = .ok (.iload_n 1, 1) := by decide +kernel
theorem dX8_skater_6 : decode cX8_skater 6 = .ok (.invokestatic 68, 3) := by decide +kernel
theorem dX8_skater_9 : decode cX8_skater 9 = .ok (.ifCond .ne 7, 3) := by decide +kernel
theorem dX8_skater_12 : decode cX8_skater 12 = .ok (.iconst 1, 1) := by decide +kernel
theorem dX8_skater_13 : decode cX8_skater 13 = .ok (.goto 20, 3) := by decide +kernel
theorem dX8_skater_16 : decode cX8_skater 16 = .ok (.iload_n 2, 1) := by decide +kernel
theorem dX8_skater_17 : decode cX8_skater 17 = .ok (.i2l, 1) := by decide +kernel
theorem dX8_skater_18 : decode cX8_skater 18 = .ok (.lconst 0, 1) := by decide +kernel
theorem dX8_skater_19 : decode cX8_skater 19 = .ok (.ldc2_w 208, 3) := by decide +kernel
theorem dX8_skater_22 : decode cX8_skater 22 = .ok (.invokestatic 64, 3) := by decide +kernel
theorem dX8_skater_25 : decode cX8_skater 25 = .ok (.ifCond .eq 7, 3) := by decide +kernel
theorem dX8_skater_28 : decode cX8_skater 28 = .ok (.iconst 0, 1) := by decide +kernel
theorem dX8_skater_29 : decode cX8_skater 29 = .ok (.goto 4, 3) := by decide +kernel
theorem dX8_skater_32 : decode cX8_skater 32 = .ok (.iconst 2, 1) := by decide +kernel
theorem dX8_skater_33 : decode cX8_skater 33 = .ok (.invokevirtual 164, 3) := by decide +kernel
theorem dX8_skater_36 : decode cX8_skater 36 = .ok (.ifCond .eq 5, 3) := by decide +kernel
theorem dX8_skater_39 : decode cX8_skater 39 = .ok (.iconst 0, 1) := by decide +kernel
theorem dX8_skater_40 : decode cX8_skater 40 = .ok (.ireturn, 1) := by decide +kernel
theorem dX8_skater_41 : decode cX8_skater 41 = .ok (.aload_n 0, 1) := by decide +kernel
theorem dX8_skater_42 : decode cX8_skater 42 = .ok (.aload_n 0, 1) := by decide +kernel
theorem dX8_skater_43 : decode cX8_skater 43 = .ok (.getfield 13, 3) := by decide +kernel
theorem dX8_skater_46 : decode cX8_skater 46 = .ok (.invokevirtual 149, 3) := by decide +kernel
theorem dX8_skater_49 : decode cX8_skater 49 = .ok (.aload_n 0, 1) := by decide +kernel
theorem dX8_skater_50 : decode cX8_skater 50 = .ok (.aload_n 0, 1) := by decide +kernel
theorem dX8_skater_51 : decode cX8_skater 51 = .ok (.getfield 13, 3) := by decide +kernel
theorem dX8_skater_54 : decode cX8_skater 54 = .ok (.iload_n 1, 1) := by decide +kernel
theorem dX8_skater_55 : decode cX8_skater 55 = .ok (.invokevirtual 153, 3) := by decide +kernel
theorem dX8_skater_58 : decode cX8_skater 58 = .ok (.istore_n 3, 1) := by decide +kernel
theorem dX8_skater_59 : decode cX8_skater 59 = .ok (.aload_n 0, 1) := by decide +kernel
theorem dX8_skater_60 : decode cX8_skater 60 = .ok (.aload_n 0, 1) := by decide +kernel
theorem dX8_skater_61 : decode cX8_skater 61 = .ok (.getfield 13, 3) := by decide +kernel
theorem dX8_skater_64 : decode cX8_skater 64 = .ok (.iload_n 1, 1) := by decide +kernel
theorem dX8_skater_65 : decode cX8_skater 65 = .ok (.invokevirtual 146, 3) := by decide +kernel
theorem dX8_skater_68 : decode cX8_skater 68 = .ok (.istore 4, 2) := by decide +kernel
theorem dX8_skater_70 : decode cX8_skater 70 = .ok (.iload_n 2, 1) := by decide +kernel
theorem dX8_skater_71 : decode cX8_skater 71 = .ok (.tableswitch 84 0 6 #[41, 53, 58, 63, 68, 71, 73], 41) := by decide +kernel
theorem dX8_skater_112 : decode cX8_skater 112 = .ok (.aload_n 0, 1) := by decide +kernel
theorem dX8_skater_113 : decode cX8_skater 113 = .ok (.getfield 13, 3) := by decide +kernel
theorem dX8_skater_116 : decode cX8_skater 116 = .ok (.iload_n 1, 1) := by decide +kernel
theorem dX8_skater_117 : decode cX8_skater 117 = .ok (.invokestatic 72, 3) := by decide +kernel
theorem dX8_skater_120 : decode cX8_skater 120 = .ok (.iconst 0, 1) := by decide +kernel
theorem dX8_skater_121 : decode cX8_skater 121 = .ok (.iadd, 1) := by decide +kernel
theorem dX8_skater_122 : decode cX8_skater 122 = .ok (.iaload, 1) := by decide +kernel
theorem dX8_skater_123 : decode cX8_skater 123 = .ok (.ireturn, 1) := by decide +kernel
theorem dX8_skater_124 : decode cX8_skater 124 = .ok (.aload_n 0, 1) := by decide +kernel
theorem dX8_skater_125 : decode cX8_skater 125 = .ok (.getfield 129, 3) := by decide +kernel
theorem dX8_skater_128 : decode cX8_skater 128 = .ok (.ireturn, 1) := by decide +kernel
theorem dX8_skater_129 : decode cX8_skater 129 = .ok (.aload_n 0, 1) := by decide +kernel
theorem dX8_skater_130 : decode cX8_skater 130 = .ok (.getfield 143, 3) := by decide +kernel
theorem dX8_skater_133 : decode cX8_skater 133 = .ok (.ireturn, 1) := by decide +kernel
theorem dX8_skater_134 : decode cX8_skater 134 = .ok (.aload_n 0, 1) := by decide +kernel
theorem dX8_skater_135 : decode cX8_skater 135 = .ok (.getfield 132, 3) := by decide +kernel
theorem dX8_skater_138 : decode cX8_skater 138 = .ok (.ireturn, 1) := by decide +kernel
theorem dX8_skater_139 : decode cX8_skater 139 = .ok (.iload 4, 2) := by decide +kernel
theorem dX8_skater_141 : decode cX8_skater 141 = .ok (.ireturn, 1) := by decide +kernel
theorem dX8_skater_142 : decode cX8_skater 142 = .ok (.iload_n 3, 1) := by decide +kernel
theorem dX8_skater_143 : decode cX8_skater 143 = .ok (.ireturn, 1) := by decide +kernel
theorem dX8_skater_144 : decode cX8_skater 144 = .ok (.aload_n 0, 1) := by decide +kernel
theorem dX8_skater_145 : decode cX8_skater 145 = .ok (.getfield 13, 3) := by decide +kernel
theorem dX8_skater_148 : decode cX8_skater 148 = .ok (.iload_n 1, 1) := by decide +kernel
theorem dX8_skater_149 : decode cX8_skater 149 = .ok (.bipush 16, 2) := by decide +kernel
theorem dX8_skater_151 : decode cX8_skater 151 = .ok (.invokestatic 156, 3) := by decide +kernel
theorem dX8_skater_154 : decode cX8_skater 154 = .ok (.ireturn, 1) := by decide +kernel
theorem dX8_skater_155 : decode cX8_skater 155 = .ok (.aload_n 0, 1) := by decide +kernel
theorem dX8_skater_156 : decode cX8_skater 156 = .ok (.getfield 13, 3) := by decide +kernel
theorem dX8_skater_159 : decode cX8_skater 159 = .ok (.iload_n 1, 1) := by decide +kernel
theorem dX8_skater_160 : decode cX8_skater 160 = .ok (.bipush 17, 2) := by decide +kernel
theorem dX8_skater_162 : decode cX8_skater 162 = .ok (.invokestatic 156, 3) := by decide +kernel
theorem dX8_skater_165 : decode cX8_skater 165 = .ok (.ireturn, 1) := by decide +kernel
theorem dX8_element_0 : decode cX8_element 0 = .ok (.aload_n 0, 1) := by decide +kernel
theorem dX8_element_1 : decode cX8_element 1 = .ok (.aload_n 0, 1) := by decide +kernel
theorem dX8_element_2 : decode cX8_element 2 = .ok (.getfield 13, 3) := by decide +kernel
theorem dX8_element_5 : decode cX8_element 5 = .ok (.iload_n 1, 1) := by decide +kernel
theorem dX8_element_6 : decode cX8_element 6 = .ok (.iload_n 2, 1) := by decide +kernel
theorem dX8_element_7 : decode cX8_element 7 = .ok (.invokestatic 76, 3) := by decide +kernel
theorem dX8_element_10 : decode cX8_element 10 = .ok (.ifCond .ne 7, 3) := by decide +kernel
theorem dX8_element_13 : decode cX8_element 13 = .ok (.iconst 1, 1) := by decide +kernel
theorem dX8_element_14 : decode cX8_element 14 = .ok (.goto 20, 3) := by decide +kernel
theorem dX8_element_17 : decode cX8_element 17 = .ok (.iload_n 3, 1) := by decide +kernel
theorem dX8_element_18 : decode cX8_element 18 = .ok (.i2l, 1) := by decide +kernel
theorem dX8_element_19 : decode cX8_element 19 = .ok (.lconst 0, 1) := by decide +kernel
theorem dX8_element_20 : decode cX8_element 20 = .ok (.ldc2_w 210, 3) := by decide +kernel
theorem dX8_element_23 : decode cX8_element 23 = .ok (.invokestatic 64, 3) := by decide +kernel
theorem dX8_element_26 : decode cX8_element 26 = .ok (.ifCond .eq 7, 3) := by decide +kernel
theorem dX8_element_29 : decode cX8_element 29 = .ok (.iconst 0, 1) := by decide +kernel
theorem dX8_element_30 : decode cX8_element 30 = .ok (.goto 4, 3) := by decide +kernel
theorem dX8_element_33 : decode cX8_element 33 = .ok (.iconst 2, 1) := by decide +kernel
theorem dX8_element_34 : decode cX8_element 34 = .ok (.invokevirtual 164, 3) := by decide +kernel
theorem dX8_element_37 : decode cX8_element 37 = .ok (.ifCond .eq 5, 3) := by decide +kernel
theorem dX8_element_40 : decode cX8_element 40 = .ok (.iconst 0, 1) := by decide +kernel
theorem dX8_element_41 : decode cX8_element 41 = .ok (.ireturn, 1) := by decide +kernel
theorem dX8_element_42 : decode cX8_element 42 = .ok (.aload_n 0, 1) := by decide +kernel
theorem dX8_element_43 : decode cX8_element 43 = .ok (.aload_n 0, 1) := by decide +kernel
theorem dX8_element_44 : decode cX8_element 44 = .ok (.getfield 13, 3) := by decide +kernel
theorem dX8_element_47 : decode cX8_element 47 = .ok (.iload_n 1, 1) := by decide +kernel
theorem dX8_element_48 : decode cX8_element 48 = .ok (.iload_n 2, 1) := by decide +kernel
theorem dX8_element_49 : decode cX8_element 49 = .ok (.invokevirtual 135, 3) := by decide +kernel
theorem dX8_element_52 : decode cX8_element 52 = .ok (.iload_n 1, 1) := by decide +kernel
theorem dX8_element_53 : decode cX8_element 53 = .ok (.iload_n 2, 1) := by decide +kernel
theorem dX8_element_54 : decode cX8_element 54 = .ok (.invokestatic 60, 3) := by decide +kernel
theorem dX8_element_57 : decode cX8_element 57 = .ok (.istore 4, 2) := by decide +kernel
theorem dX8_element_59 : decode cX8_element 59 = .ok (.iload_n 3, 1) := by decide +kernel
theorem dX8_element_60 : decode cX8_element 60 = .ok (.tableswitch 115 0 7 #[48, 48, 58, 65, 72, 79, 93, 104], 48) := by decide +kernel
theorem dX8_element_108 : decode cX8_element 108 = .ok (.aload_n 0, 1) := by decide +kernel
theorem dX8_element_109 : decode cX8_element 109 = .ok (.getfield 13, 3) := by decide +kernel
theorem dX8_element_112 : decode cX8_element 112 = .ok (.iload 4, 2) := by decide +kernel
theorem dX8_element_114 : decode cX8_element 114 = .ok (.iload_n 3, 1) := by decide +kernel
theorem dX8_element_115 : decode cX8_element 115 = .ok (.iadd, 1) := by decide +kernel
theorem dX8_element_116 : decode cX8_element 116 = .ok (.iaload, 1) := by decide +kernel
theorem dX8_element_117 : decode cX8_element 117 = .ok (.ireturn, 1) := by decide +kernel
theorem dX8_element_118 : decode cX8_element 118 = .ok (.aload_n 0, 1) := by decide +kernel
theorem dX8_element_119 : decode cX8_element 119 = .ok (.getfield 38, 3) := by decide +kernel
theorem dX8_element_122 : decode cX8_element 122 = .ok (.iload_n 2, 1) := by decide +kernel
theorem dX8_element_123 : decode cX8_element 123 = .ok (.iaload, 1) := by decide +kernel
theorem dX8_element_124 : decode cX8_element 124 = .ok (.ireturn, 1) := by decide +kernel
theorem dX8_element_125 : decode cX8_element 125 = .ok (.aload_n 0, 1) := by decide +kernel
theorem dX8_element_126 : decode cX8_element 126 = .ok (.getfield 41, 3) := by decide +kernel
theorem dX8_element_129 : decode cX8_element 129 = .ok (.iload_n 2, 1) := by decide +kernel
theorem dX8_element_130 : decode cX8_element 130 = .ok (.iaload, 1) := by decide +kernel
theorem dX8_element_131 : decode cX8_element 131 = .ok (.ireturn, 1) := by decide +kernel
theorem dX8_element_132 : decode cX8_element 132 = .ok (.aload_n 0, 1) := by decide +kernel
theorem dX8_element_133 : decode cX8_element 133 = .ok (.getfield 44, 3) := by decide +kernel
theorem dX8_element_136 : decode cX8_element 136 = .ok (.iload_n 2, 1) := by decide +kernel
theorem dX8_element_137 : decode cX8_element 137 = .ok (.iaload, 1) := by decide +kernel
theorem dX8_element_138 : decode cX8_element 138 = .ok (.ireturn, 1) := by decide +kernel
theorem dX8_element_139 : decode cX8_element 139 = .ok (.aload_n 0, 1) := by decide +kernel
theorem dX8_element_140 : decode cX8_element 140 = .ok (.getfield 38, 3) := by decide +kernel
theorem dX8_element_143 : decode cX8_element 143 = .ok (.iload_n 2, 1) := by decide +kernel
theorem dX8_element_144 : decode cX8_element 144 = .ok (.iaload, 1) := by decide +kernel
theorem dX8_element_145 : decode cX8_element 145 = .ok (.aload_n 0, 1) := by decide +kernel
theorem dX8_element_146 : decode cX8_element 146 = .ok (.getfield 44, 3) := by decide +kernel
theorem dX8_element_149 : decode cX8_element 149 = .ok (.iload_n 2, 1) := by decide +kernel
theorem dX8_element_150 : decode cX8_element 150 = .ok (.iaload, 1) := by decide +kernel
theorem dX8_element_151 : decode cX8_element 151 = .ok (.iadd, 1) := by decide +kernel
theorem dX8_element_152 : decode cX8_element 152 = .ok (.ireturn, 1) := by decide +kernel
theorem dX8_element_153 : decode cX8_element 153 = .ok (.aload_n 0, 1) := by decide +kernel
theorem dX8_element_154 : decode cX8_element 154 = .ok (.getfield 13, 3) := by decide +kernel
theorem dX8_element_157 : decode cX8_element 157 = .ok (.iload 4, 2) := by decide +kernel
theorem dX8_element_159 : decode cX8_element 159 = .ok (.bipush 16, 2) := by decide +kernel
theorem dX8_element_161 : decode cX8_element 161 = .ok (.iadd, 1) := by decide +kernel
theorem dX8_element_162 : decode cX8_element 162 = .ok (.iaload, 1) := by decide +kernel
theorem dX8_element_163 : decode cX8_element 163 = .ok (.ireturn, 1) := by decide +kernel
theorem dX8_element_164 : decode cX8_element 164 = .ok (.aload_n 0, 1) := by decide +kernel
theorem dX8_element_165 : decode cX8_element 165 = .ok (.getfield 13, 3) := by decide +kernel
theorem dX8_element_168 : decode cX8_element 168 = .ok (.iload 4, 2) := by decide +kernel
theorem dX8_element_170 : decode cX8_element 170 = .ok (.bipush 17, 2) := by decide +kernel
theorem dX8_element_172 : decode cX8_element 172 = .ok (.iadd, 1) := by decide +kernel
theorem dX8_element_173 : decode cX8_element 173 = .ok (.iaload, 1) := by decide +kernel
theorem dX8_element_174 : decode cX8_element 174 = .ok (.ireturn, 1) := by decide +kernel
theorem dX8_element_175 : decode cX8_element 175 = .ok (.aload_n 0, 1) := by decide +kernel
theorem dX8_element_176 : decode cX8_element 176 = .ok (.getfield 47, 3) := by decide +kernel
theorem dX8_element_179 : decode cX8_element 179 = .ok (.iload_n 2, 1) := by decide +kernel
theorem dX8_element_180 : decode cX8_element 180 = .ok (.iaload, 1) := by decide +kernel
theorem dX8_element_181 : decode cX8_element 181 = .ok (.ireturn, 1) := by decide +kernel
theorem dX8_part_0 : decode cX8_part 0 = .ok (.aload_n 0, 1) := by decide +kernel
theorem dX8_part_1 : decode cX8_part 1 = .ok (.aload_n 0, 1) := by decide +kernel
theorem dX8_part_2 : decode cX8_part 2 = .ok (.getfield 13, 3) := by decide +kernel
theorem dX8_part_5 : decode cX8_part 5 = .ok (.iload_n 1, 1) := by decide +kernel
theorem dX8_part_6 : decode cX8_part 6 = .ok (.iload_n 2, 1) := by decide +kernel
theorem dX8_part_7 : decode cX8_part 7 = .ok (.iload_n 3, 1) := by decide +kernel
theorem dX8_part_8 : decode cX8_part 8 = .ok (.invokestatic 212, 3) := by decide +kernel
theorem dX8_part_11 : decode cX8_part 11 = .ok (.ifCond .ne 7, 3) := by decide +kernel
theorem dX8_part_14 : decode cX8_part 14 = .ok (.iconst 1, 1) := by decide +kernel
theorem dX8_part_15 : decode cX8_part 15 = .ok (.goto 21, 3) := by decide +kernel
theorem dX8_part_18 : decode cX8_part 18 = .ok (.iload 4, 2) := by decide +kernel
theorem dX8_part_20 : decode cX8_part 20 = .ok (.i2l, 1) := by decide +kernel
theorem dX8_part_21 : decode cX8_part 21 = .ok (.lconst 0, 1) := by decide +kernel
theorem dX8_part_22 : decode cX8_part 22 = .ok (.ldc2_w 216, 3) := by decide +kernel
theorem dX8_part_25 : decode cX8_part 25 = .ok (.invokestatic 64, 3) := by decide +kernel
theorem dX8_part_28 : decode cX8_part 28 = .ok (.ifCond .eq 7, 3) := by decide +kernel
theorem dX8_part_31 : decode cX8_part 31 = .ok (.iconst 0, 1) := by decide +kernel
theorem dX8_part_32 : decode cX8_part 32 = .ok (.goto 4, 3) := by decide +kernel
theorem dX8_part_35 : decode cX8_part 35 = .ok (.iconst 2, 1) := by decide +kernel
theorem dX8_part_36 : decode cX8_part 36 = .ok (.invokevirtual 164, 3) := by decide +kernel
theorem dX8_part_39 : decode cX8_part 39 = .ok (.ifCond .eq 5, 3) := by decide +kernel
theorem dX8_part_42 : decode cX8_part 42 = .ok (.iconst 0, 1) := by decide +kernel
theorem dX8_part_43 : decode cX8_part 43 = .ok (.ireturn, 1) := by decide +kernel
theorem dX8_part_44 : decode cX8_part 44 = .ok (.aload_n 0, 1) := by decide +kernel
theorem dX8_part_45 : decode cX8_part 45 = .ok (.aload_n 0, 1) := by decide +kernel
theorem dX8_part_46 : decode cX8_part 46 = .ok (.getfield 13, 3) := by decide +kernel
theorem dX8_part_49 : decode cX8_part 49 = .ok (.iload_n 1, 1) := by decide +kernel
theorem dX8_part_50 : decode cX8_part 50 = .ok (.iload_n 2, 1) := by decide +kernel
theorem dX8_part_51 : decode cX8_part 51 = .ok (.invokevirtual 135, 3) := by decide +kernel
theorem dX8_part_54 : decode cX8_part 54 = .ok (.iload 4, 2) := by decide +kernel
theorem dX8_part_56 : decode cX8_part 56 = .ok (.iconst 3, 1) := by decide +kernel
theorem dX8_part_57 : decode cX8_part 57 = .ok (.if_icmp .ge 20, 3) := by decide +kernel
theorem dX8_part_60 : decode cX8_part 60 = .ok (.aload_n 0, 1) := by decide +kernel
theorem dX8_part_61 : decode cX8_part 61 = .ok (.getfield 13, 3) := by decide +kernel
theorem dX8_part_64 : decode cX8_part 64 = .ok (.iload_n 1, 1) := by decide +kernel
theorem dX8_part_65 : decode cX8_part 65 = .ok (.iload_n 2, 1) := by decide +kernel
theorem dX8_part_66 : decode cX8_part 66 = .ok (.iload_n 3, 1) := by decide +kernel
theorem dX8_part_67 : decode cX8_part 67 = .ok (.invokestatic 102, 3) := by decide +kernel
theorem dX8_part_70 : decode cX8_part 70 = .ok (.iload 4, 2) := by decide +kernel
theorem dX8_part_72 : decode cX8_part 72 = .ok (.iadd, 1) := by decide +kernel
theorem dX8_part_73 : decode cX8_part 73 = .ok (.iaload, 1) := by decide +kernel
theorem dX8_part_74 : decode cX8_part 74 = .ok (.goto 32, 3) := by decide +kernel
theorem dX8_part_77 : decode cX8_part 77 = .ok (.iload 4, 2) := by decide +kernel
theorem dX8_part_79 : decode cX8_part 79 = .ok (.iconst 3, 1) := by decide +kernel
theorem dX8_part_80 : decode cX8_part 80 = .ok (.if_icmp .ne 16, 3) := by decide +kernel
theorem dX8_part_83 : decode cX8_part 83 = .ok (.aload_n 0, 1) := by decide +kernel
theorem dX8_part_84 : decode cX8_part 84 = .ok (.getfield 32, 3) := by decide +kernel
theorem dX8_part_87 : decode cX8_part 87 = .ok (.iconst 3, 1) := by decide +kernel
theorem dX8_part_88 : decode cX8_part 88 = .ok (.iload_n 2, 1) := by decide +kernel
theorem dX8_part_89 : decode cX8_part 89 = .ok (.imul, 1) := by decide +kernel
theorem dX8_part_90 : decode cX8_part 90 = .ok (.iload_n 3, 1) := by decide +kernel
theorem dX8_part_91 : decode cX8_part 91 = .ok (.iadd, 1) := by decide +kernel
theorem dX8_part_92 : decode cX8_part 92 = .ok (.iaload, 1) := by decide +kernel
theorem dX8_part_93 : decode cX8_part 93 = .ok (.goto 13, 3) := by decide +kernel
theorem dX8_part_96 : decode cX8_part 96 = .ok (.aload_n 0, 1) := by decide +kernel
theorem dX8_part_97 : decode cX8_part 97 = .ok (.getfield 35, 3) := by decide +kernel
theorem dX8_part_100 : decode cX8_part 100 = .ok (.iconst 3, 1) := by decide +kernel
theorem dX8_part_101 : decode cX8_part 101 = .ok (.iload_n 2, 1) := by decide +kernel
theorem dX8_part_102 : decode cX8_part 102 = .ok (.imul, 1) := by decide +kernel
theorem dX8_part_103 : decode cX8_part 103 = .ok (.iload_n 3, 1) := by decide +kernel
theorem dX8_part_104 : decode cX8_part 104 = .ok (.iadd, 1) := by decide +kernel
theorem dX8_part_105 : decode cX8_part 105 = .ok (.iaload, 1) := by decide +kernel
theorem dX8_part_106 : decode cX8_part 106 = .ok (.ireturn, 1) := by decide +kernel
theorem dX8_setting_0 : decode cX8_setting 0 = .ok (.aload_n 0, 1) := by decide +kernel
theorem dX8_setting_1 : decode cX8_setting 1 = .ok (.iload_n 1, 1) := by decide +kernel
theorem dX8_setting_2 : decode cX8_setting 2 = .ok (.i2l, 1) := by decide +kernel
theorem dX8_setting_3 : decode cX8_setting 3 = .ok (.lconst 0, 1) := by decide +kernel
theorem dX8_setting_4 : decode cX8_setting 4 = .ok (.ldc2_w 216, 3) := by decide +kernel
theorem dX8_setting_7 : decode cX8_setting 7 = .ok (.invokestatic 64, 3) := by decide +kernel
theorem dX8_setting_10 : decode cX8_setting 10 = .ok (.ifCond .eq 7, 3) := by decide +kernel
theorem dX8_setting_13 : decode cX8_setting 13 = .ok (.iconst 0, 1) := by decide +kernel
theorem dX8_setting_14 : decode cX8_setting 14 = .ok (.goto 4, 3) := by decide +kernel
theorem dX8_setting_17 : decode cX8_setting 17 = .ok (.iconst 1, 1) := by decide +kernel
theorem dX8_setting_18 : decode cX8_setting 18 = .ok (.invokevirtual 164, 3) := by decide +kernel
theorem dX8_setting_21 : decode cX8_setting 21 = .ok (.ifCond .eq 5, 3) := by decide +kernel
theorem dX8_setting_24 : decode cX8_setting 24 = .ok (.iconst 0, 1) := by decide +kernel
theorem dX8_setting_25 : decode cX8_setting 25 = .ok (.ireturn, 1) := by decide +kernel
theorem dX8_setting_26 : decode cX8_setting 26 = .ok (.aload_n 0, 1) := by decide +kernel
theorem dX8_setting_27 : decode cX8_setting 27 = .ok (.getfield 13, 3) := by decide +kernel
theorem dX8_setting_30 : decode cX8_setting 30 = .ok (.iconst 1, 1) := by decide +kernel
theorem dX8_setting_31 : decode cX8_setting 31 = .ok (.iload_n 1, 1) := by decide +kernel
theorem dX8_setting_32 : decode cX8_setting 32 = .ok (.iadd, 1) := by decide +kernel
theorem dX8_setting_33 : decode cX8_setting 33 = .ok (.iaload, 1) := by decide +kernel
theorem dX8_setting_34 : decode cX8_setting 34 = .ok (.ireturn, 1) := by decide +kernel
theorem dX8_remember_0 : decode cX8_remember 0 = .ok (.aload_n 0, 1) := by decide +kernel
theorem dX8_remember_1 : decode cX8_remember 1 = .ok (.getfield 218, 3) := by decide +kernel
theorem dX8_remember_4 : decode cX8_remember 4 = .ok (.bipush 14, 2) := by decide +kernel
theorem dX8_remember_6 : decode cX8_remember 6 = .ok (.if_icmp .ne 44, 3) := by decide +kernel
theorem dX8_remember_9 : decode cX8_remember 9 = .ok (.iconst 0, 1) := by decide +kernel
theorem dX8_remember_10 : decode cX8_remember 10 = .ok (.istore_n 1, 1) := by decide +kernel
theorem dX8_remember_11 : decode cX8_remember 11 = .ok (.iload_n 1, 1) := by decide +kernel
theorem dX8_remember_12 : decode cX8_remember 12 = .ok (.sipush 12194, 3) := by decide +kernel
theorem dX8_remember_15 : decode cX8_remember 15 = .ok (.if_icmp .ge 25, 3) := by decide +kernel
theorem dX8_remember_18 : decode cX8_remember 18 = .ok (.aload_n 0, 1) := by decide +kernel
theorem dX8_remember_19 : decode cX8_remember 19 = .ok (.getfield 19, 3) := by decide +kernel
theorem dX8_remember_22 : decode cX8_remember 22 = .ok (.iload_n 1, 1) := by decide +kernel
theorem dX8_remember_23 : decode cX8_remember 23 = .ok (.aload_n 0, 1) := by decide +kernel
theorem dX8_remember_24 : decode cX8_remember 24 = .ok (.getfield 19, 3) := by decide +kernel
theorem dX8_remember_27 : decode cX8_remember 27 = .ok (.iload_n 1, 1) := by decide +kernel
theorem dX8_remember_28 : decode cX8_remember 28 = .ok (.sipush 938, 3) := by decide +kernel
theorem dX8_remember_31 : decode cX8_remember 31 = .ok (.iadd, 1) := by decide +kernel
theorem dX8_remember_32 : decode cX8_remember 32 = .ok (.iaload, 1) := by decide +kernel
theorem dX8_remember_33 : decode cX8_remember 33 = .ok (.iastore, 1) := by decide +kernel
theorem dX8_remember_34 : decode cX8_remember 34 = .ok (.iinc 1 1, 3) := by decide +kernel
theorem dX8_remember_37 : decode cX8_remember 37 = .ok (.goto (-26), 3) := by decide +kernel
theorem dX8_remember_40 : decode cX8_remember 40 = .ok (.aload_n 0, 1) := by decide +kernel
theorem dX8_remember_41 : decode cX8_remember 41 = .ok (.dup, 1) := by decide +kernel
theorem dX8_remember_42 : decode cX8_remember 42 = .ok (.getfield 218, 3) := by decide +kernel
theorem dX8_remember_45 : decode cX8_remember 45 = .ok (.iconst 1, 1) := by decide +kernel
theorem dX8_remember_46 : decode cX8_remember 46 = .ok (.isub, 1) := by decide +kernel
theorem dX8_remember_47 : decode cX8_remember 47 = .ok (.putfield 218, 3) := by decide +kernel
theorem dX8_remember_50 : decode cX8_remember 50 = .ok (.aload_n 0, 1) := by decide +kernel
theorem dX8_remember_51 : decode cX8_remember 51 = .ok (.getfield 13, 3) := by decide +kernel
theorem dX8_remember_54 : decode cX8_remember 54 = .ok (.iconst 0, 1) := by decide +kernel
theorem dX8_remember_55 : decode cX8_remember 55 = .ok (.aload_n 0, 1) := by decide +kernel
theorem dX8_remember_56 : decode cX8_remember 56 = .ok (.getfield 19, 3) := by decide +kernel
theorem dX8_remember_59 : decode cX8_remember 59 = .ok (.sipush 938, 3) := by decide +kernel
theorem dX8_remember_62 : decode cX8_remember 62 = .ok (.aload_n 0, 1) := by decide +kernel
theorem dX8_remember_63 : decode cX8_remember 63 = .ok (.getfield 218, 3) := by decide +kernel
theorem dX8_remember_66 : decode cX8_remember 66 = .ok (.imul, 1) := by decide +kernel
theorem dX8_remember_67 : decode cX8_remember 67 = .ok (.invokestatic 221, 3) := by decide +kernel
theorem dX8_remember_70 : decode cX8_remember 70 = .ok (.aload_n 0, 1) := by decide +kernel
theorem dX8_remember_71 : decode cX8_remember 71 = .ok (.dup, 1) := by decide +kernel
theorem dX8_remember_72 : decode cX8_remember 72 = .ok (.getfield 218, 3) := by decide +kernel
theorem dX8_remember_75 : decode cX8_remember 75 = .ok (.iconst 1, 1) := by decide +kernel
theorem dX8_remember_76 : decode cX8_remember 76 = .ok (.iadd, 1) := by decide +kernel
theorem dX8_remember_77 : decode cX8_remember 77 = .ok (.putfield 218, 3) := by decide +kernel
theorem dX8_remember_80 : decode cX8_remember 80 = .ok (.return_, 1) := by decide +kernel
theorem dX8_add_0 : decode cX8_add 0 = .ok (.aload_n 0, 1) := by decide +kernel
theorem dX8_add_1 : decode cX8_add 1 = .ok (.aload_n 0, 1) := by decide +kernel
theorem dX8_add_2 : decode cX8_add 2 = .ok (.getfield 13, 3) := by decide +kernel
theorem dX8_add_5 : decode cX8_add 5 = .ok (.iconst 0, 1) := by decide +kernel
theorem dX8_add_6 : decode cX8_add 6 = .ok (.iaload, 1) := by decide +kernel
theorem dX8_add_7 : decode cX8_add 7 = .ok (.iconst 4, 1) := by decide +kernel
theorem dX8_add_8 : decode cX8_add 8 = .ok (.if_icmp .ne 7, 3) := by decide +kernel
theorem dX8_add_11 : decode cX8_add 11 = .ok (.iconst 1, 1) := by decide +kernel
theorem dX8_add_12 : decode cX8_add 12 = .ok (.goto 4, 3) := by decide +kernel
theorem dX8_add_15 : decode cX8_add 15 = .ok (.iconst 0, 1) := by decide +kernel
theorem dX8_add_16 : decode cX8_add 16 = .ok (.invokevirtual 164, 3) := by decide +kernel
theorem dX8_add_19 : decode cX8_add 19 = .ok (.ifCond .eq 5, 3) := by decide +kernel
theorem dX8_add_22 : decode cX8_add 22 = .ok (.iconst 0, 1) := by decide +kernel
theorem dX8_add_23 : decode cX8_add 23 = .ok (.ireturn, 1) := by decide +kernel
theorem dX8_add_24 : decode cX8_add 24 = .ok (.aload_n 0, 1) := by decide +kernel
theorem dX8_add_25 : decode cX8_add 25 = .ok (.invokevirtual 225, 3) := by decide +kernel
theorem dX8_add_28 : decode cX8_add 28 = .ok (.iconst 0, 1) := by decide +kernel
theorem dX8_add_29 : decode cX8_add 29 = .ok (.istore_n 1, 1) := by decide +kernel
theorem dX8_add_30 : decode cX8_add 30 = .ok (.iload_n 1, 1) := by decide +kernel
theorem dX8_add_31 : decode cX8_add 31 = .ok (.sipush 233, 3) := by decide +kernel
theorem dX8_add_34 : decode cX8_add 34 = .ok (.if_icmp .ge 26, 3) := by decide +kernel
theorem dX8_add_37 : decode cX8_add 37 = .ok (.aload_n 0, 1) := by decide +kernel
theorem dX8_add_38 : decode cX8_add 38 = .ok (.getfield 13, 3) := by decide +kernel
theorem dX8_add_41 : decode cX8_add 41 = .ok (.aload_n 0, 1) := by decide +kernel
theorem dX8_add_42 : decode cX8_add 42 = .ok (.getfield 13, 3) := by decide +kernel
theorem dX8_add_45 : decode cX8_add 45 = .ok (.iconst 0, 1) := by decide +kernel
theorem dX8_add_46 : decode cX8_add 46 = .ok (.iaload, 1) := by decide +kernel
theorem dX8_add_47 : decode cX8_add 47 = .ok (.invokestatic 72, 3) := by decide +kernel
theorem dX8_add_50 : decode cX8_add 50 = .ok (.iload_n 1, 1) := by decide +kernel
theorem dX8_add_51 : decode cX8_add 51 = .ok (.iadd, 1) := by decide +kernel
theorem dX8_add_52 : decode cX8_add 52 = .ok (.iconst 0, 1) := by decide +kernel
theorem dX8_add_53 : decode cX8_add 53 = .ok (.iastore, 1) := by decide +kernel
theorem dX8_add_54 : decode cX8_add 54 = .ok (.iinc 1 1, 3) := by decide +kernel
theorem dX8_add_57 : decode cX8_add 57 = .ok (.goto (-27), 3) := by decide +kernel
theorem dX8_add_60 : decode cX8_add 60 = .ok (.aload_n 0, 1) := by decide +kernel
theorem dX8_add_61 : decode cX8_add 61 = .ok (.getfield 13, 3) := by decide +kernel
theorem dX8_add_64 : decode cX8_add 64 = .ok (.iconst 0, 1) := by decide +kernel
theorem dX8_add_65 : decode cX8_add 65 = .ok (.dup2, 1) := by decide +kernel
theorem dX8_add_66 : decode cX8_add 66 = .ok (.iaload, 1) := by decide +kernel
theorem dX8_add_67 : decode cX8_add 67 = .ok (.iconst 1, 1) := by decide +kernel
theorem dX8_add_68 : decode cX8_add 68 = .ok (.iadd, 1) := by decide +kernel
theorem dX8_add_69 : decode cX8_add 69 = .ok (.iastore, 1) := by decide +kernel
theorem dX8_add_70 : decode cX8_add 70 = .ok (.aload_n 0, 1) := by decide +kernel
theorem dX8_add_71 : decode cX8_add 71 = .ok (.getfield 13, 3) := by decide +kernel
theorem dX8_add_74 : decode cX8_add 74 = .ok (.iconst 0, 1) := by decide +kernel
theorem dX8_add_75 : decode cX8_add 75 = .ok (.iaload, 1) := by decide +kernel
theorem dX8_add_76 : decode cX8_add 76 = .ok (.iconst 1, 1) := by decide +kernel
theorem dX8_add_77 : decode cX8_add 77 = .ok (.isub, 1) := by decide +kernel
theorem dX8_add_78 : decode cX8_add 78 = .ok (.ireturn, 1) := by decide +kernel
theorem dX8_program_0 : decode cX8_program 0 = .ok (.aload_n 0, 1) := by decide +kernel
theorem dX8_program_1 : decode cX8_program 1 = .ok (.aload_n 0, 1) := by decide +kernel
theorem dX8_program_2 : decode cX8_program 2 = .ok (.getfield 13, 3) := by decide +kernel
theorem dX8_program_5 : decode cX8_program 5 = .ok (.iload_n 1, 1) := by decide +kernel
theorem dX8_program_6 : decode cX8_program 6 = .ok (.invokestatic 68, 3) := by decide +kernel
theorem dX8_program_9 : decode cX8_program 9 = .ok (.ifCond .ne 7, 3) := by decide +kernel
theorem dX8_program_12 : decode cX8_program 12 = .ok (.iconst 1, 1) := by decide +kernel
theorem dX8_program_13 : decode cX8_program 13 = .ok (.goto 16, 3) := by decide +kernel
theorem dX8_program_16 : decode cX8_program 16 = .ok (.aload_n 0, 1) := by decide +kernel
theorem dX8_program_17 : decode cX8_program 17 = .ok (.invokevirtual 196, 3) := by decide +kernel
theorem dX8_program_20 : decode cX8_program 20 = .ok (.iconst (-1), 1) := by decide +kernel
theorem dX8_program_21 : decode cX8_program 21 = .ok (.if_icmp .ne 7, 3) := by decide +kernel
theorem dX8_program_24 : decode cX8_program 24 = .ok (.iconst 0, 1) := by decide +kernel
theorem dX8_program_25 : decode cX8_program 25 = .ok (.goto 4, 3) := by decide +kernel
theorem dX8_program_28 : decode cX8_program 28 = .ok (.iconst 2, 1) := by decide +kernel
theorem dX8_program_29 : decode cX8_program 29 = .ok (.invokevirtual 164, 3) := by decide +kernel
theorem dX8_program_32 : decode cX8_program 32 = .ok (.ifCond .eq 5, 3) := by decide +kernel
theorem dX8_program_35 : decode cX8_program 35 = .ok (.iconst 0, 1) := by decide +kernel
theorem dX8_program_36 : decode cX8_program 36 = .ok (.ireturn, 1) := by decide +kernel
theorem dX8_program_37 : decode cX8_program 37 = .ok (.aload_n 0, 1) := by decide +kernel
theorem dX8_program_38 : decode cX8_program 38 = .ok (.invokevirtual 225, 3) := by decide +kernel
theorem dX8_program_41 : decode cX8_program 41 = .ok (.aload_n 0, 1) := by decide +kernel
theorem dX8_program_42 : decode cX8_program 42 = .ok (.getfield 13, 3) := by decide +kernel
theorem dX8_program_45 : decode cX8_program 45 = .ok (.iload_n 1, 1) := by decide +kernel
theorem dX8_program_46 : decode cX8_program 46 = .ok (.invokestatic 72, 3) := by decide +kernel
theorem dX8_program_49 : decode cX8_program 49 = .ok (.iconst 0, 1) := by decide +kernel
theorem dX8_program_50 : decode cX8_program 50 = .ok (.iadd, 1) := by decide +kernel
theorem dX8_program_51 : decode cX8_program 51 = .ok (.aload_n 0, 1) := by decide +kernel
theorem dX8_program_52 : decode cX8_program 52 = .ok (.getfield 29, 3) := by decide +kernel
theorem dX8_program_55 : decode cX8_program 55 = .ok (.iconst 0, 1) := by decide +kernel
theorem dX8_program_56 : decode cX8_program 56 = .ok (.iaload, 1) := by decide +kernel
theorem dX8_program_57 : decode cX8_program 57 = .ok (.iastore, 1) := by decide +kernel
theorem dX8_program_58 : decode cX8_program 58 = .ok (.bipush 17, 2) := by decide +kernel
theorem dX8_program_60 : decode cX8_program 60 = .ok (.istore_n 2, 1) := by decide +kernel
theorem dX8_program_61 : decode cX8_program 61 = .ok (.iload_n 2, 1) := by decide +kernel
theorem dX8_program_62 : decode cX8_program 62 = .ok (.sipush 233, 3) := by decide +kernel
theorem dX8_program_65 : decode cX8_program 65 = .ok (.if_icmp .ge 26, 3) := by decide +kernel
theorem dX8_program_68 : decode cX8_program 68 = .ok (.aload_n 0, 1) := by decide +kernel
theorem dX8_program_69 : decode cX8_program 69 = .ok (.getfield 13, 3) := by decide +kernel
theorem dX8_program_72 : decode cX8_program 72 = .ok (.iload_n 1, 1) := by decide +kernel
theorem dX8_program_73 : decode cX8_program 73 = .ok (.invokestatic 72, 3) := by decide +kernel
theorem dX8_program_76 : decode cX8_program 76 = .ok (.iload_n 2, 1) := by decide +kernel
theorem dX8_program_77 : decode cX8_program 77 = .ok (.iadd, 1) := by decide +kernel
theorem dX8_program_78 : decode cX8_program 78 = .ok (.aload_n 0, 1) := by decide +kernel
theorem dX8_program_79 : decode cX8_program 79 = .ok (.getfield 29, 3) := by decide +kernel
theorem dX8_program_82 : decode cX8_program 82 = .ok (.iload_n 2, 1) := by decide +kernel
theorem dX8_program_83 : decode cX8_program 83 = .ok (.iaload, 1) := by decide +kernel
theorem dX8_program_84 : decode cX8_program 84 = .ok (.iastore, 1) := by decide +kernel
theorem dX8_program_85 : decode cX8_program 85 = .ok (.iinc 2 1, 3) := by decide +kernel
theorem dX8_program_88 : decode cX8_program 88 = .ok (.goto (-27), 3) := by decide +kernel
theorem dX8_program_91 : decode cX8_program 91 = .ok (.aload_n 0, 1) := by decide +kernel
theorem dX8_program_92 : decode cX8_program 92 = .ok (.getfield 29, 3) := by decide +kernel
theorem dX8_program_95 : decode cX8_program 95 = .ok (.iconst 0, 1) := by decide +kernel
theorem dX8_program_96 : decode cX8_program 96 = .ok (.iaload, 1) := by decide +kernel
theorem dX8_program_97 : decode cX8_program 97 = .ok (.ireturn, 1) := by decide +kernel
theorem dX8_layMarks_0 : decode cX8_layMarks 0 = .ok (.iload_n 2, 1) := by decide +kernel
theorem dX8_layMarks_1 : decode cX8_layMarks 1 = .ok (.istore 5, 2) := by decide +kernel
theorem dX8_layMarks_3 : decode cX8_layMarks 3 = .ok (.iconst 4, 1) := by decide +kernel
theorem dX8_layMarks_4 : decode cX8_layMarks 4 = .ok (.istore 6, 2) := by decide +kernel
theorem dX8_layMarks_6 : decode cX8_layMarks 6 = .ok (.iload 6, 2) := by decide +kernel
theorem dX8_layMarks_8 : decode cX8_layMarks 8 = .ok (.ifCond .lt 28, 3) := by decide +kernel
theorem dX8_layMarks_11 : decode cX8_layMarks 11 = .ok (.aload_n 0, 1) := by decide +kernel
theorem dX8_layMarks_12 : decode cX8_layMarks 12 = .ok (.iload_n 1, 1) := by decide +kernel
theorem dX8_layMarks_13 : decode cX8_layMarks 13 = .ok (.iload 6, 2) := by decide +kernel
theorem dX8_layMarks_15 : decode cX8_layMarks 15 = .ok (.iadd, 1) := by decide +kernel
theorem dX8_layMarks_16 : decode cX8_layMarks 16 = .ok (.iload 5, 2) := by decide +kernel
theorem dX8_layMarks_18 : decode cX8_layMarks 18 = .ok (.iload_n 3, 1) := by decide +kernel
theorem dX8_layMarks_19 : decode cX8_layMarks 19 = .ok (.irem, 1) := by decide +kernel
theorem dX8_layMarks_20 : decode cX8_layMarks 20 = .ok (.iload 4, 2) := by decide +kernel
theorem dX8_layMarks_22 : decode cX8_layMarks 22 = .ok (.isub, 1) := by decide +kernel
theorem dX8_layMarks_23 : decode cX8_layMarks 23 = .ok (.iastore, 1) := by decide +kernel
theorem dX8_layMarks_24 : decode cX8_layMarks 24 = .ok (.iload 5, 2) := by decide +kernel
theorem dX8_layMarks_26 : decode cX8_layMarks 26 = .ok (.iload_n 3, 1) := by decide +kernel
theorem dX8_layMarks_27 : decode cX8_layMarks 27 = .ok (.idiv, 1) := by decide +kernel
theorem dX8_layMarks_28 : decode cX8_layMarks 28 = .ok (.istore 5, 2) := by decide +kernel
theorem dX8_layMarks_30 : decode cX8_layMarks 30 = .ok (.iinc 6 (-1), 3) := by decide +kernel
theorem dX8_layMarks_33 : decode cX8_layMarks 33 = .ok (.goto (-27), 3) := by decide +kernel
theorem dX8_layMarks_36 : decode cX8_layMarks 36 = .ok (.return_, 1) := by decide +kernel
theorem dX8_mark_0 : decode cX8_mark 0 = .ok (.aload_n 0, 1) := by decide +kernel
theorem dX8_mark_1 : decode cX8_mark 1 = .ok (.aload_n 0, 1) := by decide +kernel
theorem dX8_mark_2 : decode cX8_mark 2 = .ok (.getfield 13, 3) := by decide +kernel
theorem dX8_mark_5 : decode cX8_mark 5 = .ok (.iload_n 1, 1) := by decide +kernel
theorem dX8_mark_6 : decode cX8_mark 6 = .ok (.iload_n 2, 1) := by decide +kernel
theorem dX8_mark_7 : decode cX8_mark 7 = .ok (.invokestatic 76, 3) := by decide +kernel
theorem dX8_mark_10 : decode cX8_mark 10 = .ok (.ifCond .ne 7, 3) := by decide +kernel
theorem dX8_mark_13 : decode cX8_mark 13 = .ok (.iconst 1, 1) := by decide +kernel
theorem dX8_mark_14 : decode cX8_mark 14 = .ok (.goto 20, 3) := by decide +kernel
theorem dX8_mark_17 : decode cX8_mark 17 = .ok (.iload_n 3, 1) := by decide +kernel
theorem dX8_mark_18 : decode cX8_mark 18 = .ok (.i2l, 1) := by decide +kernel
theorem dX8_mark_19 : decode cX8_mark 19 = .ok (.lconst 0, 1) := by decide +kernel
theorem dX8_mark_20 : decode cX8_mark 20 = .ok (.ldc2_w 228, 3) := by decide +kernel
theorem dX8_mark_23 : decode cX8_mark 23 = .ok (.invokestatic 64, 3) := by decide +kernel
theorem dX8_mark_26 : decode cX8_mark 26 = .ok (.ifCond .eq 7, 3) := by decide +kernel
theorem dX8_mark_29 : decode cX8_mark 29 = .ok (.iconst 0, 1) := by decide +kernel
theorem dX8_mark_30 : decode cX8_mark 30 = .ok (.goto 4, 3) := by decide +kernel
theorem dX8_mark_33 : decode cX8_mark 33 = .ok (.iconst 2, 1) := by decide +kernel
theorem dX8_mark_34 : decode cX8_mark 34 = .ok (.invokevirtual 164, 3) := by decide +kernel
theorem dX8_mark_37 : decode cX8_mark 37 = .ok (.ifCond .eq 5, 3) := by decide +kernel
theorem dX8_mark_40 : decode cX8_mark 40 = .ok (.iconst 0, 1) := by decide +kernel
theorem dX8_mark_41 : decode cX8_mark 41 = .ok (.ireturn, 1) := by decide +kernel
theorem dX8_mark_42 : decode cX8_mark 42 = .ok (.aload_n 0, 1) := by decide +kernel
theorem dX8_mark_43 : decode cX8_mark 43 = .ok (.invokevirtual 225, 3) := by decide +kernel
theorem dX8_mark_46 : decode cX8_mark 46 = .ok (.aload_n 0, 1) := by decide +kernel
theorem dX8_mark_47 : decode cX8_mark 47 = .ok (.getfield 13, 3) := by decide +kernel
theorem dX8_mark_50 : decode cX8_mark 50 = .ok (.iload_n 1, 1) := by decide +kernel
theorem dX8_mark_51 : decode cX8_mark 51 = .ok (.iload_n 2, 1) := by decide +kernel
theorem dX8_mark_52 : decode cX8_mark 52 = .ok (.invokestatic 60, 3) := by decide +kernel
theorem dX8_mark_55 : decode cX8_mark 55 = .ok (.bipush 11, 2) := by decide +kernel
theorem dX8_mark_57 : decode cX8_mark 57 = .ok (.iadd, 1) := by decide +kernel
theorem dX8_mark_58 : decode cX8_mark 58 = .ok (.iload_n 3, 1) := by decide +kernel
theorem dX8_mark_59 : decode cX8_mark 59 = .ok (.bipush 11, 2) := by decide +kernel
theorem dX8_mark_61 : decode cX8_mark 61 = .ok (.iconst 5, 1) := by decide +kernel
theorem dX8_mark_62 : decode cX8_mark 62 = .ok (.invokestatic 230, 3) := by decide +kernel
theorem dX8_mark_65 : decode cX8_mark 65 = .ok (.aload_n 0, 1) := by decide +kernel
theorem dX8_mark_66 : decode cX8_mark 66 = .ok (.getfield 13, 3) := by decide +kernel
theorem dX8_mark_69 : decode cX8_mark 69 = .ok (.iload_n 1, 1) := by decide +kernel
theorem dX8_mark_70 : decode cX8_mark 70 = .ok (.iload_n 2, 1) := by decide +kernel
theorem dX8_mark_71 : decode cX8_mark 71 = .ok (.invokestatic 60, 3) := by decide +kernel
theorem dX8_mark_74 : decode cX8_mark 74 = .ok (.bipush 11, 2) := by decide +kernel
theorem dX8_mark_76 : decode cX8_mark 76 = .ok (.iadd, 1) := by decide +kernel
theorem dX8_mark_77 : decode cX8_mark 77 = .ok (.invokestatic 113, 3) := by decide +kernel
theorem dX8_mark_80 : decode cX8_mark 80 = .ok (.ireturn, 1) := by decide +kernel
theorem dX8_component_0 : decode cX8_component 0 = .ok (.aload_n 0, 1) := by decide +kernel
theorem dX8_component_1 : decode cX8_component 1 = .ok (.aload_n 0, 1) := by decide +kernel
theorem dX8_component_2 : decode cX8_component 2 = .ok (.getfield 13, 3) := by decide +kernel
theorem dX8_component_5 : decode cX8_component 5 = .ok (.iload_n 1, 1) := by decide +kernel
theorem dX8_component_6 : decode cX8_component 6 = .ok (.invokestatic 68, 3) := by decide +kernel
theorem dX8_component_9 : decode cX8_component 9 = .ok (.ifCond .eq 15, 3) := by decide +kernel
theorem dX8_component_12 : decode cX8_component 12 = .ok (.iload_n 2, 1) := by decide +kernel
theorem dX8_component_13 : decode cX8_component 13 = .ok (.i2l, 1) := by decide +kernel
theorem dX8_component_14 : decode cX8_component 14 = .ok (.lconst 0, 1) := by decide +kernel
theorem dX8_component_15 : decode cX8_component 15 = .ok (.ldc2_w 234, 3) := by decide +kernel
theorem dX8_component_18 : decode cX8_component 18 = .ok (.invokestatic 64, 3) := by decide +kernel
theorem dX8_component_21 : decode cX8_component 21 = .ok (.ifCond .ne 7, 3) := by decide +kernel
theorem dX8_component_24 : decode cX8_component 24 = .ok (.iconst 1, 1) := by decide +kernel
theorem dX8_component_25 : decode cX8_component 25 = .ok (.goto 20, 3) := by decide +kernel
theorem dX8_component_28 : decode cX8_component 28 = .ok (.iload_n 3, 1) := by decide +kernel
theorem dX8_component_29 : decode cX8_component 29 = .ok (.i2l, 1) := by decide +kernel
theorem dX8_component_30 : decode cX8_component 30 = .ok (.lconst 0, 1) := by decide +kernel
theorem dX8_component_31 : decode cX8_component 31 = .ok (.ldc2_w 236, 3) := by decide +kernel
theorem dX8_component_34 : decode cX8_component 34 = .ok (.invokestatic 64, 3) := by decide +kernel
theorem dX8_component_37 : decode cX8_component 37 = .ok (.ifCond .eq 7, 3) := by decide +kernel
theorem dX8_component_40 : decode cX8_component 40 = .ok (.iconst 0, 1) := by decide +kernel
theorem dX8_component_41 : decode cX8_component 41 = .ok (.goto 4, 3) := by decide +kernel
theorem dX8_component_44 : decode cX8_component 44 = .ok (.iconst 2, 1) := by decide +kernel
theorem dX8_component_45 : decode cX8_component 45 = .ok (.invokevirtual 164, 3) := by decide +kernel
theorem dX8_component_48 : decode cX8_component 48 = .ok (.ifCond .eq 5, 3) := by decide +kernel
theorem dX8_component_51 : decode cX8_component 51 = .ok (.iconst 0, 1) := by decide +kernel
theorem dX8_component_52 : decode cX8_component 52 = .ok (.ireturn, 1) := by decide +kernel
theorem dX8_component_53 : decode cX8_component 53 = .ok (.aload_n 0, 1) := by decide +kernel
theorem dX8_component_54 : decode cX8_component 54 = .ok (.invokevirtual 225, 3) := by decide +kernel
theorem dX8_component_57 : decode cX8_component 57 = .ok (.aload_n 0, 1) := by decide +kernel
theorem dX8_component_58 : decode cX8_component 58 = .ok (.getfield 13, 3) := by decide +kernel
theorem dX8_component_61 : decode cX8_component 61 = .ok (.iload_n 1, 1) := by decide +kernel
theorem dX8_component_62 : decode cX8_component 62 = .ok (.invokestatic 72, 3) := by decide +kernel
theorem dX8_component_65 : decode cX8_component 65 = .ok (.iconst 2, 1) := by decide +kernel
theorem dX8_component_66 : decode cX8_component 66 = .ok (.iadd, 1) := by decide +kernel
theorem dX8_component_67 : decode cX8_component 67 = .ok (.iconst 5, 1) := by decide +kernel
theorem dX8_component_68 : decode cX8_component 68 = .ok (.iload_n 2, 1) := by decide +kernel
theorem dX8_component_69 : decode cX8_component 69 = .ok (.imul, 1) := by decide +kernel
theorem dX8_component_70 : decode cX8_component 70 = .ok (.iadd, 1) := by decide +kernel
theorem dX8_component_71 : decode cX8_component 71 = .ok (.iload_n 3, 1) := by decide +kernel
theorem dX8_component_72 : decode cX8_component 72 = .ok (.bipush 41, 2) := by decide +kernel
theorem dX8_component_74 : decode cX8_component 74 = .ok (.iconst 0, 1) := by decide +kernel
theorem dX8_component_75 : decode cX8_component 75 = .ok (.invokestatic 230, 3) := by decide +kernel
theorem dX8_component_78 : decode cX8_component 78 = .ok (.aload_n 0, 1) := by decide +kernel
theorem dX8_component_79 : decode cX8_component 79 = .ok (.getfield 13, 3) := by decide +kernel
theorem dX8_component_82 : decode cX8_component 82 = .ok (.iload_n 1, 1) := by decide +kernel
theorem dX8_component_83 : decode cX8_component 83 = .ok (.iload_n 2, 1) := by decide +kernel
theorem dX8_component_84 : decode cX8_component 84 = .ok (.invokestatic 139, 3) := by decide +kernel
theorem dX8_component_87 : decode cX8_component 87 = .ok (.ireturn, 1) := by decide +kernel
theorem dX8_whyNotCall_0 : decode cX8_whyNotCall 0 = .ok (.aload_n 0, 1) := by decide +kernel
theorem dX8_whyNotCall_1 : decode cX8_whyNotCall 1 = .ok (.iload_n 1, 1) := by decide +kernel
theorem dX8_whyNotCall_2 : decode cX8_whyNotCall 2 = .ok (.iload_n 2, 1) := by decide +kernel
theorem dX8_whyNotCall_3 : decode cX8_whyNotCall 3 = .ok (.iload_n 3, 1) := by decide +kernel
theorem dX8_whyNotCall_4 : decode cX8_whyNotCall 4 = .ok (.invokestatic 212, 3) := by decide +kernel
theorem dX8_whyNotCall_7 : decode cX8_whyNotCall 7 = .ok (.ifCond .ne 5, 3) := by decide +kernel
theorem dX8_whyNotCall_10 : decode cX8_whyNotCall 10 = .ok (.iconst 1, 1) := by decide +kernel
theorem dX8_whyNotCall_11 : decode cX8_whyNotCall 11 = .ok (.ireturn, 1) := by decide +kernel
theorem dX8_whyNotCall_12 : decode cX8_whyNotCall 12 = .ok (.iload 4, 2) := by decide +kernel
theorem dX8_whyNotCall_14 : decode cX8_whyNotCall 14 = .ok (.i2l, 1) := by decide +kernel
theorem dX8_whyNotCall_15 : decode cX8_whyNotCall 15 = .ok (.lconst 0, 1) := by decide +kernel
theorem dX8_whyNotCall_16 : decode cX8_whyNotCall 16 = .ok (.ldc2_w 238, 3) := by decide +kernel
theorem dX8_whyNotCall_19 : decode cX8_whyNotCall 19 = .ok (.invokestatic 64, 3) := by decide +kernel
theorem dX8_whyNotCall_22 : decode cX8_whyNotCall 22 = .ok (.ifCond .ne 5, 3) := by decide +kernel
theorem dX8_whyNotCall_25 : decode cX8_whyNotCall 25 = .ok (.iconst 2, 1) := by decide +kernel
theorem dX8_whyNotCall_26 : decode cX8_whyNotCall 26 = .ok (.ireturn, 1) := by decide +kernel
theorem dX8_whyNotCall_27 : decode cX8_whyNotCall 27 = .ok (.aload_n 0, 1) := by decide +kernel
theorem dX8_whyNotCall_28 : decode cX8_whyNotCall 28 = .ok (.iload_n 1, 1) := by decide +kernel
theorem dX8_whyNotCall_29 : decode cX8_whyNotCall 29 = .ok (.iload_n 2, 1) := by decide +kernel
theorem dX8_whyNotCall_30 : decode cX8_whyNotCall 30 = .ok (.invokestatic 60, 3) := by decide +kernel
theorem dX8_whyNotCall_33 : decode cX8_whyNotCall 33 = .ok (.iconst 0, 1) := by decide +kernel
theorem dX8_whyNotCall_34 : decode cX8_whyNotCall 34 = .ok (.iadd, 1) := by decide +kernel
theorem dX8_whyNotCall_35 : decode cX8_whyNotCall 35 = .ok (.iaload, 1) := by decide +kernel
theorem dX8_whyNotCall_36 : decode cX8_whyNotCall 36 = .ok (.ifCond .ne 23, 3) := by decide +kernel
theorem dX8_whyNotCall_39 : decode cX8_whyNotCall 39 = .ok (.iload 4, 2) := by decide +kernel
theorem dX8_whyNotCall_41 : decode cX8_whyNotCall 41 = .ok (.iconst 3, 1) := by decide +kernel
theorem dX8_whyNotCall_42 : decode cX8_whyNotCall 42 = .ok (.if_icmp .ne 21, 3) := by decide +kernel
theorem dX8_whyNotCall_45 : decode cX8_whyNotCall 45 = .ok (.aload_n 0, 1) := by decide +kernel
theorem dX8_whyNotCall_46 : decode cX8_whyNotCall 46 = .ok (.iload_n 1, 1) := by decide +kernel
theorem dX8_whyNotCall_47 : decode cX8_whyNotCall 47 = .ok (.iload_n 2, 1) := by decide +kernel
theorem dX8_whyNotCall_48 : decode cX8_whyNotCall 48 = .ok (.iload_n 3, 1) := by decide +kernel
theorem dX8_whyNotCall_49 : decode cX8_whyNotCall 49 = .ok (.invokestatic 102, 3) := by decide +kernel
theorem dX8_whyNotCall_52 : decode cX8_whyNotCall 52 = .ok (.iaload, 1) := by decide +kernel
theorem dX8_whyNotCall_53 : decode cX8_whyNotCall 53 = .ok (.invokestatic 185, 3) := by decide +kernel
theorem dX8_whyNotCall_56 : decode cX8_whyNotCall 56 = .ok (.ifCond .ne 7, 3) := by decide +kernel
theorem dX8_whyNotCall_59 : decode cX8_whyNotCall 59 = .ok (.iconst 3, 1) := by decide +kernel
theorem dX8_whyNotCall_60 : decode cX8_whyNotCall 60 = .ok (.goto 4, 3) := by decide +kernel
theorem dX8_whyNotCall_63 : decode cX8_whyNotCall 63 = .ok (.iconst 0, 1) := by decide +kernel
theorem dX8_whyNotCall_64 : decode cX8_whyNotCall 64 = .ok (.ireturn, 1) := by decide +kernel
theorem dX8_callOn_0 : decode cX8_callOn 0 = .ok (.aload_n 0, 1) := by decide +kernel
theorem dX8_callOn_1 : decode cX8_callOn 1 = .ok (.iload_n 1, 1) := by decide +kernel
theorem dX8_callOn_2 : decode cX8_callOn 2 = .ok (.iload_n 2, 1) := by decide +kernel
theorem dX8_callOn_3 : decode cX8_callOn 3 = .ok (.iload_n 3, 1) := by decide +kernel
theorem dX8_callOn_4 : decode cX8_callOn 4 = .ok (.invokestatic 102, 3) := by decide +kernel
theorem dX8_callOn_7 : decode cX8_callOn 7 = .ok (.iconst 2, 1) := by decide +kernel
theorem dX8_callOn_8 : decode cX8_callOn 8 = .ok (.iadd, 1) := by decide +kernel
theorem dX8_callOn_9 : decode cX8_callOn 9 = .ok (.iaload, 1) := by decide +kernel
theorem dX8_callOn_10 : decode cX8_callOn 10 = .ok (.istore 5, 2) := by decide +kernel
theorem dX8_callOn_12 : decode cX8_callOn 12 = .ok (.aload_n 0, 1) := by decide +kernel
theorem dX8_callOn_13 : decode cX8_callOn 13 = .ok (.iload_n 1, 1) := by decide +kernel
theorem dX8_callOn_14 : decode cX8_callOn 14 = .ok (.iload_n 2, 1) := by decide +kernel
theorem dX8_callOn_15 : decode cX8_callOn 15 = .ok (.iload_n 3, 1) := by decide +kernel
theorem dX8_callOn_16 : decode cX8_callOn 16 = .ok (.invokestatic 102, 3) := by decide +kernel
theorem dX8_callOn_19 : decode cX8_callOn 19 = .ok (.iconst 2, 1) := by decide +kernel
theorem dX8_callOn_20 : decode cX8_callOn 20 = .ok (.iadd, 1) := by decide +kernel
theorem dX8_callOn_21 : decode cX8_callOn 21 = .ok (.iload 4, 2) := by decide +kernel
theorem dX8_callOn_23 : decode cX8_callOn 23 = .ok (.iastore, 1) := by decide +kernel
theorem dX8_callOn_24 : decode cX8_callOn 24 = .ok (.iload 5, 2) := by decide +kernel
theorem dX8_callOn_26 : decode cX8_callOn 26 = .ok (.ireturn, 1) := by decide +kernel
theorem dX8_call_0 : decode cX8_call 0 = .ok (.aload_n 0, 1) := by decide +kernel
theorem dX8_call_1 : decode cX8_call 1 = .ok (.aload_n 0, 1) := by decide +kernel
theorem dX8_call_2 : decode cX8_call 2 = .ok (.getfield 13, 3) := by decide +kernel
theorem dX8_call_5 : decode cX8_call 5 = .ok (.iload_n 1, 1) := by decide +kernel
theorem dX8_call_6 : decode cX8_call 6 = .ok (.iload_n 2, 1) := by decide +kernel
theorem dX8_call_7 : decode cX8_call 7 = .ok (.iload_n 3, 1) := by decide +kernel
theorem dX8_call_8 : decode cX8_call 8 = .ok (.iload 4, 2) := by decide +kernel
theorem dX8_call_10 : decode cX8_call 10 = .ok (.invokestatic 240, 3) := by decide +kernel
theorem dX8_call_13 : decode cX8_call 13 = .ok (.invokevirtual 164, 3) := by decide +kernel
theorem dX8_call_16 : decode cX8_call 16 = .ok (.ifCond .eq 5, 3) := by decide +kernel
theorem dX8_call_19 : decode cX8_call 19 = .ok (.iconst 0, 1) := by decide +kernel
theorem dX8_call_20 : decode cX8_call 20 = .ok (.ireturn, 1) := by decide +kernel
theorem dX8_call_21 : decode cX8_call 21 = .ok (.aload_n 0, 1) := by decide +kernel
theorem dX8_call_22 : decode cX8_call 22 = .ok (.invokevirtual 225, 3) := by decide +kernel
theorem dX8_call_25 : decode cX8_call 25 = .ok (.aload_n 0, 1) := by decide +kernel
theorem dX8_call_26 : decode cX8_call 26 = .ok (.getfield 13, 3) := by decide +kernel
theorem dX8_call_29 : decode cX8_call 29 = .ok (.iload_n 1, 1) := by decide +kernel
theorem dX8_call_30 : decode cX8_call 30 = .ok (.iload_n 2, 1) := by decide +kernel
theorem dX8_call_31 : decode cX8_call 31 = .ok (.iload_n 3, 1) := by decide +kernel
theorem dX8_call_32 : decode cX8_call 32 = .ok (.iload 4, 2) := by decide +kernel
theorem dX8_call_34 : decode cX8_call 34 = .ok (.invokestatic 244, 3) := by decide +kernel
theorem dX8_call_37 : decode cX8_call 37 = .ok (.ireturn, 1) := by decide +kernel
theorem dX8_review_0 : decode cX8_review 0 = .ok (.aload_n 0, 1) := by decide +kernel
theorem dX8_review_1 : decode cX8_review 1 = .ok (.aload_n 0, 1) := by decide +kernel
theorem dX8_review_2 : decode cX8_review 2 = .ok (.getfield 13, 3) := by decide +kernel
theorem dX8_review_5 : decode cX8_review 5 = .ok (.iload_n 1, 1) := by decide +kernel
theorem dX8_review_6 : decode cX8_review 6 = .ok (.iload_n 2, 1) := by decide +kernel
theorem dX8_review_7 : decode cX8_review 7 = .ok (.invokestatic 76, 3) := by decide +kernel
theorem dX8_review_10 : decode cX8_review 10 = .ok (.ifCond .eq 7, 3) := by decide +kernel
theorem dX8_review_13 : decode cX8_review 13 = .ok (.iconst 0, 1) := by decide +kernel
theorem dX8_review_14 : decode cX8_review 14 = .ok (.goto 4, 3) := by decide +kernel
theorem dX8_review_17 : decode cX8_review 17 = .ok (.iconst 1, 1) := by decide +kernel
theorem dX8_review_18 : decode cX8_review 18 = .ok (.invokevirtual 164, 3) := by decide +kernel
theorem dX8_review_21 : decode cX8_review 21 = .ok (.ifCond .eq 5, 3) := by decide +kernel
theorem dX8_review_24 : decode cX8_review 24 = .ok (.iconst 0, 1) := by decide +kernel
theorem dX8_review_25 : decode cX8_review 25 = .ok (.ireturn, 1) := by decide +kernel
theorem dX8_review_26 : decode cX8_review 26 = .ok (.aload_n 0, 1) := by decide +kernel
theorem dX8_review_27 : decode cX8_review 27 = .ok (.invokevirtual 225, 3) := by decide +kernel
theorem dX8_review_30 : decode cX8_review 30 = .ok (.aload_n 0, 1) := by decide +kernel
theorem dX8_review_31 : decode cX8_review 31 = .ok (.getfield 13, 3) := by decide +kernel
theorem dX8_review_34 : decode cX8_review 34 = .ok (.iload_n 1, 1) := by decide +kernel
theorem dX8_review_35 : decode cX8_review 35 = .ok (.iload_n 2, 1) := by decide +kernel
theorem dX8_review_36 : decode cX8_review 36 = .ok (.invokestatic 60, 3) := by decide +kernel
theorem dX8_review_39 : decode cX8_review 39 = .ok (.bipush 17, 2) := by decide +kernel
theorem dX8_review_41 : decode cX8_review 41 = .ok (.iadd, 1) := by decide +kernel
theorem dX8_review_42 : decode cX8_review 42 = .ok (.iload_n 3, 1) := by decide +kernel
theorem dX8_review_43 : decode cX8_review 43 = .ok (.ifCond .eq 7, 3) := by decide +kernel
theorem dX8_review_46 : decode cX8_review 46 = .ok (.iconst 1, 1) := by decide +kernel
theorem dX8_review_47 : decode cX8_review 47 = .ok (.goto 4, 3) := by decide +kernel
theorem dX8_review_50 : decode cX8_review 50 = .ok (.iconst 0, 1) := by decide +kernel
theorem dX8_review_51 : decode cX8_review 51 = .ok (.iastore, 1) := by decide +kernel
theorem dX8_review_52 : decode cX8_review 52 = .ok (.aload_n 0, 1) := by decide +kernel
theorem dX8_review_53 : decode cX8_review 53 = .ok (.getfield 13, 3) := by decide +kernel
theorem dX8_review_56 : decode cX8_review 56 = .ok (.bipush 17, 2) := by decide +kernel
theorem dX8_review_58 : decode cX8_review 58 = .ok (.invokestatic 201, 3) := by decide +kernel
theorem dX8_review_61 : decode cX8_review 61 = .ok (.ireturn, 1) := by decide +kernel
theorem dX8_fall_0 : decode cX8_fall 0 = .ok (.aload_n 0, 1) := by decide +kernel
theorem dX8_fall_1 : decode cX8_fall 1 = .ok (.aload_n 0, 1) := by decide +kernel
theorem dX8_fall_2 : decode cX8_fall 2 = .ok (.getfield 13, 3) := by decide +kernel
theorem dX8_fall_5 : decode cX8_fall 5 = .ok (.iload_n 1, 1) := by decide +kernel
theorem dX8_fall_6 : decode cX8_fall 6 = .ok (.iload_n 2, 1) := by decide +kernel
theorem dX8_fall_7 : decode cX8_fall 7 = .ok (.invokestatic 76, 3) := by decide +kernel
theorem dX8_fall_10 : decode cX8_fall 10 = .ok (.ifCond .eq 7, 3) := by decide +kernel
theorem dX8_fall_13 : decode cX8_fall 13 = .ok (.iconst 0, 1) := by decide +kernel
theorem dX8_fall_14 : decode cX8_fall 14 = .ok (.goto 4, 3) := by decide +kernel
theorem dX8_fall_17 : decode cX8_fall 17 = .ok (.iconst 1, 1) := by decide +kernel
theorem dX8_fall_18 : decode cX8_fall 18 = .ok (.invokevirtual 164, 3) := by decide +kernel
theorem dX8_fall_21 : decode cX8_fall 21 = .ok (.ifCond .eq 5, 3) := by decide +kernel
theorem dX8_fall_24 : decode cX8_fall 24 = .ok (.iconst 0, 1) := by decide +kernel
theorem dX8_fall_25 : decode cX8_fall 25 = .ok (.ireturn, 1) := by decide +kernel
theorem dX8_fall_26 : decode cX8_fall 26 = .ok (.aload_n 0, 1) := by decide +kernel
theorem dX8_fall_27 : decode cX8_fall 27 = .ok (.invokevirtual 225, 3) := by decide +kernel
theorem dX8_fall_30 : decode cX8_fall 30 = .ok (.aload_n 0, 1) := by decide +kernel
theorem dX8_fall_31 : decode cX8_fall 31 = .ok (.getfield 13, 3) := by decide +kernel
theorem dX8_fall_34 : decode cX8_fall 34 = .ok (.iload_n 1, 1) := by decide +kernel
theorem dX8_fall_35 : decode cX8_fall 35 = .ok (.iload_n 2, 1) := by decide +kernel
theorem dX8_fall_36 : decode cX8_fall 36 = .ok (.invokestatic 60, 3) := by decide +kernel
theorem dX8_fall_39 : decode cX8_fall 39 = .ok (.bipush 16, 2) := by decide +kernel
theorem dX8_fall_41 : decode cX8_fall 41 = .ok (.iadd, 1) := by decide +kernel
theorem dX8_fall_42 : decode cX8_fall 42 = .ok (.iload_n 3, 1) := by decide +kernel
theorem dX8_fall_43 : decode cX8_fall 43 = .ok (.ifCond .eq 7, 3) := by decide +kernel
theorem dX8_fall_46 : decode cX8_fall 46 = .ok (.iconst 1, 1) := by decide +kernel
theorem dX8_fall_47 : decode cX8_fall 47 = .ok (.goto 4, 3) := by decide +kernel
theorem dX8_fall_50 : decode cX8_fall 50 = .ok (.iconst 0, 1) := by decide +kernel
theorem dX8_fall_51 : decode cX8_fall 51 = .ok (.iastore, 1) := by decide +kernel
theorem dX8_fall_52 : decode cX8_fall 52 = .ok (.aload_n 0, 1) := by decide +kernel
theorem dX8_fall_53 : decode cX8_fall 53 = .ok (.getfield 13, 3) := by decide +kernel
theorem dX8_fall_56 : decode cX8_fall 56 = .ok (.iload_n 1, 1) := by decide +kernel
theorem dX8_fall_57 : decode cX8_fall 57 = .ok (.bipush 16, 2) := by decide +kernel
theorem dX8_fall_59 : decode cX8_fall 59 = .ok (.invokestatic 156, 3) := by decide +kernel
theorem dX8_fall_62 : decode cX8_fall 62 = .ok (.ireturn, 1) := by decide +kernel
theorem dX8_penalty_0 : decode cX8_penalty 0 = .ok (.aload_n 0, 1) := by decide +kernel
theorem dX8_penalty_1 : decode cX8_penalty 1 = .ok (.aload_n 0, 1) := by decide +kernel
theorem dX8_penalty_2 : decode cX8_penalty 2 = .ok (.getfield 13, 3) := by decide +kernel
theorem dX8_penalty_5 : decode cX8_penalty 5 = .ok (.iload_n 1, 1) := by decide +kernel
theorem dX8_penalty_6 : decode cX8_penalty 6 = .ok (.invokestatic 68, 3) := by decide +kernel
theorem dX8_penalty_9 : decode cX8_penalty 9 = .ok (.ifCond .ne 7, 3) := by decide +kernel
theorem dX8_penalty_12 : decode cX8_penalty 12 = .ok (.iconst 1, 1) := by decide +kernel
theorem dX8_penalty_13 : decode cX8_penalty 13 = .ok (.goto 20, 3) := by decide +kernel
theorem dX8_penalty_16 : decode cX8_penalty 16 = .ok (.iload_n 2, 1) := by decide +kernel
theorem dX8_penalty_17 : decode cX8_penalty 17 = .ok (.i2l, 1) := by decide +kernel
theorem dX8_penalty_18 : decode cX8_penalty 18 = .ok (.lconst 0, 1) := by decide +kernel
theorem dX8_penalty_19 : decode cX8_penalty 19 = .ok (.ldc2_w 247, 3) := by decide +kernel
theorem dX8_penalty_22 : decode cX8_penalty 22 = .ok (.invokestatic 64, 3) := by decide +kernel
theorem dX8_penalty_25 : decode cX8_penalty 25 = .ok (.ifCond .eq 7, 3) := by decide +kernel
theorem dX8_penalty_28 : decode cX8_penalty 28 = .ok (.iconst 0, 1) := by decide +kernel
theorem dX8_penalty_29 : decode cX8_penalty 29 = .ok (.goto 4, 3) := by decide +kernel
theorem dX8_penalty_32 : decode cX8_penalty 32 = .ok (.iconst 2, 1) := by decide +kernel
theorem dX8_penalty_33 : decode cX8_penalty 33 = .ok (.invokevirtual 164, 3) := by decide +kernel
theorem dX8_penalty_36 : decode cX8_penalty 36 = .ok (.ifCond .eq 5, 3) := by decide +kernel
theorem dX8_penalty_39 : decode cX8_penalty 39 = .ok (.iconst 0, 1) := by decide +kernel
theorem dX8_penalty_40 : decode cX8_penalty 40 = .ok (.ireturn, 1) := by decide +kernel
theorem dX8_penalty_41 : decode cX8_penalty 41 = .ok (.aload_n 0, 1) := by decide +kernel
theorem dX8_penalty_42 : decode cX8_penalty 42 = .ok (.invokevirtual 225, 3) := by decide +kernel
theorem dX8_penalty_45 : decode cX8_penalty 45 = .ok (.aload_n 0, 1) := by decide +kernel
theorem dX8_penalty_46 : decode cX8_penalty 46 = .ok (.getfield 13, 3) := by decide +kernel
theorem dX8_penalty_49 : decode cX8_penalty 49 = .ok (.iload_n 1, 1) := by decide +kernel
theorem dX8_penalty_50 : decode cX8_penalty 50 = .ok (.invokestatic 72, 3) := by decide +kernel
theorem dX8_penalty_53 : decode cX8_penalty 53 = .ok (.iconst 1, 1) := by decide +kernel
theorem dX8_penalty_54 : decode cX8_penalty 54 = .ok (.iadd, 1) := by decide +kernel
theorem dX8_penalty_55 : decode cX8_penalty 55 = .ok (.iaload, 1) := by decide +kernel
theorem dX8_penalty_56 : decode cX8_penalty 56 = .ok (.istore_n 3, 1) := by decide +kernel
theorem dX8_penalty_57 : decode cX8_penalty 57 = .ok (.aload_n 0, 1) := by decide +kernel
theorem dX8_penalty_58 : decode cX8_penalty 58 = .ok (.getfield 13, 3) := by decide +kernel
theorem dX8_penalty_61 : decode cX8_penalty 61 = .ok (.iload_n 1, 1) := by decide +kernel
theorem dX8_penalty_62 : decode cX8_penalty 62 = .ok (.invokestatic 72, 3) := by decide +kernel
theorem dX8_penalty_65 : decode cX8_penalty 65 = .ok (.iconst 1, 1) := by decide +kernel
theorem dX8_penalty_66 : decode cX8_penalty 66 = .ok (.iadd, 1) := by decide +kernel
theorem dX8_penalty_67 : decode cX8_penalty 67 = .ok (.iload_n 2, 1) := by decide +kernel
theorem dX8_penalty_68 : decode cX8_penalty 68 = .ok (.iastore, 1) := by decide +kernel
theorem dX8_penalty_69 : decode cX8_penalty 69 = .ok (.iload_n 3, 1) := by decide +kernel
theorem dX8_penalty_70 : decode cX8_penalty 70 = .ok (.ireturn, 1) := by decide +kernel
theorem dX8_isSetting_0 : decode cX8_isSetting 0 = .ok (.iload_n 0, 1) := by decide +kernel
theorem dX8_isSetting_1 : decode cX8_isSetting 1 = .ok (.i2l, 1) := by decide +kernel
theorem dX8_isSetting_2 : decode cX8_isSetting 2 = .ok (.lconst 0, 1) := by decide +kernel
theorem dX8_isSetting_3 : decode cX8_isSetting 3 = .ok (.ldc2_w 216, 3) := by decide +kernel
theorem dX8_isSetting_6 : decode cX8_isSetting 6 = .ok (.invokestatic 64, 3) := by decide +kernel
theorem dX8_isSetting_9 : decode cX8_isSetting 9 = .ok (.ifCond .eq 61, 3) := by decide +kernel
theorem dX8_isSetting_12 : decode cX8_isSetting 12 = .ok (.iload_n 1, 1) := by decide +kernel
theorem dX8_isSetting_13 : decode cX8_isSetting 13 = .ok (.i2l, 1) := by decide +kernel
theorem dX8_isSetting_14 : decode cX8_isSetting 14 = .ok (.iload_n 0, 1) := by decide +kernel
theorem dX8_isSetting_15 : decode cX8_isSetting 15 = .ok (.ifCond .ne 9, 3) := by decide +kernel
theorem dX8_isSetting_18 : decode cX8_isSetting 18 = .ok (.ldc2_w 249, 3) := by decide +kernel
theorem dX8_isSetting_21 : decode cX8_isSetting 21 = .ok (.goto 4, 3) := by decide +kernel
theorem dX8_isSetting_24 : decode cX8_isSetting 24 = .ok (.lconst 0, 1) := by decide +kernel
theorem dX8_isSetting_25 : decode cX8_isSetting 25 = .ok (.iload_n 0, 1) := by decide +kernel
theorem dX8_isSetting_26 : decode cX8_isSetting 26 = .ok (.ifCond .ne 9, 3) := by decide +kernel
theorem dX8_isSetting_29 : decode cX8_isSetting 29 = .ok (.ldc2_w 251, 3) := by decide +kernel
theorem dX8_isSetting_32 : decode cX8_isSetting 32 = .ok (.goto 28, 3) := by decide +kernel
theorem dX8_isSetting_35 : decode cX8_isSetting 35 = .ok (.iload_n 0, 1) := by decide +kernel
theorem dX8_isSetting_36 : decode cX8_isSetting 36 = .ok (.iconst 2, 1) := by decide +kernel
theorem dX8_isSetting_37 : decode cX8_isSetting 37 = .ok (.if_icmp .ne 9, 3) := by decide +kernel
theorem dX8_isSetting_40 : decode cX8_isSetting 40 = .ok (.ldc2_w 253, 3) := by decide +kernel
theorem dX8_isSetting_43 : decode cX8_isSetting 43 = .ok (.goto 17, 3) := by decide +kernel
theorem dX8_isSetting_46 : decode cX8_isSetting 46 = .ok (.iload_n 0, 1) := by decide +kernel
theorem dX8_isSetting_47 : decode cX8_isSetting 47 = .ok (.iconst 4, 1) := by decide +kernel
theorem dX8_isSetting_48 : decode cX8_isSetting 48 = .ok (.if_icmp .ne 9, 3) := by decide +kernel
theorem dX8_isSetting_51 : decode cX8_isSetting 51 = .ok (.ldc2_w 255, 3) := by decide +kernel
theorem dX8_isSetting_54 : decode cX8_isSetting 54 = .ok (.goto 6, 3) := by decide +kernel
theorem dX8_isSetting_57 : decode cX8_isSetting 57 = .ok (.ldc2_w 199, 3) := by decide +kernel
theorem dX8_isSetting_60 : decode cX8_isSetting 60 = .ok (.invokestatic 64, 3) := by decide +kernel
theorem dX8_isSetting_63 : decode cX8_isSetting 63 = .ok (.ifCond .eq 7, 3) := by decide +kernel
theorem dX8_isSetting_66 : decode cX8_isSetting 66 = .ok (.iconst 1, 1) := by decide +kernel
theorem dX8_isSetting_67 : decode cX8_isSetting 67 = .ok (.goto 4, 3) := by decide +kernel
theorem dX8_isSetting_70 : decode cX8_isSetting 70 = .ok (.iconst 0, 1) := by decide +kernel
theorem dX8_isSetting_71 : decode cX8_isSetting 71 = .ok (.ireturn, 1) := by decide +kernel
theorem dX8_set_0 : decode cX8_set 0 = .ok (.aload_n 0, 1) := by decide +kernel
theorem dX8_set_1 : decode cX8_set 1 = .ok (.iload_n 1, 1) := by decide +kernel
theorem dX8_set_2 : decode cX8_set 2 = .ok (.iload_n 2, 1) := by decide +kernel
theorem dX8_set_3 : decode cX8_set 3 = .ok (.invokestatic 257, 3) := by decide +kernel
theorem dX8_set_6 : decode cX8_set 6 = .ok (.ifCond .eq 7, 3) := by decide +kernel
theorem dX8_set_9 : decode cX8_set 9 = .ok (.iconst 0, 1) := by decide +kernel
theorem dX8_set_10 : decode cX8_set 10 = .ok (.goto 4, 3) := by decide +kernel
theorem dX8_set_13 : decode cX8_set 13 = .ok (.iconst 1, 1) := by decide +kernel
theorem dX8_set_14 : decode cX8_set 14 = .ok (.invokevirtual 164, 3) := by decide +kernel
theorem dX8_set_17 : decode cX8_set 17 = .ok (.ifCond .eq 5, 3) := by decide +kernel
theorem dX8_set_20 : decode cX8_set 20 = .ok (.iconst 0, 1) := by decide +kernel
theorem dX8_set_21 : decode cX8_set 21 = .ok (.ireturn, 1) := by decide +kernel
theorem dX8_set_22 : decode cX8_set 22 = .ok (.aload_n 0, 1) := by decide +kernel
theorem dX8_set_23 : decode cX8_set 23 = .ok (.invokevirtual 225, 3) := by decide +kernel
theorem dX8_set_26 : decode cX8_set 26 = .ok (.aload_n 0, 1) := by decide +kernel
theorem dX8_set_27 : decode cX8_set 27 = .ok (.getfield 13, 3) := by decide +kernel
theorem dX8_set_30 : decode cX8_set 30 = .ok (.iconst 1, 1) := by decide +kernel
theorem dX8_set_31 : decode cX8_set 31 = .ok (.iload_n 1, 1) := by decide +kernel
theorem dX8_set_32 : decode cX8_set 32 = .ok (.iadd, 1) := by decide +kernel
theorem dX8_set_33 : decode cX8_set 33 = .ok (.iaload, 1) := by decide +kernel
theorem dX8_set_34 : decode cX8_set 34 = .ok (.istore_n 3, 1) := by decide +kernel
theorem dX8_set_35 : decode cX8_set 35 = .ok (.aload_n 0, 1) := by decide +kernel
theorem dX8_set_36 : decode cX8_set 36 = .ok (.getfield 13, 3) := by decide +kernel
theorem dX8_set_39 : decode cX8_set 39 = .ok (.iconst 1, 1) := by decide +kernel
theorem dX8_set_40 : decode cX8_set 40 = .ok (.iload_n 1, 1) := by decide +kernel
theorem dX8_set_41 : decode cX8_set 41 = .ok (.iadd, 1) := by decide +kernel
theorem dX8_set_42 : decode cX8_set 42 = .ok (.iload_n 2, 1) := by decide +kernel
theorem dX8_set_43 : decode cX8_set 43 = .ok (.iastore, 1) := by decide +kernel
theorem dX8_set_44 : decode cX8_set 44 = .ok (.iload_n 3, 1) := by decide +kernel
theorem dX8_set_45 : decode cX8_set 45 = .ok (.ireturn, 1) := by decide +kernel
theorem dX8_undo_0 : decode cX8_undo 0 = .ok (.aload_n 0, 1) := by decide +kernel
theorem dX8_undo_1 : decode cX8_undo 1 = .ok (.aload_n 0, 1) := by decide +kernel
theorem dX8_undo_2 : decode cX8_undo 2 = .ok (.getfield 218, 3) := by decide +kernel
theorem dX8_undo_5 : decode cX8_undo 5 = .ok (.ifCond .ne 7, 3) := by decide +kernel
theorem dX8_undo_8 : decode cX8_undo 8 = .ok (.iconst 1, 1) := by decide +kernel
theorem dX8_undo_9 : decode cX8_undo 9 = .ok (.goto 4, 3) := by decide +kernel
theorem dX8_undo_12 : decode cX8_undo 12 = .ok (.iconst 0, 1) := by decide +kernel
theorem dX8_undo_13 : decode cX8_undo 13 = .ok (.invokevirtual 164, 3) := by decide +kernel
theorem dX8_undo_16 : decode cX8_undo 16 = .ok (.ifCond .eq 5, 3) := by decide +kernel
theorem dX8_undo_19 : decode cX8_undo 19 = .ok (.iconst 0, 1) := by decide +kernel
theorem dX8_undo_20 : decode cX8_undo 20 = .ok (.ireturn, 1) := by decide +kernel
theorem dX8_undo_21 : decode cX8_undo 21 = .ok (.aload_n 0, 1) := by decide +kernel
theorem dX8_undo_22 : decode cX8_undo 22 = .ok (.dup, 1) := by decide +kernel
theorem dX8_undo_23 : decode cX8_undo 23 = .ok (.getfield 218, 3) := by decide +kernel
theorem dX8_undo_26 : decode cX8_undo 26 = .ok (.iconst 1, 1) := by decide +kernel
theorem dX8_undo_27 : decode cX8_undo 27 = .ok (.isub, 1) := by decide +kernel
theorem dX8_undo_28 : decode cX8_undo 28 = .ok (.putfield 218, 3) := by decide +kernel
theorem dX8_undo_31 : decode cX8_undo 31 = .ok (.aload_n 0, 1) := by decide +kernel
theorem dX8_undo_32 : decode cX8_undo 32 = .ok (.getfield 19, 3) := by decide +kernel
theorem dX8_undo_35 : decode cX8_undo 35 = .ok (.sipush 938, 3) := by decide +kernel
theorem dX8_undo_38 : decode cX8_undo 38 = .ok (.aload_n 0, 1) := by decide +kernel
theorem dX8_undo_39 : decode cX8_undo 39 = .ok (.getfield 218, 3) := by decide +kernel
theorem dX8_undo_42 : decode cX8_undo 42 = .ok (.imul, 1) := by decide +kernel
theorem dX8_undo_43 : decode cX8_undo 43 = .ok (.aload_n 0, 1) := by decide +kernel
theorem dX8_undo_44 : decode cX8_undo 44 = .ok (.getfield 13, 3) := by decide +kernel
theorem dX8_undo_47 : decode cX8_undo 47 = .ok (.iconst 0, 1) := by decide +kernel
theorem dX8_undo_48 : decode cX8_undo 48 = .ok (.invokestatic 221, 3) := by decide +kernel
theorem dX8_undo_51 : decode cX8_undo 51 = .ok (.aload_n 0, 1) := by decide +kernel
theorem dX8_undo_52 : decode cX8_undo 52 = .ok (.getfield 218, 3) := by decide +kernel
theorem dX8_undo_55 : decode cX8_undo 55 = .ok (.ireturn, 1) := by decide +kernel
theorem dX8_ifCalled_0 : decode cX8_ifCalled 0 = .ok (.aload_n 0, 1) := by decide +kernel
theorem dX8_ifCalled_1 : decode cX8_ifCalled 1 = .ok (.aload_n 0, 1) := by decide +kernel
theorem dX8_ifCalled_2 : decode cX8_ifCalled 2 = .ok (.getfield 13, 3) := by decide +kernel
theorem dX8_ifCalled_5 : decode cX8_ifCalled 5 = .ok (.iload_n 1, 1) := by decide +kernel
theorem dX8_ifCalled_6 : decode cX8_ifCalled 6 = .ok (.iload_n 2, 1) := by decide +kernel
theorem dX8_ifCalled_7 : decode cX8_ifCalled 7 = .ok (.iload_n 3, 1) := by decide +kernel
theorem dX8_ifCalled_8 : decode cX8_ifCalled 8 = .ok (.iload 4, 2) := by decide +kernel
theorem dX8_ifCalled_10 : decode cX8_ifCalled 10 = .ok (.invokestatic 240, 3) := by decide +kernel
theorem dX8_ifCalled_13 : decode cX8_ifCalled 13 = .ok (.invokevirtual 164, 3) := by decide +kernel
theorem dX8_ifCalled_16 : decode cX8_ifCalled 16 = .ok (.ifCond .eq 5, 3) := by decide +kernel
theorem dX8_ifCalled_19 : decode cX8_ifCalled 19 = .ok (.iconst 0, 1) := by decide +kernel
theorem dX8_ifCalled_20 : decode cX8_ifCalled 20 = .ok (.ireturn, 1) := by decide +kernel
theorem dX8_ifCalled_21 : decode cX8_ifCalled 21 = .ok (.aload_n 0, 1) := by decide +kernel
theorem dX8_ifCalled_22 : decode cX8_ifCalled 22 = .ok (.getfield 13, 3) := by decide +kernel
theorem dX8_ifCalled_25 : decode cX8_ifCalled 25 = .ok (.iconst 0, 1) := by decide +kernel
theorem dX8_ifCalled_26 : decode cX8_ifCalled 26 = .ok (.aload_n 0, 1) := by decide +kernel
theorem dX8_ifCalled_27 : decode cX8_ifCalled 27 = .ok (.getfield 16, 3) := by decide +kernel
theorem dX8_ifCalled_30 : decode cX8_ifCalled 30 = .ok (.iconst 0, 1) := by decide +kernel
theorem dX8_ifCalled_31 : decode cX8_ifCalled 31 = .ok (.invokestatic 221, 3) := by decide +kernel
theorem dX8_ifCalled_34 : decode cX8_ifCalled 34 = .ok (.aload_n 0, 1) := by decide +kernel
theorem dX8_ifCalled_35 : decode cX8_ifCalled 35 = .ok (.getfield 16, 3) := by decide +kernel
theorem dX8_ifCalled_38 : decode cX8_ifCalled 38 = .ok (.iload_n 1, 1) := by decide +kernel
theorem dX8_ifCalled_39 : decode cX8_ifCalled 39 = .ok (.iload_n 2, 1) := by decide +kernel
theorem dX8_ifCalled_40 : decode cX8_ifCalled 40 = .ok (.iload_n 3, 1) := by decide +kernel
theorem dX8_ifCalled_41 : decode cX8_ifCalled 41 = .ok (.iload 4, 2) := by decide +kernel
theorem dX8_ifCalled_43 : decode cX8_ifCalled 43 = .ok (.invokestatic 244, 3) := by decide +kernel
theorem dX8_ifCalled_46 : decode cX8_ifCalled 46 = .ok (.pop, 1) := by decide +kernel
theorem dX8_ifCalled_47 : decode cX8_ifCalled 47 = .ok (.aload_n 0, 1) := by decide +kernel
theorem dX8_ifCalled_48 : decode cX8_ifCalled 48 = .ok (.aload_n 0, 1) := by decide +kernel
theorem dX8_ifCalled_49 : decode cX8_ifCalled 49 = .ok (.getfield 16, 3) := by decide +kernel
theorem dX8_ifCalled_52 : decode cX8_ifCalled 52 = .ok (.iload_n 1, 1) := by decide +kernel
theorem dX8_ifCalled_53 : decode cX8_ifCalled 53 = .ok (.invokevirtual 146, 3) := by decide +kernel
theorem dX8_ifCalled_56 : decode cX8_ifCalled 56 = .ok (.ireturn, 1) := by decide +kernel
theorem dX8_ifReplaced_0 : decode cX8_ifReplaced 0 = .ok (.aload_n 0, 1) := by decide +kernel
theorem dX8_ifReplaced_1 : decode cX8_ifReplaced 1 = .ok (.aload_n 0, 1) := by decide +kernel
theorem dX8_ifReplaced_2 : decode cX8_ifReplaced 2 = .ok (.getfield 13, 3) := by decide +kernel
theorem dX8_ifReplaced_5 : decode cX8_ifReplaced 5 = .ok (.iload_n 1, 1) := by decide +kernel
theorem dX8_ifReplaced_6 : decode cX8_ifReplaced 6 = .ok (.iload_n 2, 1) := by decide +kernel
theorem dX8_ifReplaced_7 : decode cX8_ifReplaced 7 = .ok (.invokestatic 76, 3) := by decide +kernel
theorem dX8_ifReplaced_10 : decode cX8_ifReplaced 10 = .ok (.ifCond .ne 7, 3) := by decide +kernel
theorem dX8_ifReplaced_13 : decode cX8_ifReplaced 13 = .ok (.iconst 1, 1) := by decide +kernel
theorem dX8_ifReplaced_14 : decode cX8_ifReplaced 14 = .ok (.goto 26, 3) := by decide +kernel
theorem dX8_ifReplaced_17 : decode cX8_ifReplaced 17 = .ok (.aload_n 0, 1) := by decide +kernel
theorem dX8_ifReplaced_18 : decode cX8_ifReplaced 18 = .ok (.invokevirtual 196, 3) := by decide +kernel
theorem dX8_ifReplaced_21 : decode cX8_ifReplaced 21 = .ok (.iconst (-1), 1) := by decide +kernel
theorem dX8_ifReplaced_22 : decode cX8_ifReplaced 22 = .ok (.if_icmp .ne 17, 3) := by decide +kernel
theorem dX8_ifReplaced_25 : decode cX8_ifReplaced 25 = .ok (.aload_n 0, 1) := by decide +kernel
theorem dX8_ifReplaced_26 : decode cX8_ifReplaced 26 = .ok (.getfield 29, 3) := by decide +kernel
theorem dX8_ifReplaced_29 : decode cX8_ifReplaced 29 = .ok (.iconst 0, 1) := by decide +kernel
theorem dX8_ifReplaced_30 : decode cX8_ifReplaced 30 = .ok (.iaload, 1) := by decide +kernel
theorem dX8_ifReplaced_31 : decode cX8_ifReplaced 31 = .ok (.iconst 1, 1) := by decide +kernel
theorem dX8_ifReplaced_32 : decode cX8_ifReplaced 32 = .ok (.if_icmp .ne 7, 3) := by decide +kernel
theorem dX8_ifReplaced_35 : decode cX8_ifReplaced 35 = .ok (.iconst 0, 1) := by decide +kernel
theorem dX8_ifReplaced_36 : decode cX8_ifReplaced 36 = .ok (.goto 4, 3) := by decide +kernel
theorem dX8_ifReplaced_39 : decode cX8_ifReplaced 39 = .ok (.iconst 2, 1) := by decide +kernel
theorem dX8_ifReplaced_40 : decode cX8_ifReplaced 40 = .ok (.invokevirtual 164, 3) := by decide +kernel
theorem dX8_ifReplaced_43 : decode cX8_ifReplaced 43 = .ok (.ifCond .eq 5, 3) := by decide +kernel
theorem dX8_ifReplaced_46 : decode cX8_ifReplaced 46 = .ok (.iconst 0, 1) := by decide +kernel
theorem dX8_ifReplaced_47 : decode cX8_ifReplaced 47 = .ok (.ireturn, 1) := by decide +kernel
theorem dX8_ifReplaced_48 : decode cX8_ifReplaced 48 = .ok (.aload_n 0, 1) := by decide +kernel
theorem dX8_ifReplaced_49 : decode cX8_ifReplaced 49 = .ok (.getfield 13, 3) := by decide +kernel
theorem dX8_ifReplaced_52 : decode cX8_ifReplaced 52 = .ok (.iconst 0, 1) := by decide +kernel
theorem dX8_ifReplaced_53 : decode cX8_ifReplaced 53 = .ok (.aload_n 0, 1) := by decide +kernel
theorem dX8_ifReplaced_54 : decode cX8_ifReplaced 54 = .ok (.getfield 16, 3) := by decide +kernel
theorem dX8_ifReplaced_57 : decode cX8_ifReplaced 57 = .ok (.iconst 0, 1) := by decide +kernel
theorem dX8_ifReplaced_58 : decode cX8_ifReplaced 58 = .ok (.invokestatic 221, 3) := by decide +kernel
theorem dX8_ifReplaced_61 : decode cX8_ifReplaced 61 = .ok (.iconst 0, 1) := by decide +kernel
theorem dX8_ifReplaced_62 : decode cX8_ifReplaced 62 = .ok (.istore_n 3, 1) := by decide +kernel
theorem dX8_ifReplaced_63 : decode cX8_ifReplaced 63 = .ok (.iload_n 3, 1) := by decide +kernel
theorem dX8_ifReplaced_64 : decode cX8_ifReplaced 64 = .ok (.bipush 18, 2) := by decide +kernel
theorem dX8_ifReplaced_66 : decode cX8_ifReplaced 66 = .ok (.if_icmp .ge 30, 3) := by decide +kernel
theorem dX8_ifReplaced_69 : decode cX8_ifReplaced 69 = .ok (.aload_n 0, 1) := by decide +kernel
theorem dX8_ifReplaced_70 : decode cX8_ifReplaced 70 = .ok (.getfield 16, 3) := by decide +kernel
theorem dX8_ifReplaced_73 : decode cX8_ifReplaced 73 = .ok (.iload_n 1, 1) := by decide +kernel
theorem dX8_ifReplaced_74 : decode cX8_ifReplaced 74 = .ok (.iload_n 2, 1) := by decide +kernel
theorem dX8_ifReplaced_75 : decode cX8_ifReplaced 75 = .ok (.invokestatic 60, 3) := by decide +kernel
theorem dX8_ifReplaced_78 : decode cX8_ifReplaced 78 = .ok (.iload_n 3, 1) := by decide +kernel
theorem dX8_ifReplaced_79 : decode cX8_ifReplaced 79 = .ok (.iadd, 1) := by decide +kernel
theorem dX8_ifReplaced_80 : decode cX8_ifReplaced 80 = .ok (.aload_n 0, 1) := by decide +kernel
theorem dX8_ifReplaced_81 : decode cX8_ifReplaced 81 = .ok (.getfield 29, 3) := by decide +kernel
theorem dX8_ifReplaced_84 : decode cX8_ifReplaced 84 = .ok (.bipush 17, 2) := by decide +kernel
theorem dX8_ifReplaced_86 : decode cX8_ifReplaced 86 = .ok (.iload_n 3, 1) := by decide +kernel
theorem dX8_ifReplaced_87 : decode cX8_ifReplaced 87 = .ok (.iadd, 1) := by decide +kernel
theorem dX8_ifReplaced_88 : decode cX8_ifReplaced 88 = .ok (.iaload, 1) := by decide +kernel
theorem dX8_ifReplaced_89 : decode cX8_ifReplaced 89 = .ok (.iastore, 1) := by decide +kernel
theorem dX8_ifReplaced_90 : decode cX8_ifReplaced 90 = .ok (.iinc 3 1, 3) := by decide +kernel
theorem dX8_ifReplaced_93 : decode cX8_ifReplaced 93 = .ok (.goto (-30), 3) := by decide +kernel
theorem dX8_ifReplaced_96 : decode cX8_ifReplaced 96 = .ok (.aload_n 0, 1) := by decide +kernel
theorem dX8_ifReplaced_97 : decode cX8_ifReplaced 97 = .ok (.aload_n 0, 1) := by decide +kernel
theorem dX8_ifReplaced_98 : decode cX8_ifReplaced 98 = .ok (.getfield 16, 3) := by decide +kernel
theorem dX8_ifReplaced_101 : decode cX8_ifReplaced 101 = .ok (.iload_n 1, 1) := by decide +kernel
theorem dX8_ifReplaced_102 : decode cX8_ifReplaced 102 = .ok (.invokevirtual 146, 3) := by decide +kernel
theorem dX8_ifReplaced_105 : decode cX8_ifReplaced 105 = .ok (.ireturn, 1) := by decide +kernel
theorem dX8_bestSwap_0 : decode cX8_bestSwap 0 = .ok (.aload_n 0, 1) := by decide +kernel
theorem dX8_bestSwap_1 : decode cX8_bestSwap 1 = .ok (.aload_n 0, 1) := by decide +kernel
theorem dX8_bestSwap_2 : decode cX8_bestSwap 2 = .ok (.getfield 13, 3) := by decide +kernel
theorem dX8_bestSwap_5 : decode cX8_bestSwap 5 = .ok (.iload_n 1, 1) := by decide +kernel
theorem dX8_bestSwap_6 : decode cX8_bestSwap 6 = .ok (.invokestatic 68, 3) := by decide +kernel
theorem dX8_bestSwap_9 : decode cX8_bestSwap 9 = .ok (.ifCond .ne 7, 3) := by decide +kernel
theorem dX8_bestSwap_12 : decode cX8_bestSwap 12 = .ok (.iconst 1, 1) := by decide +kernel
theorem dX8_bestSwap_13 : decode cX8_bestSwap 13 = .ok (.goto 20, 3) := by decide +kernel
theorem dX8_bestSwap_16 : decode cX8_bestSwap 16 = .ok (.iload_n 2, 1) := by decide +kernel
theorem dX8_bestSwap_17 : decode cX8_bestSwap 17 = .ok (.i2l, 1) := by decide +kernel
theorem dX8_bestSwap_18 : decode cX8_bestSwap 18 = .ok (.lconst 0, 1) := by decide +kernel
theorem dX8_bestSwap_19 : decode cX8_bestSwap 19 = .ok (.ldc2_w 234, 3) := by decide +kernel
theorem dX8_bestSwap_22 : decode cX8_bestSwap 22 = .ok (.invokestatic 64, 3) := by decide +kernel
theorem dX8_bestSwap_25 : decode cX8_bestSwap 25 = .ok (.ifCond .eq 7, 3) := by decide +kernel
theorem dX8_bestSwap_28 : decode cX8_bestSwap 28 = .ok (.iconst 0, 1) := by decide +kernel
theorem dX8_bestSwap_29 : decode cX8_bestSwap 29 = .ok (.goto 4, 3) := by decide +kernel
theorem dX8_bestSwap_32 : decode cX8_bestSwap 32 = .ok (.iconst 2, 1) := by decide +kernel
theorem dX8_bestSwap_33 : decode cX8_bestSwap 33 = .ok (.invokevirtual 164, 3) := by decide +kernel
theorem dX8_bestSwap_36 : decode cX8_bestSwap 36 = .ok (.ifCond .eq 5, 3) := by decide +kernel
theorem dX8_bestSwap_39 : decode cX8_bestSwap 39 = .ok (.iconst 0, 1) := by decide +kernel
theorem dX8_bestSwap_40 : decode cX8_bestSwap 40 = .ok (.ireturn, 1) := by decide +kernel
theorem dX8_bestSwap_41 : decode cX8_bestSwap 41 = .ok (.iconst (-1), 1) := by decide +kernel
theorem dX8_bestSwap_42 : decode cX8_bestSwap 42 = .ok (.istore_n 3, 1) := by decide +kernel
theorem dX8_bestSwap_43 : decode cX8_bestSwap 43 = .ok (.iconst (-1), 1) := by decide +kernel
theorem dX8_bestSwap_44 : decode cX8_bestSwap 44 = .ok (.istore 4, 2) := by decide +kernel
theorem dX8_bestSwap_46 : decode cX8_bestSwap 46 = .ok (.iconst 0, 1) := by decide +kernel
theorem dX8_bestSwap_47 : decode cX8_bestSwap 47 = .ok (.istore 5, 2) := by decide +kernel
theorem dX8_bestSwap_49 : decode cX8_bestSwap 49 = .ok (.iconst 0, 1) := by decide +kernel
theorem dX8_bestSwap_50 : decode cX8_bestSwap 50 = .ok (.istore 6, 2) := by decide +kernel
theorem dX8_bestSwap_52 : decode cX8_bestSwap 52 = .ok (.iload 6, 2) := by decide +kernel
theorem dX8_bestSwap_54 : decode cX8_bestSwap 54 = .ok (.aload_n 0, 1) := by decide +kernel
theorem dX8_bestSwap_55 : decode cX8_bestSwap 55 = .ok (.getfield 13, 3) := by decide +kernel
theorem dX8_bestSwap_58 : decode cX8_bestSwap 58 = .ok (.iload_n 1, 1) := by decide +kernel
theorem dX8_bestSwap_59 : decode cX8_bestSwap 59 = .ok (.invokestatic 72, 3) := by decide +kernel
theorem dX8_bestSwap_62 : decode cX8_bestSwap 62 = .ok (.iconst 0, 1) := by decide +kernel
theorem dX8_bestSwap_63 : decode cX8_bestSwap 63 = .ok (.iadd, 1) := by decide +kernel
theorem dX8_bestSwap_64 : decode cX8_bestSwap 64 = .ok (.iaload, 1) := by decide +kernel
theorem dX8_bestSwap_65 : decode cX8_bestSwap 65 = .ok (.if_icmp .ge 156, 3) := by decide +kernel
theorem dX8_bestSwap_68 : decode cX8_bestSwap 68 = .ok (.iload 6, 2) := by decide +kernel
theorem dX8_bestSwap_70 : decode cX8_bestSwap 70 = .ok (.iconst 1, 1) := by decide +kernel
theorem dX8_bestSwap_71 : decode cX8_bestSwap 71 = .ok (.iadd, 1) := by decide +kernel
theorem dX8_bestSwap_72 : decode cX8_bestSwap 72 = .ok (.istore 7, 2) := by decide +kernel
theorem dX8_bestSwap_74 : decode cX8_bestSwap 74 = .ok (.iload 7, 2) := by decide +kernel
theorem dX8_bestSwap_76 : decode cX8_bestSwap 76 = .ok (.aload_n 0, 1) := by decide +kernel
theorem dX8_bestSwap_77 : decode cX8_bestSwap 77 = .ok (.getfield 13, 3) := by decide +kernel
theorem dX8_bestSwap_80 : decode cX8_bestSwap 80 = .ok (.iload_n 1, 1) := by decide +kernel
theorem dX8_bestSwap_81 : decode cX8_bestSwap 81 = .ok (.invokestatic 72, 3) := by decide +kernel
theorem dX8_bestSwap_84 : decode cX8_bestSwap 84 = .ok (.iconst 0, 1) := by decide +kernel
theorem dX8_bestSwap_85 : decode cX8_bestSwap 85 = .ok (.iadd, 1) := by decide +kernel
theorem dX8_bestSwap_86 : decode cX8_bestSwap 86 = .ok (.iaload, 1) := by decide +kernel
theorem dX8_bestSwap_87 : decode cX8_bestSwap 87 = .ok (.if_icmp .ge 128, 3) := by decide +kernel
theorem dX8_bestSwap_90 : decode cX8_bestSwap 90 = .ok (.aload_n 0, 1) := by decide +kernel
theorem dX8_bestSwap_91 : decode cX8_bestSwap 91 = .ok (.getfield 13, 3) := by decide +kernel
theorem dX8_bestSwap_94 : decode cX8_bestSwap 94 = .ok (.iconst 0, 1) := by decide +kernel
theorem dX8_bestSwap_95 : decode cX8_bestSwap 95 = .ok (.aload_n 0, 1) := by decide +kernel
theorem dX8_bestSwap_96 : decode cX8_bestSwap 96 = .ok (.getfield 16, 3) := by decide +kernel
theorem dX8_bestSwap_99 : decode cX8_bestSwap 99 = .ok (.iconst 0, 1) := by decide +kernel
theorem dX8_bestSwap_100 : decode cX8_bestSwap 100 = .ok (.invokestatic 221, 3) := by decide +kernel
theorem dX8_bestSwap_103 : decode cX8_bestSwap 103 = .ok (.iconst 0, 1) := by decide +kernel
theorem dX8_bestSwap_104 : decode cX8_bestSwap 104 = .ok (.istore 8, 2) := by decide +kernel
theorem dX8_bestSwap_106 : decode cX8_bestSwap 106 = .ok (.iload 8, 2) := by decide +kernel
theorem dX8_bestSwap_108 : decode cX8_bestSwap 108 = .ok (.bipush 18, 2) := by decide +kernel
theorem dX8_bestSwap_110 : decode cX8_bestSwap 110 = .ok (.if_icmp .ge 65, 3) := by decide +kernel
theorem dX8_bestSwap_113 : decode cX8_bestSwap 113 = .ok (.aload_n 0, 1) := by decide +kernel
theorem dX8_bestSwap_114 : decode cX8_bestSwap 114 = .ok (.getfield 16, 3) := by decide +kernel
theorem dX8_bestSwap_117 : decode cX8_bestSwap 117 = .ok (.iload_n 1, 1) := by decide +kernel
theorem dX8_bestSwap_118 : decode cX8_bestSwap 118 = .ok (.iload 6, 2) := by decide +kernel
theorem dX8_bestSwap_120 : decode cX8_bestSwap 120 = .ok (.invokestatic 60, 3) := by decide +kernel
theorem dX8_bestSwap_123 : decode cX8_bestSwap 123 = .ok (.iload 8, 2) := by decide +kernel
theorem dX8_bestSwap_125 : decode cX8_bestSwap 125 = .ok (.iadd, 1) := by decide +kernel
theorem dX8_bestSwap_126 : decode cX8_bestSwap 126 = .ok (.aload_n 0, 1) := by decide +kernel
theorem dX8_bestSwap_127 : decode cX8_bestSwap 127 = .ok (.getfield 13, 3) := by decide +kernel
theorem dX8_bestSwap_130 : decode cX8_bestSwap 130 = .ok (.iload_n 1, 1) := by decide +kernel
theorem dX8_bestSwap_131 : decode cX8_bestSwap 131 = .ok (.iload 7, 2) := by decide +kernel
theorem dX8_bestSwap_133 : decode cX8_bestSwap 133 = .ok (.invokestatic 60, 3) := by decide +kernel
theorem dX8_bestSwap_136 : decode cX8_bestSwap 136 = .ok (.iload 8, 2) := by decide +kernel
theorem dX8_bestSwap_138 : decode cX8_bestSwap 138 = .ok (.iadd, 1) := by decide +kernel
theorem dX8_bestSwap_139 : decode cX8_bestSwap 139 = .ok (.iaload, 1) := by decide +kernel
theorem dX8_bestSwap_140 : decode cX8_bestSwap 140 = .ok (.iastore, 1) := by decide +kernel
theorem dX8_bestSwap_141 : decode cX8_bestSwap 141 = .ok (.aload_n 0, 1) := by decide +kernel
theorem dX8_bestSwap_142 : decode cX8_bestSwap 142 = .ok (.getfield 16, 3) := by decide +kernel
theorem dX8_bestSwap_145 : decode cX8_bestSwap 145 = .ok (.iload_n 1, 1) := by decide +kernel
theorem dX8_bestSwap_146 : decode cX8_bestSwap 146 = .ok (.iload 7, 2) := by decide +kernel
theorem dX8_bestSwap_148 : decode cX8_bestSwap 148 = .ok (.invokestatic 60, 3) := by decide +kernel
theorem dX8_bestSwap_151 : decode cX8_bestSwap 151 = .ok (.iload 8, 2) := by decide +kernel
theorem dX8_bestSwap_153 : decode cX8_bestSwap 153 = .ok (.iadd, 1) := by decide +kernel
theorem dX8_bestSwap_154 : decode cX8_bestSwap 154 = .ok (.aload_n 0, 1) := by decide +kernel
theorem dX8_bestSwap_155 : decode cX8_bestSwap 155 = .ok (.getfield 13, 3) := by decide +kernel
theorem dX8_bestSwap_158 : decode cX8_bestSwap 158 = .ok (.iload_n 1, 1) := by decide +kernel
theorem dX8_bestSwap_159 : decode cX8_bestSwap 159 = .ok (.iload 6, 2) := by decide +kernel
theorem dX8_bestSwap_161 : decode cX8_bestSwap 161 = .ok (.invokestatic 60, 3) := by decide +kernel
theorem dX8_bestSwap_164 : decode cX8_bestSwap 164 = .ok (.iload 8, 2) := by decide +kernel
theorem dX8_bestSwap_166 : decode cX8_bestSwap 166 = .ok (.iadd, 1) := by decide +kernel
theorem dX8_bestSwap_167 : decode cX8_bestSwap 167 = .ok (.iaload, 1) := by decide +kernel
theorem dX8_bestSwap_168 : decode cX8_bestSwap 168 = .ok (.iastore, 1) := by decide +kernel
theorem dX8_bestSwap_169 : decode cX8_bestSwap 169 = .ok (.iinc 8 1, 3) := by decide +kernel
theorem dX8_bestSwap_172 : decode cX8_bestSwap 172 = .ok (.goto (-66), 3) := by decide +kernel
theorem dX8_bestSwap_175 : decode cX8_bestSwap 175 = .ok (.aload_n 0, 1) := by decide +kernel
theorem dX8_bestSwap_176 : decode cX8_bestSwap 176 = .ok (.aload_n 0, 1) := by decide +kernel
theorem dX8_bestSwap_177 : decode cX8_bestSwap 177 = .ok (.getfield 16, 3) := by decide +kernel
theorem dX8_bestSwap_180 : decode cX8_bestSwap 180 = .ok (.iload_n 1, 1) := by decide +kernel
theorem dX8_bestSwap_181 : decode cX8_bestSwap 181 = .ok (.invokevirtual 146, 3) := by decide +kernel
theorem dX8_bestSwap_184 : decode cX8_bestSwap 184 = .ok (.istore 8, 2) := by decide +kernel
theorem dX8_bestSwap_186 : decode cX8_bestSwap 186 = .ok (.iload_n 3, 1) := by decide +kernel
theorem dX8_bestSwap_187 : decode cX8_bestSwap 187 = .ok (.iconst (-1), 1) := by decide +kernel
theorem dX8_bestSwap_188 : decode cX8_bestSwap 188 = .ok (.if_icmp .eq 10, 3) := by decide +kernel
theorem dX8_bestSwap_191 : decode cX8_bestSwap 191 = .ok (.iload 8, 2) := by decide +kernel
theorem dX8_bestSwap_193 : decode cX8_bestSwap 193 = .ok (.iload 5, 2) := by decide +kernel
theorem dX8_bestSwap_195 : decode cX8_bestSwap 195 = .ok (.if_icmp .le 14, 3) := by decide +kernel
theorem dX8_bestSwap_198 : decode cX8_bestSwap 198 = .ok (.iload 6, 2) := by decide +kernel
theorem dX8_bestSwap_200 : decode cX8_bestSwap 200 = .ok (.istore_n 3, 1) := by decide +kernel
theorem dX8_bestSwap_201 : decode cX8_bestSwap 201 = .ok (.iload 7, 2) := by decide +kernel
theorem dX8_bestSwap_203 : decode cX8_bestSwap 203 = .ok (.istore 4, 2) := by decide +kernel
theorem dX8_bestSwap_205 : decode cX8_bestSwap 205 = .ok (.iload 8, 2) := by decide +kernel
theorem dX8_bestSwap_207 : decode cX8_bestSwap 207 = .ok (.istore 5, 2) := by decide +kernel
theorem dX8_bestSwap_209 : decode cX8_bestSwap 209 = .ok (.iinc 7 1, 3) := by decide +kernel
theorem dX8_bestSwap_212 : decode cX8_bestSwap 212 = .ok (.goto (-138), 3) := by decide +kernel
theorem dX8_bestSwap_215 : decode cX8_bestSwap 215 = .ok (.iinc 6 1, 3) := by decide +kernel
theorem dX8_bestSwap_218 : decode cX8_bestSwap 218 = .ok (.goto (-166), 3) := by decide +kernel
theorem dX8_bestSwap_221 : decode cX8_bestSwap 221 = .ok (.iload_n 3, 1) := by decide +kernel
theorem dX8_bestSwap_222 : decode cX8_bestSwap 222 = .ok (.iconst (-1), 1) := by decide +kernel
theorem dX8_bestSwap_223 : decode cX8_bestSwap 223 = .ok (.if_icmp .ne 7, 3) := by decide +kernel
theorem dX8_bestSwap_226 : decode cX8_bestSwap 226 = .ok (.iconst (-1), 1) := by decide +kernel
theorem dX8_bestSwap_227 : decode cX8_bestSwap 227 = .ok (.goto 23, 3) := by decide +kernel
theorem dX8_bestSwap_230 : decode cX8_bestSwap 230 = .ok (.iload_n 2, 1) := by decide +kernel
theorem dX8_bestSwap_231 : decode cX8_bestSwap 231 = .ok (.ifCond .ne 8, 3) := by decide +kernel
theorem dX8_bestSwap_234 : decode cX8_bestSwap 234 = .ok (.iload 5, 2) := by decide +kernel
theorem dX8_bestSwap_236 : decode cX8_bestSwap 236 = .ok (.goto 14, 3) := by decide +kernel
theorem dX8_bestSwap_239 : decode cX8_bestSwap 239 = .ok (.iload_n 2, 1) := by decide +kernel
theorem dX8_bestSwap_240 : decode cX8_bestSwap 240 = .ok (.iconst 1, 1) := by decide +kernel
theorem dX8_bestSwap_241 : decode cX8_bestSwap 241 = .ok (.if_icmp .ne 7, 3) := by decide +kernel
theorem dX8_bestSwap_244 : decode cX8_bestSwap 244 = .ok (.iload_n 3, 1) := by decide +kernel
theorem dX8_bestSwap_245 : decode cX8_bestSwap 245 = .ok (.goto 5, 3) := by decide +kernel
theorem dX8_bestSwap_248 : decode cX8_bestSwap 248 = .ok (.iload 4, 2) := by decide +kernel
theorem dX8_bestSwap_250 : decode cX8_bestSwap 250 = .ok (.ireturn, 1) := by decide +kernel
theorem dX8_needs_0 : decode cX8_needs 0 = .ok (.aload_n 0, 1) := by decide +kernel
theorem dX8_needs_1 : decode cX8_needs 1 = .ok (.aload_n 0, 1) := by decide +kernel
theorem dX8_needs_2 : decode cX8_needs 2 = .ok (.getfield 13, 3) := by decide +kernel
theorem dX8_needs_5 : decode cX8_needs 5 = .ok (.iload_n 1, 1) := by decide +kernel
theorem dX8_needs_6 : decode cX8_needs 6 = .ok (.iload_n 2, 1) := by decide +kernel
theorem dX8_needs_7 : decode cX8_needs 7 = .ok (.invokestatic 76, 3) := by decide +kernel
theorem dX8_needs_10 : decode cX8_needs 10 = .ok (.ifCond .eq 7, 3) := by decide +kernel
theorem dX8_needs_13 : decode cX8_needs 13 = .ok (.iconst 0, 1) := by decide +kernel
theorem dX8_needs_14 : decode cX8_needs 14 = .ok (.goto 4, 3) := by decide +kernel
theorem dX8_needs_17 : decode cX8_needs 17 = .ok (.iconst 1, 1) := by decide +kernel
theorem dX8_needs_18 : decode cX8_needs 18 = .ok (.invokevirtual 164, 3) := by decide +kernel
theorem dX8_needs_21 : decode cX8_needs 21 = .ok (.ifCond .eq 5, 3) := by decide +kernel
theorem dX8_needs_24 : decode cX8_needs 24 = .ok (.iconst 0, 1) := by decide +kernel
theorem dX8_needs_25 : decode cX8_needs 25 = .ok (.ireturn, 1) := by decide +kernel
theorem dX8_needs_26 : decode cX8_needs 26 = .ok (.aload_n 0, 1) := by decide +kernel
theorem dX8_needs_27 : decode cX8_needs 27 = .ok (.aload_n 0, 1) := by decide +kernel
theorem dX8_needs_28 : decode cX8_needs 28 = .ok (.getfield 13, 3) := by decide +kernel
theorem dX8_needs_31 : decode cX8_needs 31 = .ok (.invokevirtual 149, 3) := by decide +kernel
theorem dX8_needs_34 : decode cX8_needs 34 = .ok (.aload_n 0, 1) := by decide +kernel
theorem dX8_needs_35 : decode cX8_needs 35 = .ok (.aload_n 0, 1) := by decide +kernel
theorem dX8_needs_36 : decode cX8_needs 36 = .ok (.getfield 13, 3) := by decide +kernel
theorem dX8_needs_39 : decode cX8_needs 39 = .ok (.iload_n 1, 1) := by decide +kernel
theorem dX8_needs_40 : decode cX8_needs 40 = .ok (.iload_n 2, 1) := by decide +kernel
theorem dX8_needs_41 : decode cX8_needs 41 = .ok (.invokevirtual 135, 3) := by decide +kernel
theorem dX8_needs_44 : decode cX8_needs 44 = .ok (.aload_n 0, 1) := by decide +kernel
theorem dX8_needs_45 : decode cX8_needs 45 = .ok (.getfield 44, 3) := by decide +kernel
theorem dX8_needs_48 : decode cX8_needs 48 = .ok (.iload_n 2, 1) := by decide +kernel
theorem dX8_needs_49 : decode cX8_needs 49 = .ok (.iaload, 1) := by decide +kernel
theorem dX8_needs_50 : decode cX8_needs 50 = .ok (.istore_n 3, 1) := by decide +kernel
theorem dX8_needs_51 : decode cX8_needs 51 = .ok (.aload_n 0, 1) := by decide +kernel
theorem dX8_needs_52 : decode cX8_needs 52 = .ok (.getfield 50, 3) := by decide +kernel
theorem dX8_needs_55 : decode cX8_needs 55 = .ok (.iload_n 1, 1) := by decide +kernel
theorem dX8_needs_56 : decode cX8_needs 56 = .ok (.iaload, 1) := by decide +kernel
theorem dX8_needs_57 : decode cX8_needs 57 = .ok (.istore 4, 2) := by decide +kernel
theorem dX8_needs_59 : decode cX8_needs 59 = .ok (.aload_n 0, 1) := by decide +kernel
theorem dX8_needs_60 : decode cX8_needs 60 = .ok (.getfield 53, 3) := by decide +kernel
theorem dX8_needs_63 : decode cX8_needs 63 = .ok (.iload_n 1, 1) := by decide +kernel
theorem dX8_needs_64 : decode cX8_needs 64 = .ok (.iaload, 1) := by decide +kernel
theorem dX8_needs_65 : decode cX8_needs 65 = .ok (.istore 5, 2) := by decide +kernel
theorem dX8_needs_67 : decode cX8_needs 67 = .ok (.iconst 0, 1) := by decide +kernel
theorem dX8_needs_68 : decode cX8_needs 68 = .ok (.istore 6, 2) := by decide +kernel
theorem dX8_needs_70 : decode cX8_needs 70 = .ok (.iconst 0, 1) := by decide +kernel
theorem dX8_needs_71 : decode cX8_needs 71 = .ok (.istore 7, 2) := by decide +kernel
theorem dX8_needs_73 : decode cX8_needs 73 = .ok (.iload 7, 2) := by decide +kernel
theorem dX8_needs_75 : decode cX8_needs 75 = .ok (.aload_n 0, 1) := by decide +kernel
theorem dX8_needs_76 : decode cX8_needs 76 = .ok (.getfield 13, 3) := by decide +kernel
theorem dX8_needs_79 : decode cX8_needs 79 = .ok (.iload_n 1, 1) := by decide +kernel
theorem dX8_needs_80 : decode cX8_needs 80 = .ok (.iload_n 2, 1) := by decide +kernel
theorem dX8_needs_81 : decode cX8_needs 81 = .ok (.invokestatic 60, 3) := by decide +kernel
theorem dX8_needs_84 : decode cX8_needs 84 = .ok (.iconst 1, 1) := by decide +kernel
theorem dX8_needs_85 : decode cX8_needs 85 = .ok (.iadd, 1) := by decide +kernel
theorem dX8_needs_86 : decode cX8_needs 86 = .ok (.iaload, 1) := by decide +kernel
theorem dX8_needs_87 : decode cX8_needs 87 = .ok (.if_icmp .ge 43, 3) := by decide +kernel
theorem dX8_needs_90 : decode cX8_needs 90 = .ok (.aload_n 0, 1) := by decide +kernel
theorem dX8_needs_91 : decode cX8_needs 91 = .ok (.getfield 32, 3) := by decide +kernel
theorem dX8_needs_94 : decode cX8_needs 94 = .ok (.iconst 3, 1) := by decide +kernel
theorem dX8_needs_95 : decode cX8_needs 95 = .ok (.iload_n 2, 1) := by decide +kernel
theorem dX8_needs_96 : decode cX8_needs 96 = .ok (.imul, 1) := by decide +kernel
theorem dX8_needs_97 : decode cX8_needs 97 = .ok (.iload 7, 2) := by decide +kernel
theorem dX8_needs_99 : decode cX8_needs 99 = .ok (.iadd, 1) := by decide +kernel
theorem dX8_needs_100 : decode cX8_needs 100 = .ok (.iaload, 1) := by decide +kernel
theorem dX8_needs_101 : decode cX8_needs 101 = .ok (.iload 6, 2) := by decide +kernel
theorem dX8_needs_103 : decode cX8_needs 103 = .ok (.if_icmp .le 17, 3) := by decide +kernel
theorem dX8_needs_106 : decode cX8_needs 106 = .ok (.aload_n 0, 1) := by decide +kernel
theorem dX8_needs_107 : decode cX8_needs 107 = .ok (.getfield 32, 3) := by decide +kernel
theorem dX8_needs_110 : decode cX8_needs 110 = .ok (.iconst 3, 1) := by decide +kernel
theorem dX8_needs_111 : decode cX8_needs 111 = .ok (.iload_n 2, 1) := by decide +kernel
theorem dX8_needs_112 : decode cX8_needs 112 = .ok (.imul, 1) := by decide +kernel
theorem dX8_needs_113 : decode cX8_needs 113 = .ok (.iload 7, 2) := by decide +kernel
theorem dX8_needs_115 : decode cX8_needs 115 = .ok (.iadd, 1) := by decide +kernel
theorem dX8_needs_116 : decode cX8_needs 116 = .ok (.iaload, 1) := by decide +kernel
theorem dX8_needs_117 : decode cX8_needs 117 = .ok (.goto 5, 3) := by decide +kernel
theorem dX8_needs_120 : decode cX8_needs 120 = .ok (.iload 6, 2) := by decide +kernel
theorem dX8_needs_122 : decode cX8_needs 122 = .ok (.istore 6, 2) := by decide +kernel
theorem dX8_needs_124 : decode cX8_needs 124 = .ok (.iinc 7 1, 3) := by decide +kernel
theorem dX8_needs_127 : decode cX8_needs 127 = .ok (.goto (-54), 3) := by decide +kernel
theorem dX8_needs_130 : decode cX8_needs 130 = .ok (.bipush (-15), 2) := by decide +kernel
theorem dX8_needs_132 : decode cX8_needs 132 = .ok (.istore 7, 2) := by decide +kernel
theorem dX8_needs_134 : decode cX8_needs 134 = .ok (.iload 7, 2) := by decide +kernel
theorem dX8_needs_136 : decode cX8_needs 136 = .ok (.bipush 15, 2) := by decide +kernel
theorem dX8_needs_138 : decode cX8_needs 138 = .ok (.if_icmp .gt 65, 3) := by decide +kernel
theorem dX8_needs_141 : decode cX8_needs 141 = .ok (.aload_n 0, 1) := by decide +kernel
theorem dX8_needs_142 : decode cX8_needs 142 = .ok (.getfield 50, 3) := by decide +kernel
theorem dX8_needs_145 : decode cX8_needs 145 = .ok (.iload_n 1, 1) := by decide +kernel
theorem dX8_needs_146 : decode cX8_needs 146 = .ok (.iload 4, 2) := by decide +kernel
theorem dX8_needs_148 : decode cX8_needs 148 = .ok (.iload_n 3, 1) := by decide +kernel
theorem dX8_needs_149 : decode cX8_needs 149 = .ok (.isub, 1) := by decide +kernel
theorem dX8_needs_150 : decode cX8_needs 150 = .ok (.iload 7, 2) := by decide +kernel
theorem dX8_needs_152 : decode cX8_needs 152 = .ok (.iload 6, 2) := by decide +kernel
theorem dX8_needs_154 : decode cX8_needs 154 = .ok (.imul, 1) := by decide +kernel
theorem dX8_needs_155 : decode cX8_needs 155 = .ok (.invokestatic 126, 3) := by decide +kernel
theorem dX8_needs_158 : decode cX8_needs 158 = .ok (.iadd, 1) := by decide +kernel
theorem dX8_needs_159 : decode cX8_needs 159 = .ok (.iastore, 1) := by decide +kernel
theorem dX8_needs_160 : decode cX8_needs 160 = .ok (.aload_n 0, 1) := by decide +kernel
theorem dX8_needs_161 : decode cX8_needs 161 = .ok (.getfield 53, 3) := by decide +kernel
theorem dX8_needs_164 : decode cX8_needs 164 = .ok (.iload_n 1, 1) := by decide +kernel
theorem dX8_needs_165 : decode cX8_needs 165 = .ok (.iload 5, 2) := by decide +kernel
theorem dX8_needs_167 : decode cX8_needs 167 = .ok (.iload_n 3, 1) := by decide +kernel
theorem dX8_needs_168 : decode cX8_needs 168 = .ok (.isub, 1) := by decide +kernel
theorem dX8_needs_169 : decode cX8_needs 169 = .ok (.iload 7, 2) := by decide +kernel
theorem dX8_needs_171 : decode cX8_needs 171 = .ok (.iload 6, 2) := by decide +kernel
theorem dX8_needs_173 : decode cX8_needs 173 = .ok (.imul, 1) := by decide +kernel
theorem dX8_needs_174 : decode cX8_needs 174 = .ok (.invokestatic 126, 3) := by decide +kernel
theorem dX8_needs_177 : decode cX8_needs 177 = .ok (.iadd, 1) := by decide +kernel
theorem dX8_needs_178 : decode cX8_needs 178 = .ok (.iastore, 1) := by decide +kernel
theorem dX8_needs_179 : decode cX8_needs 179 = .ok (.aload_n 0, 1) := by decide +kernel
theorem dX8_needs_180 : decode cX8_needs 180 = .ok (.aload_n 0, 1) := by decide +kernel
theorem dX8_needs_181 : decode cX8_needs 181 = .ok (.getfield 13, 3) := by decide +kernel
theorem dX8_needs_184 : decode cX8_needs 184 = .ok (.iload_n 1, 1) := by decide +kernel
theorem dX8_needs_185 : decode cX8_needs 185 = .ok (.invokevirtual 153, 3) := by decide +kernel
theorem dX8_needs_188 : decode cX8_needs 188 = .ok (.ifCond .ne 9, 3) := by decide +kernel
theorem dX8_needs_191 : decode cX8_needs 191 = .ok (.bipush 100, 2) := by decide +kernel
theorem dX8_needs_193 : decode cX8_needs 193 = .ok (.iload 7, 2) := by decide +kernel
theorem dX8_needs_195 : decode cX8_needs 195 = .ok (.iadd, 1) := by decide +kernel
theorem dX8_needs_196 : decode cX8_needs 196 = .ok (.ireturn, 1) := by decide +kernel
theorem dX8_needs_197 : decode cX8_needs 197 = .ok (.iinc 7 1, 3) := by decide +kernel
theorem dX8_needs_200 : decode cX8_needs 200 = .ok (.goto (-66), 3) := by decide +kernel
theorem dX8_needs_203 : decode cX8_needs 203 = .ok (.iconst (-1), 1) := by decide +kernel
theorem dX8_needs_204 : decode cX8_needs 204 = .ok (.ireturn, 1) := by decide +kernel
theorem dX8_behind_0 : decode cX8_behind 0 = .ok (.aload_n 0, 1) := by decide +kernel
theorem dX8_behind_1 : decode cX8_behind 1 = .ok (.aload_n 0, 1) := by decide +kernel
theorem dX8_behind_2 : decode cX8_behind 2 = .ok (.getfield 13, 3) := by decide +kernel
theorem dX8_behind_5 : decode cX8_behind 5 = .ok (.iload_n 1, 1) := by decide +kernel
theorem dX8_behind_6 : decode cX8_behind 6 = .ok (.invokestatic 68, 3) := by decide +kernel
theorem dX8_behind_9 : decode cX8_behind 9 = .ok (.ifCond .eq 7, 3) := by decide +kernel
theorem dX8_behind_12 : decode cX8_behind 12 = .ok (.iconst 0, 1) := by decide +kernel
theorem dX8_behind_13 : decode cX8_behind 13 = .ok (.goto 4, 3) := by decide +kernel
theorem dX8_behind_16 : decode cX8_behind 16 = .ok (.iconst 1, 1) := by decide +kernel
theorem dX8_behind_17 : decode cX8_behind 17 = .ok (.invokevirtual 164, 3) := by decide +kernel
theorem dX8_behind_20 : decode cX8_behind 20 = .ok (.ifCond .eq 5, 3) := by decide +kernel
theorem dX8_behind_23 : decode cX8_behind 23 = .ok (.iconst 0, 1) := by decide +kernel
theorem dX8_behind_24 : decode cX8_behind 24 = .ok (.ireturn, 1) := by decide +kernel
theorem dX8_behind_25 : decode cX8_behind 25 = .ok (.aload_n 0, 1) := by decide +kernel
theorem dX8_behind_26 : decode cX8_behind 26 = .ok (.aload_n 0, 1) := by decide +kernel
theorem dX8_behind_27 : decode cX8_behind 27 = .ok (.getfield 13, 3) := by decide +kernel
theorem dX8_behind_30 : decode cX8_behind 30 = .ok (.invokevirtual 204, 3) := by decide +kernel
theorem dX8_behind_33 : decode cX8_behind 33 = .ok (.istore_n 2, 1) := by decide +kernel
theorem dX8_behind_34 : decode cX8_behind 34 = .ok (.aload_n 0, 1) := by decide +kernel
theorem dX8_behind_35 : decode cX8_behind 35 = .ok (.getfield 50, 3) := by decide +kernel
theorem dX8_behind_38 : decode cX8_behind 38 = .ok (.iload_n 2, 1) := by decide +kernel
theorem dX8_behind_39 : decode cX8_behind 39 = .ok (.iaload, 1) := by decide +kernel
theorem dX8_behind_40 : decode cX8_behind 40 = .ok (.aload_n 0, 1) := by decide +kernel
theorem dX8_behind_41 : decode cX8_behind 41 = .ok (.getfield 50, 3) := by decide +kernel
theorem dX8_behind_44 : decode cX8_behind 44 = .ok (.iload_n 1, 1) := by decide +kernel
theorem dX8_behind_45 : decode cX8_behind 45 = .ok (.iaload, 1) := by decide +kernel
theorem dX8_behind_46 : decode cX8_behind 46 = .ok (.isub, 1) := by decide +kernel
theorem dX8_behind_47 : decode cX8_behind 47 = .ok (.ireturn, 1) := by decide +kernel
theorem dX8_command_0 : decode cX8_command 0 = .ok (.bipush 10, 2) := by decide +kernel
theorem dX8_command_2 : decode cX8_command 2 = .ok (.iload_n 3, 1) := by decide +kernel
theorem dX8_command_3 : decode cX8_command 3 = .ok (.imul, 1) := by decide +kernel
theorem dX8_command_4 : decode cX8_command 4 = .ok (.iload 4, 2) := by decide +kernel
theorem dX8_command_6 : decode cX8_command 6 = .ok (.iadd, 1) := by decide +kernel
theorem dX8_command_7 : decode cX8_command 7 = .ok (.istore 6, 2) := by decide +kernel
theorem dX8_command_9 : decode cX8_command 9 = .ok (.bipush 100, 2) := by decide +kernel
theorem dX8_command_11 : decode cX8_command 11 = .ok (.iload_n 3, 1) := by decide +kernel
theorem dX8_command_12 : decode cX8_command 12 = .ok (.imul, 1) := by decide +kernel
theorem dX8_command_13 : decode cX8_command 13 = .ok (.bipush 10, 2) := by decide +kernel
theorem dX8_command_15 : decode cX8_command 15 = .ok (.iload 4, 2) := by decide +kernel
theorem dX8_command_17 : decode cX8_command 17 = .ok (.imul, 1) := by decide +kernel
theorem dX8_command_18 : decode cX8_command 18 = .ok (.iadd, 1) := by decide +kernel
theorem dX8_command_19 : decode cX8_command 19 = .ok (.iload 5, 2) := by decide +kernel
theorem dX8_command_21 : decode cX8_command 21 = .ok (.iadd, 1) := by decide +kernel
theorem dX8_command_22 : decode cX8_command 22 = .ok (.istore 7, 2) := by decide +kernel
theorem dX8_command_24 : decode cX8_command 24 = .ok (.iload_n 1, 1) := by decide +kernel
theorem dX8_command_25 : decode cX8_command 25 = .ok (.tableswitch 351 1 9 #[51, 100, 51, 138, 171, 194, 240, 274, 322], 51) := by decide +kernel
theorem dX8_command_76 : decode cX8_command 76 = .ok (.iload 5, 2) := by decide +kernel
theorem dX8_command_78 : decode cX8_command 78 = .ok (.iconst 1, 1) := by decide +kernel
theorem dX8_command_79 : decode cX8_command 79 = .ok (.if_icmp .gt 16, 3) := by decide +kernel
theorem dX8_command_82 : decode cX8_command 82 = .ok (.aload_n 0, 1) := by decide +kernel
theorem dX8_command_83 : decode cX8_command 83 = .ok (.getfield 16, 3) := by decide +kernel
theorem dX8_command_86 : decode cX8_command 86 = .ok (.iload_n 2, 1) := by decide +kernel
theorem dX8_command_87 : decode cX8_command 87 = .ok (.iload 6, 2) := by decide +kernel
theorem dX8_command_89 : decode cX8_command 89 = .ok (.invokestatic 76, 3) := by decide +kernel
theorem dX8_command_92 : decode cX8_command 92 = .ok (.ifCond .ne 5, 3) := by decide +kernel
theorem dX8_command_95 : decode cX8_command 95 = .ok (.iconst 0, 1) := by decide +kernel
theorem dX8_command_96 : decode cX8_command 96 = .ok (.ireturn, 1) := by decide +kernel
theorem dX8_command_97 : decode cX8_command 97 = .ok (.aload_n 0, 1) := by decide +kernel
theorem dX8_command_98 : decode cX8_command 98 = .ok (.getfield 16, 3) := by decide +kernel
theorem dX8_command_101 : decode cX8_command 101 = .ok (.iload_n 2, 1) := by decide +kernel
theorem dX8_command_102 : decode cX8_command 102 = .ok (.iload 6, 2) := by decide +kernel
theorem dX8_command_104 : decode cX8_command 104 = .ok (.invokestatic 60, 3) := by decide +kernel
theorem dX8_command_107 : decode cX8_command 107 = .ok (.iload_n 1, 1) := by decide +kernel
theorem dX8_command_108 : decode cX8_command 108 = .ok (.iconst 1, 1) := by decide +kernel
theorem dX8_command_109 : decode cX8_command 109 = .ok (.if_icmp .ne 8, 3) := by decide +kernel
theorem dX8_command_112 : decode cX8_command 112 = .ok (.bipush 16, 2) := by decide +kernel
theorem dX8_command_114 : decode cX8_command 114 = .ok (.goto 5, 3) := by decide +kernel
theorem dX8_command_117 : decode cX8_command 117 = .ok (.bipush 17, 2) := by decide +kernel
theorem dX8_command_119 : decode cX8_command 119 = .ok (.iadd, 1) := by decide +kernel
theorem dX8_command_120 : decode cX8_command 120 = .ok (.iload 5, 2) := by decide +kernel
theorem dX8_command_122 : decode cX8_command 122 = .ok (.iastore, 1) := by decide +kernel
theorem dX8_command_123 : decode cX8_command 123 = .ok (.iconst 1, 1) := by decide +kernel
theorem dX8_command_124 : decode cX8_command 124 = .ok (.ireturn, 1) := by decide +kernel
theorem dX8_command_125 : decode cX8_command 125 = .ok (.aload_n 0, 1) := by decide +kernel
theorem dX8_command_126 : decode cX8_command 126 = .ok (.getfield 16, 3) := by decide +kernel
theorem dX8_command_129 : decode cX8_command 129 = .ok (.iload_n 2, 1) := by decide +kernel
theorem dX8_command_130 : decode cX8_command 130 = .ok (.iload_n 3, 1) := by decide +kernel
theorem dX8_command_131 : decode cX8_command 131 = .ok (.iload 4, 2) := by decide +kernel
theorem dX8_command_133 : decode cX8_command 133 = .ok (.iload 5, 2) := by decide +kernel
theorem dX8_command_135 : decode cX8_command 135 = .ok (.invokestatic 240, 3) := by decide +kernel
theorem dX8_command_138 : decode cX8_command 138 = .ok (.ifCond .ne 23, 3) := by decide +kernel
theorem dX8_command_141 : decode cX8_command 141 = .ok (.aload_n 0, 1) := by decide +kernel
theorem dX8_command_142 : decode cX8_command 142 = .ok (.getfield 16, 3) := by decide +kernel
end
section
theorem dX8_command_145 : decode cX8_command 145 = .ok (.iload_n 2, 1) := by decide +kernel
theorem dX8_command_146 : decode cX8_command 146 = .ok (.iload_n 3, 1) := by decide +kernel
theorem dX8_command_147 : decode cX8_command 147 = .ok (.iload 4, 2) := by decide +kernel
theorem dX8_command_149 : decode cX8_command 149 = .ok (.iload 5, 2) := by decide +kernel
theorem dX8_command_151 : decode cX8_command 151 = .ok (.invokestatic 244, 3) := by decide +kernel
theorem dX8_command_154 : decode cX8_command 154 = .ok (.ifCond .lt 7, 3) := by decide +kernel
theorem dX8_command_157 : decode cX8_command 157 = .ok (.iconst 1, 1) := by decide +kernel
theorem dX8_command_158 : decode cX8_command 158 = .ok (.goto 4, 3) := by decide +kernel
theorem dX8_command_161 : decode cX8_command 161 = .ok (.iconst 0, 1) := by decide +kernel
theorem dX8_command_162 : decode cX8_command 162 = .ok (.ireturn, 1) := by decide +kernel
theorem dX8_command_163 : decode cX8_command 163 = .ok (.iload 6, 2) := by decide +kernel
theorem dX8_command_165 : decode cX8_command 165 = .ok (.ifCond .gt 14, 3) := by decide +kernel
theorem dX8_command_168 : decode cX8_command 168 = .ok (.aload_n 0, 1) := by decide +kernel
theorem dX8_command_169 : decode cX8_command 169 = .ok (.getfield 16, 3) := by decide +kernel
theorem dX8_command_172 : decode cX8_command 172 = .ok (.iload_n 2, 1) := by decide +kernel
theorem dX8_command_173 : decode cX8_command 173 = .ok (.invokestatic 68, 3) := by decide +kernel
theorem dX8_command_176 : decode cX8_command 176 = .ok (.ifCond .ne 5, 3) := by decide +kernel
theorem dX8_command_179 : decode cX8_command 179 = .ok (.iconst 0, 1) := by decide +kernel
theorem dX8_command_180 : decode cX8_command 180 = .ok (.ireturn, 1) := by decide +kernel
theorem dX8_command_181 : decode cX8_command 181 = .ok (.aload_n 0, 1) := by decide +kernel
theorem dX8_command_182 : decode cX8_command 182 = .ok (.getfield 16, 3) := by decide +kernel
theorem dX8_command_185 : decode cX8_command 185 = .ok (.iload_n 2, 1) := by decide +kernel
theorem dX8_command_186 : decode cX8_command 186 = .ok (.invokestatic 72, 3) := by decide +kernel
theorem dX8_command_189 : decode cX8_command 189 = .ok (.iconst 1, 1) := by decide +kernel
theorem dX8_command_190 : decode cX8_command 190 = .ok (.iadd, 1) := by decide +kernel
theorem dX8_command_191 : decode cX8_command 191 = .ok (.iload 5, 2) := by decide +kernel
theorem dX8_command_193 : decode cX8_command 193 = .ok (.iastore, 1) := by decide +kernel
theorem dX8_command_194 : decode cX8_command 194 = .ok (.iconst 1, 1) := by decide +kernel
theorem dX8_command_195 : decode cX8_command 195 = .ok (.ireturn, 1) := by decide +kernel
theorem dX8_command_196 : decode cX8_command 196 = .ok (.iload_n 2, 1) := by decide +kernel
theorem dX8_command_197 : decode cX8_command 197 = .ok (.iload 7, 2) := by decide +kernel
theorem dX8_command_199 : decode cX8_command 199 = .ok (.invokestatic 257, 3) := by decide +kernel
theorem dX8_command_202 : decode cX8_command 202 = .ok (.ifCond .ne 5, 3) := by decide +kernel
theorem dX8_command_205 : decode cX8_command 205 = .ok (.iconst 0, 1) := by decide +kernel
theorem dX8_command_206 : decode cX8_command 206 = .ok (.ireturn, 1) := by decide +kernel
theorem dX8_command_207 : decode cX8_command 207 = .ok (.aload_n 0, 1) := by decide +kernel
theorem dX8_command_208 : decode cX8_command 208 = .ok (.getfield 16, 3) := by decide +kernel
theorem dX8_command_211 : decode cX8_command 211 = .ok (.iconst 1, 1) := by decide +kernel
theorem dX8_command_212 : decode cX8_command 212 = .ok (.iload_n 2, 1) := by decide +kernel
theorem dX8_command_213 : decode cX8_command 213 = .ok (.iadd, 1) := by decide +kernel
theorem dX8_command_214 : decode cX8_command 214 = .ok (.iload 7, 2) := by decide +kernel
theorem dX8_command_216 : decode cX8_command 216 = .ok (.iastore, 1) := by decide +kernel
theorem dX8_command_217 : decode cX8_command 217 = .ok (.iconst 1, 1) := by decide +kernel
theorem dX8_command_218 : decode cX8_command 218 = .ok (.ireturn, 1) := by decide +kernel
theorem dX8_command_219 : decode cX8_command 219 = .ok (.iload 6, 2) := by decide +kernel
theorem dX8_command_221 : decode cX8_command 221 = .ok (.ifCond .gt 14, 3) := by decide +kernel
theorem dX8_command_224 : decode cX8_command 224 = .ok (.aload_n 0, 1) := by decide +kernel
theorem dX8_command_225 : decode cX8_command 225 = .ok (.getfield 16, 3) := by decide +kernel
theorem dX8_command_228 : decode cX8_command 228 = .ok (.iload_n 2, 1) := by decide +kernel
theorem dX8_command_229 : decode cX8_command 229 = .ok (.invokestatic 68, 3) := by decide +kernel
theorem dX8_command_232 : decode cX8_command 232 = .ok (.ifCond .ne 5, 3) := by decide +kernel
theorem dX8_command_235 : decode cX8_command 235 = .ok (.iconst 0, 1) := by decide +kernel
theorem dX8_command_236 : decode cX8_command 236 = .ok (.ireturn, 1) := by decide +kernel
theorem dX8_command_237 : decode cX8_command 237 = .ok (.aload_n 0, 1) := by decide +kernel
theorem dX8_command_238 : decode cX8_command 238 = .ok (.aload_n 0, 1) := by decide +kernel
theorem dX8_command_239 : decode cX8_command 239 = .ok (.getfield 16, 3) := by decide +kernel
theorem dX8_command_242 : decode cX8_command 242 = .ok (.invokevirtual 149, 3) := by decide +kernel
theorem dX8_command_245 : decode cX8_command 245 = .ok (.aload_n 0, 1) := by decide +kernel
theorem dX8_command_246 : decode cX8_command 246 = .ok (.aload_n 0, 1) := by decide +kernel
theorem dX8_command_247 : decode cX8_command 247 = .ok (.getfield 16, 3) := by decide +kernel
theorem dX8_command_250 : decode cX8_command 250 = .ok (.iload_n 2, 1) := by decide +kernel
theorem dX8_command_251 : decode cX8_command 251 = .ok (.invokevirtual 153, 3) := by decide +kernel
theorem dX8_command_254 : decode cX8_command 254 = .ok (.iload 5, 2) := by decide +kernel
theorem dX8_command_256 : decode cX8_command 256 = .ok (.if_icmp .ne 7, 3) := by decide +kernel
theorem dX8_command_259 : decode cX8_command 259 = .ok (.iconst 1, 1) := by decide +kernel
theorem dX8_command_260 : decode cX8_command 260 = .ok (.goto 4, 3) := by decide +kernel
theorem dX8_command_263 : decode cX8_command 263 = .ok (.iconst 0, 1) := by decide +kernel
theorem dX8_command_264 : decode cX8_command 264 = .ok (.ireturn, 1) := by decide +kernel
theorem dX8_command_265 : decode cX8_command 265 = .ok (.aload_n 0, 1) := by decide +kernel
theorem dX8_command_266 : decode cX8_command 266 = .ok (.getfield 16, 3) := by decide +kernel
theorem dX8_command_269 : decode cX8_command 269 = .ok (.iload_n 2, 1) := by decide +kernel
theorem dX8_command_270 : decode cX8_command 270 = .ok (.invokestatic 68, 3) := by decide +kernel
theorem dX8_command_273 : decode cX8_command 273 = .ok (.ifCond .eq 24, 3) := by decide +kernel
theorem dX8_command_276 : decode cX8_command 276 = .ok (.aload_n 0, 1) := by decide +kernel
theorem dX8_command_277 : decode cX8_command 277 = .ok (.aload_n 0, 1) := by decide +kernel
theorem dX8_command_278 : decode cX8_command 278 = .ok (.getfield 16, 3) := by decide +kernel
theorem dX8_command_281 : decode cX8_command 281 = .ok (.iload_n 2, 1) := by decide +kernel
theorem dX8_command_282 : decode cX8_command 282 = .ok (.invokevirtual 146, 3) := by decide +kernel
theorem dX8_command_285 : decode cX8_command 285 = .ok (.bipush 10, 2) := by decide +kernel
theorem dX8_command_287 : decode cX8_command 287 = .ok (.iload 7, 2) := by decide +kernel
theorem dX8_command_289 : decode cX8_command 289 = .ok (.imul, 1) := by decide +kernel
theorem dX8_command_290 : decode cX8_command 290 = .ok (.if_icmp .lt 7, 3) := by decide +kernel
theorem dX8_command_293 : decode cX8_command 293 = .ok (.iconst 1, 1) := by decide +kernel
theorem dX8_command_294 : decode cX8_command 294 = .ok (.goto 4, 3) := by decide +kernel
theorem dX8_command_297 : decode cX8_command 297 = .ok (.iconst 0, 1) := by decide +kernel
theorem dX8_command_298 : decode cX8_command 298 = .ok (.ireturn, 1) := by decide +kernel
theorem dX8_command_299 : decode cX8_command 299 = .ok (.aload_n 0, 1) := by decide +kernel
theorem dX8_command_300 : decode cX8_command 300 = .ok (.getfield 16, 3) := by decide +kernel
theorem dX8_command_303 : decode cX8_command 303 = .ok (.iload_n 2, 1) := by decide +kernel
theorem dX8_command_304 : decode cX8_command 304 = .ok (.iload_n 3, 1) := by decide +kernel
theorem dX8_command_305 : decode cX8_command 305 = .ok (.iload 4, 2) := by decide +kernel
theorem dX8_command_307 : decode cX8_command 307 = .ok (.invokestatic 212, 3) := by decide +kernel
theorem dX8_command_310 : decode cX8_command 310 = .ok (.ifCond .ne 5, 3) := by decide +kernel
theorem dX8_command_313 : decode cX8_command 313 = .ok (.iconst 0, 1) := by decide +kernel
theorem dX8_command_314 : decode cX8_command 314 = .ok (.ireturn, 1) := by decide +kernel
theorem dX8_command_315 : decode cX8_command 315 = .ok (.aload_n 0, 1) := by decide +kernel
theorem dX8_command_316 : decode cX8_command 316 = .ok (.aload_n 0, 1) := by decide +kernel
theorem dX8_command_317 : decode cX8_command 317 = .ok (.getfield 16, 3) := by decide +kernel
theorem dX8_command_320 : decode cX8_command 320 = .ok (.iload_n 2, 1) := by decide +kernel
theorem dX8_command_321 : decode cX8_command 321 = .ok (.iload_n 3, 1) := by decide +kernel
theorem dX8_command_322 : decode cX8_command 322 = .ok (.invokevirtual 135, 3) := by decide +kernel
theorem dX8_command_325 : decode cX8_command 325 = .ok (.aload_n 0, 1) := by decide +kernel
theorem dX8_command_326 : decode cX8_command 326 = .ok (.getfield 35, 3) := by decide +kernel
theorem dX8_command_329 : decode cX8_command 329 = .ok (.iconst 3, 1) := by decide +kernel
theorem dX8_command_330 : decode cX8_command 330 = .ok (.iload_n 3, 1) := by decide +kernel
theorem dX8_command_331 : decode cX8_command 331 = .ok (.imul, 1) := by decide +kernel
theorem dX8_command_332 : decode cX8_command 332 = .ok (.iload 4, 2) := by decide +kernel
theorem dX8_command_334 : decode cX8_command 334 = .ok (.iadd, 1) := by decide +kernel
theorem dX8_command_335 : decode cX8_command 335 = .ok (.iaload, 1) := by decide +kernel
theorem dX8_command_336 : decode cX8_command 336 = .ok (.iload 5, 2) := by decide +kernel
theorem dX8_command_338 : decode cX8_command 338 = .ok (.if_icmp .ne 7, 3) := by decide +kernel
theorem dX8_command_341 : decode cX8_command 341 = .ok (.iconst 1, 1) := by decide +kernel
theorem dX8_command_342 : decode cX8_command 342 = .ok (.goto 4, 3) := by decide +kernel
theorem dX8_command_345 : decode cX8_command 345 = .ok (.iconst 0, 1) := by decide +kernel
theorem dX8_command_346 : decode cX8_command 346 = .ok (.ireturn, 1) := by decide +kernel
theorem dX8_command_347 : decode cX8_command 347 = .ok (.iload_n 2, 1) := by decide +kernel
theorem dX8_command_348 : decode cX8_command 348 = .ok (.ifCond .ne 26, 3) := by decide +kernel
theorem dX8_command_351 : decode cX8_command 351 = .ok (.iload 5, 2) := by decide +kernel
theorem dX8_command_353 : decode cX8_command 353 = .ok (.ifCond .ne 21, 3) := by decide +kernel
theorem dX8_command_356 : decode cX8_command 356 = .ok (.aload_n 0, 1) := by decide +kernel
theorem dX8_command_357 : decode cX8_command 357 = .ok (.getfield 16, 3) := by decide +kernel
theorem dX8_command_360 : decode cX8_command 360 = .ok (.bipush 17, 2) := by decide +kernel
theorem dX8_command_362 : decode cX8_command 362 = .ok (.invokestatic 201, 3) := by decide +kernel
theorem dX8_command_365 : decode cX8_command 365 = .ok (.iload 6, 2) := by decide +kernel
theorem dX8_command_367 : decode cX8_command 367 = .ok (.if_icmp .gt 7, 3) := by decide +kernel
theorem dX8_command_370 : decode cX8_command 370 = .ok (.iconst 1, 1) := by decide +kernel
theorem dX8_command_371 : decode cX8_command 371 = .ok (.goto 4, 3) := by decide +kernel
theorem dX8_command_374 : decode cX8_command 374 = .ok (.iconst 0, 1) := by decide +kernel
theorem dX8_command_375 : decode cX8_command 375 = .ok (.ireturn, 1) := by decide +kernel
theorem dX8_command_376 : decode cX8_command 376 = .ok (.iconst 0, 1) := by decide +kernel
theorem dX8_command_377 : decode cX8_command 377 = .ok (.ireturn, 1) := by decide +kernel
theorem dX8_runScript_0 : decode cX8_runScript 0 = .ok (.lconst 1, 1) := by decide +kernel
theorem dX8_runScript_1 : decode cX8_runScript 1 = .ok (.lstore 4, 2) := by decide +kernel
theorem dX8_runScript_3 : decode cX8_runScript 3 = .ok (.iconst 0, 1) := by decide +kernel
theorem dX8_runScript_4 : decode cX8_runScript 4 = .ok (.istore 6, 2) := by decide +kernel
theorem dX8_runScript_6 : decode cX8_runScript 6 = .ok (.iload 6, 2) := by decide +kernel
theorem dX8_runScript_8 : decode cX8_runScript 8 = .ok (.iload_n 1, 1) := by decide +kernel
theorem dX8_runScript_9 : decode cX8_runScript 9 = .ok (.if_icmp .ge 23, 3) := by decide +kernel
theorem dX8_runScript_12 : decode cX8_runScript 12 = .ok (.iload 6, 2) := by decide +kernel
theorem dX8_runScript_14 : decode cX8_runScript 14 = .ok (.iconst 3, 1) := by decide +kernel
theorem dX8_runScript_15 : decode cX8_runScript 15 = .ok (.if_icmp .ge 17, 3) := by decide +kernel
theorem dX8_runScript_18 : decode cX8_runScript 18 = .ok (.lload 4, 2) := by decide +kernel
theorem dX8_runScript_20 : decode cX8_runScript 20 = .ok (.ldc2_w 261, 3) := by decide +kernel
theorem dX8_runScript_23 : decode cX8_runScript 23 = .ok (.lmul, 1) := by decide +kernel
theorem dX8_runScript_24 : decode cX8_runScript 24 = .ok (.lstore 4, 2) := by decide +kernel
theorem dX8_runScript_26 : decode cX8_runScript 26 = .ok (.iinc 6 1, 3) := by decide +kernel
theorem dX8_runScript_29 : decode cX8_runScript 29 = .ok (.goto (-23), 3) := by decide +kernel
theorem dX8_runScript_32 : decode cX8_runScript 32 = .ok (.aload_n 0, 1) := by decide +kernel
theorem dX8_runScript_33 : decode cX8_runScript 33 = .ok (.iload_n 1, 1) := by decide +kernel
theorem dX8_runScript_34 : decode cX8_runScript 34 = .ok (.i2l, 1) := by decide +kernel
theorem dX8_runScript_35 : decode cX8_runScript 35 = .ok (.lconst 1, 1) := by decide +kernel
theorem dX8_runScript_36 : decode cX8_runScript 36 = .ok (.ldc2_w 238, 3) := by decide +kernel
theorem dX8_runScript_39 : decode cX8_runScript 39 = .ok (.invokestatic 64, 3) := by decide +kernel
theorem dX8_runScript_42 : decode cX8_runScript 42 = .ok (.ifCond .eq 19, 3) := by decide +kernel
theorem dX8_runScript_45 : decode cX8_runScript 45 = .ok (.lload_n 2, 1) := by decide +kernel
theorem dX8_runScript_46 : decode cX8_runScript 46 = .ok (.lconst 0, 1) := by decide +kernel
theorem dX8_runScript_47 : decode cX8_runScript 47 = .ok (.lload 4, 2) := by decide +kernel
theorem dX8_runScript_49 : decode cX8_runScript 49 = .ok (.lconst 1, 1) := by decide +kernel
theorem dX8_runScript_50 : decode cX8_runScript 50 = .ok (.lsub, 1) := by decide +kernel
theorem dX8_runScript_51 : decode cX8_runScript 51 = .ok (.invokestatic 64, 3) := by decide +kernel
theorem dX8_runScript_54 : decode cX8_runScript 54 = .ok (.ifCond .eq 7, 3) := by decide +kernel
theorem dX8_runScript_57 : decode cX8_runScript 57 = .ok (.iconst 0, 1) := by decide +kernel
theorem dX8_runScript_58 : decode cX8_runScript 58 = .ok (.goto 4, 3) := by decide +kernel
theorem dX8_runScript_61 : decode cX8_runScript 61 = .ok (.iconst 1, 1) := by decide +kernel
theorem dX8_runScript_62 : decode cX8_runScript 62 = .ok (.invokevirtual 164, 3) := by decide +kernel
theorem dX8_runScript_65 : decode cX8_runScript 65 = .ok (.ifCond .eq 5, 3) := by decide +kernel
theorem dX8_runScript_68 : decode cX8_runScript 68 = .ok (.iconst 0, 1) := by decide +kernel
theorem dX8_runScript_69 : decode cX8_runScript 69 = .ok (.ireturn, 1) := by decide +kernel
theorem dX8_runScript_70 : decode cX8_runScript 70 = .ok (.aload_n 0, 1) := by decide +kernel
theorem dX8_runScript_71 : decode cX8_runScript 71 = .ok (.getfield 13, 3) := by decide +kernel
theorem dX8_runScript_74 : decode cX8_runScript 74 = .ok (.iconst 0, 1) := by decide +kernel
theorem dX8_runScript_75 : decode cX8_runScript 75 = .ok (.aload_n 0, 1) := by decide +kernel
theorem dX8_runScript_76 : decode cX8_runScript 76 = .ok (.getfield 16, 3) := by decide +kernel
theorem dX8_runScript_79 : decode cX8_runScript 79 = .ok (.iconst 0, 1) := by decide +kernel
theorem dX8_runScript_80 : decode cX8_runScript 80 = .ok (.invokestatic 221, 3) := by decide +kernel
theorem dX8_runScript_83 : decode cX8_runScript 83 = .ok (.iconst 0, 1) := by decide +kernel
theorem dX8_runScript_84 : decode cX8_runScript 84 = .ok (.istore 6, 2) := by decide +kernel
theorem dX8_runScript_86 : decode cX8_runScript 86 = .ok (.iload 6, 2) := by decide +kernel
theorem dX8_runScript_88 : decode cX8_runScript 88 = .ok (.iload_n 1, 1) := by decide +kernel
theorem dX8_runScript_89 : decode cX8_runScript 89 = .ok (.if_icmp .ge 74, 3) := by decide +kernel
theorem dX8_runScript_92 : decode cX8_runScript 92 = .ok (.lload 4, 2) := by decide +kernel
theorem dX8_runScript_94 : decode cX8_runScript 94 = .ok (.ldc2_w 261, 3) := by decide +kernel
theorem dX8_runScript_97 : decode cX8_runScript 97 = .ok (.ldiv, 1) := by decide +kernel
theorem dX8_runScript_98 : decode cX8_runScript 98 = .ok (.lstore 4, 2) := by decide +kernel
theorem dX8_runScript_100 : decode cX8_runScript 100 = .ok (.lload_n 2, 1) := by decide +kernel
theorem dX8_runScript_101 : decode cX8_runScript 101 = .ok (.lload 4, 2) := by decide +kernel
theorem dX8_runScript_103 : decode cX8_runScript 103 = .ok (.ldiv, 1) := by decide +kernel
theorem dX8_runScript_104 : decode cX8_runScript 104 = .ok (.ldc2_w 261, 3) := by decide +kernel
theorem dX8_runScript_107 : decode cX8_runScript 107 = .ok (.lrem, 1) := by decide +kernel
theorem dX8_runScript_108 : decode cX8_runScript 108 = .ok (.l2i, 1) := by decide +kernel
theorem dX8_runScript_109 : decode cX8_runScript 109 = .ok (.istore 7, 2) := by decide +kernel
theorem dX8_runScript_111 : decode cX8_runScript 111 = .ok (.aload_n 0, 1) := by decide +kernel
theorem dX8_runScript_112 : decode cX8_runScript 112 = .ok (.iload 7, 2) := by decide +kernel
theorem dX8_runScript_114 : decode cX8_runScript 114 = .ok (.sipush 10000, 3) := by decide +kernel
theorem dX8_runScript_117 : decode cX8_runScript 117 = .ok (.idiv, 1) := by decide +kernel
theorem dX8_runScript_118 : decode cX8_runScript 118 = .ok (.iload 7, 2) := by decide +kernel
theorem dX8_runScript_120 : decode cX8_runScript 120 = .ok (.sipush 1000, 3) := by decide +kernel
theorem dX8_runScript_123 : decode cX8_runScript 123 = .ok (.idiv, 1) := by decide +kernel
theorem dX8_runScript_124 : decode cX8_runScript 124 = .ok (.bipush 10, 2) := by decide +kernel
theorem dX8_runScript_126 : decode cX8_runScript 126 = .ok (.irem, 1) := by decide +kernel
theorem dX8_runScript_127 : decode cX8_runScript 127 = .ok (.iload 7, 2) := by decide +kernel
theorem dX8_runScript_129 : decode cX8_runScript 129 = .ok (.bipush 100, 2) := by decide +kernel
theorem dX8_runScript_131 : decode cX8_runScript 131 = .ok (.idiv, 1) := by decide +kernel
theorem dX8_runScript_132 : decode cX8_runScript 132 = .ok (.bipush 10, 2) := by decide +kernel
theorem dX8_runScript_134 : decode cX8_runScript 134 = .ok (.irem, 1) := by decide +kernel
theorem dX8_runScript_135 : decode cX8_runScript 135 = .ok (.iload 7, 2) := by decide +kernel
theorem dX8_runScript_137 : decode cX8_runScript 137 = .ok (.bipush 10, 2) := by decide +kernel
theorem dX8_runScript_139 : decode cX8_runScript 139 = .ok (.idiv, 1) := by decide +kernel
theorem dX8_runScript_140 : decode cX8_runScript 140 = .ok (.bipush 10, 2) := by decide +kernel
theorem dX8_runScript_142 : decode cX8_runScript 142 = .ok (.irem, 1) := by decide +kernel
theorem dX8_runScript_143 : decode cX8_runScript 143 = .ok (.iload 7, 2) := by decide +kernel
theorem dX8_runScript_145 : decode cX8_runScript 145 = .ok (.bipush 10, 2) := by decide +kernel
theorem dX8_runScript_147 : decode cX8_runScript 147 = .ok (.irem, 1) := by decide +kernel
theorem dX8_runScript_148 : decode cX8_runScript 148 = .ok (.invokevirtual 263, 3) := by decide +kernel
theorem dX8_runScript_151 : decode cX8_runScript 151 = .ok (.ifCond .ne 6, 3) := by decide +kernel
theorem dX8_runScript_154 : decode cX8_runScript 154 = .ok (.iload 6, 2) := by decide +kernel
theorem dX8_runScript_156 : decode cX8_runScript 156 = .ok (.ireturn, 1) := by decide +kernel
theorem dX8_runScript_157 : decode cX8_runScript 157 = .ok (.iinc 6 1, 3) := by decide +kernel
theorem dX8_runScript_160 : decode cX8_runScript 160 = .ok (.goto (-74), 3) := by decide +kernel
theorem dX8_runScript_163 : decode cX8_runScript 163 = .ok (.iconst (-1), 1) := by decide +kernel
theorem dX8_runScript_164 : decode cX8_runScript 164 = .ok (.ireturn, 1) := by decide +kernel
theorem dX8_turn_0 : decode cX8_turn 0 = .ok (.iload_n 1, 1) := by decide +kernel
theorem dX8_turn_1 : decode cX8_turn 1 = .ok (.bipush 8, 2) := by decide +kernel
theorem dX8_turn_3 : decode cX8_turn 3 = .ok (.idiv, 1) := by decide +kernel
theorem dX8_turn_4 : decode cX8_turn 4 = .ok (.iconst 4, 1) := by decide +kernel
theorem dX8_turn_5 : decode cX8_turn 5 = .ok (.irem, 1) := by decide +kernel
theorem dX8_turn_6 : decode cX8_turn 6 = .ok (.istore_n 2, 1) := by decide +kernel
theorem dX8_turn_7 : decode cX8_turn 7 = .ok (.iload_n 1, 1) := by decide +kernel
theorem dX8_turn_8 : decode cX8_turn 8 = .ok (.bipush 32, 2) := by decide +kernel
theorem dX8_turn_10 : decode cX8_turn 10 = .ok (.idiv, 1) := by decide +kernel
theorem dX8_turn_11 : decode cX8_turn 11 = .ok (.bipush 12, 2) := by decide +kernel
theorem dX8_turn_13 : decode cX8_turn 13 = .ok (.irem, 1) := by decide +kernel
theorem dX8_turn_14 : decode cX8_turn 14 = .ok (.istore_n 3, 1) := by decide +kernel
theorem dX8_turn_15 : decode cX8_turn 15 = .ok (.iload_n 1, 1) := by decide +kernel
theorem dX8_turn_16 : decode cX8_turn 16 = .ok (.bipush 8, 2) := by decide +kernel
theorem dX8_turn_18 : decode cX8_turn 18 = .ok (.irem, 1) := by decide +kernel
theorem dX8_turn_19 : decode cX8_turn 19 = .ok (.istore 4, 2) := by decide +kernel
theorem dX8_turn_21 : decode cX8_turn 21 = .ok (.iload 4, 2) := by decide +kernel
theorem dX8_turn_23 : decode cX8_turn 23 = .ok (.iconst 3, 1) := by decide +kernel
theorem dX8_turn_24 : decode cX8_turn 24 = .ok (.if_icmp .ge 45, 3) := by decide +kernel
theorem dX8_turn_27 : decode cX8_turn 27 = .ok (.aload_n 0, 1) := by decide +kernel
theorem dX8_turn_28 : decode cX8_turn 28 = .ok (.getfield 16, 3) := by decide +kernel
theorem dX8_turn_31 : decode cX8_turn 31 = .ok (.iload_n 2, 1) := by decide +kernel
theorem dX8_turn_32 : decode cX8_turn 32 = .ok (.iload_n 3, 1) := by decide +kernel
theorem dX8_turn_33 : decode cX8_turn 33 = .ok (.invokestatic 76, 3) := by decide +kernel
theorem dX8_turn_36 : decode cX8_turn 36 = .ok (.ifCond .eq 226, 3) := by decide +kernel
theorem dX8_turn_39 : decode cX8_turn 39 = .ok (.aload_n 0, 1) := by decide +kernel
theorem dX8_turn_40 : decode cX8_turn 40 = .ok (.getfield 16, 3) := by decide +kernel
theorem dX8_turn_43 : decode cX8_turn 43 = .ok (.iload_n 2, 1) := by decide +kernel
theorem dX8_turn_44 : decode cX8_turn 44 = .ok (.iload_n 3, 1) := by decide +kernel
theorem dX8_turn_45 : decode cX8_turn 45 = .ok (.invokestatic 60, 3) := by decide +kernel
theorem dX8_turn_48 : decode cX8_turn 48 = .ok (.bipush 11, 2) := by decide +kernel
theorem dX8_turn_50 : decode cX8_turn 50 = .ok (.iadd, 1) := by decide +kernel
theorem dX8_turn_51 : decode cX8_turn 51 = .ok (.iload_n 1, 1) := by decide +kernel
theorem dX8_turn_52 : decode cX8_turn 52 = .ok (.sipush 512, 3) := by decide +kernel
theorem dX8_turn_55 : decode cX8_turn 55 = .ok (.idiv, 1) := by decide +kernel
theorem dX8_turn_56 : decode cX8_turn 56 = .ok (.ldc_w 267, 3) := by decide +kernel
theorem dX8_turn_59 : decode cX8_turn 59 = .ok (.irem, 1) := by decide +kernel
theorem dX8_turn_60 : decode cX8_turn 60 = .ok (.bipush 11, 2) := by decide +kernel
theorem dX8_turn_62 : decode cX8_turn 62 = .ok (.iconst 5, 1) := by decide +kernel
theorem dX8_turn_63 : decode cX8_turn 63 = .ok (.invokestatic 230, 3) := by decide +kernel
theorem dX8_turn_66 : decode cX8_turn 66 = .ok (.goto 196, 3) := by decide +kernel
theorem dX8_turn_69 : decode cX8_turn 69 = .ok (.iload 4, 2) := by decide +kernel
theorem dX8_turn_71 : decode cX8_turn 71 = .ok (.iconst 3, 1) := by decide +kernel
theorem dX8_turn_72 : decode cX8_turn 72 = .ok (.if_icmp .ne 51, 3) := by decide +kernel
theorem dX8_turn_75 : decode cX8_turn 75 = .ok (.aload_n 0, 1) := by decide +kernel
theorem dX8_turn_76 : decode cX8_turn 76 = .ok (.getfield 16, 3) := by decide +kernel
theorem dX8_turn_79 : decode cX8_turn 79 = .ok (.iload_n 2, 1) := by decide +kernel
theorem dX8_turn_80 : decode cX8_turn 80 = .ok (.invokestatic 68, 3) := by decide +kernel
theorem dX8_turn_83 : decode cX8_turn 83 = .ok (.ifCond .eq 179, 3) := by decide +kernel
theorem dX8_turn_86 : decode cX8_turn 86 = .ok (.aload_n 0, 1) := by decide +kernel
theorem dX8_turn_87 : decode cX8_turn 87 = .ok (.getfield 16, 3) := by decide +kernel
theorem dX8_turn_90 : decode cX8_turn 90 = .ok (.iload_n 2, 1) := by decide +kernel
theorem dX8_turn_91 : decode cX8_turn 91 = .ok (.invokestatic 72, 3) := by decide +kernel
theorem dX8_turn_94 : decode cX8_turn 94 = .ok (.iconst 2, 1) := by decide +kernel
theorem dX8_turn_95 : decode cX8_turn 95 = .ok (.iadd, 1) := by decide +kernel
theorem dX8_turn_96 : decode cX8_turn 96 = .ok (.iconst 5, 1) := by decide +kernel
theorem dX8_turn_97 : decode cX8_turn 97 = .ok (.iload_n 1, 1) := by decide +kernel
theorem dX8_turn_98 : decode cX8_turn 98 = .ok (.bipush 32, 2) := by decide +kernel
theorem dX8_turn_100 : decode cX8_turn 100 = .ok (.idiv, 1) := by decide +kernel
theorem dX8_turn_101 : decode cX8_turn 101 = .ok (.iconst 3, 1) := by decide +kernel
theorem dX8_turn_102 : decode cX8_turn 102 = .ok (.irem, 1) := by decide +kernel
theorem dX8_turn_103 : decode cX8_turn 103 = .ok (.imul, 1) := by decide +kernel
theorem dX8_turn_104 : decode cX8_turn 104 = .ok (.iadd, 1) := by decide +kernel
theorem dX8_turn_105 : decode cX8_turn 105 = .ok (.iload_n 1, 1) := by decide +kernel
theorem dX8_turn_106 : decode cX8_turn 106 = .ok (.sipush 128, 3) := by decide +kernel
theorem dX8_turn_109 : decode cX8_turn 109 = .ok (.idiv, 1) := by decide +kernel
theorem dX8_turn_110 : decode cX8_turn 110 = .ok (.ldc_w 268, 3) := by decide +kernel
theorem dX8_turn_113 : decode cX8_turn 113 = .ok (.irem, 1) := by decide +kernel
theorem dX8_turn_114 : decode cX8_turn 114 = .ok (.bipush 41, 2) := by decide +kernel
theorem dX8_turn_116 : decode cX8_turn 116 = .ok (.iconst 0, 1) := by decide +kernel
theorem dX8_turn_117 : decode cX8_turn 117 = .ok (.invokestatic 230, 3) := by decide +kernel
theorem dX8_turn_120 : decode cX8_turn 120 = .ok (.goto 142, 3) := by decide +kernel
theorem dX8_turn_123 : decode cX8_turn 123 = .ok (.iload 4, 2) := by decide +kernel
theorem dX8_turn_125 : decode cX8_turn 125 = .ok (.bipush 6, 2) := by decide +kernel
theorem dX8_turn_127 : decode cX8_turn 127 = .ok (.if_icmp .ge 56, 3) := by decide +kernel
theorem dX8_turn_130 : decode cX8_turn 130 = .ok (.aload_n 0, 1) := by decide +kernel
theorem dX8_turn_131 : decode cX8_turn 131 = .ok (.getfield 16, 3) := by decide +kernel
theorem dX8_turn_134 : decode cX8_turn 134 = .ok (.iload_n 2, 1) := by decide +kernel
theorem dX8_turn_135 : decode cX8_turn 135 = .ok (.iload_n 3, 1) := by decide +kernel
theorem dX8_turn_136 : decode cX8_turn 136 = .ok (.iload_n 1, 1) := by decide +kernel
theorem dX8_turn_137 : decode cX8_turn 137 = .ok (.sipush 512, 3) := by decide +kernel
theorem dX8_turn_140 : decode cX8_turn 140 = .ok (.idiv, 1) := by decide +kernel
theorem dX8_turn_141 : decode cX8_turn 141 = .ok (.iconst 3, 1) := by decide +kernel
theorem dX8_turn_142 : decode cX8_turn 142 = .ok (.irem, 1) := by decide +kernel
theorem dX8_turn_143 : decode cX8_turn 143 = .ok (.iload_n 1, 1) := by decide +kernel
theorem dX8_turn_144 : decode cX8_turn 144 = .ok (.sipush 2048, 3) := by decide +kernel
theorem dX8_turn_147 : decode cX8_turn 147 = .ok (.idiv, 1) := by decide +kernel
theorem dX8_turn_148 : decode cX8_turn 148 = .ok (.iconst 4, 1) := by decide +kernel
theorem dX8_turn_149 : decode cX8_turn 149 = .ok (.irem, 1) := by decide +kernel
theorem dX8_turn_150 : decode cX8_turn 150 = .ok (.invokestatic 240, 3) := by decide +kernel
theorem dX8_turn_153 : decode cX8_turn 153 = .ok (.ifCond .ne 109, 3) := by decide +kernel
theorem dX8_turn_156 : decode cX8_turn 156 = .ok (.aload_n 0, 1) := by decide +kernel
theorem dX8_turn_157 : decode cX8_turn 157 = .ok (.getfield 16, 3) := by decide +kernel
theorem dX8_turn_160 : decode cX8_turn 160 = .ok (.iload_n 2, 1) := by decide +kernel
theorem dX8_turn_161 : decode cX8_turn 161 = .ok (.iload_n 3, 1) := by decide +kernel
theorem dX8_turn_162 : decode cX8_turn 162 = .ok (.iload_n 1, 1) := by decide +kernel
theorem dX8_turn_163 : decode cX8_turn 163 = .ok (.sipush 512, 3) := by decide +kernel
theorem dX8_turn_166 : decode cX8_turn 166 = .ok (.idiv, 1) := by decide +kernel
theorem dX8_turn_167 : decode cX8_turn 167 = .ok (.iconst 3, 1) := by decide +kernel
theorem dX8_turn_168 : decode cX8_turn 168 = .ok (.irem, 1) := by decide +kernel
theorem dX8_turn_169 : decode cX8_turn 169 = .ok (.iload_n 1, 1) := by decide +kernel
theorem dX8_turn_170 : decode cX8_turn 170 = .ok (.sipush 2048, 3) := by decide +kernel
theorem dX8_turn_173 : decode cX8_turn 173 = .ok (.idiv, 1) := by decide +kernel
theorem dX8_turn_174 : decode cX8_turn 174 = .ok (.iconst 4, 1) := by decide +kernel
theorem dX8_turn_175 : decode cX8_turn 175 = .ok (.irem, 1) := by decide +kernel
theorem dX8_turn_176 : decode cX8_turn 176 = .ok (.invokestatic 244, 3) := by decide +kernel
theorem dX8_turn_179 : decode cX8_turn 179 = .ok (.pop, 1) := by decide +kernel
theorem dX8_turn_180 : decode cX8_turn 180 = .ok (.goto 82, 3) := by decide +kernel
theorem dX8_turn_183 : decode cX8_turn 183 = .ok (.iload 4, 2) := by decide +kernel
theorem dX8_turn_185 : decode cX8_turn 185 = .ok (.bipush 6, 2) := by decide +kernel
theorem dX8_turn_187 : decode cX8_turn 187 = .ok (.if_icmp .ne 46, 3) := by decide +kernel
theorem dX8_turn_190 : decode cX8_turn 190 = .ok (.aload_n 0, 1) := by decide +kernel
theorem dX8_turn_191 : decode cX8_turn 191 = .ok (.getfield 16, 3) := by decide +kernel
theorem dX8_turn_194 : decode cX8_turn 194 = .ok (.iload_n 2, 1) := by decide +kernel
theorem dX8_turn_195 : decode cX8_turn 195 = .ok (.iload_n 3, 1) := by decide +kernel
theorem dX8_turn_196 : decode cX8_turn 196 = .ok (.invokestatic 76, 3) := by decide +kernel
theorem dX8_turn_199 : decode cX8_turn 199 = .ok (.ifCond .eq 63, 3) := by decide +kernel
theorem dX8_turn_202 : decode cX8_turn 202 = .ok (.aload_n 0, 1) := by decide +kernel
theorem dX8_turn_203 : decode cX8_turn 203 = .ok (.getfield 16, 3) := by decide +kernel
theorem dX8_turn_206 : decode cX8_turn 206 = .ok (.iload_n 2, 1) := by decide +kernel
theorem dX8_turn_207 : decode cX8_turn 207 = .ok (.iload_n 3, 1) := by decide +kernel
theorem dX8_turn_208 : decode cX8_turn 208 = .ok (.invokestatic 60, 3) := by decide +kernel
theorem dX8_turn_211 : decode cX8_turn 211 = .ok (.bipush 16, 2) := by decide +kernel
theorem dX8_turn_213 : decode cX8_turn 213 = .ok (.iadd, 1) := by decide +kernel
theorem dX8_turn_214 : decode cX8_turn 214 = .ok (.iload_n 1, 1) := by decide +kernel
theorem dX8_turn_215 : decode cX8_turn 215 = .ok (.sipush 512, 3) := by decide +kernel
theorem dX8_turn_218 : decode cX8_turn 218 = .ok (.idiv, 1) := by decide +kernel
theorem dX8_turn_219 : decode cX8_turn 219 = .ok (.iconst 2, 1) := by decide +kernel
theorem dX8_turn_220 : decode cX8_turn 220 = .ok (.irem, 1) := by decide +kernel
theorem dX8_turn_221 : decode cX8_turn 221 = .ok (.ifCond .ne 7, 3) := by decide +kernel
theorem dX8_turn_224 : decode cX8_turn 224 = .ok (.iconst 1, 1) := by decide +kernel
theorem dX8_turn_225 : decode cX8_turn 225 = .ok (.goto 4, 3) := by decide +kernel
theorem dX8_turn_228 : decode cX8_turn 228 = .ok (.iconst 0, 1) := by decide +kernel
theorem dX8_turn_229 : decode cX8_turn 229 = .ok (.iastore, 1) := by decide +kernel
theorem dX8_turn_230 : decode cX8_turn 230 = .ok (.goto 32, 3) := by decide +kernel
theorem dX8_turn_233 : decode cX8_turn 233 = .ok (.aload_n 0, 1) := by decide +kernel
theorem dX8_turn_234 : decode cX8_turn 234 = .ok (.getfield 16, 3) := by decide +kernel
theorem dX8_turn_237 : decode cX8_turn 237 = .ok (.iload_n 2, 1) := by decide +kernel
theorem dX8_turn_238 : decode cX8_turn 238 = .ok (.invokestatic 68, 3) := by decide +kernel
theorem dX8_turn_241 : decode cX8_turn 241 = .ok (.ifCond .eq 21, 3) := by decide +kernel
theorem dX8_turn_244 : decode cX8_turn 244 = .ok (.aload_n 0, 1) := by decide +kernel
theorem dX8_turn_245 : decode cX8_turn 245 = .ok (.getfield 16, 3) := by decide +kernel
theorem dX8_turn_248 : decode cX8_turn 248 = .ok (.iload_n 2, 1) := by decide +kernel
theorem dX8_turn_249 : decode cX8_turn 249 = .ok (.invokestatic 72, 3) := by decide +kernel
theorem dX8_turn_252 : decode cX8_turn 252 = .ok (.iconst 1, 1) := by decide +kernel
theorem dX8_turn_253 : decode cX8_turn 253 = .ok (.iadd, 1) := by decide +kernel
theorem dX8_turn_254 : decode cX8_turn 254 = .ok (.iload_n 1, 1) := by decide +kernel
theorem dX8_turn_255 : decode cX8_turn 255 = .ok (.bipush 32, 2) := by decide +kernel
theorem dX8_turn_257 : decode cX8_turn 257 = .ok (.idiv, 1) := by decide +kernel
theorem dX8_turn_258 : decode cX8_turn 258 = .ok (.bipush 10, 2) := by decide +kernel
theorem dX8_turn_260 : decode cX8_turn 260 = .ok (.irem, 1) := by decide +kernel
theorem dX8_turn_261 : decode cX8_turn 261 = .ok (.iastore, 1) := by decide +kernel
theorem dX8_turn_262 : decode cX8_turn 262 = .ok (.return_, 1) := by decide +kernel
theorem dX8_simulate_0 : decode cX8_simulate 0 = .ok (.aload_n 0, 1) := by decide +kernel
theorem dX8_simulate_1 : decode cX8_simulate 1 = .ok (.iload_n 3, 1) := by decide +kernel
theorem dX8_simulate_2 : decode cX8_simulate 2 = .ok (.i2l, 1) := by decide +kernel
theorem dX8_simulate_3 : decode cX8_simulate 3 = .ok (.lconst 1, 1) := by decide +kernel
theorem dX8_simulate_4 : decode cX8_simulate 4 = .ok (.ldc2_w 269, 3) := by decide +kernel
theorem dX8_simulate_7 : decode cX8_simulate 7 = .ok (.invokestatic 64, 3) := by decide +kernel
theorem dX8_simulate_10 : decode cX8_simulate 10 = .ok (.ifCond .eq 7, 3) := by decide +kernel
theorem dX8_simulate_13 : decode cX8_simulate 13 = .ok (.iconst 0, 1) := by decide +kernel
theorem dX8_simulate_14 : decode cX8_simulate 14 = .ok (.goto 4, 3) := by decide +kernel
theorem dX8_simulate_17 : decode cX8_simulate 17 = .ok (.iconst 1, 1) := by decide +kernel
theorem dX8_simulate_18 : decode cX8_simulate 18 = .ok (.invokevirtual 164, 3) := by decide +kernel
theorem dX8_simulate_21 : decode cX8_simulate 21 = .ok (.ifCond .eq 5, 3) := by decide +kernel
theorem dX8_simulate_24 : decode cX8_simulate 24 = .ok (.iconst 0, 1) := by decide +kernel
theorem dX8_simulate_25 : decode cX8_simulate 25 = .ok (.ireturn, 1) := by decide +kernel
theorem dX8_simulate_26 : decode cX8_simulate 26 = .ok (.aload_n 0, 1) := by decide +kernel
theorem dX8_simulate_27 : decode cX8_simulate 27 = .ok (.getfield 13, 3) := by decide +kernel
theorem dX8_simulate_30 : decode cX8_simulate 30 = .ok (.iconst 0, 1) := by decide +kernel
theorem dX8_simulate_31 : decode cX8_simulate 31 = .ok (.aload_n 0, 1) := by decide +kernel
theorem dX8_simulate_32 : decode cX8_simulate 32 = .ok (.getfield 16, 3) := by decide +kernel
theorem dX8_simulate_35 : decode cX8_simulate 35 = .ok (.iconst 0, 1) := by decide +kernel
theorem dX8_simulate_36 : decode cX8_simulate 36 = .ok (.invokestatic 221, 3) := by decide +kernel
theorem dX8_simulate_39 : decode cX8_simulate 39 = .ok (.lload_n 1, 1) := by decide +kernel
theorem dX8_simulate_40 : decode cX8_simulate 40 = .ok (.lstore 4, 2) := by decide +kernel
theorem dX8_simulate_42 : decode cX8_simulate 42 = .ok (.iconst 0, 1) := by decide +kernel
theorem dX8_simulate_43 : decode cX8_simulate 43 = .ok (.istore 6, 2) := by decide +kernel
theorem dX8_simulate_45 : decode cX8_simulate 45 = .ok (.iload 6, 2) := by decide +kernel
theorem dX8_simulate_47 : decode cX8_simulate 47 = .ok (.iload_n 3, 1) := by decide +kernel
theorem dX8_simulate_48 : decode cX8_simulate 48 = .ok (.if_icmp .ge 31, 3) := by decide +kernel
theorem dX8_simulate_51 : decode cX8_simulate 51 = .ok (.lload 4, 2) := by decide +kernel
theorem dX8_simulate_53 : decode cX8_simulate 53 = .ok (.ldc2_w 271, 3) := by decide +kernel
theorem dX8_simulate_56 : decode cX8_simulate 56 = .ok (.lmul, 1) := by decide +kernel
theorem dX8_simulate_57 : decode cX8_simulate 57 = .ok (.ldc2_w 273, 3) := by decide +kernel
theorem dX8_simulate_60 : decode cX8_simulate 60 = .ok (.ladd, 1) := by decide +kernel
theorem dX8_simulate_61 : decode cX8_simulate 61 = .ok (.lstore 4, 2) := by decide +kernel
theorem dX8_simulate_63 : decode cX8_simulate 63 = .ok (.aload_n 0, 1) := by decide +kernel
theorem dX8_simulate_64 : decode cX8_simulate 64 = .ok (.lload 4, 2) := by decide +kernel
theorem dX8_simulate_66 : decode cX8_simulate 66 = .ok (.bipush 33, 2) := by decide +kernel
theorem dX8_simulate_68 : decode cX8_simulate 68 = .ok (.lushr, 1) := by decide +kernel
theorem dX8_simulate_69 : decode cX8_simulate 69 = .ok (.l2i, 1) := by decide +kernel
theorem dX8_simulate_70 : decode cX8_simulate 70 = .ok (.invokevirtual 275, 3) := by decide +kernel
theorem dX8_simulate_73 : decode cX8_simulate 73 = .ok (.iinc 6 1, 3) := by decide +kernel
theorem dX8_simulate_76 : decode cX8_simulate 76 = .ok (.goto (-31), 3) := by decide +kernel
theorem dX8_simulate_79 : decode cX8_simulate 79 = .ok (.iconst 0, 1) := by decide +kernel
theorem dX8_simulate_80 : decode cX8_simulate 80 = .ok (.istore 6, 2) := by decide +kernel
theorem dX8_simulate_82 : decode cX8_simulate 82 = .ok (.iconst 0, 1) := by decide +kernel
theorem dX8_simulate_83 : decode cX8_simulate 83 = .ok (.istore 7, 2) := by decide +kernel
theorem dX8_simulate_85 : decode cX8_simulate 85 = .ok (.iload 7, 2) := by decide +kernel
theorem dX8_simulate_87 : decode cX8_simulate 87 = .ok (.aload_n 0, 1) := by decide +kernel
theorem dX8_simulate_88 : decode cX8_simulate 88 = .ok (.getfield 16, 3) := by decide +kernel
theorem dX8_simulate_91 : decode cX8_simulate 91 = .ok (.iconst 0, 1) := by decide +kernel
theorem dX8_simulate_92 : decode cX8_simulate 92 = .ok (.iaload, 1) := by decide +kernel
theorem dX8_simulate_93 : decode cX8_simulate 93 = .ok (.if_icmp .ge 24, 3) := by decide +kernel
theorem dX8_simulate_96 : decode cX8_simulate 96 = .ok (.iload 6, 2) := by decide +kernel
theorem dX8_simulate_98 : decode cX8_simulate 98 = .ok (.aload_n 0, 1) := by decide +kernel
theorem dX8_simulate_99 : decode cX8_simulate 99 = .ok (.aload_n 0, 1) := by decide +kernel
theorem dX8_simulate_100 : decode cX8_simulate 100 = .ok (.getfield 16, 3) := by decide +kernel
theorem dX8_simulate_103 : decode cX8_simulate 103 = .ok (.iload 7, 2) := by decide +kernel
theorem dX8_simulate_105 : decode cX8_simulate 105 = .ok (.invokevirtual 146, 3) := by decide +kernel
theorem dX8_simulate_108 : decode cX8_simulate 108 = .ok (.iadd, 1) := by decide +kernel
theorem dX8_simulate_109 : decode cX8_simulate 109 = .ok (.istore 6, 2) := by decide +kernel
theorem dX8_simulate_111 : decode cX8_simulate 111 = .ok (.iinc 7 1, 3) := by decide +kernel
theorem dX8_simulate_114 : decode cX8_simulate 114 = .ok (.goto (-29), 3) := by decide +kernel
theorem dX8_simulate_117 : decode cX8_simulate 117 = .ok (.iload 6, 2) := by decide +kernel
theorem dX8_simulate_119 : decode cX8_simulate 119 = .ok (.ireturn, 1) := by decide +kernel
theorem dX8_save_0 : decode cX8_save 0 = .ok (.aload_n 0, 1) := by decide +kernel
theorem dX8_save_1 : decode cX8_save 1 = .ok (.iload_n 1, 1) := by decide +kernel
theorem dX8_save_2 : decode cX8_save 2 = .ok (.i2l, 1) := by decide +kernel
theorem dX8_save_3 : decode cX8_save 3 = .ok (.lconst 0, 1) := by decide +kernel
theorem dX8_save_4 : decode cX8_save 4 = .ok (.lconst 1, 1) := by decide +kernel
theorem dX8_save_5 : decode cX8_save 5 = .ok (.invokestatic 64, 3) := by decide +kernel
theorem dX8_save_8 : decode cX8_save 8 = .ok (.ifCond .eq 7, 3) := by decide +kernel
theorem dX8_save_11 : decode cX8_save 11 = .ok (.iconst 0, 1) := by decide +kernel
theorem dX8_save_12 : decode cX8_save 12 = .ok (.goto 4, 3) := by decide +kernel
theorem dX8_save_15 : decode cX8_save 15 = .ok (.iconst 1, 1) := by decide +kernel
theorem dX8_save_16 : decode cX8_save 16 = .ok (.invokevirtual 164, 3) := by decide +kernel
theorem dX8_save_19 : decode cX8_save 19 = .ok (.ifCond .eq 5, 3) := by decide +kernel
theorem dX8_save_22 : decode cX8_save 22 = .ok (.iconst 0, 1) := by decide +kernel
theorem dX8_save_23 : decode cX8_save 23 = .ok (.ireturn, 1) := by decide +kernel
theorem dX8_save_24 : decode cX8_save 24 = .ok (.aload_n 0, 1) := by decide +kernel
theorem dX8_save_25 : decode cX8_save 25 = .ok (.getfield 13, 3) := by decide +kernel
theorem dX8_save_28 : decode cX8_save 28 = .ok (.iconst 0, 1) := by decide +kernel
theorem dX8_save_29 : decode cX8_save 29 = .ok (.aload_n 0, 1) := by decide +kernel
theorem dX8_save_30 : decode cX8_save 30 = .ok (.getfield 22, 3) := by decide +kernel
theorem dX8_save_33 : decode cX8_save 33 = .ok (.sipush 938, 3) := by decide +kernel
theorem dX8_save_36 : decode cX8_save 36 = .ok (.iload_n 1, 1) := by decide +kernel
theorem dX8_save_37 : decode cX8_save 37 = .ok (.imul, 1) := by decide +kernel
theorem dX8_save_38 : decode cX8_save 38 = .ok (.invokestatic 221, 3) := by decide +kernel
theorem dX8_save_41 : decode cX8_save 41 = .ok (.aload_n 0, 1) := by decide +kernel
theorem dX8_save_42 : decode cX8_save 42 = .ok (.getfield 25, 3) := by decide +kernel
theorem dX8_save_45 : decode cX8_save 45 = .ok (.iload_n 1, 1) := by decide +kernel
theorem dX8_save_46 : decode cX8_save 46 = .ok (.iconst 1, 1) := by decide +kernel
theorem dX8_save_47 : decode cX8_save 47 = .ok (.bastore, 1) := by decide +kernel
theorem dX8_save_48 : decode cX8_save 48 = .ok (.aload_n 0, 1) := by decide +kernel
theorem dX8_save_49 : decode cX8_save 49 = .ok (.getfield 13, 3) := by decide +kernel
theorem dX8_save_52 : decode cX8_save 52 = .ok (.iconst 0, 1) := by decide +kernel
theorem dX8_save_53 : decode cX8_save 53 = .ok (.iaload, 1) := by decide +kernel
theorem dX8_save_54 : decode cX8_save 54 = .ok (.ireturn, 1) := by decide +kernel
theorem dX8_restore_0 : decode cX8_restore 0 = .ok (.aload_n 0, 1) := by decide +kernel
theorem dX8_restore_1 : decode cX8_restore 1 = .ok (.iload_n 1, 1) := by decide +kernel
theorem dX8_restore_2 : decode cX8_restore 2 = .ok (.i2l, 1) := by decide +kernel
theorem dX8_restore_3 : decode cX8_restore 3 = .ok (.lconst 0, 1) := by decide +kernel
theorem dX8_restore_4 : decode cX8_restore 4 = .ok (.lconst 1, 1) := by decide +kernel
theorem dX8_restore_5 : decode cX8_restore 5 = .ok (.invokestatic 64, 3) := by decide +kernel
theorem dX8_restore_8 : decode cX8_restore 8 = .ok (.ifCond .ne 7, 3) := by decide +kernel
theorem dX8_restore_11 : decode cX8_restore 11 = .ok (.iconst 1, 1) := by decide +kernel
theorem dX8_restore_12 : decode cX8_restore 12 = .ok (.goto 17, 3) := by decide +kernel
theorem dX8_restore_15 : decode cX8_restore 15 = .ok (.aload_n 0, 1) := by decide +kernel
theorem dX8_restore_16 : decode cX8_restore 16 = .ok (.getfield 25, 3) := by decide +kernel
theorem dX8_restore_19 : decode cX8_restore 19 = .ok (.iload_n 1, 1) := by decide +kernel
theorem dX8_restore_20 : decode cX8_restore 20 = .ok (.baload, 1) := by decide +kernel
theorem dX8_restore_21 : decode cX8_restore 21 = .ok (.ifCond .ne 7, 3) := by decide +kernel
theorem dX8_restore_24 : decode cX8_restore 24 = .ok (.iconst 2, 1) := by decide +kernel
theorem dX8_restore_25 : decode cX8_restore 25 = .ok (.goto 4, 3) := by decide +kernel
theorem dX8_restore_28 : decode cX8_restore 28 = .ok (.iconst 0, 1) := by decide +kernel
theorem dX8_restore_29 : decode cX8_restore 29 = .ok (.invokevirtual 164, 3) := by decide +kernel
theorem dX8_restore_32 : decode cX8_restore 32 = .ok (.ifCond .eq 5, 3) := by decide +kernel
theorem dX8_restore_35 : decode cX8_restore 35 = .ok (.iconst 0, 1) := by decide +kernel
theorem dX8_restore_36 : decode cX8_restore 36 = .ok (.ireturn, 1) := by decide +kernel
theorem dX8_restore_37 : decode cX8_restore 37 = .ok (.aload_n 0, 1) := by decide +kernel
theorem dX8_restore_38 : decode cX8_restore 38 = .ok (.getfield 22, 3) := by decide +kernel
theorem dX8_restore_41 : decode cX8_restore 41 = .ok (.sipush 938, 3) := by decide +kernel
theorem dX8_restore_44 : decode cX8_restore 44 = .ok (.iload_n 1, 1) := by decide +kernel
theorem dX8_restore_45 : decode cX8_restore 45 = .ok (.imul, 1) := by decide +kernel
theorem dX8_restore_46 : decode cX8_restore 46 = .ok (.aload_n 0, 1) := by decide +kernel
theorem dX8_restore_47 : decode cX8_restore 47 = .ok (.getfield 13, 3) := by decide +kernel
theorem dX8_restore_50 : decode cX8_restore 50 = .ok (.iconst 0, 1) := by decide +kernel
theorem dX8_restore_51 : decode cX8_restore 51 = .ok (.invokestatic 221, 3) := by decide +kernel
theorem dX8_restore_54 : decode cX8_restore 54 = .ok (.aload_n 0, 1) := by decide +kernel
theorem dX8_restore_55 : decode cX8_restore 55 = .ok (.iconst 0, 1) := by decide +kernel
theorem dX8_restore_56 : decode cX8_restore 56 = .ok (.putfield 218, 3) := by decide +kernel
theorem dX8_restore_59 : decode cX8_restore 59 = .ok (.aload_n 0, 1) := by decide +kernel
theorem dX8_restore_60 : decode cX8_restore 60 = .ok (.getfield 13, 3) := by decide +kernel
theorem dX8_restore_63 : decode cX8_restore 63 = .ok (.iconst 0, 1) := by decide +kernel
theorem dX8_restore_64 : decode cX8_restore 64 = .ok (.iaload, 1) := by decide +kernel
theorem dX8_restore_65 : decode cX8_restore 65 = .ok (.ireturn, 1) := by decide +kernel
theorem dJ9_abs_0f7a4_0 : decode cJ9_abs_0f7a4 0 = .ok (.iload_n 0, 1) := by decide +kernel
theorem dJ9_abs_0f7a4_1 : decode cJ9_abs_0f7a4 1 = .ok (.ifCond .ge 8, 3) := by decide +kernel
theorem dJ9_abs_0f7a4_4 : decode cJ9_abs_0f7a4 4 = .ok (.iload_n 0, 1) := by decide +kernel
theorem dJ9_abs_0f7a4_5 : decode cJ9_abs_0f7a4 5 = .ok (.ineg, 1) := by decide +kernel
theorem dJ9_abs_0f7a4_6 : decode cJ9_abs_0f7a4 6 = .ok (.goto 4, 3) := by decide +kernel
theorem dJ9_abs_0f7a4_9 : decode cJ9_abs_0f7a4 9 = .ok (.iload_n 0, 1) := by decide +kernel
theorem dJ9_abs_0f7a4_10 : decode cJ9_abs_0f7a4 10 = .ok (.ireturn, 1) := by decide +kernel
theorem dJ9_max_7cf53_0 : decode cJ9_max_7cf53 0 = .ok (.iload_n 0, 1) := by decide +kernel
theorem dJ9_max_7cf53_1 : decode cJ9_max_7cf53 1 = .ok (.iload_n 1, 1) := by decide +kernel
theorem dJ9_max_7cf53_2 : decode cJ9_max_7cf53 2 = .ok (.if_icmp .lt 7, 3) := by decide +kernel
theorem dJ9_max_7cf53_5 : decode cJ9_max_7cf53 5 = .ok (.iload_n 0, 1) := by decide +kernel
theorem dJ9_max_7cf53_6 : decode cJ9_max_7cf53 6 = .ok (.goto 4, 3) := by decide +kernel
theorem dJ9_max_7cf53_9 : decode cJ9_max_7cf53 9 = .ok (.iload_n 1, 1) := by decide +kernel
theorem dJ9_max_7cf53_10 : decode cJ9_max_7cf53 10 = .ok (.ireturn, 1) := by decide +kernel
theorem dJ9_min_7cf53_0 : decode cJ9_min_7cf53 0 = .ok (.iload_n 0, 1) := by decide +kernel
theorem dJ9_min_7cf53_1 : decode cJ9_min_7cf53 1 = .ok (.iload_n 1, 1) := by decide +kernel
theorem dJ9_min_7cf53_2 : decode cJ9_min_7cf53 2 = .ok (.if_icmp .gt 7, 3) := by decide +kernel
theorem dJ9_min_7cf53_5 : decode cJ9_min_7cf53 5 = .ok (.iload_n 0, 1) := by decide +kernel
theorem dJ9_min_7cf53_6 : decode cJ9_min_7cf53 6 = .ok (.goto 4, 3) := by decide +kernel
theorem dJ9_min_7cf53_9 : decode cJ9_min_7cf53 9 = .ok (.iload_n 1, 1) := by decide +kernel
theorem dJ9_min_7cf53_10 : decode cJ9_min_7cf53 10 = .ok (.ireturn, 1) := by decide +kernel
theorem dJ7_fill_53178_0 : decode cJ7_fill_53178 0 = .ok (.iconst 0, 1) := by decide +kernel
theorem dJ7_fill_53178_1 : decode cJ7_fill_53178 1 = .ok (.istore_n 2, 1) := by decide +kernel
theorem dJ7_fill_53178_2 : decode cJ7_fill_53178 2 = .ok (.aload_n 0, 1) := by decide +kernel
theorem dJ7_fill_53178_3 : decode cJ7_fill_53178 3 = .ok (.arraylength, 1) := by decide +kernel
theorem dJ7_fill_53178_4 : decode cJ7_fill_53178 4 = .ok (.istore_n 3, 1) := by decide +kernel
theorem dJ7_fill_53178_5 : decode cJ7_fill_53178 5 = .ok (.iload_n 2, 1) := by decide +kernel
theorem dJ7_fill_53178_6 : decode cJ7_fill_53178 6 = .ok (.iload_n 3, 1) := by decide +kernel
theorem dJ7_fill_53178_7 : decode cJ7_fill_53178 7 = .ok (.if_icmp .ge 13, 3) := by decide +kernel
theorem dJ7_fill_53178_10 : decode cJ7_fill_53178 10 = .ok (.aload_n 0, 1) := by decide +kernel
theorem dJ7_fill_53178_11 : decode cJ7_fill_53178 11 = .ok (.iload_n 2, 1) := by decide +kernel
theorem dJ7_fill_53178_12 : decode cJ7_fill_53178 12 = .ok (.iload_n 1, 1) := by decide +kernel
theorem dJ7_fill_53178_13 : decode cJ7_fill_53178 13 = .ok (.iastore, 1) := by decide +kernel
theorem dJ7_fill_53178_14 : decode cJ7_fill_53178 14 = .ok (.iinc 2 1, 3) := by decide +kernel
theorem dJ7_fill_53178_17 : decode cJ7_fill_53178 17 = .ok (.goto (-12), 3) := by decide +kernel
theorem dJ7_fill_53178_20 : decode cJ7_fill_53178 20 = .ok (.return_, 1) := by decide +kernel
theorem dL_append_0 : decode cL_append 0 = .ok (.aload_n 2, 1) := by decide +kernel
theorem dL_append_1 : decode cL_append 1 = .ok (.iconst 0, 1) := by decide +kernel
theorem dL_append_2 : decode cL_append 2 = .ok (.aload_n 0, 1) := by decide +kernel
theorem dL_append_3 : decode cL_append 3 = .ok (.iload_n 1, 1) := by decide +kernel
theorem dL_append_4 : decode cL_append 4 = .ok (.invokevirtual 7, 3) := by decide +kernel
theorem dL_append_7 : decode cL_append 7 = .ok (.i2l, 1) := by decide +kernel
theorem dL_append_8 : decode cL_append 8 = .ok (.lastore, 1) := by decide +kernel
theorem dL_append_9 : decode cL_append 9 = .ok (.goto 9, 3) := by decide +kernel
theorem dL_append_12 : decode cL_append 12 = .ok (.astore_n 3, 1) := by decide +kernel
theorem dL_append_13 : decode cL_append 13 = .ok (.iconst 1, 1) := by decide +kernel
theorem dL_append_14 : decode cL_append 14 = .ok (.ireturn, 1) := by decide +kernel
theorem dL_append_15 : decode cL_append 15 = .ok (.astore_n 3, 1) := by decide +kernel
theorem dL_append_16 : decode cL_append 16 = .ok (.iconst 2, 1) := by decide +kernel
theorem dL_append_17 : decode cL_append 17 = .ok (.ireturn, 1) := by decide +kernel
theorem dL_append_18 : decode cL_append 18 = .ok (.iconst 0, 1) := by decide +kernel
theorem dL_append_19 : decode cL_append 19 = .ok (.ireturn, 1) := by decide +kernel
theorem dL_about_0 : decode cL_about 0 = .ok (.aload_n 2, 1) := by decide +kernel
theorem dL_about_1 : decode cL_about 1 = .ok (.iconst 0, 1) := by decide +kernel
theorem dL_about_2 : decode cL_about 2 = .ok (.aload_n 0, 1) := by decide +kernel
theorem dL_about_3 : decode cL_about 3 = .ok (.iload_n 1, 1) := by decide +kernel
theorem dL_about_4 : decode cL_about 4 = .ok (.invokevirtual 17, 3) := by decide +kernel
theorem dL_about_7 : decode cL_about 7 = .ok (.i2l, 1) := by decide +kernel
theorem dL_about_8 : decode cL_about 8 = .ok (.lastore, 1) := by decide +kernel
theorem dL_about_9 : decode cL_about 9 = .ok (.goto 6, 3) := by decide +kernel
theorem dL_about_12 : decode cL_about 12 = .ok (.astore_n 3, 1) := by decide +kernel
theorem dL_about_13 : decode cL_about 13 = .ok (.iconst 1, 1) := by decide +kernel
theorem dL_about_14 : decode cL_about 14 = .ok (.ireturn, 1) := by decide +kernel
theorem dL_about_15 : decode cL_about 15 = .ok (.iconst 0, 1) := by decide +kernel
theorem dL_about_16 : decode cL_about 16 = .ok (.ireturn, 1) := by decide +kernel
theorem dL_skater_0 : decode cL_skater 0 = .ok (.aload_n 3, 1) := by decide +kernel
theorem dL_skater_1 : decode cL_skater 1 = .ok (.iconst 0, 1) := by decide +kernel
theorem dL_skater_2 : decode cL_skater 2 = .ok (.aload_n 0, 1) := by decide +kernel
theorem dL_skater_3 : decode cL_skater 3 = .ok (.iload_n 1, 1) := by decide +kernel
theorem dL_skater_4 : decode cL_skater 4 = .ok (.iload_n 2, 1) := by decide +kernel
theorem dL_skater_5 : decode cL_skater 5 = .ok (.invokevirtual 20, 3) := by decide +kernel
theorem dL_skater_8 : decode cL_skater 8 = .ok (.i2l, 1) := by decide +kernel
theorem dL_skater_9 : decode cL_skater 9 = .ok (.lastore, 1) := by decide +kernel
theorem dL_skater_10 : decode cL_skater 10 = .ok (.goto 11, 3) := by decide +kernel
theorem dL_skater_13 : decode cL_skater 13 = .ok (.astore 4, 2) := by decide +kernel
theorem dL_skater_15 : decode cL_skater 15 = .ok (.iconst 1, 1) := by decide +kernel
theorem dL_skater_16 : decode cL_skater 16 = .ok (.ireturn, 1) := by decide +kernel
theorem dL_skater_17 : decode cL_skater 17 = .ok (.astore 4, 2) := by decide +kernel
theorem dL_skater_19 : decode cL_skater 19 = .ok (.iconst 2, 1) := by decide +kernel
theorem dL_skater_20 : decode cL_skater 20 = .ok (.ireturn, 1) := by decide +kernel
theorem dL_skater_21 : decode cL_skater 21 = .ok (.iconst 0, 1) := by decide +kernel
theorem dL_skater_22 : decode cL_skater 22 = .ok (.ireturn, 1) := by decide +kernel
theorem dL_element_0 : decode cL_element 0 = .ok (.aload 4, 2) := by decide +kernel
theorem dL_element_2 : decode cL_element 2 = .ok (.iconst 0, 1) := by decide +kernel
theorem dL_element_3 : decode cL_element 3 = .ok (.aload_n 0, 1) := by decide +kernel
theorem dL_element_4 : decode cL_element 4 = .ok (.iload_n 1, 1) := by decide +kernel
theorem dL_element_5 : decode cL_element 5 = .ok (.iload_n 2, 1) := by decide +kernel
theorem dL_element_6 : decode cL_element 6 = .ok (.iload_n 3, 1) := by decide +kernel
theorem dL_element_7 : decode cL_element 7 = .ok (.invokevirtual 26, 3) := by decide +kernel
theorem dL_element_10 : decode cL_element 10 = .ok (.i2l, 1) := by decide +kernel
theorem dL_element_11 : decode cL_element 11 = .ok (.lastore, 1) := by decide +kernel
theorem dL_element_12 : decode cL_element 12 = .ok (.goto 11, 3) := by decide +kernel
theorem dL_element_15 : decode cL_element 15 = .ok (.astore 5, 2) := by decide +kernel
theorem dL_element_17 : decode cL_element 17 = .ok (.iconst 1, 1) := by decide +kernel
theorem dL_element_18 : decode cL_element 18 = .ok (.ireturn, 1) := by decide +kernel
theorem dL_element_19 : decode cL_element 19 = .ok (.astore 5, 2) := by decide +kernel
theorem dL_element_21 : decode cL_element 21 = .ok (.iconst 2, 1) := by decide +kernel
theorem dL_element_22 : decode cL_element 22 = .ok (.ireturn, 1) := by decide +kernel
theorem dL_element_23 : decode cL_element 23 = .ok (.iconst 0, 1) := by decide +kernel
theorem dL_element_24 : decode cL_element 24 = .ok (.ireturn, 1) := by decide +kernel
theorem dL_part_0 : decode cL_part 0 = .ok (.aload 5, 2) := by decide +kernel
theorem dL_part_2 : decode cL_part 2 = .ok (.iconst 0, 1) := by decide +kernel
theorem dL_part_3 : decode cL_part 3 = .ok (.aload_n 0, 1) := by decide +kernel
theorem dL_part_4 : decode cL_part 4 = .ok (.iload_n 1, 1) := by decide +kernel
theorem dL_part_5 : decode cL_part 5 = .ok (.iload_n 2, 1) := by decide +kernel
theorem dL_part_6 : decode cL_part 6 = .ok (.iload_n 3, 1) := by decide +kernel
theorem dL_part_7 : decode cL_part 7 = .ok (.iload 4, 2) := by decide +kernel
theorem dL_part_9 : decode cL_part 9 = .ok (.invokevirtual 30, 3) := by decide +kernel
theorem dL_part_12 : decode cL_part 12 = .ok (.i2l, 1) := by decide +kernel
theorem dL_part_13 : decode cL_part 13 = .ok (.lastore, 1) := by decide +kernel
theorem dL_part_14 : decode cL_part 14 = .ok (.goto 11, 3) := by decide +kernel
theorem dL_part_17 : decode cL_part 17 = .ok (.astore 6, 2) := by decide +kernel
theorem dL_part_19 : decode cL_part 19 = .ok (.iconst 1, 1) := by decide +kernel
theorem dL_part_20 : decode cL_part 20 = .ok (.ireturn, 1) := by decide +kernel
theorem dL_part_21 : decode cL_part 21 = .ok (.astore 6, 2) := by decide +kernel
theorem dL_part_23 : decode cL_part 23 = .ok (.iconst 2, 1) := by decide +kernel
theorem dL_part_24 : decode cL_part 24 = .ok (.ireturn, 1) := by decide +kernel
theorem dL_part_25 : decode cL_part 25 = .ok (.iconst 0, 1) := by decide +kernel
theorem dL_part_26 : decode cL_part 26 = .ok (.ireturn, 1) := by decide +kernel
theorem dL_setting_0 : decode cL_setting 0 = .ok (.aload_n 2, 1) := by decide +kernel
theorem dL_setting_1 : decode cL_setting 1 = .ok (.iconst 0, 1) := by decide +kernel
theorem dL_setting_2 : decode cL_setting 2 = .ok (.aload_n 0, 1) := by decide +kernel
theorem dL_setting_3 : decode cL_setting 3 = .ok (.iload_n 1, 1) := by decide +kernel
theorem dL_setting_4 : decode cL_setting 4 = .ok (.invokevirtual 34, 3) := by decide +kernel
theorem dL_setting_7 : decode cL_setting 7 = .ok (.i2l, 1) := by decide +kernel
theorem dL_setting_8 : decode cL_setting 8 = .ok (.lastore, 1) := by decide +kernel
theorem dL_setting_9 : decode cL_setting 9 = .ok (.goto 6, 3) := by decide +kernel
theorem dL_setting_12 : decode cL_setting 12 = .ok (.astore_n 3, 1) := by decide +kernel
theorem dL_setting_13 : decode cL_setting 13 = .ok (.iconst 1, 1) := by decide +kernel
theorem dL_setting_14 : decode cL_setting 14 = .ok (.ireturn, 1) := by decide +kernel
theorem dL_setting_15 : decode cL_setting 15 = .ok (.iconst 0, 1) := by decide +kernel
theorem dL_setting_16 : decode cL_setting 16 = .ok (.ireturn, 1) := by decide +kernel
theorem dL_add_0 : decode cL_add 0 = .ok (.aload_n 1, 1) := by decide +kernel
theorem dL_add_1 : decode cL_add 1 = .ok (.iconst 0, 1) := by decide +kernel
theorem dL_add_2 : decode cL_add 2 = .ok (.aload_n 0, 1) := by decide +kernel
theorem dL_add_3 : decode cL_add 3 = .ok (.invokevirtual 37, 3) := by decide +kernel
theorem dL_add_6 : decode cL_add 6 = .ok (.i2l, 1) := by decide +kernel
theorem dL_add_7 : decode cL_add 7 = .ok (.lastore, 1) := by decide +kernel
theorem dL_add_8 : decode cL_add 8 = .ok (.goto 6, 3) := by decide +kernel
theorem dL_add_11 : decode cL_add 11 = .ok (.astore_n 2, 1) := by decide +kernel
theorem dL_add_12 : decode cL_add 12 = .ok (.iconst 1, 1) := by decide +kernel
theorem dL_add_13 : decode cL_add 13 = .ok (.ireturn, 1) := by decide +kernel
theorem dL_add_14 : decode cL_add 14 = .ok (.iconst 0, 1) := by decide +kernel
theorem dL_add_15 : decode cL_add 15 = .ok (.ireturn, 1) := by decide +kernel
theorem dL_program_0 : decode cL_program 0 = .ok (.aload_n 2, 1) := by decide +kernel
theorem dL_program_1 : decode cL_program 1 = .ok (.iconst 0, 1) := by decide +kernel
theorem dL_program_2 : decode cL_program 2 = .ok (.aload_n 0, 1) := by decide +kernel
theorem dL_program_3 : decode cL_program 3 = .ok (.iload_n 1, 1) := by decide +kernel
theorem dL_program_4 : decode cL_program 4 = .ok (.invokevirtual 41, 3) := by decide +kernel
theorem dL_program_7 : decode cL_program 7 = .ok (.i2l, 1) := by decide +kernel
theorem dL_program_8 : decode cL_program 8 = .ok (.lastore, 1) := by decide +kernel
theorem dL_program_9 : decode cL_program 9 = .ok (.goto 9, 3) := by decide +kernel
theorem dL_program_12 : decode cL_program 12 = .ok (.astore_n 3, 1) := by decide +kernel
theorem dL_program_13 : decode cL_program 13 = .ok (.iconst 1, 1) := by decide +kernel
theorem dL_program_14 : decode cL_program 14 = .ok (.ireturn, 1) := by decide +kernel
theorem dL_program_15 : decode cL_program 15 = .ok (.astore_n 3, 1) := by decide +kernel
theorem dL_program_16 : decode cL_program 16 = .ok (.iconst 2, 1) := by decide +kernel
theorem dL_program_17 : decode cL_program 17 = .ok (.ireturn, 1) := by decide +kernel
theorem dL_program_18 : decode cL_program 18 = .ok (.iconst 0, 1) := by decide +kernel
theorem dL_program_19 : decode cL_program 19 = .ok (.ireturn, 1) := by decide +kernel
theorem dL_mark_0 : decode cL_mark 0 = .ok (.aload 4, 2) := by decide +kernel
theorem dL_mark_2 : decode cL_mark 2 = .ok (.iconst 0, 1) := by decide +kernel
theorem dL_mark_3 : decode cL_mark 3 = .ok (.aload_n 0, 1) := by decide +kernel
theorem dL_mark_4 : decode cL_mark 4 = .ok (.iload_n 1, 1) := by decide +kernel
theorem dL_mark_5 : decode cL_mark 5 = .ok (.iload_n 2, 1) := by decide +kernel
theorem dL_mark_6 : decode cL_mark 6 = .ok (.iload_n 3, 1) := by decide +kernel
theorem dL_mark_7 : decode cL_mark 7 = .ok (.invokevirtual 44, 3) := by decide +kernel
theorem dL_mark_10 : decode cL_mark 10 = .ok (.i2l, 1) := by decide +kernel
theorem dL_mark_11 : decode cL_mark 11 = .ok (.lastore, 1) := by decide +kernel
theorem dL_mark_12 : decode cL_mark 12 = .ok (.goto 11, 3) := by decide +kernel
theorem dL_mark_15 : decode cL_mark 15 = .ok (.astore 5, 2) := by decide +kernel
theorem dL_mark_17 : decode cL_mark 17 = .ok (.iconst 1, 1) := by decide +kernel
theorem dL_mark_18 : decode cL_mark 18 = .ok (.ireturn, 1) := by decide +kernel
theorem dL_mark_19 : decode cL_mark 19 = .ok (.astore 5, 2) := by decide +kernel
theorem dL_mark_21 : decode cL_mark 21 = .ok (.iconst 2, 1) := by decide +kernel
theorem dL_mark_22 : decode cL_mark 22 = .ok (.ireturn, 1) := by decide +kernel
theorem dL_mark_23 : decode cL_mark 23 = .ok (.iconst 0, 1) := by decide +kernel
theorem dL_mark_24 : decode cL_mark 24 = .ok (.ireturn, 1) := by decide +kernel
theorem dL_component_0 : decode cL_component 0 = .ok (.aload 4, 2) := by decide +kernel
theorem dL_component_2 : decode cL_component 2 = .ok (.iconst 0, 1) := by decide +kernel
theorem dL_component_3 : decode cL_component 3 = .ok (.aload_n 0, 1) := by decide +kernel
theorem dL_component_4 : decode cL_component 4 = .ok (.iload_n 1, 1) := by decide +kernel
theorem dL_component_5 : decode cL_component 5 = .ok (.iload_n 2, 1) := by decide +kernel
theorem dL_component_6 : decode cL_component 6 = .ok (.iload_n 3, 1) := by decide +kernel
theorem dL_component_7 : decode cL_component 7 = .ok (.invokevirtual 47, 3) := by decide +kernel
theorem dL_component_10 : decode cL_component 10 = .ok (.i2l, 1) := by decide +kernel
theorem dL_component_11 : decode cL_component 11 = .ok (.lastore, 1) := by decide +kernel
theorem dL_component_12 : decode cL_component 12 = .ok (.goto 11, 3) := by decide +kernel
theorem dL_component_15 : decode cL_component 15 = .ok (.astore 5, 2) := by decide +kernel
theorem dL_component_17 : decode cL_component 17 = .ok (.iconst 1, 1) := by decide +kernel
theorem dL_component_18 : decode cL_component 18 = .ok (.ireturn, 1) := by decide +kernel
theorem dL_component_19 : decode cL_component 19 = .ok (.astore 5, 2) := by decide +kernel
theorem dL_component_21 : decode cL_component 21 = .ok (.iconst 2, 1) := by decide +kernel
theorem dL_component_22 : decode cL_component 22 = .ok (.ireturn, 1) := by decide +kernel
theorem dL_component_23 : decode cL_component 23 = .ok (.iconst 0, 1) := by decide +kernel
theorem dL_component_24 : decode cL_component 24 = .ok (.ireturn, 1) := by decide +kernel
theorem dL_call_0 : decode cL_call 0 = .ok (.aload 5, 2) := by decide +kernel
theorem dL_call_2 : decode cL_call 2 = .ok (.iconst 0, 1) := by decide +kernel
theorem dL_call_3 : decode cL_call 3 = .ok (.aload_n 0, 1) := by decide +kernel
theorem dL_call_4 : decode cL_call 4 = .ok (.iload_n 1, 1) := by decide +kernel
theorem dL_call_5 : decode cL_call 5 = .ok (.iload_n 2, 1) := by decide +kernel
theorem dL_call_6 : decode cL_call 6 = .ok (.iload_n 3, 1) := by decide +kernel
theorem dL_call_7 : decode cL_call 7 = .ok (.iload 4, 2) := by decide +kernel
theorem dL_call_9 : decode cL_call 9 = .ok (.invokevirtual 50, 3) := by decide +kernel
theorem dL_call_12 : decode cL_call 12 = .ok (.i2l, 1) := by decide +kernel
theorem dL_call_13 : decode cL_call 13 = .ok (.lastore, 1) := by decide +kernel
theorem dL_call_14 : decode cL_call 14 = .ok (.goto 15, 3) := by decide +kernel
theorem dL_call_17 : decode cL_call 17 = .ok (.astore 6, 2) := by decide +kernel
theorem dL_call_19 : decode cL_call 19 = .ok (.iconst 1, 1) := by decide +kernel
theorem dL_call_20 : decode cL_call 20 = .ok (.ireturn, 1) := by decide +kernel
theorem dL_call_21 : decode cL_call 21 = .ok (.astore 6, 2) := by decide +kernel
theorem dL_call_23 : decode cL_call 23 = .ok (.iconst 2, 1) := by decide +kernel
theorem dL_call_24 : decode cL_call 24 = .ok (.ireturn, 1) := by decide +kernel
theorem dL_call_25 : decode cL_call 25 = .ok (.astore 6, 2) := by decide +kernel
theorem dL_call_27 : decode cL_call 27 = .ok (.iconst 3, 1) := by decide +kernel
theorem dL_call_28 : decode cL_call 28 = .ok (.ireturn, 1) := by decide +kernel
theorem dL_call_29 : decode cL_call 29 = .ok (.iconst 0, 1) := by decide +kernel
theorem dL_call_30 : decode cL_call 30 = .ok (.ireturn, 1) := by decide +kernel
theorem dL_review_0 : decode cL_review 0 = .ok (.aload 4, 2) := by decide +kernel
theorem dL_review_2 : decode cL_review 2 = .ok (.iconst 0, 1) := by decide +kernel
theorem dL_review_3 : decode cL_review 3 = .ok (.aload_n 0, 1) := by decide +kernel
theorem dL_review_4 : decode cL_review 4 = .ok (.iload_n 1, 1) := by decide +kernel
theorem dL_review_5 : decode cL_review 5 = .ok (.iload_n 2, 1) := by decide +kernel
theorem dL_review_6 : decode cL_review 6 = .ok (.iload_n 3, 1) := by decide +kernel
theorem dL_review_7 : decode cL_review 7 = .ok (.invokevirtual 53, 3) := by decide +kernel
theorem dL_review_10 : decode cL_review 10 = .ok (.i2l, 1) := by decide +kernel
theorem dL_review_11 : decode cL_review 11 = .ok (.lastore, 1) := by decide +kernel
theorem dL_review_12 : decode cL_review 12 = .ok (.goto 7, 3) := by decide +kernel
theorem dL_review_15 : decode cL_review 15 = .ok (.astore 5, 2) := by decide +kernel
theorem dL_review_17 : decode cL_review 17 = .ok (.iconst 1, 1) := by decide +kernel
theorem dL_review_18 : decode cL_review 18 = .ok (.ireturn, 1) := by decide +kernel
theorem dL_review_19 : decode cL_review 19 = .ok (.iconst 0, 1) := by decide +kernel
theorem dL_review_20 : decode cL_review 20 = .ok (.ireturn, 1) := by decide +kernel
theorem dL_fall_0 : decode cL_fall 0 = .ok (.aload 4, 2) := by decide +kernel
theorem dL_fall_2 : decode cL_fall 2 = .ok (.iconst 0, 1) := by decide +kernel
theorem dL_fall_3 : decode cL_fall 3 = .ok (.aload_n 0, 1) := by decide +kernel
theorem dL_fall_4 : decode cL_fall 4 = .ok (.iload_n 1, 1) := by decide +kernel
theorem dL_fall_5 : decode cL_fall 5 = .ok (.iload_n 2, 1) := by decide +kernel
theorem dL_fall_6 : decode cL_fall 6 = .ok (.iload_n 3, 1) := by decide +kernel
theorem dL_fall_7 : decode cL_fall 7 = .ok (.invokevirtual 57, 3) := by decide +kernel
theorem dL_fall_10 : decode cL_fall 10 = .ok (.i2l, 1) := by decide +kernel
theorem dL_fall_11 : decode cL_fall 11 = .ok (.lastore, 1) := by decide +kernel
theorem dL_fall_12 : decode cL_fall 12 = .ok (.goto 7, 3) := by decide +kernel
theorem dL_fall_15 : decode cL_fall 15 = .ok (.astore 5, 2) := by decide +kernel
theorem dL_fall_17 : decode cL_fall 17 = .ok (.iconst 1, 1) := by decide +kernel
theorem dL_fall_18 : decode cL_fall 18 = .ok (.ireturn, 1) := by decide +kernel
theorem dL_fall_19 : decode cL_fall 19 = .ok (.iconst 0, 1) := by decide +kernel
theorem dL_fall_20 : decode cL_fall 20 = .ok (.ireturn, 1) := by decide +kernel
theorem dL_penalty_0 : decode cL_penalty 0 = .ok (.aload_n 3, 1) := by decide +kernel
theorem dL_penalty_1 : decode cL_penalty 1 = .ok (.iconst 0, 1) := by decide +kernel
theorem dL_penalty_2 : decode cL_penalty 2 = .ok (.aload_n 0, 1) := by decide +kernel
theorem dL_penalty_3 : decode cL_penalty 3 = .ok (.iload_n 1, 1) := by decide +kernel
theorem dL_penalty_4 : decode cL_penalty 4 = .ok (.iload_n 2, 1) := by decide +kernel
theorem dL_penalty_5 : decode cL_penalty 5 = .ok (.invokevirtual 60, 3) := by decide +kernel
theorem dL_penalty_8 : decode cL_penalty 8 = .ok (.i2l, 1) := by decide +kernel
theorem dL_penalty_9 : decode cL_penalty 9 = .ok (.lastore, 1) := by decide +kernel
theorem dL_penalty_10 : decode cL_penalty 10 = .ok (.goto 11, 3) := by decide +kernel
theorem dL_penalty_13 : decode cL_penalty 13 = .ok (.astore 4, 2) := by decide +kernel
theorem dL_penalty_15 : decode cL_penalty 15 = .ok (.iconst 1, 1) := by decide +kernel
theorem dL_penalty_16 : decode cL_penalty 16 = .ok (.ireturn, 1) := by decide +kernel
theorem dL_penalty_17 : decode cL_penalty 17 = .ok (.astore 4, 2) := by decide +kernel
theorem dL_penalty_19 : decode cL_penalty 19 = .ok (.iconst 2, 1) := by decide +kernel
theorem dL_penalty_20 : decode cL_penalty 20 = .ok (.ireturn, 1) := by decide +kernel
theorem dL_penalty_21 : decode cL_penalty 21 = .ok (.iconst 0, 1) := by decide +kernel
theorem dL_penalty_22 : decode cL_penalty 22 = .ok (.ireturn, 1) := by decide +kernel
theorem dL_set_0 : decode cL_set 0 = .ok (.aload_n 3, 1) := by decide +kernel
theorem dL_set_1 : decode cL_set 1 = .ok (.iconst 0, 1) := by decide +kernel
theorem dL_set_2 : decode cL_set 2 = .ok (.aload_n 0, 1) := by decide +kernel
theorem dL_set_3 : decode cL_set 3 = .ok (.iload_n 1, 1) := by decide +kernel
theorem dL_set_4 : decode cL_set 4 = .ok (.iload_n 2, 1) := by decide +kernel
theorem dL_set_5 : decode cL_set 5 = .ok (.invokevirtual 63, 3) := by decide +kernel
theorem dL_set_8 : decode cL_set 8 = .ok (.i2l, 1) := by decide +kernel
theorem dL_set_9 : decode cL_set 9 = .ok (.lastore, 1) := by decide +kernel
theorem dL_set_10 : decode cL_set 10 = .ok (.goto 7, 3) := by decide +kernel
theorem dL_set_13 : decode cL_set 13 = .ok (.astore 4, 2) := by decide +kernel
theorem dL_set_15 : decode cL_set 15 = .ok (.iconst 1, 1) := by decide +kernel
theorem dL_set_16 : decode cL_set 16 = .ok (.ireturn, 1) := by decide +kernel
theorem dL_set_17 : decode cL_set 17 = .ok (.iconst 0, 1) := by decide +kernel
theorem dL_set_18 : decode cL_set 18 = .ok (.ireturn, 1) := by decide +kernel
theorem dL_undo_0 : decode cL_undo 0 = .ok (.aload_n 1, 1) := by decide +kernel
theorem dL_undo_1 : decode cL_undo 1 = .ok (.iconst 0, 1) := by decide +kernel
theorem dL_undo_2 : decode cL_undo 2 = .ok (.aload_n 0, 1) := by decide +kernel
theorem dL_undo_3 : decode cL_undo 3 = .ok (.invokevirtual 66, 3) := by decide +kernel
theorem dL_undo_6 : decode cL_undo 6 = .ok (.i2l, 1) := by decide +kernel
theorem dL_undo_7 : decode cL_undo 7 = .ok (.lastore, 1) := by decide +kernel
theorem dL_undo_8 : decode cL_undo 8 = .ok (.goto 6, 3) := by decide +kernel
theorem dL_undo_11 : decode cL_undo 11 = .ok (.astore_n 2, 1) := by decide +kernel
theorem dL_undo_12 : decode cL_undo 12 = .ok (.iconst 1, 1) := by decide +kernel
theorem dL_undo_13 : decode cL_undo 13 = .ok (.ireturn, 1) := by decide +kernel
theorem dL_undo_14 : decode cL_undo 14 = .ok (.iconst 0, 1) := by decide +kernel
theorem dL_undo_15 : decode cL_undo 15 = .ok (.ireturn, 1) := by decide +kernel
theorem dL_ifCalled_0 : decode cL_ifCalled 0 = .ok (.aload 5, 2) := by decide +kernel
theorem dL_ifCalled_2 : decode cL_ifCalled 2 = .ok (.iconst 0, 1) := by decide +kernel
theorem dL_ifCalled_3 : decode cL_ifCalled 3 = .ok (.aload_n 0, 1) := by decide +kernel
theorem dL_ifCalled_4 : decode cL_ifCalled 4 = .ok (.iload_n 1, 1) := by decide +kernel
theorem dL_ifCalled_5 : decode cL_ifCalled 5 = .ok (.iload_n 2, 1) := by decide +kernel
theorem dL_ifCalled_6 : decode cL_ifCalled 6 = .ok (.iload_n 3, 1) := by decide +kernel
theorem dL_ifCalled_7 : decode cL_ifCalled 7 = .ok (.iload 4, 2) := by decide +kernel
theorem dL_ifCalled_9 : decode cL_ifCalled 9 = .ok (.invokevirtual 69, 3) := by decide +kernel
theorem dL_ifCalled_12 : decode cL_ifCalled 12 = .ok (.i2l, 1) := by decide +kernel
theorem dL_ifCalled_13 : decode cL_ifCalled 13 = .ok (.lastore, 1) := by decide +kernel
theorem dL_ifCalled_14 : decode cL_ifCalled 14 = .ok (.goto 15, 3) := by decide +kernel
theorem dL_ifCalled_17 : decode cL_ifCalled 17 = .ok (.astore 6, 2) := by decide +kernel
theorem dL_ifCalled_19 : decode cL_ifCalled 19 = .ok (.iconst 1, 1) := by decide +kernel
theorem dL_ifCalled_20 : decode cL_ifCalled 20 = .ok (.ireturn, 1) := by decide +kernel
theorem dL_ifCalled_21 : decode cL_ifCalled 21 = .ok (.astore 6, 2) := by decide +kernel
theorem dL_ifCalled_23 : decode cL_ifCalled 23 = .ok (.iconst 2, 1) := by decide +kernel
theorem dL_ifCalled_24 : decode cL_ifCalled 24 = .ok (.ireturn, 1) := by decide +kernel
theorem dL_ifCalled_25 : decode cL_ifCalled 25 = .ok (.astore 6, 2) := by decide +kernel
theorem dL_ifCalled_27 : decode cL_ifCalled 27 = .ok (.iconst 3, 1) := by decide +kernel
theorem dL_ifCalled_28 : decode cL_ifCalled 28 = .ok (.ireturn, 1) := by decide +kernel
theorem dL_ifCalled_29 : decode cL_ifCalled 29 = .ok (.iconst 0, 1) := by decide +kernel
theorem dL_ifCalled_30 : decode cL_ifCalled 30 = .ok (.ireturn, 1) := by decide +kernel
theorem dL_ifReplaced_0 : decode cL_ifReplaced 0 = .ok (.aload_n 3, 1) := by decide +kernel
theorem dL_ifReplaced_1 : decode cL_ifReplaced 1 = .ok (.iconst 0, 1) := by decide +kernel
theorem dL_ifReplaced_2 : decode cL_ifReplaced 2 = .ok (.aload_n 0, 1) := by decide +kernel
theorem dL_ifReplaced_3 : decode cL_ifReplaced 3 = .ok (.iload_n 1, 1) := by decide +kernel
theorem dL_ifReplaced_4 : decode cL_ifReplaced 4 = .ok (.iload_n 2, 1) := by decide +kernel
theorem dL_ifReplaced_5 : decode cL_ifReplaced 5 = .ok (.invokevirtual 72, 3) := by decide +kernel
theorem dL_ifReplaced_8 : decode cL_ifReplaced 8 = .ok (.i2l, 1) := by decide +kernel
theorem dL_ifReplaced_9 : decode cL_ifReplaced 9 = .ok (.lastore, 1) := by decide +kernel
theorem dL_ifReplaced_10 : decode cL_ifReplaced 10 = .ok (.goto 11, 3) := by decide +kernel
theorem dL_ifReplaced_13 : decode cL_ifReplaced 13 = .ok (.astore 4, 2) := by decide +kernel
theorem dL_ifReplaced_15 : decode cL_ifReplaced 15 = .ok (.iconst 1, 1) := by decide +kernel
theorem dL_ifReplaced_16 : decode cL_ifReplaced 16 = .ok (.ireturn, 1) := by decide +kernel
theorem dL_ifReplaced_17 : decode cL_ifReplaced 17 = .ok (.astore 4, 2) := by decide +kernel
theorem dL_ifReplaced_19 : decode cL_ifReplaced 19 = .ok (.iconst 2, 1) := by decide +kernel
theorem dL_ifReplaced_20 : decode cL_ifReplaced 20 = .ok (.ireturn, 1) := by decide +kernel
theorem dL_ifReplaced_21 : decode cL_ifReplaced 21 = .ok (.iconst 0, 1) := by decide +kernel
theorem dL_ifReplaced_22 : decode cL_ifReplaced 22 = .ok (.ireturn, 1) := by decide +kernel
theorem dL_bestSwap_0 : decode cL_bestSwap 0 = .ok (.aload_n 3, 1) := by decide +kernel
theorem dL_bestSwap_1 : decode cL_bestSwap 1 = .ok (.iconst 0, 1) := by decide +kernel
theorem dL_bestSwap_2 : decode cL_bestSwap 2 = .ok (.aload_n 0, 1) := by decide +kernel
theorem dL_bestSwap_3 : decode cL_bestSwap 3 = .ok (.iload_n 1, 1) := by decide +kernel
theorem dL_bestSwap_4 : decode cL_bestSwap 4 = .ok (.iload_n 2, 1) := by decide +kernel
theorem dL_bestSwap_5 : decode cL_bestSwap 5 = .ok (.invokevirtual 75, 3) := by decide +kernel
theorem dL_bestSwap_8 : decode cL_bestSwap 8 = .ok (.i2l, 1) := by decide +kernel
theorem dL_bestSwap_9 : decode cL_bestSwap 9 = .ok (.lastore, 1) := by decide +kernel
theorem dL_bestSwap_10 : decode cL_bestSwap 10 = .ok (.goto 11, 3) := by decide +kernel
theorem dL_bestSwap_13 : decode cL_bestSwap 13 = .ok (.astore 4, 2) := by decide +kernel
theorem dL_bestSwap_15 : decode cL_bestSwap 15 = .ok (.iconst 1, 1) := by decide +kernel
theorem dL_bestSwap_16 : decode cL_bestSwap 16 = .ok (.ireturn, 1) := by decide +kernel
theorem dL_bestSwap_17 : decode cL_bestSwap 17 = .ok (.astore 4, 2) := by decide +kernel
theorem dL_bestSwap_19 : decode cL_bestSwap 19 = .ok (.iconst 2, 1) := by decide +kernel
theorem dL_bestSwap_20 : decode cL_bestSwap 20 = .ok (.ireturn, 1) := by decide +kernel
theorem dL_bestSwap_21 : decode cL_bestSwap 21 = .ok (.iconst 0, 1) := by decide +kernel
theorem dL_bestSwap_22 : decode cL_bestSwap 22 = .ok (.ireturn, 1) := by decide +kernel
theorem dL_needs_0 : decode cL_needs 0 = .ok (.aload_n 3, 1) := by decide +kernel
theorem dL_needs_1 : decode cL_needs 1 = .ok (.iconst 0, 1) := by decide +kernel
theorem dL_needs_2 : decode cL_needs 2 = .ok (.aload_n 0, 1) := by decide +kernel
theorem dL_needs_3 : decode cL_needs 3 = .ok (.iload_n 1, 1) := by decide +kernel
theorem dL_needs_4 : decode cL_needs 4 = .ok (.iload_n 2, 1) := by decide +kernel
theorem dL_needs_5 : decode cL_needs 5 = .ok (.invokevirtual 78, 3) := by decide +kernel
theorem dL_needs_8 : decode cL_needs 8 = .ok (.i2l, 1) := by decide +kernel
theorem dL_needs_9 : decode cL_needs 9 = .ok (.lastore, 1) := by decide +kernel
theorem dL_needs_10 : decode cL_needs 10 = .ok (.goto 7, 3) := by decide +kernel
theorem dL_needs_13 : decode cL_needs 13 = .ok (.astore 4, 2) := by decide +kernel
theorem dL_needs_15 : decode cL_needs 15 = .ok (.iconst 1, 1) := by decide +kernel
theorem dL_needs_16 : decode cL_needs 16 = .ok (.ireturn, 1) := by decide +kernel
theorem dL_needs_17 : decode cL_needs 17 = .ok (.iconst 0, 1) := by decide +kernel
theorem dL_needs_18 : decode cL_needs 18 = .ok (.ireturn, 1) := by decide +kernel
theorem dL_behind_0 : decode cL_behind 0 = .ok (.aload_n 2, 1) := by decide +kernel
theorem dL_behind_1 : decode cL_behind 1 = .ok (.iconst 0, 1) := by decide +kernel
theorem dL_behind_2 : decode cL_behind 2 = .ok (.aload_n 0, 1) := by decide +kernel
theorem dL_behind_3 : decode cL_behind 3 = .ok (.iload_n 1, 1) := by decide +kernel
theorem dL_behind_4 : decode cL_behind 4 = .ok (.invokevirtual 81, 3) := by decide +kernel
theorem dL_behind_7 : decode cL_behind 7 = .ok (.i2l, 1) := by decide +kernel
theorem dL_behind_8 : decode cL_behind 8 = .ok (.lastore, 1) := by decide +kernel
theorem dL_behind_9 : decode cL_behind 9 = .ok (.goto 6, 3) := by decide +kernel
theorem dL_behind_12 : decode cL_behind 12 = .ok (.astore_n 3, 1) := by decide +kernel
theorem dL_behind_13 : decode cL_behind 13 = .ok (.iconst 1, 1) := by decide +kernel
theorem dL_behind_14 : decode cL_behind 14 = .ok (.ireturn, 1) := by decide +kernel
theorem dL_behind_15 : decode cL_behind 15 = .ok (.iconst 0, 1) := by decide +kernel
theorem dL_behind_16 : decode cL_behind 16 = .ok (.ireturn, 1) := by decide +kernel
theorem dL_runScript_0 : decode cL_runScript 0 = .ok (.aload 4, 2) := by decide +kernel
theorem dL_runScript_2 : decode cL_runScript 2 = .ok (.iconst 0, 1) := by decide +kernel
theorem dL_runScript_3 : decode cL_runScript 3 = .ok (.aload_n 0, 1) := by decide +kernel
theorem dL_runScript_4 : decode cL_runScript 4 = .ok (.iload_n 1, 1) := by decide +kernel
theorem dL_runScript_5 : decode cL_runScript 5 = .ok (.lload_n 2, 1) := by decide +kernel
theorem dL_runScript_6 : decode cL_runScript 6 = .ok (.invokevirtual 84, 3) := by decide +kernel
theorem dL_runScript_9 : decode cL_runScript 9 = .ok (.i2l, 1) := by decide +kernel
theorem dL_runScript_10 : decode cL_runScript 10 = .ok (.lastore, 1) := by decide +kernel
theorem dL_runScript_11 : decode cL_runScript 11 = .ok (.goto 7, 3) := by decide +kernel
theorem dL_runScript_14 : decode cL_runScript 14 = .ok (.astore 5, 2) := by decide +kernel
theorem dL_runScript_16 : decode cL_runScript 16 = .ok (.iconst 1, 1) := by decide +kernel
theorem dL_runScript_17 : decode cL_runScript 17 = .ok (.ireturn, 1) := by decide +kernel
theorem dL_runScript_18 : decode cL_runScript 18 = .ok (.iconst 0, 1) := by decide +kernel
theorem dL_runScript_19 : decode cL_runScript 19 = .ok (.ireturn, 1) := by decide +kernel
theorem dL_simulate_0 : decode cL_simulate 0 = .ok (.aload 4, 2) := by decide +kernel
theorem dL_simulate_2 : decode cL_simulate 2 = .ok (.iconst 0, 1) := by decide +kernel
theorem dL_simulate_3 : decode cL_simulate 3 = .ok (.aload_n 0, 1) := by decide +kernel
theorem dL_simulate_4 : decode cL_simulate 4 = .ok (.lload_n 1, 1) := by decide +kernel
theorem dL_simulate_5 : decode cL_simulate 5 = .ok (.iload_n 3, 1) := by decide +kernel
theorem dL_simulate_6 : decode cL_simulate 6 = .ok (.invokevirtual 88, 3) := by decide +kernel
theorem dL_simulate_9 : decode cL_simulate 9 = .ok (.i2l, 1) := by decide +kernel
theorem dL_simulate_10 : decode cL_simulate 10 = .ok (.lastore, 1) := by decide +kernel
theorem dL_simulate_11 : decode cL_simulate 11 = .ok (.goto 7, 3) := by decide +kernel
theorem dL_simulate_14 : decode cL_simulate 14 = .ok (.astore 5, 2) := by decide +kernel
theorem dL_simulate_16 : decode cL_simulate 16 = .ok (.iconst 1, 1) := by decide +kernel
theorem dL_simulate_17 : decode cL_simulate 17 = .ok (.ireturn, 1) := by decide +kernel
theorem dL_simulate_18 : decode cL_simulate 18 = .ok (.iconst 0, 1) := by decide +kernel
theorem dL_simulate_19 : decode cL_simulate 19 = .ok (.ireturn, 1) := by decide +kernel
theorem dL_save_0 : decode cL_save 0 = .ok (.aload_n 2, 1) := by decide +kernel
theorem dL_save_1 : decode cL_save 1 = .ok (.iconst 0, 1) := by decide +kernel
theorem dL_save_2 : decode cL_save 2 = .ok (.aload_n 0, 1) := by decide +kernel
theorem dL_save_3 : decode cL_save 3 = .ok (.iload_n 1, 1) := by decide +kernel
theorem dL_save_4 : decode cL_save 4 = .ok (.invokevirtual 92, 3) := by decide +kernel
theorem dL_save_7 : decode cL_save 7 = .ok (.i2l, 1) := by decide +kernel
theorem dL_save_8 : decode cL_save 8 = .ok (.lastore, 1) := by decide +kernel
theorem dL_save_9 : decode cL_save 9 = .ok (.goto 6, 3) := by decide +kernel
theorem dL_save_12 : decode cL_save 12 = .ok (.astore_n 3, 1) := by decide +kernel
theorem dL_save_13 : decode cL_save 13 = .ok (.iconst 1, 1) := by decide +kernel
theorem dL_save_14 : decode cL_save 14 = .ok (.ireturn, 1) := by decide +kernel
theorem dL_save_15 : decode cL_save 15 = .ok (.iconst 0, 1) := by decide +kernel
theorem dL_save_16 : decode cL_save 16 = .ok (.ireturn, 1) := by decide +kernel
theorem dL_restore_0 : decode cL_restore 0 = .ok (.aload_n 2, 1) := by decide +kernel
theorem dL_restore_1 : decode cL_restore 1 = .ok (.iconst 0, 1) := by decide +kernel
theorem dL_restore_2 : decode cL_restore 2 = .ok (.aload_n 0, 1) := by decide +kernel
theorem dL_restore_3 : decode cL_restore 3 = .ok (.iload_n 1, 1) := by decide +kernel
theorem dL_restore_4 : decode cL_restore 4 = .ok (.invokevirtual 95, 3) := by decide +kernel
theorem dL_restore_7 : decode cL_restore 7 = .ok (.i2l, 1) := by decide +kernel
theorem dL_restore_8 : decode cL_restore 8 = .ok (.lastore, 1) := by decide +kernel
theorem dL_restore_9 : decode cL_restore 9 = .ok (.goto 9, 3) := by decide +kernel
theorem dL_restore_12 : decode cL_restore 12 = .ok (.astore_n 3, 1) := by decide +kernel
theorem dL_restore_13 : decode cL_restore 13 = .ok (.iconst 1, 1) := by decide +kernel
theorem dL_restore_14 : decode cL_restore 14 = .ok (.ireturn, 1) := by decide +kernel
theorem dL_restore_15 : decode cL_restore 15 = .ok (.astore_n 3, 1) := by decide +kernel
theorem dL_restore_16 : decode cL_restore 16 = .ok (.iconst 2, 1) := by decide +kernel
theorem dL_restore_17 : decode cL_restore 17 = .ok (.ireturn, 1) := by decide +kernel
theorem dL_restore_18 : decode cL_restore 18 = .ok (.iconst 0, 1) := by decide +kernel
theorem dL_restore_19 : decode cL_restore 19 = .ok (.ireturn, 1) := by decide +kernel
theorem dL_law_0 : decode cL_law 0 = .ok (.new 8, 3) := by decide +kernel
theorem dL_law_3 : decode cL_law 3 = .ok (.dup, 1) := by decide +kernel
theorem dL_law_4 : decode cL_law 4 = .ok (.invokespecial 98, 3) := by decide +kernel
theorem dL_law_7 : decode cL_law 7 = .ok (.astore_n 1, 1) := by decide +kernel
theorem dL_law_8 : decode cL_law 8 = .ok (.new 99, 3) := by decide +kernel
theorem dL_law_11 : decode cL_law 11 = .ok (.dup, 1) := by decide +kernel
theorem dL_law_12 : decode cL_law 12 = .ok (.invokespecial 101, 3) := by decide +kernel
theorem dL_law_15 : decode cL_law 15 = .ok (.astore_n 2, 1) := by decide +kernel
theorem dL_law_16 : decode cL_law 16 = .ok (.iconst 1, 1) := by decide +kernel
theorem dL_law_17 : decode cL_law 17 = .ok (.newarray .long, 2) := by decide +kernel
theorem dL_law_19 : decode cL_law 19 = .ok (.astore_n 3, 1) := by decide +kernel
theorem dL_law_20 : decode cL_law 20 = .ok (.iconst 0, 1) := by decide +kernel
theorem dL_law_21 : decode cL_law 21 = .ok (.istore 4, 2) := by decide +kernel
theorem dL_law_23 : decode cL_law 23 = .ok (.iload 4, 2) := by decide +kernel
theorem dL_law_25 : decode cL_law 25 = .ok (.aload_n 0, 1) := by decide +kernel
theorem dL_law_26 : decode cL_law 26 = .ok (.arraylength, 1) := by decide +kernel
theorem dL_law_27 : decode cL_law 27 = .ok (.iconst 5, 1) := by decide +kernel
theorem dL_law_28 : decode cL_law 28 = .ok (.isub, 1) := by decide +kernel
theorem dL_law_29 : decode cL_law 29 = .ok (.if_icmp .gt 1959, 3) := by decide +kernel
theorem dL_law_32 : decode cL_law 32 = .ok (.aload_n 0, 1) := by decide +kernel
theorem dL_law_33 : decode cL_law 33 = .ok (.iload 4, 2) := by decide +kernel
theorem dL_law_35 : decode cL_law 35 = .ok (.iaload, 1) := by decide +kernel
theorem dL_law_36 : decode cL_law 36 = .ok (.bipush 31, 2) := by decide +kernel
theorem dL_law_38 : decode cL_law 38 = .ok (.iand, 1) := by decide +kernel
theorem dL_law_39 : decode cL_law 39 = .ok (.tableswitch 1943 0 26 #[121, 177, 190, 203, 259, 327, 407, 499, 555, 599, 655, 735, 815, 907, 1003, 1099, 1167, 1235, 1279, 1371, 1439, 1507, 1575, 1631, 1731, 1831, 1887], 121) := by decide +kernel
theorem dL_law_160 : decode cL_law 160 = .ok (.aload_n 1, 1) := by decide +kernel
theorem dL_law_161 : decode cL_law 161 = .ok (.aload_n 0, 1) := by decide +kernel
theorem dL_law_162 : decode cL_law 162 = .ok (.iload 4, 2) := by decide +kernel
theorem dL_law_164 : decode cL_law 164 = .ok (.iconst 1, 1) := by decide +kernel
theorem dL_law_165 : decode cL_law 165 = .ok (.iadd, 1) := by decide +kernel
theorem dL_law_166 : decode cL_law 166 = .ok (.iaload, 1) := by decide +kernel
theorem dL_law_167 : decode cL_law 167 = .ok (.aload_n 3, 1) := by decide +kernel
theorem dL_law_168 : decode cL_law 168 = .ok (.invokestatic 102, 3) := by decide +kernel
theorem dL_law_171 : decode cL_law 171 = .ok (.istore 5, 2) := by decide +kernel
theorem dL_law_173 : decode cL_law 173 = .ok (.aload_n 2, 1) := by decide +kernel
theorem dL_law_174 : decode cL_law 174 = .ok (.aload_n 0, 1) := by decide +kernel
theorem dL_law_175 : decode cL_law 175 = .ok (.iload 4, 2) := by decide +kernel
theorem dL_law_177 : decode cL_law 177 = .ok (.iconst 1, 1) := by decide +kernel
theorem dL_law_178 : decode cL_law 178 = .ok (.iadd, 1) := by decide +kernel
theorem dL_law_179 : decode cL_law 179 = .ok (.iaload, 1) := by decide +kernel
theorem dL_law_180 : decode cL_law 180 = .ok (.invokevirtual 107, 3) := by decide +kernel
theorem dL_law_183 : decode cL_law 183 = .ok (.istore 6, 2) := by decide +kernel
theorem dL_law_185 : decode cL_law 185 = .ok (.aload_n 2, 1) := by decide +kernel
theorem dL_law_186 : decode cL_law 186 = .ok (.invokevirtual 108, 3) := by decide +kernel
theorem dL_law_189 : decode cL_law 189 = .ok (.iload 5, 2) := by decide +kernel
theorem dL_law_191 : decode cL_law 191 = .ok (.if_icmp .eq 5, 3) := by decide +kernel
theorem dL_law_194 : decode cL_law 194 = .ok (.iconst 0, 1) := by decide +kernel
theorem dL_law_195 : decode cL_law 195 = .ok (.ireturn, 1) := by decide +kernel
theorem dL_law_196 : decode cL_law 196 = .ok (.iload 5, 2) := by decide +kernel
theorem dL_law_198 : decode cL_law 198 = .ok (.ifCond .ne 15, 3) := by decide +kernel
theorem dL_law_201 : decode cL_law 201 = .ok (.aload_n 3, 1) := by decide +kernel
theorem dL_law_202 : decode cL_law 202 = .ok (.iconst 0, 1) := by decide +kernel
theorem dL_law_203 : decode cL_law 203 = .ok (.laload, 1) := by decide +kernel
theorem dL_law_204 : decode cL_law 204 = .ok (.iload 6, 2) := by decide +kernel
theorem dL_law_206 : decode cL_law 206 = .ok (.i2l, 1) := by decide +kernel
theorem dL_law_207 : decode cL_law 207 = .ok (.lcmp, 1) := by decide +kernel
theorem dL_law_208 : decode cL_law 208 = .ok (.ifCond .eq 5, 3) := by decide +kernel
theorem dL_law_211 : decode cL_law 211 = .ok (.iconst 0, 1) := by decide +kernel
theorem dL_law_212 : decode cL_law 212 = .ok (.ireturn, 1) := by decide +kernel
theorem dL_law_213 : decode cL_law 213 = .ok (.goto 1769, 3) := by decide +kernel
theorem dL_law_216 : decode cL_law 216 = .ok (.aload_n 1, 1) := by decide +kernel
theorem dL_law_217 : decode cL_law 217 = .ok (.invokevirtual 111, 3) := by decide +kernel
theorem dL_law_220 : decode cL_law 220 = .ok (.aload_n 2, 1) := by decide +kernel
theorem dL_law_221 : decode cL_law 221 = .ok (.invokevirtual 114, 3) := by decide +kernel
theorem dL_law_224 : decode cL_law 224 = .ok (.if_icmp .eq 1758, 3) := by decide +kernel
theorem dL_law_227 : decode cL_law 227 = .ok (.iconst 0, 1) := by decide +kernel
theorem dL_law_228 : decode cL_law 228 = .ok (.ireturn, 1) := by decide +kernel
theorem dL_law_229 : decode cL_law 229 = .ok (.aload_n 1, 1) := by decide +kernel
theorem dL_law_230 : decode cL_law 230 = .ok (.invokevirtual 115, 3) := by decide +kernel
theorem dL_law_233 : decode cL_law 233 = .ok (.aload_n 2, 1) := by decide +kernel
theorem dL_law_234 : decode cL_law 234 = .ok (.invokevirtual 118, 3) := by decide +kernel
theorem dL_law_237 : decode cL_law 237 = .ok (.if_icmp .eq 1745, 3) := by decide +kernel
theorem dL_law_240 : decode cL_law 240 = .ok (.iconst 0, 1) := by decide +kernel
theorem dL_law_241 : decode cL_law 241 = .ok (.ireturn, 1) := by decide +kernel
theorem dL_law_242 : decode cL_law 242 = .ok (.aload_n 1, 1) := by decide +kernel
theorem dL_law_243 : decode cL_law 243 = .ok (.aload_n 0, 1) := by decide +kernel
theorem dL_law_244 : decode cL_law 244 = .ok (.iload 4, 2) := by decide +kernel
theorem dL_law_246 : decode cL_law 246 = .ok (.iconst 1, 1) := by decide +kernel
theorem dL_law_247 : decode cL_law 247 = .ok (.iadd, 1) := by decide +kernel
theorem dL_law_248 : decode cL_law 248 = .ok (.iaload, 1) := by decide +kernel
theorem dL_law_249 : decode cL_law 249 = .ok (.aload_n 3, 1) := by decide +kernel
theorem dL_law_250 : decode cL_law 250 = .ok (.invokestatic 119, 3) := by decide +kernel
theorem dL_law_253 : decode cL_law 253 = .ok (.istore 5, 2) := by decide +kernel
theorem dL_law_255 : decode cL_law 255 = .ok (.aload_n 2, 1) := by decide +kernel
theorem dL_law_256 : decode cL_law 256 = .ok (.aload_n 0, 1) := by decide +kernel
theorem dL_law_257 : decode cL_law 257 = .ok (.iload 4, 2) := by decide +kernel
theorem dL_law_259 : decode cL_law 259 = .ok (.iconst 1, 1) := by decide +kernel
theorem dL_law_260 : decode cL_law 260 = .ok (.iadd, 1) := by decide +kernel
theorem dL_law_261 : decode cL_law 261 = .ok (.iaload, 1) := by decide +kernel
theorem dL_law_262 : decode cL_law 262 = .ok (.invokevirtual 121, 3) := by decide +kernel
theorem dL_law_265 : decode cL_law 265 = .ok (.istore 6, 2) := by decide +kernel
theorem dL_law_267 : decode cL_law 267 = .ok (.aload_n 2, 1) := by decide +kernel
theorem dL_law_268 : decode cL_law 268 = .ok (.invokevirtual 108, 3) := by decide +kernel
theorem dL_law_271 : decode cL_law 271 = .ok (.iload 5, 2) := by decide +kernel
theorem dL_law_273 : decode cL_law 273 = .ok (.if_icmp .eq 5, 3) := by decide +kernel
theorem dL_law_276 : decode cL_law 276 = .ok (.iconst 0, 1) := by decide +kernel
theorem dL_law_277 : decode cL_law 277 = .ok (.ireturn, 1) := by decide +kernel
theorem dL_law_278 : decode cL_law 278 = .ok (.iload 5, 2) := by decide +kernel
theorem dL_law_280 : decode cL_law 280 = .ok (.ifCond .ne 15, 3) := by decide +kernel
theorem dL_law_283 : decode cL_law 283 = .ok (.aload_n 3, 1) := by decide +kernel
theorem dL_law_284 : decode cL_law 284 = .ok (.iconst 0, 1) := by decide +kernel
theorem dL_law_285 : decode cL_law 285 = .ok (.laload, 1) := by decide +kernel
theorem dL_law_286 : decode cL_law 286 = .ok (.iload 6, 2) := by decide +kernel
theorem dL_law_288 : decode cL_law 288 = .ok (.i2l, 1) := by decide +kernel
theorem dL_law_289 : decode cL_law 289 = .ok (.lcmp, 1) := by decide +kernel
theorem dL_law_290 : decode cL_law 290 = .ok (.ifCond .eq 5, 3) := by decide +kernel
theorem dL_law_293 : decode cL_law 293 = .ok (.iconst 0, 1) := by decide +kernel
theorem dL_law_294 : decode cL_law 294 = .ok (.ireturn, 1) := by decide +kernel
theorem dL_law_295 : decode cL_law 295 = .ok (.goto 1687, 3) := by decide +kernel
theorem dL_law_298 : decode cL_law 298 = .ok (.aload_n 1, 1) := by decide +kernel
theorem dL_law_299 : decode cL_law 299 = .ok (.aload_n 0, 1) := by decide +kernel
theorem dL_law_300 : decode cL_law 300 = .ok (.iload 4, 2) := by decide +kernel
theorem dL_law_302 : decode cL_law 302 = .ok (.iconst 1, 1) := by decide +kernel
theorem dL_law_303 : decode cL_law 303 = .ok (.iadd, 1) := by decide +kernel
theorem dL_law_304 : decode cL_law 304 = .ok (.iaload, 1) := by decide +kernel
theorem dL_law_305 : decode cL_law 305 = .ok (.aload_n 0, 1) := by decide +kernel
theorem dL_law_306 : decode cL_law 306 = .ok (.iload 4, 2) := by decide +kernel
theorem dL_law_308 : decode cL_law 308 = .ok (.iconst 2, 1) := by decide +kernel
theorem dL_law_309 : decode cL_law 309 = .ok (.iadd, 1) := by decide +kernel
theorem dL_law_310 : decode cL_law 310 = .ok (.iaload, 1) := by decide +kernel
theorem dL_law_311 : decode cL_law 311 = .ok (.aload_n 3, 1) := by decide +kernel
theorem dL_law_312 : decode cL_law 312 = .ok (.invokestatic 122, 3) := by decide +kernel
theorem dL_law_315 : decode cL_law 315 = .ok (.istore 5, 2) := by decide +kernel
theorem dL_law_317 : decode cL_law 317 = .ok (.aload_n 2, 1) := by decide +kernel
theorem dL_law_318 : decode cL_law 318 = .ok (.aload_n 0, 1) := by decide +kernel
theorem dL_law_319 : decode cL_law 319 = .ok (.iload 4, 2) := by decide +kernel
theorem dL_law_321 : decode cL_law 321 = .ok (.iconst 1, 1) := by decide +kernel
theorem dL_law_322 : decode cL_law 322 = .ok (.iadd, 1) := by decide +kernel
theorem dL_law_323 : decode cL_law 323 = .ok (.iaload, 1) := by decide +kernel
theorem dL_law_324 : decode cL_law 324 = .ok (.aload_n 0, 1) := by decide +kernel
theorem dL_law_325 : decode cL_law 325 = .ok (.iload 4, 2) := by decide +kernel
theorem dL_law_327 : decode cL_law 327 = .ok (.iconst 2, 1) := by decide +kernel
theorem dL_law_328 : decode cL_law 328 = .ok (.iadd, 1) := by decide +kernel
theorem dL_law_329 : decode cL_law 329 = .ok (.iaload, 1) := by decide +kernel
theorem dL_law_330 : decode cL_law 330 = .ok (.invokevirtual 125, 3) := by decide +kernel
theorem dL_law_333 : decode cL_law 333 = .ok (.istore 6, 2) := by decide +kernel
theorem dL_law_335 : decode cL_law 335 = .ok (.aload_n 2, 1) := by decide +kernel
theorem dL_law_336 : decode cL_law 336 = .ok (.invokevirtual 108, 3) := by decide +kernel
theorem dL_law_339 : decode cL_law 339 = .ok (.iload 5, 2) := by decide +kernel
theorem dL_law_341 : decode cL_law 341 = .ok (.if_icmp .eq 5, 3) := by decide +kernel
theorem dL_law_344 : decode cL_law 344 = .ok (.iconst 0, 1) := by decide +kernel
theorem dL_law_345 : decode cL_law 345 = .ok (.ireturn, 1) := by decide +kernel
theorem dL_law_346 : decode cL_law 346 = .ok (.iload 5, 2) := by decide +kernel
theorem dL_law_348 : decode cL_law 348 = .ok (.ifCond .ne 15, 3) := by decide +kernel
theorem dL_law_351 : decode cL_law 351 = .ok (.aload_n 3, 1) := by decide +kernel
theorem dL_law_352 : decode cL_law 352 = .ok (.iconst 0, 1) := by decide +kernel
theorem dL_law_353 : decode cL_law 353 = .ok (.laload, 1) := by decide +kernel
theorem dL_law_354 : decode cL_law 354 = .ok (.iload 6, 2) := by decide +kernel
theorem dL_law_356 : decode cL_law 356 = .ok (.i2l, 1) := by decide +kernel
theorem dL_law_357 : decode cL_law 357 = .ok (.lcmp, 1) := by decide +kernel
theorem dL_law_358 : decode cL_law 358 = .ok (.ifCond .eq 5, 3) := by decide +kernel
theorem dL_law_361 : decode cL_law 361 = .ok (.iconst 0, 1) := by decide +kernel
theorem dL_law_362 : decode cL_law 362 = .ok (.ireturn, 1) := by decide +kernel
theorem dL_law_363 : decode cL_law 363 = .ok (.goto 1619, 3) := by decide +kernel
theorem dL_law_366 : decode cL_law 366 = .ok (.aload_n 1, 1) := by decide +kernel
theorem dL_law_367 : decode cL_law 367 = .ok (.aload_n 0, 1) := by decide +kernel
theorem dL_law_368 : decode cL_law 368 = .ok (.iload 4, 2) := by decide +kernel
theorem dL_law_370 : decode cL_law 370 = .ok (.iconst 1, 1) := by decide +kernel
theorem dL_law_371 : decode cL_law 371 = .ok (.iadd, 1) := by decide +kernel
theorem dL_law_372 : decode cL_law 372 = .ok (.iaload, 1) := by decide +kernel
theorem dL_law_373 : decode cL_law 373 = .ok (.aload_n 0, 1) := by decide +kernel
theorem dL_law_374 : decode cL_law 374 = .ok (.iload 4, 2) := by decide +kernel
theorem dL_law_376 : decode cL_law 376 = .ok (.iconst 2, 1) := by decide +kernel
theorem dL_law_377 : decode cL_law 377 = .ok (.iadd, 1) := by decide +kernel
theorem dL_law_378 : decode cL_law 378 = .ok (.iaload, 1) := by decide +kernel
theorem dL_law_379 : decode cL_law 379 = .ok (.aload_n 0, 1) := by decide +kernel
theorem dL_law_380 : decode cL_law 380 = .ok (.iload 4, 2) := by decide +kernel
theorem dL_law_382 : decode cL_law 382 = .ok (.iconst 3, 1) := by decide +kernel
theorem dL_law_383 : decode cL_law 383 = .ok (.iadd, 1) := by decide +kernel
theorem dL_law_384 : decode cL_law 384 = .ok (.iaload, 1) := by decide +kernel
theorem dL_law_385 : decode cL_law 385 = .ok (.aload_n 3, 1) := by decide +kernel
theorem dL_law_386 : decode cL_law 386 = .ok (.invokestatic 126, 3) := by decide +kernel
theorem dL_law_389 : decode cL_law 389 = .ok (.istore 5, 2) := by decide +kernel
theorem dL_law_391 : decode cL_law 391 = .ok (.aload_n 2, 1) := by decide +kernel
theorem dL_law_392 : decode cL_law 392 = .ok (.aload_n 0, 1) := by decide +kernel
theorem dL_law_393 : decode cL_law 393 = .ok (.iload 4, 2) := by decide +kernel
theorem dL_law_395 : decode cL_law 395 = .ok (.iconst 1, 1) := by decide +kernel
theorem dL_law_396 : decode cL_law 396 = .ok (.iadd, 1) := by decide +kernel
theorem dL_law_397 : decode cL_law 397 = .ok (.iaload, 1) := by decide +kernel
theorem dL_law_398 : decode cL_law 398 = .ok (.aload_n 0, 1) := by decide +kernel
theorem dL_law_399 : decode cL_law 399 = .ok (.iload 4, 2) := by decide +kernel
theorem dL_law_401 : decode cL_law 401 = .ok (.iconst 2, 1) := by decide +kernel
theorem dL_law_402 : decode cL_law 402 = .ok (.iadd, 1) := by decide +kernel
theorem dL_law_403 : decode cL_law 403 = .ok (.iaload, 1) := by decide +kernel
theorem dL_law_404 : decode cL_law 404 = .ok (.aload_n 0, 1) := by decide +kernel
theorem dL_law_405 : decode cL_law 405 = .ok (.iload 4, 2) := by decide +kernel
theorem dL_law_407 : decode cL_law 407 = .ok (.iconst 3, 1) := by decide +kernel
theorem dL_law_408 : decode cL_law 408 = .ok (.iadd, 1) := by decide +kernel
theorem dL_law_409 : decode cL_law 409 = .ok (.iaload, 1) := by decide +kernel
theorem dL_law_410 : decode cL_law 410 = .ok (.invokevirtual 129, 3) := by decide +kernel
theorem dL_law_413 : decode cL_law 413 = .ok (.istore 6, 2) := by decide +kernel
theorem dL_law_415 : decode cL_law 415 = .ok (.aload_n 2, 1) := by decide +kernel
theorem dL_law_416 : decode cL_law 416 = .ok (.invokevirtual 108, 3) := by decide +kernel
theorem dL_law_419 : decode cL_law 419 = .ok (.iload 5, 2) := by decide +kernel
theorem dL_law_421 : decode cL_law 421 = .ok (.if_icmp .eq 5, 3) := by decide +kernel
theorem dL_law_424 : decode cL_law 424 = .ok (.iconst 0, 1) := by decide +kernel
theorem dL_law_425 : decode cL_law 425 = .ok (.ireturn, 1) := by decide +kernel
theorem dL_law_426 : decode cL_law 426 = .ok (.iload 5, 2) := by decide +kernel
theorem dL_law_428 : decode cL_law 428 = .ok (.ifCond .ne 15, 3) := by decide +kernel
theorem dL_law_431 : decode cL_law 431 = .ok (.aload_n 3, 1) := by decide +kernel
theorem dL_law_432 : decode cL_law 432 = .ok (.iconst 0, 1) := by decide +kernel
theorem dL_law_433 : decode cL_law 433 = .ok (.laload, 1) := by decide +kernel
theorem dL_law_434 : decode cL_law 434 = .ok (.iload 6, 2) := by decide +kernel
theorem dL_law_436 : decode cL_law 436 = .ok (.i2l, 1) := by decide +kernel
theorem dL_law_437 : decode cL_law 437 = .ok (.lcmp, 1) := by decide +kernel
theorem dL_law_438 : decode cL_law 438 = .ok (.ifCond .eq 5, 3) := by decide +kernel
theorem dL_law_441 : decode cL_law 441 = .ok (.iconst 0, 1) := by decide +kernel
theorem dL_law_442 : decode cL_law 442 = .ok (.ireturn, 1) := by decide +kernel
theorem dL_law_443 : decode cL_law 443 = .ok (.goto 1539, 3) := by decide +kernel
theorem dL_law_446 : decode cL_law 446 = .ok (.aload_n 1, 1) := by decide +kernel
theorem dL_law_447 : decode cL_law 447 = .ok (.aload_n 0, 1) := by decide +kernel
theorem dL_law_448 : decode cL_law 448 = .ok (.iload 4, 2) := by decide +kernel
theorem dL_law_450 : decode cL_law 450 = .ok (.iconst 1, 1) := by decide +kernel
theorem dL_law_451 : decode cL_law 451 = .ok (.iadd, 1) := by decide +kernel
theorem dL_law_452 : decode cL_law 452 = .ok (.iaload, 1) := by decide +kernel
theorem dL_law_453 : decode cL_law 453 = .ok (.aload_n 0, 1) := by decide +kernel
theorem dL_law_454 : decode cL_law 454 = .ok (.iload 4, 2) := by decide +kernel
theorem dL_law_456 : decode cL_law 456 = .ok (.iconst 2, 1) := by decide +kernel
theorem dL_law_457 : decode cL_law 457 = .ok (.iadd, 1) := by decide +kernel
theorem dL_law_458 : decode cL_law 458 = .ok (.iaload, 1) := by decide +kernel
theorem dL_law_459 : decode cL_law 459 = .ok (.aload_n 0, 1) := by decide +kernel
theorem dL_law_460 : decode cL_law 460 = .ok (.iload 4, 2) := by decide +kernel
theorem dL_law_462 : decode cL_law 462 = .ok (.iconst 3, 1) := by decide +kernel
theorem dL_law_463 : decode cL_law 463 = .ok (.iadd, 1) := by decide +kernel
theorem dL_law_464 : decode cL_law 464 = .ok (.iaload, 1) := by decide +kernel
theorem dL_law_465 : decode cL_law 465 = .ok (.aload_n 0, 1) := by decide +kernel
theorem dL_law_466 : decode cL_law 466 = .ok (.iload 4, 2) := by decide +kernel
theorem dL_law_468 : decode cL_law 468 = .ok (.iconst 4, 1) := by decide +kernel
theorem dL_law_469 : decode cL_law 469 = .ok (.iadd, 1) := by decide +kernel
theorem dL_law_470 : decode cL_law 470 = .ok (.iaload, 1) := by decide +kernel
theorem dL_law_471 : decode cL_law 471 = .ok (.aload_n 3, 1) := by decide +kernel
theorem dL_law_472 : decode cL_law 472 = .ok (.invokestatic 130, 3) := by decide +kernel
theorem dL_law_475 : decode cL_law 475 = .ok (.istore 5, 2) := by decide +kernel
theorem dL_law_477 : decode cL_law 477 = .ok (.aload_n 2, 1) := by decide +kernel
theorem dL_law_478 : decode cL_law 478 = .ok (.aload_n 0, 1) := by decide +kernel
theorem dL_law_479 : decode cL_law 479 = .ok (.iload 4, 2) := by decide +kernel
theorem dL_law_481 : decode cL_law 481 = .ok (.iconst 1, 1) := by decide +kernel
theorem dL_law_482 : decode cL_law 482 = .ok (.iadd, 1) := by decide +kernel
theorem dL_law_483 : decode cL_law 483 = .ok (.iaload, 1) := by decide +kernel
theorem dL_law_484 : decode cL_law 484 = .ok (.aload_n 0, 1) := by decide +kernel
theorem dL_law_485 : decode cL_law 485 = .ok (.iload 4, 2) := by decide +kernel
theorem dL_law_487 : decode cL_law 487 = .ok (.iconst 2, 1) := by decide +kernel
theorem dL_law_488 : decode cL_law 488 = .ok (.iadd, 1) := by decide +kernel
theorem dL_law_489 : decode cL_law 489 = .ok (.iaload, 1) := by decide +kernel
theorem dL_law_490 : decode cL_law 490 = .ok (.aload_n 0, 1) := by decide +kernel
theorem dL_law_491 : decode cL_law 491 = .ok (.iload 4, 2) := by decide +kernel
theorem dL_law_493 : decode cL_law 493 = .ok (.iconst 3, 1) := by decide +kernel
theorem dL_law_494 : decode cL_law 494 = .ok (.iadd, 1) := by decide +kernel
theorem dL_law_495 : decode cL_law 495 = .ok (.iaload, 1) := by decide +kernel
theorem dL_law_496 : decode cL_law 496 = .ok (.aload_n 0, 1) := by decide +kernel
theorem dL_law_497 : decode cL_law 497 = .ok (.iload 4, 2) := by decide +kernel
theorem dL_law_499 : decode cL_law 499 = .ok (.iconst 4, 1) := by decide +kernel
theorem dL_law_500 : decode cL_law 500 = .ok (.iadd, 1) := by decide +kernel
theorem dL_law_501 : decode cL_law 501 = .ok (.iaload, 1) := by decide +kernel
theorem dL_law_502 : decode cL_law 502 = .ok (.invokevirtual 133, 3) := by decide +kernel
theorem dL_law_505 : decode cL_law 505 = .ok (.istore 6, 2) := by decide +kernel
theorem dL_law_507 : decode cL_law 507 = .ok (.aload_n 2, 1) := by decide +kernel
theorem dL_law_508 : decode cL_law 508 = .ok (.invokevirtual 108, 3) := by decide +kernel
theorem dL_law_511 : decode cL_law 511 = .ok (.iload 5, 2) := by decide +kernel
theorem dL_law_513 : decode cL_law 513 = .ok (.if_icmp .eq 5, 3) := by decide +kernel
theorem dL_law_516 : decode cL_law 516 = .ok (.iconst 0, 1) := by decide +kernel
theorem dL_law_517 : decode cL_law 517 = .ok (.ireturn, 1) := by decide +kernel
theorem dL_law_518 : decode cL_law 518 = .ok (.iload 5, 2) := by decide +kernel
theorem dL_law_520 : decode cL_law 520 = .ok (.ifCond .ne 15, 3) := by decide +kernel
theorem dL_law_523 : decode cL_law 523 = .ok (.aload_n 3, 1) := by decide +kernel
theorem dL_law_524 : decode cL_law 524 = .ok (.iconst 0, 1) := by decide +kernel
theorem dL_law_525 : decode cL_law 525 = .ok (.laload, 1) := by decide +kernel
theorem dL_law_526 : decode cL_law 526 = .ok (.iload 6, 2) := by decide +kernel
theorem dL_law_528 : decode cL_law 528 = .ok (.i2l, 1) := by decide +kernel
theorem dL_law_529 : decode cL_law 529 = .ok (.lcmp, 1) := by decide +kernel
theorem dL_law_530 : decode cL_law 530 = .ok (.ifCond .eq 5, 3) := by decide +kernel
theorem dL_law_533 : decode cL_law 533 = .ok (.iconst 0, 1) := by decide +kernel
theorem dL_law_534 : decode cL_law 534 = .ok (.ireturn, 1) := by decide +kernel
theorem dL_law_535 : decode cL_law 535 = .ok (.goto 1447, 3) := by decide +kernel
theorem dL_law_538 : decode cL_law 538 = .ok (.aload_n 1, 1) := by decide +kernel
theorem dL_law_539 : decode cL_law 539 = .ok (.aload_n 0, 1) := by decide +kernel
theorem dL_law_540 : decode cL_law 540 = .ok (.iload 4, 2) := by decide +kernel
theorem dL_law_542 : decode cL_law 542 = .ok (.iconst 1, 1) := by decide +kernel
theorem dL_law_543 : decode cL_law 543 = .ok (.iadd, 1) := by decide +kernel
theorem dL_law_544 : decode cL_law 544 = .ok (.iaload, 1) := by decide +kernel
theorem dL_law_545 : decode cL_law 545 = .ok (.aload_n 3, 1) := by decide +kernel
theorem dL_law_546 : decode cL_law 546 = .ok (.invokestatic 134, 3) := by decide +kernel
theorem dL_law_549 : decode cL_law 549 = .ok (.istore 5, 2) := by decide +kernel
theorem dL_law_551 : decode cL_law 551 = .ok (.aload_n 2, 1) := by decide +kernel
theorem dL_law_552 : decode cL_law 552 = .ok (.aload_n 0, 1) := by decide +kernel
theorem dL_law_553 : decode cL_law 553 = .ok (.iload 4, 2) := by decide +kernel
theorem dL_law_555 : decode cL_law 555 = .ok (.iconst 1, 1) := by decide +kernel
theorem dL_law_556 : decode cL_law 556 = .ok (.iadd, 1) := by decide +kernel
theorem dL_law_557 : decode cL_law 557 = .ok (.iaload, 1) := by decide +kernel
theorem dL_law_558 : decode cL_law 558 = .ok (.invokevirtual 136, 3) := by decide +kernel
theorem dL_law_561 : decode cL_law 561 = .ok (.istore 6, 2) := by decide +kernel
theorem dL_law_563 : decode cL_law 563 = .ok (.aload_n 2, 1) := by decide +kernel
theorem dL_law_564 : decode cL_law 564 = .ok (.invokevirtual 108, 3) := by decide +kernel
theorem dL_law_567 : decode cL_law 567 = .ok (.iload 5, 2) := by decide +kernel
theorem dL_law_569 : decode cL_law 569 = .ok (.if_icmp .eq 5, 3) := by decide +kernel
theorem dL_law_572 : decode cL_law 572 = .ok (.iconst 0, 1) := by decide +kernel
theorem dL_law_573 : decode cL_law 573 = .ok (.ireturn, 1) := by decide +kernel
theorem dL_law_574 : decode cL_law 574 = .ok (.iload 5, 2) := by decide +kernel
theorem dL_law_576 : decode cL_law 576 = .ok (.ifCond .ne 15, 3) := by decide +kernel
theorem dL_law_579 : decode cL_law 579 = .ok (.aload_n 3, 1) := by decide +kernel
theorem dL_law_580 : decode cL_law 580 = .ok (.iconst 0, 1) := by decide +kernel
theorem dL_law_581 : decode cL_law 581 = .ok (.laload, 1) := by decide +kernel
theorem dL_law_582 : decode cL_law 582 = .ok (.iload 6, 2) := by decide +kernel
theorem dL_law_584 : decode cL_law 584 = .ok (.i2l, 1) := by decide +kernel
theorem dL_law_585 : decode cL_law 585 = .ok (.lcmp, 1) := by decide +kernel
theorem dL_law_586 : decode cL_law 586 = .ok (.ifCond .eq 5, 3) := by decide +kernel
theorem dL_law_589 : decode cL_law 589 = .ok (.iconst 0, 1) := by decide +kernel
theorem dL_law_590 : decode cL_law 590 = .ok (.ireturn, 1) := by decide +kernel
theorem dL_law_591 : decode cL_law 591 = .ok (.goto 1391, 3) := by decide +kernel
theorem dL_law_594 : decode cL_law 594 = .ok (.aload_n 1, 1) := by decide +kernel
theorem dL_law_595 : decode cL_law 595 = .ok (.aload_n 3, 1) := by decide +kernel
theorem dL_law_596 : decode cL_law 596 = .ok (.invokestatic 137, 3) := by decide +kernel
theorem dL_law_599 : decode cL_law 599 = .ok (.istore 5, 2) := by decide +kernel
theorem dL_law_601 : decode cL_law 601 = .ok (.aload_n 2, 1) := by decide +kernel
theorem dL_law_602 : decode cL_law 602 = .ok (.invokevirtual 140, 3) := by decide +kernel
theorem dL_law_605 : decode cL_law 605 = .ok (.istore 6, 2) := by decide +kernel
theorem dL_law_607 : decode cL_law 607 = .ok (.aload_n 2, 1) := by decide +kernel
theorem dL_law_608 : decode cL_law 608 = .ok (.invokevirtual 108, 3) := by decide +kernel
theorem dL_law_611 : decode cL_law 611 = .ok (.iload 5, 2) := by decide +kernel
theorem dL_law_613 : decode cL_law 613 = .ok (.if_icmp .eq 5, 3) := by decide +kernel
theorem dL_law_616 : decode cL_law 616 = .ok (.iconst 0, 1) := by decide +kernel
theorem dL_law_617 : decode cL_law 617 = .ok (.ireturn, 1) := by decide +kernel
theorem dL_law_618 : decode cL_law 618 = .ok (.iload 5, 2) := by decide +kernel
theorem dL_law_620 : decode cL_law 620 = .ok (.ifCond .ne 15, 3) := by decide +kernel
theorem dL_law_623 : decode cL_law 623 = .ok (.aload_n 3, 1) := by decide +kernel
theorem dL_law_624 : decode cL_law 624 = .ok (.iconst 0, 1) := by decide +kernel
theorem dL_law_625 : decode cL_law 625 = .ok (.laload, 1) := by decide +kernel
theorem dL_law_626 : decode cL_law 626 = .ok (.iload 6, 2) := by decide +kernel
theorem dL_law_628 : decode cL_law 628 = .ok (.i2l, 1) := by decide +kernel
theorem dL_law_629 : decode cL_law 629 = .ok (.lcmp, 1) := by decide +kernel
theorem dL_law_630 : decode cL_law 630 = .ok (.ifCond .eq 5, 3) := by decide +kernel
theorem dL_law_633 : decode cL_law 633 = .ok (.iconst 0, 1) := by decide +kernel
theorem dL_law_634 : decode cL_law 634 = .ok (.ireturn, 1) := by decide +kernel
theorem dL_law_635 : decode cL_law 635 = .ok (.goto 1347, 3) := by decide +kernel
theorem dL_law_638 : decode cL_law 638 = .ok (.aload_n 1, 1) := by decide +kernel
theorem dL_law_639 : decode cL_law 639 = .ok (.aload_n 0, 1) := by decide +kernel
theorem dL_law_640 : decode cL_law 640 = .ok (.iload 4, 2) := by decide +kernel
theorem dL_law_642 : decode cL_law 642 = .ok (.iconst 1, 1) := by decide +kernel
theorem dL_law_643 : decode cL_law 643 = .ok (.iadd, 1) := by decide +kernel
theorem dL_law_644 : decode cL_law 644 = .ok (.iaload, 1) := by decide +kernel
theorem dL_law_645 : decode cL_law 645 = .ok (.aload_n 3, 1) := by decide +kernel
theorem dL_law_646 : decode cL_law 646 = .ok (.invokestatic 141, 3) := by decide +kernel
theorem dL_law_649 : decode cL_law 649 = .ok (.istore 5, 2) := by decide +kernel
theorem dL_law_651 : decode cL_law 651 = .ok (.aload_n 2, 1) := by decide +kernel
theorem dL_law_652 : decode cL_law 652 = .ok (.aload_n 0, 1) := by decide +kernel
theorem dL_law_653 : decode cL_law 653 = .ok (.iload 4, 2) := by decide +kernel
theorem dL_law_655 : decode cL_law 655 = .ok (.iconst 1, 1) := by decide +kernel
theorem dL_law_656 : decode cL_law 656 = .ok (.iadd, 1) := by decide +kernel
theorem dL_law_657 : decode cL_law 657 = .ok (.iaload, 1) := by decide +kernel
theorem dL_law_658 : decode cL_law 658 = .ok (.invokevirtual 143, 3) := by decide +kernel
theorem dL_law_661 : decode cL_law 661 = .ok (.istore 6, 2) := by decide +kernel
theorem dL_law_663 : decode cL_law 663 = .ok (.aload_n 2, 1) := by decide +kernel
theorem dL_law_664 : decode cL_law 664 = .ok (.invokevirtual 108, 3) := by decide +kernel
theorem dL_law_667 : decode cL_law 667 = .ok (.iload 5, 2) := by decide +kernel
theorem dL_law_669 : decode cL_law 669 = .ok (.if_icmp .eq 5, 3) := by decide +kernel
theorem dL_law_672 : decode cL_law 672 = .ok (.iconst 0, 1) := by decide +kernel
theorem dL_law_673 : decode cL_law 673 = .ok (.ireturn, 1) := by decide +kernel
theorem dL_law_674 : decode cL_law 674 = .ok (.iload 5, 2) := by decide +kernel
theorem dL_law_676 : decode cL_law 676 = .ok (.ifCond .ne 15, 3) := by decide +kernel
theorem dL_law_679 : decode cL_law 679 = .ok (.aload_n 3, 1) := by decide +kernel
theorem dL_law_680 : decode cL_law 680 = .ok (.iconst 0, 1) := by decide +kernel
theorem dL_law_681 : decode cL_law 681 = .ok (.laload, 1) := by decide +kernel
theorem dL_law_682 : decode cL_law 682 = .ok (.iload 6, 2) := by decide +kernel
theorem dL_law_684 : decode cL_law 684 = .ok (.i2l, 1) := by decide +kernel
theorem dL_law_685 : decode cL_law 685 = .ok (.lcmp, 1) := by decide +kernel
theorem dL_law_686 : decode cL_law 686 = .ok (.ifCond .eq 5, 3) := by decide +kernel
theorem dL_law_689 : decode cL_law 689 = .ok (.iconst 0, 1) := by decide +kernel
theorem dL_law_690 : decode cL_law 690 = .ok (.ireturn, 1) := by decide +kernel
theorem dL_law_691 : decode cL_law 691 = .ok (.goto 1291, 3) := by decide +kernel
theorem dL_law_694 : decode cL_law 694 = .ok (.aload_n 1, 1) := by decide +kernel
theorem dL_law_695 : decode cL_law 695 = .ok (.aload_n 0, 1) := by decide +kernel
theorem dL_law_696 : decode cL_law 696 = .ok (.iload 4, 2) := by decide +kernel
theorem dL_law_698 : decode cL_law 698 = .ok (.iconst 1, 1) := by decide +kernel
theorem dL_law_699 : decode cL_law 699 = .ok (.iadd, 1) := by decide +kernel
theorem dL_law_700 : decode cL_law 700 = .ok (.iaload, 1) := by decide +kernel
theorem dL_law_701 : decode cL_law 701 = .ok (.aload_n 0, 1) := by decide +kernel
theorem dL_law_702 : decode cL_law 702 = .ok (.iload 4, 2) := by decide +kernel
theorem dL_law_704 : decode cL_law 704 = .ok (.iconst 2, 1) := by decide +kernel
theorem dL_law_705 : decode cL_law 705 = .ok (.iadd, 1) := by decide +kernel
theorem dL_law_706 : decode cL_law 706 = .ok (.iaload, 1) := by decide +kernel
theorem dL_law_707 : decode cL_law 707 = .ok (.aload_n 0, 1) := by decide +kernel
theorem dL_law_708 : decode cL_law 708 = .ok (.iload 4, 2) := by decide +kernel
theorem dL_law_710 : decode cL_law 710 = .ok (.iconst 3, 1) := by decide +kernel
theorem dL_law_711 : decode cL_law 711 = .ok (.iadd, 1) := by decide +kernel
theorem dL_law_712 : decode cL_law 712 = .ok (.iaload, 1) := by decide +kernel
theorem dL_law_713 : decode cL_law 713 = .ok (.aload_n 3, 1) := by decide +kernel
theorem dL_law_714 : decode cL_law 714 = .ok (.invokestatic 144, 3) := by decide +kernel
theorem dL_law_717 : decode cL_law 717 = .ok (.istore 5, 2) := by decide +kernel
theorem dL_law_719 : decode cL_law 719 = .ok (.aload_n 2, 1) := by decide +kernel
theorem dL_law_720 : decode cL_law 720 = .ok (.aload_n 0, 1) := by decide +kernel
theorem dL_law_721 : decode cL_law 721 = .ok (.iload 4, 2) := by decide +kernel
theorem dL_law_723 : decode cL_law 723 = .ok (.iconst 1, 1) := by decide +kernel
theorem dL_law_724 : decode cL_law 724 = .ok (.iadd, 1) := by decide +kernel
theorem dL_law_725 : decode cL_law 725 = .ok (.iaload, 1) := by decide +kernel
theorem dL_law_726 : decode cL_law 726 = .ok (.aload_n 0, 1) := by decide +kernel
theorem dL_law_727 : decode cL_law 727 = .ok (.iload 4, 2) := by decide +kernel
theorem dL_law_729 : decode cL_law 729 = .ok (.iconst 2, 1) := by decide +kernel
theorem dL_law_730 : decode cL_law 730 = .ok (.iadd, 1) := by decide +kernel
theorem dL_law_731 : decode cL_law 731 = .ok (.iaload, 1) := by decide +kernel
theorem dL_law_732 : decode cL_law 732 = .ok (.aload_n 0, 1) := by decide +kernel
theorem dL_law_733 : decode cL_law 733 = .ok (.iload 4, 2) := by decide +kernel
theorem dL_law_735 : decode cL_law 735 = .ok (.iconst 3, 1) := by decide +kernel
theorem dL_law_736 : decode cL_law 736 = .ok (.iadd, 1) := by decide +kernel
theorem dL_law_737 : decode cL_law 737 = .ok (.iaload, 1) := by decide +kernel
theorem dL_law_738 : decode cL_law 738 = .ok (.invokevirtual 146, 3) := by decide +kernel
theorem dL_law_741 : decode cL_law 741 = .ok (.istore 6, 2) := by decide +kernel
theorem dL_law_743 : decode cL_law 743 = .ok (.aload_n 2, 1) := by decide +kernel
theorem dL_law_744 : decode cL_law 744 = .ok (.invokevirtual 108, 3) := by decide +kernel
theorem dL_law_747 : decode cL_law 747 = .ok (.iload 5, 2) := by decide +kernel
theorem dL_law_749 : decode cL_law 749 = .ok (.if_icmp .eq 5, 3) := by decide +kernel
theorem dL_law_752 : decode cL_law 752 = .ok (.iconst 0, 1) := by decide +kernel
theorem dL_law_753 : decode cL_law 753 = .ok (.ireturn, 1) := by decide +kernel
theorem dL_law_754 : decode cL_law 754 = .ok (.iload 5, 2) := by decide +kernel
theorem dL_law_756 : decode cL_law 756 = .ok (.ifCond .ne 15, 3) := by decide +kernel
theorem dL_law_759 : decode cL_law 759 = .ok (.aload_n 3, 1) := by decide +kernel
theorem dL_law_760 : decode cL_law 760 = .ok (.iconst 0, 1) := by decide +kernel
theorem dL_law_761 : decode cL_law 761 = .ok (.laload, 1) := by decide +kernel
theorem dL_law_762 : decode cL_law 762 = .ok (.iload 6, 2) := by decide +kernel
theorem dL_law_764 : decode cL_law 764 = .ok (.i2l, 1) := by decide +kernel
theorem dL_law_765 : decode cL_law 765 = .ok (.lcmp, 1) := by decide +kernel
theorem dL_law_766 : decode cL_law 766 = .ok (.ifCond .eq 5, 3) := by decide +kernel
theorem dL_law_769 : decode cL_law 769 = .ok (.iconst 0, 1) := by decide +kernel
theorem dL_law_770 : decode cL_law 770 = .ok (.ireturn, 1) := by decide +kernel
theorem dL_law_771 : decode cL_law 771 = .ok (.goto 1211, 3) := by decide +kernel
theorem dL_law_774 : decode cL_law 774 = .ok (.aload_n 1, 1) := by decide +kernel
theorem dL_law_775 : decode cL_law 775 = .ok (.aload_n 0, 1) := by decide +kernel
theorem dL_law_776 : decode cL_law 776 = .ok (.iload 4, 2) := by decide +kernel
theorem dL_law_778 : decode cL_law 778 = .ok (.iconst 1, 1) := by decide +kernel
theorem dL_law_779 : decode cL_law 779 = .ok (.iadd, 1) := by decide +kernel
theorem dL_law_780 : decode cL_law 780 = .ok (.iaload, 1) := by decide +kernel
theorem dL_law_781 : decode cL_law 781 = .ok (.aload_n 0, 1) := by decide +kernel
theorem dL_law_782 : decode cL_law 782 = .ok (.iload 4, 2) := by decide +kernel
theorem dL_law_784 : decode cL_law 784 = .ok (.iconst 2, 1) := by decide +kernel
theorem dL_law_785 : decode cL_law 785 = .ok (.iadd, 1) := by decide +kernel
theorem dL_law_786 : decode cL_law 786 = .ok (.iaload, 1) := by decide +kernel
theorem dL_law_787 : decode cL_law 787 = .ok (.aload_n 0, 1) := by decide +kernel
theorem dL_law_788 : decode cL_law 788 = .ok (.iload 4, 2) := by decide +kernel
theorem dL_law_790 : decode cL_law 790 = .ok (.iconst 3, 1) := by decide +kernel
theorem dL_law_791 : decode cL_law 791 = .ok (.iadd, 1) := by decide +kernel
theorem dL_law_792 : decode cL_law 792 = .ok (.iaload, 1) := by decide +kernel
theorem dL_law_793 : decode cL_law 793 = .ok (.aload_n 3, 1) := by decide +kernel
theorem dL_law_794 : decode cL_law 794 = .ok (.invokestatic 147, 3) := by decide +kernel
theorem dL_law_797 : decode cL_law 797 = .ok (.istore 5, 2) := by decide +kernel
theorem dL_law_799 : decode cL_law 799 = .ok (.aload_n 2, 1) := by decide +kernel
theorem dL_law_800 : decode cL_law 800 = .ok (.aload_n 0, 1) := by decide +kernel
theorem dL_law_801 : decode cL_law 801 = .ok (.iload 4, 2) := by decide +kernel
theorem dL_law_803 : decode cL_law 803 = .ok (.iconst 1, 1) := by decide +kernel
theorem dL_law_804 : decode cL_law 804 = .ok (.iadd, 1) := by decide +kernel
theorem dL_law_805 : decode cL_law 805 = .ok (.iaload, 1) := by decide +kernel
theorem dL_law_806 : decode cL_law 806 = .ok (.aload_n 0, 1) := by decide +kernel
theorem dL_law_807 : decode cL_law 807 = .ok (.iload 4, 2) := by decide +kernel
theorem dL_law_809 : decode cL_law 809 = .ok (.iconst 2, 1) := by decide +kernel
theorem dL_law_810 : decode cL_law 810 = .ok (.iadd, 1) := by decide +kernel
theorem dL_law_811 : decode cL_law 811 = .ok (.iaload, 1) := by decide +kernel
theorem dL_law_812 : decode cL_law 812 = .ok (.aload_n 0, 1) := by decide +kernel
theorem dL_law_813 : decode cL_law 813 = .ok (.iload 4, 2) := by decide +kernel
theorem dL_law_815 : decode cL_law 815 = .ok (.iconst 3, 1) := by decide +kernel
theorem dL_law_816 : decode cL_law 816 = .ok (.iadd, 1) := by decide +kernel
theorem dL_law_817 : decode cL_law 817 = .ok (.iaload, 1) := by decide +kernel
theorem dL_law_818 : decode cL_law 818 = .ok (.invokevirtual 149, 3) := by decide +kernel
theorem dL_law_821 : decode cL_law 821 = .ok (.istore 6, 2) := by decide +kernel
theorem dL_law_823 : decode cL_law 823 = .ok (.aload_n 2, 1) := by decide +kernel
theorem dL_law_824 : decode cL_law 824 = .ok (.invokevirtual 108, 3) := by decide +kernel
theorem dL_law_827 : decode cL_law 827 = .ok (.iload 5, 2) := by decide +kernel
theorem dL_law_829 : decode cL_law 829 = .ok (.if_icmp .eq 5, 3) := by decide +kernel
theorem dL_law_832 : decode cL_law 832 = .ok (.iconst 0, 1) := by decide +kernel
theorem dL_law_833 : decode cL_law 833 = .ok (.ireturn, 1) := by decide +kernel
theorem dL_law_834 : decode cL_law 834 = .ok (.iload 5, 2) := by decide +kernel
theorem dL_law_836 : decode cL_law 836 = .ok (.ifCond .ne 15, 3) := by decide +kernel
theorem dL_law_839 : decode cL_law 839 = .ok (.aload_n 3, 1) := by decide +kernel
theorem dL_law_840 : decode cL_law 840 = .ok (.iconst 0, 1) := by decide +kernel
theorem dL_law_841 : decode cL_law 841 = .ok (.laload, 1) := by decide +kernel
theorem dL_law_842 : decode cL_law 842 = .ok (.iload 6, 2) := by decide +kernel
theorem dL_law_844 : decode cL_law 844 = .ok (.i2l, 1) := by decide +kernel
theorem dL_law_845 : decode cL_law 845 = .ok (.lcmp, 1) := by decide +kernel
theorem dL_law_846 : decode cL_law 846 = .ok (.ifCond .eq 5, 3) := by decide +kernel
theorem dL_law_849 : decode cL_law 849 = .ok (.iconst 0, 1) := by decide +kernel
theorem dL_law_850 : decode cL_law 850 = .ok (.ireturn, 1) := by decide +kernel
theorem dL_law_851 : decode cL_law 851 = .ok (.goto 1131, 3) := by decide +kernel
theorem dL_law_854 : decode cL_law 854 = .ok (.aload_n 1, 1) := by decide +kernel
theorem dL_law_855 : decode cL_law 855 = .ok (.aload_n 0, 1) := by decide +kernel
theorem dL_law_856 : decode cL_law 856 = .ok (.iload 4, 2) := by decide +kernel
theorem dL_law_858 : decode cL_law 858 = .ok (.iconst 1, 1) := by decide +kernel
theorem dL_law_859 : decode cL_law 859 = .ok (.iadd, 1) := by decide +kernel
theorem dL_law_860 : decode cL_law 860 = .ok (.iaload, 1) := by decide +kernel
theorem dL_law_861 : decode cL_law 861 = .ok (.aload_n 0, 1) := by decide +kernel
theorem dL_law_862 : decode cL_law 862 = .ok (.iload 4, 2) := by decide +kernel
theorem dL_law_864 : decode cL_law 864 = .ok (.iconst 2, 1) := by decide +kernel
theorem dL_law_865 : decode cL_law 865 = .ok (.iadd, 1) := by decide +kernel
theorem dL_law_866 : decode cL_law 866 = .ok (.iaload, 1) := by decide +kernel
theorem dL_law_867 : decode cL_law 867 = .ok (.aload_n 0, 1) := by decide +kernel
theorem dL_law_868 : decode cL_law 868 = .ok (.iload 4, 2) := by decide +kernel
theorem dL_law_870 : decode cL_law 870 = .ok (.iconst 3, 1) := by decide +kernel
theorem dL_law_871 : decode cL_law 871 = .ok (.iadd, 1) := by decide +kernel
theorem dL_law_872 : decode cL_law 872 = .ok (.iaload, 1) := by decide +kernel
theorem dL_law_873 : decode cL_law 873 = .ok (.aload_n 0, 1) := by decide +kernel
theorem dL_law_874 : decode cL_law 874 = .ok (.iload 4, 2) := by decide +kernel
theorem dL_law_876 : decode cL_law 876 = .ok (.iconst 4, 1) := by decide +kernel
theorem dL_law_877 : decode cL_law 877 = .ok (.iadd, 1) := by decide +kernel
theorem dL_law_878 : decode cL_law 878 = .ok (.iaload, 1) := by decide +kernel
theorem dL_law_879 : decode cL_law 879 = .ok (.aload_n 3, 1) := by decide +kernel
theorem dL_law_880 : decode cL_law 880 = .ok (.invokestatic 150, 3) := by decide +kernel
theorem dL_law_883 : decode cL_law 883 = .ok (.istore 5, 2) := by decide +kernel
theorem dL_law_885 : decode cL_law 885 = .ok (.aload_n 2, 1) := by decide +kernel
theorem dL_law_886 : decode cL_law 886 = .ok (.aload_n 0, 1) := by decide +kernel
theorem dL_law_887 : decode cL_law 887 = .ok (.iload 4, 2) := by decide +kernel
theorem dL_law_889 : decode cL_law 889 = .ok (.iconst 1, 1) := by decide +kernel
theorem dL_law_890 : decode cL_law 890 = .ok (.iadd, 1) := by decide +kernel
theorem dL_law_891 : decode cL_law 891 = .ok (.iaload, 1) := by decide +kernel
theorem dL_law_892 : decode cL_law 892 = .ok (.aload_n 0, 1) := by decide +kernel
theorem dL_law_893 : decode cL_law 893 = .ok (.iload 4, 2) := by decide +kernel
theorem dL_law_895 : decode cL_law 895 = .ok (.iconst 2, 1) := by decide +kernel
theorem dL_law_896 : decode cL_law 896 = .ok (.iadd, 1) := by decide +kernel
theorem dL_law_897 : decode cL_law 897 = .ok (.iaload, 1) := by decide +kernel
theorem dL_law_898 : decode cL_law 898 = .ok (.aload_n 0, 1) := by decide +kernel
theorem dL_law_899 : decode cL_law 899 = .ok (.iload 4, 2) := by decide +kernel
theorem dL_law_901 : decode cL_law 901 = .ok (.iconst 3, 1) := by decide +kernel
theorem dL_law_902 : decode cL_law 902 = .ok (.iadd, 1) := by decide +kernel
theorem dL_law_903 : decode cL_law 903 = .ok (.iaload, 1) := by decide +kernel
theorem dL_law_904 : decode cL_law 904 = .ok (.aload_n 0, 1) := by decide +kernel
theorem dL_law_905 : decode cL_law 905 = .ok (.iload 4, 2) := by decide +kernel
theorem dL_law_907 : decode cL_law 907 = .ok (.iconst 4, 1) := by decide +kernel
theorem dL_law_908 : decode cL_law 908 = .ok (.iadd, 1) := by decide +kernel
theorem dL_law_909 : decode cL_law 909 = .ok (.iaload, 1) := by decide +kernel
theorem dL_law_910 : decode cL_law 910 = .ok (.invokevirtual 152, 3) := by decide +kernel
theorem dL_law_913 : decode cL_law 913 = .ok (.istore 6, 2) := by decide +kernel
theorem dL_law_915 : decode cL_law 915 = .ok (.aload_n 2, 1) := by decide +kernel
theorem dL_law_916 : decode cL_law 916 = .ok (.invokevirtual 108, 3) := by decide +kernel
theorem dL_law_919 : decode cL_law 919 = .ok (.iload 5, 2) := by decide +kernel
theorem dL_law_921 : decode cL_law 921 = .ok (.if_icmp .eq 5, 3) := by decide +kernel
theorem dL_law_924 : decode cL_law 924 = .ok (.iconst 0, 1) := by decide +kernel
theorem dL_law_925 : decode cL_law 925 = .ok (.ireturn, 1) := by decide +kernel
theorem dL_law_926 : decode cL_law 926 = .ok (.iload 5, 2) := by decide +kernel
theorem dL_law_928 : decode cL_law 928 = .ok (.ifCond .ne 15, 3) := by decide +kernel
theorem dL_law_931 : decode cL_law 931 = .ok (.aload_n 3, 1) := by decide +kernel
theorem dL_law_932 : decode cL_law 932 = .ok (.iconst 0, 1) := by decide +kernel
theorem dL_law_933 : decode cL_law 933 = .ok (.laload, 1) := by decide +kernel
theorem dL_law_934 : decode cL_law 934 = .ok (.iload 6, 2) := by decide +kernel
theorem dL_law_936 : decode cL_law 936 = .ok (.i2l, 1) := by decide +kernel
theorem dL_law_937 : decode cL_law 937 = .ok (.lcmp, 1) := by decide +kernel
theorem dL_law_938 : decode cL_law 938 = .ok (.ifCond .eq 5, 3) := by decide +kernel
theorem dL_law_941 : decode cL_law 941 = .ok (.iconst 0, 1) := by decide +kernel
theorem dL_law_942 : decode cL_law 942 = .ok (.ireturn, 1) := by decide +kernel
theorem dL_law_943 : decode cL_law 943 = .ok (.goto 1039, 3) := by decide +kernel
theorem dL_law_946 : decode cL_law 946 = .ok (.aload_n 1, 1) := by decide +kernel
theorem dL_law_947 : decode cL_law 947 = .ok (.aload_n 0, 1) := by decide +kernel
theorem dL_law_948 : decode cL_law 948 = .ok (.iload 4, 2) := by decide +kernel
theorem dL_law_950 : decode cL_law 950 = .ok (.iconst 1, 1) := by decide +kernel
theorem dL_law_951 : decode cL_law 951 = .ok (.iadd, 1) := by decide +kernel
theorem dL_law_952 : decode cL_law 952 = .ok (.iaload, 1) := by decide +kernel
theorem dL_law_953 : decode cL_law 953 = .ok (.aload_n 0, 1) := by decide +kernel
theorem dL_law_954 : decode cL_law 954 = .ok (.iload 4, 2) := by decide +kernel
theorem dL_law_956 : decode cL_law 956 = .ok (.iconst 2, 1) := by decide +kernel
theorem dL_law_957 : decode cL_law 957 = .ok (.iadd, 1) := by decide +kernel
theorem dL_law_958 : decode cL_law 958 = .ok (.iaload, 1) := by decide +kernel
theorem dL_law_959 : decode cL_law 959 = .ok (.aload_n 0, 1) := by decide +kernel
theorem dL_law_960 : decode cL_law 960 = .ok (.iload 4, 2) := by decide +kernel
theorem dL_law_962 : decode cL_law 962 = .ok (.iconst 3, 1) := by decide +kernel
theorem dL_law_963 : decode cL_law 963 = .ok (.iadd, 1) := by decide +kernel
theorem dL_law_964 : decode cL_law 964 = .ok (.iaload, 1) := by decide +kernel
theorem dL_law_965 : decode cL_law 965 = .ok (.ifCond .eq 7, 3) := by decide +kernel
theorem dL_law_968 : decode cL_law 968 = .ok (.iconst 1, 1) := by decide +kernel
theorem dL_law_969 : decode cL_law 969 = .ok (.goto 4, 3) := by decide +kernel
theorem dL_law_972 : decode cL_law 972 = .ok (.iconst 0, 1) := by decide +kernel
theorem dL_law_973 : decode cL_law 973 = .ok (.aload_n 3, 1) := by decide +kernel
theorem dL_law_974 : decode cL_law 974 = .ok (.invokestatic 153, 3) := by decide +kernel
theorem dL_law_977 : decode cL_law 977 = .ok (.istore 5, 2) := by decide +kernel
theorem dL_law_979 : decode cL_law 979 = .ok (.aload_n 2, 1) := by decide +kernel
theorem dL_law_980 : decode cL_law 980 = .ok (.aload_n 0, 1) := by decide +kernel
theorem dL_law_981 : decode cL_law 981 = .ok (.iload 4, 2) := by decide +kernel
theorem dL_law_983 : decode cL_law 983 = .ok (.iconst 1, 1) := by decide +kernel
theorem dL_law_984 : decode cL_law 984 = .ok (.iadd, 1) := by decide +kernel
theorem dL_law_985 : decode cL_law 985 = .ok (.iaload, 1) := by decide +kernel
theorem dL_law_986 : decode cL_law 986 = .ok (.aload_n 0, 1) := by decide +kernel
theorem dL_law_987 : decode cL_law 987 = .ok (.iload 4, 2) := by decide +kernel
theorem dL_law_989 : decode cL_law 989 = .ok (.iconst 2, 1) := by decide +kernel
theorem dL_law_990 : decode cL_law 990 = .ok (.iadd, 1) := by decide +kernel
theorem dL_law_991 : decode cL_law 991 = .ok (.iaload, 1) := by decide +kernel
theorem dL_law_992 : decode cL_law 992 = .ok (.aload_n 0, 1) := by decide +kernel
theorem dL_law_993 : decode cL_law 993 = .ok (.iload 4, 2) := by decide +kernel
theorem dL_law_995 : decode cL_law 995 = .ok (.iconst 3, 1) := by decide +kernel
theorem dL_law_996 : decode cL_law 996 = .ok (.iadd, 1) := by decide +kernel
theorem dL_law_997 : decode cL_law 997 = .ok (.iaload, 1) := by decide +kernel
theorem dL_law_998 : decode cL_law 998 = .ok (.ifCond .eq 7, 3) := by decide +kernel
theorem dL_law_1001 : decode cL_law 1001 = .ok (.iconst 1, 1) := by decide +kernel
theorem dL_law_1002 : decode cL_law 1002 = .ok (.goto 4, 3) := by decide +kernel
theorem dL_law_1005 : decode cL_law 1005 = .ok (.iconst 0, 1) := by decide +kernel
theorem dL_law_1006 : decode cL_law 1006 = .ok (.invokevirtual 156, 3) := by decide +kernel
theorem dL_law_1009 : decode cL_law 1009 = .ok (.istore 6, 2) := by decide +kernel
theorem dL_law_1011 : decode cL_law 1011 = .ok (.aload_n 2, 1) := by decide +kernel
theorem dL_law_1012 : decode cL_law 1012 = .ok (.invokevirtual 108, 3) := by decide +kernel
theorem dL_law_1015 : decode cL_law 1015 = .ok (.iload 5, 2) := by decide +kernel
theorem dL_law_1017 : decode cL_law 1017 = .ok (.if_icmp .eq 5, 3) := by decide +kernel
theorem dL_law_1020 : decode cL_law 1020 = .ok (.iconst 0, 1) := by decide +kernel
theorem dL_law_1021 : decode cL_law 1021 = .ok (.ireturn, 1) := by decide +kernel
theorem dL_law_1022 : decode cL_law 1022 = .ok (.iload 5, 2) := by decide +kernel
theorem dL_law_1024 : decode cL_law 1024 = .ok (.ifCond .ne 15, 3) := by decide +kernel
theorem dL_law_1027 : decode cL_law 1027 = .ok (.aload_n 3, 1) := by decide +kernel
theorem dL_law_1028 : decode cL_law 1028 = .ok (.iconst 0, 1) := by decide +kernel
theorem dL_law_1029 : decode cL_law 1029 = .ok (.laload, 1) := by decide +kernel
theorem dL_law_1030 : decode cL_law 1030 = .ok (.iload 6, 2) := by decide +kernel
theorem dL_law_1032 : decode cL_law 1032 = .ok (.i2l, 1) := by decide +kernel
theorem dL_law_1033 : decode cL_law 1033 = .ok (.lcmp, 1) := by decide +kernel
theorem dL_law_1034 : decode cL_law 1034 = .ok (.ifCond .eq 5, 3) := by decide +kernel
theorem dL_law_1037 : decode cL_law 1037 = .ok (.iconst 0, 1) := by decide +kernel
theorem dL_law_1038 : decode cL_law 1038 = .ok (.ireturn, 1) := by decide +kernel
theorem dL_law_1039 : decode cL_law 1039 = .ok (.goto 943, 3) := by decide +kernel
theorem dL_law_1042 : decode cL_law 1042 = .ok (.aload_n 1, 1) := by decide +kernel
theorem dL_law_1043 : decode cL_law 1043 = .ok (.aload_n 0, 1) := by decide +kernel
theorem dL_law_1044 : decode cL_law 1044 = .ok (.iload 4, 2) := by decide +kernel
theorem dL_law_1046 : decode cL_law 1046 = .ok (.iconst 1, 1) := by decide +kernel
theorem dL_law_1047 : decode cL_law 1047 = .ok (.iadd, 1) := by decide +kernel
theorem dL_law_1048 : decode cL_law 1048 = .ok (.iaload, 1) := by decide +kernel
theorem dL_law_1049 : decode cL_law 1049 = .ok (.aload_n 0, 1) := by decide +kernel
theorem dL_law_1050 : decode cL_law 1050 = .ok (.iload 4, 2) := by decide +kernel
theorem dL_law_1052 : decode cL_law 1052 = .ok (.iconst 2, 1) := by decide +kernel
theorem dL_law_1053 : decode cL_law 1053 = .ok (.iadd, 1) := by decide +kernel
theorem dL_law_1054 : decode cL_law 1054 = .ok (.iaload, 1) := by decide +kernel
theorem dL_law_1055 : decode cL_law 1055 = .ok (.aload_n 0, 1) := by decide +kernel
theorem dL_law_1056 : decode cL_law 1056 = .ok (.iload 4, 2) := by decide +kernel
theorem dL_law_1058 : decode cL_law 1058 = .ok (.iconst 3, 1) := by decide +kernel
theorem dL_law_1059 : decode cL_law 1059 = .ok (.iadd, 1) := by decide +kernel
theorem dL_law_1060 : decode cL_law 1060 = .ok (.iaload, 1) := by decide +kernel
theorem dL_law_1061 : decode cL_law 1061 = .ok (.ifCond .eq 7, 3) := by decide +kernel
theorem dL_law_1064 : decode cL_law 1064 = .ok (.iconst 1, 1) := by decide +kernel
theorem dL_law_1065 : decode cL_law 1065 = .ok (.goto 4, 3) := by decide +kernel
theorem dL_law_1068 : decode cL_law 1068 = .ok (.iconst 0, 1) := by decide +kernel
theorem dL_law_1069 : decode cL_law 1069 = .ok (.aload_n 3, 1) := by decide +kernel
theorem dL_law_1070 : decode cL_law 1070 = .ok (.invokestatic 157, 3) := by decide +kernel
theorem dL_law_1073 : decode cL_law 1073 = .ok (.istore 5, 2) := by decide +kernel
theorem dL_law_1075 : decode cL_law 1075 = .ok (.aload_n 2, 1) := by decide +kernel
theorem dL_law_1076 : decode cL_law 1076 = .ok (.aload_n 0, 1) := by decide +kernel
theorem dL_law_1077 : decode cL_law 1077 = .ok (.iload 4, 2) := by decide +kernel
theorem dL_law_1079 : decode cL_law 1079 = .ok (.iconst 1, 1) := by decide +kernel
theorem dL_law_1080 : decode cL_law 1080 = .ok (.iadd, 1) := by decide +kernel
theorem dL_law_1081 : decode cL_law 1081 = .ok (.iaload, 1) := by decide +kernel
theorem dL_law_1082 : decode cL_law 1082 = .ok (.aload_n 0, 1) := by decide +kernel
theorem dL_law_1083 : decode cL_law 1083 = .ok (.iload 4, 2) := by decide +kernel
theorem dL_law_1085 : decode cL_law 1085 = .ok (.iconst 2, 1) := by decide +kernel
theorem dL_law_1086 : decode cL_law 1086 = .ok (.iadd, 1) := by decide +kernel
theorem dL_law_1087 : decode cL_law 1087 = .ok (.iaload, 1) := by decide +kernel
theorem dL_law_1088 : decode cL_law 1088 = .ok (.aload_n 0, 1) := by decide +kernel
theorem dL_law_1089 : decode cL_law 1089 = .ok (.iload 4, 2) := by decide +kernel
theorem dL_law_1091 : decode cL_law 1091 = .ok (.iconst 3, 1) := by decide +kernel
theorem dL_law_1092 : decode cL_law 1092 = .ok (.iadd, 1) := by decide +kernel
theorem dL_law_1093 : decode cL_law 1093 = .ok (.iaload, 1) := by decide +kernel
theorem dL_law_1094 : decode cL_law 1094 = .ok (.ifCond .eq 7, 3) := by decide +kernel
theorem dL_law_1097 : decode cL_law 1097 = .ok (.iconst 1, 1) := by decide +kernel
theorem dL_law_1098 : decode cL_law 1098 = .ok (.goto 4, 3) := by decide +kernel
theorem dL_law_1101 : decode cL_law 1101 = .ok (.iconst 0, 1) := by decide +kernel
theorem dL_law_1102 : decode cL_law 1102 = .ok (.invokevirtual 159, 3) := by decide +kernel
theorem dL_law_1105 : decode cL_law 1105 = .ok (.istore 6, 2) := by decide +kernel
theorem dL_law_1107 : decode cL_law 1107 = .ok (.aload_n 2, 1) := by decide +kernel
theorem dL_law_1108 : decode cL_law 1108 = .ok (.invokevirtual 108, 3) := by decide +kernel
theorem dL_law_1111 : decode cL_law 1111 = .ok (.iload 5, 2) := by decide +kernel
theorem dL_law_1113 : decode cL_law 1113 = .ok (.if_icmp .eq 5, 3) := by decide +kernel
theorem dL_law_1116 : decode cL_law 1116 = .ok (.iconst 0, 1) := by decide +kernel
theorem dL_law_1117 : decode cL_law 1117 = .ok (.ireturn, 1) := by decide +kernel
theorem dL_law_1118 : decode cL_law 1118 = .ok (.iload 5, 2) := by decide +kernel
theorem dL_law_1120 : decode cL_law 1120 = .ok (.ifCond .ne 15, 3) := by decide +kernel
theorem dL_law_1123 : decode cL_law 1123 = .ok (.aload_n 3, 1) := by decide +kernel
theorem dL_law_1124 : decode cL_law 1124 = .ok (.iconst 0, 1) := by decide +kernel
theorem dL_law_1125 : decode cL_law 1125 = .ok (.laload, 1) := by decide +kernel
theorem dL_law_1126 : decode cL_law 1126 = .ok (.iload 6, 2) := by decide +kernel
theorem dL_law_1128 : decode cL_law 1128 = .ok (.i2l, 1) := by decide +kernel
theorem dL_law_1129 : decode cL_law 1129 = .ok (.lcmp, 1) := by decide +kernel
theorem dL_law_1130 : decode cL_law 1130 = .ok (.ifCond .eq 5, 3) := by decide +kernel
theorem dL_law_1133 : decode cL_law 1133 = .ok (.iconst 0, 1) := by decide +kernel
theorem dL_law_1134 : decode cL_law 1134 = .ok (.ireturn, 1) := by decide +kernel
theorem dL_law_1135 : decode cL_law 1135 = .ok (.goto 847, 3) := by decide +kernel
theorem dL_law_1138 : decode cL_law 1138 = .ok (.aload_n 1, 1) := by decide +kernel
theorem dL_law_1139 : decode cL_law 1139 = .ok (.aload_n 0, 1) := by decide +kernel
theorem dL_law_1140 : decode cL_law 1140 = .ok (.iload 4, 2) := by decide +kernel
theorem dL_law_1142 : decode cL_law 1142 = .ok (.iconst 1, 1) := by decide +kernel
theorem dL_law_1143 : decode cL_law 1143 = .ok (.iadd, 1) := by decide +kernel
theorem dL_law_1144 : decode cL_law 1144 = .ok (.iaload, 1) := by decide +kernel
theorem dL_law_1145 : decode cL_law 1145 = .ok (.aload_n 0, 1) := by decide +kernel
theorem dL_law_1146 : decode cL_law 1146 = .ok (.iload 4, 2) := by decide +kernel
theorem dL_law_1148 : decode cL_law 1148 = .ok (.iconst 2, 1) := by decide +kernel
theorem dL_law_1149 : decode cL_law 1149 = .ok (.iadd, 1) := by decide +kernel
theorem dL_law_1150 : decode cL_law 1150 = .ok (.iaload, 1) := by decide +kernel
theorem dL_law_1151 : decode cL_law 1151 = .ok (.aload_n 3, 1) := by decide +kernel
theorem dL_law_1152 : decode cL_law 1152 = .ok (.invokestatic 160, 3) := by decide +kernel
theorem dL_law_1155 : decode cL_law 1155 = .ok (.istore 5, 2) := by decide +kernel
theorem dL_law_1157 : decode cL_law 1157 = .ok (.aload_n 2, 1) := by decide +kernel
theorem dL_law_1158 : decode cL_law 1158 = .ok (.aload_n 0, 1) := by decide +kernel
theorem dL_law_1159 : decode cL_law 1159 = .ok (.iload 4, 2) := by decide +kernel
theorem dL_law_1161 : decode cL_law 1161 = .ok (.iconst 1, 1) := by decide +kernel
theorem dL_law_1162 : decode cL_law 1162 = .ok (.iadd, 1) := by decide +kernel
theorem dL_law_1163 : decode cL_law 1163 = .ok (.iaload, 1) := by decide +kernel
theorem dL_law_1164 : decode cL_law 1164 = .ok (.aload_n 0, 1) := by decide +kernel
theorem dL_law_1165 : decode cL_law 1165 = .ok (.iload 4, 2) := by decide +kernel
theorem dL_law_1167 : decode cL_law 1167 = .ok (.iconst 2, 1) := by decide +kernel
theorem dL_law_1168 : decode cL_law 1168 = .ok (.iadd, 1) := by decide +kernel
theorem dL_law_1169 : decode cL_law 1169 = .ok (.iaload, 1) := by decide +kernel
theorem dL_law_1170 : decode cL_law 1170 = .ok (.invokevirtual 162, 3) := by decide +kernel
theorem dL_law_1173 : decode cL_law 1173 = .ok (.istore 6, 2) := by decide +kernel
theorem dL_law_1175 : decode cL_law 1175 = .ok (.aload_n 2, 1) := by decide +kernel
theorem dL_law_1176 : decode cL_law 1176 = .ok (.invokevirtual 108, 3) := by decide +kernel
theorem dL_law_1179 : decode cL_law 1179 = .ok (.iload 5, 2) := by decide +kernel
theorem dL_law_1181 : decode cL_law 1181 = .ok (.if_icmp .eq 5, 3) := by decide +kernel
theorem dL_law_1184 : decode cL_law 1184 = .ok (.iconst 0, 1) := by decide +kernel
theorem dL_law_1185 : decode cL_law 1185 = .ok (.ireturn, 1) := by decide +kernel
theorem dL_law_1186 : decode cL_law 1186 = .ok (.iload 5, 2) := by decide +kernel
theorem dL_law_1188 : decode cL_law 1188 = .ok (.ifCond .ne 15, 3) := by decide +kernel
theorem dL_law_1191 : decode cL_law 1191 = .ok (.aload_n 3, 1) := by decide +kernel
theorem dL_law_1192 : decode cL_law 1192 = .ok (.iconst 0, 1) := by decide +kernel
theorem dL_law_1193 : decode cL_law 1193 = .ok (.laload, 1) := by decide +kernel
theorem dL_law_1194 : decode cL_law 1194 = .ok (.iload 6, 2) := by decide +kernel
theorem dL_law_1196 : decode cL_law 1196 = .ok (.i2l, 1) := by decide +kernel
theorem dL_law_1197 : decode cL_law 1197 = .ok (.lcmp, 1) := by decide +kernel
theorem dL_law_1198 : decode cL_law 1198 = .ok (.ifCond .eq 5, 3) := by decide +kernel
theorem dL_law_1201 : decode cL_law 1201 = .ok (.iconst 0, 1) := by decide +kernel
theorem dL_law_1202 : decode cL_law 1202 = .ok (.ireturn, 1) := by decide +kernel
theorem dL_law_1203 : decode cL_law 1203 = .ok (.goto 779, 3) := by decide +kernel
theorem dL_law_1206 : decode cL_law 1206 = .ok (.aload_n 1, 1) := by decide +kernel
theorem dL_law_1207 : decode cL_law 1207 = .ok (.aload_n 0, 1) := by decide +kernel
theorem dL_law_1208 : decode cL_law 1208 = .ok (.iload 4, 2) := by decide +kernel
theorem dL_law_1210 : decode cL_law 1210 = .ok (.iconst 1, 1) := by decide +kernel
theorem dL_law_1211 : decode cL_law 1211 = .ok (.iadd, 1) := by decide +kernel
theorem dL_law_1212 : decode cL_law 1212 = .ok (.iaload, 1) := by decide +kernel
theorem dL_law_1213 : decode cL_law 1213 = .ok (.aload_n 0, 1) := by decide +kernel
theorem dL_law_1214 : decode cL_law 1214 = .ok (.iload 4, 2) := by decide +kernel
theorem dL_law_1216 : decode cL_law 1216 = .ok (.iconst 2, 1) := by decide +kernel
theorem dL_law_1217 : decode cL_law 1217 = .ok (.iadd, 1) := by decide +kernel
theorem dL_law_1218 : decode cL_law 1218 = .ok (.iaload, 1) := by decide +kernel
theorem dL_law_1219 : decode cL_law 1219 = .ok (.aload_n 3, 1) := by decide +kernel
theorem dL_law_1220 : decode cL_law 1220 = .ok (.invokestatic 163, 3) := by decide +kernel
theorem dL_law_1223 : decode cL_law 1223 = .ok (.istore 5, 2) := by decide +kernel
theorem dL_law_1225 : decode cL_law 1225 = .ok (.aload_n 2, 1) := by decide +kernel
theorem dL_law_1226 : decode cL_law 1226 = .ok (.aload_n 0, 1) := by decide +kernel
theorem dL_law_1227 : decode cL_law 1227 = .ok (.iload 4, 2) := by decide +kernel
theorem dL_law_1229 : decode cL_law 1229 = .ok (.iconst 1, 1) := by decide +kernel
theorem dL_law_1230 : decode cL_law 1230 = .ok (.iadd, 1) := by decide +kernel
theorem dL_law_1231 : decode cL_law 1231 = .ok (.iaload, 1) := by decide +kernel
theorem dL_law_1232 : decode cL_law 1232 = .ok (.aload_n 0, 1) := by decide +kernel
theorem dL_law_1233 : decode cL_law 1233 = .ok (.iload 4, 2) := by decide +kernel
theorem dL_law_1235 : decode cL_law 1235 = .ok (.iconst 2, 1) := by decide +kernel
theorem dL_law_1236 : decode cL_law 1236 = .ok (.iadd, 1) := by decide +kernel
theorem dL_law_1237 : decode cL_law 1237 = .ok (.iaload, 1) := by decide +kernel
theorem dL_law_1238 : decode cL_law 1238 = .ok (.invokevirtual 165, 3) := by decide +kernel
theorem dL_law_1241 : decode cL_law 1241 = .ok (.istore 6, 2) := by decide +kernel
theorem dL_law_1243 : decode cL_law 1243 = .ok (.aload_n 2, 1) := by decide +kernel
theorem dL_law_1244 : decode cL_law 1244 = .ok (.invokevirtual 108, 3) := by decide +kernel
theorem dL_law_1247 : decode cL_law 1247 = .ok (.iload 5, 2) := by decide +kernel
theorem dL_law_1249 : decode cL_law 1249 = .ok (.if_icmp .eq 5, 3) := by decide +kernel
theorem dL_law_1252 : decode cL_law 1252 = .ok (.iconst 0, 1) := by decide +kernel
theorem dL_law_1253 : decode cL_law 1253 = .ok (.ireturn, 1) := by decide +kernel
theorem dL_law_1254 : decode cL_law 1254 = .ok (.iload 5, 2) := by decide +kernel
theorem dL_law_1256 : decode cL_law 1256 = .ok (.ifCond .ne 15, 3) := by decide +kernel
theorem dL_law_1259 : decode cL_law 1259 = .ok (.aload_n 3, 1) := by decide +kernel
theorem dL_law_1260 : decode cL_law 1260 = .ok (.iconst 0, 1) := by decide +kernel
theorem dL_law_1261 : decode cL_law 1261 = .ok (.laload, 1) := by decide +kernel
theorem dL_law_1262 : decode cL_law 1262 = .ok (.iload 6, 2) := by decide +kernel
theorem dL_law_1264 : decode cL_law 1264 = .ok (.i2l, 1) := by decide +kernel
theorem dL_law_1265 : decode cL_law 1265 = .ok (.lcmp, 1) := by decide +kernel
theorem dL_law_1266 : decode cL_law 1266 = .ok (.ifCond .eq 5, 3) := by decide +kernel
theorem dL_law_1269 : decode cL_law 1269 = .ok (.iconst 0, 1) := by decide +kernel
theorem dL_law_1270 : decode cL_law 1270 = .ok (.ireturn, 1) := by decide +kernel
theorem dL_law_1271 : decode cL_law 1271 = .ok (.goto 711, 3) := by decide +kernel
theorem dL_law_1274 : decode cL_law 1274 = .ok (.aload_n 1, 1) := by decide +kernel
theorem dL_law_1275 : decode cL_law 1275 = .ok (.aload_n 3, 1) := by decide +kernel
theorem dL_law_1276 : decode cL_law 1276 = .ok (.invokestatic 166, 3) := by decide +kernel
theorem dL_law_1279 : decode cL_law 1279 = .ok (.istore 5, 2) := by decide +kernel
theorem dL_law_1281 : decode cL_law 1281 = .ok (.aload_n 2, 1) := by decide +kernel
theorem dL_law_1282 : decode cL_law 1282 = .ok (.invokevirtual 168, 3) := by decide +kernel
theorem dL_law_1285 : decode cL_law 1285 = .ok (.istore 6, 2) := by decide +kernel
theorem dL_law_1287 : decode cL_law 1287 = .ok (.aload_n 2, 1) := by decide +kernel
theorem dL_law_1288 : decode cL_law 1288 = .ok (.invokevirtual 108, 3) := by decide +kernel
theorem dL_law_1291 : decode cL_law 1291 = .ok (.iload 5, 2) := by decide +kernel
theorem dL_law_1293 : decode cL_law 1293 = .ok (.if_icmp .eq 5, 3) := by decide +kernel
theorem dL_law_1296 : decode cL_law 1296 = .ok (.iconst 0, 1) := by decide +kernel
theorem dL_law_1297 : decode cL_law 1297 = .ok (.ireturn, 1) := by decide +kernel
theorem dL_law_1298 : decode cL_law 1298 = .ok (.iload 5, 2) := by decide +kernel
theorem dL_law_1300 : decode cL_law 1300 = .ok (.ifCond .ne 15, 3) := by decide +kernel
theorem dL_law_1303 : decode cL_law 1303 = .ok (.aload_n 3, 1) := by decide +kernel
theorem dL_law_1304 : decode cL_law 1304 = .ok (.iconst 0, 1) := by decide +kernel
theorem dL_law_1305 : decode cL_law 1305 = .ok (.laload, 1) := by decide +kernel
theorem dL_law_1306 : decode cL_law 1306 = .ok (.iload 6, 2) := by decide +kernel
theorem dL_law_1308 : decode cL_law 1308 = .ok (.i2l, 1) := by decide +kernel
theorem dL_law_1309 : decode cL_law 1309 = .ok (.lcmp, 1) := by decide +kernel
theorem dL_law_1310 : decode cL_law 1310 = .ok (.ifCond .eq 5, 3) := by decide +kernel
theorem dL_law_1313 : decode cL_law 1313 = .ok (.iconst 0, 1) := by decide +kernel
theorem dL_law_1314 : decode cL_law 1314 = .ok (.ireturn, 1) := by decide +kernel
theorem dL_law_1315 : decode cL_law 1315 = .ok (.goto 667, 3) := by decide +kernel
theorem dL_law_1318 : decode cL_law 1318 = .ok (.aload_n 1, 1) := by decide +kernel
theorem dL_law_1319 : decode cL_law 1319 = .ok (.aload_n 0, 1) := by decide +kernel
theorem dL_law_1320 : decode cL_law 1320 = .ok (.iload 4, 2) := by decide +kernel
theorem dL_law_1322 : decode cL_law 1322 = .ok (.iconst 1, 1) := by decide +kernel
theorem dL_law_1323 : decode cL_law 1323 = .ok (.iadd, 1) := by decide +kernel
theorem dL_law_1324 : decode cL_law 1324 = .ok (.iaload, 1) := by decide +kernel
theorem dL_law_1325 : decode cL_law 1325 = .ok (.aload_n 0, 1) := by decide +kernel
theorem dL_law_1326 : decode cL_law 1326 = .ok (.iload 4, 2) := by decide +kernel
theorem dL_law_1328 : decode cL_law 1328 = .ok (.iconst 2, 1) := by decide +kernel
theorem dL_law_1329 : decode cL_law 1329 = .ok (.iadd, 1) := by decide +kernel
theorem dL_law_1330 : decode cL_law 1330 = .ok (.iaload, 1) := by decide +kernel
theorem dL_law_1331 : decode cL_law 1331 = .ok (.aload_n 0, 1) := by decide +kernel
theorem dL_law_1332 : decode cL_law 1332 = .ok (.iload 4, 2) := by decide +kernel
theorem dL_law_1334 : decode cL_law 1334 = .ok (.iconst 3, 1) := by decide +kernel
theorem dL_law_1335 : decode cL_law 1335 = .ok (.iadd, 1) := by decide +kernel
theorem dL_law_1336 : decode cL_law 1336 = .ok (.iaload, 1) := by decide +kernel
theorem dL_law_1337 : decode cL_law 1337 = .ok (.aload_n 0, 1) := by decide +kernel
theorem dL_law_1338 : decode cL_law 1338 = .ok (.iload 4, 2) := by decide +kernel
theorem dL_law_1340 : decode cL_law 1340 = .ok (.iconst 4, 1) := by decide +kernel
theorem dL_law_1341 : decode cL_law 1341 = .ok (.iadd, 1) := by decide +kernel
theorem dL_law_1342 : decode cL_law 1342 = .ok (.iaload, 1) := by decide +kernel
theorem dL_law_1343 : decode cL_law 1343 = .ok (.aload_n 3, 1) := by decide +kernel
theorem dL_law_1344 : decode cL_law 1344 = .ok (.invokestatic 169, 3) := by decide +kernel
theorem dL_law_1347 : decode cL_law 1347 = .ok (.istore 5, 2) := by decide +kernel
theorem dL_law_1349 : decode cL_law 1349 = .ok (.aload_n 2, 1) := by decide +kernel
theorem dL_law_1350 : decode cL_law 1350 = .ok (.aload_n 0, 1) := by decide +kernel
theorem dL_law_1351 : decode cL_law 1351 = .ok (.iload 4, 2) := by decide +kernel
theorem dL_law_1353 : decode cL_law 1353 = .ok (.iconst 1, 1) := by decide +kernel
theorem dL_law_1354 : decode cL_law 1354 = .ok (.iadd, 1) := by decide +kernel
theorem dL_law_1355 : decode cL_law 1355 = .ok (.iaload, 1) := by decide +kernel
theorem dL_law_1356 : decode cL_law 1356 = .ok (.aload_n 0, 1) := by decide +kernel
theorem dL_law_1357 : decode cL_law 1357 = .ok (.iload 4, 2) := by decide +kernel
theorem dL_law_1359 : decode cL_law 1359 = .ok (.iconst 2, 1) := by decide +kernel
theorem dL_law_1360 : decode cL_law 1360 = .ok (.iadd, 1) := by decide +kernel
theorem dL_law_1361 : decode cL_law 1361 = .ok (.iaload, 1) := by decide +kernel
theorem dL_law_1362 : decode cL_law 1362 = .ok (.aload_n 0, 1) := by decide +kernel
theorem dL_law_1363 : decode cL_law 1363 = .ok (.iload 4, 2) := by decide +kernel
theorem dL_law_1365 : decode cL_law 1365 = .ok (.iconst 3, 1) := by decide +kernel
theorem dL_law_1366 : decode cL_law 1366 = .ok (.iadd, 1) := by decide +kernel
theorem dL_law_1367 : decode cL_law 1367 = .ok (.iaload, 1) := by decide +kernel
theorem dL_law_1368 : decode cL_law 1368 = .ok (.aload_n 0, 1) := by decide +kernel
theorem dL_law_1369 : decode cL_law 1369 = .ok (.iload 4, 2) := by decide +kernel
theorem dL_law_1371 : decode cL_law 1371 = .ok (.iconst 4, 1) := by decide +kernel
theorem dL_law_1372 : decode cL_law 1372 = .ok (.iadd, 1) := by decide +kernel
theorem dL_law_1373 : decode cL_law 1373 = .ok (.iaload, 1) := by decide +kernel
theorem dL_law_1374 : decode cL_law 1374 = .ok (.invokevirtual 171, 3) := by decide +kernel
theorem dL_law_1377 : decode cL_law 1377 = .ok (.istore 6, 2) := by decide +kernel
theorem dL_law_1379 : decode cL_law 1379 = .ok (.aload_n 2, 1) := by decide +kernel
theorem dL_law_1380 : decode cL_law 1380 = .ok (.invokevirtual 108, 3) := by decide +kernel
theorem dL_law_1383 : decode cL_law 1383 = .ok (.iload 5, 2) := by decide +kernel
theorem dL_law_1385 : decode cL_law 1385 = .ok (.if_icmp .eq 5, 3) := by decide +kernel
theorem dL_law_1388 : decode cL_law 1388 = .ok (.iconst 0, 1) := by decide +kernel
theorem dL_law_1389 : decode cL_law 1389 = .ok (.ireturn, 1) := by decide +kernel
theorem dL_law_1390 : decode cL_law 1390 = .ok (.iload 5, 2) := by decide +kernel
theorem dL_law_1392 : decode cL_law 1392 = .ok (.ifCond .ne 15, 3) := by decide +kernel
theorem dL_law_1395 : decode cL_law 1395 = .ok (.aload_n 3, 1) := by decide +kernel
theorem dL_law_1396 : decode cL_law 1396 = .ok (.iconst 0, 1) := by decide +kernel
theorem dL_law_1397 : decode cL_law 1397 = .ok (.laload, 1) := by decide +kernel
theorem dL_law_1398 : decode cL_law 1398 = .ok (.iload 6, 2) := by decide +kernel
theorem dL_law_1400 : decode cL_law 1400 = .ok (.i2l, 1) := by decide +kernel
theorem dL_law_1401 : decode cL_law 1401 = .ok (.lcmp, 1) := by decide +kernel
theorem dL_law_1402 : decode cL_law 1402 = .ok (.ifCond .eq 5, 3) := by decide +kernel
theorem dL_law_1405 : decode cL_law 1405 = .ok (.iconst 0, 1) := by decide +kernel
theorem dL_law_1406 : decode cL_law 1406 = .ok (.ireturn, 1) := by decide +kernel
theorem dL_law_1407 : decode cL_law 1407 = .ok (.goto 575, 3) := by decide +kernel
theorem dL_law_1410 : decode cL_law 1410 = .ok (.aload_n 1, 1) := by decide +kernel
theorem dL_law_1411 : decode cL_law 1411 = .ok (.aload_n 0, 1) := by decide +kernel
theorem dL_law_1412 : decode cL_law 1412 = .ok (.iload 4, 2) := by decide +kernel
theorem dL_law_1414 : decode cL_law 1414 = .ok (.iconst 1, 1) := by decide +kernel
theorem dL_law_1415 : decode cL_law 1415 = .ok (.iadd, 1) := by decide +kernel
theorem dL_law_1416 : decode cL_law 1416 = .ok (.iaload, 1) := by decide +kernel
theorem dL_law_1417 : decode cL_law 1417 = .ok (.aload_n 0, 1) := by decide +kernel
theorem dL_law_1418 : decode cL_law 1418 = .ok (.iload 4, 2) := by decide +kernel
theorem dL_law_1420 : decode cL_law 1420 = .ok (.iconst 2, 1) := by decide +kernel
theorem dL_law_1421 : decode cL_law 1421 = .ok (.iadd, 1) := by decide +kernel
theorem dL_law_1422 : decode cL_law 1422 = .ok (.iaload, 1) := by decide +kernel
theorem dL_law_1423 : decode cL_law 1423 = .ok (.aload_n 3, 1) := by decide +kernel
theorem dL_law_1424 : decode cL_law 1424 = .ok (.invokestatic 172, 3) := by decide +kernel
theorem dL_law_1427 : decode cL_law 1427 = .ok (.istore 5, 2) := by decide +kernel
theorem dL_law_1429 : decode cL_law 1429 = .ok (.aload_n 2, 1) := by decide +kernel
theorem dL_law_1430 : decode cL_law 1430 = .ok (.aload_n 0, 1) := by decide +kernel
theorem dL_law_1431 : decode cL_law 1431 = .ok (.iload 4, 2) := by decide +kernel
theorem dL_law_1433 : decode cL_law 1433 = .ok (.iconst 1, 1) := by decide +kernel
theorem dL_law_1434 : decode cL_law 1434 = .ok (.iadd, 1) := by decide +kernel
theorem dL_law_1435 : decode cL_law 1435 = .ok (.iaload, 1) := by decide +kernel
theorem dL_law_1436 : decode cL_law 1436 = .ok (.aload_n 0, 1) := by decide +kernel
theorem dL_law_1437 : decode cL_law 1437 = .ok (.iload 4, 2) := by decide +kernel
theorem dL_law_1439 : decode cL_law 1439 = .ok (.iconst 2, 1) := by decide +kernel
theorem dL_law_1440 : decode cL_law 1440 = .ok (.iadd, 1) := by decide +kernel
theorem dL_law_1441 : decode cL_law 1441 = .ok (.iaload, 1) := by decide +kernel
theorem dL_law_1442 : decode cL_law 1442 = .ok (.invokevirtual 174, 3) := by decide +kernel
theorem dL_law_1445 : decode cL_law 1445 = .ok (.istore 6, 2) := by decide +kernel
theorem dL_law_1447 : decode cL_law 1447 = .ok (.aload_n 2, 1) := by decide +kernel
theorem dL_law_1448 : decode cL_law 1448 = .ok (.invokevirtual 108, 3) := by decide +kernel
theorem dL_law_1451 : decode cL_law 1451 = .ok (.iload 5, 2) := by decide +kernel
theorem dL_law_1453 : decode cL_law 1453 = .ok (.if_icmp .eq 5, 3) := by decide +kernel
theorem dL_law_1456 : decode cL_law 1456 = .ok (.iconst 0, 1) := by decide +kernel
theorem dL_law_1457 : decode cL_law 1457 = .ok (.ireturn, 1) := by decide +kernel
theorem dL_law_1458 : decode cL_law 1458 = .ok (.iload 5, 2) := by decide +kernel
theorem dL_law_1460 : decode cL_law 1460 = .ok (.ifCond .ne 15, 3) := by decide +kernel
theorem dL_law_1463 : decode cL_law 1463 = .ok (.aload_n 3, 1) := by decide +kernel
theorem dL_law_1464 : decode cL_law 1464 = .ok (.iconst 0, 1) := by decide +kernel
theorem dL_law_1465 : decode cL_law 1465 = .ok (.laload, 1) := by decide +kernel
theorem dL_law_1466 : decode cL_law 1466 = .ok (.iload 6, 2) := by decide +kernel
theorem dL_law_1468 : decode cL_law 1468 = .ok (.i2l, 1) := by decide +kernel
theorem dL_law_1469 : decode cL_law 1469 = .ok (.lcmp, 1) := by decide +kernel
theorem dL_law_1470 : decode cL_law 1470 = .ok (.ifCond .eq 5, 3) := by decide +kernel
theorem dL_law_1473 : decode cL_law 1473 = .ok (.iconst 0, 1) := by decide +kernel
theorem dL_law_1474 : decode cL_law 1474 = .ok (.ireturn, 1) := by decide +kernel
theorem dL_law_1475 : decode cL_law 1475 = .ok (.goto 507, 3) := by decide +kernel
theorem dL_law_1478 : decode cL_law 1478 = .ok (.aload_n 1, 1) := by decide +kernel
theorem dL_law_1479 : decode cL_law 1479 = .ok (.aload_n 0, 1) := by decide +kernel
theorem dL_law_1480 : decode cL_law 1480 = .ok (.iload 4, 2) := by decide +kernel
theorem dL_law_1482 : decode cL_law 1482 = .ok (.iconst 1, 1) := by decide +kernel
theorem dL_law_1483 : decode cL_law 1483 = .ok (.iadd, 1) := by decide +kernel
theorem dL_law_1484 : decode cL_law 1484 = .ok (.iaload, 1) := by decide +kernel
theorem dL_law_1485 : decode cL_law 1485 = .ok (.aload_n 0, 1) := by decide +kernel
theorem dL_law_1486 : decode cL_law 1486 = .ok (.iload 4, 2) := by decide +kernel
theorem dL_law_1488 : decode cL_law 1488 = .ok (.iconst 2, 1) := by decide +kernel
theorem dL_law_1489 : decode cL_law 1489 = .ok (.iadd, 1) := by decide +kernel
theorem dL_law_1490 : decode cL_law 1490 = .ok (.iaload, 1) := by decide +kernel
theorem dL_law_1491 : decode cL_law 1491 = .ok (.aload_n 3, 1) := by decide +kernel
theorem dL_law_1492 : decode cL_law 1492 = .ok (.invokestatic 175, 3) := by decide +kernel
theorem dL_law_1495 : decode cL_law 1495 = .ok (.istore 5, 2) := by decide +kernel
theorem dL_law_1497 : decode cL_law 1497 = .ok (.aload_n 2, 1) := by decide +kernel
theorem dL_law_1498 : decode cL_law 1498 = .ok (.aload_n 0, 1) := by decide +kernel
theorem dL_law_1499 : decode cL_law 1499 = .ok (.iload 4, 2) := by decide +kernel
theorem dL_law_1501 : decode cL_law 1501 = .ok (.iconst 1, 1) := by decide +kernel
theorem dL_law_1502 : decode cL_law 1502 = .ok (.iadd, 1) := by decide +kernel
theorem dL_law_1503 : decode cL_law 1503 = .ok (.iaload, 1) := by decide +kernel
theorem dL_law_1504 : decode cL_law 1504 = .ok (.aload_n 0, 1) := by decide +kernel
theorem dL_law_1505 : decode cL_law 1505 = .ok (.iload 4, 2) := by decide +kernel
theorem dL_law_1507 : decode cL_law 1507 = .ok (.iconst 2, 1) := by decide +kernel
theorem dL_law_1508 : decode cL_law 1508 = .ok (.iadd, 1) := by decide +kernel
theorem dL_law_1509 : decode cL_law 1509 = .ok (.iaload, 1) := by decide +kernel
theorem dL_law_1510 : decode cL_law 1510 = .ok (.invokevirtual 177, 3) := by decide +kernel
theorem dL_law_1513 : decode cL_law 1513 = .ok (.istore 6, 2) := by decide +kernel
theorem dL_law_1515 : decode cL_law 1515 = .ok (.aload_n 2, 1) := by decide +kernel
theorem dL_law_1516 : decode cL_law 1516 = .ok (.invokevirtual 108, 3) := by decide +kernel
theorem dL_law_1519 : decode cL_law 1519 = .ok (.iload 5, 2) := by decide +kernel
theorem dL_law_1521 : decode cL_law 1521 = .ok (.if_icmp .eq 5, 3) := by decide +kernel
theorem dL_law_1524 : decode cL_law 1524 = .ok (.iconst 0, 1) := by decide +kernel
theorem dL_law_1525 : decode cL_law 1525 = .ok (.ireturn, 1) := by decide +kernel
theorem dL_law_1526 : decode cL_law 1526 = .ok (.iload 5, 2) := by decide +kernel
theorem dL_law_1528 : decode cL_law 1528 = .ok (.ifCond .ne 15, 3) := by decide +kernel
theorem dL_law_1531 : decode cL_law 1531 = .ok (.aload_n 3, 1) := by decide +kernel
theorem dL_law_1532 : decode cL_law 1532 = .ok (.iconst 0, 1) := by decide +kernel
theorem dL_law_1533 : decode cL_law 1533 = .ok (.laload, 1) := by decide +kernel
theorem dL_law_1534 : decode cL_law 1534 = .ok (.iload 6, 2) := by decide +kernel
theorem dL_law_1536 : decode cL_law 1536 = .ok (.i2l, 1) := by decide +kernel
theorem dL_law_1537 : decode cL_law 1537 = .ok (.lcmp, 1) := by decide +kernel
theorem dL_law_1538 : decode cL_law 1538 = .ok (.ifCond .eq 5, 3) := by decide +kernel
theorem dL_law_1541 : decode cL_law 1541 = .ok (.iconst 0, 1) := by decide +kernel
theorem dL_law_1542 : decode cL_law 1542 = .ok (.ireturn, 1) := by decide +kernel
theorem dL_law_1543 : decode cL_law 1543 = .ok (.goto 439, 3) := by decide +kernel
theorem dL_law_1546 : decode cL_law 1546 = .ok (.aload_n 1, 1) := by decide +kernel
theorem dL_law_1547 : decode cL_law 1547 = .ok (.aload_n 0, 1) := by decide +kernel
theorem dL_law_1548 : decode cL_law 1548 = .ok (.iload 4, 2) := by decide +kernel
theorem dL_law_1550 : decode cL_law 1550 = .ok (.iconst 1, 1) := by decide +kernel
theorem dL_law_1551 : decode cL_law 1551 = .ok (.iadd, 1) := by decide +kernel
theorem dL_law_1552 : decode cL_law 1552 = .ok (.iaload, 1) := by decide +kernel
theorem dL_law_1553 : decode cL_law 1553 = .ok (.aload_n 0, 1) := by decide +kernel
theorem dL_law_1554 : decode cL_law 1554 = .ok (.iload 4, 2) := by decide +kernel
theorem dL_law_1556 : decode cL_law 1556 = .ok (.iconst 2, 1) := by decide +kernel
theorem dL_law_1557 : decode cL_law 1557 = .ok (.iadd, 1) := by decide +kernel
theorem dL_law_1558 : decode cL_law 1558 = .ok (.iaload, 1) := by decide +kernel
theorem dL_law_1559 : decode cL_law 1559 = .ok (.aload_n 3, 1) := by decide +kernel
theorem dL_law_1560 : decode cL_law 1560 = .ok (.invokestatic 178, 3) := by decide +kernel
theorem dL_law_1563 : decode cL_law 1563 = .ok (.istore 5, 2) := by decide +kernel
theorem dL_law_1565 : decode cL_law 1565 = .ok (.aload_n 2, 1) := by decide +kernel
theorem dL_law_1566 : decode cL_law 1566 = .ok (.aload_n 0, 1) := by decide +kernel
theorem dL_law_1567 : decode cL_law 1567 = .ok (.iload 4, 2) := by decide +kernel
theorem dL_law_1569 : decode cL_law 1569 = .ok (.iconst 1, 1) := by decide +kernel
theorem dL_law_1570 : decode cL_law 1570 = .ok (.iadd, 1) := by decide +kernel
theorem dL_law_1571 : decode cL_law 1571 = .ok (.iaload, 1) := by decide +kernel
theorem dL_law_1572 : decode cL_law 1572 = .ok (.aload_n 0, 1) := by decide +kernel
theorem dL_law_1573 : decode cL_law 1573 = .ok (.iload 4, 2) := by decide +kernel
theorem dL_law_1575 : decode cL_law 1575 = .ok (.iconst 2, 1) := by decide +kernel
theorem dL_law_1576 : decode cL_law 1576 = .ok (.iadd, 1) := by decide +kernel
theorem dL_law_1577 : decode cL_law 1577 = .ok (.iaload, 1) := by decide +kernel
theorem dL_law_1578 : decode cL_law 1578 = .ok (.invokevirtual 180, 3) := by decide +kernel
theorem dL_law_1581 : decode cL_law 1581 = .ok (.istore 6, 2) := by decide +kernel
theorem dL_law_1583 : decode cL_law 1583 = .ok (.aload_n 2, 1) := by decide +kernel
theorem dL_law_1584 : decode cL_law 1584 = .ok (.invokevirtual 108, 3) := by decide +kernel
theorem dL_law_1587 : decode cL_law 1587 = .ok (.iload 5, 2) := by decide +kernel
theorem dL_law_1589 : decode cL_law 1589 = .ok (.if_icmp .eq 5, 3) := by decide +kernel
theorem dL_law_1592 : decode cL_law 1592 = .ok (.iconst 0, 1) := by decide +kernel
theorem dL_law_1593 : decode cL_law 1593 = .ok (.ireturn, 1) := by decide +kernel
theorem dL_law_1594 : decode cL_law 1594 = .ok (.iload 5, 2) := by decide +kernel
theorem dL_law_1596 : decode cL_law 1596 = .ok (.ifCond .ne 15, 3) := by decide +kernel
theorem dL_law_1599 : decode cL_law 1599 = .ok (.aload_n 3, 1) := by decide +kernel
theorem dL_law_1600 : decode cL_law 1600 = .ok (.iconst 0, 1) := by decide +kernel
theorem dL_law_1601 : decode cL_law 1601 = .ok (.laload, 1) := by decide +kernel
theorem dL_law_1602 : decode cL_law 1602 = .ok (.iload 6, 2) := by decide +kernel
theorem dL_law_1604 : decode cL_law 1604 = .ok (.i2l, 1) := by decide +kernel
theorem dL_law_1605 : decode cL_law 1605 = .ok (.lcmp, 1) := by decide +kernel
theorem dL_law_1606 : decode cL_law 1606 = .ok (.ifCond .eq 5, 3) := by decide +kernel
theorem dL_law_1609 : decode cL_law 1609 = .ok (.iconst 0, 1) := by decide +kernel
theorem dL_law_1610 : decode cL_law 1610 = .ok (.ireturn, 1) := by decide +kernel
theorem dL_law_1611 : decode cL_law 1611 = .ok (.goto 371, 3) := by decide +kernel
theorem dL_law_1614 : decode cL_law 1614 = .ok (.aload_n 1, 1) := by decide +kernel
theorem dL_law_1615 : decode cL_law 1615 = .ok (.aload_n 0, 1) := by decide +kernel
theorem dL_law_1616 : decode cL_law 1616 = .ok (.iload 4, 2) := by decide +kernel
theorem dL_law_1618 : decode cL_law 1618 = .ok (.iconst 1, 1) := by decide +kernel
theorem dL_law_1619 : decode cL_law 1619 = .ok (.iadd, 1) := by decide +kernel
theorem dL_law_1620 : decode cL_law 1620 = .ok (.iaload, 1) := by decide +kernel
theorem dL_law_1621 : decode cL_law 1621 = .ok (.aload_n 3, 1) := by decide +kernel
theorem dL_law_1622 : decode cL_law 1622 = .ok (.invokestatic 181, 3) := by decide +kernel
theorem dL_law_1625 : decode cL_law 1625 = .ok (.istore 5, 2) := by decide +kernel
theorem dL_law_1627 : decode cL_law 1627 = .ok (.aload_n 2, 1) := by decide +kernel
theorem dL_law_1628 : decode cL_law 1628 = .ok (.aload_n 0, 1) := by decide +kernel
theorem dL_law_1629 : decode cL_law 1629 = .ok (.iload 4, 2) := by decide +kernel
theorem dL_law_1631 : decode cL_law 1631 = .ok (.iconst 1, 1) := by decide +kernel
theorem dL_law_1632 : decode cL_law 1632 = .ok (.iadd, 1) := by decide +kernel
theorem dL_law_1633 : decode cL_law 1633 = .ok (.iaload, 1) := by decide +kernel
theorem dL_law_1634 : decode cL_law 1634 = .ok (.invokevirtual 183, 3) := by decide +kernel
theorem dL_law_1637 : decode cL_law 1637 = .ok (.istore 6, 2) := by decide +kernel
theorem dL_law_1639 : decode cL_law 1639 = .ok (.aload_n 2, 1) := by decide +kernel
theorem dL_law_1640 : decode cL_law 1640 = .ok (.invokevirtual 108, 3) := by decide +kernel
theorem dL_law_1643 : decode cL_law 1643 = .ok (.iload 5, 2) := by decide +kernel
theorem dL_law_1645 : decode cL_law 1645 = .ok (.if_icmp .eq 5, 3) := by decide +kernel
theorem dL_law_1648 : decode cL_law 1648 = .ok (.iconst 0, 1) := by decide +kernel
theorem dL_law_1649 : decode cL_law 1649 = .ok (.ireturn, 1) := by decide +kernel
theorem dL_law_1650 : decode cL_law 1650 = .ok (.iload 5, 2) := by decide +kernel
theorem dL_law_1652 : decode cL_law 1652 = .ok (.ifCond .ne 15, 3) := by decide +kernel
theorem dL_law_1655 : decode cL_law 1655 = .ok (.aload_n 3, 1) := by decide +kernel
theorem dL_law_1656 : decode cL_law 1656 = .ok (.iconst 0, 1) := by decide +kernel
theorem dL_law_1657 : decode cL_law 1657 = .ok (.laload, 1) := by decide +kernel
theorem dL_law_1658 : decode cL_law 1658 = .ok (.iload 6, 2) := by decide +kernel
theorem dL_law_1660 : decode cL_law 1660 = .ok (.i2l, 1) := by decide +kernel
theorem dL_law_1661 : decode cL_law 1661 = .ok (.lcmp, 1) := by decide +kernel
theorem dL_law_1662 : decode cL_law 1662 = .ok (.ifCond .eq 5, 3) := by decide +kernel
theorem dL_law_1665 : decode cL_law 1665 = .ok (.iconst 0, 1) := by decide +kernel
theorem dL_law_1666 : decode cL_law 1666 = .ok (.ireturn, 1) := by decide +kernel
theorem dL_law_1667 : decode cL_law 1667 = .ok (.goto 315, 3) := by decide +kernel
theorem dL_law_1670 : decode cL_law 1670 = .ok (.aload_n 1, 1) := by decide +kernel
theorem dL_law_1671 : decode cL_law 1671 = .ok (.aload_n 0, 1) := by decide +kernel
theorem dL_law_1672 : decode cL_law 1672 = .ok (.iload 4, 2) := by decide +kernel
theorem dL_law_1674 : decode cL_law 1674 = .ok (.iconst 1, 1) := by decide +kernel
theorem dL_law_1675 : decode cL_law 1675 = .ok (.iadd, 1) := by decide +kernel
theorem dL_law_1676 : decode cL_law 1676 = .ok (.iaload, 1) := by decide +kernel
theorem dL_law_1677 : decode cL_law 1677 = .ok (.aload_n 0, 1) := by decide +kernel
theorem dL_law_1678 : decode cL_law 1678 = .ok (.iload 4, 2) := by decide +kernel
theorem dL_law_1680 : decode cL_law 1680 = .ok (.iconst 2, 1) := by decide +kernel
theorem dL_law_1681 : decode cL_law 1681 = .ok (.iadd, 1) := by decide +kernel
theorem dL_law_1682 : decode cL_law 1682 = .ok (.iaload, 1) := by decide +kernel
theorem dL_law_1683 : decode cL_law 1683 = .ok (.i2l, 1) := by decide +kernel
theorem dL_law_1684 : decode cL_law 1684 = .ok (.bipush 32, 2) := by decide +kernel
theorem dL_law_1686 : decode cL_law 1686 = .ok (.lshl, 1) := by decide +kernel
theorem dL_law_1687 : decode cL_law 1687 = .ok (.aload_n 0, 1) := by decide +kernel
theorem dL_law_1688 : decode cL_law 1688 = .ok (.iload 4, 2) := by decide +kernel
theorem dL_law_1690 : decode cL_law 1690 = .ok (.iconst 3, 1) := by decide +kernel
theorem dL_law_1691 : decode cL_law 1691 = .ok (.iadd, 1) := by decide +kernel
theorem dL_law_1692 : decode cL_law 1692 = .ok (.iaload, 1) := by decide +kernel
theorem dL_law_1693 : decode cL_law 1693 = .ok (.i2l, 1) := by decide +kernel
theorem dL_law_1694 : decode cL_law 1694 = .ok (.ldc2_w 184, 3) := by decide +kernel
theorem dL_law_1697 : decode cL_law 1697 = .ok (.land, 1) := by decide +kernel
theorem dL_law_1698 : decode cL_law 1698 = .ok (.lor, 1) := by decide +kernel
theorem dL_law_1699 : decode cL_law 1699 = .ok (.aload_n 3, 1) := by decide +kernel
theorem dL_law_1700 : decode cL_law 1700 = .ok (.invokestatic 186, 3) := by decide +kernel
theorem dL_law_1703 : decode cL_law 1703 = .ok (.istore 5, 2) := by decide +kernel
theorem dL_law_1705 : decode cL_law 1705 = .ok (.aload_n 2, 1) := by decide +kernel
theorem dL_law_1706 : decode cL_law 1706 = .ok (.aload_n 0, 1) := by decide +kernel
theorem dL_law_1707 : decode cL_law 1707 = .ok (.iload 4, 2) := by decide +kernel
theorem dL_law_1709 : decode cL_law 1709 = .ok (.iconst 1, 1) := by decide +kernel
theorem dL_law_1710 : decode cL_law 1710 = .ok (.iadd, 1) := by decide +kernel
theorem dL_law_1711 : decode cL_law 1711 = .ok (.iaload, 1) := by decide +kernel
theorem dL_law_1712 : decode cL_law 1712 = .ok (.aload_n 0, 1) := by decide +kernel
theorem dL_law_1713 : decode cL_law 1713 = .ok (.iload 4, 2) := by decide +kernel
theorem dL_law_1715 : decode cL_law 1715 = .ok (.iconst 2, 1) := by decide +kernel
theorem dL_law_1716 : decode cL_law 1716 = .ok (.iadd, 1) := by decide +kernel
theorem dL_law_1717 : decode cL_law 1717 = .ok (.iaload, 1) := by decide +kernel
theorem dL_law_1718 : decode cL_law 1718 = .ok (.i2l, 1) := by decide +kernel
theorem dL_law_1719 : decode cL_law 1719 = .ok (.bipush 32, 2) := by decide +kernel
theorem dL_law_1721 : decode cL_law 1721 = .ok (.lshl, 1) := by decide +kernel
theorem dL_law_1722 : decode cL_law 1722 = .ok (.aload_n 0, 1) := by decide +kernel
theorem dL_law_1723 : decode cL_law 1723 = .ok (.iload 4, 2) := by decide +kernel
theorem dL_law_1725 : decode cL_law 1725 = .ok (.iconst 3, 1) := by decide +kernel
theorem dL_law_1726 : decode cL_law 1726 = .ok (.iadd, 1) := by decide +kernel
theorem dL_law_1727 : decode cL_law 1727 = .ok (.iaload, 1) := by decide +kernel
theorem dL_law_1728 : decode cL_law 1728 = .ok (.i2l, 1) := by decide +kernel
theorem dL_law_1729 : decode cL_law 1729 = .ok (.ldc2_w 184, 3) := by decide +kernel
theorem dL_law_1732 : decode cL_law 1732 = .ok (.land, 1) := by decide +kernel
theorem dL_law_1733 : decode cL_law 1733 = .ok (.lor, 1) := by decide +kernel
theorem dL_law_1734 : decode cL_law 1734 = .ok (.invokevirtual 189, 3) := by decide +kernel
theorem dL_law_1737 : decode cL_law 1737 = .ok (.istore 6, 2) := by decide +kernel
theorem dL_law_1739 : decode cL_law 1739 = .ok (.aload_n 2, 1) := by decide +kernel
theorem dL_law_1740 : decode cL_law 1740 = .ok (.invokevirtual 108, 3) := by decide +kernel
theorem dL_law_1743 : decode cL_law 1743 = .ok (.iload 5, 2) := by decide +kernel
theorem dL_law_1745 : decode cL_law 1745 = .ok (.if_icmp .eq 5, 3) := by decide +kernel
theorem dL_law_1748 : decode cL_law 1748 = .ok (.iconst 0, 1) := by decide +kernel
theorem dL_law_1749 : decode cL_law 1749 = .ok (.ireturn, 1) := by decide +kernel
theorem dL_law_1750 : decode cL_law 1750 = .ok (.iload 5, 2) := by decide +kernel
theorem dL_law_1752 : decode cL_law 1752 = .ok (.ifCond .ne 15, 3) := by decide +kernel
theorem dL_law_1755 : decode cL_law 1755 = .ok (.aload_n 3, 1) := by decide +kernel
theorem dL_law_1756 : decode cL_law 1756 = .ok (.iconst 0, 1) := by decide +kernel
theorem dL_law_1757 : decode cL_law 1757 = .ok (.laload, 1) := by decide +kernel
theorem dL_law_1758 : decode cL_law 1758 = .ok (.iload 6, 2) := by decide +kernel
theorem dL_law_1760 : decode cL_law 1760 = .ok (.i2l, 1) := by decide +kernel
theorem dL_law_1761 : decode cL_law 1761 = .ok (.lcmp, 1) := by decide +kernel
theorem dL_law_1762 : decode cL_law 1762 = .ok (.ifCond .eq 5, 3) := by decide +kernel
theorem dL_law_1765 : decode cL_law 1765 = .ok (.iconst 0, 1) := by decide +kernel
theorem dL_law_1766 : decode cL_law 1766 = .ok (.ireturn, 1) := by decide +kernel
theorem dL_law_1767 : decode cL_law 1767 = .ok (.goto 215, 3) := by decide +kernel
theorem dL_law_1770 : decode cL_law 1770 = .ok (.aload_n 1, 1) := by decide +kernel
theorem dL_law_1771 : decode cL_law 1771 = .ok (.aload_n 0, 1) := by decide +kernel
theorem dL_law_1772 : decode cL_law 1772 = .ok (.iload 4, 2) := by decide +kernel
theorem dL_law_1774 : decode cL_law 1774 = .ok (.iconst 1, 1) := by decide +kernel
theorem dL_law_1775 : decode cL_law 1775 = .ok (.iadd, 1) := by decide +kernel
theorem dL_law_1776 : decode cL_law 1776 = .ok (.iaload, 1) := by decide +kernel
theorem dL_law_1777 : decode cL_law 1777 = .ok (.i2l, 1) := by decide +kernel
theorem dL_law_1778 : decode cL_law 1778 = .ok (.bipush 32, 2) := by decide +kernel
theorem dL_law_1780 : decode cL_law 1780 = .ok (.lshl, 1) := by decide +kernel
theorem dL_law_1781 : decode cL_law 1781 = .ok (.aload_n 0, 1) := by decide +kernel
theorem dL_law_1782 : decode cL_law 1782 = .ok (.iload 4, 2) := by decide +kernel
theorem dL_law_1784 : decode cL_law 1784 = .ok (.iconst 2, 1) := by decide +kernel
theorem dL_law_1785 : decode cL_law 1785 = .ok (.iadd, 1) := by decide +kernel
theorem dL_law_1786 : decode cL_law 1786 = .ok (.iaload, 1) := by decide +kernel
theorem dL_law_1787 : decode cL_law 1787 = .ok (.i2l, 1) := by decide +kernel
theorem dL_law_1788 : decode cL_law 1788 = .ok (.ldc2_w 184, 3) := by decide +kernel
theorem dL_law_1791 : decode cL_law 1791 = .ok (.land, 1) := by decide +kernel
theorem dL_law_1792 : decode cL_law 1792 = .ok (.lor, 1) := by decide +kernel
theorem dL_law_1793 : decode cL_law 1793 = .ok (.aload_n 0, 1) := by decide +kernel
theorem dL_law_1794 : decode cL_law 1794 = .ok (.iload 4, 2) := by decide +kernel
theorem dL_law_1796 : decode cL_law 1796 = .ok (.iconst 3, 1) := by decide +kernel
theorem dL_law_1797 : decode cL_law 1797 = .ok (.iadd, 1) := by decide +kernel
theorem dL_law_1798 : decode cL_law 1798 = .ok (.iaload, 1) := by decide +kernel
theorem dL_law_1799 : decode cL_law 1799 = .ok (.aload_n 3, 1) := by decide +kernel
theorem dL_law_1800 : decode cL_law 1800 = .ok (.invokestatic 190, 3) := by decide +kernel
theorem dL_law_1803 : decode cL_law 1803 = .ok (.istore 5, 2) := by decide +kernel
theorem dL_law_1805 : decode cL_law 1805 = .ok (.aload_n 2, 1) := by decide +kernel
theorem dL_law_1806 : decode cL_law 1806 = .ok (.aload_n 0, 1) := by decide +kernel
theorem dL_law_1807 : decode cL_law 1807 = .ok (.iload 4, 2) := by decide +kernel
theorem dL_law_1809 : decode cL_law 1809 = .ok (.iconst 1, 1) := by decide +kernel
theorem dL_law_1810 : decode cL_law 1810 = .ok (.iadd, 1) := by decide +kernel
theorem dL_law_1811 : decode cL_law 1811 = .ok (.iaload, 1) := by decide +kernel
theorem dL_law_1812 : decode cL_law 1812 = .ok (.i2l, 1) := by decide +kernel
theorem dL_law_1813 : decode cL_law 1813 = .ok (.bipush 32, 2) := by decide +kernel
theorem dL_law_1815 : decode cL_law 1815 = .ok (.lshl, 1) := by decide +kernel
theorem dL_law_1816 : decode cL_law 1816 = .ok (.aload_n 0, 1) := by decide +kernel
theorem dL_law_1817 : decode cL_law 1817 = .ok (.iload 4, 2) := by decide +kernel
theorem dL_law_1819 : decode cL_law 1819 = .ok (.iconst 2, 1) := by decide +kernel
theorem dL_law_1820 : decode cL_law 1820 = .ok (.iadd, 1) := by decide +kernel
theorem dL_law_1821 : decode cL_law 1821 = .ok (.iaload, 1) := by decide +kernel
theorem dL_law_1822 : decode cL_law 1822 = .ok (.i2l, 1) := by decide +kernel
theorem dL_law_1823 : decode cL_law 1823 = .ok (.ldc2_w 184, 3) := by decide +kernel
theorem dL_law_1826 : decode cL_law 1826 = .ok (.land, 1) := by decide +kernel
theorem dL_law_1827 : decode cL_law 1827 = .ok (.lor, 1) := by decide +kernel
theorem dL_law_1828 : decode cL_law 1828 = .ok (.aload_n 0, 1) := by decide +kernel
theorem dL_law_1829 : decode cL_law 1829 = .ok (.iload 4, 2) := by decide +kernel
theorem dL_law_1831 : decode cL_law 1831 = .ok (.iconst 3, 1) := by decide +kernel
theorem dL_law_1832 : decode cL_law 1832 = .ok (.iadd, 1) := by decide +kernel
theorem dL_law_1833 : decode cL_law 1833 = .ok (.iaload, 1) := by decide +kernel
theorem dL_law_1834 : decode cL_law 1834 = .ok (.invokevirtual 193, 3) := by decide +kernel
theorem dL_law_1837 : decode cL_law 1837 = .ok (.istore 6, 2) := by decide +kernel
theorem dL_law_1839 : decode cL_law 1839 = .ok (.aload_n 2, 1) := by decide +kernel
theorem dL_law_1840 : decode cL_law 1840 = .ok (.invokevirtual 108, 3) := by decide +kernel
theorem dL_law_1843 : decode cL_law 1843 = .ok (.iload 5, 2) := by decide +kernel
theorem dL_law_1845 : decode cL_law 1845 = .ok (.if_icmp .eq 5, 3) := by decide +kernel
theorem dL_law_1848 : decode cL_law 1848 = .ok (.iconst 0, 1) := by decide +kernel
theorem dL_law_1849 : decode cL_law 1849 = .ok (.ireturn, 1) := by decide +kernel
theorem dL_law_1850 : decode cL_law 1850 = .ok (.iload 5, 2) := by decide +kernel
theorem dL_law_1852 : decode cL_law 1852 = .ok (.ifCond .ne 15, 3) := by decide +kernel
theorem dL_law_1855 : decode cL_law 1855 = .ok (.aload_n 3, 1) := by decide +kernel
theorem dL_law_1856 : decode cL_law 1856 = .ok (.iconst 0, 1) := by decide +kernel
theorem dL_law_1857 : decode cL_law 1857 = .ok (.laload, 1) := by decide +kernel
theorem dL_law_1858 : decode cL_law 1858 = .ok (.iload 6, 2) := by decide +kernel
theorem dL_law_1860 : decode cL_law 1860 = .ok (.i2l, 1) := by decide +kernel
theorem dL_law_1861 : decode cL_law 1861 = .ok (.lcmp, 1) := by decide +kernel
theorem dL_law_1862 : decode cL_law 1862 = .ok (.ifCond .eq 5, 3) := by decide +kernel
theorem dL_law_1865 : decode cL_law 1865 = .ok (.iconst 0, 1) := by decide +kernel
theorem dL_law_1866 : decode cL_law 1866 = .ok (.ireturn, 1) := by decide +kernel
theorem dL_law_1867 : decode cL_law 1867 = .ok (.goto 115, 3) := by decide +kernel
theorem dL_law_1870 : decode cL_law 1870 = .ok (.aload_n 1, 1) := by decide +kernel
theorem dL_law_1871 : decode cL_law 1871 = .ok (.aload_n 0, 1) := by decide +kernel
theorem dL_law_1872 : decode cL_law 1872 = .ok (.iload 4, 2) := by decide +kernel
theorem dL_law_1874 : decode cL_law 1874 = .ok (.iconst 1, 1) := by decide +kernel
theorem dL_law_1875 : decode cL_law 1875 = .ok (.iadd, 1) := by decide +kernel
theorem dL_law_1876 : decode cL_law 1876 = .ok (.iaload, 1) := by decide +kernel
theorem dL_law_1877 : decode cL_law 1877 = .ok (.aload_n 3, 1) := by decide +kernel
theorem dL_law_1878 : decode cL_law 1878 = .ok (.invokestatic 194, 3) := by decide +kernel
theorem dL_law_1881 : decode cL_law 1881 = .ok (.istore 5, 2) := by decide +kernel
theorem dL_law_1883 : decode cL_law 1883 = .ok (.aload_n 2, 1) := by decide +kernel
theorem dL_law_1884 : decode cL_law 1884 = .ok (.aload_n 0, 1) := by decide +kernel
theorem dL_law_1885 : decode cL_law 1885 = .ok (.iload 4, 2) := by decide +kernel
theorem dL_law_1887 : decode cL_law 1887 = .ok (.iconst 1, 1) := by decide +kernel
theorem dL_law_1888 : decode cL_law 1888 = .ok (.iadd, 1) := by decide +kernel
theorem dL_law_1889 : decode cL_law 1889 = .ok (.iaload, 1) := by decide +kernel
theorem dL_law_1890 : decode cL_law 1890 = .ok (.invokevirtual 196, 3) := by decide +kernel
theorem dL_law_1893 : decode cL_law 1893 = .ok (.istore 6, 2) := by decide +kernel
theorem dL_law_1895 : decode cL_law 1895 = .ok (.aload_n 2, 1) := by decide +kernel
theorem dL_law_1896 : decode cL_law 1896 = .ok (.invokevirtual 108, 3) := by decide +kernel
theorem dL_law_1899 : decode cL_law 1899 = .ok (.iload 5, 2) := by decide +kernel
theorem dL_law_1901 : decode cL_law 1901 = .ok (.if_icmp .eq 5, 3) := by decide +kernel
theorem dL_law_1904 : decode cL_law 1904 = .ok (.iconst 0, 1) := by decide +kernel
theorem dL_law_1905 : decode cL_law 1905 = .ok (.ireturn, 1) := by decide +kernel
theorem dL_law_1906 : decode cL_law 1906 = .ok (.iload 5, 2) := by decide +kernel
theorem dL_law_1908 : decode cL_law 1908 = .ok (.ifCond .ne 15, 3) := by decide +kernel
theorem dL_law_1911 : decode cL_law 1911 = .ok (.aload_n 3, 1) := by decide +kernel
theorem dL_law_1912 : decode cL_law 1912 = .ok (.iconst 0, 1) := by decide +kernel
theorem dL_law_1913 : decode cL_law 1913 = .ok (.laload, 1) := by decide +kernel
theorem dL_law_1914 : decode cL_law 1914 = .ok (.iload 6, 2) := by decide +kernel
theorem dL_law_1916 : decode cL_law 1916 = .ok (.i2l, 1) := by decide +kernel
theorem dL_law_1917 : decode cL_law 1917 = .ok (.lcmp, 1) := by decide +kernel
theorem dL_law_1918 : decode cL_law 1918 = .ok (.ifCond .eq 5, 3) := by decide +kernel
theorem dL_law_1921 : decode cL_law 1921 = .ok (.iconst 0, 1) := by decide +kernel
theorem dL_law_1922 : decode cL_law 1922 = .ok (.ireturn, 1) := by decide +kernel
theorem dL_law_1923 : decode cL_law 1923 = .ok (.goto 59, 3) := by decide +kernel
theorem dL_law_1926 : decode cL_law 1926 = .ok (.aload_n 1, 1) := by decide +kernel
theorem dL_law_1927 : decode cL_law 1927 = .ok (.aload_n 0, 1) := by decide +kernel
theorem dL_law_1928 : decode cL_law 1928 = .ok (.iload 4, 2) := by decide +kernel
theorem dL_law_1930 : decode cL_law 1930 = .ok (.iconst 1, 1) := by decide +kernel
theorem dL_law_1931 : decode cL_law 1931 = .ok (.iadd, 1) := by decide +kernel
theorem dL_law_1932 : decode cL_law 1932 = .ok (.iaload, 1) := by decide +kernel
theorem dL_law_1933 : decode cL_law 1933 = .ok (.aload_n 3, 1) := by decide +kernel
theorem dL_law_1934 : decode cL_law 1934 = .ok (.invokestatic 197, 3) := by decide +kernel
theorem dL_law_1937 : decode cL_law 1937 = .ok (.istore 5, 2) := by decide +kernel
theorem dL_law_1939 : decode cL_law 1939 = .ok (.aload_n 2, 1) := by decide +kernel
theorem dL_law_1940 : decode cL_law 1940 = .ok (.aload_n 0, 1) := by decide +kernel
theorem dL_law_1941 : decode cL_law 1941 = .ok (.iload 4, 2) := by decide +kernel
theorem dL_law_1943 : decode cL_law 1943 = .ok (.iconst 1, 1) := by decide +kernel
theorem dL_law_1944 : decode cL_law 1944 = .ok (.iadd, 1) := by decide +kernel
theorem dL_law_1945 : decode cL_law 1945 = .ok (.iaload, 1) := by decide +kernel
theorem dL_law_1946 : decode cL_law 1946 = .ok (.invokevirtual 199, 3) := by decide +kernel
theorem dL_law_1949 : decode cL_law 1949 = .ok (.istore 6, 2) := by decide +kernel
theorem dL_law_1951 : decode cL_law 1951 = .ok (.aload_n 2, 1) := by decide +kernel
theorem dL_law_1952 : decode cL_law 1952 = .ok (.invokevirtual 108, 3) := by decide +kernel
theorem dL_law_1955 : decode cL_law 1955 = .ok (.iload 5, 2) := by decide +kernel
theorem dL_law_1957 : decode cL_law 1957 = .ok (.if_icmp .eq 5, 3) := by decide +kernel
theorem dL_law_1960 : decode cL_law 1960 = .ok (.iconst 0, 1) := by decide +kernel
theorem dL_law_1961 : decode cL_law 1961 = .ok (.ireturn, 1) := by decide +kernel
theorem dL_law_1962 : decode cL_law 1962 = .ok (.iload 5, 2) := by decide +kernel
theorem dL_law_1964 : decode cL_law 1964 = .ok (.ifCond .ne 15, 3) := by decide +kernel
theorem dL_law_1967 : decode cL_law 1967 = .ok (.aload_n 3, 1) := by decide +kernel
theorem dL_law_1968 : decode cL_law 1968 = .ok (.iconst 0, 1) := by decide +kernel
theorem dL_law_1969 : decode cL_law 1969 = .ok (.laload, 1) := by decide +kernel
theorem dL_law_1970 : decode cL_law 1970 = .ok (.iload 6, 2) := by decide +kernel
theorem dL_law_1972 : decode cL_law 1972 = .ok (.i2l, 1) := by decide +kernel
theorem dL_law_1973 : decode cL_law 1973 = .ok (.lcmp, 1) := by decide +kernel
theorem dL_law_1974 : decode cL_law 1974 = .ok (.ifCond .eq 5, 3) := by decide +kernel
theorem dL_law_1977 : decode cL_law 1977 = .ok (.iconst 0, 1) := by decide +kernel
theorem dL_law_1978 : decode cL_law 1978 = .ok (.ireturn, 1) := by decide +kernel
theorem dL_law_1979 : decode cL_law 1979 = .ok (.goto 3, 3) := by decide +kernel
theorem dL_law_1982 : decode cL_law 1982 = .ok (.iinc 4 5, 3) := by decide +kernel
theorem dL_law_1985 : decode cL_law 1985 = .ok (.goto (-1962), 3) := by decide +kernel
theorem dL_law_1988 : decode cL_law 1988 = .ok (.iconst 1, 1) := by decide +kernel
theorem dL_law_1989 : decode cL_law 1989 = .ok (.ireturn, 1) := by decide +kernel
end
section
/-! THE CORE: the world as numbered objects over a pure memory; the judgement sk_W over it; its rows -/
abbrev sk_M : Type := Nat → Nat → Int32
def sk_ms (M : sk_M) (k j : Nat) (v : Int32) : sk_M := fun a b => if a = k ∧ b = j then v else M a b
def sk_mr (M : sk_M) (k : Nat) (f : Nat → Int32) : sk_M := fun a b => if a = k then f b else M a b
abbrev sk_S : Type := Nat × Nat × (Nat → Option Nat)
abbrev sk_O : Type := va_G × (Nat → Nat) × (Nat → sk_S) × Nat × (Nat → ClassId) × (Nat → Nat)
abbrev sk_ad (O : sk_O) : Nat → Nat := O.2.1
abbrev sk_sh (O : sk_O) : Nat → sk_S := O.2.2.1
abbrev sk_n (O : sk_O) : Nat := O.2.2.2.1
abbrev sk_cy (O : sk_O) : Nat → ClassId := O.2.2.2.2.1
abbrev sk_st (O : sk_O) : Nat → Nat := O.2.2.2.2.2
abbrev sk_ty (O : sk_O) : List (ClassId × FieldType) := [(sk_cy O 0, .int), (sk_cy O 1, .boolean), (sk_cy O 2, .object "SkateSheet$Program"), (sk_cy O 3, .object "SkateSheet$State")]
def sk_fv (ad : Nat → Nat) (r : Nat → Option Nat) (f : Nat → Int32) (j : Nat) : Value := match r j with
  | some q => .ref (ad q)
  | none => .int (f j)
def sk_el (ad : Nat → Nat) (cy : Nat → ClassId) (S : sk_S) (f : Nat → Int32) : va_E := match S.1 with
  | 0 => .inl (cy 0, S.2.1, .inl f)
  | 1 => .inl (cy 1, S.2.1, .inl f)
  | 2 => .inl (cy 2, S.2.1, .inr (.inr (.inr (.inr (fun j => (S.2.2 j).map ad)))))
  | 3 => .inl (cy 3, S.2.1, .inr (.inr (.inr (.inr (fun j => (S.2.2 j).map ad)))))
  | c + 4 => .inr (c, (List.range S.2.1).map (sk_fv ad S.2.2 f))
def sk_ws (O : sk_O) (M : sk_M) : va_W := (List.range (sk_n O)).map (fun k => (sk_ad O k, sk_el (sk_ad O) (sk_cy O) (sk_sh O k) (M k)))
def sk_inj (O : sk_O) : Prop := ∀ i j : Nat, i < sk_n O → j < sk_n O → sk_ad O i = sk_ad O j → i = j
def sk_A (O : sk_O) (sz : Nat) : Nat → Prop := fun q => (∃ k, k < sk_n O ∧ q = sk_ad O k) ∨ sz ≤ q
theorem sk_at {O : sk_O} {M : sk_M} {k : Nat} (h : k < sk_n O) : (sk_ws O M)[k]? = some (sk_ad O k, sk_el (sk_ad O) (sk_cy O) (sk_sh O k) (M k)) := by
  simp [sk_ws, h]
theorem sk_len {O : sk_O} {M : sk_M} : (sk_ws O M).length = sk_n O := by simp [sk_ws]
theorem sk_get {O : sk_O} {M : sk_M} {k : Nat} {q : Nat × va_E} (h : (sk_ws O M)[k]? = some q) : k < sk_n O ∧ q = (sk_ad O k, sk_el (sk_ad O) (sk_cy O) (sk_sh O k) (M k)) := by
  have hk : k < sk_n O := by
    have := (List.getElem?_eq_some_iff.mp h).1
    rwa [sk_len] at this
  rw [sk_at hk] at h
  exact ⟨hk, (Option.some.inj h).symm⟩
theorem sk_set {O : sk_O} {M M' : sk_M} {k : Nat} {e : va_E} (hk : k < sk_n O) (he : sk_el (sk_ad O) (sk_cy O) (sk_sh O k) (M' k) = e) (ho : ∀ a, a ≠ k → M' a = M a) : (sk_ws O M).set k (sk_ad O k, e) = sk_ws O M' := by
  apply List.ext_getElem?
  intro i
  by_cases hi : i = k
  · subst hi
    rw [List.getElem?_set_self (by rw [sk_len]; exact hk), sk_at hk, he]
  · rw [List.getElem?_set_ne (Ne.symm hi)]
    by_cases hl : i < sk_n O
    · rw [sk_at hl, sk_at hl, ho i hi]
    · rw [List.getElem?_eq_none (by rw [sk_len]; omega), List.getElem?_eq_none (by rw [sk_len]; omega)]
theorem sk_vD {O : sk_O} {M : sk_M} {A : Nat → Prop} (hi : sk_inj O) (hA : ∀ k, k < sk_n O → A (sk_ad O k)) : va_D A (sk_ws O M) := by
  refine ⟨fun i j p q h1 h2 h3 => ?_, fun k q h => ?_⟩
  · obtain ⟨a1, rfl⟩ := sk_get h1
    obtain ⟨a2, rfl⟩ := sk_get h2
    exact hi i j a1 a2 h3
  · obtain ⟨a1, rfl⟩ := sk_get h
    exact hA k a1
/-- the static rows and what a throw needs -/
def sk_jw : List Int32 := [40, 130, 420, 950, 40, 130, 430, 970, 50, 170, 490, 1050, 50, 180, 530, 1100, 60, 210, 590, 1150, 110, 330, 800, 1250]
def sk_pw : List Int32 := [120, 150, 190, 240, 300]
def sk_tw : List Int32 := [150, 180, 260, 330, 390]
def sk_row (z : Nat) : List Int32 := match z with
  | 0 => sk_jw
  | 1 => sk_pw
  | _ => sk_tw
def sk_rnm (z : Nat) : String := match z with
  | 0 => "JUMP_WORTHS"
  | 1 => "SPIN_WORTHS"
  | _ => "STEP_WORTHS"
def sk_Zr (O : sk_O) (A : Nat → Prop) (U : State) (H : Heap) (z : Nat) : Prop := va_Z "SkateSheet$Scoring" (sk_rnm z) "[I" (.ref (sk_st O z)) A U H ∧ va_T .int (sk_st O z) (sk_row z).length (fun j => .int ((sk_row z).getD j 0)) A U H
def sk_Zs (O : sk_O) (A : Nat → Prop) (U : State) (H : Heap) : Prop := (∀ z, z < 3 → sk_Zr O A U H z) ∧ vx_Zq Bundle.tN "UNASSIGNED_STACK" Bundle.steD A U H ∧ vx_Zq Bundle.tN "SUPPRESSED_SENTINEL" Bundle.listD A U H
theorem va_T.narrow9 {ty : FieldType} {t N : Nat} {f : Nat → Value} {A B : Nat → Prop} {U : State} {H : Heap} (h : va_T ty t N f A U H) (hAB : ∀ q, B q → A q) : va_T ty t N f B U H := by
  obtain ⟨cell, h1, h2, h3, h4, h5, h6, h7⟩ := h
  exact ⟨cell, h1, h2, h3, h4, h5, h6, fun h => h7 (hAB _ h)⟩
theorem va_Z.narrow9 {C n d : String} {v : Value} {A B : Nat → Prop} {U : State} {H : Heap} (h : va_Z C n d v A U H) (hAB : ∀ q, B q → A q) : va_Z C n d v B U H := by
  obtain ⟨cf, kf, fi, f, a, cell, h1, h2, h3, h4, h5, h6, h7, h8⟩ := h
  exact ⟨cf, kf, fi, f, a, cell, h1, h2, h3, h4, h5, h6, h7, fun h => h8 (hAB _ h)⟩
theorem sk_Zs.go {O : sk_O} {A B : Nat → Prop} {u U : State} {H H1 : Heap} (h : sk_Zs O A u H) (hvm : u.vm.Alike U.vm) (hq : ∀ a : Nat, a < H.size → ¬ A a → H1[a]? = H[a]?) (hAB : ∀ q, B q → A q) : sk_Zs O B U H1 :=
  ⟨fun z hz => ⟨va_Z.narrow9 (va_Z.moved hvm (va_Z.kept (h.1 z hz).1 hq)) hAB, va_T.narrow9 (va_T.moved hvm (va_T.kept (h.1 z hz).2 hq)) hAB⟩,
   vx_Zq.narrow (vx_Zq.moved hvm (vx_Zq.kept h.2.1 hq)) hAB, vx_Zq.narrow (vx_Zq.moved hvm (vx_Zq.kept h.2.2 hq)) hAB⟩
/-- the words that every method has -/
def sk_tb : List Cond := lw_tbl.filter goodWord
theorem sk_good : ∀ w ∈ sk_tb, goodWord w = true := fun w h => (List.mem_filter.mp h).2
theorem sk_wd {w : Cond} (i : Nat) (h : lw_tbl[i]? = some w) (hg : goodWord w = true) : w ∈ sk_tb := List.mem_filter.mpr ⟨List.mem_of_getElem? h, hg⟩
abbrev sk_w (y : MethodName) (cc : ByteArray) (maxL : Nat) (ret : Option FieldType) : List Cond := Cond.code y cc maxL ret :: sk_tb
/-- where the machine stands -/
abbrev sk_X : Type := Program × Env × Room × State × MethodId × Array Value × List Frame × Method × Code
abbrev sk_s (X : sk_X) : State := X.2.2.2.1
def sk_W (l : Launch) (X : sk_X) (O : sk_O) (A : Nat → Prop) (Q : State → Prop) (nL kc ks : Nat) (M : sk_M) (pc : Nat) (lv : List (Nat × Value)) (st : List Value) : Prop :=
  ∀ (H : Heap) (locs : List Loc) (ls : Array Slot), va_P O.1 vwCl (sk_ws O M) H → va_S A (sk_s X).heap H locs → lv_has ls nL lv →
    W X.1 l X.2.1 X.2.2.1 (sk_s X) X.2.2.2.2.1 X.2.2.2.2.2.1 X.2.2.2.2.2.2.1 X.2.2.2.2.2.2.2.1 X.2.2.2.2.2.2.2.2 H locs kc ks Q (F0 X.2.2.2.2.1 pc ls st)
def sk_C (X : sk_X) (cc : ByteArray) (nL : Nat) (own : String) (rm : Room) (O : sk_O) (A : Nat → Prop) : Prop :=
  CallFix X.1 X.2.2.2.2.1 X.2.2.2.2.2.2.2.2 cc nL (sk_s X) X.2.2.2.2.2.1 sk_tb own ∧ X.2.2.1 = rm ∧ va_K O.1 vwCl (sk_ty O) (sk_s X) ∧ sk_inj O ∧ (∀ k, k < sk_n O → A (sk_ad O k)) ∧ (∀ q, (sk_s X).heap.size ≤ q → A q) ∧ sk_Zs O A (sk_s X) (sk_s X).heap
def sk_B (O : sk_O) (M : sk_M) (t : State) : Prop := va_P O.1 vwCl (sk_ws O M) t.heap ∧ va_K O.1 vwCl (sk_ty O) t
def sk_Pc (O : sk_O) (M : sk_M) (sz : Nat) (as : List Value) : Array Value → State → Prop := va_Pc as (fun U => U.heap.size = sz ∧ sk_B O M U ∧ sk_Zs O (sk_A O sz) U U.heap)
/-- contracts: from memory M with the arguments as; an int, a long, nothing -/
def sk_Mi (l : Launch) (y : MethodName) (ws : List Cond) (rm : Room) (O : sk_O) (as : List Value) (M : sk_M) (post : Int32 → sk_M → Prop) : Prop :=
  rm.cells = 0 ∧ rm.slots = 0 ∧ ∀ sz, Met l y ws rm (sk_Pc O M sz as) (va_Qi post (sk_B O) (sk_A O sz)) 0 0 (sk_A O sz)
def sk_Ml (l : Launch) (y : MethodName) (ws : List Cond) (rm : Room) (O : sk_O) (as : List Value) (M : sk_M) (post : Int64 → sk_M → Prop) : Prop :=
  rm.cells = 0 ∧ rm.slots = 0 ∧ ∀ sz, Met l y ws rm (sk_Pc O M sz as) (va_Ql post (sk_B O) (sk_A O sz)) 0 0 (sk_A O sz)
def sk_Mv (l : Launch) (y : MethodName) (ws : List Cond) (rm : Room) (O : sk_O) (as : List Value) (M : sk_M) (post : sk_M → Prop) : Prop :=
  rm.cells = 0 ∧ rm.slots = 0 ∧ ∀ sz, Met l y ws rm (sk_Pc O M sz as) (va_Qv post (sk_B O) (sk_A O sz)) 0 0 (sk_A O sz)
theorem sk_blind {O : sk_O} {M : sk_M} {sz : Nat} {as : List Value} : FrameBlind (sk_Pc O M sz as) := by
  intro a U g mk q
  obtain ⟨q0, q1, ⟨qP, qK⟩, qZ⟩ := q
  exact ⟨q0, q1, ⟨qP, va_K.moved (u := U) (U := U.calling g mk a) (Vm.Alike.refl U.vm) qK⟩, qZ.go (u := U) (U := U.calling g mk a) (Vm.Alike.refl U.vm) (fun _ _ _ => rfl) (fun _ h => h)⟩
theorem sk_Ax {O : sk_O} {A : Nat → Prop} {sz z : Nat} (hA : ∀ k, k < sk_n O → A (sk_ad O k)) (hn : ∀ q, sz ≤ q → A q) (h : sz ≤ z) : ∀ q, sk_A O z q → A q := by
  intro q hq
  rcases hq with ⟨k, hk, rfl⟩ | hq
  · exact hA k hk
  · exact hn q (Nat.le_trans h hq)
theorem sk_ent {l : Launch} {p : Program} {e : Env} {y : MethodName} {ws : List Cond} {rm : Room} {cc : ByteArray} {maxL : Nat} {ret : Option FieldType} {s : State} {m : MethodId} {args : Array Value} {below : List Frame} {meth : Method} {c : Code} {s₁ : State} {O : sk_O} {M : sk_M} {sz : Nat} {as : List Value}
    (hws : ws = sk_w y cc maxL ret) (hi : sk_inj O) (B : BodyLoose p l y (headSpec ws rm) cc maxL ret e s m args below meth c s₁) (hml : c.maxLocals = maxL) (hv : sk_Pc O M sz as args s) :
    args = as.toArray ∧ s.heap.size = sz ∧ va_P O.1 vwCl (sk_ws O M) s.heap ∧ sk_C (p, e, (headSpec ws rm).room, s, m, args, below, meth, c) cc maxL y.cls rm O (sk_A O sz) := by
  obtain ⟨h1, h2, ⟨hP, hK⟩, hZ⟩ := hv
  have hts0 := atoms_spec (ws := ws) B.pre
  refine ⟨h1, h2, hP, ⟨B.exec, B.bytes, hml, findClass_of_methodNamed B.named, fun w hw => hts0 w (by rw [hws]; exact List.mem_cons_of_mem _ hw)⟩, rfl, hK, hi, fun k hk => Or.inl ⟨k, hk, rfl⟩, fun q hq => Or.inr (by rw [← h2]; exact hq), hZ⟩
theorem sk_mi {l : Launch} {y : MethodName} {cc : ByteArray} {maxL : Nat} {rm : Room} {O : sk_O} {as : List Value} {M : sk_M} {post : Int32 → sk_M → Prop} {ty : FieldType} (hy : plainName y.cls = true) (hrm : rm.cells = 0 ∧ rm.slots = 0) (hi : sk_inj O) (hlen : (lg_sl as).length ≤ maxL)
    (body : ∀ (X : sk_X) (A : Nat → Prop) (Q : State → Prop), sk_C X cc maxL y.cls rm O A →
      (∀ (r : Int32) (M' : sk_M) (pc : Nat) (lv : List (Nat × Value)), decode cc pc = .ok (.ireturn, 1) → narrow ty (.int r) = .int r → post r M' → sk_W l X O A Q maxL 0 0 M' pc lv [.int r]) →
      sk_W l X O A Q maxL 0 0 M 0 (lv_args 0 as) []) : sk_Mi l y (sk_w y cc maxL (some ty)) rm O as M post := by
  refine ⟨hrm.1, hrm.2, fun sz => ?_⟩
  refine Met.ofW (cc := cc) (maxL := maxL) (ret := some ty) hy rfl ?_
  intro p e s m args below meth c s₁ B hml hv
  obtain ⟨rfl, hsz, hP, C⟩ := sk_ent rfl hi B hml hv
  rw [lg_entry_eq]
  have hlocks := B.notSynchronized
  refine body (p, e, (headSpec (sk_w y cc maxL (some ty)) rm).room, s, m, as.toArray, below, meth, c) (sk_A O sz) _ C (fun r M' pc lv d hn hp => ?_) s.heap [] _ hP va_S.rf (lv_entry as hlen)
  intro H locs ls hP hS hl
  exact W.zret (ty := ty) B.exec B.bytes B.returns hn (fun t ht hW => ⟨⟨r, M', rfl, hp, by rw [ht]; exact hP, va_K.moved hW.alike C.2.2.1⟩, hS.F ht⟩) hS.2.2 d hlocks
theorem sk_ml {l : Launch} {y : MethodName} {cc : ByteArray} {maxL : Nat} {rm : Room} {O : sk_O} {as : List Value} {M : sk_M} {post : Int64 → sk_M → Prop} (hy : plainName y.cls = true) (hrm : rm.cells = 0 ∧ rm.slots = 0) (hi : sk_inj O) (hlen : (lg_sl as).length ≤ maxL)
    (body : ∀ (X : sk_X) (A : Nat → Prop) (Q : State → Prop), sk_C X cc maxL y.cls rm O A →
      (∀ (r : Int64) (M' : sk_M) (pc : Nat) (lv : List (Nat × Value)), decode cc pc = .ok (.lreturn, 1) → post r M' → sk_W l X O A Q maxL 0 0 M' pc lv [.long r]) →
      sk_W l X O A Q maxL 0 0 M 0 (lv_args 0 as) []) : sk_Ml l y (sk_w y cc maxL (some .long)) rm O as M post := by
  refine ⟨hrm.1, hrm.2, fun sz => ?_⟩
  refine Met.ofW (cc := cc) (maxL := maxL) (ret := some .long) hy rfl ?_
  intro p e s m args below meth c s₁ B hml hv
  obtain ⟨rfl, hsz, hP, C⟩ := sk_ent rfl hi B hml hv
  rw [lg_entry_eq]
  have hlocks := B.notSynchronized
  refine body (p, e, (headSpec (sk_w y cc maxL (some .long)) rm).room, s, m, as.toArray, below, meth, c) (sk_A O sz) _ C (fun r M' pc lv d hp => ?_) s.heap [] _ hP va_S.rf (lv_entry as hlen)
  intro H locs ls hP hS hl
  exact W.lret B.exec B.bytes B.returns (fun t ht hW => ⟨⟨r, M', rfl, hp, by rw [ht]; exact hP, va_K.moved hW.alike C.2.2.1⟩, hS.F ht⟩) hS.2.2 d hlocks
theorem sk_mv {l : Launch} {y : MethodName} {cc : ByteArray} {maxL : Nat} {rm : Room} {O : sk_O} {as : List Value} {M : sk_M} {post : sk_M → Prop} (hy : plainName y.cls = true) (hrm : rm.cells = 0 ∧ rm.slots = 0) (hi : sk_inj O) (hlen : (lg_sl as).length ≤ maxL)
    (body : ∀ (X : sk_X) (A : Nat → Prop) (Q : State → Prop), sk_C X cc maxL y.cls rm O A →
      (∀ (M' : sk_M) (pc : Nat) (lv : List (Nat × Value)), decode cc pc = .ok (.return_, 1) → post M' → sk_W l X O A Q maxL 0 0 M' pc lv []) →
      sk_W l X O A Q maxL 0 0 M 0 (lv_args 0 as) []) : sk_Mv l y (sk_w y cc maxL none) rm O as M post := by
  refine ⟨hrm.1, hrm.2, fun sz => ?_⟩
  refine Met.ofW (cc := cc) (maxL := maxL) (ret := none) hy rfl ?_
  intro p e s m args below meth c s₁ B hml hv
  obtain ⟨rfl, hsz, hP, C⟩ := sk_ent rfl hi B hml hv
  rw [lg_entry_eq]
  have hlocks := B.notSynchronized
  refine body (p, e, (headSpec (sk_w y cc maxL none) rm).room, s, m, as.toArray, below, meth, c) (sk_A O sz) _ C (fun M' pc lv d hp => ?_) s.heap [] _ hP va_S.rf (lv_entry as hlen)
  intro H locs ls hP hS hl
  exact W.vret B.exec B.bytes B.returns (fun t ht hW => ⟨⟨M', rfl, hp, by rw [ht]; exact hP, va_K.moved hW.alike C.2.2.1⟩, hS.F ht⟩) hS.2.2 d hlocks
end
section
/-! THE ROWS of sk_W: one an instruction -/
section SKR
variable {l : Launch} {X : sk_X} {cc : ByteArray} {nL : Nat} {own : String} {rm : Room} {O : sk_O} {A : Nat → Prop} {Q : State → Prop} {kc ks : Nat} {M : sk_M} {pc : Nat} {lv : List (Nat × Value)} {st : List Value}
theorem k_iload (C : sk_C X cc nL own rm O A) (q : Nat) {i : Nat} {x : Int32} (d : decode cc pc = .ok (.iload i, 2)) (h : lv[q]? = some (i, .int x)) (K : sk_W l X O A Q nL kc ks M (pc + 2) lv (.int x :: st)) : sk_W l X O A Q nL kc ks M pc lv st :=
  fun H locs ls hP hS hl => lv_iload C.1.1 C.1.2.1 d (lv_at hl q h) (K H locs ls hP hS hl)
theorem k_iloadn (C : sk_C X cc nL own rm O A) (q : Nat) {k : Fin 4} {x : Int32} (d : decode cc pc = .ok (.iload_n k, 1)) (h : lv[q]? = some ((k : Nat), .int x)) (K : sk_W l X O A Q nL kc ks M (pc + 1) lv (.int x :: st)) : sk_W l X O A Q nL kc ks M pc lv st :=
  fun H locs ls hP hS hl => lv_iload_n C.1.1 C.1.2.1 d rfl (lv_at hl q h) (K H locs ls hP hS hl)
theorem k_aload (C : sk_C X cc nL own rm O A) (q : Nat) {i : Nat} {x : Nat} (d : decode cc pc = .ok (.aload i, 2)) (h : lv[q]? = some (i, .ref x)) (K : sk_W l X O A Q nL kc ks M (pc + 2) lv (.ref x :: st)) : sk_W l X O A Q nL kc ks M pc lv st :=
  fun H locs ls hP hS hl => lv_aload C.1.1 C.1.2.1 d (lv_at hl q h) (K H locs ls hP hS hl)
theorem k_aloadn (C : sk_C X cc nL own rm O A) (q : Nat) {k : Fin 4} {x : Nat} (d : decode cc pc = .ok (.aload_n k, 1)) (h : lv[q]? = some ((k : Nat), .ref x)) (K : sk_W l X O A Q nL kc ks M (pc + 1) lv (.ref x :: st)) : sk_W l X O A Q nL kc ks M pc lv st :=
  fun H locs ls hP hS hl => lv_aload_n C.1.1 C.1.2.1 d rfl (lv_at hl q h) (K H locs ls hP hS hl)
theorem k_lload (C : sk_C X cc nL own rm O A) (q : Nat) {i : Nat} {x : Int64} (d : decode cc pc = .ok (.lload i, 2)) (h : lv[q]? = some (i, .long x)) (K : sk_W l X O A Q nL kc ks M (pc + 2) lv (.long x :: st)) : sk_W l X O A Q nL kc ks M pc lv st :=
  fun H locs ls hP hS hl => lv_lload C.1.1 C.1.2.1 d (lv_at hl q h) (K H locs ls hP hS hl)
theorem k_lloadn (C : sk_C X cc nL own rm O A) (q : Nat) {k : Fin 4} {x : Int64} (d : decode cc pc = .ok (.lload_n k, 1)) (h : lv[q]? = some ((k : Nat), .long x)) (K : sk_W l X O A Q nL kc ks M (pc + 1) lv (.long x :: st)) : sk_W l X O A Q nL kc ks M pc lv st :=
  fun H locs ls hP hS hl => lv_lload_n C.1.1 C.1.2.1 d rfl (lv_at hl q h) (K H locs ls hP hS hl)
def sk_li (i : Nat) (v : Value) (lv : List (Nat × Value)) : List (Nat × Value) := (i, v) :: lv.filter (fun q => !(q.1 == i) && !(q.1 + 1 == i && q.2.category == 2))
def sk_ll (i : Nat) (v : Value) (lv : List (Nat × Value)) : List (Nat × Value) := (i, v) :: lv.filter (fun q => !(q.1 == i) && (!(q.1 == i + 1) && !(q.1 + 1 == i && q.2.category == 2)))
theorem k_istore (C : sk_C X cc nL own rm O A) (lv' : List (Nat × Value)) {i : Nat} {x : Int32} (d : decode cc pc = .ok (.istore i, 2)) (hn : i < nL) (h : sk_li i (.int x) lv = lv') (K : sk_W l X O A Q nL kc ks M (pc + 2) lv' st) : sk_W l X O A Q nL kc ks M pc lv (.int x :: st) :=
  fun H locs ls hP hS hl => lv_istore C.1.1 C.1.2.1 d hl hn h (fun ls' hl' => K H locs ls' hP hS hl')
theorem k_istoren (C : sk_C X cc nL own rm O A) (lv' : List (Nat × Value)) {k : Fin 4} {x : Int32} (d : decode cc pc = .ok (.istore_n k, 1)) (hn : (k : Nat) < nL) (h : sk_li (k : Nat) (.int x) lv = lv') (K : sk_W l X O A Q nL kc ks M (pc + 1) lv' st) : sk_W l X O A Q nL kc ks M pc lv (.int x :: st) :=
  fun H locs ls hP hS hl => lv_istore_n C.1.1 C.1.2.1 d rfl hl hn h (fun ls' hl' => K H locs ls' hP hS hl')
theorem k_astore (C : sk_C X cc nL own rm O A) (lv' : List (Nat × Value)) {i : Nat} {x : Nat} (d : decode cc pc = .ok (.astore i, 2)) (hn : i < nL) (h : sk_li i (.ref x) lv = lv') (K : sk_W l X O A Q nL kc ks M (pc + 2) lv' st) : sk_W l X O A Q nL kc ks M pc lv (.ref x :: st) :=
  fun H locs ls hP hS hl => lv_astore C.1.1 C.1.2.1 d hl hn h (fun ls' hl' => K H locs ls' hP hS hl')
theorem k_astoren (C : sk_C X cc nL own rm O A) (lv' : List (Nat × Value)) {k : Fin 4} {x : Nat} (d : decode cc pc = .ok (.astore_n k, 1)) (hn : (k : Nat) < nL) (h : sk_li (k : Nat) (.ref x) lv = lv') (K : sk_W l X O A Q nL kc ks M (pc + 1) lv' st) : sk_W l X O A Q nL kc ks M pc lv (.ref x :: st) :=
  fun H locs ls hP hS hl => lv_astore_n C.1.1 C.1.2.1 d rfl hl hn h (fun ls' hl' => K H locs ls' hP hS hl')
theorem k_lstore (C : sk_C X cc nL own rm O A) (lv' : List (Nat × Value)) {i : Nat} {x : Int64} (d : decode cc pc = .ok (.lstore i, 2)) (hn : i + 1 < nL) (h : sk_ll i (.long x) lv = lv') (K : sk_W l X O A Q nL kc ks M (pc + 2) lv' st) : sk_W l X O A Q nL kc ks M pc lv (.long x :: st) :=
  fun H locs ls hP hS hl => lv_lstore C.1.1 C.1.2.1 d hl hn h (fun ls' hl' => K H locs ls' hP hS hl')
theorem k_lstoren (C : sk_C X cc nL own rm O A) (lv' : List (Nat × Value)) {k : Fin 4} {x : Int64} (d : decode cc pc = .ok (.lstore_n k, 1)) (hn : (k : Nat) + 1 < nL) (h : sk_ll (k : Nat) (.long x) lv = lv') (K : sk_W l X O A Q nL kc ks M (pc + 1) lv' st) : sk_W l X O A Q nL kc ks M pc lv (.long x :: st) :=
  fun H locs ls hP hS hl => lv_lstore_n C.1.1 C.1.2.1 d rfl hl hn h (fun ls' hl' => K H locs ls' hP hS hl')
theorem k_iinc (C : sk_C X cc nL own rm O A) (q : Nat) (v : Int32) (lv' : List (Nat × Value)) {i : Nat} {n : Int} {x : Int32} (d : decode cc pc = .ok (.iinc i n, 3)) (h0 : lv[q]? = some (i, .int x)) (hv : x + Int32.ofInt n = v) (hn : i < nL) (h : sk_li i (.int v) lv = lv') (K : sk_W l X O A Q nL kc ks M (pc + 3) lv' st) : sk_W l X O A Q nL kc ks M pc lv st :=
  fun H locs ls hP hS hl => lv_iinc C.1.1 C.1.2.1 d hl h0 hv hn h (fun ls' hl' => K H locs ls' hP hS hl')
theorem k_iconst (C : sk_C X cc nL own rm O A) (v : Int32) {n : Int} (d : decode cc pc = .ok (.iconst n, 1)) (hv : Int32.ofInt n = v) (K : sk_W l X O A Q nL kc ks M (pc + 1) lv (.int v :: st)) : sk_W l X O A Q nL kc ks M pc lv st :=
  fun H locs ls hP hS hl => lv_iconst C.1.1 C.1.2.1 d hv (K H locs ls hP hS hl)
theorem k_bipush (C : sk_C X cc nL own rm O A) (v : Int32) {n : Int} (d : decode cc pc = .ok (.bipush n, 2)) (hv : (Int8.ofInt n).toInt32 = v) (K : sk_W l X O A Q nL kc ks M (pc + 2) lv (.int v :: st)) : sk_W l X O A Q nL kc ks M pc lv st :=
  fun H locs ls hP hS hl => lv_bipush C.1.1 C.1.2.1 d hv (K H locs ls hP hS hl)
theorem k_sipush (C : sk_C X cc nL own rm O A) (v : Int32) {n : Int} (d : decode cc pc = .ok (.sipush n, 3)) (hv : (Int16.ofInt n).toInt32 = v) (K : sk_W l X O A Q nL kc ks M (pc + 3) lv (.int v :: st)) : sk_W l X O A Q nL kc ks M pc lv st :=
  fun H locs ls hP hS hl => lv_sipush C.1.1 C.1.2.1 d hv (K H locs ls hP hS hl)
theorem k_lconst (C : sk_C X cc nL own rm O A) (v : Int64) {n : Fin 2} (d : decode cc pc = .ok (.lconst n, 1)) (hv : Int64.ofNat (n : Nat) = v) (K : sk_W l X O A Q nL kc ks M (pc + 1) lv (.long v :: st)) : sk_W l X O A Q nL kc ks M pc lv st :=
  fun H locs ls hP hS hl => lv_lconst C.1.1 C.1.2.1 d hv (K H locs ls hP hS hl)
theorem k_ldc (C : sk_C X cc nL own rm O A) {v : Int32} {idx : Nat} (hc : Cond.constant own idx v ∈ sk_tb) (d : decode cc pc = .ok (.ldc idx, 2)) (K : sk_W l X O A Q nL kc ks M (pc + 2) lv (.int v :: st)) : sk_W l X O A Q nL kc ks M pc lv st :=
  fun H locs ls hP hS hl => lv_ldc C.1.1 C.1.2.1 C.1.2.2.2.1 (C.1.2.2.2.2 _ hc) d (K H locs ls hP hS hl)
theorem k_ldcl (C : sk_C X cc nL own rm O A) {v : Int64} {idx : Nat} (hc : Cond.constantLong own idx v ∈ sk_tb) (d : decode cc pc = .ok (.ldc2_w idx, 3)) (K : sk_W l X O A Q nL kc ks M (pc + 3) lv (.long v :: st)) : sk_W l X O A Q nL kc ks M pc lv st :=
  fun H locs ls hP hS hl => lv_ldc2 C.1.1 C.1.2.1 C.1.2.2.2.1 (C.1.2.2.2.2 _ hc) d (K H locs ls hP hS hl)
theorem k_iadd (C : sk_C X cc nL own rm O A) {x y : Int32} (d : decode cc pc = .ok (.iadd, 1)) (K : sk_W l X O A Q nL kc ks M (pc + 1) lv (.int (x + y) :: st)) : sk_W l X O A Q nL kc ks M pc lv (.int y :: .int x :: st) :=
  fun H locs ls hP hS hl => lv_iadd C.1.1 C.1.2.1 d (K H locs ls hP hS hl)
theorem k_isub (C : sk_C X cc nL own rm O A) {x y : Int32} (d : decode cc pc = .ok (.isub, 1)) (K : sk_W l X O A Q nL kc ks M (pc + 1) lv (.int (x - y) :: st)) : sk_W l X O A Q nL kc ks M pc lv (.int y :: .int x :: st) :=
  fun H locs ls hP hS hl => lv_isub C.1.1 C.1.2.1 d (K H locs ls hP hS hl)
theorem k_imul (C : sk_C X cc nL own rm O A) {x y : Int32} (d : decode cc pc = .ok (.imul, 1)) (K : sk_W l X O A Q nL kc ks M (pc + 1) lv (.int (x * y) :: st)) : sk_W l X O A Q nL kc ks M pc lv (.int y :: .int x :: st) :=
  fun H locs ls hP hS hl => lv_imul C.1.1 C.1.2.1 d (K H locs ls hP hS hl)
theorem k_idiv (C : sk_C X cc nL own rm O A) {x y : Int32} (d : decode cc pc = .ok (.idiv, 1)) (hne : ¬ y = 0) (K : sk_W l X O A Q nL kc ks M (pc + 1) lv (.int (x / y) :: st)) : sk_W l X O A Q nL kc ks M pc lv (.int y :: .int x :: st) :=
  fun H locs ls hP hS hl => lv_idiv C.1.1 C.1.2.1 d hne (K H locs ls hP hS hl)
theorem k_irem (C : sk_C X cc nL own rm O A) {x y : Int32} (d : decode cc pc = .ok (.irem, 1)) (hne : ¬ y = 0) (K : sk_W l X O A Q nL kc ks M (pc + 1) lv (.int (x - x / y * y) :: st)) : sk_W l X O A Q nL kc ks M pc lv (.int y :: .int x :: st) :=
  fun H locs ls hP hS hl => lv_irem C.1.1 C.1.2.1 d hne (K H locs ls hP hS hl)
theorem k_iand (C : sk_C X cc nL own rm O A) {x y : Int32} (d : decode cc pc = .ok (.iand, 1)) (K : sk_W l X O A Q nL kc ks M (pc + 1) lv (.int (x &&& y) :: st)) : sk_W l X O A Q nL kc ks M pc lv (.int y :: .int x :: st) :=
  fun H locs ls hP hS hl => lv_iand C.1.1 C.1.2.1 d (K H locs ls hP hS hl)
theorem k_ineg (C : sk_C X cc nL own rm O A) {x : Int32} (d : decode cc pc = .ok (.ineg, 1)) (K : sk_W l X O A Q nL kc ks M (pc + 1) lv (.int (-x) :: st)) : sk_W l X O A Q nL kc ks M pc lv (.int x :: st) :=
  fun H locs ls hP hS hl => lv_ineg C.1.1 C.1.2.1 d (K H locs ls hP hS hl)
theorem k_ladd (C : sk_C X cc nL own rm O A) {x y : Int64} (d : decode cc pc = .ok (.ladd, 1)) (K : sk_W l X O A Q nL kc ks M (pc + 1) lv (.long (x + y) :: st)) : sk_W l X O A Q nL kc ks M pc lv (.long y :: .long x :: st) :=
  fun H locs ls hP hS hl => lv_ladd C.1.1 C.1.2.1 d (K H locs ls hP hS hl)
theorem k_lsub (C : sk_C X cc nL own rm O A) {x y : Int64} (d : decode cc pc = .ok (.lsub, 1)) (K : sk_W l X O A Q nL kc ks M (pc + 1) lv (.long (x - y) :: st)) : sk_W l X O A Q nL kc ks M pc lv (.long y :: .long x :: st) :=
  fun H locs ls hP hS hl => lv_lsub C.1.1 C.1.2.1 d (K H locs ls hP hS hl)
theorem k_lmul (C : sk_C X cc nL own rm O A) {x y : Int64} (d : decode cc pc = .ok (.lmul, 1)) (K : sk_W l X O A Q nL kc ks M (pc + 1) lv (.long (x * y) :: st)) : sk_W l X O A Q nL kc ks M pc lv (.long y :: .long x :: st) :=
  fun H locs ls hP hS hl => lv_lmul C.1.1 C.1.2.1 d (K H locs ls hP hS hl)
theorem k_ldiv (C : sk_C X cc nL own rm O A) {x y : Int64} (d : decode cc pc = .ok (.ldiv, 1)) (hne : ¬ y = 0) (K : sk_W l X O A Q nL kc ks M (pc + 1) lv (.long (x / y) :: st)) : sk_W l X O A Q nL kc ks M pc lv (.long y :: .long x :: st) :=
  fun H locs ls hP hS hl => lv_ldiv C.1.1 C.1.2.1 d hne (K H locs ls hP hS hl)
theorem k_lrem (C : sk_C X cc nL own rm O A) {x y : Int64} (d : decode cc pc = .ok (.lrem, 1)) (hne : ¬ y = 0) (K : sk_W l X O A Q nL kc ks M (pc + 1) lv (.long (x - x / y * y) :: st)) : sk_W l X O A Q nL kc ks M pc lv (.long y :: .long x :: st) :=
  fun H locs ls hP hS hl => lv_lrem C.1.1 C.1.2.1 d hne (K H locs ls hP hS hl)
theorem k_i2l (C : sk_C X cc nL own rm O A) {x : Int32} (d : decode cc pc = .ok (.i2l, 1)) (K : sk_W l X O A Q nL kc ks M (pc + 1) lv (.long x.toInt64 :: st)) : sk_W l X O A Q nL kc ks M pc lv (.int x :: st) :=
  fun H locs ls hP hS hl => lv_i2l C.1.1 C.1.2.1 d rfl (K H locs ls hP hS hl)
theorem k_l2i (C : sk_C X cc nL own rm O A) {x : Int64} (d : decode cc pc = .ok (.l2i, 1)) (K : sk_W l X O A Q nL kc ks M (pc + 1) lv (.int x.toInt32 :: st)) : sk_W l X O A Q nL kc ks M pc lv (.long x :: st) :=
  fun H locs ls hP hS hl => lv_l2i C.1.1 C.1.2.1 d rfl (K H locs ls hP hS hl)
theorem k_lushr (C : sk_C X cc nL own rm O A) {x : Int64} {y : Int32} (d : decode cc pc = .ok (.lushr, 1)) (K : sk_W l X O A Q nL kc ks M (pc + 1) lv (.long ((x.toUInt64 >>> (y.toInt64.toUInt64 &&& Int64.toUInt64 63)).toInt64) :: st)) : sk_W l X O A Q nL kc ks M pc lv (.int y :: .long x :: st) :=
  fun H locs ls hP hS hl => lv_lushr C.1.1 C.1.2.1 d rfl (K H locs ls hP hS hl)
theorem k_lcmp (C : sk_C X cc nL own rm O A) {x y : Int64} (d : decode cc pc = .ok (.lcmp, 1)) (K : sk_W l X O A Q nL kc ks M (pc + 1) lv (.int (lg_cmp x y) :: st)) : sk_W l X O A Q nL kc ks M pc lv (.long y :: .long x :: st) :=
  fun H locs ls hP hS hl => W.lcmp C.1.1 C.1.2.1 d (K H locs ls hP hS hl)
theorem k_dup (C : sk_C X cc nL own rm O A) {v : Value} (d : decode cc pc = .ok (.dup, 1)) (h : v.category = 1) (K : sk_W l X O A Q nL kc ks M (pc + 1) lv (v :: v :: st)) : sk_W l X O A Q nL kc ks M pc lv (v :: st) :=
  fun H locs ls hP hS hl => lv_dup C.1.1 C.1.2.1 d h (K H locs ls hP hS hl)
theorem k_pop (C : sk_C X cc nL own rm O A) {v : Value} (d : decode cc pc = .ok (.pop, 1)) (h : v.category = 1) (K : sk_W l X O A Q nL kc ks M (pc + 1) lv st) : sk_W l X O A Q nL kc ks M pc lv (v :: st) :=
  fun H locs ls hP hS hl => lv_pop C.1.1 C.1.2.1 d h (K H locs ls hP hS hl)
theorem k_goto (C : sk_C X cc nL own rm O A) (tgt : Nat) {off : Int} (d : decode cc pc = .ok (.goto off, 3)) (ht : (pc : Int) + off = (tgt : Int)) (K : sk_W l X O A Q nL kc ks M tgt lv st) : sk_W l X O A Q nL kc ks M pc lv st :=
  fun H locs ls hP hS hl => lv_goto C.1.1 C.1.2.1 d ht (K H locs ls hP hS hl)
theorem k_ceq (C : sk_C X cc nL own rm O A) (tgt : Nat) {off : Int} {x y : Int32} (d : decode cc pc = .ok (.if_icmp .eq off, 3)) (ht : (pc : Int) + off = (tgt : Int)) (K1 : x = y → sk_W l X O A Q nL kc ks M tgt lv st) (K2 : ¬ x = y → sk_W l X O A Q nL kc ks M (pc + 3) lv st) : sk_W l X O A Q nL kc ks M pc lv (.int y :: .int x :: st) :=
  fun H locs ls hP hS hl => lv_icmp_eq C.1.1 C.1.2.1 d ht (fun h => K1 h H locs ls hP hS hl) (fun h => K2 h H locs ls hP hS hl)
theorem k_cne (C : sk_C X cc nL own rm O A) (tgt : Nat) {off : Int} {x y : Int32} (d : decode cc pc = .ok (.if_icmp .ne off, 3)) (ht : (pc : Int) + off = (tgt : Int)) (K1 : ¬ x = y → sk_W l X O A Q nL kc ks M tgt lv st) (K2 : x = y → sk_W l X O A Q nL kc ks M (pc + 3) lv st) : sk_W l X O A Q nL kc ks M pc lv (.int y :: .int x :: st) :=
  fun H locs ls hP hS hl => lv_icmp_ne C.1.1 C.1.2.1 d ht (fun h => K1 h H locs ls hP hS hl) (fun h => K2 h H locs ls hP hS hl)
theorem k_cge (C : sk_C X cc nL own rm O A) (tgt : Nat) {off : Int} {x y : Int32} (d : decode cc pc = .ok (.if_icmp .ge off, 3)) (ht : (pc : Int) + off = (tgt : Int)) (K1 : y ≤ x → sk_W l X O A Q nL kc ks M tgt lv st) (K2 : ¬ y ≤ x → sk_W l X O A Q nL kc ks M (pc + 3) lv st) : sk_W l X O A Q nL kc ks M pc lv (.int y :: .int x :: st) :=
  fun H locs ls hP hS hl => lv_icmp_ge C.1.1 C.1.2.1 d ht (fun h => K1 h H locs ls hP hS hl) (fun h => K2 h H locs ls hP hS hl)
theorem k_cgt (C : sk_C X cc nL own rm O A) (tgt : Nat) {off : Int} {x y : Int32} (d : decode cc pc = .ok (.if_icmp .gt off, 3)) (ht : (pc : Int) + off = (tgt : Int)) (K1 : y < x → sk_W l X O A Q nL kc ks M tgt lv st) (K2 : ¬ y < x → sk_W l X O A Q nL kc ks M (pc + 3) lv st) : sk_W l X O A Q nL kc ks M pc lv (.int y :: .int x :: st) :=
  fun H locs ls hP hS hl => lv_icmp_gt C.1.1 C.1.2.1 d ht (fun h => K1 h H locs ls hP hS hl) (fun h => K2 h H locs ls hP hS hl)
theorem k_cle (C : sk_C X cc nL own rm O A) (tgt : Nat) {off : Int} {x y : Int32} (d : decode cc pc = .ok (.if_icmp .le off, 3)) (ht : (pc : Int) + off = (tgt : Int)) (K1 : x ≤ y → sk_W l X O A Q nL kc ks M tgt lv st) (K2 : ¬ x ≤ y → sk_W l X O A Q nL kc ks M (pc + 3) lv st) : sk_W l X O A Q nL kc ks M pc lv (.int y :: .int x :: st) :=
  fun H locs ls hP hS hl => lv_icmp_le C.1.1 C.1.2.1 d ht (fun h => K1 h H locs ls hP hS hl) (fun h => K2 h H locs ls hP hS hl)
theorem k_clt (C : sk_C X cc nL own rm O A) (tgt : Nat) {off : Int} {x y : Int32} (d : decode cc pc = .ok (.if_icmp .lt off, 3)) (ht : (pc : Int) + off = (tgt : Int)) (K1 : x < y → sk_W l X O A Q nL kc ks M tgt lv st) (K2 : ¬ x < y → sk_W l X O A Q nL kc ks M (pc + 3) lv st) : sk_W l X O A Q nL kc ks M pc lv (.int y :: .int x :: st) :=
  fun H locs ls hP hS hl => lv_icmp_lt C.1.1 C.1.2.1 d ht (fun h => K1 h H locs ls hP hS hl) (fun h => K2 h H locs ls hP hS hl)
theorem k_zeq (C : sk_C X cc nL own rm O A) (tgt : Nat) {off : Int} {x : Int32} (d : decode cc pc = .ok (.ifCond .eq off, 3)) (ht : (pc : Int) + off = (tgt : Int)) (K1 : x = 0 → sk_W l X O A Q nL kc ks M tgt lv st) (K2 : ¬ x = 0 → sk_W l X O A Q nL kc ks M (pc + 3) lv st) : sk_W l X O A Q nL kc ks M pc lv (.int x :: st) :=
  fun H locs ls hP hS hl => lv_if_eq C.1.1 C.1.2.1 d ht (fun h => K1 h H locs ls hP hS hl) (fun h => K2 h H locs ls hP hS hl)
theorem k_zne (C : sk_C X cc nL own rm O A) (tgt : Nat) {off : Int} {x : Int32} (d : decode cc pc = .ok (.ifCond .ne off, 3)) (ht : (pc : Int) + off = (tgt : Int)) (K1 : ¬ x = 0 → sk_W l X O A Q nL kc ks M tgt lv st) (K2 : x = 0 → sk_W l X O A Q nL kc ks M (pc + 3) lv st) : sk_W l X O A Q nL kc ks M pc lv (.int x :: st) :=
  fun H locs ls hP hS hl => lv_if_ne C.1.1 C.1.2.1 d ht (fun h => K1 h H locs ls hP hS hl) (fun h => K2 h H locs ls hP hS hl)
theorem k_zlt (C : sk_C X cc nL own rm O A) (tgt : Nat) {off : Int} {x : Int32} (d : decode cc pc = .ok (.ifCond .lt off, 3)) (ht : (pc : Int) + off = (tgt : Int)) (K1 : x < 0 → sk_W l X O A Q nL kc ks M tgt lv st) (K2 : ¬ x < 0 → sk_W l X O A Q nL kc ks M (pc + 3) lv st) : sk_W l X O A Q nL kc ks M pc lv (.int x :: st) :=
  fun H locs ls hP hS hl => lv_if_lt C.1.1 C.1.2.1 d ht (fun h => K1 h H locs ls hP hS hl) (fun h => K2 h H locs ls hP hS hl)
theorem k_zge (C : sk_C X cc nL own rm O A) (tgt : Nat) {off : Int} {x : Int32} (d : decode cc pc = .ok (.ifCond .ge off, 3)) (ht : (pc : Int) + off = (tgt : Int)) (K1 : 0 ≤ x → sk_W l X O A Q nL kc ks M tgt lv st) (K2 : ¬ 0 ≤ x → sk_W l X O A Q nL kc ks M (pc + 3) lv st) : sk_W l X O A Q nL kc ks M pc lv (.int x :: st) :=
  fun H locs ls hP hS hl => lv_if_ge C.1.1 C.1.2.1 d ht (fun h => K1 h H locs ls hP hS hl) (fun h => K2 h H locs ls hP hS hl)
theorem k_zgt (C : sk_C X cc nL own rm O A) (tgt : Nat) {off : Int} {x : Int32} (d : decode cc pc = .ok (.ifCond .gt off, 3)) (ht : (pc : Int) + off = (tgt : Int)) (K1 : 0 < x → sk_W l X O A Q nL kc ks M tgt lv st) (K2 : ¬ 0 < x → sk_W l X O A Q nL kc ks M (pc + 3) lv st) : sk_W l X O A Q nL kc ks M pc lv (.int x :: st) :=
  fun H locs ls hP hS hl => lv_if_gt C.1.1 C.1.2.1 d ht (fun h => K1 h H locs ls hP hS hl) (fun h => K2 h H locs ls hP hS hl)
theorem k_zle (C : sk_C X cc nL own rm O A) (tgt : Nat) {off : Int} {x : Int32} (d : decode cc pc = .ok (.ifCond .le off, 3)) (ht : (pc : Int) + off = (tgt : Int)) (K1 : x ≤ 0 → sk_W l X O A Q nL kc ks M tgt lv st) (K2 : ¬ x ≤ 0 → sk_W l X O A Q nL kc ks M (pc + 3) lv st) : sk_W l X O A Q nL kc ks M pc lv (.int x :: st) :=
  fun H locs ls hP hS hl => lv_if_le C.1.1 C.1.2.1 d ht (fun h => K1 h H locs ls hP hS hl) (fun h => K2 h H locs ls hP hS hl)
theorem k_tin (C : sk_C X cc nL own rm O A) (tgt : Nat) {dflt lo hi : Int} {offs : Array Int} {len : Nat} {x : Int32} (off : Int) (d : decode cc pc = .ok (.tableswitch dflt lo hi offs, len)) (h : (¬ x.toInt < lo ∧ ¬ hi < x.toInt) ∧ offs[(x.toInt - lo).toNat]? = some off) (ht : (pc : Int) + off = (tgt : Int)) (K : sk_W l X O A Q nL kc ks M tgt lv st) : sk_W l X O A Q nL kc ks M pc lv (.int x :: st) :=
  fun H locs ls hP hS hl => lv_tableIn C.1.1 C.1.2.1 d h.1.1 h.1.2 h.2 ht (K H locs ls hP hS hl)
theorem k_tout (C : sk_C X cc nL own rm O A) (tgt : Nat) {dflt lo hi : Int} {offs : Array Int} {len : Nat} {x : Int32} (d : decode cc pc = .ok (.tableswitch dflt lo hi offs, len)) (h : x.toInt < lo ∨ hi < x.toInt) (ht : (pc : Int) + dflt = (tgt : Int)) (K : sk_W l X O A Q nL kc ks M tgt lv st) : sk_W l X O A Q nL kc ks M pc lv (.int x :: st) :=
  fun H locs ls hP hS hl => lv_tableOut C.1.1 C.1.2.1 d h ht (K H locs ls hP hS hl)
theorem k_look (C : sk_C X cc nL own rm O A) (tgt : Nat) {dflt : Int} {ps : Array (Int × Int)} {len : Nat} {x : Int32} (off : Int) (d : decode cc pc = .ok (.lookupswitch dflt ps, len)) (hp : (ps.toList.zip (ps.toList.drop 1)).all (fun (a, next) => a.1 < next.1) = true) (ho : Op.lookupswitch.offset ps.toList dflt x.toInt = off) (ht : (pc : Int) + off = (tgt : Int)) (K : sk_W l X O A Q nL kc ks M tgt lv st) : sk_W l X O A Q nL kc ks M pc lv (.int x :: st) :=
  fun H locs ls hP hS hl => lv_lookup C.1.1 C.1.2.1 d hp ho ht (K H locs ls hP hS hl)
/-- another name for the state, equal to it -/
theorem k_eq {M' : sk_M} {pc' : Nat} {lv' : List (Nat × Value)} {st' : List Value} (hM : M = M') (hp : pc = pc') (hl : lv = lv') (hs : st = st') (K : sk_W l X O A Q nL kc ks M' pc' lv' st') : sk_W l X O A Q nL kc ks M pc lv st := by
  subst hM; subst hp; subst hl; subst hs; exact K
theorem k_top (v : Int32) {x : Int32} (h : x = v) (K : sk_W l X O A Q nL kc ks M pc lv (.int v :: st)) : sk_W l X O A Q nL kc ks M pc lv (.int x :: st) := h ▸ K
/-- fewer locals -/
theorem k_sub (is : List Nat) {lv' : List (Nat × Value)} (h : lv_pick lv is = lv') (K : sk_W l X O A Q nL kc ks M pc lv' st) : sk_W l X O A Q nL kc ks M pc lv st :=
  fun H locs ls hP hS hl => K H locs ls hP hS (lv_sub hl is h)
-- fields and arrays
def sk_is (O : sk_O) (k : Nat) (S : sk_S) : Prop := k < sk_n O ∧ sk_sh O k = S
def sk_cl (ci : Nat) (q : vw_C) : Prop := vwCl[ci]? = some q ∧ ∀ w ∈ u_ws q.1 q.2.1 q.2.2, w ∈ sk_tb
theorem sk_fat {ad : Nat → Nat} {r : Nat → Option Nat} {f : Nat → Int32} {N j : Nat} (hj : j < N) : ((List.range N).map (sk_fv ad r f))[j]? = some (sk_fv ad r f j) := by simp [hj]
theorem k_geti (C : sk_C X cc nL own rm O A) {idx ci k j : Nat} {q : vw_C} {r : Nat → Option Nat} (hq : sk_cl ci q) (hlink : Cond.fieldLink own idx (q.2.1 j).1 (q.2.1 j).2.1 (q.2.1 j).2.2.1 ∈ sk_tb) (h : sk_is O k (ci + 4, q.2.2, r)) (hj : j < q.2.2) (hr : r j = none) (d : decode cc pc = .ok (.getfield idx, 3)) (K : sk_W l X O A Q nL kc ks M (pc + 3) lv (.int (M k j) :: st)) : sk_W l X O A Q nL kc ks M pc lv (.ref (sk_ad O k) :: st) := by
  intro H locs ls hP hS hl
  have he := sk_at (O := O) (M := M) h.1
  rw [h.2] at he
  exact va_get (D := O.1) (C := q.1) (T := q.2.1) (N := q.2.2) C.1.1 C.1.2.1 C.1.2.2.2.2 hq.2 C.1.2.2.2.1 C.2.2.1 hP k he hq.1 j hj (C.1.2.2.2.2 _ hlink) (fun _ h9 => h9) (by rw [sk_fat hj]; show some (sk_fv _ r _ j) = _; rw [sk_fv, hr]) d (K H locs ls hP hS hl)
theorem k_getr (C : sk_C X cc nL own rm O A) {idx ci k j k' : Nat} {q : vw_C} {r : Nat → Option Nat} (hq : sk_cl ci q) (hlink : Cond.fieldLink own idx (q.2.1 j).1 (q.2.1 j).2.1 (q.2.1 j).2.2.1 ∈ sk_tb) (h : sk_is O k (ci + 4, q.2.2, r)) (hj : j < q.2.2) (hr : r j = some k') (d : decode cc pc = .ok (.getfield idx, 3)) (K : sk_W l X O A Q nL kc ks M (pc + 3) lv (.ref (sk_ad O k') :: st)) : sk_W l X O A Q nL kc ks M pc lv (.ref (sk_ad O k) :: st) := by
  intro H locs ls hP hS hl
  have he := sk_at (O := O) (M := M) h.1
  rw [h.2] at he
  exact va_get (D := O.1) (C := q.1) (T := q.2.1) (N := q.2.2) C.1.1 C.1.2.1 C.1.2.2.2.2 hq.2 C.1.2.2.2.1 C.2.2.1 hP k he hq.1 j hj (C.1.2.2.2.2 _ hlink) (fun _ h9 => h9) (by rw [sk_fat hj]; show some (sk_fv _ r _ j) = _; rw [sk_fv, hr]) d (K H locs ls hP hS hl)
theorem k_puti (C : sk_C X cc nL own rm O A) {idx ci k j : Nat} {q : vw_C} {r : Nat → Option Nat} {v : Int32} {ty : FieldType} (ty0 : Nat → FieldType) (hq : sk_cl ci q) (hty : ∀ k, k < q.2.2 → parseFieldDescriptor (q.2.1 k).2.2.1 = some (ty0 k)) (hnm : ∀ a, a < q.2.2 → ∀ b, b < q.2.2 → a ≠ b → (q.2.1 a).2.1 ≠ (q.2.1 b).2.1) (hlink : Cond.fieldLink own idx (q.2.1 j).1 (q.2.1 j).2.1 (q.2.1 j).2.2.1 ∈ sk_tb) (h : sk_is O k (ci + 4, q.2.2, r)) (hj : j < q.2.2) (hr : r j = none) (hfin : (q.2.1 j).2.2.2 = false) (hd : parseFieldDescriptor (q.2.1 j).2.2.1 = some ty) (hn : narrow ty (.int v) = .int v) (hfit : fits ty (.int v) = true) (d : decode cc pc = .ok (.putfield idx, 3)) (K : sk_W l X O A Q nL kc ks (sk_ms M k j v) (pc + 3) lv st) : sk_W l X O A Q nL kc ks M pc lv (.int v :: .ref (sk_ad O k) :: st) := by
  intro H locs ls hP hS hl
  have he := sk_at (O := O) (M := M) h.1
  have hs : sk_el (sk_ad O) (sk_cy O) (sk_sh O k) (sk_ms M k j v k) = .inr (ci, ((List.range q.2.2).map (sk_fv (sk_ad O) r (M k))).set j (.int v)) := by
    rw [h.2]
    show Sum.inr (ci, (List.range q.2.2).map (sk_fv (sk_ad O) r (sk_ms M k j v k))) = _
    congr 2
    apply List.ext_getElem?
    intro i
    by_cases hi : i = j
    · subst hi
      rw [List.getElem?_set_self (by simp [hj]), sk_fat hj, sk_fv, hr]
      simp [sk_ms]
    · rw [List.getElem?_set_ne (Ne.symm hi)]
      by_cases hN : i < q.2.2
      · rw [sk_fat hN, sk_fat hN]
        simp only [sk_fv, sk_ms, hi, and_false, if_false]
      · rw [List.getElem?_eq_none (by simp; omega), List.getElem?_eq_none (by simp; omega)]
  have hset := sk_set (O := O) (M := M) (M' := sk_ms M k j v) h.1 hs (fun a ha => by funext b; simp [sk_ms, ha])
  rw [h.2] at he
  refine va_put (D := O.1) (C := q.1) (T := q.2.1) (N := q.2.2) C.1.1 C.1.2.1 C.1.2.2.2.2 hq.2 ty0 hty hnm C.1.2.2.2.1 C.2.2.1 hP (sk_vD C.2.2.2.1 C.2.2.2.2.1) hS k he hq.1 j hj (C.1.2.2.2.2 _ hlink) (fun _ h9 => h9) hfin hd hn hfit (by simp [hj]) d (fun H1 locs1 hP1 hD1 hS1 => ?_)
  rw [hset] at hP1
  exact K H1 locs1 ls hP1 hS1 hl
theorem k_iald (C : sk_C X cc nL own rm O A) {k z : Nat} {r : Nat → Option Nat} {i : Int32} (h : sk_is O k (0, z, r)) (hin : vp_in i z) (d : decode cc pc = .ok (.iaload, 1)) (K : sk_W l X O A Q nL kc ks M (pc + 1) lv (.int (M k i.toNatClampNeg) :: st)) : sk_W l X O A Q nL kc ks M pc lv (.int i :: .ref (sk_ad O k) :: st) := by
  intro H locs ls hP hS hl
  have he := sk_at (O := O) (M := M) h.1
  rw [h.2] at he
  exact va_iald C.1.1 C.1.2.1 C.2.2.1 hP k 0 he rfl hin d (K H locs ls hP hS hl)
theorem k_zald (C : sk_C X cc nL own rm O A) {k z : Nat} {r : Nat → Option Nat} {i : Int32} (h : sk_is O k (1, z, r)) (hin : vp_in i z) (d : decode cc pc = .ok (.baload, 1)) (K : sk_W l X O A Q nL kc ks M (pc + 1) lv (.int (M k i.toNatClampNeg) :: st)) : sk_W l X O A Q nL kc ks M pc lv (.int i :: .ref (sk_ad O k) :: st) := by
  intro H locs ls hP hS hl
  have he := sk_at (O := O) (M := M) h.1
  rw [h.2] at he
  exact va_zald C.1.1 C.1.2.1 C.2.2.1 hP k 1 he rfl hin d (K H locs ls hP hS hl)
theorem k_ialdn (C : sk_C X cc nL own rm O A) {k z : Nat} {r : Nat → Option Nat} {i : Int32} (n : Nat) (h : sk_is O k (0, z, r)) (hi : i = nI n) (hin : n < z ∧ z < 2 ^ 31) (d : decode cc pc = .ok (.iaload, 1)) (K : sk_W l X O A Q nL kc ks M (pc + 1) lv (.int (M k n) :: st)) : sk_W l X O A Q nL kc ks M pc lv (.int i :: .ref (sk_ad O k) :: st) := by
  subst hi
  refine k_iald C h (vp_in_nI hin.1 hin.2) d ?_
  rw [nI_clamp (Nat.lt_trans hin.1 hin.2)]
  exact K
theorem k_aald (C : sk_C X cc nL own rm O A) {k z t k' : Nat} {r : Nat → Option Nat} {i : Int32} (n : Nat) (h : sk_is O k (t, z, r)) (ht : t = 2 ∨ t = 3) (hi : i = nI n) (hin : n < z ∧ z < 2 ^ 31) (hr : r n = some k') (d : decode cc pc = .ok (.aaload, 1)) (K : sk_W l X O A Q nL kc ks M (pc + 1) lv (.ref (sk_ad O k') :: st)) : sk_W l X O A Q nL kc ks M pc lv (.int i :: .ref (sk_ad O k) :: st) := by
  intro H locs ls hP hS hl
  subst hi
  have he := sk_at (O := O) (M := M) h.1
  rw [h.2] at he
  rcases ht with rfl | rfl
  · refine va_aldq C.1.1 C.1.2.1 C.2.2.1 hP k 2 he rfl (vp_in_nI hin.1 hin.2) d ?_
    rw [nI_clamp (Nat.lt_trans hin.1 hin.2)]
    show W _ _ _ _ _ _ _ _ _ _ _ _ _ _ _ (F0 _ _ _ (va_rf ((r n).map _) :: _))
    rw [hr]
    exact K H locs ls hP hS hl
  · refine va_aldq C.1.1 C.1.2.1 C.2.2.1 hP k 3 he rfl (vp_in_nI hin.1 hin.2) d ?_
    rw [nI_clamp (Nat.lt_trans hin.1 hin.2)]
    show W _ _ _ _ _ _ _ _ _ _ _ _ _ _ _ (F0 _ _ _ (va_rf ((r n).map _) :: _))
    rw [hr]
    exact K H locs ls hP hS hl
theorem sk_up {O : sk_O} {M : sk_M} {k z t : Nat} {r : Nat → Option Nat} (h : sk_is O k (t, z, r)) (f : Nat → Int32) (e : va_E) (he : sk_el (sk_ad O) (sk_cy O) (t, z, r) f = e) : (sk_ws O M).set k (sk_ad O k, e) = sk_ws O (sk_mr M k f) := by
  refine sk_set h.1 ?_ (fun a ha => by funext b; simp [sk_mr, ha])
  rw [h.2, ← he]
  congr 1
  funext b
  simp [sk_mr]
theorem sk_msr (M : sk_M) (k j : Nat) (v : Int32) : sk_ms M k j v = sk_mr M k (upd (M k) j v) := by
  funext a b
  by_cases ha : a = k
  · subst ha; simp [sk_ms, sk_mr, upd]
  · simp [sk_ms, sk_mr, ha]
theorem k_iast (C : sk_C X cc nL own rm O A) {k z : Nat} {r : Nat → Option Nat} {i x : Int32} (n : Nat) (h : sk_is O k (0, z, r)) (hi : i = nI n) (hin : n < z ∧ z < 2 ^ 31) (d : decode cc pc = .ok (.iastore, 1)) (K : sk_W l X O A Q nL kc ks (sk_ms M k n x) (pc + 1) lv st) : sk_W l X O A Q nL kc ks M pc lv (.int x :: .int i :: .ref (sk_ad O k) :: st) := by
  intro H locs ls hP hS hl
  subst hi
  have he := sk_at (O := O) (M := M) h.1
  rw [h.2] at he
  refine va_iast (D := O.1) C.1.1 C.1.2.1 C.2.2.1 hP (sk_vD C.2.2.2.1 C.2.2.2.2.1) hS k 0 he rfl (vp_in_nI hin.1 hin.2) d (fun H1 locs1 hP1 hD1 hS1 => ?_)
  have hP2 : va_P O.1 vwCl ((sk_ws O M).set k (sk_ad O k, .inl (sk_cy O 0, z, .inl (upd (M k) n x)))) H1 := by
    rw [nI_clamp (Nat.lt_trans hin.1 hin.2)] at hP1
    exact hP1
  rw [sk_up h (upd (M k) n x) (.inl (sk_cy O 0, z, .inl (upd (M k) n x))) rfl, ← sk_msr] at hP2
  exact K H1 locs1 ls hP2 hS1 hl
theorem k_zast (C : sk_C X cc nL own rm O A) {k z : Nat} {r : Nat → Option Nat} {i x : Int32} (n : Nat) (h : sk_is O k (1, z, r)) (hi : i = nI n) (hin : n < z ∧ z < 2 ^ 31) (hx : vp_nar .boolean x = x) (d : decode cc pc = .ok (.bastore, 1)) (K : sk_W l X O A Q nL kc ks (sk_ms M k n x) (pc + 1) lv st) : sk_W l X O A Q nL kc ks M pc lv (.int x :: .int i :: .ref (sk_ad O k) :: st) := by
  intro H locs ls hP hS hl
  subst hi
  have he := sk_at (O := O) (M := M) h.1
  rw [h.2] at he
  refine va_zast (D := O.1) C.1.1 C.1.2.1 C.2.2.1 hP (sk_vD C.2.2.2.1 C.2.2.2.2.1) hS k 1 he rfl (vp_in_nI hin.1 hin.2) d (fun H1 locs1 hP1 hD1 hS1 => ?_)
  have hP2 : va_P O.1 vwCl ((sk_ws O M).set k (sk_ad O k, .inl (sk_cy O 1, z, .inl (upd (M k) n x)))) H1 := by
    rw [nI_clamp (Nat.lt_trans hin.1 hin.2), hx] at hP1
    exact hP1
  rw [sk_up h (upd (M k) n x) (.inl (sk_cy O 1, z, .inl (upd (M k) n x))) rfl, ← sk_msr] at hP2
  exact K H1 locs1 ls hP2 hS1 hl
theorem k_copy (C : sk_C X cc nL own rm O A) {idx k0 k1 z0 z1 : Nat} {r0 r1 : Nat → Option Nat} (n : Nat) (hlink : Cond.methodLink own idx arraycopyName ∈ sk_tb) (hnat : Cond.native arraycopyName ∈ sk_tb) (hstat : Cond.static arraycopyName ∈ sk_tb) (hini : Cond.initialized "java/lang/System" ∈ sk_tb) (h0 : sk_is O k0 (0, z0, r0)) (h1 : sk_is O k1 (0, z1, r1)) {x sp dp : Int32} (hx : x = nI n) (hsp : sp = 0) (hdp : dp = 0) (hn : n ≤ z0 ∧ n ≤ z1 ∧ n < 2 ^ 31) (hR : 1 ≤ rm.frames ∧ (st.map fun v => v.category).sum + (nativeFrameWords "java/lang/System" "arraycopy" 5 + 11) ≤ rm.locals) (d : decode cc pc = .ok (.invokestatic idx, 3)) (K : sk_W l X O A Q nL kc ks (sk_mr M k1 (fun j => if j < n then M k0 j else M k1 j)) (pc + 3) lv st) : sk_W l X O A Q nL kc ks M pc lv (.int x :: .int dp :: .ref (sk_ad O k1) :: .int sp :: .ref (sk_ad O k0) :: st) := by
  intro H locs ls hP hS hl
  subst hx; subst hsp; subst hdp
  have he0 := sk_at (O := O) (M := M) h0.1
  have he1 := sk_at (O := O) (M := M) h1.1
  rw [h0.2] at he0
  rw [h1.2] at he1
  have hcl : (nI n).toNatClampNeg = n := nI_clamp hn.2.2
  refine va_copyi (D := O.1) C.1.1 C.1.2.1 (C.1.2.2.1.trans hl.1.symm) C.1.2.2.2.1 (C.1.2.2.2.2 _ hlink) (C.1.2.2.2.2 _ hnat) (C.1.2.2.2.2 _ hstat) (C.1.2.2.2.2 _ hini) C.2.2.1 hP (sk_vD C.2.2.2.1 C.2.2.2.2.1) hS k0 k1 0 0 he0 he1 rfl rfl rfl (by decide) (by decide) (nI_pos hn.2.2) ?_ ?_ (fun i _ => rfl) (by rw [C.2.1]; exact hR.1) (by rw [C.2.1]; exact hR.2) d (fun H1 locs1 hP1 hD1 hS1 => ?_)
  · rw [hcl]; show 0 + n ≤ z0; omega
  · rw [hcl]; show 0 + n ≤ z1; omega
  · have hP2 : va_P O.1 vwCl ((sk_ws O M).set k1 (sk_ad O k1, .inl (sk_cy O 0, z1, .inl (va_cpy (M k0) (M k1) 0 0 n)))) H1 := by
      rw [hcl] at hP1
      exact hP1
    rw [sk_up h1 (va_cpy (M k0) (M k1) 0 0 n) (.inl (sk_cy O 0, z1, .inl (va_cpy (M k0) (M k1) 0 0 n))) rfl] at hP2
    have hf : va_cpy (M k0) (M k1) 0 0 n = fun j => if j < n then M k0 j else M k1 j := by
      funext j
      simp [va_cpy]
    rw [hf] at hP2
    exact K H1 locs1 ls hP2 hS1 hl
theorem k_max (C : sk_C X cc nL own rm O A) {idx : Nat} {x y : Int32} (hlink : Cond.methodLink own idx Lib.Math.max.name ∈ sk_tb) (hstat : Cond.static Lib.Math.max.name ∈ sk_tb) (hini : Cond.initialized "java/lang/Math" ∈ sk_tb) (hcode : Cond.code Lib.Math.max.name Lib.Math.max.code 2 (some .int) ∈ sk_tb) (hR : 1 ≤ rm.frames ∧ (st.map fun v => v.category).sum + 13 ≤ rm.locals ∧ kc ≤ rm.cells ∧ ks ≤ rm.slots) (d : decode cc pc = .ok (.invokestatic idx, 3)) (K : sk_W l X O A Q nL kc ks M (pc + 3) lv (.int (if x < y then y else x) :: st)) : sk_W l X O A Q nL kc ks M pc lv (.int y :: .int x :: st) :=
  fun H locs ls hP hS hl => va_mmax C.1.1 C.1.2.1 (C.1.2.2.1.trans hl.1.symm) C.1.2.2.2.1 (C.1.2.2.2.2 _ hlink) (C.1.2.2.2.2 _ hstat) (C.1.2.2.2.2 _ hini) (C.1.2.2.2.2 _ hcode) (by rw [C.2.1]; exact hR.1) (by rw [C.2.1]; exact hR.2.1) (by rw [C.2.1]; exact hR.2.2.1) (by rw [C.2.1]; exact hR.2.2.2) d (K H locs ls hP hS hl)
theorem k_min (C : sk_C X cc nL own rm O A) {idx : Nat} {x y : Int32} (hlink : Cond.methodLink own idx Lib.Math.min.name ∈ sk_tb) (hstat : Cond.static Lib.Math.min.name ∈ sk_tb) (hini : Cond.initialized "java/lang/Math" ∈ sk_tb) (hcode : Cond.code Lib.Math.min.name Lib.Math.min.code 2 (some .int) ∈ sk_tb) (hR : 1 ≤ rm.frames ∧ (st.map fun v => v.category).sum + 13 ≤ rm.locals ∧ kc ≤ rm.cells ∧ ks ≤ rm.slots) (d : decode cc pc = .ok (.invokestatic idx, 3)) (K : sk_W l X O A Q nL kc ks M (pc + 3) lv (.int (if y < x then y else x) :: st)) : sk_W l X O A Q nL kc ks M pc lv (.int y :: .int x :: st) :=
  fun H locs ls hP hS hl => va_mmin C.1.1 C.1.2.1 (C.1.2.2.1.trans hl.1.symm) C.1.2.2.2.1 (C.1.2.2.2.2 _ hlink) (C.1.2.2.2.2 _ hstat) (C.1.2.2.2.2 _ hini) (C.1.2.2.2.2 _ hcode) (by rw [C.2.1]; exact hR.1) (by rw [C.2.1]; exact hR.2.1) (by rw [C.2.1]; exact hR.2.2.1) (by rw [C.2.1]; exact hR.2.2.2) d (K H locs ls hP hS hl)
theorem k_abs (C : sk_C X cc nL own rm O A) {idx : Nat} {x : Int32} (hlink : Cond.methodLink own idx Lib.Math.abs.name ∈ sk_tb) (hstat : Cond.static Lib.Math.abs.name ∈ sk_tb) (hini : Cond.initialized "java/lang/Math" ∈ sk_tb) (hcode : Cond.code Lib.Math.abs.name Lib.Math.abs.code 1 (some .int) ∈ sk_tb) (hR : 1 ≤ rm.frames ∧ (st.map fun v => v.category).sum + 13 ≤ rm.locals ∧ kc ≤ rm.cells ∧ ks ≤ rm.slots) (d : decode cc pc = .ok (.invokestatic idx, 3)) (K : sk_W l X O A Q nL kc ks M (pc + 3) lv (.int (if 0 ≤ x then x else 0 - x) :: st)) : sk_W l X O A Q nL kc ks M pc lv (.int x :: st) :=
  fun H locs ls hP hS hl => va_mabs C.1.1 C.1.2.1 (C.1.2.2.1.trans hl.1.symm) C.1.2.2.2.1 (C.1.2.2.2.2 _ hlink) (C.1.2.2.2.2 _ hstat) (C.1.2.2.2.2 _ hini) (C.1.2.2.2.2 _ hcode) (by rw [C.2.1]; exact hR.1) (by rw [C.2.1]; exact hR.2.1) (by rw [C.2.1]; exact hR.2.2.1) (by rw [C.2.1]; exact hR.2.2.2) d (K H locs ls hP hS hl)
-- the static rows
theorem k_gets (C : sk_C X cc nL own rm O A) (z : Nat) (hz : z < 3) {idx : Nat} (hlink : Cond.fieldLink own idx "SkateSheet$Scoring" (sk_rnm z) "[I" ∈ sk_tb) (d : decode cc pc = .ok (.getstatic idx, 3)) (K : sk_W l X O A Q nL kc ks M (pc + 3) lv (.ref (sk_st O z) :: st)) : sk_W l X O A Q nL kc ks M pc lv st :=
  fun H locs ls hP hS hl => va_gets C.1.1 C.1.2.1 (C.2.2.2.2.2.2.1 z hz).1 hS C.1.2.2.2.1 (C.1.2.2.2.2 _ hlink) (fun _ h => h) d (K H locs ls hP hS hl)
theorem k_slen (C : sk_C X cc nL own rm O A) (z : Nat) (hz : z < 3) (d : decode cc pc = .ok (.arraylength, 1)) (K : sk_W l X O A Q nL kc ks M (pc + 1) lv (.int (nI (sk_row z).length) :: st)) : sk_W l X O A Q nL kc ks M pc lv (.ref (sk_st O z) :: st) :=
  fun H locs ls hP hS hl => va_tlen C.1.1 C.1.2.1 (C.2.2.2.2.2.2.1 z hz).2 hS rfl d (K H locs ls hP hS hl)
theorem k_sald (C : sk_C X cc nL own rm O A) (z n : Nat) (hz : z < 3) {i : Int32} (hi : i = nI n) (hn : n < (sk_row z).length) (d : decode cc pc = .ok (.iaload, 1)) (K : sk_W l X O A Q nL kc ks M (pc + 1) lv (.int ((sk_row z).getD n 0) :: st)) : sk_W l X O A Q nL kc ks M pc lv (.int i :: .ref (sk_st O z) :: st) := by
  intro H locs ls hP hS hl
  subst hi
  have h24 : (sk_row z).length ≤ 24 := by
    match z with
    | 0 => exact Nat.le_of_ble_eq_true rfl
    | 1 => exact Nat.le_of_ble_eq_true rfl
    | z + 2 => exact Nat.le_of_ble_eq_true rfl
  refine va_ti C.1.1 C.1.2.1 (C.2.2.2.2.2.2.1 z hz).2 hS (vp_in_nI hn (Nat.lt_of_le_of_lt h24 (by decide))) rfl d ?_
  rw [nI_clamp (Nat.lt_of_lt_of_le hn (Nat.le_trans h24 (by decide)))]
  exact K H locs ls hP hS hl
-- calls
def sk_yv (y : MethodName) (cc : ByteArray) (maxL : Nat) (ret : Option FieldType) (n : Nat) : Prop :=
  Cond.code y cc maxL ret ∈ sk_tb ∧ Cond.initialized y.cls ∈ sk_tb ∧ (y.cls ≠ "java/lang/invoke/MethodHandle" ∧ y.cls ≠ "java/lang/invoke/VarHandle") ∧ (parseMethodDescriptor y.desc).map (fun d => d.parameters.length) = some n
theorem sk_cb (C : sk_C X cc nL own rm O A) {y : MethodName} {ccY : ByteArray} {maxL idx n : Nat} {ret : Option FieldType} {rmY : Room} {mc ms : Nat} (hy : sk_yv y ccY maxL ret n) (hl : Cond.methodLink own idx y ∈ sk_tb) (hc : rmY.cells = mc ∧ rmY.slots = ms) (hR : rmY.frames + 1 ≤ rm.frames ∧ 8 + (maxL + 11) + rmY.locals ≤ rm.locals) : CallB X.2.2.1 (sk_s X) X.2.2.2.2.2.1 own idx y ccY maxL ret (sk_w y ccY maxL ret) rmY mc ms n := by
  have hts := C.1.2.2.2.2
  have hw : ∀ w ∈ sk_tb, ∀ (a' : Array Value) (U : State), (sk_s X).WarmedH U.vm → w.before a' U = true := fun w h a' U hW => word_at hW (good_of_word (sk_good w h)) (hts w h)
  refine ⟨hc.1, hc.2, by rw [C.2.1]; exact hR.1, by rw [C.2.1]; exact hR.2, fun w h => ?_, List.mem_cons_self, hts _ hy.1, hts _ hy.2.1, hy.2.2.1, ?_, hts _ hl⟩
  · rcases List.mem_cons.mp h with rfl | h
    · exact hw _ hy.1
    · exact hw _ h
  · intro sig hs
    have h := hy.2.2.2
    rw [hs] at h
    exact (Option.some.inj h).symm
theorem sk_pre (C : sk_C X cc nL own rm O A) {H : Heap} {locs : List Loc} (hP : va_P O.1 vwCl (sk_ws O M) H) (hS : va_S A (sk_s X).heap H locs) {as : List Value} (U : State) (hU : U.heap = H) (hW : (sk_s X).WarmedH U.vm) : sk_Pc O M H.size as as.toArray U :=
  ⟨rfl, by rw [hU], ⟨by rw [hU]; exact hP, va_K.moved hW.alike C.2.2.1⟩, C.2.2.2.2.2.2.go hW.alike (fun a h1 h2 => by rw [hU]; exact hS.2.1 a h1 h2) (sk_Ax C.2.2.2.2.1 C.2.2.2.2.2.1 hS.1)⟩
theorem sk_rcv (C : sk_C X cc nL own rm O A) {H : Heap} (hP : va_P O.1 vwCl (sk_ws O M) H) {k ci N : Nat} {r : Nat → Option Nat} {y : MethodName} (ho : sk_is O k (ci + 4, N, r)) (hcl : (vwCl[ci]?).map (fun q => q.1) = some y.cls) : ∃ cellB : Cell, H[sk_ad O k]? = some cellB ∧ cellB.vm.isStatics = false ∧ (sk_s X).vm.findClass y.cls = some cellB.cls := by
  have he := sk_at (O := O) (M := M) ho.1
  rw [ho.2] at he
  cases hq : vwCl[ci]? with
  | none => rw [hq] at hcl; cases hcl
  | some q =>
    rw [hq] at hcl
    have hcl : q.1 = y.cls := Option.some.inj hcl
    have hr := va_recv C.2.2.1 hP hq he
    rw [hcl] at hr
    exact hr
theorem k_vi (C : sk_C X cc nL own rm O A) {y : MethodName} {ccY : ByteArray} {maxL idx n k ci N : Nat} {ret : FieldType} {rmY : Room} {r : Nat → Option Nat} {as st0 : List Value} {post : Int32 → sk_M → Prop} (hy : sk_yv y ccY maxL (some ret) n) (hv : Cond.instanceMethod y ∈ sk_tb ∧ Cond.selects y.cls y y ∈ sk_tb) (hl : Cond.methodLink own idx y ∈ sk_tb) (hM : sk_Mi l y (sk_w y ccY maxL (some ret)) rmY O (.ref (sk_ad O k) :: as) M post) (ho : sk_is O k (ci + 4, N, r)) (hcl : (vwCl[ci]?).map (fun q => q.1) = some y.cls) (hn : as.length = n) (hst : st0 = as.reverse ++ .ref (sk_ad O k) :: st) (hcat : (st.map fun v => v.category).sum ≤ 8) (hR : (rmY.frames + 1 ≤ rm.frames ∧ 8 + (maxL + 11) + rmY.locals ≤ rm.locals) ∧ kc ≤ rm.cells ∧ ks ≤ rm.slots) (d : decode cc pc = .ok (.invokevirtual idx, 3)) (K : ∀ (x : Int32) (M' : sk_M), post x M' → sk_W l X O A Q nL kc ks M' (pc + 3) lv (.int x :: st)) : sk_W l X O A Q nL kc ks M pc lv st0 := by
  intro H locs ls hP hS hl0
  have hF := sk_Ax C.2.2.2.2.1 C.2.2.2.2.2.1 hS.1
  refine va_calli (va_runV (C := y.cls) (As := as) (rest := st) C.1 (hM.2.2 H.size) ⟨sk_cb C hy hl ⟨hM.1, hM.2.1⟩ hR.1, C.1.2.2.2.2 _ hv.1, C.1.2.2.2.2 _ hv.2⟩ ⟨sk_blind, sk_rcv C hP ho hcl, fun U hU hW => sk_pre C hP hS U hU hW⟩ rfl hn hl0.1 hst (lv_room hcat) d ⟨by rw [C.2.1]; exact hR.2.1, by rw [C.2.1]; exact hR.2.2⟩) hS (fun q _ h => hF q h) hF (fun x u t H1 locs1 ht hvm hw hB hz1 hk1 hS1 => ?_)
  exact K x u hw H1 locs1 ls (by rw [← ht]; exact hB.1) hS1 hl0
theorem k_vv (C : sk_C X cc nL own rm O A) {y : MethodName} {ccY : ByteArray} {maxL idx n k ci N : Nat} {rmY : Room} {r : Nat → Option Nat} {as st0 : List Value} {post : sk_M → Prop} (hy : sk_yv y ccY maxL none n) (hv : Cond.instanceMethod y ∈ sk_tb ∧ Cond.selects y.cls y y ∈ sk_tb) (hl : Cond.methodLink own idx y ∈ sk_tb) (hM : sk_Mv l y (sk_w y ccY maxL none) rmY O (.ref (sk_ad O k) :: as) M post) (ho : sk_is O k (ci + 4, N, r)) (hcl : (vwCl[ci]?).map (fun q => q.1) = some y.cls) (hn : as.length = n) (hst : st0 = as.reverse ++ .ref (sk_ad O k) :: st) (hcat : (st.map fun v => v.category).sum ≤ 8) (hR : (rmY.frames + 1 ≤ rm.frames ∧ 8 + (maxL + 11) + rmY.locals ≤ rm.locals) ∧ kc ≤ rm.cells ∧ ks ≤ rm.slots) (d : decode cc pc = .ok (.invokevirtual idx, 3)) (K : ∀ (M' : sk_M), post M' → sk_W l X O A Q nL kc ks M' (pc + 3) lv st) : sk_W l X O A Q nL kc ks M pc lv st0 := by
  intro H locs ls hP hS hl0
  have hF := sk_Ax C.2.2.2.2.1 C.2.2.2.2.2.1 hS.1
  refine va_callv (va_runV (C := y.cls) (As := as) (rest := st) C.1 (hM.2.2 H.size) ⟨sk_cb C hy hl ⟨hM.1, hM.2.1⟩ hR.1, C.1.2.2.2.2 _ hv.1, C.1.2.2.2.2 _ hv.2⟩ ⟨sk_blind, sk_rcv C hP ho hcl, fun U hU hW => sk_pre C hP hS U hU hW⟩ rfl hn hl0.1 hst (lv_room hcat) d ⟨by rw [C.2.1]; exact hR.2.1, by rw [C.2.1]; exact hR.2.2⟩) hS (fun q _ h => hF q h) hF (fun u t H1 locs1 ht hvm hw hB hz1 hk1 hS1 => ?_)
  exact K u hw H1 locs1 ls (by rw [← ht]; exact hB.1) hS1 hl0
theorem k_si (C : sk_C X cc nL own rm O A) {y : MethodName} {ccY : ByteArray} {maxL idx n : Nat} {ret : FieldType} {rmY : Room} {as st0 : List Value} {post : Int32 → sk_M → Prop} (hy : sk_yv y ccY maxL (some ret) n) (hv : Cond.static y ∈ sk_tb) (hl : Cond.methodLink own idx y ∈ sk_tb) (hM : sk_Mi l y (sk_w y ccY maxL (some ret)) rmY O as M post) (hn : as.length = n) (hst : st0 = as.reverse ++ st) (hcat : (st.map fun v => v.category).sum ≤ 8) (hR : (rmY.frames + 1 ≤ rm.frames ∧ 8 + (maxL + 11) + rmY.locals ≤ rm.locals) ∧ kc ≤ rm.cells ∧ ks ≤ rm.slots) (d : decode cc pc = .ok (.invokestatic idx, 3)) (K : ∀ (x : Int32) (M' : sk_M), post x M' → sk_W l X O A Q nL kc ks M' (pc + 3) lv (.int x :: st)) : sk_W l X O A Q nL kc ks M pc lv st0 := by
  intro H locs ls hP hS hl0
  have hF := sk_Ax C.2.2.2.2.1 C.2.2.2.2.2.1 hS.1
  refine va_calli (va_runS (As := as) (rest := st) C.1 (hM.2.2 H.size) ⟨sk_cb C hy hl ⟨hM.1, hM.2.1⟩ hR.1, C.1.2.2.2.2 _ hv⟩ ⟨sk_blind, fun U hU hW => sk_pre C hP hS U hU hW⟩ rfl hn hl0.1 hst (lv_room hcat) d ⟨by rw [C.2.1]; exact hR.2.1, by rw [C.2.1]; exact hR.2.2⟩) hS (fun q _ h => hF q h) hF (fun x u t H1 locs1 ht hvm hw hB hz1 hk1 hS1 => ?_)
  exact K x u hw H1 locs1 ls (by rw [← ht]; exact hB.1) hS1 hl0
theorem k_sl (C : sk_C X cc nL own rm O A) {y : MethodName} {ccY : ByteArray} {maxL idx n : Nat} {rmY : Room} {as st0 : List Value} {post : Int64 → sk_M → Prop} (hy : sk_yv y ccY maxL (some .long) n) (hv : Cond.static y ∈ sk_tb) (hl : Cond.methodLink own idx y ∈ sk_tb) (hM : sk_Ml l y (sk_w y ccY maxL (some .long)) rmY O as M post) (hn : as.length = n) (hst : st0 = as.reverse ++ st) (hcat : (st.map fun v => v.category).sum ≤ 8) (hR : (rmY.frames + 1 ≤ rm.frames ∧ 8 + (maxL + 11) + rmY.locals ≤ rm.locals) ∧ kc ≤ rm.cells ∧ ks ≤ rm.slots) (d : decode cc pc = .ok (.invokestatic idx, 3)) (K : ∀ (x : Int64) (M' : sk_M), post x M' → sk_W l X O A Q nL kc ks M' (pc + 3) lv (.long x :: st)) : sk_W l X O A Q nL kc ks M pc lv st0 := by
  intro H locs ls hP hS hl0
  have hF := sk_Ax C.2.2.2.2.1 C.2.2.2.2.2.1 hS.1
  refine va_calll (va_runS (As := as) (rest := st) C.1 (hM.2.2 H.size) ⟨sk_cb C hy hl ⟨hM.1, hM.2.1⟩ hR.1, C.1.2.2.2.2 _ hv⟩ ⟨sk_blind, fun U hU hW => sk_pre C hP hS U hU hW⟩ rfl hn hl0.1 hst (lv_room hcat) d ⟨by rw [C.2.1]; exact hR.2.1, by rw [C.2.1]; exact hR.2.2⟩) hS (fun q _ h => hF q h) hF (fun x u t H1 locs1 ht hvm hw hB hz1 hk1 hS1 => ?_)
  exact K x u hw H1 locs1 ls (by rw [← ht]; exact hB.1) hS1 hl0
theorem k_sv (C : sk_C X cc nL own rm O A) {y : MethodName} {ccY : ByteArray} {maxL idx n : Nat} {rmY : Room} {as st0 : List Value} {post : sk_M → Prop} (hy : sk_yv y ccY maxL none n) (hv : Cond.static y ∈ sk_tb) (hl : Cond.methodLink own idx y ∈ sk_tb) (hM : sk_Mv l y (sk_w y ccY maxL none) rmY O as M post) (hn : as.length = n) (hst : st0 = as.reverse ++ st) (hcat : (st.map fun v => v.category).sum ≤ 8) (hR : (rmY.frames + 1 ≤ rm.frames ∧ 8 + (maxL + 11) + rmY.locals ≤ rm.locals) ∧ kc ≤ rm.cells ∧ ks ≤ rm.slots) (d : decode cc pc = .ok (.invokestatic idx, 3)) (K : ∀ (M' : sk_M), post M' → sk_W l X O A Q nL kc ks M' (pc + 3) lv st) : sk_W l X O A Q nL kc ks M pc lv st0 := by
  intro H locs ls hP hS hl0
  have hF := sk_Ax C.2.2.2.2.1 C.2.2.2.2.2.1 hS.1
  refine va_callv (va_runS (As := as) (rest := st) C.1 (hM.2.2 H.size) ⟨sk_cb C hy hl ⟨hM.1, hM.2.1⟩ hR.1, C.1.2.2.2.2 _ hv⟩ ⟨sk_blind, fun U hU hW => sk_pre C hP hS U hU hW⟩ rfl hn hl0.1 hst (lv_room hcat) d ⟨by rw [C.2.1]; exact hR.2.1, by rw [C.2.1]; exact hR.2.2⟩) hS (fun q _ h => hF q h) hF (fun u t H1 locs1 ht hvm hw hB hz1 hk1 hS1 => ?_)
  exact K u hw H1 locs1 ls (by rw [← ht]; exact hB.1) hS1 hl0
end SKR
end
