section
-- ===== PART A: goes FIRST, ahead of the names: the tables' words, and 'selects' of the private methods out of them =====
/-- a private method of a class that the tables say can be made, by its rows of tables_1 -/
def lw_okq (q : MethodName × Nat) : Prop := (q.1.cls ≠ "java/lang/invoke/MethodHandle" ∧ q.1.cls ≠ "java/lang/invoke/VarHandle") ∧ Cond.instantiable q.1.cls q.2 ∈ tables_1 ∧ Cond.privateMethod q.1 ∈ tables_1 ∧ Cond.instanceMethod q.1 ∈ tables_1
theorem lw_p0 : lw_okq (⟨"StampSheets", "stampsWith", "(I)I"⟩, 5) := ⟨⟨by decide +kernel, by decide +kernel⟩, List.mem_of_getElem? (i := 16) (by decide +kernel), List.mem_of_getElem? (i := 144) (by decide +kernel), List.mem_of_getElem? (i := 145) (by decide +kernel)⟩
theorem lw_p1 : lw_okq (⟨"StampSheets$Sheet", "isLeftWith", "(II)Z"⟩, 2) := ⟨⟨by decide +kernel, by decide +kernel⟩, List.mem_of_getElem? (i := 85) (by decide +kernel), List.mem_of_getElem? (i := 152) (by decide +kernel), List.mem_of_getElem? (i := 153) (by decide +kernel)⟩
theorem lw_p2 : lw_okq (⟨"StampSheets", "countAnswer", "(I)I"⟩, 5) := ⟨⟨by decide +kernel, by decide +kernel⟩, List.mem_of_getElem? (i := 16) (by decide +kernel), List.mem_of_getElem? (i := 162) (by decide +kernel), List.mem_of_getElem? (i := 163) (by decide +kernel)⟩
theorem lw_p3 : lw_okq (⟨"StampSheets", "invertedPlaces", "()I"⟩, 5) := ⟨⟨by decide +kernel, by decide +kernel⟩, List.mem_of_getElem? (i := 16) (by decide +kernel), List.mem_of_getElem? (i := 174) (by decide +kernel), List.mem_of_getElem? (i := 175) (by decide +kernel)⟩
theorem lw_p4 : lw_okq (⟨"StampSheets", "worthOfSheets", "()I"⟩, 5) := ⟨⟨by decide +kernel, by decide +kernel⟩, List.mem_of_getElem? (i := 16) (by decide +kernel), List.mem_of_getElem? (i := 178) (by decide +kernel), List.mem_of_getElem? (i := 179) (by decide +kernel)⟩
theorem lw_p5 : lw_okq (⟨"StampSheets$Sheet", "left", "()I"⟩, 2) := ⟨⟨by decide +kernel, by decide +kernel⟩, List.mem_of_getElem? (i := 85) (by decide +kernel), List.mem_of_getElem? (i := 204) (by decide +kernel), List.mem_of_getElem? (i := 205) (by decide +kernel)⟩
theorem lw_p6 : lw_okq (⟨"StampSheets$Sheet", "invertedPairs", "()I"⟩, 2) := ⟨⟨by decide +kernel, by decide +kernel⟩, List.mem_of_getElem? (i := 85) (by decide +kernel), List.mem_of_getElem? (i := 210) (by decide +kernel), List.mem_of_getElem? (i := 211) (by decide +kernel)⟩
theorem lw_p7 : lw_okq (⟨"StampSheets$Sheet", "isInvertedPair", "(I)Z"⟩, 2) := ⟨⟨by decide +kernel, by decide +kernel⟩, List.mem_of_getElem? (i := 85) (by decide +kernel), List.mem_of_getElem? (i := 214) (by decide +kernel), List.mem_of_getElem? (i := 215) (by decide +kernel)⟩
theorem lw_p8 : lw_okq (⟨"StampSheets$Sheet", "rowsOff", "()I"⟩, 2) := ⟨⟨by decide +kernel, by decide +kernel⟩, List.mem_of_getElem? (i := 85) (by decide +kernel), List.mem_of_getElem? (i := 218) (by decide +kernel), List.mem_of_getElem? (i := 219) (by decide +kernel)⟩
theorem lw_p9 : lw_okq (⟨"StampSheets$Sheet", "greatestBlock", "()I"⟩, 2) := ⟨⟨by decide +kernel, by decide +kernel⟩, List.mem_of_getElem? (i := 85) (by decide +kernel), List.mem_of_getElem? (i := 222) (by decide +kernel), List.mem_of_getElem? (i := 223) (by decide +kernel)⟩
theorem lw_p10 : lw_okq (⟨"StampSheets$Sheet", "goodColumns", "(I)I"⟩, 2) := ⟨⟨by decide +kernel, by decide +kernel⟩, List.mem_of_getElem? (i := 85) (by decide +kernel), List.mem_of_getElem? (i := 226) (by decide +kernel), List.mem_of_getElem? (i := 227) (by decide +kernel)⟩
theorem lw_p11 : lw_okq (⟨"java/lang/Throwable", "fillInStackTrace", "(I)Ljava/lang/Throwable;"⟩, 6) := ⟨⟨by decide +kernel, by decide +kernel⟩, List.mem_of_getElem? (i := 285) (by decide +kernel), List.mem_of_getElem? (i := 283) (by decide +kernel), List.mem_of_getElem? (i := 284) (by decide +kernel)⟩
theorem lw_p12 : lw_okq (⟨"StampSheets$Machine", "markRow", "(I[ZLStampSheets$Sheet;)V"⟩, 7) := ⟨⟨by decide +kernel, by decide +kernel⟩, List.mem_of_getElem? (i := 24) (by decide +kernel), List.mem_of_getElem? (i := 390) (by decide +kernel), List.mem_of_getElem? (i := 391) (by decide +kernel)⟩
theorem lw_p13 : lw_okq (⟨"StampSheets$Machine", "holeFaults", "(I)I"⟩, 7) := ⟨⟨by decide +kernel, by decide +kernel⟩, List.mem_of_getElem? (i := 24) (by decide +kernel), List.mem_of_getElem? (i := 395) (by decide +kernel), List.mem_of_getElem? (i := 396) (by decide +kernel)⟩
theorem lw_p14 : lw_okq (⟨"StampSheets$Machine", "hasWatermark", "(I)Z"⟩, 7) := ⟨⟨by decide +kernel, by decide +kernel⟩, List.mem_of_getElem? (i := 24) (by decide +kernel), List.mem_of_getElem? (i := 399) (by decide +kernel), List.mem_of_getElem? (i := 400) (by decide +kernel)⟩
theorem lw_p15 : lw_okq (⟨"StampSheets$Machine", "strikeAll", "()V"⟩, 7) := ⟨⟨by decide +kernel, by decide +kernel⟩, List.mem_of_getElem? (i := 24) (by decide +kernel), List.mem_of_getElem? (i := 403) (by decide +kernel), List.mem_of_getElem? (i := 404) (by decide +kernel)⟩
def lw_privs_1 : List (MethodName × Nat) := [(⟨"StampSheets", "stampsWith", "(I)I"⟩, 5), (⟨"StampSheets$Sheet", "isLeftWith", "(II)Z"⟩, 2), (⟨"StampSheets", "countAnswer", "(I)I"⟩, 5), (⟨"StampSheets", "invertedPlaces", "()I"⟩, 5), (⟨"StampSheets", "worthOfSheets", "()I"⟩, 5), (⟨"StampSheets$Sheet", "left", "()I"⟩, 2), (⟨"StampSheets$Sheet", "invertedPairs", "()I"⟩, 2), (⟨"StampSheets$Sheet", "isInvertedPair", "(I)Z"⟩, 2), (⟨"StampSheets$Sheet", "rowsOff", "()I"⟩, 2), (⟨"StampSheets$Sheet", "greatestBlock", "()I"⟩, 2), (⟨"StampSheets$Sheet", "goodColumns", "(I)I"⟩, 2), (⟨"java/lang/Throwable", "fillInStackTrace", "(I)Ljava/lang/Throwable;"⟩, 6), (⟨"StampSheets$Machine", "markRow", "(I[ZLStampSheets$Sheet;)V"⟩, 7), (⟨"StampSheets$Machine", "holeFaults", "(I)I"⟩, 7), (⟨"StampSheets$Machine", "hasWatermark", "(I)Z"⟩, 7), (⟨"StampSheets$Machine", "strikeAll", "()V"⟩, 7)]
theorem lw_r1 : ∀ q ∈ lw_privs_1, lw_okq q := List.forall_mem_cons.mpr ⟨lw_p0, List.forall_mem_cons.mpr ⟨lw_p1, List.forall_mem_cons.mpr ⟨lw_p2, List.forall_mem_cons.mpr ⟨lw_p3, List.forall_mem_cons.mpr ⟨lw_p4, List.forall_mem_cons.mpr ⟨lw_p5, List.forall_mem_cons.mpr ⟨lw_p6, List.forall_mem_cons.mpr ⟨lw_p7, List.forall_mem_cons.mpr ⟨lw_p8, List.forall_mem_cons.mpr ⟨lw_p9, List.forall_mem_cons.mpr ⟨lw_p10, List.forall_mem_cons.mpr ⟨lw_p11, List.forall_mem_cons.mpr ⟨lw_p12, List.forall_mem_cons.mpr ⟨lw_p13, List.forall_mem_cons.mpr ⟨lw_p14, List.forall_mem_cons.mpr ⟨lw_p15, fun _ h => absurd h List.not_mem_nil⟩⟩⟩⟩⟩⟩⟩⟩⟩⟩⟩⟩⟩⟩⟩⟩
theorem lw_p16 : lw_okq (⟨"StampSheets", "checkSheet", "(I)V"⟩, 5) := ⟨⟨by decide +kernel, by decide +kernel⟩, List.mem_of_getElem? (i := 16) (by decide +kernel), List.mem_of_getElem? (i := 422) (by decide +kernel), List.mem_of_getElem? (i := 423) (by decide +kernel)⟩
theorem lw_p17 : lw_okq (⟨"StampSheetsModel", "fail", "(I)I"⟩, 8) := ⟨⟨by decide +kernel, by decide +kernel⟩, List.mem_of_getElem? (i := 508) (by decide +kernel), List.mem_of_getElem? (i := 550) (by decide +kernel), List.mem_of_getElem? (i := 551) (by decide +kernel)⟩
theorem lw_p18 : lw_okq (⟨"StampSheetsModel", "runSheet", "()V"⟩, 8) := ⟨⟨by decide +kernel, by decide +kernel⟩, List.mem_of_getElem? (i := 508) (by decide +kernel), List.mem_of_getElem? (i := 577) (by decide +kernel), List.mem_of_getElem? (i := 578) (by decide +kernel)⟩
theorem lw_p19 : lw_okq (⟨"StampSheetsModel", "runRow", "(I)V"⟩, 8) := ⟨⟨by decide +kernel, by decide +kernel⟩, List.mem_of_getElem? (i := 508) (by decide +kernel), List.mem_of_getElem? (i := 581) (by decide +kernel), List.mem_of_getElem? (i := 582) (by decide +kernel)⟩
theorem lw_p20 : lw_okq (⟨"StampSheetsModel", "isWhole", "(I)Z"⟩, 8) := ⟨⟨by decide +kernel, by decide +kernel⟩, List.mem_of_getElem? (i := 508) (by decide +kernel), List.mem_of_getElem? (i := 585) (by decide +kernel), List.mem_of_getElem? (i := 586) (by decide +kernel)⟩
theorem lw_p21 : lw_okq (⟨"StampSheetsModel", "isSheet", "(I)Z"⟩, 8) := ⟨⟨by decide +kernel, by decide +kernel⟩, List.mem_of_getElem? (i := 508) (by decide +kernel), List.mem_of_getElem? (i := 598) (by decide +kernel), List.mem_of_getElem? (i := 599) (by decide +kernel)⟩
theorem lw_p22 : lw_okq (⟨"StampSheetsModel", "sheetTold", "(II)I"⟩, 8) := ⟨⟨by decide +kernel, by decide +kernel⟩, List.mem_of_getElem? (i := 508) (by decide +kernel), List.mem_of_getElem? (i := 613) (by decide +kernel), List.mem_of_getElem? (i := 614) (by decide +kernel)⟩
theorem lw_p23 : lw_okq (⟨"StampSheetsModel", "pairs", "(I)I"⟩, 8) := ⟨⟨by decide +kernel, by decide +kernel⟩, List.mem_of_getElem? (i := 508) (by decide +kernel), List.mem_of_getElem? (i := 617) (by decide +kernel), List.mem_of_getElem? (i := 618) (by decide +kernel)⟩
theorem lw_p24 : lw_okq (⟨"StampSheetsModel", "block", "(I)I"⟩, 8) := ⟨⟨by decide +kernel, by decide +kernel⟩, List.mem_of_getElem? (i := 508) (by decide +kernel), List.mem_of_getElem? (i := 621) (by decide +kernel), List.mem_of_getElem? (i := 622) (by decide +kernel)⟩
theorem lw_p25 : lw_okq (⟨"StampSheetsModel", "isClean", "(IIIII)Z"⟩, 8) := ⟨⟨by decide +kernel, by decide +kernel⟩, List.mem_of_getElem? (i := 508) (by decide +kernel), List.mem_of_getElem? (i := 625) (by decide +kernel), List.mem_of_getElem? (i := 626) (by decide +kernel)⟩
theorem lw_p26 : lw_okq (⟨"StampSheetsModel", "pinTold", "(II)I"⟩, 8) := ⟨⟨by decide +kernel, by decide +kernel⟩, List.mem_of_getElem? (i := 508) (by decide +kernel), List.mem_of_getElem? (i := 633) (by decide +kernel), List.mem_of_getElem? (i := 634) (by decide +kernel)⟩
theorem lw_p27 : lw_okq (⟨"StampSheetsModel", "counted", "(I)I"⟩, 8) := ⟨⟨by decide +kernel, by decide +kernel⟩, List.mem_of_getElem? (i := 508) (by decide +kernel), List.mem_of_getElem? (i := 641) (by decide +kernel), List.mem_of_getElem? (i := 642) (by decide +kernel)⟩
theorem lw_p28 : lw_okq (⟨"StampSheetsModel", "broken", "()I"⟩, 8) := ⟨⟨by decide +kernel, by decide +kernel⟩, List.mem_of_getElem? (i := 508) (by decide +kernel), List.mem_of_getElem? (i := 645) (by decide +kernel), List.mem_of_getElem? (i := 646) (by decide +kernel)⟩
theorem lw_p29 : lw_okq (⟨"StampSheetsModel", "kept", "()[[I"⟩, 8) := ⟨⟨by decide +kernel, by decide +kernel⟩, List.mem_of_getElem? (i := 508) (by decide +kernel), List.mem_of_getElem? (i := 653) (by decide +kernel), List.mem_of_getElem? (i := 654) (by decide +kernel)⟩
theorem lw_p30 : lw_okq (⟨"StampSheetsModel", "wouldRun", "(IZ)I"⟩, 8) := ⟨⟨by decide +kernel, by decide +kernel⟩, List.mem_of_getElem? (i := 508) (by decide +kernel), List.mem_of_getElem? (i := 665) (by decide +kernel), List.mem_of_getElem? (i := 666) (by decide +kernel)⟩
theorem lw_p31 : lw_okq (⟨"StampSheetsModel", "bringBack", "([[I)V"⟩, 8) := ⟨⟨by decide +kernel, by decide +kernel⟩, List.mem_of_getElem? (i := 508) (by decide +kernel), List.mem_of_getElem? (i := 669) (by decide +kernel), List.mem_of_getElem? (i := 670) (by decide +kernel)⟩
def lw_privs_2 : List (MethodName × Nat) := [(⟨"StampSheets", "checkSheet", "(I)V"⟩, 5), (⟨"StampSheetsModel", "fail", "(I)I"⟩, 8), (⟨"StampSheetsModel", "runSheet", "()V"⟩, 8), (⟨"StampSheetsModel", "runRow", "(I)V"⟩, 8), (⟨"StampSheetsModel", "isWhole", "(I)Z"⟩, 8), (⟨"StampSheetsModel", "isSheet", "(I)Z"⟩, 8), (⟨"StampSheetsModel", "sheetTold", "(II)I"⟩, 8), (⟨"StampSheetsModel", "pairs", "(I)I"⟩, 8), (⟨"StampSheetsModel", "block", "(I)I"⟩, 8), (⟨"StampSheetsModel", "isClean", "(IIIII)Z"⟩, 8), (⟨"StampSheetsModel", "pinTold", "(II)I"⟩, 8), (⟨"StampSheetsModel", "counted", "(I)I"⟩, 8), (⟨"StampSheetsModel", "broken", "()I"⟩, 8), (⟨"StampSheetsModel", "kept", "()[[I"⟩, 8), (⟨"StampSheetsModel", "wouldRun", "(IZ)I"⟩, 8), (⟨"StampSheetsModel", "bringBack", "([[I)V"⟩, 8)]
theorem lw_r2 : ∀ q ∈ lw_privs_2, lw_okq q := List.forall_mem_cons.mpr ⟨lw_p16, List.forall_mem_cons.mpr ⟨lw_p17, List.forall_mem_cons.mpr ⟨lw_p18, List.forall_mem_cons.mpr ⟨lw_p19, List.forall_mem_cons.mpr ⟨lw_p20, List.forall_mem_cons.mpr ⟨lw_p21, List.forall_mem_cons.mpr ⟨lw_p22, List.forall_mem_cons.mpr ⟨lw_p23, List.forall_mem_cons.mpr ⟨lw_p24, List.forall_mem_cons.mpr ⟨lw_p25, List.forall_mem_cons.mpr ⟨lw_p26, List.forall_mem_cons.mpr ⟨lw_p27, List.forall_mem_cons.mpr ⟨lw_p28, List.forall_mem_cons.mpr ⟨lw_p29, List.forall_mem_cons.mpr ⟨lw_p30, List.forall_mem_cons.mpr ⟨lw_p31, fun _ h => absurd h List.not_mem_nil⟩⟩⟩⟩⟩⟩⟩⟩⟩⟩⟩⟩⟩⟩⟩⟩
def lw_privs : List (MethodName × Nat) := lw_privs_1 ++ (lw_privs_2)
def lw_tbl : List Cond := k2_sels lw_privs ++ tables_1
theorem lw_privs_ok : ∀ q ∈ lw_privs, lw_okq q := by
  show ∀ q ∈ lw_privs_1 ++ (lw_privs_2), lw_okq q
  exact List.forall_mem_append.mpr ⟨lw_r1, lw_r2⟩
/-- the streams that the claim lets the run draw from -/
abbrev lw_cs : List Choice := [Jvm.Choice.named "NaN.bits"]
theorem lw_bits : nanBits ∈ lw_cs := by first | decide | exact List.mem_cons_self | simp [lw_cs, nanBits]
end
section
/-! ===== BEGIN words of one list among another's, by their places ===== -/
theorem goodIn_r {big : List Cond} (ws : List Cond) (ps : List Nat) (hp : ws = ps.filterMap (fun i => big[i]?)) (h : ws.all goodWord = true) : GoodIn big ws := by
  intro w hw
  have h1 := List.all_eq_true.mp h w hw
  rw [hp] at hw
  obtain ⟨i, -, hi⟩ := List.mem_filterMap.mp hw
  have hm : w ∈ big := by first | exact List.mem_of_getElem? hi | exact List.getElem?_mem hi
  exact ⟨hm, good_of_word h1⟩
theorem goodIn_app {big a b : List Cond} (ha : GoodIn big a) (hb : GoodIn big b) : GoodIn big (a ++ b) := fun w h => (List.mem_append.mp h).elim (ha w) (hb w)
theorem goodIn_ca {big a b : List Cond} {c : Cond} (ha : GoodIn big (c :: a)) (hb : GoodIn big b) : GoodIn big (c :: (a ++ b)) := fun w h => (List.mem_cons.mp h).elim (fun e => ha w (List.mem_cons.mpr (Or.inl e))) (fun h => (List.mem_append.mp h).elim (fun h => ha w (List.mem_cons.mpr (Or.inr h))) (hb w))
theorem goodIn_sub {big ws : List Cond} (hm : ∀ w ∈ ws, w ∈ big) (h : ws.all goodWord = true) : GoodIn big ws := fun w hw => ⟨hm w hw, good_of_word (List.all_eq_true.mp h w hw)⟩
/-! ===== END ===== -/

/-! ===== BEGIN exceptions that leave a method, and their catching by the caller (launches without stack traces) ===== -/
section VXA
/-! The laws vx_back, vx_callV, vx_callS, vx_callSW, vx_throw0, vx_throwS follow proofs of the library, with one case more: JvmDerived/Free/Laws.lean (Back.of_free), Shelf42/LK1.lean (callV, callS), Shelf/KitTraced.lean (throwNew0V, throwNewS). -/
/-- where a method has thrown q: the class by its name, the cell, what was written, the world -/
def vx_T (XC : String → State → State → Prop) (st : State) (q : Addr) (t : State) (mc ms : Nat) (free : Addr → Prop) : Prop :=
  ∃ (E : String) (ce : Cell) (L : List Loc), XC E st t ∧ t.heap[q]? = some ce ∧ ce.vm = .none ∧ st.vm.findClass E = some ce.cls ∧ st.WarmedH t.vm ∧ st.sameButNew ({ t with vm := st.vm } : State) L mc ms ∧ ∀ z ∈ L, free z.base
def vx_Q (Qc : Array Value → State → Outcome → State → Prop) (XC : String → State → State → Prop) (mc ms : Nat) (free : Addr → Prop) : Array Value → State → Outcome → State → Prop := fun a st o t =>
  (Qc a st o t ∧ ∃ L, FrameEnd st o t L mc ms ∧ ∀ q ∈ L, free q.base) ∨ ∃ q, o = .threw q ∧ vx_T XC st q t mc ms free
/-- a callee that returns or throws -/
def vx_Met (l : Launch) (y : MethodName) (ws : List Cond) (rm : Room) (Pc : Array Value → State → Prop) (Qc : Array Value → State → Outcome → State → Prop) (XC : String → State → State → Prop) (mc ms : Nat) (free : Addr → Prop) : Prop :=
  MetFree l y (headSpec ws rm) Pc (fun _ _ _ _ _ => True) (vx_Q Qc XC mc ms free)
def vx_Post (XC : String → State → State → Prop) (mc ms : Nat) (free : Addr → Prop) : Pt → Array Value → Addr → Pt → Prop := fun A a q B =>
  ∃ (g : JFrame) (mk : MethodId) (t : State) (L : List Loc) (E : String) (ce : Cell), B.U.heap = t.heap ∧ B.U.vm = t.vm ∧ XC E (A.U.calling g mk a) t ∧ t.heap[q]? = some ce ∧ ce.vm = .none ∧ A.U.vm.findClass E = some ce.cls ∧ B.locs = A.locs ++ L ∧ (∀ z ∈ L, free z.base) ∧ B.cells = A.cells + mc ∧ B.slots = A.slots + ms
def vx_Back (l : Launch) (R : Room) (p : Program) (e : Env) (below : List Frame) (s : State) (sargs : Array Value) (y : MethodName) (len W9 : Nat)
    (Pre : Pt → Array Value → Prop) (Post : Pt → Array Value → Option Value → Pt → Prop) (PostX : Pt → Array Value → Addr → Pt → Prop) : Prop :=
  ∀ (m : MethodId) (meth : Method) (c : Code) (A : Pt) (g : JFrame) (ig : Instr) (mk : MethodId) (a : Array Value),
    Stand p l e R s m sargs below meth c A.U A.locs A.cells A.slots → g.method = m → g.locals.size = c.maxLocals → decode c.code g.pc = .ok (ig, len) →
    2 * g.monitorRoom + (g.stack.map fun v => v.category).sum ≤ W9 → A.U.methodNamed? y = some mk → Pre A a →
    (∃ (v : Option Value) (B : Pt), Stand p l e R s m sargs below meth c B.U B.locs B.cells B.slots ∧ Post A a v B ∧
      Steps p.tables e below (doInvoke e (A.U.setTop g) [] mk a).1 (B.U.setTop { g with pc := g.pc + len, stack := v.toList ++ g.stack })) ∨
    (∃ (q : Addr) (B : Pt), Stand p l e R s m sargs below meth c B.U B.locs B.cells B.slots ∧ PostX A a q B ∧
      Steps p.tables e below (doInvoke e (A.U.setTop g) [] mk a).1 ((B.U.setTop g).pushFrame (.throwing q)))
section Payer
variable {l : Launch} {R : Room} {p : Program} {e : Env} {below : List Frame} {s : State} {sargs : Array Value} {y : MethodName} {len W9 : Nat}
theorem vx_back {ws : List Cond} {rm : Room} {Pc : Array Value → State → Prop} {Qc : Array Value → State → Outcome → State → Prop} {XC : String → State → State → Prop} {mc ms : Nat} {free : Addr → Prop} {bytes : ByteArray} {maxL : Nat} {ret : Option FieldType}
    (hM : vx_Met l y ws rm Pc Qc XC mc ms free) (hblind : FrameBlind Pc) (hrc : rm.cells = mc) (hrs : rm.slots = ms)
    (hframes : rm.frames + 1 ≤ R.frames) (hlocals : W9 + (maxL + 11) + rm.locals ≤ R.locals)
    (hws : ∀ w ∈ ws, ∀ a' U, s.WarmedH U.vm → w.before a' U = true) (hcode : Cond.code y bytes maxL ret ∈ ws) (hinit : ∀ a' U, s.WarmedH U.vm → (Cond.initialized y.cls).before a' U = true) :
    vx_Back l R p e below s sargs y len W9 (PreOf R mc ms Pc) (PostOf Qc mc ms free) (vx_Post XC mc ms free) := by
  intro m meth c A g ig mk a X hg hsize hdg hW hn hp
  have h1 : (headSpec ws rm).pre.before a A.U = true := atoms_intro fun w hw => hws w hw _ _ X.warmed
  have h2 : (Cond.code y bytes maxL ret).before a A.U = true := hws _ hcode _ _ X.warmed
  have h3 : (Cond.initialized y.cls).before a A.U = true := hinit _ _ X.warmed
  have h4 : A.cells + (headSpec ws rm).room.cells ≤ R.cells := by rw [show (headSpec ws rm).room.cells = mc from hrc]; exact hp.1
  have h5 : A.slots + (headSpec ws rm).room.slots ≤ R.slots := by rw [show (headSpec ws rm).room.slots = ms from hrs]; exact hp.2.1
  have hPc : Pc a (A.U.calling g mk a) := hblind _ _ _ _ hp.2.2
  obtain ⟨U, Ls, c0, s0⟩ := A
  dsimp only [Pt.U, Pt.locs, Pt.cells, Pt.slots] at h1 h2 h3 h4 h5 X hn hPc ⊢
  obtain ⟨methY, cY, hmY, hcY, -, hlY, -, -, -, -⟩ := Cond.code_spec hn h2
  obtain ⟨kY, hkY, -⟩ := className_of_methodNamed hn
  have hinitY : kY.init = .initialized := Cond.initialized_spec (findClass_of_methodNamed hn) hkY h3
  have h : At U g.method c below := by rw [hg]; exact X.here
  have hlocals9 : W9 + (maxL + 11) + (headSpec ws rm).room.locals ≤ R.locals := hlocals
  have happ : (headSpec ws rm).appliesLoose y e.platform (U.calling g mk a) = true :=
    Spec.appliesLoose_calling (g := g) h hdg hn hkY hinitY
      (X.room_calling (g := g) (R' := (headSpec ws rm).room) hsize hmY hcY hframes (by rw [hlY]; omega) h4 h5) h1
  obtain ⟨mid, hmid⟩ := h.above
  have hfr : (U.setTop g).frames = (.java g :: mid) ++ below := by rw [State.frames_setTop' g h.top, hmid]; rfl
  obtain ⟨o, s₂, hsteps, -, hend, hq⟩ := Steps.callFree hM p X.admits X.cas X.clock (acts := []) hfr happ hPc trivial
  have hq' : vx_Q Qc XC mc ms free a (U.calling g mk a) o s₂ := hq
  rw [State.frames_setTop' g h.top] at hend
  obtain ⟨g₀, hg0⟩ := Option.isSome_iff_exists.mp h.top
  obtain ⟨r, hr⟩ := State.topJava?_eq_some.mp hg0
  have hr' : (({ U with heap := s₂.heap, slotsUsed := s₂.slotsUsed } : State).setVm s₂.vm).frames = .java g₀ :: r := hr
  rcases hq' with ⟨hqc, L, hfe, hL⟩ | ⟨q, rfl, E, ce, L, hx, hce, hcv, hcl, hW₂, hsm, hL⟩
  · obtain ⟨⟨v, rfl⟩, hW₂, e2, q2, q3, q4, q5, q6⟩ := id hfe
    have e3 : s₂ = ({ (U.calling g mk a).setFrames s₂.frames with heap := s₂.heap, slotsUsed := s₂.slotsUsed } : State).setVm s₂.vm := by
      have : s₂ = ({ s₂ with vm := (U.calling g mk a).vm } : State).setVm s₂.vm := rfl
      rw [e2] at this
      exact this
    obtain ⟨c₂, i₂, len₂, hc₂, hd₂, hf₂⟩ := hend
    have hW' : U.WarmedH s₂.vm := hW₂
    have hcc : c₂ = c := by
      have h1 : s₂.code? g.method = U.code? g.method := by
        rw [State.code?_eq, State.code?_eq, hW'.alike.method?]
      exact Option.some.inj (hc₂.symm.trans (h1.trans h.code))
    subst hcc
    have hlen : len₂ = len := by rw [hdg] at hd₂; cases hd₂; rfl
    subst hlen
    have hs₂ : s₂ = (({ U with heap := s₂.heap, slotsUsed := s₂.slotsUsed } : State).setVm s₂.vm).setTop { g with pc := g.pc + len₂, stack := v.toList ++ g.stack } := by
      refine e3.trans ?_
      rw [hf₂, State.calling_eq h.top, State.setFrames_setFrames, State.setTop_of_frames _ hr', hr]
      rfl
    have hsame : U.sameButNew ({ U with heap := s₂.heap, slotsUsed := s₂.slotsUsed } : State) L mc ms := by
      refine ⟨?_, q2, q3, q4, q5, q6⟩
      obtain ⟨t, ht, -⟩ := State.frames_cons hr
      show ({ U with heap := s₂.heap, slotsUsed := s₂.slotsUsed } : State) = { U.setFrames U.frames with heap := s₂.heap, slotsUsed := s₂.slotsUsed }
      rw [State.setFrames_self ht]
    subst hg
    refine Or.inl ⟨v, ⟨(({ U with heap := s₂.heap, slotsUsed := s₂.slotsUsed } : State).setVm s₂.vm), Ls ++ L, c0 + mc, s0 + ms⟩,
      ⟨X.admits, X.cas, X.clock, X.frames, X.room, X.hears, X.method, X.code, (X.here.setHeapUsed s₂.heap s₂.slotsUsed).setVm hW'.alike, X.tail, State.WarmedH.trans X.warmed hW', X.limits, X.bytes, X.same.trans (hsame.setVm s.vm)⟩,
      ⟨g, mk, s₂, L, rfl, rfl, hqc, rfl, hL, rfl, rfl⟩, ?_⟩
    show Steps p.tables e below _ ((({ U with heap := s₂.heap, slotsUsed := s₂.slotsUsed } : State).setVm s₂.vm).setTop { g with pc := g.pc + len₂, stack := v.toList ++ g.stack })
    rw [← hs₂]
    exact hsteps
  · obtain ⟨e2, q2, q3, q4, q5, q6⟩ := id hsm
    have e3 : s₂ = ({ (U.calling g mk a).setFrames s₂.frames with heap := s₂.heap, slotsUsed := s₂.slotsUsed } : State).setVm s₂.vm := by
      have : s₂ = ({ s₂ with vm := (U.calling g mk a).vm } : State).setVm s₂.vm := rfl
      rw [e2] at this
      exact this
    have hf₂ : s₂.frames = .throwing q :: .java g :: U.frames.tail := hend
    have hW' : U.WarmedH s₂.vm := hW₂
    have hs₂ : s₂ = ((({ U with heap := s₂.heap, slotsUsed := s₂.slotsUsed } : State).setVm s₂.vm).setTop g).pushFrame (.throwing q) := by
      refine e3.trans ?_
      rw [hf₂, State.calling_eq h.top, State.setFrames_setFrames, State.pushFrame, State.frames_setTop _ hr', State.setTop_of_frames _ hr', State.setFrames_setFrames, hr]
      rfl
    have hsame : U.sameButNew ({ U with heap := s₂.heap, slotsUsed := s₂.slotsUsed } : State) L mc ms := by
      refine ⟨?_, q2, q3, q4, q5, q6⟩
      obtain ⟨t, ht, -⟩ := State.frames_cons hr
      show ({ U with heap := s₂.heap, slotsUsed := s₂.slotsUsed } : State) = { U.setFrames U.frames with heap := s₂.heap, slotsUsed := s₂.slotsUsed }
      rw [State.setFrames_self ht]
    subst hg
    refine Or.inr ⟨q, ⟨(({ U with heap := s₂.heap, slotsUsed := s₂.slotsUsed } : State).setVm s₂.vm), Ls ++ L, c0 + mc, s0 + ms⟩,
      ⟨X.admits, X.cas, X.clock, X.frames, X.room, X.hears, X.method, X.code, (X.here.setHeapUsed s₂.heap s₂.slotsUsed).setVm hW'.alike, X.tail, State.WarmedH.trans X.warmed hW', X.limits, X.bytes, X.same.trans (hsame.setVm s.vm)⟩,
      ⟨g, mk, s₂, L, E, ce, rfl, rfl, hx, hce, hcv, hcl, rfl, hL, rfl, rfl⟩, ?_⟩
    show Steps p.tables e below _ (((({ U with heap := s₂.heap, slotsUsed := s₂.slotsUsed } : State).setVm s₂.vm).setTop g).pushFrame (.throwing q))
    rw [← hs₂]
    exact hsteps
end Payer
section Calls
variable {p : Program} {l : Launch} {e : Env} {R : Room} {s : State} {m : MethodId} {args : Array Value} {below : List Frame} {meth : Method} {c : Code} {T : State} {locs : List Loc} {cells slots : Nat}
theorem vx_callV (X : Stand p l e R s m args below meth c T locs cells slots) (hexec : p.tables.exec = Jvm.exec) {own C : String} {index : Nat} {y : MethodName} {bytes : ByteArray} {maxL : Nat} {ret : Option FieldType}
    (hown : s.vm.findClass own = some m.cls) (hlink : (Cond.methodLink own index y).before args s = true) (hinst : (Cond.instanceMethod y).before args s = true) (hsel : (Cond.selects C y y).before args s = true)
    (hcode : (Cond.code y bytes maxL ret).before args s = true) (hy : y.cls ≠ "java/lang/invoke/MethodHandle" ∧ y.cls ≠ "java/lang/invoke/VarHandle")
    {W9 : Nat} {Pre : Pt → Array Value → Prop} {Post : Pt → Array Value → Option Value → Pt → Prop} {PostX : Pt → Array Value → Addr → Pt → Prop} (hK : vx_Back l R p e below s args y 3 W9 Pre Post PostX)
    {b : Addr} {cellB : Cell} (hcell : T.heap[b]? = some cellB) (hobj : cellB.vm.isStatics = false) (hcls : s.vm.findClass C = some cellB.cls)
    {g : JFrame} (hg : g.method = m) (hsize : g.locals.size = c.maxLocals) {argsL rest : List Value} (hlen : ∀ sig, parseMethodDescriptor y.desc = some sig → argsL.length = sig.parameters.length)
    (hstack : g.stack = argsL.reverse ++ .ref b :: rest) (hW : 2 * g.monitorRoom + (rest.map fun v => v.category).sum ≤ W9) (hdg : decode c.code g.pc = .ok (.invokevirtual index, 3))
    (hpre : ∀ vm₁, s.WarmedH vm₁ → Pre ⟨T.setVm vm₁, locs, cells, slots⟩ (Value.ref b :: argsL).toArray) :
    (∃ (v : Option Value) (vm₁ : Vm) (B : Pt), s.WarmedH vm₁ ∧ Stand p l e R s m args below meth c B.U B.locs B.cells B.slots ∧ Post ⟨T.setVm vm₁, locs, cells, slots⟩ (Value.ref b :: argsL).toArray v B ∧
      ∀ target, Steps p.tables e below (B.U.setTop { g with pc := g.pc + 3, stack := v.toList ++ rest }) target → Steps p.tables e below (T.setTop g) target) ∨
    (∃ (q : Addr) (vm₁ : Vm) (B : Pt), s.WarmedH vm₁ ∧ Stand p l e R s m args below meth c B.U B.locs B.cells B.slots ∧ PostX ⟨T.setVm vm₁, locs, cells, slots⟩ (Value.ref b :: argsL).toArray q B ∧
      Steps p.tables e below (T.setTop g) ((B.U.setTop { g with stack := rest }).pushFrame (.throwing q))) := by
  obtain ⟨mk, methM, hnamed, hmethM, hstM, habM⟩ := Cond.instanceMethod_spec hinst
  obtain ⟨methM', cM, hmethM', -, -, -, -, -, -, hsigM⟩ := Cond.code_spec hnamed hcode
  cases hmethM.symm.trans hmethM'
  obtain ⟨c2, r2, m2, q1, q2, q3, q4, kP, hkP, hkPi⟩ := Cond.selects_spec hsel
  cases hcls.symm.trans q1
  cases (State.methodFound?_of_named hnamed hy).symm.trans q2
  cases hnamed.symm.trans q3
  have hselP : selectMethod e.platform s.vm cellB.cls mk = .method mk := by rw [Launch.admits_selectMethod X.admits]; exact q4
  obtain ⟨vm₁, X₁, hstep₁⟩ := X.invokevirtual hexec hown hlink hnamed hmethM hstM hkP hkPi hy (a := b) (cell := cellB) hcell
    (fun z h => by rw [h] at hobj; cases hobj) hselP hmethM habM hkP hkPi (g := g) hg (argsL := argsL) (rest := rest) (hlen _ hsigM) hstack hdg
  rcases hK m meth c ⟨T.setVm vm₁, locs, cells, slots⟩ { g with stack := rest } (.invokevirtual index) mk (Value.ref b :: argsL).toArray X₁ hg hsize hdg hW (X₁.named hnamed) (hpre vm₁ X₁.warmed) with ⟨v, B, X', hpost, hsteps⟩ | ⟨q, B, X', hpost, hsteps⟩
  · exact Or.inl ⟨v, vm₁, B, X₁.warmed, X', hpost, fun target h => hstep₁ _ fun acts => by rw [doInvoke_state]; exact hsteps.trans h⟩
  · exact Or.inr ⟨q, vm₁, B, X₁.warmed, X', hpost, hstep₁ _ fun acts => by rw [doInvoke_state]; exact hsteps⟩
theorem vx_callS (X : Stand p l e R s m args below meth c T locs cells slots) (hexec : p.tables.exec = Jvm.exec) {own : String} {index : Nat} {y : MethodName} {bytes : ByteArray} {maxL : Nat} {ret : Option FieldType}
    (hown : s.vm.findClass own = some m.cls) (hlink : (Cond.methodLink own index y).before args s = true) (hstat : (Cond.static y).before args s = true) (hinit : (Cond.initialized y.cls).before args s = true)
    (hcode : (Cond.code y bytes maxL ret).before args s = true) (hy : y.cls ≠ "java/lang/invoke/MethodHandle" ∧ y.cls ≠ "java/lang/invoke/VarHandle")
    {W9 : Nat} {Pre : Pt → Array Value → Prop} {Post : Pt → Array Value → Option Value → Pt → Prop} {PostX : Pt → Array Value → Addr → Pt → Prop} (hK : vx_Back l R p e below s args y 3 W9 Pre Post PostX)
    {g : JFrame} (hg : g.method = m) (hsize : g.locals.size = c.maxLocals) {argsL rest : List Value} (hlen : ∀ sig, parseMethodDescriptor y.desc = some sig → argsL.length = sig.parameters.length)
    (hstack : g.stack = argsL.reverse ++ rest) (hW : 2 * g.monitorRoom + (rest.map fun v => v.category).sum ≤ W9) (hdg : decode c.code g.pc = .ok (.invokestatic index, 3))
    (hpre : ∀ vm₁, s.WarmedH vm₁ → Pre ⟨T.setVm vm₁, locs, cells, slots⟩ argsL.toArray) :
    (∃ (v : Option Value) (vm₁ : Vm) (B : Pt), s.WarmedH vm₁ ∧ Stand p l e R s m args below meth c B.U B.locs B.cells B.slots ∧ Post ⟨T.setVm vm₁, locs, cells, slots⟩ argsL.toArray v B ∧
      ∀ target, Steps p.tables e below (B.U.setTop { g with pc := g.pc + 3, stack := v.toList ++ rest }) target → Steps p.tables e below (T.setTop g) target) ∨
    (∃ (q : Addr) (vm₁ : Vm) (B : Pt), s.WarmedH vm₁ ∧ Stand p l e R s m args below meth c B.U B.locs B.cells B.slots ∧ PostX ⟨T.setVm vm₁, locs, cells, slots⟩ argsL.toArray q B ∧
      Steps p.tables e below (T.setTop g) ((B.U.setTop { g with stack := rest }).pushFrame (.throwing q))) := by
  obtain ⟨mk, hnamed⟩ := Cond.code_named hcode
  obtain ⟨methM, cM, hmethM, -, -, -, -, -, -, hsigM⟩ := Cond.code_spec hnamed hcode
  have hstatic : methM.isStatic = true := Cond.static_spec hnamed hmethM hstat
  obtain ⟨kP, hkP, -⟩ := className_of_methodNamed hnamed
  have hinitP : kP.init = .initialized := Cond.initialized_spec (findClass_of_methodNamed hnamed) hkP hinit
  obtain ⟨vm₁, X₁, hstep₁⟩ := X.invokestatic hexec hown hlink hnamed hmethM hstatic hkP hinitP hy (g := g) hg (argsL := argsL) (rest := rest) (hlen _ hsigM) hstack hdg
  rcases hK m meth c ⟨T.setVm vm₁, locs, cells, slots⟩ { g with stack := rest } (.invokestatic index) mk argsL.toArray X₁ hg hsize hdg hW (X₁.named hnamed) (hpre vm₁ X₁.warmed) with ⟨v, B, X', hpost, hsteps⟩ | ⟨q, B, X', hpost, hsteps⟩
  · exact Or.inl ⟨v, vm₁, B, X₁.warmed, X', hpost, fun target h => hstep₁ _ fun acts => by rw [doInvoke_state]; exact hsteps.trans h⟩
  · exact Or.inr ⟨q, vm₁, B, X₁.warmed, X', hpost, hstep₁ _ fun acts => by rw [doInvoke_state]; exact hsteps⟩
end Calls
theorem vx_cls {s : State} {T : State} {vm₁ : Vm} {E : String} {k : ClassId} (hW : s.WarmedH vm₁) (h : (T.setVm vm₁).vm.findClass E = some k) : s.vm.findClass E = some k := by
  have h1 : vm₁.findClass E = some k := h
  rw [hW.alike.findClass] at h1
  exact h1
/-- the method's frame g, with q thrown over it -/
def vx_W (p : Program) (l : Launch) (e : Env) (R : Room) (s : State) (m : MethodId) (args : Array Value) (below : List Frame) (meth : Method) (c : Code) (H : Heap) (locs : List Loc) (cells slots : Nat) (Q : State → Prop) (g : JFrame) (q : Addr) : Prop :=
  ∀ T : State, T.heap = H → Stand p l e R s m args below meth c T locs cells slots → ∃ t, Steps p.tables e below ((T.setTop g).pushFrame (.throwing q)) t ∧ Q t
def vx_Run (p : Program) (l : Launch) (e : Env) (R : Room) (s : State) (m : MethodId) (args : Array Value) (below : List Frame) (meth : Method) (c : Code) (H : Heap) (locs : List Loc) (cells slots mc ms : Nat) (g : JFrame) (rest : List Value) (Qa : State → Outcome → State → Prop) (XC : String → State → State → Prop) (free : Addr → Prop) : Prop :=
  ∀ T : State, T.heap = H → Stand p l e R s m args below meth c T locs cells slots →
    (∃ (v : Option Value) (st₀ t T' : State) (L : List Loc), st₀.heap = H ∧ Stand p l e R s m args below meth c T' (locs ++ L) (cells + mc) (slots + ms) ∧ (∀ q ∈ L, free q.base) ∧ T'.heap = t.heap ∧ T'.vm = t.vm ∧ Qa st₀ (.returned v) t ∧
      Goes p e below T g T' { g with pc := g.pc + 3, stack := v.toList ++ rest }) ∨
    (∃ (q : Addr) (st₀ t T' : State) (L : List Loc) (E : String) (ce : Cell), st₀.heap = H ∧ Stand p l e R s m args below meth c T' (locs ++ L) (cells + mc) (slots + ms) ∧ (∀ z ∈ L, free z.base) ∧ T'.heap = t.heap ∧ T'.vm = t.vm ∧ XC E st₀ t ∧ t.heap[q]? = some ce ∧ ce.vm = .none ∧ s.vm.findClass E = some ce.cls ∧
      Steps p.tables e below (T.setTop g) ((T'.setTop { g with stack := rest }).pushFrame (.throwing q)))
def vx_X {S : Type} (px : S → Prop) (B : String → S → State → Prop) (A : Nat → Prop) : String → State → State → Prop := fun E st t => ∃ u : S, px u ∧ B E u t ∧ va_F A st t
section Runs
variable {p : Program} {l : Launch} {e : Env} {R : Room} {s : State} {m : MethodId} {args : Array Value} {below : List Frame} {meth : Method} {c : Code} {H : Heap} {locs : List Loc} {cells slots : Nat}
variable {y : MethodName} {bytes cc : ByteArray} {maxL nL mc ms n index : Nat} {ret : Option FieldType} {ws : List Cond} {rm : Room} {Pc : Array Value → State → Prop} {Qc : Array Value → State → Outcome → State → Prop} {XC : String → State → State → Prop} {free : Addr → Prop} {Ts : List Cond} {own C : String} {b : Addr} {As rest : List Value} {g : JFrame}
theorem vx_callBack (cb : CallB R s args own index y bytes maxL ret ws rm mc ms n) (hM : vx_Met l y ws rm Pc Qc XC mc ms free) (hbl : FrameBlind Pc) : vx_Back l R p e below s args y 3 8 (PreOf R mc ms Pc) (PostOf Qc mc ms free) (vx_Post XC mc ms free) := by
  obtain ⟨hrc, hrs, hfr, hlo, hws, hcw, -, hini, -⟩ := cb
  exact vx_back (bytes := bytes) (maxL := maxL) (ret := ret) hM hbl hrc hrs hfr hlo hws hcw (fun a' U hW => word_at hW (Or.inl (by first | rfl | simp [Cond.onTables, Cond.keeps, Cond.steady])) hini)
theorem vx_runV (S : CallFix p m c cc nL s args Ts own) (hM : vx_Met l y ws rm Pc Qc XC mc ms free) (cw : CallW R s args own C index y bytes maxL ret ws rm mc ms n) (hp : PreV s H C b Pc As)
    (hg : g.method = m) (hn : As.length = n) (hsize : g.locals.size = nL) (hstack : g.stack = As.reverse ++ .ref b :: rest) (hW : 2 * g.monitorRoom + (rest.map fun v => v.category).sum ≤ 8) (hdg : decode cc g.pc = .ok (.invokevirtual index, 3)) (hf : cells + mc ≤ R.cells ∧ slots + ms ≤ R.slots) :
    vx_Run p l e R s m args below meth c H locs cells slots mc ms g rest (Qc (Value.ref b :: As).toArray) XC free := by
  have hK : vx_Back l R p e below s args y 3 8 (PreOf R mc ms Pc) (PostOf Qc mc ms free) (vx_Post XC mc ms free) := vx_callBack cw.1 hM hp.1
  obtain ⟨⟨-, -, -, -, -, -, hcode, -, hy, hlen, hl⟩, hin, hse⟩ := cw
  obtain ⟨hx, hb, hml, ho, -⟩ := S
  obtain ⟨-, ⟨cellB, hcB, hoB, hclB⟩, hPc⟩ := hp
  intro T hT X
  rcases vx_callV X hx (C := C) (bytes := bytes) (maxL := maxL) (ret := ret) ho hl hin hse hcode hy hK (by rw [hT]; exact hcB) hoB hclB hg (hsize.trans hml.symm) (argsL := As) (rest := rest) (fun sig h => hn.trans (hlen sig h)) hstack hW (by rw [hb]; exact hdg)
    (fun vm₁ hW₁ => ⟨hf.1, hf.2, hPc (T.setVm vm₁) hT hW₁⟩) with ⟨v, vm₁, ⟨U', l2, c2, s2⟩, hW₁, X', ⟨g', mk, t, L, e1, e2, hq, h1, hL, h2, h3⟩, st⟩ | ⟨q, vm₁, ⟨U', l2, c2, s2⟩, hW₁, X', ⟨g', mk, t, L, E, ce, e1, e2, hq, hce, hcv, hcl, h1, hL, h2, h3⟩, st⟩
  · dsimp only [Pt.U, Pt.locs, Pt.cells, Pt.slots] at X' e1 e2 h1 h2 h3 st
    subst h1; subst h2; subst h3
    exact Or.inl ⟨v, (T.setVm vm₁).calling g' mk (Value.ref b :: As).toArray, t, U', L, hT, X', hL, e1, e2, hq, st⟩
  · dsimp only [Pt.U, Pt.locs, Pt.cells, Pt.slots] at X' e1 e2 h1 h2 h3 st hcl
    subst h1; subst h2; subst h3
    exact Or.inr ⟨q, (T.setVm vm₁).calling g' mk (Value.ref b :: As).toArray, t, U', L, E, ce, hT, X', hL, e1, e2, hq, hce, hcv, vx_cls hW₁ hcl, st⟩
theorem vx_runS (S : CallFix p m c cc nL s args Ts own) (hM : vx_Met l y ws rm Pc Qc XC mc ms free) (cw : CallB R s args own index y bytes maxL ret ws rm mc ms n ∧ (Cond.static y).before args s = true) (hp : PreS s H Pc As)
    (hg : g.method = m) (hn : As.length = n) (hsize : g.locals.size = nL) (hstack : g.stack = As.reverse ++ rest) (hW : 2 * g.monitorRoom + (rest.map fun v => v.category).sum ≤ 8) (hdg : decode cc g.pc = .ok (.invokestatic index, 3)) (hf : cells + mc ≤ R.cells ∧ slots + ms ≤ R.slots) :
    vx_Run p l e R s m args below meth c H locs cells slots mc ms g rest (Qc As.toArray) XC free := by
  have hK : vx_Back l R p e below s args y 3 8 (PreOf R mc ms Pc) (PostOf Qc mc ms free) (vx_Post XC mc ms free) := vx_callBack cw.1 hM hp.1
  obtain ⟨⟨-, -, -, -, -, -, hcode, hini, hy, hlen, hl⟩, hstt⟩ := cw
  obtain ⟨hx, hb, hml, ho, -⟩ := S
  intro T hT X
  rcases vx_callS X hx (bytes := bytes) (maxL := maxL) (ret := ret) ho hl hstt hini hcode hy hK hg (hsize.trans hml.symm) (argsL := As) (rest := rest) (fun sig h => hn.trans (hlen sig h)) hstack hW (by rw [hb]; exact hdg)
    (fun vm₁ hW₁ => ⟨hf.1, hf.2, hp.2 (T.setVm vm₁) hT hW₁⟩) with ⟨v, vm₁, ⟨U', l2, c2, s2⟩, hW₁, X', ⟨g', mk, t, L, e1, e2, hq, h1, hL, h2, h3⟩, st⟩ | ⟨q, vm₁, ⟨U', l2, c2, s2⟩, hW₁, X', ⟨g', mk, t, L, E, ce, e1, e2, hq, hce, hcv, hcl, h1, hL, h2, h3⟩, st⟩
  · dsimp only [Pt.U, Pt.locs, Pt.cells, Pt.slots] at X' e1 e2 h1 h2 h3 st
    subst h1; subst h2; subst h3
    exact Or.inl ⟨v, (T.setVm vm₁).calling g' mk As.toArray, t, U', L, hT, X', hL, e1, e2, hq, st⟩
  · dsimp only [Pt.U, Pt.locs, Pt.cells, Pt.slots] at X' e1 e2 h1 h2 h3 st hcl
    subst h1; subst h2; subst h3
    exact Or.inr ⟨q, (T.setVm vm₁).calling g' mk As.toArray, t, U', L, E, ce, hT, X', hL, e1, e2, hq, hce, hcv, vx_cls hW₁ hcl, st⟩
end Runs
section Rows
variable {p : Program} {l : Launch} {e : Env} {R : Room} {s : State} {m : MethodId} {args : Array Value} {below : List Frame} {meth : Method} {c : Code} {H : Heap} {locs : List Loc} {cells slots : Nat} {Q : State → Prop}
variable {mc ms : Nat} {free : Addr → Prop} {A0 A1 : Nat → Prop} {H0 : Heap} {a : Array Value} {pc : Nat} {ls : Array Slot} {st0 rest : List Value}
theorem vx_keep {st₀ t T' : State} {L : List Loc} (h0 : st₀.heap = H) (e1 : T'.heap = t.heap) (hS : va_S A0 H0 H locs) (hA : ∀ q, q < H.size → A1 q → A0 q) (hf : ∀ q, free q → A0 q) (hL : ∀ q ∈ L, free q.base) (hF : va_F A1 st₀ t) :
    H.size ≤ T'.heap.size ∧ (∀ q : Nat, q < H.size → ¬ A1 q → T'.heap[q]? = H[q]?) ∧ va_S A0 H0 T'.heap (locs ++ L) := by
  obtain ⟨hz, hk⟩ := hF
  rw [h0] at hz hk
  exact ⟨by rw [e1]; exact hz, fun q h1 h2 => by rw [e1]; exact hk q h1 h2,
    ⟨Nat.le_trans hS.1 (by rw [e1]; exact hz), fun q h1 h2 => by rw [e1, hk q (Nat.lt_of_lt_of_le h1 hS.1) (fun z => h2 (hA q (Nat.lt_of_lt_of_le h1 hS.1) z))]; exact hS.2.1 q h1 h2, fun q hq => by
      rcases List.mem_append.mp hq with h | h
      · exact hS.2.2 q h
      · exact hf _ (hL q h)⟩⟩
theorem vx_calli {S SX : Type} {post : Int32 → S → Prop} {px : SX → Prop} {B : S → State → Prop} {BX : String → SX → State → Prop} {AX : Nat → Prop} (hr : vx_Run p l e R s m args below meth c H locs cells slots mc ms (F0 m pc ls st0) rest (va_Qi post B A1 a) (vx_X px BX AX) free) (hS : va_S A0 H0 H locs) (hA : ∀ q, q < H.size → A1 q → A0 q) (hf : ∀ q, free q → A0 q) (hAX : ∀ q, q < H.size → AX q → A0 q)
    (kx : ∀ (E : String) (ce : Cell) (q9 : Addr) (u : SX) (t : State) (H1 : Heap) (locs1 : List Loc), t.heap = H1 → s.vm.Alike t.vm → px u → BX E u t → H.size ≤ H1.size → (∀ q : Nat, q < H.size → ¬ AX q → H1[q]? = H[q]?) → va_S A0 H0 H1 locs1 → H1[q9]? = some ce → ce.vm = .none → s.vm.findClass E = some ce.cls → vx_W p l e R s m args below meth c H1 locs1 (cells + mc) (slots + ms) Q (F0 m pc ls rest) q9)
    (kk : ∀ (r : Int32) (u : S) (t : State) (H1 : Heap) (locs1 : List Loc), t.heap = H1 → s.vm.Alike t.vm → post r u → B u t → H.size ≤ H1.size → (∀ q : Nat, q < H.size → ¬ A1 q → H1[q]? = H[q]?) → va_S A0 H0 H1 locs1 → W p l e R s m args below meth c H1 locs1 (cells + mc) (slots + ms) Q (F0 m (pc + 3) ls (.int r :: rest))) : W p l e R s m args below meth c H locs cells slots Q (F0 m pc ls st0) := by
  intro T hT X
  rcases hr T hT X with ⟨v, st₀, t, T', L, h0, X', hL, e1, e2, ⟨⟨r, u, hv, hp, hb⟩, hF⟩, st⟩ | ⟨q, st₀, t, T', L, E, ce, h0, X', hL, e1, e2, ⟨u, hp, hb, hF⟩, hce, hcv, hcl, st⟩
  · cases hv
    obtain ⟨k1, k2, k3⟩ := vx_keep h0 e1 hS hA hf hL hF
    obtain ⟨t2, a1, b1⟩ := kk r u t T'.heap (locs ++ L) e1.symm (by rw [← e2]; exact X'.warmed.alike) hp hb k1 k2 k3 T' rfl X'
    exact ⟨t2, st t2 a1, b1⟩
  · obtain ⟨k1, k2, k3⟩ := vx_keep h0 e1 hS hAX hf hL hF
    obtain ⟨t2, a1, b1⟩ := kx E ce q u t T'.heap (locs ++ L) e1.symm (by rw [← e2]; exact X'.warmed.alike) hp hb k1 k2 k3 (by rw [e1]; exact hce) hcv hcl T' rfl X'
    exact ⟨t2, st.trans a1, b1⟩
theorem vx_calll {S SX : Type} {post : Int64 → S → Prop} {px : SX → Prop} {B : S → State → Prop} {BX : String → SX → State → Prop} {AX : Nat → Prop} (hr : vx_Run p l e R s m args below meth c H locs cells slots mc ms (F0 m pc ls st0) rest (va_Ql post B A1 a) (vx_X px BX AX) free) (hS : va_S A0 H0 H locs) (hA : ∀ q, q < H.size → A1 q → A0 q) (hf : ∀ q, free q → A0 q) (hAX : ∀ q, q < H.size → AX q → A0 q)
    (kx : ∀ (E : String) (ce : Cell) (q9 : Addr) (u : SX) (t : State) (H1 : Heap) (locs1 : List Loc), t.heap = H1 → s.vm.Alike t.vm → px u → BX E u t → H.size ≤ H1.size → (∀ q : Nat, q < H.size → ¬ AX q → H1[q]? = H[q]?) → va_S A0 H0 H1 locs1 → H1[q9]? = some ce → ce.vm = .none → s.vm.findClass E = some ce.cls → vx_W p l e R s m args below meth c H1 locs1 (cells + mc) (slots + ms) Q (F0 m pc ls rest) q9)
    (kk : ∀ (r : Int64) (u : S) (t : State) (H1 : Heap) (locs1 : List Loc), t.heap = H1 → s.vm.Alike t.vm → post r u → B u t → H.size ≤ H1.size → (∀ q : Nat, q < H.size → ¬ A1 q → H1[q]? = H[q]?) → va_S A0 H0 H1 locs1 → W p l e R s m args below meth c H1 locs1 (cells + mc) (slots + ms) Q (F0 m (pc + 3) ls (.long r :: rest))) : W p l e R s m args below meth c H locs cells slots Q (F0 m pc ls st0) := by
  intro T hT X
  rcases hr T hT X with ⟨v, st₀, t, T', L, h0, X', hL, e1, e2, ⟨⟨r, u, hv, hp, hb⟩, hF⟩, st⟩ | ⟨q, st₀, t, T', L, E, ce, h0, X', hL, e1, e2, ⟨u, hp, hb, hF⟩, hce, hcv, hcl, st⟩
  · cases hv
    obtain ⟨k1, k2, k3⟩ := vx_keep h0 e1 hS hA hf hL hF
    obtain ⟨t2, a1, b1⟩ := kk r u t T'.heap (locs ++ L) e1.symm (by rw [← e2]; exact X'.warmed.alike) hp hb k1 k2 k3 T' rfl X'
    exact ⟨t2, st t2 a1, b1⟩
  · obtain ⟨k1, k2, k3⟩ := vx_keep h0 e1 hS hAX hf hL hF
    obtain ⟨t2, a1, b1⟩ := kx E ce q u t T'.heap (locs ++ L) e1.symm (by rw [← e2]; exact X'.warmed.alike) hp hb k1 k2 k3 (by rw [e1]; exact hce) hcv hcl T' rfl X'
    exact ⟨t2, st.trans a1, b1⟩
theorem vx_callf {S SX : Type} {post : UInt32 → S → Prop} {px : SX → Prop} {B : S → State → Prop} {BX : String → SX → State → Prop} {AX : Nat → Prop} (hr : vx_Run p l e R s m args below meth c H locs cells slots mc ms (F0 m pc ls st0) rest (va_Qf post B A1 a) (vx_X px BX AX) free) (hS : va_S A0 H0 H locs) (hA : ∀ q, q < H.size → A1 q → A0 q) (hf : ∀ q, free q → A0 q) (hAX : ∀ q, q < H.size → AX q → A0 q)
    (kx : ∀ (E : String) (ce : Cell) (q9 : Addr) (u : SX) (t : State) (H1 : Heap) (locs1 : List Loc), t.heap = H1 → s.vm.Alike t.vm → px u → BX E u t → H.size ≤ H1.size → (∀ q : Nat, q < H.size → ¬ AX q → H1[q]? = H[q]?) → va_S A0 H0 H1 locs1 → H1[q9]? = some ce → ce.vm = .none → s.vm.findClass E = some ce.cls → vx_W p l e R s m args below meth c H1 locs1 (cells + mc) (slots + ms) Q (F0 m pc ls rest) q9)
    (kk : ∀ (r : UInt32) (u : S) (t : State) (H1 : Heap) (locs1 : List Loc), t.heap = H1 → s.vm.Alike t.vm → post r u → B u t → H.size ≤ H1.size → (∀ q : Nat, q < H.size → ¬ A1 q → H1[q]? = H[q]?) → va_S A0 H0 H1 locs1 → W p l e R s m args below meth c H1 locs1 (cells + mc) (slots + ms) Q (F0 m (pc + 3) ls (.float r :: rest))) : W p l e R s m args below meth c H locs cells slots Q (F0 m pc ls st0) := by
  intro T hT X
  rcases hr T hT X with ⟨v, st₀, t, T', L, h0, X', hL, e1, e2, ⟨⟨r, u, hv, hp, hb⟩, hF⟩, st⟩ | ⟨q, st₀, t, T', L, E, ce, h0, X', hL, e1, e2, ⟨u, hp, hb, hF⟩, hce, hcv, hcl, st⟩
  · cases hv
    obtain ⟨k1, k2, k3⟩ := vx_keep h0 e1 hS hA hf hL hF
    obtain ⟨t2, a1, b1⟩ := kk r u t T'.heap (locs ++ L) e1.symm (by rw [← e2]; exact X'.warmed.alike) hp hb k1 k2 k3 T' rfl X'
    exact ⟨t2, st t2 a1, b1⟩
  · obtain ⟨k1, k2, k3⟩ := vx_keep h0 e1 hS hAX hf hL hF
    obtain ⟨t2, a1, b1⟩ := kx E ce q u t T'.heap (locs ++ L) e1.symm (by rw [← e2]; exact X'.warmed.alike) hp hb k1 k2 k3 (by rw [e1]; exact hce) hcv hcl T' rfl X'
    exact ⟨t2, st.trans a1, b1⟩
theorem vx_calld {S SX : Type} {post : UInt64 → S → Prop} {px : SX → Prop} {B : S → State → Prop} {BX : String → SX → State → Prop} {AX : Nat → Prop} (hr : vx_Run p l e R s m args below meth c H locs cells slots mc ms (F0 m pc ls st0) rest (va_Qd post B A1 a) (vx_X px BX AX) free) (hS : va_S A0 H0 H locs) (hA : ∀ q, q < H.size → A1 q → A0 q) (hf : ∀ q, free q → A0 q) (hAX : ∀ q, q < H.size → AX q → A0 q)
    (kx : ∀ (E : String) (ce : Cell) (q9 : Addr) (u : SX) (t : State) (H1 : Heap) (locs1 : List Loc), t.heap = H1 → s.vm.Alike t.vm → px u → BX E u t → H.size ≤ H1.size → (∀ q : Nat, q < H.size → ¬ AX q → H1[q]? = H[q]?) → va_S A0 H0 H1 locs1 → H1[q9]? = some ce → ce.vm = .none → s.vm.findClass E = some ce.cls → vx_W p l e R s m args below meth c H1 locs1 (cells + mc) (slots + ms) Q (F0 m pc ls rest) q9)
    (kk : ∀ (r : UInt64) (u : S) (t : State) (H1 : Heap) (locs1 : List Loc), t.heap = H1 → s.vm.Alike t.vm → post r u → B u t → H.size ≤ H1.size → (∀ q : Nat, q < H.size → ¬ A1 q → H1[q]? = H[q]?) → va_S A0 H0 H1 locs1 → W p l e R s m args below meth c H1 locs1 (cells + mc) (slots + ms) Q (F0 m (pc + 3) ls (.double r :: rest))) : W p l e R s m args below meth c H locs cells slots Q (F0 m pc ls st0) := by
  intro T hT X
  rcases hr T hT X with ⟨v, st₀, t, T', L, h0, X', hL, e1, e2, ⟨⟨r, u, hv, hp, hb⟩, hF⟩, st⟩ | ⟨q, st₀, t, T', L, E, ce, h0, X', hL, e1, e2, ⟨u, hp, hb, hF⟩, hce, hcv, hcl, st⟩
  · cases hv
    obtain ⟨k1, k2, k3⟩ := vx_keep h0 e1 hS hA hf hL hF
    obtain ⟨t2, a1, b1⟩ := kk r u t T'.heap (locs ++ L) e1.symm (by rw [← e2]; exact X'.warmed.alike) hp hb k1 k2 k3 T' rfl X'
    exact ⟨t2, st t2 a1, b1⟩
  · obtain ⟨k1, k2, k3⟩ := vx_keep h0 e1 hS hAX hf hL hF
    obtain ⟨t2, a1, b1⟩ := kx E ce q u t T'.heap (locs ++ L) e1.symm (by rw [← e2]; exact X'.warmed.alike) hp hb k1 k2 k3 (by rw [e1]; exact hce) hcv hcl T' rfl X'
    exact ⟨t2, st.trans a1, b1⟩
theorem vx_callv {S SX : Type} {post : S → Prop} {px : SX → Prop} {B : S → State → Prop} {BX : String → SX → State → Prop} {AX : Nat → Prop} (hr : vx_Run p l e R s m args below meth c H locs cells slots mc ms (F0 m pc ls st0) rest (va_Qv post B A1 a) (vx_X px BX AX) free) (hS : va_S A0 H0 H locs) (hA : ∀ q, q < H.size → A1 q → A0 q) (hf : ∀ q, free q → A0 q) (hAX : ∀ q, q < H.size → AX q → A0 q)
    (kx : ∀ (E : String) (ce : Cell) (q9 : Addr) (u : SX) (t : State) (H1 : Heap) (locs1 : List Loc), t.heap = H1 → s.vm.Alike t.vm → px u → BX E u t → H.size ≤ H1.size → (∀ q : Nat, q < H.size → ¬ AX q → H1[q]? = H[q]?) → va_S A0 H0 H1 locs1 → H1[q9]? = some ce → ce.vm = .none → s.vm.findClass E = some ce.cls → vx_W p l e R s m args below meth c H1 locs1 (cells + mc) (slots + ms) Q (F0 m pc ls rest) q9)
    (kk : ∀ (u : S) (t : State) (H1 : Heap) (locs1 : List Loc), t.heap = H1 → s.vm.Alike t.vm → post u → B u t → H.size ≤ H1.size → (∀ q : Nat, q < H.size → ¬ A1 q → H1[q]? = H[q]?) → va_S A0 H0 H1 locs1 → W p l e R s m args below meth c H1 locs1 (cells + mc) (slots + ms) Q (F0 m (pc + 3) ls (rest))) : W p l e R s m args below meth c H locs cells slots Q (F0 m pc ls st0) := by
  intro T hT X
  rcases hr T hT X with ⟨v, st₀, t, T', L, h0, X', hL, e1, e2, ⟨⟨u, hv, hp, hb⟩, hF⟩, st⟩ | ⟨q, st₀, t, T', L, E, ce, h0, X', hL, e1, e2, ⟨u, hp, hb, hF⟩, hce, hcv, hcl, st⟩
  · cases hv
    obtain ⟨k1, k2, k3⟩ := vx_keep h0 e1 hS hA hf hL hF
    obtain ⟨t2, a1, b1⟩ := kk u t T'.heap (locs ++ L) e1.symm (by rw [← e2]; exact X'.warmed.alike) hp hb k1 k2 k3 T' rfl X'
    exact ⟨t2, st t2 a1, b1⟩
  · obtain ⟨k1, k2, k3⟩ := vx_keep h0 e1 hS hAX hf hL hF
    obtain ⟨t2, a1, b1⟩ := kx E ce q u t T'.heap (locs ++ L) e1.symm (by rw [← e2]; exact X'.warmed.alike) hp hb k1 k2 k3 (by rw [e1]; exact hce) hcv hcl T' rfl X'
    exact ⟨t2, st.trans a1, b1⟩
/-- caught by the row x of this method's table; the rows ahead don't take it -/
theorem vx_catch {own name : String} {E : String} {ce : Cell} {q : Addr} (hown : s.vm.findClass own = some m.cls) (pre : List ExceptionTableEntry) (x : ExceptionTableEntry) (suf : List ExceptionTableEntry) (hsplit : c.exceptionTable.toList = pre ++ x :: suf)
    (hpass : ∀ z ∈ pre, covers z pc = false ∨ (z.catchType ≠ 0 ∧ ∃ nm : String, (Cond.classLink own z.catchType nm).before args s = true ∧ va_Nc E nm s)) (hx : covers x pc = true) (h0 : x.catchType ≠ 0)
    (hlink : (Cond.classLink own x.catchType name).before args s = true) (hcast : (Cond.castable E name).before args s = true) (hcell : H[q]? = some ce) (hv : ce.vm = .none) (hcl : s.vm.findClass E = some ce.cls)
    (kk : W p l e R s m args below meth c H locs cells slots Q (F0 m x.handlerPc ls [.ref q])) : vx_W p l e R s m args below meth c H locs cells slots Q (F0 m pc ls rest) q := by
  intro T hT X
  have hpl : e.platform.magicAccessors = ({} : Platform).magicAccessors := by rw [X.admits.platform]
  obtain ⟨c3, c4, hc3, hc4, hasg⟩ := Cond.castable_spec hcast
  cases Option.some.inj (hc3.symm.trans hcl)
  obtain ⟨c5, hc5, hcl5⟩ := Cond.classLink_spec hown hlink e.platform hpl
  cases Option.some.inj (hc4.symm.trans hc5)
  obtain ⟨vm', X', st⟩ := X.thenCaughtThrough q (g := F0 m pc ls rest) rfl (Steps.refl _) (by rw [hT]; exact hcell) (by rw [hv]; rfl) (by obtain ⟨k9, h9, -⟩ := Vm.findClass_spec hcl; exact ⟨k9, h9⟩) pre x suf hsplit
    (fun z hz => by
      rcases hpass z hz with h | ⟨hz0, nm, hl1, hn1⟩
      · exact Or.inl h
      · obtain ⟨c6, hc6, hcl6⟩ := Cond.classLink_spec hown hl1 e.platform hpl
        obtain ⟨a8, b8, h1, h2, h3⟩ := hn1
        cases Option.some.inj (h1.symm.trans hcl)
        cases Option.some.inj (h2.symm.trans hc6)
        exact Or.inr ⟨hz0, _, hcl6, h3⟩) hx (Or.inr ⟨h0, c4, hcl5, hasg⟩)
  obtain ⟨t, a1, b1⟩ := kk (T.setVm vm') hT X'
  exact ⟨t, st.trans a1, b1⟩
end Rows
section Ends
variable {p : Program} {l : Launch} {e : Env} {R : Room} {s : State} {m : MethodId} {args : Array Value} {below : List Frame} {meth : Method} {c : Code} {H : Heap} {locs : List Loc} {cells slots : Nat} {Q : State → Prop}
variable {mc ms : Nat} {free : Addr → Prop} {A0 A1 : Nat → Prop} {H0 : Heap} {a : Array Value} {ls : Array Slot} {st0 rest : List Value}
variable {Qc : Array Value → State → Outcome → State → Prop} {XC : String → State → State → Prop}
/-- what a body that may throw owes at its end -/
def vx_MQ (below : List Frame) (Qc : Array Value → State → Outcome → State → Prop) (XC : String → State → State → Prop) (a : Array Value) (s : State) (mc ms : Nat) (free : Addr → Prop) : State → Prop := fun t =>
  ∃ o, t.status = .running ∧ Ended t below o ∧ vx_Q Qc XC mc ms free a s o t
theorem vx_ret {g : JFrame} {mc ms : Nat} (k : W p l e R s m args below meth c H locs cells slots (MQ below Qc args s mc ms free) g) : W p l e R s m args below meth c H locs cells slots (vx_MQ below Qc XC args s mc ms free) g := by
  intro T hT X
  obtain ⟨t, a1, o, b1, b2, b3, b4⟩ := k T hT X
  exact ⟨t, a1, o, b1, b2, Or.inl ⟨b3, b4⟩⟩
/-- not caught here: it goes on to the caller -/
theorem vx_widen {g : JFrame} {q : Addr} {k n : Nat} (h1 : cells ≤ k) (h2 : slots ≤ n) (kk : vx_W p l e R s m args below meth c H locs k n Q g q) : vx_W p l e R s m args below meth c H locs cells slots Q g q := fun T hT X => kk T hT (stand_widen X h1 h2)
theorem vx_out {pc : Nat} {E : String} {ce : Cell} {q : Addr} {mc ms : Nat} (hout : ∀ x ∈ c.exceptionTable.toList, covers x pc = false) (hlocks : meth.locks = false) (hcell : H[q]? = some ce) (hv : ce.vm = .none) (hcl : s.vm.findClass E = some ce.cls)
    (hx : ∀ t : State, t.heap = H → s.vm.Alike t.vm → XC E s t) (hf : ∀ z ∈ locs, free z.base) (hc : cells ≤ mc) (hs : slots ≤ ms) :
    vx_W p l e R s m args below meth c H locs cells slots (vx_MQ below Qc XC args s mc ms free) (F0 m pc ls rest) q := by
  intro T hT X
  obtain ⟨st1, hrun, hend, hW, hsm⟩ := X.leaveThrown q (g := F0 m pc ls rest) rfl rfl rfl hout hlocks
  have hcell9 : (T.setFrames (.throwing q :: below)).heap[q]? = some ce := by
    show T.heap[q]? = some ce
    rw [hT]; exact hcell
  exact ⟨_, st1, .threw q, hrun, hend, Or.inr ⟨q, rfl, E, ce, locs, hx _ hT hW.alike, hcell9, hv, hcl, hW, hsm.mono hc hs, hf⟩⟩
theorem vx_frame {U : State} {k n : Nat} (h : s.sameButNew ({ U with vm := s.vm } : State) locs k n) : s.heap.size ≤ U.heap.size ∧ ∀ q : Nat, q < s.heap.size → (∀ z ∈ locs, z.base ≠ q) → U.heap[q]? = s.heap[q]? := by
  obtain ⟨-, h2, -, -, -, h6⟩ := h
  refine ⟨h2, fun q hq hz => ?_⟩
  obtain ⟨c9, e1, e2, e3, e4⟩ := h6 q _ (Array.getElem?_eq_getElem hq)
  have hs : c9.slots = (s.heap[q]).slots := Array.ext_getElem? fun i => e4 i fun hm => hz _ hm rfl
  have h9 : c9 = s.heap[q] := by
    rw [hs] at e2
    exact e2
  have e5 : U.heap[q]? = some c9 := e1
  rw [e5, h9, Array.getElem?_eq_getElem hq]
/-- the words of a throw but the four that speak of the heap -/
def vx_no (w : Cond) : Bool := decide (w ≠ .isRef (.static Bundle.tN "UNASSIGNED_STACK" Bundle.steD)) && decide (w ≠ .isRef (.static Bundle.tN "SUPPRESSED_SENTINEL" Bundle.listD)) && decide (w ≠ .laysStatic Bundle.tN "UNASSIGNED_STACK" Bundle.steD) && decide (w ≠ .laysStatic Bundle.tN "SUPPRESSED_SENTINEL" Bundle.listD)
def vx_at0 (own : String) (ic : Nat) (X : String) (names : List String) : List Cond := (Bundle.ownAtoms0 own ic X names).filter vx_no
def vx_atS (own : String) (ic : Nat) (X : String) (names : List String) : List Cond := (Bundle.ownAtoms own ic X names).filter vx_no
/-- a word that the tables alone decide, or a good one -/
def vx_ot (w : Cond) : Bool := w.onTables || goodWord w
theorem vx_ot_at {args a' : Array Value} {s U : State} {w : Cond} (hW : s.WarmedH U.vm) (hvm : s.vm = U.vm) (hg : vx_ot w = true) (h : w.before args s = true) : w.before a' U = true := by
  simp only [vx_ot, Bool.or_eq_true] at hg
  rcases hg with hg | hg
  · exact va_tabs hg hvm h
  · exact word_at hW (good_of_word hg) h
/-- a list's words: the good ones out of the method's own list, the others by premises of their own -/
theorem vx_hat {args : Array Value} {s : State} {L B : List Cond} (h1 : ∀ w ∈ L.filter goodWord, w.before args s = true) (h2 : ∀ w ∈ L.filter (fun w => !goodWord w), w ∈ B) (h3 : ∀ w ∈ B, w.before args s = true) : ∀ w ∈ L, w.before args s = true := by
  intro w hw
  by_cases g : goodWord w = true
  · exact h1 w (List.mem_filter.mpr ⟨hw, g⟩)
  · refine h3 w (h2 w (List.mem_filter.mpr ⟨hw, ?_⟩))
    show (!goodWord w) = true
    cases hgw : goodWord w
    · rfl
    · exact absurd hgw g
theorem vx_c {args : Array Value} {s : State} {w : Cond} {B : List Cond} (h : w.before args s = true) (t : ∀ w ∈ B, w.before args s = true) : ∀ w' ∈ w :: B, w'.before args s = true := fun w' h' => (List.mem_cons.mp h').elim (fun e => by rw [e]; exact h) (t w')
theorem vx_n {args : Array Value} {s : State} : ∀ w ∈ ([] : List Cond), w.before args s = true := fun _ h => nomatch h
theorem vx_own {args : Array Value} {s : State} {L : List Cond} (h1 : ∀ w ∈ L.filter vx_no, w.before args s = true)
    (hU : (Cond.isRef (.static Bundle.tN "UNASSIGNED_STACK" Bundle.steD)).before args s = true) (hN : (Cond.isRef (.static Bundle.tN "SUPPRESSED_SENTINEL" Bundle.listD)).before args s = true)
    (lU : (Cond.laysStatic Bundle.tN "UNASSIGNED_STACK" Bundle.steD).before args s = true) (lN : (Cond.laysStatic Bundle.tN "SUPPRESSED_SENTINEL" Bundle.listD).before args s = true) : ∀ w ∈ L, w.before args s = true := by
  intro w hw
  by_cases e1 : w = .isRef (.static Bundle.tN "UNASSIGNED_STACK" Bundle.steD)
  · rw [e1]; exact hU
  · by_cases e2 : w = .isRef (.static Bundle.tN "SUPPRESSED_SENTINEL" Bundle.listD)
    · rw [e2]; exact hN
    · by_cases e3 : w = .laysStatic Bundle.tN "UNASSIGNED_STACK" Bundle.steD
      · rw [e3]; exact lU
      · by_cases e4 : w = .laysStatic Bundle.tN "SUPPRESSED_SENTINEL" Bundle.listD
        · rw [e4]; exact lN
        · exact h1 w (List.mem_filter.mpr ⟨hw, by unfold vx_no; rw [decide_eq_true e1, decide_eq_true e2, decide_eq_true e3, decide_eq_true e4]; rfl⟩)
/-- where a static field lies, its class's statics cell in H -/
def vx_L (C n d : String) (A : Nat → Prop) (U : State) (H : Heap) : Prop := ∃ (c : ClassId) (k : Class) (i : Nat) (f : Field) (a : Nat) (cell : Cell), U.vm.findClass C = some c ∧ U.fieldFound? C n d = some (c, k, i, f) ∧ f.isStatic = true ∧ k.statics = some a ∧ H[a]? = some cell ∧ cell.vm.isStatics = true ∧ cell.cls = c ∧ f.slot < cell.slots.size ∧ k.staticTypes[f.slot]? = some f.type ∧ ¬ A a
theorem vx_L.moved {C n d : String} {A : Nat → Prop} {u U : State} {H : Heap} (hvm : u.vm.Alike U.vm) (h : vx_L C n d A u H) : vx_L C n d A U H := by
  obtain ⟨c, k, i, f, a, cell, h1, h2, h3, h4, h5, h6, h7, h8, h9, h10⟩ := h
  obtain ⟨k', hi', he⟩ := State.fieldFound?_setVm hvm h2
  exact ⟨c, k', i, f, a, cell, by rw [hvm.findClass]; exact h1, hi', h3, by rw [he]; exact h4, h5, h6, h7, h8, by rw [he]; exact h9, h10⟩
theorem vx_L.kept {C n d : String} {A : Nat → Prop} {U : State} {H H1 : Heap} (h : vx_L C n d A U H) (hq : ∀ a : Nat, a < H.size → ¬ A a → H1[a]? = H[a]?) : vx_L C n d A U H1 := by
  obtain ⟨c, k, i, f, a, cell, h1, h2, h3, h4, h5, h6, h7, h8, h9, h10⟩ := h
  exact ⟨c, k, i, f, a, cell, h1, h2, h3, h4, by rw [hq a (Array.getElem?_eq_some_iff.mp h5).1 h10]; exact h5, h6, h7, h8, h9, h10⟩
theorem vx_L.narrow {C n d : String} {A B : Nat → Prop} {U : State} {H : Heap} (h : vx_L C n d A U H) (hAB : ∀ q, B q → A q) : vx_L C n d B U H := by
  obtain ⟨c, k, i, f, a, cell, h1, h2, h3, h4, h5, h6, h7, h8, h9, h10⟩ := h
  exact ⟨c, k, i, f, a, cell, h1, h2, h3, h4, h5, h6, h7, h8, h9, fun z => h10 (hAB _ z)⟩
theorem vx_L.word {C n d : String} {A : Nat → Prop} {s : State} {args : Array Value} (h : vx_L C n d A s s.heap) : (Cond.laysStatic C n d).before args s = true := by
  obtain ⟨c, k, i, f, a, cell, h1, h2, h3, h4, h5, h6, h7, h8, h9, -⟩ := h
  show (Cond.laysStatic C n d).holds args s none s [] = true
  exact Cond.laysStatic_of h1 h2 h3 h4 h5 h6 h7 h8 h9
/-- .. and what it holds: null or some reference -/
def vx_Zq (C n d : String) (A : Nat → Prop) (U : State) (H : Heap) : Prop := va_Zq C n d A U H ∧ vx_L C n d A U H
theorem vx_Zq.moved {C n d : String} {A : Nat → Prop} {u U : State} {H : Heap} (hvm : u.vm.Alike U.vm) (h : vx_Zq C n d A u H) : vx_Zq C n d A U H := ⟨va_Zq.moved hvm h.1, vx_L.moved hvm h.2⟩
theorem vx_Zq.kept {C n d : String} {A : Nat → Prop} {U : State} {H H1 : Heap} (h : vx_Zq C n d A U H) (hq : ∀ a : Nat, a < H.size → ¬ A a → H1[a]? = H[a]?) : vx_Zq C n d A U H1 := ⟨va_Zq.kept h.1 hq, vx_L.kept h.2 hq⟩
theorem vx_Zq.narrow {C n d : String} {A B : Nat → Prop} {U : State} {H : Heap} (h : vx_Zq C n d A U H) (hAB : ∀ q, B q → A q) : vx_Zq C n d B U H := ⟨va_Zq.narrow h.1 hAB, vx_L.narrow h.2 hAB⟩
theorem vx_Zqof {args : Array Value} {s : State} {C n d : String} {A : Nat → Prop} (hl : (Cond.laysStatic C n d).before args s = true) (hini : (Cond.initialized C).before args s = true) (h : (Cond.isRef (.static C n d)).before args s = true) (hA : ∀ a : Nat, a < s.heap.size → ¬ A a) : vx_Zq C n d A s s.heap := by
  refine ⟨va_Zqof hl hini h hA, ?_⟩
  obtain ⟨c, k, i, f, a, cell, h1, h2, h3, h4, h5, h6, h7, h8, h9⟩ := Cond.laysStatic_spec hl
  exact ⟨c, k, i, f, a, cell, h1, h2, h3, h4, h5, h6, h7, h8, h9, hA a (Array.getElem?_eq_some_iff.mp h5).1⟩
theorem vx_isRef {C n d : String} {v : Value} {A : Nat → Prop} {s : State} {args : Array Value} (h : va_Z C n d v A s s.heap) (hv : v.isRef = true) : (Cond.isRef (.static C n d)).before args s = true := by
  obtain ⟨cf, kf, fi, f, a, cell, h1, h2, h3, h4, h5, h6, h7, -⟩ := h
  have he : (Term.static C n d).eval args s none [] s = some v := by
    simp [Term.eval, State.fieldNamed?, h1, h2, h4, h5, h6, h7]
  simp only [Cond.before, Cond.holds, Cond.value, he]
  cases v <;> simp_all [Value.isRef]
theorem vx_isRefq {C n d : String} {A : Nat → Prop} {s : State} {args : Array Value} (h : va_Zq C n d A s s.heap) : (Cond.isRef (.static C n d)).before args s = true := by
  rcases h with h | ⟨t, h⟩
  · exact vx_isRef h rfl
  · exact vx_isRef h rfl
/-- the same frame, seen from here: as if the method were called anew in this heap -/
theorem vx_rebase {T : State} (X : Stand p l e R s m args below meth c T locs cells slots) {R' : Room} (hf : R'.frames ≤ R.frames) (hl : R'.locals ≤ R.locals) (hc : cells + R'.cells ≤ R.cells) (hs : slots + R'.slots ≤ R.slots) :
    Stand p l e R' ((T.setVm s.vm).setFrames (.invoking m args :: below)) m args below meth c T [] 0 0 := by
  have htop : (T.setVm s.vm).topJava?.isSome := X.here.top
  have hF : ((T.setVm s.vm).setFrames (.invoking m args :: below)).frames = .invoking m args :: below := State.frames_setFrames _ (State.cur_lt_of_top htop)
  obtain ⟨g₀, hg0⟩ := Option.isSome_iff_exists.mp htop
  obtain ⟨r, hr⟩ := State.topJava?_eq_some.mp hg0
  have hl9 : e.platform.stackLimits (T.setVm s.vm).me = e.platform.stackLimits s.me := X.limits
  have hb9 : (T.setVm s.vm).me.stackBytes = s.me.stackBytes := X.bytes
  refine ⟨X.admits, X.cas, X.clock, hF, ?_, X.hears, X.method, X.code, X.here, X.tail, X.warmed, ?_, ?_, ?_⟩
  · have h := X.room
    have hU : ((T.setVm s.vm).setFrames (.invoking m args :: below)).localsInUse = s.localsInUse := by
      rw [State.localsInUse_invoking hF (meth := meth) (c := c) X.method X.code, State.localsInUse_invoking X.frames X.method X.code]
    simp only [State.hasRoom, Bool.and_eq_true, decide_eq_true_eq] at h ⊢
    obtain ⟨⟨⟨⟨h1, h2, h3, h4, h5, h6⟩, h7⟩, h8⟩, h9⟩ := h
    rw [X.frames, List.length_cons] at h2 h3
    have q1 := X.heapSize
    have q2 := X.used
    simp only [hF, hU, List.length_cons, State.stackLimits_setFrames, State.stackBytes_setFrames, hl9, hb9]
    refine ⟨⟨⟨⟨by omega, by omega, by omega, by omega, by omega, h6⟩, ?_⟩, ?_⟩, X.book⟩
    · show T.heap.size + R'.cells ≤ e.platform.maxCells
      omega
    · show T.slotsUsed + R'.slots ≤ e.platform.maxSlots
      omega
  · rw [State.stackLimits_setFrames]; rfl
  · rw [State.stackBytes_setFrames]; rfl
  · refine ⟨?_, Nat.le_refl _, Nat.le_refl _, ?_, ?_, fun a c9 h9 => ⟨c9, h9, rfl, rfl, fun _ _ => rfl⟩⟩
    · obtain ⟨t, ht, -⟩ := State.frames_cons hr
      show T.setVm s.vm = { ((T.setVm s.vm).setFrames (.invoking m args :: below)).setFrames (T.setVm s.vm).frames with heap := T.heap, slotsUsed := T.slotsUsed }
      rw [State.setFrames_setFrames, State.setFrames_self ht]
      rfl
    · show T.slotsUsed = T.slotsUsed + ((T.heap.toList.drop T.heap.size).map (·.slots.size)).sum
      rw [List.drop_eq_nil_of_le (Nat.le_of_eq Array.length_toList)]
      rfl
    · show ((T.heap.toList.drop T.heap.size).map (·.slots.size)).sum ≤ 0
      rw [List.drop_eq_nil_of_le (Nat.le_of_eq Array.length_toList)]
      exact Nat.le_refl _
/-- 'throw new E()': new; dup; invokespecial; athrow -/
theorem vx_throw0 {cc : ByteArray} {pc : Nat} (hexec : p.tables.exec = Jvm.exec) (hb : c.code = cc) (hl : l.stackTraces = false) {own cls : String} {names : List String} {ik ic mc ms : Nat} {A : Nat → Prop}
    (hown : s.vm.findClass own = some m.cls) (hcls : Bundle.fit cls = true) (hnames : ∀ n ∈ names, Bundle.fit n = true)
    (hk : (Cond.classLink own ik cls).before args s = true) (hini : (Cond.initialized cls).before args s = true) (hat : ∀ w ∈ vx_at0 own ic cls names, w.before args s = true)
    (hgood : ∀ w ∈ Cond.classLink own ik cls :: Cond.initialized cls :: vx_at0 own ic cls names, vx_ot w = true)
    (hU : vx_Zq Bundle.tN "UNASSIGNED_STACK" Bundle.steD A s s.heap) (hN : vx_Zq Bundle.tN "SUPPRESSED_SENTINEL" Bundle.listD A s s.heap) (hS : va_S A s.heap H locs) (hsize : ls.size = c.maxLocals)
    (d0 : decode cc pc = .ok (.new ik, 3)) (d3 : decode cc (pc + 3) = .ok (.dup, 1)) (d4 : decode cc (pc + 4) = .ok (.invokespecial ic, 3)) (d7 : decode cc (pc + 7) = .ok (.athrow, 1))
    (hout : ∀ x ∈ c.exceptionTable.toList, covers x (pc + 7) = false)
    (hRframes : names.length + 3 < R.frames) (hRlocals : (rest.map fun v => v.category).sum + (13 * (names.length + 1) + 42) ≤ R.locals) (hRcells : cells + 1 ≤ R.cells) (hRslots : slots + 6 ≤ R.slots) (hlocks : meth.locks = false)
    (hx : ∀ t : State, s.vm.Alike t.vm → H.size ≤ t.heap.size → (∀ q : Nat, q < H.size → t.heap[q]? = H[q]?) → XC cls s t)
    (hf : ∀ z ∈ locs, free z.base) (hc : cells + 1 ≤ mc) (hs : slots + 6 ≤ ms) :
    W p l e R s m args below meth c H locs cells slots (vx_MQ below Qc XC args s mc ms free) (F0 m pc ls rest) := by
  intro T hT X
  have htr : e.platform.stackTraces = false := (show e.platform.stackTraces = l.stackTraces by rw [X.admits.platform]).trans hl
  have Y := vx_rebase X (R' := { frames := R.frames, locals := R.locals, cells := 1, slots := 6 }) (Nat.le_refl _) (Nat.le_refl _) hRcells hRslots
  obtain ⟨s', hA⟩ : ∃ z, z = (T.setVm s.vm).setFrames (.invoking m args :: below) := ⟨_, rfl⟩
  rw [← hA] at Y
  have hvm : s'.vm = s.vm := by rw [hA]; rfl
  have hhp : s'.heap = H := by rw [hA]; exact hT
  have hW0 : s.WarmedH s'.vm := by rw [hvm]; exact State.WarmedH.refl s
  have hat' : ∀ w ∈ vx_at0 own ic cls names, w.before args s' = true := fun w hw => vx_ot_at hW0 hvm.symm (hgood w (List.mem_cons_of_mem _ (List.mem_cons_of_mem _ hw))) (hat w hw)
  have hk' : (Cond.classLink own ik cls).before args s' = true := vx_ot_at hW0 hvm.symm (hgood _ List.mem_cons_self) hk
  have hini' : (Cond.initialized cls).before args s' = true := vx_ot_at hW0 hvm.symm (hgood _ (List.mem_cons_of_mem _ List.mem_cons_self)) hini
  have hU' : vx_Zq Bundle.tN "UNASSIGNED_STACK" Bundle.steD A s' s'.heap := by rw [hhp]; exact vx_Zq.moved hW0.alike (hU.kept hS.2.1)
  have hN' : vx_Zq Bundle.tN "SUPPRESSED_SENTINEL" Bundle.listD A s' s'.heap := by rw [hhp]; exact vx_Zq.moved hW0.alike (hN.kept hS.2.1)
  have h : ∀ w ∈ Bundle.ownAtoms0 own ic cls names, w.before args s' = true := vx_own hat' (vx_isRefq hU'.1) (vx_isRefq hN'.1) hU'.2.word hN'.2.word
  have hown' : s'.vm.findClass own = some m.cls := by rw [hvm]; exact hown
  have hins : (Cond.instantiable cls 6).before args s' = true := h _ (by simp [Bundle.ownAtoms0])
  obtain ⟨vm₁, cX, kX, hfX, hkX, -, -, X₁, st1⟩ := Y.newCold hexec (own := own) (C := cls) (index := ik) (n := 6) hown' hk' hins hini'
    (g := F0 m pc ls rest) rfl (by rw [hb]; exact d0) (Nat.le_refl _) (Nat.le_refl _)
  generalize hT1 : (T.setVm vm₁).pushCell { cls := cX, slots := kX.instanceTypes.map defaultValue, vm := .none } = T1 at X₁ st1
  have hcat : (Value.ref T.heap.size).category = 1 := rfl
  have hcellA : T1.heap[T.heap.size]? = some (freshCell cX kX) := by rw [← hT1]; exact State.heap_pushCell_size _ _
  have d3' : decode c.code (pc + 3) = .ok (.dup, 1) := by rw [hb]; exact d3
  obtain ⟨U, hsteps, hrun, hend, hW, hsame, ce, hce, hO⟩ := X₁.ctorThrow0 hexec htr (own := own) (cls := cls) (names := names) (ic := ic) hown' hcls hnames h (fun x hx => nomatch hx) hfX hkX hcellA (by rw [hhp, hT]; exact Nat.le_refl _)
    (g := { method := m, pc := pc + 4, locals := ls, stack := .ref T.heap.size :: .ref T.heap.size :: rest, locked := none }) rfl hsize rfl rfl (rest := rest) rfl
    (by rw [hb]; exact d4) (by rw [hb]; exact d7) hout hRframes (by simp only [List.map_cons, List.sum_cons, hcat]; omega) hlocks
  obtain ⟨f1, f2⟩ := vx_frame hsame
  rw [hhp] at f1 f2
  have hWs : s.WarmedH U.vm := State.WarmedH.trans hW0 hW
  have hcl : s.vm.findClass cls = some ce.cls := by
    have h9 := hO.cls
    rw [hvm] at h9
    exact h9
  have hall : s.sameButNew ({ U with vm := s.vm } : State) locs mc ms := by
    subst hA
    obtain ⟨e1, e2⟩ := hsame
    rw [State.setFrames_setFrames] at e1
    have h2 : (T.setVm s.vm).sameButNew ({ U with vm := s.vm } : State) [] (0 + 1) (0 + 6) := ⟨e1, e2⟩
    have h3 := X.same.trans h2
    rw [List.append_nil] at h3
    exact h3.mono hc hs
  refine ⟨U, ?_, .threw T.heap.size, hrun, hend, Or.inr ⟨T.heap.size, rfl, cls, ce, locs, hx U hWs.alike f1 (fun q hq => f2 q hq (fun z hz => nomatch hz)), hce, hO.vm, hcl, hWs, hall, hf⟩⟩
  refine st1 _ ?_
  show Steps p.tables e below (T1.setTop { method := m, pc := pc + 3, locals := ls, stack := .ref T.heap.size :: rest, locked := none }) _
  jvm_step X₁.here [X₁.here.top, hexec, d3', Value.category]
  exact hsteps
/-- 'throw new E("text")': new; dup; ldc; invokespecial; athrow -/
theorem vx_throwS {cc : ByteArray} {pc : Nat} (hexec : p.tables.exec = Jvm.exec) (hb : c.code = cc) (hl : l.stackTraces = false) {own cls text : String} {names : List String} {ik is ic mc ms sa : Nat} {A : Nat → Prop}
    (hown : s.vm.findClass own = some m.cls) (hcls : Bundle.fit cls = true) (hnames : ∀ n ∈ names, Bundle.fit n = true)
    (hk : (Cond.classLink own ik cls).before args s = true) (hini : (Cond.initialized cls).before args s = true) (hstr : vk_R own is text sa s) (hat : ∀ w ∈ vx_atS own ic cls names, w.before args s = true)
    (hgood : ∀ w ∈ Cond.classLink own ik cls :: Cond.initialized cls :: vx_atS own ic cls names, vx_ot w = true)
    (hU : vx_Zq Bundle.tN "UNASSIGNED_STACK" Bundle.steD A s s.heap) (hN : vx_Zq Bundle.tN "SUPPRESSED_SENTINEL" Bundle.listD A s s.heap) (hS : va_S A s.heap H locs) (hsize : ls.size = c.maxLocals)
    (d0 : decode cc pc = .ok (.new ik, 3)) (d3 : decode cc (pc + 3) = .ok (.dup, 1)) (d4 : decode cc (pc + 4) = .ok (.ldc is, 2)) (d6 : decode cc (pc + 6) = .ok (.invokespecial ic, 3)) (d9 : decode cc (pc + 9) = .ok (.athrow, 1))
    (hout : ∀ x ∈ c.exceptionTable.toList, covers x (pc + 9) = false)
    (hRframes : names.length + 3 < R.frames) (hRlocals : (rest.map fun v => v.category).sum + (13 * (names.length + 1) + 43) ≤ R.locals) (hRcells : cells + 1 ≤ R.cells) (hRslots : slots + 6 ≤ R.slots) (hlocks : meth.locks = false)
    (hx : ∀ t : State, s.vm.Alike t.vm → H.size ≤ t.heap.size → (∀ q : Nat, q < H.size → t.heap[q]? = H[q]?) → XC cls s t)
    (hf : ∀ z ∈ locs, free z.base) (hc : cells + 1 ≤ mc) (hs : slots + 6 ≤ ms) :
    W p l e R s m args below meth c H locs cells slots (vx_MQ below Qc XC args s mc ms free) (F0 m pc ls rest) := by
  intro T hT X
  have htr : e.platform.stackTraces = false := (show e.platform.stackTraces = l.stackTraces by rw [X.admits.platform]).trans hl
  have Y := vx_rebase X (R' := { frames := R.frames, locals := R.locals, cells := 1, slots := 6 }) (Nat.le_refl _) (Nat.le_refl _) hRcells hRslots
  obtain ⟨s', hA⟩ : ∃ z, z = (T.setVm s.vm).setFrames (.invoking m args :: below) := ⟨_, rfl⟩
  rw [← hA] at Y
  have hvm : s'.vm = s.vm := by rw [hA]; rfl
  have hhp : s'.heap = H := by rw [hA]; exact hT
  have hW0 : s.WarmedH s'.vm := by rw [hvm]; exact State.WarmedH.refl s
  have hat' : ∀ w ∈ vx_atS own ic cls names, w.before args s' = true := fun w hw => vx_ot_at hW0 hvm.symm (hgood w (List.mem_cons_of_mem _ (List.mem_cons_of_mem _ hw))) (hat w hw)
  have hk' : (Cond.classLink own ik cls).before args s' = true := vx_ot_at hW0 hvm.symm (hgood _ List.mem_cons_self) hk
  have hini' : (Cond.initialized cls).before args s' = true := vx_ot_at hW0 hvm.symm (hgood _ (List.mem_cons_of_mem _ List.mem_cons_self)) hini
  have hU' : vx_Zq Bundle.tN "UNASSIGNED_STACK" Bundle.steD A s' s'.heap := by rw [hhp]; exact vx_Zq.moved hW0.alike (hU.kept hS.2.1)
  have hN' : vx_Zq Bundle.tN "SUPPRESSED_SENTINEL" Bundle.listD A s' s'.heap := by rw [hhp]; exact vx_Zq.moved hW0.alike (hN.kept hS.2.1)
  have h : ∀ w ∈ Bundle.ownAtoms own ic cls names, w.before args s' = true := vx_own hat' (vx_isRefq hU'.1) (vx_isRefq hN'.1) hU'.2.word hN'.2.word
  have hown' : s'.vm.findClass own = some m.cls := by rw [hvm]; exact hown
  have hins : (Cond.instantiable cls 6).before args s' = true := h _ (by simp [Bundle.ownAtoms])
  obtain ⟨vm₁, cX, kX, hfX, hkX, -, -, X₁, st1⟩ := Y.newCold hexec (own := own) (C := cls) (index := ik) (n := 6) hown' hk' hins hini'
    (g := F0 m pc ls rest) rfl (by rw [hb]; exact d0) (Nat.le_refl _) (Nat.le_refl _)
  generalize hT1 : (T.setVm vm₁).pushCell { cls := cX, slots := kX.instanceTypes.map defaultValue, vm := .none } = T1 at X₁ st1
  have hcat : (Value.ref T.heap.size).category = 1 := rfl
  have hcellA : T1.heap[T.heap.size]? = some (freshCell cX kX) := by rw [← hT1]; exact State.heap_pushCell_size _ _
  have d3' : decode c.code (pc + 3) = .ok (.dup, 1) := by rw [hb]; exact d3
  have d4' : decode c.code (pc + 4) = .ok (.ldc is, 2) := by rw [hb]; exact d4
  have hstr' : vk_R own is text sa s' := vk_R.warm hW0 hstr
  obtain ⟨U, hsteps, hrun, hend, hW, hsame, ce, hce, hO⟩ := X₁.ctorThrowS hexec htr (own := own) (cls := cls) (names := names) (ic := ic) hown' hcls hnames h (fun x hx => nomatch hx) hfX hkX hcellA (by rw [hhp, hT]; exact Nat.le_refl _) (msg := .ref sa) rfl
    (g := { method := m, pc := pc + 6, locals := ls, stack := .ref sa :: .ref T.heap.size :: .ref T.heap.size :: rest, locked := none }) rfl hsize rfl rfl (rest := rest) rfl
    (by rw [hb]; exact d6) (by rw [hb]; exact d9) hout hRframes (by simp only [List.map_cons, List.sum_cons, hcat]; omega) hlocks
  obtain ⟨f1, f2⟩ := vx_frame hsame
  rw [hhp] at f1 f2
  have hWs : s.WarmedH U.vm := State.WarmedH.trans hW0 hW
  have hcl : s.vm.findClass cls = some ce.cls := by
    have h9 := hO.cls
    rw [hvm] at h9
    exact h9
  have hall : s.sameButNew ({ U with vm := s.vm } : State) locs mc ms := by
    subst hA
    obtain ⟨e1, e2⟩ := hsame
    rw [State.setFrames_setFrames] at e1
    have h2 : (T.setVm s.vm).sameButNew ({ U with vm := s.vm } : State) [] (0 + 1) (0 + 6) := ⟨e1, e2⟩
    have h3 := X.same.trans h2
    rw [List.append_nil] at h3
    exact h3.mono hc hs
  refine ⟨U, ?_, .threw T.heap.size, hrun, hend, Or.inr ⟨T.heap.size, rfl, cls, ce, locs, hx U hWs.alike f1 (fun q hq => f2 q hq (fun z hz => nomatch hz)), hce, hO.vm, hcl, hWs, hall, hf⟩⟩
  refine st1 _ ?_
  show Steps p.tables e below (T1.setTop { method := m, pc := pc + 3, locals := ls, stack := .ref T.heap.size :: rest, locked := none }) _
  jvm_step X₁.here [X₁.here.top, hexec, d3', Value.category]
  exact X₁.ldcString hexec (own := own) (text := text) (index := is) (a := sa) hown' hstr'.1 hstr'.2
    (g := { method := m, pc := pc + 4, locals := ls, stack := .ref T.heap.size :: .ref T.heap.size :: rest, locked := none }) rfl d4' _ hsteps
/-- 'throw new E("text")', the text by a wide index -/
theorem vx_throwSW {cc : ByteArray} {pc : Nat} (hexec : p.tables.exec = Jvm.exec) (hb : c.code = cc) (hl : l.stackTraces = false) {own cls text : String} {names : List String} {ik is ic mc ms sa : Nat} {A : Nat → Prop}
    (hown : s.vm.findClass own = some m.cls) (hcls : Bundle.fit cls = true) (hnames : ∀ n ∈ names, Bundle.fit n = true)
    (hk : (Cond.classLink own ik cls).before args s = true) (hini : (Cond.initialized cls).before args s = true) (hstr : vk_R own is text sa s) (hat : ∀ w ∈ vx_atS own ic cls names, w.before args s = true)
    (hgood : ∀ w ∈ Cond.classLink own ik cls :: Cond.initialized cls :: vx_atS own ic cls names, vx_ot w = true)
    (hU : vx_Zq Bundle.tN "UNASSIGNED_STACK" Bundle.steD A s s.heap) (hN : vx_Zq Bundle.tN "SUPPRESSED_SENTINEL" Bundle.listD A s s.heap) (hS : va_S A s.heap H locs) (hsize : ls.size = c.maxLocals)
    (d0 : decode cc pc = .ok (.new ik, 3)) (d3 : decode cc (pc + 3) = .ok (.dup, 1)) (d4 : decode cc (pc + 4) = .ok (.ldc_w is, 3)) (d7 : decode cc (pc + 7) = .ok (.invokespecial ic, 3)) (d10 : decode cc (pc + 10) = .ok (.athrow, 1))
    (hout : ∀ x ∈ c.exceptionTable.toList, covers x (pc + 10) = false)
    (hRframes : names.length + 3 < R.frames) (hRlocals : (rest.map fun v => v.category).sum + (13 * (names.length + 1) + 43) ≤ R.locals) (hRcells : cells + 1 ≤ R.cells) (hRslots : slots + 6 ≤ R.slots) (hlocks : meth.locks = false)
    (hx : ∀ t : State, s.vm.Alike t.vm → H.size ≤ t.heap.size → (∀ q : Nat, q < H.size → t.heap[q]? = H[q]?) → XC cls s t)
    (hf : ∀ z ∈ locs, free z.base) (hc : cells + 1 ≤ mc) (hs : slots + 6 ≤ ms) :
    W p l e R s m args below meth c H locs cells slots (vx_MQ below Qc XC args s mc ms free) (F0 m pc ls rest) := by
  intro T hT X
  have htr : e.platform.stackTraces = false := (show e.platform.stackTraces = l.stackTraces by rw [X.admits.platform]).trans hl
  have Y := vx_rebase X (R' := { frames := R.frames, locals := R.locals, cells := 1, slots := 6 }) (Nat.le_refl _) (Nat.le_refl _) hRcells hRslots
  obtain ⟨s', hA⟩ : ∃ z, z = (T.setVm s.vm).setFrames (.invoking m args :: below) := ⟨_, rfl⟩
  rw [← hA] at Y
  have hvm : s'.vm = s.vm := by rw [hA]; rfl
  have hhp : s'.heap = H := by rw [hA]; exact hT
  have hW0 : s.WarmedH s'.vm := by rw [hvm]; exact State.WarmedH.refl s
  have hat' : ∀ w ∈ vx_atS own ic cls names, w.before args s' = true := fun w hw => vx_ot_at hW0 hvm.symm (hgood w (List.mem_cons_of_mem _ (List.mem_cons_of_mem _ hw))) (hat w hw)
  have hk' : (Cond.classLink own ik cls).before args s' = true := vx_ot_at hW0 hvm.symm (hgood _ List.mem_cons_self) hk
  have hini' : (Cond.initialized cls).before args s' = true := vx_ot_at hW0 hvm.symm (hgood _ (List.mem_cons_of_mem _ List.mem_cons_self)) hini
  have hU' : vx_Zq Bundle.tN "UNASSIGNED_STACK" Bundle.steD A s' s'.heap := by rw [hhp]; exact vx_Zq.moved hW0.alike (hU.kept hS.2.1)
  have hN' : vx_Zq Bundle.tN "SUPPRESSED_SENTINEL" Bundle.listD A s' s'.heap := by rw [hhp]; exact vx_Zq.moved hW0.alike (hN.kept hS.2.1)
  have h : ∀ w ∈ Bundle.ownAtoms own ic cls names, w.before args s' = true := vx_own hat' (vx_isRefq hU'.1) (vx_isRefq hN'.1) hU'.2.word hN'.2.word
  have hown' : s'.vm.findClass own = some m.cls := by rw [hvm]; exact hown
  have hins : (Cond.instantiable cls 6).before args s' = true := h _ (by simp [Bundle.ownAtoms])
  obtain ⟨vm₁, cX, kX, hfX, hkX, -, -, X₁, st1⟩ := Y.newCold hexec (own := own) (C := cls) (index := ik) (n := 6) hown' hk' hins hini'
    (g := F0 m pc ls rest) rfl (by rw [hb]; exact d0) (Nat.le_refl _) (Nat.le_refl _)
  generalize hT1 : (T.setVm vm₁).pushCell { cls := cX, slots := kX.instanceTypes.map defaultValue, vm := .none } = T1 at X₁ st1
  have hcat : (Value.ref T.heap.size).category = 1 := rfl
  have hcellA : T1.heap[T.heap.size]? = some (freshCell cX kX) := by rw [← hT1]; exact State.heap_pushCell_size _ _
  have d3' : decode c.code (pc + 3) = .ok (.dup, 1) := by rw [hb]; exact d3
  have d4' : decode c.code (pc + 4) = .ok (.ldc_w is, 3) := by rw [hb]; exact d4
  have hstr' : vk_R own is text sa s' := vk_R.warm hW0 hstr
  obtain ⟨U, hsteps, hrun, hend, hW, hsame, ce, hce, hO⟩ := X₁.ctorThrowS hexec htr (own := own) (cls := cls) (names := names) (ic := ic) hown' hcls hnames h (fun x hx => nomatch hx) hfX hkX hcellA (by rw [hhp, hT]; exact Nat.le_refl _) (msg := .ref sa) rfl
    (g := { method := m, pc := pc + 7, locals := ls, stack := .ref sa :: .ref T.heap.size :: .ref T.heap.size :: rest, locked := none }) rfl hsize rfl rfl (rest := rest) rfl
    (by rw [hb]; exact d7) (by rw [hb]; exact d10) hout hRframes (by simp only [List.map_cons, List.sum_cons, hcat]; omega) hlocks
  obtain ⟨f1, f2⟩ := vx_frame hsame
  rw [hhp] at f1 f2
  have hWs : s.WarmedH U.vm := State.WarmedH.trans hW0 hW
  have hcl : s.vm.findClass cls = some ce.cls := by
    have h9 := hO.cls
    rw [hvm] at h9
    exact h9
  have hall : s.sameButNew ({ U with vm := s.vm } : State) locs mc ms := by
    subst hA
    obtain ⟨e1, e2⟩ := hsame
    rw [State.setFrames_setFrames] at e1
    have h2 : (T.setVm s.vm).sameButNew ({ U with vm := s.vm } : State) [] (0 + 1) (0 + 6) := ⟨e1, e2⟩
    have h3 := X.same.trans h2
    rw [List.append_nil] at h3
    exact h3.mono hc hs
  refine ⟨U, ?_, .threw T.heap.size, hrun, hend, Or.inr ⟨T.heap.size, rfl, cls, ce, locs, hx U hWs.alike f1 (fun q hq => f2 q hq (fun z hz => nomatch hz)), hce, hO.vm, hcl, hWs, hall, hf⟩⟩
  refine st1 _ ?_
  show Steps p.tables e below (T1.setTop { method := m, pc := pc + 3, locals := ls, stack := .ref T.heap.size :: rest, locked := none }) _
  jvm_step X₁.here [X₁.here.top, hexec, d3', Value.category]
  exact X₁.ldcStringW hexec (own := own) (text := text) (index := is) (a := sa) hown' hstr'.1 hstr'.2
    (g := { method := m, pc := pc + 4, locals := ls, stack := .ref T.heap.size :: .ref T.heap.size :: rest, locked := none }) rfl d4' _ hsteps
end Ends
section Bodies
variable {l : Launch}
theorem vx_ofW {y : MethodName} {ws ws' : List Cond} {rm : Room} {Pc : Array Value → State → Prop} {Qc : Array Value → State → Outcome → State → Prop} {XC : String → State → State → Prop} {mc ms : Nat} {free : Addr → Prop} {cc : ByteArray} {maxL : Nat} {ret : Option FieldType}
    (hy : plainName y.cls = true) (hw : ws = Cond.code y cc maxL ret :: ws')
    (body : ∀ p e s m args below meth c s₁, BodyLoose p l y (headSpec ws rm) cc maxL ret e s m args below meth c s₁ → c.maxLocals = maxL → (∀ x ∈ c.exceptionTable.toList, False) → Pc args s →
      W p l e (headSpec ws rm).room s m args below meth c s.heap [] 0 0 (vx_MQ below Qc XC args s mc ms free) (entryFrame m args maxL)) : vx_Met l y ws rm Pc Qc XC mc ms free := by
  refine MetFree.of_bodyS (code := cc) (maxLocals := maxL) (ret := ret) hy ?_ ?_
  · intro args s m h hn
    obtain ⟨meth, c, h1, h2, h3, h4, h5, h6, -, -⟩ := Cond.code_spec hn (atoms_spec (ws := ws) h _ (by rw [hw]; exact List.mem_cons_self))
    exact ⟨meth, c, h1, h2, h3, h4, h5, h6⟩
  · intro p e s m args below meth c s₁ B hml hP _
    have hh0 : s₁.heap = s.heap := by rw [B.state]; rfl
    have ht : ∀ x ∈ c.exceptionTable.toList, False := by
      obtain ⟨meth9, c9, h1, h2, -, -, -, -, h7, -⟩ := Cond.code_spec B.named (atoms_spec (ws := ws) B.pre _ (by rw [hw]; exact List.mem_cons_self))
      cases Option.some.inj (h1.symm.trans B.method)
      cases Option.some.inj (h2.symm.trans (Stand.of_body B).code)
      intro x hx
      rw [Array.isEmpty_iff.mp h7] at hx
      cases hx
    obtain ⟨t, a1, o, b1, b2, b3⟩ := body p e s m args below meth c s₁ B hml ht hP s₁ hh0 (Stand.of_body B)
    exact ⟨t, o, a1, b1, b2, b3⟩
/-- the table of a body with handlers -/
theorem vx_table {p : Program} {x y : MethodName} {S : Spec} {cc bytes : ByteArray} {maxL maxL' : Nat} {ret ret' : Option FieldType} {e : Env} {s s₁ : State} {m : MethodId} {args : Array Value} {below : List Frame} {meth : Method} {c : Code} {hh : List (Nat × Nat × Nat × Nat)}
    (B : BodyLoose p l y S cc maxL ret e s m args below meth c s₁) (h : (Cond.codeWith y bytes maxL' ret' hh).before args s = true) : c.exceptionTable.toList = tableOf hh := by
  obtain ⟨m9, meth9, c9, hn9, h1, h2, -, -, h6, -⟩ := Cond.codeWith_spec h
  cases Option.some.inj (hn9.symm.trans B.named)
  cases Option.some.inj (h1.symm.trans B.method)
  cases Option.some.inj (h2.symm.trans (Stand.of_body B).code)
  rw [← h6, table_eq]
end Bodies
end VXA
/-! ===== END ===== -/
/-! ===== BEGIN a static call of a method with an exception table ===== -/
section VXS
variable {p : Program} {l : Launch} {e : Env} {R : Room} {s : State} {m : MethodId} {args : Array Value} {below : List Frame} {meth : Method} {c : Code} {T : State} {H : Heap} {locs : List Loc} {cells slots : Nat}
abbrev vx_CSW (R : Room) (s : State) (args : Array Value) (own : String) (index : Nat) (y : MethodName) (bytes : ByteArray) (maxL : Nat) (ret : Option FieldType) (hh : List (Nat × Nat × Nat × Nat)) (ws : List Cond) (rm : Room) (mc ms n : Nat) : Prop :=
  (rm.cells = mc ∧ rm.slots = ms ∧ rm.frames + 1 ≤ R.frames ∧ 8 + (maxL + 11) + rm.locals ≤ R.locals ∧ (∀ w ∈ ws, ∀ (a' : Array Value) (U : State), s.WarmedH U.vm → w.before a' U = true) ∧ Cond.codeWith y bytes maxL ret hh ∈ ws) ∧
  (Cond.codeWith y bytes maxL ret hh).before args s = true ∧ (Cond.initialized y.cls).before args s = true ∧ (y.cls ≠ "java/lang/invoke/MethodHandle" ∧ y.cls ≠ "java/lang/invoke/VarHandle") ∧
  (∀ sig, parseMethodDescriptor y.desc = some sig → n = sig.parameters.length) ∧ (Cond.methodLink own index y).before args s = true ∧ (Cond.static y).before args s = true
theorem vx_cwSW {own : String} {index maxL mc ms : Nat} {y : MethodName} {bytes : ByteArray} {ret : Option FieldType} {hh : List (Nat × Nat × Nat × Nat)} {Ts ws ws' : List Cond} {rm : Room} (n : Nat) (ht : ∀ w ∈ Ts, w.before args s = true) (hT : GoodIn Ts (va_wsS own index y ws)) (hw : ws = Cond.codeWith y bytes maxL ret hh :: ws') (hrc : rm.cells = mc) (hrs : rm.slots = ms)
    (hd : y.cls ≠ "java/lang/invoke/MethodHandle" ∧ y.cls ≠ "java/lang/invoke/VarHandle" ∧ (parseMethodDescriptor y.desc).map (fun d => d.parameters.length) = some n) (hR : rm.frames + 1 ≤ R.frames ∧ 8 + (maxL + 11) + rm.locals ≤ R.locals) :
    vx_CSW R s args own index y bytes maxL ret hh ws rm mc ms n := by
  have ok : ∀ w ∈ va_wsS own index y ws, w.before args s = true := fun w h => ht w (hT w h).1
  have hG : GoodIn Ts ws := fun w h => hT w (by unfold va_wsS; exact List.mem_append_right _ h)
  have hc : Cond.codeWith y bytes maxL ret hh ∈ ws := by rw [hw]; exact List.mem_cons_self
  refine ⟨⟨hrc, hrs, hR.1, hR.2, pay_in ht hG, hc⟩, ht _ (hG _ hc).1, ok _ (by simp [va_wsS]), ⟨hd.1, hd.2.1⟩, fun sig h => ?_, ok _ (by simp [va_wsS]), ok _ (by simp [va_wsS])⟩
  have h2 := hd.2.2
  rw [h] at h2
  exact (Option.some.inj h2).symm
theorem vx_callSW (X : Stand p l e R s m args below meth c T locs cells slots) (hexec : p.tables.exec = Jvm.exec) {own : String} {index : Nat} {y : MethodName} {bytes : ByteArray} {maxL : Nat} {ret : Option FieldType} {hh : List (Nat × Nat × Nat × Nat)}
    (hown : s.vm.findClass own = some m.cls) (hlink : (Cond.methodLink own index y).before args s = true) (hstat : (Cond.static y).before args s = true) (hinit : (Cond.initialized y.cls).before args s = true)
    (hcode : (Cond.codeWith y bytes maxL ret hh).before args s = true) (hy : y.cls ≠ "java/lang/invoke/MethodHandle" ∧ y.cls ≠ "java/lang/invoke/VarHandle")
    {W9 : Nat} {Pre : Pt → Array Value → Prop} {Post : Pt → Array Value → Option Value → Pt → Prop} (hK : Back l R p e below s args y 3 W9 Pre Post)
    {g : JFrame} (hg : g.method = m) (hsize : g.locals.size = c.maxLocals) {argsL rest : List Value} (hlen : ∀ sig, parseMethodDescriptor y.desc = some sig → argsL.length = sig.parameters.length)
    (hstack : g.stack = argsL.reverse ++ rest) (hW : 2 * g.monitorRoom + (rest.map fun v => v.category).sum ≤ W9) (hdg : decode c.code g.pc = .ok (.invokestatic index, 3))
    (hpre : ∀ vm₁, s.WarmedH vm₁ → Pre ⟨T.setVm vm₁, locs, cells, slots⟩ argsL.toArray) :
    ∃ (v : Option Value) (vm₁ : Vm) (B : Pt), s.WarmedH vm₁ ∧ Stand p l e R s m args below meth c B.U B.locs B.cells B.slots ∧ Post ⟨T.setVm vm₁, locs, cells, slots⟩ argsL.toArray v B ∧
      ∀ target, Steps p.tables e below (B.U.setTop { g with pc := g.pc + 3, stack := v.toList ++ rest }) target → Steps p.tables e below (T.setTop g) target := by
  obtain ⟨mk, methM, cM, hnamed, hmethM, -, -, -, -, -, -, hsigM⟩ := Cond.codeWith_spec hcode
  have hstatic : methM.isStatic = true := Cond.static_spec hnamed hmethM hstat
  obtain ⟨kP, hkP, -⟩ := className_of_methodNamed hnamed
  have hinitP : kP.init = .initialized := Cond.initialized_spec (findClass_of_methodNamed hnamed) hkP hinit
  obtain ⟨vm₁, X₁, hstep₁⟩ := X.invokestatic hexec hown hlink hnamed hmethM hstatic hkP hinitP hy (g := g) hg (argsL := argsL) (rest := rest) (hlen _ hsigM) hstack hdg
  obtain ⟨v, B, X', hpost, hsteps⟩ := hK m meth c ⟨T.setVm vm₁, locs, cells, slots⟩ { g with stack := rest } (.invokestatic index) mk argsL.toArray X₁ hg hsize hdg hW (X₁.named hnamed) (hpre vm₁ X₁.warmed)
  exact ⟨v, vm₁, B, X₁.warmed, X', hpost, fun target h => hstep₁ _ fun acts => by rw [doInvoke_state]; exact hsteps.trans h⟩
theorem vx_runSW {y : MethodName} {bytes cc : ByteArray} {maxL nL mc ms n index : Nat} {ret : Option FieldType} {hh : List (Nat × Nat × Nat × Nat)} {ws : List Cond} {rm : Room} {Pc : Array Value → State → Prop} {Qc : Array Value → State → Outcome → State → Prop} {free : Addr → Prop} {Ts : List Cond} {own : String} {As rest : List Value} {g : JFrame}
    (S : CallFix p m c cc nL s args Ts own) (hM : Met l y ws rm Pc Qc mc ms free) (cw : vx_CSW R s args own index y bytes maxL ret hh ws rm mc ms n) (hp : PreS s H Pc As)
    (hg : g.method = m) (hn : As.length = n) (hsize : g.locals.size = nL) (hstack : g.stack = As.reverse ++ rest) (hW : 2 * g.monitorRoom + (rest.map fun v => v.category).sum ≤ 8) (hdg : decode cc g.pc = .ok (.invokestatic index, 3)) (hf : cells + mc ≤ R.cells ∧ slots + ms ≤ R.slots) :
    va_Run p l e R s m args below meth c H locs cells slots mc ms g rest (Qc As.toArray) (free) := by
  obtain ⟨⟨hrc, hrs, hfr, hlo, hws, hcw⟩, hcode, hini, hy, hlen, hl, hstt⟩ := cw
  have hK : Back l R p e below s args y 3 8 (PreOf R mc ms Pc) (PostOf Qc mc ms free) := va_backW (hh := hh) (bytes := bytes) (maxL := maxL) (ret := ret) hM hp.1 hrc hrs hfr hlo hws hcw (fun a' U hW => word_at hW (Or.inl (by first | rfl | simp [Cond.onTables, Cond.keeps, Cond.steady])) hini)
  obtain ⟨hx, hb, hml, ho, -⟩ := S
  intro T hT X
  obtain ⟨v, vm₁, ⟨U', l2, c2, s2⟩, hW₁, X', ⟨g', mk, t, L, e1, e2, hq, h1, hL, h2, h3⟩, st⟩ := vx_callSW X hx (hh := hh) (bytes := bytes) (maxL := maxL) (ret := ret) ho hl hstt hini hcode hy hK hg (hsize.trans hml.symm) (argsL := As) (rest := rest) (fun sig h => hn.trans (hlen sig h)) hstack hW (by rw [hb]; exact hdg)
    (fun vm₁ hW₁ => ⟨hf.1, hf.2, hp.2 (T.setVm vm₁) hT hW₁⟩)
  dsimp only [Pt.U, Pt.locs, Pt.cells, Pt.slots] at X' e1 e2 h1 h2 h3 st
  subst h1; subst h2; subst h3
  exact ⟨v, (T.setVm vm₁).calling g' mk As.toArray, t, U', L, hT, X', hL, e1, e2, hq, st⟩
/-- not caught here, past rows that name other classes: it goes on to the caller -/
theorem vx_outP {p : Program} {l : Launch} {e : Env} {R : Room} {s : State} {m : MethodId} {args : Array Value} {below : List Frame} {meth : Method} {c : Code} {H : Heap} {locs : List Loc} {cells slots : Nat} {free : Addr → Prop} {ls : Array Slot} {rest : List Value} {Qc : Array Value → State → Outcome → State → Prop} {XC : String → State → State → Prop}
    {pc : Nat} {own E : String} {ce : Cell} {q : Addr} {mc ms : Nat} (hown : s.vm.findClass own = some m.cls) (hlocks : meth.locks = false)
    (hpass : ∀ z ∈ c.exceptionTable.toList, covers z pc = false ∨ (z.catchType ≠ 0 ∧ ∃ nm : String, (Cond.classLink own z.catchType nm).before args s = true ∧ va_Nc E nm s)) (hcell : H[q]? = some ce) (hv : ce.vm = .none) (hcl : s.vm.findClass E = some ce.cls)
    (hx : ∀ t : State, t.heap = H → s.vm.Alike t.vm → XC E s t) (hf : ∀ z ∈ locs, free z.base) (hc : cells ≤ mc) (hs : slots ≤ ms) :
    vx_W p l e R s m args below meth c H locs cells slots (vx_MQ below Qc XC args s mc ms free) (F0 m pc ls rest) q := by
  intro T hT X
  have hpl : e.platform.magicAccessors = ({} : Platform).magicAccessors := by rw [X.admits.platform]
  obtain ⟨vm', hW', X', st⟩ := X.outThrough hlocks q (g := F0 m pc ls rest) rfl rfl rfl (cell := ce) (by rw [hT]; exact hcell) (by rw [hv]; rfl)
    (by obtain ⟨k9, h9, -⟩ := Vm.findClass_spec hcl; exact ⟨k9, h9⟩) (fun z hz => by
      rcases hpass z hz with h | ⟨hz0, nm, hl1, hn1⟩
      · exact Or.inl h
      · obtain ⟨c6, hc6, hcl6⟩ := Cond.classLink_spec hown hl1 e.platform hpl
        obtain ⟨a8, b8, h1, h2, h3⟩ := hn1
        cases Option.some.inj (h1.symm.trans hcl)
        cases Option.some.inj (h2.symm.trans hc6)
        exact Or.inr ⟨hz0, _, hcl6, h3⟩)
  obtain ⟨g₀, hfr⟩ := X'.frames_eq
  have hcell9 : ((T.setVm vm').setFrames (.throwing q :: below)).heap[q]? = some ce := by
    show T.heap[q]? = some ce
    rw [hT]; exact hcell
  have hend : Ended ((T.setVm vm').setFrames (.throwing q :: below)) below (.threw q) := State.frames_setFrames _ (State.cur_lt_of_frames hfr)
  refine ⟨(T.setVm vm').setFrames (.throwing q :: below), ?_, .threw q, X'.here.running, hend, Or.inr ⟨q, rfl, E, ce, locs, hx _ hT (X'.ends _).1.alike, hcell9, hv, hcl, (X'.ends _).1, (X'.ends _).2.mono hc hs, hf⟩⟩
  rw [X.pushThrowing_eq]
  exact st
/-- a thing of a world lies in the heap -/
theorem vx_lt {D : va_G} {cl : List vw_C} {ws : va_W} {H1 : Heap} (h : va_P D cl ws H1) {k : Nat} {q : Nat × va_E} (hk : ws[k]? = some q) : q.1 < H1.size := (h k q hk).lt
end VXS
/-! ===== END ===== -/
/-! ===== BEGIN methods with a table of their own: called by a name, returning or throwing ===== -/
section VXH
/-! vx_backW, vx_callVX, vx_callSX, vx_callVW, vx_runVW, vx_runVX, vx_runSX, vx_ofWH follow the same proofs as their sisters above (Free/Laws.lean, Shelf42/LK1.lean); vx_outP calls Shelf42/NT130.lean (outThrough). -/
section
variable {l : Launch} {R : Room} {p : Program} {e : Env} {below : List Frame} {s : State} {sargs : Array Value} {y : MethodName} {len W9 : Nat}
theorem vx_backW {ws : List Cond} {rm : Room} {Pc : Array Value → State → Prop} {Qc : Array Value → State → Outcome → State → Prop} {XC : String → State → State → Prop} {mc ms : Nat} {free : Addr → Prop} {bytes : ByteArray} {maxL : Nat} {ret : Option FieldType} {hh : List (Nat × Nat × Nat × Nat)}
    (hM : vx_Met l y ws rm Pc Qc XC mc ms free) (hblind : FrameBlind Pc) (hrc : rm.cells = mc) (hrs : rm.slots = ms)
    (hframes : rm.frames + 1 ≤ R.frames) (hlocals : W9 + (maxL + 11) + rm.locals ≤ R.locals)
    (hws : ∀ w ∈ ws, ∀ a' U, s.WarmedH U.vm → w.before a' U = true) (hcode : Cond.codeWith y bytes maxL ret hh ∈ ws) (hinit : ∀ a' U, s.WarmedH U.vm → (Cond.initialized y.cls).before a' U = true) :
    vx_Back l R p e below s sargs y len W9 (PreOf R mc ms Pc) (PostOf Qc mc ms free) (vx_Post XC mc ms free) := by
  intro m meth c A g ig mk a X hg hsize hdg hW hn hp
  have h1 : (headSpec ws rm).pre.before a A.U = true := atoms_intro fun w hw => hws w hw _ _ X.warmed
  have h2 : (Cond.codeWith y bytes maxL ret hh).before a A.U = true := hws _ hcode _ _ X.warmed
  have h3 : (Cond.initialized y.cls).before a A.U = true := hinit _ _ X.warmed
  have h4 : A.cells + (headSpec ws rm).room.cells ≤ R.cells := by rw [show (headSpec ws rm).room.cells = mc from hrc]; exact hp.1
  have h5 : A.slots + (headSpec ws rm).room.slots ≤ R.slots := by rw [show (headSpec ws rm).room.slots = ms from hrs]; exact hp.2.1
  have hPc : Pc a (A.U.calling g mk a) := hblind _ _ _ _ hp.2.2
  obtain ⟨U, Ls, c0, s0⟩ := A
  dsimp only [Pt.U, Pt.locs, Pt.cells, Pt.slots] at h1 h2 h3 h4 h5 X hn hPc ⊢
  obtain ⟨m9, methY, cY, hn9, hmY, hcY, -, hlY, -⟩ := Cond.codeWith_spec h2
  cases Option.some.inj (hn9.symm.trans hn)
  obtain ⟨kY, hkY, -⟩ := className_of_methodNamed hn
  have hinitY : kY.init = .initialized := Cond.initialized_spec (findClass_of_methodNamed hn) hkY h3
  have h : At U g.method c below := by rw [hg]; exact X.here
  have hlocals9 : W9 + (maxL + 11) + (headSpec ws rm).room.locals ≤ R.locals := hlocals
  have happ : (headSpec ws rm).appliesLoose y e.platform (U.calling g mk a) = true :=
    Spec.appliesLoose_calling (g := g) h hdg hn hkY hinitY
      (X.room_calling (g := g) (R' := (headSpec ws rm).room) hsize hmY hcY hframes (by rw [hlY]; omega) h4 h5) h1
  obtain ⟨mid, hmid⟩ := h.above
  have hfr : (U.setTop g).frames = (.java g :: mid) ++ below := by rw [State.frames_setTop' g h.top, hmid]; rfl
  obtain ⟨o, s₂, hsteps, -, hend, hq⟩ := Steps.callFree hM p X.admits X.cas X.clock (acts := []) hfr happ hPc trivial
  have hq' : vx_Q Qc XC mc ms free a (U.calling g mk a) o s₂ := hq
  rw [State.frames_setTop' g h.top] at hend
  obtain ⟨g₀, hg0⟩ := Option.isSome_iff_exists.mp h.top
  obtain ⟨r, hr⟩ := State.topJava?_eq_some.mp hg0
  have hr' : (({ U with heap := s₂.heap, slotsUsed := s₂.slotsUsed } : State).setVm s₂.vm).frames = .java g₀ :: r := hr
  rcases hq' with ⟨hqc, L, hfe, hL⟩ | ⟨q, rfl, E, ce, L, hx, hce, hcv, hcl, hW₂, hsm, hL⟩
  · obtain ⟨⟨v, rfl⟩, hW₂, e2, q2, q3, q4, q5, q6⟩ := id hfe
    have e3 : s₂ = ({ (U.calling g mk a).setFrames s₂.frames with heap := s₂.heap, slotsUsed := s₂.slotsUsed } : State).setVm s₂.vm := by
      have : s₂ = ({ s₂ with vm := (U.calling g mk a).vm } : State).setVm s₂.vm := rfl
      rw [e2] at this
      exact this
    obtain ⟨c₂, i₂, len₂, hc₂, hd₂, hf₂⟩ := hend
    have hW' : U.WarmedH s₂.vm := hW₂
    have hcc : c₂ = c := by
      have h1 : s₂.code? g.method = U.code? g.method := by
        rw [State.code?_eq, State.code?_eq, hW'.alike.method?]
      exact Option.some.inj (hc₂.symm.trans (h1.trans h.code))
    subst hcc
    have hlen : len₂ = len := by rw [hdg] at hd₂; cases hd₂; rfl
    subst hlen
    have hs₂ : s₂ = (({ U with heap := s₂.heap, slotsUsed := s₂.slotsUsed } : State).setVm s₂.vm).setTop { g with pc := g.pc + len₂, stack := v.toList ++ g.stack } := by
      refine e3.trans ?_
      rw [hf₂, State.calling_eq h.top, State.setFrames_setFrames, State.setTop_of_frames _ hr', hr]
      rfl
    have hsame : U.sameButNew ({ U with heap := s₂.heap, slotsUsed := s₂.slotsUsed } : State) L mc ms := by
      refine ⟨?_, q2, q3, q4, q5, q6⟩
      obtain ⟨t, ht, -⟩ := State.frames_cons hr
      show ({ U with heap := s₂.heap, slotsUsed := s₂.slotsUsed } : State) = { U.setFrames U.frames with heap := s₂.heap, slotsUsed := s₂.slotsUsed }
      rw [State.setFrames_self ht]
    subst hg
    refine Or.inl ⟨v, ⟨(({ U with heap := s₂.heap, slotsUsed := s₂.slotsUsed } : State).setVm s₂.vm), Ls ++ L, c0 + mc, s0 + ms⟩,
      ⟨X.admits, X.cas, X.clock, X.frames, X.room, X.hears, X.method, X.code, (X.here.setHeapUsed s₂.heap s₂.slotsUsed).setVm hW'.alike, X.tail, State.WarmedH.trans X.warmed hW', X.limits, X.bytes, X.same.trans (hsame.setVm s.vm)⟩,
      ⟨g, mk, s₂, L, rfl, rfl, hqc, rfl, hL, rfl, rfl⟩, ?_⟩
    show Steps p.tables e below _ ((({ U with heap := s₂.heap, slotsUsed := s₂.slotsUsed } : State).setVm s₂.vm).setTop { g with pc := g.pc + len₂, stack := v.toList ++ g.stack })
    rw [← hs₂]
    exact hsteps
  · obtain ⟨e2, q2, q3, q4, q5, q6⟩ := id hsm
    have e3 : s₂ = ({ (U.calling g mk a).setFrames s₂.frames with heap := s₂.heap, slotsUsed := s₂.slotsUsed } : State).setVm s₂.vm := by
      have : s₂ = ({ s₂ with vm := (U.calling g mk a).vm } : State).setVm s₂.vm := rfl
      rw [e2] at this
      exact this
    have hf₂ : s₂.frames = .throwing q :: .java g :: U.frames.tail := hend
    have hW' : U.WarmedH s₂.vm := hW₂
    have hs₂ : s₂ = ((({ U with heap := s₂.heap, slotsUsed := s₂.slotsUsed } : State).setVm s₂.vm).setTop g).pushFrame (.throwing q) := by
      refine e3.trans ?_
      rw [hf₂, State.calling_eq h.top, State.setFrames_setFrames, State.pushFrame, State.frames_setTop _ hr', State.setTop_of_frames _ hr', State.setFrames_setFrames, hr]
      rfl
    have hsame : U.sameButNew ({ U with heap := s₂.heap, slotsUsed := s₂.slotsUsed } : State) L mc ms := by
      refine ⟨?_, q2, q3, q4, q5, q6⟩
      obtain ⟨t, ht, -⟩ := State.frames_cons hr
      show ({ U with heap := s₂.heap, slotsUsed := s₂.slotsUsed } : State) = { U.setFrames U.frames with heap := s₂.heap, slotsUsed := s₂.slotsUsed }
      rw [State.setFrames_self ht]
    subst hg
    refine Or.inr ⟨q, ⟨(({ U with heap := s₂.heap, slotsUsed := s₂.slotsUsed } : State).setVm s₂.vm), Ls ++ L, c0 + mc, s0 + ms⟩,
      ⟨X.admits, X.cas, X.clock, X.frames, X.room, X.hears, X.method, X.code, (X.here.setHeapUsed s₂.heap s₂.slotsUsed).setVm hW'.alike, X.tail, State.WarmedH.trans X.warmed hW', X.limits, X.bytes, X.same.trans (hsame.setVm s.vm)⟩,
      ⟨g, mk, s₂, L, E, ce, rfl, rfl, hx, hce, hcv, hcl, rfl, hL, rfl, rfl⟩, ?_⟩
    show Steps p.tables e below _ (((({ U with heap := s₂.heap, slotsUsed := s₂.slotsUsed } : State).setVm s₂.vm).setTop g).pushFrame (.throwing q))
    rw [← hs₂]
    exact hsteps
end
variable {p : Program} {l : Launch} {e : Env} {R : Room} {s : State} {m : MethodId} {args : Array Value} {below : List Frame} {meth : Method} {c : Code} {T : State} {H : Heap} {locs : List Loc} {cells slots : Nat}
theorem vx_callVX (X : Stand p l e R s m args below meth c T locs cells slots) (hexec : p.tables.exec = Jvm.exec) {own C : String} {index : Nat} {y : MethodName} {bytes : ByteArray} {maxL : Nat} {ret : Option FieldType} {hh : List (Nat × Nat × Nat × Nat)}
    (hown : s.vm.findClass own = some m.cls) (hlink : (Cond.methodLink own index y).before args s = true) (hinst : (Cond.instanceMethod y).before args s = true) (hsel : (Cond.selects C y y).before args s = true)
    (hcode : (Cond.codeWith y bytes maxL ret hh).before args s = true) (hy : y.cls ≠ "java/lang/invoke/MethodHandle" ∧ y.cls ≠ "java/lang/invoke/VarHandle")
    {W9 : Nat} {Pre : Pt → Array Value → Prop} {Post : Pt → Array Value → Option Value → Pt → Prop} {PostX : Pt → Array Value → Addr → Pt → Prop} (hK : vx_Back l R p e below s args y 3 W9 Pre Post PostX)
    {b : Addr} {cellB : Cell} (hcell : T.heap[b]? = some cellB) (hobj : cellB.vm.isStatics = false) (hcls : s.vm.findClass C = some cellB.cls)
    {g : JFrame} (hg : g.method = m) (hsize : g.locals.size = c.maxLocals) {argsL rest : List Value} (hlen : ∀ sig, parseMethodDescriptor y.desc = some sig → argsL.length = sig.parameters.length)
    (hstack : g.stack = argsL.reverse ++ .ref b :: rest) (hW : 2 * g.monitorRoom + (rest.map fun v => v.category).sum ≤ W9) (hdg : decode c.code g.pc = .ok (.invokevirtual index, 3))
    (hpre : ∀ vm₁, s.WarmedH vm₁ → Pre ⟨T.setVm vm₁, locs, cells, slots⟩ (Value.ref b :: argsL).toArray) :
    (∃ (v : Option Value) (vm₁ : Vm) (B : Pt), s.WarmedH vm₁ ∧ Stand p l e R s m args below meth c B.U B.locs B.cells B.slots ∧ Post ⟨T.setVm vm₁, locs, cells, slots⟩ (Value.ref b :: argsL).toArray v B ∧
      ∀ target, Steps p.tables e below (B.U.setTop { g with pc := g.pc + 3, stack := v.toList ++ rest }) target → Steps p.tables e below (T.setTop g) target) ∨
    (∃ (q : Addr) (vm₁ : Vm) (B : Pt), s.WarmedH vm₁ ∧ Stand p l e R s m args below meth c B.U B.locs B.cells B.slots ∧ PostX ⟨T.setVm vm₁, locs, cells, slots⟩ (Value.ref b :: argsL).toArray q B ∧
      Steps p.tables e below (T.setTop g) ((B.U.setTop { g with stack := rest }).pushFrame (.throwing q))) := by
  obtain ⟨mk, methM, hnamed, hmethM, hstM, habM⟩ := Cond.instanceMethod_spec hinst
  obtain ⟨m8, methM', cM, hn8, hmethM', -, -, -, -, -, -, hsigM⟩ := Cond.codeWith_spec hcode
  cases Option.some.inj (hn8.symm.trans hnamed)
  cases hmethM.symm.trans hmethM'
  obtain ⟨c2, r2, m2, q1, q2, q3, q4, kP, hkP, hkPi⟩ := Cond.selects_spec hsel
  cases hcls.symm.trans q1
  cases (State.methodFound?_of_named hnamed hy).symm.trans q2
  cases hnamed.symm.trans q3
  have hselP : selectMethod e.platform s.vm cellB.cls mk = .method mk := by rw [Launch.admits_selectMethod X.admits]; exact q4
  obtain ⟨vm₁, X₁, hstep₁⟩ := X.invokevirtual hexec hown hlink hnamed hmethM hstM hkP hkPi hy (a := b) (cell := cellB) hcell
    (fun z h => by rw [h] at hobj; cases hobj) hselP hmethM habM hkP hkPi (g := g) hg (argsL := argsL) (rest := rest) (hlen _ hsigM) hstack hdg
  rcases hK m meth c ⟨T.setVm vm₁, locs, cells, slots⟩ { g with stack := rest } (.invokevirtual index) mk (Value.ref b :: argsL).toArray X₁ hg hsize hdg hW (X₁.named hnamed) (hpre vm₁ X₁.warmed) with ⟨v, B, X', hpost, hsteps⟩ | ⟨q, B, X', hpost, hsteps⟩
  · exact Or.inl ⟨v, vm₁, B, X₁.warmed, X', hpost, fun target h => hstep₁ _ fun acts => by rw [doInvoke_state]; exact hsteps.trans h⟩
  · exact Or.inr ⟨q, vm₁, B, X₁.warmed, X', hpost, hstep₁ _ fun acts => by rw [doInvoke_state]; exact hsteps⟩
theorem vx_callSX (X : Stand p l e R s m args below meth c T locs cells slots) (hexec : p.tables.exec = Jvm.exec) {own : String} {index : Nat} {y : MethodName} {bytes : ByteArray} {maxL : Nat} {ret : Option FieldType} {hh : List (Nat × Nat × Nat × Nat)}
    (hown : s.vm.findClass own = some m.cls) (hlink : (Cond.methodLink own index y).before args s = true) (hstat : (Cond.static y).before args s = true) (hinit : (Cond.initialized y.cls).before args s = true)
    (hcode : (Cond.codeWith y bytes maxL ret hh).before args s = true) (hy : y.cls ≠ "java/lang/invoke/MethodHandle" ∧ y.cls ≠ "java/lang/invoke/VarHandle")
    {W9 : Nat} {Pre : Pt → Array Value → Prop} {Post : Pt → Array Value → Option Value → Pt → Prop} {PostX : Pt → Array Value → Addr → Pt → Prop} (hK : vx_Back l R p e below s args y 3 W9 Pre Post PostX)
    {g : JFrame} (hg : g.method = m) (hsize : g.locals.size = c.maxLocals) {argsL rest : List Value} (hlen : ∀ sig, parseMethodDescriptor y.desc = some sig → argsL.length = sig.parameters.length)
    (hstack : g.stack = argsL.reverse ++ rest) (hW : 2 * g.monitorRoom + (rest.map fun v => v.category).sum ≤ W9) (hdg : decode c.code g.pc = .ok (.invokestatic index, 3))
    (hpre : ∀ vm₁, s.WarmedH vm₁ → Pre ⟨T.setVm vm₁, locs, cells, slots⟩ argsL.toArray) :
    (∃ (v : Option Value) (vm₁ : Vm) (B : Pt), s.WarmedH vm₁ ∧ Stand p l e R s m args below meth c B.U B.locs B.cells B.slots ∧ Post ⟨T.setVm vm₁, locs, cells, slots⟩ argsL.toArray v B ∧
      ∀ target, Steps p.tables e below (B.U.setTop { g with pc := g.pc + 3, stack := v.toList ++ rest }) target → Steps p.tables e below (T.setTop g) target) ∨
    (∃ (q : Addr) (vm₁ : Vm) (B : Pt), s.WarmedH vm₁ ∧ Stand p l e R s m args below meth c B.U B.locs B.cells B.slots ∧ PostX ⟨T.setVm vm₁, locs, cells, slots⟩ argsL.toArray q B ∧
      Steps p.tables e below (T.setTop g) ((B.U.setTop { g with stack := rest }).pushFrame (.throwing q))) := by
  obtain ⟨mk, methM, cM, hnamed, hmethM, -, -, -, -, -, -, hsigM⟩ := Cond.codeWith_spec hcode
  have hstatic : methM.isStatic = true := Cond.static_spec hnamed hmethM hstat
  obtain ⟨kP, hkP, -⟩ := className_of_methodNamed hnamed
  have hinitP : kP.init = .initialized := Cond.initialized_spec (findClass_of_methodNamed hnamed) hkP hinit
  obtain ⟨vm₁, X₁, hstep₁⟩ := X.invokestatic hexec hown hlink hnamed hmethM hstatic hkP hinitP hy (g := g) hg (argsL := argsL) (rest := rest) (hlen _ hsigM) hstack hdg
  rcases hK m meth c ⟨T.setVm vm₁, locs, cells, slots⟩ { g with stack := rest } (.invokestatic index) mk argsL.toArray X₁ hg hsize hdg hW (X₁.named hnamed) (hpre vm₁ X₁.warmed) with ⟨v, B, X', hpost, hsteps⟩ | ⟨q, B, X', hpost, hsteps⟩
  · exact Or.inl ⟨v, vm₁, B, X₁.warmed, X', hpost, fun target h => hstep₁ _ fun acts => by rw [doInvoke_state]; exact hsteps.trans h⟩
  · exact Or.inr ⟨q, vm₁, B, X₁.warmed, X', hpost, hstep₁ _ fun acts => by rw [doInvoke_state]; exact hsteps⟩
theorem vx_callVW (X : Stand p l e R s m args below meth c T locs cells slots) (hexec : p.tables.exec = Jvm.exec) {own C : String} {index : Nat} {y : MethodName} {bytes : ByteArray} {maxL : Nat} {ret : Option FieldType} {hh : List (Nat × Nat × Nat × Nat)}
    (hown : s.vm.findClass own = some m.cls) (hlink : (Cond.methodLink own index y).before args s = true) (hinst : (Cond.instanceMethod y).before args s = true) (hsel : (Cond.selects C y y).before args s = true)
    (hcode : (Cond.codeWith y bytes maxL ret hh).before args s = true) (hy : y.cls ≠ "java/lang/invoke/MethodHandle" ∧ y.cls ≠ "java/lang/invoke/VarHandle")
    {W9 : Nat} {Pre : Pt → Array Value → Prop} {Post : Pt → Array Value → Option Value → Pt → Prop} (hK : Back l R p e below s args y 3 W9 Pre Post)
    {b : Addr} {cellB : Cell} (hcell : T.heap[b]? = some cellB) (hobj : cellB.vm.isStatics = false) (hcls : s.vm.findClass C = some cellB.cls)
    {g : JFrame} (hg : g.method = m) (hsize : g.locals.size = c.maxLocals) {argsL rest : List Value} (hlen : ∀ sig, parseMethodDescriptor y.desc = some sig → argsL.length = sig.parameters.length)
    (hstack : g.stack = argsL.reverse ++ .ref b :: rest) (hW : 2 * g.monitorRoom + (rest.map fun v => v.category).sum ≤ W9) (hdg : decode c.code g.pc = .ok (.invokevirtual index, 3))
    (hpre : ∀ vm₁, s.WarmedH vm₁ → Pre ⟨T.setVm vm₁, locs, cells, slots⟩ (Value.ref b :: argsL).toArray) :
    ∃ (v : Option Value) (vm₁ : Vm) (B : Pt), s.WarmedH vm₁ ∧ Stand p l e R s m args below meth c B.U B.locs B.cells B.slots ∧ Post ⟨T.setVm vm₁, locs, cells, slots⟩ (Value.ref b :: argsL).toArray v B ∧
      ∀ target, Steps p.tables e below (B.U.setTop { g with pc := g.pc + 3, stack := v.toList ++ rest }) target → Steps p.tables e below (T.setTop g) target := by
  obtain ⟨mk, methM, hnamed, hmethM, hstM, habM⟩ := Cond.instanceMethod_spec hinst
  obtain ⟨m8, methM', cM, hn8, hmethM', -, -, -, -, -, -, hsigM⟩ := Cond.codeWith_spec hcode
  cases Option.some.inj (hn8.symm.trans hnamed)
  cases hmethM.symm.trans hmethM'
  obtain ⟨c2, r2, m2, q1, q2, q3, q4, kP, hkP, hkPi⟩ := Cond.selects_spec hsel
  cases hcls.symm.trans q1
  cases (State.methodFound?_of_named hnamed hy).symm.trans q2
  cases hnamed.symm.trans q3
  have hselP : selectMethod e.platform s.vm cellB.cls mk = .method mk := by rw [Launch.admits_selectMethod X.admits]; exact q4
  obtain ⟨vm₁, X₁, hstep₁⟩ := X.invokevirtual hexec hown hlink hnamed hmethM hstM hkP hkPi hy (a := b) (cell := cellB) hcell
    (fun z h => by rw [h] at hobj; cases hobj) hselP hmethM habM hkP hkPi (g := g) hg (argsL := argsL) (rest := rest) (hlen _ hsigM) hstack hdg
  obtain ⟨v, B, X', hpost, hsteps⟩ := hK m meth c ⟨T.setVm vm₁, locs, cells, slots⟩ { g with stack := rest } (.invokevirtual index) mk (Value.ref b :: argsL).toArray X₁ hg hsize hdg hW (X₁.named hnamed) (hpre vm₁ X₁.warmed)
  exact ⟨v, vm₁, B, X₁.warmed, X', hpost, fun target h => hstep₁ _ fun acts => by rw [doInvoke_state]; exact hsteps.trans h⟩
abbrev vx_CVW (R : Room) (s : State) (args : Array Value) (own C : String) (index : Nat) (y : MethodName) (bytes : ByteArray) (maxL : Nat) (ret : Option FieldType) (hh : List (Nat × Nat × Nat × Nat)) (ws : List Cond) (rm : Room) (mc ms n : Nat) : Prop :=
  (rm.cells = mc ∧ rm.slots = ms ∧ rm.frames + 1 ≤ R.frames ∧ 8 + (maxL + 11) + rm.locals ≤ R.locals ∧ (∀ w ∈ ws, ∀ (a' : Array Value) (U : State), s.WarmedH U.vm → w.before a' U = true) ∧ Cond.codeWith y bytes maxL ret hh ∈ ws) ∧
  (Cond.codeWith y bytes maxL ret hh).before args s = true ∧ (Cond.initialized y.cls).before args s = true ∧ (y.cls ≠ "java/lang/invoke/MethodHandle" ∧ y.cls ≠ "java/lang/invoke/VarHandle") ∧
  (∀ sig, parseMethodDescriptor y.desc = some sig → n = sig.parameters.length) ∧ (Cond.methodLink own index y).before args s = true ∧ (Cond.instanceMethod y).before args s = true ∧ (Cond.selects C y y).before args s = true
theorem vx_cwVW {own C : String} {index maxL mc ms : Nat} {y : MethodName} {bytes : ByteArray} {ret : Option FieldType} {hh : List (Nat × Nat × Nat × Nat)} {Ts ws ws' : List Cond} {rm : Room} (n : Nat) (ht : ∀ w ∈ Ts, w.before args s = true) (hT : GoodIn Ts (wsV own index C y ws)) (hw : ws = Cond.codeWith y bytes maxL ret hh :: ws') (hrc : rm.cells = mc) (hrs : rm.slots = ms)
    (hd : y.cls = C ∧ y.cls ≠ "java/lang/invoke/MethodHandle" ∧ y.cls ≠ "java/lang/invoke/VarHandle" ∧ (parseMethodDescriptor y.desc).map (fun d => d.parameters.length) = some n) (hR : rm.frames + 1 ≤ R.frames ∧ 8 + (maxL + 11) + rm.locals ≤ R.locals) :
    vx_CVW R s args own C index y bytes maxL ret hh ws rm mc ms n := by
  obtain ⟨hC, hd⟩ := hd
  subst hC
  have ok : ∀ w ∈ wsV own index y.cls y ws, w.before args s = true := fun w h => ht w (hT w h).1
  have hG : GoodIn Ts ws := fun w h => hT w (by unfold wsV; exact List.mem_append_right _ h)
  have hc : Cond.codeWith y bytes maxL ret hh ∈ ws := by rw [hw]; exact List.mem_cons_self
  refine ⟨⟨hrc, hrs, hR.1, hR.2, pay_in ht hG, hc⟩, ht _ (hG _ hc).1, ok _ (by simp [wsV]), ⟨hd.1, hd.2.1⟩, fun sig h => ?_, ok _ (by simp [wsV]), ok _ (by simp [wsV]), ok _ (by simp [wsV])⟩
  have h2 := hd.2.2
  rw [h] at h2
  exact (Option.some.inj h2).symm
theorem vx_runVW {y : MethodName} {bytes cc : ByteArray} {maxL nL mc ms n index : Nat} {ret : Option FieldType} {hh : List (Nat × Nat × Nat × Nat)} {ws : List Cond} {rm : Room} {Pc : Array Value → State → Prop} {Qc : Array Value → State → Outcome → State → Prop} {free : Addr → Prop} {Ts : List Cond} {own C : String} {b : Addr} {As rest : List Value} {g : JFrame}
    (S : CallFix p m c cc nL s args Ts own) (hM : Met l y ws rm Pc Qc mc ms free) (cw : vx_CVW R s args own C index y bytes maxL ret hh ws rm mc ms n) (hp : PreV s H C b Pc As)
    (hg : g.method = m) (hn : As.length = n) (hsize : g.locals.size = nL) (hstack : g.stack = As.reverse ++ .ref b :: rest) (hW : 2 * g.monitorRoom + (rest.map fun v => v.category).sum ≤ 8) (hdg : decode cc g.pc = .ok (.invokevirtual index, 3)) (hf : cells + mc ≤ R.cells ∧ slots + ms ≤ R.slots) :
    va_Run p l e R s m args below meth c H locs cells slots mc ms g rest (Qc (Value.ref b :: As).toArray) free := by
  obtain ⟨⟨hrc, hrs, hfr, hlo, hws, hcw⟩, hcode, hini, hy, hlen, hl, hin, hse⟩ := cw
  have hK : Back l R p e below s args y 3 8 (PreOf R mc ms Pc) (PostOf Qc mc ms free) := va_backW (hh := hh) (bytes := bytes) (maxL := maxL) (ret := ret) hM hp.1 hrc hrs hfr hlo hws hcw (fun a' U hW => word_at hW (Or.inl (by first | rfl | simp [Cond.onTables, Cond.keeps, Cond.steady])) hini)
  obtain ⟨hx, hb, hml, ho, -⟩ := S
  obtain ⟨-, ⟨cellB, hcB, hoB, hclB⟩, hPc⟩ := hp
  intro T hT X
  obtain ⟨v, vm₁, ⟨U', l2, c2, s2⟩, hW₁, X', ⟨g', mk, t, L, e1, e2, hq, h1, hL, h2, h3⟩, st⟩ := vx_callVW X hx (C := C) (hh := hh) (bytes := bytes) (maxL := maxL) (ret := ret) ho hl hin hse hcode hy hK (by rw [hT]; exact hcB) hoB hclB hg (hsize.trans hml.symm) (argsL := As) (rest := rest) (fun sig h => hn.trans (hlen sig h)) hstack hW (by rw [hb]; exact hdg)
    (fun vm₁ hW₁ => ⟨hf.1, hf.2, hPc (T.setVm vm₁) hT hW₁⟩)
  dsimp only [Pt.U, Pt.locs, Pt.cells, Pt.slots] at X' e1 e2 h1 h2 h3 st
  subst h1; subst h2; subst h3
  exact ⟨v, (T.setVm vm₁).calling g' mk (Value.ref b :: As).toArray, t, U', L, hT, X', hL, e1, e2, hq, st⟩
section
variable {y : MethodName} {bytes cc : ByteArray} {maxL nL mc ms n index : Nat} {ret : Option FieldType} {ws : List Cond} {rm : Room} {Pc : Array Value → State → Prop} {Qc : Array Value → State → Outcome → State → Prop} {XC : String → State → State → Prop} {free : Addr → Prop} {Ts : List Cond} {own C : String} {b : Addr} {As rest : List Value} {g : JFrame}
theorem vx_runVX {hh : List (Nat × Nat × Nat × Nat)} (S : CallFix p m c cc nL s args Ts own) (hM : vx_Met l y ws rm Pc Qc XC mc ms free) (cw : vx_CVW R s args own C index y bytes maxL ret hh ws rm mc ms n) (hp : PreV s H C b Pc As)
    (hg : g.method = m) (hn : As.length = n) (hsize : g.locals.size = nL) (hstack : g.stack = As.reverse ++ .ref b :: rest) (hW : 2 * g.monitorRoom + (rest.map fun v => v.category).sum ≤ 8) (hdg : decode cc g.pc = .ok (.invokevirtual index, 3)) (hf : cells + mc ≤ R.cells ∧ slots + ms ≤ R.slots) :
    vx_Run p l e R s m args below meth c H locs cells slots mc ms g rest (Qc (Value.ref b :: As).toArray) XC free := by
  obtain ⟨⟨hrc, hrs, hfr, hlo, hws, hcw⟩, hcode, hini, hy, hlen, hl, hin, hse⟩ := cw
  have hK : vx_Back l R p e below s args y 3 8 (PreOf R mc ms Pc) (PostOf Qc mc ms free) (vx_Post XC mc ms free) := vx_backW (hh := hh) (bytes := bytes) (maxL := maxL) (ret := ret) hM hp.1 hrc hrs hfr hlo hws hcw (fun a' U hW => word_at hW (Or.inl (by first | rfl | simp [Cond.onTables, Cond.keeps, Cond.steady])) hini)
  obtain ⟨hx, hb, hml, ho, -⟩ := S
  obtain ⟨-, ⟨cellB, hcB, hoB, hclB⟩, hPc⟩ := hp
  intro T hT X
  rcases vx_callVX X hx (C := C) (hh := hh) (bytes := bytes) (maxL := maxL) (ret := ret) ho hl hin hse hcode hy hK (by rw [hT]; exact hcB) hoB hclB hg (hsize.trans hml.symm) (argsL := As) (rest := rest) (fun sig h => hn.trans (hlen sig h)) hstack hW (by rw [hb]; exact hdg)
    (fun vm₁ hW₁ => ⟨hf.1, hf.2, hPc (T.setVm vm₁) hT hW₁⟩) with ⟨v, vm₁, ⟨U', l2, c2, s2⟩, hW₁, X', ⟨g', mk, t, L, e1, e2, hq, h1, hL, h2, h3⟩, st⟩ | ⟨q, vm₁, ⟨U', l2, c2, s2⟩, hW₁, X', ⟨g', mk, t, L, E, ce, e1, e2, hq, hce, hcv, hcl, h1, hL, h2, h3⟩, st⟩
  · dsimp only [Pt.U, Pt.locs, Pt.cells, Pt.slots] at X' e1 e2 h1 h2 h3 st
    subst h1; subst h2; subst h3
    exact Or.inl ⟨v, (T.setVm vm₁).calling g' mk (Value.ref b :: As).toArray, t, U', L, hT, X', hL, e1, e2, hq, st⟩
  · dsimp only [Pt.U, Pt.locs, Pt.cells, Pt.slots] at X' e1 e2 h1 h2 h3 st hcl
    subst h1; subst h2; subst h3
    exact Or.inr ⟨q, (T.setVm vm₁).calling g' mk (Value.ref b :: As).toArray, t, U', L, E, ce, hT, X', hL, e1, e2, hq, hce, hcv, vx_cls hW₁ hcl, st⟩
theorem vx_runSX {hh : List (Nat × Nat × Nat × Nat)} (S : CallFix p m c cc nL s args Ts own) (hM : vx_Met l y ws rm Pc Qc XC mc ms free) (cw : vx_CSW R s args own index y bytes maxL ret hh ws rm mc ms n) (hp : PreS s H Pc As)
    (hg : g.method = m) (hn : As.length = n) (hsize : g.locals.size = nL) (hstack : g.stack = As.reverse ++ rest) (hW : 2 * g.monitorRoom + (rest.map fun v => v.category).sum ≤ 8) (hdg : decode cc g.pc = .ok (.invokestatic index, 3)) (hf : cells + mc ≤ R.cells ∧ slots + ms ≤ R.slots) :
    vx_Run p l e R s m args below meth c H locs cells slots mc ms g rest (Qc As.toArray) XC free := by
  obtain ⟨⟨hrc, hrs, hfr, hlo, hws, hcw⟩, hcode, hini, hy, hlen, hl, hstt⟩ := cw
  have hK : vx_Back l R p e below s args y 3 8 (PreOf R mc ms Pc) (PostOf Qc mc ms free) (vx_Post XC mc ms free) := vx_backW (hh := hh) (bytes := bytes) (maxL := maxL) (ret := ret) hM hp.1 hrc hrs hfr hlo hws hcw (fun a' U hW => word_at hW (Or.inl (by first | rfl | simp [Cond.onTables, Cond.keeps, Cond.steady])) hini)
  obtain ⟨hx, hb, hml, ho, -⟩ := S
  intro T hT X
  rcases vx_callSX X hx (hh := hh) (bytes := bytes) (maxL := maxL) (ret := ret) ho hl hstt hini hcode hy hK hg (hsize.trans hml.symm) (argsL := As) (rest := rest) (fun sig h => hn.trans (hlen sig h)) hstack hW (by rw [hb]; exact hdg)
    (fun vm₁ hW₁ => ⟨hf.1, hf.2, hp.2 (T.setVm vm₁) hT hW₁⟩) with ⟨v, vm₁, ⟨U', l2, c2, s2⟩, hW₁, X', ⟨g', mk, t, L, e1, e2, hq, h1, hL, h2, h3⟩, st⟩ | ⟨q, vm₁, ⟨U', l2, c2, s2⟩, hW₁, X', ⟨g', mk, t, L, E, ce, e1, e2, hq, hce, hcv, hcl, h1, hL, h2, h3⟩, st⟩
  · dsimp only [Pt.U, Pt.locs, Pt.cells, Pt.slots] at X' e1 e2 h1 h2 h3 st
    subst h1; subst h2; subst h3
    exact Or.inl ⟨v, (T.setVm vm₁).calling g' mk As.toArray, t, U', L, hT, X', hL, e1, e2, hq, st⟩
  · dsimp only [Pt.U, Pt.locs, Pt.cells, Pt.slots] at X' e1 e2 h1 h2 h3 st hcl
    subst h1; subst h2; subst h3
    exact Or.inr ⟨q, (T.setVm vm₁).calling g' mk As.toArray, t, U', L, E, ce, hT, X', hL, e1, e2, hq, hce, hcv, vx_cls hW₁ hcl, st⟩
end
end VXH
theorem vx_ofWH {l : Launch} {y : MethodName} {ws ws' : List Cond} {rm : Room} {Pc : Array Value → State → Prop} {Qc : Array Value → State → Outcome → State → Prop} {XC : String → State → State → Prop} {mc ms : Nat} {free : Addr → Prop} {cc : ByteArray} {maxL : Nat} {ret : Option FieldType} {hh : List (Nat × Nat × Nat × Nat)}
    (hy : plainName y.cls = true) (hw : ws = Cond.codeWith y cc maxL ret hh :: ws')
    (body : ∀ p e s m args below meth c s₁, BodyLoose p l y (headSpec ws rm) cc maxL ret e s m args below meth c s₁ → c.maxLocals = maxL → Pc args s →
      W p l e (headSpec ws rm).room s m args below meth c s.heap [] 0 0 (vx_MQ below Qc XC args s mc ms free) (entryFrame m args maxL)) : vx_Met l y ws rm Pc Qc XC mc ms free := by
  refine MetFree.of_bodyS (code := cc) (maxLocals := maxL) (ret := ret) hy ?_ ?_
  · intro args s m h hn
    obtain ⟨m9, meth, c, hn9, h1, h2, h3, h4, -, h5, h6, -⟩ := Cond.codeWith_spec (atoms_spec (ws := ws) h _ (by rw [hw]; exact List.mem_cons_self))
    cases hn.symm.trans hn9
    exact ⟨meth, c, h1, h2, h3, h4, h5, h6⟩
  · intro p e s m args below meth c s₁ B hml hP _
    have hh0 : s₁.heap = s.heap := by rw [B.state]; rfl
    obtain ⟨t, a1, o, b1, b2, b3⟩ := body p e s m args below meth c s₁ B hml hP s₁ hh0 (Stand.of_body B)
    exact ⟨t, o, a1, b1, b2, b3⟩
/-! ===== END ===== -/
end
section
/-! ===== BEGIN printed: names, fields, word lists, decode rows ===== -/
def RX0 : String := "StampSheets$Machine"
def TX0 : u_T := fun k => match k with
  | 0 => ("StampSheets$Machine", "pins", "[LStampSheets$Pin;", true)
  | 1 => ("StampSheets$Machine", "feed", "I", false)
  | 2 => ("StampSheets$Machine", "drift", "I", false)
  | 3 => ("StampSheets$Machine", "error", "I", false)
  | 4 => ("StampSheets$Machine", "rowsLeft", "I", false)
  | 5 => ("StampSheets$Machine", "rowsRun", "I", false)
  | _ => ("StampSheets$Machine", "step", "I", false)
def tyX0 : Nat → FieldType := fun k => match k with
  | 0 => .array (.object "StampSheets$Pin")
  | 1 => .int
  | 2 => .int
  | 3 => .int
  | 4 => .int
  | 5 => .int
  | _ => .int
abbrev wsX00 : List Cond := u_ws RX0 TX0 7
theorem nmX0 : ∀ a, a < 7 → ∀ b, b < 7 → a ≠ b → (TX0 a).2.1 ≠ (TX0 b).2.1 := by decide +kernel
theorem tyX0_ok : ∀ k, k < 7 → parseFieldDescriptor (TX0 k).2.2.1 = some (tyX0 k) := by decide +kernel
abbrev cX0_init : ByteArray := prog_2_method_1_code
def yX0_init : MethodName := ⟨RX0, "<init>", "()V"⟩
abbrev cX0_becomeLike : ByteArray := prog_2_method_2_code
def yX0_becomeLike : MethodName := ⟨RX0, "becomeLike", "(LStampSheets$Machine;)V"⟩
abbrev cX0_perforate : ByteArray := prog_2_method_3_code
def yX0_perforate : MethodName := ⟨RX0, "perforate", "([ZLStampSheets$Sheet;)V"⟩
abbrev cX0_markRow : ByteArray := prog_2_method_4_code
def yX0_markRow : MethodName := ⟨RX0, "markRow", "(I[ZLStampSheets$Sheet;)V"⟩
abbrev cX0_holeFaults : ByteArray := prog_2_method_5_code
def yX0_holeFaults : MethodName := ⟨RX0, "holeFaults", "(I)I"⟩
abbrev cX0_hasWatermark : ByteArray := prog_2_method_6_code
def yX0_hasWatermark : MethodName := ⟨RX0, "hasWatermark", "(I)Z"⟩
abbrev cX0_strikeAll : ByteArray := prog_2_method_7_code
def yX0_strikeAll : MethodName := ⟨RX0, "strikeAll", "()V"⟩
abbrev cX0_brokenPins : ByteArray := prog_2_method_8_code
def yX0_brokenPins : MethodName := ⟨RX0, "brokenPins", "()I"⟩
def RX1 : String := "StampSheets$Pin"
def TX1 : u_T := fun k => match k with
  | 0 => ("StampSheets$Pin", "strength", "I", false)
  | _ => ("StampSheets$Pin", "wear", "I", false)
def tyX1 : Nat → FieldType := fun k => match k with
  | 0 => .int
  | _ => .int
abbrev wsX10 : List Cond := u_ws RX1 TX1 2
theorem nmX1 : ∀ a, a < 2 → ∀ b, b < 2 → a ≠ b → (TX1 a).2.1 ≠ (TX1 b).2.1 := by decide +kernel
theorem tyX1_ok : ∀ k, k < 2 → parseFieldDescriptor (TX1 k).2.2.1 = some (tyX1 k) := by decide +kernel
abbrev cX1_init : ByteArray := prog_3_method_1_code
def yX1_init : MethodName := ⟨RX1, "<init>", "()V"⟩
abbrev cX1_isWhole : ByteArray := prog_3_method_2_code
def yX1_isWhole : MethodName := ⟨RX1, "isWhole", "()Z"⟩
abbrev cX1_strike : ByteArray := prog_3_method_3_code
def yX1_strike : MethodName := ⟨RX1, "strike", "()V"⟩
abbrev cX1_becomeLike : ByteArray := prog_3_method_4_code
def yX1_becomeLike : MethodName := ⟨RX1, "becomeLike", "(LStampSheets$Pin;)V"⟩
abbrev cX1_answer : ByteArray := prog_3_method_5_code
def yX1_answer : MethodName := ⟨RX1, "answer", "(I)I"⟩
def RX2 : String := "StampSheets$Sheet"
def TX2 : u_T := fun k => match k with
  | 0 => ("StampSheets$Sheet", "faultSets", "[I", true)
  | _ => ("StampSheets$Sheet", "tornOff", "[Z", true)
def tyX2 : Nat → FieldType := fun k => match k with
  | 0 => .array .int
  | _ => .array .boolean
abbrev wsX20 : List Cond := u_ws RX2 TX2 2
theorem nmX2 : ∀ a, a < 2 → ∀ b, b < 2 → a ≠ b → (TX2 a).2.1 ≠ (TX2 b).2.1 := by decide +kernel
theorem tyX2_ok : ∀ k, k < 2 → parseFieldDescriptor (TX2 k).2.2.1 = some (tyX2 k) := by decide +kernel
abbrev cX2_init : ByteArray := prog_4_method_1_code
def yX2_init : MethodName := ⟨RX2, "<init>", "()V"⟩
abbrev cX2_answer : ByteArray := prog_4_method_2_code
def yX2_answer : MethodName := ⟨RX2, "answer", "(I)I"⟩
abbrev cX2_worthOf : ByteArray := prog_4_method_3_code
def yX2_worthOf : MethodName := ⟨RX2, "worthOf", "(I)I"⟩
abbrev cX2_worth : ByteArray := prog_4_method_4_code
def yX2_worth : MethodName := ⟨RX2, "worth", "()I"⟩
abbrev cX2_left : ByteArray := prog_4_method_5_code
def yX2_left : MethodName := ⟨RX2, "left", "()I"⟩
abbrev cX2_isLeftWith : ByteArray := prog_4_method_6_code
def yX2_isLeftWith : MethodName := ⟨RX2, "isLeftWith", "(II)Z"⟩
abbrev cX2_leftWith : ByteArray := prog_4_method_7_code
def yX2_leftWith : MethodName := ⟨RX2, "leftWith", "(I)I"⟩
abbrev cX2_invertedPairs : ByteArray := prog_4_method_8_code
def yX2_invertedPairs : MethodName := ⟨RX2, "invertedPairs", "()I"⟩
abbrev cX2_isInvertedPair : ByteArray := prog_4_method_9_code
def yX2_isInvertedPair : MethodName := ⟨RX2, "isInvertedPair", "(I)Z"⟩
abbrev cX2_rowsOff : ByteArray := prog_4_method_10_code
def yX2_rowsOff : MethodName := ⟨RX2, "rowsOff", "()I"⟩
abbrev cX2_greatestBlock : ByteArray := prog_4_method_11_code
def yX2_greatestBlock : MethodName := ⟨RX2, "greatestBlock", "()I"⟩
abbrev cX2_goodColumns : ByteArray := prog_4_method_12_code
def yX2_goodColumns : MethodName := ⟨RX2, "goodColumns", "(I)I"⟩
abbrev cX2_longestRun : ByteArray := prog_4_method_13_code
def yX2_longestRun : MethodName := ⟨RX2, "longestRun", "(I)I"⟩
abbrev cX2_addToDigest : ByteArray := prog_4_method_14_code
def yX2_addToDigest : MethodName := ⟨RX2, "addToDigest", "(J)J"⟩
def RX3 : String := "StampSheets$Trial"
def TX3 : u_T := fun k => match k with
  | 0 => ("StampSheets$Trial", "machine", "LStampSheets$Machine;", true)
  | 1 => ("StampSheets$Trial", "sheet", "LStampSheets$Sheet;", true)
  | 2 => ("StampSheets$Trial", "faultless", "I", false)
  | _ => ("StampSheets$Trial", "worth", "I", false)
def tyX3 : Nat → FieldType := fun k => match k with
  | 0 => .object "StampSheets$Machine"
  | 1 => .object "StampSheets$Sheet"
  | 2 => .int
  | _ => .int
abbrev wsX30 : List Cond := u_ws RX3 TX3 4
theorem nmX3 : ∀ a, a < 4 → ∀ b, b < 4 → a ≠ b → (TX3 a).2.1 ≠ (TX3 b).2.1 := by decide +kernel
theorem tyX3_ok : ∀ k, k < 4 → parseFieldDescriptor (TX3 k).2.2.1 = some (tyX3 k) := by decide +kernel
abbrev cX3_init : ByteArray := prog_5_method_1_code
def yX3_init : MethodName := ⟨RX3, "<init>", "()V"⟩
abbrev cX3_perforateFrom : ByteArray := prog_5_method_2_code
def yX3_perforateFrom : MethodName := ⟨RX3, "perforateFrom", "(LStampSheets$Machine;I[ZI)V"⟩
abbrev cX3_answer : ByteArray := prog_5_method_3_code
def yX3_answer : MethodName := ⟨RX3, "answer", "(I)I"⟩
def RX4 : String := "StampSheets"
def TX4 : u_T := fun k => match k with
  | 0 => ("StampSheets", "machine", "LStampSheets$Machine;", true)
  | 1 => ("StampSheets", "trial", "LStampSheets$Trial;", true)
  | 2 => ("StampSheets", "plateInverted", "[Z", true)
  | 3 => ("StampSheets", "sheetStore", "[LStampSheets$Sheet;", true)
  | _ => ("StampSheets", "sheetCount", "I", false)
def tyX4 : Nat → FieldType := fun k => match k with
  | 0 => .object "StampSheets$Machine"
  | 1 => .object "StampSheets$Trial"
  | 2 => .array .boolean
  | 3 => .array (.object "StampSheets$Sheet")
  | _ => .int
abbrev wsX40 : List Cond := u_ws RX4 TX4 5
theorem nmX4 : ∀ a, a < 5 → ∀ b, b < 5 → a ≠ b → (TX4 a).2.1 ≠ (TX4 b).2.1 := by decide +kernel
theorem tyX4_ok : ∀ k, k < 5 → parseFieldDescriptor (TX4 k).2.2.1 = some (tyX4 k) := by decide +kernel
abbrev cX4_init : ByteArray := prog_1_method_1_code
def yX4_init : MethodName := ⟨RX4, "<init>", "()V"⟩
abbrev cX4_setFeed : ByteArray := prog_1_method_2_code
def yX4_setFeed : MethodName := ⟨RX4, "setFeed", "(II)I"⟩
abbrev cX4_align : ByteArray := prog_1_method_3_code
def yX4_align : MethodName := ⟨RX4, "align", "()I"⟩
abbrev cX4_roll : ByteArray := prog_1_method_4_code
def yX4_roll : MethodName := ⟨RX4, "roll", "(II)I"⟩
abbrev cX4_fit : ByteArray := prog_1_method_5_code
def yX4_fit : MethodName := ⟨RX4, "fit", "(II)I"⟩
abbrev cX4_turn : ByteArray := prog_1_method_6_code
def yX4_turn : MethodName := ⟨RX4, "turn", "(II)Z"⟩
abbrev cX4_run : ByteArray := prog_1_method_7_code
def yX4_run : MethodName := ⟨RX4, "run", "()I"⟩
abbrev cX4_faults : ByteArray := prog_1_method_8_code
def yX4_faults : MethodName := ⟨RX4, "faults", "(III)I"⟩
abbrev cX4_tear : ByteArray := prog_1_method_9_code
def yX4_tear : MethodName := ⟨RX4, "tear", "(III)I"⟩
abbrev cX4_sheet : ByteArray := prog_1_method_10_code
def yX4_sheet : MethodName := ⟨RX4, "sheet", "(II)I"⟩
abbrev cX4_pin : ByteArray := prog_1_method_11_code
def yX4_pin : MethodName := ⟨RX4, "pin", "(II)I"⟩
abbrev cX4_count : ByteArray := prog_1_method_12_code
def yX4_count : MethodName := ⟨RX4, "count", "(I)I"⟩
abbrev cX4_foresee : ByteArray := prog_1_method_13_code
def yX4_foresee : MethodName := ⟨RX4, "foresee", "(II)I"⟩
abbrev cX4_advise : ByteArray := prog_1_method_14_code
def yX4_advise : MethodName := ⟨RX4, "advise", "(I)I"⟩
abbrev cX4_like : ByteArray := prog_1_method_15_code
def yX4_like : MethodName := ⟨RX4, "like", "(I)I"⟩
abbrev cX4_share : ByteArray := prog_1_method_16_code
def yX4_share : MethodName := ⟨RX4, "share", "()D"⟩
abbrev cX4_digest : ByteArray := prog_1_method_17_code
def yX4_digest : MethodName := ⟨RX4, "digest", "()J"⟩
abbrev cX4_isWithin : ByteArray := prog_1_method_18_code
def yX4_isWithin : MethodName := ⟨RX4, "isWithin", "(III)Z"⟩
abbrev cX4_checkPin : ByteArray := prog_1_method_19_code
def yX4_checkPin : MethodName := ⟨RX4, "checkPin", "(I)V"⟩
abbrev cX4_checkPlace : ByteArray := prog_1_method_20_code
def yX4_checkPlace : MethodName := ⟨RX4, "checkPlace", "(II)V"⟩
abbrev cX4_checkSheet : ByteArray := prog_1_method_21_code
def yX4_checkSheet : MethodName := ⟨RX4, "checkSheet", "(I)V"⟩
abbrev cX4_checkWhat : ByteArray := prog_1_method_22_code
def yX4_checkWhat : MethodName := ⟨RX4, "checkWhat", "(II)V"⟩
abbrev cX4_checkSheetsToRun : ByteArray := prog_1_method_23_code
def yX4_checkSheetsToRun : MethodName := ⟨RX4, "checkSheetsToRun", "(I)V"⟩
abbrev cX4_countAnswer : ByteArray := prog_1_method_24_code
def yX4_countAnswer : MethodName := ⟨RX4, "countAnswer", "(I)I"⟩
abbrev cX4_invertedPlaces : ByteArray := prog_1_method_25_code
def yX4_invertedPlaces : MethodName := ⟨RX4, "invertedPlaces", "()I"⟩
abbrev cX4_worthOfSheets : ByteArray := prog_1_method_26_code
def yX4_worthOfSheets : MethodName := ⟨RX4, "worthOfSheets", "()I"⟩
abbrev cX4_stampsWith : ByteArray := prog_1_method_27_code
def yX4_stampsWith : MethodName := ⟨RX4, "stampsWith", "(I)I"⟩
def RX5 : String := "StampSheetsModel"
def TX5 : u_T := fun k => match k with
  | 0 => ("StampSheetsModel", "thrown", "I", false)
  | 1 => ("StampSheetsModel", "sheets", "I", false)
  | 2 => ("StampSheetsModel", "stamps", "[I", true)
  | 3 => ("StampSheetsModel", "machine", "[I", true)
  | 4 => ("StampSheetsModel", "strength", "[I", true)
  | 5 => ("StampSheetsModel", "wear", "[I", true)
  | 6 => ("StampSheetsModel", "plate", "[Z", true)
  | _ => ("StampSheetsModel", "sheet", "[I", true)
def tyX5 : Nat → FieldType := fun k => match k with
  | 0 => .int
  | 1 => .int
  | 2 => .array .int
  | 3 => .array .int
  | 4 => .array .int
  | 5 => .array .int
  | 6 => .array .boolean
  | _ => .array .int
abbrev wsX50 : List Cond := u_ws RX5 TX5 8
theorem nmX5 : ∀ a, a < 8 → ∀ b, b < 8 → a ≠ b → (TX5 a).2.1 ≠ (TX5 b).2.1 := by decide +kernel
theorem tyX5_ok : ∀ k, k < 8 → parseFieldDescriptor (TX5 k).2.2.1 = some (tyX5 k) := by decide +kernel
abbrev cX5_init : ByteArray := prog_7_method_1_code
def yX5_init : MethodName := ⟨RX5, "<init>", "()V"⟩
abbrev cX5_thrown : ByteArray := prog_7_method_2_code
def yX5_thrown : MethodName := ⟨RX5, "thrown", "()I"⟩
abbrev cX5_fail : ByteArray := prog_7_method_3_code
def yX5_fail : MethodName := ⟨RX5, "fail", "(I)I"⟩
abbrev cX5_isIn : ByteArray := prog_7_method_4_code
def yX5_isIn : MethodName := ⟨RX5, "isIn", "(III)Z"⟩
abbrev cX5_isSheet : ByteArray := prog_7_method_5_code
def yX5_isSheet : MethodName := ⟨RX5, "isSheet", "(I)Z"⟩
abbrev cX5_isPlace : ByteArray := prog_7_method_6_code
def yX5_isPlace : MethodName := ⟨RX5, "isPlace", "(II)Z"⟩
abbrev cX5_isWhole : ByteArray := prog_7_method_7_code
def yX5_isWhole : MethodName := ⟨RX5, "isWhole", "(I)Z"⟩
abbrev cX5_setFeed : ByteArray := prog_7_method_8_code
def yX5_setFeed : MethodName := ⟨RX5, "setFeed", "(II)I"⟩
abbrev cX5_align : ByteArray := prog_7_method_9_code
def yX5_align : MethodName := ⟨RX5, "align", "()I"⟩
abbrev cX5_roll : ByteArray := prog_7_method_10_code
def yX5_roll : MethodName := ⟨RX5, "roll", "(II)I"⟩
abbrev cX5_fit : ByteArray := prog_7_method_11_code
def yX5_fit : MethodName := ⟨RX5, "fit", "(II)I"⟩
abbrev cX5_turn : ByteArray := prog_7_method_12_code
def yX5_turn : MethodName := ⟨RX5, "turn", "(II)Z"⟩
abbrev cX5_runRow : ByteArray := prog_7_method_13_code
def yX5_runRow : MethodName := ⟨RX5, "runRow", "(I)V"⟩
abbrev cX5_runSheet : ByteArray := prog_7_method_14_code
def yX5_runSheet : MethodName := ⟨RX5, "runSheet", "()V"⟩
abbrev cX5_run : ByteArray := prog_7_method_15_code
def yX5_run : MethodName := ⟨RX5, "run", "()I"⟩
abbrev cX5_faults : ByteArray := prog_7_method_16_code
def yX5_faults : MethodName := ⟨RX5, "faults", "(III)I"⟩
abbrev cX5_worth : ByteArray := prog_7_method_17_code
def yX5_worth : MethodName := ⟨RX5, "worth", "(I)I"⟩
abbrev cX5_tear : ByteArray := prog_7_method_18_code
def yX5_tear : MethodName := ⟨RX5, "tear", "(III)I"⟩
abbrev cX5_pairs : ByteArray := prog_7_method_19_code
def yX5_pairs : MethodName := ⟨RX5, "pairs", "(I)I"⟩
abbrev cX5_isClean : ByteArray := prog_7_method_20_code
def yX5_isClean : MethodName := ⟨RX5, "isClean", "(IIIII)Z"⟩
abbrev cX5_block : ByteArray := prog_7_method_21_code
def yX5_block : MethodName := ⟨RX5, "block", "(I)I"⟩
abbrev cX5_sheetTold : ByteArray := prog_7_method_22_code
def yX5_sheetTold : MethodName := ⟨RX5, "sheetTold", "(II)I"⟩
abbrev cX5_sheet : ByteArray := prog_7_method_23_code
def yX5_sheet : MethodName := ⟨RX5, "sheet", "(II)I"⟩
abbrev cX5_pinTold : ByteArray := prog_7_method_24_code
def yX5_pinTold : MethodName := ⟨RX5, "pinTold", "(II)I"⟩
abbrev cX5_pin : ByteArray := prog_7_method_25_code
def yX5_pin : MethodName := ⟨RX5, "pin", "(II)I"⟩
abbrev cX5_broken : ByteArray := prog_7_method_26_code
def yX5_broken : MethodName := ⟨RX5, "broken", "()I"⟩
abbrev cX5_counted : ByteArray := prog_7_method_27_code
def yX5_counted : MethodName := ⟨RX5, "counted", "(I)I"⟩
abbrev cX5_count : ByteArray := prog_7_method_28_code
def yX5_count : MethodName := ⟨RX5, "count", "(I)I"⟩
abbrev cX5_wouldRun : ByteArray := prog_7_method_29_code
def yX5_wouldRun : MethodName := ⟨RX5, "wouldRun", "(IZ)I"⟩
abbrev cX5_kept : ByteArray := prog_7_method_30_code
def yX5_kept : MethodName := ⟨RX5, "kept", "()[[I"⟩
abbrev cX5_bringBack : ByteArray := prog_7_method_31_code
def yX5_bringBack : MethodName := ⟨RX5, "bringBack", "([[I)V"⟩
abbrev cX5_foresee : ByteArray := prog_7_method_32_code
def yX5_foresee : MethodName := ⟨RX5, "foresee", "(II)I"⟩
abbrev cX5_advise : ByteArray := prog_7_method_33_code
def yX5_advise : MethodName := ⟨RX5, "advise", "(I)I"⟩
abbrev cX5_like : ByteArray := prog_7_method_34_code
def yX5_like : MethodName := ⟨RX5, "like", "(I)I"⟩
abbrev cX5_share : ByteArray := prog_7_method_35_code
def yX5_share : MethodName := ⟨RX5, "share", "()D"⟩
abbrev cX5_digest : ByteArray := prog_7_method_36_code
def yX5_digest : MethodName := ⟨RX5, "digest", "()J"⟩
def RJx8e188 : String := "java/lang/Cloneable"
def TJx8e188 : u_T := fun k => match k with
  | _ => ("", "", "", false)
def tyJx8e188 : Nat → FieldType := fun k => match k with
  | _ => .int
abbrev wsJx8e1880 : List Cond := u_ws RJx8e188 TJx8e188 0
theorem nmJx8e188 : ∀ a, a < 0 → ∀ b, b < 0 → a ≠ b → (TJx8e188 a).2.1 ≠ (TJx8e188 b).2.1 := by decide +kernel
theorem tyJx8e188_ok : ∀ k, k < 0 → parseFieldDescriptor (TJx8e188 k).2.2.1 = some (tyJx8e188 k) := by decide +kernel
def RJ9 : String := "java/lang/Math"
def TJ9 : u_T := fun k => match k with
  | _ => ("", "", "", false)
def tyJ9 : Nat → FieldType := fun k => match k with
  | _ => .int
abbrev wsJ90 : List Cond := u_ws RJ9 TJ9 0
theorem nmJ9 : ∀ a, a < 0 → ∀ b, b < 0 → a ≠ b → (TJ9 a).2.1 ≠ (TJ9 b).2.1 := by decide +kernel
theorem tyJ9_ok : ∀ k, k < 0 → parseFieldDescriptor (TJ9 k).2.2.1 = some (tyJ9 k) := by decide +kernel
abbrev cJ9_max_7cf53 : ByteArray := prog_13_method_65_code
def yJ9_max_7cf53 : MethodName := ⟨RJ9, "max", "(II)I"⟩
abbrev cJ9_min_7cf53 : ByteArray := prog_13_method_69_code
def yJ9_min_7cf53 : MethodName := ⟨RJ9, "min", "(II)I"⟩
def RJ0 : String := "java/lang/String"
def TJ0 : u_T := fun k => match k with
  | _ => ("", "", "", false)
def tyJ0 : Nat → FieldType := fun k => match k with
  | _ => .int
abbrev wsJ00 : List Cond := u_ws RJ0 TJ0 0
theorem nmJ0 : ∀ a, a < 0 → ∀ b, b < 0 → a ≠ b → (TJ0 a).2.1 ≠ (TJ0 b).2.1 := by decide +kernel
theorem tyJ0_ok : ∀ k, k < 0 → parseFieldDescriptor (TJ0 k).2.2.1 = some (tyJ0 k) := by decide +kernel
def RJ10 : String := "java/lang/System"
def TJ10 : u_T := fun k => match k with
  | _ => ("", "", "", false)
def tyJ10 : Nat → FieldType := fun k => match k with
  | _ => .int
abbrev wsJ100 : List Cond := u_ws RJ10 TJ10 0
theorem nmJ10 : ∀ a, a < 0 → ∀ b, b < 0 → a ≠ b → (TJ10 a).2.1 ≠ (TJ10 b).2.1 := by decide +kernel
theorem tyJ10_ok : ∀ k, k < 0 → parseFieldDescriptor (TJ10 k).2.2.1 = some (tyJ10 k) := by decide +kernel
def RL : String := "StampSheetsLaw"
abbrev cL_setFeed : ByteArray := method_3_code
def yL_setFeed : MethodName := ⟨RL, "setFeed", "(LStampSheets;II[J)I"⟩
abbrev cL_roll : ByteArray := method_4_code
def yL_roll : MethodName := ⟨RL, "roll", "(LStampSheets;II[J)I"⟩
abbrev cL_fit : ByteArray := method_5_code
def yL_fit : MethodName := ⟨RL, "fit", "(LStampSheets;II[J)I"⟩
abbrev cL_turn : ByteArray := method_6_code
def yL_turn : MethodName := ⟨RL, "turn", "(LStampSheets;II[J)I"⟩
abbrev cL_run : ByteArray := method_7_code
def yL_run : MethodName := ⟨RL, "run", "(LStampSheets;[J)I"⟩
abbrev cL_faults : ByteArray := method_8_code
def yL_faults : MethodName := ⟨RL, "faults", "(LStampSheets;III[J)I"⟩
abbrev cL_tear : ByteArray := method_9_code
def yL_tear : MethodName := ⟨RL, "tear", "(LStampSheets;III[J)I"⟩
abbrev cL_sheet : ByteArray := method_10_code
def yL_sheet : MethodName := ⟨RL, "sheet", "(LStampSheets;II[J)I"⟩
abbrev cL_pin : ByteArray := method_11_code
def yL_pin : MethodName := ⟨RL, "pin", "(LStampSheets;II[J)I"⟩
abbrev cL_count : ByteArray := method_12_code
def yL_count : MethodName := ⟨RL, "count", "(LStampSheets;I[J)I"⟩
abbrev cL_foresee : ByteArray := method_13_code
def yL_foresee : MethodName := ⟨RL, "foresee", "(LStampSheets;II[J)I"⟩
abbrev cL_advise : ByteArray := method_14_code
def yL_advise : MethodName := ⟨RL, "advise", "(LStampSheets;I[J)I"⟩
abbrev cL_like : ByteArray := method_15_code
def yL_like : MethodName := ⟨RL, "like", "(LStampSheets;I[J)I"⟩
abbrev cL_law : ByteArray := code
def yL_law : MethodName := ⟨RL, "law", "([I)Z"⟩
def wsX1_init : List Cond := .code yX1_init cX1_init 1 none :: ([.methodLink RX1 3 objectInit, .instanceMethod objectInit, .code objectInit ⟨#[0xb1]⟩ 1 none, .fieldLink RX1 9 "StampSheets$Pin" "strength" "I"] ++ wsX10)
def wsX0_init : List Cond := .code yX0_init cX0_init 2 none :: ([.methodLink RX0 3 objectInit, .instanceMethod objectInit, .code objectInit ⟨#[0xb1]⟩ 1 none, .fieldLink RX0 9 "StampSheets$Machine" "feed" "I", .fieldLink RX0 15 "StampSheets$Machine" "step" "I", .classLink RX0 18 RX1, .fieldLink RX0 20 "StampSheets$Machine" "pins" "[LStampSheets$Pin;", .instantiable RX1 2, .initialized RX1, .instanceMethod yX1_init, .code yX1_init cX1_init 1 none, .methodLink RX1 3 objectInit, .fieldLink RX1 9 "StampSheets$Pin" "strength" "I"] ++ wsX00 ++ wsX10)
def wsX1_becomeLike : List Cond := .code yX1_becomeLike cX1_becomeLike 2 none :: ([.fieldLink RX1 9 "StampSheets$Pin" "strength" "I", .fieldLink RX1 15 "StampSheets$Pin" "wear" "I"] ++ wsX10)
def wsX0_becomeLike : List Cond := .code yX0_becomeLike cX0_becomeLike 3 none :: ([.fieldLink RX0 20 "StampSheets$Machine" "pins" "[LStampSheets$Pin;", .fieldLink RX0 9 "StampSheets$Machine" "feed" "I", .fieldLink RX0 29 "StampSheets$Machine" "drift" "I", .fieldLink RX0 32 "StampSheets$Machine" "error" "I", .fieldLink RX0 35 "StampSheets$Machine" "rowsLeft" "I", .fieldLink RX0 38 "StampSheets$Machine" "rowsRun" "I", .fieldLink RX0 15 "StampSheets$Machine" "step" "I", .methodLink RX0 25 yX1_becomeLike, .instanceMethod yX1_becomeLike, .selects RX1 yX1_becomeLike yX1_becomeLike, .initialized RX1, .code yX1_becomeLike cX1_becomeLike 2 none, .fieldLink RX1 9 "StampSheets$Pin" "strength" "I", .fieldLink RX1 15 "StampSheets$Pin" "wear" "I"] ++ wsX00 ++ wsX10)
def wsX4_isWithin : List Cond := .code yX4_isWithin cX4_isWithin 3 (some .boolean) :: ([])
def wsX1_isWhole : List Cond := .code yX1_isWhole cX1_isWhole 1 (some .boolean) :: ([.fieldLink RX1 15 "StampSheets$Pin" "wear" "I", .fieldLink RX1 9 "StampSheets$Pin" "strength" "I"] ++ wsX10)
def wsX0_holeFaults : List Cond := .code yX0_holeFaults cX0_holeFaults 3 (some .int) :: ([.fieldLink RX0 20 "StampSheets$Machine" "pins" "[LStampSheets$Pin;", .methodLink RX0 75 yX1_isWhole, .instanceMethod yX1_isWhole, .selects RX1 yX1_isWhole yX1_isWhole, .initialized RX1, .code yX1_isWhole cX1_isWhole 1 (some .boolean), .fieldLink RX1 15 "StampSheets$Pin" "wear" "I", .fieldLink RX1 9 "StampSheets$Pin" "strength" "I"] ++ wsX00 ++ wsX10)
def wsX0_hasWatermark : List Cond := .code yX0_hasWatermark cX0_hasWatermark 2 (some .boolean) :: ([.fieldLink RX0 15 "StampSheets$Machine" "step" "I", .fieldLink RX0 38 "StampSheets$Machine" "rowsRun" "I"] ++ wsX00)
def wsX0_markRow : List Cond := .code yX0_markRow cX0_markRow 8 none :: ([.fieldLink RX0 32 "StampSheets$Machine" "error" "I", .static yX4_isWithin, .initialized RX4, .code yX4_isWithin cX4_isWithin 3 (some .boolean), .methodLink RX0 61 yX0_holeFaults, .instanceMethod yX0_holeFaults, .selects RX0 yX0_holeFaults yX0_holeFaults, .initialized RX0, .code yX0_holeFaults cX0_holeFaults 3 (some .int), .fieldLink RX0 20 "StampSheets$Machine" "pins" "[LStampSheets$Pin;", .methodLink RX0 75 yX1_isWhole, .instanceMethod yX1_isWhole, .selects RX1 yX1_isWhole yX1_isWhole, .initialized RX1, .code yX1_isWhole cX1_isWhole 1 (some .boolean), .fieldLink RX1 15 "StampSheets$Pin" "wear" "I", .fieldLink RX1 9 "StampSheets$Pin" "strength" "I", .methodLink RX0 65 yX0_hasWatermark, .instanceMethod yX0_hasWatermark, .selects RX0 yX0_hasWatermark yX0_hasWatermark, .code yX0_hasWatermark cX0_hasWatermark 2 (some .boolean), .fieldLink RX0 15 "StampSheets$Machine" "step" "I", .fieldLink RX0 38 "StampSheets$Machine" "rowsRun" "I"] ++ wsX00 ++ wsX20 ++ wsX10)
def wsX1_strike : List Cond := .code yX1_strike cX1_strike 1 none :: ([.fieldLink RX1 15 "StampSheets$Pin" "wear" "I", .methodLink RX1 18 yX1_isWhole, .instanceMethod yX1_isWhole, .selects RX1 yX1_isWhole yX1_isWhole, .initialized RX1, .code yX1_isWhole cX1_isWhole 1 (some .boolean), .fieldLink RX1 9 "StampSheets$Pin" "strength" "I"] ++ wsX10)
def wsX0_strikeAll : List Cond := .code yX0_strikeAll cX0_strikeAll 2 none :: ([.fieldLink RX0 20 "StampSheets$Machine" "pins" "[LStampSheets$Pin;", .methodLink RX0 79 yX1_strike, .instanceMethod yX1_strike, .selects RX1 yX1_strike yX1_strike, .initialized RX1, .code yX1_strike cX1_strike 1 none, .fieldLink RX1 15 "StampSheets$Pin" "wear" "I", .methodLink RX1 18 yX1_isWhole, .instanceMethod yX1_isWhole, .selects RX1 yX1_isWhole yX1_isWhole, .code yX1_isWhole cX1_isWhole 1 (some .boolean), .fieldLink RX1 9 "StampSheets$Pin" "strength" "I"] ++ wsX00 ++ wsX10)
def wsX0_perforate_r1 : List Cond := [Cond.fieldLink RX0 32 "StampSheets$Machine" "error" "I", Cond.fieldLink RX0 9 "StampSheets$Machine" "feed" "I", Cond.fieldLink RX0 35 "StampSheets$Machine" "rowsLeft" "I", Cond.fieldLink RX0 38 "StampSheets$Machine" "rowsRun" "I", Cond.fieldLink RX0 29 "StampSheets$Machine" "drift" "I", Cond.methodLink RX0 48 Lib.Math.min.name, Cond.static Lib.Math.min.name, Cond.initialized "java/lang/Math", Cond.code Lib.Math.min.name Lib.Math.min.code 2 (some .int), Cond.methodLink RX0 54 Lib.Math.max.name, Cond.static Lib.Math.max.name, Cond.code Lib.Math.max.name Lib.Math.max.code 2 (some .int), Cond.methodLink RX0 41 yX0_markRow, Cond.instanceMethod yX0_markRow, Cond.selects RX0 yX0_markRow yX0_markRow, Cond.initialized RX0, Cond.code yX0_markRow cX0_markRow 8 none, Cond.static yX4_isWithin, Cond.initialized RX4, Cond.code yX4_isWithin cX4_isWithin 3 (some .boolean), Cond.methodLink RX0 61 yX0_holeFaults, Cond.instanceMethod yX0_holeFaults, Cond.selects RX0 yX0_holeFaults yX0_holeFaults, Cond.code yX0_holeFaults cX0_holeFaults 3 (some .int)]
def wsX0_perforate_r2 : List Cond := [Cond.fieldLink RX0 20 "StampSheets$Machine" "pins" "[LStampSheets$Pin;", Cond.methodLink RX0 75 yX1_isWhole, Cond.instanceMethod yX1_isWhole, Cond.selects RX1 yX1_isWhole yX1_isWhole, Cond.initialized RX1, Cond.code yX1_isWhole cX1_isWhole 1 (some .boolean), Cond.fieldLink RX1 15 "StampSheets$Pin" "wear" "I", Cond.fieldLink RX1 9 "StampSheets$Pin" "strength" "I", Cond.methodLink RX0 65 yX0_hasWatermark, Cond.instanceMethod yX0_hasWatermark, Cond.selects RX0 yX0_hasWatermark yX0_hasWatermark, Cond.code yX0_hasWatermark cX0_hasWatermark 2 (some .boolean), Cond.fieldLink RX0 15 "StampSheets$Machine" "step" "I", Cond.methodLink RX0 45 yX0_strikeAll, Cond.instanceMethod yX0_strikeAll, Cond.selects RX0 yX0_strikeAll yX0_strikeAll, Cond.code yX0_strikeAll cX0_strikeAll 2 none, Cond.methodLink RX0 79 yX1_strike, Cond.instanceMethod yX1_strike, Cond.selects RX1 yX1_strike yX1_strike, Cond.code yX1_strike cX1_strike 1 none, Cond.methodLink RX1 18 yX1_isWhole]
def wsX0_perforate : List Cond := .code yX0_perforate cX0_perforate 4 none :: ((wsX0_perforate_r1 ++ wsX0_perforate_r2) ++ wsX00 ++ wsX20 ++ wsX10)
def wsX0_brokenPins : List Cond := .code yX0_brokenPins cX0_brokenPins 3 (some .int) :: ([.fieldLink RX0 20 "StampSheets$Machine" "pins" "[LStampSheets$Pin;", .methodLink RX0 75 yX1_isWhole, .instanceMethod yX1_isWhole, .selects RX1 yX1_isWhole yX1_isWhole, .initialized RX1, .code yX1_isWhole cX1_isWhole 1 (some .boolean), .fieldLink RX1 15 "StampSheets$Pin" "wear" "I", .fieldLink RX1 9 "StampSheets$Pin" "strength" "I"] ++ wsX00 ++ wsX10)
def wsX1_answer : List Cond := .code yX1_answer cX1_answer 2 (some .int) :: ([.fieldLink RX1 9 "StampSheets$Pin" "strength" "I", .fieldLink RX1 15 "StampSheets$Pin" "wear" "I", .methodLink RX1 18 yX1_isWhole, .instanceMethod yX1_isWhole, .selects RX1 yX1_isWhole yX1_isWhole, .initialized RX1, .code yX1_isWhole cX1_isWhole 1 (some .boolean)] ++ wsX10)
def wsX2_init : List Cond := .code yX2_init cX2_init 1 none :: ([.methodLink RX2 3 objectInit, .instanceMethod objectInit, .code objectInit ⟨#[0xb1]⟩ 1 none, .arrayClass .int, .fieldLink RX2 9 "StampSheets$Sheet" "faultSets" "[I", .arrayClass .boolean, .fieldLink RX2 15 "StampSheets$Sheet" "tornOff" "[Z"] ++ wsX20)
def wsX2_left : List Cond := .code yX2_left cX2_left 3 (some .int) :: ([.fieldLink RX2 15 "StampSheets$Sheet" "tornOff" "[Z"] ++ wsX20)
def wsX2_isLeftWith : List Cond := .code yX2_isLeftWith cX2_isLeftWith 3 (some .boolean) :: ([.fieldLink RX2 15 "StampSheets$Sheet" "tornOff" "[Z", .fieldLink RX2 9 "StampSheets$Sheet" "faultSets" "[I"] ++ wsX20)
def wsX2_leftWith : List Cond := .code yX2_leftWith cX2_leftWith 4 (some .int) :: ([.methodLink RX2 42 yX2_isLeftWith, .instanceMethod yX2_isLeftWith, .selects RX2 yX2_isLeftWith yX2_isLeftWith, .initialized RX2, .code yX2_isLeftWith cX2_isLeftWith 3 (some .boolean), .fieldLink RX2 15 "StampSheets$Sheet" "tornOff" "[Z", .fieldLink RX2 9 "StampSheets$Sheet" "faultSets" "[I"] ++ wsX20)
def wsX2_worthOf : List Cond := .code yX2_worthOf cX2_worthOf 4 (some .int) :: ([.fieldLink RX2 9 "StampSheets$Sheet" "faultSets" "[I", .fieldLink RX2 15 "StampSheets$Sheet" "tornOff" "[Z"] ++ wsX20)
def wsX2_worth : List Cond := .code yX2_worth cX2_worth 3 (some .int) :: ([.methodLink RX2 39 yX2_worthOf, .instanceMethod yX2_worthOf, .selects RX2 yX2_worthOf yX2_worthOf, .initialized RX2, .code yX2_worthOf cX2_worthOf 4 (some .int), .fieldLink RX2 9 "StampSheets$Sheet" "faultSets" "[I", .fieldLink RX2 15 "StampSheets$Sheet" "tornOff" "[Z"] ++ wsX20)
def wsX2_isInvertedPair : List Cond := .code yX2_isInvertedPair cX2_isInvertedPair 3 (some .boolean) :: ([.fieldLink RX2 15 "StampSheets$Sheet" "tornOff" "[Z", .fieldLink RX2 9 "StampSheets$Sheet" "faultSets" "[I"] ++ wsX20)
def wsX2_invertedPairs : List Cond := .code yX2_invertedPairs cX2_invertedPairs 4 (some .int) :: ([.methodLink RX2 46 yX2_isInvertedPair, .instanceMethod yX2_isInvertedPair, .selects RX2 yX2_isInvertedPair yX2_isInvertedPair, .initialized RX2, .code yX2_isInvertedPair cX2_isInvertedPair 3 (some .boolean), .fieldLink RX2 15 "StampSheets$Sheet" "tornOff" "[Z", .fieldLink RX2 9 "StampSheets$Sheet" "faultSets" "[I"] ++ wsX20)
def wsX2_rowsOff : List Cond := .code yX2_rowsOff cX2_rowsOff 3 (some .int) :: ([.fieldLink RX2 9 "StampSheets$Sheet" "faultSets" "[I"] ++ wsX20)
def wsX2_goodColumns : List Cond := .code yX2_goodColumns cX2_goodColumns 4 (some .int) :: ([.methodLink RX2 42 yX2_isLeftWith, .instanceMethod yX2_isLeftWith, .selects RX2 yX2_isLeftWith yX2_isLeftWith, .initialized RX2, .code yX2_isLeftWith cX2_isLeftWith 3 (some .boolean), .fieldLink RX2 15 "StampSheets$Sheet" "tornOff" "[Z", .fieldLink RX2 9 "StampSheets$Sheet" "faultSets" "[I"] ++ wsX20)
def wsX2_longestRun : List Cond := .code yX2_longestRun cX2_longestRun 4 (some .int) :: ([.methodLink RX2 56 Lib.Math.max.name, .static Lib.Math.max.name, .initialized "java/lang/Math", .code Lib.Math.max.name Lib.Math.max.code 2 (some .int)])
def wsX2_greatestBlock : List Cond := .code yX2_greatestBlock cX2_greatestBlock 5 (some .int) :: ([.methodLink RX2 56 Lib.Math.max.name, .static Lib.Math.max.name, .initialized "java/lang/Math", .code Lib.Math.max.name Lib.Math.max.code 2 (some .int), .methodLink RX2 50 yX2_goodColumns, .instanceMethod yX2_goodColumns, .selects RX2 yX2_goodColumns yX2_goodColumns, .initialized RX2, .code yX2_goodColumns cX2_goodColumns 4 (some .int), .methodLink RX2 42 yX2_isLeftWith, .instanceMethod yX2_isLeftWith, .selects RX2 yX2_isLeftWith yX2_isLeftWith, .code yX2_isLeftWith cX2_isLeftWith 3 (some .boolean), .fieldLink RX2 15 "StampSheets$Sheet" "tornOff" "[Z", .fieldLink RX2 9 "StampSheets$Sheet" "faultSets" "[I", .methodLink RX2 53 yX2_longestRun, .static yX2_longestRun, .code yX2_longestRun cX2_longestRun 4 (some .int)] ++ wsX20)
def wsX2_answer_r1 : List Cond := [Cond.methodLink RX2 19 yX2_left, Cond.instanceMethod yX2_left, Cond.selects RX2 yX2_left yX2_left, Cond.initialized RX2, Cond.code yX2_left cX2_left 3 (some .int), Cond.fieldLink RX2 15 "StampSheets$Sheet" "tornOff" "[Z", Cond.methodLink RX2 23 yX2_leftWith, Cond.instanceMethod yX2_leftWith, Cond.selects RX2 yX2_leftWith yX2_leftWith, Cond.code yX2_leftWith cX2_leftWith 4 (some .int), Cond.methodLink RX2 42 yX2_isLeftWith, Cond.instanceMethod yX2_isLeftWith, Cond.selects RX2 yX2_isLeftWith yX2_isLeftWith, Cond.code yX2_isLeftWith cX2_isLeftWith 3 (some .boolean), Cond.fieldLink RX2 9 "StampSheets$Sheet" "faultSets" "[I", Cond.methodLink RX2 27 yX2_worth, Cond.instanceMethod yX2_worth, Cond.selects RX2 yX2_worth yX2_worth, Cond.code yX2_worth cX2_worth 3 (some .int), Cond.methodLink RX2 39 yX2_worthOf, Cond.instanceMethod yX2_worthOf, Cond.selects RX2 yX2_worthOf yX2_worthOf, Cond.code yX2_worthOf cX2_worthOf 4 (some .int), Cond.methodLink RX2 30 yX2_invertedPairs]
def wsX2_answer_r2 : List Cond := [Cond.instanceMethod yX2_invertedPairs, Cond.selects RX2 yX2_invertedPairs yX2_invertedPairs, Cond.code yX2_invertedPairs cX2_invertedPairs 4 (some .int), Cond.methodLink RX2 46 yX2_isInvertedPair, Cond.instanceMethod yX2_isInvertedPair, Cond.selects RX2 yX2_isInvertedPair yX2_isInvertedPair, Cond.code yX2_isInvertedPair cX2_isInvertedPair 3 (some .boolean), Cond.methodLink RX2 33 yX2_rowsOff, Cond.instanceMethod yX2_rowsOff, Cond.selects RX2 yX2_rowsOff yX2_rowsOff, Cond.code yX2_rowsOff cX2_rowsOff 3 (some .int), Cond.methodLink RX2 36 yX2_greatestBlock, Cond.instanceMethod yX2_greatestBlock, Cond.selects RX2 yX2_greatestBlock yX2_greatestBlock, Cond.code yX2_greatestBlock cX2_greatestBlock 5 (some .int), Cond.methodLink RX2 56 Lib.Math.max.name, Cond.static Lib.Math.max.name, Cond.initialized "java/lang/Math", Cond.code Lib.Math.max.name Lib.Math.max.code 2 (some .int), Cond.methodLink RX2 50 yX2_goodColumns, Cond.instanceMethod yX2_goodColumns, Cond.selects RX2 yX2_goodColumns yX2_goodColumns, Cond.code yX2_goodColumns cX2_goodColumns 4 (some .int), Cond.methodLink RX2 53 yX2_longestRun]
def wsX2_answer_r3 : List Cond := [Cond.static yX2_longestRun, Cond.code yX2_longestRun cX2_longestRun 4 (some .int)]
def wsX2_answer : List Cond := .code yX2_answer cX2_answer 2 (some .int) :: ((wsX2_answer_r1 ++ (wsX2_answer_r2 ++ wsX2_answer_r3)) ++ wsX20)
def wsX2_addToDigest_r1 : List Cond := [Cond.constantLong RX2 62 (31), Cond.fieldLink RX2 9 "StampSheets$Sheet" "faultSets" "[I", Cond.methodLink RX2 64 yX2_answer, Cond.instanceMethod yX2_answer, Cond.selects RX2 yX2_answer yX2_answer, Cond.initialized RX2, Cond.code yX2_answer cX2_answer 2 (some .int), Cond.methodLink RX2 19 yX2_left, Cond.instanceMethod yX2_left, Cond.selects RX2 yX2_left yX2_left, Cond.code yX2_left cX2_left 3 (some .int), Cond.fieldLink RX2 15 "StampSheets$Sheet" "tornOff" "[Z", Cond.methodLink RX2 23 yX2_leftWith, Cond.instanceMethod yX2_leftWith, Cond.selects RX2 yX2_leftWith yX2_leftWith, Cond.code yX2_leftWith cX2_leftWith 4 (some .int), Cond.methodLink RX2 42 yX2_isLeftWith, Cond.instanceMethod yX2_isLeftWith, Cond.selects RX2 yX2_isLeftWith yX2_isLeftWith, Cond.code yX2_isLeftWith cX2_isLeftWith 3 (some .boolean), Cond.methodLink RX2 27 yX2_worth, Cond.instanceMethod yX2_worth, Cond.selects RX2 yX2_worth yX2_worth, Cond.code yX2_worth cX2_worth 3 (some .int)]
def wsX2_addToDigest_r2 : List Cond := [Cond.methodLink RX2 39 yX2_worthOf, Cond.instanceMethod yX2_worthOf, Cond.selects RX2 yX2_worthOf yX2_worthOf, Cond.code yX2_worthOf cX2_worthOf 4 (some .int), Cond.methodLink RX2 30 yX2_invertedPairs, Cond.instanceMethod yX2_invertedPairs, Cond.selects RX2 yX2_invertedPairs yX2_invertedPairs, Cond.code yX2_invertedPairs cX2_invertedPairs 4 (some .int), Cond.methodLink RX2 46 yX2_isInvertedPair, Cond.instanceMethod yX2_isInvertedPair, Cond.selects RX2 yX2_isInvertedPair yX2_isInvertedPair, Cond.code yX2_isInvertedPair cX2_isInvertedPair 3 (some .boolean), Cond.methodLink RX2 33 yX2_rowsOff, Cond.instanceMethod yX2_rowsOff, Cond.selects RX2 yX2_rowsOff yX2_rowsOff, Cond.code yX2_rowsOff cX2_rowsOff 3 (some .int), Cond.methodLink RX2 36 yX2_greatestBlock, Cond.instanceMethod yX2_greatestBlock, Cond.selects RX2 yX2_greatestBlock yX2_greatestBlock, Cond.code yX2_greatestBlock cX2_greatestBlock 5 (some .int), Cond.methodLink RX2 56 Lib.Math.max.name, Cond.static Lib.Math.max.name, Cond.initialized "java/lang/Math", Cond.code Lib.Math.max.name Lib.Math.max.code 2 (some .int)]
def wsX2_addToDigest_r3 : List Cond := [Cond.methodLink RX2 50 yX2_goodColumns, Cond.instanceMethod yX2_goodColumns, Cond.selects RX2 yX2_goodColumns yX2_goodColumns, Cond.code yX2_goodColumns cX2_goodColumns 4 (some .int), Cond.methodLink RX2 53 yX2_longestRun, Cond.static yX2_longestRun, Cond.code yX2_longestRun cX2_longestRun 4 (some .int)]
def wsX2_addToDigest : List Cond := .code yX2_addToDigest cX2_addToDigest 6 (some .long) :: ((wsX2_addToDigest_r1 ++ (wsX2_addToDigest_r2 ++ wsX2_addToDigest_r3)) ++ wsX20)
def wsX3_init_r1 : List Cond := [Cond.methodLink RX3 1 objectInit, Cond.instanceMethod objectInit, Cond.code objectInit ⟨#[0xb1]⟩ 1 none, Cond.classLink RX3 7 RX0, Cond.instantiable RX0 7, Cond.initialized RX0, Cond.fieldLink RX3 10 "StampSheets$Trial" "machine" "LStampSheets$Machine;", Cond.classLink RX3 16 RX2, Cond.instantiable RX2 2, Cond.initialized RX2, Cond.fieldLink RX3 19 "StampSheets$Trial" "sheet" "LStampSheets$Sheet;", Cond.methodLink RX3 9 yX0_init, Cond.instanceMethod yX0_init, Cond.code yX0_init cX0_init 2 none, Cond.methodLink RX0 3 objectInit, Cond.fieldLink RX0 9 "StampSheets$Machine" "feed" "I", Cond.fieldLink RX0 15 "StampSheets$Machine" "step" "I", Cond.classLink RX0 18 RX1, Cond.fieldLink RX0 20 "StampSheets$Machine" "pins" "[LStampSheets$Pin;", Cond.instantiable RX1 2, Cond.initialized RX1, Cond.instanceMethod yX1_init, Cond.code yX1_init cX1_init 1 none, Cond.methodLink RX1 3 objectInit]
def wsX3_init_r2 : List Cond := [Cond.fieldLink RX1 9 "StampSheets$Pin" "strength" "I", Cond.methodLink RX3 18 yX2_init, Cond.instanceMethod yX2_init, Cond.code yX2_init cX2_init 1 none, Cond.methodLink RX2 3 objectInit, Cond.arrayClass .int, Cond.fieldLink RX2 9 "StampSheets$Sheet" "faultSets" "[I", Cond.arrayClass .boolean, Cond.fieldLink RX2 15 "StampSheets$Sheet" "tornOff" "[Z"]
def wsX3_init : List Cond := .code yX3_init cX3_init 1 none :: ((wsX3_init_r1 ++ wsX3_init_r2) ++ wsX00 ++ wsX30 ++ wsX20 ++ wsX10)
def wsX3_perforateFrom_r1 : List Cond := [Cond.fieldLink RX3 10 "StampSheets$Trial" "machine" "LStampSheets$Machine;", Cond.fieldLink RX3 31 "StampSheets$Trial" "faultless" "I", Cond.fieldLink RX3 34 "StampSheets$Trial" "worth" "I", Cond.fieldLink RX3 19 "StampSheets$Trial" "sheet" "LStampSheets$Sheet;", Cond.methodLink RX3 23 yX0_becomeLike, Cond.instanceMethod yX0_becomeLike, Cond.selects RX0 yX0_becomeLike yX0_becomeLike, Cond.initialized RX0, Cond.code yX0_becomeLike cX0_becomeLike 3 none, Cond.fieldLink RX0 20 "StampSheets$Machine" "pins" "[LStampSheets$Pin;", Cond.fieldLink RX0 9 "StampSheets$Machine" "feed" "I", Cond.fieldLink RX0 29 "StampSheets$Machine" "drift" "I", Cond.fieldLink RX0 32 "StampSheets$Machine" "error" "I", Cond.fieldLink RX0 35 "StampSheets$Machine" "rowsLeft" "I", Cond.fieldLink RX0 38 "StampSheets$Machine" "rowsRun" "I", Cond.fieldLink RX0 15 "StampSheets$Machine" "step" "I", Cond.methodLink RX0 25 yX1_becomeLike, Cond.instanceMethod yX1_becomeLike, Cond.selects RX1 yX1_becomeLike yX1_becomeLike, Cond.initialized RX1, Cond.code yX1_becomeLike cX1_becomeLike 2 none, Cond.fieldLink RX1 9 "StampSheets$Pin" "strength" "I", Cond.fieldLink RX1 15 "StampSheets$Pin" "wear" "I", Cond.methodLink RX3 37 yX0_perforate]
def wsX3_perforateFrom_r2 : List Cond := [Cond.instanceMethod yX0_perforate, Cond.selects RX0 yX0_perforate yX0_perforate, Cond.code yX0_perforate cX0_perforate 4 none, Cond.methodLink RX0 48 Lib.Math.min.name, Cond.static Lib.Math.min.name, Cond.initialized "java/lang/Math", Cond.code Lib.Math.min.name Lib.Math.min.code 2 (some .int), Cond.methodLink RX0 54 Lib.Math.max.name, Cond.static Lib.Math.max.name, Cond.code Lib.Math.max.name Lib.Math.max.code 2 (some .int), Cond.methodLink RX0 41 yX0_markRow, Cond.instanceMethod yX0_markRow, Cond.selects RX0 yX0_markRow yX0_markRow, Cond.code yX0_markRow cX0_markRow 8 none, Cond.static yX4_isWithin, Cond.initialized RX4, Cond.code yX4_isWithin cX4_isWithin 3 (some .boolean), Cond.methodLink RX0 61 yX0_holeFaults, Cond.instanceMethod yX0_holeFaults, Cond.selects RX0 yX0_holeFaults yX0_holeFaults, Cond.code yX0_holeFaults cX0_holeFaults 3 (some .int), Cond.methodLink RX0 75 yX1_isWhole, Cond.instanceMethod yX1_isWhole, Cond.selects RX1 yX1_isWhole yX1_isWhole]
def wsX3_perforateFrom_r3 : List Cond := [Cond.code yX1_isWhole cX1_isWhole 1 (some .boolean), Cond.methodLink RX0 65 yX0_hasWatermark, Cond.instanceMethod yX0_hasWatermark, Cond.selects RX0 yX0_hasWatermark yX0_hasWatermark, Cond.code yX0_hasWatermark cX0_hasWatermark 2 (some .boolean), Cond.methodLink RX0 45 yX0_strikeAll, Cond.instanceMethod yX0_strikeAll, Cond.selects RX0 yX0_strikeAll yX0_strikeAll, Cond.code yX0_strikeAll cX0_strikeAll 2 none, Cond.methodLink RX0 79 yX1_strike, Cond.instanceMethod yX1_strike, Cond.selects RX1 yX1_strike yX1_strike, Cond.code yX1_strike cX1_strike 1 none, Cond.methodLink RX1 18 yX1_isWhole, Cond.methodLink RX3 41 yX2_leftWith, Cond.instanceMethod yX2_leftWith, Cond.selects RX2 yX2_leftWith yX2_leftWith, Cond.initialized RX2, Cond.code yX2_leftWith cX2_leftWith 4 (some .int), Cond.methodLink RX2 42 yX2_isLeftWith, Cond.instanceMethod yX2_isLeftWith, Cond.selects RX2 yX2_isLeftWith yX2_isLeftWith, Cond.code yX2_isLeftWith cX2_isLeftWith 3 (some .boolean), Cond.fieldLink RX2 15 "StampSheets$Sheet" "tornOff" "[Z"]
def wsX3_perforateFrom_r4 : List Cond := [Cond.fieldLink RX2 9 "StampSheets$Sheet" "faultSets" "[I", Cond.methodLink RX3 45 yX2_worth, Cond.instanceMethod yX2_worth, Cond.selects RX2 yX2_worth yX2_worth, Cond.code yX2_worth cX2_worth 3 (some .int), Cond.methodLink RX2 39 yX2_worthOf, Cond.instanceMethod yX2_worthOf, Cond.selects RX2 yX2_worthOf yX2_worthOf, Cond.code yX2_worthOf cX2_worthOf 4 (some .int)]
def wsX3_perforateFrom : List Cond := .code yX3_perforateFrom cX3_perforateFrom 6 none :: ((wsX3_perforateFrom_r1 ++ (wsX3_perforateFrom_r2 ++ (wsX3_perforateFrom_r3 ++ wsX3_perforateFrom_r4))) ++ wsX30 ++ wsX00 ++ wsX10 ++ wsX20)
def wsX3_answer : List Cond := .code yX3_answer cX3_answer 2 (some .int) :: ([.fieldLink RX3 31 "StampSheets$Trial" "faultless" "I", .fieldLink RX3 34 "StampSheets$Trial" "worth" "I", .fieldLink RX3 10 "StampSheets$Trial" "machine" "LStampSheets$Machine;", .methodLink RX3 48 yX0_brokenPins, .instanceMethod yX0_brokenPins, .selects RX0 yX0_brokenPins yX0_brokenPins, .initialized RX0, .code yX0_brokenPins cX0_brokenPins 3 (some .int), .fieldLink RX0 20 "StampSheets$Machine" "pins" "[LStampSheets$Pin;", .methodLink RX0 75 yX1_isWhole, .instanceMethod yX1_isWhole, .selects RX1 yX1_isWhole yX1_isWhole, .initialized RX1, .code yX1_isWhole cX1_isWhole 1 (some .boolean), .fieldLink RX1 15 "StampSheets$Pin" "wear" "I", .fieldLink RX1 9 "StampSheets$Pin" "strength" "I"] ++ wsX30 ++ wsX00 ++ wsX10)
def wsX4_init_r1 : List Cond := [Cond.methodLink RX4 3 objectInit, Cond.instanceMethod objectInit, Cond.code objectInit ⟨#[0xb1]⟩ 1 none, Cond.classLink RX4 9 RX0, Cond.instantiable RX0 7, Cond.initialized RX0, Cond.fieldLink RX4 12 "StampSheets" "machine" "LStampSheets$Machine;", Cond.classLink RX4 16 RX3, Cond.instantiable RX3 4, Cond.initialized RX3, Cond.fieldLink RX4 19 "StampSheets" "trial" "LStampSheets$Trial;", Cond.arrayClass .boolean, Cond.fieldLink RX4 23 "StampSheets" "plateInverted" "[Z", Cond.classLink RX4 27 RX2, Cond.fieldLink RX4 29 "StampSheets" "sheetStore" "[LStampSheets$Sheet;", Cond.instantiable RX2 2, Cond.initialized RX2, Cond.methodLink RX4 11 yX0_init, Cond.instanceMethod yX0_init, Cond.code yX0_init cX0_init 2 none, Cond.methodLink RX0 3 objectInit, Cond.fieldLink RX0 9 "StampSheets$Machine" "feed" "I", Cond.fieldLink RX0 15 "StampSheets$Machine" "step" "I", Cond.classLink RX0 18 RX1]
def wsX4_init_r2 : List Cond := [Cond.fieldLink RX0 20 "StampSheets$Machine" "pins" "[LStampSheets$Pin;", Cond.instantiable RX1 2, Cond.initialized RX1, Cond.instanceMethod yX1_init, Cond.code yX1_init cX1_init 1 none, Cond.methodLink RX1 3 objectInit, Cond.fieldLink RX1 9 "StampSheets$Pin" "strength" "I", Cond.methodLink RX4 18 yX3_init, Cond.instanceMethod yX3_init, Cond.code yX3_init cX3_init 1 none, Cond.methodLink RX3 1 objectInit, Cond.classLink RX3 7 RX0, Cond.fieldLink RX3 10 "StampSheets$Trial" "machine" "LStampSheets$Machine;", Cond.classLink RX3 16 RX2, Cond.fieldLink RX3 19 "StampSheets$Trial" "sheet" "LStampSheets$Sheet;", Cond.methodLink RX3 9 yX0_init, Cond.methodLink RX3 18 yX2_init, Cond.instanceMethod yX2_init, Cond.code yX2_init cX2_init 1 none, Cond.methodLink RX2 3 objectInit, Cond.arrayClass .int, Cond.fieldLink RX2 9 "StampSheets$Sheet" "faultSets" "[I", Cond.fieldLink RX2 15 "StampSheets$Sheet" "tornOff" "[Z", Cond.methodLink RX4 33 yX2_init]
def wsX4_init : List Cond := .code yX4_init cX4_init 2 none :: ((wsX4_init_r1 ++ wsX4_init_r2) ++ wsX00 ++ wsX40 ++ wsX30 ++ wsX20 ++ wsX10)
def wsX4_setFeed : List Cond := .code yX4_setFeed cX4_setFeed 4 (some .int) :: ([.classLink RX4 38 "java/lang/IllegalArgumentException", .initialized "java/lang/IllegalArgumentException", .fieldLink RX4 12 "StampSheets" "machine" "LStampSheets$Machine;", .methodLink RX4 34 yX4_isWithin, .static yX4_isWithin, .initialized RX4, .code yX4_isWithin cX4_isWithin 3 (some .boolean)] ++ wsX40 ++ wsX00 ++ (vx_atS RX4 42 "java/lang/IllegalArgumentException" ["java/lang/RuntimeException", "java/lang/Exception"]).filter goodWord)
def wsX4_align : List Cond := .code yX4_align cX4_align 2 (some .int) :: ([.fieldLink RX4 12 "StampSheets" "machine" "LStampSheets$Machine;"] ++ wsX40 ++ wsX00)
def wsX4_roll : List Cond := .code yX4_roll cX4_roll 4 (some .int) :: ([.classLink RX4 38 "java/lang/IllegalArgumentException", .initialized "java/lang/IllegalArgumentException", .fieldLink RX4 12 "StampSheets" "machine" "LStampSheets$Machine;", .methodLink RX4 34 yX4_isWithin, .static yX4_isWithin, .initialized RX4, .code yX4_isWithin cX4_isWithin 3 (some .boolean)] ++ wsX40 ++ wsX00 ++ (vx_atS RX4 42 "java/lang/IllegalArgumentException" ["java/lang/RuntimeException", "java/lang/Exception"]).filter goodWord)
def wsX4_checkPin : List Cond := .code yX4_checkPin cX4_checkPin 1 none :: ([.classLink RX4 150 "java/lang/IndexOutOfBoundsException", .initialized "java/lang/IndexOutOfBoundsException", .methodLink RX4 34 yX4_isWithin, .static yX4_isWithin, .initialized RX4, .code yX4_isWithin cX4_isWithin 3 (some .boolean)] ++ (vx_atS RX4 154 "java/lang/IndexOutOfBoundsException" ["java/lang/RuntimeException", "java/lang/Exception"]).filter goodWord)
def wsX4_fit : List Cond := .code yX4_fit cX4_fit 5 (some .int) :: ([.classLink RX4 38 "java/lang/IllegalArgumentException", .initialized "java/lang/IllegalArgumentException", .fieldLink RX4 12 "StampSheets" "machine" "LStampSheets$Machine;", .methodLink RX4 66 yX4_checkPin, .static yX4_checkPin, .initialized RX4, .code yX4_checkPin cX4_checkPin 1 none, .classLink RX4 150 "java/lang/IndexOutOfBoundsException", .initialized "java/lang/IndexOutOfBoundsException", .methodLink RX4 34 yX4_isWithin, .static yX4_isWithin, .code yX4_isWithin cX4_isWithin 3 (some .boolean)] ++ wsX40 ++ wsX00 ++ wsX10 ++ (vx_atS RX4 42 "java/lang/IllegalArgumentException" ["java/lang/RuntimeException", "java/lang/Exception"]).filter goodWord ++ (vx_atS RX4 154 "java/lang/IndexOutOfBoundsException" ["java/lang/RuntimeException", "java/lang/Exception"]).filter goodWord)
def wsX4_checkPlace : List Cond := .code yX4_checkPlace cX4_checkPlace 2 none :: ([.classLink RX4 150 "java/lang/IndexOutOfBoundsException", .initialized "java/lang/IndexOutOfBoundsException", .methodLink RX4 34 yX4_isWithin, .static yX4_isWithin, .initialized RX4, .code yX4_isWithin cX4_isWithin 3 (some .boolean)] ++ (vx_atS RX4 154 "java/lang/IndexOutOfBoundsException" ["java/lang/RuntimeException", "java/lang/Exception"]).filter goodWord)
def wsX4_turn : List Cond := .code yX4_turn cX4_turn 4 (some .boolean) :: ([.fieldLink RX4 23 "StampSheets" "plateInverted" "[Z", .methodLink RX4 84 yX4_checkPlace, .static yX4_checkPlace, .initialized RX4, .code yX4_checkPlace cX4_checkPlace 2 none, .classLink RX4 150 "java/lang/IndexOutOfBoundsException", .initialized "java/lang/IndexOutOfBoundsException", .methodLink RX4 34 yX4_isWithin, .static yX4_isWithin, .code yX4_isWithin cX4_isWithin 3 (some .boolean)] ++ wsX40 ++ (vx_atS RX4 154 "java/lang/IndexOutOfBoundsException" ["java/lang/RuntimeException", "java/lang/Exception"]).filter goodWord)
def wsX4_run_r1 : List Cond := [Cond.classLink RX4 91 "java/lang/IllegalStateException", Cond.initialized "java/lang/IllegalStateException", Cond.fieldLink RX4 88 "StampSheets" "sheetCount" "I", Cond.fieldLink RX4 12 "StampSheets" "machine" "LStampSheets$Machine;", Cond.fieldLink RX4 23 "StampSheets" "plateInverted" "[Z", Cond.fieldLink RX4 29 "StampSheets" "sheetStore" "[LStampSheets$Sheet;", Cond.methodLink RX4 96 yX0_perforate, Cond.instanceMethod yX0_perforate, Cond.selects RX0 yX0_perforate yX0_perforate, Cond.initialized RX0, Cond.code yX0_perforate cX0_perforate 4 none, Cond.fieldLink RX0 32 "StampSheets$Machine" "error" "I", Cond.fieldLink RX0 9 "StampSheets$Machine" "feed" "I", Cond.fieldLink RX0 35 "StampSheets$Machine" "rowsLeft" "I", Cond.fieldLink RX0 38 "StampSheets$Machine" "rowsRun" "I", Cond.fieldLink RX0 29 "StampSheets$Machine" "drift" "I", Cond.methodLink RX0 48 Lib.Math.min.name, Cond.static Lib.Math.min.name, Cond.initialized "java/lang/Math", Cond.code Lib.Math.min.name Lib.Math.min.code 2 (some .int), Cond.methodLink RX0 54 Lib.Math.max.name, Cond.static Lib.Math.max.name, Cond.code Lib.Math.max.name Lib.Math.max.code 2 (some .int), Cond.methodLink RX0 41 yX0_markRow]
def wsX4_run_r2 : List Cond := [Cond.instanceMethod yX0_markRow, Cond.selects RX0 yX0_markRow yX0_markRow, Cond.code yX0_markRow cX0_markRow 8 none, Cond.static yX4_isWithin, Cond.initialized RX4, Cond.code yX4_isWithin cX4_isWithin 3 (some .boolean), Cond.methodLink RX0 61 yX0_holeFaults, Cond.instanceMethod yX0_holeFaults, Cond.selects RX0 yX0_holeFaults yX0_holeFaults, Cond.code yX0_holeFaults cX0_holeFaults 3 (some .int), Cond.fieldLink RX0 20 "StampSheets$Machine" "pins" "[LStampSheets$Pin;", Cond.methodLink RX0 75 yX1_isWhole, Cond.instanceMethod yX1_isWhole, Cond.selects RX1 yX1_isWhole yX1_isWhole, Cond.initialized RX1, Cond.code yX1_isWhole cX1_isWhole 1 (some .boolean), Cond.fieldLink RX1 15 "StampSheets$Pin" "wear" "I", Cond.fieldLink RX1 9 "StampSheets$Pin" "strength" "I", Cond.methodLink RX0 65 yX0_hasWatermark, Cond.instanceMethod yX0_hasWatermark, Cond.selects RX0 yX0_hasWatermark yX0_hasWatermark, Cond.code yX0_hasWatermark cX0_hasWatermark 2 (some .boolean), Cond.fieldLink RX0 15 "StampSheets$Machine" "step" "I", Cond.methodLink RX0 45 yX0_strikeAll]
def wsX4_run_r3 : List Cond := [Cond.instanceMethod yX0_strikeAll, Cond.selects RX0 yX0_strikeAll yX0_strikeAll, Cond.code yX0_strikeAll cX0_strikeAll 2 none, Cond.methodLink RX0 79 yX1_strike, Cond.instanceMethod yX1_strike, Cond.selects RX1 yX1_strike yX1_strike, Cond.code yX1_strike cX1_strike 1 none, Cond.methodLink RX1 18 yX1_isWhole]
def wsX4_run : List Cond := .code yX4_run cX4_run 1 (some .int) :: ((wsX4_run_r1 ++ (wsX4_run_r2 ++ wsX4_run_r3)) ++ wsX40 ++ wsX00 ++ wsX20 ++ wsX10 ++ (vx_atS RX4 95 "java/lang/IllegalStateException" ["java/lang/RuntimeException", "java/lang/Exception"]).filter goodWord)
def wsX4_checkSheet : List Cond := .code yX4_checkSheet cX4_checkSheet 2 none :: ([.classLink RX4 150 "java/lang/IndexOutOfBoundsException", .initialized "java/lang/IndexOutOfBoundsException", .fieldLink RX4 88 "StampSheets" "sheetCount" "I", .methodLink RX4 34 yX4_isWithin, .static yX4_isWithin, .initialized RX4, .code yX4_isWithin cX4_isWithin 3 (some .boolean)] ++ wsX40 ++ (vx_atS RX4 154 "java/lang/IndexOutOfBoundsException" ["java/lang/RuntimeException", "java/lang/Exception"]).filter goodWord)
def wsX4_faults : List Cond := .code yX4_faults cX4_faults 4 (some .int) :: ([.fieldLink RX4 29 "StampSheets" "sheetStore" "[LStampSheets$Sheet;", .methodLink RX4 100 yX4_checkSheet, .instanceMethod yX4_checkSheet, .selects RX4 yX4_checkSheet yX4_checkSheet, .initialized RX4, .code yX4_checkSheet cX4_checkSheet 2 none, .classLink RX4 150 "java/lang/IndexOutOfBoundsException", .initialized "java/lang/IndexOutOfBoundsException", .fieldLink RX4 88 "StampSheets" "sheetCount" "I", .methodLink RX4 34 yX4_isWithin, .static yX4_isWithin, .code yX4_isWithin cX4_isWithin 3 (some .boolean), .methodLink RX4 84 yX4_checkPlace, .static yX4_checkPlace, .code yX4_checkPlace cX4_checkPlace 2 none] ++ wsX40 ++ wsX20 ++ (vx_atS RX4 154 "java/lang/IndexOutOfBoundsException" ["java/lang/RuntimeException", "java/lang/Exception"]).filter goodWord)
def wsX4_tear : List Cond := .code yX4_tear cX4_tear 7 (some .int) :: ([.classLink RX4 91 "java/lang/IllegalStateException", .initialized "java/lang/IllegalStateException", .fieldLink RX4 29 "StampSheets" "sheetStore" "[LStampSheets$Sheet;", .methodLink RX4 100 yX4_checkSheet, .instanceMethod yX4_checkSheet, .selects RX4 yX4_checkSheet yX4_checkSheet, .initialized RX4, .code yX4_checkSheet cX4_checkSheet 2 none, .classLink RX4 150 "java/lang/IndexOutOfBoundsException", .initialized "java/lang/IndexOutOfBoundsException", .fieldLink RX4 88 "StampSheets" "sheetCount" "I", .methodLink RX4 34 yX4_isWithin, .static yX4_isWithin, .code yX4_isWithin cX4_isWithin 3 (some .boolean), .methodLink RX4 84 yX4_checkPlace, .static yX4_checkPlace, .code yX4_checkPlace cX4_checkPlace 2 none, .methodLink RX4 112 yX2_worthOf, .instanceMethod yX2_worthOf, .selects RX2 yX2_worthOf yX2_worthOf, .initialized RX2, .code yX2_worthOf cX2_worthOf 4 (some .int), .fieldLink RX2 9 "StampSheets$Sheet" "faultSets" "[I", .fieldLink RX2 15 "StampSheets$Sheet" "tornOff" "[Z"] ++ wsX40 ++ wsX20 ++ (vx_atS RX4 95 "java/lang/IllegalStateException" ["java/lang/RuntimeException", "java/lang/Exception"]).filter goodWord ++ (vx_atS RX4 154 "java/lang/IndexOutOfBoundsException" ["java/lang/RuntimeException", "java/lang/Exception"]).filter goodWord)
def wsX4_checkWhat : List Cond := .code yX4_checkWhat cX4_checkWhat 2 none :: ([.classLink RX4 150 "java/lang/IndexOutOfBoundsException", .initialized "java/lang/IndexOutOfBoundsException", .methodLink RX4 34 yX4_isWithin, .static yX4_isWithin, .initialized RX4, .code yX4_isWithin cX4_isWithin 3 (some .boolean)] ++ (vx_atS RX4 154 "java/lang/IndexOutOfBoundsException" ["java/lang/RuntimeException", "java/lang/Exception"]).filter goodWord)
def wsX4_sheet_r1 : List Cond := [Cond.fieldLink RX4 29 "StampSheets" "sheetStore" "[LStampSheets$Sheet;", Cond.methodLink RX4 100 yX4_checkSheet, Cond.instanceMethod yX4_checkSheet, Cond.selects RX4 yX4_checkSheet yX4_checkSheet, Cond.initialized RX4, Cond.code yX4_checkSheet cX4_checkSheet 2 none, Cond.classLink RX4 150 "java/lang/IndexOutOfBoundsException", Cond.initialized "java/lang/IndexOutOfBoundsException", Cond.fieldLink RX4 88 "StampSheets" "sheetCount" "I", Cond.methodLink RX4 34 yX4_isWithin, Cond.static yX4_isWithin, Cond.code yX4_isWithin cX4_isWithin 3 (some .boolean), Cond.methodLink RX4 116 yX4_checkWhat, Cond.static yX4_checkWhat, Cond.code yX4_checkWhat cX4_checkWhat 2 none, Cond.methodLink RX4 119 yX2_answer, Cond.instanceMethod yX2_answer, Cond.selects RX2 yX2_answer yX2_answer, Cond.initialized RX2, Cond.code yX2_answer cX2_answer 2 (some .int), Cond.methodLink RX2 19 yX2_left, Cond.instanceMethod yX2_left, Cond.selects RX2 yX2_left yX2_left, Cond.code yX2_left cX2_left 3 (some .int)]
def wsX4_sheet_r2 : List Cond := [Cond.fieldLink RX2 15 "StampSheets$Sheet" "tornOff" "[Z", Cond.methodLink RX2 23 yX2_leftWith, Cond.instanceMethod yX2_leftWith, Cond.selects RX2 yX2_leftWith yX2_leftWith, Cond.code yX2_leftWith cX2_leftWith 4 (some .int), Cond.methodLink RX2 42 yX2_isLeftWith, Cond.instanceMethod yX2_isLeftWith, Cond.selects RX2 yX2_isLeftWith yX2_isLeftWith, Cond.code yX2_isLeftWith cX2_isLeftWith 3 (some .boolean), Cond.fieldLink RX2 9 "StampSheets$Sheet" "faultSets" "[I", Cond.methodLink RX2 27 yX2_worth, Cond.instanceMethod yX2_worth, Cond.selects RX2 yX2_worth yX2_worth, Cond.code yX2_worth cX2_worth 3 (some .int), Cond.methodLink RX2 39 yX2_worthOf, Cond.instanceMethod yX2_worthOf, Cond.selects RX2 yX2_worthOf yX2_worthOf, Cond.code yX2_worthOf cX2_worthOf 4 (some .int), Cond.methodLink RX2 30 yX2_invertedPairs, Cond.instanceMethod yX2_invertedPairs, Cond.selects RX2 yX2_invertedPairs yX2_invertedPairs, Cond.code yX2_invertedPairs cX2_invertedPairs 4 (some .int), Cond.methodLink RX2 46 yX2_isInvertedPair, Cond.instanceMethod yX2_isInvertedPair]
def wsX4_sheet_r3 : List Cond := [Cond.selects RX2 yX2_isInvertedPair yX2_isInvertedPair, Cond.code yX2_isInvertedPair cX2_isInvertedPair 3 (some .boolean), Cond.methodLink RX2 33 yX2_rowsOff, Cond.instanceMethod yX2_rowsOff, Cond.selects RX2 yX2_rowsOff yX2_rowsOff, Cond.code yX2_rowsOff cX2_rowsOff 3 (some .int), Cond.methodLink RX2 36 yX2_greatestBlock, Cond.instanceMethod yX2_greatestBlock, Cond.selects RX2 yX2_greatestBlock yX2_greatestBlock, Cond.code yX2_greatestBlock cX2_greatestBlock 5 (some .int), Cond.methodLink RX2 56 Lib.Math.max.name, Cond.static Lib.Math.max.name, Cond.initialized "java/lang/Math", Cond.code Lib.Math.max.name Lib.Math.max.code 2 (some .int), Cond.methodLink RX2 50 yX2_goodColumns, Cond.instanceMethod yX2_goodColumns, Cond.selects RX2 yX2_goodColumns yX2_goodColumns, Cond.code yX2_goodColumns cX2_goodColumns 4 (some .int), Cond.methodLink RX2 53 yX2_longestRun, Cond.static yX2_longestRun, Cond.code yX2_longestRun cX2_longestRun 4 (some .int)]
def wsX4_sheet : List Cond := .code yX4_sheet cX4_sheet 3 (some .int) :: ((wsX4_sheet_r1 ++ (wsX4_sheet_r2 ++ wsX4_sheet_r3)) ++ wsX40 ++ wsX20 ++ (vx_atS RX4 154 "java/lang/IndexOutOfBoundsException" ["java/lang/RuntimeException", "java/lang/Exception"]).filter goodWord)
def wsX4_pin : List Cond := .code yX4_pin cX4_pin 3 (some .int) :: ([.fieldLink RX4 12 "StampSheets" "machine" "LStampSheets$Machine;", .methodLink RX4 66 yX4_checkPin, .static yX4_checkPin, .initialized RX4, .code yX4_checkPin cX4_checkPin 1 none, .classLink RX4 150 "java/lang/IndexOutOfBoundsException", .initialized "java/lang/IndexOutOfBoundsException", .methodLink RX4 34 yX4_isWithin, .static yX4_isWithin, .code yX4_isWithin cX4_isWithin 3 (some .boolean), .methodLink RX4 116 yX4_checkWhat, .static yX4_checkWhat, .code yX4_checkWhat cX4_checkWhat 2 none, .methodLink RX4 122 yX1_answer, .instanceMethod yX1_answer, .selects RX1 yX1_answer yX1_answer, .initialized RX1, .code yX1_answer cX1_answer 2 (some .int), .fieldLink RX1 9 "StampSheets$Pin" "strength" "I", .fieldLink RX1 15 "StampSheets$Pin" "wear" "I", .methodLink RX1 18 yX1_isWhole, .instanceMethod yX1_isWhole, .selects RX1 yX1_isWhole yX1_isWhole, .code yX1_isWhole cX1_isWhole 1 (some .boolean)] ++ wsX40 ++ wsX00 ++ wsX10 ++ (vx_atS RX4 154 "java/lang/IndexOutOfBoundsException" ["java/lang/RuntimeException", "java/lang/Exception"]).filter goodWord)
def wsX4_invertedPlaces : List Cond := .code yX4_invertedPlaces cX4_invertedPlaces 3 (some .int) :: ([.fieldLink RX4 23 "StampSheets" "plateInverted" "[Z"] ++ wsX40)
def wsX4_worthOfSheets : List Cond := .code yX4_worthOfSheets cX4_worthOfSheets 3 (some .int) :: ([.fieldLink RX4 88 "StampSheets" "sheetCount" "I", .fieldLink RX4 29 "StampSheets" "sheetStore" "[LStampSheets$Sheet;", .methodLink RX4 173 yX2_worth, .instanceMethod yX2_worth, .selects RX2 yX2_worth yX2_worth, .initialized RX2, .code yX2_worth cX2_worth 3 (some .int), .methodLink RX2 39 yX2_worthOf, .instanceMethod yX2_worthOf, .selects RX2 yX2_worthOf yX2_worthOf, .code yX2_worthOf cX2_worthOf 4 (some .int), .fieldLink RX2 9 "StampSheets$Sheet" "faultSets" "[I", .fieldLink RX2 15 "StampSheets$Sheet" "tornOff" "[Z"] ++ wsX40 ++ wsX20)
def wsX4_countAnswer_r1 : List Cond := [Cond.fieldLink RX4 88 "StampSheets" "sheetCount" "I", Cond.fieldLink RX4 12 "StampSheets" "machine" "LStampSheets$Machine;", Cond.methodLink RX4 163 yX0_brokenPins, Cond.instanceMethod yX0_brokenPins, Cond.selects RX0 yX0_brokenPins yX0_brokenPins, Cond.initialized RX0, Cond.code yX0_brokenPins cX0_brokenPins 3 (some .int), Cond.fieldLink RX0 20 "StampSheets$Machine" "pins" "[LStampSheets$Pin;", Cond.methodLink RX0 75 yX1_isWhole, Cond.instanceMethod yX1_isWhole, Cond.selects RX1 yX1_isWhole yX1_isWhole, Cond.initialized RX1, Cond.code yX1_isWhole cX1_isWhole 1 (some .boolean), Cond.fieldLink RX1 15 "StampSheets$Pin" "wear" "I", Cond.fieldLink RX1 9 "StampSheets$Pin" "strength" "I", Cond.methodLink RX4 167 yX4_invertedPlaces, Cond.instanceMethod yX4_invertedPlaces, Cond.selects RX4 yX4_invertedPlaces yX4_invertedPlaces, Cond.initialized RX4, Cond.code yX4_invertedPlaces cX4_invertedPlaces 3 (some .int), Cond.fieldLink RX4 23 "StampSheets" "plateInverted" "[Z", Cond.methodLink RX4 170 yX4_worthOfSheets, Cond.instanceMethod yX4_worthOfSheets, Cond.selects RX4 yX4_worthOfSheets yX4_worthOfSheets]
def wsX4_countAnswer_r2 : List Cond := [Cond.code yX4_worthOfSheets cX4_worthOfSheets 3 (some .int), Cond.fieldLink RX4 29 "StampSheets" "sheetStore" "[LStampSheets$Sheet;", Cond.methodLink RX4 173 yX2_worth, Cond.instanceMethod yX2_worth, Cond.selects RX2 yX2_worth yX2_worth, Cond.initialized RX2, Cond.code yX2_worth cX2_worth 3 (some .int), Cond.methodLink RX2 39 yX2_worthOf, Cond.instanceMethod yX2_worthOf, Cond.selects RX2 yX2_worthOf yX2_worthOf, Cond.code yX2_worthOf cX2_worthOf 4 (some .int), Cond.fieldLink RX2 9 "StampSheets$Sheet" "faultSets" "[I", Cond.fieldLink RX2 15 "StampSheets$Sheet" "tornOff" "[Z"]
def wsX4_countAnswer : List Cond := .code yX4_countAnswer cX4_countAnswer 2 (some .int) :: ((wsX4_countAnswer_r1 ++ wsX4_countAnswer_r2) ++ wsX40 ++ wsX00 ++ wsX10 ++ wsX20)
def wsX4_count_r1 : List Cond := [Cond.methodLink RX4 116 yX4_checkWhat, Cond.static yX4_checkWhat, Cond.initialized RX4, Cond.code yX4_checkWhat cX4_checkWhat 2 none, Cond.classLink RX4 150 "java/lang/IndexOutOfBoundsException", Cond.initialized "java/lang/IndexOutOfBoundsException", Cond.methodLink RX4 34 yX4_isWithin, Cond.static yX4_isWithin, Cond.code yX4_isWithin cX4_isWithin 3 (some .boolean), Cond.methodLink RX4 123 yX4_countAnswer, Cond.instanceMethod yX4_countAnswer, Cond.selects RX4 yX4_countAnswer yX4_countAnswer, Cond.code yX4_countAnswer cX4_countAnswer 2 (some .int), Cond.fieldLink RX4 88 "StampSheets" "sheetCount" "I", Cond.fieldLink RX4 12 "StampSheets" "machine" "LStampSheets$Machine;", Cond.methodLink RX4 163 yX0_brokenPins, Cond.instanceMethod yX0_brokenPins, Cond.selects RX0 yX0_brokenPins yX0_brokenPins, Cond.initialized RX0, Cond.code yX0_brokenPins cX0_brokenPins 3 (some .int), Cond.fieldLink RX0 20 "StampSheets$Machine" "pins" "[LStampSheets$Pin;", Cond.methodLink RX0 75 yX1_isWhole, Cond.instanceMethod yX1_isWhole, Cond.selects RX1 yX1_isWhole yX1_isWhole]
def wsX4_count_r2 : List Cond := [Cond.initialized RX1, Cond.code yX1_isWhole cX1_isWhole 1 (some .boolean), Cond.fieldLink RX1 15 "StampSheets$Pin" "wear" "I", Cond.fieldLink RX1 9 "StampSheets$Pin" "strength" "I", Cond.methodLink RX4 167 yX4_invertedPlaces, Cond.instanceMethod yX4_invertedPlaces, Cond.selects RX4 yX4_invertedPlaces yX4_invertedPlaces, Cond.code yX4_invertedPlaces cX4_invertedPlaces 3 (some .int), Cond.fieldLink RX4 23 "StampSheets" "plateInverted" "[Z", Cond.methodLink RX4 170 yX4_worthOfSheets, Cond.instanceMethod yX4_worthOfSheets, Cond.selects RX4 yX4_worthOfSheets yX4_worthOfSheets, Cond.code yX4_worthOfSheets cX4_worthOfSheets 3 (some .int), Cond.fieldLink RX4 29 "StampSheets" "sheetStore" "[LStampSheets$Sheet;", Cond.methodLink RX4 173 yX2_worth, Cond.instanceMethod yX2_worth, Cond.selects RX2 yX2_worth yX2_worth, Cond.initialized RX2, Cond.code yX2_worth cX2_worth 3 (some .int), Cond.methodLink RX2 39 yX2_worthOf, Cond.instanceMethod yX2_worthOf, Cond.selects RX2 yX2_worthOf yX2_worthOf, Cond.code yX2_worthOf cX2_worthOf 4 (some .int), Cond.fieldLink RX2 9 "StampSheets$Sheet" "faultSets" "[I"]
def wsX4_count_r3 : List Cond := [Cond.fieldLink RX2 15 "StampSheets$Sheet" "tornOff" "[Z"]
def wsX4_count : List Cond := .code yX4_count cX4_count 2 (some .int) :: ((wsX4_count_r1 ++ (wsX4_count_r2 ++ wsX4_count_r3)) ++ wsX40 ++ wsX00 ++ wsX10 ++ wsX20 ++ (vx_atS RX4 154 "java/lang/IndexOutOfBoundsException" ["java/lang/RuntimeException", "java/lang/Exception"]).filter goodWord)
def wsX4_checkSheetsToRun : List Cond := .code yX4_checkSheetsToRun cX4_checkSheetsToRun 1 none :: ([.classLink RX4 38 "java/lang/IllegalArgumentException", .initialized "java/lang/IllegalArgumentException", .methodLink RX4 34 yX4_isWithin, .static yX4_isWithin, .initialized RX4, .code yX4_isWithin cX4_isWithin 3 (some .boolean)] ++ (vx_atS RX4 42 "java/lang/IllegalArgumentException" ["java/lang/RuntimeException", "java/lang/Exception"]).filter goodWord)
def wsX4_foresee_r1 : List Cond := [Cond.fieldLink RX4 19 "StampSheets" "trial" "LStampSheets$Trial;", Cond.fieldLink RX4 12 "StampSheets" "machine" "LStampSheets$Machine;", Cond.fieldLink RX4 23 "StampSheets" "plateInverted" "[Z", Cond.methodLink RX4 126 yX4_checkSheetsToRun, Cond.static yX4_checkSheetsToRun, Cond.initialized RX4, Cond.code yX4_checkSheetsToRun cX4_checkSheetsToRun 1 none, Cond.classLink RX4 38 "java/lang/IllegalArgumentException", Cond.initialized "java/lang/IllegalArgumentException", Cond.methodLink RX4 34 yX4_isWithin, Cond.static yX4_isWithin, Cond.code yX4_isWithin cX4_isWithin 3 (some .boolean), Cond.methodLink RX4 116 yX4_checkWhat, Cond.static yX4_checkWhat, Cond.code yX4_checkWhat cX4_checkWhat 2 none, Cond.classLink RX4 150 "java/lang/IndexOutOfBoundsException", Cond.initialized "java/lang/IndexOutOfBoundsException", Cond.methodLink RX4 129 yX3_perforateFrom, Cond.instanceMethod yX3_perforateFrom, Cond.selects RX3 yX3_perforateFrom yX3_perforateFrom, Cond.initialized RX3, Cond.code yX3_perforateFrom cX3_perforateFrom 6 none, Cond.fieldLink RX3 10 "StampSheets$Trial" "machine" "LStampSheets$Machine;", Cond.fieldLink RX3 31 "StampSheets$Trial" "faultless" "I"]
def wsX4_foresee_r2 : List Cond := [Cond.fieldLink RX3 34 "StampSheets$Trial" "worth" "I", Cond.fieldLink RX3 19 "StampSheets$Trial" "sheet" "LStampSheets$Sheet;", Cond.methodLink RX3 23 yX0_becomeLike, Cond.instanceMethod yX0_becomeLike, Cond.selects RX0 yX0_becomeLike yX0_becomeLike, Cond.initialized RX0, Cond.code yX0_becomeLike cX0_becomeLike 3 none, Cond.fieldLink RX0 20 "StampSheets$Machine" "pins" "[LStampSheets$Pin;", Cond.fieldLink RX0 9 "StampSheets$Machine" "feed" "I", Cond.fieldLink RX0 29 "StampSheets$Machine" "drift" "I", Cond.fieldLink RX0 32 "StampSheets$Machine" "error" "I", Cond.fieldLink RX0 35 "StampSheets$Machine" "rowsLeft" "I", Cond.fieldLink RX0 38 "StampSheets$Machine" "rowsRun" "I", Cond.fieldLink RX0 15 "StampSheets$Machine" "step" "I", Cond.methodLink RX0 25 yX1_becomeLike, Cond.instanceMethod yX1_becomeLike, Cond.selects RX1 yX1_becomeLike yX1_becomeLike, Cond.initialized RX1, Cond.code yX1_becomeLike cX1_becomeLike 2 none, Cond.fieldLink RX1 9 "StampSheets$Pin" "strength" "I", Cond.fieldLink RX1 15 "StampSheets$Pin" "wear" "I", Cond.methodLink RX3 37 yX0_perforate, Cond.instanceMethod yX0_perforate, Cond.selects RX0 yX0_perforate yX0_perforate]
def wsX4_foresee_r3 : List Cond := [Cond.code yX0_perforate cX0_perforate 4 none, Cond.methodLink RX0 48 Lib.Math.min.name, Cond.static Lib.Math.min.name, Cond.initialized "java/lang/Math", Cond.code Lib.Math.min.name Lib.Math.min.code 2 (some .int), Cond.methodLink RX0 54 Lib.Math.max.name, Cond.static Lib.Math.max.name, Cond.code Lib.Math.max.name Lib.Math.max.code 2 (some .int), Cond.methodLink RX0 41 yX0_markRow, Cond.instanceMethod yX0_markRow, Cond.selects RX0 yX0_markRow yX0_markRow, Cond.code yX0_markRow cX0_markRow 8 none, Cond.methodLink RX0 61 yX0_holeFaults, Cond.instanceMethod yX0_holeFaults, Cond.selects RX0 yX0_holeFaults yX0_holeFaults, Cond.code yX0_holeFaults cX0_holeFaults 3 (some .int), Cond.methodLink RX0 75 yX1_isWhole, Cond.instanceMethod yX1_isWhole, Cond.selects RX1 yX1_isWhole yX1_isWhole, Cond.code yX1_isWhole cX1_isWhole 1 (some .boolean), Cond.methodLink RX0 65 yX0_hasWatermark, Cond.instanceMethod yX0_hasWatermark, Cond.selects RX0 yX0_hasWatermark yX0_hasWatermark, Cond.code yX0_hasWatermark cX0_hasWatermark 2 (some .boolean)]
def wsX4_foresee_r4 : List Cond := [Cond.methodLink RX0 45 yX0_strikeAll, Cond.instanceMethod yX0_strikeAll, Cond.selects RX0 yX0_strikeAll yX0_strikeAll, Cond.code yX0_strikeAll cX0_strikeAll 2 none, Cond.methodLink RX0 79 yX1_strike, Cond.instanceMethod yX1_strike, Cond.selects RX1 yX1_strike yX1_strike, Cond.code yX1_strike cX1_strike 1 none, Cond.methodLink RX1 18 yX1_isWhole, Cond.methodLink RX3 41 yX2_leftWith, Cond.instanceMethod yX2_leftWith, Cond.selects RX2 yX2_leftWith yX2_leftWith, Cond.initialized RX2, Cond.code yX2_leftWith cX2_leftWith 4 (some .int), Cond.methodLink RX2 42 yX2_isLeftWith, Cond.instanceMethod yX2_isLeftWith, Cond.selects RX2 yX2_isLeftWith yX2_isLeftWith, Cond.code yX2_isLeftWith cX2_isLeftWith 3 (some .boolean), Cond.fieldLink RX2 15 "StampSheets$Sheet" "tornOff" "[Z", Cond.fieldLink RX2 9 "StampSheets$Sheet" "faultSets" "[I", Cond.methodLink RX3 45 yX2_worth, Cond.instanceMethod yX2_worth, Cond.selects RX2 yX2_worth yX2_worth, Cond.code yX2_worth cX2_worth 3 (some .int)]
def wsX4_foresee_r5 : List Cond := [Cond.methodLink RX2 39 yX2_worthOf, Cond.instanceMethod yX2_worthOf, Cond.selects RX2 yX2_worthOf yX2_worthOf, Cond.code yX2_worthOf cX2_worthOf 4 (some .int), Cond.methodLink RX4 133 yX3_answer, Cond.instanceMethod yX3_answer, Cond.selects RX3 yX3_answer yX3_answer, Cond.code yX3_answer cX3_answer 2 (some .int), Cond.methodLink RX3 48 yX0_brokenPins, Cond.instanceMethod yX0_brokenPins, Cond.selects RX0 yX0_brokenPins yX0_brokenPins, Cond.code yX0_brokenPins cX0_brokenPins 3 (some .int)]
def wsX4_foresee : List Cond := .code yX4_foresee cX4_foresee 3 (some .int) :: ((wsX4_foresee_r1 ++ (wsX4_foresee_r2 ++ (wsX4_foresee_r3 ++ (wsX4_foresee_r4 ++ wsX4_foresee_r5)))) ++ wsX40 ++ wsX00 ++ wsX30 ++ wsX10 ++ wsX20 ++ (vx_atS RX4 42 "java/lang/IllegalArgumentException" ["java/lang/RuntimeException", "java/lang/Exception"]).filter goodWord ++ (vx_atS RX4 154 "java/lang/IndexOutOfBoundsException" ["java/lang/RuntimeException", "java/lang/Exception"]).filter goodWord)
def wsX4_advise_r1 : List Cond := [Cond.fieldLink RX4 19 "StampSheets" "trial" "LStampSheets$Trial;", Cond.fieldLink RX4 12 "StampSheets" "machine" "LStampSheets$Machine;", Cond.fieldLink RX4 23 "StampSheets" "plateInverted" "[Z", Cond.methodLink RX4 126 yX4_checkSheetsToRun, Cond.static yX4_checkSheetsToRun, Cond.initialized RX4, Cond.code yX4_checkSheetsToRun cX4_checkSheetsToRun 1 none, Cond.classLink RX4 38 "java/lang/IllegalArgumentException", Cond.initialized "java/lang/IllegalArgumentException", Cond.methodLink RX4 34 yX4_isWithin, Cond.static yX4_isWithin, Cond.code yX4_isWithin cX4_isWithin 3 (some .boolean), Cond.methodLink RX4 129 yX3_perforateFrom, Cond.instanceMethod yX3_perforateFrom, Cond.selects RX3 yX3_perforateFrom yX3_perforateFrom, Cond.initialized RX3, Cond.code yX3_perforateFrom cX3_perforateFrom 6 none, Cond.fieldLink RX3 10 "StampSheets$Trial" "machine" "LStampSheets$Machine;", Cond.fieldLink RX3 31 "StampSheets$Trial" "faultless" "I", Cond.fieldLink RX3 34 "StampSheets$Trial" "worth" "I", Cond.fieldLink RX3 19 "StampSheets$Trial" "sheet" "LStampSheets$Sheet;", Cond.methodLink RX3 23 yX0_becomeLike, Cond.instanceMethod yX0_becomeLike, Cond.selects RX0 yX0_becomeLike yX0_becomeLike]
def wsX4_advise_r2 : List Cond := [Cond.initialized RX0, Cond.code yX0_becomeLike cX0_becomeLike 3 none, Cond.fieldLink RX0 20 "StampSheets$Machine" "pins" "[LStampSheets$Pin;", Cond.fieldLink RX0 9 "StampSheets$Machine" "feed" "I", Cond.fieldLink RX0 29 "StampSheets$Machine" "drift" "I", Cond.fieldLink RX0 32 "StampSheets$Machine" "error" "I", Cond.fieldLink RX0 35 "StampSheets$Machine" "rowsLeft" "I", Cond.fieldLink RX0 38 "StampSheets$Machine" "rowsRun" "I", Cond.fieldLink RX0 15 "StampSheets$Machine" "step" "I", Cond.methodLink RX0 25 yX1_becomeLike, Cond.instanceMethod yX1_becomeLike, Cond.selects RX1 yX1_becomeLike yX1_becomeLike, Cond.initialized RX1, Cond.code yX1_becomeLike cX1_becomeLike 2 none, Cond.fieldLink RX1 9 "StampSheets$Pin" "strength" "I", Cond.fieldLink RX1 15 "StampSheets$Pin" "wear" "I", Cond.methodLink RX3 37 yX0_perforate, Cond.instanceMethod yX0_perforate, Cond.selects RX0 yX0_perforate yX0_perforate, Cond.code yX0_perforate cX0_perforate 4 none, Cond.methodLink RX0 48 Lib.Math.min.name, Cond.static Lib.Math.min.name, Cond.initialized "java/lang/Math", Cond.code Lib.Math.min.name Lib.Math.min.code 2 (some .int)]
def wsX4_advise_r3 : List Cond := [Cond.methodLink RX0 54 Lib.Math.max.name, Cond.static Lib.Math.max.name, Cond.code Lib.Math.max.name Lib.Math.max.code 2 (some .int), Cond.methodLink RX0 41 yX0_markRow, Cond.instanceMethod yX0_markRow, Cond.selects RX0 yX0_markRow yX0_markRow, Cond.code yX0_markRow cX0_markRow 8 none, Cond.methodLink RX0 61 yX0_holeFaults, Cond.instanceMethod yX0_holeFaults, Cond.selects RX0 yX0_holeFaults yX0_holeFaults, Cond.code yX0_holeFaults cX0_holeFaults 3 (some .int), Cond.methodLink RX0 75 yX1_isWhole, Cond.instanceMethod yX1_isWhole, Cond.selects RX1 yX1_isWhole yX1_isWhole, Cond.code yX1_isWhole cX1_isWhole 1 (some .boolean), Cond.methodLink RX0 65 yX0_hasWatermark, Cond.instanceMethod yX0_hasWatermark, Cond.selects RX0 yX0_hasWatermark yX0_hasWatermark, Cond.code yX0_hasWatermark cX0_hasWatermark 2 (some .boolean), Cond.methodLink RX0 45 yX0_strikeAll, Cond.instanceMethod yX0_strikeAll, Cond.selects RX0 yX0_strikeAll yX0_strikeAll, Cond.code yX0_strikeAll cX0_strikeAll 2 none, Cond.methodLink RX0 79 yX1_strike]
def wsX4_advise_r4 : List Cond := [Cond.instanceMethod yX1_strike, Cond.selects RX1 yX1_strike yX1_strike, Cond.code yX1_strike cX1_strike 1 none, Cond.methodLink RX1 18 yX1_isWhole, Cond.methodLink RX3 41 yX2_leftWith, Cond.instanceMethod yX2_leftWith, Cond.selects RX2 yX2_leftWith yX2_leftWith, Cond.initialized RX2, Cond.code yX2_leftWith cX2_leftWith 4 (some .int), Cond.methodLink RX2 42 yX2_isLeftWith, Cond.instanceMethod yX2_isLeftWith, Cond.selects RX2 yX2_isLeftWith yX2_isLeftWith, Cond.code yX2_isLeftWith cX2_isLeftWith 3 (some .boolean), Cond.fieldLink RX2 15 "StampSheets$Sheet" "tornOff" "[Z", Cond.fieldLink RX2 9 "StampSheets$Sheet" "faultSets" "[I", Cond.methodLink RX3 45 yX2_worth, Cond.instanceMethod yX2_worth, Cond.selects RX2 yX2_worth yX2_worth, Cond.code yX2_worth cX2_worth 3 (some .int), Cond.methodLink RX2 39 yX2_worthOf, Cond.instanceMethod yX2_worthOf, Cond.selects RX2 yX2_worthOf yX2_worthOf, Cond.code yX2_worthOf cX2_worthOf 4 (some .int)]
def wsX4_advise : List Cond := .code yX4_advise cX4_advise 5 (some .int) :: ((wsX4_advise_r1 ++ (wsX4_advise_r2 ++ (wsX4_advise_r3 ++ wsX4_advise_r4))) ++ wsX40 ++ wsX30 ++ wsX00 ++ wsX10 ++ wsX20 ++ (vx_atS RX4 42 "java/lang/IllegalArgumentException" ["java/lang/RuntimeException", "java/lang/Exception"]).filter goodWord)
def wsX4_stampsWith : List Cond := .code yX4_stampsWith cX4_stampsWith 4 (some .int) :: ([.fieldLink RX4 88 "StampSheets" "sheetCount" "I", .fieldLink RX4 29 "StampSheets" "sheetStore" "[LStampSheets$Sheet;", .methodLink RX4 176 yX2_leftWith, .instanceMethod yX2_leftWith, .selects RX2 yX2_leftWith yX2_leftWith, .initialized RX2, .code yX2_leftWith cX2_leftWith 4 (some .int), .methodLink RX2 42 yX2_isLeftWith, .instanceMethod yX2_isLeftWith, .selects RX2 yX2_isLeftWith yX2_isLeftWith, .code yX2_isLeftWith cX2_isLeftWith 3 (some .boolean), .fieldLink RX2 15 "StampSheets$Sheet" "tornOff" "[Z", .fieldLink RX2 9 "StampSheets$Sheet" "faultSets" "[I"] ++ wsX40 ++ wsX20)
def wsX4_like : List Cond := .code yX4_like cX4_like 2 (some .int) :: ([.classLink RX4 38 "java/lang/IllegalArgumentException", .initialized "java/lang/IllegalArgumentException", .methodLink RX4 34 yX4_isWithin, .static yX4_isWithin, .initialized RX4, .code yX4_isWithin cX4_isWithin 3 (some .boolean), .methodLink RX4 139 yX4_stampsWith, .instanceMethod yX4_stampsWith, .selects RX4 yX4_stampsWith yX4_stampsWith, .code yX4_stampsWith cX4_stampsWith 4 (some .int), .fieldLink RX4 88 "StampSheets" "sheetCount" "I", .fieldLink RX4 29 "StampSheets" "sheetStore" "[LStampSheets$Sheet;", .methodLink RX4 176 yX2_leftWith, .instanceMethod yX2_leftWith, .selects RX2 yX2_leftWith yX2_leftWith, .initialized RX2, .code yX2_leftWith cX2_leftWith 4 (some .int), .methodLink RX2 42 yX2_isLeftWith, .instanceMethod yX2_isLeftWith, .selects RX2 yX2_isLeftWith yX2_isLeftWith, .code yX2_isLeftWith cX2_isLeftWith 3 (some .boolean), .fieldLink RX2 15 "StampSheets$Sheet" "tornOff" "[Z", .fieldLink RX2 9 "StampSheets$Sheet" "faultSets" "[I"] ++ wsX40 ++ wsX20 ++ (vx_atS RX4 42 "java/lang/IllegalArgumentException" ["java/lang/RuntimeException", "java/lang/Exception"]).filter goodWord)
def wsX4_share : List Cond := .code yX4_share cX4_share 2 (some .double) :: ([.fieldLink RX4 88 "StampSheets" "sheetCount" "I", .methodLink RX4 139 yX4_stampsWith, .instanceMethod yX4_stampsWith, .selects RX4 yX4_stampsWith yX4_stampsWith, .initialized RX4, .code yX4_stampsWith cX4_stampsWith 4 (some .int), .fieldLink RX4 29 "StampSheets" "sheetStore" "[LStampSheets$Sheet;", .methodLink RX4 176 yX2_leftWith, .instanceMethod yX2_leftWith, .selects RX2 yX2_leftWith yX2_leftWith, .initialized RX2, .code yX2_leftWith cX2_leftWith 4 (some .int), .methodLink RX2 42 yX2_isLeftWith, .instanceMethod yX2_isLeftWith, .selects RX2 yX2_isLeftWith yX2_isLeftWith, .code yX2_isLeftWith cX2_isLeftWith 3 (some .boolean), .fieldLink RX2 15 "StampSheets$Sheet" "tornOff" "[Z", .fieldLink RX2 9 "StampSheets$Sheet" "faultSets" "[I"] ++ wsX40 ++ wsX20)
def wsX4_digest_r1 : List Cond := [Cond.constantLong RX4 142 (1069), Cond.constantLong RX4 144 (31), Cond.fieldLink RX4 12 "StampSheets" "machine" "LStampSheets$Machine;", Cond.fieldLink RX4 88 "StampSheets" "sheetCount" "I", Cond.fieldLink RX4 29 "StampSheets" "sheetStore" "[LStampSheets$Sheet;", Cond.methodLink RX4 123 yX4_countAnswer, Cond.instanceMethod yX4_countAnswer, Cond.selects RX4 yX4_countAnswer yX4_countAnswer, Cond.initialized RX4, Cond.code yX4_countAnswer cX4_countAnswer 2 (some .int), Cond.methodLink RX4 163 yX0_brokenPins, Cond.instanceMethod yX0_brokenPins, Cond.selects RX0 yX0_brokenPins yX0_brokenPins, Cond.initialized RX0, Cond.code yX0_brokenPins cX0_brokenPins 3 (some .int), Cond.fieldLink RX0 20 "StampSheets$Machine" "pins" "[LStampSheets$Pin;", Cond.methodLink RX0 75 yX1_isWhole, Cond.instanceMethod yX1_isWhole, Cond.selects RX1 yX1_isWhole yX1_isWhole, Cond.initialized RX1, Cond.code yX1_isWhole cX1_isWhole 1 (some .boolean), Cond.fieldLink RX1 15 "StampSheets$Pin" "wear" "I", Cond.fieldLink RX1 9 "StampSheets$Pin" "strength" "I", Cond.methodLink RX4 167 yX4_invertedPlaces]
def wsX4_digest_r2 : List Cond := [Cond.instanceMethod yX4_invertedPlaces, Cond.selects RX4 yX4_invertedPlaces yX4_invertedPlaces, Cond.code yX4_invertedPlaces cX4_invertedPlaces 3 (some .int), Cond.fieldLink RX4 23 "StampSheets" "plateInverted" "[Z", Cond.methodLink RX4 170 yX4_worthOfSheets, Cond.instanceMethod yX4_worthOfSheets, Cond.selects RX4 yX4_worthOfSheets yX4_worthOfSheets, Cond.code yX4_worthOfSheets cX4_worthOfSheets 3 (some .int), Cond.methodLink RX4 173 yX2_worth, Cond.instanceMethod yX2_worth, Cond.selects RX2 yX2_worth yX2_worth, Cond.initialized RX2, Cond.code yX2_worth cX2_worth 3 (some .int), Cond.methodLink RX2 39 yX2_worthOf, Cond.instanceMethod yX2_worthOf, Cond.selects RX2 yX2_worthOf yX2_worthOf, Cond.code yX2_worthOf cX2_worthOf 4 (some .int), Cond.fieldLink RX2 9 "StampSheets$Sheet" "faultSets" "[I", Cond.fieldLink RX2 15 "StampSheets$Sheet" "tornOff" "[Z", Cond.methodLink RX4 122 yX1_answer, Cond.instanceMethod yX1_answer, Cond.selects RX1 yX1_answer yX1_answer, Cond.code yX1_answer cX1_answer 2 (some .int), Cond.methodLink RX1 18 yX1_isWhole]
def wsX4_digest_r3 : List Cond := [Cond.methodLink RX4 146 yX2_addToDigest, Cond.instanceMethod yX2_addToDigest, Cond.selects RX2 yX2_addToDigest yX2_addToDigest, Cond.code yX2_addToDigest cX2_addToDigest 6 (some .long), Cond.constantLong RX2 62 (31), Cond.methodLink RX2 64 yX2_answer, Cond.instanceMethod yX2_answer, Cond.selects RX2 yX2_answer yX2_answer, Cond.code yX2_answer cX2_answer 2 (some .int), Cond.methodLink RX2 19 yX2_left, Cond.instanceMethod yX2_left, Cond.selects RX2 yX2_left yX2_left, Cond.code yX2_left cX2_left 3 (some .int), Cond.methodLink RX2 23 yX2_leftWith, Cond.instanceMethod yX2_leftWith, Cond.selects RX2 yX2_leftWith yX2_leftWith, Cond.code yX2_leftWith cX2_leftWith 4 (some .int), Cond.methodLink RX2 42 yX2_isLeftWith, Cond.instanceMethod yX2_isLeftWith, Cond.selects RX2 yX2_isLeftWith yX2_isLeftWith, Cond.code yX2_isLeftWith cX2_isLeftWith 3 (some .boolean), Cond.methodLink RX2 27 yX2_worth, Cond.methodLink RX2 30 yX2_invertedPairs, Cond.instanceMethod yX2_invertedPairs]
def wsX4_digest_r4 : List Cond := [Cond.selects RX2 yX2_invertedPairs yX2_invertedPairs, Cond.code yX2_invertedPairs cX2_invertedPairs 4 (some .int), Cond.methodLink RX2 46 yX2_isInvertedPair, Cond.instanceMethod yX2_isInvertedPair, Cond.selects RX2 yX2_isInvertedPair yX2_isInvertedPair, Cond.code yX2_isInvertedPair cX2_isInvertedPair 3 (some .boolean), Cond.methodLink RX2 33 yX2_rowsOff, Cond.instanceMethod yX2_rowsOff, Cond.selects RX2 yX2_rowsOff yX2_rowsOff, Cond.code yX2_rowsOff cX2_rowsOff 3 (some .int), Cond.methodLink RX2 36 yX2_greatestBlock, Cond.instanceMethod yX2_greatestBlock, Cond.selects RX2 yX2_greatestBlock yX2_greatestBlock, Cond.code yX2_greatestBlock cX2_greatestBlock 5 (some .int), Cond.methodLink RX2 56 Lib.Math.max.name, Cond.static Lib.Math.max.name, Cond.initialized "java/lang/Math", Cond.code Lib.Math.max.name Lib.Math.max.code 2 (some .int), Cond.methodLink RX2 50 yX2_goodColumns, Cond.instanceMethod yX2_goodColumns, Cond.selects RX2 yX2_goodColumns yX2_goodColumns, Cond.code yX2_goodColumns cX2_goodColumns 4 (some .int), Cond.methodLink RX2 53 yX2_longestRun, Cond.static yX2_longestRun]
def wsX4_digest_r5 : List Cond := [Cond.code yX2_longestRun cX2_longestRun 4 (some .int)]
def wsX4_digest : List Cond := .code yX4_digest cX4_digest 5 (some .long) :: ((wsX4_digest_r1 ++ (wsX4_digest_r2 ++ (wsX4_digest_r3 ++ (wsX4_digest_r4 ++ wsX4_digest_r5)))) ++ wsX40 ++ wsX00 ++ wsX10 ++ wsX20)
def wsX5_init : List Cond := .code yX5_init cX5_init 2 none :: ([.methodLink RX5 1 objectInit, .instanceMethod objectInit, .code objectInit ⟨#[0xb1]⟩ 1 none, .arrayClass .int, .fieldLink RX5 9 "StampSheetsModel" "stamps" "[I", .fieldLink RX5 13 "StampSheetsModel" "machine" "[I", .fieldLink RX5 16 "StampSheetsModel" "strength" "[I", .fieldLink RX5 19 "StampSheetsModel" "wear" "[I", .arrayClass .boolean, .fieldLink RX5 22 "StampSheetsModel" "plate" "[Z", .fieldLink RX5 26 "StampSheetsModel" "sheet" "[I"] ++ wsX50)
def wsX5_thrown : List Cond := .code yX5_thrown cX5_thrown 1 (some .int) :: ([.fieldLink RX5 29 "StampSheetsModel" "thrown" "I"] ++ wsX50)
def wsX5_fail : List Cond := .code yX5_fail cX5_fail 2 (some .int) :: ([.fieldLink RX5 29 "StampSheetsModel" "thrown" "I"] ++ wsX50)
def wsX5_isIn : List Cond := .code yX5_isIn cX5_isIn 3 (some .boolean) :: ([])
def wsX5_isSheet : List Cond := .code yX5_isSheet cX5_isSheet 2 (some .boolean) :: ([.fieldLink RX5 33 "StampSheetsModel" "sheets" "I", .methodLink RX5 36 yX5_isIn, .static yX5_isIn, .initialized RX5, .code yX5_isIn cX5_isIn 3 (some .boolean)] ++ wsX50)
def wsX5_isPlace : List Cond := .code yX5_isPlace cX5_isPlace 2 (some .boolean) :: ([.methodLink RX5 36 yX5_isIn, .static yX5_isIn, .initialized RX5, .code yX5_isIn cX5_isIn 3 (some .boolean)])
def wsX5_isWhole : List Cond := .code yX5_isWhole cX5_isWhole 2 (some .boolean) :: ([.fieldLink RX5 19 "StampSheetsModel" "wear" "[I", .fieldLink RX5 16 "StampSheetsModel" "strength" "[I"] ++ wsX50)
def wsX5_setFeed : List Cond := .code yX5_setFeed cX5_setFeed 4 (some .int) :: ([.fieldLink RX5 29 "StampSheetsModel" "thrown" "I", .fieldLink RX5 13 "StampSheetsModel" "machine" "[I", .methodLink RX5 36 yX5_isIn, .static yX5_isIn, .initialized RX5, .code yX5_isIn cX5_isIn 3 (some .boolean), .methodLink RX5 40 yX5_fail, .instanceMethod yX5_fail, .selects RX5 yX5_fail yX5_fail, .code yX5_fail cX5_fail 2 (some .int)] ++ wsX50)
def wsX5_align : List Cond := .code yX5_align cX5_align 2 (some .int) :: ([.fieldLink RX5 29 "StampSheetsModel" "thrown" "I", .fieldLink RX5 13 "StampSheetsModel" "machine" "[I"] ++ wsX50)
def wsX5_roll : List Cond := .code yX5_roll cX5_roll 4 (some .int) :: ([.fieldLink RX5 29 "StampSheetsModel" "thrown" "I", .fieldLink RX5 13 "StampSheetsModel" "machine" "[I", .methodLink RX5 36 yX5_isIn, .static yX5_isIn, .initialized RX5, .code yX5_isIn cX5_isIn 3 (some .boolean), .methodLink RX5 40 yX5_fail, .instanceMethod yX5_fail, .selects RX5 yX5_fail yX5_fail, .code yX5_fail cX5_fail 2 (some .int)] ++ wsX50)
def wsX5_fit : List Cond := .code yX5_fit cX5_fit 4 (some .int) :: ([.fieldLink RX5 29 "StampSheetsModel" "thrown" "I", .fieldLink RX5 19 "StampSheetsModel" "wear" "[I", .fieldLink RX5 16 "StampSheetsModel" "strength" "[I", .methodLink RX5 36 yX5_isIn, .static yX5_isIn, .initialized RX5, .code yX5_isIn cX5_isIn 3 (some .boolean), .methodLink RX5 40 yX5_fail, .instanceMethod yX5_fail, .selects RX5 yX5_fail yX5_fail, .code yX5_fail cX5_fail 2 (some .int)] ++ wsX50)
def wsX5_turn : List Cond := .code yX5_turn cX5_turn 3 (some .boolean) :: ([.fieldLink RX5 29 "StampSheetsModel" "thrown" "I", .fieldLink RX5 22 "StampSheetsModel" "plate" "[Z", .methodLink RX5 44 yX5_isPlace, .static yX5_isPlace, .initialized RX5, .code yX5_isPlace cX5_isPlace 2 (some .boolean), .methodLink RX5 36 yX5_isIn, .static yX5_isIn, .code yX5_isIn cX5_isIn 3 (some .boolean)] ++ wsX50)
def wsX5_runRow : List Cond := .code yX5_runRow cX5_runRow 4 none :: ([.fieldLink RX5 13 "StampSheetsModel" "machine" "[I", .fieldLink RX5 26 "StampSheetsModel" "sheet" "[I", .fieldLink RX5 22 "StampSheetsModel" "plate" "[Z", .fieldLink RX5 19 "StampSheetsModel" "wear" "[I", .methodLink RX5 36 yX5_isIn, .static yX5_isIn, .initialized RX5, .code yX5_isIn cX5_isIn 3 (some .boolean), .methodLink RX5 48 yX5_isWhole, .instanceMethod yX5_isWhole, .selects RX5 yX5_isWhole yX5_isWhole, .code yX5_isWhole cX5_isWhole 2 (some .boolean), .fieldLink RX5 16 "StampSheetsModel" "strength" "[I"] ++ wsX50)
def wsX5_runSheet : List Cond := .code yX5_runSheet cX5_runSheet 2 none :: ([.fieldLink RX5 13 "StampSheetsModel" "machine" "[I", .methodLink RX5 56 Lib.Math.min.name, .static Lib.Math.min.name, .initialized "java/lang/Math", .code Lib.Math.min.name Lib.Math.min.code 2 (some .int), .methodLink RX5 62 Lib.Math.max.name, .static Lib.Math.max.name, .code Lib.Math.max.name Lib.Math.max.code 2 (some .int), .methodLink RX5 52 yX5_runRow, .instanceMethod yX5_runRow, .selects RX5 yX5_runRow yX5_runRow, .initialized RX5, .code yX5_runRow cX5_runRow 4 none, .fieldLink RX5 26 "StampSheetsModel" "sheet" "[I", .fieldLink RX5 22 "StampSheetsModel" "plate" "[Z", .fieldLink RX5 19 "StampSheetsModel" "wear" "[I", .methodLink RX5 36 yX5_isIn, .static yX5_isIn, .code yX5_isIn cX5_isIn 3 (some .boolean), .methodLink RX5 48 yX5_isWhole, .instanceMethod yX5_isWhole, .selects RX5 yX5_isWhole yX5_isWhole, .code yX5_isWhole cX5_isWhole 2 (some .boolean), .fieldLink RX5 16 "StampSheetsModel" "strength" "[I"] ++ wsX50)
def wsX5_run_r1 : List Cond := [Cond.fieldLink RX5 29 "StampSheetsModel" "thrown" "I", Cond.fieldLink RX5 33 "StampSheetsModel" "sheets" "I", Cond.fieldLink RX5 13 "StampSheetsModel" "machine" "[I", Cond.fieldLink RX5 26 "StampSheetsModel" "sheet" "[I", Cond.fieldLink RX5 9 "StampSheetsModel" "stamps" "[I", Cond.methodLink RX5 68 arraycopyName, Cond.native arraycopyName, Cond.static arraycopyName, Cond.initialized "java/lang/System", Cond.methodLink RX5 40 yX5_fail, Cond.instanceMethod yX5_fail, Cond.selects RX5 yX5_fail yX5_fail, Cond.initialized RX5, Cond.code yX5_fail cX5_fail 2 (some .int), Cond.methodLink RX5 65 yX5_runSheet, Cond.instanceMethod yX5_runSheet, Cond.selects RX5 yX5_runSheet yX5_runSheet, Cond.code yX5_runSheet cX5_runSheet 2 none, Cond.methodLink RX5 56 Lib.Math.min.name, Cond.static Lib.Math.min.name, Cond.initialized "java/lang/Math", Cond.code Lib.Math.min.name Lib.Math.min.code 2 (some .int), Cond.methodLink RX5 62 Lib.Math.max.name, Cond.static Lib.Math.max.name]
def wsX5_run_r2 : List Cond := [Cond.code Lib.Math.max.name Lib.Math.max.code 2 (some .int), Cond.methodLink RX5 52 yX5_runRow, Cond.instanceMethod yX5_runRow, Cond.selects RX5 yX5_runRow yX5_runRow, Cond.code yX5_runRow cX5_runRow 4 none, Cond.fieldLink RX5 22 "StampSheetsModel" "plate" "[Z", Cond.fieldLink RX5 19 "StampSheetsModel" "wear" "[I", Cond.methodLink RX5 36 yX5_isIn, Cond.static yX5_isIn, Cond.code yX5_isIn cX5_isIn 3 (some .boolean), Cond.methodLink RX5 48 yX5_isWhole, Cond.instanceMethod yX5_isWhole, Cond.selects RX5 yX5_isWhole yX5_isWhole, Cond.code yX5_isWhole cX5_isWhole 2 (some .boolean), Cond.fieldLink RX5 16 "StampSheetsModel" "strength" "[I"]
def wsX5_run : List Cond := .code yX5_run cX5_run 1 (some .int) :: ((wsX5_run_r1 ++ wsX5_run_r2) ++ wsX50)
def wsX5_faults : List Cond := .code yX5_faults cX5_faults 4 (some .int) :: ([.fieldLink RX5 29 "StampSheetsModel" "thrown" "I", .fieldLink RX5 9 "StampSheetsModel" "stamps" "[I", .methodLink RX5 74 yX5_isSheet, .instanceMethod yX5_isSheet, .selects RX5 yX5_isSheet yX5_isSheet, .initialized RX5, .code yX5_isSheet cX5_isSheet 2 (some .boolean), .fieldLink RX5 33 "StampSheetsModel" "sheets" "I", .methodLink RX5 36 yX5_isIn, .static yX5_isIn, .code yX5_isIn cX5_isIn 3 (some .boolean), .methodLink RX5 44 yX5_isPlace, .static yX5_isPlace, .code yX5_isPlace cX5_isPlace 2 (some .boolean), .methodLink RX5 40 yX5_fail, .instanceMethod yX5_fail, .selects RX5 yX5_fail yX5_fail, .code yX5_fail cX5_fail 2 (some .int)] ++ wsX50)
def wsX5_worth : List Cond := .code yX5_worth cX5_worth 1 (some .int) :: ([])
def wsX5_tear : List Cond := .code yX5_tear cX5_tear 6 (some .int) :: ([.fieldLink RX5 29 "StampSheetsModel" "thrown" "I", .fieldLink RX5 9 "StampSheetsModel" "stamps" "[I", .methodLink RX5 74 yX5_isSheet, .instanceMethod yX5_isSheet, .selects RX5 yX5_isSheet yX5_isSheet, .initialized RX5, .code yX5_isSheet cX5_isSheet 2 (some .boolean), .fieldLink RX5 33 "StampSheetsModel" "sheets" "I", .methodLink RX5 36 yX5_isIn, .static yX5_isIn, .code yX5_isIn cX5_isIn 3 (some .boolean), .methodLink RX5 44 yX5_isPlace, .static yX5_isPlace, .code yX5_isPlace cX5_isPlace 2 (some .boolean), .methodLink RX5 40 yX5_fail, .instanceMethod yX5_fail, .selects RX5 yX5_fail yX5_fail, .code yX5_fail cX5_fail 2 (some .int), .methodLink RX5 77 yX5_worth, .static yX5_worth, .code yX5_worth cX5_worth 1 (some .int)] ++ wsX50)
def wsX5_pairs : List Cond := .code yX5_pairs cX5_pairs 4 (some .int) :: ([.fieldLink RX5 9 "StampSheetsModel" "stamps" "[I"] ++ wsX50)
def wsX5_isClean : List Cond := .code yX5_isClean cX5_isClean 8 (some .boolean) :: ([.fieldLink RX5 9 "StampSheetsModel" "stamps" "[I"] ++ wsX50)
def wsX5_block : List Cond := .code yX5_block cX5_block 7 (some .int) :: ([.methodLink RX5 62 Lib.Math.max.name, .static Lib.Math.max.name, .initialized "java/lang/Math", .code Lib.Math.max.name Lib.Math.max.code 2 (some .int), .methodLink RX5 80 yX5_isClean, .instanceMethod yX5_isClean, .selects RX5 yX5_isClean yX5_isClean, .initialized RX5, .code yX5_isClean cX5_isClean 8 (some .boolean), .fieldLink RX5 9 "StampSheetsModel" "stamps" "[I"] ++ wsX50)
def wsX5_sheetTold : List Cond := .code yX5_sheetTold cX5_sheetTold 7 (some .int) :: ([.fieldLink RX5 9 "StampSheetsModel" "stamps" "[I", .methodLink RX5 84 yX5_pairs, .instanceMethod yX5_pairs, .selects RX5 yX5_pairs yX5_pairs, .initialized RX5, .code yX5_pairs cX5_pairs 4 (some .int), .methodLink RX5 87 yX5_block, .instanceMethod yX5_block, .selects RX5 yX5_block yX5_block, .code yX5_block cX5_block 7 (some .int), .methodLink RX5 62 Lib.Math.max.name, .static Lib.Math.max.name, .initialized "java/lang/Math", .code Lib.Math.max.name Lib.Math.max.code 2 (some .int), .methodLink RX5 80 yX5_isClean, .instanceMethod yX5_isClean, .selects RX5 yX5_isClean yX5_isClean, .code yX5_isClean cX5_isClean 8 (some .boolean), .methodLink RX5 77 yX5_worth, .static yX5_worth, .code yX5_worth cX5_worth 1 (some .int)] ++ wsX50)
def wsX5_sheet_r1 : List Cond := [Cond.fieldLink RX5 29 "StampSheetsModel" "thrown" "I", Cond.methodLink RX5 74 yX5_isSheet, Cond.instanceMethod yX5_isSheet, Cond.selects RX5 yX5_isSheet yX5_isSheet, Cond.initialized RX5, Cond.code yX5_isSheet cX5_isSheet 2 (some .boolean), Cond.fieldLink RX5 33 "StampSheetsModel" "sheets" "I", Cond.methodLink RX5 36 yX5_isIn, Cond.static yX5_isIn, Cond.code yX5_isIn cX5_isIn 3 (some .boolean), Cond.methodLink RX5 90 yX5_sheetTold, Cond.instanceMethod yX5_sheetTold, Cond.selects RX5 yX5_sheetTold yX5_sheetTold, Cond.code yX5_sheetTold cX5_sheetTold 7 (some .int), Cond.fieldLink RX5 9 "StampSheetsModel" "stamps" "[I", Cond.methodLink RX5 84 yX5_pairs, Cond.instanceMethod yX5_pairs, Cond.selects RX5 yX5_pairs yX5_pairs, Cond.code yX5_pairs cX5_pairs 4 (some .int), Cond.methodLink RX5 87 yX5_block, Cond.instanceMethod yX5_block, Cond.selects RX5 yX5_block yX5_block, Cond.code yX5_block cX5_block 7 (some .int), Cond.methodLink RX5 62 Lib.Math.max.name]
def wsX5_sheet_r2 : List Cond := [Cond.static Lib.Math.max.name, Cond.initialized "java/lang/Math", Cond.code Lib.Math.max.name Lib.Math.max.code 2 (some .int), Cond.methodLink RX5 80 yX5_isClean, Cond.instanceMethod yX5_isClean, Cond.selects RX5 yX5_isClean yX5_isClean, Cond.code yX5_isClean cX5_isClean 8 (some .boolean), Cond.methodLink RX5 77 yX5_worth, Cond.static yX5_worth, Cond.code yX5_worth cX5_worth 1 (some .int), Cond.methodLink RX5 40 yX5_fail, Cond.instanceMethod yX5_fail, Cond.selects RX5 yX5_fail yX5_fail, Cond.code yX5_fail cX5_fail 2 (some .int)]
def wsX5_sheet : List Cond := .code yX5_sheet cX5_sheet 3 (some .int) :: ((wsX5_sheet_r1 ++ wsX5_sheet_r2) ++ wsX50)
def wsX5_pinTold : List Cond := .code yX5_pinTold cX5_pinTold 3 (some .int) :: ([.fieldLink RX5 16 "StampSheetsModel" "strength" "[I", .fieldLink RX5 19 "StampSheetsModel" "wear" "[I", .methodLink RX5 48 yX5_isWhole, .instanceMethod yX5_isWhole, .selects RX5 yX5_isWhole yX5_isWhole, .initialized RX5, .code yX5_isWhole cX5_isWhole 2 (some .boolean)] ++ wsX50)
def wsX5_pin : List Cond := .code yX5_pin cX5_pin 3 (some .int) :: ([.fieldLink RX5 29 "StampSheetsModel" "thrown" "I", .methodLink RX5 36 yX5_isIn, .static yX5_isIn, .initialized RX5, .code yX5_isIn cX5_isIn 3 (some .boolean), .methodLink RX5 93 yX5_pinTold, .instanceMethod yX5_pinTold, .selects RX5 yX5_pinTold yX5_pinTold, .code yX5_pinTold cX5_pinTold 3 (some .int), .fieldLink RX5 16 "StampSheetsModel" "strength" "[I", .fieldLink RX5 19 "StampSheetsModel" "wear" "[I", .methodLink RX5 48 yX5_isWhole, .instanceMethod yX5_isWhole, .selects RX5 yX5_isWhole yX5_isWhole, .code yX5_isWhole cX5_isWhole 2 (some .boolean), .methodLink RX5 40 yX5_fail, .instanceMethod yX5_fail, .selects RX5 yX5_fail yX5_fail, .code yX5_fail cX5_fail 2 (some .int)] ++ wsX50)
def wsX5_broken : List Cond := .code yX5_broken cX5_broken 3 (some .int) :: ([.methodLink RX5 48 yX5_isWhole, .instanceMethod yX5_isWhole, .selects RX5 yX5_isWhole yX5_isWhole, .initialized RX5, .code yX5_isWhole cX5_isWhole 2 (some .boolean), .fieldLink RX5 19 "StampSheetsModel" "wear" "[I", .fieldLink RX5 16 "StampSheetsModel" "strength" "[I"] ++ wsX50)
def wsX5_counted_r1 : List Cond := [Cond.fieldLink RX5 33 "StampSheetsModel" "sheets" "I", Cond.fieldLink RX5 22 "StampSheetsModel" "plate" "[Z", Cond.fieldLink RX5 13 "StampSheetsModel" "machine" "[I", Cond.methodLink RX5 96 yX5_broken, Cond.instanceMethod yX5_broken, Cond.selects RX5 yX5_broken yX5_broken, Cond.initialized RX5, Cond.code yX5_broken cX5_broken 3 (some .int), Cond.methodLink RX5 48 yX5_isWhole, Cond.instanceMethod yX5_isWhole, Cond.selects RX5 yX5_isWhole yX5_isWhole, Cond.code yX5_isWhole cX5_isWhole 2 (some .boolean), Cond.fieldLink RX5 19 "StampSheetsModel" "wear" "[I", Cond.fieldLink RX5 16 "StampSheetsModel" "strength" "[I", Cond.methodLink RX5 90 yX5_sheetTold, Cond.instanceMethod yX5_sheetTold, Cond.selects RX5 yX5_sheetTold yX5_sheetTold, Cond.code yX5_sheetTold cX5_sheetTold 7 (some .int), Cond.fieldLink RX5 9 "StampSheetsModel" "stamps" "[I", Cond.methodLink RX5 84 yX5_pairs, Cond.instanceMethod yX5_pairs, Cond.selects RX5 yX5_pairs yX5_pairs, Cond.code yX5_pairs cX5_pairs 4 (some .int), Cond.methodLink RX5 87 yX5_block]
def wsX5_counted_r2 : List Cond := [Cond.instanceMethod yX5_block, Cond.selects RX5 yX5_block yX5_block, Cond.code yX5_block cX5_block 7 (some .int), Cond.methodLink RX5 62 Lib.Math.max.name, Cond.static Lib.Math.max.name, Cond.initialized "java/lang/Math", Cond.code Lib.Math.max.name Lib.Math.max.code 2 (some .int), Cond.methodLink RX5 80 yX5_isClean, Cond.instanceMethod yX5_isClean, Cond.selects RX5 yX5_isClean yX5_isClean, Cond.code yX5_isClean cX5_isClean 8 (some .boolean), Cond.methodLink RX5 77 yX5_worth, Cond.static yX5_worth, Cond.code yX5_worth cX5_worth 1 (some .int)]
def wsX5_counted : List Cond := .code yX5_counted cX5_counted 7 (some .int) :: ((wsX5_counted_r1 ++ wsX5_counted_r2) ++ wsX50)
def wsX5_count_r1 : List Cond := [Cond.fieldLink RX5 29 "StampSheetsModel" "thrown" "I", Cond.methodLink RX5 36 yX5_isIn, Cond.static yX5_isIn, Cond.initialized RX5, Cond.code yX5_isIn cX5_isIn 3 (some .boolean), Cond.methodLink RX5 100 yX5_counted, Cond.instanceMethod yX5_counted, Cond.selects RX5 yX5_counted yX5_counted, Cond.code yX5_counted cX5_counted 7 (some .int), Cond.fieldLink RX5 33 "StampSheetsModel" "sheets" "I", Cond.fieldLink RX5 22 "StampSheetsModel" "plate" "[Z", Cond.fieldLink RX5 13 "StampSheetsModel" "machine" "[I", Cond.methodLink RX5 96 yX5_broken, Cond.instanceMethod yX5_broken, Cond.selects RX5 yX5_broken yX5_broken, Cond.code yX5_broken cX5_broken 3 (some .int), Cond.methodLink RX5 48 yX5_isWhole, Cond.instanceMethod yX5_isWhole, Cond.selects RX5 yX5_isWhole yX5_isWhole, Cond.code yX5_isWhole cX5_isWhole 2 (some .boolean), Cond.fieldLink RX5 19 "StampSheetsModel" "wear" "[I", Cond.fieldLink RX5 16 "StampSheetsModel" "strength" "[I", Cond.methodLink RX5 90 yX5_sheetTold, Cond.instanceMethod yX5_sheetTold]
def wsX5_count_r2 : List Cond := [Cond.selects RX5 yX5_sheetTold yX5_sheetTold, Cond.code yX5_sheetTold cX5_sheetTold 7 (some .int), Cond.fieldLink RX5 9 "StampSheetsModel" "stamps" "[I", Cond.methodLink RX5 84 yX5_pairs, Cond.instanceMethod yX5_pairs, Cond.selects RX5 yX5_pairs yX5_pairs, Cond.code yX5_pairs cX5_pairs 4 (some .int), Cond.methodLink RX5 87 yX5_block, Cond.instanceMethod yX5_block, Cond.selects RX5 yX5_block yX5_block, Cond.code yX5_block cX5_block 7 (some .int), Cond.methodLink RX5 62 Lib.Math.max.name, Cond.static Lib.Math.max.name, Cond.initialized "java/lang/Math", Cond.code Lib.Math.max.name Lib.Math.max.code 2 (some .int), Cond.methodLink RX5 80 yX5_isClean, Cond.instanceMethod yX5_isClean, Cond.selects RX5 yX5_isClean yX5_isClean, Cond.code yX5_isClean cX5_isClean 8 (some .boolean), Cond.methodLink RX5 77 yX5_worth, Cond.static yX5_worth, Cond.code yX5_worth cX5_worth 1 (some .int), Cond.methodLink RX5 40 yX5_fail, Cond.instanceMethod yX5_fail]
def wsX5_count_r3 : List Cond := [Cond.selects RX5 yX5_fail yX5_fail, Cond.code yX5_fail cX5_fail 2 (some .int)]
def wsX5_count : List Cond := .code yX5_count cX5_count 2 (some .int) :: ((wsX5_count_r1 ++ (wsX5_count_r2 ++ wsX5_count_r3)) ++ wsX50)
def wsX5_wouldRun_r1 : List Cond := [Cond.fieldLink RX5 26 "StampSheetsModel" "sheet" "[I", Cond.methodLink RX5 65 yX5_runSheet, Cond.instanceMethod yX5_runSheet, Cond.selects RX5 yX5_runSheet yX5_runSheet, Cond.initialized RX5, Cond.code yX5_runSheet cX5_runSheet 2 none, Cond.fieldLink RX5 13 "StampSheetsModel" "machine" "[I", Cond.methodLink RX5 56 Lib.Math.min.name, Cond.static Lib.Math.min.name, Cond.initialized "java/lang/Math", Cond.code Lib.Math.min.name Lib.Math.min.code 2 (some .int), Cond.methodLink RX5 62 Lib.Math.max.name, Cond.static Lib.Math.max.name, Cond.code Lib.Math.max.name Lib.Math.max.code 2 (some .int), Cond.methodLink RX5 52 yX5_runRow, Cond.instanceMethod yX5_runRow, Cond.selects RX5 yX5_runRow yX5_runRow, Cond.code yX5_runRow cX5_runRow 4 none, Cond.fieldLink RX5 22 "StampSheetsModel" "plate" "[Z", Cond.fieldLink RX5 19 "StampSheetsModel" "wear" "[I", Cond.methodLink RX5 36 yX5_isIn, Cond.static yX5_isIn, Cond.code yX5_isIn cX5_isIn 3 (some .boolean), Cond.methodLink RX5 48 yX5_isWhole]
def wsX5_wouldRun_r2 : List Cond := [Cond.instanceMethod yX5_isWhole, Cond.selects RX5 yX5_isWhole yX5_isWhole, Cond.code yX5_isWhole cX5_isWhole 2 (some .boolean), Cond.fieldLink RX5 16 "StampSheetsModel" "strength" "[I", Cond.methodLink RX5 77 yX5_worth, Cond.static yX5_worth, Cond.code yX5_worth cX5_worth 1 (some .int)]
def wsX5_wouldRun : List Cond := .code yX5_wouldRun cX5_wouldRun 9 (some .int) :: ((wsX5_wouldRun_r1 ++ wsX5_wouldRun_r2) ++ wsX50)
def wsX5_kept : List Cond := .code yX5_kept cX5_kept 1 (some (.array (.array .int))) :: ([.classLink RX5 103 "[I", .fieldLink RX5 13 "StampSheetsModel" "machine" "[I", .methodLink RX5 104 ⟨"[I", "clone", "()Ljava/lang/Object;"⟩, .sameMethod "[I" "java/lang/Object" "clone" "()Ljava/lang/Object;", .native ⟨"java/lang/Object", "clone", "()Ljava/lang/Object;"⟩, .instanceMethod ⟨"java/lang/Object", "clone", "()Ljava/lang/Object;"⟩, .selects "[I" ⟨"[I", "clone", "()Ljava/lang/Object;"⟩ ⟨"java/lang/Object", "clone", "()Ljava/lang/Object;"⟩, .fieldLink RX5 19 "StampSheetsModel" "wear" "[I"] ++ wsX50)
def wsX5_bringBack : List Cond := .code yX5_bringBack cX5_bringBack 2 none :: ([.fieldLink RX5 13 "StampSheetsModel" "machine" "[I", .methodLink RX5 68 arraycopyName, .native arraycopyName, .static arraycopyName, .initialized "java/lang/System", .fieldLink RX5 19 "StampSheetsModel" "wear" "[I"] ++ wsX50)
def wsX5_foresee_r1 : List Cond := [Cond.fieldLink RX5 29 "StampSheetsModel" "thrown" "I", Cond.fieldLink RX5 13 "StampSheetsModel" "machine" "[I", Cond.methodLink RX5 36 yX5_isIn, Cond.static yX5_isIn, Cond.initialized RX5, Cond.code yX5_isIn cX5_isIn 3 (some .boolean), Cond.methodLink RX5 40 yX5_fail, Cond.instanceMethod yX5_fail, Cond.selects RX5 yX5_fail yX5_fail, Cond.code yX5_fail cX5_fail 2 (some .int), Cond.methodLink RX5 108 yX5_kept, Cond.instanceMethod yX5_kept, Cond.selects RX5 yX5_kept yX5_kept, Cond.code yX5_kept cX5_kept 1 (some (.array (.array .int))), Cond.classLink RX5 103 "[I", Cond.methodLink RX5 104 ⟨"[I", "clone", "()Ljava/lang/Object;"⟩, Cond.sameMethod "[I" "java/lang/Object" "clone" "()Ljava/lang/Object;", Cond.native ⟨"java/lang/Object", "clone", "()Ljava/lang/Object;"⟩, Cond.instanceMethod ⟨"java/lang/Object", "clone", "()Ljava/lang/Object;"⟩, Cond.selects "[I" ⟨"[I", "clone", "()Ljava/lang/Object;"⟩ ⟨"java/lang/Object", "clone", "()Ljava/lang/Object;"⟩, Cond.fieldLink RX5 19 "StampSheetsModel" "wear" "[I", Cond.methodLink RX5 112 yX5_wouldRun, Cond.instanceMethod yX5_wouldRun, Cond.selects RX5 yX5_wouldRun yX5_wouldRun]
def wsX5_foresee_r2 : List Cond := [Cond.code yX5_wouldRun cX5_wouldRun 9 (some .int), Cond.fieldLink RX5 26 "StampSheetsModel" "sheet" "[I", Cond.methodLink RX5 65 yX5_runSheet, Cond.instanceMethod yX5_runSheet, Cond.selects RX5 yX5_runSheet yX5_runSheet, Cond.code yX5_runSheet cX5_runSheet 2 none, Cond.methodLink RX5 56 Lib.Math.min.name, Cond.static Lib.Math.min.name, Cond.initialized "java/lang/Math", Cond.code Lib.Math.min.name Lib.Math.min.code 2 (some .int), Cond.methodLink RX5 62 Lib.Math.max.name, Cond.static Lib.Math.max.name, Cond.code Lib.Math.max.name Lib.Math.max.code 2 (some .int), Cond.methodLink RX5 52 yX5_runRow, Cond.instanceMethod yX5_runRow, Cond.selects RX5 yX5_runRow yX5_runRow, Cond.code yX5_runRow cX5_runRow 4 none, Cond.fieldLink RX5 22 "StampSheetsModel" "plate" "[Z", Cond.methodLink RX5 48 yX5_isWhole, Cond.instanceMethod yX5_isWhole, Cond.selects RX5 yX5_isWhole yX5_isWhole, Cond.code yX5_isWhole cX5_isWhole 2 (some .boolean), Cond.fieldLink RX5 16 "StampSheetsModel" "strength" "[I", Cond.methodLink RX5 77 yX5_worth]
def wsX5_foresee_r3 : List Cond := [Cond.static yX5_worth, Cond.code yX5_worth cX5_worth 1 (some .int), Cond.methodLink RX5 96 yX5_broken, Cond.instanceMethod yX5_broken, Cond.selects RX5 yX5_broken yX5_broken, Cond.code yX5_broken cX5_broken 3 (some .int), Cond.methodLink RX5 116 yX5_bringBack, Cond.instanceMethod yX5_bringBack, Cond.selects RX5 yX5_bringBack yX5_bringBack, Cond.code yX5_bringBack cX5_bringBack 2 none, Cond.methodLink RX5 68 arraycopyName, Cond.native arraycopyName, Cond.static arraycopyName, Cond.initialized "java/lang/System"]
def wsX5_foresee : List Cond := .code yX5_foresee cX5_foresee 6 (some .int) :: ((wsX5_foresee_r1 ++ (wsX5_foresee_r2 ++ wsX5_foresee_r3)) ++ wsX50)
def wsX5_advise_r1 : List Cond := [Cond.fieldLink RX5 29 "StampSheetsModel" "thrown" "I", Cond.fieldLink RX5 13 "StampSheetsModel" "machine" "[I", Cond.methodLink RX5 36 yX5_isIn, Cond.static yX5_isIn, Cond.initialized RX5, Cond.code yX5_isIn cX5_isIn 3 (some .boolean), Cond.methodLink RX5 40 yX5_fail, Cond.instanceMethod yX5_fail, Cond.selects RX5 yX5_fail yX5_fail, Cond.code yX5_fail cX5_fail 2 (some .int), Cond.methodLink RX5 108 yX5_kept, Cond.instanceMethod yX5_kept, Cond.selects RX5 yX5_kept yX5_kept, Cond.code yX5_kept cX5_kept 1 (some (.array (.array .int))), Cond.classLink RX5 103 "[I", Cond.methodLink RX5 104 ⟨"[I", "clone", "()Ljava/lang/Object;"⟩, Cond.sameMethod "[I" "java/lang/Object" "clone" "()Ljava/lang/Object;", Cond.native ⟨"java/lang/Object", "clone", "()Ljava/lang/Object;"⟩, Cond.instanceMethod ⟨"java/lang/Object", "clone", "()Ljava/lang/Object;"⟩, Cond.selects "[I" ⟨"[I", "clone", "()Ljava/lang/Object;"⟩ ⟨"java/lang/Object", "clone", "()Ljava/lang/Object;"⟩, Cond.fieldLink RX5 19 "StampSheetsModel" "wear" "[I", Cond.methodLink RX5 112 yX5_wouldRun, Cond.instanceMethod yX5_wouldRun, Cond.selects RX5 yX5_wouldRun yX5_wouldRun]
def wsX5_advise_r2 : List Cond := [Cond.code yX5_wouldRun cX5_wouldRun 9 (some .int), Cond.fieldLink RX5 26 "StampSheetsModel" "sheet" "[I", Cond.methodLink RX5 65 yX5_runSheet, Cond.instanceMethod yX5_runSheet, Cond.selects RX5 yX5_runSheet yX5_runSheet, Cond.code yX5_runSheet cX5_runSheet 2 none, Cond.methodLink RX5 56 Lib.Math.min.name, Cond.static Lib.Math.min.name, Cond.initialized "java/lang/Math", Cond.code Lib.Math.min.name Lib.Math.min.code 2 (some .int), Cond.methodLink RX5 62 Lib.Math.max.name, Cond.static Lib.Math.max.name, Cond.code Lib.Math.max.name Lib.Math.max.code 2 (some .int), Cond.methodLink RX5 52 yX5_runRow, Cond.instanceMethod yX5_runRow, Cond.selects RX5 yX5_runRow yX5_runRow, Cond.code yX5_runRow cX5_runRow 4 none, Cond.fieldLink RX5 22 "StampSheetsModel" "plate" "[Z", Cond.methodLink RX5 48 yX5_isWhole, Cond.instanceMethod yX5_isWhole, Cond.selects RX5 yX5_isWhole yX5_isWhole, Cond.code yX5_isWhole cX5_isWhole 2 (some .boolean), Cond.fieldLink RX5 16 "StampSheetsModel" "strength" "[I", Cond.methodLink RX5 77 yX5_worth]
def wsX5_advise_r3 : List Cond := [Cond.static yX5_worth, Cond.code yX5_worth cX5_worth 1 (some .int), Cond.methodLink RX5 116 yX5_bringBack, Cond.instanceMethod yX5_bringBack, Cond.selects RX5 yX5_bringBack yX5_bringBack, Cond.code yX5_bringBack cX5_bringBack 2 none, Cond.methodLink RX5 68 arraycopyName, Cond.native arraycopyName, Cond.static arraycopyName, Cond.initialized "java/lang/System"]
def wsX5_advise : List Cond := .code yX5_advise cX5_advise 7 (some .int) :: ((wsX5_advise_r1 ++ (wsX5_advise_r2 ++ wsX5_advise_r3)) ++ wsX50)
def wsX5_like : List Cond := .code yX5_like cX5_like 4 (some .int) :: ([.fieldLink RX5 29 "StampSheetsModel" "thrown" "I", .fieldLink RX5 33 "StampSheetsModel" "sheets" "I", .fieldLink RX5 9 "StampSheetsModel" "stamps" "[I", .methodLink RX5 36 yX5_isIn, .static yX5_isIn, .initialized RX5, .code yX5_isIn cX5_isIn 3 (some .boolean), .methodLink RX5 40 yX5_fail, .instanceMethod yX5_fail, .selects RX5 yX5_fail yX5_fail, .code yX5_fail cX5_fail 2 (some .int)] ++ wsX50)
def wsX5_share_r1 : List Cond := [Cond.fieldLink RX5 29 "StampSheetsModel" "thrown" "I", Cond.fieldLink RX5 33 "StampSheetsModel" "sheets" "I", Cond.methodLink RX5 90 yX5_sheetTold, Cond.instanceMethod yX5_sheetTold, Cond.selects RX5 yX5_sheetTold yX5_sheetTold, Cond.initialized RX5, Cond.code yX5_sheetTold cX5_sheetTold 7 (some .int), Cond.fieldLink RX5 9 "StampSheetsModel" "stamps" "[I", Cond.methodLink RX5 84 yX5_pairs, Cond.instanceMethod yX5_pairs, Cond.selects RX5 yX5_pairs yX5_pairs, Cond.code yX5_pairs cX5_pairs 4 (some .int), Cond.methodLink RX5 87 yX5_block, Cond.instanceMethod yX5_block, Cond.selects RX5 yX5_block yX5_block, Cond.code yX5_block cX5_block 7 (some .int), Cond.methodLink RX5 62 Lib.Math.max.name, Cond.static Lib.Math.max.name, Cond.initialized "java/lang/Math", Cond.code Lib.Math.max.name Lib.Math.max.code 2 (some .int), Cond.methodLink RX5 80 yX5_isClean, Cond.instanceMethod yX5_isClean, Cond.selects RX5 yX5_isClean yX5_isClean, Cond.code yX5_isClean cX5_isClean 8 (some .boolean)]
def wsX5_share_r2 : List Cond := [Cond.methodLink RX5 77 yX5_worth, Cond.static yX5_worth, Cond.code yX5_worth cX5_worth 1 (some .int)]
def wsX5_share : List Cond := .code yX5_share cX5_share 3 (some .double) :: ((wsX5_share_r1 ++ wsX5_share_r2) ++ wsX50)
def wsX5_digest_r1 : List Cond := [Cond.fieldLink RX5 29 "StampSheetsModel" "thrown" "I", Cond.constantLong RX5 120 (1069), Cond.constantLong RX5 122 (31), Cond.fieldLink RX5 33 "StampSheetsModel" "sheets" "I", Cond.fieldLink RX5 9 "StampSheetsModel" "stamps" "[I", Cond.methodLink RX5 100 yX5_counted, Cond.instanceMethod yX5_counted, Cond.selects RX5 yX5_counted yX5_counted, Cond.initialized RX5, Cond.code yX5_counted cX5_counted 7 (some .int), Cond.fieldLink RX5 22 "StampSheetsModel" "plate" "[Z", Cond.fieldLink RX5 13 "StampSheetsModel" "machine" "[I", Cond.methodLink RX5 96 yX5_broken, Cond.instanceMethod yX5_broken, Cond.selects RX5 yX5_broken yX5_broken, Cond.code yX5_broken cX5_broken 3 (some .int), Cond.methodLink RX5 48 yX5_isWhole, Cond.instanceMethod yX5_isWhole, Cond.selects RX5 yX5_isWhole yX5_isWhole, Cond.code yX5_isWhole cX5_isWhole 2 (some .boolean), Cond.fieldLink RX5 19 "StampSheetsModel" "wear" "[I", Cond.fieldLink RX5 16 "StampSheetsModel" "strength" "[I", Cond.methodLink RX5 90 yX5_sheetTold, Cond.instanceMethod yX5_sheetTold]
def wsX5_digest_r2 : List Cond := [Cond.selects RX5 yX5_sheetTold yX5_sheetTold, Cond.code yX5_sheetTold cX5_sheetTold 7 (some .int), Cond.methodLink RX5 84 yX5_pairs, Cond.instanceMethod yX5_pairs, Cond.selects RX5 yX5_pairs yX5_pairs, Cond.code yX5_pairs cX5_pairs 4 (some .int), Cond.methodLink RX5 87 yX5_block, Cond.instanceMethod yX5_block, Cond.selects RX5 yX5_block yX5_block, Cond.code yX5_block cX5_block 7 (some .int), Cond.methodLink RX5 62 Lib.Math.max.name, Cond.static Lib.Math.max.name, Cond.initialized "java/lang/Math", Cond.code Lib.Math.max.name Lib.Math.max.code 2 (some .int), Cond.methodLink RX5 80 yX5_isClean, Cond.instanceMethod yX5_isClean, Cond.selects RX5 yX5_isClean yX5_isClean, Cond.code yX5_isClean cX5_isClean 8 (some .boolean), Cond.methodLink RX5 77 yX5_worth, Cond.static yX5_worth, Cond.code yX5_worth cX5_worth 1 (some .int), Cond.methodLink RX5 93 yX5_pinTold, Cond.instanceMethod yX5_pinTold, Cond.selects RX5 yX5_pinTold yX5_pinTold]
def wsX5_digest_r3 : List Cond := [Cond.code yX5_pinTold cX5_pinTold 3 (some .int)]
def wsX5_digest : List Cond := .code yX5_digest cX5_digest 5 (some .long) :: ((wsX5_digest_r1 ++ (wsX5_digest_r2 ++ wsX5_digest_r3)) ++ wsX50)
def wsJ9_max_7cf53 : List Cond := .code yJ9_max_7cf53 cJ9_max_7cf53 2 (some .int) :: ([])
def wsJ9_min_7cf53 : List Cond := .code yJ9_min_7cf53 cJ9_min_7cf53 2 (some .int) :: ([])
def wsL_setFeed : List Cond := .codeWith yL_setFeed cL_setFeed 5 (some .int) [(0, 10, 13, 13)] :: ([.classLink RL 13 "java/lang/IllegalArgumentException", .methodLink RL 7 yX4_setFeed, .instanceMethod yX4_setFeed, .selects RX4 yX4_setFeed yX4_setFeed, .initialized RX4, .code yX4_setFeed cX4_setFeed 4 (some .int), .classLink RX4 38 "java/lang/IllegalArgumentException", .initialized "java/lang/IllegalArgumentException", .fieldLink RX4 12 "StampSheets" "machine" "LStampSheets$Machine;", .methodLink RX4 34 yX4_isWithin, .static yX4_isWithin, .code yX4_isWithin cX4_isWithin 3 (some .boolean)] ++ wsX40 ++ wsX00 ++ (vx_atS RX4 42 "java/lang/IllegalArgumentException" ["java/lang/RuntimeException", "java/lang/Exception"]).filter goodWord)
def wsL_roll : List Cond := .codeWith yL_roll cL_roll 5 (some .int) [(0, 10, 13, 13)] :: ([.classLink RL 13 "java/lang/IllegalArgumentException", .methodLink RL 15 yX4_roll, .instanceMethod yX4_roll, .selects RX4 yX4_roll yX4_roll, .initialized RX4, .code yX4_roll cX4_roll 4 (some .int), .classLink RX4 38 "java/lang/IllegalArgumentException", .initialized "java/lang/IllegalArgumentException", .fieldLink RX4 12 "StampSheets" "machine" "LStampSheets$Machine;", .methodLink RX4 34 yX4_isWithin, .static yX4_isWithin, .code yX4_isWithin cX4_isWithin 3 (some .boolean)] ++ wsX40 ++ wsX00 ++ (vx_atS RX4 42 "java/lang/IllegalArgumentException" ["java/lang/RuntimeException", "java/lang/Exception"]).filter goodWord)
def wsL_fit : List Cond := .codeWith yL_fit cL_fit 5 (some .int) [(0, 10, 13, 21), (0, 10, 17, 13)] :: ([.classLink RL 21 "java/lang/IndexOutOfBoundsException", .classLink RL 13 "java/lang/IllegalArgumentException", .methodLink RL 18 yX4_fit, .instanceMethod yX4_fit, .selects RX4 yX4_fit yX4_fit, .initialized RX4, .code yX4_fit cX4_fit 5 (some .int), .classLink RX4 38 "java/lang/IllegalArgumentException", .initialized "java/lang/IllegalArgumentException", .fieldLink RX4 12 "StampSheets" "machine" "LStampSheets$Machine;", .methodLink RX4 66 yX4_checkPin, .static yX4_checkPin, .code yX4_checkPin cX4_checkPin 1 none, .classLink RX4 150 "java/lang/IndexOutOfBoundsException", .initialized "java/lang/IndexOutOfBoundsException", .methodLink RX4 34 yX4_isWithin, .static yX4_isWithin, .code yX4_isWithin cX4_isWithin 3 (some .boolean)] ++ wsX40 ++ wsX00 ++ wsX10 ++ (vx_atS RX4 42 "java/lang/IllegalArgumentException" ["java/lang/RuntimeException", "java/lang/Exception"]).filter goodWord ++ (vx_atS RX4 154 "java/lang/IndexOutOfBoundsException" ["java/lang/RuntimeException", "java/lang/Exception"]).filter goodWord)
def wsL_turn : List Cond := .codeWith yL_turn cL_turn 5 (some .int) [(0, 17, 20, 21)] :: ([.classLink RL 21 "java/lang/IndexOutOfBoundsException", .methodLink RL 23 yX4_turn, .instanceMethod yX4_turn, .selects RX4 yX4_turn yX4_turn, .initialized RX4, .code yX4_turn cX4_turn 4 (some .boolean), .fieldLink RX4 23 "StampSheets" "plateInverted" "[Z", .methodLink RX4 84 yX4_checkPlace, .static yX4_checkPlace, .code yX4_checkPlace cX4_checkPlace 2 none, .classLink RX4 150 "java/lang/IndexOutOfBoundsException", .initialized "java/lang/IndexOutOfBoundsException", .methodLink RX4 34 yX4_isWithin, .static yX4_isWithin, .code yX4_isWithin cX4_isWithin 3 (some .boolean)] ++ wsX40 ++ (vx_atS RX4 154 "java/lang/IndexOutOfBoundsException" ["java/lang/RuntimeException", "java/lang/Exception"]).filter goodWord)
def wsL_run_r1 : List Cond := [Cond.classLink RL 31 "java/lang/IllegalStateException", Cond.methodLink RL 27 yX4_run, Cond.instanceMethod yX4_run, Cond.selects RX4 yX4_run yX4_run, Cond.initialized RX4, Cond.code yX4_run cX4_run 1 (some .int), Cond.classLink RX4 91 "java/lang/IllegalStateException", Cond.initialized "java/lang/IllegalStateException", Cond.fieldLink RX4 88 "StampSheets" "sheetCount" "I", Cond.fieldLink RX4 12 "StampSheets" "machine" "LStampSheets$Machine;", Cond.fieldLink RX4 23 "StampSheets" "plateInverted" "[Z", Cond.fieldLink RX4 29 "StampSheets" "sheetStore" "[LStampSheets$Sheet;", Cond.methodLink RX4 96 yX0_perforate, Cond.instanceMethod yX0_perforate, Cond.selects RX0 yX0_perforate yX0_perforate, Cond.initialized RX0, Cond.code yX0_perforate cX0_perforate 4 none, Cond.fieldLink RX0 32 "StampSheets$Machine" "error" "I", Cond.fieldLink RX0 9 "StampSheets$Machine" "feed" "I", Cond.fieldLink RX0 35 "StampSheets$Machine" "rowsLeft" "I", Cond.fieldLink RX0 38 "StampSheets$Machine" "rowsRun" "I", Cond.fieldLink RX0 29 "StampSheets$Machine" "drift" "I", Cond.methodLink RX0 48 Lib.Math.min.name, Cond.static Lib.Math.min.name]
def wsL_run_r2 : List Cond := [Cond.initialized "java/lang/Math", Cond.code Lib.Math.min.name Lib.Math.min.code 2 (some .int), Cond.methodLink RX0 54 Lib.Math.max.name, Cond.static Lib.Math.max.name, Cond.code Lib.Math.max.name Lib.Math.max.code 2 (some .int), Cond.methodLink RX0 41 yX0_markRow, Cond.instanceMethod yX0_markRow, Cond.selects RX0 yX0_markRow yX0_markRow, Cond.code yX0_markRow cX0_markRow 8 none, Cond.static yX4_isWithin, Cond.code yX4_isWithin cX4_isWithin 3 (some .boolean), Cond.methodLink RX0 61 yX0_holeFaults, Cond.instanceMethod yX0_holeFaults, Cond.selects RX0 yX0_holeFaults yX0_holeFaults, Cond.code yX0_holeFaults cX0_holeFaults 3 (some .int), Cond.fieldLink RX0 20 "StampSheets$Machine" "pins" "[LStampSheets$Pin;", Cond.methodLink RX0 75 yX1_isWhole, Cond.instanceMethod yX1_isWhole, Cond.selects RX1 yX1_isWhole yX1_isWhole, Cond.initialized RX1, Cond.code yX1_isWhole cX1_isWhole 1 (some .boolean), Cond.fieldLink RX1 15 "StampSheets$Pin" "wear" "I", Cond.fieldLink RX1 9 "StampSheets$Pin" "strength" "I", Cond.methodLink RX0 65 yX0_hasWatermark]
def wsL_run_r3 : List Cond := [Cond.instanceMethod yX0_hasWatermark, Cond.selects RX0 yX0_hasWatermark yX0_hasWatermark, Cond.code yX0_hasWatermark cX0_hasWatermark 2 (some .boolean), Cond.fieldLink RX0 15 "StampSheets$Machine" "step" "I", Cond.methodLink RX0 45 yX0_strikeAll, Cond.instanceMethod yX0_strikeAll, Cond.selects RX0 yX0_strikeAll yX0_strikeAll, Cond.code yX0_strikeAll cX0_strikeAll 2 none, Cond.methodLink RX0 79 yX1_strike, Cond.instanceMethod yX1_strike, Cond.selects RX1 yX1_strike yX1_strike, Cond.code yX1_strike cX1_strike 1 none, Cond.methodLink RX1 18 yX1_isWhole]
def wsL_run : List Cond := .codeWith yL_run cL_run 3 (some .int) [(0, 8, 11, 31)] :: ((wsL_run_r1 ++ (wsL_run_r2 ++ wsL_run_r3)) ++ wsX40 ++ wsX00 ++ wsX20 ++ wsX10 ++ (vx_atS RX4 95 "java/lang/IllegalStateException" ["java/lang/RuntimeException", "java/lang/Exception"]).filter goodWord)
def wsL_faults : List Cond := .codeWith yL_faults cL_faults 6 (some .int) [(0, 12, 15, 21)] :: ([.classLink RL 21 "java/lang/IndexOutOfBoundsException", .methodLink RL 33 yX4_faults, .instanceMethod yX4_faults, .selects RX4 yX4_faults yX4_faults, .initialized RX4, .code yX4_faults cX4_faults 4 (some .int), .fieldLink RX4 29 "StampSheets" "sheetStore" "[LStampSheets$Sheet;", .methodLink RX4 100 yX4_checkSheet, .instanceMethod yX4_checkSheet, .selects RX4 yX4_checkSheet yX4_checkSheet, .code yX4_checkSheet cX4_checkSheet 2 none, .classLink RX4 150 "java/lang/IndexOutOfBoundsException", .initialized "java/lang/IndexOutOfBoundsException", .fieldLink RX4 88 "StampSheets" "sheetCount" "I", .methodLink RX4 34 yX4_isWithin, .static yX4_isWithin, .code yX4_isWithin cX4_isWithin 3 (some .boolean), .methodLink RX4 84 yX4_checkPlace, .static yX4_checkPlace, .code yX4_checkPlace cX4_checkPlace 2 none] ++ wsX40 ++ wsX20 ++ (vx_atS RX4 154 "java/lang/IndexOutOfBoundsException" ["java/lang/RuntimeException", "java/lang/Exception"]).filter goodWord)
def wsL_tear_r1 : List Cond := [Cond.classLink RL 21 "java/lang/IndexOutOfBoundsException", Cond.classLink RL 31 "java/lang/IllegalStateException", Cond.methodLink RL 37 yX4_tear, Cond.instanceMethod yX4_tear, Cond.selects RX4 yX4_tear yX4_tear, Cond.initialized RX4, Cond.code yX4_tear cX4_tear 7 (some .int), Cond.classLink RX4 91 "java/lang/IllegalStateException", Cond.initialized "java/lang/IllegalStateException", Cond.fieldLink RX4 29 "StampSheets" "sheetStore" "[LStampSheets$Sheet;", Cond.methodLink RX4 100 yX4_checkSheet, Cond.instanceMethod yX4_checkSheet, Cond.selects RX4 yX4_checkSheet yX4_checkSheet, Cond.code yX4_checkSheet cX4_checkSheet 2 none, Cond.classLink RX4 150 "java/lang/IndexOutOfBoundsException", Cond.initialized "java/lang/IndexOutOfBoundsException", Cond.fieldLink RX4 88 "StampSheets" "sheetCount" "I", Cond.methodLink RX4 34 yX4_isWithin, Cond.static yX4_isWithin, Cond.code yX4_isWithin cX4_isWithin 3 (some .boolean), Cond.methodLink RX4 84 yX4_checkPlace, Cond.static yX4_checkPlace, Cond.code yX4_checkPlace cX4_checkPlace 2 none, Cond.methodLink RX4 112 yX2_worthOf]
def wsL_tear_r2 : List Cond := [Cond.instanceMethod yX2_worthOf, Cond.selects RX2 yX2_worthOf yX2_worthOf, Cond.initialized RX2, Cond.code yX2_worthOf cX2_worthOf 4 (some .int), Cond.fieldLink RX2 9 "StampSheets$Sheet" "faultSets" "[I", Cond.fieldLink RX2 15 "StampSheets$Sheet" "tornOff" "[Z"]
def wsL_tear : List Cond := .codeWith yL_tear cL_tear 6 (some .int) [(0, 12, 15, 21), (0, 12, 19, 31)] :: ((wsL_tear_r1 ++ wsL_tear_r2) ++ wsX40 ++ wsX20 ++ (vx_atS RX4 95 "java/lang/IllegalStateException" ["java/lang/RuntimeException", "java/lang/Exception"]).filter goodWord ++ (vx_atS RX4 154 "java/lang/IndexOutOfBoundsException" ["java/lang/RuntimeException", "java/lang/Exception"]).filter goodWord)
def wsL_sheet_r1 : List Cond := [Cond.classLink RL 21 "java/lang/IndexOutOfBoundsException", Cond.methodLink RL 40 yX4_sheet, Cond.instanceMethod yX4_sheet, Cond.selects RX4 yX4_sheet yX4_sheet, Cond.initialized RX4, Cond.code yX4_sheet cX4_sheet 3 (some .int), Cond.fieldLink RX4 29 "StampSheets" "sheetStore" "[LStampSheets$Sheet;", Cond.methodLink RX4 100 yX4_checkSheet, Cond.instanceMethod yX4_checkSheet, Cond.selects RX4 yX4_checkSheet yX4_checkSheet, Cond.code yX4_checkSheet cX4_checkSheet 2 none, Cond.classLink RX4 150 "java/lang/IndexOutOfBoundsException", Cond.initialized "java/lang/IndexOutOfBoundsException", Cond.fieldLink RX4 88 "StampSheets" "sheetCount" "I", Cond.methodLink RX4 34 yX4_isWithin, Cond.static yX4_isWithin, Cond.code yX4_isWithin cX4_isWithin 3 (some .boolean), Cond.methodLink RX4 116 yX4_checkWhat, Cond.static yX4_checkWhat, Cond.code yX4_checkWhat cX4_checkWhat 2 none, Cond.methodLink RX4 119 yX2_answer, Cond.instanceMethod yX2_answer, Cond.selects RX2 yX2_answer yX2_answer, Cond.initialized RX2]
def wsL_sheet_r2 : List Cond := [Cond.code yX2_answer cX2_answer 2 (some .int), Cond.methodLink RX2 19 yX2_left, Cond.instanceMethod yX2_left, Cond.selects RX2 yX2_left yX2_left, Cond.code yX2_left cX2_left 3 (some .int), Cond.fieldLink RX2 15 "StampSheets$Sheet" "tornOff" "[Z", Cond.methodLink RX2 23 yX2_leftWith, Cond.instanceMethod yX2_leftWith, Cond.selects RX2 yX2_leftWith yX2_leftWith, Cond.code yX2_leftWith cX2_leftWith 4 (some .int), Cond.methodLink RX2 42 yX2_isLeftWith, Cond.instanceMethod yX2_isLeftWith, Cond.selects RX2 yX2_isLeftWith yX2_isLeftWith, Cond.code yX2_isLeftWith cX2_isLeftWith 3 (some .boolean), Cond.fieldLink RX2 9 "StampSheets$Sheet" "faultSets" "[I", Cond.methodLink RX2 27 yX2_worth, Cond.instanceMethod yX2_worth, Cond.selects RX2 yX2_worth yX2_worth, Cond.code yX2_worth cX2_worth 3 (some .int), Cond.methodLink RX2 39 yX2_worthOf, Cond.instanceMethod yX2_worthOf, Cond.selects RX2 yX2_worthOf yX2_worthOf, Cond.code yX2_worthOf cX2_worthOf 4 (some .int), Cond.methodLink RX2 30 yX2_invertedPairs]
def wsL_sheet_r3 : List Cond := [Cond.instanceMethod yX2_invertedPairs, Cond.selects RX2 yX2_invertedPairs yX2_invertedPairs, Cond.code yX2_invertedPairs cX2_invertedPairs 4 (some .int), Cond.methodLink RX2 46 yX2_isInvertedPair, Cond.instanceMethod yX2_isInvertedPair, Cond.selects RX2 yX2_isInvertedPair yX2_isInvertedPair, Cond.code yX2_isInvertedPair cX2_isInvertedPair 3 (some .boolean), Cond.methodLink RX2 33 yX2_rowsOff, Cond.instanceMethod yX2_rowsOff, Cond.selects RX2 yX2_rowsOff yX2_rowsOff, Cond.code yX2_rowsOff cX2_rowsOff 3 (some .int), Cond.methodLink RX2 36 yX2_greatestBlock, Cond.instanceMethod yX2_greatestBlock, Cond.selects RX2 yX2_greatestBlock yX2_greatestBlock, Cond.code yX2_greatestBlock cX2_greatestBlock 5 (some .int), Cond.methodLink RX2 56 Lib.Math.max.name, Cond.static Lib.Math.max.name, Cond.initialized "java/lang/Math", Cond.code Lib.Math.max.name Lib.Math.max.code 2 (some .int), Cond.methodLink RX2 50 yX2_goodColumns, Cond.instanceMethod yX2_goodColumns, Cond.selects RX2 yX2_goodColumns yX2_goodColumns, Cond.code yX2_goodColumns cX2_goodColumns 4 (some .int), Cond.methodLink RX2 53 yX2_longestRun]
def wsL_sheet_r4 : List Cond := [Cond.static yX2_longestRun, Cond.code yX2_longestRun cX2_longestRun 4 (some .int)]
def wsL_sheet : List Cond := .codeWith yL_sheet cL_sheet 5 (some .int) [(0, 10, 13, 21)] :: ((wsL_sheet_r1 ++ (wsL_sheet_r2 ++ (wsL_sheet_r3 ++ wsL_sheet_r4))) ++ wsX40 ++ wsX20 ++ (vx_atS RX4 154 "java/lang/IndexOutOfBoundsException" ["java/lang/RuntimeException", "java/lang/Exception"]).filter goodWord)
def wsL_pin_r1 : List Cond := [Cond.classLink RL 21 "java/lang/IndexOutOfBoundsException", Cond.methodLink RL 43 yX4_pin, Cond.instanceMethod yX4_pin, Cond.selects RX4 yX4_pin yX4_pin, Cond.initialized RX4, Cond.code yX4_pin cX4_pin 3 (some .int), Cond.fieldLink RX4 12 "StampSheets" "machine" "LStampSheets$Machine;", Cond.methodLink RX4 66 yX4_checkPin, Cond.static yX4_checkPin, Cond.code yX4_checkPin cX4_checkPin 1 none, Cond.classLink RX4 150 "java/lang/IndexOutOfBoundsException", Cond.initialized "java/lang/IndexOutOfBoundsException", Cond.methodLink RX4 34 yX4_isWithin, Cond.static yX4_isWithin, Cond.code yX4_isWithin cX4_isWithin 3 (some .boolean), Cond.methodLink RX4 116 yX4_checkWhat, Cond.static yX4_checkWhat, Cond.code yX4_checkWhat cX4_checkWhat 2 none, Cond.methodLink RX4 122 yX1_answer, Cond.instanceMethod yX1_answer, Cond.selects RX1 yX1_answer yX1_answer, Cond.initialized RX1, Cond.code yX1_answer cX1_answer 2 (some .int), Cond.fieldLink RX1 9 "StampSheets$Pin" "strength" "I"]
def wsL_pin_r2 : List Cond := [Cond.fieldLink RX1 15 "StampSheets$Pin" "wear" "I", Cond.methodLink RX1 18 yX1_isWhole, Cond.instanceMethod yX1_isWhole, Cond.selects RX1 yX1_isWhole yX1_isWhole, Cond.code yX1_isWhole cX1_isWhole 1 (some .boolean)]
def wsL_pin : List Cond := .codeWith yL_pin cL_pin 5 (some .int) [(0, 10, 13, 21)] :: ((wsL_pin_r1 ++ wsL_pin_r2) ++ wsX40 ++ wsX00 ++ wsX10 ++ (vx_atS RX4 154 "java/lang/IndexOutOfBoundsException" ["java/lang/RuntimeException", "java/lang/Exception"]).filter goodWord)
def wsL_count_r1 : List Cond := [Cond.classLink RL 21 "java/lang/IndexOutOfBoundsException", Cond.methodLink RL 46 yX4_count, Cond.instanceMethod yX4_count, Cond.selects RX4 yX4_count yX4_count, Cond.initialized RX4, Cond.code yX4_count cX4_count 2 (some .int), Cond.methodLink RX4 116 yX4_checkWhat, Cond.static yX4_checkWhat, Cond.code yX4_checkWhat cX4_checkWhat 2 none, Cond.classLink RX4 150 "java/lang/IndexOutOfBoundsException", Cond.initialized "java/lang/IndexOutOfBoundsException", Cond.methodLink RX4 34 yX4_isWithin, Cond.static yX4_isWithin, Cond.code yX4_isWithin cX4_isWithin 3 (some .boolean), Cond.methodLink RX4 123 yX4_countAnswer, Cond.instanceMethod yX4_countAnswer, Cond.selects RX4 yX4_countAnswer yX4_countAnswer, Cond.code yX4_countAnswer cX4_countAnswer 2 (some .int), Cond.fieldLink RX4 88 "StampSheets" "sheetCount" "I", Cond.fieldLink RX4 12 "StampSheets" "machine" "LStampSheets$Machine;", Cond.methodLink RX4 163 yX0_brokenPins, Cond.instanceMethod yX0_brokenPins, Cond.selects RX0 yX0_brokenPins yX0_brokenPins, Cond.initialized RX0]
def wsL_count_r2 : List Cond := [Cond.code yX0_brokenPins cX0_brokenPins 3 (some .int), Cond.fieldLink RX0 20 "StampSheets$Machine" "pins" "[LStampSheets$Pin;", Cond.methodLink RX0 75 yX1_isWhole, Cond.instanceMethod yX1_isWhole, Cond.selects RX1 yX1_isWhole yX1_isWhole, Cond.initialized RX1, Cond.code yX1_isWhole cX1_isWhole 1 (some .boolean), Cond.fieldLink RX1 15 "StampSheets$Pin" "wear" "I", Cond.fieldLink RX1 9 "StampSheets$Pin" "strength" "I", Cond.methodLink RX4 167 yX4_invertedPlaces, Cond.instanceMethod yX4_invertedPlaces, Cond.selects RX4 yX4_invertedPlaces yX4_invertedPlaces, Cond.code yX4_invertedPlaces cX4_invertedPlaces 3 (some .int), Cond.fieldLink RX4 23 "StampSheets" "plateInverted" "[Z", Cond.methodLink RX4 170 yX4_worthOfSheets, Cond.instanceMethod yX4_worthOfSheets, Cond.selects RX4 yX4_worthOfSheets yX4_worthOfSheets, Cond.code yX4_worthOfSheets cX4_worthOfSheets 3 (some .int), Cond.fieldLink RX4 29 "StampSheets" "sheetStore" "[LStampSheets$Sheet;", Cond.methodLink RX4 173 yX2_worth, Cond.instanceMethod yX2_worth, Cond.selects RX2 yX2_worth yX2_worth, Cond.initialized RX2, Cond.code yX2_worth cX2_worth 3 (some .int)]
def wsL_count_r3 : List Cond := [Cond.methodLink RX2 39 yX2_worthOf, Cond.instanceMethod yX2_worthOf, Cond.selects RX2 yX2_worthOf yX2_worthOf, Cond.code yX2_worthOf cX2_worthOf 4 (some .int), Cond.fieldLink RX2 9 "StampSheets$Sheet" "faultSets" "[I", Cond.fieldLink RX2 15 "StampSheets$Sheet" "tornOff" "[Z"]
def wsL_count : List Cond := .codeWith yL_count cL_count 4 (some .int) [(0, 9, 12, 21)] :: ((wsL_count_r1 ++ (wsL_count_r2 ++ wsL_count_r3)) ++ wsX40 ++ wsX00 ++ wsX10 ++ wsX20 ++ (vx_atS RX4 154 "java/lang/IndexOutOfBoundsException" ["java/lang/RuntimeException", "java/lang/Exception"]).filter goodWord)
def wsL_foresee_r1 : List Cond := [Cond.classLink RL 13 "java/lang/IllegalArgumentException", Cond.classLink RL 21 "java/lang/IndexOutOfBoundsException", Cond.methodLink RL 50 yX4_foresee, Cond.instanceMethod yX4_foresee, Cond.selects RX4 yX4_foresee yX4_foresee, Cond.initialized RX4, Cond.code yX4_foresee cX4_foresee 3 (some .int), Cond.fieldLink RX4 19 "StampSheets" "trial" "LStampSheets$Trial;", Cond.fieldLink RX4 12 "StampSheets" "machine" "LStampSheets$Machine;", Cond.fieldLink RX4 23 "StampSheets" "plateInverted" "[Z", Cond.methodLink RX4 126 yX4_checkSheetsToRun, Cond.static yX4_checkSheetsToRun, Cond.code yX4_checkSheetsToRun cX4_checkSheetsToRun 1 none, Cond.classLink RX4 38 "java/lang/IllegalArgumentException", Cond.initialized "java/lang/IllegalArgumentException", Cond.methodLink RX4 34 yX4_isWithin, Cond.static yX4_isWithin, Cond.code yX4_isWithin cX4_isWithin 3 (some .boolean), Cond.methodLink RX4 116 yX4_checkWhat, Cond.static yX4_checkWhat, Cond.code yX4_checkWhat cX4_checkWhat 2 none, Cond.classLink RX4 150 "java/lang/IndexOutOfBoundsException", Cond.initialized "java/lang/IndexOutOfBoundsException", Cond.methodLink RX4 129 yX3_perforateFrom]
def wsL_foresee_r2 : List Cond := [Cond.instanceMethod yX3_perforateFrom, Cond.selects RX3 yX3_perforateFrom yX3_perforateFrom, Cond.initialized RX3, Cond.code yX3_perforateFrom cX3_perforateFrom 6 none, Cond.fieldLink RX3 10 "StampSheets$Trial" "machine" "LStampSheets$Machine;", Cond.fieldLink RX3 31 "StampSheets$Trial" "faultless" "I", Cond.fieldLink RX3 34 "StampSheets$Trial" "worth" "I", Cond.fieldLink RX3 19 "StampSheets$Trial" "sheet" "LStampSheets$Sheet;", Cond.methodLink RX3 23 yX0_becomeLike, Cond.instanceMethod yX0_becomeLike, Cond.selects RX0 yX0_becomeLike yX0_becomeLike, Cond.initialized RX0, Cond.code yX0_becomeLike cX0_becomeLike 3 none, Cond.fieldLink RX0 20 "StampSheets$Machine" "pins" "[LStampSheets$Pin;", Cond.fieldLink RX0 9 "StampSheets$Machine" "feed" "I", Cond.fieldLink RX0 29 "StampSheets$Machine" "drift" "I", Cond.fieldLink RX0 32 "StampSheets$Machine" "error" "I", Cond.fieldLink RX0 35 "StampSheets$Machine" "rowsLeft" "I", Cond.fieldLink RX0 38 "StampSheets$Machine" "rowsRun" "I", Cond.fieldLink RX0 15 "StampSheets$Machine" "step" "I", Cond.methodLink RX0 25 yX1_becomeLike, Cond.instanceMethod yX1_becomeLike, Cond.selects RX1 yX1_becomeLike yX1_becomeLike, Cond.initialized RX1]
def wsL_foresee_r3 : List Cond := [Cond.code yX1_becomeLike cX1_becomeLike 2 none, Cond.fieldLink RX1 9 "StampSheets$Pin" "strength" "I", Cond.fieldLink RX1 15 "StampSheets$Pin" "wear" "I", Cond.methodLink RX3 37 yX0_perforate, Cond.instanceMethod yX0_perforate, Cond.selects RX0 yX0_perforate yX0_perforate, Cond.code yX0_perforate cX0_perforate 4 none, Cond.methodLink RX0 48 Lib.Math.min.name, Cond.static Lib.Math.min.name, Cond.initialized "java/lang/Math", Cond.code Lib.Math.min.name Lib.Math.min.code 2 (some .int), Cond.methodLink RX0 54 Lib.Math.max.name, Cond.static Lib.Math.max.name, Cond.code Lib.Math.max.name Lib.Math.max.code 2 (some .int), Cond.methodLink RX0 41 yX0_markRow, Cond.instanceMethod yX0_markRow, Cond.selects RX0 yX0_markRow yX0_markRow, Cond.code yX0_markRow cX0_markRow 8 none, Cond.methodLink RX0 61 yX0_holeFaults, Cond.instanceMethod yX0_holeFaults, Cond.selects RX0 yX0_holeFaults yX0_holeFaults, Cond.code yX0_holeFaults cX0_holeFaults 3 (some .int), Cond.methodLink RX0 75 yX1_isWhole, Cond.instanceMethod yX1_isWhole]
def wsL_foresee_r4 : List Cond := [Cond.selects RX1 yX1_isWhole yX1_isWhole, Cond.code yX1_isWhole cX1_isWhole 1 (some .boolean), Cond.methodLink RX0 65 yX0_hasWatermark, Cond.instanceMethod yX0_hasWatermark, Cond.selects RX0 yX0_hasWatermark yX0_hasWatermark, Cond.code yX0_hasWatermark cX0_hasWatermark 2 (some .boolean), Cond.methodLink RX0 45 yX0_strikeAll, Cond.instanceMethod yX0_strikeAll, Cond.selects RX0 yX0_strikeAll yX0_strikeAll, Cond.code yX0_strikeAll cX0_strikeAll 2 none, Cond.methodLink RX0 79 yX1_strike, Cond.instanceMethod yX1_strike, Cond.selects RX1 yX1_strike yX1_strike, Cond.code yX1_strike cX1_strike 1 none, Cond.methodLink RX1 18 yX1_isWhole, Cond.methodLink RX3 41 yX2_leftWith, Cond.instanceMethod yX2_leftWith, Cond.selects RX2 yX2_leftWith yX2_leftWith, Cond.initialized RX2, Cond.code yX2_leftWith cX2_leftWith 4 (some .int), Cond.methodLink RX2 42 yX2_isLeftWith, Cond.instanceMethod yX2_isLeftWith, Cond.selects RX2 yX2_isLeftWith yX2_isLeftWith, Cond.code yX2_isLeftWith cX2_isLeftWith 3 (some .boolean)]
def wsL_foresee_r5 : List Cond := [Cond.fieldLink RX2 15 "StampSheets$Sheet" "tornOff" "[Z", Cond.fieldLink RX2 9 "StampSheets$Sheet" "faultSets" "[I", Cond.methodLink RX3 45 yX2_worth, Cond.instanceMethod yX2_worth, Cond.selects RX2 yX2_worth yX2_worth, Cond.code yX2_worth cX2_worth 3 (some .int), Cond.methodLink RX2 39 yX2_worthOf, Cond.instanceMethod yX2_worthOf, Cond.selects RX2 yX2_worthOf yX2_worthOf, Cond.code yX2_worthOf cX2_worthOf 4 (some .int), Cond.methodLink RX4 133 yX3_answer, Cond.instanceMethod yX3_answer, Cond.selects RX3 yX3_answer yX3_answer, Cond.code yX3_answer cX3_answer 2 (some .int), Cond.methodLink RX3 48 yX0_brokenPins, Cond.instanceMethod yX0_brokenPins, Cond.selects RX0 yX0_brokenPins yX0_brokenPins, Cond.code yX0_brokenPins cX0_brokenPins 3 (some .int)]
def wsL_foresee : List Cond := .codeWith yL_foresee cL_foresee 5 (some .int) [(0, 10, 13, 13), (0, 10, 17, 21)] :: ((wsL_foresee_r1 ++ (wsL_foresee_r2 ++ (wsL_foresee_r3 ++ (wsL_foresee_r4 ++ wsL_foresee_r5)))) ++ wsX40 ++ wsX00 ++ wsX30 ++ wsX10 ++ wsX20 ++ (vx_atS RX4 42 "java/lang/IllegalArgumentException" ["java/lang/RuntimeException", "java/lang/Exception"]).filter goodWord ++ (vx_atS RX4 154 "java/lang/IndexOutOfBoundsException" ["java/lang/RuntimeException", "java/lang/Exception"]).filter goodWord)
def wsL_advise_r1 : List Cond := [Cond.classLink RL 13 "java/lang/IllegalArgumentException", Cond.methodLink RL 53 yX4_advise, Cond.instanceMethod yX4_advise, Cond.selects RX4 yX4_advise yX4_advise, Cond.initialized RX4, Cond.code yX4_advise cX4_advise 5 (some .int), Cond.fieldLink RX4 19 "StampSheets" "trial" "LStampSheets$Trial;", Cond.fieldLink RX4 12 "StampSheets" "machine" "LStampSheets$Machine;", Cond.fieldLink RX4 23 "StampSheets" "plateInverted" "[Z", Cond.methodLink RX4 126 yX4_checkSheetsToRun, Cond.static yX4_checkSheetsToRun, Cond.code yX4_checkSheetsToRun cX4_checkSheetsToRun 1 none, Cond.classLink RX4 38 "java/lang/IllegalArgumentException", Cond.initialized "java/lang/IllegalArgumentException", Cond.methodLink RX4 34 yX4_isWithin, Cond.static yX4_isWithin, Cond.code yX4_isWithin cX4_isWithin 3 (some .boolean), Cond.methodLink RX4 129 yX3_perforateFrom, Cond.instanceMethod yX3_perforateFrom, Cond.selects RX3 yX3_perforateFrom yX3_perforateFrom, Cond.initialized RX3, Cond.code yX3_perforateFrom cX3_perforateFrom 6 none, Cond.fieldLink RX3 10 "StampSheets$Trial" "machine" "LStampSheets$Machine;", Cond.fieldLink RX3 31 "StampSheets$Trial" "faultless" "I"]
def wsL_advise_r2 : List Cond := [Cond.fieldLink RX3 34 "StampSheets$Trial" "worth" "I", Cond.fieldLink RX3 19 "StampSheets$Trial" "sheet" "LStampSheets$Sheet;", Cond.methodLink RX3 23 yX0_becomeLike, Cond.instanceMethod yX0_becomeLike, Cond.selects RX0 yX0_becomeLike yX0_becomeLike, Cond.initialized RX0, Cond.code yX0_becomeLike cX0_becomeLike 3 none, Cond.fieldLink RX0 20 "StampSheets$Machine" "pins" "[LStampSheets$Pin;", Cond.fieldLink RX0 9 "StampSheets$Machine" "feed" "I", Cond.fieldLink RX0 29 "StampSheets$Machine" "drift" "I", Cond.fieldLink RX0 32 "StampSheets$Machine" "error" "I", Cond.fieldLink RX0 35 "StampSheets$Machine" "rowsLeft" "I", Cond.fieldLink RX0 38 "StampSheets$Machine" "rowsRun" "I", Cond.fieldLink RX0 15 "StampSheets$Machine" "step" "I", Cond.methodLink RX0 25 yX1_becomeLike, Cond.instanceMethod yX1_becomeLike, Cond.selects RX1 yX1_becomeLike yX1_becomeLike, Cond.initialized RX1, Cond.code yX1_becomeLike cX1_becomeLike 2 none, Cond.fieldLink RX1 9 "StampSheets$Pin" "strength" "I", Cond.fieldLink RX1 15 "StampSheets$Pin" "wear" "I", Cond.methodLink RX3 37 yX0_perforate, Cond.instanceMethod yX0_perforate, Cond.selects RX0 yX0_perforate yX0_perforate]
def wsL_advise_r3 : List Cond := [Cond.code yX0_perforate cX0_perforate 4 none, Cond.methodLink RX0 48 Lib.Math.min.name, Cond.static Lib.Math.min.name, Cond.initialized "java/lang/Math", Cond.code Lib.Math.min.name Lib.Math.min.code 2 (some .int), Cond.methodLink RX0 54 Lib.Math.max.name, Cond.static Lib.Math.max.name, Cond.code Lib.Math.max.name Lib.Math.max.code 2 (some .int), Cond.methodLink RX0 41 yX0_markRow, Cond.instanceMethod yX0_markRow, Cond.selects RX0 yX0_markRow yX0_markRow, Cond.code yX0_markRow cX0_markRow 8 none, Cond.methodLink RX0 61 yX0_holeFaults, Cond.instanceMethod yX0_holeFaults, Cond.selects RX0 yX0_holeFaults yX0_holeFaults, Cond.code yX0_holeFaults cX0_holeFaults 3 (some .int), Cond.methodLink RX0 75 yX1_isWhole, Cond.instanceMethod yX1_isWhole, Cond.selects RX1 yX1_isWhole yX1_isWhole, Cond.code yX1_isWhole cX1_isWhole 1 (some .boolean), Cond.methodLink RX0 65 yX0_hasWatermark, Cond.instanceMethod yX0_hasWatermark, Cond.selects RX0 yX0_hasWatermark yX0_hasWatermark, Cond.code yX0_hasWatermark cX0_hasWatermark 2 (some .boolean)]
def wsL_advise_r4 : List Cond := [Cond.methodLink RX0 45 yX0_strikeAll, Cond.instanceMethod yX0_strikeAll, Cond.selects RX0 yX0_strikeAll yX0_strikeAll, Cond.code yX0_strikeAll cX0_strikeAll 2 none, Cond.methodLink RX0 79 yX1_strike, Cond.instanceMethod yX1_strike, Cond.selects RX1 yX1_strike yX1_strike, Cond.code yX1_strike cX1_strike 1 none, Cond.methodLink RX1 18 yX1_isWhole, Cond.methodLink RX3 41 yX2_leftWith, Cond.instanceMethod yX2_leftWith, Cond.selects RX2 yX2_leftWith yX2_leftWith, Cond.initialized RX2, Cond.code yX2_leftWith cX2_leftWith 4 (some .int), Cond.methodLink RX2 42 yX2_isLeftWith, Cond.instanceMethod yX2_isLeftWith, Cond.selects RX2 yX2_isLeftWith yX2_isLeftWith, Cond.code yX2_isLeftWith cX2_isLeftWith 3 (some .boolean), Cond.fieldLink RX2 15 "StampSheets$Sheet" "tornOff" "[Z", Cond.fieldLink RX2 9 "StampSheets$Sheet" "faultSets" "[I", Cond.methodLink RX3 45 yX2_worth, Cond.instanceMethod yX2_worth, Cond.selects RX2 yX2_worth yX2_worth, Cond.code yX2_worth cX2_worth 3 (some .int)]
def wsL_advise_r5 : List Cond := [Cond.methodLink RX2 39 yX2_worthOf, Cond.instanceMethod yX2_worthOf, Cond.selects RX2 yX2_worthOf yX2_worthOf, Cond.code yX2_worthOf cX2_worthOf 4 (some .int)]
def wsL_advise : List Cond := .codeWith yL_advise cL_advise 4 (some .int) [(0, 9, 12, 13)] :: ((wsL_advise_r1 ++ (wsL_advise_r2 ++ (wsL_advise_r3 ++ (wsL_advise_r4 ++ wsL_advise_r5)))) ++ wsX40 ++ wsX30 ++ wsX00 ++ wsX10 ++ wsX20 ++ (vx_atS RX4 42 "java/lang/IllegalArgumentException" ["java/lang/RuntimeException", "java/lang/Exception"]).filter goodWord)
def wsL_like_r1 : List Cond := [Cond.classLink RL 13 "java/lang/IllegalArgumentException", Cond.methodLink RL 56 yX4_like, Cond.instanceMethod yX4_like, Cond.selects RX4 yX4_like yX4_like, Cond.initialized RX4, Cond.code yX4_like cX4_like 2 (some .int), Cond.classLink RX4 38 "java/lang/IllegalArgumentException", Cond.initialized "java/lang/IllegalArgumentException", Cond.methodLink RX4 34 yX4_isWithin, Cond.static yX4_isWithin, Cond.code yX4_isWithin cX4_isWithin 3 (some .boolean), Cond.methodLink RX4 139 yX4_stampsWith, Cond.instanceMethod yX4_stampsWith, Cond.selects RX4 yX4_stampsWith yX4_stampsWith, Cond.code yX4_stampsWith cX4_stampsWith 4 (some .int), Cond.fieldLink RX4 88 "StampSheets" "sheetCount" "I", Cond.fieldLink RX4 29 "StampSheets" "sheetStore" "[LStampSheets$Sheet;", Cond.methodLink RX4 176 yX2_leftWith, Cond.instanceMethod yX2_leftWith, Cond.selects RX2 yX2_leftWith yX2_leftWith, Cond.initialized RX2, Cond.code yX2_leftWith cX2_leftWith 4 (some .int), Cond.methodLink RX2 42 yX2_isLeftWith, Cond.instanceMethod yX2_isLeftWith]
def wsL_like_r2 : List Cond := [Cond.selects RX2 yX2_isLeftWith yX2_isLeftWith, Cond.code yX2_isLeftWith cX2_isLeftWith 3 (some .boolean), Cond.fieldLink RX2 15 "StampSheets$Sheet" "tornOff" "[Z", Cond.fieldLink RX2 9 "StampSheets$Sheet" "faultSets" "[I"]
def wsL_like : List Cond := .codeWith yL_like cL_like 4 (some .int) [(0, 9, 12, 13)] :: ((wsL_like_r1 ++ wsL_like_r2) ++ wsX40 ++ wsX20 ++ (vx_atS RX4 42 "java/lang/IllegalArgumentException" ["java/lang/RuntimeException", "java/lang/Exception"]).filter goodWord)
def wsL_law0_r1 : List Cond := [Cond.classLink RL 8 RX4, Cond.instantiable RX4 5, Cond.initialized RX4, Cond.classLink RL 60 RX5, Cond.instantiable RX5 8, Cond.initialized RX5, Cond.arrayClass .long, Cond.methodLink RL 59 yX4_init, Cond.instanceMethod yX4_init, Cond.code yX4_init cX4_init 2 none, Cond.methodLink RX4 3 objectInit, Cond.instanceMethod objectInit, Cond.code objectInit ⟨#[0xb1]⟩ 1 none, Cond.classLink RX4 9 RX0, Cond.instantiable RX0 7, Cond.initialized RX0, Cond.fieldLink RX4 12 "StampSheets" "machine" "LStampSheets$Machine;", Cond.classLink RX4 16 RX3, Cond.instantiable RX3 4, Cond.initialized RX3, Cond.fieldLink RX4 19 "StampSheets" "trial" "LStampSheets$Trial;", Cond.arrayClass .boolean, Cond.fieldLink RX4 23 "StampSheets" "plateInverted" "[Z", Cond.classLink RX4 27 RX2]
def wsL_law0_r2 : List Cond := [Cond.fieldLink RX4 29 "StampSheets" "sheetStore" "[LStampSheets$Sheet;", Cond.instantiable RX2 2, Cond.initialized RX2, Cond.methodLink RX4 11 yX0_init, Cond.instanceMethod yX0_init, Cond.code yX0_init cX0_init 2 none, Cond.methodLink RX0 3 objectInit, Cond.fieldLink RX0 9 "StampSheets$Machine" "feed" "I", Cond.fieldLink RX0 15 "StampSheets$Machine" "step" "I", Cond.classLink RX0 18 RX1, Cond.fieldLink RX0 20 "StampSheets$Machine" "pins" "[LStampSheets$Pin;", Cond.instantiable RX1 2, Cond.initialized RX1, Cond.instanceMethod yX1_init, Cond.code yX1_init cX1_init 1 none, Cond.methodLink RX1 3 objectInit, Cond.fieldLink RX1 9 "StampSheets$Pin" "strength" "I", Cond.methodLink RX4 18 yX3_init, Cond.instanceMethod yX3_init, Cond.code yX3_init cX3_init 1 none, Cond.methodLink RX3 1 objectInit, Cond.classLink RX3 7 RX0, Cond.fieldLink RX3 10 "StampSheets$Trial" "machine" "LStampSheets$Machine;", Cond.classLink RX3 16 RX2]
def wsL_law0_r3 : List Cond := [Cond.fieldLink RX3 19 "StampSheets$Trial" "sheet" "LStampSheets$Sheet;", Cond.methodLink RX3 9 yX0_init, Cond.methodLink RX3 18 yX2_init, Cond.instanceMethod yX2_init, Cond.code yX2_init cX2_init 1 none, Cond.methodLink RX2 3 objectInit, Cond.arrayClass .int, Cond.fieldLink RX2 9 "StampSheets$Sheet" "faultSets" "[I", Cond.fieldLink RX2 15 "StampSheets$Sheet" "tornOff" "[Z", Cond.methodLink RX4 33 yX2_init, Cond.methodLink RL 62 yX5_init, Cond.instanceMethod yX5_init, Cond.code yX5_init cX5_init 2 none, Cond.methodLink RX5 1 objectInit, Cond.fieldLink RX5 9 "StampSheetsModel" "stamps" "[I", Cond.fieldLink RX5 13 "StampSheetsModel" "machine" "[I", Cond.fieldLink RX5 16 "StampSheetsModel" "strength" "[I", Cond.fieldLink RX5 19 "StampSheetsModel" "wear" "[I", Cond.fieldLink RX5 22 "StampSheetsModel" "plate" "[Z", Cond.fieldLink RX5 26 "StampSheetsModel" "sheet" "[I", Cond.methodLink RL 63 yL_setFeed, Cond.static yL_setFeed, Cond.initialized RL, Cond.codeWith yL_setFeed cL_setFeed 5 (some .int) [(0, 10, 13, 13)]]
def wsL_law0_r4 : List Cond := [Cond.classLink RL 13 "java/lang/IllegalArgumentException", Cond.methodLink RL 7 yX4_setFeed, Cond.instanceMethod yX4_setFeed, Cond.selects RX4 yX4_setFeed yX4_setFeed, Cond.code yX4_setFeed cX4_setFeed 4 (some .int), Cond.classLink RX4 38 "java/lang/IllegalArgumentException", Cond.initialized "java/lang/IllegalArgumentException", Cond.methodLink RX4 34 yX4_isWithin, Cond.static yX4_isWithin, Cond.code yX4_isWithin cX4_isWithin 3 (some .boolean), Cond.methodLink RL 68 yX5_setFeed, Cond.instanceMethod yX5_setFeed, Cond.selects RX5 yX5_setFeed yX5_setFeed, Cond.code yX5_setFeed cX5_setFeed 4 (some .int), Cond.fieldLink RX5 29 "StampSheetsModel" "thrown" "I", Cond.methodLink RX5 36 yX5_isIn, Cond.static yX5_isIn, Cond.code yX5_isIn cX5_isIn 3 (some .boolean), Cond.methodLink RX5 40 yX5_fail, Cond.instanceMethod yX5_fail, Cond.selects RX5 yX5_fail yX5_fail, Cond.code yX5_fail cX5_fail 2 (some .int), Cond.methodLink RL 69 yX5_thrown, Cond.instanceMethod yX5_thrown]
def wsL_law0_r5 : List Cond := [Cond.selects RX5 yX5_thrown yX5_thrown, Cond.code yX5_thrown cX5_thrown 1 (some .int), Cond.methodLink RL 72 yX4_align, Cond.instanceMethod yX4_align, Cond.selects RX4 yX4_align yX4_align, Cond.code yX4_align cX4_align 2 (some .int), Cond.methodLink RL 75 yX5_align, Cond.instanceMethod yX5_align, Cond.selects RX5 yX5_align yX5_align, Cond.code yX5_align cX5_align 2 (some .int), Cond.methodLink RL 76 yL_roll, Cond.static yL_roll, Cond.codeWith yL_roll cL_roll 5 (some .int) [(0, 10, 13, 13)], Cond.methodLink RL 15 yX4_roll, Cond.instanceMethod yX4_roll, Cond.selects RX4 yX4_roll yX4_roll, Cond.code yX4_roll cX4_roll 4 (some .int), Cond.methodLink RL 78 yX5_roll, Cond.instanceMethod yX5_roll, Cond.selects RX5 yX5_roll yX5_roll, Cond.code yX5_roll cX5_roll 4 (some .int), Cond.methodLink RL 79 yL_fit, Cond.static yL_fit, Cond.codeWith yL_fit cL_fit 5 (some .int) [(0, 10, 13, 21), (0, 10, 17, 13)]]
def wsL_law0_r6 : List Cond := [Cond.classLink RL 21 "java/lang/IndexOutOfBoundsException", Cond.methodLink RL 18 yX4_fit, Cond.instanceMethod yX4_fit, Cond.selects RX4 yX4_fit yX4_fit, Cond.code yX4_fit cX4_fit 5 (some .int), Cond.methodLink RX4 66 yX4_checkPin, Cond.static yX4_checkPin, Cond.code yX4_checkPin cX4_checkPin 1 none, Cond.classLink RX4 150 "java/lang/IndexOutOfBoundsException", Cond.initialized "java/lang/IndexOutOfBoundsException", Cond.methodLink RL 81 yX5_fit, Cond.instanceMethod yX5_fit, Cond.selects RX5 yX5_fit yX5_fit, Cond.code yX5_fit cX5_fit 4 (some .int), Cond.methodLink RL 82 yL_turn, Cond.static yL_turn, Cond.codeWith yL_turn cL_turn 5 (some .int) [(0, 17, 20, 21)], Cond.methodLink RL 23 yX4_turn, Cond.instanceMethod yX4_turn, Cond.selects RX4 yX4_turn yX4_turn, Cond.code yX4_turn cX4_turn 4 (some .boolean), Cond.methodLink RX4 84 yX4_checkPlace, Cond.static yX4_checkPlace, Cond.code yX4_checkPlace cX4_checkPlace 2 none]
def wsL_law0_r7 : List Cond := [Cond.methodLink RL 84 yX5_turn, Cond.instanceMethod yX5_turn, Cond.selects RX5 yX5_turn yX5_turn, Cond.code yX5_turn cX5_turn 3 (some .boolean), Cond.methodLink RX5 44 yX5_isPlace, Cond.static yX5_isPlace, Cond.code yX5_isPlace cX5_isPlace 2 (some .boolean), Cond.methodLink RL 85 yL_run, Cond.static yL_run, Cond.codeWith yL_run cL_run 3 (some .int) [(0, 8, 11, 31)], Cond.classLink RL 31 "java/lang/IllegalStateException", Cond.methodLink RL 27 yX4_run, Cond.instanceMethod yX4_run, Cond.selects RX4 yX4_run yX4_run, Cond.code yX4_run cX4_run 1 (some .int), Cond.classLink RX4 91 "java/lang/IllegalStateException", Cond.initialized "java/lang/IllegalStateException", Cond.fieldLink RX4 88 "StampSheets" "sheetCount" "I", Cond.methodLink RX4 96 yX0_perforate, Cond.instanceMethod yX0_perforate, Cond.selects RX0 yX0_perforate yX0_perforate, Cond.code yX0_perforate cX0_perforate 4 none, Cond.fieldLink RX0 32 "StampSheets$Machine" "error" "I", Cond.fieldLink RX0 35 "StampSheets$Machine" "rowsLeft" "I"]
def wsL_law0_r8 : List Cond := [Cond.fieldLink RX0 38 "StampSheets$Machine" "rowsRun" "I", Cond.fieldLink RX0 29 "StampSheets$Machine" "drift" "I", Cond.methodLink RX0 48 Lib.Math.min.name, Cond.static Lib.Math.min.name, Cond.initialized "java/lang/Math", Cond.code Lib.Math.min.name Lib.Math.min.code 2 (some .int), Cond.methodLink RX0 54 Lib.Math.max.name, Cond.static Lib.Math.max.name, Cond.code Lib.Math.max.name Lib.Math.max.code 2 (some .int), Cond.methodLink RX0 41 yX0_markRow, Cond.instanceMethod yX0_markRow, Cond.selects RX0 yX0_markRow yX0_markRow, Cond.code yX0_markRow cX0_markRow 8 none, Cond.methodLink RX0 61 yX0_holeFaults, Cond.instanceMethod yX0_holeFaults, Cond.selects RX0 yX0_holeFaults yX0_holeFaults, Cond.code yX0_holeFaults cX0_holeFaults 3 (some .int), Cond.methodLink RX0 75 yX1_isWhole, Cond.instanceMethod yX1_isWhole, Cond.selects RX1 yX1_isWhole yX1_isWhole, Cond.code yX1_isWhole cX1_isWhole 1 (some .boolean), Cond.fieldLink RX1 15 "StampSheets$Pin" "wear" "I", Cond.methodLink RX0 65 yX0_hasWatermark, Cond.instanceMethod yX0_hasWatermark]
def wsL_law0_r9 : List Cond := [Cond.selects RX0 yX0_hasWatermark yX0_hasWatermark, Cond.code yX0_hasWatermark cX0_hasWatermark 2 (some .boolean), Cond.methodLink RX0 45 yX0_strikeAll, Cond.instanceMethod yX0_strikeAll, Cond.selects RX0 yX0_strikeAll yX0_strikeAll, Cond.code yX0_strikeAll cX0_strikeAll 2 none, Cond.methodLink RX0 79 yX1_strike, Cond.instanceMethod yX1_strike, Cond.selects RX1 yX1_strike yX1_strike, Cond.code yX1_strike cX1_strike 1 none, Cond.methodLink RX1 18 yX1_isWhole, Cond.methodLink RL 88 yX5_run, Cond.instanceMethod yX5_run, Cond.selects RX5 yX5_run yX5_run, Cond.code yX5_run cX5_run 1 (some .int), Cond.fieldLink RX5 33 "StampSheetsModel" "sheets" "I", Cond.methodLink RX5 68 arraycopyName, Cond.native arraycopyName, Cond.static arraycopyName, Cond.initialized "java/lang/System", Cond.methodLink RX5 65 yX5_runSheet, Cond.instanceMethod yX5_runSheet, Cond.selects RX5 yX5_runSheet yX5_runSheet, Cond.code yX5_runSheet cX5_runSheet 2 none]
def wsL_law0_r10 : List Cond := [Cond.methodLink RX5 56 Lib.Math.min.name, Cond.methodLink RX5 62 Lib.Math.max.name, Cond.methodLink RX5 52 yX5_runRow, Cond.instanceMethod yX5_runRow, Cond.selects RX5 yX5_runRow yX5_runRow, Cond.code yX5_runRow cX5_runRow 4 none, Cond.methodLink RX5 48 yX5_isWhole, Cond.instanceMethod yX5_isWhole, Cond.selects RX5 yX5_isWhole yX5_isWhole, Cond.code yX5_isWhole cX5_isWhole 2 (some .boolean), Cond.methodLink RL 89 yL_faults, Cond.static yL_faults, Cond.codeWith yL_faults cL_faults 6 (some .int) [(0, 12, 15, 21)], Cond.methodLink RL 33 yX4_faults, Cond.instanceMethod yX4_faults, Cond.selects RX4 yX4_faults yX4_faults, Cond.code yX4_faults cX4_faults 4 (some .int), Cond.methodLink RX4 100 yX4_checkSheet, Cond.instanceMethod yX4_checkSheet, Cond.selects RX4 yX4_checkSheet yX4_checkSheet, Cond.code yX4_checkSheet cX4_checkSheet 2 none, Cond.methodLink RL 92 yX5_faults, Cond.instanceMethod yX5_faults, Cond.selects RX5 yX5_faults yX5_faults]
def wsL_law0_r11 : List Cond := [Cond.code yX5_faults cX5_faults 4 (some .int), Cond.methodLink RX5 74 yX5_isSheet, Cond.instanceMethod yX5_isSheet, Cond.selects RX5 yX5_isSheet yX5_isSheet, Cond.code yX5_isSheet cX5_isSheet 2 (some .boolean), Cond.methodLink RL 93 yL_tear, Cond.static yL_tear, Cond.codeWith yL_tear cL_tear 6 (some .int) [(0, 12, 15, 21), (0, 12, 19, 31)], Cond.methodLink RL 37 yX4_tear, Cond.instanceMethod yX4_tear, Cond.selects RX4 yX4_tear yX4_tear, Cond.code yX4_tear cX4_tear 7 (some .int), Cond.methodLink RX4 112 yX2_worthOf, Cond.instanceMethod yX2_worthOf, Cond.selects RX2 yX2_worthOf yX2_worthOf, Cond.code yX2_worthOf cX2_worthOf 4 (some .int), Cond.methodLink RL 95 yX5_tear, Cond.instanceMethod yX5_tear, Cond.selects RX5 yX5_tear yX5_tear, Cond.code yX5_tear cX5_tear 6 (some .int), Cond.methodLink RX5 77 yX5_worth, Cond.static yX5_worth, Cond.code yX5_worth cX5_worth 1 (some .int), Cond.methodLink RL 96 yL_sheet]
def wsL_law0_r12 : List Cond := [Cond.static yL_sheet, Cond.codeWith yL_sheet cL_sheet 5 (some .int) [(0, 10, 13, 21)], Cond.methodLink RL 40 yX4_sheet, Cond.instanceMethod yX4_sheet, Cond.selects RX4 yX4_sheet yX4_sheet, Cond.code yX4_sheet cX4_sheet 3 (some .int), Cond.methodLink RX4 116 yX4_checkWhat, Cond.static yX4_checkWhat, Cond.code yX4_checkWhat cX4_checkWhat 2 none, Cond.methodLink RX4 119 yX2_answer, Cond.instanceMethod yX2_answer, Cond.selects RX2 yX2_answer yX2_answer, Cond.code yX2_answer cX2_answer 2 (some .int), Cond.methodLink RX2 19 yX2_left, Cond.instanceMethod yX2_left, Cond.selects RX2 yX2_left yX2_left, Cond.code yX2_left cX2_left 3 (some .int), Cond.methodLink RX2 23 yX2_leftWith, Cond.instanceMethod yX2_leftWith, Cond.selects RX2 yX2_leftWith yX2_leftWith, Cond.code yX2_leftWith cX2_leftWith 4 (some .int), Cond.methodLink RX2 42 yX2_isLeftWith, Cond.instanceMethod yX2_isLeftWith, Cond.selects RX2 yX2_isLeftWith yX2_isLeftWith]
def wsL_law0_r13 : List Cond := [Cond.code yX2_isLeftWith cX2_isLeftWith 3 (some .boolean), Cond.methodLink RX2 27 yX2_worth, Cond.instanceMethod yX2_worth, Cond.selects RX2 yX2_worth yX2_worth, Cond.code yX2_worth cX2_worth 3 (some .int), Cond.methodLink RX2 39 yX2_worthOf, Cond.methodLink RX2 30 yX2_invertedPairs, Cond.instanceMethod yX2_invertedPairs, Cond.selects RX2 yX2_invertedPairs yX2_invertedPairs, Cond.code yX2_invertedPairs cX2_invertedPairs 4 (some .int), Cond.methodLink RX2 46 yX2_isInvertedPair, Cond.instanceMethod yX2_isInvertedPair, Cond.selects RX2 yX2_isInvertedPair yX2_isInvertedPair, Cond.code yX2_isInvertedPair cX2_isInvertedPair 3 (some .boolean), Cond.methodLink RX2 33 yX2_rowsOff, Cond.instanceMethod yX2_rowsOff, Cond.selects RX2 yX2_rowsOff yX2_rowsOff, Cond.code yX2_rowsOff cX2_rowsOff 3 (some .int), Cond.methodLink RX2 36 yX2_greatestBlock, Cond.instanceMethod yX2_greatestBlock, Cond.selects RX2 yX2_greatestBlock yX2_greatestBlock, Cond.code yX2_greatestBlock cX2_greatestBlock 5 (some .int), Cond.methodLink RX2 56 Lib.Math.max.name, Cond.methodLink RX2 50 yX2_goodColumns]
def wsL_law0_r14 : List Cond := [Cond.instanceMethod yX2_goodColumns, Cond.selects RX2 yX2_goodColumns yX2_goodColumns, Cond.code yX2_goodColumns cX2_goodColumns 4 (some .int), Cond.methodLink RX2 53 yX2_longestRun, Cond.static yX2_longestRun, Cond.code yX2_longestRun cX2_longestRun 4 (some .int), Cond.methodLink RL 98 yX5_sheet, Cond.instanceMethod yX5_sheet, Cond.selects RX5 yX5_sheet yX5_sheet, Cond.code yX5_sheet cX5_sheet 3 (some .int), Cond.methodLink RX5 90 yX5_sheetTold, Cond.instanceMethod yX5_sheetTold, Cond.selects RX5 yX5_sheetTold yX5_sheetTold, Cond.code yX5_sheetTold cX5_sheetTold 7 (some .int), Cond.methodLink RX5 84 yX5_pairs, Cond.instanceMethod yX5_pairs, Cond.selects RX5 yX5_pairs yX5_pairs, Cond.code yX5_pairs cX5_pairs 4 (some .int), Cond.methodLink RX5 87 yX5_block, Cond.instanceMethod yX5_block, Cond.selects RX5 yX5_block yX5_block, Cond.code yX5_block cX5_block 7 (some .int), Cond.methodLink RX5 80 yX5_isClean, Cond.instanceMethod yX5_isClean]
def wsL_law0_r15 : List Cond := [Cond.selects RX5 yX5_isClean yX5_isClean, Cond.code yX5_isClean cX5_isClean 8 (some .boolean), Cond.methodLink RL 99 yL_pin, Cond.static yL_pin, Cond.codeWith yL_pin cL_pin 5 (some .int) [(0, 10, 13, 21)], Cond.methodLink RL 43 yX4_pin, Cond.instanceMethod yX4_pin, Cond.selects RX4 yX4_pin yX4_pin, Cond.code yX4_pin cX4_pin 3 (some .int), Cond.methodLink RX4 122 yX1_answer, Cond.instanceMethod yX1_answer, Cond.selects RX1 yX1_answer yX1_answer, Cond.code yX1_answer cX1_answer 2 (some .int), Cond.methodLink RL 101 yX5_pin, Cond.instanceMethod yX5_pin, Cond.selects RX5 yX5_pin yX5_pin, Cond.code yX5_pin cX5_pin 3 (some .int), Cond.methodLink RX5 93 yX5_pinTold, Cond.instanceMethod yX5_pinTold, Cond.selects RX5 yX5_pinTold yX5_pinTold, Cond.code yX5_pinTold cX5_pinTold 3 (some .int), Cond.methodLink RL 102 yL_count, Cond.static yL_count, Cond.codeWith yL_count cL_count 4 (some .int) [(0, 9, 12, 21)]]
def wsL_law0_r16 : List Cond := [Cond.methodLink RL 46 yX4_count, Cond.instanceMethod yX4_count, Cond.selects RX4 yX4_count yX4_count, Cond.code yX4_count cX4_count 2 (some .int), Cond.methodLink RX4 123 yX4_countAnswer, Cond.instanceMethod yX4_countAnswer, Cond.selects RX4 yX4_countAnswer yX4_countAnswer, Cond.code yX4_countAnswer cX4_countAnswer 2 (some .int), Cond.methodLink RX4 163 yX0_brokenPins, Cond.instanceMethod yX0_brokenPins, Cond.selects RX0 yX0_brokenPins yX0_brokenPins, Cond.code yX0_brokenPins cX0_brokenPins 3 (some .int), Cond.methodLink RX4 167 yX4_invertedPlaces, Cond.instanceMethod yX4_invertedPlaces, Cond.selects RX4 yX4_invertedPlaces yX4_invertedPlaces, Cond.code yX4_invertedPlaces cX4_invertedPlaces 3 (some .int), Cond.methodLink RX4 170 yX4_worthOfSheets, Cond.instanceMethod yX4_worthOfSheets, Cond.selects RX4 yX4_worthOfSheets yX4_worthOfSheets, Cond.code yX4_worthOfSheets cX4_worthOfSheets 3 (some .int), Cond.methodLink RX4 173 yX2_worth, Cond.methodLink RL 105 yX5_count, Cond.instanceMethod yX5_count, Cond.selects RX5 yX5_count yX5_count]
def wsL_law0_r17 : List Cond := [Cond.code yX5_count cX5_count 2 (some .int), Cond.methodLink RX5 100 yX5_counted, Cond.instanceMethod yX5_counted, Cond.selects RX5 yX5_counted yX5_counted, Cond.code yX5_counted cX5_counted 7 (some .int), Cond.methodLink RX5 96 yX5_broken, Cond.instanceMethod yX5_broken, Cond.selects RX5 yX5_broken yX5_broken, Cond.code yX5_broken cX5_broken 3 (some .int), Cond.methodLink RL 106 yL_foresee, Cond.static yL_foresee, Cond.codeWith yL_foresee cL_foresee 5 (some .int) [(0, 10, 13, 13), (0, 10, 17, 21)], Cond.methodLink RL 50 yX4_foresee, Cond.instanceMethod yX4_foresee, Cond.selects RX4 yX4_foresee yX4_foresee, Cond.code yX4_foresee cX4_foresee 3 (some .int), Cond.methodLink RX4 126 yX4_checkSheetsToRun, Cond.static yX4_checkSheetsToRun, Cond.code yX4_checkSheetsToRun cX4_checkSheetsToRun 1 none, Cond.methodLink RX4 129 yX3_perforateFrom, Cond.instanceMethod yX3_perforateFrom, Cond.selects RX3 yX3_perforateFrom yX3_perforateFrom, Cond.code yX3_perforateFrom cX3_perforateFrom 6 none, Cond.fieldLink RX3 31 "StampSheets$Trial" "faultless" "I"]
def wsL_law0_r18 : List Cond := [Cond.fieldLink RX3 34 "StampSheets$Trial" "worth" "I", Cond.methodLink RX3 23 yX0_becomeLike, Cond.instanceMethod yX0_becomeLike, Cond.selects RX0 yX0_becomeLike yX0_becomeLike, Cond.code yX0_becomeLike cX0_becomeLike 3 none, Cond.methodLink RX0 25 yX1_becomeLike, Cond.instanceMethod yX1_becomeLike, Cond.selects RX1 yX1_becomeLike yX1_becomeLike, Cond.code yX1_becomeLike cX1_becomeLike 2 none, Cond.methodLink RX3 37 yX0_perforate, Cond.methodLink RX3 41 yX2_leftWith, Cond.methodLink RX3 45 yX2_worth, Cond.methodLink RX4 133 yX3_answer, Cond.instanceMethod yX3_answer, Cond.selects RX3 yX3_answer yX3_answer, Cond.code yX3_answer cX3_answer 2 (some .int), Cond.methodLink RX3 48 yX0_brokenPins, Cond.methodLink RL 108 yX5_foresee, Cond.instanceMethod yX5_foresee, Cond.selects RX5 yX5_foresee yX5_foresee, Cond.code yX5_foresee cX5_foresee 6 (some .int), Cond.methodLink RX5 108 yX5_kept, Cond.instanceMethod yX5_kept, Cond.selects RX5 yX5_kept yX5_kept]
def wsL_law0_r19 : List Cond := [Cond.code yX5_kept cX5_kept 1 (some (.array (.array .int))), Cond.classLink RX5 103 "[I", Cond.methodLink RX5 104 ⟨"[I", "clone", "()Ljava/lang/Object;"⟩, Cond.sameMethod "[I" "java/lang/Object" "clone" "()Ljava/lang/Object;", Cond.native ⟨"java/lang/Object", "clone", "()Ljava/lang/Object;"⟩, Cond.instanceMethod ⟨"java/lang/Object", "clone", "()Ljava/lang/Object;"⟩, Cond.selects "[I" ⟨"[I", "clone", "()Ljava/lang/Object;"⟩ ⟨"java/lang/Object", "clone", "()Ljava/lang/Object;"⟩, Cond.methodLink RX5 112 yX5_wouldRun, Cond.instanceMethod yX5_wouldRun, Cond.selects RX5 yX5_wouldRun yX5_wouldRun, Cond.code yX5_wouldRun cX5_wouldRun 9 (some .int), Cond.methodLink RX5 116 yX5_bringBack, Cond.instanceMethod yX5_bringBack, Cond.selects RX5 yX5_bringBack yX5_bringBack, Cond.code yX5_bringBack cX5_bringBack 2 none, Cond.methodLink RL 109 yL_advise, Cond.static yL_advise, Cond.codeWith yL_advise cL_advise 4 (some .int) [(0, 9, 12, 13)], Cond.methodLink RL 53 yX4_advise, Cond.instanceMethod yX4_advise, Cond.selects RX4 yX4_advise yX4_advise, Cond.code yX4_advise cX4_advise 5 (some .int), Cond.methodLink RL 111 yX5_advise, Cond.instanceMethod yX5_advise]
def wsL_law0_r20 : List Cond := [Cond.selects RX5 yX5_advise yX5_advise, Cond.code yX5_advise cX5_advise 7 (some .int), Cond.methodLink RL 112 yL_like, Cond.static yL_like, Cond.codeWith yL_like cL_like 4 (some .int) [(0, 9, 12, 13)], Cond.methodLink RL 56 yX4_like, Cond.instanceMethod yX4_like, Cond.selects RX4 yX4_like yX4_like, Cond.code yX4_like cX4_like 2 (some .int), Cond.methodLink RX4 139 yX4_stampsWith, Cond.instanceMethod yX4_stampsWith, Cond.selects RX4 yX4_stampsWith yX4_stampsWith, Cond.code yX4_stampsWith cX4_stampsWith 4 (some .int), Cond.methodLink RX4 176 yX2_leftWith, Cond.methodLink RL 114 yX5_like, Cond.instanceMethod yX5_like, Cond.selects RX5 yX5_like yX5_like, Cond.code yX5_like cX5_like 4 (some .int), Cond.methodLink RL 115 yX4_share, Cond.instanceMethod yX4_share, Cond.selects RX4 yX4_share yX4_share, Cond.code yX4_share cX4_share 2 (some .double), Cond.methodLink RL 119 yX5_share, Cond.instanceMethod yX5_share]
def wsL_law0_r21 : List Cond := [Cond.selects RX5 yX5_share yX5_share, Cond.code yX5_share cX5_share 3 (some .double), Cond.methodLink RL 120 yX4_digest, Cond.instanceMethod yX4_digest, Cond.selects RX4 yX4_digest yX4_digest, Cond.code yX4_digest cX4_digest 5 (some .long), Cond.constantLong RX4 142 (1069), Cond.constantLong RX4 144 (31), Cond.methodLink RX4 146 yX2_addToDigest, Cond.instanceMethod yX2_addToDigest, Cond.selects RX2 yX2_addToDigest yX2_addToDigest, Cond.code yX2_addToDigest cX2_addToDigest 6 (some .long), Cond.constantLong RX2 62 (31), Cond.methodLink RX2 64 yX2_answer, Cond.methodLink RL 124 yX5_digest, Cond.instanceMethod yX5_digest, Cond.selects RX5 yX5_digest yX5_digest, Cond.code yX5_digest cX5_digest 5 (some .long), Cond.constantLong RX5 120 (1069), Cond.constantLong RX5 122 (31)]
def wsL_law0 : List Cond := (wsL_law0_r1 ++ (wsL_law0_r2 ++ (wsL_law0_r3 ++ (wsL_law0_r4 ++ (wsL_law0_r5 ++ (wsL_law0_r6 ++ (wsL_law0_r7 ++ (wsL_law0_r8 ++ (wsL_law0_r9 ++ (wsL_law0_r10 ++ (wsL_law0_r11 ++ (wsL_law0_r12 ++ (wsL_law0_r13 ++ (wsL_law0_r14 ++ (wsL_law0_r15 ++ (wsL_law0_r16 ++ (wsL_law0_r17 ++ (wsL_law0_r18 ++ (wsL_law0_r19 ++ (wsL_law0_r20 ++ wsL_law0_r21)))))))))))))))))))) ++ wsX40 ++ wsX50 ++ wsX00 ++ wsX30 ++ wsX20 ++ wsX10 ++ ([] : List Cond)
def wsL_law : List Cond := wsL_law0 ++ (vx_atS RX4 42 "java/lang/IllegalArgumentException" ["java/lang/RuntimeException", "java/lang/Exception"]).filter goodWord ++ (vx_atS RX4 154 "java/lang/IndexOutOfBoundsException" ["java/lang/RuntimeException", "java/lang/Exception"]).filter goodWord ++ (vx_atS RX4 95 "java/lang/IllegalStateException" ["java/lang/RuntimeException", "java/lang/Exception"]).filter goodWord
set_option maxRecDepth 20000 in
theorem wsL_law0_r1_in : ∀ w ∈ wsL_law0_r1, w ∈ lw_tbl := fun w h => (goodIn_p wsL_law0_r1 [51, 54] (by decide +kernel) (by decide +kernel) w h).1
set_option maxRecDepth 20000 in
theorem wsL_law0_r2_in : ∀ w ∈ wsL_law0_r2, w ∈ lw_tbl := fun w h => (goodIn_p wsL_law0_r2 [59, 66, 112] (by decide +kernel) (by decide +kernel) w h).1
set_option maxRecDepth 20000 in
theorem wsL_law0_r3_in : ∀ w ∈ wsL_law0_r3, w ∈ lw_tbl := fun w h => (goodIn_p wsL_law0_r3 [120, 543] (by decide +kernel) (by decide +kernel) w h).1
set_option maxRecDepth 20000 in
theorem wsL_law0_r4_in : ∀ w ∈ wsL_law0_r4, w ∈ lw_tbl := fun w h => (goodIn_p wsL_law0_r4 [274, 277, 577, 580, 584] (by decide +kernel) (by decide +kernel) w h).1
set_option maxRecDepth 20000 in
theorem wsL_law0_r5_in : ∀ w ∈ wsL_law0_r5, w ∈ lw_tbl := fun w h => (goodIn_p wsL_law0_r5 [573, 170, 588, 352, 592] (by decide +kernel) (by decide +kernel) w h).1
set_option maxRecDepth 20000 in
theorem wsL_law0_r6_in : ∀ w ∈ wsL_law0_r6, w ∈ lw_tbl := fun w h => (goodIn_p wsL_law0_r6 [361, 364, 596, 388, 391] (by decide +kernel) (by decide +kernel) w h).1
set_option maxRecDepth 20000 in
theorem wsL_law0_r7_in : ∀ w ∈ wsL_law0_r7, w ∈ lw_tbl := fun w h => (goodIn_p wsL_law0_r7 [600, 603, 400, 420] (by decide +kernel) (by decide +kernel) w h).1
set_option maxRecDepth 20000 in
theorem wsL_law0_r8_in : ∀ w ∈ wsL_law0_r8, w ∈ lw_tbl := fun w h => (goodIn_p wsL_law0_r8 [444, 266, 424, 429, 204] (by decide +kernel) (by decide +kernel) w h).1
set_option maxRecDepth 20000 in
theorem wsL_law0_r9_in : ∀ w ∈ wsL_law0_r9, w ∈ lw_tbl := fun w h => (goodIn_p wsL_law0_r9 [433, 437, 441, 607, 611] (by decide +kernel) (by decide +kernel) w h).1
set_option maxRecDepth 20000 in
theorem wsL_law0_r10_in : ∀ w ∈ wsL_law0_r10, w ∈ lw_tbl := fun w h => (goodIn_p wsL_law0_r10 [615, 619, 452, 456] (by decide +kernel) (by decide +kernel) w h).1
set_option maxRecDepth 20000 in
theorem wsL_law0_r11_in : ∀ w ∈ wsL_law0_r11, w ∈ lw_tbl := fun w h => (goodIn_p wsL_law0_r11 [628, 632, 464, 220, 636, 639] (by decide +kernel) (by decide +kernel) w h).1
set_option maxRecDepth 20000 in
theorem wsL_law0_r12_in : ∀ w ∈ wsL_law0_r12, w ∈ lw_tbl := fun w h => (goodIn_p wsL_law0_r12 [473, 476, 234, 238, 182] (by decide +kernel) (by decide +kernel) w h).1
set_option maxRecDepth 20000 in
theorem wsL_law0_r13_in : ∀ w ∈ wsL_law0_r13, w ∈ lw_tbl := fun w h => (goodIn_p wsL_law0_r13 [186, 216, 244, 248, 252, 256] (by decide +kernel) (by decide +kernel) w h).1
set_option maxRecDepth 20000 in
theorem wsL_law0_r14_in : ∀ w ∈ wsL_law0_r14, w ∈ lw_tbl := fun w h => (goodIn_p wsL_law0_r14 [260, 263, 643, 647, 651, 655] (by decide +kernel) (by decide +kernel) w h).1
set_option maxRecDepth 20000 in
theorem wsL_law0_r15_in : ∀ w ∈ wsL_law0_r15, w ∈ lw_tbl := fun w h => (goodIn_p wsL_law0_r15 [659, 485, 224, 663, 667] (by decide +kernel) (by decide +kernel) w h).1
set_option maxRecDepth 20000 in
theorem wsL_law0_r16_in : ∀ w ∈ wsL_law0_r16, w ∈ lw_tbl := fun w h => (goodIn_p wsL_law0_r16 [492, 196, 200, 208, 212] (by decide +kernel) (by decide +kernel) w h).1
set_option maxRecDepth 20000 in
theorem wsL_law0_r17_in : ∀ w ∈ wsL_law0_r17, w ∈ lw_tbl := fun w h => (goodIn_p wsL_law0_r17 [671, 675, 679, 499, 502, 507] (by decide +kernel) (by decide +kernel) w h).1
set_option maxRecDepth 20000 in
theorem wsL_law0_r18_in : ∀ w ∈ wsL_law0_r18, w ∈ lw_tbl := fun w h => (goodIn_p wsL_law0_r18 [511, 515, 522, 683] (by decide +kernel) (by decide +kernel) w h).1
set_option maxRecDepth 20000 in
theorem wsL_law0_r19_in : ∀ w ∈ wsL_law0_r19, w ∈ lw_tbl := fun w h => (goodIn_p wsL_law0_r19 [687, 699, 703, 530] (by decide +kernel) (by decide +kernel) w h).1
set_option maxRecDepth 20000 in
theorem wsL_law0_r20_in : ∀ w ∈ wsL_law0_r20, w ∈ lw_tbl := fun w h => (goodIn_p wsL_law0_r20 [707, 537, 178, 711, 174] (by decide +kernel) (by decide +kernel) w h).1
set_option maxRecDepth 20000 in
theorem wsL_law0_r21_in : ∀ w ∈ wsL_law0_r21, w ∈ lw_tbl := fun w h => (goodIn_p wsL_law0_r21 [715, 190, 229, 719] (by decide +kernel) (by decide +kernel) w h).1
set_option maxRecDepth 20000 in
theorem wsL_law0_wsX40_in : ∀ w ∈ wsX40, w ∈ lw_tbl := by decide +kernel
set_option maxRecDepth 20000 in
theorem wsL_law0_wsX50_in : ∀ w ∈ wsX50, w ∈ lw_tbl := by decide +kernel
set_option maxRecDepth 20000 in
theorem wsL_law0_wsX00_in : ∀ w ∈ wsX00, w ∈ lw_tbl := by decide +kernel
set_option maxRecDepth 20000 in
theorem wsL_law0_wsX30_in : ∀ w ∈ wsX30, w ∈ lw_tbl := by decide +kernel
set_option maxRecDepth 20000 in
theorem wsL_law0_wsX20_in : ∀ w ∈ wsX20, w ∈ lw_tbl := by decide +kernel
set_option maxRecDepth 20000 in
theorem wsL_law0_wsX10_in : ∀ w ∈ wsX10, w ∈ lw_tbl := by decide +kernel
theorem wsL_law_in0 : ∀ w ∈ wsL_law0, w ∈ lw_tbl := fun w h => (fun h => (List.mem_append.mp h).elim (fun h => (List.mem_append.mp h).elim (fun h => (List.mem_append.mp h).elim (fun h => (List.mem_append.mp h).elim (fun h => (List.mem_append.mp h).elim (fun h => (List.mem_append.mp h).elim (fun h => (List.mem_append.mp h).elim (fun h => (List.mem_append.mp h).elim (fun h => wsL_law0_r1_in w h) (fun h => (List.mem_append.mp h).elim (fun h => wsL_law0_r2_in w h) (fun h => (List.mem_append.mp h).elim (fun h => wsL_law0_r3_in w h) (fun h => (List.mem_append.mp h).elim (fun h => wsL_law0_r4_in w h) (fun h => (List.mem_append.mp h).elim (fun h => wsL_law0_r5_in w h) (fun h => (List.mem_append.mp h).elim (fun h => wsL_law0_r6_in w h) (fun h => (List.mem_append.mp h).elim (fun h => wsL_law0_r7_in w h) (fun h => (List.mem_append.mp h).elim (fun h => wsL_law0_r8_in w h) (fun h => (List.mem_append.mp h).elim (fun h => wsL_law0_r9_in w h) (fun h => (List.mem_append.mp h).elim (fun h => wsL_law0_r10_in w h) (fun h => (List.mem_append.mp h).elim (fun h => wsL_law0_r11_in w h) (fun h => (List.mem_append.mp h).elim (fun h => wsL_law0_r12_in w h) (fun h => (List.mem_append.mp h).elim (fun h => wsL_law0_r13_in w h) (fun h => (List.mem_append.mp h).elim (fun h => wsL_law0_r14_in w h) (fun h => (List.mem_append.mp h).elim (fun h => wsL_law0_r15_in w h) (fun h => (List.mem_append.mp h).elim (fun h => wsL_law0_r16_in w h) (fun h => (List.mem_append.mp h).elim (fun h => wsL_law0_r17_in w h) (fun h => (List.mem_append.mp h).elim (fun h => wsL_law0_r18_in w h) (fun h => (List.mem_append.mp h).elim (fun h => wsL_law0_r19_in w h) (fun h => (List.mem_append.mp h).elim (fun h => wsL_law0_r20_in w h) (fun h => wsL_law0_r21_in w h))))))))))))))))))))) (fun h => wsL_law0_wsX40_in w h)) (fun h => wsL_law0_wsX50_in w h)) (fun h => wsL_law0_wsX00_in w h)) (fun h => wsL_law0_wsX30_in w h)) (fun h => wsL_law0_wsX20_in w h)) (fun h => wsL_law0_wsX10_in w h)) (fun h => absurd h List.not_mem_nil)) h
end
section
theorem wsL_law_x0 : ∀ w ∈ (vx_atS RX4 42 "java/lang/IllegalArgumentException" ["java/lang/RuntimeException", "java/lang/Exception"]).filter goodWord, w ∈ lw_tbl := by decide +kernel
theorem wsL_law_x1 : ∀ w ∈ (vx_atS RX4 154 "java/lang/IndexOutOfBoundsException" ["java/lang/RuntimeException", "java/lang/Exception"]).filter goodWord, w ∈ lw_tbl := by decide +kernel
theorem wsL_law_x2 : ∀ w ∈ (vx_atS RX4 95 "java/lang/IllegalStateException" ["java/lang/RuntimeException", "java/lang/Exception"]).filter goodWord, w ∈ lw_tbl := by decide +kernel
theorem wsL_law_in : ∀ w ∈ wsL_law, w ∈ lw_tbl := fun w h => (List.mem_append.mp h).elim (fun h => (List.mem_append.mp h).elim (fun h => (List.mem_append.mp h).elim (fun h => wsL_law_in0 w h) (fun h => wsL_law_x0 w h)) (fun h => wsL_law_x1 w h)) (fun h => wsL_law_x2 w h)
theorem inlX0 : ∀ w ∈ wsX00, w ∈ wsL_law := fun _ h => List.mem_append_left _ (List.mem_append_left _ (List.mem_append_left _ (List.mem_append_left _ (List.mem_append_left _ (List.mem_append_left _ (List.mem_append_left _ (List.mem_append_right _ h)))))))
theorem inX0 : ∀ w ∈ wsX00, w ∈ lw_tbl := fun w h => wsL_law_in w (inlX0 w h)
theorem inlX1 : ∀ w ∈ wsX10, w ∈ wsL_law := fun _ h => List.mem_append_left _ (List.mem_append_left _ (List.mem_append_left _ (List.mem_append_left _ (List.mem_append_right _ h))))
theorem inX1 : ∀ w ∈ wsX10, w ∈ lw_tbl := fun w h => wsL_law_in w (inlX1 w h)
theorem inlX2 : ∀ w ∈ wsX20, w ∈ wsL_law := fun _ h => List.mem_append_left _ (List.mem_append_left _ (List.mem_append_left _ (List.mem_append_left _ (List.mem_append_left _ (List.mem_append_right _ h)))))
theorem inX2 : ∀ w ∈ wsX20, w ∈ lw_tbl := fun w h => wsL_law_in w (inlX2 w h)
theorem inlX3 : ∀ w ∈ wsX30, w ∈ wsL_law := fun _ h => List.mem_append_left _ (List.mem_append_left _ (List.mem_append_left _ (List.mem_append_left _ (List.mem_append_left _ (List.mem_append_left _ (List.mem_append_right _ h))))))
theorem inX3 : ∀ w ∈ wsX30, w ∈ lw_tbl := fun w h => wsL_law_in w (inlX3 w h)
theorem inlX4 : ∀ w ∈ wsX40, w ∈ wsL_law := fun _ h => List.mem_append_left _ (List.mem_append_left _ (List.mem_append_left _ (List.mem_append_left _ (List.mem_append_left _ (List.mem_append_left _ (List.mem_append_left _ (List.mem_append_left _ (List.mem_append_left _ (List.mem_append_right _ h)))))))))
theorem inX4 : ∀ w ∈ wsX40, w ∈ lw_tbl := fun w h => wsL_law_in w (inlX4 w h)
theorem inlX5 : ∀ w ∈ wsX50, w ∈ wsL_law := fun _ h => List.mem_append_left _ (List.mem_append_left _ (List.mem_append_left _ (List.mem_append_left _ (List.mem_append_left _ (List.mem_append_left _ (List.mem_append_left _ (List.mem_append_left _ (List.mem_append_right _ h))))))))
theorem inX5 : ∀ w ∈ wsX50, w ∈ lw_tbl := fun w h => wsL_law_in w (inlX5 w h)
theorem inJx8e188 : ∀ w ∈ wsJx8e1880, w ∈ lw_tbl := by decide +kernel
theorem inJ9 : ∀ w ∈ wsJ90, w ∈ lw_tbl := by decide +kernel
theorem inJ0 : ∀ w ∈ wsJ00, w ∈ lw_tbl := by decide +kernel
theorem inJ10 : ∀ w ∈ wsJ100, w ∈ lw_tbl := by decide +kernel
set_option maxRecDepth 20000 in
theorem ggX0_init_X1_init : GoodIn wsX0_init wsX1_init := goodIn_r _ [11, 12, 2, 3, 13, 21, 22] (by decide +kernel) (by decide +kernel)
set_option maxRecDepth 20000 in
theorem gX0_init_X1_init_n24 : GoodIn wsX0_init (wsX1_init) := ggX0_init_X1_init
theorem dX0_init_0 : decode cX0_init 0 = .ok (.aload_n 0, 1) := by decide +kernel
theorem dX0_init_1 : decode cX0_init 1 = .ok (.invokespecial 3, 3) := by decide +kernel
theorem dX0_init_4 : decode cX0_init 4 = .ok (.aload_n 0, 1) := by decide +kernel
theorem dX0_init_5 : decode cX0_init 5 = .ok (.bipush 20, 2) := by decide +kernel
theorem dX0_init_7 : decode cX0_init 7 = .ok (.putfield 9, 3) := by decide +kernel
theorem dX0_init_10 : decode cX0_init 10 = .ok (.aload_n 0, 1) := by decide +kernel
theorem dX0_init_11 : decode cX0_init 11 = .ok (.iconst 1, 1) := by decide +kernel
theorem dX0_init_12 : decode cX0_init 12 = .ok (.putfield 15, 3) := by decide +kernel
theorem dX0_init_15 : decode cX0_init 15 = .ok (.aload_n 0, 1) := by decide +kernel
theorem dX0_init_16 : decode cX0_init 16 = .ok (.bipush 7, 2) := by decide +kernel
theorem dX0_init_18 : decode cX0_init 18 = .ok (.anewarray 18, 3) := by decide +kernel
theorem dX0_init_21 : decode cX0_init 21 = .ok (.putfield 20, 3) := by decide +kernel
theorem dX0_init_24 : decode cX0_init 24 = .ok (.iconst 0, 1) := by decide +kernel
theorem dX0_init_25 : decode cX0_init 25 = .ok (.istore_n 1, 1) := by decide +kernel
theorem dX0_init_26 : decode cX0_init 26 = .ok (.iload_n 1, 1) := by decide +kernel
theorem dX0_init_27 : decode cX0_init 27 = .ok (.bipush 7, 2) := by decide +kernel
theorem dX0_init_29 : decode cX0_init 29 = .ok (.if_icmp .ge 22, 3) := by decide +kernel
theorem dX0_init_32 : decode cX0_init 32 = .ok (.aload_n 0, 1) := by decide +kernel
theorem dX0_init_33 : decode cX0_init 33 = .ok (.getfield 20, 3) := by decide +kernel
theorem dX0_init_36 : decode cX0_init 36 = .ok (.iload_n 1, 1) := by decide +kernel
theorem dX0_init_37 : decode cX0_init 37 = .ok (.new 18, 3) := by decide +kernel
theorem dX0_init_40 : decode cX0_init 40 = .ok (.dup, 1) := by decide +kernel
theorem dX0_init_41 : decode cX0_init 41 = .ok (.invokespecial 24, 3) := by decide +kernel
theorem dX0_init_44 : decode cX0_init 44 = .ok (.aastore, 1) := by decide +kernel
theorem dX0_init_45 : decode cX0_init 45 = .ok (.iinc 1 1, 3) := by decide +kernel
theorem dX0_init_48 : decode cX0_init 48 = .ok (.goto (-22), 3) := by decide +kernel
theorem dX0_init_51 : decode cX0_init 51 = .ok (.return_, 1) := by decide +kernel
set_option maxRecDepth 20000 in
theorem ggX0_becomeLike_X1_becomeLike : GoodIn wsX0_becomeLike wsX1_becomeLike := goodIn_r _ [12, 13, 14, 22, 23] (by decide +kernel) (by decide +kernel)
set_option maxRecDepth 20000 in
theorem gX0_becomeLike_X1_becomeLike : GoodIn wsX0_becomeLike (wsV RX0 25 RX1 yX1_becomeLike wsX1_becomeLike) := goodIn_app (goodIn_of _ (by decide +kernel)) ggX0_becomeLike_X1_becomeLike
theorem dX0_becomeLike_0 : decode cX0_becomeLike 0 = .ok (.iconst 0, 1) := by decide +kernel
theorem dX0_becomeLike_1 : decode cX0_becomeLike 1 = .ok (.istore_n 2, 1) := by decide +kernel
theorem dX0_becomeLike_2 : decode cX0_becomeLike 2 = .ok (.iload_n 2, 1) := by decide +kernel
theorem dX0_becomeLike_3 : decode cX0_becomeLike 3 = .ok (.bipush 7, 2) := by decide +kernel
theorem dX0_becomeLike_5 : decode cX0_becomeLike 5 = .ok (.if_icmp .ge 24, 3) := by decide +kernel
theorem dX0_becomeLike_8 : decode cX0_becomeLike 8 = .ok (.aload_n 0, 1) := by decide +kernel
theorem dX0_becomeLike_9 : decode cX0_becomeLike 9 = .ok (.getfield 20, 3) := by decide +kernel
theorem dX0_becomeLike_12 : decode cX0_becomeLike 12 = .ok (.iload_n 2, 1) := by decide +kernel
theorem dX0_becomeLike_13 : decode cX0_becomeLike 13 = .ok (.aaload, 1) := by decide +kernel
theorem dX0_becomeLike_14 : decode cX0_becomeLike 14 = .ok (.aload_n 1, 1) := by decide +kernel
theorem dX0_becomeLike_15 : decode cX0_becomeLike 15 = .ok (.getfield 20, 3) := by decide +kernel
theorem dX0_becomeLike_18 : decode cX0_becomeLike 18 = .ok (.iload_n 2, 1) := by decide +kernel
theorem dX0_becomeLike_19 : decode cX0_becomeLike 19 = .ok (.aaload, 1) := by decide +kernel
theorem dX0_becomeLike_20 : decode cX0_becomeLike 20 = .ok (.invokevirtual 25, 3) := by decide +kernel
theorem dX0_becomeLike_23 : decode cX0_becomeLike 23 = .ok (.iinc 2 1, 3) := by decide +kernel
theorem dX0_becomeLike_26 : decode cX0_becomeLike 26 = .ok (.goto (-24), 3) := by decide +kernel
theorem dX0_becomeLike_29 : decode cX0_becomeLike 29 = .ok (.aload_n 0, 1) := by decide +kernel
theorem dX0_becomeLike_30 : decode cX0_becomeLike 30 = .ok (.aload_n 1, 1) := by decide +kernel
theorem dX0_becomeLike_31 : decode cX0_becomeLike 31 = .ok (.getfield 9, 3) := by decide +kernel
theorem dX0_becomeLike_34 : decode cX0_becomeLike 34 = .ok (.putfield 9, 3) := by decide +kernel
theorem dX0_becomeLike_37 : decode cX0_becomeLike 37 = .ok (.aload_n 0, 1) := by decide +kernel
theorem dX0_becomeLike_38 : decode cX0_becomeLike 38 = .ok (.aload_n 1, 1) := by decide +kernel
theorem dX0_becomeLike_39 : decode cX0_becomeLike 39 = .ok (.getfield 29, 3) := by decide +kernel
theorem dX0_becomeLike_42 : decode cX0_becomeLike 42 = .ok (.putfield 29, 3) := by decide +kernel
theorem dX0_becomeLike_45 : decode cX0_becomeLike 45 = .ok (.aload_n 0, 1) := by decide +kernel
theorem dX0_becomeLike_46 : decode cX0_becomeLike 46 = .ok (.aload_n 1, 1) := by decide +kernel
theorem dX0_becomeLike_47 : decode cX0_becomeLike 47 = .ok (.getfield 32, 3) := by decide +kernel
theorem dX0_becomeLike_50 : decode cX0_becomeLike 50 = .ok (.putfield 32, 3) := by decide +kernel
theorem dX0_becomeLike_53 : decode cX0_becomeLike 53 = .ok (.aload_n 0, 1) := by decide +kernel
theorem dX0_becomeLike_54 : decode cX0_becomeLike 54 = .ok (.aload_n 1, 1) := by decide +kernel
theorem dX0_becomeLike_55 : decode cX0_becomeLike 55 = .ok (.getfield 35, 3) := by decide +kernel
theorem dX0_becomeLike_58 : decode cX0_becomeLike 58 = .ok (.putfield 35, 3) := by decide +kernel
theorem dX0_becomeLike_61 : decode cX0_becomeLike 61 = .ok (.aload_n 0, 1) := by decide +kernel
theorem dX0_becomeLike_62 : decode cX0_becomeLike 62 = .ok (.aload_n 1, 1) := by decide +kernel
theorem dX0_becomeLike_63 : decode cX0_becomeLike 63 = .ok (.getfield 38, 3) := by decide +kernel
theorem dX0_becomeLike_66 : decode cX0_becomeLike 66 = .ok (.putfield 38, 3) := by decide +kernel
theorem dX0_becomeLike_69 : decode cX0_becomeLike 69 = .ok (.aload_n 0, 1) := by decide +kernel
theorem dX0_becomeLike_70 : decode cX0_becomeLike 70 = .ok (.aload_n 1, 1) := by decide +kernel
theorem dX0_becomeLike_71 : decode cX0_becomeLike 71 = .ok (.getfield 15, 3) := by decide +kernel
theorem dX0_becomeLike_74 : decode cX0_becomeLike 74 = .ok (.putfield 15, 3) := by decide +kernel
theorem dX0_becomeLike_77 : decode cX0_becomeLike 77 = .ok (.return_, 1) := by decide +kernel
set_option maxRecDepth 20000 in
theorem ggX0_perforate_X0_markRow : GoodIn wsX0_perforate wsX0_markRow := goodIn_r _ [17, 1, 18, 19, 20, 21, 22, 23, 16, 24, 25, 26, 27, 28, 29, 30, 31, 32, 33, 34, 35, 36, 37, 4, 47, 48, 49, 50, 51, 52, 53, 54, 55, 56, 57] (by decide +kernel) (by decide +kernel)
set_option maxRecDepth 20000 in
theorem gX0_perforate_X0_markRow : GoodIn wsX0_perforate (wsV RX0 41 RX0 yX0_markRow wsX0_markRow) := goodIn_app (goodIn_of _ (by decide +kernel)) ggX0_perforate_X0_markRow
set_option maxRecDepth 20000 in
theorem ggX0_perforate_X0_strikeAll : GoodIn wsX0_perforate wsX0_strikeAll := goodIn_r _ [41, 25, 42, 43, 44, 29, 45, 31, 46, 27, 28, 30, 32, 47, 48, 49, 50, 51, 52, 53, 56, 57] (by decide +kernel) (by decide +kernel)
set_option maxRecDepth 20000 in
theorem gX0_perforate_X0_strikeAll : GoodIn wsX0_perforate (wsV RX0 45 RX0 yX0_strikeAll wsX0_strikeAll) := goodIn_app (goodIn_of _ (by decide +kernel)) ggX0_perforate_X0_strikeAll
theorem dX0_perforate_0 : decode cX0_perforate 0 = .ok (.iconst 0, 1) := by decide +kernel
theorem dX0_perforate_1 : decode cX0_perforate 1 = .ok (.istore_n 3, 1) := by decide +kernel
theorem dX0_perforate_2 : decode cX0_perforate 2 = .ok (.iload_n 3, 1) := by decide +kernel
theorem dX0_perforate_3 : decode cX0_perforate 3 = .ok (.iconst 5, 1) := by decide +kernel
theorem dX0_perforate_4 : decode cX0_perforate 4 = .ok (.if_icmp .ge 56, 3) := by decide +kernel
theorem dX0_perforate_7 : decode cX0_perforate 7 = .ok (.aload_n 0, 1) := by decide +kernel
theorem dX0_perforate_8 : decode cX0_perforate 8 = .ok (.dup, 1) := by decide +kernel
theorem dX0_perforate_9 : decode cX0_perforate 9 = .ok (.getfield 32, 3) := by decide +kernel
theorem dX0_perforate_12 : decode cX0_perforate 12 = .ok (.aload_n 0, 1) := by decide +kernel
theorem dX0_perforate_13 : decode cX0_perforate 13 = .ok (.getfield 9, 3) := by decide +kernel
theorem dX0_perforate_16 : decode cX0_perforate 16 = .ok (.bipush 20, 2) := by decide +kernel
theorem dX0_perforate_18 : decode cX0_perforate 18 = .ok (.isub, 1) := by decide +kernel
theorem dX0_perforate_19 : decode cX0_perforate 19 = .ok (.iadd, 1) := by decide +kernel
theorem dX0_perforate_20 : decode cX0_perforate 20 = .ok (.putfield 32, 3) := by decide +kernel
theorem dX0_perforate_23 : decode cX0_perforate 23 = .ok (.aload_n 0, 1) := by decide +kernel
theorem dX0_perforate_24 : decode cX0_perforate 24 = .ok (.iload_n 3, 1) := by decide +kernel
theorem dX0_perforate_25 : decode cX0_perforate 25 = .ok (.aload_n 1, 1) := by decide +kernel
theorem dX0_perforate_26 : decode cX0_perforate 26 = .ok (.aload_n 2, 1) := by decide +kernel
theorem dX0_perforate_27 : decode cX0_perforate 27 = .ok (.invokevirtual 41, 3) := by decide +kernel
theorem dX0_perforate_30 : decode cX0_perforate 30 = .ok (.aload_n 0, 1) := by decide +kernel
theorem dX0_perforate_31 : decode cX0_perforate 31 = .ok (.invokevirtual 45, 3) := by decide +kernel
theorem dX0_perforate_34 : decode cX0_perforate 34 = .ok (.aload_n 0, 1) := by decide +kernel
theorem dX0_perforate_35 : decode cX0_perforate 35 = .ok (.dup, 1) := by decide +kernel
theorem dX0_perforate_36 : decode cX0_perforate 36 = .ok (.getfield 35, 3) := by decide +kernel
theorem dX0_perforate_39 : decode cX0_perforate 39 = .ok (.iconst 1, 1) := by decide +kernel
theorem dX0_perforate_40 : decode cX0_perforate 40 = .ok (.isub, 1) := by decide +kernel
theorem dX0_perforate_41 : decode cX0_perforate 41 = .ok (.putfield 35, 3) := by decide +kernel
theorem dX0_perforate_44 : decode cX0_perforate 44 = .ok (.aload_n 0, 1) := by decide +kernel
theorem dX0_perforate_45 : decode cX0_perforate 45 = .ok (.dup, 1) := by decide +kernel
theorem dX0_perforate_46 : decode cX0_perforate 46 = .ok (.getfield 38, 3) := by decide +kernel
theorem dX0_perforate_49 : decode cX0_perforate 49 = .ok (.iconst 1, 1) := by decide +kernel
theorem dX0_perforate_50 : decode cX0_perforate 50 = .ok (.iadd, 1) := by decide +kernel
theorem dX0_perforate_51 : decode cX0_perforate 51 = .ok (.putfield 38, 3) := by decide +kernel
theorem dX0_perforate_54 : decode cX0_perforate 54 = .ok (.iinc 3 1, 3) := by decide +kernel
theorem dX0_perforate_57 : decode cX0_perforate 57 = .ok (.goto (-55), 3) := by decide +kernel
theorem dX0_perforate_60 : decode cX0_perforate 60 = .ok (.aload_n 0, 1) := by decide +kernel
theorem dX0_perforate_61 : decode cX0_perforate 61 = .ok (.bipush 10, 2) := by decide +kernel
theorem dX0_perforate_63 : decode cX0_perforate 63 = .ok (.bipush 30, 2) := by decide +kernel
theorem dX0_perforate_65 : decode cX0_perforate 65 = .ok (.aload_n 0, 1) := by decide +kernel
theorem dX0_perforate_66 : decode cX0_perforate 66 = .ok (.getfield 9, 3) := by decide +kernel
theorem dX0_perforate_69 : decode cX0_perforate 69 = .ok (.aload_n 0, 1) := by decide +kernel
theorem dX0_perforate_70 : decode cX0_perforate 70 = .ok (.getfield 29, 3) := by decide +kernel
theorem dX0_perforate_73 : decode cX0_perforate 73 = .ok (.iadd, 1) := by decide +kernel
theorem dX0_perforate_74 : decode cX0_perforate 74 = .ok (.invokestatic 48, 3) := by decide +kernel
theorem dX0_perforate_77 : decode cX0_perforate 77 = .ok (.invokestatic 54, 3) := by decide +kernel
theorem dX0_perforate_80 : decode cX0_perforate 80 = .ok (.putfield 9, 3) := by decide +kernel
theorem dX0_perforate_83 : decode cX0_perforate 83 = .ok (.return_, 1) := by decide +kernel
set_option maxRecDepth 20000 in
theorem ggX0_markRow_X4_isWithin : GoodIn wsX0_markRow wsX4_isWithin := goodIn_r _ [4] (by decide +kernel) (by decide +kernel)
set_option maxRecDepth 20000 in
theorem gX0_markRow_X4_isWithin_n57 : GoodIn wsX0_markRow (wsX4_isWithin) := ggX0_markRow_X4_isWithin
set_option maxRecDepth 20000 in
theorem ggX0_markRow_X0_holeFaults : GoodIn wsX0_markRow wsX0_holeFaults := goodIn_r _ [9, 10, 11, 12, 13, 14, 15, 16, 17, 24, 25, 26, 27, 28, 29, 30, 33, 34] (by decide +kernel) (by decide +kernel)
set_option maxRecDepth 20000 in
theorem gX0_markRow_X0_holeFaults : GoodIn wsX0_markRow (wsV RX0 61 RX0 yX0_holeFaults wsX0_holeFaults) := goodIn_app (goodIn_of _ (by decide +kernel)) ggX0_markRow_X0_holeFaults
set_option maxRecDepth 20000 in
theorem ggX0_markRow_X0_hasWatermark : GoodIn wsX0_markRow wsX0_hasWatermark := goodIn_r _ [21, 22, 23, 24, 25, 26, 27, 28, 29, 30] (by decide +kernel) (by decide +kernel)
set_option maxRecDepth 20000 in
theorem gX0_markRow_X0_hasWatermark : GoodIn wsX0_markRow (wsV RX0 65 RX0 yX0_hasWatermark wsX0_hasWatermark) := goodIn_app (goodIn_of _ (by decide +kernel)) ggX0_markRow_X0_hasWatermark
theorem dX0_markRow_0 : decode cX0_markRow 0 = .ok (.aload_n 0, 1) := by decide +kernel
theorem dX0_markRow_1 : decode cX0_markRow 1 = .ok (.getfield 32, 3) := by decide +kernel
theorem dX0_markRow_4 : decode cX0_markRow 4 = .ok (.bipush (-6), 2) := by decide +kernel
theorem dX0_markRow_6 : decode cX0_markRow 6 = .ok (.bipush 6, 2) := by decide +kernel
theorem dX0_markRow_8 : decode cX0_markRow 8 = .ok (.invokestatic 57, 3) := by decide +kernel
theorem dX0_markRow_11 : decode cX0_markRow 11 = .ok (.ifCond .eq 7, 3) := by decide +kernel
theorem dX0_markRow_14 : decode cX0_markRow 14 = .ok (.iconst 0, 1) := by decide +kernel
theorem dX0_markRow_15 : decode cX0_markRow 15 = .ok (.goto 4, 3) := by decide +kernel
theorem dX0_markRow_18 : decode cX0_markRow 18 = .ok (.iconst 1, 1) := by decide +kernel
theorem dX0_markRow_19 : decode cX0_markRow 19 = .ok (.istore 4, 2) := by decide +kernel
theorem dX0_markRow_21 : decode cX0_markRow 21 = .ok (.iconst 0, 1) := by decide +kernel
theorem dX0_markRow_22 : decode cX0_markRow 22 = .ok (.istore 5, 2) := by decide +kernel
theorem dX0_markRow_24 : decode cX0_markRow 24 = .ok (.iload 5, 2) := by decide +kernel
theorem dX0_markRow_26 : decode cX0_markRow 26 = .ok (.bipush 6, 2) := by decide +kernel
theorem dX0_markRow_28 : decode cX0_markRow 28 = .ok (.if_icmp .ge 68, 3) := by decide +kernel
theorem dX0_markRow_31 : decode cX0_markRow 31 = .ok (.bipush 6, 2) := by decide +kernel
theorem dX0_markRow_33 : decode cX0_markRow 33 = .ok (.iload_n 1, 1) := by decide +kernel
theorem dX0_markRow_34 : decode cX0_markRow 34 = .ok (.imul, 1) := by decide +kernel
theorem dX0_markRow_35 : decode cX0_markRow 35 = .ok (.iload 5, 2) := by decide +kernel
theorem dX0_markRow_37 : decode cX0_markRow 37 = .ok (.iadd, 1) := by decide +kernel
theorem dX0_markRow_38 : decode cX0_markRow 38 = .ok (.istore 6, 2) := by decide +kernel
theorem dX0_markRow_40 : decode cX0_markRow 40 = .ok (.iload 4, 2) := by decide +kernel
theorem dX0_markRow_42 : decode cX0_markRow 42 = .ok (.aload_n 0, 1) := by decide +kernel
theorem dX0_markRow_43 : decode cX0_markRow 43 = .ok (.iload 5, 2) := by decide +kernel
theorem dX0_markRow_45 : decode cX0_markRow 45 = .ok (.invokevirtual 61, 3) := by decide +kernel
theorem dX0_markRow_48 : decode cX0_markRow 48 = .ok (.ior, 1) := by decide +kernel
theorem dX0_markRow_49 : decode cX0_markRow 49 = .ok (.istore 7, 2) := by decide +kernel
theorem dX0_markRow_51 : decode cX0_markRow 51 = .ok (.aload_n 2, 1) := by decide +kernel
theorem dX0_markRow_52 : decode cX0_markRow 52 = .ok (.iload 6, 2) := by decide +kernel
theorem dX0_markRow_54 : decode cX0_markRow 54 = .ok (.baload, 1) := by decide +kernel
theorem dX0_markRow_55 : decode cX0_markRow 55 = .ok (.ifCond .eq 10, 3) := by decide +kernel
theorem dX0_markRow_58 : decode cX0_markRow 58 = .ok (.iload 7, 2) := by decide +kernel
theorem dX0_markRow_60 : decode cX0_markRow 60 = .ok (.bipush 8, 2) := by decide +kernel
theorem dX0_markRow_62 : decode cX0_markRow 62 = .ok (.ior, 1) := by decide +kernel
theorem dX0_markRow_63 : decode cX0_markRow 63 = .ok (.istore 7, 2) := by decide +kernel
theorem dX0_markRow_65 : decode cX0_markRow 65 = .ok (.aload_n 0, 1) := by decide +kernel
theorem dX0_markRow_66 : decode cX0_markRow 66 = .ok (.iload 5, 2) := by decide +kernel
theorem dX0_markRow_68 : decode cX0_markRow 68 = .ok (.invokevirtual 65, 3) := by decide +kernel
theorem dX0_markRow_71 : decode cX0_markRow 71 = .ok (.ifCond .ne 10, 3) := by decide +kernel
theorem dX0_markRow_74 : decode cX0_markRow 74 = .ok (.iload 7, 2) := by decide +kernel
theorem dX0_markRow_76 : decode cX0_markRow 76 = .ok (.bipush 16, 2) := by decide +kernel
theorem dX0_markRow_78 : decode cX0_markRow 78 = .ok (.ior, 1) := by decide +kernel
theorem dX0_markRow_79 : decode cX0_markRow 79 = .ok (.istore 7, 2) := by decide +kernel
theorem dX0_markRow_81 : decode cX0_markRow 81 = .ok (.aload_n 3, 1) := by decide +kernel
theorem dX0_markRow_82 : decode cX0_markRow 82 = .ok (.getfield 69, 3) := by decide +kernel
theorem dX0_markRow_85 : decode cX0_markRow 85 = .ok (.iload 6, 2) := by decide +kernel
theorem dX0_markRow_87 : decode cX0_markRow 87 = .ok (.iload 7, 2) := by decide +kernel
theorem dX0_markRow_89 : decode cX0_markRow 89 = .ok (.iastore, 1) := by decide +kernel
theorem dX0_markRow_90 : decode cX0_markRow 90 = .ok (.iinc 5 1, 3) := by decide +kernel
theorem dX0_markRow_93 : decode cX0_markRow 93 = .ok (.goto (-69), 3) := by decide +kernel
theorem dX0_markRow_96 : decode cX0_markRow 96 = .ok (.return_, 1) := by decide +kernel
set_option maxRecDepth 20000 in
theorem ggX0_holeFaults_X1_isWhole : GoodIn wsX0_holeFaults wsX1_isWhole := goodIn_r _ [6, 7, 8, 16, 17] (by decide +kernel) (by decide +kernel)
set_option maxRecDepth 20000 in
theorem gX0_holeFaults_X1_isWhole : GoodIn wsX0_holeFaults (wsV RX0 75 RX1 yX1_isWhole wsX1_isWhole) := goodIn_app (goodIn_of _ (by decide +kernel)) ggX0_holeFaults_X1_isWhole
theorem dX0_holeFaults_0 : decode cX0_holeFaults 0 = .ok (.iconst 0, 1) := by decide +kernel
theorem dX0_holeFaults_1 : decode cX0_holeFaults 1 = .ok (.istore_n 2, 1) := by decide +kernel
theorem dX0_holeFaults_2 : decode cX0_holeFaults 2 = .ok (.aload_n 0, 1) := by decide +kernel
theorem dX0_holeFaults_3 : decode cX0_holeFaults 3 = .ok (.getfield 20, 3) := by decide +kernel
theorem dX0_holeFaults_6 : decode cX0_holeFaults 6 = .ok (.iload_n 1, 1) := by decide +kernel
theorem dX0_holeFaults_7 : decode cX0_holeFaults 7 = .ok (.aaload, 1) := by decide +kernel
theorem dX0_holeFaults_8 : decode cX0_holeFaults 8 = .ok (.invokevirtual 75, 3) := by decide +kernel
theorem dX0_holeFaults_11 : decode cX0_holeFaults 11 = .ok (.ifCond .ne 7, 3) := by decide +kernel
theorem dX0_holeFaults_14 : decode cX0_holeFaults 14 = .ok (.iload_n 2, 1) := by decide +kernel
theorem dX0_holeFaults_15 : decode cX0_holeFaults 15 = .ok (.iconst 2, 1) := by decide +kernel
theorem dX0_holeFaults_16 : decode cX0_holeFaults 16 = .ok (.ior, 1) := by decide +kernel
theorem dX0_holeFaults_17 : decode cX0_holeFaults 17 = .ok (.istore_n 2, 1) := by decide +kernel
theorem dX0_holeFaults_18 : decode cX0_holeFaults 18 = .ok (.aload_n 0, 1) := by decide +kernel
theorem dX0_holeFaults_19 : decode cX0_holeFaults 19 = .ok (.getfield 20, 3) := by decide +kernel
theorem dX0_holeFaults_22 : decode cX0_holeFaults 22 = .ok (.iload_n 1, 1) := by decide +kernel
theorem dX0_holeFaults_23 : decode cX0_holeFaults 23 = .ok (.iconst 1, 1) := by decide +kernel
theorem dX0_holeFaults_24 : decode cX0_holeFaults 24 = .ok (.iadd, 1) := by decide +kernel
theorem dX0_holeFaults_25 : decode cX0_holeFaults 25 = .ok (.aaload, 1) := by decide +kernel
theorem dX0_holeFaults_26 : decode cX0_holeFaults 26 = .ok (.invokevirtual 75, 3) := by decide +kernel
theorem dX0_holeFaults_29 : decode cX0_holeFaults 29 = .ok (.ifCond .ne 7, 3) := by decide +kernel
theorem dX0_holeFaults_32 : decode cX0_holeFaults 32 = .ok (.iload_n 2, 1) := by decide +kernel
theorem dX0_holeFaults_33 : decode cX0_holeFaults 33 = .ok (.iconst 4, 1) := by decide +kernel
theorem dX0_holeFaults_34 : decode cX0_holeFaults 34 = .ok (.ior, 1) := by decide +kernel
theorem dX0_holeFaults_35 : decode cX0_holeFaults 35 = .ok (.istore_n 2, 1) := by decide +kernel
theorem dX0_holeFaults_36 : decode cX0_holeFaults 36 = .ok (.iload_n 2, 1) := by decide +kernel
theorem dX0_holeFaults_37 : decode cX0_holeFaults 37 = .ok (.ireturn, 1) := by decide +kernel
theorem dX0_hasWatermark_0 : decode cX0_hasWatermark 0 = .ok (.aload_n 0, 1) := by decide +kernel
theorem dX0_hasWatermark_1 : decode cX0_hasWatermark 1 = .ok (.getfield 15, 3) := by decide +kernel
theorem dX0_hasWatermark_4 : decode cX0_hasWatermark 4 = .ok (.ifCond .le 21, 3) := by decide +kernel
theorem dX0_hasWatermark_7 : decode cX0_hasWatermark 7 = .ok (.aload_n 0, 1) := by decide +kernel
theorem dX0_hasWatermark_8 : decode cX0_hasWatermark 8 = .ok (.getfield 38, 3) := by decide +kernel
theorem dX0_hasWatermark_11 : decode cX0_hasWatermark 11 = .ok (.iload_n 1, 1) := by decide +kernel
theorem dX0_hasWatermark_12 : decode cX0_hasWatermark 12 = .ok (.iadd, 1) := by decide +kernel
theorem dX0_hasWatermark_13 : decode cX0_hasWatermark 13 = .ok (.aload_n 0, 1) := by decide +kernel
theorem dX0_hasWatermark_14 : decode cX0_hasWatermark 14 = .ok (.getfield 15, 3) := by decide +kernel
theorem dX0_hasWatermark_17 : decode cX0_hasWatermark 17 = .ok (.irem, 1) := by decide +kernel
theorem dX0_hasWatermark_18 : decode cX0_hasWatermark 18 = .ok (.ifCond .ne 7, 3) := by decide +kernel
theorem dX0_hasWatermark_21 : decode cX0_hasWatermark 21 = .ok (.iconst 1, 1) := by decide +kernel
theorem dX0_hasWatermark_22 : decode cX0_hasWatermark 22 = .ok (.goto 4, 3) := by decide +kernel
theorem dX0_hasWatermark_25 : decode cX0_hasWatermark 25 = .ok (.iconst 0, 1) := by decide +kernel
theorem dX0_hasWatermark_26 : decode cX0_hasWatermark 26 = .ok (.ireturn, 1) := by decide +kernel
set_option maxRecDepth 20000 in
theorem ggX0_strikeAll_X1_strike : GoodIn wsX0_strikeAll wsX1_strike := goodIn_r _ [6, 7, 8, 9, 10, 5, 11, 12, 20, 21] (by decide +kernel) (by decide +kernel)
set_option maxRecDepth 20000 in
theorem gX0_strikeAll_X1_strike : GoodIn wsX0_strikeAll (wsV RX0 79 RX1 yX1_strike wsX1_strike) := goodIn_app (goodIn_of _ (by decide +kernel)) ggX0_strikeAll_X1_strike
theorem dX0_strikeAll_0 : decode cX0_strikeAll 0 = .ok (.iconst 0, 1) := by decide +kernel
theorem dX0_strikeAll_1 : decode cX0_strikeAll 1 = .ok (.istore_n 1, 1) := by decide +kernel
theorem dX0_strikeAll_2 : decode cX0_strikeAll 2 = .ok (.iload_n 1, 1) := by decide +kernel
theorem dX0_strikeAll_3 : decode cX0_strikeAll 3 = .ok (.bipush 7, 2) := by decide +kernel
theorem dX0_strikeAll_5 : decode cX0_strikeAll 5 = .ok (.if_icmp .ge 18, 3) := by decide +kernel
theorem dX0_strikeAll_8 : decode cX0_strikeAll 8 = .ok (.aload_n 0, 1) := by decide +kernel
theorem dX0_strikeAll_9 : decode cX0_strikeAll 9 = .ok (.getfield 20, 3) := by decide +kernel
theorem dX0_strikeAll_12 : decode cX0_strikeAll 12 = .ok (.iload_n 1, 1) := by decide +kernel
theorem dX0_strikeAll_13 : decode cX0_strikeAll 13 = .ok (.aaload, 1) := by decide +kernel
theorem dX0_strikeAll_14 : decode cX0_strikeAll 14 = .ok (.invokevirtual 79, 3) := by decide +kernel
theorem dX0_strikeAll_17 : decode cX0_strikeAll 17 = .ok (.iinc 1 1, 3) := by decide +kernel
theorem dX0_strikeAll_20 : decode cX0_strikeAll 20 = .ok (.goto (-18), 3) := by decide +kernel
theorem dX0_strikeAll_23 : decode cX0_strikeAll 23 = .ok (.return_, 1) := by decide +kernel
set_option maxRecDepth 20000 in
theorem ggX0_brokenPins_X1_isWhole : GoodIn wsX0_brokenPins wsX1_isWhole := goodIn_r _ [6, 7, 8, 16, 17] (by decide +kernel) (by decide +kernel)
set_option maxRecDepth 20000 in
theorem gX0_brokenPins_X1_isWhole : GoodIn wsX0_brokenPins (wsV RX0 75 RX1 yX1_isWhole wsX1_isWhole) := goodIn_app (goodIn_of _ (by decide +kernel)) ggX0_brokenPins_X1_isWhole
theorem dX0_brokenPins_0 : decode cX0_brokenPins 0 = .ok (.iconst 0, 1) := by decide +kernel
theorem dX0_brokenPins_1 : decode cX0_brokenPins 1 = .ok (.istore_n 1, 1) := by decide +kernel
theorem dX0_brokenPins_2 : decode cX0_brokenPins 2 = .ok (.iconst 0, 1) := by decide +kernel
theorem dX0_brokenPins_3 : decode cX0_brokenPins 3 = .ok (.istore_n 2, 1) := by decide +kernel
theorem dX0_brokenPins_4 : decode cX0_brokenPins 4 = .ok (.iload_n 2, 1) := by decide +kernel
theorem dX0_brokenPins_5 : decode cX0_brokenPins 5 = .ok (.bipush 7, 2) := by decide +kernel
theorem dX0_brokenPins_7 : decode cX0_brokenPins 7 = .ok (.if_icmp .ge 24, 3) := by decide +kernel
theorem dX0_brokenPins_10 : decode cX0_brokenPins 10 = .ok (.aload_n 0, 1) := by decide +kernel
theorem dX0_brokenPins_11 : decode cX0_brokenPins 11 = .ok (.getfield 20, 3) := by decide +kernel
theorem dX0_brokenPins_14 : decode cX0_brokenPins 14 = .ok (.iload_n 2, 1) := by decide +kernel
theorem dX0_brokenPins_15 : decode cX0_brokenPins 15 = .ok (.aaload, 1) := by decide +kernel
theorem dX0_brokenPins_16 : decode cX0_brokenPins 16 = .ok (.invokevirtual 75, 3) := by decide +kernel
theorem dX0_brokenPins_19 : decode cX0_brokenPins 19 = .ok (.ifCond .ne 6, 3) := by decide +kernel
theorem dX0_brokenPins_22 : decode cX0_brokenPins 22 = .ok (.iinc 1 1, 3) := by decide +kernel
theorem dX0_brokenPins_25 : decode cX0_brokenPins 25 = .ok (.iinc 2 1, 3) := by decide +kernel
theorem dX0_brokenPins_28 : decode cX0_brokenPins 28 = .ok (.goto (-24), 3) := by decide +kernel
theorem dX0_brokenPins_31 : decode cX0_brokenPins 31 = .ok (.iload_n 1, 1) := by decide +kernel
theorem dX0_brokenPins_32 : decode cX0_brokenPins 32 = .ok (.ireturn, 1) := by decide +kernel
theorem dX1_init_0 : decode cX1_init 0 = .ok (.aload_n 0, 1) := by decide +kernel
theorem dX1_init_1 : decode cX1_init 1 = .ok (.invokespecial 3, 3) := by decide +kernel
theorem dX1_init_4 : decode cX1_init 4 = .ok (.aload_n 0, 1) := by decide +kernel
theorem dX1_init_5 : decode cX1_init 5 = .ok (.sipush 200, 3) := by decide +kernel
theorem dX1_init_8 : decode cX1_init 8 = .ok (.putfield 9, 3) := by decide +kernel
theorem dX1_init_11 : decode cX1_init 11 = .ok (.return_, 1) := by decide +kernel
theorem dX1_isWhole_0 : decode cX1_isWhole 0 = .ok (.aload_n 0, 1) := by decide +kernel
theorem dX1_isWhole_1 : decode cX1_isWhole 1 = .ok (.getfield 15, 3) := by decide +kernel
theorem dX1_isWhole_4 : decode cX1_isWhole 4 = .ok (.aload_n 0, 1) := by decide +kernel
theorem dX1_isWhole_5 : decode cX1_isWhole 5 = .ok (.getfield 9, 3) := by decide +kernel
theorem dX1_isWhole_8 : decode cX1_isWhole 8 = .ok (.if_icmp .gt 7, 3) := by decide +kernel
theorem dX1_isWhole_11 : decode cX1_isWhole 11 = .ok (.iconst 1, 1) := by decide +kernel
theorem dX1_isWhole_12 : decode cX1_isWhole 12 = .ok (.goto 4, 3) := by decide +kernel
theorem dX1_isWhole_15 : decode cX1_isWhole 15 = .ok (.iconst 0, 1) := by decide +kernel
theorem dX1_isWhole_16 : decode cX1_isWhole 16 = .ok (.ireturn, 1) := by decide +kernel
set_option maxRecDepth 20000 in
theorem ggX1_strike_X1_isWhole : GoodIn wsX1_strike wsX1_isWhole := goodIn_r _ [6, 1, 7, 8, 9] (by decide +kernel) (by decide +kernel)
set_option maxRecDepth 20000 in
theorem gX1_strike_X1_isWhole : GoodIn wsX1_strike (wsV RX1 18 RX1 yX1_isWhole wsX1_isWhole) := goodIn_app (goodIn_of _ (by decide +kernel)) ggX1_strike_X1_isWhole
theorem dX1_strike_0 : decode cX1_strike 0 = .ok (.aload_n 0, 1) := by decide +kernel
theorem dX1_strike_1 : decode cX1_strike 1 = .ok (.invokevirtual 18, 3) := by decide +kernel
theorem dX1_strike_4 : decode cX1_strike 4 = .ok (.ifCond .eq 13, 3) := by decide +kernel
theorem dX1_strike_7 : decode cX1_strike 7 = .ok (.aload_n 0, 1) := by decide +kernel
theorem dX1_strike_8 : decode cX1_strike 8 = .ok (.dup, 1) := by decide +kernel
theorem dX1_strike_9 : decode cX1_strike 9 = .ok (.getfield 15, 3) := by decide +kernel
theorem dX1_strike_12 : decode cX1_strike 12 = .ok (.iconst 1, 1) := by decide +kernel
theorem dX1_strike_13 : decode cX1_strike 13 = .ok (.iadd, 1) := by decide +kernel
theorem dX1_strike_14 : decode cX1_strike 14 = .ok (.putfield 15, 3) := by decide +kernel
theorem dX1_strike_17 : decode cX1_strike 17 = .ok (.return_, 1) := by decide +kernel
theorem dX1_becomeLike_0 : decode cX1_becomeLike 0 = .ok (.aload_n 0, 1) := by decide +kernel
theorem dX1_becomeLike_1 : decode cX1_becomeLike 1 = .ok (.aload_n 1, 1) := by decide +kernel
theorem dX1_becomeLike_2 : decode cX1_becomeLike 2 = .ok (.getfield 9, 3) := by decide +kernel
theorem dX1_becomeLike_5 : decode cX1_becomeLike 5 = .ok (.putfield 9, 3) := by decide +kernel
theorem dX1_becomeLike_8 : decode cX1_becomeLike 8 = .ok (.aload_n 0, 1) := by decide +kernel
theorem dX1_becomeLike_9 : decode cX1_becomeLike 9 = .ok (.aload_n 1, 1) := by decide +kernel
theorem dX1_becomeLike_10 : decode cX1_becomeLike 10 = .ok (.getfield 15, 3) := by decide +kernel
theorem dX1_becomeLike_13 : decode cX1_becomeLike 13 = .ok (.putfield 15, 3) := by decide +kernel
theorem dX1_becomeLike_16 : decode cX1_becomeLike 16 = .ok (.return_, 1) := by decide +kernel
set_option maxRecDepth 20000 in
theorem ggX1_answer_X1_isWhole : GoodIn wsX1_answer wsX1_isWhole := goodIn_r _ [7, 2, 1, 8, 9] (by decide +kernel) (by decide +kernel)
set_option maxRecDepth 20000 in
theorem gX1_answer_X1_isWhole : GoodIn wsX1_answer (wsV RX1 18 RX1 yX1_isWhole wsX1_isWhole) := goodIn_app (goodIn_of _ (by decide +kernel)) ggX1_answer_X1_isWhole
theorem dX1_answer_0 : decode cX1_answer 0 = .ok (.iload_n 1, 1) := by decide +kernel
theorem dX1_answer_1 : decode cX1_answer 1 = .ok (.tableswitch 50 0 2 #[27, 32, 37], 27) := by decide +kernel
theorem dX1_answer_28 : decode cX1_answer 28 = .ok (.aload_n 0, 1) := by decide +kernel
theorem dX1_answer_29 : decode cX1_answer 29 = .ok (.getfield 9, 3) := by decide +kernel
theorem dX1_answer_32 : decode cX1_answer 32 = .ok (.ireturn, 1) := by decide +kernel
theorem dX1_answer_33 : decode cX1_answer 33 = .ok (.aload_n 0, 1) := by decide +kernel
theorem dX1_answer_34 : decode cX1_answer 34 = .ok (.getfield 15, 3) := by decide +kernel
theorem dX1_answer_37 : decode cX1_answer 37 = .ok (.ireturn, 1) := by decide +kernel
theorem dX1_answer_38 : decode cX1_answer 38 = .ok (.aload_n 0, 1) := by decide +kernel
theorem dX1_answer_39 : decode cX1_answer 39 = .ok (.invokevirtual 18, 3) := by decide +kernel
theorem dX1_answer_42 : decode cX1_answer 42 = .ok (.ifCond .eq 7, 3) := by decide +kernel
theorem dX1_answer_45 : decode cX1_answer 45 = .ok (.iconst 1, 1) := by decide +kernel
theorem dX1_answer_46 : decode cX1_answer 46 = .ok (.goto 4, 3) := by decide +kernel
theorem dX1_answer_49 : decode cX1_answer 49 = .ok (.iconst 0, 1) := by decide +kernel
theorem dX1_answer_50 : decode cX1_answer 50 = .ok (.ireturn, 1) := by decide +kernel
theorem dX1_answer_51 : decode cX1_answer 51 = .ok (.aload_n 0, 1) := by decide +kernel
theorem dX1_answer_52 : decode cX1_answer 52 = .ok (.invokevirtual 18, 3) := by decide +kernel
theorem dX1_answer_55 : decode cX1_answer 55 = .ok (.ifCond .eq 17, 3) := by decide +kernel
theorem dX1_answer_58 : decode cX1_answer 58 = .ok (.aload_n 0, 1) := by decide +kernel
theorem dX1_answer_59 : decode cX1_answer 59 = .ok (.getfield 9, 3) := by decide +kernel
theorem dX1_answer_62 : decode cX1_answer 62 = .ok (.aload_n 0, 1) := by decide +kernel
theorem dX1_answer_63 : decode cX1_answer 63 = .ok (.getfield 15, 3) := by decide +kernel
theorem dX1_answer_66 : decode cX1_answer 66 = .ok (.isub, 1) := by decide +kernel
theorem dX1_answer_67 : decode cX1_answer 67 = .ok (.iconst 1, 1) := by decide +kernel
theorem dX1_answer_68 : decode cX1_answer 68 = .ok (.iadd, 1) := by decide +kernel
theorem dX1_answer_69 : decode cX1_answer 69 = .ok (.goto 4, 3) := by decide +kernel
theorem dX1_answer_72 : decode cX1_answer 72 = .ok (.iconst 0, 1) := by decide +kernel
theorem dX1_answer_73 : decode cX1_answer 73 = .ok (.ireturn, 1) := by decide +kernel
theorem dX2_init_0 : decode cX2_init 0 = .ok (.aload_n 0, 1) := by decide +kernel
theorem dX2_init_1 : decode cX2_init 1 = .ok (.invokespecial 3, 3) := by decide +kernel
theorem dX2_init_4 : decode cX2_init 4 = .ok (.aload_n 0, 1) := by decide +kernel
theorem dX2_init_5 : decode cX2_init 5 = .ok (.bipush 30, 2) := by decide +kernel
theorem dX2_init_7 : decode cX2_init 7 = .ok (.newarray .int, 2) := by decide +kernel
theorem dX2_init_9 : decode cX2_init 9 = .ok (.putfield 9, 3) := by decide +kernel
theorem dX2_init_12 : decode cX2_init 12 = .ok (.aload_n 0, 1) := by decide +kernel
theorem dX2_init_13 : decode cX2_init 13 = .ok (.bipush 30, 2) := by decide +kernel
theorem dX2_init_15 : decode cX2_init 15 = .ok (.newarray .boolean, 2) := by decide +kernel
theorem dX2_init_17 : decode cX2_init 17 = .ok (.putfield 15, 3) := by decide +kernel
theorem dX2_init_20 : decode cX2_init 20 = .ok (.return_, 1) := by decide +kernel
set_option maxRecDepth 20000 in
theorem ggX2_answer_X2_left : GoodIn wsX2_answer wsX2_left := goodIn_r _ [5, 6, 51, 52] (by decide +kernel) (by decide +kernel)
set_option maxRecDepth 20000 in
theorem gX2_answer_X2_left : GoodIn wsX2_answer (wsV RX2 19 RX2 yX2_left wsX2_left) := goodIn_app (goodIn_of _ (by decide +kernel)) ggX2_answer_X2_left
set_option maxRecDepth 20000 in
theorem ggX2_answer_X2_leftWith : GoodIn wsX2_answer wsX2_leftWith := goodIn_r _ [10, 11, 12, 13, 4, 14, 6, 15, 51, 52] (by decide +kernel) (by decide +kernel)
set_option maxRecDepth 20000 in
theorem gX2_answer_X2_leftWith : GoodIn wsX2_answer (wsV RX2 23 RX2 yX2_leftWith wsX2_leftWith) := goodIn_app (goodIn_of _ (by decide +kernel)) ggX2_answer_X2_leftWith
set_option maxRecDepth 20000 in
theorem ggX2_answer_X2_worth : GoodIn wsX2_answer wsX2_worth := goodIn_r _ [19, 20, 21, 22, 4, 23, 15, 6, 51, 52] (by decide +kernel) (by decide +kernel)
set_option maxRecDepth 20000 in
theorem gX2_answer_X2_worth : GoodIn wsX2_answer (wsV RX2 27 RX2 yX2_worth wsX2_worth) := goodIn_app (goodIn_of _ (by decide +kernel)) ggX2_answer_X2_worth
set_option maxRecDepth 20000 in
theorem ggX2_answer_X2_invertedPairs : GoodIn wsX2_answer wsX2_invertedPairs := goodIn_r _ [27, 28, 29, 30, 4, 31, 6, 15, 51, 52] (by decide +kernel) (by decide +kernel)
set_option maxRecDepth 20000 in
theorem gX2_answer_X2_invertedPairs : GoodIn wsX2_answer (wsV RX2 30 RX2 yX2_invertedPairs wsX2_invertedPairs) := goodIn_app (goodIn_of _ (by decide +kernel)) ggX2_answer_X2_invertedPairs
set_option maxRecDepth 20000 in
theorem ggX2_answer_X2_rowsOff : GoodIn wsX2_answer wsX2_rowsOff := goodIn_r _ [35, 15, 51, 52] (by decide +kernel) (by decide +kernel)
set_option maxRecDepth 20000 in
theorem gX2_answer_X2_rowsOff : GoodIn wsX2_answer (wsV RX2 33 RX2 yX2_rowsOff wsX2_rowsOff) := goodIn_app (goodIn_of _ (by decide +kernel)) ggX2_answer_X2_rowsOff
set_option maxRecDepth 20000 in
theorem ggX2_answer_X2_greatestBlock : GoodIn wsX2_answer wsX2_greatestBlock := goodIn_r _ [39, 40, 41, 42, 43, 44, 45, 46, 4, 47, 11, 12, 13, 14, 6, 15, 48, 49, 50, 51, 52] (by decide +kernel) (by decide +kernel)
set_option maxRecDepth 20000 in
theorem gX2_answer_X2_greatestBlock : GoodIn wsX2_answer (wsV RX2 36 RX2 yX2_greatestBlock wsX2_greatestBlock) := goodIn_app (goodIn_of _ (by decide +kernel)) ggX2_answer_X2_greatestBlock
theorem dX2_answer_0 : decode cX2_answer 0 = .ok (.iload_n 1, 1) := by decide +kernel
theorem dX2_answer_1 : decode cX2_answer 1 = .ok (.tableswitch 61 0 4 #[35, 40, 46, 51, 56], 35) := by decide +kernel
theorem dX2_answer_36 : decode cX2_answer 36 = .ok (.aload_n 0, 1) := by decide +kernel
theorem dX2_answer_37 : decode cX2_answer 37 = .ok (.invokevirtual 19, 3) := by decide +kernel
theorem dX2_answer_40 : decode cX2_answer 40 = .ok (.ireturn, 1) := by decide +kernel
theorem dX2_answer_41 : decode cX2_answer 41 = .ok (.aload_n 0, 1) := by decide +kernel
theorem dX2_answer_42 : decode cX2_answer 42 = .ok (.iconst 0, 1) := by decide +kernel
theorem dX2_answer_43 : decode cX2_answer 43 = .ok (.invokevirtual 23, 3) := by decide +kernel
theorem dX2_answer_46 : decode cX2_answer 46 = .ok (.ireturn, 1) := by decide +kernel
theorem dX2_answer_47 : decode cX2_answer 47 = .ok (.aload_n 0, 1) := by decide +kernel
theorem dX2_answer_48 : decode cX2_answer 48 = .ok (.invokevirtual 27, 3) := by decide +kernel
theorem dX2_answer_51 : decode cX2_answer 51 = .ok (.ireturn, 1) := by decide +kernel
theorem dX2_answer_52 : decode cX2_answer 52 = .ok (.aload_n 0, 1) := by decide +kernel
theorem dX2_answer_53 : decode cX2_answer 53 = .ok (.invokevirtual 30, 3) := by decide +kernel
theorem dX2_answer_56 : decode cX2_answer 56 = .ok (.ireturn, 1) := by decide +kernel
theorem dX2_answer_57 : decode cX2_answer 57 = .ok (.aload_n 0, 1) := by decide +kernel
theorem dX2_answer_58 : decode cX2_answer 58 = .ok (.invokevirtual 33, 3) := by decide +kernel
theorem dX2_answer_61 : decode cX2_answer 61 = .ok (.ireturn, 1) := by decide +kernel
theorem dX2_answer_62 : decode cX2_answer 62 = .ok (.aload_n 0, 1) := by decide +kernel
theorem dX2_answer_63 : decode cX2_answer 63 = .ok (.invokevirtual 36, 3) := by decide +kernel
theorem dX2_answer_66 : decode cX2_answer 66 = .ok (.ireturn, 1) := by decide +kernel
theorem dX2_worthOf_0 : decode cX2_worthOf 0 = .ok (.aload_n 0, 1) := by decide +kernel
theorem dX2_worthOf_1 : decode cX2_worthOf 1 = .ok (.getfield 9, 3) := by decide +kernel
theorem dX2_worthOf_4 : decode cX2_worthOf 4 = .ok (.iload_n 1, 1) := by decide +kernel
theorem dX2_worthOf_5 : decode cX2_worthOf 5 = .ok (.iaload, 1) := by decide +kernel
theorem dX2_worthOf_6 : decode cX2_worthOf 6 = .ok (.istore_n 2, 1) := by decide +kernel
theorem dX2_worthOf_7 : decode cX2_worthOf 7 = .ok (.aload_n 0, 1) := by decide +kernel
theorem dX2_worthOf_8 : decode cX2_worthOf 8 = .ok (.getfield 15, 3) := by decide +kernel
theorem dX2_worthOf_11 : decode cX2_worthOf 11 = .ok (.iload_n 1, 1) := by decide +kernel
theorem dX2_worthOf_12 : decode cX2_worthOf 12 = .ok (.baload, 1) := by decide +kernel
theorem dX2_worthOf_13 : decode cX2_worthOf 13 = .ok (.ifCond .ne 10, 3) := by decide +kernel
theorem dX2_worthOf_16 : decode cX2_worthOf 16 = .ok (.iload_n 2, 1) := by decide +kernel
theorem dX2_worthOf_17 : decode cX2_worthOf 17 = .ok (.bipush 7, 2) := by decide +kernel
theorem dX2_worthOf_19 : decode cX2_worthOf 19 = .ok (.iand, 1) := by decide +kernel
theorem dX2_worthOf_20 : decode cX2_worthOf 20 = .ok (.ifCond .eq 5, 3) := by decide +kernel
theorem dX2_worthOf_23 : decode cX2_worthOf 23 = .ok (.iconst 0, 1) := by decide +kernel
theorem dX2_worthOf_24 : decode cX2_worthOf 24 = .ok (.ireturn, 1) := by decide +kernel
theorem dX2_worthOf_25 : decode cX2_worthOf 25 = .ok (.iconst 1, 1) := by decide +kernel
theorem dX2_worthOf_26 : decode cX2_worthOf 26 = .ok (.istore_n 3, 1) := by decide +kernel
theorem dX2_worthOf_27 : decode cX2_worthOf 27 = .ok (.iload_n 2, 1) := by decide +kernel
theorem dX2_worthOf_28 : decode cX2_worthOf 28 = .ok (.bipush 8, 2) := by decide +kernel
theorem dX2_worthOf_30 : decode cX2_worthOf 30 = .ok (.iand, 1) := by decide +kernel
theorem dX2_worthOf_31 : decode cX2_worthOf 31 = .ok (.ifCond .eq 6, 3) := by decide +kernel
theorem dX2_worthOf_34 : decode cX2_worthOf 34 = .ok (.iinc 3 20, 3) := by decide +kernel
theorem dX2_worthOf_37 : decode cX2_worthOf 37 = .ok (.iload_n 2, 1) := by decide +kernel
theorem dX2_worthOf_38 : decode cX2_worthOf 38 = .ok (.bipush 16, 2) := by decide +kernel
theorem dX2_worthOf_40 : decode cX2_worthOf 40 = .ok (.iand, 1) := by decide +kernel
theorem dX2_worthOf_41 : decode cX2_worthOf 41 = .ok (.ifCond .eq 6, 3) := by decide +kernel
theorem dX2_worthOf_44 : decode cX2_worthOf 44 = .ok (.iinc 3 4, 3) := by decide +kernel
theorem dX2_worthOf_47 : decode cX2_worthOf 47 = .ok (.iload_n 3, 1) := by decide +kernel
theorem dX2_worthOf_48 : decode cX2_worthOf 48 = .ok (.ireturn, 1) := by decide +kernel
set_option maxRecDepth 20000 in
theorem ggX2_worth_X2_worthOf : GoodIn wsX2_worth wsX2_worthOf := goodIn_r _ [5, 6, 7, 8, 9] (by decide +kernel) (by decide +kernel)
set_option maxRecDepth 20000 in
theorem gX2_worth_X2_worthOf : GoodIn wsX2_worth (wsV RX2 39 RX2 yX2_worthOf wsX2_worthOf) := goodIn_app (goodIn_of _ (by decide +kernel)) ggX2_worth_X2_worthOf
theorem dX2_worth_0 : decode cX2_worth 0 = .ok (.iconst 0, 1) := by decide +kernel
theorem dX2_worth_1 : decode cX2_worth 1 = .ok (.istore_n 1, 1) := by decide +kernel
theorem dX2_worth_2 : decode cX2_worth 2 = .ok (.iconst 0, 1) := by decide +kernel
theorem dX2_worth_3 : decode cX2_worth 3 = .ok (.istore_n 2, 1) := by decide +kernel
theorem dX2_worth_4 : decode cX2_worth 4 = .ok (.iload_n 2, 1) := by decide +kernel
theorem dX2_worth_5 : decode cX2_worth 5 = .ok (.bipush 30, 2) := by decide +kernel
theorem dX2_worth_7 : decode cX2_worth 7 = .ok (.if_icmp .ge 17, 3) := by decide +kernel
theorem dX2_worth_10 : decode cX2_worth 10 = .ok (.iload_n 1, 1) := by decide +kernel
theorem dX2_worth_11 : decode cX2_worth 11 = .ok (.aload_n 0, 1) := by decide +kernel
theorem dX2_worth_12 : decode cX2_worth 12 = .ok (.iload_n 2, 1) := by decide +kernel
theorem dX2_worth_13 : decode cX2_worth 13 = .ok (.invokevirtual 39, 3) := by decide +kernel
theorem dX2_worth_16 : decode cX2_worth 16 = .ok (.iadd, 1) := by decide +kernel
theorem dX2_worth_17 : decode cX2_worth 17 = .ok (.istore_n 1, 1) := by decide +kernel
theorem dX2_worth_18 : decode cX2_worth 18 = .ok (.iinc 2 1, 3) := by decide +kernel
theorem dX2_worth_21 : decode cX2_worth 21 = .ok (.goto (-17), 3) := by decide +kernel
theorem dX2_worth_24 : decode cX2_worth 24 = .ok (.iload_n 1, 1) := by decide +kernel
theorem dX2_worth_25 : decode cX2_worth 25 = .ok (.ireturn, 1) := by decide +kernel
theorem dX2_left_0 : decode cX2_left 0 = .ok (.iconst 0, 1) := by decide +kernel
theorem dX2_left_1 : decode cX2_left 1 = .ok (.istore_n 1, 1) := by decide +kernel
theorem dX2_left_2 : decode cX2_left 2 = .ok (.iconst 0, 1) := by decide +kernel
theorem dX2_left_3 : decode cX2_left 3 = .ok (.istore_n 2, 1) := by decide +kernel
theorem dX2_left_4 : decode cX2_left 4 = .ok (.iload_n 2, 1) := by decide +kernel
theorem dX2_left_5 : decode cX2_left 5 = .ok (.bipush 30, 2) := by decide +kernel
theorem dX2_left_7 : decode cX2_left 7 = .ok (.if_icmp .ge 21, 3) := by decide +kernel
theorem dX2_left_10 : decode cX2_left 10 = .ok (.aload_n 0, 1) := by decide +kernel
theorem dX2_left_11 : decode cX2_left 11 = .ok (.getfield 15, 3) := by decide +kernel
theorem dX2_left_14 : decode cX2_left 14 = .ok (.iload_n 2, 1) := by decide +kernel
theorem dX2_left_15 : decode cX2_left 15 = .ok (.baload, 1) := by decide +kernel
theorem dX2_left_16 : decode cX2_left 16 = .ok (.ifCond .ne 6, 3) := by decide +kernel
theorem dX2_left_19 : decode cX2_left 19 = .ok (.iinc 1 1, 3) := by decide +kernel
theorem dX2_left_22 : decode cX2_left 22 = .ok (.iinc 2 1, 3) := by decide +kernel
theorem dX2_left_25 : decode cX2_left 25 = .ok (.goto (-21), 3) := by decide +kernel
theorem dX2_left_28 : decode cX2_left 28 = .ok (.iload_n 1, 1) := by decide +kernel
theorem dX2_left_29 : decode cX2_left 29 = .ok (.ireturn, 1) := by decide +kernel
theorem dX2_isLeftWith_0 : decode cX2_isLeftWith 0 = .ok (.aload_n 0, 1) := by decide +kernel
theorem dX2_isLeftWith_1 : decode cX2_isLeftWith 1 = .ok (.getfield 15, 3) := by decide +kernel
theorem dX2_isLeftWith_4 : decode cX2_isLeftWith 4 = .ok (.iload_n 1, 1) := by decide +kernel
theorem dX2_isLeftWith_5 : decode cX2_isLeftWith 5 = .ok (.baload, 1) := by decide +kernel
theorem dX2_isLeftWith_6 : decode cX2_isLeftWith 6 = .ok (.ifCond .ne 17, 3) := by decide +kernel
theorem dX2_isLeftWith_9 : decode cX2_isLeftWith 9 = .ok (.aload_n 0, 1) := by decide +kernel
theorem dX2_isLeftWith_10 : decode cX2_isLeftWith 10 = .ok (.getfield 9, 3) := by decide +kernel
theorem dX2_isLeftWith_13 : decode cX2_isLeftWith 13 = .ok (.iload_n 1, 1) := by decide +kernel
theorem dX2_isLeftWith_14 : decode cX2_isLeftWith 14 = .ok (.iaload, 1) := by decide +kernel
theorem dX2_isLeftWith_15 : decode cX2_isLeftWith 15 = .ok (.iload_n 2, 1) := by decide +kernel
theorem dX2_isLeftWith_16 : decode cX2_isLeftWith 16 = .ok (.if_icmp .ne 7, 3) := by decide +kernel
theorem dX2_isLeftWith_19 : decode cX2_isLeftWith 19 = .ok (.iconst 1, 1) := by decide +kernel
theorem dX2_isLeftWith_20 : decode cX2_isLeftWith 20 = .ok (.goto 4, 3) := by decide +kernel
theorem dX2_isLeftWith_23 : decode cX2_isLeftWith 23 = .ok (.iconst 0, 1) := by decide +kernel
theorem dX2_isLeftWith_24 : decode cX2_isLeftWith 24 = .ok (.ireturn, 1) := by decide +kernel
set_option maxRecDepth 20000 in
theorem ggX2_leftWith_X2_isLeftWith : GoodIn wsX2_leftWith wsX2_isLeftWith := goodIn_r _ [5, 6, 7, 8, 9] (by decide +kernel) (by decide +kernel)
set_option maxRecDepth 20000 in
theorem gX2_leftWith_X2_isLeftWith : GoodIn wsX2_leftWith (wsV RX2 42 RX2 yX2_isLeftWith wsX2_isLeftWith) := goodIn_app (goodIn_of _ (by decide +kernel)) ggX2_leftWith_X2_isLeftWith
theorem dX2_leftWith_0 : decode cX2_leftWith 0 = .ok (.iconst 0, 1) := by decide +kernel
theorem dX2_leftWith_1 : decode cX2_leftWith 1 = .ok (.istore_n 2, 1) := by decide +kernel
theorem dX2_leftWith_2 : decode cX2_leftWith 2 = .ok (.iconst 0, 1) := by decide +kernel
theorem dX2_leftWith_3 : decode cX2_leftWith 3 = .ok (.istore_n 3, 1) := by decide +kernel
theorem dX2_leftWith_4 : decode cX2_leftWith 4 = .ok (.iload_n 3, 1) := by decide +kernel
theorem dX2_leftWith_5 : decode cX2_leftWith 5 = .ok (.bipush 30, 2) := by decide +kernel
theorem dX2_leftWith_7 : decode cX2_leftWith 7 = .ok (.if_icmp .ge 21, 3) := by decide +kernel
theorem dX2_leftWith_10 : decode cX2_leftWith 10 = .ok (.aload_n 0, 1) := by decide +kernel
theorem dX2_leftWith_11 : decode cX2_leftWith 11 = .ok (.iload_n 3, 1) := by decide +kernel
theorem dX2_leftWith_12 : decode cX2_leftWith 12 = .ok (.iload_n 1, 1) := by decide +kernel
theorem dX2_leftWith_13 : decode cX2_leftWith 13 = .ok (.invokevirtual 42, 3) := by decide +kernel
theorem dX2_leftWith_16 : decode cX2_leftWith 16 = .ok (.ifCond .eq 6, 3) := by decide +kernel
theorem dX2_leftWith_19 : decode cX2_leftWith 19 = .ok (.iinc 2 1, 3) := by decide +kernel
theorem dX2_leftWith_22 : decode cX2_leftWith 22 = .ok (.iinc 3 1, 3) := by decide +kernel
theorem dX2_leftWith_25 : decode cX2_leftWith 25 = .ok (.goto (-21), 3) := by decide +kernel
theorem dX2_leftWith_28 : decode cX2_leftWith 28 = .ok (.iload_n 2, 1) := by decide +kernel
theorem dX2_leftWith_29 : decode cX2_leftWith 29 = .ok (.ireturn, 1) := by decide +kernel
set_option maxRecDepth 20000 in
theorem ggX2_invertedPairs_X2_isInvertedPair : GoodIn wsX2_invertedPairs wsX2_isInvertedPair := goodIn_r _ [5, 6, 7, 8, 9] (by decide +kernel) (by decide +kernel)
set_option maxRecDepth 20000 in
theorem gX2_invertedPairs_X2_isInvertedPair : GoodIn wsX2_invertedPairs (wsV RX2 46 RX2 yX2_isInvertedPair wsX2_isInvertedPair) := goodIn_app (goodIn_of _ (by decide +kernel)) ggX2_invertedPairs_X2_isInvertedPair
theorem dX2_invertedPairs_0 : decode cX2_invertedPairs 0 = .ok (.iconst 0, 1) := by decide +kernel
theorem dX2_invertedPairs_1 : decode cX2_invertedPairs 1 = .ok (.istore_n 1, 1) := by decide +kernel
theorem dX2_invertedPairs_2 : decode cX2_invertedPairs 2 = .ok (.iconst 0, 1) := by decide +kernel
theorem dX2_invertedPairs_3 : decode cX2_invertedPairs 3 = .ok (.istore_n 2, 1) := by decide +kernel
theorem dX2_invertedPairs_4 : decode cX2_invertedPairs 4 = .ok (.iload_n 2, 1) := by decide +kernel
theorem dX2_invertedPairs_5 : decode cX2_invertedPairs 5 = .ok (.iconst 5, 1) := by decide +kernel
theorem dX2_invertedPairs_6 : decode cX2_invertedPairs 6 = .ok (.if_icmp .ge 38, 3) := by decide +kernel
theorem dX2_invertedPairs_9 : decode cX2_invertedPairs 9 = .ok (.iconst 0, 1) := by decide +kernel
theorem dX2_invertedPairs_10 : decode cX2_invertedPairs 10 = .ok (.istore_n 3, 1) := by decide +kernel
theorem dX2_invertedPairs_11 : decode cX2_invertedPairs 11 = .ok (.iload_n 3, 1) := by decide +kernel
theorem dX2_invertedPairs_12 : decode cX2_invertedPairs 12 = .ok (.iconst 5, 1) := by decide +kernel
theorem dX2_invertedPairs_13 : decode cX2_invertedPairs 13 = .ok (.if_icmp .ge 25, 3) := by decide +kernel
theorem dX2_invertedPairs_16 : decode cX2_invertedPairs 16 = .ok (.aload_n 0, 1) := by decide +kernel
theorem dX2_invertedPairs_17 : decode cX2_invertedPairs 17 = .ok (.bipush 6, 2) := by decide +kernel
theorem dX2_invertedPairs_19 : decode cX2_invertedPairs 19 = .ok (.iload_n 2, 1) := by decide +kernel
theorem dX2_invertedPairs_20 : decode cX2_invertedPairs 20 = .ok (.imul, 1) := by decide +kernel
theorem dX2_invertedPairs_21 : decode cX2_invertedPairs 21 = .ok (.iload_n 3, 1) := by decide +kernel
theorem dX2_invertedPairs_22 : decode cX2_invertedPairs 22 = .ok (.iadd, 1) := by decide +kernel
theorem dX2_invertedPairs_23 : decode cX2_invertedPairs 23 = .ok (.invokevirtual 46, 3) := by decide +kernel
theorem dX2_invertedPairs_26 : decode cX2_invertedPairs 26 = .ok (.ifCond .eq 6, 3) := by decide +kernel
theorem dX2_invertedPairs_29 : decode cX2_invertedPairs 29 = .ok (.iinc 1 1, 3) := by decide +kernel
theorem dX2_invertedPairs_32 : decode cX2_invertedPairs 32 = .ok (.iinc 3 1, 3) := by decide +kernel
theorem dX2_invertedPairs_35 : decode cX2_invertedPairs 35 = .ok (.goto (-24), 3) := by decide +kernel
theorem dX2_invertedPairs_38 : decode cX2_invertedPairs 38 = .ok (.iinc 2 1, 3) := by decide +kernel
theorem dX2_invertedPairs_41 : decode cX2_invertedPairs 41 = .ok (.goto (-37), 3) := by decide +kernel
theorem dX2_invertedPairs_44 : decode cX2_invertedPairs 44 = .ok (.iload_n 1, 1) := by decide +kernel
theorem dX2_invertedPairs_45 : decode cX2_invertedPairs 45 = .ok (.ireturn, 1) := by decide +kernel
theorem dX2_isInvertedPair_0 : decode cX2_isInvertedPair 0 = .ok (.iload_n 1, 1) := by decide +kernel
theorem dX2_isInvertedPair_1 : decode cX2_isInvertedPair 1 = .ok (.iconst 1, 1) := by decide +kernel
theorem dX2_isInvertedPair_2 : decode cX2_isInvertedPair 2 = .ok (.iadd, 1) := by decide +kernel
theorem dX2_isInvertedPair_3 : decode cX2_isInvertedPair 3 = .ok (.istore_n 2, 1) := by decide +kernel
theorem dX2_isInvertedPair_4 : decode cX2_isInvertedPair 4 = .ok (.aload_n 0, 1) := by decide +kernel
theorem dX2_isInvertedPair_5 : decode cX2_isInvertedPair 5 = .ok (.getfield 15, 3) := by decide +kernel
theorem dX2_isInvertedPair_8 : decode cX2_isInvertedPair 8 = .ok (.iload_n 1, 1) := by decide +kernel
theorem dX2_isInvertedPair_9 : decode cX2_isInvertedPair 9 = .ok (.baload, 1) := by decide +kernel
theorem dX2_isInvertedPair_10 : decode cX2_isInvertedPair 10 = .ok (.ifCond .ne 35, 3) := by decide +kernel
theorem dX2_isInvertedPair_13 : decode cX2_isInvertedPair 13 = .ok (.aload_n 0, 1) := by decide +kernel
theorem dX2_isInvertedPair_14 : decode cX2_isInvertedPair 14 = .ok (.getfield 15, 3) := by decide +kernel
theorem dX2_isInvertedPair_17 : decode cX2_isInvertedPair 17 = .ok (.iload_n 2, 1) := by decide +kernel
theorem dX2_isInvertedPair_18 : decode cX2_isInvertedPair 18 = .ok (.baload, 1) := by decide +kernel
theorem dX2_isInvertedPair_19 : decode cX2_isInvertedPair 19 = .ok (.ifCond .ne 26, 3) := by decide +kernel
theorem dX2_isInvertedPair_22 : decode cX2_isInvertedPair 22 = .ok (.aload_n 0, 1) := by decide +kernel
theorem dX2_isInvertedPair_23 : decode cX2_isInvertedPair 23 = .ok (.getfield 9, 3) := by decide +kernel
theorem dX2_isInvertedPair_26 : decode cX2_isInvertedPair 26 = .ok (.iload_n 1, 1) := by decide +kernel
theorem dX2_isInvertedPair_27 : decode cX2_isInvertedPair 27 = .ok (.iaload, 1) := by decide +kernel
theorem dX2_isInvertedPair_28 : decode cX2_isInvertedPair 28 = .ok (.aload_n 0, 1) := by decide +kernel
theorem dX2_isInvertedPair_29 : decode cX2_isInvertedPair 29 = .ok (.getfield 9, 3) := by decide +kernel
theorem dX2_isInvertedPair_32 : decode cX2_isInvertedPair 32 = .ok (.iload_n 2, 1) := by decide +kernel
theorem dX2_isInvertedPair_33 : decode cX2_isInvertedPair 33 = .ok (.iaload, 1) := by decide +kernel
theorem dX2_isInvertedPair_34 : decode cX2_isInvertedPair 34 = .ok (.ixor, 1) := by decide +kernel
theorem dX2_isInvertedPair_35 : decode cX2_isInvertedPair 35 = .ok (.bipush 8, 2) := by decide +kernel
theorem dX2_isInvertedPair_37 : decode cX2_isInvertedPair 37 = .ok (.iand, 1) := by decide +kernel
theorem dX2_isInvertedPair_38 : decode cX2_isInvertedPair 38 = .ok (.ifCond .eq 7, 3) := by decide +kernel
theorem dX2_isInvertedPair_41 : decode cX2_isInvertedPair 41 = .ok (.iconst 1, 1) := by decide +kernel
theorem dX2_isInvertedPair_42 : decode cX2_isInvertedPair 42 = .ok (.goto 4, 3) := by decide +kernel
theorem dX2_isInvertedPair_45 : decode cX2_isInvertedPair 45 = .ok (.iconst 0, 1) := by decide +kernel
theorem dX2_isInvertedPair_46 : decode cX2_isInvertedPair 46 = .ok (.ireturn, 1) := by decide +kernel
theorem dX2_rowsOff_0 : decode cX2_rowsOff 0 = .ok (.iconst 0, 1) := by decide +kernel
theorem dX2_rowsOff_1 : decode cX2_rowsOff 1 = .ok (.istore_n 1, 1) := by decide +kernel
theorem dX2_rowsOff_2 : decode cX2_rowsOff 2 = .ok (.iconst 0, 1) := by decide +kernel
theorem dX2_rowsOff_3 : decode cX2_rowsOff 3 = .ok (.istore_n 2, 1) := by decide +kernel
theorem dX2_rowsOff_4 : decode cX2_rowsOff 4 = .ok (.iload_n 2, 1) := by decide +kernel
theorem dX2_rowsOff_5 : decode cX2_rowsOff 5 = .ok (.iconst 5, 1) := by decide +kernel
theorem dX2_rowsOff_6 : decode cX2_rowsOff 6 = .ok (.if_icmp .ge 26, 3) := by decide +kernel
theorem dX2_rowsOff_9 : decode cX2_rowsOff 9 = .ok (.aload_n 0, 1) := by decide +kernel
theorem dX2_rowsOff_10 : decode cX2_rowsOff 10 = .ok (.getfield 9, 3) := by decide +kernel
theorem dX2_rowsOff_13 : decode cX2_rowsOff 13 = .ok (.bipush 6, 2) := by decide +kernel
theorem dX2_rowsOff_15 : decode cX2_rowsOff 15 = .ok (.iload_n 2, 1) := by decide +kernel
theorem dX2_rowsOff_16 : decode cX2_rowsOff 16 = .ok (.imul, 1) := by decide +kernel
theorem dX2_rowsOff_17 : decode cX2_rowsOff 17 = .ok (.iaload, 1) := by decide +kernel
theorem dX2_rowsOff_18 : decode cX2_rowsOff 18 = .ok (.iconst 1, 1) := by decide +kernel
theorem dX2_rowsOff_19 : decode cX2_rowsOff 19 = .ok (.iand, 1) := by decide +kernel
theorem dX2_rowsOff_20 : decode cX2_rowsOff 20 = .ok (.ifCond .eq 6, 3) := by decide +kernel
theorem dX2_rowsOff_23 : decode cX2_rowsOff 23 = .ok (.iinc 1 1, 3) := by decide +kernel
theorem dX2_rowsOff_26 : decode cX2_rowsOff 26 = .ok (.iinc 2 1, 3) := by decide +kernel
theorem dX2_rowsOff_29 : decode cX2_rowsOff 29 = .ok (.goto (-25), 3) := by decide +kernel
theorem dX2_rowsOff_32 : decode cX2_rowsOff 32 = .ok (.iload_n 1, 1) := by decide +kernel
theorem dX2_rowsOff_33 : decode cX2_rowsOff 33 = .ok (.ireturn, 1) := by decide +kernel
set_option maxRecDepth 20000 in
theorem ggX2_greatestBlock_X2_goodColumns : GoodIn wsX2_greatestBlock wsX2_goodColumns := goodIn_r _ [9, 10, 11, 12, 8, 13, 14, 15, 19, 20] (by decide +kernel) (by decide +kernel)
set_option maxRecDepth 20000 in
theorem gX2_greatestBlock_X2_goodColumns : GoodIn wsX2_greatestBlock (wsV RX2 50 RX2 yX2_goodColumns wsX2_goodColumns) := goodIn_app (goodIn_of _ (by decide +kernel)) ggX2_greatestBlock_X2_goodColumns
set_option maxRecDepth 20000 in
theorem ggX2_greatestBlock_X2_longestRun : GoodIn wsX2_greatestBlock wsX2_longestRun := goodIn_r _ [18, 1, 2, 3, 4] (by decide +kernel) (by decide +kernel)
set_option maxRecDepth 20000 in
theorem gX2_greatestBlock_X2_longestRun : GoodIn wsX2_greatestBlock (va_wsS RX2 53 yX2_longestRun wsX2_longestRun) := goodIn_app (goodIn_of _ (by decide +kernel)) ggX2_greatestBlock_X2_longestRun
theorem dX2_greatestBlock_0 : decode cX2_greatestBlock 0 = .ok (.iconst 0, 1) := by decide +kernel
theorem dX2_greatestBlock_1 : decode cX2_greatestBlock 1 = .ok (.istore_n 1, 1) := by decide +kernel
theorem dX2_greatestBlock_2 : decode cX2_greatestBlock 2 = .ok (.iconst 0, 1) := by decide +kernel
theorem dX2_greatestBlock_3 : decode cX2_greatestBlock 3 = .ok (.istore_n 2, 1) := by decide +kernel
theorem dX2_greatestBlock_4 : decode cX2_greatestBlock 4 = .ok (.iload_n 2, 1) := by decide +kernel
theorem dX2_greatestBlock_5 : decode cX2_greatestBlock 5 = .ok (.iconst 5, 1) := by decide +kernel
theorem dX2_greatestBlock_6 : decode cX2_greatestBlock 6 = .ok (.if_icmp .ge 55, 3) := by decide +kernel
theorem dX2_greatestBlock_9 : decode cX2_greatestBlock 9 = .ok (.aload_n 0, 1) := by decide +kernel
theorem dX2_greatestBlock_10 : decode cX2_greatestBlock 10 = .ok (.iload_n 2, 1) := by decide +kernel
theorem dX2_greatestBlock_11 : decode cX2_greatestBlock 11 = .ok (.invokevirtual 50, 3) := by decide +kernel
theorem dX2_greatestBlock_14 : decode cX2_greatestBlock 14 = .ok (.istore_n 3, 1) := by decide +kernel
theorem dX2_greatestBlock_15 : decode cX2_greatestBlock 15 = .ok (.iload_n 2, 1) := by decide +kernel
theorem dX2_greatestBlock_16 : decode cX2_greatestBlock 16 = .ok (.istore 4, 2) := by decide +kernel
theorem dX2_greatestBlock_18 : decode cX2_greatestBlock 18 = .ok (.iload 4, 2) := by decide +kernel
theorem dX2_greatestBlock_20 : decode cX2_greatestBlock 20 = .ok (.iconst 5, 1) := by decide +kernel
theorem dX2_greatestBlock_21 : decode cX2_greatestBlock 21 = .ok (.if_icmp .ge 34, 3) := by decide +kernel
theorem dX2_greatestBlock_24 : decode cX2_greatestBlock 24 = .ok (.iload_n 3, 1) := by decide +kernel
theorem dX2_greatestBlock_25 : decode cX2_greatestBlock 25 = .ok (.aload_n 0, 1) := by decide +kernel
theorem dX2_greatestBlock_26 : decode cX2_greatestBlock 26 = .ok (.iload 4, 2) := by decide +kernel
theorem dX2_greatestBlock_28 : decode cX2_greatestBlock 28 = .ok (.invokevirtual 50, 3) := by decide +kernel
theorem dX2_greatestBlock_31 : decode cX2_greatestBlock 31 = .ok (.iand, 1) := by decide +kernel
theorem dX2_greatestBlock_32 : decode cX2_greatestBlock 32 = .ok (.istore_n 3, 1) := by decide +kernel
theorem dX2_greatestBlock_33 : decode cX2_greatestBlock 33 = .ok (.iload_n 1, 1) := by decide +kernel
theorem dX2_greatestBlock_34 : decode cX2_greatestBlock 34 = .ok (.iload 4, 2) := by decide +kernel
theorem dX2_greatestBlock_36 : decode cX2_greatestBlock 36 = .ok (.iload_n 2, 1) := by decide +kernel
theorem dX2_greatestBlock_37 : decode cX2_greatestBlock 37 = .ok (.isub, 1) := by decide +kernel
theorem dX2_greatestBlock_38 : decode cX2_greatestBlock 38 = .ok (.iconst 1, 1) := by decide +kernel
theorem dX2_greatestBlock_39 : decode cX2_greatestBlock 39 = .ok (.iadd, 1) := by decide +kernel
theorem dX2_greatestBlock_40 : decode cX2_greatestBlock 40 = .ok (.iload_n 3, 1) := by decide +kernel
theorem dX2_greatestBlock_41 : decode cX2_greatestBlock 41 = .ok (.invokestatic 53, 3) := by decide +kernel
theorem dX2_greatestBlock_44 : decode cX2_greatestBlock 44 = .ok (.imul, 1) := by decide +kernel
theorem dX2_greatestBlock_45 : decode cX2_greatestBlock 45 = .ok (.invokestatic 56, 3) := by decide +kernel
theorem dX2_greatestBlock_48 : decode cX2_greatestBlock 48 = .ok (.istore_n 1, 1) := by decide +kernel
theorem dX2_greatestBlock_49 : decode cX2_greatestBlock 49 = .ok (.iinc 4 1, 3) := by decide +kernel
theorem dX2_greatestBlock_52 : decode cX2_greatestBlock 52 = .ok (.goto (-34), 3) := by decide +kernel
theorem dX2_greatestBlock_55 : decode cX2_greatestBlock 55 = .ok (.iinc 2 1, 3) := by decide +kernel
theorem dX2_greatestBlock_58 : decode cX2_greatestBlock 58 = .ok (.goto (-54), 3) := by decide +kernel
theorem dX2_greatestBlock_61 : decode cX2_greatestBlock 61 = .ok (.iload_n 1, 1) := by decide +kernel
theorem dX2_greatestBlock_62 : decode cX2_greatestBlock 62 = .ok (.ireturn, 1) := by decide +kernel
set_option maxRecDepth 20000 in
theorem ggX2_goodColumns_X2_isLeftWith : GoodIn wsX2_goodColumns wsX2_isLeftWith := goodIn_r _ [5, 6, 7, 8, 9] (by decide +kernel) (by decide +kernel)
set_option maxRecDepth 20000 in
theorem gX2_goodColumns_X2_isLeftWith : GoodIn wsX2_goodColumns (wsV RX2 42 RX2 yX2_isLeftWith wsX2_isLeftWith) := goodIn_app (goodIn_of _ (by decide +kernel)) ggX2_goodColumns_X2_isLeftWith
theorem dX2_goodColumns_0 : decode cX2_goodColumns 0 = .ok (.iconst 0, 1) := by decide +kernel
theorem dX2_goodColumns_1 : decode cX2_goodColumns 1 = .ok (.istore_n 2, 1) := by decide +kernel
theorem dX2_goodColumns_2 : decode cX2_goodColumns 2 = .ok (.iconst 0, 1) := by decide +kernel
theorem dX2_goodColumns_3 : decode cX2_goodColumns 3 = .ok (.istore_n 3, 1) := by decide +kernel
theorem dX2_goodColumns_4 : decode cX2_goodColumns 4 = .ok (.iload_n 3, 1) := by decide +kernel
theorem dX2_goodColumns_5 : decode cX2_goodColumns 5 = .ok (.bipush 6, 2) := by decide +kernel
theorem dX2_goodColumns_7 : decode cX2_goodColumns 7 = .ok (.if_icmp .ge 29, 3) := by decide +kernel
theorem dX2_goodColumns_10 : decode cX2_goodColumns 10 = .ok (.aload_n 0, 1) := by decide +kernel
theorem dX2_goodColumns_11 : decode cX2_goodColumns 11 = .ok (.bipush 6, 2) := by decide +kernel
theorem dX2_goodColumns_13 : decode cX2_goodColumns 13 = .ok (.iload_n 1, 1) := by decide +kernel
theorem dX2_goodColumns_14 : decode cX2_goodColumns 14 = .ok (.imul, 1) := by decide +kernel
theorem dX2_goodColumns_15 : decode cX2_goodColumns 15 = .ok (.iload_n 3, 1) := by decide +kernel
theorem dX2_goodColumns_16 : decode cX2_goodColumns 16 = .ok (.iadd, 1) := by decide +kernel
theorem dX2_goodColumns_17 : decode cX2_goodColumns 17 = .ok (.iconst 0, 1) := by decide +kernel
theorem dX2_goodColumns_18 : decode cX2_goodColumns 18 = .ok (.invokevirtual 42, 3) := by decide +kernel
theorem dX2_goodColumns_21 : decode cX2_goodColumns 21 = .ok (.ifCond .eq 9, 3) := by decide +kernel
theorem dX2_goodColumns_24 : decode cX2_goodColumns 24 = .ok (.iload_n 2, 1) := by decide +kernel
theorem dX2_goodColumns_25 : decode cX2_goodColumns 25 = .ok (.iconst 1, 1) := by decide +kernel
theorem dX2_goodColumns_26 : decode cX2_goodColumns 26 = .ok (.iload_n 3, 1) := by decide +kernel
theorem dX2_goodColumns_27 : decode cX2_goodColumns 27 = .ok (.ishl, 1) := by decide +kernel
theorem dX2_goodColumns_28 : decode cX2_goodColumns 28 = .ok (.ior, 1) := by decide +kernel
theorem dX2_goodColumns_29 : decode cX2_goodColumns 29 = .ok (.istore_n 2, 1) := by decide +kernel
theorem dX2_goodColumns_30 : decode cX2_goodColumns 30 = .ok (.iinc 3 1, 3) := by decide +kernel
theorem dX2_goodColumns_33 : decode cX2_goodColumns 33 = .ok (.goto (-29), 3) := by decide +kernel
theorem dX2_goodColumns_36 : decode cX2_goodColumns 36 = .ok (.iload_n 2, 1) := by decide +kernel
theorem dX2_goodColumns_37 : decode cX2_goodColumns 37 = .ok (.ireturn, 1) := by decide +kernel
theorem dX2_longestRun_0 : decode cX2_longestRun 0 = .ok (.iconst 0, 1) := by decide +kernel
theorem dX2_longestRun_1 : decode cX2_longestRun 1 = .ok (.istore_n 1, 1) := by decide +kernel
theorem dX2_longestRun_2 : decode cX2_longestRun 2 = .ok (.iconst 0, 1) := by decide +kernel
theorem dX2_longestRun_3 : decode cX2_longestRun 3 = .ok (.istore_n 2, 1) := by decide +kernel
theorem dX2_longestRun_4 : decode cX2_longestRun 4 = .ok (.iconst 0, 1) := by decide +kernel
theorem dX2_longestRun_5 : decode cX2_longestRun 5 = .ok (.istore_n 3, 1) := by decide +kernel
theorem dX2_longestRun_6 : decode cX2_longestRun 6 = .ok (.iload_n 3, 1) := by decide +kernel
theorem dX2_longestRun_7 : decode cX2_longestRun 7 = .ok (.bipush 6, 2) := by decide +kernel
theorem dX2_longestRun_9 : decode cX2_longestRun 9 = .ok (.if_icmp .ge 31, 3) := by decide +kernel
theorem dX2_longestRun_12 : decode cX2_longestRun 12 = .ok (.iload_n 0, 1) := by decide +kernel
theorem dX2_longestRun_13 : decode cX2_longestRun 13 = .ok (.iconst 1, 1) := by decide +kernel
theorem dX2_longestRun_14 : decode cX2_longestRun 14 = .ok (.iload_n 3, 1) := by decide +kernel
theorem dX2_longestRun_15 : decode cX2_longestRun 15 = .ok (.ishl, 1) := by decide +kernel
theorem dX2_longestRun_16 : decode cX2_longestRun 16 = .ok (.iand, 1) := by decide +kernel
theorem dX2_longestRun_17 : decode cX2_longestRun 17 = .ok (.ifCond .eq 9, 3) := by decide +kernel
theorem dX2_longestRun_20 : decode cX2_longestRun 20 = .ok (.iload_n 2, 1) := by decide +kernel
theorem dX2_longestRun_21 : decode cX2_longestRun 21 = .ok (.iconst 1, 1) := by decide +kernel
theorem dX2_longestRun_22 : decode cX2_longestRun 22 = .ok (.iadd, 1) := by decide +kernel
theorem dX2_longestRun_23 : decode cX2_longestRun 23 = .ok (.goto 4, 3) := by decide +kernel
theorem dX2_longestRun_26 : decode cX2_longestRun 26 = .ok (.iconst 0, 1) := by decide +kernel
theorem dX2_longestRun_27 : decode cX2_longestRun 27 = .ok (.istore_n 2, 1) := by decide +kernel
theorem dX2_longestRun_28 : decode cX2_longestRun 28 = .ok (.iload_n 1, 1) := by decide +kernel
theorem dX2_longestRun_29 : decode cX2_longestRun 29 = .ok (.iload_n 2, 1) := by decide +kernel
theorem dX2_longestRun_30 : decode cX2_longestRun 30 = .ok (.invokestatic 56, 3) := by decide +kernel
theorem dX2_longestRun_33 : decode cX2_longestRun 33 = .ok (.istore_n 1, 1) := by decide +kernel
theorem dX2_longestRun_34 : decode cX2_longestRun 34 = .ok (.iinc 3 1, 3) := by decide +kernel
theorem dX2_longestRun_37 : decode cX2_longestRun 37 = .ok (.goto (-31), 3) := by decide +kernel
theorem dX2_longestRun_40 : decode cX2_longestRun 40 = .ok (.iload_n 1, 1) := by decide +kernel
theorem dX2_longestRun_41 : decode cX2_longestRun 41 = .ok (.ireturn, 1) := by decide +kernel
set_option maxRecDepth 20000 in
theorem ggX2_addToDigest_X2_answer : GoodIn wsX2_addToDigest wsX2_answer := goodIn_r _ [7, 8, 9, 10, 6, 11, 12, 13, 14, 15, 16, 17, 18, 19, 20, 2, 21, 22, 23, 24, 25, 26, 27, 28, 29, 30, 31, 32, 33, 34, 35, 36, 37, 38, 39, 40, 41, 42, 43, 44, 45, 46, 47, 48, 49, 50, 51, 52, 53, 54, 55, 56, 57] (by decide +kernel) (by decide +kernel)
set_option maxRecDepth 20000 in
theorem gX2_addToDigest_X2_answer : GoodIn wsX2_addToDigest (wsV RX2 64 RX2 yX2_answer wsX2_answer) := goodIn_app (goodIn_of _ (by decide +kernel)) ggX2_addToDigest_X2_answer
set_option maxRecDepth 20000 in
theorem ggX2_addToDigest_X2_worthOf : GoodIn wsX2_addToDigest wsX2_worthOf := goodIn_r _ [28, 2, 12, 56, 57] (by decide +kernel) (by decide +kernel)
set_option maxRecDepth 20000 in
theorem gX2_addToDigest_X2_worthOf : GoodIn wsX2_addToDigest (wsV RX2 39 RX2 yX2_worthOf wsX2_worthOf) := goodIn_app (goodIn_of _ (by decide +kernel)) ggX2_addToDigest_X2_worthOf
theorem dX2_addToDigest_0 : decode cX2_addToDigest 0 = .ok (.lload_n 1, 1) := by decide +kernel
theorem dX2_addToDigest_1 : decode cX2_addToDigest 1 = .ok (.lstore_n 3, 1) := by decide +kernel
theorem dX2_addToDigest_2 : decode cX2_addToDigest 2 = .ok (.iconst 0, 1) := by decide +kernel
theorem dX2_addToDigest_3 : decode cX2_addToDigest 3 = .ok (.istore 5, 2) := by decide +kernel
theorem dX2_addToDigest_5 : decode cX2_addToDigest 5 = .ok (.iload 5, 2) := by decide +kernel
theorem dX2_addToDigest_7 : decode cX2_addToDigest 7 = .ok (.bipush 6, 2) := by decide +kernel
theorem dX2_addToDigest_9 : decode cX2_addToDigest 9 = .ok (.if_icmp .ge 23, 3) := by decide +kernel
theorem dX2_addToDigest_12 : decode cX2_addToDigest 12 = .ok (.lload_n 3, 1) := by decide +kernel
theorem dX2_addToDigest_13 : decode cX2_addToDigest 13 = .ok (.ldc2_w 62, 3) := by decide +kernel
theorem dX2_addToDigest_16 : decode cX2_addToDigest 16 = .ok (.lmul, 1) := by decide +kernel
theorem dX2_addToDigest_17 : decode cX2_addToDigest 17 = .ok (.aload_n 0, 1) := by decide +kernel
theorem dX2_addToDigest_18 : decode cX2_addToDigest 18 = .ok (.iload 5, 2) := by decide +kernel
theorem dX2_addToDigest_20 : decode cX2_addToDigest 20 = .ok (.invokevirtual 64, 3) := by decide +kernel
theorem dX2_addToDigest_23 : decode cX2_addToDigest 23 = .ok (.i2l, 1) := by decide +kernel
theorem dX2_addToDigest_24 : decode cX2_addToDigest 24 = .ok (.ladd, 1) := by decide +kernel
theorem dX2_addToDigest_25 : decode cX2_addToDigest 25 = .ok (.lstore_n 3, 1) := by decide +kernel
theorem dX2_addToDigest_26 : decode cX2_addToDigest 26 = .ok (.iinc 5 1, 3) := by decide +kernel
theorem dX2_addToDigest_29 : decode cX2_addToDigest 29 = .ok (.goto (-24), 3) := by decide +kernel
theorem dX2_addToDigest_32 : decode cX2_addToDigest 32 = .ok (.iconst 0, 1) := by decide +kernel
theorem dX2_addToDigest_33 : decode cX2_addToDigest 33 = .ok (.istore 5, 2) := by decide +kernel
theorem dX2_addToDigest_35 : decode cX2_addToDigest 35 = .ok (.iload 5, 2) := by decide +kernel
theorem dX2_addToDigest_37 : decode cX2_addToDigest 37 = .ok (.bipush 30, 2) := by decide +kernel
theorem dX2_addToDigest_39 : decode cX2_addToDigest 39 = .ok (.if_icmp .ge 38, 3) := by decide +kernel
theorem dX2_addToDigest_42 : decode cX2_addToDigest 42 = .ok (.lload_n 3, 1) := by decide +kernel
theorem dX2_addToDigest_43 : decode cX2_addToDigest 43 = .ok (.ldc2_w 62, 3) := by decide +kernel
theorem dX2_addToDigest_46 : decode cX2_addToDigest 46 = .ok (.lmul, 1) := by decide +kernel
theorem dX2_addToDigest_47 : decode cX2_addToDigest 47 = .ok (.aload_n 0, 1) := by decide +kernel
theorem dX2_addToDigest_48 : decode cX2_addToDigest 48 = .ok (.getfield 9, 3) := by decide +kernel
theorem dX2_addToDigest_51 : decode cX2_addToDigest 51 = .ok (.iload 5, 2) := by decide +kernel
theorem dX2_addToDigest_53 : decode cX2_addToDigest 53 = .ok (.iaload, 1) := by decide +kernel
theorem dX2_addToDigest_54 : decode cX2_addToDigest 54 = .ok (.i2l, 1) := by decide +kernel
theorem dX2_addToDigest_55 : decode cX2_addToDigest 55 = .ok (.ladd, 1) := by decide +kernel
theorem dX2_addToDigest_56 : decode cX2_addToDigest 56 = .ok (.lstore_n 3, 1) := by decide +kernel
theorem dX2_addToDigest_57 : decode cX2_addToDigest 57 = .ok (.lload_n 3, 1) := by decide +kernel
theorem dX2_addToDigest_58 : decode cX2_addToDigest 58 = .ok (.ldc2_w 62, 3) := by decide +kernel
theorem dX2_addToDigest_61 : decode cX2_addToDigest 61 = .ok (.lmul, 1) := by decide +kernel
theorem dX2_addToDigest_62 : decode cX2_addToDigest 62 = .ok (.aload_n 0, 1) := by decide +kernel
theorem dX2_addToDigest_63 : decode cX2_addToDigest 63 = .ok (.iload 5, 2) := by decide +kernel
theorem dX2_addToDigest_65 : decode cX2_addToDigest 65 = .ok (.invokevirtual 39, 3) := by decide +kernel
theorem dX2_addToDigest_68 : decode cX2_addToDigest 68 = .ok (.i2l, 1) := by decide +kernel
theorem dX2_addToDigest_69 : decode cX2_addToDigest 69 = .ok (.ladd, 1) := by decide +kernel
theorem dX2_addToDigest_70 : decode cX2_addToDigest 70 = .ok (.lstore_n 3, 1) := by decide +kernel
theorem dX2_addToDigest_71 : decode cX2_addToDigest 71 = .ok (.iinc 5 1, 3) := by decide +kernel
theorem dX2_addToDigest_74 : decode cX2_addToDigest 74 = .ok (.goto (-39), 3) := by decide +kernel
theorem dX2_addToDigest_77 : decode cX2_addToDigest 77 = .ok (.lload_n 3, 1) := by decide +kernel
theorem dX2_addToDigest_78 : decode cX2_addToDigest 78 = .ok (.lreturn, 1) := by decide +kernel
set_option maxRecDepth 20000 in
theorem ggX3_init_X0_init : GoodIn wsX3_init wsX0_init := goodIn_r _ [14, 15, 2, 3, 16, 17, 18, 19, 20, 21, 22, 23, 24, 25, 34, 35, 36, 37, 38, 39, 40, 47, 48] (by decide +kernel) (by decide +kernel)
set_option maxRecDepth 20000 in
theorem gX3_init_X0_init : GoodIn wsX3_init (wsX0_init) := ggX3_init_X0_init
set_option maxRecDepth 20000 in
theorem ggX3_init_X2_init : GoodIn wsX3_init wsX2_init := goodIn_r _ [28, 29, 2, 3, 30, 31, 32, 33, 45, 46] (by decide +kernel) (by decide +kernel)
set_option maxRecDepth 20000 in
theorem gX3_init_X2_init : GoodIn wsX3_init (wsX2_init) := ggX3_init_X2_init
theorem dX3_init_0 : decode cX3_init 0 = .ok (.aload_n 0, 1) := by decide +kernel
theorem dX3_init_1 : decode cX3_init 1 = .ok (.invokespecial 1, 3) := by decide +kernel
theorem dX3_init_4 : decode cX3_init 4 = .ok (.aload_n 0, 1) := by decide +kernel
theorem dX3_init_5 : decode cX3_init 5 = .ok (.new 7, 3) := by decide +kernel
theorem dX3_init_8 : decode cX3_init 8 = .ok (.dup, 1) := by decide +kernel
theorem dX3_init_9 : decode cX3_init 9 = .ok (.invokespecial 9, 3) := by decide +kernel
theorem dX3_init_12 : decode cX3_init 12 = .ok (.putfield 10, 3) := by decide +kernel
theorem dX3_init_15 : decode cX3_init 15 = .ok (.aload_n 0, 1) := by decide +kernel
theorem dX3_init_16 : decode cX3_init 16 = .ok (.new 16, 3) := by decide +kernel
theorem dX3_init_19 : decode cX3_init 19 = .ok (.dup, 1) := by decide +kernel
theorem dX3_init_20 : decode cX3_init 20 = .ok (.invokespecial 18, 3) := by decide +kernel
theorem dX3_init_23 : decode cX3_init 23 = .ok (.putfield 19, 3) := by decide +kernel
theorem dX3_init_26 : decode cX3_init 26 = .ok (.return_, 1) := by decide +kernel
set_option maxRecDepth 20000 in
theorem ggX3_perforateFrom_X0_becomeLike : GoodIn wsX3_perforateFrom wsX0_becomeLike := goodIn_r _ [9, 10, 11, 12, 13, 14, 15, 16, 17, 18, 19, 20, 21, 22, 23, 86, 87, 88, 89, 90, 91, 92, 93, 94] (by decide +kernel) (by decide +kernel)
set_option maxRecDepth 20000 in
theorem gX3_perforateFrom_X0_becomeLike : GoodIn wsX3_perforateFrom (wsV RX3 23 RX0 yX0_becomeLike wsX0_becomeLike) := goodIn_app (goodIn_of _ (by decide +kernel)) ggX3_perforateFrom_X0_becomeLike
set_option maxRecDepth 20000 in
theorem ggX3_perforateFrom_X0_perforate : GoodIn wsX3_perforateFrom wsX0_perforate := goodIn_r _ [27, 13, 11, 14, 15, 12, 28, 29, 30, 31, 32, 33, 34, 35, 36, 37, 8, 38, 39, 40, 41, 42, 43, 44, 45, 10, 46, 47, 48, 20, 49, 23, 22, 50, 51, 52, 53, 16, 54, 55, 56, 57, 58, 59, 60, 61, 62, 86, 87, 88, 89, 90, 91, 92, 95, 96, 93, 94] (by decide +kernel) (by decide +kernel)
set_option maxRecDepth 20000 in
theorem gX3_perforateFrom_X0_perforate : GoodIn wsX3_perforateFrom (wsV RX3 37 RX0 yX0_perforate wsX0_perforate) := goodIn_app (goodIn_of _ (by decide +kernel)) ggX3_perforateFrom_X0_perforate
set_option maxRecDepth 20000 in
theorem ggX3_perforateFrom_X2_leftWith : GoodIn wsX3_perforateFrom wsX2_leftWith := goodIn_r _ [67, 68, 69, 70, 66, 71, 72, 73, 95, 96] (by decide +kernel) (by decide +kernel)
set_option maxRecDepth 20000 in
theorem gX3_perforateFrom_X2_leftWith : GoodIn wsX3_perforateFrom (wsV RX3 41 RX2 yX2_leftWith wsX2_leftWith) := goodIn_app (goodIn_of _ (by decide +kernel)) ggX3_perforateFrom_X2_leftWith
set_option maxRecDepth 20000 in
theorem ggX3_perforateFrom_X2_worth : GoodIn wsX3_perforateFrom wsX2_worth := goodIn_r _ [77, 78, 79, 80, 66, 81, 73, 72, 95, 96] (by decide +kernel) (by decide +kernel)
set_option maxRecDepth 20000 in
theorem gX3_perforateFrom_X2_worth : GoodIn wsX3_perforateFrom (wsV RX3 45 RX2 yX2_worth wsX2_worth) := goodIn_app (goodIn_of _ (by decide +kernel)) ggX3_perforateFrom_X2_worth
theorem dX3_perforateFrom_0 : decode cX3_perforateFrom 0 = .ok (.aload_n 0, 1) := by decide +kernel
theorem dX3_perforateFrom_1 : decode cX3_perforateFrom 1 = .ok (.getfield 10, 3) := by decide +kernel
theorem dX3_perforateFrom_4 : decode cX3_perforateFrom 4 = .ok (.aload_n 1, 1) := by decide +kernel
theorem dX3_perforateFrom_5 : decode cX3_perforateFrom 5 = .ok (.invokevirtual 23, 3) := by decide +kernel
theorem dX3_perforateFrom_8 : decode cX3_perforateFrom 8 = .ok (.aload_n 0, 1) := by decide +kernel
theorem dX3_perforateFrom_9 : decode cX3_perforateFrom 9 = .ok (.getfield 10, 3) := by decide +kernel
theorem dX3_perforateFrom_12 : decode cX3_perforateFrom 12 = .ok (.iload_n 2, 1) := by decide +kernel
theorem dX3_perforateFrom_13 : decode cX3_perforateFrom 13 = .ok (.putfield 27, 3) := by decide +kernel
theorem dX3_perforateFrom_16 : decode cX3_perforateFrom 16 = .ok (.aload_n 0, 1) := by decide +kernel
theorem dX3_perforateFrom_17 : decode cX3_perforateFrom 17 = .ok (.iconst 0, 1) := by decide +kernel
theorem dX3_perforateFrom_18 : decode cX3_perforateFrom 18 = .ok (.putfield 31, 3) := by decide +kernel
theorem dX3_perforateFrom_21 : decode cX3_perforateFrom 21 = .ok (.aload_n 0, 1) := by decide +kernel
theorem dX3_perforateFrom_22 : decode cX3_perforateFrom 22 = .ok (.iconst 0, 1) := by decide +kernel
theorem dX3_perforateFrom_23 : decode cX3_perforateFrom 23 = .ok (.putfield 34, 3) := by decide +kernel
theorem dX3_perforateFrom_26 : decode cX3_perforateFrom 26 = .ok (.iconst 0, 1) := by decide +kernel
theorem dX3_perforateFrom_27 : decode cX3_perforateFrom 27 = .ok (.istore 5, 2) := by decide +kernel
theorem dX3_perforateFrom_29 : decode cX3_perforateFrom 29 = .ok (.iload 5, 2) := by decide +kernel
theorem dX3_perforateFrom_31 : decode cX3_perforateFrom 31 = .ok (.iload 4, 2) := by decide +kernel
theorem dX3_perforateFrom_33 : decode cX3_perforateFrom 33 = .ok (.if_icmp .ge 54, 3) := by decide +kernel
theorem dX3_perforateFrom_36 : decode cX3_perforateFrom 36 = .ok (.aload_n 0, 1) := by decide +kernel
theorem dX3_perforateFrom_37 : decode cX3_perforateFrom 37 = .ok (.getfield 10, 3) := by decide +kernel
theorem dX3_perforateFrom_40 : decode cX3_perforateFrom 40 = .ok (.aload_n 3, 1) := by decide +kernel
theorem dX3_perforateFrom_41 : decode cX3_perforateFrom 41 = .ok (.aload_n 0, 1) := by decide +kernel
theorem dX3_perforateFrom_42 : decode cX3_perforateFrom 42 = .ok (.getfield 19, 3) := by decide +kernel
theorem dX3_perforateFrom_45 : decode cX3_perforateFrom 45 = .ok (.invokevirtual 37, 3) := by decide +kernel
theorem dX3_perforateFrom_48 : decode cX3_perforateFrom 48 = .ok (.aload_n 0, 1) := by decide +kernel
theorem dX3_perforateFrom_49 : decode cX3_perforateFrom 49 = .ok (.dup, 1) := by decide +kernel
theorem dX3_perforateFrom_50 : decode cX3_perforateFrom 50 = .ok (.getfield 31, 3) := by decide +kernel
theorem dX3_perforateFrom_53 : decode cX3_perforateFrom 53 = .ok (.aload_n 0, 1) := by decide +kernel
theorem dX3_perforateFrom_54 : decode cX3_perforateFrom 54 = .ok (.getfield 19, 3) := by decide +kernel
theorem dX3_perforateFrom_57 : decode cX3_perforateFrom 57 = .ok (.iconst 0, 1) := by decide +kernel
theorem dX3_perforateFrom_58 : decode cX3_perforateFrom 58 = .ok (.invokevirtual 41, 3) := by decide +kernel
theorem dX3_perforateFrom_61 : decode cX3_perforateFrom 61 = .ok (.iadd, 1) := by decide +kernel
theorem dX3_perforateFrom_62 : decode cX3_perforateFrom 62 = .ok (.putfield 31, 3) := by decide +kernel
theorem dX3_perforateFrom_65 : decode cX3_perforateFrom 65 = .ok (.aload_n 0, 1) := by decide +kernel
theorem dX3_perforateFrom_66 : decode cX3_perforateFrom 66 = .ok (.dup, 1) := by decide +kernel
theorem dX3_perforateFrom_67 : decode cX3_perforateFrom 67 = .ok (.getfield 34, 3) := by decide +kernel
theorem dX3_perforateFrom_70 : decode cX3_perforateFrom 70 = .ok (.aload_n 0, 1) := by decide +kernel
theorem dX3_perforateFrom_71 : decode cX3_perforateFrom 71 = .ok (.getfield 19, 3) := by decide +kernel
theorem dX3_perforateFrom_74 : decode cX3_perforateFrom 74 = .ok (.invokevirtual 45, 3) := by decide +kernel
theorem dX3_perforateFrom_77 : decode cX3_perforateFrom 77 = .ok (.iadd, 1) := by decide +kernel
theorem dX3_perforateFrom_78 : decode cX3_perforateFrom 78 = .ok (.putfield 34, 3) := by decide +kernel
theorem dX3_perforateFrom_81 : decode cX3_perforateFrom 81 = .ok (.iinc 5 1, 3) := by decide +kernel
theorem dX3_perforateFrom_84 : decode cX3_perforateFrom 84 = .ok (.goto (-55), 3) := by decide +kernel
theorem dX3_perforateFrom_87 : decode cX3_perforateFrom 87 = .ok (.return_, 1) := by decide +kernel
set_option maxRecDepth 20000 in
theorem ggX3_answer_X0_brokenPins : GoodIn wsX3_answer wsX0_brokenPins := goodIn_r _ [8, 9, 10, 11, 12, 13, 14, 15, 16, 21, 22, 23, 24, 25, 26, 27, 28, 29] (by decide +kernel) (by decide +kernel)
set_option maxRecDepth 20000 in
theorem gX3_answer_X0_brokenPins : GoodIn wsX3_answer (wsV RX3 48 RX0 yX0_brokenPins wsX0_brokenPins) := goodIn_app (goodIn_of _ (by decide +kernel)) ggX3_answer_X0_brokenPins
theorem dX3_answer_0 : decode cX3_answer 0 = .ok (.iload_n 1, 1) := by decide +kernel
end
section
theorem dX3_answer_1 : decode cX3_answer 1 = .ok (.tableswitch 45 0 2 #[27, 32, 37], 27) := by decide +kernel
theorem dX3_answer_28 : decode cX3_answer 28 = .ok (.aload_n 0, 1) := by decide +kernel
theorem dX3_answer_29 : decode cX3_answer 29 = .ok (.getfield 31, 3) := by decide +kernel
theorem dX3_answer_32 : decode cX3_answer 32 = .ok (.ireturn, 1) := by decide +kernel
theorem dX3_answer_33 : decode cX3_answer 33 = .ok (.aload_n 0, 1) := by decide +kernel
theorem dX3_answer_34 : decode cX3_answer 34 = .ok (.getfield 34, 3) := by decide +kernel
theorem dX3_answer_37 : decode cX3_answer 37 = .ok (.ireturn, 1) := by decide +kernel
theorem dX3_answer_38 : decode cX3_answer 38 = .ok (.aload_n 0, 1) := by decide +kernel
theorem dX3_answer_39 : decode cX3_answer 39 = .ok (.getfield 10, 3) := by decide +kernel
theorem dX3_answer_42 : decode cX3_answer 42 = .ok (.invokevirtual 48, 3) := by decide +kernel
theorem dX3_answer_45 : decode cX3_answer 45 = .ok (.ireturn, 1) := by decide +kernel
theorem dX3_answer_46 : decode cX3_answer 46 = .ok (.aload_n 0, 1) := by decide +kernel
theorem dX3_answer_47 : decode cX3_answer 47 = .ok (.getfield 10, 3) := by decide +kernel
theorem dX3_answer_50 : decode cX3_answer 50 = .ok (.getfield 51, 3) := by decide +kernel
theorem dX3_answer_53 : decode cX3_answer 53 = .ok (.ireturn, 1) := by decide +kernel
set_option maxRecDepth 20000 in
theorem ggX4_init_X0_init : GoodIn wsX4_init wsX0_init := goodIn_r _ [20, 21, 2, 3, 22, 23, 24, 25, 26, 27, 28, 29, 30, 31, 49, 50, 51, 52, 53, 54, 55, 67, 68] (by decide +kernel) (by decide +kernel)
set_option maxRecDepth 20000 in
theorem gX4_init_X0_init : GoodIn wsX4_init (wsX0_init) := ggX4_init_X0_init
set_option maxRecDepth 20000 in
theorem ggX4_init_X3_init : GoodIn wsX4_init wsX3_init := goodIn_r _ [34, 35, 2, 3, 36, 5, 6, 37, 38, 16, 17, 39, 40, 19, 20, 21, 22, 23, 24, 25, 26, 27, 28, 29, 30, 31, 41, 42, 43, 44, 45, 46, 12, 47, 49, 50, 51, 52, 53, 54, 55, 61, 62, 63, 64, 65, 66, 67, 68] (by decide +kernel) (by decide +kernel)
set_option maxRecDepth 20000 in
theorem gX4_init_X3_init : GoodIn wsX4_init (wsX3_init) := ggX4_init_X3_init
set_option maxRecDepth 20000 in
theorem ggX4_init_X2_init : GoodIn wsX4_init wsX2_init := goodIn_r _ [43, 44, 2, 3, 45, 46, 12, 47, 65, 66] (by decide +kernel) (by decide +kernel)
set_option maxRecDepth 20000 in
theorem gX4_init_X2_init : GoodIn wsX4_init (wsX2_init) := ggX4_init_X2_init
theorem dX4_init_0 : decode cX4_init 0 = .ok (.aload_n 0, 1) := by decide +kernel
theorem dX4_init_1 : decode cX4_init 1 = .ok (.invokespecial 3, 3) := by decide +kernel
theorem dX4_init_4 : decode cX4_init 4 = .ok (.aload_n 0, 1) := by decide +kernel
theorem dX4_init_5 : decode cX4_init 5 = .ok (.new 9, 3) := by decide +kernel
theorem dX4_init_8 : decode cX4_init 8 = .ok (.dup, 1) := by decide +kernel
theorem dX4_init_9 : decode cX4_init 9 = .ok (.invokespecial 11, 3) := by decide +kernel
theorem dX4_init_12 : decode cX4_init 12 = .ok (.putfield 12, 3) := by decide +kernel
theorem dX4_init_15 : decode cX4_init 15 = .ok (.aload_n 0, 1) := by decide +kernel
theorem dX4_init_16 : decode cX4_init 16 = .ok (.new 16, 3) := by decide +kernel
theorem dX4_init_19 : decode cX4_init 19 = .ok (.dup, 1) := by decide +kernel
theorem dX4_init_20 : decode cX4_init 20 = .ok (.invokespecial 18, 3) := by decide +kernel
theorem dX4_init_23 : decode cX4_init 23 = .ok (.putfield 19, 3) := by decide +kernel
theorem dX4_init_26 : decode cX4_init 26 = .ok (.aload_n 0, 1) := by decide +kernel
theorem dX4_init_27 : decode cX4_init 27 = .ok (.bipush 30, 2) := by decide +kernel
theorem dX4_init_29 : decode cX4_init 29 = .ok (.newarray .boolean, 2) := by decide +kernel
theorem dX4_init_31 : decode cX4_init 31 = .ok (.putfield 23, 3) := by decide +kernel
theorem dX4_init_34 : decode cX4_init 34 = .ok (.aload_n 0, 1) := by decide +kernel
theorem dX4_init_35 : decode cX4_init 35 = .ok (.bipush 20, 2) := by decide +kernel
theorem dX4_init_37 : decode cX4_init 37 = .ok (.anewarray 27, 3) := by decide +kernel
theorem dX4_init_40 : decode cX4_init 40 = .ok (.putfield 29, 3) := by decide +kernel
theorem dX4_init_43 : decode cX4_init 43 = .ok (.iconst 0, 1) := by decide +kernel
theorem dX4_init_44 : decode cX4_init 44 = .ok (.istore_n 1, 1) := by decide +kernel
theorem dX4_init_45 : decode cX4_init 45 = .ok (.iload_n 1, 1) := by decide +kernel
theorem dX4_init_46 : decode cX4_init 46 = .ok (.bipush 20, 2) := by decide +kernel
theorem dX4_init_48 : decode cX4_init 48 = .ok (.if_icmp .ge 22, 3) := by decide +kernel
theorem dX4_init_51 : decode cX4_init 51 = .ok (.aload_n 0, 1) := by decide +kernel
theorem dX4_init_52 : decode cX4_init 52 = .ok (.getfield 29, 3) := by decide +kernel
theorem dX4_init_55 : decode cX4_init 55 = .ok (.iload_n 1, 1) := by decide +kernel
theorem dX4_init_56 : decode cX4_init 56 = .ok (.new 27, 3) := by decide +kernel
theorem dX4_init_59 : decode cX4_init 59 = .ok (.dup, 1) := by decide +kernel
theorem dX4_init_60 : decode cX4_init 60 = .ok (.invokespecial 33, 3) := by decide +kernel
theorem dX4_init_63 : decode cX4_init 63 = .ok (.aastore, 1) := by decide +kernel
theorem dX4_init_64 : decode cX4_init 64 = .ok (.iinc 1 1, 3) := by decide +kernel
theorem dX4_init_67 : decode cX4_init 67 = .ok (.goto (-22), 3) := by decide +kernel
theorem dX4_init_70 : decode cX4_init 70 = .ok (.return_, 1) := by decide +kernel
set_option maxRecDepth 20000 in
theorem ggX4_setFeed_X4_isWithin : GoodIn wsX4_setFeed wsX4_isWithin := goodIn_r _ [7] (by decide +kernel) (by decide +kernel)
set_option maxRecDepth 20000 in
theorem gX4_setFeed_X4_isWithin : GoodIn wsX4_setFeed (va_wsS RX4 34 yX4_isWithin wsX4_isWithin) := goodIn_app (goodIn_of _ (by decide +kernel)) ggX4_setFeed_X4_isWithin
theorem dX4_setFeed_0 : decode cX4_setFeed 0 = .ok (.iload_n 1, 1) := by decide +kernel
theorem dX4_setFeed_1 : decode cX4_setFeed 1 = .ok (.bipush 10, 2) := by decide +kernel
theorem dX4_setFeed_3 : decode cX4_setFeed 3 = .ok (.bipush 30, 2) := by decide +kernel
theorem dX4_setFeed_5 : decode cX4_setFeed 5 = .ok (.invokestatic 34, 3) := by decide +kernel
theorem dX4_setFeed_8 : decode cX4_setFeed 8 = .ok (.ifCond .eq 14, 3) := by decide +kernel
theorem dX4_setFeed_11 : decode cX4_setFeed 11 = .ok (.iload_n 2, 1) := by decide +kernel
theorem dX4_setFeed_12 : decode cX4_setFeed 12 = .ok (.bipush (-9), 2) := by decide +kernel
theorem dX4_setFeed_14 : decode cX4_setFeed 14 = .ok (.bipush 9, 2) := by decide +kernel
theorem dX4_setFeed_16 : decode cX4_setFeed 16 = .ok (.invokestatic 34, 3) := by decide +kernel
theorem dX4_setFeed_19 : decode cX4_setFeed 19 = .ok (.ifCond .ne 13, 3) := by decide +kernel
theorem dX4_setFeed_22 : decode cX4_setFeed 22 = .ok (.new 38, 3) := by decide +kernel
theorem dX4_setFeed_25 : decode cX4_setFeed 25 = .ok (.dup, 1) := by decide +kernel
theorem dX4_setFeed_26 : decode cX4_setFeed 26 = .ok (.ldc 40, 2) := by decide +kernel
theorem dX4_setFeed_28 : decode cX4_setFeed 28 = .ok (.invokespecial 42, 3) := by decide +kernel
theorem dX4_setFeed_31 : decode cX4_setFeed 31 = .ok (.athrow, 1) := by decide +kernel
theorem dX4_setFeed_32 : decode cX4_setFeed 32 = .ok (.bipush 100, 2) := by decide +kernel
theorem dX4_setFeed_34 : decode cX4_setFeed 34 = .ok (.aload_n 0, 1) := by decide +kernel
theorem dX4_setFeed_35 : decode cX4_setFeed 35 = .ok (.getfield 12, 3) := by decide +kernel
theorem dX4_setFeed_38 : decode cX4_setFeed 38 = .ok (.getfield 45, 3) := by decide +kernel
theorem dX4_setFeed_41 : decode cX4_setFeed 41 = .ok (.imul, 1) := by decide +kernel
theorem dX4_setFeed_42 : decode cX4_setFeed 42 = .ok (.aload_n 0, 1) := by decide +kernel
theorem dX4_setFeed_43 : decode cX4_setFeed 43 = .ok (.getfield 12, 3) := by decide +kernel
theorem dX4_setFeed_46 : decode cX4_setFeed 46 = .ok (.getfield 49, 3) := by decide +kernel
theorem dX4_setFeed_49 : decode cX4_setFeed 49 = .ok (.iadd, 1) := by decide +kernel
theorem dX4_setFeed_50 : decode cX4_setFeed 50 = .ok (.istore_n 3, 1) := by decide +kernel
theorem dX4_setFeed_51 : decode cX4_setFeed 51 = .ok (.aload_n 0, 1) := by decide +kernel
theorem dX4_setFeed_52 : decode cX4_setFeed 52 = .ok (.getfield 12, 3) := by decide +kernel
theorem dX4_setFeed_55 : decode cX4_setFeed 55 = .ok (.iload_n 1, 1) := by decide +kernel
theorem dX4_setFeed_56 : decode cX4_setFeed 56 = .ok (.putfield 45, 3) := by decide +kernel
theorem dX4_setFeed_59 : decode cX4_setFeed 59 = .ok (.aload_n 0, 1) := by decide +kernel
theorem dX4_setFeed_60 : decode cX4_setFeed 60 = .ok (.getfield 12, 3) := by decide +kernel
theorem dX4_setFeed_63 : decode cX4_setFeed 63 = .ok (.iload_n 2, 1) := by decide +kernel
theorem dX4_setFeed_64 : decode cX4_setFeed 64 = .ok (.putfield 49, 3) := by decide +kernel
theorem dX4_setFeed_67 : decode cX4_setFeed 67 = .ok (.iload_n 3, 1) := by decide +kernel
theorem dX4_setFeed_68 : decode cX4_setFeed 68 = .ok (.ireturn, 1) := by decide +kernel
theorem dX4_align_0 : decode cX4_align 0 = .ok (.aload_n 0, 1) := by decide +kernel
theorem dX4_align_1 : decode cX4_align 1 = .ok (.getfield 12, 3) := by decide +kernel
theorem dX4_align_4 : decode cX4_align 4 = .ok (.getfield 52, 3) := by decide +kernel
theorem dX4_align_7 : decode cX4_align 7 = .ok (.istore_n 1, 1) := by decide +kernel
theorem dX4_align_8 : decode cX4_align 8 = .ok (.aload_n 0, 1) := by decide +kernel
theorem dX4_align_9 : decode cX4_align 9 = .ok (.getfield 12, 3) := by decide +kernel
theorem dX4_align_12 : decode cX4_align 12 = .ok (.iconst 0, 1) := by decide +kernel
theorem dX4_align_13 : decode cX4_align 13 = .ok (.putfield 52, 3) := by decide +kernel
theorem dX4_align_16 : decode cX4_align 16 = .ok (.iload_n 1, 1) := by decide +kernel
theorem dX4_align_17 : decode cX4_align 17 = .ok (.ireturn, 1) := by decide +kernel
set_option maxRecDepth 20000 in
theorem ggX4_roll_X4_isWithin : GoodIn wsX4_roll wsX4_isWithin := goodIn_r _ [7] (by decide +kernel) (by decide +kernel)
set_option maxRecDepth 20000 in
theorem gX4_roll_X4_isWithin : GoodIn wsX4_roll (va_wsS RX4 34 yX4_isWithin wsX4_isWithin) := goodIn_app (goodIn_of _ (by decide +kernel)) ggX4_roll_X4_isWithin
theorem dX4_roll_0 : decode cX4_roll 0 = .ok (.iload_n 1, 1) := by decide +kernel
theorem dX4_roll_1 : decode cX4_roll 1 = .ok (.iconst 1, 1) := by decide +kernel
theorem dX4_roll_2 : decode cX4_roll 2 = .ok (.sipush 400, 3) := by decide +kernel
theorem dX4_roll_5 : decode cX4_roll 5 = .ok (.invokestatic 34, 3) := by decide +kernel
theorem dX4_roll_8 : decode cX4_roll 8 = .ok (.ifCond .eq 13, 3) := by decide +kernel
theorem dX4_roll_11 : decode cX4_roll 11 = .ok (.iload_n 2, 1) := by decide +kernel
theorem dX4_roll_12 : decode cX4_roll 12 = .ok (.iconst 1, 1) := by decide +kernel
theorem dX4_roll_13 : decode cX4_roll 13 = .ok (.bipush 9, 2) := by decide +kernel
theorem dX4_roll_15 : decode cX4_roll 15 = .ok (.invokestatic 34, 3) := by decide +kernel
theorem dX4_roll_18 : decode cX4_roll 18 = .ok (.ifCond .ne 13, 3) := by decide +kernel
theorem dX4_roll_21 : decode cX4_roll 21 = .ok (.new 38, 3) := by decide +kernel
theorem dX4_roll_24 : decode cX4_roll 24 = .ok (.dup, 1) := by decide +kernel
theorem dX4_roll_25 : decode cX4_roll 25 = .ok (.ldc 55, 2) := by decide +kernel
theorem dX4_roll_27 : decode cX4_roll 27 = .ok (.invokespecial 42, 3) := by decide +kernel
theorem dX4_roll_30 : decode cX4_roll 30 = .ok (.athrow, 1) := by decide +kernel
theorem dX4_roll_31 : decode cX4_roll 31 = .ok (.aload_n 0, 1) := by decide +kernel
theorem dX4_roll_32 : decode cX4_roll 32 = .ok (.getfield 12, 3) := by decide +kernel
theorem dX4_roll_35 : decode cX4_roll 35 = .ok (.getfield 57, 3) := by decide +kernel
theorem dX4_roll_38 : decode cX4_roll 38 = .ok (.istore_n 3, 1) := by decide +kernel
theorem dX4_roll_39 : decode cX4_roll 39 = .ok (.aload_n 0, 1) := by decide +kernel
theorem dX4_roll_40 : decode cX4_roll 40 = .ok (.getfield 12, 3) := by decide +kernel
theorem dX4_roll_43 : decode cX4_roll 43 = .ok (.iload_n 1, 1) := by decide +kernel
theorem dX4_roll_44 : decode cX4_roll 44 = .ok (.putfield 57, 3) := by decide +kernel
theorem dX4_roll_47 : decode cX4_roll 47 = .ok (.aload_n 0, 1) := by decide +kernel
theorem dX4_roll_48 : decode cX4_roll 48 = .ok (.getfield 12, 3) := by decide +kernel
theorem dX4_roll_51 : decode cX4_roll 51 = .ok (.iconst 0, 1) := by decide +kernel
theorem dX4_roll_52 : decode cX4_roll 52 = .ok (.putfield 60, 3) := by decide +kernel
theorem dX4_roll_55 : decode cX4_roll 55 = .ok (.aload_n 0, 1) := by decide +kernel
theorem dX4_roll_56 : decode cX4_roll 56 = .ok (.getfield 12, 3) := by decide +kernel
theorem dX4_roll_59 : decode cX4_roll 59 = .ok (.iload_n 2, 1) := by decide +kernel
theorem dX4_roll_60 : decode cX4_roll 60 = .ok (.putfield 63, 3) := by decide +kernel
theorem dX4_roll_63 : decode cX4_roll 63 = .ok (.iload_n 3, 1) := by decide +kernel
theorem dX4_roll_64 : decode cX4_roll 64 = .ok (.ireturn, 1) := by decide +kernel
set_option maxRecDepth 20000 in
theorem ggX4_fit_X4_checkPin : GoodIn wsX4_fit wsX4_checkPin := goodIn_ca (goodIn_r _ [7, 8, 9, 10, 11, 6, 12] (by decide +kernel) (by decide +kernel)) (goodIn_sub (fun _ h => List.mem_cons_of_mem _ (List.mem_append_right _ h)) (by decide +kernel))
set_option maxRecDepth 20000 in
theorem gX4_fit_X4_checkPin : GoodIn wsX4_fit (va_wsS RX4 66 yX4_checkPin wsX4_checkPin) := goodIn_app (goodIn_of _ (by decide +kernel)) ggX4_fit_X4_checkPin
set_option maxRecDepth 20000 in
theorem ggX4_fit_X4_isWithin : GoodIn wsX4_fit wsX4_isWithin := goodIn_r _ [12] (by decide +kernel) (by decide +kernel)
set_option maxRecDepth 20000 in
theorem gX4_fit_X4_isWithin : GoodIn wsX4_fit (va_wsS RX4 34 yX4_isWithin wsX4_isWithin) := goodIn_app (goodIn_of _ (by decide +kernel)) ggX4_fit_X4_isWithin
theorem dX4_fit_0 : decode cX4_fit 0 = .ok (.iload_n 1, 1) := by decide +kernel
theorem dX4_fit_1 : decode cX4_fit 1 = .ok (.invokestatic 66, 3) := by decide +kernel
theorem dX4_fit_4 : decode cX4_fit 4 = .ok (.iload_n 2, 1) := by decide +kernel
theorem dX4_fit_5 : decode cX4_fit 5 = .ok (.iconst 1, 1) := by decide +kernel
theorem dX4_fit_6 : decode cX4_fit 6 = .ok (.sipush 500, 3) := by decide +kernel
theorem dX4_fit_9 : decode cX4_fit 9 = .ok (.invokestatic 34, 3) := by decide +kernel
theorem dX4_fit_12 : decode cX4_fit 12 = .ok (.ifCond .ne 13, 3) := by decide +kernel
theorem dX4_fit_15 : decode cX4_fit 15 = .ok (.new 38, 3) := by decide +kernel
theorem dX4_fit_18 : decode cX4_fit 18 = .ok (.dup, 1) := by decide +kernel
theorem dX4_fit_19 : decode cX4_fit 19 = .ok (.ldc 70, 2) := by decide +kernel
theorem dX4_fit_21 : decode cX4_fit 21 = .ok (.invokespecial 42, 3) := by decide +kernel
theorem dX4_fit_24 : decode cX4_fit 24 = .ok (.athrow, 1) := by decide +kernel
theorem dX4_fit_25 : decode cX4_fit 25 = .ok (.aload_n 0, 1) := by decide +kernel
theorem dX4_fit_26 : decode cX4_fit 26 = .ok (.getfield 12, 3) := by decide +kernel
theorem dX4_fit_29 : decode cX4_fit 29 = .ok (.getfield 72, 3) := by decide +kernel
theorem dX4_fit_32 : decode cX4_fit 32 = .ok (.iload_n 1, 1) := by decide +kernel
theorem dX4_fit_33 : decode cX4_fit 33 = .ok (.aaload, 1) := by decide +kernel
theorem dX4_fit_34 : decode cX4_fit 34 = .ok (.astore_n 3, 1) := by decide +kernel
theorem dX4_fit_35 : decode cX4_fit 35 = .ok (.aload_n 3, 1) := by decide +kernel
theorem dX4_fit_36 : decode cX4_fit 36 = .ok (.getfield 76, 3) := by decide +kernel
theorem dX4_fit_39 : decode cX4_fit 39 = .ok (.istore 4, 2) := by decide +kernel
theorem dX4_fit_41 : decode cX4_fit 41 = .ok (.aload_n 3, 1) := by decide +kernel
theorem dX4_fit_42 : decode cX4_fit 42 = .ok (.iload_n 2, 1) := by decide +kernel
theorem dX4_fit_43 : decode cX4_fit 43 = .ok (.putfield 81, 3) := by decide +kernel
theorem dX4_fit_46 : decode cX4_fit 46 = .ok (.aload_n 3, 1) := by decide +kernel
theorem dX4_fit_47 : decode cX4_fit 47 = .ok (.iconst 0, 1) := by decide +kernel
theorem dX4_fit_48 : decode cX4_fit 48 = .ok (.putfield 76, 3) := by decide +kernel
theorem dX4_fit_51 : decode cX4_fit 51 = .ok (.iload 4, 2) := by decide +kernel
theorem dX4_fit_53 : decode cX4_fit 53 = .ok (.ireturn, 1) := by decide +kernel
set_option maxRecDepth 20000 in
theorem ggX4_turn_X4_checkPlace : GoodIn wsX4_turn wsX4_checkPlace := goodIn_ca (goodIn_r _ [5, 6, 7, 8, 9, 4, 10] (by decide +kernel) (by decide +kernel)) (goodIn_sub (fun _ h => List.mem_cons_of_mem _ (List.mem_append_right _ h)) (by decide +kernel))
set_option maxRecDepth 20000 in
theorem gX4_turn_X4_checkPlace : GoodIn wsX4_turn (va_wsS RX4 84 yX4_checkPlace wsX4_checkPlace) := goodIn_app (goodIn_of _ (by decide +kernel)) ggX4_turn_X4_checkPlace
theorem dX4_turn_0 : decode cX4_turn 0 = .ok (.iload_n 1, 1) := by decide +kernel
theorem dX4_turn_1 : decode cX4_turn 1 = .ok (.iload_n 2, 1) := by decide +kernel
theorem dX4_turn_2 : decode cX4_turn 2 = .ok (.invokestatic 84, 3) := by decide +kernel
theorem dX4_turn_5 : decode cX4_turn 5 = .ok (.bipush 6, 2) := by decide +kernel
theorem dX4_turn_7 : decode cX4_turn 7 = .ok (.iload_n 1, 1) := by decide +kernel
theorem dX4_turn_8 : decode cX4_turn 8 = .ok (.imul, 1) := by decide +kernel
theorem dX4_turn_9 : decode cX4_turn 9 = .ok (.iload_n 2, 1) := by decide +kernel
theorem dX4_turn_10 : decode cX4_turn 10 = .ok (.iadd, 1) := by decide +kernel
theorem dX4_turn_11 : decode cX4_turn 11 = .ok (.istore_n 3, 1) := by decide +kernel
theorem dX4_turn_12 : decode cX4_turn 12 = .ok (.aload_n 0, 1) := by decide +kernel
theorem dX4_turn_13 : decode cX4_turn 13 = .ok (.getfield 23, 3) := by decide +kernel
theorem dX4_turn_16 : decode cX4_turn 16 = .ok (.iload_n 3, 1) := by decide +kernel
theorem dX4_turn_17 : decode cX4_turn 17 = .ok (.aload_n 0, 1) := by decide +kernel
theorem dX4_turn_18 : decode cX4_turn 18 = .ok (.getfield 23, 3) := by decide +kernel
theorem dX4_turn_21 : decode cX4_turn 21 = .ok (.iload_n 3, 1) := by decide +kernel
theorem dX4_turn_22 : decode cX4_turn 22 = .ok (.baload, 1) := by decide +kernel
theorem dX4_turn_23 : decode cX4_turn 23 = .ok (.ifCond .ne 7, 3) := by decide +kernel
theorem dX4_turn_26 : decode cX4_turn 26 = .ok (.iconst 1, 1) := by decide +kernel
theorem dX4_turn_27 : decode cX4_turn 27 = .ok (.goto 4, 3) := by decide +kernel
theorem dX4_turn_30 : decode cX4_turn 30 = .ok (.iconst 0, 1) := by decide +kernel
theorem dX4_turn_31 : decode cX4_turn 31 = .ok (.bastore, 1) := by decide +kernel
theorem dX4_turn_32 : decode cX4_turn 32 = .ok (.aload_n 0, 1) := by decide +kernel
theorem dX4_turn_33 : decode cX4_turn 33 = .ok (.getfield 23, 3) := by decide +kernel
theorem dX4_turn_36 : decode cX4_turn 36 = .ok (.iload_n 3, 1) := by decide +kernel
theorem dX4_turn_37 : decode cX4_turn 37 = .ok (.baload, 1) := by decide +kernel
theorem dX4_turn_38 : decode cX4_turn 38 = .ok (.ireturn, 1) := by decide +kernel
set_option maxRecDepth 20000 in
theorem ggX4_run_X0_perforate : GoodIn wsX4_run wsX0_perforate := goodIn_r _ [11, 12, 13, 14, 15, 16, 17, 18, 19, 20, 21, 22, 23, 24, 25, 26, 10, 27, 28, 29, 30, 31, 32, 33, 34, 35, 36, 37, 38, 39, 40, 41, 42, 43, 44, 45, 46, 47, 48, 49, 50, 51, 52, 53, 54, 55, 56, 62, 63, 64, 65, 66, 67, 68, 69, 70, 71, 72] (by decide +kernel) (by decide +kernel)
set_option maxRecDepth 20000 in
theorem gX4_run_X0_perforate : GoodIn wsX4_run (wsV RX4 96 RX0 yX0_perforate wsX0_perforate) := goodIn_app (goodIn_of _ (by decide +kernel)) ggX4_run_X0_perforate
theorem dX4_run_0 : decode cX4_run 0 = .ok (.aload_n 0, 1) := by decide +kernel
theorem dX4_run_1 : decode cX4_run 1 = .ok (.getfield 88, 3) := by decide +kernel
theorem dX4_run_4 : decode cX4_run 4 = .ok (.bipush 20, 2) := by decide +kernel
theorem dX4_run_6 : decode cX4_run 6 = .ok (.if_icmp .ge 14, 3) := by decide +kernel
theorem dX4_run_9 : decode cX4_run 9 = .ok (.aload_n 0, 1) := by decide +kernel
theorem dX4_run_10 : decode cX4_run 10 = .ok (.getfield 12, 3) := by decide +kernel
theorem dX4_run_13 : decode cX4_run 13 = .ok (.getfield 57, 3) := by decide +kernel
theorem dX4_run_16 : decode cX4_run 16 = .ok (.iconst 5, 1) := by decide +kernel
theorem dX4_run_17 : decode cX4_run 17 = .ok (.if_icmp .ge 13, 3) := by decide +kernel
theorem dX4_run_20 : decode cX4_run 20 = .ok (.new 91, 3) := by decide +kernel
theorem dX4_run_23 : decode cX4_run 23 = .ok (.dup, 1) := by decide +kernel
theorem dX4_run_24 : decode cX4_run 24 = .ok (.ldc 93, 2) := by decide +kernel
theorem dX4_run_26 : decode cX4_run 26 = .ok (.invokespecial 95, 3) := by decide +kernel
theorem dX4_run_29 : decode cX4_run 29 = .ok (.athrow, 1) := by decide +kernel
theorem dX4_run_30 : decode cX4_run 30 = .ok (.aload_n 0, 1) := by decide +kernel
theorem dX4_run_31 : decode cX4_run 31 = .ok (.getfield 12, 3) := by decide +kernel
theorem dX4_run_34 : decode cX4_run 34 = .ok (.aload_n 0, 1) := by decide +kernel
theorem dX4_run_35 : decode cX4_run 35 = .ok (.getfield 23, 3) := by decide +kernel
theorem dX4_run_38 : decode cX4_run 38 = .ok (.aload_n 0, 1) := by decide +kernel
theorem dX4_run_39 : decode cX4_run 39 = .ok (.getfield 29, 3) := by decide +kernel
theorem dX4_run_42 : decode cX4_run 42 = .ok (.aload_n 0, 1) := by decide +kernel
theorem dX4_run_43 : decode cX4_run 43 = .ok (.getfield 88, 3) := by decide +kernel
theorem dX4_run_46 : decode cX4_run 46 = .ok (.aaload, 1) := by decide +kernel
theorem dX4_run_47 : decode cX4_run 47 = .ok (.invokevirtual 96, 3) := by decide +kernel
theorem dX4_run_50 : decode cX4_run 50 = .ok (.aload_n 0, 1) := by decide +kernel
theorem dX4_run_51 : decode cX4_run 51 = .ok (.dup, 1) := by decide +kernel
theorem dX4_run_52 : decode cX4_run 52 = .ok (.getfield 88, 3) := by decide +kernel
theorem dX4_run_55 : decode cX4_run 55 = .ok (.iconst 1, 1) := by decide +kernel
theorem dX4_run_56 : decode cX4_run 56 = .ok (.iadd, 1) := by decide +kernel
theorem dX4_run_57 : decode cX4_run 57 = .ok (.putfield 88, 3) := by decide +kernel
theorem dX4_run_60 : decode cX4_run 60 = .ok (.aload_n 0, 1) := by decide +kernel
theorem dX4_run_61 : decode cX4_run 61 = .ok (.getfield 88, 3) := by decide +kernel
theorem dX4_run_64 : decode cX4_run 64 = .ok (.iconst 1, 1) := by decide +kernel
theorem dX4_run_65 : decode cX4_run 65 = .ok (.isub, 1) := by decide +kernel
theorem dX4_run_66 : decode cX4_run 66 = .ok (.ireturn, 1) := by decide +kernel
set_option maxRecDepth 20000 in
theorem ggX4_faults_X4_checkSheet : GoodIn wsX4_faults wsX4_checkSheet := goodIn_ca (goodIn_r _ [6, 7, 8, 9, 10, 11, 5, 12, 16, 17, 18, 19, 20] (by decide +kernel) (by decide +kernel)) (goodIn_sub (fun _ h => List.mem_cons_of_mem _ (List.mem_append_right _ h)) (by decide +kernel))
set_option maxRecDepth 20000 in
theorem gX4_faults_X4_checkSheet : GoodIn wsX4_faults (wsV RX4 100 RX4 yX4_checkSheet wsX4_checkSheet) := goodIn_app (goodIn_of _ (by decide +kernel)) ggX4_faults_X4_checkSheet
set_option maxRecDepth 20000 in
theorem ggX4_faults_X4_checkPlace : GoodIn wsX4_faults wsX4_checkPlace := goodIn_ca (goodIn_r _ [15, 7, 8, 10, 11, 5, 12] (by decide +kernel) (by decide +kernel)) (goodIn_sub (fun _ h => List.mem_cons_of_mem _ (List.mem_append_right _ h)) (by decide +kernel))
set_option maxRecDepth 20000 in
theorem gX4_faults_X4_checkPlace : GoodIn wsX4_faults (va_wsS RX4 84 yX4_checkPlace wsX4_checkPlace) := goodIn_app (goodIn_of _ (by decide +kernel)) ggX4_faults_X4_checkPlace
theorem dX4_faults_0 : decode cX4_faults 0 = .ok (.aload_n 0, 1) := by decide +kernel
theorem dX4_faults_1 : decode cX4_faults 1 = .ok (.iload_n 1, 1) := by decide +kernel
theorem dX4_faults_2 : decode cX4_faults 2 = .ok (.invokevirtual 100, 3) := by decide +kernel
theorem dX4_faults_5 : decode cX4_faults 5 = .ok (.iload_n 2, 1) := by decide +kernel
theorem dX4_faults_6 : decode cX4_faults 6 = .ok (.iload_n 3, 1) := by decide +kernel
theorem dX4_faults_7 : decode cX4_faults 7 = .ok (.invokestatic 84, 3) := by decide +kernel
theorem dX4_faults_10 : decode cX4_faults 10 = .ok (.aload_n 0, 1) := by decide +kernel
theorem dX4_faults_11 : decode cX4_faults 11 = .ok (.getfield 29, 3) := by decide +kernel
theorem dX4_faults_14 : decode cX4_faults 14 = .ok (.iload_n 1, 1) := by decide +kernel
theorem dX4_faults_15 : decode cX4_faults 15 = .ok (.aaload, 1) := by decide +kernel
theorem dX4_faults_16 : decode cX4_faults 16 = .ok (.getfield 103, 3) := by decide +kernel
theorem dX4_faults_19 : decode cX4_faults 19 = .ok (.bipush 6, 2) := by decide +kernel
theorem dX4_faults_21 : decode cX4_faults 21 = .ok (.iload_n 2, 1) := by decide +kernel
theorem dX4_faults_22 : decode cX4_faults 22 = .ok (.imul, 1) := by decide +kernel
theorem dX4_faults_23 : decode cX4_faults 23 = .ok (.iload_n 3, 1) := by decide +kernel
theorem dX4_faults_24 : decode cX4_faults 24 = .ok (.iadd, 1) := by decide +kernel
theorem dX4_faults_25 : decode cX4_faults 25 = .ok (.iaload, 1) := by decide +kernel
theorem dX4_faults_26 : decode cX4_faults 26 = .ok (.ireturn, 1) := by decide +kernel
set_option maxRecDepth 20000 in
theorem ggX4_tear_X4_checkSheet : GoodIn wsX4_tear wsX4_checkSheet := goodIn_ca (goodIn_r _ [8, 9, 10, 11, 12, 13, 7, 14, 25, 26, 27, 28, 29] (by decide +kernel) (by decide +kernel)) (goodIn_sub (fun _ h => List.mem_cons_of_mem _ (List.mem_append_right _ h)) (by decide +kernel))
set_option maxRecDepth 20000 in
theorem gX4_tear_X4_checkSheet : GoodIn wsX4_tear (wsV RX4 100 RX4 yX4_checkSheet wsX4_checkSheet) := goodIn_app (goodIn_of _ (by decide +kernel)) ggX4_tear_X4_checkSheet
set_option maxRecDepth 20000 in
theorem ggX4_tear_X4_checkPlace : GoodIn wsX4_tear wsX4_checkPlace := goodIn_ca (goodIn_r _ [17, 9, 10, 12, 13, 7, 14] (by decide +kernel) (by decide +kernel)) (goodIn_sub (fun _ h => List.mem_cons_of_mem _ (List.mem_append_right _ h)) (by decide +kernel))
set_option maxRecDepth 20000 in
theorem gX4_tear_X4_checkPlace : GoodIn wsX4_tear (va_wsS RX4 84 yX4_checkPlace wsX4_checkPlace) := goodIn_app (goodIn_of _ (by decide +kernel)) ggX4_tear_X4_checkPlace
set_option maxRecDepth 20000 in
theorem ggX4_tear_X2_worthOf : GoodIn wsX4_tear wsX2_worthOf := goodIn_r _ [22, 23, 24, 30, 31] (by decide +kernel) (by decide +kernel)
set_option maxRecDepth 20000 in
theorem gX4_tear_X2_worthOf : GoodIn wsX4_tear (wsV RX4 112 RX2 yX2_worthOf wsX2_worthOf) := goodIn_app (goodIn_of _ (by decide +kernel)) ggX4_tear_X2_worthOf
theorem dX4_tear_0 : decode cX4_tear 0 = .ok (.aload_n 0, 1) := by decide +kernel
theorem dX4_tear_1 : decode cX4_tear 1 = .ok (.iload_n 1, 1) := by decide +kernel
theorem dX4_tear_2 : decode cX4_tear 2 = .ok (.invokevirtual 100, 3) := by decide +kernel
theorem dX4_tear_5 : decode cX4_tear 5 = .ok (.iload_n 2, 1) := by decide +kernel
theorem dX4_tear_6 : decode cX4_tear 6 = .ok (.iload_n 3, 1) := by decide +kernel
theorem dX4_tear_7 : decode cX4_tear 7 = .ok (.invokestatic 84, 3) := by decide +kernel
theorem dX4_tear_10 : decode cX4_tear 10 = .ok (.aload_n 0, 1) := by decide +kernel
theorem dX4_tear_11 : decode cX4_tear 11 = .ok (.getfield 29, 3) := by decide +kernel
theorem dX4_tear_14 : decode cX4_tear 14 = .ok (.iload_n 1, 1) := by decide +kernel
theorem dX4_tear_15 : decode cX4_tear 15 = .ok (.aaload, 1) := by decide +kernel
theorem dX4_tear_16 : decode cX4_tear 16 = .ok (.astore 4, 2) := by decide +kernel
theorem dX4_tear_18 : decode cX4_tear 18 = .ok (.bipush 6, 2) := by decide +kernel
theorem dX4_tear_20 : decode cX4_tear 20 = .ok (.iload_n 2, 1) := by decide +kernel
theorem dX4_tear_21 : decode cX4_tear 21 = .ok (.imul, 1) := by decide +kernel
theorem dX4_tear_22 : decode cX4_tear 22 = .ok (.iload_n 3, 1) := by decide +kernel
theorem dX4_tear_23 : decode cX4_tear 23 = .ok (.iadd, 1) := by decide +kernel
theorem dX4_tear_24 : decode cX4_tear 24 = .ok (.istore 5, 2) := by decide +kernel
theorem dX4_tear_26 : decode cX4_tear 26 = .ok (.aload 4, 2) := by decide +kernel
theorem dX4_tear_28 : decode cX4_tear 28 = .ok (.getfield 107, 3) := by decide +kernel
theorem dX4_tear_31 : decode cX4_tear 31 = .ok (.iload 5, 2) := by decide +kernel
theorem dX4_tear_33 : decode cX4_tear 33 = .ok (.baload, 1) := by decide +kernel
theorem dX4_tear_34 : decode cX4_tear 34 = .ok (.ifCond .eq 13, 3) := by decide +kernel
theorem dX4_tear_37 : decode cX4_tear 37 = .ok (.new 91, 3) := by decide +kernel
theorem dX4_tear_40 : decode cX4_tear 40 = .ok (.dup, 1) := by decide +kernel
theorem dX4_tear_41 : decode cX4_tear 41 = .ok (.ldc 110, 2) := by decide +kernel
theorem dX4_tear_43 : decode cX4_tear 43 = .ok (.invokespecial 95, 3) := by decide +kernel
theorem dX4_tear_46 : decode cX4_tear 46 = .ok (.athrow, 1) := by decide +kernel
theorem dX4_tear_47 : decode cX4_tear 47 = .ok (.aload 4, 2) := by decide +kernel
theorem dX4_tear_49 : decode cX4_tear 49 = .ok (.iload 5, 2) := by decide +kernel
theorem dX4_tear_51 : decode cX4_tear 51 = .ok (.invokevirtual 112, 3) := by decide +kernel
theorem dX4_tear_54 : decode cX4_tear 54 = .ok (.istore 6, 2) := by decide +kernel
theorem dX4_tear_56 : decode cX4_tear 56 = .ok (.aload 4, 2) := by decide +kernel
theorem dX4_tear_58 : decode cX4_tear 58 = .ok (.getfield 107, 3) := by decide +kernel
theorem dX4_tear_61 : decode cX4_tear 61 = .ok (.iload 5, 2) := by decide +kernel
theorem dX4_tear_63 : decode cX4_tear 63 = .ok (.iconst 1, 1) := by decide +kernel
theorem dX4_tear_64 : decode cX4_tear 64 = .ok (.bastore, 1) := by decide +kernel
theorem dX4_tear_65 : decode cX4_tear 65 = .ok (.iload 6, 2) := by decide +kernel
theorem dX4_tear_67 : decode cX4_tear 67 = .ok (.ireturn, 1) := by decide +kernel
set_option maxRecDepth 20000 in
theorem ggX4_sheet_X4_checkSheet : GoodIn wsX4_sheet wsX4_checkSheet := goodIn_ca (goodIn_r _ [6, 7, 8, 9, 10, 11, 5, 12, 70, 71, 72, 73, 74] (by decide +kernel) (by decide +kernel)) (goodIn_sub (fun _ h => List.mem_cons_of_mem _ (List.mem_append_right _ h)) (by decide +kernel))
set_option maxRecDepth 20000 in
theorem gX4_sheet_X4_checkSheet : GoodIn wsX4_sheet (wsV RX4 100 RX4 yX4_checkSheet wsX4_checkSheet) := goodIn_app (goodIn_of _ (by decide +kernel)) ggX4_sheet_X4_checkSheet
set_option maxRecDepth 20000 in
theorem ggX4_sheet_X4_checkWhat : GoodIn wsX4_sheet wsX4_checkWhat := goodIn_ca (goodIn_r _ [15, 7, 8, 10, 11, 5, 12] (by decide +kernel) (by decide +kernel)) (goodIn_sub (fun _ h => List.mem_cons_of_mem _ (List.mem_append_right _ h)) (by decide +kernel))
set_option maxRecDepth 20000 in
theorem gX4_sheet_X4_checkWhat : GoodIn wsX4_sheet (va_wsS RX4 116 yX4_checkWhat wsX4_checkWhat) := goodIn_app (goodIn_of _ (by decide +kernel)) ggX4_sheet_X4_checkWhat
set_option maxRecDepth 20000 in
theorem ggX4_sheet_X2_answer : GoodIn wsX4_sheet wsX2_answer := goodIn_r _ [20, 21, 22, 23, 19, 24, 25, 26, 27, 28, 29, 30, 31, 32, 33, 34, 35, 36, 37, 38, 39, 40, 41, 42, 43, 44, 45, 46, 47, 48, 49, 50, 51, 52, 53, 54, 55, 56, 57, 58, 59, 60, 61, 62, 63, 64, 65, 66, 67, 68, 69, 75, 76] (by decide +kernel) (by decide +kernel)
set_option maxRecDepth 20000 in
theorem gX4_sheet_X2_answer : GoodIn wsX4_sheet (wsV RX4 119 RX2 yX2_answer wsX2_answer) := goodIn_app (goodIn_of _ (by decide +kernel)) ggX4_sheet_X2_answer
theorem dX4_sheet_0 : decode cX4_sheet 0 = .ok (.aload_n 0, 1) := by decide +kernel
theorem dX4_sheet_1 : decode cX4_sheet 1 = .ok (.iload_n 1, 1) := by decide +kernel
theorem dX4_sheet_2 : decode cX4_sheet 2 = .ok (.invokevirtual 100, 3) := by decide +kernel
theorem dX4_sheet_5 : decode cX4_sheet 5 = .ok (.iload_n 2, 1) := by decide +kernel
theorem dX4_sheet_6 : decode cX4_sheet 6 = .ok (.bipush 6, 2) := by decide +kernel
theorem dX4_sheet_8 : decode cX4_sheet 8 = .ok (.invokestatic 116, 3) := by decide +kernel
theorem dX4_sheet_11 : decode cX4_sheet 11 = .ok (.aload_n 0, 1) := by decide +kernel
theorem dX4_sheet_12 : decode cX4_sheet 12 = .ok (.getfield 29, 3) := by decide +kernel
theorem dX4_sheet_15 : decode cX4_sheet 15 = .ok (.iload_n 1, 1) := by decide +kernel
theorem dX4_sheet_16 : decode cX4_sheet 16 = .ok (.aaload, 1) := by decide +kernel
theorem dX4_sheet_17 : decode cX4_sheet 17 = .ok (.iload_n 2, 1) := by decide +kernel
theorem dX4_sheet_18 : decode cX4_sheet 18 = .ok (.invokevirtual 119, 3) := by decide +kernel
theorem dX4_sheet_21 : decode cX4_sheet 21 = .ok (.ireturn, 1) := by decide +kernel
set_option maxRecDepth 20000 in
theorem ggX4_pin_X4_checkPin : GoodIn wsX4_pin wsX4_checkPin := goodIn_ca (goodIn_r _ [5, 6, 7, 8, 9, 4, 10] (by decide +kernel) (by decide +kernel)) (goodIn_sub (fun _ h => List.mem_cons_of_mem _ (List.mem_append_right _ h)) (by decide +kernel))
set_option maxRecDepth 20000 in
theorem gX4_pin_X4_checkPin : GoodIn wsX4_pin (va_wsS RX4 66 yX4_checkPin wsX4_checkPin) := goodIn_app (goodIn_of _ (by decide +kernel)) ggX4_pin_X4_checkPin
set_option maxRecDepth 20000 in
theorem ggX4_pin_X4_checkWhat : GoodIn wsX4_pin wsX4_checkWhat := goodIn_ca (goodIn_r _ [13, 6, 7, 8, 9, 4, 10] (by decide +kernel) (by decide +kernel)) (goodIn_sub (fun _ h => List.mem_cons_of_mem _ (List.mem_append_right _ h)) (by decide +kernel))
set_option maxRecDepth 20000 in
theorem gX4_pin_X4_checkWhat : GoodIn wsX4_pin (va_wsS RX4 116 yX4_checkWhat wsX4_checkWhat) := goodIn_app (goodIn_of _ (by decide +kernel)) ggX4_pin_X4_checkWhat
set_option maxRecDepth 20000 in
theorem ggX4_pin_X1_answer : GoodIn wsX4_pin wsX1_answer := goodIn_r _ [18, 19, 20, 21, 22, 23, 17, 24, 37, 38] (by decide +kernel) (by decide +kernel)
set_option maxRecDepth 20000 in
theorem gX4_pin_X1_answer : GoodIn wsX4_pin (wsV RX4 122 RX1 yX1_answer wsX1_answer) := goodIn_app (goodIn_of _ (by decide +kernel)) ggX4_pin_X1_answer
theorem dX4_pin_0 : decode cX4_pin 0 = .ok (.iload_n 1, 1) := by decide +kernel
theorem dX4_pin_1 : decode cX4_pin 1 = .ok (.invokestatic 66, 3) := by decide +kernel
theorem dX4_pin_4 : decode cX4_pin 4 = .ok (.iload_n 2, 1) := by decide +kernel
theorem dX4_pin_5 : decode cX4_pin 5 = .ok (.iconst 4, 1) := by decide +kernel
theorem dX4_pin_6 : decode cX4_pin 6 = .ok (.invokestatic 116, 3) := by decide +kernel
theorem dX4_pin_9 : decode cX4_pin 9 = .ok (.aload_n 0, 1) := by decide +kernel
theorem dX4_pin_10 : decode cX4_pin 10 = .ok (.getfield 12, 3) := by decide +kernel
theorem dX4_pin_13 : decode cX4_pin 13 = .ok (.getfield 72, 3) := by decide +kernel
theorem dX4_pin_16 : decode cX4_pin 16 = .ok (.iload_n 1, 1) := by decide +kernel
theorem dX4_pin_17 : decode cX4_pin 17 = .ok (.aaload, 1) := by decide +kernel
theorem dX4_pin_18 : decode cX4_pin 18 = .ok (.iload_n 2, 1) := by decide +kernel
theorem dX4_pin_19 : decode cX4_pin 19 = .ok (.invokevirtual 122, 3) := by decide +kernel
theorem dX4_pin_22 : decode cX4_pin 22 = .ok (.ireturn, 1) := by decide +kernel
set_option maxRecDepth 20000 in
theorem ggX4_count_X4_checkWhat : GoodIn wsX4_count wsX4_checkWhat := goodIn_ca (goodIn_r _ [4, 5, 6, 7, 8, 3, 9] (by decide +kernel) (by decide +kernel)) (goodIn_sub (fun _ h => List.mem_cons_of_mem _ (List.mem_append_right _ h)) (by decide +kernel))
set_option maxRecDepth 20000 in
theorem gX4_count_X4_checkWhat : GoodIn wsX4_count (va_wsS RX4 116 yX4_checkWhat wsX4_checkWhat) := goodIn_app (goodIn_of _ (by decide +kernel)) ggX4_count_X4_checkWhat
set_option maxRecDepth 20000 in
theorem ggX4_count_X4_countAnswer : GoodIn wsX4_count wsX4_countAnswer := goodIn_r _ [13, 14, 15, 16, 17, 18, 19, 20, 21, 22, 23, 24, 25, 26, 27, 28, 29, 30, 31, 3, 32, 33, 34, 35, 36, 37, 38, 39, 40, 41, 42, 43, 44, 45, 46, 47, 48, 49, 50, 51, 52, 53, 54, 55, 56, 57, 58, 59, 60, 61, 62, 63, 64, 65] (by decide +kernel) (by decide +kernel)
set_option maxRecDepth 20000 in
theorem gX4_count_X4_countAnswer : GoodIn wsX4_count (wsV RX4 123 RX4 yX4_countAnswer wsX4_countAnswer) := goodIn_app (goodIn_of _ (by decide +kernel)) ggX4_count_X4_countAnswer
theorem dX4_count_0 : decode cX4_count 0 = .ok (.iload_n 1, 1) := by decide +kernel
theorem dX4_count_1 : decode cX4_count 1 = .ok (.bipush 10, 2) := by decide +kernel
theorem dX4_count_3 : decode cX4_count 3 = .ok (.invokestatic 116, 3) := by decide +kernel
theorem dX4_count_6 : decode cX4_count 6 = .ok (.aload_n 0, 1) := by decide +kernel
theorem dX4_count_7 : decode cX4_count 7 = .ok (.iload_n 1, 1) := by decide +kernel
theorem dX4_count_8 : decode cX4_count 8 = .ok (.invokevirtual 123, 3) := by decide +kernel
theorem dX4_count_11 : decode cX4_count 11 = .ok (.ireturn, 1) := by decide +kernel
set_option maxRecDepth 20000 in
theorem ggX4_foresee_X4_checkSheetsToRun : GoodIn wsX4_foresee wsX4_checkSheetsToRun := goodIn_ca (goodIn_r _ [7, 8, 9, 10, 11, 6, 12] (by decide +kernel) (by decide +kernel)) (goodIn_sub (fun _ h => List.mem_cons_of_mem _ (List.mem_append_left _ (List.mem_append_right _ h))) (by decide +kernel))
set_option maxRecDepth 20000 in
theorem gX4_foresee_X4_checkSheetsToRun : GoodIn wsX4_foresee (va_wsS RX4 126 yX4_checkSheetsToRun wsX4_checkSheetsToRun) := goodIn_app (goodIn_of _ (by decide +kernel)) ggX4_foresee_X4_checkSheetsToRun
set_option maxRecDepth 20000 in
theorem ggX4_foresee_X4_checkWhat : GoodIn wsX4_foresee wsX4_checkWhat := goodIn_ca (goodIn_r _ [15, 16, 17, 10, 11, 6, 12] (by decide +kernel) (by decide +kernel)) (goodIn_sub (fun _ h => List.mem_cons_of_mem _ (List.mem_append_right _ h)) (by decide +kernel))
set_option maxRecDepth 20000 in
theorem gX4_foresee_X4_checkWhat : GoodIn wsX4_foresee (va_wsS RX4 116 yX4_checkWhat wsX4_checkWhat) := goodIn_app (goodIn_of _ (by decide +kernel)) ggX4_foresee_X4_checkWhat
set_option maxRecDepth 20000 in
theorem ggX4_foresee_X3_perforateFrom : GoodIn wsX4_foresee wsX3_perforateFrom := goodIn_r _ [22, 23, 24, 25, 26, 27, 28, 29, 30, 31, 32, 33, 34, 35, 36, 37, 38, 39, 40, 41, 42, 43, 44, 45, 46, 47, 48, 49, 50, 51, 52, 53, 54, 55, 56, 57, 58, 59, 60, 11, 6, 12, 61, 62, 63, 64, 65, 66, 67, 68, 69, 70, 71, 72, 73, 74, 75, 76, 77, 78, 79, 80, 81, 82, 83, 84, 85, 86, 87, 88, 89, 90, 91, 92, 93, 94, 95, 96, 97, 98, 99, 100, 121, 122, 123, 124, 114, 115, 116, 117, 118, 119, 120, 125, 126, 127, 128] (by decide +kernel) (by decide +kernel)
set_option maxRecDepth 20000 in
theorem gX4_foresee_X3_perforateFrom : GoodIn wsX4_foresee (wsV RX4 129 RX3 yX3_perforateFrom wsX3_perforateFrom) := goodIn_app (goodIn_of _ (by decide +kernel)) ggX4_foresee_X3_perforateFrom
set_option maxRecDepth 20000 in
theorem ggX4_foresee_X3_answer : GoodIn wsX4_foresee wsX3_answer := goodIn_r _ [104, 24, 25, 23, 105, 106, 107, 30, 108, 32, 65, 66, 67, 42, 68, 45, 44, 121, 122, 123, 124, 114, 115, 116, 117, 118, 119, 120, 125, 126] (by decide +kernel) (by decide +kernel)
set_option maxRecDepth 20000 in
theorem gX4_foresee_X3_answer : GoodIn wsX4_foresee (wsV RX4 133 RX3 yX3_answer wsX3_answer) := goodIn_app (goodIn_of _ (by decide +kernel)) ggX4_foresee_X3_answer
theorem dX4_foresee_0 : decode cX4_foresee 0 = .ok (.iload_n 1, 1) := by decide +kernel
theorem dX4_foresee_1 : decode cX4_foresee 1 = .ok (.invokestatic 126, 3) := by decide +kernel
theorem dX4_foresee_4 : decode cX4_foresee 4 = .ok (.iload_n 2, 1) := by decide +kernel
theorem dX4_foresee_5 : decode cX4_foresee 5 = .ok (.iconst 4, 1) := by decide +kernel
theorem dX4_foresee_6 : decode cX4_foresee 6 = .ok (.invokestatic 116, 3) := by decide +kernel
theorem dX4_foresee_9 : decode cX4_foresee 9 = .ok (.aload_n 0, 1) := by decide +kernel
theorem dX4_foresee_10 : decode cX4_foresee 10 = .ok (.getfield 19, 3) := by decide +kernel
theorem dX4_foresee_13 : decode cX4_foresee 13 = .ok (.aload_n 0, 1) := by decide +kernel
theorem dX4_foresee_14 : decode cX4_foresee 14 = .ok (.getfield 12, 3) := by decide +kernel
theorem dX4_foresee_17 : decode cX4_foresee 17 = .ok (.aload_n 0, 1) := by decide +kernel
theorem dX4_foresee_18 : decode cX4_foresee 18 = .ok (.getfield 12, 3) := by decide +kernel
theorem dX4_foresee_21 : decode cX4_foresee 21 = .ok (.getfield 45, 3) := by decide +kernel
theorem dX4_foresee_24 : decode cX4_foresee 24 = .ok (.aload_n 0, 1) := by decide +kernel
theorem dX4_foresee_25 : decode cX4_foresee 25 = .ok (.getfield 23, 3) := by decide +kernel
theorem dX4_foresee_28 : decode cX4_foresee 28 = .ok (.iload_n 1, 1) := by decide +kernel
theorem dX4_foresee_29 : decode cX4_foresee 29 = .ok (.invokevirtual 129, 3) := by decide +kernel
theorem dX4_foresee_32 : decode cX4_foresee 32 = .ok (.aload_n 0, 1) := by decide +kernel
theorem dX4_foresee_33 : decode cX4_foresee 33 = .ok (.getfield 19, 3) := by decide +kernel
theorem dX4_foresee_36 : decode cX4_foresee 36 = .ok (.iload_n 2, 1) := by decide +kernel
theorem dX4_foresee_37 : decode cX4_foresee 37 = .ok (.invokevirtual 133, 3) := by decide +kernel
theorem dX4_foresee_40 : decode cX4_foresee 40 = .ok (.ireturn, 1) := by decide +kernel
set_option maxRecDepth 20000 in
theorem ggX4_advise_X4_checkSheetsToRun : GoodIn wsX4_advise wsX4_checkSheetsToRun := goodIn_ca (goodIn_r _ [7, 8, 9, 10, 11, 6, 12] (by decide +kernel) (by decide +kernel)) (goodIn_sub (fun _ h => List.mem_cons_of_mem _ (List.mem_append_right _ h)) (by decide +kernel))
set_option maxRecDepth 20000 in
theorem gX4_advise_X4_checkSheetsToRun : GoodIn wsX4_advise (va_wsS RX4 126 yX4_checkSheetsToRun wsX4_checkSheetsToRun) := goodIn_app (goodIn_of _ (by decide +kernel)) ggX4_advise_X4_checkSheetsToRun
set_option maxRecDepth 20000 in
theorem ggX4_advise_X3_perforateFrom : GoodIn wsX4_advise wsX3_perforateFrom := goodIn_r _ [17, 18, 19, 20, 21, 22, 23, 24, 25, 26, 27, 28, 29, 30, 31, 32, 33, 34, 35, 36, 37, 38, 39, 40, 41, 42, 43, 44, 45, 46, 47, 48, 49, 50, 51, 52, 53, 54, 55, 11, 6, 12, 56, 57, 58, 59, 60, 61, 62, 63, 64, 65, 66, 67, 68, 69, 70, 71, 72, 73, 74, 75, 76, 77, 78, 79, 80, 81, 82, 83, 84, 85, 86, 87, 88, 89, 90, 91, 92, 93, 94, 95, 101, 102, 103, 104, 105, 106, 107, 108, 109, 110, 111, 112, 113, 114, 115] (by decide +kernel) (by decide +kernel)
set_option maxRecDepth 20000 in
theorem gX4_advise_X3_perforateFrom : GoodIn wsX4_advise (wsV RX4 129 RX3 yX3_perforateFrom wsX3_perforateFrom) := goodIn_app (goodIn_of _ (by decide +kernel)) ggX4_advise_X3_perforateFrom
theorem dX4_advise_0 : decode cX4_advise 0 = .ok (.iload_n 1, 1) := by decide +kernel
theorem dX4_advise_1 : decode cX4_advise 1 = .ok (.invokestatic 126, 3) := by decide +kernel
theorem dX4_advise_4 : decode cX4_advise 4 = .ok (.bipush 10, 2) := by decide +kernel
theorem dX4_advise_6 : decode cX4_advise 6 = .ok (.istore_n 2, 1) := by decide +kernel
theorem dX4_advise_7 : decode cX4_advise 7 = .ok (.iconst (-1), 1) := by decide +kernel
theorem dX4_advise_8 : decode cX4_advise 8 = .ok (.istore_n 3, 1) := by decide +kernel
theorem dX4_advise_9 : decode cX4_advise 9 = .ok (.bipush 10, 2) := by decide +kernel
theorem dX4_advise_11 : decode cX4_advise 11 = .ok (.istore 4, 2) := by decide +kernel
theorem dX4_advise_13 : decode cX4_advise 13 = .ok (.iload 4, 2) := by decide +kernel
theorem dX4_advise_15 : decode cX4_advise 15 = .ok (.bipush 30, 2) := by decide +kernel
theorem dX4_advise_17 : decode cX4_advise 17 = .ok (.if_icmp .gt 49, 3) := by decide +kernel
theorem dX4_advise_20 : decode cX4_advise 20 = .ok (.aload_n 0, 1) := by decide +kernel
theorem dX4_advise_21 : decode cX4_advise 21 = .ok (.getfield 19, 3) := by decide +kernel
theorem dX4_advise_24 : decode cX4_advise 24 = .ok (.aload_n 0, 1) := by decide +kernel
theorem dX4_advise_25 : decode cX4_advise 25 = .ok (.getfield 12, 3) := by decide +kernel
theorem dX4_advise_28 : decode cX4_advise 28 = .ok (.iload 4, 2) := by decide +kernel
theorem dX4_advise_30 : decode cX4_advise 30 = .ok (.aload_n 0, 1) := by decide +kernel
theorem dX4_advise_31 : decode cX4_advise 31 = .ok (.getfield 23, 3) := by decide +kernel
theorem dX4_advise_34 : decode cX4_advise 34 = .ok (.iload_n 1, 1) := by decide +kernel
theorem dX4_advise_35 : decode cX4_advise 35 = .ok (.invokevirtual 129, 3) := by decide +kernel
theorem dX4_advise_38 : decode cX4_advise 38 = .ok (.aload_n 0, 1) := by decide +kernel
theorem dX4_advise_39 : decode cX4_advise 39 = .ok (.getfield 19, 3) := by decide +kernel
theorem dX4_advise_42 : decode cX4_advise 42 = .ok (.getfield 134, 3) := by decide +kernel
theorem dX4_advise_45 : decode cX4_advise 45 = .ok (.iload_n 3, 1) := by decide +kernel
theorem dX4_advise_46 : decode cX4_advise 46 = .ok (.if_icmp .le 14, 3) := by decide +kernel
theorem dX4_advise_49 : decode cX4_advise 49 = .ok (.aload_n 0, 1) := by decide +kernel
theorem dX4_advise_50 : decode cX4_advise 50 = .ok (.getfield 19, 3) := by decide +kernel
theorem dX4_advise_53 : decode cX4_advise 53 = .ok (.getfield 134, 3) := by decide +kernel
theorem dX4_advise_56 : decode cX4_advise 56 = .ok (.istore_n 3, 1) := by decide +kernel
theorem dX4_advise_57 : decode cX4_advise 57 = .ok (.iload 4, 2) := by decide +kernel
theorem dX4_advise_59 : decode cX4_advise 59 = .ok (.istore_n 2, 1) := by decide +kernel
theorem dX4_advise_60 : decode cX4_advise 60 = .ok (.iinc 4 1, 3) := by decide +kernel
theorem dX4_advise_63 : decode cX4_advise 63 = .ok (.goto (-50), 3) := by decide +kernel
theorem dX4_advise_66 : decode cX4_advise 66 = .ok (.iload_n 2, 1) := by decide +kernel
theorem dX4_advise_67 : decode cX4_advise 67 = .ok (.ireturn, 1) := by decide +kernel
set_option maxRecDepth 20000 in
theorem ggX4_like_X4_isWithin : GoodIn wsX4_like wsX4_isWithin := goodIn_r _ [6] (by decide +kernel) (by decide +kernel)
set_option maxRecDepth 20000 in
theorem gX4_like_X4_isWithin : GoodIn wsX4_like (va_wsS RX4 34 yX4_isWithin wsX4_isWithin) := goodIn_app (goodIn_of _ (by decide +kernel)) ggX4_like_X4_isWithin
set_option maxRecDepth 20000 in
theorem ggX4_like_X4_stampsWith : GoodIn wsX4_like wsX4_stampsWith := goodIn_r _ [10, 11, 12, 13, 14, 15, 16, 17, 18, 19, 20, 21, 22, 23, 24, 25, 26, 27, 28, 29, 30] (by decide +kernel) (by decide +kernel)
set_option maxRecDepth 20000 in
theorem gX4_like_X4_stampsWith : GoodIn wsX4_like (wsV RX4 139 RX4 yX4_stampsWith wsX4_stampsWith) := goodIn_app (goodIn_of _ (by decide +kernel)) ggX4_like_X4_stampsWith
theorem dX4_like_0 : decode cX4_like 0 = .ok (.iload_n 1, 1) := by decide +kernel
theorem dX4_like_1 : decode cX4_like 1 = .ok (.iconst 0, 1) := by decide +kernel
theorem dX4_like_2 : decode cX4_like 2 = .ok (.bipush 31, 2) := by decide +kernel
theorem dX4_like_4 : decode cX4_like 4 = .ok (.invokestatic 34, 3) := by decide +kernel
theorem dX4_like_7 : decode cX4_like 7 = .ok (.ifCond .ne 13, 3) := by decide +kernel
theorem dX4_like_10 : decode cX4_like 10 = .ok (.new 38, 3) := by decide +kernel
theorem dX4_like_13 : decode cX4_like 13 = .ok (.dup, 1) := by decide +kernel
theorem dX4_like_14 : decode cX4_like 14 = .ok (.ldc 137, 2) := by decide +kernel
theorem dX4_like_16 : decode cX4_like 16 = .ok (.invokespecial 42, 3) := by decide +kernel
theorem dX4_like_19 : decode cX4_like 19 = .ok (.athrow, 1) := by decide +kernel
theorem dX4_like_20 : decode cX4_like 20 = .ok (.aload_n 0, 1) := by decide +kernel
theorem dX4_like_21 : decode cX4_like 21 = .ok (.iload_n 1, 1) := by decide +kernel
theorem dX4_like_22 : decode cX4_like 22 = .ok (.invokevirtual 139, 3) := by decide +kernel
theorem dX4_like_25 : decode cX4_like 25 = .ok (.ireturn, 1) := by decide +kernel
set_option maxRecDepth 20000 in
theorem ggX4_share_X4_stampsWith : GoodIn wsX4_share wsX4_stampsWith := goodIn_r _ [6, 1, 7, 8, 9, 10, 11, 12, 13, 14, 15, 16, 17, 18, 19, 20, 21, 22, 23, 24, 25] (by decide +kernel) (by decide +kernel)
set_option maxRecDepth 20000 in
theorem gX4_share_X4_stampsWith : GoodIn wsX4_share (wsV RX4 139 RX4 yX4_stampsWith wsX4_stampsWith) := goodIn_app (goodIn_of _ (by decide +kernel)) ggX4_share_X4_stampsWith
theorem dX4_share_0 : decode cX4_share 0 = .ok (.bipush 30, 2) := by decide +kernel
theorem dX4_share_2 : decode cX4_share 2 = .ok (.aload_n 0, 1) := by decide +kernel
theorem dX4_share_3 : decode cX4_share 3 = .ok (.getfield 88, 3) := by decide +kernel
theorem dX4_share_6 : decode cX4_share 6 = .ok (.imul, 1) := by decide +kernel
theorem dX4_share_7 : decode cX4_share 7 = .ok (.istore_n 1, 1) := by decide +kernel
theorem dX4_share_8 : decode cX4_share 8 = .ok (.iload_n 1, 1) := by decide +kernel
theorem dX4_share_9 : decode cX4_share 9 = .ok (.ifCond .ne 5, 3) := by decide +kernel
theorem dX4_share_12 : decode cX4_share 12 = .ok (.dconst 0, 1) := by decide +kernel
theorem dX4_share_13 : decode cX4_share 13 = .ok (.dreturn, 1) := by decide +kernel
theorem dX4_share_14 : decode cX4_share 14 = .ok (.aload_n 0, 1) := by decide +kernel
theorem dX4_share_15 : decode cX4_share 15 = .ok (.iconst 0, 1) := by decide +kernel
theorem dX4_share_16 : decode cX4_share 16 = .ok (.invokevirtual 139, 3) := by decide +kernel
theorem dX4_share_19 : decode cX4_share 19 = .ok (.i2d, 1) := by decide +kernel
theorem dX4_share_20 : decode cX4_share 20 = .ok (.iload_n 1, 1) := by decide +kernel
theorem dX4_share_21 : decode cX4_share 21 = .ok (.i2d, 1) := by decide +kernel
theorem dX4_share_22 : decode cX4_share 22 = .ok (.ddiv, 1) := by decide +kernel
theorem dX4_share_23 : decode cX4_share 23 = .ok (.dreturn, 1) := by decide +kernel
set_option maxRecDepth 20000 in
theorem ggX4_digest_X4_countAnswer : GoodIn wsX4_digest wsX4_countAnswer := goodIn_r _ [10, 4, 3, 11, 12, 13, 14, 15, 16, 17, 18, 19, 20, 21, 22, 23, 24, 25, 26, 9, 27, 28, 29, 30, 31, 32, 5, 33, 34, 35, 36, 37, 38, 39, 40, 41, 42, 43, 98, 99, 100, 101, 102, 103, 104, 105, 106, 107, 108, 109, 110, 111, 112, 113] (by decide +kernel) (by decide +kernel)
set_option maxRecDepth 20000 in
theorem gX4_digest_X4_countAnswer : GoodIn wsX4_digest (wsV RX4 123 RX4 yX4_countAnswer wsX4_countAnswer) := goodIn_app (goodIn_of _ (by decide +kernel)) ggX4_digest_X4_countAnswer
set_option maxRecDepth 20000 in
theorem ggX4_digest_X1_answer : GoodIn wsX4_digest wsX1_answer := goodIn_r _ [47, 23, 22, 48, 18, 19, 20, 21, 110, 111] (by decide +kernel) (by decide +kernel)
set_option maxRecDepth 20000 in
theorem gX4_digest_X1_answer : GoodIn wsX4_digest (wsV RX4 122 RX1 yX1_answer wsX1_answer) := goodIn_app (goodIn_of _ (by decide +kernel)) ggX4_digest_X1_answer
set_option maxRecDepth 20000 in
theorem ggX4_digest_X2_addToDigest : GoodIn wsX4_digest wsX2_addToDigest := goodIn_r _ [52, 53, 42, 54, 55, 56, 36, 57, 58, 59, 60, 61, 43, 62, 63, 64, 65, 66, 67, 68, 69, 70, 34, 35, 37, 38, 39, 40, 41, 71, 72, 73, 74, 75, 76, 77, 78, 79, 80, 81, 82, 83, 84, 85, 86, 87, 88, 89, 90, 91, 92, 93, 94, 95, 96, 97, 112, 113] (by decide +kernel) (by decide +kernel)
set_option maxRecDepth 20000 in
theorem gX4_digest_X2_addToDigest : GoodIn wsX4_digest (wsV RX4 146 RX2 yX2_addToDigest wsX2_addToDigest) := goodIn_app (goodIn_of _ (by decide +kernel)) ggX4_digest_X2_addToDigest
theorem dX4_digest_0 : decode cX4_digest 0 = .ok (.ldc2_w 142, 3) := by decide +kernel
theorem dX4_digest_3 : decode cX4_digest 3 = .ok (.lstore_n 1, 1) := by decide +kernel
theorem dX4_digest_4 : decode cX4_digest 4 = .ok (.iconst 0, 1) := by decide +kernel
theorem dX4_digest_5 : decode cX4_digest 5 = .ok (.istore_n 3, 1) := by decide +kernel
theorem dX4_digest_6 : decode cX4_digest 6 = .ok (.iload_n 3, 1) := by decide +kernel
theorem dX4_digest_7 : decode cX4_digest 7 = .ok (.bipush 10, 2) := by decide +kernel
theorem dX4_digest_9 : decode cX4_digest 9 = .ok (.if_icmp .ge 22, 3) := by decide +kernel
theorem dX4_digest_12 : decode cX4_digest 12 = .ok (.lload_n 1, 1) := by decide +kernel
theorem dX4_digest_13 : decode cX4_digest 13 = .ok (.ldc2_w 144, 3) := by decide +kernel
theorem dX4_digest_16 : decode cX4_digest 16 = .ok (.lmul, 1) := by decide +kernel
theorem dX4_digest_17 : decode cX4_digest 17 = .ok (.aload_n 0, 1) := by decide +kernel
theorem dX4_digest_18 : decode cX4_digest 18 = .ok (.iload_n 3, 1) := by decide +kernel
theorem dX4_digest_19 : decode cX4_digest 19 = .ok (.invokevirtual 123, 3) := by decide +kernel
theorem dX4_digest_22 : decode cX4_digest 22 = .ok (.i2l, 1) := by decide +kernel
theorem dX4_digest_23 : decode cX4_digest 23 = .ok (.ladd, 1) := by decide +kernel
theorem dX4_digest_24 : decode cX4_digest 24 = .ok (.lstore_n 1, 1) := by decide +kernel
theorem dX4_digest_25 : decode cX4_digest 25 = .ok (.iinc 3 1, 3) := by decide +kernel
theorem dX4_digest_28 : decode cX4_digest 28 = .ok (.goto (-22), 3) := by decide +kernel
theorem dX4_digest_31 : decode cX4_digest 31 = .ok (.iconst 0, 1) := by decide +kernel
theorem dX4_digest_32 : decode cX4_digest 32 = .ok (.istore_n 3, 1) := by decide +kernel
theorem dX4_digest_33 : decode cX4_digest 33 = .ok (.iload_n 3, 1) := by decide +kernel
theorem dX4_digest_34 : decode cX4_digest 34 = .ok (.bipush 7, 2) := by decide +kernel
theorem dX4_digest_36 : decode cX4_digest 36 = .ok (.if_icmp .ge 46, 3) := by decide +kernel
theorem dX4_digest_39 : decode cX4_digest 39 = .ok (.iconst 0, 1) := by decide +kernel
theorem dX4_digest_40 : decode cX4_digest 40 = .ok (.istore 4, 2) := by decide +kernel
theorem dX4_digest_42 : decode cX4_digest 42 = .ok (.iload 4, 2) := by decide +kernel
theorem dX4_digest_44 : decode cX4_digest 44 = .ok (.iconst 4, 1) := by decide +kernel
theorem dX4_digest_45 : decode cX4_digest 45 = .ok (.if_icmp .ge 31, 3) := by decide +kernel
theorem dX4_digest_48 : decode cX4_digest 48 = .ok (.lload_n 1, 1) := by decide +kernel
theorem dX4_digest_49 : decode cX4_digest 49 = .ok (.ldc2_w 144, 3) := by decide +kernel
theorem dX4_digest_52 : decode cX4_digest 52 = .ok (.lmul, 1) := by decide +kernel
theorem dX4_digest_53 : decode cX4_digest 53 = .ok (.aload_n 0, 1) := by decide +kernel
theorem dX4_digest_54 : decode cX4_digest 54 = .ok (.getfield 12, 3) := by decide +kernel
theorem dX4_digest_57 : decode cX4_digest 57 = .ok (.getfield 72, 3) := by decide +kernel
theorem dX4_digest_60 : decode cX4_digest 60 = .ok (.iload_n 3, 1) := by decide +kernel
theorem dX4_digest_61 : decode cX4_digest 61 = .ok (.aaload, 1) := by decide +kernel
theorem dX4_digest_62 : decode cX4_digest 62 = .ok (.iload 4, 2) := by decide +kernel
theorem dX4_digest_64 : decode cX4_digest 64 = .ok (.invokevirtual 122, 3) := by decide +kernel
theorem dX4_digest_67 : decode cX4_digest 67 = .ok (.i2l, 1) := by decide +kernel
theorem dX4_digest_68 : decode cX4_digest 68 = .ok (.ladd, 1) := by decide +kernel
theorem dX4_digest_69 : decode cX4_digest 69 = .ok (.lstore_n 1, 1) := by decide +kernel
theorem dX4_digest_70 : decode cX4_digest 70 = .ok (.iinc 4 1, 3) := by decide +kernel
theorem dX4_digest_73 : decode cX4_digest 73 = .ok (.goto (-31), 3) := by decide +kernel
theorem dX4_digest_76 : decode cX4_digest 76 = .ok (.iinc 3 1, 3) := by decide +kernel
theorem dX4_digest_79 : decode cX4_digest 79 = .ok (.goto (-46), 3) := by decide +kernel
theorem dX4_digest_82 : decode cX4_digest 82 = .ok (.iconst 0, 1) := by decide +kernel
theorem dX4_digest_83 : decode cX4_digest 83 = .ok (.istore_n 3, 1) := by decide +kernel
theorem dX4_digest_84 : decode cX4_digest 84 = .ok (.iload_n 3, 1) := by decide +kernel
theorem dX4_digest_85 : decode cX4_digest 85 = .ok (.aload_n 0, 1) := by decide +kernel
theorem dX4_digest_86 : decode cX4_digest 86 = .ok (.getfield 88, 3) := by decide +kernel
theorem dX4_digest_89 : decode cX4_digest 89 = .ok (.if_icmp .ge 20, 3) := by decide +kernel
theorem dX4_digest_92 : decode cX4_digest 92 = .ok (.aload_n 0, 1) := by decide +kernel
theorem dX4_digest_93 : decode cX4_digest 93 = .ok (.getfield 29, 3) := by decide +kernel
theorem dX4_digest_96 : decode cX4_digest 96 = .ok (.iload_n 3, 1) := by decide +kernel
theorem dX4_digest_97 : decode cX4_digest 97 = .ok (.aaload, 1) := by decide +kernel
theorem dX4_digest_98 : decode cX4_digest 98 = .ok (.lload_n 1, 1) := by decide +kernel
theorem dX4_digest_99 : decode cX4_digest 99 = .ok (.invokevirtual 146, 3) := by decide +kernel
theorem dX4_digest_102 : decode cX4_digest 102 = .ok (.lstore_n 1, 1) := by decide +kernel
theorem dX4_digest_103 : decode cX4_digest 103 = .ok (.iinc 3 1, 3) := by decide +kernel
theorem dX4_digest_106 : decode cX4_digest 106 = .ok (.goto (-22), 3) := by decide +kernel
theorem dX4_digest_109 : decode cX4_digest 109 = .ok (.lload_n 1, 1) := by decide +kernel
theorem dX4_digest_110 : decode cX4_digest 110 = .ok (.lreturn, 1) := by decide +kernel
theorem dX4_isWithin_0 : decode cX4_isWithin 0 = .ok (.iload_n 0, 1) := by decide +kernel
theorem dX4_isWithin_1 : decode cX4_isWithin 1 = .ok (.iload_n 1, 1) := by decide +kernel
theorem dX4_isWithin_2 : decode cX4_isWithin 2 = .ok (.if_icmp .lt 12, 3) := by decide +kernel
theorem dX4_isWithin_5 : decode cX4_isWithin 5 = .ok (.iload_n 0, 1) := by decide +kernel
theorem dX4_isWithin_6 : decode cX4_isWithin 6 = .ok (.iload_n 2, 1) := by decide +kernel
theorem dX4_isWithin_7 : decode cX4_isWithin 7 = .ok (.if_icmp .gt 7, 3) := by decide +kernel
theorem dX4_isWithin_10 : decode cX4_isWithin 10 = .ok (.iconst 1, 1) := by decide +kernel
theorem dX4_isWithin_11 : decode cX4_isWithin 11 = .ok (.goto 4, 3) := by decide +kernel
theorem dX4_isWithin_14 : decode cX4_isWithin 14 = .ok (.iconst 0, 1) := by decide +kernel
theorem dX4_isWithin_15 : decode cX4_isWithin 15 = .ok (.ireturn, 1) := by decide +kernel
set_option maxRecDepth 20000 in
theorem ggX4_checkPin_X4_isWithin : GoodIn wsX4_checkPin wsX4_isWithin := goodIn_r _ [6] (by decide +kernel) (by decide +kernel)
set_option maxRecDepth 20000 in
theorem gX4_checkPin_X4_isWithin : GoodIn wsX4_checkPin (va_wsS RX4 34 yX4_isWithin wsX4_isWithin) := goodIn_app (goodIn_of _ (by decide +kernel)) ggX4_checkPin_X4_isWithin
theorem dX4_checkPin_0 : decode cX4_checkPin 0 = .ok (.iload_n 0, 1) := by decide +kernel
theorem dX4_checkPin_1 : decode cX4_checkPin 1 = .ok (.iconst 0, 1) := by decide +kernel
theorem dX4_checkPin_2 : decode cX4_checkPin 2 = .ok (.bipush 6, 2) := by decide +kernel
theorem dX4_checkPin_4 : decode cX4_checkPin 4 = .ok (.invokestatic 34, 3) := by decide +kernel
theorem dX4_checkPin_7 : decode cX4_checkPin 7 = .ok (.ifCond .ne 13, 3) := by decide +kernel
theorem dX4_checkPin_10 : decode cX4_checkPin 10 = .ok (.new 150, 3) := by decide +kernel
theorem dX4_checkPin_13 : decode cX4_checkPin 13 = .ok (.dup, 1) := by decide +kernel
theorem dX4_checkPin_14 : decode cX4_checkPin 14 = .ok (.ldc 152, 2) := by decide +kernel
theorem dX4_checkPin_16 : decode cX4_checkPin 16 = .ok (.invokespecial 154, 3) := by decide +kernel
theorem dX4_checkPin_19 : decode cX4_checkPin 19 = .ok (.athrow, 1) := by decide +kernel
theorem dX4_checkPin_20 : decode cX4_checkPin 20 = .ok (.return_, 1) := by decide +kernel
set_option maxRecDepth 20000 in
theorem ggX4_checkPlace_X4_isWithin : GoodIn wsX4_checkPlace wsX4_isWithin := goodIn_r _ [6] (by decide +kernel) (by decide +kernel)
set_option maxRecDepth 20000 in
theorem gX4_checkPlace_X4_isWithin : GoodIn wsX4_checkPlace (va_wsS RX4 34 yX4_isWithin wsX4_isWithin) := goodIn_app (goodIn_of _ (by decide +kernel)) ggX4_checkPlace_X4_isWithin
theorem dX4_checkPlace_0 : decode cX4_checkPlace 0 = .ok (.iload_n 0, 1) := by decide +kernel
theorem dX4_checkPlace_1 : decode cX4_checkPlace 1 = .ok (.iconst 0, 1) := by decide +kernel
theorem dX4_checkPlace_2 : decode cX4_checkPlace 2 = .ok (.iconst 4, 1) := by decide +kernel
theorem dX4_checkPlace_3 : decode cX4_checkPlace 3 = .ok (.invokestatic 34, 3) := by decide +kernel
theorem dX4_checkPlace_6 : decode cX4_checkPlace 6 = .ok (.ifCond .eq 12, 3) := by decide +kernel
theorem dX4_checkPlace_9 : decode cX4_checkPlace 9 = .ok (.iload_n 1, 1) := by decide +kernel
theorem dX4_checkPlace_10 : decode cX4_checkPlace 10 = .ok (.iconst 0, 1) := by decide +kernel
theorem dX4_checkPlace_11 : decode cX4_checkPlace 11 = .ok (.iconst 5, 1) := by decide +kernel
theorem dX4_checkPlace_12 : decode cX4_checkPlace 12 = .ok (.invokestatic 34, 3) := by decide +kernel
theorem dX4_checkPlace_15 : decode cX4_checkPlace 15 = .ok (.ifCond .ne 13, 3) := by decide +kernel
theorem dX4_checkPlace_18 : decode cX4_checkPlace 18 = .ok (.new 150, 3) := by decide +kernel
theorem dX4_checkPlace_21 : decode cX4_checkPlace 21 = .ok (.dup, 1) := by decide +kernel
theorem dX4_checkPlace_22 : decode cX4_checkPlace 22 = .ok (.ldc 155, 2) := by decide +kernel
theorem dX4_checkPlace_24 : decode cX4_checkPlace 24 = .ok (.invokespecial 154, 3) := by decide +kernel
theorem dX4_checkPlace_27 : decode cX4_checkPlace 27 = .ok (.athrow, 1) := by decide +kernel
theorem dX4_checkPlace_28 : decode cX4_checkPlace 28 = .ok (.return_, 1) := by decide +kernel
set_option maxRecDepth 20000 in
theorem ggX4_checkSheet_X4_isWithin : GoodIn wsX4_checkSheet wsX4_isWithin := goodIn_r _ [7] (by decide +kernel) (by decide +kernel)
set_option maxRecDepth 20000 in
theorem gX4_checkSheet_X4_isWithin : GoodIn wsX4_checkSheet (va_wsS RX4 34 yX4_isWithin wsX4_isWithin) := goodIn_app (goodIn_of _ (by decide +kernel)) ggX4_checkSheet_X4_isWithin
theorem dX4_checkSheet_0 : decode cX4_checkSheet 0 = .ok (.iload_n 1, 1) := by decide +kernel
theorem dX4_checkSheet_1 : decode cX4_checkSheet 1 = .ok (.iconst 0, 1) := by decide +kernel
theorem dX4_checkSheet_2 : decode cX4_checkSheet 2 = .ok (.aload_n 0, 1) := by decide +kernel
theorem dX4_checkSheet_3 : decode cX4_checkSheet 3 = .ok (.getfield 88, 3) := by decide +kernel
theorem dX4_checkSheet_6 : decode cX4_checkSheet 6 = .ok (.iconst 1, 1) := by decide +kernel
theorem dX4_checkSheet_7 : decode cX4_checkSheet 7 = .ok (.isub, 1) := by decide +kernel
theorem dX4_checkSheet_8 : decode cX4_checkSheet 8 = .ok (.invokestatic 34, 3) := by decide +kernel
theorem dX4_checkSheet_11 : decode cX4_checkSheet 11 = .ok (.ifCond .ne 13, 3) := by decide +kernel
theorem dX4_checkSheet_14 : decode cX4_checkSheet 14 = .ok (.new 150, 3) := by decide +kernel
theorem dX4_checkSheet_17 : decode cX4_checkSheet 17 = .ok (.dup, 1) := by decide +kernel
theorem dX4_checkSheet_18 : decode cX4_checkSheet 18 = .ok (.ldc 157, 2) := by decide +kernel
theorem dX4_checkSheet_20 : decode cX4_checkSheet 20 = .ok (.invokespecial 154, 3) := by decide +kernel
theorem dX4_checkSheet_23 : decode cX4_checkSheet 23 = .ok (.athrow, 1) := by decide +kernel
theorem dX4_checkSheet_24 : decode cX4_checkSheet 24 = .ok (.return_, 1) := by decide +kernel
set_option maxRecDepth 20000 in
theorem ggX4_checkWhat_X4_isWithin : GoodIn wsX4_checkWhat wsX4_isWithin := goodIn_r _ [6] (by decide +kernel) (by decide +kernel)
set_option maxRecDepth 20000 in
theorem gX4_checkWhat_X4_isWithin : GoodIn wsX4_checkWhat (va_wsS RX4 34 yX4_isWithin wsX4_isWithin) := goodIn_app (goodIn_of _ (by decide +kernel)) ggX4_checkWhat_X4_isWithin
theorem dX4_checkWhat_0 : decode cX4_checkWhat 0 = .ok (.iload_n 0, 1) := by decide +kernel
theorem dX4_checkWhat_1 : decode cX4_checkWhat 1 = .ok (.iconst 0, 1) := by decide +kernel
theorem dX4_checkWhat_2 : decode cX4_checkWhat 2 = .ok (.iload_n 1, 1) := by decide +kernel
theorem dX4_checkWhat_3 : decode cX4_checkWhat 3 = .ok (.iconst 1, 1) := by decide +kernel
theorem dX4_checkWhat_4 : decode cX4_checkWhat 4 = .ok (.isub, 1) := by decide +kernel
theorem dX4_checkWhat_5 : decode cX4_checkWhat 5 = .ok (.invokestatic 34, 3) := by decide +kernel
theorem dX4_checkWhat_8 : decode cX4_checkWhat 8 = .ok (.ifCond .ne 13, 3) := by decide +kernel
theorem dX4_checkWhat_11 : decode cX4_checkWhat 11 = .ok (.new 150, 3) := by decide +kernel
theorem dX4_checkWhat_14 : decode cX4_checkWhat 14 = .ok (.dup, 1) := by decide +kernel
theorem dX4_checkWhat_15 : decode cX4_checkWhat 15 = .ok (.ldc 159, 2) := by decide +kernel
theorem dX4_checkWhat_17 : decode cX4_checkWhat 17 = .ok (.invokespecial 154, 3) := by decide +kernel
theorem dX4_checkWhat_20 : decode cX4_checkWhat 20 = .ok (.athrow, 1) := by decide +kernel
theorem dX4_checkWhat_21 : decode cX4_checkWhat 21 = .ok (.return_, 1) := by decide +kernel
set_option maxRecDepth 20000 in
theorem ggX4_checkSheetsToRun_X4_isWithin : GoodIn wsX4_checkSheetsToRun wsX4_isWithin := goodIn_r _ [6] (by decide +kernel) (by decide +kernel)
set_option maxRecDepth 20000 in
theorem gX4_checkSheetsToRun_X4_isWithin : GoodIn wsX4_checkSheetsToRun (va_wsS RX4 34 yX4_isWithin wsX4_isWithin) := goodIn_app (goodIn_of _ (by decide +kernel)) ggX4_checkSheetsToRun_X4_isWithin
theorem dX4_checkSheetsToRun_0 : decode cX4_checkSheetsToRun 0 = .ok (.iload_n 0, 1) := by decide +kernel
theorem dX4_checkSheetsToRun_1 : decode cX4_checkSheetsToRun 1 = .ok (.iconst 1, 1) := by decide +kernel
theorem dX4_checkSheetsToRun_2 : decode cX4_checkSheetsToRun 2 = .ok (.bipush 20, 2) := by decide +kernel
theorem dX4_checkSheetsToRun_4 : decode cX4_checkSheetsToRun 4 = .ok (.invokestatic 34, 3) := by decide +kernel
theorem dX4_checkSheetsToRun_7 : decode cX4_checkSheetsToRun 7 = .ok (.ifCond .ne 13, 3) := by decide +kernel
theorem dX4_checkSheetsToRun_10 : decode cX4_checkSheetsToRun 10 = .ok (.new 38, 3) := by decide +kernel
theorem dX4_checkSheetsToRun_13 : decode cX4_checkSheetsToRun 13 = .ok (.dup, 1) := by decide +kernel
theorem dX4_checkSheetsToRun_14 : decode cX4_checkSheetsToRun 14 = .ok (.ldc 161, 2) := by decide +kernel
theorem dX4_checkSheetsToRun_16 : decode cX4_checkSheetsToRun 16 = .ok (.invokespecial 42, 3) := by decide +kernel
theorem dX4_checkSheetsToRun_19 : decode cX4_checkSheetsToRun 19 = .ok (.athrow, 1) := by decide +kernel
theorem dX4_checkSheetsToRun_20 : decode cX4_checkSheetsToRun 20 = .ok (.return_, 1) := by decide +kernel
set_option maxRecDepth 20000 in
theorem ggX4_countAnswer_X0_brokenPins : GoodIn wsX4_countAnswer wsX0_brokenPins := goodIn_r _ [7, 8, 9, 10, 11, 12, 13, 14, 15, 43, 44, 45, 46, 47, 48, 49, 50, 51] (by decide +kernel) (by decide +kernel)
set_option maxRecDepth 20000 in
theorem gX4_countAnswer_X0_brokenPins : GoodIn wsX4_countAnswer (wsV RX4 163 RX0 yX0_brokenPins wsX0_brokenPins) := goodIn_app (goodIn_of _ (by decide +kernel)) ggX4_countAnswer_X0_brokenPins
set_option maxRecDepth 20000 in
theorem ggX4_countAnswer_X4_invertedPlaces : GoodIn wsX4_countAnswer wsX4_invertedPlaces := goodIn_r _ [20, 21, 38, 39, 40, 41, 42] (by decide +kernel) (by decide +kernel)
set_option maxRecDepth 20000 in
theorem gX4_countAnswer_X4_invertedPlaces : GoodIn wsX4_countAnswer (wsV RX4 167 RX4 yX4_invertedPlaces wsX4_invertedPlaces) := goodIn_app (goodIn_of _ (by decide +kernel)) ggX4_countAnswer_X4_invertedPlaces
set_option maxRecDepth 20000 in
theorem ggX4_countAnswer_X4_worthOfSheets : GoodIn wsX4_countAnswer wsX4_worthOfSheets := goodIn_r _ [25, 1, 26, 27, 28, 29, 30, 31, 32, 33, 34, 35, 36, 37, 38, 39, 40, 41, 42, 52, 53] (by decide +kernel) (by decide +kernel)
set_option maxRecDepth 20000 in
theorem gX4_countAnswer_X4_worthOfSheets : GoodIn wsX4_countAnswer (wsV RX4 170 RX4 yX4_worthOfSheets wsX4_worthOfSheets) := goodIn_app (goodIn_of _ (by decide +kernel)) ggX4_countAnswer_X4_worthOfSheets
theorem dX4_countAnswer_0 : decode cX4_countAnswer 0 = .ok (.iload_n 1, 1) := by decide +kernel
theorem dX4_countAnswer_1 : decode cX4_countAnswer 1 = .ok (.tableswitch 117 0 8 #[51, 56, 64, 72, 80, 88, 96, 104, 112], 51) := by decide +kernel
theorem dX4_countAnswer_52 : decode cX4_countAnswer 52 = .ok (.aload_n 0, 1) := by decide +kernel
theorem dX4_countAnswer_53 : decode cX4_countAnswer 53 = .ok (.getfield 88, 3) := by decide +kernel
theorem dX4_countAnswer_56 : decode cX4_countAnswer 56 = .ok (.ireturn, 1) := by decide +kernel
theorem dX4_countAnswer_57 : decode cX4_countAnswer 57 = .ok (.aload_n 0, 1) := by decide +kernel
theorem dX4_countAnswer_58 : decode cX4_countAnswer 58 = .ok (.getfield 12, 3) := by decide +kernel
theorem dX4_countAnswer_61 : decode cX4_countAnswer 61 = .ok (.getfield 45, 3) := by decide +kernel
theorem dX4_countAnswer_64 : decode cX4_countAnswer 64 = .ok (.ireturn, 1) := by decide +kernel
theorem dX4_countAnswer_65 : decode cX4_countAnswer 65 = .ok (.aload_n 0, 1) := by decide +kernel
theorem dX4_countAnswer_66 : decode cX4_countAnswer 66 = .ok (.getfield 12, 3) := by decide +kernel
theorem dX4_countAnswer_69 : decode cX4_countAnswer 69 = .ok (.getfield 49, 3) := by decide +kernel
theorem dX4_countAnswer_72 : decode cX4_countAnswer 72 = .ok (.ireturn, 1) := by decide +kernel
theorem dX4_countAnswer_73 : decode cX4_countAnswer 73 = .ok (.aload_n 0, 1) := by decide +kernel
theorem dX4_countAnswer_74 : decode cX4_countAnswer 74 = .ok (.getfield 12, 3) := by decide +kernel
theorem dX4_countAnswer_77 : decode cX4_countAnswer 77 = .ok (.getfield 52, 3) := by decide +kernel
theorem dX4_countAnswer_80 : decode cX4_countAnswer 80 = .ok (.ireturn, 1) := by decide +kernel
theorem dX4_countAnswer_81 : decode cX4_countAnswer 81 = .ok (.aload_n 0, 1) := by decide +kernel
theorem dX4_countAnswer_82 : decode cX4_countAnswer 82 = .ok (.getfield 12, 3) := by decide +kernel
theorem dX4_countAnswer_85 : decode cX4_countAnswer 85 = .ok (.getfield 57, 3) := by decide +kernel
theorem dX4_countAnswer_88 : decode cX4_countAnswer 88 = .ok (.ireturn, 1) := by decide +kernel
theorem dX4_countAnswer_89 : decode cX4_countAnswer 89 = .ok (.aload_n 0, 1) := by decide +kernel
theorem dX4_countAnswer_90 : decode cX4_countAnswer 90 = .ok (.getfield 12, 3) := by decide +kernel
theorem dX4_countAnswer_93 : decode cX4_countAnswer 93 = .ok (.getfield 63, 3) := by decide +kernel
theorem dX4_countAnswer_96 : decode cX4_countAnswer 96 = .ok (.ireturn, 1) := by decide +kernel
theorem dX4_countAnswer_97 : decode cX4_countAnswer 97 = .ok (.aload_n 0, 1) := by decide +kernel
theorem dX4_countAnswer_98 : decode cX4_countAnswer 98 = .ok (.getfield 12, 3) := by decide +kernel
theorem dX4_countAnswer_101 : decode cX4_countAnswer 101 = .ok (.getfield 60, 3) := by decide +kernel
theorem dX4_countAnswer_104 : decode cX4_countAnswer 104 = .ok (.ireturn, 1) := by decide +kernel
theorem dX4_countAnswer_105 : decode cX4_countAnswer 105 = .ok (.aload_n 0, 1) := by decide +kernel
theorem dX4_countAnswer_106 : decode cX4_countAnswer 106 = .ok (.getfield 12, 3) := by decide +kernel
theorem dX4_countAnswer_109 : decode cX4_countAnswer 109 = .ok (.invokevirtual 163, 3) := by decide +kernel
theorem dX4_countAnswer_112 : decode cX4_countAnswer 112 = .ok (.ireturn, 1) := by decide +kernel
theorem dX4_countAnswer_113 : decode cX4_countAnswer 113 = .ok (.aload_n 0, 1) := by decide +kernel
theorem dX4_countAnswer_114 : decode cX4_countAnswer 114 = .ok (.invokevirtual 167, 3) := by decide +kernel
theorem dX4_countAnswer_117 : decode cX4_countAnswer 117 = .ok (.ireturn, 1) := by decide +kernel
theorem dX4_countAnswer_118 : decode cX4_countAnswer 118 = .ok (.aload_n 0, 1) := by decide +kernel
theorem dX4_countAnswer_119 : decode cX4_countAnswer 119 = .ok (.invokevirtual 170, 3) := by decide +kernel
theorem dX4_countAnswer_122 : decode cX4_countAnswer 122 = .ok (.ireturn, 1) := by decide +kernel
theorem dX4_invertedPlaces_0 : decode cX4_invertedPlaces 0 = .ok (.iconst 0, 1) := by decide +kernel
theorem dX4_invertedPlaces_1 : decode cX4_invertedPlaces 1 = .ok (.istore_n 1, 1) := by decide +kernel
theorem dX4_invertedPlaces_2 : decode cX4_invertedPlaces 2 = .ok (.iconst 0, 1) := by decide +kernel
theorem dX4_invertedPlaces_3 : decode cX4_invertedPlaces 3 = .ok (.istore_n 2, 1) := by decide +kernel
theorem dX4_invertedPlaces_4 : decode cX4_invertedPlaces 4 = .ok (.iload_n 2, 1) := by decide +kernel
theorem dX4_invertedPlaces_5 : decode cX4_invertedPlaces 5 = .ok (.bipush 30, 2) := by decide +kernel
theorem dX4_invertedPlaces_7 : decode cX4_invertedPlaces 7 = .ok (.if_icmp .ge 21, 3) := by decide +kernel
theorem dX4_invertedPlaces_10 : decode cX4_invertedPlaces 10 = .ok (.aload_n 0, 1) := by decide +kernel
theorem dX4_invertedPlaces_11 : decode cX4_invertedPlaces 11 = .ok (.getfield 23, 3) := by decide +kernel
theorem dX4_invertedPlaces_14 : decode cX4_invertedPlaces 14 = .ok (.iload_n 2, 1) := by decide +kernel
theorem dX4_invertedPlaces_15 : decode cX4_invertedPlaces 15 = .ok (.baload, 1) := by decide +kernel
theorem dX4_invertedPlaces_16 : decode cX4_invertedPlaces 16 = .ok (.ifCond .eq 6, 3) := by decide +kernel
theorem dX4_invertedPlaces_19 : decode cX4_invertedPlaces 19 = .ok (.iinc 1 1, 3) := by decide +kernel
theorem dX4_invertedPlaces_22 : decode cX4_invertedPlaces 22 = .ok (.iinc 2 1, 3) := by decide +kernel
theorem dX4_invertedPlaces_25 : decode cX4_invertedPlaces 25 = .ok (.goto (-21), 3) := by decide +kernel
theorem dX4_invertedPlaces_28 : decode cX4_invertedPlaces 28 = .ok (.iload_n 1, 1) := by decide +kernel
theorem dX4_invertedPlaces_29 : decode cX4_invertedPlaces 29 = .ok (.ireturn, 1) := by decide +kernel
set_option maxRecDepth 20000 in
theorem ggX4_worthOfSheets_X2_worth : GoodIn wsX4_worthOfSheets wsX2_worth := goodIn_r _ [7, 8, 9, 10, 6, 11, 12, 13, 19, 20] (by decide +kernel) (by decide +kernel)
set_option maxRecDepth 20000 in
theorem gX4_worthOfSheets_X2_worth : GoodIn wsX4_worthOfSheets (wsV RX4 173 RX2 yX2_worth wsX2_worth) := goodIn_app (goodIn_of _ (by decide +kernel)) ggX4_worthOfSheets_X2_worth
theorem dX4_worthOfSheets_0 : decode cX4_worthOfSheets 0 = .ok (.iconst 0, 1) := by decide +kernel
theorem dX4_worthOfSheets_1 : decode cX4_worthOfSheets 1 = .ok (.istore_n 1, 1) := by decide +kernel
theorem dX4_worthOfSheets_2 : decode cX4_worthOfSheets 2 = .ok (.iconst 0, 1) := by decide +kernel
theorem dX4_worthOfSheets_3 : decode cX4_worthOfSheets 3 = .ok (.istore_n 2, 1) := by decide +kernel
theorem dX4_worthOfSheets_4 : decode cX4_worthOfSheets 4 = .ok (.iload_n 2, 1) := by decide +kernel
theorem dX4_worthOfSheets_5 : decode cX4_worthOfSheets 5 = .ok (.aload_n 0, 1) := by decide +kernel
theorem dX4_worthOfSheets_6 : decode cX4_worthOfSheets 6 = .ok (.getfield 88, 3) := by decide +kernel
theorem dX4_worthOfSheets_9 : decode cX4_worthOfSheets 9 = .ok (.if_icmp .ge 21, 3) := by decide +kernel
theorem dX4_worthOfSheets_12 : decode cX4_worthOfSheets 12 = .ok (.iload_n 1, 1) := by decide +kernel
theorem dX4_worthOfSheets_13 : decode cX4_worthOfSheets 13 = .ok (.aload_n 0, 1) := by decide +kernel
theorem dX4_worthOfSheets_14 : decode cX4_worthOfSheets 14 = .ok (.getfield 29, 3) := by decide +kernel
theorem dX4_worthOfSheets_17 : decode cX4_worthOfSheets 17 = .ok (.iload_n 2, 1) := by decide +kernel
theorem dX4_worthOfSheets_18 : decode cX4_worthOfSheets 18 = .ok (.aaload, 1) := by decide +kernel
theorem dX4_worthOfSheets_19 : decode cX4_worthOfSheets 19 = .ok (.invokevirtual 173, 3) := by decide +kernel
theorem dX4_worthOfSheets_22 : decode cX4_worthOfSheets 22 = .ok (.iadd, 1) := by decide +kernel
theorem dX4_worthOfSheets_23 : decode cX4_worthOfSheets 23 = .ok (.istore_n 1, 1) := by decide +kernel
theorem dX4_worthOfSheets_24 : decode cX4_worthOfSheets 24 = .ok (.iinc 2 1, 3) := by decide +kernel
theorem dX4_worthOfSheets_27 : decode cX4_worthOfSheets 27 = .ok (.goto (-23), 3) := by decide +kernel
theorem dX4_worthOfSheets_30 : decode cX4_worthOfSheets 30 = .ok (.iload_n 1, 1) := by decide +kernel
theorem dX4_worthOfSheets_31 : decode cX4_worthOfSheets 31 = .ok (.ireturn, 1) := by decide +kernel
set_option maxRecDepth 20000 in
theorem ggX4_stampsWith_X2_leftWith : GoodIn wsX4_stampsWith wsX2_leftWith := goodIn_r _ [7, 8, 9, 10, 6, 11, 12, 13, 19, 20] (by decide +kernel) (by decide +kernel)
set_option maxRecDepth 20000 in
theorem gX4_stampsWith_X2_leftWith : GoodIn wsX4_stampsWith (wsV RX4 176 RX2 yX2_leftWith wsX2_leftWith) := goodIn_app (goodIn_of _ (by decide +kernel)) ggX4_stampsWith_X2_leftWith
theorem dX4_stampsWith_0 : decode cX4_stampsWith 0 = .ok (.iconst 0, 1) := by decide +kernel
theorem dX4_stampsWith_1 : decode cX4_stampsWith 1 = .ok (.istore_n 2, 1) := by decide +kernel
theorem dX4_stampsWith_2 : decode cX4_stampsWith 2 = .ok (.iconst 0, 1) := by decide +kernel
theorem dX4_stampsWith_3 : decode cX4_stampsWith 3 = .ok (.istore_n 3, 1) := by decide +kernel
theorem dX4_stampsWith_4 : decode cX4_stampsWith 4 = .ok (.iload_n 3, 1) := by decide +kernel
theorem dX4_stampsWith_5 : decode cX4_stampsWith 5 = .ok (.aload_n 0, 1) := by decide +kernel
theorem dX4_stampsWith_6 : decode cX4_stampsWith 6 = .ok (.getfield 88, 3) := by decide +kernel
theorem dX4_stampsWith_9 : decode cX4_stampsWith 9 = .ok (.if_icmp .ge 22, 3) := by decide +kernel
theorem dX4_stampsWith_12 : decode cX4_stampsWith 12 = .ok (.iload_n 2, 1) := by decide +kernel
theorem dX4_stampsWith_13 : decode cX4_stampsWith 13 = .ok (.aload_n 0, 1) := by decide +kernel
theorem dX4_stampsWith_14 : decode cX4_stampsWith 14 = .ok (.getfield 29, 3) := by decide +kernel
theorem dX4_stampsWith_17 : decode cX4_stampsWith 17 = .ok (.iload_n 3, 1) := by decide +kernel
theorem dX4_stampsWith_18 : decode cX4_stampsWith 18 = .ok (.aaload, 1) := by decide +kernel
theorem dX4_stampsWith_19 : decode cX4_stampsWith 19 = .ok (.iload_n 1, 1) := by decide +kernel
theorem dX4_stampsWith_20 : decode cX4_stampsWith 20 = .ok (.invokevirtual 176, 3) := by decide +kernel
theorem dX4_stampsWith_23 : decode cX4_stampsWith 23 = .ok (.iadd, 1) := by decide +kernel
theorem dX4_stampsWith_24 : decode cX4_stampsWith 24 = .ok (.istore_n 2, 1) := by decide +kernel
theorem dX4_stampsWith_25 : decode cX4_stampsWith 25 = .ok (.iinc 3 1, 3) := by decide +kernel
theorem dX4_stampsWith_28 : decode cX4_stampsWith 28 = .ok (.goto (-24), 3) := by decide +kernel
theorem dX4_stampsWith_31 : decode cX4_stampsWith 31 = .ok (.iload_n 2, 1) := by decide +kernel
theorem dX4_stampsWith_32 : decode cX4_stampsWith 32 = .ok (.ireturn, 1) := by decide +kernel
theorem dX5_init_0 : decode cX5_init 0 = .ok (.aload_n 0, 1) := by decide +kernel
theorem dX5_init_1 : decode cX5_init 1 = .ok (.invokespecial 1, 3) := by decide +kernel
theorem dX5_init_4 : decode cX5_init 4 = .ok (.aload_n 0, 1) := by decide +kernel
theorem dX5_init_5 : decode cX5_init 5 = .ok (.sipush 600, 3) := by decide +kernel
theorem dX5_init_8 : decode cX5_init 8 = .ok (.newarray .int, 2) := by decide +kernel
theorem dX5_init_10 : decode cX5_init 10 = .ok (.putfield 9, 3) := by decide +kernel
theorem dX5_init_13 : decode cX5_init 13 = .ok (.aload_n 0, 1) := by decide +kernel
theorem dX5_init_14 : decode cX5_init 14 = .ok (.bipush 6, 2) := by decide +kernel
theorem dX5_init_16 : decode cX5_init 16 = .ok (.newarray .int, 2) := by decide +kernel
theorem dX5_init_18 : decode cX5_init 18 = .ok (.dup, 1) := by decide +kernel
theorem dX5_init_19 : decode cX5_init 19 = .ok (.iconst 0, 1) := by decide +kernel
theorem dX5_init_20 : decode cX5_init 20 = .ok (.bipush 20, 2) := by decide +kernel
theorem dX5_init_22 : decode cX5_init 22 = .ok (.iastore, 1) := by decide +kernel
theorem dX5_init_23 : decode cX5_init 23 = .ok (.dup, 1) := by decide +kernel
theorem dX5_init_24 : decode cX5_init 24 = .ok (.iconst 1, 1) := by decide +kernel
theorem dX5_init_25 : decode cX5_init 25 = .ok (.iconst 0, 1) := by decide +kernel
theorem dX5_init_26 : decode cX5_init 26 = .ok (.iastore, 1) := by decide +kernel
theorem dX5_init_27 : decode cX5_init 27 = .ok (.dup, 1) := by decide +kernel
theorem dX5_init_28 : decode cX5_init 28 = .ok (.iconst 2, 1) := by decide +kernel
theorem dX5_init_29 : decode cX5_init 29 = .ok (.iconst 0, 1) := by decide +kernel
theorem dX5_init_30 : decode cX5_init 30 = .ok (.iastore, 1) := by decide +kernel
theorem dX5_init_31 : decode cX5_init 31 = .ok (.dup, 1) := by decide +kernel
theorem dX5_init_32 : decode cX5_init 32 = .ok (.iconst 3, 1) := by decide +kernel
theorem dX5_init_33 : decode cX5_init 33 = .ok (.iconst 0, 1) := by decide +kernel
theorem dX5_init_34 : decode cX5_init 34 = .ok (.iastore, 1) := by decide +kernel
theorem dX5_init_35 : decode cX5_init 35 = .ok (.dup, 1) := by decide +kernel
theorem dX5_init_36 : decode cX5_init 36 = .ok (.iconst 4, 1) := by decide +kernel
theorem dX5_init_37 : decode cX5_init 37 = .ok (.iconst 1, 1) := by decide +kernel
theorem dX5_init_38 : decode cX5_init 38 = .ok (.iastore, 1) := by decide +kernel
theorem dX5_init_39 : decode cX5_init 39 = .ok (.dup, 1) := by decide +kernel
theorem dX5_init_40 : decode cX5_init 40 = .ok (.iconst 5, 1) := by decide +kernel
theorem dX5_init_41 : decode cX5_init 41 = .ok (.iconst 0, 1) := by decide +kernel
theorem dX5_init_42 : decode cX5_init 42 = .ok (.iastore, 1) := by decide +kernel
theorem dX5_init_43 : decode cX5_init 43 = .ok (.putfield 13, 3) := by decide +kernel
theorem dX5_init_46 : decode cX5_init 46 = .ok (.aload_n 0, 1) := by decide +kernel
theorem dX5_init_47 : decode cX5_init 47 = .ok (.bipush 7, 2) := by decide +kernel
theorem dX5_init_49 : decode cX5_init 49 = .ok (.newarray .int, 2) := by decide +kernel
theorem dX5_init_51 : decode cX5_init 51 = .ok (.putfield 16, 3) := by decide +kernel
theorem dX5_init_54 : decode cX5_init 54 = .ok (.aload_n 0, 1) := by decide +kernel
theorem dX5_init_55 : decode cX5_init 55 = .ok (.bipush 7, 2) := by decide +kernel
theorem dX5_init_57 : decode cX5_init 57 = .ok (.newarray .int, 2) := by decide +kernel
theorem dX5_init_59 : decode cX5_init 59 = .ok (.putfield 19, 3) := by decide +kernel
theorem dX5_init_62 : decode cX5_init 62 = .ok (.aload_n 0, 1) := by decide +kernel
theorem dX5_init_63 : decode cX5_init 63 = .ok (.bipush 30, 2) := by decide +kernel
theorem dX5_init_65 : decode cX5_init 65 = .ok (.newarray .boolean, 2) := by decide +kernel
theorem dX5_init_67 : decode cX5_init 67 = .ok (.putfield 22, 3) := by decide +kernel
theorem dX5_init_70 : decode cX5_init 70 = .ok (.aload_n 0, 1) := by decide +kernel
theorem dX5_init_71 : decode cX5_init 71 = .ok (.bipush 30, 2) := by decide +kernel
theorem dX5_init_73 : decode cX5_init 73 = .ok (.newarray .int, 2) := by decide +kernel
theorem dX5_init_75 : decode cX5_init 75 = .ok (.putfield 26, 3) := by decide +kernel
theorem dX5_init_78 : decode cX5_init 78 = .ok (.iconst 0, 1) := by decide +kernel
theorem dX5_init_79 : decode cX5_init 79 = .ok (.istore_n 1, 1) := by decide +kernel
theorem dX5_init_80 : decode cX5_init 80 = .ok (.iload_n 1, 1) := by decide +kernel
end
section
theorem dX5_init_81 : decode cX5_init 81 = .ok (.bipush 7, 2) := by decide +kernel
theorem dX5_init_83 : decode cX5_init 83 = .ok (.if_icmp .ge 18, 3) := by decide +kernel
theorem dX5_init_86 : decode cX5_init 86 = .ok (.aload_n 0, 1) := by decide +kernel
theorem dX5_init_87 : decode cX5_init 87 = .ok (.getfield 16, 3) := by decide +kernel
theorem dX5_init_90 : decode cX5_init 90 = .ok (.iload_n 1, 1) := by decide +kernel
theorem dX5_init_91 : decode cX5_init 91 = .ok (.sipush 200, 3) := by decide +kernel
theorem dX5_init_94 : decode cX5_init 94 = .ok (.iastore, 1) := by decide +kernel
theorem dX5_init_95 : decode cX5_init 95 = .ok (.iinc 1 1, 3) := by decide +kernel
theorem dX5_init_98 : decode cX5_init 98 = .ok (.goto (-18), 3) := by decide +kernel
theorem dX5_init_101 : decode cX5_init 101 = .ok (.return_, 1) := by decide +kernel
theorem dX5_thrown_0 : decode cX5_thrown 0 = .ok (.aload_n 0, 1) := by decide +kernel
theorem dX5_thrown_1 : decode cX5_thrown 1 = .ok (.getfield 29, 3) := by decide +kernel
theorem dX5_thrown_4 : decode cX5_thrown 4 = .ok (.ireturn, 1) := by decide +kernel
theorem dX5_fail_0 : decode cX5_fail 0 = .ok (.aload_n 0, 1) := by decide +kernel
theorem dX5_fail_1 : decode cX5_fail 1 = .ok (.iload_n 1, 1) := by decide +kernel
theorem dX5_fail_2 : decode cX5_fail 2 = .ok (.putfield 29, 3) := by decide +kernel
theorem dX5_fail_5 : decode cX5_fail 5 = .ok (.iconst 0, 1) := by decide +kernel
theorem dX5_fail_6 : decode cX5_fail 6 = .ok (.ireturn, 1) := by decide +kernel
theorem dX5_isIn_0 : decode cX5_isIn 0 = .ok (.iload_n 0, 1) := by decide +kernel
theorem dX5_isIn_1 : decode cX5_isIn 1 = .ok (.iload_n 1, 1) := by decide +kernel
theorem dX5_isIn_2 : decode cX5_isIn 2 = .ok (.if_icmp .lt 12, 3) := by decide +kernel
theorem dX5_isIn_5 : decode cX5_isIn 5 = .ok (.iload_n 0, 1) := by decide +kernel
theorem dX5_isIn_6 : decode cX5_isIn 6 = .ok (.iload_n 2, 1) := by decide +kernel
theorem dX5_isIn_7 : decode cX5_isIn 7 = .ok (.if_icmp .gt 7, 3) := by decide +kernel
theorem dX5_isIn_10 : decode cX5_isIn 10 = .ok (.iconst 1, 1) := by decide +kernel
theorem dX5_isIn_11 : decode cX5_isIn 11 = .ok (.goto 4, 3) := by decide +kernel
theorem dX5_isIn_14 : decode cX5_isIn 14 = .ok (.iconst 0, 1) := by decide +kernel
theorem dX5_isIn_15 : decode cX5_isIn 15 = .ok (.ireturn, 1) := by decide +kernel
set_option maxRecDepth 20000 in
theorem ggX5_isSheet_X5_isIn : GoodIn wsX5_isSheet wsX5_isIn := goodIn_r _ [5] (by decide +kernel) (by decide +kernel)
set_option maxRecDepth 20000 in
theorem gX5_isSheet_X5_isIn : GoodIn wsX5_isSheet (va_wsS RX5 36 yX5_isIn wsX5_isIn) := goodIn_app (goodIn_of _ (by decide +kernel)) ggX5_isSheet_X5_isIn
theorem dX5_isSheet_0 : decode cX5_isSheet 0 = .ok (.iload_n 1, 1) := by decide +kernel
theorem dX5_isSheet_1 : decode cX5_isSheet 1 = .ok (.iconst 0, 1) := by decide +kernel
theorem dX5_isSheet_2 : decode cX5_isSheet 2 = .ok (.aload_n 0, 1) := by decide +kernel
theorem dX5_isSheet_3 : decode cX5_isSheet 3 = .ok (.getfield 33, 3) := by decide +kernel
theorem dX5_isSheet_6 : decode cX5_isSheet 6 = .ok (.iconst 1, 1) := by decide +kernel
theorem dX5_isSheet_7 : decode cX5_isSheet 7 = .ok (.isub, 1) := by decide +kernel
theorem dX5_isSheet_8 : decode cX5_isSheet 8 = .ok (.invokestatic 36, 3) := by decide +kernel
theorem dX5_isSheet_11 : decode cX5_isSheet 11 = .ok (.ireturn, 1) := by decide +kernel
set_option maxRecDepth 20000 in
theorem ggX5_isPlace_X5_isIn : GoodIn wsX5_isPlace wsX5_isIn := goodIn_r _ [4] (by decide +kernel) (by decide +kernel)
set_option maxRecDepth 20000 in
theorem gX5_isPlace_X5_isIn : GoodIn wsX5_isPlace (va_wsS RX5 36 yX5_isIn wsX5_isIn) := goodIn_app (goodIn_of _ (by decide +kernel)) ggX5_isPlace_X5_isIn
theorem dX5_isPlace_0 : decode cX5_isPlace 0 = .ok (.iload_n 0, 1) := by decide +kernel
theorem dX5_isPlace_1 : decode cX5_isPlace 1 = .ok (.iconst 0, 1) := by decide +kernel
theorem dX5_isPlace_2 : decode cX5_isPlace 2 = .ok (.iconst 4, 1) := by decide +kernel
theorem dX5_isPlace_3 : decode cX5_isPlace 3 = .ok (.invokestatic 36, 3) := by decide +kernel
theorem dX5_isPlace_6 : decode cX5_isPlace 6 = .ok (.ifCond .eq 16, 3) := by decide +kernel
theorem dX5_isPlace_9 : decode cX5_isPlace 9 = .ok (.iload_n 1, 1) := by decide +kernel
theorem dX5_isPlace_10 : decode cX5_isPlace 10 = .ok (.iconst 0, 1) := by decide +kernel
theorem dX5_isPlace_11 : decode cX5_isPlace 11 = .ok (.iconst 5, 1) := by decide +kernel
theorem dX5_isPlace_12 : decode cX5_isPlace 12 = .ok (.invokestatic 36, 3) := by decide +kernel
theorem dX5_isPlace_15 : decode cX5_isPlace 15 = .ok (.ifCond .eq 7, 3) := by decide +kernel
theorem dX5_isPlace_18 : decode cX5_isPlace 18 = .ok (.iconst 1, 1) := by decide +kernel
theorem dX5_isPlace_19 : decode cX5_isPlace 19 = .ok (.goto 4, 3) := by decide +kernel
theorem dX5_isPlace_22 : decode cX5_isPlace 22 = .ok (.iconst 0, 1) := by decide +kernel
theorem dX5_isPlace_23 : decode cX5_isPlace 23 = .ok (.ireturn, 1) := by decide +kernel
theorem dX5_isWhole_0 : decode cX5_isWhole 0 = .ok (.aload_n 0, 1) := by decide +kernel
theorem dX5_isWhole_1 : decode cX5_isWhole 1 = .ok (.getfield 19, 3) := by decide +kernel
theorem dX5_isWhole_4 : decode cX5_isWhole 4 = .ok (.iload_n 1, 1) := by decide +kernel
theorem dX5_isWhole_5 : decode cX5_isWhole 5 = .ok (.iaload, 1) := by decide +kernel
theorem dX5_isWhole_6 : decode cX5_isWhole 6 = .ok (.aload_n 0, 1) := by decide +kernel
theorem dX5_isWhole_7 : decode cX5_isWhole 7 = .ok (.getfield 16, 3) := by decide +kernel
theorem dX5_isWhole_10 : decode cX5_isWhole 10 = .ok (.iload_n 1, 1) := by decide +kernel
theorem dX5_isWhole_11 : decode cX5_isWhole 11 = .ok (.iaload, 1) := by decide +kernel
theorem dX5_isWhole_12 : decode cX5_isWhole 12 = .ok (.if_icmp .gt 7, 3) := by decide +kernel
theorem dX5_isWhole_15 : decode cX5_isWhole 15 = .ok (.iconst 1, 1) := by decide +kernel
theorem dX5_isWhole_16 : decode cX5_isWhole 16 = .ok (.goto 4, 3) := by decide +kernel
theorem dX5_isWhole_19 : decode cX5_isWhole 19 = .ok (.iconst 0, 1) := by decide +kernel
theorem dX5_isWhole_20 : decode cX5_isWhole 20 = .ok (.ireturn, 1) := by decide +kernel
set_option maxRecDepth 20000 in
theorem ggX5_setFeed_X5_isIn : GoodIn wsX5_setFeed wsX5_isIn := goodIn_r _ [6] (by decide +kernel) (by decide +kernel)
set_option maxRecDepth 20000 in
theorem gX5_setFeed_X5_isIn : GoodIn wsX5_setFeed (va_wsS RX5 36 yX5_isIn wsX5_isIn) := goodIn_app (goodIn_of _ (by decide +kernel)) ggX5_setFeed_X5_isIn
set_option maxRecDepth 20000 in
theorem ggX5_setFeed_X5_fail : GoodIn wsX5_setFeed wsX5_fail := goodIn_r _ [10, 1, 11, 12, 13, 14, 15, 16, 17, 18] (by decide +kernel) (by decide +kernel)
set_option maxRecDepth 20000 in
theorem gX5_setFeed_X5_fail : GoodIn wsX5_setFeed (wsV RX5 40 RX5 yX5_fail wsX5_fail) := goodIn_app (goodIn_of _ (by decide +kernel)) ggX5_setFeed_X5_fail
theorem dX5_setFeed_0 : decode cX5_setFeed 0 = .ok (.aload_n 0, 1) := by decide +kernel
theorem dX5_setFeed_1 : decode cX5_setFeed 1 = .ok (.iconst 0, 1) := by decide +kernel
theorem dX5_setFeed_2 : decode cX5_setFeed 2 = .ok (.putfield 29, 3) := by decide +kernel
theorem dX5_setFeed_5 : decode cX5_setFeed 5 = .ok (.iload_n 1, 1) := by decide +kernel
theorem dX5_setFeed_6 : decode cX5_setFeed 6 = .ok (.bipush 10, 2) := by decide +kernel
theorem dX5_setFeed_8 : decode cX5_setFeed 8 = .ok (.bipush 30, 2) := by decide +kernel
theorem dX5_setFeed_10 : decode cX5_setFeed 10 = .ok (.invokestatic 36, 3) := by decide +kernel
theorem dX5_setFeed_13 : decode cX5_setFeed 13 = .ok (.ifCond .eq 14, 3) := by decide +kernel
theorem dX5_setFeed_16 : decode cX5_setFeed 16 = .ok (.iload_n 2, 1) := by decide +kernel
theorem dX5_setFeed_17 : decode cX5_setFeed 17 = .ok (.bipush (-9), 2) := by decide +kernel
theorem dX5_setFeed_19 : decode cX5_setFeed 19 = .ok (.bipush 9, 2) := by decide +kernel
theorem dX5_setFeed_21 : decode cX5_setFeed 21 = .ok (.invokestatic 36, 3) := by decide +kernel
theorem dX5_setFeed_24 : decode cX5_setFeed 24 = .ok (.ifCond .ne 9, 3) := by decide +kernel
theorem dX5_setFeed_27 : decode cX5_setFeed 27 = .ok (.aload_n 0, 1) := by decide +kernel
theorem dX5_setFeed_28 : decode cX5_setFeed 28 = .ok (.iconst 1, 1) := by decide +kernel
theorem dX5_setFeed_29 : decode cX5_setFeed 29 = .ok (.invokevirtual 40, 3) := by decide +kernel
theorem dX5_setFeed_32 : decode cX5_setFeed 32 = .ok (.ireturn, 1) := by decide +kernel
theorem dX5_setFeed_33 : decode cX5_setFeed 33 = .ok (.bipush 100, 2) := by decide +kernel
theorem dX5_setFeed_35 : decode cX5_setFeed 35 = .ok (.aload_n 0, 1) := by decide +kernel
theorem dX5_setFeed_36 : decode cX5_setFeed 36 = .ok (.getfield 13, 3) := by decide +kernel
theorem dX5_setFeed_39 : decode cX5_setFeed 39 = .ok (.iconst 0, 1) := by decide +kernel
theorem dX5_setFeed_40 : decode cX5_setFeed 40 = .ok (.iaload, 1) := by decide +kernel
theorem dX5_setFeed_41 : decode cX5_setFeed 41 = .ok (.imul, 1) := by decide +kernel
theorem dX5_setFeed_42 : decode cX5_setFeed 42 = .ok (.aload_n 0, 1) := by decide +kernel
theorem dX5_setFeed_43 : decode cX5_setFeed 43 = .ok (.getfield 13, 3) := by decide +kernel
theorem dX5_setFeed_46 : decode cX5_setFeed 46 = .ok (.iconst 1, 1) := by decide +kernel
theorem dX5_setFeed_47 : decode cX5_setFeed 47 = .ok (.iaload, 1) := by decide +kernel
theorem dX5_setFeed_48 : decode cX5_setFeed 48 = .ok (.iadd, 1) := by decide +kernel
theorem dX5_setFeed_49 : decode cX5_setFeed 49 = .ok (.istore_n 3, 1) := by decide +kernel
theorem dX5_setFeed_50 : decode cX5_setFeed 50 = .ok (.aload_n 0, 1) := by decide +kernel
theorem dX5_setFeed_51 : decode cX5_setFeed 51 = .ok (.getfield 13, 3) := by decide +kernel
theorem dX5_setFeed_54 : decode cX5_setFeed 54 = .ok (.iconst 0, 1) := by decide +kernel
theorem dX5_setFeed_55 : decode cX5_setFeed 55 = .ok (.iload_n 1, 1) := by decide +kernel
theorem dX5_setFeed_56 : decode cX5_setFeed 56 = .ok (.iastore, 1) := by decide +kernel
theorem dX5_setFeed_57 : decode cX5_setFeed 57 = .ok (.aload_n 0, 1) := by decide +kernel
theorem dX5_setFeed_58 : decode cX5_setFeed 58 = .ok (.getfield 13, 3) := by decide +kernel
theorem dX5_setFeed_61 : decode cX5_setFeed 61 = .ok (.iconst 1, 1) := by decide +kernel
theorem dX5_setFeed_62 : decode cX5_setFeed 62 = .ok (.iload_n 2, 1) := by decide +kernel
theorem dX5_setFeed_63 : decode cX5_setFeed 63 = .ok (.iastore, 1) := by decide +kernel
theorem dX5_setFeed_64 : decode cX5_setFeed 64 = .ok (.iload_n 3, 1) := by decide +kernel
theorem dX5_setFeed_65 : decode cX5_setFeed 65 = .ok (.ireturn, 1) := by decide +kernel
theorem dX5_align_0 : decode cX5_align 0 = .ok (.aload_n 0, 1) := by decide +kernel
theorem dX5_align_1 : decode cX5_align 1 = .ok (.iconst 0, 1) := by decide +kernel
theorem dX5_align_2 : decode cX5_align 2 = .ok (.putfield 29, 3) := by decide +kernel
theorem dX5_align_5 : decode cX5_align 5 = .ok (.aload_n 0, 1) := by decide +kernel
theorem dX5_align_6 : decode cX5_align 6 = .ok (.getfield 13, 3) := by decide +kernel
theorem dX5_align_9 : decode cX5_align 9 = .ok (.iconst 2, 1) := by decide +kernel
theorem dX5_align_10 : decode cX5_align 10 = .ok (.iaload, 1) := by decide +kernel
theorem dX5_align_11 : decode cX5_align 11 = .ok (.istore_n 1, 1) := by decide +kernel
theorem dX5_align_12 : decode cX5_align 12 = .ok (.aload_n 0, 1) := by decide +kernel
theorem dX5_align_13 : decode cX5_align 13 = .ok (.getfield 13, 3) := by decide +kernel
theorem dX5_align_16 : decode cX5_align 16 = .ok (.iconst 2, 1) := by decide +kernel
theorem dX5_align_17 : decode cX5_align 17 = .ok (.iconst 0, 1) := by decide +kernel
theorem dX5_align_18 : decode cX5_align 18 = .ok (.iastore, 1) := by decide +kernel
theorem dX5_align_19 : decode cX5_align 19 = .ok (.iload_n 1, 1) := by decide +kernel
theorem dX5_align_20 : decode cX5_align 20 = .ok (.ireturn, 1) := by decide +kernel
set_option maxRecDepth 20000 in
theorem ggX5_roll_X5_isIn : GoodIn wsX5_roll wsX5_isIn := goodIn_r _ [6] (by decide +kernel) (by decide +kernel)
set_option maxRecDepth 20000 in
theorem gX5_roll_X5_isIn : GoodIn wsX5_roll (va_wsS RX5 36 yX5_isIn wsX5_isIn) := goodIn_app (goodIn_of _ (by decide +kernel)) ggX5_roll_X5_isIn
set_option maxRecDepth 20000 in
theorem ggX5_roll_X5_fail : GoodIn wsX5_roll wsX5_fail := goodIn_r _ [10, 1, 11, 12, 13, 14, 15, 16, 17, 18] (by decide +kernel) (by decide +kernel)
set_option maxRecDepth 20000 in
theorem gX5_roll_X5_fail : GoodIn wsX5_roll (wsV RX5 40 RX5 yX5_fail wsX5_fail) := goodIn_app (goodIn_of _ (by decide +kernel)) ggX5_roll_X5_fail
theorem dX5_roll_0 : decode cX5_roll 0 = .ok (.aload_n 0, 1) := by decide +kernel
theorem dX5_roll_1 : decode cX5_roll 1 = .ok (.iconst 0, 1) := by decide +kernel
theorem dX5_roll_2 : decode cX5_roll 2 = .ok (.putfield 29, 3) := by decide +kernel
theorem dX5_roll_5 : decode cX5_roll 5 = .ok (.iload_n 1, 1) := by decide +kernel
theorem dX5_roll_6 : decode cX5_roll 6 = .ok (.iconst 1, 1) := by decide +kernel
theorem dX5_roll_7 : decode cX5_roll 7 = .ok (.sipush 400, 3) := by decide +kernel
theorem dX5_roll_10 : decode cX5_roll 10 = .ok (.invokestatic 36, 3) := by decide +kernel
theorem dX5_roll_13 : decode cX5_roll 13 = .ok (.ifCond .eq 13, 3) := by decide +kernel
theorem dX5_roll_16 : decode cX5_roll 16 = .ok (.iload_n 2, 1) := by decide +kernel
theorem dX5_roll_17 : decode cX5_roll 17 = .ok (.iconst 1, 1) := by decide +kernel
theorem dX5_roll_18 : decode cX5_roll 18 = .ok (.bipush 9, 2) := by decide +kernel
theorem dX5_roll_20 : decode cX5_roll 20 = .ok (.invokestatic 36, 3) := by decide +kernel
theorem dX5_roll_23 : decode cX5_roll 23 = .ok (.ifCond .ne 9, 3) := by decide +kernel
theorem dX5_roll_26 : decode cX5_roll 26 = .ok (.aload_n 0, 1) := by decide +kernel
theorem dX5_roll_27 : decode cX5_roll 27 = .ok (.iconst 1, 1) := by decide +kernel
theorem dX5_roll_28 : decode cX5_roll 28 = .ok (.invokevirtual 40, 3) := by decide +kernel
theorem dX5_roll_31 : decode cX5_roll 31 = .ok (.ireturn, 1) := by decide +kernel
theorem dX5_roll_32 : decode cX5_roll 32 = .ok (.aload_n 0, 1) := by decide +kernel
theorem dX5_roll_33 : decode cX5_roll 33 = .ok (.getfield 13, 3) := by decide +kernel
theorem dX5_roll_36 : decode cX5_roll 36 = .ok (.iconst 3, 1) := by decide +kernel
theorem dX5_roll_37 : decode cX5_roll 37 = .ok (.iaload, 1) := by decide +kernel
theorem dX5_roll_38 : decode cX5_roll 38 = .ok (.istore_n 3, 1) := by decide +kernel
theorem dX5_roll_39 : decode cX5_roll 39 = .ok (.aload_n 0, 1) := by decide +kernel
theorem dX5_roll_40 : decode cX5_roll 40 = .ok (.getfield 13, 3) := by decide +kernel
theorem dX5_roll_43 : decode cX5_roll 43 = .ok (.iconst 3, 1) := by decide +kernel
theorem dX5_roll_44 : decode cX5_roll 44 = .ok (.iload_n 1, 1) := by decide +kernel
theorem dX5_roll_45 : decode cX5_roll 45 = .ok (.iastore, 1) := by decide +kernel
theorem dX5_roll_46 : decode cX5_roll 46 = .ok (.aload_n 0, 1) := by decide +kernel
theorem dX5_roll_47 : decode cX5_roll 47 = .ok (.getfield 13, 3) := by decide +kernel
theorem dX5_roll_50 : decode cX5_roll 50 = .ok (.iconst 4, 1) := by decide +kernel
theorem dX5_roll_51 : decode cX5_roll 51 = .ok (.iload_n 2, 1) := by decide +kernel
theorem dX5_roll_52 : decode cX5_roll 52 = .ok (.iastore, 1) := by decide +kernel
theorem dX5_roll_53 : decode cX5_roll 53 = .ok (.aload_n 0, 1) := by decide +kernel
theorem dX5_roll_54 : decode cX5_roll 54 = .ok (.getfield 13, 3) := by decide +kernel
theorem dX5_roll_57 : decode cX5_roll 57 = .ok (.iconst 5, 1) := by decide +kernel
theorem dX5_roll_58 : decode cX5_roll 58 = .ok (.iconst 0, 1) := by decide +kernel
theorem dX5_roll_59 : decode cX5_roll 59 = .ok (.iastore, 1) := by decide +kernel
theorem dX5_roll_60 : decode cX5_roll 60 = .ok (.iload_n 3, 1) := by decide +kernel
theorem dX5_roll_61 : decode cX5_roll 61 = .ok (.ireturn, 1) := by decide +kernel
set_option maxRecDepth 20000 in
theorem ggX5_fit_X5_isIn : GoodIn wsX5_fit wsX5_isIn := goodIn_r _ [7] (by decide +kernel) (by decide +kernel)
set_option maxRecDepth 20000 in
theorem gX5_fit_X5_isIn : GoodIn wsX5_fit (va_wsS RX5 36 yX5_isIn wsX5_isIn) := goodIn_app (goodIn_of _ (by decide +kernel)) ggX5_fit_X5_isIn
set_option maxRecDepth 20000 in
theorem ggX5_fit_X5_fail : GoodIn wsX5_fit wsX5_fail := goodIn_r _ [11, 1, 12, 13, 14, 15, 16, 17, 18, 19] (by decide +kernel) (by decide +kernel)
set_option maxRecDepth 20000 in
theorem gX5_fit_X5_fail : GoodIn wsX5_fit (wsV RX5 40 RX5 yX5_fail wsX5_fail) := goodIn_app (goodIn_of _ (by decide +kernel)) ggX5_fit_X5_fail
theorem dX5_fit_0 : decode cX5_fit 0 = .ok (.aload_n 0, 1) := by decide +kernel
theorem dX5_fit_1 : decode cX5_fit 1 = .ok (.iconst 0, 1) := by decide +kernel
theorem dX5_fit_2 : decode cX5_fit 2 = .ok (.putfield 29, 3) := by decide +kernel
theorem dX5_fit_5 : decode cX5_fit 5 = .ok (.iload_n 1, 1) := by decide +kernel
theorem dX5_fit_6 : decode cX5_fit 6 = .ok (.iconst 0, 1) := by decide +kernel
theorem dX5_fit_7 : decode cX5_fit 7 = .ok (.bipush 6, 2) := by decide +kernel
theorem dX5_fit_9 : decode cX5_fit 9 = .ok (.invokestatic 36, 3) := by decide +kernel
theorem dX5_fit_12 : decode cX5_fit 12 = .ok (.ifCond .ne 9, 3) := by decide +kernel
theorem dX5_fit_15 : decode cX5_fit 15 = .ok (.aload_n 0, 1) := by decide +kernel
theorem dX5_fit_16 : decode cX5_fit 16 = .ok (.iconst 1, 1) := by decide +kernel
theorem dX5_fit_17 : decode cX5_fit 17 = .ok (.invokevirtual 40, 3) := by decide +kernel
theorem dX5_fit_20 : decode cX5_fit 20 = .ok (.ireturn, 1) := by decide +kernel
theorem dX5_fit_21 : decode cX5_fit 21 = .ok (.iload_n 2, 1) := by decide +kernel
theorem dX5_fit_22 : decode cX5_fit 22 = .ok (.iconst 1, 1) := by decide +kernel
theorem dX5_fit_23 : decode cX5_fit 23 = .ok (.sipush 500, 3) := by decide +kernel
theorem dX5_fit_26 : decode cX5_fit 26 = .ok (.invokestatic 36, 3) := by decide +kernel
theorem dX5_fit_29 : decode cX5_fit 29 = .ok (.ifCond .ne 9, 3) := by decide +kernel
theorem dX5_fit_32 : decode cX5_fit 32 = .ok (.aload_n 0, 1) := by decide +kernel
theorem dX5_fit_33 : decode cX5_fit 33 = .ok (.iconst 2, 1) := by decide +kernel
theorem dX5_fit_34 : decode cX5_fit 34 = .ok (.invokevirtual 40, 3) := by decide +kernel
theorem dX5_fit_37 : decode cX5_fit 37 = .ok (.ireturn, 1) := by decide +kernel
theorem dX5_fit_38 : decode cX5_fit 38 = .ok (.aload_n 0, 1) := by decide +kernel
theorem dX5_fit_39 : decode cX5_fit 39 = .ok (.getfield 19, 3) := by decide +kernel
theorem dX5_fit_42 : decode cX5_fit 42 = .ok (.iload_n 1, 1) := by decide +kernel
theorem dX5_fit_43 : decode cX5_fit 43 = .ok (.iaload, 1) := by decide +kernel
theorem dX5_fit_44 : decode cX5_fit 44 = .ok (.istore_n 3, 1) := by decide +kernel
theorem dX5_fit_45 : decode cX5_fit 45 = .ok (.aload_n 0, 1) := by decide +kernel
theorem dX5_fit_46 : decode cX5_fit 46 = .ok (.getfield 19, 3) := by decide +kernel
theorem dX5_fit_49 : decode cX5_fit 49 = .ok (.iload_n 1, 1) := by decide +kernel
theorem dX5_fit_50 : decode cX5_fit 50 = .ok (.iconst 0, 1) := by decide +kernel
theorem dX5_fit_51 : decode cX5_fit 51 = .ok (.iastore, 1) := by decide +kernel
theorem dX5_fit_52 : decode cX5_fit 52 = .ok (.aload_n 0, 1) := by decide +kernel
theorem dX5_fit_53 : decode cX5_fit 53 = .ok (.getfield 16, 3) := by decide +kernel
theorem dX5_fit_56 : decode cX5_fit 56 = .ok (.iload_n 1, 1) := by decide +kernel
theorem dX5_fit_57 : decode cX5_fit 57 = .ok (.iload_n 2, 1) := by decide +kernel
theorem dX5_fit_58 : decode cX5_fit 58 = .ok (.iastore, 1) := by decide +kernel
theorem dX5_fit_59 : decode cX5_fit 59 = .ok (.iload_n 3, 1) := by decide +kernel
theorem dX5_fit_60 : decode cX5_fit 60 = .ok (.ireturn, 1) := by decide +kernel
set_option maxRecDepth 20000 in
theorem ggX5_turn_X5_isPlace : GoodIn wsX5_turn wsX5_isPlace := goodIn_r _ [6, 7, 8, 5, 9] (by decide +kernel) (by decide +kernel)
set_option maxRecDepth 20000 in
theorem gX5_turn_X5_isPlace : GoodIn wsX5_turn (va_wsS RX5 44 yX5_isPlace wsX5_isPlace) := goodIn_app (goodIn_of _ (by decide +kernel)) ggX5_turn_X5_isPlace
theorem dX5_turn_0 : decode cX5_turn 0 = .ok (.aload_n 0, 1) := by decide +kernel
theorem dX5_turn_1 : decode cX5_turn 1 = .ok (.iload_n 1, 1) := by decide +kernel
theorem dX5_turn_2 : decode cX5_turn 2 = .ok (.iload_n 2, 1) := by decide +kernel
theorem dX5_turn_3 : decode cX5_turn 3 = .ok (.invokestatic 44, 3) := by decide +kernel
theorem dX5_turn_6 : decode cX5_turn 6 = .ok (.ifCond .eq 7, 3) := by decide +kernel
theorem dX5_turn_9 : decode cX5_turn 9 = .ok (.iconst 0, 1) := by decide +kernel
theorem dX5_turn_10 : decode cX5_turn 10 = .ok (.goto 4, 3) := by decide +kernel
theorem dX5_turn_13 : decode cX5_turn 13 = .ok (.iconst 1, 1) := by decide +kernel
theorem dX5_turn_14 : decode cX5_turn 14 = .ok (.putfield 29, 3) := by decide +kernel
theorem dX5_turn_17 : decode cX5_turn 17 = .ok (.aload_n 0, 1) := by decide +kernel
theorem dX5_turn_18 : decode cX5_turn 18 = .ok (.getfield 29, 3) := by decide +kernel
theorem dX5_turn_21 : decode cX5_turn 21 = .ok (.ifCond .eq 5, 3) := by decide +kernel
theorem dX5_turn_24 : decode cX5_turn 24 = .ok (.iconst 0, 1) := by decide +kernel
theorem dX5_turn_25 : decode cX5_turn 25 = .ok (.ireturn, 1) := by decide +kernel
theorem dX5_turn_26 : decode cX5_turn 26 = .ok (.aload_n 0, 1) := by decide +kernel
theorem dX5_turn_27 : decode cX5_turn 27 = .ok (.getfield 22, 3) := by decide +kernel
theorem dX5_turn_30 : decode cX5_turn 30 = .ok (.bipush 6, 2) := by decide +kernel
theorem dX5_turn_32 : decode cX5_turn 32 = .ok (.iload_n 1, 1) := by decide +kernel
theorem dX5_turn_33 : decode cX5_turn 33 = .ok (.imul, 1) := by decide +kernel
theorem dX5_turn_34 : decode cX5_turn 34 = .ok (.iload_n 2, 1) := by decide +kernel
theorem dX5_turn_35 : decode cX5_turn 35 = .ok (.iadd, 1) := by decide +kernel
theorem dX5_turn_36 : decode cX5_turn 36 = .ok (.aload_n 0, 1) := by decide +kernel
theorem dX5_turn_37 : decode cX5_turn 37 = .ok (.getfield 22, 3) := by decide +kernel
theorem dX5_turn_40 : decode cX5_turn 40 = .ok (.bipush 6, 2) := by decide +kernel
theorem dX5_turn_42 : decode cX5_turn 42 = .ok (.iload_n 1, 1) := by decide +kernel
theorem dX5_turn_43 : decode cX5_turn 43 = .ok (.imul, 1) := by decide +kernel
theorem dX5_turn_44 : decode cX5_turn 44 = .ok (.iload_n 2, 1) := by decide +kernel
theorem dX5_turn_45 : decode cX5_turn 45 = .ok (.iadd, 1) := by decide +kernel
theorem dX5_turn_46 : decode cX5_turn 46 = .ok (.baload, 1) := by decide +kernel
theorem dX5_turn_47 : decode cX5_turn 47 = .ok (.ifCond .ne 7, 3) := by decide +kernel
theorem dX5_turn_50 : decode cX5_turn 50 = .ok (.iconst 1, 1) := by decide +kernel
theorem dX5_turn_51 : decode cX5_turn 51 = .ok (.goto 4, 3) := by decide +kernel
theorem dX5_turn_54 : decode cX5_turn 54 = .ok (.iconst 0, 1) := by decide +kernel
theorem dX5_turn_55 : decode cX5_turn 55 = .ok (.bastore, 1) := by decide +kernel
theorem dX5_turn_56 : decode cX5_turn 56 = .ok (.aload_n 0, 1) := by decide +kernel
theorem dX5_turn_57 : decode cX5_turn 57 = .ok (.getfield 22, 3) := by decide +kernel
theorem dX5_turn_60 : decode cX5_turn 60 = .ok (.bipush 6, 2) := by decide +kernel
theorem dX5_turn_62 : decode cX5_turn 62 = .ok (.iload_n 1, 1) := by decide +kernel
theorem dX5_turn_63 : decode cX5_turn 63 = .ok (.imul, 1) := by decide +kernel
theorem dX5_turn_64 : decode cX5_turn 64 = .ok (.iload_n 2, 1) := by decide +kernel
theorem dX5_turn_65 : decode cX5_turn 65 = .ok (.iadd, 1) := by decide +kernel
theorem dX5_turn_66 : decode cX5_turn 66 = .ok (.baload, 1) := by decide +kernel
theorem dX5_turn_67 : decode cX5_turn 67 = .ok (.ireturn, 1) := by decide +kernel
set_option maxRecDepth 20000 in
theorem ggX5_runRow_X5_isIn : GoodIn wsX5_runRow wsX5_isIn := goodIn_r _ [8] (by decide +kernel) (by decide +kernel)
set_option maxRecDepth 20000 in
theorem gX5_runRow_X5_isIn : GoodIn wsX5_runRow (va_wsS RX5 36 yX5_isIn wsX5_isIn) := goodIn_app (goodIn_of _ (by decide +kernel)) ggX5_runRow_X5_isIn
set_option maxRecDepth 20000 in
theorem ggX5_runRow_X5_isWhole : GoodIn wsX5_runRow wsX5_isWhole := goodIn_r _ [12, 4, 13, 14, 15, 16, 17, 18, 19, 20, 21] (by decide +kernel) (by decide +kernel)
set_option maxRecDepth 20000 in
theorem gX5_runRow_X5_isWhole : GoodIn wsX5_runRow (wsV RX5 48 RX5 yX5_isWhole wsX5_isWhole) := goodIn_app (goodIn_of _ (by decide +kernel)) ggX5_runRow_X5_isWhole
theorem dX5_runRow_0 : decode cX5_runRow 0 = .ok (.aload_n 0, 1) := by decide +kernel
theorem dX5_runRow_1 : decode cX5_runRow 1 = .ok (.getfield 13, 3) := by decide +kernel
theorem dX5_runRow_4 : decode cX5_runRow 4 = .ok (.iconst 2, 1) := by decide +kernel
theorem dX5_runRow_5 : decode cX5_runRow 5 = .ok (.dup2, 1) := by decide +kernel
theorem dX5_runRow_6 : decode cX5_runRow 6 = .ok (.iaload, 1) := by decide +kernel
theorem dX5_runRow_7 : decode cX5_runRow 7 = .ok (.aload_n 0, 1) := by decide +kernel
theorem dX5_runRow_8 : decode cX5_runRow 8 = .ok (.getfield 13, 3) := by decide +kernel
theorem dX5_runRow_11 : decode cX5_runRow 11 = .ok (.iconst 0, 1) := by decide +kernel
theorem dX5_runRow_12 : decode cX5_runRow 12 = .ok (.iaload, 1) := by decide +kernel
theorem dX5_runRow_13 : decode cX5_runRow 13 = .ok (.bipush 20, 2) := by decide +kernel
theorem dX5_runRow_15 : decode cX5_runRow 15 = .ok (.isub, 1) := by decide +kernel
theorem dX5_runRow_16 : decode cX5_runRow 16 = .ok (.iadd, 1) := by decide +kernel
theorem dX5_runRow_17 : decode cX5_runRow 17 = .ok (.iastore, 1) := by decide +kernel
theorem dX5_runRow_18 : decode cX5_runRow 18 = .ok (.aload_n 0, 1) := by decide +kernel
theorem dX5_runRow_19 : decode cX5_runRow 19 = .ok (.getfield 13, 3) := by decide +kernel
theorem dX5_runRow_22 : decode cX5_runRow 22 = .ok (.iconst 2, 1) := by decide +kernel
theorem dX5_runRow_23 : decode cX5_runRow 23 = .ok (.iaload, 1) := by decide +kernel
theorem dX5_runRow_24 : decode cX5_runRow 24 = .ok (.bipush (-6), 2) := by decide +kernel
theorem dX5_runRow_26 : decode cX5_runRow 26 = .ok (.bipush 6, 2) := by decide +kernel
theorem dX5_runRow_28 : decode cX5_runRow 28 = .ok (.invokestatic 36, 3) := by decide +kernel
theorem dX5_runRow_31 : decode cX5_runRow 31 = .ok (.ifCond .ne 7, 3) := by decide +kernel
theorem dX5_runRow_34 : decode cX5_runRow 34 = .ok (.iconst 1, 1) := by decide +kernel
theorem dX5_runRow_35 : decode cX5_runRow 35 = .ok (.goto 4, 3) := by decide +kernel
theorem dX5_runRow_38 : decode cX5_runRow 38 = .ok (.iconst 0, 1) := by decide +kernel
theorem dX5_runRow_39 : decode cX5_runRow 39 = .ok (.istore_n 2, 1) := by decide +kernel
theorem dX5_runRow_40 : decode cX5_runRow 40 = .ok (.iconst 0, 1) := by decide +kernel
theorem dX5_runRow_41 : decode cX5_runRow 41 = .ok (.istore_n 3, 1) := by decide +kernel
theorem dX5_runRow_42 : decode cX5_runRow 42 = .ok (.iload_n 3, 1) := by decide +kernel
theorem dX5_runRow_43 : decode cX5_runRow 43 = .ok (.bipush 6, 2) := by decide +kernel
theorem dX5_runRow_45 : decode cX5_runRow 45 = .ok (.if_icmp .ge 105, 3) := by decide +kernel
theorem dX5_runRow_48 : decode cX5_runRow 48 = .ok (.aload_n 0, 1) := by decide +kernel
theorem dX5_runRow_49 : decode cX5_runRow 49 = .ok (.getfield 26, 3) := by decide +kernel
theorem dX5_runRow_52 : decode cX5_runRow 52 = .ok (.bipush 6, 2) := by decide +kernel
theorem dX5_runRow_54 : decode cX5_runRow 54 = .ok (.iload_n 1, 1) := by decide +kernel
theorem dX5_runRow_55 : decode cX5_runRow 55 = .ok (.imul, 1) := by decide +kernel
theorem dX5_runRow_56 : decode cX5_runRow 56 = .ok (.iload_n 3, 1) := by decide +kernel
theorem dX5_runRow_57 : decode cX5_runRow 57 = .ok (.iadd, 1) := by decide +kernel
theorem dX5_runRow_58 : decode cX5_runRow 58 = .ok (.iload_n 2, 1) := by decide +kernel
theorem dX5_runRow_59 : decode cX5_runRow 59 = .ok (.ifCond .eq 7, 3) := by decide +kernel
theorem dX5_runRow_62 : decode cX5_runRow 62 = .ok (.iconst 1, 1) := by decide +kernel
theorem dX5_runRow_63 : decode cX5_runRow 63 = .ok (.goto 4, 3) := by decide +kernel
theorem dX5_runRow_66 : decode cX5_runRow 66 = .ok (.iconst 0, 1) := by decide +kernel
theorem dX5_runRow_67 : decode cX5_runRow 67 = .ok (.aload_n 0, 1) := by decide +kernel
theorem dX5_runRow_68 : decode cX5_runRow 68 = .ok (.iload_n 3, 1) := by decide +kernel
theorem dX5_runRow_69 : decode cX5_runRow 69 = .ok (.invokevirtual 48, 3) := by decide +kernel
theorem dX5_runRow_72 : decode cX5_runRow 72 = .ok (.ifCond .eq 7, 3) := by decide +kernel
theorem dX5_runRow_75 : decode cX5_runRow 75 = .ok (.iconst 0, 1) := by decide +kernel
theorem dX5_runRow_76 : decode cX5_runRow 76 = .ok (.goto 4, 3) := by decide +kernel
theorem dX5_runRow_79 : decode cX5_runRow 79 = .ok (.iconst 2, 1) := by decide +kernel
theorem dX5_runRow_80 : decode cX5_runRow 80 = .ok (.ior, 1) := by decide +kernel
theorem dX5_runRow_81 : decode cX5_runRow 81 = .ok (.aload_n 0, 1) := by decide +kernel
theorem dX5_runRow_82 : decode cX5_runRow 82 = .ok (.iload_n 3, 1) := by decide +kernel
theorem dX5_runRow_83 : decode cX5_runRow 83 = .ok (.iconst 1, 1) := by decide +kernel
theorem dX5_runRow_84 : decode cX5_runRow 84 = .ok (.iadd, 1) := by decide +kernel
theorem dX5_runRow_85 : decode cX5_runRow 85 = .ok (.invokevirtual 48, 3) := by decide +kernel
theorem dX5_runRow_88 : decode cX5_runRow 88 = .ok (.ifCond .eq 7, 3) := by decide +kernel
theorem dX5_runRow_91 : decode cX5_runRow 91 = .ok (.iconst 0, 1) := by decide +kernel
theorem dX5_runRow_92 : decode cX5_runRow 92 = .ok (.goto 4, 3) := by decide +kernel
theorem dX5_runRow_95 : decode cX5_runRow 95 = .ok (.iconst 4, 1) := by decide +kernel
theorem dX5_runRow_96 : decode cX5_runRow 96 = .ok (.ior, 1) := by decide +kernel
theorem dX5_runRow_97 : decode cX5_runRow 97 = .ok (.aload_n 0, 1) := by decide +kernel
theorem dX5_runRow_98 : decode cX5_runRow 98 = .ok (.getfield 22, 3) := by decide +kernel
theorem dX5_runRow_101 : decode cX5_runRow 101 = .ok (.bipush 6, 2) := by decide +kernel
theorem dX5_runRow_103 : decode cX5_runRow 103 = .ok (.iload_n 1, 1) := by decide +kernel
theorem dX5_runRow_104 : decode cX5_runRow 104 = .ok (.imul, 1) := by decide +kernel
theorem dX5_runRow_105 : decode cX5_runRow 105 = .ok (.iload_n 3, 1) := by decide +kernel
theorem dX5_runRow_106 : decode cX5_runRow 106 = .ok (.iadd, 1) := by decide +kernel
theorem dX5_runRow_107 : decode cX5_runRow 107 = .ok (.baload, 1) := by decide +kernel
theorem dX5_runRow_108 : decode cX5_runRow 108 = .ok (.ifCond .eq 8, 3) := by decide +kernel
theorem dX5_runRow_111 : decode cX5_runRow 111 = .ok (.bipush 8, 2) := by decide +kernel
theorem dX5_runRow_113 : decode cX5_runRow 113 = .ok (.goto 4, 3) := by decide +kernel
theorem dX5_runRow_116 : decode cX5_runRow 116 = .ok (.iconst 0, 1) := by decide +kernel
theorem dX5_runRow_117 : decode cX5_runRow 117 = .ok (.ior, 1) := by decide +kernel
theorem dX5_runRow_118 : decode cX5_runRow 118 = .ok (.aload_n 0, 1) := by decide +kernel
theorem dX5_runRow_119 : decode cX5_runRow 119 = .ok (.getfield 13, 3) := by decide +kernel
theorem dX5_runRow_122 : decode cX5_runRow 122 = .ok (.iconst 5, 1) := by decide +kernel
theorem dX5_runRow_123 : decode cX5_runRow 123 = .ok (.iaload, 1) := by decide +kernel
theorem dX5_runRow_124 : decode cX5_runRow 124 = .ok (.iload_n 3, 1) := by decide +kernel
theorem dX5_runRow_125 : decode cX5_runRow 125 = .ok (.iadd, 1) := by decide +kernel
theorem dX5_runRow_126 : decode cX5_runRow 126 = .ok (.aload_n 0, 1) := by decide +kernel
theorem dX5_runRow_127 : decode cX5_runRow 127 = .ok (.getfield 13, 3) := by decide +kernel
theorem dX5_runRow_130 : decode cX5_runRow 130 = .ok (.iconst 4, 1) := by decide +kernel
theorem dX5_runRow_131 : decode cX5_runRow 131 = .ok (.iaload, 1) := by decide +kernel
theorem dX5_runRow_132 : decode cX5_runRow 132 = .ok (.irem, 1) := by decide +kernel
theorem dX5_runRow_133 : decode cX5_runRow 133 = .ok (.ifCond .ne 7, 3) := by decide +kernel
theorem dX5_runRow_136 : decode cX5_runRow 136 = .ok (.iconst 0, 1) := by decide +kernel
theorem dX5_runRow_137 : decode cX5_runRow 137 = .ok (.goto 5, 3) := by decide +kernel
theorem dX5_runRow_140 : decode cX5_runRow 140 = .ok (.bipush 16, 2) := by decide +kernel
theorem dX5_runRow_142 : decode cX5_runRow 142 = .ok (.ior, 1) := by decide +kernel
theorem dX5_runRow_143 : decode cX5_runRow 143 = .ok (.iastore, 1) := by decide +kernel
theorem dX5_runRow_144 : decode cX5_runRow 144 = .ok (.iinc 3 1, 3) := by decide +kernel
theorem dX5_runRow_147 : decode cX5_runRow 147 = .ok (.goto (-105), 3) := by decide +kernel
theorem dX5_runRow_150 : decode cX5_runRow 150 = .ok (.iconst 0, 1) := by decide +kernel
theorem dX5_runRow_151 : decode cX5_runRow 151 = .ok (.istore_n 3, 1) := by decide +kernel
theorem dX5_runRow_152 : decode cX5_runRow 152 = .ok (.iload_n 3, 1) := by decide +kernel
theorem dX5_runRow_153 : decode cX5_runRow 153 = .ok (.bipush 7, 2) := by decide +kernel
theorem dX5_runRow_155 : decode cX5_runRow 155 = .ok (.if_icmp .ge 31, 3) := by decide +kernel
theorem dX5_runRow_158 : decode cX5_runRow 158 = .ok (.aload_n 0, 1) := by decide +kernel
theorem dX5_runRow_159 : decode cX5_runRow 159 = .ok (.getfield 19, 3) := by decide +kernel
theorem dX5_runRow_162 : decode cX5_runRow 162 = .ok (.iload_n 3, 1) := by decide +kernel
theorem dX5_runRow_163 : decode cX5_runRow 163 = .ok (.dup2, 1) := by decide +kernel
theorem dX5_runRow_164 : decode cX5_runRow 164 = .ok (.iaload, 1) := by decide +kernel
theorem dX5_runRow_165 : decode cX5_runRow 165 = .ok (.aload_n 0, 1) := by decide +kernel
theorem dX5_runRow_166 : decode cX5_runRow 166 = .ok (.iload_n 3, 1) := by decide +kernel
theorem dX5_runRow_167 : decode cX5_runRow 167 = .ok (.invokevirtual 48, 3) := by decide +kernel
theorem dX5_runRow_170 : decode cX5_runRow 170 = .ok (.ifCond .eq 7, 3) := by decide +kernel
theorem dX5_runRow_173 : decode cX5_runRow 173 = .ok (.iconst 1, 1) := by decide +kernel
theorem dX5_runRow_174 : decode cX5_runRow 174 = .ok (.goto 4, 3) := by decide +kernel
theorem dX5_runRow_177 : decode cX5_runRow 177 = .ok (.iconst 0, 1) := by decide +kernel
theorem dX5_runRow_178 : decode cX5_runRow 178 = .ok (.iadd, 1) := by decide +kernel
theorem dX5_runRow_179 : decode cX5_runRow 179 = .ok (.iastore, 1) := by decide +kernel
theorem dX5_runRow_180 : decode cX5_runRow 180 = .ok (.iinc 3 1, 3) := by decide +kernel
theorem dX5_runRow_183 : decode cX5_runRow 183 = .ok (.goto (-31), 3) := by decide +kernel
theorem dX5_runRow_186 : decode cX5_runRow 186 = .ok (.aload_n 0, 1) := by decide +kernel
theorem dX5_runRow_187 : decode cX5_runRow 187 = .ok (.getfield 13, 3) := by decide +kernel
theorem dX5_runRow_190 : decode cX5_runRow 190 = .ok (.iconst 3, 1) := by decide +kernel
theorem dX5_runRow_191 : decode cX5_runRow 191 = .ok (.dup2, 1) := by decide +kernel
theorem dX5_runRow_192 : decode cX5_runRow 192 = .ok (.iaload, 1) := by decide +kernel
theorem dX5_runRow_193 : decode cX5_runRow 193 = .ok (.iconst 1, 1) := by decide +kernel
theorem dX5_runRow_194 : decode cX5_runRow 194 = .ok (.isub, 1) := by decide +kernel
theorem dX5_runRow_195 : decode cX5_runRow 195 = .ok (.iastore, 1) := by decide +kernel
theorem dX5_runRow_196 : decode cX5_runRow 196 = .ok (.aload_n 0, 1) := by decide +kernel
theorem dX5_runRow_197 : decode cX5_runRow 197 = .ok (.getfield 13, 3) := by decide +kernel
theorem dX5_runRow_200 : decode cX5_runRow 200 = .ok (.iconst 5, 1) := by decide +kernel
theorem dX5_runRow_201 : decode cX5_runRow 201 = .ok (.dup2, 1) := by decide +kernel
theorem dX5_runRow_202 : decode cX5_runRow 202 = .ok (.iaload, 1) := by decide +kernel
theorem dX5_runRow_203 : decode cX5_runRow 203 = .ok (.iconst 1, 1) := by decide +kernel
theorem dX5_runRow_204 : decode cX5_runRow 204 = .ok (.iadd, 1) := by decide +kernel
theorem dX5_runRow_205 : decode cX5_runRow 205 = .ok (.iastore, 1) := by decide +kernel
theorem dX5_runRow_206 : decode cX5_runRow 206 = .ok (.return_, 1) := by decide +kernel
set_option maxRecDepth 20000 in
theorem ggX5_runSheet_X5_runRow : GoodIn wsX5_runSheet wsX5_runRow := goodIn_r _ [13, 1, 14, 15, 16, 17, 18, 12, 19, 20, 21, 22, 23, 24, 25, 26, 27, 28, 29, 30, 31, 32] (by decide +kernel) (by decide +kernel)
set_option maxRecDepth 20000 in
theorem gX5_runSheet_X5_runRow : GoodIn wsX5_runSheet (wsV RX5 52 RX5 yX5_runRow wsX5_runRow) := goodIn_app (goodIn_of _ (by decide +kernel)) ggX5_runSheet_X5_runRow
theorem dX5_runSheet_0 : decode cX5_runSheet 0 = .ok (.iconst 0, 1) := by decide +kernel
theorem dX5_runSheet_1 : decode cX5_runSheet 1 = .ok (.istore_n 1, 1) := by decide +kernel
theorem dX5_runSheet_2 : decode cX5_runSheet 2 = .ok (.iload_n 1, 1) := by decide +kernel
theorem dX5_runSheet_3 : decode cX5_runSheet 3 = .ok (.iconst 5, 1) := by decide +kernel
theorem dX5_runSheet_4 : decode cX5_runSheet 4 = .ok (.if_icmp .ge 14, 3) := by decide +kernel
theorem dX5_runSheet_7 : decode cX5_runSheet 7 = .ok (.aload_n 0, 1) := by decide +kernel
theorem dX5_runSheet_8 : decode cX5_runSheet 8 = .ok (.iload_n 1, 1) := by decide +kernel
theorem dX5_runSheet_9 : decode cX5_runSheet 9 = .ok (.invokevirtual 52, 3) := by decide +kernel
theorem dX5_runSheet_12 : decode cX5_runSheet 12 = .ok (.iinc 1 1, 3) := by decide +kernel
theorem dX5_runSheet_15 : decode cX5_runSheet 15 = .ok (.goto (-13), 3) := by decide +kernel
theorem dX5_runSheet_18 : decode cX5_runSheet 18 = .ok (.aload_n 0, 1) := by decide +kernel
theorem dX5_runSheet_19 : decode cX5_runSheet 19 = .ok (.getfield 13, 3) := by decide +kernel
theorem dX5_runSheet_22 : decode cX5_runSheet 22 = .ok (.iconst 0, 1) := by decide +kernel
theorem dX5_runSheet_23 : decode cX5_runSheet 23 = .ok (.bipush 10, 2) := by decide +kernel
theorem dX5_runSheet_25 : decode cX5_runSheet 25 = .ok (.bipush 30, 2) := by decide +kernel
theorem dX5_runSheet_27 : decode cX5_runSheet 27 = .ok (.aload_n 0, 1) := by decide +kernel
theorem dX5_runSheet_28 : decode cX5_runSheet 28 = .ok (.getfield 13, 3) := by decide +kernel
theorem dX5_runSheet_31 : decode cX5_runSheet 31 = .ok (.iconst 0, 1) := by decide +kernel
theorem dX5_runSheet_32 : decode cX5_runSheet 32 = .ok (.iaload, 1) := by decide +kernel
theorem dX5_runSheet_33 : decode cX5_runSheet 33 = .ok (.aload_n 0, 1) := by decide +kernel
theorem dX5_runSheet_34 : decode cX5_runSheet 34 = .ok (.getfield 13, 3) := by decide +kernel
theorem dX5_runSheet_37 : decode cX5_runSheet 37 = .ok (.iconst 1, 1) := by decide +kernel
theorem dX5_runSheet_38 : decode cX5_runSheet 38 = .ok (.iaload, 1) := by decide +kernel
theorem dX5_runSheet_39 : decode cX5_runSheet 39 = .ok (.iadd, 1) := by decide +kernel
theorem dX5_runSheet_40 : decode cX5_runSheet 40 = .ok (.invokestatic 56, 3) := by decide +kernel
theorem dX5_runSheet_43 : decode cX5_runSheet 43 = .ok (.invokestatic 62, 3) := by decide +kernel
theorem dX5_runSheet_46 : decode cX5_runSheet 46 = .ok (.iastore, 1) := by decide +kernel
theorem dX5_runSheet_47 : decode cX5_runSheet 47 = .ok (.return_, 1) := by decide +kernel
set_option maxRecDepth 20000 in
theorem ggX5_run_X5_fail : GoodIn wsX5_run wsX5_fail := goodIn_r _ [14, 1, 40, 41, 42, 43, 44, 45, 46, 47] (by decide +kernel) (by decide +kernel)
set_option maxRecDepth 20000 in
theorem gX5_run_X5_fail : GoodIn wsX5_run (wsV RX5 40 RX5 yX5_fail wsX5_fail) := goodIn_app (goodIn_of _ (by decide +kernel)) ggX5_run_X5_fail
set_option maxRecDepth 20000 in
theorem ggX5_run_X5_runSheet : GoodIn wsX5_run wsX5_runSheet := goodIn_r _ [18, 3, 19, 20, 21, 22, 23, 24, 25, 26, 27, 28, 13, 29, 4, 30, 31, 32, 33, 34, 35, 36, 37, 38, 39, 40, 41, 42, 43, 44, 45, 46, 47] (by decide +kernel) (by decide +kernel)
set_option maxRecDepth 20000 in
theorem gX5_run_X5_runSheet : GoodIn wsX5_run (wsV RX5 65 RX5 yX5_runSheet wsX5_runSheet) := goodIn_app (goodIn_of _ (by decide +kernel)) ggX5_run_X5_runSheet
theorem dX5_run_0 : decode cX5_run 0 = .ok (.aload_n 0, 1) := by decide +kernel
theorem dX5_run_1 : decode cX5_run 1 = .ok (.iconst 0, 1) := by decide +kernel
theorem dX5_run_2 : decode cX5_run 2 = .ok (.putfield 29, 3) := by decide +kernel
theorem dX5_run_5 : decode cX5_run 5 = .ok (.aload_n 0, 1) := by decide +kernel
theorem dX5_run_6 : decode cX5_run 6 = .ok (.getfield 33, 3) := by decide +kernel
theorem dX5_run_9 : decode cX5_run 9 = .ok (.bipush 20, 2) := by decide +kernel
theorem dX5_run_11 : decode cX5_run 11 = .ok (.if_icmp .eq 13, 3) := by decide +kernel
theorem dX5_run_14 : decode cX5_run 14 = .ok (.aload_n 0, 1) := by decide +kernel
theorem dX5_run_15 : decode cX5_run 15 = .ok (.getfield 13, 3) := by decide +kernel
theorem dX5_run_18 : decode cX5_run 18 = .ok (.iconst 3, 1) := by decide +kernel
theorem dX5_run_19 : decode cX5_run 19 = .ok (.iaload, 1) := by decide +kernel
theorem dX5_run_20 : decode cX5_run 20 = .ok (.iconst 5, 1) := by decide +kernel
theorem dX5_run_21 : decode cX5_run 21 = .ok (.if_icmp .ge 9, 3) := by decide +kernel
theorem dX5_run_24 : decode cX5_run 24 = .ok (.aload_n 0, 1) := by decide +kernel
theorem dX5_run_25 : decode cX5_run 25 = .ok (.iconst 1, 1) := by decide +kernel
theorem dX5_run_26 : decode cX5_run 26 = .ok (.invokevirtual 40, 3) := by decide +kernel
theorem dX5_run_29 : decode cX5_run 29 = .ok (.ireturn, 1) := by decide +kernel
theorem dX5_run_30 : decode cX5_run 30 = .ok (.aload_n 0, 1) := by decide +kernel
theorem dX5_run_31 : decode cX5_run 31 = .ok (.invokevirtual 65, 3) := by decide +kernel
theorem dX5_run_34 : decode cX5_run 34 = .ok (.aload_n 0, 1) := by decide +kernel
theorem dX5_run_35 : decode cX5_run 35 = .ok (.getfield 26, 3) := by decide +kernel
theorem dX5_run_38 : decode cX5_run 38 = .ok (.iconst 0, 1) := by decide +kernel
theorem dX5_run_39 : decode cX5_run 39 = .ok (.aload_n 0, 1) := by decide +kernel
theorem dX5_run_40 : decode cX5_run 40 = .ok (.getfield 9, 3) := by decide +kernel
theorem dX5_run_43 : decode cX5_run 43 = .ok (.bipush 30, 2) := by decide +kernel
theorem dX5_run_45 : decode cX5_run 45 = .ok (.aload_n 0, 1) := by decide +kernel
theorem dX5_run_46 : decode cX5_run 46 = .ok (.getfield 33, 3) := by decide +kernel
theorem dX5_run_49 : decode cX5_run 49 = .ok (.imul, 1) := by decide +kernel
theorem dX5_run_50 : decode cX5_run 50 = .ok (.bipush 30, 2) := by decide +kernel
theorem dX5_run_52 : decode cX5_run 52 = .ok (.invokestatic 68, 3) := by decide +kernel
theorem dX5_run_55 : decode cX5_run 55 = .ok (.aload_n 0, 1) := by decide +kernel
theorem dX5_run_56 : decode cX5_run 56 = .ok (.dup, 1) := by decide +kernel
theorem dX5_run_57 : decode cX5_run 57 = .ok (.getfield 33, 3) := by decide +kernel
theorem dX5_run_60 : decode cX5_run 60 = .ok (.iconst 1, 1) := by decide +kernel
theorem dX5_run_61 : decode cX5_run 61 = .ok (.iadd, 1) := by decide +kernel
theorem dX5_run_62 : decode cX5_run 62 = .ok (.putfield 33, 3) := by decide +kernel
theorem dX5_run_65 : decode cX5_run 65 = .ok (.aload_n 0, 1) := by decide +kernel
theorem dX5_run_66 : decode cX5_run 66 = .ok (.getfield 33, 3) := by decide +kernel
theorem dX5_run_69 : decode cX5_run 69 = .ok (.iconst 1, 1) := by decide +kernel
theorem dX5_run_70 : decode cX5_run 70 = .ok (.isub, 1) := by decide +kernel
theorem dX5_run_71 : decode cX5_run 71 = .ok (.ireturn, 1) := by decide +kernel
set_option maxRecDepth 20000 in
theorem ggX5_faults_X5_isSheet : GoodIn wsX5_faults wsX5_isSheet := goodIn_r _ [7, 8, 9, 10, 6, 11, 19, 20, 21, 22, 23, 24, 25, 26] (by decide +kernel) (by decide +kernel)
set_option maxRecDepth 20000 in
theorem gX5_faults_X5_isSheet : GoodIn wsX5_faults (wsV RX5 74 RX5 yX5_isSheet wsX5_isSheet) := goodIn_app (goodIn_of _ (by decide +kernel)) ggX5_faults_X5_isSheet
set_option maxRecDepth 20000 in
theorem ggX5_faults_X5_isPlace : GoodIn wsX5_faults wsX5_isPlace := goodIn_r _ [14, 9, 10, 6, 11] (by decide +kernel) (by decide +kernel)
set_option maxRecDepth 20000 in
theorem gX5_faults_X5_isPlace : GoodIn wsX5_faults (va_wsS RX5 44 yX5_isPlace wsX5_isPlace) := goodIn_app (goodIn_of _ (by decide +kernel)) ggX5_faults_X5_isPlace
set_option maxRecDepth 20000 in
theorem ggX5_faults_X5_fail : GoodIn wsX5_faults wsX5_fail := goodIn_r _ [18, 1, 19, 20, 21, 22, 23, 24, 25, 26] (by decide +kernel) (by decide +kernel)
set_option maxRecDepth 20000 in
theorem gX5_faults_X5_fail : GoodIn wsX5_faults (wsV RX5 40 RX5 yX5_fail wsX5_fail) := goodIn_app (goodIn_of _ (by decide +kernel)) ggX5_faults_X5_fail
theorem dX5_faults_0 : decode cX5_faults 0 = .ok (.aload_n 0, 1) := by decide +kernel
theorem dX5_faults_1 : decode cX5_faults 1 = .ok (.iconst 0, 1) := by decide +kernel
theorem dX5_faults_2 : decode cX5_faults 2 = .ok (.putfield 29, 3) := by decide +kernel
theorem dX5_faults_5 : decode cX5_faults 5 = .ok (.aload_n 0, 1) := by decide +kernel
theorem dX5_faults_6 : decode cX5_faults 6 = .ok (.iload_n 1, 1) := by decide +kernel
theorem dX5_faults_7 : decode cX5_faults 7 = .ok (.invokevirtual 74, 3) := by decide +kernel
theorem dX5_faults_10 : decode cX5_faults 10 = .ok (.ifCond .eq 33, 3) := by decide +kernel
theorem dX5_faults_13 : decode cX5_faults 13 = .ok (.iload_n 2, 1) := by decide +kernel
theorem dX5_faults_14 : decode cX5_faults 14 = .ok (.iload_n 3, 1) := by decide +kernel
theorem dX5_faults_15 : decode cX5_faults 15 = .ok (.invokestatic 44, 3) := by decide +kernel
theorem dX5_faults_18 : decode cX5_faults 18 = .ok (.ifCond .eq 25, 3) := by decide +kernel
theorem dX5_faults_21 : decode cX5_faults 21 = .ok (.aload_n 0, 1) := by decide +kernel
theorem dX5_faults_22 : decode cX5_faults 22 = .ok (.getfield 9, 3) := by decide +kernel
theorem dX5_faults_25 : decode cX5_faults 25 = .ok (.bipush 30, 2) := by decide +kernel
theorem dX5_faults_27 : decode cX5_faults 27 = .ok (.iload_n 1, 1) := by decide +kernel
theorem dX5_faults_28 : decode cX5_faults 28 = .ok (.imul, 1) := by decide +kernel
theorem dX5_faults_29 : decode cX5_faults 29 = .ok (.bipush 6, 2) := by decide +kernel
theorem dX5_faults_31 : decode cX5_faults 31 = .ok (.iload_n 2, 1) := by decide +kernel
theorem dX5_faults_32 : decode cX5_faults 32 = .ok (.imul, 1) := by decide +kernel
theorem dX5_faults_33 : decode cX5_faults 33 = .ok (.iadd, 1) := by decide +kernel
theorem dX5_faults_34 : decode cX5_faults 34 = .ok (.iload_n 3, 1) := by decide +kernel
theorem dX5_faults_35 : decode cX5_faults 35 = .ok (.iadd, 1) := by decide +kernel
theorem dX5_faults_36 : decode cX5_faults 36 = .ok (.iaload, 1) := by decide +kernel
theorem dX5_faults_37 : decode cX5_faults 37 = .ok (.bipush 32, 2) := by decide +kernel
theorem dX5_faults_39 : decode cX5_faults 39 = .ok (.irem, 1) := by decide +kernel
theorem dX5_faults_40 : decode cX5_faults 40 = .ok (.goto 8, 3) := by decide +kernel
theorem dX5_faults_43 : decode cX5_faults 43 = .ok (.aload_n 0, 1) := by decide +kernel
theorem dX5_faults_44 : decode cX5_faults 44 = .ok (.iconst 1, 1) := by decide +kernel
theorem dX5_faults_45 : decode cX5_faults 45 = .ok (.invokevirtual 40, 3) := by decide +kernel
theorem dX5_faults_48 : decode cX5_faults 48 = .ok (.ireturn, 1) := by decide +kernel
theorem dX5_worth_0 : decode cX5_worth 0 = .ok (.iload_n 0, 1) := by decide +kernel
theorem dX5_worth_1 : decode cX5_worth 1 = .ok (.bipush 32, 2) := by decide +kernel
theorem dX5_worth_3 : decode cX5_worth 3 = .ok (.if_icmp .ge 10, 3) := by decide +kernel
theorem dX5_worth_6 : decode cX5_worth 6 = .ok (.iload_n 0, 1) := by decide +kernel
theorem dX5_worth_7 : decode cX5_worth 7 = .ok (.bipush 7, 2) := by decide +kernel
theorem dX5_worth_9 : decode cX5_worth 9 = .ok (.iand, 1) := by decide +kernel
theorem dX5_worth_10 : decode cX5_worth 10 = .ok (.ifCond .eq 7, 3) := by decide +kernel
theorem dX5_worth_13 : decode cX5_worth 13 = .ok (.iconst 0, 1) := by decide +kernel
theorem dX5_worth_14 : decode cX5_worth 14 = .ok (.goto 31, 3) := by decide +kernel
theorem dX5_worth_17 : decode cX5_worth 17 = .ok (.iconst 1, 1) := by decide +kernel
theorem dX5_worth_18 : decode cX5_worth 18 = .ok (.iload_n 0, 1) := by decide +kernel
theorem dX5_worth_19 : decode cX5_worth 19 = .ok (.bipush 8, 2) := by decide +kernel
theorem dX5_worth_21 : decode cX5_worth 21 = .ok (.iand, 1) := by decide +kernel
theorem dX5_worth_22 : decode cX5_worth 22 = .ok (.ifCond .eq 8, 3) := by decide +kernel
theorem dX5_worth_25 : decode cX5_worth 25 = .ok (.bipush 20, 2) := by decide +kernel
theorem dX5_worth_27 : decode cX5_worth 27 = .ok (.goto 4, 3) := by decide +kernel
theorem dX5_worth_30 : decode cX5_worth 30 = .ok (.iconst 0, 1) := by decide +kernel
theorem dX5_worth_31 : decode cX5_worth 31 = .ok (.iadd, 1) := by decide +kernel
theorem dX5_worth_32 : decode cX5_worth 32 = .ok (.iload_n 0, 1) := by decide +kernel
theorem dX5_worth_33 : decode cX5_worth 33 = .ok (.bipush 16, 2) := by decide +kernel
theorem dX5_worth_35 : decode cX5_worth 35 = .ok (.iand, 1) := by decide +kernel
theorem dX5_worth_36 : decode cX5_worth 36 = .ok (.ifCond .eq 7, 3) := by decide +kernel
theorem dX5_worth_39 : decode cX5_worth 39 = .ok (.iconst 4, 1) := by decide +kernel
theorem dX5_worth_40 : decode cX5_worth 40 = .ok (.goto 4, 3) := by decide +kernel
theorem dX5_worth_43 : decode cX5_worth 43 = .ok (.iconst 0, 1) := by decide +kernel
theorem dX5_worth_44 : decode cX5_worth 44 = .ok (.iadd, 1) := by decide +kernel
theorem dX5_worth_45 : decode cX5_worth 45 = .ok (.ireturn, 1) := by decide +kernel
set_option maxRecDepth 20000 in
theorem ggX5_tear_X5_isSheet : GoodIn wsX5_tear wsX5_isSheet := goodIn_r _ [7, 8, 9, 10, 6, 11, 22, 23, 24, 25, 26, 27, 28, 29] (by decide +kernel) (by decide +kernel)
set_option maxRecDepth 20000 in
theorem gX5_tear_X5_isSheet : GoodIn wsX5_tear (wsV RX5 74 RX5 yX5_isSheet wsX5_isSheet) := goodIn_app (goodIn_of _ (by decide +kernel)) ggX5_tear_X5_isSheet
set_option maxRecDepth 20000 in
theorem ggX5_tear_X5_isPlace : GoodIn wsX5_tear wsX5_isPlace := goodIn_r _ [14, 9, 10, 6, 11] (by decide +kernel) (by decide +kernel)
set_option maxRecDepth 20000 in
theorem gX5_tear_X5_isPlace : GoodIn wsX5_tear (va_wsS RX5 44 yX5_isPlace wsX5_isPlace) := goodIn_app (goodIn_of _ (by decide +kernel)) ggX5_tear_X5_isPlace
set_option maxRecDepth 20000 in
theorem ggX5_tear_X5_fail : GoodIn wsX5_tear wsX5_fail := goodIn_r _ [18, 1, 22, 23, 24, 25, 26, 27, 28, 29] (by decide +kernel) (by decide +kernel)
set_option maxRecDepth 20000 in
theorem gX5_tear_X5_fail : GoodIn wsX5_tear (wsV RX5 40 RX5 yX5_fail wsX5_fail) := goodIn_app (goodIn_of _ (by decide +kernel)) ggX5_tear_X5_fail
set_option maxRecDepth 20000 in
theorem ggX5_tear_X5_worth : GoodIn wsX5_tear wsX5_worth := goodIn_r _ [21] (by decide +kernel) (by decide +kernel)
set_option maxRecDepth 20000 in
theorem gX5_tear_X5_worth : GoodIn wsX5_tear (va_wsS RX5 77 yX5_worth wsX5_worth) := goodIn_app (goodIn_of _ (by decide +kernel)) ggX5_tear_X5_worth
theorem dX5_tear_0 : decode cX5_tear 0 = .ok (.aload_n 0, 1) := by decide +kernel
theorem dX5_tear_1 : decode cX5_tear 1 = .ok (.iconst 0, 1) := by decide +kernel
theorem dX5_tear_2 : decode cX5_tear 2 = .ok (.putfield 29, 3) := by decide +kernel
theorem dX5_tear_5 : decode cX5_tear 5 = .ok (.aload_n 0, 1) := by decide +kernel
theorem dX5_tear_6 : decode cX5_tear 6 = .ok (.iload_n 1, 1) := by decide +kernel
theorem dX5_tear_7 : decode cX5_tear 7 = .ok (.invokevirtual 74, 3) := by decide +kernel
theorem dX5_tear_10 : decode cX5_tear 10 = .ok (.ifCond .eq 11, 3) := by decide +kernel
theorem dX5_tear_13 : decode cX5_tear 13 = .ok (.iload_n 2, 1) := by decide +kernel
theorem dX5_tear_14 : decode cX5_tear 14 = .ok (.iload_n 3, 1) := by decide +kernel
theorem dX5_tear_15 : decode cX5_tear 15 = .ok (.invokestatic 44, 3) := by decide +kernel
theorem dX5_tear_18 : decode cX5_tear 18 = .ok (.ifCond .ne 9, 3) := by decide +kernel
theorem dX5_tear_21 : decode cX5_tear 21 = .ok (.aload_n 0, 1) := by decide +kernel
theorem dX5_tear_22 : decode cX5_tear 22 = .ok (.iconst 1, 1) := by decide +kernel
theorem dX5_tear_23 : decode cX5_tear 23 = .ok (.invokevirtual 40, 3) := by decide +kernel
theorem dX5_tear_26 : decode cX5_tear 26 = .ok (.ireturn, 1) := by decide +kernel
theorem dX5_tear_27 : decode cX5_tear 27 = .ok (.bipush 30, 2) := by decide +kernel
theorem dX5_tear_29 : decode cX5_tear 29 = .ok (.iload_n 1, 1) := by decide +kernel
theorem dX5_tear_30 : decode cX5_tear 30 = .ok (.imul, 1) := by decide +kernel
theorem dX5_tear_31 : decode cX5_tear 31 = .ok (.bipush 6, 2) := by decide +kernel
theorem dX5_tear_33 : decode cX5_tear 33 = .ok (.iload_n 2, 1) := by decide +kernel
theorem dX5_tear_34 : decode cX5_tear 34 = .ok (.imul, 1) := by decide +kernel
theorem dX5_tear_35 : decode cX5_tear 35 = .ok (.iadd, 1) := by decide +kernel
theorem dX5_tear_36 : decode cX5_tear 36 = .ok (.iload_n 3, 1) := by decide +kernel
theorem dX5_tear_37 : decode cX5_tear 37 = .ok (.iadd, 1) := by decide +kernel
theorem dX5_tear_38 : decode cX5_tear 38 = .ok (.istore 4, 2) := by decide +kernel
theorem dX5_tear_40 : decode cX5_tear 40 = .ok (.aload_n 0, 1) := by decide +kernel
theorem dX5_tear_41 : decode cX5_tear 41 = .ok (.getfield 9, 3) := by decide +kernel
theorem dX5_tear_44 : decode cX5_tear 44 = .ok (.iload 4, 2) := by decide +kernel
theorem dX5_tear_46 : decode cX5_tear 46 = .ok (.iaload, 1) := by decide +kernel
theorem dX5_tear_47 : decode cX5_tear 47 = .ok (.bipush 32, 2) := by decide +kernel
theorem dX5_tear_49 : decode cX5_tear 49 = .ok (.if_icmp .lt 9, 3) := by decide +kernel
theorem dX5_tear_52 : decode cX5_tear 52 = .ok (.aload_n 0, 1) := by decide +kernel
theorem dX5_tear_53 : decode cX5_tear 53 = .ok (.iconst 2, 1) := by decide +kernel
theorem dX5_tear_54 : decode cX5_tear 54 = .ok (.invokevirtual 40, 3) := by decide +kernel
theorem dX5_tear_57 : decode cX5_tear 57 = .ok (.ireturn, 1) := by decide +kernel
theorem dX5_tear_58 : decode cX5_tear 58 = .ok (.aload_n 0, 1) := by decide +kernel
theorem dX5_tear_59 : decode cX5_tear 59 = .ok (.getfield 9, 3) := by decide +kernel
theorem dX5_tear_62 : decode cX5_tear 62 = .ok (.iload 4, 2) := by decide +kernel
theorem dX5_tear_64 : decode cX5_tear 64 = .ok (.iaload, 1) := by decide +kernel
theorem dX5_tear_65 : decode cX5_tear 65 = .ok (.invokestatic 77, 3) := by decide +kernel
theorem dX5_tear_68 : decode cX5_tear 68 = .ok (.istore 5, 2) := by decide +kernel
theorem dX5_tear_70 : decode cX5_tear 70 = .ok (.aload_n 0, 1) := by decide +kernel
theorem dX5_tear_71 : decode cX5_tear 71 = .ok (.getfield 9, 3) := by decide +kernel
theorem dX5_tear_74 : decode cX5_tear 74 = .ok (.iload 4, 2) := by decide +kernel
theorem dX5_tear_76 : decode cX5_tear 76 = .ok (.dup2, 1) := by decide +kernel
theorem dX5_tear_77 : decode cX5_tear 77 = .ok (.iaload, 1) := by decide +kernel
theorem dX5_tear_78 : decode cX5_tear 78 = .ok (.bipush 32, 2) := by decide +kernel
theorem dX5_tear_80 : decode cX5_tear 80 = .ok (.iadd, 1) := by decide +kernel
theorem dX5_tear_81 : decode cX5_tear 81 = .ok (.iastore, 1) := by decide +kernel
theorem dX5_tear_82 : decode cX5_tear 82 = .ok (.iload 5, 2) := by decide +kernel
theorem dX5_tear_84 : decode cX5_tear 84 = .ok (.ireturn, 1) := by decide +kernel
theorem dX5_pairs_0 : decode cX5_pairs 0 = .ok (.iconst 0, 1) := by decide +kernel
theorem dX5_pairs_1 : decode cX5_pairs 1 = .ok (.istore_n 2, 1) := by decide +kernel
theorem dX5_pairs_2 : decode cX5_pairs 2 = .ok (.iconst 0, 1) := by decide +kernel
theorem dX5_pairs_3 : decode cX5_pairs 3 = .ok (.istore_n 3, 1) := by decide +kernel
theorem dX5_pairs_4 : decode cX5_pairs 4 = .ok (.iload_n 3, 1) := by decide +kernel
theorem dX5_pairs_5 : decode cX5_pairs 5 = .ok (.bipush 30, 2) := by decide +kernel
theorem dX5_pairs_7 : decode cX5_pairs 7 = .ok (.if_icmp .ge 81, 3) := by decide +kernel
theorem dX5_pairs_10 : decode cX5_pairs 10 = .ok (.iload_n 3, 1) := by decide +kernel
theorem dX5_pairs_11 : decode cX5_pairs 11 = .ok (.bipush 6, 2) := by decide +kernel
theorem dX5_pairs_13 : decode cX5_pairs 13 = .ok (.irem, 1) := by decide +kernel
theorem dX5_pairs_14 : decode cX5_pairs 14 = .ok (.iconst 5, 1) := by decide +kernel
theorem dX5_pairs_15 : decode cX5_pairs 15 = .ok (.if_icmp .eq 67, 3) := by decide +kernel
theorem dX5_pairs_18 : decode cX5_pairs 18 = .ok (.aload_n 0, 1) := by decide +kernel
theorem dX5_pairs_19 : decode cX5_pairs 19 = .ok (.getfield 9, 3) := by decide +kernel
theorem dX5_pairs_22 : decode cX5_pairs 22 = .ok (.iload_n 1, 1) := by decide +kernel
theorem dX5_pairs_23 : decode cX5_pairs 23 = .ok (.iload_n 3, 1) := by decide +kernel
theorem dX5_pairs_24 : decode cX5_pairs 24 = .ok (.iadd, 1) := by decide +kernel
theorem dX5_pairs_25 : decode cX5_pairs 25 = .ok (.iaload, 1) := by decide +kernel
theorem dX5_pairs_26 : decode cX5_pairs 26 = .ok (.bipush 32, 2) := by decide +kernel
theorem dX5_pairs_28 : decode cX5_pairs 28 = .ok (.if_icmp .ge 54, 3) := by decide +kernel
theorem dX5_pairs_31 : decode cX5_pairs 31 = .ok (.aload_n 0, 1) := by decide +kernel
theorem dX5_pairs_32 : decode cX5_pairs 32 = .ok (.getfield 9, 3) := by decide +kernel
theorem dX5_pairs_35 : decode cX5_pairs 35 = .ok (.iload_n 1, 1) := by decide +kernel
theorem dX5_pairs_36 : decode cX5_pairs 36 = .ok (.iload_n 3, 1) := by decide +kernel
theorem dX5_pairs_37 : decode cX5_pairs 37 = .ok (.iadd, 1) := by decide +kernel
theorem dX5_pairs_38 : decode cX5_pairs 38 = .ok (.iconst 1, 1) := by decide +kernel
theorem dX5_pairs_39 : decode cX5_pairs 39 = .ok (.iadd, 1) := by decide +kernel
theorem dX5_pairs_40 : decode cX5_pairs 40 = .ok (.iaload, 1) := by decide +kernel
theorem dX5_pairs_41 : decode cX5_pairs 41 = .ok (.bipush 32, 2) := by decide +kernel
theorem dX5_pairs_43 : decode cX5_pairs 43 = .ok (.if_icmp .lt 6, 3) := by decide +kernel
theorem dX5_pairs_46 : decode cX5_pairs 46 = .ok (.goto 36, 3) := by decide +kernel
theorem dX5_pairs_49 : decode cX5_pairs 49 = .ok (.iload_n 2, 1) := by decide +kernel
theorem dX5_pairs_50 : decode cX5_pairs 50 = .ok (.aload_n 0, 1) := by decide +kernel
theorem dX5_pairs_51 : decode cX5_pairs 51 = .ok (.getfield 9, 3) := by decide +kernel
theorem dX5_pairs_54 : decode cX5_pairs 54 = .ok (.iload_n 1, 1) := by decide +kernel
theorem dX5_pairs_55 : decode cX5_pairs 55 = .ok (.iload_n 3, 1) := by decide +kernel
theorem dX5_pairs_56 : decode cX5_pairs 56 = .ok (.iadd, 1) := by decide +kernel
theorem dX5_pairs_57 : decode cX5_pairs 57 = .ok (.iaload, 1) := by decide +kernel
theorem dX5_pairs_58 : decode cX5_pairs 58 = .ok (.aload_n 0, 1) := by decide +kernel
theorem dX5_pairs_59 : decode cX5_pairs 59 = .ok (.getfield 9, 3) := by decide +kernel
theorem dX5_pairs_62 : decode cX5_pairs 62 = .ok (.iload_n 1, 1) := by decide +kernel
theorem dX5_pairs_63 : decode cX5_pairs 63 = .ok (.iload_n 3, 1) := by decide +kernel
theorem dX5_pairs_64 : decode cX5_pairs 64 = .ok (.iadd, 1) := by decide +kernel
theorem dX5_pairs_65 : decode cX5_pairs 65 = .ok (.iconst 1, 1) := by decide +kernel
theorem dX5_pairs_66 : decode cX5_pairs 66 = .ok (.iadd, 1) := by decide +kernel
theorem dX5_pairs_67 : decode cX5_pairs 67 = .ok (.iaload, 1) := by decide +kernel
theorem dX5_pairs_68 : decode cX5_pairs 68 = .ok (.ixor, 1) := by decide +kernel
theorem dX5_pairs_69 : decode cX5_pairs 69 = .ok (.bipush 8, 2) := by decide +kernel
theorem dX5_pairs_71 : decode cX5_pairs 71 = .ok (.iand, 1) := by decide +kernel
theorem dX5_pairs_72 : decode cX5_pairs 72 = .ok (.ifCond .eq 7, 3) := by decide +kernel
theorem dX5_pairs_75 : decode cX5_pairs 75 = .ok (.iconst 1, 1) := by decide +kernel
theorem dX5_pairs_76 : decode cX5_pairs 76 = .ok (.goto 4, 3) := by decide +kernel
theorem dX5_pairs_79 : decode cX5_pairs 79 = .ok (.iconst 0, 1) := by decide +kernel
theorem dX5_pairs_80 : decode cX5_pairs 80 = .ok (.iadd, 1) := by decide +kernel
theorem dX5_pairs_81 : decode cX5_pairs 81 = .ok (.istore_n 2, 1) := by decide +kernel
theorem dX5_pairs_82 : decode cX5_pairs 82 = .ok (.iinc 3 1, 3) := by decide +kernel
theorem dX5_pairs_85 : decode cX5_pairs 85 = .ok (.goto (-81), 3) := by decide +kernel
theorem dX5_pairs_88 : decode cX5_pairs 88 = .ok (.iload_n 2, 1) := by decide +kernel
theorem dX5_pairs_89 : decode cX5_pairs 89 = .ok (.ireturn, 1) := by decide +kernel
theorem dX5_isClean_0 : decode cX5_isClean 0 = .ok (.iload_n 2, 1) := by decide +kernel
theorem dX5_isClean_1 : decode cX5_isClean 1 = .ok (.istore 6, 2) := by decide +kernel
theorem dX5_isClean_3 : decode cX5_isClean 3 = .ok (.iload 6, 2) := by decide +kernel
theorem dX5_isClean_5 : decode cX5_isClean 5 = .ok (.iload_n 3, 1) := by decide +kernel
theorem dX5_isClean_6 : decode cX5_isClean 6 = .ok (.if_icmp .gt 46, 3) := by decide +kernel
theorem dX5_isClean_9 : decode cX5_isClean 9 = .ok (.iload 4, 2) := by decide +kernel
theorem dX5_isClean_11 : decode cX5_isClean 11 = .ok (.istore 7, 2) := by decide +kernel
theorem dX5_isClean_13 : decode cX5_isClean 13 = .ok (.iload 7, 2) := by decide +kernel
theorem dX5_isClean_15 : decode cX5_isClean 15 = .ok (.iload 5, 2) := by decide +kernel
theorem dX5_isClean_17 : decode cX5_isClean 17 = .ok (.if_icmp .gt 29, 3) := by decide +kernel
theorem dX5_isClean_20 : decode cX5_isClean 20 = .ok (.aload_n 0, 1) := by decide +kernel
theorem dX5_isClean_21 : decode cX5_isClean 21 = .ok (.getfield 9, 3) := by decide +kernel
theorem dX5_isClean_24 : decode cX5_isClean 24 = .ok (.iload_n 1, 1) := by decide +kernel
theorem dX5_isClean_25 : decode cX5_isClean 25 = .ok (.bipush 6, 2) := by decide +kernel
theorem dX5_isClean_27 : decode cX5_isClean 27 = .ok (.iload 6, 2) := by decide +kernel
theorem dX5_isClean_29 : decode cX5_isClean 29 = .ok (.imul, 1) := by decide +kernel
theorem dX5_isClean_30 : decode cX5_isClean 30 = .ok (.iadd, 1) := by decide +kernel
theorem dX5_isClean_31 : decode cX5_isClean 31 = .ok (.iload 7, 2) := by decide +kernel
theorem dX5_isClean_33 : decode cX5_isClean 33 = .ok (.iadd, 1) := by decide +kernel
theorem dX5_isClean_34 : decode cX5_isClean 34 = .ok (.iaload, 1) := by decide +kernel
theorem dX5_isClean_35 : decode cX5_isClean 35 = .ok (.ifCond .eq 5, 3) := by decide +kernel
theorem dX5_isClean_38 : decode cX5_isClean 38 = .ok (.iconst 0, 1) := by decide +kernel
theorem dX5_isClean_39 : decode cX5_isClean 39 = .ok (.ireturn, 1) := by decide +kernel
theorem dX5_isClean_40 : decode cX5_isClean 40 = .ok (.iinc 7 1, 3) := by decide +kernel
theorem dX5_isClean_43 : decode cX5_isClean 43 = .ok (.goto (-30), 3) := by decide +kernel
theorem dX5_isClean_46 : decode cX5_isClean 46 = .ok (.iinc 6 1, 3) := by decide +kernel
theorem dX5_isClean_49 : decode cX5_isClean 49 = .ok (.goto (-46), 3) := by decide +kernel
theorem dX5_isClean_52 : decode cX5_isClean 52 = .ok (.iconst 1, 1) := by decide +kernel
theorem dX5_isClean_53 : decode cX5_isClean 53 = .ok (.ireturn, 1) := by decide +kernel
set_option maxRecDepth 20000 in
theorem ggX5_block_X5_isClean : GoodIn wsX5_block wsX5_isClean := goodIn_r _ [9, 10, 11, 12, 13, 14, 15, 16, 17, 18] (by decide +kernel) (by decide +kernel)
set_option maxRecDepth 20000 in
theorem gX5_block_X5_isClean : GoodIn wsX5_block (wsV RX5 80 RX5 yX5_isClean wsX5_isClean) := goodIn_app (goodIn_of _ (by decide +kernel)) ggX5_block_X5_isClean
theorem dX5_block_0 : decode cX5_block 0 = .ok (.iconst 0, 1) := by decide +kernel
theorem dX5_block_1 : decode cX5_block 1 = .ok (.istore_n 2, 1) := by decide +kernel
theorem dX5_block_2 : decode cX5_block 2 = .ok (.iconst 0, 1) := by decide +kernel
theorem dX5_block_3 : decode cX5_block 3 = .ok (.istore_n 3, 1) := by decide +kernel
theorem dX5_block_4 : decode cX5_block 4 = .ok (.iload_n 3, 1) := by decide +kernel
theorem dX5_block_5 : decode cX5_block 5 = .ok (.iconst 5, 1) := by decide +kernel
theorem dX5_block_6 : decode cX5_block 6 = .ok (.if_icmp .ge 91, 3) := by decide +kernel
theorem dX5_block_9 : decode cX5_block 9 = .ok (.iload_n 3, 1) := by decide +kernel
theorem dX5_block_10 : decode cX5_block 10 = .ok (.istore 4, 2) := by decide +kernel
theorem dX5_block_12 : decode cX5_block 12 = .ok (.iload 4, 2) := by decide +kernel
theorem dX5_block_14 : decode cX5_block 14 = .ok (.iconst 5, 1) := by decide +kernel
theorem dX5_block_15 : decode cX5_block 15 = .ok (.if_icmp .ge 76, 3) := by decide +kernel
theorem dX5_block_18 : decode cX5_block 18 = .ok (.iconst 0, 1) := by decide +kernel
theorem dX5_block_19 : decode cX5_block 19 = .ok (.istore 5, 2) := by decide +kernel
theorem dX5_block_21 : decode cX5_block 21 = .ok (.iload 5, 2) := by decide +kernel
theorem dX5_block_23 : decode cX5_block 23 = .ok (.bipush 6, 2) := by decide +kernel
theorem dX5_block_25 : decode cX5_block 25 = .ok (.if_icmp .ge 60, 3) := by decide +kernel
theorem dX5_block_28 : decode cX5_block 28 = .ok (.iload 5, 2) := by decide +kernel
theorem dX5_block_30 : decode cX5_block 30 = .ok (.istore 6, 2) := by decide +kernel
theorem dX5_block_32 : decode cX5_block 32 = .ok (.iload 6, 2) := by decide +kernel
theorem dX5_block_34 : decode cX5_block 34 = .ok (.bipush 6, 2) := by decide +kernel
theorem dX5_block_36 : decode cX5_block 36 = .ok (.if_icmp .ge 43, 3) := by decide +kernel
theorem dX5_block_39 : decode cX5_block 39 = .ok (.aload_n 0, 1) := by decide +kernel
theorem dX5_block_40 : decode cX5_block 40 = .ok (.iload_n 1, 1) := by decide +kernel
theorem dX5_block_41 : decode cX5_block 41 = .ok (.iload_n 3, 1) := by decide +kernel
theorem dX5_block_42 : decode cX5_block 42 = .ok (.iload 4, 2) := by decide +kernel
theorem dX5_block_44 : decode cX5_block 44 = .ok (.iload 5, 2) := by decide +kernel
theorem dX5_block_46 : decode cX5_block 46 = .ok (.iload 6, 2) := by decide +kernel
theorem dX5_block_48 : decode cX5_block 48 = .ok (.invokevirtual 80, 3) := by decide +kernel
theorem dX5_block_51 : decode cX5_block 51 = .ok (.ifCond .eq 22, 3) := by decide +kernel
theorem dX5_block_54 : decode cX5_block 54 = .ok (.iload_n 2, 1) := by decide +kernel
theorem dX5_block_55 : decode cX5_block 55 = .ok (.iload 4, 2) := by decide +kernel
theorem dX5_block_57 : decode cX5_block 57 = .ok (.iload_n 3, 1) := by decide +kernel
theorem dX5_block_58 : decode cX5_block 58 = .ok (.isub, 1) := by decide +kernel
theorem dX5_block_59 : decode cX5_block 59 = .ok (.iconst 1, 1) := by decide +kernel
theorem dX5_block_60 : decode cX5_block 60 = .ok (.iadd, 1) := by decide +kernel
theorem dX5_block_61 : decode cX5_block 61 = .ok (.iload 6, 2) := by decide +kernel
theorem dX5_block_63 : decode cX5_block 63 = .ok (.iload 5, 2) := by decide +kernel
theorem dX5_block_65 : decode cX5_block 65 = .ok (.isub, 1) := by decide +kernel
theorem dX5_block_66 : decode cX5_block 66 = .ok (.iconst 1, 1) := by decide +kernel
theorem dX5_block_67 : decode cX5_block 67 = .ok (.iadd, 1) := by decide +kernel
theorem dX5_block_68 : decode cX5_block 68 = .ok (.imul, 1) := by decide +kernel
theorem dX5_block_69 : decode cX5_block 69 = .ok (.invokestatic 62, 3) := by decide +kernel
theorem dX5_block_72 : decode cX5_block 72 = .ok (.istore_n 2, 1) := by decide +kernel
theorem dX5_block_73 : decode cX5_block 73 = .ok (.iinc 6 1, 3) := by decide +kernel
theorem dX5_block_76 : decode cX5_block 76 = .ok (.goto (-44), 3) := by decide +kernel
theorem dX5_block_79 : decode cX5_block 79 = .ok (.iinc 5 1, 3) := by decide +kernel
theorem dX5_block_82 : decode cX5_block 82 = .ok (.goto (-61), 3) := by decide +kernel
theorem dX5_block_85 : decode cX5_block 85 = .ok (.iinc 4 1, 3) := by decide +kernel
theorem dX5_block_88 : decode cX5_block 88 = .ok (.goto (-76), 3) := by decide +kernel
theorem dX5_block_91 : decode cX5_block 91 = .ok (.iinc 3 1, 3) := by decide +kernel
theorem dX5_block_94 : decode cX5_block 94 = .ok (.goto (-90), 3) := by decide +kernel
theorem dX5_block_97 : decode cX5_block 97 = .ok (.iload_n 2, 1) := by decide +kernel
theorem dX5_block_98 : decode cX5_block 98 = .ok (.ireturn, 1) := by decide +kernel
set_option maxRecDepth 20000 in
theorem ggX5_sheetTold_X5_pairs : GoodIn wsX5_sheetTold wsX5_pairs := goodIn_r _ [6, 1, 22, 23, 24, 25, 26, 27, 28, 29] (by decide +kernel) (by decide +kernel)
set_option maxRecDepth 20000 in
theorem gX5_sheetTold_X5_pairs : GoodIn wsX5_sheetTold (wsV RX5 84 RX5 yX5_pairs wsX5_pairs) := goodIn_app (goodIn_of _ (by decide +kernel)) ggX5_sheetTold_X5_pairs
set_option maxRecDepth 20000 in
theorem ggX5_sheetTold_X5_block : GoodIn wsX5_sheetTold wsX5_block := goodIn_r _ [10, 11, 12, 13, 14, 15, 16, 17, 5, 18, 1, 22, 23, 24, 25, 26, 27, 28, 29] (by decide +kernel) (by decide +kernel)
set_option maxRecDepth 20000 in
theorem gX5_sheetTold_X5_block : GoodIn wsX5_sheetTold (wsV RX5 87 RX5 yX5_block wsX5_block) := goodIn_app (goodIn_of _ (by decide +kernel)) ggX5_sheetTold_X5_block
set_option maxRecDepth 20000 in
theorem ggX5_sheetTold_X5_worth : GoodIn wsX5_sheetTold wsX5_worth := goodIn_r _ [21] (by decide +kernel) (by decide +kernel)
set_option maxRecDepth 20000 in
theorem gX5_sheetTold_X5_worth : GoodIn wsX5_sheetTold (va_wsS RX5 77 yX5_worth wsX5_worth) := goodIn_app (goodIn_of _ (by decide +kernel)) ggX5_sheetTold_X5_worth
theorem dX5_sheetTold_0 : decode cX5_sheetTold 0 = .ok (.bipush 30, 2) := by decide +kernel
theorem dX5_sheetTold_2 : decode cX5_sheetTold 2 = .ok (.iload_n 1, 1) := by decide +kernel
theorem dX5_sheetTold_3 : decode cX5_sheetTold 3 = .ok (.imul, 1) := by decide +kernel
theorem dX5_sheetTold_4 : decode cX5_sheetTold 4 = .ok (.istore_n 3, 1) := by decide +kernel
theorem dX5_sheetTold_5 : decode cX5_sheetTold 5 = .ok (.iconst 0, 1) := by decide +kernel
theorem dX5_sheetTold_6 : decode cX5_sheetTold 6 = .ok (.istore 4, 2) := by decide +kernel
theorem dX5_sheetTold_8 : decode cX5_sheetTold 8 = .ok (.iload_n 2, 1) := by decide +kernel
theorem dX5_sheetTold_9 : decode cX5_sheetTold 9 = .ok (.iconst 3, 1) := by decide +kernel
theorem dX5_sheetTold_10 : decode cX5_sheetTold 10 = .ok (.if_icmp .ne 9, 3) := by decide +kernel
theorem dX5_sheetTold_13 : decode cX5_sheetTold 13 = .ok (.aload_n 0, 1) := by decide +kernel
theorem dX5_sheetTold_14 : decode cX5_sheetTold 14 = .ok (.iload_n 3, 1) := by decide +kernel
theorem dX5_sheetTold_15 : decode cX5_sheetTold 15 = .ok (.invokevirtual 84, 3) := by decide +kernel
theorem dX5_sheetTold_18 : decode cX5_sheetTold 18 = .ok (.ireturn, 1) := by decide +kernel
theorem dX5_sheetTold_19 : decode cX5_sheetTold 19 = .ok (.iload_n 2, 1) := by decide +kernel
theorem dX5_sheetTold_20 : decode cX5_sheetTold 20 = .ok (.iconst 5, 1) := by decide +kernel
theorem dX5_sheetTold_21 : decode cX5_sheetTold 21 = .ok (.if_icmp .ne 9, 3) := by decide +kernel
theorem dX5_sheetTold_24 : decode cX5_sheetTold 24 = .ok (.aload_n 0, 1) := by decide +kernel
theorem dX5_sheetTold_25 : decode cX5_sheetTold 25 = .ok (.iload_n 3, 1) := by decide +kernel
theorem dX5_sheetTold_26 : decode cX5_sheetTold 26 = .ok (.invokevirtual 87, 3) := by decide +kernel
theorem dX5_sheetTold_29 : decode cX5_sheetTold 29 = .ok (.ireturn, 1) := by decide +kernel
theorem dX5_sheetTold_30 : decode cX5_sheetTold 30 = .ok (.iconst 0, 1) := by decide +kernel
theorem dX5_sheetTold_31 : decode cX5_sheetTold 31 = .ok (.istore 5, 2) := by decide +kernel
theorem dX5_sheetTold_33 : decode cX5_sheetTold 33 = .ok (.iload 5, 2) := by decide +kernel
theorem dX5_sheetTold_35 : decode cX5_sheetTold 35 = .ok (.bipush 30, 2) := by decide +kernel
theorem dX5_sheetTold_37 : decode cX5_sheetTold 37 = .ok (.if_icmp .ge 98, 3) := by decide +kernel
theorem dX5_sheetTold_40 : decode cX5_sheetTold 40 = .ok (.aload_n 0, 1) := by decide +kernel
theorem dX5_sheetTold_41 : decode cX5_sheetTold 41 = .ok (.getfield 9, 3) := by decide +kernel
theorem dX5_sheetTold_44 : decode cX5_sheetTold 44 = .ok (.iload_n 3, 1) := by decide +kernel
theorem dX5_sheetTold_45 : decode cX5_sheetTold 45 = .ok (.iload 5, 2) := by decide +kernel
theorem dX5_sheetTold_47 : decode cX5_sheetTold 47 = .ok (.iadd, 1) := by decide +kernel
theorem dX5_sheetTold_48 : decode cX5_sheetTold 48 = .ok (.iaload, 1) := by decide +kernel
theorem dX5_sheetTold_49 : decode cX5_sheetTold 49 = .ok (.istore 6, 2) := by decide +kernel
theorem dX5_sheetTold_51 : decode cX5_sheetTold 51 = .ok (.iload_n 2, 1) := by decide +kernel
theorem dX5_sheetTold_52 : decode cX5_sheetTold 52 = .ok (.ifCond .ne 20, 3) := by decide +kernel
theorem dX5_sheetTold_55 : decode cX5_sheetTold 55 = .ok (.iload 4, 2) := by decide +kernel
theorem dX5_sheetTold_57 : decode cX5_sheetTold 57 = .ok (.iload 6, 2) := by decide +kernel
theorem dX5_sheetTold_59 : decode cX5_sheetTold 59 = .ok (.bipush 32, 2) := by decide +kernel
theorem dX5_sheetTold_61 : decode cX5_sheetTold 61 = .ok (.if_icmp .ge 7, 3) := by decide +kernel
theorem dX5_sheetTold_64 : decode cX5_sheetTold 64 = .ok (.iconst 1, 1) := by decide +kernel
theorem dX5_sheetTold_65 : decode cX5_sheetTold 65 = .ok (.goto 4, 3) := by decide +kernel
theorem dX5_sheetTold_68 : decode cX5_sheetTold 68 = .ok (.iconst 0, 1) := by decide +kernel
theorem dX5_sheetTold_69 : decode cX5_sheetTold 69 = .ok (.iadd, 1) := by decide +kernel
theorem dX5_sheetTold_70 : decode cX5_sheetTold 70 = .ok (.istore 4, 2) := by decide +kernel
theorem dX5_sheetTold_72 : decode cX5_sheetTold 72 = .ok (.iload_n 2, 1) := by decide +kernel
theorem dX5_sheetTold_73 : decode cX5_sheetTold 73 = .ok (.iconst 1, 1) := by decide +kernel
theorem dX5_sheetTold_74 : decode cX5_sheetTold 74 = .ok (.if_icmp .ne 18, 3) := by decide +kernel
theorem dX5_sheetTold_77 : decode cX5_sheetTold 77 = .ok (.iload 4, 2) := by decide +kernel
theorem dX5_sheetTold_79 : decode cX5_sheetTold 79 = .ok (.iload 6, 2) := by decide +kernel
theorem dX5_sheetTold_81 : decode cX5_sheetTold 81 = .ok (.ifCond .ne 7, 3) := by decide +kernel
theorem dX5_sheetTold_84 : decode cX5_sheetTold 84 = .ok (.iconst 1, 1) := by decide +kernel
theorem dX5_sheetTold_85 : decode cX5_sheetTold 85 = .ok (.goto 4, 3) := by decide +kernel
theorem dX5_sheetTold_88 : decode cX5_sheetTold 88 = .ok (.iconst 0, 1) := by decide +kernel
theorem dX5_sheetTold_89 : decode cX5_sheetTold 89 = .ok (.iadd, 1) := by decide +kernel
theorem dX5_sheetTold_90 : decode cX5_sheetTold 90 = .ok (.istore 4, 2) := by decide +kernel
theorem dX5_sheetTold_92 : decode cX5_sheetTold 92 = .ok (.iload_n 2, 1) := by decide +kernel
theorem dX5_sheetTold_93 : decode cX5_sheetTold 93 = .ok (.iconst 2, 1) := by decide +kernel
theorem dX5_sheetTold_94 : decode cX5_sheetTold 94 = .ok (.if_icmp .ne 13, 3) := by decide +kernel
theorem dX5_sheetTold_97 : decode cX5_sheetTold 97 = .ok (.iload 4, 2) := by decide +kernel
theorem dX5_sheetTold_99 : decode cX5_sheetTold 99 = .ok (.iload 6, 2) := by decide +kernel
theorem dX5_sheetTold_101 : decode cX5_sheetTold 101 = .ok (.invokestatic 77, 3) := by decide +kernel
theorem dX5_sheetTold_104 : decode cX5_sheetTold 104 = .ok (.iadd, 1) := by decide +kernel
theorem dX5_sheetTold_105 : decode cX5_sheetTold 105 = .ok (.istore 4, 2) := by decide +kernel
theorem dX5_sheetTold_107 : decode cX5_sheetTold 107 = .ok (.iload_n 2, 1) := by decide +kernel
theorem dX5_sheetTold_108 : decode cX5_sheetTold 108 = .ok (.iconst 4, 1) := by decide +kernel
theorem dX5_sheetTold_109 : decode cX5_sheetTold 109 = .ok (.if_icmp .ne 20, 3) := by decide +kernel
theorem dX5_sheetTold_112 : decode cX5_sheetTold 112 = .ok (.iload 5, 2) := by decide +kernel
theorem dX5_sheetTold_114 : decode cX5_sheetTold 114 = .ok (.bipush 6, 2) := by decide +kernel
theorem dX5_sheetTold_116 : decode cX5_sheetTold 116 = .ok (.irem, 1) := by decide +kernel
theorem dX5_sheetTold_117 : decode cX5_sheetTold 117 = .ok (.ifCond .ne 12, 3) := by decide +kernel
end
section
theorem dX5_sheetTold_120 : decode cX5_sheetTold 120 = .ok (.iload 4, 2) := by decide +kernel
theorem dX5_sheetTold_122 : decode cX5_sheetTold 122 = .ok (.iload 6, 2) := by decide +kernel
theorem dX5_sheetTold_124 : decode cX5_sheetTold 124 = .ok (.iconst 1, 1) := by decide +kernel
theorem dX5_sheetTold_125 : decode cX5_sheetTold 125 = .ok (.iand, 1) := by decide +kernel
theorem dX5_sheetTold_126 : decode cX5_sheetTold 126 = .ok (.iadd, 1) := by decide +kernel
theorem dX5_sheetTold_127 : decode cX5_sheetTold 127 = .ok (.istore 4, 2) := by decide +kernel
theorem dX5_sheetTold_129 : decode cX5_sheetTold 129 = .ok (.iinc 5 1, 3) := by decide +kernel
theorem dX5_sheetTold_132 : decode cX5_sheetTold 132 = .ok (.goto (-99), 3) := by decide +kernel
theorem dX5_sheetTold_135 : decode cX5_sheetTold 135 = .ok (.iload 4, 2) := by decide +kernel
theorem dX5_sheetTold_137 : decode cX5_sheetTold 137 = .ok (.ireturn, 1) := by decide +kernel
set_option maxRecDepth 20000 in
theorem ggX5_sheet_X5_isSheet : GoodIn wsX5_sheet wsX5_isSheet := goodIn_r _ [6, 7, 8, 9, 5, 10, 39, 40, 41, 42, 43, 44, 45, 46] (by decide +kernel) (by decide +kernel)
set_option maxRecDepth 20000 in
theorem gX5_sheet_X5_isSheet : GoodIn wsX5_sheet (wsV RX5 74 RX5 yX5_isSheet wsX5_isSheet) := goodIn_app (goodIn_of _ (by decide +kernel)) ggX5_sheet_X5_isSheet
set_option maxRecDepth 20000 in
theorem ggX5_sheet_X5_isIn : GoodIn wsX5_sheet wsX5_isIn := goodIn_r _ [10] (by decide +kernel) (by decide +kernel)
set_option maxRecDepth 20000 in
theorem gX5_sheet_X5_isIn : GoodIn wsX5_sheet (va_wsS RX5 36 yX5_isIn wsX5_isIn) := goodIn_app (goodIn_of _ (by decide +kernel)) ggX5_sheet_X5_isIn
set_option maxRecDepth 20000 in
theorem ggX5_sheet_X5_sheetTold : GoodIn wsX5_sheet wsX5_sheetTold := goodIn_r _ [14, 15, 16, 17, 18, 5, 19, 20, 21, 22, 23, 24, 25, 26, 27, 28, 29, 30, 31, 32, 33, 34, 39, 40, 41, 42, 43, 44, 45, 46] (by decide +kernel) (by decide +kernel)
set_option maxRecDepth 20000 in
theorem gX5_sheet_X5_sheetTold : GoodIn wsX5_sheet (wsV RX5 90 RX5 yX5_sheetTold wsX5_sheetTold) := goodIn_app (goodIn_of _ (by decide +kernel)) ggX5_sheet_X5_sheetTold
set_option maxRecDepth 20000 in
theorem ggX5_sheet_X5_fail : GoodIn wsX5_sheet wsX5_fail := goodIn_r _ [38, 1, 39, 40, 41, 42, 43, 44, 45, 46] (by decide +kernel) (by decide +kernel)
set_option maxRecDepth 20000 in
theorem gX5_sheet_X5_fail : GoodIn wsX5_sheet (wsV RX5 40 RX5 yX5_fail wsX5_fail) := goodIn_app (goodIn_of _ (by decide +kernel)) ggX5_sheet_X5_fail
theorem dX5_sheet_0 : decode cX5_sheet 0 = .ok (.aload_n 0, 1) := by decide +kernel
theorem dX5_sheet_1 : decode cX5_sheet 1 = .ok (.iconst 0, 1) := by decide +kernel
theorem dX5_sheet_2 : decode cX5_sheet 2 = .ok (.putfield 29, 3) := by decide +kernel
theorem dX5_sheet_5 : decode cX5_sheet 5 = .ok (.aload_n 0, 1) := by decide +kernel
theorem dX5_sheet_6 : decode cX5_sheet 6 = .ok (.iload_n 1, 1) := by decide +kernel
theorem dX5_sheet_7 : decode cX5_sheet 7 = .ok (.invokevirtual 74, 3) := by decide +kernel
theorem dX5_sheet_10 : decode cX5_sheet 10 = .ok (.ifCond .eq 21, 3) := by decide +kernel
theorem dX5_sheet_13 : decode cX5_sheet 13 = .ok (.iload_n 2, 1) := by decide +kernel
theorem dX5_sheet_14 : decode cX5_sheet 14 = .ok (.iconst 0, 1) := by decide +kernel
theorem dX5_sheet_15 : decode cX5_sheet 15 = .ok (.iconst 5, 1) := by decide +kernel
theorem dX5_sheet_16 : decode cX5_sheet 16 = .ok (.invokestatic 36, 3) := by decide +kernel
theorem dX5_sheet_19 : decode cX5_sheet 19 = .ok (.ifCond .eq 12, 3) := by decide +kernel
theorem dX5_sheet_22 : decode cX5_sheet 22 = .ok (.aload_n 0, 1) := by decide +kernel
theorem dX5_sheet_23 : decode cX5_sheet 23 = .ok (.iload_n 1, 1) := by decide +kernel
theorem dX5_sheet_24 : decode cX5_sheet 24 = .ok (.iload_n 2, 1) := by decide +kernel
theorem dX5_sheet_25 : decode cX5_sheet 25 = .ok (.invokevirtual 90, 3) := by decide +kernel
theorem dX5_sheet_28 : decode cX5_sheet 28 = .ok (.goto 8, 3) := by decide +kernel
theorem dX5_sheet_31 : decode cX5_sheet 31 = .ok (.aload_n 0, 1) := by decide +kernel
theorem dX5_sheet_32 : decode cX5_sheet 32 = .ok (.iconst 1, 1) := by decide +kernel
theorem dX5_sheet_33 : decode cX5_sheet 33 = .ok (.invokevirtual 40, 3) := by decide +kernel
theorem dX5_sheet_36 : decode cX5_sheet 36 = .ok (.ireturn, 1) := by decide +kernel
set_option maxRecDepth 20000 in
theorem ggX5_pinTold_X5_isWhole : GoodIn wsX5_pinTold wsX5_isWhole := goodIn_r _ [7, 2, 1, 8, 9, 10, 11, 12, 13, 14, 15] (by decide +kernel) (by decide +kernel)
set_option maxRecDepth 20000 in
theorem gX5_pinTold_X5_isWhole : GoodIn wsX5_pinTold (wsV RX5 48 RX5 yX5_isWhole wsX5_isWhole) := goodIn_app (goodIn_of _ (by decide +kernel)) ggX5_pinTold_X5_isWhole
theorem dX5_pinTold_0 : decode cX5_pinTold 0 = .ok (.iload_n 2, 1) := by decide +kernel
theorem dX5_pinTold_1 : decode cX5_pinTold 1 = .ok (.ifCond .ne 12, 3) := by decide +kernel
theorem dX5_pinTold_4 : decode cX5_pinTold 4 = .ok (.aload_n 0, 1) := by decide +kernel
theorem dX5_pinTold_5 : decode cX5_pinTold 5 = .ok (.getfield 16, 3) := by decide +kernel
theorem dX5_pinTold_8 : decode cX5_pinTold 8 = .ok (.iload_n 1, 1) := by decide +kernel
theorem dX5_pinTold_9 : decode cX5_pinTold 9 = .ok (.iaload, 1) := by decide +kernel
theorem dX5_pinTold_10 : decode cX5_pinTold 10 = .ok (.goto 53, 3) := by decide +kernel
theorem dX5_pinTold_13 : decode cX5_pinTold 13 = .ok (.iload_n 2, 1) := by decide +kernel
theorem dX5_pinTold_14 : decode cX5_pinTold 14 = .ok (.iconst 1, 1) := by decide +kernel
theorem dX5_pinTold_15 : decode cX5_pinTold 15 = .ok (.if_icmp .ne 12, 3) := by decide +kernel
theorem dX5_pinTold_18 : decode cX5_pinTold 18 = .ok (.aload_n 0, 1) := by decide +kernel
theorem dX5_pinTold_19 : decode cX5_pinTold 19 = .ok (.getfield 19, 3) := by decide +kernel
theorem dX5_pinTold_22 : decode cX5_pinTold 22 = .ok (.iload_n 1, 1) := by decide +kernel
theorem dX5_pinTold_23 : decode cX5_pinTold 23 = .ok (.iaload, 1) := by decide +kernel
theorem dX5_pinTold_24 : decode cX5_pinTold 24 = .ok (.goto 39, 3) := by decide +kernel
theorem dX5_pinTold_27 : decode cX5_pinTold 27 = .ok (.iload_n 2, 1) := by decide +kernel
theorem dX5_pinTold_28 : decode cX5_pinTold 28 = .ok (.iconst 2, 1) := by decide +kernel
theorem dX5_pinTold_29 : decode cX5_pinTold 29 = .ok (.if_icmp .ne 19, 3) := by decide +kernel
theorem dX5_pinTold_32 : decode cX5_pinTold 32 = .ok (.aload_n 0, 1) := by decide +kernel
theorem dX5_pinTold_33 : decode cX5_pinTold 33 = .ok (.iload_n 1, 1) := by decide +kernel
theorem dX5_pinTold_34 : decode cX5_pinTold 34 = .ok (.invokevirtual 48, 3) := by decide +kernel
theorem dX5_pinTold_37 : decode cX5_pinTold 37 = .ok (.ifCond .eq 7, 3) := by decide +kernel
theorem dX5_pinTold_40 : decode cX5_pinTold 40 = .ok (.iconst 1, 1) := by decide +kernel
theorem dX5_pinTold_41 : decode cX5_pinTold 41 = .ok (.goto 22, 3) := by decide +kernel
theorem dX5_pinTold_44 : decode cX5_pinTold 44 = .ok (.iconst 0, 1) := by decide +kernel
theorem dX5_pinTold_45 : decode cX5_pinTold 45 = .ok (.goto 18, 3) := by decide +kernel
theorem dX5_pinTold_48 : decode cX5_pinTold 48 = .ok (.aload_n 0, 1) := by decide +kernel
theorem dX5_pinTold_49 : decode cX5_pinTold 49 = .ok (.getfield 16, 3) := by decide +kernel
theorem dX5_pinTold_52 : decode cX5_pinTold 52 = .ok (.iload_n 1, 1) := by decide +kernel
theorem dX5_pinTold_53 : decode cX5_pinTold 53 = .ok (.iaload, 1) := by decide +kernel
theorem dX5_pinTold_54 : decode cX5_pinTold 54 = .ok (.iconst 1, 1) := by decide +kernel
theorem dX5_pinTold_55 : decode cX5_pinTold 55 = .ok (.iadd, 1) := by decide +kernel
theorem dX5_pinTold_56 : decode cX5_pinTold 56 = .ok (.aload_n 0, 1) := by decide +kernel
theorem dX5_pinTold_57 : decode cX5_pinTold 57 = .ok (.getfield 19, 3) := by decide +kernel
theorem dX5_pinTold_60 : decode cX5_pinTold 60 = .ok (.iload_n 1, 1) := by decide +kernel
theorem dX5_pinTold_61 : decode cX5_pinTold 61 = .ok (.iaload, 1) := by decide +kernel
theorem dX5_pinTold_62 : decode cX5_pinTold 62 = .ok (.isub, 1) := by decide +kernel
theorem dX5_pinTold_63 : decode cX5_pinTold 63 = .ok (.ireturn, 1) := by decide +kernel
set_option maxRecDepth 20000 in
theorem ggX5_pin_X5_isIn : GoodIn wsX5_pin wsX5_isIn := goodIn_r _ [5] (by decide +kernel) (by decide +kernel)
set_option maxRecDepth 20000 in
theorem gX5_pin_X5_isIn : GoodIn wsX5_pin (va_wsS RX5 36 yX5_isIn wsX5_isIn) := goodIn_app (goodIn_of _ (by decide +kernel)) ggX5_pin_X5_isIn
set_option maxRecDepth 20000 in
theorem ggX5_pin_X5_pinTold : GoodIn wsX5_pin wsX5_pinTold := goodIn_r _ [9, 10, 11, 12, 13, 14, 4, 15, 20, 21, 22, 23, 24, 25, 26, 27] (by decide +kernel) (by decide +kernel)
set_option maxRecDepth 20000 in
theorem gX5_pin_X5_pinTold : GoodIn wsX5_pin (wsV RX5 93 RX5 yX5_pinTold wsX5_pinTold) := goodIn_app (goodIn_of _ (by decide +kernel)) ggX5_pin_X5_pinTold
set_option maxRecDepth 20000 in
theorem ggX5_pin_X5_fail : GoodIn wsX5_pin wsX5_fail := goodIn_r _ [19, 1, 20, 21, 22, 23, 24, 25, 26, 27] (by decide +kernel) (by decide +kernel)
set_option maxRecDepth 20000 in
theorem gX5_pin_X5_fail : GoodIn wsX5_pin (wsV RX5 40 RX5 yX5_fail wsX5_fail) := goodIn_app (goodIn_of _ (by decide +kernel)) ggX5_pin_X5_fail
theorem dX5_pin_0 : decode cX5_pin 0 = .ok (.aload_n 0, 1) := by decide +kernel
theorem dX5_pin_1 : decode cX5_pin 1 = .ok (.iconst 0, 1) := by decide +kernel
theorem dX5_pin_2 : decode cX5_pin 2 = .ok (.putfield 29, 3) := by decide +kernel
theorem dX5_pin_5 : decode cX5_pin 5 = .ok (.iload_n 1, 1) := by decide +kernel
theorem dX5_pin_6 : decode cX5_pin 6 = .ok (.iconst 0, 1) := by decide +kernel
theorem dX5_pin_7 : decode cX5_pin 7 = .ok (.bipush 6, 2) := by decide +kernel
theorem dX5_pin_9 : decode cX5_pin 9 = .ok (.invokestatic 36, 3) := by decide +kernel
theorem dX5_pin_12 : decode cX5_pin 12 = .ok (.ifCond .eq 21, 3) := by decide +kernel
theorem dX5_pin_15 : decode cX5_pin 15 = .ok (.iload_n 2, 1) := by decide +kernel
theorem dX5_pin_16 : decode cX5_pin 16 = .ok (.iconst 0, 1) := by decide +kernel
theorem dX5_pin_17 : decode cX5_pin 17 = .ok (.iconst 3, 1) := by decide +kernel
theorem dX5_pin_18 : decode cX5_pin 18 = .ok (.invokestatic 36, 3) := by decide +kernel
theorem dX5_pin_21 : decode cX5_pin 21 = .ok (.ifCond .eq 12, 3) := by decide +kernel
theorem dX5_pin_24 : decode cX5_pin 24 = .ok (.aload_n 0, 1) := by decide +kernel
theorem dX5_pin_25 : decode cX5_pin 25 = .ok (.iload_n 1, 1) := by decide +kernel
theorem dX5_pin_26 : decode cX5_pin 26 = .ok (.iload_n 2, 1) := by decide +kernel
theorem dX5_pin_27 : decode cX5_pin 27 = .ok (.invokevirtual 93, 3) := by decide +kernel
theorem dX5_pin_30 : decode cX5_pin 30 = .ok (.goto 8, 3) := by decide +kernel
theorem dX5_pin_33 : decode cX5_pin 33 = .ok (.aload_n 0, 1) := by decide +kernel
theorem dX5_pin_34 : decode cX5_pin 34 = .ok (.iconst 1, 1) := by decide +kernel
theorem dX5_pin_35 : decode cX5_pin 35 = .ok (.invokevirtual 40, 3) := by decide +kernel
theorem dX5_pin_38 : decode cX5_pin 38 = .ok (.ireturn, 1) := by decide +kernel
set_option maxRecDepth 20000 in
theorem ggX5_broken_X5_isWhole : GoodIn wsX5_broken wsX5_isWhole := goodIn_r _ [5, 6, 7, 8, 9, 10, 11, 12, 13, 14, 15] (by decide +kernel) (by decide +kernel)
set_option maxRecDepth 20000 in
theorem gX5_broken_X5_isWhole : GoodIn wsX5_broken (wsV RX5 48 RX5 yX5_isWhole wsX5_isWhole) := goodIn_app (goodIn_of _ (by decide +kernel)) ggX5_broken_X5_isWhole
theorem dX5_broken_0 : decode cX5_broken 0 = .ok (.iconst 0, 1) := by decide +kernel
theorem dX5_broken_1 : decode cX5_broken 1 = .ok (.istore_n 1, 1) := by decide +kernel
theorem dX5_broken_2 : decode cX5_broken 2 = .ok (.iconst 0, 1) := by decide +kernel
theorem dX5_broken_3 : decode cX5_broken 3 = .ok (.istore_n 2, 1) := by decide +kernel
theorem dX5_broken_4 : decode cX5_broken 4 = .ok (.iload_n 2, 1) := by decide +kernel
theorem dX5_broken_5 : decode cX5_broken 5 = .ok (.bipush 7, 2) := by decide +kernel
theorem dX5_broken_7 : decode cX5_broken 7 = .ok (.if_icmp .ge 25, 3) := by decide +kernel
theorem dX5_broken_10 : decode cX5_broken 10 = .ok (.iload_n 1, 1) := by decide +kernel
theorem dX5_broken_11 : decode cX5_broken 11 = .ok (.aload_n 0, 1) := by decide +kernel
theorem dX5_broken_12 : decode cX5_broken 12 = .ok (.iload_n 2, 1) := by decide +kernel
theorem dX5_broken_13 : decode cX5_broken 13 = .ok (.invokevirtual 48, 3) := by decide +kernel
theorem dX5_broken_16 : decode cX5_broken 16 = .ok (.ifCond .eq 7, 3) := by decide +kernel
theorem dX5_broken_19 : decode cX5_broken 19 = .ok (.iconst 0, 1) := by decide +kernel
theorem dX5_broken_20 : decode cX5_broken 20 = .ok (.goto 4, 3) := by decide +kernel
theorem dX5_broken_23 : decode cX5_broken 23 = .ok (.iconst 1, 1) := by decide +kernel
theorem dX5_broken_24 : decode cX5_broken 24 = .ok (.iadd, 1) := by decide +kernel
theorem dX5_broken_25 : decode cX5_broken 25 = .ok (.istore_n 1, 1) := by decide +kernel
theorem dX5_broken_26 : decode cX5_broken 26 = .ok (.iinc 2 1, 3) := by decide +kernel
theorem dX5_broken_29 : decode cX5_broken 29 = .ok (.goto (-25), 3) := by decide +kernel
theorem dX5_broken_32 : decode cX5_broken 32 = .ok (.iload_n 1, 1) := by decide +kernel
theorem dX5_broken_33 : decode cX5_broken 33 = .ok (.ireturn, 1) := by decide +kernel
set_option maxRecDepth 20000 in
theorem ggX5_counted_X5_broken : GoodIn wsX5_counted wsX5_broken := goodIn_r _ [8, 9, 10, 11, 7, 12, 13, 14, 39, 40, 41, 42, 43, 44, 45, 46] (by decide +kernel) (by decide +kernel)
set_option maxRecDepth 20000 in
theorem gX5_counted_X5_broken : GoodIn wsX5_counted (wsV RX5 96 RX5 yX5_broken wsX5_broken) := goodIn_app (goodIn_of _ (by decide +kernel)) ggX5_counted_X5_broken
set_option maxRecDepth 20000 in
theorem ggX5_counted_X5_sheetTold : GoodIn wsX5_counted wsX5_sheetTold := goodIn_r _ [18, 19, 20, 21, 22, 7, 23, 24, 25, 26, 27, 28, 29, 30, 31, 32, 33, 34, 35, 36, 37, 38, 39, 40, 41, 42, 43, 44, 45, 46] (by decide +kernel) (by decide +kernel)
set_option maxRecDepth 20000 in
theorem gX5_counted_X5_sheetTold : GoodIn wsX5_counted (wsV RX5 90 RX5 yX5_sheetTold wsX5_sheetTold) := goodIn_app (goodIn_of _ (by decide +kernel)) ggX5_counted_X5_sheetTold
theorem dX5_counted_0 : decode cX5_counted 0 = .ok (.iconst 0, 1) := by decide +kernel
theorem dX5_counted_1 : decode cX5_counted 1 = .ok (.istore_n 2, 1) := by decide +kernel
theorem dX5_counted_2 : decode cX5_counted 2 = .ok (.iload_n 1, 1) := by decide +kernel
theorem dX5_counted_3 : decode cX5_counted 3 = .ok (.tableswitch 136 0 9 #[53, 136, 136, 136, 136, 136, 136, 58, 63, 109], 53) := by decide +kernel
theorem dX5_counted_56 : decode cX5_counted 56 = .ok (.aload_n 0, 1) := by decide +kernel
theorem dX5_counted_57 : decode cX5_counted 57 = .ok (.getfield 33, 3) := by decide +kernel
theorem dX5_counted_60 : decode cX5_counted 60 = .ok (.ireturn, 1) := by decide +kernel
theorem dX5_counted_61 : decode cX5_counted 61 = .ok (.aload_n 0, 1) := by decide +kernel
theorem dX5_counted_62 : decode cX5_counted 62 = .ok (.invokevirtual 96, 3) := by decide +kernel
theorem dX5_counted_65 : decode cX5_counted 65 = .ok (.ireturn, 1) := by decide +kernel
theorem dX5_counted_66 : decode cX5_counted 66 = .ok (.aload_n 0, 1) := by decide +kernel
theorem dX5_counted_67 : decode cX5_counted 67 = .ok (.getfield 22, 3) := by decide +kernel
theorem dX5_counted_70 : decode cX5_counted 70 = .ok (.astore_n 3, 1) := by decide +kernel
theorem dX5_counted_71 : decode cX5_counted 71 = .ok (.aload_n 3, 1) := by decide +kernel
theorem dX5_counted_72 : decode cX5_counted 72 = .ok (.arraylength, 1) := by decide +kernel
theorem dX5_counted_73 : decode cX5_counted 73 = .ok (.istore 4, 2) := by decide +kernel
theorem dX5_counted_75 : decode cX5_counted 75 = .ok (.iconst 0, 1) := by decide +kernel
theorem dX5_counted_76 : decode cX5_counted 76 = .ok (.istore 5, 2) := by decide +kernel
theorem dX5_counted_78 : decode cX5_counted 78 = .ok (.iload 5, 2) := by decide +kernel
theorem dX5_counted_80 : decode cX5_counted 80 = .ok (.iload 4, 2) := by decide +kernel
theorem dX5_counted_82 : decode cX5_counted 82 = .ok (.if_icmp .ge 28, 3) := by decide +kernel
theorem dX5_counted_85 : decode cX5_counted 85 = .ok (.aload_n 3, 1) := by decide +kernel
theorem dX5_counted_86 : decode cX5_counted 86 = .ok (.iload 5, 2) := by decide +kernel
theorem dX5_counted_88 : decode cX5_counted 88 = .ok (.baload, 1) := by decide +kernel
theorem dX5_counted_89 : decode cX5_counted 89 = .ok (.istore 6, 2) := by decide +kernel
theorem dX5_counted_91 : decode cX5_counted 91 = .ok (.iload_n 2, 1) := by decide +kernel
theorem dX5_counted_92 : decode cX5_counted 92 = .ok (.iload 6, 2) := by decide +kernel
theorem dX5_counted_94 : decode cX5_counted 94 = .ok (.ifCond .eq 7, 3) := by decide +kernel
theorem dX5_counted_97 : decode cX5_counted 97 = .ok (.iconst 1, 1) := by decide +kernel
theorem dX5_counted_98 : decode cX5_counted 98 = .ok (.goto 4, 3) := by decide +kernel
theorem dX5_counted_101 : decode cX5_counted 101 = .ok (.iconst 0, 1) := by decide +kernel
theorem dX5_counted_102 : decode cX5_counted 102 = .ok (.iadd, 1) := by decide +kernel
theorem dX5_counted_103 : decode cX5_counted 103 = .ok (.istore_n 2, 1) := by decide +kernel
theorem dX5_counted_104 : decode cX5_counted 104 = .ok (.iinc 5 1, 3) := by decide +kernel
theorem dX5_counted_107 : decode cX5_counted 107 = .ok (.goto (-29), 3) := by decide +kernel
theorem dX5_counted_110 : decode cX5_counted 110 = .ok (.iload_n 2, 1) := by decide +kernel
theorem dX5_counted_111 : decode cX5_counted 111 = .ok (.ireturn, 1) := by decide +kernel
theorem dX5_counted_112 : decode cX5_counted 112 = .ok (.iconst 0, 1) := by decide +kernel
theorem dX5_counted_113 : decode cX5_counted 113 = .ok (.istore_n 3, 1) := by decide +kernel
theorem dX5_counted_114 : decode cX5_counted 114 = .ok (.iload_n 3, 1) := by decide +kernel
theorem dX5_counted_115 : decode cX5_counted 115 = .ok (.aload_n 0, 1) := by decide +kernel
theorem dX5_counted_116 : decode cX5_counted 116 = .ok (.getfield 33, 3) := by decide +kernel
theorem dX5_counted_119 : decode cX5_counted 119 = .ok (.if_icmp .ge 18, 3) := by decide +kernel
theorem dX5_counted_122 : decode cX5_counted 122 = .ok (.iload_n 2, 1) := by decide +kernel
theorem dX5_counted_123 : decode cX5_counted 123 = .ok (.aload_n 0, 1) := by decide +kernel
theorem dX5_counted_124 : decode cX5_counted 124 = .ok (.iload_n 3, 1) := by decide +kernel
theorem dX5_counted_125 : decode cX5_counted 125 = .ok (.iconst 2, 1) := by decide +kernel
theorem dX5_counted_126 : decode cX5_counted 126 = .ok (.invokevirtual 90, 3) := by decide +kernel
theorem dX5_counted_129 : decode cX5_counted 129 = .ok (.iadd, 1) := by decide +kernel
theorem dX5_counted_130 : decode cX5_counted 130 = .ok (.istore_n 2, 1) := by decide +kernel
theorem dX5_counted_131 : decode cX5_counted 131 = .ok (.iinc 3 1, 3) := by decide +kernel
theorem dX5_counted_134 : decode cX5_counted 134 = .ok (.goto (-20), 3) := by decide +kernel
theorem dX5_counted_137 : decode cX5_counted 137 = .ok (.iload_n 2, 1) := by decide +kernel
theorem dX5_counted_138 : decode cX5_counted 138 = .ok (.ireturn, 1) := by decide +kernel
theorem dX5_counted_139 : decode cX5_counted 139 = .ok (.aload_n 0, 1) := by decide +kernel
theorem dX5_counted_140 : decode cX5_counted 140 = .ok (.getfield 13, 3) := by decide +kernel
theorem dX5_counted_143 : decode cX5_counted 143 = .ok (.iload_n 1, 1) := by decide +kernel
theorem dX5_counted_144 : decode cX5_counted 144 = .ok (.iconst 1, 1) := by decide +kernel
theorem dX5_counted_145 : decode cX5_counted 145 = .ok (.isub, 1) := by decide +kernel
theorem dX5_counted_146 : decode cX5_counted 146 = .ok (.iaload, 1) := by decide +kernel
theorem dX5_counted_147 : decode cX5_counted 147 = .ok (.ireturn, 1) := by decide +kernel
set_option maxRecDepth 20000 in
theorem ggX5_count_X5_isIn : GoodIn wsX5_count wsX5_isIn := goodIn_r _ [5] (by decide +kernel) (by decide +kernel)
set_option maxRecDepth 20000 in
theorem gX5_count_X5_isIn : GoodIn wsX5_count (va_wsS RX5 36 yX5_isIn wsX5_isIn) := goodIn_app (goodIn_of _ (by decide +kernel)) ggX5_count_X5_isIn
set_option maxRecDepth 20000 in
theorem ggX5_count_X5_counted : GoodIn wsX5_count wsX5_counted := goodIn_r _ [9, 10, 11, 12, 13, 14, 15, 4, 16, 17, 18, 19, 20, 21, 22, 23, 24, 25, 26, 27, 28, 29, 30, 31, 32, 33, 34, 35, 36, 37, 38, 39, 40, 41, 42, 43, 44, 45, 46, 51, 52, 53, 54, 55, 56, 57, 58] (by decide +kernel) (by decide +kernel)
set_option maxRecDepth 20000 in
theorem gX5_count_X5_counted : GoodIn wsX5_count (wsV RX5 100 RX5 yX5_counted wsX5_counted) := goodIn_app (goodIn_of _ (by decide +kernel)) ggX5_count_X5_counted
set_option maxRecDepth 20000 in
theorem ggX5_count_X5_fail : GoodIn wsX5_count wsX5_fail := goodIn_r _ [50, 1, 51, 52, 53, 54, 55, 56, 57, 58] (by decide +kernel) (by decide +kernel)
set_option maxRecDepth 20000 in
theorem gX5_count_X5_fail : GoodIn wsX5_count (wsV RX5 40 RX5 yX5_fail wsX5_fail) := goodIn_app (goodIn_of _ (by decide +kernel)) ggX5_count_X5_fail
theorem dX5_count_0 : decode cX5_count 0 = .ok (.aload_n 0, 1) := by decide +kernel
theorem dX5_count_1 : decode cX5_count 1 = .ok (.iconst 0, 1) := by decide +kernel
theorem dX5_count_2 : decode cX5_count 2 = .ok (.putfield 29, 3) := by decide +kernel
theorem dX5_count_5 : decode cX5_count 5 = .ok (.iload_n 1, 1) := by decide +kernel
theorem dX5_count_6 : decode cX5_count 6 = .ok (.iconst 0, 1) := by decide +kernel
theorem dX5_count_7 : decode cX5_count 7 = .ok (.bipush 9, 2) := by decide +kernel
theorem dX5_count_9 : decode cX5_count 9 = .ok (.invokestatic 36, 3) := by decide +kernel
theorem dX5_count_12 : decode cX5_count 12 = .ok (.ifCond .eq 11, 3) := by decide +kernel
theorem dX5_count_15 : decode cX5_count 15 = .ok (.aload_n 0, 1) := by decide +kernel
theorem dX5_count_16 : decode cX5_count 16 = .ok (.iload_n 1, 1) := by decide +kernel
theorem dX5_count_17 : decode cX5_count 17 = .ok (.invokevirtual 100, 3) := by decide +kernel
theorem dX5_count_20 : decode cX5_count 20 = .ok (.goto 8, 3) := by decide +kernel
theorem dX5_count_23 : decode cX5_count 23 = .ok (.aload_n 0, 1) := by decide +kernel
theorem dX5_count_24 : decode cX5_count 24 = .ok (.iconst 1, 1) := by decide +kernel
theorem dX5_count_25 : decode cX5_count 25 = .ok (.invokevirtual 40, 3) := by decide +kernel
theorem dX5_count_28 : decode cX5_count 28 = .ok (.ireturn, 1) := by decide +kernel
set_option maxRecDepth 20000 in
theorem ggX5_wouldRun_X5_runSheet : GoodIn wsX5_wouldRun wsX5_runSheet := goodIn_r _ [6, 7, 8, 9, 10, 11, 12, 13, 14, 15, 16, 17, 5, 18, 1, 19, 20, 21, 22, 23, 24, 25, 26, 27, 28, 32, 33, 34, 35, 36, 37, 38, 39] (by decide +kernel) (by decide +kernel)
set_option maxRecDepth 20000 in
theorem gX5_wouldRun_X5_runSheet : GoodIn wsX5_wouldRun (wsV RX5 65 RX5 yX5_runSheet wsX5_runSheet) := goodIn_app (goodIn_of _ (by decide +kernel)) ggX5_wouldRun_X5_runSheet
set_option maxRecDepth 20000 in
theorem ggX5_wouldRun_X5_worth : GoodIn wsX5_wouldRun wsX5_worth := goodIn_r _ [31] (by decide +kernel) (by decide +kernel)
set_option maxRecDepth 20000 in
theorem gX5_wouldRun_X5_worth : GoodIn wsX5_wouldRun (va_wsS RX5 77 yX5_worth wsX5_worth) := goodIn_app (goodIn_of _ (by decide +kernel)) ggX5_wouldRun_X5_worth
theorem dX5_wouldRun_0 : decode cX5_wouldRun 0 = .ok (.iconst 0, 1) := by decide +kernel
theorem dX5_wouldRun_1 : decode cX5_wouldRun 1 = .ok (.istore_n 3, 1) := by decide +kernel
theorem dX5_wouldRun_2 : decode cX5_wouldRun 2 = .ok (.iconst 0, 1) := by decide +kernel
theorem dX5_wouldRun_3 : decode cX5_wouldRun 3 = .ok (.istore 4, 2) := by decide +kernel
theorem dX5_wouldRun_5 : decode cX5_wouldRun 5 = .ok (.iload 4, 2) := by decide +kernel
theorem dX5_wouldRun_7 : decode cX5_wouldRun 7 = .ok (.iload_n 1, 1) := by decide +kernel
theorem dX5_wouldRun_8 : decode cX5_wouldRun 8 = .ok (.if_icmp .ge 72, 3) := by decide +kernel
theorem dX5_wouldRun_11 : decode cX5_wouldRun 11 = .ok (.aload_n 0, 1) := by decide +kernel
theorem dX5_wouldRun_12 : decode cX5_wouldRun 12 = .ok (.invokevirtual 65, 3) := by decide +kernel
theorem dX5_wouldRun_15 : decode cX5_wouldRun 15 = .ok (.aload_n 0, 1) := by decide +kernel
theorem dX5_wouldRun_16 : decode cX5_wouldRun 16 = .ok (.getfield 26, 3) := by decide +kernel
theorem dX5_wouldRun_19 : decode cX5_wouldRun 19 = .ok (.astore 5, 2) := by decide +kernel
theorem dX5_wouldRun_21 : decode cX5_wouldRun 21 = .ok (.aload 5, 2) := by decide +kernel
theorem dX5_wouldRun_23 : decode cX5_wouldRun 23 = .ok (.arraylength, 1) := by decide +kernel
theorem dX5_wouldRun_24 : decode cX5_wouldRun 24 = .ok (.istore 6, 2) := by decide +kernel
theorem dX5_wouldRun_26 : decode cX5_wouldRun 26 = .ok (.iconst 0, 1) := by decide +kernel
theorem dX5_wouldRun_27 : decode cX5_wouldRun 27 = .ok (.istore 7, 2) := by decide +kernel
theorem dX5_wouldRun_29 : decode cX5_wouldRun 29 = .ok (.iload 7, 2) := by decide +kernel
theorem dX5_wouldRun_31 : decode cX5_wouldRun 31 = .ok (.iload 6, 2) := by decide +kernel
theorem dX5_wouldRun_33 : decode cX5_wouldRun 33 = .ok (.if_icmp .ge 41, 3) := by decide +kernel
theorem dX5_wouldRun_36 : decode cX5_wouldRun 36 = .ok (.aload 5, 2) := by decide +kernel
theorem dX5_wouldRun_38 : decode cX5_wouldRun 38 = .ok (.iload 7, 2) := by decide +kernel
theorem dX5_wouldRun_40 : decode cX5_wouldRun 40 = .ok (.iaload, 1) := by decide +kernel
theorem dX5_wouldRun_41 : decode cX5_wouldRun 41 = .ok (.istore 8, 2) := by decide +kernel
theorem dX5_wouldRun_43 : decode cX5_wouldRun 43 = .ok (.iload_n 3, 1) := by decide +kernel
theorem dX5_wouldRun_44 : decode cX5_wouldRun 44 = .ok (.iload_n 2, 1) := by decide +kernel
theorem dX5_wouldRun_45 : decode cX5_wouldRun 45 = .ok (.ifCond .eq 11, 3) := by decide +kernel
theorem dX5_wouldRun_48 : decode cX5_wouldRun 48 = .ok (.iload 8, 2) := by decide +kernel
theorem dX5_wouldRun_50 : decode cX5_wouldRun 50 = .ok (.invokestatic 77, 3) := by decide +kernel
theorem dX5_wouldRun_53 : decode cX5_wouldRun 53 = .ok (.goto 13, 3) := by decide +kernel
theorem dX5_wouldRun_56 : decode cX5_wouldRun 56 = .ok (.iload 8, 2) := by decide +kernel
theorem dX5_wouldRun_58 : decode cX5_wouldRun 58 = .ok (.ifCond .ne 7, 3) := by decide +kernel
theorem dX5_wouldRun_61 : decode cX5_wouldRun 61 = .ok (.iconst 1, 1) := by decide +kernel
theorem dX5_wouldRun_62 : decode cX5_wouldRun 62 = .ok (.goto 4, 3) := by decide +kernel
theorem dX5_wouldRun_65 : decode cX5_wouldRun 65 = .ok (.iconst 0, 1) := by decide +kernel
theorem dX5_wouldRun_66 : decode cX5_wouldRun 66 = .ok (.iadd, 1) := by decide +kernel
theorem dX5_wouldRun_67 : decode cX5_wouldRun 67 = .ok (.istore_n 3, 1) := by decide +kernel
theorem dX5_wouldRun_68 : decode cX5_wouldRun 68 = .ok (.iinc 7 1, 3) := by decide +kernel
theorem dX5_wouldRun_71 : decode cX5_wouldRun 71 = .ok (.goto (-42), 3) := by decide +kernel
theorem dX5_wouldRun_74 : decode cX5_wouldRun 74 = .ok (.iinc 4 1, 3) := by decide +kernel
theorem dX5_wouldRun_77 : decode cX5_wouldRun 77 = .ok (.goto (-72), 3) := by decide +kernel
theorem dX5_wouldRun_80 : decode cX5_wouldRun 80 = .ok (.iload_n 3, 1) := by decide +kernel
theorem dX5_wouldRun_81 : decode cX5_wouldRun 81 = .ok (.ireturn, 1) := by decide +kernel
theorem dX5_kept_0 : decode cX5_kept 0 = .ok (.iconst 2, 1) := by decide +kernel
theorem dX5_kept_1 : decode cX5_kept 1 = .ok (.anewarray 103, 3) := by decide +kernel
theorem dX5_kept_4 : decode cX5_kept 4 = .ok (.dup, 1) := by decide +kernel
theorem dX5_kept_5 : decode cX5_kept 5 = .ok (.iconst 0, 1) := by decide +kernel
theorem dX5_kept_6 : decode cX5_kept 6 = .ok (.aload_n 0, 1) := by decide +kernel
theorem dX5_kept_7 : decode cX5_kept 7 = .ok (.getfield 13, 3) := by decide +kernel
theorem dX5_kept_10 : decode cX5_kept 10 = .ok (.invokevirtual 104, 3) := by decide +kernel
theorem dX5_kept_13 : decode cX5_kept 13 = .ok (.checkcast 103, 3) := by decide +kernel
theorem dX5_kept_16 : decode cX5_kept 16 = .ok (.aastore, 1) := by decide +kernel
theorem dX5_kept_17 : decode cX5_kept 17 = .ok (.dup, 1) := by decide +kernel
theorem dX5_kept_18 : decode cX5_kept 18 = .ok (.iconst 1, 1) := by decide +kernel
theorem dX5_kept_19 : decode cX5_kept 19 = .ok (.aload_n 0, 1) := by decide +kernel
theorem dX5_kept_20 : decode cX5_kept 20 = .ok (.getfield 19, 3) := by decide +kernel
theorem dX5_kept_23 : decode cX5_kept 23 = .ok (.invokevirtual 104, 3) := by decide +kernel
theorem dX5_kept_26 : decode cX5_kept 26 = .ok (.checkcast 103, 3) := by decide +kernel
theorem dX5_kept_29 : decode cX5_kept 29 = .ok (.aastore, 1) := by decide +kernel
theorem dX5_kept_30 : decode cX5_kept 30 = .ok (.areturn, 1) := by decide +kernel
theorem dX5_bringBack_0 : decode cX5_bringBack 0 = .ok (.aload_n 1, 1) := by decide +kernel
theorem dX5_bringBack_1 : decode cX5_bringBack 1 = .ok (.iconst 0, 1) := by decide +kernel
theorem dX5_bringBack_2 : decode cX5_bringBack 2 = .ok (.aaload, 1) := by decide +kernel
theorem dX5_bringBack_3 : decode cX5_bringBack 3 = .ok (.iconst 0, 1) := by decide +kernel
theorem dX5_bringBack_4 : decode cX5_bringBack 4 = .ok (.aload_n 0, 1) := by decide +kernel
theorem dX5_bringBack_5 : decode cX5_bringBack 5 = .ok (.getfield 13, 3) := by decide +kernel
theorem dX5_bringBack_8 : decode cX5_bringBack 8 = .ok (.iconst 0, 1) := by decide +kernel
theorem dX5_bringBack_9 : decode cX5_bringBack 9 = .ok (.aload_n 0, 1) := by decide +kernel
theorem dX5_bringBack_10 : decode cX5_bringBack 10 = .ok (.getfield 13, 3) := by decide +kernel
theorem dX5_bringBack_13 : decode cX5_bringBack 13 = .ok (.arraylength, 1) := by decide +kernel
theorem dX5_bringBack_14 : decode cX5_bringBack 14 = .ok (.invokestatic 68, 3) := by decide +kernel
theorem dX5_bringBack_17 : decode cX5_bringBack 17 = .ok (.aload_n 1, 1) := by decide +kernel
theorem dX5_bringBack_18 : decode cX5_bringBack 18 = .ok (.iconst 1, 1) := by decide +kernel
theorem dX5_bringBack_19 : decode cX5_bringBack 19 = .ok (.aaload, 1) := by decide +kernel
theorem dX5_bringBack_20 : decode cX5_bringBack 20 = .ok (.iconst 0, 1) := by decide +kernel
theorem dX5_bringBack_21 : decode cX5_bringBack 21 = .ok (.aload_n 0, 1) := by decide +kernel
theorem dX5_bringBack_22 : decode cX5_bringBack 22 = .ok (.getfield 19, 3) := by decide +kernel
theorem dX5_bringBack_25 : decode cX5_bringBack 25 = .ok (.iconst 0, 1) := by decide +kernel
theorem dX5_bringBack_26 : decode cX5_bringBack 26 = .ok (.bipush 7, 2) := by decide +kernel
theorem dX5_bringBack_28 : decode cX5_bringBack 28 = .ok (.invokestatic 68, 3) := by decide +kernel
theorem dX5_bringBack_31 : decode cX5_bringBack 31 = .ok (.return_, 1) := by decide +kernel
set_option maxRecDepth 20000 in
theorem ggX5_foresee_X5_isIn : GoodIn wsX5_foresee wsX5_isIn := goodIn_r _ [6] (by decide +kernel) (by decide +kernel)
set_option maxRecDepth 20000 in
theorem gX5_foresee_X5_isIn : GoodIn wsX5_foresee (va_wsS RX5 36 yX5_isIn wsX5_isIn) := goodIn_app (goodIn_of _ (by decide +kernel)) ggX5_foresee_X5_isIn
set_option maxRecDepth 20000 in
theorem ggX5_foresee_X5_fail : GoodIn wsX5_foresee wsX5_fail := goodIn_r _ [10, 1, 63, 64, 65, 66, 67, 68, 69, 70] (by decide +kernel) (by decide +kernel)
set_option maxRecDepth 20000 in
theorem gX5_foresee_X5_fail : GoodIn wsX5_foresee (wsV RX5 40 RX5 yX5_fail wsX5_fail) := goodIn_app (goodIn_of _ (by decide +kernel)) ggX5_foresee_X5_fail
set_option maxRecDepth 20000 in
theorem ggX5_foresee_X5_kept : GoodIn wsX5_foresee wsX5_kept := goodIn_r _ [14, 15, 2, 16, 17, 18, 19, 20, 21, 63, 64, 65, 66, 67, 68, 69, 70] (by decide +kernel) (by decide +kernel)
set_option maxRecDepth 20000 in
theorem gX5_foresee_X5_kept : GoodIn wsX5_foresee (wsV RX5 108 RX5 yX5_kept wsX5_kept) := goodIn_app (goodIn_of _ (by decide +kernel)) ggX5_foresee_X5_kept
set_option maxRecDepth 20000 in
theorem ggX5_foresee_X5_wouldRun : GoodIn wsX5_foresee wsX5_wouldRun := goodIn_r _ [25, 26, 27, 28, 29, 5, 30, 2, 31, 32, 33, 34, 35, 36, 37, 38, 39, 40, 41, 42, 21, 3, 4, 6, 43, 44, 45, 46, 47, 48, 49, 50, 63, 64, 65, 66, 67, 68, 69, 70] (by decide +kernel) (by decide +kernel)
set_option maxRecDepth 20000 in
theorem gX5_foresee_X5_wouldRun : GoodIn wsX5_foresee (wsV RX5 112 RX5 yX5_wouldRun wsX5_wouldRun) := goodIn_app (goodIn_of _ (by decide +kernel)) ggX5_foresee_X5_wouldRun
set_option maxRecDepth 20000 in
theorem ggX5_foresee_X5_broken : GoodIn wsX5_foresee wsX5_broken := goodIn_r _ [54, 43, 44, 45, 5, 46, 21, 47, 63, 64, 65, 66, 67, 68, 69, 70] (by decide +kernel) (by decide +kernel)
set_option maxRecDepth 20000 in
theorem gX5_foresee_X5_broken : GoodIn wsX5_foresee (wsV RX5 96 RX5 yX5_broken wsX5_broken) := goodIn_app (goodIn_of _ (by decide +kernel)) ggX5_foresee_X5_broken
set_option maxRecDepth 20000 in
theorem ggX5_foresee_X5_bringBack : GoodIn wsX5_foresee wsX5_bringBack := goodIn_r _ [58, 2, 59, 60, 61, 62, 21, 63, 64, 65, 66, 67, 68, 69, 70] (by decide +kernel) (by decide +kernel)
set_option maxRecDepth 20000 in
theorem gX5_foresee_X5_bringBack : GoodIn wsX5_foresee (wsV RX5 116 RX5 yX5_bringBack wsX5_bringBack) := goodIn_app (goodIn_of _ (by decide +kernel)) ggX5_foresee_X5_bringBack
theorem dX5_foresee_0 : decode cX5_foresee 0 = .ok (.aload_n 0, 1) := by decide +kernel
theorem dX5_foresee_1 : decode cX5_foresee 1 = .ok (.iconst 0, 1) := by decide +kernel
theorem dX5_foresee_2 : decode cX5_foresee 2 = .ok (.putfield 29, 3) := by decide +kernel
theorem dX5_foresee_5 : decode cX5_foresee 5 = .ok (.iload_n 1, 1) := by decide +kernel
theorem dX5_foresee_6 : decode cX5_foresee 6 = .ok (.iconst 1, 1) := by decide +kernel
theorem dX5_foresee_7 : decode cX5_foresee 7 = .ok (.bipush 20, 2) := by decide +kernel
theorem dX5_foresee_9 : decode cX5_foresee 9 = .ok (.invokestatic 36, 3) := by decide +kernel
theorem dX5_foresee_12 : decode cX5_foresee 12 = .ok (.ifCond .ne 9, 3) := by decide +kernel
theorem dX5_foresee_15 : decode cX5_foresee 15 = .ok (.aload_n 0, 1) := by decide +kernel
theorem dX5_foresee_16 : decode cX5_foresee 16 = .ok (.iconst 1, 1) := by decide +kernel
theorem dX5_foresee_17 : decode cX5_foresee 17 = .ok (.invokevirtual 40, 3) := by decide +kernel
theorem dX5_foresee_20 : decode cX5_foresee 20 = .ok (.ireturn, 1) := by decide +kernel
theorem dX5_foresee_21 : decode cX5_foresee 21 = .ok (.iload_n 2, 1) := by decide +kernel
theorem dX5_foresee_22 : decode cX5_foresee 22 = .ok (.iconst 0, 1) := by decide +kernel
theorem dX5_foresee_23 : decode cX5_foresee 23 = .ok (.iconst 3, 1) := by decide +kernel
theorem dX5_foresee_24 : decode cX5_foresee 24 = .ok (.invokestatic 36, 3) := by decide +kernel
theorem dX5_foresee_27 : decode cX5_foresee 27 = .ok (.ifCond .ne 9, 3) := by decide +kernel
theorem dX5_foresee_30 : decode cX5_foresee 30 = .ok (.aload_n 0, 1) := by decide +kernel
theorem dX5_foresee_31 : decode cX5_foresee 31 = .ok (.iconst 2, 1) := by decide +kernel
theorem dX5_foresee_32 : decode cX5_foresee 32 = .ok (.invokevirtual 40, 3) := by decide +kernel
theorem dX5_foresee_35 : decode cX5_foresee 35 = .ok (.ireturn, 1) := by decide +kernel
theorem dX5_foresee_36 : decode cX5_foresee 36 = .ok (.aload_n 0, 1) := by decide +kernel
theorem dX5_foresee_37 : decode cX5_foresee 37 = .ok (.invokevirtual 108, 3) := by decide +kernel
theorem dX5_foresee_40 : decode cX5_foresee 40 = .ok (.astore_n 3, 1) := by decide +kernel
theorem dX5_foresee_41 : decode cX5_foresee 41 = .ok (.aload_n 0, 1) := by decide +kernel
theorem dX5_foresee_42 : decode cX5_foresee 42 = .ok (.iload_n 1, 1) := by decide +kernel
theorem dX5_foresee_43 : decode cX5_foresee 43 = .ok (.iload_n 2, 1) := by decide +kernel
theorem dX5_foresee_44 : decode cX5_foresee 44 = .ok (.iconst 1, 1) := by decide +kernel
theorem dX5_foresee_45 : decode cX5_foresee 45 = .ok (.if_icmp .ne 7, 3) := by decide +kernel
theorem dX5_foresee_48 : decode cX5_foresee 48 = .ok (.iconst 1, 1) := by decide +kernel
theorem dX5_foresee_49 : decode cX5_foresee 49 = .ok (.goto 4, 3) := by decide +kernel
theorem dX5_foresee_52 : decode cX5_foresee 52 = .ok (.iconst 0, 1) := by decide +kernel
theorem dX5_foresee_53 : decode cX5_foresee 53 = .ok (.invokevirtual 112, 3) := by decide +kernel
theorem dX5_foresee_56 : decode cX5_foresee 56 = .ok (.istore 4, 2) := by decide +kernel
theorem dX5_foresee_58 : decode cX5_foresee 58 = .ok (.iload_n 2, 1) := by decide +kernel
theorem dX5_foresee_59 : decode cX5_foresee 59 = .ok (.iconst 2, 1) := by decide +kernel
theorem dX5_foresee_60 : decode cX5_foresee 60 = .ok (.if_icmp .ge 8, 3) := by decide +kernel
theorem dX5_foresee_63 : decode cX5_foresee 63 = .ok (.iload 4, 2) := by decide +kernel
theorem dX5_foresee_65 : decode cX5_foresee 65 = .ok (.goto 21, 3) := by decide +kernel
theorem dX5_foresee_68 : decode cX5_foresee 68 = .ok (.iload_n 2, 1) := by decide +kernel
theorem dX5_foresee_69 : decode cX5_foresee 69 = .ok (.iconst 2, 1) := by decide +kernel
theorem dX5_foresee_70 : decode cX5_foresee 70 = .ok (.if_icmp .ne 10, 3) := by decide +kernel
theorem dX5_foresee_73 : decode cX5_foresee 73 = .ok (.aload_n 0, 1) := by decide +kernel
theorem dX5_foresee_74 : decode cX5_foresee 74 = .ok (.invokevirtual 96, 3) := by decide +kernel
theorem dX5_foresee_77 : decode cX5_foresee 77 = .ok (.goto 9, 3) := by decide +kernel
theorem dX5_foresee_80 : decode cX5_foresee 80 = .ok (.aload_n 0, 1) := by decide +kernel
theorem dX5_foresee_81 : decode cX5_foresee 81 = .ok (.getfield 13, 3) := by decide +kernel
theorem dX5_foresee_84 : decode cX5_foresee 84 = .ok (.iconst 2, 1) := by decide +kernel
theorem dX5_foresee_85 : decode cX5_foresee 85 = .ok (.iaload, 1) := by decide +kernel
theorem dX5_foresee_86 : decode cX5_foresee 86 = .ok (.istore 5, 2) := by decide +kernel
theorem dX5_foresee_88 : decode cX5_foresee 88 = .ok (.aload_n 0, 1) := by decide +kernel
theorem dX5_foresee_89 : decode cX5_foresee 89 = .ok (.aload_n 3, 1) := by decide +kernel
theorem dX5_foresee_90 : decode cX5_foresee 90 = .ok (.invokevirtual 116, 3) := by decide +kernel
theorem dX5_foresee_93 : decode cX5_foresee 93 = .ok (.iload 5, 2) := by decide +kernel
theorem dX5_foresee_95 : decode cX5_foresee 95 = .ok (.ireturn, 1) := by decide +kernel
set_option maxRecDepth 20000 in
theorem ggX5_advise_X5_isIn : GoodIn wsX5_advise wsX5_isIn := goodIn_r _ [6] (by decide +kernel) (by decide +kernel)
set_option maxRecDepth 20000 in
theorem gX5_advise_X5_isIn : GoodIn wsX5_advise (va_wsS RX5 36 yX5_isIn wsX5_isIn) := goodIn_app (goodIn_of _ (by decide +kernel)) ggX5_advise_X5_isIn
set_option maxRecDepth 20000 in
theorem ggX5_advise_X5_fail : GoodIn wsX5_advise wsX5_fail := goodIn_r _ [10, 1, 59, 60, 61, 62, 63, 64, 65, 66] (by decide +kernel) (by decide +kernel)
set_option maxRecDepth 20000 in
theorem gX5_advise_X5_fail : GoodIn wsX5_advise (wsV RX5 40 RX5 yX5_fail wsX5_fail) := goodIn_app (goodIn_of _ (by decide +kernel)) ggX5_advise_X5_fail
set_option maxRecDepth 20000 in
theorem ggX5_advise_X5_kept : GoodIn wsX5_advise wsX5_kept := goodIn_r _ [14, 15, 2, 16, 17, 18, 19, 20, 21, 59, 60, 61, 62, 63, 64, 65, 66] (by decide +kernel) (by decide +kernel)
set_option maxRecDepth 20000 in
theorem gX5_advise_X5_kept : GoodIn wsX5_advise (wsV RX5 108 RX5 yX5_kept wsX5_kept) := goodIn_app (goodIn_of _ (by decide +kernel)) ggX5_advise_X5_kept
set_option maxRecDepth 20000 in
theorem ggX5_advise_X5_wouldRun : GoodIn wsX5_advise wsX5_wouldRun := goodIn_r _ [25, 26, 27, 28, 29, 5, 30, 2, 31, 32, 33, 34, 35, 36, 37, 38, 39, 40, 41, 42, 21, 3, 4, 6, 43, 44, 45, 46, 47, 48, 49, 50, 59, 60, 61, 62, 63, 64, 65, 66] (by decide +kernel) (by decide +kernel)
set_option maxRecDepth 20000 in
theorem gX5_advise_X5_wouldRun : GoodIn wsX5_advise (wsV RX5 112 RX5 yX5_wouldRun wsX5_wouldRun) := goodIn_app (goodIn_of _ (by decide +kernel)) ggX5_advise_X5_wouldRun
set_option maxRecDepth 20000 in
theorem ggX5_advise_X5_bringBack : GoodIn wsX5_advise wsX5_bringBack := goodIn_r _ [54, 2, 55, 56, 57, 58, 21, 59, 60, 61, 62, 63, 64, 65, 66] (by decide +kernel) (by decide +kernel)
set_option maxRecDepth 20000 in
theorem gX5_advise_X5_bringBack : GoodIn wsX5_advise (wsV RX5 116 RX5 yX5_bringBack wsX5_bringBack) := goodIn_app (goodIn_of _ (by decide +kernel)) ggX5_advise_X5_bringBack
theorem dX5_advise_0 : decode cX5_advise 0 = .ok (.aload_n 0, 1) := by decide +kernel
theorem dX5_advise_1 : decode cX5_advise 1 = .ok (.iconst 0, 1) := by decide +kernel
theorem dX5_advise_2 : decode cX5_advise 2 = .ok (.putfield 29, 3) := by decide +kernel
theorem dX5_advise_5 : decode cX5_advise 5 = .ok (.iload_n 1, 1) := by decide +kernel
theorem dX5_advise_6 : decode cX5_advise 6 = .ok (.iconst 1, 1) := by decide +kernel
theorem dX5_advise_7 : decode cX5_advise 7 = .ok (.bipush 20, 2) := by decide +kernel
theorem dX5_advise_9 : decode cX5_advise 9 = .ok (.invokestatic 36, 3) := by decide +kernel
theorem dX5_advise_12 : decode cX5_advise 12 = .ok (.ifCond .ne 9, 3) := by decide +kernel
theorem dX5_advise_15 : decode cX5_advise 15 = .ok (.aload_n 0, 1) := by decide +kernel
theorem dX5_advise_16 : decode cX5_advise 16 = .ok (.iconst 1, 1) := by decide +kernel
theorem dX5_advise_17 : decode cX5_advise 17 = .ok (.invokevirtual 40, 3) := by decide +kernel
theorem dX5_advise_20 : decode cX5_advise 20 = .ok (.ireturn, 1) := by decide +kernel
theorem dX5_advise_21 : decode cX5_advise 21 = .ok (.aload_n 0, 1) := by decide +kernel
theorem dX5_advise_22 : decode cX5_advise 22 = .ok (.invokevirtual 108, 3) := by decide +kernel
theorem dX5_advise_25 : decode cX5_advise 25 = .ok (.astore_n 2, 1) := by decide +kernel
theorem dX5_advise_26 : decode cX5_advise 26 = .ok (.iconst 0, 1) := by decide +kernel
theorem dX5_advise_27 : decode cX5_advise 27 = .ok (.istore_n 3, 1) := by decide +kernel
theorem dX5_advise_28 : decode cX5_advise 28 = .ok (.iconst (-1), 1) := by decide +kernel
theorem dX5_advise_29 : decode cX5_advise 29 = .ok (.istore 4, 2) := by decide +kernel
theorem dX5_advise_31 : decode cX5_advise 31 = .ok (.bipush 10, 2) := by decide +kernel
theorem dX5_advise_33 : decode cX5_advise 33 = .ok (.istore 5, 2) := by decide +kernel
theorem dX5_advise_35 : decode cX5_advise 35 = .ok (.iload 5, 2) := by decide +kernel
theorem dX5_advise_37 : decode cX5_advise 37 = .ok (.bipush 30, 2) := by decide +kernel
theorem dX5_advise_39 : decode cX5_advise 39 = .ok (.if_icmp .gt 47, 3) := by decide +kernel
theorem dX5_advise_42 : decode cX5_advise 42 = .ok (.aload_n 0, 1) := by decide +kernel
theorem dX5_advise_43 : decode cX5_advise 43 = .ok (.getfield 13, 3) := by decide +kernel
theorem dX5_advise_46 : decode cX5_advise 46 = .ok (.iconst 0, 1) := by decide +kernel
theorem dX5_advise_47 : decode cX5_advise 47 = .ok (.iload 5, 2) := by decide +kernel
theorem dX5_advise_49 : decode cX5_advise 49 = .ok (.iastore, 1) := by decide +kernel
theorem dX5_advise_50 : decode cX5_advise 50 = .ok (.aload_n 0, 1) := by decide +kernel
theorem dX5_advise_51 : decode cX5_advise 51 = .ok (.iload_n 1, 1) := by decide +kernel
theorem dX5_advise_52 : decode cX5_advise 52 = .ok (.iconst 0, 1) := by decide +kernel
theorem dX5_advise_53 : decode cX5_advise 53 = .ok (.invokevirtual 112, 3) := by decide +kernel
theorem dX5_advise_56 : decode cX5_advise 56 = .ok (.istore 6, 2) := by decide +kernel
theorem dX5_advise_58 : decode cX5_advise 58 = .ok (.aload_n 0, 1) := by decide +kernel
theorem dX5_advise_59 : decode cX5_advise 59 = .ok (.aload_n 2, 1) := by decide +kernel
theorem dX5_advise_60 : decode cX5_advise 60 = .ok (.invokevirtual 116, 3) := by decide +kernel
theorem dX5_advise_63 : decode cX5_advise 63 = .ok (.iload 6, 2) := by decide +kernel
theorem dX5_advise_65 : decode cX5_advise 65 = .ok (.iload 4, 2) := by decide +kernel
theorem dX5_advise_67 : decode cX5_advise 67 = .ok (.if_icmp .gt 6, 3) := by decide +kernel
theorem dX5_advise_70 : decode cX5_advise 70 = .ok (.goto 10, 3) := by decide +kernel
theorem dX5_advise_73 : decode cX5_advise 73 = .ok (.iload 5, 2) := by decide +kernel
theorem dX5_advise_75 : decode cX5_advise 75 = .ok (.istore_n 3, 1) := by decide +kernel
theorem dX5_advise_76 : decode cX5_advise 76 = .ok (.iload 6, 2) := by decide +kernel
theorem dX5_advise_78 : decode cX5_advise 78 = .ok (.istore 4, 2) := by decide +kernel
theorem dX5_advise_80 : decode cX5_advise 80 = .ok (.iinc 5 1, 3) := by decide +kernel
theorem dX5_advise_83 : decode cX5_advise 83 = .ok (.goto (-48), 3) := by decide +kernel
theorem dX5_advise_86 : decode cX5_advise 86 = .ok (.iload_n 3, 1) := by decide +kernel
theorem dX5_advise_87 : decode cX5_advise 87 = .ok (.ireturn, 1) := by decide +kernel
set_option maxRecDepth 20000 in
theorem ggX5_like_X5_isIn : GoodIn wsX5_like wsX5_isIn := goodIn_r _ [7] (by decide +kernel) (by decide +kernel)
set_option maxRecDepth 20000 in
theorem gX5_like_X5_isIn : GoodIn wsX5_like (va_wsS RX5 36 yX5_isIn wsX5_isIn) := goodIn_app (goodIn_of _ (by decide +kernel)) ggX5_like_X5_isIn
set_option maxRecDepth 20000 in
theorem ggX5_like_X5_fail : GoodIn wsX5_like wsX5_fail := goodIn_r _ [11, 1, 12, 13, 14, 15, 16, 17, 18, 19] (by decide +kernel) (by decide +kernel)
set_option maxRecDepth 20000 in
theorem gX5_like_X5_fail : GoodIn wsX5_like (wsV RX5 40 RX5 yX5_fail wsX5_fail) := goodIn_app (goodIn_of _ (by decide +kernel)) ggX5_like_X5_fail
theorem dX5_like_0 : decode cX5_like 0 = .ok (.aload_n 0, 1) := by decide +kernel
theorem dX5_like_1 : decode cX5_like 1 = .ok (.iconst 0, 1) := by decide +kernel
theorem dX5_like_2 : decode cX5_like 2 = .ok (.putfield 29, 3) := by decide +kernel
theorem dX5_like_5 : decode cX5_like 5 = .ok (.iload_n 1, 1) := by decide +kernel
theorem dX5_like_6 : decode cX5_like 6 = .ok (.iconst 0, 1) := by decide +kernel
theorem dX5_like_7 : decode cX5_like 7 = .ok (.bipush 31, 2) := by decide +kernel
theorem dX5_like_9 : decode cX5_like 9 = .ok (.invokestatic 36, 3) := by decide +kernel
theorem dX5_like_12 : decode cX5_like 12 = .ok (.ifCond .ne 9, 3) := by decide +kernel
theorem dX5_like_15 : decode cX5_like 15 = .ok (.aload_n 0, 1) := by decide +kernel
theorem dX5_like_16 : decode cX5_like 16 = .ok (.iconst 1, 1) := by decide +kernel
theorem dX5_like_17 : decode cX5_like 17 = .ok (.invokevirtual 40, 3) := by decide +kernel
theorem dX5_like_20 : decode cX5_like 20 = .ok (.ireturn, 1) := by decide +kernel
theorem dX5_like_21 : decode cX5_like 21 = .ok (.iconst 0, 1) := by decide +kernel
theorem dX5_like_22 : decode cX5_like 22 = .ok (.istore_n 2, 1) := by decide +kernel
theorem dX5_like_23 : decode cX5_like 23 = .ok (.iconst 0, 1) := by decide +kernel
theorem dX5_like_24 : decode cX5_like 24 = .ok (.istore_n 3, 1) := by decide +kernel
theorem dX5_like_25 : decode cX5_like 25 = .ok (.iload_n 3, 1) := by decide +kernel
theorem dX5_like_26 : decode cX5_like 26 = .ok (.bipush 30, 2) := by decide +kernel
theorem dX5_like_28 : decode cX5_like 28 = .ok (.aload_n 0, 1) := by decide +kernel
theorem dX5_like_29 : decode cX5_like 29 = .ok (.getfield 33, 3) := by decide +kernel
theorem dX5_like_32 : decode cX5_like 32 = .ok (.imul, 1) := by decide +kernel
theorem dX5_like_33 : decode cX5_like 33 = .ok (.if_icmp .ge 27, 3) := by decide +kernel
theorem dX5_like_36 : decode cX5_like 36 = .ok (.iload_n 2, 1) := by decide +kernel
theorem dX5_like_37 : decode cX5_like 37 = .ok (.aload_n 0, 1) := by decide +kernel
theorem dX5_like_38 : decode cX5_like 38 = .ok (.getfield 9, 3) := by decide +kernel
theorem dX5_like_41 : decode cX5_like 41 = .ok (.iload_n 3, 1) := by decide +kernel
theorem dX5_like_42 : decode cX5_like 42 = .ok (.iaload, 1) := by decide +kernel
theorem dX5_like_43 : decode cX5_like 43 = .ok (.iload_n 1, 1) := by decide +kernel
theorem dX5_like_44 : decode cX5_like 44 = .ok (.if_icmp .ne 7, 3) := by decide +kernel
theorem dX5_like_47 : decode cX5_like 47 = .ok (.iconst 1, 1) := by decide +kernel
theorem dX5_like_48 : decode cX5_like 48 = .ok (.goto 4, 3) := by decide +kernel
theorem dX5_like_51 : decode cX5_like 51 = .ok (.iconst 0, 1) := by decide +kernel
theorem dX5_like_52 : decode cX5_like 52 = .ok (.iadd, 1) := by decide +kernel
theorem dX5_like_53 : decode cX5_like 53 = .ok (.istore_n 2, 1) := by decide +kernel
theorem dX5_like_54 : decode cX5_like 54 = .ok (.iinc 3 1, 3) := by decide +kernel
theorem dX5_like_57 : decode cX5_like 57 = .ok (.goto (-32), 3) := by decide +kernel
theorem dX5_like_60 : decode cX5_like 60 = .ok (.iload_n 2, 1) := by decide +kernel
theorem dX5_like_61 : decode cX5_like 61 = .ok (.ireturn, 1) := by decide +kernel
set_option maxRecDepth 20000 in
theorem ggX5_share_X5_sheetTold : GoodIn wsX5_share wsX5_sheetTold := goodIn_r _ [7, 8, 9, 10, 11, 6, 12, 13, 14, 15, 16, 17, 18, 19, 20, 21, 22, 23, 24, 25, 26, 27, 28, 29, 30, 31, 32, 33, 34, 35] (by decide +kernel) (by decide +kernel)
set_option maxRecDepth 20000 in
theorem gX5_share_X5_sheetTold : GoodIn wsX5_share (wsV RX5 90 RX5 yX5_sheetTold wsX5_sheetTold) := goodIn_app (goodIn_of _ (by decide +kernel)) ggX5_share_X5_sheetTold
theorem dX5_share_0 : decode cX5_share 0 = .ok (.aload_n 0, 1) := by decide +kernel
theorem dX5_share_1 : decode cX5_share 1 = .ok (.iconst 0, 1) := by decide +kernel
theorem dX5_share_2 : decode cX5_share 2 = .ok (.putfield 29, 3) := by decide +kernel
theorem dX5_share_5 : decode cX5_share 5 = .ok (.iconst 0, 1) := by decide +kernel
theorem dX5_share_6 : decode cX5_share 6 = .ok (.istore_n 1, 1) := by decide +kernel
theorem dX5_share_7 : decode cX5_share 7 = .ok (.iconst 0, 1) := by decide +kernel
theorem dX5_share_8 : decode cX5_share 8 = .ok (.istore_n 2, 1) := by decide +kernel
theorem dX5_share_9 : decode cX5_share 9 = .ok (.iload_n 2, 1) := by decide +kernel
theorem dX5_share_10 : decode cX5_share 10 = .ok (.aload_n 0, 1) := by decide +kernel
theorem dX5_share_11 : decode cX5_share 11 = .ok (.getfield 33, 3) := by decide +kernel
theorem dX5_share_14 : decode cX5_share 14 = .ok (.if_icmp .ge 18, 3) := by decide +kernel
theorem dX5_share_17 : decode cX5_share 17 = .ok (.iload_n 1, 1) := by decide +kernel
theorem dX5_share_18 : decode cX5_share 18 = .ok (.aload_n 0, 1) := by decide +kernel
theorem dX5_share_19 : decode cX5_share 19 = .ok (.iload_n 2, 1) := by decide +kernel
theorem dX5_share_20 : decode cX5_share 20 = .ok (.iconst 1, 1) := by decide +kernel
theorem dX5_share_21 : decode cX5_share 21 = .ok (.invokevirtual 90, 3) := by decide +kernel
theorem dX5_share_24 : decode cX5_share 24 = .ok (.iadd, 1) := by decide +kernel
theorem dX5_share_25 : decode cX5_share 25 = .ok (.istore_n 1, 1) := by decide +kernel
theorem dX5_share_26 : decode cX5_share 26 = .ok (.iinc 2 1, 3) := by decide +kernel
theorem dX5_share_29 : decode cX5_share 29 = .ok (.goto (-20), 3) := by decide +kernel
theorem dX5_share_32 : decode cX5_share 32 = .ok (.aload_n 0, 1) := by decide +kernel
theorem dX5_share_33 : decode cX5_share 33 = .ok (.getfield 33, 3) := by decide +kernel
theorem dX5_share_36 : decode cX5_share 36 = .ok (.ifCond .ne 7, 3) := by decide +kernel
theorem dX5_share_39 : decode cX5_share 39 = .ok (.dconst 0, 1) := by decide +kernel
theorem dX5_share_40 : decode cX5_share 40 = .ok (.goto 14, 3) := by decide +kernel
theorem dX5_share_43 : decode cX5_share 43 = .ok (.iload_n 1, 1) := by decide +kernel
theorem dX5_share_44 : decode cX5_share 44 = .ok (.i2d, 1) := by decide +kernel
theorem dX5_share_45 : decode cX5_share 45 = .ok (.bipush 30, 2) := by decide +kernel
theorem dX5_share_47 : decode cX5_share 47 = .ok (.aload_n 0, 1) := by decide +kernel
theorem dX5_share_48 : decode cX5_share 48 = .ok (.getfield 33, 3) := by decide +kernel
theorem dX5_share_51 : decode cX5_share 51 = .ok (.imul, 1) := by decide +kernel
theorem dX5_share_52 : decode cX5_share 52 = .ok (.i2d, 1) := by decide +kernel
theorem dX5_share_53 : decode cX5_share 53 = .ok (.ddiv, 1) := by decide +kernel
theorem dX5_share_54 : decode cX5_share 54 = .ok (.dreturn, 1) := by decide +kernel
set_option maxRecDepth 20000 in
theorem ggX5_digest_X5_counted : GoodIn wsX5_digest wsX5_counted := goodIn_r _ [10, 4, 11, 12, 13, 14, 15, 9, 16, 17, 18, 19, 20, 21, 22, 23, 24, 25, 26, 5, 27, 28, 29, 30, 31, 32, 33, 34, 35, 36, 37, 38, 39, 40, 41, 42, 43, 44, 45, 50, 51, 52, 53, 54, 55, 56, 57] (by decide +kernel) (by decide +kernel)
set_option maxRecDepth 20000 in
theorem gX5_digest_X5_counted : GoodIn wsX5_digest (wsV RX5 100 RX5 yX5_counted wsX5_counted) := goodIn_app (goodIn_of _ (by decide +kernel)) ggX5_digest_X5_counted
set_option maxRecDepth 20000 in
theorem ggX5_digest_X5_pinTold : GoodIn wsX5_digest wsX5_pinTold := goodIn_r _ [49, 22, 21, 17, 18, 19, 9, 20, 50, 51, 52, 53, 54, 55, 56, 57] (by decide +kernel) (by decide +kernel)
set_option maxRecDepth 20000 in
theorem gX5_digest_X5_pinTold : GoodIn wsX5_digest (wsV RX5 93 RX5 yX5_pinTold wsX5_pinTold) := goodIn_app (goodIn_of _ (by decide +kernel)) ggX5_digest_X5_pinTold
set_option maxRecDepth 20000 in
theorem ggX5_digest_X5_sheetTold : GoodIn wsX5_digest wsX5_sheetTold := goodIn_r _ [26, 5, 27, 28, 29, 9, 30, 31, 32, 33, 34, 35, 36, 37, 38, 39, 40, 41, 42, 43, 44, 45, 50, 51, 52, 53, 54, 55, 56, 57] (by decide +kernel) (by decide +kernel)
set_option maxRecDepth 20000 in
theorem gX5_digest_X5_sheetTold : GoodIn wsX5_digest (wsV RX5 90 RX5 yX5_sheetTold wsX5_sheetTold) := goodIn_app (goodIn_of _ (by decide +kernel)) ggX5_digest_X5_sheetTold
set_option maxRecDepth 20000 in
theorem ggX5_digest_X5_worth : GoodIn wsX5_digest wsX5_worth := goodIn_r _ [45] (by decide +kernel) (by decide +kernel)
set_option maxRecDepth 20000 in
theorem gX5_digest_X5_worth : GoodIn wsX5_digest (va_wsS RX5 77 yX5_worth wsX5_worth) := goodIn_app (goodIn_of _ (by decide +kernel)) ggX5_digest_X5_worth
theorem dX5_digest_0 : decode cX5_digest 0 = .ok (.aload_n 0, 1) := by decide +kernel
theorem dX5_digest_1 : decode cX5_digest 1 = .ok (.iconst 0, 1) := by decide +kernel
theorem dX5_digest_2 : decode cX5_digest 2 = .ok (.putfield 29, 3) := by decide +kernel
theorem dX5_digest_5 : decode cX5_digest 5 = .ok (.ldc2_w 120, 3) := by decide +kernel
theorem dX5_digest_8 : decode cX5_digest 8 = .ok (.lstore_n 1, 1) := by decide +kernel
theorem dX5_digest_9 : decode cX5_digest 9 = .ok (.iconst 0, 1) := by decide +kernel
theorem dX5_digest_10 : decode cX5_digest 10 = .ok (.istore_n 3, 1) := by decide +kernel
theorem dX5_digest_11 : decode cX5_digest 11 = .ok (.iload_n 3, 1) := by decide +kernel
theorem dX5_digest_12 : decode cX5_digest 12 = .ok (.bipush 10, 2) := by decide +kernel
theorem dX5_digest_14 : decode cX5_digest 14 = .ok (.if_icmp .ge 22, 3) := by decide +kernel
theorem dX5_digest_17 : decode cX5_digest 17 = .ok (.lload_n 1, 1) := by decide +kernel
theorem dX5_digest_18 : decode cX5_digest 18 = .ok (.ldc2_w 122, 3) := by decide +kernel
theorem dX5_digest_21 : decode cX5_digest 21 = .ok (.lmul, 1) := by decide +kernel
theorem dX5_digest_22 : decode cX5_digest 22 = .ok (.aload_n 0, 1) := by decide +kernel
theorem dX5_digest_23 : decode cX5_digest 23 = .ok (.iload_n 3, 1) := by decide +kernel
theorem dX5_digest_24 : decode cX5_digest 24 = .ok (.invokevirtual 100, 3) := by decide +kernel
theorem dX5_digest_27 : decode cX5_digest 27 = .ok (.i2l, 1) := by decide +kernel
theorem dX5_digest_28 : decode cX5_digest 28 = .ok (.ladd, 1) := by decide +kernel
theorem dX5_digest_29 : decode cX5_digest 29 = .ok (.lstore_n 1, 1) := by decide +kernel
theorem dX5_digest_30 : decode cX5_digest 30 = .ok (.iinc 3 1, 3) := by decide +kernel
theorem dX5_digest_33 : decode cX5_digest 33 = .ok (.goto (-22), 3) := by decide +kernel
theorem dX5_digest_36 : decode cX5_digest 36 = .ok (.iconst 0, 1) := by decide +kernel
theorem dX5_digest_37 : decode cX5_digest 37 = .ok (.istore_n 3, 1) := by decide +kernel
theorem dX5_digest_38 : decode cX5_digest 38 = .ok (.iload_n 3, 1) := by decide +kernel
theorem dX5_digest_39 : decode cX5_digest 39 = .ok (.bipush 7, 2) := by decide +kernel
theorem dX5_digest_41 : decode cX5_digest 41 = .ok (.if_icmp .ge 39, 3) := by decide +kernel
theorem dX5_digest_44 : decode cX5_digest 44 = .ok (.iconst 0, 1) := by decide +kernel
theorem dX5_digest_45 : decode cX5_digest 45 = .ok (.istore 4, 2) := by decide +kernel
theorem dX5_digest_47 : decode cX5_digest 47 = .ok (.iload 4, 2) := by decide +kernel
theorem dX5_digest_49 : decode cX5_digest 49 = .ok (.iconst 4, 1) := by decide +kernel
theorem dX5_digest_50 : decode cX5_digest 50 = .ok (.if_icmp .ge 24, 3) := by decide +kernel
theorem dX5_digest_53 : decode cX5_digest 53 = .ok (.lload_n 1, 1) := by decide +kernel
theorem dX5_digest_54 : decode cX5_digest 54 = .ok (.ldc2_w 122, 3) := by decide +kernel
theorem dX5_digest_57 : decode cX5_digest 57 = .ok (.lmul, 1) := by decide +kernel
theorem dX5_digest_58 : decode cX5_digest 58 = .ok (.aload_n 0, 1) := by decide +kernel
theorem dX5_digest_59 : decode cX5_digest 59 = .ok (.iload_n 3, 1) := by decide +kernel
theorem dX5_digest_60 : decode cX5_digest 60 = .ok (.iload 4, 2) := by decide +kernel
theorem dX5_digest_62 : decode cX5_digest 62 = .ok (.invokevirtual 93, 3) := by decide +kernel
theorem dX5_digest_65 : decode cX5_digest 65 = .ok (.i2l, 1) := by decide +kernel
theorem dX5_digest_66 : decode cX5_digest 66 = .ok (.ladd, 1) := by decide +kernel
theorem dX5_digest_67 : decode cX5_digest 67 = .ok (.lstore_n 1, 1) := by decide +kernel
theorem dX5_digest_68 : decode cX5_digest 68 = .ok (.iinc 4 1, 3) := by decide +kernel
theorem dX5_digest_71 : decode cX5_digest 71 = .ok (.goto (-24), 3) := by decide +kernel
theorem dX5_digest_74 : decode cX5_digest 74 = .ok (.iinc 3 1, 3) := by decide +kernel
theorem dX5_digest_77 : decode cX5_digest 77 = .ok (.goto (-39), 3) := by decide +kernel
theorem dX5_digest_80 : decode cX5_digest 80 = .ok (.iconst 0, 1) := by decide +kernel
theorem dX5_digest_81 : decode cX5_digest 81 = .ok (.istore_n 3, 1) := by decide +kernel
theorem dX5_digest_82 : decode cX5_digest 82 = .ok (.iload_n 3, 1) := by decide +kernel
theorem dX5_digest_83 : decode cX5_digest 83 = .ok (.aload_n 0, 1) := by decide +kernel
theorem dX5_digest_84 : decode cX5_digest 84 = .ok (.getfield 33, 3) := by decide +kernel
theorem dX5_digest_87 : decode cX5_digest 87 = .ok (.if_icmp .ge 98, 3) := by decide +kernel
theorem dX5_digest_90 : decode cX5_digest 90 = .ok (.iconst 0, 1) := by decide +kernel
theorem dX5_digest_91 : decode cX5_digest 91 = .ok (.istore 4, 2) := by decide +kernel
theorem dX5_digest_93 : decode cX5_digest 93 = .ok (.iload 4, 2) := by decide +kernel
theorem dX5_digest_95 : decode cX5_digest 95 = .ok (.bipush 6, 2) := by decide +kernel
theorem dX5_digest_97 : decode cX5_digest 97 = .ok (.if_icmp .ge 24, 3) := by decide +kernel
theorem dX5_digest_100 : decode cX5_digest 100 = .ok (.lload_n 1, 1) := by decide +kernel
theorem dX5_digest_101 : decode cX5_digest 101 = .ok (.ldc2_w 122, 3) := by decide +kernel
theorem dX5_digest_104 : decode cX5_digest 104 = .ok (.lmul, 1) := by decide +kernel
theorem dX5_digest_105 : decode cX5_digest 105 = .ok (.aload_n 0, 1) := by decide +kernel
theorem dX5_digest_106 : decode cX5_digest 106 = .ok (.iload_n 3, 1) := by decide +kernel
theorem dX5_digest_107 : decode cX5_digest 107 = .ok (.iload 4, 2) := by decide +kernel
theorem dX5_digest_109 : decode cX5_digest 109 = .ok (.invokevirtual 90, 3) := by decide +kernel
theorem dX5_digest_112 : decode cX5_digest 112 = .ok (.i2l, 1) := by decide +kernel
theorem dX5_digest_113 : decode cX5_digest 113 = .ok (.ladd, 1) := by decide +kernel
theorem dX5_digest_114 : decode cX5_digest 114 = .ok (.lstore_n 1, 1) := by decide +kernel
theorem dX5_digest_115 : decode cX5_digest 115 = .ok (.iinc 4 1, 3) := by decide +kernel
theorem dX5_digest_118 : decode cX5_digest 118 = .ok (.goto (-25), 3) := by decide +kernel
theorem dX5_digest_121 : decode cX5_digest 121 = .ok (.bipush 30, 2) := by decide +kernel
theorem dX5_digest_123 : decode cX5_digest 123 = .ok (.iload_n 3, 1) := by decide +kernel
theorem dX5_digest_124 : decode cX5_digest 124 = .ok (.imul, 1) := by decide +kernel
theorem dX5_digest_125 : decode cX5_digest 125 = .ok (.istore 4, 2) := by decide +kernel
theorem dX5_digest_127 : decode cX5_digest 127 = .ok (.iload 4, 2) := by decide +kernel
theorem dX5_digest_129 : decode cX5_digest 129 = .ok (.bipush 30, 2) := by decide +kernel
theorem dX5_digest_131 : decode cX5_digest 131 = .ok (.iload_n 3, 1) := by decide +kernel
theorem dX5_digest_132 : decode cX5_digest 132 = .ok (.imul, 1) := by decide +kernel
theorem dX5_digest_133 : decode cX5_digest 133 = .ok (.bipush 30, 2) := by decide +kernel
theorem dX5_digest_135 : decode cX5_digest 135 = .ok (.iadd, 1) := by decide +kernel
theorem dX5_digest_136 : decode cX5_digest 136 = .ok (.if_icmp .ge 43, 3) := by decide +kernel
theorem dX5_digest_139 : decode cX5_digest 139 = .ok (.lload_n 1, 1) := by decide +kernel
theorem dX5_digest_140 : decode cX5_digest 140 = .ok (.ldc2_w 122, 3) := by decide +kernel
theorem dX5_digest_143 : decode cX5_digest 143 = .ok (.lmul, 1) := by decide +kernel
theorem dX5_digest_144 : decode cX5_digest 144 = .ok (.aload_n 0, 1) := by decide +kernel
theorem dX5_digest_145 : decode cX5_digest 145 = .ok (.getfield 9, 3) := by decide +kernel
theorem dX5_digest_148 : decode cX5_digest 148 = .ok (.iload 4, 2) := by decide +kernel
theorem dX5_digest_150 : decode cX5_digest 150 = .ok (.iaload, 1) := by decide +kernel
theorem dX5_digest_151 : decode cX5_digest 151 = .ok (.bipush 32, 2) := by decide +kernel
theorem dX5_digest_153 : decode cX5_digest 153 = .ok (.irem, 1) := by decide +kernel
theorem dX5_digest_154 : decode cX5_digest 154 = .ok (.i2l, 1) := by decide +kernel
theorem dX5_digest_155 : decode cX5_digest 155 = .ok (.ladd, 1) := by decide +kernel
theorem dX5_digest_156 : decode cX5_digest 156 = .ok (.ldc2_w 122, 3) := by decide +kernel
theorem dX5_digest_159 : decode cX5_digest 159 = .ok (.lmul, 1) := by decide +kernel
theorem dX5_digest_160 : decode cX5_digest 160 = .ok (.aload_n 0, 1) := by decide +kernel
theorem dX5_digest_161 : decode cX5_digest 161 = .ok (.getfield 9, 3) := by decide +kernel
theorem dX5_digest_164 : decode cX5_digest 164 = .ok (.iload 4, 2) := by decide +kernel
theorem dX5_digest_166 : decode cX5_digest 166 = .ok (.iaload, 1) := by decide +kernel
theorem dX5_digest_167 : decode cX5_digest 167 = .ok (.invokestatic 77, 3) := by decide +kernel
theorem dX5_digest_170 : decode cX5_digest 170 = .ok (.i2l, 1) := by decide +kernel
theorem dX5_digest_171 : decode cX5_digest 171 = .ok (.ladd, 1) := by decide +kernel
theorem dX5_digest_172 : decode cX5_digest 172 = .ok (.lstore_n 1, 1) := by decide +kernel
theorem dX5_digest_173 : decode cX5_digest 173 = .ok (.iinc 4 1, 3) := by decide +kernel
theorem dX5_digest_176 : decode cX5_digest 176 = .ok (.goto (-49), 3) := by decide +kernel
theorem dX5_digest_179 : decode cX5_digest 179 = .ok (.iinc 3 1, 3) := by decide +kernel
theorem dX5_digest_182 : decode cX5_digest 182 = .ok (.goto (-100), 3) := by decide +kernel
theorem dX5_digest_185 : decode cX5_digest 185 = .ok (.lload_n 1, 1) := by decide +kernel
theorem dX5_digest_186 : decode cX5_digest 186 = .ok (.lreturn, 1) := by decide +kernel
theorem dJ9_max_7cf53_0 : decode cJ9_max_7cf53 0 = .ok (.iload_n 0, 1) := by decide +kernel
theorem dJ9_max_7cf53_1 : decode cJ9_max_7cf53 1 = .ok (.iload_n 1, 1) := by decide +kernel
theorem dJ9_max_7cf53_2 : decode cJ9_max_7cf53 2 = .ok (.if_icmp .lt 7, 3) := by decide +kernel
theorem dJ9_max_7cf53_5 : decode cJ9_max_7cf53 5 = .ok (.iload_n 0, 1) := by decide +kernel
theorem dJ9_max_7cf53_6 : decode cJ9_max_7cf53 6 = .ok (.goto 4, 3) := by decide +kernel
theorem dJ9_max_7cf53_9 : decode cJ9_max_7cf53 9 = .ok (.iload_n 1, 1) := by decide +kernel
theorem dJ9_max_7cf53_10 : decode cJ9_max_7cf53 10 = .ok (.ireturn, 1) := by decide +kernel
theorem dJ9_min_7cf53_0 : decode cJ9_min_7cf53 0 = .ok (.iload_n 0, 1) := by decide +kernel
theorem dJ9_min_7cf53_1 : decode cJ9_min_7cf53 1 = .ok (.iload_n 1, 1) := by decide +kernel
theorem dJ9_min_7cf53_2 : decode cJ9_min_7cf53 2 = .ok (.if_icmp .gt 7, 3) := by decide +kernel
theorem dJ9_min_7cf53_5 : decode cJ9_min_7cf53 5 = .ok (.iload_n 0, 1) := by decide +kernel
theorem dJ9_min_7cf53_6 : decode cJ9_min_7cf53 6 = .ok (.goto 4, 3) := by decide +kernel
theorem dJ9_min_7cf53_9 : decode cJ9_min_7cf53 9 = .ok (.iload_n 1, 1) := by decide +kernel
theorem dJ9_min_7cf53_10 : decode cJ9_min_7cf53 10 = .ok (.ireturn, 1) := by decide +kernel
set_option maxRecDepth 20000 in
theorem ggL_setFeed_X4_setFeed : GoodIn wsL_setFeed wsX4_setFeed := goodIn_ca (goodIn_r _ [6, 7, 8, 9, 10, 11, 5, 12, 13, 14, 15, 16, 17, 18, 19, 20, 21, 22, 23, 24] (by decide +kernel) (by decide +kernel)) (goodIn_sub (fun _ h => List.mem_cons_of_mem _ (List.mem_append_right _ h)) (by decide +kernel))
set_option maxRecDepth 20000 in
theorem gL_setFeed_X4_setFeed : GoodIn wsL_setFeed (wsV RL 7 RX4 yX4_setFeed wsX4_setFeed) := goodIn_app (goodIn_of _ (by decide +kernel)) ggL_setFeed_X4_setFeed
theorem dL_setFeed_0 : decode cL_setFeed 0 = .ok (.aload_n 3, 1) := by decide +kernel
theorem dL_setFeed_1 : decode cL_setFeed 1 = .ok (.iconst 0, 1) := by decide +kernel
theorem dL_setFeed_2 : decode cL_setFeed 2 = .ok (.aload_n 0, 1) := by decide +kernel
theorem dL_setFeed_3 : decode cL_setFeed 3 = .ok (.iload_n 1, 1) := by decide +kernel
theorem dL_setFeed_4 : decode cL_setFeed 4 = .ok (.iload_n 2, 1) := by decide +kernel
theorem dL_setFeed_5 : decode cL_setFeed 5 = .ok (.invokevirtual 7, 3) := by decide +kernel
theorem dL_setFeed_8 : decode cL_setFeed 8 = .ok (.i2l, 1) := by decide +kernel
theorem dL_setFeed_9 : decode cL_setFeed 9 = .ok (.lastore, 1) := by decide +kernel
theorem dL_setFeed_10 : decode cL_setFeed 10 = .ok (.goto 7, 3) := by decide +kernel
theorem dL_setFeed_13 : decode cL_setFeed 13 = .ok (.astore 4, 2) := by decide +kernel
theorem dL_setFeed_15 : decode cL_setFeed 15 = .ok (.iconst 1, 1) := by decide +kernel
theorem dL_setFeed_16 : decode cL_setFeed 16 = .ok (.ireturn, 1) := by decide +kernel
theorem dL_setFeed_17 : decode cL_setFeed 17 = .ok (.iconst 0, 1) := by decide +kernel
theorem dL_setFeed_18 : decode cL_setFeed 18 = .ok (.ireturn, 1) := by decide +kernel
set_option maxRecDepth 20000 in
theorem ggL_roll_X4_roll : GoodIn wsL_roll wsX4_roll := goodIn_ca (goodIn_r _ [6, 7, 8, 9, 10, 11, 5, 12, 13, 14, 15, 16, 17, 18, 19, 20, 21, 22, 23, 24] (by decide +kernel) (by decide +kernel)) (goodIn_sub (fun _ h => List.mem_cons_of_mem _ (List.mem_append_right _ h)) (by decide +kernel))
set_option maxRecDepth 20000 in
theorem gL_roll_X4_roll : GoodIn wsL_roll (wsV RL 15 RX4 yX4_roll wsX4_roll) := goodIn_app (goodIn_of _ (by decide +kernel)) ggL_roll_X4_roll
theorem dL_roll_0 : decode cL_roll 0 = .ok (.aload_n 3, 1) := by decide +kernel
theorem dL_roll_1 : decode cL_roll 1 = .ok (.iconst 0, 1) := by decide +kernel
theorem dL_roll_2 : decode cL_roll 2 = .ok (.aload_n 0, 1) := by decide +kernel
theorem dL_roll_3 : decode cL_roll 3 = .ok (.iload_n 1, 1) := by decide +kernel
theorem dL_roll_4 : decode cL_roll 4 = .ok (.iload_n 2, 1) := by decide +kernel
theorem dL_roll_5 : decode cL_roll 5 = .ok (.invokevirtual 15, 3) := by decide +kernel
theorem dL_roll_8 : decode cL_roll 8 = .ok (.i2l, 1) := by decide +kernel
theorem dL_roll_9 : decode cL_roll 9 = .ok (.lastore, 1) := by decide +kernel
theorem dL_roll_10 : decode cL_roll 10 = .ok (.goto 7, 3) := by decide +kernel
theorem dL_roll_13 : decode cL_roll 13 = .ok (.astore 4, 2) := by decide +kernel
theorem dL_roll_15 : decode cL_roll 15 = .ok (.iconst 1, 1) := by decide +kernel
theorem dL_roll_16 : decode cL_roll 16 = .ok (.ireturn, 1) := by decide +kernel
theorem dL_roll_17 : decode cL_roll 17 = .ok (.iconst 0, 1) := by decide +kernel
theorem dL_roll_18 : decode cL_roll 18 = .ok (.ireturn, 1) := by decide +kernel
set_option maxRecDepth 20000 in
theorem ggL_fit_X4_fit : GoodIn wsL_fit wsX4_fit := goodIn_ca (goodIn_ca (goodIn_r _ [7, 8, 9, 10, 11, 12, 6, 13, 14, 15, 16, 17, 18, 19, 20, 21, 22, 23, 24, 25, 26, 27, 28, 29, 30, 31, 32] (by decide +kernel) (by decide +kernel)) (goodIn_sub (fun _ h => List.mem_cons_of_mem _ (List.mem_append_left _ (List.mem_append_right _ h))) (by decide +kernel))) (goodIn_sub (fun _ h => List.mem_cons_of_mem _ (List.mem_append_right _ h)) (by decide +kernel))
set_option maxRecDepth 20000 in
theorem gL_fit_X4_fit : GoodIn wsL_fit (wsV RL 18 RX4 yX4_fit wsX4_fit) := goodIn_app (goodIn_of _ (by decide +kernel)) ggL_fit_X4_fit
theorem dL_fit_0 : decode cL_fit 0 = .ok (.aload_n 3, 1) := by decide +kernel
theorem dL_fit_1 : decode cL_fit 1 = .ok (.iconst 0, 1) := by decide +kernel
theorem dL_fit_2 : decode cL_fit 2 = .ok (.aload_n 0, 1) := by decide +kernel
theorem dL_fit_3 : decode cL_fit 3 = .ok (.iload_n 1, 1) := by decide +kernel
theorem dL_fit_4 : decode cL_fit 4 = .ok (.iload_n 2, 1) := by decide +kernel
theorem dL_fit_5 : decode cL_fit 5 = .ok (.invokevirtual 18, 3) := by decide +kernel
theorem dL_fit_8 : decode cL_fit 8 = .ok (.i2l, 1) := by decide +kernel
theorem dL_fit_9 : decode cL_fit 9 = .ok (.lastore, 1) := by decide +kernel
theorem dL_fit_10 : decode cL_fit 10 = .ok (.goto 11, 3) := by decide +kernel
theorem dL_fit_13 : decode cL_fit 13 = .ok (.astore 4, 2) := by decide +kernel
theorem dL_fit_15 : decode cL_fit 15 = .ok (.iconst 1, 1) := by decide +kernel
theorem dL_fit_16 : decode cL_fit 16 = .ok (.ireturn, 1) := by decide +kernel
theorem dL_fit_17 : decode cL_fit 17 = .ok (.astore 4, 2) := by decide +kernel
theorem dL_fit_19 : decode cL_fit 19 = .ok (.iconst 2, 1) := by decide +kernel
theorem dL_fit_20 : decode cL_fit 20 = .ok (.ireturn, 1) := by decide +kernel
theorem dL_fit_21 : decode cL_fit 21 = .ok (.iconst 0, 1) := by decide +kernel
theorem dL_fit_22 : decode cL_fit 22 = .ok (.ireturn, 1) := by decide +kernel
set_option maxRecDepth 20000 in
theorem ggL_turn_X4_turn : GoodIn wsL_turn wsX4_turn := goodIn_ca (goodIn_r _ [6, 7, 8, 9, 5, 10, 11, 12, 13, 14, 15, 16, 17, 18, 19, 20] (by decide +kernel) (by decide +kernel)) (goodIn_sub (fun _ h => List.mem_cons_of_mem _ (List.mem_append_right _ h)) (by decide +kernel))
set_option maxRecDepth 20000 in
theorem gL_turn_X4_turn : GoodIn wsL_turn (wsV RL 23 RX4 yX4_turn wsX4_turn) := goodIn_app (goodIn_of _ (by decide +kernel)) ggL_turn_X4_turn
theorem dL_turn_0 : decode cL_turn 0 = .ok (.aload_n 3, 1) := by decide +kernel
theorem dL_turn_1 : decode cL_turn 1 = .ok (.iconst 0, 1) := by decide +kernel
theorem dL_turn_2 : decode cL_turn 2 = .ok (.aload_n 0, 1) := by decide +kernel
theorem dL_turn_3 : decode cL_turn 3 = .ok (.iload_n 1, 1) := by decide +kernel
theorem dL_turn_4 : decode cL_turn 4 = .ok (.iload_n 2, 1) := by decide +kernel
theorem dL_turn_5 : decode cL_turn 5 = .ok (.invokevirtual 23, 3) := by decide +kernel
theorem dL_turn_8 : decode cL_turn 8 = .ok (.ifCond .eq 7, 3) := by decide +kernel
theorem dL_turn_11 : decode cL_turn 11 = .ok (.lconst 1, 1) := by decide +kernel
theorem dL_turn_12 : decode cL_turn 12 = .ok (.goto 4, 3) := by decide +kernel
theorem dL_turn_15 : decode cL_turn 15 = .ok (.lconst 0, 1) := by decide +kernel
theorem dL_turn_16 : decode cL_turn 16 = .ok (.lastore, 1) := by decide +kernel
theorem dL_turn_17 : decode cL_turn 17 = .ok (.goto 7, 3) := by decide +kernel
theorem dL_turn_20 : decode cL_turn 20 = .ok (.astore 4, 2) := by decide +kernel
theorem dL_turn_22 : decode cL_turn 22 = .ok (.iconst 1, 1) := by decide +kernel
theorem dL_turn_23 : decode cL_turn 23 = .ok (.ireturn, 1) := by decide +kernel
theorem dL_turn_24 : decode cL_turn 24 = .ok (.iconst 0, 1) := by decide +kernel
theorem dL_turn_25 : decode cL_turn 25 = .ok (.ireturn, 1) := by decide +kernel
set_option maxRecDepth 20000 in
theorem ggL_run_X4_run : GoodIn wsL_run wsX4_run := goodIn_ca (goodIn_r _ [6, 7, 8, 9, 10, 11, 12, 13, 14, 15, 16, 17, 18, 19, 20, 21, 22, 23, 24, 25, 26, 27, 28, 29, 30, 31, 32, 33, 34, 5, 35, 36, 37, 38, 39, 40, 41, 42, 43, 44, 45, 46, 47, 48, 49, 50, 51, 52, 53, 54, 55, 56, 57, 58, 59, 60, 61, 62, 63, 64, 65, 66, 67, 68, 69, 70, 71, 72, 73, 74, 75, 76, 77] (by decide +kernel) (by decide +kernel)) (goodIn_sub (fun _ h => List.mem_cons_of_mem _ (List.mem_append_right _ h)) (by decide +kernel))
set_option maxRecDepth 20000 in
theorem gL_run_X4_run : GoodIn wsL_run (wsV RL 27 RX4 yX4_run wsX4_run) := goodIn_app (goodIn_of _ (by decide +kernel)) ggL_run_X4_run
theorem dL_run_0 : decode cL_run 0 = .ok (.aload_n 1, 1) := by decide +kernel
theorem dL_run_1 : decode cL_run 1 = .ok (.iconst 0, 1) := by decide +kernel
theorem dL_run_2 : decode cL_run 2 = .ok (.aload_n 0, 1) := by decide +kernel
theorem dL_run_3 : decode cL_run 3 = .ok (.invokevirtual 27, 3) := by decide +kernel
theorem dL_run_6 : decode cL_run 6 = .ok (.i2l, 1) := by decide +kernel
theorem dL_run_7 : decode cL_run 7 = .ok (.lastore, 1) := by decide +kernel
theorem dL_run_8 : decode cL_run 8 = .ok (.goto 6, 3) := by decide +kernel
theorem dL_run_11 : decode cL_run 11 = .ok (.astore_n 2, 1) := by decide +kernel
theorem dL_run_12 : decode cL_run 12 = .ok (.iconst 1, 1) := by decide +kernel
theorem dL_run_13 : decode cL_run 13 = .ok (.ireturn, 1) := by decide +kernel
theorem dL_run_14 : decode cL_run 14 = .ok (.iconst 0, 1) := by decide +kernel
theorem dL_run_15 : decode cL_run 15 = .ok (.ireturn, 1) := by decide +kernel
set_option maxRecDepth 20000 in
theorem ggL_faults_X4_faults : GoodIn wsL_faults wsX4_faults := goodIn_ca (goodIn_r _ [6, 7, 8, 9, 10, 5, 11, 12, 13, 14, 15, 16, 17, 18, 19, 20, 21, 22, 23, 24, 25, 26, 27] (by decide +kernel) (by decide +kernel)) (goodIn_sub (fun _ h => List.mem_cons_of_mem _ (List.mem_append_right _ h)) (by decide +kernel))
set_option maxRecDepth 20000 in
theorem gL_faults_X4_faults : GoodIn wsL_faults (wsV RL 33 RX4 yX4_faults wsX4_faults) := goodIn_app (goodIn_of _ (by decide +kernel)) ggL_faults_X4_faults
theorem dL_faults_0 : decode cL_faults 0 = .ok (.aload 4, 2) := by decide +kernel
theorem dL_faults_2 : decode cL_faults 2 = .ok (.iconst 0, 1) := by decide +kernel
theorem dL_faults_3 : decode cL_faults 3 = .ok (.aload_n 0, 1) := by decide +kernel
theorem dL_faults_4 : decode cL_faults 4 = .ok (.iload_n 1, 1) := by decide +kernel
theorem dL_faults_5 : decode cL_faults 5 = .ok (.iload_n 2, 1) := by decide +kernel
theorem dL_faults_6 : decode cL_faults 6 = .ok (.iload_n 3, 1) := by decide +kernel
theorem dL_faults_7 : decode cL_faults 7 = .ok (.invokevirtual 33, 3) := by decide +kernel
theorem dL_faults_10 : decode cL_faults 10 = .ok (.i2l, 1) := by decide +kernel
theorem dL_faults_11 : decode cL_faults 11 = .ok (.lastore, 1) := by decide +kernel
theorem dL_faults_12 : decode cL_faults 12 = .ok (.goto 7, 3) := by decide +kernel
theorem dL_faults_15 : decode cL_faults 15 = .ok (.astore 5, 2) := by decide +kernel
theorem dL_faults_17 : decode cL_faults 17 = .ok (.iconst 1, 1) := by decide +kernel
theorem dL_faults_18 : decode cL_faults 18 = .ok (.ireturn, 1) := by decide +kernel
theorem dL_faults_19 : decode cL_faults 19 = .ok (.iconst 0, 1) := by decide +kernel
theorem dL_faults_20 : decode cL_faults 20 = .ok (.ireturn, 1) := by decide +kernel
set_option maxRecDepth 20000 in
theorem ggL_tear_X4_tear : GoodIn wsL_tear wsX4_tear := goodIn_ca (goodIn_ca (goodIn_r _ [7, 8, 9, 10, 11, 12, 13, 6, 14, 15, 16, 17, 18, 19, 20, 21, 22, 23, 24, 25, 26, 27, 28, 29, 30, 31, 32, 33, 34, 35, 36, 37] (by decide +kernel) (by decide +kernel)) (goodIn_sub (fun _ h => List.mem_cons_of_mem _ (List.mem_append_left _ (List.mem_append_right _ h))) (by decide +kernel))) (goodIn_sub (fun _ h => List.mem_cons_of_mem _ (List.mem_append_right _ h)) (by decide +kernel))
set_option maxRecDepth 20000 in
theorem gL_tear_X4_tear : GoodIn wsL_tear (wsV RL 37 RX4 yX4_tear wsX4_tear) := goodIn_app (goodIn_of _ (by decide +kernel)) ggL_tear_X4_tear
theorem dL_tear_0 : decode cL_tear 0 = .ok (.aload 4, 2) := by decide +kernel
theorem dL_tear_2 : decode cL_tear 2 = .ok (.iconst 0, 1) := by decide +kernel
theorem dL_tear_3 : decode cL_tear 3 = .ok (.aload_n 0, 1) := by decide +kernel
theorem dL_tear_4 : decode cL_tear 4 = .ok (.iload_n 1, 1) := by decide +kernel
theorem dL_tear_5 : decode cL_tear 5 = .ok (.iload_n 2, 1) := by decide +kernel
theorem dL_tear_6 : decode cL_tear 6 = .ok (.iload_n 3, 1) := by decide +kernel
theorem dL_tear_7 : decode cL_tear 7 = .ok (.invokevirtual 37, 3) := by decide +kernel
theorem dL_tear_10 : decode cL_tear 10 = .ok (.i2l, 1) := by decide +kernel
theorem dL_tear_11 : decode cL_tear 11 = .ok (.lastore, 1) := by decide +kernel
theorem dL_tear_12 : decode cL_tear 12 = .ok (.goto 11, 3) := by decide +kernel
theorem dL_tear_15 : decode cL_tear 15 = .ok (.astore 5, 2) := by decide +kernel
theorem dL_tear_17 : decode cL_tear 17 = .ok (.iconst 1, 1) := by decide +kernel
theorem dL_tear_18 : decode cL_tear 18 = .ok (.ireturn, 1) := by decide +kernel
theorem dL_tear_19 : decode cL_tear 19 = .ok (.astore 5, 2) := by decide +kernel
theorem dL_tear_21 : decode cL_tear 21 = .ok (.iconst 2, 1) := by decide +kernel
theorem dL_tear_22 : decode cL_tear 22 = .ok (.ireturn, 1) := by decide +kernel
theorem dL_tear_23 : decode cL_tear 23 = .ok (.iconst 0, 1) := by decide +kernel
theorem dL_tear_24 : decode cL_tear 24 = .ok (.ireturn, 1) := by decide +kernel
set_option maxRecDepth 20000 in
theorem ggL_sheet_X4_sheet : GoodIn wsL_sheet wsX4_sheet := goodIn_ca (goodIn_r _ [6, 7, 8, 9, 10, 5, 11, 12, 13, 14, 15, 16, 17, 18, 19, 20, 21, 22, 23, 24, 25, 26, 27, 28, 29, 30, 31, 32, 33, 34, 35, 36, 37, 38, 39, 40, 41, 42, 43, 44, 45, 46, 47, 48, 49, 50, 51, 52, 53, 54, 55, 56, 57, 58, 59, 60, 61, 62, 63, 64, 65, 66, 67, 68, 69, 70, 71, 72, 73, 74, 75, 76, 77, 78, 79, 80, 81] (by decide +kernel) (by decide +kernel)) (goodIn_sub (fun _ h => List.mem_cons_of_mem _ (List.mem_append_right _ h)) (by decide +kernel))
set_option maxRecDepth 20000 in
theorem gL_sheet_X4_sheet : GoodIn wsL_sheet (wsV RL 40 RX4 yX4_sheet wsX4_sheet) := goodIn_app (goodIn_of _ (by decide +kernel)) ggL_sheet_X4_sheet
theorem dL_sheet_0 : decode cL_sheet 0 = .ok (.aload_n 3, 1) := by decide +kernel
theorem dL_sheet_1 : decode cL_sheet 1 = .ok (.iconst 0, 1) := by decide +kernel
theorem dL_sheet_2 : decode cL_sheet 2 = .ok (.aload_n 0, 1) := by decide +kernel
theorem dL_sheet_3 : decode cL_sheet 3 = .ok (.iload_n 1, 1) := by decide +kernel
theorem dL_sheet_4 : decode cL_sheet 4 = .ok (.iload_n 2, 1) := by decide +kernel
theorem dL_sheet_5 : decode cL_sheet 5 = .ok (.invokevirtual 40, 3) := by decide +kernel
theorem dL_sheet_8 : decode cL_sheet 8 = .ok (.i2l, 1) := by decide +kernel
theorem dL_sheet_9 : decode cL_sheet 9 = .ok (.lastore, 1) := by decide +kernel
theorem dL_sheet_10 : decode cL_sheet 10 = .ok (.goto 7, 3) := by decide +kernel
theorem dL_sheet_13 : decode cL_sheet 13 = .ok (.astore 4, 2) := by decide +kernel
theorem dL_sheet_15 : decode cL_sheet 15 = .ok (.iconst 1, 1) := by decide +kernel
theorem dL_sheet_16 : decode cL_sheet 16 = .ok (.ireturn, 1) := by decide +kernel
theorem dL_sheet_17 : decode cL_sheet 17 = .ok (.iconst 0, 1) := by decide +kernel
theorem dL_sheet_18 : decode cL_sheet 18 = .ok (.ireturn, 1) := by decide +kernel
set_option maxRecDepth 20000 in
theorem ggL_pin_X4_pin : GoodIn wsL_pin wsX4_pin := goodIn_ca (goodIn_r _ [6, 7, 8, 9, 5, 10, 11, 12, 13, 14, 15, 16, 17, 18, 19, 20, 21, 22, 23, 24, 25, 26, 27, 28, 29, 30, 31, 32, 33, 34, 35, 36, 37, 38, 39, 40, 41, 42, 43] (by decide +kernel) (by decide +kernel)) (goodIn_sub (fun _ h => List.mem_cons_of_mem _ (List.mem_append_right _ h)) (by decide +kernel))
set_option maxRecDepth 20000 in
theorem gL_pin_X4_pin : GoodIn wsL_pin (wsV RL 43 RX4 yX4_pin wsX4_pin) := goodIn_app (goodIn_of _ (by decide +kernel)) ggL_pin_X4_pin
end
section
theorem dL_pin_0 : decode cL_pin 0 = .ok (.aload_n 3, 1) := by decide +kernel
theorem dL_pin_1 : decode cL_pin 1 = .ok (.iconst 0, 1) := by decide +kernel
theorem dL_pin_2 : decode cL_pin 2 = .ok (.aload_n 0, 1) := by decide +kernel
theorem dL_pin_3 : decode cL_pin 3 = .ok (.iload_n 1, 1) := by decide +kernel
theorem dL_pin_4 : decode cL_pin 4 = .ok (.iload_n 2, 1) := by decide +kernel
theorem dL_pin_5 : decode cL_pin 5 = .ok (.invokevirtual 43, 3) := by decide +kernel
theorem dL_pin_8 : decode cL_pin 8 = .ok (.i2l, 1) := by decide +kernel
theorem dL_pin_9 : decode cL_pin 9 = .ok (.lastore, 1) := by decide +kernel
theorem dL_pin_10 : decode cL_pin 10 = .ok (.goto 7, 3) := by decide +kernel
theorem dL_pin_13 : decode cL_pin 13 = .ok (.astore 4, 2) := by decide +kernel
theorem dL_pin_15 : decode cL_pin 15 = .ok (.iconst 1, 1) := by decide +kernel
theorem dL_pin_16 : decode cL_pin 16 = .ok (.ireturn, 1) := by decide +kernel
theorem dL_pin_17 : decode cL_pin 17 = .ok (.iconst 0, 1) := by decide +kernel
theorem dL_pin_18 : decode cL_pin 18 = .ok (.ireturn, 1) := by decide +kernel
set_option maxRecDepth 20000 in
theorem ggL_count_X4_count : GoodIn wsL_count wsX4_count := goodIn_ca (goodIn_r _ [6, 7, 8, 5, 9, 10, 11, 12, 13, 14, 15, 16, 17, 18, 19, 20, 21, 22, 23, 24, 25, 26, 27, 28, 29, 30, 31, 32, 33, 34, 35, 36, 37, 38, 39, 40, 41, 42, 43, 44, 45, 46, 47, 48, 49, 50, 51, 52, 53, 54, 55, 56, 57, 58, 59, 60, 61, 62, 63, 64, 65, 66, 67, 68, 69, 70] (by decide +kernel) (by decide +kernel)) (goodIn_sub (fun _ h => List.mem_cons_of_mem _ (List.mem_append_right _ h)) (by decide +kernel))
set_option maxRecDepth 20000 in
theorem gL_count_X4_count : GoodIn wsL_count (wsV RL 46 RX4 yX4_count wsX4_count) := goodIn_app (goodIn_of _ (by decide +kernel)) ggL_count_X4_count
theorem dL_count_0 : decode cL_count 0 = .ok (.aload_n 2, 1) := by decide +kernel
theorem dL_count_1 : decode cL_count 1 = .ok (.iconst 0, 1) := by decide +kernel
theorem dL_count_2 : decode cL_count 2 = .ok (.aload_n 0, 1) := by decide +kernel
theorem dL_count_3 : decode cL_count 3 = .ok (.iload_n 1, 1) := by decide +kernel
theorem dL_count_4 : decode cL_count 4 = .ok (.invokevirtual 46, 3) := by decide +kernel
theorem dL_count_7 : decode cL_count 7 = .ok (.i2l, 1) := by decide +kernel
theorem dL_count_8 : decode cL_count 8 = .ok (.lastore, 1) := by decide +kernel
theorem dL_count_9 : decode cL_count 9 = .ok (.goto 6, 3) := by decide +kernel
theorem dL_count_12 : decode cL_count 12 = .ok (.astore_n 3, 1) := by decide +kernel
theorem dL_count_13 : decode cL_count 13 = .ok (.iconst 1, 1) := by decide +kernel
theorem dL_count_14 : decode cL_count 14 = .ok (.ireturn, 1) := by decide +kernel
theorem dL_count_15 : decode cL_count 15 = .ok (.iconst 0, 1) := by decide +kernel
theorem dL_count_16 : decode cL_count 16 = .ok (.ireturn, 1) := by decide +kernel
set_option maxRecDepth 20000 in
theorem ggL_foresee_X4_foresee : GoodIn wsL_foresee wsX4_foresee := goodIn_ca (goodIn_ca (goodIn_r _ [7, 8, 9, 10, 11, 12, 6, 13, 14, 15, 16, 17, 18, 19, 20, 21, 22, 23, 24, 25, 26, 27, 28, 29, 30, 31, 32, 33, 34, 35, 36, 37, 38, 39, 40, 41, 42, 43, 44, 45, 46, 47, 48, 49, 50, 51, 52, 53, 54, 55, 56, 57, 58, 59, 60, 61, 62, 63, 64, 65, 66, 67, 68, 69, 70, 71, 72, 73, 74, 75, 76, 77, 78, 79, 80, 81, 82, 83, 84, 85, 86, 87, 88, 89, 90, 91, 92, 93, 94, 95, 96, 97, 98, 99, 100, 101, 102, 103, 104, 105, 106, 107, 108, 109, 110, 111, 112, 113, 114, 115, 116, 117, 118, 119, 120, 121, 122, 123, 124, 125, 126, 127, 128, 129, 130, 131, 132, 133, 134] (by decide +kernel) (by decide +kernel)) (goodIn_sub (fun _ h => List.mem_cons_of_mem _ (List.mem_append_left _ (List.mem_append_right _ h))) (by decide +kernel))) (goodIn_sub (fun _ h => List.mem_cons_of_mem _ (List.mem_append_right _ h)) (by decide +kernel))
set_option maxRecDepth 20000 in
theorem gL_foresee_X4_foresee : GoodIn wsL_foresee (wsV RL 50 RX4 yX4_foresee wsX4_foresee) := goodIn_app (goodIn_of _ (by decide +kernel)) ggL_foresee_X4_foresee
theorem dL_foresee_0 : decode cL_foresee 0 = .ok (.aload_n 3, 1) := by decide +kernel
theorem dL_foresee_1 : decode cL_foresee 1 = .ok (.iconst 0, 1) := by decide +kernel
theorem dL_foresee_2 : decode cL_foresee 2 = .ok (.aload_n 0, 1) := by decide +kernel
theorem dL_foresee_3 : decode cL_foresee 3 = .ok (.iload_n 1, 1) := by decide +kernel
theorem dL_foresee_4 : decode cL_foresee 4 = .ok (.iload_n 2, 1) := by decide +kernel
theorem dL_foresee_5 : decode cL_foresee 5 = .ok (.invokevirtual 50, 3) := by decide +kernel
theorem dL_foresee_8 : decode cL_foresee 8 = .ok (.i2l, 1) := by decide +kernel
theorem dL_foresee_9 : decode cL_foresee 9 = .ok (.lastore, 1) := by decide +kernel
theorem dL_foresee_10 : decode cL_foresee 10 = .ok (.goto 11, 3) := by decide +kernel
theorem dL_foresee_13 : decode cL_foresee 13 = .ok (.astore 4, 2) := by decide +kernel
theorem dL_foresee_15 : decode cL_foresee 15 = .ok (.iconst 1, 1) := by decide +kernel
theorem dL_foresee_16 : decode cL_foresee 16 = .ok (.ireturn, 1) := by decide +kernel
theorem dL_foresee_17 : decode cL_foresee 17 = .ok (.astore 4, 2) := by decide +kernel
theorem dL_foresee_19 : decode cL_foresee 19 = .ok (.iconst 2, 1) := by decide +kernel
theorem dL_foresee_20 : decode cL_foresee 20 = .ok (.ireturn, 1) := by decide +kernel
theorem dL_foresee_21 : decode cL_foresee 21 = .ok (.iconst 0, 1) := by decide +kernel
theorem dL_foresee_22 : decode cL_foresee 22 = .ok (.ireturn, 1) := by decide +kernel
set_option maxRecDepth 20000 in
theorem ggL_advise_X4_advise : GoodIn wsL_advise wsX4_advise := goodIn_ca (goodIn_r _ [6, 7, 8, 9, 10, 11, 5, 12, 13, 14, 15, 16, 17, 18, 19, 20, 21, 22, 23, 24, 25, 26, 27, 28, 29, 30, 31, 32, 33, 34, 35, 36, 37, 38, 39, 40, 41, 42, 43, 44, 45, 46, 47, 48, 49, 50, 51, 52, 53, 54, 55, 56, 57, 58, 59, 60, 61, 62, 63, 64, 65, 66, 67, 68, 69, 70, 71, 72, 73, 74, 75, 76, 77, 78, 79, 80, 81, 82, 83, 84, 85, 86, 87, 88, 89, 90, 91, 92, 93, 94, 95, 96, 97, 98, 99, 100, 101, 102, 103, 104, 105, 106, 107, 108, 109, 110, 111, 112, 113, 114, 115, 116, 117, 118, 119, 120] (by decide +kernel) (by decide +kernel)) (goodIn_sub (fun _ h => List.mem_cons_of_mem _ (List.mem_append_right _ h)) (by decide +kernel))
set_option maxRecDepth 20000 in
theorem gL_advise_X4_advise : GoodIn wsL_advise (wsV RL 53 RX4 yX4_advise wsX4_advise) := goodIn_app (goodIn_of _ (by decide +kernel)) ggL_advise_X4_advise
theorem dL_advise_0 : decode cL_advise 0 = .ok (.aload_n 2, 1) := by decide +kernel
theorem dL_advise_1 : decode cL_advise 1 = .ok (.iconst 0, 1) := by decide +kernel
theorem dL_advise_2 : decode cL_advise 2 = .ok (.aload_n 0, 1) := by decide +kernel
theorem dL_advise_3 : decode cL_advise 3 = .ok (.iload_n 1, 1) := by decide +kernel
theorem dL_advise_4 : decode cL_advise 4 = .ok (.invokevirtual 53, 3) := by decide +kernel
theorem dL_advise_7 : decode cL_advise 7 = .ok (.i2l, 1) := by decide +kernel
theorem dL_advise_8 : decode cL_advise 8 = .ok (.lastore, 1) := by decide +kernel
theorem dL_advise_9 : decode cL_advise 9 = .ok (.goto 6, 3) := by decide +kernel
theorem dL_advise_12 : decode cL_advise 12 = .ok (.astore_n 3, 1) := by decide +kernel
theorem dL_advise_13 : decode cL_advise 13 = .ok (.iconst 1, 1) := by decide +kernel
theorem dL_advise_14 : decode cL_advise 14 = .ok (.ireturn, 1) := by decide +kernel
theorem dL_advise_15 : decode cL_advise 15 = .ok (.iconst 0, 1) := by decide +kernel
theorem dL_advise_16 : decode cL_advise 16 = .ok (.ireturn, 1) := by decide +kernel
set_option maxRecDepth 20000 in
theorem ggL_like_X4_like : GoodIn wsL_like wsX4_like := goodIn_ca (goodIn_r _ [6, 7, 8, 9, 10, 5, 11, 12, 13, 14, 15, 16, 17, 18, 19, 20, 21, 22, 23, 24, 25, 26, 27, 28, 29, 30, 31, 32, 33, 34, 35] (by decide +kernel) (by decide +kernel)) (goodIn_sub (fun _ h => List.mem_cons_of_mem _ (List.mem_append_right _ h)) (by decide +kernel))
set_option maxRecDepth 20000 in
theorem gL_like_X4_like : GoodIn wsL_like (wsV RL 56 RX4 yX4_like wsX4_like) := goodIn_app (goodIn_of _ (by decide +kernel)) ggL_like_X4_like
theorem dL_like_0 : decode cL_like 0 = .ok (.aload_n 2, 1) := by decide +kernel
theorem dL_like_1 : decode cL_like 1 = .ok (.iconst 0, 1) := by decide +kernel
theorem dL_like_2 : decode cL_like 2 = .ok (.aload_n 0, 1) := by decide +kernel
theorem dL_like_3 : decode cL_like 3 = .ok (.iload_n 1, 1) := by decide +kernel
theorem dL_like_4 : decode cL_like 4 = .ok (.invokevirtual 56, 3) := by decide +kernel
theorem dL_like_7 : decode cL_like 7 = .ok (.i2l, 1) := by decide +kernel
theorem dL_like_8 : decode cL_like 8 = .ok (.lastore, 1) := by decide +kernel
theorem dL_like_9 : decode cL_like 9 = .ok (.goto 6, 3) := by decide +kernel
theorem dL_like_12 : decode cL_like 12 = .ok (.astore_n 3, 1) := by decide +kernel
theorem dL_like_13 : decode cL_like 13 = .ok (.iconst 1, 1) := by decide +kernel
theorem dL_like_14 : decode cL_like 14 = .ok (.ireturn, 1) := by decide +kernel
theorem dL_like_15 : decode cL_like 15 = .ok (.iconst 0, 1) := by decide +kernel
theorem dL_like_16 : decode cL_like 16 = .ok (.ireturn, 1) := by decide +kernel
set_option maxRecDepth 20000 in
theorem ggL_law_X4_init : GoodIn wsL_law wsX4_init := goodIn_r _ [9, 10, 11, 12, 13, 14, 15, 16, 17, 18, 19, 20, 21, 22, 23, 24, 25, 26, 27, 28, 29, 30, 31, 32, 33, 34, 35, 36, 37, 38, 39, 40, 41, 42, 43, 44, 45, 46, 47, 48, 49, 50, 51, 52, 53, 54, 55, 56, 57, 513, 514, 515, 516, 517, 518, 519, 500, 501, 502, 503, 504, 520, 521, 522, 523, 524, 525, 526, 527] (by decide +kernel) (by decide +kernel)
set_option maxRecDepth 20000 in
theorem gL_law_X4_init : GoodIn wsL_law (wsX4_init) := ggL_law_X4_init
set_option maxRecDepth 20000 in
theorem ggL_law_X5_init : GoodIn wsL_law wsX5_init := goodIn_r _ [60, 61, 11, 12, 54, 62, 63, 64, 65, 21, 66, 67, 505, 506, 507, 508, 509, 510, 511, 512] (by decide +kernel) (by decide +kernel)
set_option maxRecDepth 20000 in
theorem gL_law_X5_init : GoodIn wsL_law (wsX5_init) := ggL_law_X5_init
set_option maxRecDepth 20000 in
theorem ggL_law_L_setFeed : GoodIn wsL_law wsL_setFeed := goodIn_ca (goodIn_r _ [71, 72, 73, 74, 75, 2, 76, 77, 78, 16, 79, 80, 81, 500, 501, 502, 503, 504, 513, 514, 515, 516, 517, 518, 519] (by decide +kernel) (by decide +kernel)) (goodIn_sub (fun _ h => List.mem_append_left _ (List.mem_append_left _ (List.mem_append_right _ h))) (by decide +kernel))
set_option maxRecDepth 20000 in
theorem gL_law_L_setFeed : GoodIn wsL_law (va_wsS RL 63 yL_setFeed wsL_setFeed) := goodIn_app (goodIn_of _ (by decide +kernel)) ggL_law_L_setFeed
set_option maxRecDepth 20000 in
theorem ggL_law_X5_setFeed : GoodIn wsL_law wsX5_setFeed := goodIn_r _ [85, 86, 63, 87, 88, 5, 89, 90, 91, 92, 93, 505, 506, 507, 508, 509, 510, 511, 512] (by decide +kernel) (by decide +kernel)
set_option maxRecDepth 20000 in
theorem gL_law_X5_setFeed : GoodIn wsL_law (wsV RL 68 RX5 yX5_setFeed wsX5_setFeed) := goodIn_app (goodIn_of _ (by decide +kernel)) ggL_law_X5_setFeed
set_option maxRecDepth 20000 in
theorem ggL_law_X5_thrown : GoodIn wsL_law wsX5_thrown := goodIn_r _ [97, 86, 505, 506, 507, 508, 509, 510, 511, 512] (by decide +kernel) (by decide +kernel)
set_option maxRecDepth 20000 in
theorem gL_law_X5_thrown : GoodIn wsL_law (wsV RL 69 RX5 yX5_thrown wsX5_thrown) := goodIn_app (goodIn_of _ (by decide +kernel)) ggL_law_X5_thrown
set_option maxRecDepth 20000 in
theorem ggL_law_X4_align : GoodIn wsL_law wsX4_align := goodIn_r _ [101, 16, 500, 501, 502, 503, 504, 513, 514, 515, 516, 517, 518, 519] (by decide +kernel) (by decide +kernel)
set_option maxRecDepth 20000 in
theorem gL_law_X4_align : GoodIn wsL_law (wsV RL 72 RX4 yX4_align wsX4_align) := goodIn_app (goodIn_of _ (by decide +kernel)) ggL_law_X4_align
set_option maxRecDepth 20000 in
theorem ggL_law_X5_align : GoodIn wsL_law wsX5_align := goodIn_r _ [105, 86, 63, 505, 506, 507, 508, 509, 510, 511, 512] (by decide +kernel) (by decide +kernel)
set_option maxRecDepth 20000 in
theorem gL_law_X5_align : GoodIn wsL_law (wsV RL 75 RX5 yX5_align wsX5_align) := goodIn_app (goodIn_of _ (by decide +kernel)) ggL_law_X5_align
set_option maxRecDepth 20000 in
theorem ggL_law_L_roll : GoodIn wsL_law wsL_roll := goodIn_ca (goodIn_r _ [108, 72, 109, 110, 111, 2, 112, 77, 78, 16, 79, 80, 81, 500, 501, 502, 503, 504, 513, 514, 515, 516, 517, 518, 519] (by decide +kernel) (by decide +kernel)) (goodIn_sub (fun _ h => List.mem_append_left _ (List.mem_append_left _ (List.mem_append_right _ h))) (by decide +kernel))
set_option maxRecDepth 20000 in
theorem gL_law_L_roll : GoodIn wsL_law (va_wsS RL 76 yL_roll wsL_roll) := goodIn_app (goodIn_of _ (by decide +kernel)) ggL_law_L_roll
set_option maxRecDepth 20000 in
theorem ggL_law_X5_roll : GoodIn wsL_law wsX5_roll := goodIn_r _ [116, 86, 63, 87, 88, 5, 89, 90, 91, 92, 93, 505, 506, 507, 508, 509, 510, 511, 512] (by decide +kernel) (by decide +kernel)
set_option maxRecDepth 20000 in
theorem gL_law_X5_roll : GoodIn wsL_law (wsV RL 78 RX5 yX5_roll wsX5_roll) := goodIn_app (goodIn_of _ (by decide +kernel)) ggL_law_X5_roll
set_option maxRecDepth 20000 in
theorem ggL_law_L_fit : GoodIn wsL_law wsL_fit := goodIn_ca (goodIn_ca (goodIn_r _ [119, 120, 72, 121, 122, 123, 2, 124, 77, 78, 16, 125, 126, 127, 128, 129, 79, 80, 81, 500, 501, 502, 503, 504, 513, 514, 515, 516, 517, 518, 519, 526, 527] (by decide +kernel) (by decide +kernel)) (goodIn_sub (fun _ h => List.mem_append_left _ (List.mem_append_left _ (List.mem_append_right _ h))) (by decide +kernel))) (goodIn_sub (fun _ h => List.mem_append_left _ (List.mem_append_right _ h)) (by decide +kernel))
set_option maxRecDepth 20000 in
theorem gL_law_L_fit : GoodIn wsL_law (va_wsS RL 79 yL_fit wsL_fit) := goodIn_app (goodIn_of _ (by decide +kernel)) ggL_law_L_fit
set_option maxRecDepth 20000 in
theorem ggL_law_X5_fit : GoodIn wsL_law wsX5_fit := goodIn_r _ [133, 86, 65, 64, 87, 88, 5, 89, 90, 91, 92, 93, 505, 506, 507, 508, 509, 510, 511, 512] (by decide +kernel) (by decide +kernel)
set_option maxRecDepth 20000 in
theorem gL_law_X5_fit : GoodIn wsL_law (wsV RL 81 RX5 yX5_fit wsX5_fit) := goodIn_app (goodIn_of _ (by decide +kernel)) ggL_law_X5_fit
set_option maxRecDepth 20000 in
theorem ggL_law_L_turn : GoodIn wsL_law wsL_turn := goodIn_ca (goodIn_r _ [136, 120, 137, 138, 139, 2, 140, 22, 141, 142, 143, 128, 129, 79, 80, 81, 500, 501, 502, 503, 504] (by decide +kernel) (by decide +kernel)) (goodIn_sub (fun _ h => List.mem_append_left _ (List.mem_append_right _ h)) (by decide +kernel))
set_option maxRecDepth 20000 in
theorem gL_law_L_turn : GoodIn wsL_law (va_wsS RL 82 yL_turn wsL_turn) := goodIn_app (goodIn_of _ (by decide +kernel)) ggL_law_L_turn
set_option maxRecDepth 20000 in
theorem ggL_law_X5_turn : GoodIn wsL_law wsX5_turn := goodIn_r _ [147, 86, 66, 148, 149, 5, 150, 87, 88, 89, 505, 506, 507, 508, 509, 510, 511, 512] (by decide +kernel) (by decide +kernel)
set_option maxRecDepth 20000 in
theorem gL_law_X5_turn : GoodIn wsL_law (wsV RL 84 RX5 yX5_turn wsX5_turn) := goodIn_app (goodIn_of _ (by decide +kernel)) ggL_law_X5_turn
set_option maxRecDepth 20000 in
theorem ggL_law_L_run : GoodIn wsL_law wsL_run := goodIn_ca (goodIn_r _ [153, 154, 155, 156, 157, 2, 158, 159, 160, 161, 16, 22, 24, 162, 163, 164, 15, 165, 166, 31, 167, 168, 169, 170, 171, 172, 173, 174, 175, 176, 177, 178, 179, 180, 80, 81, 181, 182, 183, 184, 34, 185, 186, 187, 36, 188, 189, 40, 190, 191, 192, 193, 32, 194, 195, 196, 197, 198, 199, 200, 201, 202, 500, 501, 502, 503, 504, 513, 514, 515, 516, 517, 518, 519, 524, 525, 526, 527] (by decide +kernel) (by decide +kernel)) (goodIn_sub (fun _ h => List.mem_append_right _ h) (by decide +kernel))
set_option maxRecDepth 20000 in
theorem gL_law_L_run : GoodIn wsL_law (va_wsS RL 85 yL_run wsL_run) := goodIn_app (goodIn_of _ (by decide +kernel)) ggL_law_L_run
set_option maxRecDepth 20000 in
theorem ggL_law_X5_run : GoodIn wsL_law wsX5_run := goodIn_r _ [206, 86, 207, 63, 67, 62, 208, 209, 210, 211, 90, 91, 92, 5, 93, 212, 213, 214, 215, 216, 171, 172, 173, 217, 175, 176, 218, 219, 220, 221, 66, 65, 87, 88, 89, 222, 223, 224, 225, 64, 505, 506, 507, 508, 509, 510, 511, 512] (by decide +kernel) (by decide +kernel)
set_option maxRecDepth 20000 in
theorem gL_law_X5_run : GoodIn wsL_law (wsV RL 88 RX5 yX5_run wsX5_run) := goodIn_app (goodIn_of _ (by decide +kernel)) ggL_law_X5_run
set_option maxRecDepth 20000 in
theorem ggL_law_L_faults : GoodIn wsL_law wsL_faults := goodIn_ca (goodIn_r _ [228, 120, 229, 230, 231, 2, 232, 24, 233, 234, 235, 236, 128, 129, 161, 79, 80, 81, 141, 142, 143, 500, 501, 502, 503, 504, 524, 525] (by decide +kernel) (by decide +kernel)) (goodIn_sub (fun _ h => List.mem_append_left _ (List.mem_append_right _ h)) (by decide +kernel))
set_option maxRecDepth 20000 in
theorem gL_law_L_faults : GoodIn wsL_law (va_wsS RL 89 yL_faults wsL_faults) := goodIn_app (goodIn_of _ (by decide +kernel)) ggL_law_L_faults
set_option maxRecDepth 20000 in
theorem ggL_law_X5_faults : GoodIn wsL_law wsX5_faults := goodIn_r _ [240, 86, 62, 241, 242, 243, 5, 244, 207, 87, 88, 89, 148, 149, 150, 90, 91, 92, 93, 505, 506, 507, 508, 509, 510, 511, 512] (by decide +kernel) (by decide +kernel)
set_option maxRecDepth 20000 in
theorem gL_law_X5_faults : GoodIn wsL_law (wsV RL 92 RX5 yX5_faults wsX5_faults) := goodIn_app (goodIn_of _ (by decide +kernel)) ggL_law_X5_faults
set_option maxRecDepth 20000 in
theorem ggL_law_L_tear : GoodIn wsL_law wsL_tear := goodIn_ca (goodIn_ca (goodIn_r _ [247, 120, 154, 248, 249, 250, 2, 251, 159, 160, 24, 233, 234, 235, 236, 128, 129, 161, 79, 80, 81, 141, 142, 143, 252, 253, 254, 26, 255, 55, 56, 500, 501, 502, 503, 504, 524, 525] (by decide +kernel) (by decide +kernel)) (goodIn_sub (fun _ h => List.mem_append_right _ h) (by decide +kernel))) (goodIn_sub (fun _ h => List.mem_append_left _ (List.mem_append_right _ h)) (by decide +kernel))
set_option maxRecDepth 20000 in
theorem gL_law_L_tear : GoodIn wsL_law (va_wsS RL 93 yL_tear wsL_tear) := goodIn_app (goodIn_of _ (by decide +kernel)) ggL_law_L_tear
set_option maxRecDepth 20000 in
theorem ggL_law_X5_tear : GoodIn wsL_law wsX5_tear := goodIn_r _ [259, 86, 62, 241, 242, 243, 5, 244, 207, 87, 88, 89, 148, 149, 150, 90, 91, 92, 93, 260, 261, 262, 505, 506, 507, 508, 509, 510, 511, 512] (by decide +kernel) (by decide +kernel)
set_option maxRecDepth 20000 in
theorem gL_law_X5_tear : GoodIn wsL_law (wsV RL 95 RX5 yX5_tear wsX5_tear) := goodIn_app (goodIn_of _ (by decide +kernel)) ggL_law_X5_tear
set_option maxRecDepth 20000 in
theorem ggL_law_L_sheet : GoodIn wsL_law wsL_sheet := goodIn_ca (goodIn_r _ [265, 120, 266, 267, 268, 2, 269, 24, 233, 234, 235, 236, 128, 129, 161, 79, 80, 81, 270, 271, 272, 273, 274, 275, 26, 276, 277, 278, 279, 280, 56, 281, 282, 283, 284, 285, 286, 287, 288, 55, 289, 290, 291, 292, 293, 253, 254, 255, 294, 295, 296, 297, 298, 299, 300, 301, 302, 303, 304, 305, 306, 307, 308, 309, 310, 175, 172, 176, 311, 312, 313, 314, 315, 316, 317, 500, 501, 502, 503, 504, 524, 525] (by decide +kernel) (by decide +kernel)) (goodIn_sub (fun _ h => List.mem_append_left _ (List.mem_append_right _ h)) (by decide +kernel))
set_option maxRecDepth 20000 in
theorem gL_law_L_sheet : GoodIn wsL_law (va_wsS RL 96 yL_sheet wsL_sheet) := goodIn_app (goodIn_of _ (by decide +kernel)) ggL_law_L_sheet
set_option maxRecDepth 20000 in
theorem ggL_law_X5_sheet : GoodIn wsL_law wsX5_sheet := goodIn_r _ [321, 86, 241, 242, 243, 5, 244, 207, 87, 88, 89, 322, 323, 324, 325, 62, 326, 327, 328, 329, 330, 331, 332, 333, 217, 175, 172, 176, 334, 335, 336, 337, 260, 261, 262, 90, 91, 92, 93, 505, 506, 507, 508, 509, 510, 511, 512] (by decide +kernel) (by decide +kernel)
set_option maxRecDepth 20000 in
theorem gL_law_X5_sheet : GoodIn wsL_law (wsV RL 98 RX5 yX5_sheet wsX5_sheet) := goodIn_app (goodIn_of _ (by decide +kernel)) ggL_law_X5_sheet
set_option maxRecDepth 20000 in
theorem ggL_law_L_pin : GoodIn wsL_law wsL_pin := goodIn_ca (goodIn_r _ [340, 120, 341, 342, 343, 2, 344, 16, 125, 126, 127, 128, 129, 79, 80, 81, 270, 271, 272, 345, 346, 347, 36, 348, 40, 189, 202, 186, 187, 188, 500, 501, 502, 503, 504, 513, 514, 515, 516, 517, 518, 519, 526, 527] (by decide +kernel) (by decide +kernel)) (goodIn_sub (fun _ h => List.mem_append_left _ (List.mem_append_right _ h)) (by decide +kernel))
set_option maxRecDepth 20000 in
theorem gL_law_L_pin : GoodIn wsL_law (va_wsS RL 99 yL_pin wsL_pin) := goodIn_app (goodIn_of _ (by decide +kernel)) ggL_law_L_pin
set_option maxRecDepth 20000 in
theorem ggL_law_X5_pin : GoodIn wsL_law wsX5_pin := goodIn_r _ [352, 86, 87, 88, 5, 89, 353, 354, 355, 356, 64, 65, 222, 223, 224, 225, 90, 91, 92, 93, 505, 506, 507, 508, 509, 510, 511, 512] (by decide +kernel) (by decide +kernel)
set_option maxRecDepth 20000 in
theorem gL_law_X5_pin : GoodIn wsL_law (wsV RL 101 RX5 yX5_pin wsX5_pin) := goodIn_app (goodIn_of _ (by decide +kernel)) ggL_law_X5_pin
set_option maxRecDepth 20000 in
theorem ggL_law_L_count : GoodIn wsL_law wsL_count := goodIn_ca (goodIn_r _ [359, 120, 360, 361, 362, 2, 363, 270, 271, 272, 128, 129, 79, 80, 81, 364, 365, 366, 367, 161, 16, 368, 369, 370, 15, 371, 34, 185, 186, 187, 36, 188, 189, 40, 372, 373, 374, 375, 22, 376, 377, 378, 379, 24, 380, 290, 291, 26, 292, 293, 253, 254, 255, 55, 56, 500, 501, 502, 503, 504, 513, 514, 515, 516, 517, 518, 519, 526, 527, 524, 525] (by decide +kernel) (by decide +kernel)) (goodIn_sub (fun _ h => List.mem_append_left _ (List.mem_append_right _ h)) (by decide +kernel))
set_option maxRecDepth 20000 in
theorem gL_law_L_count : GoodIn wsL_law (va_wsS RL 102 yL_count wsL_count) := goodIn_app (goodIn_of _ (by decide +kernel)) ggL_law_L_count
set_option maxRecDepth 20000 in
theorem ggL_law_X5_count : GoodIn wsL_law wsX5_count := goodIn_r _ [384, 86, 87, 88, 5, 89, 385, 386, 387, 388, 207, 66, 63, 389, 390, 391, 392, 222, 223, 224, 225, 65, 64, 322, 323, 324, 325, 62, 326, 327, 328, 329, 330, 331, 332, 333, 217, 175, 172, 176, 334, 335, 336, 337, 260, 261, 262, 90, 91, 92, 93, 505, 506, 507, 508, 509, 510, 511, 512] (by decide +kernel) (by decide +kernel)
set_option maxRecDepth 20000 in
theorem gL_law_X5_count : GoodIn wsL_law (wsV RL 105 RX5 yX5_count wsX5_count) := goodIn_app (goodIn_of _ (by decide +kernel)) ggL_law_X5_count
set_option maxRecDepth 20000 in
theorem ggL_law_L_foresee : GoodIn wsL_law wsL_foresee := goodIn_ca (goodIn_ca (goodIn_r _ [395, 72, 120, 396, 397, 398, 2, 399, 20, 16, 22, 400, 401, 402, 77, 78, 79, 80, 81, 270, 271, 272, 128, 129, 403, 404, 405, 19, 406, 46, 407, 408, 48, 409, 410, 411, 15, 412, 34, 31, 169, 166, 167, 168, 32, 413, 414, 415, 36, 416, 40, 189, 417, 163, 164, 165, 170, 171, 172, 173, 174, 175, 176, 177, 178, 179, 180, 181, 182, 183, 184, 185, 186, 187, 188, 190, 191, 192, 193, 194, 195, 196, 197, 198, 199, 200, 201, 202, 418, 282, 283, 26, 284, 285, 286, 287, 288, 56, 55, 419, 290, 291, 292, 293, 253, 254, 255, 420, 421, 422, 423, 424, 369, 370, 371, 500, 501, 502, 503, 504, 513, 514, 515, 516, 517, 518, 519, 520, 521, 522, 523, 526, 527, 524, 525] (by decide +kernel) (by decide +kernel)) (goodIn_sub (fun _ h => List.mem_append_left _ (List.mem_append_left _ (List.mem_append_right _ h))) (by decide +kernel))) (goodIn_sub (fun _ h => List.mem_append_left _ (List.mem_append_right _ h)) (by decide +kernel))
set_option maxRecDepth 20000 in
theorem gL_law_L_foresee : GoodIn wsL_law (va_wsS RL 106 yL_foresee wsL_foresee) := goodIn_app (goodIn_of _ (by decide +kernel)) ggL_law_L_foresee
set_option maxRecDepth 20000 in
theorem ggL_law_X5_foresee : GoodIn wsL_law wsX5_foresee := goodIn_r _ [428, 86, 63, 87, 88, 5, 89, 90, 91, 92, 93, 429, 430, 431, 432, 433, 434, 435, 436, 437, 438, 65, 439, 440, 441, 442, 67, 212, 213, 214, 215, 216, 171, 172, 173, 217, 175, 176, 218, 219, 220, 221, 66, 222, 223, 224, 225, 64, 260, 261, 262, 389, 390, 391, 392, 443, 444, 445, 446, 208, 209, 210, 211, 505, 506, 507, 508, 509, 510, 511, 512] (by decide +kernel) (by decide +kernel)
set_option maxRecDepth 20000 in
theorem gL_law_X5_foresee : GoodIn wsL_law (wsV RL 108 RX5 yX5_foresee wsX5_foresee) := goodIn_app (goodIn_of _ (by decide +kernel)) ggL_law_X5_foresee
set_option maxRecDepth 20000 in
theorem ggL_law_L_advise : GoodIn wsL_law wsL_advise := goodIn_ca (goodIn_r _ [449, 72, 450, 451, 452, 2, 453, 20, 16, 22, 400, 401, 402, 77, 78, 79, 80, 81, 403, 404, 405, 19, 406, 46, 407, 408, 48, 409, 410, 411, 15, 412, 34, 31, 169, 166, 167, 168, 32, 413, 414, 415, 36, 416, 40, 189, 417, 163, 164, 165, 170, 171, 172, 173, 174, 175, 176, 177, 178, 179, 180, 181, 182, 183, 184, 185, 186, 187, 188, 190, 191, 192, 193, 194, 195, 196, 197, 198, 199, 200, 201, 202, 418, 282, 283, 26, 284, 285, 286, 287, 288, 56, 55, 419, 290, 291, 292, 293, 253, 254, 255, 500, 501, 502, 503, 504, 520, 521, 522, 523, 513, 514, 515, 516, 517, 518, 519, 526, 527, 524, 525] (by decide +kernel) (by decide +kernel)) (goodIn_sub (fun _ h => List.mem_append_left _ (List.mem_append_left _ (List.mem_append_right _ h))) (by decide +kernel))
set_option maxRecDepth 20000 in
theorem gL_law_L_advise : GoodIn wsL_law (va_wsS RL 109 yL_advise wsL_advise) := goodIn_app (goodIn_of _ (by decide +kernel)) ggL_law_L_advise
set_option maxRecDepth 20000 in
theorem ggL_law_X5_advise : GoodIn wsL_law wsX5_advise := goodIn_r _ [457, 86, 63, 87, 88, 5, 89, 90, 91, 92, 93, 429, 430, 431, 432, 433, 434, 435, 436, 437, 438, 65, 439, 440, 441, 442, 67, 212, 213, 214, 215, 216, 171, 172, 173, 217, 175, 176, 218, 219, 220, 221, 66, 222, 223, 224, 225, 64, 260, 261, 262, 443, 444, 445, 446, 208, 209, 210, 211, 505, 506, 507, 508, 509, 510, 511, 512] (by decide +kernel) (by decide +kernel)
set_option maxRecDepth 20000 in
theorem gL_law_X5_advise : GoodIn wsL_law (wsV RL 111 RX5 yX5_advise wsX5_advise) := goodIn_app (goodIn_of _ (by decide +kernel)) ggL_law_X5_advise
set_option maxRecDepth 20000 in
theorem ggL_law_L_like : GoodIn wsL_law wsL_like := goodIn_ca (goodIn_r _ [460, 72, 461, 462, 463, 2, 464, 77, 78, 79, 80, 81, 465, 466, 467, 468, 161, 24, 469, 282, 283, 26, 284, 285, 286, 287, 288, 56, 55, 500, 501, 502, 503, 504, 524, 525] (by decide +kernel) (by decide +kernel)) (goodIn_sub (fun _ h => List.mem_append_left _ (List.mem_append_left _ (List.mem_append_right _ h))) (by decide +kernel))
set_option maxRecDepth 20000 in
theorem gL_law_L_like : GoodIn wsL_law (va_wsS RL 112 yL_like wsL_like) := goodIn_app (goodIn_of _ (by decide +kernel)) ggL_law_L_like
set_option maxRecDepth 20000 in
theorem ggL_law_X5_like : GoodIn wsL_law wsX5_like := goodIn_r _ [473, 86, 207, 62, 87, 88, 5, 89, 90, 91, 92, 93, 505, 506, 507, 508, 509, 510, 511, 512] (by decide +kernel) (by decide +kernel)
set_option maxRecDepth 20000 in
theorem gL_law_X5_like : GoodIn wsL_law (wsV RL 114 RX5 yX5_like wsX5_like) := goodIn_app (goodIn_of _ (by decide +kernel)) ggL_law_X5_like
set_option maxRecDepth 20000 in
theorem ggL_law_X4_share : GoodIn wsL_law wsX4_share := goodIn_r _ [477, 161, 465, 466, 467, 2, 468, 24, 469, 282, 283, 26, 284, 285, 286, 287, 288, 56, 55, 500, 501, 502, 503, 504, 524, 525] (by decide +kernel) (by decide +kernel)
set_option maxRecDepth 20000 in
theorem gL_law_X4_share : GoodIn wsL_law (wsV RL 115 RX4 yX4_share wsX4_share) := goodIn_app (goodIn_of _ (by decide +kernel)) ggL_law_X4_share
set_option maxRecDepth 20000 in
theorem ggL_law_X5_share : GoodIn wsL_law wsX5_share := goodIn_r _ [481, 86, 207, 322, 323, 324, 5, 325, 62, 326, 327, 328, 329, 330, 331, 332, 333, 217, 175, 172, 176, 334, 335, 336, 337, 260, 261, 262, 505, 506, 507, 508, 509, 510, 511, 512] (by decide +kernel) (by decide +kernel)
set_option maxRecDepth 20000 in
theorem gL_law_X5_share : GoodIn wsL_law (wsV RL 119 RX5 yX5_share wsX5_share) := goodIn_app (goodIn_of _ (by decide +kernel)) ggL_law_X5_share
set_option maxRecDepth 20000 in
theorem ggL_law_X4_digest : GoodIn wsL_law wsX4_digest := goodIn_r _ [485, 486, 487, 16, 161, 24, 364, 365, 366, 2, 367, 368, 369, 370, 15, 371, 34, 185, 186, 187, 36, 188, 189, 40, 372, 373, 374, 375, 22, 376, 377, 378, 379, 380, 290, 291, 26, 292, 293, 253, 254, 255, 55, 56, 345, 346, 347, 348, 202, 488, 489, 490, 491, 492, 493, 274, 275, 276, 277, 278, 279, 280, 281, 282, 283, 284, 285, 286, 287, 288, 289, 294, 295, 296, 297, 298, 299, 300, 301, 302, 303, 304, 305, 306, 307, 308, 309, 310, 175, 172, 176, 311, 312, 313, 314, 315, 316, 317, 500, 501, 502, 503, 504, 513, 514, 515, 516, 517, 518, 519, 526, 527, 524, 525] (by decide +kernel) (by decide +kernel)
set_option maxRecDepth 20000 in
theorem gL_law_X4_digest : GoodIn wsL_law (wsV RL 120 RX4 yX4_digest wsX4_digest) := goodIn_app (goodIn_of _ (by decide +kernel)) ggL_law_X4_digest
set_option maxRecDepth 20000 in
theorem ggL_law_X5_digest : GoodIn wsL_law wsX5_digest := goodIn_r _ [497, 86, 498, 499, 207, 62, 385, 386, 387, 5, 388, 66, 63, 389, 390, 391, 392, 222, 223, 224, 225, 65, 64, 322, 323, 324, 325, 326, 327, 328, 329, 330, 331, 332, 333, 217, 175, 172, 176, 334, 335, 336, 337, 260, 261, 262, 353, 354, 355, 356, 505, 506, 507, 508, 509, 510, 511, 512] (by decide +kernel) (by decide +kernel)
set_option maxRecDepth 20000 in
theorem gL_law_X5_digest : GoodIn wsL_law (wsV RL 124 RX5 yX5_digest wsX5_digest) := goodIn_app (goodIn_of _ (by decide +kernel)) ggL_law_X5_digest
theorem dL_law_0 : decode cL_law 0 = .ok (.new 8, 3) := by decide +kernel
theorem dL_law_3 : decode cL_law 3 = .ok (.dup, 1) := by decide +kernel
theorem dL_law_4 : decode cL_law 4 = .ok (.invokespecial 59, 3) := by decide +kernel
theorem dL_law_7 : decode cL_law 7 = .ok (.astore_n 1, 1) := by decide +kernel
theorem dL_law_8 : decode cL_law 8 = .ok (.new 60, 3) := by decide +kernel
theorem dL_law_11 : decode cL_law 11 = .ok (.dup, 1) := by decide +kernel
theorem dL_law_12 : decode cL_law 12 = .ok (.invokespecial 62, 3) := by decide +kernel
theorem dL_law_15 : decode cL_law 15 = .ok (.astore_n 2, 1) := by decide +kernel
theorem dL_law_16 : decode cL_law 16 = .ok (.iconst 1, 1) := by decide +kernel
theorem dL_law_17 : decode cL_law 17 = .ok (.newarray .long, 2) := by decide +kernel
theorem dL_law_19 : decode cL_law 19 = .ok (.astore_n 3, 1) := by decide +kernel
theorem dL_law_20 : decode cL_law 20 = .ok (.iconst 0, 1) := by decide +kernel
theorem dL_law_21 : decode cL_law 21 = .ok (.istore 4, 2) := by decide +kernel
theorem dL_law_23 : decode cL_law 23 = .ok (.iload 4, 2) := by decide +kernel
theorem dL_law_25 : decode cL_law 25 = .ok (.aload_n 0, 1) := by decide +kernel
theorem dL_law_26 : decode cL_law 26 = .ok (.arraylength, 1) := by decide +kernel
theorem dL_law_27 : decode cL_law 27 = .ok (.iconst 4, 1) := by decide +kernel
theorem dL_law_28 : decode cL_law 28 = .ok (.isub, 1) := by decide +kernel
theorem dL_law_29 : decode cL_law 29 = .ok (.if_icmp .gt 1016, 3) := by decide +kernel
theorem dL_law_32 : decode cL_law 32 = .ok (.aload_n 0, 1) := by decide +kernel
theorem dL_law_33 : decode cL_law 33 = .ok (.iload 4, 2) := by decide +kernel
theorem dL_law_35 : decode cL_law 35 = .ok (.iaload, 1) := by decide +kernel
theorem dL_law_36 : decode cL_law 36 = .ok (.bipush 15, 2) := by decide +kernel
theorem dL_law_38 : decode cL_law 38 = .ok (.iand, 1) := by decide +kernel
theorem dL_law_39 : decode cL_law 39 = .ok (.tableswitch 1000 0 15 #[77, 145, 158, 226, 294, 369, 413, 493, 573, 641, 709, 765, 833, 889, 945, 986], 77) := by decide +kernel
theorem dL_law_116 : decode cL_law 116 = .ok (.aload_n 1, 1) := by decide +kernel
theorem dL_law_117 : decode cL_law 117 = .ok (.aload_n 0, 1) := by decide +kernel
theorem dL_law_118 : decode cL_law 118 = .ok (.iload 4, 2) := by decide +kernel
theorem dL_law_120 : decode cL_law 120 = .ok (.iconst 1, 1) := by decide +kernel
theorem dL_law_121 : decode cL_law 121 = .ok (.iadd, 1) := by decide +kernel
theorem dL_law_122 : decode cL_law 122 = .ok (.iaload, 1) := by decide +kernel
theorem dL_law_123 : decode cL_law 123 = .ok (.aload_n 0, 1) := by decide +kernel
theorem dL_law_124 : decode cL_law 124 = .ok (.iload 4, 2) := by decide +kernel
theorem dL_law_126 : decode cL_law 126 = .ok (.iconst 2, 1) := by decide +kernel
theorem dL_law_127 : decode cL_law 127 = .ok (.iadd, 1) := by decide +kernel
theorem dL_law_128 : decode cL_law 128 = .ok (.iaload, 1) := by decide +kernel
theorem dL_law_129 : decode cL_law 129 = .ok (.aload_n 3, 1) := by decide +kernel
theorem dL_law_130 : decode cL_law 130 = .ok (.invokestatic 63, 3) := by decide +kernel
theorem dL_law_133 : decode cL_law 133 = .ok (.istore 5, 2) := by decide +kernel
theorem dL_law_135 : decode cL_law 135 = .ok (.aload_n 2, 1) := by decide +kernel
theorem dL_law_136 : decode cL_law 136 = .ok (.aload_n 0, 1) := by decide +kernel
theorem dL_law_137 : decode cL_law 137 = .ok (.iload 4, 2) := by decide +kernel
theorem dL_law_139 : decode cL_law 139 = .ok (.iconst 1, 1) := by decide +kernel
theorem dL_law_140 : decode cL_law 140 = .ok (.iadd, 1) := by decide +kernel
theorem dL_law_141 : decode cL_law 141 = .ok (.iaload, 1) := by decide +kernel
theorem dL_law_142 : decode cL_law 142 = .ok (.aload_n 0, 1) := by decide +kernel
theorem dL_law_143 : decode cL_law 143 = .ok (.iload 4, 2) := by decide +kernel
theorem dL_law_145 : decode cL_law 145 = .ok (.iconst 2, 1) := by decide +kernel
theorem dL_law_146 : decode cL_law 146 = .ok (.iadd, 1) := by decide +kernel
theorem dL_law_147 : decode cL_law 147 = .ok (.iaload, 1) := by decide +kernel
theorem dL_law_148 : decode cL_law 148 = .ok (.invokevirtual 68, 3) := by decide +kernel
theorem dL_law_151 : decode cL_law 151 = .ok (.istore 6, 2) := by decide +kernel
theorem dL_law_153 : decode cL_law 153 = .ok (.aload_n 2, 1) := by decide +kernel
theorem dL_law_154 : decode cL_law 154 = .ok (.invokevirtual 69, 3) := by decide +kernel
theorem dL_law_157 : decode cL_law 157 = .ok (.iload 5, 2) := by decide +kernel
theorem dL_law_159 : decode cL_law 159 = .ok (.if_icmp .eq 5, 3) := by decide +kernel
theorem dL_law_162 : decode cL_law 162 = .ok (.iconst 0, 1) := by decide +kernel
theorem dL_law_163 : decode cL_law 163 = .ok (.ireturn, 1) := by decide +kernel
theorem dL_law_164 : decode cL_law 164 = .ok (.iload 5, 2) := by decide +kernel
theorem dL_law_166 : decode cL_law 166 = .ok (.ifCond .ne 15, 3) := by decide +kernel
theorem dL_law_169 : decode cL_law 169 = .ok (.aload_n 3, 1) := by decide +kernel
theorem dL_law_170 : decode cL_law 170 = .ok (.iconst 0, 1) := by decide +kernel
theorem dL_law_171 : decode cL_law 171 = .ok (.laload, 1) := by decide +kernel
theorem dL_law_172 : decode cL_law 172 = .ok (.iload 6, 2) := by decide +kernel
theorem dL_law_174 : decode cL_law 174 = .ok (.i2l, 1) := by decide +kernel
theorem dL_law_175 : decode cL_law 175 = .ok (.lcmp, 1) := by decide +kernel
theorem dL_law_176 : decode cL_law 176 = .ok (.ifCond .eq 5, 3) := by decide +kernel
theorem dL_law_179 : decode cL_law 179 = .ok (.iconst 0, 1) := by decide +kernel
theorem dL_law_180 : decode cL_law 180 = .ok (.ireturn, 1) := by decide +kernel
theorem dL_law_181 : decode cL_law 181 = .ok (.goto 858, 3) := by decide +kernel
theorem dL_law_184 : decode cL_law 184 = .ok (.aload_n 1, 1) := by decide +kernel
theorem dL_law_185 : decode cL_law 185 = .ok (.invokevirtual 72, 3) := by decide +kernel
theorem dL_law_188 : decode cL_law 188 = .ok (.aload_n 2, 1) := by decide +kernel
theorem dL_law_189 : decode cL_law 189 = .ok (.invokevirtual 75, 3) := by decide +kernel
theorem dL_law_192 : decode cL_law 192 = .ok (.if_icmp .eq 847, 3) := by decide +kernel
theorem dL_law_195 : decode cL_law 195 = .ok (.iconst 0, 1) := by decide +kernel
theorem dL_law_196 : decode cL_law 196 = .ok (.ireturn, 1) := by decide +kernel
theorem dL_law_197 : decode cL_law 197 = .ok (.aload_n 1, 1) := by decide +kernel
theorem dL_law_198 : decode cL_law 198 = .ok (.aload_n 0, 1) := by decide +kernel
theorem dL_law_199 : decode cL_law 199 = .ok (.iload 4, 2) := by decide +kernel
theorem dL_law_201 : decode cL_law 201 = .ok (.iconst 1, 1) := by decide +kernel
theorem dL_law_202 : decode cL_law 202 = .ok (.iadd, 1) := by decide +kernel
theorem dL_law_203 : decode cL_law 203 = .ok (.iaload, 1) := by decide +kernel
theorem dL_law_204 : decode cL_law 204 = .ok (.aload_n 0, 1) := by decide +kernel
theorem dL_law_205 : decode cL_law 205 = .ok (.iload 4, 2) := by decide +kernel
theorem dL_law_207 : decode cL_law 207 = .ok (.iconst 2, 1) := by decide +kernel
theorem dL_law_208 : decode cL_law 208 = .ok (.iadd, 1) := by decide +kernel
theorem dL_law_209 : decode cL_law 209 = .ok (.iaload, 1) := by decide +kernel
theorem dL_law_210 : decode cL_law 210 = .ok (.aload_n 3, 1) := by decide +kernel
theorem dL_law_211 : decode cL_law 211 = .ok (.invokestatic 76, 3) := by decide +kernel
theorem dL_law_214 : decode cL_law 214 = .ok (.istore 5, 2) := by decide +kernel
theorem dL_law_216 : decode cL_law 216 = .ok (.aload_n 2, 1) := by decide +kernel
theorem dL_law_217 : decode cL_law 217 = .ok (.aload_n 0, 1) := by decide +kernel
theorem dL_law_218 : decode cL_law 218 = .ok (.iload 4, 2) := by decide +kernel
theorem dL_law_220 : decode cL_law 220 = .ok (.iconst 1, 1) := by decide +kernel
theorem dL_law_221 : decode cL_law 221 = .ok (.iadd, 1) := by decide +kernel
theorem dL_law_222 : decode cL_law 222 = .ok (.iaload, 1) := by decide +kernel
theorem dL_law_223 : decode cL_law 223 = .ok (.aload_n 0, 1) := by decide +kernel
theorem dL_law_224 : decode cL_law 224 = .ok (.iload 4, 2) := by decide +kernel
theorem dL_law_226 : decode cL_law 226 = .ok (.iconst 2, 1) := by decide +kernel
theorem dL_law_227 : decode cL_law 227 = .ok (.iadd, 1) := by decide +kernel
theorem dL_law_228 : decode cL_law 228 = .ok (.iaload, 1) := by decide +kernel
theorem dL_law_229 : decode cL_law 229 = .ok (.invokevirtual 78, 3) := by decide +kernel
theorem dL_law_232 : decode cL_law 232 = .ok (.istore 6, 2) := by decide +kernel
theorem dL_law_234 : decode cL_law 234 = .ok (.aload_n 2, 1) := by decide +kernel
theorem dL_law_235 : decode cL_law 235 = .ok (.invokevirtual 69, 3) := by decide +kernel
theorem dL_law_238 : decode cL_law 238 = .ok (.iload 5, 2) := by decide +kernel
theorem dL_law_240 : decode cL_law 240 = .ok (.if_icmp .eq 5, 3) := by decide +kernel
theorem dL_law_243 : decode cL_law 243 = .ok (.iconst 0, 1) := by decide +kernel
theorem dL_law_244 : decode cL_law 244 = .ok (.ireturn, 1) := by decide +kernel
theorem dL_law_245 : decode cL_law 245 = .ok (.iload 5, 2) := by decide +kernel
theorem dL_law_247 : decode cL_law 247 = .ok (.ifCond .ne 15, 3) := by decide +kernel
theorem dL_law_250 : decode cL_law 250 = .ok (.aload_n 3, 1) := by decide +kernel
theorem dL_law_251 : decode cL_law 251 = .ok (.iconst 0, 1) := by decide +kernel
theorem dL_law_252 : decode cL_law 252 = .ok (.laload, 1) := by decide +kernel
theorem dL_law_253 : decode cL_law 253 = .ok (.iload 6, 2) := by decide +kernel
theorem dL_law_255 : decode cL_law 255 = .ok (.i2l, 1) := by decide +kernel
theorem dL_law_256 : decode cL_law 256 = .ok (.lcmp, 1) := by decide +kernel
theorem dL_law_257 : decode cL_law 257 = .ok (.ifCond .eq 5, 3) := by decide +kernel
theorem dL_law_260 : decode cL_law 260 = .ok (.iconst 0, 1) := by decide +kernel
theorem dL_law_261 : decode cL_law 261 = .ok (.ireturn, 1) := by decide +kernel
theorem dL_law_262 : decode cL_law 262 = .ok (.goto 777, 3) := by decide +kernel
theorem dL_law_265 : decode cL_law 265 = .ok (.aload_n 1, 1) := by decide +kernel
theorem dL_law_266 : decode cL_law 266 = .ok (.aload_n 0, 1) := by decide +kernel
theorem dL_law_267 : decode cL_law 267 = .ok (.iload 4, 2) := by decide +kernel
theorem dL_law_269 : decode cL_law 269 = .ok (.iconst 1, 1) := by decide +kernel
theorem dL_law_270 : decode cL_law 270 = .ok (.iadd, 1) := by decide +kernel
theorem dL_law_271 : decode cL_law 271 = .ok (.iaload, 1) := by decide +kernel
theorem dL_law_272 : decode cL_law 272 = .ok (.aload_n 0, 1) := by decide +kernel
theorem dL_law_273 : decode cL_law 273 = .ok (.iload 4, 2) := by decide +kernel
theorem dL_law_275 : decode cL_law 275 = .ok (.iconst 2, 1) := by decide +kernel
theorem dL_law_276 : decode cL_law 276 = .ok (.iadd, 1) := by decide +kernel
theorem dL_law_277 : decode cL_law 277 = .ok (.iaload, 1) := by decide +kernel
theorem dL_law_278 : decode cL_law 278 = .ok (.aload_n 3, 1) := by decide +kernel
theorem dL_law_279 : decode cL_law 279 = .ok (.invokestatic 79, 3) := by decide +kernel
theorem dL_law_282 : decode cL_law 282 = .ok (.istore 5, 2) := by decide +kernel
theorem dL_law_284 : decode cL_law 284 = .ok (.aload_n 2, 1) := by decide +kernel
theorem dL_law_285 : decode cL_law 285 = .ok (.aload_n 0, 1) := by decide +kernel
theorem dL_law_286 : decode cL_law 286 = .ok (.iload 4, 2) := by decide +kernel
theorem dL_law_288 : decode cL_law 288 = .ok (.iconst 1, 1) := by decide +kernel
theorem dL_law_289 : decode cL_law 289 = .ok (.iadd, 1) := by decide +kernel
theorem dL_law_290 : decode cL_law 290 = .ok (.iaload, 1) := by decide +kernel
theorem dL_law_291 : decode cL_law 291 = .ok (.aload_n 0, 1) := by decide +kernel
theorem dL_law_292 : decode cL_law 292 = .ok (.iload 4, 2) := by decide +kernel
theorem dL_law_294 : decode cL_law 294 = .ok (.iconst 2, 1) := by decide +kernel
theorem dL_law_295 : decode cL_law 295 = .ok (.iadd, 1) := by decide +kernel
theorem dL_law_296 : decode cL_law 296 = .ok (.iaload, 1) := by decide +kernel
theorem dL_law_297 : decode cL_law 297 = .ok (.invokevirtual 81, 3) := by decide +kernel
theorem dL_law_300 : decode cL_law 300 = .ok (.istore 6, 2) := by decide +kernel
theorem dL_law_302 : decode cL_law 302 = .ok (.aload_n 2, 1) := by decide +kernel
theorem dL_law_303 : decode cL_law 303 = .ok (.invokevirtual 69, 3) := by decide +kernel
theorem dL_law_306 : decode cL_law 306 = .ok (.iload 5, 2) := by decide +kernel
theorem dL_law_308 : decode cL_law 308 = .ok (.if_icmp .eq 5, 3) := by decide +kernel
theorem dL_law_311 : decode cL_law 311 = .ok (.iconst 0, 1) := by decide +kernel
theorem dL_law_312 : decode cL_law 312 = .ok (.ireturn, 1) := by decide +kernel
theorem dL_law_313 : decode cL_law 313 = .ok (.iload 5, 2) := by decide +kernel
theorem dL_law_315 : decode cL_law 315 = .ok (.ifCond .ne 15, 3) := by decide +kernel
theorem dL_law_318 : decode cL_law 318 = .ok (.aload_n 3, 1) := by decide +kernel
theorem dL_law_319 : decode cL_law 319 = .ok (.iconst 0, 1) := by decide +kernel
theorem dL_law_320 : decode cL_law 320 = .ok (.laload, 1) := by decide +kernel
theorem dL_law_321 : decode cL_law 321 = .ok (.iload 6, 2) := by decide +kernel
theorem dL_law_323 : decode cL_law 323 = .ok (.i2l, 1) := by decide +kernel
theorem dL_law_324 : decode cL_law 324 = .ok (.lcmp, 1) := by decide +kernel
theorem dL_law_325 : decode cL_law 325 = .ok (.ifCond .eq 5, 3) := by decide +kernel
theorem dL_law_328 : decode cL_law 328 = .ok (.iconst 0, 1) := by decide +kernel
theorem dL_law_329 : decode cL_law 329 = .ok (.ireturn, 1) := by decide +kernel
theorem dL_law_330 : decode cL_law 330 = .ok (.goto 709, 3) := by decide +kernel
theorem dL_law_333 : decode cL_law 333 = .ok (.aload_n 1, 1) := by decide +kernel
theorem dL_law_334 : decode cL_law 334 = .ok (.aload_n 0, 1) := by decide +kernel
theorem dL_law_335 : decode cL_law 335 = .ok (.iload 4, 2) := by decide +kernel
theorem dL_law_337 : decode cL_law 337 = .ok (.iconst 1, 1) := by decide +kernel
theorem dL_law_338 : decode cL_law 338 = .ok (.iadd, 1) := by decide +kernel
theorem dL_law_339 : decode cL_law 339 = .ok (.iaload, 1) := by decide +kernel
theorem dL_law_340 : decode cL_law 340 = .ok (.aload_n 0, 1) := by decide +kernel
theorem dL_law_341 : decode cL_law 341 = .ok (.iload 4, 2) := by decide +kernel
theorem dL_law_343 : decode cL_law 343 = .ok (.iconst 2, 1) := by decide +kernel
theorem dL_law_344 : decode cL_law 344 = .ok (.iadd, 1) := by decide +kernel
theorem dL_law_345 : decode cL_law 345 = .ok (.iaload, 1) := by decide +kernel
theorem dL_law_346 : decode cL_law 346 = .ok (.aload_n 3, 1) := by decide +kernel
theorem dL_law_347 : decode cL_law 347 = .ok (.invokestatic 82, 3) := by decide +kernel
theorem dL_law_350 : decode cL_law 350 = .ok (.istore 5, 2) := by decide +kernel
theorem dL_law_352 : decode cL_law 352 = .ok (.aload_n 2, 1) := by decide +kernel
theorem dL_law_353 : decode cL_law 353 = .ok (.aload_n 0, 1) := by decide +kernel
theorem dL_law_354 : decode cL_law 354 = .ok (.iload 4, 2) := by decide +kernel
theorem dL_law_356 : decode cL_law 356 = .ok (.iconst 1, 1) := by decide +kernel
theorem dL_law_357 : decode cL_law 357 = .ok (.iadd, 1) := by decide +kernel
theorem dL_law_358 : decode cL_law 358 = .ok (.iaload, 1) := by decide +kernel
theorem dL_law_359 : decode cL_law 359 = .ok (.aload_n 0, 1) := by decide +kernel
theorem dL_law_360 : decode cL_law 360 = .ok (.iload 4, 2) := by decide +kernel
theorem dL_law_362 : decode cL_law 362 = .ok (.iconst 2, 1) := by decide +kernel
theorem dL_law_363 : decode cL_law 363 = .ok (.iadd, 1) := by decide +kernel
theorem dL_law_364 : decode cL_law 364 = .ok (.iaload, 1) := by decide +kernel
theorem dL_law_365 : decode cL_law 365 = .ok (.invokevirtual 84, 3) := by decide +kernel
theorem dL_law_368 : decode cL_law 368 = .ok (.istore 6, 2) := by decide +kernel
theorem dL_law_370 : decode cL_law 370 = .ok (.aload_n 2, 1) := by decide +kernel
theorem dL_law_371 : decode cL_law 371 = .ok (.invokevirtual 69, 3) := by decide +kernel
theorem dL_law_374 : decode cL_law 374 = .ok (.iload 5, 2) := by decide +kernel
theorem dL_law_376 : decode cL_law 376 = .ok (.if_icmp .eq 5, 3) := by decide +kernel
theorem dL_law_379 : decode cL_law 379 = .ok (.iconst 0, 1) := by decide +kernel
theorem dL_law_380 : decode cL_law 380 = .ok (.ireturn, 1) := by decide +kernel
theorem dL_law_381 : decode cL_law 381 = .ok (.iload 5, 2) := by decide +kernel
theorem dL_law_383 : decode cL_law 383 = .ok (.ifCond .ne 22, 3) := by decide +kernel
theorem dL_law_386 : decode cL_law 386 = .ok (.aload_n 3, 1) := by decide +kernel
theorem dL_law_387 : decode cL_law 387 = .ok (.iconst 0, 1) := by decide +kernel
theorem dL_law_388 : decode cL_law 388 = .ok (.laload, 1) := by decide +kernel
theorem dL_law_389 : decode cL_law 389 = .ok (.iload 6, 2) := by decide +kernel
theorem dL_law_391 : decode cL_law 391 = .ok (.ifCond .eq 7, 3) := by decide +kernel
theorem dL_law_394 : decode cL_law 394 = .ok (.lconst 1, 1) := by decide +kernel
theorem dL_law_395 : decode cL_law 395 = .ok (.goto 4, 3) := by decide +kernel
theorem dL_law_398 : decode cL_law 398 = .ok (.lconst 0, 1) := by decide +kernel
theorem dL_law_399 : decode cL_law 399 = .ok (.lcmp, 1) := by decide +kernel
theorem dL_law_400 : decode cL_law 400 = .ok (.ifCond .eq 5, 3) := by decide +kernel
theorem dL_law_403 : decode cL_law 403 = .ok (.iconst 0, 1) := by decide +kernel
theorem dL_law_404 : decode cL_law 404 = .ok (.ireturn, 1) := by decide +kernel
theorem dL_law_405 : decode cL_law 405 = .ok (.goto 634, 3) := by decide +kernel
theorem dL_law_408 : decode cL_law 408 = .ok (.aload_n 1, 1) := by decide +kernel
theorem dL_law_409 : decode cL_law 409 = .ok (.aload_n 3, 1) := by decide +kernel
theorem dL_law_410 : decode cL_law 410 = .ok (.invokestatic 85, 3) := by decide +kernel
theorem dL_law_413 : decode cL_law 413 = .ok (.istore 5, 2) := by decide +kernel
theorem dL_law_415 : decode cL_law 415 = .ok (.aload_n 2, 1) := by decide +kernel
theorem dL_law_416 : decode cL_law 416 = .ok (.invokevirtual 88, 3) := by decide +kernel
theorem dL_law_419 : decode cL_law 419 = .ok (.istore 6, 2) := by decide +kernel
theorem dL_law_421 : decode cL_law 421 = .ok (.aload_n 2, 1) := by decide +kernel
theorem dL_law_422 : decode cL_law 422 = .ok (.invokevirtual 69, 3) := by decide +kernel
theorem dL_law_425 : decode cL_law 425 = .ok (.iload 5, 2) := by decide +kernel
theorem dL_law_427 : decode cL_law 427 = .ok (.if_icmp .eq 5, 3) := by decide +kernel
theorem dL_law_430 : decode cL_law 430 = .ok (.iconst 0, 1) := by decide +kernel
theorem dL_law_431 : decode cL_law 431 = .ok (.ireturn, 1) := by decide +kernel
theorem dL_law_432 : decode cL_law 432 = .ok (.iload 5, 2) := by decide +kernel
theorem dL_law_434 : decode cL_law 434 = .ok (.ifCond .ne 15, 3) := by decide +kernel
theorem dL_law_437 : decode cL_law 437 = .ok (.aload_n 3, 1) := by decide +kernel
theorem dL_law_438 : decode cL_law 438 = .ok (.iconst 0, 1) := by decide +kernel
theorem dL_law_439 : decode cL_law 439 = .ok (.laload, 1) := by decide +kernel
theorem dL_law_440 : decode cL_law 440 = .ok (.iload 6, 2) := by decide +kernel
theorem dL_law_442 : decode cL_law 442 = .ok (.i2l, 1) := by decide +kernel
theorem dL_law_443 : decode cL_law 443 = .ok (.lcmp, 1) := by decide +kernel
theorem dL_law_444 : decode cL_law 444 = .ok (.ifCond .eq 5, 3) := by decide +kernel
theorem dL_law_447 : decode cL_law 447 = .ok (.iconst 0, 1) := by decide +kernel
theorem dL_law_448 : decode cL_law 448 = .ok (.ireturn, 1) := by decide +kernel
theorem dL_law_449 : decode cL_law 449 = .ok (.goto 590, 3) := by decide +kernel
theorem dL_law_452 : decode cL_law 452 = .ok (.aload_n 1, 1) := by decide +kernel
theorem dL_law_453 : decode cL_law 453 = .ok (.aload_n 0, 1) := by decide +kernel
theorem dL_law_454 : decode cL_law 454 = .ok (.iload 4, 2) := by decide +kernel
theorem dL_law_456 : decode cL_law 456 = .ok (.iconst 1, 1) := by decide +kernel
theorem dL_law_457 : decode cL_law 457 = .ok (.iadd, 1) := by decide +kernel
theorem dL_law_458 : decode cL_law 458 = .ok (.iaload, 1) := by decide +kernel
theorem dL_law_459 : decode cL_law 459 = .ok (.aload_n 0, 1) := by decide +kernel
theorem dL_law_460 : decode cL_law 460 = .ok (.iload 4, 2) := by decide +kernel
theorem dL_law_462 : decode cL_law 462 = .ok (.iconst 2, 1) := by decide +kernel
theorem dL_law_463 : decode cL_law 463 = .ok (.iadd, 1) := by decide +kernel
theorem dL_law_464 : decode cL_law 464 = .ok (.iaload, 1) := by decide +kernel
theorem dL_law_465 : decode cL_law 465 = .ok (.aload_n 0, 1) := by decide +kernel
theorem dL_law_466 : decode cL_law 466 = .ok (.iload 4, 2) := by decide +kernel
theorem dL_law_468 : decode cL_law 468 = .ok (.iconst 3, 1) := by decide +kernel
theorem dL_law_469 : decode cL_law 469 = .ok (.iadd, 1) := by decide +kernel
theorem dL_law_470 : decode cL_law 470 = .ok (.iaload, 1) := by decide +kernel
theorem dL_law_471 : decode cL_law 471 = .ok (.aload_n 3, 1) := by decide +kernel
theorem dL_law_472 : decode cL_law 472 = .ok (.invokestatic 89, 3) := by decide +kernel
theorem dL_law_475 : decode cL_law 475 = .ok (.istore 5, 2) := by decide +kernel
theorem dL_law_477 : decode cL_law 477 = .ok (.aload_n 2, 1) := by decide +kernel
theorem dL_law_478 : decode cL_law 478 = .ok (.aload_n 0, 1) := by decide +kernel
theorem dL_law_479 : decode cL_law 479 = .ok (.iload 4, 2) := by decide +kernel
theorem dL_law_481 : decode cL_law 481 = .ok (.iconst 1, 1) := by decide +kernel
theorem dL_law_482 : decode cL_law 482 = .ok (.iadd, 1) := by decide +kernel
theorem dL_law_483 : decode cL_law 483 = .ok (.iaload, 1) := by decide +kernel
theorem dL_law_484 : decode cL_law 484 = .ok (.aload_n 0, 1) := by decide +kernel
theorem dL_law_485 : decode cL_law 485 = .ok (.iload 4, 2) := by decide +kernel
theorem dL_law_487 : decode cL_law 487 = .ok (.iconst 2, 1) := by decide +kernel
theorem dL_law_488 : decode cL_law 488 = .ok (.iadd, 1) := by decide +kernel
theorem dL_law_489 : decode cL_law 489 = .ok (.iaload, 1) := by decide +kernel
theorem dL_law_490 : decode cL_law 490 = .ok (.aload_n 0, 1) := by decide +kernel
theorem dL_law_491 : decode cL_law 491 = .ok (.iload 4, 2) := by decide +kernel
theorem dL_law_493 : decode cL_law 493 = .ok (.iconst 3, 1) := by decide +kernel
theorem dL_law_494 : decode cL_law 494 = .ok (.iadd, 1) := by decide +kernel
theorem dL_law_495 : decode cL_law 495 = .ok (.iaload, 1) := by decide +kernel
theorem dL_law_496 : decode cL_law 496 = .ok (.invokevirtual 92, 3) := by decide +kernel
theorem dL_law_499 : decode cL_law 499 = .ok (.istore 6, 2) := by decide +kernel
theorem dL_law_501 : decode cL_law 501 = .ok (.aload_n 2, 1) := by decide +kernel
theorem dL_law_502 : decode cL_law 502 = .ok (.invokevirtual 69, 3) := by decide +kernel
theorem dL_law_505 : decode cL_law 505 = .ok (.iload 5, 2) := by decide +kernel
theorem dL_law_507 : decode cL_law 507 = .ok (.if_icmp .eq 5, 3) := by decide +kernel
theorem dL_law_510 : decode cL_law 510 = .ok (.iconst 0, 1) := by decide +kernel
theorem dL_law_511 : decode cL_law 511 = .ok (.ireturn, 1) := by decide +kernel
theorem dL_law_512 : decode cL_law 512 = .ok (.iload 5, 2) := by decide +kernel
theorem dL_law_514 : decode cL_law 514 = .ok (.ifCond .ne 15, 3) := by decide +kernel
theorem dL_law_517 : decode cL_law 517 = .ok (.aload_n 3, 1) := by decide +kernel
theorem dL_law_518 : decode cL_law 518 = .ok (.iconst 0, 1) := by decide +kernel
theorem dL_law_519 : decode cL_law 519 = .ok (.laload, 1) := by decide +kernel
theorem dL_law_520 : decode cL_law 520 = .ok (.iload 6, 2) := by decide +kernel
theorem dL_law_522 : decode cL_law 522 = .ok (.i2l, 1) := by decide +kernel
theorem dL_law_523 : decode cL_law 523 = .ok (.lcmp, 1) := by decide +kernel
theorem dL_law_524 : decode cL_law 524 = .ok (.ifCond .eq 5, 3) := by decide +kernel
theorem dL_law_527 : decode cL_law 527 = .ok (.iconst 0, 1) := by decide +kernel
theorem dL_law_528 : decode cL_law 528 = .ok (.ireturn, 1) := by decide +kernel
theorem dL_law_529 : decode cL_law 529 = .ok (.goto 510, 3) := by decide +kernel
theorem dL_law_532 : decode cL_law 532 = .ok (.aload_n 1, 1) := by decide +kernel
theorem dL_law_533 : decode cL_law 533 = .ok (.aload_n 0, 1) := by decide +kernel
theorem dL_law_534 : decode cL_law 534 = .ok (.iload 4, 2) := by decide +kernel
theorem dL_law_536 : decode cL_law 536 = .ok (.iconst 1, 1) := by decide +kernel
theorem dL_law_537 : decode cL_law 537 = .ok (.iadd, 1) := by decide +kernel
theorem dL_law_538 : decode cL_law 538 = .ok (.iaload, 1) := by decide +kernel
theorem dL_law_539 : decode cL_law 539 = .ok (.aload_n 0, 1) := by decide +kernel
theorem dL_law_540 : decode cL_law 540 = .ok (.iload 4, 2) := by decide +kernel
theorem dL_law_542 : decode cL_law 542 = .ok (.iconst 2, 1) := by decide +kernel
theorem dL_law_543 : decode cL_law 543 = .ok (.iadd, 1) := by decide +kernel
theorem dL_law_544 : decode cL_law 544 = .ok (.iaload, 1) := by decide +kernel
theorem dL_law_545 : decode cL_law 545 = .ok (.aload_n 0, 1) := by decide +kernel
theorem dL_law_546 : decode cL_law 546 = .ok (.iload 4, 2) := by decide +kernel
theorem dL_law_548 : decode cL_law 548 = .ok (.iconst 3, 1) := by decide +kernel
theorem dL_law_549 : decode cL_law 549 = .ok (.iadd, 1) := by decide +kernel
theorem dL_law_550 : decode cL_law 550 = .ok (.iaload, 1) := by decide +kernel
theorem dL_law_551 : decode cL_law 551 = .ok (.aload_n 3, 1) := by decide +kernel
theorem dL_law_552 : decode cL_law 552 = .ok (.invokestatic 93, 3) := by decide +kernel
theorem dL_law_555 : decode cL_law 555 = .ok (.istore 5, 2) := by decide +kernel
theorem dL_law_557 : decode cL_law 557 = .ok (.aload_n 2, 1) := by decide +kernel
theorem dL_law_558 : decode cL_law 558 = .ok (.aload_n 0, 1) := by decide +kernel
theorem dL_law_559 : decode cL_law 559 = .ok (.iload 4, 2) := by decide +kernel
theorem dL_law_561 : decode cL_law 561 = .ok (.iconst 1, 1) := by decide +kernel
theorem dL_law_562 : decode cL_law 562 = .ok (.iadd, 1) := by decide +kernel
theorem dL_law_563 : decode cL_law 563 = .ok (.iaload, 1) := by decide +kernel
theorem dL_law_564 : decode cL_law 564 = .ok (.aload_n 0, 1) := by decide +kernel
theorem dL_law_565 : decode cL_law 565 = .ok (.iload 4, 2) := by decide +kernel
theorem dL_law_567 : decode cL_law 567 = .ok (.iconst 2, 1) := by decide +kernel
theorem dL_law_568 : decode cL_law 568 = .ok (.iadd, 1) := by decide +kernel
theorem dL_law_569 : decode cL_law 569 = .ok (.iaload, 1) := by decide +kernel
theorem dL_law_570 : decode cL_law 570 = .ok (.aload_n 0, 1) := by decide +kernel
theorem dL_law_571 : decode cL_law 571 = .ok (.iload 4, 2) := by decide +kernel
theorem dL_law_573 : decode cL_law 573 = .ok (.iconst 3, 1) := by decide +kernel
theorem dL_law_574 : decode cL_law 574 = .ok (.iadd, 1) := by decide +kernel
theorem dL_law_575 : decode cL_law 575 = .ok (.iaload, 1) := by decide +kernel
theorem dL_law_576 : decode cL_law 576 = .ok (.invokevirtual 95, 3) := by decide +kernel
theorem dL_law_579 : decode cL_law 579 = .ok (.istore 6, 2) := by decide +kernel
theorem dL_law_581 : decode cL_law 581 = .ok (.aload_n 2, 1) := by decide +kernel
theorem dL_law_582 : decode cL_law 582 = .ok (.invokevirtual 69, 3) := by decide +kernel
theorem dL_law_585 : decode cL_law 585 = .ok (.iload 5, 2) := by decide +kernel
theorem dL_law_587 : decode cL_law 587 = .ok (.if_icmp .eq 5, 3) := by decide +kernel
theorem dL_law_590 : decode cL_law 590 = .ok (.iconst 0, 1) := by decide +kernel
theorem dL_law_591 : decode cL_law 591 = .ok (.ireturn, 1) := by decide +kernel
theorem dL_law_592 : decode cL_law 592 = .ok (.iload 5, 2) := by decide +kernel
theorem dL_law_594 : decode cL_law 594 = .ok (.ifCond .ne 15, 3) := by decide +kernel
theorem dL_law_597 : decode cL_law 597 = .ok (.aload_n 3, 1) := by decide +kernel
theorem dL_law_598 : decode cL_law 598 = .ok (.iconst 0, 1) := by decide +kernel
theorem dL_law_599 : decode cL_law 599 = .ok (.laload, 1) := by decide +kernel
theorem dL_law_600 : decode cL_law 600 = .ok (.iload 6, 2) := by decide +kernel
theorem dL_law_602 : decode cL_law 602 = .ok (.i2l, 1) := by decide +kernel
theorem dL_law_603 : decode cL_law 603 = .ok (.lcmp, 1) := by decide +kernel
theorem dL_law_604 : decode cL_law 604 = .ok (.ifCond .eq 5, 3) := by decide +kernel
theorem dL_law_607 : decode cL_law 607 = .ok (.iconst 0, 1) := by decide +kernel
theorem dL_law_608 : decode cL_law 608 = .ok (.ireturn, 1) := by decide +kernel
theorem dL_law_609 : decode cL_law 609 = .ok (.goto 430, 3) := by decide +kernel
theorem dL_law_612 : decode cL_law 612 = .ok (.aload_n 1, 1) := by decide +kernel
theorem dL_law_613 : decode cL_law 613 = .ok (.aload_n 0, 1) := by decide +kernel
theorem dL_law_614 : decode cL_law 614 = .ok (.iload 4, 2) := by decide +kernel
theorem dL_law_616 : decode cL_law 616 = .ok (.iconst 1, 1) := by decide +kernel
theorem dL_law_617 : decode cL_law 617 = .ok (.iadd, 1) := by decide +kernel
theorem dL_law_618 : decode cL_law 618 = .ok (.iaload, 1) := by decide +kernel
theorem dL_law_619 : decode cL_law 619 = .ok (.aload_n 0, 1) := by decide +kernel
theorem dL_law_620 : decode cL_law 620 = .ok (.iload 4, 2) := by decide +kernel
theorem dL_law_622 : decode cL_law 622 = .ok (.iconst 2, 1) := by decide +kernel
theorem dL_law_623 : decode cL_law 623 = .ok (.iadd, 1) := by decide +kernel
theorem dL_law_624 : decode cL_law 624 = .ok (.iaload, 1) := by decide +kernel
theorem dL_law_625 : decode cL_law 625 = .ok (.aload_n 3, 1) := by decide +kernel
theorem dL_law_626 : decode cL_law 626 = .ok (.invokestatic 96, 3) := by decide +kernel
theorem dL_law_629 : decode cL_law 629 = .ok (.istore 5, 2) := by decide +kernel
theorem dL_law_631 : decode cL_law 631 = .ok (.aload_n 2, 1) := by decide +kernel
theorem dL_law_632 : decode cL_law 632 = .ok (.aload_n 0, 1) := by decide +kernel
theorem dL_law_633 : decode cL_law 633 = .ok (.iload 4, 2) := by decide +kernel
theorem dL_law_635 : decode cL_law 635 = .ok (.iconst 1, 1) := by decide +kernel
theorem dL_law_636 : decode cL_law 636 = .ok (.iadd, 1) := by decide +kernel
theorem dL_law_637 : decode cL_law 637 = .ok (.iaload, 1) := by decide +kernel
theorem dL_law_638 : decode cL_law 638 = .ok (.aload_n 0, 1) := by decide +kernel
theorem dL_law_639 : decode cL_law 639 = .ok (.iload 4, 2) := by decide +kernel
theorem dL_law_641 : decode cL_law 641 = .ok (.iconst 2, 1) := by decide +kernel
theorem dL_law_642 : decode cL_law 642 = .ok (.iadd, 1) := by decide +kernel
theorem dL_law_643 : decode cL_law 643 = .ok (.iaload, 1) := by decide +kernel
theorem dL_law_644 : decode cL_law 644 = .ok (.invokevirtual 98, 3) := by decide +kernel
theorem dL_law_647 : decode cL_law 647 = .ok (.istore 6, 2) := by decide +kernel
theorem dL_law_649 : decode cL_law 649 = .ok (.aload_n 2, 1) := by decide +kernel
theorem dL_law_650 : decode cL_law 650 = .ok (.invokevirtual 69, 3) := by decide +kernel
theorem dL_law_653 : decode cL_law 653 = .ok (.iload 5, 2) := by decide +kernel
theorem dL_law_655 : decode cL_law 655 = .ok (.if_icmp .eq 5, 3) := by decide +kernel
theorem dL_law_658 : decode cL_law 658 = .ok (.iconst 0, 1) := by decide +kernel
theorem dL_law_659 : decode cL_law 659 = .ok (.ireturn, 1) := by decide +kernel
theorem dL_law_660 : decode cL_law 660 = .ok (.iload 5, 2) := by decide +kernel
theorem dL_law_662 : decode cL_law 662 = .ok (.ifCond .ne 15, 3) := by decide +kernel
theorem dL_law_665 : decode cL_law 665 = .ok (.aload_n 3, 1) := by decide +kernel
theorem dL_law_666 : decode cL_law 666 = .ok (.iconst 0, 1) := by decide +kernel
theorem dL_law_667 : decode cL_law 667 = .ok (.laload, 1) := by decide +kernel
theorem dL_law_668 : decode cL_law 668 = .ok (.iload 6, 2) := by decide +kernel
theorem dL_law_670 : decode cL_law 670 = .ok (.i2l, 1) := by decide +kernel
theorem dL_law_671 : decode cL_law 671 = .ok (.lcmp, 1) := by decide +kernel
theorem dL_law_672 : decode cL_law 672 = .ok (.ifCond .eq 5, 3) := by decide +kernel
theorem dL_law_675 : decode cL_law 675 = .ok (.iconst 0, 1) := by decide +kernel
theorem dL_law_676 : decode cL_law 676 = .ok (.ireturn, 1) := by decide +kernel
theorem dL_law_677 : decode cL_law 677 = .ok (.goto 362, 3) := by decide +kernel
theorem dL_law_680 : decode cL_law 680 = .ok (.aload_n 1, 1) := by decide +kernel
theorem dL_law_681 : decode cL_law 681 = .ok (.aload_n 0, 1) := by decide +kernel
theorem dL_law_682 : decode cL_law 682 = .ok (.iload 4, 2) := by decide +kernel
theorem dL_law_684 : decode cL_law 684 = .ok (.iconst 1, 1) := by decide +kernel
theorem dL_law_685 : decode cL_law 685 = .ok (.iadd, 1) := by decide +kernel
theorem dL_law_686 : decode cL_law 686 = .ok (.iaload, 1) := by decide +kernel
theorem dL_law_687 : decode cL_law 687 = .ok (.aload_n 0, 1) := by decide +kernel
theorem dL_law_688 : decode cL_law 688 = .ok (.iload 4, 2) := by decide +kernel
theorem dL_law_690 : decode cL_law 690 = .ok (.iconst 2, 1) := by decide +kernel
theorem dL_law_691 : decode cL_law 691 = .ok (.iadd, 1) := by decide +kernel
theorem dL_law_692 : decode cL_law 692 = .ok (.iaload, 1) := by decide +kernel
theorem dL_law_693 : decode cL_law 693 = .ok (.aload_n 3, 1) := by decide +kernel
theorem dL_law_694 : decode cL_law 694 = .ok (.invokestatic 99, 3) := by decide +kernel
theorem dL_law_697 : decode cL_law 697 = .ok (.istore 5, 2) := by decide +kernel
theorem dL_law_699 : decode cL_law 699 = .ok (.aload_n 2, 1) := by decide +kernel
theorem dL_law_700 : decode cL_law 700 = .ok (.aload_n 0, 1) := by decide +kernel
theorem dL_law_701 : decode cL_law 701 = .ok (.iload 4, 2) := by decide +kernel
theorem dL_law_703 : decode cL_law 703 = .ok (.iconst 1, 1) := by decide +kernel
theorem dL_law_704 : decode cL_law 704 = .ok (.iadd, 1) := by decide +kernel
theorem dL_law_705 : decode cL_law 705 = .ok (.iaload, 1) := by decide +kernel
theorem dL_law_706 : decode cL_law 706 = .ok (.aload_n 0, 1) := by decide +kernel
theorem dL_law_707 : decode cL_law 707 = .ok (.iload 4, 2) := by decide +kernel
theorem dL_law_709 : decode cL_law 709 = .ok (.iconst 2, 1) := by decide +kernel
theorem dL_law_710 : decode cL_law 710 = .ok (.iadd, 1) := by decide +kernel
theorem dL_law_711 : decode cL_law 711 = .ok (.iaload, 1) := by decide +kernel
theorem dL_law_712 : decode cL_law 712 = .ok (.invokevirtual 101, 3) := by decide +kernel
theorem dL_law_715 : decode cL_law 715 = .ok (.istore 6, 2) := by decide +kernel
theorem dL_law_717 : decode cL_law 717 = .ok (.aload_n 2, 1) := by decide +kernel
theorem dL_law_718 : decode cL_law 718 = .ok (.invokevirtual 69, 3) := by decide +kernel
theorem dL_law_721 : decode cL_law 721 = .ok (.iload 5, 2) := by decide +kernel
theorem dL_law_723 : decode cL_law 723 = .ok (.if_icmp .eq 5, 3) := by decide +kernel
theorem dL_law_726 : decode cL_law 726 = .ok (.iconst 0, 1) := by decide +kernel
theorem dL_law_727 : decode cL_law 727 = .ok (.ireturn, 1) := by decide +kernel
theorem dL_law_728 : decode cL_law 728 = .ok (.iload 5, 2) := by decide +kernel
theorem dL_law_730 : decode cL_law 730 = .ok (.ifCond .ne 15, 3) := by decide +kernel
theorem dL_law_733 : decode cL_law 733 = .ok (.aload_n 3, 1) := by decide +kernel
theorem dL_law_734 : decode cL_law 734 = .ok (.iconst 0, 1) := by decide +kernel
theorem dL_law_735 : decode cL_law 735 = .ok (.laload, 1) := by decide +kernel
theorem dL_law_736 : decode cL_law 736 = .ok (.iload 6, 2) := by decide +kernel
theorem dL_law_738 : decode cL_law 738 = .ok (.i2l, 1) := by decide +kernel
theorem dL_law_739 : decode cL_law 739 = .ok (.lcmp, 1) := by decide +kernel
theorem dL_law_740 : decode cL_law 740 = .ok (.ifCond .eq 5, 3) := by decide +kernel
theorem dL_law_743 : decode cL_law 743 = .ok (.iconst 0, 1) := by decide +kernel
theorem dL_law_744 : decode cL_law 744 = .ok (.ireturn, 1) := by decide +kernel
theorem dL_law_745 : decode cL_law 745 = .ok (.goto 294, 3) := by decide +kernel
theorem dL_law_748 : decode cL_law 748 = .ok (.aload_n 1, 1) := by decide +kernel
theorem dL_law_749 : decode cL_law 749 = .ok (.aload_n 0, 1) := by decide +kernel
theorem dL_law_750 : decode cL_law 750 = .ok (.iload 4, 2) := by decide +kernel
theorem dL_law_752 : decode cL_law 752 = .ok (.iconst 1, 1) := by decide +kernel
theorem dL_law_753 : decode cL_law 753 = .ok (.iadd, 1) := by decide +kernel
theorem dL_law_754 : decode cL_law 754 = .ok (.iaload, 1) := by decide +kernel
theorem dL_law_755 : decode cL_law 755 = .ok (.aload_n 3, 1) := by decide +kernel
theorem dL_law_756 : decode cL_law 756 = .ok (.invokestatic 102, 3) := by decide +kernel
theorem dL_law_759 : decode cL_law 759 = .ok (.istore 5, 2) := by decide +kernel
theorem dL_law_761 : decode cL_law 761 = .ok (.aload_n 2, 1) := by decide +kernel
theorem dL_law_762 : decode cL_law 762 = .ok (.aload_n 0, 1) := by decide +kernel
theorem dL_law_763 : decode cL_law 763 = .ok (.iload 4, 2) := by decide +kernel
theorem dL_law_765 : decode cL_law 765 = .ok (.iconst 1, 1) := by decide +kernel
theorem dL_law_766 : decode cL_law 766 = .ok (.iadd, 1) := by decide +kernel
theorem dL_law_767 : decode cL_law 767 = .ok (.iaload, 1) := by decide +kernel
theorem dL_law_768 : decode cL_law 768 = .ok (.invokevirtual 105, 3) := by decide +kernel
theorem dL_law_771 : decode cL_law 771 = .ok (.istore 6, 2) := by decide +kernel
theorem dL_law_773 : decode cL_law 773 = .ok (.aload_n 2, 1) := by decide +kernel
theorem dL_law_774 : decode cL_law 774 = .ok (.invokevirtual 69, 3) := by decide +kernel
theorem dL_law_777 : decode cL_law 777 = .ok (.iload 5, 2) := by decide +kernel
theorem dL_law_779 : decode cL_law 779 = .ok (.if_icmp .eq 5, 3) := by decide +kernel
theorem dL_law_782 : decode cL_law 782 = .ok (.iconst 0, 1) := by decide +kernel
theorem dL_law_783 : decode cL_law 783 = .ok (.ireturn, 1) := by decide +kernel
theorem dL_law_784 : decode cL_law 784 = .ok (.iload 5, 2) := by decide +kernel
theorem dL_law_786 : decode cL_law 786 = .ok (.ifCond .ne 15, 3) := by decide +kernel
theorem dL_law_789 : decode cL_law 789 = .ok (.aload_n 3, 1) := by decide +kernel
theorem dL_law_790 : decode cL_law 790 = .ok (.iconst 0, 1) := by decide +kernel
theorem dL_law_791 : decode cL_law 791 = .ok (.laload, 1) := by decide +kernel
theorem dL_law_792 : decode cL_law 792 = .ok (.iload 6, 2) := by decide +kernel
theorem dL_law_794 : decode cL_law 794 = .ok (.i2l, 1) := by decide +kernel
theorem dL_law_795 : decode cL_law 795 = .ok (.lcmp, 1) := by decide +kernel
theorem dL_law_796 : decode cL_law 796 = .ok (.ifCond .eq 5, 3) := by decide +kernel
theorem dL_law_799 : decode cL_law 799 = .ok (.iconst 0, 1) := by decide +kernel
theorem dL_law_800 : decode cL_law 800 = .ok (.ireturn, 1) := by decide +kernel
theorem dL_law_801 : decode cL_law 801 = .ok (.goto 238, 3) := by decide +kernel
theorem dL_law_804 : decode cL_law 804 = .ok (.aload_n 1, 1) := by decide +kernel
theorem dL_law_805 : decode cL_law 805 = .ok (.aload_n 0, 1) := by decide +kernel
theorem dL_law_806 : decode cL_law 806 = .ok (.iload 4, 2) := by decide +kernel
theorem dL_law_808 : decode cL_law 808 = .ok (.iconst 1, 1) := by decide +kernel
theorem dL_law_809 : decode cL_law 809 = .ok (.iadd, 1) := by decide +kernel
theorem dL_law_810 : decode cL_law 810 = .ok (.iaload, 1) := by decide +kernel
theorem dL_law_811 : decode cL_law 811 = .ok (.aload_n 0, 1) := by decide +kernel
theorem dL_law_812 : decode cL_law 812 = .ok (.iload 4, 2) := by decide +kernel
theorem dL_law_814 : decode cL_law 814 = .ok (.iconst 2, 1) := by decide +kernel
theorem dL_law_815 : decode cL_law 815 = .ok (.iadd, 1) := by decide +kernel
theorem dL_law_816 : decode cL_law 816 = .ok (.iaload, 1) := by decide +kernel
theorem dL_law_817 : decode cL_law 817 = .ok (.aload_n 3, 1) := by decide +kernel
theorem dL_law_818 : decode cL_law 818 = .ok (.invokestatic 106, 3) := by decide +kernel
theorem dL_law_821 : decode cL_law 821 = .ok (.istore 5, 2) := by decide +kernel
theorem dL_law_823 : decode cL_law 823 = .ok (.aload_n 2, 1) := by decide +kernel
theorem dL_law_824 : decode cL_law 824 = .ok (.aload_n 0, 1) := by decide +kernel
theorem dL_law_825 : decode cL_law 825 = .ok (.iload 4, 2) := by decide +kernel
theorem dL_law_827 : decode cL_law 827 = .ok (.iconst 1, 1) := by decide +kernel
theorem dL_law_828 : decode cL_law 828 = .ok (.iadd, 1) := by decide +kernel
theorem dL_law_829 : decode cL_law 829 = .ok (.iaload, 1) := by decide +kernel
theorem dL_law_830 : decode cL_law 830 = .ok (.aload_n 0, 1) := by decide +kernel
theorem dL_law_831 : decode cL_law 831 = .ok (.iload 4, 2) := by decide +kernel
theorem dL_law_833 : decode cL_law 833 = .ok (.iconst 2, 1) := by decide +kernel
theorem dL_law_834 : decode cL_law 834 = .ok (.iadd, 1) := by decide +kernel
theorem dL_law_835 : decode cL_law 835 = .ok (.iaload, 1) := by decide +kernel
theorem dL_law_836 : decode cL_law 836 = .ok (.invokevirtual 108, 3) := by decide +kernel
theorem dL_law_839 : decode cL_law 839 = .ok (.istore 6, 2) := by decide +kernel
theorem dL_law_841 : decode cL_law 841 = .ok (.aload_n 2, 1) := by decide +kernel
theorem dL_law_842 : decode cL_law 842 = .ok (.invokevirtual 69, 3) := by decide +kernel
theorem dL_law_845 : decode cL_law 845 = .ok (.iload 5, 2) := by decide +kernel
theorem dL_law_847 : decode cL_law 847 = .ok (.if_icmp .eq 5, 3) := by decide +kernel
theorem dL_law_850 : decode cL_law 850 = .ok (.iconst 0, 1) := by decide +kernel
theorem dL_law_851 : decode cL_law 851 = .ok (.ireturn, 1) := by decide +kernel
theorem dL_law_852 : decode cL_law 852 = .ok (.iload 5, 2) := by decide +kernel
theorem dL_law_854 : decode cL_law 854 = .ok (.ifCond .ne 15, 3) := by decide +kernel
theorem dL_law_857 : decode cL_law 857 = .ok (.aload_n 3, 1) := by decide +kernel
theorem dL_law_858 : decode cL_law 858 = .ok (.iconst 0, 1) := by decide +kernel
theorem dL_law_859 : decode cL_law 859 = .ok (.laload, 1) := by decide +kernel
theorem dL_law_860 : decode cL_law 860 = .ok (.iload 6, 2) := by decide +kernel
theorem dL_law_862 : decode cL_law 862 = .ok (.i2l, 1) := by decide +kernel
theorem dL_law_863 : decode cL_law 863 = .ok (.lcmp, 1) := by decide +kernel
theorem dL_law_864 : decode cL_law 864 = .ok (.ifCond .eq 5, 3) := by decide +kernel
theorem dL_law_867 : decode cL_law 867 = .ok (.iconst 0, 1) := by decide +kernel
theorem dL_law_868 : decode cL_law 868 = .ok (.ireturn, 1) := by decide +kernel
theorem dL_law_869 : decode cL_law 869 = .ok (.goto 170, 3) := by decide +kernel
theorem dL_law_872 : decode cL_law 872 = .ok (.aload_n 1, 1) := by decide +kernel
theorem dL_law_873 : decode cL_law 873 = .ok (.aload_n 0, 1) := by decide +kernel
theorem dL_law_874 : decode cL_law 874 = .ok (.iload 4, 2) := by decide +kernel
theorem dL_law_876 : decode cL_law 876 = .ok (.iconst 1, 1) := by decide +kernel
theorem dL_law_877 : decode cL_law 877 = .ok (.iadd, 1) := by decide +kernel
theorem dL_law_878 : decode cL_law 878 = .ok (.iaload, 1) := by decide +kernel
theorem dL_law_879 : decode cL_law 879 = .ok (.aload_n 3, 1) := by decide +kernel
theorem dL_law_880 : decode cL_law 880 = .ok (.invokestatic 109, 3) := by decide +kernel
theorem dL_law_883 : decode cL_law 883 = .ok (.istore 5, 2) := by decide +kernel
theorem dL_law_885 : decode cL_law 885 = .ok (.aload_n 2, 1) := by decide +kernel
theorem dL_law_886 : decode cL_law 886 = .ok (.aload_n 0, 1) := by decide +kernel
theorem dL_law_887 : decode cL_law 887 = .ok (.iload 4, 2) := by decide +kernel
theorem dL_law_889 : decode cL_law 889 = .ok (.iconst 1, 1) := by decide +kernel
theorem dL_law_890 : decode cL_law 890 = .ok (.iadd, 1) := by decide +kernel
theorem dL_law_891 : decode cL_law 891 = .ok (.iaload, 1) := by decide +kernel
theorem dL_law_892 : decode cL_law 892 = .ok (.invokevirtual 111, 3) := by decide +kernel
theorem dL_law_895 : decode cL_law 895 = .ok (.istore 6, 2) := by decide +kernel
theorem dL_law_897 : decode cL_law 897 = .ok (.aload_n 2, 1) := by decide +kernel
theorem dL_law_898 : decode cL_law 898 = .ok (.invokevirtual 69, 3) := by decide +kernel
theorem dL_law_901 : decode cL_law 901 = .ok (.iload 5, 2) := by decide +kernel
theorem dL_law_903 : decode cL_law 903 = .ok (.if_icmp .eq 5, 3) := by decide +kernel
theorem dL_law_906 : decode cL_law 906 = .ok (.iconst 0, 1) := by decide +kernel
theorem dL_law_907 : decode cL_law 907 = .ok (.ireturn, 1) := by decide +kernel
theorem dL_law_908 : decode cL_law 908 = .ok (.iload 5, 2) := by decide +kernel
theorem dL_law_910 : decode cL_law 910 = .ok (.ifCond .ne 15, 3) := by decide +kernel
theorem dL_law_913 : decode cL_law 913 = .ok (.aload_n 3, 1) := by decide +kernel
theorem dL_law_914 : decode cL_law 914 = .ok (.iconst 0, 1) := by decide +kernel
theorem dL_law_915 : decode cL_law 915 = .ok (.laload, 1) := by decide +kernel
theorem dL_law_916 : decode cL_law 916 = .ok (.iload 6, 2) := by decide +kernel
theorem dL_law_918 : decode cL_law 918 = .ok (.i2l, 1) := by decide +kernel
theorem dL_law_919 : decode cL_law 919 = .ok (.lcmp, 1) := by decide +kernel
theorem dL_law_920 : decode cL_law 920 = .ok (.ifCond .eq 5, 3) := by decide +kernel
theorem dL_law_923 : decode cL_law 923 = .ok (.iconst 0, 1) := by decide +kernel
theorem dL_law_924 : decode cL_law 924 = .ok (.ireturn, 1) := by decide +kernel
theorem dL_law_925 : decode cL_law 925 = .ok (.goto 114, 3) := by decide +kernel
theorem dL_law_928 : decode cL_law 928 = .ok (.aload_n 1, 1) := by decide +kernel
theorem dL_law_929 : decode cL_law 929 = .ok (.aload_n 0, 1) := by decide +kernel
theorem dL_law_930 : decode cL_law 930 = .ok (.iload 4, 2) := by decide +kernel
theorem dL_law_932 : decode cL_law 932 = .ok (.iconst 1, 1) := by decide +kernel
theorem dL_law_933 : decode cL_law 933 = .ok (.iadd, 1) := by decide +kernel
theorem dL_law_934 : decode cL_law 934 = .ok (.iaload, 1) := by decide +kernel
theorem dL_law_935 : decode cL_law 935 = .ok (.aload_n 3, 1) := by decide +kernel
theorem dL_law_936 : decode cL_law 936 = .ok (.invokestatic 112, 3) := by decide +kernel
theorem dL_law_939 : decode cL_law 939 = .ok (.istore 5, 2) := by decide +kernel
theorem dL_law_941 : decode cL_law 941 = .ok (.aload_n 2, 1) := by decide +kernel
theorem dL_law_942 : decode cL_law 942 = .ok (.aload_n 0, 1) := by decide +kernel
theorem dL_law_943 : decode cL_law 943 = .ok (.iload 4, 2) := by decide +kernel
theorem dL_law_945 : decode cL_law 945 = .ok (.iconst 1, 1) := by decide +kernel
theorem dL_law_946 : decode cL_law 946 = .ok (.iadd, 1) := by decide +kernel
theorem dL_law_947 : decode cL_law 947 = .ok (.iaload, 1) := by decide +kernel
theorem dL_law_948 : decode cL_law 948 = .ok (.invokevirtual 114, 3) := by decide +kernel
theorem dL_law_951 : decode cL_law 951 = .ok (.istore 6, 2) := by decide +kernel
theorem dL_law_953 : decode cL_law 953 = .ok (.aload_n 2, 1) := by decide +kernel
theorem dL_law_954 : decode cL_law 954 = .ok (.invokevirtual 69, 3) := by decide +kernel
theorem dL_law_957 : decode cL_law 957 = .ok (.iload 5, 2) := by decide +kernel
theorem dL_law_959 : decode cL_law 959 = .ok (.if_icmp .eq 5, 3) := by decide +kernel
theorem dL_law_962 : decode cL_law 962 = .ok (.iconst 0, 1) := by decide +kernel
theorem dL_law_963 : decode cL_law 963 = .ok (.ireturn, 1) := by decide +kernel
theorem dL_law_964 : decode cL_law 964 = .ok (.iload 5, 2) := by decide +kernel
theorem dL_law_966 : decode cL_law 966 = .ok (.ifCond .ne 15, 3) := by decide +kernel
theorem dL_law_969 : decode cL_law 969 = .ok (.aload_n 3, 1) := by decide +kernel
theorem dL_law_970 : decode cL_law 970 = .ok (.iconst 0, 1) := by decide +kernel
theorem dL_law_971 : decode cL_law 971 = .ok (.laload, 1) := by decide +kernel
theorem dL_law_972 : decode cL_law 972 = .ok (.iload 6, 2) := by decide +kernel
theorem dL_law_974 : decode cL_law 974 = .ok (.i2l, 1) := by decide +kernel
theorem dL_law_975 : decode cL_law 975 = .ok (.lcmp, 1) := by decide +kernel
theorem dL_law_976 : decode cL_law 976 = .ok (.ifCond .eq 5, 3) := by decide +kernel
theorem dL_law_979 : decode cL_law 979 = .ok (.iconst 0, 1) := by decide +kernel
theorem dL_law_980 : decode cL_law 980 = .ok (.ireturn, 1) := by decide +kernel
theorem dL_law_981 : decode cL_law 981 = .ok (.goto 58, 3) := by decide +kernel
theorem dL_law_984 : decode cL_law 984 = .ok (.aload_n 1, 1) := by decide +kernel
theorem dL_law_985 : decode cL_law 985 = .ok (.invokevirtual 115, 3) := by decide +kernel
theorem dL_law_988 : decode cL_law 988 = .ok (.dstore 5, 2) := by decide +kernel
theorem dL_law_990 : decode cL_law 990 = .ok (.aload_n 2, 1) := by decide +kernel
theorem dL_law_991 : decode cL_law 991 = .ok (.invokevirtual 119, 3) := by decide +kernel
theorem dL_law_994 : decode cL_law 994 = .ok (.dstore 7, 2) := by decide +kernel
theorem dL_law_996 : decode cL_law 996 = .ok (.dload 5, 2) := by decide +kernel
theorem dL_law_998 : decode cL_law 998 = .ok (.dload 7, 2) := by decide +kernel
theorem dL_law_1000 : decode cL_law 1000 = .ok (.dcmp .l, 1) := by decide +kernel
theorem dL_law_1001 : decode cL_law 1001 = .ok (.ifCond .eq 21, 3) := by decide +kernel
theorem dL_law_1004 : decode cL_law 1004 = .ok (.dload 5, 2) := by decide +kernel
theorem dL_law_1006 : decode cL_law 1006 = .ok (.dload 5, 2) := by decide +kernel
theorem dL_law_1008 : decode cL_law 1008 = .ok (.dcmp .l, 1) := by decide +kernel
theorem dL_law_1009 : decode cL_law 1009 = .ok (.ifCond .eq 11, 3) := by decide +kernel
theorem dL_law_1012 : decode cL_law 1012 = .ok (.dload 7, 2) := by decide +kernel
theorem dL_law_1014 : decode cL_law 1014 = .ok (.dload 7, 2) := by decide +kernel
theorem dL_law_1016 : decode cL_law 1016 = .ok (.dcmp .l, 1) := by decide +kernel
theorem dL_law_1017 : decode cL_law 1017 = .ok (.ifCond .ne 5, 3) := by decide +kernel
theorem dL_law_1020 : decode cL_law 1020 = .ok (.iconst 0, 1) := by decide +kernel
theorem dL_law_1021 : decode cL_law 1021 = .ok (.ireturn, 1) := by decide +kernel
theorem dL_law_1022 : decode cL_law 1022 = .ok (.goto 17, 3) := by decide +kernel
theorem dL_law_1025 : decode cL_law 1025 = .ok (.aload_n 1, 1) := by decide +kernel
theorem dL_law_1026 : decode cL_law 1026 = .ok (.invokevirtual 120, 3) := by decide +kernel
theorem dL_law_1029 : decode cL_law 1029 = .ok (.aload_n 2, 1) := by decide +kernel
theorem dL_law_1030 : decode cL_law 1030 = .ok (.invokevirtual 124, 3) := by decide +kernel
theorem dL_law_1033 : decode cL_law 1033 = .ok (.lcmp, 1) := by decide +kernel
theorem dL_law_1034 : decode cL_law 1034 = .ok (.ifCond .eq 5, 3) := by decide +kernel
theorem dL_law_1037 : decode cL_law 1037 = .ok (.iconst 0, 1) := by decide +kernel
theorem dL_law_1038 : decode cL_law 1038 = .ok (.ireturn, 1) := by decide +kernel
theorem dL_law_1039 : decode cL_law 1039 = .ok (.iinc 4 4, 3) := by decide +kernel
theorem dL_law_1042 : decode cL_law 1042 = .ok (.goto (-1019), 3) := by decide +kernel
theorem dL_law_1045 : decode cL_law 1045 = .ok (.iconst 1, 1) := by decide +kernel
theorem dL_law_1046 : decode cL_law 1046 = .ok (.ireturn, 1) := by decide +kernel
abbrev vwCl : List vw_C := [(RX0, TX0, 7), (RX1, TX1, 2), (RX2, TX2, 2), (RX3, TX3, 4), (RX4, TX4, 5), (RX5, TX5, 8)]
end
section
/-! ===== a layer over the kit: ONE world of n cells, read by places; judgements that carry no heap ===== -/
abbrev gT : Type := va_G × (Nat → ClassId)
def g_tys (y : Nat → ClassId) : List (ClassId × FieldType) := [(y 0, .int), (y 1, .boolean), (y 2, .long), (y 3, .object "StampSheets$Pin"), (y 4, .object "StampSheets$Sheet"), (y 5, .array .int)]
def wld (n : Nat) (ad : Nat → Nat) (el : Nat → va_E) : va_W := (List.range n).map (fun k => (ad k, el k))
theorem wld_get {n k : Nat} {ad : Nat → Nat} {el : Nat → va_E} (h : k < n) : (wld n ad el)[k]? = some (ad k, el k) := by
  simp [wld, h]
theorem wld_at {n k : Nat} {ad : Nat → Nat} {el : Nat → va_E} {x : va_E} (h : k < n) (he : el k = x) : (wld n ad el)[k]? = some (ad k, x) := by
  rw [wld_get h, he]
theorem wld_none {n k : Nat} {ad : Nat → Nat} {el : Nat → va_E} (h : ¬ k < n) : (wld n ad el)[k]? = none := by
  simp [wld]; omega
theorem wld_lt {n k : Nat} {ad : Nat → Nat} {el : Nat → va_E} {q : Nat × va_E} (h : (wld n ad el)[k]? = some q) : k < n ∧ q = (ad k, el k) := by
  by_cases hk : k < n
  · rw [wld_get hk] at h
    exact ⟨hk, (Option.some.inj h).symm⟩
  · rw [wld_none hk] at h
    cases h
theorem wld_len {n : Nat} {ad : Nat → Nat} {el : Nat → va_E} : (wld n ad el).length = n := by simp [wld]
theorem wld_set {n k : Nat} {ad : Nat → Nat} {el : Nat → va_E} {x : va_E} (h : k < n) : (wld n ad el).set k (ad k, x) = wld n ad (va_up el k x) := by
  apply List.ext_getElem?
  intro i
  by_cases hi : i = k
  · subst hi
    rw [List.getElem?_set_self (by rw [wld_len]; exact h), wld_get h, va_up_self]
  · rw [List.getElem?_set_ne (Ne.symm hi)]
    by_cases h2 : i < n
    · rw [wld_get h2, wld_get h2, va_up_ne _ _ hi]
    · rw [wld_none h2, wld_none h2]
theorem wld_push {n : Nat} {ad : Nat → Nat} {el : Nat → va_E} {a : Nat} {x : va_E} : wld n ad el ++ [(a, x)] = wld (n + 1) (va_up ad n a) (va_up el n x) := by
  apply List.ext_getElem?
  intro i
  by_cases hi : i < n
  · rw [List.getElem?_append_left (by rw [wld_len]; exact hi), wld_get hi, wld_get (by omega), va_up_ne _ _ (by omega), va_up_ne _ _ (by omega)]
  · rw [List.getElem?_append_right (by rw [wld_len]; omega), wld_len]
    by_cases h2 : i = n
    · subst h2
      rw [Nat.sub_self, wld_get (by omega), va_up_self, va_up_self]
      rfl
    · rw [wld_none (by omega)]
      simp; omega
theorem wld_congr {n : Nat} {ad : Nat → Nat} {el el' : Nat → va_E} (h : ∀ k, k < n → el' k = el k) : wld n ad el' = wld n ad el := by
  apply List.ext_getElem?
  intro i
  by_cases hi : i < n
  · rw [wld_get hi, wld_get hi, h i hi]
  · rw [wld_none hi, wld_none hi]
def wInj (n : Nat) (ad : Nat → Nat) : Prop := ∀ i j, i < n → j < n → ad i = ad j → i = j
def AA (n : Nat) (ad : Nat → Nat) (sz : Nat) : Nat → Prop := fun q => (∃ k, k < n ∧ q = ad k) ∨ sz ≤ q
theorem wld_D {A : Nat → Prop} {n : Nat} {ad : Nat → Nat} {el : Nat → va_E} (hi : wInj n ad) (hA : ∀ k, k < n → A (ad k)) : va_D A (wld n ad el) := by
  refine ⟨fun i j p q h1 h2 h3 => ?_, fun k q h => ?_⟩
  · obtain ⟨a1, rfl⟩ := wld_lt h1
    obtain ⟨a2, rfl⟩ := wld_lt h2
    exact hi i j a1 a2 h3
  · obtain ⟨a1, rfl⟩ := wld_lt h
    exact hA k a1
theorem wld_inj {A : Nat → Prop} {n : Nat} {ad : Nat → Nat} {el : Nat → va_E} (hD : va_D A (wld n ad el)) : wInj n ad := fun i j hi hj h => hD.1 i j _ _ (wld_get hi) (wld_get hj) h
theorem wld_A {A : Nat → Prop} {n k : Nat} {ad : Nat → Nat} {el : Nat → va_E} (hD : va_D A (wld n ad el)) (hk : k < n) : A (ad k) := hD.2 k _ (wld_get hk)
theorem wld_sameD {A : Nat → Prop} {n : Nat} {ad : Nat → Nat} {el el' : Nat → va_E} (hD : va_D A (wld n ad el)) : va_D A (wld n ad el') := wld_D (wld_inj hD) (fun _ hk => wld_A hD hk)
theorem wld_AA {A : Nat → Prop} {n sz sz1 : Nat} {ad : Nat → Nat} {el : Nat → va_E} (hD : va_D A (wld n ad el)) (hA : ∀ q : Nat, sz ≤ q → A q) (hs : sz ≤ sz1) : ∀ q, AA n ad sz1 q → A q := by
  rintro q (⟨k, hk, rfl⟩ | h)
  · exact wld_A hD hk
  · exact hA q (Nat.le_trans hs h)
theorem wld_D0 {n sz : Nat} {ad : Nat → Nat} {el : Nat → va_E} (hi : wInj n ad) : va_D (AA n ad sz) (wld n ad el) := wld_D hi (fun k hk => Or.inl ⟨k, hk, rfl⟩)
/-- words that are no good words: links of nest mates, castable, declares -/
def g_nw : List Cond := [.methodLinkNest RX0 24 yX1_init RX4, .fieldLinkNest RX4 81 RX1 "strength" "I" RX4, .fieldLinkNest RX4 76 RX1 "wear" "I" RX4, .fieldLinkNest RX4 72 RX0 "pins" "[LStampSheets$Pin;" RX4, .fieldLinkNest RX3 27 RX0 "feed" "I" RX4, .fieldLinkNest RX4 45 RX0 "feed" "I" RX4, .fieldLinkNest RX4 49 RX0 "drift" "I" RX4, .fieldLinkNest RX4 52 RX0 "error" "I" RX4, .fieldLinkNest RX3 51 RX0 "error" "I" RX4, .fieldLinkNest RX4 57 RX0 "rowsLeft" "I" RX4, .fieldLinkNest RX4 60 RX0 "rowsRun" "I" RX4, .fieldLinkNest RX4 63 RX0 "step" "I" RX4, .fieldLinkNest RX0 69 RX2 "faultSets" "[I" RX4, .fieldLinkNest RX4 103 RX2 "faultSets" "[I" RX4, .fieldLinkNest RX4 107 RX2 "tornOff" "[Z" RX4, .fieldLinkNest RX4 134 RX3 "faultless" "I" RX4, .castable "java/lang/IllegalArgumentException" "java/lang/IllegalArgumentException", .declares ⟨"java/lang/RuntimeException", "<init>", "()V"⟩, .declares ⟨"java/lang/RuntimeException", "<init>", "(Ljava/lang/String;)V"⟩, .declares ⟨"java/lang/Exception", "<init>", "()V"⟩, .declares ⟨"java/lang/Exception", "<init>", "(Ljava/lang/String;)V"⟩, .declares ⟨"java/lang/Throwable", "<init>", "()V"⟩, .declares ⟨"java/lang/Throwable", "<init>", "(Ljava/lang/String;)V"⟩, .castable "java/lang/IndexOutOfBoundsException" "java/lang/IndexOutOfBoundsException", .castable "java/lang/IllegalStateException" "java/lang/IllegalStateException", .methodLinkNest RX0 57 yX4_isWithin RX4, .castable "[I" "java/lang/Cloneable"]
def g_nwo : Cond → Bool
  | .fieldLinkNest .. => true
  | .methodLinkNest .. => true
  | .castable .. => true
  | .declares .. => true
  | _ => false
theorem g_nw_ok : ∀ w ∈ g_nw, g_nwo w = true := by
  intro w hw
  simp only [g_nw, List.mem_cons, List.not_mem_nil, or_false] at hw
  rcases hw with rfl | rfl | rfl | rfl | rfl | rfl | rfl | rfl | rfl | rfl | rfl | rfl | rfl | rfl | rfl | rfl | rfl | rfl | rfl | rfl | rfl | rfl | rfl | rfl | rfl | rfl | rfl <;> rfl
theorem g_nw_warm {w : Cond} {s U : State} (h : g_nwo w = true) (hW : s.WarmedH U.vm) (hZ : va_Nw w s) : va_Nw w U := by
  cases w <;> first | (exact va_Nw.warmF hW hZ) | (exact va_Nw.warmM hW hZ) | (exact va_Nw.warmC hW hZ) | (exact va_Nw.warmD hW hZ) | (exact absurd h (by simp [g_nwo]))
theorem g_nw_same {w : Cond} {u U : State} (h : g_nwo w = true) (hv : u.vm = U.vm) (hZ : va_Nw w u) : va_Nw w U := by
  refine va_Nw.same ?_ hv hZ
  cases w <;> first | rfl | (exact absurd h (by simp [g_nwo]))
def g_str : List (String × Nat × String) := [(RX4, 40, "feed is not 10 to 30, or drift is not -9 to 9"), (RX4, 55, "rows is not 1 to 400, or step is not 1 to 9"), (RX4, 152, "pin is not 0 to 6"), (RX4, 70, "strength is not 1 to 500"), (RX4, 155, "row is not 0 to 4, or column is not 0 to 5"), (RX4, 93, "there are 20 sheets, or the roll has less than 5 rows left"), (RX4, 157, "there is no such sheet"), (RX4, 110, "the stamp is torn off"), (RX4, 159, "there is no such answer"), (RX4, 161, "sheets is not 1 to 20"), (RX4, 137, "mask is not 0 to 31")]
def g_nc : List (String × String) := [("java/lang/IllegalArgumentException", "java/lang/IndexOutOfBoundsException"), ("java/lang/IllegalStateException", "java/lang/IndexOutOfBoundsException"), ("java/lang/IndexOutOfBoundsException", "java/lang/IllegalArgumentException")]
def g_ao : List String := ["StampSheets$Pin", "StampSheets$Sheet"]
def g_aoA (U : State) : Prop := (Cond.arrayOver (.array .int)).before #[] U = true
theorem g_aoA_moved {u U : State} (hvm : u.vm.Alike U.vm) (h : g_aoA u) : g_aoA U := by
  obtain ⟨comp, c, k, h1, h2, h3, h4, h5⟩ := arrayOverA_spec h
  obtain ⟨k', hk', he⟩ := hvm.2.2 _ _ h3
  have hi : (U.vm.classes.findIdx? fun (x : Class) => match x.kind with | .array component _ => component == comp | _ => false) = some c := by
    rw [hvm.findIdx?_eq _ (fun _ => rfl)]
    exact h2
  have hkind : k'.kind = .array comp (.array .int) := by rw [he]; exact h4
  have f1 : U.vm.findClass (FieldType.array .int).toString = some comp := by rw [hvm.findClass]; exact h1
  have f2 : U.vm.findClass ("[" ++ (FieldType.array .int).toString) = some c := by rw [hvm.findClass]; exact h5
  unfold g_aoA Cond.before Cond.holds
  simp only [Cond.value]
  rw [f1, Option.bind_some]
  refine (congrArg (fun o : Option Nat => (o.bind (fun c => (U.vm.classes[c]?).map fun (k : Class) => match k.kind with | .array _ ty => decide (ty = FieldType.array .int) && decide (U.vm.findClass ("[" ++ (FieldType.array .int).toString) = some c) | _ => false) == some true)) hi).trans ?_
  simp [hk', hkind, f2]
/-- what holds all the time of tables, statics, strings -/
def KX (V : gT) (A : Nat → Prop) (U : State) (H : Heap) : Prop :=
  va_K V.1 vwCl (g_tys V.2) U ∧ vx_Zq Bundle.tN "UNASSIGNED_STACK" Bundle.steD A U H ∧ vx_Zq Bundle.tN "SUPPRESSED_SENTINEL" Bundle.listD A U H ∧ (∀ w ∈ g_nw, va_Nw w U) ∧ (∀ q ∈ g_str, ∃ a, vk_R q.1 q.2.1 q.2.2 a U) ∧ (∀ q ∈ g_nc, va_Nc q.1 q.2 U) ∧ (∀ C ∈ g_ao, va_AO C U) ∧ g_aoA U
theorem KX.warm {V : gT} {A : Nat → Prop} {s U : State} {H : Heap} (hW : s.WarmedH U.vm) (h : KX V A s H) : KX V A U H :=
  ⟨va_K.moved hW.alike h.1, vx_Zq.moved hW.alike h.2.1, vx_Zq.moved hW.alike h.2.2.1, fun w hw => g_nw_warm (g_nw_ok w hw) hW (h.2.2.2.1 w hw), fun q hq => by
    obtain ⟨a, ha⟩ := h.2.2.2.2.1 q hq
    exact ⟨a, vk_R.warm hW ha⟩, fun q hq => va_Nc.moved hW.alike (h.2.2.2.2.2.1 q hq), fun C hC => va_AO.moved hW.alike (h.2.2.2.2.2.2.1 C hC), g_aoA_moved hW.alike h.2.2.2.2.2.2.2⟩
theorem KX.same {V : gT} {A : Nat → Prop} {s U : State} {H : Heap} (hv : s.vm = U.vm) (h : KX V A s H) : KX V A U H := by
  have ha : s.vm.Alike U.vm := by rw [hv]; exact Vm.Alike.refl U.vm
  exact ⟨va_K.moved ha h.1, vx_Zq.moved ha h.2.1, vx_Zq.moved ha h.2.2.1, fun w hw => g_nw_same (g_nw_ok w hw) hv (h.2.2.2.1 w hw), fun q hq => by
    obtain ⟨a, ha⟩ := h.2.2.2.2.1 q hq
    exact ⟨a, vk_R.same hv.symm ha⟩, fun q hq => va_Nc.moved ha (h.2.2.2.2.2.1 q hq), fun C hC => va_AO.moved ha (h.2.2.2.2.2.2.1 C hC), g_aoA_moved ha h.2.2.2.2.2.2.2⟩
theorem KX.sub {V : gT} {A B : Nat → Prop} {s : State} {H H1 : Heap} (h : KX V A s H) (hq : ∀ a : Nat, a < H.size → ¬ A a → H1[a]? = H[a]?) (hAB : ∀ q, B q → A q) : KX V B s H1 :=
  ⟨h.1, (h.2.1.kept hq).narrow hAB, (h.2.2.1.kept hq).narrow hAB, h.2.2.2⟩
/-- what a body knows all the time -/
def CX (V : gT) (A : Nat → Prop) (own : String) (cc : ByteArray) (nL : Nat) (ret : Option FieldType) (Ts : List Cond) (p : Program) (s : State) (m : MethodId) (args : Array Value) (meth : Method) (c : Code) : Prop :=
  p.tables.exec = Jvm.exec ∧ c.code = cc ∧ c.maxLocals = nL ∧ s.vm.findClass own = some m.cls ∧ (∀ w ∈ Ts, w.before args s = true) ∧ meth.locks = false ∧ meth.sig.returnType = ret ∧ KX V A s s.heap ∧ (∀ q : Nat, s.heap.size ≤ q → A q)
section CXS
variable {V : gT} {A : Nat → Prop} {own : String} {cc : ByteArray} {nL : Nat} {ret : Option FieldType} {Ts : List Cond} {p : Program} {s : State} {m : MethodId} {args : Array Value} {meth : Method} {c : Code}
theorem CX.x (C : CX V A own cc nL ret Ts p s m args meth c) : p.tables.exec = Jvm.exec := C.1
theorem CX.b (C : CX V A own cc nL ret Ts p s m args meth c) : c.code = cc := C.2.1
theorem CX.ml (C : CX V A own cc nL ret Ts p s m args meth c) : c.maxLocals = nL := C.2.2.1
theorem CX.ow (C : CX V A own cc nL ret Ts p s m args meth c) : s.vm.findClass own = some m.cls := C.2.2.2.1
theorem CX.ts (C : CX V A own cc nL ret Ts p s m args meth c) : ∀ w ∈ Ts, w.before args s = true := C.2.2.2.2.1
theorem CX.lk (C : CX V A own cc nL ret Ts p s m args meth c) : meth.locks = false := C.2.2.2.2.2.1
theorem CX.rt (C : CX V A own cc nL ret Ts p s m args meth c) : meth.sig.returnType = ret := C.2.2.2.2.2.2.1
theorem CX.kx (C : CX V A own cc nL ret Ts p s m args meth c) : KX V A s s.heap := C.2.2.2.2.2.2.2.1
theorem CX.ha (C : CX V A own cc nL ret Ts p s m args meth c) : ∀ q : Nat, s.heap.size ≤ q → A q := C.2.2.2.2.2.2.2.2
theorem CX.k (C : CX V A own cc nL ret Ts p s m args meth c) : va_K V.1 vwCl (g_tys V.2) s := C.kx.1
end CXS
/-- a contract's start -/
def PC (V : gT) (n : Nat) (ad : Nat → Nat) (el : Nat → va_E) (sz : Nat) (as : List Value) : Array Value → State → Prop :=
  va_Pc as (fun U => U.heap.size = sz ∧ va_P V.1 vwCl (wld n ad el) U.heap ∧ wInj n ad ∧ KX V (AA n ad sz) U U.heap)
theorem PC.blind {V : gT} {n : Nat} {ad : Nat → Nat} {el : Nat → va_E} {sz : Nat} {as : List Value} : FrameBlind (PC V n ad el sz as) := by
  rintro a U g mk ⟨h1, h2, h3, h4, h5⟩
  exact ⟨h1, h2, h3, h4, KX.same (s := U) (U := U.calling g mk a) (H := U.heap) rfl h5⟩
theorem PC.of {V : gT} {A : Nat → Prop} {own : String} {cc : ByteArray} {nL : Nat} {ret : Option FieldType} {Ts : List Cond} {p : Program} {s : State} {m : MethodId} {args : Array Value} {meth : Method} {c : Code} {n : Nat} {ad : Nat → Nat} {el : Nat → va_E} {H : Heap} {locs : List Loc} {as : List Value}
    (C : CX V A own cc nL ret Ts p s m args meth c) (hP : va_P V.1 vwCl (wld n ad el) H) (hD : va_D A (wld n ad el)) (hS : va_S A s.heap H locs) (U : State) (hU : U.heap = H) (hW : s.WarmedH U.vm) : PC V n ad el H.size as as.toArray U := by
  refine ⟨rfl, by rw [hU], by rw [hU]; exact hP, wld_inj hD, ?_⟩
  rw [hU]
  exact KX.warm hW (C.kx.sub hS.2.1 (wld_AA hD C.ha hS.1))
/-- the judgement: at pc, with the cells el, the locals lv, the stack st, the body comes to Q -/
def GW (p : Program) (l : Launch) (e : Env) (R : Room) (s : State) (m : MethodId) (args : Array Value) (below : List Frame) (meth : Method) (c : Code) (V : gT) (A : Nat → Prop) (nL : Nat) (Q : State → Prop) (n : Nat) (ad : Nat → Nat) (el : Nat → va_E) (cells slots pc : Nat) (lv : List (Nat × Value)) (st : List Value) : Prop :=
  ∀ (H : Heap) (locs : List Loc) (ls : Array Slot), va_P V.1 vwCl (wld n ad el) H → va_D A (wld n ad el) → va_S A s.heap H locs → lv_has ls nL lv → W p l e R s m args below meth c H locs cells slots Q (F0 m pc ls st)
/-- .. where q of class E is being thrown -/
def GX (p : Program) (l : Launch) (e : Env) (R : Room) (s : State) (m : MethodId) (args : Array Value) (below : List Frame) (meth : Method) (c : Code) (V : gT) (A : Nat → Prop) (nL : Nat) (Q : State → Prop) (n : Nat) (ad : Nat → Nat) (el : Nat → va_E) (cells slots pc : Nat) (lv : List (Nat × Value)) (st : List Value) (E : String) : Prop :=
  ∀ (H : Heap) (locs : List Loc) (ls : Array Slot) (q : Nat) (ce : Cell), va_P V.1 vwCl (wld n ad el) H → va_D A (wld n ad el) → va_S A s.heap H locs → lv_has ls nL lv → H[q]? = some ce → ce.vm = .none → s.vm.findClass E = some ce.cls → vx_W p l e R s m args below meth c H locs cells slots Q (F0 m pc ls st) q
/-- a contract's end: an answer, and a world -/
def QI {S : Type} (V : gT) (post : Int32 → S → Prop) (N : S → Nat) (Ad : S → Nat → Nat) (E : S → Nat → va_E) (A : Nat → Prop) : Array Value → State → Outcome → State → Prop := va_Qi post (fun u t => va_P V.1 vwCl (wld (N u) (Ad u) (E u)) t.heap ∧ va_D A (wld (N u) (Ad u) (E u))) A
def QL {S : Type} (V : gT) (post : Int64 → S → Prop) (N : S → Nat) (Ad : S → Nat → Nat) (E : S → Nat → va_E) (A : Nat → Prop) : Array Value → State → Outcome → State → Prop := va_Ql post (fun u t => va_P V.1 vwCl (wld (N u) (Ad u) (E u)) t.heap ∧ va_D A (wld (N u) (Ad u) (E u))) A
def QD {S : Type} (V : gT) (post : UInt64 → S → Prop) (N : S → Nat) (Ad : S → Nat → Nat) (E : S → Nat → va_E) (A : Nat → Prop) : Array Value → State → Outcome → State → Prop := va_Qd post (fun u t => va_P V.1 vwCl (wld (N u) (Ad u) (E u)) t.heap ∧ va_D A (wld (N u) (Ad u) (E u))) A
def QV {S : Type} (V : gT) (post : S → Prop) (N : S → Nat) (Ad : S → Nat → Nat) (E : S → Nat → va_E) (A : Nat → Prop) : Array Value → State → Outcome → State → Prop := va_Qv post (fun u t => va_P V.1 vwCl (wld (N u) (Ad u) (E u)) t.heap ∧ va_D A (wld (N u) (Ad u) (E u))) A
/-- .. nothing changed; cells changed -/
abbrev QIr (V : gT) (n : Nat) (ad : Nat → Nat) (el : Nat → va_E) (post : Int32 → Prop) := QI V (fun r (_ : Unit) => post r) (fun _ => n) (fun _ => ad) (fun _ => el)
abbrev QLr (V : gT) (n : Nat) (ad : Nat → Nat) (el : Nat → va_E) (post : Int64 → Prop) := QL V (fun r (_ : Unit) => post r) (fun _ => n) (fun _ => ad) (fun _ => el)
abbrev QDr (V : gT) (n : Nat) (ad : Nat → Nat) (el : Nat → va_E) (post : UInt64 → Prop) := QD V (fun r (_ : Unit) => post r) (fun _ => n) (fun _ => ad) (fun _ => el)
abbrev QVr (V : gT) (n : Nat) (ad : Nat → Nat) (el : Nat → va_E) (post : Prop) := QV V (fun (_ : Unit) => post) (fun _ => n) (fun _ => ad) (fun _ => el)
abbrev QIw (V : gT) (n : Nat) (ad : Nat → Nat) (post : Int32 → (Nat → va_E) → Prop) := QI V post (fun _ => n) (fun _ => ad) (fun u => u)
abbrev QVw (V : gT) (n : Nat) (ad : Nat → Nat) (post : (Nat → va_E) → Prop) := QV V post (fun _ => n) (fun _ => ad) (fun u => u)
abbrev gS : Type := Nat × (Nat → Nat) × (Nat → va_E)
abbrev QVn (V : gT) (post : gS → Prop) := QV V post (fun u => u.1) (fun u => u.2.1) (fun u => u.2.2)
def TT (l : Launch) (V : gT) (y : MethodName) (ws : List Cond) (rm : Room) (n : Nat) (ad : Nat → Nat) (el : Nat → va_E) (as : List Value) (Qf : (Nat → Prop) → Array Value → State → Outcome → State → Prop) (mc ms : Nat) : Prop :=
  ∀ sz : Nat, Met l y ws rm (PC V n ad el sz as) (Qf (AA n ad sz)) mc ms (AA n ad sz)
/-- the end by a throw: the world is as it was -/
def XF (V : gT) (n : Nat) (ad : Nat → Nat) (el : Nat → va_E) (px : String → Prop) (A : Nat → Prop) : String → State → State → Prop := vx_X (fun _ : Unit => True) (fun E _ t => px E ∧ va_P V.1 vwCl (wld n ad el) t.heap) A
def TX (l : Launch) (V : gT) (y : MethodName) (ws : List Cond) (rm : Room) (n : Nat) (ad : Nat → Nat) (el : Nat → va_E) (as : List Value) (Qf : (Nat → Prop) → Array Value → State → Outcome → State → Prop) (px : String → Prop) (mc ms : Nat) : Prop :=
  ∀ sz : Nat, vx_Met l y ws rm (PC V n ad el sz as) (Qf (AA n ad sz)) (XF V n ad el px (AA n ad sz)) mc ms (AA n ad sz)
section GB
variable {V : gT} {cc : ByteArray} {maxL : Nat} {ret : Option FieldType} {n : Nat} {ad : Nat → Nat} {el : Nat → va_E} {l : Launch} {y : MethodName} {ws ws' : List Cond} {rm : Room} {as : List Value} {Qf : (Nat → Prop) → Array Value → State → Outcome → State → Prop} {mc ms : Nat} {px : String → Prop}
theorem TT.body (hy : plainName y.cls = true) (hw : ws = Cond.code y cc maxL ret :: ws') (hl : (lg_sl as).length ≤ maxL)
    (body : ∀ (p : Program) (e : Env) (s : State) (m : MethodId) (below : List Frame) (meth : Method) (c : Code), CX V (AA n ad s.heap.size) y.cls cc maxL ret ws p s m as.toArray meth c → (meth.name = y.name) → 
      GW p l e rm s m as.toArray below meth c V (AA n ad s.heap.size) maxL (MQ below (Qf (AA n ad s.heap.size)) as.toArray s mc ms (AA n ad s.heap.size)) n ad el 0 0 0 (lv_args 0 as) []) : TT l V y ws rm n ad el as Qf mc ms := by
  intro sz
  refine Met.ofW hy hw ?_
  intro p e s m args below meth c s₁ B hml hv
  obtain ⟨rfl, hsz, hP, hI, hK⟩ := hv
  subst hsz
  rw [lg_entry_eq]
  exact body p e s m below meth c ⟨B.exec, B.bytes, hml, findClass_of_methodNamed B.named, atoms_spec (ws := ws) B.pre, B.notSynchronized, B.returns, hK, fun q h => Or.inr h⟩ (name_of_methodNamed B.named B.method).1 s.heap [] _ hP (wld_D0 hI) va_S.rf (lv_entry as hl)
theorem TX.body (hy : plainName y.cls = true) (hw : ws = Cond.code y cc maxL ret :: ws') (hl : (lg_sl as).length ≤ maxL)
    (body : ∀ (p : Program) (e : Env) (s : State) (m : MethodId) (below : List Frame) (meth : Method) (c : Code), CX V (AA n ad s.heap.size) y.cls cc maxL ret ws p s m as.toArray meth c → (∀ x ∈ c.exceptionTable.toList, False) → 
      GW p l e rm s m as.toArray below meth c V (AA n ad s.heap.size) maxL (vx_MQ below (Qf (AA n ad s.heap.size)) (XF V n ad el px (AA n ad s.heap.size)) as.toArray s mc ms (AA n ad s.heap.size)) n ad el 0 0 0 (lv_args 0 as) []) : TX l V y ws rm n ad el as Qf px mc ms := by
  intro sz
  refine vx_ofW hy hw ?_
  intro p e s m args below meth c s₁ B hml ht hv
  obtain ⟨rfl, hsz, hP, hI, hK⟩ := hv
  subst hsz
  rw [lg_entry_eq]
  exact body p e s m below meth c ⟨B.exec, B.bytes, hml, findClass_of_methodNamed B.named, atoms_spec (ws := ws) B.pre, B.notSynchronized, B.returns, hK, fun q h => Or.inr h⟩ ht s.heap [] _ hP (wld_D0 hI) va_S.rf (lv_entry as hl)
end GB
section GL
variable {p : Program} {l : Launch} {e : Env} {R : Room} {s : State} {m : MethodId} {args : Array Value} {below : List Frame} {meth : Method} {c : Code} {V : gT} {A : Nat → Prop} {nL : Nat} {Q : State → Prop} {n : Nat} {ad : Nat → Nat} {el : Nat → va_E} {cells slots pc : Nat} {lv : List (Nat × Value)} {st : List Value} {own : String} {cc : ByteArray} {ret : Option FieldType} {Ts : List Cond}
theorem g_lv (ks : List Nat) {lv' : List (Nat × Value)} (h : lv_pick lv ks = lv') (kk : GW p l e R s m args below meth c V A nL Q n ad el cells slots pc lv' st) : GW p l e R s m args below meth c V A nL Q n ad el cells slots pc lv st := fun H locs ls hP hD hS hl => kk H locs ls hP hD hS (lv_sub hl ks h)
theorem g_el {el' : Nat → va_E} (h : ∀ k, k < n → el' k = el k) (kk : GW p l e R s m args below meth c V A nL Q n ad el' cells slots pc lv st) : GW p l e R s m args below meth c V A nL Q n ad el cells slots pc lv st := fun H locs ls hP hD hS hl => kk H locs ls (by rw [wld_congr h]; exact hP) (wld_sameD hD) hS hl
theorem g_widen {k j : Nat} (h1 : cells ≤ k) (h2 : slots ≤ j) (kk : GW p l e R s m args below meth c V A nL Q n ad el k j pc lv st) : GW p l e R s m args below meth c V A nL Q n ad el cells slots pc lv st := fun H locs ls hP hD hS hl => W.widen h1 h2 (kk H locs ls hP hD hS hl)
theorem g_drop {n' : Nat} (h : n' ≤ n) (kk : GW p l e R s m args below meth c V A nL Q n' ad el cells slots pc lv st) : GW p l e R s m args below meth c V A nL Q n ad el cells slots pc lv st := fun H locs ls hP hD hS hl => kk H locs ls (fun k q hk => by
  obtain ⟨h1, rfl⟩ := wld_lt hk
  exact hP k _ (wld_get (by omega))) (wld_D (fun i j hi hj => wld_inj hD i j (by omega) (by omega)) (fun k hk => wld_A hD (by omega))) hS hl
theorem g_top {x y : Int32} (h : x = y) (kk : GW p l e R s m args below meth c V A nL Q n ad el cells slots pc lv (.int y :: st)) : GW p l e R s m args below meth c V A nL Q n ad el cells slots pc lv (.int x :: st) := h ▸ kk
theorem g_topl {x y : Int64} (h : x = y) (kk : GW p l e R s m args below meth c V A nL Q n ad el cells slots pc lv (.long y :: st)) : GW p l e R s m args below meth c V A nL Q n ad el cells slots pc lv (.long x :: st) := h ▸ kk
theorem g_iconst (C : CX V A own cc nL ret Ts p s m args meth c) {k : Int} {v : Int32} (hdg : decode cc pc = .ok (.iconst k, 1)) (hv : Int32.ofInt k = v) (kk : GW p l e R s m args below meth c V A nL Q n ad el cells slots (pc + 1) lv (.int v :: st)) : GW p l e R s m args below meth c V A nL Q n ad el cells slots pc lv st := fun H locs ls hP hD hS hl => lv_iconst C.x C.b hdg hv (kk H locs ls hP hD hS hl)
theorem g_bipush (C : CX V A own cc nL ret Ts p s m args meth c) {k : Int} {v : Int32} (hdg : decode cc pc = .ok (.bipush k, 2)) (hv : (Int8.ofInt k).toInt32 = v) (kk : GW p l e R s m args below meth c V A nL Q n ad el cells slots (pc + 2) lv (.int v :: st)) : GW p l e R s m args below meth c V A nL Q n ad el cells slots pc lv st := fun H locs ls hP hD hS hl => lv_bipush C.x C.b hdg hv (kk H locs ls hP hD hS hl)
theorem g_sipush (C : CX V A own cc nL ret Ts p s m args meth c) {k : Int} {v : Int32} (hdg : decode cc pc = .ok (.sipush k, 3)) (hv : (Int16.ofInt k).toInt32 = v) (kk : GW p l e R s m args below meth c V A nL Q n ad el cells slots (pc + 3) lv (.int v :: st)) : GW p l e R s m args below meth c V A nL Q n ad el cells slots pc lv st := fun H locs ls hP hD hS hl => lv_sipush C.x C.b hdg hv (kk H locs ls hP hD hS hl)
theorem g_lconst (C : CX V A own cc nL ret Ts p s m args meth c) {k : Fin 2} {v : Int64} (hdg : decode cc pc = .ok (.lconst k, 1)) (hv : Int64.ofNat (k : Nat) = v) (kk : GW p l e R s m args below meth c V A nL Q n ad el cells slots (pc + 1) lv (.long v :: st)) : GW p l e R s m args below meth c V A nL Q n ad el cells slots pc lv st := fun H locs ls hP hD hS hl => lv_lconst C.x C.b hdg hv (kk H locs ls hP hD hS hl)
theorem g_dconst0 (C : CX V A own cc nL ret Ts p s m args meth c) (hdg : decode cc pc = .ok (.dconst 0, 1)) (kk : GW p l e R s m args below meth c V A nL Q n ad el cells slots (pc + 1) lv (.double FP.dconst0 :: st)) : GW p l e R s m args below meth c V A nL Q n ad el cells slots pc lv st := fun H locs ls hP hD hS hl => lv_dconst0 C.x C.b hdg (kk H locs ls hP hD hS hl)
theorem g_ldc2 (C : CX V A own cc nL ret Ts p s m args meth c) {index : Nat} {v : Int64} (hc : (Jvm.Cond.constantLong own index v).before args s = true) (hdg : decode cc pc = .ok (.ldc2_w index, 3)) (kk : GW p l e R s m args below meth c V A nL Q n ad el cells slots (pc + 3) lv (.long v :: st)) : GW p l e R s m args below meth c V A nL Q n ad el cells slots pc lv st := fun H locs ls hP hD hS hl => lv_ldc2 C.x C.b C.ow hc hdg (kk H locs ls hP hD hS hl)
theorem g_iload_n (C : CX V A own cc nL ret Ts p s m args meth c) {j : Fin 4} {x : Int32} (k : Nat) (hk : lv[k]? = some ((j : Nat), .int x)) (hdg : decode cc pc = .ok (.iload_n j, 1)) (kk : GW p l e R s m args below meth c V A nL Q n ad el cells slots (pc + 1) lv (.int x :: st)) : GW p l e R s m args below meth c V A nL Q n ad el cells slots pc lv st := fun H locs ls hP hD hS hl => lv_iload_n C.x C.b hdg rfl (lv_at hl k hk) (kk H locs ls hP hD hS hl)
theorem g_iload (C : CX V A own cc nL ret Ts p s m args meth c) {j : Nat} {x : Int32} (k : Nat) (hk : lv[k]? = some (j, .int x)) (hdg : decode cc pc = .ok (.iload j, 2)) (kk : GW p l e R s m args below meth c V A nL Q n ad el cells slots (pc + 2) lv (.int x :: st)) : GW p l e R s m args below meth c V A nL Q n ad el cells slots pc lv st := fun H locs ls hP hD hS hl => lv_iload C.x C.b hdg (lv_at hl k hk) (kk H locs ls hP hD hS hl)
theorem g_lload_n (C : CX V A own cc nL ret Ts p s m args meth c) {j : Fin 4} {x : Int64} (k : Nat) (hk : lv[k]? = some ((j : Nat), .long x)) (hdg : decode cc pc = .ok (.lload_n j, 1)) (kk : GW p l e R s m args below meth c V A nL Q n ad el cells slots (pc + 1) lv (.long x :: st)) : GW p l e R s m args below meth c V A nL Q n ad el cells slots pc lv st := fun H locs ls hP hD hS hl => lv_lload_n C.x C.b hdg rfl (lv_at hl k hk) (kk H locs ls hP hD hS hl)
theorem g_aload_n (C : CX V A own cc nL ret Ts p s m args meth c) {j : Fin 4} {x : Nat} (k : Nat) (hk : lv[k]? = some ((j : Nat), .ref x)) (hdg : decode cc pc = .ok (.aload_n j, 1)) (kk : GW p l e R s m args below meth c V A nL Q n ad el cells slots (pc + 1) lv (.ref x :: st)) : GW p l e R s m args below meth c V A nL Q n ad el cells slots pc lv st := fun H locs ls hP hD hS hl => lv_aload_n C.x C.b hdg rfl (lv_at hl k hk) (kk H locs ls hP hD hS hl)
theorem g_aload (C : CX V A own cc nL ret Ts p s m args meth c) {j : Nat} {x : Nat} (k : Nat) (hk : lv[k]? = some (j, .ref x)) (hdg : decode cc pc = .ok (.aload j, 2)) (kk : GW p l e R s m args below meth c V A nL Q n ad el cells slots (pc + 2) lv (.ref x :: st)) : GW p l e R s m args below meth c V A nL Q n ad el cells slots pc lv st := fun H locs ls hP hD hS hl => lv_aload C.x C.b hdg (lv_at hl k hk) (kk H locs ls hP hD hS hl)
theorem g_dload (C : CX V A own cc nL ret Ts p s m args meth c) {j : Nat} {x : UInt64} (k : Nat) (hk : lv[k]? = some (j, .double x)) (hdg : decode cc pc = .ok (.dload j, 2)) (kk : GW p l e R s m args below meth c V A nL Q n ad el cells slots (pc + 2) lv (.double x :: st)) : GW p l e R s m args below meth c V A nL Q n ad el cells slots pc lv st := fun H locs ls hP hD hS hl => lv_dload C.x C.b hdg (lv_at hl k hk) (kk H locs ls hP hD hS hl)
theorem g_istore_n (C : CX V A own cc nL ret Ts p s m args meth c) {j : Fin 4} {x : Int32} {lv' : List (Nat × Value)} (hdg : decode cc pc = .ok (.istore_n j, 1)) (hn : (j : Nat) < nL) (he : ((j : Nat), Value.int x) :: lv.filter (fun q => !(q.1 == (j : Nat)) && !(q.1 + 1 == (j : Nat) && q.2.category == 2)) = lv') (kk : GW p l e R s m args below meth c V A nL Q n ad el cells slots (pc + 1) lv' st) : GW p l e R s m args below meth c V A nL Q n ad el cells slots pc lv (Value.int x :: st) := fun H locs ls hP hD hS hl => lv_istore_n C.x C.b hdg rfl hl hn he (fun ls hl => kk H locs ls hP hD hS hl)
theorem g_istore (C : CX V A own cc nL ret Ts p s m args meth c) {j : Nat} {x : Int32} {lv' : List (Nat × Value)} (hdg : decode cc pc = .ok (.istore j, 2)) (hn : j < nL) (he : (j, Value.int x) :: lv.filter (fun q => !(q.1 == j) && !(q.1 + 1 == j && q.2.category == 2)) = lv') (kk : GW p l e R s m args below meth c V A nL Q n ad el cells slots (pc + 2) lv' st) : GW p l e R s m args below meth c V A nL Q n ad el cells slots pc lv (Value.int x :: st) := fun H locs ls hP hD hS hl => lv_istore C.x C.b hdg hl hn he (fun ls hl => kk H locs ls hP hD hS hl)
theorem g_astore_n (C : CX V A own cc nL ret Ts p s m args meth c) {j : Fin 4} {x : Nat} {lv' : List (Nat × Value)} (hdg : decode cc pc = .ok (.astore_n j, 1)) (hn : (j : Nat) < nL) (he : ((j : Nat), Value.ref x) :: lv.filter (fun q => !(q.1 == (j : Nat)) && !(q.1 + 1 == (j : Nat) && q.2.category == 2)) = lv') (kk : GW p l e R s m args below meth c V A nL Q n ad el cells slots (pc + 1) lv' st) : GW p l e R s m args below meth c V A nL Q n ad el cells slots pc lv (Value.ref x :: st) := fun H locs ls hP hD hS hl => lv_astore_n C.x C.b hdg rfl hl hn he (fun ls hl => kk H locs ls hP hD hS hl)
theorem g_astore (C : CX V A own cc nL ret Ts p s m args meth c) {j : Nat} {x : Nat} {lv' : List (Nat × Value)} (hdg : decode cc pc = .ok (.astore j, 2)) (hn : j < nL) (he : (j, Value.ref x) :: lv.filter (fun q => !(q.1 == j) && !(q.1 + 1 == j && q.2.category == 2)) = lv') (kk : GW p l e R s m args below meth c V A nL Q n ad el cells slots (pc + 2) lv' st) : GW p l e R s m args below meth c V A nL Q n ad el cells slots pc lv (Value.ref x :: st) := fun H locs ls hP hD hS hl => lv_astore C.x C.b hdg hl hn he (fun ls hl => kk H locs ls hP hD hS hl)
theorem g_lstore_n (C : CX V A own cc nL ret Ts p s m args meth c) {j : Fin 4} {x : Int64} {lv' : List (Nat × Value)} (hdg : decode cc pc = .ok (.lstore_n j, 1)) (hn : (j : Nat) + 1 < nL) (he : ((j : Nat), Value.long x) :: lv.filter (fun q => !(q.1 == (j : Nat)) && (!(q.1 == (j : Nat) + 1) && !(q.1 + 1 == (j : Nat) && q.2.category == 2))) = lv') (kk : GW p l e R s m args below meth c V A nL Q n ad el cells slots (pc + 1) lv' st) : GW p l e R s m args below meth c V A nL Q n ad el cells slots pc lv (Value.long x :: st) := fun H locs ls hP hD hS hl => lv_lstore_n C.x C.b hdg rfl hl hn he (fun ls hl => kk H locs ls hP hD hS hl)
theorem g_dstore (C : CX V A own cc nL ret Ts p s m args meth c) {j : Nat} {x : UInt64} {lv' : List (Nat × Value)} (hdg : decode cc pc = .ok (.dstore j, 2)) (hn : j + 1 < nL) (he : (j, Value.double x) :: lv.filter (fun q => !(q.1 == j) && (!(q.1 == j + 1) && !(q.1 + 1 == j && q.2.category == 2))) = lv') (kk : GW p l e R s m args below meth c V A nL Q n ad el cells slots (pc + 2) lv' st) : GW p l e R s m args below meth c V A nL Q n ad el cells slots pc lv (Value.double x :: st) := fun H locs ls hP hD hS hl => lv_dstore C.x C.b hdg hl hn he (fun ls hl => kk H locs ls hP hD hS hl)
theorem g_iinc (C : CX V A own cc nL ret Ts p s m args meth c) {j : Nat} {d : Int} {x v : Int32} {lv' : List (Nat × Value)} (k : Nat) (hk : lv[k]? = some (j, .int x)) (hdg : decode cc pc = .ok (.iinc j d, 3)) (hv : x + Int32.ofInt d = v) (hn : j < nL) (he : (j, Value.int v) :: lv.filter (fun q => !(q.1 == j) && !(q.1 + 1 == j && q.2.category == 2)) = lv') (kk : GW p l e R s m args below meth c V A nL Q n ad el cells slots (pc + 3) lv' st) : GW p l e R s m args below meth c V A nL Q n ad el cells slots pc lv st := fun H locs ls hP hD hS hl => lv_iinc C.x C.b hdg hl hk hv hn he (fun ls hl => kk H locs ls hP hD hS hl)
theorem g_iadd (C : CX V A own cc nL ret Ts p s m args meth c) {x y v : Int32} (hdg : decode cc pc = .ok (.iadd, 1)) (hv : x + y = v) (kk : GW p l e R s m args below meth c V A nL Q n ad el cells slots (pc + 1) lv (.int v :: st)) : GW p l e R s m args below meth c V A nL Q n ad el cells slots pc lv (.int y :: .int x :: st) := by subst hv; exact fun H locs ls hP hD hS hl => lv_iadd C.x C.b hdg (kk H locs ls hP hD hS hl)
theorem g_isub (C : CX V A own cc nL ret Ts p s m args meth c) {x y v : Int32} (hdg : decode cc pc = .ok (.isub, 1)) (hv : x - y = v) (kk : GW p l e R s m args below meth c V A nL Q n ad el cells slots (pc + 1) lv (.int v :: st)) : GW p l e R s m args below meth c V A nL Q n ad el cells slots pc lv (.int y :: .int x :: st) := by subst hv; exact fun H locs ls hP hD hS hl => lv_isub C.x C.b hdg (kk H locs ls hP hD hS hl)
theorem g_imul (C : CX V A own cc nL ret Ts p s m args meth c) {x y v : Int32} (hdg : decode cc pc = .ok (.imul, 1)) (hv : x * y = v) (kk : GW p l e R s m args below meth c V A nL Q n ad el cells slots (pc + 1) lv (.int v :: st)) : GW p l e R s m args below meth c V A nL Q n ad el cells slots pc lv (.int y :: .int x :: st) := by subst hv; exact fun H locs ls hP hD hS hl => lv_imul C.x C.b hdg (kk H locs ls hP hD hS hl)
theorem g_iand (C : CX V A own cc nL ret Ts p s m args meth c) {x y v : Int32} (hdg : decode cc pc = .ok (.iand, 1)) (hv : x &&& y = v) (kk : GW p l e R s m args below meth c V A nL Q n ad el cells slots (pc + 1) lv (.int v :: st)) : GW p l e R s m args below meth c V A nL Q n ad el cells slots pc lv (.int y :: .int x :: st) := by subst hv; exact fun H locs ls hP hD hS hl => lv_iand C.x C.b hdg (kk H locs ls hP hD hS hl)
theorem g_ior (C : CX V A own cc nL ret Ts p s m args meth c) {x y v : Int32} (hdg : decode cc pc = .ok (.ior, 1)) (hv : x ||| y = v) (kk : GW p l e R s m args below meth c V A nL Q n ad el cells slots (pc + 1) lv (.int v :: st)) : GW p l e R s m args below meth c V A nL Q n ad el cells slots pc lv (.int y :: .int x :: st) := by subst hv; exact fun H locs ls hP hD hS hl => lv_ior C.x C.b hdg (kk H locs ls hP hD hS hl)
theorem g_ixor (C : CX V A own cc nL ret Ts p s m args meth c) {x y v : Int32} (hdg : decode cc pc = .ok (.ixor, 1)) (hv : x ^^^ y = v) (kk : GW p l e R s m args below meth c V A nL Q n ad el cells slots (pc + 1) lv (.int v :: st)) : GW p l e R s m args below meth c V A nL Q n ad el cells slots pc lv (.int y :: .int x :: st) := by subst hv; exact fun H locs ls hP hD hS hl => lv_ixor C.x C.b hdg (kk H locs ls hP hD hS hl)
theorem g_ishl (C : CX V A own cc nL ret Ts p s m args meth c) {x y v : Int32} (hdg : decode cc pc = .ok (.ishl, 1)) (hv : x <<< (y &&& 31) = v) (kk : GW p l e R s m args below meth c V A nL Q n ad el cells slots (pc + 1) lv (.int v :: st)) : GW p l e R s m args below meth c V A nL Q n ad el cells slots pc lv (.int y :: .int x :: st) := by subst hv; exact fun H locs ls hP hD hS hl => lv_ishl C.x C.b hdg (kk H locs ls hP hD hS hl)
theorem g_irem (C : CX V A own cc nL ret Ts p s m args meth c) {x y v : Int32} (hdg : decode cc pc = .ok (.irem, 1)) (hne : ¬ y = 0) (hv : x - x / y * y = v) (kk : GW p l e R s m args below meth c V A nL Q n ad el cells slots (pc + 1) lv (.int v :: st)) : GW p l e R s m args below meth c V A nL Q n ad el cells slots pc lv (.int y :: .int x :: st) := by subst hv; exact fun H locs ls hP hD hS hl => lv_irem C.x C.b hdg hne (kk H locs ls hP hD hS hl)
theorem g_ladd (C : CX V A own cc nL ret Ts p s m args meth c) {x y v : Int64} (hdg : decode cc pc = .ok (.ladd, 1)) (hv : x + y = v) (kk : GW p l e R s m args below meth c V A nL Q n ad el cells slots (pc + 1) lv (.long v :: st)) : GW p l e R s m args below meth c V A nL Q n ad el cells slots pc lv (.long y :: .long x :: st) := by subst hv; exact fun H locs ls hP hD hS hl => lv_ladd C.x C.b hdg (kk H locs ls hP hD hS hl)
theorem g_lmul (C : CX V A own cc nL ret Ts p s m args meth c) {x y v : Int64} (hdg : decode cc pc = .ok (.lmul, 1)) (hv : x * y = v) (kk : GW p l e R s m args below meth c V A nL Q n ad el cells slots (pc + 1) lv (.long v :: st)) : GW p l e R s m args below meth c V A nL Q n ad el cells slots pc lv (.long y :: .long x :: st) := by subst hv; exact fun H locs ls hP hD hS hl => lv_lmul C.x C.b hdg (kk H locs ls hP hD hS hl)
theorem g_i2l (C : CX V A own cc nL ret Ts p s m args meth c) {x : Int32} {v : Int64} (hdg : decode cc pc = .ok (.i2l, 1)) (hv : x.toInt64 = v) (kk : GW p l e R s m args below meth c V A nL Q n ad el cells slots (pc + 1) lv (.long v :: st)) : GW p l e R s m args below meth c V A nL Q n ad el cells slots pc lv (.int x :: st) := fun H locs ls hP hD hS hl => lv_i2l C.x C.b hdg hv (kk H locs ls hP hD hS hl)
theorem g_i2d (C : CX V A own cc nL ret Ts p s m args meth c) {x : Int32} (hdg : decode cc pc = .ok (.i2d, 1)) (kk : GW p l e R s m args below meth c V A nL Q n ad el cells slots (pc + 1) lv (.double (FP.i2d x) :: st)) : GW p l e R s m args below meth c V A nL Q n ad el cells slots pc lv (.int x :: st) := fun H locs ls hP hD hS hl => lv_i2d C.x C.b hdg (kk H locs ls hP hD hS hl)
theorem g_ddiv (C : CX V A own cc nL ret Ts p s m args meth c) {x y : UInt64} (hdg : decode cc pc = .ok (.ddiv, 1)) (hne : vf_n64 (FP.ddiv x y)) (kk : GW p l e R s m args below meth c V A nL Q n ad el cells slots (pc + 1) lv (.double (FP.ddiv x y) :: st)) : GW p l e R s m args below meth c V A nL Q n ad el cells slots pc lv (.double y :: .double x :: st) := fun H locs ls hP hD hS hl => lv_ddiv C.x C.b hdg hne (kk H locs ls hP hD hS hl)
theorem g_dcmp (C : CX V A own cc nL ret Ts p s m args meth c) {x y : UInt64} {op : CmpOp} (hdg : decode cc pc = .ok (.dcmp op, 1)) (kk : GW p l e R s m args below meth c V A nL Q n ad el cells slots (pc + 1) lv (.int (Op.cmpValue (FP.dcmp x y) op) :: st)) : GW p l e R s m args below meth c V A nL Q n ad el cells slots pc lv (.double y :: .double x :: st) := fun H locs ls hP hD hS hl => lv_dcmp C.x C.b hdg (kk H locs ls hP hD hS hl)
theorem g_lcmp (C : CX V A own cc nL ret Ts p s m args meth c) {x y : Int64} (hdg : decode cc pc = .ok (.lcmp, 1)) (kk : GW p l e R s m args below meth c V A nL Q n ad el cells slots (pc + 1) lv (.int (lg_cmp x y) :: st)) : GW p l e R s m args below meth c V A nL Q n ad el cells slots pc lv (.long y :: .long x :: st) := fun H locs ls hP hD hS hl => W.lcmp C.x C.b hdg (kk H locs ls hP hD hS hl)
theorem g_dup (C : CX V A own cc nL ret Ts p s m args meth c) {v : Value} (hdg : decode cc pc = .ok (.dup, 1)) (hv : v.category = 1) (kk : GW p l e R s m args below meth c V A nL Q n ad el cells slots (pc + 1) lv (v :: v :: st)) : GW p l e R s m args below meth c V A nL Q n ad el cells slots pc lv (v :: st) := fun H locs ls hP hD hS hl => lv_dup C.x C.b hdg hv (kk H locs ls hP hD hS hl)
theorem g_dup2 (C : CX V A own cc nL ret Ts p s m args meth c) {v w : Value} (hdg : decode cc pc = .ok (.dup2, 1)) (hv : v.category = 1) (hw : w.category = 1) (kk : GW p l e R s m args below meth c V A nL Q n ad el cells slots (pc + 1) lv (v :: w :: v :: w :: st)) : GW p l e R s m args below meth c V A nL Q n ad el cells slots pc lv (v :: w :: st) := fun H locs ls hP hD hS hl => lv_dup2_11 C.x C.b hdg hv hw (kk H locs ls hP hD hS hl)
theorem g_goto (C : CX V A own cc nL ret Ts p s m args meth c) {off : Int} {tgt : Nat} (hdg : decode cc pc = .ok (.goto off, 3)) (ht : (pc : Int) + off = (tgt : Int)) (kk : GW p l e R s m args below meth c V A nL Q n ad el cells slots tgt lv st) : GW p l e R s m args below meth c V A nL Q n ad el cells slots pc lv st := fun H locs ls hP hD hS hl => lv_goto C.x C.b hdg ht (kk H locs ls hP hD hS hl)
theorem g_if_eq (C : CX V A own cc nL ret Ts p s m args meth c) {x : Int32} {off : Int} {tgt : Nat} (hdg : decode cc pc = .ok (.ifCond .eq off, 3)) (ht : (pc : Int) + off = (tgt : Int)) (kt : x = 0 → GW p l e R s m args below meth c V A nL Q n ad el cells slots tgt lv st) (kf : ¬ x = 0 → GW p l e R s m args below meth c V A nL Q n ad el cells slots (pc + 3) lv st) : GW p l e R s m args below meth c V A nL Q n ad el cells slots pc lv (.int x :: st) := fun H locs ls hP hD hS hl => lv_if_eq C.x C.b hdg ht (fun h => kt h H locs ls hP hD hS hl) (fun h => kf h H locs ls hP hD hS hl)
theorem g_if_ne (C : CX V A own cc nL ret Ts p s m args meth c) {x : Int32} {off : Int} {tgt : Nat} (hdg : decode cc pc = .ok (.ifCond .ne off, 3)) (ht : (pc : Int) + off = (tgt : Int)) (kt : ¬ x = 0 → GW p l e R s m args below meth c V A nL Q n ad el cells slots tgt lv st) (kf : x = 0 → GW p l e R s m args below meth c V A nL Q n ad el cells slots (pc + 3) lv st) : GW p l e R s m args below meth c V A nL Q n ad el cells slots pc lv (.int x :: st) := fun H locs ls hP hD hS hl => lv_if_ne C.x C.b hdg ht (fun h => kt h H locs ls hP hD hS hl) (fun h => kf h H locs ls hP hD hS hl)
theorem g_if_le (C : CX V A own cc nL ret Ts p s m args meth c) {x : Int32} {off : Int} {tgt : Nat} (hdg : decode cc pc = .ok (.ifCond .le off, 3)) (ht : (pc : Int) + off = (tgt : Int)) (kt : x ≤ 0 → GW p l e R s m args below meth c V A nL Q n ad el cells slots tgt lv st) (kf : ¬ x ≤ 0 → GW p l e R s m args below meth c V A nL Q n ad el cells slots (pc + 3) lv st) : GW p l e R s m args below meth c V A nL Q n ad el cells slots pc lv (.int x :: st) := fun H locs ls hP hD hS hl => lv_if_le C.x C.b hdg ht (fun h => kt h H locs ls hP hD hS hl) (fun h => kf h H locs ls hP hD hS hl)
theorem g_if_lt (C : CX V A own cc nL ret Ts p s m args meth c) {x : Int32} {off : Int} {tgt : Nat} (hdg : decode cc pc = .ok (.ifCond .lt off, 3)) (ht : (pc : Int) + off = (tgt : Int)) (kt : x < 0 → GW p l e R s m args below meth c V A nL Q n ad el cells slots tgt lv st) (kf : ¬ x < 0 → GW p l e R s m args below meth c V A nL Q n ad el cells slots (pc + 3) lv st) : GW p l e R s m args below meth c V A nL Q n ad el cells slots pc lv (.int x :: st) := fun H locs ls hP hD hS hl => lv_if_lt C.x C.b hdg ht (fun h => kt h H locs ls hP hD hS hl) (fun h => kf h H locs ls hP hD hS hl)
theorem g_if_ge (C : CX V A own cc nL ret Ts p s m args meth c) {x : Int32} {off : Int} {tgt : Nat} (hdg : decode cc pc = .ok (.ifCond .ge off, 3)) (ht : (pc : Int) + off = (tgt : Int)) (kt : 0 ≤ x → GW p l e R s m args below meth c V A nL Q n ad el cells slots tgt lv st) (kf : ¬ 0 ≤ x → GW p l e R s m args below meth c V A nL Q n ad el cells slots (pc + 3) lv st) : GW p l e R s m args below meth c V A nL Q n ad el cells slots pc lv (.int x :: st) := fun H locs ls hP hD hS hl => lv_if_ge C.x C.b hdg ht (fun h => kt h H locs ls hP hD hS hl) (fun h => kf h H locs ls hP hD hS hl)
theorem g_if_gt (C : CX V A own cc nL ret Ts p s m args meth c) {x : Int32} {off : Int} {tgt : Nat} (hdg : decode cc pc = .ok (.ifCond .gt off, 3)) (ht : (pc : Int) + off = (tgt : Int)) (kt : 0 < x → GW p l e R s m args below meth c V A nL Q n ad el cells slots tgt lv st) (kf : ¬ 0 < x → GW p l e R s m args below meth c V A nL Q n ad el cells slots (pc + 3) lv st) : GW p l e R s m args below meth c V A nL Q n ad el cells slots pc lv (.int x :: st) := fun H locs ls hP hD hS hl => lv_if_gt C.x C.b hdg ht (fun h => kt h H locs ls hP hD hS hl) (fun h => kf h H locs ls hP hD hS hl)
theorem g_icmp_eq (C : CX V A own cc nL ret Ts p s m args meth c) {x y : Int32} {off : Int} {tgt : Nat} (hdg : decode cc pc = .ok (.if_icmp .eq off, 3)) (ht : (pc : Int) + off = (tgt : Int)) (kt : x = y → GW p l e R s m args below meth c V A nL Q n ad el cells slots tgt lv st) (kf : ¬ x = y → GW p l e R s m args below meth c V A nL Q n ad el cells slots (pc + 3) lv st) : GW p l e R s m args below meth c V A nL Q n ad el cells slots pc lv (.int y :: .int x :: st) := fun H locs ls hP hD hS hl => lv_icmp_eq C.x C.b hdg ht (fun h => kt h H locs ls hP hD hS hl) (fun h => kf h H locs ls hP hD hS hl)
theorem g_icmp_ne (C : CX V A own cc nL ret Ts p s m args meth c) {x y : Int32} {off : Int} {tgt : Nat} (hdg : decode cc pc = .ok (.if_icmp .ne off, 3)) (ht : (pc : Int) + off = (tgt : Int)) (kt : ¬ x = y → GW p l e R s m args below meth c V A nL Q n ad el cells slots tgt lv st) (kf : x = y → GW p l e R s m args below meth c V A nL Q n ad el cells slots (pc + 3) lv st) : GW p l e R s m args below meth c V A nL Q n ad el cells slots pc lv (.int y :: .int x :: st) := fun H locs ls hP hD hS hl => lv_icmp_ne C.x C.b hdg ht (fun h => kt h H locs ls hP hD hS hl) (fun h => kf h H locs ls hP hD hS hl)
theorem g_icmp_le (C : CX V A own cc nL ret Ts p s m args meth c) {x y : Int32} {off : Int} {tgt : Nat} (hdg : decode cc pc = .ok (.if_icmp .le off, 3)) (ht : (pc : Int) + off = (tgt : Int)) (kt : x ≤ y → GW p l e R s m args below meth c V A nL Q n ad el cells slots tgt lv st) (kf : ¬ x ≤ y → GW p l e R s m args below meth c V A nL Q n ad el cells slots (pc + 3) lv st) : GW p l e R s m args below meth c V A nL Q n ad el cells slots pc lv (.int y :: .int x :: st) := fun H locs ls hP hD hS hl => lv_icmp_le C.x C.b hdg ht (fun h => kt h H locs ls hP hD hS hl) (fun h => kf h H locs ls hP hD hS hl)
theorem g_icmp_lt (C : CX V A own cc nL ret Ts p s m args meth c) {x y : Int32} {off : Int} {tgt : Nat} (hdg : decode cc pc = .ok (.if_icmp .lt off, 3)) (ht : (pc : Int) + off = (tgt : Int)) (kt : x < y → GW p l e R s m args below meth c V A nL Q n ad el cells slots tgt lv st) (kf : ¬ x < y → GW p l e R s m args below meth c V A nL Q n ad el cells slots (pc + 3) lv st) : GW p l e R s m args below meth c V A nL Q n ad el cells slots pc lv (.int y :: .int x :: st) := fun H locs ls hP hD hS hl => lv_icmp_lt C.x C.b hdg ht (fun h => kt h H locs ls hP hD hS hl) (fun h => kf h H locs ls hP hD hS hl)
theorem g_icmp_ge (C : CX V A own cc nL ret Ts p s m args meth c) {x y : Int32} {off : Int} {tgt : Nat} (hdg : decode cc pc = .ok (.if_icmp .ge off, 3)) (ht : (pc : Int) + off = (tgt : Int)) (kt : y ≤ x → GW p l e R s m args below meth c V A nL Q n ad el cells slots tgt lv st) (kf : ¬ y ≤ x → GW p l e R s m args below meth c V A nL Q n ad el cells slots (pc + 3) lv st) : GW p l e R s m args below meth c V A nL Q n ad el cells slots pc lv (.int y :: .int x :: st) := fun H locs ls hP hD hS hl => lv_icmp_ge C.x C.b hdg ht (fun h => kt h H locs ls hP hD hS hl) (fun h => kf h H locs ls hP hD hS hl)
theorem g_icmp_gt (C : CX V A own cc nL ret Ts p s m args meth c) {x y : Int32} {off : Int} {tgt : Nat} (hdg : decode cc pc = .ok (.if_icmp .gt off, 3)) (ht : (pc : Int) + off = (tgt : Int)) (kt : y < x → GW p l e R s m args below meth c V A nL Q n ad el cells slots tgt lv st) (kf : ¬ y < x → GW p l e R s m args below meth c V A nL Q n ad el cells slots (pc + 3) lv st) : GW p l e R s m args below meth c V A nL Q n ad el cells slots pc lv (.int y :: .int x :: st) := fun H locs ls hP hD hS hl => lv_icmp_gt C.x C.b hdg ht (fun h => kt h H locs ls hP hD hS hl) (fun h => kf h H locs ls hP hD hS hl)
theorem g_getf (C : CX V A own cc nL ret Ts p s m args meth c) (k : Nat) (hk : k < n) {ref Cn : String} {T : u_T} {N ci index : Nat} {fs : List Value} {v : Value} (he : el k = .inr (ci, fs)) (hc : vwCl[ci]? = some (Cn, T, N)) (i : Nat) (hi : i < N) (hin : ∀ w ∈ u_ws Cn T N, w ∈ Ts) (hlink : (Cond.fieldLink own index ref (T i).2.1 (T i).2.2.1) ∈ Ts) (hr : (T i).1 = ref) (hv : fs[i]? = some v) (hdg : decode cc pc = .ok (.getfield index, 3)) (kk : GW p l e R s m args below meth c V A nL Q n ad el cells slots (pc + 3) lv (v :: st)) : GW p l e R s m args below meth c V A nL Q n ad el cells slots pc lv (.ref (ad k) :: st) :=
  fun H locs ls hP hD hS hl => va_get (D := V.1) C.x C.b C.ts hin C.ow C.k hP k (wld_at hk he) hc i hi (C.ts _ hlink) (fun _ h => hr ▸ h) hv hdg (kk H locs ls hP hD hS hl)
theorem g_getfN (C : CX V A own cc nL ret Ts p s m args meth c) (k : Nat) (hk : k < n) {ref Cn host : String} {T : u_T} {N ci index : Nat} {fs : List Value} {v : Value} (he : el k = .inr (ci, fs)) (hc : vwCl[ci]? = some (Cn, T, N)) (i : Nat) (hi : i < N) (hin : ∀ w ∈ u_ws Cn T N, w ∈ Ts) (hlink : (Cond.fieldLinkNest own index ref (T i).2.1 (T i).2.2.1 host) ∈ g_nw) (hr : (T i).1 = ref) (hv : fs[i]? = some v) (hdg : decode cc pc = .ok (.getfield index, 3)) (kk : GW p l e R s m args below meth c V A nL Q n ad el cells slots (pc + 3) lv (v :: st)) : GW p l e R s m args below meth c V A nL Q n ad el cells slots pc lv (.ref (ad k) :: st) :=
  fun H locs ls hP hD hS hl => va_getN (D := V.1) C.x C.b C.ts hin C.ow C.k hP k (wld_at hk he) hc i hi (va_Nw.use rfl (C.kx.2.2.2.1 _ hlink)) (fun _ h => hr ▸ h) hv hdg (kk H locs ls hP hD hS hl)
theorem g_putf (C : CX V A own cc nL ret Ts p s m args meth c) (k : Nat) (hk : k < n) {ref Cn : String} {T : u_T} {N ci index : Nat} {fs : List Value} {v : Value} (he : el k = .inr (ci, fs)) (hc : vwCl[ci]? = some (Cn, T, N)) (i : Nat) (hi : i < N) (hin : ∀ w ∈ u_ws Cn T N, w ∈ Ts) (ty0 : Nat → FieldType) (hty : ∀ k, k < N → parseFieldDescriptor (T k).2.2.1 = some (ty0 k)) (hnm : ∀ a, a < N → ∀ b, b < N → a ≠ b → (T a).2.1 ≠ (T b).2.1) (hlink : (Cond.fieldLink own index ref (T i).2.1 (T i).2.2.1) ∈ Ts) (hfin : (T i).2.2.2 = false) (hr : (T i).1 = ref) (hn : narrow (ty0 i) v = v) (hfit : fits (ty0 i) v = true) (hlen : i < fs.length) (hdg : decode cc pc = .ok (.putfield index, 3)) (kk : ∀ el' : Nat → va_E, el' k = .inr (ci, fs.set i v) → (∀ j, j ≠ k → el' j = el j) → GW p l e R s m args below meth c V A nL Q n ad el' cells slots (pc + 3) lv st) : GW p l e R s m args below meth c V A nL Q n ad el cells slots pc lv (v :: .ref (ad k) :: st) :=
  fun H locs ls hP hD hS hl => va_put (D := V.1) C.x C.b C.ts hin ty0 hty hnm C.ow C.k hP hD hS k (wld_at hk he) hc i hi (C.ts _ hlink) (fun _ h => hr ▸ h) hfin (hty i hi) hn hfit hlen hdg (fun H1 locs1 hP1 hD1 hS1 => kk (va_up el k (.inr (ci, fs.set i v))) (va_up_self _ _ _) (fun j hj => va_up_ne _ _ hj) H1 locs1 ls (by rw [← wld_set hk]; exact hP1) (by rw [← wld_set hk]; exact hD1) hS1 hl)
theorem g_putfF (C : CX V A own cc nL ret Ts p s m args meth c) (k : Nat) (hk : k < n) {ref Cn : String} {T : u_T} {N ci index : Nat} {fs : List Value} {v : Value} (he : el k = .inr (ci, fs)) (hc : vwCl[ci]? = some (Cn, T, N)) (i : Nat) (hi : i < N) (hin : ∀ w ∈ u_ws Cn T N, w ∈ Ts) (ty0 : Nat → FieldType) (hty : ∀ k, k < N → parseFieldDescriptor (T k).2.2.1 = some (ty0 k)) (hnm : ∀ a, a < N → ∀ b, b < N → a ≠ b → (T a).2.1 ≠ (T b).2.1) (hlink : (Cond.fieldLink own index ref (T i).2.1 (T i).2.2.1) ∈ Ts) (hfin : (T i).2.2.2 = true) (hnm2 : meth.name = "<init>") (hdecl : (T i).1 = own) (hr : (T i).1 = ref) (hn : narrow (ty0 i) v = v) (hfit : fits (ty0 i) v = true) (hlen : i < fs.length) (hdg : decode cc pc = .ok (.putfield index, 3)) (kk : ∀ el' : Nat → va_E, el' k = .inr (ci, fs.set i v) → (∀ j, j ≠ k → el' j = el j) → GW p l e R s m args below meth c V A nL Q n ad el' cells slots (pc + 3) lv st) : GW p l e R s m args below meth c V A nL Q n ad el cells slots pc lv (v :: .ref (ad k) :: st) :=
  fun H locs ls hP hD hS hl => va_putF (D := V.1) C.x C.b C.ts hin ty0 hty hnm C.ow C.k hP hD hS k (wld_at hk he) hc i hi (C.ts _ hlink) (fun _ h => hr ▸ h) hfin hnm2 hdecl (hty i hi) hn hfit hlen hdg (fun H1 locs1 hP1 hD1 hS1 => kk (va_up el k (.inr (ci, fs.set i v))) (va_up_self _ _ _) (fun j hj => va_up_ne _ _ hj) H1 locs1 ls (by rw [← wld_set hk]; exact hP1) (by rw [← wld_set hk]; exact hD1) hS1 hl)
theorem g_putfN (C : CX V A own cc nL ret Ts p s m args meth c) (k : Nat) (hk : k < n) {ref Cn host : String} {T : u_T} {N ci index : Nat} {fs : List Value} {v : Value} (he : el k = .inr (ci, fs)) (hc : vwCl[ci]? = some (Cn, T, N)) (i : Nat) (hi : i < N) (hin : ∀ w ∈ u_ws Cn T N, w ∈ Ts) (ty0 : Nat → FieldType) (hty : ∀ k, k < N → parseFieldDescriptor (T k).2.2.1 = some (ty0 k)) (hnm : ∀ a, a < N → ∀ b, b < N → a ≠ b → (T a).2.1 ≠ (T b).2.1) (hlink : (Cond.fieldLinkNest own index ref (T i).2.1 (T i).2.2.1 host) ∈ g_nw) (hfin : (T i).2.2.2 = false) (hr : (T i).1 = ref) (hn : narrow (ty0 i) v = v) (hfit : fits (ty0 i) v = true) (hlen : i < fs.length) (hdg : decode cc pc = .ok (.putfield index, 3)) (kk : ∀ el' : Nat → va_E, el' k = .inr (ci, fs.set i v) → (∀ j, j ≠ k → el' j = el j) → GW p l e R s m args below meth c V A nL Q n ad el' cells slots (pc + 3) lv st) : GW p l e R s m args below meth c V A nL Q n ad el cells slots pc lv (v :: .ref (ad k) :: st) :=
  fun H locs ls hP hD hS hl => va_putN (D := V.1) C.x C.b C.ts hin ty0 hty hnm C.ow C.k hP hD hS k (wld_at hk he) hc i hi (va_Nw.use rfl (C.kx.2.2.2.1 _ hlink)) (fun _ h => hr ▸ h) hfin (hty i hi) hn hfit hlen hdg (fun H1 locs1 hP1 hD1 hS1 => kk (va_up el k (.inr (ci, fs.set i v))) (va_up_self _ _ _) (fun j hj => va_up_ne _ _ hj) H1 locs1 ls (by rw [← wld_set hk]; exact hP1) (by rw [← wld_set hk]; exact hD1) hS1 hl)
theorem g_iald (C : CX V A own cc nL ret Ts p s m args meth c) (k : Nat) (hk : k < n) {N : Nat} {f : Nat → Int32} (he : el k = .inl (V.2 0, N, .inl f)) (i : Nat) {x : Int32} (hx : x = nI i) (hi : i < N) (hN : N < 2 ^ 31) (hdg : decode cc pc = .ok (.iaload, 1)) (kk : GW p l e R s m args below meth c V A nL Q n ad el cells slots (pc + 1) lv (.int (f i) :: st)) : GW p l e R s m args below meth c V A nL Q n ad el cells slots pc lv (.int x :: .ref (ad k) :: st) := by
  subst hx
  intro H locs ls hP hD hS hl
  refine va_iald (D := V.1) C.x C.b C.k hP k 0 (wld_at hk he) rfl (vp_in_nI hi hN) hdg ?_
  rw [nI_clamp (by omega)]
  exact kk H locs ls hP hD hS hl
theorem g_zald (C : CX V A own cc nL ret Ts p s m args meth c) (k : Nat) (hk : k < n) {N : Nat} {f : Nat → Int32} (he : el k = .inl (V.2 1, N, .inl f)) (i : Nat) {x : Int32} (hx : x = nI i) (hi : i < N) (hN : N < 2 ^ 31) (hdg : decode cc pc = .ok (.baload, 1)) (kk : GW p l e R s m args below meth c V A nL Q n ad el cells slots (pc + 1) lv (.int (f i) :: st)) : GW p l e R s m args below meth c V A nL Q n ad el cells slots pc lv (.int x :: .ref (ad k) :: st) := by
  subst hx
  intro H locs ls hP hD hS hl
  refine va_zald (D := V.1) C.x C.b C.k hP k 1 (wld_at hk he) rfl (vp_in_nI hi hN) hdg ?_
  rw [nI_clamp (by omega)]
  exact kk H locs ls hP hD hS hl
theorem g_lald (C : CX V A own cc nL ret Ts p s m args meth c) (k : Nat) (hk : k < n) {N : Nat} {f : Nat → Int64} (he : el k = .inl (V.2 2, N, .inr (.inl f))) (i : Nat) {x : Int32} (hx : x = nI i) (hi : i < N) (hN : N < 2 ^ 31) (hdg : decode cc pc = .ok (.laload, 1)) (kk : GW p l e R s m args below meth c V A nL Q n ad el cells slots (pc + 1) lv (.long (f i) :: st)) : GW p l e R s m args below meth c V A nL Q n ad el cells slots pc lv (.int x :: .ref (ad k) :: st) := by
  subst hx
  intro H locs ls hP hD hS hl
  refine va_lald (D := V.1) C.x C.b C.k hP k 2 (wld_at hk he) rfl (vp_in_nI hi hN) hdg ?_
  rw [nI_clamp (by omega)]
  exact kk H locs ls hP hD hS hl
theorem g_aald (C : CX V A own cc nL ret Ts p s m args meth c) (k : Nat) (hk : k < n) (t : Nat) {Cn : String} (ht : (g_tys V.2)[t]? = some (V.2 t, .object Cn)) {N : Nat} {f : Nat → Option Nat} (he : el k = .inl (V.2 t, N, .inr (.inr (.inr (.inr f))))) (i : Nat) {x : Int32} (hx : x = nI i) (hi : i < N) (hN : N < 2 ^ 31) {q : Nat} (hf : f i = some q) (hdg : decode cc pc = .ok (.aaload, 1)) (kk : GW p l e R s m args below meth c V A nL Q n ad el cells slots (pc + 1) lv (.ref q :: st)) : GW p l e R s m args below meth c V A nL Q n ad el cells slots pc lv (.int x :: .ref (ad k) :: st) := by
  subst hx
  intro H locs ls hP hD hS hl
  refine va_aldq (D := V.1) C.x C.b C.k hP k t (wld_at hk he) ht (vp_in_nI hi hN) hdg ?_
  rw [nI_clamp (by omega), hf]
  exact kk H locs ls hP hD hS hl
theorem g_iast (C : CX V A own cc nL ret Ts p s m args meth c) (k : Nat) (hk : k < n) {N : Nat} {f : Nat → Int32} (he : el k = .inl (V.2 0, N, .inl f)) (i : Nat) {x v : Int32} (hx : x = nI i) (hi : i < N) (hN : N < 2 ^ 31) (hdg : decode cc pc = .ok (.iastore, 1)) (kk : ∀ el' : Nat → va_E, el' k = .inl (V.2 0, N, .inl (upd f i v)) → (∀ j, j ≠ k → el' j = el j) → GW p l e R s m args below meth c V A nL Q n ad el' cells slots (pc + 1) lv st) : GW p l e R s m args below meth c V A nL Q n ad el cells slots pc lv (.int v :: .int x :: .ref (ad k) :: st) := by
  subst hx
  intro H locs ls hP hD hS hl
  refine va_iast (D := V.1) C.x C.b C.k hP hD hS k 0 (wld_at hk he) rfl (vp_in_nI hi hN) hdg (fun H1 locs1 hP1 hD1 hS1 => ?_)
  rw [nI_clamp (by omega)] at hP1 hD1
  exact kk (va_up el k _) (va_up_self _ _ _) (fun j hj => va_up_ne _ _ hj) H1 locs1 ls (by rw [← wld_set hk]; exact hP1) (by rw [← wld_set hk]; exact hD1) hS1 hl
theorem g_zast (C : CX V A own cc nL ret Ts p s m args meth c) (k : Nat) (hk : k < n) {N : Nat} {f : Nat → Int32} (he : el k = .inl (V.2 1, N, .inl f)) (i : Nat) {x v : Int32} (hx : x = nI i) (hi : i < N) (hN : N < 2 ^ 31) (hv : vp_nar .boolean v = v) (hdg : decode cc pc = .ok (.bastore, 1)) (kk : ∀ el' : Nat → va_E, el' k = .inl (V.2 1, N, .inl (upd f i v)) → (∀ j, j ≠ k → el' j = el j) → GW p l e R s m args below meth c V A nL Q n ad el' cells slots (pc + 1) lv st) : GW p l e R s m args below meth c V A nL Q n ad el cells slots pc lv (.int v :: .int x :: .ref (ad k) :: st) := by
  subst hx
  intro H locs ls hP hD hS hl
  refine va_zast (D := V.1) C.x C.b C.k hP hD hS k 1 (wld_at hk he) rfl (vp_in_nI hi hN) hdg (fun H1 locs1 hP1 hD1 hS1 => ?_)
  rw [nI_clamp (by omega), hv] at hP1 hD1
  exact kk (va_up el k _) (va_up_self _ _ _) (fun j hj => va_up_ne _ _ hj) H1 locs1 ls (by rw [← wld_set hk]; exact hP1) (by rw [← wld_set hk]; exact hD1) hS1 hl
theorem g_last (C : CX V A own cc nL ret Ts p s m args meth c) (k : Nat) (hk : k < n) {N : Nat} {f : Nat → Int64} (he : el k = .inl (V.2 2, N, .inr (.inl f))) (i : Nat) {x : Int32} {v : Int64} (hx : x = nI i) (hi : i < N) (hN : N < 2 ^ 31) (hdg : decode cc pc = .ok (.lastore, 1)) (kk : ∀ el' : Nat → va_E, el' k = .inl (V.2 2, N, .inr (.inl (vp_updL f i v))) → (∀ j, j ≠ k → el' j = el j) → GW p l e R s m args below meth c V A nL Q n ad el' cells slots (pc + 1) lv st) : GW p l e R s m args below meth c V A nL Q n ad el cells slots pc lv (.long v :: .int x :: .ref (ad k) :: st) := by
  subst hx
  intro H locs ls hP hD hS hl
  refine va_last (D := V.1) C.x C.b C.k hP hD hS k 2 (wld_at hk he) rfl (vp_in_nI hi hN) hdg (fun H1 locs1 hP1 hD1 hS1 => ?_)
  rw [nI_clamp (by omega)] at hP1 hD1
  exact kk (va_up el k _) (va_up_self _ _ _) (fun j hj => va_up_ne _ _ hj) H1 locs1 ls (by rw [← wld_set hk]; exact hP1) (by rw [← wld_set hk]; exact hD1) hS1 hl
theorem g_aast (C : CX V A own cc nL ret Ts p s m args meth c) (k : Nat) (hk : k < n) (t : Nat) (kv : Nat) (hkv : kv < n) {ci : Nat} {r : vw_C} {fs : List Value} (hv : el kv = .inr (ci, fs)) (hc : vwCl[ci]? = some r) (ht : (g_tys V.2)[t]? = some (V.2 t, .object r.1)) {N : Nat} {f : Nat → Option Nat} (he : el k = .inl (V.2 t, N, .inr (.inr (.inr (.inr f))))) (i : Nat) {x : Int32} (hx : x = nI i) (hi : i < N) (hN : N < 2 ^ 31) (hdg : decode cc pc = .ok (.aastore, 1)) (kk : ∀ el' : Nat → va_E, el' k = .inl (V.2 t, N, .inr (.inr (.inr (.inr (va_up f i (some (ad kv))))))) → (∀ j, j ≠ k → el' j = el j) → GW p l e R s m args below meth c V A nL Q n ad el' cells slots (pc + 1) lv st) : GW p l e R s m args below meth c V A nL Q n ad el cells slots pc lv (.ref (ad kv) :: .int x :: .ref (ad k) :: st) := by
  subst hx
  intro H locs ls hP hD hS hl
  refine va_astq (D := V.1) C.x C.b C.k hP hD hS k t kv ci (wld_at hk he) ht (wld_at hkv hv) hc (vp_in_nI hi hN) hdg (fun H1 locs1 hP1 hD1 hS1 => ?_)
  rw [nI_clamp (by omega)] at hP1 hD1
  exact kk (va_up el k _) (va_up_self _ _ _) (fun j hj => va_up_ne _ _ hj) H1 locs1 ls (by rw [← wld_set hk]; exact hP1) (by rw [← wld_set hk]; exact hD1) hS1 hl
theorem g_alen (C : CX V A own cc nL ret Ts p s m args meth c) (k : Nat) (hk : k < n) (t : Nat) {ty : FieldType} (ht : (g_tys V.2)[t]? = some (V.2 t, ty)) {x : vp_A} (he : el k = .inl (V.2 t, x)) {v : Int32} (hv : Int32.ofNat x.1 = v) (hdg : decode cc pc = .ok (.arraylength, 1)) (kk : GW p l e R s m args below meth c V A nL Q n ad el cells slots (pc + 1) lv (.int v :: st)) : GW p l e R s m args below meth c V A nL Q n ad el cells slots pc lv (.ref (ad k) :: st) :=
  fun H locs ls hP hD hS hl => va_alen (D := V.1) C.x C.b C.k hP k t (wld_at hk he) ht hv hdg (kk H locs ls hP hD hS hl)
theorem g_new (C : CX V A own cc nL ret Ts p s m args meth c) {Cn : String} {T : u_T} {N ci index : Nat} (hin : ∀ w ∈ u_ws Cn T N, w ∈ Ts) (ty : Nat → FieldType) (hty : ∀ k, k < N → parseFieldDescriptor (T k).2.2.1 = some (ty k)) (hcl : Cond.classLink own index Cn ∈ Ts) (hinst : Cond.instantiable Cn N ∈ Ts) (hini : Cond.initialized Cn ∈ Ts) (hc : vwCl[ci]? = some (Cn, T, N)) {fs : List Value} (hfs : ∀ j, j < N → defaultValue (ty j) = vp_V fs j) (hcells : cells + 1 ≤ R.cells) (hslots : slots + N ≤ R.slots) (hdg : decode cc pc = .ok (.new index, 3))
    (kk : ∀ (ad' : Nat → Nat) (el' : Nat → va_E), (∀ j, j < n → ad' j = ad j) → el' n = .inr (ci, fs) → (∀ j, j < n → el' j = el j) → GW p l e R s m args below meth c V A nL Q (n + 1) ad' el' (cells + 1) (slots + N) (pc + 3) lv (.ref (ad' n) :: st)) : GW p l e R s m args below meth c V A nL Q n ad el cells slots pc lv st := by
  intro H locs ls hP hD hS hl
  refine va_new (D := V.1) C.x C.b C.ts hin ty hty C.ow (C.ts _ hcl) (C.ts _ hinst) (C.ts _ hini) C.k hP hD hS C.ha hc hfs hcells hslots hdg (fun q H1 hP1 hD1 hS1 => ?_)
  rw [wld_push] at hP1 hD1
  have h := kk (va_up ad n q) (va_up el n (.inr (ci, fs))) (fun j hj => va_up_ne _ _ (by omega)) (va_up_self _ _ _) (fun j hj => va_up_ne _ _ (by omega)) H1 locs ls hP1 hD1 hS1 hl
  rw [va_up_self] at h
  exact h
theorem g_same {cA : ClassId} {t : Nat} {ty : FieldType} {H : Heap} (hK : va_K V.1 vwCl (g_tys V.2) s) (ht : (g_tys V.2)[t]? = some (V.2 t, ty)) (hK2 : va_K V.1 vwCl (g_tys V.2 ++ [(cA, ty)]) s) : cA = V.2 t := by
  have h1 := (hK.2 t _ ht).2
  have h2 := (hK2.2 6 (cA, ty) rfl).2
  have key : ∀ nm : String, s.vm.findClass nm = some cA → s.vm.findClass nm = some (V.2 t) → cA = V.2 t := fun nm a b => Option.some.inj (a.symm.trans b)
  cases ty with
  | object Cn =>
    obtain ⟨k1, c1, -, -, -, a1⟩ := h1
    obtain ⟨k2, c2, -, -, -, a2⟩ := h2
    exact key _ a2 a1
  | _ => exact key _ h2 h1
theorem g_newa (C : CX V A own cc nL ret Ts p s m args meth c) (t : Nat) {atype : ArrayType} (harr : Cond.arrayClass (newarray.typeOf atype) ∈ Ts) {ty : FieldType} (hty : newarray.typeOf atype = ty) (ht : (g_tys V.2)[t]? = some (V.2 t, ty)) {x : Int32} {N : Nat} {a0 : vp_A} (ha : ∀ cA : ClassId, vp_cell cA a0 = arrV cA N (fun _ => defaultValue ty)) (hn : ¬ x < 0) (hN : x.toNatClampNeg = N) (hbytes : N * componentBytes ty ≤ 536870912) (hcells : cells + 1 ≤ R.cells) (hslots : slots + N ≤ R.slots) (hdg : decode cc pc = .ok (.newarray atype, 2))
    (kk : ∀ (ad' : Nat → Nat) (el' : Nat → va_E), (∀ j, j < n → ad' j = ad j) → el' n = .inl (V.2 t, a0) → (∀ j, j < n → el' j = el j) → GW p l e R s m args below meth c V A nL Q (n + 1) ad' el' (cells + 1) (slots + N) (pc + 2) lv (.ref (ad' n) :: st)) : GW p l e R s m args below meth c V A nL Q n ad el cells slots pc lv (.int x :: st) := by
  intro H locs ls hP hD hS hl
  refine va_newa (D := V.1) C.x C.b (C.ts _ harr) hty C.k hP hD hS C.ha ha hn hN hbytes hcells hslots hdg (fun q cA H1 hK1 hP1 hD1 hS1 => ?_)
  have e := g_same (H := H) C.k ht hK1
  subst e
  rw [wld_push] at hP1 hD1
  have h := kk (va_up ad n q) (va_up el n _) (fun j hj => va_up_ne _ _ (by omega)) (va_up_self _ _ _) (fun j hj => va_up_ne _ _ (by omega)) H1 locs ls hP1 hD1 hS1 hl
  rw [va_up_self] at h
  exact h
theorem g_newq (C : CX V A own cc nL ret Ts p s m args meth c) (t : Nat) {Cn : String} {index : Nat} (hcl : Cond.classLink own index Cn ∈ Ts) (hao : Cn ∈ g_ao) (ht : (g_tys V.2)[t]? = some (V.2 t, .object Cn)) {x : Int32} {N : Nat} (hn : ¬ x < 0) (hN : x.toNatClampNeg = N) (hbytes : N * 4 ≤ 536870912) (hcells : cells + 1 ≤ R.cells) (hslots : slots + N ≤ R.slots) (hdg : decode cc pc = .ok (.anewarray index, 3))
    (kk : ∀ (ad' : Nat → Nat) (el' : Nat → va_E), (∀ j, j < n → ad' j = ad j) → el' n = .inl (V.2 t, N, .inr (.inr (.inr (.inr (fun _ => none))))) → (∀ j, j < n → el' j = el j) → GW p l e R s m args below meth c V A nL Q (n + 1) ad' el' (cells + 1) (slots + N) (pc + 3) lv (.ref (ad' n) :: st)) : GW p l e R s m args below meth c V A nL Q n ad el cells slots pc lv (.int x :: st) := by
  intro H locs ls hP hD hS hl
  refine va_newq (D := V.1) C.x C.b C.ow (C.ts _ hcl) (C.kx.2.2.2.2.2.2.1 _ hao) C.k hP hD hS C.ha hn hN hbytes hcells hslots hdg (fun q cA H1 hK1 hP1 hD1 hS1 => ?_)
  have e := g_same (H := H) C.k ht hK1
  subst e
  rw [wld_push] at hP1 hD1
  have h := kk (va_up ad n q) (va_up el n _) (fun j hj => va_up_ne _ _ (by omega)) (va_up_self _ _ _) (fun j hj => va_up_ne _ _ (by omega)) H1 locs ls hP1 hD1 hS1 hl
  rw [va_up_self] at h
  exact h
theorem g_objInit (C : CX V A own cc nL ret Ts p s m args meth c) {idx : Nat} {a : Nat} (h1 : Cond.methodLink own idx Lib.objectInit ∈ Ts) (h2 : Cond.instanceMethod Lib.objectInit ∈ Ts) (h3 : Cond.code Lib.objectInit ⟨#[0xb1]⟩ 1 none ∈ Ts) (hf : 1 ≤ R.frames) (hlo : (st.map fun v => v.category).sum + 12 ≤ R.locals) (hdg : decode cc pc = .ok (.invokespecial idx, 3)) (kk : GW p l e R s m args below meth c V A nL Q n ad el cells slots (pc + 3) lv st) : GW p l e R s m args below meth c V A nL Q n ad el cells slots pc lv (.ref a :: st) :=
  fun H locs ls hP hD hS hl => W.objInit C.x C.b C.ow (C.ts _ h1) (C.ts _ h2) (C.ts _ h3) rfl (hl.1.trans C.ml.symm) rfl hdg hf (by show 2 * 0 + _ + 12 ≤ _; omega) (kk H locs ls hP hD hS hl)
theorem g_mmax (C : CX V A own cc nL ret Ts p s m args meth c) {index : Nat} {x y v : Int32} (hv : (if x < y then y else x) = v) (h1 : Cond.methodLink own index Lib.Math.max.name ∈ Ts) (h2 : Cond.static Lib.Math.max.name ∈ Ts) (h3 : Cond.initialized "java/lang/Math" ∈ Ts) (h4 : Cond.code Lib.Math.max.name Lib.Math.max.code 2 (some .int) ∈ Ts) (hf : 1 ≤ R.frames) (hlo : (st.map fun v => v.category).sum + 13 ≤ R.locals) (hc : cells ≤ R.cells) (hs : slots ≤ R.slots) (hdg : decode cc pc = .ok (.invokestatic index, 3)) (kk : GW p l e R s m args below meth c V A nL Q n ad el cells slots (pc + 3) lv (.int v :: st)) : GW p l e R s m args below meth c V A nL Q n ad el cells slots pc lv (.int y :: .int x :: st) := by
  subst hv
  exact fun H locs ls hP hD hS hl => va_mmax C.x C.b (C.ml.trans hl.1.symm) C.ow (C.ts _ h1) (C.ts _ h2) (C.ts _ h3) (C.ts _ h4) hf hlo hc hs hdg (kk H locs ls hP hD hS hl)
theorem g_mmin (C : CX V A own cc nL ret Ts p s m args meth c) {index : Nat} {x y v : Int32} (hv : (if y < x then y else x) = v) (h1 : Cond.methodLink own index Lib.Math.min.name ∈ Ts) (h2 : Cond.static Lib.Math.min.name ∈ Ts) (h3 : Cond.initialized "java/lang/Math" ∈ Ts) (h4 : Cond.code Lib.Math.min.name Lib.Math.min.code 2 (some .int) ∈ Ts) (hf : 1 ≤ R.frames) (hlo : (st.map fun v => v.category).sum + 13 ≤ R.locals) (hc : cells ≤ R.cells) (hs : slots ≤ R.slots) (hdg : decode cc pc = .ok (.invokestatic index, 3)) (kk : GW p l e R s m args below meth c V A nL Q n ad el cells slots (pc + 3) lv (.int v :: st)) : GW p l e R s m args below meth c V A nL Q n ad el cells slots pc lv (.int y :: .int x :: st) := by
  subst hv
  exact fun H locs ls hP hD hS hl => va_mmin C.x C.b (C.ml.trans hl.1.symm) C.ow (C.ts _ h1) (C.ts _ h2) (C.ts _ h3) (C.ts _ h4) hf hlo hc hs hdg (kk H locs ls hP hD hS hl)
theorem g_tableOut (C : CX V A own cc nL ret Ts p s m args meth c) {dflt lo hi : Int} {offs : Array Int} {len : Nat} {x : Int32} {tgt : Nat} (hdg : decode cc pc = .ok (.tableswitch dflt lo hi offs, len)) (h : x.toInt < lo ∨ hi < x.toInt) (ht : (pc : Int) + dflt = (tgt : Int)) (kk : GW p l e R s m args below meth c V A nL Q n ad el cells slots tgt lv st) : GW p l e R s m args below meth c V A nL Q n ad el cells slots pc lv (.int x :: st) :=
  fun H locs ls hP hD hS hl => lv_tableOut C.x C.b hdg h ht (kk H locs ls hP hD hS hl)
theorem g_tableIn (C : CX V A own cc nL ret Ts p s m args meth c) {dflt lo hi : Int} {offs : Array Int} {len : Nat} {x : Int32} {off : Int} {tgt : Nat} (hdg : decode cc pc = .ok (.tableswitch dflt lo hi offs, len)) (h1 : ¬ x.toInt < lo) (h2 : ¬ hi < x.toInt) (ho : offs[(x.toInt - lo).toNat]? = some off) (ht : (pc : Int) + off = (tgt : Int)) (kk : GW p l e R s m args below meth c V A nL Q n ad el cells slots tgt lv st) : GW p l e R s m args below meth c V A nL Q n ad el cells slots pc lv (.int x :: st) :=
  fun H locs ls hP hD hS hl => lv_tableIn C.x C.b hdg h1 h2 ho ht (kk H locs ls hP hD hS hl)
theorem g_iret {mc ms : Nat} {S : Type} {post : Int32 → S → Prop} {N : S → Nat} {Ad : S → Nat → Nat} {E : S → Nat → va_E} {r : Int32} (C : CX V A own cc nL ret Ts p s m args meth c) (hr : ret = some .int) (hdg : decode cc pc = .ok (.ireturn, 1)) (u : S) (hN : N u = n) (hA : Ad u = ad) (hE : E u = el) (h : post r u) (hc : cells ≤ mc) (hs : slots ≤ ms) :
    GW p l e R s m args below meth c V A nL (MQ below (QI V post N Ad E A) args s mc ms A) n ad el cells slots pc lv [.int r] :=
  fun H locs ls hP hD hS hl => W.widen hc hs (W.iret C.x C.b (C.rt.trans hr) (fun t ht _ => ⟨⟨r, u, rfl, h, by rw [ht, hN, hA, hE]; exact hP, by rw [hN, hA, hE]; exact hD⟩, hS.F ht⟩) hS.2.2 hdg C.lk)
theorem g_lret {mc ms : Nat} {S : Type} {post : Int64 → S → Prop} {N : S → Nat} {Ad : S → Nat → Nat} {E : S → Nat → va_E} {r : Int64} (C : CX V A own cc nL ret Ts p s m args meth c) (hr : ret = some .long) (hdg : decode cc pc = .ok (.lreturn, 1)) (u : S) (hN : N u = n) (hA : Ad u = ad) (hE : E u = el) (h : post r u) (hc : cells ≤ mc) (hs : slots ≤ ms) :
    GW p l e R s m args below meth c V A nL (MQ below (QL V post N Ad E A) args s mc ms A) n ad el cells slots pc lv [.long r] :=
  fun H locs ls hP hD hS hl => W.widen hc hs (W.lret C.x C.b (C.rt.trans hr) (fun t ht _ => ⟨⟨r, u, rfl, h, by rw [ht, hN, hA, hE]; exact hP, by rw [hN, hA, hE]; exact hD⟩, hS.F ht⟩) hS.2.2 hdg C.lk)
theorem g_dret {mc ms : Nat} {S : Type} {post : UInt64 → S → Prop} {N : S → Nat} {Ad : S → Nat → Nat} {E : S → Nat → va_E} {r : UInt64} (C : CX V A own cc nL ret Ts p s m args meth c) (hr : ret = some .double) (hdg : decode cc pc = .ok (.dreturn, 1)) (u : S) (hN : N u = n) (hA : Ad u = ad) (hE : E u = el) (h : post r u) (hc : cells ≤ mc) (hs : slots ≤ ms) :
    GW p l e R s m args below meth c V A nL (MQ below (QD V post N Ad E A) args s mc ms A) n ad el cells slots pc lv [.double r] :=
  fun H locs ls hP hD hS hl => W.widen hc hs (W.dret C.x C.b (C.rt.trans hr) (fun t ht _ => ⟨⟨r, u, rfl, h, by rw [ht, hN, hA, hE]; exact hP, by rw [hN, hA, hE]; exact hD⟩, hS.F ht⟩) hS.2.2 hdg C.lk)
theorem g_zret {mc ms : Nat} {S : Type} {post : Int32 → S → Prop} {N : S → Nat} {Ad : S → Nat → Nat} {E : S → Nat → va_E} {r : Int32} (C : CX V A own cc nL ret Ts p s m args meth c) (hr : ret = some .boolean) (hn : narrow .boolean (.int r) = .int r) (hdg : decode cc pc = .ok (.ireturn, 1)) (u : S) (hN : N u = n) (hA : Ad u = ad) (hE : E u = el) (h : post r u) (hc : cells ≤ mc) (hs : slots ≤ ms) :
    GW p l e R s m args below meth c V A nL (MQ below (QI V post N Ad E A) args s mc ms A) n ad el cells slots pc lv [.int r] :=
  fun H locs ls hP hD hS hl => W.widen hc hs (W.zret C.x C.b (C.rt.trans hr) hn (fun t ht _ => ⟨⟨r, u, rfl, h, by rw [ht, hN, hA, hE]; exact hP, by rw [hN, hA, hE]; exact hD⟩, hS.F ht⟩) hS.2.2 hdg C.lk)
theorem g_vret {mc ms : Nat} {S : Type} {post : S → Prop} {N : S → Nat} {Ad : S → Nat → Nat} {E : S → Nat → va_E} (C : CX V A own cc nL ret Ts p s m args meth c) (hr : ret = none) (hdg : decode cc pc = .ok (.return_, 1)) (u : S) (hN : N u = n) (hA : Ad u = ad) (hE : E u = el) (h : post u) (hc : cells ≤ mc) (hs : slots ≤ ms) :
    GW p l e R s m args below meth c V A nL (MQ below (QV V post N Ad E A) args s mc ms A) n ad el cells slots pc lv [] :=
  fun H locs ls hP hD hS hl => W.widen hc hs (W.vret C.x C.b (C.rt.trans hr) (fun t ht _ => ⟨⟨u, rfl, h, by rw [ht, hN, hA, hE]; exact hP, by rw [hN, hA, hE]; exact hD⟩, hS.F ht⟩) hS.2.2 hdg C.lk)
theorem g_x {mc ms : Nat} {Qc : Array Value → State → Outcome → State → Prop} {XC : String → State → State → Prop} (k : GW p l e R s m args below meth c V A nL (MQ below Qc args s mc ms A) n ad el cells slots pc lv st) : GW p l e R s m args below meth c V A nL (vx_MQ below Qc XC args s mc ms A) n ad el cells slots pc lv st :=
  fun H locs ls hP hD hS hl => vx_ret (k H locs ls hP hD hS hl)
theorem g_calli (C : CX V A own cc nL ret Ts p s m args meth c) {mc ms : Nat} {S : Type} {post : Int32 → S → Prop} {N : S → Nat} {Ad : S → Nat → Nat} {E : S → Nat → va_E} {st0 : List Value} {a : Array Value} (hr : ∀ (H : Heap) (locs : List Loc) (ls : Array Slot), va_P V.1 vwCl (wld n ad el) H → va_D A (wld n ad el) → va_S A s.heap H locs → lv_has ls nL lv → va_Run p l e R s m args below meth c H locs cells slots mc ms (F0 m pc ls st0) st (QI V post N Ad E (AA n ad H.size) a) (AA n ad H.size))
    (kk : ∀ (r : Int32) (u : S), post r u → GW p l e R s m args below meth c V A nL Q (N u) (Ad u) (E u) (cells + mc) (slots + ms) (pc + 3) lv (.int r :: st)) : GW p l e R s m args below meth c V A nL Q n ad el cells slots pc lv st0 :=
  fun H locs ls hP hD hS hl => va_calli (hr H locs ls hP hD hS hl) hS (fun q _ h => wld_AA hD C.ha hS.1 q h) (fun q h => wld_AA hD C.ha hS.1 q h) (fun r u t H1 locs1 ht _ hw hB _ _ hS1 => kk r u hw H1 locs1 ls (ht ▸ hB.1) (hB.2.weaken (fun _ q _ h => wld_AA hD C.ha hS.1 q.1 h)) hS1 hl)
theorem g_calll (C : CX V A own cc nL ret Ts p s m args meth c) {mc ms : Nat} {S : Type} {post : Int64 → S → Prop} {N : S → Nat} {Ad : S → Nat → Nat} {E : S → Nat → va_E} {st0 : List Value} {a : Array Value} (hr : ∀ (H : Heap) (locs : List Loc) (ls : Array Slot), va_P V.1 vwCl (wld n ad el) H → va_D A (wld n ad el) → va_S A s.heap H locs → lv_has ls nL lv → va_Run p l e R s m args below meth c H locs cells slots mc ms (F0 m pc ls st0) st (QL V post N Ad E (AA n ad H.size) a) (AA n ad H.size))
    (kk : ∀ (r : Int64) (u : S), post r u → GW p l e R s m args below meth c V A nL Q (N u) (Ad u) (E u) (cells + mc) (slots + ms) (pc + 3) lv (.long r :: st)) : GW p l e R s m args below meth c V A nL Q n ad el cells slots pc lv st0 :=
  fun H locs ls hP hD hS hl => va_calll (hr H locs ls hP hD hS hl) hS (fun q _ h => wld_AA hD C.ha hS.1 q h) (fun q h => wld_AA hD C.ha hS.1 q h) (fun r u t H1 locs1 ht _ hw hB _ _ hS1 => kk r u hw H1 locs1 ls (ht ▸ hB.1) (hB.2.weaken (fun _ q _ h => wld_AA hD C.ha hS.1 q.1 h)) hS1 hl)
theorem g_calld (C : CX V A own cc nL ret Ts p s m args meth c) {mc ms : Nat} {S : Type} {post : UInt64 → S → Prop} {N : S → Nat} {Ad : S → Nat → Nat} {E : S → Nat → va_E} {st0 : List Value} {a : Array Value} (hr : ∀ (H : Heap) (locs : List Loc) (ls : Array Slot), va_P V.1 vwCl (wld n ad el) H → va_D A (wld n ad el) → va_S A s.heap H locs → lv_has ls nL lv → va_Run p l e R s m args below meth c H locs cells slots mc ms (F0 m pc ls st0) st (QD V post N Ad E (AA n ad H.size) a) (AA n ad H.size))
    (kk : ∀ (r : UInt64) (u : S), post r u → GW p l e R s m args below meth c V A nL Q (N u) (Ad u) (E u) (cells + mc) (slots + ms) (pc + 3) lv (.double r :: st)) : GW p l e R s m args below meth c V A nL Q n ad el cells slots pc lv st0 :=
  fun H locs ls hP hD hS hl => va_calld (hr H locs ls hP hD hS hl) hS (fun q _ h => wld_AA hD C.ha hS.1 q h) (fun q h => wld_AA hD C.ha hS.1 q h) (fun r u t H1 locs1 ht _ hw hB _ _ hS1 => kk r u hw H1 locs1 ls (ht ▸ hB.1) (hB.2.weaken (fun _ q _ h => wld_AA hD C.ha hS.1 q.1 h)) hS1 hl)
theorem g_callv (C : CX V A own cc nL ret Ts p s m args meth c) {mc ms : Nat} {S : Type} {post : S → Prop} {N : S → Nat} {Ad : S → Nat → Nat} {E : S → Nat → va_E} {st0 : List Value} {a : Array Value} (hr : ∀ (H : Heap) (locs : List Loc) (ls : Array Slot), va_P V.1 vwCl (wld n ad el) H → va_D A (wld n ad el) → va_S A s.heap H locs → lv_has ls nL lv → va_Run p l e R s m args below meth c H locs cells slots mc ms (F0 m pc ls st0) st (QV V post N Ad E (AA n ad H.size) a) (AA n ad H.size))
    (kk : ∀ (u : S), post u → GW p l e R s m args below meth c V A nL Q (N u) (Ad u) (E u) (cells + mc) (slots + ms) (pc + 3) lv (st)) : GW p l e R s m args below meth c V A nL Q n ad el cells slots pc lv st0 :=
  fun H locs ls hP hD hS hl => va_callv (hr H locs ls hP hD hS hl) hS (fun q _ h => wld_AA hD C.ha hS.1 q h) (fun q h => wld_AA hD C.ha hS.1 q h) (fun u t H1 locs1 ht _ hw hB _ _ hS1 => kk u hw H1 locs1 ls (ht ▸ hB.1) (hB.2.weaken (fun _ q _ h => wld_AA hD C.ha hS.1 q.1 h)) hS1 hl)
theorem g_xcalli (C : CX V A own cc nL ret Ts p s m args meth c) {mc ms : Nat} {S : Type} {post : Int32 → S → Prop} {N : S → Nat} {Ad : S → Nat → Nat} {E : S → Nat → va_E} {st0 : List Value} {a : Array Value} {px : String → Prop} (hr : ∀ (H : Heap) (locs : List Loc) (ls : Array Slot), va_P V.1 vwCl (wld n ad el) H → va_D A (wld n ad el) → va_S A s.heap H locs → lv_has ls nL lv → vx_Run p l e R s m args below meth c H locs cells slots mc ms (F0 m pc ls st0) st (QI V post N Ad E (AA n ad H.size) a) (XF V n ad el px (AA n ad H.size)) (AA n ad H.size))
    (kx : ∀ E : String, px E → GX p l e R s m args below meth c V A nL Q n ad el (cells + mc) (slots + ms) pc lv st E)
    (kk : ∀ (r : Int32) (u : S), post r u → GW p l e R s m args below meth c V A nL Q (N u) (Ad u) (E u) (cells + mc) (slots + ms) (pc + 3) lv (.int r :: st)) : GW p l e R s m args below meth c V A nL Q n ad el cells slots pc lv st0 :=
  fun H locs ls hP hD hS hl => vx_calli (hr H locs ls hP hD hS hl) hS (fun q _ h => wld_AA hD C.ha hS.1 q h) (fun q h => wld_AA hD C.ha hS.1 q h) (fun q _ h => wld_AA hD C.ha hS.1 q h)
    (fun E ce q9 _ t H1 locs1 ht _ _ hB _ _ hS1 h1 h2 h3 => kx E hB.1 H1 locs1 ls q9 ce (ht ▸ hB.2) hD hS1 hl h1 h2 h3)
    (fun r u t H1 locs1 ht _ hw hB _ _ hS1 => kk r u hw H1 locs1 ls (ht ▸ hB.1) (hB.2.weaken (fun _ q _ h => wld_AA hD C.ha hS.1 q.1 h)) hS1 hl)
theorem g_xcallv (C : CX V A own cc nL ret Ts p s m args meth c) {mc ms : Nat} {S : Type} {post : S → Prop} {N : S → Nat} {Ad : S → Nat → Nat} {E : S → Nat → va_E} {st0 : List Value} {a : Array Value} {px : String → Prop} (hr : ∀ (H : Heap) (locs : List Loc) (ls : Array Slot), va_P V.1 vwCl (wld n ad el) H → va_D A (wld n ad el) → va_S A s.heap H locs → lv_has ls nL lv → vx_Run p l e R s m args below meth c H locs cells slots mc ms (F0 m pc ls st0) st (QV V post N Ad E (AA n ad H.size) a) (XF V n ad el px (AA n ad H.size)) (AA n ad H.size))
    (kx : ∀ E : String, px E → GX p l e R s m args below meth c V A nL Q n ad el (cells + mc) (slots + ms) pc lv st E)
    (kk : ∀ (u : S), post u → GW p l e R s m args below meth c V A nL Q (N u) (Ad u) (E u) (cells + mc) (slots + ms) (pc + 3) lv st) : GW p l e R s m args below meth c V A nL Q n ad el cells slots pc lv st0 :=
  fun H locs ls hP hD hS hl => vx_callv (hr H locs ls hP hD hS hl) hS (fun q _ h => wld_AA hD C.ha hS.1 q h) (fun q h => wld_AA hD C.ha hS.1 q h) (fun q _ h => wld_AA hD C.ha hS.1 q h)
    (fun E ce q9 _ t H1 locs1 ht _ _ hB _ _ hS1 h1 h2 h3 => kx E hB.1 H1 locs1 ls q9 ce (ht ▸ hB.2) hD hS1 hl h1 h2 h3)
    (fun u t H1 locs1 ht _ hw hB _ _ hS1 => kk u hw H1 locs1 ls (ht ▸ hB.1) (hB.2.weaken (fun _ q _ h => wld_AA hD C.ha hS.1 q.1 h)) hS1 hl)
theorem r_V (C : CX V A own cc nL ret Ts p s m args meth c) {y : MethodName} {bytes : ByteArray} {maxL mc ms nA index : Nat} {ret2 : Option FieldType} {ws : List Cond} {rm : Room} {Qf : (Nat → Prop) → Array Value → State → Outcome → State → Prop} {st0 : List Value} {Cn : String} {As : List Value} {k : Nat} (hM : TT l V y ws rm n ad el (.ref (ad k) :: As) Qf mc ms) (cw : CallW R s args own Cn index y bytes maxL ret2 ws rm mc ms nA) (hk : k < n) {ci : Nat} {fs : List Value} {T : u_T} {NN : Nat} (he : el k = .inr (ci, fs)) (hc : vwCl[ci]? = some (Cn, T, NN)) (hn : As.length = nA) (hst : st0 = As.reverse ++ .ref (ad k) :: st) (hw : (st.map fun v => v.category).sum ≤ 8) (hdg : decode cc pc = .ok (.invokevirtual index, 3)) (hf : cells + mc ≤ R.cells ∧ slots + ms ≤ R.slots) : ∀ (H : Heap) (locs : List Loc) (ls : Array Slot), va_P V.1 vwCl (wld n ad el) H → va_D A (wld n ad el) → va_S A s.heap H locs → lv_has ls nL lv → va_Run p l e R s m args below meth c H locs cells slots mc ms (F0 m pc ls st0) st (Qf (AA n ad H.size) (.ref (ad k) :: As).toArray) (AA n ad H.size) :=
  fun H locs ls hP hD hS hl => va_runV ⟨C.x, C.b, C.ml, C.ow, C.ts⟩ (hM H.size) cw ⟨PC.blind, va_recv C.k hP hc (wld_at hk he), fun U hU hW => PC.of C hP hD hS U hU hW⟩ rfl hn hl.1 hst (lv_room hw) hdg hf
theorem r_S (C : CX V A own cc nL ret Ts p s m args meth c) {y : MethodName} {bytes : ByteArray} {maxL mc ms nA index : Nat} {ret2 : Option FieldType} {ws : List Cond} {rm : Room} {Qf : (Nat → Prop) → Array Value → State → Outcome → State → Prop} {st0 : List Value} {As : List Value} (hM : TT l V y ws rm n ad el (As) Qf mc ms) (cw : CallB R s args own index y bytes maxL ret2 ws rm mc ms nA ∧ (Cond.static y).before args s = true) (hn : As.length = nA) (hst : st0 = As.reverse ++ st) (hw : (st.map fun v => v.category).sum ≤ 8) (hdg : decode cc pc = .ok (.invokestatic index, 3)) (hf : cells + mc ≤ R.cells ∧ slots + ms ≤ R.slots) : ∀ (H : Heap) (locs : List Loc) (ls : Array Slot), va_P V.1 vwCl (wld n ad el) H → va_D A (wld n ad el) → va_S A s.heap H locs → lv_has ls nL lv → va_Run p l e R s m args below meth c H locs cells slots mc ms (F0 m pc ls st0) st (Qf (AA n ad H.size) (As).toArray) (AA n ad H.size) :=
  fun H locs ls hP hD hS hl => va_runS ⟨C.x, C.b, C.ml, C.ow, C.ts⟩ (hM H.size) cw ⟨PC.blind, fun U hU hW => PC.of C hP hD hS U hU hW⟩ rfl hn hl.1 hst (lv_room hw) hdg hf
theorem r_I (C : CX V A own cc nL ret Ts p s m args meth c) {y : MethodName} {bytes : ByteArray} {maxL mc ms nA index : Nat} {ws : List Cond} {rm : Room} {Qf : (Nat → Prop) → Array Value → State → Outcome → State → Prop} {st0 : List Value} {a : Nat} {As : List Value} (hM : TT l V y ws rm n ad el (.ref a :: As) Qf mc ms) (cw : CallB R s args own index y bytes maxL none ws rm mc ms nA ∧ y.name = "<init>" ∧ (Cond.instanceMethod y).before args s = true) (hn : As.length = nA) (hst : st0 = As.reverse ++ .ref a :: st) (hw : (st.map fun v => v.category).sum ≤ 8) (hdg : decode cc pc = .ok (.invokespecial index, 3)) (hf : cells + mc ≤ R.cells ∧ slots + ms ≤ R.slots) : ∀ (H : Heap) (locs : List Loc) (ls : Array Slot), va_P V.1 vwCl (wld n ad el) H → va_D A (wld n ad el) → va_S A s.heap H locs → lv_has ls nL lv → va_Run p l e R s m args below meth c H locs cells slots mc ms (F0 m pc ls st0) st (Qf (AA n ad H.size) (.ref a :: As).toArray) (AA n ad H.size) :=
  fun H locs ls hP hD hS hl => va_runI ⟨C.x, C.b, C.ml, C.ow, C.ts⟩ (hM H.size) cw ⟨PC.blind, fun U hU hW => PC.of C hP hD hS U hU hW⟩ rfl hn hl.1 hst (lv_room hw) hdg hf
theorem r_IN (C : CX V A own cc nL ret Ts p s m args meth c) {y : MethodName} {bytes : ByteArray} {maxL mc ms nA index : Nat} {ws : List Cond} {rm : Room} {Qf : (Nat → Prop) → Array Value → State → Outcome → State → Prop} {st0 : List Value} {host : String} {a : Nat} {As : List Value} (hM : TT l V y ws rm n ad el (.ref a :: As) Qf mc ms) (cw : va_CN R s args own index y host bytes maxL none ws rm mc ms nA ∧ y.name = "<init>" ∧ (Cond.instanceMethod y).before args s = true) (hn : As.length = nA) (hst : st0 = As.reverse ++ .ref a :: st) (hw : (st.map fun v => v.category).sum ≤ 8) (hdg : decode cc pc = .ok (.invokespecial index, 3)) (hf : cells + mc ≤ R.cells ∧ slots + ms ≤ R.slots) : ∀ (H : Heap) (locs : List Loc) (ls : Array Slot), va_P V.1 vwCl (wld n ad el) H → va_D A (wld n ad el) → va_S A s.heap H locs → lv_has ls nL lv → va_Run p l e R s m args below meth c H locs cells slots mc ms (F0 m pc ls st0) st (Qf (AA n ad H.size) (.ref a :: As).toArray) (AA n ad H.size) :=
  fun H locs ls hP hD hS hl => va_runIN ⟨C.x, C.b, C.ml, C.ow, C.ts⟩ (hM H.size) cw ⟨PC.blind, fun U hU hW => PC.of C hP hD hS U hU hW⟩ rfl hn hl.1 hst (lv_room hw) hdg hf
theorem r_SN (C : CX V A own cc nL ret Ts p s m args meth c) {y : MethodName} {bytes : ByteArray} {maxL mc ms nA index : Nat} {ret2 : Option FieldType} {ws : List Cond} {rm : Room} {Qf : (Nat → Prop) → Array Value → State → Outcome → State → Prop} {st0 : List Value} {host : String} {As : List Value} (hM : TT l V y ws rm n ad el (As) Qf mc ms) (cw : va_CN R s args own index y host bytes maxL ret2 ws rm mc ms nA ∧ (Cond.static y).before args s = true ∧ True) (hn : As.length = nA) (hst : st0 = As.reverse ++ st) (hw : (st.map fun v => v.category).sum ≤ 8) (hdg : decode cc pc = .ok (.invokestatic index, 3)) (hf : cells + mc ≤ R.cells ∧ slots + ms ≤ R.slots) : ∀ (H : Heap) (locs : List Loc) (ls : Array Slot), va_P V.1 vwCl (wld n ad el) H → va_D A (wld n ad el) → va_S A s.heap H locs → lv_has ls nL lv → va_Run p l e R s m args below meth c H locs cells slots mc ms (F0 m pc ls st0) st (Qf (AA n ad H.size) (As).toArray) (AA n ad H.size) :=
  fun H locs ls hP hD hS hl => va_runSN ⟨C.x, C.b, C.ml, C.ow, C.ts⟩ (hM H.size) cw ⟨PC.blind, fun U hU hW => PC.of C hP hD hS U hU hW⟩ rfl hn hl.1 hst (lv_room hw) hdg hf
theorem r_xV (C : CX V A own cc nL ret Ts p s m args meth c) {y : MethodName} {bytes : ByteArray} {maxL mc ms nA index : Nat} {ret2 : Option FieldType} {ws : List Cond} {rm : Room} {Qf : (Nat → Prop) → Array Value → State → Outcome → State → Prop} {st0 : List Value} {px : String → Prop} {Cn : String} {As : List Value} {k : Nat} (hM : TX l V y ws rm n ad el (.ref (ad k) :: As) Qf px mc ms) (cw : CallW R s args own Cn index y bytes maxL ret2 ws rm mc ms nA) (hk : k < n) {ci : Nat} {fs : List Value} {T : u_T} {NN : Nat} (he : el k = .inr (ci, fs)) (hc : vwCl[ci]? = some (Cn, T, NN)) (hn : As.length = nA) (hst : st0 = As.reverse ++ .ref (ad k) :: st) (hw : (st.map fun v => v.category).sum ≤ 8) (hdg : decode cc pc = .ok (.invokevirtual index, 3)) (hf : cells + mc ≤ R.cells ∧ slots + ms ≤ R.slots) : ∀ (H : Heap) (locs : List Loc) (ls : Array Slot), va_P V.1 vwCl (wld n ad el) H → va_D A (wld n ad el) → va_S A s.heap H locs → lv_has ls nL lv → vx_Run p l e R s m args below meth c H locs cells slots mc ms (F0 m pc ls st0) st (Qf (AA n ad H.size) (.ref (ad k) :: As).toArray) (XF V n ad el px (AA n ad H.size)) (AA n ad H.size) :=
  fun H locs ls hP hD hS hl => vx_runV ⟨C.x, C.b, C.ml, C.ow, C.ts⟩ (hM H.size) cw ⟨PC.blind, va_recv C.k hP hc (wld_at hk he), fun U hU hW => PC.of C hP hD hS U hU hW⟩ rfl hn hl.1 hst (lv_room hw) hdg hf
theorem r_xS (C : CX V A own cc nL ret Ts p s m args meth c) {y : MethodName} {bytes : ByteArray} {maxL mc ms nA index : Nat} {ret2 : Option FieldType} {ws : List Cond} {rm : Room} {Qf : (Nat → Prop) → Array Value → State → Outcome → State → Prop} {st0 : List Value} {px : String → Prop} {As : List Value} (hM : TX l V y ws rm n ad el (As) Qf px mc ms) (cw : CallB R s args own index y bytes maxL ret2 ws rm mc ms nA ∧ (Cond.static y).before args s = true) (hn : As.length = nA) (hst : st0 = As.reverse ++ st) (hw : (st.map fun v => v.category).sum ≤ 8) (hdg : decode cc pc = .ok (.invokestatic index, 3)) (hf : cells + mc ≤ R.cells ∧ slots + ms ≤ R.slots) : ∀ (H : Heap) (locs : List Loc) (ls : Array Slot), va_P V.1 vwCl (wld n ad el) H → va_D A (wld n ad el) → va_S A s.heap H locs → lv_has ls nL lv → vx_Run p l e R s m args below meth c H locs cells slots mc ms (F0 m pc ls st0) st (Qf (AA n ad H.size) (As).toArray) (XF V n ad el px (AA n ad H.size)) (AA n ad H.size) :=
  fun H locs ls hP hD hS hl => vx_runS ⟨C.x, C.b, C.ml, C.ow, C.ts⟩ (hM H.size) cw ⟨PC.blind, fun U hU hW => PC.of C hP hD hS U hU hW⟩ rfl hn hl.1 hst (lv_room hw) hdg hf
theorem g_out {mc ms : Nat} {Qc : Array Value → State → Outcome → State → Prop} {px : String → Prop} {E : String} (C : CX V A own cc nL ret Ts p s m args meth c) (ht : ∀ x ∈ c.exceptionTable.toList, False) (hx : px E) (hc : cells ≤ mc) (hs : slots ≤ ms) :
    GX p l e R s m args below meth c V A nL (vx_MQ below Qc (XF V n ad el px A) args s mc ms A) n ad el cells slots pc lv st E :=
  fun H locs ls q ce hP hD hS hl h1 h2 h3 => vx_out (fun x hx => (ht x hx).elim) C.lk h1 h2 h3 (fun t hT _ => ⟨(), trivial, ⟨hx, by rw [hT]; exact hP⟩, hS.F hT⟩) hS.2.2 hc hs
theorem g_throwS {mc ms : Nat} {Qc : Array Value → State → Outcome → State → Prop} {px : String → Prop} {cls text : String} {ik is ic : Nat} (hlt : l.stackTraces = false) (C : CX V A own cc nL ret Ts p s m args meth c) (ht : ∀ x ∈ c.exceptionTable.toList, False) (hcls : Bundle.fit cls = true) (hk : Cond.classLink own ik cls ∈ Ts) (hini : Cond.initialized cls ∈ Ts) (hstr : (own, is, text) ∈ g_str)
    (hat : ∀ w ∈ vx_atS own ic cls ["java/lang/RuntimeException", "java/lang/Exception"], w ∈ Ts ∨ w ∈ g_nw) (hgood : ∀ w ∈ Cond.classLink own ik cls :: Cond.initialized cls :: vx_atS own ic cls ["java/lang/RuntimeException", "java/lang/Exception"], vx_ot w = true)
    (d0 : decode cc pc = .ok (.new ik, 3)) (d3 : decode cc (pc + 3) = .ok (.dup, 1)) (d4 : decode cc (pc + 4) = .ok (.ldc is, 2)) (d6 : decode cc (pc + 6) = .ok (.invokespecial ic, 3)) (d9 : decode cc (pc + 9) = .ok (.athrow, 1))
    (hRf : 5 < R.frames) (hRl : (st.map fun v => v.category).sum + 82 ≤ R.locals) (hRc : cells + 1 ≤ R.cells) (hRs : slots + 6 ≤ R.slots) (hx : px cls) (hc : cells + 1 ≤ mc) (hs : slots + 6 ≤ ms) :
    GW p l e R s m args below meth c V A nL (vx_MQ below Qc (XF V n ad el px A) args s mc ms A) n ad el cells slots pc lv st := by
  intro H locs ls hP hD hS hl
  obtain ⟨sa, hsa⟩ := C.kx.2.2.2.2.1 _ hstr
  refine vx_throwS C.x C.b hlt C.ow hcls (by decide +kernel) (C.ts _ hk) (C.ts _ hini) hsa (fun w hw => (hat w hw).elim (fun h => C.ts w h) (fun h => ?_)) hgood C.kx.2.1 C.kx.2.2.1 hS (hl.1.trans C.ml.symm) d0 d3 d4 d6 d9 (fun x hx => (ht x hx).elim) hRf hRl hRc hRs C.lk (fun t _ hz hq => ?_) hS.2.2 hc hs
  · refine va_Nw.use ?_ (C.kx.2.2.2.1 w h)
    have h2 := g_nw_ok w h
    cases w <;> first | rfl | (exact absurd h2 (by simp [g_nwo]))
  · refine ⟨(), trivial, ⟨hx, hP.kept (fun k q hk => hq q.1 (hP k q hk).lt)⟩, Nat.le_trans hS.1 hz, fun q h1 h2 => ?_⟩
    rw [hq q (Nat.lt_of_lt_of_le h1 hS.1)]
    exact hS.2.1 q h1 h2
end GL
end
section
/-! ===== loops of the layer; pure words: what the class and the reference compute ===== -/
section GF
variable {p : Program} {l : Launch} {e : Env} {R : Room} {s : State} {m : MethodId} {args : Array Value} {below : List Frame} {meth : Method} {c : Code} {V : gT} {A : Nat → Prop} {nL : Nat} {Q : State → Prop} {n : Nat} {ad : Nat → Nat} {el : Nat → va_E} {cells slots pc : Nat} {lv : List (Nat × Value)} {st : List Value}
theorem g_down (P : Nat → Prop) (N : Nat) (hx : P N) (hs : ∀ i, i < N → P (i + 1) → P i) : ∀ i, i ≤ N → P i := by
  have key : ∀ k i, i + k = N → P i := by
    intro k
    induction k with
    | zero => intro i h; rw [show i = N by omega]; exact hx
    | succ k ih => intro i h; exact hs i (by omega) (ih (i + 1) (by omega))
  exact fun i h => key (N - i) i (by omega)
theorem g_for (N : Nat) (lvf : Nat → List (Nat × Value)) (hx : GW p l e R s m args below meth c V A nL Q n ad el cells slots pc (lvf N) st) (hs : ∀ i, i < N → GW p l e R s m args below meth c V A nL Q n ad el cells slots pc (lvf (i + 1)) st → GW p l e R s m args below meth c V A nL Q n ad el cells slots pc (lvf i) st) : GW p l e R s m args below meth c V A nL Q n ad el cells slots pc (lvf 0) st :=
  g_down (fun i => GW p l e R s m args below meth c V A nL Q n ad el cells slots pc (lvf i) st) N hx hs 0 (Nat.zero_le _)
/-- a loop that writes: the cells el vary, I holds of them -/
theorem g_forE (N : Nat) (lvf : Nat → List (Nat × Value)) (I : Nat → (Nat → va_E) → Prop) (h0 : I 0 el) (hx : ∀ el1, I N el1 → GW p l e R s m args below meth c V A nL Q n ad el1 cells slots pc (lvf N) st) (hs : ∀ i el1, i < N → I i el1 → (∀ el2, I (i + 1) el2 → GW p l e R s m args below meth c V A nL Q n ad el2 cells slots pc (lvf (i + 1)) st) → GW p l e R s m args below meth c V A nL Q n ad el1 cells slots pc (lvf i) st) : GW p l e R s m args below meth c V A nL Q n ad el cells slots pc (lvf 0) st :=
  g_down (fun i => ∀ el1, I i el1 → GW p l e R s m args below meth c V A nL Q n ad el1 cells slots pc (lvf i) st) N hx (fun i hi ih el1 h1 => hs i el1 hi h1 ih) 0 (Nat.zero_le _) el h0
/-- .. and locals that depend on more than the counter -/
theorem g_forS {σ : Type} (N : Nat) (lvf : Nat → σ → List (Nat × Value)) (elf : σ → Nat → va_E) (I : Nat → σ → Prop) (s0 : σ) (h0 : I 0 s0) (hx : ∀ s1, I N s1 → GW p l e R s m args below meth c V A nL Q n ad (elf s1) cells slots pc (lvf N s1) st) (hs : ∀ i s1, i < N → I i s1 → (∀ s2, I (i + 1) s2 → GW p l e R s m args below meth c V A nL Q n ad (elf s2) cells slots pc (lvf (i + 1) s2) st) → GW p l e R s m args below meth c V A nL Q n ad (elf s1) cells slots pc (lvf i s1) st) : GW p l e R s m args below meth c V A nL Q n ad (elf s0) cells slots pc (lvf 0 s0) st :=
  g_down (fun i => ∀ s1, I i s1 → GW p l e R s m args below meth c V A nL Q n ad (elf s1) cells slots pc (lvf i s1) st) N hx (fun i hi ih s1 h1 => hs i s1 hi h1 ih) 0 (Nat.zero_le _) s0 h0
/-- a cut: several ways come to pcJ -/
theorem g_via {β : Type} (φ : β → Prop) (pcJ : Nat) (lvJ : β → List (Nat × Value)) (stJ : β → List Value) (hJ : ∀ v, φ v → GW p l e R s m args below meth c V A nL Q n ad el cells slots pcJ (lvJ v) (stJ v)) (h : (∀ v, φ v → GW p l e R s m args below meth c V A nL Q n ad el cells slots pcJ (lvJ v) (stJ v)) → GW p l e R s m args below meth c V A nL Q n ad el cells slots pc lv st) : GW p l e R s m args below meth c V A nL Q n ad el cells slots pc lv st := h hJ
theorem g_lveq {lv' : List (Nat × Value)} (h : lv = lv') (kk : GW p l e R s m args below meth c V A nL Q n ad el cells slots pc lv' st) : GW p l e R s m args below meth c V A nL Q n ad el cells slots pc lv st := h ▸ kk
theorem g_steq {st' : List Value} (h : st = st') (kk : GW p l e R s m args below meth c V A nL Q n ad el cells slots pc lv st') : GW p l e R s m args below meth c V A nL Q n ad el cells slots pc lv st := h ▸ kk
/-- a loop that makes cells -/
theorem g_forN (N : Nat) (nf cf sf : Nat → Nat) (lvf : Nat → (Nat → Nat) → List (Nat × Value)) (I : Nat → (Nat → Nat) → (Nat → va_E) → Prop) (h0 : I 0 ad el) (hx : ∀ ad1 el1, I N ad1 el1 → GW p l e R s m args below meth c V A nL Q (nf N) ad1 el1 (cf N) (sf N) pc (lvf N ad1) st) (hs : ∀ i ad1 el1, i < N → I i ad1 el1 → (∀ ad2 el2, I (i + 1) ad2 el2 → GW p l e R s m args below meth c V A nL Q (nf (i + 1)) ad2 el2 (cf (i + 1)) (sf (i + 1)) pc (lvf (i + 1) ad2) st) → GW p l e R s m args below meth c V A nL Q (nf i) ad1 el1 (cf i) (sf i) pc (lvf i ad1) st) : GW p l e R s m args below meth c V A nL Q (nf 0) ad el (cf 0) (sf 0) pc (lvf 0 ad) st :=
  g_down (fun i => ∀ ad1 el1, I i ad1 el1 → GW p l e R s m args below meth c V A nL Q (nf i) ad1 el1 (cf i) (sf i) pc (lvf i ad1) st) N hx (fun i hi ih ad1 el1 h1 => hs i ad1 el1 hi h1 ih) 0 (Nat.zero_le _) ad el h0
end GF
theorem i_lt (a b : Int32) : a < b ↔ a.toInt < b.toInt := Int32.lt_iff_toInt_lt
theorem i_le (a b : Int32) : a ≤ b ↔ a.toInt ≤ b.toInt := Int32.le_iff_toInt_le
theorem i_nle {a b : Int32} (h : b < a) : ¬ a ≤ b := by rw [i_lt] at h; rw [i_le]; omega
theorem i_nlt {a b : Int32} (h : b ≤ a) : ¬ a < b := by rw [i_le] at h; rw [i_lt]; omega
theorem i_ge {a b : Int32} (h : ¬ a < b) : b ≤ a := by rw [i_lt] at h; rw [i_le]; omega
theorem i_gt {a b : Int32} (h : ¬ a ≤ b) : b < a := by rw [i_le] at h; rw [i_lt]; omega
/-- a sum of ints -/
def s_sum (g : Nat → Int32) : Nat → Int32
  | 0 => 0
  | k + 1 => s_sum g k + g k
theorem s_sum_congr {g h : Nat → Int32} {N : Nat} (e : ∀ j, j < N → g j = h j) : s_sum g N = s_sum h N := by
  induction N with
  | zero => rfl
  | succ k ih => rw [s_sum, s_sum, ih (fun j hj => e j (by omega)), e k (by omega)]
theorem s_sum_t {g : Nat → Int32} {k : Nat} {x : Int32} (h : g k = x) : s_sum g (k + 1) = s_sum g k + x := by rw [s_sum, h]
theorem s_sum_f {g : Nat → Int32} {k : Nat} (h : g k = 0) : s_sum g (k + 1) = s_sum g k := by rw [s_sum, h, Int32.add_zero]
-- pins
def s_strike (st we : Int32) : Int32 := if we ≤ st then we + 1 else we
def s_pin (st we what : Int32) : Int32 := if what = 0 then st else if what = 1 then we else if what = 2 then (if we ≤ st then 1 else 0) else (if we ≤ st then st - we + 1 else 0)
-- stamps of a sheet: f their faults, t whether torn off (not 0)
def s_worth (f t : Int32) : Int32 := if t = 0 ∧ f &&& 7 = 0 then (1 + (if f &&& 8 = 0 then 0 else 20)) + (if f &&& 16 = 0 then 0 else 4) else 0
def s_lw (f t x : Int32) : Int32 := if t = 0 ∧ f = x then 1 else 0
def s_pr (f t f1 t1 : Int32) : Int32 := if t = 0 ∧ t1 = 0 ∧ ¬ ((f ^^^ f1) &&& 8 = 0) then 1 else 0
def s_left (t : Nat → Int32) : Int32 := s_sum (fun j => if t j = 0 then 1 else 0) 30
def s_leftWith (f t : Nat → Int32) (x : Int32) : Int32 := s_sum (fun j => s_lw (f j) (t j) x) 30
def s_worths (f t : Nat → Int32) : Int32 := s_sum (fun j => s_worth (f j) (t j)) 30
/-- .. that goes on from a -/
def s_acc (g : Nat → Int32) (a : Int32) : Nat → Int32
  | 0 => a
  | k + 1 => s_acc g a k + g k
def s_prs (f t : Nat → Int32) : Nat → Int32
  | 0 => 0
  | r + 1 => s_acc (fun c => s_pr (f (6 * r + c)) (t (6 * r + c)) (f (6 * r + c + 1)) (t (6 * r + c + 1))) (s_prs f t r) 5
def s_pairs (f t : Nat → Int32) : Int32 := s_prs f t 5
def s_off (f : Nat → Int32) : Int32 := s_sum (fun r => if f (6 * r) &&& 1 = 0 then 0 else 1) 5
/-- the columns of a row that are good, as bits -/
def s_good (f t : Nat → Int32) (r : Nat) : Nat → Int32
  | 0 => 0
  | c + 1 => if t (6 * r + c) = 0 ∧ f (6 * r + c) = 0 then s_good f t r c ||| ((1 : Int32) <<< (nI c &&& 31)) else s_good f t r c
def s_max (x y : Int32) : Int32 := if x < y then y else x
def s_min (x y : Int32) : Int32 := if y < x then y else x
/-- the run of set bits that ends ahead of bit c; the longest so far -/
def s_run (b : Int32) : Nat → Int32
  | 0 => 0
  | c + 1 => if b &&& ((1 : Int32) <<< (nI c &&& 31)) = 0 then 0 else s_run b c + 1
def s_longest (b : Int32) : Nat → Int32
  | 0 => 0
  | c + 1 => s_max (s_longest b c) (s_run b (c + 1))
/-- from the row top down k rows: the columns that are good in all of them -/
def s_cols (f t : Nat → Int32) (top : Nat) : Nat → Int32
  | 0 => s_good f t top 6
  | k + 1 => s_cols f t top k &&& s_good f t (top + k) 6
def s_down (f t : Nat → Int32) (top : Nat) (g0 : Int32) : Nat → Int32
  | 0 => g0
  | k + 1 => s_max (s_down f t top g0 k) ((nI (k + 1)) * s_longest (s_cols f t top (k + 1)) 6)
def s_blk (f t : Nat → Int32) : Nat → Int32
  | 0 => 0
  | k + 1 => s_down f t k (s_blk f t k) (5 - k)
def s_block (f t : Nat → Int32) : Int32 := s_blk f t 5
def s_sheet (f t : Nat → Int32) (what : Int32) : Int32 := if what = 0 then s_left t else if what = 1 then s_leftWith f t 0 else if what = 2 then s_worths f t else if what = 3 then s_pairs f t else if what = 4 then s_off f else s_block f t
/-- digests: d * 31 + x, x = g 0 .. g (N - 1) -/
def s_dig (g : Nat → Int32) (d : Int64) : Nat → Int64
  | 0 => d
  | k + 1 => s_dig g d k * 31 + (g k).toInt64
/-- .. two numbers a step -/
def s_dig2 (g h : Nat → Int32) (d : Int64) : Nat → Int64
  | 0 => d
  | k + 1 => (s_dig2 g h d k * 31 + (g k).toInt64) * 31 + (h k).toInt64
def s_digS (f t : Nat → Int32) (d : Int64) : Int64 := s_dig2 f (fun j => s_worth (f j) (t j)) (s_dig (fun w => s_sheet f t (nI w)) d 6) 30
theorem s_acc_t {g : Nat → Int32} {a : Int32} {k : Nat} {x : Int32} (h : g k = x) : s_acc g a (k + 1) = s_acc g a k + x := by rw [s_acc, h]
theorem s_acc_f {g : Nat → Int32} {a : Int32} {k : Nat} (h : g k = 0) : s_acc g a (k + 1) = s_acc g a k := by rw [s_acc, h, Int32.add_zero]
theorem s_lw_1 {f t x : Int32} (h : ¬ s_lw f t x = 0) : t = 0 ∧ f = x := by
  by_cases q : t = 0 ∧ f = x
  · exact q
  · rw [s_lw, if_neg q] at h; exact absurd rfl h
theorem s_lw_0 {f t x : Int32} (h : s_lw f t x = 0) : ¬ (t = 0 ∧ f = x) := by
  intro q
  rw [s_lw, if_pos q] at h
  exact absurd h (by decide)
theorem s_lw_t {f t x : Int32} (h : ¬ s_lw f t x = 0) : s_lw f t x = 1 := by rw [s_lw, if_pos (s_lw_1 h)]
theorem s_pr_t {f t f1 t1 : Int32} (h : ¬ s_pr f t f1 t1 = 0) : s_pr f t f1 t1 = 1 := by
  by_cases q : t = 0 ∧ t1 = 0 ∧ ¬ ((f ^^^ f1) &&& 8 = 0)
  · rw [s_pr, if_pos q]
  · rw [s_pr, if_neg q] at h; exact absurd rfl h
end
section
/-! ===== the pins and the sheets of the class ===== -/
set_option maxHeartbeats 4000000 in
set_option maxRecDepth 100000 in
theorem c_X1_isWhole (l : Launch) (V : gT) {n : Nat} {ad : Nat → Nat} {el : Nat → va_E} {k : Nat} {st we : Int32} (hk : k < n) (he : el k = .inr (1, [.int st, .int we])) : TT l V yX1_isWhole wsX1_isWhole { frames := 0, cells := 0, slots := 0, locals := 0 } n ad el [.ref (ad k)] (QIr V n ad el (fun r => r = if we ≤ st then 1 else 0)) 0 0 := by
  refine TT.body (cc := cX1_isWhole) (maxL := 1) (ret := (some .boolean)) (by decide) rfl (Nat.le_of_ble_eq_true rfl) ?_
  intro p e s m below meth c C hnm
  refine g_lv [0] (lv' := [(0, .ref (ad k))]) rfl ?_
  refine g_aload_n C 0 rfl dX1_isWhole_0 ?_
  refine g_getf C k (by omega) he rfl 1 (by decide) (fun w h => (List.mem_cons_of_mem _ (List.mem_append_right _ h))) (List.mem_of_getElem? (i := 1) rfl) rfl rfl dX1_isWhole_1 ?_
  refine g_aload_n C 0 rfl dX1_isWhole_4 ?_
  refine g_getf C k (by omega) he rfl 0 (by decide) (fun w h => (List.mem_cons_of_mem _ (List.mem_append_right _ h))) (List.mem_of_getElem? (i := 2) rfl) rfl rfl dX1_isWhole_5 ?_
  refine g_icmp_gt C (tgt := 15) dX1_isWhole_8 (by decide) (fun c8 => ?_) (fun c8 => ?_)
  · -- 15
    refine g_iconst C (v := nI 0) dX1_isWhole_15 (by decide) ?_
    exact g_zret C rfl rfl dX1_isWhole_16 () rfl rfl rfl (if_neg (i_nle c8)).symm (Nat.le_of_ble_eq_true rfl) (Nat.le_of_ble_eq_true rfl)
  · -- 11
    refine g_iconst C (v := nI 1) dX1_isWhole_11 (by decide) ?_
    refine g_goto C (tgt := 16) dX1_isWhole_12 (by decide) ?_
    exact g_zret C rfl rfl dX1_isWhole_16 () rfl rfl rfl (if_pos (i_ge c8)).symm (Nat.le_of_ble_eq_true rfl) (Nat.le_of_ble_eq_true rfl)

set_option maxHeartbeats 4000000 in
set_option maxRecDepth 100000 in
theorem c_X1_strike (l : Launch) (V : gT) {n : Nat} {ad : Nat → Nat} {el : Nat → va_E} {k : Nat} {st we : Int32} (hk : k < n) (he : el k = .inr (1, [.int st, .int we])) : TT l V yX1_strike wsX1_strike { frames := 1, cells := 0, slots := 0, locals := 20 } n ad el [.ref (ad k)] (QVw V n ad (fun u => u k = .inr (1, [.int st, .int (s_strike st we)]) ∧ ∀ j, j ≠ k → u j = el j)) 0 0 := by
  refine TT.body (cc := cX1_strike) (maxL := 1) (ret := none) (by decide) rfl (Nat.le_of_ble_eq_true rfl) ?_
  intro p e s m below meth c C hnm
  refine g_lv [0] (lv' := [(0, .ref (ad k))]) rfl ?_
  refine g_aload_n C 0 rfl dX1_strike_0 ?_
  refine g_calli C (r_V C (st := []) (c_X1_isWhole l V (by omega) he) (cwV 0 C.ts gX1_strike_X1_isWhole rfl rfl rfl (by decide +kernel) ⟨(Nat.le_of_ble_eq_true rfl), (Nat.le_of_ble_eq_true rfl)⟩) (by omega) he rfl rfl rfl (Nat.le_of_ble_eq_true rfl) dX1_strike_1 ⟨(Nat.le_of_ble_eq_true rfl), (Nat.le_of_ble_eq_true rfl)⟩) (fun r u hu => ?_)
  subst hu
  refine g_if_eq C (tgt := 17) dX1_strike_4 (by decide) (fun c4 => ?_) (fun c4 => ?_)
  · -- 17
    exact g_vret C rfl dX1_strike_17 el rfl rfl rfl ⟨by rw [he, s_strike, if_neg (fun z => by rw [if_pos z] at c4; exact absurd c4 (by decide))], fun j _ => rfl⟩ (Nat.le_of_ble_eq_true rfl) (Nat.le_of_ble_eq_true rfl)
  · -- 7
    refine g_aload_n C 0 rfl dX1_strike_7 ?_
    refine g_dup C dX1_strike_8 rfl ?_
    refine g_getf C k (by omega) he rfl 1 (by decide) (fun w h => (List.mem_cons_of_mem _ (List.mem_append_right _ h))) (List.mem_of_getElem? (i := 1) rfl) rfl rfl dX1_strike_9 ?_
    refine g_iconst C (v := nI 1) dX1_strike_12 (by decide) ?_
    refine g_iadd C (v := we + 1) dX1_strike_13 rfl ?_
    refine g_putf C k (by omega) he rfl 1 (by decide) (fun w h => (List.mem_cons_of_mem _ (List.mem_append_right _ h))) tyX1 tyX1_ok nmX1 (List.mem_of_getElem? (i := 1) rfl) rfl rfl rfl rfl (Nat.le_of_ble_eq_true rfl) dX1_strike_14 (fun el1 e2 o3 => ?_)
    replace e2 : el1 k = .inr (1, [.int st, .int (we + 1)]) := e2
    exact g_vret C rfl dX1_strike_17 el1 rfl rfl rfl ⟨by rw [e2, s_strike, if_pos (Classical.byContradiction (fun z => c4 (if_neg z)))] <;> rfl, o3⟩ (Nat.le_of_ble_eq_true rfl) (Nat.le_of_ble_eq_true rfl)

set_option maxHeartbeats 4000000 in
set_option maxRecDepth 100000 in
theorem c_X1_becomeLike (l : Launch) (V : gT) {n : Nat} {ad : Nat → Nat} {el : Nat → va_E} {k k2 : Nat} {st we st2 we2 : Int32} (hk : k < n) (hk2 : k2 < n) (hkk : k ≠ k2) (he : el k = .inr (1, [.int st, .int we])) (he2 : el k2 = .inr (1, [.int st2, .int we2])) : TT l V yX1_becomeLike wsX1_becomeLike { frames := 0, cells := 0, slots := 0, locals := 0 } n ad el [.ref (ad k), .ref (ad k2)] (QVw V n ad (fun u => u k = .inr (1, [.int st2, .int we2]) ∧ ∀ j, j ≠ k → u j = el j)) 0 0 := by
  refine TT.body (cc := cX1_becomeLike) (maxL := 2) (ret := none) (by decide) rfl (Nat.le_of_ble_eq_true rfl) ?_
  intro p e s m below meth c C hnm
  refine g_lv [0, 1] (lv' := [(0, .ref (ad k)), (1, .ref (ad k2))]) rfl ?_
  refine g_aload_n C 0 rfl dX1_becomeLike_0 ?_
  refine g_aload_n C 1 rfl dX1_becomeLike_1 ?_
  refine g_getf C k2 (by omega) he2 rfl 0 (by decide) (fun w h => (List.mem_cons_of_mem _ (List.mem_append_right _ h))) (List.mem_of_getElem? (i := 1) rfl) rfl rfl dX1_becomeLike_2 ?_
  refine g_putf C k (by omega) he rfl 0 (by decide) (fun w h => (List.mem_cons_of_mem _ (List.mem_append_right _ h))) tyX1 tyX1_ok nmX1 (List.mem_of_getElem? (i := 1) rfl) rfl rfl rfl rfl (Nat.le_of_ble_eq_true rfl) dX1_becomeLike_5 (fun el1 e2 o3 => ?_)
  replace e2 : el1 k = .inr (1, [.int st2, .int we]) := e2
  have m4 := (o3 k2 (by omega)).trans he2
  refine g_aload_n C 0 rfl dX1_becomeLike_8 ?_
  refine g_aload_n C 1 rfl dX1_becomeLike_9 ?_
  refine g_getf C k2 (by omega) m4 rfl 1 (by decide) (fun w h => (List.mem_cons_of_mem _ (List.mem_append_right _ h))) (List.mem_of_getElem? (i := 2) rfl) rfl rfl dX1_becomeLike_10 ?_
  refine g_putf C k (by omega) e2 rfl 1 (by decide) (fun w h => (List.mem_cons_of_mem _ (List.mem_append_right _ h))) tyX1 tyX1_ok nmX1 (List.mem_of_getElem? (i := 2) rfl) rfl rfl rfl rfl (Nat.le_of_ble_eq_true rfl) dX1_becomeLike_13 (fun el5 e6 o7 => ?_)
  replace e6 : el5 k = .inr (1, [.int st2, .int we2]) := e6
  have m8 := (o7 k2 (by omega)).trans m4
  exact g_vret C rfl dX1_becomeLike_16 el5 rfl rfl rfl ⟨e6, fun j hj => (o7 j hj).trans (o3 j hj)⟩ (Nat.le_of_ble_eq_true rfl) (Nat.le_of_ble_eq_true rfl)

set_option maxHeartbeats 4000000 in
set_option maxRecDepth 100000 in
theorem c_X1_answer (l : Launch) (V : gT) {n : Nat} {ad : Nat → Nat} {el : Nat → va_E} {k : Nat} {st we : Int32} (x : Int32) (hk : k < n) (he : el k = .inr (1, [.int st, .int we])) : TT l V yX1_answer wsX1_answer { frames := 1, cells := 0, slots := 0, locals := 20 } n ad el [.ref (ad k), .int x] (QIr V n ad el (fun r => r = s_pin st we x)) 0 0 := by
  refine TT.body (cc := cX1_answer) (maxL := 2) (ret := (some .int)) (by decide) rfl (Nat.le_of_ble_eq_true rfl) ?_
  intro p e s m below meth c C hnm
  refine g_lv [0, 1] (lv' := [(0, .ref (ad k)), (1, .int x)]) rfl ?_
  refine g_iload_n C 1 rfl dX1_answer_0 ?_
  by_cases q0 : x = 0
  · -- case
    refine g_tableIn C (tgt := 28) (off := 27) dX1_answer_1 (by rw [q0]; decide) (by rw [q0]; decide) (by rw [q0]; rfl) (by decide) ?_
    refine g_aload_n C 0 rfl dX1_answer_28 ?_
    refine g_getf C k (by omega) he rfl 0 (by decide) (fun w h => (List.mem_cons_of_mem _ (List.mem_append_right _ h))) (List.mem_of_getElem? (i := 1) rfl) rfl rfl dX1_answer_29 ?_
    exact g_iret C rfl dX1_answer_32 () rfl rfl rfl (by rw [s_pin, if_pos q0]) (Nat.le_of_ble_eq_true rfl) (Nat.le_of_ble_eq_true rfl)
  by_cases q1 : x = 1
  · -- case
    refine g_tableIn C (tgt := 33) (off := 32) dX1_answer_1 (by rw [q1]; decide) (by rw [q1]; decide) (by rw [q1]; rfl) (by decide) ?_
    refine g_aload_n C 0 rfl dX1_answer_33 ?_
    refine g_getf C k (by omega) he rfl 1 (by decide) (fun w h => (List.mem_cons_of_mem _ (List.mem_append_right _ h))) (List.mem_of_getElem? (i := 2) rfl) rfl rfl dX1_answer_34 ?_
    exact g_iret C rfl dX1_answer_37 () rfl rfl rfl (by rw [s_pin, if_neg q0, if_pos q1]) (Nat.le_of_ble_eq_true rfl) (Nat.le_of_ble_eq_true rfl)
  by_cases q2 : x = 2
  · -- case
    refine g_tableIn C (tgt := 38) (off := 37) dX1_answer_1 (by rw [q2]; decide) (by rw [q2]; decide) (by rw [q2]; rfl) (by decide) ?_
    refine g_aload_n C 0 rfl dX1_answer_38 ?_
    refine g_calli C (r_V C (st := []) (c_X1_isWhole l V (by omega) he) (cwV 0 C.ts gX1_answer_X1_isWhole rfl rfl rfl (by decide +kernel) ⟨(Nat.le_of_ble_eq_true rfl), (Nat.le_of_ble_eq_true rfl)⟩) (by omega) he rfl rfl rfl (Nat.le_of_ble_eq_true rfl) dX1_answer_39 ⟨(Nat.le_of_ble_eq_true rfl), (Nat.le_of_ble_eq_true rfl)⟩) (fun r u hu => ?_)
    subst hu
    refine g_if_eq C (tgt := 49) dX1_answer_42 (by decide) (fun c42 => ?_) (fun c42 => ?_)
    · -- 49
      refine g_iconst C (v := nI 0) dX1_answer_49 (by decide) ?_
      exact g_iret C rfl dX1_answer_50 () rfl rfl rfl (by rw [s_pin, if_neg q0, if_neg q1, if_pos q2, if_neg (fun z => by rw [if_pos z] at c42; exact absurd c42 (by decide))] <;> rfl) (Nat.le_of_ble_eq_true rfl) (Nat.le_of_ble_eq_true rfl)
    · -- 45
      refine g_iconst C (v := nI 1) dX1_answer_45 (by decide) ?_
      refine g_goto C (tgt := 50) dX1_answer_46 (by decide) ?_
      exact g_iret C rfl dX1_answer_50 () rfl rfl rfl (by rw [s_pin, if_neg q0, if_neg q1, if_pos q2, if_pos (Classical.byContradiction (fun z => c42 (if_neg z)))] <;> rfl) (Nat.le_of_ble_eq_true rfl) (Nat.le_of_ble_eq_true rfl)
  have qq : x.toInt < 0 ∨ 2 < x.toInt := by
    have z0 : x.toInt ≠ 0 := fun z => q0 (Int32.toInt_inj.mp z)
    have z1 : x.toInt ≠ 1 := fun z => q1 (Int32.toInt_inj.mp z)
    have z2 : x.toInt ≠ 2 := fun z => q2 (Int32.toInt_inj.mp z)
    omega
  refine g_tableOut C (tgt := 51) dX1_answer_1 qq (by decide) ?_
  refine g_aload_n C 0 rfl dX1_answer_51 ?_
  refine g_calli C (r_V C (st := []) (c_X1_isWhole l V (by omega) he) (cwV 0 C.ts gX1_answer_X1_isWhole rfl rfl rfl (by decide +kernel) ⟨(Nat.le_of_ble_eq_true rfl), (Nat.le_of_ble_eq_true rfl)⟩) (by omega) he rfl rfl rfl (Nat.le_of_ble_eq_true rfl) dX1_answer_52 ⟨(Nat.le_of_ble_eq_true rfl), (Nat.le_of_ble_eq_true rfl)⟩) (fun r u hu => ?_)
  subst hu
  refine g_if_eq C (tgt := 72) dX1_answer_55 (by decide) (fun c55 => ?_) (fun c55 => ?_)
  · -- 72
    refine g_iconst C (v := nI 0) dX1_answer_72 (by decide) ?_
    exact g_iret C rfl dX1_answer_73 () rfl rfl rfl (by rw [s_pin, if_neg q0, if_neg q1, if_neg q2, if_neg (fun z => by rw [if_pos z] at c55; exact absurd c55 (by decide))] <;> rfl) (Nat.le_of_ble_eq_true rfl) (Nat.le_of_ble_eq_true rfl)
  · -- 58
    refine g_aload_n C 0 rfl dX1_answer_58 ?_
    refine g_getf C k (by omega) he rfl 0 (by decide) (fun w h => (List.mem_cons_of_mem _ (List.mem_append_right _ h))) (List.mem_of_getElem? (i := 1) rfl) rfl rfl dX1_answer_59 ?_
    refine g_aload_n C 0 rfl dX1_answer_62 ?_
    refine g_getf C k (by omega) he rfl 1 (by decide) (fun w h => (List.mem_cons_of_mem _ (List.mem_append_right _ h))) (List.mem_of_getElem? (i := 2) rfl) rfl rfl dX1_answer_63 ?_
    refine g_isub C (v := st - we) dX1_answer_66 rfl ?_
    refine g_iconst C (v := nI 1) dX1_answer_67 (by decide) ?_
    refine g_iadd C (v := (st - we) + 1) dX1_answer_68 rfl ?_
    refine g_goto C (tgt := 73) dX1_answer_69 (by decide) ?_
    exact g_iret C rfl dX1_answer_73 () rfl rfl rfl (by rw [s_pin, if_neg q0, if_neg q1, if_neg q2, if_pos (Classical.byContradiction (fun z => c55 (if_neg z)))] <;> rfl) (Nat.le_of_ble_eq_true rfl) (Nat.le_of_ble_eq_true rfl)
end
section
/-! ===== the sheets of the class ===== -/
set_option maxHeartbeats 4000000 in
set_option maxRecDepth 100000 in
theorem c_X2_isLeftWith (l : Launch) (V : gT) {n : Nat} {ad : Nat → Nat} {el : Nat → va_E} {k : Nat} {f t : Nat → Int32} (hk : k + 2 < n) (h0 : el k = .inr (2, [.ref (ad (k + 1)), .ref (ad (k + 2))])) (h1 : el (k + 1) = .inl (V.2 0, 30, .inl f)) (h2 : el (k + 2) = .inl (V.2 1, 30, .inl t)) (i : Nat) (hi : i < 30) (x : Int32) : TT l V yX2_isLeftWith wsX2_isLeftWith { frames := 0, cells := 0, slots := 0, locals := 0 } n ad el [.ref (ad k), .int (nI i), .int x] (QIr V n ad el (fun r => r = s_lw (f i) (t i) x)) 0 0 := by
  refine TT.body (cc := cX2_isLeftWith) (maxL := 3) (ret := (some .boolean)) (by decide) rfl (Nat.le_of_ble_eq_true rfl) ?_
  intro p e s m below meth c C hnm
  refine g_lv [0, 1, 2] (lv' := [(0, .ref (ad k)), (1, .int (nI i)), (2, .int x)]) rfl ?_
  refine g_aload_n C 0 rfl dX2_isLeftWith_0 ?_
  refine g_getf C k (by omega) h0 rfl 1 (by decide) (fun w h => (List.mem_cons_of_mem _ (List.mem_append_right _ h))) (List.mem_of_getElem? (i := 1) rfl) rfl rfl dX2_isLeftWith_1 ?_
  refine g_iload_n C 1 rfl dX2_isLeftWith_4 ?_
  refine g_zald C (k + 2) (by omega) h2 i rfl (by omega) (by decide) dX2_isLeftWith_5 ?_
  refine g_if_ne C (tgt := 23) dX2_isLeftWith_6 (by decide) (fun c6 => ?_) (fun c6 => ?_)
  · -- 23
    refine g_iconst C (v := nI 0) dX2_isLeftWith_23 (by decide) ?_
    exact g_zret C rfl rfl dX2_isLeftWith_24 () rfl rfl rfl (by rw [s_lw, if_neg (fun z => c6 z.1)] <;> rfl) (Nat.le_of_ble_eq_true rfl) (Nat.le_of_ble_eq_true rfl)
  · -- 9
    refine g_aload_n C 0 rfl dX2_isLeftWith_9 ?_
    refine g_getf C k (by omega) h0 rfl 0 (by decide) (fun w h => (List.mem_cons_of_mem _ (List.mem_append_right _ h))) (List.mem_of_getElem? (i := 2) rfl) rfl rfl dX2_isLeftWith_10 ?_
    refine g_iload_n C 1 rfl dX2_isLeftWith_13 ?_
    refine g_iald C (k + 1) (by omega) h1 i rfl (by omega) (by decide) dX2_isLeftWith_14 ?_
    refine g_iload_n C 2 rfl dX2_isLeftWith_15 ?_
    refine g_icmp_ne C (tgt := 23) dX2_isLeftWith_16 (by decide) (fun c16 => ?_) (fun c16 => ?_)
    · -- 23
      refine g_iconst C (v := nI 0) dX2_isLeftWith_23 (by decide) ?_
      exact g_zret C rfl rfl dX2_isLeftWith_24 () rfl rfl rfl (by rw [s_lw, if_neg (fun z => c16 z.2)] <;> rfl) (Nat.le_of_ble_eq_true rfl) (Nat.le_of_ble_eq_true rfl)
    · -- 19
      refine g_iconst C (v := nI 1) dX2_isLeftWith_19 (by decide) ?_
      refine g_goto C (tgt := 24) dX2_isLeftWith_20 (by decide) ?_
      exact g_zret C rfl rfl dX2_isLeftWith_24 () rfl rfl rfl (by rw [s_lw, if_pos ⟨c6, c16⟩] <;> rfl) (Nat.le_of_ble_eq_true rfl) (Nat.le_of_ble_eq_true rfl)

set_option maxHeartbeats 4000000 in
set_option maxRecDepth 100000 in
theorem c_X2_left (l : Launch) (V : gT) {n : Nat} {ad : Nat → Nat} {el : Nat → va_E} {k : Nat} {f t : Nat → Int32} (hk : k + 2 < n) (h0 : el k = .inr (2, [.ref (ad (k + 1)), .ref (ad (k + 2))])) (h1 : el (k + 1) = .inl (V.2 0, 30, .inl f)) (h2 : el (k + 2) = .inl (V.2 1, 30, .inl t)) : TT l V yX2_left wsX2_left { frames := 0, cells := 0, slots := 0, locals := 0 } n ad el [.ref (ad k)] (QIr V n ad el (fun r => r = s_left t)) 0 0 := by
  refine TT.body (cc := cX2_left) (maxL := 3) (ret := (some .int)) (by decide) rfl (Nat.le_of_ble_eq_true rfl) ?_
  intro p e s m below meth c C hnm
  refine g_lv [0] (lv' := [(0, .ref (ad k))]) rfl ?_
  refine g_iconst C (v := nI 0) dX2_left_0 (by decide) ?_
  refine g_istore_n C (lv' := [(1, .int (nI 0)), (0, .ref (ad k))]) dX2_left_1 (by decide) rfl ?_
  refine g_iconst C (v := nI 0) dX2_left_2 (by decide) ?_
  refine g_istore_n C (lv' := [(2, .int (nI 0)), (1, .int (nI 0)), (0, .ref (ad k))]) dX2_left_3 (by decide) rfl ?_
  refine g_lv [0, 1, 2] (lv' := [(2, .int (nI 0)), (1, .int (nI 0)), (0, .ref (ad k))]) rfl ?_
  refine g_for 30 (fun (i : Nat) => [(2, .int (nI i)), (1, .int (s_sum (fun j => if t j = 0 then 1 else 0) i)), (0, .ref (ad k))]) ?_ (fun i hi ih => ?_)
  · -- loop 4: its end
    refine g_iload_n C 0 rfl dX2_left_4 ?_
    refine g_bipush C (v := nI 30) dX2_left_5 (by decide) ?_
    refine g_icmp_ge C (tgt := 28) dX2_left_7 (by decide) (fun c7 => ?_) (fun c7 => ?_)
    · -- 28
      have c7 : 30 ≤ 30 := (nI_leI (by omega) (by omega)).mp c7
      refine g_iload_n C 1 rfl dX2_left_28 ?_
      exact g_iret C rfl dX2_left_29 () rfl rfl rfl rfl (Nat.le_of_ble_eq_true rfl) (Nat.le_of_ble_eq_true rfl)
    · -- 10
      have c7 : 30 < 30 := Nat.lt_of_not_le (fun z => c7 ((nI_leI (by omega) (by omega)).mpr z))
      exact absurd c7 (by omega)
  · -- loop 4: its body
    refine g_iload_n C 0 rfl dX2_left_4 ?_
    refine g_bipush C (v := nI 30) dX2_left_5 (by decide) ?_
    refine g_icmp_ge C (tgt := 28) dX2_left_7 (by decide) (fun c7 => ?_) (fun c7 => ?_)
    · -- 28
      have c7 : 30 ≤ i := (nI_leI (by omega) (by omega)).mp c7
      exact absurd c7 (by omega)
    · -- 10
      have c7 : i < 30 := Nat.lt_of_not_le (fun z => c7 ((nI_leI (by omega) (by omega)).mpr z))
      refine g_aload_n C 2 rfl dX2_left_10 ?_
      refine g_getf C k (by omega) h0 rfl 1 (by decide) (fun w h => (List.mem_cons_of_mem _ (List.mem_append_right _ h))) (List.mem_of_getElem? (i := 1) rfl) rfl rfl dX2_left_11 ?_
      refine g_iload_n C 0 rfl dX2_left_14 ?_
      refine g_zald C (k + 2) (by omega) h2 i rfl (by omega) (by decide) dX2_left_15 ?_
      refine g_if_ne C (tgt := 22) dX2_left_16 (by decide) (fun c16 => ?_) (fun c16 => ?_)
      · -- 22
        refine g_iinc C 0 rfl (v := nI (i + 1)) (lv' := [(2, .int (nI (i + 1))), (1, .int (s_sum (fun j => if t j = 0 then 1 else 0) i)), (0, .ref (ad k))]) dX2_left_22 (nI_add _ _) (by decide) rfl ?_
        refine g_goto C (tgt := 4) dX2_left_25 (by decide) ?_
        refine g_lv [0, 1, 2] (lv' := [(2, .int (nI (i + 1))), (1, .int (s_sum (fun j => if t j = 0 then 1 else 0) i)), (0, .ref (ad k))]) rfl ?_
        have e9 : s_sum (fun j => if t j = 0 then 1 else 0) (i + 1) = s_sum (fun j => if t j = 0 then 1 else 0) i := s_sum_f (if_neg c16)
        refine g_lveq (lv' := [(2, .int (nI (i + 1))), (1, .int (s_sum (fun j => if t j = 0 then 1 else 0) (i + 1))), (0, .ref (ad k))]) (by rw [e9]) ?_
        exact ih
      · -- 19
        refine g_iinc C 1 rfl (v := (s_sum (fun j => if t j = 0 then 1 else 0) i) + 1) (lv' := [(1, .int ((s_sum (fun j => if t j = 0 then 1 else 0) i) + 1)), (2, .int (nI i)), (0, .ref (ad k))]) dX2_left_19 rfl (by decide) rfl ?_
        refine g_iinc C 1 rfl (v := nI (i + 1)) (lv' := [(2, .int (nI (i + 1))), (1, .int ((s_sum (fun j => if t j = 0 then 1 else 0) i) + 1)), (0, .ref (ad k))]) dX2_left_22 (nI_add _ _) (by decide) rfl ?_
        refine g_goto C (tgt := 4) dX2_left_25 (by decide) ?_
        refine g_lv [0, 1, 2] (lv' := [(2, .int (nI (i + 1))), (1, .int ((s_sum (fun j => if t j = 0 then 1 else 0) i) + 1)), (0, .ref (ad k))]) rfl ?_
        have e9 : s_sum (fun j => if t j = 0 then 1 else 0) (i + 1) = s_sum (fun j => if t j = 0 then 1 else 0) i + 1 := s_sum_t (if_pos c16)
        refine g_lveq (lv' := [(2, .int (nI (i + 1))), (1, .int (s_sum (fun j => if t j = 0 then 1 else 0) (i + 1))), (0, .ref (ad k))]) (by rw [e9]) ?_
        exact ih

set_option maxHeartbeats 4000000 in
set_option maxRecDepth 100000 in
theorem c_X2_leftWith (l : Launch) (V : gT) {n : Nat} {ad : Nat → Nat} {el : Nat → va_E} {k : Nat} {f t : Nat → Int32} (hk : k + 2 < n) (h0 : el k = .inr (2, [.ref (ad (k + 1)), .ref (ad (k + 2))])) (h1 : el (k + 1) = .inl (V.2 0, 30, .inl f)) (h2 : el (k + 2) = .inl (V.2 1, 30, .inl t)) (x : Int32) : TT l V yX2_leftWith wsX2_leftWith { frames := 1, cells := 0, slots := 0, locals := 22 } n ad el [.ref (ad k), .int x] (QIr V n ad el (fun r => r = s_leftWith f t x)) 0 0 := by
  refine TT.body (cc := cX2_leftWith) (maxL := 4) (ret := (some .int)) (by decide) rfl (Nat.le_of_ble_eq_true rfl) ?_
  intro p e s m below meth c C hnm
  refine g_lv [0, 1] (lv' := [(0, .ref (ad k)), (1, .int x)]) rfl ?_
  refine g_iconst C (v := nI 0) dX2_leftWith_0 (by decide) ?_
  refine g_istore_n C (lv' := [(2, .int (nI 0)), (0, .ref (ad k)), (1, .int x)]) dX2_leftWith_1 (by decide) rfl ?_
  refine g_iconst C (v := nI 0) dX2_leftWith_2 (by decide) ?_
  refine g_istore_n C (lv' := [(3, .int (nI 0)), (2, .int (nI 0)), (0, .ref (ad k)), (1, .int x)]) dX2_leftWith_3 (by decide) rfl ?_
  refine g_lv [0, 1, 2, 3] (lv' := [(3, .int (nI 0)), (2, .int (nI 0)), (0, .ref (ad k)), (1, .int x)]) rfl ?_
  refine g_for 30 (fun (i : Nat) => [(3, .int (nI i)), (2, .int (s_sum (fun j => s_lw (f j) (t j) x) i)), (0, .ref (ad k)), (1, .int x)]) ?_ (fun i hi ih => ?_)
  · -- loop 4: its end
    refine g_iload_n C 0 rfl dX2_leftWith_4 ?_
    refine g_bipush C (v := nI 30) dX2_leftWith_5 (by decide) ?_
    refine g_icmp_ge C (tgt := 28) dX2_leftWith_7 (by decide) (fun c7 => ?_) (fun c7 => ?_)
    · -- 28
      have c7 : 30 ≤ 30 := (nI_leI (by omega) (by omega)).mp c7
      refine g_iload_n C 1 rfl dX2_leftWith_28 ?_
      exact g_iret C rfl dX2_leftWith_29 () rfl rfl rfl rfl (Nat.le_of_ble_eq_true rfl) (Nat.le_of_ble_eq_true rfl)
    · -- 10
      have c7 : 30 < 30 := Nat.lt_of_not_le (fun z => c7 ((nI_leI (by omega) (by omega)).mpr z))
      exact absurd c7 (by omega)
  · -- loop 4: its body
    refine g_iload_n C 0 rfl dX2_leftWith_4 ?_
    refine g_bipush C (v := nI 30) dX2_leftWith_5 (by decide) ?_
    refine g_icmp_ge C (tgt := 28) dX2_leftWith_7 (by decide) (fun c7 => ?_) (fun c7 => ?_)
    · -- 28
      have c7 : 30 ≤ i := (nI_leI (by omega) (by omega)).mp c7
      exact absurd c7 (by omega)
    · -- 10
      have c7 : i < 30 := Nat.lt_of_not_le (fun z => c7 ((nI_leI (by omega) (by omega)).mpr z))
      refine g_aload_n C 2 rfl dX2_leftWith_10 ?_
      refine g_iload_n C 0 rfl dX2_leftWith_11 ?_
      refine g_iload_n C 3 rfl dX2_leftWith_12 ?_
      refine g_calli C (r_V C (st := []) (c_X2_isLeftWith l V (by omega) h0 h1 h2 i (by omega) x) (cwV 2 C.ts gX2_leftWith_X2_isLeftWith rfl rfl rfl (by decide +kernel) ⟨(Nat.le_of_ble_eq_true rfl), (Nat.le_of_ble_eq_true rfl)⟩) (by omega) h0 rfl rfl rfl (Nat.le_of_ble_eq_true rfl) dX2_leftWith_13 ⟨(Nat.le_of_ble_eq_true rfl), (Nat.le_of_ble_eq_true rfl)⟩) (fun r u hu => ?_)
      subst hu
      refine g_if_eq C (tgt := 22) dX2_leftWith_16 (by decide) (fun c16 => ?_) (fun c16 => ?_)
      · -- 22
        refine g_iinc C 0 rfl (v := nI (i + 1)) (lv' := [(3, .int (nI (i + 1))), (2, .int (s_sum (fun j => s_lw (f j) (t j) x) i)), (0, .ref (ad k)), (1, .int x)]) dX2_leftWith_22 (nI_add _ _) (by decide) rfl ?_
        refine g_goto C (tgt := 4) dX2_leftWith_25 (by decide) ?_
        refine g_lv [0, 1, 2, 3] (lv' := [(3, .int (nI (i + 1))), (2, .int (s_sum (fun j => s_lw (f j) (t j) x) i)), (0, .ref (ad k)), (1, .int x)]) rfl ?_
        have e9 : s_sum (fun j => s_lw (f j) (t j) x) (i + 1) = s_sum (fun j => s_lw (f j) (t j) x) i := s_sum_f c16
        refine g_lveq (lv' := [(3, .int (nI (i + 1))), (2, .int (s_sum (fun j => s_lw (f j) (t j) x) (i + 1))), (0, .ref (ad k)), (1, .int x)]) (by rw [e9]) ?_
        exact ih
      · -- 19
        refine g_iinc C 1 rfl (v := (s_sum (fun j => s_lw (f j) (t j) x) i) + 1) (lv' := [(2, .int ((s_sum (fun j => s_lw (f j) (t j) x) i) + 1)), (3, .int (nI i)), (0, .ref (ad k)), (1, .int x)]) dX2_leftWith_19 rfl (by decide) rfl ?_
        refine g_iinc C 1 rfl (v := nI (i + 1)) (lv' := [(3, .int (nI (i + 1))), (2, .int ((s_sum (fun j => s_lw (f j) (t j) x) i) + 1)), (0, .ref (ad k)), (1, .int x)]) dX2_leftWith_22 (nI_add _ _) (by decide) rfl ?_
        refine g_goto C (tgt := 4) dX2_leftWith_25 (by decide) ?_
        refine g_lv [0, 1, 2, 3] (lv' := [(3, .int (nI (i + 1))), (2, .int ((s_sum (fun j => s_lw (f j) (t j) x) i) + 1)), (0, .ref (ad k)), (1, .int x)]) rfl ?_
        have e9 : s_sum (fun j => s_lw (f j) (t j) x) (i + 1) = s_sum (fun j => s_lw (f j) (t j) x) i + 1 := s_sum_t (s_lw_t c16)
        refine g_lveq (lv' := [(3, .int (nI (i + 1))), (2, .int (s_sum (fun j => s_lw (f j) (t j) x) (i + 1))), (0, .ref (ad k)), (1, .int x)]) (by rw [e9]) ?_
        exact ih

set_option maxHeartbeats 4000000 in
set_option maxRecDepth 100000 in
theorem c_X2_worthOf (l : Launch) (V : gT) {n : Nat} {ad : Nat → Nat} {el : Nat → va_E} {k : Nat} {f t : Nat → Int32} (hk : k + 2 < n) (h0 : el k = .inr (2, [.ref (ad (k + 1)), .ref (ad (k + 2))])) (h1 : el (k + 1) = .inl (V.2 0, 30, .inl f)) (h2 : el (k + 2) = .inl (V.2 1, 30, .inl t)) (i : Nat) (hi : i < 30) : TT l V yX2_worthOf wsX2_worthOf { frames := 0, cells := 0, slots := 0, locals := 0 } n ad el [.ref (ad k), .int (nI i)] (QIr V n ad el (fun r => r = s_worth (f i) (t i))) 0 0 := by
  refine TT.body (cc := cX2_worthOf) (maxL := 4) (ret := (some .int)) (by decide) rfl (Nat.le_of_ble_eq_true rfl) ?_
  intro p e s m below meth c C hnm
  refine g_lv [0, 1] (lv' := [(0, .ref (ad k)), (1, .int (nI i))]) rfl ?_
  refine g_aload_n C 0 rfl dX2_worthOf_0 ?_
  refine g_getf C k (by omega) h0 rfl 0 (by decide) (fun w h => (List.mem_cons_of_mem _ (List.mem_append_right _ h))) (List.mem_of_getElem? (i := 1) rfl) rfl rfl dX2_worthOf_1 ?_
  refine g_iload_n C 1 rfl dX2_worthOf_4 ?_
  refine g_iald C (k + 1) (by omega) h1 i rfl (by omega) (by decide) dX2_worthOf_5 ?_
  refine g_istore_n C (lv' := [(2, .int (f i)), (0, .ref (ad k)), (1, .int (nI i))]) dX2_worthOf_6 (by decide) rfl ?_
  refine g_aload_n C 1 rfl dX2_worthOf_7 ?_
  refine g_getf C k (by omega) h0 rfl 1 (by decide) (fun w h => (List.mem_cons_of_mem _ (List.mem_append_right _ h))) (List.mem_of_getElem? (i := 2) rfl) rfl rfl dX2_worthOf_8 ?_
  refine g_iload_n C 2 rfl dX2_worthOf_11 ?_
  refine g_zald C (k + 2) (by omega) h2 i rfl (by omega) (by decide) dX2_worthOf_12 ?_
  refine g_if_ne C (tgt := 23) dX2_worthOf_13 (by decide) (fun c13 => ?_) (fun c13 => ?_)
  · -- 23
    refine g_iconst C (v := nI 0) dX2_worthOf_23 (by decide) ?_
    exact g_iret C rfl dX2_worthOf_24 () rfl rfl rfl (by rw [s_worth, if_neg (fun z => c13 z.1)] <;> rfl) (Nat.le_of_ble_eq_true rfl) (Nat.le_of_ble_eq_true rfl)
  · -- 16
    refine g_iload_n C 0 rfl dX2_worthOf_16 ?_
    refine g_bipush C (v := nI 7) dX2_worthOf_17 (by decide) ?_
    refine g_iand C (v := (f i) &&& 7) dX2_worthOf_19 rfl ?_
    refine g_if_eq C (tgt := 25) dX2_worthOf_20 (by decide) (fun c20 => ?_) (fun c20 => ?_)
    · -- 25
      refine g_iconst C (v := nI 1) dX2_worthOf_25 (by decide) ?_
      refine g_istore_n C (lv' := [(3, .int (nI 1)), (2, .int (f i)), (0, .ref (ad k)), (1, .int (nI i))]) dX2_worthOf_26 (by decide) rfl ?_
      refine g_iload_n C 1 rfl dX2_worthOf_27 ?_
      refine g_bipush C (v := nI 8) dX2_worthOf_28 (by decide) ?_
      refine g_iand C (v := (f i) &&& 8) dX2_worthOf_30 rfl ?_
      refine g_if_eq C (tgt := 37) dX2_worthOf_31 (by decide) (fun c31 => ?_) (fun c31 => ?_)
      · -- 37
        refine g_iload_n C 1 rfl dX2_worthOf_37 ?_
        refine g_bipush C (v := nI 16) dX2_worthOf_38 (by decide) ?_
        refine g_iand C (v := (f i) &&& 16) dX2_worthOf_40 rfl ?_
        refine g_if_eq C (tgt := 47) dX2_worthOf_41 (by decide) (fun c41 => ?_) (fun c41 => ?_)
        · -- 47
          refine g_iload_n C 0 rfl dX2_worthOf_47 ?_
          exact g_iret C rfl dX2_worthOf_48 () rfl rfl rfl (by rw [s_worth, if_pos ⟨c13, c20⟩, if_pos c31, if_pos c41] <;> rfl) (Nat.le_of_ble_eq_true rfl) (Nat.le_of_ble_eq_true rfl)
        · -- 44
          refine g_iinc C 0 rfl (v := nI (1 + 4)) (lv' := [(3, .int (nI (1 + 4))), (2, .int (f i)), (0, .ref (ad k)), (1, .int (nI i))]) dX2_worthOf_44 (nI_add _ _) (by decide) rfl ?_
          refine g_iload_n C 0 rfl dX2_worthOf_47 ?_
          exact g_iret C rfl dX2_worthOf_48 () rfl rfl rfl (by rw [s_worth, if_pos ⟨c13, c20⟩, if_pos c31, if_neg c41] <;> rfl) (Nat.le_of_ble_eq_true rfl) (Nat.le_of_ble_eq_true rfl)
      · -- 34
        refine g_iinc C 0 rfl (v := nI (1 + 20)) (lv' := [(3, .int (nI (1 + 20))), (2, .int (f i)), (0, .ref (ad k)), (1, .int (nI i))]) dX2_worthOf_34 (nI_add _ _) (by decide) rfl ?_
        refine g_iload_n C 1 rfl dX2_worthOf_37 ?_
        refine g_bipush C (v := nI 16) dX2_worthOf_38 (by decide) ?_
        refine g_iand C (v := (f i) &&& 16) dX2_worthOf_40 rfl ?_
        refine g_if_eq C (tgt := 47) dX2_worthOf_41 (by decide) (fun c41 => ?_) (fun c41 => ?_)
        · -- 47
          refine g_iload_n C 0 rfl dX2_worthOf_47 ?_
          exact g_iret C rfl dX2_worthOf_48 () rfl rfl rfl (by rw [s_worth, if_pos ⟨c13, c20⟩, if_neg c31, if_pos c41] <;> rfl) (Nat.le_of_ble_eq_true rfl) (Nat.le_of_ble_eq_true rfl)
        · -- 44
          refine g_iinc C 0 rfl (v := nI (1 + 20 + 4)) (lv' := [(3, .int (nI (1 + 20 + 4))), (2, .int (f i)), (0, .ref (ad k)), (1, .int (nI i))]) dX2_worthOf_44 (nI_add _ _) (by decide) rfl ?_
          refine g_iload_n C 0 rfl dX2_worthOf_47 ?_
          exact g_iret C rfl dX2_worthOf_48 () rfl rfl rfl (by rw [s_worth, if_pos ⟨c13, c20⟩, if_neg c31, if_neg c41] <;> rfl) (Nat.le_of_ble_eq_true rfl) (Nat.le_of_ble_eq_true rfl)
    · -- 23
      refine g_iconst C (v := nI 0) dX2_worthOf_23 (by decide) ?_
      exact g_iret C rfl dX2_worthOf_24 () rfl rfl rfl (by rw [s_worth, if_neg (fun z => c20 z.2)] <;> rfl) (Nat.le_of_ble_eq_true rfl) (Nat.le_of_ble_eq_true rfl)

set_option maxHeartbeats 4000000 in
set_option maxRecDepth 100000 in
theorem c_X2_worth (l : Launch) (V : gT) {n : Nat} {ad : Nat → Nat} {el : Nat → va_E} {k : Nat} {f t : Nat → Int32} (hk : k + 2 < n) (h0 : el k = .inr (2, [.ref (ad (k + 1)), .ref (ad (k + 2))])) (h1 : el (k + 1) = .inl (V.2 0, 30, .inl f)) (h2 : el (k + 2) = .inl (V.2 1, 30, .inl t)) : TT l V yX2_worth wsX2_worth { frames := 1, cells := 0, slots := 0, locals := 23 } n ad el [.ref (ad k)] (QIr V n ad el (fun r => r = s_worths f t)) 0 0 := by
  refine TT.body (cc := cX2_worth) (maxL := 3) (ret := (some .int)) (by decide) rfl (Nat.le_of_ble_eq_true rfl) ?_
  intro p e s m below meth c C hnm
  refine g_lv [0] (lv' := [(0, .ref (ad k))]) rfl ?_
  refine g_iconst C (v := nI 0) dX2_worth_0 (by decide) ?_
  refine g_istore_n C (lv' := [(1, .int (nI 0)), (0, .ref (ad k))]) dX2_worth_1 (by decide) rfl ?_
  refine g_iconst C (v := nI 0) dX2_worth_2 (by decide) ?_
  refine g_istore_n C (lv' := [(2, .int (nI 0)), (1, .int (nI 0)), (0, .ref (ad k))]) dX2_worth_3 (by decide) rfl ?_
  refine g_lv [0, 1, 2] (lv' := [(2, .int (nI 0)), (1, .int (nI 0)), (0, .ref (ad k))]) rfl ?_
  refine g_for 30 (fun (i : Nat) => [(2, .int (nI i)), (1, .int (s_sum (fun j => s_worth (f j) (t j)) i)), (0, .ref (ad k))]) ?_ (fun i hi ih => ?_)
  · -- loop 4: its end
    refine g_iload_n C 0 rfl dX2_worth_4 ?_
    refine g_bipush C (v := nI 30) dX2_worth_5 (by decide) ?_
    refine g_icmp_ge C (tgt := 24) dX2_worth_7 (by decide) (fun c7 => ?_) (fun c7 => ?_)
    · -- 24
      have c7 : 30 ≤ 30 := (nI_leI (by omega) (by omega)).mp c7
      refine g_iload_n C 1 rfl dX2_worth_24 ?_
      exact g_iret C rfl dX2_worth_25 () rfl rfl rfl rfl (Nat.le_of_ble_eq_true rfl) (Nat.le_of_ble_eq_true rfl)
    · -- 10
      have c7 : 30 < 30 := Nat.lt_of_not_le (fun z => c7 ((nI_leI (by omega) (by omega)).mpr z))
      exact absurd c7 (by omega)
  · -- loop 4: its body
    refine g_iload_n C 0 rfl dX2_worth_4 ?_
    refine g_bipush C (v := nI 30) dX2_worth_5 (by decide) ?_
    refine g_icmp_ge C (tgt := 24) dX2_worth_7 (by decide) (fun c7 => ?_) (fun c7 => ?_)
    · -- 24
      have c7 : 30 ≤ i := (nI_leI (by omega) (by omega)).mp c7
      exact absurd c7 (by omega)
    · -- 10
      have c7 : i < 30 := Nat.lt_of_not_le (fun z => c7 ((nI_leI (by omega) (by omega)).mpr z))
      refine g_iload_n C 1 rfl dX2_worth_10 ?_
      refine g_aload_n C 2 rfl dX2_worth_11 ?_
      refine g_iload_n C 0 rfl dX2_worth_12 ?_
      refine g_calli C (r_V C (st := [.int (s_sum (fun j => s_worth (f j) (t j)) i)]) (c_X2_worthOf l V (by omega) h0 h1 h2 i (by omega)) (cwV 1 C.ts gX2_worth_X2_worthOf rfl rfl rfl (by decide +kernel) ⟨(Nat.le_of_ble_eq_true rfl), (Nat.le_of_ble_eq_true rfl)⟩) (by omega) h0 rfl rfl rfl (Nat.le_of_ble_eq_true rfl) dX2_worth_13 ⟨(Nat.le_of_ble_eq_true rfl), (Nat.le_of_ble_eq_true rfl)⟩) (fun r u hu => ?_)
      subst hu
      refine g_iadd C (v := (s_sum (fun j => s_worth (f j) (t j)) i) + (s_worth (f i) (t i))) dX2_worth_16 rfl ?_
      refine g_istore_n C (lv' := [(1, .int ((s_sum (fun j => s_worth (f j) (t j)) i) + (s_worth (f i) (t i)))), (2, .int (nI i)), (0, .ref (ad k))]) dX2_worth_17 (by decide) rfl ?_
      refine g_iinc C 1 rfl (v := nI (i + 1)) (lv' := [(2, .int (nI (i + 1))), (1, .int ((s_sum (fun j => s_worth (f j) (t j)) i) + (s_worth (f i) (t i)))), (0, .ref (ad k))]) dX2_worth_18 (nI_add _ _) (by decide) rfl ?_
      refine g_goto C (tgt := 4) dX2_worth_21 (by decide) ?_
      refine g_lv [0, 1, 2] (lv' := [(2, .int (nI (i + 1))), (1, .int ((s_sum (fun j => s_worth (f j) (t j)) i) + (s_worth (f i) (t i)))), (0, .ref (ad k))]) rfl ?_
      exact ih

set_option maxHeartbeats 4000000 in
set_option maxRecDepth 100000 in
theorem c_X2_isInvertedPair (l : Launch) (V : gT) {n : Nat} {ad : Nat → Nat} {el : Nat → va_E} {k : Nat} {f t : Nat → Int32} (hk : k + 2 < n) (h0 : el k = .inr (2, [.ref (ad (k + 1)), .ref (ad (k + 2))])) (h1 : el (k + 1) = .inl (V.2 0, 30, .inl f)) (h2 : el (k + 2) = .inl (V.2 1, 30, .inl t)) (i : Nat) (hi : i + 1 < 30) : TT l V yX2_isInvertedPair wsX2_isInvertedPair { frames := 0, cells := 0, slots := 0, locals := 0 } n ad el [.ref (ad k), .int (nI i)] (QIr V n ad el (fun r => r = s_pr (f i) (t i) (f (i + 1)) (t (i + 1)))) 0 0 := by
  refine TT.body (cc := cX2_isInvertedPair) (maxL := 3) (ret := (some .boolean)) (by decide) rfl (Nat.le_of_ble_eq_true rfl) ?_
  intro p e s m below meth c C hnm
  refine g_lv [0, 1] (lv' := [(0, .ref (ad k)), (1, .int (nI i))]) rfl ?_
  refine g_iload_n C 1 rfl dX2_isInvertedPair_0 ?_
  refine g_iconst C (v := nI 1) dX2_isInvertedPair_1 (by decide) ?_
  refine g_iadd C (v := nI (i + 1)) dX2_isInvertedPair_2 (nI_add _ _) ?_
  refine g_istore_n C (lv' := [(2, .int (nI (i + 1))), (0, .ref (ad k)), (1, .int (nI i))]) dX2_isInvertedPair_3 (by decide) rfl ?_
  refine g_aload_n C 1 rfl dX2_isInvertedPair_4 ?_
  refine g_getf C k (by omega) h0 rfl 1 (by decide) (fun w h => (List.mem_cons_of_mem _ (List.mem_append_right _ h))) (List.mem_of_getElem? (i := 1) rfl) rfl rfl dX2_isInvertedPair_5 ?_
  refine g_iload_n C 2 rfl dX2_isInvertedPair_8 ?_
  refine g_zald C (k + 2) (by omega) h2 i rfl (by omega) (by decide) dX2_isInvertedPair_9 ?_
  refine g_if_ne C (tgt := 45) dX2_isInvertedPair_10 (by decide) (fun c10 => ?_) (fun c10 => ?_)
  · -- 45
    refine g_iconst C (v := nI 0) dX2_isInvertedPair_45 (by decide) ?_
    exact g_zret C rfl rfl dX2_isInvertedPair_46 () rfl rfl rfl (by rw [s_pr, if_neg (fun z => c10 z.1)] <;> rfl) (Nat.le_of_ble_eq_true rfl) (Nat.le_of_ble_eq_true rfl)
  · -- 13
    refine g_aload_n C 1 rfl dX2_isInvertedPair_13 ?_
    refine g_getf C k (by omega) h0 rfl 1 (by decide) (fun w h => (List.mem_cons_of_mem _ (List.mem_append_right _ h))) (List.mem_of_getElem? (i := 1) rfl) rfl rfl dX2_isInvertedPair_14 ?_
    refine g_iload_n C 0 rfl dX2_isInvertedPair_17 ?_
    refine g_zald C (k + 2) (by omega) h2 (i + 1) rfl (by omega) (by decide) dX2_isInvertedPair_18 ?_
    refine g_if_ne C (tgt := 45) dX2_isInvertedPair_19 (by decide) (fun c19 => ?_) (fun c19 => ?_)
    · -- 45
      refine g_iconst C (v := nI 0) dX2_isInvertedPair_45 (by decide) ?_
      exact g_zret C rfl rfl dX2_isInvertedPair_46 () rfl rfl rfl (by rw [s_pr, if_neg (fun z => c19 z.2.1)] <;> rfl) (Nat.le_of_ble_eq_true rfl) (Nat.le_of_ble_eq_true rfl)
    · -- 22
      refine g_aload_n C 1 rfl dX2_isInvertedPair_22 ?_
      refine g_getf C k (by omega) h0 rfl 0 (by decide) (fun w h => (List.mem_cons_of_mem _ (List.mem_append_right _ h))) (List.mem_of_getElem? (i := 2) rfl) rfl rfl dX2_isInvertedPair_23 ?_
      refine g_iload_n C 2 rfl dX2_isInvertedPair_26 ?_
      refine g_iald C (k + 1) (by omega) h1 i rfl (by omega) (by decide) dX2_isInvertedPair_27 ?_
      refine g_aload_n C 1 rfl dX2_isInvertedPair_28 ?_
      refine g_getf C k (by omega) h0 rfl 0 (by decide) (fun w h => (List.mem_cons_of_mem _ (List.mem_append_right _ h))) (List.mem_of_getElem? (i := 2) rfl) rfl rfl dX2_isInvertedPair_29 ?_
      refine g_iload_n C 0 rfl dX2_isInvertedPair_32 ?_
      refine g_iald C (k + 1) (by omega) h1 (i + 1) rfl (by omega) (by decide) dX2_isInvertedPair_33 ?_
      refine g_ixor C (v := (f i) ^^^ (f (i + 1))) dX2_isInvertedPair_34 rfl ?_
      refine g_bipush C (v := nI 8) dX2_isInvertedPair_35 (by decide) ?_
      refine g_iand C (v := ((f i) ^^^ (f (i + 1))) &&& 8) dX2_isInvertedPair_37 rfl ?_
      refine g_if_eq C (tgt := 45) dX2_isInvertedPair_38 (by decide) (fun c38 => ?_) (fun c38 => ?_)
      · -- 45
        refine g_iconst C (v := nI 0) dX2_isInvertedPair_45 (by decide) ?_
        exact g_zret C rfl rfl dX2_isInvertedPair_46 () rfl rfl rfl (by rw [s_pr, if_neg (fun z => z.2.2 c38)] <;> rfl) (Nat.le_of_ble_eq_true rfl) (Nat.le_of_ble_eq_true rfl)
      · -- 41
        refine g_iconst C (v := nI 1) dX2_isInvertedPair_41 (by decide) ?_
        refine g_goto C (tgt := 46) dX2_isInvertedPair_42 (by decide) ?_
        exact g_zret C rfl rfl dX2_isInvertedPair_46 () rfl rfl rfl (by rw [s_pr, if_pos ⟨c10, c19, c38⟩] <;> rfl) (Nat.le_of_ble_eq_true rfl) (Nat.le_of_ble_eq_true rfl)

set_option maxHeartbeats 4000000 in
set_option maxRecDepth 100000 in
theorem c_X2_invertedPairs (l : Launch) (V : gT) {n : Nat} {ad : Nat → Nat} {el : Nat → va_E} {k : Nat} {f t : Nat → Int32} (hk : k + 2 < n) (h0 : el k = .inr (2, [.ref (ad (k + 1)), .ref (ad (k + 2))])) (h1 : el (k + 1) = .inl (V.2 0, 30, .inl f)) (h2 : el (k + 2) = .inl (V.2 1, 30, .inl t)) : TT l V yX2_invertedPairs wsX2_invertedPairs { frames := 1, cells := 0, slots := 0, locals := 22 } n ad el [.ref (ad k)] (QIr V n ad el (fun r => r = s_pairs f t)) 0 0 := by
  refine TT.body (cc := cX2_invertedPairs) (maxL := 4) (ret := (some .int)) (by decide) rfl (Nat.le_of_ble_eq_true rfl) ?_
  intro p e s m below meth c C hnm
  refine g_lv [0] (lv' := [(0, .ref (ad k))]) rfl ?_
  refine g_iconst C (v := nI 0) dX2_invertedPairs_0 (by decide) ?_
  refine g_istore_n C (lv' := [(1, .int (nI 0)), (0, .ref (ad k))]) dX2_invertedPairs_1 (by decide) rfl ?_
  refine g_iconst C (v := nI 0) dX2_invertedPairs_2 (by decide) ?_
  refine g_istore_n C (lv' := [(2, .int (nI 0)), (1, .int (nI 0)), (0, .ref (ad k))]) dX2_invertedPairs_3 (by decide) rfl ?_
  refine g_lv [0, 1, 2] (lv' := [(2, .int (nI 0)), (1, .int (nI 0)), (0, .ref (ad k))]) rfl ?_
  refine g_for 5 (fun (i : Nat) => [(2, .int (nI i)), (1, .int (s_prs f t i)), (0, .ref (ad k))]) ?_ (fun i hi ih => ?_)
  · -- loop 4: its end
    refine g_iload_n C 0 rfl dX2_invertedPairs_4 ?_
    refine g_iconst C (v := nI 5) dX2_invertedPairs_5 (by decide) ?_
    refine g_icmp_ge C (tgt := 44) dX2_invertedPairs_6 (by decide) (fun c6 => ?_) (fun c6 => ?_)
    · -- 44
      have c6 : 5 ≤ 5 := (nI_leI (by omega) (by omega)).mp c6
      refine g_iload_n C 1 rfl dX2_invertedPairs_44 ?_
      exact g_iret C rfl dX2_invertedPairs_45 () rfl rfl rfl rfl (Nat.le_of_ble_eq_true rfl) (Nat.le_of_ble_eq_true rfl)
    · -- 9
      have c6 : 5 < 5 := Nat.lt_of_not_le (fun z => c6 ((nI_leI (by omega) (by omega)).mpr z))
      exact absurd c6 (by omega)
  · -- loop 4: its body
    refine g_iload_n C 0 rfl dX2_invertedPairs_4 ?_
    refine g_iconst C (v := nI 5) dX2_invertedPairs_5 (by decide) ?_
    refine g_icmp_ge C (tgt := 44) dX2_invertedPairs_6 (by decide) (fun c6 => ?_) (fun c6 => ?_)
    · -- 44
      have c6 : 5 ≤ i := (nI_leI (by omega) (by omega)).mp c6
      exact absurd c6 (by omega)
    · -- 9
      have c6 : i < 5 := Nat.lt_of_not_le (fun z => c6 ((nI_leI (by omega) (by omega)).mpr z))
      refine g_iconst C (v := nI 0) dX2_invertedPairs_9 (by decide) ?_
      refine g_istore_n C (lv' := [(3, .int (nI 0)), (2, .int (nI i)), (1, .int (s_prs f t i)), (0, .ref (ad k))]) dX2_invertedPairs_10 (by decide) rfl ?_
      refine g_lv [0, 1, 2, 3] (lv' := [(3, .int (nI 0)), (2, .int (nI i)), (1, .int (s_prs f t i)), (0, .ref (ad k))]) rfl ?_
      refine g_for 5 (fun (j : Nat) => [(3, .int (nI j)), (2, .int (nI i)), (1, .int (s_acc (fun c => s_pr (f (6 * i + c)) (t (6 * i + c)) (f (6 * i + c + 1)) (t (6 * i + c + 1))) (s_prs f t i) j)), (0, .ref (ad k))]) ?_ (fun j hj jh => ?_)
      · -- loop 11: its end
        refine g_iload_n C 0 rfl dX2_invertedPairs_11 ?_
        refine g_iconst C (v := nI 5) dX2_invertedPairs_12 (by decide) ?_
        refine g_icmp_ge C (tgt := 38) dX2_invertedPairs_13 (by decide) (fun c13 => ?_) (fun c13 => ?_)
        · -- 38
          have c13 : 5 ≤ 5 := (nI_leI (by omega) (by omega)).mp c13
          refine g_iinc C 1 rfl (v := nI (i + 1)) (lv' := [(2, .int (nI (i + 1))), (3, .int (nI 5)), (1, .int (s_acc (fun c => s_pr (f (6 * i + c)) (t (6 * i + c)) (f (6 * i + c + 1)) (t (6 * i + c + 1))) (s_prs f t i) 5)), (0, .ref (ad k))]) dX2_invertedPairs_38 (nI_add _ _) (by decide) rfl ?_
          refine g_goto C (tgt := 4) dX2_invertedPairs_41 (by decide) ?_
          refine g_lv [0, 2, 3] (lv' := [(2, .int (nI (i + 1))), (1, .int (s_acc (fun c => s_pr (f (6 * i + c)) (t (6 * i + c)) (f (6 * i + c + 1)) (t (6 * i + c + 1))) (s_prs f t i) 5)), (0, .ref (ad k))]) rfl ?_
          exact ih
        · -- 16
          have c13 : 5 < 5 := Nat.lt_of_not_le (fun z => c13 ((nI_leI (by omega) (by omega)).mpr z))
          exact absurd c13 (by omega)
      · -- loop 11: its body
        refine g_iload_n C 0 rfl dX2_invertedPairs_11 ?_
        refine g_iconst C (v := nI 5) dX2_invertedPairs_12 (by decide) ?_
        refine g_icmp_ge C (tgt := 38) dX2_invertedPairs_13 (by decide) (fun c13 => ?_) (fun c13 => ?_)
        · -- 38
          have c13 : 5 ≤ j := (nI_leI (by omega) (by omega)).mp c13
          exact absurd c13 (by omega)
        · -- 16
          have c13 : j < 5 := Nat.lt_of_not_le (fun z => c13 ((nI_leI (by omega) (by omega)).mpr z))
          refine g_aload_n C 3 rfl dX2_invertedPairs_16 ?_
          refine g_bipush C (v := nI 6) dX2_invertedPairs_17 (by decide) ?_
          refine g_iload_n C 1 rfl dX2_invertedPairs_19 ?_
          refine g_imul C (v := nI (6 * i)) dX2_invertedPairs_20 (pk_mul _ _) ?_
          refine g_iload_n C 0 rfl dX2_invertedPairs_21 ?_
          refine g_iadd C (v := nI ((6 * i) + j)) dX2_invertedPairs_22 (nI_add _ _) ?_
          refine g_calli C (r_V C (st := []) (c_X2_isInvertedPair l V (by omega) h0 h1 h2 ((6 * i) + j) (by omega)) (cwV 1 C.ts gX2_invertedPairs_X2_isInvertedPair rfl rfl rfl (by decide +kernel) ⟨(Nat.le_of_ble_eq_true rfl), (Nat.le_of_ble_eq_true rfl)⟩) (by omega) h0 rfl rfl rfl (Nat.le_of_ble_eq_true rfl) dX2_invertedPairs_23 ⟨(Nat.le_of_ble_eq_true rfl), (Nat.le_of_ble_eq_true rfl)⟩) (fun r u hu => ?_)
          subst hu
          refine g_if_eq C (tgt := 32) dX2_invertedPairs_26 (by decide) (fun c26 => ?_) (fun c26 => ?_)
          · -- 32
            refine g_iinc C 0 rfl (v := nI (j + 1)) (lv' := [(3, .int (nI (j + 1))), (2, .int (nI i)), (1, .int (s_acc (fun c => s_pr (f (6 * i + c)) (t (6 * i + c)) (f (6 * i + c + 1)) (t (6 * i + c + 1))) (s_prs f t i) j)), (0, .ref (ad k))]) dX2_invertedPairs_32 (nI_add _ _) (by decide) rfl ?_
            refine g_goto C (tgt := 11) dX2_invertedPairs_35 (by decide) ?_
            refine g_lv [0, 1, 2, 3] (lv' := [(3, .int (nI (j + 1))), (2, .int (nI i)), (1, .int (s_acc (fun c => s_pr (f (6 * i + c)) (t (6 * i + c)) (f (6 * i + c + 1)) (t (6 * i + c + 1))) (s_prs f t i) j)), (0, .ref (ad k))]) rfl ?_
            have e9 : s_acc (fun c => s_pr (f (6 * i + c)) (t (6 * i + c)) (f (6 * i + c + 1)) (t (6 * i + c + 1))) (s_prs f t i) (j + 1) = s_acc (fun c => s_pr (f (6 * i + c)) (t (6 * i + c)) (f (6 * i + c + 1)) (t (6 * i + c + 1))) (s_prs f t i) j := s_acc_f c26
            refine g_lveq (lv' := [(3, .int (nI (j + 1))), (2, .int (nI i)), (1, .int (s_acc (fun c => s_pr (f (6 * i + c)) (t (6 * i + c)) (f (6 * i + c + 1)) (t (6 * i + c + 1))) (s_prs f t i) (j + 1))), (0, .ref (ad k))]) (by rw [e9]) ?_
            exact jh
          · -- 29
            refine g_iinc C 2 rfl (v := (s_acc (fun c => s_pr (f (6 * i + c)) (t (6 * i + c)) (f (6 * i + c + 1)) (t (6 * i + c + 1))) (s_prs f t i) j) + 1) (lv' := [(1, .int ((s_acc (fun c => s_pr (f (6 * i + c)) (t (6 * i + c)) (f (6 * i + c + 1)) (t (6 * i + c + 1))) (s_prs f t i) j) + 1)), (3, .int (nI j)), (2, .int (nI i)), (0, .ref (ad k))]) dX2_invertedPairs_29 rfl (by decide) rfl ?_
            refine g_iinc C 1 rfl (v := nI (j + 1)) (lv' := [(3, .int (nI (j + 1))), (1, .int ((s_acc (fun c => s_pr (f (6 * i + c)) (t (6 * i + c)) (f (6 * i + c + 1)) (t (6 * i + c + 1))) (s_prs f t i) j) + 1)), (2, .int (nI i)), (0, .ref (ad k))]) dX2_invertedPairs_32 (nI_add _ _) (by decide) rfl ?_
            refine g_goto C (tgt := 11) dX2_invertedPairs_35 (by decide) ?_
            refine g_lv [0, 2, 1, 3] (lv' := [(3, .int (nI (j + 1))), (2, .int (nI i)), (1, .int ((s_acc (fun c => s_pr (f (6 * i + c)) (t (6 * i + c)) (f (6 * i + c + 1)) (t (6 * i + c + 1))) (s_prs f t i) j) + 1)), (0, .ref (ad k))]) rfl ?_
            have e9 : s_acc (fun c => s_pr (f (6 * i + c)) (t (6 * i + c)) (f (6 * i + c + 1)) (t (6 * i + c + 1))) (s_prs f t i) (j + 1) = s_acc (fun c => s_pr (f (6 * i + c)) (t (6 * i + c)) (f (6 * i + c + 1)) (t (6 * i + c + 1))) (s_prs f t i) j + 1 := s_acc_t (s_pr_t c26)
            refine g_lveq (lv' := [(3, .int (nI (j + 1))), (2, .int (nI i)), (1, .int (s_acc (fun c => s_pr (f (6 * i + c)) (t (6 * i + c)) (f (6 * i + c + 1)) (t (6 * i + c + 1))) (s_prs f t i) (j + 1))), (0, .ref (ad k))]) (by rw [e9]) ?_
            exact jh

set_option maxHeartbeats 4000000 in
set_option maxRecDepth 100000 in
theorem c_X2_rowsOff (l : Launch) (V : gT) {n : Nat} {ad : Nat → Nat} {el : Nat → va_E} {k : Nat} {f t : Nat → Int32} (hk : k + 2 < n) (h0 : el k = .inr (2, [.ref (ad (k + 1)), .ref (ad (k + 2))])) (h1 : el (k + 1) = .inl (V.2 0, 30, .inl f)) (h2 : el (k + 2) = .inl (V.2 1, 30, .inl t)) : TT l V yX2_rowsOff wsX2_rowsOff { frames := 0, cells := 0, slots := 0, locals := 0 } n ad el [.ref (ad k)] (QIr V n ad el (fun r => r = s_off f)) 0 0 := by
  refine TT.body (cc := cX2_rowsOff) (maxL := 3) (ret := (some .int)) (by decide) rfl (Nat.le_of_ble_eq_true rfl) ?_
  intro p e s m below meth c C hnm
  refine g_lv [0] (lv' := [(0, .ref (ad k))]) rfl ?_
  refine g_iconst C (v := nI 0) dX2_rowsOff_0 (by decide) ?_
  refine g_istore_n C (lv' := [(1, .int (nI 0)), (0, .ref (ad k))]) dX2_rowsOff_1 (by decide) rfl ?_
  refine g_iconst C (v := nI 0) dX2_rowsOff_2 (by decide) ?_
  refine g_istore_n C (lv' := [(2, .int (nI 0)), (1, .int (nI 0)), (0, .ref (ad k))]) dX2_rowsOff_3 (by decide) rfl ?_
  refine g_lv [0, 1, 2] (lv' := [(2, .int (nI 0)), (1, .int (nI 0)), (0, .ref (ad k))]) rfl ?_
  refine g_for 5 (fun (i : Nat) => [(2, .int (nI i)), (1, .int (s_sum (fun r => if f (6 * r) &&& 1 = 0 then 0 else 1) i)), (0, .ref (ad k))]) ?_ (fun i hi ih => ?_)
  · -- loop 4: its end
    refine g_iload_n C 0 rfl dX2_rowsOff_4 ?_
    refine g_iconst C (v := nI 5) dX2_rowsOff_5 (by decide) ?_
    refine g_icmp_ge C (tgt := 32) dX2_rowsOff_6 (by decide) (fun c6 => ?_) (fun c6 => ?_)
    · -- 32
      have c6 : 5 ≤ 5 := (nI_leI (by omega) (by omega)).mp c6
      refine g_iload_n C 1 rfl dX2_rowsOff_32 ?_
      exact g_iret C rfl dX2_rowsOff_33 () rfl rfl rfl rfl (Nat.le_of_ble_eq_true rfl) (Nat.le_of_ble_eq_true rfl)
    · -- 9
      have c6 : 5 < 5 := Nat.lt_of_not_le (fun z => c6 ((nI_leI (by omega) (by omega)).mpr z))
      exact absurd c6 (by omega)
  · -- loop 4: its body
    refine g_iload_n C 0 rfl dX2_rowsOff_4 ?_
    refine g_iconst C (v := nI 5) dX2_rowsOff_5 (by decide) ?_
    refine g_icmp_ge C (tgt := 32) dX2_rowsOff_6 (by decide) (fun c6 => ?_) (fun c6 => ?_)
    · -- 32
      have c6 : 5 ≤ i := (nI_leI (by omega) (by omega)).mp c6
      exact absurd c6 (by omega)
    · -- 9
      have c6 : i < 5 := Nat.lt_of_not_le (fun z => c6 ((nI_leI (by omega) (by omega)).mpr z))
      refine g_aload_n C 2 rfl dX2_rowsOff_9 ?_
      refine g_getf C k (by omega) h0 rfl 0 (by decide) (fun w h => (List.mem_cons_of_mem _ (List.mem_append_right _ h))) (List.mem_of_getElem? (i := 1) rfl) rfl rfl dX2_rowsOff_10 ?_
      refine g_bipush C (v := nI 6) dX2_rowsOff_13 (by decide) ?_
      refine g_iload_n C 0 rfl dX2_rowsOff_15 ?_
      refine g_imul C (v := nI (6 * i)) dX2_rowsOff_16 (pk_mul _ _) ?_
      refine g_iald C (k + 1) (by omega) h1 (6 * i) rfl (by omega) (by decide) dX2_rowsOff_17 ?_
      refine g_iconst C (v := nI 1) dX2_rowsOff_18 (by decide) ?_
      refine g_iand C (v := (f (6 * i)) &&& 1) dX2_rowsOff_19 rfl ?_
      refine g_if_eq C (tgt := 26) dX2_rowsOff_20 (by decide) (fun c20 => ?_) (fun c20 => ?_)
      · -- 26
        refine g_iinc C 0 rfl (v := nI (i + 1)) (lv' := [(2, .int (nI (i + 1))), (1, .int (s_sum (fun r => if f (6 * r) &&& 1 = 0 then 0 else 1) i)), (0, .ref (ad k))]) dX2_rowsOff_26 (nI_add _ _) (by decide) rfl ?_
        refine g_goto C (tgt := 4) dX2_rowsOff_29 (by decide) ?_
        refine g_lv [0, 1, 2] (lv' := [(2, .int (nI (i + 1))), (1, .int (s_sum (fun r => if f (6 * r) &&& 1 = 0 then 0 else 1) i)), (0, .ref (ad k))]) rfl ?_
        have e9 : s_sum (fun r => if f (6 * r) &&& 1 = 0 then 0 else 1) (i + 1) = s_sum (fun r => if f (6 * r) &&& 1 = 0 then 0 else 1) i := s_sum_f (if_pos c20)
        refine g_lveq (lv' := [(2, .int (nI (i + 1))), (1, .int (s_sum (fun r => if f (6 * r) &&& 1 = 0 then 0 else 1) (i + 1))), (0, .ref (ad k))]) (by rw [e9]) ?_
        exact ih
      · -- 23
        refine g_iinc C 1 rfl (v := (s_sum (fun r => if f (6 * r) &&& 1 = 0 then 0 else 1) i) + 1) (lv' := [(1, .int ((s_sum (fun r => if f (6 * r) &&& 1 = 0 then 0 else 1) i) + 1)), (2, .int (nI i)), (0, .ref (ad k))]) dX2_rowsOff_23 rfl (by decide) rfl ?_
        refine g_iinc C 1 rfl (v := nI (i + 1)) (lv' := [(2, .int (nI (i + 1))), (1, .int ((s_sum (fun r => if f (6 * r) &&& 1 = 0 then 0 else 1) i) + 1)), (0, .ref (ad k))]) dX2_rowsOff_26 (nI_add _ _) (by decide) rfl ?_
        refine g_goto C (tgt := 4) dX2_rowsOff_29 (by decide) ?_
        refine g_lv [0, 1, 2] (lv' := [(2, .int (nI (i + 1))), (1, .int ((s_sum (fun r => if f (6 * r) &&& 1 = 0 then 0 else 1) i) + 1)), (0, .ref (ad k))]) rfl ?_
        have e9 : s_sum (fun r => if f (6 * r) &&& 1 = 0 then 0 else 1) (i + 1) = s_sum (fun r => if f (6 * r) &&& 1 = 0 then 0 else 1) i + 1 := s_sum_t (if_neg c20)
        refine g_lveq (lv' := [(2, .int (nI (i + 1))), (1, .int (s_sum (fun r => if f (6 * r) &&& 1 = 0 then 0 else 1) (i + 1))), (0, .ref (ad k))]) (by rw [e9]) ?_
        exact ih

set_option maxHeartbeats 4000000 in
set_option maxRecDepth 100000 in
theorem c_X2_goodColumns (l : Launch) (V : gT) {n : Nat} {ad : Nat → Nat} {el : Nat → va_E} {k : Nat} {f t : Nat → Int32} (hk : k + 2 < n) (h0 : el k = .inr (2, [.ref (ad (k + 1)), .ref (ad (k + 2))])) (h1 : el (k + 1) = .inl (V.2 0, 30, .inl f)) (h2 : el (k + 2) = .inl (V.2 1, 30, .inl t)) (r : Nat) (hr : r < 5) : TT l V yX2_goodColumns wsX2_goodColumns { frames := 1, cells := 0, slots := 0, locals := 22 } n ad el [.ref (ad k), .int (nI r)] (QIr V n ad el (fun z => z = s_good f t r 6)) 0 0 := by
  refine TT.body (cc := cX2_goodColumns) (maxL := 4) (ret := (some .int)) (by decide) rfl (Nat.le_of_ble_eq_true rfl) ?_
  intro p e s m below meth c C hnm
  refine g_lv [0, 1] (lv' := [(0, .ref (ad k)), (1, .int (nI r))]) rfl ?_
  refine g_iconst C (v := nI 0) dX2_goodColumns_0 (by decide) ?_
  refine g_istore_n C (lv' := [(2, .int (nI 0)), (0, .ref (ad k)), (1, .int (nI r))]) dX2_goodColumns_1 (by decide) rfl ?_
  refine g_iconst C (v := nI 0) dX2_goodColumns_2 (by decide) ?_
  refine g_istore_n C (lv' := [(3, .int (nI 0)), (2, .int (nI 0)), (0, .ref (ad k)), (1, .int (nI r))]) dX2_goodColumns_3 (by decide) rfl ?_
  refine g_lv [0, 1, 2, 3] (lv' := [(3, .int (nI 0)), (2, .int (nI 0)), (0, .ref (ad k)), (1, .int (nI r))]) rfl ?_
  refine g_for 6 (fun (i : Nat) => [(3, .int (nI i)), (2, .int (s_good f t r i)), (0, .ref (ad k)), (1, .int (nI r))]) ?_ (fun i hi ih => ?_)
  · -- loop 4: its end
    refine g_iload_n C 0 rfl dX2_goodColumns_4 ?_
    refine g_bipush C (v := nI 6) dX2_goodColumns_5 (by decide) ?_
    refine g_icmp_ge C (tgt := 36) dX2_goodColumns_7 (by decide) (fun c7 => ?_) (fun c7 => ?_)
    · -- 36
      have c7 : 6 ≤ 6 := (nI_leI (by omega) (by omega)).mp c7
      refine g_iload_n C 1 rfl dX2_goodColumns_36 ?_
      exact g_iret C rfl dX2_goodColumns_37 () rfl rfl rfl rfl (Nat.le_of_ble_eq_true rfl) (Nat.le_of_ble_eq_true rfl)
    · -- 10
      have c7 : 6 < 6 := Nat.lt_of_not_le (fun z => c7 ((nI_leI (by omega) (by omega)).mpr z))
      exact absurd c7 (by omega)
  · -- loop 4: its body
    refine g_iload_n C 0 rfl dX2_goodColumns_4 ?_
    refine g_bipush C (v := nI 6) dX2_goodColumns_5 (by decide) ?_
    refine g_icmp_ge C (tgt := 36) dX2_goodColumns_7 (by decide) (fun c7 => ?_) (fun c7 => ?_)
    · -- 36
      have c7 : 6 ≤ i := (nI_leI (by omega) (by omega)).mp c7
      exact absurd c7 (by omega)
    · -- 10
      have c7 : i < 6 := Nat.lt_of_not_le (fun z => c7 ((nI_leI (by omega) (by omega)).mpr z))
      refine g_aload_n C 2 rfl dX2_goodColumns_10 ?_
      refine g_bipush C (v := nI 6) dX2_goodColumns_11 (by decide) ?_
      refine g_iload_n C 3 rfl dX2_goodColumns_13 ?_
      refine g_imul C (v := nI (6 * r)) dX2_goodColumns_14 (pk_mul _ _) ?_
      refine g_iload_n C 0 rfl dX2_goodColumns_15 ?_
      refine g_iadd C (v := nI ((6 * r) + i)) dX2_goodColumns_16 (nI_add _ _) ?_
      refine g_iconst C (v := nI 0) dX2_goodColumns_17 (by decide) ?_
      refine g_calli C (r_V C (st := []) (c_X2_isLeftWith l V (by omega) h0 h1 h2 ((6 * r) + i) (by omega) 0) (cwV 2 C.ts gX2_goodColumns_X2_isLeftWith rfl rfl rfl (by decide +kernel) ⟨(Nat.le_of_ble_eq_true rfl), (Nat.le_of_ble_eq_true rfl)⟩) (by omega) h0 rfl rfl rfl (Nat.le_of_ble_eq_true rfl) dX2_goodColumns_18 ⟨(Nat.le_of_ble_eq_true rfl), (Nat.le_of_ble_eq_true rfl)⟩) (fun r u hu => ?_)
      subst hu
      refine g_if_eq C (tgt := 30) dX2_goodColumns_21 (by decide) (fun c21 => ?_) (fun c21 => ?_)
      · -- 30
        refine g_iinc C 0 rfl (v := nI (i + 1)) (lv' := [(3, .int (nI (i + 1))), (2, .int (s_good f t r i)), (0, .ref (ad k)), (1, .int (nI r))]) dX2_goodColumns_30 (nI_add _ _) (by decide) rfl ?_
        refine g_goto C (tgt := 4) dX2_goodColumns_33 (by decide) ?_
        refine g_lv [0, 1, 2, 3] (lv' := [(3, .int (nI (i + 1))), (2, .int (s_good f t r i)), (0, .ref (ad k)), (1, .int (nI r))]) rfl ?_
        have e9 : s_good f t r (i + 1) = s_good f t r i := if_neg (s_lw_0 c21)
        refine g_lveq (lv' := [(3, .int (nI (i + 1))), (2, .int (s_good f t r (i + 1))), (0, .ref (ad k)), (1, .int (nI r))]) (by rw [e9]) ?_
        exact ih
      · -- 24
        refine g_iload_n C 1 rfl dX2_goodColumns_24 ?_
        refine g_iconst C (v := nI 1) dX2_goodColumns_25 (by decide) ?_
        refine g_iload_n C 0 rfl dX2_goodColumns_26 ?_
        refine g_ishl C (v := (1 : Int32) <<< ((nI i) &&& 31)) dX2_goodColumns_27 rfl ?_
        refine g_ior C (v := (s_good f t r i) ||| ((1 : Int32) <<< ((nI i) &&& 31))) dX2_goodColumns_28 rfl ?_
        refine g_istore_n C (lv' := [(2, .int ((s_good f t r i) ||| ((1 : Int32) <<< ((nI i) &&& 31)))), (3, .int (nI i)), (0, .ref (ad k)), (1, .int (nI r))]) dX2_goodColumns_29 (by decide) rfl ?_
        refine g_iinc C 1 rfl (v := nI (i + 1)) (lv' := [(3, .int (nI (i + 1))), (2, .int ((s_good f t r i) ||| ((1 : Int32) <<< ((nI i) &&& 31)))), (0, .ref (ad k)), (1, .int (nI r))]) dX2_goodColumns_30 (nI_add _ _) (by decide) rfl ?_
        refine g_goto C (tgt := 4) dX2_goodColumns_33 (by decide) ?_
        refine g_lv [0, 1, 2, 3] (lv' := [(3, .int (nI (i + 1))), (2, .int ((s_good f t r i) ||| ((1 : Int32) <<< ((nI i) &&& 31)))), (0, .ref (ad k)), (1, .int (nI r))]) rfl ?_
        have e9 : s_good f t r (i + 1) = s_good f t r i ||| ((1 : Int32) <<< (nI i &&& 31)) := if_pos (s_lw_1 c21)
        refine g_lveq (lv' := [(3, .int (nI (i + 1))), (2, .int (s_good f t r (i + 1))), (0, .ref (ad k)), (1, .int (nI r))]) (by rw [e9]) ?_
        exact ih

set_option maxHeartbeats 4000000 in
set_option maxRecDepth 100000 in
theorem c_X2_longestRun (l : Launch) (V : gT) {n : Nat} {ad : Nat → Nat} {el : Nat → va_E} (b : Int32) : TT l V yX2_longestRun wsX2_longestRun { frames := 1, cells := 0, slots := 0, locals := 24 } n ad el [.int b] (QIr V n ad el (fun r => r = s_longest b 6)) 0 0 := by
  refine TT.body (cc := cX2_longestRun) (maxL := 4) (ret := (some .int)) (by decide) rfl (Nat.le_of_ble_eq_true rfl) ?_
  intro p e s m below meth c C hnm
  refine g_lv [0] (lv' := [(0, .int b)]) rfl ?_
  refine g_iconst C (v := nI 0) dX2_longestRun_0 (by decide) ?_
  refine g_istore_n C (lv' := [(1, .int (nI 0)), (0, .int b)]) dX2_longestRun_1 (by decide) rfl ?_
  refine g_iconst C (v := nI 0) dX2_longestRun_2 (by decide) ?_
  refine g_istore_n C (lv' := [(2, .int (nI 0)), (1, .int (nI 0)), (0, .int b)]) dX2_longestRun_3 (by decide) rfl ?_
  refine g_iconst C (v := nI 0) dX2_longestRun_4 (by decide) ?_
  refine g_istore_n C (lv' := [(3, .int (nI 0)), (2, .int (nI 0)), (1, .int (nI 0)), (0, .int b)]) dX2_longestRun_5 (by decide) rfl ?_
  refine g_lv [0, 2, 1, 3] (lv' := [(3, .int (nI 0)), (1, .int (nI 0)), (2, .int (nI 0)), (0, .int b)]) rfl ?_
  refine g_for 6 (fun (i : Nat) => [(3, .int (nI i)), (1, .int (s_longest b i)), (2, .int (s_run b i)), (0, .int b)]) ?_ (fun i hi ih => ?_)
  · -- loop 6: its end
    refine g_iload_n C 0 rfl dX2_longestRun_6 ?_
    refine g_bipush C (v := nI 6) dX2_longestRun_7 (by decide) ?_
    refine g_icmp_ge C (tgt := 40) dX2_longestRun_9 (by decide) (fun c9 => ?_) (fun c9 => ?_)
    · -- 40
      have c9 : 6 ≤ 6 := (nI_leI (by omega) (by omega)).mp c9
      refine g_iload_n C 1 rfl dX2_longestRun_40 ?_
      exact g_iret C rfl dX2_longestRun_41 () rfl rfl rfl rfl (Nat.le_of_ble_eq_true rfl) (Nat.le_of_ble_eq_true rfl)
    · -- 12
      have c9 : 6 < 6 := Nat.lt_of_not_le (fun z => c9 ((nI_leI (by omega) (by omega)).mpr z))
      exact absurd c9 (by omega)
  · -- loop 6: its body
    refine g_iload_n C 0 rfl dX2_longestRun_6 ?_
    refine g_bipush C (v := nI 6) dX2_longestRun_7 (by decide) ?_
    refine g_icmp_ge C (tgt := 40) dX2_longestRun_9 (by decide) (fun c9 => ?_) (fun c9 => ?_)
    · -- 40
      have c9 : 6 ≤ i := (nI_leI (by omega) (by omega)).mp c9
      exact absurd c9 (by omega)
    · -- 12
      have c9 : i < 6 := Nat.lt_of_not_le (fun z => c9 ((nI_leI (by omega) (by omega)).mpr z))
      refine g_iload_n C 3 rfl dX2_longestRun_12 ?_
      refine g_iconst C (v := nI 1) dX2_longestRun_13 (by decide) ?_
      refine g_iload_n C 0 rfl dX2_longestRun_14 ?_
      refine g_ishl C (v := (1 : Int32) <<< ((nI i) &&& 31)) dX2_longestRun_15 rfl ?_
      refine g_iand C (v := b &&& ((1 : Int32) <<< ((nI i) &&& 31))) dX2_longestRun_16 rfl ?_
      refine g_if_eq C (tgt := 26) dX2_longestRun_17 (by decide) (fun c17 => ?_) (fun c17 => ?_)
      · -- 26
        refine g_iconst C (v := nI 0) dX2_longestRun_26 (by decide) ?_
        refine g_istore_n C (lv' := [(2, .int (nI 0)), (3, .int (nI i)), (1, .int (s_longest b i)), (0, .int b)]) dX2_longestRun_27 (by decide) rfl ?_
        refine g_iload_n C 2 rfl dX2_longestRun_28 ?_
        refine g_iload_n C 0 rfl dX2_longestRun_29 ?_
        refine g_mmax C (v := s_max (s_longest b i) 0) rfl (List.mem_of_getElem? (i := 1) rfl) (List.mem_of_getElem? (i := 2) rfl) (List.mem_of_getElem? (i := 3) rfl) (List.mem_of_getElem? (i := 4) rfl) (Nat.le_of_ble_eq_true rfl) (Nat.le_of_ble_eq_true rfl) (Nat.le_of_ble_eq_true rfl) (Nat.le_of_ble_eq_true rfl) dX2_longestRun_30 ?_
        refine g_istore_n C (lv' := [(1, .int (s_max (s_longest b i) 0)), (2, .int (nI 0)), (3, .int (nI i)), (0, .int b)]) dX2_longestRun_33 (by decide) rfl ?_
        refine g_iinc C 2 rfl (v := nI (i + 1)) (lv' := [(3, .int (nI (i + 1))), (1, .int (s_max (s_longest b i) 0)), (2, .int (nI 0)), (0, .int b)]) dX2_longestRun_34 (nI_add _ _) (by decide) rfl ?_
        refine g_goto C (tgt := 6) dX2_longestRun_37 (by decide) ?_
        refine g_lv [0, 1, 2, 3] (lv' := [(3, .int (nI (i + 1))), (1, .int (s_max (s_longest b i) 0)), (2, .int (nI 0)), (0, .int b)]) rfl ?_
        have e9 : s_run b (i + 1) = nI 0 := if_pos c17
        refine g_lveq (lv' := [(3, .int (nI (i + 1))), (1, .int (s_longest b (i + 1))), (2, .int (s_run b (i + 1))), (0, .int b)]) (by rw [s_longest, e9] <;> rfl) ?_
        exact ih
      · -- 20
        refine g_iload_n C 2 rfl dX2_longestRun_20 ?_
        refine g_iconst C (v := nI 1) dX2_longestRun_21 (by decide) ?_
        refine g_iadd C (v := (s_run b i) + 1) dX2_longestRun_22 rfl ?_
        refine g_goto C (tgt := 27) dX2_longestRun_23 (by decide) ?_
        refine g_istore_n C (lv' := [(2, .int ((s_run b i) + 1)), (3, .int (nI i)), (1, .int (s_longest b i)), (0, .int b)]) dX2_longestRun_27 (by decide) rfl ?_
        refine g_iload_n C 2 rfl dX2_longestRun_28 ?_
        refine g_iload_n C 0 rfl dX2_longestRun_29 ?_
        refine g_mmax C (v := s_max (s_longest b i) ((s_run b i) + 1)) rfl (List.mem_of_getElem? (i := 1) rfl) (List.mem_of_getElem? (i := 2) rfl) (List.mem_of_getElem? (i := 3) rfl) (List.mem_of_getElem? (i := 4) rfl) (Nat.le_of_ble_eq_true rfl) (Nat.le_of_ble_eq_true rfl) (Nat.le_of_ble_eq_true rfl) (Nat.le_of_ble_eq_true rfl) dX2_longestRun_30 ?_
        refine g_istore_n C (lv' := [(1, .int (s_max (s_longest b i) ((s_run b i) + 1))), (2, .int ((s_run b i) + 1)), (3, .int (nI i)), (0, .int b)]) dX2_longestRun_33 (by decide) rfl ?_
        refine g_iinc C 2 rfl (v := nI (i + 1)) (lv' := [(3, .int (nI (i + 1))), (1, .int (s_max (s_longest b i) ((s_run b i) + 1))), (2, .int ((s_run b i) + 1)), (0, .int b)]) dX2_longestRun_34 (nI_add _ _) (by decide) rfl ?_
        refine g_goto C (tgt := 6) dX2_longestRun_37 (by decide) ?_
        refine g_lv [0, 1, 2, 3] (lv' := [(3, .int (nI (i + 1))), (1, .int (s_max (s_longest b i) ((s_run b i) + 1))), (2, .int ((s_run b i) + 1)), (0, .int b)]) rfl ?_
        have e9 : s_run b (i + 1) = s_run b i + 1 := if_neg c17
        refine g_lveq (lv' := [(3, .int (nI (i + 1))), (1, .int (s_longest b (i + 1))), (2, .int (s_run b (i + 1))), (0, .int b)]) (by rw [s_longest, e9] <;> rfl) ?_
        exact ih

set_option maxHeartbeats 4000000 in
set_option maxRecDepth 100000 in
theorem c_X2_greatestBlock (l : Launch) (V : gT) {n : Nat} {ad : Nat → Nat} {el : Nat → va_E} {k : Nat} {f t : Nat → Int32} (hk : k + 2 < n) (h0 : el k = .inr (2, [.ref (ad (k + 1)), .ref (ad (k + 2))])) (h1 : el (k + 1) = .inl (V.2 0, 30, .inl f)) (h2 : el (k + 2) = .inl (V.2 1, 30, .inl t)) : TT l V yX2_greatestBlock wsX2_greatestBlock { frames := 2, cells := 0, slots := 0, locals := 47 } n ad el [.ref (ad k)] (QIr V n ad el (fun r => r = s_block f t)) 0 0 := by
  refine TT.body (cc := cX2_greatestBlock) (maxL := 5) (ret := (some .int)) (by decide) rfl (Nat.le_of_ble_eq_true rfl) ?_
  intro p e s m below meth c C hnm
  refine g_lv [0] (lv' := [(0, .ref (ad k))]) rfl ?_
  refine g_iconst C (v := nI 0) dX2_greatestBlock_0 (by decide) ?_
  refine g_istore_n C (lv' := [(1, .int (nI 0)), (0, .ref (ad k))]) dX2_greatestBlock_1 (by decide) rfl ?_
  refine g_iconst C (v := nI 0) dX2_greatestBlock_2 (by decide) ?_
  refine g_istore_n C (lv' := [(2, .int (nI 0)), (1, .int (nI 0)), (0, .ref (ad k))]) dX2_greatestBlock_3 (by decide) rfl ?_
  refine g_lv [0, 1, 2] (lv' := [(2, .int (nI 0)), (1, .int (nI 0)), (0, .ref (ad k))]) rfl ?_
  refine g_for 5 (fun (i : Nat) => [(2, .int (nI i)), (1, .int (s_blk f t i)), (0, .ref (ad k))]) ?_ (fun i hi ih => ?_)
  · -- loop 4: its end
    refine g_iload_n C 0 rfl dX2_greatestBlock_4 ?_
    refine g_iconst C (v := nI 5) dX2_greatestBlock_5 (by decide) ?_
    refine g_icmp_ge C (tgt := 61) dX2_greatestBlock_6 (by decide) (fun c6 => ?_) (fun c6 => ?_)
    · -- 61
      have c6 : 5 ≤ 5 := (nI_leI (by omega) (by omega)).mp c6
      refine g_iload_n C 1 rfl dX2_greatestBlock_61 ?_
      exact g_iret C rfl dX2_greatestBlock_62 () rfl rfl rfl rfl (Nat.le_of_ble_eq_true rfl) (Nat.le_of_ble_eq_true rfl)
    · -- 9
      have c6 : 5 < 5 := Nat.lt_of_not_le (fun z => c6 ((nI_leI (by omega) (by omega)).mpr z))
      exact absurd c6 (by omega)
  · -- loop 4: its body
    refine g_iload_n C 0 rfl dX2_greatestBlock_4 ?_
    refine g_iconst C (v := nI 5) dX2_greatestBlock_5 (by decide) ?_
    refine g_icmp_ge C (tgt := 61) dX2_greatestBlock_6 (by decide) (fun c6 => ?_) (fun c6 => ?_)
    · -- 61
      have c6 : 5 ≤ i := (nI_leI (by omega) (by omega)).mp c6
      exact absurd c6 (by omega)
    · -- 9
      have c6 : i < 5 := Nat.lt_of_not_le (fun z => c6 ((nI_leI (by omega) (by omega)).mpr z))
      refine g_aload_n C 2 rfl dX2_greatestBlock_9 ?_
      refine g_iload_n C 0 rfl dX2_greatestBlock_10 ?_
      refine g_calli C (r_V C (st := []) (c_X2_goodColumns l V (by omega) h0 h1 h2 i (by omega)) (cwV 1 C.ts gX2_greatestBlock_X2_goodColumns rfl rfl rfl (by decide +kernel) ⟨(Nat.le_of_ble_eq_true rfl), (Nat.le_of_ble_eq_true rfl)⟩) (by omega) h0 rfl rfl rfl (Nat.le_of_ble_eq_true rfl) dX2_greatestBlock_11 ⟨(Nat.le_of_ble_eq_true rfl), (Nat.le_of_ble_eq_true rfl)⟩) (fun r u hu => ?_)
      subst hu
      refine g_istore_n C (lv' := [(3, .int (s_good f t i 6)), (2, .int (nI i)), (1, .int (s_blk f t i)), (0, .ref (ad k))]) dX2_greatestBlock_14 (by decide) rfl ?_
      refine g_iload_n C 1 rfl dX2_greatestBlock_15 ?_
      refine g_istore C (lv' := [(4, .int (nI i)), (3, .int (s_good f t i 6)), (2, .int (nI i)), (1, .int (s_blk f t i)), (0, .ref (ad k))]) dX2_greatestBlock_16 (by decide) rfl ?_
      refine g_lv [0, 1, 2, 3, 4] (lv' := [(4, .int (nI i)), (3, .int (s_good f t i 6)), (2, .int (nI i)), (1, .int (s_blk f t i)), (0, .ref (ad k))]) rfl ?_
      refine g_for (5 - i) (fun (j : Nat) => [(4, .int (nI (i + j))), (3, .int (s_cols f t i j)), (2, .int (nI i)), (1, .int (s_down f t i (s_blk f t i) j)), (0, .ref (ad k))]) ?_ (fun j hj jh => ?_)
      · -- loop 18: its end
        refine g_iload C 0 rfl dX2_greatestBlock_18 ?_
        refine g_iconst C (v := nI 5) dX2_greatestBlock_20 (by decide) ?_
        refine g_icmp_ge C (tgt := 55) dX2_greatestBlock_21 (by decide) (fun c21 => ?_) (fun c21 => ?_)
        · -- 55
          have c21 : 5 ≤ (i + (5 - i)) := (nI_leI (by omega) (by omega)).mp c21
          refine g_iinc C 2 rfl (v := nI (i + 1)) (lv' := [(2, .int (nI (i + 1))), (4, .int (nI (i + (5 - i)))), (3, .int (s_cols f t i (5 - i))), (1, .int (s_down f t i (s_blk f t i) (5 - i))), (0, .ref (ad k))]) dX2_greatestBlock_55 (nI_add _ _) (by decide) rfl ?_
          refine g_goto C (tgt := 4) dX2_greatestBlock_58 (by decide) ?_
          refine g_lv [0, 3, 4] (lv' := [(2, .int (nI (i + 1))), (1, .int (s_down f t i (s_blk f t i) (5 - i))), (0, .ref (ad k))]) rfl ?_
          exact ih
        · -- 24
          have c21 : (i + (5 - i)) < 5 := Nat.lt_of_not_le (fun z => c21 ((nI_leI (by omega) (by omega)).mpr z))
          exact absurd c21 (by omega)
      · -- loop 18: its body
        refine g_iload C 0 rfl dX2_greatestBlock_18 ?_
        refine g_iconst C (v := nI 5) dX2_greatestBlock_20 (by decide) ?_
        refine g_icmp_ge C (tgt := 55) dX2_greatestBlock_21 (by decide) (fun c21 => ?_) (fun c21 => ?_)
        · -- 55
          have c21 : 5 ≤ (i + j) := (nI_leI (by omega) (by omega)).mp c21
          exact absurd c21 (by omega)
        · -- 24
          have c21 : (i + j) < 5 := Nat.lt_of_not_le (fun z => c21 ((nI_leI (by omega) (by omega)).mpr z))
          refine g_iload_n C 1 rfl dX2_greatestBlock_24 ?_
          refine g_aload_n C 4 rfl dX2_greatestBlock_25 ?_
          refine g_iload C 0 rfl dX2_greatestBlock_26 ?_
          refine g_calli C (r_V C (st := [.int (s_cols f t i j)]) (c_X2_goodColumns l V (by omega) h0 h1 h2 (i + j) (by omega)) (cwV 1 C.ts gX2_greatestBlock_X2_goodColumns rfl rfl rfl (by decide +kernel) ⟨(Nat.le_of_ble_eq_true rfl), (Nat.le_of_ble_eq_true rfl)⟩) (by omega) h0 rfl rfl rfl (Nat.le_of_ble_eq_true rfl) dX2_greatestBlock_28 ⟨(Nat.le_of_ble_eq_true rfl), (Nat.le_of_ble_eq_true rfl)⟩) (fun r u hu => ?_)
          subst hu
          refine g_iand C (v := (s_cols f t i j) &&& (s_good f t (i + j) 6)) dX2_greatestBlock_31 rfl ?_
          refine g_istore_n C (lv' := [(3, .int ((s_cols f t i j) &&& (s_good f t (i + j) 6))), (4, .int (nI (i + j))), (2, .int (nI i)), (1, .int (s_down f t i (s_blk f t i) j)), (0, .ref (ad k))]) dX2_greatestBlock_32 (by decide) rfl ?_
          refine g_iload_n C 3 rfl dX2_greatestBlock_33 ?_
          refine g_iload C 1 rfl dX2_greatestBlock_34 ?_
          refine g_iload_n C 2 rfl dX2_greatestBlock_36 ?_
          refine g_isub C (v := nI j) dX2_greatestBlock_37 (by rw [pk_sub (by omega)]; exact congrArg nI (by omega)) ?_
          refine g_iconst C (v := nI 1) dX2_greatestBlock_38 (by decide) ?_
          refine g_iadd C (v := nI (j + 1)) dX2_greatestBlock_39 (nI_add _ _) ?_
          refine g_iload_n C 0 rfl dX2_greatestBlock_40 ?_
          refine g_calli C (r_S C (st := [.int (nI (j + 1)), .int (s_down f t i (s_blk f t i) j)]) (c_X2_longestRun l V ((s_cols f t i j) &&& (s_good f t (i + j) 6))) (va_cwS 1 C.ts gX2_greatestBlock_X2_longestRun rfl rfl rfl (by decide +kernel) ⟨(Nat.le_of_ble_eq_true rfl), (Nat.le_of_ble_eq_true rfl)⟩) rfl rfl (Nat.le_of_ble_eq_true rfl) dX2_greatestBlock_41 ⟨(Nat.le_of_ble_eq_true rfl), (Nat.le_of_ble_eq_true rfl)⟩) (fun r u hu => ?_)
          subst hu
          refine g_imul C (v := (nI (j + 1)) * (s_longest ((s_cols f t i j) &&& (s_good f t (i + j) 6)) 6)) dX2_greatestBlock_44 rfl ?_
          refine g_mmax C (v := s_max (s_down f t i (s_blk f t i) j) ((nI (j + 1)) * (s_longest ((s_cols f t i j) &&& (s_good f t (i + j) 6)) 6))) rfl (List.mem_of_getElem? (i := 1) rfl) (List.mem_of_getElem? (i := 2) rfl) (List.mem_of_getElem? (i := 3) rfl) (List.mem_of_getElem? (i := 4) rfl) (Nat.le_of_ble_eq_true rfl) (Nat.le_of_ble_eq_true rfl) (Nat.le_of_ble_eq_true rfl) (Nat.le_of_ble_eq_true rfl) dX2_greatestBlock_45 ?_
          refine g_istore_n C (lv' := [(1, .int (s_max (s_down f t i (s_blk f t i) j) ((nI (j + 1)) * (s_longest ((s_cols f t i j) &&& (s_good f t (i + j) 6)) 6)))), (3, .int ((s_cols f t i j) &&& (s_good f t (i + j) 6))), (4, .int (nI (i + j))), (2, .int (nI i)), (0, .ref (ad k))]) dX2_greatestBlock_48 (by decide) rfl ?_
          refine g_iinc C 2 rfl (v := nI (i + j + 1)) (lv' := [(4, .int (nI (i + j + 1))), (1, .int (s_max (s_down f t i (s_blk f t i) j) ((nI (j + 1)) * (s_longest ((s_cols f t i j) &&& (s_good f t (i + j) 6)) 6)))), (3, .int ((s_cols f t i j) &&& (s_good f t (i + j) 6))), (2, .int (nI i)), (0, .ref (ad k))]) dX2_greatestBlock_49 (nI_add _ _) (by decide) rfl ?_
          refine g_goto C (tgt := 18) dX2_greatestBlock_52 (by decide) ?_
          refine g_lv [0, 2, 3, 1, 4] (lv' := [(4, .int (nI (i + j + 1))), (3, .int ((s_cols f t i j) &&& (s_good f t (i + j) 6))), (2, .int (nI i)), (1, .int (s_max (s_down f t i (s_blk f t i) j) ((nI (j + 1)) * (s_longest ((s_cols f t i j) &&& (s_good f t (i + j) 6)) 6)))), (0, .ref (ad k))]) rfl ?_
          exact jh

set_option maxHeartbeats 4000000 in
set_option maxRecDepth 100000 in
theorem c_X2_answer (l : Launch) (V : gT) {n : Nat} {ad : Nat → Nat} {el : Nat → va_E} {k : Nat} {f t : Nat → Int32} (hk : k + 2 < n) (h0 : el k = .inr (2, [.ref (ad (k + 1)), .ref (ad (k + 2))])) (h1 : el (k + 1) = .inl (V.2 0, 30, .inl f)) (h2 : el (k + 2) = .inl (V.2 1, 30, .inl t)) (x : Int32) : TT l V yX2_answer wsX2_answer { frames := 3, cells := 0, slots := 0, locals := 71 } n ad el [.ref (ad k), .int x] (QIr V n ad el (fun r => r = s_sheet f t x)) 0 0 := by
  refine TT.body (cc := cX2_answer) (maxL := 2) (ret := (some .int)) (by decide) rfl (Nat.le_of_ble_eq_true rfl) ?_
  intro p e s m below meth c C hnm
  refine g_lv [0, 1] (lv' := [(0, .ref (ad k)), (1, .int x)]) rfl ?_
  refine g_iload_n C 1 rfl dX2_answer_0 ?_
  by_cases q0 : x = 0
  · -- case
    refine g_tableIn C (tgt := 36) (off := 35) dX2_answer_1 (by rw [q0]; decide) (by rw [q0]; decide) (by rw [q0]; rfl) (by decide) ?_
    refine g_aload_n C 0 rfl dX2_answer_36 ?_
    refine g_calli C (r_V C (st := []) (c_X2_left l V (by omega) h0 h1 h2) (cwV 0 C.ts gX2_answer_X2_left rfl rfl rfl (by decide +kernel) ⟨(Nat.le_of_ble_eq_true rfl), (Nat.le_of_ble_eq_true rfl)⟩) (by omega) h0 rfl rfl rfl (Nat.le_of_ble_eq_true rfl) dX2_answer_37 ⟨(Nat.le_of_ble_eq_true rfl), (Nat.le_of_ble_eq_true rfl)⟩) (fun r u hu => ?_)
    subst hu
    exact g_iret C rfl dX2_answer_40 () rfl rfl rfl (by rw [s_sheet, if_pos q0]) (Nat.le_of_ble_eq_true rfl) (Nat.le_of_ble_eq_true rfl)
  by_cases q1 : x = 1
  · -- case
    refine g_tableIn C (tgt := 41) (off := 40) dX2_answer_1 (by rw [q1]; decide) (by rw [q1]; decide) (by rw [q1]; rfl) (by decide) ?_
    refine g_aload_n C 0 rfl dX2_answer_41 ?_
    refine g_iconst C (v := nI 0) dX2_answer_42 (by decide) ?_
    refine g_calli C (r_V C (st := []) (c_X2_leftWith l V (by omega) h0 h1 h2 0) (cwV 1 C.ts gX2_answer_X2_leftWith rfl rfl rfl (by decide +kernel) ⟨(Nat.le_of_ble_eq_true rfl), (Nat.le_of_ble_eq_true rfl)⟩) (by omega) h0 rfl rfl rfl (Nat.le_of_ble_eq_true rfl) dX2_answer_43 ⟨(Nat.le_of_ble_eq_true rfl), (Nat.le_of_ble_eq_true rfl)⟩) (fun r u hu => ?_)
    subst hu
    exact g_iret C rfl dX2_answer_46 () rfl rfl rfl (by rw [s_sheet, if_neg q0, if_pos q1]) (Nat.le_of_ble_eq_true rfl) (Nat.le_of_ble_eq_true rfl)
  by_cases q2 : x = 2
  · -- case
    refine g_tableIn C (tgt := 47) (off := 46) dX2_answer_1 (by rw [q2]; decide) (by rw [q2]; decide) (by rw [q2]; rfl) (by decide) ?_
    refine g_aload_n C 0 rfl dX2_answer_47 ?_
    refine g_calli C (r_V C (st := []) (c_X2_worth l V (by omega) h0 h1 h2) (cwV 0 C.ts gX2_answer_X2_worth rfl rfl rfl (by decide +kernel) ⟨(Nat.le_of_ble_eq_true rfl), (Nat.le_of_ble_eq_true rfl)⟩) (by omega) h0 rfl rfl rfl (Nat.le_of_ble_eq_true rfl) dX2_answer_48 ⟨(Nat.le_of_ble_eq_true rfl), (Nat.le_of_ble_eq_true rfl)⟩) (fun r u hu => ?_)
    subst hu
    exact g_iret C rfl dX2_answer_51 () rfl rfl rfl (by rw [s_sheet, if_neg q0, if_neg q1, if_pos q2]) (Nat.le_of_ble_eq_true rfl) (Nat.le_of_ble_eq_true rfl)
  by_cases q3 : x = 3
  · -- case
    refine g_tableIn C (tgt := 52) (off := 51) dX2_answer_1 (by rw [q3]; decide) (by rw [q3]; decide) (by rw [q3]; rfl) (by decide) ?_
    refine g_aload_n C 0 rfl dX2_answer_52 ?_
    refine g_calli C (r_V C (st := []) (c_X2_invertedPairs l V (by omega) h0 h1 h2) (cwV 0 C.ts gX2_answer_X2_invertedPairs rfl rfl rfl (by decide +kernel) ⟨(Nat.le_of_ble_eq_true rfl), (Nat.le_of_ble_eq_true rfl)⟩) (by omega) h0 rfl rfl rfl (Nat.le_of_ble_eq_true rfl) dX2_answer_53 ⟨(Nat.le_of_ble_eq_true rfl), (Nat.le_of_ble_eq_true rfl)⟩) (fun r u hu => ?_)
    subst hu
    exact g_iret C rfl dX2_answer_56 () rfl rfl rfl (by rw [s_sheet, if_neg q0, if_neg q1, if_neg q2, if_pos q3]) (Nat.le_of_ble_eq_true rfl) (Nat.le_of_ble_eq_true rfl)
  by_cases q4 : x = 4
  · -- case
    refine g_tableIn C (tgt := 57) (off := 56) dX2_answer_1 (by rw [q4]; decide) (by rw [q4]; decide) (by rw [q4]; rfl) (by decide) ?_
    refine g_aload_n C 0 rfl dX2_answer_57 ?_
    refine g_calli C (r_V C (st := []) (c_X2_rowsOff l V (by omega) h0 h1 h2) (cwV 0 C.ts gX2_answer_X2_rowsOff rfl rfl rfl (by decide +kernel) ⟨(Nat.le_of_ble_eq_true rfl), (Nat.le_of_ble_eq_true rfl)⟩) (by omega) h0 rfl rfl rfl (Nat.le_of_ble_eq_true rfl) dX2_answer_58 ⟨(Nat.le_of_ble_eq_true rfl), (Nat.le_of_ble_eq_true rfl)⟩) (fun r u hu => ?_)
    subst hu
    exact g_iret C rfl dX2_answer_61 () rfl rfl rfl (by rw [s_sheet, if_neg q0, if_neg q1, if_neg q2, if_neg q3, if_pos q4]) (Nat.le_of_ble_eq_true rfl) (Nat.le_of_ble_eq_true rfl)
  have qq : x.toInt < 0 ∨ 4 < x.toInt := by
    have z0 : x.toInt ≠ 0 := fun z => q0 (Int32.toInt_inj.mp z)
    have z1 : x.toInt ≠ 1 := fun z => q1 (Int32.toInt_inj.mp z)
    have z2 : x.toInt ≠ 2 := fun z => q2 (Int32.toInt_inj.mp z)
    have z3 : x.toInt ≠ 3 := fun z => q3 (Int32.toInt_inj.mp z)
    have z4 : x.toInt ≠ 4 := fun z => q4 (Int32.toInt_inj.mp z)
    omega
  refine g_tableOut C (tgt := 62) dX2_answer_1 qq (by decide) ?_
  refine g_aload_n C 0 rfl dX2_answer_62 ?_
  refine g_calli C (r_V C (st := []) (c_X2_greatestBlock l V (by omega) h0 h1 h2) (cwV 0 C.ts gX2_answer_X2_greatestBlock rfl rfl rfl (by decide +kernel) ⟨(Nat.le_of_ble_eq_true rfl), (Nat.le_of_ble_eq_true rfl)⟩) (by omega) h0 rfl rfl rfl (Nat.le_of_ble_eq_true rfl) dX2_answer_63 ⟨(Nat.le_of_ble_eq_true rfl), (Nat.le_of_ble_eq_true rfl)⟩) (fun r u hu => ?_)
  subst hu
  exact g_iret C rfl dX2_answer_66 () rfl rfl rfl (by rw [s_sheet, if_neg q0, if_neg q1, if_neg q2, if_neg q3, if_neg q4]) (Nat.le_of_ble_eq_true rfl) (Nat.le_of_ble_eq_true rfl)

set_option maxHeartbeats 4000000 in
set_option maxRecDepth 100000 in
theorem c_X2_addToDigest (l : Launch) (V : gT) {n : Nat} {ad : Nat → Nat} {el : Nat → va_E} {k : Nat} {f t : Nat → Int32} (hk : k + 2 < n) (h0 : el k = .inr (2, [.ref (ad (k + 1)), .ref (ad (k + 2))])) (h1 : el (k + 1) = .inl (V.2 0, 30, .inl f)) (h2 : el (k + 2) = .inl (V.2 1, 30, .inl t)) (d : Int64) : TT l V yX2_addToDigest wsX2_addToDigest { frames := 4, cells := 0, slots := 0, locals := 92 } n ad el [.ref (ad k), .long d] (QLr V n ad el (fun r => r = s_digS f t d)) 0 0 := by
  refine TT.body (cc := cX2_addToDigest) (maxL := 6) (ret := (some .long)) (by decide) rfl (Nat.le_of_ble_eq_true rfl) ?_
  intro p e s m below meth c C hnm
  refine g_lv [0, 1] (lv' := [(0, .ref (ad k)), (1, .long d)]) rfl ?_
  refine g_lload_n C 1 rfl dX2_addToDigest_0 ?_
  refine g_lstore_n C (lv' := [(3, .long d), (0, .ref (ad k)), (1, .long d)]) dX2_addToDigest_1 (by decide) rfl ?_
  refine g_iconst C (v := nI 0) dX2_addToDigest_2 (by decide) ?_
  refine g_istore C (lv' := [(5, .int (nI 0)), (3, .long d), (0, .ref (ad k)), (1, .long d)]) dX2_addToDigest_3 (by decide) rfl ?_
  refine g_lv [0, 1, 2] (lv' := [(5, .int (nI 0)), (3, .long d), (0, .ref (ad k))]) rfl ?_
  refine g_for 6 (fun (i : Nat) => [(5, .int (nI i)), (3, .long (s_dig (fun w => s_sheet f t (nI w)) d i)), (0, .ref (ad k))]) ?_ (fun i hi ih => ?_)
  · -- loop 5: its end
    refine g_iload C 0 rfl dX2_addToDigest_5 ?_
    refine g_bipush C (v := nI 6) dX2_addToDigest_7 (by decide) ?_
    refine g_icmp_ge C (tgt := 32) dX2_addToDigest_9 (by decide) (fun c9 => ?_) (fun c9 => ?_)
    · -- 32
      have c9 : 6 ≤ 6 := (nI_leI (by omega) (by omega)).mp c9
      refine g_iconst C (v := nI 0) dX2_addToDigest_32 (by decide) ?_
      refine g_istore C (lv' := [(5, .int (nI 0)), (3, .long (s_dig (fun w => s_sheet f t (nI w)) d 6)), (0, .ref (ad k))]) dX2_addToDigest_33 (by decide) rfl ?_
      refine g_lv [0, 1, 2] (lv' := [(5, .int (nI 0)), (3, .long (s_dig (fun w => s_sheet f t (nI w)) d 6)), (0, .ref (ad k))]) rfl ?_
      refine g_for 30 (fun (i : Nat) => [(5, .int (nI i)), (3, .long (s_dig2 f (fun j => s_worth (f j) (t j)) (s_dig (fun w => s_sheet f t (nI w)) d 6) i)), (0, .ref (ad k))]) ?_ (fun i hi ih => ?_)
      · -- loop 35: its end
        refine g_iload C 0 rfl dX2_addToDigest_35 ?_
        refine g_bipush C (v := nI 30) dX2_addToDigest_37 (by decide) ?_
        refine g_icmp_ge C (tgt := 77) dX2_addToDigest_39 (by decide) (fun c39 => ?_) (fun c39 => ?_)
        · -- 77
          have c39 : 30 ≤ 30 := (nI_leI (by omega) (by omega)).mp c39
          refine g_lload_n C 1 rfl dX2_addToDigest_77 ?_
          exact g_lret C rfl dX2_addToDigest_78 () rfl rfl rfl rfl (Nat.le_of_ble_eq_true rfl) (Nat.le_of_ble_eq_true rfl)
        · -- 42
          have c39 : 30 < 30 := Nat.lt_of_not_le (fun z => c39 ((nI_leI (by omega) (by omega)).mpr z))
          exact absurd c39 (by omega)
      · -- loop 35: its body
        refine g_iload C 0 rfl dX2_addToDigest_35 ?_
        refine g_bipush C (v := nI 30) dX2_addToDigest_37 (by decide) ?_
        refine g_icmp_ge C (tgt := 77) dX2_addToDigest_39 (by decide) (fun c39 => ?_) (fun c39 => ?_)
        · -- 77
          have c39 : 30 ≤ i := (nI_leI (by omega) (by omega)).mp c39
          exact absurd c39 (by omega)
        · -- 42
          have c39 : i < 30 := Nat.lt_of_not_le (fun z => c39 ((nI_leI (by omega) (by omega)).mpr z))
          refine g_lload_n C 1 rfl dX2_addToDigest_42 ?_
          refine g_ldc2 C (v := 31) (C.ts _ (List.mem_of_getElem? (i := 1) rfl)) dX2_addToDigest_43 ?_
          refine g_lmul C (v := (s_dig2 f (fun j => s_worth (f j) (t j)) (s_dig (fun w => s_sheet f t (nI w)) d 6) i) * 31) dX2_addToDigest_46 rfl ?_
          refine g_aload_n C 2 rfl dX2_addToDigest_47 ?_
          refine g_getf C k (by omega) h0 rfl 0 (by decide) (fun w h => (List.mem_cons_of_mem _ (List.mem_append_right _ h))) (List.mem_of_getElem? (i := 2) rfl) rfl rfl dX2_addToDigest_48 ?_
          refine g_iload C 0 rfl dX2_addToDigest_51 ?_
          refine g_iald C (k + 1) (by omega) h1 i rfl (by omega) (by decide) dX2_addToDigest_53 ?_
          refine g_i2l C (v := (f i).toInt64) dX2_addToDigest_54 rfl ?_
          refine g_ladd C (v := ((s_dig2 f (fun j => s_worth (f j) (t j)) (s_dig (fun w => s_sheet f t (nI w)) d 6) i) * 31) + ((f i).toInt64)) dX2_addToDigest_55 rfl ?_
          refine g_lstore_n C (lv' := [(3, .long (((s_dig2 f (fun j => s_worth (f j) (t j)) (s_dig (fun w => s_sheet f t (nI w)) d 6) i) * 31) + ((f i).toInt64))), (5, .int (nI i)), (0, .ref (ad k))]) dX2_addToDigest_56 (by decide) rfl ?_
          refine g_lload_n C 0 rfl dX2_addToDigest_57 ?_
          refine g_ldc2 C (v := 31) (C.ts _ (List.mem_of_getElem? (i := 1) rfl)) dX2_addToDigest_58 ?_
          refine g_lmul C (v := (((s_dig2 f (fun j => s_worth (f j) (t j)) (s_dig (fun w => s_sheet f t (nI w)) d 6) i) * 31) + ((f i).toInt64)) * 31) dX2_addToDigest_61 rfl ?_
          refine g_aload_n C 2 rfl dX2_addToDigest_62 ?_
          refine g_iload C 1 rfl dX2_addToDigest_63 ?_
          refine g_calli C (r_V C (st := [.long ((((s_dig2 f (fun j => s_worth (f j) (t j)) (s_dig (fun w => s_sheet f t (nI w)) d 6) i) * 31) + ((f i).toInt64)) * 31)]) (c_X2_worthOf l V (by omega) h0 h1 h2 i (by omega)) (cwV 1 C.ts gX2_addToDigest_X2_worthOf rfl rfl rfl (by decide +kernel) ⟨(Nat.le_of_ble_eq_true rfl), (Nat.le_of_ble_eq_true rfl)⟩) (by omega) h0 rfl rfl rfl (Nat.le_of_ble_eq_true rfl) dX2_addToDigest_65 ⟨(Nat.le_of_ble_eq_true rfl), (Nat.le_of_ble_eq_true rfl)⟩) (fun r u hu => ?_)
          subst hu
          refine g_i2l C (v := (s_worth (f i) (t i)).toInt64) dX2_addToDigest_68 rfl ?_
          refine g_ladd C (v := ((((s_dig2 f (fun j => s_worth (f j) (t j)) (s_dig (fun w => s_sheet f t (nI w)) d 6) i) * 31) + ((f i).toInt64)) * 31) + ((s_worth (f i) (t i)).toInt64)) dX2_addToDigest_69 rfl ?_
          refine g_lstore_n C (lv' := [(3, .long (((((s_dig2 f (fun j => s_worth (f j) (t j)) (s_dig (fun w => s_sheet f t (nI w)) d 6) i) * 31) + ((f i).toInt64)) * 31) + ((s_worth (f i) (t i)).toInt64))), (5, .int (nI i)), (0, .ref (ad k))]) dX2_addToDigest_70 (by decide) rfl ?_
          refine g_iinc C 1 rfl (v := nI (i + 1)) (lv' := [(5, .int (nI (i + 1))), (3, .long (((((s_dig2 f (fun j => s_worth (f j) (t j)) (s_dig (fun w => s_sheet f t (nI w)) d 6) i) * 31) + ((f i).toInt64)) * 31) + ((s_worth (f i) (t i)).toInt64))), (0, .ref (ad k))]) dX2_addToDigest_71 (nI_add _ _) (by decide) rfl ?_
          refine g_goto C (tgt := 35) dX2_addToDigest_74 (by decide) ?_
          refine g_lv [0, 1, 2] (lv' := [(5, .int (nI (i + 1))), (3, .long (((((s_dig2 f (fun j => s_worth (f j) (t j)) (s_dig (fun w => s_sheet f t (nI w)) d 6) i) * 31) + ((f i).toInt64)) * 31) + ((s_worth (f i) (t i)).toInt64))), (0, .ref (ad k))]) rfl ?_
          exact ih
    · -- 12
      have c9 : 6 < 6 := Nat.lt_of_not_le (fun z => c9 ((nI_leI (by omega) (by omega)).mpr z))
      exact absurd c9 (by omega)
  · -- loop 5: its body
    refine g_iload C 0 rfl dX2_addToDigest_5 ?_
    refine g_bipush C (v := nI 6) dX2_addToDigest_7 (by decide) ?_
    refine g_icmp_ge C (tgt := 32) dX2_addToDigest_9 (by decide) (fun c9 => ?_) (fun c9 => ?_)
    · -- 32
      have c9 : 6 ≤ i := (nI_leI (by omega) (by omega)).mp c9
      exact absurd c9 (by omega)
    · -- 12
      have c9 : i < 6 := Nat.lt_of_not_le (fun z => c9 ((nI_leI (by omega) (by omega)).mpr z))
      refine g_lload_n C 1 rfl dX2_addToDigest_12 ?_
      refine g_ldc2 C (v := 31) (C.ts _ (List.mem_of_getElem? (i := 1) rfl)) dX2_addToDigest_13 ?_
      refine g_lmul C (v := (s_dig (fun w => s_sheet f t (nI w)) d i) * 31) dX2_addToDigest_16 rfl ?_
      refine g_aload_n C 2 rfl dX2_addToDigest_17 ?_
      refine g_iload C 0 rfl dX2_addToDigest_18 ?_
      refine g_calli C (r_V C (st := [.long ((s_dig (fun w => s_sheet f t (nI w)) d i) * 31)]) (c_X2_answer l V (by omega) h0 h1 h2 (nI i)) (cwV 1 C.ts gX2_addToDigest_X2_answer rfl rfl rfl (by decide +kernel) ⟨(Nat.le_of_ble_eq_true rfl), (Nat.le_of_ble_eq_true rfl)⟩) (by omega) h0 rfl rfl rfl (Nat.le_of_ble_eq_true rfl) dX2_addToDigest_20 ⟨(Nat.le_of_ble_eq_true rfl), (Nat.le_of_ble_eq_true rfl)⟩) (fun r u hu => ?_)
      subst hu
      refine g_i2l C (v := (s_sheet f t (nI i)).toInt64) dX2_addToDigest_23 rfl ?_
      refine g_ladd C (v := ((s_dig (fun w => s_sheet f t (nI w)) d i) * 31) + ((s_sheet f t (nI i)).toInt64)) dX2_addToDigest_24 rfl ?_
      refine g_lstore_n C (lv' := [(3, .long (((s_dig (fun w => s_sheet f t (nI w)) d i) * 31) + ((s_sheet f t (nI i)).toInt64))), (5, .int (nI i)), (0, .ref (ad k))]) dX2_addToDigest_25 (by decide) rfl ?_
      refine g_iinc C 1 rfl (v := nI (i + 1)) (lv' := [(5, .int (nI (i + 1))), (3, .long (((s_dig (fun w => s_sheet f t (nI w)) d i) * 31) + ((s_sheet f t (nI i)).toInt64))), (0, .ref (ad k))]) dX2_addToDigest_26 (nI_add _ _) (by decide) rfl ?_
      refine g_goto C (tgt := 5) dX2_addToDigest_29 (by decide) ?_
      refine g_lv [0, 1, 2] (lv' := [(5, .int (nI (i + 1))), (3, .long (((s_dig (fun w => s_sheet f t (nI w)) d i) * 31) + ((s_sheet f t (nI i)).toInt64))), (0, .ref (ad k))]) rfl ?_
      exact ih
end
section
/-! ===== the machine: what it is in cells, what it computes ===== -/
def MacAt (V : gT) (ad : Nat → Nat) (el : Nat → va_E) (k : Nat) (M St We : Nat → Int32) : Prop :=
  el k = .inr (0, [.ref (ad (k + 1)), .int (M 0), .int (M 1), .int (M 2), .int (M 3), .int (M 5), .int (M 4)]) ∧ (∃ g : Nat → Option Nat, el (k + 1) = .inl (V.2 3, 7, .inr (.inr (.inr (.inr g)))) ∧ ∀ i, i < 7 → g i = some (ad (k + 2 + i))) ∧ ∀ i, i < 7 → el (k + 2 + i) = .inr (1, [.int (St i), .int (We i)])
theorem MacAt.keep {V : gT} {ad : Nat → Nat} {el el' : Nat → va_E} {k : Nat} {M St We : Nat → Int32} (h : MacAt V ad el k M St We) (ho : ∀ j, k ≤ j → j < k + 9 → el' j = el j) : MacAt V ad el' k M St We := by
  obtain ⟨h1, ⟨g, h2, h3⟩, h4⟩ := h
  exact ⟨(ho k (by omega) (by omega)).trans h1, ⟨g, (ho _ (by omega) (by omega)).trans h2, h3⟩, fun i hi => (ho _ (by omega) (by omega)).trans (h4 i hi)⟩
theorem MacAt.adr {V : gT} {ad ad' : Nat → Nat} {el : Nat → va_E} {k : Nat} {M St We : Nat → Int32} (h : MacAt V ad el k M St We) (ho : ∀ j, k ≤ j → j < k + 9 → ad' j = ad j) : MacAt V ad' el k M St We := by
  obtain ⟨h1, ⟨g, h2, h3⟩, h4⟩ := h
  refine ⟨by rw [h1, ho _ (by omega) (by omega)], ⟨g, h2, fun i hi => by rw [h3 i hi, ho _ (by omega) (by omega)]⟩, h4⟩
theorem MacAt.we {V : gT} {ad : Nat → Nat} {el : Nat → va_E} {k : Nat} {M St We We' : Nat → Int32} (h : MacAt V ad el k M St We) (hw : ∀ i, i < 7 → We' i = We i) : MacAt V ad el k M St We' :=
  ⟨h.1, h.2.1, fun i hi => by rw [h.2.2 i hi, hw i hi]⟩
def ShtAt (V : gT) (ad : Nat → Nat) (el : Nat → va_E) (k : Nat) (f t : Nat → Int32) : Prop :=
  el k = .inr (2, [.ref (ad (k + 1)), .ref (ad (k + 2))]) ∧ el (k + 1) = .inl (V.2 0, 30, .inl f) ∧ el (k + 2) = .inl (V.2 1, 30, .inl t)
theorem ShtAt.keep {V : gT} {ad : Nat → Nat} {el el' : Nat → va_E} {k : Nat} {f t : Nat → Int32} (h : ShtAt V ad el k f t) (ho : ∀ j, k ≤ j → j < k + 3 → el' j = el j) : ShtAt V ad el' k f t :=
  ⟨(ho k (by omega) (by omega)).trans h.1, (ho _ (by omega) (by omega)).trans h.2.1, (ho _ (by omega) (by omega)).trans h.2.2⟩
theorem ShtAt.adr {V : gT} {ad ad' : Nat → Nat} {el : Nat → va_E} {k : Nat} {f t : Nat → Int32} (h : ShtAt V ad el k f t) (ho : ∀ j, k ≤ j → j < k + 3 → ad' j = ad j) : ShtAt V ad' el k f t :=
  ⟨by rw [h.1, ho _ (by omega) (by omega), ho _ (by omega) (by omega)], h.2.1, h.2.2⟩
def s_in (x a b : Int32) : Int32 := if a ≤ x ∧ x ≤ b then 1 else 0
theorem s_in_1 {x a b : Int32} (h : ¬ s_in x a b = 0) : a ≤ x ∧ x ≤ b := by
  by_cases q : a ≤ x ∧ x ≤ b
  · exact q
  · rw [s_in, if_neg q] at h; exact absurd rfl h
theorem s_in_0 {x a b : Int32} (h : s_in x a b = 0) : ¬ (a ≤ x ∧ x ≤ b) := by
  intro q
  rw [s_in, if_pos q] at h
  exact absurd h (by decide)
/-- the machine's numbers: 0 feed, 1 drift, 2 error, 3 rows left, 4 step, 5 rows run -/
def s_offF (M : Nat → Int32) : Int32 := if s_in (M 2) (-6) 6 = 0 then 1 else 0
def s_hole1 (St We : Nat → Int32) (c : Nat) : Int32 := if We c ≤ St c then 0 else 2
def s_hole (St We : Nat → Int32) (c : Nat) : Int32 := if We (c + 1) ≤ St (c + 1) then s_hole1 St We c else s_hole1 St We c ||| 4
def s_wmi (M : Nat → Int32) (c : Nat) : Int32 := if 0 < M 4 ∧ M 5 + nI c - (M 5 + nI c) / M 4 * M 4 = 0 then 1 else 0
def s_stamp (M St We pl : Nat → Int32) (r c : Nat) : Int32 :=
  if s_wmi M c = 0 then (if pl (6 * r + c) = 0 then s_offF M ||| s_hole St We c else (s_offF M ||| s_hole St We c) ||| 8) ||| 16 else (if pl (6 * r + c) = 0 then s_offF M ||| s_hole St We c else (s_offF M ||| s_hole St We c) ||| 8)
def s_err (M : Nat → Int32) : Nat → Int32 := upd M 2 (M 2 + (M 0 - 20))
def s_rowM (M : Nat → Int32) : Nat → Int32 := upd (upd (s_err M) 3 (M 3 - 1)) 5 (M 5 + 1)
def s_rowW (St We : Nat → Int32) : Nat → Int32 := fun k => s_strike (St k) (We k)
def s_M (M : Nat → Int32) : Nat → Nat → Int32
  | 0 => M
  | r + 1 => s_rowM (s_M M r)
def s_W (St We : Nat → Int32) : Nat → Nat → Int32
  | 0 => We
  | r + 1 => s_rowW St (s_W St We r)
def s_fault (M St We pl : Nat → Int32) (j : Nat) : Int32 := s_stamp (s_err (s_M M (j / 6))) St (s_W St We (j / 6)) pl (j / 6) (j % 6)
def s_end (M : Nat → Int32) : Nat → Int32 := upd (s_M M 5) 0 (s_max 10 (s_min 30 (s_M M 5 0 + s_M M 5 1)))
def s_broken (St We : Nat → Int32) : Int32 := s_sum (fun i => if We i ≤ St i then 0 else 1) 7
/-- q sheets on end -/
def s_rM (M : Nat → Int32) : Nat → Nat → Int32
  | 0 => M
  | q + 1 => s_end (s_rM M q)
def s_rW (St We : Nat → Int32) : Nat → Nat → Int32
  | 0 => We
  | q + 1 => s_W St (s_rW St We q) 5
def s_tF (M St We pl : Nat → Int32) (q : Nat) : Nat → Int32 := s_fault (s_rM M q) St (s_rW St We q) pl
def s_tC (M St We pl t : Nat → Int32) : Nat → Int32 := s_sum (fun q => s_leftWith (s_tF M St We pl q) t 0)
def s_tV (M St We pl t : Nat → Int32) : Nat → Int32 := s_sum (fun q => s_worths (s_tF M St We pl q) t)
end
section
/-! ===== the machine's methods ===== -/
set_option maxHeartbeats 4000000 in
set_option maxRecDepth 100000 in
theorem c_X4_isWithin (l : Launch) (V : gT) {n : Nat} {ad : Nat → Nat} {el : Nat → va_E} (x a b : Int32) : TT l V yX4_isWithin wsX4_isWithin { frames := 0, cells := 0, slots := 0, locals := 0 } n ad el [.int x, .int a, .int b] (QIr V n ad el (fun r => r = s_in x a b)) 0 0 := by
  refine TT.body (cc := cX4_isWithin) (maxL := 3) (ret := (some .boolean)) (by decide) rfl (Nat.le_of_ble_eq_true rfl) ?_
  intro p e s m below meth c C hnm
  refine g_lv [0, 1, 2] (lv' := [(0, .int x), (1, .int a), (2, .int b)]) rfl ?_
  refine g_iload_n C 0 rfl dX4_isWithin_0 ?_
  refine g_iload_n C 1 rfl dX4_isWithin_1 ?_
  refine g_icmp_lt C (tgt := 14) dX4_isWithin_2 (by decide) (fun c2 => ?_) (fun c2 => ?_)
  · -- 14
    refine g_iconst C (v := nI 0) dX4_isWithin_14 (by decide) ?_
    exact g_zret C rfl rfl dX4_isWithin_15 () rfl rfl rfl (by rw [s_in, if_neg (fun z => i_nlt z.1 c2)] <;> rfl) (Nat.le_of_ble_eq_true rfl) (Nat.le_of_ble_eq_true rfl)
  · -- 5
    refine g_iload_n C 0 rfl dX4_isWithin_5 ?_
    refine g_iload_n C 2 rfl dX4_isWithin_6 ?_
    refine g_icmp_gt C (tgt := 14) dX4_isWithin_7 (by decide) (fun c7 => ?_) (fun c7 => ?_)
    · -- 14
      refine g_iconst C (v := nI 0) dX4_isWithin_14 (by decide) ?_
      exact g_zret C rfl rfl dX4_isWithin_15 () rfl rfl rfl (by rw [s_in, if_neg (fun z => i_nlt z.2 c7)] <;> rfl) (Nat.le_of_ble_eq_true rfl) (Nat.le_of_ble_eq_true rfl)
    · -- 10
      refine g_iconst C (v := nI 1) dX4_isWithin_10 (by decide) ?_
      refine g_goto C (tgt := 15) dX4_isWithin_11 (by decide) ?_
      exact g_zret C rfl rfl dX4_isWithin_15 () rfl rfl rfl (by rw [s_in, if_pos ⟨i_ge c2, i_ge c7⟩] <;> rfl) (Nat.le_of_ble_eq_true rfl) (Nat.le_of_ble_eq_true rfl)

set_option maxHeartbeats 4000000 in
set_option maxRecDepth 100000 in
theorem c_X0_holeFaults (l : Launch) (V : gT) {n : Nat} {ad : Nat → Nat} {el : Nat → va_E} {k : Nat} {M St We : Nat → Int32} (hk : k + 9 ≤ n) (h : MacAt V ad el k M St We) (cl : Nat) (hcl : cl < 6) : TT l V yX0_holeFaults wsX0_holeFaults { frames := 1, cells := 0, slots := 0, locals := 20 } n ad el [.ref (ad k), .int (nI cl)] (QIr V n ad el (fun r => r = s_hole St We cl)) 0 0 := by
  refine TT.body (cc := cX0_holeFaults) (maxL := 3) (ret := (some .int)) (by decide) rfl (Nat.le_of_ble_eq_true rfl) ?_
  intro p e s m below meth c C hnm
  refine g_lv [0, 1] (lv' := [(0, .ref (ad k)), (1, .int (nI cl))]) rfl ?_
  obtain ⟨hM1, ⟨g2, hA3, hg4⟩, hp5⟩ := id h
  refine g_iconst C (v := nI 0) dX0_holeFaults_0 (by decide) ?_
  refine g_istore_n C (lv' := [(2, .int (nI 0)), (0, .ref (ad k)), (1, .int (nI cl))]) dX0_holeFaults_1 (by decide) rfl ?_
  refine g_aload_n C 1 rfl dX0_holeFaults_2 ?_
  refine g_getf C k (by omega) hM1 rfl 0 (by decide) (fun w h => (List.mem_cons_of_mem _ (List.mem_append_left _ (List.mem_append_right _ h)))) (List.mem_of_getElem? (i := 1) rfl) rfl rfl dX0_holeFaults_3 ?_
  refine g_iload_n C 2 rfl dX0_holeFaults_6 ?_
  refine g_aald C (k + 1) (by omega) 3 rfl hA3 cl rfl (by omega) (by decide) (hg4 cl (by omega)) dX0_holeFaults_7 ?_
  refine g_calli C (r_V C (st := []) (c_X1_isWhole l V (by omega) (hp5 cl (by omega))) (cwV 0 C.ts gX0_holeFaults_X1_isWhole rfl rfl rfl (by decide +kernel) ⟨(Nat.le_of_ble_eq_true rfl), (Nat.le_of_ble_eq_true rfl)⟩) (by omega) (hp5 cl (by omega)) rfl rfl rfl (Nat.le_of_ble_eq_true rfl) dX0_holeFaults_8 ⟨(Nat.le_of_ble_eq_true rfl), (Nat.le_of_ble_eq_true rfl)⟩) (fun r u hu => ?_)
  subst hu
  refine g_if_ne C (tgt := 18) dX0_holeFaults_11 (by decide) (fun c11 => ?_) (fun c11 => ?_)
  · -- 18
    refine g_aload_n C 1 rfl dX0_holeFaults_18 ?_
    refine g_getf C k (by omega) hM1 rfl 0 (by decide) (fun w h => (List.mem_cons_of_mem _ (List.mem_append_left _ (List.mem_append_right _ h)))) (List.mem_of_getElem? (i := 1) rfl) rfl rfl dX0_holeFaults_19 ?_
    refine g_iload_n C 2 rfl dX0_holeFaults_22 ?_
    refine g_iconst C (v := nI 1) dX0_holeFaults_23 (by decide) ?_
    refine g_iadd C (v := nI (cl + 1)) dX0_holeFaults_24 (nI_add _ _) ?_
    refine g_aald C (k + 1) (by omega) 3 rfl hA3 (cl + 1) rfl (by omega) (by decide) (hg4 (cl + 1) (by omega)) dX0_holeFaults_25 ?_
    refine g_calli C (r_V C (st := []) (c_X1_isWhole l V (by omega) (hp5 (cl + 1) (by omega))) (cwV 0 C.ts gX0_holeFaults_X1_isWhole rfl rfl rfl (by decide +kernel) ⟨(Nat.le_of_ble_eq_true rfl), (Nat.le_of_ble_eq_true rfl)⟩) (by omega) (hp5 (cl + 1) (by omega)) rfl rfl rfl (Nat.le_of_ble_eq_true rfl) dX0_holeFaults_26 ⟨(Nat.le_of_ble_eq_true rfl), (Nat.le_of_ble_eq_true rfl)⟩) (fun r u hu => ?_)
    subst hu
    refine g_if_ne C (tgt := 36) dX0_holeFaults_29 (by decide) (fun c29 => ?_) (fun c29 => ?_)
    · -- 36
      refine g_iload_n C 0 rfl dX0_holeFaults_36 ?_
      exact g_iret C rfl dX0_holeFaults_37 () rfl rfl rfl (by rw [s_hole, s_hole1, if_pos (Classical.byContradiction (fun z => c29 (if_neg z))), if_pos (Classical.byContradiction (fun z => c11 (if_neg z)))] <;> rfl) (Nat.le_of_ble_eq_true rfl) (Nat.le_of_ble_eq_true rfl)
    · -- 32
      refine g_iload_n C 0 rfl dX0_holeFaults_32 ?_
      refine g_iconst C (v := nI 4) dX0_holeFaults_33 (by decide) ?_
      refine g_ior C (v := 0 ||| 4) dX0_holeFaults_34 rfl ?_
      refine g_istore_n C (lv' := [(2, .int (0 ||| 4)), (0, .ref (ad k)), (1, .int (nI cl))]) dX0_holeFaults_35 (by decide) rfl ?_
      refine g_iload_n C 0 rfl dX0_holeFaults_36 ?_
      exact g_iret C rfl dX0_holeFaults_37 () rfl rfl rfl (by rw [s_hole, s_hole1, if_neg (fun z => by rw [if_pos z] at c29; exact absurd c29 (by decide)), if_pos (Classical.byContradiction (fun z => c11 (if_neg z)))] <;> rfl) (Nat.le_of_ble_eq_true rfl) (Nat.le_of_ble_eq_true rfl)
  · -- 14
    refine g_iload_n C 0 rfl dX0_holeFaults_14 ?_
    refine g_iconst C (v := nI 2) dX0_holeFaults_15 (by decide) ?_
    refine g_ior C (v := 0 ||| 2) dX0_holeFaults_16 rfl ?_
    refine g_istore_n C (lv' := [(2, .int (0 ||| 2)), (0, .ref (ad k)), (1, .int (nI cl))]) dX0_holeFaults_17 (by decide) rfl ?_
    refine g_aload_n C 1 rfl dX0_holeFaults_18 ?_
    refine g_getf C k (by omega) hM1 rfl 0 (by decide) (fun w h => (List.mem_cons_of_mem _ (List.mem_append_left _ (List.mem_append_right _ h)))) (List.mem_of_getElem? (i := 1) rfl) rfl rfl dX0_holeFaults_19 ?_
    refine g_iload_n C 2 rfl dX0_holeFaults_22 ?_
    refine g_iconst C (v := nI 1) dX0_holeFaults_23 (by decide) ?_
    refine g_iadd C (v := nI (cl + 1)) dX0_holeFaults_24 (nI_add _ _) ?_
    refine g_aald C (k + 1) (by omega) 3 rfl hA3 (cl + 1) rfl (by omega) (by decide) (hg4 (cl + 1) (by omega)) dX0_holeFaults_25 ?_
    refine g_calli C (r_V C (st := []) (c_X1_isWhole l V (by omega) (hp5 (cl + 1) (by omega))) (cwV 0 C.ts gX0_holeFaults_X1_isWhole rfl rfl rfl (by decide +kernel) ⟨(Nat.le_of_ble_eq_true rfl), (Nat.le_of_ble_eq_true rfl)⟩) (by omega) (hp5 (cl + 1) (by omega)) rfl rfl rfl (Nat.le_of_ble_eq_true rfl) dX0_holeFaults_26 ⟨(Nat.le_of_ble_eq_true rfl), (Nat.le_of_ble_eq_true rfl)⟩) (fun r u hu => ?_)
    subst hu
    refine g_if_ne C (tgt := 36) dX0_holeFaults_29 (by decide) (fun c29 => ?_) (fun c29 => ?_)
    · -- 36
      refine g_iload_n C 0 rfl dX0_holeFaults_36 ?_
      exact g_iret C rfl dX0_holeFaults_37 () rfl rfl rfl (by rw [s_hole, s_hole1, if_pos (Classical.byContradiction (fun z => c29 (if_neg z))), if_neg (fun z => by rw [if_pos z] at c11; exact absurd c11 (by decide))] <;> rfl) (Nat.le_of_ble_eq_true rfl) (Nat.le_of_ble_eq_true rfl)
    · -- 32
      refine g_iload_n C 0 rfl dX0_holeFaults_32 ?_
      refine g_iconst C (v := nI 4) dX0_holeFaults_33 (by decide) ?_
      refine g_ior C (v := (0 ||| 2) ||| 4) dX0_holeFaults_34 rfl ?_
      refine g_istore_n C (lv' := [(2, .int ((0 ||| 2) ||| 4)), (0, .ref (ad k)), (1, .int (nI cl))]) dX0_holeFaults_35 (by decide) rfl ?_
      refine g_iload_n C 0 rfl dX0_holeFaults_36 ?_
      exact g_iret C rfl dX0_holeFaults_37 () rfl rfl rfl (by rw [s_hole, s_hole1, if_neg (fun z => by rw [if_pos z] at c29; exact absurd c29 (by decide)), if_neg (fun z => by rw [if_pos z] at c11; exact absurd c11 (by decide))] <;> rfl) (Nat.le_of_ble_eq_true rfl) (Nat.le_of_ble_eq_true rfl)

set_option maxHeartbeats 4000000 in
set_option maxRecDepth 100000 in
theorem c_X0_hasWatermark (l : Launch) (V : gT) {n : Nat} {ad : Nat → Nat} {el : Nat → va_E} {k : Nat} {M St We : Nat → Int32} (hk : k + 9 ≤ n) (h : MacAt V ad el k M St We) (cl : Nat) : TT l V yX0_hasWatermark wsX0_hasWatermark { frames := 0, cells := 0, slots := 0, locals := 0 } n ad el [.ref (ad k), .int (nI cl)] (QIr V n ad el (fun r => r = s_wmi M cl)) 0 0 := by
  refine TT.body (cc := cX0_hasWatermark) (maxL := 2) (ret := (some .boolean)) (by decide) rfl (Nat.le_of_ble_eq_true rfl) ?_
  intro p e s m below meth c C hnm
  refine g_lv [0, 1] (lv' := [(0, .ref (ad k)), (1, .int (nI cl))]) rfl ?_
  obtain ⟨hM1, ⟨g2, hA3, hg4⟩, hp5⟩ := id h
  refine g_aload_n C 0 rfl dX0_hasWatermark_0 ?_
  refine g_getf C k (by omega) hM1 rfl 6 (by decide) (fun w h => (List.mem_cons_of_mem _ (List.mem_append_right _ h))) (List.mem_of_getElem? (i := 1) rfl) rfl rfl dX0_hasWatermark_1 ?_
  refine g_if_le C (tgt := 25) dX0_hasWatermark_4 (by decide) (fun c4 => ?_) (fun c4 => ?_)
  · -- 25
    refine g_iconst C (v := nI 0) dX0_hasWatermark_25 (by decide) ?_
    exact g_zret C rfl rfl dX0_hasWatermark_26 () rfl rfl rfl (by rw [s_wmi, if_neg (fun z => i_nlt c4 z.1)] <;> rfl) (Nat.le_of_ble_eq_true rfl) (Nat.le_of_ble_eq_true rfl)
  · -- 7
    refine g_aload_n C 0 rfl dX0_hasWatermark_7 ?_
    refine g_getf C k (by omega) hM1 rfl 5 (by decide) (fun w h => (List.mem_cons_of_mem _ (List.mem_append_right _ h))) (List.mem_of_getElem? (i := 2) rfl) rfl rfl dX0_hasWatermark_8 ?_
    refine g_iload_n C 1 rfl dX0_hasWatermark_11 ?_
    refine g_iadd C (v := (M 5) + (nI cl)) dX0_hasWatermark_12 rfl ?_
    refine g_aload_n C 0 rfl dX0_hasWatermark_13 ?_
    refine g_getf C k (by omega) hM1 rfl 6 (by decide) (fun w h => (List.mem_cons_of_mem _ (List.mem_append_right _ h))) (List.mem_of_getElem? (i := 1) rfl) rfl rfl dX0_hasWatermark_14 ?_
    refine g_irem C (v := ((M 5) + (nI cl)) - ((M 5) + (nI cl)) / (M 4) * (M 4)) dX0_hasWatermark_17 (fun z => c4 (by rw [z]; decide)) rfl ?_
    refine g_if_ne C (tgt := 25) dX0_hasWatermark_18 (by decide) (fun c18 => ?_) (fun c18 => ?_)
    · -- 25
      refine g_iconst C (v := nI 0) dX0_hasWatermark_25 (by decide) ?_
      exact g_zret C rfl rfl dX0_hasWatermark_26 () rfl rfl rfl (by rw [s_wmi, if_neg (fun z => c18 z.2)] <;> rfl) (Nat.le_of_ble_eq_true rfl) (Nat.le_of_ble_eq_true rfl)
    · -- 21
      refine g_iconst C (v := nI 1) dX0_hasWatermark_21 (by decide) ?_
      refine g_goto C (tgt := 26) dX0_hasWatermark_22 (by decide) ?_
      exact g_zret C rfl rfl dX0_hasWatermark_26 () rfl rfl rfl (by rw [s_wmi, if_pos ⟨i_gt c4, c18⟩] <;> rfl) (Nat.le_of_ble_eq_true rfl) (Nat.le_of_ble_eq_true rfl)

set_option maxHeartbeats 4000000 in
set_option maxRecDepth 100000 in
theorem c_X0_brokenPins (l : Launch) (V : gT) {n : Nat} {ad : Nat → Nat} {el : Nat → va_E} {k : Nat} {M St We : Nat → Int32} (hk : k + 9 ≤ n) (h : MacAt V ad el k M St We) : TT l V yX0_brokenPins wsX0_brokenPins { frames := 1, cells := 0, slots := 0, locals := 20 } n ad el [.ref (ad k)] (QIr V n ad el (fun r => r = s_broken St We)) 0 0 := by
  refine TT.body (cc := cX0_brokenPins) (maxL := 3) (ret := (some .int)) (by decide) rfl (Nat.le_of_ble_eq_true rfl) ?_
  intro p e s m below meth c C hnm
  refine g_lv [0] (lv' := [(0, .ref (ad k))]) rfl ?_
  obtain ⟨hM1, ⟨g2, hA3, hg4⟩, hp5⟩ := id h
  refine g_iconst C (v := nI 0) dX0_brokenPins_0 (by decide) ?_
  refine g_istore_n C (lv' := [(1, .int (nI 0)), (0, .ref (ad k))]) dX0_brokenPins_1 (by decide) rfl ?_
  refine g_iconst C (v := nI 0) dX0_brokenPins_2 (by decide) ?_
  refine g_istore_n C (lv' := [(2, .int (nI 0)), (1, .int (nI 0)), (0, .ref (ad k))]) dX0_brokenPins_3 (by decide) rfl ?_
  refine g_lv [0, 1, 2] (lv' := [(2, .int (nI 0)), (1, .int (nI 0)), (0, .ref (ad k))]) rfl ?_
  refine g_for 7 (fun (i : Nat) => [(2, .int (nI i)), (1, .int (s_sum (fun i => if We i ≤ St i then 0 else 1) i)), (0, .ref (ad k))]) ?_ (fun i hi ih => ?_)
  · -- loop 4: its end
    refine g_iload_n C 0 rfl dX0_brokenPins_4 ?_
    refine g_bipush C (v := nI 7) dX0_brokenPins_5 (by decide) ?_
    refine g_icmp_ge C (tgt := 31) dX0_brokenPins_7 (by decide) (fun c7 => ?_) (fun c7 => ?_)
    · -- 31
      have c7 : 7 ≤ 7 := (nI_leI (by omega) (by omega)).mp c7
      refine g_iload_n C 1 rfl dX0_brokenPins_31 ?_
      exact g_iret C rfl dX0_brokenPins_32 () rfl rfl rfl rfl (Nat.le_of_ble_eq_true rfl) (Nat.le_of_ble_eq_true rfl)
    · -- 10
      have c7 : 7 < 7 := Nat.lt_of_not_le (fun z => c7 ((nI_leI (by omega) (by omega)).mpr z))
      exact absurd c7 (by omega)
  · -- loop 4: its body
    refine g_iload_n C 0 rfl dX0_brokenPins_4 ?_
    refine g_bipush C (v := nI 7) dX0_brokenPins_5 (by decide) ?_
    refine g_icmp_ge C (tgt := 31) dX0_brokenPins_7 (by decide) (fun c7 => ?_) (fun c7 => ?_)
    · -- 31
      have c7 : 7 ≤ i := (nI_leI (by omega) (by omega)).mp c7
      exact absurd c7 (by omega)
    · -- 10
      have c7 : i < 7 := Nat.lt_of_not_le (fun z => c7 ((nI_leI (by omega) (by omega)).mpr z))
      refine g_aload_n C 2 rfl dX0_brokenPins_10 ?_
      refine g_getf C k (by omega) hM1 rfl 0 (by decide) (fun w h => (List.mem_cons_of_mem _ (List.mem_append_left _ (List.mem_append_right _ h)))) (List.mem_of_getElem? (i := 1) rfl) rfl rfl dX0_brokenPins_11 ?_
      refine g_iload_n C 0 rfl dX0_brokenPins_14 ?_
      refine g_aald C (k + 1) (by omega) 3 rfl hA3 i rfl (by omega) (by decide) (hg4 i (by omega)) dX0_brokenPins_15 ?_
      refine g_calli C (r_V C (st := []) (c_X1_isWhole l V (by omega) (hp5 i (by omega))) (cwV 0 C.ts gX0_brokenPins_X1_isWhole rfl rfl rfl (by decide +kernel) ⟨(Nat.le_of_ble_eq_true rfl), (Nat.le_of_ble_eq_true rfl)⟩) (by omega) (hp5 i (by omega)) rfl rfl rfl (Nat.le_of_ble_eq_true rfl) dX0_brokenPins_16 ⟨(Nat.le_of_ble_eq_true rfl), (Nat.le_of_ble_eq_true rfl)⟩) (fun r u hu => ?_)
      subst hu
      refine g_if_ne C (tgt := 25) dX0_brokenPins_19 (by decide) (fun c19 => ?_) (fun c19 => ?_)
      · -- 25
        refine g_iinc C 0 rfl (v := nI (i + 1)) (lv' := [(2, .int (nI (i + 1))), (1, .int (s_sum (fun i => if We i ≤ St i then 0 else 1) i)), (0, .ref (ad k))]) dX0_brokenPins_25 (nI_add _ _) (by decide) rfl ?_
        refine g_goto C (tgt := 4) dX0_brokenPins_28 (by decide) ?_
        refine g_lv [0, 1, 2] (lv' := [(2, .int (nI (i + 1))), (1, .int (s_sum (fun i => if We i ≤ St i then 0 else 1) i)), (0, .ref (ad k))]) rfl ?_
        have e9 : s_sum (fun i => if We i ≤ St i then 0 else 1) (i + 1) = s_sum (fun i => if We i ≤ St i then 0 else 1) i := s_sum_f (if_pos (Classical.byContradiction (fun z => c19 (if_neg z))))
        refine g_lveq (lv' := [(2, .int (nI (i + 1))), (1, .int (s_sum (fun i => if We i ≤ St i then 0 else 1) (i + 1))), (0, .ref (ad k))]) (by rw [e9]) ?_
        exact ih
      · -- 22
        refine g_iinc C 1 rfl (v := (s_sum (fun i => if We i ≤ St i then 0 else 1) i) + 1) (lv' := [(1, .int ((s_sum (fun i => if We i ≤ St i then 0 else 1) i) + 1)), (2, .int (nI i)), (0, .ref (ad k))]) dX0_brokenPins_22 rfl (by decide) rfl ?_
        refine g_iinc C 1 rfl (v := nI (i + 1)) (lv' := [(2, .int (nI (i + 1))), (1, .int ((s_sum (fun i => if We i ≤ St i then 0 else 1) i) + 1)), (0, .ref (ad k))]) dX0_brokenPins_25 (nI_add _ _) (by decide) rfl ?_
        refine g_goto C (tgt := 4) dX0_brokenPins_28 (by decide) ?_
        refine g_lv [0, 1, 2] (lv' := [(2, .int (nI (i + 1))), (1, .int ((s_sum (fun i => if We i ≤ St i then 0 else 1) i) + 1)), (0, .ref (ad k))]) rfl ?_
        have e9 : s_sum (fun i => if We i ≤ St i then 0 else 1) (i + 1) = s_sum (fun i => if We i ≤ St i then 0 else 1) i + 1 := s_sum_t (if_neg (fun z => by rw [if_pos z] at c19; exact absurd c19 (by decide)))
        refine g_lveq (lv' := [(2, .int (nI (i + 1))), (1, .int (s_sum (fun i => if We i ≤ St i then 0 else 1) (i + 1))), (0, .ref (ad k))]) (by rw [e9]) ?_
        exact ih

set_option maxHeartbeats 4000000 in
set_option maxRecDepth 100000 in
theorem c_X0_strikeAll (l : Launch) (V : gT) {n : Nat} {ad : Nat → Nat} {el : Nat → va_E} {k : Nat} {M St We : Nat → Int32} (hk : k + 9 ≤ n) (h : MacAt V ad el k M St We) : TT l V yX0_strikeAll wsX0_strikeAll { frames := 2, cells := 0, slots := 0, locals := 40 } n ad el [.ref (ad k)] (QVw V n ad (fun u => MacAt V ad u k M St (s_rowW St We) ∧ ∀ j, (j < k ∨ k + 9 ≤ j) → u j = el j)) 0 0 := by
  refine TT.body (cc := cX0_strikeAll) (maxL := 2) (ret := none) (by decide) rfl (Nat.le_of_ble_eq_true rfl) ?_
  intro p e s m below meth c C hnm
  refine g_lv [0] (lv' := [(0, .ref (ad k))]) rfl ?_
  obtain ⟨hM1, ⟨g2, hA3, hg4⟩, hp5⟩ := id h
  refine g_iconst C (v := nI 0) dX0_strikeAll_0 (by decide) ?_
  refine g_istore_n C (lv' := [(1, .int (nI 0)), (0, .ref (ad k))]) dX0_strikeAll_1 (by decide) rfl ?_
  refine g_lv [0, 1] (lv' := [(1, .int (nI 0)), (0, .ref (ad k))]) rfl ?_
  refine g_forE 7 (fun (i : Nat) => [(1, .int (nI i)), (0, .ref (ad k))]) (fun i el1 => (∀ q, q < i → el1 (k + 2 + q) = .inr (1, [.int (St q), .int (s_rowW St We q)])) ∧ (∀ q, i ≤ q → q < 7 → el1 (k + 2 + q) = .inr (1, [.int (St q), .int (We q)])) ∧ ∀ j, (j < k + 2 ∨ k + 9 ≤ j) → el1 j = el j) ⟨fun q hq => absurd hq (by omega), fun q _ hq => hp5 q hq, fun j _ => rfl⟩ (fun el1 h1 => ?_) (fun i el1 hi h1 ih => ?_)
  · -- loop 2: its end
    have m6 := (h1.2.2 (k) (by omega)).trans hM1
    have m7 := (h1.2.2 (k + 1) (by omega)).trans hA3
    refine g_iload_n C 0 rfl dX0_strikeAll_2 ?_
    refine g_bipush C (v := nI 7) dX0_strikeAll_3 (by decide) ?_
    refine g_icmp_ge C (tgt := 23) dX0_strikeAll_5 (by decide) (fun c5 => ?_) (fun c5 => ?_)
    · -- 23
      have c5 : 7 ≤ 7 := (nI_leI (by omega) (by omega)).mp c5
      exact g_vret C rfl dX0_strikeAll_23 el1 rfl rfl rfl ⟨⟨m6, ⟨_, m7, hg4⟩, fun q hq => h1.1 q hq⟩, fun j hj => h1.2.2 j (by omega)⟩ (Nat.le_of_ble_eq_true rfl) (Nat.le_of_ble_eq_true rfl)
    · -- 8
      have c5 : 7 < 7 := Nat.lt_of_not_le (fun z => c5 ((nI_leI (by omega) (by omega)).mpr z))
      exact absurd c5 (by omega)
  · -- loop 2: its body
    have m8 := (h1.2.2 (k) (by omega)).trans hM1
    have m9 := (h1.2.2 (k + 1) (by omega)).trans hA3
    have hpi := h1.2.1 i (by omega) hi
    refine g_iload_n C 0 rfl dX0_strikeAll_2 ?_
    refine g_bipush C (v := nI 7) dX0_strikeAll_3 (by decide) ?_
    refine g_icmp_ge C (tgt := 23) dX0_strikeAll_5 (by decide) (fun c5 => ?_) (fun c5 => ?_)
    · -- 23
      have c5 : 7 ≤ i := (nI_leI (by omega) (by omega)).mp c5
      exact absurd c5 (by omega)
    · -- 8
      have c5 : i < 7 := Nat.lt_of_not_le (fun z => c5 ((nI_leI (by omega) (by omega)).mpr z))
      refine g_aload_n C 1 rfl dX0_strikeAll_8 ?_
      refine g_getf C k (by omega) m8 rfl 0 (by decide) (fun w h => (List.mem_cons_of_mem _ (List.mem_append_left _ (List.mem_append_right _ h)))) (List.mem_of_getElem? (i := 1) rfl) rfl rfl dX0_strikeAll_9 ?_
      refine g_iload_n C 0 rfl dX0_strikeAll_12 ?_
      refine g_aald C (k + 1) (by omega) 3 rfl m9 i rfl (by omega) (by decide) (hg4 i (by omega)) dX0_strikeAll_13 ?_
      refine g_callv C (r_V C (st := []) (c_X1_strike l V (by omega) hpi) (cwV 0 C.ts gX0_strikeAll_X1_strike rfl rfl rfl (by decide +kernel) ⟨(Nat.le_of_ble_eq_true rfl), (Nat.le_of_ble_eq_true rfl)⟩) (by omega) hpi rfl rfl rfl (Nat.le_of_ble_eq_true rfl) dX0_strikeAll_14 ⟨(Nat.le_of_ble_eq_true rfl), (Nat.le_of_ble_eq_true rfl)⟩) (fun u hu => ?_)
      refine g_iinc C 0 rfl (v := nI (i + 1)) (lv' := [(1, .int (nI (i + 1))), (0, .ref (ad k))]) dX0_strikeAll_17 (nI_add _ _) (by decide) rfl ?_
      refine g_goto C (tgt := 2) dX0_strikeAll_20 (by decide) ?_
      refine g_lv [0, 1] (lv' := [(1, .int (nI (i + 1))), (0, .ref (ad k))]) rfl ?_
      exact ih _ ⟨fun q hq => by
          by_cases e : q = i
          · subst e; exact hu.1
          · exact (hu.2 _ (by omega)).trans (h1.1 q (by omega)), fun q hq hq2 => (hu.2 _ (by omega)).trans (h1.2.1 q (by omega) hq2), fun j hj => (hu.2 j (by omega)).trans (h1.2.2 j hj)⟩
end
section
/-! ===== the machine: what writes ===== -/
theorem s_fault_at {M St We pl : Nat → Int32} {i q : Nat} (hq : q < 6) : s_fault M St We pl (6 * i + q) = s_stamp (s_err (s_M M i)) St (s_W St We i) pl i q := by
  have h1 : (6 * i + q) / 6 = i := by omega
  have h2 : (6 * i + q) % 6 = q := by omega
  rw [s_fault, h1, h2]

set_option maxHeartbeats 4000000 in
set_option maxRecDepth 100000 in
theorem c_X0_becomeLike (l : Launch) (V : gT) {n : Nat} {ad : Nat → Nat} {el : Nat → va_E} {k k2 : Nat} {M0 St0 We0 M St We : Nat → Int32} (hk : k + 9 ≤ n) (hk2 : k2 + 9 ≤ n) (hd : k + 9 ≤ k2 ∨ k2 + 9 ≤ k) (h : MacAt V ad el k M0 St0 We0) (h2 : MacAt V ad el k2 M St We) : TT l V yX0_becomeLike wsX0_becomeLike { frames := 1, cells := 0, slots := 0, locals := 21 } n ad el [.ref (ad k), .ref (ad k2)] (QVw V n ad (fun u => MacAt V ad u k M St We ∧ ∀ j, (j < k ∨ k + 9 ≤ j) → u j = el j)) 0 0 := by
  refine TT.body (cc := cX0_becomeLike) (maxL := 3) (ret := none) (by decide) rfl (Nat.le_of_ble_eq_true rfl) ?_
  intro p e s m below meth c C hnm
  refine g_lv [0, 1] (lv' := [(0, .ref (ad k)), (1, .ref (ad k2))]) rfl ?_
  obtain ⟨hM1, ⟨g2, hA3, hg4⟩, hp5⟩ := id h
  obtain ⟨hM6, ⟨g7, hA8, hg9⟩, hp10⟩ := id h2
  refine g_iconst C (v := nI 0) dX0_becomeLike_0 (by decide) ?_
  refine g_istore_n C (lv' := [(2, .int (nI 0)), (0, .ref (ad k)), (1, .ref (ad k2))]) dX0_becomeLike_1 (by decide) rfl ?_
  refine g_lv [0, 1, 2] (lv' := [(2, .int (nI 0)), (0, .ref (ad k)), (1, .ref (ad k2))]) rfl ?_
  refine g_forE 7 (fun (i : Nat) => [(2, .int (nI i)), (0, .ref (ad k)), (1, .ref (ad k2))]) (fun i el1 => (∀ q, q < i → el1 (k + 2 + q) = .inr (1, [.int (St q), .int (We q)])) ∧ (∀ q, i ≤ q → q < 7 → el1 (k + 2 + q) = .inr (1, [.int (St0 q), .int (We0 q)])) ∧ ∀ j, (j < k + 2 ∨ k + 9 ≤ j) → el1 j = el j) ⟨fun q hq => absurd hq (by omega), fun q _ hq => hp5 q hq, fun j _ => rfl⟩ (fun el1 h1 => ?_) (fun i el1 hi h1 ih => ?_)
  · -- loop 2: its end
    have m11 := (h1.2.2 (k) (by omega)).trans hM1
    have m12 := (h1.2.2 (k + 1) (by omega)).trans hA3
    have m13 := (h1.2.2 (k2) (by omega)).trans hM6
    have m14 := (h1.2.2 (k2 + 1) (by omega)).trans hA8
    have m15 : ∀ q, q < 7 → el1 (k2 + 2 + q) = .inr (1, [.int (St q), .int (We q)]) := fun q hq => (h1.2.2 (k2 + 2 + q) (by omega)).trans (hp10 q hq)
    refine g_iload_n C 0 rfl dX0_becomeLike_2 ?_
    refine g_bipush C (v := nI 7) dX0_becomeLike_3 (by decide) ?_
    refine g_icmp_ge C (tgt := 29) dX0_becomeLike_5 (by decide) (fun c5 => ?_) (fun c5 => ?_)
    · -- 29
      have c5 : 7 ≤ 7 := (nI_leI (by omega) (by omega)).mp c5
      refine g_aload_n C 1 rfl dX0_becomeLike_29 ?_
      refine g_aload_n C 2 rfl dX0_becomeLike_30 ?_
      refine g_getf C k2 (by omega) m13 rfl 1 (by decide) (fun w h => (List.mem_cons_of_mem _ (List.mem_append_left _ (List.mem_append_right _ h)))) (List.mem_of_getElem? (i := 2) rfl) rfl rfl dX0_becomeLike_31 ?_
      refine g_putf C k (by omega) m11 rfl 1 (by decide) (fun w h => (List.mem_cons_of_mem _ (List.mem_append_left _ (List.mem_append_right _ h)))) tyX0 tyX0_ok nmX0 (List.mem_of_getElem? (i := 2) rfl) rfl rfl rfl rfl (Nat.le_of_ble_eq_true rfl) dX0_becomeLike_34 (fun el16 e17 o18 => ?_)
      replace e17 : el16 k = .inr (0, [.ref (ad (k + 1)), .int (M 0), .int (M0 1), .int (M0 2), .int (M0 3), .int (M0 5), .int (M0 4)]) := e17
      have m19 := (o18 (k + 1) (by omega)).trans m12
      have m20 := (o18 k2 (by omega)).trans m13
      have m21 := (o18 (k2 + 1) (by omega)).trans m14
      have m22 : ∀ q, q < 7 → el16 (k2 + 2 + q) = .inr (1, [.int (St q), .int (We q)]) := fun q hq => (o18 (k2 + 2 + q) (by omega)).trans (m15 q hq)
      have m23 : ∀ q, q < 7 → el16 (k + 2 + q) = .inr (1, [.int (St q), .int (We q)]) := fun q hq => (o18 (k + 2 + q) (by omega)).trans ((fun q hq => h1.1 q hq) q hq)
      refine g_aload_n C 1 rfl dX0_becomeLike_37 ?_
      refine g_aload_n C 2 rfl dX0_becomeLike_38 ?_
      refine g_getf C k2 (by omega) m20 rfl 2 (by decide) (fun w h => (List.mem_cons_of_mem _ (List.mem_append_left _ (List.mem_append_right _ h)))) (List.mem_of_getElem? (i := 3) rfl) rfl rfl dX0_becomeLike_39 ?_
      refine g_putf C k (by omega) e17 rfl 2 (by decide) (fun w h => (List.mem_cons_of_mem _ (List.mem_append_left _ (List.mem_append_right _ h)))) tyX0 tyX0_ok nmX0 (List.mem_of_getElem? (i := 3) rfl) rfl rfl rfl rfl (Nat.le_of_ble_eq_true rfl) dX0_becomeLike_42 (fun el24 e25 o26 => ?_)
      replace e25 : el24 k = .inr (0, [.ref (ad (k + 1)), .int (M 0), .int (M 1), .int (M0 2), .int (M0 3), .int (M0 5), .int (M0 4)]) := e25
      have m27 := (o26 (k + 1) (by omega)).trans m19
      have m28 := (o26 k2 (by omega)).trans m20
      have m29 := (o26 (k2 + 1) (by omega)).trans m21
      have m30 : ∀ q, q < 7 → el24 (k2 + 2 + q) = .inr (1, [.int (St q), .int (We q)]) := fun q hq => (o26 (k2 + 2 + q) (by omega)).trans (m22 q hq)
      have m31 : ∀ q, q < 7 → el24 (k + 2 + q) = .inr (1, [.int (St q), .int (We q)]) := fun q hq => (o26 (k + 2 + q) (by omega)).trans (m23 q hq)
      refine g_aload_n C 1 rfl dX0_becomeLike_45 ?_
      refine g_aload_n C 2 rfl dX0_becomeLike_46 ?_
      refine g_getf C k2 (by omega) m28 rfl 3 (by decide) (fun w h => (List.mem_cons_of_mem _ (List.mem_append_left _ (List.mem_append_right _ h)))) (List.mem_of_getElem? (i := 4) rfl) rfl rfl dX0_becomeLike_47 ?_
      refine g_putf C k (by omega) e25 rfl 3 (by decide) (fun w h => (List.mem_cons_of_mem _ (List.mem_append_left _ (List.mem_append_right _ h)))) tyX0 tyX0_ok nmX0 (List.mem_of_getElem? (i := 4) rfl) rfl rfl rfl rfl (Nat.le_of_ble_eq_true rfl) dX0_becomeLike_50 (fun el32 e33 o34 => ?_)
      replace e33 : el32 k = .inr (0, [.ref (ad (k + 1)), .int (M 0), .int (M 1), .int (M 2), .int (M0 3), .int (M0 5), .int (M0 4)]) := e33
      have m35 := (o34 (k + 1) (by omega)).trans m27
      have m36 := (o34 k2 (by omega)).trans m28
      have m37 := (o34 (k2 + 1) (by omega)).trans m29
      have m38 : ∀ q, q < 7 → el32 (k2 + 2 + q) = .inr (1, [.int (St q), .int (We q)]) := fun q hq => (o34 (k2 + 2 + q) (by omega)).trans (m30 q hq)
      have m39 : ∀ q, q < 7 → el32 (k + 2 + q) = .inr (1, [.int (St q), .int (We q)]) := fun q hq => (o34 (k + 2 + q) (by omega)).trans (m31 q hq)
      refine g_aload_n C 1 rfl dX0_becomeLike_53 ?_
      refine g_aload_n C 2 rfl dX0_becomeLike_54 ?_
      refine g_getf C k2 (by omega) m36 rfl 4 (by decide) (fun w h => (List.mem_cons_of_mem _ (List.mem_append_left _ (List.mem_append_right _ h)))) (List.mem_of_getElem? (i := 5) rfl) rfl rfl dX0_becomeLike_55 ?_
      refine g_putf C k (by omega) e33 rfl 4 (by decide) (fun w h => (List.mem_cons_of_mem _ (List.mem_append_left _ (List.mem_append_right _ h)))) tyX0 tyX0_ok nmX0 (List.mem_of_getElem? (i := 5) rfl) rfl rfl rfl rfl (Nat.le_of_ble_eq_true rfl) dX0_becomeLike_58 (fun el40 e41 o42 => ?_)
      replace e41 : el40 k = .inr (0, [.ref (ad (k + 1)), .int (M 0), .int (M 1), .int (M 2), .int (M 3), .int (M0 5), .int (M0 4)]) := e41
      have m43 := (o42 (k + 1) (by omega)).trans m35
      have m44 := (o42 k2 (by omega)).trans m36
      have m45 := (o42 (k2 + 1) (by omega)).trans m37
      have m46 : ∀ q, q < 7 → el40 (k2 + 2 + q) = .inr (1, [.int (St q), .int (We q)]) := fun q hq => (o42 (k2 + 2 + q) (by omega)).trans (m38 q hq)
      have m47 : ∀ q, q < 7 → el40 (k + 2 + q) = .inr (1, [.int (St q), .int (We q)]) := fun q hq => (o42 (k + 2 + q) (by omega)).trans (m39 q hq)
      refine g_aload_n C 1 rfl dX0_becomeLike_61 ?_
      refine g_aload_n C 2 rfl dX0_becomeLike_62 ?_
      refine g_getf C k2 (by omega) m44 rfl 5 (by decide) (fun w h => (List.mem_cons_of_mem _ (List.mem_append_left _ (List.mem_append_right _ h)))) (List.mem_of_getElem? (i := 6) rfl) rfl rfl dX0_becomeLike_63 ?_
      refine g_putf C k (by omega) e41 rfl 5 (by decide) (fun w h => (List.mem_cons_of_mem _ (List.mem_append_left _ (List.mem_append_right _ h)))) tyX0 tyX0_ok nmX0 (List.mem_of_getElem? (i := 6) rfl) rfl rfl rfl rfl (Nat.le_of_ble_eq_true rfl) dX0_becomeLike_66 (fun el48 e49 o50 => ?_)
      replace e49 : el48 k = .inr (0, [.ref (ad (k + 1)), .int (M 0), .int (M 1), .int (M 2), .int (M 3), .int (M 5), .int (M0 4)]) := e49
      have m51 := (o50 (k + 1) (by omega)).trans m43
      have m52 := (o50 k2 (by omega)).trans m44
      have m53 := (o50 (k2 + 1) (by omega)).trans m45
      have m54 : ∀ q, q < 7 → el48 (k2 + 2 + q) = .inr (1, [.int (St q), .int (We q)]) := fun q hq => (o50 (k2 + 2 + q) (by omega)).trans (m46 q hq)
      have m55 : ∀ q, q < 7 → el48 (k + 2 + q) = .inr (1, [.int (St q), .int (We q)]) := fun q hq => (o50 (k + 2 + q) (by omega)).trans (m47 q hq)
      refine g_aload_n C 1 rfl dX0_becomeLike_69 ?_
      refine g_aload_n C 2 rfl dX0_becomeLike_70 ?_
      refine g_getf C k2 (by omega) m52 rfl 6 (by decide) (fun w h => (List.mem_cons_of_mem _ (List.mem_append_left _ (List.mem_append_right _ h)))) (List.mem_of_getElem? (i := 7) rfl) rfl rfl dX0_becomeLike_71 ?_
      refine g_putf C k (by omega) e49 rfl 6 (by decide) (fun w h => (List.mem_cons_of_mem _ (List.mem_append_left _ (List.mem_append_right _ h)))) tyX0 tyX0_ok nmX0 (List.mem_of_getElem? (i := 7) rfl) rfl rfl rfl rfl (Nat.le_of_ble_eq_true rfl) dX0_becomeLike_74 (fun el56 e57 o58 => ?_)
      replace e57 : el56 k = .inr (0, [.ref (ad (k + 1)), .int (M 0), .int (M 1), .int (M 2), .int (M 3), .int (M 5), .int (M 4)]) := e57
      have m59 := (o58 (k + 1) (by omega)).trans m51
      have m60 := (o58 k2 (by omega)).trans m52
      have m61 := (o58 (k2 + 1) (by omega)).trans m53
      have m62 : ∀ q, q < 7 → el56 (k2 + 2 + q) = .inr (1, [.int (St q), .int (We q)]) := fun q hq => (o58 (k2 + 2 + q) (by omega)).trans (m54 q hq)
      have m63 : ∀ q, q < 7 → el56 (k + 2 + q) = .inr (1, [.int (St q), .int (We q)]) := fun q hq => (o58 (k + 2 + q) (by omega)).trans (m55 q hq)
      exact g_vret C rfl dX0_becomeLike_77 el56 rfl rfl rfl ⟨⟨e57, ⟨_, m59, fun i hi => (hg4 i hi)⟩, m63⟩, fun j hj => (o58 j (by omega)).trans ((o50 j (by omega)).trans ((o42 j (by omega)).trans ((o34 j (by omega)).trans ((o26 j (by omega)).trans ((o18 j (by omega)).trans (h1.2.2 j (by omega)))))))⟩ (Nat.le_of_ble_eq_true rfl) (Nat.le_of_ble_eq_true rfl)
    · -- 8
      have c5 : 7 < 7 := Nat.lt_of_not_le (fun z => c5 ((nI_leI (by omega) (by omega)).mpr z))
      exact absurd c5 (by omega)
  · -- loop 2: its body
    have m64 := (h1.2.2 (k) (by omega)).trans hM1
    have m65 := (h1.2.2 (k + 1) (by omega)).trans hA3
    have m66 := (h1.2.2 (k2) (by omega)).trans hM6
    have m67 := (h1.2.2 (k2 + 1) (by omega)).trans hA8
    have m68 : ∀ q, q < 7 → el1 (k2 + 2 + q) = .inr (1, [.int (St q), .int (We q)]) := fun q hq => (h1.2.2 (k2 + 2 + q) (by omega)).trans (hp10 q hq)
    have hpi := h1.2.1 i (by omega) hi
    refine g_iload_n C 0 rfl dX0_becomeLike_2 ?_
    refine g_bipush C (v := nI 7) dX0_becomeLike_3 (by decide) ?_
    refine g_icmp_ge C (tgt := 29) dX0_becomeLike_5 (by decide) (fun c5 => ?_) (fun c5 => ?_)
    · -- 29
      have c5 : 7 ≤ i := (nI_leI (by omega) (by omega)).mp c5
      exact absurd c5 (by omega)
    · -- 8
      have c5 : i < 7 := Nat.lt_of_not_le (fun z => c5 ((nI_leI (by omega) (by omega)).mpr z))
      refine g_aload_n C 1 rfl dX0_becomeLike_8 ?_
      refine g_getf C k (by omega) m64 rfl 0 (by decide) (fun w h => (List.mem_cons_of_mem _ (List.mem_append_left _ (List.mem_append_right _ h)))) (List.mem_of_getElem? (i := 1) rfl) rfl rfl dX0_becomeLike_9 ?_
      refine g_iload_n C 0 rfl dX0_becomeLike_12 ?_
      refine g_aald C (k + 1) (by omega) 3 rfl m65 i rfl (by omega) (by decide) (hg4 i (by omega)) dX0_becomeLike_13 ?_
      refine g_aload_n C 2 rfl dX0_becomeLike_14 ?_
      refine g_getf C k2 (by omega) m66 rfl 0 (by decide) (fun w h => (List.mem_cons_of_mem _ (List.mem_append_left _ (List.mem_append_right _ h)))) (List.mem_of_getElem? (i := 1) rfl) rfl rfl dX0_becomeLike_15 ?_
      refine g_iload_n C 0 rfl dX0_becomeLike_18 ?_
      refine g_aald C (k2 + 1) (by omega) 3 rfl m67 i rfl (by omega) (by decide) (hg9 i (by omega)) dX0_becomeLike_19 ?_
      refine g_callv C (r_V C (st := []) (c_X1_becomeLike l V (by omega) (by omega) (by omega) hpi (m68 i (by omega))) (cwV 1 C.ts gX0_becomeLike_X1_becomeLike rfl rfl rfl (by decide +kernel) ⟨(Nat.le_of_ble_eq_true rfl), (Nat.le_of_ble_eq_true rfl)⟩) (by omega) hpi rfl rfl rfl (Nat.le_of_ble_eq_true rfl) dX0_becomeLike_20 ⟨(Nat.le_of_ble_eq_true rfl), (Nat.le_of_ble_eq_true rfl)⟩) (fun u hu => ?_)
      refine g_iinc C 0 rfl (v := nI (i + 1)) (lv' := [(2, .int (nI (i + 1))), (0, .ref (ad k)), (1, .ref (ad k2))]) dX0_becomeLike_23 (nI_add _ _) (by decide) rfl ?_
      refine g_goto C (tgt := 2) dX0_becomeLike_26 (by decide) ?_
      refine g_lv [0, 1, 2] (lv' := [(2, .int (nI (i + 1))), (0, .ref (ad k)), (1, .ref (ad k2))]) rfl ?_
      exact ih _ ⟨fun q hq => by
          by_cases e : q = i
          · subst e; exact hu.1
          · exact (hu.2 _ (by omega)).trans (h1.1 q (by omega)), fun q hq hq2 => (hu.2 _ (by omega)).trans (h1.2.1 q (by omega) hq2), fun j hj => (hu.2 j (by omega)).trans (h1.2.2 j hj)⟩

set_option maxHeartbeats 4000000 in
set_option maxRecDepth 100000 in
theorem c_X0_markRow (l : Launch) (V : gT) {n : Nat} {ad : Nat → Nat} {el : Nat → va_E} {k : Nat} {M St We : Nat → Int32} (hk : k + 9 ≤ n) (h : MacAt V ad el k M St We) {kp ks : Nat} {pl f t : Nat → Int32} (r : Nat) (hr : r < 5) (hkp : kp < n) (hpl : el kp = .inl (V.2 1, 30, .inl pl)) (hks : ks + 3 ≤ n) (hs : ShtAt V ad el ks f t) (hd1 : ks + 3 ≤ k ∨ k + 9 ≤ ks) (hd2 : kp ≠ ks + 1) : TT l V yX0_markRow wsX0_markRow { frames := 2, cells := 0, slots := 0, locals := 42 } n ad el [.ref (ad k), .int (nI r), .ref (ad kp), .ref (ad ks)] (QVw V n ad (fun u => ∃ f1 : Nat → Int32, u (ks + 1) = .inl (V.2 0, 30, .inl f1) ∧ (∀ q, q < 6 → f1 (6 * r + q) = s_stamp M St We pl r q) ∧ (∀ j, j < 6 * r → f1 j = f j) ∧ ∀ j, j ≠ ks + 1 → u j = el j)) 0 0 := by
  refine TT.body (cc := cX0_markRow) (maxL := 8) (ret := none) (by decide) rfl (Nat.le_of_ble_eq_true rfl) ?_
  intro p e s m below meth c C hnm
  refine g_lv [0, 1, 2, 3] (lv' := [(0, .ref (ad k)), (1, .int (nI r)), (2, .ref (ad kp)), (3, .ref (ad ks))]) rfl ?_
  obtain ⟨hM1, ⟨g2, hA3, hg4⟩, hp5⟩ := id h
  obtain ⟨hs6, ha7, hb8⟩ := id hs
  refine g_aload_n C 0 rfl dX0_markRow_0 ?_
  refine g_getf C k (by omega) hM1 rfl 3 (by decide) (fun w h => (List.mem_cons_of_mem _ (List.mem_append_left _ (List.mem_append_left _ (List.mem_append_right _ h))))) (List.mem_of_getElem? (i := 1) rfl) rfl rfl dX0_markRow_1 ?_
  refine g_bipush C (v := (-6)) dX0_markRow_4 (by decide) ?_
  refine g_bipush C (v := nI 6) dX0_markRow_6 (by decide) ?_
  refine g_calli C (r_SN C (st := []) (c_X4_isWithin l V (M 2) ((-6)) 6) ⟨va_cnB 3 C.ts gX0_markRow_X4_isWithin_n57 rfl rfl rfl (C.kx.2.2.2.1 _ (List.mem_of_getElem? (i := 25) rfl)) (C.ts _ (List.mem_of_getElem? (i := 3) rfl)) (by decide +kernel) ⟨(Nat.le_of_ble_eq_true rfl), (Nat.le_of_ble_eq_true rfl)⟩, C.ts _ (List.mem_of_getElem? (i := 2) rfl), trivial⟩ rfl rfl (Nat.le_of_ble_eq_true rfl) dX0_markRow_8 ⟨(Nat.le_of_ble_eq_true rfl), (Nat.le_of_ble_eq_true rfl)⟩) (fun r u hu => ?_)
  subst hu
  refine g_via (fun v : Int32 => v = s_offF M) 19 (fun _ => [(0, .ref (ad k)), (1, .int (nI r)), (2, .ref (ad kp)), (3, .ref (ad ks))]) (fun v => .int v :: []) (fun v hv => ?_) (fun J => ?_)
  · -- join
    subst hv
    refine g_istore C (lv' := [(4, .int (s_offF M)), (0, .ref (ad k)), (1, .int (nI r)), (2, .ref (ad kp)), (3, .ref (ad ks))]) dX0_markRow_19 (by decide) rfl ?_
    refine g_iconst C (v := nI 0) dX0_markRow_21 (by decide) ?_
    refine g_istore C (lv' := [(5, .int (nI 0)), (4, .int (s_offF M)), (0, .ref (ad k)), (1, .int (nI r)), (2, .ref (ad kp)), (3, .ref (ad ks))]) dX0_markRow_22 (by decide) rfl ?_
    refine g_lv [0, 1, 2, 3, 4, 5] (lv' := [(5, .int (nI 0)), (4, .int (s_offF M)), (0, .ref (ad k)), (1, .int (nI r)), (2, .ref (ad kp)), (3, .ref (ad ks))]) rfl ?_
    refine g_forE 6 (fun (i : Nat) => [(5, .int (nI i)), (4, .int (s_offF M)), (0, .ref (ad k)), (1, .int (nI r)), (2, .ref (ad kp)), (3, .ref (ad ks))]) (fun i el1 => ∃ f1 : Nat → Int32, el1 (ks + 1) = .inl (V.2 0, 30, .inl f1) ∧ (∀ q, q < i → f1 (6 * r + q) = s_stamp M St We pl r q) ∧ (∀ j, j < 6 * r → f1 j = f j) ∧ ∀ j, j ≠ ks + 1 → el1 j = el j) ⟨f, ha7, fun q hq => absurd hq (by omega), fun j _ => rfl, fun j _ => rfl⟩ (fun el1 h1 => ?_) (fun i el1 hi h1 ih => ?_)
    · -- loop 24: its end
      obtain ⟨f1, a1, a2, a3, a4⟩ := id h1
      have m9 := (a4 (k) (by omega)).trans hM1
      have m10 := (a4 (k + 1) (by omega)).trans hA3
      have m11 := (a4 (ks) (by omega)).trans hs6
      have m12 := (a4 (ks + 2) (by omega)).trans hb8
      have m13 := (a4 (kp) (by omega)).trans hpl
      have m14 : ∀ q, q < 7 → el1 (k + 2 + q) = .inr (1, [.int (St q), .int (We q)]) := fun q hq => (a4 (k + 2 + q) (by omega)).trans (hp5 q hq)
      refine g_iload C 0 rfl dX0_markRow_24 ?_
      refine g_bipush C (v := nI 6) dX0_markRow_26 (by decide) ?_
      refine g_icmp_ge C (tgt := 96) dX0_markRow_28 (by decide) (fun c28 => ?_) (fun c28 => ?_)
      · -- 96
        have c28 : 6 ≤ 6 := (nI_leI (by omega) (by omega)).mp c28
        exact g_vret C rfl dX0_markRow_96 el1 rfl rfl rfl ⟨f1, a1, a2, a3, a4⟩ (Nat.le_of_ble_eq_true rfl) (Nat.le_of_ble_eq_true rfl)
      · -- 31
        have c28 : 6 < 6 := Nat.lt_of_not_le (fun z => c28 ((nI_leI (by omega) (by omega)).mpr z))
        exact absurd c28 (by omega)
    · -- loop 24: its body
      obtain ⟨f1, a1, a2, a3, a4⟩ := id h1
      have m15 := (a4 (k) (by omega)).trans hM1
      have m16 := (a4 (k + 1) (by omega)).trans hA3
      have m17 := (a4 (ks) (by omega)).trans hs6
      have m18 := (a4 (ks + 2) (by omega)).trans hb8
      have m19 := (a4 (kp) (by omega)).trans hpl
      have m20 : ∀ q, q < 7 → el1 (k + 2 + q) = .inr (1, [.int (St q), .int (We q)]) := fun q hq => (a4 (k + 2 + q) (by omega)).trans (hp5 q hq)
      refine g_iload C 0 rfl dX0_markRow_24 ?_
      refine g_bipush C (v := nI 6) dX0_markRow_26 (by decide) ?_
      refine g_icmp_ge C (tgt := 96) dX0_markRow_28 (by decide) (fun c28 => ?_) (fun c28 => ?_)
      · -- 96
        have c28 : 6 ≤ i := (nI_leI (by omega) (by omega)).mp c28
        exact absurd c28 (by omega)
      · -- 31
        have c28 : i < 6 := Nat.lt_of_not_le (fun z => c28 ((nI_leI (by omega) (by omega)).mpr z))
        refine g_bipush C (v := nI 6) dX0_markRow_31 (by decide) ?_
        refine g_iload_n C 3 rfl dX0_markRow_33 ?_
        refine g_imul C (v := nI (6 * r)) dX0_markRow_34 (pk_mul _ _) ?_
        refine g_iload C 0 rfl dX0_markRow_35 ?_
        refine g_iadd C (v := nI ((6 * r) + i)) dX0_markRow_37 (nI_add _ _) ?_
        refine g_istore C (lv' := [(6, .int (nI ((6 * r) + i))), (5, .int (nI i)), (4, .int (s_offF M)), (0, .ref (ad k)), (1, .int (nI r)), (2, .ref (ad kp)), (3, .ref (ad ks))]) dX0_markRow_38 (by decide) rfl ?_
        refine g_iload C 2 rfl dX0_markRow_40 ?_
        refine g_aload_n C 3 rfl dX0_markRow_42 ?_
        refine g_iload C 1 rfl dX0_markRow_43 ?_
        refine g_calli C (r_V C (st := [.int (s_offF M)]) (c_X0_holeFaults l V (by omega) ⟨m15, ⟨_, m16, fun i hi => (hg4 i hi)⟩, m20⟩ i (by omega)) (cwV 1 C.ts gX0_markRow_X0_holeFaults rfl rfl rfl (by decide +kernel) ⟨(Nat.le_of_ble_eq_true rfl), (Nat.le_of_ble_eq_true rfl)⟩) (by omega) m15 rfl rfl rfl (Nat.le_of_ble_eq_true rfl) dX0_markRow_45 ⟨(Nat.le_of_ble_eq_true rfl), (Nat.le_of_ble_eq_true rfl)⟩) (fun r u hu => ?_)
        subst hu
        refine g_ior C (v := (s_offF M) ||| (s_hole St We i)) dX0_markRow_48 rfl ?_
        refine g_istore C (lv' := [(7, .int ((s_offF M) ||| (s_hole St We i))), (6, .int (nI ((6 * r) + i))), (5, .int (nI i)), (4, .int (s_offF M)), (0, .ref (ad k)), (1, .int (nI r)), (2, .ref (ad kp)), (3, .ref (ad ks))]) dX0_markRow_49 (by decide) rfl ?_
        refine g_aload_n C 6 rfl dX0_markRow_51 ?_
        refine g_iload C 1 rfl dX0_markRow_52 ?_
        refine g_zald C kp (by omega) m19 ((6 * r) + i) rfl (by omega) (by decide) dX0_markRow_54 ?_
        refine g_if_eq C (tgt := 65) dX0_markRow_55 (by decide) (fun c55 => ?_) (fun c55 => ?_)
        · -- 65
          refine g_aload_n C 4 rfl dX0_markRow_65 ?_
          refine g_iload C 2 rfl dX0_markRow_66 ?_
          refine g_calli C (r_V C (st := []) (c_X0_hasWatermark l V (by omega) ⟨m15, ⟨_, m16, fun i hi => (hg4 i hi)⟩, m20⟩ i) (cwV 1 C.ts gX0_markRow_X0_hasWatermark rfl rfl rfl (by decide +kernel) ⟨(Nat.le_of_ble_eq_true rfl), (Nat.le_of_ble_eq_true rfl)⟩) (by omega) m15 rfl rfl rfl (Nat.le_of_ble_eq_true rfl) dX0_markRow_68 ⟨(Nat.le_of_ble_eq_true rfl), (Nat.le_of_ble_eq_true rfl)⟩) (fun r u hu => ?_)
          subst hu
          refine g_if_ne C (tgt := 81) dX0_markRow_71 (by decide) (fun c71 => ?_) (fun c71 => ?_)
          · -- 81
            refine g_aload_n C 7 rfl dX0_markRow_81 ?_
            refine g_getfN C ks (by omega) m17 rfl 0 (by decide) (fun w h => (List.mem_cons_of_mem _ (List.mem_append_left _ (List.mem_append_right _ h)))) (List.mem_of_getElem? (i := 12) rfl) rfl rfl dX0_markRow_82 ?_
            refine g_iload C 1 rfl dX0_markRow_85 ?_
            refine g_iload C 0 rfl dX0_markRow_87 ?_
            refine g_iast C (ks + 1) (by omega) a1 ((6 * r) + i) rfl (by omega) (by decide) dX0_markRow_89 (fun el21 e22 o23 => ?_)
            have m24 := (o23 k (by omega)).trans m15
            have m25 := (o23 (k + 1) (by omega)).trans m16
            have m26 := (o23 ks (by omega)).trans m17
            have m27 := (o23 (ks + 2) (by omega)).trans m18
            have m28 := (o23 kp (by omega)).trans m19
            have m29 : ∀ q, q < 7 → el21 (k + 2 + q) = .inr (1, [.int (St q), .int (We q)]) := fun q hq => (o23 (k + 2 + q) (by omega)).trans (m20 q hq)
            refine g_iinc C 2 rfl (v := nI (i + 1)) (lv' := [(5, .int (nI (i + 1))), (7, .int ((s_offF M) ||| (s_hole St We i))), (6, .int (nI ((6 * r) + i))), (4, .int (s_offF M)), (0, .ref (ad k)), (1, .int (nI r)), (2, .ref (ad kp)), (3, .ref (ad ks))]) dX0_markRow_90 (nI_add _ _) (by decide) rfl ?_
            refine g_goto C (tgt := 24) dX0_markRow_93 (by decide) ?_
            refine g_lv [0, 3, 4, 5, 6, 7] (lv' := [(5, .int (nI (i + 1))), (4, .int (s_offF M)), (0, .ref (ad k)), (1, .int (nI r)), (2, .ref (ad kp)), (3, .ref (ad ks))]) rfl ?_
            have e9 : s_stamp M St We pl r i = ((s_offF M) ||| (s_hole St We i)) := by rw [s_stamp, if_neg c71, if_pos c55]
            exact ih _ ⟨_, e22, fun q hq => by
                by_cases e : q = i
                · subst e; rw [pk_us]; exact e9.symm
                · rw [pk_un (by omega)]; exact a2 q (by omega), fun j hj => by
                rw [pk_un (by omega)]; exact a3 j hj, fun j hj => (o23 j hj).trans (a4 j hj)⟩
          · -- 74
            refine g_iload C 0 rfl dX0_markRow_74 ?_
            refine g_bipush C (v := nI 16) dX0_markRow_76 (by decide) ?_
            refine g_ior C (v := ((s_offF M) ||| (s_hole St We i)) ||| 16) dX0_markRow_78 rfl ?_
            refine g_istore C (lv' := [(7, .int (((s_offF M) ||| (s_hole St We i)) ||| 16)), (6, .int (nI ((6 * r) + i))), (5, .int (nI i)), (4, .int (s_offF M)), (0, .ref (ad k)), (1, .int (nI r)), (2, .ref (ad kp)), (3, .ref (ad ks))]) dX0_markRow_79 (by decide) rfl ?_
            refine g_aload_n C 7 rfl dX0_markRow_81 ?_
            refine g_getfN C ks (by omega) m17 rfl 0 (by decide) (fun w h => (List.mem_cons_of_mem _ (List.mem_append_left _ (List.mem_append_right _ h)))) (List.mem_of_getElem? (i := 12) rfl) rfl rfl dX0_markRow_82 ?_
            refine g_iload C 1 rfl dX0_markRow_85 ?_
            refine g_iload C 0 rfl dX0_markRow_87 ?_
            refine g_iast C (ks + 1) (by omega) a1 ((6 * r) + i) rfl (by omega) (by decide) dX0_markRow_89 (fun el30 e31 o32 => ?_)
            have m33 := (o32 k (by omega)).trans m15
            have m34 := (o32 (k + 1) (by omega)).trans m16
            have m35 := (o32 ks (by omega)).trans m17
            have m36 := (o32 (ks + 2) (by omega)).trans m18
            have m37 := (o32 kp (by omega)).trans m19
            have m38 : ∀ q, q < 7 → el30 (k + 2 + q) = .inr (1, [.int (St q), .int (We q)]) := fun q hq => (o32 (k + 2 + q) (by omega)).trans (m20 q hq)
            refine g_iinc C 2 rfl (v := nI (i + 1)) (lv' := [(5, .int (nI (i + 1))), (7, .int (((s_offF M) ||| (s_hole St We i)) ||| 16)), (6, .int (nI ((6 * r) + i))), (4, .int (s_offF M)), (0, .ref (ad k)), (1, .int (nI r)), (2, .ref (ad kp)), (3, .ref (ad ks))]) dX0_markRow_90 (nI_add _ _) (by decide) rfl ?_
            refine g_goto C (tgt := 24) dX0_markRow_93 (by decide) ?_
            refine g_lv [0, 3, 4, 5, 6, 7] (lv' := [(5, .int (nI (i + 1))), (4, .int (s_offF M)), (0, .ref (ad k)), (1, .int (nI r)), (2, .ref (ad kp)), (3, .ref (ad ks))]) rfl ?_
            have e9 : s_stamp M St We pl r i = (((s_offF M) ||| (s_hole St We i)) ||| 16) := by rw [s_stamp, if_pos c71, if_pos c55]
            exact ih _ ⟨_, e31, fun q hq => by
                by_cases e : q = i
                · subst e; rw [pk_us]; exact e9.symm
                · rw [pk_un (by omega)]; exact a2 q (by omega), fun j hj => by
                rw [pk_un (by omega)]; exact a3 j hj, fun j hj => (o32 j hj).trans (a4 j hj)⟩
        · -- 58
          refine g_iload C 0 rfl dX0_markRow_58 ?_
          refine g_bipush C (v := nI 8) dX0_markRow_60 (by decide) ?_
          refine g_ior C (v := ((s_offF M) ||| (s_hole St We i)) ||| 8) dX0_markRow_62 rfl ?_
          refine g_istore C (lv' := [(7, .int (((s_offF M) ||| (s_hole St We i)) ||| 8)), (6, .int (nI ((6 * r) + i))), (5, .int (nI i)), (4, .int (s_offF M)), (0, .ref (ad k)), (1, .int (nI r)), (2, .ref (ad kp)), (3, .ref (ad ks))]) dX0_markRow_63 (by decide) rfl ?_
          refine g_aload_n C 4 rfl dX0_markRow_65 ?_
          refine g_iload C 2 rfl dX0_markRow_66 ?_
          refine g_calli C (r_V C (st := []) (c_X0_hasWatermark l V (by omega) ⟨m15, ⟨_, m16, fun i hi => (hg4 i hi)⟩, m20⟩ i) (cwV 1 C.ts gX0_markRow_X0_hasWatermark rfl rfl rfl (by decide +kernel) ⟨(Nat.le_of_ble_eq_true rfl), (Nat.le_of_ble_eq_true rfl)⟩) (by omega) m15 rfl rfl rfl (Nat.le_of_ble_eq_true rfl) dX0_markRow_68 ⟨(Nat.le_of_ble_eq_true rfl), (Nat.le_of_ble_eq_true rfl)⟩) (fun r u hu => ?_)
          subst hu
          refine g_if_ne C (tgt := 81) dX0_markRow_71 (by decide) (fun c71 => ?_) (fun c71 => ?_)
          · -- 81
            refine g_aload_n C 7 rfl dX0_markRow_81 ?_
            refine g_getfN C ks (by omega) m17 rfl 0 (by decide) (fun w h => (List.mem_cons_of_mem _ (List.mem_append_left _ (List.mem_append_right _ h)))) (List.mem_of_getElem? (i := 12) rfl) rfl rfl dX0_markRow_82 ?_
            refine g_iload C 1 rfl dX0_markRow_85 ?_
            refine g_iload C 0 rfl dX0_markRow_87 ?_
            refine g_iast C (ks + 1) (by omega) a1 ((6 * r) + i) rfl (by omega) (by decide) dX0_markRow_89 (fun el39 e40 o41 => ?_)
            have m42 := (o41 k (by omega)).trans m15
            have m43 := (o41 (k + 1) (by omega)).trans m16
            have m44 := (o41 ks (by omega)).trans m17
            have m45 := (o41 (ks + 2) (by omega)).trans m18
            have m46 := (o41 kp (by omega)).trans m19
            have m47 : ∀ q, q < 7 → el39 (k + 2 + q) = .inr (1, [.int (St q), .int (We q)]) := fun q hq => (o41 (k + 2 + q) (by omega)).trans (m20 q hq)
            refine g_iinc C 2 rfl (v := nI (i + 1)) (lv' := [(5, .int (nI (i + 1))), (7, .int (((s_offF M) ||| (s_hole St We i)) ||| 8)), (6, .int (nI ((6 * r) + i))), (4, .int (s_offF M)), (0, .ref (ad k)), (1, .int (nI r)), (2, .ref (ad kp)), (3, .ref (ad ks))]) dX0_markRow_90 (nI_add _ _) (by decide) rfl ?_
            refine g_goto C (tgt := 24) dX0_markRow_93 (by decide) ?_
            refine g_lv [0, 3, 4, 5, 6, 7] (lv' := [(5, .int (nI (i + 1))), (4, .int (s_offF M)), (0, .ref (ad k)), (1, .int (nI r)), (2, .ref (ad kp)), (3, .ref (ad ks))]) rfl ?_
            have e9 : s_stamp M St We pl r i = (((s_offF M) ||| (s_hole St We i)) ||| 8) := by rw [s_stamp, if_neg c71, if_neg c55]
            exact ih _ ⟨_, e40, fun q hq => by
                by_cases e : q = i
                · subst e; rw [pk_us]; exact e9.symm
                · rw [pk_un (by omega)]; exact a2 q (by omega), fun j hj => by
                rw [pk_un (by omega)]; exact a3 j hj, fun j hj => (o41 j hj).trans (a4 j hj)⟩
          · -- 74
            refine g_iload C 0 rfl dX0_markRow_74 ?_
            refine g_bipush C (v := nI 16) dX0_markRow_76 (by decide) ?_
            refine g_ior C (v := (((s_offF M) ||| (s_hole St We i)) ||| 8) ||| 16) dX0_markRow_78 rfl ?_
            refine g_istore C (lv' := [(7, .int ((((s_offF M) ||| (s_hole St We i)) ||| 8) ||| 16)), (6, .int (nI ((6 * r) + i))), (5, .int (nI i)), (4, .int (s_offF M)), (0, .ref (ad k)), (1, .int (nI r)), (2, .ref (ad kp)), (3, .ref (ad ks))]) dX0_markRow_79 (by decide) rfl ?_
            refine g_aload_n C 7 rfl dX0_markRow_81 ?_
            refine g_getfN C ks (by omega) m17 rfl 0 (by decide) (fun w h => (List.mem_cons_of_mem _ (List.mem_append_left _ (List.mem_append_right _ h)))) (List.mem_of_getElem? (i := 12) rfl) rfl rfl dX0_markRow_82 ?_
            refine g_iload C 1 rfl dX0_markRow_85 ?_
            refine g_iload C 0 rfl dX0_markRow_87 ?_
            refine g_iast C (ks + 1) (by omega) a1 ((6 * r) + i) rfl (by omega) (by decide) dX0_markRow_89 (fun el48 e49 o50 => ?_)
            have m51 := (o50 k (by omega)).trans m15
            have m52 := (o50 (k + 1) (by omega)).trans m16
            have m53 := (o50 ks (by omega)).trans m17
            have m54 := (o50 (ks + 2) (by omega)).trans m18
            have m55 := (o50 kp (by omega)).trans m19
            have m56 : ∀ q, q < 7 → el48 (k + 2 + q) = .inr (1, [.int (St q), .int (We q)]) := fun q hq => (o50 (k + 2 + q) (by omega)).trans (m20 q hq)
            refine g_iinc C 2 rfl (v := nI (i + 1)) (lv' := [(5, .int (nI (i + 1))), (7, .int ((((s_offF M) ||| (s_hole St We i)) ||| 8) ||| 16)), (6, .int (nI ((6 * r) + i))), (4, .int (s_offF M)), (0, .ref (ad k)), (1, .int (nI r)), (2, .ref (ad kp)), (3, .ref (ad ks))]) dX0_markRow_90 (nI_add _ _) (by decide) rfl ?_
            refine g_goto C (tgt := 24) dX0_markRow_93 (by decide) ?_
            refine g_lv [0, 3, 4, 5, 6, 7] (lv' := [(5, .int (nI (i + 1))), (4, .int (s_offF M)), (0, .ref (ad k)), (1, .int (nI r)), (2, .ref (ad kp)), (3, .ref (ad ks))]) rfl ?_
            have e9 : s_stamp M St We pl r i = ((((s_offF M) ||| (s_hole St We i)) ||| 8) ||| 16) := by rw [s_stamp, if_pos c71, if_neg c55]
            exact ih _ ⟨_, e49, fun q hq => by
                by_cases e : q = i
                · subst e; rw [pk_us]; exact e9.symm
                · rw [pk_un (by omega)]; exact a2 q (by omega), fun j hj => by
                rw [pk_un (by omega)]; exact a3 j hj, fun j hj => (o50 j hj).trans (a4 j hj)⟩
  · -- ways
    refine g_if_eq C (tgt := 18) dX0_markRow_11 (by decide) (fun c11 => ?_) (fun c11 => ?_)
    · -- 18
      refine g_iconst C (v := nI 1) dX0_markRow_18 (by decide) ?_
      exact J _ ((if_pos c11).symm)
    · -- 14
      refine g_iconst C (v := nI 0) dX0_markRow_14 (by decide) ?_
      refine g_goto C (tgt := 19) dX0_markRow_15 (by decide) ?_
      exact J _ ((if_neg c11).symm)

set_option maxHeartbeats 4000000 in
set_option maxRecDepth 100000 in
theorem c_X0_perforate (l : Launch) (V : gT) {n : Nat} {ad : Nat → Nat} {el : Nat → va_E} {k : Nat} {M St We : Nat → Int32} (hk : k + 9 ≤ n) (h : MacAt V ad el k M St We) {kp ks : Nat} {pl f t : Nat → Int32} (hkp : kp < n) (hpl : el kp = .inl (V.2 1, 30, .inl pl)) (hks : ks + 3 ≤ n) (hs : ShtAt V ad el ks f t) (hd1 : ks + 3 ≤ k ∨ k + 9 ≤ ks) (hd2 : kp ≠ ks + 1) (hd3 : kp < k ∨ k + 9 ≤ kp) : TT l V yX0_perforate wsX0_perforate { frames := 3, cells := 0, slots := 0, locals := 69 } n ad el [.ref (ad k), .ref (ad kp), .ref (ad ks)] (QVw V n ad (fun u => MacAt V ad u k (s_end M) St (s_W St We 5) ∧ (∃ f1 : Nat → Int32, ShtAt V ad u ks f1 t ∧ ∀ j, j < 30 → f1 j = s_fault M St We pl j) ∧ ∀ j, (j < k ∨ k + 9 ≤ j) → j ≠ ks + 1 → u j = el j)) 0 0 := by
  refine TT.body (cc := cX0_perforate) (maxL := 4) (ret := none) (by decide) rfl (Nat.le_of_ble_eq_true rfl) ?_
  intro p e s m below meth c C hnm
  refine g_lv [0, 1, 2] (lv' := [(0, .ref (ad k)), (1, .ref (ad kp)), (2, .ref (ad ks))]) rfl ?_
  obtain ⟨hM1, ⟨g2, hA3, hg4⟩, hp5⟩ := id h
  obtain ⟨hs6, ha7, hb8⟩ := id hs
  refine g_iconst C (v := nI 0) dX0_perforate_0 (by decide) ?_
  refine g_istore_n C (lv' := [(3, .int (nI 0)), (0, .ref (ad k)), (1, .ref (ad kp)), (2, .ref (ad ks))]) dX0_perforate_1 (by decide) rfl ?_
  refine g_lv [0, 1, 2, 3] (lv' := [(3, .int (nI 0)), (0, .ref (ad k)), (1, .ref (ad kp)), (2, .ref (ad ks))]) rfl ?_
  refine g_forE 5 (fun (i : Nat) => [(3, .int (nI i)), (0, .ref (ad k)), (1, .ref (ad kp)), (2, .ref (ad ks))]) (fun i el1 => MacAt V ad el1 k (s_M M i) St (s_W St We i) ∧ (∃ f1 : Nat → Int32, el1 (ks + 1) = .inl (V.2 0, 30, .inl f1) ∧ ∀ j, j < 6 * i → f1 j = s_fault M St We pl j) ∧ ∀ j, (j < k ∨ k + 9 ≤ j) → j ≠ ks + 1 → el1 j = el j) ⟨h, ⟨f, ha7, fun j hj => absurd hj (by omega)⟩, fun j _ _ => rfl⟩ (fun el1 h1 => ?_) (fun i el1 hi h1 ih => ?_)
  · -- loop 2: its end
    obtain ⟨b1, ⟨f1, a1, a2⟩, a4⟩ := id h1
    have m9 := (a4 (ks) (by omega) (by omega)).trans hs6
    have m10 := (a4 (ks + 2) (by omega) (by omega)).trans hb8
    have m11 := (a4 (kp) (by omega) (by omega)).trans hpl
    obtain ⟨hM12, ⟨g13, hA14, hg15⟩, hp16⟩ := id b1
    refine g_iload_n C 0 rfl dX0_perforate_2 ?_
    refine g_iconst C (v := nI 5) dX0_perforate_3 (by decide) ?_
    refine g_icmp_ge C (tgt := 60) dX0_perforate_4 (by decide) (fun c4 => ?_) (fun c4 => ?_)
    · -- 60
      have c4 : 5 ≤ 5 := (nI_leI (by omega) (by omega)).mp c4
      refine g_aload_n C 1 rfl dX0_perforate_60 ?_
      refine g_bipush C (v := nI 10) dX0_perforate_61 (by decide) ?_
      refine g_bipush C (v := nI 30) dX0_perforate_63 (by decide) ?_
      refine g_aload_n C 1 rfl dX0_perforate_65 ?_
      refine g_getf C k (by omega) hM12 rfl 1 (by decide) (fun w h => (List.mem_cons_of_mem _ (List.mem_append_left _ (List.mem_append_left _ (List.mem_append_right _ h))))) (List.mem_of_getElem? (i := 2) rfl) rfl rfl dX0_perforate_66 ?_
      refine g_aload_n C 1 rfl dX0_perforate_69 ?_
      refine g_getf C k (by omega) hM12 rfl 2 (by decide) (fun w h => (List.mem_cons_of_mem _ (List.mem_append_left _ (List.mem_append_left _ (List.mem_append_right _ h))))) (List.mem_of_getElem? (i := 5) rfl) rfl rfl dX0_perforate_70 ?_
      refine g_iadd C (v := (s_M M 5 0) + (s_M M 5 1)) dX0_perforate_73 rfl ?_
      refine g_mmin C (v := s_min 30 ((s_M M 5 0) + (s_M M 5 1))) rfl (List.mem_of_getElem? (i := 6) rfl) (List.mem_of_getElem? (i := 7) rfl) (List.mem_of_getElem? (i := 8) rfl) (List.mem_of_getElem? (i := 9) rfl) (Nat.le_of_ble_eq_true rfl) (Nat.le_of_ble_eq_true rfl) (Nat.le_of_ble_eq_true rfl) (Nat.le_of_ble_eq_true rfl) dX0_perforate_74 ?_
      refine g_mmax C (v := s_max 10 (s_min 30 ((s_M M 5 0) + (s_M M 5 1)))) rfl (List.mem_of_getElem? (i := 10) rfl) (List.mem_of_getElem? (i := 11) rfl) (List.mem_of_getElem? (i := 8) rfl) (List.mem_of_getElem? (i := 12) rfl) (Nat.le_of_ble_eq_true rfl) (Nat.le_of_ble_eq_true rfl) (Nat.le_of_ble_eq_true rfl) (Nat.le_of_ble_eq_true rfl) dX0_perforate_77 ?_
      refine g_putf C k (by omega) hM12 rfl 1 (by decide) (fun w h => (List.mem_cons_of_mem _ (List.mem_append_left _ (List.mem_append_left _ (List.mem_append_right _ h))))) tyX0 tyX0_ok nmX0 (List.mem_of_getElem? (i := 2) rfl) rfl rfl rfl rfl (Nat.le_of_ble_eq_true rfl) dX0_perforate_80 (fun el17 e18 o19 => ?_)
      replace e18 : el17 k = .inr (0, [.ref (ad (k + 1)), .int (s_max 10 (s_min 30 ((s_M M 5 0) + (s_M M 5 1)))), .int (s_M M 5 1), .int (s_M M 5 2), .int (s_M M 5 3), .int (s_M M 5 5), .int (s_M M 5 4)]) := e18
      have m20 := (o19 ks (by omega)).trans m9
      have m21 := (o19 (ks + 2) (by omega)).trans m10
      have m22 := (o19 kp (by omega)).trans m11
      have m23 := (o19 (k + 1) (by omega)).trans hA14
      have m24 := (o19 (ks + 1) (by omega)).trans a1
      have m25 : ∀ q, q < 7 → el17 (k + 2 + q) = .inr (1, [.int (St q), .int (s_W St We 5 q)]) := fun q hq => (o19 (k + 2 + q) (by omega)).trans (hp16 q hq)
      exact g_vret C rfl dX0_perforate_83 el17 rfl rfl rfl ⟨⟨e18, ⟨_, m23, fun i hi => (hg15 i hi)⟩, m25⟩, ⟨f1, ⟨m20, m24, m21⟩, fun j hj => a2 j (by omega)⟩, fun j hj hj2 => (o19 j (by omega)).trans (a4 j hj hj2)⟩ (Nat.le_of_ble_eq_true rfl) (Nat.le_of_ble_eq_true rfl)
    · -- 7
      have c4 : 5 < 5 := Nat.lt_of_not_le (fun z => c4 ((nI_leI (by omega) (by omega)).mpr z))
      exact absurd c4 (by omega)
  · -- loop 2: its body
    obtain ⟨b1, ⟨f1, a1, a2⟩, a4⟩ := id h1
    have m26 := (a4 (ks) (by omega) (by omega)).trans hs6
    have m27 := (a4 (ks + 2) (by omega) (by omega)).trans hb8
    have m28 := (a4 (kp) (by omega) (by omega)).trans hpl
    obtain ⟨hM29, ⟨g30, hA31, hg32⟩, hp33⟩ := id b1
    refine g_iload_n C 0 rfl dX0_perforate_2 ?_
    refine g_iconst C (v := nI 5) dX0_perforate_3 (by decide) ?_
    refine g_icmp_ge C (tgt := 60) dX0_perforate_4 (by decide) (fun c4 => ?_) (fun c4 => ?_)
    · -- 60
      have c4 : 5 ≤ i := (nI_leI (by omega) (by omega)).mp c4
      exact absurd c4 (by omega)
    · -- 7
      have c4 : i < 5 := Nat.lt_of_not_le (fun z => c4 ((nI_leI (by omega) (by omega)).mpr z))
      refine g_aload_n C 1 rfl dX0_perforate_7 ?_
      refine g_dup C dX0_perforate_8 rfl ?_
      refine g_getf C k (by omega) hM29 rfl 3 (by decide) (fun w h => (List.mem_cons_of_mem _ (List.mem_append_left _ (List.mem_append_left _ (List.mem_append_right _ h))))) (List.mem_of_getElem? (i := 1) rfl) rfl rfl dX0_perforate_9 ?_
      refine g_aload_n C 1 rfl dX0_perforate_12 ?_
      refine g_getf C k (by omega) hM29 rfl 1 (by decide) (fun w h => (List.mem_cons_of_mem _ (List.mem_append_left _ (List.mem_append_left _ (List.mem_append_right _ h))))) (List.mem_of_getElem? (i := 2) rfl) rfl rfl dX0_perforate_13 ?_
      refine g_bipush C (v := nI 20) dX0_perforate_16 (by decide) ?_
      refine g_isub C (v := (s_M M i 0) - 20) dX0_perforate_18 rfl ?_
      refine g_iadd C (v := (s_M M i 2) + ((s_M M i 0) - 20)) dX0_perforate_19 rfl ?_
      refine g_putf C k (by omega) hM29 rfl 3 (by decide) (fun w h => (List.mem_cons_of_mem _ (List.mem_append_left _ (List.mem_append_left _ (List.mem_append_right _ h))))) tyX0 tyX0_ok nmX0 (List.mem_of_getElem? (i := 1) rfl) rfl rfl rfl rfl (Nat.le_of_ble_eq_true rfl) dX0_perforate_20 (fun el34 e35 o36 => ?_)
      replace e35 : el34 k = .inr (0, [.ref (ad (k + 1)), .int (s_M M i 0), .int (s_M M i 1), .int ((s_M M i 2) + ((s_M M i 0) - 20)), .int (s_M M i 3), .int (s_M M i 5), .int (s_M M i 4)]) := e35
      have m37 := (o36 ks (by omega)).trans m26
      have m38 := (o36 (ks + 2) (by omega)).trans m27
      have m39 := (o36 kp (by omega)).trans m28
      have m40 := (o36 (k + 1) (by omega)).trans hA31
      have m41 := (o36 (ks + 1) (by omega)).trans a1
      have m42 : ∀ q, q < 7 → el34 (k + 2 + q) = .inr (1, [.int (St q), .int (s_W St We i q)]) := fun q hq => (o36 (k + 2 + q) (by omega)).trans (hp33 q hq)
      refine g_aload_n C 1 rfl dX0_perforate_23 ?_
      refine g_iload_n C 0 rfl dX0_perforate_24 ?_
      refine g_aload_n C 2 rfl dX0_perforate_25 ?_
      refine g_aload_n C 3 rfl dX0_perforate_26 ?_
      refine g_callv C (r_V C (st := []) (c_X0_markRow l V (k := k) (M := s_err (s_M M i)) (St := St) (We := s_W St We i) (by omega) ⟨e35, ⟨_, m40, fun i hi => (hg32 i hi)⟩, m42⟩ (kp := kp) (ks := ks) i (by omega) (by omega) m39 (by omega) ⟨m37, m41, m38⟩ (by omega) (by omega)) (cwV 3 C.ts gX0_perforate_X0_markRow rfl rfl rfl (by decide +kernel) ⟨(Nat.le_of_ble_eq_true rfl), (Nat.le_of_ble_eq_true rfl)⟩) (by omega) e35 rfl rfl rfl (Nat.le_of_ble_eq_true rfl) dX0_perforate_27 ⟨(Nat.le_of_ble_eq_true rfl), (Nat.le_of_ble_eq_true rfl)⟩) (fun u hu => ?_)
      obtain ⟨f2, u1, u2, u3, u4⟩ := hu
      have hM9 : el34 k = .inr (0, [.ref (ad (k + 1)), .int (s_err (s_M M i) 0), .int (s_err (s_M M i) 1), .int (s_err (s_M M i) 2), .int (s_err (s_M M i) 3), .int (s_err (s_M M i) 5), .int (s_err (s_M M i) 4)]) := e35
      have m43 := (u4 (ks) (by omega)).trans m37
      have m44 := (u4 (ks + 2) (by omega)).trans m38
      have m45 := (u4 (kp) (by omega)).trans m39
      have m46 := (u4 (k + 1) (by omega)).trans m40
      have m47 := (u4 (k) (by omega)).trans hM9
      have m48 : ∀ q, q < 7 → u (k + 2 + q) = .inr (1, [.int (St q), .int (s_W St We i q)]) := fun q hq => (u4 (k + 2 + q) (by omega)).trans (m42 q hq)
      refine g_aload_n C 1 rfl dX0_perforate_30 ?_
      refine g_callv C (r_V C (st := []) (c_X0_strikeAll l V (k := k) (M := s_err (s_M M i)) (St := St) (We := s_W St We i) (by omega) ⟨m47, ⟨_, m46, fun i hi => (hg32 i hi)⟩, m48⟩) (cwV 0 C.ts gX0_perforate_X0_strikeAll rfl rfl rfl (by decide +kernel) ⟨(Nat.le_of_ble_eq_true rfl), (Nat.le_of_ble_eq_true rfl)⟩) (by omega) m47 rfl rfl rfl (Nat.le_of_ble_eq_true rfl) dX0_perforate_31 ⟨(Nat.le_of_ble_eq_true rfl), (Nat.le_of_ble_eq_true rfl)⟩) (fun v hv => ?_)
      obtain ⟨v1, v2⟩ := hv
      have m49 := (v2 (ks) (by omega)).trans m43
      have m50 := (v2 (ks + 2) (by omega)).trans m44
      have m51 := (v2 (kp) (by omega)).trans m45
      have m52 := (v2 (ks + 1) (by omega)).trans u1
      obtain ⟨hM53, ⟨g54, hA55, hg56⟩, hp57⟩ := id v1
      refine g_aload_n C 1 rfl dX0_perforate_34 ?_
      refine g_dup C dX0_perforate_35 rfl ?_
      refine g_getf C k (by omega) hM53 rfl 4 (by decide) (fun w h => (List.mem_cons_of_mem _ (List.mem_append_left _ (List.mem_append_left _ (List.mem_append_right _ h))))) (List.mem_of_getElem? (i := 3) rfl) rfl rfl dX0_perforate_36 ?_
      refine g_iconst C (v := nI 1) dX0_perforate_39 (by decide) ?_
      refine g_isub C (v := (s_err (s_M M i) 3) - 1) dX0_perforate_40 rfl ?_
      refine g_putf C k (by omega) hM53 rfl 4 (by decide) (fun w h => (List.mem_cons_of_mem _ (List.mem_append_left _ (List.mem_append_left _ (List.mem_append_right _ h))))) tyX0 tyX0_ok nmX0 (List.mem_of_getElem? (i := 3) rfl) rfl rfl rfl rfl (Nat.le_of_ble_eq_true rfl) dX0_perforate_41 (fun el58 e59 o60 => ?_)
      replace e59 : el58 k = .inr (0, [.ref (ad (k + 1)), .int (s_err (s_M M i) 0), .int (s_err (s_M M i) 1), .int (s_err (s_M M i) 2), .int ((s_err (s_M M i) 3) - 1), .int (s_err (s_M M i) 5), .int (s_err (s_M M i) 4)]) := e59
      have m61 := (o60 ks (by omega)).trans m49
      have m62 := (o60 (ks + 2) (by omega)).trans m50
      have m63 := (o60 kp (by omega)).trans m51
      have m64 := (o60 (ks + 1) (by omega)).trans m52
      have m65 := (o60 (k + 1) (by omega)).trans hA55
      have m66 : ∀ q, q < 7 → el58 (k + 2 + q) = .inr (1, [.int (St q), .int (s_rowW St (s_W St We i) q)]) := fun q hq => (o60 (k + 2 + q) (by omega)).trans (hp57 q hq)
      refine g_aload_n C 1 rfl dX0_perforate_44 ?_
      refine g_dup C dX0_perforate_45 rfl ?_
      refine g_getf C k (by omega) e59 rfl 5 (by decide) (fun w h => (List.mem_cons_of_mem _ (List.mem_append_left _ (List.mem_append_left _ (List.mem_append_right _ h))))) (List.mem_of_getElem? (i := 4) rfl) rfl rfl dX0_perforate_46 ?_
      refine g_iconst C (v := nI 1) dX0_perforate_49 (by decide) ?_
      refine g_iadd C (v := (s_err (s_M M i) 5) + 1) dX0_perforate_50 rfl ?_
      refine g_putf C k (by omega) e59 rfl 5 (by decide) (fun w h => (List.mem_cons_of_mem _ (List.mem_append_left _ (List.mem_append_left _ (List.mem_append_right _ h))))) tyX0 tyX0_ok nmX0 (List.mem_of_getElem? (i := 4) rfl) rfl rfl rfl rfl (Nat.le_of_ble_eq_true rfl) dX0_perforate_51 (fun el67 e68 o69 => ?_)
      replace e68 : el67 k = .inr (0, [.ref (ad (k + 1)), .int (s_err (s_M M i) 0), .int (s_err (s_M M i) 1), .int (s_err (s_M M i) 2), .int ((s_err (s_M M i) 3) - 1), .int ((s_err (s_M M i) 5) + 1), .int (s_err (s_M M i) 4)]) := e68
      have m70 := (o69 ks (by omega)).trans m61
      have m71 := (o69 (ks + 2) (by omega)).trans m62
      have m72 := (o69 kp (by omega)).trans m63
      have m73 := (o69 (ks + 1) (by omega)).trans m64
      have m74 := (o69 (k + 1) (by omega)).trans m65
      have m75 : ∀ q, q < 7 → el67 (k + 2 + q) = .inr (1, [.int (St q), .int (s_rowW St (s_W St We i) q)]) := fun q hq => (o69 (k + 2 + q) (by omega)).trans (m66 q hq)
      refine g_iinc C 0 rfl (v := nI (i + 1)) (lv' := [(3, .int (nI (i + 1))), (0, .ref (ad k)), (1, .ref (ad kp)), (2, .ref (ad ks))]) dX0_perforate_54 (nI_add _ _) (by decide) rfl ?_
      refine g_goto C (tgt := 2) dX0_perforate_57 (by decide) ?_
      refine g_lv [0, 1, 2, 3] (lv' := [(3, .int (nI (i + 1))), (0, .ref (ad k)), (1, .ref (ad kp)), (2, .ref (ad ks))]) rfl ?_
      exact ih _ ⟨⟨e68, ⟨_, m74, fun i hi => (hg56 i hi)⟩, m75⟩, ⟨f2, m73, fun j hj => by
          by_cases e : j < 6 * i
          · rw [u3 j e]; exact a2 j e
          · obtain ⟨q, rfl⟩ : ∃ q, j = 6 * i + q := ⟨j - 6 * i, by omega⟩
            rw [u2 q (by omega), s_fault_at (by omega)]⟩, fun j hj hj2 => (o69 j (by omega)).trans ((o60 j (by omega)).trans ((v2 j hj).trans ((u4 j hj2).trans ((o36 j (by omega)).trans (a4 j hj hj2)))))⟩
end
section
/-! ===== the trial ===== -/
def TrAt (V : gT) (ad : Nat → Nat) (el : Nat → va_E) (k : Nat) (a b : Int32) (M St We f t : Nat → Int32) : Prop :=
  el k = .inr (3, [.ref (ad (k + 1)), .ref (ad (k + 10)), .int a, .int b]) ∧ MacAt V ad el (k + 1) M St We ∧ ShtAt V ad el (k + 10) f t
theorem TrAt.keep {V : gT} {ad : Nat → Nat} {el el' : Nat → va_E} {k : Nat} {a b : Int32} {M St We f t : Nat → Int32} (h : TrAt V ad el k a b M St We f t) (ho : ∀ j, k ≤ j → j < k + 13 → el' j = el j) : TrAt V ad el' k a b M St We f t :=
  ⟨(ho k (by omega) (by omega)).trans h.1, h.2.1.keep (fun j h1 h2 => ho j (by omega) (by omega)), h.2.2.keep (fun j h1 h2 => ho j (by omega) (by omega))⟩
theorem TrAt.adr {V : gT} {ad ad' : Nat → Nat} {el : Nat → va_E} {k : Nat} {a b : Int32} {M St We f t : Nat → Int32} (h : TrAt V ad el k a b M St We f t) (ho : ∀ j, k ≤ j → j < k + 13 → ad' j = ad j) : TrAt V ad' el k a b M St We f t :=
  ⟨by rw [h.1, ho _ (by omega) (by omega), ho _ (by omega) (by omega)], h.2.1.adr (fun j h1 h2 => ho j (by omega) (by omega)), h.2.2.adr (fun j h1 h2 => ho j (by omega) (by omega))⟩
theorem s_lw_congr {f g t : Nat → Int32} {x : Int32} (e : ∀ j, j < 30 → f j = g j) : s_leftWith f t x = s_leftWith g t x := s_sum_congr (fun j hj => by show s_lw (f j) _ _ = s_lw (g j) _ _; rw [e j hj])
theorem s_wo_congr {f g t : Nat → Int32} (e : ∀ j, j < 30 → f j = g j) : s_worths f t = s_worths g t := s_sum_congr (fun j hj => by show s_worth (f j) _ = s_worth (g j) _; rw [e j hj])

set_option maxHeartbeats 4000000 in
set_option maxRecDepth 100000 in
theorem c_X3_perforateFrom (l : Launch) (V : gT) {n : Nat} {ad : Nat → Nat} {el : Nat → va_E} {k k2 kp : Nat} {a0 b0 : Int32} {M0 St0 We0 M St We f t pl : Nat → Int32} (hk : k + 13 ≤ n) (hk2 : k2 + 9 ≤ n) (hd : k + 13 ≤ k2 ∨ k2 + 9 ≤ k) (h : TrAt V ad el k a0 b0 M0 St0 We0 f t) (h2 : MacAt V ad el k2 M St We) (hkp : kp < n) (hpl : el kp = .inl (V.2 1, 30, .inl pl)) (hd3 : kp < k ∨ k + 13 ≤ kp) (x : Int32) (N : Nat) (hN : N < 2 ^ 31) : TT l V yX3_perforateFrom wsX3_perforateFrom { frames := 4, cells := 0, slots := 0, locals := 92 } n ad el [.ref (ad k), .ref (ad k2), .int x, .ref (ad kp), .int (nI N)] (QVw V n ad (fun u => (∃ f1 : Nat → Int32, TrAt V ad u k (s_tC (upd M 0 x) St We pl t N) (s_tV (upd M 0 x) St We pl t N) (s_rM (upd M 0 x) N) St (s_rW St We N) f1 t) ∧ ∀ j, (j < k ∨ k + 13 ≤ j) → u j = el j)) 0 0 := by
  refine TT.body (cc := cX3_perforateFrom) (maxL := 6) (ret := none) (by decide) rfl (Nat.le_of_ble_eq_true rfl) ?_
  intro p e s m below meth c C hnm
  refine g_lv [0, 1, 2, 3, 4] (lv' := [(0, .ref (ad k)), (1, .ref (ad k2)), (2, .int x), (3, .ref (ad kp)), (4, .int (nI N))]) rfl ?_
  obtain ⟨ht, hm, hs⟩ := id h
  obtain ⟨hM1, ⟨g2, hA3, hg4⟩, hp5⟩ := id hm
  obtain ⟨hM6, ⟨g7, hA8, hg9⟩, hp10⟩ := id h2
  obtain ⟨hs11, ha12, hb13⟩ := id hs
  refine g_aload_n C 0 rfl dX3_perforateFrom_0 ?_
  refine g_getf C k (by omega) ht rfl 0 (by decide) (fun w h => (List.mem_cons_of_mem _ (List.mem_append_left _ (List.mem_append_left _ (List.mem_append_left _ (List.mem_append_right _ h)))))) (List.mem_of_getElem? (i := 1) rfl) rfl rfl dX3_perforateFrom_1 ?_
  refine g_aload_n C 1 rfl dX3_perforateFrom_4 ?_
  refine g_callv C (r_V C (st := []) (c_X0_becomeLike l V (k := k + 1) (k2 := k2) (M0 := M0) (St0 := St0) (We0 := We0) (M := M) (St := St) (We := We) (by omega) (by omega) (by omega) ⟨hM1, ⟨_, hA3, fun i hi => (hg4 i hi)⟩, hp5⟩ ⟨hM6, ⟨_, hA8, fun i hi => (hg9 i hi)⟩, hp10⟩) (cwV 1 C.ts gX3_perforateFrom_X0_becomeLike rfl rfl rfl (by decide +kernel) ⟨(Nat.le_of_ble_eq_true rfl), (Nat.le_of_ble_eq_true rfl)⟩) (by omega) hM1 rfl rfl rfl (Nat.le_of_ble_eq_true rfl) dX3_perforateFrom_5 ⟨(Nat.le_of_ble_eq_true rfl), (Nat.le_of_ble_eq_true rfl)⟩) (fun u hu => ?_)
  obtain ⟨u1, u2⟩ := hu
  have m14 := (u2 (k) (by omega)).trans ht
  have m15 := (u2 (k2) (by omega)).trans hM6
  have m16 := (u2 (k2 + 1) (by omega)).trans hA8
  have m17 := (u2 (k + 10) (by omega)).trans hs11
  have m18 := (u2 (k + 11) (by omega)).trans ha12
  have m19 := (u2 (k + 12) (by omega)).trans hb13
  have m20 := (u2 (kp) (by omega)).trans hpl
  have m21 : ∀ q, q < 7 → u (k2 + 2 + q) = .inr (1, [.int (St q), .int (We q)]) := fun q hq => (u2 (k2 + 2 + q) (by omega)).trans (hp10 q hq)
  obtain ⟨hM22, ⟨g23, hA24, hg25⟩, hp26⟩ := id u1
  refine g_aload_n C 0 rfl dX3_perforateFrom_8 ?_
  refine g_getf C k (by omega) m14 rfl 0 (by decide) (fun w h => (List.mem_cons_of_mem _ (List.mem_append_left _ (List.mem_append_left _ (List.mem_append_left _ (List.mem_append_right _ h)))))) (List.mem_of_getElem? (i := 1) rfl) rfl rfl dX3_perforateFrom_9 ?_
  refine g_iload_n C 2 rfl dX3_perforateFrom_12 ?_
  refine g_putfN C (k + 1) (by omega) hM22 rfl 1 (by decide) (fun w h => (List.mem_cons_of_mem _ (List.mem_append_left _ (List.mem_append_left _ (List.mem_append_right _ h))))) tyX0 tyX0_ok nmX0 (List.mem_of_getElem? (i := 4) rfl) rfl rfl rfl rfl (Nat.le_of_ble_eq_true rfl) dX3_perforateFrom_13 (fun el27 e28 o29 => ?_)
  replace e28 : el27 (k + 1) = .inr (0, [.ref (ad (k + 2)), .int x, .int (M 1), .int (M 2), .int (M 3), .int (M 5), .int (M 4)]) := e28
  have m30 := (o29 k (by omega)).trans m14
  have m31 := (o29 k2 (by omega)).trans m15
  have m32 := (o29 (k2 + 1) (by omega)).trans m16
  have m33 := (o29 (k + 10) (by omega)).trans m17
  have m34 := (o29 (k + 11) (by omega)).trans m18
  have m35 := (o29 (k + 12) (by omega)).trans m19
  have m36 := (o29 kp (by omega)).trans m20
  have m37 := (o29 (k + 2) (by omega)).trans hA24
  have m38 : ∀ q, q < 7 → el27 (k2 + 2 + q) = .inr (1, [.int (St q), .int (We q)]) := fun q hq => (o29 (k2 + 2 + q) (by omega)).trans (m21 q hq)
  have m39 : ∀ q, q < 7 → el27 (k + 3 + q) = .inr (1, [.int (St q), .int (We q)]) := fun q hq => (o29 (k + 3 + q) (by omega)).trans (hp26 q hq)
  refine g_aload_n C 0 rfl dX3_perforateFrom_16 ?_
  refine g_iconst C (v := nI 0) dX3_perforateFrom_17 (by decide) ?_
  refine g_putf C k (by omega) m30 rfl 2 (by decide) (fun w h => (List.mem_cons_of_mem _ (List.mem_append_left _ (List.mem_append_left _ (List.mem_append_left _ (List.mem_append_right _ h)))))) tyX3 tyX3_ok nmX3 (List.mem_of_getElem? (i := 2) rfl) rfl rfl rfl rfl (Nat.le_of_ble_eq_true rfl) dX3_perforateFrom_18 (fun el40 e41 o42 => ?_)
  replace e41 : el40 k = .inr (3, [.ref (ad (k + 1)), .ref (ad (k + 10)), .int (nI 0), .int b0]) := e41
  have m43 := (o42 k2 (by omega)).trans m31
  have m44 := (o42 (k2 + 1) (by omega)).trans m32
  have m45 := (o42 (k + 10) (by omega)).trans m33
  have m46 := (o42 (k + 11) (by omega)).trans m34
  have m47 := (o42 (k + 12) (by omega)).trans m35
  have m48 := (o42 kp (by omega)).trans m36
  have m49 := (o42 (k + 2) (by omega)).trans m37
  have m50 := (o42 (k + 1) (by omega)).trans e28
  have m51 : ∀ q, q < 7 → el40 (k2 + 2 + q) = .inr (1, [.int (St q), .int (We q)]) := fun q hq => (o42 (k2 + 2 + q) (by omega)).trans (m38 q hq)
  have m52 : ∀ q, q < 7 → el40 (k + 3 + q) = .inr (1, [.int (St q), .int (We q)]) := fun q hq => (o42 (k + 3 + q) (by omega)).trans (m39 q hq)
  refine g_aload_n C 0 rfl dX3_perforateFrom_21 ?_
  refine g_iconst C (v := nI 0) dX3_perforateFrom_22 (by decide) ?_
  refine g_putf C k (by omega) e41 rfl 3 (by decide) (fun w h => (List.mem_cons_of_mem _ (List.mem_append_left _ (List.mem_append_left _ (List.mem_append_left _ (List.mem_append_right _ h)))))) tyX3 tyX3_ok nmX3 (List.mem_of_getElem? (i := 3) rfl) rfl rfl rfl rfl (Nat.le_of_ble_eq_true rfl) dX3_perforateFrom_23 (fun el53 e54 o55 => ?_)
  replace e54 : el53 k = .inr (3, [.ref (ad (k + 1)), .ref (ad (k + 10)), .int (nI 0), .int (nI 0)]) := e54
  have m56 := (o55 k2 (by omega)).trans m43
  have m57 := (o55 (k2 + 1) (by omega)).trans m44
  have m58 := (o55 (k + 10) (by omega)).trans m45
  have m59 := (o55 (k + 11) (by omega)).trans m46
  have m60 := (o55 (k + 12) (by omega)).trans m47
  have m61 := (o55 kp (by omega)).trans m48
  have m62 := (o55 (k + 2) (by omega)).trans m49
  have m63 := (o55 (k + 1) (by omega)).trans m50
  have m64 : ∀ q, q < 7 → el53 (k2 + 2 + q) = .inr (1, [.int (St q), .int (We q)]) := fun q hq => (o55 (k2 + 2 + q) (by omega)).trans (m51 q hq)
  have m65 : ∀ q, q < 7 → el53 (k + 3 + q) = .inr (1, [.int (St q), .int (We q)]) := fun q hq => (o55 (k + 3 + q) (by omega)).trans (m52 q hq)
  refine g_iconst C (v := nI 0) dX3_perforateFrom_26 (by decide) ?_
  refine g_istore C (lv' := [(5, .int (nI 0)), (0, .ref (ad k)), (1, .ref (ad k2)), (2, .int x), (3, .ref (ad kp)), (4, .int (nI N))]) dX3_perforateFrom_27 (by decide) rfl ?_
  refine g_lv [0, 1, 4, 5] (lv' := [(5, .int (nI 0)), (0, .ref (ad k)), (3, .ref (ad kp)), (4, .int (nI N))]) rfl ?_
  refine g_forE N (fun (i : Nat) => [(5, .int (nI i)), (0, .ref (ad k)), (3, .ref (ad kp)), (4, .int (nI N))]) (fun i el1 => el1 k = .inr (3, [.ref (ad (k + 1)), .ref (ad (k + 10)), .int (s_tC (upd M 0 x) St We pl t i), .int (s_tV (upd M 0 x) St We pl t i)]) ∧ MacAt V ad el1 (k + 1) (s_rM (upd M 0 x) i) St (s_rW St We i) ∧ (∃ f1 : Nat → Int32, ShtAt V ad el1 (k + 10) f1 t) ∧ ∀ j, (j < k ∨ k + 13 ≤ j) → el1 j = el j) ⟨e54, ⟨m63, ⟨_, m62, fun i hi => (hg25 i hi)⟩, m65⟩, ⟨f, m58, m59, m60⟩, fun j hj => (o55 j (by omega)).trans ((o42 j (by omega)).trans ((o29 j (by omega)).trans (u2 j (by omega))))⟩ (fun el1 h1 => ?_) (fun i el1 hi h1 ih => ?_)
  · -- loop 29: its end
    obtain ⟨b1, b2, ⟨f1, b3⟩, a4⟩ := id h1
    have m66 := (a4 (kp) (by omega)).trans hpl
    obtain ⟨hM67, ⟨g68, hA69, hg70⟩, hp71⟩ := id b2
    obtain ⟨hs72, ha73, hb74⟩ := id b3
    refine g_iload C 0 rfl dX3_perforateFrom_29 ?_
    refine g_iload C 3 rfl dX3_perforateFrom_31 ?_
    refine g_icmp_ge C (tgt := 87) dX3_perforateFrom_33 (by decide) (fun c33 => ?_) (fun c33 => ?_)
    · -- 87
      have c33 : N ≤ N := (nI_leI (by omega) (by omega)).mp c33
      exact g_vret C rfl dX3_perforateFrom_87 el1 rfl rfl rfl ⟨⟨f1, b1, b2, b3⟩, a4⟩ (Nat.le_of_ble_eq_true rfl) (Nat.le_of_ble_eq_true rfl)
    · -- 36
      have c33 : N < N := Nat.lt_of_not_le (fun z => c33 ((nI_leI (by omega) (by omega)).mpr z))
      exact absurd c33 (by omega)
  · -- loop 29: its body
    obtain ⟨b1, b2, ⟨f1, b3⟩, a4⟩ := id h1
    have m75 := (a4 (kp) (by omega)).trans hpl
    obtain ⟨hM76, ⟨g77, hA78, hg79⟩, hp80⟩ := id b2
    obtain ⟨hs81, ha82, hb83⟩ := id b3
    refine g_iload C 0 rfl dX3_perforateFrom_29 ?_
    refine g_iload C 3 rfl dX3_perforateFrom_31 ?_
    refine g_icmp_ge C (tgt := 87) dX3_perforateFrom_33 (by decide) (fun c33 => ?_) (fun c33 => ?_)
    · -- 87
      have c33 : N ≤ i := (nI_leI (by omega) (by omega)).mp c33
      exact absurd c33 (by omega)
    · -- 36
      have c33 : i < N := Nat.lt_of_not_le (fun z => c33 ((nI_leI (by omega) (by omega)).mpr z))
      refine g_aload_n C 1 rfl dX3_perforateFrom_36 ?_
      refine g_getf C k (by omega) b1 rfl 0 (by decide) (fun w h => (List.mem_cons_of_mem _ (List.mem_append_left _ (List.mem_append_left _ (List.mem_append_left _ (List.mem_append_right _ h)))))) (List.mem_of_getElem? (i := 1) rfl) rfl rfl dX3_perforateFrom_37 ?_
      refine g_aload_n C 2 rfl dX3_perforateFrom_40 ?_
      refine g_aload_n C 1 rfl dX3_perforateFrom_41 ?_
      refine g_getf C k (by omega) b1 rfl 1 (by decide) (fun w h => (List.mem_cons_of_mem _ (List.mem_append_left _ (List.mem_append_left _ (List.mem_append_left _ (List.mem_append_right _ h)))))) (List.mem_of_getElem? (i := 4) rfl) rfl rfl dX3_perforateFrom_42 ?_
      refine g_callv C (r_V C (st := []) (c_X0_perforate l V (k := k + 1) (kp := kp) (ks := k + 10) (by omega) b2 (by omega) m75 (by omega) b3 (by omega) (by omega) (by omega)) (cwV 2 C.ts gX3_perforateFrom_X0_perforate rfl rfl rfl (by decide +kernel) ⟨(Nat.le_of_ble_eq_true rfl), (Nat.le_of_ble_eq_true rfl)⟩) (by omega) hM76 rfl rfl rfl (Nat.le_of_ble_eq_true rfl) dX3_perforateFrom_45 ⟨(Nat.le_of_ble_eq_true rfl), (Nat.le_of_ble_eq_true rfl)⟩) (fun v hv => ?_)
      obtain ⟨v1, ⟨f2, v2, v4⟩, v3⟩ := hv
      have m84 := (v3 (kp) (by omega) (by omega)).trans m75
      have m85 := (v3 (k) (by omega) (by omega)).trans b1
      obtain ⟨hM86, ⟨g87, hA88, hg89⟩, hp90⟩ := id v1
      obtain ⟨hs91, ha92, hb93⟩ := id v2
      refine g_aload_n C 1 rfl dX3_perforateFrom_48 ?_
      refine g_dup C dX3_perforateFrom_49 rfl ?_
      refine g_getf C k (by omega) m85 rfl 2 (by decide) (fun w h => (List.mem_cons_of_mem _ (List.mem_append_left _ (List.mem_append_left _ (List.mem_append_left _ (List.mem_append_right _ h)))))) (List.mem_of_getElem? (i := 2) rfl) rfl rfl dX3_perforateFrom_50 ?_
      refine g_aload_n C 1 rfl dX3_perforateFrom_53 ?_
      refine g_getf C k (by omega) m85 rfl 1 (by decide) (fun w h => (List.mem_cons_of_mem _ (List.mem_append_left _ (List.mem_append_left _ (List.mem_append_left _ (List.mem_append_right _ h)))))) (List.mem_of_getElem? (i := 4) rfl) rfl rfl dX3_perforateFrom_54 ?_
      refine g_iconst C (v := nI 0) dX3_perforateFrom_57 (by decide) ?_
      refine g_calli C (r_V C (st := [.int (s_tC (upd M 0 x) St We pl t i), .ref (ad k)]) (c_X2_leftWith l V (by omega) hs91 ha92 hb93 0) (cwV 1 C.ts gX3_perforateFrom_X2_leftWith rfl rfl rfl (by decide +kernel) ⟨(Nat.le_of_ble_eq_true rfl), (Nat.le_of_ble_eq_true rfl)⟩) (by omega) hs91 rfl rfl rfl (Nat.le_of_ble_eq_true rfl) dX3_perforateFrom_58 ⟨(Nat.le_of_ble_eq_true rfl), (Nat.le_of_ble_eq_true rfl)⟩) (fun r u hu => ?_)
      subst hu
      refine g_top (s_lw_congr v4 : s_leftWith f2 t 0 = s_leftWith (s_tF (upd M 0 x) St We pl i) t 0) ?_
      refine g_iadd C (v := (s_tC (upd M 0 x) St We pl t i) + (s_leftWith (s_tF (upd M 0 x) St We pl i) t 0)) dX3_perforateFrom_61 rfl ?_
      refine g_putf C k (by omega) m85 rfl 2 (by decide) (fun w h => (List.mem_cons_of_mem _ (List.mem_append_left _ (List.mem_append_left _ (List.mem_append_left _ (List.mem_append_right _ h)))))) tyX3 tyX3_ok nmX3 (List.mem_of_getElem? (i := 2) rfl) rfl rfl rfl rfl (Nat.le_of_ble_eq_true rfl) dX3_perforateFrom_62 (fun el94 e95 o96 => ?_)
      replace e95 : el94 k = .inr (3, [.ref (ad (k + 1)), .ref (ad (k + 10)), .int ((s_tC (upd M 0 x) St We pl t i) + (s_leftWith (s_tF (upd M 0 x) St We pl i) t 0)), .int (s_tV (upd M 0 x) St We pl t i)]) := e95
      have m97 := (o96 kp (by omega)).trans m84
      have m98 := (o96 (k + 1) (by omega)).trans hM86
      have m99 := (o96 (k + 2) (by omega)).trans hA88
      have m100 := (o96 (k + 10) (by omega)).trans hs91
      have m101 := (o96 (k + 11) (by omega)).trans ha92
      have m102 := (o96 (k + 12) (by omega)).trans hb93
      have m103 : ∀ q, q < 7 → el94 (k + 3 + q) = .inr (1, [.int (St q), .int (s_W St (s_rW St We i) 5 q)]) := fun q hq => (o96 (k + 3 + q) (by omega)).trans (hp90 q hq)
      refine g_aload_n C 1 rfl dX3_perforateFrom_65 ?_
      refine g_dup C dX3_perforateFrom_66 rfl ?_
      refine g_getf C k (by omega) e95 rfl 3 (by decide) (fun w h => (List.mem_cons_of_mem _ (List.mem_append_left _ (List.mem_append_left _ (List.mem_append_left _ (List.mem_append_right _ h)))))) (List.mem_of_getElem? (i := 3) rfl) rfl rfl dX3_perforateFrom_67 ?_
      refine g_aload_n C 1 rfl dX3_perforateFrom_70 ?_
      refine g_getf C k (by omega) e95 rfl 1 (by decide) (fun w h => (List.mem_cons_of_mem _ (List.mem_append_left _ (List.mem_append_left _ (List.mem_append_left _ (List.mem_append_right _ h)))))) (List.mem_of_getElem? (i := 4) rfl) rfl rfl dX3_perforateFrom_71 ?_
      refine g_calli C (r_V C (st := [.int (s_tV (upd M 0 x) St We pl t i), .ref (ad k)]) (c_X2_worth l V (by omega) m100 m101 m102) (cwV 0 C.ts gX3_perforateFrom_X2_worth rfl rfl rfl (by decide +kernel) ⟨(Nat.le_of_ble_eq_true rfl), (Nat.le_of_ble_eq_true rfl)⟩) (by omega) m100 rfl rfl rfl (Nat.le_of_ble_eq_true rfl) dX3_perforateFrom_74 ⟨(Nat.le_of_ble_eq_true rfl), (Nat.le_of_ble_eq_true rfl)⟩) (fun r u hu => ?_)
      subst hu
      refine g_top (s_wo_congr v4 : s_worths f2 t = s_worths (s_tF (upd M 0 x) St We pl i) t) ?_
      refine g_iadd C (v := (s_tV (upd M 0 x) St We pl t i) + (s_worths (s_tF (upd M 0 x) St We pl i) t)) dX3_perforateFrom_77 rfl ?_
      refine g_putf C k (by omega) e95 rfl 3 (by decide) (fun w h => (List.mem_cons_of_mem _ (List.mem_append_left _ (List.mem_append_left _ (List.mem_append_left _ (List.mem_append_right _ h)))))) tyX3 tyX3_ok nmX3 (List.mem_of_getElem? (i := 3) rfl) rfl rfl rfl rfl (Nat.le_of_ble_eq_true rfl) dX3_perforateFrom_78 (fun el104 e105 o106 => ?_)
      replace e105 : el104 k = .inr (3, [.ref (ad (k + 1)), .ref (ad (k + 10)), .int ((s_tC (upd M 0 x) St We pl t i) + (s_leftWith (s_tF (upd M 0 x) St We pl i) t 0)), .int ((s_tV (upd M 0 x) St We pl t i) + (s_worths (s_tF (upd M 0 x) St We pl i) t))]) := e105
      have m107 := (o106 kp (by omega)).trans m97
      have m108 := (o106 (k + 1) (by omega)).trans m98
      have m109 := (o106 (k + 2) (by omega)).trans m99
      have m110 := (o106 (k + 10) (by omega)).trans m100
      have m111 := (o106 (k + 11) (by omega)).trans m101
      have m112 := (o106 (k + 12) (by omega)).trans m102
      have m113 : ∀ q, q < 7 → el104 (k + 3 + q) = .inr (1, [.int (St q), .int (s_W St (s_rW St We i) 5 q)]) := fun q hq => (o106 (k + 3 + q) (by omega)).trans (m103 q hq)
      refine g_iinc C 0 rfl (v := nI (i + 1)) (lv' := [(5, .int (nI (i + 1))), (0, .ref (ad k)), (3, .ref (ad kp)), (4, .int (nI N))]) dX3_perforateFrom_81 (nI_add _ _) (by decide) rfl ?_
      refine g_goto C (tgt := 29) dX3_perforateFrom_84 (by decide) ?_
      refine g_lv [0, 1, 2, 3] (lv' := [(5, .int (nI (i + 1))), (0, .ref (ad k)), (3, .ref (ad kp)), (4, .int (nI N))]) rfl ?_
      exact ih _ ⟨e105, ⟨m108, ⟨_, m109, fun i hi => (hg89 i hi)⟩, m113⟩, ⟨f2, m110, m111, m112⟩, fun j hj => (o106 j (by omega)).trans ((o96 j (by omega)).trans ((v3 j (by omega) (by omega)).trans (a4 j hj)))⟩

set_option maxHeartbeats 4000000 in
set_option maxRecDepth 100000 in
theorem c_X3_answer (l : Launch) (V : gT) {n : Nat} {ad : Nat → Nat} {el : Nat → va_E} {k : Nat} {a b : Int32} {M St We f t : Nat → Int32} (hk : k + 13 ≤ n) (h : TrAt V ad el k a b M St We f t) (x : Int32) : TT l V yX3_answer wsX3_answer { frames := 2, cells := 0, slots := 0, locals := 42 } n ad el [.ref (ad k), .int x] (QIr V n ad el (fun r => r = if x = 0 then a else if x = 1 then b else if x = 2 then s_broken St We else M 2)) 0 0 := by
  refine TT.body (cc := cX3_answer) (maxL := 2) (ret := (some .int)) (by decide) rfl (Nat.le_of_ble_eq_true rfl) ?_
  intro p e s m below meth c C hnm
  refine g_lv [0, 1] (lv' := [(0, .ref (ad k)), (1, .int x)]) rfl ?_
  obtain ⟨ht, hm, hs⟩ := id h
  obtain ⟨hM1, ⟨g2, hA3, hg4⟩, hp5⟩ := id hm
  refine g_iload_n C 1 rfl dX3_answer_0 ?_
  by_cases q0 : x = 0
  · -- case
    refine g_tableIn C (tgt := 28) (off := 27) dX3_answer_1 (by rw [q0]; decide) (by rw [q0]; decide) (by rw [q0]; rfl) (by decide) ?_
    refine g_aload_n C 0 rfl dX3_answer_28 ?_
    refine g_getf C k (by omega) ht rfl 2 (by decide) (fun w h => (List.mem_cons_of_mem _ (List.mem_append_left _ (List.mem_append_left _ (List.mem_append_right _ h))))) (List.mem_of_getElem? (i := 1) rfl) rfl rfl dX3_answer_29 ?_
    exact g_iret C rfl dX3_answer_32 () rfl rfl rfl (by rw [if_pos q0]) (Nat.le_of_ble_eq_true rfl) (Nat.le_of_ble_eq_true rfl)
  by_cases q1 : x = 1
  · -- case
    refine g_tableIn C (tgt := 33) (off := 32) dX3_answer_1 (by rw [q1]; decide) (by rw [q1]; decide) (by rw [q1]; rfl) (by decide) ?_
    refine g_aload_n C 0 rfl dX3_answer_33 ?_
    refine g_getf C k (by omega) ht rfl 3 (by decide) (fun w h => (List.mem_cons_of_mem _ (List.mem_append_left _ (List.mem_append_left _ (List.mem_append_right _ h))))) (List.mem_of_getElem? (i := 2) rfl) rfl rfl dX3_answer_34 ?_
    exact g_iret C rfl dX3_answer_37 () rfl rfl rfl (by rw [if_neg q0, if_pos q1]) (Nat.le_of_ble_eq_true rfl) (Nat.le_of_ble_eq_true rfl)
  by_cases q2 : x = 2
  · -- case
    refine g_tableIn C (tgt := 38) (off := 37) dX3_answer_1 (by rw [q2]; decide) (by rw [q2]; decide) (by rw [q2]; rfl) (by decide) ?_
    refine g_aload_n C 0 rfl dX3_answer_38 ?_
    refine g_getf C k (by omega) ht rfl 0 (by decide) (fun w h => (List.mem_cons_of_mem _ (List.mem_append_left _ (List.mem_append_left _ (List.mem_append_right _ h))))) (List.mem_of_getElem? (i := 3) rfl) rfl rfl dX3_answer_39 ?_
    refine g_calli C (r_V C (st := []) (c_X0_brokenPins l V (by omega) ⟨hM1, ⟨_, hA3, fun i hi => (hg4 i hi)⟩, hp5⟩) (cwV 0 C.ts gX3_answer_X0_brokenPins rfl rfl rfl (by decide +kernel) ⟨(Nat.le_of_ble_eq_true rfl), (Nat.le_of_ble_eq_true rfl)⟩) (by omega) hM1 rfl rfl rfl (Nat.le_of_ble_eq_true rfl) dX3_answer_42 ⟨(Nat.le_of_ble_eq_true rfl), (Nat.le_of_ble_eq_true rfl)⟩) (fun r u hu => ?_)
    subst hu
    exact g_iret C rfl dX3_answer_45 () rfl rfl rfl (by rw [if_neg q0, if_neg q1, if_pos q2]) (Nat.le_of_ble_eq_true rfl) (Nat.le_of_ble_eq_true rfl)
  have qq : x.toInt < 0 ∨ 2 < x.toInt := by
    have z0 : x.toInt ≠ 0 := fun z => q0 (Int32.toInt_inj.mp z)
    have z1 : x.toInt ≠ 1 := fun z => q1 (Int32.toInt_inj.mp z)
    have z2 : x.toInt ≠ 2 := fun z => q2 (Int32.toInt_inj.mp z)
    omega
  refine g_tableOut C (tgt := 46) dX3_answer_1 qq (by decide) ?_
  refine g_aload_n C 0 rfl dX3_answer_46 ?_
  refine g_getf C k (by omega) ht rfl 0 (by decide) (fun w h => (List.mem_cons_of_mem _ (List.mem_append_left _ (List.mem_append_left _ (List.mem_append_right _ h))))) (List.mem_of_getElem? (i := 3) rfl) rfl rfl dX3_answer_47 ?_
  refine g_getfN C (k + 1) (by omega) hM1 rfl 3 (by decide) (fun w h => (List.mem_cons_of_mem _ (List.mem_append_left _ (List.mem_append_right _ h)))) (List.mem_of_getElem? (i := 8) rfl) rfl rfl dX3_answer_50 ?_
  exact g_iret C rfl dX3_answer_53 () rfl rfl rfl (by rw [if_neg q0, if_neg q1, if_neg q2]) (Nat.le_of_ble_eq_true rfl) (Nat.le_of_ble_eq_true rfl)
end
section
/-! ===== the constructors ===== -/
set_option maxHeartbeats 4000000 in
set_option maxRecDepth 100000 in
theorem c_X1_init (l : Launch) (V : gT) {ad : Nat → Nat} {el : Nat → va_E} {n : Nat} {k : Nat} {a b : Int32} (hk : k < n) (he : el k = .inr (1, [.int a, .int b])) : TT l V yX1_init wsX1_init { frames := 1, cells := 0, slots := 0, locals := 24 } n ad el [.ref (ad k)] (QVw V n ad (fun u => u k = .inr (1, [.int 200, .int b]) ∧ ∀ j, j ≠ k → u j = el j)) 0 0 := by
  refine TT.body (cc := cX1_init) (maxL := 1) (ret := none) (by decide) rfl (Nat.le_of_ble_eq_true rfl) ?_
  intro p e s m below meth c C hnm
  refine g_lv [0] (lv' := [(0, .ref (ad k))]) rfl ?_
  refine g_aload_n C 0 rfl dX1_init_0 ?_
  refine g_objInit C (List.mem_of_getElem? (i := 1) rfl) (List.mem_of_getElem? (i := 2) rfl) (List.mem_of_getElem? (i := 3) rfl) (Nat.le_of_ble_eq_true rfl) (Nat.le_of_ble_eq_true rfl) dX1_init_1 ?_
  refine g_aload_n C 0 rfl dX1_init_4 ?_
  refine g_sipush C (v := nI 200) dX1_init_5 (by decide) ?_
  refine g_putf C k (by omega) he rfl 0 (by decide) (fun w h => (List.mem_cons_of_mem _ (List.mem_append_right _ h))) tyX1 tyX1_ok nmX1 (List.mem_of_getElem? (i := 4) rfl) rfl rfl rfl rfl (Nat.le_of_ble_eq_true rfl) dX1_init_8 (fun el1 e2 o3 => ?_)
  replace e2 : el1 k = .inr (1, [.int (nI 200), .int b]) := e2
  exact g_vret C rfl dX1_init_11 el1 rfl rfl rfl ⟨e2, o3⟩ (Nat.le_of_ble_eq_true rfl) (Nat.le_of_ble_eq_true rfl)

set_option maxHeartbeats 4000000 in
set_option maxRecDepth 100000 in
theorem c_X2_init (l : Launch) (V : gT) {ad : Nat → Nat} {el : Nat → va_E} {k : Nat} (he : el k = .inr (2, [.null, .null])) : TT l V yX2_init wsX2_init { frames := 1, cells := 2, slots := 60, locals := 24 } (k + 1) ad el [.ref (ad k)] (QVn V (fun u => u.1 = k + 3 ∧ (∀ j, j < k + 1 → u.2.1 j = ad j) ∧ ShtAt V u.2.1 u.2.2 k (fun _ => 0) (fun _ => 0) ∧ ∀ j, j < k → u.2.2 j = el j)) 2 60 := by
  refine TT.body (cc := cX2_init) (maxL := 1) (ret := none) (by decide) rfl (Nat.le_of_ble_eq_true rfl) ?_
  intro p e s m below meth c C hnm
  refine g_lv [0] (lv' := [(0, .ref (ad k))]) rfl ?_
  refine g_aload_n C 0 rfl dX2_init_0 ?_
  refine g_objInit C (List.mem_of_getElem? (i := 1) rfl) (List.mem_of_getElem? (i := 2) rfl) (List.mem_of_getElem? (i := 3) rfl) (Nat.le_of_ble_eq_true rfl) (Nat.le_of_ble_eq_true rfl) dX2_init_1 ?_
  refine g_aload_n C 0 rfl dX2_init_4 ?_
  refine g_bipush C (v := nI 30) dX2_init_5 (by decide) ?_
  refine g_newa C 0 (List.mem_of_getElem? (i := 4) rfl) (ty := .int) rfl rfl (N := 30) (a0 := (30, .inl (fun _ => 0))) (fun cA => rfl) (by decide) (by decide) (by decide) (Nat.le_of_ble_eq_true rfl) (Nat.le_of_ble_eq_true rfl) dX2_init_7 (fun ad1 el2 ha3 he4 hb5 => ?_)
  refine g_lveq (lv' := [(0, .ref (ad1 k))]) (by rw [ha3 k (by omega)]) ?_
  refine g_steq (st' := .ref (ad1 (k + 1)) :: [.ref (ad1 k)]) (by rw [ha3 k (by omega)]) ?_
  have m6 : el2 k = .inr (2, [.null, .null]) := by rw [hb5 k (by omega), he]
  refine g_putfF C k (by omega) m6 rfl 0 (by decide) (fun w h => (List.mem_cons_of_mem _ (List.mem_append_right _ h))) tyX2 tyX2_ok nmX2 (List.mem_of_getElem? (i := 5) rfl) rfl hnm rfl rfl rfl rfl (Nat.le_of_ble_eq_true rfl) dX2_init_9 (fun el7 e8 o9 => ?_)
  replace e8 : el7 k = .inr (2, [.ref (ad1 (k + 1)), .null]) := e8
  have m10 := (o9 (k + 1) (by omega)).trans he4
  refine g_aload_n C 0 rfl dX2_init_12 ?_
  refine g_bipush C (v := nI 30) dX2_init_13 (by decide) ?_
  refine g_newa C 1 (List.mem_of_getElem? (i := 6) rfl) (ty := .boolean) rfl rfl (N := 30) (a0 := (30, .inl (fun _ => 0))) (fun cA => rfl) (by decide) (by decide) (by decide) (Nat.le_of_ble_eq_true rfl) (Nat.le_of_ble_eq_true rfl) dX2_init_15 (fun ad11 el12 ha13 he14 hb15 => ?_)
  refine g_lveq (lv' := [(0, .ref (ad11 k))]) (by rw [ha13 k (by omega)]) ?_
  refine g_steq (st' := .ref (ad11 (k + 2)) :: [.ref (ad11 k)]) (by rw [ha13 k (by omega)]) ?_
  have m16 := (hb15 (k + 1) (by omega)).trans m10
  have m17 : el12 k = .inr (2, [.ref (ad11 (k + 1)), .null]) := by rw [hb15 k (by omega), e8, ha13 (k + 1) (by omega)]
  refine g_putfF C k (by omega) m17 rfl 1 (by decide) (fun w h => (List.mem_cons_of_mem _ (List.mem_append_right _ h))) tyX2 tyX2_ok nmX2 (List.mem_of_getElem? (i := 7) rfl) rfl hnm rfl rfl rfl rfl (Nat.le_of_ble_eq_true rfl) dX2_init_17 (fun el18 e19 o20 => ?_)
  replace e19 : el18 k = .inr (2, [.ref (ad11 (k + 1)), .ref (ad11 (k + 2))]) := e19
  have m21 := (o20 (k + 1) (by omega)).trans m16
  have m22 := (o20 (k + 2) (by omega)).trans he14
  exact g_vret C rfl dX2_init_20 (k + 3, ad11, el18) rfl rfl rfl ⟨rfl, fun j hj => (ha13 j (by omega)).trans (ha3 j (by omega)), ⟨e19, m21, m22⟩, fun j hj => (o20 j (by omega)).trans ((hb15 j (by omega)).trans ((o9 j (by omega)).trans (hb5 j (by omega))))⟩ (Nat.le_of_ble_eq_true rfl) (Nat.le_of_ble_eq_true rfl)

def s_M0 : Nat → Int32 := fun j => if j = 0 then 20 else if j = 4 then 1 else 0

set_option maxHeartbeats 4000000 in
set_option maxRecDepth 100000 in
theorem c_X0_init (l : Launch) (V : gT) {ad : Nat → Nat} {el : Nat → va_E} {k : Nat} (he : el k = .inr (0, [.null, .int 0, .int 0, .int 0, .int 0, .int 0, .int 0])) : TT l V yX0_init wsX0_init { frames := 2, cells := 8, slots := 21, locals := 44 } (k + 1) ad el [.ref (ad k)] (QVn V (fun u => u.1 = k + 9 ∧ (∀ j, j < k + 1 → u.2.1 j = ad j) ∧ MacAt V u.2.1 u.2.2 k s_M0 (fun _ => 200) (fun _ => 0) ∧ ∀ j, j < k → u.2.2 j = el j)) 8 21 := by
  refine TT.body (cc := cX0_init) (maxL := 2) (ret := none) (by decide) rfl (Nat.le_of_ble_eq_true rfl) ?_
  intro p e s m below meth c C hnm
  refine g_lv [0] (lv' := [(0, .ref (ad k))]) rfl ?_
  refine g_aload_n C 0 rfl dX0_init_0 ?_
  refine g_objInit C (List.mem_of_getElem? (i := 1) rfl) (List.mem_of_getElem? (i := 2) rfl) (List.mem_of_getElem? (i := 3) rfl) (Nat.le_of_ble_eq_true rfl) (Nat.le_of_ble_eq_true rfl) dX0_init_1 ?_
  refine g_aload_n C 0 rfl dX0_init_4 ?_
  refine g_bipush C (v := nI 20) dX0_init_5 (by decide) ?_
  refine g_putf C k (by omega) he rfl 1 (by decide) (fun w h => (List.mem_cons_of_mem _ (List.mem_append_left _ (List.mem_append_right _ h)))) tyX0 tyX0_ok nmX0 (List.mem_of_getElem? (i := 4) rfl) rfl rfl rfl rfl (Nat.le_of_ble_eq_true rfl) dX0_init_7 (fun el1 e2 o3 => ?_)
  replace e2 : el1 k = .inr (0, [.null, .int (nI 20), .int 0, .int 0, .int 0, .int 0, .int 0]) := e2
  refine g_aload_n C 0 rfl dX0_init_10 ?_
  refine g_iconst C (v := nI 1) dX0_init_11 (by decide) ?_
  refine g_putf C k (by omega) e2 rfl 6 (by decide) (fun w h => (List.mem_cons_of_mem _ (List.mem_append_left _ (List.mem_append_right _ h)))) tyX0 tyX0_ok nmX0 (List.mem_of_getElem? (i := 5) rfl) rfl rfl rfl rfl (Nat.le_of_ble_eq_true rfl) dX0_init_12 (fun el4 e5 o6 => ?_)
  replace e5 : el4 k = .inr (0, [.null, .int (nI 20), .int 0, .int 0, .int 0, .int 0, .int (nI 1)]) := e5
  refine g_aload_n C 0 rfl dX0_init_15 ?_
  refine g_bipush C (v := nI 7) dX0_init_16 (by decide) ?_
  refine g_newq C 3 (List.mem_of_getElem? (i := 6) rfl) (List.mem_of_getElem? (i := 0) rfl) rfl (N := 7) (by decide) (by decide) (by decide) (Nat.le_of_ble_eq_true rfl) (Nat.le_of_ble_eq_true rfl) dX0_init_18 (fun ad7 el8 ha9 he10 hb11 => ?_)
  refine g_lveq (lv' := [(0, .ref (ad7 k))]) (by rw [ha9 k (by omega)]) ?_
  refine g_steq (st' := .ref (ad7 (k + 1)) :: [.ref (ad7 k)]) (by rw [ha9 k (by omega)]) ?_
  have m12 : el8 k = .inr (0, [.null, .int (nI 20), .int 0, .int 0, .int 0, .int 0, .int (nI 1)]) := by rw [hb11 k (by omega), e5]
  refine g_putfF C k (by omega) m12 rfl 0 (by decide) (fun w h => (List.mem_cons_of_mem _ (List.mem_append_left _ (List.mem_append_right _ h)))) tyX0 tyX0_ok nmX0 (List.mem_of_getElem? (i := 7) rfl) rfl hnm rfl rfl rfl rfl (Nat.le_of_ble_eq_true rfl) dX0_init_21 (fun el13 e14 o15 => ?_)
  replace e14 : el13 k = .inr (0, [.ref (ad7 (k + 1)), .int (nI 20), .int 0, .int 0, .int 0, .int 0, .int (nI 1)]) := e14
  have m16 := (o15 (k + 1) (by omega)).trans he10
  refine g_iconst C (v := nI 0) dX0_init_24 (by decide) ?_
  refine g_istore_n C (lv' := [(1, .int (nI 0)), (0, .ref (ad7 k))]) dX0_init_25 (by decide) rfl ?_
  refine g_lv [0, 1] (lv' := [(1, .int (nI 0)), (0, .ref (ad7 k))]) rfl ?_
  refine g_forN 7 (fun i => k + 2 + i) (fun i => 1 + i) (fun i => 7 + 2 * i) (fun i a => [(1, .int (nI i)), (0, .ref (a k))]) (fun i a e => (∀ j, j < k + 1 → a j = ad j) ∧ e k = .inr (0, [.ref (a (k + 1)), .int 20, .int 0, .int 0, .int 0, .int 0, .int 1]) ∧ (∃ g : Nat → Option Nat, e (k + 1) = .inl (V.2 3, 7, .inr (.inr (.inr (.inr g)))) ∧ ∀ q, q < i → g q = some (a (k + 2 + q))) ∧ (∀ q, q < i → e (k + 2 + q) = .inr (1, [.int 200, .int 0])) ∧ ∀ j, j < k → e j = el j) ⟨fun j hj => ha9 j (by omega), e14, ⟨_, m16, fun q hq => absurd hq (by omega)⟩, fun q hq => absurd hq (by omega), fun j hj => (o15 j (by omega)).trans ((hb11 j (by omega)).trans ((o6 j (by omega)).trans (o3 j (by omega))))⟩ (fun ad1 el1 h1 => ?_) (fun i ad1 el1 hi h1 ih => ?_)
  all_goals obtain ⟨b1, b2, ⟨g, b3, b4⟩, b5, b6⟩ := id h1
  · -- end
    refine g_iload_n C 0 rfl dX0_init_26 ?_
    refine g_bipush C (v := nI 7) dX0_init_27 (by decide) ?_
    refine g_icmp_ge C (tgt := 51) dX0_init_29 (by decide) (fun c29 => ?_) (fun c29 => ?_)
    · -- 51
      have c29 : 7 ≤ 7 := (nI_leI (by omega) (by omega)).mp c29
      exact g_vret C rfl dX0_init_51 (k + 9, ad1, el1) rfl rfl rfl ⟨rfl, b1, ⟨b2, ⟨g, b3, b4⟩, b5⟩, b6⟩ (Nat.le_of_ble_eq_true rfl) (Nat.le_of_ble_eq_true rfl)
    · -- 32
      have c29 : 7 < 7 := Nat.lt_of_not_le (fun z => c29 ((nI_leI (by omega) (by omega)).mpr z))
      exact absurd c29 (by omega)
  · -- body
    refine g_iload_n C 0 rfl dX0_init_26 ?_
    refine g_bipush C (v := nI 7) dX0_init_27 (by decide) ?_
    refine g_icmp_ge C (tgt := 51) dX0_init_29 (by decide) (fun c29 => ?_) (fun c29 => ?_)
    · -- 51
      have c29 : 7 ≤ i := (nI_leI (by omega) (by omega)).mp c29
      exact absurd c29 (by omega)
    · -- 32
      have c29 : i < 7 := Nat.lt_of_not_le (fun z => c29 ((nI_leI (by omega) (by omega)).mpr z))
      refine g_aload_n C 1 rfl dX0_init_32 ?_
      refine g_getf C k (by omega) b2 rfl 0 (by decide) (fun w h => (List.mem_cons_of_mem _ (List.mem_append_left _ (List.mem_append_right _ h)))) (List.mem_of_getElem? (i := 7) rfl) rfl rfl dX0_init_33 ?_
      refine g_iload_n C 0 rfl dX0_init_36 ?_
      refine g_new C (fun w h => (List.mem_cons_of_mem _ (List.mem_append_right _ h))) tyX1 tyX1_ok (List.mem_of_getElem? (i := 6) rfl) (List.mem_of_getElem? (i := 8) rfl) (List.mem_of_getElem? (i := 9) rfl) (ci := 1) rfl (fs := [.int 0, .int 0]) (by decide) (by show _ ≤ 8; omega) (by show _ ≤ 21; omega) dX0_init_37 (fun ad17 el18 ha19 he20 hb21 => ?_)
      refine g_lveq (lv' := [(1, .int (nI i)), (0, .ref (ad17 k))]) (by rw [ha19 k (by omega)]) ?_
      refine g_steq (st' := .ref (ad17 (k + 2 + i)) :: [.int (nI i), .ref (ad17 (k + 1))]) (by rw [ha19 (k + 1) (by omega)]) ?_
      have m22 : el18 k = .inr (0, [.ref (ad17 (k + 1)), .int 20, .int 0, .int 0, .int 0, .int 0, .int 1]) := by rw [hb21 k (by omega), b2, ha19 (k + 1) (by omega)]
      have m23 := (hb21 (k + 1) (by omega)).trans b3
      refine g_dup C dX0_init_40 rfl ?_
      refine g_callv C (r_IN C (st := [.ref (ad17 (k + 2 + i)), .int (nI i), .ref (ad17 (k + 1))]) (c_X1_init l V (by omega) he20) ⟨va_cnB 0 C.ts gX0_init_X1_init_n24 rfl rfl rfl (C.kx.2.2.2.1 _ (List.mem_of_getElem? (i := 0) rfl)) (C.ts _ (List.mem_of_getElem? (i := 9) rfl)) (by decide +kernel) ⟨(Nat.le_of_ble_eq_true rfl), (Nat.le_of_ble_eq_true rfl)⟩, rfl, C.ts _ (List.mem_of_getElem? (i := 10) rfl)⟩ rfl rfl (Nat.le_of_ble_eq_true rfl) dX0_init_41 ⟨(by show _ ≤ 8; omega), (by show _ ≤ 21; omega)⟩) (fun u hu => ?_)
      have m24 := (hu.2 (k) (by omega)).trans m22
      have m25 := (hu.2 (k + 1) (by omega)).trans m23
      refine g_aast C (k + 1) (by omega) 3 (k + 2 + i) (by omega) hu.1 rfl rfl m25 i rfl (by omega) (by decide) dX0_init_44 (fun el26 e27 o28 => ?_)
      have m29 := (o28 k (by omega)).trans m24
      have m30 := (o28 (k + 2 + i) (by omega)).trans hu.1
      refine g_iinc C 0 rfl (v := nI (i + 1)) (lv' := [(1, .int (nI (i + 1))), (0, .ref (ad17 k))]) dX0_init_45 (nI_add _ _) (by decide) rfl ?_
      refine g_goto C (tgt := 26) dX0_init_48 (by decide) ?_
      refine g_lv [0, 1] (lv' := [(1, .int (nI (i + 1))), (0, .ref (ad17 k))]) rfl ?_
      exact ih ad17 el26 ⟨fun j hj => (ha19 j (by omega)).trans (b1 j hj), m29, ⟨_, e27, fun q hq => by
          by_cases e : q = i
          · subst e; rw [va_up_self]
          · rw [va_up_ne _ _ e, b4 q (by omega), ha19 _ (by omega)]⟩, fun q hq => by
          by_cases e : q = i
          · subst e; exact m30
          · exact (o28 _ (by omega)).trans ((hu.2 _ (by omega)).trans ((hb21 _ (by omega)).trans (b5 q (by omega)))), fun j hj => (o28 _ (by omega)).trans ((hu.2 _ (by omega)).trans ((hb21 _ (by omega)).trans (b6 j hj)))⟩
end
section
/-! ===== the constructors of the trial and of the class ===== -/
set_option maxHeartbeats 4000000 in
set_option maxRecDepth 100000 in
theorem c_X3_init (l : Launch) (V : gT) {ad : Nat → Nat} {el : Nat → va_E} {k : Nat} (he : el k = .inr (3, [.null, .null, .int 0, .int 0])) : TT l V yX3_init wsX3_init { frames := 3, cells := 12, slots := 90, locals := 65 } (k + 1) ad el [.ref (ad k)] (QVn V (fun u => u.1 = k + 13 ∧ (∀ j, j < k + 1 → u.2.1 j = ad j) ∧ TrAt V u.2.1 u.2.2 k 0 0 s_M0 (fun _ => 200) (fun _ => 0) (fun _ => 0) (fun _ => 0) ∧ ∀ j, j < k → u.2.2 j = el j)) 12 90 := by
  refine TT.body (cc := cX3_init) (maxL := 1) (ret := none) (by decide) rfl (Nat.le_of_ble_eq_true rfl) ?_
  intro p e s m below meth c C hnm
  refine g_lv [0] (lv' := [(0, .ref (ad k))]) rfl ?_
  refine g_aload_n C 0 rfl dX3_init_0 ?_
  refine g_objInit C (List.mem_of_getElem? (i := 1) rfl) (List.mem_of_getElem? (i := 2) rfl) (List.mem_of_getElem? (i := 3) rfl) (Nat.le_of_ble_eq_true rfl) (Nat.le_of_ble_eq_true rfl) dX3_init_1 ?_
  refine g_aload_n C 0 rfl dX3_init_4 ?_
  refine g_new C (fun w h => (List.mem_cons_of_mem _ (List.mem_append_left _ (List.mem_append_left _ (List.mem_append_left _ (List.mem_append_right _ h)))))) tyX0 tyX0_ok (List.mem_of_getElem? (i := 4) rfl) (List.mem_of_getElem? (i := 5) rfl) (List.mem_of_getElem? (i := 6) rfl) (ci := 0) rfl (fs := [.null, .int 0, .int 0, .int 0, .int 0, .int 0, .int 0]) (by decide) (Nat.le_of_ble_eq_true rfl) (Nat.le_of_ble_eq_true rfl) dX3_init_5 (fun ad1 el2 ha3 he4 hb5 => ?_)
  refine g_lveq (lv' := [(0, .ref (ad1 k))]) (by rw [ha3 k (by omega)]) ?_
  refine g_steq (st' := .ref (ad1 (k + 1)) :: [.ref (ad1 k)]) (by rw [ha3 k (by omega)]) ?_
  have m6 : el2 k = .inr (3, [.null, .null, .int 0, .int 0]) := by rw [hb5 k (by omega), he]
  refine g_dup C dX3_init_8 rfl ?_
  refine g_callv C (r_I C (st := [.ref (ad1 (k + 1)), .ref (ad1 k)]) (c_X0_init l V (k := k + 1) he4) (cwI 0 C.ts gX3_init_X0_init rfl rfl rfl (C.ts _ (List.mem_of_getElem? (i := 6) rfl)) (C.ts _ (List.mem_of_getElem? (i := 12) rfl)) (C.ts _ (List.mem_of_getElem? (i := 13) rfl)) rfl (by decide +kernel) ⟨(Nat.le_of_ble_eq_true rfl), (Nat.le_of_ble_eq_true rfl)⟩) rfl rfl (Nat.le_of_ble_eq_true rfl) dX3_init_9 ⟨(Nat.le_of_ble_eq_true rfl), (Nat.le_of_ble_eq_true rfl)⟩) (fun u hu => ?_)
  obtain ⟨n9, ad7, el8⟩ := u
  obtain ⟨q10, q11, q12, q13⟩ := hu
  dsimp only at q10 q11 q12 q13 ⊢
  subst q10
  refine g_lveq (lv' := [(0, .ref (ad7 k))]) (by rw [q11 k (by omega)]) ?_
  refine g_steq (st' := [.ref (ad7 (k + 1)), .ref (ad7 k)]) (by rw [q11 k (by omega), q11 (k + 1) (by omega)]) ?_
  have m14 : el8 k = .inr (3, [.null, .null, .int 0, .int 0]) := by rw [q13 k (by omega), m6]
  refine g_putfF C k (by omega) m14 rfl 0 (by decide) (fun w h => (List.mem_cons_of_mem _ (List.mem_append_left _ (List.mem_append_left _ (List.mem_append_right _ h))))) tyX3 tyX3_ok nmX3 (List.mem_of_getElem? (i := 7) rfl) rfl hnm rfl rfl rfl rfl (Nat.le_of_ble_eq_true rfl) dX3_init_12 (fun el15 e16 o17 => ?_)
  replace e16 : el15 k = .inr (3, [.ref (ad7 (k + 1)), .null, .int 0, .int 0]) := e16
  have P18 := q12.keep (fun j h1 h2 => o17 j (by omega))
  refine g_aload_n C 0 rfl dX3_init_15 ?_
  refine g_new C (fun w h => (List.mem_cons_of_mem _ (List.mem_append_left _ (List.mem_append_right _ h)))) tyX2 tyX2_ok (List.mem_of_getElem? (i := 8) rfl) (List.mem_of_getElem? (i := 9) rfl) (List.mem_of_getElem? (i := 10) rfl) (ci := 2) rfl (fs := [.null, .null]) (by decide) (Nat.le_of_ble_eq_true rfl) (Nat.le_of_ble_eq_true rfl) dX3_init_16 (fun ad19 el20 ha21 he22 hb23 => ?_)
  refine g_lveq (lv' := [(0, .ref (ad19 k))]) (by rw [ha21 k (by omega)]) ?_
  refine g_steq (st' := .ref (ad19 (k + 10)) :: [.ref (ad19 k)]) (by rw [ha21 k (by omega)]) ?_
  have m24 : el20 k = .inr (3, [.ref (ad19 (k + 1)), .null, .int 0, .int 0]) := by rw [hb23 k (by omega), e16, ha21 (k + 1) (by omega)]
  have P25 := (P18.keep (fun j h1 h2 => hb23 j (by omega))).adr (fun j h1 h2 => ha21 j (by omega))
  refine g_dup C dX3_init_19 rfl ?_
  refine g_callv C (r_I C (st := [.ref (ad19 (k + 10)), .ref (ad19 k)]) (c_X2_init l V (k := k + 10) he22) (cwI 0 C.ts gX3_init_X2_init rfl rfl rfl (C.ts _ (List.mem_of_getElem? (i := 10) rfl)) (C.ts _ (List.mem_of_getElem? (i := 26) rfl)) (C.ts _ (List.mem_of_getElem? (i := 27) rfl)) rfl (by decide +kernel) ⟨(Nat.le_of_ble_eq_true rfl), (Nat.le_of_ble_eq_true rfl)⟩) rfl rfl (Nat.le_of_ble_eq_true rfl) dX3_init_20 ⟨(Nat.le_of_ble_eq_true rfl), (Nat.le_of_ble_eq_true rfl)⟩) (fun u hu => ?_)
  obtain ⟨n28, ad26, el27⟩ := u
  obtain ⟨q29, q30, q31, q32⟩ := hu
  dsimp only at q29 q30 q31 q32 ⊢
  subst q29
  refine g_lveq (lv' := [(0, .ref (ad26 k))]) (by rw [q30 k (by omega)]) ?_
  refine g_steq (st' := [.ref (ad26 (k + 10)), .ref (ad26 k)]) (by rw [q30 k (by omega), q30 (k + 10) (by omega)]) ?_
  have m33 : el27 k = .inr (3, [.ref (ad26 (k + 1)), .null, .int 0, .int 0]) := by rw [q32 k (by omega), m24, q30 (k + 1) (by omega)]
  have P34 := (P25.keep (fun j h1 h2 => q32 j (by omega))).adr (fun j h1 h2 => q30 j (by omega))
  refine g_putfF C k (by omega) m33 rfl 1 (by decide) (fun w h => (List.mem_cons_of_mem _ (List.mem_append_left _ (List.mem_append_left _ (List.mem_append_right _ h))))) tyX3 tyX3_ok nmX3 (List.mem_of_getElem? (i := 11) rfl) rfl hnm rfl rfl rfl rfl (Nat.le_of_ble_eq_true rfl) dX3_init_23 (fun el35 e36 o37 => ?_)
  replace e36 : el35 k = .inr (3, [.ref (ad26 (k + 1)), .ref (ad26 (k + 10)), .int 0, .int 0]) := e36
  have P38 := P34.keep (fun j h1 h2 => o37 j (by omega))
  have P39 := q31.keep (fun j h1 h2 => o37 j (by omega))
  exact g_vret C rfl dX3_init_26 (k + 13, ad26, el35) rfl rfl rfl ⟨rfl, fun j hj => (q30 j (by omega)).trans ((ha21 j (by omega)).trans ((q11 j (by omega)).trans (ha3 j (by omega)))), ⟨e36, P38, P39⟩, fun j hj => (o37 j (by omega)).trans ((q32 j (by omega)).trans ((hb23 j (by omega)).trans ((o17 j (by omega)).trans ((q13 j (by omega)).trans (hb5 j (by omega))))))⟩ (Nat.le_of_ble_eq_true rfl) (Nat.le_of_ble_eq_true rfl)

/-- the class: its 85 cells from place 0 on -/
def X4At (V : gT) (ad : Nat → Nat) (el : Nat → va_E) (cnt : Nat) (M St We pl : Nat → Int32) (F T : Nat → Nat → Int32) : Prop :=
  el 0 = .inr (4, [.ref (ad 1), .ref (ad 10), .ref (ad 23), .ref (ad 24), .int (nI cnt)]) ∧ MacAt V ad el 1 M St We ∧ (∃ (a b : Int32) (M0 St0 We0 f : Nat → Int32), TrAt V ad el 10 a b M0 St0 We0 f (fun _ => 0)) ∧ el 23 = .inl (V.2 1, 30, .inl pl) ∧ (∃ g : Nat → Option Nat, el 24 = .inl (V.2 4, 20, .inr (.inr (.inr (.inr g)))) ∧ ∀ i, i < 20 → g i = some (ad (25 + 3 * i))) ∧ ∀ i, i < 20 → ShtAt V ad el (25 + 3 * i) (F i) (T i)
theorem X4At.keep {V : gT} {ad : Nat → Nat} {el el' : Nat → va_E} {cnt : Nat} {M St We pl : Nat → Int32} {F T : Nat → Nat → Int32} (h : X4At V ad el cnt M St We pl F T) (ho : ∀ j, j < 85 → el' j = el j) : X4At V ad el' cnt M St We pl F T := by
  obtain ⟨h1, h2, ⟨a, b, M0, St0, We0, f, h3⟩, h4, ⟨g, h5, h6⟩, h7⟩ := h
  exact ⟨(ho _ (by omega)).trans h1, h2.keep (fun j _ _ => ho j (by omega)), ⟨a, b, M0, St0, We0, f, h3.keep (fun j _ _ => ho j (by omega))⟩, (ho _ (by omega)).trans h4, ⟨g, (ho _ (by omega)).trans h5, h6⟩, fun i hi => (h7 i hi).keep (fun j _ _ => ho j (by omega))⟩
theorem X4At.adr {V : gT} {ad ad' : Nat → Nat} {el : Nat → va_E} {cnt : Nat} {M St We pl : Nat → Int32} {F T : Nat → Nat → Int32} (h : X4At V ad el cnt M St We pl F T) (ho : ∀ j, j < 85 → ad' j = ad j) : X4At V ad' el cnt M St We pl F T := by
  obtain ⟨h1, h2, ⟨a, b, M0, St0, We0, f, h3⟩, h4, ⟨g, h5, h6⟩, h7⟩ := h
  exact ⟨by rw [h1, ho 1 (by omega), ho 10 (by omega), ho 23 (by omega), ho 24 (by omega)], h2.adr (fun j _ _ => ho j (by omega)), ⟨a, b, M0, St0, We0, f, h3.adr (fun j _ _ => ho j (by omega))⟩, h4, ⟨g, h5, fun i hi => by rw [h6 i hi, ho _ (by omega)]⟩, fun i hi => (h7 i hi).adr (fun j _ _ => ho j (by omega))⟩

set_option maxHeartbeats 4000000 in
set_option maxRecDepth 100000 in
theorem c_X4_init (l : Launch) (V : gT) {ad : Nat → Nat} {el : Nat → va_E} (he : el 0 = .inr (4, [.null, .null, .null, .null, .int 0])) : TT l V yX4_init wsX4_init { frames := 4, cells := 84, slots := 1412, locals := 85 } 1 ad el [.ref (ad 0)] (QVn V (fun u => u.1 = 85 ∧ (∀ j, j < 1 → u.2.1 j = ad j) ∧ X4At V u.2.1 u.2.2 0 s_M0 (fun _ => 200) (fun _ => 0) (fun _ => 0) (fun _ _ => 0) (fun _ _ => 0))) 84 1412 := by
  refine TT.body (cc := cX4_init) (maxL := 2) (ret := none) (by decide) rfl (Nat.le_of_ble_eq_true rfl) ?_
  intro p e s m below meth c C hnm
  refine g_lv [0] (lv' := [(0, .ref (ad 0))]) rfl ?_
  refine g_aload_n C 0 rfl dX4_init_0 ?_
  refine g_objInit C (List.mem_of_getElem? (i := 1) rfl) (List.mem_of_getElem? (i := 2) rfl) (List.mem_of_getElem? (i := 3) rfl) (Nat.le_of_ble_eq_true rfl) (Nat.le_of_ble_eq_true rfl) dX4_init_1 ?_
  refine g_aload_n C 0 rfl dX4_init_4 ?_
  refine g_new C (fun w h => (List.mem_cons_of_mem _ (List.mem_append_left _ (List.mem_append_left _ (List.mem_append_left _ (List.mem_append_left _ (List.mem_append_right _ h))))))) tyX0 tyX0_ok (List.mem_of_getElem? (i := 4) rfl) (List.mem_of_getElem? (i := 5) rfl) (List.mem_of_getElem? (i := 6) rfl) (ci := 0) rfl (fs := [.null, .int 0, .int 0, .int 0, .int 0, .int 0, .int 0]) (by decide) (Nat.le_of_ble_eq_true rfl) (Nat.le_of_ble_eq_true rfl) dX4_init_5 (fun ad1 el2 ha3 he4 hb5 => ?_)
  refine g_lveq (lv' := [(0, .ref (ad1 0))]) (by rw [ha3 0 (by omega)]) ?_
  refine g_steq (st' := .ref (ad1 1) :: [.ref (ad1 0)]) (by rw [ha3 0 (by omega)]) ?_
  have m6 : el2 0 = .inr (4, [.null, .null, .null, .null, .int 0]) := by rw [hb5 0 (by omega), he]
  refine g_dup C dX4_init_8 rfl ?_
  refine g_callv C (r_I C (st := [.ref (ad1 1), .ref (ad1 0)]) (c_X0_init l V (k := 1) he4) (cwI 0 C.ts gX4_init_X0_init rfl rfl rfl (C.ts _ (List.mem_of_getElem? (i := 6) rfl)) (C.ts _ (List.mem_of_getElem? (i := 18) rfl)) (C.ts _ (List.mem_of_getElem? (i := 19) rfl)) rfl (by decide +kernel) ⟨(Nat.le_of_ble_eq_true rfl), (Nat.le_of_ble_eq_true rfl)⟩) rfl rfl (Nat.le_of_ble_eq_true rfl) dX4_init_9 ⟨(Nat.le_of_ble_eq_true rfl), (Nat.le_of_ble_eq_true rfl)⟩) (fun u hu => ?_)
  obtain ⟨n9, ad7, el8⟩ := u
  obtain ⟨q10, q11, q12, q13⟩ := hu
  dsimp only at q10 q11 q12 q13 ⊢
  subst q10
  refine g_lveq (lv' := [(0, .ref (ad7 0))]) (by rw [q11 0 (by omega)]) ?_
  refine g_steq (st' := [.ref (ad7 1), .ref (ad7 0)]) (by rw [q11 0 (by omega), q11 1 (by omega)]) ?_
  have m14 : el8 0 = .inr (4, [.null, .null, .null, .null, .int 0]) := by rw [q13 0 (by omega), m6]
  refine g_putfF C 0 (by omega) m14 rfl 0 (by decide) (fun w h => (List.mem_cons_of_mem _ (List.mem_append_left _ (List.mem_append_left _ (List.mem_append_left _ (List.mem_append_right _ h)))))) tyX4 tyX4_ok nmX4 (List.mem_of_getElem? (i := 7) rfl) rfl hnm rfl rfl rfl rfl (Nat.le_of_ble_eq_true rfl) dX4_init_12 (fun el15 e16 o17 => ?_)
  replace e16 : el15 0 = .inr (4, [.ref (ad7 1), .null, .null, .null, .int 0]) := e16
  have P18 := q12.keep (fun j h1 h2 => o17 j (by omega))
  refine g_aload_n C 0 rfl dX4_init_15 ?_
  refine g_new C (fun w h => (List.mem_cons_of_mem _ (List.mem_append_left _ (List.mem_append_left _ (List.mem_append_right _ h))))) tyX3 tyX3_ok (List.mem_of_getElem? (i := 8) rfl) (List.mem_of_getElem? (i := 9) rfl) (List.mem_of_getElem? (i := 10) rfl) (ci := 3) rfl (fs := [.null, .null, .int 0, .int 0]) (by decide) (Nat.le_of_ble_eq_true rfl) (Nat.le_of_ble_eq_true rfl) dX4_init_16 (fun ad19 el20 ha21 he22 hb23 => ?_)
  refine g_lveq (lv' := [(0, .ref (ad19 0))]) (by rw [ha21 0 (by omega)]) ?_
  refine g_steq (st' := .ref (ad19 10) :: [.ref (ad19 0)]) (by rw [ha21 0 (by omega)]) ?_
  have m24 : el20 0 = .inr (4, [.ref (ad19 1), .null, .null, .null, .int 0]) := by rw [hb23 0 (by omega), e16, ha21 1 (by omega)]
  have P25 := (P18.keep (fun j h1 h2 => hb23 j (by omega))).adr (fun j h1 h2 => ha21 j (by omega))
  refine g_dup C dX4_init_19 rfl ?_
  refine g_callv C (r_I C (st := [.ref (ad19 10), .ref (ad19 0)]) (c_X3_init l V (k := 10) he22) (cwI 0 C.ts gX4_init_X3_init rfl rfl rfl (C.ts _ (List.mem_of_getElem? (i := 10) rfl)) (C.ts _ (List.mem_of_getElem? (i := 32) rfl)) (C.ts _ (List.mem_of_getElem? (i := 33) rfl)) rfl (by decide +kernel) ⟨(Nat.le_of_ble_eq_true rfl), (Nat.le_of_ble_eq_true rfl)⟩) rfl rfl (Nat.le_of_ble_eq_true rfl) dX4_init_20 ⟨(Nat.le_of_ble_eq_true rfl), (Nat.le_of_ble_eq_true rfl)⟩) (fun u hu => ?_)
  obtain ⟨n28, ad26, el27⟩ := u
  obtain ⟨q29, q30, q31, q32⟩ := hu
  dsimp only at q29 q30 q31 q32 ⊢
  subst q29
  refine g_lveq (lv' := [(0, .ref (ad26 0))]) (by rw [q30 0 (by omega)]) ?_
  refine g_steq (st' := [.ref (ad26 10), .ref (ad26 0)]) (by rw [q30 0 (by omega), q30 10 (by omega)]) ?_
  have m33 : el27 0 = .inr (4, [.ref (ad26 1), .null, .null, .null, .int 0]) := by rw [q32 0 (by omega), m24, q30 1 (by omega)]
  have P34 := (P25.keep (fun j h1 h2 => q32 j (by omega))).adr (fun j h1 h2 => q30 j (by omega))
  refine g_putfF C 0 (by omega) m33 rfl 1 (by decide) (fun w h => (List.mem_cons_of_mem _ (List.mem_append_left _ (List.mem_append_left _ (List.mem_append_left _ (List.mem_append_right _ h)))))) tyX4 tyX4_ok nmX4 (List.mem_of_getElem? (i := 11) rfl) rfl hnm rfl rfl rfl rfl (Nat.le_of_ble_eq_true rfl) dX4_init_23 (fun el35 e36 o37 => ?_)
  replace e36 : el35 0 = .inr (4, [.ref (ad26 1), .ref (ad26 10), .null, .null, .int 0]) := e36
  have P38 := P34.keep (fun j h1 h2 => o37 j (by omega))
  have P39 := q31.keep (fun j h1 h2 => o37 j (by omega))
  refine g_aload_n C 0 rfl dX4_init_26 ?_
  refine g_bipush C (v := nI 30) dX4_init_27 (by decide) ?_
  refine g_newa C 1 (List.mem_of_getElem? (i := 12) rfl) (ty := .boolean) rfl rfl (N := 30) (a0 := (30, .inl (fun _ => 0))) (fun cA => rfl) (by decide) (by decide) (by decide) (Nat.le_of_ble_eq_true rfl) (Nat.le_of_ble_eq_true rfl) dX4_init_29 (fun ad40 el41 ha42 he43 hb44 => ?_)
  refine g_lveq (lv' := [(0, .ref (ad40 0))]) (by rw [ha42 0 (by omega)]) ?_
  refine g_steq (st' := .ref (ad40 23) :: [.ref (ad40 0)]) (by rw [ha42 0 (by omega)]) ?_
  have m45 : el41 0 = .inr (4, [.ref (ad40 1), .ref (ad40 10), .null, .null, .int 0]) := by rw [hb44 0 (by omega), e36, ha42 1 (by omega), ha42 10 (by omega)]
  have P46 := (P38.keep (fun j h1 h2 => hb44 j (by omega))).adr (fun j h1 h2 => ha42 j (by omega))
  have P47 := (P39.keep (fun j h1 h2 => hb44 j (by omega))).adr (fun j h1 h2 => ha42 j (by omega))
  refine g_putfF C 0 (by omega) m45 rfl 2 (by decide) (fun w h => (List.mem_cons_of_mem _ (List.mem_append_left _ (List.mem_append_left _ (List.mem_append_left _ (List.mem_append_right _ h)))))) tyX4 tyX4_ok nmX4 (List.mem_of_getElem? (i := 13) rfl) rfl hnm rfl rfl rfl rfl (Nat.le_of_ble_eq_true rfl) dX4_init_31 (fun el48 e49 o50 => ?_)
  replace e49 : el48 0 = .inr (4, [.ref (ad40 1), .ref (ad40 10), .ref (ad40 23), .null, .int 0]) := e49
  have m51 := (o50 23 (by omega)).trans he43
  have P52 := P46.keep (fun j h1 h2 => o50 j (by omega))
  have P53 := P47.keep (fun j h1 h2 => o50 j (by omega))
  refine g_aload_n C 0 rfl dX4_init_34 ?_
  refine g_bipush C (v := nI 20) dX4_init_35 (by decide) ?_
  refine g_newq C 4 (List.mem_of_getElem? (i := 14) rfl) (List.mem_of_getElem? (i := 1) rfl) rfl (N := 20) (by decide) (by decide) (by decide) (Nat.le_of_ble_eq_true rfl) (Nat.le_of_ble_eq_true rfl) dX4_init_37 (fun ad54 el55 ha56 he57 hb58 => ?_)
  refine g_lveq (lv' := [(0, .ref (ad54 0))]) (by rw [ha56 0 (by omega)]) ?_
  refine g_steq (st' := .ref (ad54 24) :: [.ref (ad54 0)]) (by rw [ha56 0 (by omega)]) ?_
  have m59 := (hb58 23 (by omega)).trans m51
  have m60 : el55 0 = .inr (4, [.ref (ad54 1), .ref (ad54 10), .ref (ad54 23), .null, .int 0]) := by rw [hb58 0 (by omega), e49, ha56 1 (by omega), ha56 10 (by omega), ha56 23 (by omega)]
  have P61 := (P52.keep (fun j h1 h2 => hb58 j (by omega))).adr (fun j h1 h2 => ha56 j (by omega))
  have P62 := (P53.keep (fun j h1 h2 => hb58 j (by omega))).adr (fun j h1 h2 => ha56 j (by omega))
  refine g_putfF C 0 (by omega) m60 rfl 3 (by decide) (fun w h => (List.mem_cons_of_mem _ (List.mem_append_left _ (List.mem_append_left _ (List.mem_append_left _ (List.mem_append_right _ h)))))) tyX4 tyX4_ok nmX4 (List.mem_of_getElem? (i := 15) rfl) rfl hnm rfl rfl rfl rfl (Nat.le_of_ble_eq_true rfl) dX4_init_40 (fun el63 e64 o65 => ?_)
  replace e64 : el63 0 = .inr (4, [.ref (ad54 1), .ref (ad54 10), .ref (ad54 23), .ref (ad54 24), .int 0]) := e64
  have m66 := (o65 23 (by omega)).trans m59
  have m67 := (o65 24 (by omega)).trans he57
  have P68 := P61.keep (fun j h1 h2 => o65 j (by omega))
  have P69 := P62.keep (fun j h1 h2 => o65 j (by omega))
  refine g_iconst C (v := nI 0) dX4_init_43 (by decide) ?_
  refine g_istore_n C (lv' := [(1, .int (nI 0)), (0, .ref (ad54 0))]) dX4_init_44 (by decide) rfl ?_
  refine g_lv [0, 1] (lv' := [(1, .int (nI 0)), (0, .ref (ad54 0))]) rfl ?_
  refine g_forN 20 (fun i => 25 + 3 * i) (fun i => 24 + 3 * i) (fun i => 172 + 62 * i) (fun i a => [(1, .int (nI i)), (0, .ref (a 0))]) (fun i a e => (∀ j, j < 1 → a j = ad j) ∧ e 0 = .inr (4, [.ref (a 1), .ref (a 10), .ref (a 23), .ref (a 24), .int 0]) ∧ (MacAt V a e 1 s_M0 (fun _ => 200) (fun _ => 0) ∧ TrAt V a e 10 0 0 s_M0 (fun _ => 200) (fun _ => 0) (fun _ => 0) (fun _ => 0)) ∧ e 23 = .inl (V.2 1, 30, .inl (fun _ => 0)) ∧ (∃ g : Nat → Option Nat, e 24 = .inl (V.2 4, 20, .inr (.inr (.inr (.inr g)))) ∧ ∀ q, q < i → g q = some (a (25 + 3 * q))) ∧ ∀ q, q < i → ShtAt V a e (25 + 3 * q) (fun _ => 0) (fun _ => 0)) ⟨fun j hj => (ha56 j (by omega)).trans ((ha42 j (by omega)).trans ((q30 j (by omega)).trans ((ha21 j (by omega)).trans ((q11 j (by omega)).trans (ha3 j (by omega)))))), e64, ⟨P68, P69⟩, m66, ⟨_, m67, fun q hq => absurd hq (by omega)⟩, fun q hq => absurd hq (by omega)⟩ (fun ad1 el1 h1 => ?_) (fun i ad1 el1 hi h1 ih => ?_)
  all_goals obtain ⟨b1, b2, ⟨bM, bT⟩, b3, ⟨g, b4, b5⟩, b6⟩ := id h1
  · -- end
    refine g_iload_n C 0 rfl dX4_init_45 ?_
    refine g_bipush C (v := nI 20) dX4_init_46 (by decide) ?_
    refine g_icmp_ge C (tgt := 70) dX4_init_48 (by decide) (fun c48 => ?_) (fun c48 => ?_)
    · -- 70
      have c48 : 20 ≤ 20 := (nI_leI (by omega) (by omega)).mp c48
      exact g_vret C rfl dX4_init_70 (85, ad1, el1) rfl rfl rfl ⟨rfl, b1, b2, bM, ⟨0, 0, _, _, _, _, bT⟩, b3, ⟨g, b4, b5⟩, b6⟩ (Nat.le_of_ble_eq_true rfl) (Nat.le_of_ble_eq_true rfl)
    · -- 51
      have c48 : 20 < 20 := Nat.lt_of_not_le (fun z => c48 ((nI_leI (by omega) (by omega)).mpr z))
      exact absurd c48 (by omega)
  · -- body
    refine g_iload_n C 0 rfl dX4_init_45 ?_
    refine g_bipush C (v := nI 20) dX4_init_46 (by decide) ?_
    refine g_icmp_ge C (tgt := 70) dX4_init_48 (by decide) (fun c48 => ?_) (fun c48 => ?_)
    · -- 70
      have c48 : 20 ≤ i := (nI_leI (by omega) (by omega)).mp c48
      exact absurd c48 (by omega)
    · -- 51
      have c48 : i < 20 := Nat.lt_of_not_le (fun z => c48 ((nI_leI (by omega) (by omega)).mpr z))
      refine g_aload_n C 1 rfl dX4_init_51 ?_
      refine g_getf C 0 (by omega) b2 rfl 3 (by decide) (fun w h => (List.mem_cons_of_mem _ (List.mem_append_left _ (List.mem_append_left _ (List.mem_append_left _ (List.mem_append_right _ h)))))) (List.mem_of_getElem? (i := 15) rfl) rfl rfl dX4_init_52 ?_
      refine g_iload_n C 0 rfl dX4_init_55 ?_
      refine g_new C (fun w h => (List.mem_cons_of_mem _ (List.mem_append_left _ (List.mem_append_right _ h)))) tyX2 tyX2_ok (List.mem_of_getElem? (i := 14) rfl) (List.mem_of_getElem? (i := 16) rfl) (List.mem_of_getElem? (i := 17) rfl) (ci := 2) rfl (fs := [.null, .null]) (by decide) (by show _ ≤ 84; omega) (by show _ ≤ 1412; omega) dX4_init_56 (fun ad70 el71 ha72 he73 hb74 => ?_)
      refine g_lveq (lv' := [(1, .int (nI i)), (0, .ref (ad70 0))]) (by rw [ha72 0 (by omega)]) ?_
      refine g_steq (st' := .ref (ad70 (25 + 3 * i)) :: [.int (nI i), .ref (ad70 24)]) (by rw [ha72 24 (by omega)]) ?_
      have m75 : el71 0 = .inr (4, [.ref (ad70 1), .ref (ad70 10), .ref (ad70 23), .ref (ad70 24), .int 0]) := by rw [hb74 0 (by omega), b2, ha72 1 (by omega), ha72 10 (by omega), ha72 23 (by omega), ha72 24 (by omega)]
      have m76 := (hb74 23 (by omega)).trans b3
      have m77 := (hb74 24 (by omega)).trans b4
      have P78 := (bM.keep (fun j h1 h2 => hb74 j (by omega))).adr (fun j h1 h2 => ha72 j (by omega))
      have P79 := (bT.keep (fun j h1 h2 => hb74 j (by omega))).adr (fun j h1 h2 => ha72 j (by omega))
      refine g_dup C dX4_init_59 rfl ?_
      refine g_callv C (r_I C (st := [.ref (ad70 (25 + 3 * i)), .int (nI i), .ref (ad70 24)]) (c_X2_init l V (k := 25 + 3 * i) he73) (cwI 0 C.ts gX4_init_X2_init rfl rfl rfl (C.ts _ (List.mem_of_getElem? (i := 17) rfl)) (C.ts _ (List.mem_of_getElem? (i := 48) rfl)) (C.ts _ (List.mem_of_getElem? (i := 42) rfl)) rfl (by decide +kernel) ⟨(Nat.le_of_ble_eq_true rfl), (Nat.le_of_ble_eq_true rfl)⟩) rfl rfl (Nat.le_of_ble_eq_true rfl) dX4_init_60 ⟨(by show _ ≤ 84; omega), (by show _ ≤ 1412; omega)⟩) (fun u hu => ?_)
      obtain ⟨n82, ad80, el81⟩ := u
      obtain ⟨q83, q84, q85, q86⟩ := hu
      dsimp only at q83 q84 q85 q86 ⊢
      subst q83
      refine g_lveq (lv' := [(1, .int (nI i)), (0, .ref (ad80 0))]) (by rw [q84 0 (by omega)]) ?_
      refine g_steq (st' := [.ref (ad80 (25 + 3 * i)), .int (nI i), .ref (ad80 24)]) (by rw [q84 24 (by omega), q84 (25 + 3 * i) (by omega)]) ?_
      have m87 : el81 0 = .inr (4, [.ref (ad80 1), .ref (ad80 10), .ref (ad80 23), .ref (ad80 24), .int 0]) := by rw [q86 0 (by omega), m75, q84 1 (by omega), q84 10 (by omega), q84 23 (by omega), q84 24 (by omega)]
      have m88 := (q86 23 (by omega)).trans m76
      have m89 := (q86 24 (by omega)).trans m77
      have P90 := (P78.keep (fun j h1 h2 => q86 j (by omega))).adr (fun j h1 h2 => q84 j (by omega))
      have P91 := (P79.keep (fun j h1 h2 => q86 j (by omega))).adr (fun j h1 h2 => q84 j (by omega))
      refine g_aast C 24 (by omega) 4 (25 + 3 * i) (by omega) q85.1 rfl rfl m89 i rfl (by omega) (by decide) dX4_init_63 (fun el92 e93 o94 => ?_)
      have m95 := (o94 0 (by omega)).trans m87
      have m96 := (o94 23 (by omega)).trans m88
      have P97 := P90.keep (fun j h1 h2 => o94 j (by omega))
      have P98 := P91.keep (fun j h1 h2 => o94 j (by omega))
      have P99 := q85.keep (fun j h1 h2 => o94 j (by omega))
      refine g_iinc C 0 rfl (v := nI (i + 1)) (lv' := [(1, .int (nI (i + 1))), (0, .ref (ad80 0))]) dX4_init_64 (nI_add _ _) (by decide) rfl ?_
      refine g_goto C (tgt := 45) dX4_init_67 (by decide) ?_
      refine g_lv [0, 1] (lv' := [(1, .int (nI (i + 1))), (0, .ref (ad80 0))]) rfl ?_
      exact ih ad80 el92 ⟨fun j hj => (q84 j (by omega)).trans ((ha72 j (by omega)).trans (b1 j hj)), m95, ⟨P97, P98⟩, m96, ⟨_, e93, fun q hq => by
          by_cases e : q = i
          · subst e; rw [va_up_self]
          · rw [va_up_ne _ _ e, b5 q (by omega), q84 _ (by omega), ha72 _ (by omega)]⟩, fun q hq => by
          by_cases e : q = i
          · subst e; exact P99
          · exact (((((b6 q (by omega)).keep (fun j h1 h2 => hb74 j (by omega))).adr (fun j h1 h2 => ha72 j (by omega))).keep (fun j h1 h2 => q86 j (by omega))).adr (fun j h1 h2 => q84 j (by omega))).keep (fun j h1 h2 => o94 j (by omega))⟩
end
